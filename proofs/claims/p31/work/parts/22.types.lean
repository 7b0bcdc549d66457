/-! Types and faults alike. -/
/-- the parts of expressions come before them; results are expressions -/
def Wx (n m : Nat) (σ : xS) : Prop := n ≤ 50 ∧ m ≤ 16 ∧ σ 205 0 = nI n ∧ σ 204 0 = nI m ∧ (∀ k, k < n → ∀ r, r ∈ [55, 57, 59] → σ r k = -1 ∨ ∃ j, j < k ∧ σ r k = nI j) ∧ (∀ k, k < n → (σ 49 k = 0 ∨ σ 49 k = 1 ∨ σ 49 k = 2 ∨ σ 49 k = 3) ∨ ((σ 49 k = 4 ∨ σ 49 k = 5) ∧ ¬ σ 55 k = -1)) ∧ (∀ k, k < m → ∃ j, j < n ∧ σ 68 k = nI j)
theorem Wx.of {n m : Nat} {σ σ' : xS} (h : Wx n m σ) (h1 : Eqc σ' σ) : Wx n m σ' := by
  obtain ⟨a1, a2, a3, a4, a5, a6, a7⟩ := h
  have e : ∀ r, r ∈ [49, 55, 57, 59, 68] → σ' r = σ r := fun r hr => h1 r ((by decide : ∀ r, r ∈ [49, 55, 57, 59, 68] → kpR r) r hr)
  refine ⟨a1, a2, by rw [h1 205 (by decide)]; exact a3, by rw [h1 204 (by decide)]; exact a4, fun k hk r hr => ?_, fun k hk => ?_, fun k hk => ?_⟩
  · rw [e r ((by decide : ∀ r, r ∈ [55, 57, 59] → r ∈ [49, 55, 57, 59, 68]) r hr)]; exact a5 k hk r hr
  · rw [e 49 (by decide), e 55 (by decide)]; exact a6 k hk
  · rw [e 68 (by decide)]; exact a7 k hk
def Tk (c d k : Nat) (σ τ : xS) : Prop := Vk c d σ τ ∧ (∀ e, e < k → σ 79 e = τ 79 e) ∧ ∀ e, e < k → σ 81 (50 * c + e) = τ 81 (50 * d + e)
section TY
variable {c d k : Nat} {σ τ : xS}
theorem Tk.ty (T : Tk c d k σ τ) (hc : c < 16) (hd : d < 16) (hk : k ≤ 50) {j : Nat} (hj : j < k) : tyH σ (nI j) = tyH τ (nI j) := by
  rw [tyH_n T.1.c1 hc (by omega), tyH_n T.1.c2 hd (by omega)]; exact T.2.2 j hj
theorem Tk.hT (T : Tk c d k σ τ) (hc : c < 16) (hd : d < 16) (hk : k ≤ 50) {x : Int32} (hx : x = -1 ∨ ∃ j, j < k ∧ x = nI j) : hTN σ x = hTN τ x := by
  unfold hTN
  rcases hx with rfl | ⟨j, hj, rfl⟩
  · rw [decide_eq_true (rfl : (-1 : Int32) = -1), Bool.true_or, Bool.true_or]
  · rw [T.ty hc hd hk hj]
theorem Tk.ar (T : Tk c d k σ τ) (hc : c < 16) (hd : d < 16) (hk : k ≤ 50) {x : Int32} (hx : x = -1 ∨ ∃ j, j < k ∧ x = nI j) (q : Int32) : argF σ x q = argF τ x q := by
  unfold argF
  rcases hx with rfl | ⟨j, hj, rfl⟩
  · rw [if_pos rfl, if_pos rfl]
  · rw [T.ty hc hd hk hj, T.1.fit]
theorem gt_al (T : Tk c d k σ τ) (hc : c < 16) (hd : d < 16) (hk : k < 50) (hp : ∀ r, r ∈ [55, 57, 59] → σ r k = -1 ∨ ∃ j, j < k ∧ σ r k = nI j) (ho : (σ 49 k = 0 ∨ σ 49 k = 1 ∨ σ 49 k = 2 ∨ σ 49 k = 3) ∨ ((σ 49 k = 4 ∨ σ 49 k = 5) ∧ ¬ σ 55 k = -1)) : gtF σ (nI k) = gtF τ (nI k) ∧ gtT σ (nI k) = gtT τ (nI k) := by
  have v := T.1
  have a : ∀ r, vAt 50 (σ r) (nI k) = σ r k := fun r => vAt_n hk (by decide)
  have p55 := hp 55 (by decide)
  have p57 := hp 57 (by decide)
  have p59 := hp 59 (by decide)
  have s49 := v.s 49 (by decide)
  have s51 := v.s 51 (by decide)
  have s53 := v.s 53 (by decide)
  have s55 := v.s 55 (by decide)
  have s57 := v.s 57 (by decide)
  have s59 := v.s 59 (by decide)
  have hPe : hPT σ (nI k) = hPT τ (nI k) := by
    unfold hPT
    rw [← s55, ← s57, ← s59, a, a, a, T.hT hc hd (by omega) p55, T.hT hc hd (by omega) p57, T.hT hc hd (by omega) p59]
  have hAr : ∀ x, argsF σ (nI k) x = argsF τ (nI k) x := fun x => by
    unfold argsF
    rw [← s57, ← s59, a, a, T.ar hc hd (by omega) p57, T.ar hc hd (by omega) p59, v.par]
  have hFF : fndF σ (nI k) = fndF τ (nI k) ∧ faT σ (nI k) = faT τ (nI k) := by
    rcases ho with h | ⟨h, hn⟩
    · have h45 : ¬ σ 49 k = 4 ∧ ¬ σ 49 k = 5 := by
        rcases h with h | h | h | h <;> rw [h] <;> decide
      refine ⟨?_, ?_⟩
      · unfold fndF
        rw [← s49, ← s53, ← s55, a, a, a, v.th]
        simp only [if_pos h45]
      · unfold faT
        rw [← s49, ← s51, ← s53, a, a, a, v.par, v.s 38 (by decide)]
        rcases h with h | h | h | h
        · rw [if_pos h, if_pos h]
        · rw [if_neg (by rw [h]; decide), if_pos h, if_neg (by rw [h]; decide), if_pos h]
        · rw [if_neg (by rw [h]; decide), if_neg (by rw [h]; decide), if_pos h, if_neg (by rw [h]; decide), if_neg (by rw [h]; decide), if_pos h]
        · rw [if_neg (by rw [h]; decide), if_neg (by rw [h]; decide), if_neg (by rw [h]; decide), if_pos h, if_neg (by rw [h]; decide), if_neg (by rw [h]; decide), if_neg (by rw [h]; decide), if_pos h]
    · obtain ⟨j, hj, e⟩ := p55.resolve_left hn
      have hTy : tyH σ (σ 55 k) = tyH τ (σ 55 k) := by rw [e]; exact T.ty hc hd (by omega) hj
      have hUs : useM σ (nI k) = useM τ (nI k) := by
        unfold useM
        rw [← s49, ← s53, ← s55, a, a, a, hTy, v.lk]
      refine ⟨?_, ?_⟩
      · unfold fndF
        rw [← s49, ← s53, ← s55, a, a, a, v.th, hTy, hUs, hAr]
      · unfold faT
        rw [← s49, ← s51, ← s53, a, a, a, v.par, v.s 38 (by decide), v.s 42 (by decide), hUs]
  refine ⟨?_, ?_⟩
  · unfold gtF
    rw [v.th, ← s51, hPe, hFF.1]
  · unfold gtT
    rw [v.th, ← s51, hPe, hFF.1, hFF.2]
theorem tyP_n (e c : Nat) : tyP (nI e) (nI c) = nI (50 * c + e) := by
  unfold tyP
  show nI c * nI 50 + nI e = _
  rw [pk_mul, nI_add, Nat.mul_comm]
theorem gtStep_w (w : xS) (e : Nat) {k c : Nat} (hk : k < 50) (hc : c < 16) (h6 : w 206 0 = nI c) : gtStep w (nI k) = xw (xw w 79 k (gtF w (nI k))) 81 (50 * c + k) (gtT w (nI k)) := by
  unfold gtStep
  rw [h6, tyP_n, vPut_n hk (by decide), vPut_n (by omega) (by decide)]
theorem Tk_step (T : Tk c d k σ τ) (hc : c < 16) (hd : d < 16) (hk : k < 50) (hp : ∀ r, r ∈ [55, 57, 59] → σ r k = -1 ∨ ∃ j, j < k ∧ σ r k = nI j) (ho : (σ 49 k = 0 ∨ σ 49 k = 1 ∨ σ 49 k = 2 ∨ σ 49 k = 3) ∨ ((σ 49 k = 4 ∨ σ 49 k = 5) ∧ ¬ σ 55 k = -1)) : Tk c d (k + 1) (gtStep σ (nI k)) (gtStep τ (nI k)) := by
  obtain ⟨e1, e2⟩ := gt_al T hc hd hk hp ho
  refine ⟨T.1.of (fun r h1 h2 _ _ _ => gtStep_keep h1 h2 _ _) (fun r h1 h2 _ _ _ => gtStep_keep h1 h2 _ _), fun e he => ?_, fun e he => ?_⟩
  · rw [gtStep_w σ e hk hc T.1.c1, gtStep_w τ e hk hd T.1.c2, e1, xw_ne (r := 81) (a := 79) _ _ _ (by decide), xw_ne (r := 81) (a := 79) _ _ _ (by decide)]
    by_cases z : e = k
    · rw [z, xw_at, xw_at]
    · rw [xw_other z, xw_other z]; exact T.2.1 e (by omega)
  · rw [gtStep_w σ e hk hc T.1.c1, gtStep_w τ e hk hd T.1.c2, e2]
    by_cases z : e = k
    · rw [z, xw_at, xw_at]
    · rw [xw_other (by omega), xw_other (by omega), xw_ne (r := 79) (a := 81) _ _ _ (by decide), xw_ne (r := 79) (a := 81) _ _ _ (by decide)]; exact T.2.2 e (by omega)
theorem gts_al {n m : Nat} (v : Vk c d σ τ) (hc : c < 16) (hd : d < 16) (w : Wx n m σ) : Tk c d n (gts σ) (gts τ) := by
  obtain ⟨w1, w2, w3, w4, w5, w6, w7⟩ := w
  have e1 : (σ 205 0).toNatClampNeg = n := by rw [w3, nI_clamp (by omega)]
  have e2 : (τ 205 0).toNatClampNeg = n := by rw [← v.z 205 (by decide), w3, nI_clamp (by omega)]
  unfold gts
  rw [e1, e2]
  have key := up2 (f := gtStep) (g := gtStep) (τ := σ) (ρ := τ) (fun k u w => Tk c d k u w ∧ ∀ r, r ≠ 79 → r ≠ 81 → u r = σ r) n ⟨⟨v, fun e he => absurd he (Nat.not_lt_zero e), fun e he => absurd he (Nat.not_lt_zero e)⟩, fun _ _ _ => rfl⟩ (fun k hk u w q => ?_) n (Nat.le_refl _)
  · exact key.1
  · refine ⟨Tk_step q.1 hc hd (by omega) (fun r hr => ?_) ?_, fun r h1 h2 => by rw [gtStep_keep h1 h2]; exact q.2 r h1 h2⟩
    · rw [q.2 r (by revert hr; simp only [List.mem_cons, List.not_mem_nil, or_false]; omega) (by revert hr; simp only [List.mem_cons, List.not_mem_nil, or_false]; omega)]; exact w5 k hk r hr
    · rw [q.2 49 (by decide) (by decide), q.2 55 (by decide) (by decide)]; exact w6 k hk
/-- what typeOf answers -/
theorem type_al {n m : Nat} (h : St c d σ τ) (hc : c < 16) (hd : d < 16) (w : Wx n m σ) {e : Nat} (he : e < n) : tyIn (gts (look σ (nI c))) (nI e) (nI c) = tyIn (gts (look τ (nI d))) (nI e) (nI d) := by
  have T := gts_al (look_Vk h hc hd) hc hd (w.of (fun r hr => look_keep hr σ _))
  have := w.1
  rw [tyIn_n hc (by omega), tyIn_n hd (by omega)]
  exact T.2.2 e he
end TY

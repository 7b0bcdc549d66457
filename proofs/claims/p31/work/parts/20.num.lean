/-! Pure mathematics: places, numbers, loops, the numbering of the errors. -/
theorem vp_le {x : Int32} {a b : Nat} (h : vp_in x a) (hab : a ≤ b) : vp_in x b := by
  rw [vp_in_iff] at h ⊢; omega
theorem vp_cl {x : Int32} {n : Nat} (h : vp_in x n) : x.toNatClampNeg < n := by
  rw [vp_in_iff] at h
  have : x.toNatClampNeg = x.toInt.toNat := rfl
  omega
theorem vp_nI {x : Int32} {n : Nat} (h : vp_in x n) : x = nI x.toNatClampNeg := by
  have h1 : ¬ x < 0 := fun q => h (Or.inl q)
  obtain ⟨j, hj, rfl⟩ := nI_of h1
  rw [nI_clamp hj]
theorem vp_lit (k : Nat) (h : k < 2 ^ 30) : vp_in (nI k) (k + 1) := vp_in_nI (by omega) (by omega)
theorem vp_add {x y : Int32} {a b : Nat} (hx : vp_in x a) (hy : vp_in y b) (h : a + b < 2 ^ 31) : vp_in (x + y) (a + b - 1) := by
  have h1 := vp_cl hx
  have h2 := vp_cl hy
  rw [vp_nI hx, vp_nI hy, nI_add]
  exact vp_in_nI (by omega) (by omega)
theorem vp_mulk (k : Nat) {x : Int32} {a : Nat} (hx : vp_in x a) (h : k * (a - 1) + 1 < 2 ^ 31) : vp_in (nI k * x) (k * (a - 1) + 1) := by
  have h1 := vp_cl hx
  rw [vp_nI hx, pk_mul]
  refine vp_in_nI ?_ h
  have : k * x.toNatClampNeg ≤ k * (a - 1) := Nat.mul_le_mul_left k (by omega)
  omega
theorem vAt_n {n j : Nat} {f : Nat → Int32} (h : j < n) (hn : n < 2 ^ 31) : vAt n f (nI j) = f j := by
  unfold vAt
  rw [if_pos ⟨nI_pos (by omega), nI_ge h hn⟩, nI_clamp (by omega)]
theorem vAt_m {n : Nat} {f : Nat → Int32} : vAt n f (-1) = -1 := by
  unfold vAt
  exact if_neg (fun h => h.1 (by decide))
theorem vPut_n {σ : xS} {a n j : Nat} {v : Int32} (h : j < n) (hn : n < 2 ^ 31) : vPut σ a n (nI j) v = xw σ a j v := by
  unfold vPut
  rw [if_pos ⟨nI_pos (by omega), nI_ge h hn⟩, nI_clamp (by omega)]
theorem vFill_at {σ : xS} {a n j : Nat} {v : Int32} (h : j < n) : vFill σ a n v a j = v := by simp [vFill, h]
theorem xw_other {σ : xS} {r j b : Nat} {x : Int32} (h : b ≠ j) : xw σ r j x r b = σ r b := by simp [xw, h]
theorem vp_ex {x : Int32} {n : Nat} (h : vp_in x n) : ∃ j, j < n ∧ x = nI j := ⟨_, vp_cl h, vp_nI h⟩
theorem ixA (a s i : Nat) : nI a * nI s + nI i = nI (a * s + i) := by rw [pk_mul, nI_add]
theorem ixC (a s i : Nat) (h : a * s + i < 2 ^ 31) : (nI a * nI s + nI i).toNatClampNeg = a * s + i := by rw [ixA, nI_clamp h]
theorem nI_neg1 {k : Nat} (h : k < 2 ^ 31) : ¬ nI k = -1 := fun e => nI_pos h (by rw [e]; decide)
theorem and_sub (c o : Int32) : (c &&& o = o) ↔ (o &&& (c ^^^ (-1)) = 0) := by
  constructor
  · intro h
    refine b_ext (fun i hi => ?_)
    have h1 := congrArg (fun z => bt z i) h
    simp only [b_and] at h1
    rw [b_and, b_xor, b_m1 i hi, b_0]
    revert h1
    cases bt c i <;> cases bt o i <;> decide
  · intro h
    refine b_ext (fun i hi => ?_)
    have h1 := congrArg (fun z => bt z i) h
    simp only [b_and, b_xor, b_m1 i hi, b_0] at h1
    rw [b_and]
    revert h1
    cases bt c i <;> cases bt o i <;> decide
theorem cfg_bt {on off : Int32} {p : Nat} (hp : p < 16) : bt (cfgI on off) p = (decide (on &&& (nI p ^^^ (-1)) = 0) && decide (off &&& nI p = 0)) := by
  unfold cfgI
  rw [maskI_bt _ (by omega) 16 (by decide), decide_eq_true hp, Bool.true_and]
  unfold cfgB
  rw [decide_eq_decide.mpr (and_sub (nI p) on), Int32.and_comm (nI p) off]
theorem cfg_big {on off : Int32} {p : Nat} (hp : 16 ≤ p) : bt (cfgI on off) p = false := by
  by_cases h : p < 32
  · unfold cfgI
    rw [maskI_bt _ h 16 (by decide), decide_eq_false (by omega)]; rfl
  · exact b_big (by omega)
theorem isIn_mHas {s x : Int32} (h : vp_in x 32) : isInB s x = mHas s x := by
  obtain ⟨i, hi, rfl⟩ := vp_ex h
  rw [isIn_bt hi, mHas_bt hi]
theorem isIn_out {s x : Int32} (h : ¬ vp_in x 32) : isInB s x = false := by
  unfold isInB
  by_cases h1 : x < 0
  · simp [h1]
  · by_cases h2 : (32 : Int32) ≤ x
    · simp [h2]
    · exact absurd (vp_in_of2 (n := 32) (by decide) h1 h2) h
theorem up2 {f g : xS → Int32 → xS} {τ ρ : xS} (P : Nat → xS → xS → Prop) (n : Nat) (h0 : P 0 τ ρ) (hs : ∀ k, k < n → ∀ τ ρ, P k τ ρ → P (k + 1) (f τ (nI k)) (g ρ (nI k))) : ∀ k, k ≤ n → P k (upN f k τ) (upN g k ρ) := by
  intro k
  induction k with
  | zero => intro _; exact h0
  | succ k ih => intro hk; rw [upN_s, upN_s]; exact hs k (by omega) _ _ (ih (by omega))
theorem tyH_n {u : xS} {p x : Nat} (h206 : u 206 0 = nI p) (hp : p < 16) (hx : x < 50) : tyH u (nI x) = u 81 (50 * p + x) := by
  unfold tyH tyIn tyP
  rw [h206]
  show vAt 800 (u 81) (nI p * nI 50 + nI x) = _
  rw [pk_mul, nI_add, vAt_n (by omega) (by decide), Nat.mul_comm]
theorem tyIn_n {u : xS} {p x : Nat} (hp : p < 16) (hx : x < 50) : tyIn u (nI x) (nI p) = u 81 (50 * p + x) := by
  unfold tyIn tyP
  show vAt 800 (u 81) (nI p * nI 50 + nI x) = _
  rw [pk_mul, nI_add, vAt_n (by omega) (by decide), Nat.mul_comm]
theorem look_84 (τ : xS) (c : Int32) : look τ c 84 = τ 84 := by
  rw [look, lfm_keep (by decide), lfa_keep (by decide), lfp_keep (by decide), lfe_keep (by decide), lfe_keep (by decide), lfe_keep (by decide), lfe_keep (by decide), xw_ne _ _ _ (by decide)]
theorem look_81 (τ : xS) (c : Int32) : look τ c 81 = τ 81 := by
  rw [look, lfm_keep (by decide), lfa_keep (by decide), lfp_keep (by decide), lfe_keep (by decide), lfe_keep (by decide), lfe_keep (by decide), lfe_keep (by decide), xw_ne _ _ _ (by decide)]
/-- a product's round of the class and of the reference -/
def clP (τ : xS) (c : Int32) : xS := ckX (ckE (ckM (ckC (ckL (gts (look τ c)) c) c) c) c) c
def zc (A : Nat → Int32) : Nat → Nat
  | 0 => 0
  | k + 1 => zc A k + (if A k = 0 then 0 else 1)
theorem zc_le (A : Nat → Int32) : ∀ k, zc A k ≤ k
  | 0 => Nat.le_refl _
  | k + 1 => by have := zc_le A k; rw [zc]; split <;> omega
theorem zc_z {A : Nat → Int32} {k : Nat} (h : A k = 0) : zc A (k + 1) = zc A k := by rw [zc, if_pos h]; rfl
theorem zc_n {A : Nat → Int32} {k : Nat} (h : ¬ A k = 0) : zc A (k + 1) = zc A k + 1 := by rw [zc, if_neg h]
theorem zc_mono {A : Nat → Int32} {a : Nat} : ∀ b, a ≤ b → zc A a ≤ zc A b := by
  intro b
  induction b with
  | zero => intro h; rw [Nat.le_zero.mp h]; exact Nat.le_refl _
  | succ b ih =>
    intro h
    by_cases e : a = b + 1
    · rw [e]; exact Nat.le_refl _
    · have := ih (by omega)
      rw [zc]; omega
theorem zc_lt {A : Nat → Int32} {j k : Nat} (hj : j < k) (h : ¬ A j = 0) : zc A j < zc A k := by
  have := zc_mono (A := A) k (show j + 1 ≤ k from hj)
  rw [zc_n h] at this
  omega
theorem numb_at {J : xS} : ∀ k, k ≤ 600 → upN nbS k (xw J 207 0 0) 207 0 = nI (zc (J 84) k) ∧ ∀ j, j < k → ¬ J 84 j = 0 → upN nbS k (xw J 207 0 0) 86 (zc (J 84) j) = nI j := by
  intro k
  induction k with
  | zero => intro _; exact ⟨xw_at _ _ _ _, fun j hj => absurd hj (Nat.not_lt_zero j)⟩
  | succ k ih =>
    intro hk
    obtain ⟨i1, i2⟩ := ih (by omega)
    rw [upN_s]
    have hz := zc_le (J 84) k
    have h84 : upN nbS k (xw J 207 0 0) 84 = J 84 := by rw [upN_keep (nbS_keep (by decide) (by decide)), xw_ne _ _ _ (by decide)]
    generalize upN nbS k (xw J 207 0 0) = U at i1 i2 h84 ⊢
    unfold nbS
    rw [vAt_n (by omega) (by decide), h84]
    by_cases e : J 84 k = 0
    · rw [if_pos e, zc_z e]
      refine ⟨i1, fun j hj hne => ?_⟩
      by_cases q : j = k
      · subst q; exact absurd e hne
      · exact i2 j (by omega) hne
    · rw [if_neg e, i1, vPut_n (by omega) (by decide), zc_n e, xw_at]
      refine ⟨nI_1 _, fun j hj hne => ?_⟩
      rw [xw_ne _ _ _ (by decide)]
      by_cases q : j = k
      · subst q; rw [xw_at]
      · rw [xw_other (by have := zc_lt (show j < k by omega) hne; omega)]
        exact i2 j (by omega) hne
theorem zc_on {A : Nat → Int32} : ∀ k j, j < zc A k → ∃ q, q < k ∧ ¬ A q = 0 ∧ zc A q = j := by
  intro k
  induction k with
  | zero => intro j hj; exact absurd hj (Nat.not_lt_zero j)
  | succ k ih =>
    intro j hj
    by_cases e : A k = 0
    · rw [zc_z e] at hj
      obtain ⟨q, q1, q2⟩ := ih j hj
      exact ⟨q, by omega, q2⟩
    · rw [zc_n e] at hj
      by_cases g : j = zc A k
      · exact ⟨k, by omega, e, g.symm⟩
      · obtain ⟨q, q1, q2⟩ := ih j (by omega)
        exact ⟨q, by omega, q2⟩

/-! All configurations; the numbering; what the answers are. -/
def insB (τ : xS) (ps : Int32) : xS := upN (insS ps) 16 (vFill τ 84 600 0)
theorem insA_n (τ : xS) : insA τ = numb (insB τ (allI τ)) := rfl
theorem clP_q (σ : xS) (c : Int32) : Eqc (clP σ c) σ := fun r hr => by
  unfold clP
  rw [ckX_keep hr.2.2.2.2.2.2.1, ckE_keep hr.2.2.2.2.2.2.1, ckM_keep hr.2.2.2.2.2.2.1, ckC_keep hr.2.2.2.2.2.2.1, ckL_keep hr.2.2.2.2.2.2.1, gts_keep hr.2.2.2.2.1 hr.2.2.2.2.2.1, look_keep hr]
theorem insS_w (ps : Int32) (u : xS) {k : Nat} (hk : k < 32) : insS ps u (nI k) = if bt ps k = true then clP u (nI k) else u := by
  unfold insS
  rw [isIn_bt hk]; rfl
section IB
variable {c d : Nat} {σ τ : xS} {ps : Int32}
theorem insB_up (hc : c < 32) : ∀ k, k ≤ 16 → Eqc (upN (insS ps) k (vFill σ 84 600 0)) σ ∧ ((c < k ∧ bt ps c = true) → ∃ u, Eqc u σ ∧ (∀ q, q < 600 → bt (u 84 q) c = false) ∧ ∀ q, bt (upN (insS ps) k (vFill σ 84 600 0) 84 q) c = bt (clP u (nI c) 84 q) c) ∧ (¬ (c < k ∧ bt ps c = true) → ∀ q, q < 600 → bt (upN (insS ps) k (vFill σ 84 600 0) 84 q) c = false) := by
  intro k
  induction k with
  | zero =>
    intro _
    refine ⟨fun r hr => vFill_ne hr.2.2.2.2.2.2.1, fun h => absurd h.1 (Nat.not_lt_zero c), fun _ q hq => ?_⟩
    show bt (vFill σ 84 600 0 84 q) c = false
    rw [vFill_at hq, b_0]
  | succ k ih =>
    intro hk
    obtain ⟨i1, i2, i3⟩ := ih (by omega)
    rw [upN_s, insS_w ps _ (show k < 32 by omega)]
    generalize upN (insS ps) k (vFill σ 84 600 0) = U at i1 i2 i3 ⊢
    by_cases hb : bt ps k = true
    · rw [if_pos hb]
      refine ⟨(clP_q _ _).tr i1, fun h => ?_, fun h => ?_⟩
      · by_cases z : c = k
        · subst z
          exact ⟨U, i1, i3 (fun q => Nat.lt_irrefl _ q.1), fun q => rfl⟩
        · obtain ⟨u, u1, u2, u3⟩ := i2 ⟨by omega, h.2⟩
          exact ⟨u, u1, u2, fun q => by rw [clP_o hc (by omega) z q]; exact u3 q⟩
      · have z : c ≠ k := by rintro rfl; exact h ⟨by omega, hb⟩
        intro q hq
        rw [clP_o hc (by omega) z q]
        exact i3 (fun g => h ⟨by omega, g.2⟩) q hq
    · rw [if_neg hb]
      refine ⟨i1, fun h => ?_, fun h => i3 (fun g => h ⟨by omega, g.2⟩)⟩
      have z : c ≠ k := by rintro rfl; exact hb h.2
      exact i2 ⟨by omega, h.2⟩
theorem sets_al {n m : Nat} (h : St c d σ τ) (hc : c < 16) (hd : d < 16) (w : Wx n m σ) {pt : Int32} (h1 : bt ps c = true) (h2 : bt pt d = true) : ∀ q, q < 600 → bt (insB σ ps 84 q) c = bt (insB τ pt 84 q) d := by
  obtain ⟨u, u1, u2, u3⟩ := (insB_up (σ := σ) (ps := ps) (c := c) (by omega) 16 (Nat.le_refl _)).2.1 ⟨hc, h1⟩
  obtain ⟨v, v1, v2, v3⟩ := (insB_up (σ := τ) (ps := pt) (c := d) (by omega) 16 (Nat.le_refl _)).2.1 ⟨hd, h2⟩
  intro q hq
  unfold insB
  rw [u3 q, v3 q]
  exact clP_al (h.of u1 v1) hc hd (w.of u1) (fun q hq => by rw [u2 q hq, v2 q hq]) q hq
theorem sets_0 (hc : c < 32) (h : ¬ (c < 16 ∧ bt ps c = true)) : ∀ q, q < 600 → bt (insB σ ps 84 q) c = false := (insB_up hc 16 (Nat.le_refl _)).2.2 h
end IB
theorem allI_bt {σ : xS} {c : Nat} (hc : c < 32) : bt (allI σ) c = (decide (c < 16) && rKept σ (nI c)) := maskI_bt _ hc 16 (by decide)
theorem allI_c {τ σ : xS} (h : Eqc τ σ) : allI τ = allI σ := by
  have e : ∀ c k, rKeptN τ c k = rKeptN σ c k := by
    intro c k
    induction k with
    | zero => rfl
    | succ k ih => rw [rKeptN, rKeptN, ih]; unfold rBad; rw [h 3 (by decide), h 5 (by decide), h 7 (by decide)]
  unfold allI rKept
  rw [h 200 (by decide)]
  simp only [e]
/-- the sets of the places -/
def Er (σ : xS) : Nat → Int32 := insB σ (allI σ) 84
theorem Er_c {n m : Nat} {σ' σ : xS} (h : Eqc σ' σ) (w : Wx n m σ) : ∀ q, q < 600 → Er σ' q = Er σ q := by
  intro q hq
  unfold Er
  rw [allI_c h]
  refine b_ext (fun i hi => ?_)
  by_cases g : i < 16 ∧ bt (allI σ) i = true
  · exact sets_al ((St.self i σ).of h Eqc.rf) g.1 g.1 (w.of h) g.2 g.2 q hq
  · rw [sets_0 hi g q hq, sets_0 hi g q hq]
theorem insA_84 (σ : xS) : insA σ 84 = Er σ := by rw [insA_n, numb_keep (by decide) (by decide)]; rfl
theorem insA_q (σ : xS) : Eqc (insA σ) σ := fun r hr => insp_keep hr σ _
theorem insA_207 (σ : xS) : insA σ 207 0 = nI (zc (Er σ) 600) := by
  rw [insA_n]; exact (numb_at (J := insB σ (allI σ)) 600 (Nat.le_refl _)).1
theorem insA_86 (σ : xS) {j : Nat} (hj : j < 600) (h0 : ¬ Er σ j = 0) : insA σ 86 (zc (Er σ) j) = nI j := by
  rw [insA_n]; exact (numb_at (J := insB σ (allI σ)) 600 (Nat.le_refl _)).2 j hj h0
theorem err_at (σ : xS) {q : Nat} (hq : q < 600) (h0 : ¬ Er σ q = 0) : kndO (insA σ) (nI (zc (Er σ) q)) = nI (q / 50 + 1) ∧ elmO (insA σ) (nI (zc (Er σ) q)) = nI (q % 50) ∧ prdO (insA σ) (nI (zc (Er σ) q)) = Er σ q := by
  have hz := zc_le (Er σ) q
  have e := insA_86 σ hq h0
  have d1 : nI q / 50 = nI (q / 50) := pk_div (d := 50) (by omega) (by decide) (by decide)
  have d2 : nI q - nI q / 50 * 50 = nI (q % 50) := pk_rem (d := 50) (by omega) (by decide) (by decide)
  unfold kndO elmO prdO
  rw [vAt_n (by omega) (by decide), e, d2, d1, insA_84, vAt_n hq (by decide)]
  exact ⟨nI_1 _, rfl, rfl⟩
/-- how many places have bit c -/
def bc (A : Nat → Int32) (c : Nat) : Nat → Nat
  | 0 => 0
  | k + 1 => bc A c k + (if bt (A k) c = true then 1 else 0)
theorem bc_le (A : Nat → Int32) (c : Nat) : ∀ k, bc A c k ≤ k
  | 0 => Nat.le_refl _
  | k + 1 => by have := bc_le A c k; rw [bc]; split <;> omega
theorem bc_eq {A B : Nat → Int32} {c d n : Nat} (h : ∀ q, q < n → bt (A q) c = bt (B q) d) : ∀ k, k ≤ n → bc A c k = bc B d k := by
  intro k
  induction k with
  | zero => intro _; rfl
  | succ k ih => intro hk; rw [bc, bc, ih (by omega), h k (by omega)]
theorem bc_zc {A : Nat → Int32} {c n : Nat} (h : ∀ q, q < n → (A q = 0 ↔ bt (A q) c = false)) : ∀ k, k ≤ n → zc A k = bc A c k := by
  intro k
  induction k with
  | zero => intro _; rfl
  | succ k ih =>
    intro hk
    rw [zc, bc, ih (by omega)]
    by_cases g : A k = 0
    · rw [if_pos g, (h k (by omega)).mp g]; rfl
    · rw [if_neg g]
      cases e : bt (A k) c with
      | true => rfl
      | false => exact absurd ((h k (by omega)).mpr e) g
theorem bc_pos {A : Nat → Int32} {c : Nat} : ∀ k, 0 < bc A c k ↔ ∃ q, q < k ∧ bt (A q) c = true := by
  intro k
  induction k with
  | zero => exact ⟨fun h => absurd h (Nat.lt_irrefl _), fun ⟨q, h, _⟩ => absurd h (Nat.not_lt_zero q)⟩
  | succ k ih =>
    rw [bc]
    constructor
    · intro h
      by_cases g : bt (A k) c = true
      · exact ⟨k, Nat.lt_succ_self k, g⟩
      · rw [if_neg g] at h
        obtain ⟨q, h1, h2⟩ := ih.mp h
        exact ⟨q, by omega, h2⟩
    · rintro ⟨q, h1, h2⟩
      by_cases g : q = k
      · subst g; rw [if_pos h2]; omega
      · have := ih.mpr ⟨q, by omega, h2⟩; omega
theorem zc_eq {A B : Nat → Int32} {n : Nat} (h : ∀ q, q < n → A q = B q) : ∀ k, k ≤ n → zc A k = zc B k := by
  intro k
  induction k with
  | zero => intro _; rfl
  | succ k ih => intro hk; rw [zc, zc, ih (by omega), h k (by omega)]
/-- errors with bit c among the first -/
theorem szIN_at (σ : xS) {c : Nat} (hc : c < 32) : ∀ k, k ≤ 600 → szIN (insA σ) (nI c) (zc (Er σ) k) = nI (bc (Er σ) c k) := by
  intro k
  induction k with
  | zero => intro _; rfl
  | succ k ih =>
    intro hk
    by_cases g : Er σ k = 0
    · rw [zc_z g, ih (by omega), bc, g, b_0]; rfl
    · rw [zc_n g, szIN, ih (by omega), (err_at σ (by omega) g).2.2, isIn_bt hc, bc]
      by_cases e : bt (Er σ k) c = true
      · rw [if_pos e, if_pos e]; exact nI_1 _
      · rw [if_neg e, if_neg e]; rfl
theorem szI_at (σ : xS) {c : Nat} (hc : c < 32) : szI (insA σ) (nI c) = nI (bc (Er σ) c 600) := by
  have := zc_le (Er σ) 600
  unfold szI
  rw [insA_207, nI_clamp (by omega)]
  exact szIN_at σ hc 600 (Nat.le_refl _)
theorem wrgN_at (σ : xS) {c : Nat} : ∀ k, k ≤ 600 → bt (wrgN (insA σ) (zc (Er σ) k)) c = decide (0 < bc (Er σ) c k) := by
  intro k
  induction k with
  | zero => intro _; exact b_0 c
  | succ k ih =>
    intro hk
    by_cases g : Er σ k = 0
    · rw [zc_z g, ih (by omega), bc, g, b_0]; rfl
    · rw [zc_n g, wrgN, b_or, ih (by omega), (err_at σ (by omega) g).2.2, bc]
      cases e : bt (Er σ k) c with
      | true => rw [Bool.or_true, if_pos rfl, decide_eq_true (by omega)]
      | false => rw [Bool.or_false, if_neg (by decide), Nat.add_zero]
theorem rgt_bt (σ : xS) {c : Nat} (hc : c < 32) : bt (rgt σ) c = (bt (allI σ) c && !(decide (0 < bc (Er σ) c 600))) := by
  have h := zc_le (Er σ) 600
  unfold rgt wrg
  rw [b_and, b_xor, b_m1 c hc, insA_207, nI_clamp (by omega), wrgN_at σ 600 (Nat.le_refl _)]
  cases decide (0 < bc (Er σ) c 600) <;> rfl
theorem shr_bt (x : Int32) {c : Nat} (hc : c < 32) : x >>> (nI c &&& 31) &&& 1 = bI (bt x c) := by
  rw [← has_bt hc]
  refine b_ext (fun i hi => ?_)
  rw [b_and, b_1]
  by_cases h : x >>> (nI c &&& 31) &&& 1 = 1
  · rw [decide_eq_true h]
    have := congrArg (fun z => bt z i) h
    simp only [b_and, b_1] at this
    rw [this, bI_t, b_1]
  · rw [decide_eq_false h, bI_f, b_0]
    by_cases g : i = 0
    · subst g
      cases e : bt (x >>> (nI c &&& 31)) 0 with
      | false => rfl
      | true =>
        exfalso
        refine h (b_ext (fun j hj => ?_))
        rw [b_and, b_1]
        by_cases z : j = 0
        · subst z; rw [e]; rfl
        · rw [decide_eq_false z, Bool.and_false]
    · rw [decide_eq_false g, Bool.and_false]
/-! The checker of one product: its only product is 0. -/
section ON
variable {c n m : Nat} {σ τ : xS}
theorem one_0 (h1 : allI τ = 1) : ∀ q, q < 600 → (Er τ q = 0 ↔ bt (Er τ q) 0 = false) := by
  intro q hq
  refine ⟨fun h => by rw [h, b_0], fun h => b_ext (fun i hi => ?_)⟩
  rw [b_0]
  by_cases g : i = 0
  · subst g; exact h
  · exact sets_0 hi (fun z => by rw [h1, b_1] at z; exact g (of_decide_eq_true z.2)) q hq
theorem sets_1 (h : St c 0 σ τ) (hc : c < 16) (w : Wx n m σ) (hp : bt (allI σ) c = true) (h1 : allI τ = 1) : ∀ q, q < 600 → bt (Er σ q) c = bt (Er τ q) 0 :=
  sets_al h hc (by decide) w hp (by rw [h1]; decide)
theorem count_1 (h : St c 0 σ τ) (hc : c < 16) (w : Wx n m σ) (hp : bt (allI σ) c = true) (h1 : allI τ = 1) : ∀ k, k ≤ 600 → bc (Er σ) c k = zc (Er τ) k := fun k hk => by
  rw [bc_zc (one_0 h1) k hk]; exact bc_eq (sets_1 h hc w hp h1) k hk
/-- errorsIn and errorCount -/
theorem in_1 (h : St c 0 σ τ) (hc : c < 16) (w : Wx n m σ) (hp : bt (allI σ) c = true) (h1 : allI τ = 1) : szI (insA σ) (nI c) = insA τ 207 0 := by
  rw [szI_at σ (by omega), insA_207, count_1 h hc w hp h1 600 (Nat.le_refl _)]
/-- right -/
theorem right_1 (h : St c 0 σ τ) (hc : c < 16) (w : Wx n m σ) (hp : bt (allI σ) c = true) (h1 : allI τ = 1) : rgt σ >>> (nI c &&& 31) &&& 1 = rgt τ := by
  rw [shr_bt _ (by omega), rgt_bt σ (by omega), hp, Bool.true_and]
  refine b_ext (fun i hi => ?_)
  rw [rgt_bt τ hi, h1, b_1]
  by_cases g : i = 0
  · subst g
    rw [decide_eq_true rfl, Bool.true_and, ← bc_eq (sets_1 h hc w hp h1) 600 (Nat.le_refl _)]
    cases decide (0 < bc (Er σ) c 600) <;> decide
  · rw [decide_eq_false g, Bool.false_and]
    cases decide (0 < bc (Er σ) c 600)
    · show bt (bI true) i = false; rw [bI_t, b_1, decide_eq_false g]
    · exact b_0 i
/-- error by error -/
theorem error_1 (h : St c 0 σ τ) (hc : c < 16) (w : Wx n m σ) (hp : bt (allI σ) c = true) (h1 : allI τ = 1) {k : Nat} (hk : k < zc (Er σ) 600) (hb : bt (prdO (insA σ) (nI k)) c = true) : ∃ j, j < zc (Er τ) 600 ∧ j < 600 ∧ szIN (insA σ) (nI c) k = nI j ∧ kndO (insA σ) (nI k) = kndO (insA τ) (nI j) ∧ elmO (insA σ) (nI k) = elmO (insA τ) (nI j) := by
  obtain ⟨q, q1, q2, rfl⟩ := zc_on 600 k hk
  obtain ⟨e1, e2, e3⟩ := err_at σ q1 q2
  rw [e3] at hb
  have hb2 : bt (Er τ q) 0 = true := by rw [← sets_1 h hc w hp h1 q q1]; exact hb
  have hn : ¬ Er τ q = 0 := fun z => by rw [z, b_0] at hb2; exact Bool.noConfusion hb2
  obtain ⟨f1, f2, f3⟩ := err_at τ q1 hn
  have := zc_le (Er τ) q
  refine ⟨zc (Er τ) q, zc_lt q1 hn, by omega, ?_, ?_, ?_⟩
  · rw [szIN_at σ (by omega) q (by omega), count_1 h hc w hp h1 q (by omega)]
  · rw [e1, f1]
  · rw [e2, f2]
end ON

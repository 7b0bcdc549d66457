/-! The share of right products: counts of bits. -/
def popN (n : Nat) : Nat :=
  let s1 := Nat.sub n (Nat.land (Nat.div n 2) 1431655765)
  let s2 := Nat.add (Nat.land s1 858993459) (Nat.land (Nat.div s1 4) 858993459)
  let s3 := Nat.land (Nat.add s2 (Nat.div s2 16)) 252645135
  let s4 := Nat.add s3 (Nat.div s3 256)
  let s5 := Nat.add s4 (Nat.div s4 65536)
  Nat.land s5 63
def pq8 (n : Nat) : Nat := n % 2 + n / 2 % 2 + n / 4 % 2 + n / 8 % 2 + n / 16 % 2 + n / 32 % 2 + n / 64 % 2 + n / 128 % 2
theorem pop_chk : (List.range 256).all (fun b => (List.range 256).all (fun a => Nat.beq (popN (Nat.add (Nat.mul 256 b) a)) (Nat.add (popN a) (popN b)))) = true := by decide +kernel
theorem pop_lo : ∀ a, a < 256 → popN a = pq8 a := by decide +kernel
theorem nan_ok : ∀ a, a < 17 → ∀ b, b < 17 → b = 0 ∨ (FP.ddiv (FP.i2d (nI a)) (FP.i2d (nI b))) &&& 0x7fffffffffffffff ≤ 0x7ff0000000000000 := by decide +kernel
theorem bt_nI {n i : Nat} (hi : i < 32) : bt (nI n) i = n.testBit i := by
  show (BitVec.ofNat 32 n).getLsbD i = _
  rw [BitVec.getLsbD_ofNat, decide_eq_true hi, Bool.true_and]
theorem nI_and (a b : Nat) : nI a &&& nI b = nI (a &&& b) := b_ext (fun i hi => by rw [b_and, bt_nI hi, bt_nI hi, bt_nI hi, Nat.testBit_and])
theorem ush_n {n : Nat} (hn : n < 2 ^ 32) (j k : Nat) (hs : ((((nI j).toUInt32 &&& Int32.toUInt32 31)).toBitVec % 32).toNat = k) : ush (nI n) (nI j) = nI (n / 2 ^ k) := pk_ushrN hn (nI j) k hs
theorem popc_n {n : Nat} (hn : n < 65536) : popc (nI n) = nI (popN n) := by
  have m1 : (n / 2) &&& 1431655765 ≤ n / 2 := Nat.and_le_left
  obtain ⟨s1, e1⟩ : ∃ s, s = n - ((n / 2) &&& 1431655765) := ⟨_, rfl⟩
  have m2 : s1 &&& 858993459 ≤ s1 := Nat.and_le_left
  have m3 : (s1 / 4) &&& 858993459 ≤ s1 / 4 := Nat.and_le_left
  obtain ⟨s2, e2⟩ : ∃ s, s = (s1 &&& 858993459) + ((s1 / 4) &&& 858993459) := ⟨_, rfl⟩
  have m4 : (s2 + s2 / 16) &&& 252645135 ≤ 252645135 := Nat.and_le_right
  obtain ⟨s3, e3⟩ : ∃ s, s = (s2 + s2 / 16) &&& 252645135 := ⟨_, rfl⟩
  obtain ⟨s4, e4⟩ : ∃ s, s = s3 + s3 / 256 := ⟨_, rfl⟩
  obtain ⟨s5, e5⟩ : ∃ s, s = s4 + s4 / 65536 := ⟨_, rfl⟩
  have c1 : pc1 (nI n) = nI s1 := by
    unfold pc1
    rw [show ush (nI n) 1 = nI (n / 2) from ush_n (by omega) 1 1 (by decide)]
    show nI n - (nI (n / 2) &&& nI 1431655765) = _
    rw [nI_and, pk_sub (by omega), e1]
  have c2 : pc2 (nI s1) = nI s2 := by
    unfold pc2
    rw [show ush (nI s1) 2 = nI (s1 / 4) from ush_n (by omega) 2 2 (by decide)]
    show (nI s1 &&& nI 858993459) + (nI (s1 / 4) &&& nI 858993459) = _
    rw [nI_and, nI_and, nI_add, e2]
  have c3 : pc3 (nI s2) = nI s3 := by
    unfold pc3
    rw [show ush (nI s2) 4 = nI (s2 / 16) from ush_n (by omega) 4 4 (by decide)]
    show (nI s2 + nI (s2 / 16)) &&& nI 252645135 = _
    rw [nI_add, nI_and, e3]
  have c4 : pc4 (nI s3) = nI s4 := by
    unfold pc4
    rw [show ush (nI s3) 8 = nI (s3 / 256) from ush_n (by omega) 8 8 (by decide), nI_add, e4]
  have c5 : pc5 (nI s4) = nI s5 := by
    unfold pc5
    rw [show ush (nI s4) 16 = nI (s4 / 65536) from ush_n (by omega) 16 16 (by decide), nI_add, e5]
  unfold popc
  rw [c1, c2, c3, c4, c5]
  show nI s5 &&& nI 63 = _
  rw [nI_and]
  have : popN n = s5 &&& 63 := by rw [e5, e4, e3, e2, e1]; rfl
  rw [this]
/-- how many of the first k bits are set -/
def pcb (x : Int32) : Nat → Nat
  | 0 => 0
  | k + 1 => pcb x k + (if bt x k = true then 1 else 0)
theorem pcb_le (x : Int32) : ∀ k, pcb x k ≤ k
  | 0 => Nat.le_refl _
  | k + 1 => by have := pcb_le x k; rw [pcb]; split <;> omega
theorem bt_mod {n i : Nat} (hi : i < 32) : (if bt (nI n) i = true then 1 else 0) = n / 2 ^ i % 2 := by
  rw [bt_nI hi, Nat.testBit_eq_decide_div_mod_eq]
  by_cases h : n / 2 ^ i % 2 = 1
  · rw [if_pos (decide_eq_true h), h]
  · rw [if_neg (by simp [h])]; omega
theorem popc_16 {x : Int32} (hx : ∀ i, i < 32 → 16 ≤ i → bt x i = false) : popc x = nI (pcb x 16) := by
  obtain ⟨n, hn, rfl⟩ : ∃ n, n < 65536 ∧ x = nI n := by
    refine ⟨x.toBitVec.toNat, ?_, ?_⟩
    · refine Nat.lt_pow_two_of_testBit (n := 16) _ (fun i hi => ?_)
      by_cases h : i < 32
      · exact hx i h hi
      · exact Nat.testBit_lt_two_pow (Nat.lt_of_lt_of_le x.toBitVec.isLt (Nat.pow_le_pow_right (by decide) (by omega)))
    · refine b_ext (fun i hi => ?_)
      rw [bt_nI hi]; rfl
  obtain ⟨b, a, hb, ha, rfl⟩ : ∃ b a, b < 256 ∧ a < 256 ∧ n = 256 * b + a := ⟨n / 256, n % 256, by omega, by omega, by omega⟩
  have h1 := List.all_eq_true.mp pop_chk b (List.mem_range.mpr hb)
  have h2 := List.all_eq_true.mp h1 a (List.mem_range.mpr ha)
  have h3 : popN (256 * b + a) = popN a + popN b := Nat.eq_of_beq_eq_true h2
  rw [popc_n hn, h3, pop_lo a ha, pop_lo b hb]
  congr 1
  simp only [pcb, bt_mod (show (0 : Nat) < 32 by decide), bt_mod (show (1 : Nat) < 32 by decide), bt_mod (show (2 : Nat) < 32 by decide), bt_mod (show (3 : Nat) < 32 by decide), bt_mod (show (4 : Nat) < 32 by decide), bt_mod (show (5 : Nat) < 32 by decide), bt_mod (show (6 : Nat) < 32 by decide), bt_mod (show (7 : Nat) < 32 by decide), bt_mod (show (8 : Nat) < 32 by decide), bt_mod (show (9 : Nat) < 32 by decide), bt_mod (show (10 : Nat) < 32 by decide), bt_mod (show (11 : Nat) < 32 by decide), bt_mod (show (12 : Nat) < 32 by decide), bt_mod (show (13 : Nat) < 32 by decide), bt_mod (show (14 : Nat) < 32 by decide), bt_mod (show (15 : Nat) < 32 by decide)]
  unfold pq8
  simp only [Nat.reducePow]
  omega
theorem pcb_sub {a w : Int32} (hw : ∀ i, i < 32 → bt w i = true → bt a i = true) : ∀ k, k ≤ 32 → pcb a k = pcb w k + pcb (a &&& (w ^^^ (-1))) k := by
  intro k
  induction k with
  | zero => intro _; rfl
  | succ k ih =>
    intro hk
    have h1 := hw k (by omega)
    rw [pcb, pcb, pcb, ih (by omega), b_and, b_xor, b_m1 k (by omega)]
    revert h1
    cases bt a k <;> cases bt w k <;> simp <;> omega
theorem popc_sub {a w : Int32} (ha : ∀ i, i < 32 → 16 ≤ i → bt a i = false) (hw : ∀ i, i < 32 → bt w i = true → bt a i = true) : popc a - popc w = popc (a &&& (w ^^^ (-1))) := by
  have e := pcb_sub hw 16 (by decide)
  rw [popc_16 ha, popc_16 (x := w) (fun i h1 h2 => by
    cases hq : bt w i with
    | false => rfl
    | true => have := hw i h1 hq; rw [ha i h1 h2] at this; cases this), popc_16 (x := a &&& (w ^^^ (-1))) (fun i h1 h2 => by rw [b_and, ha i h1 h2]; rfl), pk_sub (by omega)]
  congr 1; omega
/-! Errors happen in products alone. -/
def NB (p : Nat) (τ' τ : xS) : Prop := ∀ q i, i < 32 → i ≠ p → bt (τ' 84 q) i = bt (τ 84 q) i
theorem NB.rf {p : Nat} (τ : xS) : NB p τ τ := fun _ _ _ _ => rfl
theorem NB.tr {p : Nat} {a b c : xS} (h : NB p a b) (g : NB p b c) : NB p a c := fun q i h1 h2 => (h q i h1 h2).trans (g q i h1 h2)
theorem NB.up {p : Nat} {f : xS → Int32 → xS} (hf : ∀ τ i, NB p (f τ i) τ) : ∀ k τ, NB p (upN f k τ) τ
  | 0, τ => NB.rf τ
  | k + 1, τ => by rw [upN_s]; exact (hf _ _).tr (NB.up hf k τ)
theorem NB.row {p : Nat} {a b : xS} (h : a 84 = b 84) : NB p a b := fun q i _ _ => by rw [h]
section NB
variable {p : Nat}
theorem NB_nte (hp : p < 32) (σ : xS) (kd el : Int32) : NB p (nte σ kd el (nI p)) σ := by
  intro q i hi hne
  unfold nte
  by_cases hc : ¬ nteP kd el < 0 ∧ ¬ nI 600 ≤ nteP kd el
  · unfold vPut vAt
    rw [if_pos hc, if_pos hc]
    by_cases e : q = (nteP kd el).toNatClampNeg
    · subst e
      rw [xw_at, b_or, b_one hp hi, decide_eq_false hne, Bool.or_false]
    · rw [xw_other e]
  · unfold vPut
    rw [if_neg hc]
theorem NB_LS (hp : p < 32) (τ : xS) (i : Int32) : NB p (ckLS (nI p) τ i) τ := by
  unfold ckLS; split
  · exact NB_nte hp _ _ _
  · exact NB.rf _
theorem NB_C1 (hp : p < 32) (τ : xS) (i : Int32) : NB p (ckC1 (nI p) τ i) τ := by
  unfold ckC1; split
  · exact NB_nte hp _ _ _
  · exact NB.rf _
theorem NB_CS (hp : p < 32) (τ : xS) (i : Int32) : NB p (ckCS (nI p) τ i) τ := by
  unfold ckCS; split
  · exact (NB_nte hp _ _ _).tr (NB_C1 hp _ _)
  · exact NB_C1 hp _ _
theorem NB_M1 (hp : p < 32) (τ : xS) (i : Int32) : NB p (ckM1 (nI p) τ i) τ := by
  unfold ckM1; split
  · exact NB_nte hp _ _ _
  · exact NB.rf _
theorem NB_M2 (hp : p < 32) (τ : xS) (i : Int32) : NB p (ckM2 (nI p) τ i) τ := by
  unfold ckM2; split
  · exact NB_nte hp _ _ _
  · exact NB.rf _
theorem NB_M3 (hp : p < 32) (τ : xS) (i : Int32) : NB p (ckM3 (nI p) τ i) τ := by
  unfold ckM3; split
  · exact NB_nte hp _ _ _
  · exact NB.rf _
theorem NB_MS (hp : p < 32) (τ : xS) (i : Int32) : NB p (ckMS (nI p) τ i) τ := by
  unfold ckMS ckM0; split
  · exact (NB_M3 hp _ _).tr ((NB_M2 hp _ _).tr (NB_M1 hp _ _))
  · split
    · exact NB_nte hp _ _ _
    · exact NB.rf _
theorem NB_ES (hp : p < 32) (τ : xS) (i : Int32) : NB p (ckES (nI p) τ i) τ := by
  unfold ckES; split
  · exact NB.rf _
  · exact NB_nte hp _ _ _
theorem NB_XS (hp : p < 32) (τ : xS) (i : Int32) : NB p (ckXS (nI p) τ i) τ := by
  unfold ckXS; split
  · exact NB_nte hp _ _ _
  · exact NB.rf _
theorem NB_cl (hp : p < 32) (τ : xS) : NB p (clP τ (nI p)) τ := by
  unfold clP ckX ckE ckM ckC ckL
  refine (NB.up (NB_XS hp) _ _).tr ((NB.up (NB_ES hp) _ _).tr ((NB.up (NB_MS hp) _ _).tr ((NB.up (NB_CS hp) _ _).tr ((NB.up (NB_LS hp) _ _).tr (NB.row ?_)))))
  rw [gts_keep (by decide) (by decide), look_84]
end NB
theorem err_in {σ : xS} (h : Pg σ) (τ : xS) : ∀ k, k ≤ 16 → ∀ q, q < 600 → ∀ i, i < 32 → bt (upN (insS (allI σ)) k (vFill τ 84 600 0) 84 q) i = true → i < k ∧ mPr σ (nI i) = true := by
  intro k
  induction k with
  | zero =>
    intro _ q hq i hi hb
    rw [upN, vFill_at hq, b_0] at hb; cases hb
  | succ k ih =>
    intro hk q hq i hi hb
    rw [upN_s] at hb
    have e1 : isInB (allI σ) (nI k) = mPr σ (nI k) := isPr_eq h (nI k)
    generalize hU : upN (insS (allI σ)) k (vFill τ 84 600 0) = U at hb ih
    have s1 : insS (allI σ) U (nI k) = if mPr σ (nI k) = true then clP U (nI k) else U := by
      unfold insS; rw [e1]; rfl
    rw [s1] at hb
    by_cases hp : mPr σ (nI k) = true
    · rw [if_pos hp] at hb
      by_cases g : i = k
      · subst g; exact ⟨by omega, hp⟩
      · rw [NB_cl (show k < 32 by omega) U q i hi g] at hb
        have := ih (by omega) q hq i hi hb
        exact ⟨by omega, this.2⟩
    · rw [if_neg hp] at hb
      have := ih (by omega) q hq i hi hb
      exact ⟨by omega, this.2⟩
theorem rfo_or {A : Nat → Int32} {i : Nat} : ∀ k, bt (rfo (fun d q => d ||| A q) 0 A k) i = true → ∃ q, q < k ∧ bt (A q) i = true := by
  intro k
  induction k with
  | zero => intro h; rw [rfo, b_0] at h; cases h
  | succ k ih =>
    intro h
    rw [rfo] at h
    by_cases e : A k = 0
    · rw [if_pos e] at h
      obtain ⟨q, q1, q2⟩ := ih h
      exact ⟨q, by omega, q2⟩
    · rw [if_neg e, b_or, Bool.or_eq_true] at h
      rcases h with h | h
      · obtain ⟨q, q1, q2⟩ := ih h
        exact ⟨q, by omega, q2⟩
      · exact ⟨k, by omega, h⟩
theorem share_eq {σ τ M : xS} (h : Pg σ) (hq : Eqc τ σ) (R : Re (insB τ (allI τ)) M) : popc (mAll σ) - popc (wrg (insA τ)) = popc (mRgN M (mAll σ) 650) ∧ ∃ a, a < 17 ∧ popc (mRgN M (mAll σ) 650) = nI a := by
  have E := ER_of R
  rw [← insA_n] at E
  have ha : ∀ i, i < 32 → 16 ≤ i → bt (mAll σ) i = false := fun i h1 h2 => by rw [mAll_bt h1, decide_eq_false (by omega)]; rfl
  have hR := E.right (mAll σ)
  have hw : ∀ i, i < 32 → bt (wrg (insA τ)) i = true → bt (mAll σ) i = true := fun i h1 h2 => by
    rw [E.wg] at h2
    obtain ⟨q, q1, q2⟩ := rfo_or 600 h2
    have e84 : insA τ 84 = insB τ (allI τ) 84 := by rw [insA_n]; exact numb_keep (by decide) (by decide) _
    rw [e84, allI_c hq] at q2
    have := err_in h τ 16 (Nat.le_refl _) q q1 i h1 q2
    rw [mAll_bt h1, decide_eq_true this.1, this.2]; rfl
  refine ⟨by rw [← hR]; exact popc_sub ha hw, pcb (mRgN M (mAll σ) 650) 16, ?_, ?_⟩
  · have := pcb_le (mRgN M (mAll σ) 650) 16; omega
  · refine popc_16 (fun i h1 h2 => ?_)
    rw [← hR, b_and, ha i h1 h2]; rfl
theorem popc_all (σ : xS) : ∃ b, b < 17 ∧ popc (mAll σ) = nI b :=
  ⟨pcb (mAll σ) 16, by have := pcb_le (mAll σ) 16; omega, popc_16 (fun i h1 h2 => by rw [mAll_bt h1, decide_eq_false (by omega)]; rfl)⟩
theorem nan_of {x y : Int32} (hx : ∃ a, a < 17 ∧ x = nI a) (hy : ∃ b, b < 17 ∧ y = nI b) (h0 : ¬ y = 0) : vf_n64 (FP.ddiv (FP.i2d x) (FP.i2d y)) := by
  obtain ⟨a, ha, rfl⟩ := hx
  obtain ⟨b, hb, rfl⟩ := hy
  rcases nan_ok a ha b hb with e | e
  · subst e; exact absurd rfl h0
  · exact e

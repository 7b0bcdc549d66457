/-! The answers over all products. -/
theorem or_0 (x : Int32) : x ||| 0 = x := b_ext (fun i _ => by rw [b_or, b_0, Bool.or_false])
theorem and_f (a : Int32) : a &&& (0 ^^^ (-1)) = a := b_ext (fun i hi => by rw [b_and, b_xor, b_m1 i hi, b_0]; cases bt a i <;> rfl)
theorem and_s (a r x : Int32) : (a &&& (r ^^^ (-1))) &&& (x ^^^ (-1)) = a &&& ((r ||| x) ^^^ (-1)) := b_ext (fun i hi => by
  rw [b_and, b_and, b_and, b_xor, b_xor, b_xor, b_or, b_m1 i hi]
  cases bt a i <;> cases bt r i <;> cases bt x i <;> rfl)
section AN
variable {I M : xS}
theorem ER.found (E : ER I M) {j : Nat} (hj : j < zc (I 84) 600) : ∃ q, q < 600 ∧ ¬ I 84 q = 0 ∧ j = zc (I 84) q ∧ (I 86 j).toNatClampNeg = q := by
  obtain ⟨q, q1, q2, q3⟩ := zc_on 600 j hj
  refine ⟨q, q1, q2, q3.symm, ?_⟩
  rw [← q3, E.2.1 q q1 q2, nI_clamp (by omega)]
theorem ER.wg (E : ER I M) : wrg I = rfo (fun d q => d ||| I 84 q) 0 (I 84) 600 := by
  rw [← E.fold]
  have e : ∀ k, k ≤ zc (I 84) 600 → wrgN I k = cfo (fun d q => d ||| I 84 q) 0 (I 86) k := by
    intro k
    induction k with
    | zero => intro _; rfl
    | succ k ih =>
      intro hk
      obtain ⟨q, q1, q2, q3, q4⟩ := E.found (show k < _ by omega)
      rw [wrgN, cfo, ih (by omega), q4, q3, (E.vals q1 q2).2.2]
  unfold wrg
  rw [E.cnt]
  exact e _ (Nat.le_refl _)
theorem ER.low (E : ER I M) {F : Nat → Int32} (h : ∀ k, k < 50 → M 107 k = 0 → F (k + 1) = F k) : ∀ k, k ≤ 50 → F k = F 0 := by
  intro k
  induction k with
  | zero => intro _; rfl
  | succ k ih => intro hk; rw [h k (by omega) (E.2.2.2 k (by omega))]; exact ih (by omega)
theorem ER.right (E : ER I M) (a : Int32) : a &&& (wrg I ^^^ (-1)) = mRgN M a 650 := by
  rw [E.wg]
  have z : mRgN M a 50 = a := E.low (F := mRgN M a) (fun k _ h0 => by rw [mRgN, h0, and_f]) 50 (Nat.le_refl _)
  have e : ∀ k, k ≤ 600 → mRgN M a (50 + k) = a &&& (rfo (fun d q => d ||| I 84 q) 0 (I 84) k ^^^ (-1)) := by
    intro k
    induction k with
    | zero => intro _; rw [rfo, and_f]; exact z
    | succ k ih =>
      intro hk
      have hq := E.2.2.1 k (by omega)
      rw [← Nat.add_assoc, mRgN, ih (by omega), Nat.add_comm 50 k, ← hq, rfo]
      by_cases g : I 84 k = 0
      · rw [if_pos g, g, and_f]
      · rw [if_neg g, and_s]
  exact (e 600 (Nat.le_refl _)).symm
theorem ER.inN (E : ER I M) {c : Int32} (hc : vp_in c 16) : szI I c = mEIN M c 650 := by
  have hc32 : vp_in c 32 := vp_le hc (by decide)
  have s0 : mHas 0 c = false := by
    obtain ⟨i, hi, rfl⟩ := vp_ex hc32
    rw [mHas_bt hi, b_0]
  have e1 : szI I c = rfo (fun d q => if isInB (I 84 q) c = true then d + 1 else d) 0 (I 84) 600 := by
    rw [← E.fold]
    have e : ∀ k, k ≤ zc (I 84) 600 → szIN I c k = cfo (fun d q => if isInB (I 84 q) c = true then d + 1 else d) 0 (I 86) k := by
      intro k
      induction k with
      | zero => intro _; rfl
      | succ k ih =>
        intro hk
        obtain ⟨q, q1, q2, q3, q4⟩ := E.found (show k < _ by omega)
        have pv : prdO I (nI k) = I 84 q := by rw [q3]; exact (E.vals q1 q2).2.2
        rw [szIN, cfo, ih (by omega), q4, pv]
    unfold szI
    rw [E.cnt]
    exact e _ (Nat.le_refl _)
  have z : mEIN M c 50 = 0 := E.low (F := mEIN M c) (fun k _ h0 => by rw [mEIN, h0, s0, bI_f, Int32.add_zero]) 50 (Nat.le_refl _)
  rw [e1]
  have e : ∀ k, k ≤ 600 → mEIN M c (50 + k) = rfo (fun d q => if isInB (I 84 q) c = true then d + 1 else d) 0 (I 84) k := by
    intro k
    induction k with
    | zero => intro _; exact z
    | succ k ih =>
      intro hk
      have hq := E.2.2.1 k (by omega)
      rw [← Nat.add_assoc, mEIN, ih (by omega), Nat.add_comm 50 k, ← hq, rfo]
      by_cases g : I 84 k = 0
      · rw [if_pos g, g, s0, bI_f, Int32.add_zero]
      · rw [if_neg g, isIn_mHas hc32]
        cases mHas (I 84 k) c with
        | true => rw [if_pos rfl, bI_t]
        | false => rw [if_neg (by decide), bI_f, Int32.add_zero]
  exact (e 600 (Nat.le_refl _)).symm
theorem ER.dn (E : ER I M) (d : Int64) : deN I (I 207 0).toNatClampNeg d = mDeN M 650 d := by
  have e1 : deN I (I 207 0).toNatClampNeg d = rfo (fun d q => mixL (mixL (mixL d (nI ((q + 50) / 50)).toInt64) (nI ((q + 50) % 50)).toInt64) (I 84 q).toInt64) d (I 84) 600 := by
    rw [← E.fold, E.cnt]
    have e : ∀ k, k ≤ zc (I 84) 600 → deN I k d = cfo (fun d q => mixL (mixL (mixL d (nI ((q + 50) / 50)).toInt64) (nI ((q + 50) % 50)).toInt64) (I 84 q).toInt64) d (I 86) k := by
      intro k
      induction k with
      | zero => intro _; rfl
      | succ k ih =>
        intro hk
        obtain ⟨q, q1, q2, q3, q4⟩ := E.found (show k < _ by omega)
        have pv := E.vals q1 q2
        rw [← q3] at pv
        rw [deN, cfo, ih (by omega), q4, pv.1, pv.2.1, pv.2.2]
    exact e _ (Nat.le_refl _)
  rw [e1]
  have z : ∀ k, k ≤ 50 → mDeN M k d = d := by
    intro k
    induction k with
    | zero => intro _; rfl
    | succ k ih => intro hk; rw [mDeN_z (E.2.2.2 k (by omega))]; exact ih (by omega)
  have e : ∀ k, k ≤ 600 → mDeN M (50 + k) d = rfo (fun d q => mixL (mixL (mixL d (nI ((q + 50) / 50)).toInt64) (nI ((q + 50) % 50)).toInt64) (I 84 q).toInt64) d (I 84) k := by
    intro k
    induction k with
    | zero => intro _; exact z 50 (Nat.le_refl _)
    | succ k ih =>
      intro hk
      have hq := E.2.2.1 k (by omega)
      rw [← Nat.add_assoc, rfo]
      by_cases g : I 84 k = 0
      · rw [if_pos g, mDeN_z (by rw [Nat.add_comm, ← hq]; exact g)]; exact ih (by omega)
      · have d1 : nI (50 + k) / 50 = nI ((k + 50) / 50) := by rw [Nat.add_comm]; exact pk_div (d := 50) (by omega) (by decide) (by decide)
        have d2 : nI (50 + k) - nI (50 + k) / 50 * 50 = nI ((k + 50) % 50) := by rw [Nat.add_comm]; exact pk_rem (d := 50) (by omega) (by decide) (by decide)
        rw [if_neg g, mDeN_n (by rw [Nat.add_comm, ← hq]; exact g), ih (by omega), d2, d1, Nat.add_comm 50 k, ← hq]
        rfl
  exact (e 600 (Nat.le_refl _)).symm
end AN
/-! Where elements are, as sets. -/
theorem pres_eq {σ : xS} (h : Pg σ) {s j : Nat} (hs : s < 4) (hj : j < cnt σ s) : wT σ (nI s) (nI j) &&& mAll σ = mPres σ (nI s) (nI j) := by
  refine b_ext (fun i hi => ?_)
  unfold mPres
  rw [b_and, mAll_bt hi, maskI_bt _ hi 16 (by decide)]
  by_cases hp : i < 16
  · rw [wT_bt h hs hj hp, decide_eq_true hp, Bool.true_and, Bool.true_and, Bool.and_comm]
  · rw [wT_big h hs hj (by omega), decide_eq_false hp]; rfl
theorem mPres_c {ρ σ : xS} (h : Eqm ρ σ) : mPres ρ = mPres σ := by
  funext s i; unfold mPres; rw [mPr_c h, mIs_c h]
theorem mAll_c {ρ σ : xS} (h : Eqm ρ σ) : mAll ρ = mAll σ := by unfold mAll; rw [mPr_c h]
/-! The culprit. -/
theorem mTF_eq {M σ : xS} (hm : Eqm M σ) (o f : Int32) : mTF M o f = cfgI o f &&& mAll σ := by
  refine b_ext (fun i hi => ?_)
  unfold mTF
  rw [b_and, mAll_bt hi, maskI_bt _ hi 16 (by decide), mPr_c hm]
  by_cases hp : i < 16
  · rw [cfg_bt hp, decide_eq_true hp, Bool.true_and, Bool.true_and, Bool.and_comm]
  · rw [cfg_big (by omega), decide_eq_false hp]; rfl
theorem cfg_bad {o f : Int32} (h : ¬ o &&& f = 0) : cfgI o f = 0 := by
  refine b_ext (fun i hi => ?_)
  rw [b_0]
  by_cases hp : i < 16
  · rw [cfg_bt hp]
    cases h1 : decide (o &&& (nI i ^^^ (-1)) = 0) with
    | false => rfl
    | true =>
      cases h2 : decide (f &&& nI i = 0) with
      | false => rfl
      | true =>
        exfalso
        refine h (b_ext (fun j hj => ?_))
        have g1 := congrArg (fun z => bt z j) (of_decide_eq_true h1)
        have g2 := congrArg (fun z => bt z j) (of_decide_eq_true h2)
        simp only [b_and, b_xor, b_m1 j hj, b_0] at g1 g2
        rw [b_and, b_0]
        revert g1 g2
        cases bt o j <;> cases bt f j <;> cases bt (nI i) j <;> decide
  · exact cfg_big (by omega)
theorem popc_8 : ∀ k, k < 256 → popc (nI (k / 16)) + popc (nI (k % 16)) = popc (nI k) ∧ ¬ 9 ≤ popc (nI k) := by decide +kernel
def enc (x : Int32) : Int32 × Int32 := (x, if x = -1 then 9 else popc x)
theorem cul_step {M σ : xS} (hm : Eqm M σ) (rt : Int32) {k : Nat} (hk : k < 256) {b : Int32} : culS (mAll σ) rt (nI (k / 16)) (nI (k % 16)) (enc b) = enc (mCuS M rt (nI k) b) := by
  have d1 : nI k / 16 = nI (k / 16) := pk_div (d := 16) (by omega) (by decide) (by decide)
  have d2 : nI k - nI k / 16 * 16 = nI (k % 16) := pk_rem (d := 16) (by omega) (by decide) (by decide)
  obtain ⟨p1, p2⟩ := popc_8 k hk
  have hc : (16 : Int32) * nI (k / 16) + nI (k % 16) = nI k := by
    show nI 16 * nI (k / 16) + nI (k % 16) = _
    rw [pk_mul, nI_add]; congr 1; omega
  have hk1 : ¬ nI k = -1 := nI_neg1 (by omega)
  unfold culS mCuS
  rw [d2, d1, mTF_eq hm, p1, hc]
  generalize hT : cfgI (nI (k / 16)) (nI (k % 16)) &&& mAll σ = T
  by_cases h1 : nI (k / 16) &&& nI (k % 16) = 0
  · rw [if_neg (c := ¬ nI (k / 16) &&& nI (k % 16) = 0) (fun q => q h1)]
    by_cases h2 : T = 0
    · rw [if_pos (c := T = 0) h2, if_neg (fun q => q.1 h2)]
    · rw [if_neg (c := T = 0) h2]
      by_cases h3 : T &&& rt = 0
      · rw [if_neg (c := ¬ T &&& rt = 0) (fun q => q h3)]
        by_cases h4 : b = -1
        · subst h4
          rw [if_pos (c := (-1 : Int32) = -1) rfl, if_pos ⟨h2, h3, by unfold enc; rw [if_pos rfl]; exact p2⟩]
          unfold enc; rw [if_neg hk1]
        · have e9 : (enc b).2 = popc b := if_neg h4
          rw [if_neg (c := b = -1) h4, e9]
          by_cases h5 : popc b ≤ popc (nI k)
          · rw [if_pos (c := popc b ≤ popc (nI k)) h5, if_neg (fun q => q.2.2 h5)]
          · rw [if_neg (c := popc b ≤ popc (nI k)) h5, if_pos ⟨h2, h3, h5⟩]
            unfold enc; rw [if_neg hk1]
      · rw [if_pos (c := ¬ T &&& rt = 0) h3, if_neg (fun q => h3 q.2.1)]
  · rw [if_pos (c := ¬ nI (k / 16) &&& nI (k % 16) = 0) h1, if_neg (fun q => q.1 (by rw [← hT, cfg_bad h1]; exact Int32.zero_and))]
theorem cul_in {M σ : xS} (hm : Eqm M σ) (rt : Int32) {o : Nat} (ho : o < 16) : ∀ f, f ≤ 16 → culI (mAll σ) rt (nI o) f (enc (mCuN M rt (16 * o))) = enc (mCuN M rt (16 * o + f)) := by
  intro f
  induction f with
  | zero => intro _; rfl
  | succ f ih =>
    intro hf
    have st := cul_step hm rt (k := 16 * o + f) (by omega) (b := mCuN M rt (16 * o + f))
    rw [show (16 * o + f) / 16 = o by omega, show (16 * o + f) % 16 = f by omega] at st
    rw [culI, ih (by omega), ← Nat.add_assoc, mCuN, st]
theorem cul_out {M σ : xS} (hm : Eqm M σ) (rt : Int32) : ∀ o, o ≤ 16 → culO (mAll σ) rt o = enc (mCuN M rt (16 * o)) := by
  intro o
  induction o with
  | zero => intro _; rfl
  | succ o ih =>
    intro ho
    rw [culO, ih (by omega), cul_in hm rt (by omega) 16 (Nat.le_refl _)]
    rfl

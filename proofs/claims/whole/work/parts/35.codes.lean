/-! The codes of both sides are the same. -/
theorem mIn_lit {m : Nat} (hm : m + 1 < 2 ^ 31) (x : Int32) : mIn x 0 (nI m) = (decide (¬ x < 0) && decide (¬ nI (m + 1) ≤ x)) := by
  unfold mIn
  congr 1
  rw [decide_eq_decide, Int32.lt_iff_toInt_lt, Int32.le_iff_toInt_le, nI_toInt hm, nI_toInt (by omega)]
  omega
theorem mIn_cnt {n : Nat} (hn : n < 2 ^ 30) (x : Int32) : mIn x 0 (nI n - 1) = (decide (¬ x < 0) && decide (¬ nI n ≤ x)) := by
  cases n with
  | zero =>
    show mIn x 0 (-1) = _
    unfold mIn
    by_cases h : x < 0
    · simp [h]
    · rw [decide_eq_true h, Bool.true_and, Bool.true_and, decide_eq_decide, Int32.lt_iff_toInt_lt, Int32.le_iff_toInt_le]
      rw [show (-1 : Int32).toInt = -1 by decide, show (nI 0).toInt = 0 by decide]
      omega
  | succ m => rw [nI_pred, mIn_lit (by omega)]
theorem clamp0 : (0 : Int32).toNatClampNeg = 0 := by decide
theorem t0_E {S σ : xS} (h : Eqm S σ) : Eqm (t0 S) σ := fun r g => by
  have e : t0 S r = S r := xw_ne _ _ _ (by omega)
  rw [e]; exact h r g
theorem has_vp {σ : xS} {q n : Nat} (hq : σ q 0 = nI n) (hn : n < 2 ^ 30) {x : Int32} (h : cHas σ q x = true) : vp_in x n := by
  unfold cHas at h
  rw [Bool.and_eq_true, decide_eq_true_eq, decide_eq_true_eq, hq] at h
  exact vp_in_of2 (by omega) h.1 h.2
theorem has_of {σ : xS} {q n : Nat} (hq : σ q 0 = nI n) (hn : n < 2 ^ 30) {x : Int32} (h : vp_in x n) : cHas σ q x = true := by
  obtain ⟨j, hj, rfl⟩ := vp_ex h
  unfold cHas
  rw [hq, decide_eq_true (nI_pos (by omega)), decide_eq_true (nI_ge hj (by omega))]; rfl
section CD
variable {σ S : xS}
theorem q201 (h : Pg σ) : σ 201 0 = nI (cnt σ 0) := by rw [h.C0.1]; exact h.n0.1
theorem q202 (h : Pg σ) : σ 202 0 = nI (cnt σ 1) := by rw [h.C1.1]; exact h.n1.1
theorem q203 (h : Pg σ) : σ 203 0 = nI (cnt σ 2) := by rw [h.C2.1]; exact h.n2.1
theorem q204 (h : Pg σ) : σ 204 0 = nI (cnt σ 3) := by rw [h.C3.1]; exact h.n3.1
theorem q205 (h : Pg σ) : σ 205 0 = nI (nEx σ) := by rw [h.N.2]; exact h.ne.1
theorem q200 (h : Pg σ) : σ 200 0 = nI (nRu σ) := by rw [h.N.1]; exact h.nr.1
theorem el_n (h : Pg σ) (hS : Eqm S σ) {s : Nat} (hs : s < 4) (x : Int32) : mEl S (nI s) x = cHas σ (szQ (nI s)) x := by
  have h24 := cnt_24 h hs
  have hq : σ (szQ (nI s)) 0 = σ 91 s := szQ_c h (fun _ _ => rfl) hs
  have e1 : σ 91 s = nI (cnt σ s) := by
    rcases s4c hs with rfl | rfl | rfl | rfl
    · exact h.n0.1
    · exact h.n1.1
    · exact h.n2.1
    · exact h.n3.1
  have e2 : mIn (nI s) 0 3 = true := by
    rcases s4c hs with rfl | rfl | rfl | rfl <;> decide
  unfold mEl cHas
  rw [nI_clamp (by omega), hS 91 (by decide), e2, Bool.true_and, hq, e1, mIn_cnt (by omega)]
theorem el_0 (h : Pg σ) (hS : Eqm S σ) (x : Int32) : mEl S 0 x = cHas σ 201 x := el_n h hS (s := 0) (by decide) x
theorem el_2 (h : Pg σ) (hS : Eqm S σ) (x : Int32) : mEl S 2 x = cHas σ 203 x := el_n h hS (s := 2) (by decide) x
theorem el_has (h : Pg σ) (hS : Eqm S σ) (t x : Int32) : mEl S t x = hasE σ t x := by
  by_cases hv : vp_in t 4
  · obtain ⟨s, hs, rfl⟩ := vp_ex hv
    rw [el_n h hS hs]
    have e1 : (¬ nI s < 0) := nI_pos (by omega)
    have e2 : ¬ (3 : Int32) < nI s := fun q => absurd ((nI_ltI (a := 3) (by decide) (show s < 2 ^ 31 by omega)).mp q) (by omega)
    unfold hasE
    rw [decide_eq_true e1, decide_eq_true e2, Bool.true_and, Bool.true_and]
  · have e1 : mIn t 0 3 = false := by
      cases hq : mIn t 0 3 with
      | false => rfl
      | true => exact absurd (mIn_sort hq) hv
    have e2 : ¬ (¬ t < 0 ∧ ¬ (3 : Int32) < t) := fun q => by
      have : mIn t 0 3 = true := by unfold mIn; rw [decide_eq_true q.1, decide_eq_true q.2]; rfl
      rw [e1] at this; cases this
    unfold mEl hasE
    rw [e1, Bool.false_and]
    by_cases g1 : t < 0
    · simp [g1]
    · by_cases g2 : (3 : Int32) < t
      · simp [g2]
      · exact absurd ⟨g1, g2⟩ e2
theorem ty_q (h : Pg σ) (hS : Eqm S σ) (t : Int32) : mTyB S t = hasT σ t := by
  unfold mTyB hasT; rw [el_0 h hS]
theorem ex_q (h : Pg σ) (hS : Eqm S σ) (x : Int32) : mExp S x = cHas σ 205 x := by
  have := h.ne.2
  unfold mExp cHas
  rw [hS 210 (by decide), q205 h, h.ne.1, mIn_cnt (by omega)]
theorem mth_q (h : Pg σ) (hS : Eqm S σ) (x : Int32) : mMth S x = mIsM σ x := by
  have hn := h.n2.2
  unfold mMth mIsM
  rw [el_2 h hS]
  cases hc : cHas σ 203 x with
  | false => rfl
  | true =>
    obtain ⟨j, hj, rfl⟩ := vp_ex (has_vp (q203 h) (by omega) hc)
    rw [Bool.true_and, Bool.true_and, vAt_n (by omega) (by decide), h.A.1.2.2.2.2.2.1, nI_clamp (by omega), hS 96 (by decide)]
    rcases (h.m j hj).1 with e | e <;> rw [e] <;> decide
theorem cond_q (on off : Int32) : mCond on off = condB on off := by
  have e : ∀ x : Int32, mIn x 0 15 = (decide (¬ x < 0) && decide (¬ (16 : Int32) ≤ x)) := fun x => mIn_lit (m := 15) (by decide) x
  unfold mCond condB
  rw [e, e, Bool.and_assoc, Bool.and_assoc]
theorem name_q (x : Int32) : mIn x 0 9 = nameB x := mIn_lit (m := 9) (by decide) x
theorem feat_q (x : Int32) : mIn x 0 3 = featB x := mIn_lit (m := 3) (by decide) x
theorem kind_q (x : Int32) : (mIn x 0 1 = true) ↔ (x = 0 ∨ x = 1) := by
  constructor
  · intro hx
    rw [show mIn x 0 1 = _ from mIn_lit (m := 1) (by decide) x, Bool.and_eq_true, decide_eq_true_eq, decide_eq_true_eq] at hx
    obtain ⟨j, hj, rfl⟩ := vp_ex (vp_in_of2 (n := 2) (by decide) hx.1 hx.2)
    rcases (show j = 0 ∨ j = 1 by omega) with rfl | rfl
    · exact Or.inl rfl
    · exact Or.inr rfl
  · rintro (rfl | rfl) <;> decide
/-- a bound not yet reached -/
theorem full_q {n m a b : Nat} (hn : n ≤ m) (hm : m < 2 ^ 31) : (if nI n < nI m then a else b) = (if nI n = nI m then b else a) := by
  by_cases e : n = m
  · subst e; rw [if_neg (nI_nlt (Nat.le_refl _) hm), if_pos rfl]
  · rw [if_pos (nI_lt (by omega) hm), if_neg (fun q => e ((nI_eq (by omega) hm).mp q))]
theorem k_rule (h : Pg σ) (hS : Eqm S σ) (k f g : Int32) : kRule σ k f g = qRule S k f g := by
  have z := t0_E hS
  unfold kRule qRule
  rw [z 209 (by decide), q200 h, h.nr.1, feat_q, feat_q]
  simp only [kind_q]
  rw [show (if nI (nRu σ) < 8 then 0 else 2) = (if nI (nRu σ) = 8 then 2 else 0) from full_q (m := 8) h.nr.2 (by decide)]
theorem k_dropR (h : Pg σ) (hS : Eqm S σ) : kDropR σ = qDropR S := by
  unfold kDropR qDropR
  rw [t0_E hS 209 (by decide), h.N.1]
theorem k_class (h : Pg σ) (hS : Eqm S σ) (on off : Int32) : kClass σ on off = qClass S on off := by
  unfold kClass qClass
  rw [t0_E hS 91 (by decide), q201 h, h.n0.1, cond_q]
  rw [show (if nI (cnt σ 0) < 8 then 0 else 2) = (if nI (cnt σ 0) = 8 then 2 else 0) from full_q (m := 8) h.n0.2 (by decide)]
theorem k_link (h : Pg σ) (hS : Eqm S σ) (o q on off : Int32) : kLink σ o q on off = qLink S o q on off := by
  have z := t0_E hS
  unfold kLink qLink
  rw [el_0 h z, el_0 h z, z 91 (by decide), q202 h, h.n1.1, cond_q]
  rw [show (if nI (cnt σ 1) < 12 then 0 else 3) = (if nI (cnt σ 1) = 12 then 3 else 0) from full_q (m := 12) h.n1.2 (by decide)]
theorem k_mem (h : Pg σ) (hS : Eqm S σ) : (if σ 203 0 < 24 then 0 else 3) = qMem S := by
  unfold qMem
  rw [hS 91 (by decide), q203 h, h.n2.1]
  exact full_q (m := 24) h.n2.2 (by decide)
theorem k_exp (h : Pg σ) (hS : Eqm S σ) (f : Nat) : (if σ 205 0 < 50 then 0 else f) = qExp S f := by
  unfold qExp
  rw [hS 210 (by decide), q205 h, h.ne.1]
  exact full_q (m := 50) h.ne.2 (by decide)
theorem k_field (h : Pg σ) (hS : Eqm S σ) (o n t on off : Int32) : kField σ o n t on off = qField S o n t on off := by
  have z := t0_E hS
  unfold kField qField
  rw [el_0 h z, ty_q h z, name_q, cond_q, k_mem h z]
theorem pars_q (h : Pg σ) (hS : Eqm S σ) (f g : Int32) : (hasPs σ f g = true) ↔ ((f = -1 ∨ mTyB S f = true) ∧ (g = -1 ∨ mTyB S g = true) ∧ (¬ f = -1 ∨ g = -1)) := by
  rw [ty_q h hS, ty_q h hS]
  unfold hasPs
  by_cases e : f = -1
  · rw [if_pos e]; simp [e]
    intro g1; exact Or.inl g1
  · rw [if_neg e]; simp [e]
theorem k_meth (h : Pg σ) (hS : Eqm S σ) (o n t f g on off : Int32) : kMeth σ o n t f g on off = qMeth S o n t f g on off := by
  have z := t0_E hS
  unfold kMeth qMeth
  rw [el_0 h z, k_mem h z]
  simp only [pars_q h z, ty_q h z, name_q, cond_q]
  by_cases c : cHas σ 201 o = true
  · rw [if_pos c, if_pos c]
    refine ite_congr (propext ?_) (fun _ => rfl) (fun _ => rfl)
    constructor
    · rintro ⟨a, b, ⟨c, d, e⟩, f⟩; exact ⟨b, c, d, e, a, f⟩
    · rintro ⟨b, c, d, e, a, f⟩; exact ⟨a, b, ⟨c, d, e⟩, f⟩
  · rw [if_neg c, if_neg c]
theorem k_new (h : Pg σ) (hS : Eqm S σ) (m c : Int32) : kNew σ m c = qNew S m c := by
  have z := t0_E hS
  unfold kNew qNew
  rw [mth_q h z, el_0 h z, k_exp h z]
theorem k_plain (h : Pg σ) (hS : Eqm S σ) (m : Int32) : kPlain σ m = qPlain S m := by
  have z := t0_E hS
  unfold kPlain qPlain
  rw [mth_q h z, k_exp h z]
theorem k_arg (h : Pg σ) (hS : Eqm S σ) (m i : Int32) : kArg σ m i = qArg S m i := by
  have z := t0_E hS
  unfold kArg qArg
  rw [mth_q h z, k_exp h z]
  by_cases c : mIsM σ m = true
  · have hc : cHas σ 203 m = true := by unfold mIsM at c; exact (Bool.and_eq_true_iff.mp c).1
    have hn := h.n2.2
    obtain ⟨j, hj, rfl⟩ := vp_ex (has_vp (q203 h) (by omega) hc)
    have w := h.m j hj
    have e : (¬ mPar σ (nI j) i = -1) ↔ (mIn i 0 (mPC (t0 S) (nI j) - 1) = true) := by
      have i2 := ix2 j (by omega)
      unfold mPC mPar
      rw [i2.1, i2.2, z 100 (by decide), vAt_n (show j < 24 by omega) (by decide), vAt_n (show j < 24 by omega) (by decide), h.A.2.1 j (by omega), h.A.2.2.1 j (by omega)]
      have m0 : mIn i 0 (0 - 1) = false := by
        rw [show mIn i 0 (0 - 1) = _ from mIn_cnt (n := 0) (by decide) i]
        by_cases g : i < 0
        · simp [g]
        · obtain ⟨y, hy, rfl⟩ := nI_of g
          simp [nI_pos' hy, nI_0]
      have m1 : (mIn i 0 (1 - 1) = true) ↔ i = 0 := by
        rw [show mIn i 0 (1 - 1) = _ from mIn_cnt (n := 1) (by decide) i, Bool.and_eq_true, decide_eq_true_eq, decide_eq_true_eq]
        constructor
        · rintro ⟨g1, g2⟩
          obtain ⟨y, hy, rfl⟩ := vp_ex (vp_in_of2 (n := 1) (by decide) g1 g2)
          rw [show y = 0 by omega]; rfl
        · rintro rfl; decide
      have m2 : (mIn i 0 (2 - 1) = true) ↔ (i = 0 ∨ i = 1) := by
        rw [← kind_q i]; rfl
      by_cases p1 : σ 100 (2 * j) = -1
      · rw [if_pos p1, m0]
        have p2 := w.2.2.2.2.2.2 p1
        rw [p1, p2]
        by_cases g : i = 0
        · simp [g]
        · by_cases g2 : i = 1
          · simp [g2]
          · simp [g, g2]
      · rw [if_neg p1]
        by_cases p2 : σ 100 (2 * j + 1) = -1
        · rw [if_pos p2, m1, p2]
          by_cases g : i = 0
          · simp [g, p1]
          · by_cases g2 : i = 1
            · simp [g2]
            · simp [g, g2]
        · rw [if_neg p2, m2]
          by_cases g : i = 0
          · simp [g, p1]
          · by_cases g2 : i = 1
            · simp [g2, p2]
            · simp [g, g2]
    simp only [e]
  · rw [if_neg (fun q => c q.1), if_neg (fun q => c q.1)]
theorem k_fof (h : Pg σ) (hS : Eqm S σ) (x n : Int32) : kFOf σ x n = qFOf S x n := by
  have z := t0_E hS
  unfold kFOf qFOf
  rw [ex_q h z, name_q, k_exp h z]
theorem m51 (h : Pg σ) {x : Int32} (hx : vp_in x (nEx σ)) : vAt 50 (σ 51) x = σ 103 x.toNatClampNeg := by
  have := h.ne.2
  obtain ⟨j, hj, rfl⟩ := vp_ex hx
  rw [vAt_n (by omega) (by decide), h.A.1.2.2.2.2.2.2.2.2.2.2.2, nI_clamp (by omega)]
theorem k_call (h : Pg σ) (hS : Eqm S σ) (x n f g : Int32) : kCall σ x n f g = qCall S x n f g := by
  have z := t0_E hS
  have hn := h.ne.2
  unfold kCall qCall
  rw [ex_q h z, ex_q h z, ex_q h z, name_q, k_exp h z, z 103 (by decide)]
  have o : ∀ y, (eOrN σ y = true) ↔ (y = -1 ∨ cHas σ 205 y = true) := fun y => by unfold eOrN; simp
  simp only [o]
  by_cases c : cHas σ 205 x = true ∧ (f = -1 ∨ cHas σ 205 f = true) ∧ (g = -1 ∨ cHas σ 205 g = true)
  · rw [if_pos c, if_pos c]
    obtain ⟨c1, c2, c3⟩ := c
    have t : ∀ y, (y = -1 ∨ cHas σ 205 y = true) → ((eTog σ x y = true) ↔ (y = -1 ∨ σ 103 y.toNatClampNeg = σ 103 x.toNatClampNeg)) := fun y hy => by
      unfold eTog
      by_cases e : y = -1
      · simp [e]
      · have c4 := hy.resolve_left e
        rw [m51 h (has_vp (q205 h) (by omega) c1), m51 h (has_vp (q205 h) (by omega) c4)]
        simp [e]
    refine ite_congr (propext ?_) (fun _ => rfl) (fun _ => rfl)
    rw [t f c2, t g c3]
    refine and_congr_right (fun _ => ?_)
    refine and_congr ?_ Iff.rfl
    by_cases e : f = -1
    · by_cases e2 : g = -1 <;> simp [e, e2]
    · simp [e]
  · rw [if_neg c, if_neg c]
theorem k_res (h : Pg σ) (hS : Eqm S σ) (x on off : Int32) : kRes σ x on off = qRes S x on off := by
  have z := t0_E hS
  unfold kRes qRes
  rw [ex_q h z, z 91 (by decide), q204 h, h.n3.1, cond_q]
  rw [show (if nI (cnt σ 3) < 16 then 0 else 3) = (if nI (cnt σ 3) = 16 then 3 else 0) from full_q (m := 16) h.n3.2 (by decide)]
theorem k_set (h : Pg σ) (hS : Eqm S σ) (t i on off : Int32) : kSet σ t i on off = qSet S t i on off := by
  unfold kSet qSet
  rw [el_has h hS, cond_q]
theorem k_dropX (h : Pg σ) (hS : Eqm S σ) : kDropX σ = qDropX S := by
  unfold kDropX qDropX
  rw [t0_E hS 91 (by decide), h.C3.1]
theorem k_cnt (t : Int32) : kCnt t = qCnt t := by
  unfold kCnt qCnt
  rw [show mIn t 0 4 = _ from mIn_lit (m := 4) (by decide) t]
  refine ite_congr (propext ?_) (fun _ => rfl) (fun _ => rfl)
  rw [Bool.and_eq_true, decide_eq_true_eq, decide_eq_true_eq]
  refine and_congr_right (fun _ => ?_)
  rw [Int32.le_iff_toInt_le, Int32.le_iff_toInt_le, show (nI (4 + 1)).toInt = 5 by decide, show (4 : Int32).toInt = 4 by decide]
  omega
theorem k_pres (h : Pg σ) (hS : Eqm S σ) (t i : Int32) : kPres σ t i = qPres S t i := by
  unfold kPres qPres
  rw [el_has h (t0_E hS)]
theorem k_par (h : Pg σ) (hS : Eqm S σ) (o c : Int32) : kPar σ o c = qPar S o c := by
  have z := t0_E hS
  unfold kPar qPar
  rw [el_0 h z, isPr_eq h, mPr_c z]
theorem k_bel (h : Pg σ) (hS : Eqm S σ) (a b c : Int32) : kBel σ a b c = qBel S a b c := by
  unfold kBel qBel
  rw [el_0 h hS, el_0 h hS, isPr_eq h, mPr_c hS]
theorem k_find (h : Pg σ) (hS : Eqm S σ) (o n c : Int32) : kFind σ o n c = qFind S o n c := by
  have z := t0_E hS
  unfold kFind qFind
  rw [el_0 h z, name_q, isPr_eq h, mPr_c z]
theorem k_typ (h : Pg σ) (hS : Eqm S σ) (x c : Int32) : kTyp σ x c = qTyp S x c := by
  have z := t0_E hS
  unfold kTyp qTyp
  rw [ex_q h z, isPr_eq h, mPr_c z]
theorem k_ein (h : Pg σ) (hS : Eqm S σ) (c : Int32) : kEIn σ c = qEIn S c := by
  unfold kEIn qEIn
  rw [isPr_eq h, mPr_c (t0_E hS)]
theorem k_err {I M : xS} (E : ER I M) (i w : Int32) : (if ¬ i < 0 ∧ ¬ I 207 0 ≤ i ∧ ¬ w < 0 ∧ w ≤ 2 then 0 else 1) = (if mIn i 0 (mCE M - 1) = true ∧ mIn w 0 2 = true then 0 else 1) := by
  have hz := zc_le (I 84) 600
  rw [← E.count, E.1, mIn_cnt (by omega), show mIn w 0 2 = _ from mIn_lit (m := 2) (by decide) w]
  refine ite_congr (propext ?_) (fun _ => rfl) (fun _ => rfl)
  rw [Bool.and_eq_true, Bool.and_eq_true, decide_eq_true_eq, decide_eq_true_eq, decide_eq_true_eq, decide_eq_true_eq, and_assoc]
  refine and_congr_right (fun _ => and_congr_right (fun _ => and_congr_right (fun _ => ?_)))
  rw [Int32.le_iff_toInt_le, Int32.le_iff_toInt_le, show (nI (2 + 1)).toInt = 3 by decide, show (2 : Int32).toInt = 2 by decide]
  omega
end CD

/-! Types in one product: the class's row and the reference's array. -/
abbrev mRl (r : Nat) : Prop := (88 ≤ r ∧ r ≤ 105) ∨ r = 209 ∨ r = 210
def Eqm (ρ σ : xS) : Prop := ∀ r, mRl r → ρ r = σ r
section CG
variable {ρ σ : xS}
theorem mMt_c (h : Eqm ρ σ) : mMt ρ = mMt σ := by
  funext s i c; unfold mMt; rw [h 92 (by decide), h 93 (by decide)]
theorem mIs2_c (h : Eqm ρ σ) : mIs2 ρ = mIs2 σ := by
  funext i c; unfold mIs2; rw [mMt_c h, h 97 (by decide)]
theorem mIs_c (h : Eqm ρ σ) : mIs ρ = mIs σ := by
  funext s i c; unfold mIs; rw [mMt_c h, mIs2_c h, h 94 (by decide), h 95 (by decide), h 103 (by decide), h 101 (by decide)]
theorem mPa_c (h : Eqm ρ σ) : mPa ρ = mPa σ := by
  have e : mPaP ρ = mPaP σ := by funext o c k; unfold mPaP; rw [h 94 (by decide), mIs_c h]
  funext o c; unfold mPa; rw [e, h 95 (by decide), h 91 (by decide)]
theorem mBe_c (h : Eqm ρ σ) : mBe ρ = mBe σ := by
  have e : ∀ b c j a, mBeN ρ b c j a = mBeN σ b c j a := by
    intro b c j
    induction j with
    | zero => intro a; rfl
    | succ j ih => intro a; rw [mBeN, mBeN, mPa_c h, ih]
  funext a b c; unfold mBe; rw [e, mPa_c h]
theorem mFit_c (h : Eqm ρ σ) : mFit ρ = mFit σ := by
  funext t o c; unfold mFit; rw [mBe_c h]
theorem mMe_c (h : Eqm ρ σ) : mMe ρ = mMe σ := by
  have e : mMeP ρ = mMeP σ := by funext a n t c k; unfold mMeP; rw [h 97 (by decide), h 98 (by decide), h 96 (by decide), mIs2_c h]
  funext a n t c; unfold mMe; rw [e, h 91 (by decide)]
theorem mFi_c (h : Eqm ρ σ) : mFi ρ = mFi σ := by
  have e : ∀ n t c d s a, mFN ρ n t c d s a = mFN σ n t c d s a := by
    intro n t c d
    induction d with
    | zero => intro s a; rfl
    | succ d ih => intro s a; rw [mFN, mFN, mMe_c h, mPa_c h, ih]
  funext o n t c; unfold mFi; rw [e]
theorem mGone_c (h : Eqm ρ σ) : mGone ρ = mGone σ := by
  funext t c; unfold mGone; rw [mIs_c h]
theorem mPr_c (h : Eqm ρ σ) : mPr ρ = mPr σ := by
  have e : ∀ c k, mKN ρ c k = mKN σ c k := by
    intro c k
    induction k with
    | zero => rfl
    | succ k ih => rw [mKN, mKN, ih]; unfold mRBad; rw [h 88 (by decide), h 89 (by decide), h 90 (by decide)]
  funext c; unfold mPr; rw [e, h 209 (by decide)]
theorem mCt_c (h : Eqm ρ σ) : mCt ρ = mCt σ := by
  have e : ∀ o c k, mCtN ρ o c k = mCtN σ o c k := by
    intro o c k
    induction k with
    | zero => rfl
    | succ k ih => rw [mCtN, mCtN, ih, h 94 (by decide), mIs_c h]
  funext o c; unfold mCt; rw [e, h 91 (by decide)]
end CG
theorem vp9_tyk {x : Int32} (h : vp_in x 9) : tyk 8 x := by
  obtain ⟨j, hj, rfl⟩ := vp_ex h
  by_cases e : j = 8
  · subst e; exact Or.inl rfl
  · exact Or.inr (vp_in_nI (by omega) (by decide))
theorem tyk_le {c d : Nat} {x : Int32} (h : tyk c x) (hcd : c ≤ d) : tyk d x := h.imp id (fun q => vp_le q hcd)
theorem tyk_pos {x : Int32} (h : tyk 8 x) : ¬ x < 0 := by
  rcases h with rfl | h
  · decide
  · obtain ⟨j, hj, rfl⟩ := vp_ex h; exact nI_pos (by omega)
theorem tyk_m1 {x : Int32} (h : tyk 8 x) : ¬ x = -1 := fun e => tyk_pos h (by rw [e]; decide)
theorem tyH_n {u : xS} {p x : Nat} (h206 : u 206 0 = nI p) (hp : p < 16) (hx : x < 50) : tyH u (nI x) = u 81 (50 * p + x) := by
  unfold tyH tyIn tyP
  rw [h206]
  show vAt 800 (u 81) (nI p * nI 50 + nI x) = _
  rw [pk_mul, nI_add, vAt_n (by omega) (by decide), Nat.mul_comm]
theorem tyIn_n {u : xS} {p x : Nat} (hp : p < 16) (hx : x < 50) : tyIn u (nI x) (nI p) = u 81 (50 * p + x) := by
  unfold tyIn tyP
  show vAt 800 (u 81) (nI p * nI 50 + nI x) = _
  rw [pk_mul, nI_add, vAt_n (by omega) (by decide), Nat.mul_comm]
theorem mTI_n {r : xS} {p x : Nat} (hp : p < 16) (hx : x < 50) : mTI r (nI x) (nI p) = r 106 (50 * p + x) := by
  unfold mTI
  show r 106 (nI 50 * nI p + nI x).toNatClampNeg = _
  rw [ixC _ _ _ (by omega)]
/-- a part of an expression: none, or typed alike on both sides -/
def PT (u r : xS) (p : Nat) (x : Int32) : Prop := x = -1 ∨ ∃ y, y < 50 ∧ x = nI y ∧ u 81 (50 * p + y) = r 106 (50 * p + y) ∧ (r 106 (50 * p + y) = -1 ∨ tyk 8 (r 106 (50 * p + y)))
section PT
variable {σ u r : xS} {p : Nat}
theorem PT.ty {x : Int32} (h : PT u r p x) (h206 : u 206 0 = nI p) (hp : p < 16) (hx : ¬ x = -1) : tyH u x = mTI r x (nI p) ∧ (mTI r x (nI p) = -1 ∨ tyk 8 (mTI r x (nI p))) := by
  obtain ⟨y, hy, rfl, e1, e2⟩ := h.resolve_left hx
  rw [tyH_n h206 hp hy, mTI_n hp hy]
  exact ⟨e1, e2⟩
theorem PT.hT {x : Int32} (h : PT u r p x) (h206 : u 206 0 = nI p) (hp : p < 16) : hTN u x = !(decide (¬ x = -1) && decide (mTI r x (nI p) = -1)) := by
  unfold hTN
  by_cases hx : x = -1
  · simp [hx]
  · obtain ⟨e1, e2⟩ := h.ty h206 hp hx
    rw [e1]
    rcases e2 with e2 | e2
    · rw [e2]; simp [hx]
    · simp [hx, tyk_pos e2, tyk_m1 e2]
theorem PT.arg {x q : Int32} (h : PT u r p x) (v : Vw σ u p) (hr : Eqm r σ) (hp : p < 16) (hq : q = -1 ∨ tyk 8 q) (hn : ¬ x = -1 → ¬ mTI r x (nI p) = -1) : argF u x q = ((decide (x = -1) == decide (q = -1)) && (decide (x = -1) || mFit r (mTI r x (nI p)) q (nI p))) := by
  unfold argF
  by_cases hx : x = -1
  · rw [if_pos hx]; subst hx
    by_cases h2 : q = -1
    · simp [h2]
    · simp [h2, Ne.symm h2]
  · rw [if_neg hx]
    by_cases h2 : q = -1
    · rw [if_pos h2]; subst h2; simp [hx]
    · obtain ⟨e1, e2⟩ := h.ty v.2.1 hp hx
      rw [if_neg h2, e1, v.fit (e2.resolve_left (hn hx)) (hq.resolve_left h2), mFit_c hr]
      simp [hx, h2]
theorem mFT_1 {r : xS} {e c : Int32} (h : r 102 e.toNatClampNeg = 1) : mFT r e c = (0, 8) := by
  unfold mFT; rw [if_pos h]
theorem mFT_2 {r : xS} {e c : Int32} (h : r 102 e.toNatClampNeg = 2) : mFT r e c = (0, r 97 (r 103 e.toNatClampNeg).toNatClampNeg) := by
  unfold mFT; rw [if_neg (by rw [h]; decide), if_pos h]
theorem mFT_3 {r : xS} {e c : Int32} (h : r 102 e.toNatClampNeg = 3) : mFT r e c = (0, r 100 ((2 : Int32) * r 103 e.toNatClampNeg + r 104 e.toNatClampNeg).toNatClampNeg) := by
  unfold mFT; rw [if_neg (by rw [h]; decide), if_neg (by rw [h]; decide), if_pos h]
theorem mFT_0 {r : xS} {e c : Int32} (h : r 102 e.toNatClampNeg = 0) : mFT r e c = (if mIs r 0 (r 104 e.toNatClampNeg) c = true then (0, r 104 e.toNatClampNeg) else (8, -1)) := by
  unfold mFT; rw [if_neg (by rw [h]; decide), if_neg (by rw [h]; decide), if_neg (by rw [h]; decide), if_pos h]
theorem mFT_45 {r : xS} {e c : Int32} (h : r 102 e.toNatClampNeg = 4 ∨ r 102 e.toNatClampNeg = 5) : mFT r e c = (if mPNN r e c 3 = false then (0, -1) else if mOf r e c = 8 then (9, -1) else if mFd r e c = -1 then (10, -1) else if r 102 e.toNatClampNeg = 4 then (0, r 99 (mFd r e c).toNatClampNeg) else if mAcN r e (mFd r e c) c 2 = true then (0, r 99 (mFd r e c).toNatClampNeg) else (11, -1)) := by
  unfold mFT
  rw [if_neg (by rcases h with h | h <;> (rw [h]; decide)), if_neg (by rcases h with h | h <;> (rw [h]; decide)), if_neg (by rcases h with h | h <;> (rw [h]; decide)), if_neg (by rcases h with h | h <;> (rw [h]; decide))]
/-- what an expression's step on both sides gives -/
theorem ty_there (h : Pg σ) (v : Vw σ u p) (hr : Eqm r σ) (hp : p < 16) {k : Nat} (hk : k < nEx σ) (hP : ∀ i, i < 3 → PT u r p (σ 105 (3 * k + i))) :
    (if hPT u (nI k) = true then fndF u (nI k) else 0) = (mFT r (nI k) (nI p)).1 ∧ (if hPT u (nI k) = true ∧ fndF u (nI k) = 0 then faT u (nI k) else -1) = (mFT r (nI k) (nI p)).2 ∧ ((mFT r (nI k) (nI p)).2 = -1 ∨ tyk 8 (mFT r (nI k) (nI p)).2) ∧ ((mFT r (nI k) (nI p)).1 = 0 ∨ ∃ f, 8 ≤ f ∧ f ≤ 11 ∧ (mFT r (nI k) (nI p)).1 = nI f) := by
  have hn := h.ne.2
  have h8 := h.n0.2
  have h24 := h.n2.2
  have hk50 : k < 50 := by omega
  have hc : (nI k).toNatClampNeg = k := nI_clamp (by omega)
  obtain ⟨w1, w2, w3, w4, w5, w6, w7, w8⟩ := h.e k hk
  obtain ⟨a1, a44, a46, a53, a55, a57, a59⟩ := h.A
  obtain ⟨m, hm, em⟩ := vp_ex w1
  have wm := h.m m hm
  have c49 : vAt 50 (u 49) (nI k) = σ 102 k := by rw [vAt_n hk50 (by decide), v.q 49 (by decide), a1.2.2.2.2.2.2.2.2.2.2.1]
  have c51 : vAt 50 (u 51) (nI k) = σ 103 k := by rw [vAt_n hk50 (by decide), v.q 51 (by decide), a1.2.2.2.2.2.2.2.2.2.2.2]
  have c53 : ¬ σ 102 k = 1 → ¬ σ 102 k = 2 → vAt 50 (u 53) (nI k) = σ 104 k := fun g1 g2 => by rw [vAt_n hk50 (by decide), v.q 53 (by decide), a53 k hk50 g1 g2]
  have c55 : vAt 50 (u 55) (nI k) = σ 105 (3 * k + 0) := by rw [vAt_n hk50 (by decide), v.q 55 (by decide), a55 k hk50]; rfl
  have c57 : vAt 50 (u 57) (nI k) = σ 105 (3 * k + 1) := by rw [vAt_n hk50 (by decide), v.q 57 (by decide), a57 k hk50]
  have c59 : vAt 50 (u 59) (nI k) = σ 105 (3 * k + 2) := by rw [vAt_n hk50 (by decide), v.q 59 (by decide), a59 k hk50]
  have i3 : ∀ i, i < 3 → ((3 : Int32) * nI k + nI i).toNatClampNeg = 3 * k + i := fun i hi => ixC 3 k i (by omega)
  have bP : ∀ i, i < 3 → mPNb r (nI k) (nI p) i = (decide (¬ σ 105 (3 * k + i) = -1) && decide (mTI r (σ 105 (3 * k + i)) (nI p) = -1)) := fun i hi => by
    unfold mPNb; rw [i3 i hi, hr 105 (by decide)]
  have hHP : hPT u (nI k) = mPNN r (nI k) (nI p) 3 := by
    unfold hPT
    rw [c55, c57, c59, (hP 0 (by decide)).hT v.2.1 hp, (hP 1 (by decide)).hT v.2.1 hp, (hP 2 (by decide)).hT v.2.1 hp]
    rw [mPNN, mPNN, mPNN, mPNN, bP 0 (by decide), bP 1 (by decide), bP 2 (by decide), Bool.true_and, Bool.and_assoc]
  have hall : ¬ σ 102 k = 4 → ¬ σ 102 k = 5 → hPT u (nI k) = true := fun g1 g2 => by
    have z := w8 g1 g2
    rw [hHP, mPNN, mPNN, mPNN, mPNN, bP 0 (by decide), bP 1 (by decide), bP 2 (by decide), z 0 (by decide), z 1 (by decide), z 2 (by decide)]
    simp
  have r102 : r 102 (nI k).toNatClampNeg = σ 102 k := by rw [hc, hr 102 (by decide)]
  obtain ⟨K, hK, eK⟩ := vp_ex w3
  have hK6 : K = 0 ∨ K = 1 ∨ K = 2 ∨ K = 3 ∨ K = 4 ∨ K = 5 := by omega
  by_cases k45 : σ 102 k = 4 ∨ σ 102 k = 5
  · -- FIELD, CALL
    rw [mFT_45 (by rw [r102]; exact k45), r102, hHP]
    have n0 : ¬ σ 102 k = 0 := by rcases k45 with e | e <;> (rw [e]; decide)
    have n1 : ¬ σ 102 k = 1 := by rcases k45 with e | e <;> (rw [e]; decide)
    have n2 : ¬ σ 102 k = 2 := by rcases k45 with e | e <;> (rw [e]; decide)
    have n3 : ¬ σ 102 k = 3 := by rcases k45 with e | e <;> (rw [e]; decide)
    cases hM : mPNN r (nI k) (nI p) 3 with
    | false => exact ⟨by simp, by simp, Or.inl (by simp), Or.inl (by simp)⟩
    | true =>
      have hM2 := hM
      rw [mPNN, mPNN, mPNN, mPNN, bP 0 (by decide), bP 1 (by decide), bP 2 (by decide)] at hM2
      simp only [Bool.true_and, Bool.and_eq_true, Bool.not_eq_true', Bool.and_eq_false_iff, decide_eq_false_iff_not, Classical.not_not] at hM2
      obtain ⟨⟨t0, t1⟩, t2⟩ := hM2
      have ob : ¬ σ 105 (3 * k + 0) = -1 := (w6 k45).2
      have q0 := (hP 0 (by decide)).ty v.2.1 hp ob
      have tO : tyH u (vAt 50 (u 55) (nI k)) = mOf r (nI k) (nI p) := by
        rw [c55, q0.1]
        unfold mOf
        rw [show ((3 : Int32) * nI k).toNatClampNeg = 3 * k from by show (nI 3 * nI k).toNatClampNeg = _; rw [pk_mul, nI_clamp (by omega)], hr 105 (by decide)]
        rfl
      have tK : tyk 8 (mOf r (nI k) (nI p)) := by
        rw [← tO, c55, q0.1]
        exact q0.2.resolve_left (t0.resolve_left ob)
      simp only [if_true, true_and, Bool.true_eq_false, if_false]
      have F : fndF u (nI k) = (if mOf r (nI k) (nI p) = 8 then 9 else if useM u (nI k) = -1 then 10 else if σ 102 k = 4 then 0 else if argsF u (nI k) (useM u (nI k)) = true then 0 else 11) := by
        unfold fndF
        rw [c49, if_neg n0, if_neg (by rcases k45 with e | e <;> simp [e]), tO]
      rw [F]
      by_cases h8' : mOf r (nI k) (nI p) = 8
      · rw [if_pos h8', if_pos h8']
        exact ⟨rfl, if_neg (by decide), Or.inl rfl, Or.inr ⟨9, by decide, by decide, rfl⟩⟩
      · rw [if_neg h8', if_neg h8']
        have hU : useM u (nI k) = mFd r (nI k) (nI p) := by
          unfold useM mFd
          rw [tO, c53 n1 n2, c49, r102, hc, hr 104 (by decide), mFi_c hr]
          exact v.fi h (Or.inr (tK.resolve_left h8')) (w6 k45).1 (by by_cases e : σ 102 k = 5 <;> simp [e])
        rw [hU]
        by_cases h1 : mFd r (nI k) (nI p) = -1
        · rw [if_pos h1, if_pos h1]
          exact ⟨rfl, if_neg (by decide), Or.inl rfl, Or.inr ⟨10, by decide, by decide, rfl⟩⟩
        · rw [if_neg h1, if_neg h1]
          have hf : vp_in (mFd r (nI k) (nI p)) 24 := by
            unfold mFd at h1 ⊢
            rw [mFi_c hr] at h1 ⊢
            exact mFi_in h.V h1
          obtain ⟨f, hf24, ef⟩ := vp_ex hf
          have hA : faT u (nI k) = r 99 (mFd r (nI k) (nI p)).toNatClampNeg := by
            unfold faT
            rw [c49, if_neg n0, if_neg n1, if_neg n2, if_neg n3, hU, ef, vAt_n hf24 (by decide), nI_clamp (by omega), v.q 42 (by decide), a1.2.2.2.2.2.2.2.2.1, hr 99 (by decide)]
          have hB : tyk 8 (r 99 (mFd r (nI k) (nI p)).toNatClampNeg) := by
            rw [hr 99 (by decide)]; exact vp9_tyk (mv99 h.V hf)
          by_cases h4 : σ 102 k = 4
          · rw [if_pos h4, if_pos h4]
            exact ⟨rfl, by rw [if_pos rfl]; exact hA, Or.inr hB, Or.inl rfl⟩
          · rw [if_neg h4, if_neg h4]
            have hC : argsF u (nI k) (mFd r (nI k) (nI p)) = mAcN r (nI k) (mFd r (nI k) (nI p)) (nI p) 2 := by
              have x1 : ∀ i, i < 2 → mPt r (nI k) (nI i) = σ 105 (3 * k + (i + 1)) := fun i hi => by
                unfold mPt
                have e : ((3 : Int32) * nI k + 1 + nI i).toNatClampNeg = 3 * k + (i + 1) := by
                  show (nI 3 * nI k + nI 1 + nI i).toNatClampNeg = _
                  rw [pk_mul, nI_add, nI_add, nI_clamp (by omega)]; omega
                rw [e, hr 105 (by decide)]
              have x2 : ∀ i, i < 2 → mPr2 r (nI f) (nI i) = σ 100 (2 * f + i) := fun i hi => by
                unfold mPr2
                have e : ((2 : Int32) * nI f + nI i).toNatClampNeg = 2 * f + i := ixC 2 f i (by omega)
                rw [e, hr 100 (by decide)]
              have x3 : ∀ i, i < 2 → σ 100 (2 * f + i) = -1 ∨ tyk 8 (σ 100 (2 * f + i)) := fun i hi => by
                have := mv100 h.V (vp_in_nI (show 2 * f + i < 48 by omega) (by decide))
                rw [nI_clamp (by omega)] at this
                exact this.imp id vp9_tyk
              have p0 : mPar u (nI f) 0 = σ 100 (2 * f + 0) := by
                unfold mPar
                rw [if_pos rfl, vAt_n hf24 (by decide), v.q 44 (by decide), a44 f hf24]; rfl
              have p1 : mPar u (nI f) 1 = σ 100 (2 * f + 1) := by
                unfold mPar
                rw [if_neg (by decide), if_pos rfl, vAt_n hf24 (by decide), v.q 46 (by decide), a46 f hf24]
              have y1 := (hP 1 (by decide)).arg (q := σ 100 (2 * f + 0)) v hr hp (x3 0 (by decide)) (fun g => t1.resolve_left g)
              have y2 := (hP 2 (by decide)).arg (q := σ 100 (2 * f + 1)) v hr hp (x3 1 (by decide)) (fun g => t2.resolve_left g)
              unfold argsF
              rw [ef, c57, c59, p0, p1, y1, y2, mAcN, mAcN, mAcN, Bool.true_and]
              unfold mAc1
              rw [x1 0 (by decide), x1 1 (by decide), x2 0 (by decide), x2 1 (by decide)]
            rw [hC]
            cases hQ : mAcN r (nI k) (mFd r (nI k) (nI p)) (nI p) 2 with
            | true => 
              simp only [if_true]
              exact ⟨trivial, hA, Or.inr hB, Or.inl trivial⟩
            | false => exact ⟨by simp, by simp, Or.inl (by simp), Or.inr ⟨11, by decide, by decide, by simp; rfl⟩⟩
  · have k4 : ¬ σ 102 k = 4 := fun e => k45 (Or.inl e)
    have k5 : ¬ σ 102 k = 5 := fun e => k45 (Or.inr e)
    have hT := hall k4 k5
    rw [if_pos hT]
    simp only [hT, true_and]
    rcases hK6 with rfl | rfl | rfl | rfl | rfl | rfl
    · -- NEW
      have e0 : σ 102 k = 0 := eK
      obtain ⟨j, hj, ej⟩ := vp_ex (w4 e0)
      have ce := c53 (by rw [e0]; decide) (by rw [e0]; decide)
      have F : fndF u (nI k) = if mIs σ 0 (σ 104 k) (nI p) = true then 0 else 8 := by
        unfold fndF; rw [c49, if_pos e0, ce, v.th0 h (w4 e0)]
      have A : faT u (nI k) = σ 104 k := by unfold faT; rw [c49, if_pos e0, ce]
      rw [mFT_0 (by rw [r102]; exact e0), hc, hr 104 (by decide), mIs_c hr, F, A]
      cases hI : mIs σ 0 (σ 104 k) (nI p) with
      | true => exact ⟨by simp, by simp, Or.inr (by simp; exact Or.inr (vp_le (w4 e0) h8)), Or.inl (by simp)⟩
      | false => exact ⟨by simp, by simp, Or.inl (by simp), Or.inr ⟨8, by decide, by decide, by simp; rfl⟩⟩
    · -- NUMBER
      have e1 : σ 102 k = 1 := eK
      have F : fndF u (nI k) = 0 := by unfold fndF; rw [c49, if_neg (by rw [e1]; decide), if_pos (by rw [e1]; decide)]
      have A : faT u (nI k) = 8 := by unfold faT; rw [c49, if_neg (by rw [e1]; decide), if_pos e1]
      rw [mFT_1 (by rw [r102]; exact e1), F, A]
      exact ⟨rfl, if_pos rfl, Or.inr (Or.inl rfl), Or.inl rfl⟩
    · -- SELF
      have e2 : σ 102 k = 2 := eK
      have F : fndF u (nI k) = 0 := by unfold fndF; rw [c49, if_neg (by rw [e2]; decide), if_pos (by rw [e2]; decide)]
      have A : faT u (nI k) = σ 97 m := by
        unfold faT; rw [c49, if_neg (by rw [e2]; decide), if_neg (by rw [e2]; decide), if_pos e2, c51, em, vAt_n (show m < 24 by omega) (by decide), v.q 38 (by decide), a1.2.2.2.2.2.2.1]
      rw [mFT_2 (by rw [r102]; exact e2), F, A, hc, hr 103 (by decide), hr 97 (by decide), em, nI_clamp (show m < 2 ^ 31 by omega)]
      exact ⟨rfl, if_pos rfl, Or.inr (Or.inr (vp_le wm.2.1 h8)), Or.inl rfl⟩
    · -- ARGUMENT
      have e3 : σ 102 k = 3 := eK
      obtain ⟨i, hi, ei⟩ := vp_ex (w5 e3)
      have ce := c53 (by rw [e3]; decide) (by rw [e3]; decide)
      have F : fndF u (nI k) = 0 := by unfold fndF; rw [c49, if_neg (by rw [e3]; decide), if_pos (by rw [e3]; decide)]
      have A : faT u (nI k) = σ 100 (2 * m + i) := by
        unfold faT
        rw [c49, if_neg (by rw [e3]; decide), if_neg (by rw [e3]; decide), if_neg (by rw [e3]; decide), if_pos e3, c51, em, ce, ei]
        unfold mPar
        rcases (show i = 0 ∨ i = 1 by omega) with rfl | rfl
        · rw [if_pos (show nI 0 = 0 from rfl), vAt_n (show m < 24 by omega) (by decide), v.q 44 (by decide), a44 m (by omega)]; rfl
        · rw [if_neg (show ¬ nI 1 = 0 by decide), if_pos (show nI 1 = 1 from rfl), vAt_n (show m < 24 by omega) (by decide), v.q 46 (by decide), a46 m (by omega)]
      have ix : ((2 : Int32) * nI m + nI i).toNatClampNeg = 2 * m + i := ixC 2 m i (by omega)
      rw [mFT_3 (by rw [r102]; exact e3), F, A, hc, hr 103 (by decide), hr 104 (by decide), hr 100 (by decide), em, ei, ix]
      have hb := mv100 h.V (vp_in_nI (show 2 * m + i < 48 by omega) (by decide))
      rw [nI_clamp (by omega)] at hb
      exact ⟨rfl, if_pos rfl, hb.imp id vp9_tyk, Or.inl rfl⟩
    · exact absurd eK k4
    · exact absurd eK k5
end PT
/-! The two loops over the expressions, side by side. -/
theorem up2 {f g : xS → Int32 → xS} {τ ρ : xS} (P : Nat → xS → xS → Prop) (n : Nat) (h0 : P 0 τ ρ) (hs : ∀ k, k < n → ∀ τ ρ, P k τ ρ → P (k + 1) (f τ (nI k)) (g ρ (nI k))) : ∀ k, k ≤ n → P k (upN f k τ) (upN g k ρ) := by
  intro k
  induction k with
  | zero => intro _; exact h0
  | succ k ih => intro hk; rw [upN_s, upN_s]; exact hs k (by omega) _ _ (ih (by omega))
/-- the fault that the reference notes at an expression -/
def flt (σ r : xS) (p k : Nat) : Int32 := if mIs2 σ (σ 103 k) (nI p) = true then (mFT r (nI k) (nI p)).1 else 0
theorem mKT_keepE {σ ρ : xS} (h : Eqm ρ σ) (c i : Int32) : Eqm (mKT c ρ i) σ := fun r hr => by rw [mKT_keep (by omega) (by omega)]; exact h r hr
theorem Vw_of {σ τ τ' : xS} {p : Nat} (v : Vw σ τ p) (h : ∀ r, r ≠ 79 → r ≠ 81 → r ≠ 84 → r ≠ 86 → r ≠ 207 → τ' r = τ r) : Vw σ τ' p := by
  obtain ⟨v0, v1, v2, v3, v4, v5⟩ := v
  refine ⟨fun r hr => ?_, ?_, ?_, ?_, ?_, ?_⟩
  · rw [h r hr.2.2.2.2.1 hr.2.2.2.2.2.1 hr.2.2.2.2.2.2.1 hr.2.2.2.2.2.2.2.1 hr.2.2.2.2.2.2.2.2.2]; exact v0 r hr
  · rw [h 206 (by decide) (by decide) (by decide) (by decide) (by decide)]; exact v1
  · rw [h 71 (by decide) (by decide) (by decide) (by decide) (by decide)]; exact v2
  · rw [h 73 (by decide) (by decide) (by decide) (by decide) (by decide)]; exact v3
  · rw [h 75 (by decide) (by decide) (by decide) (by decide) (by decide)]; exact v4
  · rw [h 77 (by decide) (by decide) (by decide) (by decide) (by decide)]; exact v5
def TR (σ : xS) (p : Nat) (τ0 ρ0 : xS) (k : Nat) (τ ρ : xS) : Prop := (∀ r, r ≠ 79 → r ≠ 81 → τ r = τ0 r) ∧ Eqm ρ σ ∧ ρ = upN (mKT (nI p)) k ρ0 ∧ (∀ q, (q < 50 * p ∨ 50 * p + 50 ≤ q) → τ 81 q = τ0 81 q ∧ ρ 106 q = ρ0 106 q) ∧ ∀ e, e < k → τ 81 (50 * p + e) = ρ 106 (50 * p + e) ∧ (mIs2 σ (σ 103 e) (nI p) = true → τ 81 (50 * p + e) = -1 ∨ tyk 8 (τ 81 (50 * p + e))) ∧ (mIs2 σ (σ 103 e) (nI p) = false → τ 81 (50 * p + e) = -2) ∧ τ 79 e = flt σ (upN (mKT (nI p)) e ρ0) p e ∧ (flt σ (upN (mKT (nI p)) e ρ0) p e = 0 ∨ ∃ f, 8 ≤ f ∧ f ≤ 11 ∧ flt σ (upN (mKT (nI p)) e ρ0) p e = nI f)
theorem TR_step {σ τ0 ρ0 : xS} {p : Nat} (h : Pg σ) (v0 : Vw σ τ0 p) (hp : p < 16) {k : Nat} (hk : k < nEx σ) {τ ρ : xS} (T : TR σ p τ0 ρ0 k τ ρ) : TR σ p τ0 ρ0 (k + 1) (gtStep τ (nI k)) (mKT (nI p) ρ (nI k)) := by
  have hn := h.ne.2
  obtain ⟨t1, t2, t3, t5, t4⟩ := T
  have v : Vw σ τ p := Vw_of v0 (fun r g1 g2 _ _ _ => t1 r g1 g2)
  have w := h.e k hk
  have hP : mIs2 σ (σ 103 k) (nI p) = true → ∀ i, i < 3 → PT τ ρ p (σ 105 (3 * k + i)) := fun hI i hi => by
    rcases w.2.2.2.2.2.2.1 i hi with e | ⟨e1, e2⟩
    · exact Or.inl e
    · obtain ⟨y, hy, ey⟩ := vp_ex e1
      rw [ey, nI_clamp (by omega)] at e2
      have q := t4 y hy
      refine Or.inr ⟨y, by omega, ey, q.1, ?_⟩
      rw [← q.1]
      exact q.2.1 (by rw [e2]; exact hI)
  have eTh : isThB τ 2 (vAt 50 (τ 51) (nI k)) = mIs2 σ (σ 103 k) (nI p) := by
    rw [vAt_n (by omega) (by decide), v.q 51 (by decide), h.A.1.2.2.2.2.2.2.2.2.2.2.2]
    exact v.th2 h w.1
  have core : gtT τ (nI k) = mKTv (nI p) ρ (nI k) ∧ gtF τ (nI k) = flt σ ρ p k ∧ (mIs2 σ (σ 103 k) (nI p) = true → gtT τ (nI k) = -1 ∨ tyk 8 (gtT τ (nI k))) ∧ (mIs2 σ (σ 103 k) (nI p) = false → gtT τ (nI k) = -2) ∧ (flt σ ρ p k = 0 ∨ ∃ f, 8 ≤ f ∧ f ≤ 11 ∧ flt σ ρ p k = nI f) := by
    unfold gtT gtF mKTv flt
    rw [eTh, mIs2_c t2, nI_clamp (by omega), t2 103 (by decide)]
    cases hI : mIs2 σ (σ 103 k) (nI p) with
    | false => exact ⟨by simp, by simp, by simp, by simp, Or.inl (by simp)⟩
    | true =>
      obtain ⟨c1, c2, c3, c4⟩ := ty_there h v t2 hp hk (hP hI)
      simp only [if_true, true_and]
      refine ⟨c2, c1, fun _ => ?_, fun q => absurd q (by decide), c4⟩
      rw [c2]; exact c3
  have e1 : gtStep τ (nI k) = xw (xw τ 79 k (gtF τ (nI k))) 81 (50 * p + k) (gtT τ (nI k)) := by
    unfold gtStep
    rw [v.2.1]
    have : tyP (nI k) (nI p) = nI (50 * p + k) := by
      unfold tyP
      show nI p * nI 50 + nI k = _
      rw [pk_mul, nI_add, Nat.mul_comm]
    rw [this, vPut_n (by omega) (by decide), vPut_n (by omega) (by decide)]
  have ix : ((50 : Int32) * nI p + nI k).toNatClampNeg = 50 * p + k := ixC 50 p k (by omega)
  have e2 : mKT (nI p) ρ (nI k) 106 = upd (ρ 106) (50 * p + k) (mKTv (nI p) ρ (nI k)) := by
    unfold mKT
    rw [ix, xw_row, mKTs_keep (by decide)]
  refine ⟨fun r g1 g2 => ?_, mKT_keepE t2 _ _, ?_, ?_, ?_⟩
  · rw [e1, xw_ne _ _ _ g2, xw_ne _ _ _ g1]; exact t1 r g1 g2
  · rw [upN_s, ← t3]
  · intro q hq
    rw [e1, e2, xw_row]
    have hne : ¬ q = 50 * p + k := by omega
    have := t5 q hq
    simp only [upd, if_neg hne, xw_ne _ _ _ (show (81 : Nat) ≠ 79 by decide)]
    exact this
  · intro e he
    by_cases q : e = k
    · subst q
      obtain ⟨c1, c2, c3, c4, c5⟩ := core
      rw [e1, e2, ← t3, xw_at, xw_ne _ _ _ (show (79 : Nat) ≠ 81 by decide), xw_at]
      refine ⟨?_, c3, c4, c2, c5⟩
      simp only [upd, if_true]
      exact c1
    · have := t4 e (by omega)
      have hne : ¬ 50 * p + e = 50 * p + k := by omega
      have r81 : gtStep τ (nI k) 81 (50 * p + e) = τ 81 (50 * p + e) := by
        rw [e1, xw_other hne, xw_ne _ _ _ (by decide)]
      have r79 : gtStep τ (nI k) 79 e = τ 79 e := by
        rw [e1, xw_ne _ _ _ (by decide), xw_other q]
      rw [r81, r79, e2]
      simp only [upd, if_neg hne]
      exact this
theorem TR_all {σ τ ρ : xS} {p : Nat} (h : Pg σ) (v : Vw σ τ p) (hr : Eqm ρ σ) (hp : p < 16) : TR σ p τ ρ (nEx σ) (gts τ) (upN (mKT (nI p)) (nEx σ) ρ) := by
  have e : (τ 205 0).toNatClampNeg = nEx σ := by rw [v.q 205 (by decide), h.N.2]
  unfold gts
  rw [e]
  exact up2 (TR σ p τ ρ) (nEx σ) ⟨fun r _ _ => rfl, hr, rfl, fun q _ => ⟨rfl, rfl⟩, fun e he => absurd he (Nat.not_lt_zero e)⟩ (fun k hk τ' ρ' T => TR_step h v hp hk T) (nEx σ) (Nat.le_refl _)

/-! The calls that ask. -/
theorem Eqc.m {τ σ : xS} (h : Eqc τ σ) : Eqm τ σ := fun r hr => h r (by unfold kpR; omega)
theorem Sm_q {τ σ : xS} (h : Eqc τ σ) (g : Sm σ) : Sm τ := Sm_c (fun r hr _ => h r hr) g
theorem Sm_0 {σ : xS} (g : Sm σ) : Sm (t0 σ) := Sm_208 g
theorem t0_0 (σ : xS) : t0 σ 208 0 = 0 := xw_at _ _ _ _
theorem kn_0 (σ : xS) : mKn (t0 σ) 208 0 = 0 := by rw [mKn_keep (by decide) (by decide) (by decide)]; exact t0_0 σ
theorem Sm_kn {σ : xS} (g : Sm σ) : Sm (mKn (t0 σ)) :=
  ⟨Pg_c (fun r _ a b _ d => mKn_keep b a d (t0 σ)) (Sm_0 g).1, (kn_use g.1 (Eqc_rf σ) (t0_E (Eqm_rf σ)) (Sm_0 g).2).2.1⟩
theorem look_q (σ : xS) (c : Int32) : Eqc (look σ c) σ := fun r hr => look_keep hr σ c
theorem gts_q {τ σ : xS} (h : Eqc τ σ) : Eqc (gts τ) σ := fun r hr => by rw [gts_keep hr.2.2.2.2.1 hr.2.2.2.2.2.1]; exact h r hr
theorem pr_n {σ : xS} (P : Pg σ) {c : Int32} (h : isPr σ c = true) : ∃ p, p < 16 ∧ c = nI p ∧ mPr σ (nI p) = true := by
  rw [isPr_eq P] at h
  obtain ⟨p, hp, rfl⟩ := vp_ex (mPr_in h)
  exact ⟨p, hp, rfl, h⟩
theorem has0 {σ : xS} (P : Pg σ) {x : Int32} (h : cHas σ 201 x = true) : vp_in x 8 := by
  have := P.n0.2
  exact vp_le (has_vp (q201 P) (by omega) h) this
/-- what the knowledge gives: the class's inspection and the reference's -/
theorem know {σ τ : xS} (g : Sm σ) (hq : Eqc τ σ) : ER (insA σ) (mKn (t0 τ)) ∧ Eqm (mKn (t0 τ)) σ ∧ Re (insB σ (allI σ)) (mKn (t0 τ)) ∧ ∀ p, p < 16 → mPr σ (nI p) = true → ∀ e, e < nEx σ → insB σ (allI σ) 81 (50 * p + e) = mKn (t0 τ) 106 (50 * p + e) ∧ ∀ τ', Eqc τ' σ → gts (look τ' (nI p)) 81 (50 * p + e) = mKn (t0 τ) 106 (50 * p + e) := by
  obtain ⟨a1, a2, a3, a4⟩ := kn_use g.1 (Eqc_rf σ) (t0_E hq.m) (Sm_0 (Sm_q hq g)).2
  refine ⟨?_, a1, a3, a4⟩
  rw [insA_n]
  exact ER_of a3
theorem st_products {σ : xS} (g : Sm σ) : allI σ = mAll (t0 σ) ∧ Sm (t0 σ) := ⟨by rw [allI_eq g.1, mAll_c (t0_E (Eqm_rf σ))], Sm_0 g⟩
theorem st_count {σ : xS} (g : Sm σ) (t : Int32) : StC (kCnt t) (qCnt t) (qCnt t) (σ (szQ t) 0) (if t = 4 then σ 210 0 else σ 91 t.toNatClampNeg) (t0 σ) (t0 σ) := by
  refine ⟨fun h0 => ⟨by rw [← k_cnt]; exact h0, t0_0 σ, ?_, Sm_0 g⟩, fun _ => ⟨(k_cnt t).symm, Sm_t0 g⟩⟩
  have h1 := h0
  unfold kCnt at h1
  obtain ⟨c1, -⟩ := ite_k0 h1 (by decide)
  rcases sort5 c1.1 c1.2 with rfl | rfl | rfl | rfl | rfl
  · exact g.1.C0.1
  · exact g.1.C1.1
  · exact g.1.C2.1
  · exact g.1.C3.1
  · exact g.1.N.2
theorem st_presence {σ : xS} (g : Sm σ) (t i : Int32) : StC (kPres σ t i) (qPres σ t i) (qPres σ t i) (wT σ t i &&& allI σ) (mPres (t0 σ) t i) (t0 σ) (t0 σ) := by
  have P := g.1
  refine ⟨fun h0 => ⟨by rw [← k_pres P (Eqm_rf σ)]; exact h0, t0_0 σ, ?_, Sm_0 g⟩, fun _ => ⟨(k_pres P (Eqm_rf σ) t i).symm, Sm_t0 g⟩⟩
  have h1 := h0
  unfold kPres at h1
  obtain ⟨c1, -⟩ := ite_k0 h1 (by decide)
  have n0 := P.n0.2
  have n1 := P.n1.2
  have n2 := P.n2.2
  have n3 := P.n3.2
  rw [allI_eq P, mPres_c (t0_E (Eqm_rf σ))]
  unfold hasE at c1
  rw [Bool.and_eq_true, Bool.and_eq_true, decide_eq_true_eq, decide_eq_true_eq] at c1
  rcases sort4 c1.1 c1.2.1 with rfl | rfl | rfl | rfl
  · obtain ⟨j, hj, rfl⟩ := vp_ex (has_vp (q201 P) (by omega) (show cHas σ 201 i = true from c1.2.2))
    exact pres_eq P (s := 0) (by decide) hj
  · obtain ⟨j, hj, rfl⟩ := vp_ex (has_vp (q202 P) (by omega) (show cHas σ 202 i = true from c1.2.2))
    exact pres_eq P (s := 1) (by decide) hj
  · obtain ⟨j, hj, rfl⟩ := vp_ex (has_vp (q203 P) (by omega) (show cHas σ 203 i = true from c1.2.2))
    exact pres_eq P (s := 2) (by decide) hj
  · obtain ⟨j, hj, rfl⟩ := vp_ex (has_vp (q204 P) (by omega) (show cHas σ 204 i = true from c1.2.2))
    exact pres_eq P (s := 3) (by decide) hj
theorem st_parent {σ : xS} (g : Sm σ) (x c : Int32) : StC (kPar σ x c) (qPar (look σ c) x c) (qPar σ x c) (vAt 8 (look σ c 73) x) (mPa (t0 (look σ c)) x c) (t0 (look σ c)) (t0 σ) := by
  have P := g.1
  have Q := look_q σ c
  refine ⟨fun h0 => ⟨by rw [← k_par P Q.m]; exact h0, t0_0 _, ?_, Sm_0 (Sm_q Q g)⟩, fun _ => ⟨(k_par P (Eqm_rf σ) x c).symm, Sm_t0 g⟩⟩
  have h1 := h0
  unfold kPar at h1
  obtain ⟨c1, c2⟩ := ite_k0 h1 (by decide)
  obtain ⟨p, hp, rfl, -⟩ := pr_n P (ite_k0 c2 (by decide)).1
  have v := look_Vw P (Eqc_rf σ) hp
  rw [v.pa (has0 P c1), mPa_c (t0_E Q.m)]
theorem st_isBelow {σ : xS} (g : Sm σ) (x y c : Int32) : StZ (kBel σ x y c) (qBel (look σ c) x y c) (qBel σ x y c) (isUnB (look σ c) x y) (mBe (t0 (look σ c)) x y c) (t0 (look σ c)) σ := by
  have P := g.1
  have Q := look_q σ c
  refine ⟨fun h0 => ⟨by rw [← k_bel P Q.m]; exact h0, t0_0 _, ?_, Sm_0 (Sm_q Q g)⟩, fun _ => ⟨(k_bel P (Eqm_rf σ) x y c).symm, Sm_208 g⟩⟩
  have h1 := h0
  unfold kBel at h1
  obtain ⟨c1, c2⟩ := ite_k0 h1 (by decide)
  obtain ⟨p, hp, rfl, -⟩ := pr_n P (ite_k0 c2 (by decide)).1
  have v := look_Vw P (Eqc_rf σ) hp
  rw [v.un (has0 P c1.1) (has0 P c1.2), mBe_c (t0_E Q.m)]
theorem st_find {σ : xS} (g : Sm σ) (x n : Int32) (b : Bool) (c : Int32) : StC (kFind σ x n c) (qFind (look σ c) x n c) (qFind σ x n c) (lookU (look σ c) x n (if b = true then 1 else 0)) (mFi (t0 (look σ c)) x n (bI b) c) (t0 (look σ c)) (t0 σ) := by
  have P := g.1
  have Q := look_q σ c
  refine ⟨fun h0 => ⟨by rw [← k_find P Q.m]; exact h0, t0_0 _, ?_, Sm_0 (Sm_q Q g)⟩, fun _ => ⟨(k_find P (Eqm_rf σ) x n c).symm, Sm_t0 g⟩⟩
  have h1 := h0
  unfold kFind at h1
  obtain ⟨c1, c2⟩ := ite_k0 h1 (by decide)
  obtain ⟨c3, -⟩ := ite_k0 c2 (by decide)
  obtain ⟨p, hp, rfl, -⟩ := pr_n P c3.2
  have v := look_Vw P (Eqc_rf σ) hp
  rw [bI_ite, v.fi P (Or.inr (has0 P c1)) (name_vp c3.1) (by cases b <;> simp [bI]), mFi_c (t0_E Q.m)]
theorem st_typeOf {σ : xS} (g : Sm σ) (x c : Int32) : StC (kTyp σ x c) (qTyp (gts (look σ c)) x c) (qTyp σ x c) (tyIn (gts (look σ c)) x c) (mTI (mKn (t0 (gts (look σ c)))) x c) (mKn (t0 (gts (look σ c)))) (t0 σ) := by
  have P := g.1
  have Q := gts_q (look_q σ c)
  refine ⟨fun h0 => ⟨by rw [← k_typ P Q.m]; exact h0, kn_0 _, ?_, Sm_kn (Sm_q Q g)⟩, fun _ => ⟨(k_typ P (Eqm_rf σ) x c).symm, Sm_t0 g⟩⟩
  have h1 := h0
  unfold kTyp at h1
  obtain ⟨c1, c2⟩ := ite_k0 h1 (by decide)
  obtain ⟨p, hp, rfl, hpr⟩ := pr_n P (ite_k0 c2 (by decide)).1
  have hn := P.ne.2
  obtain ⟨e, he, rfl⟩ := vp_ex (has_vp (q205 P) (by omega) c1)
  obtain ⟨-, -, -, T⟩ := know g Q
  rw [tyIn_n hp (by omega), mTI_n hp (by omega)]
  exact (T p hp hpr e he).2 σ (Eqc_rf σ)
theorem st_errorCount {σ : xS} (g : Sm σ) : insA σ 207 0 = mCE (mKn (t0 (insA σ))) ∧ Sm (mKn (t0 (insA σ))) := by
  have Q := insA_q (Eqc_rf σ)
  exact ⟨(know g Q).1.count, Sm_kn (Sm_q Q g)⟩
/-- error: the reference's answer is any that its contract leaves -/
theorem st_error {σ : xS} (g : Sm σ) (i w : Int32) : (kErr σ i w = 0 → qErr (insA σ) i w = 0 ∧ mKn (t0 (insA σ)) 208 0 = 0 ∧ Sm (mKn (t0 (insA σ))) ∧ ∀ a y, a < 650 → nzc (mKn (t0 (insA σ))) a = i.toNatClampNeg → ¬ mKn (t0 (insA σ)) 107 a = 0 → y = (if w = 0 then nI a / 50 else if w = 1 then nI a - nI a / 50 * 50 else mKn (t0 (insA σ)) 107 a) → vErr σ i w = y) ∧ (kErr σ i w ≠ 0 → qErr (insA σ) i w = kErr σ i w ∧ Sm (xw (mKn (t0 (insA σ))) 208 0 (nI (kErr σ i w)))) := by
  have Q := insA_q (Eqc_rf σ)
  obtain ⟨E, -, -, -⟩ := know g Q
  have hk : kErr σ i w = qErr (insA σ) i w := k_err E i w
  have S := Sm_kn (Sm_q Q g)
  refine ⟨fun h0 => ⟨by rw [← hk]; exact h0, kn_0 _, S, fun a y ha hz hne hy => ?_⟩, fun _ => ⟨hk.symm, Sm_208 S⟩⟩
  have h1 := h0
  unfold kErr at h1
  obtain ⟨c1, -⟩ := ite_k0 h1 (by decide)
  obtain ⟨q, q1, q2, q3, q4, q5, q6, q7⟩ := E.at ha hne
  have ei : i = nI (zc (insA σ 84) q) := by
    obtain ⟨j, hj, rfl⟩ := nI_of c1.1
    rw [nI_clamp hj, q5] at hz
    rw [hz]
  have V := E.vals q1 q3
  rw [← ei] at V
  unfold vErr
  rw [V.1, V.2.1, V.2.2, hy, q4, q2]
  have d1 : nI (q + 50) / 50 = nI ((q + 50) / 50) := pk_div (d := 50) (by omega) (by decide) (by decide)
  have d2 : nI (q + 50) - nI (q + 50) / 50 * 50 = nI ((q + 50) % 50) := pk_rem (d := 50) (by omega) (by decide) (by decide)
  rw [d2, d1]
theorem st_right {σ : xS} (g : Sm σ) : rgt σ = mRg (mKn (t0 (insA σ))) ∧ Sm (mKn (t0 (insA σ))) := by
  have Q := insA_q (Eqc_rf σ)
  obtain ⟨E, hM, -, -⟩ := know g Q
  refine ⟨?_, Sm_kn (Sm_q Q g)⟩
  unfold rgt mRg
  rw [E.right, mAll_c hM, allI_eq g.1]
theorem st_errorsIn {σ : xS} (g : Sm σ) (c : Int32) : StC (kEIn σ c) (qEIn (insA σ) c) (qEIn σ c) (szI (insA σ) c) (mEIN (mKn (t0 (insA σ))) c 650) (mKn (t0 (insA σ))) (t0 σ) := by
  have P := g.1
  have Q := insA_q (Eqc_rf σ)
  refine ⟨fun h0 => ⟨by rw [← k_ein P Q.m]; exact h0, kn_0 _, ?_, Sm_kn (Sm_q Q g)⟩, fun _ => ⟨(k_ein P (Eqm_rf σ) c).symm, Sm_t0 g⟩⟩
  have h1 := h0
  unfold kEIn at h1
  obtain ⟨p, hp, rfl, -⟩ := pr_n P (ite_k0 h1 (by decide)).1
  exact (know g Q).1.inN (vp_in_nI hp (by decide))
theorem st_culprit {σ : xS} (g : Sm σ) : culp σ = mCuN (mKn (t0 (insA σ))) (mRg (mKn (t0 (insA σ)))) 256 ∧ Sm (mKn (t0 (insA σ))) := by
  have Q := insA_q (Eqc_rf σ)
  obtain ⟨E, hM, -, -⟩ := know g Q
  refine ⟨?_, Sm_kn (Sm_q Q g)⟩
  unfold culp
  have e := cul_out hM (mRg (mKn (t0 (insA σ)))) 16 (Nat.le_refl _)
  rw [show 16 * 16 = 256 by decide] at e
  rw [allI_eq g.1, (st_right g).1, e]
  generalize mCuN (mKn (t0 (insA σ))) (mRg (mKn (t0 (insA σ)))) 256 = z
  rfl
theorem st_share {σ : xS} (g : Sm σ) : shr0 σ = shr1 (insA σ) ∧ Sm (sh1s (insA σ)) ∧ (¬ popc (allI σ) = 0 → vf_n64 (FP.ddiv (FP.i2d (popc (allI σ) - popc (wrg (insA σ)))) (FP.i2d (popc (allI σ))))) ∧ (¬ popc (mAll (t0 (insA σ))) = 0 → vf_n64 (FP.ddiv (FP.i2d (popc (mRg (mKn (t0 (insA σ)))))) (FP.i2d (popc (mAll (t0 (insA σ))))))) ∧ vf_n64 (shr0 σ) := by
  have P := g.1
  have Q := insA_q (Eqc_rf σ)
  obtain ⟨E, hM, R, -⟩ := know g Q
  obtain ⟨s1, a, ha, ea⟩ := share_eq P (Eqc_rf σ) R
  have e1 : mAll (t0 (insA σ)) = mAll σ := mAll_c (t0_E Q.m)
  have e2 : mRg (mKn (t0 (insA σ))) = mRgN (mKn (t0 (insA σ))) (mAll σ) 650 := by unfold mRg; rw [mAll_c hM]
  have n1 : ¬ popc (mAll σ) = 0 → vf_n64 (FP.ddiv (FP.i2d (popc (mRgN (mKn (t0 (insA σ))) (mAll σ) 650))) (FP.i2d (popc (mAll σ)))) := fun h => nan_of ⟨a, ha, ea⟩ (popc_all σ) h
  refine ⟨?_, ?_, ?_, ?_, ?_⟩
  · unfold shr0 shr1
    rw [allI_eq P, e1, e2, s1]
  · unfold sh1s
    split
    · exact Sm_0 (Sm_q Q g)
    · exact Sm_kn (Sm_q Q g)
  · rw [allI_eq P, s1]; exact n1
  · rw [e1, e2]; exact n1
  · unfold shr0
    rw [allI_eq P, s1]
    by_cases h : popc (mAll σ) = 0
    · rw [if_pos h]; unfold vf_n64; decide
    · rw [if_neg h]; exact n1 h
theorem st_digest {σ : xS} (g : Sm σ) : dige σ = mDig (t0 (insA σ)) 4619 ∧ Sm (mKn (t0 (insA σ))) := by
  have Q := insA_q (Eqc_rf σ)
  exact ⟨dig_eq g.1 (Eqc_rf σ) (t0_E Q.m) (Sm_0 (Sm_q Q g)).2, Sm_kn (Sm_q Q g)⟩
/-! At the start. -/
theorem Sm_start : Sm xS0 := by
  have c : ∀ s, cnt xS0 s = 0 := fun _ => rfl
  refine ⟨⟨mV0, ?_, ⟨rfl, rfl⟩, ?_, ?_, ?_, ?_, ?_⟩, Or.inl rfl⟩
  · refine ⟨⟨rfl, rfl, rfl, rfl, rfl, rfl, rfl, rfl, rfl, rfl, rfl, rfl⟩, ?_, ?_, ?_, ?_, ?_, ?_⟩ <;> intros <;> rfl
  · refine ⟨?_, ?_, ?_, ?_, ?_⟩ <;> exact fun j hj => absurd hj (Nat.not_lt_zero j)
  · exact ⟨rfl, fun _ _ => rfl, fun _ _ => rfl, fun j hj => absurd hj (Nat.not_lt_zero j)⟩
  · exact ⟨rfl, fun _ _ => rfl, fun _ _ => rfl, fun j hj => absurd hj (Nat.not_lt_zero j)⟩
  · exact ⟨rfl, fun _ _ => rfl, fun _ _ => rfl, fun j hj => absurd hj (Nat.not_lt_zero j)⟩
  · exact ⟨rfl, fun _ _ => rfl, fun _ _ => rfl, fun j hj => absurd hj (Nat.not_lt_zero j)⟩
theorem Sm_z2 {σ : xS} (g : Sm σ) : okZ σ 202 := by
  unfold okZ; rw [q202 g.1, nI_clamp (by have := g.1.n1.2; omega)]
theorem Sm_z3 {σ : xS} (g : Sm σ) : okZ σ 203 := by
  unfold okZ; rw [q203 g.1, nI_clamp (by have := g.1.n2.2; omega)]

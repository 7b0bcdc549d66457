/-! Each call, on both sides: answers and facts. The calls that change the program. -/
theorem Pg_c {σ τ : xS} (h : ∀ r, kpR r → r ≠ 106 → r ≠ 107 → r ≠ 208 → r ≠ 211 → τ r = σ r) (g : Pg σ) : Pg τ := by
  have e3 : τ 3 = σ 3 := h 3 (by decide) (by decide) (by decide) (by decide) (by decide)
  have e5 : τ 5 = σ 5 := h 5 (by decide) (by decide) (by decide) (by decide) (by decide)
  have e7 : τ 7 = σ 7 := h 7 (by decide) (by decide) (by decide) (by decide) (by decide)
  have e88 : τ 88 = σ 88 := h 88 (by decide) (by decide) (by decide) (by decide) (by decide)
  have e89 : τ 89 = σ 89 := h 89 (by decide) (by decide) (by decide) (by decide) (by decide)
  have e90 : τ 90 = σ 90 := h 90 (by decide) (by decide) (by decide) (by decide) (by decide)
  have e24 : τ 24 = σ 24 := h 24 (by decide) (by decide) (by decide) (by decide) (by decide)
  have e26 : τ 26 = σ 26 := h 26 (by decide) (by decide) (by decide) (by decide) (by decide)
  have e94 : τ 94 = σ 94 := h 94 (by decide) (by decide) (by decide) (by decide) (by decide)
  have e95 : τ 95 = σ 95 := h 95 (by decide) (by decide) (by decide) (by decide) (by decide)
  have e36 : τ 36 = σ 36 := h 36 (by decide) (by decide) (by decide) (by decide) (by decide)
  have e38 : τ 38 = σ 38 := h 38 (by decide) (by decide) (by decide) (by decide) (by decide)
  have e40 : τ 40 = σ 40 := h 40 (by decide) (by decide) (by decide) (by decide) (by decide)
  have e42 : τ 42 = σ 42 := h 42 (by decide) (by decide) (by decide) (by decide) (by decide)
  have e96 : τ 96 = σ 96 := h 96 (by decide) (by decide) (by decide) (by decide) (by decide)
  have e97 : τ 97 = σ 97 := h 97 (by decide) (by decide) (by decide) (by decide) (by decide)
  have e98 : τ 98 = σ 98 := h 98 (by decide) (by decide) (by decide) (by decide) (by decide)
  have e99 : τ 99 = σ 99 := h 99 (by decide) (by decide) (by decide) (by decide) (by decide)
  have e100 : τ 100 = σ 100 := h 100 (by decide) (by decide) (by decide) (by decide) (by decide)
  have e44 : τ 44 = σ 44 := h 44 (by decide) (by decide) (by decide) (by decide) (by decide)
  have e46 : τ 46 = σ 46 := h 46 (by decide) (by decide) (by decide) (by decide) (by decide)
  have e68 : τ 68 = σ 68 := h 68 (by decide) (by decide) (by decide) (by decide) (by decide)
  have e101 : τ 101 = σ 101 := h 101 (by decide) (by decide) (by decide) (by decide) (by decide)
  have e49 : τ 49 = σ 49 := h 49 (by decide) (by decide) (by decide) (by decide) (by decide)
  have e51 : τ 51 = σ 51 := h 51 (by decide) (by decide) (by decide) (by decide) (by decide)
  have e53 : τ 53 = σ 53 := h 53 (by decide) (by decide) (by decide) (by decide) (by decide)
  have e55 : τ 55 = σ 55 := h 55 (by decide) (by decide) (by decide) (by decide) (by decide)
  have e57 : τ 57 = σ 57 := h 57 (by decide) (by decide) (by decide) (by decide) (by decide)
  have e59 : τ 59 = σ 59 := h 59 (by decide) (by decide) (by decide) (by decide) (by decide)
  have e102 : τ 102 = σ 102 := h 102 (by decide) (by decide) (by decide) (by decide) (by decide)
  have e103 : τ 103 = σ 103 := h 103 (by decide) (by decide) (by decide) (by decide) (by decide)
  have e104 : τ 104 = σ 104 := h 104 (by decide) (by decide) (by decide) (by decide) (by decide)
  have e105 : τ 105 = σ 105 := h 105 (by decide) (by decide) (by decide) (by decide) (by decide)
  have e91 : τ 91 = σ 91 := h 91 (by decide) (by decide) (by decide) (by decide) (by decide)
  have e92 : τ 92 = σ 92 := h 92 (by decide) (by decide) (by decide) (by decide) (by decide)
  have e93 : τ 93 = σ 93 := h 93 (by decide) (by decide) (by decide) (by decide) (by decide)
  have e200 : τ 200 = σ 200 := h 200 (by decide) (by decide) (by decide) (by decide) (by decide)
  have e209 : τ 209 = σ 209 := h 209 (by decide) (by decide) (by decide) (by decide) (by decide)
  have e205 : τ 205 = σ 205 := h 205 (by decide) (by decide) (by decide) (by decide) (by decide)
  have e210 : τ 210 = σ 210 := h 210 (by decide) (by decide) (by decide) (by decide) (by decide)
  have e201 : τ 201 = σ 201 := h 201 (by decide) (by decide) (by decide) (by decide) (by decide)
  have e202 : τ 202 = σ 202 := h 202 (by decide) (by decide) (by decide) (by decide) (by decide)
  have e203 : τ 203 = σ 203 := h 203 (by decide) (by decide) (by decide) (by decide) (by decide)
  have e204 : τ 204 = σ 204 := h 204 (by decide) (by decide) (by decide) (by decide) (by decide)
  have e11 : τ 11 = σ 11 := h 11 (by decide) (by decide) (by decide) (by decide) (by decide)
  have e13 : τ 13 = σ 13 := h 13 (by decide) (by decide) (by decide) (by decide) (by decide)
  have e15 : τ 15 = σ 15 := h 15 (by decide) (by decide) (by decide) (by decide) (by decide)
  have e18 : τ 18 = σ 18 := h 18 (by decide) (by decide) (by decide) (by decide) (by decide)
  have e20 : τ 20 = σ 20 := h 20 (by decide) (by decide) (by decide) (by decide) (by decide)
  have e22 : τ 22 = σ 22 := h 22 (by decide) (by decide) (by decide) (by decide) (by decide)
  have e30 : τ 30 = σ 30 := h 30 (by decide) (by decide) (by decide) (by decide) (by decide)
  have e32 : τ 32 = σ 32 := h 32 (by decide) (by decide) (by decide) (by decide) (by decide)
  have e34 : τ 34 = σ 34 := h 34 (by decide) (by decide) (by decide) (by decide) (by decide)
  have e62 : τ 62 = σ 62 := h 62 (by decide) (by decide) (by decide) (by decide) (by decide)
  have e64 : τ 64 = σ 64 := h 64 (by decide) (by decide) (by decide) (by decide) (by decide)
  have e66 : τ 66 = σ 66 := h 66 (by decide) (by decide) (by decide) (by decide) (by decide)
  have s0 : Scn τ 0 9 8 201 := Scn_other g.C0 (by decide) g.n0.2 (by rw [e201]) (by rw [e91]) e11 e13 e15 (fun j _ => by rw [e92]) (fun j _ => by rw [e93])
  have s1 : Scn τ 1 16 12 202 := Scn_other g.C1 (by decide) g.n1.2 (by rw [e202]) (by rw [e91]) e18 e20 e22 (fun j _ => by rw [e92]) (fun j _ => by rw [e93])
  have s2 : Scn τ 2 28 24 203 := Scn_other g.C2 (by decide) g.n2.2 (by rw [e203]) (by rw [e91]) e30 e32 e34 (fun j _ => by rw [e92]) (fun j _ => by rw [e93])
  have s3 : Scn τ 3 60 16 204 := Scn_other g.C3 (by decide) g.n3.2 (by rw [e204]) (by rw [e91]) e62 e64 e66 (fun j _ => by rw [e92]) (fun j _ => by rw [e93])
  refine ⟨mV_of (fun r hr => ?_) g.V, ?_, ?_, ?_, s0, s1, s2, s3⟩
  · rcases hr with rfl | rfl | rfl | rfl | rfl | rfl | rfl | rfl | rfl | rfl | rfl | rfl | rfl <;> assumption
  · unfold Qa; rw [e3, e5, e7, e88, e89, e90, e24, e26, e94, e95, e36, e38, e40, e42, e96, e97, e98, e99, e68, e101, e49, e51, e102, e103, e44, e46, e100, e53, e104, e55, e57, e59, e105]; exact g.A
  · unfold Qn; rw [e200, e209, e205, e210]; exact g.N
  · unfold Qw cnt nEx nRu; rw [e209, e91, e210, e89, e90, e94, e95, e96, e97, e98, e99, e100, e102, e103, e104, e105, e101]; exact g.W
theorem Kn_c {σ τ : xS} (h : ∀ r, (mRl r ∨ r = 106 ∨ r = 107 ∨ r = 211) → τ r = σ r) (g : Kn σ) : Kn τ := by
  unfold Kn
  rw [h 211 (by decide), h 106 (by decide), h 107 (by decide)]
  exact g.imp id (fun ⟨ρ, r1, r2⟩ => ⟨ρ, fun r hr => by rw [r1 r hr, h r (Or.inl hr)], r2⟩)
theorem Sm_c {σ τ : xS} (h : ∀ r, kpR r → r ≠ 208 → τ r = σ r) (g : Sm σ) : Sm τ := ⟨Pg_c (fun r a _ _ b _ => h r a b) g.1, Kn_c (fun r hr => h r (by unfold kpR; omega) (by omega)) g.2⟩
theorem Sm_208 {σ : xS} {x : Int32} (g : Sm σ) : Sm (xw σ 208 0 x) := Sm_c (fun r _ h => xw_ne _ _ _ h) g
theorem t0_ne {σ : xS} {r : Nat} (h : r ≠ 208) : t0 σ r = σ r := xw_ne _ _ _ h
theorem Sm_t0 {σ : xS} {x : Int32} (g : Sm σ) : Sm (xw (t0 σ) 208 0 x) := Sm_208 (Sm_208 g)
/-- a call that may throw: the code k of the class in σ, the reference's code q1 behind a return and q2 behind a throw, the answers, the reference's end state -/
def StC (k q1 q2 : Nat) (a x : Int32) (S F : xS) : Prop := (k = 0 → q1 = 0 ∧ S 208 0 = 0 ∧ a = x ∧ Sm S) ∧ (k ≠ 0 → q2 = k ∧ Sm (xw F 208 0 (nI k)))
theorem Eqm_rf (σ : xS) : Eqm σ σ := fun _ _ => rfl
theorem Eqc_rf (σ : xS) : Eqc σ σ := fun _ _ => rfl
theorem nI_pm (n : Nat) : nI n + 1 - 1 = nI n := by rw [nI_1, nI_pred]
theorem ite_k0 {P : Prop} [Decidable P] {a b : Nat} (h : (if P then a else b) = 0) (hb : b ≠ 0) : P ∧ a = 0 := by
  by_cases p : P
  · rw [if_pos p] at h; exact ⟨p, h⟩
  · rw [if_neg p] at h; exact absurd h hb
theorem ite_lt {n m c : Nat} (h : (if nI n < nI m then 0 else c) = 0) (hc : c ≠ 0) (hn : n < 2 ^ 31) (hm : m < 2 ^ 31) : n < m := by
  have := (ite_k0 h hc).1
  exact (nI_ltI hn hm).mp this
theorem feat_vp {x : Int32} (h : featB x = true) : vp_in x 4 := by
  unfold featB at h
  rw [Bool.and_eq_true, decide_eq_true_eq, decide_eq_true_eq] at h
  exact vp_in_of2 (n := 4) (by decide) h.1 h.2
theorem name_vp {x : Int32} (h : nameB x = true) : vp_in x 10 := by
  unfold nameB at h
  rw [Bool.and_eq_true, decide_eq_true_eq, decide_eq_true_eq] at h
  exact vp_in_of2 (n := 10) (by decide) h.1 h.2
theorem hasT_tyk {σ : xS} (g : Pg σ) {t : Int32} (h : hasT σ t = true) : tyk (cnt σ 0) t := by
  have := g.n0.2
  unfold hasT at h
  rw [Bool.or_eq_true, decide_eq_true_eq] at h
  exact h.imp id (fun q => has_vp (q201 g) (by omega) q)
theorem ixC' (s n : Nat) (h : 24 * s + n < 2 ^ 31) : ((24 : Int32) * nI s + nI n).toNatClampNeg = 24 * s + n := ixC 24 s n h
theorem st_addRule {σ : xS} (h : Sm σ) (k f g : Int32) : StC (kRule σ k f g) (qRule (rApp σ k f g) k f g) (qRule σ k f g) (rApp σ k f g 200 0) (rApp σ k f g 209 0 + 1) (xw (xw (xw (xw (xw (t0 (rApp σ k f g)) 88 (rApp σ k f g 209 0).toNatClampNeg k) 89 (rApp σ k f g 209 0).toNatClampNeg f) 90 (rApp σ k f g 209 0).toNatClampNeg g) 209 0 (rApp σ k f g 209 0 + 1)) 211 0 0) (t0 σ) := by
  obtain ⟨P, K⟩ := h
  refine ⟨fun h0 => ?_, fun h0 => ⟨(k_rule P (Eqm_rf σ) k f g).symm, Sm_t0 ⟨P, K⟩⟩⟩
  have h1 := h0
  unfold kRule at h1
  obtain ⟨c1, c2⟩ := ite_k0 h1 (by decide)
  rw [q200 P] at c2
  have hn := P.nr.2
  obtain ⟨n, en⟩ : ∃ n, nRu σ = n := ⟨_, rfl⟩
  rw [en] at c2 hn
  have n8 : n < 8 := ite_lt (m := 8) c2 (by decide) (by omega) (by decide)
  have e2 : σ 200 0 = nI n := by rw [q200 P, en]
  have e9 : σ 209 0 = nI n := by rw [P.nr.1, en]
  have e1 : rApp σ k f g = xw (xw (xw (xw σ 3 n k) 5 n f) 7 n g) 200 0 (nI (n + 1)) := by
    unfold rApp
    rw [e2, vPut_n n8 (by decide), vPut_n n8 (by decide), vPut_n n8 (by decide), nI_1]
  have E : Eqm (rApp σ k f g) σ := fun r hr => by rw [e1, xw_ne _ _ _ (by omega), xw_ne _ _ _ (by omega), xw_ne _ _ _ (by omega), xw_ne _ _ _ (by omega)]
  have z := (k_rule P E k f g).symm.trans h0
  have z9 : rApp σ k f g 209 0 = nI n := by rw [E 209 (by decide), e9]
  have z2 : rApp σ k f g 200 0 = nI (n + 1) := by rw [e1, xw_at]
  refine ⟨z, by simp [xw], by rw [z2, z9, nI_1], ?_⟩
  rw [z9, nI_clamp (by omega), nI_1, e1]
  exact pg_addRule P en n8 k f g (feat_vp c1.2.1) (feat_vp c1.2.2)
theorem st_dropRule {σ : xS} (h : Sm σ) : StC (kDropR σ) (qDropR (xw σ 200 0 (σ 200 0 - 1))) (qDropR σ) (xw σ 200 0 (σ 200 0 - 1) 200 0) (xw σ 200 0 (σ 200 0 - 1) 209 0 - 1) (xw (xw (t0 (xw σ 200 0 (σ 200 0 - 1))) 209 0 (xw σ 200 0 (σ 200 0 - 1) 209 0 - 1)) 211 0 0) (t0 σ) := by
  obtain ⟨P, K⟩ := h
  refine ⟨fun h0 => ?_, fun h0 => ⟨(k_dropR P (Eqm_rf σ)).symm, Sm_t0 ⟨P, K⟩⟩⟩
  have h1 := h0
  unfold kDropR at h1
  have hn := P.nr.2
  obtain ⟨m, em⟩ : ∃ m, nRu σ = m := ⟨_, rfl⟩
  have e2 : σ 200 0 = nI m := by rw [q200 P, em]
  have e9 : σ 209 0 = nI m := by rw [P.nr.1, em]
  rw [e2] at h1
  obtain ⟨n, rfl⟩ : ∃ n, m = n + 1 := by
    cases m with
    | zero => rw [if_pos nI_0] at h1; cases h1
    | succ n => exact ⟨n, rfl⟩
  have E : Eqm (xw σ 200 0 (σ 200 0 - 1)) σ := fun r hr => xw_ne _ _ _ (by omega)
  have z9 : xw σ 200 0 (σ 200 0 - 1) 209 0 = nI (n + 1) := by rw [E 209 (by decide), e9]
  refine ⟨(k_dropR P E).symm.trans h0, by simp [xw], by rw [xw_at, z9, e2], ?_⟩
  rw [z9, e2, nI_pred]
  exact pg_dropRule P em

theorem st_addClass {σ : xS} (h : Sm σ) (on off : Int32) : StC (kClass σ on off) (qClass (cApp σ 9 8 201 on off) on off) (qClass σ on off) (σ 201 0) ((cApp σ 9 8 201 on off) 91 0 + 1 - 1) (mAd (t0 (cApp σ 9 8 201 on off)) 0 on off) (t0 σ) := by
  obtain ⟨P, K⟩ := h
  refine ⟨fun h0 => ?_, fun h0 => ⟨(k_class P (Eqm_rf σ) on off).symm, Sm_t0 ⟨P, K⟩⟩⟩
  have h1 := h0
  unfold kClass at h1
  obtain ⟨c1, cL⟩ := ite_k0 h1 (by decide)
  have hn := P.n0.2
  obtain ⟨n, en⟩ : ∃ n, cnt σ 0 = n := ⟨_, rfl⟩
  rw [q201 P, en] at cL
  rw [en] at hn
  have n8 : n < 8 := ite_lt (m := 8) cL (by decide) (by omega) (by decide)
  have e2 : σ 201 0 = nI n := by rw [q201 P, en]
  have e9 : σ 91 0 = nI n := by rw [P.n0.1, en]
  have e1 : cApp σ 9 8 201 on off = xw (xw (xw (xw σ 201 (0) (nI (n + 1))) 11 (n) (on)) 13 (n) (off)) 15 (n) (cfgI on off) := by
    unfold cApp cPut
    rw [e2, vPut_n n8 (by decide), vPut_n n8 (by decide), vPut_n n8 (by decide), nI_1]
  have E : Eqm (cApp σ 9 8 201 on off) σ := fun r hr => by rw [e1, xw_ne _ _ _ (by omega), xw_ne _ _ _ (by omega), xw_ne _ _ _ (by omega), xw_ne _ _ _ (by omega)]
  have z9 : (cApp σ 9 8 201 on off) 91 0 = nI n := by rw [E 91 (by decide), e9]
  refine ⟨(k_class P E on off).symm.trans h0, by simp [xw, mAd], by rw [z9, e2, nI_pm], ?_⟩
  unfold mAd
  rw [show t0 (cApp σ 9 8 201 on off) 91 0 = nI n by rw [t0_ne (by decide), z9], ixC' 0 n (by omega), nI_1, e1]
  exact pg_addClass P en n8 on off
theorem st_addLink {σ : xS} (h : Sm σ) (o q on off : Int32) : StC (kLink σ o q on off) (qLink (vPut (vPut (cApp σ 16 12 202 on off) 24 12 (σ 202 0) o) 26 12 (σ 202 0) q) o q on off) (qLink σ o q on off) (σ 202 0) ((vPut (vPut (cApp σ 16 12 202 on off) 24 12 (σ 202 0) o) 26 12 (σ 202 0) q) 91 1 + 1 - 1) (mAd (xw (xw (t0 (vPut (vPut (cApp σ 16 12 202 on off) 24 12 (σ 202 0) o) 26 12 (σ 202 0) q)) 94 ((vPut (vPut (cApp σ 16 12 202 on off) 24 12 (σ 202 0) o) 26 12 (σ 202 0) q) 91 1).toNatClampNeg o) 95 ((vPut (vPut (cApp σ 16 12 202 on off) 24 12 (σ 202 0) o) 26 12 (σ 202 0) q) 91 1).toNatClampNeg q) 1 on off) (t0 σ) := by
  obtain ⟨P, K⟩ := h
  refine ⟨fun h0 => ?_, fun h0 => ⟨(k_link P (Eqm_rf σ) o q on off).symm, Sm_t0 ⟨P, K⟩⟩⟩
  have h1 := h0
  unfold kLink at h1
  obtain ⟨c1, c2⟩ := ite_k0 h1 (by decide)
  obtain ⟨c3, cL⟩ := ite_k0 c2 (by decide)
  have hn := P.n1.2
  obtain ⟨n, en⟩ : ∃ n, cnt σ 1 = n := ⟨_, rfl⟩
  rw [q202 P, en] at cL
  rw [en] at hn
  have n8 : n < 12 := ite_lt (m := 12) cL (by decide) (by omega) (by decide)
  have e2 : σ 202 0 = nI n := by rw [q202 P, en]
  have e9 : σ 91 1 = nI n := by rw [P.n1.1, en]
  have e1 : vPut (vPut (cApp σ 16 12 202 on off) 24 12 (σ 202 0) o) 26 12 (σ 202 0) q = xw (xw (xw (xw (xw (xw σ 202 (0) (nI (n + 1))) 18 (n) (on)) 20 (n) (off)) 22 (n) (cfgI on off)) 24 (n) (o)) 26 (n) (q) := by
    unfold cApp cPut
    rw [e2, vPut_n n8 (by decide), vPut_n n8 (by decide), vPut_n n8 (by decide), vPut_n n8 (by decide), vPut_n n8 (by decide), nI_1]
  have E : Eqm (vPut (vPut (cApp σ 16 12 202 on off) 24 12 (σ 202 0) o) 26 12 (σ 202 0) q) σ := fun r hr => by rw [e1, xw_ne _ _ _ (by omega), xw_ne _ _ _ (by omega), xw_ne _ _ _ (by omega), xw_ne _ _ _ (by omega), xw_ne _ _ _ (by omega), xw_ne _ _ _ (by omega)]
  have z9 : (vPut (vPut (cApp σ 16 12 202 on off) 24 12 (σ 202 0) o) 26 12 (σ 202 0) q) 91 1 = nI n := by rw [E 91 (by decide), e9]
  refine ⟨(k_link P E o q on off).symm.trans h0, by simp [xw, mAd], by rw [z9, e2, nI_pm], ?_⟩
  rw [z9, nI_clamp (by omega)]
  unfold mAd
  have z8 : ∀ u v, xw (xw (t0 (vPut (vPut (cApp σ 16 12 202 on off) 24 12 (σ 202 0) o) 26 12 (σ 202 0) q)) 94 n u) 95 n v 91 1 = nI n := fun u v => by rw [xw_ne _ _ _ (by decide), xw_ne _ _ _ (by decide), t0_ne (by decide), z9]
  rw [z8, ixC' 1 n (by omega), nI_1, e1]
  have h8 := P.n0.2
  exact pg_addLink P en n8 o q on off (has_vp (q201 P) (by omega) c1.1) (has_vp (q201 P) (by omega) c1.2)
theorem st_addResult {σ : xS} (h : Sm σ) (x on off : Int32) : StC (kRes σ x on off) (qRes (vPut (cApp σ 60 16 204 on off) 68 16 (σ 204 0) x) x on off) (qRes σ x on off) (σ 204 0) ((vPut (cApp σ 60 16 204 on off) 68 16 (σ 204 0) x) 91 3 + 1 - 1) (mAd (xw (t0 (vPut (cApp σ 60 16 204 on off) 68 16 (σ 204 0) x)) 101 ((vPut (cApp σ 60 16 204 on off) 68 16 (σ 204 0) x) 91 3).toNatClampNeg x) 3 on off) (t0 σ) := by
  obtain ⟨P, K⟩ := h
  refine ⟨fun h0 => ?_, fun h0 => ⟨(k_res P (Eqm_rf σ) x on off).symm, Sm_t0 ⟨P, K⟩⟩⟩
  have h1 := h0
  unfold kRes at h1
  obtain ⟨c1, c2⟩ := ite_k0 h1 (by decide)
  obtain ⟨c3, cL⟩ := ite_k0 c2 (by decide)
  have hn := P.n3.2
  obtain ⟨n, en⟩ : ∃ n, cnt σ 3 = n := ⟨_, rfl⟩
  rw [q204 P, en] at cL
  rw [en] at hn
  have n8 : n < 16 := ite_lt (m := 16) cL (by decide) (by omega) (by decide)
  have e2 : σ 204 0 = nI n := by rw [q204 P, en]
  have e9 : σ 91 3 = nI n := by rw [P.n3.1, en]
  have e1 : vPut (cApp σ 60 16 204 on off) 68 16 (σ 204 0) x = xw (xw (xw (xw (xw σ 204 (0) (nI (n + 1))) 62 (n) (on)) 64 (n) (off)) 66 (n) (cfgI on off)) 68 (n) (x) := by
    unfold cApp cPut
    rw [e2, vPut_n n8 (by decide), vPut_n n8 (by decide), vPut_n n8 (by decide), vPut_n n8 (by decide), nI_1]
  have E : Eqm (vPut (cApp σ 60 16 204 on off) 68 16 (σ 204 0) x) σ := fun r hr => by rw [e1, xw_ne _ _ _ (by omega), xw_ne _ _ _ (by omega), xw_ne _ _ _ (by omega), xw_ne _ _ _ (by omega), xw_ne _ _ _ (by omega)]
  have z9 : (vPut (cApp σ 60 16 204 on off) 68 16 (σ 204 0) x) 91 3 = nI n := by rw [E 91 (by decide), e9]
  refine ⟨(k_res P E x on off).symm.trans h0, by simp [xw, mAd], by rw [z9, e2, nI_pm], ?_⟩
  rw [z9, nI_clamp (by omega)]
  unfold mAd
  have z8 : ∀ u, xw (t0 (vPut (cApp σ 60 16 204 on off) 68 16 (σ 204 0) x)) 101 n u 91 3 = nI n := fun u => by rw [xw_ne _ _ _ (by decide), t0_ne (by decide), z9]
  rw [z8, ixC' 3 n (by omega), nI_1, e1]
  have h8 := P.ne.2
  exact pg_addResult P en n8 x on off (has_vp (q205 P) (by omega) c1)
theorem st_addField {σ : xS} (h : Sm σ) (o nm t on off : Int32) : StC (kField σ o nm t on off) (qField (mTyp (mApp σ 0 o nm on off) (σ 203 0) t (-1) (-1)) o nm t on off) (qField σ o nm t on off) (σ 203 0) (t0 (mTyp (mApp σ 0 o nm on off) (σ 203 0) t (-1) (-1)) 91 2 + 1 - 1) (sMem (t0 (mTyp (mApp σ 0 o nm on off) (σ 203 0) t (-1) (-1))) false o nm t (-1) (-1) on off) (t0 σ) := by
  obtain ⟨P, K⟩ := h
  refine ⟨fun h0 => ?_, fun h0 => ⟨(k_field P (Eqm_rf σ) o nm t on off).symm, Sm_t0 ⟨P, K⟩⟩⟩
  have h1 := h0
  unfold kField at h1
  obtain ⟨c1, c2⟩ := ite_k0 h1 (by decide)
  obtain ⟨c3, cL⟩ := ite_k0 c2 (by decide)
  have hn := P.n2.2
  obtain ⟨n, en⟩ : ∃ n, cnt σ 2 = n := ⟨_, rfl⟩
  rw [q203 P, en] at cL
  rw [en] at hn
  have n8 : n < 24 := ite_lt (m := 24) cL (by decide) (by omega) (by decide)
  have e2 : σ 203 0 = nI n := by rw [q203 P, en]
  have e9 : σ 91 2 = nI n := by rw [P.n2.1, en]
  have e1 : mTyp (mApp σ 0 o nm on off) (σ 203 0) t (-1) (-1) = xw (xw (xw (xw (xw (xw (xw (xw (xw (xw σ 203 (0) (nI (n + 1))) 30 (n) (on)) 32 (n) (off)) 34 (n) (cfgI on off)) 36 (n) (0)) 38 (n) (o)) 40 (n) (nm)) 42 (n) (t)) 44 (n) (-1)) 46 (n) (-1) := by
    unfold mTyp mApp cApp cPut
    rw [e2, vPut_n n8 (by decide), vPut_n n8 (by decide), vPut_n n8 (by decide), vPut_n n8 (by decide), vPut_n n8 (by decide), vPut_n n8 (by decide), vPut_n n8 (by decide), vPut_n n8 (by decide), vPut_n n8 (by decide), nI_1]
  have E : Eqm (mTyp (mApp σ 0 o nm on off) (σ 203 0) t (-1) (-1)) σ := fun r hr => by rw [e1, xw_ne _ _ _ (by omega), xw_ne _ _ _ (by omega), xw_ne _ _ _ (by omega), xw_ne _ _ _ (by omega), xw_ne _ _ _ (by omega), xw_ne _ _ _ (by omega), xw_ne _ _ _ (by omega), xw_ne _ _ _ (by omega), xw_ne _ _ _ (by omega), xw_ne _ _ _ (by omega)]
  have z9 : (mTyp (mApp σ 0 o nm on off) (σ 203 0) t (-1) (-1)) 91 2 = nI n := by rw [E 91 (by decide), e9]
  have y9 : t0 (mTyp (mApp σ 0 o nm on off) (σ 203 0) t (-1) (-1)) 91 2 = nI n := by rw [t0_ne (by decide), z9]
  refine ⟨(k_field P E o nm t on off).symm.trans h0, by simp [xw, mAd, sMem], by rw [y9, e2, nI_pm], ?_⟩
  unfold sMem
  rw [y9, nI_clamp (by omega)]
  unfold mAd
  have i2 := ix2 n n8
  have z8 : ∀ u1 u2 u3 u4 u5 u6, xw (xw (xw (xw (xw (xw (t0 (mTyp (mApp σ 0 o nm on off) (σ 203 0) t (-1) (-1))) 96 n u1) 97 n u2) 98 n u3) 99 n u4) 100 (2 * n) u5) 100 (2 * n + 1) u6 91 2 = nI n := fun u1 u2 u3 u4 u5 u6 => by rw [xw_ne _ _ _ (by decide), xw_ne _ _ _ (by decide), xw_ne _ _ _ (by decide), xw_ne _ _ _ (by decide), xw_ne _ _ _ (by decide), xw_ne _ _ _ (by decide), y9]
  rw [i2.1, i2.2, z8, ixC' 2 n (by omega), nI_1, e1]
  have h8 := P.n0.2
  exact pg_addMember P en n8 0 o nm t (-1) (-1) on off (Or.inl rfl) (has_vp (q201 P) (by omega) c1) (name_vp c3.1) (hasT_tyk P c3.2.1) (Or.inl rfl) (Or.inl rfl) (fun _ => rfl)
theorem st_addMethod {σ : xS} (h : Sm σ) (o nm t f g on off : Int32) : StC (kMeth σ o nm t f g on off) (qMeth (mTyp (mApp σ 1 o nm on off) (σ 203 0) t f g) o nm t f g on off) (qMeth σ o nm t f g on off) (σ 203 0) (t0 (mTyp (mApp σ 1 o nm on off) (σ 203 0) t f g) 91 2 + 1 - 1) (sMem (t0 (mTyp (mApp σ 1 o nm on off) (σ 203 0) t f g)) true o nm t f g on off) (t0 σ) := by
  obtain ⟨P, K⟩ := h
  refine ⟨fun h0 => ?_, fun h0 => ⟨(k_meth P (Eqm_rf σ) o nm t f g on off).symm, Sm_t0 ⟨P, K⟩⟩⟩
  have h1 := h0
  unfold kMeth at h1
  obtain ⟨c1, c2⟩ := ite_k0 h1 (by decide)
  obtain ⟨c3, cL⟩ := ite_k0 c2 (by decide)
  have c4 := (pars_q P (Eqm_rf σ) f g).mp c3.2.2.1
  rw [ty_q P (Eqm_rf σ), ty_q P (Eqm_rf σ)] at c4
  have hn := P.n2.2
  obtain ⟨n, en⟩ : ∃ n, cnt σ 2 = n := ⟨_, rfl⟩
  rw [q203 P, en] at cL
  rw [en] at hn
  have n8 : n < 24 := ite_lt (m := 24) cL (by decide) (by omega) (by decide)
  have e2 : σ 203 0 = nI n := by rw [q203 P, en]
  have e9 : σ 91 2 = nI n := by rw [P.n2.1, en]
  have e1 : mTyp (mApp σ 1 o nm on off) (σ 203 0) t f g = xw (xw (xw (xw (xw (xw (xw (xw (xw (xw σ 203 (0) (nI (n + 1))) 30 (n) (on)) 32 (n) (off)) 34 (n) (cfgI on off)) 36 (n) (1)) 38 (n) (o)) 40 (n) (nm)) 42 (n) (t)) 44 (n) (f)) 46 (n) (g) := by
    unfold mTyp mApp cApp cPut
    rw [e2, vPut_n n8 (by decide), vPut_n n8 (by decide), vPut_n n8 (by decide), vPut_n n8 (by decide), vPut_n n8 (by decide), vPut_n n8 (by decide), vPut_n n8 (by decide), vPut_n n8 (by decide), vPut_n n8 (by decide), nI_1]
  have E : Eqm (mTyp (mApp σ 1 o nm on off) (σ 203 0) t f g) σ := fun r hr => by rw [e1, xw_ne _ _ _ (by omega), xw_ne _ _ _ (by omega), xw_ne _ _ _ (by omega), xw_ne _ _ _ (by omega), xw_ne _ _ _ (by omega), xw_ne _ _ _ (by omega), xw_ne _ _ _ (by omega), xw_ne _ _ _ (by omega), xw_ne _ _ _ (by omega), xw_ne _ _ _ (by omega)]
  have z9 : (mTyp (mApp σ 1 o nm on off) (σ 203 0) t f g) 91 2 = nI n := by rw [E 91 (by decide), e9]
  have y9 : t0 (mTyp (mApp σ 1 o nm on off) (σ 203 0) t f g) 91 2 = nI n := by rw [t0_ne (by decide), z9]
  refine ⟨(k_meth P E o nm t f g on off).symm.trans h0, by simp [xw, mAd, sMem], by rw [y9, e2, nI_pm], ?_⟩
  unfold sMem
  rw [y9, nI_clamp (by omega)]
  unfold mAd
  have i2 := ix2 n n8
  have z8 : ∀ u1 u2 u3 u4 u5 u6, xw (xw (xw (xw (xw (xw (t0 (mTyp (mApp σ 1 o nm on off) (σ 203 0) t f g)) 96 n u1) 97 n u2) 98 n u3) 99 n u4) 100 (2 * n) u5) 100 (2 * n + 1) u6 91 2 = nI n := fun u1 u2 u3 u4 u5 u6 => by rw [xw_ne _ _ _ (by decide), xw_ne _ _ _ (by decide), xw_ne _ _ _ (by decide), xw_ne _ _ _ (by decide), xw_ne _ _ _ (by decide), xw_ne _ _ _ (by decide), y9]
  rw [i2.1, i2.2, z8, ixC' 2 n (by omega), nI_1, e1]
  have h8 := P.n0.2
  exact pg_addMember P en n8 1 o nm t f g on off (Or.inr rfl) (has_vp (q201 P) (by omega) c1) (name_vp c3.1) (hasT_tyk P c3.2.1) (c4.1.imp id (hasT_tyk P)) (c4.2.1.imp id (hasT_tyk P)) (fun e => c4.2.2.resolve_left (fun q => q e))
/-- the state that both sides leave behind a new expression -/
theorem eSet_2 {τ : xS} {n : Nat} (h : n < 50) (a b c a' b' c' : Int32) : eSet (eSet τ (nI n) a b c) (nI n) a' b' c' = xw (xw (xw τ 55 n a') 57 n b') 59 n c' := by
  unfold eSet
  rw [vPut_n h (by decide), vPut_n h (by decide), vPut_n h (by decide), vPut_n h (by decide), vPut_n h (by decide), vPut_n h (by decide)]
  funext u w
  unfold xw
  by_cases h1 : u = 59 ∧ w = n
  · simp only [if_pos h1]
  · by_cases h2 : u = 57 ∧ w = n
    · simp only [if_neg h1, if_pos h2]
    · by_cases h3 : u = 55 ∧ w = n
      · simp only [if_neg h1, if_neg h2, if_pos h3]
      · simp only [if_neg h1, if_neg h2, if_neg h3]
theorem eSet_1 {τ : xS} {n : Nat} (h : n < 50) (a b c : Int32) : eSet τ (nI n) a b c = xw (xw (xw τ 55 n a) 57 n b) 59 n c := by
  unfold eSet
  rw [vPut_n h (by decide), vPut_n h (by decide), vPut_n h (by decide)]
def exS (σ : xS) (n : Nat) (k m d p0 p1 p2 : Int32) : xS := xw (xw (xw (xw (xw (xw (xw σ 205 (0) (nI (n + 1))) 49 (n) (k)) 51 (n) (m)) 53 (n) (d)) 55 (n) (p0)) 57 (n) (p1)) 59 (n) (p2)
theorem eApp_x {σ : xS} {n : Nat} (h : n < 50) (e2 : σ 205 0 = nI n) (k m d : Int32) : eApp σ k m d = exS σ n k m d (-1) (-1) (-1) := by
  unfold eApp exS
  rw [e2, eSet_1 h, vPut_n h (by decide), vPut_n h (by decide), vPut_n h (by decide), nI_1]
theorem eApp_y {σ : xS} {n : Nat} (h : n < 50) (e2 : σ 205 0 = nI n) (k m d a b c : Int32) : eSet (eApp σ k m d) (σ 205 0) a b c = exS σ n k m d a b c := by
  unfold eApp exS
  rw [e2, eSet_2 h, vPut_n h (by decide), vPut_n h (by decide), vPut_n h (by decide), nI_1]
theorem exS_E {σ : xS} {n : Nat} {k m d p0 p1 p2 : Int32} : Eqm (exS σ n k m d p0 p1 p2) σ := fun r hr => by
  unfold exS
  rw [xw_ne _ _ _ (by omega), xw_ne _ _ _ (by omega), xw_ne _ _ _ (by omega), xw_ne _ _ _ (by omega), xw_ne _ _ _ (by omega), xw_ne _ _ _ (by omega), xw_ne _ _ _ (by omega)]
theorem sExp_x {σ : xS} {n : Nat} (h : n < 50) (e9 : σ 210 0 = nI n) (fo m w e f g : Int32) : sExp σ fo m w e f g = xw (xw (xw (xw (xw (xw (xw (xw σ 102 (n) (fo)) 103 (n) (m)) 104 (n) (w)) 105 (3 * n) (e)) 105 (3 * n + 1) (f)) 105 (3 * n + 2) (g)) 210 (0) (nI (n + 1))) 211 (0) (0) := by
  have i3 : ∀ i, i < 3 → ((3 : Int32) * nI n + nI i).toNatClampNeg = 3 * n + i := fun i hi => ixC 3 n i (by omega)
  have j0 : ((3 : Int32) * nI n).toNatClampNeg = 3 * n := by
    show (nI 3 * nI n).toNatClampNeg = _
    rw [pk_mul, nI_clamp (by omega)]
  have j1 : ((3 : Int32) * nI n + 1).toNatClampNeg = 3 * n + 1 := i3 1 (by decide)
  have j2 : ((3 : Int32) * nI n + 2).toNatClampNeg = 3 * n + 2 := i3 2 (by decide)
  unfold sExp
  rw [e9, nI_clamp (by omega), j0, j1, j2, nI_1]
theorem mIsM_vp {σ : xS} (P : Pg σ) {m : Int32} (h : mIsM σ m = true) : vp_in m (cnt σ 2) ∧ σ 96 m.toNatClampNeg = 1 := by
  have hn := P.n2.2
  unfold mIsM at h
  rw [Bool.and_eq_true] at h
  have v := has_vp (q203 P) (by omega) h.1
  obtain ⟨j, hj, rfl⟩ := vp_ex v
  refine ⟨v, ?_⟩
  have := of_decide_eq_true h.2
  rw [vAt_n (by omega) (by decide), P.A.1.2.2.2.2.2.1] at this
  rw [nI_clamp (by omega)]; exact this
/-- a new expression, whichever it is -/
theorem st_expr {σ σ1 : xS} (P : Pg σ) {n : Nat} (en : nEx σ = n) (n8 : n < 50) (k m d w p0 p1 p2 : Int32) (e1 : σ1 = exS σ n k m d p0 p1 p2) (hdw : ¬ k = 1 → ¬ k = 2 → d = w) (hm : vp_in m (cnt σ 2)) (hs : σ 96 m.toNatClampNeg = 1) (hk : vp_in k 6) (hk0 : k = 0 → vp_in w (cnt σ 0)) (hk3 : k = 3 → vp_in w 2) (hk4 : k = 4 ∨ k = 5 → vp_in w 10 ∧ ¬ p0 = -1) (hw : vp_in w 10) (g0 : p0 = -1 ∨ (vp_in p0 n ∧ σ 103 p0.toNatClampNeg = m)) (g1 : p1 = -1 ∨ (vp_in p1 n ∧ σ 103 p1.toNatClampNeg = m)) (g2 : p2 = -1 ∨ (vp_in p2 n ∧ σ 103 p2.toNatClampNeg = m)) (hk8 : ¬ k = 4 → ¬ k = 5 → p0 = -1 ∧ p1 = -1 ∧ p2 = -1) : sExp (t0 σ1) k m w p0 p1 p2 208 0 = 0 ∧ σ 205 0 = t0 σ1 210 0 + 1 - 1 ∧ Sm (sExp (t0 σ1) k m w p0 p1 p2) := by
  have e9 : t0 σ1 210 0 = nI n := by rw [t0_ne (by decide), e1, exS_E 210 (by decide), P.ne.1, en]
  have e2 : σ 205 0 = nI n := by rw [q205 P, en]
  rw [sExp_x n8 e9, e9, e2, nI_pm]
  refine ⟨by simp [xw], rfl, ?_⟩
  rw [e1]
  exact pg_addExpr P en n8 k m d w p0 p1 p2 hdw hm hs hk hk0 hk3 hk4 hw g0 g1 g2 hk8
theorem st_addNew {σ : xS} (h : Sm σ) (m c : Int32) : StC (kNew σ m c) (qNew (eApp σ 0 m c) m c) (qNew σ m c) (σ 205 0) (t0 (eApp σ 0 m c) 210 0 + 1 - 1) (sExp (t0 (eApp σ 0 m c)) 0 m c (-1) (-1) (-1)) (t0 σ) := by
  obtain ⟨P, K⟩ := h
  refine ⟨fun h0 => ?_, fun h0 => ⟨(k_new P (Eqm_rf σ) m c).symm, Sm_t0 ⟨P, K⟩⟩⟩
  have h1 := h0
  unfold kNew at h1
  obtain ⟨c1, cL⟩ := ite_k0 h1 (by decide)
  have hn := P.ne.2
  have h8 := P.n0.2
  obtain ⟨n, en⟩ : ∃ n, nEx σ = n := ⟨_, rfl⟩
  rw [q205 P, en] at cL
  rw [en] at hn
  have n8 : n < 50 := ite_lt (m := 50) cL (by decide) (by omega) (by decide)
  have e2 : σ 205 0 = nI n := by rw [q205 P, en]
  have e1 := eApp_x n8 e2 0 m c
  have E : Eqm (eApp σ 0 m c) σ := by rw [e1]; exact exS_E
  have v := mIsM_vp P c1.1
  have vc := has_vp (q201 P) (by omega) c1.2
  have z := st_expr P en n8 0 m c c (-1) (-1) (-1) e1 (fun _ _ => rfl) v.1 v.2 (vp_in_nI (n := 0) (by decide) (by decide)) (fun _ => vc) (fun e => absurd e (by decide)) (fun e => absurd e (by decide)) (vp_le vc (by omega)) (Or.inl rfl) (Or.inl rfl) (Or.inl rfl) (fun _ _ => ⟨rfl, rfl, rfl⟩)
  exact ⟨(k_new P E m c).symm.trans h0, z⟩
theorem st_addPlain {σ : xS} (h : Sm σ) (m : Int32) (b : Bool) : StC (kPlain σ m) (qPlain (eApp σ (if b = true then 2 else 1) m (-1)) m) (qPlain σ m) (σ 205 0) (t0 (eApp σ (if b = true then 2 else 1) m (-1)) 210 0 + 1 - 1) (sExp (t0 (eApp σ (if b = true then 2 else 1) m (-1))) (if b = true then 2 else 1) m 0 (-1) (-1) (-1)) (t0 σ) := by
  obtain ⟨P, K⟩ := h
  refine ⟨fun h0 => ?_, fun h0 => ⟨(k_plain P (Eqm_rf σ) m).symm, Sm_t0 ⟨P, K⟩⟩⟩
  have h1 := h0
  unfold kPlain at h1
  obtain ⟨c1, cL⟩ := ite_k0 h1 (by decide)
  have hn := P.ne.2
  have h8 := P.n0.2
  obtain ⟨n, en⟩ : ∃ n, nEx σ = n := ⟨_, rfl⟩
  rw [q205 P, en] at cL
  rw [en] at hn
  have n8 : n < 50 := ite_lt (m := 50) cL (by decide) (by omega) (by decide)
  have e2 : σ 205 0 = nI n := by rw [q205 P, en]
  have e1 := eApp_x n8 e2 (if b = true then 2 else 1) m (-1)
  have E : Eqm (eApp σ (if b = true then 2 else 1) m (-1)) σ := by rw [e1]; exact exS_E
  have v := mIsM_vp P c1
  have hk : (if b = true then (2 : Int32) else 1) = 1 ∨ (if b = true then (2 : Int32) else 1) = 2 := by cases b <;> simp
  have hk6 : vp_in (if b = true then (2 : Int32) else 1) 6 := by cases b; exact vp_in_nI (n := 1) (by decide) (by decide); exact vp_in_nI (n := 2) (by decide) (by decide)
  have hne : ∀ q : Int32, ¬ q = 1 → ¬ q = 2 → ¬ (if b = true then (2 : Int32) else 1) = q := fun q g1 g2 e => hk.elim (fun e2 => g1 (e.symm.trans e2)) (fun e2 => g2 (e.symm.trans e2))
  have z := st_expr P en n8 (if b = true then 2 else 1) m (-1) 0 (-1) (-1) (-1) e1 (fun g1 g2 => hk.elim (fun e => absurd e g1) (fun e => absurd e g2)) v.1 v.2 hk6 (fun e => absurd e (hne 0 (by decide) (by decide))) (fun e => absurd e (hne 3 (by decide) (by decide))) (fun e => e.elim (fun e => absurd e (hne 4 (by decide) (by decide))) (fun e => absurd e (hne 5 (by decide) (by decide)))) (vp_in_nI (n := 0) (by decide) (by decide)) (Or.inl rfl) (Or.inl rfl) (Or.inl rfl) (fun _ _ => ⟨rfl, rfl, rfl⟩)
  exact ⟨(k_plain P E m).symm.trans h0, z⟩
theorem st_addArgument {σ : xS} (h : Sm σ) (m i : Int32) : StC (kArg σ m i) (qArg (eApp σ 3 m i) m i) (qArg σ m i) (σ 205 0) (t0 (eApp σ 3 m i) 210 0 + 1 - 1) (sExp (t0 (eApp σ 3 m i)) 3 m i (-1) (-1) (-1)) (t0 σ) := by
  obtain ⟨P, K⟩ := h
  refine ⟨fun h0 => ?_, fun h0 => ⟨(k_arg P (Eqm_rf σ) m i).symm, Sm_t0 ⟨P, K⟩⟩⟩
  have h1 := h0
  unfold kArg at h1
  obtain ⟨c1, cL⟩ := ite_k0 h1 (by decide)
  have hn := P.ne.2
  have h8 := P.n0.2
  obtain ⟨n, en⟩ : ∃ n, nEx σ = n := ⟨_, rfl⟩
  rw [q205 P, en] at cL
  rw [en] at hn
  have n8 : n < 50 := ite_lt (m := 50) cL (by decide) (by omega) (by decide)
  have e2 : σ 205 0 = nI n := by rw [q205 P, en]
  have e1 := eApp_x n8 e2 3 m i
  have E : Eqm (eApp σ 3 m i) σ := by rw [e1]; exact exS_E
  have v := mIsM_vp P c1.1
  have vi : vp_in i 2 := by
    have c2 := c1.2
    unfold mPar at c2
    by_cases e0 : i = 0
    · subst e0; exact vp_in_nI (n := 0) (by decide) (by decide)
    · rw [if_neg e0] at c2
      by_cases e1 : i = 1
      · subst e1; exact vp_in_nI (n := 1) (by decide) (by decide)
      · rw [if_neg e1] at c2; exact absurd rfl c2
  have z := st_expr P en n8 3 m i i (-1) (-1) (-1) e1 (fun _ _ => rfl) v.1 v.2 (vp_in_nI (n := 3) (by decide) (by decide)) (fun e => absurd e (by decide)) (fun _ => vi) (fun e => absurd e (by decide)) (vp_le vi (by decide)) (Or.inl rfl) (Or.inl rfl) (Or.inl rfl) (fun _ _ => ⟨rfl, rfl, rfl⟩)
  exact ⟨(k_arg P E m i).symm.trans h0, z⟩
theorem st_addFieldOf {σ : xS} (h : Sm σ) (x nm : Int32) : StC (kFOf σ x nm) (qFOf (eSet (eApp σ 4 (vAt 50 (σ 51) x) nm) (σ 205 0) x (-1) (-1)) x nm) (qFOf σ x nm) (σ 205 0) (t0 (eSet (eApp σ 4 (vAt 50 (σ 51) x) nm) (σ 205 0) x (-1) (-1)) 210 0 + 1 - 1) (sExp (t0 (eSet (eApp σ 4 (vAt 50 (σ 51) x) nm) (σ 205 0) x (-1) (-1))) 4 (t0 (eSet (eApp σ 4 (vAt 50 (σ 51) x) nm) (σ 205 0) x (-1) (-1)) 103 x.toNatClampNeg) nm x (-1) (-1)) (t0 σ) := by
  obtain ⟨P, K⟩ := h
  refine ⟨fun h0 => ?_, fun h0 => ⟨(k_fof P (Eqm_rf σ) x nm).symm, Sm_t0 ⟨P, K⟩⟩⟩
  have h1 := h0
  unfold kFOf at h1
  obtain ⟨c1, c2⟩ := ite_k0 h1 (by decide)
  obtain ⟨c3, cL⟩ := ite_k0 c2 (by decide)
  have hn := P.ne.2
  have h8 := P.n0.2
  obtain ⟨n, en⟩ : ∃ n, nEx σ = n := ⟨_, rfl⟩
  rw [q205 P, en] at cL
  rw [en] at hn
  have n8 : n < 50 := ite_lt (m := 50) cL (by decide) (by omega) (by decide)
  have e2 : σ 205 0 = nI n := by rw [q205 P, en]
  have e1 := eApp_y n8 e2 4 (vAt 50 (σ 51) x) nm x (-1) (-1)
  have E : Eqm (eSet (eApp σ 4 (vAt 50 (σ 51) x) nm) (σ 205 0) x (-1) (-1)) σ := by rw [e1]; exact exS_E
  have vx := has_vp (q205 P) (by omega) c1
  have hx := P.e x.toNatClampNeg (vp_cl vx)
  have e51 : vAt 50 (σ 51) x = σ 103 x.toNatClampNeg := m51 P vx
  have xm1 : ¬ x = -1 := fun e => by have := vp_nI vx; rw [e] at this; exact absurd this (by decide)
  rw [show t0 (eSet (eApp σ 4 (vAt 50 (σ 51) x) nm) (σ 205 0) x (-1) (-1)) 103 x.toNatClampNeg = σ 103 x.toNatClampNeg by rw [t0_ne (by decide), E 103 (by decide)]]
  rw [e51] at e1 E ⊢
  have z := st_expr P en n8 4 (σ 103 x.toNatClampNeg) nm nm x (-1) (-1) e1 (fun _ _ => rfl) hx.1 hx.2.1 (vp_in_nI (n := 4) (by decide) (by decide)) (fun e => absurd e (by decide)) (fun e => absurd e (by decide)) (fun _ => ⟨name_vp c3, xm1⟩) (name_vp c3) (Or.inr ⟨by rw [← en]; exact vx, rfl⟩) (Or.inl rfl) (Or.inl rfl) (fun e _ => absurd rfl e)
  exact ⟨(k_fof P E x nm).symm.trans h0, z⟩
theorem st_addCall {σ : xS} (h : Sm σ) (x nm f g : Int32) : StC (kCall σ x nm f g) (qCall (eSet (eApp σ 5 (vAt 50 (σ 51) x) nm) (σ 205 0) x f g) x nm f g) (qCall σ x nm f g) (σ 205 0) (t0 (eSet (eApp σ 5 (vAt 50 (σ 51) x) nm) (σ 205 0) x f g) 210 0 + 1 - 1) (sExp (t0 (eSet (eApp σ 5 (vAt 50 (σ 51) x) nm) (σ 205 0) x f g)) 5 (t0 (eSet (eApp σ 5 (vAt 50 (σ 51) x) nm) (σ 205 0) x f g) 103 x.toNatClampNeg) nm x f g) (t0 σ) := by
  obtain ⟨P, K⟩ := h
  refine ⟨fun h0 => ?_, fun h0 => ⟨(k_call P (Eqm_rf σ) x nm f g).symm, Sm_t0 ⟨P, K⟩⟩⟩
  have h1 := h0
  unfold kCall at h1
  obtain ⟨c1, c2⟩ := ite_k0 h1 (by decide)
  obtain ⟨c3, cL⟩ := ite_k0 c2 (by decide)
  have hn := P.ne.2
  have h8 := P.n0.2
  obtain ⟨n, en⟩ : ∃ n, nEx σ = n := ⟨_, rfl⟩
  rw [q205 P, en] at cL
  rw [en] at hn
  have n8 : n < 50 := ite_lt (m := 50) cL (by decide) (by omega) (by decide)
  have e2 : σ 205 0 = nI n := by rw [q205 P, en]
  have e1 := eApp_y n8 e2 5 (vAt 50 (σ 51) x) nm x f g
  have E : Eqm (eSet (eApp σ 5 (vAt 50 (σ 51) x) nm) (σ 205 0) x f g) σ := by rw [e1]; exact exS_E
  have vx := has_vp (q205 P) (by omega) c1.1
  have hx := P.e x.toNatClampNeg (vp_cl vx)
  have e51 : vAt 50 (σ 51) x = σ 103 x.toNatClampNeg := m51 P vx
  have xm1 : ¬ x = -1 := fun e => by have := vp_nI vx; rw [e] at this; exact absurd this (by decide)
  have ar : ∀ y, eOrN σ y = true → eTog σ x y = true → y = -1 ∨ (vp_in y n ∧ σ 103 y.toNatClampNeg = σ 103 x.toNatClampNeg) := fun y h1 h2 => by
    unfold eOrN at h1
    unfold eTog at h2
    rw [Bool.or_eq_true, decide_eq_true_eq] at h1 h2
    rcases h1 with h1 | h1
    · exact Or.inl h1
    · have vy := has_vp (q205 P) (by omega) h1
      refine h2.imp id (fun q => ⟨by rw [← en]; exact vy, ?_⟩)
      rw [e51, m51 P vy] at q; exact of_decide_eq_true q
  rw [show t0 (eSet (eApp σ 5 (vAt 50 (σ 51) x) nm) (σ 205 0) x f g) 103 x.toNatClampNeg = σ 103 x.toNatClampNeg by rw [t0_ne (by decide), E 103 (by decide)]]
  rw [e51] at e1 E ⊢
  have z := st_expr P en n8 5 (σ 103 x.toNatClampNeg) nm nm x f g e1 (fun _ _ => rfl) hx.1 hx.2.1 (vp_in_nI (n := 5) (by decide) (by decide)) (fun e => absurd e (by decide)) (fun e => absurd e (by decide)) (fun _ => ⟨name_vp c3.1, xm1⟩) (name_vp c3.1) (Or.inr ⟨by rw [← en]; exact vx, rfl⟩) (ar f c1.2.1 c3.2.2.1) (ar g c1.2.2 c3.2.2.2) (fun _ e => absurd rfl e)
  exact ⟨(k_call P E x nm f g).symm.trans h0, z⟩
theorem st_dropResult {σ : xS} (h : Sm σ) : StC (kDropX σ) (qDropX (xw σ 204 0 (σ 204 0 - 1))) (qDropX σ) (xw σ 204 0 (σ 204 0 - 1) 204 0) (xw σ 204 0 (σ 204 0 - 1) 91 3 - 1) (xw (xw (t0 (xw σ 204 0 (σ 204 0 - 1))) 91 3 (xw σ 204 0 (σ 204 0 - 1) 91 3 - 1)) 211 0 0) (t0 σ) := by
  obtain ⟨P, K⟩ := h
  refine ⟨fun h0 => ?_, fun h0 => ⟨(k_dropX P (Eqm_rf σ)).symm, Sm_t0 ⟨P, K⟩⟩⟩
  have h1 := h0
  unfold kDropX at h1
  have hn := P.n3.2
  obtain ⟨m, em⟩ : ∃ m, cnt σ 3 = m := ⟨_, rfl⟩
  have e2 : σ 204 0 = nI m := by rw [q204 P, em]
  have e9 : σ 91 3 = nI m := by rw [P.n3.1, em]
  rw [e2] at h1
  obtain ⟨n, rfl⟩ : ∃ n, m = n + 1 := by
    cases m with
    | zero => rw [if_pos nI_0] at h1; cases h1
    | succ n => exact ⟨n, rfl⟩
  have E : Eqm (xw σ 204 0 (σ 204 0 - 1)) σ := fun r hr => xw_ne _ _ _ (by omega)
  have z9 : xw σ 204 0 (σ 204 0 - 1) 91 3 = nI (n + 1) := by rw [E 91 (by decide), e9]
  refine ⟨(k_dropX P E).symm.trans h0, by simp [xw], by rw [xw_at, z9, e2], ?_⟩
  rw [z9, e2, nI_pred]
  exact pg_dropResult P em
/-- setCondition: the codes, the answers, the facts -/
theorem set_one {σ : xS} {s b n q i : Nat} (C : Scn σ s b n q) (hc : cnt σ s ≤ n) (hn : n ≤ 24) (h4 : s < 4) (hi : i < cnt σ s) (on off : Int32) {σ1 : xS} (E : Eqm σ1 σ) : cChg σ b n (nI i) on off = mOth (t0 σ1) (nI s) (nI i) on off ∧ mAx (nI s) (nI i) = 24 * s + i := by
  have ax : mAx (nI s) (nI i) = 24 * s + i := ixC 24 s i (by omega)
  refine ⟨?_, ax⟩
  unfold cChg mOth
  rw [ax, vAt_n (by omega) (by omega), vAt_n (by omega) (by omega), C.2.1 i (by omega), C.2.2.1 i (by omega), t0_ne (by decide), t0_ne (by decide), E 92 (by decide), E 93 (by decide)]
theorem cPut_x {σ : xS} {b n i : Nat} (h : i < n) (hn : n < 2 ^ 31) (on off : Int32) : cPut σ b n (nI i) on off = xw (xw (xw σ (b + 2) i on) (b + 4) i off) (b + 6) i (cfgI on off) := by
  unfold cPut
  rw [vPut_n h hn, vPut_n h hn, vPut_n h hn]
def StZ (k q1 q2 : Nat) (a x : Bool) (S F : xS) : Prop := (k = 0 → q1 = 0 ∧ S 208 0 = 0 ∧ a = x ∧ Sm S) ∧ (k ≠ 0 → q2 = k ∧ Sm (xw F 208 0 (nI k)))
theorem st_setCondition {σ : xS} (h : Sm σ) (t i on off : Int32) : StZ (kSet σ t i on off) (qSet (cPut σ (setQ t) (setC t) i on off) t i on off) (qSet σ t i on off) (cChg σ (setQ t) (setC t) i on off) (mOth (t0 (cPut σ (setQ t) (setC t) i on off)) t i on off) (sSet (cPut σ (setQ t) (setC t) i on off) t i on off) σ := by
  obtain ⟨P, K⟩ := h
  refine ⟨fun h0 => ?_, fun h0 => ⟨(k_set P (Eqm_rf σ) t i on off).symm, Sm_208 ⟨P, K⟩⟩⟩
  have h1 := h0
  unfold kSet at h1
  obtain ⟨c1, c2⟩ := ite_k0 h1 (by decide)
  have n0 := P.n0
  have n1 := P.n1
  have n2 := P.n2
  have n3 := P.n3
  unfold hasE at c1
  rw [Bool.and_eq_true, Bool.and_eq_true, decide_eq_true_eq, decide_eq_true_eq] at c1
  rcases sort4 c1.1 c1.2.1 with rfl | rfl | rfl | rfl
  · obtain ⟨j, hj, rfl⟩ := vp_ex (has_vp (q201 P) (by omega) (show cHas σ 201 i = true from c1.2.2))
    have e1 : cPut σ (setQ 0) (setC 0) (nI j) on off = xw (xw (xw σ 11 j on) 13 j off) 15 j (cfgI on off) := cPut_x (b := 9) (n := 8) (by omega) (by decide) on off
    have E : Eqm (cPut σ (setQ 0) (setC 0) (nI j) on off) σ := fun r hr => by rw [e1, xw_ne _ _ _ (by omega), xw_ne _ _ _ (by omega), xw_ne _ _ _ (by omega)]
    obtain ⟨z1, z2⟩ := set_one P.C0 n0.2 (by decide) (by decide) hj on off E
    refine ⟨(k_set P E _ _ on off).symm.trans h0, by simp [xw, sSet], z1, ?_⟩
    unfold sSet
    rw [show mAx 0 (nI j) = 24 * 0 + j from z2, e1]
    exact pg_set0 P hj on off
  · obtain ⟨j, hj, rfl⟩ := vp_ex (has_vp (q202 P) (by omega) (show cHas σ 202 i = true from c1.2.2))
    have e1 : cPut σ (setQ 1) (setC 1) (nI j) on off = xw (xw (xw σ 18 j on) 20 j off) 22 j (cfgI on off) := cPut_x (b := 16) (n := 12) (by omega) (by decide) on off
    have E : Eqm (cPut σ (setQ 1) (setC 1) (nI j) on off) σ := fun r hr => by rw [e1, xw_ne _ _ _ (by omega), xw_ne _ _ _ (by omega), xw_ne _ _ _ (by omega)]
    obtain ⟨z1, z2⟩ := set_one P.C1 n1.2 (by decide) (by decide) hj on off E
    refine ⟨(k_set P E _ _ on off).symm.trans h0, by simp [xw, sSet], z1, ?_⟩
    unfold sSet
    rw [show mAx 1 (nI j) = 24 * 1 + j from z2, e1]
    exact pg_set1 P hj on off
  · obtain ⟨j, hj, rfl⟩ := vp_ex (has_vp (q203 P) (by omega) (show cHas σ 203 i = true from c1.2.2))
    have e1 : cPut σ (setQ 2) (setC 2) (nI j) on off = xw (xw (xw σ 30 j on) 32 j off) 34 j (cfgI on off) := cPut_x (b := 28) (n := 24) (by omega) (by decide) on off
    have E : Eqm (cPut σ (setQ 2) (setC 2) (nI j) on off) σ := fun r hr => by rw [e1, xw_ne _ _ _ (by omega), xw_ne _ _ _ (by omega), xw_ne _ _ _ (by omega)]
    obtain ⟨z1, z2⟩ := set_one P.C2 n2.2 (by decide) (by decide) hj on off E
    refine ⟨(k_set P E _ _ on off).symm.trans h0, by simp [xw, sSet], z1, ?_⟩
    unfold sSet
    rw [show mAx 2 (nI j) = 24 * 2 + j from z2, e1]
    exact pg_set2 P hj on off
  · obtain ⟨j, hj, rfl⟩ := vp_ex (has_vp (q204 P) (by omega) (show cHas σ 204 i = true from c1.2.2))
    have e1 : cPut σ (setQ 3) (setC 3) (nI j) on off = xw (xw (xw σ 62 j on) 64 j off) 66 j (cfgI on off) := cPut_x (b := 60) (n := 16) (by omega) (by decide) on off
    have E : Eqm (cPut σ (setQ 3) (setC 3) (nI j) on off) σ := fun r hr => by rw [e1, xw_ne _ _ _ (by omega), xw_ne _ _ _ (by omega), xw_ne _ _ _ (by omega)]
    obtain ⟨z1, z2⟩ := set_one P.C3 n3.2 (by decide) (by decide) hj on off E
    refine ⟨(k_set P E _ _ on off).symm.trans h0, by simp [xw, sSet], z1, ?_⟩
    unfold sSet
    rw [show mAx 3 (nI j) = 24 * 3 + j from z2, e1]
    exact pg_set3 P hj on off

/-! Two checkers: the rows of p and of the one alone. -/
def cfA (c x : Int32) : Int32 := cfgI (bI (!isTrB x c)) 0
theorem cf_bt {c : Nat} (hc : c < 16) (x : Int32) : bt (cfgO x) c = bt (cfA (nI c) x) 0 := by
  have e : bt (cfgO x) c = isTrB x (nI c) := (isTr_bt x hc).symm
  rw [e]
  unfold cfA
  cases isTrB x (nI c) <;> decide +kernel
theorem cfr_bt {c : Nat} (hc : c < 16) (n : Nat) (f : Nat → Int32) (j : Nat) : bt (rwf n (fun j => cfgO (f j)) j) c = bt (rwf n (fun j => cfA (nI c) (f j)) j) 0 := by
  unfold rwf
  split
  · exact cf_bt hc _
  · rw [b_0, b_0]
def Ro (cf : Int32 → Int32) (nc nl nm ne nx : Nat) (σ : xS) : Prop := Rc cf nc σ ∧ Rl cf nl σ ∧ Rm cf nm σ ∧ Re ne σ ∧ Rx cf nx σ
theorem Ro_St {c nc nl nm ne nx : Nat} {σ τ : xS} (hc : c < 16) (h : Ro cfgO nc nl nm ne nx σ) (g : Ro (cfA (nI c)) nc nl nm ne nx τ) (ha : ∀ r, 87 ≤ r → r < 94 → τ r = σ r) : St c 0 σ τ := by
  obtain ⟨⟨c0, c15⟩, ⟨l0, l24, l26, l22⟩, ⟨m0, m36, m38, m40, m42, m44, m46, m34⟩, ⟨e0, e49, e51, e53, e55, e57, e59⟩, ⟨x0, x68, x66⟩⟩ := h
  obtain ⟨⟨d0, d15⟩, ⟨k0, k24, k26, k22⟩, ⟨n0, n36, n38, n40, n42, n44, n46, n34⟩, ⟨f0, f49, f51, f53, f55, f57, f59⟩, ⟨y0, y68, y66⟩⟩ := g
  have a89 := ha 89 (by decide) (by decide)
  have a90 := ha 90 (by decide) (by decide)
  have a91 := ha 91 (by decide) (by decide)
  have a92 := ha 92 (by decide) (by decide)
  have a93 := ha 93 (by decide) (by decide)
  refine ⟨⟨fun q hq => ?_, fun r hr => ?_⟩, fun r hr j => ?_⟩
  · simp only [List.mem_cons, List.not_mem_nil, or_false] at hq
    rcases hq with rfl | rfl | rfl | rfl | rfl
    · rw [c0, d0]
    · rw [l0, k0]
    · rw [m0, n0]
    · rw [x0, y0]
    · rw [e0, f0]
  · simp only [List.mem_cons, List.not_mem_nil, or_false] at hr
    rcases hr with rfl | rfl | rfl | rfl | rfl | rfl | rfl | rfl | rfl | rfl | rfl | rfl | rfl | rfl | rfl
    · rw [l24, k24, a90]
    · rw [l26, k26, a90]
    · rw [m36, n36, a91]
    · rw [m38, n38, a91]
    · rw [m40, n40, a91]
    · rw [m42, n42, a91]
    · rw [m44, n44, a91]
    · rw [m46, n46, a91]
    · rw [e49, f49, a92]
    · rw [e51, f51, a92]
    · rw [e53, f53, a92]
    · rw [e55, f55, a92]
    · rw [e57, f57, a92]
    · rw [e59, f59, a92]
    · rw [x68, y68, a93]
  · simp only [List.mem_cons, List.not_mem_nil, or_false] at hr
    rcases hr with rfl | rfl | rfl | rfl
    · rw [c15, d15, a89]; exact cfr_bt hc nc (fun j => σ 89 j) j
    · rw [l22, k22, a90]; exact cfr_bt hc nl (fun j => σ 90 (3 * j + 2)) j
    · rw [m34, n34, a91]; exact cfr_bt hc nm (fun j => σ 91 (7 * j + 6)) j
    · rw [x66, y66, a93]; exact cfr_bt hc nx (fun j => σ 93 (2 * j + 1)) j
theorem prt.low {F : Nat → Int32} {k : Nat} {x m : Int32} (h : prt F k x m) : x = -1 ∨ ∃ j, j < k ∧ x = nI j := h.imp id (fun ⟨j, j1, j2, _⟩ => ⟨j, j1, j2⟩)
theorem Ro_Wx {cf : Int32 → Int32} {nc nm ne nx : Nat} {σ : xS} (hR : Re ne σ) (hX : Rx cf nx σ) (hE : Ae nc nm ne σ) (hA : Ax ne nx σ) : Wx ne nx σ := by
  obtain ⟨e0, e49, e51, e53, e55, e57, e59⟩ := hR
  obtain ⟨x0, x68, x66⟩ := hX
  refine ⟨by have := hE.1; omega, by have := hA.1; omega, e0, x0, fun k hk r hr => ?_, fun k hk => ?_, fun k hk => ?_⟩
  · obtain ⟨-, -, -, -, -, p3, p4, p5, -⟩ := hE.2 k hk
    simp only [List.mem_cons, List.not_mem_nil, or_false] at hr
    rcases hr with rfl | rfl | rfl
    · rw [e55, rwf_at hk]; exact p3.low
    · rw [e57, rwf_at hk]; exact p4.low
    · rw [e59, rwf_at hk]; exact p5.low
  · obtain ⟨-, h2, -, h4, -⟩ := hE.2 k hk
    rw [e49, rwf_at hk, e55, rwf_at hk]
    exact h2.imp id (fun q => ⟨q, (h4 q).2⟩)
  · obtain ⟨⟨j, j1, j2⟩, -⟩ := hA.2 k hk
    exact ⟨j, j1, by rw [x68, rwf_at hk]; exact j2⟩
/-! The products. -/
theorem dec1 (Z : Int32) : decide (Z &&& 1 = 1) = bt Z 0 := by
  cases e : bt Z 0 with
  | true =>
    refine decide_eq_true (b_ext (fun i hi => ?_))
    rw [b_and, b_1]
    by_cases g : i = 0
    · subst g; rw [e]; rfl
    · rw [decide_eq_false g, Bool.and_false]
  | false =>
    refine decide_eq_false (fun h => ?_)
    have := congrArg (fun z => bt z 0) h
    simp only [b_and, b_1, e] at this
    simp at this
theorem shr_0 {p : Int32} {f : Nat} (hf : f < 32) : bt (p >>> (nI f &&& 31)) 0 = bt p f := by rw [← dec1, has_bt hf]
theorem prBad_eq {nr c k : Nat} {σ : xS} (hc : c < 16) (hR : Rr nr σ) (hA : Ar nr σ) (hk : k < nr) : rBad σ (nI c) k = prBad σ (nI c) k := by
  obtain ⟨h3, h5, h7⟩ := hR.2 k hk
  obtain ⟨q0, q1, q2⟩ := hA.2 k hk
  have hn := hA.1
  obtain ⟨f, hf, ef⟩ := vp_ex q1
  obtain ⟨g, hg, eg⟩ := vp_ex q2
  unfold rBad prBad prHas prBoth
  rw [vAt_n (by omega) (by decide), vAt_n (by omega) (by decide), vAt_n (by omega) (by decide), h3, h5, h7, ef, eg, isIn_bt (by omega), isIn_bt (by omega), dec1, dec1, b_and, shr_0 (by omega), shr_0 (by omega)]
  rcases q0 with e | e
  · rw [if_pos e, e]
    cases bt (nI c) f <;> cases bt (nI c) g <;> decide
  · rw [if_neg (by rw [e]; decide), e]
    cases bt (nI c) f <;> cases bt (nI c) g <;> decide
theorem allI_p {nr c : Nat} {σ : xS} (hc : c < 16) (hR : Rr nr σ) (hA : Ar nr σ) : bt (allI σ) c = prN σ (nI c) nr := by
  have hn := hA.1
  have e : ∀ k, k ≤ nr → rKeptN σ (nI c) k = prN σ (nI c) k := by
    intro k
    induction k with
    | zero => intro _; rfl
    | succ k ih => intro hk; rw [rKeptN, prN, ih (by omega), prBad_eq hc hR hA (by omega)]
  rw [allI_bt (by omega), decide_eq_true hc, Bool.true_and]
  unfold rKept
  rw [hR.1, nI_clamp (by omega)]
  exact e nr (Nat.le_refl _)
/-- the rules of the one alone: no feature -/
def RK (k : Nat) (τ : xS) : Prop := τ 200 0 = nI k ∧ ∀ j, j < k → τ 3 j = 1 ∧ τ 5 j = nI j ∧ τ 7 j = nI j
theorem RK.of {k : Nat} {τ τ' : xS} (h : RK k τ) (d : ∀ r, r ∈ [200, 3, 5, 7] → τ' r = τ r) : RK k τ' := by
  refine ⟨by rw [d 200 (by decide)]; exact h.1, fun j hj => ?_⟩
  rw [d 3 (by decide), d 5 (by decide), d 7 (by decide)]
  exact h.2 j hj
theorem RK.step {n : Nat} {τ : xS} (h : RK n τ) (hn : n < 8) : RK (n + 1) (rApp τ 1 (nI n) (nI n)) := by
  obtain ⟨h0, h1⟩ := h
  unfold RK rApp
  rw [h0]
  refine ⟨by rw [xw_at]; exact nI_1 n, fun k hk => ?_⟩
  rw [xw_ne (r := 200) (a := 3) _ _ _ (by decide), xw_ne (r := 200) (a := 5) _ _ _ (by decide), xw_ne (r := 200) (a := 7) _ _ _ (by decide), vPut_n (a := 7) hn (by decide), xw_ne (r := 7) (a := 3) _ _ _ (by decide), xw_ne (r := 7) (a := 5) _ _ _ (by decide), vPut_n (a := 5) hn (by decide), xw_ne (r := 5) (a := 3) _ _ _ (by decide), vPut_n (a := 3) hn (by decide)]
  by_cases q : k = n
  · subst q; rw [xw_at, xw_at, xw_at]; exact ⟨rfl, rfl, rfl⟩
  · rw [xw_other q, xw_other q, xw_other q, xw_ne (r := 3) (a := 5) _ _ _ (by decide), xw_ne (r := 5) (a := 7) _ _ _ (by decide), xw_ne (r := 3) (a := 7) _ _ _ (by decide)]; exact h1 k (by omega)
theorem allI_4 {τ : xS} (h : RK 4 τ) : allI τ = 1 := by
  obtain ⟨h0, h1⟩ := h
  have e : ∀ c, c < 16 → ∀ j, j < 4 → rBad τ (nI c) j = bt (nI c) j := by
    intro c hc j hj
    obtain ⟨a, b, d⟩ := h1 j hj
    unfold rBad
    rw [vAt_n (by omega) (by decide), vAt_n (by omega) (by decide), vAt_n (by omega) (by decide), a, b, d, isIn_bt (by omega)]
    cases bt (nI c) j <;> decide
  have e2 : allI τ = maskI (fun c => decide (c = 0)) 16 := maskI_congr (fun c hc => by
    unfold rKept
    rw [h0, nI_clamp (by decide)]
    rw [rKeptN, rKeptN, rKeptN, rKeptN, rKeptN, e c hc 0 (by decide), e c hc 1 (by decide), e c hc 2 (by decide), e c hc 3 (by decide)]
    exact (by decide : ∀ c, c < 16 → ((((true && !bt (nI c) 0) && !bt (nI c) 1) && !bt (nI c) 2) && !bt (nI c) 3) = decide (c = 0)) c hc)
  rw [e2]; decide +kernel
/-! What the arrays hold, and the one alone as it is filled. -/
def AV (nr nc nl nm ne nx : Nat) (σ : xS) : Prop := Ar nr σ ∧ Ac nc σ ∧ Al nc nl σ ∧ Am nc nm σ ∧ Ae nc nm ne σ ∧ Ax ne nx σ ∧ σ 87 0 = nI nr ∧ σ 87 1 = nI nc ∧ σ 87 2 = nI nl ∧ σ 87 3 = nI nm ∧ σ 87 4 = nI ne ∧ σ 87 5 = nI nx
theorem AV.of {nr nc nl nm ne nx : Nat} {σ τ : xS} (h : AV nr nc nl nm ne nx σ) (d : ∀ r, 87 ≤ r → r < 94 → τ r = σ r) : AV nr nc nl nm ne nx τ := by
  obtain ⟨h1, h2, h3, h4, h5, h6, h7⟩ := h
  refine ⟨h1.of (El.same (d 88 (by decide) (by decide))), h2.of (El.same (d 89 (by decide) (by decide))), h3.of (El.same (d 90 (by decide) (by decide))), h4.of (El.same (d 91 (by decide) (by decide))), h5.of (El.same (d 91 (by decide) (by decide))) (El.same (d 92 (by decide) (by decide))), h6.of (El.same (d 93 (by decide) (by decide))), ?_⟩
  rw [d 87 (by decide) (by decide)]; exact h7
def AR (c : Int32) (i1 i2 i3 i4 i5 : Nat) (τ : xS) : Prop := RK 4 τ ∧ Ro (cfA c) i1 i2 i3 i4 i5 τ
theorem GC_b (b : Bool) : condB (bI b) 0 = true := by cases b <;> decide

theorem AR.cls {c : Int32} {n : Nat} {τ : xS} {y : Int32} (h : AR c n 0 0 0 0 τ) (hn : n < 8) (hy : y = bI (!isTrB (τ 89 n) c)) : AR c (n + 1) 0 0 0 0 (cApp τ 9 8 201 y 0) := by
  have dd : ∀ r, r ∉ [11, 13, 15, 201] → (cApp τ 9 8 201 y 0) r = τ r := Rc_dif τ y 0
  exact ⟨h.1.of (fun r hr => dd r ((by decide : ∀ r, r ∈ [200, 3, 5, 7] → r ∉ [11, 13, 15, 201]) r hr)), h.2.1.step hn (by rw [hy]; rfl), h.2.2.1.of (fun r hr => dd r ((by decide : ∀ r, r ∈ [202, 24, 26, 22] → r ∉ [11, 13, 15, 201]) r hr)) (El.same (dd 90 (by decide))), h.2.2.2.1.of (fun r hr => dd r ((by decide : ∀ r, r ∈ [203, 36, 38, 40, 42, 44, 46, 34] → r ∉ [11, 13, 15, 201]) r hr)) (El.same (dd 91 (by decide))), h.2.2.2.2.1.of (fun r hr => dd r ((by decide : ∀ r, r ∈ [205, 49, 51, 53, 55, 57, 59] → r ∉ [11, 13, 15, 201]) r hr)) (El.same (dd 92 (by decide))), h.2.2.2.2.2.of (fun r hr => dd r ((by decide : ∀ r, r ∈ [204, 68, 66] → r ∉ [11, 13, 15, 201]) r hr)) (El.same (dd 93 (by decide)))⟩
theorem AR.cls_a {τ : xS} (y : Int32) : ∀ r, 87 ≤ r → r < 94 → (cApp τ 9 8 201 y 0) r = τ r := fun r h1 h2 => (Rc_dif τ y 0) r (by simp only [List.mem_cons, List.not_mem_nil, or_false, not_or]; omega)
theorem AR.link {c : Int32} {n nc : Nat} {τ : xS} {y o q : Int32} (h : AR c nc n 0 0 0 τ) (hn : n < 12) (ho : o = τ 90 (3 * n)) (hq : q = τ 90 (3 * n + 1)) (hy : y = bI (!isTrB (τ 90 (3 * n + 2)) c)) : AR c nc (n + 1) 0 0 0 (vPut (vPut (cApp τ 16 12 202 y 0) 24 12 (τ 202 0) o) 26 12 (τ 202 0) q) := by
  have dd : ∀ r, r ∉ [18, 20, 22, 24, 26, 202] → (vPut (vPut (cApp τ 16 12 202 y 0) 24 12 (τ 202 0) o) 26 12 (τ 202 0) q) r = τ r := Rl_dif τ o q y 0
  exact ⟨h.1.of (fun r hr => dd r ((by decide : ∀ r, r ∈ [200, 3, 5, 7] → r ∉ [18, 20, 22, 24, 26, 202]) r hr)), h.2.1.of (fun r hr => dd r ((by decide : ∀ r, r ∈ [201, 15] → r ∉ [18, 20, 22, 24, 26, 202]) r hr)) (El.same (dd 89 (by decide))), h.2.2.1.step hn ho hq (by rw [hy]; rfl), h.2.2.2.1.of (fun r hr => dd r ((by decide : ∀ r, r ∈ [203, 36, 38, 40, 42, 44, 46, 34] → r ∉ [18, 20, 22, 24, 26, 202]) r hr)) (El.same (dd 91 (by decide))), h.2.2.2.2.1.of (fun r hr => dd r ((by decide : ∀ r, r ∈ [205, 49, 51, 53, 55, 57, 59] → r ∉ [18, 20, 22, 24, 26, 202]) r hr)) (El.same (dd 92 (by decide))), h.2.2.2.2.2.of (fun r hr => dd r ((by decide : ∀ r, r ∈ [204, 68, 66] → r ∉ [18, 20, 22, 24, 26, 202]) r hr)) (El.same (dd 93 (by decide)))⟩
theorem AR.link_a {τ : xS} (y o q : Int32) : ∀ r, 87 ≤ r → r < 94 → (vPut (vPut (cApp τ 16 12 202 y 0) 24 12 (τ 202 0) o) 26 12 (τ 202 0) q) r = τ r := fun r h1 h2 => (Rl_dif τ o q y 0) r (by simp only [List.mem_cons, List.not_mem_nil, or_false, not_or]; omega)
theorem AR.memb {c : Int32} {n nc nl : Nat} {τ : xS} {y so o nn t f g : Int32} (h : AR c nc nl n 0 0 τ) (hn : n < 24) (hs : so = τ 91 (7 * n + 3)) (ho : o = τ 91 (7 * n)) (hN : nn = τ 91 (7 * n + 1)) (ht : t = τ 91 (7 * n + 2)) (hf : f = τ 91 (7 * n + 4)) (hg : g = τ 91 (7 * n + 5)) (hy : y = bI (!isTrB (τ 91 (7 * n + 6)) c)) : AR c nc nl (n + 1) 0 0 (mTyp (mApp τ so o nn y 0) (τ 203 0) t f g) := by
  have dd : ∀ r, r ∉ [30, 32, 34, 36, 38, 40, 42, 44, 46, 203] → (mTyp (mApp τ so o nn y 0) (τ 203 0) t f g) r = τ r := Rm_dif τ so o nn t f g y 0
  exact ⟨h.1.of (fun r hr => dd r ((by decide : ∀ r, r ∈ [200, 3, 5, 7] → r ∉ [30, 32, 34, 36, 38, 40, 42, 44, 46, 203]) r hr)), h.2.1.of (fun r hr => dd r ((by decide : ∀ r, r ∈ [201, 15] → r ∉ [30, 32, 34, 36, 38, 40, 42, 44, 46, 203]) r hr)) (El.same (dd 89 (by decide))), h.2.2.1.of (fun r hr => dd r ((by decide : ∀ r, r ∈ [202, 24, 26, 22] → r ∉ [30, 32, 34, 36, 38, 40, 42, 44, 46, 203]) r hr)) (El.same (dd 90 (by decide))), h.2.2.2.1.step hn hs ho hN ht hf hg (by rw [hy]; rfl), h.2.2.2.2.1.of (fun r hr => dd r ((by decide : ∀ r, r ∈ [205, 49, 51, 53, 55, 57, 59] → r ∉ [30, 32, 34, 36, 38, 40, 42, 44, 46, 203]) r hr)) (El.same (dd 92 (by decide))), h.2.2.2.2.2.of (fun r hr => dd r ((by decide : ∀ r, r ∈ [204, 68, 66] → r ∉ [30, 32, 34, 36, 38, 40, 42, 44, 46, 203]) r hr)) (El.same (dd 93 (by decide)))⟩
theorem AR.memb_a {τ : xS} (y so o nn t f g : Int32) : ∀ r, 87 ≤ r → r < 94 → (mTyp (mApp τ so o nn y 0) (τ 203 0) t f g) r = τ r := fun r h1 h2 => (Rm_dif τ so o nn t f g y 0) r (by simp only [List.mem_cons, List.not_mem_nil, or_false, not_or]; omega)
theorem AR.e1 {c : Int32} {n nc nl nm : Nat} {τ : xS} {k m d : Int32} (h : AR c nc nl nm n 0 τ) (hn : n < 50) (hk : k = τ 92 (6 * n)) (hm : m = τ 92 (6 * n + 1)) (hd : d = dtl (τ 92) n) (h3 : (-1 : Int32) = τ 92 (6 * n + 3)) (h4 : (-1 : Int32) = τ 92 (6 * n + 4)) (h5 : (-1 : Int32) = τ 92 (6 * n + 5)) : AR c nc nl nm (n + 1) 0 (eApp τ k m d) := by
  have dd : ∀ r, r ∉ [49, 51, 53, 55, 57, 59, 205] → (eApp τ k m d) r = τ r := fun r hr => eApp_dif τ k m d r (fun z => hr ((by decide : ∀ r, r ∈ [205, 49, 51, 53, 55, 57, 59] → r ∈ [49, 51, 53, 55, 57, 59, 205]) r z))
  exact ⟨h.1.of (fun r hr => dd r ((by decide : ∀ r, r ∈ [200, 3, 5, 7] → r ∉ [49, 51, 53, 55, 57, 59, 205]) r hr)), h.2.1.of (fun r hr => dd r ((by decide : ∀ r, r ∈ [201, 15] → r ∉ [49, 51, 53, 55, 57, 59, 205]) r hr)) (El.same (dd 89 (by decide))), h.2.2.1.of (fun r hr => dd r ((by decide : ∀ r, r ∈ [202, 24, 26, 22] → r ∉ [49, 51, 53, 55, 57, 59, 205]) r hr)) (El.same (dd 90 (by decide))), h.2.2.2.1.of (fun r hr => dd r ((by decide : ∀ r, r ∈ [203, 36, 38, 40, 42, 44, 46, 34] → r ∉ [49, 51, 53, 55, 57, 59, 205]) r hr)) (El.same (dd 91 (by decide))), h.2.2.2.2.1.step hn hk hm hd h3 h4 h5, h.2.2.2.2.2.of (fun r hr => dd r ((by decide : ∀ r, r ∈ [204, 68, 66] → r ∉ [49, 51, 53, 55, 57, 59, 205]) r hr)) (El.same (dd 93 (by decide)))⟩
theorem AR.e1_a {τ : xS} (k m d : Int32) : ∀ r, 87 ≤ r → r < 94 → (eApp τ k m d) r = τ r := fun r h1 h2 => eApp_dif τ k m d r (by simp only [List.mem_cons, List.not_mem_nil, or_false, not_or]; omega)
theorem AR.e2 {c : Int32} {n nc nl nm : Nat} {τ : xS} {k m d o f s : Int32} (h : AR c nc nl nm n 0 τ) (hn : n < 50) (hk : k = τ 92 (6 * n)) (hm : m = τ 92 (6 * n + 1)) (hd : d = dtl (τ 92) n) (h3 : o = τ 92 (6 * n + 3)) (h4 : f = τ 92 (6 * n + 4)) (h5 : s = τ 92 (6 * n + 5)) : AR c nc nl nm (n + 1) 0 (eSet (eApp τ k m d) (τ 205 0) o f s) := by
  have dd : ∀ r, r ∉ [49, 51, 53, 55, 57, 59, 205] → (eSet (eApp τ k m d) (τ 205 0) o f s) r = τ r := fun r hr => (eSet_dif _ _ _ _ _ r (fun z => hr ((by decide : ∀ r, r ∈ [55, 57, 59] → r ∈ [49, 51, 53, 55, 57, 59, 205]) r z))).trans (eApp_dif τ k m d r (fun z => hr ((by decide : ∀ r, r ∈ [205, 49, 51, 53, 55, 57, 59] → r ∈ [49, 51, 53, 55, 57, 59, 205]) r z)))
  exact ⟨h.1.of (fun r hr => dd r ((by decide : ∀ r, r ∈ [200, 3, 5, 7] → r ∉ [49, 51, 53, 55, 57, 59, 205]) r hr)), h.2.1.of (fun r hr => dd r ((by decide : ∀ r, r ∈ [201, 15] → r ∉ [49, 51, 53, 55, 57, 59, 205]) r hr)) (El.same (dd 89 (by decide))), h.2.2.1.of (fun r hr => dd r ((by decide : ∀ r, r ∈ [202, 24, 26, 22] → r ∉ [49, 51, 53, 55, 57, 59, 205]) r hr)) (El.same (dd 90 (by decide))), h.2.2.2.1.of (fun r hr => dd r ((by decide : ∀ r, r ∈ [203, 36, 38, 40, 42, 44, 46, 34] → r ∉ [49, 51, 53, 55, 57, 59, 205]) r hr)) (El.same (dd 91 (by decide))), h.2.2.2.2.1.step2 hn hk hm hd h3 h4 h5, h.2.2.2.2.2.of (fun r hr => dd r ((by decide : ∀ r, r ∈ [204, 68, 66] → r ∉ [49, 51, 53, 55, 57, 59, 205]) r hr)) (El.same (dd 93 (by decide)))⟩
theorem AR.e2_a {τ : xS} (k m d o f s : Int32) : ∀ r, 87 ≤ r → r < 94 → (eSet (eApp τ k m d) (τ 205 0) o f s) r = τ r := fun r h1 h2 => (eSet_dif _ _ _ _ _ r (by simp only [List.mem_cons, List.not_mem_nil, or_false, not_or]; omega)).trans (eApp_dif τ k m d r (by simp only [List.mem_cons, List.not_mem_nil, or_false, not_or]; omega))
theorem AR.res {c : Int32} {n nc nl nm ne : Nat} {τ : xS} {y x : Int32} (h : AR c nc nl nm ne n τ) (hn : n < 16) (hx : x = τ 93 (2 * n)) (hy : y = bI (!isTrB (τ 93 (2 * n + 1)) c)) : AR c nc nl nm ne (n + 1) (vPut (cApp τ 60 16 204 y 0) 68 16 (τ 204 0) x) := by
  have dd : ∀ r, r ∉ [62, 64, 66, 68, 204] → (vPut (cApp τ 60 16 204 y 0) 68 16 (τ 204 0) x) r = τ r := Rx_dif τ x y 0
  exact ⟨h.1.of (fun r hr => dd r ((by decide : ∀ r, r ∈ [200, 3, 5, 7] → r ∉ [62, 64, 66, 68, 204]) r hr)), h.2.1.of (fun r hr => dd r ((by decide : ∀ r, r ∈ [201, 15] → r ∉ [62, 64, 66, 68, 204]) r hr)) (El.same (dd 89 (by decide))), h.2.2.1.of (fun r hr => dd r ((by decide : ∀ r, r ∈ [202, 24, 26, 22] → r ∉ [62, 64, 66, 68, 204]) r hr)) (El.same (dd 90 (by decide))), h.2.2.2.1.of (fun r hr => dd r ((by decide : ∀ r, r ∈ [203, 36, 38, 40, 42, 44, 46, 34] → r ∉ [62, 64, 66, 68, 204]) r hr)) (El.same (dd 91 (by decide))), h.2.2.2.2.1.of (fun r hr => dd r ((by decide : ∀ r, r ∈ [205, 49, 51, 53, 55, 57, 59] → r ∉ [62, 64, 66, 68, 204]) r hr)) (El.same (dd 92 (by decide))), h.2.2.2.2.2.step hn hx (by rw [hy]; rfl)⟩
theorem AR.res_a {τ : xS} (y x : Int32) : ∀ r, 87 ≤ r → r < 94 → (vPut (cApp τ 60 16 204 y 0) 68 16 (τ 204 0) x) r = τ r := fun r h1 h2 => (Rx_dif τ x y 0) r (by simp only [List.mem_cons, List.not_mem_nil, or_false, not_or]; omega)
theorem BD_of {u : xS} (h : BD u) : ∃ nr nc nl nm ne nx, AV nr nc nl nm ne nx u ∧ Rr nr u ∧ Ro cfgO nc nl nm ne nx u := by
  obtain ⟨nr, nc, nl, nm, ne, nx, ⟨⟨a1, b1⟩, ⟨a2, b2⟩, ⟨a3, b3⟩, ⟨a4, b4⟩, ⟨a5, b5⟩, ⟨a6, b6⟩⟩, k⟩ := h
  exact ⟨nr, nc, nl, nm, ne, nx, ⟨b1, b2, b3, b4, b5, b6, k⟩, a1, a2, a3, a4, a5, a6⟩
/-- a fresh checker beside the arrays of another's world -/
def mkA (σ : xS) : xS := fun r => if 87 ≤ r ∧ r < 94 then σ r else fun _ => 0
theorem mkA_a (σ : xS) : ∀ r, 87 ≤ r → r < 94 → mkA σ r = σ r := fun r h1 h2 => if_pos ⟨h1, h2⟩
theorem mkA_0 (σ : xS) {r : Nat} (h : ¬ (87 ≤ r ∧ r < 94)) : mkA σ r = fun _ => 0 := if_neg h
theorem mkA_RK (σ : xS) : RK 0 (mkA σ) := ⟨by rw [mkA_0 σ (by decide)]; rfl, fun j hj => absurd hj (Nat.not_lt_zero j)⟩
theorem mkA_Ro (σ : xS) (cf : Int32 → Int32) : Ro cf 0 0 0 0 0 (mkA σ) := by
  have f : ∀ (r : Nat) (g : Nat → Int32), ¬ (87 ≤ r ∧ r < 94) → mkA σ r = rwf 0 g := fun r g h => by rw [mkA_0 σ h, rwf_0]
  have z : ∀ r, ¬ (87 ≤ r ∧ r < 94) → mkA σ r 0 = nI 0 := fun r h => by rw [mkA_0 σ h]; rfl
  exact ⟨⟨z _ (by decide), f _ _ (by decide)⟩, ⟨z _ (by decide), f _ _ (by decide), f _ _ (by decide), f _ _ (by decide)⟩, ⟨z _ (by decide), f _ _ (by decide), f _ _ (by decide), f _ _ (by decide), f _ _ (by decide), f _ _ (by decide), f _ _ (by decide), f _ _ (by decide)⟩, ⟨z _ (by decide), f _ _ (by decide), f _ _ (by decide), f _ _ (by decide), f _ _ (by decide), f _ _ (by decide), f _ _ (by decide)⟩, z _ (by decide), f _ _ (by decide), f _ _ (by decide)⟩
theorem Ro.of {cf : Int32 → Int32} {nc nl nm ne nx : Nat} {σ σ' : xS} (h : Ro cf nc nl nm ne nx σ) (d : ∀ r, r ∉ [200, 3, 5, 7] → σ' r = σ r) : Ro cf nc nl nm ne nx σ' :=
  ⟨h.1.of (fun r hr => d r ((by decide : ∀ r, r ∈ [201, 15] → r ∉ [200, 3, 5, 7]) r hr)) (El.same (d 89 (by decide))), h.2.1.of (fun r hr => d r ((by decide : ∀ r, r ∈ [202, 24, 26, 22] → r ∉ [200, 3, 5, 7]) r hr)) (El.same (d 90 (by decide))), h.2.2.1.of (fun r hr => d r ((by decide : ∀ r, r ∈ [203, 36, 38, 40, 42, 44, 46, 34] → r ∉ [200, 3, 5, 7]) r hr)) (El.same (d 91 (by decide))), h.2.2.2.1.of (fun r hr => d r ((by decide : ∀ r, r ∈ [205, 49, 51, 53, 55, 57, 59] → r ∉ [200, 3, 5, 7]) r hr)) (El.same (d 92 (by decide))), h.2.2.2.2.of (fun r hr => d r ((by decide : ∀ r, r ∈ [204, 68, 66] → r ∉ [200, 3, 5, 7]) r hr)) (El.same (d 93 (by decide)))⟩

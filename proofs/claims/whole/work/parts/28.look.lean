/-! The view of a product is what the reference asks there. -/
def Eqc (τ σ : xS) : Prop := ∀ r, kpR r → τ r = σ r
def Vw (σ τ : xS) (p : Nat) : Prop := Eqc τ σ ∧ τ 206 0 = nI p ∧ (∀ s, s < 4 → ∀ j, j < 32 → bt (τ 71 s) j = (decide (j < cnt σ s) && mIs σ (nI s) (nI j) (nI p))) ∧ (∀ a, a < 8 → τ 73 a = mPa σ (nI a) (nI p)) ∧ (∀ a, a < 8 → ∀ b, b < 8 → bt (τ 75 a) b = mBe σ (nI a) (nI b) (nI p)) ∧ (∀ a, a < 8 → ∀ n, n < 10 → ∀ t, t < 2 → τ 77 ((a * 2 + t) * 10 + n) = mMe σ (nI a) (nI n) (nI t) (nI p))
theorem wT_c {τ σ : xS} (h : Eqc τ σ) : wT τ = wT σ := by
  funext s i
  simp only [wT, resM, h 22 (by decide), h 15 (by decide), h 24 (by decide), h 26 (by decide), h 34 (by decide), h 38 (by decide), h 66 (by decide), h 68 (by decide), h 51 (by decide)]
theorem szQ_c {σ τ : xS} (h : Pg σ) (hq : Eqc τ σ) {s : Nat} (hs : s < 4) : τ (szQ (nI s)) 0 = σ 91 s := by
  rcases s4c hs with rfl | rfl | rfl | rfl
  · rw [show szQ (nI 0) = 201 by decide, hq 201 (by decide), h.C0.1]
  · rw [show szQ (nI 1) = 202 by decide, hq 202 (by decide), h.C1.1]
  · rw [show szQ (nI 2) = 203 by decide, hq 203 (by decide), h.C2.1]
  · rw [show szQ (nI 3) = 204 by decide, hq 204 (by decide), h.C3.1]
theorem cnt_24 {σ : xS} (h : Pg σ) {s : Nat} (hs : s < 4) : cnt σ s ≤ 24 := by
  have h0 := h.n0.2
  have h1 := h.n1.2
  have h2 := h.n2.2
  have h3 := h.n3.2
  rcases s4c hs with rfl | rfl | rfl | rfl <;> omega
theorem lfeI_bt {σ τ : xS} (h : Pg σ) (hq : Eqc τ σ) {p : Nat} (hp : p < 16) (h206 : τ 206 0 = nI p) {s : Nat} (hs : s < 4) {j : Nat} (hj : j < 32) : bt (lfeI τ (nI s)) j = (decide (j < cnt σ s) && mIs σ (nI s) (nI j) (nI p)) := by
  have h24 : (σ 91 s).toNatClampNeg ≤ 24 := cnt_24 h hs
  unfold lfeI
  rw [szQ_c h hq hs, h206, wT_c hq, maskI_bt _ hj _ (by omega)]
  by_cases hc : j < cnt σ s
  · rw [isIn_bt (by omega), wT_bt h hs hc hp]
  · rw [decide_eq_false hc]; rfl
theorem lfe_at {τ : xS} {s : Nat} (hs : s < 4) (j : Nat) : lfe τ (nI s) 71 j = if j = s then lfeI τ (nI s) else τ 71 j := by
  unfold lfe
  rw [vPut_n hs (by decide)]
  by_cases e : j = s
  · subst e; rw [if_pos rfl, xw_at]
  · rw [if_neg e, xw_other e]
theorem lfe_q {τ σ : xS} {s : Int32} (hq : Eqc τ σ) : Eqc (lfe τ s) σ := fun r hr => by rw [lfe_keep hr.1]; exact hq r hr
theorem lfp_q {τ σ : xS} (hq : Eqc τ σ) : Eqc (lfp τ) σ := fun r hr => by rw [lfp_keep hr.2.1]; exact hq r hr
theorem lfa_q {τ σ : xS} (hq : Eqc τ σ) : Eqc (lfa τ) σ := fun r hr => by rw [lfa_keep hr.2.2.1]; exact hq r hr
theorem lfm_q {τ σ : xS} (hq : Eqc τ σ) : Eqc (lfm τ) σ := fun r hr => by rw [lfm_keep hr.2.2.2.1]; exact hq r hr
theorem look4 {σ τ : xS} (h : Pg σ) (hq : Eqc τ σ) {p : Nat} (hp : p < 16) (h206 : τ 206 0 = nI p) : Eqc (lfe (lfe (lfe (lfe τ 0) 1) 2) 3) σ ∧ lfe (lfe (lfe (lfe τ 0) 1) 2) 3 206 0 = nI p ∧ ∀ s, s < 4 → ∀ j, j < 32 → bt (lfe (lfe (lfe (lfe τ 0) 1) 2) 3 71 s) j = (decide (j < cnt σ s) && mIs σ (nI s) (nI j) (nI p)) := by
  have k0 : ∀ (τ : xS) (s : Int32), lfe τ s 206 = τ 206 := fun τ s => lfe_keep (by decide) τ s
  refine ⟨lfe_q (lfe_q (lfe_q (lfe_q hq))), by rw [k0, k0, k0, k0, h206], fun s hs j hj => ?_⟩
  have e3 : ∀ τ : xS, ∀ s, lfe τ 3 71 s = if s = 3 then lfeI τ 3 else τ 71 s := fun τ s => lfe_at (s := 3) (by decide) s
  have e2 : ∀ τ : xS, ∀ s, lfe τ 2 71 s = if s = 2 then lfeI τ 2 else τ 71 s := fun τ s => lfe_at (s := 2) (by decide) s
  have e1 : ∀ τ : xS, ∀ s, lfe τ 1 71 s = if s = 1 then lfeI τ 1 else τ 71 s := fun τ s => lfe_at (s := 1) (by decide) s
  have e0 : ∀ τ : xS, ∀ s, lfe τ 0 71 s = if s = 0 then lfeI τ 0 else τ 71 s := fun τ s => lfe_at (s := 0) (by decide) s
  rcases s4c hs with rfl | rfl | rfl | rfl
  · rw [e3, if_neg (by decide), e2, if_neg (by decide), e1, if_neg (by decide), e0, if_pos rfl]
    exact lfeI_bt (s := 0) h hq hp h206 (by decide) hj
  · rw [e3, if_neg (by decide), e2, if_neg (by decide), e1, if_pos rfl]
    exact lfeI_bt (s := 1) h (lfe_q hq) hp (by rw [k0, h206]) (by decide) hj
  · rw [e3, if_neg (by decide), e2, if_pos rfl]
    exact lfeI_bt (s := 2) h (lfe_q (lfe_q hq)) hp (by rw [k0, k0, h206]) (by decide) hj
  · rw [e3, if_pos rfl]
    exact lfeI_bt (s := 3) h (lfe_q (lfe_q (lfe_q hq))) hp (by rw [k0, k0, k0, h206]) (by decide) hj
theorem isTh_n {τ : xS} {s j : Nat} (hs : s < 4) (hj : j < 32) : isThB τ (nI s) (nI j) = bt (τ 71 s) j := by
  unfold isThB
  rw [vAt_n hs (by decide), isIn_bt hj]
theorem isTh_c {τ τ' : xS} (h : τ' 71 = τ 71) : isThB τ' = isThB τ := by
  funext s i; unfold isThB; rw [h]
theorem lfp_at {σ τ : xS} (h : Pg σ) (hq : Eqc τ σ) {p : Nat} (hb : ∀ j, j < 32 → bt (τ 71 1) j = (decide (j < cnt σ 1) && mIs σ 1 (nI j) (nI p))) {a : Nat} (ha : a < 8) : lfp τ 73 a = mPa σ (nI a) (nI p) := by
  have hn := h.n1.2
  have ht : ∀ j, j < cnt σ 1 → isThB τ 1 (nI j) = mIs σ 1 (nI j) (nI p) := fun j hj => by
    have e : isThB τ 1 (nI j) = bt (τ 71 1) j := isTh_n (s := 1) (by decide) (by omega)
    rw [e, hb j (by omega), decide_eq_true hj, Bool.true_and]
  unfold lfp
  rw [hq 202 (by decide), h.C1.1]
  rw [down_first (f := lpStep) (r := 73) (q := a) (P := fun k => isThB τ 1 (nI k) && decide (σ 94 k = nI a)) (v := fun k => σ 95 k) (fun τ' => ∀ r, r ≠ 73 → τ' r = τ r) (cnt σ 1) ?_ ?_ (cnt σ 1) _ (Nat.le_refl _) (fun r hr => vFill_ne hr), vFill_at ha, firstE_N]
  · unfold mPa
    refine firstN_congr _ _ (fun j h1 h2 => ⟨?_, fun _ => rfl⟩)
    unfold mPaP
    rw [ht j (by omega), Bool.and_comm]
  · intro τ' k hk hJ r hr
    rw [lpStep_keep hr]; exact hJ r hr
  · intro τ' k hk hJ
    have w := h.l k hk
    obtain ⟨o, ho, e⟩ := vp_ex (vp_le w.1 h.n0.2)
    unfold lpStep
    rw [isTh_c (hJ 71 (by decide)), hJ 24 (by decide), hJ 26 (by decide), hq 24 (by decide), hq 26 (by decide), h.A.1.2.2.2.1, h.A.1.2.2.2.2.1, vAt_n (show k < 12 by omega) (by decide), vAt_n (show k < 12 by omega) (by decide), e]
    by_cases hT : isThB τ 1 (nI k) = true
    · rw [if_pos hT, vPut_n ho (by decide), hT, Bool.true_and]
      by_cases q : a = o
      · subst q; rw [xw_at, if_pos (decide_eq_true rfl)]
      · rw [xw_other q, if_neg (fun z => q ((nI_eq (by omega) (by omega)).mp (of_decide_eq_true z)).symm)]
    · rw [if_neg hT, (Bool.not_eq_true _).mp hT]; rfl
theorem upa_at {τ : xS} : ∀ k, k ≤ 8 → ∀ a, a < k → upN laStep k τ 75 a = ancN (τ 73) 8 0 (τ 73 a) := by
  intro k
  induction k with
  | zero => intro _ a ha; omega
  | succ k ih =>
    intro hk a ha
    rw [upN_s]
    generalize hU : upN laStep k τ = U at ih ⊢
    have h73 : U 73 = τ 73 := by rw [← hU]; exact upN_keep (laStep_keep (by decide)) k τ
    unfold laStep
    rw [h73, vPut_n (show k < 8 by omega) (by decide), vAt_n (show k < 8 by omega) (by decide)]
    by_cases q : a = k
    · subst q; rw [xw_at]
    · rw [xw_other q, ih (by omega) a (by omega)]
theorem anc_bt {σ : xS} (hM : mV σ) {P : Nat → Int32} {c : Int32} (hP : ∀ a, a < 8 → P a = mPa σ (nI a) c) {b : Nat} (hb : b < 8) : ∀ k set x, (x = -1 ∨ vp_in x 8) → bt (ancN P k set x) b = (bt set b || mBeN σ (nI b) c k x) := by
  intro k
  induction k with
  | zero => intro set x _; rw [ancN, mBeN, Bool.or_false]
  | succ k ih =>
    intro set x hx
    by_cases e : x = -1
    · rw [ancN_e e, mBeN, if_pos e, Bool.or_false]
    · obtain ⟨o, ho, rfl⟩ := vp_ex (hx.resolve_left e)
      rw [ancN_s e, vAt_n ho (by decide), hP o ho, ih _ _ (mPa_in hM _ _), mBeN, if_neg e, b_or, b_one (show o < 32 by omega) (show b < 32 by omega)]
      by_cases q : b = o
      · subst q; simp
      · rw [if_neg (fun z => q ((nI_eq (by omega) (by omega)).mp z).symm), decide_eq_false q, Bool.or_false]
theorem plc_n (o n t : Nat) : plc (nI o) (nI n) (nI t) = nI ((o * 2 + t) * 10 + n) := by
  show (nI o * nI 2 + nI t) * nI 10 + nI n = _
  rw [pk_mul, nI_add, pk_mul, nI_add]
theorem so_ex {x : Int32} (h : x = 0 ∨ x = 1) : ∃ t, t < 2 ∧ x = nI t := by
  rcases h with h | h
  · exact ⟨0, by decide, h⟩
  · exact ⟨1, by decide, h⟩
theorem lfm_at {σ τ : xS} (h : Pg σ) (hq : Eqc τ σ) {p : Nat} (hb : ∀ j, j < 32 → bt (τ 71 2) j = (decide (j < cnt σ 2) && mIs σ 2 (nI j) (nI p))) {a n t : Nat} (ha : a < 8) (hn : n < 10) (ht2 : t < 2) : lfm τ 77 ((a * 2 + t) * 10 + n) = mMe σ (nI a) (nI n) (nI t) (nI p) := by
  have h24 := h.n2.2
  have ht : ∀ j, j < cnt σ 2 → isThB τ 2 (nI j) = mIs2 σ (nI j) (nI p) := fun j hj => by
    have e : isThB τ 2 (nI j) = bt (τ 71 2) j := isTh_n (s := 2) (by decide) (by omega)
    rw [e, hb j (by omega), decide_eq_true hj, Bool.true_and, mIs_2]
  unfold lfm
  rw [hq 203 (by decide), h.C2.1]
  rw [down_first (f := lmStep) (r := 77) (q := (a * 2 + t) * 10 + n) (P := fun k => isThB τ 2 (nI k) && (decide (σ 97 k = nI a) && (decide (σ 98 k = nI n) && decide (σ 96 k = nI t)))) (v := nI) (fun τ' => ∀ r, r ≠ 77 → τ' r = τ r) (cnt σ 2) ?_ ?_ (cnt σ 2) _ (Nat.le_refl _) (fun r hr => vFill_ne hr), vFill_at (by omega), firstE_N]
  · unfold mMe
    refine firstN_congr _ _ (fun j h1 h2 => ⟨?_, fun _ => rfl⟩)
    unfold mMeP
    rw [ht j (by omega)]
    cases mIs2 σ (nI j) (nI p) <;> simp
  · intro τ' k hk hJ r hr
    rw [lmStep_keep hr]; exact hJ r hr
  · intro τ' k hk hJ
    have w := h.m k hk
    obtain ⟨o, ho, e1⟩ := vp_ex (vp_le w.2.1 h.n0.2)
    obtain ⟨m, hm, e2⟩ := vp_ex w.2.2.1
    obtain ⟨u, hu, e3⟩ := so_ex w.1
    unfold lmStep
    rw [isTh_c (hJ 71 (by decide)), hJ 38 (by decide), hJ 40 (by decide), hJ 36 (by decide), hq 38 (by decide), hq 40 (by decide), hq 36 (by decide), h.A.1.2.2.2.2.2.2.1, h.A.1.2.2.2.2.2.2.2.1, h.A.1.2.2.2.2.2.1, vAt_n (show k < 24 by omega) (by decide), vAt_n (show k < 24 by omega) (by decide), vAt_n (show k < 24 by omega) (by decide), e1, e2, e3, plc_n]
    by_cases hT : isThB τ 2 (nI k) = true
    · rw [if_pos hT, vPut_n (show (o * 2 + u) * 10 + m < 160 by omega) (by decide), hT, Bool.true_and]
      by_cases q : (a * 2 + t) * 10 + n = (o * 2 + u) * 10 + m
      · have q1 : a = o := by omega
        have q2 : t = u := by omega
        have q3 : n = m := by omega
        subst q1 q2 q3
        rw [xw_at, if_pos (by simp)]
      · rw [xw_other q, if_neg (fun z => ?_)]
        simp only [Bool.and_eq_true, decide_eq_true_eq] at z
        have q1 := (nI_eq (by omega) (by omega)).mp z.1
        have q2 := (nI_eq (by omega) (by omega)).mp z.2.1
        have q3 := (nI_eq (by omega) (by omega)).mp z.2.2
        omega
    · rw [if_neg hT, (Bool.not_eq_true _).mp hT]; rfl
theorem look_Vw {σ τ : xS} (h : Pg σ) (hq : Eqc τ σ) {p : Nat} (hp : p < 16) : Vw σ (look τ (nI p)) p := by
  have q0 : Eqc (xw τ 206 0 (nI p)) σ := fun r hr => by rw [xw_ne _ _ _ hr.2.2.2.2.2.2.2.2.1]; exact hq r hr
  obtain ⟨q4, k4, b4⟩ := look4 h q0 hp (xw_at _ _ _ _)
  unfold look
  generalize lfe (lfe (lfe (lfe (xw τ 206 0 (nI p)) 0) 1) 2) 3 = L at q4 k4 b4 ⊢
  have p71 : lfm (lfa (lfp L)) 71 = L 71 := by rw [lfm_keep (by decide), lfa_keep (by decide), lfp_keep (by decide)]
  have p73 : lfm (lfa (lfp L)) 73 = lfp L 73 := by rw [lfm_keep (by decide), lfa_keep (by decide)]
  have p75 : lfm (lfa (lfp L)) 75 = lfa (lfp L) 75 := by rw [lfm_keep (by decide)]
  have a73 : ∀ a, a < 8 → lfp L 73 a = mPa σ (nI a) (nI p) := fun a ha => lfp_at h q4 (fun j hj => b4 1 (by decide) j hj) ha
  refine ⟨lfm_q (lfa_q (lfp_q q4)), ?_, ?_, ?_, ?_, ?_⟩
  · rw [lfm_keep (by decide), lfa_keep (by decide), lfp_keep (by decide)]; exact k4
  · rw [p71]; exact b4
  · rw [p73]; exact a73
  · rw [p75]
    intro a ha b hb
    show bt (upN laStep 8 (lfp L) 75 a) b = _
    rw [upa_at 8 (Nat.le_refl 8) a ha, anc_bt h.V a73 hb 8 0 _ (by rw [a73 a ha]; exact mPa_in h.V _ _), b_0, Bool.false_or, a73 a ha]
    rfl
  · intro a ha n hn t ht
    refine lfm_at h (lfa_q (lfp_q q4)) (fun j hj => ?_) ha hn ht
    rw [lfa_keep (by decide), lfp_keep (by decide)]
    exact b4 2 (by decide) j hj
/-! What the view answers. -/
theorem unI_has {s : Int32} {x : Nat} (hx : x < 8) (h : unI s = 0) : mHas s (nI x) = true := by
  cases hc : mHas s (nI x) with
  | true => rfl
  | false => have := unI_lt hx hc; omega
section VW
variable {σ τ : xS} {p : Nat}
theorem Vw.q (v : Vw σ τ p) : Eqc τ σ := v.1
theorem Vw.th (h : Pg σ) (v : Vw σ τ p) {s j : Nat} (hs : s < 4) (hj : j < cnt σ s) : isThB τ (nI s) (nI j) = mIs σ (nI s) (nI j) (nI p) := by
  have := cnt_24 h hs
  rw [isTh_n hs (by omega), v.2.2.1 s hs j (by omega), decide_eq_true hj, Bool.true_and]
theorem Vw.th0 (h : Pg σ) (v : Vw σ τ p) {x : Int32} (hx : vp_in x (cnt σ 0)) : isThB τ 0 x = mIs σ 0 x (nI p) := by
  obtain ⟨j, hj, rfl⟩ := vp_ex hx
  exact v.th h (s := 0) (by decide) hj
theorem Vw.th2 (h : Pg σ) (v : Vw σ τ p) {x : Int32} (hx : vp_in x (cnt σ 2)) : isThB τ 2 x = mIs2 σ x (nI p) := by
  obtain ⟨j, hj, rfl⟩ := vp_ex hx
  rw [← mIs_2]
  exact v.th h (s := 2) (by decide) hj
theorem Vw.pa (v : Vw σ τ p) {x : Int32} (hx : vp_in x 8) : vAt 8 (τ 73) x = mPa σ x (nI p) := by
  obtain ⟨j, hj, rfl⟩ := vp_ex hx
  rw [vAt_n hj (by decide), v.2.2.2.1 j hj]
theorem Vw.un (v : Vw σ τ p) {x y : Int32} (hx : vp_in x 8) (hy : vp_in y 8) : isUnB τ x y = mBe σ x y (nI p) := by
  obtain ⟨a, ha, rfl⟩ := vp_ex hx
  obtain ⟨b, hb, rfl⟩ := vp_ex hy
  unfold isUnB
  rw [vAt_n ha (by decide), isIn_bt (by omega), v.2.2.2.2.1 a ha b hb]
theorem Vw.me (v : Vw σ τ p) {x y z : Int32} (hx : vp_in x 8) (hy : vp_in y 10) (hz : z = 0 ∨ z = 1) : vAt 160 (τ 77) (plc x y z) = mMe σ x y z (nI p) := by
  obtain ⟨a, ha, rfl⟩ := vp_ex hx
  obtain ⟨b, hb, rfl⟩ := vp_ex hy
  obtain ⟨t, ht, rfl⟩ := so_ex hz
  rw [plc_n, vAt_n (by omega) (by decide), v.2.2.2.2.2 a ha b hb t ht]
theorem Vw.fit (v : Vw σ τ p) {x y : Int32} (hx : tyk 8 x) (hy : tyk 8 y) : fitB τ x y = mFit σ x y (nI p) := by
  unfold fitB mFit
  by_cases h1 : x = 8
  · simp [h1]
  · by_cases h2 : y = 8
    · simp [h2]
    · rw [v.un (hx.resolve_left h1) (hy.resolve_left h2)]
theorem Vw.miss (h : Pg σ) (v : Vw σ τ p) {x : Int32} (hx : x = -1 ∨ tyk (cnt σ 0) x) : missB τ x = mGone σ x (nI p) := by
  unfold missB mGone
  by_cases h1 : x = -1
  · simp [h1]
  · by_cases h2 : x = 8
    · simp [h2]
    · rw [v.th0 h ((hx.resolve_left h1).resolve_left h2)]
theorem Vw.cT1 (h : Pg σ) (v : Vw σ τ p) (hp : p < 16) {j : Nat} (hj : j < cnt σ 1) : cTr τ 1 (nI j) = mMt σ 1 (nI j) (nI p) := by
  unfold cTr
  rw [if_pos rfl, v.q 22 (by decide), v.2.1, isIn_bt (by omega)]
  exact wh_bt (s := 1) h.C1 h.n1.2 (by decide) (by decide) hj hp
theorem Vw.cT2 (h : Pg σ) (v : Vw σ τ p) (hp : p < 16) {j : Nat} (hj : j < cnt σ 2) : cTr τ 2 (nI j) = mMt σ 2 (nI j) (nI p) := by
  unfold cTr
  rw [if_neg (by decide), v.q 34 (by decide), v.2.1, isIn_bt (by omega)]
  exact wh_bt (s := 2) h.C2 h.n2.2 (by decide) (by decide) hj hp
theorem look_cl (v : Vw σ τ p) {N T s : Int32} (hN : vp_in N 10) (hT : T = 0 ∨ T = 1) (hcl : ∀ x, x < 8 → mHas s (nI x) = true → mMe σ (nI x) N T (nI p) = -1 ∧ (mPa σ (nI x) (nI p) = -1 ∨ ∃ y, y < 8 ∧ mPa σ (nI x) (nI p) = nI y ∧ mHas s (nI y) = true)) : ∀ k x, x < 8 → mHas s (nI x) = true → lookN τ N T k (nI x) = -1 := by
  intro k
  induction k with
  | zero => intro x _ _; rfl
  | succ k ih =>
    intro x hx hs
    obtain ⟨h1, h2⟩ := hcl x hx hs
    rw [lookN, if_neg (nI_neg1 (by omega)), v.me (vp_in_nI hx (by decide)) hN hT, if_pos h1, v.pa (vp_in_nI hx (by decide))]
    rcases h2 with h2 | ⟨y, hy, e, hs2⟩
    · exact lookN_e h2
    · rw [e]; exact ih y hy hs2
theorem look_mF (h : Pg σ) (v : Vw σ τ p) {N T : Int32} (hN : vp_in N 10) (hT : T = 0 ∨ T = 1) : ∀ k d s a, k < d → unI s ≤ k → (a = -1 ∨ vp_in a 8) → (∀ x, x < 8 → mHas s (nI x) = true → mMe σ (nI x) N T (nI p) = -1 ∧ (mPa σ (nI x) (nI p) = -1 ∨ ∃ y, y < 8 ∧ mPa σ (nI x) (nI p) = nI y ∧ (mHas s (nI y) = true ∨ nI y = a))) → lookN τ N T k a = mFN σ N T (nI p) d s a := by
  intro k
  induction k with
  | zero =>
    intro d s a hd hu ha _
    by_cases e : a = -1
    · rw [mFN_e1 e]; rfl
    · obtain ⟨x, hx, rfl⟩ := vp_ex (ha.resolve_left e)
      rw [mFN_e2 (unI_has hx (by omega))]; rfl
  | succ k ih =>
    intro d s a hd hu ha hcl
    obtain ⟨d, rfl⟩ : ∃ d', d = d' + 1 := ⟨d - 1, by omega⟩
    by_cases e : a = -1
    · rw [mFN_e1 e, lookN_e e]
    · obtain ⟨x, hx, rfl⟩ := vp_ex (ha.resolve_left e)
      cases hm : mHas s (nI x) with
      | true =>
        rw [mFN_e2 hm]
        refine look_cl v hN hT (s := s) (fun y hy hs => ?_) (k + 1) x hx hm
        obtain ⟨g1, g2⟩ := hcl y hy hs
        refine ⟨g1, g2.imp id (fun ⟨z, hz, e1, e2⟩ => ⟨z, hz, e1, e2.elim id (fun e3 => by rw [e3]; exact hm)⟩)⟩
      | false =>
        rw [mFN, if_neg e, if_neg (by rw [hm]; decide), lookN, if_neg e, v.me (vp_in_nI hx (by decide)) hN hT]
        by_cases hF : mMe σ (nI x) N T (nI p) = -1
        · rw [if_pos hF, if_pos hF, v.pa (vp_in_nI hx (by decide))]
          refine ih d _ _ (by omega) (by have := unI_lt hx hm; omega) (mPa_in h.V _ _) (fun y hy hs => ?_)
          rw [mHas_or hx (show y < 32 by omega), Bool.or_eq_true, decide_eq_true_eq] at hs
          by_cases q : y = x
          · subst q
            refine ⟨hF, (mPa_in h.V (nI y) (nI p)).imp id (fun g => ?_)⟩
            obtain ⟨z, hz, e2⟩ := vp_ex g
            exact ⟨z, hz, e2, Or.inr e2.symm⟩
          · obtain ⟨g1, g2⟩ := hcl y hy (hs.resolve_right q)
            refine ⟨g1, g2.imp id (fun ⟨z, hz, e1, e2⟩ => ⟨z, hz, e1, Or.inl ?_⟩)⟩
            rw [mHas_or hx (show z < 32 by omega)]
            rcases e2 with e2 | e2
            · rw [e2]; rfl
            · rw [decide_eq_true ((nI_eq (by omega) (by omega)).mp e2), Bool.or_true]
        · rw [if_neg hF, if_neg hF]
theorem Vw.fi (h : Pg σ) (v : Vw σ τ p) {o N T : Int32} (ho : o = -1 ∨ vp_in o 8) (hN : vp_in N 10) (hT : T = 0 ∨ T = 1) : lookU τ o N T = mFi σ o N T (nI p) := by
  unfold lookU mFi
  refine look_mF h v hN hT 8 10 0 o (by decide) (unI_8 0) ho (fun x hx hs => ?_)
  rw [mHas_bt (show x < 32 by omega), b_0] at hs
  cases hs
theorem Vw.rep (h : Pg σ) (v : Vw σ τ p) {j : Nat} (hj : j < cnt σ 2) : isRep τ (nI j) = !decide (nI j = mMe σ (σ 97 j) (σ 98 j) (σ 96 j) (nI p)) := by
  have hn := h.n2.2
  have w := h.m j hj
  unfold isRep
  rw [v.q 38 (by decide), v.q 40 (by decide), v.q 36 (by decide), h.A.1.2.2.2.2.2.2.1, h.A.1.2.2.2.2.2.2.2.1, h.A.1.2.2.2.2.2.1, vAt_n (show j < 24 by omega) (by decide), vAt_n (show j < 24 by omega) (by decide), vAt_n (show j < 24 by omega) (by decide), v.me (vp_le w.2.1 h.n0.2) w.2.2.1 w.1]
end VW

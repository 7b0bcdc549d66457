/-! The checks of one product, side by side. -/
def Re (τ ρ : xS) : Prop := (∀ q, q < 600 → τ 84 q = ρ 107 (q + 50)) ∧ (∀ q, q < 50 → ρ 107 q = 0)
def CE (τ τ0 : xS) : Prop := ∀ r, r ≠ 84 → τ r = τ0 r
def CR (ρ ρ0 : xS) : Prop := ∀ r, r ≠ 107 → ρ r = ρ0 r
theorem CE.vw {σ τ τ0 : xS} {p : Nat} (c : CE τ τ0) (v : Vw σ τ0 p) : Vw σ τ p := Vw_of v (fun r _ _ g _ _ => c r g)
theorem CR.em {σ ρ ρ0 : xS} (c : CR ρ ρ0) (v : Eqm ρ0 σ) : Eqm ρ σ := fun r g => by rw [c r (by omega)]; exact v r g
theorem CE.tr {a b c : xS} (h : CE a b) (g : CE b c) : CE a c := fun r q => (h r q).trans (g r q)
theorem CR.tr {a b c : xS} (h : CR a b) (g : CR b c) : CR a c := fun r q => (h r q).trans (g r q)
theorem Re_note {τ ρ : xS} (h : Re τ ρ) {k x : Nat} (p : Int32) (hk : 1 ≤ k) (hk2 : k ≤ 12) (hx : x < 50) : Re (nte τ (nI k) (nI x) p) (mNt ρ (nI k) (nI x) p) := by
  have e1 : nteP (nI k) (nI x) = nI ((k - 1) * 50 + x) := by
    unfold nteP
    show (nI k - nI 1) * nI 50 + nI x = _
    rw [pk_sub hk, pk_mul, nI_add]
  have e2 : ((50 : Int32) * nI k + nI x).toNatClampNeg = 50 * k + x := ixC 50 k x (by omega)
  unfold nte mNt
  rw [e1, e2, vPut_n (by omega) (by decide), vAt_n (by omega) (by decide)]
  have e3 : (k - 1) * 50 + x + 50 = 50 * k + x := by omega
  have h1 := h.1 ((k - 1) * 50 + x) (by omega)
  rw [e3] at h1
  refine ⟨fun q hq => ?_, fun q hq => ?_⟩
  · by_cases e : q = (k - 1) * 50 + x
    · subst e; rw [e3, xw_at, xw_at, h1]
    · rw [xw_other e, xw_other (by omega)]; exact h.1 q hq
  · rw [xw_other (by omega)]; exact h.2 q hq
theorem Re_loop {τ0 ρ0 τ ρ : xS} {f g : xS → Int32 → xS} {n : Nat} (hR : Re τ ρ) (hC : CE τ τ0) (hD : CR ρ ρ0) (hf : ∀ τ i, CE (f τ i) τ) (hg : ∀ ρ i, CR (g ρ i) ρ) (hs : ∀ k, k < n → ∀ τ ρ, CE τ τ0 → CR ρ ρ0 → Re τ ρ → Re (f τ (nI k)) (g ρ (nI k))) : Re (upN f n τ) (upN g n ρ) ∧ CE (upN f n τ) τ0 ∧ CR (upN g n ρ) ρ0 :=
  up2 (fun _ τ ρ => Re τ ρ ∧ CE τ τ0 ∧ CR ρ ρ0) n ⟨hR, hC, hD⟩ (fun k hk τ ρ q => ⟨hs k hk τ ρ q.2.1 q.2.2 q.1, (hf τ _).tr q.2.1, (hg ρ _).tr q.2.2⟩) n (Nat.le_refl n)
section CK
variable {σ τ ρ : xS} {p : Nat}
theorem ck_links (h : Pg σ) (v : Vw σ τ p) (hr : Eqm ρ σ) (hp : p < 16) {k : Nat} (hk : k < cnt σ 1) (R : Re τ ρ) : Re (ckLS (nI p) τ (nI k)) (mL1 (nI p) ρ (nI k)) := by
  have hn := h.n1.2
  have w := h.l k hk
  unfold ckLS mL1
  rw [v.cT1 h hp hk, v.q 24 (by decide), v.q 26 (by decide), h.A.1.2.2.2.1, h.A.1.2.2.2.2.1, vAt_n (show k < 12 by omega) (by decide), vAt_n (show k < 12 by omega) (by decide), v.th0 h w.1, v.th0 h w.2, mMt_c hr, mIs_c hr, hr 94 (by decide), hr 95 (by decide), nI_clamp (show k < 2 ^ 31 by omega)]
  split
  · exact Re_note (k := 1) R _ (by decide) (by decide) (by omega)
  · exact R
theorem cnt_eq (h : Pg σ) (v : Vw σ τ p) (o : Int32) : cntL τ o = mCt σ o (nI p) := by
  have hn := h.n1.2
  have e : ∀ k, k ≤ cnt σ 1 → cntN τ o k = mCtN σ o (nI p) k := by
    intro k
    induction k with
    | zero => intro _; rfl
    | succ k ih =>
      intro hk
      have hth : isThB τ 1 (nI k) = mIs σ 1 (nI k) (nI p) := v.th h (s := 1) (by decide) (by omega)
      rw [cntN, mCtN, ih (by omega), hth, v.q 24 (by decide), h.A.1.2.2.2.1, vAt_n (show k < 12 by omega) (by decide)]
      by_cases c1 : σ 94 k = o
      · cases mIs σ 1 (nI k) (nI p) <;> simp [c1, bI]
      · simp [c1, bI]
  unfold cntL mCt
  rw [v.q 202 (by decide), h.C1.1]
  exact e _ (Nat.le_refl _)
theorem ckC1_CE (c : Int32) (τ : xS) (i : Int32) : CE (ckC1 c τ i) τ := fun _ hr => ckC1_keep hr c τ i
theorem mL2a_CR (c : Int32) (τ : xS) (i : Int32) : CR (mL2a c τ i) τ := fun _ hr => mL2a_keep hr c τ i
theorem ck_classes (h : Pg σ) (v : Vw σ τ p) (hr : Eqm ρ σ) {k : Nat} (hk : k < cnt σ 0) (R : Re τ ρ) : Re (ckCS (nI p) τ (nI k)) (mL2 (nI p) ρ (nI k)) := by
  have hn := h.n0.2
  have hv : vp_in (nI k) (cnt σ 0) := vp_in_nI hk (by omega)
  have hth := v.th0 h hv
  have v1 : Vw σ (ckC1 (nI p) τ (nI k)) p := (ckC1_CE _ _ _).vw v
  have r1 : Eqm (mL2a (nI p) ρ (nI k)) σ := (mL2a_CR _ _ _).em hr
  have R1 : mIs σ 0 (nI k) (nI p) = true → Re (ckC1 (nI p) τ (nI k)) (mL2a (nI p) ρ (nI k)) := fun hI => by
    unfold ckC1 mL2a
    rw [hth, hI, cnt_eq h v, mCt_c hr]
    by_cases c : mCt σ (nI k) (nI p) ≤ 1
    · rw [if_neg (fun q => q.2 c), if_neg (fun q => q c)]; exact R
    · rw [if_pos ⟨rfl, c⟩, if_pos c]
      exact Re_note (k := 2) R _ (by decide) (by decide) (by omega)
  unfold ckCS mL2
  rw [v1.th0 h hv, v1.un (vp_le hv hn) (vp_le hv hn), mIs_c hr, mBe_c r1]
  cases hI : mIs σ 0 (nI k) (nI p) with
  | false =>
    rw [if_neg (fun q => absurd q.1 (by decide)), if_neg (by decide)]
    unfold ckC1
    rw [hth, hI, if_neg (fun q => absurd q.1 (by decide))]; exact R
  | true =>
    rw [if_pos rfl]
    cases mBe σ (nI k) (nI k) (nI p) with
    | true =>
      rw [if_pos ⟨rfl, rfl⟩, if_pos rfl]
      exact Re_note (k := 3) (R1 hI) _ (by decide) (by decide) (by omega)
    | false =>
      rw [if_neg (fun q => absurd q.2 (by decide)), if_neg (by decide)]
      exact R1 hI
/-! members -/
theorem par_eq (h : Pg σ) (v : Vw σ τ p) {f : Nat} (hf : f < 24) : mPar τ (nI f) 0 = σ 100 (2 * f) ∧ mPar τ (nI f) 1 = σ 100 (2 * f + 1) := by
  unfold mPar
  rw [if_pos rfl, if_neg (by decide), if_pos rfl, vAt_n hf (by decide), vAt_n hf (by decide), v.q 44 (by decide), v.q 46 (by decide), h.A.2.1 f hf, h.A.2.2.1 f hf]
  exact ⟨rfl, rfl⟩
theorem ix2 (f : Nat) (hf : f < 24) : ((2 : Int32) * nI f).toNatClampNeg = 2 * f ∧ ((2 : Int32) * nI f + 1).toNatClampNeg = 2 * f + 1 := by
  constructor
  · show (nI 2 * nI f).toNatClampNeg = _
    rw [pk_mul, nI_clamp (by omega)]
  · exact ixC 2 f 1 (by omega)
theorem ck_types (h : Pg σ) (v : Vw σ τ p) (hr : Eqm ρ σ) {m : Nat} (hm : m < cnt σ 2) (R : Re τ ρ) : Re (ckM1 (nI p) τ (nI m)) (mC1 (nI p) ρ (nI m)) := by
  have hn := h.n2.2
  have w := h.m m hm
  have pe := par_eq h v (f := m) (by omega)
  have ie := ix2 m (by omega)
  unfold ckM1 mC1
  rw [pe.1, pe.2, ie.1, ie.2, v.q 42 (by decide), h.A.1.2.2.2.2.2.2.2.2.1, vAt_n (show m < 24 by omega) (by decide), nI_clamp (show m < 2 ^ 31 by omega), hr 99 (by decide), hr 100 (by decide), mGone_c hr, v.miss h (Or.inr w.2.2.2.1), v.miss h w.2.2.2.2.1, v.miss h w.2.2.2.2.2.1]
  split
  · exact Re_note (k := 5) R _ (by decide) (by decide) (by omega)
  · exact R
theorem mNt_twice (ρ : xS) (k x c : Int32) : mNt (mNt ρ k x c) k x c = mNt ρ k x c := by
  unfold mNt
  rw [xw_at, Int32.or_assoc, Int32.or_self]
  funext a b
  by_cases q : a = 107 ∧ b = ((50 : Int32) * k + x).toNatClampNeg
  · simp [xw, q]
  · simp [xw, q]
theorem mC2_up {m : Nat} (hr : Eqm ρ σ) (hm : m < 24) : ∀ k, k ≤ m → ((∀ j, j < k → mMeP σ (σ 97 m) (σ 98 m) (σ 96 m) (nI p) j = false) → upN (mC2S (nI m) (nI p)) k ρ = ρ) ∧ ((∃ j, j < k ∧ mMeP σ (σ 97 m) (σ 98 m) (σ 96 m) (nI p) j = true) → upN (mC2S (nI m) (nI p)) k ρ = mNt ρ 6 (nI m) (nI p)) := by
  intro k
  induction k with
  | zero => exact fun _ => ⟨fun _ => rfl, fun ⟨j, hj, _⟩ => absurd hj (Nat.not_lt_zero j)⟩
  | succ k ih =>
    intro hk
    obtain ⟨i1, i2⟩ := ih (by omega)
    have hc : (nI k).toNatClampNeg = k := nI_clamp (by omega)
    have hcm : (nI m).toNatClampNeg = m := nI_clamp (by omega)
    have st : ∀ u : xS, Eqm u σ → mC2S (nI m) (nI p) u (nI k) = if mMeP σ (σ 97 m) (σ 98 m) (σ 96 m) (nI p) k = true then mNt u 6 (nI m) (nI p) else u := fun u hu => by
      unfold mC2S mMeP
      rw [hc, hcm, hu 96 (by decide), hu 97 (by decide), hu 98 (by decide), mIs2_c hu]
      by_cases g1 : σ 96 k = σ 96 m <;> by_cases g2 : σ 97 k = σ 97 m <;> by_cases g3 : σ 98 k = σ 98 m <;> simp [g1, g2, g3]
    have hN : Eqm (mNt ρ 6 (nI m) (nI p)) σ := CR.em (fun r g => mNt_keep g _ _ _ _) hr
    by_cases hx : ∃ j, j < k ∧ mMeP σ (σ 97 m) (σ 98 m) (σ 96 m) (nI p) j = true
    · refine ⟨fun q => ?_, fun _ => ?_⟩
      · obtain ⟨j, hj, e⟩ := hx
        rw [q j (by omega)] at e; cases e
      · rw [upN_s, i2 hx, st _ hN]
        split
        · exact mNt_twice _ _ _ _
        · rfl
    · have hx2 : ∀ j, j < k → mMeP σ (σ 97 m) (σ 98 m) (σ 96 m) (nI p) j = false := fun j hj => by
        cases hq : mMeP σ (σ 97 m) (σ 98 m) (σ 96 m) (nI p) j with
        | false => rfl
        | true => exact absurd ⟨j, hj, hq⟩ hx
      rw [upN_s, i1 hx2, st _ hr]
      refine ⟨fun q => ?_, fun ⟨j, hj, e⟩ => ?_⟩
      · rw [q k (by omega), if_neg (by decide)]
      · by_cases g : j = k
        · subst g; rw [e, if_pos rfl]
        · exact absurd ⟨j, by omega, e⟩ hx
theorem firstN_min {P : Nat → Bool} {v : Nat → Int32} {m : Nat} (hP : P m = true) : ∀ d k, k ≤ m → m < k + d → ∃ j, k ≤ j ∧ j ≤ m ∧ P j = true ∧ (∀ i, k ≤ i → i < j → P i = false) ∧ firstN P v d k = v j := by
  intro d
  induction d with
  | zero => intro k h1 h2; omega
  | succ d ih =>
    intro k h1 h2
    rw [firstN]
    cases hk : P k with
    | true => exact ⟨k, Nat.le_refl k, h1, hk, fun i g1 g2 => by omega, by rw [if_pos rfl]⟩
    | false =>
      have hne : k ≠ m := fun e => by rw [e, hP] at hk; cases hk
      obtain ⟨j, a1, a2, a3, a4, a5⟩ := ih (k + 1) (by omega) (by omega)
      refine ⟨j, by omega, a2, a3, fun i g1 g2 => ?_, by rw [if_neg (by decide)]; exact a5⟩
      by_cases e : i = k
      · subst e; exact hk
      · exact a4 i (by omega) g2
theorem ck_twice (h : Pg σ) (v : Vw σ τ p) (hr : Eqm ρ σ) {m : Nat} (hm : m < cnt σ 2) (hI : mIs2 σ (nI m) (nI p) = true) (R : Re τ ρ) : Re (ckM2 (nI p) τ (nI m)) (mC2 (nI p) ρ (nI m)) := by
  have hn := h.n2.2
  have hcm : (nI m).toNatClampNeg = m := nI_clamp (by omega)
  have hPm : mMeP σ (σ 97 m) (σ 98 m) (σ 96 m) (nI p) m = true := by unfold mMeP; simp [hI]
  obtain ⟨j, -, j2, j3, j4, j5⟩ := firstN_min (v := nI) hPm (cnt σ 2) 0 (Nat.zero_le _) (by omega)
  have hme : mMe σ (σ 97 m) (σ 98 m) (σ 96 m) (nI p) = nI j := j5
  obtain ⟨i1, i2⟩ := mC2_up (p := p) hr (show m < 24 by omega) m (Nat.le_refl m)
  unfold ckM2 mC2
  rw [v.rep h hm, hme, hcm]
  by_cases e : m = j
  · rw [if_neg (by simp [e]), i1 (fun i hi => j4 i (Nat.zero_le _) (by omega))]; exact R
  · rw [if_pos (by simp [nI_eq (show m < 2 ^ 31 by omega) (show j < 2 ^ 31 by omega), e]), i2 ⟨j, by omega, j3⟩]
    exact Re_note (k := 6) R _ (by decide) (by decide) (by omega)
theorem ck_above (h : Pg σ) (v : Vw σ τ p) (hr : Eqm ρ σ) {m : Nat} (hm : m < cnt σ 2) (R : Re τ ρ) : Re (ckM3 (nI p) τ (nI m)) (mC3 (nI p) ρ (nI m)) := by
  have hn := h.n2.2
  have hcm : (nI m).toNatClampNeg = m := nI_clamp (by omega)
  have w := h.m m hm
  have hm24 : m < 24 := by omega
  have ePa : vAt 8 (τ 73) (vAt 24 (τ 38) (nI m)) = mPa σ (σ 97 m) (nI p) := by
    rw [vAt_n hm24 (by decide), v.q 38 (by decide), h.A.1.2.2.2.2.2.2.1]; exact v.pa (vp_le w.2.1 h.n0.2)
  have eCp : mCpa ρ (nI m) (nI p) = mPa σ (σ 97 m) (nI p) := by
    unfold mCpa; rw [hcm, hr 97 (by decide), mPa_c hr]
  have eLk : lookU τ (mPa σ (σ 97 m) (nI p)) (vAt 24 (τ 40) (nI m)) 1 = mFi σ (mPa σ (σ 97 m) (nI p)) (σ 98 m) 1 (nI p) := by
    rw [vAt_n hm24 (by decide), v.q 40 (by decide), h.A.1.2.2.2.2.2.2.2.1]
    exact v.fi h (mPa_in h.V _ _) w.2.2.1 (Or.inr rfl)
  have eCf : mCf ρ (nI m) (nI p) = mFi σ (mPa σ (σ 97 m) (nI p)) (σ 98 m) 1 (nI p) := by
    unfold mCf; rw [eCp, hcm, hr 98 (by decide), mFi_c hr]
  unfold ckM3 mC3
  rw [eCp, eCf, hcm, hr 96 (by decide), vAt_n hm24 (by decide), v.q 36 (by decide), h.A.1.2.2.2.2.2.1]
  unfold unlI
  rw [ePa, eLk]
  rcases w.1 with e | e
  · rw [if_neg (by rw [e]; exact fun q => absurd q.1 (by decide)), if_pos e]; exact R
  · rw [if_neg (show ¬ σ 96 m = 0 by rw [e]; decide)]
    by_cases h1 : mPa σ (σ 97 m) (nI p) = -1
    · rw [if_pos h1, if_pos h1, if_neg (fun q => absurd q.2 (by decide))]; exact R
    · rw [if_neg h1, if_neg h1]
      by_cases h2 : mFi σ (mPa σ (σ 97 m) (nI p)) (σ 98 m) 1 (nI p) = -1
      · rw [if_pos h2, if_pos h2, if_neg (fun q => absurd q.2 (by decide))]; exact R
      · rw [if_neg h2, if_neg h2]
        by_cases h3 : mFi σ (mPa σ (σ 97 m) (nI p)) (σ 98 m) 1 (nI p) = nI m
        · rw [if_pos h3, if_pos h3, if_neg (fun q => absurd q.2 (by decide))]; exact R
        · rw [if_neg h3, if_neg h3]
          have hf := mFi_in h.V h2
          obtain ⟨f, hf24, ef⟩ := vp_ex hf
          have pm := par_eq h v hm24
          have pf := par_eq h v hf24
          have im := ix2 m hm24
          have jf := ix2 f hf24
          have t1 : tyk 8 (σ 99 m) := by have := mv99 h.V (vp_in_nI hm24 (by decide)); rw [hcm] at this; exact vp9_tyk this
          have t2 : tyk 8 (σ 99 f) := by have := mv99 h.V (vp_in_nI hf24 (by decide)); rw [nI_clamp (by omega)] at this; exact vp9_tyk this
          unfold mCsame
          rw [ef, pm.1, pm.2, pf.1, pf.2, im.1, im.2, jf.1, jf.2, vAt_n hm24 (by decide), vAt_n hf24 (by decide), v.q 42 (by decide), h.A.1.2.2.2.2.2.2.2.2.1, v.fit t1 t2, hr 100 (by decide), hr 99 (by decide), nI_clamp (show f < 2 ^ 31 by omega), mFit_c hr]
          by_cases g1 : σ 100 (2 * m) = σ 100 (2 * f)
          · by_cases g2 : σ 100 (2 * m + 1) = σ 100 (2 * f + 1)
            · cases hF : mFit σ (σ 99 m) (σ 99 f) (nI p) with
              | true => rw [if_neg (by simp [g1, g2]), if_pos (by simp [g1, g2])]; exact R
              | false =>
                rw [if_pos (by simp [g1, g2, e]), if_neg (by simp)]
                exact Re_note (k := 7) R _ (by decide) (by decide) (by omega)
            · rw [if_pos (by simp [g2, e]), if_neg (by simp [g2])]
              exact Re_note (k := 7) R _ (by decide) (by decide) (by omega)
          · rw [if_pos (by simp [g1, e]), if_neg (by simp [g1])]
            exact Re_note (k := 7) R _ (by decide) (by decide) (by omega)
theorem ck_members (h : Pg σ) (v : Vw σ τ p) (hr : Eqm ρ σ) (hp : p < 16) {m : Nat} (hm : m < cnt σ 2) (R : Re τ ρ) : Re (ckMS (nI p) τ (nI m)) (mL3 (nI p) ρ (nI m)) := by
  have hn := h.n2.2
  have hcm : (nI m).toNatClampNeg = m := nI_clamp (by omega)
  have hv : vp_in (nI m) (cnt σ 2) := vp_in_nI hm (by omega)
  have a1 : Eqm (mL3a (nI p) ρ (nI m)) σ := CR.em (fun r g => mL3a_keep g _ _ _) hr
  have e0 : mIs2 σ (nI m) (nI p) = (mMt σ 2 (nI m) (nI p) && mMt σ 0 (σ 97 m) (nI p)) := by unfold mIs2; rw [hcm]
  unfold ckMS mL3
  rw [v.th2 h hv, mIs2_c a1, v.cT2 h hp hm]
  unfold mL3a
  rw [hcm, mMt_c hr, mIs_c hr, hr 97 (by decide), mIs_0, e0]
  cases g1 : mMt σ 2 (nI m) (nI p) with
  | false =>
    rw [Bool.false_and, if_neg (by decide), if_neg (by decide), if_neg (by decide), if_neg (fun q => absurd q.1 (by decide))]; exact R
  | true =>
    cases g2 : mMt σ 0 (σ 97 m) (nI p) with
    | false =>
      rw [Bool.and_false, if_neg (by decide), if_pos rfl, if_neg (by decide), if_pos ⟨rfl, rfl⟩]
      exact Re_note (k := 4) R _ (by decide) (by decide) (by omega)
    | true =>
      rw [Bool.and_true, if_pos rfl, if_pos rfl, if_neg (fun q => absurd q.2 (by decide))]
      have hI : mIs2 σ (nI m) (nI p) = true := by rw [e0, g1, g2]; rfl
      unfold ckM0 mC0
      have R1 := ck_types h v hr hm R
      have v1 : Vw σ (ckM1 (nI p) τ (nI m)) p := CE.vw (fun r g => ckM1_keep g _ _ _) v
      have r1 : Eqm (mC1 (nI p) ρ (nI m)) σ := CR.em (fun r g => mC1_keep g _ _ _) hr
      have R2 := ck_twice h v1 r1 hm hI R1
      have v2 : Vw σ (ckM2 (nI p) (ckM1 (nI p) τ (nI m)) (nI m)) p := CE.vw (fun r g => ckM2_keep g _ _ _) v1
      have r2 : Eqm (mC2 (nI p) (mC1 (nI p) ρ (nI m)) (nI m)) σ := CR.em (fun r g => mC2_keep g _ _ _) r1
      exact ck_above h v2 r2 hm R2
theorem ck_exprs {f0 : Int32} (hf : f0 = 0 ∨ ∃ f, 8 ≤ f ∧ f ≤ 11 ∧ f0 = nI f) {k : Nat} (hk : k < nEx σ) (h : Pg σ) (hr : Eqm ρ σ) (h79 : τ 79 k = f0) (hfl : f0 = flt σ ρ p k) (R : Re τ ρ) : Re (ckES (nI p) τ (nI k)) (mKT (nI p) ρ (nI k)) := by
  have hn := h.ne.2
  have hc : (nI k).toNatClampNeg = k := nI_clamp (by omega)
  have e1 : mKTs (nI p) ρ (nI k) = if f0 = 0 then ρ else mNt ρ f0 (nI k) (nI p) := by
    unfold mKTs mFTs
    rw [hfl, hc, hr 103 (by decide), mIs2_c hr]
    unfold flt
    cases mIs2 σ (σ 103 k) (nI p) <;> simp
  have e2 : ∀ u : xS, Re τ u → ∀ j x, Re τ (xw u 106 j x) := fun u hu j x => by
    unfold Re
    rw [xw_ne _ _ _ (show (107 : Nat) ≠ 106 by decide)]; exact hu
  unfold ckES mKT
  rw [vAt_n (show k < 50 by omega) (by decide), h79, e1]
  rcases hf with e | ⟨f, f1, f2, e⟩
  · rw [if_pos e, if_pos e]; exact e2 _ R _ _
  · have hne : ¬ f0 = 0 := by rw [e]; exact nI_ne0 (by omega) (by omega)
    rw [if_neg hne, if_neg hne, e]
    have := Re_note (k := f) (x := k) R (nI p) (by omega) (by omega) (by omega)
    unfold Re
    rw [xw_ne _ _ _ (show (107 : Nat) ≠ 106 by decide)]
    exact this
theorem ck_results (h : Pg σ) (v : Vw σ τ p) (hr : Eqm ρ σ) (hp : p < 16) {k : Nat} (hk : k < cnt σ 3) (hT : ∀ e, e < nEx σ → τ 81 (50 * p + e) = ρ 106 (50 * p + e) ∧ (mIs2 σ (σ 103 e) (nI p) = true → τ 81 (50 * p + e) = -1 ∨ tyk 8 (τ 81 (50 * p + e)))) (R : Re τ ρ) : Re (ckXS (nI p) τ (nI k)) (mKX (nI p) ρ (nI k)) := by
  have hn := h.n3.2
  have hne := h.ne.2
  have h24 := h.n2.2
  have hc : (nI k).toNatClampNeg = k := nI_clamp (by omega)
  obtain ⟨e, he, ee⟩ := vp_ex (h.x k hk)
  have hm := resM_eq h hk
  rw [ee, nI_clamp (show e < 2 ^ 31 by omega)] at hm
  obtain ⟨m, hm24, em⟩ := vp_ex hm.2
  have eRe : resM τ (nI k) = nI m := by
    have : resM τ = resM σ := by funext i; unfold resM; rw [v.q 51 (by decide), v.q 68 (by decide)]
    rw [this, hm.1, em]
  have eTh : isThB τ 3 (nI k) = mIs σ 3 (nI k) (nI p) := v.th h (s := 3) (by decide) hk
  have h103 : σ 103 e = nI m := em
  have eTy : tyIn τ (vAt 16 (τ 68) (nI k)) (nI p) = τ 81 (50 * p + e) := by
    rw [vAt_n (show k < 16 by omega) (by decide), v.q 68 (by decide), h.A.1.2.2.2.2.2.2.2.2.2.1, ee, tyIn_n hp (by omega)]
  have eTi : mTI ρ (ρ 101 (nI k).toNatClampNeg) (nI p) = τ 81 (50 * p + e) := by
    rw [hc, hr 101 (by decide), ee, mTI_n hp (by omega), (hT e he).1]
  have t2 : tyk 8 (σ 99 m) := by have := mv99 h.V (vp_in_nI (show m < 24 by omega) (by decide)); rw [nI_clamp (by omega)] at this; exact vp9_tyk this
  unfold ckXS mKX
  rw [eTh, eTy, eRe, eTi, hc, hr 101 (by decide), ee, nI_clamp (show e < 2 ^ 31 by omega), hr 103 (by decide), h103, nI_clamp (show m < 2 ^ 31 by omega), hr 99 (by decide), mIs_c hr, mFit_c hr, vAt_n (show m < 24 by omega) (by decide), v.q 42 (by decide), h.A.1.2.2.2.2.2.2.2.2.1]
  cases hI : mIs σ 3 (nI k) (nI p) with
  | false => rw [if_neg (fun q => absurd q.1 (by decide)), if_neg (fun q => absurd q.1 (by decide))]; exact R
  | true =>
    by_cases hz : τ 81 (50 * p + e) < 0
    · rw [if_neg (fun q => q.2.1 hz), if_neg (fun q => q.2.1 hz)]; exact R
    · have hI2 : mIs2 σ (σ 103 e) (nI p) = true := by
        rw [mIs_3, hc, ee, nI_clamp (show e < 2 ^ 31 by omega)] at hI
        exact (Bool.and_eq_true_iff.mp hI).2
      have t1 : tyk 8 (τ 81 (50 * p + e)) := ((hT e he).2 hI2).resolve_left (fun q => hz (by rw [q]; decide))
      rw [v.fit t1 t2]
      split
      · exact Re_note (k := 12) R _ (by decide) (by decide) (by omega)
      · exact R
end CK
/-! One product. -/
theorem look_84 (τ : xS) (c : Int32) : look τ c 84 = τ 84 := by
  rw [look, lfm_keep (by decide), lfa_keep (by decide), lfp_keep (by decide), lfe_keep (by decide), lfe_keep (by decide), lfe_keep (by decide), lfe_keep (by decide), xw_ne _ _ _ (by decide)]
theorem look_81 (τ : xS) (c : Int32) : look τ c 81 = τ 81 := by
  rw [look, lfm_keep (by decide), lfa_keep (by decide), lfp_keep (by decide), lfe_keep (by decide), lfe_keep (by decide), lfe_keep (by decide), lfe_keep (by decide), xw_ne _ _ _ (by decide)]
/-- a product's round of the class and of the reference -/
def clP (τ : xS) (c : Int32) : xS := ckX (ckE (ckM (ckC (ckL (gts (look τ c)) c) c) c) c) c
def rfP (ρ : xS) (c : Int32) : xS := upN (mKX c) (ρ 91 3).toNatClampNeg (mK1 ρ c)
theorem prod_rel {σ τ ρ : xS} {p : Nat} (h : Pg σ) (hq : Eqc τ σ) (hr : Eqm ρ σ) (hp : p < 16) (R : Re τ ρ) : Re (clP τ (nI p)) (rfP ρ (nI p)) ∧ Eqc (clP τ (nI p)) σ ∧ Eqm (rfP ρ (nI p)) σ ∧ (∀ q, (q < 50 * p ∨ 50 * p + 50 ≤ q) → clP τ (nI p) 81 q = τ 81 q ∧ rfP ρ (nI p) 106 q = ρ 106 q) ∧ (∀ e, e < nEx σ → clP τ (nI p) 81 (50 * p + e) = rfP ρ (nI p) 106 (50 * p + e)) ∧ (∀ τ', Eqc τ' σ → ∀ e, e < nEx σ → gts (look τ' (nI p)) 81 (50 * p + e) = rfP ρ (nI p) 106 (50 * p + e)) := by
  have v := look_Vw h hq hp
  have rCP : CR (mCP ρ (nI p)) ρ := fun r g => mCP_keep g _ _
  have hr1 : Eqm (mCP ρ (nI p)) σ := rCP.em hr
  have T := TR_all h v hr1 hp
  generalize hτ1 : gts (look τ (nI p)) = τ1 at T
  have v1 : Vw σ τ1 p := Vw_of v (fun r g1 g2 _ _ _ => T.1 r g1 g2)
  have R1 : Re τ1 ρ := by
    unfold Re
    rw [T.1 84 (by decide) (by decide), look_84]; exact R
  -- links
  have n202 : ∀ u, CE u τ1 → (u 202 0).toNatClampNeg = cnt σ 1 := fun u hu => by rw [hu 202 (by decide), v1.q 202 (by decide), h.C1.1]
  have n201 : ∀ u, CE u τ1 → (u 201 0).toNatClampNeg = cnt σ 0 := fun u hu => by rw [hu 201 (by decide), v1.q 201 (by decide), h.C0.1]
  have n203 : ∀ u, CE u τ1 → (u 203 0).toNatClampNeg = cnt σ 2 := fun u hu => by rw [hu 203 (by decide), v1.q 203 (by decide), h.C2.1]
  have n204 : ∀ u, CE u τ1 → (u 204 0).toNatClampNeg = cnt σ 3 := fun u hu => by rw [hu 204 (by decide), v1.q 204 (by decide), h.C3.1]
  have n205 : ∀ u, CE u τ1 → (u 205 0).toNatClampNeg = nEx σ := fun u hu => by rw [hu 205 (by decide), v1.q 205 (by decide), h.N.2]
  have n91 : ∀ u s, Eqm u σ → (u 91 s).toNatClampNeg = cnt σ s := fun u s hu => by rw [hu 91 (by decide)]
  have L1 : Re (ckL τ1 (nI p)) (mCP1 ρ (nI p)) ∧ CE (ckL τ1 (nI p)) τ1 ∧ CR (mCP1 ρ (nI p)) ρ := by
    unfold ckL mCP1
    rw [n202 τ1 (fun _ _ => rfl), n91 ρ 1 hr]
    exact Re_loop R1 (fun _ _ => rfl) (fun _ _ => rfl) (fun u i r g => ckLS_keep g _ u i) (fun u i r g => mL1_keep g _ u i) (fun k hk u w c1 c2 q => ck_links h (c1.vw v1) (c2.em hr) hp hk q)
  have L2 : Re (ckC (ckL τ1 (nI p)) (nI p)) (mCP2 ρ (nI p)) ∧ CE (ckC (ckL τ1 (nI p)) (nI p)) τ1 ∧ CR (mCP2 ρ (nI p)) ρ := by
    unfold ckC mCP2
    rw [n201 _ L1.2.1, n91 ρ 0 hr]
    exact Re_loop L1.1 L1.2.1 L1.2.2 (fun u i r g => ckCS_keep g _ u i) (fun u i r g => mL2_keep g _ u i) (fun k hk u w c1 c2 q => ck_classes h (c1.vw v1) (c2.em hr) hk q)
  have L3 : Re (ckM (ckC (ckL τ1 (nI p)) (nI p)) (nI p)) (mCP ρ (nI p)) ∧ CE (ckM (ckC (ckL τ1 (nI p)) (nI p)) (nI p)) τ1 ∧ CR (mCP ρ (nI p)) ρ := by
    unfold ckM mCP
    rw [n203 _ L2.2.1, n91 ρ 2 hr]
    exact Re_loop L2.1 L2.2.1 L2.2.2 (fun u i r g => ckMS_keep g _ u i) (fun u i r g => mL3_keep g _ u i) (fun k hk u w c1 c2 q => ck_members h (c1.vw v1) (c2.em hr) hp hk q)
  have L4 : Re (ckE (ckM (ckC (ckL τ1 (nI p)) (nI p)) (nI p)) (nI p)) (mK1 ρ (nI p)) ∧ CE (ckE (ckM (ckC (ckL τ1 (nI p)) (nI p)) (nI p)) (nI p)) τ1 ∧ mK1 ρ (nI p) = upN (mKT (nI p)) (nEx σ) (mCP ρ (nI p)) := by
    have eK : mK1 ρ (nI p) = upN (mKT (nI p)) (nEx σ) (mCP ρ (nI p)) := by
      unfold mK1; rw [hr 210 (by decide)]
    rw [eK]
    unfold ckE
    rw [n205 _ L3.2.1]
    have key := up2 (f := ckES (nI p)) (g := mKT (nI p)) (fun k u w => Re u w ∧ CE u τ1 ∧ w = upN (mKT (nI p)) k (mCP ρ (nI p)) ∧ Eqm w σ) (nEx σ) ⟨L3.1, L3.2.1, rfl, hr1⟩ (fun k hk u w ⟨q1, q2, q3, q4⟩ => by
      have t := T.2.2.2.2 k hk
      refine ⟨?_, CE.tr (fun r g => ckES_keep g _ u _) q2, by rw [upN_s, ← q3], mKT_keepE q4 _ _⟩
      refine ck_exprs (f0 := flt σ w p k) (by rw [q3]; exact t.2.2.2.2) hk h q4 ?_ rfl q1
      rw [q2 79 (by decide), t.2.2.2.1, q3]) (nEx σ) (Nat.le_refl _)
    exact ⟨key.1, key.2.1, rfl⟩
  have r4 : Eqm (mK1 ρ (nI p)) σ := by rw [L4.2.2]; exact T.2.1
  have t4 : ∀ e, e < nEx σ → τ1 81 (50 * p + e) = mK1 ρ (nI p) 106 (50 * p + e) := fun e he => by rw [L4.2.2]; exact (T.2.2.2.2 e he).1
  have L5 : Re (clP τ (nI p)) (rfP ρ (nI p)) ∧ CE (clP τ (nI p)) τ1 ∧ CR (rfP ρ (nI p)) (mK1 ρ (nI p)) := by
    unfold clP rfP
    rw [hτ1]
    unfold ckX
    rw [n204 _ L4.2.1, n91 ρ 3 hr]
    refine Re_loop L4.1 L4.2.1 (fun _ _ => rfl) (fun u i r g => ckXS_keep g _ u i) (fun u i r g => mKX_keep g _ u i) (fun k hk u w c1 c2 q => ck_results h (c1.vw v1) (c2.em r4) hp hk (fun e he => ?_) q)
    rw [c1 81 (by decide), c2 106 (by decide)]
    exact ⟨t4 e he, (T.2.2.2.2 e he).2.1⟩
  refine ⟨L5.1, (L5.2.1.vw v1).q, L5.2.2.em r4, fun q hq2 => ?_, fun e he => ?_, fun τ' hq' e he => ?_⟩
  · have t := T.2.2.2.1 q hq2
    rw [L5.2.1 81 (by decide), L5.2.2 106 (by decide), L4.2.2, t.1, t.2, look_81, rCP 106 (by decide)]
    exact ⟨rfl, rfl⟩
  · rw [L5.2.1 81 (by decide), L5.2.2 106 (by decide)]; exact t4 e he
  · have T' := TR_all h (look_Vw h hq' hp) hr1 hp
    rw [L5.2.2 106 (by decide), L4.2.2]
    exact (T'.2.2.2.2 e he).1

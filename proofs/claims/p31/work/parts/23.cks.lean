/-! The checks alike: the sets of one configuration. -/
def Ba (c d : Nat) (σ τ : xS) : Prop := ∀ q, q < 600 → bt (σ 84 q) c = bt (τ 84 q) d
def CE (τ τ0 : xS) : Prop := ∀ r, r ≠ 84 → τ r = τ0 r
theorem CE.tr {a b c : xS} (h : CE a b) (g : CE b c) : CE a c := fun r q => (h r q).trans (g r q)
theorem CE.rf {a : xS} : CE a a := fun _ _ => rfl
section CK
variable {c d : Nat} {σ τ : xS}
theorem Vk.ce {σ' τ' : xS} (v : Vk c d σ τ) (h1 : CE σ' σ) (h2 : CE τ' τ) : Vk c d σ' τ' := v.of (fun r _ _ g _ _ => h1 r g) (fun r _ _ g _ _ => h2 r g)
/-- a note at a place that both have -/
theorem nte_al (hc : c < 16) (hd : d < 16) (B : Ba c d σ τ) (kd el : Int32) : Ba c d (nte σ kd el (nI c)) (nte τ kd el (nI d)) := by
  intro q hq
  unfold nte vPut
  split
  · by_cases z : q = (nteP kd el).toNatClampNeg
    · rw [z, xw_at, xw_at, b_or, b_or, b_one (by omega) (by omega), b_one (by omega) (by omega), decide_eq_true rfl, decide_eq_true rfl, Bool.or_true, Bool.or_true]
    · rw [xw_other z, xw_other z]; exact B q hq
  · exact B q hq
theorem ckLS_al (hc : c < 16) (hd : d < 16) (v : Vk c d σ τ) (B : Ba c d σ τ) (i : Int32) : Ba c d (ckLS (nI c) σ i) (ckLS (nI d) τ i) := by
  unfold ckLS
  rw [v.cT hc hd, v.th, v.s 24 (by decide), v.s 26 (by decide)]
  split
  · exact nte_al hc hd B _ _
  · exact B
theorem ckC1_al (hc : c < 16) (hd : d < 16) (v : Vk c d σ τ) (B : Ba c d σ τ) (i : Int32) : Ba c d (ckC1 (nI c) σ i) (ckC1 (nI d) τ i) := by
  unfold ckC1
  rw [v.th, v.cn]
  split
  · exact nte_al hc hd B _ _
  · exact B
theorem ckCS_al (hc : c < 16) (hd : d < 16) (v : Vk c d σ τ) (B : Ba c d σ τ) (i : Int32) : Ba c d (ckCS (nI c) σ i) (ckCS (nI d) τ i) := by
  have v1 : Vk c d (ckC1 (nI c) σ i) (ckC1 (nI d) τ i) := v.ce (fun r g => ckC1_keep g _ _ _) (fun r g => ckC1_keep g _ _ _)
  unfold ckCS
  rw [v1.th, v1.un]
  split
  · exact nte_al hc hd (ckC1_al hc hd v B i) _ _
  · exact ckC1_al hc hd v B i
theorem ckM1_al (hc : c < 16) (hd : d < 16) (v : Vk c d σ τ) (B : Ba c d σ τ) (i : Int32) : Ba c d (ckM1 (nI c) σ i) (ckM1 (nI d) τ i) := by
  unfold ckM1
  rw [v.miss, v.par, v.s 42 (by decide)]
  split
  · exact nte_al hc hd B _ _
  · exact B
theorem ckM2_al (hc : c < 16) (hd : d < 16) (v : Vk c d σ τ) (B : Ba c d σ τ) (i : Int32) : Ba c d (ckM2 (nI c) σ i) (ckM2 (nI d) τ i) := by
  unfold ckM2
  rw [v.rep]
  split
  · exact nte_al hc hd B _ _
  · exact B
theorem ckM3_al (hc : c < 16) (hd : d < 16) (v : Vk c d σ τ) (B : Ba c d σ τ) (i : Int32) : Ba c d (ckM3 (nI c) σ i) (ckM3 (nI d) τ i) := by
  unfold ckM3
  rw [v.unl, v.s 36 (by decide)]
  split
  · exact nte_al hc hd B _ _
  · exact B
theorem ckMS_al (hc : c < 16) (hd : d < 16) (v : Vk c d σ τ) (B : Ba c d σ τ) (i : Int32) : Ba c d (ckMS (nI c) σ i) (ckMS (nI d) τ i) := by
  unfold ckMS
  rw [v.th, v.cT hc hd]
  split
  · unfold ckM0
    have v1 : Vk c d (ckM1 (nI c) σ i) (ckM1 (nI d) τ i) := v.ce (fun r g => ckM1_keep g _ _ _) (fun r g => ckM1_keep g _ _ _)
    have v2 : Vk c d (ckM2 (nI c) (ckM1 (nI c) σ i) i) (ckM2 (nI d) (ckM1 (nI d) τ i) i) := v1.ce (fun r g => ckM2_keep g _ _ _) (fun r g => ckM2_keep g _ _ _)
    exact ckM3_al hc hd v2 (ckM2_al hc hd v1 (ckM1_al hc hd v B i) i) i
  · split
    · exact nte_al hc hd B _ _
    · exact B
theorem ckES_al (hc : c < 16) (hd : d < 16) {k : Nat} (hk : k < 50) (h79 : σ 79 k = τ 79 k) (B : Ba c d σ τ) : Ba c d (ckES (nI c) σ (nI k)) (ckES (nI d) τ (nI k)) := by
  unfold ckES
  rw [vAt_n hk (by decide), vAt_n hk (by decide), h79]
  split
  · exact B
  · exact nte_al hc hd B _ _
theorem ckXS_al (hc : c < 16) (hd : d < 16) (v : Vk c d σ τ) {i : Int32} {e : Nat} (he : e < 50) (hi : vAt 16 (σ 68) i = nI e) (h81 : σ 81 (50 * c + e) = τ 81 (50 * d + e)) (B : Ba c d σ τ) : Ba c d (ckXS (nI c) σ i) (ckXS (nI d) τ i) := by
  have er : resM σ i = resM τ i := by unfold resM; rw [v.s 51 (by decide), v.s 68 (by decide)]
  unfold ckXS
  rw [← v.s 68 (by decide), hi, tyIn_n hc he, tyIn_n hd he, h81, er, v.th, v.fit, v.s 42 (by decide)]
  split
  · exact nte_al hc hd B _ _
  · exact B
/-- a loop of checks -/
theorem ck_loop {σ0 τ0 : xS} {f g : xS → Int32 → xS} {n : Nat} (v : Vk c d σ0 τ0) (h1 : CE σ σ0) (h2 : CE τ τ0) (B : Ba c d σ τ) (hf : ∀ u i, CE (f u i) u) (hg : ∀ u i, CE (g u i) u) (hs : ∀ k, k < n → ∀ u w, CE u σ0 → CE w τ0 → Vk c d u w → Ba c d u w → Ba c d (f u (nI k)) (g w (nI k))) : Ba c d (upN f n σ) (upN g n τ) ∧ CE (upN f n σ) σ0 ∧ CE (upN g n τ) τ0 :=
  up2 (fun _ u w => Ba c d u w ∧ CE u σ0 ∧ CE w τ0) n ⟨B, h1, h2⟩ (fun k hk u w q => ⟨hs k hk u w q.2.1 q.2.2 (v.ce q.2.1 q.2.2) q.1, (hf _ _).tr q.2.1, (hg _ _).tr q.2.2⟩) n (Nat.le_refl _)
/-- one product's round -/
theorem clP_al {n m : Nat} (h : St c d σ τ) (hc : c < 16) (hd : d < 16) (w : Wx n m σ) (B : Ba c d σ τ) : Ba c d (clP σ (nI c)) (clP τ (nI d)) := by
  have w1 := w.1
  have w' : Wx n m (look σ (nI c)) := w.of (fun r hr => look_keep hr σ _)
  have T := gts_al (look_Vk h hc hd) hc hd w'
  have B0 : Ba c d (gts (look σ (nI c))) (gts (look τ (nI d))) := by
    unfold Ba
    rw [gts_keep (by decide) (by decide), gts_keep (by decide) (by decide), look_84, look_84]; exact B
  have wg : Wx n m (gts (look σ (nI c))) := w'.of (fun r hr => gts_keep hr.2.2.2.2.1 hr.2.2.2.2.2.1 _)
  unfold clP
  generalize gts (look σ (nI c)) = s0 at T B0 wg ⊢
  generalize gts (look τ (nI d)) = t0 at T B0 ⊢
  have v := T.1
  have zz : ∀ q, q ∈ [201, 202, 203, 204, 205] → ∀ u w, CE u s0 → CE w t0 → (u q 0).toNatClampNeg = (w q 0).toNatClampNeg := fun q hq u w h1 h2 => by
    have : q ≠ 84 := by rintro rfl; exact absurd hq (by decide)
    rw [h1 q this, h2 q this, v.z q hq]
  have L1 : Ba c d (ckL s0 (nI c)) (ckL t0 (nI d)) ∧ CE (ckL s0 (nI c)) s0 ∧ CE (ckL t0 (nI d)) t0 := by
    unfold ckL
    rw [zz 202 (by decide) s0 t0 CE.rf CE.rf]
    exact ck_loop v CE.rf CE.rf B0 (fun u i r g => ckLS_keep g _ u i) (fun u i r g => ckLS_keep g _ u i) (fun k _ u w _ _ q b => ckLS_al hc hd q b _)
  generalize ckL s0 (nI c) = s1 at L1 ⊢
  generalize ckL t0 (nI d) = t1 at L1 ⊢
  have L2 : Ba c d (ckC s1 (nI c)) (ckC t1 (nI d)) ∧ CE (ckC s1 (nI c)) s0 ∧ CE (ckC t1 (nI d)) t0 := by
    unfold ckC
    rw [zz 201 (by decide) s1 t1 L1.2.1 L1.2.2]
    exact ck_loop v L1.2.1 L1.2.2 L1.1 (fun u i r g => ckCS_keep g _ u i) (fun u i r g => ckCS_keep g _ u i) (fun k _ u w _ _ q b => ckCS_al hc hd q b _)
  generalize ckC s1 (nI c) = s2 at L2 ⊢
  generalize ckC t1 (nI d) = t2 at L2 ⊢
  have L3 : Ba c d (ckM s2 (nI c)) (ckM t2 (nI d)) ∧ CE (ckM s2 (nI c)) s0 ∧ CE (ckM t2 (nI d)) t0 := by
    unfold ckM
    rw [zz 203 (by decide) s2 t2 L2.2.1 L2.2.2]
    exact ck_loop v L2.2.1 L2.2.2 L2.1 (fun u i r g => ckMS_keep g _ u i) (fun u i r g => ckMS_keep g _ u i) (fun k _ u w _ _ q b => ckMS_al hc hd q b _)
  generalize ckM s2 (nI c) = s3 at L3 ⊢
  generalize ckM t2 (nI d) = t3 at L3 ⊢
  have L4 : Ba c d (ckE s3 (nI c)) (ckE t3 (nI d)) ∧ CE (ckE s3 (nI c)) s0 ∧ CE (ckE t3 (nI d)) t0 := by
    unfold ckE
    have e5 : (t3 205 0).toNatClampNeg = n := by rw [← zz 205 (by decide) s3 t3 L3.2.1 L3.2.2, L3.2.1 205 (by decide), wg.2.2.1, nI_clamp (by omega)]
    rw [zz 205 (by decide) s3 t3 L3.2.1 L3.2.2, e5]
    refine ck_loop v L3.2.1 L3.2.2 L3.1 (fun u i r g => ckES_keep g _ u i) (fun u i r g => ckES_keep g _ u i) (fun k hk u w h1 h2 q b => ckES_al hc hd (by omega) ?_ b)
    rw [h1 79 (by decide), h2 79 (by decide)]; exact T.2.1 k hk
  generalize ckE s3 (nI c) = s4 at L4 ⊢
  generalize ckE t3 (nI d) = t4 at L4 ⊢
  unfold ckX
  have e4 : (t4 204 0).toNatClampNeg = m := by rw [← zz 204 (by decide) s4 t4 L4.2.1 L4.2.2, L4.2.1 204 (by decide), wg.2.2.2.1, nI_clamp (by have := wg.2.1; omega)]
  rw [zz 204 (by decide) s4 t4 L4.2.1 L4.2.2, e4]
  refine (ck_loop v L4.2.1 L4.2.2 L4.1 (fun u i r g => ckXS_keep g _ u i) (fun u i r g => ckXS_keep g _ u i) (fun k hk u w h1 h2 q b => ?_)).1
  obtain ⟨e, he, h68⟩ := wg.2.2.2.2.2.2 k hk
  refine ckXS_al hc hd q (e := e) (by omega) ?_ ?_ b
  · rw [h1 68 (by decide), vAt_n (by have := wg.2.1; omega) (by decide), h68]
  · rw [h1 81 (by decide), h2 81 (by decide)]; exact T.2.2 e he
/-- a round of one configuration leaves the sets of another -/
def Bo (c : Nat) (σ' σ : xS) : Prop := ∀ q, bt (σ' 84 q) c = bt (σ 84 q) c
theorem nte_o {p : Nat} (hc : c < 32) (hp : p < 16) (hn : c ≠ p) (kd el : Int32) : Bo c (nte σ kd el (nI p)) σ := by
  intro q
  unfold nte vPut
  split
  · rename_i hg
    by_cases z : q = (nteP kd el).toNatClampNeg
    · rw [z, xw_at, b_or, b_one (by omega) hc, decide_eq_false hn, Bool.or_false]
      unfold vAt
      rw [if_pos hg]
    · rw [xw_other z]
  · rfl
theorem Bo.tr {a b e : xS} (h : Bo c a b) (g : Bo c b e) : Bo c a e := fun q => (h q).trans (g q)
theorem Bo.rf {a : xS} : Bo c a a := fun _ => rfl
theorem up_o {f : xS → Int32 → xS} (hf : ∀ u i, Bo c (f u i) u) : ∀ k u, Bo c (upN f k u) u := by
  intro k
  induction k with
  | zero => intro u; exact Bo.rf
  | succ k ih => intro u; rw [upN_s]; exact (hf _ _).tr (ih u)
theorem clP_o {p : Nat} (hc : c < 32) (hp : p < 16) (hn : c ≠ p) : Bo c (clP σ (nI p)) σ := by
  have hN : ∀ (u : xS) kd el, Bo c (nte u kd el (nI p)) u := fun u kd el => nte_o hc hp hn kd el
  have fL : ∀ u i, Bo c (ckLS (nI p) u i) u := fun u i => by unfold ckLS; split; exact hN _ _ _; exact Bo.rf
  have fC1 : ∀ u i, Bo c (ckC1 (nI p) u i) u := fun u i => by unfold ckC1; split; exact hN _ _ _; exact Bo.rf
  have fC : ∀ u i, Bo c (ckCS (nI p) u i) u := fun u i => by unfold ckCS; split; exact (hN _ _ _).tr (fC1 _ _); exact fC1 _ _
  have fM1 : ∀ u i, Bo c (ckM1 (nI p) u i) u := fun u i => by unfold ckM1; split; exact hN _ _ _; exact Bo.rf
  have fM2 : ∀ u i, Bo c (ckM2 (nI p) u i) u := fun u i => by unfold ckM2; split; exact hN _ _ _; exact Bo.rf
  have fM3 : ∀ u i, Bo c (ckM3 (nI p) u i) u := fun u i => by unfold ckM3; split; exact hN _ _ _; exact Bo.rf
  have fM : ∀ u i, Bo c (ckMS (nI p) u i) u := fun u i => by
    unfold ckMS
    split
    · unfold ckM0; exact (fM3 _ _).tr ((fM2 _ _).tr (fM1 _ _))
    · split
      · exact hN _ _ _
      · exact Bo.rf
  have fE : ∀ u i, Bo c (ckES (nI p) u i) u := fun u i => by unfold ckES; split; exact Bo.rf; exact hN _ _ _
  have fX : ∀ u i, Bo c (ckXS (nI p) u i) u := fun u i => by unfold ckXS; split; exact hN _ _ _; exact Bo.rf
  have h0 : Bo c (gts (look σ (nI p))) σ := fun q => by rw [gts_keep (by decide) (by decide), look_84]
  unfold clP
  exact (up_o fX _ _).tr ((up_o fE _ _).tr ((up_o fM _ _).tr ((up_o fC _ _).tr ((up_o fL _ _).tr h0))))
end CK

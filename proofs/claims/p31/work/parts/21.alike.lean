/-! Two states and two configurations alike: the view. -/
def El (n : Nat) (f g : Nat → Int32) : Prop := ∀ j, j < n → f j = g j
theorem vAt_El {n : Nat} {f g : Nat → Int32} (h : El n f g) : vAt n f = vAt n g := by
  funext i
  unfold vAt
  by_cases q : ¬ i < 0 ∧ ¬ nI n ≤ i
  · rw [if_pos q, if_pos q]
    obtain ⟨j, hj, rfl⟩ := nI_of q.1
    rw [nI_clamp hj]
    exact h j (Nat.lt_of_not_le (fun z => q.2 (nI_le z hj)))
  · rw [if_neg q, if_neg q]
theorem El.put {a n : Nat} {σ τ : xS} (h : El n (σ a) (τ a)) (i v : Int32) : El n (vPut σ a n i v a) (vPut τ a n i v a) := by
  intro j hj
  unfold vPut
  split
  · by_cases q : j = i.toNatClampNeg
    · rw [q, xw_at, xw_at]
    · rw [xw_other q, xw_other q]; exact h j hj
  · exact h j hj
def Eqc (τ σ : xS) : Prop := ∀ r, kpR r → τ r = σ r
theorem Eqc.tr {a b c : xS} (h : Eqc a b) (g : Eqc b c) : Eqc a c := fun r q => (h r q).trans (g r q)
theorem Eqc.sy {a b : xS} (h : Eqc a b) : Eqc b a := fun r q => (h r q).symm
theorem Eqc.rf {a : xS} : Eqc a a := fun _ _ => rfl
def Sx (σ τ : xS) : Prop := (∀ q, q ∈ [201, 202, 203, 204, 205] → σ q 0 = τ q 0) ∧ ∀ r, r ∈ [24, 26, 36, 38, 40, 42, 44, 46, 49, 51, 53, 55, 57, 59, 68] → σ r = τ r
def Cb (c d : Nat) (σ τ : xS) : Prop := ∀ r, r ∈ [15, 22, 34, 66] → ∀ j, bt (σ r j) c = bt (τ r j) d
/-- the static rows alike, the conditions alike at bit c of the one and bit d of the other -/
def St (c d : Nat) (σ τ : xS) : Prop := Sx σ τ ∧ Cb c d σ τ
theorem kp_q : ∀ q, q ∈ [201, 202, 203, 204, 205] → kpR q := by decide
theorem kp_r : ∀ q, q ∈ [24, 26, 36, 38, 40, 42, 44, 46, 49, 51, 53, 55, 57, 59, 68] → kpR q := by decide
theorem kp_c : ∀ q, q ∈ [15, 22, 34, 66] → kpR q := by decide
theorem St.of {c d : Nat} {σ τ σ' τ' : xS} (h : St c d σ τ) (h1 : Eqc σ' σ) (h2 : Eqc τ' τ) : St c d σ' τ' :=
  ⟨⟨fun q hq => by rw [h1 q (kp_q q hq), h2 q (kp_q q hq)]; exact h.1.1 q hq, fun r hr => by rw [h1 r (kp_r r hr), h2 r (kp_r r hr)]; exact h.1.2 r hr⟩, fun r hr j => by rw [h1 r (kp_c r hr), h2 r (kp_c r hr)]; exact h.2 r hr j⟩
theorem St.self (c : Nat) (σ : xS) : St c c σ σ := ⟨⟨fun _ _ => rfl, fun _ _ => rfl⟩, fun _ _ _ => rfl⟩
theorem bt_vAt {c d : Nat} (hc : c < 32) (hd : d < 32) {n : Nat} {f g : Nat → Int32} (h : ∀ j, bt (f j) c = bt (g j) d) (i : Int32) : bt (vAt n f i) c = bt (vAt n g i) d := by
  unfold vAt
  split
  · exact h _
  · rw [b_m1 c hc, b_m1 d hd]
section AL
variable {c d : Nat} {σ τ : xS}
theorem wT_al (h : St c d σ τ) (hc : c < 16) (hd : d < 16) (s i : Int32) : bt (wT σ s i) c = bt (wT τ s i) d := by
  have b15 : ∀ i, bt (vAt 8 (σ 15) i) c = bt (vAt 8 (τ 15) i) d := bt_vAt (by omega) (by omega) (h.2 15 (by decide))
  have b22 : ∀ i, bt (vAt 12 (σ 22) i) c = bt (vAt 12 (τ 22) i) d := bt_vAt (by omega) (by omega) (h.2 22 (by decide))
  have b34 : ∀ i, bt (vAt 24 (σ 34) i) c = bt (vAt 24 (τ 34) i) d := bt_vAt (by omega) (by omega) (h.2 34 (by decide))
  have b66 : ∀ i, bt (vAt 16 (σ 66) i) c = bt (vAt 16 (τ 66) i) d := bt_vAt (by omega) (by omega) (h.2 66 (by decide))
  have er : resM σ i = resM τ i := by unfold resM; rw [h.1.2 51 (by decide), h.1.2 68 (by decide)]
  unfold wT
  split
  · rw [h.1.2 24 (by decide), h.1.2 26 (by decide)]; simp only [b_and]; rw [b22, b15, b15]
  · split
    · rw [h.1.2 38 (by decide)]; simp only [b_and]; rw [b34, b15]
    · split
      · rw [er, h.1.2 38 (by decide)]; simp only [b_and]; rw [b66, b34, b15]
      · exact b15 i
theorem lfeI_al (h : St c d σ τ) (hc : c < 16) (hd : d < 16) (h1 : σ 206 0 = nI c) (h2 : τ 206 0 = nI d) (s : Int32) : lfeI σ s = lfeI τ s := by
  have e : σ (szQ s) 0 = τ (szQ s) 0 := by
    refine h.1.1 _ ?_
    unfold szQ
    split
    · decide
    · split
      · decide
      · split
        · decide
        · split <;> decide
  unfold lfeI
  rw [e, h1, h2]
  exact maskI_congr (fun i _ => by rw [isIn_bt (by omega), isIn_bt (by omega)]; exact wT_al h hc hd s _)
/-- the first k sets of the view -/
def Vl (c d k : Nat) (σ τ : xS) : Prop := St c d σ τ ∧ (σ 206 0 = nI c ∧ τ 206 0 = nI d) ∧ El k (σ 71) (τ 71)
theorem lfe_q (σ : xS) (s : Int32) : Eqc (lfe σ s) σ := fun r hr => lfe_keep hr.1 σ s
theorem Vl_step (hc : c < 16) (hd : d < 16) {k : Nat} (hk : k < 4) (h : Vl c d k σ τ) : Vl c d (k + 1) (lfe σ (nI k)) (lfe τ (nI k)) := by
  refine ⟨h.1.of (lfe_q _ _) (lfe_q _ _), ⟨by rw [lfe_keep (by decide)]; exact h.2.1.1, by rw [lfe_keep (by decide)]; exact h.2.1.2⟩, fun j hj => ?_⟩
  unfold lfe
  rw [vPut_n hk (by decide), vPut_n hk (by decide), lfeI_al h.1 hc hd h.2.1.1 h.2.1.2]
  by_cases q : j = k
  · rw [q, xw_at, xw_at]
  · rw [xw_other q, xw_other q]; exact h.2.2 j (by omega)
theorem Vl_all (hc : c < 16) (hd : d < 16) (h : St c d σ τ) : Vl c d 4 (lfe (lfe (lfe (lfe (xw σ 206 0 (nI c)) 0) 1) 2) 3) (lfe (lfe (lfe (lfe (xw τ 206 0 (nI d)) 0) 1) 2) 3) := by
  have k0 : Vl c d 0 (xw σ 206 0 (nI c)) (xw τ 206 0 (nI d)) := ⟨h.of (fun r hr => xw_ne _ _ _ hr.2.2.2.2.2.2.2.2.1) (fun r hr => xw_ne _ _ _ hr.2.2.2.2.2.2.2.2.1), ⟨xw_at _ _ _ _, xw_at _ _ _ _⟩, fun j hj => absurd hj (Nat.not_lt_zero j)⟩
  have k1 := Vl_step hc hd (k := 0) (by decide) k0
  have k2 := Vl_step hc hd (k := 1) (by decide) k1
  have k3 := Vl_step hc hd (k := 2) (by decide) k2
  exact Vl_step hc hd (k := 3) (by decide) k3
theorem Vl.of {k : Nat} {σ' τ' : xS} (h : Vl c d k σ τ) (h1 : ∀ r, (kpR r ∨ r = 71 ∨ r = 206) → σ' r = σ r) (h2 : ∀ r, (kpR r ∨ r = 71 ∨ r = 206) → τ' r = τ r) : Vl c d k σ' τ' := by
  refine ⟨h.1.of (fun r hr => h1 r (Or.inl hr)) (fun r hr => h2 r (Or.inl hr)), ?_, ?_⟩
  · rw [h1 206 (by decide), h2 206 (by decide)]; exact h.2.1
  · rw [h1 71 (by decide), h2 71 (by decide)]; exact h.2.2
theorem Vl.th (h : Vl c d 4 σ τ) : isThB σ = isThB τ := by
  funext s i; unfold isThB; rw [vAt_El h.2.2]
theorem down2 {f g : xS → Int32 → xS} (R : xS → xS → Prop) (hs : ∀ u w i, R u w → R (f u i) (g w i)) : ∀ k u w, R u w → R (downN f k u) (downN g k w) := by
  intro k
  induction k with
  | zero => intro u w h; exact h
  | succ k ih => intro u w h; exact ih _ _ (hs _ _ _ h)
def Vp (c d : Nat) (σ τ : xS) : Prop := Vl c d 4 σ τ ∧ El 8 (σ 73) (τ 73)
theorem Vp_lfp (h : Vl c d 4 σ τ) : Vp c d (lfp σ) (lfp τ) := by
  have e : (σ 202 0).toNatClampNeg = (τ 202 0).toNatClampNeg := by rw [h.1.1.1 202 (by decide)]
  unfold lfp
  rw [e]
  refine down2 (Vp c d) (fun u w i q => ?_) _ _ _ ⟨h.of (fun r hr => vFill_ne (by rcases hr with g | g | g; exact g.2.1; omega; omega)) (fun r hr => vFill_ne (by rcases hr with g | g | g; exact g.2.1; omega; omega)), fun j hj => by rw [vFill_at hj, vFill_at hj]⟩
  unfold lpStep
  rw [q.1.th, q.1.1.1.2 24 (by decide), q.1.1.1.2 26 (by decide)]
  split
  · exact ⟨q.1.of (fun r hr => vPut_ne (by rcases hr with g | g | g; exact g.2.1; omega; omega)) (fun r hr => vPut_ne (by rcases hr with g | g | g; exact g.2.1; omega; omega)), q.2.put _ _⟩
  · exact q
def Va (c d : Nat) (σ τ : xS) : Prop := Vp c d σ τ ∧ El 8 (σ 75) (τ 75)
theorem ancN_al {P Q : Nat → Int32} (h : vAt 8 P = vAt 8 Q) : ∀ k s a, ancN P k s a = ancN Q k s a := by
  intro k
  induction k with
  | zero => intro s a; rfl
  | succ k ih => intro s a; rw [ancN, ancN, ih, h]
theorem Va_lfa (h : Vp c d σ τ) : Va c d (lfa σ) (lfa τ) := by
  unfold lfa
  have key := up2 (f := laStep) (g := laStep) (τ := σ) (ρ := τ) (fun k u w => Vp c d u w ∧ El k (u 75) (w 75)) 8 ⟨h, fun j hj => absurd hj (Nat.not_lt_zero j)⟩ (fun k hk u w q => ?_) 8 (Nat.le_refl _)
  · exact key
  · have e := vAt_El q.1.2
    unfold laStep
    rw [ancN_al e, e]
    refine ⟨⟨q.1.1.of (fun r hr => vPut_ne (by rcases hr with g | g | g; exact g.2.2.1; omega; omega)) (fun r hr => vPut_ne (by rcases hr with g | g | g; exact g.2.2.1; omega; omega)), ?_⟩, fun j hj => ?_⟩
    · rw [vPut_ne (by decide), vPut_ne (by decide)]; exact q.1.2
    · rw [vPut_n hk (by decide), vPut_n hk (by decide)]
      by_cases z : j = k
      · rw [z, xw_at, xw_at]
      · rw [xw_other z, xw_other z]; exact q.2 j (by omega)
/-- the views alike -/
def Vk (c d : Nat) (σ τ : xS) : Prop := Va c d σ τ ∧ El 160 (σ 77) (τ 77)
theorem Va.of77 {σ' τ' : xS} (h : Va c d σ τ) (h1 : ∀ r, r ≠ 77 → σ' r = σ r) (h2 : ∀ r, r ≠ 77 → τ' r = τ r) : Va c d σ' τ' := by
  refine ⟨⟨h.1.1.of (fun r hr => h1 r (by rcases hr with g | g | g; exact g.2.2.2.1; omega; omega)) (fun r hr => h2 r (by rcases hr with g | g | g; exact g.2.2.2.1; omega; omega)), ?_⟩, ?_⟩
  · rw [h1 73 (by decide), h2 73 (by decide)]; exact h.1.2
  · rw [h1 75 (by decide), h2 75 (by decide)]; exact h.2
theorem Vk_lfm (h : Va c d σ τ) : Vk c d (lfm σ) (lfm τ) := by
  have e : (σ 203 0).toNatClampNeg = (τ 203 0).toNatClampNeg := by rw [h.1.1.1.1.1 203 (by decide)]
  unfold lfm
  rw [e]
  refine down2 (Vk c d) (fun u w i q => ?_) _ _ _ ⟨h.of77 (fun r hr => vFill_ne hr) (fun r hr => vFill_ne hr), fun j hj => by rw [vFill_at hj, vFill_at hj]⟩
  unfold lmStep
  have s := q.1.1.1.1.1.2
  rw [q.1.1.1.th, s 36 (by decide), s 38 (by decide), s 40 (by decide)]
  split
  · exact ⟨q.1.of77 (fun r hr => vPut_ne hr) (fun r hr => vPut_ne hr), q.2.put _ _⟩
  · exact q
theorem look_Vk (h : St c d σ τ) (hc : c < 16) (hd : d < 16) : Vk c d (look σ (nI c)) (look τ (nI d)) := Vk_lfm (Va_lfa (Vp_lfp (Vl_all hc hd h)))
theorem Vk.of {σ' τ' : xS} (h : Vk c d σ τ) (h1 : ∀ r, r ≠ 79 → r ≠ 81 → r ≠ 84 → r ≠ 86 → r ≠ 207 → σ' r = σ r) (h2 : ∀ r, r ≠ 79 → r ≠ 81 → r ≠ 84 → r ≠ 86 → r ≠ 207 → τ' r = τ r) : Vk c d σ' τ' := by
  have w : ∀ r, (kpR r ∨ r = 71 ∨ r = 206) → r ≠ 79 ∧ r ≠ 81 ∧ r ≠ 84 ∧ r ≠ 86 ∧ r ≠ 207 := by
    intro r hr
    rcases hr with g | g | g
    · exact ⟨g.2.2.2.2.1, g.2.2.2.2.2.1, g.2.2.2.2.2.2.1, g.2.2.2.2.2.2.2.1, g.2.2.2.2.2.2.2.2.2⟩
    · omega
    · omega
  refine ⟨⟨⟨h.1.1.1.of (fun r hr => h1 r (w r hr).1 (w r hr).2.1 (w r hr).2.2.1 (w r hr).2.2.2.1 (w r hr).2.2.2.2) (fun r hr => h2 r (w r hr).1 (w r hr).2.1 (w r hr).2.2.1 (w r hr).2.2.2.1 (w r hr).2.2.2.2), ?_⟩, ?_⟩, ?_⟩
  · rw [h1 73 (by decide) (by decide) (by decide) (by decide) (by decide), h2 73 (by decide) (by decide) (by decide) (by decide) (by decide)]; exact h.1.1.2
  · rw [h1 75 (by decide) (by decide) (by decide) (by decide) (by decide), h2 75 (by decide) (by decide) (by decide) (by decide) (by decide)]; exact h.1.2
  · rw [h1 77 (by decide) (by decide) (by decide) (by decide) (by decide), h2 77 (by decide) (by decide) (by decide) (by decide) (by decide)]; exact h.2
theorem Vk.st (h : Vk c d σ τ) : St c d σ τ := h.1.1.1.1
theorem Vk.s (h : Vk c d σ τ) : ∀ r, r ∈ [24, 26, 36, 38, 40, 42, 44, 46, 49, 51, 53, 55, 57, 59, 68] → σ r = τ r := h.1.1.1.1.1.2
theorem Vk.z (h : Vk c d σ τ) : ∀ r, r ∈ [201, 202, 203, 204, 205] → σ r 0 = τ r 0 := h.1.1.1.1.1.1
theorem Vk.c1 (h : Vk c d σ τ) : σ 206 0 = nI c := h.1.1.1.2.1.1
theorem Vk.c2 (h : Vk c d σ τ) : τ 206 0 = nI d := h.1.1.1.2.1.2
theorem Vk.th (h : Vk c d σ τ) : isThB σ = isThB τ := h.1.1.1.th
theorem Vk.pa (h : Vk c d σ τ) : vAt 8 (σ 73) = vAt 8 (τ 73) := vAt_El h.1.1.2
theorem Vk.un (h : Vk c d σ τ) : isUnB σ = isUnB τ := by
  funext a b; unfold isUnB; rw [vAt_El h.1.2]
theorem Vk.lk (h : Vk c d σ τ) : lookU σ = lookU τ := by
  have e : ∀ n t k a, lookN σ n t k a = lookN τ n t k a := by
    intro n t k
    induction k with
    | zero => intro a; rfl
    | succ k ih => intro a; rw [lookN, lookN, ih, h.pa, vAt_El h.2]
  funext o n t; exact e n t 8 o
theorem Vk.fit (h : Vk c d σ τ) : fitB σ = fitB τ := by
  funext t o; unfold fitB; rw [h.un]
theorem Vk.miss (h : Vk c d σ τ) : missB σ = missB τ := by
  funext t; unfold missB; rw [h.th]
theorem Vk.rep (h : Vk c d σ τ) : isRep σ = isRep τ := by
  funext i; unfold isRep; rw [vAt_El h.2, h.s 36 (by decide), h.s 38 (by decide), h.s 40 (by decide)]
theorem Vk.par (h : Vk c d σ τ) : mPar σ = mPar τ := by
  funext i x; unfold mPar; rw [h.s 44 (by decide), h.s 46 (by decide)]
theorem Vk.cT (h : Vk c d σ τ) (hc : c < 16) (hd : d < 16) (s i : Int32) : cTr σ s i = cTr τ s i := by
  unfold cTr
  rw [h.c1, h.c2, isIn_bt (by omega), isIn_bt (by omega)]
  split
  · exact bt_vAt (by omega) (by omega) (h.st.2 22 (by decide)) i
  · exact bt_vAt (by omega) (by omega) (h.st.2 34 (by decide)) i
theorem Vk.cn (h : Vk c d σ τ) : cntL σ = cntL τ := by
  have e : ∀ o k, cntN σ o k = cntN τ o k := by
    intro o k
    induction k with
    | zero => rfl
    | succ k ih => rw [cntN, cntN, ih, h.th, h.s 24 (by decide)]
  funext o
  unfold cntL
  rw [e, h.z 202 (by decide)]
theorem Vk.unl (h : Vk c d σ τ) : unlI σ = unlI τ := by
  funext m
  unfold unlI
  rw [h.pa, h.lk, h.par, h.fit, h.s 38 (by decide), h.s 40 (by decide), h.s 42 (by decide)]
end AL

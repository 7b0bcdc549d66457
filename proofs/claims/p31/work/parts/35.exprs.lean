/-! The numbers of an expression. -/
theorem xw_45 (σ : xS) (r p q : Nat) (a b c : Int32) (h : p ≠ q) : xw (xw (xw σ r p a) r q b) r p c = xw (xw σ r p c) r q b := by
  funext i j
  unfold xw
  by_cases h1 : i = r ∧ j = p
  · have h2 : ¬ (i = r ∧ j = q) := fun z => h (h1.2.symm.trans z.2)
    simp only [if_pos h1, if_neg h2]
  · by_cases h2 : i = r ∧ j = q
    · simp only [if_neg h1, if_pos h2]
    · simp only [if_neg h1, if_neg h2]
theorem xw_tw (σ : xS) (r p : Nat) (a b : Int32) : xw (xw σ r p a) r p b = xw σ r p b := by
  funext i j
  unfold xw
  by_cases h1 : i = r ∧ j = p
  · simp only [if_pos h1]
  · simp only [if_neg h1]
theorem EV_of {nc nm : Nat} {M F : Nat → Int32} {ne mt f q : Nat} {ev mv dv ov a4 a5 : Int32} (hf6 : f < 6) (hqa : 0 < q → ¬ M (7 * mt + 4) = -1) (hqb : 1 < q → ¬ M (7 * mt + 5) = -1) (hmv : ∃ m, m < nm ∧ mv = nI m ∧ M (7 * m + 3) = 1 ∧ (¬ 3 < f → m = mt) ∧ (3 < f → ∃ j, j < ne ∧ ev = nI j ∧ F (6 * j + 1) = mv)) (hdv : (f = 0 → vp_in dv nc) ∧ (f = 3 → (dv = 0 ∧ 0 < q) ∨ (dv = 1 ∧ 1 < q)) ∧ (3 < f → vp_in dv 10)) (hov : (3 < f → ov = ev) ∧ (¬ 3 < f → ov = -1)) (p4 : prt F ne a4 mv) (p5 : prt F ne a5 mv) (h45 : a4 = -1 → a5 = -1) (hn5 : ¬ f = 5 → a4 = -1 ∧ a5 = -1) (hne : ne < 2 ^ 31) : EV nc nm M F ne (nI f) mv dv ov a4 a5 := by
  obtain ⟨m, m1, m2, m3, m4, m5⟩ := hmv
  have ff : ∀ j, j < 6 → (nI f = nI j ↔ f = j) := fun j hj => nI_eq (by omega) (by omega)
  have f45 : (nI f = 4 ∨ nI f = 5) ↔ 3 < f := by
    constructor
    · intro h
      rcases h with h | h
      · have := (ff 4 (by decide)).mp h; omega
      · have := (ff 5 (by decide)).mp h; omega
    · intro h
      rcases (show f = 4 ∨ f = 5 by omega) with e | e
      · exact Or.inl (by rw [e]; rfl)
      · exact Or.inr (by rw [e]; rfl)
  refine ⟨⟨m, m1, m2, m3, fun h => ?_⟩, ?_, fun h => hdv.1 ((ff 0 (by decide)).mp h), fun h => ?_, fun h => hov.2 (fun z => h (f45.mpr z)), ?_, p4, p5, h45, fun h => hn5 (fun z => h (by rw [z]; rfl))⟩
  · have f3 := (ff 3 (by decide)).mp h
    have e := m4 (by omega)
    rw [e]
    rcases hdv.2.1 f3 with ⟨d1, d2⟩ | ⟨d1, d2⟩
    · exact Or.inl ⟨d1, hqa d2⟩
    · exact Or.inr ⟨d1, hqb d2⟩
  · rcases (show f = 0 ∨ f = 1 ∨ f = 2 ∨ f = 3 ∨ f = 4 ∨ f = 5 by omega) with e | e | e | e | e | e
    · exact Or.inl (Or.inl (by rw [e]; rfl))
    · exact Or.inl (Or.inr (Or.inl (by rw [e]; rfl)))
    · exact Or.inl (Or.inr (Or.inr (Or.inl (by rw [e]; rfl))))
    · exact Or.inl (Or.inr (Or.inr (Or.inr (by rw [e]; rfl))))
    · exact Or.inr (Or.inl (by rw [e]; rfl))
    · exact Or.inr (Or.inr (by rw [e]; rfl))
  · have h3 := f45.mp h
    obtain ⟨j, j1, j2, j3⟩ := m5 h3
    exact ⟨hdv.2.2 h3, by rw [hov.1 h3, j2]; exact nI_neg1 (by omega)⟩
  · by_cases h3 : 3 < f
    · obtain ⟨j, j1, j2, j3⟩ := m5 h3
      exact Or.inr ⟨j, j1, by rw [hov.1 h3, j2], j3⟩
    · exact Or.inl (hov.2 h3)
def six (σ : xS) (n : Nat) (e0 e1 e2 e3 e4 e5 : Int32) : xS := xw (xw (xw (xw (xw (xw σ 92 (6 * n) e0) 92 (6 * n + 1) e1) 92 (6 * n + 2) e2) 92 (6 * n + 3) e3) 92 (6 * n + 4) e4) 92 (6 * n + 5) e5
theorem six_ne (σ : xS) (n : Nat) (e0 e1 e2 e3 e4 e5 : Int32) {r : Nat} (h : r ≠ 92) : six σ n e0 e1 e2 e3 e4 e5 r = σ r := by
  unfold six
  rw [xw_ne (r := 92) _ _ _ h, xw_ne (r := 92) _ _ _ h, xw_ne (r := 92) _ _ _ h, xw_ne (r := 92) _ _ _ h, xw_ne (r := 92) _ _ _ h, xw_ne (r := 92) _ _ _ h]
theorem six_dtl (σ : xS) (n : Nat) (e0 e1 e2 e3 e4 e5 : Int32) : dtl (six σ n e0 e1 e2 e3 e4 e5 92) n = if e0 = 1 ∨ e0 = 2 then -1 else e2 := by
  have h0 : six σ n e0 e1 e2 e3 e4 e5 92 (6 * n) = e0 := by
    unfold six
    rw [xw_other (by omega), xw_other (by omega), xw_other (by omega), xw_other (by omega), xw_other (by omega), xw_at]
  have h2 : six σ n e0 e1 e2 e3 e4 e5 92 (6 * n + 2) = e2 := by
    unfold six
    rw [xw_other (by omega), xw_other (by omega), xw_other (by omega), xw_at]
  unfold dtl
  rw [h0, h2]
theorem BI.e1 {n nr nc nl nm nx : Nat} {σ u : xS} {e0 e1 e2 e3 e4 e5 k m d : Int32} (h : BI nr nc nl nm n nx σ) (hn : n < 14) (hE : EV nc nm (σ 91) (σ 92) n e0 e1 e2 e3 e4 e5) (h3 : e3 = -1) (h4 : e4 = -1) (h5 : e5 = -1) (eu : u = six σ n e0 e1 e2 e3 e4 e5) (hk : k = e0) (hm : m = e1) (hd : d = if e0 = 1 ∨ e0 = 2 then -1 else e2) : BI nr nc nl nm (n + 1) nx (eApp u k m d) := by
  have B := BI.expr1 h hn hE h3 h4 h5
  have ed := six_dtl σ n e0 e1 e2 e3 e4 e5
  rw [eu, hk, hm, hd, ← ed]
  exact B
theorem BI.e2 {n nr nc nl nm nx : Nat} {σ u : xS} {e0 e1 e2 e3 e4 e5 k m d o g s : Int32} (h : BI nr nc nl nm n nx σ) (hn : n < 14) (hE : EV nc nm (σ 91) (σ 92) n e0 e1 e2 e3 e4 e5) (eu : u = six σ n e0 e1 e2 e3 e4 e5) (hk : k = e0) (hm : m = e1) (hd : d = if e0 = 1 ∨ e0 = 2 then -1 else e2) (ho : o = e3) (hg : g = e4) (hs : s = e5) : BI nr nc nl nm (n + 1) nx (eSet (eApp u k m d) (u 205 0) o g s) := by
  have B := BI.expr2 h hn hE
  have ed := six_dtl σ n e0 e1 e2 e3 e4 e5
  rw [eu, hk, hm, hd, ho, hg, hs, ← ed]
  exact B
theorem six_1 (σ : xS) (n : Nat) (e0 e1 e2 e3 e4 e5 : Int32) : six σ n e0 e1 e2 e3 e4 e5 92 (6 * n + 1) = e1 := by
  unfold six
  rw [xw_other (by omega), xw_other (by omega), xw_other (by omega), xw_other (by omega), xw_at]
theorem six_2 (σ : xS) (n : Nat) (e0 e1 e2 e3 e4 e5 : Int32) : six σ n e0 e1 e2 e3 e4 e5 92 (6 * n + 2) = e2 := by
  unfold six
  rw [xw_other (by omega), xw_other (by omega), xw_other (by omega), xw_at]
theorem six_4 (σ : xS) (n : Nat) (e0 e1 e2 e3 e4 e5 : Int32) : six σ n e0 e1 e2 e3 e4 e5 92 (6 * n + 4) = e4 := by
  unfold six
  rw [xw_other (by omega), xw_at]
theorem six_5 (σ : xS) (n : Nat) (e0 e1 e2 e3 e4 e5 : Int32) : six σ n e0 e1 e2 e3 e4 e5 92 (6 * n + 5) = e5 := by
  unfold six
  rw [xw_at]

/-! The culprit. -/
def isTrB (x c : Int32) : Bool := decide (x / 16 &&& (c ^^^ (-1)) = 0) && decide ((x - x / 16 * 16) &&& c = 0)
theorem isTr_bt (x : Int32) {c : Nat} (hc : c < 16) : isTrB x (nI c) = bt (cfgI (x / 16) (x - x / 16 * 16)) c := by
  rw [cfg_bt hc]; rfl
def cMet (al rt o f : Int32) : Prop := ¬ cfgI o f &&& al = 0 ∧ cfgI o f &&& al &&& rt = 0
def cOk (al rt : Int32) (b : Int32 × Int32) : Prop := b = (-1, 9) ∨ ∃ o f, o < 16 ∧ f < 16 ∧ b.1 = nI (16 * o + f) ∧ cMet al rt (nI o) (nI f)
theorem cul_n (o f : Nat) : (16 : Int32) * nI o + nI f = nI (16 * o + f) := by
  show nI 16 * nI o + nI f = _
  rw [pk_mul, nI_add]
theorem cOk.n {al rt : Int32} {b : Int32 × Int32} (h : cOk al rt b) : b = (-1, 9) ∨ ¬ b.1 = -1 := by
  rcases h with h | ⟨o, f, ho, hf, e, -⟩
  · exact Or.inl h
  · exact Or.inr (by rw [e]; exact nI_neg1 (by omega))
theorem culS_ok {al rt : Int32} {o f : Nat} (ho : o < 16) (hf : f < 16) {b : Int32 × Int32} (h : cOk al rt b) : cOk al rt (culS al rt (nI o) (nI f) b) := by
  unfold culS
  split
  · rename_i q
    exact Or.inr ⟨o, f, ho, hf, cul_n o f, q.1, q.2.1⟩
  · exact h
theorem culS_stay {al rt : Int32} {o f : Nat} (ho : o < 16) (hf : f < 16) {b : Int32 × Int32} (h : ¬ b.1 = -1) : ¬ (culS al rt (nI o) (nI f) b).1 = -1 := by
  unfold culS
  split
  · show ¬ (16 : Int32) * nI o + nI f = -1
    rw [cul_n]; exact nI_neg1 (by omega)
  · exact h
theorem culS_hit {al rt : Int32} {o f : Nat} (ho : o < 16) (hf : f < 16) {b : Int32 × Int32} (h : cOk al rt b) (hm : cMet al rt (nI o) (nI f)) (h9 : ¬ 9 ≤ popc (nI o) + popc (nI f)) : ¬ (culS al rt (nI o) (nI f) b).1 = -1 := by
  rcases h.n with rfl | h
  · unfold culS
    rw [if_pos ⟨hm.1, hm.2, h9⟩]
    show ¬ (16 : Int32) * nI o + nI f = -1
    rw [cul_n]; exact nI_neg1 (by omega)
  · exact culS_stay ho hf h
theorem culI_all {al rt : Int32} {o : Nat} (ho : o < 16) {b : Int32 × Int32} (h : cOk al rt b) : ∀ k, k ≤ 16 → cOk al rt (culI al rt (nI o) k b) ∧ (¬ b.1 = -1 → ¬ (culI al rt (nI o) k b).1 = -1) ∧ ∀ f, f < k → cMet al rt (nI o) (nI f) → ¬ 9 ≤ popc (nI o) + popc (nI f) → ¬ (culI al rt (nI o) k b).1 = -1 := by
  intro k
  induction k with
  | zero => intro _; exact ⟨h, id, fun f hf => absurd hf (Nat.not_lt_zero f)⟩
  | succ k ih =>
    intro hk
    obtain ⟨i1, i2, i3⟩ := ih (by omega)
    rw [culI]
    refine ⟨culS_ok ho (by omega) i1, fun q => culS_stay ho (by omega) (i2 q), fun f hf hm h9 => ?_⟩
    by_cases e : f = k
    · subst e; exact culS_hit ho (by omega) i1 hm h9
    · exact culS_stay ho (by omega) (i3 f (by omega) hm h9)
theorem culO_all (al rt : Int32) : ∀ k, k ≤ 16 → cOk al rt (culO al rt k) ∧ ∀ o f, o < k → f < 16 → cMet al rt (nI o) (nI f) → ¬ 9 ≤ popc (nI o) + popc (nI f) → ¬ (culO al rt k).1 = -1 := by
  intro k
  induction k with
  | zero => intro _; exact ⟨Or.inl rfl, fun o f ho => absurd ho (Nat.not_lt_zero o)⟩
  | succ k ih =>
    intro hk
    obtain ⟨i1, i2⟩ := ih (by omega)
    have I := culI_all (al := al) (rt := rt) (o := k) (by omega) i1 16 (Nat.le_refl _)
    rw [culO]
    refine ⟨I.1, fun o f ho hf hm h9 => ?_⟩
    by_cases e : o = k
    · subst e; exact I.2.2 f hf hm h9
    · exact I.2.1 (i2 o f (by omega) hf hm h9)
theorem cfg_one : ∀ c, c < 16 → ∀ p, p < 16 → bt (cfgI (nI c) (nI (15 - c))) p = decide (p = c) := by decide +kernel
theorem popc_one : ∀ c, c < 16 → ¬ 9 ≤ popc (nI c) + popc (nI (15 - c)) := by decide +kernel
theorem bt_ex {x : Int32} (h : ¬ x = 0) : ∃ i, i < 32 ∧ bt x i = true := by
  refine Classical.byContradiction (fun q => h (b_ext (fun i hi => ?_)))
  rw [b_0]
  cases e : bt x i with
  | false => rfl
  | true => exact absurd ⟨i, hi, e⟩ q
theorem culp_neg {σ : xS} (h : culp σ < 0) : rgt σ = allI σ := by
  have I := culO_all (allI σ) (rgt σ) 16 (Nat.le_refl _)
  have h1 : (culO (allI σ) (rgt σ) 16).1 = -1 := by
    rcases I.1 with e | ⟨o, f, ho, hf, e, -⟩
    · rw [e]
    · exfalso
      unfold culp at h
      rw [e] at h
      exact nI_pos (by omega) h
  refine b_ext (fun i hi => ?_)
  by_cases g : i < 16
  · have rb := rgt_bt σ hi
    cases ea : bt (allI σ) i with
    | false => rw [rb, ea]; rfl
    | true =>
      cases er : bt (rgt σ) i with
      | true => rfl
      | false =>
        exfalso
        refine I.2 i (15 - i) g (by omega) ⟨fun z => ?_, b_ext (fun p hp => ?_)⟩ (popc_one i g) h1
        · have := congrArg (fun z => bt z i) z
          simp only [b_and, b_0, cfg_one i g i g, ea] at this
          simp at this
        · rw [b_and, b_and, b_0]
          by_cases gp : p < 16
          · rw [cfg_one i g p gp]
            by_cases e : p = i
            · rw [e, er, Bool.and_false]
            · rw [decide_eq_false e]; rfl
          · rw [cfg_big (by omega)]; rfl
  · rw [rgt_bt σ hi, allI_bt hi, decide_eq_false g]; rfl
theorem culp_pos {σ : xS} (h : ¬ culp σ < 0) : (∃ c, c < 16 ∧ bt (allI σ) c = true ∧ isTrB (culp σ) (nI c) = true) ∧ ∀ c, c < 16 → bt (allI σ) c = true → isTrB (culp σ) (nI c) = true → 0 < bc (Er σ) c 600 := by
  have I := culO_all (allI σ) (rgt σ) 16 (Nat.le_refl _)
  rcases I.1 with e | ⟨o, f, ho, hf, e, m1, m2⟩
  · exfalso
    refine h ?_
    unfold culp; rw [e]; decide
  · have ec : culp σ = nI (16 * o + f) := e
    have d1 : nI (16 * o + f) / 16 = nI o := by
      have := pk_div (a := 16 * o + f) (d := 16) (by omega) (by decide) (by decide)
      rw [show (16 * o + f) / 16 = o by omega] at this; exact this
    have d2 : nI (16 * o + f) - nI (16 * o + f) / 16 * 16 = nI f := by
      have := pk_rem (a := 16 * o + f) (d := 16) (by omega) (by decide) (by decide)
      rw [show (16 * o + f) % 16 = f by omega] at this; exact this
    have tr : ∀ c, c < 16 → isTrB (culp σ) (nI c) = bt (cfgI (nI o) (nI f)) c := fun c hc => by
      rw [isTr_bt _ hc, ec, d2, d1]
    refine ⟨?_, fun c hc h1 h2 => ?_⟩
    · obtain ⟨i, hi, hb⟩ := bt_ex m1
      rw [b_and, Bool.and_eq_true] at hb
      have g : i < 16 := by
        rcases Nat.lt_or_ge i 16 with g | g
        · exact g
        · have := hb.1; rw [cfg_big g] at this; exact Bool.noConfusion this
      exact ⟨i, g, hb.2, by rw [tr i g]; exact hb.1⟩
    · rw [tr c hc] at h2
      have m := congrArg (fun z => bt z c) m2
      simp only [b_and, b_0, h1, h2, Bool.true_and] at m
      rw [rgt_bt σ (by omega), h1, Bool.true_and] at m
      cases z : decide (0 < bc (Er σ) c 600) with
      | true => exact of_decide_eq_true z
      | false => rw [z] at m; exact Bool.noConfusion m

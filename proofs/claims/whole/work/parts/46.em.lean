/-! What the law's cases want: the reference's arrays behind the class's calls. -/
theorem mV_E {τ σ : xS} (h : Eqm τ σ) (g : mV σ) : mV τ := mV_of (fun r hr => h r (by unfold mRl; omega)) g
theorem Em_w {τ σ : xS} {a j : Nat} {x : Int32} (h : Eqm τ σ) (ha : ¬ mRl a) : Eqm (xw τ a j x) σ := fun r hr => by
  have hne : r ≠ a := fun e => ha (by rw [← e]; exact hr)
  rw [xw_ne _ _ _ hne]; exact h r hr
theorem Em_p {τ σ : xS} {a n : Nat} {i v : Int32} (h : Eqm τ σ) (ha : ¬ mRl a) : Eqm (vPut τ a n i v) σ := fun r hr => by
  have hne : r ≠ a := fun e => ha (by rw [← e]; exact hr)
  rw [vPut_ne hne]; exact h r hr
theorem Em_c {τ σ : xS} {b n : Nat} {i on off : Int32} (h : Eqm τ σ) (h1 : ¬ mRl (b + 2)) (h2 : ¬ mRl (b + 4)) (h3 : ¬ mRl (b + 6)) : Eqm (cPut τ b n i on off) σ := Em_p (Em_p (Em_p h h1) h2) h3
theorem Em_a {τ σ : xS} {b n q : Nat} {on off : Int32} (h : Eqm τ σ) (h0 : ¬ mRl q) (h1 : ¬ mRl (b + 2)) (h2 : ¬ mRl (b + 4)) (h3 : ¬ mRl (b + 6)) : Eqm (cApp τ b n q on off) σ := Em_c (Em_w h h0) h1 h2 h3
theorem Em_es {τ σ : xS} {i a b c : Int32} (h : Eqm τ σ) : Eqm (eSet τ i a b c) σ := Em_p (Em_p (Em_p h (by decide)) (by decide)) (by decide)
theorem Em_ea {τ σ : xS} {a b c : Int32} (h : Eqm τ σ) : Eqm (eApp τ a b c) σ := Em_es (Em_p (Em_p (Em_p (Em_w h (by decide)) (by decide)) (by decide)) (by decide))
section EM
variable {σ : xS}
theorem em_rf : Eqm σ σ := Eqm_rf σ
theorem em_addRule {k f g : Int32} : Eqm (rApp σ k f g) σ := Em_w (Em_p (Em_p (Em_p (Eqm_rf σ) (by decide)) (by decide)) (by decide)) (by decide)
theorem em_dropRule {x : Int32} : Eqm (xw σ 200 0 x) σ := Em_w (Eqm_rf σ) (by decide)
theorem em_dropResult {x : Int32} : Eqm (xw σ 204 0 x) σ := Em_w (Eqm_rf σ) (by decide)
theorem em_addClass {on off : Int32} : Eqm (cApp σ 9 8 201 on off) σ := Em_a (Eqm_rf σ) (by decide) (by decide) (by decide) (by decide)
theorem em_addLink {o q on off x y : Int32} : Eqm (vPut (vPut (cApp σ 16 12 202 on off) 24 12 x o) 26 12 y q) σ := Em_p (Em_p (Em_a (Eqm_rf σ) (by decide) (by decide) (by decide) (by decide)) (by decide)) (by decide)
theorem em_addResult {on off x y : Int32} : Eqm (vPut (cApp σ 60 16 204 on off) 68 16 y x) σ := Em_p (Em_a (Eqm_rf σ) (by decide) (by decide) (by decide) (by decide)) (by decide)
theorem em_mem {b o nm t f g on off x : Int32} : Eqm (mTyp (mApp σ b o nm on off) x t f g) σ := Em_p (Em_p (Em_p (Em_p (Em_p (Em_p (Em_a (Eqm_rf σ) (by decide) (by decide) (by decide) (by decide)) (by decide)) (by decide)) (by decide)) (by decide)) (by decide)) (by decide)
theorem em_addField {o nm t on off x : Int32} : Eqm (mTyp (mApp σ 0 o nm on off) x t (-1) (-1)) σ := em_mem
theorem em_addMethod {o nm t f g on off x : Int32} : Eqm (mTyp (mApp σ 1 o nm on off) x t f g) σ := em_mem
theorem em_addNew {a b : Int32} : Eqm (eApp σ 0 a b) σ := Em_ea (Eqm_rf σ)
theorem em_addPlain {a b c : Int32} : Eqm (eApp σ a b c) σ := Em_ea (Eqm_rf σ)
theorem em_addArgument {a b : Int32} : Eqm (eApp σ 3 a b) σ := Em_ea (Eqm_rf σ)
theorem em_addFieldOf {a b x c d e : Int32} : Eqm (eSet (eApp σ 4 a b) x c d e) σ := Em_es (Em_ea (Eqm_rf σ))
theorem em_addCall {a b x c d e : Int32} : Eqm (eSet (eApp σ 5 a b) x c d e) σ := Em_es (Em_ea (Eqm_rf σ))
theorem em_setCondition {t i on off : Int32} : Eqm (cPut σ (setQ t) (setC t) i on off) σ := by
  have h : setQ t = 9 ∨ setQ t = 16 ∨ setQ t = 28 ∨ setQ t = 60 := by
    unfold setQ
    split
    · exact Or.inl rfl
    · split
      · exact Or.inr (Or.inl rfl)
      · split
        · exact Or.inr (Or.inr (Or.inl rfl))
        · exact Or.inr (Or.inr (Or.inr rfl))
  refine Em_c (Eqm_rf σ) ?_ ?_ ?_ <;> (rcases h with e | e | e | e <;> (rw [e]; decide))
theorem em_count : Eqm σ σ := Eqm_rf σ
theorem em_presence : Eqm σ σ := Eqm_rf σ
theorem em_parent {c : Int32} : Eqm (look σ c) σ := (look_q σ c).m
theorem em_isBelow {c : Int32} : Eqm (look σ c) σ := (look_q σ c).m
theorem em_find {c : Int32} : Eqm (look σ c) σ := (look_q σ c).m
theorem em_typeOf {c : Int32} : Eqm (gts (look σ c)) σ := (gts_q (look_q σ c)).m
theorem em_insA : Eqm (insA σ) σ := (insA_q (Eqc_rf σ)).m
theorem em_error : Eqm (insA σ) σ := em_insA
theorem em_errorsIn : Eqm (insA σ) σ := em_insA
end EM
theorem cmp_ok : ∀ a, a < 17 → ∀ b, b < 17 → b = 0 ∨ Op.cmpValue (FP.dcmp (FP.ddiv (FP.i2d (nI a)) (FP.i2d (nI b))) (FP.ddiv (FP.i2d (nI a)) (FP.i2d (nI b)))) .l = 0 := by decide +kernel
theorem share_cmp {σ : xS} (g : Sm σ) : Op.cmpValue (FP.dcmp (shr1 (insA σ)) (shr1 (insA σ))) .l = 0 := by
  have P := g.1
  obtain ⟨-, -, R, -⟩ := know g (insA_q (Eqc_rf σ))
  obtain ⟨s1, a, ha, ea⟩ := share_eq P (Eqc_rf σ) R
  obtain ⟨b, hb, eb⟩ := popc_all σ
  rw [← (st_share g).1]
  unfold shr0
  rw [allI_eq P, s1]
  by_cases h : popc (mAll σ) = 0
  · rw [if_pos h]; decide +kernel
  · rw [if_neg h, ea, eb]
    rcases cmp_ok a ha b hb with e | e
    · subst e; exact absurd eb h
    · exact e
section KT2
variable {p : Program} {l : Launch} {e : Env} {R : Room} {s : State} {m : MethodId} {args : Array Value} {below : List Frame} {meth : Method} {c : Code} {V : xV} {E : va_W} {A : Nat → Prop} {nL cells slots : Nat} {Q : State → Prop} {pc : Nat} {lv : List (Nat × Value)} {st : List Value}
theorem x_kE {σ : xS} {x w : Int32} (k : ∀ y u, (qErr σ x w = 0 → u = mKn (t0 σ) ∧ ∃ a, a < 650 ∧ nzc (mKn (t0 σ)) a = x.toNatClampNeg ∧ ¬ mKn (t0 σ) 107 a = 0 ∧ y = (if w = 0 then nI a / 50 else if w = 1 then nI a - nI a / 50 * 50 else mKn (t0 σ) 107 a)) → (qErr σ x w ≠ 0 → u = xw (mKn (t0 σ)) 208 0 (nI (qErr σ x w))) → X p l e R s m args below meth c V E A nL cells slots Q u (pc + 3) lv (.int y :: st)) : ∀ v σ', rErr σ x w v σ' → X p l e R s m args below meth c V E A nL cells slots Q σ' (pc + 3) lv (v.toList ++ st) := by
  rintro v σ' ⟨y, rfl, h1, h2⟩; exact k y σ' h1 h2
end KT2

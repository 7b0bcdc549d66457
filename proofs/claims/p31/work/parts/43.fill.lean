/-! The law fills the checker of one product. -/
set_option maxHeartbeats 4000000 in
set_option maxRecDepth 100000 in
theorem F_rules {p : Program} {l : Launch} {e : Env} {s : State} {m : MethodId} {args : Array Value} {below : List Frame} {meth : Method} {c : Code} {V : xV} {E : va_W} {A : Nat → Prop} {Q : State → Prop} {cells slots b pa fr t g : Nat} (C : XC p s m args c cL_law 17 RL wsL_law V E A) (hV : xInj V) (hcs : cells + 0 ≤ room_1.cells ∧ slots + 0 ≤ room_1.slots) {σ a : xS} (hR : RK 0 σ) (hRo : Ro (cfA (nI g)) 0 0 0 0 0 σ) (ha : ∀ r, 87 ≤ r → r < 94 → σ r = a r) (K : ∀ τ : xS, AR (nI g) 0 0 0 0 0 τ → (∀ r, 87 ≤ r → r < 94 → τ r = a r) → X p l e room_1 s m args below meth c V E A 17 cells slots Q τ 169 [(0, .ref b), (1, .ref pa), (2, ra V 87), (3, ra V 88), (4, ra V 89), (5, ra V 90), (6, ra V 91), (7, ra V 92), (8, ra V 93), (9, .int (nI fr)), (10, .int (nI t)), (11, .int (nI g)), (12, ra V 0)] []) : X p l e room_1 s m args below meth c V E A 17 cells slots Q σ 124 [(0, .ref b), (1, .ref pa), (2, ra V 87), (3, ra V 88), (4, ra V 89), (5, ra V 90), (6, ra V 91), (7, ra V 92), (8, ra V 93), (9, .int (nI fr)), (10, .int (nI t)), (11, .int (nI g)), (12, ra V 0)] [] := by
  refine x_iconst C (0 : Int32) (by decide) dL_law_124 ?_
  refine x_istore C [(13, .int (0 : Int32)), (0, .ref b), (1, .ref pa), (2, ra V 87), (3, ra V 88), (4, ra V 89), (5, ra V 90), (6, ra V 91), (7, ra V 92), (8, ra V 93), (9, .int (nI fr)), (10, .int (nI t)), (11, .int (nI g)), (12, ra V 0)] dL_law_125 (by decide) rfl ?_
  refine x_lv [1, 2, 3, 4, 5, 6, 7, 8, 9, 10, 11, 12, 13, 0] [(0, .ref b), (1, .ref pa), (2, ra V 87), (3, ra V 88), (4, ra V 89), (5, ra V 90), (6, ra V 91), (7, ra V 92), (8, ra V 93), (9, .int (nI fr)), (10, .int (nI t)), (11, .int (nI g)), (12, ra V 0), (13, .int (0 : Int32))] rfl ?_
  refine x_loop (fun μ τ lv_ => ∃ (k : Nat), μ = 4 - k ∧ lv_ = [(0, .ref b), (1, .ref pa), (2, ra V 87), (3, ra V 88), (4, ra V 89), (5, ra V 90), (6, ra V 91), (7, ra V 92), (8, ra V 93), (9, .int (nI fr)), (10, .int (nI t)), (11, .int (nI g)), (12, ra V 0), (13, .int (nI k))] ∧ k ≤ 4 ∧ RK k τ ∧ Ro (cfA (nI g)) 0 0 0 0 0 τ ∧ ∀ r, 87 ≤ r → r < 94 → τ r = a r) ⟨_, ⟨0, rfl, rfl, Nat.zero_le _, hR, hRo, ha⟩⟩ ?_
  rintro μ127 τ _ ⟨k, hμ127, rfl, hc127_0, hc127_1, hc127_2, hc127_3⟩ ih127
  refine x_iload C dL_law_127 13 rfl ?_
  refine x_iconst C (4 : Int32) (by decide) dL_law_129 ?_
  refine x_icmp_ge C 158 dL_law_130 rfl (fun h1 => ?_) (fun h1 => ?_)
  · have hk4 : k = 4 := Nat.le_antisymm hc127_0 ((nI_leI (a := 4) (b := k) (by decide) (by omega)).mp h1)
    have hR4 : RK 4 τ := by rw [← hk4]; exact hc127_1
    refine x_aload C dL_law_158 12 rfl ?_
    refine x_callV C sh_0 (by decide) rfl [] (c_X8_products l V hV τ ) (cwV 0 C.2.2.2.2.1 gL_law_X8_products rfl rfl rfl (by decide +kernel) ⟨Nat.le_of_ble_eq_true rfl, Nat.le_of_ble_eq_true rfl⟩) rfl rfl (Nat.le_of_ble_eq_true rfl) dL_law_160 hcs (x_kI ?_)
    refine x_v (y := (1 : Int32)) (allI_4 hR4) ?_
    refine x_iconst C (1 : Int32) (by decide) dL_law_163 ?_
    refine x_icmp_eq C 169 dL_law_164 rfl (fun h2 => ?_) (fun h2 => absurd h2 (by decide))
    refine x_lv [0, 1, 2, 3, 4, 5, 6, 7, 8, 9, 10, 11, 12] [(0, .ref b), (1, .ref pa), (2, ra V 87), (3, ra V 88), (4, ra V 89), (5, ra V 90), (6, ra V 91), (7, ra V 92), (8, ra V 93), (9, .int (nI fr)), (10, .int (nI t)), (11, .int (nI g)), (12, ra V 0)] rfl ?_
    exact K τ ⟨hR4, hc127_2⟩ hc127_3
  · have hkn : k < 4 := Nat.lt_of_not_le (fun hq => h1 (nI_le (a := 4) hq (by omega)))
    have hR2 := hc127_1.step (show k < 8 by omega)
    refine x_aload C dL_law_133 12 rfl ?_
    refine x_iconst C (1 : Int32) (by decide) dL_law_135 ?_
    refine x_iload C dL_law_136 13 rfl ?_
    refine x_iload C dL_law_138 13 rfl ?_
    refine x_callV C sh_0 (by decide) rfl [.int (1 : Int32), .int (nI k), .int (nI k)] (c_X8_addRule l V hV τ (1 : Int32) (nI k) (nI k) (kRule_0 (n := k) hc127_1.1 (by omega) (Or.inr rfl) (vp_in_nI hkn (by decide)) (vp_in_nI hkn (by decide)))) (cwV 3 C.2.2.2.2.1 gL_law_X8_addRule rfl rfl rfl (by decide +kernel) ⟨Nat.le_of_ble_eq_true rfl, Nat.le_of_ble_eq_true rfl⟩) rfl rfl (Nat.le_of_ble_eq_true rfl) dL_law_140 hcs (x_kI ?_)
    refine x_v (y := nI (k + 1)) (hR2.1) ?_
    refine x_iload C dL_law_143 13 rfl ?_
    refine x_iconst C (1 : Int32) (by decide) dL_law_145 ?_
    refine x_iadd C dL_law_146 ?_
    refine x_v (y := nI (k + 1)) (nI_add k 1) ?_
    refine x_icmp_eq C 152 dL_law_147 rfl (fun h3 => ?_) (fun h3 => absurd h3 (fun q => q rfl))
    refine x_iinc C (q := 13) ((nI k) + (1 : Int32)) [(13, .int ((nI k) + (1 : Int32))), (0, .ref b), (1, .ref pa), (2, ra V 87), (3, ra V 88), (4, ra V 89), (5, ra V 90), (6, ra V 91), (7, ra V 92), (8, ra V 93), (9, .int (nI fr)), (10, .int (nI t)), (11, .int (nI g)), (12, ra V 0)] dL_law_152 rfl rfl (by decide) rfl ?_
    refine x_goto C 127 dL_law_155 rfl ?_
    refine x_lv [1, 2, 3, 4, 5, 6, 7, 8, 9, 10, 11, 12, 13, 0] [(0, .ref b), (1, .ref pa), (2, ra V 87), (3, ra V 88), (4, ra V 89), (5, ra V 90), (6, ra V 91), (7, ra V 92), (8, ra V 93), (9, .int (nI fr)), (10, .int (nI t)), (11, .int (nI g)), (12, ra V 0), (13, .int ((nI k) + (1 : Int32)))] rfl ?_
    exact ih127 _ _ _ (by omega) ⟨k + 1, rfl, by rw [nI_succ], (by omega), hR2, hc127_2.of (rApp_dif τ 1 (nI k) (nI k)), fun r h1 h2 => (rApp_dif τ 1 (nI k) (nI k) r (by simp only [List.mem_cons, List.not_mem_nil, or_false, not_or]; omega)).trans (hc127_3 r h1 h2)⟩

set_option maxHeartbeats 4000000 in
set_option maxRecDepth 100000 in
theorem F_classes {p : Program} {l : Launch} {e : Env} {s : State} {m : MethodId} {args : Array Value} {below : List Frame} {meth : Method} {c : Code} {V : xV} {E : va_W} {A : Nat → Prop} {Q : State → Prop} {cells slots b pa fr t g : Nat} (C : XC p s m args c cL_law 17 RL wsL_law V E A) (hV : xInj V) (hcs : cells + 0 ≤ room_1.cells ∧ slots + 0 ≤ room_1.slots) {nr nc nl nm ne nx : Nat} {σ a : xS} (hb : nc ≤ 4 ∧ nl ≤ 4 ∧ nm ≤ 7 ∧ ne ≤ 14 ∧ nx ≤ 6) (hR : AR (nI g) 0 0 0 0 0 σ) (hA : AV nr nc nl nm ne nx σ) (ha : ∀ r, 87 ≤ r → r < 94 → σ r = a r) (K : ∀ τ : xS, AR (nI g) nc 0 0 0 0 τ → AV nr nc nl nm ne nx τ → (∀ r, 87 ≤ r → r < 94 → τ r = a r) → X p l e room_1 s m args below meth c V E A 17 cells slots Q τ 211 [(0, .ref b), (1, .ref pa), (2, ra V 87), (3, ra V 88), (4, ra V 89), (5, ra V 90), (6, ra V 91), (7, ra V 92), (8, ra V 93), (9, .int (nI fr)), (10, .int (nI t)), (11, .int (nI g)), (12, ra V 0)] []) : X p l e room_1 s m args below meth c V E A 17 cells slots Q σ 169 [(0, .ref b), (1, .ref pa), (2, ra V 87), (3, ra V 88), (4, ra V 89), (5, ra V 90), (6, ra V 91), (7, ra V 92), (8, ra V 93), (9, .int (nI fr)), (10, .int (nI t)), (11, .int (nI g)), (12, ra V 0)] [] := by
  refine x_iconst C (0 : Int32) (by decide) dL_law_169 ?_
  refine x_istore C [(13, .int (0 : Int32)), (0, .ref b), (1, .ref pa), (2, ra V 87), (3, ra V 88), (4, ra V 89), (5, ra V 90), (6, ra V 91), (7, ra V 92), (8, ra V 93), (9, .int (nI fr)), (10, .int (nI t)), (11, .int (nI g)), (12, ra V 0)] dL_law_170 (by decide) rfl ?_
  refine x_lv [1, 2, 3, 4, 5, 6, 7, 8, 9, 10, 11, 12, 13, 0] [(0, .ref b), (1, .ref pa), (2, ra V 87), (3, ra V 88), (4, ra V 89), (5, ra V 90), (6, ra V 91), (7, ra V 92), (8, ra V 93), (9, .int (nI fr)), (10, .int (nI t)), (11, .int (nI g)), (12, ra V 0), (13, .int (0 : Int32))] rfl ?_
  refine x_loop (fun μ τ lv_ => ∃ (k : Nat), μ = nc - k ∧ lv_ = [(0, .ref b), (1, .ref pa), (2, ra V 87), (3, ra V 88), (4, ra V 89), (5, ra V 90), (6, ra V 91), (7, ra V 92), (8, ra V 93), (9, .int (nI fr)), (10, .int (nI t)), (11, .int (nI g)), (12, ra V 0), (13, .int (nI k))] ∧ k ≤ nc ∧ AR (nI g) k 0 0 0 0 τ ∧ AV nr nc nl nm ne nx τ ∧ ∀ r, 87 ≤ r → r < 94 → τ r = a r) ⟨_, ⟨0, rfl, rfl, Nat.zero_le _, hR, hA, ha⟩⟩ ?_
  rintro μ172 τ _ ⟨k, hμ172, rfl, hc172_0, hc172_1, hc172_2, hc172_3⟩ ih172
  refine x_iload C dL_law_172 13 rfl ?_
  refine x_aload_n C dL_law_174 rfl 2 rfl ?_
  refine x_iconst C (1 : Int32) (by decide) dL_law_175 ?_
  refine x_iald C sh_87 (vp_in_nI (n := 1) (by omega) (by decide)) dL_law_176 ?_
  rw [show (1 : Int32).toNatClampNeg = 1 from nI_clamp (n := 1) (by omega)]
  refine x_v (y := nI nc) (hc172_2.2.2.2.2.2.2.2.1) ?_
  refine x_icmp_ge C 211 dL_law_177 rfl (fun h1 => ?_) (fun h1 => ?_)
  · refine x_lv [0, 1, 2, 3, 4, 5, 6, 7, 8, 9, 10, 11, 12] [(0, .ref b), (1, .ref pa), (2, ra V 87), (3, ra V 88), (4, ra V 89), (5, ra V 90), (6, ra V 91), (7, ra V 92), (8, ra V 93), (9, .int (nI fr)), (10, .int (nI t)), (11, .int (nI g)), (12, ra V 0)] rfl ?_
    have hkn : k = nc := Nat.le_antisymm hc172_0 (Nat.le_of_not_lt (fun hq => nI_ge hq (by omega) h1))
    subst hkn
    exact K τ hc172_1 hc172_2 hc172_3
  · have hkn : k < nc := Nat.lt_of_not_le (fun hq => h1 (nI_le hq (by omega)))
    refine x_aload C dL_law_180 12 rfl ?_
    refine x_aload C dL_law_182 4 rfl ?_
    refine x_iload C dL_law_184 13 rfl ?_
    refine x_iald C sh_89 (vp_in_nI (n := k) (by omega) (by decide)) dL_law_186 ?_
    rw [show (nI k).toNatClampNeg = k from nI_clamp (n := k) (by omega)]
    refine x_iload C dL_law_187 11 rfl ?_
    refine x_callS C [.int (τ 89 k), .int (nI g)] (c_L_isTrue l V hV τ (τ 89 k) (nI g)) (va_cwS 2 C.2.2.2.2.1 gL_law_L_isTrue rfl rfl rfl (by decide +kernel) ⟨Nat.le_of_ble_eq_true rfl, Nat.le_of_ble_eq_true rfl⟩) rfl rfl (Nat.le_of_ble_eq_true rfl) dL_law_189 hcs (x_kI ?_)
    refine x_jP (P := fun y => y = bI (!isTrB (τ 89 k) (nI g))) 200 (fun y => [(0, .ref b), (1, .ref pa), (2, ra V 87), (3, ra V 88), (4, ra V 89), (5, ra V 90), (6, ra V 91), (7, ra V 92), (8, ra V 93), (9, .int (nI fr)), (10, .int (nI t)), (11, .int (nI g)), (12, ra V 0), (13, .int (nI k))]) (fun y => [.int y, ra V 0]) (fun y hy => ?_) (fun hJ200 => ?_)
    · refine x_iconst C (0 : Int32) (by decide) dL_law_200 ?_
      refine x_callV C sh_0 (by decide) rfl [.int y, .int (0 : Int32)] (c_X8_addClass l V hV τ y (0 : Int32) (kClass_0 (n := k) hc172_1.2.1.1 (by omega) (by rw [hy]; exact GC_b _))) (cwV 2 C.2.2.2.2.1 gL_law_X8_addClass rfl rfl rfl (by decide +kernel) ⟨Nat.le_of_ble_eq_true rfl, Nat.le_of_ble_eq_true rfl⟩) rfl rfl (Nat.le_of_ble_eq_true rfl) dL_law_201 hcs (x_kI ?_)
      refine x_pop C rfl dL_law_204 ?_
      refine x_iinc C (q := 13) ((nI k) + (1 : Int32)) [(13, .int ((nI k) + (1 : Int32))), (0, .ref b), (1, .ref pa), (2, ra V 87), (3, ra V 88), (4, ra V 89), (5, ra V 90), (6, ra V 91), (7, ra V 92), (8, ra V 93), (9, .int (nI fr)), (10, .int (nI t)), (11, .int (nI g)), (12, ra V 0)] dL_law_205 rfl rfl (by decide) rfl ?_
      refine x_goto C 172 dL_law_208 rfl ?_
      refine x_lv [1, 2, 3, 4, 5, 6, 7, 8, 9, 10, 11, 12, 13, 0] [(0, .ref b), (1, .ref pa), (2, ra V 87), (3, ra V 88), (4, ra V 89), (5, ra V 90), (6, ra V 91), (7, ra V 92), (8, ra V 93), (9, .int (nI fr)), (10, .int (nI t)), (11, .int (nI g)), (12, ra V 0), (13, .int ((nI k) + (1 : Int32)))] rfl ?_
      exact ih172 _ _ _ (by omega) ⟨k + 1, rfl, by rw [nI_succ], (by omega), hc172_1.cls (by omega) hy, hc172_2.of (AR.cls_a y), fun r h1 h2 => (AR.cls_a y r h1 h2).trans (hc172_3 r h1 h2)⟩
    · refine x_bif_eq C 199 dL_law_192 rfl (fun h2 => ?_) (fun h2 => ?_)
      · refine x_iconst C (1 : Int32) (by decide) dL_law_199 ?_
        exact hJ200 _ (by rw [h2]; rfl)
      · refine x_iconst C (0 : Int32) (by decide) dL_law_195 ?_
        refine x_goto C 200 dL_law_196 rfl ?_
        exact hJ200 _ (by rw [h2]; rfl)

set_option maxHeartbeats 4000000 in
set_option maxRecDepth 100000 in
theorem F_links {p : Program} {l : Launch} {e : Env} {s : State} {m : MethodId} {args : Array Value} {below : List Frame} {meth : Method} {c : Code} {V : xV} {E : va_W} {A : Nat → Prop} {Q : State → Prop} {cells slots b pa fr t g : Nat} (C : XC p s m args c cL_law 17 RL wsL_law V E A) (hV : xInj V) (hcs : cells + 0 ≤ room_1.cells ∧ slots + 0 ≤ room_1.slots) {nr nc nl nm ne nx : Nat} {σ a : xS} (hb : nc ≤ 4 ∧ nl ≤ 4 ∧ nm ≤ 7 ∧ ne ≤ 14 ∧ nx ≤ 6) (hR : AR (nI g) nc 0 0 0 0 σ) (hA : AV nr nc nl nm ne nx σ) (ha : ∀ r, 87 ≤ r → r < 94 → σ r = a r) (K : ∀ τ : xS, AR (nI g) nc nl 0 0 0 τ → AV nr nc nl nm ne nx τ → (∀ r, 87 ≤ r → r < 94 → τ r = a r) → X p l e room_1 s m args below meth c V E A 17 cells slots Q τ 273 [(0, .ref b), (1, .ref pa), (2, ra V 87), (3, ra V 88), (4, ra V 89), (5, ra V 90), (6, ra V 91), (7, ra V 92), (8, ra V 93), (9, .int (nI fr)), (10, .int (nI t)), (11, .int (nI g)), (12, ra V 0)] []) : X p l e room_1 s m args below meth c V E A 17 cells slots Q σ 211 [(0, .ref b), (1, .ref pa), (2, ra V 87), (3, ra V 88), (4, ra V 89), (5, ra V 90), (6, ra V 91), (7, ra V 92), (8, ra V 93), (9, .int (nI fr)), (10, .int (nI t)), (11, .int (nI g)), (12, ra V 0)] [] := by
  refine x_iconst C (0 : Int32) (by decide) dL_law_211 ?_
  refine x_istore C [(13, .int (0 : Int32)), (0, .ref b), (1, .ref pa), (2, ra V 87), (3, ra V 88), (4, ra V 89), (5, ra V 90), (6, ra V 91), (7, ra V 92), (8, ra V 93), (9, .int (nI fr)), (10, .int (nI t)), (11, .int (nI g)), (12, ra V 0)] dL_law_212 (by decide) rfl ?_
  refine x_lv [1, 2, 3, 4, 5, 6, 7, 8, 9, 10, 11, 12, 13, 0] [(0, .ref b), (1, .ref pa), (2, ra V 87), (3, ra V 88), (4, ra V 89), (5, ra V 90), (6, ra V 91), (7, ra V 92), (8, ra V 93), (9, .int (nI fr)), (10, .int (nI t)), (11, .int (nI g)), (12, ra V 0), (13, .int (0 : Int32))] rfl ?_
  refine x_loop (fun μ τ lv_ => ∃ (k : Nat), μ = nl - k ∧ lv_ = [(0, .ref b), (1, .ref pa), (2, ra V 87), (3, ra V 88), (4, ra V 89), (5, ra V 90), (6, ra V 91), (7, ra V 92), (8, ra V 93), (9, .int (nI fr)), (10, .int (nI t)), (11, .int (nI g)), (12, ra V 0), (13, .int (nI k))] ∧ k ≤ nl ∧ AR (nI g) nc k 0 0 0 τ ∧ AV nr nc nl nm ne nx τ ∧ ∀ r, 87 ≤ r → r < 94 → τ r = a r) ⟨_, ⟨0, rfl, rfl, Nat.zero_le _, hR, hA, ha⟩⟩ ?_
  rintro μ214 τ _ ⟨k, hμ214, rfl, hc214_0, hc214_1, hc214_2, hc214_3⟩ ih214
  refine x_iload C dL_law_214 13 rfl ?_
  refine x_aload_n C dL_law_216 rfl 2 rfl ?_
  refine x_iconst C (2 : Int32) (by decide) dL_law_217 ?_
  refine x_iald C sh_87 (vp_in_nI (n := 2) (by omega) (by decide)) dL_law_218 ?_
  rw [show (2 : Int32).toNatClampNeg = 2 from nI_clamp (n := 2) (by omega)]
  refine x_v (y := nI nl) (hc214_2.2.2.2.2.2.2.2.2.1) ?_
  refine x_icmp_ge C 273 dL_law_219 rfl (fun h1 => ?_) (fun h1 => ?_)
  · refine x_lv [0, 1, 2, 3, 4, 5, 6, 7, 8, 9, 10, 11, 12] [(0, .ref b), (1, .ref pa), (2, ra V 87), (3, ra V 88), (4, ra V 89), (5, ra V 90), (6, ra V 91), (7, ra V 92), (8, ra V 93), (9, .int (nI fr)), (10, .int (nI t)), (11, .int (nI g)), (12, ra V 0)] rfl ?_
    have hkn : k = nl := Nat.le_antisymm hc214_0 (Nat.le_of_not_lt (fun hq => nI_ge hq (by omega) h1))
    subst hkn
    exact K τ hc214_1 hc214_2 hc214_3
  · have hkn : k < nl := Nat.lt_of_not_le (fun hq => h1 (nI_le hq (by omega)))
    refine x_aload C dL_law_222 12 rfl ?_
    refine x_aload C dL_law_224 5 rfl ?_
    refine x_iconst C (3 : Int32) (by decide) dL_law_226 ?_
    refine x_iload C dL_law_227 13 rfl ?_
    refine x_imul C dL_law_229 ?_
    refine x_v (y := nI (3 * k)) (pk_mul 3 k) ?_
    refine x_iald C sh_90 (vp_in_nI (n := 3 * k) (by omega) (by decide)) dL_law_230 ?_
    rw [show (nI (3 * k)).toNatClampNeg = 3 * k from nI_clamp (n := 3 * k) (by omega)]
    refine x_aload C dL_law_231 5 rfl ?_
    refine x_iconst C (3 : Int32) (by decide) dL_law_233 ?_
    refine x_iload C dL_law_234 13 rfl ?_
    refine x_imul C dL_law_236 ?_
    refine x_v (y := nI (3 * k)) (pk_mul 3 k) ?_
    refine x_iconst C (1 : Int32) (by decide) dL_law_237 ?_
    refine x_iadd C dL_law_238 ?_
    refine x_v (y := nI ((3 * k) + 1)) (nI_add (3 * k) 1) ?_
    refine x_iald C sh_90 (vp_in_nI (n := (3 * k) + 1) (by omega) (by decide)) dL_law_239 ?_
    rw [show (nI ((3 * k) + 1)).toNatClampNeg = (3 * k) + 1 from nI_clamp (n := (3 * k) + 1) (by omega)]
    refine x_aload C dL_law_240 5 rfl ?_
    refine x_iconst C (3 : Int32) (by decide) dL_law_242 ?_
    refine x_iload C dL_law_243 13 rfl ?_
    refine x_imul C dL_law_245 ?_
    refine x_v (y := nI (3 * k)) (pk_mul 3 k) ?_
    refine x_iconst C (2 : Int32) (by decide) dL_law_246 ?_
    refine x_iadd C dL_law_247 ?_
    refine x_v (y := nI ((3 * k) + 2)) (nI_add (3 * k) 2) ?_
    refine x_iald C sh_90 (vp_in_nI (n := (3 * k) + 2) (by omega) (by decide)) dL_law_248 ?_
    rw [show (nI ((3 * k) + 2)).toNatClampNeg = (3 * k) + 2 from nI_clamp (n := (3 * k) + 2) (by omega)]
    refine x_iload C dL_law_249 11 rfl ?_
    refine x_callS C [.int (τ 90 ((3 * k) + 2)), .int (nI g)] (c_L_isTrue l V hV τ (τ 90 ((3 * k) + 2)) (nI g)) (va_cwS 2 C.2.2.2.2.1 gL_law_L_isTrue rfl rfl rfl (by decide +kernel) ⟨Nat.le_of_ble_eq_true rfl, Nat.le_of_ble_eq_true rfl⟩) rfl rfl (Nat.le_of_ble_eq_true rfl) dL_law_251 hcs (x_kI ?_)
    refine x_jP (P := fun y => y = bI (!isTrB (τ 90 (3 * k + 2)) (nI g))) 262 (fun y => [(0, .ref b), (1, .ref pa), (2, ra V 87), (3, ra V 88), (4, ra V 89), (5, ra V 90), (6, ra V 91), (7, ra V 92), (8, ra V 93), (9, .int (nI fr)), (10, .int (nI t)), (11, .int (nI g)), (12, ra V 0), (13, .int (nI k))]) (fun y => [.int y, .int (τ 90 ((3 * k) + 1)), .int (τ 90 (3 * k)), ra V 0]) (fun y hy => ?_) (fun hJ262 => ?_)
    · refine x_iconst C (0 : Int32) (by decide) dL_law_262 ?_
      refine x_callV C sh_0 (by decide) rfl [.int (τ 90 (3 * k)), .int (τ 90 ((3 * k) + 1)), .int y, .int (0 : Int32)] (c_X8_addLink l V hV τ (τ 90 (3 * k)) (τ 90 ((3 * k) + 1)) y (0 : Int32) (kLink_0 (c := nc) (n := k) hc214_1.2.1.1 (by omega) hc214_1.2.2.1.1 (by omega) (hc214_2.2.2.1.2 k hkn).1 (hc214_2.2.2.1.2 k hkn).2.1 (by rw [hy]; exact GC_b _))) (cwV 4 C.2.2.2.2.1 gL_law_X8_addLink rfl rfl rfl (by decide +kernel) ⟨Nat.le_of_ble_eq_true rfl, Nat.le_of_ble_eq_true rfl⟩) rfl rfl (Nat.le_of_ble_eq_true rfl) dL_law_263 hcs (x_kI ?_)
      refine x_pop C rfl dL_law_266 ?_
      refine x_iinc C (q := 13) ((nI k) + (1 : Int32)) [(13, .int ((nI k) + (1 : Int32))), (0, .ref b), (1, .ref pa), (2, ra V 87), (3, ra V 88), (4, ra V 89), (5, ra V 90), (6, ra V 91), (7, ra V 92), (8, ra V 93), (9, .int (nI fr)), (10, .int (nI t)), (11, .int (nI g)), (12, ra V 0)] dL_law_267 rfl rfl (by decide) rfl ?_
      refine x_goto C 214 dL_law_270 rfl ?_
      refine x_lv [1, 2, 3, 4, 5, 6, 7, 8, 9, 10, 11, 12, 13, 0] [(0, .ref b), (1, .ref pa), (2, ra V 87), (3, ra V 88), (4, ra V 89), (5, ra V 90), (6, ra V 91), (7, ra V 92), (8, ra V 93), (9, .int (nI fr)), (10, .int (nI t)), (11, .int (nI g)), (12, ra V 0), (13, .int ((nI k) + (1 : Int32)))] rfl ?_
      exact ih214 _ _ _ (by omega) ⟨k + 1, rfl, by rw [nI_succ], (by omega), hc214_1.link (by omega) rfl rfl hy, hc214_2.of (AR.link_a y _ _), fun r h1 h2 => (AR.link_a y _ _ r h1 h2).trans (hc214_3 r h1 h2)⟩
    · refine x_bif_eq C 261 dL_law_254 rfl (fun h2 => ?_) (fun h2 => ?_)
      · refine x_iconst C (1 : Int32) (by decide) dL_law_261 ?_
        exact hJ262 _ (by rw [h2]; rfl)
      · refine x_iconst C (0 : Int32) (by decide) dL_law_257 ?_
        refine x_goto C 262 dL_law_258 rfl ?_
        exact hJ262 _ (by rw [h2]; rfl)

set_option maxHeartbeats 4000000 in
set_option maxRecDepth 100000 in
theorem F_members {p : Program} {l : Launch} {e : Env} {s : State} {m : MethodId} {args : Array Value} {below : List Frame} {meth : Method} {c : Code} {V : xV} {E : va_W} {A : Nat → Prop} {Q : State → Prop} {cells slots b pa fr t g : Nat} (C : XC p s m args c cL_law 17 RL wsL_law V E A) (hV : xInj V) (hcs : cells + 0 ≤ room_1.cells ∧ slots + 0 ≤ room_1.slots) {nr nc nl nm ne nx : Nat} {σ a : xS} (hb : nc ≤ 4 ∧ nl ≤ 4 ∧ nm ≤ 7 ∧ ne ≤ 14 ∧ nx ≤ 6) (hR : AR (nI g) nc nl 0 0 0 σ) (hA : AV nr nc nl nm ne nx σ) (ha : ∀ r, 87 ≤ r → r < 94 → σ r = a r) (K : ∀ τ : xS, AR (nI g) nc nl nm 0 0 τ → AV nr nc nl nm ne nx τ → (∀ r, 87 ≤ r → r < 94 → τ r = a r) → X p l e room_1 s m args below meth c V E A 17 cells slots Q τ 404 [(0, .ref b), (1, .ref pa), (2, ra V 87), (3, ra V 88), (4, ra V 89), (5, ra V 90), (6, ra V 91), (7, ra V 92), (8, ra V 93), (9, .int (nI fr)), (10, .int (nI t)), (11, .int (nI g)), (12, ra V 0)] []) : X p l e room_1 s m args below meth c V E A 17 cells slots Q σ 273 [(0, .ref b), (1, .ref pa), (2, ra V 87), (3, ra V 88), (4, ra V 89), (5, ra V 90), (6, ra V 91), (7, ra V 92), (8, ra V 93), (9, .int (nI fr)), (10, .int (nI t)), (11, .int (nI g)), (12, ra V 0)] [] := by
  refine x_iconst C (0 : Int32) (by decide) dL_law_273 ?_
  refine x_istore C [(13, .int (0 : Int32)), (0, .ref b), (1, .ref pa), (2, ra V 87), (3, ra V 88), (4, ra V 89), (5, ra V 90), (6, ra V 91), (7, ra V 92), (8, ra V 93), (9, .int (nI fr)), (10, .int (nI t)), (11, .int (nI g)), (12, ra V 0)] dL_law_274 (by decide) rfl ?_
  refine x_lv [1, 2, 3, 4, 5, 6, 7, 8, 9, 10, 11, 12, 13, 0] [(0, .ref b), (1, .ref pa), (2, ra V 87), (3, ra V 88), (4, ra V 89), (5, ra V 90), (6, ra V 91), (7, ra V 92), (8, ra V 93), (9, .int (nI fr)), (10, .int (nI t)), (11, .int (nI g)), (12, ra V 0), (13, .int (0 : Int32))] rfl ?_
  refine x_loop (fun μ τ lv_ => ∃ (k : Nat), μ = nm - k ∧ lv_ = [(0, .ref b), (1, .ref pa), (2, ra V 87), (3, ra V 88), (4, ra V 89), (5, ra V 90), (6, ra V 91), (7, ra V 92), (8, ra V 93), (9, .int (nI fr)), (10, .int (nI t)), (11, .int (nI g)), (12, ra V 0), (13, .int (nI k))] ∧ k ≤ nm ∧ AR (nI g) nc nl k 0 0 τ ∧ AV nr nc nl nm ne nx τ ∧ ∀ r, 87 ≤ r → r < 94 → τ r = a r) ⟨_, ⟨0, rfl, rfl, Nat.zero_le _, hR, hA, ha⟩⟩ ?_
  rintro μ276 τ _ ⟨k, hμ276, rfl, hc276_0, hc276_1, hc276_2, hc276_3⟩ ih276
  refine x_iload C dL_law_276 13 rfl ?_
  refine x_aload_n C dL_law_278 rfl 2 rfl ?_
  refine x_iconst C (3 : Int32) (by decide) dL_law_279 ?_
  refine x_iald C sh_87 (vp_in_nI (n := 3) (by omega) (by decide)) dL_law_280 ?_
  rw [show (3 : Int32).toNatClampNeg = 3 from nI_clamp (n := 3) (by omega)]
  refine x_v (y := nI nm) (hc276_2.2.2.2.2.2.2.2.2.2.1) ?_
  refine x_icmp_ge C 404 dL_law_281 rfl (fun h1 => ?_) (fun h1 => ?_)
  · refine x_lv [0, 1, 2, 3, 4, 5, 6, 7, 8, 9, 10, 11, 12] [(0, .ref b), (1, .ref pa), (2, ra V 87), (3, ra V 88), (4, ra V 89), (5, ra V 90), (6, ra V 91), (7, ra V 92), (8, ra V 93), (9, .int (nI fr)), (10, .int (nI t)), (11, .int (nI g)), (12, ra V 0)] rfl ?_
    have hkn : k = nm := Nat.le_antisymm hc276_0 (Nat.le_of_not_lt (fun hq => nI_ge hq (by omega) h1))
    subst hkn
    exact K τ hc276_1 hc276_2 hc276_3
  · have hkn : k < nm := Nat.lt_of_not_le (fun hq => h1 (nI_le hq (by omega)))
    have hM := hc276_2.2.2.2.1.2 k hkn
    refine x_bipush C (7 : Int32) (by decide) dL_law_284 ?_
    refine x_iload C dL_law_286 13 rfl ?_
    refine x_imul C dL_law_288 ?_
    refine x_v (y := nI (7 * k)) (pk_mul 7 k) ?_
    refine x_istore C [(14, .int (nI (7 * k))), (0, .ref b), (1, .ref pa), (2, ra V 87), (3, ra V 88), (4, ra V 89), (5, ra V 90), (6, ra V 91), (7, ra V 92), (8, ra V 93), (9, .int (nI fr)), (10, .int (nI t)), (11, .int (nI g)), (12, ra V 0), (13, .int (nI k))] dL_law_289 (by decide) rfl ?_
    refine x_aload C dL_law_291 7 rfl ?_
    refine x_iload C dL_law_293 0 rfl ?_
    refine x_bipush C (6 : Int32) (by decide) dL_law_295 ?_
    refine x_iadd C dL_law_297 ?_
    refine x_v (y := nI ((7 * k) + 6)) (nI_add (7 * k) 6) ?_
    refine x_iald C sh_91 (vp_in_nI (n := (7 * k) + 6) (by omega) (by decide)) dL_law_298 ?_
    rw [show (nI ((7 * k) + 6)).toNatClampNeg = (7 * k) + 6 from nI_clamp (n := (7 * k) + 6) (by omega)]
    refine x_iload C dL_law_299 12 rfl ?_
    refine x_callS C [.int (τ 91 ((7 * k) + 6)), .int (nI g)] (c_L_isTrue l V hV τ (τ 91 ((7 * k) + 6)) (nI g)) (va_cwS 2 C.2.2.2.2.1 gL_law_L_isTrue rfl rfl rfl (by decide +kernel) ⟨Nat.le_of_ble_eq_true rfl, Nat.le_of_ble_eq_true rfl⟩) rfl rfl (Nat.le_of_ble_eq_true rfl) dL_law_301 hcs (x_kI ?_)
    refine x_jP (P := fun y => y = bI (!isTrB (τ 91 (7 * k + 6)) (nI g))) 312 (fun y => [(14, .int (nI (7 * k))), (0, .ref b), (1, .ref pa), (2, ra V 87), (3, ra V 88), (4, ra V 89), (5, ra V 90), (6, ra V 91), (7, ra V 92), (8, ra V 93), (9, .int (nI fr)), (10, .int (nI t)), (11, .int (nI g)), (12, ra V 0), (13, .int (nI k))]) (fun y => [.int y]) (fun y hy => ?_) (fun hJ312 => ?_)
    · refine x_istore C [(15, .int y), (14, .int (nI (7 * k))), (0, .ref b), (1, .ref pa), (2, ra V 87), (3, ra V 88), (4, ra V 89), (5, ra V 90), (6, ra V 91), (7, ra V 92), (8, ra V 93), (9, .int (nI fr)), (10, .int (nI t)), (11, .int (nI g)), (12, ra V 0), (13, .int (nI k))] dL_law_312 (by decide) rfl ?_
      refine x_aload C dL_law_314 8 rfl ?_
      refine x_iload C dL_law_316 1 rfl ?_
      refine x_iconst C (3 : Int32) (by decide) dL_law_318 ?_
      refine x_iadd C dL_law_319 ?_
      refine x_v (y := nI ((7 * k) + 3)) (nI_add (7 * k) 3) ?_
      refine x_iald C sh_91 (vp_in_nI (n := (7 * k) + 3) (by omega) (by decide)) dL_law_320 ?_
      rw [show (nI ((7 * k) + 3)).toNatClampNeg = (7 * k) + 3 from nI_clamp (n := (7 * k) + 3) (by omega)]
      refine x_iconst C (1 : Int32) (by decide) dL_law_321 ?_
      refine x_icmp_ne C 370 dL_law_322 rfl (fun h2 => ?_) (fun h2 => ?_)
      · refine x_aload C dL_law_370 14 rfl ?_
        refine x_aload C dL_law_372 8 rfl ?_
        refine x_iload C dL_law_374 1 rfl ?_
        refine x_iald C sh_91 (vp_in_nI (n := 7 * k) (by omega) (by decide)) dL_law_376 ?_
        rw [show (nI (7 * k)).toNatClampNeg = 7 * k from nI_clamp (n := 7 * k) (by omega)]
        refine x_aload C dL_law_377 8 rfl ?_
        refine x_iload C dL_law_379 1 rfl ?_
        refine x_iconst C (1 : Int32) (by decide) dL_law_381 ?_
        refine x_iadd C dL_law_382 ?_
        refine x_v (y := nI ((7 * k) + 1)) (nI_add (7 * k) 1) ?_
        refine x_iald C sh_91 (vp_in_nI (n := (7 * k) + 1) (by omega) (by decide)) dL_law_383 ?_
        rw [show (nI ((7 * k) + 1)).toNatClampNeg = (7 * k) + 1 from nI_clamp (n := (7 * k) + 1) (by omega)]
        refine x_aload C dL_law_384 8 rfl ?_
        refine x_iload C dL_law_386 1 rfl ?_
        refine x_iconst C (2 : Int32) (by decide) dL_law_388 ?_
        refine x_iadd C dL_law_389 ?_
        refine x_v (y := nI ((7 * k) + 2)) (nI_add (7 * k) 2) ?_
        refine x_iald C sh_91 (vp_in_nI (n := (7 * k) + 2) (by omega) (by decide)) dL_law_390 ?_
        rw [show (nI ((7 * k) + 2)).toNatClampNeg = (7 * k) + 2 from nI_clamp (n := (7 * k) + 2) (by omega)]
        refine x_iload C dL_law_391 0 rfl ?_
        refine x_iconst C (0 : Int32) (by decide) dL_law_393 ?_
        refine x_callV C sh_0 (by decide) rfl [.int (τ 91 (7 * k)), .int (τ 91 ((7 * k) + 1)), .int (τ 91 ((7 * k) + 2)), .int y, .int (0 : Int32)] (c_X8_addField l V hV τ (τ 91 (7 * k)) (τ 91 ((7 * k) + 1)) (τ 91 ((7 * k) + 2)) y (0 : Int32) (kField_0 (c := nc) (n := k) hc276_1.2.1.1 (by omega) hc276_1.2.2.2.1.1 (by omega) hM.1 hM.2.1 hM.2.2.1 (by rw [hy]; exact GC_b _))) (cwV 5 C.2.2.2.2.1 gL_law_X8_addField rfl rfl rfl (by decide +kernel) ⟨Nat.le_of_ble_eq_true rfl, Nat.le_of_ble_eq_true rfl⟩) rfl rfl (Nat.le_of_ble_eq_true rfl) dL_law_394 hcs (x_kI ?_)
        refine x_pop C rfl dL_law_397 ?_
        refine x_iinc C (q := 15) ((nI k) + (1 : Int32)) [(13, .int ((nI k) + (1 : Int32))), (15, .int y), (14, .int (nI (7 * k))), (0, .ref b), (1, .ref pa), (2, ra V 87), (3, ra V 88), (4, ra V 89), (5, ra V 90), (6, ra V 91), (7, ra V 92), (8, ra V 93), (9, .int (nI fr)), (10, .int (nI t)), (11, .int (nI g)), (12, ra V 0)] dL_law_398 rfl rfl (by decide) rfl ?_
        refine x_goto C 276 dL_law_401 rfl ?_
        refine x_lv [3, 4, 5, 6, 7, 8, 9, 10, 11, 12, 13, 14, 15, 0] [(0, .ref b), (1, .ref pa), (2, ra V 87), (3, ra V 88), (4, ra V 89), (5, ra V 90), (6, ra V 91), (7, ra V 92), (8, ra V 93), (9, .int (nI fr)), (10, .int (nI t)), (11, .int (nI g)), (12, ra V 0), (13, .int ((nI k) + (1 : Int32)))] rfl ?_
        exact ih276 _ _ _ (by omega) ⟨k + 1, rfl, by rw [nI_succ], (by omega), hc276_1.memb (by omega) (hM.2.2.2.1.resolve_right h2).symm rfl rfl rfl (hM.2.2.2.2.2.2.2.1 (hM.2.2.2.1.resolve_right h2)).1.symm (hM.2.2.2.2.2.2.2.1 (hM.2.2.2.1.resolve_right h2)).2.symm hy, hc276_2.of (AR.memb_a y _ _ _ _ _ _), fun r h1 h2 => (AR.memb_a y _ _ _ _ _ _ r h1 h2).trans (hc276_3 r h1 h2)⟩
      · refine x_aload C dL_law_325 14 rfl ?_
        refine x_aload C dL_law_327 8 rfl ?_
        refine x_iload C dL_law_329 1 rfl ?_
        refine x_iald C sh_91 (vp_in_nI (n := 7 * k) (by omega) (by decide)) dL_law_331 ?_
        rw [show (nI (7 * k)).toNatClampNeg = 7 * k from nI_clamp (n := 7 * k) (by omega)]
        refine x_aload C dL_law_332 8 rfl ?_
        refine x_iload C dL_law_334 1 rfl ?_
        refine x_iconst C (1 : Int32) (by decide) dL_law_336 ?_
        refine x_iadd C dL_law_337 ?_
        refine x_v (y := nI ((7 * k) + 1)) (nI_add (7 * k) 1) ?_
        refine x_iald C sh_91 (vp_in_nI (n := (7 * k) + 1) (by omega) (by decide)) dL_law_338 ?_
        rw [show (nI ((7 * k) + 1)).toNatClampNeg = (7 * k) + 1 from nI_clamp (n := (7 * k) + 1) (by omega)]
        refine x_aload C dL_law_339 8 rfl ?_
        refine x_iload C dL_law_341 1 rfl ?_
        refine x_iconst C (2 : Int32) (by decide) dL_law_343 ?_
        refine x_iadd C dL_law_344 ?_
        refine x_v (y := nI ((7 * k) + 2)) (nI_add (7 * k) 2) ?_
        refine x_iald C sh_91 (vp_in_nI (n := (7 * k) + 2) (by omega) (by decide)) dL_law_345 ?_
        rw [show (nI ((7 * k) + 2)).toNatClampNeg = (7 * k) + 2 from nI_clamp (n := (7 * k) + 2) (by omega)]
        refine x_aload C dL_law_346 8 rfl ?_
        refine x_iload C dL_law_348 1 rfl ?_
        refine x_iconst C (4 : Int32) (by decide) dL_law_350 ?_
        refine x_iadd C dL_law_351 ?_
        refine x_v (y := nI ((7 * k) + 4)) (nI_add (7 * k) 4) ?_
        refine x_iald C sh_91 (vp_in_nI (n := (7 * k) + 4) (by omega) (by decide)) dL_law_352 ?_
        rw [show (nI ((7 * k) + 4)).toNatClampNeg = (7 * k) + 4 from nI_clamp (n := (7 * k) + 4) (by omega)]
        refine x_aload C dL_law_353 8 rfl ?_
        refine x_iload C dL_law_355 1 rfl ?_
        refine x_iconst C (5 : Int32) (by decide) dL_law_357 ?_
        refine x_iadd C dL_law_358 ?_
        refine x_v (y := nI ((7 * k) + 5)) (nI_add (7 * k) 5) ?_
        refine x_iald C sh_91 (vp_in_nI (n := (7 * k) + 5) (by omega) (by decide)) dL_law_359 ?_
        rw [show (nI ((7 * k) + 5)).toNatClampNeg = (7 * k) + 5 from nI_clamp (n := (7 * k) + 5) (by omega)]
        refine x_iload C dL_law_360 0 rfl ?_
        refine x_iconst C (0 : Int32) (by decide) dL_law_362 ?_
        refine x_callV C sh_0 (by decide) rfl [.int (τ 91 (7 * k)), .int (τ 91 ((7 * k) + 1)), .int (τ 91 ((7 * k) + 2)), .int (τ 91 ((7 * k) + 4)), .int (τ 91 ((7 * k) + 5)), .int y, .int (0 : Int32)] (c_X8_addMethod l V hV τ (τ 91 (7 * k)) (τ 91 ((7 * k) + 1)) (τ 91 ((7 * k) + 2)) (τ 91 ((7 * k) + 4)) (τ 91 ((7 * k) + 5)) y (0 : Int32) (kMeth_0 (c := nc) (n := k) hc276_1.2.1.1 (by omega) hc276_1.2.2.2.1.1 (by omega) hM.1 hM.2.1 hM.2.2.1 hM.2.2.2.2.1 hM.2.2.2.2.2.1 hM.2.2.2.2.2.2.1 (by rw [hy]; exact GC_b _))) (cwV 7 C.2.2.2.2.1 gL_law_X8_addMethod rfl rfl rfl (by decide +kernel) ⟨Nat.le_of_ble_eq_true rfl, Nat.le_of_ble_eq_true rfl⟩) rfl rfl (Nat.le_of_ble_eq_true rfl) dL_law_363 hcs (x_kI ?_)
        refine x_pop C rfl dL_law_366 ?_
        refine x_goto C 398 dL_law_367 rfl ?_
        refine x_iinc C (q := 15) ((nI k) + (1 : Int32)) [(13, .int ((nI k) + (1 : Int32))), (15, .int y), (14, .int (nI (7 * k))), (0, .ref b), (1, .ref pa), (2, ra V 87), (3, ra V 88), (4, ra V 89), (5, ra V 90), (6, ra V 91), (7, ra V 92), (8, ra V 93), (9, .int (nI fr)), (10, .int (nI t)), (11, .int (nI g)), (12, ra V 0)] dL_law_398 rfl rfl (by decide) rfl ?_
        refine x_goto C 276 dL_law_401 rfl ?_
        refine x_lv [3, 4, 5, 6, 7, 8, 9, 10, 11, 12, 13, 14, 15, 0] [(0, .ref b), (1, .ref pa), (2, ra V 87), (3, ra V 88), (4, ra V 89), (5, ra V 90), (6, ra V 91), (7, ra V 92), (8, ra V 93), (9, .int (nI fr)), (10, .int (nI t)), (11, .int (nI g)), (12, ra V 0), (13, .int ((nI k) + (1 : Int32)))] rfl ?_
        exact ih276 _ _ _ (by omega) ⟨k + 1, rfl, by rw [nI_succ], (by omega), hc276_1.memb (by omega) h2.symm rfl rfl rfl rfl rfl hy, hc276_2.of (AR.memb_a y _ _ _ _ _ _), fun r h1 h2 => (AR.memb_a y _ _ _ _ _ _ r h1 h2).trans (hc276_3 r h1 h2)⟩
    · refine x_bif_eq C 311 dL_law_304 rfl (fun h3 => ?_) (fun h3 => ?_)
      · refine x_iconst C (1 : Int32) (by decide) dL_law_311 ?_
        exact hJ312 _ (by rw [h3]; rfl)
      · refine x_iconst C (0 : Int32) (by decide) dL_law_307 ?_
        refine x_goto C 312 dL_law_308 rfl ?_
        exact hJ312 _ (by rw [h3]; rfl)

set_option maxHeartbeats 4000000 in
set_option maxRecDepth 100000 in
theorem F_results {p : Program} {l : Launch} {e : Env} {s : State} {m : MethodId} {args : Array Value} {below : List Frame} {meth : Method} {c : Code} {V : xV} {E : va_W} {A : Nat → Prop} {Q : State → Prop} {cells slots b pa fr t g : Nat} (C : XC p s m args c cL_law 17 RL wsL_law V E A) (hV : xInj V) (hcs : cells + 0 ≤ room_1.cells ∧ slots + 0 ≤ room_1.slots) {nr nc nl nm ne nx : Nat} {σ a : xS} (hb : nc ≤ 4 ∧ nl ≤ 4 ∧ nm ≤ 7 ∧ ne ≤ 14 ∧ nx ≤ 6) (hR : AR (nI g) nc nl nm ne 0 σ) (hA : AV nr nc nl nm ne nx σ) (ha : ∀ r, 87 ≤ r → r < 94 → σ r = a r) (K : ∀ τ : xS, AR (nI g) nc nl nm ne nx τ → AV nr nc nl nm ne nx τ → (∀ r, 87 ≤ r → r < 94 → τ r = a r) → X p l e room_1 s m args below meth c V E A 17 cells slots Q τ 647 [(0, .ref b), (1, .ref pa), (2, ra V 87), (3, ra V 88), (4, ra V 89), (5, ra V 90), (6, ra V 91), (7, ra V 92), (8, ra V 93), (9, .int (nI fr)), (10, .int (nI t)), (11, .int (nI g)), (12, ra V 0)] []) : X p l e room_1 s m args below meth c V E A 17 cells slots Q σ 594 [(0, .ref b), (1, .ref pa), (2, ra V 87), (3, ra V 88), (4, ra V 89), (5, ra V 90), (6, ra V 91), (7, ra V 92), (8, ra V 93), (9, .int (nI fr)), (10, .int (nI t)), (11, .int (nI g)), (12, ra V 0)] [] := by
  refine x_iconst C (0 : Int32) (by decide) dL_law_594 ?_
  refine x_istore C [(13, .int (0 : Int32)), (0, .ref b), (1, .ref pa), (2, ra V 87), (3, ra V 88), (4, ra V 89), (5, ra V 90), (6, ra V 91), (7, ra V 92), (8, ra V 93), (9, .int (nI fr)), (10, .int (nI t)), (11, .int (nI g)), (12, ra V 0)] dL_law_595 (by decide) rfl ?_
  refine x_lv [1, 2, 3, 4, 5, 6, 7, 8, 9, 10, 11, 12, 13, 0] [(0, .ref b), (1, .ref pa), (2, ra V 87), (3, ra V 88), (4, ra V 89), (5, ra V 90), (6, ra V 91), (7, ra V 92), (8, ra V 93), (9, .int (nI fr)), (10, .int (nI t)), (11, .int (nI g)), (12, ra V 0), (13, .int (0 : Int32))] rfl ?_
  refine x_loop (fun μ τ lv_ => ∃ (k : Nat), μ = nx - k ∧ lv_ = [(0, .ref b), (1, .ref pa), (2, ra V 87), (3, ra V 88), (4, ra V 89), (5, ra V 90), (6, ra V 91), (7, ra V 92), (8, ra V 93), (9, .int (nI fr)), (10, .int (nI t)), (11, .int (nI g)), (12, ra V 0), (13, .int (nI k))] ∧ k ≤ nx ∧ AR (nI g) nc nl nm ne k τ ∧ AV nr nc nl nm ne nx τ ∧ ∀ r, 87 ≤ r → r < 94 → τ r = a r) ⟨_, ⟨0, rfl, rfl, Nat.zero_le _, hR, hA, ha⟩⟩ ?_
  rintro μ597 τ _ ⟨k, hμ597, rfl, hc597_0, hc597_1, hc597_2, hc597_3⟩ ih597
  refine x_iload C dL_law_597 13 rfl ?_
  refine x_aload_n C dL_law_599 rfl 2 rfl ?_
  refine x_iconst C (5 : Int32) (by decide) dL_law_600 ?_
  refine x_iald C sh_87 (vp_in_nI (n := 5) (by omega) (by decide)) dL_law_601 ?_
  rw [show (5 : Int32).toNatClampNeg = 5 from nI_clamp (n := 5) (by omega)]
  refine x_v (y := nI nx) (hc597_2.2.2.2.2.2.2.2.2.2.2.2) ?_
  refine x_icmp_ge C 647 dL_law_602 rfl (fun h1 => ?_) (fun h1 => ?_)
  · refine x_lv [0, 1, 2, 3, 4, 5, 6, 7, 8, 9, 10, 11, 12] [(0, .ref b), (1, .ref pa), (2, ra V 87), (3, ra V 88), (4, ra V 89), (5, ra V 90), (6, ra V 91), (7, ra V 92), (8, ra V 93), (9, .int (nI fr)), (10, .int (nI t)), (11, .int (nI g)), (12, ra V 0)] rfl ?_
    have hkn : k = nx := Nat.le_antisymm hc597_0 (Nat.le_of_not_lt (fun hq => nI_ge hq (by omega) h1))
    subst hkn
    exact K τ hc597_1 hc597_2 hc597_3
  · have hkn : k < nx := Nat.lt_of_not_le (fun hq => h1 (nI_le hq (by omega)))
    refine x_aload C dL_law_605 12 rfl ?_
    refine x_aload C dL_law_607 8 rfl ?_
    refine x_iconst C (2 : Int32) (by decide) dL_law_609 ?_
    refine x_iload C dL_law_610 13 rfl ?_
    refine x_imul C dL_law_612 ?_
    refine x_v (y := nI (2 * k)) (pk_mul 2 k) ?_
    refine x_iald C sh_93 (vp_in_nI (n := 2 * k) (by omega) (by decide)) dL_law_613 ?_
    rw [show (nI (2 * k)).toNatClampNeg = 2 * k from nI_clamp (n := 2 * k) (by omega)]
    refine x_aload C dL_law_614 8 rfl ?_
    refine x_iconst C (2 : Int32) (by decide) dL_law_616 ?_
    refine x_iload C dL_law_617 13 rfl ?_
    refine x_imul C dL_law_619 ?_
    refine x_v (y := nI (2 * k)) (pk_mul 2 k) ?_
    refine x_iconst C (1 : Int32) (by decide) dL_law_620 ?_
    refine x_iadd C dL_law_621 ?_
    refine x_v (y := nI ((2 * k) + 1)) (nI_add (2 * k) 1) ?_
    refine x_iald C sh_93 (vp_in_nI (n := (2 * k) + 1) (by omega) (by decide)) dL_law_622 ?_
    rw [show (nI ((2 * k) + 1)).toNatClampNeg = (2 * k) + 1 from nI_clamp (n := (2 * k) + 1) (by omega)]
    refine x_iload C dL_law_623 11 rfl ?_
    refine x_callS C [.int (τ 93 ((2 * k) + 1)), .int (nI g)] (c_L_isTrue l V hV τ (τ 93 ((2 * k) + 1)) (nI g)) (va_cwS 2 C.2.2.2.2.1 gL_law_L_isTrue rfl rfl rfl (by decide +kernel) ⟨Nat.le_of_ble_eq_true rfl, Nat.le_of_ble_eq_true rfl⟩) rfl rfl (Nat.le_of_ble_eq_true rfl) dL_law_625 hcs (x_kI ?_)
    refine x_jP (P := fun y => y = bI (!isTrB (τ 93 (2 * k + 1)) (nI g))) 636 (fun y => [(0, .ref b), (1, .ref pa), (2, ra V 87), (3, ra V 88), (4, ra V 89), (5, ra V 90), (6, ra V 91), (7, ra V 92), (8, ra V 93), (9, .int (nI fr)), (10, .int (nI t)), (11, .int (nI g)), (12, ra V 0), (13, .int (nI k))]) (fun y => [.int y, .int (τ 93 (2 * k)), ra V 0]) (fun y hy => ?_) (fun hJ636 => ?_)
    · refine x_iconst C (0 : Int32) (by decide) dL_law_636 ?_
      refine x_callV C sh_0 (by decide) rfl [.int (τ 93 (2 * k)), .int y, .int (0 : Int32)] (c_X8_addResult l V hV τ (τ 93 (2 * k)) y (0 : Int32) (kRes_0 (e := ne) (n := k) hc597_1.2.2.2.2.1.1 (by omega) hc597_1.2.2.2.2.2.1 (by omega) (by obtain ⟨⟨j, j1, j2⟩, -⟩ := hc597_2.2.2.2.2.2.1.2 k hkn; rw [j2]; exact vp_in_nI j1 (by omega)) (by rw [hy]; exact GC_b _))) (cwV 3 C.2.2.2.2.1 gL_law_X8_addResult rfl rfl rfl (by decide +kernel) ⟨Nat.le_of_ble_eq_true rfl, Nat.le_of_ble_eq_true rfl⟩) rfl rfl (Nat.le_of_ble_eq_true rfl) dL_law_637 hcs (x_kI ?_)
      refine x_pop C rfl dL_law_640 ?_
      refine x_iinc C (q := 13) ((nI k) + (1 : Int32)) [(13, .int ((nI k) + (1 : Int32))), (0, .ref b), (1, .ref pa), (2, ra V 87), (3, ra V 88), (4, ra V 89), (5, ra V 90), (6, ra V 91), (7, ra V 92), (8, ra V 93), (9, .int (nI fr)), (10, .int (nI t)), (11, .int (nI g)), (12, ra V 0)] dL_law_641 rfl rfl (by decide) rfl ?_
      refine x_goto C 597 dL_law_644 rfl ?_
      refine x_lv [1, 2, 3, 4, 5, 6, 7, 8, 9, 10, 11, 12, 13, 0] [(0, .ref b), (1, .ref pa), (2, ra V 87), (3, ra V 88), (4, ra V 89), (5, ra V 90), (6, ra V 91), (7, ra V 92), (8, ra V 93), (9, .int (nI fr)), (10, .int (nI t)), (11, .int (nI g)), (12, ra V 0), (13, .int ((nI k) + (1 : Int32)))] rfl ?_
      exact ih597 _ _ _ (by omega) ⟨k + 1, rfl, by rw [nI_succ], (by omega), hc597_1.res (by omega) rfl hy, hc597_2.of (AR.res_a y _), fun r h1 h2 => (AR.res_a y _ r h1 h2).trans (hc597_3 r h1 h2)⟩
    · refine x_bif_eq C 635 dL_law_628 rfl (fun h2 => ?_) (fun h2 => ?_)
      · refine x_iconst C (1 : Int32) (by decide) dL_law_635 ?_
        exact hJ636 _ (by rw [h2]; rfl)
      · refine x_iconst C (0 : Int32) (by decide) dL_law_631 ?_
        refine x_goto C 636 dL_law_632 rfl ?_
        exact hJ636 _ (by rw [h2]; rfl)

set_option maxHeartbeats 4000000 in
set_option maxRecDepth 100000 in
theorem F_exprs {p : Program} {l : Launch} {e : Env} {s : State} {m : MethodId} {args : Array Value} {below : List Frame} {meth : Method} {c : Code} {V : xV} {E : va_W} {A : Nat → Prop} {Q : State → Prop} {cells slots b pa fr t g : Nat} (C : XC p s m args c cL_law 17 RL wsL_law V E A) (hV : xInj V) (hcs : cells + 0 ≤ room_1.cells ∧ slots + 0 ≤ room_1.slots) {nr nc nl nm ne nx : Nat} {σ a : xS} (hb : nc ≤ 4 ∧ nl ≤ 4 ∧ nm ≤ 7 ∧ ne ≤ 14 ∧ nx ≤ 6) (hR : AR (nI g) nc nl nm 0 0 σ) (hA : AV nr nc nl nm ne nx σ) (ha : ∀ r, 87 ≤ r → r < 94 → σ r = a r) (K : ∀ τ : xS, AR (nI g) nc nl nm ne 0 τ → AV nr nc nl nm ne nx τ → (∀ r, 87 ≤ r → r < 94 → τ r = a r) → X p l e room_1 s m args below meth c V E A 17 cells slots Q τ 594 [(0, .ref b), (1, .ref pa), (2, ra V 87), (3, ra V 88), (4, ra V 89), (5, ra V 90), (6, ra V 91), (7, ra V 92), (8, ra V 93), (9, .int (nI fr)), (10, .int (nI t)), (11, .int (nI g)), (12, ra V 0)] []) : X p l e room_1 s m args below meth c V E A 17 cells slots Q σ 404 [(0, .ref b), (1, .ref pa), (2, ra V 87), (3, ra V 88), (4, ra V 89), (5, ra V 90), (6, ra V 91), (7, ra V 92), (8, ra V 93), (9, .int (nI fr)), (10, .int (nI t)), (11, .int (nI g)), (12, ra V 0)] [] := by
  refine x_iconst C (0 : Int32) (by decide) dL_law_404 ?_
  refine x_istore C [(13, .int (0 : Int32)), (0, .ref b), (1, .ref pa), (2, ra V 87), (3, ra V 88), (4, ra V 89), (5, ra V 90), (6, ra V 91), (7, ra V 92), (8, ra V 93), (9, .int (nI fr)), (10, .int (nI t)), (11, .int (nI g)), (12, ra V 0)] dL_law_405 (by decide) rfl ?_
  refine x_lv [1, 2, 3, 4, 5, 6, 7, 8, 9, 10, 11, 12, 13, 0] [(0, .ref b), (1, .ref pa), (2, ra V 87), (3, ra V 88), (4, ra V 89), (5, ra V 90), (6, ra V 91), (7, ra V 92), (8, ra V 93), (9, .int (nI fr)), (10, .int (nI t)), (11, .int (nI g)), (12, ra V 0), (13, .int (0 : Int32))] rfl ?_
  refine x_loop (fun μ τ lv_ => ∃ (k : Nat), μ = ne - k ∧ lv_ = [(0, .ref b), (1, .ref pa), (2, ra V 87), (3, ra V 88), (4, ra V 89), (5, ra V 90), (6, ra V 91), (7, ra V 92), (8, ra V 93), (9, .int (nI fr)), (10, .int (nI t)), (11, .int (nI g)), (12, ra V 0), (13, .int (nI k))] ∧ k ≤ ne ∧ AR (nI g) nc nl nm k 0 τ ∧ AV nr nc nl nm ne nx τ ∧ ∀ r, 87 ≤ r → r < 94 → τ r = a r) ⟨_, ⟨0, rfl, rfl, Nat.zero_le _, hR, hA, ha⟩⟩ ?_
  rintro μ407 τ _ ⟨k, hμ407, rfl, hc407_0, hc407_1, hc407_2, hc407_3⟩ ih407
  refine x_iload C dL_law_407 13 rfl ?_
  refine x_aload_n C dL_law_409 rfl 2 rfl ?_
  refine x_iconst C (4 : Int32) (by decide) dL_law_410 ?_
  refine x_iald C sh_87 (vp_in_nI (n := 4) (by omega) (by decide)) dL_law_411 ?_
  rw [show (4 : Int32).toNatClampNeg = 4 from nI_clamp (n := 4) (by omega)]
  refine x_v (y := nI ne) (hc407_2.2.2.2.2.2.2.2.2.2.2.1) ?_
  refine x_icmp_ge C 594 dL_law_412 rfl (fun h1 => ?_) (fun h1 => ?_)
  · refine x_lv [0, 1, 2, 3, 4, 5, 6, 7, 8, 9, 10, 11, 12] [(0, .ref b), (1, .ref pa), (2, ra V 87), (3, ra V 88), (4, ra V 89), (5, ra V 90), (6, ra V 91), (7, ra V 92), (8, ra V 93), (9, .int (nI fr)), (10, .int (nI t)), (11, .int (nI g)), (12, ra V 0)] rfl ?_
    have hkn : k = ne := Nat.le_antisymm hc407_0 (Nat.le_of_not_lt (fun hq => nI_ge hq (by omega) h1))
    subst hkn
    exact K τ hc407_1 hc407_2 hc407_3
  · have hkn : k < ne := Nat.lt_of_not_le (fun hq => h1 (nI_le hq (by omega)))
    have hle1 : k + 1 ≤ ne := hkn
    have hlt : ne - (k + 1) < μ407 := by omega
    obtain ⟨⟨mt, hmt, e1, hs1, hp1⟩, hkind, h0nc, h45, hn45, p3, p4, p5, h4n5, hn5⟩ := hc407_2.2.2.2.2.1.2 k hkn
    have hRM := hc407_1.2.2.2.1
    have hm7 := hc407_2.2.2.2.1.1
    have hIM : mIsM τ (τ 92 (6 * k + 1)) = true := by rw [e1]; exact isM_1 hRM hm7 hmt hs1
    have z5 : τ 205 0 = nI k := hc407_1.2.2.2.2.1.1
    have z1 : τ 201 0 = nI nc := hc407_1.2.1.1
    have m51 : ∀ j, j < k → vAt 50 (τ 51) (nI j) = τ 92 (6 * j + 1) := fun j hj => by rw [vAt_n (by omega) (by decide), hc407_1.2.2.2.2.1.2.2.1, rwf_at hj]
    refine x_bipush C (6 : Int32) (by decide) dL_law_415 ?_
    refine x_iload C dL_law_417 13 rfl ?_
    refine x_imul C dL_law_419 ?_
    refine x_v (y := nI (6 * k)) (pk_mul 6 k) ?_
    refine x_istore C [(14, .int (nI (6 * k))), (0, .ref b), (1, .ref pa), (2, ra V 87), (3, ra V 88), (4, ra V 89), (5, ra V 90), (6, ra V 91), (7, ra V 92), (8, ra V 93), (9, .int (nI fr)), (10, .int (nI t)), (11, .int (nI g)), (12, ra V 0), (13, .int (nI k))] dL_law_420 (by decide) rfl ?_
    refine x_aload C dL_law_422 8 rfl ?_
    refine x_iload C dL_law_424 0 rfl ?_
    refine x_iald C sh_92 (vp_in_nI (n := 6 * k) (by omega) (by decide)) dL_law_426 ?_
    rw [show (nI (6 * k)).toNatClampNeg = 6 * k from nI_clamp (n := 6 * k) (by omega)]
    refine x_istore C [(15, .int (τ 92 (6 * k))), (14, .int (nI (6 * k))), (0, .ref b), (1, .ref pa), (2, ra V 87), (3, ra V 88), (4, ra V 89), (5, ra V 90), (6, ra V 91), (7, ra V 92), (8, ra V 93), (9, .int (nI fr)), (10, .int (nI t)), (11, .int (nI g)), (12, ra V 0), (13, .int (nI k))] dL_law_427 (by decide) rfl ?_
    refine x_jS (P := fun u y => AR (nI g) nc nl nm (k + 1) 0 u ∧ AV nr nc nl nm ne nx u ∧ (∀ r, 87 ≤ r → r < 94 → u r = a r) ∧ y = nI k) 577 (fun y => [(15, .int (τ 92 (6 * k))), (14, .int (nI (6 * k))), (0, .ref b), (1, .ref pa), (2, ra V 87), (3, ra V 88), (4, ra V 89), (5, ra V 90), (6, ra V 91), (7, ra V 92), (8, ra V 93), (9, .int (nI fr)), (10, .int (nI t)), (11, .int (nI g)), (12, ra V 0), (13, .int (nI k))]) (fun y => [.int y]) (fun u577 md hmd => ?_) (fun hJ577 => ?_)
    · obtain ⟨hR3, hA3, ha3, emd⟩ := hmd
      subst emd
      refine x_istore C [(16, .int (nI k)), (15, .int (τ 92 (6 * k))), (14, .int (nI (6 * k))), (0, .ref b), (1, .ref pa), (2, ra V 87), (3, ra V 88), (4, ra V 89), (5, ra V 90), (6, ra V 91), (7, ra V 92), (8, ra V 93), (9, .int (nI fr)), (10, .int (nI t)), (11, .int (nI g)), (12, ra V 0), (13, .int (nI k))] dL_law_577 (by decide) rfl ?_
      refine x_iload C dL_law_579 0 rfl ?_
      refine x_iload C dL_law_581 16 rfl ?_
      refine x_icmp_eq C 588 dL_law_583 rfl (fun h2 => ?_) (fun h2 => absurd h2 (fun q => q rfl))
      refine x_iinc C (q := 16) ((nI k) + (1 : Int32)) [(13, .int ((nI k) + (1 : Int32))), (16, .int (nI k)), (15, .int (τ 92 (6 * k))), (14, .int (nI (6 * k))), (0, .ref b), (1, .ref pa), (2, ra V 87), (3, ra V 88), (4, ra V 89), (5, ra V 90), (6, ra V 91), (7, ra V 92), (8, ra V 93), (9, .int (nI fr)), (10, .int (nI t)), (11, .int (nI g)), (12, ra V 0)] dL_law_588 rfl rfl (by decide) rfl ?_
      refine x_goto C 407 dL_law_591 rfl ?_
      refine x_lv [4, 5, 6, 7, 8, 9, 10, 11, 12, 13, 14, 15, 16, 0] [(0, .ref b), (1, .ref pa), (2, ra V 87), (3, ra V 88), (4, ra V 89), (5, ra V 90), (6, ra V 91), (7, ra V 92), (8, ra V 93), (9, .int (nI fr)), (10, .int (nI t)), (11, .int (nI g)), (12, ra V 0), (13, .int ((nI k) + (1 : Int32)))] rfl ?_
      exact ih407 _ _ _ hlt ⟨k + 1, rfl, by rw [nI_succ], hle1, hR3, hA3, ha3⟩
    · refine x_iload C dL_law_429 0 rfl ?_
      refine x_if_ne C 456 dL_law_431 rfl (fun h3 => ?_) (fun h3 => ?_)
      · refine x_iload C dL_law_456 0 rfl ?_
        refine x_iconst C (3 : Int32) (by decide) dL_law_458 ?_
        refine x_icmp_ge C 488 dL_law_459 rfl (fun h4 => ?_) (fun h4 => ?_)
        · refine x_iload C dL_law_488 0 rfl ?_
          refine x_iconst C (3 : Int32) (by decide) dL_law_490 ?_
          refine x_icmp_ne C 516 dL_law_491 rfl (fun h5 => ?_) (fun h5 => ?_)
          · refine x_iload C dL_law_516 0 rfl ?_
            refine x_iconst C (4 : Int32) (by decide) dL_law_518 ?_
            refine x_icmp_ne C 544 dL_law_519 rfl (fun h6 => ?_) (fun h6 => ?_)
            · have q0 : τ 92 (6 * k) = 5 := by
                rcases hkind with (z | z | z | z) | (z | z)
                · exact absurd z h3
                · exact absurd h4 (by rw [z]; decide)
                · exact absurd h4 (by rw [z]; decide)
                · exact absurd z h5
                · exact absurd z h6
                · exact z
              have w45 := h45 (Or.inr q0)
              obtain ⟨j, j1, j2, j3⟩ := p3.resolve_left w45.2
              have vev : vAt 50 (τ 51) (τ 92 (6 * k + 3)) = τ 92 (6 * k + 1) := by rw [j2, m51 j j1]; exact j3
              have vpe : vp_in (τ 92 (6 * k + 3)) k := by rw [j2]; exact vp_in_nI j1 (by omega)
              refine x_aload C dL_law_544 14 rfl ?_
              refine x_aload C dL_law_546 9 rfl ?_
              refine x_iload C dL_law_548 1 rfl ?_
              refine x_iconst C (3 : Int32) (by decide) dL_law_550 ?_
              refine x_iadd C dL_law_551 ?_
              refine x_v (y := nI ((6 * k) + 3)) (nI_add (6 * k) 3) ?_
              refine x_iald C sh_92 (vp_in_nI (n := (6 * k) + 3) (by omega) (by decide)) dL_law_552 ?_
              rw [show (nI ((6 * k) + 3)).toNatClampNeg = (6 * k) + 3 from nI_clamp (n := (6 * k) + 3) (by omega)]
              refine x_aload C dL_law_553 9 rfl ?_
              refine x_iload C dL_law_555 1 rfl ?_
              refine x_iconst C (2 : Int32) (by decide) dL_law_557 ?_
              refine x_iadd C dL_law_558 ?_
              refine x_v (y := nI ((6 * k) + 2)) (nI_add (6 * k) 2) ?_
              refine x_iald C sh_92 (vp_in_nI (n := (6 * k) + 2) (by omega) (by decide)) dL_law_559 ?_
              rw [show (nI ((6 * k) + 2)).toNatClampNeg = (6 * k) + 2 from nI_clamp (n := (6 * k) + 2) (by omega)]
              refine x_aload C dL_law_560 9 rfl ?_
              refine x_iload C dL_law_562 1 rfl ?_
              refine x_iconst C (4 : Int32) (by decide) dL_law_564 ?_
              refine x_iadd C dL_law_565 ?_
              refine x_v (y := nI ((6 * k) + 4)) (nI_add (6 * k) 4) ?_
              refine x_iald C sh_92 (vp_in_nI (n := (6 * k) + 4) (by omega) (by decide)) dL_law_566 ?_
              rw [show (nI ((6 * k) + 4)).toNatClampNeg = (6 * k) + 4 from nI_clamp (n := (6 * k) + 4) (by omega)]
              refine x_aload C dL_law_567 9 rfl ?_
              refine x_iload C dL_law_569 1 rfl ?_
              refine x_iconst C (5 : Int32) (by decide) dL_law_571 ?_
              refine x_iadd C dL_law_572 ?_
              refine x_v (y := nI ((6 * k) + 5)) (nI_add (6 * k) 5) ?_
              refine x_iald C sh_92 (vp_in_nI (n := (6 * k) + 5) (by omega) (by decide)) dL_law_573 ?_
              rw [show (nI ((6 * k) + 5)).toNatClampNeg = (6 * k) + 5 from nI_clamp (n := (6 * k) + 5) (by omega)]
              refine x_callV C sh_0 (by decide) rfl [.int (τ 92 ((6 * k) + 3)), .int (τ 92 ((6 * k) + 2)), .int (τ 92 ((6 * k) + 4)), .int (τ 92 ((6 * k) + 5))] (c_X8_addCall l V hV τ (τ 92 ((6 * k) + 3)) (τ 92 ((6 * k) + 2)) (τ 92 ((6 * k) + 4)) (τ 92 ((6 * k) + 5)) (kCall_0 z5 (by omega) vpe w45.1 (p4.imp id (fun ⟨j, j1, j2, _⟩ => by rw [j2]; exact vp_in_nI j1 (by omega))) (p5.imp id (fun ⟨j, j1, j2, _⟩ => by rw [j2]; exact vp_in_nI j1 (by omega))) h4n5 (p4.imp id (fun ⟨j, j1, j2, j3⟩ => by rw [j2, m51 j j1, j3, vev])) (p5.imp id (fun ⟨j, j1, j2, j3⟩ => by rw [j2, m51 j j1, j3, vev])))) (cwV 4 C.2.2.2.2.1 gL_law_X8_addCall rfl rfl rfl (by decide +kernel) ⟨Nat.le_of_ble_eq_true rfl, Nat.le_of_ble_eq_true rfl⟩) rfl rfl (Nat.le_of_ble_eq_true rfl) dL_law_574 hcs (x_kI ?_)
              exact hJ577 _ _ (⟨hc407_1.e2 (by omega) q0.symm vev (by unfold dtl; rw [if_neg (by rw [q0]; decide)]) rfl rfl rfl, hc407_2.of (AR.e2_a _ _ _ _ _ _), fun r h1 h2 => (AR.e2_a _ _ _ _ _ _ r h1 h2).trans (hc407_3 r h1 h2), z5⟩)
            · have q0 := h6
              have q5 : ¬ τ 92 (6 * k) = 5 := by rw [q0]; decide
              have w45 := h45 (Or.inl q0)
              obtain ⟨j, j1, j2, j3⟩ := p3.resolve_left w45.2
              have vev : vAt 50 (τ 51) (τ 92 (6 * k + 3)) = τ 92 (6 * k + 1) := by rw [j2, m51 j j1]; exact j3
              have vpe : vp_in (τ 92 (6 * k + 3)) k := by rw [j2]; exact vp_in_nI j1 (by omega)
              refine x_aload C dL_law_522 14 rfl ?_
              refine x_aload C dL_law_524 9 rfl ?_
              refine x_iload C dL_law_526 1 rfl ?_
              refine x_iconst C (3 : Int32) (by decide) dL_law_528 ?_
              refine x_iadd C dL_law_529 ?_
              refine x_v (y := nI ((6 * k) + 3)) (nI_add (6 * k) 3) ?_
              refine x_iald C sh_92 (vp_in_nI (n := (6 * k) + 3) (by omega) (by decide)) dL_law_530 ?_
              rw [show (nI ((6 * k) + 3)).toNatClampNeg = (6 * k) + 3 from nI_clamp (n := (6 * k) + 3) (by omega)]
              refine x_aload C dL_law_531 9 rfl ?_
              refine x_iload C dL_law_533 1 rfl ?_
              refine x_iconst C (2 : Int32) (by decide) dL_law_535 ?_
              refine x_iadd C dL_law_536 ?_
              refine x_v (y := nI ((6 * k) + 2)) (nI_add (6 * k) 2) ?_
              refine x_iald C sh_92 (vp_in_nI (n := (6 * k) + 2) (by omega) (by decide)) dL_law_537 ?_
              rw [show (nI ((6 * k) + 2)).toNatClampNeg = (6 * k) + 2 from nI_clamp (n := (6 * k) + 2) (by omega)]
              refine x_callV C sh_0 (by decide) rfl [.int (τ 92 ((6 * k) + 3)), .int (τ 92 ((6 * k) + 2))] (c_X8_addFieldOf l V hV τ (τ 92 ((6 * k) + 3)) (τ 92 ((6 * k) + 2)) (kFOf_0 z5 (by omega) vpe w45.1)) (cwV 2 C.2.2.2.2.1 gL_law_X8_addFieldOf rfl rfl rfl (by decide +kernel) ⟨Nat.le_of_ble_eq_true rfl, Nat.le_of_ble_eq_true rfl⟩) rfl rfl (Nat.le_of_ble_eq_true rfl) dL_law_538 hcs (x_kI ?_)
              refine x_goto C 577 dL_law_541 rfl ?_
              exact hJ577 _ _ (⟨hc407_1.e2 (by omega) q0.symm vev (by unfold dtl; rw [if_neg (by rw [q0]; decide)]) rfl (hn5 q5).1.symm (hn5 q5).2.symm, hc407_2.of (AR.e2_a _ _ _ _ _ _), fun r h1 h2 => (AR.e2_a _ _ _ _ _ _ r h1 h2).trans (hc407_3 r h1 h2), z5⟩)
          · have q0 := h5
            have q45 : ¬ (τ 92 (6 * k) = 4 ∨ τ 92 (6 * k) = 5) := by rw [q0]; decide
            have q5 : ¬ τ 92 (6 * k) = 5 := by rw [q0]; decide
            refine x_aload C dL_law_494 14 rfl ?_
            refine x_aload C dL_law_496 9 rfl ?_
            refine x_iload C dL_law_498 1 rfl ?_
            refine x_iconst C (1 : Int32) (by decide) dL_law_500 ?_
            refine x_iadd C dL_law_501 ?_
            refine x_v (y := nI ((6 * k) + 1)) (nI_add (6 * k) 1) ?_
            refine x_iald C sh_92 (vp_in_nI (n := (6 * k) + 1) (by omega) (by decide)) dL_law_502 ?_
            rw [show (nI ((6 * k) + 1)).toNatClampNeg = (6 * k) + 1 from nI_clamp (n := (6 * k) + 1) (by omega)]
            refine x_aload C dL_law_503 9 rfl ?_
            refine x_iload C dL_law_505 1 rfl ?_
            refine x_iconst C (2 : Int32) (by decide) dL_law_507 ?_
            refine x_iadd C dL_law_508 ?_
            refine x_v (y := nI ((6 * k) + 2)) (nI_add (6 * k) 2) ?_
            refine x_iald C sh_92 (vp_in_nI (n := (6 * k) + 2) (by omega) (by decide)) dL_law_509 ?_
            rw [show (nI ((6 * k) + 2)).toNatClampNeg = (6 * k) + 2 from nI_clamp (n := (6 * k) + 2) (by omega)]
            refine x_callV C sh_0 (by decide) rfl [.int (τ 92 ((6 * k) + 1)), .int (τ 92 ((6 * k) + 2))] (c_X8_addArgument l V hV τ (τ 92 ((6 * k) + 1)) (τ 92 ((6 * k) + 2)) (kArg_0 hIM (by rw [e1]; exact par_1 hRM hm7 hmt (hp1 q0)) z5 (by omega))) (cwV 2 C.2.2.2.2.1 gL_law_X8_addArgument rfl rfl rfl (by decide +kernel) ⟨Nat.le_of_ble_eq_true rfl, Nat.le_of_ble_eq_true rfl⟩) rfl rfl (Nat.le_of_ble_eq_true rfl) dL_law_510 hcs (x_kI ?_)
            refine x_goto C 577 dL_law_513 rfl ?_
            exact hJ577 _ _ (⟨hc407_1.e1 (by omega) q0.symm rfl (by unfold dtl; rw [if_neg (by rw [q0]; decide)]) (hn45 q45).symm (hn5 q5).1.symm (hn5 q5).2.symm, hc407_2.of (AR.e1_a _ _ _), fun r h1 h2 => (AR.e1_a _ _ _ r h1 h2).trans (hc407_3 r h1 h2), z5⟩)
        · have h12 : τ 92 (6 * k) = 1 ∨ τ 92 (6 * k) = 2 := by
            rcases hkind with (z | z | z | z) | (z | z)
            · exact absurd z h3
            · exact Or.inl z
            · exact Or.inr z
            · exact absurd (by rw [z]; decide) h4
            · exact absurd (by rw [z]; decide) h4
            · exact absurd (by rw [z]; decide) h4
          have q45 : ¬ (τ 92 (6 * k) = 4 ∨ τ 92 (6 * k) = 5) := by rcases h12 with z | z <;> rw [z] <;> decide
          have q5 : ¬ τ 92 (6 * k) = 5 := by rcases h12 with z | z <;> rw [z] <;> decide
          refine x_aload C dL_law_462 14 rfl ?_
          refine x_aload C dL_law_464 9 rfl ?_
          refine x_iload C dL_law_466 1 rfl ?_
          refine x_iconst C (1 : Int32) (by decide) dL_law_468 ?_
          refine x_iadd C dL_law_469 ?_
          refine x_v (y := nI ((6 * k) + 1)) (nI_add (6 * k) 1) ?_
          refine x_iald C sh_92 (vp_in_nI (n := (6 * k) + 1) (by omega) (by decide)) dL_law_470 ?_
          rw [show (nI ((6 * k) + 1)).toNatClampNeg = (6 * k) + 1 from nI_clamp (n := (6 * k) + 1) (by omega)]
          refine x_iload C dL_law_471 0 rfl ?_
          refine x_iconst C (2 : Int32) (by decide) dL_law_473 ?_
          refine x_icmp_ne C 481 dL_law_474 rfl (fun h7 => ?_) (fun h7 => ?_)
          · refine x_iconst C (0 : Int32) (by decide) dL_law_481 ?_
            refine x_callV C sh_0 (by decide) rfl [.int (τ 92 ((6 * k) + 1)), .int (0 : Int32)] (c_X8_addPlain l V hV τ (τ 92 ((6 * k) + 1)) false (kPlain_0 hIM z5 (by omega))) (cwV 2 C.2.2.2.2.1 gL_law_X8_addPlain rfl rfl rfl (by decide +kernel) ⟨Nat.le_of_ble_eq_true rfl, Nat.le_of_ble_eq_true rfl⟩) rfl rfl (Nat.le_of_ble_eq_true rfl) dL_law_482 hcs (x_kI ?_)
            refine x_goto C 577 dL_law_485 rfl ?_
            exact hJ577 _ _ (⟨hc407_1.e1 (by omega) (by rw [h12.resolve_right h7]; rfl) rfl (by unfold dtl; rw [if_pos h12]) (hn45 q45).symm (hn5 q5).1.symm (hn5 q5).2.symm, hc407_2.of (AR.e1_a _ _ _), fun r h1 h2 => (AR.e1_a _ _ _ r h1 h2).trans (hc407_3 r h1 h2), z5⟩)
          · refine x_iconst C (1 : Int32) (by decide) dL_law_477 ?_
            refine x_goto C 482 dL_law_478 rfl ?_
            refine x_callV C sh_0 (by decide) rfl [.int (τ 92 ((6 * k) + 1)), .int (1 : Int32)] (c_X8_addPlain l V hV τ (τ 92 ((6 * k) + 1)) true (kPlain_0 hIM z5 (by omega))) (cwV 2 C.2.2.2.2.1 gL_law_X8_addPlain rfl rfl rfl (by decide +kernel) ⟨Nat.le_of_ble_eq_true rfl, Nat.le_of_ble_eq_true rfl⟩) rfl rfl (Nat.le_of_ble_eq_true rfl) dL_law_482 hcs (x_kI ?_)
            refine x_goto C 577 dL_law_485 rfl ?_
            exact hJ577 _ _ (⟨hc407_1.e1 (by omega) (by rw [h7]; rfl) rfl (by unfold dtl; rw [if_pos h12]) (hn45 q45).symm (hn5 q5).1.symm (hn5 q5).2.symm, hc407_2.of (AR.e1_a _ _ _), fun r h1 h2 => (AR.e1_a _ _ _ r h1 h2).trans (hc407_3 r h1 h2), z5⟩)
      · have q0 := h3
        have q45 : ¬ (τ 92 (6 * k) = 4 ∨ τ 92 (6 * k) = 5) := by rw [q0]; decide
        have q5 : ¬ τ 92 (6 * k) = 5 := by rw [q0]; decide
        refine x_aload C dL_law_434 14 rfl ?_
        refine x_aload C dL_law_436 9 rfl ?_
        refine x_iload C dL_law_438 1 rfl ?_
        refine x_iconst C (1 : Int32) (by decide) dL_law_440 ?_
        refine x_iadd C dL_law_441 ?_
        refine x_v (y := nI ((6 * k) + 1)) (nI_add (6 * k) 1) ?_
        refine x_iald C sh_92 (vp_in_nI (n := (6 * k) + 1) (by omega) (by decide)) dL_law_442 ?_
        rw [show (nI ((6 * k) + 1)).toNatClampNeg = (6 * k) + 1 from nI_clamp (n := (6 * k) + 1) (by omega)]
        refine x_aload C dL_law_443 9 rfl ?_
        refine x_iload C dL_law_445 1 rfl ?_
        refine x_iconst C (2 : Int32) (by decide) dL_law_447 ?_
        refine x_iadd C dL_law_448 ?_
        refine x_v (y := nI ((6 * k) + 2)) (nI_add (6 * k) 2) ?_
        refine x_iald C sh_92 (vp_in_nI (n := (6 * k) + 2) (by omega) (by decide)) dL_law_449 ?_
        rw [show (nI ((6 * k) + 2)).toNatClampNeg = (6 * k) + 2 from nI_clamp (n := (6 * k) + 2) (by omega)]
        refine x_callV C sh_0 (by decide) rfl [.int (τ 92 ((6 * k) + 1)), .int (τ 92 ((6 * k) + 2))] (c_X8_addNew l V hV τ (τ 92 ((6 * k) + 1)) (τ 92 ((6 * k) + 2)) (kNew_0 hIM z1 (by omega) (h0nc q0) z5 (by omega))) (cwV 2 C.2.2.2.2.1 gL_law_X8_addNew rfl rfl rfl (by decide +kernel) ⟨Nat.le_of_ble_eq_true rfl, Nat.le_of_ble_eq_true rfl⟩) rfl rfl (Nat.le_of_ble_eq_true rfl) dL_law_450 hcs (x_kI ?_)
        refine x_goto C 577 dL_law_453 rfl ?_
        exact hJ577 _ _ (⟨hc407_1.e1 (by omega) q0.symm rfl (by unfold dtl; rw [if_neg (by rw [q0]; decide)]) (hn45 q45).symm (hn5 q5).1.symm (hn5 q5).2.symm, hc407_2.of (AR.e1_a _ _ _), fun r h1 h2 => (AR.e1_a _ _ _ r h1 h2).trans (hc407_3 r h1 h2), z5⟩)


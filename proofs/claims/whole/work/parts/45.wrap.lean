/-! The law's wrappers: the class's call, its answer into the long[1]; a throw becomes a code. -/
section KT
variable {p : Program} {l : Launch} {e : Env} {R : Room} {s : State} {m : MethodId} {args : Array Value} {below : List Frame} {meth : Method} {c : Code} {V : xV} {E : va_W} {A : Nat → Prop} {nL cells slots : Nat} {Q : State → Prop} {pc : Nat} {lv : List (Nat × Value)} {st : List Value}
theorem x_kT {K : Prop} {x : Int32} {σ2 : xS} (k : K → X p l e R s m args below meth c V E A nL cells slots Q σ2 (pc + 3) lv (.int x :: st)) : ∀ v σ', (K ∧ v = some (.int x) ∧ σ' = σ2) → X p l e R s m args below meth c V E A nL cells slots Q σ' (pc + 3) lv (v.toList ++ st) := by
  rintro v σ' ⟨h, rfl, rfl⟩; exact k h
theorem x_kC {code : Nat} {x : Int32} {S F : xS} (k : ∀ y u, (code = 0 → y = x ∧ u = S) → (code ≠ 0 → u = xw F 208 0 (nI code)) → X p l e R s m args below meth c V E A nL cells slots Q u (pc + 3) lv (.int y :: st)) : ∀ v σ', rC code x S F v σ' → X p l e R s m args below meth c V E A nL cells slots Q σ' (pc + 3) lv (v.toList ++ st) := by
  rintro v σ' ⟨y, rfl, h1, h2⟩; exact k y σ' h1 h2
theorem x_kCZ {code : Nat} {x : Bool} {S F : xS} (k : ∀ y u, (code = 0 → y = x ∧ u = S) → (code ≠ 0 → u = xw F 208 0 (nI code)) → X p l e R s m args below meth c V E A nL cells slots Q u (pc + 3) lv (.int (bI y) :: st)) : ∀ v σ', rCZ code x S F v σ' → X p l e R s m args below meth c V E A nL cells slots Q σ' (pc + 3) lv (v.toList ++ st) := by
  rintro v σ' ⟨y, rfl, h1, h2⟩; exact k y σ' h1 h2
end KT
set_option maxHeartbeats 4000000 in
set_option maxRecDepth 100000 in
theorem c_L_addRule (l : Launch) (hlst : l.stackTraces = false) (V : xV) (hV : xInj V) (lo : Nat) (hO : ∀ k, k < 108 → xad V k ≠ lo) (σ : xS) (gg : Nat → Int64) (a0 : Int32) (a1 : Int32) (a2 : Int32) : xW l yL_addRule wsL_addRule ({ frames := 7, cells := 1, slots := 6, locals := 113 }) V lo gg [ra V 0, .int a0, .int a1, .int a2, .ref lo] σ (fun v σ' g' => v = nI (kRule σ a0 a1 a2) ∧ σ' = (if kRule σ a0 a1 a2 = 0 then rApp σ a0 a1 a2 else (σ)) ∧ (kRule σ a0 a1 a2 = 0 → g' 0 = ((rApp σ a0 a1 a2 200 0) : Int32).toInt64) ∧ (kRule σ a0 a1 a2 ≠ 0 → ¬ nI (kRule σ a0 a1 a2) = 0)) := by
  refine xW_of (cc := cL_addRule) (maxL := 6) (ret := (some .int)) (hh := [(0, 12, 15, 13), (0, 12, 19, 15)]) [(0, ra V 0), (1, .int a0), (2, .int a1), (3, .int a2), (4, .ref lo)] hV hO (by decide) rfl rfl (Nat.le_of_ble_eq_true rfl) (fun p e s m args below meth c C hr hlk htb hT hZ => ?_)
  refine x_aref C dL_addRule_0 4 rfl ?_
  refine x_iconst C (0 : Int32) (by decide) dL_addRule_2 ?_
  refine x_aload_n C dL_addRule_3 rfl 0 rfl ?_
  refine x_iload_n C dL_addRule_4 rfl 1 rfl ?_
  refine x_iload_n C dL_addRule_5 rfl 2 rfl ?_
  refine x_iload_n C dL_addRule_6 rfl 3 rfl ?_
  refine x_callVT C hT hZ sh_0 (by decide) rfl [.int a0, .int a1, .int a2] (c_X8_addRule l hlst V hV σ a0 a1 a2) (cwV 3 C.2.2.2.2.1 gL_addRule_X8_addRule rfl rfl rfl (by decide +kernel) ⟨Nat.le_of_ble_eq_true rfl, Nat.le_of_ble_eq_true rfl⟩) rfl rfl (Nat.le_of_ble_eq_true rfl) dL_addRule_7 ⟨Nat.le_of_ble_eq_true rfl, Nat.le_of_ble_eq_true rfl⟩ (x_kT (fun hk => ?_)) (fun En hRx hE => ?_)
  · refine x_i2l C dL_addRule_10 ?_
    refine x_last C dL_addRule_11 ?_
    have C1 := XC_oc C hV hO (fun q h => h) (vp_updL gg 0 (((rApp σ a0 a1 a2 200 0) : Int32).toInt64))
    refine x_goto C1 23 dL_addRule_12 rfl ?_
    refine x_iconst C1 (0 : Int32) (by decide) dL_addRule_23 ?_
    exact x_iretW C1 hr hlk (Nat.le_of_ble_eq_true rfl) (Nat.le_of_ble_eq_true rfl) dL_addRule_24 ⟨by rw [hk, nI_0], by rw [if_pos hk], fun _ => rfl, fun h => absurd hk h⟩
  · rcases hRx with ⟨rfl, hk⟩ | ⟨rfl, hk⟩
    · refine x_catch C [] ⟨0, 12, 15, 13⟩ [⟨0, 12, 19, 15⟩] 15 rfl (by rw [htb]; rfl) hT hE (fun z hz => absurd hz List.not_mem_nil) (by decide) (by decide) (C.2.2.2.2.1 _ (by decide +kernel)) (fun q => ?_)
      refine x_astR C [(5, .ref q), (0, ra V 0), (1, .int a0), (2, .int a1), (3, .int a2), (4, .ref lo)] dL_addRule_15 (by decide) rfl ?_
      refine x_iconst C (1 : Int32) (by decide) dL_addRule_17 ?_
      exact x_iretW C hr hlk (Nat.le_of_ble_eq_true rfl) (Nat.le_of_ble_eq_true rfl) dL_addRule_18 ⟨by rw [hk]; rfl, by rw [if_neg (by rw [hk]; decide)], fun h => absurd h (by rw [hk]; decide), fun _ => by rw [hk]; decide⟩
    · refine x_catch C [⟨0, 12, 15, 13⟩] ⟨0, 12, 19, 15⟩ [] 19 rfl (by rw [htb]; rfl) hT hE (by intro z hz; simp only [List.mem_cons, List.not_mem_nil, or_false] at hz; rcases hz with rfl <;> first | exact ⟨by decide, "java/lang/IllegalArgumentException", C.2.2.2.2.1 _ (by decide +kernel), by decide, by decide⟩) (by decide) (by decide) (C.2.2.2.2.1 _ (by decide +kernel)) (fun q => ?_)
      refine x_astR C [(5, .ref q), (0, ra V 0), (1, .int a0), (2, .int a1), (3, .int a2), (4, .ref lo)] dL_addRule_19 (by decide) rfl ?_
      refine x_iconst C (2 : Int32) (by decide) dL_addRule_21 ?_
      exact x_iretW C hr hlk (Nat.le_of_ble_eq_true rfl) (Nat.le_of_ble_eq_true rfl) dL_addRule_22 ⟨by rw [hk]; rfl, by rw [if_neg (by rw [hk]; decide)], fun h => absurd h (by rw [hk]; decide), fun _ => by rw [hk]; decide⟩
set_option maxHeartbeats 4000000 in
set_option maxRecDepth 100000 in
theorem c_L_dropRule (l : Launch) (hlst : l.stackTraces = false) (V : xV) (hV : xInj V) (lo : Nat) (hO : ∀ k, k < 108 → xad V k ≠ lo) (σ : xS) (gg : Nat → Int64) : xW l yL_dropRule wsL_dropRule ({ frames := 7, cells := 1, slots := 6, locals := 110 }) V lo gg [ra V 0, .ref lo] σ (fun v σ' g' => v = nI (kDropR σ) ∧ σ' = (if kDropR σ = 0 then xw σ 200 0 (σ 200 0 - 1) else (σ)) ∧ (kDropR σ = 0 → g' 0 = ((xw σ 200 0 (σ 200 0 - 1) 200 0) : Int32).toInt64) ∧ (kDropR σ ≠ 0 → ¬ nI (kDropR σ) = 0)) := by
  refine xW_of (cc := cL_dropRule) (maxL := 3) (ret := (some .int)) (hh := [(0, 8, 11, 15)]) [(0, ra V 0), (1, .ref lo)] hV hO (by decide) rfl rfl (Nat.le_of_ble_eq_true rfl) (fun p e s m args below meth c C hr hlk htb hT hZ => ?_)
  refine x_arefn C dL_dropRule_0 rfl 1 rfl ?_
  refine x_iconst C (0 : Int32) (by decide) dL_dropRule_1 ?_
  refine x_aload_n C dL_dropRule_2 rfl 0 rfl ?_
  refine x_callVT C hT hZ sh_0 (by decide) rfl [] (c_X8_dropRule l hlst V hV σ) (cwV 0 C.2.2.2.2.1 gL_dropRule_X8_dropRule rfl rfl rfl (by decide +kernel) ⟨Nat.le_of_ble_eq_true rfl, Nat.le_of_ble_eq_true rfl⟩) rfl rfl (Nat.le_of_ble_eq_true rfl) dL_dropRule_3 ⟨Nat.le_of_ble_eq_true rfl, Nat.le_of_ble_eq_true rfl⟩ (x_kT (fun hk => ?_)) (fun En hRx hE => ?_)
  · refine x_i2l C dL_dropRule_6 ?_
    refine x_last C dL_dropRule_7 ?_
    have C1 := XC_oc C hV hO (fun q h => h) (vp_updL gg 0 (((xw σ 200 0 (σ 200 0 - 1) 200 0) : Int32).toInt64))
    refine x_goto C1 14 dL_dropRule_8 rfl ?_
    refine x_iconst C1 (0 : Int32) (by decide) dL_dropRule_14 ?_
    exact x_iretW C1 hr hlk (Nat.le_of_ble_eq_true rfl) (Nat.le_of_ble_eq_true rfl) dL_dropRule_15 ⟨by rw [hk, nI_0], by rw [if_pos hk], fun _ => rfl, fun h => absurd hk h⟩
  · rcases hRx with ⟨rfl, hk⟩
    · refine x_catch C [] ⟨0, 8, 11, 15⟩ [] 11 rfl (by rw [htb]; rfl) hT hE (fun z hz => absurd hz List.not_mem_nil) (by decide) (by decide) (C.2.2.2.2.1 _ (by decide +kernel)) (fun q => ?_)
      refine x_astRn C [(2, .ref q), (0, ra V 0), (1, .ref lo)] dL_dropRule_11 rfl (by decide) rfl ?_
      refine x_iconst C (1 : Int32) (by decide) dL_dropRule_12 ?_
      exact x_iretW C hr hlk (Nat.le_of_ble_eq_true rfl) (Nat.le_of_ble_eq_true rfl) dL_dropRule_13 ⟨by rw [hk]; rfl, by rw [if_neg (by rw [hk]; decide)], fun h => absurd h (by rw [hk]; decide), fun _ => by rw [hk]; decide⟩
set_option maxHeartbeats 4000000 in
set_option maxRecDepth 100000 in
theorem c_L_addClass (l : Launch) (hlst : l.stackTraces = false) (V : xV) (hV : xInj V) (lo : Nat) (hO : ∀ k, k < 108 → xad V k ≠ lo) (σ : xS) (gg : Nat → Int64) (a0 : Int32) (a1 : Int32) : xW l yL_addClass wsL_addClass ({ frames := 7, cells := 1, slots := 6, locals := 112 }) V lo gg [ra V 0, .int a0, .int a1, .ref lo] σ (fun v σ' g' => v = nI (kClass σ a0 a1) ∧ σ' = (if kClass σ a0 a1 = 0 then cApp σ 9 8 201 a0 a1 else (σ)) ∧ (kClass σ a0 a1 = 0 → g' 0 = ((σ 201 0) : Int32).toInt64) ∧ (kClass σ a0 a1 ≠ 0 → ¬ nI (kClass σ a0 a1) = 0)) := by
  refine xW_of (cc := cL_addClass) (maxL := 5) (ret := (some .int)) (hh := [(0, 10, 13, 13), (0, 10, 17, 15)]) [(0, ra V 0), (1, .int a0), (2, .int a1), (3, .ref lo)] hV hO (by decide) rfl rfl (Nat.le_of_ble_eq_true rfl) (fun p e s m args below meth c C hr hlk htb hT hZ => ?_)
  refine x_arefn C dL_addClass_0 rfl 3 rfl ?_
  refine x_iconst C (0 : Int32) (by decide) dL_addClass_1 ?_
  refine x_aload_n C dL_addClass_2 rfl 0 rfl ?_
  refine x_iload_n C dL_addClass_3 rfl 1 rfl ?_
  refine x_iload_n C dL_addClass_4 rfl 2 rfl ?_
  refine x_callVT C hT hZ sh_0 (by decide) rfl [.int a0, .int a1] (c_X8_addClass l hlst V hV σ a0 a1) (cwV 2 C.2.2.2.2.1 gL_addClass_X8_addClass rfl rfl rfl (by decide +kernel) ⟨Nat.le_of_ble_eq_true rfl, Nat.le_of_ble_eq_true rfl⟩) rfl rfl (Nat.le_of_ble_eq_true rfl) dL_addClass_5 ⟨Nat.le_of_ble_eq_true rfl, Nat.le_of_ble_eq_true rfl⟩ (x_kT (fun hk => ?_)) (fun En hRx hE => ?_)
  · refine x_i2l C dL_addClass_8 ?_
    refine x_last C dL_addClass_9 ?_
    have C1 := XC_oc C hV hO (fun q h => h) (vp_updL gg 0 (((σ 201 0) : Int32).toInt64))
    refine x_goto C1 21 dL_addClass_10 rfl ?_
    refine x_iconst C1 (0 : Int32) (by decide) dL_addClass_21 ?_
    exact x_iretW C1 hr hlk (Nat.le_of_ble_eq_true rfl) (Nat.le_of_ble_eq_true rfl) dL_addClass_22 ⟨by rw [hk, nI_0], by rw [if_pos hk], fun _ => rfl, fun h => absurd hk h⟩
  · rcases hRx with ⟨rfl, hk⟩ | ⟨rfl, hk⟩
    · refine x_catch C [] ⟨0, 10, 13, 13⟩ [⟨0, 10, 17, 15⟩] 13 rfl (by rw [htb]; rfl) hT hE (fun z hz => absurd hz List.not_mem_nil) (by decide) (by decide) (C.2.2.2.2.1 _ (by decide +kernel)) (fun q => ?_)
      refine x_astR C [(4, .ref q), (0, ra V 0), (1, .int a0), (2, .int a1), (3, .ref lo)] dL_addClass_13 (by decide) rfl ?_
      refine x_iconst C (1 : Int32) (by decide) dL_addClass_15 ?_
      exact x_iretW C hr hlk (Nat.le_of_ble_eq_true rfl) (Nat.le_of_ble_eq_true rfl) dL_addClass_16 ⟨by rw [hk]; rfl, by rw [if_neg (by rw [hk]; decide)], fun h => absurd h (by rw [hk]; decide), fun _ => by rw [hk]; decide⟩
    · refine x_catch C [⟨0, 10, 13, 13⟩] ⟨0, 10, 17, 15⟩ [] 17 rfl (by rw [htb]; rfl) hT hE (by intro z hz; simp only [List.mem_cons, List.not_mem_nil, or_false] at hz; rcases hz with rfl <;> first | exact ⟨by decide, "java/lang/IllegalArgumentException", C.2.2.2.2.1 _ (by decide +kernel), by decide, by decide⟩) (by decide) (by decide) (C.2.2.2.2.1 _ (by decide +kernel)) (fun q => ?_)
      refine x_astR C [(4, .ref q), (0, ra V 0), (1, .int a0), (2, .int a1), (3, .ref lo)] dL_addClass_17 (by decide) rfl ?_
      refine x_iconst C (2 : Int32) (by decide) dL_addClass_19 ?_
      exact x_iretW C hr hlk (Nat.le_of_ble_eq_true rfl) (Nat.le_of_ble_eq_true rfl) dL_addClass_20 ⟨by rw [hk]; rfl, by rw [if_neg (by rw [hk]; decide)], fun h => absurd h (by rw [hk]; decide), fun _ => by rw [hk]; decide⟩
set_option maxHeartbeats 4000000 in
set_option maxRecDepth 100000 in
theorem c_L_addLink (l : Launch) (hlst : l.stackTraces = false) (V : xV) (hV : xInj V) (lo : Nat) (hO : ∀ k, k < 108 → xad V k ≠ lo) (σ : xS) (gg : Nat → Int64) (a0 : Int32) (a1 : Int32) (a2 : Int32) (a3 : Int32) : xW l yL_addLink wsL_addLink ({ frames := 7, cells := 1, slots := 6, locals := 118 }) V lo gg [ra V 0, .int a0, .int a1, .int a2, .int a3, .ref lo] σ (fun v σ' g' => v = nI (kLink σ a0 a1 a2 a3) ∧ σ' = (if kLink σ a0 a1 a2 a3 = 0 then vPut (vPut (cApp σ 16 12 202 a2 a3) 24 12 (σ 202 0) a0) 26 12 (σ 202 0) a1 else (σ)) ∧ (kLink σ a0 a1 a2 a3 = 0 → g' 0 = ((σ 202 0) : Int32).toInt64) ∧ (kLink σ a0 a1 a2 a3 ≠ 0 → ¬ nI (kLink σ a0 a1 a2 a3) = 0)) := by
  refine xW_of (cc := cL_addLink) (maxL := 7) (ret := (some .int)) (hh := [(0, 14, 17, 29), (0, 14, 21, 13), (0, 14, 25, 15)]) [(0, ra V 0), (1, .int a0), (2, .int a1), (3, .int a2), (4, .int a3), (5, .ref lo)] hV hO (by decide) rfl rfl (Nat.le_of_ble_eq_true rfl) (fun p e s m args below meth c C hr hlk htb hT hZ => ?_)
  refine x_aref C dL_addLink_0 5 rfl ?_
  refine x_iconst C (0 : Int32) (by decide) dL_addLink_2 ?_
  refine x_aload_n C dL_addLink_3 rfl 0 rfl ?_
  refine x_iload_n C dL_addLink_4 rfl 1 rfl ?_
  refine x_iload_n C dL_addLink_5 rfl 2 rfl ?_
  refine x_iload_n C dL_addLink_6 rfl 3 rfl ?_
  refine x_iload C dL_addLink_7 4 rfl ?_
  refine x_callVT C hT hZ sh_0 (by decide) rfl [.int a0, .int a1, .int a2, .int a3] (c_X8_addLink l hlst V hV σ a0 a1 a2 a3) (cwV 4 C.2.2.2.2.1 gL_addLink_X8_addLink rfl rfl rfl (by decide +kernel) ⟨Nat.le_of_ble_eq_true rfl, Nat.le_of_ble_eq_true rfl⟩) rfl rfl (Nat.le_of_ble_eq_true rfl) dL_addLink_9 ⟨Nat.le_of_ble_eq_true rfl, Nat.le_of_ble_eq_true rfl⟩ (x_kT (fun hk => ?_)) (fun En hRx hE => ?_)
  · refine x_i2l C dL_addLink_12 ?_
    refine x_last C dL_addLink_13 ?_
    have C1 := XC_oc C hV hO (fun q h => h) (vp_updL gg 0 (((σ 202 0) : Int32).toInt64))
    refine x_goto C1 29 dL_addLink_14 rfl ?_
    refine x_iconst C1 (0 : Int32) (by decide) dL_addLink_29 ?_
    exact x_iretW C1 hr hlk (Nat.le_of_ble_eq_true rfl) (Nat.le_of_ble_eq_true rfl) dL_addLink_30 ⟨by rw [hk, nI_0], by rw [if_pos hk], fun _ => rfl, fun h => absurd hk h⟩
  · rcases hRx with ⟨rfl, hk⟩ | ⟨rfl, hk⟩ | ⟨rfl, hk⟩
    · refine x_catch C [] ⟨0, 14, 17, 29⟩ [⟨0, 14, 21, 13⟩, ⟨0, 14, 25, 15⟩] 17 rfl (by rw [htb]; rfl) hT hE (fun z hz => absurd hz List.not_mem_nil) (by decide) (by decide) (C.2.2.2.2.1 _ (by decide +kernel)) (fun q => ?_)
      refine x_astR C [(6, .ref q), (0, ra V 0), (1, .int a0), (2, .int a1), (3, .int a2), (4, .int a3), (5, .ref lo)] dL_addLink_17 (by decide) rfl ?_
      refine x_iconst C (1 : Int32) (by decide) dL_addLink_19 ?_
      exact x_iretW C hr hlk (Nat.le_of_ble_eq_true rfl) (Nat.le_of_ble_eq_true rfl) dL_addLink_20 ⟨by rw [hk]; rfl, by rw [if_neg (by rw [hk]; decide)], fun h => absurd h (by rw [hk]; decide), fun _ => by rw [hk]; decide⟩
    · refine x_catch C [⟨0, 14, 17, 29⟩] ⟨0, 14, 21, 13⟩ [⟨0, 14, 25, 15⟩] 21 rfl (by rw [htb]; rfl) hT hE (by intro z hz; simp only [List.mem_cons, List.not_mem_nil, or_false] at hz; rcases hz with rfl <;> first | exact ⟨by decide, "java/lang/IndexOutOfBoundsException", C.2.2.2.2.1 _ (by decide +kernel), by decide, by decide⟩) (by decide) (by decide) (C.2.2.2.2.1 _ (by decide +kernel)) (fun q => ?_)
      refine x_astR C [(6, .ref q), (0, ra V 0), (1, .int a0), (2, .int a1), (3, .int a2), (4, .int a3), (5, .ref lo)] dL_addLink_21 (by decide) rfl ?_
      refine x_iconst C (2 : Int32) (by decide) dL_addLink_23 ?_
      exact x_iretW C hr hlk (Nat.le_of_ble_eq_true rfl) (Nat.le_of_ble_eq_true rfl) dL_addLink_24 ⟨by rw [hk]; rfl, by rw [if_neg (by rw [hk]; decide)], fun h => absurd h (by rw [hk]; decide), fun _ => by rw [hk]; decide⟩
    · refine x_catch C [⟨0, 14, 17, 29⟩, ⟨0, 14, 21, 13⟩] ⟨0, 14, 25, 15⟩ [] 25 rfl (by rw [htb]; rfl) hT hE (by intro z hz; simp only [List.mem_cons, List.not_mem_nil, or_false] at hz; rcases hz with rfl | rfl <;> first | exact ⟨by decide, "java/lang/IndexOutOfBoundsException", C.2.2.2.2.1 _ (by decide +kernel), by decide, by decide⟩ | exact ⟨by decide, "java/lang/IllegalArgumentException", C.2.2.2.2.1 _ (by decide +kernel), by decide, by decide⟩) (by decide) (by decide) (C.2.2.2.2.1 _ (by decide +kernel)) (fun q => ?_)
      refine x_astR C [(6, .ref q), (0, ra V 0), (1, .int a0), (2, .int a1), (3, .int a2), (4, .int a3), (5, .ref lo)] dL_addLink_25 (by decide) rfl ?_
      refine x_iconst C (3 : Int32) (by decide) dL_addLink_27 ?_
      exact x_iretW C hr hlk (Nat.le_of_ble_eq_true rfl) (Nat.le_of_ble_eq_true rfl) dL_addLink_28 ⟨by rw [hk]; rfl, by rw [if_neg (by rw [hk]; decide)], fun h => absurd h (by rw [hk]; decide), fun _ => by rw [hk]; decide⟩
set_option maxHeartbeats 4000000 in
set_option maxRecDepth 100000 in
theorem c_L_addField (l : Launch) (hlst : l.stackTraces = false) (V : xV) (hV : xInj V) (lo : Nat) (hO : ∀ k, k < 108 → xad V k ≠ lo) (σ : xS) (gg : Nat → Int64) (a0 : Int32) (a1 : Int32) (a2 : Int32) (a3 : Int32) (a4 : Int32) : xW l yL_addField wsL_addField ({ frames := 7, cells := 1, slots := 6, locals := 121 }) V lo gg [ra V 0, .int a0, .int a1, .int a2, .int a3, .int a4, .ref lo] σ (fun v σ' g' => v = nI (kField σ a0 a1 a2 a3 a4) ∧ σ' = (if kField σ a0 a1 a2 a3 a4 = 0 then mTyp (mApp σ 0 a0 a1 a3 a4) (σ 203 0) a2 (-1) (-1) else (σ)) ∧ (kField σ a0 a1 a2 a3 a4 = 0 → g' 0 = ((σ 203 0) : Int32).toInt64) ∧ (kField σ a0 a1 a2 a3 a4 ≠ 0 → ¬ nI (kField σ a0 a1 a2 a3 a4) = 0)) := by
  refine xW_of (cc := cL_addField) (maxL := 8) (ret := (some .int)) (hh := [(0, 16, 19, 29), (0, 16, 23, 13), (0, 16, 27, 15)]) [(0, ra V 0), (1, .int a0), (2, .int a1), (3, .int a2), (4, .int a3), (5, .int a4), (6, .ref lo)] hV hO (by decide) rfl rfl (Nat.le_of_ble_eq_true rfl) (fun p e s m args below meth c C hr hlk htb hT hZ => ?_)
  refine x_aref C dL_addField_0 6 rfl ?_
  refine x_iconst C (0 : Int32) (by decide) dL_addField_2 ?_
  refine x_aload_n C dL_addField_3 rfl 0 rfl ?_
  refine x_iload_n C dL_addField_4 rfl 1 rfl ?_
  refine x_iload_n C dL_addField_5 rfl 2 rfl ?_
  refine x_iload_n C dL_addField_6 rfl 3 rfl ?_
  refine x_iload C dL_addField_7 4 rfl ?_
  refine x_iload C dL_addField_9 5 rfl ?_
  refine x_callVT C hT hZ sh_0 (by decide) rfl [.int a0, .int a1, .int a2, .int a3, .int a4] (c_X8_addField l hlst V hV σ a0 a1 a2 a3 a4) (cwV 5 C.2.2.2.2.1 gL_addField_X8_addField rfl rfl rfl (by decide +kernel) ⟨Nat.le_of_ble_eq_true rfl, Nat.le_of_ble_eq_true rfl⟩) rfl rfl (Nat.le_of_ble_eq_true rfl) dL_addField_11 ⟨Nat.le_of_ble_eq_true rfl, Nat.le_of_ble_eq_true rfl⟩ (x_kT (fun hk => ?_)) (fun En hRx hE => ?_)
  · refine x_i2l C dL_addField_14 ?_
    refine x_last C dL_addField_15 ?_
    have C1 := XC_oc C hV hO (fun q h => h) (vp_updL gg 0 (((σ 203 0) : Int32).toInt64))
    refine x_goto C1 31 dL_addField_16 rfl ?_
    refine x_iconst C1 (0 : Int32) (by decide) dL_addField_31 ?_
    exact x_iretW C1 hr hlk (Nat.le_of_ble_eq_true rfl) (Nat.le_of_ble_eq_true rfl) dL_addField_32 ⟨by rw [hk, nI_0], by rw [if_pos hk], fun _ => rfl, fun h => absurd hk h⟩
  · rcases hRx with ⟨rfl, hk⟩ | ⟨rfl, hk⟩ | ⟨rfl, hk⟩
    · refine x_catch C [] ⟨0, 16, 19, 29⟩ [⟨0, 16, 23, 13⟩, ⟨0, 16, 27, 15⟩] 19 rfl (by rw [htb]; rfl) hT hE (fun z hz => absurd hz List.not_mem_nil) (by decide) (by decide) (C.2.2.2.2.1 _ (by decide +kernel)) (fun q => ?_)
      refine x_astR C [(7, .ref q), (0, ra V 0), (1, .int a0), (2, .int a1), (3, .int a2), (4, .int a3), (5, .int a4), (6, .ref lo)] dL_addField_19 (by decide) rfl ?_
      refine x_iconst C (1 : Int32) (by decide) dL_addField_21 ?_
      exact x_iretW C hr hlk (Nat.le_of_ble_eq_true rfl) (Nat.le_of_ble_eq_true rfl) dL_addField_22 ⟨by rw [hk]; rfl, by rw [if_neg (by rw [hk]; decide)], fun h => absurd h (by rw [hk]; decide), fun _ => by rw [hk]; decide⟩
    · refine x_catch C [⟨0, 16, 19, 29⟩] ⟨0, 16, 23, 13⟩ [⟨0, 16, 27, 15⟩] 23 rfl (by rw [htb]; rfl) hT hE (by intro z hz; simp only [List.mem_cons, List.not_mem_nil, or_false] at hz; rcases hz with rfl <;> first | exact ⟨by decide, "java/lang/IndexOutOfBoundsException", C.2.2.2.2.1 _ (by decide +kernel), by decide, by decide⟩) (by decide) (by decide) (C.2.2.2.2.1 _ (by decide +kernel)) (fun q => ?_)
      refine x_astR C [(7, .ref q), (0, ra V 0), (1, .int a0), (2, .int a1), (3, .int a2), (4, .int a3), (5, .int a4), (6, .ref lo)] dL_addField_23 (by decide) rfl ?_
      refine x_iconst C (2 : Int32) (by decide) dL_addField_25 ?_
      exact x_iretW C hr hlk (Nat.le_of_ble_eq_true rfl) (Nat.le_of_ble_eq_true rfl) dL_addField_26 ⟨by rw [hk]; rfl, by rw [if_neg (by rw [hk]; decide)], fun h => absurd h (by rw [hk]; decide), fun _ => by rw [hk]; decide⟩
    · refine x_catch C [⟨0, 16, 19, 29⟩, ⟨0, 16, 23, 13⟩] ⟨0, 16, 27, 15⟩ [] 27 rfl (by rw [htb]; rfl) hT hE (by intro z hz; simp only [List.mem_cons, List.not_mem_nil, or_false] at hz; rcases hz with rfl | rfl <;> first | exact ⟨by decide, "java/lang/IndexOutOfBoundsException", C.2.2.2.2.1 _ (by decide +kernel), by decide, by decide⟩ | exact ⟨by decide, "java/lang/IllegalArgumentException", C.2.2.2.2.1 _ (by decide +kernel), by decide, by decide⟩) (by decide) (by decide) (C.2.2.2.2.1 _ (by decide +kernel)) (fun q => ?_)
      refine x_astR C [(7, .ref q), (0, ra V 0), (1, .int a0), (2, .int a1), (3, .int a2), (4, .int a3), (5, .int a4), (6, .ref lo)] dL_addField_27 (by decide) rfl ?_
      refine x_iconst C (3 : Int32) (by decide) dL_addField_29 ?_
      exact x_iretW C hr hlk (Nat.le_of_ble_eq_true rfl) (Nat.le_of_ble_eq_true rfl) dL_addField_30 ⟨by rw [hk]; rfl, by rw [if_neg (by rw [hk]; decide)], fun h => absurd h (by rw [hk]; decide), fun _ => by rw [hk]; decide⟩
set_option maxHeartbeats 4000000 in
set_option maxRecDepth 100000 in
theorem c_L_addMethod (l : Launch) (hlst : l.stackTraces = false) (V : xV) (hV : xInj V) (lo : Nat) (hO : ∀ k, k < 108 → xad V k ≠ lo) (σ : xS) (gg : Nat → Int64) (a0 : Int32) (a1 : Int32) (a2 : Int32) (a3 : Int32) (a4 : Int32) (a5 : Int32) (a6 : Int32) : xW l yL_addMethod wsL_addMethod ({ frames := 7, cells := 1, slots := 6, locals := 123 }) V lo gg [ra V 0, .int a0, .int a1, .int a2, .int a3, .int a4, .int a5, .int a6, .ref lo] σ (fun v σ' g' => v = nI (kMeth σ a0 a1 a2 a3 a4 a5 a6) ∧ σ' = (if kMeth σ a0 a1 a2 a3 a4 a5 a6 = 0 then mTyp (mApp σ 1 a0 a1 a5 a6) (σ 203 0) a2 a3 a4 else (σ)) ∧ (kMeth σ a0 a1 a2 a3 a4 a5 a6 = 0 → g' 0 = ((σ 203 0) : Int32).toInt64) ∧ (kMeth σ a0 a1 a2 a3 a4 a5 a6 ≠ 0 → ¬ nI (kMeth σ a0 a1 a2 a3 a4 a5 a6) = 0)) := by
  refine xW_of (cc := cL_addMethod) (maxL := 10) (ret := (some .int)) (hh := [(0, 20, 23, 29), (0, 20, 27, 13), (0, 20, 31, 15)]) [(0, ra V 0), (1, .int a0), (2, .int a1), (3, .int a2), (4, .int a3), (5, .int a4), (6, .int a5), (7, .int a6), (8, .ref lo)] hV hO (by decide) rfl rfl (Nat.le_of_ble_eq_true rfl) (fun p e s m args below meth c C hr hlk htb hT hZ => ?_)
  refine x_aref C dL_addMethod_0 8 rfl ?_
  refine x_iconst C (0 : Int32) (by decide) dL_addMethod_2 ?_
  refine x_aload_n C dL_addMethod_3 rfl 0 rfl ?_
  refine x_iload_n C dL_addMethod_4 rfl 1 rfl ?_
  refine x_iload_n C dL_addMethod_5 rfl 2 rfl ?_
  refine x_iload_n C dL_addMethod_6 rfl 3 rfl ?_
  refine x_iload C dL_addMethod_7 4 rfl ?_
  refine x_iload C dL_addMethod_9 5 rfl ?_
  refine x_iload C dL_addMethod_11 6 rfl ?_
  refine x_iload C dL_addMethod_13 7 rfl ?_
  refine x_callVT C hT hZ sh_0 (by decide) rfl [.int a0, .int a1, .int a2, .int a3, .int a4, .int a5, .int a6] (c_X8_addMethod l hlst V hV σ a0 a1 a2 a3 a4 a5 a6) (cwV 7 C.2.2.2.2.1 gL_addMethod_X8_addMethod rfl rfl rfl (by decide +kernel) ⟨Nat.le_of_ble_eq_true rfl, Nat.le_of_ble_eq_true rfl⟩) rfl rfl (Nat.le_of_ble_eq_true rfl) dL_addMethod_15 ⟨Nat.le_of_ble_eq_true rfl, Nat.le_of_ble_eq_true rfl⟩ (x_kT (fun hk => ?_)) (fun En hRx hE => ?_)
  · refine x_i2l C dL_addMethod_18 ?_
    refine x_last C dL_addMethod_19 ?_
    have C1 := XC_oc C hV hO (fun q h => h) (vp_updL gg 0 (((σ 203 0) : Int32).toInt64))
    refine x_goto C1 35 dL_addMethod_20 rfl ?_
    refine x_iconst C1 (0 : Int32) (by decide) dL_addMethod_35 ?_
    exact x_iretW C1 hr hlk (Nat.le_of_ble_eq_true rfl) (Nat.le_of_ble_eq_true rfl) dL_addMethod_36 ⟨by rw [hk, nI_0], by rw [if_pos hk], fun _ => rfl, fun h => absurd hk h⟩
  · rcases hRx with ⟨rfl, hk⟩ | ⟨rfl, hk⟩ | ⟨rfl, hk⟩
    · refine x_catch C [] ⟨0, 20, 23, 29⟩ [⟨0, 20, 27, 13⟩, ⟨0, 20, 31, 15⟩] 23 rfl (by rw [htb]; rfl) hT hE (fun z hz => absurd hz List.not_mem_nil) (by decide) (by decide) (C.2.2.2.2.1 _ (by decide +kernel)) (fun q => ?_)
      refine x_astR C [(9, .ref q), (0, ra V 0), (1, .int a0), (2, .int a1), (3, .int a2), (4, .int a3), (5, .int a4), (6, .int a5), (7, .int a6), (8, .ref lo)] dL_addMethod_23 (by decide) rfl ?_
      refine x_iconst C (1 : Int32) (by decide) dL_addMethod_25 ?_
      exact x_iretW C hr hlk (Nat.le_of_ble_eq_true rfl) (Nat.le_of_ble_eq_true rfl) dL_addMethod_26 ⟨by rw [hk]; rfl, by rw [if_neg (by rw [hk]; decide)], fun h => absurd h (by rw [hk]; decide), fun _ => by rw [hk]; decide⟩
    · refine x_catch C [⟨0, 20, 23, 29⟩] ⟨0, 20, 27, 13⟩ [⟨0, 20, 31, 15⟩] 27 rfl (by rw [htb]; rfl) hT hE (by intro z hz; simp only [List.mem_cons, List.not_mem_nil, or_false] at hz; rcases hz with rfl <;> first | exact ⟨by decide, "java/lang/IndexOutOfBoundsException", C.2.2.2.2.1 _ (by decide +kernel), by decide, by decide⟩) (by decide) (by decide) (C.2.2.2.2.1 _ (by decide +kernel)) (fun q => ?_)
      refine x_astR C [(9, .ref q), (0, ra V 0), (1, .int a0), (2, .int a1), (3, .int a2), (4, .int a3), (5, .int a4), (6, .int a5), (7, .int a6), (8, .ref lo)] dL_addMethod_27 (by decide) rfl ?_
      refine x_iconst C (2 : Int32) (by decide) dL_addMethod_29 ?_
      exact x_iretW C hr hlk (Nat.le_of_ble_eq_true rfl) (Nat.le_of_ble_eq_true rfl) dL_addMethod_30 ⟨by rw [hk]; rfl, by rw [if_neg (by rw [hk]; decide)], fun h => absurd h (by rw [hk]; decide), fun _ => by rw [hk]; decide⟩
    · refine x_catch C [⟨0, 20, 23, 29⟩, ⟨0, 20, 27, 13⟩] ⟨0, 20, 31, 15⟩ [] 31 rfl (by rw [htb]; rfl) hT hE (by intro z hz; simp only [List.mem_cons, List.not_mem_nil, or_false] at hz; rcases hz with rfl | rfl <;> first | exact ⟨by decide, "java/lang/IndexOutOfBoundsException", C.2.2.2.2.1 _ (by decide +kernel), by decide, by decide⟩ | exact ⟨by decide, "java/lang/IllegalArgumentException", C.2.2.2.2.1 _ (by decide +kernel), by decide, by decide⟩) (by decide) (by decide) (C.2.2.2.2.1 _ (by decide +kernel)) (fun q => ?_)
      refine x_astR C [(9, .ref q), (0, ra V 0), (1, .int a0), (2, .int a1), (3, .int a2), (4, .int a3), (5, .int a4), (6, .int a5), (7, .int a6), (8, .ref lo)] dL_addMethod_31 (by decide) rfl ?_
      refine x_iconst C (3 : Int32) (by decide) dL_addMethod_33 ?_
      exact x_iretW C hr hlk (Nat.le_of_ble_eq_true rfl) (Nat.le_of_ble_eq_true rfl) dL_addMethod_34 ⟨by rw [hk]; rfl, by rw [if_neg (by rw [hk]; decide)], fun h => absurd h (by rw [hk]; decide), fun _ => by rw [hk]; decide⟩
set_option maxHeartbeats 4000000 in
set_option maxRecDepth 100000 in
theorem c_L_addNew (l : Launch) (hlst : l.stackTraces = false) (V : xV) (hV : xInj V) (lo : Nat) (hO : ∀ k, k < 108 → xad V k ≠ lo) (σ : xS) (gg : Nat → Int64) (a0 : Int32) (a1 : Int32) : xW l yL_addNew wsL_addNew ({ frames := 7, cells := 1, slots := 6, locals := 112 }) V lo gg [ra V 0, .int a0, .int a1, .ref lo] σ (fun v σ' g' => v = nI (kNew σ a0 a1) ∧ σ' = (if kNew σ a0 a1 = 0 then eApp σ 0 a0 a1 else (σ)) ∧ (kNew σ a0 a1 = 0 → g' 0 = ((σ 205 0) : Int32).toInt64) ∧ (kNew σ a0 a1 ≠ 0 → ¬ nI (kNew σ a0 a1) = 0)) := by
  refine xW_of (cc := cL_addNew) (maxL := 5) (ret := (some .int)) (hh := [(0, 10, 13, 29), (0, 10, 17, 15)]) [(0, ra V 0), (1, .int a0), (2, .int a1), (3, .ref lo)] hV hO (by decide) rfl rfl (Nat.le_of_ble_eq_true rfl) (fun p e s m args below meth c C hr hlk htb hT hZ => ?_)
  refine x_arefn C dL_addNew_0 rfl 3 rfl ?_
  refine x_iconst C (0 : Int32) (by decide) dL_addNew_1 ?_
  refine x_aload_n C dL_addNew_2 rfl 0 rfl ?_
  refine x_iload_n C dL_addNew_3 rfl 1 rfl ?_
  refine x_iload_n C dL_addNew_4 rfl 2 rfl ?_
  refine x_callVT C hT hZ sh_0 (by decide) rfl [.int a0, .int a1] (c_X8_addNew l hlst V hV σ a0 a1) (cwV 2 C.2.2.2.2.1 gL_addNew_X8_addNew rfl rfl rfl (by decide +kernel) ⟨Nat.le_of_ble_eq_true rfl, Nat.le_of_ble_eq_true rfl⟩) rfl rfl (Nat.le_of_ble_eq_true rfl) dL_addNew_5 ⟨Nat.le_of_ble_eq_true rfl, Nat.le_of_ble_eq_true rfl⟩ (x_kT (fun hk => ?_)) (fun En hRx hE => ?_)
  · refine x_i2l C dL_addNew_8 ?_
    refine x_last C dL_addNew_9 ?_
    have C1 := XC_oc C hV hO (fun q h => h) (vp_updL gg 0 (((σ 205 0) : Int32).toInt64))
    refine x_goto C1 21 dL_addNew_10 rfl ?_
    refine x_iconst C1 (0 : Int32) (by decide) dL_addNew_21 ?_
    exact x_iretW C1 hr hlk (Nat.le_of_ble_eq_true rfl) (Nat.le_of_ble_eq_true rfl) dL_addNew_22 ⟨by rw [hk, nI_0], by rw [if_pos hk], fun _ => rfl, fun h => absurd hk h⟩
  · rcases hRx with ⟨rfl, hk⟩ | ⟨rfl, hk⟩
    · refine x_catch C [] ⟨0, 10, 13, 29⟩ [⟨0, 10, 17, 15⟩] 13 rfl (by rw [htb]; rfl) hT hE (fun z hz => absurd hz List.not_mem_nil) (by decide) (by decide) (C.2.2.2.2.1 _ (by decide +kernel)) (fun q => ?_)
      refine x_astR C [(4, .ref q), (0, ra V 0), (1, .int a0), (2, .int a1), (3, .ref lo)] dL_addNew_13 (by decide) rfl ?_
      refine x_iconst C (1 : Int32) (by decide) dL_addNew_15 ?_
      exact x_iretW C hr hlk (Nat.le_of_ble_eq_true rfl) (Nat.le_of_ble_eq_true rfl) dL_addNew_16 ⟨by rw [hk]; rfl, by rw [if_neg (by rw [hk]; decide)], fun h => absurd h (by rw [hk]; decide), fun _ => by rw [hk]; decide⟩
    · refine x_catch C [⟨0, 10, 13, 29⟩] ⟨0, 10, 17, 15⟩ [] 17 rfl (by rw [htb]; rfl) hT hE (by intro z hz; simp only [List.mem_cons, List.not_mem_nil, or_false] at hz; rcases hz with rfl <;> first | exact ⟨by decide, "java/lang/IndexOutOfBoundsException", C.2.2.2.2.1 _ (by decide +kernel), by decide, by decide⟩) (by decide) (by decide) (C.2.2.2.2.1 _ (by decide +kernel)) (fun q => ?_)
      refine x_astR C [(4, .ref q), (0, ra V 0), (1, .int a0), (2, .int a1), (3, .ref lo)] dL_addNew_17 (by decide) rfl ?_
      refine x_iconst C (2 : Int32) (by decide) dL_addNew_19 ?_
      exact x_iretW C hr hlk (Nat.le_of_ble_eq_true rfl) (Nat.le_of_ble_eq_true rfl) dL_addNew_20 ⟨by rw [hk]; rfl, by rw [if_neg (by rw [hk]; decide)], fun h => absurd h (by rw [hk]; decide), fun _ => by rw [hk]; decide⟩
set_option maxHeartbeats 4000000 in
set_option maxRecDepth 100000 in
theorem c_L_addPlain (l : Launch) (hlst : l.stackTraces = false) (V : xV) (hV : xInj V) (lo : Nat) (hO : ∀ k, k < 108 → xad V k ≠ lo) (σ : xS) (gg : Nat → Int64) (a0 : Int32) (a1 : Bool) : xW l yL_addPlain wsL_addPlain ({ frames := 7, cells := 1, slots := 6, locals := 112 }) V lo gg [ra V 0, .int a0, .int (bI a1), .ref lo] σ (fun v σ' g' => v = nI (kPlain σ a0) ∧ σ' = (if kPlain σ a0 = 0 then eApp σ (if a1 = true then 2 else 1) a0 (-1) else (σ)) ∧ (kPlain σ a0 = 0 → g' 0 = ((σ 205 0) : Int32).toInt64) ∧ (kPlain σ a0 ≠ 0 → ¬ nI (kPlain σ a0) = 0)) := by
  refine xW_of (cc := cL_addPlain) (maxL := 5) (ret := (some .int)) (hh := [(0, 10, 13, 29), (0, 10, 17, 15)]) [(0, ra V 0), (1, .int a0), (2, .int (bI a1)), (3, .ref lo)] hV hO (by decide) rfl rfl (Nat.le_of_ble_eq_true rfl) (fun p e s m args below meth c C hr hlk htb hT hZ => ?_)
  refine x_arefn C dL_addPlain_0 rfl 3 rfl ?_
  refine x_iconst C (0 : Int32) (by decide) dL_addPlain_1 ?_
  refine x_aload_n C dL_addPlain_2 rfl 0 rfl ?_
  refine x_iload_n C dL_addPlain_3 rfl 1 rfl ?_
  refine x_iload_n C dL_addPlain_4 rfl 2 rfl ?_
  refine x_callVT C hT hZ sh_0 (by decide) rfl [.int a0, .int (bI a1)] (c_X8_addPlain l hlst V hV σ a0 a1) (cwV 2 C.2.2.2.2.1 gL_addPlain_X8_addPlain rfl rfl rfl (by decide +kernel) ⟨Nat.le_of_ble_eq_true rfl, Nat.le_of_ble_eq_true rfl⟩) rfl rfl (Nat.le_of_ble_eq_true rfl) dL_addPlain_5 ⟨Nat.le_of_ble_eq_true rfl, Nat.le_of_ble_eq_true rfl⟩ (x_kT (fun hk => ?_)) (fun En hRx hE => ?_)
  · refine x_i2l C dL_addPlain_8 ?_
    refine x_last C dL_addPlain_9 ?_
    have C1 := XC_oc C hV hO (fun q h => h) (vp_updL gg 0 (((σ 205 0) : Int32).toInt64))
    refine x_goto C1 21 dL_addPlain_10 rfl ?_
    refine x_iconst C1 (0 : Int32) (by decide) dL_addPlain_21 ?_
    exact x_iretW C1 hr hlk (Nat.le_of_ble_eq_true rfl) (Nat.le_of_ble_eq_true rfl) dL_addPlain_22 ⟨by rw [hk, nI_0], by rw [if_pos hk], fun _ => rfl, fun h => absurd hk h⟩
  · rcases hRx with ⟨rfl, hk⟩ | ⟨rfl, hk⟩
    · refine x_catch C [] ⟨0, 10, 13, 29⟩ [⟨0, 10, 17, 15⟩] 13 rfl (by rw [htb]; rfl) hT hE (fun z hz => absurd hz List.not_mem_nil) (by decide) (by decide) (C.2.2.2.2.1 _ (by decide +kernel)) (fun q => ?_)
      refine x_astR C [(4, .ref q), (0, ra V 0), (1, .int a0), (2, .int (bI a1)), (3, .ref lo)] dL_addPlain_13 (by decide) rfl ?_
      refine x_iconst C (1 : Int32) (by decide) dL_addPlain_15 ?_
      exact x_iretW C hr hlk (Nat.le_of_ble_eq_true rfl) (Nat.le_of_ble_eq_true rfl) dL_addPlain_16 ⟨by rw [hk]; rfl, by rw [if_neg (by rw [hk]; decide)], fun h => absurd h (by rw [hk]; decide), fun _ => by rw [hk]; decide⟩
    · refine x_catch C [⟨0, 10, 13, 29⟩] ⟨0, 10, 17, 15⟩ [] 17 rfl (by rw [htb]; rfl) hT hE (by intro z hz; simp only [List.mem_cons, List.not_mem_nil, or_false] at hz; rcases hz with rfl <;> first | exact ⟨by decide, "java/lang/IndexOutOfBoundsException", C.2.2.2.2.1 _ (by decide +kernel), by decide, by decide⟩) (by decide) (by decide) (C.2.2.2.2.1 _ (by decide +kernel)) (fun q => ?_)
      refine x_astR C [(4, .ref q), (0, ra V 0), (1, .int a0), (2, .int (bI a1)), (3, .ref lo)] dL_addPlain_17 (by decide) rfl ?_
      refine x_iconst C (2 : Int32) (by decide) dL_addPlain_19 ?_
      exact x_iretW C hr hlk (Nat.le_of_ble_eq_true rfl) (Nat.le_of_ble_eq_true rfl) dL_addPlain_20 ⟨by rw [hk]; rfl, by rw [if_neg (by rw [hk]; decide)], fun h => absurd h (by rw [hk]; decide), fun _ => by rw [hk]; decide⟩
set_option maxHeartbeats 4000000 in
set_option maxRecDepth 100000 in
theorem c_L_addArgument (l : Launch) (hlst : l.stackTraces = false) (V : xV) (hV : xInj V) (lo : Nat) (hO : ∀ k, k < 108 → xad V k ≠ lo) (σ : xS) (gg : Nat → Int64) (a0 : Int32) (a1 : Int32) : xW l yL_addArgument wsL_addArgument ({ frames := 7, cells := 1, slots := 6, locals := 112 }) V lo gg [ra V 0, .int a0, .int a1, .ref lo] σ (fun v σ' g' => v = nI (kArg σ a0 a1) ∧ σ' = (if kArg σ a0 a1 = 0 then eApp σ 3 a0 a1 else (σ)) ∧ (kArg σ a0 a1 = 0 → g' 0 = ((σ 205 0) : Int32).toInt64) ∧ (kArg σ a0 a1 ≠ 0 → ¬ nI (kArg σ a0 a1) = 0)) := by
  refine xW_of (cc := cL_addArgument) (maxL := 5) (ret := (some .int)) (hh := [(0, 10, 13, 29), (0, 10, 17, 15)]) [(0, ra V 0), (1, .int a0), (2, .int a1), (3, .ref lo)] hV hO (by decide) rfl rfl (Nat.le_of_ble_eq_true rfl) (fun p e s m args below meth c C hr hlk htb hT hZ => ?_)
  refine x_arefn C dL_addArgument_0 rfl 3 rfl ?_
  refine x_iconst C (0 : Int32) (by decide) dL_addArgument_1 ?_
  refine x_aload_n C dL_addArgument_2 rfl 0 rfl ?_
  refine x_iload_n C dL_addArgument_3 rfl 1 rfl ?_
  refine x_iload_n C dL_addArgument_4 rfl 2 rfl ?_
  refine x_callVT C hT hZ sh_0 (by decide) rfl [.int a0, .int a1] (c_X8_addArgument l hlst V hV σ a0 a1) (cwV 2 C.2.2.2.2.1 gL_addArgument_X8_addArgument rfl rfl rfl (by decide +kernel) ⟨Nat.le_of_ble_eq_true rfl, Nat.le_of_ble_eq_true rfl⟩) rfl rfl (Nat.le_of_ble_eq_true rfl) dL_addArgument_5 ⟨Nat.le_of_ble_eq_true rfl, Nat.le_of_ble_eq_true rfl⟩ (x_kT (fun hk => ?_)) (fun En hRx hE => ?_)
  · refine x_i2l C dL_addArgument_8 ?_
    refine x_last C dL_addArgument_9 ?_
    have C1 := XC_oc C hV hO (fun q h => h) (vp_updL gg 0 (((σ 205 0) : Int32).toInt64))
    refine x_goto C1 21 dL_addArgument_10 rfl ?_
    refine x_iconst C1 (0 : Int32) (by decide) dL_addArgument_21 ?_
    exact x_iretW C1 hr hlk (Nat.le_of_ble_eq_true rfl) (Nat.le_of_ble_eq_true rfl) dL_addArgument_22 ⟨by rw [hk, nI_0], by rw [if_pos hk], fun _ => rfl, fun h => absurd hk h⟩
  · rcases hRx with ⟨rfl, hk⟩ | ⟨rfl, hk⟩
    · refine x_catch C [] ⟨0, 10, 13, 29⟩ [⟨0, 10, 17, 15⟩] 13 rfl (by rw [htb]; rfl) hT hE (fun z hz => absurd hz List.not_mem_nil) (by decide) (by decide) (C.2.2.2.2.1 _ (by decide +kernel)) (fun q => ?_)
      refine x_astR C [(4, .ref q), (0, ra V 0), (1, .int a0), (2, .int a1), (3, .ref lo)] dL_addArgument_13 (by decide) rfl ?_
      refine x_iconst C (1 : Int32) (by decide) dL_addArgument_15 ?_
      exact x_iretW C hr hlk (Nat.le_of_ble_eq_true rfl) (Nat.le_of_ble_eq_true rfl) dL_addArgument_16 ⟨by rw [hk]; rfl, by rw [if_neg (by rw [hk]; decide)], fun h => absurd h (by rw [hk]; decide), fun _ => by rw [hk]; decide⟩
    · refine x_catch C [⟨0, 10, 13, 29⟩] ⟨0, 10, 17, 15⟩ [] 17 rfl (by rw [htb]; rfl) hT hE (by intro z hz; simp only [List.mem_cons, List.not_mem_nil, or_false] at hz; rcases hz with rfl <;> first | exact ⟨by decide, "java/lang/IndexOutOfBoundsException", C.2.2.2.2.1 _ (by decide +kernel), by decide, by decide⟩) (by decide) (by decide) (C.2.2.2.2.1 _ (by decide +kernel)) (fun q => ?_)
      refine x_astR C [(4, .ref q), (0, ra V 0), (1, .int a0), (2, .int a1), (3, .ref lo)] dL_addArgument_17 (by decide) rfl ?_
      refine x_iconst C (2 : Int32) (by decide) dL_addArgument_19 ?_
      exact x_iretW C hr hlk (Nat.le_of_ble_eq_true rfl) (Nat.le_of_ble_eq_true rfl) dL_addArgument_20 ⟨by rw [hk]; rfl, by rw [if_neg (by rw [hk]; decide)], fun h => absurd h (by rw [hk]; decide), fun _ => by rw [hk]; decide⟩
set_option maxHeartbeats 4000000 in
set_option maxRecDepth 100000 in
theorem c_L_addFieldOf (l : Launch) (hlst : l.stackTraces = false) (V : xV) (hV : xInj V) (lo : Nat) (hO : ∀ k, k < 108 → xad V k ≠ lo) (σ : xS) (gg : Nat → Int64) (a0 : Int32) (a1 : Int32) : xW l yL_addFieldOf wsL_addFieldOf ({ frames := 7, cells := 1, slots := 6, locals := 113 }) V lo gg [ra V 0, .int a0, .int a1, .ref lo] σ (fun v σ' g' => v = nI (kFOf σ a0 a1) ∧ σ' = (if kFOf σ a0 a1 = 0 then eSet (eApp σ 4 (vAt 50 (σ 51) a0) a1) (σ 205 0) a0 (-1) (-1) else (σ)) ∧ (kFOf σ a0 a1 = 0 → g' 0 = ((σ 205 0) : Int32).toInt64) ∧ (kFOf σ a0 a1 ≠ 0 → ¬ nI (kFOf σ a0 a1) = 0)) := by
  refine xW_of (cc := cL_addFieldOf) (maxL := 5) (ret := (some .int)) (hh := [(0, 10, 13, 29), (0, 10, 17, 13), (0, 10, 21, 15)]) [(0, ra V 0), (1, .int a0), (2, .int a1), (3, .ref lo)] hV hO (by decide) rfl rfl (Nat.le_of_ble_eq_true rfl) (fun p e s m args below meth c C hr hlk htb hT hZ => ?_)
  refine x_arefn C dL_addFieldOf_0 rfl 3 rfl ?_
  refine x_iconst C (0 : Int32) (by decide) dL_addFieldOf_1 ?_
  refine x_aload_n C dL_addFieldOf_2 rfl 0 rfl ?_
  refine x_iload_n C dL_addFieldOf_3 rfl 1 rfl ?_
  refine x_iload_n C dL_addFieldOf_4 rfl 2 rfl ?_
  refine x_callVT C hT hZ sh_0 (by decide) rfl [.int a0, .int a1] (c_X8_addFieldOf l hlst V hV σ a0 a1) (cwV 2 C.2.2.2.2.1 gL_addFieldOf_X8_addFieldOf rfl rfl rfl (by decide +kernel) ⟨Nat.le_of_ble_eq_true rfl, Nat.le_of_ble_eq_true rfl⟩) rfl rfl (Nat.le_of_ble_eq_true rfl) dL_addFieldOf_5 ⟨Nat.le_of_ble_eq_true rfl, Nat.le_of_ble_eq_true rfl⟩ (x_kT (fun hk => ?_)) (fun En hRx hE => ?_)
  · refine x_i2l C dL_addFieldOf_8 ?_
    refine x_last C dL_addFieldOf_9 ?_
    have C1 := XC_oc C hV hO (fun q h => h) (vp_updL gg 0 (((σ 205 0) : Int32).toInt64))
    refine x_goto C1 25 dL_addFieldOf_10 rfl ?_
    refine x_iconst C1 (0 : Int32) (by decide) dL_addFieldOf_25 ?_
    exact x_iretW C1 hr hlk (Nat.le_of_ble_eq_true rfl) (Nat.le_of_ble_eq_true rfl) dL_addFieldOf_26 ⟨by rw [hk, nI_0], by rw [if_pos hk], fun _ => rfl, fun h => absurd hk h⟩
  · rcases hRx with ⟨rfl, hk⟩ | ⟨rfl, hk⟩ | ⟨rfl, hk⟩
    · refine x_catch C [] ⟨0, 10, 13, 29⟩ [⟨0, 10, 17, 13⟩, ⟨0, 10, 21, 15⟩] 13 rfl (by rw [htb]; rfl) hT hE (fun z hz => absurd hz List.not_mem_nil) (by decide) (by decide) (C.2.2.2.2.1 _ (by decide +kernel)) (fun q => ?_)
      refine x_astR C [(4, .ref q), (0, ra V 0), (1, .int a0), (2, .int a1), (3, .ref lo)] dL_addFieldOf_13 (by decide) rfl ?_
      refine x_iconst C (1 : Int32) (by decide) dL_addFieldOf_15 ?_
      exact x_iretW C hr hlk (Nat.le_of_ble_eq_true rfl) (Nat.le_of_ble_eq_true rfl) dL_addFieldOf_16 ⟨by rw [hk]; rfl, by rw [if_neg (by rw [hk]; decide)], fun h => absurd h (by rw [hk]; decide), fun _ => by rw [hk]; decide⟩
    · refine x_catch C [⟨0, 10, 13, 29⟩] ⟨0, 10, 17, 13⟩ [⟨0, 10, 21, 15⟩] 17 rfl (by rw [htb]; rfl) hT hE (by intro z hz; simp only [List.mem_cons, List.not_mem_nil, or_false] at hz; rcases hz with rfl <;> first | exact ⟨by decide, "java/lang/IndexOutOfBoundsException", C.2.2.2.2.1 _ (by decide +kernel), by decide, by decide⟩) (by decide) (by decide) (C.2.2.2.2.1 _ (by decide +kernel)) (fun q => ?_)
      refine x_astR C [(4, .ref q), (0, ra V 0), (1, .int a0), (2, .int a1), (3, .ref lo)] dL_addFieldOf_17 (by decide) rfl ?_
      refine x_iconst C (2 : Int32) (by decide) dL_addFieldOf_19 ?_
      exact x_iretW C hr hlk (Nat.le_of_ble_eq_true rfl) (Nat.le_of_ble_eq_true rfl) dL_addFieldOf_20 ⟨by rw [hk]; rfl, by rw [if_neg (by rw [hk]; decide)], fun h => absurd h (by rw [hk]; decide), fun _ => by rw [hk]; decide⟩
    · refine x_catch C [⟨0, 10, 13, 29⟩, ⟨0, 10, 17, 13⟩] ⟨0, 10, 21, 15⟩ [] 21 rfl (by rw [htb]; rfl) hT hE (by intro z hz; simp only [List.mem_cons, List.not_mem_nil, or_false] at hz; rcases hz with rfl | rfl <;> first | exact ⟨by decide, "java/lang/IndexOutOfBoundsException", C.2.2.2.2.1 _ (by decide +kernel), by decide, by decide⟩ | exact ⟨by decide, "java/lang/IllegalArgumentException", C.2.2.2.2.1 _ (by decide +kernel), by decide, by decide⟩) (by decide) (by decide) (C.2.2.2.2.1 _ (by decide +kernel)) (fun q => ?_)
      refine x_astR C [(4, .ref q), (0, ra V 0), (1, .int a0), (2, .int a1), (3, .ref lo)] dL_addFieldOf_21 (by decide) rfl ?_
      refine x_iconst C (3 : Int32) (by decide) dL_addFieldOf_23 ?_
      exact x_iretW C hr hlk (Nat.le_of_ble_eq_true rfl) (Nat.le_of_ble_eq_true rfl) dL_addFieldOf_24 ⟨by rw [hk]; rfl, by rw [if_neg (by rw [hk]; decide)], fun h => absurd h (by rw [hk]; decide), fun _ => by rw [hk]; decide⟩
set_option maxHeartbeats 4000000 in
set_option maxRecDepth 100000 in
theorem c_L_addCall (l : Launch) (hlst : l.stackTraces = false) (V : xV) (hV : xInj V) (lo : Nat) (hO : ∀ k, k < 108 → xad V k ≠ lo) (σ : xS) (gg : Nat → Int64) (a0 : Int32) (a1 : Int32) (a2 : Int32) (a3 : Int32) : xW l yL_addCall wsL_addCall ({ frames := 7, cells := 1, slots := 6, locals := 115 }) V lo gg [ra V 0, .int a0, .int a1, .int a2, .int a3, .ref lo] σ (fun v σ' g' => v = nI (kCall σ a0 a1 a2 a3) ∧ σ' = (if kCall σ a0 a1 a2 a3 = 0 then eSet (eApp σ 5 (vAt 50 (σ 51) a0) a1) (σ 205 0) a0 a2 a3 else (σ)) ∧ (kCall σ a0 a1 a2 a3 = 0 → g' 0 = ((σ 205 0) : Int32).toInt64) ∧ (kCall σ a0 a1 a2 a3 ≠ 0 → ¬ nI (kCall σ a0 a1 a2 a3) = 0)) := by
  refine xW_of (cc := cL_addCall) (maxL := 7) (ret := (some .int)) (hh := [(0, 14, 17, 29), (0, 14, 21, 13), (0, 14, 25, 15)]) [(0, ra V 0), (1, .int a0), (2, .int a1), (3, .int a2), (4, .int a3), (5, .ref lo)] hV hO (by decide) rfl rfl (Nat.le_of_ble_eq_true rfl) (fun p e s m args below meth c C hr hlk htb hT hZ => ?_)
  refine x_aref C dL_addCall_0 5 rfl ?_
  refine x_iconst C (0 : Int32) (by decide) dL_addCall_2 ?_
  refine x_aload_n C dL_addCall_3 rfl 0 rfl ?_
  refine x_iload_n C dL_addCall_4 rfl 1 rfl ?_
  refine x_iload_n C dL_addCall_5 rfl 2 rfl ?_
  refine x_iload_n C dL_addCall_6 rfl 3 rfl ?_
  refine x_iload C dL_addCall_7 4 rfl ?_
  refine x_callVT C hT hZ sh_0 (by decide) rfl [.int a0, .int a1, .int a2, .int a3] (c_X8_addCall l hlst V hV σ a0 a1 a2 a3) (cwV 4 C.2.2.2.2.1 gL_addCall_X8_addCall rfl rfl rfl (by decide +kernel) ⟨Nat.le_of_ble_eq_true rfl, Nat.le_of_ble_eq_true rfl⟩) rfl rfl (Nat.le_of_ble_eq_true rfl) dL_addCall_9 ⟨Nat.le_of_ble_eq_true rfl, Nat.le_of_ble_eq_true rfl⟩ (x_kT (fun hk => ?_)) (fun En hRx hE => ?_)
  · refine x_i2l C dL_addCall_12 ?_
    refine x_last C dL_addCall_13 ?_
    have C1 := XC_oc C hV hO (fun q h => h) (vp_updL gg 0 (((σ 205 0) : Int32).toInt64))
    refine x_goto C1 29 dL_addCall_14 rfl ?_
    refine x_iconst C1 (0 : Int32) (by decide) dL_addCall_29 ?_
    exact x_iretW C1 hr hlk (Nat.le_of_ble_eq_true rfl) (Nat.le_of_ble_eq_true rfl) dL_addCall_30 ⟨by rw [hk, nI_0], by rw [if_pos hk], fun _ => rfl, fun h => absurd hk h⟩
  · rcases hRx with ⟨rfl, hk⟩ | ⟨rfl, hk⟩ | ⟨rfl, hk⟩
    · refine x_catch C [] ⟨0, 14, 17, 29⟩ [⟨0, 14, 21, 13⟩, ⟨0, 14, 25, 15⟩] 17 rfl (by rw [htb]; rfl) hT hE (fun z hz => absurd hz List.not_mem_nil) (by decide) (by decide) (C.2.2.2.2.1 _ (by decide +kernel)) (fun q => ?_)
      refine x_astR C [(6, .ref q), (0, ra V 0), (1, .int a0), (2, .int a1), (3, .int a2), (4, .int a3), (5, .ref lo)] dL_addCall_17 (by decide) rfl ?_
      refine x_iconst C (1 : Int32) (by decide) dL_addCall_19 ?_
      exact x_iretW C hr hlk (Nat.le_of_ble_eq_true rfl) (Nat.le_of_ble_eq_true rfl) dL_addCall_20 ⟨by rw [hk]; rfl, by rw [if_neg (by rw [hk]; decide)], fun h => absurd h (by rw [hk]; decide), fun _ => by rw [hk]; decide⟩
    · refine x_catch C [⟨0, 14, 17, 29⟩] ⟨0, 14, 21, 13⟩ [⟨0, 14, 25, 15⟩] 21 rfl (by rw [htb]; rfl) hT hE (by intro z hz; simp only [List.mem_cons, List.not_mem_nil, or_false] at hz; rcases hz with rfl <;> first | exact ⟨by decide, "java/lang/IndexOutOfBoundsException", C.2.2.2.2.1 _ (by decide +kernel), by decide, by decide⟩) (by decide) (by decide) (C.2.2.2.2.1 _ (by decide +kernel)) (fun q => ?_)
      refine x_astR C [(6, .ref q), (0, ra V 0), (1, .int a0), (2, .int a1), (3, .int a2), (4, .int a3), (5, .ref lo)] dL_addCall_21 (by decide) rfl ?_
      refine x_iconst C (2 : Int32) (by decide) dL_addCall_23 ?_
      exact x_iretW C hr hlk (Nat.le_of_ble_eq_true rfl) (Nat.le_of_ble_eq_true rfl) dL_addCall_24 ⟨by rw [hk]; rfl, by rw [if_neg (by rw [hk]; decide)], fun h => absurd h (by rw [hk]; decide), fun _ => by rw [hk]; decide⟩
    · refine x_catch C [⟨0, 14, 17, 29⟩, ⟨0, 14, 21, 13⟩] ⟨0, 14, 25, 15⟩ [] 25 rfl (by rw [htb]; rfl) hT hE (by intro z hz; simp only [List.mem_cons, List.not_mem_nil, or_false] at hz; rcases hz with rfl | rfl <;> first | exact ⟨by decide, "java/lang/IndexOutOfBoundsException", C.2.2.2.2.1 _ (by decide +kernel), by decide, by decide⟩ | exact ⟨by decide, "java/lang/IllegalArgumentException", C.2.2.2.2.1 _ (by decide +kernel), by decide, by decide⟩) (by decide) (by decide) (C.2.2.2.2.1 _ (by decide +kernel)) (fun q => ?_)
      refine x_astR C [(6, .ref q), (0, ra V 0), (1, .int a0), (2, .int a1), (3, .int a2), (4, .int a3), (5, .ref lo)] dL_addCall_25 (by decide) rfl ?_
      refine x_iconst C (3 : Int32) (by decide) dL_addCall_27 ?_
      exact x_iretW C hr hlk (Nat.le_of_ble_eq_true rfl) (Nat.le_of_ble_eq_true rfl) dL_addCall_28 ⟨by rw [hk]; rfl, by rw [if_neg (by rw [hk]; decide)], fun h => absurd h (by rw [hk]; decide), fun _ => by rw [hk]; decide⟩
set_option maxHeartbeats 4000000 in
set_option maxRecDepth 100000 in
theorem c_L_addResult (l : Launch) (hlst : l.stackTraces = false) (V : xV) (hV : xInj V) (lo : Nat) (hO : ∀ k, k < 108 → xad V k ≠ lo) (σ : xS) (gg : Nat → Int64) (a0 : Int32) (a1 : Int32) (a2 : Int32) : xW l yL_addResult wsL_addResult ({ frames := 7, cells := 1, slots := 6, locals := 116 }) V lo gg [ra V 0, .int a0, .int a1, .int a2, .ref lo] σ (fun v σ' g' => v = nI (kRes σ a0 a1 a2) ∧ σ' = (if kRes σ a0 a1 a2 = 0 then vPut (cApp σ 60 16 204 a1 a2) 68 16 (σ 204 0) a0 else (σ)) ∧ (kRes σ a0 a1 a2 = 0 → g' 0 = ((σ 204 0) : Int32).toInt64) ∧ (kRes σ a0 a1 a2 ≠ 0 → ¬ nI (kRes σ a0 a1 a2) = 0)) := by
  refine xW_of (cc := cL_addResult) (maxL := 6) (ret := (some .int)) (hh := [(0, 12, 15, 29), (0, 12, 19, 13), (0, 12, 23, 15)]) [(0, ra V 0), (1, .int a0), (2, .int a1), (3, .int a2), (4, .ref lo)] hV hO (by decide) rfl rfl (Nat.le_of_ble_eq_true rfl) (fun p e s m args below meth c C hr hlk htb hT hZ => ?_)
  refine x_aref C dL_addResult_0 4 rfl ?_
  refine x_iconst C (0 : Int32) (by decide) dL_addResult_2 ?_
  refine x_aload_n C dL_addResult_3 rfl 0 rfl ?_
  refine x_iload_n C dL_addResult_4 rfl 1 rfl ?_
  refine x_iload_n C dL_addResult_5 rfl 2 rfl ?_
  refine x_iload_n C dL_addResult_6 rfl 3 rfl ?_
  refine x_callVT C hT hZ sh_0 (by decide) rfl [.int a0, .int a1, .int a2] (c_X8_addResult l hlst V hV σ a0 a1 a2) (cwV 3 C.2.2.2.2.1 gL_addResult_X8_addResult rfl rfl rfl (by decide +kernel) ⟨Nat.le_of_ble_eq_true rfl, Nat.le_of_ble_eq_true rfl⟩) rfl rfl (Nat.le_of_ble_eq_true rfl) dL_addResult_7 ⟨Nat.le_of_ble_eq_true rfl, Nat.le_of_ble_eq_true rfl⟩ (x_kT (fun hk => ?_)) (fun En hRx hE => ?_)
  · refine x_i2l C dL_addResult_10 ?_
    refine x_last C dL_addResult_11 ?_
    have C1 := XC_oc C hV hO (fun q h => h) (vp_updL gg 0 (((σ 204 0) : Int32).toInt64))
    refine x_goto C1 27 dL_addResult_12 rfl ?_
    refine x_iconst C1 (0 : Int32) (by decide) dL_addResult_27 ?_
    exact x_iretW C1 hr hlk (Nat.le_of_ble_eq_true rfl) (Nat.le_of_ble_eq_true rfl) dL_addResult_28 ⟨by rw [hk, nI_0], by rw [if_pos hk], fun _ => rfl, fun h => absurd hk h⟩
  · rcases hRx with ⟨rfl, hk⟩ | ⟨rfl, hk⟩ | ⟨rfl, hk⟩
    · refine x_catch C [] ⟨0, 12, 15, 29⟩ [⟨0, 12, 19, 13⟩, ⟨0, 12, 23, 15⟩] 15 rfl (by rw [htb]; rfl) hT hE (fun z hz => absurd hz List.not_mem_nil) (by decide) (by decide) (C.2.2.2.2.1 _ (by decide +kernel)) (fun q => ?_)
      refine x_astR C [(5, .ref q), (0, ra V 0), (1, .int a0), (2, .int a1), (3, .int a2), (4, .ref lo)] dL_addResult_15 (by decide) rfl ?_
      refine x_iconst C (1 : Int32) (by decide) dL_addResult_17 ?_
      exact x_iretW C hr hlk (Nat.le_of_ble_eq_true rfl) (Nat.le_of_ble_eq_true rfl) dL_addResult_18 ⟨by rw [hk]; rfl, by rw [if_neg (by rw [hk]; decide)], fun h => absurd h (by rw [hk]; decide), fun _ => by rw [hk]; decide⟩
    · refine x_catch C [⟨0, 12, 15, 29⟩] ⟨0, 12, 19, 13⟩ [⟨0, 12, 23, 15⟩] 19 rfl (by rw [htb]; rfl) hT hE (by intro z hz; simp only [List.mem_cons, List.not_mem_nil, or_false] at hz; rcases hz with rfl <;> first | exact ⟨by decide, "java/lang/IndexOutOfBoundsException", C.2.2.2.2.1 _ (by decide +kernel), by decide, by decide⟩) (by decide) (by decide) (C.2.2.2.2.1 _ (by decide +kernel)) (fun q => ?_)
      refine x_astR C [(5, .ref q), (0, ra V 0), (1, .int a0), (2, .int a1), (3, .int a2), (4, .ref lo)] dL_addResult_19 (by decide) rfl ?_
      refine x_iconst C (2 : Int32) (by decide) dL_addResult_21 ?_
      exact x_iretW C hr hlk (Nat.le_of_ble_eq_true rfl) (Nat.le_of_ble_eq_true rfl) dL_addResult_22 ⟨by rw [hk]; rfl, by rw [if_neg (by rw [hk]; decide)], fun h => absurd h (by rw [hk]; decide), fun _ => by rw [hk]; decide⟩
    · refine x_catch C [⟨0, 12, 15, 29⟩, ⟨0, 12, 19, 13⟩] ⟨0, 12, 23, 15⟩ [] 23 rfl (by rw [htb]; rfl) hT hE (by intro z hz; simp only [List.mem_cons, List.not_mem_nil, or_false] at hz; rcases hz with rfl | rfl <;> first | exact ⟨by decide, "java/lang/IndexOutOfBoundsException", C.2.2.2.2.1 _ (by decide +kernel), by decide, by decide⟩ | exact ⟨by decide, "java/lang/IllegalArgumentException", C.2.2.2.2.1 _ (by decide +kernel), by decide, by decide⟩) (by decide) (by decide) (C.2.2.2.2.1 _ (by decide +kernel)) (fun q => ?_)
      refine x_astR C [(5, .ref q), (0, ra V 0), (1, .int a0), (2, .int a1), (3, .int a2), (4, .ref lo)] dL_addResult_23 (by decide) rfl ?_
      refine x_iconst C (3 : Int32) (by decide) dL_addResult_25 ?_
      exact x_iretW C hr hlk (Nat.le_of_ble_eq_true rfl) (Nat.le_of_ble_eq_true rfl) dL_addResult_26 ⟨by rw [hk]; rfl, by rw [if_neg (by rw [hk]; decide)], fun h => absurd h (by rw [hk]; decide), fun _ => by rw [hk]; decide⟩
set_option maxHeartbeats 4000000 in
set_option maxRecDepth 100000 in
theorem c_L_setCondition (l : Launch) (hlst : l.stackTraces = false) (V : xV) (hV : xInj V) (lo : Nat) (hO : ∀ k, k < 108 → xad V k ≠ lo) (σ : xS) (gg : Nat → Int64) (a0 : Int32) (a1 : Int32) (a2 : Int32) (a3 : Int32) : xW l yL_setCondition wsL_setCondition ({ frames := 7, cells := 1, slots := 6, locals := 114 }) V lo gg [ra V 0, .int a0, .int a1, .int a2, .int a3, .ref lo] σ (fun v σ' g' => v = nI (kSet σ a0 a1 a2 a3) ∧ σ' = (if kSet σ a0 a1 a2 a3 = 0 then cPut σ (setQ a0) (setC a0) a1 a2 a3 else (σ)) ∧ (kSet σ a0 a1 a2 a3 = 0 → g' 0 = (if (cChg σ (setQ a0) (setC a0) a1 a2 a3) = true then (1 : Int64) else 0)) ∧ (kSet σ a0 a1 a2 a3 ≠ 0 → ¬ nI (kSet σ a0 a1 a2 a3) = 0)) := by
  refine xW_of (cc := cL_setCondition) (maxL := 7) (ret := (some .int)) (hh := [(0, 21, 24, 29), (0, 21, 28, 13)]) [(0, ra V 0), (1, .int a0), (2, .int a1), (3, .int a2), (4, .int a3), (5, .ref lo)] hV hO (by decide) rfl rfl (Nat.le_of_ble_eq_true rfl) (fun p e s m args below meth c C hr hlk htb hT hZ => ?_)
  refine x_aref C dL_setCondition_0 5 rfl ?_
  refine x_iconst C (0 : Int32) (by decide) dL_setCondition_2 ?_
  refine x_aload_n C dL_setCondition_3 rfl 0 rfl ?_
  refine x_iload_n C dL_setCondition_4 rfl 1 rfl ?_
  refine x_iload_n C dL_setCondition_5 rfl 2 rfl ?_
  refine x_iload_n C dL_setCondition_6 rfl 3 rfl ?_
  refine x_iload C dL_setCondition_7 4 rfl ?_
  refine x_callVT C hT hZ sh_0 (by decide) rfl [.int a0, .int a1, .int a2, .int a3] (c_X8_setCondition l hlst V hV σ a0 a1 a2 a3) (cwV 4 C.2.2.2.2.1 gL_setCondition_X8_setCondition rfl rfl rfl (by decide +kernel) ⟨Nat.le_of_ble_eq_true rfl, Nat.le_of_ble_eq_true rfl⟩) rfl rfl (Nat.le_of_ble_eq_true rfl) dL_setCondition_9 ⟨Nat.le_of_ble_eq_true rfl, Nat.le_of_ble_eq_true rfl⟩ (x_kT (fun hk => ?_)) (fun En hRx hE => ?_)
  · refine x_bif_eq C 19 dL_setCondition_12 rfl (fun hb => ?_) (fun hb => ?_)
    · refine x_lconst C (0 : Int64) rfl dL_setCondition_19 ?_
      refine x_last C dL_setCondition_20 ?_
      have C1 := XC_oc C hV hO (fun q h => h) (vp_updL gg 0 (0))
      refine x_goto C1 32 dL_setCondition_21 rfl ?_
      refine x_iconst C1 (0 : Int32) (by decide) dL_setCondition_32 ?_
      exact x_iretW C1 hr hlk (Nat.le_of_ble_eq_true rfl) (Nat.le_of_ble_eq_true rfl) dL_setCondition_33 ⟨by rw [hk, nI_0], by rw [if_pos hk], fun _ => by rw [if_neg (by rw [hb]; decide)]; rfl, fun h => absurd hk h⟩
    · refine x_lconst C (1 : Int64) rfl dL_setCondition_15 ?_
      refine x_goto C 20 dL_setCondition_16 rfl ?_
      refine x_last C dL_setCondition_20 ?_
      have C1 := XC_oc C hV hO (fun q h => h) (vp_updL gg 0 (1))
      refine x_goto C1 32 dL_setCondition_21 rfl ?_
      refine x_iconst C1 (0 : Int32) (by decide) dL_setCondition_32 ?_
      exact x_iretW C1 hr hlk (Nat.le_of_ble_eq_true rfl) (Nat.le_of_ble_eq_true rfl) dL_setCondition_33 ⟨by rw [hk, nI_0], by rw [if_pos hk], fun _ => by rw [if_pos hb]; rfl, fun h => absurd hk h⟩
  · rcases hRx with ⟨rfl, hk⟩ | ⟨rfl, hk⟩
    · refine x_catch C [] ⟨0, 21, 24, 29⟩ [⟨0, 21, 28, 13⟩] 24 rfl (by rw [htb]; rfl) hT hE (fun z hz => absurd hz List.not_mem_nil) (by decide) (by decide) (C.2.2.2.2.1 _ (by decide +kernel)) (fun q => ?_)
      refine x_astR C [(6, .ref q), (0, ra V 0), (1, .int a0), (2, .int a1), (3, .int a2), (4, .int a3), (5, .ref lo)] dL_setCondition_24 (by decide) rfl ?_
      refine x_iconst C (1 : Int32) (by decide) dL_setCondition_26 ?_
      exact x_iretW C hr hlk (Nat.le_of_ble_eq_true rfl) (Nat.le_of_ble_eq_true rfl) dL_setCondition_27 ⟨by rw [hk]; rfl, by rw [if_neg (by rw [hk]; decide)], fun h => absurd h (by rw [hk]; decide), fun _ => by rw [hk]; decide⟩
    · refine x_catch C [⟨0, 21, 24, 29⟩] ⟨0, 21, 28, 13⟩ [] 28 rfl (by rw [htb]; rfl) hT hE (by intro z hz; simp only [List.mem_cons, List.not_mem_nil, or_false] at hz; rcases hz with rfl <;> first | exact ⟨by decide, "java/lang/IndexOutOfBoundsException", C.2.2.2.2.1 _ (by decide +kernel), by decide, by decide⟩) (by decide) (by decide) (C.2.2.2.2.1 _ (by decide +kernel)) (fun q => ?_)
      refine x_astR C [(6, .ref q), (0, ra V 0), (1, .int a0), (2, .int a1), (3, .int a2), (4, .int a3), (5, .ref lo)] dL_setCondition_28 (by decide) rfl ?_
      refine x_iconst C (2 : Int32) (by decide) dL_setCondition_30 ?_
      exact x_iretW C hr hlk (Nat.le_of_ble_eq_true rfl) (Nat.le_of_ble_eq_true rfl) dL_setCondition_31 ⟨by rw [hk]; rfl, by rw [if_neg (by rw [hk]; decide)], fun h => absurd h (by rw [hk]; decide), fun _ => by rw [hk]; decide⟩
set_option maxHeartbeats 4000000 in
set_option maxRecDepth 100000 in
theorem c_L_dropResult (l : Launch) (hlst : l.stackTraces = false) (V : xV) (hV : xInj V) (lo : Nat) (hO : ∀ k, k < 108 → xad V k ≠ lo) (σ : xS) (gg : Nat → Int64) : xW l yL_dropResult wsL_dropResult ({ frames := 7, cells := 1, slots := 6, locals := 110 }) V lo gg [ra V 0, .ref lo] σ (fun v σ' g' => v = nI (kDropX σ) ∧ σ' = (if kDropX σ = 0 then xw σ 204 0 (σ 204 0 - 1) else (σ)) ∧ (kDropX σ = 0 → g' 0 = ((xw σ 204 0 (σ 204 0 - 1) 204 0) : Int32).toInt64) ∧ (kDropX σ ≠ 0 → ¬ nI (kDropX σ) = 0)) := by
  refine xW_of (cc := cL_dropResult) (maxL := 3) (ret := (some .int)) (hh := [(0, 8, 11, 15)]) [(0, ra V 0), (1, .ref lo)] hV hO (by decide) rfl rfl (Nat.le_of_ble_eq_true rfl) (fun p e s m args below meth c C hr hlk htb hT hZ => ?_)
  refine x_arefn C dL_dropResult_0 rfl 1 rfl ?_
  refine x_iconst C (0 : Int32) (by decide) dL_dropResult_1 ?_
  refine x_aload_n C dL_dropResult_2 rfl 0 rfl ?_
  refine x_callVT C hT hZ sh_0 (by decide) rfl [] (c_X8_dropResult l hlst V hV σ) (cwV 0 C.2.2.2.2.1 gL_dropResult_X8_dropResult rfl rfl rfl (by decide +kernel) ⟨Nat.le_of_ble_eq_true rfl, Nat.le_of_ble_eq_true rfl⟩) rfl rfl (Nat.le_of_ble_eq_true rfl) dL_dropResult_3 ⟨Nat.le_of_ble_eq_true rfl, Nat.le_of_ble_eq_true rfl⟩ (x_kT (fun hk => ?_)) (fun En hRx hE => ?_)
  · refine x_i2l C dL_dropResult_6 ?_
    refine x_last C dL_dropResult_7 ?_
    have C1 := XC_oc C hV hO (fun q h => h) (vp_updL gg 0 (((xw σ 204 0 (σ 204 0 - 1) 204 0) : Int32).toInt64))
    refine x_goto C1 14 dL_dropResult_8 rfl ?_
    refine x_iconst C1 (0 : Int32) (by decide) dL_dropResult_14 ?_
    exact x_iretW C1 hr hlk (Nat.le_of_ble_eq_true rfl) (Nat.le_of_ble_eq_true rfl) dL_dropResult_15 ⟨by rw [hk, nI_0], by rw [if_pos hk], fun _ => rfl, fun h => absurd hk h⟩
  · rcases hRx with ⟨rfl, hk⟩
    · refine x_catch C [] ⟨0, 8, 11, 15⟩ [] 11 rfl (by rw [htb]; rfl) hT hE (fun z hz => absurd hz List.not_mem_nil) (by decide) (by decide) (C.2.2.2.2.1 _ (by decide +kernel)) (fun q => ?_)
      refine x_astRn C [(2, .ref q), (0, ra V 0), (1, .ref lo)] dL_dropResult_11 rfl (by decide) rfl ?_
      refine x_iconst C (1 : Int32) (by decide) dL_dropResult_12 ?_
      exact x_iretW C hr hlk (Nat.le_of_ble_eq_true rfl) (Nat.le_of_ble_eq_true rfl) dL_dropResult_13 ⟨by rw [hk]; rfl, by rw [if_neg (by rw [hk]; decide)], fun h => absurd h (by rw [hk]; decide), fun _ => by rw [hk]; decide⟩
set_option maxHeartbeats 4000000 in
set_option maxRecDepth 100000 in
theorem c_L_count (l : Launch) (hlst : l.stackTraces = false) (V : xV) (hV : xInj V) (lo : Nat) (hO : ∀ k, k < 108 → xad V k ≠ lo) (σ : xS) (gg : Nat → Int64) (a0 : Int32) : xW l yL_count wsL_count ({ frames := 7, cells := 1, slots := 6, locals := 111 }) V lo gg [ra V 0, .int a0, .ref lo] σ (fun v σ' g' => v = nI (kCnt a0) ∧ σ' = (if kCnt a0 = 0 then σ else (σ)) ∧ (kCnt a0 = 0 → g' 0 = ((σ (szQ a0) 0) : Int32).toInt64) ∧ (kCnt a0 ≠ 0 → ¬ nI (kCnt a0) = 0)) := by
  refine xW_of (cc := cL_count) (maxL := 4) (ret := (some .int)) (hh := [(0, 9, 12, 29)]) [(0, ra V 0), (1, .int a0), (2, .ref lo)] hV hO (by decide) rfl rfl (Nat.le_of_ble_eq_true rfl) (fun p e s m args below meth c C hr hlk htb hT hZ => ?_)
  refine x_arefn C dL_count_0 rfl 2 rfl ?_
  refine x_iconst C (0 : Int32) (by decide) dL_count_1 ?_
  refine x_aload_n C dL_count_2 rfl 0 rfl ?_
  refine x_iload_n C dL_count_3 rfl 1 rfl ?_
  refine x_callVT C hT hZ sh_0 (by decide) rfl [.int a0] (c_X8_count l hlst V hV σ a0) (cwV 1 C.2.2.2.2.1 gL_count_X8_count rfl rfl rfl (by decide +kernel) ⟨Nat.le_of_ble_eq_true rfl, Nat.le_of_ble_eq_true rfl⟩) rfl rfl (Nat.le_of_ble_eq_true rfl) dL_count_4 ⟨Nat.le_of_ble_eq_true rfl, Nat.le_of_ble_eq_true rfl⟩ (x_kT (fun hk => ?_)) (fun En hRx hE => ?_)
  · refine x_i2l C dL_count_7 ?_
    refine x_last C dL_count_8 ?_
    have C1 := XC_oc C hV hO (fun q h => h) (vp_updL gg 0 (((σ (szQ a0) 0) : Int32).toInt64))
    refine x_goto C1 15 dL_count_9 rfl ?_
    refine x_iconst C1 (0 : Int32) (by decide) dL_count_15 ?_
    exact x_iretW C1 hr hlk (Nat.le_of_ble_eq_true rfl) (Nat.le_of_ble_eq_true rfl) dL_count_16 ⟨by rw [hk, nI_0], by rw [if_pos hk], fun _ => rfl, fun h => absurd hk h⟩
  · rcases hRx with ⟨rfl, hk⟩
    · refine x_catch C [] ⟨0, 9, 12, 29⟩ [] 12 rfl (by rw [htb]; rfl) hT hE (fun z hz => absurd hz List.not_mem_nil) (by decide) (by decide) (C.2.2.2.2.1 _ (by decide +kernel)) (fun q => ?_)
      refine x_astRn C [(3, .ref q), (0, ra V 0), (1, .int a0), (2, .ref lo)] dL_count_12 rfl (by decide) rfl ?_
      refine x_iconst C (1 : Int32) (by decide) dL_count_13 ?_
      exact x_iretW C hr hlk (Nat.le_of_ble_eq_true rfl) (Nat.le_of_ble_eq_true rfl) dL_count_14 ⟨by rw [hk]; rfl, by rw [if_neg (by rw [hk]; decide)], fun h => absurd h (by rw [hk]; decide), fun _ => by rw [hk]; decide⟩
set_option maxHeartbeats 4000000 in
set_option maxRecDepth 100000 in
theorem c_L_presence (l : Launch) (hlst : l.stackTraces = false) (V : xV) (hV : xInj V) (lo : Nat) (hO : ∀ k, k < 108 → xad V k ≠ lo) (σ : xS) (gg : Nat → Int64) (a0 : Int32) (a1 : Int32) : xW l yL_presence wsL_presence ({ frames := 7, cells := 1, slots := 6, locals := 112 }) V lo gg [ra V 0, .int a0, .int a1, .ref lo] σ (fun v σ' g' => v = nI (kPres σ a0 a1) ∧ σ' = (if kPres σ a0 a1 = 0 then σ else (σ)) ∧ (kPres σ a0 a1 = 0 → g' 0 = ((wT σ a0 a1 &&& allI σ) : Int32).toInt64) ∧ (kPres σ a0 a1 ≠ 0 → ¬ nI (kPres σ a0 a1) = 0)) := by
  refine xW_of (cc := cL_presence) (maxL := 5) (ret := (some .int)) (hh := [(0, 10, 13, 29)]) [(0, ra V 0), (1, .int a0), (2, .int a1), (3, .ref lo)] hV hO (by decide) rfl rfl (Nat.le_of_ble_eq_true rfl) (fun p e s m args below meth c C hr hlk htb hT hZ => ?_)
  refine x_arefn C dL_presence_0 rfl 3 rfl ?_
  refine x_iconst C (0 : Int32) (by decide) dL_presence_1 ?_
  refine x_aload_n C dL_presence_2 rfl 0 rfl ?_
  refine x_iload_n C dL_presence_3 rfl 1 rfl ?_
  refine x_iload_n C dL_presence_4 rfl 2 rfl ?_
  refine x_callVT C hT hZ sh_0 (by decide) rfl [.int a0, .int a1] (c_X8_presence l hlst V hV σ a0 a1) (cwV 2 C.2.2.2.2.1 gL_presence_X8_presence rfl rfl rfl (by decide +kernel) ⟨Nat.le_of_ble_eq_true rfl, Nat.le_of_ble_eq_true rfl⟩) rfl rfl (Nat.le_of_ble_eq_true rfl) dL_presence_5 ⟨Nat.le_of_ble_eq_true rfl, Nat.le_of_ble_eq_true rfl⟩ (x_kT (fun hk => ?_)) (fun En hRx hE => ?_)
  · refine x_i2l C dL_presence_8 ?_
    refine x_last C dL_presence_9 ?_
    have C1 := XC_oc C hV hO (fun q h => h) (vp_updL gg 0 (((wT σ a0 a1 &&& allI σ) : Int32).toInt64))
    refine x_goto C1 17 dL_presence_10 rfl ?_
    refine x_iconst C1 (0 : Int32) (by decide) dL_presence_17 ?_
    exact x_iretW C1 hr hlk (Nat.le_of_ble_eq_true rfl) (Nat.le_of_ble_eq_true rfl) dL_presence_18 ⟨by rw [hk, nI_0], by rw [if_pos hk], fun _ => rfl, fun h => absurd hk h⟩
  · rcases hRx with ⟨rfl, hk⟩
    · refine x_catch C [] ⟨0, 10, 13, 29⟩ [] 13 rfl (by rw [htb]; rfl) hT hE (fun z hz => absurd hz List.not_mem_nil) (by decide) (by decide) (C.2.2.2.2.1 _ (by decide +kernel)) (fun q => ?_)
      refine x_astR C [(4, .ref q), (0, ra V 0), (1, .int a0), (2, .int a1), (3, .ref lo)] dL_presence_13 (by decide) rfl ?_
      refine x_iconst C (1 : Int32) (by decide) dL_presence_15 ?_
      exact x_iretW C hr hlk (Nat.le_of_ble_eq_true rfl) (Nat.le_of_ble_eq_true rfl) dL_presence_16 ⟨by rw [hk]; rfl, by rw [if_neg (by rw [hk]; decide)], fun h => absurd h (by rw [hk]; decide), fun _ => by rw [hk]; decide⟩
set_option maxHeartbeats 4000000 in
set_option maxRecDepth 100000 in
theorem c_L_parent (l : Launch) (hlst : l.stackTraces = false) (V : xV) (hV : xInj V) (lo : Nat) (hO : ∀ k, k < 108 → xad V k ≠ lo) (σ : xS) (gg : Nat → Int64) (a0 : Int32) (a1 : Int32) (hz202 : okZ σ 202) (hz203 : okZ σ 203) : xW l yL_parent wsL_parent ({ frames := 7, cells := 1, slots := 6, locals := 154 }) V lo gg [ra V 0, .int a0, .int a1, .ref lo] σ (fun v σ' g' => v = nI (kPar σ a0 a1) ∧ σ' = (if kPar σ a0 a1 = 0 then look σ a1 else (σ)) ∧ (kPar σ a0 a1 = 0 → g' 0 = ((vAt 8 (look σ a1 73) a0) : Int32).toInt64) ∧ (kPar σ a0 a1 ≠ 0 → ¬ nI (kPar σ a0 a1) = 0)) := by
  refine xW_of (cc := cL_parent) (maxL := 5) (ret := (some .int)) (hh := [(0, 10, 13, 29), (0, 10, 17, 13)]) [(0, ra V 0), (1, .int a0), (2, .int a1), (3, .ref lo)] hV hO (by decide) rfl rfl (Nat.le_of_ble_eq_true rfl) (fun p e s m args below meth c C hr hlk htb hT hZ => ?_)
  refine x_arefn C dL_parent_0 rfl 3 rfl ?_
  refine x_iconst C (0 : Int32) (by decide) dL_parent_1 ?_
  refine x_aload_n C dL_parent_2 rfl 0 rfl ?_
  refine x_iload_n C dL_parent_3 rfl 1 rfl ?_
  refine x_iload_n C dL_parent_4 rfl 2 rfl ?_
  refine x_callVT C hT hZ sh_0 (by decide) rfl [.int a0, .int a1] (c_X8_parent l hlst V hV σ a0 a1 hz202 hz203) (cwV 2 C.2.2.2.2.1 gL_parent_X8_parent rfl rfl rfl (by decide +kernel) ⟨Nat.le_of_ble_eq_true rfl, Nat.le_of_ble_eq_true rfl⟩) rfl rfl (Nat.le_of_ble_eq_true rfl) dL_parent_5 ⟨Nat.le_of_ble_eq_true rfl, Nat.le_of_ble_eq_true rfl⟩ (x_kT (fun hk => ?_)) (fun En hRx hE => ?_)
  · refine x_i2l C dL_parent_8 ?_
    refine x_last C dL_parent_9 ?_
    have C1 := XC_oc C hV hO (fun q h => h) (vp_updL gg 0 (((vAt 8 (look σ a1 73) a0) : Int32).toInt64))
    refine x_goto C1 21 dL_parent_10 rfl ?_
    refine x_iconst C1 (0 : Int32) (by decide) dL_parent_21 ?_
    exact x_iretW C1 hr hlk (Nat.le_of_ble_eq_true rfl) (Nat.le_of_ble_eq_true rfl) dL_parent_22 ⟨by rw [hk, nI_0], by rw [if_pos hk], fun _ => rfl, fun h => absurd hk h⟩
  · rcases hRx with ⟨rfl, hk⟩ | ⟨rfl, hk⟩
    · refine x_catch C [] ⟨0, 10, 13, 29⟩ [⟨0, 10, 17, 13⟩] 13 rfl (by rw [htb]; rfl) hT hE (fun z hz => absurd hz List.not_mem_nil) (by decide) (by decide) (C.2.2.2.2.1 _ (by decide +kernel)) (fun q => ?_)
      refine x_astR C [(4, .ref q), (0, ra V 0), (1, .int a0), (2, .int a1), (3, .ref lo)] dL_parent_13 (by decide) rfl ?_
      refine x_iconst C (1 : Int32) (by decide) dL_parent_15 ?_
      exact x_iretW C hr hlk (Nat.le_of_ble_eq_true rfl) (Nat.le_of_ble_eq_true rfl) dL_parent_16 ⟨by rw [hk]; rfl, by rw [if_neg (by rw [hk]; decide)], fun h => absurd h (by rw [hk]; decide), fun _ => by rw [hk]; decide⟩
    · refine x_catch C [⟨0, 10, 13, 29⟩] ⟨0, 10, 17, 13⟩ [] 17 rfl (by rw [htb]; rfl) hT hE (by intro z hz; simp only [List.mem_cons, List.not_mem_nil, or_false] at hz; rcases hz with rfl <;> first | exact ⟨by decide, "java/lang/IndexOutOfBoundsException", C.2.2.2.2.1 _ (by decide +kernel), by decide, by decide⟩) (by decide) (by decide) (C.2.2.2.2.1 _ (by decide +kernel)) (fun q => ?_)
      refine x_astR C [(4, .ref q), (0, ra V 0), (1, .int a0), (2, .int a1), (3, .ref lo)] dL_parent_17 (by decide) rfl ?_
      refine x_iconst C (2 : Int32) (by decide) dL_parent_19 ?_
      exact x_iretW C hr hlk (Nat.le_of_ble_eq_true rfl) (Nat.le_of_ble_eq_true rfl) dL_parent_20 ⟨by rw [hk]; rfl, by rw [if_neg (by rw [hk]; decide)], fun h => absurd h (by rw [hk]; decide), fun _ => by rw [hk]; decide⟩
set_option maxHeartbeats 4000000 in
set_option maxRecDepth 100000 in
theorem c_L_isBelow (l : Launch) (hlst : l.stackTraces = false) (V : xV) (hV : xInj V) (lo : Nat) (hO : ∀ k, k < 108 → xad V k ≠ lo) (σ : xS) (gg : Nat → Int64) (a0 : Int32) (a1 : Int32) (a2 : Int32) (hz202 : okZ σ 202) (hz203 : okZ σ 203) : xW l yL_isBelow wsL_isBelow ({ frames := 7, cells := 1, slots := 6, locals := 155 }) V lo gg [ra V 0, .int a0, .int a1, .int a2, .ref lo] σ (fun v σ' g' => v = nI (kBel σ a0 a1 a2) ∧ σ' = (if kBel σ a0 a1 a2 = 0 then look σ a2 else (σ)) ∧ (kBel σ a0 a1 a2 = 0 → g' 0 = (if (isUnB (look σ a2) a0 a1) = true then (1 : Int64) else 0)) ∧ (kBel σ a0 a1 a2 ≠ 0 → ¬ nI (kBel σ a0 a1 a2) = 0)) := by
  refine xW_of (cc := cL_isBelow) (maxL := 6) (ret := (some .int)) (hh := [(0, 19, 22, 29), (0, 19, 26, 13)]) [(0, ra V 0), (1, .int a0), (2, .int a1), (3, .int a2), (4, .ref lo)] hV hO (by decide) rfl rfl (Nat.le_of_ble_eq_true rfl) (fun p e s m args below meth c C hr hlk htb hT hZ => ?_)
  refine x_aref C dL_isBelow_0 4 rfl ?_
  refine x_iconst C (0 : Int32) (by decide) dL_isBelow_2 ?_
  refine x_aload_n C dL_isBelow_3 rfl 0 rfl ?_
  refine x_iload_n C dL_isBelow_4 rfl 1 rfl ?_
  refine x_iload_n C dL_isBelow_5 rfl 2 rfl ?_
  refine x_iload_n C dL_isBelow_6 rfl 3 rfl ?_
  refine x_callVT C hT hZ sh_0 (by decide) rfl [.int a0, .int a1, .int a2] (c_X8_isBelow l hlst V hV σ a0 a1 a2 hz202 hz203) (cwV 3 C.2.2.2.2.1 gL_isBelow_X8_isBelow rfl rfl rfl (by decide +kernel) ⟨Nat.le_of_ble_eq_true rfl, Nat.le_of_ble_eq_true rfl⟩) rfl rfl (Nat.le_of_ble_eq_true rfl) dL_isBelow_7 ⟨Nat.le_of_ble_eq_true rfl, Nat.le_of_ble_eq_true rfl⟩ (x_kT (fun hk => ?_)) (fun En hRx hE => ?_)
  · refine x_bif_eq C 17 dL_isBelow_10 rfl (fun hb => ?_) (fun hb => ?_)
    · refine x_lconst C (0 : Int64) rfl dL_isBelow_17 ?_
      refine x_last C dL_isBelow_18 ?_
      have C1 := XC_oc C hV hO (fun q h => h) (vp_updL gg 0 (0))
      refine x_goto C1 30 dL_isBelow_19 rfl ?_
      refine x_iconst C1 (0 : Int32) (by decide) dL_isBelow_30 ?_
      exact x_iretW C1 hr hlk (Nat.le_of_ble_eq_true rfl) (Nat.le_of_ble_eq_true rfl) dL_isBelow_31 ⟨by rw [hk, nI_0], by rw [if_pos hk], fun _ => by rw [if_neg (by rw [hb]; decide)]; rfl, fun h => absurd hk h⟩
    · refine x_lconst C (1 : Int64) rfl dL_isBelow_13 ?_
      refine x_goto C 18 dL_isBelow_14 rfl ?_
      refine x_last C dL_isBelow_18 ?_
      have C1 := XC_oc C hV hO (fun q h => h) (vp_updL gg 0 (1))
      refine x_goto C1 30 dL_isBelow_19 rfl ?_
      refine x_iconst C1 (0 : Int32) (by decide) dL_isBelow_30 ?_
      exact x_iretW C1 hr hlk (Nat.le_of_ble_eq_true rfl) (Nat.le_of_ble_eq_true rfl) dL_isBelow_31 ⟨by rw [hk, nI_0], by rw [if_pos hk], fun _ => by rw [if_pos hb]; rfl, fun h => absurd hk h⟩
  · rcases hRx with ⟨rfl, hk⟩ | ⟨rfl, hk⟩
    · refine x_catch C [] ⟨0, 19, 22, 29⟩ [⟨0, 19, 26, 13⟩] 22 rfl (by rw [htb]; rfl) hT hE (fun z hz => absurd hz List.not_mem_nil) (by decide) (by decide) (C.2.2.2.2.1 _ (by decide +kernel)) (fun q => ?_)
      refine x_astR C [(5, .ref q), (0, ra V 0), (1, .int a0), (2, .int a1), (3, .int a2), (4, .ref lo)] dL_isBelow_22 (by decide) rfl ?_
      refine x_iconst C (1 : Int32) (by decide) dL_isBelow_24 ?_
      exact x_iretW C hr hlk (Nat.le_of_ble_eq_true rfl) (Nat.le_of_ble_eq_true rfl) dL_isBelow_25 ⟨by rw [hk]; rfl, by rw [if_neg (by rw [hk]; decide)], fun h => absurd h (by rw [hk]; decide), fun _ => by rw [hk]; decide⟩
    · refine x_catch C [⟨0, 19, 22, 29⟩] ⟨0, 19, 26, 13⟩ [] 26 rfl (by rw [htb]; rfl) hT hE (by intro z hz; simp only [List.mem_cons, List.not_mem_nil, or_false] at hz; rcases hz with rfl <;> first | exact ⟨by decide, "java/lang/IndexOutOfBoundsException", C.2.2.2.2.1 _ (by decide +kernel), by decide, by decide⟩) (by decide) (by decide) (C.2.2.2.2.1 _ (by decide +kernel)) (fun q => ?_)
      refine x_astR C [(5, .ref q), (0, ra V 0), (1, .int a0), (2, .int a1), (3, .int a2), (4, .ref lo)] dL_isBelow_26 (by decide) rfl ?_
      refine x_iconst C (2 : Int32) (by decide) dL_isBelow_28 ?_
      exact x_iretW C hr hlk (Nat.le_of_ble_eq_true rfl) (Nat.le_of_ble_eq_true rfl) dL_isBelow_29 ⟨by rw [hk]; rfl, by rw [if_neg (by rw [hk]; decide)], fun h => absurd h (by rw [hk]; decide), fun _ => by rw [hk]; decide⟩
set_option maxHeartbeats 4000000 in
set_option maxRecDepth 100000 in
theorem c_L_find (l : Launch) (hlst : l.stackTraces = false) (V : xV) (hV : xInj V) (lo : Nat) (hO : ∀ k, k < 108 → xad V k ≠ lo) (σ : xS) (gg : Nat → Int64) (a0 : Int32) (a1 : Int32) (a2 : Bool) (a3 : Int32) (hz202 : okZ σ 202) (hz203 : okZ σ 203) : xW l yL_find wsL_find ({ frames := 7, cells := 1, slots := 6, locals := 156 }) V lo gg [ra V 0, .int a0, .int a1, .int (bI a2), .int a3, .ref lo] σ (fun v σ' g' => v = nI (kFind σ a0 a1 a3) ∧ σ' = (if kFind σ a0 a1 a3 = 0 then look σ a3 else (σ)) ∧ (kFind σ a0 a1 a3 = 0 → g' 0 = ((lookU (look σ a3) a0 a1 (if a2 = true then 1 else 0)) : Int32).toInt64) ∧ (kFind σ a0 a1 a3 ≠ 0 → ¬ nI (kFind σ a0 a1 a3) = 0)) := by
  refine xW_of (cc := cL_find) (maxL := 7) (ret := (some .int)) (hh := [(0, 14, 17, 29), (0, 14, 21, 13)]) [(0, ra V 0), (1, .int a0), (2, .int a1), (3, .int (bI a2)), (4, .int a3), (5, .ref lo)] hV hO (by decide) rfl rfl (Nat.le_of_ble_eq_true rfl) (fun p e s m args below meth c C hr hlk htb hT hZ => ?_)
  refine x_aref C dL_find_0 5 rfl ?_
  refine x_iconst C (0 : Int32) (by decide) dL_find_2 ?_
  refine x_aload_n C dL_find_3 rfl 0 rfl ?_
  refine x_iload_n C dL_find_4 rfl 1 rfl ?_
  refine x_iload_n C dL_find_5 rfl 2 rfl ?_
  refine x_iload_n C dL_find_6 rfl 3 rfl ?_
  refine x_iload C dL_find_7 4 rfl ?_
  refine x_callVT C hT hZ sh_0 (by decide) rfl [.int a0, .int a1, .int (bI a2), .int a3] (c_X8_find l hlst V hV σ a0 a1 a2 a3 hz202 hz203) (cwV 4 C.2.2.2.2.1 gL_find_X8_find rfl rfl rfl (by decide +kernel) ⟨Nat.le_of_ble_eq_true rfl, Nat.le_of_ble_eq_true rfl⟩) rfl rfl (Nat.le_of_ble_eq_true rfl) dL_find_9 ⟨Nat.le_of_ble_eq_true rfl, Nat.le_of_ble_eq_true rfl⟩ (x_kT (fun hk => ?_)) (fun En hRx hE => ?_)
  · refine x_i2l C dL_find_12 ?_
    refine x_last C dL_find_13 ?_
    have C1 := XC_oc C hV hO (fun q h => h) (vp_updL gg 0 (((lookU (look σ a3) a0 a1 (if a2 = true then 1 else 0)) : Int32).toInt64))
    refine x_goto C1 25 dL_find_14 rfl ?_
    refine x_iconst C1 (0 : Int32) (by decide) dL_find_25 ?_
    exact x_iretW C1 hr hlk (Nat.le_of_ble_eq_true rfl) (Nat.le_of_ble_eq_true rfl) dL_find_26 ⟨by rw [hk, nI_0], by rw [if_pos hk], fun _ => rfl, fun h => absurd hk h⟩
  · rcases hRx with ⟨rfl, hk⟩ | ⟨rfl, hk⟩
    · refine x_catch C [] ⟨0, 14, 17, 29⟩ [⟨0, 14, 21, 13⟩] 17 rfl (by rw [htb]; rfl) hT hE (fun z hz => absurd hz List.not_mem_nil) (by decide) (by decide) (C.2.2.2.2.1 _ (by decide +kernel)) (fun q => ?_)
      refine x_astR C [(6, .ref q), (0, ra V 0), (1, .int a0), (2, .int a1), (3, .int (bI a2)), (4, .int a3), (5, .ref lo)] dL_find_17 (by decide) rfl ?_
      refine x_iconst C (1 : Int32) (by decide) dL_find_19 ?_
      exact x_iretW C hr hlk (Nat.le_of_ble_eq_true rfl) (Nat.le_of_ble_eq_true rfl) dL_find_20 ⟨by rw [hk]; rfl, by rw [if_neg (by rw [hk]; decide)], fun h => absurd h (by rw [hk]; decide), fun _ => by rw [hk]; decide⟩
    · refine x_catch C [⟨0, 14, 17, 29⟩] ⟨0, 14, 21, 13⟩ [] 21 rfl (by rw [htb]; rfl) hT hE (by intro z hz; simp only [List.mem_cons, List.not_mem_nil, or_false] at hz; rcases hz with rfl <;> first | exact ⟨by decide, "java/lang/IndexOutOfBoundsException", C.2.2.2.2.1 _ (by decide +kernel), by decide, by decide⟩) (by decide) (by decide) (C.2.2.2.2.1 _ (by decide +kernel)) (fun q => ?_)
      refine x_astR C [(6, .ref q), (0, ra V 0), (1, .int a0), (2, .int a1), (3, .int (bI a2)), (4, .int a3), (5, .ref lo)] dL_find_21 (by decide) rfl ?_
      refine x_iconst C (2 : Int32) (by decide) dL_find_23 ?_
      exact x_iretW C hr hlk (Nat.le_of_ble_eq_true rfl) (Nat.le_of_ble_eq_true rfl) dL_find_24 ⟨by rw [hk]; rfl, by rw [if_neg (by rw [hk]; decide)], fun h => absurd h (by rw [hk]; decide), fun _ => by rw [hk]; decide⟩
set_option maxHeartbeats 4000000 in
set_option maxRecDepth 100000 in
theorem c_L_typeOf (l : Launch) (hlst : l.stackTraces = false) (V : xV) (hV : xInj V) (lo : Nat) (hO : ∀ k, k < 108 → xad V k ≠ lo) (σ : xS) (gg : Nat → Int64) (a0 : Int32) (a1 : Int32) (hz202 : okZ σ 202) (hz203 : okZ σ 203) : xW l yL_typeOf wsL_typeOf ({ frames := 7, cells := 1, slots := 6, locals := 155 }) V lo gg [ra V 0, .int a0, .int a1, .ref lo] σ (fun v σ' g' => v = nI (kTyp σ a0 a1) ∧ σ' = (if kTyp σ a0 a1 = 0 then gts (look σ a1) else (σ)) ∧ (kTyp σ a0 a1 = 0 → g' 0 = ((tyIn (gts (look σ a1)) a0 a1) : Int32).toInt64) ∧ (kTyp σ a0 a1 ≠ 0 → ¬ nI (kTyp σ a0 a1) = 0)) := by
  refine xW_of (cc := cL_typeOf) (maxL := 5) (ret := (some .int)) (hh := [(0, 10, 13, 29), (0, 10, 17, 13)]) [(0, ra V 0), (1, .int a0), (2, .int a1), (3, .ref lo)] hV hO (by decide) rfl rfl (Nat.le_of_ble_eq_true rfl) (fun p e s m args below meth c C hr hlk htb hT hZ => ?_)
  refine x_arefn C dL_typeOf_0 rfl 3 rfl ?_
  refine x_iconst C (0 : Int32) (by decide) dL_typeOf_1 ?_
  refine x_aload_n C dL_typeOf_2 rfl 0 rfl ?_
  refine x_iload_n C dL_typeOf_3 rfl 1 rfl ?_
  refine x_iload_n C dL_typeOf_4 rfl 2 rfl ?_
  refine x_callVT C hT hZ sh_0 (by decide) rfl [.int a0, .int a1] (c_X8_typeOf l hlst V hV σ a0 a1 hz202 hz203) (cwV 2 C.2.2.2.2.1 gL_typeOf_X8_typeOf rfl rfl rfl (by decide +kernel) ⟨Nat.le_of_ble_eq_true rfl, Nat.le_of_ble_eq_true rfl⟩) rfl rfl (Nat.le_of_ble_eq_true rfl) dL_typeOf_5 ⟨Nat.le_of_ble_eq_true rfl, Nat.le_of_ble_eq_true rfl⟩ (x_kT (fun hk => ?_)) (fun En hRx hE => ?_)
  · refine x_i2l C dL_typeOf_8 ?_
    refine x_last C dL_typeOf_9 ?_
    have C1 := XC_oc C hV hO (fun q h => h) (vp_updL gg 0 (((tyIn (gts (look σ a1)) a0 a1) : Int32).toInt64))
    refine x_goto C1 21 dL_typeOf_10 rfl ?_
    refine x_iconst C1 (0 : Int32) (by decide) dL_typeOf_21 ?_
    exact x_iretW C1 hr hlk (Nat.le_of_ble_eq_true rfl) (Nat.le_of_ble_eq_true rfl) dL_typeOf_22 ⟨by rw [hk, nI_0], by rw [if_pos hk], fun _ => rfl, fun h => absurd hk h⟩
  · rcases hRx with ⟨rfl, hk⟩ | ⟨rfl, hk⟩
    · refine x_catch C [] ⟨0, 10, 13, 29⟩ [⟨0, 10, 17, 13⟩] 13 rfl (by rw [htb]; rfl) hT hE (fun z hz => absurd hz List.not_mem_nil) (by decide) (by decide) (C.2.2.2.2.1 _ (by decide +kernel)) (fun q => ?_)
      refine x_astR C [(4, .ref q), (0, ra V 0), (1, .int a0), (2, .int a1), (3, .ref lo)] dL_typeOf_13 (by decide) rfl ?_
      refine x_iconst C (1 : Int32) (by decide) dL_typeOf_15 ?_
      exact x_iretW C hr hlk (Nat.le_of_ble_eq_true rfl) (Nat.le_of_ble_eq_true rfl) dL_typeOf_16 ⟨by rw [hk]; rfl, by rw [if_neg (by rw [hk]; decide)], fun h => absurd h (by rw [hk]; decide), fun _ => by rw [hk]; decide⟩
    · refine x_catch C [⟨0, 10, 13, 29⟩] ⟨0, 10, 17, 13⟩ [] 17 rfl (by rw [htb]; rfl) hT hE (by intro z hz; simp only [List.mem_cons, List.not_mem_nil, or_false] at hz; rcases hz with rfl <;> first | exact ⟨by decide, "java/lang/IndexOutOfBoundsException", C.2.2.2.2.1 _ (by decide +kernel), by decide, by decide⟩) (by decide) (by decide) (C.2.2.2.2.1 _ (by decide +kernel)) (fun q => ?_)
      refine x_astR C [(4, .ref q), (0, ra V 0), (1, .int a0), (2, .int a1), (3, .ref lo)] dL_typeOf_17 (by decide) rfl ?_
      refine x_iconst C (2 : Int32) (by decide) dL_typeOf_19 ?_
      exact x_iretW C hr hlk (Nat.le_of_ble_eq_true rfl) (Nat.le_of_ble_eq_true rfl) dL_typeOf_20 ⟨by rw [hk]; rfl, by rw [if_neg (by rw [hk]; decide)], fun h => absurd h (by rw [hk]; decide), fun _ => by rw [hk]; decide⟩
set_option maxHeartbeats 4000000 in
set_option maxRecDepth 100000 in
theorem c_L_error (l : Launch) (hlst : l.stackTraces = false) (V : xV) (hV : xInj V) (lo : Nat) (hO : ∀ k, k < 108 → xad V k ≠ lo) (σ : xS) (gg : Nat → Int64) (a0 : Int32) (a1 : Int32) (hz202 : okZ σ 202) (hz203 : okZ σ 203) : xW l yL_error wsL_error ({ frames := 8, cells := 1, slots := 6, locals := 177 }) V lo gg [ra V 0, .int a0, .int a1, .ref lo] σ (fun v σ' g' => v = nI (kErr σ a0 a1) ∧ σ' = (if kErr σ a0 a1 = 0 then insA σ else ((insA σ))) ∧ (kErr σ a0 a1 = 0 → g' 0 = ((vErr σ a0 a1) : Int32).toInt64) ∧ (kErr σ a0 a1 ≠ 0 → ¬ nI (kErr σ a0 a1) = 0)) := by
  refine xW_of (cc := cL_error) (maxL := 5) (ret := (some .int)) (hh := [(0, 10, 13, 29)]) [(0, ra V 0), (1, .int a0), (2, .int a1), (3, .ref lo)] hV hO (by decide) rfl rfl (Nat.le_of_ble_eq_true rfl) (fun p e s m args below meth c C hr hlk htb hT hZ => ?_)
  refine x_arefn C dL_error_0 rfl 3 rfl ?_
  refine x_iconst C (0 : Int32) (by decide) dL_error_1 ?_
  refine x_aload_n C dL_error_2 rfl 0 rfl ?_
  refine x_iload_n C dL_error_3 rfl 1 rfl ?_
  refine x_iload_n C dL_error_4 rfl 2 rfl ?_
  refine x_callVT C hT hZ sh_0 (by decide) rfl [.int a0, .int a1] (c_X8_error l hlst V hV σ a0 a1 hz202 hz203) (cwV 2 C.2.2.2.2.1 gL_error_X8_error rfl rfl rfl (by decide +kernel) ⟨Nat.le_of_ble_eq_true rfl, Nat.le_of_ble_eq_true rfl⟩) rfl rfl (Nat.le_of_ble_eq_true rfl) dL_error_5 ⟨Nat.le_of_ble_eq_true rfl, Nat.le_of_ble_eq_true rfl⟩ (x_kT (fun hk => ?_)) (fun En hRx hE => ?_)
  · refine x_i2l C dL_error_8 ?_
    refine x_last C dL_error_9 ?_
    have C1 := XC_oc C hV hO (fun q h => h) (vp_updL gg 0 (((vErr σ a0 a1) : Int32).toInt64))
    refine x_goto C1 17 dL_error_10 rfl ?_
    refine x_iconst C1 (0 : Int32) (by decide) dL_error_17 ?_
    exact x_iretW C1 hr hlk (Nat.le_of_ble_eq_true rfl) (Nat.le_of_ble_eq_true rfl) dL_error_18 ⟨by rw [hk, nI_0], by rw [if_pos hk], fun _ => rfl, fun h => absurd hk h⟩
  · rcases hRx with ⟨rfl, hk⟩
    · refine x_catch C [] ⟨0, 10, 13, 29⟩ [] 13 rfl (by rw [htb]; rfl) hT hE (fun z hz => absurd hz List.not_mem_nil) (by decide) (by decide) (C.2.2.2.2.1 _ (by decide +kernel)) (fun q => ?_)
      refine x_astR C [(4, .ref q), (0, ra V 0), (1, .int a0), (2, .int a1), (3, .ref lo)] dL_error_13 (by decide) rfl ?_
      refine x_iconst C (1 : Int32) (by decide) dL_error_15 ?_
      exact x_iretW C hr hlk (Nat.le_of_ble_eq_true rfl) (Nat.le_of_ble_eq_true rfl) dL_error_16 ⟨by rw [hk]; rfl, by rw [if_neg (by rw [hk]; decide)], fun h => absurd h (by rw [hk]; decide), fun _ => by rw [hk]; decide⟩
set_option maxHeartbeats 4000000 in
set_option maxRecDepth 100000 in
theorem c_L_errorsIn (l : Launch) (hlst : l.stackTraces = false) (V : xV) (hV : xInj V) (lo : Nat) (hO : ∀ k, k < 108 → xad V k ≠ lo) (σ : xS) (gg : Nat → Int64) (a0 : Int32) (hz202 : okZ σ 202) (hz203 : okZ σ 203) : xW l yL_errorsIn wsL_errorsIn ({ frames := 8, cells := 1, slots := 6, locals := 176 }) V lo gg [ra V 0, .int a0, .ref lo] σ (fun v σ' g' => v = nI (kEIn σ a0) ∧ σ' = (if kEIn σ a0 = 0 then insA σ else (σ)) ∧ (kEIn σ a0 = 0 → g' 0 = ((szI (insA σ) a0) : Int32).toInt64) ∧ (kEIn σ a0 ≠ 0 → ¬ nI (kEIn σ a0) = 0)) := by
  refine xW_of (cc := cL_errorsIn) (maxL := 4) (ret := (some .int)) (hh := [(0, 9, 12, 13)]) [(0, ra V 0), (1, .int a0), (2, .ref lo)] hV hO (by decide) rfl rfl (Nat.le_of_ble_eq_true rfl) (fun p e s m args below meth c C hr hlk htb hT hZ => ?_)
  refine x_arefn C dL_errorsIn_0 rfl 2 rfl ?_
  refine x_iconst C (0 : Int32) (by decide) dL_errorsIn_1 ?_
  refine x_aload_n C dL_errorsIn_2 rfl 0 rfl ?_
  refine x_iload_n C dL_errorsIn_3 rfl 1 rfl ?_
  refine x_callVT C hT hZ sh_0 (by decide) rfl [.int a0] (c_X8_errorsIn l hlst V hV σ a0 hz202 hz203) (cwV 1 C.2.2.2.2.1 gL_errorsIn_X8_errorsIn rfl rfl rfl (by decide +kernel) ⟨Nat.le_of_ble_eq_true rfl, Nat.le_of_ble_eq_true rfl⟩) rfl rfl (Nat.le_of_ble_eq_true rfl) dL_errorsIn_4 ⟨Nat.le_of_ble_eq_true rfl, Nat.le_of_ble_eq_true rfl⟩ (x_kT (fun hk => ?_)) (fun En hRx hE => ?_)
  · refine x_i2l C dL_errorsIn_7 ?_
    refine x_last C dL_errorsIn_8 ?_
    have C1 := XC_oc C hV hO (fun q h => h) (vp_updL gg 0 (((szI (insA σ) a0) : Int32).toInt64))
    refine x_goto C1 15 dL_errorsIn_9 rfl ?_
    refine x_iconst C1 (0 : Int32) (by decide) dL_errorsIn_15 ?_
    exact x_iretW C1 hr hlk (Nat.le_of_ble_eq_true rfl) (Nat.le_of_ble_eq_true rfl) dL_errorsIn_16 ⟨by rw [hk, nI_0], by rw [if_pos hk], fun _ => rfl, fun h => absurd hk h⟩
  · rcases hRx with ⟨rfl, hk⟩
    · refine x_catch C [] ⟨0, 9, 12, 13⟩ [] 12 rfl (by rw [htb]; rfl) hT hE (fun z hz => absurd hz List.not_mem_nil) (by decide) (by decide) (C.2.2.2.2.1 _ (by decide +kernel)) (fun q => ?_)
      refine x_astRn C [(3, .ref q), (0, ra V 0), (1, .int a0), (2, .ref lo)] dL_errorsIn_12 rfl (by decide) rfl ?_
      refine x_iconst C (1 : Int32) (by decide) dL_errorsIn_13 ?_
      exact x_iretW C hr hlk (Nat.le_of_ble_eq_true rfl) (Nat.le_of_ble_eq_true rfl) dL_errorsIn_14 ⟨by rw [hk]; rfl, by rw [if_neg (by rw [hk]; decide)], fun h => absurd h (by rw [hk]; decide), fun _ => by rw [hk]; decide⟩

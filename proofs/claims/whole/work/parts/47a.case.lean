/-! The 28 cases of the law. -/
set_option maxHeartbeats 4000000 in
set_option maxRecDepth 100000 in
theorem L_addRule {p : Program} {l : Launch} {e : Env} {s : State} {m : MethodId} {args : Array Value} {below : List Frame} {meth : Method} {c : Code} {V : xV} {A : Nat → Prop} {cells slots : Nat} {Q : State → Prop} {lo b L i : Nat} {xs : Nat → Int32} {gg : Nat → Int64} {σ : xS} (hlst : l.stackTraces = false) (C : XC p s m args c cL_law 9 RL wsL_law V [oc V lo gg] A) (hV : xInj V) (hO : ∀ k, k < 108 → xad V k ≠ lo) (hA : ∀ q, inO V lo q → A q) (hT : xT s) (hZ : xZ A s s.heap) (hX : va_X b L xs s s.heap) (hbl : b < s.heap.size) (hbA : ¬ A b) (hL : L < 2 ^ 31) (hi : 8 * i + 8 ≤ L) (hcs : cells + 1 ≤ room_1.cells ∧ slots + 6 ≤ room_1.slots) (h : Sm σ) (J : ∀ σ' g', Sm σ' → X p l e room_1 s m args below meth c V [oc V lo g'] A 9 (cells + 1) (slots + 6) Q σ' 1977 [(0, .ref b), (1, ra V 0), (2, ra V 87), (3, .ref lo), (4, .int (nI (8 * i)))] []) : X p l e room_1 s m args below meth c V [oc V lo gg] A 9 cells slots Q σ 168 [(0, .ref b), (1, ra V 0), (2, ra V 87), (3, .ref lo), (4, .int (nI (8 * i)))] [] := by
  refine x_aload_n C dL_law_168 rfl 1 rfl ?_
  refine x_arefn C dL_law_169 rfl 0 rfl ?_
  refine x_iload C dL_law_170 4 rfl ?_
  refine x_iconst C (1 : Int32) (by decide) dL_law_172 ?_
  refine x_iadd C dL_law_173 ?_
  refine x_sld C hX hbl hbA (8 * i + 1) (nI_add (8 * i) 1) (by omega) hL dL_law_174 ?_
  refine x_arefn C dL_law_175 rfl 0 rfl ?_
  refine x_iload C dL_law_176 4 rfl ?_
  refine x_iconst C (2 : Int32) (by decide) dL_law_178 ?_
  refine x_iadd C dL_law_179 ?_
  refine x_sld C hX hbl hbA (8 * i + 2) (nI_add (8 * i) 2) (by omega) hL dL_law_180 ?_
  refine x_arefn C dL_law_181 rfl 0 rfl ?_
  refine x_iload C dL_law_182 4 rfl ?_
  refine x_iconst C (3 : Int32) (by decide) dL_law_184 ?_
  refine x_iadd C dL_law_185 ?_
  refine x_sld C hX hbl hbA (8 * i + 3) (nI_add (8 * i) 3) (by omega) hL dL_law_186 ?_
  refine x_arefn C dL_law_187 rfl 3 rfl ?_
  refine x_callW C hT hZ hA [ra V 0, .int (xs (8 * i + 1)), .int (xs (8 * i + 2)), .int (xs (8 * i + 3)), .ref lo] (c_L_addRule l hlst V hV lo hO σ gg (xs (8 * i + 1)) (xs (8 * i + 2)) (xs (8 * i + 3))) (vx_cwSW 5 C.2.2.2.2.1 gL_law_L_addRule rfl rfl rfl (by decide +kernel) ⟨Nat.le_of_ble_eq_true rfl, Nat.le_of_ble_eq_true rfl⟩) rfl rfl (Nat.le_of_ble_eq_true rfl) dL_law_188 hcs (fun v σ' g' hR => ?_)
  obtain ⟨rfl, hσ, hg, hne⟩ := hR
  have C1 := XC_oc C hV hO hA g'
  by_cases hk : kRule σ (xs (8 * i + 1)) (xs (8 * i + 2)) (xs (8 * i + 3)) = 0
  · rw [if_pos hk] at hσ
    rw [hσ]
    have sp := (st_addRule h (xs (8 * i + 1)) (xs (8 * i + 2)) (xs (8 * i + 3))).1 hk
    refine x_v (y := (0 : Int32)) (by rw [hk, nI_0]) ?_
    refine x_istore C1 [(5, .int (0 : Int32)), (0, .ref b), (1, ra V 0), (2, ra V 87), (3, .ref lo), (4, .int (nI (8 * i)))] dL_law_191 (by decide) rfl ?_
    refine x_aload_n C1 dL_law_193 rfl 3 rfl ?_
    refine x_arefn C1 dL_law_194 rfl 1 rfl ?_
    refine x_iload C1 dL_law_195 5 rfl ?_
    refine x_iconst C1 (1 : Int32) (by decide) dL_law_197 ?_
    refine x_iadd C1 dL_law_198 ?_
    refine x_sld C1 hX hbl hbA (8 * i + 1) (nI_add (8 * i) 1) (by omega) hL dL_law_199 ?_
    refine x_arefn C1 dL_law_200 rfl 1 rfl ?_
    refine x_iload C1 dL_law_201 5 rfl ?_
    refine x_iconst C1 (2 : Int32) (by decide) dL_law_203 ?_
    refine x_iadd C1 dL_law_204 ?_
    refine x_sld C1 hX hbl hbA (8 * i + 2) (nI_add (8 * i) 2) (by omega) hL dL_law_205 ?_
    refine x_arefn C1 dL_law_206 rfl 1 rfl ?_
    refine x_iload C1 dL_law_207 5 rfl ?_
    refine x_iconst C1 (3 : Int32) (by decide) dL_law_209 ?_
    refine x_iadd C1 dL_law_210 ?_
    refine x_sld C1 hX hbl hbA (8 * i + 3) (nI_add (8 * i) 3) (by omega) hL dL_law_211 ?_
    refine x_callV C1 sh_87 (by decide) rfl [.int (xs (8 * i + 1)), .int (xs (8 * i + 2)), .int (xs (8 * i + 3))] (c_X9_addRule l V hV (rApp σ (xs (8 * i + 1)) (xs (8 * i + 2)) (xs (8 * i + 3))) (xs (8 * i + 1)) (xs (8 * i + 2)) (xs (8 * i + 3)) (mV_E (em_addRule) h.1.V)) (cwV 3 C1.2.2.2.2.1 gL_law_X9_addRule rfl rfl rfl (by decide +kernel) ⟨Nat.le_of_ble_eq_true rfl, Nat.le_of_ble_eq_true rfl⟩) rfl rfl (Nat.le_of_ble_eq_true rfl) dL_law_212 ⟨hcs.1, hcs.2⟩ (x_kC (fun y u h1 h2 => ?_))
    obtain ⟨rfl, rfl⟩ := h1 sp.1
    refine x_nm (fun yv hyv => ?_)
    refine x_istore C1 [(6, .int yv), (5, .int (0 : Int32)), (0, .ref b), (1, ra V 0), (2, ra V 87), (3, .ref lo), (4, .int (nI (8 * i)))] dL_law_215 (by decide) rfl ?_
    refine x_aload_n C1 dL_law_217 rfl 4 rfl ?_
    refine x_callV C1 sh_87 (by decide) rfl [] (c_X9_thrown l V hV _) (cwV 0 C1.2.2.2.2.1 gL_law_X9_thrown rfl rfl rfl (by decide +kernel) ⟨Nat.le_of_ble_eq_true rfl, Nat.le_of_ble_eq_true rfl⟩) rfl rfl (Nat.le_of_ble_eq_true rfl) dL_law_218 ⟨hcs.1, hcs.2⟩ (x_kI ?_)
    refine x_v (y := (0 : Int32)) sp.2.1 ?_
    refine x_iload C1 dL_law_221 1 rfl ?_
    refine x_icmp_eq C1 228 dL_law_223 rfl (fun _ => ?_) (fun hq => absurd rfl hq)
    refine x_iload C1 dL_law_228 1 rfl ?_
    refine x_if_ne C1 245 dL_law_230 rfl (fun hq => absurd rfl hq) (fun _ => ?_)
    refine x_arefn C1 dL_law_233 rfl 5 rfl ?_
    refine x_iconst C1 (0 : Int32) (by decide) dL_law_234 ?_
    refine x_lald C1 dL_law_235 ?_
    refine x_iload C1 dL_law_236 0 rfl ?_
    have hg0 := (hg hk).trans (congrArg Int32.toInt64 (sp.2.2.1.trans hyv.symm))
    refine x_i2l C1 dL_law_238 ?_
    refine x_lcmp C1 dL_law_239 ?_
    refine x_v (y := (0 : Int32)) (by rw [hg0]; exact lg_cmp_s _) ?_
    refine x_if_eq C1 245 dL_law_240 rfl (fun _ => ?_) (fun hq => absurd rfl hq)
    refine x_goto C1 1977 dL_law_245 rfl ?_
    refine x_lv [2, 3, 4, 5, 6] [(0, .ref b), (1, ra V 0), (2, ra V 87), (3, .ref lo), (4, .int (nI (8 * i)))] rfl ?_
    exact J _ g' sp.2.2.2
  · rw [if_neg hk] at hσ
    rw [hσ]
    have sp := (st_addRule h (xs (8 * i + 1)) (xs (8 * i + 2)) (xs (8 * i + 3))).2 hk
    refine x_istore C1 [(5, .int (nI (kRule σ (xs (8 * i + 1)) (xs (8 * i + 2)) (xs (8 * i + 3))))), (0, .ref b), (1, ra V 0), (2, ra V 87), (3, .ref lo), (4, .int (nI (8 * i)))] dL_law_191 (by decide) rfl ?_
    refine x_aload_n C1 dL_law_193 rfl 3 rfl ?_
    refine x_arefn C1 dL_law_194 rfl 1 rfl ?_
    refine x_iload C1 dL_law_195 5 rfl ?_
    refine x_iconst C1 (1 : Int32) (by decide) dL_law_197 ?_
    refine x_iadd C1 dL_law_198 ?_
    refine x_sld C1 hX hbl hbA (8 * i + 1) (nI_add (8 * i) 1) (by omega) hL dL_law_199 ?_
    refine x_arefn C1 dL_law_200 rfl 1 rfl ?_
    refine x_iload C1 dL_law_201 5 rfl ?_
    refine x_iconst C1 (2 : Int32) (by decide) dL_law_203 ?_
    refine x_iadd C1 dL_law_204 ?_
    refine x_sld C1 hX hbl hbA (8 * i + 2) (nI_add (8 * i) 2) (by omega) hL dL_law_205 ?_
    refine x_arefn C1 dL_law_206 rfl 1 rfl ?_
    refine x_iload C1 dL_law_207 5 rfl ?_
    refine x_iconst C1 (3 : Int32) (by decide) dL_law_209 ?_
    refine x_iadd C1 dL_law_210 ?_
    refine x_sld C1 hX hbl hbA (8 * i + 3) (nI_add (8 * i) 3) (by omega) hL dL_law_211 ?_
    refine x_callV C1 sh_87 (by decide) rfl [.int (xs (8 * i + 1)), .int (xs (8 * i + 2)), .int (xs (8 * i + 3))] (c_X9_addRule l V hV (σ) (xs (8 * i + 1)) (xs (8 * i + 2)) (xs (8 * i + 3)) (mV_E (em_rf) h.1.V)) (cwV 3 C1.2.2.2.2.1 gL_law_X9_addRule rfl rfl rfl (by decide +kernel) ⟨Nat.le_of_ble_eq_true rfl, Nat.le_of_ble_eq_true rfl⟩) rfl rfl (Nat.le_of_ble_eq_true rfl) dL_law_212 ⟨hcs.1, hcs.2⟩ (x_kC (fun y u h1 h2 => ?_))
    have hu := h2 (by rw [sp.1]; exact hk)
    rw [sp.1] at hu
    subst hu
    refine x_nm (fun yv hyv => ?_)
    refine x_istore C1 [(6, .int yv), (5, .int (nI (kRule σ (xs (8 * i + 1)) (xs (8 * i + 2)) (xs (8 * i + 3))))), (0, .ref b), (1, ra V 0), (2, ra V 87), (3, .ref lo), (4, .int (nI (8 * i)))] dL_law_215 (by decide) rfl ?_
    refine x_aload_n C1 dL_law_217 rfl 4 rfl ?_
    refine x_callV C1 sh_87 (by decide) rfl [] (c_X9_thrown l V hV _) (cwV 0 C1.2.2.2.2.1 gL_law_X9_thrown rfl rfl rfl (by decide +kernel) ⟨Nat.le_of_ble_eq_true rfl, Nat.le_of_ble_eq_true rfl⟩) rfl rfl (Nat.le_of_ble_eq_true rfl) dL_law_218 ⟨hcs.1, hcs.2⟩ (x_kI ?_)
    refine x_v (y := (nI (kRule σ (xs (8 * i + 1)) (xs (8 * i + 2)) (xs (8 * i + 3))))) (xw_at _ _ _ _) ?_
    refine x_iload C1 dL_law_221 1 rfl ?_
    refine x_icmp_eq C1 228 dL_law_223 rfl (fun _ => ?_) (fun hq => absurd rfl hq)
    refine x_iload C1 dL_law_228 1 rfl ?_
    refine x_if_ne C1 245 dL_law_230 rfl (fun _ => ?_) (fun hq => absurd hq (hne hk))
    refine x_goto C1 1977 dL_law_245 rfl ?_
    refine x_lv [2, 3, 4, 5, 6] [(0, .ref b), (1, ra V 0), (2, ra V 87), (3, .ref lo), (4, .int (nI (8 * i)))] rfl ?_
    exact J _ g' sp.2
set_option maxHeartbeats 4000000 in
set_option maxRecDepth 100000 in
theorem L_dropRule {p : Program} {l : Launch} {e : Env} {s : State} {m : MethodId} {args : Array Value} {below : List Frame} {meth : Method} {c : Code} {V : xV} {A : Nat → Prop} {cells slots : Nat} {Q : State → Prop} {lo b L i : Nat} {xs : Nat → Int32} {gg : Nat → Int64} {σ : xS} (hlst : l.stackTraces = false) (C : XC p s m args c cL_law 9 RL wsL_law V [oc V lo gg] A) (hV : xInj V) (hO : ∀ k, k < 108 → xad V k ≠ lo) (hA : ∀ q, inO V lo q → A q) (hT : xT s) (hZ : xZ A s s.heap) (hX : va_X b L xs s s.heap) (hbl : b < s.heap.size) (hbA : ¬ A b) (hL : L < 2 ^ 31) (hi : 8 * i + 8 ≤ L) (hcs : cells + 1 ≤ room_1.cells ∧ slots + 6 ≤ room_1.slots) (h : Sm σ) (J : ∀ σ' g', Sm σ' → X p l e room_1 s m args below meth c V [oc V lo g'] A 9 (cells + 1) (slots + 6) Q σ' 1977 [(0, .ref b), (1, ra V 0), (2, ra V 87), (3, .ref lo), (4, .int (nI (8 * i)))] []) : X p l e room_1 s m args below meth c V [oc V lo gg] A 9 cells slots Q σ 248 [(0, .ref b), (1, ra V 0), (2, ra V 87), (3, .ref lo), (4, .int (nI (8 * i)))] [] := by
  refine x_aload_n C dL_law_248 rfl 1 rfl ?_
  refine x_arefn C dL_law_249 rfl 3 rfl ?_
  refine x_callW C hT hZ hA [ra V 0, .ref lo] (c_L_dropRule l hlst V hV lo hO σ gg) (vx_cwSW 2 C.2.2.2.2.1 gL_law_L_dropRule rfl rfl rfl (by decide +kernel) ⟨Nat.le_of_ble_eq_true rfl, Nat.le_of_ble_eq_true rfl⟩) rfl rfl (Nat.le_of_ble_eq_true rfl) dL_law_250 hcs (fun v σ' g' hR => ?_)
  obtain ⟨rfl, hσ, hg, hne⟩ := hR
  have C1 := XC_oc C hV hO hA g'
  by_cases hk : kDropR σ = 0
  · rw [if_pos hk] at hσ
    rw [hσ]
    have sp := (st_dropRule h).1 hk
    refine x_v (y := (0 : Int32)) (by rw [hk, nI_0]) ?_
    refine x_istore C1 [(5, .int (0 : Int32)), (0, .ref b), (1, ra V 0), (2, ra V 87), (3, .ref lo), (4, .int (nI (8 * i)))] dL_law_253 (by decide) rfl ?_
    refine x_aload_n C1 dL_law_255 rfl 3 rfl ?_
    refine x_callV C1 sh_87 (by decide) rfl [] (c_X9_dropRule l V hV (xw σ 200 0 (σ 200 0 - 1)) (mV_E (em_dropRule) h.1.V)) (cwV 0 C1.2.2.2.2.1 gL_law_X9_dropRule rfl rfl rfl (by decide +kernel) ⟨Nat.le_of_ble_eq_true rfl, Nat.le_of_ble_eq_true rfl⟩) rfl rfl (Nat.le_of_ble_eq_true rfl) dL_law_256 ⟨hcs.1, hcs.2⟩ (x_kC (fun y u h1 h2 => ?_))
    obtain ⟨rfl, rfl⟩ := h1 sp.1
    refine x_nm (fun yv hyv => ?_)
    refine x_istore C1 [(6, .int yv), (5, .int (0 : Int32)), (0, .ref b), (1, ra V 0), (2, ra V 87), (3, .ref lo), (4, .int (nI (8 * i)))] dL_law_259 (by decide) rfl ?_
    refine x_aload_n C1 dL_law_261 rfl 4 rfl ?_
    refine x_callV C1 sh_87 (by decide) rfl [] (c_X9_thrown l V hV _) (cwV 0 C1.2.2.2.2.1 gL_law_X9_thrown rfl rfl rfl (by decide +kernel) ⟨Nat.le_of_ble_eq_true rfl, Nat.le_of_ble_eq_true rfl⟩) rfl rfl (Nat.le_of_ble_eq_true rfl) dL_law_262 ⟨hcs.1, hcs.2⟩ (x_kI ?_)
    refine x_v (y := (0 : Int32)) sp.2.1 ?_
    refine x_iload C1 dL_law_265 1 rfl ?_
    refine x_icmp_eq C1 272 dL_law_267 rfl (fun _ => ?_) (fun hq => absurd rfl hq)
    refine x_iload C1 dL_law_272 1 rfl ?_
    refine x_if_ne C1 289 dL_law_274 rfl (fun hq => absurd rfl hq) (fun _ => ?_)
    refine x_arefn C1 dL_law_277 rfl 5 rfl ?_
    refine x_iconst C1 (0 : Int32) (by decide) dL_law_278 ?_
    refine x_lald C1 dL_law_279 ?_
    refine x_iload C1 dL_law_280 0 rfl ?_
    have hg0 := (hg hk).trans (congrArg Int32.toInt64 (sp.2.2.1.trans hyv.symm))
    refine x_i2l C1 dL_law_282 ?_
    refine x_lcmp C1 dL_law_283 ?_
    refine x_v (y := (0 : Int32)) (by rw [hg0]; exact lg_cmp_s _) ?_
    refine x_if_eq C1 289 dL_law_284 rfl (fun _ => ?_) (fun hq => absurd rfl hq)
    refine x_goto C1 1977 dL_law_289 rfl ?_
    refine x_lv [2, 3, 4, 5, 6] [(0, .ref b), (1, ra V 0), (2, ra V 87), (3, .ref lo), (4, .int (nI (8 * i)))] rfl ?_
    exact J _ g' sp.2.2.2
  · rw [if_neg hk] at hσ
    rw [hσ]
    have sp := (st_dropRule h).2 hk
    refine x_istore C1 [(5, .int (nI (kDropR σ))), (0, .ref b), (1, ra V 0), (2, ra V 87), (3, .ref lo), (4, .int (nI (8 * i)))] dL_law_253 (by decide) rfl ?_
    refine x_aload_n C1 dL_law_255 rfl 3 rfl ?_
    refine x_callV C1 sh_87 (by decide) rfl [] (c_X9_dropRule l V hV (σ) (mV_E (em_rf) h.1.V)) (cwV 0 C1.2.2.2.2.1 gL_law_X9_dropRule rfl rfl rfl (by decide +kernel) ⟨Nat.le_of_ble_eq_true rfl, Nat.le_of_ble_eq_true rfl⟩) rfl rfl (Nat.le_of_ble_eq_true rfl) dL_law_256 ⟨hcs.1, hcs.2⟩ (x_kC (fun y u h1 h2 => ?_))
    have hu := h2 (by rw [sp.1]; exact hk)
    rw [sp.1] at hu
    subst hu
    refine x_nm (fun yv hyv => ?_)
    refine x_istore C1 [(6, .int yv), (5, .int (nI (kDropR σ))), (0, .ref b), (1, ra V 0), (2, ra V 87), (3, .ref lo), (4, .int (nI (8 * i)))] dL_law_259 (by decide) rfl ?_
    refine x_aload_n C1 dL_law_261 rfl 4 rfl ?_
    refine x_callV C1 sh_87 (by decide) rfl [] (c_X9_thrown l V hV _) (cwV 0 C1.2.2.2.2.1 gL_law_X9_thrown rfl rfl rfl (by decide +kernel) ⟨Nat.le_of_ble_eq_true rfl, Nat.le_of_ble_eq_true rfl⟩) rfl rfl (Nat.le_of_ble_eq_true rfl) dL_law_262 ⟨hcs.1, hcs.2⟩ (x_kI ?_)
    refine x_v (y := (nI (kDropR σ))) (xw_at _ _ _ _) ?_
    refine x_iload C1 dL_law_265 1 rfl ?_
    refine x_icmp_eq C1 272 dL_law_267 rfl (fun _ => ?_) (fun hq => absurd rfl hq)
    refine x_iload C1 dL_law_272 1 rfl ?_
    refine x_if_ne C1 289 dL_law_274 rfl (fun _ => ?_) (fun hq => absurd hq (hne hk))
    refine x_goto C1 1977 dL_law_289 rfl ?_
    refine x_lv [2, 3, 4, 5, 6] [(0, .ref b), (1, ra V 0), (2, ra V 87), (3, .ref lo), (4, .int (nI (8 * i)))] rfl ?_
    exact J _ g' sp.2
set_option maxHeartbeats 4000000 in
set_option maxRecDepth 100000 in
theorem L_products {p : Program} {l : Launch} {e : Env} {s : State} {m : MethodId} {args : Array Value} {below : List Frame} {meth : Method} {c : Code} {V : xV} {A : Nat → Prop} {cells slots : Nat} {Q : State → Prop} {lo b L i : Nat} {xs : Nat → Int32} {gg : Nat → Int64} {σ : xS} (hlst : l.stackTraces = false) (C : XC p s m args c cL_law 9 RL wsL_law V [oc V lo gg] A) (hV : xInj V) (hO : ∀ k, k < 108 → xad V k ≠ lo) (hA : ∀ q, inO V lo q → A q) (hT : xT s) (hZ : xZ A s s.heap) (hX : va_X b L xs s s.heap) (hbl : b < s.heap.size) (hbA : ¬ A b) (hL : L < 2 ^ 31) (hi : 8 * i + 8 ≤ L) (hcs : cells + 1 ≤ room_1.cells ∧ slots + 6 ≤ room_1.slots) (h : Sm σ) (J : ∀ σ' g', Sm σ' → X p l e room_1 s m args below meth c V [oc V lo g'] A 9 (cells + 1) (slots + 6) Q σ' 1977 [(0, .ref b), (1, ra V 0), (2, ra V 87), (3, .ref lo), (4, .int (nI (8 * i)))] []) : X p l e room_1 s m args below meth c V [oc V lo gg] A 9 cells slots Q σ 292 [(0, .ref b), (1, ra V 0), (2, ra V 87), (3, .ref lo), (4, .int (nI (8 * i)))] [] := by
  have hz202 := Sm_z2 h
  have hz203 := Sm_z3 h
  have sp := st_products h
  refine x_aload_n C dL_law_292 rfl 1 rfl ?_
  refine x_callV C sh_0 (by decide) rfl [] (c_X8_products l V hV σ) (cwV 0 C.2.2.2.2.1 gL_law_X8_products rfl rfl rfl (by decide +kernel) ⟨Nat.le_of_ble_eq_true rfl, Nat.le_of_ble_eq_true rfl⟩) rfl rfl (Nat.le_of_ble_eq_true rfl) dL_law_293 ⟨Nat.le_of_succ_le hcs.1, Nat.le_trans (Nat.le_add_right _ 6) hcs.2⟩ (x_kI ?_)
  refine x_aload_n C dL_law_296 rfl 2 rfl ?_
  refine x_callV C sh_87 (by decide) rfl [] (c_X9_products l V hV σ (mV_E em_rf h.1.V)) (cwV 0 C.2.2.2.2.1 gL_law_X9_products rfl rfl rfl (by decide +kernel) ⟨Nat.le_of_ble_eq_true rfl, Nat.le_of_ble_eq_true rfl⟩) rfl rfl (Nat.le_of_ble_eq_true rfl) dL_law_297 ⟨Nat.le_of_succ_le hcs.1, Nat.le_trans (Nat.le_add_right _ 6) hcs.2⟩ (x_kI ?_)
  refine x_icmp_eq C 1977 dL_law_300 rfl (fun _ => ?_) (fun hq => absurd sp.1 hq)
  refine x_lv [0, 1, 2, 3, 4] [(0, .ref b), (1, ra V 0), (2, ra V 87), (3, .ref lo), (4, .int (nI (8 * i)))] rfl ?_
  exact x_widen (Nat.le_succ _) (Nat.le_add_right _ 6) (J _ gg sp.2)
set_option maxHeartbeats 4000000 in
set_option maxRecDepth 100000 in
theorem L_addClass {p : Program} {l : Launch} {e : Env} {s : State} {m : MethodId} {args : Array Value} {below : List Frame} {meth : Method} {c : Code} {V : xV} {A : Nat → Prop} {cells slots : Nat} {Q : State → Prop} {lo b L i : Nat} {xs : Nat → Int32} {gg : Nat → Int64} {σ : xS} (hlst : l.stackTraces = false) (C : XC p s m args c cL_law 9 RL wsL_law V [oc V lo gg] A) (hV : xInj V) (hO : ∀ k, k < 108 → xad V k ≠ lo) (hA : ∀ q, inO V lo q → A q) (hT : xT s) (hZ : xZ A s s.heap) (hX : va_X b L xs s s.heap) (hbl : b < s.heap.size) (hbA : ¬ A b) (hL : L < 2 ^ 31) (hi : 8 * i + 8 ≤ L) (hcs : cells + 1 ≤ room_1.cells ∧ slots + 6 ≤ room_1.slots) (h : Sm σ) (J : ∀ σ' g', Sm σ' → X p l e room_1 s m args below meth c V [oc V lo g'] A 9 (cells + 1) (slots + 6) Q σ' 1977 [(0, .ref b), (1, ra V 0), (2, ra V 87), (3, .ref lo), (4, .int (nI (8 * i)))] []) : X p l e room_1 s m args below meth c V [oc V lo gg] A 9 cells slots Q σ 305 [(0, .ref b), (1, ra V 0), (2, ra V 87), (3, .ref lo), (4, .int (nI (8 * i)))] [] := by
  refine x_aload_n C dL_law_305 rfl 1 rfl ?_
  refine x_arefn C dL_law_306 rfl 0 rfl ?_
  refine x_iload C dL_law_307 4 rfl ?_
  refine x_iconst C (1 : Int32) (by decide) dL_law_309 ?_
  refine x_iadd C dL_law_310 ?_
  refine x_sld C hX hbl hbA (8 * i + 1) (nI_add (8 * i) 1) (by omega) hL dL_law_311 ?_
  refine x_arefn C dL_law_312 rfl 0 rfl ?_
  refine x_iload C dL_law_313 4 rfl ?_
  refine x_iconst C (2 : Int32) (by decide) dL_law_315 ?_
  refine x_iadd C dL_law_316 ?_
  refine x_sld C hX hbl hbA (8 * i + 2) (nI_add (8 * i) 2) (by omega) hL dL_law_317 ?_
  refine x_arefn C dL_law_318 rfl 3 rfl ?_
  refine x_callW C hT hZ hA [ra V 0, .int (xs (8 * i + 1)), .int (xs (8 * i + 2)), .ref lo] (c_L_addClass l hlst V hV lo hO σ gg (xs (8 * i + 1)) (xs (8 * i + 2))) (vx_cwSW 4 C.2.2.2.2.1 gL_law_L_addClass rfl rfl rfl (by decide +kernel) ⟨Nat.le_of_ble_eq_true rfl, Nat.le_of_ble_eq_true rfl⟩) rfl rfl (Nat.le_of_ble_eq_true rfl) dL_law_319 hcs (fun v σ' g' hR => ?_)
  obtain ⟨rfl, hσ, hg, hne⟩ := hR
  have C1 := XC_oc C hV hO hA g'
  by_cases hk : kClass σ (xs (8 * i + 1)) (xs (8 * i + 2)) = 0
  · rw [if_pos hk] at hσ
    rw [hσ]
    have sp := (st_addClass h (xs (8 * i + 1)) (xs (8 * i + 2))).1 hk
    refine x_v (y := (0 : Int32)) (by rw [hk, nI_0]) ?_
    refine x_istore C1 [(5, .int (0 : Int32)), (0, .ref b), (1, ra V 0), (2, ra V 87), (3, .ref lo), (4, .int (nI (8 * i)))] dL_law_322 (by decide) rfl ?_
    refine x_aload_n C1 dL_law_324 rfl 3 rfl ?_
    refine x_arefn C1 dL_law_325 rfl 1 rfl ?_
    refine x_iload C1 dL_law_326 5 rfl ?_
    refine x_iconst C1 (1 : Int32) (by decide) dL_law_328 ?_
    refine x_iadd C1 dL_law_329 ?_
    refine x_sld C1 hX hbl hbA (8 * i + 1) (nI_add (8 * i) 1) (by omega) hL dL_law_330 ?_
    refine x_arefn C1 dL_law_331 rfl 1 rfl ?_
    refine x_iload C1 dL_law_332 5 rfl ?_
    refine x_iconst C1 (2 : Int32) (by decide) dL_law_334 ?_
    refine x_iadd C1 dL_law_335 ?_
    refine x_sld C1 hX hbl hbA (8 * i + 2) (nI_add (8 * i) 2) (by omega) hL dL_law_336 ?_
    refine x_callV C1 sh_87 (by decide) rfl [.int (xs (8 * i + 1)), .int (xs (8 * i + 2))] (c_X9_addClass l V hV (cApp σ 9 8 201 (xs (8 * i + 1)) (xs (8 * i + 2))) (xs (8 * i + 1)) (xs (8 * i + 2)) (mV_E (em_addClass) h.1.V)) (cwV 2 C1.2.2.2.2.1 gL_law_X9_addClass rfl rfl rfl (by decide +kernel) ⟨Nat.le_of_ble_eq_true rfl, Nat.le_of_ble_eq_true rfl⟩) rfl rfl (Nat.le_of_ble_eq_true rfl) dL_law_337 ⟨hcs.1, hcs.2⟩ (x_kC (fun y u h1 h2 => ?_))
    obtain ⟨rfl, rfl⟩ := h1 sp.1
    refine x_nm (fun yv hyv => ?_)
    refine x_istore C1 [(6, .int yv), (5, .int (0 : Int32)), (0, .ref b), (1, ra V 0), (2, ra V 87), (3, .ref lo), (4, .int (nI (8 * i)))] dL_law_340 (by decide) rfl ?_
    refine x_aload_n C1 dL_law_342 rfl 4 rfl ?_
    refine x_callV C1 sh_87 (by decide) rfl [] (c_X9_thrown l V hV _) (cwV 0 C1.2.2.2.2.1 gL_law_X9_thrown rfl rfl rfl (by decide +kernel) ⟨Nat.le_of_ble_eq_true rfl, Nat.le_of_ble_eq_true rfl⟩) rfl rfl (Nat.le_of_ble_eq_true rfl) dL_law_343 ⟨hcs.1, hcs.2⟩ (x_kI ?_)
    refine x_v (y := (0 : Int32)) sp.2.1 ?_
    refine x_iload C1 dL_law_346 1 rfl ?_
    refine x_icmp_eq C1 353 dL_law_348 rfl (fun _ => ?_) (fun hq => absurd rfl hq)
    refine x_iload C1 dL_law_353 1 rfl ?_
    refine x_if_ne C1 370 dL_law_355 rfl (fun hq => absurd rfl hq) (fun _ => ?_)
    refine x_arefn C1 dL_law_358 rfl 5 rfl ?_
    refine x_iconst C1 (0 : Int32) (by decide) dL_law_359 ?_
    refine x_lald C1 dL_law_360 ?_
    refine x_iload C1 dL_law_361 0 rfl ?_
    have hg0 := (hg hk).trans (congrArg Int32.toInt64 (sp.2.2.1.trans hyv.symm))
    refine x_i2l C1 dL_law_363 ?_
    refine x_lcmp C1 dL_law_364 ?_
    refine x_v (y := (0 : Int32)) (by rw [hg0]; exact lg_cmp_s _) ?_
    refine x_if_eq C1 370 dL_law_365 rfl (fun _ => ?_) (fun hq => absurd rfl hq)
    refine x_goto C1 1977 dL_law_370 rfl ?_
    refine x_lv [2, 3, 4, 5, 6] [(0, .ref b), (1, ra V 0), (2, ra V 87), (3, .ref lo), (4, .int (nI (8 * i)))] rfl ?_
    exact J _ g' sp.2.2.2
  · rw [if_neg hk] at hσ
    rw [hσ]
    have sp := (st_addClass h (xs (8 * i + 1)) (xs (8 * i + 2))).2 hk
    refine x_istore C1 [(5, .int (nI (kClass σ (xs (8 * i + 1)) (xs (8 * i + 2))))), (0, .ref b), (1, ra V 0), (2, ra V 87), (3, .ref lo), (4, .int (nI (8 * i)))] dL_law_322 (by decide) rfl ?_
    refine x_aload_n C1 dL_law_324 rfl 3 rfl ?_
    refine x_arefn C1 dL_law_325 rfl 1 rfl ?_
    refine x_iload C1 dL_law_326 5 rfl ?_
    refine x_iconst C1 (1 : Int32) (by decide) dL_law_328 ?_
    refine x_iadd C1 dL_law_329 ?_
    refine x_sld C1 hX hbl hbA (8 * i + 1) (nI_add (8 * i) 1) (by omega) hL dL_law_330 ?_
    refine x_arefn C1 dL_law_331 rfl 1 rfl ?_
    refine x_iload C1 dL_law_332 5 rfl ?_
    refine x_iconst C1 (2 : Int32) (by decide) dL_law_334 ?_
    refine x_iadd C1 dL_law_335 ?_
    refine x_sld C1 hX hbl hbA (8 * i + 2) (nI_add (8 * i) 2) (by omega) hL dL_law_336 ?_
    refine x_callV C1 sh_87 (by decide) rfl [.int (xs (8 * i + 1)), .int (xs (8 * i + 2))] (c_X9_addClass l V hV (σ) (xs (8 * i + 1)) (xs (8 * i + 2)) (mV_E (em_rf) h.1.V)) (cwV 2 C1.2.2.2.2.1 gL_law_X9_addClass rfl rfl rfl (by decide +kernel) ⟨Nat.le_of_ble_eq_true rfl, Nat.le_of_ble_eq_true rfl⟩) rfl rfl (Nat.le_of_ble_eq_true rfl) dL_law_337 ⟨hcs.1, hcs.2⟩ (x_kC (fun y u h1 h2 => ?_))
    have hu := h2 (by rw [sp.1]; exact hk)
    rw [sp.1] at hu
    subst hu
    refine x_nm (fun yv hyv => ?_)
    refine x_istore C1 [(6, .int yv), (5, .int (nI (kClass σ (xs (8 * i + 1)) (xs (8 * i + 2))))), (0, .ref b), (1, ra V 0), (2, ra V 87), (3, .ref lo), (4, .int (nI (8 * i)))] dL_law_340 (by decide) rfl ?_
    refine x_aload_n C1 dL_law_342 rfl 4 rfl ?_
    refine x_callV C1 sh_87 (by decide) rfl [] (c_X9_thrown l V hV _) (cwV 0 C1.2.2.2.2.1 gL_law_X9_thrown rfl rfl rfl (by decide +kernel) ⟨Nat.le_of_ble_eq_true rfl, Nat.le_of_ble_eq_true rfl⟩) rfl rfl (Nat.le_of_ble_eq_true rfl) dL_law_343 ⟨hcs.1, hcs.2⟩ (x_kI ?_)
    refine x_v (y := (nI (kClass σ (xs (8 * i + 1)) (xs (8 * i + 2))))) (xw_at _ _ _ _) ?_
    refine x_iload C1 dL_law_346 1 rfl ?_
    refine x_icmp_eq C1 353 dL_law_348 rfl (fun _ => ?_) (fun hq => absurd rfl hq)
    refine x_iload C1 dL_law_353 1 rfl ?_
    refine x_if_ne C1 370 dL_law_355 rfl (fun _ => ?_) (fun hq => absurd hq (hne hk))
    refine x_goto C1 1977 dL_law_370 rfl ?_
    refine x_lv [2, 3, 4, 5, 6] [(0, .ref b), (1, ra V 0), (2, ra V 87), (3, .ref lo), (4, .int (nI (8 * i)))] rfl ?_
    exact J _ g' sp.2
set_option maxHeartbeats 4000000 in
set_option maxRecDepth 100000 in
theorem L_addLink {p : Program} {l : Launch} {e : Env} {s : State} {m : MethodId} {args : Array Value} {below : List Frame} {meth : Method} {c : Code} {V : xV} {A : Nat → Prop} {cells slots : Nat} {Q : State → Prop} {lo b L i : Nat} {xs : Nat → Int32} {gg : Nat → Int64} {σ : xS} (hlst : l.stackTraces = false) (C : XC p s m args c cL_law 9 RL wsL_law V [oc V lo gg] A) (hV : xInj V) (hO : ∀ k, k < 108 → xad V k ≠ lo) (hA : ∀ q, inO V lo q → A q) (hT : xT s) (hZ : xZ A s s.heap) (hX : va_X b L xs s s.heap) (hbl : b < s.heap.size) (hbA : ¬ A b) (hL : L < 2 ^ 31) (hi : 8 * i + 8 ≤ L) (hcs : cells + 1 ≤ room_1.cells ∧ slots + 6 ≤ room_1.slots) (h : Sm σ) (J : ∀ σ' g', Sm σ' → X p l e room_1 s m args below meth c V [oc V lo g'] A 9 (cells + 1) (slots + 6) Q σ' 1977 [(0, .ref b), (1, ra V 0), (2, ra V 87), (3, .ref lo), (4, .int (nI (8 * i)))] []) : X p l e room_1 s m args below meth c V [oc V lo gg] A 9 cells slots Q σ 373 [(0, .ref b), (1, ra V 0), (2, ra V 87), (3, .ref lo), (4, .int (nI (8 * i)))] [] := by
  refine x_aload_n C dL_law_373 rfl 1 rfl ?_
  refine x_arefn C dL_law_374 rfl 0 rfl ?_
  refine x_iload C dL_law_375 4 rfl ?_
  refine x_iconst C (1 : Int32) (by decide) dL_law_377 ?_
  refine x_iadd C dL_law_378 ?_
  refine x_sld C hX hbl hbA (8 * i + 1) (nI_add (8 * i) 1) (by omega) hL dL_law_379 ?_
  refine x_arefn C dL_law_380 rfl 0 rfl ?_
  refine x_iload C dL_law_381 4 rfl ?_
  refine x_iconst C (2 : Int32) (by decide) dL_law_383 ?_
  refine x_iadd C dL_law_384 ?_
  refine x_sld C hX hbl hbA (8 * i + 2) (nI_add (8 * i) 2) (by omega) hL dL_law_385 ?_
  refine x_arefn C dL_law_386 rfl 0 rfl ?_
  refine x_iload C dL_law_387 4 rfl ?_
  refine x_iconst C (3 : Int32) (by decide) dL_law_389 ?_
  refine x_iadd C dL_law_390 ?_
  refine x_sld C hX hbl hbA (8 * i + 3) (nI_add (8 * i) 3) (by omega) hL dL_law_391 ?_
  refine x_arefn C dL_law_392 rfl 0 rfl ?_
  refine x_iload C dL_law_393 4 rfl ?_
  refine x_iconst C (4 : Int32) (by decide) dL_law_395 ?_
  refine x_iadd C dL_law_396 ?_
  refine x_sld C hX hbl hbA (8 * i + 4) (nI_add (8 * i) 4) (by omega) hL dL_law_397 ?_
  refine x_arefn C dL_law_398 rfl 3 rfl ?_
  refine x_callW C hT hZ hA [ra V 0, .int (xs (8 * i + 1)), .int (xs (8 * i + 2)), .int (xs (8 * i + 3)), .int (xs (8 * i + 4)), .ref lo] (c_L_addLink l hlst V hV lo hO σ gg (xs (8 * i + 1)) (xs (8 * i + 2)) (xs (8 * i + 3)) (xs (8 * i + 4))) (vx_cwSW 6 C.2.2.2.2.1 gL_law_L_addLink rfl rfl rfl (by decide +kernel) ⟨Nat.le_of_ble_eq_true rfl, Nat.le_of_ble_eq_true rfl⟩) rfl rfl (Nat.le_of_ble_eq_true rfl) dL_law_399 hcs (fun v σ' g' hR => ?_)
  obtain ⟨rfl, hσ, hg, hne⟩ := hR
  have C1 := XC_oc C hV hO hA g'
  by_cases hk : kLink σ (xs (8 * i + 1)) (xs (8 * i + 2)) (xs (8 * i + 3)) (xs (8 * i + 4)) = 0
  · rw [if_pos hk] at hσ
    rw [hσ]
    have sp := (st_addLink h (xs (8 * i + 1)) (xs (8 * i + 2)) (xs (8 * i + 3)) (xs (8 * i + 4))).1 hk
    refine x_v (y := (0 : Int32)) (by rw [hk, nI_0]) ?_
    refine x_istore C1 [(5, .int (0 : Int32)), (0, .ref b), (1, ra V 0), (2, ra V 87), (3, .ref lo), (4, .int (nI (8 * i)))] dL_law_402 (by decide) rfl ?_
    refine x_aload_n C1 dL_law_404 rfl 3 rfl ?_
    refine x_arefn C1 dL_law_405 rfl 1 rfl ?_
    refine x_iload C1 dL_law_406 5 rfl ?_
    refine x_iconst C1 (1 : Int32) (by decide) dL_law_408 ?_
    refine x_iadd C1 dL_law_409 ?_
    refine x_sld C1 hX hbl hbA (8 * i + 1) (nI_add (8 * i) 1) (by omega) hL dL_law_410 ?_
    refine x_arefn C1 dL_law_411 rfl 1 rfl ?_
    refine x_iload C1 dL_law_412 5 rfl ?_
    refine x_iconst C1 (2 : Int32) (by decide) dL_law_414 ?_
    refine x_iadd C1 dL_law_415 ?_
    refine x_sld C1 hX hbl hbA (8 * i + 2) (nI_add (8 * i) 2) (by omega) hL dL_law_416 ?_
    refine x_arefn C1 dL_law_417 rfl 1 rfl ?_
    refine x_iload C1 dL_law_418 5 rfl ?_
    refine x_iconst C1 (3 : Int32) (by decide) dL_law_420 ?_
    refine x_iadd C1 dL_law_421 ?_
    refine x_sld C1 hX hbl hbA (8 * i + 3) (nI_add (8 * i) 3) (by omega) hL dL_law_422 ?_
    refine x_arefn C1 dL_law_423 rfl 1 rfl ?_
    refine x_iload C1 dL_law_424 5 rfl ?_
    refine x_iconst C1 (4 : Int32) (by decide) dL_law_426 ?_
    refine x_iadd C1 dL_law_427 ?_
    refine x_sld C1 hX hbl hbA (8 * i + 4) (nI_add (8 * i) 4) (by omega) hL dL_law_428 ?_
    refine x_callV C1 sh_87 (by decide) rfl [.int (xs (8 * i + 1)), .int (xs (8 * i + 2)), .int (xs (8 * i + 3)), .int (xs (8 * i + 4))] (c_X9_addLink l V hV (vPut (vPut (cApp σ 16 12 202 (xs (8 * i + 3)) (xs (8 * i + 4))) 24 12 (σ 202 0) (xs (8 * i + 1))) 26 12 (σ 202 0) (xs (8 * i + 2))) (xs (8 * i + 1)) (xs (8 * i + 2)) (xs (8 * i + 3)) (xs (8 * i + 4)) (mV_E (em_addLink) h.1.V)) (cwV 4 C1.2.2.2.2.1 gL_law_X9_addLink rfl rfl rfl (by decide +kernel) ⟨Nat.le_of_ble_eq_true rfl, Nat.le_of_ble_eq_true rfl⟩) rfl rfl (Nat.le_of_ble_eq_true rfl) dL_law_429 ⟨hcs.1, hcs.2⟩ (x_kC (fun y u h1 h2 => ?_))
    obtain ⟨rfl, rfl⟩ := h1 sp.1
    refine x_nm (fun yv hyv => ?_)
    refine x_istore C1 [(6, .int yv), (5, .int (0 : Int32)), (0, .ref b), (1, ra V 0), (2, ra V 87), (3, .ref lo), (4, .int (nI (8 * i)))] dL_law_432 (by decide) rfl ?_
    refine x_aload_n C1 dL_law_434 rfl 4 rfl ?_
    refine x_callV C1 sh_87 (by decide) rfl [] (c_X9_thrown l V hV _) (cwV 0 C1.2.2.2.2.1 gL_law_X9_thrown rfl rfl rfl (by decide +kernel) ⟨Nat.le_of_ble_eq_true rfl, Nat.le_of_ble_eq_true rfl⟩) rfl rfl (Nat.le_of_ble_eq_true rfl) dL_law_435 ⟨hcs.1, hcs.2⟩ (x_kI ?_)
    refine x_v (y := (0 : Int32)) sp.2.1 ?_
    refine x_iload C1 dL_law_438 1 rfl ?_
    refine x_icmp_eq C1 445 dL_law_440 rfl (fun _ => ?_) (fun hq => absurd rfl hq)
    refine x_iload C1 dL_law_445 1 rfl ?_
    refine x_if_ne C1 462 dL_law_447 rfl (fun hq => absurd rfl hq) (fun _ => ?_)
    refine x_arefn C1 dL_law_450 rfl 5 rfl ?_
    refine x_iconst C1 (0 : Int32) (by decide) dL_law_451 ?_
    refine x_lald C1 dL_law_452 ?_
    refine x_iload C1 dL_law_453 0 rfl ?_
    have hg0 := (hg hk).trans (congrArg Int32.toInt64 (sp.2.2.1.trans hyv.symm))
    refine x_i2l C1 dL_law_455 ?_
    refine x_lcmp C1 dL_law_456 ?_
    refine x_v (y := (0 : Int32)) (by rw [hg0]; exact lg_cmp_s _) ?_
    refine x_if_eq C1 462 dL_law_457 rfl (fun _ => ?_) (fun hq => absurd rfl hq)
    refine x_goto C1 1977 dL_law_462 rfl ?_
    refine x_lv [2, 3, 4, 5, 6] [(0, .ref b), (1, ra V 0), (2, ra V 87), (3, .ref lo), (4, .int (nI (8 * i)))] rfl ?_
    exact J _ g' sp.2.2.2
  · rw [if_neg hk] at hσ
    rw [hσ]
    have sp := (st_addLink h (xs (8 * i + 1)) (xs (8 * i + 2)) (xs (8 * i + 3)) (xs (8 * i + 4))).2 hk
    refine x_istore C1 [(5, .int (nI (kLink σ (xs (8 * i + 1)) (xs (8 * i + 2)) (xs (8 * i + 3)) (xs (8 * i + 4))))), (0, .ref b), (1, ra V 0), (2, ra V 87), (3, .ref lo), (4, .int (nI (8 * i)))] dL_law_402 (by decide) rfl ?_
    refine x_aload_n C1 dL_law_404 rfl 3 rfl ?_
    refine x_arefn C1 dL_law_405 rfl 1 rfl ?_
    refine x_iload C1 dL_law_406 5 rfl ?_
    refine x_iconst C1 (1 : Int32) (by decide) dL_law_408 ?_
    refine x_iadd C1 dL_law_409 ?_
    refine x_sld C1 hX hbl hbA (8 * i + 1) (nI_add (8 * i) 1) (by omega) hL dL_law_410 ?_
    refine x_arefn C1 dL_law_411 rfl 1 rfl ?_
    refine x_iload C1 dL_law_412 5 rfl ?_
    refine x_iconst C1 (2 : Int32) (by decide) dL_law_414 ?_
    refine x_iadd C1 dL_law_415 ?_
    refine x_sld C1 hX hbl hbA (8 * i + 2) (nI_add (8 * i) 2) (by omega) hL dL_law_416 ?_
    refine x_arefn C1 dL_law_417 rfl 1 rfl ?_
    refine x_iload C1 dL_law_418 5 rfl ?_
    refine x_iconst C1 (3 : Int32) (by decide) dL_law_420 ?_
    refine x_iadd C1 dL_law_421 ?_
    refine x_sld C1 hX hbl hbA (8 * i + 3) (nI_add (8 * i) 3) (by omega) hL dL_law_422 ?_
    refine x_arefn C1 dL_law_423 rfl 1 rfl ?_
    refine x_iload C1 dL_law_424 5 rfl ?_
    refine x_iconst C1 (4 : Int32) (by decide) dL_law_426 ?_
    refine x_iadd C1 dL_law_427 ?_
    refine x_sld C1 hX hbl hbA (8 * i + 4) (nI_add (8 * i) 4) (by omega) hL dL_law_428 ?_
    refine x_callV C1 sh_87 (by decide) rfl [.int (xs (8 * i + 1)), .int (xs (8 * i + 2)), .int (xs (8 * i + 3)), .int (xs (8 * i + 4))] (c_X9_addLink l V hV (σ) (xs (8 * i + 1)) (xs (8 * i + 2)) (xs (8 * i + 3)) (xs (8 * i + 4)) (mV_E (em_rf) h.1.V)) (cwV 4 C1.2.2.2.2.1 gL_law_X9_addLink rfl rfl rfl (by decide +kernel) ⟨Nat.le_of_ble_eq_true rfl, Nat.le_of_ble_eq_true rfl⟩) rfl rfl (Nat.le_of_ble_eq_true rfl) dL_law_429 ⟨hcs.1, hcs.2⟩ (x_kC (fun y u h1 h2 => ?_))
    have hu := h2 (by rw [sp.1]; exact hk)
    rw [sp.1] at hu
    subst hu
    refine x_nm (fun yv hyv => ?_)
    refine x_istore C1 [(6, .int yv), (5, .int (nI (kLink σ (xs (8 * i + 1)) (xs (8 * i + 2)) (xs (8 * i + 3)) (xs (8 * i + 4))))), (0, .ref b), (1, ra V 0), (2, ra V 87), (3, .ref lo), (4, .int (nI (8 * i)))] dL_law_432 (by decide) rfl ?_
    refine x_aload_n C1 dL_law_434 rfl 4 rfl ?_
    refine x_callV C1 sh_87 (by decide) rfl [] (c_X9_thrown l V hV _) (cwV 0 C1.2.2.2.2.1 gL_law_X9_thrown rfl rfl rfl (by decide +kernel) ⟨Nat.le_of_ble_eq_true rfl, Nat.le_of_ble_eq_true rfl⟩) rfl rfl (Nat.le_of_ble_eq_true rfl) dL_law_435 ⟨hcs.1, hcs.2⟩ (x_kI ?_)
    refine x_v (y := (nI (kLink σ (xs (8 * i + 1)) (xs (8 * i + 2)) (xs (8 * i + 3)) (xs (8 * i + 4))))) (xw_at _ _ _ _) ?_
    refine x_iload C1 dL_law_438 1 rfl ?_
    refine x_icmp_eq C1 445 dL_law_440 rfl (fun _ => ?_) (fun hq => absurd rfl hq)
    refine x_iload C1 dL_law_445 1 rfl ?_
    refine x_if_ne C1 462 dL_law_447 rfl (fun _ => ?_) (fun hq => absurd hq (hne hk))
    refine x_goto C1 1977 dL_law_462 rfl ?_
    refine x_lv [2, 3, 4, 5, 6] [(0, .ref b), (1, ra V 0), (2, ra V 87), (3, .ref lo), (4, .int (nI (8 * i)))] rfl ?_
    exact J _ g' sp.2

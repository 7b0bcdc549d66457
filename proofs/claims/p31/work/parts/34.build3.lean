set_option maxHeartbeats 4000000 in
set_option maxRecDepth 100000 in
theorem B_links {p : Program} {l : Launch} {e : Env} {s : State} {m : MethodId} {args : Array Value} {below : List Frame} {meth : Method} {c : Code} {V : xV} {Q : State → Prop} {b L : Nat} {xs : Nat → Int32} (C : XC p s m args c cL_build 20 RL wsL_build V [] (inR V)) (hV : xInj V) (hX : va_X b L xs s s.heap) (hbl : b < s.heap.size) (hbV : ¬ inR V b) (hL : L < 2 ^ 31) {σ : xS} {nr nc : Nat} (hnc1 : 0 < nc) (hnc4 : nc ≤ 4) (h : BI nr nc 0 0 0 0 σ) (h0 : σ 87 0 = nI nr) (h1 : σ 87 1 = nI nc) (K : ∀ (u : xS) (nl : Nat), nl ≤ 4 → BI nr nc nl 0 0 0 u → u 87 0 = nI nr → u 87 1 = nI nc → u 87 2 = nI nl → X p l e (headSpec wsL_build rmB).room s m args below meth c V [] (inR V) 20 0 0 Q u 370 [(0, ra V 0), (1, .ref b), (2, .int (0 : Int32)), (3, ra V 87), (4, ra V 88), (5, ra V 89), (6, ra V 90), (7, ra V 91), (8, ra V 92), (9, ra V 93)] []) : X p l e (headSpec wsL_build rmB).room s m args below meth c V [] (inR V) 20 0 0 Q σ 211 [(0, ra V 0), (1, .ref b), (2, .int (0 : Int32)), (3, ra V 87), (4, ra V 88), (5, ra V 89), (6, ra V 90), (7, ra V 91), (8, ra V 92), (9, ra V 93)] [] := by
  have hbA : ¬ inR V b := hbV
  refine x_aload_n C dL_build_211 rfl 3 rfl ?_
  refine x_iconst C (2 : Int32) (by decide) dL_build_212 ?_
  refine x_arefn C dL_build_213 rfl 1 rfl ?_
  refine x_iload_n C dL_build_214 rfl 2 rfl ?_
  refine x_iconst C (2 : Int32) (by decide) dL_build_215 ?_
  refine x_iadd C dL_build_216 ?_
  refine x_v (y := (2 : Int32)) (by decide) ?_
  refine x_callSS C hX hbl hbA [.ref b, .int (2 : Int32)] (c_L_cell l V hV σ b L xs hbV hL (2 : Int32) (by decide)) (va_cwS 2 C.2.2.2.2.1 gL_build_L_cell rfl rfl rfl (by decide +kernel) ⟨Nat.le_of_ble_eq_true rfl, Nat.le_of_ble_eq_true rfl⟩) rfl rfl (Nat.le_of_ble_eq_true rfl) dL_build_217 ⟨Nat.le_of_ble_eq_true rfl, Nat.le_of_ble_eq_true rfl⟩ (x_kI ?_)
  refine x_iconst C (5 : Int32) (by decide) dL_build_220 ?_
  refine x_callS C [.int (cellI L xs (2 : Int32)), .int (5 : Int32)] (c_L_below l V hV σ (cellI L xs (2 : Int32)) (5 : Int32) (by decide)) (va_cwS 2 C.2.2.2.2.1 gL_build_L_below rfl rfl rfl (by decide +kernel) ⟨Nat.le_of_ble_eq_true rfl, Nat.le_of_ble_eq_true rfl⟩) rfl rfl (Nat.le_of_ble_eq_true rfl) dL_build_221 ⟨Nat.le_of_ble_eq_true rfl, Nat.le_of_ble_eq_true rfl⟩ (x_kI ?_)
  obtain ⟨nl, hnl, enl⟩ := below_at (cellI L xs (2 : Int32)) (n := 5) (by decide) (by decide)
  refine x_v (y := nI nl) enl ?_
  refine x_iast C sh_87 (vp_in_nI (n := 2) (by omega) (by decide)) dL_build_224 ?_
  rw [show (2 : Int32).toNatClampNeg = 2 from nI_clamp (n := 2) (by omega)]
  refine x_iconst C (0 : Int32) (by decide) dL_build_225 ?_
  refine x_istore C [(10, .int (0 : Int32)), (0, ra V 0), (1, .ref b), (2, .int (0 : Int32)), (3, ra V 87), (4, ra V 88), (5, ra V 89), (6, ra V 90), (7, ra V 91), (8, ra V 92), (9, ra V 93)] dL_build_226 (by decide) rfl ?_
  refine x_lv [1, 2, 3, 4, 5, 6, 7, 8, 9, 10, 0] [(0, ra V 0), (1, .ref b), (2, .int (0 : Int32)), (3, ra V 87), (4, ra V 88), (5, ra V 89), (6, ra V 90), (7, ra V 91), (8, ra V 92), (9, ra V 93), (10, .int (0 : Int32))] rfl ?_
  refine x_loop (fun μ τ lv_ => ∃ (k : Nat), μ = nl - k ∧ lv_ = [(0, ra V 0), (1, .ref b), (2, .int (0 : Int32)), (3, ra V 87), (4, ra V 88), (5, ra V 89), (6, ra V 90), (7, ra V 91), (8, ra V 92), (9, ra V 93), (10, .int (nI k))] ∧ k ≤ nl ∧ BI nr nc k 0 0 0 τ ∧ τ 87 0 = nI nr ∧ τ 87 1 = nI nc ∧ τ 87 2 = nI nl) ⟨_, ⟨0, rfl, rfl, Nat.zero_le _, h.cnt (fun r hr => xw_ne (r := 87) _ _ _ (fun z => hr (by rw [z]; exact List.mem_cons_self))), by rw [xw_other (by decide)]; exact h0, by rw [xw_other (by decide)]; exact h1, xw_at _ _ _ _⟩⟩ ?_
  rintro μ228 τ _ ⟨k, hμ228, rfl, hc228_0, hc228_1, hc228_2, hc228_3, hc228_4⟩ ih228
  refine x_iload C dL_build_228 10 rfl ?_
  refine x_aload_n C dL_build_230 rfl 3 rfl ?_
  refine x_iconst C (2 : Int32) (by decide) dL_build_231 ?_
  refine x_iald C sh_87 (vp_in_nI (n := 2) (by omega) (by decide)) dL_build_232 ?_
  rw [show (2 : Int32).toNatClampNeg = 2 from nI_clamp (n := 2) (by omega)]
  refine x_v (y := nI nl) (hc228_4) ?_
  refine x_icmp_ge C 370 dL_build_233 rfl (fun h1 => ?_) (fun h1 => ?_)
  · refine x_lv [0, 1, 2, 3, 4, 5, 6, 7, 8, 9] [(0, ra V 0), (1, .ref b), (2, .int (0 : Int32)), (3, ra V 87), (4, ra V 88), (5, ra V 89), (6, ra V 90), (7, ra V 91), (8, ra V 92), (9, ra V 93)] rfl ?_
    have hkn : k = nl := Nat.le_antisymm hc228_0 (Nat.le_of_not_lt (fun hq => nI_ge hq (by omega) h1))
    subst hkn
    exact K _ k (by omega) hc228_1 hc228_2 hc228_3 hc228_4
  · have hkn : k < nl := Nat.lt_of_not_le (fun hq => h1 (nI_le hq (by omega)))
    have hnz : ¬ nI nc = 0 := fun q => absurd ((nI_eq (a := nc) (b := 0) (by omega) (by decide)).mp q) (by omega)
    refine x_arefn C dL_build_236 rfl 1 rfl ?_
    refine x_iload_n C dL_build_237 rfl 2 rfl ?_
    refine x_iconst C (2 : Int32) (by decide) dL_build_238 ?_
    refine x_iadd C dL_build_239 ?_
    refine x_v (y := (2 : Int32)) (by decide) ?_
    refine x_callSS C hX hbl hbA [.ref b, .int (2 : Int32)] (c_L_cell l V hV τ b L xs hbV hL (2 : Int32) (by decide)) (va_cwS 2 C.2.2.2.2.1 gL_build_L_cell rfl rfl rfl (by decide +kernel) ⟨Nat.le_of_ble_eq_true rfl, Nat.le_of_ble_eq_true rfl⟩) rfl rfl (Nat.le_of_ble_eq_true rfl) dL_build_240 ⟨Nat.le_of_ble_eq_true rfl, Nat.le_of_ble_eq_true rfl⟩ (x_kI ?_)
    refine x_iconst C (3 : Int32) (by decide) dL_build_243 ?_
    refine x_iconst C (5 : Int32) (by decide) dL_build_244 ?_
    refine x_iload C dL_build_245 10 rfl ?_
    refine x_imul C dL_build_247 ?_
    refine x_v (y := nI (5 * k)) (pk_mul 5 k) ?_
    refine x_iadd C dL_build_248 ?_
    refine x_v (y := nI (3 + (5 * k))) (nI_add 3 (5 * k)) ?_
    refine x_ishr C dL_build_249 ?_
    refine x_arefn C dL_build_250 rfl 1 rfl ?_
    refine x_iload_n C dL_build_251 rfl 2 rfl ?_
    refine x_iconst C (1 : Int32) (by decide) dL_build_252 ?_
    refine x_iadd C dL_build_253 ?_
    refine x_v (y := (1 : Int32)) (by decide) ?_
    refine x_callSS C hX hbl hbA [.ref b, .int (1 : Int32)] (c_L_cell l V hV τ b L xs hbV hL (1 : Int32) (by decide)) (va_cwS 2 C.2.2.2.2.1 gL_build_L_cell rfl rfl rfl (by decide +kernel) ⟨Nat.le_of_ble_eq_true rfl, Nat.le_of_ble_eq_true rfl⟩) rfl rfl (Nat.le_of_ble_eq_true rfl) dL_build_254 ⟨Nat.le_of_ble_eq_true rfl, Nat.le_of_ble_eq_true rfl⟩ (x_kI ?_)
    refine x_iload C dL_build_257 10 rfl ?_
    refine x_ishr C dL_build_259 ?_
    refine x_ixor C dL_build_260 ?_
    refine x_nm (fun y hy => ?_)
    refine x_istore C [(11, .int y), (0, ra V 0), (1, .ref b), (2, .int (0 : Int32)), (3, ra V 87), (4, ra V 88), (5, ra V 89), (6, ra V 90), (7, ra V 91), (8, ra V 92), (9, ra V 93), (10, .int (nI k))] dL_build_261 (by decide) rfl ?_
    refine x_aload C dL_build_263 7 rfl ?_
    refine x_iconst C (3 : Int32) (by decide) dL_build_265 ?_
    refine x_iload C dL_build_266 11 rfl ?_
    refine x_imul C dL_build_268 ?_
    refine x_v (y := nI (3 * k)) (pk_mul 3 k) ?_
    refine x_iload C dL_build_269 0 rfl ?_
    refine x_aload_n C dL_build_271 rfl 4 rfl ?_
    refine x_iconst C (1 : Int32) (by decide) dL_build_272 ?_
    refine x_iald C sh_87 (vp_in_nI (n := 1) (by omega) (by decide)) dL_build_273 ?_
    rw [show (1 : Int32).toNatClampNeg = 1 from nI_clamp (n := 1) (by omega)]
    refine x_v (y := nI nc) (by simp [xw, hc228_3]) ?_
    refine x_callS C [.int y, .int (nI nc)] (c_L_below l V hV τ y (nI nc) hnz) (va_cwS 2 C.2.2.2.2.1 gL_build_L_below rfl rfl rfl (by decide +kernel) ⟨Nat.le_of_ble_eq_true rfl, Nat.le_of_ble_eq_true rfl⟩) rfl rfl (Nat.le_of_ble_eq_true rfl) dL_build_274 ⟨Nat.le_of_ble_eq_true rfl, Nat.le_of_ble_eq_true rfl⟩ (x_kI ?_)
    obtain ⟨a, ha, ea⟩ := below_at y (n := nc) (by omega) (by omega)
    refine x_v (y := nI a) ea ?_
    refine x_iast C sh_90 (vp_in_nI (n := 3 * k) (by omega) (by decide)) dL_build_277 ?_
    rw [show (nI (3 * k)).toNatClampNeg = 3 * k from nI_clamp (n := 3 * k) (by omega)]
    refine x_aload C dL_build_278 7 rfl ?_
    refine x_iconst C (3 : Int32) (by decide) dL_build_280 ?_
    refine x_iload C dL_build_281 11 rfl ?_
    refine x_imul C dL_build_283 ?_
    refine x_v (y := nI (3 * k)) (pk_mul 3 k) ?_
    refine x_iconst C (1 : Int32) (by decide) dL_build_284 ?_
    refine x_iadd C dL_build_285 ?_
    refine x_v (y := nI ((3 * k) + 1)) (nI_add (3 * k) 1) ?_
    refine x_iload C dL_build_286 0 rfl ?_
    refine x_iconst C (2 : Int32) (by decide) dL_build_288 ?_
    refine x_ishr C dL_build_289 ?_
    refine x_aload_n C dL_build_290 rfl 4 rfl ?_
    refine x_iconst C (1 : Int32) (by decide) dL_build_291 ?_
    refine x_iald C sh_87 (vp_in_nI (n := 1) (by omega) (by decide)) dL_build_292 ?_
    rw [show (1 : Int32).toNatClampNeg = 1 from nI_clamp (n := 1) (by omega)]
    refine x_v (y := nI nc) (by simp [xw, hc228_3]) ?_
    refine x_callS C [.int (y >>> ((2 : Int32) &&& 31)), .int (nI nc)] (c_L_below l V hV (xw τ 90 (3 * k) (nI a)) (y >>> ((2 : Int32) &&& 31)) (nI nc) hnz) (va_cwS 2 C.2.2.2.2.1 gL_build_L_below rfl rfl rfl (by decide +kernel) ⟨Nat.le_of_ble_eq_true rfl, Nat.le_of_ble_eq_true rfl⟩) rfl rfl (Nat.le_of_ble_eq_true rfl) dL_build_293 ⟨Nat.le_of_ble_eq_true rfl, Nat.le_of_ble_eq_true rfl⟩ (x_kI ?_)
    obtain ⟨f, hf, ef⟩ := below_at (y >>> ((2 : Int32) &&& 31)) (n := nc) (by omega) (by omega)
    refine x_v (y := nI f) ef ?_
    refine x_iast C sh_90 (vp_in_nI (n := (3 * k) + 1) (by omega) (by decide)) dL_build_296 ?_
    rw [show (nI ((3 * k) + 1)).toNatClampNeg = (3 * k) + 1 from nI_clamp (n := (3 * k) + 1) (by omega)]
    refine x_aload C dL_build_297 7 rfl ?_
    refine x_iconst C (3 : Int32) (by decide) dL_build_299 ?_
    refine x_iload C dL_build_300 11 rfl ?_
    refine x_imul C dL_build_302 ?_
    refine x_v (y := nI (3 * k)) (pk_mul 3 k) ?_
    refine x_iconst C (2 : Int32) (by decide) dL_build_303 ?_
    refine x_iadd C dL_build_304 ?_
    refine x_v (y := nI ((3 * k) + 2)) (nI_add (3 * k) 2) ?_
    refine x_iload C dL_build_305 0 rfl ?_
    refine x_iconst C (4 : Int32) (by decide) dL_build_307 ?_
    refine x_ishr C dL_build_308 ?_
    refine x_callS C [.int (y >>> ((4 : Int32) &&& 31))] (c_L_condition l V hV (xw (xw τ 90 (3 * k) (nI a)) 90 ((3 * k) + 1) (nI f)) (y >>> ((4 : Int32) &&& 31))) (va_cwS 1 C.2.2.2.2.1 gL_build_L_condition rfl rfl rfl (by decide +kernel) ⟨Nat.le_of_ble_eq_true rfl, Nat.le_of_ble_eq_true rfl⟩) rfl rfl (Nat.le_of_ble_eq_true rfl) dL_build_309 ⟨Nat.le_of_ble_eq_true rfl, Nat.le_of_ble_eq_true rfl⟩ (x_kI ?_)
    obtain ⟨x, hx, ex⟩ : ∃ z_, GC z_ ∧ condI (y >>> ((4 : Int32) &&& 31)) = z_ := ⟨_, cond_GC _, rfl⟩
    refine x_v (y := x) ex ?_
    refine x_iast C sh_90 (vp_in_nI (n := (3 * k) + 2) (by omega) (by decide)) dL_build_312 ?_
    rw [show (nI ((3 * k) + 2)).toNatClampNeg = (3 * k) + 2 from nI_clamp (n := (3 * k) + 2) (by omega)]
    refine x_aload_n C dL_build_313 rfl 1 rfl ?_
    refine x_aload C dL_build_314 7 rfl ?_
    refine x_iconst C (3 : Int32) (by decide) dL_build_316 ?_
    refine x_iload C dL_build_317 11 rfl ?_
    refine x_imul C dL_build_319 ?_
    refine x_v (y := nI (3 * k)) (pk_mul 3 k) ?_
    refine x_iald C sh_90 (vp_in_nI (n := 3 * k) (by omega) (by decide)) dL_build_320 ?_
    rw [show (nI (3 * k)).toNatClampNeg = 3 * k from nI_clamp (n := 3 * k) (by omega)]
    refine x_v (y := nI a) (by simp [xw]) ?_
    refine x_aload C dL_build_321 7 rfl ?_
    refine x_iconst C (3 : Int32) (by decide) dL_build_323 ?_
    refine x_iload C dL_build_324 11 rfl ?_
    refine x_imul C dL_build_326 ?_
    refine x_v (y := nI (3 * k)) (pk_mul 3 k) ?_
    refine x_iconst C (1 : Int32) (by decide) dL_build_327 ?_
    refine x_iadd C dL_build_328 ?_
    refine x_v (y := nI ((3 * k) + 1)) (nI_add (3 * k) 1) ?_
    refine x_iald C sh_90 (vp_in_nI (n := (3 * k) + 1) (by omega) (by decide)) dL_build_329 ?_
    rw [show (nI ((3 * k) + 1)).toNatClampNeg = (3 * k) + 1 from nI_clamp (n := (3 * k) + 1) (by omega)]
    refine x_v (y := nI f) (by simp [xw]) ?_
    refine x_aload C dL_build_330 7 rfl ?_
    refine x_iconst C (3 : Int32) (by decide) dL_build_332 ?_
    refine x_iload C dL_build_333 11 rfl ?_
    refine x_imul C dL_build_335 ?_
    refine x_v (y := nI (3 * k)) (pk_mul 3 k) ?_
    refine x_iconst C (2 : Int32) (by decide) dL_build_336 ?_
    refine x_iadd C dL_build_337 ?_
    refine x_v (y := nI ((3 * k) + 2)) (nI_add (3 * k) 2) ?_
    refine x_iald C sh_90 (vp_in_nI (n := (3 * k) + 2) (by omega) (by decide)) dL_build_338 ?_
    rw [show (nI ((3 * k) + 2)).toNatClampNeg = (3 * k) + 2 from nI_clamp (n := (3 * k) + 2) (by omega)]
    refine x_v (y := x) (by simp [xw]) ?_
    refine x_bipush C (16 : Int32) (by decide) dL_build_339 ?_
    refine x_idiv C (by decide) dL_build_341 ?_
    refine x_aload C dL_build_342 7 rfl ?_
    refine x_iconst C (3 : Int32) (by decide) dL_build_344 ?_
    refine x_iload C dL_build_345 11 rfl ?_
    refine x_imul C dL_build_347 ?_
    refine x_v (y := nI (3 * k)) (pk_mul 3 k) ?_
    refine x_iconst C (2 : Int32) (by decide) dL_build_348 ?_
    refine x_iadd C dL_build_349 ?_
    refine x_v (y := nI ((3 * k) + 2)) (nI_add (3 * k) 2) ?_
    refine x_iald C sh_90 (vp_in_nI (n := (3 * k) + 2) (by omega) (by decide)) dL_build_350 ?_
    rw [show (nI ((3 * k) + 2)).toNatClampNeg = (3 * k) + 2 from nI_clamp (n := (3 * k) + 2) (by omega)]
    refine x_v (y := x) (by simp [xw]) ?_
    refine x_bipush C (16 : Int32) (by decide) dL_build_351 ?_
    refine x_irem C (by decide) dL_build_353 ?_
    refine x_v (y := offO x) (rfl) ?_
    have va := vp_in_nI ha (show nc < 2 ^ 31 by omega)
    have vf := vp_in_nI hf (show nc < 2 ^ 31 by omega)
    have hB2 := BI.link (σ := τ) hc228_1 (by omega) va vf hx
    refine x_callV C sh_0 (by decide) rfl [.int (nI a), .int (nI f), .int (x / (16 : Int32)), .int (offO x)] (c_X8_addLink l V hV (xw (xw (xw τ 90 (3 * k) (nI a)) 90 ((3 * k) + 1) (nI f)) 90 ((3 * k) + 2) x) (nI a) (nI f) (x / (16 : Int32)) (offO x) (kLink_0 (c := nc) (n := k) (by simp [xw]; exact hc228_1.2.1.1.1) (by omega) (by simp [xw]; exact hc228_1.2.2.1.1.1) (by omega) va vf hx)) (cwV 4 C.2.2.2.2.1 gL_build_X8_addLink rfl rfl rfl (by decide +kernel) ⟨Nat.le_of_ble_eq_true rfl, Nat.le_of_ble_eq_true rfl⟩) rfl rfl (Nat.le_of_ble_eq_true rfl) dL_build_354 ⟨Nat.le_of_ble_eq_true rfl, Nat.le_of_ble_eq_true rfl⟩ (x_kI ?_)
    refine x_v (y := nI k) (by simp [xw]; exact hc228_1.2.2.1.1.1) ?_
    refine x_iload C dL_build_357 11 rfl ?_
    refine x_icmp_eq C 364 dL_build_359 rfl (fun h2 => ?_) (fun h2 => absurd h2 (fun q => q rfl))
    refine x_iinc C (q := 11) ((nI k) + (1 : Int32)) [(10, .int ((nI k) + (1 : Int32))), (11, .int y), (0, ra V 0), (1, .ref b), (2, .int (0 : Int32)), (3, ra V 87), (4, ra V 88), (5, ra V 89), (6, ra V 90), (7, ra V 91), (8, ra V 92), (9, ra V 93)] dL_build_364 rfl rfl (by decide) rfl ?_
    refine x_goto C 228 dL_build_367 rfl ?_
    refine x_lv [2, 3, 4, 5, 6, 7, 8, 9, 10, 11, 0] [(0, ra V 0), (1, .ref b), (2, .int (0 : Int32)), (3, ra V 87), (4, ra V 88), (5, ra V 89), (6, ra V 90), (7, ra V 91), (8, ra V 92), (9, ra V 93), (10, .int ((nI k) + (1 : Int32)))] rfl ?_
    exact ih228 _ _ _ (by omega) ⟨k + 1, rfl, by rw [nI_succ], (by omega), hB2, by rw [Rl_dif _ _ _ _ _ 87 (by decide), xw_ne (r := 90) (a := 87) _ _ _ (by decide), xw_ne (r := 90) (a := 87) _ _ _ (by decide), xw_ne (r := 90) (a := 87) _ _ _ (by decide)]; exact hc228_2, by rw [Rl_dif _ _ _ _ _ 87 (by decide), xw_ne (r := 90) (a := 87) _ _ _ (by decide), xw_ne (r := 90) (a := 87) _ _ _ (by decide), xw_ne (r := 90) (a := 87) _ _ _ (by decide)]; exact hc228_3, by rw [Rl_dif _ _ _ _ _ 87 (by decide), xw_ne (r := 90) (a := 87) _ _ _ (by decide), xw_ne (r := 90) (a := 87) _ _ _ (by decide), xw_ne (r := 90) (a := 87) _ _ _ (by decide)]; exact hc228_4⟩


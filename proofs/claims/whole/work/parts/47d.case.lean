set_option maxHeartbeats 4000000 in
set_option maxRecDepth 100000 in
theorem L_count {p : Program} {l : Launch} {e : Env} {s : State} {m : MethodId} {args : Array Value} {below : List Frame} {meth : Method} {c : Code} {V : xV} {A : Nat → Prop} {cells slots : Nat} {Q : State → Prop} {lo b L i : Nat} {xs : Nat → Int32} {gg : Nat → Int64} {σ : xS} (hlst : l.stackTraces = false) (C : XC p s m args c cL_law 9 RL wsL_law V [oc V lo gg] A) (hV : xInj V) (hO : ∀ k, k < 108 → xad V k ≠ lo) (hA : ∀ q, inO V lo q → A q) (hT : xT s) (hZ : xZ A s s.heap) (hX : va_X b L xs s s.heap) (hbl : b < s.heap.size) (hbA : ¬ A b) (hL : L < 2 ^ 31) (hi : 8 * i + 8 ≤ L) (hcs : cells + 1 ≤ room_1.cells ∧ slots + 6 ≤ room_1.slots) (h : Sm σ) (J : ∀ σ' g', Sm σ' → X p l e room_1 s m args below meth c V [oc V lo g'] A 9 (cells + 1) (slots + 6) Q σ' 1977 [(0, .ref b), (1, ra V 0), (2, ra V 87), (3, .ref lo), (4, .int (nI (8 * i)))] []) : X p l e room_1 s m args below meth c V [oc V lo gg] A 9 cells slots Q σ 1304 [(0, .ref b), (1, ra V 0), (2, ra V 87), (3, .ref lo), (4, .int (nI (8 * i)))] [] := by
  refine x_aload_n C dL_law_1304 rfl 1 rfl ?_
  refine x_arefn C dL_law_1305 rfl 0 rfl ?_
  refine x_iload C dL_law_1306 4 rfl ?_
  refine x_iconst C (1 : Int32) (by decide) dL_law_1308 ?_
  refine x_iadd C dL_law_1309 ?_
  refine x_sld C hX hbl hbA (8 * i + 1) (nI_add (8 * i) 1) (by omega) hL dL_law_1310 ?_
  refine x_arefn C dL_law_1311 rfl 3 rfl ?_
  refine x_callW C hT hZ hA [ra V 0, .int (xs (8 * i + 1)), .ref lo] (c_L_count l hlst V hV lo hO σ gg (xs (8 * i + 1))) (vx_cwSW 3 C.2.2.2.2.1 gL_law_L_count rfl rfl rfl (by decide +kernel) ⟨Nat.le_of_ble_eq_true rfl, Nat.le_of_ble_eq_true rfl⟩) rfl rfl (Nat.le_of_ble_eq_true rfl) dL_law_1312 hcs (fun v σ' g' hR => ?_)
  obtain ⟨rfl, hσ, hg, hne⟩ := hR
  have C1 := XC_oc C hV hO hA g'
  by_cases hk : kCnt (xs (8 * i + 1)) = 0
  · rw [if_pos hk] at hσ
    rw [hσ]
    have sp := (st_count h (xs (8 * i + 1))).1 hk
    refine x_v (y := (0 : Int32)) (by rw [hk, nI_0]) ?_
    refine x_istore C1 [(5, .int (0 : Int32)), (0, .ref b), (1, ra V 0), (2, ra V 87), (3, .ref lo), (4, .int (nI (8 * i)))] dL_law_1315 (by decide) rfl ?_
    refine x_aload_n C1 dL_law_1317 rfl 3 rfl ?_
    refine x_arefn C1 dL_law_1318 rfl 1 rfl ?_
    refine x_iload C1 dL_law_1319 5 rfl ?_
    refine x_iconst C1 (1 : Int32) (by decide) dL_law_1321 ?_
    refine x_iadd C1 dL_law_1322 ?_
    refine x_sld C1 hX hbl hbA (8 * i + 1) (nI_add (8 * i) 1) (by omega) hL dL_law_1323 ?_
    refine x_callV C1 sh_87 (by decide) rfl [.int (xs (8 * i + 1))] (c_X9_count l V hV σ (xs (8 * i + 1)) (mV_E (em_count) h.1.V)) (cwV 1 C1.2.2.2.2.1 gL_law_X9_count rfl rfl rfl (by decide +kernel) ⟨Nat.le_of_ble_eq_true rfl, Nat.le_of_ble_eq_true rfl⟩) rfl rfl (Nat.le_of_ble_eq_true rfl) dL_law_1324 ⟨hcs.1, hcs.2⟩ (x_kC (fun y u h1 h2 => ?_))
    obtain ⟨rfl, rfl⟩ := h1 sp.1
    refine x_nm (fun yv hyv => ?_)
    refine x_istore C1 [(6, .int yv), (5, .int (0 : Int32)), (0, .ref b), (1, ra V 0), (2, ra V 87), (3, .ref lo), (4, .int (nI (8 * i)))] dL_law_1327 (by decide) rfl ?_
    refine x_aload_n C1 dL_law_1329 rfl 4 rfl ?_
    refine x_callV C1 sh_87 (by decide) rfl [] (c_X9_thrown l V hV _) (cwV 0 C1.2.2.2.2.1 gL_law_X9_thrown rfl rfl rfl (by decide +kernel) ⟨Nat.le_of_ble_eq_true rfl, Nat.le_of_ble_eq_true rfl⟩) rfl rfl (Nat.le_of_ble_eq_true rfl) dL_law_1330 ⟨hcs.1, hcs.2⟩ (x_kI ?_)
    refine x_v (y := (0 : Int32)) sp.2.1 ?_
    refine x_iload C1 dL_law_1333 1 rfl ?_
    refine x_icmp_eq C1 1340 dL_law_1335 rfl (fun _ => ?_) (fun hq => absurd rfl hq)
    refine x_iload C1 dL_law_1340 1 rfl ?_
    refine x_if_ne C1 1357 dL_law_1342 rfl (fun hq => absurd rfl hq) (fun _ => ?_)
    refine x_arefn C1 dL_law_1345 rfl 5 rfl ?_
    refine x_iconst C1 (0 : Int32) (by decide) dL_law_1346 ?_
    refine x_lald C1 dL_law_1347 ?_
    refine x_iload C1 dL_law_1348 0 rfl ?_
    have hg0 := (hg hk).trans (congrArg Int32.toInt64 (sp.2.2.1.trans hyv.symm))
    refine x_i2l C1 dL_law_1350 ?_
    refine x_lcmp C1 dL_law_1351 ?_
    refine x_v (y := (0 : Int32)) (by rw [hg0]; exact lg_cmp_s _) ?_
    refine x_if_eq C1 1357 dL_law_1352 rfl (fun _ => ?_) (fun hq => absurd rfl hq)
    refine x_goto C1 1977 dL_law_1357 rfl ?_
    refine x_lv [2, 3, 4, 5, 6] [(0, .ref b), (1, ra V 0), (2, ra V 87), (3, .ref lo), (4, .int (nI (8 * i)))] rfl ?_
    exact J _ g' sp.2.2.2
  · rw [if_neg hk] at hσ
    rw [hσ]
    have sp := (st_count h (xs (8 * i + 1))).2 hk
    refine x_istore C1 [(5, .int (nI (kCnt (xs (8 * i + 1))))), (0, .ref b), (1, ra V 0), (2, ra V 87), (3, .ref lo), (4, .int (nI (8 * i)))] dL_law_1315 (by decide) rfl ?_
    refine x_aload_n C1 dL_law_1317 rfl 3 rfl ?_
    refine x_arefn C1 dL_law_1318 rfl 1 rfl ?_
    refine x_iload C1 dL_law_1319 5 rfl ?_
    refine x_iconst C1 (1 : Int32) (by decide) dL_law_1321 ?_
    refine x_iadd C1 dL_law_1322 ?_
    refine x_sld C1 hX hbl hbA (8 * i + 1) (nI_add (8 * i) 1) (by omega) hL dL_law_1323 ?_
    refine x_callV C1 sh_87 (by decide) rfl [.int (xs (8 * i + 1))] (c_X9_count l V hV (σ) (xs (8 * i + 1)) (mV_E (em_rf) h.1.V)) (cwV 1 C1.2.2.2.2.1 gL_law_X9_count rfl rfl rfl (by decide +kernel) ⟨Nat.le_of_ble_eq_true rfl, Nat.le_of_ble_eq_true rfl⟩) rfl rfl (Nat.le_of_ble_eq_true rfl) dL_law_1324 ⟨hcs.1, hcs.2⟩ (x_kC (fun y u h1 h2 => ?_))
    have hu := h2 (by rw [sp.1]; exact hk)
    rw [sp.1] at hu
    subst hu
    refine x_nm (fun yv hyv => ?_)
    refine x_istore C1 [(6, .int yv), (5, .int (nI (kCnt (xs (8 * i + 1))))), (0, .ref b), (1, ra V 0), (2, ra V 87), (3, .ref lo), (4, .int (nI (8 * i)))] dL_law_1327 (by decide) rfl ?_
    refine x_aload_n C1 dL_law_1329 rfl 4 rfl ?_
    refine x_callV C1 sh_87 (by decide) rfl [] (c_X9_thrown l V hV _) (cwV 0 C1.2.2.2.2.1 gL_law_X9_thrown rfl rfl rfl (by decide +kernel) ⟨Nat.le_of_ble_eq_true rfl, Nat.le_of_ble_eq_true rfl⟩) rfl rfl (Nat.le_of_ble_eq_true rfl) dL_law_1330 ⟨hcs.1, hcs.2⟩ (x_kI ?_)
    refine x_v (y := (nI (kCnt (xs (8 * i + 1))))) (xw_at _ _ _ _) ?_
    refine x_iload C1 dL_law_1333 1 rfl ?_
    refine x_icmp_eq C1 1340 dL_law_1335 rfl (fun _ => ?_) (fun hq => absurd rfl hq)
    refine x_iload C1 dL_law_1340 1 rfl ?_
    refine x_if_ne C1 1357 dL_law_1342 rfl (fun _ => ?_) (fun hq => absurd hq (hne hk))
    refine x_goto C1 1977 dL_law_1357 rfl ?_
    refine x_lv [2, 3, 4, 5, 6] [(0, .ref b), (1, ra V 0), (2, ra V 87), (3, .ref lo), (4, .int (nI (8 * i)))] rfl ?_
    exact J _ g' sp.2
set_option maxHeartbeats 4000000 in
set_option maxRecDepth 100000 in
theorem L_presence {p : Program} {l : Launch} {e : Env} {s : State} {m : MethodId} {args : Array Value} {below : List Frame} {meth : Method} {c : Code} {V : xV} {A : Nat → Prop} {cells slots : Nat} {Q : State → Prop} {lo b L i : Nat} {xs : Nat → Int32} {gg : Nat → Int64} {σ : xS} (hlst : l.stackTraces = false) (C : XC p s m args c cL_law 9 RL wsL_law V [oc V lo gg] A) (hV : xInj V) (hO : ∀ k, k < 108 → xad V k ≠ lo) (hA : ∀ q, inO V lo q → A q) (hT : xT s) (hZ : xZ A s s.heap) (hX : va_X b L xs s s.heap) (hbl : b < s.heap.size) (hbA : ¬ A b) (hL : L < 2 ^ 31) (hi : 8 * i + 8 ≤ L) (hcs : cells + 1 ≤ room_1.cells ∧ slots + 6 ≤ room_1.slots) (h : Sm σ) (J : ∀ σ' g', Sm σ' → X p l e room_1 s m args below meth c V [oc V lo g'] A 9 (cells + 1) (slots + 6) Q σ' 1977 [(0, .ref b), (1, ra V 0), (2, ra V 87), (3, .ref lo), (4, .int (nI (8 * i)))] []) : X p l e room_1 s m args below meth c V [oc V lo gg] A 9 cells slots Q σ 1360 [(0, .ref b), (1, ra V 0), (2, ra V 87), (3, .ref lo), (4, .int (nI (8 * i)))] [] := by
  refine x_aload_n C dL_law_1360 rfl 1 rfl ?_
  refine x_arefn C dL_law_1361 rfl 0 rfl ?_
  refine x_iload C dL_law_1362 4 rfl ?_
  refine x_iconst C (1 : Int32) (by decide) dL_law_1364 ?_
  refine x_iadd C dL_law_1365 ?_
  refine x_sld C hX hbl hbA (8 * i + 1) (nI_add (8 * i) 1) (by omega) hL dL_law_1366 ?_
  refine x_arefn C dL_law_1367 rfl 0 rfl ?_
  refine x_iload C dL_law_1368 4 rfl ?_
  refine x_iconst C (2 : Int32) (by decide) dL_law_1370 ?_
  refine x_iadd C dL_law_1371 ?_
  refine x_sld C hX hbl hbA (8 * i + 2) (nI_add (8 * i) 2) (by omega) hL dL_law_1372 ?_
  refine x_arefn C dL_law_1373 rfl 3 rfl ?_
  refine x_callW C hT hZ hA [ra V 0, .int (xs (8 * i + 1)), .int (xs (8 * i + 2)), .ref lo] (c_L_presence l hlst V hV lo hO σ gg (xs (8 * i + 1)) (xs (8 * i + 2))) (vx_cwSW 4 C.2.2.2.2.1 gL_law_L_presence rfl rfl rfl (by decide +kernel) ⟨Nat.le_of_ble_eq_true rfl, Nat.le_of_ble_eq_true rfl⟩) rfl rfl (Nat.le_of_ble_eq_true rfl) dL_law_1374 hcs (fun v σ' g' hR => ?_)
  obtain ⟨rfl, hσ, hg, hne⟩ := hR
  have C1 := XC_oc C hV hO hA g'
  by_cases hk : kPres σ (xs (8 * i + 1)) (xs (8 * i + 2)) = 0
  · rw [if_pos hk] at hσ
    rw [hσ]
    have sp := (st_presence h (xs (8 * i + 1)) (xs (8 * i + 2))).1 hk
    refine x_v (y := (0 : Int32)) (by rw [hk, nI_0]) ?_
    refine x_istore C1 [(5, .int (0 : Int32)), (0, .ref b), (1, ra V 0), (2, ra V 87), (3, .ref lo), (4, .int (nI (8 * i)))] dL_law_1377 (by decide) rfl ?_
    refine x_aload_n C1 dL_law_1379 rfl 3 rfl ?_
    refine x_arefn C1 dL_law_1380 rfl 1 rfl ?_
    refine x_iload C1 dL_law_1381 5 rfl ?_
    refine x_iconst C1 (1 : Int32) (by decide) dL_law_1383 ?_
    refine x_iadd C1 dL_law_1384 ?_
    refine x_sld C1 hX hbl hbA (8 * i + 1) (nI_add (8 * i) 1) (by omega) hL dL_law_1385 ?_
    refine x_arefn C1 dL_law_1386 rfl 1 rfl ?_
    refine x_iload C1 dL_law_1387 5 rfl ?_
    refine x_iconst C1 (2 : Int32) (by decide) dL_law_1389 ?_
    refine x_iadd C1 dL_law_1390 ?_
    refine x_sld C1 hX hbl hbA (8 * i + 2) (nI_add (8 * i) 2) (by omega) hL dL_law_1391 ?_
    refine x_callV C1 sh_87 (by decide) rfl [.int (xs (8 * i + 1)), .int (xs (8 * i + 2))] (c_X9_presence l V hV σ (xs (8 * i + 1)) (xs (8 * i + 2)) (mV_E (em_presence) h.1.V)) (cwV 2 C1.2.2.2.2.1 gL_law_X9_presence rfl rfl rfl (by decide +kernel) ⟨Nat.le_of_ble_eq_true rfl, Nat.le_of_ble_eq_true rfl⟩) rfl rfl (Nat.le_of_ble_eq_true rfl) dL_law_1392 ⟨hcs.1, hcs.2⟩ (x_kC (fun y u h1 h2 => ?_))
    obtain ⟨rfl, rfl⟩ := h1 sp.1
    refine x_nm (fun yv hyv => ?_)
    refine x_istore C1 [(6, .int yv), (5, .int (0 : Int32)), (0, .ref b), (1, ra V 0), (2, ra V 87), (3, .ref lo), (4, .int (nI (8 * i)))] dL_law_1395 (by decide) rfl ?_
    refine x_aload_n C1 dL_law_1397 rfl 4 rfl ?_
    refine x_callV C1 sh_87 (by decide) rfl [] (c_X9_thrown l V hV _) (cwV 0 C1.2.2.2.2.1 gL_law_X9_thrown rfl rfl rfl (by decide +kernel) ⟨Nat.le_of_ble_eq_true rfl, Nat.le_of_ble_eq_true rfl⟩) rfl rfl (Nat.le_of_ble_eq_true rfl) dL_law_1398 ⟨hcs.1, hcs.2⟩ (x_kI ?_)
    refine x_v (y := (0 : Int32)) sp.2.1 ?_
    refine x_iload C1 dL_law_1401 1 rfl ?_
    refine x_icmp_eq C1 1408 dL_law_1403 rfl (fun _ => ?_) (fun hq => absurd rfl hq)
    refine x_iload C1 dL_law_1408 1 rfl ?_
    refine x_if_ne C1 1425 dL_law_1410 rfl (fun hq => absurd rfl hq) (fun _ => ?_)
    refine x_arefn C1 dL_law_1413 rfl 5 rfl ?_
    refine x_iconst C1 (0 : Int32) (by decide) dL_law_1414 ?_
    refine x_lald C1 dL_law_1415 ?_
    refine x_iload C1 dL_law_1416 0 rfl ?_
    have hg0 := (hg hk).trans (congrArg Int32.toInt64 (sp.2.2.1.trans hyv.symm))
    refine x_i2l C1 dL_law_1418 ?_
    refine x_lcmp C1 dL_law_1419 ?_
    refine x_v (y := (0 : Int32)) (by rw [hg0]; exact lg_cmp_s _) ?_
    refine x_if_eq C1 1425 dL_law_1420 rfl (fun _ => ?_) (fun hq => absurd rfl hq)
    refine x_goto C1 1977 dL_law_1425 rfl ?_
    refine x_lv [2, 3, 4, 5, 6] [(0, .ref b), (1, ra V 0), (2, ra V 87), (3, .ref lo), (4, .int (nI (8 * i)))] rfl ?_
    exact J _ g' sp.2.2.2
  · rw [if_neg hk] at hσ
    rw [hσ]
    have sp := (st_presence h (xs (8 * i + 1)) (xs (8 * i + 2))).2 hk
    refine x_istore C1 [(5, .int (nI (kPres σ (xs (8 * i + 1)) (xs (8 * i + 2))))), (0, .ref b), (1, ra V 0), (2, ra V 87), (3, .ref lo), (4, .int (nI (8 * i)))] dL_law_1377 (by decide) rfl ?_
    refine x_aload_n C1 dL_law_1379 rfl 3 rfl ?_
    refine x_arefn C1 dL_law_1380 rfl 1 rfl ?_
    refine x_iload C1 dL_law_1381 5 rfl ?_
    refine x_iconst C1 (1 : Int32) (by decide) dL_law_1383 ?_
    refine x_iadd C1 dL_law_1384 ?_
    refine x_sld C1 hX hbl hbA (8 * i + 1) (nI_add (8 * i) 1) (by omega) hL dL_law_1385 ?_
    refine x_arefn C1 dL_law_1386 rfl 1 rfl ?_
    refine x_iload C1 dL_law_1387 5 rfl ?_
    refine x_iconst C1 (2 : Int32) (by decide) dL_law_1389 ?_
    refine x_iadd C1 dL_law_1390 ?_
    refine x_sld C1 hX hbl hbA (8 * i + 2) (nI_add (8 * i) 2) (by omega) hL dL_law_1391 ?_
    refine x_callV C1 sh_87 (by decide) rfl [.int (xs (8 * i + 1)), .int (xs (8 * i + 2))] (c_X9_presence l V hV (σ) (xs (8 * i + 1)) (xs (8 * i + 2)) (mV_E (em_rf) h.1.V)) (cwV 2 C1.2.2.2.2.1 gL_law_X9_presence rfl rfl rfl (by decide +kernel) ⟨Nat.le_of_ble_eq_true rfl, Nat.le_of_ble_eq_true rfl⟩) rfl rfl (Nat.le_of_ble_eq_true rfl) dL_law_1392 ⟨hcs.1, hcs.2⟩ (x_kC (fun y u h1 h2 => ?_))
    have hu := h2 (by rw [sp.1]; exact hk)
    rw [sp.1] at hu
    subst hu
    refine x_nm (fun yv hyv => ?_)
    refine x_istore C1 [(6, .int yv), (5, .int (nI (kPres σ (xs (8 * i + 1)) (xs (8 * i + 2))))), (0, .ref b), (1, ra V 0), (2, ra V 87), (3, .ref lo), (4, .int (nI (8 * i)))] dL_law_1395 (by decide) rfl ?_
    refine x_aload_n C1 dL_law_1397 rfl 4 rfl ?_
    refine x_callV C1 sh_87 (by decide) rfl [] (c_X9_thrown l V hV _) (cwV 0 C1.2.2.2.2.1 gL_law_X9_thrown rfl rfl rfl (by decide +kernel) ⟨Nat.le_of_ble_eq_true rfl, Nat.le_of_ble_eq_true rfl⟩) rfl rfl (Nat.le_of_ble_eq_true rfl) dL_law_1398 ⟨hcs.1, hcs.2⟩ (x_kI ?_)
    refine x_v (y := (nI (kPres σ (xs (8 * i + 1)) (xs (8 * i + 2))))) (xw_at _ _ _ _) ?_
    refine x_iload C1 dL_law_1401 1 rfl ?_
    refine x_icmp_eq C1 1408 dL_law_1403 rfl (fun _ => ?_) (fun hq => absurd rfl hq)
    refine x_iload C1 dL_law_1408 1 rfl ?_
    refine x_if_ne C1 1425 dL_law_1410 rfl (fun _ => ?_) (fun hq => absurd hq (hne hk))
    refine x_goto C1 1977 dL_law_1425 rfl ?_
    refine x_lv [2, 3, 4, 5, 6] [(0, .ref b), (1, ra V 0), (2, ra V 87), (3, .ref lo), (4, .int (nI (8 * i)))] rfl ?_
    exact J _ g' sp.2
set_option maxHeartbeats 4000000 in
set_option maxRecDepth 100000 in
theorem L_parent {p : Program} {l : Launch} {e : Env} {s : State} {m : MethodId} {args : Array Value} {below : List Frame} {meth : Method} {c : Code} {V : xV} {A : Nat → Prop} {cells slots : Nat} {Q : State → Prop} {lo b L i : Nat} {xs : Nat → Int32} {gg : Nat → Int64} {σ : xS} (hlst : l.stackTraces = false) (C : XC p s m args c cL_law 9 RL wsL_law V [oc V lo gg] A) (hV : xInj V) (hO : ∀ k, k < 108 → xad V k ≠ lo) (hA : ∀ q, inO V lo q → A q) (hT : xT s) (hZ : xZ A s s.heap) (hX : va_X b L xs s s.heap) (hbl : b < s.heap.size) (hbA : ¬ A b) (hL : L < 2 ^ 31) (hi : 8 * i + 8 ≤ L) (hcs : cells + 1 ≤ room_1.cells ∧ slots + 6 ≤ room_1.slots) (h : Sm σ) (J : ∀ σ' g', Sm σ' → X p l e room_1 s m args below meth c V [oc V lo g'] A 9 (cells + 1) (slots + 6) Q σ' 1977 [(0, .ref b), (1, ra V 0), (2, ra V 87), (3, .ref lo), (4, .int (nI (8 * i)))] []) : X p l e room_1 s m args below meth c V [oc V lo gg] A 9 cells slots Q σ 1428 [(0, .ref b), (1, ra V 0), (2, ra V 87), (3, .ref lo), (4, .int (nI (8 * i)))] [] := by
  have hz202 := Sm_z2 h
  have hz203 := Sm_z3 h
  refine x_aload_n C dL_law_1428 rfl 1 rfl ?_
  refine x_arefn C dL_law_1429 rfl 0 rfl ?_
  refine x_iload C dL_law_1430 4 rfl ?_
  refine x_iconst C (1 : Int32) (by decide) dL_law_1432 ?_
  refine x_iadd C dL_law_1433 ?_
  refine x_sld C hX hbl hbA (8 * i + 1) (nI_add (8 * i) 1) (by omega) hL dL_law_1434 ?_
  refine x_arefn C dL_law_1435 rfl 0 rfl ?_
  refine x_iload C dL_law_1436 4 rfl ?_
  refine x_iconst C (2 : Int32) (by decide) dL_law_1438 ?_
  refine x_iadd C dL_law_1439 ?_
  refine x_sld C hX hbl hbA (8 * i + 2) (nI_add (8 * i) 2) (by omega) hL dL_law_1440 ?_
  refine x_arefn C dL_law_1441 rfl 3 rfl ?_
  refine x_callW C hT hZ hA [ra V 0, .int (xs (8 * i + 1)), .int (xs (8 * i + 2)), .ref lo] (c_L_parent l hlst V hV lo hO σ gg (xs (8 * i + 1)) (xs (8 * i + 2)) hz202 hz203) (vx_cwSW 4 C.2.2.2.2.1 gL_law_L_parent rfl rfl rfl (by decide +kernel) ⟨Nat.le_of_ble_eq_true rfl, Nat.le_of_ble_eq_true rfl⟩) rfl rfl (Nat.le_of_ble_eq_true rfl) dL_law_1442 hcs (fun v σ' g' hR => ?_)
  obtain ⟨rfl, hσ, hg, hne⟩ := hR
  have C1 := XC_oc C hV hO hA g'
  by_cases hk : kPar σ (xs (8 * i + 1)) (xs (8 * i + 2)) = 0
  · rw [if_pos hk] at hσ
    rw [hσ]
    have sp := (st_parent h (xs (8 * i + 1)) (xs (8 * i + 2))).1 hk
    refine x_v (y := (0 : Int32)) (by rw [hk, nI_0]) ?_
    refine x_istore C1 [(5, .int (0 : Int32)), (0, .ref b), (1, ra V 0), (2, ra V 87), (3, .ref lo), (4, .int (nI (8 * i)))] dL_law_1445 (by decide) rfl ?_
    refine x_aload_n C1 dL_law_1447 rfl 3 rfl ?_
    refine x_arefn C1 dL_law_1448 rfl 1 rfl ?_
    refine x_iload C1 dL_law_1449 5 rfl ?_
    refine x_iconst C1 (1 : Int32) (by decide) dL_law_1451 ?_
    refine x_iadd C1 dL_law_1452 ?_
    refine x_sld C1 hX hbl hbA (8 * i + 1) (nI_add (8 * i) 1) (by omega) hL dL_law_1453 ?_
    refine x_arefn C1 dL_law_1454 rfl 1 rfl ?_
    refine x_iload C1 dL_law_1455 5 rfl ?_
    refine x_iconst C1 (2 : Int32) (by decide) dL_law_1457 ?_
    refine x_iadd C1 dL_law_1458 ?_
    refine x_sld C1 hX hbl hbA (8 * i + 2) (nI_add (8 * i) 2) (by omega) hL dL_law_1459 ?_
    refine x_callV C1 sh_87 (by decide) rfl [.int (xs (8 * i + 1)), .int (xs (8 * i + 2))] (c_X9_parent l V hV (look σ (xs (8 * i + 2))) (xs (8 * i + 1)) (xs (8 * i + 2)) (mV_E (em_parent) h.1.V)) (cwV 2 C1.2.2.2.2.1 gL_law_X9_parent rfl rfl rfl (by decide +kernel) ⟨Nat.le_of_ble_eq_true rfl, Nat.le_of_ble_eq_true rfl⟩) rfl rfl (Nat.le_of_ble_eq_true rfl) dL_law_1460 ⟨hcs.1, hcs.2⟩ (x_kC (fun y u h1 h2 => ?_))
    obtain ⟨rfl, rfl⟩ := h1 sp.1
    refine x_nm (fun yv hyv => ?_)
    refine x_istore C1 [(6, .int yv), (5, .int (0 : Int32)), (0, .ref b), (1, ra V 0), (2, ra V 87), (3, .ref lo), (4, .int (nI (8 * i)))] dL_law_1463 (by decide) rfl ?_
    refine x_aload_n C1 dL_law_1465 rfl 4 rfl ?_
    refine x_callV C1 sh_87 (by decide) rfl [] (c_X9_thrown l V hV _) (cwV 0 C1.2.2.2.2.1 gL_law_X9_thrown rfl rfl rfl (by decide +kernel) ⟨Nat.le_of_ble_eq_true rfl, Nat.le_of_ble_eq_true rfl⟩) rfl rfl (Nat.le_of_ble_eq_true rfl) dL_law_1466 ⟨hcs.1, hcs.2⟩ (x_kI ?_)
    refine x_v (y := (0 : Int32)) sp.2.1 ?_
    refine x_iload C1 dL_law_1469 1 rfl ?_
    refine x_icmp_eq C1 1476 dL_law_1471 rfl (fun _ => ?_) (fun hq => absurd rfl hq)
    refine x_iload C1 dL_law_1476 1 rfl ?_
    refine x_if_ne C1 1493 dL_law_1478 rfl (fun hq => absurd rfl hq) (fun _ => ?_)
    refine x_arefn C1 dL_law_1481 rfl 5 rfl ?_
    refine x_iconst C1 (0 : Int32) (by decide) dL_law_1482 ?_
    refine x_lald C1 dL_law_1483 ?_
    refine x_iload C1 dL_law_1484 0 rfl ?_
    have hg0 := (hg hk).trans (congrArg Int32.toInt64 (sp.2.2.1.trans hyv.symm))
    refine x_i2l C1 dL_law_1486 ?_
    refine x_lcmp C1 dL_law_1487 ?_
    refine x_v (y := (0 : Int32)) (by rw [hg0]; exact lg_cmp_s _) ?_
    refine x_if_eq C1 1493 dL_law_1488 rfl (fun _ => ?_) (fun hq => absurd rfl hq)
    refine x_goto C1 1977 dL_law_1493 rfl ?_
    refine x_lv [2, 3, 4, 5, 6] [(0, .ref b), (1, ra V 0), (2, ra V 87), (3, .ref lo), (4, .int (nI (8 * i)))] rfl ?_
    exact J _ g' sp.2.2.2
  · rw [if_neg hk] at hσ
    rw [hσ]
    have sp := (st_parent h (xs (8 * i + 1)) (xs (8 * i + 2))).2 hk
    refine x_istore C1 [(5, .int (nI (kPar σ (xs (8 * i + 1)) (xs (8 * i + 2))))), (0, .ref b), (1, ra V 0), (2, ra V 87), (3, .ref lo), (4, .int (nI (8 * i)))] dL_law_1445 (by decide) rfl ?_
    refine x_aload_n C1 dL_law_1447 rfl 3 rfl ?_
    refine x_arefn C1 dL_law_1448 rfl 1 rfl ?_
    refine x_iload C1 dL_law_1449 5 rfl ?_
    refine x_iconst C1 (1 : Int32) (by decide) dL_law_1451 ?_
    refine x_iadd C1 dL_law_1452 ?_
    refine x_sld C1 hX hbl hbA (8 * i + 1) (nI_add (8 * i) 1) (by omega) hL dL_law_1453 ?_
    refine x_arefn C1 dL_law_1454 rfl 1 rfl ?_
    refine x_iload C1 dL_law_1455 5 rfl ?_
    refine x_iconst C1 (2 : Int32) (by decide) dL_law_1457 ?_
    refine x_iadd C1 dL_law_1458 ?_
    refine x_sld C1 hX hbl hbA (8 * i + 2) (nI_add (8 * i) 2) (by omega) hL dL_law_1459 ?_
    refine x_callV C1 sh_87 (by decide) rfl [.int (xs (8 * i + 1)), .int (xs (8 * i + 2))] (c_X9_parent l V hV (σ) (xs (8 * i + 1)) (xs (8 * i + 2)) (mV_E (em_rf) h.1.V)) (cwV 2 C1.2.2.2.2.1 gL_law_X9_parent rfl rfl rfl (by decide +kernel) ⟨Nat.le_of_ble_eq_true rfl, Nat.le_of_ble_eq_true rfl⟩) rfl rfl (Nat.le_of_ble_eq_true rfl) dL_law_1460 ⟨hcs.1, hcs.2⟩ (x_kC (fun y u h1 h2 => ?_))
    have hu := h2 (by rw [sp.1]; exact hk)
    rw [sp.1] at hu
    subst hu
    refine x_nm (fun yv hyv => ?_)
    refine x_istore C1 [(6, .int yv), (5, .int (nI (kPar σ (xs (8 * i + 1)) (xs (8 * i + 2))))), (0, .ref b), (1, ra V 0), (2, ra V 87), (3, .ref lo), (4, .int (nI (8 * i)))] dL_law_1463 (by decide) rfl ?_
    refine x_aload_n C1 dL_law_1465 rfl 4 rfl ?_
    refine x_callV C1 sh_87 (by decide) rfl [] (c_X9_thrown l V hV _) (cwV 0 C1.2.2.2.2.1 gL_law_X9_thrown rfl rfl rfl (by decide +kernel) ⟨Nat.le_of_ble_eq_true rfl, Nat.le_of_ble_eq_true rfl⟩) rfl rfl (Nat.le_of_ble_eq_true rfl) dL_law_1466 ⟨hcs.1, hcs.2⟩ (x_kI ?_)
    refine x_v (y := (nI (kPar σ (xs (8 * i + 1)) (xs (8 * i + 2))))) (xw_at _ _ _ _) ?_
    refine x_iload C1 dL_law_1469 1 rfl ?_
    refine x_icmp_eq C1 1476 dL_law_1471 rfl (fun _ => ?_) (fun hq => absurd rfl hq)
    refine x_iload C1 dL_law_1476 1 rfl ?_
    refine x_if_ne C1 1493 dL_law_1478 rfl (fun _ => ?_) (fun hq => absurd hq (hne hk))
    refine x_goto C1 1977 dL_law_1493 rfl ?_
    refine x_lv [2, 3, 4, 5, 6] [(0, .ref b), (1, ra V 0), (2, ra V 87), (3, .ref lo), (4, .int (nI (8 * i)))] rfl ?_
    exact J _ g' sp.2
set_option maxHeartbeats 4000000 in
set_option maxRecDepth 100000 in
theorem L_isBelow {p : Program} {l : Launch} {e : Env} {s : State} {m : MethodId} {args : Array Value} {below : List Frame} {meth : Method} {c : Code} {V : xV} {A : Nat → Prop} {cells slots : Nat} {Q : State → Prop} {lo b L i : Nat} {xs : Nat → Int32} {gg : Nat → Int64} {σ : xS} (hlst : l.stackTraces = false) (C : XC p s m args c cL_law 9 RL wsL_law V [oc V lo gg] A) (hV : xInj V) (hO : ∀ k, k < 108 → xad V k ≠ lo) (hA : ∀ q, inO V lo q → A q) (hT : xT s) (hZ : xZ A s s.heap) (hX : va_X b L xs s s.heap) (hbl : b < s.heap.size) (hbA : ¬ A b) (hL : L < 2 ^ 31) (hi : 8 * i + 8 ≤ L) (hcs : cells + 1 ≤ room_1.cells ∧ slots + 6 ≤ room_1.slots) (h : Sm σ) (J : ∀ σ' g', Sm σ' → X p l e room_1 s m args below meth c V [oc V lo g'] A 9 (cells + 1) (slots + 6) Q σ' 1977 [(0, .ref b), (1, ra V 0), (2, ra V 87), (3, .ref lo), (4, .int (nI (8 * i)))] []) : X p l e room_1 s m args below meth c V [oc V lo gg] A 9 cells slots Q σ 1496 [(0, .ref b), (1, ra V 0), (2, ra V 87), (3, .ref lo), (4, .int (nI (8 * i)))] [] := by
  have hz202 := Sm_z2 h
  have hz203 := Sm_z3 h
  refine x_aload_n C dL_law_1496 rfl 1 rfl ?_
  refine x_arefn C dL_law_1497 rfl 0 rfl ?_
  refine x_iload C dL_law_1498 4 rfl ?_
  refine x_iconst C (1 : Int32) (by decide) dL_law_1500 ?_
  refine x_iadd C dL_law_1501 ?_
  refine x_sld C hX hbl hbA (8 * i + 1) (nI_add (8 * i) 1) (by omega) hL dL_law_1502 ?_
  refine x_arefn C dL_law_1503 rfl 0 rfl ?_
  refine x_iload C dL_law_1504 4 rfl ?_
  refine x_iconst C (2 : Int32) (by decide) dL_law_1506 ?_
  refine x_iadd C dL_law_1507 ?_
  refine x_sld C hX hbl hbA (8 * i + 2) (nI_add (8 * i) 2) (by omega) hL dL_law_1508 ?_
  refine x_arefn C dL_law_1509 rfl 0 rfl ?_
  refine x_iload C dL_law_1510 4 rfl ?_
  refine x_iconst C (3 : Int32) (by decide) dL_law_1512 ?_
  refine x_iadd C dL_law_1513 ?_
  refine x_sld C hX hbl hbA (8 * i + 3) (nI_add (8 * i) 3) (by omega) hL dL_law_1514 ?_
  refine x_arefn C dL_law_1515 rfl 3 rfl ?_
  refine x_callW C hT hZ hA [ra V 0, .int (xs (8 * i + 1)), .int (xs (8 * i + 2)), .int (xs (8 * i + 3)), .ref lo] (c_L_isBelow l hlst V hV lo hO σ gg (xs (8 * i + 1)) (xs (8 * i + 2)) (xs (8 * i + 3)) hz202 hz203) (vx_cwSW 5 C.2.2.2.2.1 gL_law_L_isBelow rfl rfl rfl (by decide +kernel) ⟨Nat.le_of_ble_eq_true rfl, Nat.le_of_ble_eq_true rfl⟩) rfl rfl (Nat.le_of_ble_eq_true rfl) dL_law_1516 hcs (fun v σ' g' hR => ?_)
  obtain ⟨rfl, hσ, hg, hne⟩ := hR
  have C1 := XC_oc C hV hO hA g'
  by_cases hk : kBel σ (xs (8 * i + 1)) (xs (8 * i + 2)) (xs (8 * i + 3)) = 0
  · rw [if_pos hk] at hσ
    rw [hσ]
    have sp := (st_isBelow h (xs (8 * i + 1)) (xs (8 * i + 2)) (xs (8 * i + 3))).1 hk
    refine x_v (y := (0 : Int32)) (by rw [hk, nI_0]) ?_
    refine x_istore C1 [(5, .int (0 : Int32)), (0, .ref b), (1, ra V 0), (2, ra V 87), (3, .ref lo), (4, .int (nI (8 * i)))] dL_law_1519 (by decide) rfl ?_
    refine x_aload_n C1 dL_law_1521 rfl 3 rfl ?_
    refine x_arefn C1 dL_law_1522 rfl 1 rfl ?_
    refine x_iload C1 dL_law_1523 5 rfl ?_
    refine x_iconst C1 (1 : Int32) (by decide) dL_law_1525 ?_
    refine x_iadd C1 dL_law_1526 ?_
    refine x_sld C1 hX hbl hbA (8 * i + 1) (nI_add (8 * i) 1) (by omega) hL dL_law_1527 ?_
    refine x_arefn C1 dL_law_1528 rfl 1 rfl ?_
    refine x_iload C1 dL_law_1529 5 rfl ?_
    refine x_iconst C1 (2 : Int32) (by decide) dL_law_1531 ?_
    refine x_iadd C1 dL_law_1532 ?_
    refine x_sld C1 hX hbl hbA (8 * i + 2) (nI_add (8 * i) 2) (by omega) hL dL_law_1533 ?_
    refine x_arefn C1 dL_law_1534 rfl 1 rfl ?_
    refine x_iload C1 dL_law_1535 5 rfl ?_
    refine x_iconst C1 (3 : Int32) (by decide) dL_law_1537 ?_
    refine x_iadd C1 dL_law_1538 ?_
    refine x_sld C1 hX hbl hbA (8 * i + 3) (nI_add (8 * i) 3) (by omega) hL dL_law_1539 ?_
    refine x_callV C1 sh_87 (by decide) rfl [.int (xs (8 * i + 1)), .int (xs (8 * i + 2)), .int (xs (8 * i + 3))] (c_X9_isBelow l V hV (look σ (xs (8 * i + 3))) (xs (8 * i + 1)) (xs (8 * i + 2)) (xs (8 * i + 3)) (mV_E (em_isBelow) h.1.V)) (cwV 3 C1.2.2.2.2.1 gL_law_X9_isBelow rfl rfl rfl (by decide +kernel) ⟨Nat.le_of_ble_eq_true rfl, Nat.le_of_ble_eq_true rfl⟩) rfl rfl (Nat.le_of_ble_eq_true rfl) dL_law_1540 ⟨hcs.1, hcs.2⟩ (x_kCZ (fun y u h1 h2 => ?_))
    obtain ⟨rfl, rfl⟩ := h1 sp.1
    refine x_nm (fun yv hyv => ?_)
    refine x_istore C1 [(6, .int yv), (5, .int (0 : Int32)), (0, .ref b), (1, ra V 0), (2, ra V 87), (3, .ref lo), (4, .int (nI (8 * i)))] dL_law_1543 (by decide) rfl ?_
    refine x_aload_n C1 dL_law_1545 rfl 4 rfl ?_
    refine x_callV C1 sh_87 (by decide) rfl [] (c_X9_thrown l V hV _) (cwV 0 C1.2.2.2.2.1 gL_law_X9_thrown rfl rfl rfl (by decide +kernel) ⟨Nat.le_of_ble_eq_true rfl, Nat.le_of_ble_eq_true rfl⟩) rfl rfl (Nat.le_of_ble_eq_true rfl) dL_law_1546 ⟨hcs.1, hcs.2⟩ (x_kI ?_)
    refine x_v (y := (0 : Int32)) sp.2.1 ?_
    refine x_iload C1 dL_law_1549 1 rfl ?_
    refine x_icmp_eq C1 1556 dL_law_1551 rfl (fun _ => ?_) (fun hq => absurd rfl hq)
    refine x_iload C1 dL_law_1556 1 rfl ?_
    refine x_if_ne C1 1580 dL_law_1558 rfl (fun hq => absurd rfl hq) (fun _ => ?_)
    refine x_arefn C1 dL_law_1561 rfl 5 rfl ?_
    refine x_iconst C1 (0 : Int32) (by decide) dL_law_1562 ?_
    refine x_lald C1 dL_law_1563 ?_
    refine x_iload C1 dL_law_1564 0 rfl ?_
    subst hyv
    have hg0 := hg hk
    rw [sp.2.2.1] at hg0
    refine x_bif_eq C1 1573 dL_law_1566 rfl (fun hb => ?_) (fun hb => ?_)
    · refine x_lconst C1 (0 : Int64) rfl dL_law_1573 ?_
      refine x_lcmp C1 dL_law_1574 ?_
      refine x_v (y := (0 : Int32)) (by rw [hg0, if_neg (by rw [hb]; decide)]; exact lg_cmp_s _) ?_
      refine x_if_eq C1 1580 dL_law_1575 rfl (fun _ => ?_) (fun hq => absurd rfl hq)
      refine x_goto C1 1977 dL_law_1580 rfl ?_
      refine x_lv [2, 3, 4, 5, 6] [(0, .ref b), (1, ra V 0), (2, ra V 87), (3, .ref lo), (4, .int (nI (8 * i)))] rfl ?_
      exact J _ g' sp.2.2.2
    · refine x_lconst C1 (1 : Int64) rfl dL_law_1569 ?_
      refine x_goto C1 1574 dL_law_1570 rfl ?_
      refine x_lcmp C1 dL_law_1574 ?_
      refine x_v (y := (0 : Int32)) (by rw [hg0, if_pos hb]; exact lg_cmp_s _) ?_
      refine x_if_eq C1 1580 dL_law_1575 rfl (fun _ => ?_) (fun hq => absurd rfl hq)
      refine x_goto C1 1977 dL_law_1580 rfl ?_
      refine x_lv [2, 3, 4, 5, 6] [(0, .ref b), (1, ra V 0), (2, ra V 87), (3, .ref lo), (4, .int (nI (8 * i)))] rfl ?_
      exact J _ g' sp.2.2.2
  · rw [if_neg hk] at hσ
    rw [hσ]
    have sp := (st_isBelow h (xs (8 * i + 1)) (xs (8 * i + 2)) (xs (8 * i + 3))).2 hk
    refine x_istore C1 [(5, .int (nI (kBel σ (xs (8 * i + 1)) (xs (8 * i + 2)) (xs (8 * i + 3))))), (0, .ref b), (1, ra V 0), (2, ra V 87), (3, .ref lo), (4, .int (nI (8 * i)))] dL_law_1519 (by decide) rfl ?_
    refine x_aload_n C1 dL_law_1521 rfl 3 rfl ?_
    refine x_arefn C1 dL_law_1522 rfl 1 rfl ?_
    refine x_iload C1 dL_law_1523 5 rfl ?_
    refine x_iconst C1 (1 : Int32) (by decide) dL_law_1525 ?_
    refine x_iadd C1 dL_law_1526 ?_
    refine x_sld C1 hX hbl hbA (8 * i + 1) (nI_add (8 * i) 1) (by omega) hL dL_law_1527 ?_
    refine x_arefn C1 dL_law_1528 rfl 1 rfl ?_
    refine x_iload C1 dL_law_1529 5 rfl ?_
    refine x_iconst C1 (2 : Int32) (by decide) dL_law_1531 ?_
    refine x_iadd C1 dL_law_1532 ?_
    refine x_sld C1 hX hbl hbA (8 * i + 2) (nI_add (8 * i) 2) (by omega) hL dL_law_1533 ?_
    refine x_arefn C1 dL_law_1534 rfl 1 rfl ?_
    refine x_iload C1 dL_law_1535 5 rfl ?_
    refine x_iconst C1 (3 : Int32) (by decide) dL_law_1537 ?_
    refine x_iadd C1 dL_law_1538 ?_
    refine x_sld C1 hX hbl hbA (8 * i + 3) (nI_add (8 * i) 3) (by omega) hL dL_law_1539 ?_
    refine x_callV C1 sh_87 (by decide) rfl [.int (xs (8 * i + 1)), .int (xs (8 * i + 2)), .int (xs (8 * i + 3))] (c_X9_isBelow l V hV (σ) (xs (8 * i + 1)) (xs (8 * i + 2)) (xs (8 * i + 3)) (mV_E (em_rf) h.1.V)) (cwV 3 C1.2.2.2.2.1 gL_law_X9_isBelow rfl rfl rfl (by decide +kernel) ⟨Nat.le_of_ble_eq_true rfl, Nat.le_of_ble_eq_true rfl⟩) rfl rfl (Nat.le_of_ble_eq_true rfl) dL_law_1540 ⟨hcs.1, hcs.2⟩ (x_kCZ (fun y u h1 h2 => ?_))
    have hu := h2 (by rw [sp.1]; exact hk)
    rw [sp.1] at hu
    subst hu
    refine x_nm (fun yv hyv => ?_)
    refine x_istore C1 [(6, .int yv), (5, .int (nI (kBel σ (xs (8 * i + 1)) (xs (8 * i + 2)) (xs (8 * i + 3))))), (0, .ref b), (1, ra V 0), (2, ra V 87), (3, .ref lo), (4, .int (nI (8 * i)))] dL_law_1543 (by decide) rfl ?_
    refine x_aload_n C1 dL_law_1545 rfl 4 rfl ?_
    refine x_callV C1 sh_87 (by decide) rfl [] (c_X9_thrown l V hV _) (cwV 0 C1.2.2.2.2.1 gL_law_X9_thrown rfl rfl rfl (by decide +kernel) ⟨Nat.le_of_ble_eq_true rfl, Nat.le_of_ble_eq_true rfl⟩) rfl rfl (Nat.le_of_ble_eq_true rfl) dL_law_1546 ⟨hcs.1, hcs.2⟩ (x_kI ?_)
    refine x_v (y := (nI (kBel σ (xs (8 * i + 1)) (xs (8 * i + 2)) (xs (8 * i + 3))))) (xw_at _ _ _ _) ?_
    refine x_iload C1 dL_law_1549 1 rfl ?_
    refine x_icmp_eq C1 1556 dL_law_1551 rfl (fun _ => ?_) (fun hq => absurd rfl hq)
    refine x_iload C1 dL_law_1556 1 rfl ?_
    refine x_if_ne C1 1580 dL_law_1558 rfl (fun _ => ?_) (fun hq => absurd hq (hne hk))
    refine x_goto C1 1977 dL_law_1580 rfl ?_
    refine x_lv [2, 3, 4, 5, 6] [(0, .ref b), (1, ra V 0), (2, ra V 87), (3, .ref lo), (4, .int (nI (8 * i)))] rfl ?_
    exact J _ g' sp.2
set_option maxHeartbeats 4000000 in
set_option maxRecDepth 100000 in
theorem L_find {p : Program} {l : Launch} {e : Env} {s : State} {m : MethodId} {args : Array Value} {below : List Frame} {meth : Method} {c : Code} {V : xV} {A : Nat → Prop} {cells slots : Nat} {Q : State → Prop} {lo b L i : Nat} {xs : Nat → Int32} {gg : Nat → Int64} {σ : xS} (hlst : l.stackTraces = false) (C : XC p s m args c cL_law 9 RL wsL_law V [oc V lo gg] A) (hV : xInj V) (hO : ∀ k, k < 108 → xad V k ≠ lo) (hA : ∀ q, inO V lo q → A q) (hT : xT s) (hZ : xZ A s s.heap) (hX : va_X b L xs s s.heap) (hbl : b < s.heap.size) (hbA : ¬ A b) (hL : L < 2 ^ 31) (hi : 8 * i + 8 ≤ L) (hcs : cells + 1 ≤ room_1.cells ∧ slots + 6 ≤ room_1.slots) (h : Sm σ) (J : ∀ σ' g', Sm σ' → X p l e room_1 s m args below meth c V [oc V lo g'] A 9 (cells + 1) (slots + 6) Q σ' 1977 [(0, .ref b), (1, ra V 0), (2, ra V 87), (3, .ref lo), (4, .int (nI (8 * i)))] []) : X p l e room_1 s m args below meth c V [oc V lo gg] A 9 cells slots Q σ 1583 [(0, .ref b), (1, ra V 0), (2, ra V 87), (3, .ref lo), (4, .int (nI (8 * i)))] [] := by
  have hz202 := Sm_z2 h
  have hz203 := Sm_z3 h
  refine x_aload_n C dL_law_1583 rfl 1 rfl ?_
  refine x_arefn C dL_law_1584 rfl 0 rfl ?_
  refine x_iload C dL_law_1585 4 rfl ?_
  refine x_iconst C (1 : Int32) (by decide) dL_law_1587 ?_
  refine x_iadd C dL_law_1588 ?_
  refine x_sld C hX hbl hbA (8 * i + 1) (nI_add (8 * i) 1) (by omega) hL dL_law_1589 ?_
  refine x_arefn C dL_law_1590 rfl 0 rfl ?_
  refine x_iload C dL_law_1591 4 rfl ?_
  refine x_iconst C (2 : Int32) (by decide) dL_law_1593 ?_
  refine x_iadd C dL_law_1594 ?_
  refine x_sld C hX hbl hbA (8 * i + 2) (nI_add (8 * i) 2) (by omega) hL dL_law_1595 ?_
  refine x_arefn C dL_law_1596 rfl 0 rfl ?_
  refine x_iload C dL_law_1597 4 rfl ?_
  refine x_iconst C (3 : Int32) (by decide) dL_law_1599 ?_
  refine x_iadd C dL_law_1600 ?_
  refine x_sld C hX hbl hbA (8 * i + 3) (nI_add (8 * i) 3) (by omega) hL dL_law_1601 ?_
  refine x_if_eq C 1609 dL_law_1602 rfl (fun hz => ?_) (fun hz => ?_)
  · refine x_iconst C (0 : Int32) (by decide) dL_law_1609 ?_
    refine x_arefn C dL_law_1610 rfl 0 rfl ?_
    refine x_iload C dL_law_1611 4 rfl ?_
    refine x_iconst C (4 : Int32) (by decide) dL_law_1613 ?_
    refine x_iadd C dL_law_1614 ?_
    refine x_sld C hX hbl hbA (8 * i + 4) (nI_add (8 * i) 4) (by omega) hL dL_law_1615 ?_
    refine x_arefn C dL_law_1616 rfl 3 rfl ?_
    refine x_callW C hT hZ hA [ra V 0, .int (xs (8 * i + 1)), .int (xs (8 * i + 2)), .int (0 : Int32), .int (xs (8 * i + 4)), .ref lo] (c_L_find l hlst V hV lo hO σ gg (xs (8 * i + 1)) (xs (8 * i + 2)) false (xs (8 * i + 4)) hz202 hz203) (vx_cwSW 6 C.2.2.2.2.1 gL_law_L_find rfl rfl rfl (by decide +kernel) ⟨Nat.le_of_ble_eq_true rfl, Nat.le_of_ble_eq_true rfl⟩) rfl rfl (Nat.le_of_ble_eq_true rfl) dL_law_1617 hcs (fun v σ' g' hR => ?_)
    obtain ⟨rfl, hσ, hg, hne⟩ := hR
    have C1 := XC_oc C hV hO hA g'
    by_cases hk : kFind σ (xs (8 * i + 1)) (xs (8 * i + 2)) (xs (8 * i + 4)) = 0
    · rw [if_pos hk] at hσ
      rw [hσ]
      have sp := (st_find h (xs (8 * i + 1)) (xs (8 * i + 2)) false (xs (8 * i + 4))).1 hk
      refine x_v (y := (0 : Int32)) (by rw [hk, nI_0]) ?_
      refine x_istore C1 [(5, .int (0 : Int32)), (0, .ref b), (1, ra V 0), (2, ra V 87), (3, .ref lo), (4, .int (nI (8 * i)))] dL_law_1620 (by decide) rfl ?_
      refine x_aload_n C1 dL_law_1622 rfl 3 rfl ?_
      refine x_arefn C1 dL_law_1623 rfl 1 rfl ?_
      refine x_iload C1 dL_law_1624 5 rfl ?_
      refine x_iconst C1 (1 : Int32) (by decide) dL_law_1626 ?_
      refine x_iadd C1 dL_law_1627 ?_
      refine x_sld C1 hX hbl hbA (8 * i + 1) (nI_add (8 * i) 1) (by omega) hL dL_law_1628 ?_
      refine x_arefn C1 dL_law_1629 rfl 1 rfl ?_
      refine x_iload C1 dL_law_1630 5 rfl ?_
      refine x_iconst C1 (2 : Int32) (by decide) dL_law_1632 ?_
      refine x_iadd C1 dL_law_1633 ?_
      refine x_sld C1 hX hbl hbA (8 * i + 2) (nI_add (8 * i) 2) (by omega) hL dL_law_1634 ?_
      refine x_arefn C1 dL_law_1635 rfl 1 rfl ?_
      refine x_iload C1 dL_law_1636 5 rfl ?_
      refine x_iconst C1 (3 : Int32) (by decide) dL_law_1638 ?_
      refine x_iadd C1 dL_law_1639 ?_
      refine x_sld C1 hX hbl hbA (8 * i + 3) (nI_add (8 * i) 3) (by omega) hL dL_law_1640 ?_
      refine x_if_eq C1 1648 dL_law_1641 rfl (fun _ => ?_) (fun hq => absurd hz hq)
      refine x_iconst C1 (0 : Int32) (by decide) dL_law_1648 ?_
      refine x_arefn C1 dL_law_1649 rfl 1 rfl ?_
      refine x_iload C1 dL_law_1650 5 rfl ?_
      refine x_iconst C1 (4 : Int32) (by decide) dL_law_1652 ?_
      refine x_iadd C1 dL_law_1653 ?_
      refine x_sld C1 hX hbl hbA (8 * i + 4) (nI_add (8 * i) 4) (by omega) hL dL_law_1654 ?_
      refine x_callV C1 sh_87 (by decide) rfl [.int (xs (8 * i + 1)), .int (xs (8 * i + 2)), .int (0 : Int32), .int (xs (8 * i + 4))] (c_X9_find l V hV (look σ (xs (8 * i + 4))) (xs (8 * i + 1)) (xs (8 * i + 2)) false (xs (8 * i + 4)) (mV_E (em_find) h.1.V)) (cwV 4 C1.2.2.2.2.1 gL_law_X9_find rfl rfl rfl (by decide +kernel) ⟨Nat.le_of_ble_eq_true rfl, Nat.le_of_ble_eq_true rfl⟩) rfl rfl (Nat.le_of_ble_eq_true rfl) dL_law_1655 ⟨hcs.1, hcs.2⟩ (x_kC (fun y u h1 h2 => ?_))
      obtain ⟨rfl, rfl⟩ := h1 sp.1
      refine x_nm (fun yv hyv => ?_)
      refine x_istore C1 [(6, .int yv), (5, .int (0 : Int32)), (0, .ref b), (1, ra V 0), (2, ra V 87), (3, .ref lo), (4, .int (nI (8 * i)))] dL_law_1658 (by decide) rfl ?_
      refine x_aload_n C1 dL_law_1660 rfl 4 rfl ?_
      refine x_callV C1 sh_87 (by decide) rfl [] (c_X9_thrown l V hV _) (cwV 0 C1.2.2.2.2.1 gL_law_X9_thrown rfl rfl rfl (by decide +kernel) ⟨Nat.le_of_ble_eq_true rfl, Nat.le_of_ble_eq_true rfl⟩) rfl rfl (Nat.le_of_ble_eq_true rfl) dL_law_1661 ⟨hcs.1, hcs.2⟩ (x_kI ?_)
      refine x_v (y := (0 : Int32)) sp.2.1 ?_
      refine x_iload C1 dL_law_1664 1 rfl ?_
      refine x_icmp_eq C1 1671 dL_law_1666 rfl (fun _ => ?_) (fun hq => absurd rfl hq)
      refine x_iload C1 dL_law_1671 1 rfl ?_
      refine x_if_ne C1 1688 dL_law_1673 rfl (fun hq => absurd rfl hq) (fun _ => ?_)
      refine x_arefn C1 dL_law_1676 rfl 5 rfl ?_
      refine x_iconst C1 (0 : Int32) (by decide) dL_law_1677 ?_
      refine x_lald C1 dL_law_1678 ?_
      refine x_iload C1 dL_law_1679 0 rfl ?_
      have hg0 := (hg hk).trans (congrArg Int32.toInt64 (sp.2.2.1.trans hyv.symm))
      refine x_i2l C1 dL_law_1681 ?_
      refine x_lcmp C1 dL_law_1682 ?_
      refine x_v (y := (0 : Int32)) (by rw [hg0]; exact lg_cmp_s _) ?_
      refine x_if_eq C1 1688 dL_law_1683 rfl (fun _ => ?_) (fun hq => absurd rfl hq)
      refine x_goto C1 1977 dL_law_1688 rfl ?_
      refine x_lv [2, 3, 4, 5, 6] [(0, .ref b), (1, ra V 0), (2, ra V 87), (3, .ref lo), (4, .int (nI (8 * i)))] rfl ?_
      exact J _ g' sp.2.2.2
    · rw [if_neg hk] at hσ
      rw [hσ]
      have sp := (st_find h (xs (8 * i + 1)) (xs (8 * i + 2)) false (xs (8 * i + 4))).2 hk
      refine x_istore C1 [(5, .int (nI (kFind σ (xs (8 * i + 1)) (xs (8 * i + 2)) (xs (8 * i + 4))))), (0, .ref b), (1, ra V 0), (2, ra V 87), (3, .ref lo), (4, .int (nI (8 * i)))] dL_law_1620 (by decide) rfl ?_
      refine x_aload_n C1 dL_law_1622 rfl 3 rfl ?_
      refine x_arefn C1 dL_law_1623 rfl 1 rfl ?_
      refine x_iload C1 dL_law_1624 5 rfl ?_
      refine x_iconst C1 (1 : Int32) (by decide) dL_law_1626 ?_
      refine x_iadd C1 dL_law_1627 ?_
      refine x_sld C1 hX hbl hbA (8 * i + 1) (nI_add (8 * i) 1) (by omega) hL dL_law_1628 ?_
      refine x_arefn C1 dL_law_1629 rfl 1 rfl ?_
      refine x_iload C1 dL_law_1630 5 rfl ?_
      refine x_iconst C1 (2 : Int32) (by decide) dL_law_1632 ?_
      refine x_iadd C1 dL_law_1633 ?_
      refine x_sld C1 hX hbl hbA (8 * i + 2) (nI_add (8 * i) 2) (by omega) hL dL_law_1634 ?_
      refine x_arefn C1 dL_law_1635 rfl 1 rfl ?_
      refine x_iload C1 dL_law_1636 5 rfl ?_
      refine x_iconst C1 (3 : Int32) (by decide) dL_law_1638 ?_
      refine x_iadd C1 dL_law_1639 ?_
      refine x_sld C1 hX hbl hbA (8 * i + 3) (nI_add (8 * i) 3) (by omega) hL dL_law_1640 ?_
      refine x_if_eq C1 1648 dL_law_1641 rfl (fun _ => ?_) (fun hq => absurd hz hq)
      refine x_iconst C1 (0 : Int32) (by decide) dL_law_1648 ?_
      refine x_arefn C1 dL_law_1649 rfl 1 rfl ?_
      refine x_iload C1 dL_law_1650 5 rfl ?_
      refine x_iconst C1 (4 : Int32) (by decide) dL_law_1652 ?_
      refine x_iadd C1 dL_law_1653 ?_
      refine x_sld C1 hX hbl hbA (8 * i + 4) (nI_add (8 * i) 4) (by omega) hL dL_law_1654 ?_
      refine x_callV C1 sh_87 (by decide) rfl [.int (xs (8 * i + 1)), .int (xs (8 * i + 2)), .int (0 : Int32), .int (xs (8 * i + 4))] (c_X9_find l V hV (σ) (xs (8 * i + 1)) (xs (8 * i + 2)) false (xs (8 * i + 4)) (mV_E (em_rf) h.1.V)) (cwV 4 C1.2.2.2.2.1 gL_law_X9_find rfl rfl rfl (by decide +kernel) ⟨Nat.le_of_ble_eq_true rfl, Nat.le_of_ble_eq_true rfl⟩) rfl rfl (Nat.le_of_ble_eq_true rfl) dL_law_1655 ⟨hcs.1, hcs.2⟩ (x_kC (fun y u h1 h2 => ?_))
      have hu := h2 (by rw [sp.1]; exact hk)
      rw [sp.1] at hu
      subst hu
      refine x_nm (fun yv hyv => ?_)
      refine x_istore C1 [(6, .int yv), (5, .int (nI (kFind σ (xs (8 * i + 1)) (xs (8 * i + 2)) (xs (8 * i + 4))))), (0, .ref b), (1, ra V 0), (2, ra V 87), (3, .ref lo), (4, .int (nI (8 * i)))] dL_law_1658 (by decide) rfl ?_
      refine x_aload_n C1 dL_law_1660 rfl 4 rfl ?_
      refine x_callV C1 sh_87 (by decide) rfl [] (c_X9_thrown l V hV _) (cwV 0 C1.2.2.2.2.1 gL_law_X9_thrown rfl rfl rfl (by decide +kernel) ⟨Nat.le_of_ble_eq_true rfl, Nat.le_of_ble_eq_true rfl⟩) rfl rfl (Nat.le_of_ble_eq_true rfl) dL_law_1661 ⟨hcs.1, hcs.2⟩ (x_kI ?_)
      refine x_v (y := (nI (kFind σ (xs (8 * i + 1)) (xs (8 * i + 2)) (xs (8 * i + 4))))) (xw_at _ _ _ _) ?_
      refine x_iload C1 dL_law_1664 1 rfl ?_
      refine x_icmp_eq C1 1671 dL_law_1666 rfl (fun _ => ?_) (fun hq => absurd rfl hq)
      refine x_iload C1 dL_law_1671 1 rfl ?_
      refine x_if_ne C1 1688 dL_law_1673 rfl (fun _ => ?_) (fun hq => absurd hq (hne hk))
      refine x_goto C1 1977 dL_law_1688 rfl ?_
      refine x_lv [2, 3, 4, 5, 6] [(0, .ref b), (1, ra V 0), (2, ra V 87), (3, .ref lo), (4, .int (nI (8 * i)))] rfl ?_
      exact J _ g' sp.2
  · refine x_iconst C (1 : Int32) (by decide) dL_law_1605 ?_
    refine x_goto C 1610 dL_law_1606 rfl ?_
    refine x_arefn C dL_law_1610 rfl 0 rfl ?_
    refine x_iload C dL_law_1611 4 rfl ?_
    refine x_iconst C (4 : Int32) (by decide) dL_law_1613 ?_
    refine x_iadd C dL_law_1614 ?_
    refine x_sld C hX hbl hbA (8 * i + 4) (nI_add (8 * i) 4) (by omega) hL dL_law_1615 ?_
    refine x_arefn C dL_law_1616 rfl 3 rfl ?_
    refine x_callW C hT hZ hA [ra V 0, .int (xs (8 * i + 1)), .int (xs (8 * i + 2)), .int (1 : Int32), .int (xs (8 * i + 4)), .ref lo] (c_L_find l hlst V hV lo hO σ gg (xs (8 * i + 1)) (xs (8 * i + 2)) true (xs (8 * i + 4)) hz202 hz203) (vx_cwSW 6 C.2.2.2.2.1 gL_law_L_find rfl rfl rfl (by decide +kernel) ⟨Nat.le_of_ble_eq_true rfl, Nat.le_of_ble_eq_true rfl⟩) rfl rfl (Nat.le_of_ble_eq_true rfl) dL_law_1617 hcs (fun v σ' g' hR => ?_)
    obtain ⟨rfl, hσ, hg, hne⟩ := hR
    have C1 := XC_oc C hV hO hA g'
    by_cases hk : kFind σ (xs (8 * i + 1)) (xs (8 * i + 2)) (xs (8 * i + 4)) = 0
    · rw [if_pos hk] at hσ
      rw [hσ]
      have sp := (st_find h (xs (8 * i + 1)) (xs (8 * i + 2)) true (xs (8 * i + 4))).1 hk
      refine x_v (y := (0 : Int32)) (by rw [hk, nI_0]) ?_
      refine x_istore C1 [(5, .int (0 : Int32)), (0, .ref b), (1, ra V 0), (2, ra V 87), (3, .ref lo), (4, .int (nI (8 * i)))] dL_law_1620 (by decide) rfl ?_
      refine x_aload_n C1 dL_law_1622 rfl 3 rfl ?_
      refine x_arefn C1 dL_law_1623 rfl 1 rfl ?_
      refine x_iload C1 dL_law_1624 5 rfl ?_
      refine x_iconst C1 (1 : Int32) (by decide) dL_law_1626 ?_
      refine x_iadd C1 dL_law_1627 ?_
      refine x_sld C1 hX hbl hbA (8 * i + 1) (nI_add (8 * i) 1) (by omega) hL dL_law_1628 ?_
      refine x_arefn C1 dL_law_1629 rfl 1 rfl ?_
      refine x_iload C1 dL_law_1630 5 rfl ?_
      refine x_iconst C1 (2 : Int32) (by decide) dL_law_1632 ?_
      refine x_iadd C1 dL_law_1633 ?_
      refine x_sld C1 hX hbl hbA (8 * i + 2) (nI_add (8 * i) 2) (by omega) hL dL_law_1634 ?_
      refine x_arefn C1 dL_law_1635 rfl 1 rfl ?_
      refine x_iload C1 dL_law_1636 5 rfl ?_
      refine x_iconst C1 (3 : Int32) (by decide) dL_law_1638 ?_
      refine x_iadd C1 dL_law_1639 ?_
      refine x_sld C1 hX hbl hbA (8 * i + 3) (nI_add (8 * i) 3) (by omega) hL dL_law_1640 ?_
      refine x_if_eq C1 1648 dL_law_1641 rfl (fun hq => absurd hq hz) (fun _ => ?_)
      refine x_iconst C1 (1 : Int32) (by decide) dL_law_1644 ?_
      refine x_goto C1 1649 dL_law_1645 rfl ?_
      refine x_arefn C1 dL_law_1649 rfl 1 rfl ?_
      refine x_iload C1 dL_law_1650 5 rfl ?_
      refine x_iconst C1 (4 : Int32) (by decide) dL_law_1652 ?_
      refine x_iadd C1 dL_law_1653 ?_
      refine x_sld C1 hX hbl hbA (8 * i + 4) (nI_add (8 * i) 4) (by omega) hL dL_law_1654 ?_
      refine x_callV C1 sh_87 (by decide) rfl [.int (xs (8 * i + 1)), .int (xs (8 * i + 2)), .int (1 : Int32), .int (xs (8 * i + 4))] (c_X9_find l V hV (look σ (xs (8 * i + 4))) (xs (8 * i + 1)) (xs (8 * i + 2)) true (xs (8 * i + 4)) (mV_E (em_find) h.1.V)) (cwV 4 C1.2.2.2.2.1 gL_law_X9_find rfl rfl rfl (by decide +kernel) ⟨Nat.le_of_ble_eq_true rfl, Nat.le_of_ble_eq_true rfl⟩) rfl rfl (Nat.le_of_ble_eq_true rfl) dL_law_1655 ⟨hcs.1, hcs.2⟩ (x_kC (fun y u h1 h2 => ?_))
      obtain ⟨rfl, rfl⟩ := h1 sp.1
      refine x_nm (fun yv hyv => ?_)
      refine x_istore C1 [(6, .int yv), (5, .int (0 : Int32)), (0, .ref b), (1, ra V 0), (2, ra V 87), (3, .ref lo), (4, .int (nI (8 * i)))] dL_law_1658 (by decide) rfl ?_
      refine x_aload_n C1 dL_law_1660 rfl 4 rfl ?_
      refine x_callV C1 sh_87 (by decide) rfl [] (c_X9_thrown l V hV _) (cwV 0 C1.2.2.2.2.1 gL_law_X9_thrown rfl rfl rfl (by decide +kernel) ⟨Nat.le_of_ble_eq_true rfl, Nat.le_of_ble_eq_true rfl⟩) rfl rfl (Nat.le_of_ble_eq_true rfl) dL_law_1661 ⟨hcs.1, hcs.2⟩ (x_kI ?_)
      refine x_v (y := (0 : Int32)) sp.2.1 ?_
      refine x_iload C1 dL_law_1664 1 rfl ?_
      refine x_icmp_eq C1 1671 dL_law_1666 rfl (fun _ => ?_) (fun hq => absurd rfl hq)
      refine x_iload C1 dL_law_1671 1 rfl ?_
      refine x_if_ne C1 1688 dL_law_1673 rfl (fun hq => absurd rfl hq) (fun _ => ?_)
      refine x_arefn C1 dL_law_1676 rfl 5 rfl ?_
      refine x_iconst C1 (0 : Int32) (by decide) dL_law_1677 ?_
      refine x_lald C1 dL_law_1678 ?_
      refine x_iload C1 dL_law_1679 0 rfl ?_
      have hg0 := (hg hk).trans (congrArg Int32.toInt64 (sp.2.2.1.trans hyv.symm))
      refine x_i2l C1 dL_law_1681 ?_
      refine x_lcmp C1 dL_law_1682 ?_
      refine x_v (y := (0 : Int32)) (by rw [hg0]; exact lg_cmp_s _) ?_
      refine x_if_eq C1 1688 dL_law_1683 rfl (fun _ => ?_) (fun hq => absurd rfl hq)
      refine x_goto C1 1977 dL_law_1688 rfl ?_
      refine x_lv [2, 3, 4, 5, 6] [(0, .ref b), (1, ra V 0), (2, ra V 87), (3, .ref lo), (4, .int (nI (8 * i)))] rfl ?_
      exact J _ g' sp.2.2.2
    · rw [if_neg hk] at hσ
      rw [hσ]
      have sp := (st_find h (xs (8 * i + 1)) (xs (8 * i + 2)) true (xs (8 * i + 4))).2 hk
      refine x_istore C1 [(5, .int (nI (kFind σ (xs (8 * i + 1)) (xs (8 * i + 2)) (xs (8 * i + 4))))), (0, .ref b), (1, ra V 0), (2, ra V 87), (3, .ref lo), (4, .int (nI (8 * i)))] dL_law_1620 (by decide) rfl ?_
      refine x_aload_n C1 dL_law_1622 rfl 3 rfl ?_
      refine x_arefn C1 dL_law_1623 rfl 1 rfl ?_
      refine x_iload C1 dL_law_1624 5 rfl ?_
      refine x_iconst C1 (1 : Int32) (by decide) dL_law_1626 ?_
      refine x_iadd C1 dL_law_1627 ?_
      refine x_sld C1 hX hbl hbA (8 * i + 1) (nI_add (8 * i) 1) (by omega) hL dL_law_1628 ?_
      refine x_arefn C1 dL_law_1629 rfl 1 rfl ?_
      refine x_iload C1 dL_law_1630 5 rfl ?_
      refine x_iconst C1 (2 : Int32) (by decide) dL_law_1632 ?_
      refine x_iadd C1 dL_law_1633 ?_
      refine x_sld C1 hX hbl hbA (8 * i + 2) (nI_add (8 * i) 2) (by omega) hL dL_law_1634 ?_
      refine x_arefn C1 dL_law_1635 rfl 1 rfl ?_
      refine x_iload C1 dL_law_1636 5 rfl ?_
      refine x_iconst C1 (3 : Int32) (by decide) dL_law_1638 ?_
      refine x_iadd C1 dL_law_1639 ?_
      refine x_sld C1 hX hbl hbA (8 * i + 3) (nI_add (8 * i) 3) (by omega) hL dL_law_1640 ?_
      refine x_if_eq C1 1648 dL_law_1641 rfl (fun hq => absurd hq hz) (fun _ => ?_)
      refine x_iconst C1 (1 : Int32) (by decide) dL_law_1644 ?_
      refine x_goto C1 1649 dL_law_1645 rfl ?_
      refine x_arefn C1 dL_law_1649 rfl 1 rfl ?_
      refine x_iload C1 dL_law_1650 5 rfl ?_
      refine x_iconst C1 (4 : Int32) (by decide) dL_law_1652 ?_
      refine x_iadd C1 dL_law_1653 ?_
      refine x_sld C1 hX hbl hbA (8 * i + 4) (nI_add (8 * i) 4) (by omega) hL dL_law_1654 ?_
      refine x_callV C1 sh_87 (by decide) rfl [.int (xs (8 * i + 1)), .int (xs (8 * i + 2)), .int (1 : Int32), .int (xs (8 * i + 4))] (c_X9_find l V hV (σ) (xs (8 * i + 1)) (xs (8 * i + 2)) true (xs (8 * i + 4)) (mV_E (em_rf) h.1.V)) (cwV 4 C1.2.2.2.2.1 gL_law_X9_find rfl rfl rfl (by decide +kernel) ⟨Nat.le_of_ble_eq_true rfl, Nat.le_of_ble_eq_true rfl⟩) rfl rfl (Nat.le_of_ble_eq_true rfl) dL_law_1655 ⟨hcs.1, hcs.2⟩ (x_kC (fun y u h1 h2 => ?_))
      have hu := h2 (by rw [sp.1]; exact hk)
      rw [sp.1] at hu
      subst hu
      refine x_nm (fun yv hyv => ?_)
      refine x_istore C1 [(6, .int yv), (5, .int (nI (kFind σ (xs (8 * i + 1)) (xs (8 * i + 2)) (xs (8 * i + 4))))), (0, .ref b), (1, ra V 0), (2, ra V 87), (3, .ref lo), (4, .int (nI (8 * i)))] dL_law_1658 (by decide) rfl ?_
      refine x_aload_n C1 dL_law_1660 rfl 4 rfl ?_
      refine x_callV C1 sh_87 (by decide) rfl [] (c_X9_thrown l V hV _) (cwV 0 C1.2.2.2.2.1 gL_law_X9_thrown rfl rfl rfl (by decide +kernel) ⟨Nat.le_of_ble_eq_true rfl, Nat.le_of_ble_eq_true rfl⟩) rfl rfl (Nat.le_of_ble_eq_true rfl) dL_law_1661 ⟨hcs.1, hcs.2⟩ (x_kI ?_)
      refine x_v (y := (nI (kFind σ (xs (8 * i + 1)) (xs (8 * i + 2)) (xs (8 * i + 4))))) (xw_at _ _ _ _) ?_
      refine x_iload C1 dL_law_1664 1 rfl ?_
      refine x_icmp_eq C1 1671 dL_law_1666 rfl (fun _ => ?_) (fun hq => absurd rfl hq)
      refine x_iload C1 dL_law_1671 1 rfl ?_
      refine x_if_ne C1 1688 dL_law_1673 rfl (fun _ => ?_) (fun hq => absurd hq (hne hk))
      refine x_goto C1 1977 dL_law_1688 rfl ?_
      refine x_lv [2, 3, 4, 5, 6] [(0, .ref b), (1, ra V 0), (2, ra V 87), (3, .ref lo), (4, .int (nI (8 * i)))] rfl ?_
      exact J _ g' sp.2

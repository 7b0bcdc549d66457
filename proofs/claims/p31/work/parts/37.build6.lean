def BD (u : xS) : Prop := ∃ nr nc nl nm ne nx, BI nr nc nl nm ne nx u ∧ u 87 0 = nI nr ∧ u 87 1 = nI nc ∧ u 87 2 = nI nl ∧ u 87 3 = nI nm ∧ u 87 4 = nI ne ∧ u 87 5 = nI nx
set_option maxHeartbeats 4000000 in
set_option maxRecDepth 100000 in
theorem B_end {p : Program} {l : Launch} {e : Env} {s : State} {m : MethodId} {args : Array Value} {below : List Frame} {meth : Method} {c : Code} {V : xV} {Q : State → Prop} {b L : Nat} {xs : Nat → Int32} (C : XC p s m args c cL_build 20 RL wsL_build V [] (inR V)) (hV : xInj V) (hX : va_X b L xs s s.heap) (hbl : b < s.heap.size) (hbV : ¬ inR V b) (hL : L < 2 ^ 31) {σ : xS} {nr nc nl nm ne nx : Nat} (hr : meth.sig.returnType = (some .boolean)) (hlk : meth.locks = false) (hB : BI nr nc nl nm ne nx σ) (k0 : σ 87 0 = nI nr) (k1 : σ 87 1 = nI nc) (k2 : σ 87 2 = nI nl) (k3 : σ 87 3 = nI nm) (k4 : σ 87 4 = nI ne) (k5 : σ 87 5 = nI nx) : X p l e (headSpec wsL_build rmB).room s m args below meth c V [] (inR V) 20 0 0 (MQ below (xOut V (fun v u => v = some (.int (bI true)) ∧ BD u)) args s 0 0 (inR V)) σ 1431 [(0, ra V 0), (1, .ref b), (2, .int (0 : Int32)), (3, ra V 87), (4, ra V 88), (5, ra V 89), (6, ra V 90), (7, ra V 91), (8, ra V 92), (9, ra V 93)] [] := by
  have hbA : ¬ inR V b := hbV
  refine x_iconst C (0 : Int32) (by decide) dL_build_1431 ?_
  refine x_istore C [(11, .int (0 : Int32)), (0, ra V 0), (1, .ref b), (2, .int (0 : Int32)), (3, ra V 87), (4, ra V 88), (5, ra V 89), (6, ra V 90), (7, ra V 91), (8, ra V 92), (9, ra V 93)] dL_build_1432 (by decide) rfl ?_
  refine x_iload C dL_build_1434 0 rfl ?_
  refine x_iconst C (5 : Int32) (by decide) dL_build_1436 ?_
  refine x_icmp_ge C 1483 dL_build_1437 rfl (fun h1 => absurd h1 (by decide)) (fun h1 => ?_)
  refine x_aload_n C dL_build_1440 rfl 1 rfl ?_
  refine x_iload C dL_build_1441 0 rfl ?_
  refine x_callV C sh_0 (by decide) rfl [.int (0 : Int32)] (c_X8_count l V hV σ (0 : Int32) (by decide)) (cwV 1 C.2.2.2.2.1 gL_build_X8_count rfl rfl rfl (by decide +kernel) ⟨Nat.le_of_ble_eq_true rfl, Nat.le_of_ble_eq_true rfl⟩) rfl rfl (Nat.le_of_ble_eq_true rfl) dL_build_1443 ⟨Nat.le_of_ble_eq_true rfl, Nat.le_of_ble_eq_true rfl⟩ (x_kI ?_)
  refine x_v (y := nI nc) (hB.2.1.1.1) ?_
  refine x_aload_n C dL_build_1446 rfl 4 rfl ?_
  refine x_iload C dL_build_1447 0 rfl ?_
  refine x_iconst C (4 : Int32) (by decide) dL_build_1449 ?_
  refine x_icmp_ne C 1457 dL_build_1450 rfl (fun h2 => ?_) (fun h2 => absurd h2 (by decide))
  refine x_iload C dL_build_1457 0 rfl ?_
  refine x_iconst C (3 : Int32) (by decide) dL_build_1459 ?_
  refine x_icmp_ne C 1467 dL_build_1460 rfl (fun h3 => ?_) (fun h3 => absurd h3 (by decide))
  refine x_iload C dL_build_1467 0 rfl ?_
  refine x_iconst C (1 : Int32) (by decide) dL_build_1469 ?_
  refine x_iadd C dL_build_1470 ?_
  refine x_v (y := (1 : Int32)) (by decide) ?_
  refine x_iald C sh_87 (vp_in_nI (n := 1) (by omega) (by decide)) dL_build_1471 ?_
  rw [show (1 : Int32).toNatClampNeg = 1 from nI_clamp (n := 1) (by omega)]
  refine x_v (y := nI nc) (k1) ?_
  refine x_icmp_eq C 1477 dL_build_1472 rfl (fun h4 => ?_) (fun h4 => absurd h4 (fun q => q rfl))
  refine x_iinc C (q := 0) (1 : Int32) [(11, .int (1 : Int32)), (0, ra V 0), (1, .ref b), (2, .int (0 : Int32)), (3, ra V 87), (4, ra V 88), (5, ra V 89), (6, ra V 90), (7, ra V 91), (8, ra V 92), (9, ra V 93)] dL_build_1477 rfl (by decide) (by decide) rfl ?_
  refine x_goto C 1434 dL_build_1480 rfl ?_
  refine x_iload C dL_build_1434 0 rfl ?_
  refine x_iconst C (5 : Int32) (by decide) dL_build_1436 ?_
  refine x_icmp_ge C 1483 dL_build_1437 rfl (fun h5 => absurd h5 (by decide)) (fun h5 => ?_)
  refine x_aload_n C dL_build_1440 rfl 1 rfl ?_
  refine x_iload C dL_build_1441 0 rfl ?_
  refine x_callV C sh_0 (by decide) rfl [.int (1 : Int32)] (c_X8_count l V hV σ (1 : Int32) (by decide)) (cwV 1 C.2.2.2.2.1 gL_build_X8_count rfl rfl rfl (by decide +kernel) ⟨Nat.le_of_ble_eq_true rfl, Nat.le_of_ble_eq_true rfl⟩) rfl rfl (Nat.le_of_ble_eq_true rfl) dL_build_1443 ⟨Nat.le_of_ble_eq_true rfl, Nat.le_of_ble_eq_true rfl⟩ (x_kI ?_)
  refine x_v (y := nI nl) (hB.2.2.1.1.1) ?_
  refine x_aload_n C dL_build_1446 rfl 4 rfl ?_
  refine x_iload C dL_build_1447 0 rfl ?_
  refine x_iconst C (4 : Int32) (by decide) dL_build_1449 ?_
  refine x_icmp_ne C 1457 dL_build_1450 rfl (fun h6 => ?_) (fun h6 => absurd h6 (by decide))
  refine x_iload C dL_build_1457 0 rfl ?_
  refine x_iconst C (3 : Int32) (by decide) dL_build_1459 ?_
  refine x_icmp_ne C 1467 dL_build_1460 rfl (fun h7 => ?_) (fun h7 => absurd h7 (by decide))
  refine x_iload C dL_build_1467 0 rfl ?_
  refine x_iconst C (1 : Int32) (by decide) dL_build_1469 ?_
  refine x_iadd C dL_build_1470 ?_
  refine x_v (y := (2 : Int32)) (by decide) ?_
  refine x_iald C sh_87 (vp_in_nI (n := 2) (by omega) (by decide)) dL_build_1471 ?_
  rw [show (2 : Int32).toNatClampNeg = 2 from nI_clamp (n := 2) (by omega)]
  refine x_v (y := nI nl) (k2) ?_
  refine x_icmp_eq C 1477 dL_build_1472 rfl (fun h8 => ?_) (fun h8 => absurd h8 (fun q => q rfl))
  refine x_iinc C (q := 0) (2 : Int32) [(11, .int (2 : Int32)), (0, ra V 0), (1, .ref b), (2, .int (0 : Int32)), (3, ra V 87), (4, ra V 88), (5, ra V 89), (6, ra V 90), (7, ra V 91), (8, ra V 92), (9, ra V 93)] dL_build_1477 rfl (by decide) (by decide) rfl ?_
  refine x_goto C 1434 dL_build_1480 rfl ?_
  refine x_iload C dL_build_1434 0 rfl ?_
  refine x_iconst C (5 : Int32) (by decide) dL_build_1436 ?_
  refine x_icmp_ge C 1483 dL_build_1437 rfl (fun h9 => absurd h9 (by decide)) (fun h9 => ?_)
  refine x_aload_n C dL_build_1440 rfl 1 rfl ?_
  refine x_iload C dL_build_1441 0 rfl ?_
  refine x_callV C sh_0 (by decide) rfl [.int (2 : Int32)] (c_X8_count l V hV σ (2 : Int32) (by decide)) (cwV 1 C.2.2.2.2.1 gL_build_X8_count rfl rfl rfl (by decide +kernel) ⟨Nat.le_of_ble_eq_true rfl, Nat.le_of_ble_eq_true rfl⟩) rfl rfl (Nat.le_of_ble_eq_true rfl) dL_build_1443 ⟨Nat.le_of_ble_eq_true rfl, Nat.le_of_ble_eq_true rfl⟩ (x_kI ?_)
  refine x_v (y := nI nm) (hB.2.2.2.1.1.1) ?_
  refine x_aload_n C dL_build_1446 rfl 4 rfl ?_
  refine x_iload C dL_build_1447 0 rfl ?_
  refine x_iconst C (4 : Int32) (by decide) dL_build_1449 ?_
  refine x_icmp_ne C 1457 dL_build_1450 rfl (fun h10 => ?_) (fun h10 => absurd h10 (by decide))
  refine x_iload C dL_build_1457 0 rfl ?_
  refine x_iconst C (3 : Int32) (by decide) dL_build_1459 ?_
  refine x_icmp_ne C 1467 dL_build_1460 rfl (fun h11 => ?_) (fun h11 => absurd h11 (by decide))
  refine x_iload C dL_build_1467 0 rfl ?_
  refine x_iconst C (1 : Int32) (by decide) dL_build_1469 ?_
  refine x_iadd C dL_build_1470 ?_
  refine x_v (y := (3 : Int32)) (by decide) ?_
  refine x_iald C sh_87 (vp_in_nI (n := 3) (by omega) (by decide)) dL_build_1471 ?_
  rw [show (3 : Int32).toNatClampNeg = 3 from nI_clamp (n := 3) (by omega)]
  refine x_v (y := nI nm) (k3) ?_
  refine x_icmp_eq C 1477 dL_build_1472 rfl (fun h12 => ?_) (fun h12 => absurd h12 (fun q => q rfl))
  refine x_iinc C (q := 0) (3 : Int32) [(11, .int (3 : Int32)), (0, ra V 0), (1, .ref b), (2, .int (0 : Int32)), (3, ra V 87), (4, ra V 88), (5, ra V 89), (6, ra V 90), (7, ra V 91), (8, ra V 92), (9, ra V 93)] dL_build_1477 rfl (by decide) (by decide) rfl ?_
  refine x_goto C 1434 dL_build_1480 rfl ?_
  refine x_iload C dL_build_1434 0 rfl ?_
  refine x_iconst C (5 : Int32) (by decide) dL_build_1436 ?_
  refine x_icmp_ge C 1483 dL_build_1437 rfl (fun h13 => absurd h13 (by decide)) (fun h13 => ?_)
  refine x_aload_n C dL_build_1440 rfl 1 rfl ?_
  refine x_iload C dL_build_1441 0 rfl ?_
  refine x_callV C sh_0 (by decide) rfl [.int (3 : Int32)] (c_X8_count l V hV σ (3 : Int32) (by decide)) (cwV 1 C.2.2.2.2.1 gL_build_X8_count rfl rfl rfl (by decide +kernel) ⟨Nat.le_of_ble_eq_true rfl, Nat.le_of_ble_eq_true rfl⟩) rfl rfl (Nat.le_of_ble_eq_true rfl) dL_build_1443 ⟨Nat.le_of_ble_eq_true rfl, Nat.le_of_ble_eq_true rfl⟩ (x_kI ?_)
  refine x_v (y := nI nx) (hB.2.2.2.2.2.1.1) ?_
  refine x_aload_n C dL_build_1446 rfl 4 rfl ?_
  refine x_iload C dL_build_1447 0 rfl ?_
  refine x_iconst C (4 : Int32) (by decide) dL_build_1449 ?_
  refine x_icmp_ne C 1457 dL_build_1450 rfl (fun h14 => ?_) (fun h14 => absurd h14 (by decide))
  refine x_iload C dL_build_1457 0 rfl ?_
  refine x_iconst C (3 : Int32) (by decide) dL_build_1459 ?_
  refine x_icmp_ne C 1467 dL_build_1460 rfl (fun h15 => absurd h15 (by decide)) (fun h15 => ?_)
  refine x_iconst C (5 : Int32) (by decide) dL_build_1463 ?_
  refine x_goto C 1471 dL_build_1464 rfl ?_
  refine x_iald C sh_87 (vp_in_nI (n := 5) (by omega) (by decide)) dL_build_1471 ?_
  rw [show (5 : Int32).toNatClampNeg = 5 from nI_clamp (n := 5) (by omega)]
  refine x_v (y := nI nx) (k5) ?_
  refine x_icmp_eq C 1477 dL_build_1472 rfl (fun h16 => ?_) (fun h16 => absurd h16 (fun q => q rfl))
  refine x_iinc C (q := 0) (4 : Int32) [(11, .int (4 : Int32)), (0, ra V 0), (1, .ref b), (2, .int (0 : Int32)), (3, ra V 87), (4, ra V 88), (5, ra V 89), (6, ra V 90), (7, ra V 91), (8, ra V 92), (9, ra V 93)] dL_build_1477 rfl (by decide) (by decide) rfl ?_
  refine x_goto C 1434 dL_build_1480 rfl ?_
  refine x_iload C dL_build_1434 0 rfl ?_
  refine x_iconst C (5 : Int32) (by decide) dL_build_1436 ?_
  refine x_icmp_ge C 1483 dL_build_1437 rfl (fun h17 => absurd h17 (by decide)) (fun h17 => ?_)
  refine x_aload_n C dL_build_1440 rfl 1 rfl ?_
  refine x_iload C dL_build_1441 0 rfl ?_
  refine x_callV C sh_0 (by decide) rfl [.int (4 : Int32)] (c_X8_count l V hV σ (4 : Int32) (by decide)) (cwV 1 C.2.2.2.2.1 gL_build_X8_count rfl rfl rfl (by decide +kernel) ⟨Nat.le_of_ble_eq_true rfl, Nat.le_of_ble_eq_true rfl⟩) rfl rfl (Nat.le_of_ble_eq_true rfl) dL_build_1443 ⟨Nat.le_of_ble_eq_true rfl, Nat.le_of_ble_eq_true rfl⟩ (x_kI ?_)
  refine x_v (y := nI ne) (hB.2.2.2.2.1.1.1) ?_
  refine x_aload_n C dL_build_1446 rfl 4 rfl ?_
  refine x_iload C dL_build_1447 0 rfl ?_
  refine x_iconst C (4 : Int32) (by decide) dL_build_1449 ?_
  refine x_icmp_ne C 1457 dL_build_1450 rfl (fun h18 => absurd h18 (by decide)) (fun h18 => ?_)
  refine x_iconst C (4 : Int32) (by decide) dL_build_1453 ?_
  refine x_goto C 1471 dL_build_1454 rfl ?_
  refine x_iald C sh_87 (vp_in_nI (n := 4) (by omega) (by decide)) dL_build_1471 ?_
  rw [show (4 : Int32).toNatClampNeg = 4 from nI_clamp (n := 4) (by omega)]
  refine x_v (y := nI ne) (k4) ?_
  refine x_icmp_eq C 1477 dL_build_1472 rfl (fun h19 => ?_) (fun h19 => absurd h19 (fun q => q rfl))
  refine x_iinc C (q := 0) (5 : Int32) [(11, .int (5 : Int32)), (0, ra V 0), (1, .ref b), (2, .int (0 : Int32)), (3, ra V 87), (4, ra V 88), (5, ra V 89), (6, ra V 90), (7, ra V 91), (8, ra V 92), (9, ra V 93)] dL_build_1477 rfl (by decide) (by decide) rfl ?_
  refine x_goto C 1434 dL_build_1480 rfl ?_
  refine x_iload C dL_build_1434 0 rfl ?_
  refine x_iconst C (5 : Int32) (by decide) dL_build_1436 ?_
  refine x_icmp_ge C 1483 dL_build_1437 rfl (fun h20 => ?_) (fun h20 => absurd h20 (by decide))
  refine x_iconst C (1 : Int32) (by decide) dL_build_1483 ?_
  exact x_zret C true rfl hr hlk dL_build_1484 ⟨rfl, nr, nc, nl, nm, ne, nx, hB, k0, k1, k2, k3, k4, k5⟩

set_option maxHeartbeats 4000000 in
set_option maxRecDepth 100000 in
/-- build answers true, and leaves what its words say -/
theorem c_L_build (l : Launch) (V : xV) (hV : xInj V) (b L : Nat) (xs : Nat → Int32) (hbV : ¬ inR V b) (hL : L < 2 ^ 31) : xMS l yL_build wsL_build rmB V b L xs [ra V 0, .ref b, .int (0 : Int32), ra V 87, ra V 88, ra V 89, ra V 90, ra V 91, ra V 92, ra V 93] xS0 (fun v u => v = some (.int (bI true)) ∧ BD u) := by
  refine xMS_of (cc := cL_build) (maxL := 20) (ret := (some .boolean)) [(0, ra V 0), (1, .ref b), (2, .int (0 : Int32)), (3, ra V 87), (4, ra V 88), (5, ra V 89), (6, ra V 90), (7, ra V 91), (8, ra V 92), (9, ra V 93)] hV (by decide) rfl rfl (Nat.le_of_ble_eq_true rfl) (fun p e s m args below meth c C hX hbl hr hlk => ?_)
  refine B_rules C hV hX hbl hbV hL (fun u1 nr r1 b1 z0 => ?_)
  refine B_classes C hV hX hbl hbV hL r1 b1 z0 (fun u2 nc c1 c2 b2 z0 z1 => ?_)
  refine B_links C hV hX hbl hbV hL c1 c2 b2 z0 z1 (fun u3 nl l1 b3 z0 z1 z2 => ?_)
  refine B_members C hV hX hbl hbV hL c1 c2 b3 z0 z1 z2 (fun u4 nm m1 m2 b4 z0 z1 z2 z3 => ?_)
  refine B_exprs C hV hX hbl hbV hL c1 c2 m1 m2 b4 z0 z1 z2 z3 (fun u5 ne nx b5 z0 z1 z2 z3 z4 z5 => ?_)
  exact B_end (Q := fun _ => True) C hV hX hbl hbV hL hr hlk b5 z0 z1 z2 z3 z4 z5


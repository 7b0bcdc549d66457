set_option maxHeartbeats 4000000 in
set_option maxRecDepth 100000 in
theorem L_addField {p : Program} {l : Launch} {e : Env} {s : State} {m : MethodId} {args : Array Value} {below : List Frame} {meth : Method} {c : Code} {V : xV} {A : Nat → Prop} {cells slots : Nat} {Q : State → Prop} {lo b L i : Nat} {xs : Nat → Int32} {gg : Nat → Int64} {σ : xS} (hlst : l.stackTraces = false) (C : XC p s m args c cL_law 9 RL wsL_law V [oc V lo gg] A) (hV : xInj V) (hO : ∀ k, k < 108 → xad V k ≠ lo) (hA : ∀ q, inO V lo q → A q) (hT : xT s) (hZ : xZ A s s.heap) (hX : va_X b L xs s s.heap) (hbl : b < s.heap.size) (hbA : ¬ A b) (hL : L < 2 ^ 31) (hi : 8 * i + 8 ≤ L) (hcs : cells + 1 ≤ room_1.cells ∧ slots + 6 ≤ room_1.slots) (h : Sm σ) (J : ∀ σ' g', Sm σ' → X p l e room_1 s m args below meth c V [oc V lo g'] A 9 (cells + 1) (slots + 6) Q σ' 1977 [(0, .ref b), (1, ra V 0), (2, ra V 87), (3, .ref lo), (4, .int (nI (8 * i)))] []) : X p l e room_1 s m args below meth c V [oc V lo gg] A 9 cells slots Q σ 465 [(0, .ref b), (1, ra V 0), (2, ra V 87), (3, .ref lo), (4, .int (nI (8 * i)))] [] := by
  refine x_aload_n C dL_law_465 rfl 1 rfl ?_
  refine x_arefn C dL_law_466 rfl 0 rfl ?_
  refine x_iload C dL_law_467 4 rfl ?_
  refine x_iconst C (1 : Int32) (by decide) dL_law_469 ?_
  refine x_iadd C dL_law_470 ?_
  refine x_sld C hX hbl hbA (8 * i + 1) (nI_add (8 * i) 1) (by omega) hL dL_law_471 ?_
  refine x_arefn C dL_law_472 rfl 0 rfl ?_
  refine x_iload C dL_law_473 4 rfl ?_
  refine x_iconst C (2 : Int32) (by decide) dL_law_475 ?_
  refine x_iadd C dL_law_476 ?_
  refine x_sld C hX hbl hbA (8 * i + 2) (nI_add (8 * i) 2) (by omega) hL dL_law_477 ?_
  refine x_arefn C dL_law_478 rfl 0 rfl ?_
  refine x_iload C dL_law_479 4 rfl ?_
  refine x_iconst C (3 : Int32) (by decide) dL_law_481 ?_
  refine x_iadd C dL_law_482 ?_
  refine x_sld C hX hbl hbA (8 * i + 3) (nI_add (8 * i) 3) (by omega) hL dL_law_483 ?_
  refine x_arefn C dL_law_484 rfl 0 rfl ?_
  refine x_iload C dL_law_485 4 rfl ?_
  refine x_iconst C (4 : Int32) (by decide) dL_law_487 ?_
  refine x_iadd C dL_law_488 ?_
  refine x_sld C hX hbl hbA (8 * i + 4) (nI_add (8 * i) 4) (by omega) hL dL_law_489 ?_
  refine x_arefn C dL_law_490 rfl 0 rfl ?_
  refine x_iload C dL_law_491 4 rfl ?_
  refine x_iconst C (5 : Int32) (by decide) dL_law_493 ?_
  refine x_iadd C dL_law_494 ?_
  refine x_sld C hX hbl hbA (8 * i + 5) (nI_add (8 * i) 5) (by omega) hL dL_law_495 ?_
  refine x_arefn C dL_law_496 rfl 3 rfl ?_
  refine x_callW C hT hZ hA [ra V 0, .int (xs (8 * i + 1)), .int (xs (8 * i + 2)), .int (xs (8 * i + 3)), .int (xs (8 * i + 4)), .int (xs (8 * i + 5)), .ref lo] (c_L_addField l hlst V hV lo hO σ gg (xs (8 * i + 1)) (xs (8 * i + 2)) (xs (8 * i + 3)) (xs (8 * i + 4)) (xs (8 * i + 5))) (vx_cwSW 7 C.2.2.2.2.1 gL_law_L_addField rfl rfl rfl (by decide +kernel) ⟨Nat.le_of_ble_eq_true rfl, Nat.le_of_ble_eq_true rfl⟩) rfl rfl (Nat.le_of_ble_eq_true rfl) dL_law_497 hcs (fun v σ' g' hR => ?_)
  obtain ⟨rfl, hσ, hg, hne⟩ := hR
  have C1 := XC_oc C hV hO hA g'
  by_cases hk : kField σ (xs (8 * i + 1)) (xs (8 * i + 2)) (xs (8 * i + 3)) (xs (8 * i + 4)) (xs (8 * i + 5)) = 0
  · rw [if_pos hk] at hσ
    rw [hσ]
    have sp := (st_addField h (xs (8 * i + 1)) (xs (8 * i + 2)) (xs (8 * i + 3)) (xs (8 * i + 4)) (xs (8 * i + 5))).1 hk
    refine x_v (y := (0 : Int32)) (by rw [hk, nI_0]) ?_
    refine x_istore C1 [(5, .int (0 : Int32)), (0, .ref b), (1, ra V 0), (2, ra V 87), (3, .ref lo), (4, .int (nI (8 * i)))] dL_law_500 (by decide) rfl ?_
    refine x_aload_n C1 dL_law_502 rfl 3 rfl ?_
    refine x_arefn C1 dL_law_503 rfl 1 rfl ?_
    refine x_iload C1 dL_law_504 5 rfl ?_
    refine x_iconst C1 (1 : Int32) (by decide) dL_law_506 ?_
    refine x_iadd C1 dL_law_507 ?_
    refine x_sld C1 hX hbl hbA (8 * i + 1) (nI_add (8 * i) 1) (by omega) hL dL_law_508 ?_
    refine x_arefn C1 dL_law_509 rfl 1 rfl ?_
    refine x_iload C1 dL_law_510 5 rfl ?_
    refine x_iconst C1 (2 : Int32) (by decide) dL_law_512 ?_
    refine x_iadd C1 dL_law_513 ?_
    refine x_sld C1 hX hbl hbA (8 * i + 2) (nI_add (8 * i) 2) (by omega) hL dL_law_514 ?_
    refine x_arefn C1 dL_law_515 rfl 1 rfl ?_
    refine x_iload C1 dL_law_516 5 rfl ?_
    refine x_iconst C1 (3 : Int32) (by decide) dL_law_518 ?_
    refine x_iadd C1 dL_law_519 ?_
    refine x_sld C1 hX hbl hbA (8 * i + 3) (nI_add (8 * i) 3) (by omega) hL dL_law_520 ?_
    refine x_arefn C1 dL_law_521 rfl 1 rfl ?_
    refine x_iload C1 dL_law_522 5 rfl ?_
    refine x_iconst C1 (4 : Int32) (by decide) dL_law_524 ?_
    refine x_iadd C1 dL_law_525 ?_
    refine x_sld C1 hX hbl hbA (8 * i + 4) (nI_add (8 * i) 4) (by omega) hL dL_law_526 ?_
    refine x_arefn C1 dL_law_527 rfl 1 rfl ?_
    refine x_iload C1 dL_law_528 5 rfl ?_
    refine x_iconst C1 (5 : Int32) (by decide) dL_law_530 ?_
    refine x_iadd C1 dL_law_531 ?_
    refine x_sld C1 hX hbl hbA (8 * i + 5) (nI_add (8 * i) 5) (by omega) hL dL_law_532 ?_
    refine x_callV C1 sh_87 (by decide) rfl [.int (xs (8 * i + 1)), .int (xs (8 * i + 2)), .int (xs (8 * i + 3)), .int (xs (8 * i + 4)), .int (xs (8 * i + 5))] (c_X9_addField l V hV (mTyp (mApp σ 0 (xs (8 * i + 1)) (xs (8 * i + 2)) (xs (8 * i + 4)) (xs (8 * i + 5))) (σ 203 0) (xs (8 * i + 3)) (-1) (-1)) (xs (8 * i + 1)) (xs (8 * i + 2)) (xs (8 * i + 3)) (xs (8 * i + 4)) (xs (8 * i + 5)) (mV_E (em_addField) h.1.V)) (cwV 5 C1.2.2.2.2.1 gL_law_X9_addField rfl rfl rfl (by decide +kernel) ⟨Nat.le_of_ble_eq_true rfl, Nat.le_of_ble_eq_true rfl⟩) rfl rfl (Nat.le_of_ble_eq_true rfl) dL_law_533 ⟨hcs.1, hcs.2⟩ (x_kC (fun y u h1 h2 => ?_))
    obtain ⟨rfl, rfl⟩ := h1 sp.1
    refine x_nm (fun yv hyv => ?_)
    refine x_istore C1 [(6, .int yv), (5, .int (0 : Int32)), (0, .ref b), (1, ra V 0), (2, ra V 87), (3, .ref lo), (4, .int (nI (8 * i)))] dL_law_536 (by decide) rfl ?_
    refine x_aload_n C1 dL_law_538 rfl 4 rfl ?_
    refine x_callV C1 sh_87 (by decide) rfl [] (c_X9_thrown l V hV _) (cwV 0 C1.2.2.2.2.1 gL_law_X9_thrown rfl rfl rfl (by decide +kernel) ⟨Nat.le_of_ble_eq_true rfl, Nat.le_of_ble_eq_true rfl⟩) rfl rfl (Nat.le_of_ble_eq_true rfl) dL_law_539 ⟨hcs.1, hcs.2⟩ (x_kI ?_)
    refine x_v (y := (0 : Int32)) sp.2.1 ?_
    refine x_iload C1 dL_law_542 1 rfl ?_
    refine x_icmp_eq C1 549 dL_law_544 rfl (fun _ => ?_) (fun hq => absurd rfl hq)
    refine x_iload C1 dL_law_549 1 rfl ?_
    refine x_if_ne C1 566 dL_law_551 rfl (fun hq => absurd rfl hq) (fun _ => ?_)
    refine x_arefn C1 dL_law_554 rfl 5 rfl ?_
    refine x_iconst C1 (0 : Int32) (by decide) dL_law_555 ?_
    refine x_lald C1 dL_law_556 ?_
    refine x_iload C1 dL_law_557 0 rfl ?_
    have hg0 := (hg hk).trans (congrArg Int32.toInt64 (sp.2.2.1.trans hyv.symm))
    refine x_i2l C1 dL_law_559 ?_
    refine x_lcmp C1 dL_law_560 ?_
    refine x_v (y := (0 : Int32)) (by rw [hg0]; exact lg_cmp_s _) ?_
    refine x_if_eq C1 566 dL_law_561 rfl (fun _ => ?_) (fun hq => absurd rfl hq)
    refine x_goto C1 1977 dL_law_566 rfl ?_
    refine x_lv [2, 3, 4, 5, 6] [(0, .ref b), (1, ra V 0), (2, ra V 87), (3, .ref lo), (4, .int (nI (8 * i)))] rfl ?_
    exact J _ g' sp.2.2.2
  · rw [if_neg hk] at hσ
    rw [hσ]
    have sp := (st_addField h (xs (8 * i + 1)) (xs (8 * i + 2)) (xs (8 * i + 3)) (xs (8 * i + 4)) (xs (8 * i + 5))).2 hk
    refine x_istore C1 [(5, .int (nI (kField σ (xs (8 * i + 1)) (xs (8 * i + 2)) (xs (8 * i + 3)) (xs (8 * i + 4)) (xs (8 * i + 5))))), (0, .ref b), (1, ra V 0), (2, ra V 87), (3, .ref lo), (4, .int (nI (8 * i)))] dL_law_500 (by decide) rfl ?_
    refine x_aload_n C1 dL_law_502 rfl 3 rfl ?_
    refine x_arefn C1 dL_law_503 rfl 1 rfl ?_
    refine x_iload C1 dL_law_504 5 rfl ?_
    refine x_iconst C1 (1 : Int32) (by decide) dL_law_506 ?_
    refine x_iadd C1 dL_law_507 ?_
    refine x_sld C1 hX hbl hbA (8 * i + 1) (nI_add (8 * i) 1) (by omega) hL dL_law_508 ?_
    refine x_arefn C1 dL_law_509 rfl 1 rfl ?_
    refine x_iload C1 dL_law_510 5 rfl ?_
    refine x_iconst C1 (2 : Int32) (by decide) dL_law_512 ?_
    refine x_iadd C1 dL_law_513 ?_
    refine x_sld C1 hX hbl hbA (8 * i + 2) (nI_add (8 * i) 2) (by omega) hL dL_law_514 ?_
    refine x_arefn C1 dL_law_515 rfl 1 rfl ?_
    refine x_iload C1 dL_law_516 5 rfl ?_
    refine x_iconst C1 (3 : Int32) (by decide) dL_law_518 ?_
    refine x_iadd C1 dL_law_519 ?_
    refine x_sld C1 hX hbl hbA (8 * i + 3) (nI_add (8 * i) 3) (by omega) hL dL_law_520 ?_
    refine x_arefn C1 dL_law_521 rfl 1 rfl ?_
    refine x_iload C1 dL_law_522 5 rfl ?_
    refine x_iconst C1 (4 : Int32) (by decide) dL_law_524 ?_
    refine x_iadd C1 dL_law_525 ?_
    refine x_sld C1 hX hbl hbA (8 * i + 4) (nI_add (8 * i) 4) (by omega) hL dL_law_526 ?_
    refine x_arefn C1 dL_law_527 rfl 1 rfl ?_
    refine x_iload C1 dL_law_528 5 rfl ?_
    refine x_iconst C1 (5 : Int32) (by decide) dL_law_530 ?_
    refine x_iadd C1 dL_law_531 ?_
    refine x_sld C1 hX hbl hbA (8 * i + 5) (nI_add (8 * i) 5) (by omega) hL dL_law_532 ?_
    refine x_callV C1 sh_87 (by decide) rfl [.int (xs (8 * i + 1)), .int (xs (8 * i + 2)), .int (xs (8 * i + 3)), .int (xs (8 * i + 4)), .int (xs (8 * i + 5))] (c_X9_addField l V hV (σ) (xs (8 * i + 1)) (xs (8 * i + 2)) (xs (8 * i + 3)) (xs (8 * i + 4)) (xs (8 * i + 5)) (mV_E (em_rf) h.1.V)) (cwV 5 C1.2.2.2.2.1 gL_law_X9_addField rfl rfl rfl (by decide +kernel) ⟨Nat.le_of_ble_eq_true rfl, Nat.le_of_ble_eq_true rfl⟩) rfl rfl (Nat.le_of_ble_eq_true rfl) dL_law_533 ⟨hcs.1, hcs.2⟩ (x_kC (fun y u h1 h2 => ?_))
    have hu := h2 (by rw [sp.1]; exact hk)
    rw [sp.1] at hu
    subst hu
    refine x_nm (fun yv hyv => ?_)
    refine x_istore C1 [(6, .int yv), (5, .int (nI (kField σ (xs (8 * i + 1)) (xs (8 * i + 2)) (xs (8 * i + 3)) (xs (8 * i + 4)) (xs (8 * i + 5))))), (0, .ref b), (1, ra V 0), (2, ra V 87), (3, .ref lo), (4, .int (nI (8 * i)))] dL_law_536 (by decide) rfl ?_
    refine x_aload_n C1 dL_law_538 rfl 4 rfl ?_
    refine x_callV C1 sh_87 (by decide) rfl [] (c_X9_thrown l V hV _) (cwV 0 C1.2.2.2.2.1 gL_law_X9_thrown rfl rfl rfl (by decide +kernel) ⟨Nat.le_of_ble_eq_true rfl, Nat.le_of_ble_eq_true rfl⟩) rfl rfl (Nat.le_of_ble_eq_true rfl) dL_law_539 ⟨hcs.1, hcs.2⟩ (x_kI ?_)
    refine x_v (y := (nI (kField σ (xs (8 * i + 1)) (xs (8 * i + 2)) (xs (8 * i + 3)) (xs (8 * i + 4)) (xs (8 * i + 5))))) (xw_at _ _ _ _) ?_
    refine x_iload C1 dL_law_542 1 rfl ?_
    refine x_icmp_eq C1 549 dL_law_544 rfl (fun _ => ?_) (fun hq => absurd rfl hq)
    refine x_iload C1 dL_law_549 1 rfl ?_
    refine x_if_ne C1 566 dL_law_551 rfl (fun _ => ?_) (fun hq => absurd hq (hne hk))
    refine x_goto C1 1977 dL_law_566 rfl ?_
    refine x_lv [2, 3, 4, 5, 6] [(0, .ref b), (1, ra V 0), (2, ra V 87), (3, .ref lo), (4, .int (nI (8 * i)))] rfl ?_
    exact J _ g' sp.2
set_option maxHeartbeats 4000000 in
set_option maxRecDepth 100000 in
theorem L_addMethod {p : Program} {l : Launch} {e : Env} {s : State} {m : MethodId} {args : Array Value} {below : List Frame} {meth : Method} {c : Code} {V : xV} {A : Nat → Prop} {cells slots : Nat} {Q : State → Prop} {lo b L i : Nat} {xs : Nat → Int32} {gg : Nat → Int64} {σ : xS} (hlst : l.stackTraces = false) (C : XC p s m args c cL_law 9 RL wsL_law V [oc V lo gg] A) (hV : xInj V) (hO : ∀ k, k < 108 → xad V k ≠ lo) (hA : ∀ q, inO V lo q → A q) (hT : xT s) (hZ : xZ A s s.heap) (hX : va_X b L xs s s.heap) (hbl : b < s.heap.size) (hbA : ¬ A b) (hL : L < 2 ^ 31) (hi : 8 * i + 8 ≤ L) (hcs : cells + 1 ≤ room_1.cells ∧ slots + 6 ≤ room_1.slots) (h : Sm σ) (J : ∀ σ' g', Sm σ' → X p l e room_1 s m args below meth c V [oc V lo g'] A 9 (cells + 1) (slots + 6) Q σ' 1977 [(0, .ref b), (1, ra V 0), (2, ra V 87), (3, .ref lo), (4, .int (nI (8 * i)))] []) : X p l e room_1 s m args below meth c V [oc V lo gg] A 9 cells slots Q σ 569 [(0, .ref b), (1, ra V 0), (2, ra V 87), (3, .ref lo), (4, .int (nI (8 * i)))] [] := by
  refine x_aload_n C dL_law_569 rfl 1 rfl ?_
  refine x_arefn C dL_law_570 rfl 0 rfl ?_
  refine x_iload C dL_law_571 4 rfl ?_
  refine x_iconst C (1 : Int32) (by decide) dL_law_573 ?_
  refine x_iadd C dL_law_574 ?_
  refine x_sld C hX hbl hbA (8 * i + 1) (nI_add (8 * i) 1) (by omega) hL dL_law_575 ?_
  refine x_arefn C dL_law_576 rfl 0 rfl ?_
  refine x_iload C dL_law_577 4 rfl ?_
  refine x_iconst C (2 : Int32) (by decide) dL_law_579 ?_
  refine x_iadd C dL_law_580 ?_
  refine x_sld C hX hbl hbA (8 * i + 2) (nI_add (8 * i) 2) (by omega) hL dL_law_581 ?_
  refine x_arefn C dL_law_582 rfl 0 rfl ?_
  refine x_iload C dL_law_583 4 rfl ?_
  refine x_iconst C (3 : Int32) (by decide) dL_law_585 ?_
  refine x_iadd C dL_law_586 ?_
  refine x_sld C hX hbl hbA (8 * i + 3) (nI_add (8 * i) 3) (by omega) hL dL_law_587 ?_
  refine x_arefn C dL_law_588 rfl 0 rfl ?_
  refine x_iload C dL_law_589 4 rfl ?_
  refine x_iconst C (4 : Int32) (by decide) dL_law_591 ?_
  refine x_iadd C dL_law_592 ?_
  refine x_sld C hX hbl hbA (8 * i + 4) (nI_add (8 * i) 4) (by omega) hL dL_law_593 ?_
  refine x_arefn C dL_law_594 rfl 0 rfl ?_
  refine x_iload C dL_law_595 4 rfl ?_
  refine x_iconst C (5 : Int32) (by decide) dL_law_597 ?_
  refine x_iadd C dL_law_598 ?_
  refine x_sld C hX hbl hbA (8 * i + 5) (nI_add (8 * i) 5) (by omega) hL dL_law_599 ?_
  refine x_arefn C dL_law_600 rfl 0 rfl ?_
  refine x_iload C dL_law_601 4 rfl ?_
  refine x_bipush C (6 : Int32) (by decide) dL_law_603 ?_
  refine x_iadd C dL_law_605 ?_
  refine x_sld C hX hbl hbA (8 * i + 6) (nI_add (8 * i) 6) (by omega) hL dL_law_606 ?_
  refine x_arefn C dL_law_607 rfl 0 rfl ?_
  refine x_iload C dL_law_608 4 rfl ?_
  refine x_bipush C (7 : Int32) (by decide) dL_law_610 ?_
  refine x_iadd C dL_law_612 ?_
  refine x_sld C hX hbl hbA (8 * i + 7) (nI_add (8 * i) 7) (by omega) hL dL_law_613 ?_
  refine x_arefn C dL_law_614 rfl 3 rfl ?_
  refine x_callW C hT hZ hA [ra V 0, .int (xs (8 * i + 1)), .int (xs (8 * i + 2)), .int (xs (8 * i + 3)), .int (xs (8 * i + 4)), .int (xs (8 * i + 5)), .int (xs (8 * i + 6)), .int (xs (8 * i + 7)), .ref lo] (c_L_addMethod l hlst V hV lo hO σ gg (xs (8 * i + 1)) (xs (8 * i + 2)) (xs (8 * i + 3)) (xs (8 * i + 4)) (xs (8 * i + 5)) (xs (8 * i + 6)) (xs (8 * i + 7))) (vx_cwSW 9 C.2.2.2.2.1 gL_law_L_addMethod rfl rfl rfl (by decide +kernel) ⟨Nat.le_of_ble_eq_true rfl, Nat.le_of_ble_eq_true rfl⟩) rfl rfl (Nat.le_of_ble_eq_true rfl) dL_law_615 hcs (fun v σ' g' hR => ?_)
  obtain ⟨rfl, hσ, hg, hne⟩ := hR
  have C1 := XC_oc C hV hO hA g'
  by_cases hk : kMeth σ (xs (8 * i + 1)) (xs (8 * i + 2)) (xs (8 * i + 3)) (xs (8 * i + 4)) (xs (8 * i + 5)) (xs (8 * i + 6)) (xs (8 * i + 7)) = 0
  · rw [if_pos hk] at hσ
    rw [hσ]
    have sp := (st_addMethod h (xs (8 * i + 1)) (xs (8 * i + 2)) (xs (8 * i + 3)) (xs (8 * i + 4)) (xs (8 * i + 5)) (xs (8 * i + 6)) (xs (8 * i + 7))).1 hk
    refine x_v (y := (0 : Int32)) (by rw [hk, nI_0]) ?_
    refine x_istore C1 [(5, .int (0 : Int32)), (0, .ref b), (1, ra V 0), (2, ra V 87), (3, .ref lo), (4, .int (nI (8 * i)))] dL_law_618 (by decide) rfl ?_
    refine x_aload_n C1 dL_law_620 rfl 3 rfl ?_
    refine x_arefn C1 dL_law_621 rfl 1 rfl ?_
    refine x_iload C1 dL_law_622 5 rfl ?_
    refine x_iconst C1 (1 : Int32) (by decide) dL_law_624 ?_
    refine x_iadd C1 dL_law_625 ?_
    refine x_sld C1 hX hbl hbA (8 * i + 1) (nI_add (8 * i) 1) (by omega) hL dL_law_626 ?_
    refine x_arefn C1 dL_law_627 rfl 1 rfl ?_
    refine x_iload C1 dL_law_628 5 rfl ?_
    refine x_iconst C1 (2 : Int32) (by decide) dL_law_630 ?_
    refine x_iadd C1 dL_law_631 ?_
    refine x_sld C1 hX hbl hbA (8 * i + 2) (nI_add (8 * i) 2) (by omega) hL dL_law_632 ?_
    refine x_arefn C1 dL_law_633 rfl 1 rfl ?_
    refine x_iload C1 dL_law_634 5 rfl ?_
    refine x_iconst C1 (3 : Int32) (by decide) dL_law_636 ?_
    refine x_iadd C1 dL_law_637 ?_
    refine x_sld C1 hX hbl hbA (8 * i + 3) (nI_add (8 * i) 3) (by omega) hL dL_law_638 ?_
    refine x_arefn C1 dL_law_639 rfl 1 rfl ?_
    refine x_iload C1 dL_law_640 5 rfl ?_
    refine x_iconst C1 (4 : Int32) (by decide) dL_law_642 ?_
    refine x_iadd C1 dL_law_643 ?_
    refine x_sld C1 hX hbl hbA (8 * i + 4) (nI_add (8 * i) 4) (by omega) hL dL_law_644 ?_
    refine x_arefn C1 dL_law_645 rfl 1 rfl ?_
    refine x_iload C1 dL_law_646 5 rfl ?_
    refine x_iconst C1 (5 : Int32) (by decide) dL_law_648 ?_
    refine x_iadd C1 dL_law_649 ?_
    refine x_sld C1 hX hbl hbA (8 * i + 5) (nI_add (8 * i) 5) (by omega) hL dL_law_650 ?_
    refine x_arefn C1 dL_law_651 rfl 1 rfl ?_
    refine x_iload C1 dL_law_652 5 rfl ?_
    refine x_bipush C1 (6 : Int32) (by decide) dL_law_654 ?_
    refine x_iadd C1 dL_law_656 ?_
    refine x_sld C1 hX hbl hbA (8 * i + 6) (nI_add (8 * i) 6) (by omega) hL dL_law_657 ?_
    refine x_arefn C1 dL_law_658 rfl 1 rfl ?_
    refine x_iload C1 dL_law_659 5 rfl ?_
    refine x_bipush C1 (7 : Int32) (by decide) dL_law_661 ?_
    refine x_iadd C1 dL_law_663 ?_
    refine x_sld C1 hX hbl hbA (8 * i + 7) (nI_add (8 * i) 7) (by omega) hL dL_law_664 ?_
    refine x_callV C1 sh_87 (by decide) rfl [.int (xs (8 * i + 1)), .int (xs (8 * i + 2)), .int (xs (8 * i + 3)), .int (xs (8 * i + 4)), .int (xs (8 * i + 5)), .int (xs (8 * i + 6)), .int (xs (8 * i + 7))] (c_X9_addMethod l V hV (mTyp (mApp σ 1 (xs (8 * i + 1)) (xs (8 * i + 2)) (xs (8 * i + 6)) (xs (8 * i + 7))) (σ 203 0) (xs (8 * i + 3)) (xs (8 * i + 4)) (xs (8 * i + 5))) (xs (8 * i + 1)) (xs (8 * i + 2)) (xs (8 * i + 3)) (xs (8 * i + 4)) (xs (8 * i + 5)) (xs (8 * i + 6)) (xs (8 * i + 7)) (mV_E (em_addMethod) h.1.V)) (cwV 7 C1.2.2.2.2.1 gL_law_X9_addMethod rfl rfl rfl (by decide +kernel) ⟨Nat.le_of_ble_eq_true rfl, Nat.le_of_ble_eq_true rfl⟩) rfl rfl (Nat.le_of_ble_eq_true rfl) dL_law_665 ⟨hcs.1, hcs.2⟩ (x_kC (fun y u h1 h2 => ?_))
    obtain ⟨rfl, rfl⟩ := h1 sp.1
    refine x_nm (fun yv hyv => ?_)
    refine x_istore C1 [(6, .int yv), (5, .int (0 : Int32)), (0, .ref b), (1, ra V 0), (2, ra V 87), (3, .ref lo), (4, .int (nI (8 * i)))] dL_law_668 (by decide) rfl ?_
    refine x_aload_n C1 dL_law_670 rfl 4 rfl ?_
    refine x_callV C1 sh_87 (by decide) rfl [] (c_X9_thrown l V hV _) (cwV 0 C1.2.2.2.2.1 gL_law_X9_thrown rfl rfl rfl (by decide +kernel) ⟨Nat.le_of_ble_eq_true rfl, Nat.le_of_ble_eq_true rfl⟩) rfl rfl (Nat.le_of_ble_eq_true rfl) dL_law_671 ⟨hcs.1, hcs.2⟩ (x_kI ?_)
    refine x_v (y := (0 : Int32)) sp.2.1 ?_
    refine x_iload C1 dL_law_674 1 rfl ?_
    refine x_icmp_eq C1 681 dL_law_676 rfl (fun _ => ?_) (fun hq => absurd rfl hq)
    refine x_iload C1 dL_law_681 1 rfl ?_
    refine x_if_ne C1 698 dL_law_683 rfl (fun hq => absurd rfl hq) (fun _ => ?_)
    refine x_arefn C1 dL_law_686 rfl 5 rfl ?_
    refine x_iconst C1 (0 : Int32) (by decide) dL_law_687 ?_
    refine x_lald C1 dL_law_688 ?_
    refine x_iload C1 dL_law_689 0 rfl ?_
    have hg0 := (hg hk).trans (congrArg Int32.toInt64 (sp.2.2.1.trans hyv.symm))
    refine x_i2l C1 dL_law_691 ?_
    refine x_lcmp C1 dL_law_692 ?_
    refine x_v (y := (0 : Int32)) (by rw [hg0]; exact lg_cmp_s _) ?_
    refine x_if_eq C1 698 dL_law_693 rfl (fun _ => ?_) (fun hq => absurd rfl hq)
    refine x_goto C1 1977 dL_law_698 rfl ?_
    refine x_lv [2, 3, 4, 5, 6] [(0, .ref b), (1, ra V 0), (2, ra V 87), (3, .ref lo), (4, .int (nI (8 * i)))] rfl ?_
    exact J _ g' sp.2.2.2
  · rw [if_neg hk] at hσ
    rw [hσ]
    have sp := (st_addMethod h (xs (8 * i + 1)) (xs (8 * i + 2)) (xs (8 * i + 3)) (xs (8 * i + 4)) (xs (8 * i + 5)) (xs (8 * i + 6)) (xs (8 * i + 7))).2 hk
    refine x_istore C1 [(5, .int (nI (kMeth σ (xs (8 * i + 1)) (xs (8 * i + 2)) (xs (8 * i + 3)) (xs (8 * i + 4)) (xs (8 * i + 5)) (xs (8 * i + 6)) (xs (8 * i + 7))))), (0, .ref b), (1, ra V 0), (2, ra V 87), (3, .ref lo), (4, .int (nI (8 * i)))] dL_law_618 (by decide) rfl ?_
    refine x_aload_n C1 dL_law_620 rfl 3 rfl ?_
    refine x_arefn C1 dL_law_621 rfl 1 rfl ?_
    refine x_iload C1 dL_law_622 5 rfl ?_
    refine x_iconst C1 (1 : Int32) (by decide) dL_law_624 ?_
    refine x_iadd C1 dL_law_625 ?_
    refine x_sld C1 hX hbl hbA (8 * i + 1) (nI_add (8 * i) 1) (by omega) hL dL_law_626 ?_
    refine x_arefn C1 dL_law_627 rfl 1 rfl ?_
    refine x_iload C1 dL_law_628 5 rfl ?_
    refine x_iconst C1 (2 : Int32) (by decide) dL_law_630 ?_
    refine x_iadd C1 dL_law_631 ?_
    refine x_sld C1 hX hbl hbA (8 * i + 2) (nI_add (8 * i) 2) (by omega) hL dL_law_632 ?_
    refine x_arefn C1 dL_law_633 rfl 1 rfl ?_
    refine x_iload C1 dL_law_634 5 rfl ?_
    refine x_iconst C1 (3 : Int32) (by decide) dL_law_636 ?_
    refine x_iadd C1 dL_law_637 ?_
    refine x_sld C1 hX hbl hbA (8 * i + 3) (nI_add (8 * i) 3) (by omega) hL dL_law_638 ?_
    refine x_arefn C1 dL_law_639 rfl 1 rfl ?_
    refine x_iload C1 dL_law_640 5 rfl ?_
    refine x_iconst C1 (4 : Int32) (by decide) dL_law_642 ?_
    refine x_iadd C1 dL_law_643 ?_
    refine x_sld C1 hX hbl hbA (8 * i + 4) (nI_add (8 * i) 4) (by omega) hL dL_law_644 ?_
    refine x_arefn C1 dL_law_645 rfl 1 rfl ?_
    refine x_iload C1 dL_law_646 5 rfl ?_
    refine x_iconst C1 (5 : Int32) (by decide) dL_law_648 ?_
    refine x_iadd C1 dL_law_649 ?_
    refine x_sld C1 hX hbl hbA (8 * i + 5) (nI_add (8 * i) 5) (by omega) hL dL_law_650 ?_
    refine x_arefn C1 dL_law_651 rfl 1 rfl ?_
    refine x_iload C1 dL_law_652 5 rfl ?_
    refine x_bipush C1 (6 : Int32) (by decide) dL_law_654 ?_
    refine x_iadd C1 dL_law_656 ?_
    refine x_sld C1 hX hbl hbA (8 * i + 6) (nI_add (8 * i) 6) (by omega) hL dL_law_657 ?_
    refine x_arefn C1 dL_law_658 rfl 1 rfl ?_
    refine x_iload C1 dL_law_659 5 rfl ?_
    refine x_bipush C1 (7 : Int32) (by decide) dL_law_661 ?_
    refine x_iadd C1 dL_law_663 ?_
    refine x_sld C1 hX hbl hbA (8 * i + 7) (nI_add (8 * i) 7) (by omega) hL dL_law_664 ?_
    refine x_callV C1 sh_87 (by decide) rfl [.int (xs (8 * i + 1)), .int (xs (8 * i + 2)), .int (xs (8 * i + 3)), .int (xs (8 * i + 4)), .int (xs (8 * i + 5)), .int (xs (8 * i + 6)), .int (xs (8 * i + 7))] (c_X9_addMethod l V hV (σ) (xs (8 * i + 1)) (xs (8 * i + 2)) (xs (8 * i + 3)) (xs (8 * i + 4)) (xs (8 * i + 5)) (xs (8 * i + 6)) (xs (8 * i + 7)) (mV_E (em_rf) h.1.V)) (cwV 7 C1.2.2.2.2.1 gL_law_X9_addMethod rfl rfl rfl (by decide +kernel) ⟨Nat.le_of_ble_eq_true rfl, Nat.le_of_ble_eq_true rfl⟩) rfl rfl (Nat.le_of_ble_eq_true rfl) dL_law_665 ⟨hcs.1, hcs.2⟩ (x_kC (fun y u h1 h2 => ?_))
    have hu := h2 (by rw [sp.1]; exact hk)
    rw [sp.1] at hu
    subst hu
    refine x_nm (fun yv hyv => ?_)
    refine x_istore C1 [(6, .int yv), (5, .int (nI (kMeth σ (xs (8 * i + 1)) (xs (8 * i + 2)) (xs (8 * i + 3)) (xs (8 * i + 4)) (xs (8 * i + 5)) (xs (8 * i + 6)) (xs (8 * i + 7))))), (0, .ref b), (1, ra V 0), (2, ra V 87), (3, .ref lo), (4, .int (nI (8 * i)))] dL_law_668 (by decide) rfl ?_
    refine x_aload_n C1 dL_law_670 rfl 4 rfl ?_
    refine x_callV C1 sh_87 (by decide) rfl [] (c_X9_thrown l V hV _) (cwV 0 C1.2.2.2.2.1 gL_law_X9_thrown rfl rfl rfl (by decide +kernel) ⟨Nat.le_of_ble_eq_true rfl, Nat.le_of_ble_eq_true rfl⟩) rfl rfl (Nat.le_of_ble_eq_true rfl) dL_law_671 ⟨hcs.1, hcs.2⟩ (x_kI ?_)
    refine x_v (y := (nI (kMeth σ (xs (8 * i + 1)) (xs (8 * i + 2)) (xs (8 * i + 3)) (xs (8 * i + 4)) (xs (8 * i + 5)) (xs (8 * i + 6)) (xs (8 * i + 7))))) (xw_at _ _ _ _) ?_
    refine x_iload C1 dL_law_674 1 rfl ?_
    refine x_icmp_eq C1 681 dL_law_676 rfl (fun _ => ?_) (fun hq => absurd rfl hq)
    refine x_iload C1 dL_law_681 1 rfl ?_
    refine x_if_ne C1 698 dL_law_683 rfl (fun _ => ?_) (fun hq => absurd hq (hne hk))
    refine x_goto C1 1977 dL_law_698 rfl ?_
    refine x_lv [2, 3, 4, 5, 6] [(0, .ref b), (1, ra V 0), (2, ra V 87), (3, .ref lo), (4, .int (nI (8 * i)))] rfl ?_
    exact J _ g' sp.2
set_option maxHeartbeats 4000000 in
set_option maxRecDepth 100000 in
theorem L_addNew {p : Program} {l : Launch} {e : Env} {s : State} {m : MethodId} {args : Array Value} {below : List Frame} {meth : Method} {c : Code} {V : xV} {A : Nat → Prop} {cells slots : Nat} {Q : State → Prop} {lo b L i : Nat} {xs : Nat → Int32} {gg : Nat → Int64} {σ : xS} (hlst : l.stackTraces = false) (C : XC p s m args c cL_law 9 RL wsL_law V [oc V lo gg] A) (hV : xInj V) (hO : ∀ k, k < 108 → xad V k ≠ lo) (hA : ∀ q, inO V lo q → A q) (hT : xT s) (hZ : xZ A s s.heap) (hX : va_X b L xs s s.heap) (hbl : b < s.heap.size) (hbA : ¬ A b) (hL : L < 2 ^ 31) (hi : 8 * i + 8 ≤ L) (hcs : cells + 1 ≤ room_1.cells ∧ slots + 6 ≤ room_1.slots) (h : Sm σ) (J : ∀ σ' g', Sm σ' → X p l e room_1 s m args below meth c V [oc V lo g'] A 9 (cells + 1) (slots + 6) Q σ' 1977 [(0, .ref b), (1, ra V 0), (2, ra V 87), (3, .ref lo), (4, .int (nI (8 * i)))] []) : X p l e room_1 s m args below meth c V [oc V lo gg] A 9 cells slots Q σ 701 [(0, .ref b), (1, ra V 0), (2, ra V 87), (3, .ref lo), (4, .int (nI (8 * i)))] [] := by
  refine x_aload_n C dL_law_701 rfl 1 rfl ?_
  refine x_arefn C dL_law_702 rfl 0 rfl ?_
  refine x_iload C dL_law_703 4 rfl ?_
  refine x_iconst C (1 : Int32) (by decide) dL_law_705 ?_
  refine x_iadd C dL_law_706 ?_
  refine x_sld C hX hbl hbA (8 * i + 1) (nI_add (8 * i) 1) (by omega) hL dL_law_707 ?_
  refine x_arefn C dL_law_708 rfl 0 rfl ?_
  refine x_iload C dL_law_709 4 rfl ?_
  refine x_iconst C (2 : Int32) (by decide) dL_law_711 ?_
  refine x_iadd C dL_law_712 ?_
  refine x_sld C hX hbl hbA (8 * i + 2) (nI_add (8 * i) 2) (by omega) hL dL_law_713 ?_
  refine x_arefn C dL_law_714 rfl 3 rfl ?_
  refine x_callW C hT hZ hA [ra V 0, .int (xs (8 * i + 1)), .int (xs (8 * i + 2)), .ref lo] (c_L_addNew l hlst V hV lo hO σ gg (xs (8 * i + 1)) (xs (8 * i + 2))) (vx_cwSW 4 C.2.2.2.2.1 gL_law_L_addNew rfl rfl rfl (by decide +kernel) ⟨Nat.le_of_ble_eq_true rfl, Nat.le_of_ble_eq_true rfl⟩) rfl rfl (Nat.le_of_ble_eq_true rfl) dL_law_715 hcs (fun v σ' g' hR => ?_)
  obtain ⟨rfl, hσ, hg, hne⟩ := hR
  have C1 := XC_oc C hV hO hA g'
  by_cases hk : kNew σ (xs (8 * i + 1)) (xs (8 * i + 2)) = 0
  · rw [if_pos hk] at hσ
    rw [hσ]
    have sp := (st_addNew h (xs (8 * i + 1)) (xs (8 * i + 2))).1 hk
    refine x_v (y := (0 : Int32)) (by rw [hk, nI_0]) ?_
    refine x_istore C1 [(5, .int (0 : Int32)), (0, .ref b), (1, ra V 0), (2, ra V 87), (3, .ref lo), (4, .int (nI (8 * i)))] dL_law_718 (by decide) rfl ?_
    refine x_aload_n C1 dL_law_720 rfl 3 rfl ?_
    refine x_arefn C1 dL_law_721 rfl 1 rfl ?_
    refine x_iload C1 dL_law_722 5 rfl ?_
    refine x_iconst C1 (1 : Int32) (by decide) dL_law_724 ?_
    refine x_iadd C1 dL_law_725 ?_
    refine x_sld C1 hX hbl hbA (8 * i + 1) (nI_add (8 * i) 1) (by omega) hL dL_law_726 ?_
    refine x_arefn C1 dL_law_727 rfl 1 rfl ?_
    refine x_iload C1 dL_law_728 5 rfl ?_
    refine x_iconst C1 (2 : Int32) (by decide) dL_law_730 ?_
    refine x_iadd C1 dL_law_731 ?_
    refine x_sld C1 hX hbl hbA (8 * i + 2) (nI_add (8 * i) 2) (by omega) hL dL_law_732 ?_
    refine x_callV C1 sh_87 (by decide) rfl [.int (xs (8 * i + 1)), .int (xs (8 * i + 2))] (c_X9_addNew l V hV (eApp σ 0 (xs (8 * i + 1)) (xs (8 * i + 2))) (xs (8 * i + 1)) (xs (8 * i + 2)) (mV_E (em_addNew) h.1.V)) (cwV 2 C1.2.2.2.2.1 gL_law_X9_addNew rfl rfl rfl (by decide +kernel) ⟨Nat.le_of_ble_eq_true rfl, Nat.le_of_ble_eq_true rfl⟩) rfl rfl (Nat.le_of_ble_eq_true rfl) dL_law_733 ⟨hcs.1, hcs.2⟩ (x_kC (fun y u h1 h2 => ?_))
    obtain ⟨rfl, rfl⟩ := h1 sp.1
    refine x_nm (fun yv hyv => ?_)
    refine x_istore C1 [(6, .int yv), (5, .int (0 : Int32)), (0, .ref b), (1, ra V 0), (2, ra V 87), (3, .ref lo), (4, .int (nI (8 * i)))] dL_law_736 (by decide) rfl ?_
    refine x_aload_n C1 dL_law_738 rfl 4 rfl ?_
    refine x_callV C1 sh_87 (by decide) rfl [] (c_X9_thrown l V hV _) (cwV 0 C1.2.2.2.2.1 gL_law_X9_thrown rfl rfl rfl (by decide +kernel) ⟨Nat.le_of_ble_eq_true rfl, Nat.le_of_ble_eq_true rfl⟩) rfl rfl (Nat.le_of_ble_eq_true rfl) dL_law_739 ⟨hcs.1, hcs.2⟩ (x_kI ?_)
    refine x_v (y := (0 : Int32)) sp.2.1 ?_
    refine x_iload C1 dL_law_742 1 rfl ?_
    refine x_icmp_eq C1 749 dL_law_744 rfl (fun _ => ?_) (fun hq => absurd rfl hq)
    refine x_iload C1 dL_law_749 1 rfl ?_
    refine x_if_ne C1 766 dL_law_751 rfl (fun hq => absurd rfl hq) (fun _ => ?_)
    refine x_arefn C1 dL_law_754 rfl 5 rfl ?_
    refine x_iconst C1 (0 : Int32) (by decide) dL_law_755 ?_
    refine x_lald C1 dL_law_756 ?_
    refine x_iload C1 dL_law_757 0 rfl ?_
    have hg0 := (hg hk).trans (congrArg Int32.toInt64 (sp.2.2.1.trans hyv.symm))
    refine x_i2l C1 dL_law_759 ?_
    refine x_lcmp C1 dL_law_760 ?_
    refine x_v (y := (0 : Int32)) (by rw [hg0]; exact lg_cmp_s _) ?_
    refine x_if_eq C1 766 dL_law_761 rfl (fun _ => ?_) (fun hq => absurd rfl hq)
    refine x_goto C1 1977 dL_law_766 rfl ?_
    refine x_lv [2, 3, 4, 5, 6] [(0, .ref b), (1, ra V 0), (2, ra V 87), (3, .ref lo), (4, .int (nI (8 * i)))] rfl ?_
    exact J _ g' sp.2.2.2
  · rw [if_neg hk] at hσ
    rw [hσ]
    have sp := (st_addNew h (xs (8 * i + 1)) (xs (8 * i + 2))).2 hk
    refine x_istore C1 [(5, .int (nI (kNew σ (xs (8 * i + 1)) (xs (8 * i + 2))))), (0, .ref b), (1, ra V 0), (2, ra V 87), (3, .ref lo), (4, .int (nI (8 * i)))] dL_law_718 (by decide) rfl ?_
    refine x_aload_n C1 dL_law_720 rfl 3 rfl ?_
    refine x_arefn C1 dL_law_721 rfl 1 rfl ?_
    refine x_iload C1 dL_law_722 5 rfl ?_
    refine x_iconst C1 (1 : Int32) (by decide) dL_law_724 ?_
    refine x_iadd C1 dL_law_725 ?_
    refine x_sld C1 hX hbl hbA (8 * i + 1) (nI_add (8 * i) 1) (by omega) hL dL_law_726 ?_
    refine x_arefn C1 dL_law_727 rfl 1 rfl ?_
    refine x_iload C1 dL_law_728 5 rfl ?_
    refine x_iconst C1 (2 : Int32) (by decide) dL_law_730 ?_
    refine x_iadd C1 dL_law_731 ?_
    refine x_sld C1 hX hbl hbA (8 * i + 2) (nI_add (8 * i) 2) (by omega) hL dL_law_732 ?_
    refine x_callV C1 sh_87 (by decide) rfl [.int (xs (8 * i + 1)), .int (xs (8 * i + 2))] (c_X9_addNew l V hV (σ) (xs (8 * i + 1)) (xs (8 * i + 2)) (mV_E (em_rf) h.1.V)) (cwV 2 C1.2.2.2.2.1 gL_law_X9_addNew rfl rfl rfl (by decide +kernel) ⟨Nat.le_of_ble_eq_true rfl, Nat.le_of_ble_eq_true rfl⟩) rfl rfl (Nat.le_of_ble_eq_true rfl) dL_law_733 ⟨hcs.1, hcs.2⟩ (x_kC (fun y u h1 h2 => ?_))
    have hu := h2 (by rw [sp.1]; exact hk)
    rw [sp.1] at hu
    subst hu
    refine x_nm (fun yv hyv => ?_)
    refine x_istore C1 [(6, .int yv), (5, .int (nI (kNew σ (xs (8 * i + 1)) (xs (8 * i + 2))))), (0, .ref b), (1, ra V 0), (2, ra V 87), (3, .ref lo), (4, .int (nI (8 * i)))] dL_law_736 (by decide) rfl ?_
    refine x_aload_n C1 dL_law_738 rfl 4 rfl ?_
    refine x_callV C1 sh_87 (by decide) rfl [] (c_X9_thrown l V hV _) (cwV 0 C1.2.2.2.2.1 gL_law_X9_thrown rfl rfl rfl (by decide +kernel) ⟨Nat.le_of_ble_eq_true rfl, Nat.le_of_ble_eq_true rfl⟩) rfl rfl (Nat.le_of_ble_eq_true rfl) dL_law_739 ⟨hcs.1, hcs.2⟩ (x_kI ?_)
    refine x_v (y := (nI (kNew σ (xs (8 * i + 1)) (xs (8 * i + 2))))) (xw_at _ _ _ _) ?_
    refine x_iload C1 dL_law_742 1 rfl ?_
    refine x_icmp_eq C1 749 dL_law_744 rfl (fun _ => ?_) (fun hq => absurd rfl hq)
    refine x_iload C1 dL_law_749 1 rfl ?_
    refine x_if_ne C1 766 dL_law_751 rfl (fun _ => ?_) (fun hq => absurd hq (hne hk))
    refine x_goto C1 1977 dL_law_766 rfl ?_
    refine x_lv [2, 3, 4, 5, 6] [(0, .ref b), (1, ra V 0), (2, ra V 87), (3, .ref lo), (4, .int (nI (8 * i)))] rfl ?_
    exact J _ g' sp.2
set_option maxHeartbeats 4000000 in
set_option maxRecDepth 100000 in
theorem L_addPlain {p : Program} {l : Launch} {e : Env} {s : State} {m : MethodId} {args : Array Value} {below : List Frame} {meth : Method} {c : Code} {V : xV} {A : Nat → Prop} {cells slots : Nat} {Q : State → Prop} {lo b L i : Nat} {xs : Nat → Int32} {gg : Nat → Int64} {σ : xS} (hlst : l.stackTraces = false) (C : XC p s m args c cL_law 9 RL wsL_law V [oc V lo gg] A) (hV : xInj V) (hO : ∀ k, k < 108 → xad V k ≠ lo) (hA : ∀ q, inO V lo q → A q) (hT : xT s) (hZ : xZ A s s.heap) (hX : va_X b L xs s s.heap) (hbl : b < s.heap.size) (hbA : ¬ A b) (hL : L < 2 ^ 31) (hi : 8 * i + 8 ≤ L) (hcs : cells + 1 ≤ room_1.cells ∧ slots + 6 ≤ room_1.slots) (h : Sm σ) (J : ∀ σ' g', Sm σ' → X p l e room_1 s m args below meth c V [oc V lo g'] A 9 (cells + 1) (slots + 6) Q σ' 1977 [(0, .ref b), (1, ra V 0), (2, ra V 87), (3, .ref lo), (4, .int (nI (8 * i)))] []) : X p l e room_1 s m args below meth c V [oc V lo gg] A 9 cells slots Q σ 769 [(0, .ref b), (1, ra V 0), (2, ra V 87), (3, .ref lo), (4, .int (nI (8 * i)))] [] := by
  refine x_aload_n C dL_law_769 rfl 1 rfl ?_
  refine x_arefn C dL_law_770 rfl 0 rfl ?_
  refine x_iload C dL_law_771 4 rfl ?_
  refine x_iconst C (1 : Int32) (by decide) dL_law_773 ?_
  refine x_iadd C dL_law_774 ?_
  refine x_sld C hX hbl hbA (8 * i + 1) (nI_add (8 * i) 1) (by omega) hL dL_law_775 ?_
  refine x_arefn C dL_law_776 rfl 0 rfl ?_
  refine x_iload C dL_law_777 4 rfl ?_
  refine x_iconst C (2 : Int32) (by decide) dL_law_779 ?_
  refine x_iadd C dL_law_780 ?_
  refine x_sld C hX hbl hbA (8 * i + 2) (nI_add (8 * i) 2) (by omega) hL dL_law_781 ?_
  refine x_if_eq C 789 dL_law_782 rfl (fun hz => ?_) (fun hz => ?_)
  · refine x_iconst C (0 : Int32) (by decide) dL_law_789 ?_
    refine x_arefn C dL_law_790 rfl 3 rfl ?_
    refine x_callW C hT hZ hA [ra V 0, .int (xs (8 * i + 1)), .int (0 : Int32), .ref lo] (c_L_addPlain l hlst V hV lo hO σ gg (xs (8 * i + 1)) false) (vx_cwSW 4 C.2.2.2.2.1 gL_law_L_addPlain rfl rfl rfl (by decide +kernel) ⟨Nat.le_of_ble_eq_true rfl, Nat.le_of_ble_eq_true rfl⟩) rfl rfl (Nat.le_of_ble_eq_true rfl) dL_law_791 hcs (fun v σ' g' hR => ?_)
    obtain ⟨rfl, hσ, hg, hne⟩ := hR
    have C1 := XC_oc C hV hO hA g'
    by_cases hk : kPlain σ (xs (8 * i + 1)) = 0
    · rw [if_pos hk] at hσ
      rw [hσ]
      have sp := (st_addPlain h (xs (8 * i + 1)) false).1 hk
      refine x_v (y := (0 : Int32)) (by rw [hk, nI_0]) ?_
      refine x_istore C1 [(5, .int (0 : Int32)), (0, .ref b), (1, ra V 0), (2, ra V 87), (3, .ref lo), (4, .int (nI (8 * i)))] dL_law_794 (by decide) rfl ?_
      refine x_aload_n C1 dL_law_796 rfl 3 rfl ?_
      refine x_arefn C1 dL_law_797 rfl 1 rfl ?_
      refine x_iload C1 dL_law_798 5 rfl ?_
      refine x_iconst C1 (1 : Int32) (by decide) dL_law_800 ?_
      refine x_iadd C1 dL_law_801 ?_
      refine x_sld C1 hX hbl hbA (8 * i + 1) (nI_add (8 * i) 1) (by omega) hL dL_law_802 ?_
      refine x_arefn C1 dL_law_803 rfl 1 rfl ?_
      refine x_iload C1 dL_law_804 5 rfl ?_
      refine x_iconst C1 (2 : Int32) (by decide) dL_law_806 ?_
      refine x_iadd C1 dL_law_807 ?_
      refine x_sld C1 hX hbl hbA (8 * i + 2) (nI_add (8 * i) 2) (by omega) hL dL_law_808 ?_
      refine x_if_eq C1 816 dL_law_809 rfl (fun _ => ?_) (fun hq => absurd hz hq)
      refine x_iconst C1 (0 : Int32) (by decide) dL_law_816 ?_
      refine x_callV C1 sh_87 (by decide) rfl [.int (xs (8 * i + 1)), .int (0 : Int32)] (c_X9_addPlain l V hV (eApp σ (if false = true then 2 else 1) (xs (8 * i + 1)) (-1)) (xs (8 * i + 1)) false (mV_E (em_addPlain) h.1.V)) (cwV 2 C1.2.2.2.2.1 gL_law_X9_addPlain rfl rfl rfl (by decide +kernel) ⟨Nat.le_of_ble_eq_true rfl, Nat.le_of_ble_eq_true rfl⟩) rfl rfl (Nat.le_of_ble_eq_true rfl) dL_law_817 ⟨hcs.1, hcs.2⟩ (x_kC (fun y u h1 h2 => ?_))
      obtain ⟨rfl, rfl⟩ := h1 sp.1
      refine x_nm (fun yv hyv => ?_)
      refine x_istore C1 [(6, .int yv), (5, .int (0 : Int32)), (0, .ref b), (1, ra V 0), (2, ra V 87), (3, .ref lo), (4, .int (nI (8 * i)))] dL_law_820 (by decide) rfl ?_
      refine x_aload_n C1 dL_law_822 rfl 4 rfl ?_
      refine x_callV C1 sh_87 (by decide) rfl [] (c_X9_thrown l V hV _) (cwV 0 C1.2.2.2.2.1 gL_law_X9_thrown rfl rfl rfl (by decide +kernel) ⟨Nat.le_of_ble_eq_true rfl, Nat.le_of_ble_eq_true rfl⟩) rfl rfl (Nat.le_of_ble_eq_true rfl) dL_law_823 ⟨hcs.1, hcs.2⟩ (x_kI ?_)
      refine x_v (y := (0 : Int32)) sp.2.1 ?_
      refine x_iload C1 dL_law_826 1 rfl ?_
      refine x_icmp_eq C1 833 dL_law_828 rfl (fun _ => ?_) (fun hq => absurd rfl hq)
      refine x_iload C1 dL_law_833 1 rfl ?_
      refine x_if_ne C1 850 dL_law_835 rfl (fun hq => absurd rfl hq) (fun _ => ?_)
      refine x_arefn C1 dL_law_838 rfl 5 rfl ?_
      refine x_iconst C1 (0 : Int32) (by decide) dL_law_839 ?_
      refine x_lald C1 dL_law_840 ?_
      refine x_iload C1 dL_law_841 0 rfl ?_
      have hg0 := (hg hk).trans (congrArg Int32.toInt64 (sp.2.2.1.trans hyv.symm))
      refine x_i2l C1 dL_law_843 ?_
      refine x_lcmp C1 dL_law_844 ?_
      refine x_v (y := (0 : Int32)) (by rw [hg0]; exact lg_cmp_s _) ?_
      refine x_if_eq C1 850 dL_law_845 rfl (fun _ => ?_) (fun hq => absurd rfl hq)
      refine x_goto C1 1977 dL_law_850 rfl ?_
      refine x_lv [2, 3, 4, 5, 6] [(0, .ref b), (1, ra V 0), (2, ra V 87), (3, .ref lo), (4, .int (nI (8 * i)))] rfl ?_
      exact J _ g' sp.2.2.2
    · rw [if_neg hk] at hσ
      rw [hσ]
      have sp := (st_addPlain h (xs (8 * i + 1)) false).2 hk
      refine x_istore C1 [(5, .int (nI (kPlain σ (xs (8 * i + 1))))), (0, .ref b), (1, ra V 0), (2, ra V 87), (3, .ref lo), (4, .int (nI (8 * i)))] dL_law_794 (by decide) rfl ?_
      refine x_aload_n C1 dL_law_796 rfl 3 rfl ?_
      refine x_arefn C1 dL_law_797 rfl 1 rfl ?_
      refine x_iload C1 dL_law_798 5 rfl ?_
      refine x_iconst C1 (1 : Int32) (by decide) dL_law_800 ?_
      refine x_iadd C1 dL_law_801 ?_
      refine x_sld C1 hX hbl hbA (8 * i + 1) (nI_add (8 * i) 1) (by omega) hL dL_law_802 ?_
      refine x_arefn C1 dL_law_803 rfl 1 rfl ?_
      refine x_iload C1 dL_law_804 5 rfl ?_
      refine x_iconst C1 (2 : Int32) (by decide) dL_law_806 ?_
      refine x_iadd C1 dL_law_807 ?_
      refine x_sld C1 hX hbl hbA (8 * i + 2) (nI_add (8 * i) 2) (by omega) hL dL_law_808 ?_
      refine x_if_eq C1 816 dL_law_809 rfl (fun _ => ?_) (fun hq => absurd hz hq)
      refine x_iconst C1 (0 : Int32) (by decide) dL_law_816 ?_
      refine x_callV C1 sh_87 (by decide) rfl [.int (xs (8 * i + 1)), .int (0 : Int32)] (c_X9_addPlain l V hV (σ) (xs (8 * i + 1)) false (mV_E (em_rf) h.1.V)) (cwV 2 C1.2.2.2.2.1 gL_law_X9_addPlain rfl rfl rfl (by decide +kernel) ⟨Nat.le_of_ble_eq_true rfl, Nat.le_of_ble_eq_true rfl⟩) rfl rfl (Nat.le_of_ble_eq_true rfl) dL_law_817 ⟨hcs.1, hcs.2⟩ (x_kC (fun y u h1 h2 => ?_))
      have hu := h2 (by rw [sp.1]; exact hk)
      rw [sp.1] at hu
      subst hu
      refine x_nm (fun yv hyv => ?_)
      refine x_istore C1 [(6, .int yv), (5, .int (nI (kPlain σ (xs (8 * i + 1))))), (0, .ref b), (1, ra V 0), (2, ra V 87), (3, .ref lo), (4, .int (nI (8 * i)))] dL_law_820 (by decide) rfl ?_
      refine x_aload_n C1 dL_law_822 rfl 4 rfl ?_
      refine x_callV C1 sh_87 (by decide) rfl [] (c_X9_thrown l V hV _) (cwV 0 C1.2.2.2.2.1 gL_law_X9_thrown rfl rfl rfl (by decide +kernel) ⟨Nat.le_of_ble_eq_true rfl, Nat.le_of_ble_eq_true rfl⟩) rfl rfl (Nat.le_of_ble_eq_true rfl) dL_law_823 ⟨hcs.1, hcs.2⟩ (x_kI ?_)
      refine x_v (y := (nI (kPlain σ (xs (8 * i + 1))))) (xw_at _ _ _ _) ?_
      refine x_iload C1 dL_law_826 1 rfl ?_
      refine x_icmp_eq C1 833 dL_law_828 rfl (fun _ => ?_) (fun hq => absurd rfl hq)
      refine x_iload C1 dL_law_833 1 rfl ?_
      refine x_if_ne C1 850 dL_law_835 rfl (fun _ => ?_) (fun hq => absurd hq (hne hk))
      refine x_goto C1 1977 dL_law_850 rfl ?_
      refine x_lv [2, 3, 4, 5, 6] [(0, .ref b), (1, ra V 0), (2, ra V 87), (3, .ref lo), (4, .int (nI (8 * i)))] rfl ?_
      exact J _ g' sp.2
  · refine x_iconst C (1 : Int32) (by decide) dL_law_785 ?_
    refine x_goto C 790 dL_law_786 rfl ?_
    refine x_arefn C dL_law_790 rfl 3 rfl ?_
    refine x_callW C hT hZ hA [ra V 0, .int (xs (8 * i + 1)), .int (1 : Int32), .ref lo] (c_L_addPlain l hlst V hV lo hO σ gg (xs (8 * i + 1)) true) (vx_cwSW 4 C.2.2.2.2.1 gL_law_L_addPlain rfl rfl rfl (by decide +kernel) ⟨Nat.le_of_ble_eq_true rfl, Nat.le_of_ble_eq_true rfl⟩) rfl rfl (Nat.le_of_ble_eq_true rfl) dL_law_791 hcs (fun v σ' g' hR => ?_)
    obtain ⟨rfl, hσ, hg, hne⟩ := hR
    have C1 := XC_oc C hV hO hA g'
    by_cases hk : kPlain σ (xs (8 * i + 1)) = 0
    · rw [if_pos hk] at hσ
      rw [hσ]
      have sp := (st_addPlain h (xs (8 * i + 1)) true).1 hk
      refine x_v (y := (0 : Int32)) (by rw [hk, nI_0]) ?_
      refine x_istore C1 [(5, .int (0 : Int32)), (0, .ref b), (1, ra V 0), (2, ra V 87), (3, .ref lo), (4, .int (nI (8 * i)))] dL_law_794 (by decide) rfl ?_
      refine x_aload_n C1 dL_law_796 rfl 3 rfl ?_
      refine x_arefn C1 dL_law_797 rfl 1 rfl ?_
      refine x_iload C1 dL_law_798 5 rfl ?_
      refine x_iconst C1 (1 : Int32) (by decide) dL_law_800 ?_
      refine x_iadd C1 dL_law_801 ?_
      refine x_sld C1 hX hbl hbA (8 * i + 1) (nI_add (8 * i) 1) (by omega) hL dL_law_802 ?_
      refine x_arefn C1 dL_law_803 rfl 1 rfl ?_
      refine x_iload C1 dL_law_804 5 rfl ?_
      refine x_iconst C1 (2 : Int32) (by decide) dL_law_806 ?_
      refine x_iadd C1 dL_law_807 ?_
      refine x_sld C1 hX hbl hbA (8 * i + 2) (nI_add (8 * i) 2) (by omega) hL dL_law_808 ?_
      refine x_if_eq C1 816 dL_law_809 rfl (fun hq => absurd hq hz) (fun _ => ?_)
      refine x_iconst C1 (1 : Int32) (by decide) dL_law_812 ?_
      refine x_goto C1 817 dL_law_813 rfl ?_
      refine x_callV C1 sh_87 (by decide) rfl [.int (xs (8 * i + 1)), .int (1 : Int32)] (c_X9_addPlain l V hV (eApp σ (if true = true then 2 else 1) (xs (8 * i + 1)) (-1)) (xs (8 * i + 1)) true (mV_E (em_addPlain) h.1.V)) (cwV 2 C1.2.2.2.2.1 gL_law_X9_addPlain rfl rfl rfl (by decide +kernel) ⟨Nat.le_of_ble_eq_true rfl, Nat.le_of_ble_eq_true rfl⟩) rfl rfl (Nat.le_of_ble_eq_true rfl) dL_law_817 ⟨hcs.1, hcs.2⟩ (x_kC (fun y u h1 h2 => ?_))
      obtain ⟨rfl, rfl⟩ := h1 sp.1
      refine x_nm (fun yv hyv => ?_)
      refine x_istore C1 [(6, .int yv), (5, .int (0 : Int32)), (0, .ref b), (1, ra V 0), (2, ra V 87), (3, .ref lo), (4, .int (nI (8 * i)))] dL_law_820 (by decide) rfl ?_
      refine x_aload_n C1 dL_law_822 rfl 4 rfl ?_
      refine x_callV C1 sh_87 (by decide) rfl [] (c_X9_thrown l V hV _) (cwV 0 C1.2.2.2.2.1 gL_law_X9_thrown rfl rfl rfl (by decide +kernel) ⟨Nat.le_of_ble_eq_true rfl, Nat.le_of_ble_eq_true rfl⟩) rfl rfl (Nat.le_of_ble_eq_true rfl) dL_law_823 ⟨hcs.1, hcs.2⟩ (x_kI ?_)
      refine x_v (y := (0 : Int32)) sp.2.1 ?_
      refine x_iload C1 dL_law_826 1 rfl ?_
      refine x_icmp_eq C1 833 dL_law_828 rfl (fun _ => ?_) (fun hq => absurd rfl hq)
      refine x_iload C1 dL_law_833 1 rfl ?_
      refine x_if_ne C1 850 dL_law_835 rfl (fun hq => absurd rfl hq) (fun _ => ?_)
      refine x_arefn C1 dL_law_838 rfl 5 rfl ?_
      refine x_iconst C1 (0 : Int32) (by decide) dL_law_839 ?_
      refine x_lald C1 dL_law_840 ?_
      refine x_iload C1 dL_law_841 0 rfl ?_
      have hg0 := (hg hk).trans (congrArg Int32.toInt64 (sp.2.2.1.trans hyv.symm))
      refine x_i2l C1 dL_law_843 ?_
      refine x_lcmp C1 dL_law_844 ?_
      refine x_v (y := (0 : Int32)) (by rw [hg0]; exact lg_cmp_s _) ?_
      refine x_if_eq C1 850 dL_law_845 rfl (fun _ => ?_) (fun hq => absurd rfl hq)
      refine x_goto C1 1977 dL_law_850 rfl ?_
      refine x_lv [2, 3, 4, 5, 6] [(0, .ref b), (1, ra V 0), (2, ra V 87), (3, .ref lo), (4, .int (nI (8 * i)))] rfl ?_
      exact J _ g' sp.2.2.2
    · rw [if_neg hk] at hσ
      rw [hσ]
      have sp := (st_addPlain h (xs (8 * i + 1)) true).2 hk
      refine x_istore C1 [(5, .int (nI (kPlain σ (xs (8 * i + 1))))), (0, .ref b), (1, ra V 0), (2, ra V 87), (3, .ref lo), (4, .int (nI (8 * i)))] dL_law_794 (by decide) rfl ?_
      refine x_aload_n C1 dL_law_796 rfl 3 rfl ?_
      refine x_arefn C1 dL_law_797 rfl 1 rfl ?_
      refine x_iload C1 dL_law_798 5 rfl ?_
      refine x_iconst C1 (1 : Int32) (by decide) dL_law_800 ?_
      refine x_iadd C1 dL_law_801 ?_
      refine x_sld C1 hX hbl hbA (8 * i + 1) (nI_add (8 * i) 1) (by omega) hL dL_law_802 ?_
      refine x_arefn C1 dL_law_803 rfl 1 rfl ?_
      refine x_iload C1 dL_law_804 5 rfl ?_
      refine x_iconst C1 (2 : Int32) (by decide) dL_law_806 ?_
      refine x_iadd C1 dL_law_807 ?_
      refine x_sld C1 hX hbl hbA (8 * i + 2) (nI_add (8 * i) 2) (by omega) hL dL_law_808 ?_
      refine x_if_eq C1 816 dL_law_809 rfl (fun hq => absurd hq hz) (fun _ => ?_)
      refine x_iconst C1 (1 : Int32) (by decide) dL_law_812 ?_
      refine x_goto C1 817 dL_law_813 rfl ?_
      refine x_callV C1 sh_87 (by decide) rfl [.int (xs (8 * i + 1)), .int (1 : Int32)] (c_X9_addPlain l V hV (σ) (xs (8 * i + 1)) true (mV_E (em_rf) h.1.V)) (cwV 2 C1.2.2.2.2.1 gL_law_X9_addPlain rfl rfl rfl (by decide +kernel) ⟨Nat.le_of_ble_eq_true rfl, Nat.le_of_ble_eq_true rfl⟩) rfl rfl (Nat.le_of_ble_eq_true rfl) dL_law_817 ⟨hcs.1, hcs.2⟩ (x_kC (fun y u h1 h2 => ?_))
      have hu := h2 (by rw [sp.1]; exact hk)
      rw [sp.1] at hu
      subst hu
      refine x_nm (fun yv hyv => ?_)
      refine x_istore C1 [(6, .int yv), (5, .int (nI (kPlain σ (xs (8 * i + 1))))), (0, .ref b), (1, ra V 0), (2, ra V 87), (3, .ref lo), (4, .int (nI (8 * i)))] dL_law_820 (by decide) rfl ?_
      refine x_aload_n C1 dL_law_822 rfl 4 rfl ?_
      refine x_callV C1 sh_87 (by decide) rfl [] (c_X9_thrown l V hV _) (cwV 0 C1.2.2.2.2.1 gL_law_X9_thrown rfl rfl rfl (by decide +kernel) ⟨Nat.le_of_ble_eq_true rfl, Nat.le_of_ble_eq_true rfl⟩) rfl rfl (Nat.le_of_ble_eq_true rfl) dL_law_823 ⟨hcs.1, hcs.2⟩ (x_kI ?_)
      refine x_v (y := (nI (kPlain σ (xs (8 * i + 1))))) (xw_at _ _ _ _) ?_
      refine x_iload C1 dL_law_826 1 rfl ?_
      refine x_icmp_eq C1 833 dL_law_828 rfl (fun _ => ?_) (fun hq => absurd rfl hq)
      refine x_iload C1 dL_law_833 1 rfl ?_
      refine x_if_ne C1 850 dL_law_835 rfl (fun _ => ?_) (fun hq => absurd hq (hne hk))
      refine x_goto C1 1977 dL_law_850 rfl ?_
      refine x_lv [2, 3, 4, 5, 6] [(0, .ref b), (1, ra V 0), (2, ra V 87), (3, .ref lo), (4, .int (nI (8 * i)))] rfl ?_
      exact J _ g' sp.2
set_option maxHeartbeats 4000000 in
set_option maxRecDepth 100000 in
theorem L_addArgument {p : Program} {l : Launch} {e : Env} {s : State} {m : MethodId} {args : Array Value} {below : List Frame} {meth : Method} {c : Code} {V : xV} {A : Nat → Prop} {cells slots : Nat} {Q : State → Prop} {lo b L i : Nat} {xs : Nat → Int32} {gg : Nat → Int64} {σ : xS} (hlst : l.stackTraces = false) (C : XC p s m args c cL_law 9 RL wsL_law V [oc V lo gg] A) (hV : xInj V) (hO : ∀ k, k < 108 → xad V k ≠ lo) (hA : ∀ q, inO V lo q → A q) (hT : xT s) (hZ : xZ A s s.heap) (hX : va_X b L xs s s.heap) (hbl : b < s.heap.size) (hbA : ¬ A b) (hL : L < 2 ^ 31) (hi : 8 * i + 8 ≤ L) (hcs : cells + 1 ≤ room_1.cells ∧ slots + 6 ≤ room_1.slots) (h : Sm σ) (J : ∀ σ' g', Sm σ' → X p l e room_1 s m args below meth c V [oc V lo g'] A 9 (cells + 1) (slots + 6) Q σ' 1977 [(0, .ref b), (1, ra V 0), (2, ra V 87), (3, .ref lo), (4, .int (nI (8 * i)))] []) : X p l e room_1 s m args below meth c V [oc V lo gg] A 9 cells slots Q σ 853 [(0, .ref b), (1, ra V 0), (2, ra V 87), (3, .ref lo), (4, .int (nI (8 * i)))] [] := by
  refine x_aload_n C dL_law_853 rfl 1 rfl ?_
  refine x_arefn C dL_law_854 rfl 0 rfl ?_
  refine x_iload C dL_law_855 4 rfl ?_
  refine x_iconst C (1 : Int32) (by decide) dL_law_857 ?_
  refine x_iadd C dL_law_858 ?_
  refine x_sld C hX hbl hbA (8 * i + 1) (nI_add (8 * i) 1) (by omega) hL dL_law_859 ?_
  refine x_arefn C dL_law_860 rfl 0 rfl ?_
  refine x_iload C dL_law_861 4 rfl ?_
  refine x_iconst C (2 : Int32) (by decide) dL_law_863 ?_
  refine x_iadd C dL_law_864 ?_
  refine x_sld C hX hbl hbA (8 * i + 2) (nI_add (8 * i) 2) (by omega) hL dL_law_865 ?_
  refine x_arefn C dL_law_866 rfl 3 rfl ?_
  refine x_callW C hT hZ hA [ra V 0, .int (xs (8 * i + 1)), .int (xs (8 * i + 2)), .ref lo] (c_L_addArgument l hlst V hV lo hO σ gg (xs (8 * i + 1)) (xs (8 * i + 2))) (vx_cwSW 4 C.2.2.2.2.1 gL_law_L_addArgument rfl rfl rfl (by decide +kernel) ⟨Nat.le_of_ble_eq_true rfl, Nat.le_of_ble_eq_true rfl⟩) rfl rfl (Nat.le_of_ble_eq_true rfl) dL_law_867 hcs (fun v σ' g' hR => ?_)
  obtain ⟨rfl, hσ, hg, hne⟩ := hR
  have C1 := XC_oc C hV hO hA g'
  by_cases hk : kArg σ (xs (8 * i + 1)) (xs (8 * i + 2)) = 0
  · rw [if_pos hk] at hσ
    rw [hσ]
    have sp := (st_addArgument h (xs (8 * i + 1)) (xs (8 * i + 2))).1 hk
    refine x_v (y := (0 : Int32)) (by rw [hk, nI_0]) ?_
    refine x_istore C1 [(5, .int (0 : Int32)), (0, .ref b), (1, ra V 0), (2, ra V 87), (3, .ref lo), (4, .int (nI (8 * i)))] dL_law_870 (by decide) rfl ?_
    refine x_aload_n C1 dL_law_872 rfl 3 rfl ?_
    refine x_arefn C1 dL_law_873 rfl 1 rfl ?_
    refine x_iload C1 dL_law_874 5 rfl ?_
    refine x_iconst C1 (1 : Int32) (by decide) dL_law_876 ?_
    refine x_iadd C1 dL_law_877 ?_
    refine x_sld C1 hX hbl hbA (8 * i + 1) (nI_add (8 * i) 1) (by omega) hL dL_law_878 ?_
    refine x_arefn C1 dL_law_879 rfl 1 rfl ?_
    refine x_iload C1 dL_law_880 5 rfl ?_
    refine x_iconst C1 (2 : Int32) (by decide) dL_law_882 ?_
    refine x_iadd C1 dL_law_883 ?_
    refine x_sld C1 hX hbl hbA (8 * i + 2) (nI_add (8 * i) 2) (by omega) hL dL_law_884 ?_
    refine x_callV C1 sh_87 (by decide) rfl [.int (xs (8 * i + 1)), .int (xs (8 * i + 2))] (c_X9_addArgument l V hV (eApp σ 3 (xs (8 * i + 1)) (xs (8 * i + 2))) (xs (8 * i + 1)) (xs (8 * i + 2)) (mV_E (em_addArgument) h.1.V)) (cwV 2 C1.2.2.2.2.1 gL_law_X9_addArgument rfl rfl rfl (by decide +kernel) ⟨Nat.le_of_ble_eq_true rfl, Nat.le_of_ble_eq_true rfl⟩) rfl rfl (Nat.le_of_ble_eq_true rfl) dL_law_885 ⟨hcs.1, hcs.2⟩ (x_kC (fun y u h1 h2 => ?_))
    obtain ⟨rfl, rfl⟩ := h1 sp.1
    refine x_nm (fun yv hyv => ?_)
    refine x_istore C1 [(6, .int yv), (5, .int (0 : Int32)), (0, .ref b), (1, ra V 0), (2, ra V 87), (3, .ref lo), (4, .int (nI (8 * i)))] dL_law_888 (by decide) rfl ?_
    refine x_aload_n C1 dL_law_890 rfl 4 rfl ?_
    refine x_callV C1 sh_87 (by decide) rfl [] (c_X9_thrown l V hV _) (cwV 0 C1.2.2.2.2.1 gL_law_X9_thrown rfl rfl rfl (by decide +kernel) ⟨Nat.le_of_ble_eq_true rfl, Nat.le_of_ble_eq_true rfl⟩) rfl rfl (Nat.le_of_ble_eq_true rfl) dL_law_891 ⟨hcs.1, hcs.2⟩ (x_kI ?_)
    refine x_v (y := (0 : Int32)) sp.2.1 ?_
    refine x_iload C1 dL_law_894 1 rfl ?_
    refine x_icmp_eq C1 901 dL_law_896 rfl (fun _ => ?_) (fun hq => absurd rfl hq)
    refine x_iload C1 dL_law_901 1 rfl ?_
    refine x_if_ne C1 918 dL_law_903 rfl (fun hq => absurd rfl hq) (fun _ => ?_)
    refine x_arefn C1 dL_law_906 rfl 5 rfl ?_
    refine x_iconst C1 (0 : Int32) (by decide) dL_law_907 ?_
    refine x_lald C1 dL_law_908 ?_
    refine x_iload C1 dL_law_909 0 rfl ?_
    have hg0 := (hg hk).trans (congrArg Int32.toInt64 (sp.2.2.1.trans hyv.symm))
    refine x_i2l C1 dL_law_911 ?_
    refine x_lcmp C1 dL_law_912 ?_
    refine x_v (y := (0 : Int32)) (by rw [hg0]; exact lg_cmp_s _) ?_
    refine x_if_eq C1 918 dL_law_913 rfl (fun _ => ?_) (fun hq => absurd rfl hq)
    refine x_goto C1 1977 dL_law_918 rfl ?_
    refine x_lv [2, 3, 4, 5, 6] [(0, .ref b), (1, ra V 0), (2, ra V 87), (3, .ref lo), (4, .int (nI (8 * i)))] rfl ?_
    exact J _ g' sp.2.2.2
  · rw [if_neg hk] at hσ
    rw [hσ]
    have sp := (st_addArgument h (xs (8 * i + 1)) (xs (8 * i + 2))).2 hk
    refine x_istore C1 [(5, .int (nI (kArg σ (xs (8 * i + 1)) (xs (8 * i + 2))))), (0, .ref b), (1, ra V 0), (2, ra V 87), (3, .ref lo), (4, .int (nI (8 * i)))] dL_law_870 (by decide) rfl ?_
    refine x_aload_n C1 dL_law_872 rfl 3 rfl ?_
    refine x_arefn C1 dL_law_873 rfl 1 rfl ?_
    refine x_iload C1 dL_law_874 5 rfl ?_
    refine x_iconst C1 (1 : Int32) (by decide) dL_law_876 ?_
    refine x_iadd C1 dL_law_877 ?_
    refine x_sld C1 hX hbl hbA (8 * i + 1) (nI_add (8 * i) 1) (by omega) hL dL_law_878 ?_
    refine x_arefn C1 dL_law_879 rfl 1 rfl ?_
    refine x_iload C1 dL_law_880 5 rfl ?_
    refine x_iconst C1 (2 : Int32) (by decide) dL_law_882 ?_
    refine x_iadd C1 dL_law_883 ?_
    refine x_sld C1 hX hbl hbA (8 * i + 2) (nI_add (8 * i) 2) (by omega) hL dL_law_884 ?_
    refine x_callV C1 sh_87 (by decide) rfl [.int (xs (8 * i + 1)), .int (xs (8 * i + 2))] (c_X9_addArgument l V hV (σ) (xs (8 * i + 1)) (xs (8 * i + 2)) (mV_E (em_rf) h.1.V)) (cwV 2 C1.2.2.2.2.1 gL_law_X9_addArgument rfl rfl rfl (by decide +kernel) ⟨Nat.le_of_ble_eq_true rfl, Nat.le_of_ble_eq_true rfl⟩) rfl rfl (Nat.le_of_ble_eq_true rfl) dL_law_885 ⟨hcs.1, hcs.2⟩ (x_kC (fun y u h1 h2 => ?_))
    have hu := h2 (by rw [sp.1]; exact hk)
    rw [sp.1] at hu
    subst hu
    refine x_nm (fun yv hyv => ?_)
    refine x_istore C1 [(6, .int yv), (5, .int (nI (kArg σ (xs (8 * i + 1)) (xs (8 * i + 2))))), (0, .ref b), (1, ra V 0), (2, ra V 87), (3, .ref lo), (4, .int (nI (8 * i)))] dL_law_888 (by decide) rfl ?_
    refine x_aload_n C1 dL_law_890 rfl 4 rfl ?_
    refine x_callV C1 sh_87 (by decide) rfl [] (c_X9_thrown l V hV _) (cwV 0 C1.2.2.2.2.1 gL_law_X9_thrown rfl rfl rfl (by decide +kernel) ⟨Nat.le_of_ble_eq_true rfl, Nat.le_of_ble_eq_true rfl⟩) rfl rfl (Nat.le_of_ble_eq_true rfl) dL_law_891 ⟨hcs.1, hcs.2⟩ (x_kI ?_)
    refine x_v (y := (nI (kArg σ (xs (8 * i + 1)) (xs (8 * i + 2))))) (xw_at _ _ _ _) ?_
    refine x_iload C1 dL_law_894 1 rfl ?_
    refine x_icmp_eq C1 901 dL_law_896 rfl (fun _ => ?_) (fun hq => absurd rfl hq)
    refine x_iload C1 dL_law_901 1 rfl ?_
    refine x_if_ne C1 918 dL_law_903 rfl (fun _ => ?_) (fun hq => absurd hq (hne hk))
    refine x_goto C1 1977 dL_law_918 rfl ?_
    refine x_lv [2, 3, 4, 5, 6] [(0, .ref b), (1, ra V 0), (2, ra V 87), (3, .ref lo), (4, .int (nI (8 * i)))] rfl ?_
    exact J _ g' sp.2

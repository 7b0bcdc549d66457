/-! The law holds the two checkers against each other. -/
set_option maxHeartbeats 4000000 in
set_option maxRecDepth 100000 in
theorem M_1 {p : Program} {l : Launch} {e : Env} {s : State} {m : MethodId} {args : Array Value} {below : List Frame} {meth : Method} {c : Code} {V : xV} {E : va_W} {A : Nat → Prop} {Q : State → Prop} {cells slots b pa fr t g : Nat} (C : XC p s m args c cL_law 17 RL wsL_law V E A) (hV : xInj V) (hcs : cells + 0 ≤ room_1.cells ∧ slots + 0 ≤ room_1.slots) {σ : xS} (z2 : okZ σ 202) (z3 : okZ σ 203) (hg : g < 16) (hp : bt (allI σ) g = true) (K : X p l e room_1 s m args below meth c V E A 17 cells slots Q (insA σ) 653 [(0, .ref b), (1, ra V 0), (2, ra V 87), (3, ra V 88), (4, ra V 89), (5, ra V 90), (6, ra V 91), (7, ra V 92), (8, ra V 93), (9, .int (nI fr)), (10, .int (nI t)), (11, .int (nI g)), (12, .ref pa)] [.int (szI (insA σ) (nI g))]) : X p l e room_1 s m args below meth c V E A 17 cells slots Q σ 647 [(0, .ref b), (1, ra V 0), (2, ra V 87), (3, ra V 88), (4, ra V 89), (5, ra V 90), (6, ra V 91), (7, ra V 92), (8, ra V 93), (9, .int (nI fr)), (10, .int (nI t)), (11, .int (nI g)), (12, .ref pa)] [] := by
  refine x_aload_n C dL_law_647 rfl 1 rfl ?_
  refine x_iload C dL_law_648 11 rfl ?_
  refine x_callV C sh_0 (by decide) rfl [.int (nI g)] (c_X8_errorsIn l V hV σ (nI g) z2 z3 (kEIn_0 hg hp)) (cwV 1 C.2.2.2.2.1 gL_law_X8_errorsIn rfl rfl rfl (by decide +kernel) ⟨Nat.le_of_ble_eq_true rfl, Nat.le_of_ble_eq_true rfl⟩) rfl rfl (Nat.le_of_ble_eq_true rfl) dL_law_650 hcs (x_kI ?_)
  exact K

set_option maxHeartbeats 4000000 in
set_option maxRecDepth 100000 in
theorem M_2 {p : Program} {l : Launch} {e : Env} {s : State} {m : MethodId} {args : Array Value} {below : List Frame} {meth : Method} {c : Code} {V : xV} {E : va_W} {A : Nat → Prop} {Q : State → Prop} {cells slots b pa fr t g : Nat} (C : XC p s m args c cL_law 17 RL wsL_law V E A) (hV : xInj V) (hcs : cells + 0 ≤ room_1.cells ∧ slots + 0 ≤ room_1.slots) {σ : xS} {v : Int32} (z2 : okZ σ 202) (z3 : okZ σ 203) (hv : v = insA σ 207 0) (K : X p l e room_1 s m args below meth c V E A 17 cells slots Q (insA σ) 661 [(0, .ref b), (1, .ref pa), (2, ra V 87), (3, ra V 88), (4, ra V 89), (5, ra V 90), (6, ra V 91), (7, ra V 92), (8, ra V 93), (9, .int (nI fr)), (10, .int (nI t)), (11, .int (nI g)), (12, ra V 0)] []) : X p l e room_1 s m args below meth c V E A 17 cells slots Q σ 653 [(0, .ref b), (1, .ref pa), (2, ra V 87), (3, ra V 88), (4, ra V 89), (5, ra V 90), (6, ra V 91), (7, ra V 92), (8, ra V 93), (9, .int (nI fr)), (10, .int (nI t)), (11, .int (nI g)), (12, ra V 0)] [.int v] := by
  refine x_aload C dL_law_653 12 rfl ?_
  refine x_callV C sh_0 (by decide) rfl [] (c_X8_errorCount l V hV σ  z2 z3) (cwV 0 C.2.2.2.2.1 gL_law_X8_errorCount rfl rfl rfl (by decide +kernel) ⟨Nat.le_of_ble_eq_true rfl, Nat.le_of_ble_eq_true rfl⟩) rfl rfl (Nat.le_of_ble_eq_true rfl) dL_law_655 hcs (x_kI ?_)
  refine x_icmp_ne C 678 dL_law_658 rfl (fun h1 => absurd h1 (fun q => q hv)) (fun h1 => ?_)
  exact K

set_option maxHeartbeats 4000000 in
set_option maxRecDepth 100000 in
theorem M_3 {p : Program} {l : Launch} {e : Env} {s : State} {m : MethodId} {args : Array Value} {below : List Frame} {meth : Method} {c : Code} {V : xV} {E : va_W} {A : Nat → Prop} {Q : State → Prop} {cells slots b pa fr t g : Nat} (C : XC p s m args c cL_law 17 RL wsL_law V E A) (hV : xInj V) (hcs : cells + 0 ≤ room_1.cells ∧ slots + 0 ≤ room_1.slots) {σ : xS} (z2 : okZ σ 202) (z3 : okZ σ 203) (K : X p l e room_1 s m args below meth c V E A 17 cells slots Q (insA σ) 670 [(0, .ref b), (1, ra V 0), (2, ra V 87), (3, ra V 88), (4, ra V 89), (5, ra V 90), (6, ra V 91), (7, ra V 92), (8, ra V 93), (9, .int (nI fr)), (10, .int (nI t)), (11, .int (nI g)), (12, .ref pa)] [.int (rgt σ >>> (nI g &&& 31) &&& 1)]) : X p l e room_1 s m args below meth c V E A 17 cells slots Q σ 661 [(0, .ref b), (1, ra V 0), (2, ra V 87), (3, ra V 88), (4, ra V 89), (5, ra V 90), (6, ra V 91), (7, ra V 92), (8, ra V 93), (9, .int (nI fr)), (10, .int (nI t)), (11, .int (nI g)), (12, .ref pa)] [] := by
  refine x_aload_n C dL_law_661 rfl 1 rfl ?_
  refine x_callV C sh_0 (by decide) rfl [] (c_X8_right l V hV σ  z2 z3) (cwV 0 C.2.2.2.2.1 gL_law_X8_right rfl rfl rfl (by decide +kernel) ⟨Nat.le_of_ble_eq_true rfl, Nat.le_of_ble_eq_true rfl⟩) rfl rfl (Nat.le_of_ble_eq_true rfl) dL_law_662 hcs (x_kI ?_)
  refine x_iload C dL_law_665 11 rfl ?_
  refine x_ishr C dL_law_667 ?_
  refine x_iconst C (1 : Int32) (by decide) dL_law_668 ?_
  refine x_iand C dL_law_669 ?_
  exact K

set_option maxHeartbeats 4000000 in
set_option maxRecDepth 100000 in
theorem M_4 {p : Program} {l : Launch} {e : Env} {s : State} {m : MethodId} {args : Array Value} {below : List Frame} {meth : Method} {c : Code} {V : xV} {E : va_W} {A : Nat → Prop} {Q : State → Prop} {cells slots b pa fr t g : Nat} (C : XC p s m args c cL_law 17 RL wsL_law V E A) (hV : xInj V) (hcs : cells + 0 ≤ room_1.cells ∧ slots + 0 ≤ room_1.slots) {σ : xS} {v : Int32} (z2 : okZ σ 202) (z3 : okZ σ 203) (hv : v = rgt σ) (K : X p l e room_1 s m args below meth c V E A 17 cells slots Q (insA σ) 680 [(0, .ref b), (1, .ref pa), (2, ra V 87), (3, ra V 88), (4, ra V 89), (5, ra V 90), (6, ra V 91), (7, ra V 92), (8, ra V 93), (9, .int (nI fr)), (10, .int (nI t)), (11, .int (nI g)), (12, ra V 0)] []) : X p l e room_1 s m args below meth c V E A 17 cells slots Q σ 670 [(0, .ref b), (1, .ref pa), (2, ra V 87), (3, ra V 88), (4, ra V 89), (5, ra V 90), (6, ra V 91), (7, ra V 92), (8, ra V 93), (9, .int (nI fr)), (10, .int (nI t)), (11, .int (nI g)), (12, ra V 0)] [.int v] := by
  refine x_aload C dL_law_670 12 rfl ?_
  refine x_callV C sh_0 (by decide) rfl [] (c_X8_right l V hV σ  z2 z3) (cwV 0 C.2.2.2.2.1 gL_law_X8_right rfl rfl rfl (by decide +kernel) ⟨Nat.le_of_ble_eq_true rfl, Nat.le_of_ble_eq_true rfl⟩) rfl rfl (Nat.le_of_ble_eq_true rfl) dL_law_672 hcs (x_kI ?_)
  refine x_icmp_eq C 680 dL_law_675 rfl (fun h1 => ?_) (fun h1 => absurd h1 (fun q => q hv))
  exact K

set_option maxHeartbeats 4000000 in
set_option maxRecDepth 100000 in
theorem M_5 {p : Program} {l : Launch} {e : Env} {s : State} {m : MethodId} {args : Array Value} {below : List Frame} {meth : Method} {c : Code} {V : xV} {E : va_W} {A : Nat → Prop} {Q : State → Prop} {cells slots b pa fr t g : Nat} (C : XC p s m args c cL_law 17 RL wsL_law V E A) (hV : xInj V) (hcs : cells + 0 ≤ room_1.cells ∧ slots + 0 ≤ room_1.slots) {σ : xS} {k ne : Nat} (z2 : okZ σ 202) (z3 : okZ σ 203) (hg : g < 16) (hp : bt (allI σ) g = true) (hne : ne ≤ 14) (hk : k < ne) (h4 : σ 87 4 = nI ne) (h5 : σ 205 0 = nI ne) (K : X p l e room_1 s m args below meth c V E A 17 cells slots Q (gts (look σ (nI g))) 699 [(0, .ref b), (1, ra V 0), (2, ra V 87), (3, ra V 88), (4, ra V 89), (5, ra V 90), (6, ra V 91), (7, ra V 92), (8, ra V 93), (9, .int (nI fr)), (10, .int (nI t)), (11, .int (nI g)), (12, .ref pa), (13, .int (nI k))] [.int (tyIn (gts (look σ (nI g))) (nI k) (nI g))]) : X p l e room_1 s m args below meth c V E A 17 cells slots Q σ 683 [(0, .ref b), (1, ra V 0), (2, ra V 87), (3, ra V 88), (4, ra V 89), (5, ra V 90), (6, ra V 91), (7, ra V 92), (8, ra V 93), (9, .int (nI fr)), (10, .int (nI t)), (11, .int (nI g)), (12, .ref pa), (13, .int (nI k))] [] := by
  refine x_iload C dL_law_683 13 rfl ?_
  refine x_aload_n C dL_law_685 rfl 2 rfl ?_
  refine x_iconst C (4 : Int32) (by decide) dL_law_686 ?_
  refine x_iald C sh_87 (vp_in_nI (n := 4) (by omega) (by decide)) dL_law_687 ?_
  rw [show (4 : Int32).toNatClampNeg = 4 from nI_clamp (n := 4) (by omega)]
  refine x_v (y := nI ne) (h4) ?_
  refine x_icmp_ge C 718 dL_law_688 rfl (fun h1 => absurd h1 (nI_ge hk (by omega))) (fun h1 => ?_)
  refine x_aload_n C dL_law_691 rfl 1 rfl ?_
  refine x_iload C dL_law_692 13 rfl ?_
  refine x_iload C dL_law_694 11 rfl ?_
  refine x_callV C sh_0 (by decide) rfl [.int (nI k), .int (nI g)] (c_X8_typeOf l V hV σ (nI k) (nI g) z2 z3 (kTyp_0 h5 (by omega) (vp_in_nI hk (by omega)) hg hp)) (cwV 2 C.2.2.2.2.1 gL_law_X8_typeOf rfl rfl rfl (by decide +kernel) ⟨Nat.le_of_ble_eq_true rfl, Nat.le_of_ble_eq_true rfl⟩) rfl rfl (Nat.le_of_ble_eq_true rfl) dL_law_696 hcs (x_kI ?_)
  exact K

set_option maxHeartbeats 4000000 in
set_option maxRecDepth 100000 in
theorem M_6 {p : Program} {l : Launch} {e : Env} {s : State} {m : MethodId} {args : Array Value} {below : List Frame} {meth : Method} {c : Code} {V : xV} {E : va_W} {A : Nat → Prop} {Q : State → Prop} {cells slots b pa fr t g : Nat} (C : XC p s m args c cL_law 17 RL wsL_law V E A) (hV : xInj V) (hcs : cells + 0 ≤ room_1.cells ∧ slots + 0 ≤ room_1.slots) {σ : xS} {k ne : Nat} {v : Int32} (z2 : okZ σ 202) (z3 : okZ σ 203) (hp : bt (allI σ) 0 = true) (hne : ne ≤ 14) (hk : k < ne) (h5 : σ 205 0 = nI ne) (hv : v = tyIn (gts (look σ (nI 0))) (nI k) (nI 0)) (K : X p l e room_1 s m args below meth c V E A 17 cells slots Q (gts (look σ (nI 0))) 683 [(0, .ref b), (1, .ref pa), (2, ra V 87), (3, ra V 88), (4, ra V 89), (5, ra V 90), (6, ra V 91), (7, ra V 92), (8, ra V 93), (9, .int (nI fr)), (10, .int (nI t)), (11, .int (nI g)), (12, ra V 0), (13, .int (nI (k + 1)))] []) : X p l e room_1 s m args below meth c V E A 17 cells slots Q σ 699 [(0, .ref b), (1, .ref pa), (2, ra V 87), (3, ra V 88), (4, ra V 89), (5, ra V 90), (6, ra V 91), (7, ra V 92), (8, ra V 93), (9, .int (nI fr)), (10, .int (nI t)), (11, .int (nI g)), (12, ra V 0), (13, .int (nI k))] [.int v] := by
  refine x_aload C dL_law_699 12 rfl ?_
  refine x_iload C dL_law_701 13 rfl ?_
  refine x_iconst C (0 : Int32) (by decide) dL_law_703 ?_
  refine x_callV C sh_0 (by decide) rfl [.int (nI k), .int (0 : Int32)] (c_X8_typeOf l V hV σ (nI k) (0 : Int32) z2 z3 (kTyp_0 (c := 0) h5 (by omega) (vp_in_nI hk (by omega)) (by decide) hp)) (cwV 2 C.2.2.2.2.1 gL_law_X8_typeOf rfl rfl rfl (by decide +kernel) ⟨Nat.le_of_ble_eq_true rfl, Nat.le_of_ble_eq_true rfl⟩) rfl rfl (Nat.le_of_ble_eq_true rfl) dL_law_704 hcs (x_kI ?_)
  refine x_icmp_eq C 712 dL_law_707 rfl (fun h1 => ?_) (fun h1 => absurd h1 (fun q => q hv))
  refine x_iinc C (q := 13) ((nI k) + (1 : Int32)) [(13, .int ((nI k) + (1 : Int32))), (0, .ref b), (1, .ref pa), (2, ra V 87), (3, ra V 88), (4, ra V 89), (5, ra V 90), (6, ra V 91), (7, ra V 92), (8, ra V 93), (9, .int (nI fr)), (10, .int (nI t)), (11, .int (nI g)), (12, ra V 0)] dL_law_712 rfl rfl (by decide) rfl ?_
  refine x_goto C 683 dL_law_715 rfl ?_
  refine x_lv [1, 2, 3, 4, 5, 6, 7, 8, 9, 10, 11, 12, 13, 0] [(0, .ref b), (1, .ref pa), (2, ra V 87), (3, ra V 88), (4, ra V 89), (5, ra V 90), (6, ra V 91), (7, ra V 92), (8, ra V 93), (9, .int (nI fr)), (10, .int (nI t)), (11, .int (nI g)), (12, ra V 0), (13, .int ((nI k) + (1 : Int32)))] rfl ?_
  rw [← nI_succ]
  exact K

set_option maxHeartbeats 4000000 in
set_option maxRecDepth 100000 in
theorem M_7 {p : Program} {l : Launch} {e : Env} {s : State} {m : MethodId} {args : Array Value} {below : List Frame} {meth : Method} {c : Code} {V : xV} {E : va_W} {A : Nat → Prop} {Q : State → Prop} {cells slots b pa fr t g : Nat} (C : XC p s m args c cL_law 17 RL wsL_law V E A) (hV : xInj V) (hcs : cells + 0 ≤ room_1.cells ∧ slots + 0 ≤ room_1.slots) {σ : xS} {ne : Nat} (h4 : σ 87 4 = nI ne) (K : X p l e room_1 s m args below meth c V E A 17 cells slots Q σ 724 [(0, .ref b), (1, ra V 0), (2, ra V 87), (3, ra V 88), (4, ra V 89), (5, ra V 90), (6, ra V 91), (7, ra V 92), (8, ra V 93), (9, .int (nI fr)), (10, .int (nI t)), (11, .int (nI g)), (12, .ref pa), (13, .int (0 : Int32)), (14, .int (0 : Int32))] []) : X p l e room_1 s m args below meth c V E A 17 cells slots Q σ 683 [(0, .ref b), (1, ra V 0), (2, ra V 87), (3, ra V 88), (4, ra V 89), (5, ra V 90), (6, ra V 91), (7, ra V 92), (8, ra V 93), (9, .int (nI fr)), (10, .int (nI t)), (11, .int (nI g)), (12, .ref pa), (13, .int (nI ne))] [] := by
  refine x_iload C dL_law_683 13 rfl ?_
  refine x_aload_n C dL_law_685 rfl 2 rfl ?_
  refine x_iconst C (4 : Int32) (by decide) dL_law_686 ?_
  refine x_iald C sh_87 (vp_in_nI (n := 4) (by omega) (by decide)) dL_law_687 ?_
  rw [show (4 : Int32).toNatClampNeg = 4 from nI_clamp (n := 4) (by omega)]
  refine x_v (y := nI ne) (h4) ?_
  refine x_icmp_ge C 718 dL_law_688 rfl (fun h1 => ?_) (fun h1 => absurd h1 (fun q => q (Int32.le_refl _)))
  refine x_iconst C (0 : Int32) (by decide) dL_law_718 ?_
  refine x_istore C [(13, .int (0 : Int32)), (0, .ref b), (1, ra V 0), (2, ra V 87), (3, ra V 88), (4, ra V 89), (5, ra V 90), (6, ra V 91), (7, ra V 92), (8, ra V 93), (9, .int (nI fr)), (10, .int (nI t)), (11, .int (nI g)), (12, .ref pa)] dL_law_719 (by decide) rfl ?_
  refine x_iconst C (0 : Int32) (by decide) dL_law_721 ?_
  refine x_istore C [(14, .int (0 : Int32)), (13, .int (0 : Int32)), (0, .ref b), (1, ra V 0), (2, ra V 87), (3, ra V 88), (4, ra V 89), (5, ra V 90), (6, ra V 91), (7, ra V 92), (8, ra V 93), (9, .int (nI fr)), (10, .int (nI t)), (11, .int (nI g)), (12, .ref pa)] dL_law_722 (by decide) rfl ?_
  refine x_lv [2, 3, 4, 5, 6, 7, 8, 9, 10, 11, 12, 13, 14, 1, 0] [(0, .ref b), (1, ra V 0), (2, ra V 87), (3, ra V 88), (4, ra V 89), (5, ra V 90), (6, ra V 91), (7, ra V 92), (8, ra V 93), (9, .int (nI fr)), (10, .int (nI t)), (11, .int (nI g)), (12, .ref pa), (13, .int (0 : Int32)), (14, .int (0 : Int32))] rfl ?_
  exact K

set_option maxHeartbeats 4000000 in
set_option maxRecDepth 100000 in
theorem M_4b {p : Program} {l : Launch} {e : Env} {s : State} {m : MethodId} {args : Array Value} {below : List Frame} {meth : Method} {c : Code} {V : xV} {E : va_W} {A : Nat → Prop} {Q : State → Prop} {cells slots b pa fr t g : Nat} (C : XC p s m args c cL_law 17 RL wsL_law V E A) (hV : xInj V) (hcs : cells + 0 ≤ room_1.cells ∧ slots + 0 ≤ room_1.slots) {σ : xS} (K : X p l e room_1 s m args below meth c V E A 17 cells slots Q σ 683 [(0, .ref b), (1, ra V 0), (2, ra V 87), (3, ra V 88), (4, ra V 89), (5, ra V 90), (6, ra V 91), (7, ra V 92), (8, ra V 93), (9, .int (nI fr)), (10, .int (nI t)), (11, .int (nI g)), (12, .ref pa), (13, .int (0 : Int32))] []) : X p l e room_1 s m args below meth c V E A 17 cells slots Q σ 680 [(0, .ref b), (1, ra V 0), (2, ra V 87), (3, ra V 88), (4, ra V 89), (5, ra V 90), (6, ra V 91), (7, ra V 92), (8, ra V 93), (9, .int (nI fr)), (10, .int (nI t)), (11, .int (nI g)), (12, .ref pa)] [] := by
  refine x_iconst C (0 : Int32) (by decide) dL_law_680 ?_
  refine x_istore C [(13, .int (0 : Int32)), (0, .ref b), (1, ra V 0), (2, ra V 87), (3, ra V 88), (4, ra V 89), (5, ra V 90), (6, ra V 91), (7, ra V 92), (8, ra V 93), (9, .int (nI fr)), (10, .int (nI t)), (11, .int (nI g)), (12, .ref pa)] dL_law_681 (by decide) rfl ?_
  refine x_lv [1, 2, 3, 4, 5, 6, 7, 8, 9, 10, 11, 12, 13, 0] [(0, .ref b), (1, ra V 0), (2, ra V 87), (3, ra V 88), (4, ra V 89), (5, ra V 90), (6, ra V 91), (7, ra V 92), (8, ra V 93), (9, .int (nI fr)), (10, .int (nI t)), (11, .int (nI g)), (12, .ref pa), (13, .int (0 : Int32))] rfl ?_
  exact K

set_option maxHeartbeats 4000000 in
set_option maxRecDepth 100000 in
theorem M_8 {p : Program} {l : Launch} {e : Env} {s : State} {m : MethodId} {args : Array Value} {below : List Frame} {meth : Method} {c : Code} {V : xV} {E : va_W} {A : Nat → Prop} {Q : State → Prop} {cells slots b pa fr t g : Nat} (C : XC p s m args c cL_law 17 RL wsL_law V E A) (hV : xInj V) (hcs : cells + 0 ≤ room_1.cells ∧ slots + 0 ≤ room_1.slots) {σ : xS} {k n : Nat} {y : Int32} (z2 : okZ σ 202) (z3 : okZ σ 203) (hn : insA σ 207 0 = nI n) (hk : n ≤ k) (hkb : k < 2 ^ 31) (K : X p l e room_1 s m args below meth c V E A 17 cells slots Q (insA σ) 798 [(0, .ref b), (1, ra V 0), (2, ra V 87), (3, ra V 88), (4, ra V 89), (5, ra V 90), (6, ra V 91), (7, ra V 92), (8, ra V 93), (9, .int (nI fr)), (10, .int (nI t)), (11, .int (nI g)), (12, .ref pa)] []) : X p l e room_1 s m args below meth c V E A 17 cells slots Q σ 724 [(0, .ref b), (1, ra V 0), (2, ra V 87), (3, ra V 88), (4, ra V 89), (5, ra V 90), (6, ra V 91), (7, ra V 92), (8, ra V 93), (9, .int (nI fr)), (10, .int (nI t)), (11, .int (nI g)), (12, .ref pa), (13, .int y), (14, .int (nI k))] [] := by
  refine x_iload C dL_law_724 14 rfl ?_
  refine x_aload_n C dL_law_726 rfl 1 rfl ?_
  refine x_callV C sh_0 (by decide) rfl [] (c_X8_errorCount l V hV σ  z2 z3) (cwV 0 C.2.2.2.2.1 gL_law_X8_errorCount rfl rfl rfl (by decide +kernel) ⟨Nat.le_of_ble_eq_true rfl, Nat.le_of_ble_eq_true rfl⟩) rfl rfl (Nat.le_of_ble_eq_true rfl) dL_law_727 hcs (x_kI ?_)
  refine x_v (y := nI n) (hn) ?_
  refine x_icmp_ge C 798 dL_law_730 rfl (fun h1 => ?_) (fun h1 => absurd h1 (fun q => q (nI_le (a := n) (b := k) hk hkb)))
  refine x_lv [0, 1, 2, 3, 4, 5, 6, 7, 8, 9, 10, 11, 12] [(0, .ref b), (1, ra V 0), (2, ra V 87), (3, ra V 88), (4, ra V 89), (5, ra V 90), (6, ra V 91), (7, ra V 92), (8, ra V 93), (9, .int (nI fr)), (10, .int (nI t)), (11, .int (nI g)), (12, .ref pa)] rfl ?_
  exact K

set_option maxHeartbeats 4000000 in
set_option maxRecDepth 100000 in
theorem M_9 {p : Program} {l : Launch} {e : Env} {s : State} {m : MethodId} {args : Array Value} {below : List Frame} {meth : Method} {c : Code} {V : xV} {E : va_W} {A : Nat → Prop} {Q : State → Prop} {cells slots b pa fr t g : Nat} (C : XC p s m args c cL_law 17 RL wsL_law V E A) (hV : xInj V) (hcs : cells + 0 ≤ room_1.cells ∧ slots + 0 ≤ room_1.slots) {σ : xS} {k n : Nat} {y : Int32} (z2 : okZ σ 202) (z3 : okZ σ 203) (hg : g < 16) (hn : insA σ 207 0 = nI n) (hnb : n < 2 ^ 31) (hk : k < n) (hz : n = zc (Er (insA σ)) 600) (K0 : bt (prdO (insA (insA σ)) (nI k)) g = false → X p l e room_1 s m args below meth c V E A 17 cells slots Q (insA (insA σ)) 792 [(0, .ref b), (1, ra V 0), (2, ra V 87), (3, ra V 88), (4, ra V 89), (5, ra V 90), (6, ra V 91), (7, ra V 92), (8, ra V 93), (9, .int (nI fr)), (10, .int (nI t)), (11, .int (nI g)), (12, .ref pa), (13, .int y), (14, .int (nI k))] []) (K1 : bt (prdO (insA (insA σ)) (nI k)) g = true → X p l e room_1 s m args below meth c V E A 17 cells slots Q (insA (insA σ)) 751 [(0, .ref b), (1, ra V 0), (2, ra V 87), (3, ra V 88), (4, ra V 89), (5, ra V 90), (6, ra V 91), (7, ra V 92), (8, ra V 93), (9, .int (nI fr)), (10, .int (nI t)), (11, .int (nI g)), (12, .ref pa), (13, .int y), (14, .int (nI k))] []) : X p l e room_1 s m args below meth c V E A 17 cells slots Q σ 724 [(0, .ref b), (1, ra V 0), (2, ra V 87), (3, ra V 88), (4, ra V 89), (5, ra V 90), (6, ra V 91), (7, ra V 92), (8, ra V 93), (9, .int (nI fr)), (10, .int (nI t)), (11, .int (nI g)), (12, .ref pa), (13, .int y), (14, .int (nI k))] [] := by
  refine x_iload C dL_law_724 14 rfl ?_
  refine x_aload_n C dL_law_726 rfl 1 rfl ?_
  refine x_callV C sh_0 (by decide) rfl [] (c_X8_errorCount l V hV σ  z2 z3) (cwV 0 C.2.2.2.2.1 gL_law_X8_errorCount rfl rfl rfl (by decide +kernel) ⟨Nat.le_of_ble_eq_true rfl, Nat.le_of_ble_eq_true rfl⟩) rfl rfl (Nat.le_of_ble_eq_true rfl) dL_law_727 hcs (x_kI ?_)
  refine x_v (y := nI n) (hn) ?_
  refine x_icmp_ge C 798 dL_law_730 rfl (fun h1 => absurd h1 (nI_ge hk hnb)) (fun h1 => ?_)
  refine x_aload_n C dL_law_733 rfl 1 rfl ?_
  refine x_iload C dL_law_734 14 rfl ?_
  refine x_iconst C (2 : Int32) (by decide) dL_law_736 ?_
  refine x_callV C sh_0 (by decide) rfl [.int (nI k), .int (2 : Int32)] (c_X8_error l V hV (insA σ) (nI k) (2 : Int32) (okZ_of (insA_q _ 202 (by decide)) z2) (okZ_of (insA_q _ 203 (by decide)) z3) (kErr_0 (by rw [← hz]; exact hk) (Or.inr (Or.inr rfl)))) (cwV 2 C.2.2.2.2.1 gL_law_X8_error rfl rfl rfl (by decide +kernel) ⟨Nat.le_of_ble_eq_true rfl, Nat.le_of_ble_eq_true rfl⟩) rfl rfl (Nat.le_of_ble_eq_true rfl) dL_law_737 hcs (x_kI ?_)
  refine x_v (y := prdO (insA (insA σ)) (nI k)) (rfl) ?_
  refine x_iload C dL_law_740 11 rfl ?_
  refine x_ishr C dL_law_742 ?_
  refine x_iconst C (1 : Int32) (by decide) dL_law_743 ?_
  refine x_iand C dL_law_744 ?_
  refine x_v (y := bI (bt (prdO (insA (insA σ)) (nI k)) g)) (shr_bt _ (by omega)) ?_
  refine x_bif_ne C 751 dL_law_745 rfl (fun h2 => ?_) (fun h2 => ?_)
  · exact K1 h2
  · refine x_goto C 792 dL_law_748 rfl ?_
    exact K0 h2

set_option maxHeartbeats 4000000 in
set_option maxRecDepth 100000 in
theorem M_10 {p : Program} {l : Launch} {e : Env} {s : State} {m : MethodId} {args : Array Value} {below : List Frame} {meth : Method} {c : Code} {V : xV} {E : va_W} {A : Nat → Prop} {Q : State → Prop} {cells slots b pa fr t g : Nat} (C : XC p s m args c cL_law 17 RL wsL_law V E A) (hV : xInj V) (hcs : cells + 0 ≤ room_1.cells ∧ slots + 0 ≤ room_1.slots) {σ : xS} {j k : Nat} (z2 : okZ σ 202) (z3 : okZ σ 203) (hj : j < zc (Er σ) 600) (K : X p l e room_1 s m args below meth c V E A 17 cells slots Q (insA σ) 759 [(0, .ref b), (1, .ref pa), (2, ra V 87), (3, ra V 88), (4, ra V 89), (5, ra V 90), (6, ra V 91), (7, ra V 92), (8, ra V 93), (9, .int (nI fr)), (10, .int (nI t)), (11, .int (nI g)), (12, ra V 0), (13, .int (nI j)), (14, .int (nI k))] [.int (kndO (insA σ) (nI j))]) : X p l e room_1 s m args below meth c V E A 17 cells slots Q σ 751 [(0, .ref b), (1, .ref pa), (2, ra V 87), (3, ra V 88), (4, ra V 89), (5, ra V 90), (6, ra V 91), (7, ra V 92), (8, ra V 93), (9, .int (nI fr)), (10, .int (nI t)), (11, .int (nI g)), (12, ra V 0), (13, .int (nI j)), (14, .int (nI k))] [] := by
  refine x_aload C dL_law_751 12 rfl ?_
  refine x_iload C dL_law_753 13 rfl ?_
  refine x_iconst C (0 : Int32) (by decide) dL_law_755 ?_
  refine x_callV C sh_0 (by decide) rfl [.int (nI j), .int (0 : Int32)] (c_X8_error l V hV σ (nI j) (0 : Int32) z2 z3 (kErr_0 hj (Or.inl rfl))) (cwV 2 C.2.2.2.2.1 gL_law_X8_error rfl rfl rfl (by decide +kernel) ⟨Nat.le_of_ble_eq_true rfl, Nat.le_of_ble_eq_true rfl⟩) rfl rfl (Nat.le_of_ble_eq_true rfl) dL_law_756 hcs (x_kI ?_)
  refine x_v (y := kndO (insA σ) (nI j)) (rfl) ?_
  exact K

set_option maxHeartbeats 4000000 in
set_option maxRecDepth 100000 in
theorem M_11 {p : Program} {l : Launch} {e : Env} {s : State} {m : MethodId} {args : Array Value} {below : List Frame} {meth : Method} {c : Code} {V : xV} {E : va_W} {A : Nat → Prop} {Q : State → Prop} {cells slots b pa fr t g : Nat} (C : XC p s m args c cL_law 17 RL wsL_law V E A) (hV : xInj V) (hcs : cells + 0 ≤ room_1.cells ∧ slots + 0 ≤ room_1.slots) {σ : xS} {j k : Nat} {v : Int32} (z2 : okZ σ 202) (z3 : okZ σ 203) (hk : k < zc (Er σ) 600) (hv : v = kndO (insA σ) (nI k)) (K : X p l e room_1 s m args below meth c V E A 17 cells slots Q (insA σ) 769 [(0, .ref b), (1, ra V 0), (2, ra V 87), (3, ra V 88), (4, ra V 89), (5, ra V 90), (6, ra V 91), (7, ra V 92), (8, ra V 93), (9, .int (nI fr)), (10, .int (nI t)), (11, .int (nI g)), (12, .ref pa), (13, .int (nI j)), (14, .int (nI k))] []) : X p l e room_1 s m args below meth c V E A 17 cells slots Q σ 759 [(0, .ref b), (1, ra V 0), (2, ra V 87), (3, ra V 88), (4, ra V 89), (5, ra V 90), (6, ra V 91), (7, ra V 92), (8, ra V 93), (9, .int (nI fr)), (10, .int (nI t)), (11, .int (nI g)), (12, .ref pa), (13, .int (nI j)), (14, .int (nI k))] [.int v] := by
  refine x_aload_n C dL_law_759 rfl 1 rfl ?_
  refine x_iload C dL_law_760 14 rfl ?_
  refine x_iconst C (0 : Int32) (by decide) dL_law_762 ?_
  refine x_callV C sh_0 (by decide) rfl [.int (nI k), .int (0 : Int32)] (c_X8_error l V hV σ (nI k) (0 : Int32) z2 z3 (kErr_0 hk (Or.inl rfl))) (cwV 2 C.2.2.2.2.1 gL_law_X8_error rfl rfl rfl (by decide +kernel) ⟨Nat.le_of_ble_eq_true rfl, Nat.le_of_ble_eq_true rfl⟩) rfl rfl (Nat.le_of_ble_eq_true rfl) dL_law_763 hcs (x_kI ?_)
  refine x_v (y := kndO (insA σ) (nI k)) (rfl) ?_
  refine x_icmp_ne C 787 dL_law_766 rfl (fun h1 => absurd h1 (fun q => q hv)) (fun h1 => ?_)
  exact K

set_option maxHeartbeats 4000000 in
set_option maxRecDepth 100000 in
theorem M_12 {p : Program} {l : Launch} {e : Env} {s : State} {m : MethodId} {args : Array Value} {below : List Frame} {meth : Method} {c : Code} {V : xV} {E : va_W} {A : Nat → Prop} {Q : State → Prop} {cells slots b pa fr t g : Nat} (C : XC p s m args c cL_law 17 RL wsL_law V E A) (hV : xInj V) (hcs : cells + 0 ≤ room_1.cells ∧ slots + 0 ≤ room_1.slots) {σ : xS} {j k : Nat} (z2 : okZ σ 202) (z3 : okZ σ 203) (hj : j < zc (Er σ) 600) (K : X p l e room_1 s m args below meth c V E A 17 cells slots Q (insA σ) 777 [(0, .ref b), (1, .ref pa), (2, ra V 87), (3, ra V 88), (4, ra V 89), (5, ra V 90), (6, ra V 91), (7, ra V 92), (8, ra V 93), (9, .int (nI fr)), (10, .int (nI t)), (11, .int (nI g)), (12, ra V 0), (13, .int (nI j)), (14, .int (nI k))] [.int (elmO (insA σ) (nI j))]) : X p l e room_1 s m args below meth c V E A 17 cells slots Q σ 769 [(0, .ref b), (1, .ref pa), (2, ra V 87), (3, ra V 88), (4, ra V 89), (5, ra V 90), (6, ra V 91), (7, ra V 92), (8, ra V 93), (9, .int (nI fr)), (10, .int (nI t)), (11, .int (nI g)), (12, ra V 0), (13, .int (nI j)), (14, .int (nI k))] [] := by
  refine x_aload C dL_law_769 12 rfl ?_
  refine x_iload C dL_law_771 13 rfl ?_
  refine x_iconst C (1 : Int32) (by decide) dL_law_773 ?_
  refine x_callV C sh_0 (by decide) rfl [.int (nI j), .int (1 : Int32)] (c_X8_error l V hV σ (nI j) (1 : Int32) z2 z3 (kErr_0 hj (Or.inr (Or.inl rfl)))) (cwV 2 C.2.2.2.2.1 gL_law_X8_error rfl rfl rfl (by decide +kernel) ⟨Nat.le_of_ble_eq_true rfl, Nat.le_of_ble_eq_true rfl⟩) rfl rfl (Nat.le_of_ble_eq_true rfl) dL_law_774 hcs (x_kI ?_)
  refine x_v (y := elmO (insA σ) (nI j)) (rfl) ?_
  exact K

set_option maxHeartbeats 4000000 in
set_option maxRecDepth 100000 in
theorem M_13 {p : Program} {l : Launch} {e : Env} {s : State} {m : MethodId} {args : Array Value} {below : List Frame} {meth : Method} {c : Code} {V : xV} {E : va_W} {A : Nat → Prop} {Q : State → Prop} {cells slots b pa fr t g : Nat} (C : XC p s m args c cL_law 17 RL wsL_law V E A) (hV : xInj V) (hcs : cells + 0 ≤ room_1.cells ∧ slots + 0 ≤ room_1.slots) {σ : xS} {j k : Nat} {v : Int32} (z2 : okZ σ 202) (z3 : okZ σ 203) (hk : k < zc (Er σ) 600) (hv : v = elmO (insA σ) (nI k)) (K : X p l e room_1 s m args below meth c V E A 17 cells slots Q (insA σ) 792 [(0, .ref b), (1, ra V 0), (2, ra V 87), (3, ra V 88), (4, ra V 89), (5, ra V 90), (6, ra V 91), (7, ra V 92), (8, ra V 93), (9, .int (nI fr)), (10, .int (nI t)), (11, .int (nI g)), (12, .ref pa), (13, .int (nI (j + 1))), (14, .int (nI k))] []) : X p l e room_1 s m args below meth c V E A 17 cells slots Q σ 777 [(0, .ref b), (1, ra V 0), (2, ra V 87), (3, ra V 88), (4, ra V 89), (5, ra V 90), (6, ra V 91), (7, ra V 92), (8, ra V 93), (9, .int (nI fr)), (10, .int (nI t)), (11, .int (nI g)), (12, .ref pa), (13, .int (nI j)), (14, .int (nI k))] [.int v] := by
  refine x_aload_n C dL_law_777 rfl 1 rfl ?_
  refine x_iload C dL_law_778 14 rfl ?_
  refine x_iconst C (1 : Int32) (by decide) dL_law_780 ?_
  refine x_callV C sh_0 (by decide) rfl [.int (nI k), .int (1 : Int32)] (c_X8_error l V hV σ (nI k) (1 : Int32) z2 z3 (kErr_0 hk (Or.inr (Or.inl rfl)))) (cwV 2 C.2.2.2.2.1 gL_law_X8_error rfl rfl rfl (by decide +kernel) ⟨Nat.le_of_ble_eq_true rfl, Nat.le_of_ble_eq_true rfl⟩) rfl rfl (Nat.le_of_ble_eq_true rfl) dL_law_781 hcs (x_kI ?_)
  refine x_v (y := elmO (insA σ) (nI k)) (rfl) ?_
  refine x_icmp_eq C 789 dL_law_784 rfl (fun h1 => ?_) (fun h1 => absurd h1 (fun q => q hv))
  refine x_iinc C (q := 13) ((nI j) + (1 : Int32)) [(13, .int ((nI j) + (1 : Int32))), (0, .ref b), (1, ra V 0), (2, ra V 87), (3, ra V 88), (4, ra V 89), (5, ra V 90), (6, ra V 91), (7, ra V 92), (8, ra V 93), (9, .int (nI fr)), (10, .int (nI t)), (11, .int (nI g)), (12, .ref pa), (14, .int (nI k))] dL_law_789 rfl rfl (by decide) rfl ?_
  refine x_lv [1, 2, 3, 4, 5, 6, 7, 8, 9, 10, 11, 12, 13, 0, 14] [(0, .ref b), (1, ra V 0), (2, ra V 87), (3, ra V 88), (4, ra V 89), (5, ra V 90), (6, ra V 91), (7, ra V 92), (8, ra V 93), (9, .int (nI fr)), (10, .int (nI t)), (11, .int (nI g)), (12, .ref pa), (13, .int ((nI j) + (1 : Int32))), (14, .int (nI k))] rfl ?_
  rw [← nI_succ]
  exact K

set_option maxHeartbeats 4000000 in
set_option maxRecDepth 100000 in
theorem M_14 {p : Program} {l : Launch} {e : Env} {s : State} {m : MethodId} {args : Array Value} {below : List Frame} {meth : Method} {c : Code} {V : xV} {E : va_W} {A : Nat → Prop} {Q : State → Prop} {cells slots b pa fr t g : Nat} (C : XC p s m args c cL_law 17 RL wsL_law V E A) (hV : xInj V) (hcs : cells + 0 ≤ room_1.cells ∧ slots + 0 ≤ room_1.slots) {σ : xS} {k : Nat} {y : Int32} (K : X p l e room_1 s m args below meth c V E A 17 cells slots Q σ 724 [(0, .ref b), (1, ra V 0), (2, ra V 87), (3, ra V 88), (4, ra V 89), (5, ra V 90), (6, ra V 91), (7, ra V 92), (8, ra V 93), (9, .int (nI fr)), (10, .int (nI t)), (11, .int (nI g)), (12, .ref pa), (13, .int y), (14, .int (nI (k + 1)))] []) : X p l e room_1 s m args below meth c V E A 17 cells slots Q σ 792 [(0, .ref b), (1, ra V 0), (2, ra V 87), (3, ra V 88), (4, ra V 89), (5, ra V 90), (6, ra V 91), (7, ra V 92), (8, ra V 93), (9, .int (nI fr)), (10, .int (nI t)), (11, .int (nI g)), (12, .ref pa), (13, .int y), (14, .int (nI k))] [] := by
  refine x_iinc C (q := 14) ((nI k) + (1 : Int32)) [(14, .int ((nI k) + (1 : Int32))), (0, .ref b), (1, ra V 0), (2, ra V 87), (3, ra V 88), (4, ra V 89), (5, ra V 90), (6, ra V 91), (7, ra V 92), (8, ra V 93), (9, .int (nI fr)), (10, .int (nI t)), (11, .int (nI g)), (12, .ref pa), (13, .int y)] dL_law_792 rfl rfl (by decide) rfl ?_
  refine x_goto C 724 dL_law_795 rfl ?_
  refine x_lv [1, 2, 3, 4, 5, 6, 7, 8, 9, 10, 11, 12, 13, 14, 0] [(0, .ref b), (1, ra V 0), (2, ra V 87), (3, ra V 88), (4, ra V 89), (5, ra V 90), (6, ra V 91), (7, ra V 92), (8, ra V 93), (9, .int (nI fr)), (10, .int (nI t)), (11, .int (nI g)), (12, .ref pa), (13, .int y), (14, .int ((nI k) + (1 : Int32)))] rfl ?_
  rw [← nI_succ]
  exact K

set_option maxHeartbeats 4000000 in
set_option maxRecDepth 100000 in
theorem M_15 {p : Program} {l : Launch} {e : Env} {s : State} {m : MethodId} {args : Array Value} {below : List Frame} {meth : Method} {c : Code} {V : xV} {E : va_W} {A : Nat → Prop} {Q : State → Prop} {cells slots b pa fr t g : Nat} (C : XC p s m args c cL_law 17 RL wsL_law V E A) (hV : xInj V) (hcs : cells + 0 ≤ room_1.cells ∧ slots + 0 ≤ room_1.slots) {σ : xS} (K : X p l e room_1 s m args below meth c V E A 17 cells slots Q σ 87 [(0, .ref b), (1, ra V 0), (2, ra V 87), (3, ra V 88), (4, ra V 89), (5, ra V 90), (6, ra V 91), (7, ra V 92), (8, ra V 93), (9, .int (nI fr)), (10, .int (nI (t + 1)))] []) : X p l e room_1 s m args below meth c V E A 17 cells slots Q σ 798 [(0, .ref b), (1, ra V 0), (2, ra V 87), (3, ra V 88), (4, ra V 89), (5, ra V 90), (6, ra V 91), (7, ra V 92), (8, ra V 93), (9, .int (nI fr)), (10, .int (nI t)), (11, .int (nI g)), (12, .ref pa)] [] := by
  refine x_iinc C (q := 10) ((nI t) + (1 : Int32)) [(10, .int ((nI t) + (1 : Int32))), (0, .ref b), (1, ra V 0), (2, ra V 87), (3, ra V 88), (4, ra V 89), (5, ra V 90), (6, ra V 91), (7, ra V 92), (8, ra V 93), (9, .int (nI fr)), (11, .int (nI g)), (12, .ref pa)] dL_law_798 rfl rfl (by decide) rfl ?_
  refine x_goto C 87 dL_law_801 rfl ?_
  refine x_lv [1, 2, 3, 4, 5, 6, 7, 8, 9, 10, 0] [(0, .ref b), (1, ra V 0), (2, ra V 87), (3, ra V 88), (4, ra V 89), (5, ra V 90), (6, ra V 91), (7, ra V 92), (8, ra V 93), (9, .int (nI fr)), (10, .int ((nI t) + (1 : Int32)))] rfl ?_
  rw [← nI_succ]
  exact K

set_option maxHeartbeats 4000000 in
set_option maxRecDepth 100000 in
theorem M_15b {p : Program} {l : Launch} {e : Env} {s : State} {m : MethodId} {args : Array Value} {below : List Frame} {meth : Method} {c : Code} {V : xV} {E : va_W} {A : Nat → Prop} {Q : State → Prop} {cells slots b pa fr t g : Nat} (C : XC p s m args c cL_law 17 RL wsL_law V E A) (hV : xInj V) (hcs : cells + 0 ≤ room_1.cells ∧ slots + 0 ≤ room_1.slots) {σ : xS} (K : X p l e room_1 s m args below meth c V E A 17 cells slots Q σ 87 [(0, .ref b), (1, ra V 0), (2, ra V 87), (3, ra V 88), (4, ra V 89), (5, ra V 90), (6, ra V 91), (7, ra V 92), (8, ra V 93), (9, .int (nI fr)), (10, .int (nI (t + 1)))] []) : X p l e room_1 s m args below meth c V E A 17 cells slots Q σ 798 [(0, .ref b), (1, ra V 0), (2, ra V 87), (3, ra V 88), (4, ra V 89), (5, ra V 90), (6, ra V 91), (7, ra V 92), (8, ra V 93), (9, .int (nI fr)), (10, .int (nI t)), (11, .int (nI g))] [] := by
  refine x_iinc C (q := 10) ((nI t) + (1 : Int32)) [(10, .int ((nI t) + (1 : Int32))), (0, .ref b), (1, ra V 0), (2, ra V 87), (3, ra V 88), (4, ra V 89), (5, ra V 90), (6, ra V 91), (7, ra V 92), (8, ra V 93), (9, .int (nI fr)), (11, .int (nI g))] dL_law_798 rfl rfl (by decide) rfl ?_
  refine x_goto C 87 dL_law_801 rfl ?_
  refine x_lv [1, 2, 3, 4, 5, 6, 7, 8, 9, 10, 0] [(0, .ref b), (1, ra V 0), (2, ra V 87), (3, ra V 88), (4, ra V 89), (5, ra V 90), (6, ra V 91), (7, ra V 92), (8, ra V 93), (9, .int (nI fr)), (10, .int ((nI t) + (1 : Int32)))] rfl ?_
  rw [← nI_succ]
  exact K

set_option maxHeartbeats 4000000 in
set_option maxRecDepth 100000 in
theorem M_17 {p : Program} {l : Launch} {e : Env} {s : State} {m : MethodId} {args : Array Value} {below : List Frame} {meth : Method} {c : Code} {V : xV} {E : va_W} {A : Nat → Prop} {Q : State → Prop} {cells slots b pa fr t g : Nat} (C : XC p s m args c cL_law 17 RL wsL_law V E A) (hV : xInj V) (hcs : cells + 0 ≤ room_1.cells ∧ slots + 0 ≤ room_1.slots) {σ : xS} (ht : 4 ≤ t) (htb : t < 2 ^ 31) (K : X p l e room_1 s m args below meth c V E A 17 cells slots Q σ 804 [(0, .ref b), (1, ra V 0), (2, ra V 87), (3, ra V 88), (4, ra V 89), (5, ra V 90), (6, ra V 91), (7, ra V 92), (8, ra V 93), (9, .int (nI fr)), (10, .int (nI t))] []) : X p l e room_1 s m args below meth c V E A 17 cells slots Q σ 87 [(0, .ref b), (1, ra V 0), (2, ra V 87), (3, ra V 88), (4, ra V 89), (5, ra V 90), (6, ra V 91), (7, ra V 92), (8, ra V 93), (9, .int (nI fr)), (10, .int (nI t))] [] := by
  refine x_iload C dL_law_87 10 rfl ?_
  refine x_iconst C (4 : Int32) (by decide) dL_law_89 ?_
  refine x_icmp_ge C 804 dL_law_90 rfl (fun h1 => ?_) (fun h1 => absurd h1 (fun q => q (nI_le (a := 4) (b := t) ht htb)))
  exact K

set_option maxHeartbeats 4000000 in
set_option maxRecDepth 100000 in
theorem M_18 {p : Program} {l : Launch} {e : Env} {s : State} {m : MethodId} {args : Array Value} {below : List Frame} {meth : Method} {c : Code} {V : xV} {E : va_W} {A : Nat → Prop} {Q : State → Prop} {cells slots b pa fr t g : Nat} (C : XC p s m args c cL_law 17 RL wsL_law V E A) (hV : xInj V) (hcs : cells + 0 ≤ room_1.cells ∧ slots + 0 ≤ room_1.slots) {σ : xS} {nr : Nat} (ht : t < 4) (hx : nI fr ^^^ nI (t * 5) = nI g) (hcr : σ 87 0 = nI nr) (hnr : nr ≤ 4) (K1 : prN σ (nI g) nr = true → X p l e room_1 s m args below meth c V E A 17 cells slots Q σ 115 [(0, .ref b), (1, ra V 0), (2, ra V 87), (3, ra V 88), (4, ra V 89), (5, ra V 90), (6, ra V 91), (7, ra V 92), (8, ra V 93), (9, .int (nI fr)), (10, .int (nI t)), (11, .int (nI g))] []) (K0 : prN σ (nI g) nr = false → X p l e room_1 s m args below meth c V E A 17 cells slots Q σ 798 [(0, .ref b), (1, ra V 0), (2, ra V 87), (3, ra V 88), (4, ra V 89), (5, ra V 90), (6, ra V 91), (7, ra V 92), (8, ra V 93), (9, .int (nI fr)), (10, .int (nI t)), (11, .int (nI g))] []) : X p l e room_1 s m args below meth c V E A 17 cells slots Q σ 87 [(0, .ref b), (1, ra V 0), (2, ra V 87), (3, ra V 88), (4, ra V 89), (5, ra V 90), (6, ra V 91), (7, ra V 92), (8, ra V 93), (9, .int (nI fr)), (10, .int (nI t))] [] := by
  refine x_iload C dL_law_87 10 rfl ?_
  refine x_iconst C (4 : Int32) (by decide) dL_law_89 ?_
  refine x_icmp_ge C 804 dL_law_90 rfl (fun h1 => absurd h1 (nI_ge (a := t) (b := 4) ht (by decide))) (fun h1 => ?_)
  refine x_iload C dL_law_93 9 rfl ?_
  refine x_iload C dL_law_95 10 rfl ?_
  refine x_iconst C (5 : Int32) (by decide) dL_law_97 ?_
  refine x_imul C dL_law_98 ?_
  refine x_v (y := nI (t * 5)) (pk_mul t 5) ?_
  refine x_ixor C dL_law_99 ?_
  refine x_v (y := nI g) (hx) ?_
  refine x_istore C [(11, .int (nI g)), (0, .ref b), (1, ra V 0), (2, ra V 87), (3, ra V 88), (4, ra V 89), (5, ra V 90), (6, ra V 91), (7, ra V 92), (8, ra V 93), (9, .int (nI fr)), (10, .int (nI t))] dL_law_100 (by decide) rfl ?_
  refine x_iload C dL_law_102 0 rfl ?_
  refine x_aload_n C dL_law_104 rfl 3 rfl ?_
  refine x_aload_n C dL_law_105 rfl 4 rfl ?_
  refine x_callS C [.int (nI g), ra V 87, ra V 88] (c_L_isProduct l V hV σ (nI g) nr hcr hnr) (va_cwS 3 C.2.2.2.2.1 gL_law_L_isProduct rfl rfl rfl (by decide +kernel) ⟨Nat.le_of_ble_eq_true rfl, Nat.le_of_ble_eq_true rfl⟩) rfl rfl (Nat.le_of_ble_eq_true rfl) dL_law_106 hcs (x_kI ?_)
  refine x_bif_ne C 115 dL_law_109 rfl (fun h2 => ?_) (fun h2 => ?_)
  · refine x_lv [1, 2, 3, 4, 5, 6, 7, 8, 9, 10, 11, 0] [(0, .ref b), (1, ra V 0), (2, ra V 87), (3, ra V 88), (4, ra V 89), (5, ra V 90), (6, ra V 91), (7, ra V 92), (8, ra V 93), (9, .int (nI fr)), (10, .int (nI t)), (11, .int (nI g))] rfl ?_
    exact K1 h2
  · refine x_goto C 798 dL_law_112 rfl ?_
    refine x_lv [1, 2, 3, 4, 5, 6, 7, 8, 9, 10, 11, 0] [(0, .ref b), (1, ra V 0), (2, ra V 87), (3, ra V 88), (4, ra V 89), (5, ra V 90), (6, ra V 91), (7, ra V 92), (8, ra V 93), (9, .int (nI fr)), (10, .int (nI t)), (11, .int (nI g))] rfl ?_
    exact K0 h2


/-! The law's loop, and the law from its entry. -/
set_option maxHeartbeats 4000000 in
set_option maxRecDepth 100000 in
theorem law_loop {p : Program} {l : Launch} {e : Env} {s : State} {m : MethodId} {args : Array Value} {below : List Frame} {meth : Method} {c : Code} {V : xV} {A : Nat → Prop} {Q : State → Prop} {lo b L : Nat} {xs : Nat → Int32} (hlst : l.stackTraces = false) (C0 : ∀ gg, XC p s m args c cL_law 9 RL wsL_law V [oc V lo gg] A) (hV : xInj V) (hO : ∀ k, k < 108 → xad V k ≠ lo) (hA : ∀ q, inO V lo q → A q) (hT : xT s) (hZ : xZ A s s.heap) (hX : va_X b L xs s s.heap) (hbl : b < s.heap.size) (hbA : ¬ A b) (hL : L ≤ 4096)
    (Z : ∀ (i cells slots : Nat) (σ : xS) (gg : Nat → Int64), cells ≤ 3000 → slots ≤ 30000 → X p l e room_1 s m args below meth c V [oc V lo gg] A 9 cells slots Q σ 1983 [(0, .ref b), (1, ra V 0), (2, ra V 87), (3, .ref lo), (4, .int (nI (8 * i)))] []) :
    ∀ (n i : Nat) (σ : xS) (gg : Nat → Int64), 8 * i ≤ L → L ≤ 8 * i + 8 * n → Sm σ → X p l e room_1 s m args below meth c V [oc V lo gg] A 9 (2000 + i) (20000 + 6 * i) Q σ 23 [(0, .ref b), (1, ra V 0), (2, ra V 87), (3, .ref lo), (4, .int (nI (8 * i)))] [] := by
  intro n
  induction n with
  | zero =>
    intro i σ gg h1 h2 h
    have C := C0 gg
    refine x_iload C dL_law_23 4 rfl ?_
    refine x_arefn C dL_law_25 rfl 0 rfl ?_
    refine x_slen C hX hbl hbA dL_law_26 ?_
    refine x_bipush C (8 : Int32) (by decide) dL_law_27 ?_
    refine x_isub C dL_law_29 ?_
    refine x_icmp_gt C 1983 dL_law_30 rfl (fun _ => ?_) (fun hq => absurd ?_ hq)
    · exact Z i (2000 + i) (20000 + 6 * i) σ gg (by omega) (by omega)
    · rw [Int32.lt_iff_toInt_lt, show (nI L - 8).toInt = (L : Int) - 8 from pk_sub_toInt (a := L) (b := 8) (by omega) (by decide), nI_toInt (by omega)]
      omega
  | succ n ih =>
    intro i σ gg h1 h2 h
    have C := C0 gg
    have J : ∀ (σ' : xS) (g' : Nat → Int64), Sm σ' → 8 * i + 8 ≤ L → X p l e room_1 s m args below meth c V [oc V lo g'] A 9 (2000 + i + 1) (20000 + 6 * i + 6) Q σ' 1977 [(0, .ref b), (1, ra V 0), (2, ra V 87), (3, .ref lo), (4, .int (nI (8 * i)))] [] := fun σ' g' h' hi => by
      have C1 := C0 g'
      refine x_iinc C1 (q := 4) (nI (8 * (i + 1))) [(4, .int (nI (8 * (i + 1)))), (0, .ref b), (1, ra V 0), (2, ra V 87), (3, .ref lo)] dL_law_1977 rfl (nI_add (8 * i) 8) (by decide) rfl ?_
      refine x_goto C1 23 dL_law_1980 rfl ?_
      refine x_lv [1, 2, 3, 4, 0] [(0, .ref b), (1, ra V 0), (2, ra V 87), (3, .ref lo), (4, .int (nI (8 * (i + 1))))] rfl ?_
      exact ih (i + 1) σ' g' (by omega) (by omega) h'
    refine x_iload C dL_law_23 4 rfl ?_
    refine x_arefn C dL_law_25 rfl 0 rfl ?_
    refine x_slen C hX hbl hbA dL_law_26 ?_
    refine x_bipush C (8 : Int32) (by decide) dL_law_27 ?_
    refine x_isub C dL_law_29 ?_
    refine x_icmp_gt C 1983 dL_law_30 rfl (fun _ => ?_) (fun hq => ?_)
    · exact Z i (2000 + i) (20000 + 6 * i) σ gg (by omega) (by omega)
    · have hi : 8 * i + 8 ≤ L := by
        rw [Int32.lt_iff_toInt_lt, show (nI L - 8).toInt = (L : Int) - 8 from pk_sub_toInt (a := L) (b := 8) (by omega) (by decide), nI_toInt (by omega)] at hq
        omega
      have hL2 : L < 2 ^ 31 := by omega
      have hcs : 2000 + i + 1 ≤ room_1.cells ∧ 20000 + 6 * i + 6 ≤ room_1.slots := ⟨by show _ ≤ 601024; omega, by show _ ≤ 7293034; omega⟩
      have J2 : ∀ (σ' : xS) (g' : Nat → Int64), Sm σ' → X p l e room_1 s m args below meth c V [oc V lo g'] A 9 (2000 + i + 1) (20000 + 6 * i + 6) Q σ' 1977 [(0, .ref b), (1, ra V 0), (2, ra V 87), (3, .ref lo), (4, .int (nI (8 * i)))] [] := fun σ' g' h' => J σ' g' h' hi
      refine x_arefn C dL_law_33 rfl 0 rfl ?_
      refine x_iload C dL_law_34 4 rfl ?_
      refine x_sld C hX hbl hbA (8 * i) rfl (by omega) hL2 dL_law_36 ?_
      refine x_bipush C (31 : Int32) (by decide) dL_law_37 ?_
      refine x_iand C dL_law_39 ?_
      obtain ⟨j, hj, ej⟩ := pk_andE (xs (8 * i)) (m := 31) 5 (by decide)
      by_cases hj27 : j ≤ 27
      · rcases (show j = 0 ∨ j = 1 ∨ j = 2 ∨ j = 3 ∨ j = 4 ∨ j = 5 ∨ j = 6 ∨ j = 7 ∨ j = 8 ∨ j = 9 ∨ j = 10 ∨ j = 11 ∨ j = 12 ∨ j = 13 ∨ j = 14 ∨ j = 15 ∨ j = 16 ∨ j = 17 ∨ j = 18 ∨ j = 19 ∨ j = 20 ∨ j = 21 ∨ j = 22 ∨ j = 23 ∨ j = 24 ∨ j = 25 ∨ j = 26 ∨ j = 27 by omega) with rfl | rfl | rfl | rfl | rfl | rfl | rfl | rfl | rfl | rfl | rfl | rfl | rfl | rfl | rfl | rfl | rfl | rfl | rfl | rfl | rfl | rfl | rfl | rfl | rfl | rfl | rfl | rfl
        · refine x_tswIn (hi := 27) C (j := 0) 168 ej (by decide) (by decide) dL_law_40 rfl rfl ?_
          exact L_addRule hlst C hV hO hA hT hZ hX hbl hbA hL2 hi hcs h J2
        · refine x_tswIn (hi := 27) C (j := 1) 248 ej (by decide) (by decide) dL_law_40 rfl rfl ?_
          exact L_dropRule hlst C hV hO hA hT hZ hX hbl hbA hL2 hi hcs h J2
        · refine x_tswIn (hi := 27) C (j := 2) 292 ej (by decide) (by decide) dL_law_40 rfl rfl ?_
          exact L_products hlst C hV hO hA hT hZ hX hbl hbA hL2 hi hcs h J2
        · refine x_tswIn (hi := 27) C (j := 3) 305 ej (by decide) (by decide) dL_law_40 rfl rfl ?_
          exact L_addClass hlst C hV hO hA hT hZ hX hbl hbA hL2 hi hcs h J2
        · refine x_tswIn (hi := 27) C (j := 4) 373 ej (by decide) (by decide) dL_law_40 rfl rfl ?_
          exact L_addLink hlst C hV hO hA hT hZ hX hbl hbA hL2 hi hcs h J2
        · refine x_tswIn (hi := 27) C (j := 5) 465 ej (by decide) (by decide) dL_law_40 rfl rfl ?_
          exact L_addField hlst C hV hO hA hT hZ hX hbl hbA hL2 hi hcs h J2
        · refine x_tswIn (hi := 27) C (j := 6) 569 ej (by decide) (by decide) dL_law_40 rfl rfl ?_
          exact L_addMethod hlst C hV hO hA hT hZ hX hbl hbA hL2 hi hcs h J2
        · refine x_tswIn (hi := 27) C (j := 7) 701 ej (by decide) (by decide) dL_law_40 rfl rfl ?_
          exact L_addNew hlst C hV hO hA hT hZ hX hbl hbA hL2 hi hcs h J2
        · refine x_tswIn (hi := 27) C (j := 8) 769 ej (by decide) (by decide) dL_law_40 rfl rfl ?_
          exact L_addPlain hlst C hV hO hA hT hZ hX hbl hbA hL2 hi hcs h J2
        · refine x_tswIn (hi := 27) C (j := 9) 853 ej (by decide) (by decide) dL_law_40 rfl rfl ?_
          exact L_addArgument hlst C hV hO hA hT hZ hX hbl hbA hL2 hi hcs h J2
        · refine x_tswIn (hi := 27) C (j := 10) 921 ej (by decide) (by decide) dL_law_40 rfl rfl ?_
          exact L_addFieldOf hlst C hV hO hA hT hZ hX hbl hbA hL2 hi hcs h J2
        · refine x_tswIn (hi := 27) C (j := 11) 989 ej (by decide) (by decide) dL_law_40 rfl rfl ?_
          exact L_addCall hlst C hV hO hA hT hZ hX hbl hbA hL2 hi hcs h J2
        · refine x_tswIn (hi := 27) C (j := 12) 1081 ej (by decide) (by decide) dL_law_40 rfl rfl ?_
          exact L_addResult hlst C hV hO hA hT hZ hX hbl hbA hL2 hi hcs h J2
        · refine x_tswIn (hi := 27) C (j := 13) 1161 ej (by decide) (by decide) dL_law_40 rfl rfl ?_
          exact L_setCondition hlst C hV hO hA hT hZ hX hbl hbA hL2 hi hcs h J2
        · refine x_tswIn (hi := 27) C (j := 14) 1260 ej (by decide) (by decide) dL_law_40 rfl rfl ?_
          exact L_dropResult hlst C hV hO hA hT hZ hX hbl hbA hL2 hi hcs h J2
        · refine x_tswIn (hi := 27) C (j := 15) 1304 ej (by decide) (by decide) dL_law_40 rfl rfl ?_
          exact L_count hlst C hV hO hA hT hZ hX hbl hbA hL2 hi hcs h J2
        · refine x_tswIn (hi := 27) C (j := 16) 1360 ej (by decide) (by decide) dL_law_40 rfl rfl ?_
          exact L_presence hlst C hV hO hA hT hZ hX hbl hbA hL2 hi hcs h J2
        · refine x_tswIn (hi := 27) C (j := 17) 1428 ej (by decide) (by decide) dL_law_40 rfl rfl ?_
          exact L_parent hlst C hV hO hA hT hZ hX hbl hbA hL2 hi hcs h J2
        · refine x_tswIn (hi := 27) C (j := 18) 1496 ej (by decide) (by decide) dL_law_40 rfl rfl ?_
          exact L_isBelow hlst C hV hO hA hT hZ hX hbl hbA hL2 hi hcs h J2
        · refine x_tswIn (hi := 27) C (j := 19) 1583 ej (by decide) (by decide) dL_law_40 rfl rfl ?_
          exact L_find hlst C hV hO hA hT hZ hX hbl hbA hL2 hi hcs h J2
        · refine x_tswIn (hi := 27) C (j := 20) 1691 ej (by decide) (by decide) dL_law_40 rfl rfl ?_
          exact L_typeOf hlst C hV hO hA hT hZ hX hbl hbA hL2 hi hcs h J2
        · refine x_tswIn (hi := 27) C (j := 21) 1759 ej (by decide) (by decide) dL_law_40 rfl rfl ?_
          exact L_errorCount hlst C hV hO hA hT hZ hX hbl hbA hL2 hi hcs h J2
        · refine x_tswIn (hi := 27) C (j := 22) 1772 ej (by decide) (by decide) dL_law_40 rfl rfl ?_
          exact L_error hlst C hV hO hA hT hZ hX hbl hbA hL2 hi hcs h J2
        · refine x_tswIn (hi := 27) C (j := 23) 1840 ej (by decide) (by decide) dL_law_40 rfl rfl ?_
          exact L_right hlst C hV hO hA hT hZ hX hbl hbA hL2 hi hcs h J2
        · refine x_tswIn (hi := 27) C (j := 24) 1853 ej (by decide) (by decide) dL_law_40 rfl rfl ?_
          exact L_errorsIn hlst C hV hO hA hT hZ hX hbl hbA hL2 hi hcs h J2
        · refine x_tswIn (hi := 27) C (j := 25) 1909 ej (by decide) (by decide) dL_law_40 rfl rfl ?_
          exact L_culprit hlst C hV hO hA hT hZ hX hbl hbA hL2 hi hcs h J2
        · refine x_tswIn (hi := 27) C (j := 26) 1922 ej (by decide) (by decide) dL_law_40 rfl rfl ?_
          exact L_share hlst C hV hO hA hT hZ hX hbl hbA hL2 hi hcs h J2
        · refine x_tswIn (hi := 27) C (j := 27) 1963 ej (by decide) (by decide) dL_law_40 rfl rfl ?_
          exact L_digest hlst C hV hO hA hT hZ hX hbl hbA hL2 hi hcs h J2
      · refine x_tswOut (hi := 27) C 1977 (fun q hq2 e => hj27 ?_) (by decide) dL_law_40 rfl ?_
        · have := (nI_eq (by omega) (by omega)).mp (ej.symm.trans e)
          omega
        · exact x_widen (Nat.le_succ _) (Nat.le_add_right _ 6) (J2 σ gg h)

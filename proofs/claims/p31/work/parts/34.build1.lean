/-! build, loop by loop. -/
abbrev rmB : Room := { frames := 6, cells := 0, slots := 0, locals := 200 }
set_option maxHeartbeats 4000000 in
set_option maxRecDepth 100000 in
theorem B_rules {p : Program} {l : Launch} {e : Env} {s : State} {m : MethodId} {args : Array Value} {below : List Frame} {meth : Method} {c : Code} {V : xV} {Q : State → Prop} {b L : Nat} {xs : Nat → Int32} (C : XC p s m args c cL_build 20 RL wsL_build V [] (inR V)) (hV : xInj V) (hX : va_X b L xs s s.heap) (hbl : b < s.heap.size) (hbV : ¬ inR V b) (hL : L < 2 ^ 31) (K : ∀ (u : xS) (nr : Nat), nr ≤ 3 → BI nr 0 0 0 0 0 u → u 87 0 = nI nr → X p l e (headSpec wsL_build rmB).room s m args below meth c V [] (inR V) 20 0 0 Q u 129 [(0, ra V 0), (1, .ref b), (2, .int (0 : Int32)), (3, ra V 87), (4, ra V 88), (5, ra V 89), (6, ra V 90), (7, ra V 91), (8, ra V 92), (9, ra V 93)] []) : X p l e (headSpec wsL_build rmB).room s m args below meth c V [] (inR V) 20 0 0 Q xS0 0 [(0, ra V 0), (1, .ref b), (2, .int (0 : Int32)), (3, ra V 87), (4, ra V 88), (5, ra V 89), (6, ra V 90), (7, ra V 91), (8, ra V 92), (9, ra V 93)] [] := by
  have hbA : ¬ inR V b := hbV
  refine x_aload_n C dL_build_0 rfl 3 rfl ?_
  refine x_iconst C (0 : Int32) (by decide) dL_build_1 ?_
  refine x_arefn C dL_build_2 rfl 1 rfl ?_
  refine x_iload_n C dL_build_3 rfl 2 rfl ?_
  refine x_callSS C hX hbl hbA [.ref b, .int (0 : Int32)] (c_L_cell l V hV xS0 b L xs hbV hL (0 : Int32) (by decide)) (va_cwS 2 C.2.2.2.2.1 gL_build_L_cell rfl rfl rfl (by decide +kernel) ⟨Nat.le_of_ble_eq_true rfl, Nat.le_of_ble_eq_true rfl⟩) rfl rfl (Nat.le_of_ble_eq_true rfl) dL_build_4 ⟨Nat.le_of_ble_eq_true rfl, Nat.le_of_ble_eq_true rfl⟩ (x_kI ?_)
  refine x_iconst C (4 : Int32) (by decide) dL_build_7 ?_
  refine x_callS C [.int (cellI L xs (0 : Int32)), .int (4 : Int32)] (c_L_below l V hV xS0 (cellI L xs (0 : Int32)) (4 : Int32) (by decide)) (va_cwS 2 C.2.2.2.2.1 gL_build_L_below rfl rfl rfl (by decide +kernel) ⟨Nat.le_of_ble_eq_true rfl, Nat.le_of_ble_eq_true rfl⟩) rfl rfl (Nat.le_of_ble_eq_true rfl) dL_build_8 ⟨Nat.le_of_ble_eq_true rfl, Nat.le_of_ble_eq_true rfl⟩ (x_kI ?_)
  obtain ⟨nr, hnr, enr⟩ := below_at (cellI L xs (0 : Int32)) (n := 4) (by decide) (by decide)
  refine x_v (y := nI nr) enr ?_
  refine x_iast C sh_87 (vp_in_nI (n := 0) (by omega) (by decide)) dL_build_11 ?_
  rw [show (0 : Int32).toNatClampNeg = 0 from nI_clamp (n := 0) (by omega)]
  refine x_iconst C (0 : Int32) (by decide) dL_build_12 ?_
  refine x_istore C [(10, .int (0 : Int32)), (0, ra V 0), (1, .ref b), (2, .int (0 : Int32)), (3, ra V 87), (4, ra V 88), (5, ra V 89), (6, ra V 90), (7, ra V 91), (8, ra V 92), (9, ra V 93)] dL_build_13 (by decide) rfl ?_
  refine x_lv [1, 2, 3, 4, 5, 6, 7, 8, 9, 10, 0] [(0, ra V 0), (1, .ref b), (2, .int (0 : Int32)), (3, ra V 87), (4, ra V 88), (5, ra V 89), (6, ra V 90), (7, ra V 91), (8, ra V 92), (9, ra V 93), (10, .int (0 : Int32))] rfl ?_
  refine x_loop (fun μ τ lv_ => ∃ (k : Nat), μ = nr - k ∧ lv_ = [(0, ra V 0), (1, .ref b), (2, .int (0 : Int32)), (3, ra V 87), (4, ra V 88), (5, ra V 89), (6, ra V 90), (7, ra V 91), (8, ra V 92), (9, ra V 93), (10, .int (nI k))] ∧ k ≤ nr ∧ BI k 0 0 0 0 0 τ ∧ τ 87 0 = nI nr) ⟨_, ⟨0, rfl, rfl, Nat.zero_le _, BI.z.cnt (fun r hr => xw_ne (r := 87) _ _ _ (fun z => hr (by rw [z]; exact List.mem_cons_self))), xw_at _ _ _ _⟩⟩ ?_
  rintro μ15 τ _ ⟨k, hμ15, rfl, hc15_0, hc15_1, hc15_2⟩ ih15
  refine x_iload C dL_build_15 10 rfl ?_
  refine x_aload_n C dL_build_17 rfl 3 rfl ?_
  refine x_iconst C (0 : Int32) (by decide) dL_build_18 ?_
  refine x_iald C sh_87 (vp_in_nI (n := 0) (by omega) (by decide)) dL_build_19 ?_
  rw [show (0 : Int32).toNatClampNeg = 0 from nI_clamp (n := 0) (by omega)]
  refine x_v (y := nI nr) (hc15_2) ?_
  refine x_icmp_ge C 129 dL_build_20 rfl (fun h1 => ?_) (fun h1 => ?_)
  · refine x_lv [0, 1, 2, 3, 4, 5, 6, 7, 8, 9] [(0, ra V 0), (1, .ref b), (2, .int (0 : Int32)), (3, ra V 87), (4, ra V 88), (5, ra V 89), (6, ra V 90), (7, ra V 91), (8, ra V 92), (9, ra V 93)] rfl ?_
    have hkn : k = nr := Nat.le_antisymm hc15_0 (Nat.le_of_not_lt (fun hq => nI_ge hq (by omega) h1))
    subst hkn
    exact K _ k (by omega) hc15_1 hc15_2
  · have hkn : k < nr := Nat.lt_of_not_le (fun hq => h1 (nI_le hq (by omega)))
    refine x_arefn C dL_build_23 rfl 1 rfl ?_
    refine x_iload_n C dL_build_24 rfl 2 rfl ?_
    refine x_callSS C hX hbl hbA [.ref b, .int (0 : Int32)] (c_L_cell l V hV τ b L xs hbV hL (0 : Int32) (by decide)) (va_cwS 2 C.2.2.2.2.1 gL_build_L_cell rfl rfl rfl (by decide +kernel) ⟨Nat.le_of_ble_eq_true rfl, Nat.le_of_ble_eq_true rfl⟩) rfl rfl (Nat.le_of_ble_eq_true rfl) dL_build_25 ⟨Nat.le_of_ble_eq_true rfl, Nat.le_of_ble_eq_true rfl⟩ (x_kI ?_)
    refine x_iconst C (3 : Int32) (by decide) dL_build_28 ?_
    refine x_bipush C (6 : Int32) (by decide) dL_build_29 ?_
    refine x_iload C dL_build_31 10 rfl ?_
    refine x_imul C dL_build_33 ?_
    refine x_v (y := nI (6 * k)) (pk_mul 6 k) ?_
    refine x_iadd C dL_build_34 ?_
    refine x_v (y := nI (3 + (6 * k))) (nI_add 3 (6 * k)) ?_
    refine x_ishr C dL_build_35 ?_
    refine x_nm (fun x hx => ?_)
    refine x_istore C [(11, .int x), (0, ra V 0), (1, .ref b), (2, .int (0 : Int32)), (3, ra V 87), (4, ra V 88), (5, ra V 89), (6, ra V 90), (7, ra V 91), (8, ra V 92), (9, ra V 93), (10, .int (nI k))] dL_build_36 (by decide) rfl ?_
    refine x_aload C dL_build_38 5 rfl ?_
    refine x_iconst C (3 : Int32) (by decide) dL_build_40 ?_
    refine x_iload C dL_build_41 11 rfl ?_
    refine x_imul C dL_build_43 ?_
    refine x_v (y := nI (3 * k)) (pk_mul 3 k) ?_
    refine x_iload C dL_build_44 0 rfl ?_
    refine x_iconst C (2 : Int32) (by decide) dL_build_46 ?_
    refine x_callS C [.int x, .int (2 : Int32)] (c_L_below l V hV τ x (2 : Int32) (by decide)) (va_cwS 2 C.2.2.2.2.1 gL_build_L_below rfl rfl rfl (by decide +kernel) ⟨Nat.le_of_ble_eq_true rfl, Nat.le_of_ble_eq_true rfl⟩) rfl rfl (Nat.le_of_ble_eq_true rfl) dL_build_47 ⟨Nat.le_of_ble_eq_true rfl, Nat.le_of_ble_eq_true rfl⟩ (x_kI ?_)
    obtain ⟨a, ha, ea⟩ := below_at x (n := 2) (by decide) (by decide)
    refine x_v (y := nI a) ea ?_
    refine x_iast C sh_88 (vp_in_nI (n := 3 * k) (by omega) (by decide)) dL_build_50 ?_
    rw [show (nI (3 * k)).toNatClampNeg = 3 * k from nI_clamp (n := 3 * k) (by omega)]
    refine x_aload C dL_build_51 5 rfl ?_
    refine x_iconst C (3 : Int32) (by decide) dL_build_53 ?_
    refine x_iload C dL_build_54 11 rfl ?_
    refine x_imul C dL_build_56 ?_
    refine x_v (y := nI (3 * k)) (pk_mul 3 k) ?_
    refine x_iconst C (1 : Int32) (by decide) dL_build_57 ?_
    refine x_iadd C dL_build_58 ?_
    refine x_v (y := nI ((3 * k) + 1)) (nI_add (3 * k) 1) ?_
    refine x_iload C dL_build_59 0 rfl ?_
    refine x_iconst C (1 : Int32) (by decide) dL_build_61 ?_
    refine x_ishr C dL_build_62 ?_
    refine x_iconst C (4 : Int32) (by decide) dL_build_63 ?_
    refine x_callS C [.int (x >>> ((1 : Int32) &&& 31)), .int (4 : Int32)] (c_L_below l V hV (xw τ 88 (3 * k) (nI a)) (x >>> ((1 : Int32) &&& 31)) (4 : Int32) (by decide)) (va_cwS 2 C.2.2.2.2.1 gL_build_L_below rfl rfl rfl (by decide +kernel) ⟨Nat.le_of_ble_eq_true rfl, Nat.le_of_ble_eq_true rfl⟩) rfl rfl (Nat.le_of_ble_eq_true rfl) dL_build_64 ⟨Nat.le_of_ble_eq_true rfl, Nat.le_of_ble_eq_true rfl⟩ (x_kI ?_)
    obtain ⟨f, hf, ef⟩ := below_at (x >>> ((1 : Int32) &&& 31)) (n := 4) (by decide) (by decide)
    refine x_v (y := nI f) ef ?_
    refine x_iast C sh_88 (vp_in_nI (n := (3 * k) + 1) (by omega) (by decide)) dL_build_67 ?_
    rw [show (nI ((3 * k) + 1)).toNatClampNeg = (3 * k) + 1 from nI_clamp (n := (3 * k) + 1) (by omega)]
    refine x_aload C dL_build_68 5 rfl ?_
    refine x_iconst C (3 : Int32) (by decide) dL_build_70 ?_
    refine x_iload C dL_build_71 11 rfl ?_
    refine x_imul C dL_build_73 ?_
    refine x_v (y := nI (3 * k)) (pk_mul 3 k) ?_
    refine x_iconst C (2 : Int32) (by decide) dL_build_74 ?_
    refine x_iadd C dL_build_75 ?_
    refine x_v (y := nI ((3 * k) + 2)) (nI_add (3 * k) 2) ?_
    refine x_iload C dL_build_76 0 rfl ?_
    refine x_iconst C (3 : Int32) (by decide) dL_build_78 ?_
    refine x_ishr C dL_build_79 ?_
    refine x_iconst C (4 : Int32) (by decide) dL_build_80 ?_
    refine x_callS C [.int (x >>> ((3 : Int32) &&& 31)), .int (4 : Int32)] (c_L_below l V hV (xw (xw τ 88 (3 * k) (nI a)) 88 ((3 * k) + 1) (nI f)) (x >>> ((3 : Int32) &&& 31)) (4 : Int32) (by decide)) (va_cwS 2 C.2.2.2.2.1 gL_build_L_below rfl rfl rfl (by decide +kernel) ⟨Nat.le_of_ble_eq_true rfl, Nat.le_of_ble_eq_true rfl⟩) rfl rfl (Nat.le_of_ble_eq_true rfl) dL_build_81 ⟨Nat.le_of_ble_eq_true rfl, Nat.le_of_ble_eq_true rfl⟩ (x_kI ?_)
    obtain ⟨g, hg, eg⟩ := below_at (x >>> ((3 : Int32) &&& 31)) (n := 4) (by decide) (by decide)
    refine x_v (y := nI g) eg ?_
    refine x_iast C sh_88 (vp_in_nI (n := (3 * k) + 2) (by omega) (by decide)) dL_build_84 ?_
    rw [show (nI ((3 * k) + 2)).toNatClampNeg = (3 * k) + 2 from nI_clamp (n := (3 * k) + 2) (by omega)]
    refine x_aload_n C dL_build_85 rfl 1 rfl ?_
    refine x_aload C dL_build_86 5 rfl ?_
    refine x_iconst C (3 : Int32) (by decide) dL_build_88 ?_
    refine x_iload C dL_build_89 11 rfl ?_
    refine x_imul C dL_build_91 ?_
    refine x_v (y := nI (3 * k)) (pk_mul 3 k) ?_
    refine x_iald C sh_88 (vp_in_nI (n := 3 * k) (by omega) (by decide)) dL_build_92 ?_
    rw [show (nI (3 * k)).toNatClampNeg = 3 * k from nI_clamp (n := 3 * k) (by omega)]
    refine x_v (y := nI a) (by simp [xw]) ?_
    refine x_aload C dL_build_93 5 rfl ?_
    refine x_iconst C (3 : Int32) (by decide) dL_build_95 ?_
    refine x_iload C dL_build_96 11 rfl ?_
    refine x_imul C dL_build_98 ?_
    refine x_v (y := nI (3 * k)) (pk_mul 3 k) ?_
    refine x_iconst C (1 : Int32) (by decide) dL_build_99 ?_
    refine x_iadd C dL_build_100 ?_
    refine x_v (y := nI ((3 * k) + 1)) (nI_add (3 * k) 1) ?_
    refine x_iald C sh_88 (vp_in_nI (n := (3 * k) + 1) (by omega) (by decide)) dL_build_101 ?_
    rw [show (nI ((3 * k) + 1)).toNatClampNeg = (3 * k) + 1 from nI_clamp (n := (3 * k) + 1) (by omega)]
    refine x_v (y := nI f) (by simp [xw]) ?_
    refine x_aload C dL_build_102 5 rfl ?_
    refine x_iconst C (3 : Int32) (by decide) dL_build_104 ?_
    refine x_iload C dL_build_105 11 rfl ?_
    refine x_imul C dL_build_107 ?_
    refine x_v (y := nI (3 * k)) (pk_mul 3 k) ?_
    refine x_iconst C (2 : Int32) (by decide) dL_build_108 ?_
    refine x_iadd C dL_build_109 ?_
    refine x_v (y := nI ((3 * k) + 2)) (nI_add (3 * k) 2) ?_
    refine x_iald C sh_88 (vp_in_nI (n := (3 * k) + 2) (by omega) (by decide)) dL_build_110 ?_
    rw [show (nI ((3 * k) + 2)).toNatClampNeg = (3 * k) + 2 from nI_clamp (n := (3 * k) + 2) (by omega)]
    refine x_v (y := nI g) (by simp [xw]) ?_
    have ha2 : nI a = 0 ∨ nI a = 1 := by rcases (show a = 0 ∨ a = 1 by omega) with rfl | rfl; exact Or.inl rfl; exact Or.inr rfl
    have hB2 := BI.rule (σ := τ) hc15_1 (by omega) ha2 (vp_in_nI hf (by decide)) (vp_in_nI hg (by decide))
    refine x_callV C sh_0 (by decide) rfl [.int (nI a), .int (nI f), .int (nI g)] (c_X8_addRule l V hV (xw (xw (xw τ 88 (3 * k) (nI a)) 88 ((3 * k) + 1) (nI f)) 88 ((3 * k) + 2) (nI g)) (nI a) (nI f) (nI g) (kRule_0 (n := k) (by rw [xw_ne (r := 88) (a := 200) _ _ _ (by decide), xw_ne (r := 88) (a := 200) _ _ _ (by decide), xw_ne (r := 88) (a := 200) _ _ _ (by decide)]; exact hc15_1.1.1.1) (by omega) ha2 (vp_in_nI hf (by decide)) (vp_in_nI hg (by decide)))) (cwV 3 C.2.2.2.2.1 gL_build_X8_addRule rfl rfl rfl (by decide +kernel) ⟨Nat.le_of_ble_eq_true rfl, Nat.le_of_ble_eq_true rfl⟩) rfl rfl (Nat.le_of_ble_eq_true rfl) dL_build_111 ⟨Nat.le_of_ble_eq_true rfl, Nat.le_of_ble_eq_true rfl⟩ (x_kI ?_)
    refine x_v (y := nI (k + 1)) (hB2.1.1.1) ?_
    refine x_iload C dL_build_114 11 rfl ?_
    refine x_iconst C (1 : Int32) (by decide) dL_build_116 ?_
    refine x_iadd C dL_build_117 ?_
    refine x_v (y := nI (k + 1)) (nI_add k 1) ?_
    refine x_icmp_eq C 123 dL_build_118 rfl (fun h2 => ?_) (fun h2 => absurd h2 (fun q => q rfl))
    refine x_iinc C (q := 11) ((nI k) + (1 : Int32)) [(10, .int ((nI k) + (1 : Int32))), (11, .int x), (0, ra V 0), (1, .ref b), (2, .int (0 : Int32)), (3, ra V 87), (4, ra V 88), (5, ra V 89), (6, ra V 90), (7, ra V 91), (8, ra V 92), (9, ra V 93)] dL_build_123 rfl rfl (by decide) rfl ?_
    refine x_goto C 15 dL_build_126 rfl ?_
    refine x_lv [2, 3, 4, 5, 6, 7, 8, 9, 10, 11, 0] [(0, ra V 0), (1, .ref b), (2, .int (0 : Int32)), (3, ra V 87), (4, ra V 88), (5, ra V 89), (6, ra V 90), (7, ra V 91), (8, ra V 92), (9, ra V 93), (10, .int ((nI k) + (1 : Int32)))] rfl ?_
    exact ih15 _ _ _ (by omega) ⟨k + 1, rfl, by rw [nI_succ], (by omega), hB2, by rw [rApp_dif _ _ _ _ 87 (by decide), xw_ne (r := 88) (a := 87) _ _ _ (by decide), xw_ne (r := 88) (a := 87) _ _ _ (by decide), xw_ne (r := 88) (a := 87) _ _ _ (by decide)]; exact hc15_2⟩


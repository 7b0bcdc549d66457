set_option maxHeartbeats 4000000 in
set_option maxRecDepth 100000 in
theorem B_exprs {p : Program} {l : Launch} {e : Env} {s : State} {m : MethodId} {args : Array Value} {below : List Frame} {meth : Method} {c : Code} {V : xV} {Q : State → Prop} {b L : Nat} {xs : Nat → Int32} (C : XC p s m args c cL_build 20 RL wsL_build V [] (inR V)) (hV : xInj V) (hX : va_X b L xs s s.heap) (hbl : b < s.heap.size) (hbV : ¬ inR V b) (hL : L < 2 ^ 31) {σ : xS} {nr nc nl nm : Nat} (hnc1 : 0 < nc) (hnc4 : nc ≤ 4) (hnm1 : 0 < nm) (hnm7 : nm ≤ 7) (h : BI nr nc nl nm 0 0 σ) (h0 : σ 87 0 = nI nr) (h1 : σ 87 1 = nI nc) (h2 : σ 87 2 = nI nl) (h3 : σ 87 3 = nI nm) (K : ∀ (u : xS) (ne nx : Nat), BI nr nc nl nm ne nx u → u 87 0 = nI nr → u 87 1 = nI nc → u 87 2 = nI nl → u 87 3 = nI nm → u 87 4 = nI ne → u 87 5 = nI nx → X p l e (headSpec wsL_build rmB).room s m args below meth c V [] (inR V) 20 0 0 Q u 1431 [(0, ra V 0), (1, .ref b), (2, .int (0 : Int32)), (3, ra V 87), (4, ra V 88), (5, ra V 89), (6, ra V 90), (7, ra V 91), (8, ra V 92), (9, ra V 93)] []) : X p l e (headSpec wsL_build rmB).room s m args below meth c V [] (inR V) 20 0 0 Q σ 769 [(0, ra V 0), (1, .ref b), (2, .int (0 : Int32)), (3, ra V 87), (4, ra V 88), (5, ra V 89), (6, ra V 90), (7, ra V 91), (8, ra V 92), (9, ra V 93)] [] := by
  have hbA : ¬ inR V b := hbV
  refine x_aload_n C dL_build_769 rfl 3 rfl ?_
  refine x_iconst C (4 : Int32) (by decide) dL_build_770 ?_
  refine x_iconst C (0 : Int32) (by decide) dL_build_771 ?_
  refine x_iast C sh_87 (vp_in_nI (n := 4) (by omega) (by decide)) dL_build_772 ?_
  rw [show (4 : Int32).toNatClampNeg = 4 from nI_clamp (n := 4) (by omega)]
  refine x_aload_n C dL_build_773 rfl 3 rfl ?_
  refine x_iconst C (5 : Int32) (by decide) dL_build_774 ?_
  refine x_iconst C (0 : Int32) (by decide) dL_build_775 ?_
  refine x_iast C sh_87 (vp_in_nI (n := 5) (by omega) (by decide)) dL_build_776 ?_
  rw [show (5 : Int32).toNatClampNeg = 5 from nI_clamp (n := 5) (by omega)]
  refine x_arefn C dL_build_777 rfl 1 rfl ?_
  refine x_iload_n C dL_build_778 rfl 2 rfl ?_
  refine x_bipush C (8 : Int32) (by decide) dL_build_779 ?_
  refine x_iadd C dL_build_781 ?_
  refine x_v (y := (8 : Int32)) (by decide) ?_
  refine x_callSS C hX hbl hbA [.ref b, .int (8 : Int32)] (c_L_cell l V hV (xw (xw σ 87 4 (0 : Int32)) 87 5 (0 : Int32)) b L xs hbV hL (8 : Int32) (by decide)) (va_cwS 2 C.2.2.2.2.1 gL_build_L_cell rfl rfl rfl (by decide +kernel) ⟨Nat.le_of_ble_eq_true rfl, Nat.le_of_ble_eq_true rfl⟩) rfl rfl (Nat.le_of_ble_eq_true rfl) dL_build_782 ⟨Nat.le_of_ble_eq_true rfl, Nat.le_of_ble_eq_true rfl⟩ (x_kI ?_)
  refine x_bipush C (15 : Int32) (by decide) dL_build_785 ?_
  refine x_callS C [.int (cellI L xs (8 : Int32)), .int (15 : Int32)] (c_L_below l V hV (xw (xw σ 87 4 (0 : Int32)) 87 5 (0 : Int32)) (cellI L xs (8 : Int32)) (15 : Int32) (by decide)) (va_cwS 2 C.2.2.2.2.1 gL_build_L_below rfl rfl rfl (by decide +kernel) ⟨Nat.le_of_ble_eq_true rfl, Nat.le_of_ble_eq_true rfl⟩) rfl rfl (Nat.le_of_ble_eq_true rfl) dL_build_787 ⟨Nat.le_of_ble_eq_true rfl, Nat.le_of_ble_eq_true rfl⟩ (x_kI ?_)
  obtain ⟨nt, hnt, ent⟩ := below_at (cellI L xs (8 : Int32)) (n := 15) (by decide) (by decide)
  refine x_v (y := nI nt) ent ?_
  refine x_istore C [(10, .int (nI nt)), (0, ra V 0), (1, .ref b), (2, .int (0 : Int32)), (3, ra V 87), (4, ra V 88), (5, ra V 89), (6, ra V 90), (7, ra V 91), (8, ra V 92), (9, ra V 93)] dL_build_790 (by decide) rfl ?_
  refine x_iconst C (0 : Int32) (by decide) dL_build_792 ?_
  refine x_istore C [(11, .int (0 : Int32)), (10, .int (nI nt)), (0, ra V 0), (1, .ref b), (2, .int (0 : Int32)), (3, ra V 87), (4, ra V 88), (5, ra V 89), (6, ra V 90), (7, ra V 91), (8, ra V 92), (9, ra V 93)] dL_build_793 (by decide) rfl ?_
  refine x_lv [2, 3, 4, 5, 6, 7, 8, 9, 10, 11, 1, 0] [(0, ra V 0), (1, .ref b), (2, .int (0 : Int32)), (3, ra V 87), (4, ra V 88), (5, ra V 89), (6, ra V 90), (7, ra V 91), (8, ra V 92), (9, ra V 93), (10, .int (nI nt)), (11, .int (0 : Int32))] rfl ?_
  refine x_loop (fun μ τ lv_ => ∃ (k ne nx : Nat), μ = nt - k ∧ lv_ = [(0, ra V 0), (1, .ref b), (2, .int (0 : Int32)), (3, ra V 87), (4, ra V 88), (5, ra V 89), (6, ra V 90), (7, ra V 91), (8, ra V 92), (9, ra V 93), (10, .int (nI nt)), (11, .int (nI k))] ∧ k ≤ nt ∧ ne ≤ k ∧ BI nr nc nl nm ne nx τ ∧ τ 87 0 = nI nr ∧ τ 87 1 = nI nc ∧ τ 87 2 = nI nl ∧ τ 87 3 = nI nm ∧ τ 87 4 = nI ne ∧ τ 87 5 = nI nx) ⟨_, ⟨0, 0, 0, rfl, rfl, Nat.zero_le _, Nat.zero_le _, (h.cnt (fun r hr => xw_ne (r := 87) _ _ _ (fun z => hr (by rw [z]; exact List.mem_cons_self)))).cnt (fun r hr => xw_ne (r := 87) _ _ _ (fun z => hr (by rw [z]; exact List.mem_cons_self))), by rw [xw_other (by omega), xw_other (by omega)]; exact h0, by rw [xw_other (by omega), xw_other (by omega)]; exact h1, by rw [xw_other (by omega), xw_other (by omega)]; exact h2, by rw [xw_other (by omega), xw_other (by omega)]; exact h3, (xw_other (by omega)).trans (xw_at _ _ _ _), xw_at _ _ _ _⟩⟩ ?_
  rintro μ795 τ _ ⟨k, ne, nx, hμ795, rfl, hc795_0, hc795_1, hc795_2, hc795_3, hc795_4, hc795_5, hc795_6, hc795_7, hc795_8⟩ ih795
  refine x_iload C dL_build_795 11 rfl ?_
  refine x_iload C dL_build_797 10 rfl ?_
  refine x_icmp_ge C 1431 dL_build_799 rfl (fun h1 => ?_) (fun h1 => ?_)
  · refine x_lv [0, 1, 2, 3, 4, 5, 6, 7, 8, 9] [(0, ra V 0), (1, .ref b), (2, .int (0 : Int32)), (3, ra V 87), (4, ra V 88), (5, ra V 89), (6, ra V 90), (7, ra V 91), (8, ra V 92), (9, ra V 93)] rfl ?_
    exact K _ ne nx hc795_2 hc795_3 hc795_4 hc795_5 hc795_6 hc795_7 hc795_8
  · have hkn : k < nt := Nat.lt_of_not_le (fun hq => h1 (nI_le hq (by omega)))
    have hB := hc795_2
    have hlt : nt - (k + 1) < μ795 := by omega
    have hle1 : k + 1 ≤ nt := by omega
    have hle2 : ne ≤ k + 1 := by omega
    have hle3 : ne + 1 ≤ k + 1 := by omega
    have hnz_nc : ¬ nI nc = 0 := fun q => absurd ((nI_eq (a := nc) (b := 0) (by omega) (by decide)).mp q) (by omega)
    have hnz_nm : ¬ nI nm = 0 := fun q => absurd ((nI_eq (a := nm) (b := 0) (by omega) (by decide)).mp q) (by omega)
    refine x_arefn C dL_build_802 rfl 1 rfl ?_
    refine x_iload_n C dL_build_803 rfl 2 rfl ?_
    refine x_bipush C (9 : Int32) (by decide) dL_build_804 ?_
    refine x_iadd C dL_build_806 ?_
    refine x_v (y := (9 : Int32)) (by decide) ?_
    refine x_iload C dL_build_807 11 rfl ?_
    refine x_iconst C (5 : Int32) (by decide) dL_build_809 ?_
    refine x_irem C (by decide) dL_build_810 ?_
    refine x_v (y := nI (k % 5)) (pk_rem (a := k) (d := 5) (by omega) (by decide) (by decide)) ?_
    refine x_iadd C dL_build_811 ?_
    refine x_v (y := nI (9 + (k % 5))) (nI_add 9 (k % 5)) ?_
    refine x_callSS C hX hbl hbA [.ref b, .int (nI (9 + (k % 5)))] (c_L_cell l V hV τ b L xs hbV hL (nI (9 + (k % 5))) (nI_pos (n := 9 + (k % 5)) (by omega))) (va_cwS 2 C.2.2.2.2.1 gL_build_L_cell rfl rfl rfl (by decide +kernel) ⟨Nat.le_of_ble_eq_true rfl, Nat.le_of_ble_eq_true rfl⟩) rfl rfl (Nat.le_of_ble_eq_true rfl) dL_build_812 ⟨Nat.le_of_ble_eq_true rfl, Nat.le_of_ble_eq_true rfl⟩ (x_kI ?_)
    refine x_iload C dL_build_815 11 rfl ?_
    refine x_iconst C (5 : Int32) (by decide) dL_build_817 ?_
    refine x_idiv C (by decide) dL_build_818 ?_
    refine x_v (y := nI (k / 5)) (pk_div (a := k) (d := 5) (by omega) (by decide) (by decide)) ?_
    refine x_bipush C (9 : Int32) (by decide) dL_build_819 ?_
    refine x_imul C dL_build_821 ?_
    refine x_v (y := nI ((k / 5) * 9)) (pk_mul (k / 5) 9) ?_
    refine x_ishr C dL_build_822 ?_
    refine x_nm (fun x hx => ?_)
    refine x_istore C [(12, .int x), (0, ra V 0), (1, .ref b), (2, .int (0 : Int32)), (3, ra V 87), (4, ra V 88), (5, ra V 89), (6, ra V 90), (7, ra V 91), (8, ra V 92), (9, ra V 93), (10, .int (nI nt)), (11, .int (nI k))] dL_build_823 (by decide) rfl ?_
    refine x_iload C dL_build_825 0 rfl ?_
    refine x_aload_n C dL_build_827 rfl 4 rfl ?_
    refine x_iconst C (3 : Int32) (by decide) dL_build_828 ?_
    refine x_iald C sh_87 (vp_in_nI (n := 3) (by omega) (by decide)) dL_build_829 ?_
    rw [show (3 : Int32).toNatClampNeg = 3 from nI_clamp (n := 3) (by omega)]
    refine x_v (y := nI nm) (hc795_6) ?_
    refine x_callS C [.int x, .int (nI nm)] (c_L_below l V hV τ x (nI nm) hnz_nm) (va_cwS 2 C.2.2.2.2.1 gL_build_L_below rfl rfl rfl (by decide +kernel) ⟨Nat.le_of_ble_eq_true rfl, Nat.le_of_ble_eq_true rfl⟩) rfl rfl (Nat.le_of_ble_eq_true rfl) dL_build_830 ⟨Nat.le_of_ble_eq_true rfl, Nat.le_of_ble_eq_true rfl⟩ (x_kI ?_)
    obtain ⟨mt, hmt, emt⟩ := below_at x (n := nm) (by omega) (by omega)
    refine x_v (y := nI mt) emt ?_
    refine x_istore C [(13, .int (nI mt)), (12, .int x), (0, ra V 0), (1, .ref b), (2, .int (0 : Int32)), (3, ra V 87), (4, ra V 88), (5, ra V 89), (6, ra V 90), (7, ra V 91), (8, ra V 92), (9, ra V 93), (10, .int (nI nt)), (11, .int (nI k))] dL_build_833 (by decide) rfl ?_
    refine x_aload C dL_build_835 9 rfl ?_
    refine x_bipush C (7 : Int32) (by decide) dL_build_837 ?_
    refine x_iload C dL_build_839 0 rfl ?_
    refine x_imul C dL_build_841 ?_
    refine x_v (y := nI (7 * mt)) (pk_mul 7 mt) ?_
    refine x_iconst C (3 : Int32) (by decide) dL_build_842 ?_
    refine x_iadd C dL_build_843 ?_
    refine x_v (y := nI ((7 * mt) + 3)) (nI_add (7 * mt) 3) ?_
    refine x_iald C sh_91 (vp_in_nI (n := (7 * mt) + 3) (by omega) (by decide)) dL_build_844 ?_
    rw [show (nI ((7 * mt) + 3)).toNatClampNeg = (7 * mt) + 3 from nI_clamp (n := (7 * mt) + 3) (by omega)]
    refine x_if_ne C 851 dL_build_845 rfl (fun h2 => ?_) (fun h2 => ?_)
    · have hs1 : τ 91 (7 * mt + 3) = 1 := ((hB.2.2.2.1.2.2 mt hmt).2.2.2.1).resolve_left h2
      refine x_bipush C (6 : Int32) (by decide) dL_build_851 ?_
      refine x_aload_n C dL_build_853 rfl 5 rfl ?_
      refine x_iconst C (4 : Int32) (by decide) dL_build_854 ?_
      refine x_iald C sh_87 (vp_in_nI (n := 4) (by omega) (by decide)) dL_build_855 ?_
      rw [show (4 : Int32).toNatClampNeg = 4 from nI_clamp (n := 4) (by omega)]
      refine x_v (y := nI ne) (hc795_7) ?_
      refine x_imul C dL_build_856 ?_
      refine x_v (y := nI (6 * ne)) (pk_mul 6 ne) ?_
      refine x_istore C [(14, .int (nI (6 * ne))), (13, .int (nI mt)), (12, .int x), (0, ra V 0), (1, .ref b), (2, .int (0 : Int32)), (3, ra V 87), (4, ra V 88), (5, ra V 89), (6, ra V 90), (7, ra V 91), (8, ra V 92), (9, ra V 93), (10, .int (nI nt)), (11, .int (nI k))] dL_build_857 (by decide) rfl ?_
      refine x_iload C dL_build_859 2 rfl ?_
      refine x_iconst C (3 : Int32) (by decide) dL_build_861 ?_
      refine x_ishr C dL_build_862 ?_
      refine x_bipush C (6 : Int32) (by decide) dL_build_863 ?_
      refine x_callS C [.int (x >>> ((3 : Int32) &&& 31)), .int (6 : Int32)] (c_L_below l V hV τ (x >>> ((3 : Int32) &&& 31)) (6 : Int32) (by decide)) (va_cwS 2 C.2.2.2.2.1 gL_build_L_below rfl rfl rfl (by decide +kernel) ⟨Nat.le_of_ble_eq_true rfl, Nat.le_of_ble_eq_true rfl⟩) rfl rfl (Nat.le_of_ble_eq_true rfl) dL_build_865 ⟨Nat.le_of_ble_eq_true rfl, Nat.le_of_ble_eq_true rfl⟩ (x_kI ?_)
      obtain ⟨f0, hf0, ef0⟩ := below_at (x >>> ((3 : Int32) &&& 31)) (n := 6) (by decide) (by decide)
      refine x_v (y := nI f0) ef0 ?_
      refine x_istore C [(15, .int (nI f0)), (14, .int (nI (6 * ne))), (13, .int (nI mt)), (12, .int x), (0, ra V 0), (1, .ref b), (2, .int (0 : Int32)), (3, ra V 87), (4, ra V 88), (5, ra V 89), (6, ra V 90), (7, ra V 91), (8, ra V 92), (9, ra V 93), (10, .int (nI nt)), (11, .int (nI k))] dL_build_868 (by decide) rfl ?_
      refine x_aload_n C dL_build_870 rfl 7 rfl ?_
      refine x_iconst C (4 : Int32) (by decide) dL_build_871 ?_
      refine x_iald C sh_87 (vp_in_nI (n := 4) (by omega) (by decide)) dL_build_872 ?_
      rw [show (4 : Int32).toNatClampNeg = 4 from nI_clamp (n := 4) (by omega)]
      refine x_v (y := nI ne) (hc795_7) ?_
      refine x_jP (P := fun y => (y = -1 ∧ ne = 0) ∨ (∃ j, j < ne ∧ y = nI j)) 891 (fun y => [(15, .int (nI f0)), (14, .int (nI (6 * ne))), (13, .int (nI mt)), (12, .int x), (0, ra V 0), (1, .ref b), (2, .int (0 : Int32)), (3, ra V 87), (4, ra V 88), (5, ra V 89), (6, ra V 90), (7, ra V 91), (8, ra V 92), (9, ra V 93), (10, .int (nI nt)), (11, .int (nI k))]) (fun y => [.int y]) (fun ev hev => ?_) (fun hJ891 => ?_)
      · refine x_istore C [(16, .int ev), (15, .int (nI f0)), (14, .int (nI (6 * ne))), (13, .int (nI mt)), (12, .int x), (0, ra V 0), (1, .ref b), (2, .int (0 : Int32)), (3, ra V 87), (4, ra V 88), (5, ra V 89), (6, ra V 90), (7, ra V 91), (8, ra V 92), (9, ra V 93), (10, .int (nI nt)), (11, .int (nI k))] dL_build_891 (by decide) rfl ?_
        refine x_aload C dL_build_893 12 rfl ?_
        refine x_bipush C (7 : Int32) (by decide) dL_build_895 ?_
        refine x_iload C dL_build_897 3 rfl ?_
        refine x_imul C dL_build_899 ?_
        refine x_v (y := nI (7 * mt)) (pk_mul 7 mt) ?_
        refine x_iconst C (4 : Int32) (by decide) dL_build_900 ?_
        refine x_iadd C dL_build_901 ?_
        refine x_v (y := nI ((7 * mt) + 4)) (nI_add (7 * mt) 4) ?_
        refine x_iald C sh_91 (vp_in_nI (n := (7 * mt) + 4) (by omega) (by decide)) dL_build_902 ?_
        rw [show (nI ((7 * mt) + 4)).toNatClampNeg = (7 * mt) + 4 from nI_clamp (n := (7 * mt) + 4) (by omega)]
        refine x_jP (P := fun y => ∃ q, q < 3 ∧ y = nI q ∧ (0 < q → ¬ τ 91 (7 * mt + 4) = -1) ∧ (1 < q → ¬ τ 91 (7 * mt + 5) = -1)) 928 (fun y => [(16, .int ev), (15, .int (nI f0)), (14, .int (nI (6 * ne))), (13, .int (nI mt)), (12, .int x), (0, ra V 0), (1, .ref b), (2, .int (0 : Int32)), (3, ra V 87), (4, ra V 88), (5, ra V 89), (6, ra V 90), (7, ra V 91), (8, ra V 92), (9, ra V 93), (10, .int (nI nt)), (11, .int (nI k))]) (fun y => [.int y]) (fun pv hpv => ?_) (fun hJ928 => ?_)
        · obtain ⟨q, hq3, epv, hqa, hqb⟩ := hpv
          subst epv
          refine x_istore C [(17, .int (nI q)), (16, .int ev), (15, .int (nI f0)), (14, .int (nI (6 * ne))), (13, .int (nI mt)), (12, .int x), (0, ra V 0), (1, .ref b), (2, .int (0 : Int32)), (3, ra V 87), (4, ra V 88), (5, ra V 89), (6, ra V 90), (7, ra V 91), (8, ra V 92), (9, ra V 93), (10, .int (nI nt)), (11, .int (nI k))] dL_build_928 (by decide) rfl ?_
          refine x_jP (P := fun y => ∃ f, f < 6 ∧ y = nI f ∧ (f = 3 → 0 < q) ∧ (3 < f → ∃ j, j < ne ∧ ev = nI j)) 965 (fun y => [(17, .int (nI q)), (16, .int ev), (15, .int y), (14, .int (nI (6 * ne))), (13, .int (nI mt)), (12, .int x), (0, ra V 0), (1, .ref b), (2, .int (0 : Int32)), (3, ra V 87), (4, ra V 88), (5, ra V 89), (6, ra V 90), (7, ra V 91), (8, ra V 92), (9, ra V 93), (10, .int (nI nt)), (11, .int (nI k))]) (fun y => []) (fun fv hfv => ?_) (fun hJ965 => ?_)
          · obtain ⟨f, hf6, efv, hf3, hfe⟩ := hfv
            subst efv
            refine x_aload C dL_build_965 14 rfl ?_
            refine x_iload C dL_build_967 3 rfl ?_
            refine x_iload C dL_build_969 2 rfl ?_
            refine x_iast C sh_92 (vp_in_nI (n := 6 * ne) (by omega) (by decide)) dL_build_971 ?_
            rw [show (nI (6 * ne)).toNatClampNeg = 6 * ne from nI_clamp (n := 6 * ne) (by omega)]
            refine x_aload C dL_build_972 14 rfl ?_
            refine x_iload C dL_build_974 3 rfl ?_
            refine x_iconst C (1 : Int32) (by decide) dL_build_976 ?_
            refine x_iadd C dL_build_977 ?_
            refine x_v (y := nI ((6 * ne) + 1)) (nI_add (6 * ne) 1) ?_
            refine x_iload C dL_build_978 2 rfl ?_
            refine x_iconst C (3 : Int32) (by decide) dL_build_980 ?_
            refine x_jP (P := fun y => ∃ m, m < nm ∧ y = nI m ∧ τ 91 (7 * m + 3) = 1 ∧ (¬ 3 < f → m = mt) ∧ (3 < f → ∃ j, j < ne ∧ ev = nI j ∧ τ 92 (6 * j + 1) = y)) 999 (fun y => [(17, .int (nI q)), (16, .int ev), (15, .int (nI f)), (14, .int (nI (6 * ne))), (13, .int (nI mt)), (12, .int x), (0, ra V 0), (1, .ref b), (2, .int (0 : Int32)), (3, ra V 87), (4, ra V 88), (5, ra V 89), (6, ra V 90), (7, ra V 91), (8, ra V 92), (9, ra V 93), (10, .int (nI nt)), (11, .int (nI k))]) (fun y => [.int y, .int (nI ((6 * ne) + 1)), ra V 92]) (fun mv hmv => ?_) (fun hJ999 => ?_)
            · refine x_iast C sh_92 (vp_in_nI (n := (6 * ne) + 1) (by omega) (by decide)) dL_build_999 ?_
              rw [show (nI ((6 * ne) + 1)).toNatClampNeg = (6 * ne) + 1 from nI_clamp (n := (6 * ne) + 1) (by omega)]
              refine x_aload C dL_build_1000 14 rfl ?_
              refine x_iload C dL_build_1002 3 rfl ?_
              refine x_iconst C (2 : Int32) (by decide) dL_build_1004 ?_
              refine x_iadd C dL_build_1005 ?_
              refine x_v (y := nI ((6 * ne) + 2)) (nI_add (6 * ne) 2) ?_
              refine x_iload C dL_build_1006 2 rfl ?_
              refine x_jP (P := fun y => (f = 0 → vp_in y nc) ∧ (f = 3 → (y = 0 ∧ 0 < q) ∨ (y = 1 ∧ 1 < q)) ∧ (3 < f → vp_in y 10)) 1063 (fun y => [(17, .int (nI q)), (16, .int ev), (15, .int (nI f)), (14, .int (nI (6 * ne))), (13, .int (nI mt)), (12, .int x), (0, ra V 0), (1, .ref b), (2, .int (0 : Int32)), (3, ra V 87), (4, ra V 88), (5, ra V 89), (6, ra V 90), (7, ra V 91), (8, ra V 92), (9, ra V 93), (10, .int (nI nt)), (11, .int (nI k))]) (fun y => [.int y, .int (nI ((6 * ne) + 2)), ra V 92]) (fun dv hdv => ?_) (fun hJ1063 => ?_)
              · refine x_iast C sh_92 (vp_in_nI (n := (6 * ne) + 2) (by omega) (by decide)) dL_build_1063 ?_
                rw [show (nI ((6 * ne) + 2)).toNatClampNeg = (6 * ne) + 2 from nI_clamp (n := (6 * ne) + 2) (by omega)]
                refine x_aload C dL_build_1064 14 rfl ?_
                refine x_iload C dL_build_1066 3 rfl ?_
                refine x_iconst C (3 : Int32) (by decide) dL_build_1068 ?_
                refine x_iadd C dL_build_1069 ?_
                refine x_v (y := nI ((6 * ne) + 3)) (nI_add (6 * ne) 3) ?_
                refine x_iload C dL_build_1070 2 rfl ?_
                refine x_iconst C (3 : Int32) (by decide) dL_build_1072 ?_
                refine x_jP (P := fun y => (3 < f → y = ev) ∧ (¬ 3 < f → y = -1)) 1082 (fun y => [(17, .int (nI q)), (16, .int ev), (15, .int (nI f)), (14, .int (nI (6 * ne))), (13, .int (nI mt)), (12, .int x), (0, ra V 0), (1, .ref b), (2, .int (0 : Int32)), (3, ra V 87), (4, ra V 88), (5, ra V 89), (6, ra V 90), (7, ra V 91), (8, ra V 92), (9, ra V 93), (10, .int (nI nt)), (11, .int (nI k))]) (fun y => [.int y, .int (nI ((6 * ne) + 3)), ra V 92]) (fun ov hov => ?_) (fun hJ1082 => ?_)
                · refine x_iast C sh_92 (vp_in_nI (n := (6 * ne) + 3) (by omega) (by decide)) dL_build_1082 ?_
                  rw [show (nI ((6 * ne) + 3)).toNatClampNeg = (6 * ne) + 3 from nI_clamp (n := (6 * ne) + 3) (by omega)]
                  refine x_aload C dL_build_1083 14 rfl ?_
                  refine x_iload C dL_build_1085 3 rfl ?_
                  refine x_iconst C (4 : Int32) (by decide) dL_build_1087 ?_
                  refine x_iadd C dL_build_1088 ?_
                  refine x_v (y := nI ((6 * ne) + 4)) (nI_add (6 * ne) 4) ?_
                  refine x_iconst C (-1 : Int32) (by decide) dL_build_1089 ?_
                  refine x_iast C sh_92 (vp_in_nI (n := (6 * ne) + 4) (by omega) (by decide)) dL_build_1090 ?_
                  rw [show (nI ((6 * ne) + 4)).toNatClampNeg = (6 * ne) + 4 from nI_clamp (n := (6 * ne) + 4) (by omega)]
                  refine x_aload C dL_build_1091 14 rfl ?_
                  refine x_iload C dL_build_1093 3 rfl ?_
                  refine x_iconst C (5 : Int32) (by decide) dL_build_1095 ?_
                  refine x_iadd C dL_build_1096 ?_
                  refine x_v (y := nI ((6 * ne) + 5)) (nI_add (6 * ne) 5) ?_
                  refine x_iconst C (-1 : Int32) (by decide) dL_build_1097 ?_
                  refine x_iast C sh_92 (vp_in_nI (n := (6 * ne) + 5) (by omega) (by decide)) dL_build_1098 ?_
                  rw [show (nI ((6 * ne) + 5)).toNatClampNeg = (6 * ne) + 5 from nI_clamp (n := (6 * ne) + 5) (by omega)]
                  refine x_iconst C (4 : Int32) (by decide) dL_build_1099 ?_
                  refine x_istore C [(18, .int (4 : Int32)), (17, .int (nI q)), (16, .int ev), (15, .int (nI f)), (14, .int (nI (6 * ne))), (13, .int (nI mt)), (12, .int x), (0, ra V 0), (1, .ref b), (2, .int (0 : Int32)), (3, ra V 87), (4, ra V 88), (5, ra V 89), (6, ra V 90), (7, ra V 91), (8, ra V 92), (9, ra V 93), (10, .int (nI nt)), (11, .int (nI k))] dL_build_1100 (by decide) rfl ?_
                  refine x_jS (P := fun u _ => ∃ a4 a5, u = six τ ne (nI f) mv dv ov a4 a5 ∧ prt (τ 92) ne a4 mv ∧ prt (τ 92) ne a5 mv ∧ (a4 = -1 → a5 = -1) ∧ (¬ f = 5 → a4 = -1 ∧ a5 = -1)) 1185 (fun y => [(17, .int (nI q)), (16, .int ev), (15, .int (nI f)), (14, .int (nI (6 * ne))), (13, .int (nI mt)), (12, .int x), (0, ra V 0), (1, .ref b), (2, .int (0 : Int32)), (3, ra V 87), (4, ra V 88), (5, ra V 89), (6, ra V 90), (7, ra V 91), (8, ra V 92), (9, ra V 93), (10, .int (nI nt)), (11, .int (nI k))]) (fun y => []) (fun u1185 w0 hw0 => ?_) (fun hJ1185 => ?_)
                  · obtain ⟨a4, a5, eu, p4, p5, h45, hn5⟩ := hw0
                    have hE := EV_of (nc := nc) hf6 hqa hqb hmv hdv hov p4 p5 h45 hn5 (by omega)
                    have d1 : ∀ r, r ≠ 92 → u1185 r = τ r := fun r hr => by rw [eu]; exact six_ne _ _ _ _ _ _ _ _ hr
                    have hRM : Rm cfgO nm u1185 := hB.2.2.2.1.1.of (fun r hr => d1 r ((by decide : ∀ r, r ∈ [203, 36, 38, 40, 42, 44, 46, 34] → r ≠ 92) r hr)) (El.same (d1 91 (by decide)))
                    have hIM : mIsM u1185 (nI mt) = true := isM_1 hRM hB.2.2.2.1.2.1 hmt (by rw [d1 91 (by decide)]; exact hs1)
                    have z5 : u1185 205 0 = nI ne := by rw [d1 205 (by decide)]; exact hB.2.2.2.2.1.1.1
                    have z1 : u1185 201 0 = nI nc := by rw [d1 201 (by decide)]; exact hB.2.1.1.1
                    have m51 : ∀ j, j < ne → vAt 50 (u1185 51) (nI j) = τ 92 (6 * j + 1) := fun j hj => by rw [vAt_n (by omega) (by decide), d1 51 (by decide), hB.2.2.2.2.1.1.2.2.1, rwf_at hj]
                    refine x_jS (P := fun v y => BI nr nc nl nm (ne + 1) nx v ∧ (∀ i, v 87 i = τ 87 i) ∧ y = nI ne) 1303 (fun y => [(17, .int (nI q)), (16, .int ev), (15, .int (nI f)), (14, .int (nI (6 * ne))), (13, .int (nI mt)), (12, .int x), (0, ra V 0), (1, .ref b), (2, .int (0 : Int32)), (3, ra V 87), (4, ra V 88), (5, ra V 89), (6, ra V 90), (7, ra V 91), (8, ra V 92), (9, ra V 93), (10, .int (nI nt)), (11, .int (nI k))]) (fun y => [.int y]) (fun u1303 md hmd => ?_) (fun hJ1303 => ?_)
                    · obtain ⟨hB4, h87, emd⟩ := hmd
                      subst emd
                      have hnx87 : u1303 87 5 = nI nx := by rw [h87]; exact hc795_8
                      refine x_istore C [(18, .int (nI ne)), (17, .int (nI q)), (16, .int ev), (15, .int (nI f)), (14, .int (nI (6 * ne))), (13, .int (nI mt)), (12, .int x), (0, ra V 0), (1, .ref b), (2, .int (0 : Int32)), (3, ra V 87), (4, ra V 88), (5, ra V 89), (6, ra V 90), (7, ra V 91), (8, ra V 92), (9, ra V 93), (10, .int (nI nt)), (11, .int (nI k))] dL_build_1303 (by decide) rfl ?_
                      refine x_iload C dL_build_1305 0 rfl ?_
                      refine x_aload_n C dL_build_1307 rfl 10 rfl ?_
                      refine x_iconst C (4 : Int32) (by decide) dL_build_1308 ?_
                      refine x_iald C sh_87 (vp_in_nI (n := 4) (by omega) (by decide)) dL_build_1309 ?_
                      rw [show (4 : Int32).toNatClampNeg = 4 from nI_clamp (n := 4) (by omega)]
                      refine x_v (y := nI ne) (by rw [h87]; exact hc795_7) ?_
                      refine x_icmp_eq C 1315 dL_build_1310 rfl (fun h3 => ?_) (fun h3 => absurd h3 (fun q => q rfl))
                      refine x_aload_n C dL_build_1315 rfl 10 rfl ?_
                      refine x_iconst C (4 : Int32) (by decide) dL_build_1316 ?_
                      refine x_dup2 C rfl rfl dL_build_1317 ?_
                      refine x_iald C sh_87 (vp_in_nI (n := 4) (by omega) (by decide)) dL_build_1318 ?_
                      rw [show (4 : Int32).toNatClampNeg = 4 from nI_clamp (n := 4) (by omega)]
                      refine x_v (y := nI ne) (by rw [h87]; exact hc795_7) ?_
                      refine x_iconst C (1 : Int32) (by decide) dL_build_1319 ?_
                      refine x_iadd C dL_build_1320 ?_
                      refine x_v (y := nI (ne + 1)) (nI_add ne 1) ?_
                      refine x_iast C sh_87 (vp_in_nI (n := 4) (by omega) (by decide)) dL_build_1321 ?_
                      rw [show (4 : Int32).toNatClampNeg = 4 from nI_clamp (n := 4) (by omega)]
                      have hB5 : BI nr nc nl nm (ne + 1) nx (xw u1303 87 4 (nI (ne + 1))) := hB4.cnt (fun r hr => xw_ne (r := 87) _ _ _ (fun z => hr (by rw [z]; exact List.mem_cons_self)))
                      refine x_iload C dL_build_1322 6 rfl ?_
                      refine x_bipush C (20 : Int32) (by decide) dL_build_1324 ?_
                      refine x_ishr C dL_build_1326 ?_
                      refine x_iconst C (3 : Int32) (by decide) dL_build_1327 ?_
                      refine x_callS C [.int (x >>> ((20 : Int32) &&& 31)), .int (3 : Int32)] (c_L_below l V hV (xw u1303 87 4 (nI (ne + 1))) (x >>> ((20 : Int32) &&& 31)) (3 : Int32) (by decide)) (va_cwS 2 C.2.2.2.2.1 gL_build_L_below rfl rfl rfl (by decide +kernel) ⟨Nat.le_of_ble_eq_true rfl, Nat.le_of_ble_eq_true rfl⟩) rfl rfl (Nat.le_of_ble_eq_true rfl) dL_build_1328 ⟨Nat.le_of_ble_eq_true rfl, Nat.le_of_ble_eq_true rfl⟩ (x_kI ?_)
                      refine x_if_gt C 1425 dL_build_1331 rfl (fun h4 => ?_) (fun h4 => ?_)
                      · refine x_iinc C (q := 18) ((nI k) + (1 : Int32)) [(11, .int ((nI k) + (1 : Int32))), (18, .int (nI ne)), (17, .int (nI q)), (16, .int ev), (15, .int (nI f)), (14, .int (nI (6 * ne))), (13, .int (nI mt)), (12, .int x), (0, ra V 0), (1, .ref b), (2, .int (0 : Int32)), (3, ra V 87), (4, ra V 88), (5, ra V 89), (6, ra V 90), (7, ra V 91), (8, ra V 92), (9, ra V 93), (10, .int (nI nt))] dL_build_1425 rfl rfl (by decide) rfl ?_
                        refine x_goto C 795 dL_build_1428 rfl ?_
                        refine x_lv [8, 9, 10, 11, 12, 13, 14, 15, 16, 17, 18, 0] [(0, ra V 0), (1, .ref b), (2, .int (0 : Int32)), (3, ra V 87), (4, ra V 88), (5, ra V 89), (6, ra V 90), (7, ra V 91), (8, ra V 92), (9, ra V 93), (10, .int (nI nt)), (11, .int ((nI k) + (1 : Int32)))] rfl ?_
                        exact ih795 _ _ _ hlt ⟨k + 1, ne + 1, nx, rfl, by rw [nI_succ], hle1, hle3, hB5, by rw [xw_other (by omega), h87]; exact hc795_3, by rw [xw_other (by omega), h87]; exact hc795_4, by rw [xw_other (by omega), h87]; exact hc795_5, by rw [xw_other (by omega), h87]; exact hc795_6, xw_at _ _ _ _, by rw [xw_other (by omega), h87]; exact hc795_8⟩
                      · refine x_aload_n C dL_build_1334 rfl 10 rfl ?_
                        refine x_iconst C (5 : Int32) (by decide) dL_build_1335 ?_
                        refine x_iald C sh_87 (vp_in_nI (n := 5) (by omega) (by decide)) dL_build_1336 ?_
                        rw [show (5 : Int32).toNatClampNeg = 5 from nI_clamp (n := 5) (by omega)]
                        have hnx6 : nx ≤ 6 := hB5.2.2.2.2.2.2.1
                        refine x_v (y := nI nx) (by rw [xw_other (by omega)]; exact hnx87) ?_
                        refine x_bipush C (6 : Int32) (by decide) dL_build_1337 ?_
                        refine x_icmp_ne C 1345 dL_build_1339 rfl (fun h5 => ?_) (fun h5 => ?_)
                        · have n_h1 : ¬ nt ≤ k := fun z => h1 ((nI_leI (a := nt) (b := k) (by omega) (by omega)).mpr z)
                          have n_h5 : ¬ nx = 6 := fun z => h5 ((nI_eq (a := nx) (b := 6) (by omega) (by omega)).mpr z)
                          refine x_aload C dL_build_1345 16 rfl ?_
                          refine x_iconst C (2 : Int32) (by decide) dL_build_1347 ?_
                          refine x_aload_n C dL_build_1348 rfl 10 rfl ?_
                          refine x_iconst C (5 : Int32) (by decide) dL_build_1349 ?_
                          refine x_iald C sh_87 (vp_in_nI (n := 5) (by omega) (by decide)) dL_build_1350 ?_
                          rw [show (5 : Int32).toNatClampNeg = 5 from nI_clamp (n := 5) (by omega)]
                          refine x_v (y := nI nx) (by rw [xw_other (by omega)]; exact hnx87) ?_
                          refine x_imul C dL_build_1351 ?_
                          refine x_v (y := nI (2 * nx)) (pk_mul 2 nx) ?_
                          refine x_aload_n C dL_build_1352 rfl 10 rfl ?_
                          refine x_iconst C (4 : Int32) (by decide) dL_build_1353 ?_
                          refine x_iald C sh_87 (vp_in_nI (n := 4) (by omega) (by decide)) dL_build_1354 ?_
                          rw [show (4 : Int32).toNatClampNeg = 4 from nI_clamp (n := 4) (by omega)]
                          refine x_v (y := nI (ne + 1)) (by rw [xw_at]) ?_
                          refine x_iconst C (1 : Int32) (by decide) dL_build_1355 ?_
                          refine x_isub C dL_build_1356 ?_
                          refine x_v (y := nI ne) (nI_pred ne) ?_
                          refine x_iast C sh_93 (vp_in_nI (n := 2 * nx) (by omega) (by decide)) dL_build_1357 ?_
                          rw [show (nI (2 * nx)).toNatClampNeg = 2 * nx from nI_clamp (n := 2 * nx) (by omega)]
                          refine x_aload C dL_build_1358 16 rfl ?_
                          refine x_iconst C (2 : Int32) (by decide) dL_build_1360 ?_
                          refine x_aload_n C dL_build_1361 rfl 10 rfl ?_
                          refine x_iconst C (5 : Int32) (by decide) dL_build_1362 ?_
                          refine x_iald C sh_87 (vp_in_nI (n := 5) (by omega) (by decide)) dL_build_1363 ?_
                          rw [show (5 : Int32).toNatClampNeg = 5 from nI_clamp (n := 5) (by omega)]
                          refine x_v (y := nI nx) (by rw [xw_ne (r := 93) (a := 87) _ _ _ (by decide), xw_other (by omega)]; exact hnx87) ?_
                          refine x_imul C dL_build_1364 ?_
                          refine x_v (y := nI (2 * nx)) (pk_mul 2 nx) ?_
                          refine x_iconst C (1 : Int32) (by decide) dL_build_1365 ?_
                          refine x_iadd C dL_build_1366 ?_
                          refine x_v (y := nI ((2 * nx) + 1)) (nI_add (2 * nx) 1) ?_
                          refine x_iload C dL_build_1367 6 rfl ?_
                          refine x_iconst C (5 : Int32) (by decide) dL_build_1369 ?_
                          refine x_ishr C dL_build_1370 ?_
                          refine x_callS C [.int (x >>> ((5 : Int32) &&& 31))] (c_L_condition l V hV (xw (xw u1303 87 4 (nI (ne + 1))) 93 (2 * nx) (nI ne)) (x >>> ((5 : Int32) &&& 31))) (va_cwS 1 C.2.2.2.2.1 gL_build_L_condition rfl rfl rfl (by decide +kernel) ⟨Nat.le_of_ble_eq_true rfl, Nat.le_of_ble_eq_true rfl⟩) rfl rfl (Nat.le_of_ble_eq_true rfl) dL_build_1371 ⟨Nat.le_of_ble_eq_true rfl, Nat.le_of_ble_eq_true rfl⟩ (x_kI ?_)
                          obtain ⟨x7, hx7, ex7⟩ : ∃ z_, GC z_ ∧ condI (x >>> ((5 : Int32) &&& 31)) = z_ := ⟨_, cond_GC _, rfl⟩
                          refine x_v (y := x7) ex7 ?_
                          refine x_iast C sh_93 (vp_in_nI (n := (2 * nx) + 1) (by omega) (by decide)) dL_build_1374 ?_
                          rw [show (nI ((2 * nx) + 1)).toNatClampNeg = (2 * nx) + 1 from nI_clamp (n := (2 * nx) + 1) (by omega)]
                          refine x_aload_n C dL_build_1375 rfl 7 rfl ?_
                          refine x_aload_n C dL_build_1376 rfl 10 rfl ?_
                          refine x_iconst C (4 : Int32) (by decide) dL_build_1377 ?_
                          refine x_iald C sh_87 (vp_in_nI (n := 4) (by omega) (by decide)) dL_build_1378 ?_
                          rw [show (4 : Int32).toNatClampNeg = 4 from nI_clamp (n := 4) (by omega)]
                          refine x_v (y := nI (ne + 1)) (by rw [xw_ne (r := 93) (a := 87) _ _ _ (by decide), xw_ne (r := 93) (a := 87) _ _ _ (by decide), xw_at]) ?_
                          refine x_iconst C (1 : Int32) (by decide) dL_build_1379 ?_
                          refine x_isub C dL_build_1380 ?_
                          refine x_v (y := nI ne) (nI_pred ne) ?_
                          refine x_aload C dL_build_1381 16 rfl ?_
                          refine x_iconst C (2 : Int32) (by decide) dL_build_1383 ?_
                          refine x_aload_n C dL_build_1384 rfl 10 rfl ?_
                          refine x_iconst C (5 : Int32) (by decide) dL_build_1385 ?_
                          refine x_iald C sh_87 (vp_in_nI (n := 5) (by omega) (by decide)) dL_build_1386 ?_
                          rw [show (5 : Int32).toNatClampNeg = 5 from nI_clamp (n := 5) (by omega)]
                          refine x_v (y := nI nx) (by rw [xw_ne (r := 93) (a := 87) _ _ _ (by decide), xw_ne (r := 93) (a := 87) _ _ _ (by decide), xw_other (by omega)]; exact hnx87) ?_
                          refine x_imul C dL_build_1387 ?_
                          refine x_v (y := nI (2 * nx)) (pk_mul 2 nx) ?_
                          refine x_iconst C (1 : Int32) (by decide) dL_build_1388 ?_
                          refine x_iadd C dL_build_1389 ?_
                          refine x_v (y := nI ((2 * nx) + 1)) (nI_add (2 * nx) 1) ?_
                          refine x_iald C sh_93 (vp_in_nI (n := (2 * nx) + 1) (by omega) (by decide)) dL_build_1390 ?_
                          rw [show (nI ((2 * nx) + 1)).toNatClampNeg = (2 * nx) + 1 from nI_clamp (n := (2 * nx) + 1) (by omega)]
                          refine x_v (y := x7) (by rw [xw_at]) ?_
                          refine x_bipush C (16 : Int32) (by decide) dL_build_1391 ?_
                          refine x_idiv C (by decide) dL_build_1393 ?_
                          refine x_aload C dL_build_1394 16 rfl ?_
                          refine x_iconst C (2 : Int32) (by decide) dL_build_1396 ?_
                          refine x_aload_n C dL_build_1397 rfl 10 rfl ?_
                          refine x_iconst C (5 : Int32) (by decide) dL_build_1398 ?_
                          refine x_iald C sh_87 (vp_in_nI (n := 5) (by omega) (by decide)) dL_build_1399 ?_
                          rw [show (5 : Int32).toNatClampNeg = 5 from nI_clamp (n := 5) (by omega)]
                          refine x_v (y := nI nx) (by rw [xw_ne (r := 93) (a := 87) _ _ _ (by decide), xw_ne (r := 93) (a := 87) _ _ _ (by decide), xw_other (by omega)]; exact hnx87) ?_
                          refine x_imul C dL_build_1400 ?_
                          refine x_v (y := nI (2 * nx)) (pk_mul 2 nx) ?_
                          refine x_iconst C (1 : Int32) (by decide) dL_build_1401 ?_
                          refine x_iadd C dL_build_1402 ?_
                          refine x_v (y := nI ((2 * nx) + 1)) (nI_add (2 * nx) 1) ?_
                          refine x_iald C sh_93 (vp_in_nI (n := (2 * nx) + 1) (by omega) (by decide)) dL_build_1403 ?_
                          rw [show (nI ((2 * nx) + 1)).toNatClampNeg = (2 * nx) + 1 from nI_clamp (n := (2 * nx) + 1) (by omega)]
                          refine x_v (y := x7) (by rw [xw_at]) ?_
                          refine x_bipush C (16 : Int32) (by decide) dL_build_1404 ?_
                          refine x_irem C (by decide) dL_build_1406 ?_
                          refine x_v (y := offO x7) (rfl) ?_
                          have hB6 := BI.res (σ := xw u1303 87 4 (nI (ne + 1))) hB5 (by omega) ⟨ne, Nat.lt_succ_self ne, rfl⟩ hx7
                          refine x_callV C sh_0 (by decide) rfl [.int (nI ne), .int (x7 / (16 : Int32)), .int (offO x7)] (c_X8_addResult l V hV (xw (xw (xw u1303 87 4 (nI (ne + 1))) 93 (2 * nx) (nI ne)) 93 ((2 * nx) + 1) x7) (nI ne) (x7 / (16 : Int32)) (offO x7) (kRes_0 (e := ne + 1) (n := nx) (by rw [xw_ne (r := 93) (a := 205) _ _ _ (by decide), xw_ne (r := 93) (a := 205) _ _ _ (by decide)]; exact hB5.2.2.2.2.1.1.1) (by omega) (by rw [xw_ne (r := 93) (a := 204) _ _ _ (by decide), xw_ne (r := 93) (a := 204) _ _ _ (by decide)]; exact hB5.2.2.2.2.2.1.1) (by omega) (vp_in_nI (Nat.lt_succ_self ne) (by omega)) hx7)) (cwV 3 C.2.2.2.2.1 gL_build_X8_addResult rfl rfl rfl (by decide +kernel) ⟨Nat.le_of_ble_eq_true rfl, Nat.le_of_ble_eq_true rfl⟩) rfl rfl (Nat.le_of_ble_eq_true rfl) dL_build_1407 ⟨Nat.le_of_ble_eq_true rfl, Nat.le_of_ble_eq_true rfl⟩ (x_kI ?_)
                          refine x_v (y := nI nx) (by rw [xw_ne (r := 93) (a := 204) _ _ _ (by decide), xw_ne (r := 93) (a := 204) _ _ _ (by decide), xw_ne (r := 87) (a := 204) _ _ _ (by decide)]; exact hB5.2.2.2.2.2.1.1) ?_
                          refine x_aload_n C dL_build_1410 rfl 10 rfl ?_
                          refine x_iconst C (5 : Int32) (by decide) dL_build_1411 ?_
                          refine x_iald C sh_87 (vp_in_nI (n := 5) (by omega) (by decide)) dL_build_1412 ?_
                          rw [show (5 : Int32).toNatClampNeg = 5 from nI_clamp (n := 5) (by omega)]
                          refine x_v (y := nI nx) (by rw [Rx_dif _ _ _ _ 87 (by decide), xw_ne (r := 93) (a := 87) _ _ _ (by decide), xw_ne (r := 93) (a := 87) _ _ _ (by decide), xw_other (by omega)]; exact hnx87) ?_
                          refine x_icmp_eq C 1418 dL_build_1413 rfl (fun h6 => ?_) (fun h6 => absurd h6 (fun q => q rfl))
                          refine x_aload_n C dL_build_1418 rfl 10 rfl ?_
                          refine x_iconst C (5 : Int32) (by decide) dL_build_1419 ?_
                          refine x_dup2 C rfl rfl dL_build_1420 ?_
                          refine x_iald C sh_87 (vp_in_nI (n := 5) (by omega) (by decide)) dL_build_1421 ?_
                          rw [show (5 : Int32).toNatClampNeg = 5 from nI_clamp (n := 5) (by omega)]
                          refine x_v (y := nI nx) (by rw [Rx_dif _ _ _ _ 87 (by decide), xw_ne (r := 93) (a := 87) _ _ _ (by decide), xw_ne (r := 93) (a := 87) _ _ _ (by decide), xw_other (by omega)]; exact hnx87) ?_
                          refine x_iconst C (1 : Int32) (by decide) dL_build_1422 ?_
                          refine x_iadd C dL_build_1423 ?_
                          refine x_v (y := nI (nx + 1)) (nI_add nx 1) ?_
                          refine x_iast C sh_87 (vp_in_nI (n := 5) (by omega) (by decide)) dL_build_1424 ?_
                          rw [show (5 : Int32).toNatClampNeg = 5 from nI_clamp (n := 5) (by omega)]
                          refine x_iinc C (q := 18) ((nI k) + (1 : Int32)) [(11, .int ((nI k) + (1 : Int32))), (18, .int (nI ne)), (17, .int (nI q)), (16, .int ev), (15, .int (nI f)), (14, .int (nI (6 * ne))), (13, .int (nI mt)), (12, .int x), (0, ra V 0), (1, .ref b), (2, .int (0 : Int32)), (3, ra V 87), (4, ra V 88), (5, ra V 89), (6, ra V 90), (7, ra V 91), (8, ra V 92), (9, ra V 93), (10, .int (nI nt))] dL_build_1425 rfl rfl (by decide) rfl ?_
                          refine x_goto C 795 dL_build_1428 rfl ?_
                          refine x_lv [8, 9, 10, 11, 12, 13, 14, 15, 16, 17, 18, 0] [(0, ra V 0), (1, .ref b), (2, .int (0 : Int32)), (3, ra V 87), (4, ra V 88), (5, ra V 89), (6, ra V 90), (7, ra V 91), (8, ra V 92), (9, ra V 93), (10, .int (nI nt)), (11, .int ((nI k) + (1 : Int32)))] rfl ?_
                          exact ih795 _ _ _ hlt ⟨k + 1, ne + 1, nx + 1, rfl, by rw [nI_succ], hle1, hle3, hB6.cnt (fun r hr => xw_ne (r := 87) _ _ _ (fun z => hr (by rw [z]; exact List.mem_cons_self))), by rw [xw_other (by omega), Rx_dif _ _ _ _ 87 (by decide), xw_ne (r := 93) (a := 87) _ _ _ (by decide), xw_ne (r := 93) (a := 87) _ _ _ (by decide), xw_other (by omega), h87]; exact hc795_3, by rw [xw_other (by omega), Rx_dif _ _ _ _ 87 (by decide), xw_ne (r := 93) (a := 87) _ _ _ (by decide), xw_ne (r := 93) (a := 87) _ _ _ (by decide), xw_other (by omega), h87]; exact hc795_4, by rw [xw_other (by omega), Rx_dif _ _ _ _ 87 (by decide), xw_ne (r := 93) (a := 87) _ _ _ (by decide), xw_ne (r := 93) (a := 87) _ _ _ (by decide), xw_other (by omega), h87]; exact hc795_5, by rw [xw_other (by omega), Rx_dif _ _ _ _ 87 (by decide), xw_ne (r := 93) (a := 87) _ _ _ (by decide), xw_ne (r := 93) (a := 87) _ _ _ (by decide), xw_other (by omega), h87]; exact hc795_6, by rw [xw_other (by omega), Rx_dif _ _ _ _ 87 (by decide), xw_ne (r := 93) (a := 87) _ _ _ (by decide), xw_ne (r := 93) (a := 87) _ _ _ (by decide), xw_at], xw_at _ _ _ _⟩
                        · refine x_goto C 1425 dL_build_1342 rfl ?_
                          refine x_iinc C (q := 18) ((nI k) + (1 : Int32)) [(11, .int ((nI k) + (1 : Int32))), (18, .int (nI ne)), (17, .int (nI q)), (16, .int ev), (15, .int (nI f)), (14, .int (nI (6 * ne))), (13, .int (nI mt)), (12, .int x), (0, ra V 0), (1, .ref b), (2, .int (0 : Int32)), (3, ra V 87), (4, ra V 88), (5, ra V 89), (6, ra V 90), (7, ra V 91), (8, ra V 92), (9, ra V 93), (10, .int (nI nt))] dL_build_1425 rfl rfl (by decide) rfl ?_
                          refine x_goto C 795 dL_build_1428 rfl ?_
                          refine x_lv [8, 9, 10, 11, 12, 13, 14, 15, 16, 17, 18, 0] [(0, ra V 0), (1, .ref b), (2, .int (0 : Int32)), (3, ra V 87), (4, ra V 88), (5, ra V 89), (6, ra V 90), (7, ra V 91), (8, ra V 92), (9, ra V 93), (10, .int (nI nt)), (11, .int ((nI k) + (1 : Int32)))] rfl ?_
                          exact ih795 _ _ _ hlt ⟨k + 1, ne + 1, nx, rfl, by rw [nI_succ], hle1, hle3, hB5, by rw [xw_other (by omega), h87]; exact hc795_3, by rw [xw_other (by omega), h87]; exact hc795_4, by rw [xw_other (by omega), h87]; exact hc795_5, by rw [xw_other (by omega), h87]; exact hc795_6, xw_at _ _ _ _, by rw [xw_other (by omega), h87]; exact hc795_8⟩
                    · refine x_iload C dL_build_1185 2 rfl ?_
                      refine x_if_ne C 1206 dL_build_1187 rfl (fun h7 => ?_) (fun h7 => ?_)
                      · refine x_iload C dL_build_1206 2 rfl ?_
                        refine x_iconst C (3 : Int32) (by decide) dL_build_1208 ?_
                        refine x_icmp_ge C 1232 dL_build_1209 rfl (fun h8 => ?_) (fun h8 => ?_)
                        · refine x_iload C dL_build_1232 2 rfl ?_
                          refine x_iconst C (3 : Int32) (by decide) dL_build_1234 ?_
                          refine x_icmp_ne C 1254 dL_build_1235 rfl (fun h9 => ?_) (fun h9 => ?_)
                          · refine x_iload C dL_build_1254 2 rfl ?_
                            refine x_iconst C (4 : Int32) (by decide) dL_build_1256 ?_
                            refine x_icmp_ne C 1276 dL_build_1257 rfl (fun h10 => ?_) (fun h10 => ?_)
                            · have n_h1 : ¬ nt ≤ k := fun z => h1 ((nI_leI (a := nt) (b := k) (by omega) (by omega)).mpr z)
                              have n_h7 : ¬ f = 0 := fun z => h7 ((nI_eq (a := f) (b := 0) (by omega) (by omega)).mpr z)
                              have n_h8 : 3 ≤ f := (nI_leI (a := 3) (b := f) (by omega) (by omega)).mp h8
                              have n_h9 : ¬ f = 3 := fun z => h9 ((nI_eq (a := f) (b := 3) (by omega) (by omega)).mpr z)
                              have n_h10 : ¬ f = 4 := fun z => h10 ((nI_eq (a := f) (b := 4) (by omega) (by omega)).mpr z)
                              have vev : vAt 50 (u1185 51) ev = mv := by obtain ⟨m, -, -, -, -, hj5⟩ := hmv; obtain ⟨j, hj, ej, e4⟩ := hj5 (by omega); rw [ej, m51 j hj]; exact e4
                              have vpe : vp_in ev ne := by obtain ⟨j, hj, ej⟩ := hfe (by omega); rw [ej]; exact vp_in_nI hj (by omega)
                              refine x_aload_n C dL_build_1276 rfl 6 rfl ?_
                              refine x_iload C dL_build_1277 1 rfl ?_
                              refine x_aload C dL_build_1279 14 rfl ?_
                              refine x_iload C dL_build_1281 3 rfl ?_
                              refine x_iconst C (2 : Int32) (by decide) dL_build_1283 ?_
                              refine x_iadd C dL_build_1284 ?_
                              refine x_v (y := nI ((6 * ne) + 2)) (nI_add (6 * ne) 2) ?_
                              refine x_iald C sh_92 (vp_in_nI (n := (6 * ne) + 2) (by omega) (by decide)) dL_build_1285 ?_
                              rw [show (nI ((6 * ne) + 2)).toNatClampNeg = (6 * ne) + 2 from nI_clamp (n := (6 * ne) + 2) (by omega)]
                              refine x_v (y := dv) (by rw [eu]; exact six_2 _ _ _ _ _ _ _ _) ?_
                              refine x_aload C dL_build_1286 14 rfl ?_
                              refine x_iload C dL_build_1288 3 rfl ?_
                              refine x_iconst C (4 : Int32) (by decide) dL_build_1290 ?_
                              refine x_iadd C dL_build_1291 ?_
                              refine x_v (y := nI ((6 * ne) + 4)) (nI_add (6 * ne) 4) ?_
                              refine x_iald C sh_92 (vp_in_nI (n := (6 * ne) + 4) (by omega) (by decide)) dL_build_1292 ?_
                              rw [show (nI ((6 * ne) + 4)).toNatClampNeg = (6 * ne) + 4 from nI_clamp (n := (6 * ne) + 4) (by omega)]
                              refine x_v (y := a4) (by rw [eu]; exact six_4 _ _ _ _ _ _ _ _) ?_
                              refine x_aload C dL_build_1293 14 rfl ?_
                              refine x_iload C dL_build_1295 3 rfl ?_
                              refine x_iconst C (5 : Int32) (by decide) dL_build_1297 ?_
                              refine x_iadd C dL_build_1298 ?_
                              refine x_v (y := nI ((6 * ne) + 5)) (nI_add (6 * ne) 5) ?_
                              refine x_iald C sh_92 (vp_in_nI (n := (6 * ne) + 5) (by omega) (by decide)) dL_build_1299 ?_
                              rw [show (nI ((6 * ne) + 5)).toNatClampNeg = (6 * ne) + 5 from nI_clamp (n := (6 * ne) + 5) (by omega)]
                              refine x_v (y := a5) (by rw [eu]; exact six_5 _ _ _ _ _ _ _ _) ?_
                              refine x_callV C sh_0 (by decide) rfl [.int ev, .int dv, .int a4, .int a5] (c_X8_addCall l V hV u1185 ev dv a4 a5 (kCall_0 z5 (by omega) vpe (hdv.2.2 (by omega)) (p4.imp id (fun ⟨j, j1, j2, _⟩ => by rw [j2]; exact vp_in_nI j1 (by omega))) (p5.imp id (fun ⟨j, j1, j2, _⟩ => by rw [j2]; exact vp_in_nI j1 (by omega))) h45 (p4.imp id (fun ⟨j, j1, j2, j3⟩ => by rw [j2, m51 j j1, j3, vev])) (p5.imp id (fun ⟨j, j1, j2, j3⟩ => by rw [j2, m51 j j1, j3, vev])))) (cwV 4 C.2.2.2.2.1 gL_build_X8_addCall rfl rfl rfl (by decide +kernel) ⟨Nat.le_of_ble_eq_true rfl, Nat.le_of_ble_eq_true rfl⟩) rfl rfl (Nat.le_of_ble_eq_true rfl) dL_build_1300 ⟨Nat.le_of_ble_eq_true rfl, Nat.le_of_ble_eq_true rfl⟩ (x_kI ?_)
                              exact hJ1303 _ _ (by have n_h1 : ¬ nt ≤ k := fun z => h1 ((nI_leI (a := nt) (b := k) (by omega) (by omega)).mpr z); have n_h7 : ¬ f = 0 := fun z => h7 ((nI_eq (a := f) (b := 0) (by omega) (by omega)).mpr z); have n_h8 : 3 ≤ f := (nI_leI (a := 3) (b := f) (by omega) (by omega)).mp h8; have n_h9 : ¬ f = 3 := fun z => h9 ((nI_eq (a := f) (b := 3) (by omega) (by omega)).mpr z); have n_h10 : ¬ f = 4 := fun z => h10 ((nI_eq (a := f) (b := 4) (by omega) (by omega)).mpr z); exact ⟨BI.e2 hB (by omega) hE eu (by rw [show f = 5 by omega]; rfl) vev (by rw [show f = 5 by omega]; exact (if_neg (by decide)).symm) (hov.1 (by omega)).symm rfl rfl, fun i => by rw [eSet_dif _ _ _ _ _ 87 (by decide), eApp_dif _ _ _ _ 87 (by decide), d1 87 (by decide)], z5⟩)
                            · have n_h1 : ¬ nt ≤ k := fun z => h1 ((nI_leI (a := nt) (b := k) (by omega) (by omega)).mpr z)
                              have n_h7 : ¬ f = 0 := fun z => h7 ((nI_eq (a := f) (b := 0) (by omega) (by omega)).mpr z)
                              have n_h8 : 3 ≤ f := (nI_leI (a := 3) (b := f) (by omega) (by omega)).mp h8
                              have n_h9 : ¬ f = 3 := fun z => h9 ((nI_eq (a := f) (b := 3) (by omega) (by omega)).mpr z)
                              have n_h10 : f = 4 := (nI_eq (a := f) (b := 4) (by omega) (by omega)).mp h10
                              have vev : vAt 50 (u1185 51) ev = mv := by obtain ⟨m, -, -, -, -, hj5⟩ := hmv; obtain ⟨j, hj, ej, e4⟩ := hj5 (by omega); rw [ej, m51 j hj]; exact e4
                              have vpe : vp_in ev ne := by obtain ⟨j, hj, ej⟩ := hfe (by omega); rw [ej]; exact vp_in_nI hj (by omega)
                              refine x_aload_n C dL_build_1260 rfl 6 rfl ?_
                              refine x_iload C dL_build_1261 1 rfl ?_
                              refine x_aload C dL_build_1263 14 rfl ?_
                              refine x_iload C dL_build_1265 3 rfl ?_
                              refine x_iconst C (2 : Int32) (by decide) dL_build_1267 ?_
                              refine x_iadd C dL_build_1268 ?_
                              refine x_v (y := nI ((6 * ne) + 2)) (nI_add (6 * ne) 2) ?_
                              refine x_iald C sh_92 (vp_in_nI (n := (6 * ne) + 2) (by omega) (by decide)) dL_build_1269 ?_
                              rw [show (nI ((6 * ne) + 2)).toNatClampNeg = (6 * ne) + 2 from nI_clamp (n := (6 * ne) + 2) (by omega)]
                              refine x_v (y := dv) (by rw [eu]; exact six_2 _ _ _ _ _ _ _ _) ?_
                              refine x_callV C sh_0 (by decide) rfl [.int ev, .int dv] (c_X8_addFieldOf l V hV u1185 ev dv (kFOf_0 z5 (by omega) vpe (hdv.2.2 (by omega)))) (cwV 2 C.2.2.2.2.1 gL_build_X8_addFieldOf rfl rfl rfl (by decide +kernel) ⟨Nat.le_of_ble_eq_true rfl, Nat.le_of_ble_eq_true rfl⟩) rfl rfl (Nat.le_of_ble_eq_true rfl) dL_build_1270 ⟨Nat.le_of_ble_eq_true rfl, Nat.le_of_ble_eq_true rfl⟩ (x_kI ?_)
                              refine x_goto C 1303 dL_build_1273 rfl ?_
                              exact hJ1303 _ _ (by have n_h1 : ¬ nt ≤ k := fun z => h1 ((nI_leI (a := nt) (b := k) (by omega) (by omega)).mpr z); have n_h7 : ¬ f = 0 := fun z => h7 ((nI_eq (a := f) (b := 0) (by omega) (by omega)).mpr z); have n_h8 : 3 ≤ f := (nI_leI (a := 3) (b := f) (by omega) (by omega)).mp h8; have n_h9 : ¬ f = 3 := fun z => h9 ((nI_eq (a := f) (b := 3) (by omega) (by omega)).mpr z); have n_h10 : f = 4 := (nI_eq (a := f) (b := 4) (by omega) (by omega)).mp h10; exact ⟨BI.e2 hB (by omega) hE eu (by rw [show f = 4 by omega]; rfl) vev (by rw [show f = 4 by omega]; exact (if_neg (by decide)).symm) (hov.1 (by omega)).symm (hn5 (by omega)).1.symm (hn5 (by omega)).2.symm, fun i => by rw [eSet_dif _ _ _ _ _ 87 (by decide), eApp_dif _ _ _ _ 87 (by decide), d1 87 (by decide)], z5⟩)
                          · have n_h1 : ¬ nt ≤ k := fun z => h1 ((nI_leI (a := nt) (b := k) (by omega) (by omega)).mpr z)
                            have n_h7 : ¬ f = 0 := fun z => h7 ((nI_eq (a := f) (b := 0) (by omega) (by omega)).mpr z)
                            have n_h8 : 3 ≤ f := (nI_leI (a := 3) (b := f) (by omega) (by omega)).mp h8
                            have n_h9 : f = 3 := (nI_eq (a := f) (b := 3) (by omega) (by omega)).mp h9
                            refine x_aload_n C dL_build_1238 rfl 6 rfl ?_
                            refine x_iload C dL_build_1239 4 rfl ?_
                            refine x_aload C dL_build_1241 14 rfl ?_
                            refine x_iload C dL_build_1243 3 rfl ?_
                            refine x_iconst C (2 : Int32) (by decide) dL_build_1245 ?_
                            refine x_iadd C dL_build_1246 ?_
                            refine x_v (y := nI ((6 * ne) + 2)) (nI_add (6 * ne) 2) ?_
                            refine x_iald C sh_92 (vp_in_nI (n := (6 * ne) + 2) (by omega) (by decide)) dL_build_1247 ?_
                            rw [show (nI ((6 * ne) + 2)).toNatClampNeg = (6 * ne) + 2 from nI_clamp (n := (6 * ne) + 2) (by omega)]
                            refine x_v (y := dv) (by rw [eu]; exact six_2 _ _ _ _ _ _ _ _) ?_
                            refine x_callV C sh_0 (by decide) rfl [.int (nI mt), .int dv] (c_X8_addArgument l V hV u1185 (nI mt) dv (kArg_0 hIM (par_1 hRM hB.2.2.2.1.2.1 hmt (by rw [d1 91 (by decide)]; rcases hdv.2.1 (by omega) with ⟨e1, e2⟩ | ⟨e1, e2⟩; exact Or.inl ⟨e1, hqa e2⟩; exact Or.inr ⟨e1, hqb e2⟩)) z5 (by omega))) (cwV 2 C.2.2.2.2.1 gL_build_X8_addArgument rfl rfl rfl (by decide +kernel) ⟨Nat.le_of_ble_eq_true rfl, Nat.le_of_ble_eq_true rfl⟩) rfl rfl (Nat.le_of_ble_eq_true rfl) dL_build_1248 ⟨Nat.le_of_ble_eq_true rfl, Nat.le_of_ble_eq_true rfl⟩ (x_kI ?_)
                            refine x_goto C 1303 dL_build_1251 rfl ?_
                            exact hJ1303 _ _ (by have n_h1 : ¬ nt ≤ k := fun z => h1 ((nI_leI (a := nt) (b := k) (by omega) (by omega)).mpr z); have n_h7 : ¬ f = 0 := fun z => h7 ((nI_eq (a := f) (b := 0) (by omega) (by omega)).mpr z); have n_h8 : 3 ≤ f := (nI_leI (a := 3) (b := f) (by omega) (by omega)).mp h8; have n_h9 : f = 3 := (nI_eq (a := f) (b := 3) (by omega) (by omega)).mp h9; exact ⟨BI.e1 hB (by omega) hE (hov.2 (by omega)) (hn5 (by omega)).1 (hn5 (by omega)).2 eu (by rw [show f = 3 by omega]; rfl) (by obtain ⟨m, -, e2, -, e4, -⟩ := hmv; rw [e2, e4 (by omega)]) (by rw [show f = 3 by omega]; exact (if_neg (by decide)).symm), fun i => by rw [eApp_dif _ _ _ _ 87 (by decide), d1 87 (by decide)], z5⟩)
                        · have n_h1 : ¬ nt ≤ k := fun z => h1 ((nI_leI (a := nt) (b := k) (by omega) (by omega)).mpr z)
                          have n_h7 : ¬ f = 0 := fun z => h7 ((nI_eq (a := f) (b := 0) (by omega) (by omega)).mpr z)
                          have n_h8 : ¬ 3 ≤ f := fun z => h8 ((nI_leI (a := 3) (b := f) (by omega) (by omega)).mpr z)
                          refine x_aload_n C dL_build_1212 rfl 6 rfl ?_
                          refine x_iload C dL_build_1213 4 rfl ?_
                          refine x_iload C dL_build_1215 2 rfl ?_
                          refine x_iconst C (2 : Int32) (by decide) dL_build_1217 ?_
                          refine x_icmp_ne C 1225 dL_build_1218 rfl (fun h11 => ?_) (fun h11 => ?_)
                          · refine x_iconst C (0 : Int32) (by decide) dL_build_1225 ?_
                            refine x_callV C sh_0 (by decide) rfl [.int (nI mt), .int (0 : Int32)] (c_X8_addPlain l V hV u1185 (nI mt) false (kPlain_0 hIM z5 (by omega))) (cwV 2 C.2.2.2.2.1 gL_build_X8_addPlain rfl rfl rfl (by decide +kernel) ⟨Nat.le_of_ble_eq_true rfl, Nat.le_of_ble_eq_true rfl⟩) rfl rfl (Nat.le_of_ble_eq_true rfl) dL_build_1226 ⟨Nat.le_of_ble_eq_true rfl, Nat.le_of_ble_eq_true rfl⟩ (x_kI ?_)
                            refine x_goto C 1303 dL_build_1229 rfl ?_
                            exact hJ1303 _ _ (by have n_h1 : ¬ nt ≤ k := fun z => h1 ((nI_leI (a := nt) (b := k) (by omega) (by omega)).mpr z); have n_h7 : ¬ f = 0 := fun z => h7 ((nI_eq (a := f) (b := 0) (by omega) (by omega)).mpr z); have n_h8 : ¬ 3 ≤ f := fun z => h8 ((nI_leI (a := 3) (b := f) (by omega) (by omega)).mpr z); have n_h11 : ¬ f = 2 := fun z => h11 ((nI_eq (a := f) (b := 2) (by omega) (by omega)).mpr z); exact ⟨BI.e1 hB (by omega) hE (hov.2 (by omega)) (hn5 (by omega)).1 (hn5 (by omega)).2 eu (by rw [show f = 1 by omega]; rfl) (by obtain ⟨m, -, e2, -, e4, -⟩ := hmv; rw [e2, e4 (by omega)]) (by rw [show f = 1 by omega]; exact (if_pos (by decide)).symm), fun i => by rw [eApp_dif _ _ _ _ 87 (by decide), d1 87 (by decide)], z5⟩)
                          · refine x_iconst C (1 : Int32) (by decide) dL_build_1221 ?_
                            refine x_goto C 1226 dL_build_1222 rfl ?_
                            refine x_callV C sh_0 (by decide) rfl [.int (nI mt), .int (1 : Int32)] (c_X8_addPlain l V hV u1185 (nI mt) true (kPlain_0 hIM z5 (by omega))) (cwV 2 C.2.2.2.2.1 gL_build_X8_addPlain rfl rfl rfl (by decide +kernel) ⟨Nat.le_of_ble_eq_true rfl, Nat.le_of_ble_eq_true rfl⟩) rfl rfl (Nat.le_of_ble_eq_true rfl) dL_build_1226 ⟨Nat.le_of_ble_eq_true rfl, Nat.le_of_ble_eq_true rfl⟩ (x_kI ?_)
                            refine x_goto C 1303 dL_build_1229 rfl ?_
                            exact hJ1303 _ _ (by have n_h1 : ¬ nt ≤ k := fun z => h1 ((nI_leI (a := nt) (b := k) (by omega) (by omega)).mpr z); have n_h7 : ¬ f = 0 := fun z => h7 ((nI_eq (a := f) (b := 0) (by omega) (by omega)).mpr z); have n_h8 : ¬ 3 ≤ f := fun z => h8 ((nI_leI (a := 3) (b := f) (by omega) (by omega)).mpr z); have n_h11 : f = 2 := (nI_eq (a := f) (b := 2) (by omega) (by omega)).mp h11; exact ⟨BI.e1 hB (by omega) hE (hov.2 (by omega)) (hn5 (by omega)).1 (hn5 (by omega)).2 eu (by rw [show f = 2 by omega]; rfl) (by obtain ⟨m, -, e2, -, e4, -⟩ := hmv; rw [e2, e4 (by omega)]) (by rw [show f = 2 by omega]; exact (if_pos (by decide)).symm), fun i => by rw [eApp_dif _ _ _ _ 87 (by decide), d1 87 (by decide)], z5⟩)
                      · have n_h1 : ¬ nt ≤ k := fun z => h1 ((nI_leI (a := nt) (b := k) (by omega) (by omega)).mpr z)
                        have n_h7 : f = 0 := (nI_eq (a := f) (b := 0) (by omega) (by omega)).mp h7
                        refine x_aload_n C dL_build_1190 rfl 6 rfl ?_
                        refine x_iload C dL_build_1191 4 rfl ?_
                        refine x_aload C dL_build_1193 14 rfl ?_
                        refine x_iload C dL_build_1195 3 rfl ?_
                        refine x_iconst C (2 : Int32) (by decide) dL_build_1197 ?_
                        refine x_iadd C dL_build_1198 ?_
                        refine x_v (y := nI ((6 * ne) + 2)) (nI_add (6 * ne) 2) ?_
                        refine x_iald C sh_92 (vp_in_nI (n := (6 * ne) + 2) (by omega) (by decide)) dL_build_1199 ?_
                        rw [show (nI ((6 * ne) + 2)).toNatClampNeg = (6 * ne) + 2 from nI_clamp (n := (6 * ne) + 2) (by omega)]
                        refine x_v (y := dv) (by rw [eu]; exact six_2 _ _ _ _ _ _ _ _) ?_
                        refine x_callV C sh_0 (by decide) rfl [.int (nI mt), .int dv] (c_X8_addNew l V hV u1185 (nI mt) dv (kNew_0 hIM z1 (by omega) (hdv.1 (by omega)) z5 (by omega))) (cwV 2 C.2.2.2.2.1 gL_build_X8_addNew rfl rfl rfl (by decide +kernel) ⟨Nat.le_of_ble_eq_true rfl, Nat.le_of_ble_eq_true rfl⟩) rfl rfl (Nat.le_of_ble_eq_true rfl) dL_build_1200 ⟨Nat.le_of_ble_eq_true rfl, Nat.le_of_ble_eq_true rfl⟩ (x_kI ?_)
                        refine x_goto C 1303 dL_build_1203 rfl ?_
                        exact hJ1303 _ _ (by have n_h1 : ¬ nt ≤ k := fun z => h1 ((nI_leI (a := nt) (b := k) (by omega) (by omega)).mpr z); have n_h7 : f = 0 := (nI_eq (a := f) (b := 0) (by omega) (by omega)).mp h7; exact ⟨BI.e1 hB (by omega) hE (hov.2 (by omega)) (hn5 (by omega)).1 (hn5 (by omega)).2 eu (by rw [show f = 0 by omega]; rfl) (by obtain ⟨m, -, e2, -, e4, -⟩ := hmv; rw [e2, e4 (by omega)]) (by rw [show f = 0 by omega]; exact (if_neg (by decide)).symm), fun i => by rw [eApp_dif _ _ _ _ 87 (by decide), d1 87 (by decide)], z5⟩)
                  · refine x_iload C dL_build_1102 3 rfl ?_
                    refine x_iconst C (5 : Int32) (by decide) dL_build_1104 ?_
                    refine x_icmp_ne C 1185 dL_build_1105 rfl (fun h12 => ?_) (fun h12 => ?_)
                    · refine x_lv [1, 2, 3, 4, 5, 6, 7, 8, 9, 10, 11, 12, 13, 14, 15, 16, 17, 18] [(17, .int (nI q)), (16, .int ev), (15, .int (nI f)), (14, .int (nI (6 * ne))), (13, .int (nI mt)), (12, .int x), (0, ra V 0), (1, .ref b), (2, .int (0 : Int32)), (3, ra V 87), (4, ra V 88), (5, ra V 89), (6, ra V 90), (7, ra V 91), (8, ra V 92), (9, ra V 93), (10, .int (nI nt)), (11, .int (nI k))] rfl ?_
                      exact hJ1185 _ (0 : Int32) (⟨-1, -1, rfl, Or.inl rfl, Or.inl rfl, fun _ => rfl, fun _ => ⟨rfl, rfl⟩⟩)
                    · refine x_iload C dL_build_1108 0 rfl ?_
                      refine x_bipush C (6 : Int32) (by decide) dL_build_1110 ?_
                      refine x_icmp_ge C 1185 dL_build_1112 rfl (fun h13 => absurd h13 (by decide)) (fun h13 => ?_)
                      have n_h1 : ¬ nt ≤ k := fun z => h1 ((nI_leI (a := nt) (b := k) (by omega) (by omega)).mpr z)
                      have n_h12 : f = 5 := (nI_eq (a := f) (b := 5) (by omega) (by omega)).mp h12
                      have hne0 : 0 < ne := by obtain ⟨j, hj, -⟩ := hfe (by omega); omega
                      have hnz_n5 : ¬ nI ne = 0 := fun z => absurd ((nI_eq (a := ne) (b := 0) (by omega) (by decide)).mp z) (by omega)
                      refine x_iload C dL_build_1115 6 rfl ?_
                      refine x_bipush C (7 : Int32) (by decide) dL_build_1117 ?_
                      refine x_iload C dL_build_1119 0 rfl ?_
                      refine x_iadd C dL_build_1121 ?_
                      refine x_v (y := (11 : Int32)) (by decide) ?_
                      refine x_ishr C dL_build_1122 ?_
                      refine x_aload_n C dL_build_1123 rfl 10 rfl ?_
                      refine x_iconst C (4 : Int32) (by decide) dL_build_1124 ?_
                      refine x_iald C sh_87 (vp_in_nI (n := 4) (by omega) (by decide)) dL_build_1125 ?_
                      rw [show (4 : Int32).toNatClampNeg = 4 from nI_clamp (n := 4) (by omega)]
                      refine x_v (y := nI ne) (by rw [xw_ne (r := 92) (a := 87) _ _ _ (by decide), xw_ne (r := 92) (a := 87) _ _ _ (by decide), xw_ne (r := 92) (a := 87) _ _ _ (by decide), xw_ne (r := 92) (a := 87) _ _ _ (by decide), xw_ne (r := 92) (a := 87) _ _ _ (by decide), xw_ne (r := 92) (a := 87) _ _ _ (by decide)]; exact hc795_7) ?_
                      refine x_callS C [.int (x >>> ((11 : Int32) &&& 31)), .int (nI ne)] (c_L_below l V hV (xw (xw (xw (xw (xw (xw τ 92 (6 * ne) (nI f)) 92 ((6 * ne) + 1) mv) 92 ((6 * ne) + 2) dv) 92 ((6 * ne) + 3) ov) 92 ((6 * ne) + 4) (-1 : Int32)) 92 ((6 * ne) + 5) (-1 : Int32)) (x >>> ((11 : Int32) &&& 31)) (nI ne) hnz_n5) (va_cwS 2 C.2.2.2.2.1 gL_build_L_below rfl rfl rfl (by decide +kernel) ⟨Nat.le_of_ble_eq_true rfl, Nat.le_of_ble_eq_true rfl⟩) rfl rfl (Nat.le_of_ble_eq_true rfl) dL_build_1126 ⟨Nat.le_of_ble_eq_true rfl, Nat.le_of_ble_eq_true rfl⟩ (x_kI ?_)
                      obtain ⟨o4, ho4, eo4⟩ := below_at (x >>> ((11 : Int32) &&& 31)) (n := ne) hne0 (by omega)
                      refine x_v (y := nI o4) eo4 ?_
                      refine x_istore C [(19, .int (nI o4)), (18, .int (4 : Int32)), (17, .int (nI q)), (16, .int ev), (15, .int (nI f)), (14, .int (nI (6 * ne))), (13, .int (nI mt)), (12, .int x), (0, ra V 0), (1, .ref b), (2, .int (0 : Int32)), (3, ra V 87), (4, ra V 88), (5, ra V 89), (6, ra V 90), (7, ra V 91), (8, ra V 92), (9, ra V 93), (10, .int (nI nt)), (11, .int (nI k))] dL_build_1129 (by decide) rfl ?_
                      refine x_aload C dL_build_1131 16 rfl ?_
                      refine x_bipush C (6 : Int32) (by decide) dL_build_1133 ?_
                      refine x_iload C dL_build_1135 0 rfl ?_
                      refine x_imul C dL_build_1137 ?_
                      refine x_v (y := nI (6 * o4)) (pk_mul 6 o4) ?_
                      refine x_iconst C (1 : Int32) (by decide) dL_build_1138 ?_
                      refine x_iadd C dL_build_1139 ?_
                      refine x_v (y := nI ((6 * o4) + 1)) (nI_add (6 * o4) 1) ?_
                      refine x_iald C sh_92 (vp_in_nI (n := (6 * o4) + 1) (by omega) (by decide)) dL_build_1140 ?_
                      rw [show (nI ((6 * o4) + 1)).toNatClampNeg = (6 * o4) + 1 from nI_clamp (n := (6 * o4) + 1) (by omega)]
                      refine x_v (y := τ 92 ((6 * o4) + 1)) (by rw [xw_other (by omega), xw_other (by omega), xw_other (by omega), xw_other (by omega), xw_other (by omega), xw_other (by omega)]) ?_
                      refine x_aload C dL_build_1141 16 rfl ?_
                      refine x_iload C dL_build_1143 5 rfl ?_
                      refine x_iconst C (1 : Int32) (by decide) dL_build_1145 ?_
                      refine x_iadd C dL_build_1146 ?_
                      refine x_v (y := nI ((6 * ne) + 1)) (nI_add (6 * ne) 1) ?_
                      refine x_iald C sh_92 (vp_in_nI (n := (6 * ne) + 1) (by omega) (by decide)) dL_build_1147 ?_
                      rw [show (nI ((6 * ne) + 1)).toNatClampNeg = (6 * ne) + 1 from nI_clamp (n := (6 * ne) + 1) (by omega)]
                      refine x_v (y := mv) (by rw [xw_other (by omega), xw_other (by omega), xw_other (by omega), xw_other (by omega), xw_at]) ?_
                      refine x_icmp_ne C 1185 dL_build_1148 rfl (fun h14 => ?_) (fun h14 => ?_)
                      · refine x_lv [2, 3, 4, 5, 6, 7, 8, 9, 10, 11, 12, 13, 14, 15, 16, 17, 18, 19] [(17, .int (nI q)), (16, .int ev), (15, .int (nI f)), (14, .int (nI (6 * ne))), (13, .int (nI mt)), (12, .int x), (0, ra V 0), (1, .ref b), (2, .int (0 : Int32)), (3, ra V 87), (4, ra V 88), (5, ra V 89), (6, ra V 90), (7, ra V 91), (8, ra V 92), (9, ra V 93), (10, .int (nI nt)), (11, .int (nI k))] rfl ?_
                        exact hJ1185 _ (0 : Int32) (⟨-1, -1, rfl, Or.inl rfl, Or.inl rfl, fun _ => rfl, fun _ => ⟨rfl, rfl⟩⟩)
                      · refine x_iload C dL_build_1151 7 rfl ?_
                        refine x_bipush C (15 : Int32) (by decide) dL_build_1153 ?_
                        refine x_iload C dL_build_1155 1 rfl ?_
                        refine x_iadd C dL_build_1157 ?_
                        refine x_v (y := (19 : Int32)) (by decide) ?_
                        refine x_ishr C dL_build_1158 ?_
                        refine x_iconst C (3 : Int32) (by decide) dL_build_1159 ?_
                        refine x_callS C [.int (x >>> ((19 : Int32) &&& 31)), .int (3 : Int32)] (c_L_below l V hV (xw (xw (xw (xw (xw (xw τ 92 (6 * ne) (nI f)) 92 ((6 * ne) + 1) mv) 92 ((6 * ne) + 2) dv) 92 ((6 * ne) + 3) ov) 92 ((6 * ne) + 4) (-1 : Int32)) 92 ((6 * ne) + 5) (-1 : Int32)) (x >>> ((19 : Int32) &&& 31)) (3 : Int32) (by decide)) (va_cwS 2 C.2.2.2.2.1 gL_build_L_below rfl rfl rfl (by decide +kernel) ⟨Nat.le_of_ble_eq_true rfl, Nat.le_of_ble_eq_true rfl⟩) rfl rfl (Nat.le_of_ble_eq_true rfl) dL_build_1160 ⟨Nat.le_of_ble_eq_true rfl, Nat.le_of_ble_eq_true rfl⟩ (x_kI ?_)
                        refine x_if_ne C 1169 dL_build_1163 rfl (fun h15 => ?_) (fun h15 => ?_)
                        · refine x_aload C dL_build_1169 16 rfl ?_
                          refine x_iload C dL_build_1171 5 rfl ?_
                          refine x_iload C dL_build_1173 1 rfl ?_
                          refine x_iadd C dL_build_1175 ?_
                          refine x_v (y := nI ((6 * ne) + 4)) (nI_add (6 * ne) 4) ?_
                          refine x_iload C dL_build_1176 0 rfl ?_
                          refine x_iast C sh_92 (vp_in_nI (n := (6 * ne) + 4) (by omega) (by decide)) dL_build_1178 ?_
                          rw [show (nI ((6 * ne) + 4)).toNatClampNeg = (6 * ne) + 4 from nI_clamp (n := (6 * ne) + 4) (by omega)]
                          refine x_iinc C (q := 1) (5 : Int32) [(18, .int (5 : Int32)), (19, .int (nI o4)), (17, .int (nI q)), (16, .int ev), (15, .int (nI f)), (14, .int (nI (6 * ne))), (13, .int (nI mt)), (12, .int x), (0, ra V 0), (1, .ref b), (2, .int (0 : Int32)), (3, ra V 87), (4, ra V 88), (5, ra V 89), (6, ra V 90), (7, ra V 91), (8, ra V 92), (9, ra V 93), (10, .int (nI nt)), (11, .int (nI k))] dL_build_1179 rfl (by decide) (by decide) rfl ?_
                          refine x_goto C 1102 dL_build_1182 rfl ?_
                          refine x_iload C dL_build_1102 4 rfl ?_
                          refine x_iconst C (5 : Int32) (by decide) dL_build_1104 ?_
                          refine x_icmp_ne C 1185 dL_build_1105 rfl (fun h16 => absurd h16 (fun q => q h12)) (fun h16 => ?_)
                          refine x_iload C dL_build_1108 0 rfl ?_
                          refine x_bipush C (6 : Int32) (by decide) dL_build_1110 ?_
                          refine x_icmp_ge C 1185 dL_build_1112 rfl (fun h17 => absurd h17 (by decide)) (fun h17 => ?_)
                          have n_h1 : ¬ nt ≤ k := fun z => h1 ((nI_leI (a := nt) (b := k) (by omega) (by omega)).mpr z)
                          have n_h12 : f = 5 := (nI_eq (a := f) (b := 5) (by omega) (by omega)).mp h12
                          have hne0 : 0 < ne := by obtain ⟨j, hj, -⟩ := hfe (by omega); omega
                          have hnz_n5 : ¬ nI ne = 0 := fun z => absurd ((nI_eq (a := ne) (b := 0) (by omega) (by decide)).mp z) (by omega)
                          refine x_iload C dL_build_1115 7 rfl ?_
                          refine x_bipush C (7 : Int32) (by decide) dL_build_1117 ?_
                          refine x_iload C dL_build_1119 0 rfl ?_
                          refine x_iadd C dL_build_1121 ?_
                          refine x_v (y := (12 : Int32)) (by decide) ?_
                          refine x_ishr C dL_build_1122 ?_
                          refine x_aload_n C dL_build_1123 rfl 11 rfl ?_
                          refine x_iconst C (4 : Int32) (by decide) dL_build_1124 ?_
                          refine x_iald C sh_87 (vp_in_nI (n := 4) (by omega) (by decide)) dL_build_1125 ?_
                          rw [show (4 : Int32).toNatClampNeg = 4 from nI_clamp (n := 4) (by omega)]
                          refine x_v (y := nI ne) (by rw [xw_ne (r := 92) (a := 87) _ _ _ (by decide), xw_ne (r := 92) (a := 87) _ _ _ (by decide), xw_ne (r := 92) (a := 87) _ _ _ (by decide), xw_ne (r := 92) (a := 87) _ _ _ (by decide), xw_ne (r := 92) (a := 87) _ _ _ (by decide), xw_ne (r := 92) (a := 87) _ _ _ (by decide), xw_ne (r := 92) (a := 87) _ _ _ (by decide)]; exact hc795_7) ?_
                          refine x_callS C [.int (x >>> ((12 : Int32) &&& 31)), .int (nI ne)] (c_L_below l V hV (xw (xw (xw (xw (xw (xw (xw τ 92 (6 * ne) (nI f)) 92 ((6 * ne) + 1) mv) 92 ((6 * ne) + 2) dv) 92 ((6 * ne) + 3) ov) 92 ((6 * ne) + 4) (-1 : Int32)) 92 ((6 * ne) + 5) (-1 : Int32)) 92 ((6 * ne) + 4) (nI o4)) (x >>> ((12 : Int32) &&& 31)) (nI ne) hnz_n5) (va_cwS 2 C.2.2.2.2.1 gL_build_L_below rfl rfl rfl (by decide +kernel) ⟨Nat.le_of_ble_eq_true rfl, Nat.le_of_ble_eq_true rfl⟩) rfl rfl (Nat.le_of_ble_eq_true rfl) dL_build_1126 ⟨Nat.le_of_ble_eq_true rfl, Nat.le_of_ble_eq_true rfl⟩ (x_kI ?_)
                          obtain ⟨o5, ho5, eo5⟩ := below_at (x >>> ((12 : Int32) &&& 31)) (n := ne) hne0 (by omega)
                          refine x_v (y := nI o5) eo5 ?_
                          refine x_istore C [(19, .int (nI o5)), (18, .int (5 : Int32)), (17, .int (nI q)), (16, .int ev), (15, .int (nI f)), (14, .int (nI (6 * ne))), (13, .int (nI mt)), (12, .int x), (0, ra V 0), (1, .ref b), (2, .int (0 : Int32)), (3, ra V 87), (4, ra V 88), (5, ra V 89), (6, ra V 90), (7, ra V 91), (8, ra V 92), (9, ra V 93), (10, .int (nI nt)), (11, .int (nI k))] dL_build_1129 (by decide) rfl ?_
                          refine x_aload C dL_build_1131 16 rfl ?_
                          refine x_bipush C (6 : Int32) (by decide) dL_build_1133 ?_
                          refine x_iload C dL_build_1135 0 rfl ?_
                          refine x_imul C dL_build_1137 ?_
                          refine x_v (y := nI (6 * o5)) (pk_mul 6 o5) ?_
                          refine x_iconst C (1 : Int32) (by decide) dL_build_1138 ?_
                          refine x_iadd C dL_build_1139 ?_
                          refine x_v (y := nI ((6 * o5) + 1)) (nI_add (6 * o5) 1) ?_
                          refine x_iald C sh_92 (vp_in_nI (n := (6 * o5) + 1) (by omega) (by decide)) dL_build_1140 ?_
                          rw [show (nI ((6 * o5) + 1)).toNatClampNeg = (6 * o5) + 1 from nI_clamp (n := (6 * o5) + 1) (by omega)]
                          refine x_v (y := τ 92 ((6 * o5) + 1)) (by rw [xw_other (by omega), xw_other (by omega), xw_other (by omega), xw_other (by omega), xw_other (by omega), xw_other (by omega), xw_other (by omega)]) ?_
                          refine x_aload C dL_build_1141 16 rfl ?_
                          refine x_iload C dL_build_1143 5 rfl ?_
                          refine x_iconst C (1 : Int32) (by decide) dL_build_1145 ?_
                          refine x_iadd C dL_build_1146 ?_
                          refine x_v (y := nI ((6 * ne) + 1)) (nI_add (6 * ne) 1) ?_
                          refine x_iald C sh_92 (vp_in_nI (n := (6 * ne) + 1) (by omega) (by decide)) dL_build_1147 ?_
                          rw [show (nI ((6 * ne) + 1)).toNatClampNeg = (6 * ne) + 1 from nI_clamp (n := (6 * ne) + 1) (by omega)]
                          refine x_v (y := mv) (by rw [xw_other (by omega), xw_other (by omega), xw_other (by omega), xw_other (by omega), xw_other (by omega), xw_at]) ?_
                          refine x_icmp_ne C 1185 dL_build_1148 rfl (fun h18 => ?_) (fun h18 => ?_)
                          · refine x_lv [2, 3, 4, 5, 6, 7, 8, 9, 10, 11, 12, 13, 14, 15, 16, 17, 18, 19] [(17, .int (nI q)), (16, .int ev), (15, .int (nI f)), (14, .int (nI (6 * ne))), (13, .int (nI mt)), (12, .int x), (0, ra V 0), (1, .ref b), (2, .int (0 : Int32)), (3, ra V 87), (4, ra V 88), (5, ra V 89), (6, ra V 90), (7, ra V 91), (8, ra V 92), (9, ra V 93), (10, .int (nI nt)), (11, .int (nI k))] rfl ?_
                            exact hJ1185 _ (0 : Int32) (by have n_h1 : ¬ nt ≤ k := fun z => h1 ((nI_leI (a := nt) (b := k) (by omega) (by omega)).mpr z); have n_h12 : f = 5 := (nI_eq (a := f) (b := 5) (by omega) (by omega)).mp h12; exact ⟨nI o4, -1, xw_45 _ _ _ _ _ _ _ (by omega), Or.inr ⟨o4, ho4, rfl, h14⟩, Or.inl rfl, fun _ => rfl, fun z => absurd z (by omega)⟩)
                          · refine x_iload C dL_build_1151 7 rfl ?_
                            refine x_bipush C (15 : Int32) (by decide) dL_build_1153 ?_
                            refine x_iload C dL_build_1155 1 rfl ?_
                            refine x_iadd C dL_build_1157 ?_
                            refine x_v (y := (20 : Int32)) (by decide) ?_
                            refine x_ishr C dL_build_1158 ?_
                            refine x_iconst C (3 : Int32) (by decide) dL_build_1159 ?_
                            refine x_callS C [.int (x >>> ((20 : Int32) &&& 31)), .int (3 : Int32)] (c_L_below l V hV (xw (xw (xw (xw (xw (xw (xw τ 92 (6 * ne) (nI f)) 92 ((6 * ne) + 1) mv) 92 ((6 * ne) + 2) dv) 92 ((6 * ne) + 3) ov) 92 ((6 * ne) + 4) (-1 : Int32)) 92 ((6 * ne) + 5) (-1 : Int32)) 92 ((6 * ne) + 4) (nI o4)) (x >>> ((20 : Int32) &&& 31)) (3 : Int32) (by decide)) (va_cwS 2 C.2.2.2.2.1 gL_build_L_below rfl rfl rfl (by decide +kernel) ⟨Nat.le_of_ble_eq_true rfl, Nat.le_of_ble_eq_true rfl⟩) rfl rfl (Nat.le_of_ble_eq_true rfl) dL_build_1160 ⟨Nat.le_of_ble_eq_true rfl, Nat.le_of_ble_eq_true rfl⟩ (x_kI ?_)
                            refine x_if_ne C 1169 dL_build_1163 rfl (fun h19 => ?_) (fun h19 => ?_)
                            · refine x_aload C dL_build_1169 16 rfl ?_
                              refine x_iload C dL_build_1171 5 rfl ?_
                              refine x_iload C dL_build_1173 1 rfl ?_
                              refine x_iadd C dL_build_1175 ?_
                              refine x_v (y := nI ((6 * ne) + 5)) (nI_add (6 * ne) 5) ?_
                              refine x_iload C dL_build_1176 0 rfl ?_
                              refine x_iast C sh_92 (vp_in_nI (n := (6 * ne) + 5) (by omega) (by decide)) dL_build_1178 ?_
                              rw [show (nI ((6 * ne) + 5)).toNatClampNeg = (6 * ne) + 5 from nI_clamp (n := (6 * ne) + 5) (by omega)]
                              refine x_iinc C (q := 1) (6 : Int32) [(18, .int (6 : Int32)), (19, .int (nI o5)), (17, .int (nI q)), (16, .int ev), (15, .int (nI f)), (14, .int (nI (6 * ne))), (13, .int (nI mt)), (12, .int x), (0, ra V 0), (1, .ref b), (2, .int (0 : Int32)), (3, ra V 87), (4, ra V 88), (5, ra V 89), (6, ra V 90), (7, ra V 91), (8, ra V 92), (9, ra V 93), (10, .int (nI nt)), (11, .int (nI k))] dL_build_1179 rfl (by decide) (by decide) rfl ?_
                              refine x_goto C 1102 dL_build_1182 rfl ?_
                              refine x_iload C dL_build_1102 4 rfl ?_
                              refine x_iconst C (5 : Int32) (by decide) dL_build_1104 ?_
                              refine x_icmp_ne C 1185 dL_build_1105 rfl (fun h20 => absurd h20 (fun q => q h12)) (fun h20 => ?_)
                              refine x_iload C dL_build_1108 0 rfl ?_
                              refine x_bipush C (6 : Int32) (by decide) dL_build_1110 ?_
                              refine x_icmp_ge C 1185 dL_build_1112 rfl (fun h21 => ?_) (fun h21 => absurd h21 (by decide))
                              refine x_lv [2, 3, 4, 5, 6, 7, 8, 9, 10, 11, 12, 13, 14, 15, 16, 17, 18, 19] [(17, .int (nI q)), (16, .int ev), (15, .int (nI f)), (14, .int (nI (6 * ne))), (13, .int (nI mt)), (12, .int x), (0, ra V 0), (1, .ref b), (2, .int (0 : Int32)), (3, ra V 87), (4, ra V 88), (5, ra V 89), (6, ra V 90), (7, ra V 91), (8, ra V 92), (9, ra V 93), (10, .int (nI nt)), (11, .int (nI k))] rfl ?_
                              exact hJ1185 _ (0 : Int32) (by have n_h1 : ¬ nt ≤ k := fun z => h1 ((nI_leI (a := nt) (b := k) (by omega) (by omega)).mpr z); have n_h12 : f = 5 := (nI_eq (a := f) (b := 5) (by omega) (by omega)).mp h12; exact ⟨nI o4, nI o5, (congrArg (fun z => xw z 92 (6 * ne + 5) (nI o5)) (xw_45 _ _ _ _ _ _ _ (by omega))).trans (xw_tw _ _ _ _ _), Or.inr ⟨o4, ho4, rfl, h14⟩, Or.inr ⟨o5, ho5, rfl, h18⟩, fun z => absurd z (nI_neg1 (by omega)), fun z => absurd z (by omega)⟩)
                            · refine x_goto C 1185 dL_build_1166 rfl ?_
                              refine x_lv [2, 3, 4, 5, 6, 7, 8, 9, 10, 11, 12, 13, 14, 15, 16, 17, 18, 19] [(17, .int (nI q)), (16, .int ev), (15, .int (nI f)), (14, .int (nI (6 * ne))), (13, .int (nI mt)), (12, .int x), (0, ra V 0), (1, .ref b), (2, .int (0 : Int32)), (3, ra V 87), (4, ra V 88), (5, ra V 89), (6, ra V 90), (7, ra V 91), (8, ra V 92), (9, ra V 93), (10, .int (nI nt)), (11, .int (nI k))] rfl ?_
                              exact hJ1185 _ (0 : Int32) (by have n_h1 : ¬ nt ≤ k := fun z => h1 ((nI_leI (a := nt) (b := k) (by omega) (by omega)).mpr z); have n_h12 : f = 5 := (nI_eq (a := f) (b := 5) (by omega) (by omega)).mp h12; exact ⟨nI o4, -1, xw_45 _ _ _ _ _ _ _ (by omega), Or.inr ⟨o4, ho4, rfl, h14⟩, Or.inl rfl, fun _ => rfl, fun z => absurd z (by omega)⟩)
                        · refine x_goto C 1185 dL_build_1166 rfl ?_
                          refine x_lv [2, 3, 4, 5, 6, 7, 8, 9, 10, 11, 12, 13, 14, 15, 16, 17, 18, 19] [(17, .int (nI q)), (16, .int ev), (15, .int (nI f)), (14, .int (nI (6 * ne))), (13, .int (nI mt)), (12, .int x), (0, ra V 0), (1, .ref b), (2, .int (0 : Int32)), (3, ra V 87), (4, ra V 88), (5, ra V 89), (6, ra V 90), (7, ra V 91), (8, ra V 92), (9, ra V 93), (10, .int (nI nt)), (11, .int (nI k))] rfl ?_
                          exact hJ1185 _ (0 : Int32) (⟨-1, -1, rfl, Or.inl rfl, Or.inl rfl, fun _ => rfl, fun _ => ⟨rfl, rfl⟩⟩)
                · refine x_icmp_le C 1081 dL_build_1073 rfl (fun h22 => ?_) (fun h22 => ?_)
                  · refine x_iconst C (-1 : Int32) (by decide) dL_build_1081 ?_
                    exact hJ1082 _ (by have n_h1 : ¬ nt ≤ k := fun z => h1 ((nI_leI (a := nt) (b := k) (by omega) (by omega)).mpr z); have n_h22 : f ≤ 3 := (nI_leI (a := f) (b := 3) (by omega) (by omega)).mp h22; exact ⟨fun z => absurd z (by omega), fun _ => rfl⟩)
                  · refine x_iload C dL_build_1076 1 rfl ?_
                    refine x_goto C 1082 dL_build_1078 rfl ?_
                    exact hJ1082 _ (by have n_h1 : ¬ nt ≤ k := fun z => h1 ((nI_leI (a := nt) (b := k) (by omega) (by omega)).mpr z); have n_h22 : ¬ f ≤ 3 := fun z => h22 ((nI_leI (a := f) (b := 3) (by omega) (by omega)).mpr z); exact ⟨fun _ => rfl, fun z => absurd z (by omega)⟩)
              · refine x_if_ne C 1025 dL_build_1008 rfl (fun h23 => ?_) (fun h23 => ?_)
                · refine x_iload C dL_build_1025 2 rfl ?_
                  refine x_iconst C (3 : Int32) (by decide) dL_build_1027 ?_
                  refine x_icmp_ne C 1044 dL_build_1028 rfl (fun h24 => ?_) (fun h24 => ?_)
                  · refine x_iload C dL_build_1044 2 rfl ?_
                    refine x_iconst C (3 : Int32) (by decide) dL_build_1046 ?_
                    refine x_icmp_le C 1062 dL_build_1047 rfl (fun h25 => ?_) (fun h25 => ?_)
                    · refine x_iconst C (0 : Int32) (by decide) dL_build_1062 ?_
                      exact hJ1063 _ (by have n_h1 : ¬ nt ≤ k := fun z => h1 ((nI_leI (a := nt) (b := k) (by omega) (by omega)).mpr z); have n_h23 : ¬ f = 0 := fun z => h23 ((nI_eq (a := f) (b := 0) (by omega) (by omega)).mpr z); have n_h24 : ¬ f = 3 := fun z => h24 ((nI_eq (a := f) (b := 3) (by omega) (by omega)).mpr z); have n_h25 : f ≤ 3 := (nI_leI (a := f) (b := 3) (by omega) (by omega)).mp h25; exact ⟨fun z => absurd z (by omega), fun z => absurd z (by omega), fun z => absurd z (by omega)⟩)
                    · refine x_iload C dL_build_1050 5 rfl ?_
                      refine x_bipush C (9 : Int32) (by decide) dL_build_1052 ?_
                      refine x_ishr C dL_build_1054 ?_
                      refine x_iconst C (2 : Int32) (by decide) dL_build_1055 ?_
                      refine x_callS C [.int (x >>> ((9 : Int32) &&& 31)), .int (2 : Int32)] (c_L_below l V hV (xw (xw τ 92 (6 * ne) (nI f)) 92 ((6 * ne) + 1) mv) (x >>> ((9 : Int32) &&& 31)) (2 : Int32) (by decide)) (va_cwS 2 C.2.2.2.2.1 gL_build_L_below rfl rfl rfl (by decide +kernel) ⟨Nat.le_of_ble_eq_true rfl, Nat.le_of_ble_eq_true rfl⟩) rfl rfl (Nat.le_of_ble_eq_true rfl) dL_build_1056 ⟨Nat.le_of_ble_eq_true rfl, Nat.le_of_ble_eq_true rfl⟩ (x_kI ?_)
                      refine x_goto C 1063 dL_build_1059 rfl ?_
                      exact hJ1063 _ (by have n_h1 : ¬ nt ≤ k := fun z => h1 ((nI_leI (a := nt) (b := k) (by omega) (by omega)).mpr z); have n_h23 : ¬ f = 0 := fun z => h23 ((nI_eq (a := f) (b := 0) (by omega) (by omega)).mpr z); have n_h24 : ¬ f = 3 := fun z => h24 ((nI_eq (a := f) (b := 3) (by omega) (by omega)).mpr z); have n_h25 : ¬ f ≤ 3 := fun z => h25 ((nI_leI (a := f) (b := 3) (by omega) (by omega)).mpr z); exact ⟨fun z => absurd z (by omega), fun z => absurd z (by omega), fun _ => vp_le (below_vp (x >>> ((9 : Int32) &&& 31)) (n := 2) (by decide) (by decide)) (by decide)⟩)
                  · have n_h1 : ¬ nt ≤ k := fun z => h1 ((nI_leI (a := nt) (b := k) (by omega) (by omega)).mpr z)
                    have n_h23 : ¬ f = 0 := fun z => h23 ((nI_eq (a := f) (b := 0) (by omega) (by omega)).mpr z)
                    have n_h24 : f = 3 := (nI_eq (a := f) (b := 3) (by omega) (by omega)).mp h24
                    have hq0 : 0 < q := hf3 (by omega)
                    have hnz_q : ¬ nI q = 0 := fun z => absurd ((nI_eq (a := q) (b := 0) (by omega) (by decide)).mp z) (by omega)
                    refine x_iload C dL_build_1031 5 rfl ?_
                    refine x_bipush C (9 : Int32) (by decide) dL_build_1033 ?_
                    refine x_ishr C dL_build_1035 ?_
                    refine x_iload C dL_build_1036 0 rfl ?_
                    refine x_callS C [.int (x >>> ((9 : Int32) &&& 31)), .int (nI q)] (c_L_below l V hV (xw (xw τ 92 (6 * ne) (nI f)) 92 ((6 * ne) + 1) mv) (x >>> ((9 : Int32) &&& 31)) (nI q) hnz_q) (va_cwS 2 C.2.2.2.2.1 gL_build_L_below rfl rfl rfl (by decide +kernel) ⟨Nat.le_of_ble_eq_true rfl, Nat.le_of_ble_eq_true rfl⟩) rfl rfl (Nat.le_of_ble_eq_true rfl) dL_build_1038 ⟨Nat.le_of_ble_eq_true rfl, Nat.le_of_ble_eq_true rfl⟩ (x_kI ?_)
                    obtain ⟨d, hd, ed⟩ := below_at (x >>> ((9 : Int32) &&& 31)) (n := q) (by omega) (by omega)
                    refine x_v (y := nI d) ed ?_
                    refine x_goto C 1063 dL_build_1041 rfl ?_
                    exact hJ1063 _ (by have n_h1 : ¬ nt ≤ k := fun z => h1 ((nI_leI (a := nt) (b := k) (by omega) (by omega)).mpr z); have n_h23 : ¬ f = 0 := fun z => h23 ((nI_eq (a := f) (b := 0) (by omega) (by omega)).mpr z); have n_h24 : f = 3 := (nI_eq (a := f) (b := 3) (by omega) (by omega)).mp h24; exact ⟨fun z => absurd z (by omega), fun _ => (by rcases (show d = 0 ∨ d = 1 by omega) with e | e; exact Or.inl ⟨by rw [e]; rfl, by omega⟩; exact Or.inr ⟨by rw [e]; rfl, by omega⟩), fun z => absurd z (by omega)⟩)
                · refine x_iload C dL_build_1011 5 rfl ?_
                  refine x_bipush C (9 : Int32) (by decide) dL_build_1013 ?_
                  refine x_ishr C dL_build_1015 ?_
                  refine x_aload_n C dL_build_1016 rfl 9 rfl ?_
                  refine x_iconst C (1 : Int32) (by decide) dL_build_1017 ?_
                  refine x_iald C sh_87 (vp_in_nI (n := 1) (by omega) (by decide)) dL_build_1018 ?_
                  rw [show (1 : Int32).toNatClampNeg = 1 from nI_clamp (n := 1) (by omega)]
                  refine x_v (y := nI nc) (by rw [xw_ne (r := 92) (a := 87) _ _ _ (by decide), xw_ne (r := 92) (a := 87) _ _ _ (by decide)]; exact hc795_4) ?_
                  refine x_callS C [.int (x >>> ((9 : Int32) &&& 31)), .int (nI nc)] (c_L_below l V hV (xw (xw τ 92 (6 * ne) (nI f)) 92 ((6 * ne) + 1) mv) (x >>> ((9 : Int32) &&& 31)) (nI nc) hnz_nc) (va_cwS 2 C.2.2.2.2.1 gL_build_L_below rfl rfl rfl (by decide +kernel) ⟨Nat.le_of_ble_eq_true rfl, Nat.le_of_ble_eq_true rfl⟩) rfl rfl (Nat.le_of_ble_eq_true rfl) dL_build_1019 ⟨Nat.le_of_ble_eq_true rfl, Nat.le_of_ble_eq_true rfl⟩ (x_kI ?_)
                  refine x_goto C 1063 dL_build_1022 rfl ?_
                  exact hJ1063 _ (by have n_h1 : ¬ nt ≤ k := fun z => h1 ((nI_leI (a := nt) (b := k) (by omega) (by omega)).mpr z); have n_h23 : f = 0 := (nI_eq (a := f) (b := 0) (by omega) (by omega)).mp h23; exact ⟨fun _ => below_vp _ (by omega) (by omega), fun z => absurd z (by omega), fun z => absurd z (by omega)⟩)
            · refine x_icmp_le C 997 dL_build_981 rfl (fun h26 => ?_) (fun h26 => ?_)
              · refine x_iload C dL_build_997 4 rfl ?_
                exact hJ999 _ (by have n_h1 : ¬ nt ≤ k := fun z => h1 ((nI_leI (a := nt) (b := k) (by omega) (by omega)).mpr z); have n_h26 : f ≤ 3 := (nI_leI (a := f) (b := 3) (by omega) (by omega)).mp h26; exact ⟨mt, hmt, rfl, hs1, fun _ => rfl, fun z => absurd z (by omega)⟩)
              · have n_h1 : ¬ nt ≤ k := fun z => h1 ((nI_leI (a := nt) (b := k) (by omega) (by omega)).mpr z)
                have n_h26 : ¬ f ≤ 3 := fun z => h26 ((nI_leI (a := f) (b := 3) (by omega) (by omega)).mpr z)
                obtain ⟨j, hj, ej⟩ := hfe (by omega)
                refine x_aload C dL_build_984 14 rfl ?_
                refine x_bipush C (6 : Int32) (by decide) dL_build_986 ?_
                refine x_iload C dL_build_988 1 rfl ?_
                refine x_v (y := nI j) (ej) ?_
                refine x_imul C dL_build_990 ?_
                refine x_v (y := nI (6 * j)) (pk_mul 6 j) ?_
                refine x_iconst C (1 : Int32) (by decide) dL_build_991 ?_
                refine x_iadd C dL_build_992 ?_
                refine x_v (y := nI ((6 * j) + 1)) (nI_add (6 * j) 1) ?_
                refine x_iald C sh_92 (vp_in_nI (n := (6 * j) + 1) (by omega) (by decide)) dL_build_993 ?_
                rw [show (nI ((6 * j) + 1)).toNatClampNeg = (6 * j) + 1 from nI_clamp (n := (6 * j) + 1) (by omega)]
                refine x_v (y := τ 92 ((6 * j) + 1)) (by rw [xw_other (by omega)]) ?_
                refine x_goto C 999 dL_build_994 rfl ?_
                exact hJ999 _ (by have n_h1 : ¬ nt ≤ k := fun z => h1 ((nI_leI (a := nt) (b := k) (by omega) (by omega)).mpr z); have n_h26 : ¬ f ≤ 3 := fun z => h26 ((nI_leI (a := f) (b := 3) (by omega) (by omega)).mpr z); obtain ⟨m, m1, m2, m3, -⟩ := (hB.2.2.2.2.1.2.2 j hj).1; exact ⟨m, m1, m2, m3, fun z => absurd z (by omega), fun _ => ⟨j, hj, ej, rfl⟩⟩)
          · refine x_iload C dL_build_930 2 rfl ?_
            refine x_iconst C (3 : Int32) (by decide) dL_build_932 ?_
            refine x_icmp_ne C 941 dL_build_933 rfl (fun h27 => ?_) (fun h27 => ?_)
            · refine x_iload C dL_build_941 2 rfl ?_
              refine x_iconst C (3 : Int32) (by decide) dL_build_943 ?_
              refine x_icmp_le C 965 dL_build_944 rfl (fun h28 => ?_) (fun h28 => ?_)
              · exact hJ965 _ (by have n_h1 : ¬ nt ≤ k := fun z => h1 ((nI_leI (a := nt) (b := k) (by omega) (by omega)).mpr z); have n_h27 : ¬ f0 = 3 := fun z => h27 ((nI_eq (a := f0) (b := 3) (by omega) (by omega)).mpr z); have n_h28 : f0 ≤ 3 := (nI_leI (a := f0) (b := 3) (by omega) (by omega)).mp h28; exact ⟨f0, hf0, rfl, fun z => by omega, fun z => absurd z (by omega)⟩)
              · refine x_iload C dL_build_947 1 rfl ?_
                refine x_if_ge C 965 dL_build_949 rfl (fun h29 => ?_) (fun h29 => ?_)
                · exact hJ965 _ (by have n_h1 : ¬ nt ≤ k := fun z => h1 ((nI_leI (a := nt) (b := k) (by omega) (by omega)).mpr z); have n_h27 : ¬ f0 = 3 := fun z => h27 ((nI_eq (a := f0) (b := 3) (by omega) (by omega)).mpr z); have n_h28 : ¬ f0 ≤ 3 := fun z => h28 ((nI_leI (a := f0) (b := 3) (by omega) (by omega)).mpr z); exact ⟨f0, hf0, rfl, fun z => by omega, fun z => hev.resolve_left (fun z2 => absurd h29 (by rw [z2.1]; decide))⟩)
                · refine x_iconst C (1 : Int32) (by decide) dL_build_952 ?_
                  refine x_iload C dL_build_953 5 rfl ?_
                  refine x_bipush C (7 : Int32) (by decide) dL_build_955 ?_
                  refine x_ishr C dL_build_957 ?_
                  refine x_iconst C (2 : Int32) (by decide) dL_build_958 ?_
                  refine x_callS C [.int (x >>> ((7 : Int32) &&& 31)), .int (2 : Int32)] (c_L_below l V hV τ (x >>> ((7 : Int32) &&& 31)) (2 : Int32) (by decide)) (va_cwS 2 C.2.2.2.2.1 gL_build_L_below rfl rfl rfl (by decide +kernel) ⟨Nat.le_of_ble_eq_true rfl, Nat.le_of_ble_eq_true rfl⟩) rfl rfl (Nat.le_of_ble_eq_true rfl) dL_build_959 ⟨Nat.le_of_ble_eq_true rfl, Nat.le_of_ble_eq_true rfl⟩ (x_kI ?_)
                  obtain ⟨f1, hf1, ef1⟩ := below_at (x >>> ((7 : Int32) &&& 31)) (n := 2) (by decide) (by decide)
                  refine x_v (y := nI f1) ef1 ?_
                  refine x_iadd C dL_build_962 ?_
                  refine x_v (y := nI (1 + f1)) (nI_add 1 f1) ?_
                  refine x_istore C [(15, .int (nI (1 + f1))), (17, .int (nI q)), (16, .int ev), (14, .int (nI (6 * ne))), (13, .int (nI mt)), (12, .int x), (0, ra V 0), (1, .ref b), (2, .int (0 : Int32)), (3, ra V 87), (4, ra V 88), (5, ra V 89), (6, ra V 90), (7, ra V 91), (8, ra V 92), (9, ra V 93), (10, .int (nI nt)), (11, .int (nI k))] dL_build_963 (by decide) rfl ?_
                  refine x_lv [1, 2, 0, 3, 4, 5, 6, 7, 8, 9, 10, 11, 12, 13, 14, 15, 16, 17] [(17, .int (nI q)), (16, .int ev), (15, .int (nI (1 + f1))), (14, .int (nI (6 * ne))), (13, .int (nI mt)), (12, .int x), (0, ra V 0), (1, .ref b), (2, .int (0 : Int32)), (3, ra V 87), (4, ra V 88), (5, ra V 89), (6, ra V 90), (7, ra V 91), (8, ra V 92), (9, ra V 93), (10, .int (nI nt)), (11, .int (nI k))] rfl ?_
                  exact hJ965 _ (⟨1 + f1, by omega, rfl, fun z => by omega, fun z => absurd z (by omega)⟩)
            · refine x_iload C dL_build_936 0 rfl ?_
              refine x_if_eq C 952 dL_build_938 rfl (fun h30 => ?_) (fun h30 => ?_)
              · refine x_iconst C (1 : Int32) (by decide) dL_build_952 ?_
                refine x_iload C dL_build_953 5 rfl ?_
                refine x_bipush C (7 : Int32) (by decide) dL_build_955 ?_
                refine x_ishr C dL_build_957 ?_
                refine x_iconst C (2 : Int32) (by decide) dL_build_958 ?_
                refine x_callS C [.int (x >>> ((7 : Int32) &&& 31)), .int (2 : Int32)] (c_L_below l V hV τ (x >>> ((7 : Int32) &&& 31)) (2 : Int32) (by decide)) (va_cwS 2 C.2.2.2.2.1 gL_build_L_below rfl rfl rfl (by decide +kernel) ⟨Nat.le_of_ble_eq_true rfl, Nat.le_of_ble_eq_true rfl⟩) rfl rfl (Nat.le_of_ble_eq_true rfl) dL_build_959 ⟨Nat.le_of_ble_eq_true rfl, Nat.le_of_ble_eq_true rfl⟩ (x_kI ?_)
                obtain ⟨f1, hf1, ef1⟩ := below_at (x >>> ((7 : Int32) &&& 31)) (n := 2) (by decide) (by decide)
                refine x_v (y := nI f1) ef1 ?_
                refine x_iadd C dL_build_962 ?_
                refine x_v (y := nI (1 + f1)) (nI_add 1 f1) ?_
                refine x_istore C [(15, .int (nI (1 + f1))), (17, .int (nI q)), (16, .int ev), (14, .int (nI (6 * ne))), (13, .int (nI mt)), (12, .int x), (0, ra V 0), (1, .ref b), (2, .int (0 : Int32)), (3, ra V 87), (4, ra V 88), (5, ra V 89), (6, ra V 90), (7, ra V 91), (8, ra V 92), (9, ra V 93), (10, .int (nI nt)), (11, .int (nI k))] dL_build_963 (by decide) rfl ?_
                refine x_lv [1, 2, 0, 3, 4, 5, 6, 7, 8, 9, 10, 11, 12, 13, 14, 15, 16, 17] [(17, .int (nI q)), (16, .int ev), (15, .int (nI (1 + f1))), (14, .int (nI (6 * ne))), (13, .int (nI mt)), (12, .int x), (0, ra V 0), (1, .ref b), (2, .int (0 : Int32)), (3, ra V 87), (4, ra V 88), (5, ra V 89), (6, ra V 90), (7, ra V 91), (8, ra V 92), (9, ra V 93), (10, .int (nI nt)), (11, .int (nI k))] rfl ?_
                exact hJ965 _ (⟨1 + f1, by omega, rfl, fun z => by omega, fun z => absurd z (by omega)⟩)
              · refine x_iload C dL_build_941 2 rfl ?_
                refine x_iconst C (3 : Int32) (by decide) dL_build_943 ?_
                refine x_icmp_le C 965 dL_build_944 rfl (fun h31 => ?_) (fun h31 => ?_)
                · exact hJ965 _ (by have n_h1 : ¬ nt ≤ k := fun z => h1 ((nI_leI (a := nt) (b := k) (by omega) (by omega)).mpr z); have n_h27 : f0 = 3 := (nI_eq (a := f0) (b := 3) (by omega) (by omega)).mp h27; have n_h30 : ¬ q = 0 := fun z => h30 ((nI_eq (a := q) (b := 0) (by omega) (by omega)).mpr z); have n_h31 : f0 ≤ 3 := (nI_leI (a := f0) (b := 3) (by omega) (by omega)).mp h31; exact ⟨f0, hf0, rfl, fun z => by omega, fun z => absurd z (by omega)⟩)
                · refine x_iload C dL_build_947 1 rfl ?_
                  refine x_if_ge C 965 dL_build_949 rfl (fun h32 => ?_) (fun h32 => ?_)
                  · exact hJ965 _ (by have n_h1 : ¬ nt ≤ k := fun z => h1 ((nI_leI (a := nt) (b := k) (by omega) (by omega)).mpr z); have n_h27 : f0 = 3 := (nI_eq (a := f0) (b := 3) (by omega) (by omega)).mp h27; have n_h30 : ¬ q = 0 := fun z => h30 ((nI_eq (a := q) (b := 0) (by omega) (by omega)).mpr z); have n_h31 : ¬ f0 ≤ 3 := fun z => h31 ((nI_leI (a := f0) (b := 3) (by omega) (by omega)).mpr z); exact ⟨f0, hf0, rfl, fun z => by omega, fun z => hev.resolve_left (fun z2 => absurd h32 (by rw [z2.1]; decide))⟩)
                  · refine x_iconst C (1 : Int32) (by decide) dL_build_952 ?_
                    refine x_iload C dL_build_953 5 rfl ?_
                    refine x_bipush C (7 : Int32) (by decide) dL_build_955 ?_
                    refine x_ishr C dL_build_957 ?_
                    refine x_iconst C (2 : Int32) (by decide) dL_build_958 ?_
                    refine x_callS C [.int (x >>> ((7 : Int32) &&& 31)), .int (2 : Int32)] (c_L_below l V hV τ (x >>> ((7 : Int32) &&& 31)) (2 : Int32) (by decide)) (va_cwS 2 C.2.2.2.2.1 gL_build_L_below rfl rfl rfl (by decide +kernel) ⟨Nat.le_of_ble_eq_true rfl, Nat.le_of_ble_eq_true rfl⟩) rfl rfl (Nat.le_of_ble_eq_true rfl) dL_build_959 ⟨Nat.le_of_ble_eq_true rfl, Nat.le_of_ble_eq_true rfl⟩ (x_kI ?_)
                    obtain ⟨f1, hf1, ef1⟩ := below_at (x >>> ((7 : Int32) &&& 31)) (n := 2) (by decide) (by decide)
                    refine x_v (y := nI f1) ef1 ?_
                    refine x_iadd C dL_build_962 ?_
                    refine x_v (y := nI (1 + f1)) (nI_add 1 f1) ?_
                    refine x_istore C [(15, .int (nI (1 + f1))), (17, .int (nI q)), (16, .int ev), (14, .int (nI (6 * ne))), (13, .int (nI mt)), (12, .int x), (0, ra V 0), (1, .ref b), (2, .int (0 : Int32)), (3, ra V 87), (4, ra V 88), (5, ra V 89), (6, ra V 90), (7, ra V 91), (8, ra V 92), (9, ra V 93), (10, .int (nI nt)), (11, .int (nI k))] dL_build_963 (by decide) rfl ?_
                    refine x_lv [1, 2, 0, 3, 4, 5, 6, 7, 8, 9, 10, 11, 12, 13, 14, 15, 16, 17] [(17, .int (nI q)), (16, .int ev), (15, .int (nI (1 + f1))), (14, .int (nI (6 * ne))), (13, .int (nI mt)), (12, .int x), (0, ra V 0), (1, .ref b), (2, .int (0 : Int32)), (3, ra V 87), (4, ra V 88), (5, ra V 89), (6, ra V 90), (7, ra V 91), (8, ra V 92), (9, ra V 93), (10, .int (nI nt)), (11, .int (nI k))] rfl ?_
                    exact hJ965 _ (⟨1 + f1, by omega, rfl, fun z => by omega, fun z => absurd z (by omega)⟩)
        · refine x_if_ge C 910 dL_build_903 rfl (fun h33 => ?_) (fun h33 => ?_)
          · refine x_aload C dL_build_910 12 rfl ?_
            refine x_bipush C (7 : Int32) (by decide) dL_build_912 ?_
            refine x_iload C dL_build_914 3 rfl ?_
            refine x_imul C dL_build_916 ?_
            refine x_v (y := nI (7 * mt)) (pk_mul 7 mt) ?_
            refine x_iconst C (5 : Int32) (by decide) dL_build_917 ?_
            refine x_iadd C dL_build_918 ?_
            refine x_v (y := nI ((7 * mt) + 5)) (nI_add (7 * mt) 5) ?_
            refine x_iald C sh_91 (vp_in_nI (n := (7 * mt) + 5) (by omega) (by decide)) dL_build_919 ?_
            rw [show (nI ((7 * mt) + 5)).toNatClampNeg = (7 * mt) + 5 from nI_clamp (n := (7 * mt) + 5) (by omega)]
            refine x_if_ge C 927 dL_build_920 rfl (fun h34 => ?_) (fun h34 => ?_)
            · refine x_iconst C (2 : Int32) (by decide) dL_build_927 ?_
              exact hJ928 _ (⟨2, by decide, rfl, fun _ z => absurd h33 (by rw [z]; decide), fun _ z => absurd h34 (by rw [z]; decide)⟩)
            · refine x_iconst C (1 : Int32) (by decide) dL_build_923 ?_
              refine x_goto C 928 dL_build_924 rfl ?_
              exact hJ928 _ (⟨1, by decide, rfl, fun _ z => absurd h33 (by rw [z]; decide), fun z => absurd z (by decide)⟩)
          · refine x_iconst C (0 : Int32) (by decide) dL_build_906 ?_
            refine x_goto C 928 dL_build_907 rfl ?_
            exact hJ928 _ (⟨0, by decide, rfl, fun z => absurd z (by decide), fun z => absurd z (by decide)⟩)
      · refine x_if_ne C 880 dL_build_873 rfl (fun h35 => ?_) (fun h35 => ?_)
        · have hnz_ne : ¬ nI ne = 0 := h35
          refine x_iload C dL_build_880 3 rfl ?_
          refine x_bipush C (6 : Int32) (by decide) dL_build_882 ?_
          refine x_ishr C dL_build_884 ?_
          refine x_aload_n C dL_build_885 rfl 7 rfl ?_
          refine x_iconst C (4 : Int32) (by decide) dL_build_886 ?_
          refine x_iald C sh_87 (vp_in_nI (n := 4) (by omega) (by decide)) dL_build_887 ?_
          rw [show (4 : Int32).toNatClampNeg = 4 from nI_clamp (n := 4) (by omega)]
          refine x_v (y := nI ne) (hc795_7) ?_
          refine x_callS C [.int (x >>> ((6 : Int32) &&& 31)), .int (nI ne)] (c_L_below l V hV τ (x >>> ((6 : Int32) &&& 31)) (nI ne) hnz_ne) (va_cwS 2 C.2.2.2.2.1 gL_build_L_below rfl rfl rfl (by decide +kernel) ⟨Nat.le_of_ble_eq_true rfl, Nat.le_of_ble_eq_true rfl⟩) rfl rfl (Nat.le_of_ble_eq_true rfl) dL_build_888 ⟨Nat.le_of_ble_eq_true rfl, Nat.le_of_ble_eq_true rfl⟩ (x_kI ?_)
          exact hJ891 _ (by have n_h1 : ¬ nt ≤ k := fun z => h1 ((nI_leI (a := nt) (b := k) (by omega) (by omega)).mpr z); have n_h35 : ¬ ne = 0 := fun z => h35 ((nI_eq (a := ne) (b := 0) (by omega) (by omega)).mpr z); exact Or.inr (below_at (x >>> ((6 : Int32) &&& 31)) (Nat.pos_of_ne_zero n_h35) (by omega)))
        · refine x_iconst C (-1 : Int32) (by decide) dL_build_876 ?_
          refine x_goto C 891 dL_build_877 rfl ?_
          exact hJ891 _ (by have n_h1 : ¬ nt ≤ k := fun z => h1 ((nI_leI (a := nt) (b := k) (by omega) (by omega)).mpr z); have n_h35 : ne = 0 := (nI_eq (a := ne) (b := 0) (by omega) (by omega)).mp h35; exact Or.inl ⟨rfl, n_h35⟩)
    · refine x_goto C 1425 dL_build_848 rfl ?_
      refine x_iinc C (q := 13) ((nI k) + (1 : Int32)) [(11, .int ((nI k) + (1 : Int32))), (13, .int (nI mt)), (12, .int x), (0, ra V 0), (1, .ref b), (2, .int (0 : Int32)), (3, ra V 87), (4, ra V 88), (5, ra V 89), (6, ra V 90), (7, ra V 91), (8, ra V 92), (9, ra V 93), (10, .int (nI nt))] dL_build_1425 rfl rfl (by decide) rfl ?_
      refine x_goto C 795 dL_build_1428 rfl ?_
      refine x_lv [3, 4, 5, 6, 7, 8, 9, 10, 11, 12, 13, 0] [(0, ra V 0), (1, .ref b), (2, .int (0 : Int32)), (3, ra V 87), (4, ra V 88), (5, ra V 89), (6, ra V 90), (7, ra V 91), (8, ra V 92), (9, ra V 93), (10, .int (nI nt)), (11, .int ((nI k) + (1 : Int32)))] rfl ?_
      exact ih795 _ _ _ hlt ⟨k + 1, ne, nx, rfl, by rw [nI_succ], hle1, hle2, hc795_2, hc795_3, hc795_4, hc795_5, hc795_6, hc795_7, hc795_8⟩


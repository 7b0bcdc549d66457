set_option maxHeartbeats 4000000 in
set_option maxRecDepth 100000 in
theorem L_typeOf {p : Program} {l : Launch} {e : Env} {s : State} {m : MethodId} {args : Array Value} {below : List Frame} {meth : Method} {c : Code} {V : xV} {A : Nat → Prop} {cells slots : Nat} {Q : State → Prop} {lo b L i : Nat} {xs : Nat → Int32} {gg : Nat → Int64} {σ : xS} (hlst : l.stackTraces = false) (C : XC p s m args c cL_law 9 RL wsL_law V [oc V lo gg] A) (hV : xInj V) (hO : ∀ k, k < 108 → xad V k ≠ lo) (hA : ∀ q, inO V lo q → A q) (hT : xT s) (hZ : xZ A s s.heap) (hX : va_X b L xs s s.heap) (hbl : b < s.heap.size) (hbA : ¬ A b) (hL : L < 2 ^ 31) (hi : 8 * i + 8 ≤ L) (hcs : cells + 1 ≤ room_1.cells ∧ slots + 6 ≤ room_1.slots) (h : Sm σ) (J : ∀ σ' g', Sm σ' → X p l e room_1 s m args below meth c V [oc V lo g'] A 9 (cells + 1) (slots + 6) Q σ' 1977 [(0, .ref b), (1, ra V 0), (2, ra V 87), (3, .ref lo), (4, .int (nI (8 * i)))] []) : X p l e room_1 s m args below meth c V [oc V lo gg] A 9 cells slots Q σ 1691 [(0, .ref b), (1, ra V 0), (2, ra V 87), (3, .ref lo), (4, .int (nI (8 * i)))] [] := by
  have hz202 := Sm_z2 h
  have hz203 := Sm_z3 h
  refine x_aload_n C dL_law_1691 rfl 1 rfl ?_
  refine x_arefn C dL_law_1692 rfl 0 rfl ?_
  refine x_iload C dL_law_1693 4 rfl ?_
  refine x_iconst C (1 : Int32) (by decide) dL_law_1695 ?_
  refine x_iadd C dL_law_1696 ?_
  refine x_sld C hX hbl hbA (8 * i + 1) (nI_add (8 * i) 1) (by omega) hL dL_law_1697 ?_
  refine x_arefn C dL_law_1698 rfl 0 rfl ?_
  refine x_iload C dL_law_1699 4 rfl ?_
  refine x_iconst C (2 : Int32) (by decide) dL_law_1701 ?_
  refine x_iadd C dL_law_1702 ?_
  refine x_sld C hX hbl hbA (8 * i + 2) (nI_add (8 * i) 2) (by omega) hL dL_law_1703 ?_
  refine x_arefn C dL_law_1704 rfl 3 rfl ?_
  refine x_callW C hT hZ hA [ra V 0, .int (xs (8 * i + 1)), .int (xs (8 * i + 2)), .ref lo] (c_L_typeOf l hlst V hV lo hO σ gg (xs (8 * i + 1)) (xs (8 * i + 2)) hz202 hz203) (vx_cwSW 4 C.2.2.2.2.1 gL_law_L_typeOf rfl rfl rfl (by decide +kernel) ⟨Nat.le_of_ble_eq_true rfl, Nat.le_of_ble_eq_true rfl⟩) rfl rfl (Nat.le_of_ble_eq_true rfl) dL_law_1705 hcs (fun v σ' g' hR => ?_)
  obtain ⟨rfl, hσ, hg, hne⟩ := hR
  have C1 := XC_oc C hV hO hA g'
  by_cases hk : kTyp σ (xs (8 * i + 1)) (xs (8 * i + 2)) = 0
  · rw [if_pos hk] at hσ
    rw [hσ]
    have sp := (st_typeOf h (xs (8 * i + 1)) (xs (8 * i + 2))).1 hk
    refine x_v (y := (0 : Int32)) (by rw [hk, nI_0]) ?_
    refine x_istore C1 [(5, .int (0 : Int32)), (0, .ref b), (1, ra V 0), (2, ra V 87), (3, .ref lo), (4, .int (nI (8 * i)))] dL_law_1708 (by decide) rfl ?_
    refine x_aload_n C1 dL_law_1710 rfl 3 rfl ?_
    refine x_arefn C1 dL_law_1711 rfl 1 rfl ?_
    refine x_iload C1 dL_law_1712 5 rfl ?_
    refine x_iconst C1 (1 : Int32) (by decide) dL_law_1714 ?_
    refine x_iadd C1 dL_law_1715 ?_
    refine x_sld C1 hX hbl hbA (8 * i + 1) (nI_add (8 * i) 1) (by omega) hL dL_law_1716 ?_
    refine x_arefn C1 dL_law_1717 rfl 1 rfl ?_
    refine x_iload C1 dL_law_1718 5 rfl ?_
    refine x_iconst C1 (2 : Int32) (by decide) dL_law_1720 ?_
    refine x_iadd C1 dL_law_1721 ?_
    refine x_sld C1 hX hbl hbA (8 * i + 2) (nI_add (8 * i) 2) (by omega) hL dL_law_1722 ?_
    refine x_callV C1 sh_87 (by decide) rfl [.int (xs (8 * i + 1)), .int (xs (8 * i + 2))] (c_X9_typeOf l V hV (gts (look σ (xs (8 * i + 2)))) (xs (8 * i + 1)) (xs (8 * i + 2)) (mV_E (em_typeOf) h.1.V)) (cwV 2 C1.2.2.2.2.1 gL_law_X9_typeOf rfl rfl rfl (by decide +kernel) ⟨Nat.le_of_ble_eq_true rfl, Nat.le_of_ble_eq_true rfl⟩) rfl rfl (Nat.le_of_ble_eq_true rfl) dL_law_1723 ⟨hcs.1, hcs.2⟩ (x_kC (fun y u h1 h2 => ?_))
    obtain ⟨rfl, rfl⟩ := h1 sp.1
    refine x_nm (fun yv hyv => ?_)
    refine x_istore C1 [(6, .int yv), (5, .int (0 : Int32)), (0, .ref b), (1, ra V 0), (2, ra V 87), (3, .ref lo), (4, .int (nI (8 * i)))] dL_law_1726 (by decide) rfl ?_
    refine x_aload_n C1 dL_law_1728 rfl 4 rfl ?_
    refine x_callV C1 sh_87 (by decide) rfl [] (c_X9_thrown l V hV _) (cwV 0 C1.2.2.2.2.1 gL_law_X9_thrown rfl rfl rfl (by decide +kernel) ⟨Nat.le_of_ble_eq_true rfl, Nat.le_of_ble_eq_true rfl⟩) rfl rfl (Nat.le_of_ble_eq_true rfl) dL_law_1729 ⟨hcs.1, hcs.2⟩ (x_kI ?_)
    refine x_v (y := (0 : Int32)) sp.2.1 ?_
    refine x_iload C1 dL_law_1732 1 rfl ?_
    refine x_icmp_eq C1 1739 dL_law_1734 rfl (fun _ => ?_) (fun hq => absurd rfl hq)
    refine x_iload C1 dL_law_1739 1 rfl ?_
    refine x_if_ne C1 1756 dL_law_1741 rfl (fun hq => absurd rfl hq) (fun _ => ?_)
    refine x_arefn C1 dL_law_1744 rfl 5 rfl ?_
    refine x_iconst C1 (0 : Int32) (by decide) dL_law_1745 ?_
    refine x_lald C1 dL_law_1746 ?_
    refine x_iload C1 dL_law_1747 0 rfl ?_
    have hg0 := (hg hk).trans (congrArg Int32.toInt64 (sp.2.2.1.trans hyv.symm))
    refine x_i2l C1 dL_law_1749 ?_
    refine x_lcmp C1 dL_law_1750 ?_
    refine x_v (y := (0 : Int32)) (by rw [hg0]; exact lg_cmp_s _) ?_
    refine x_if_eq C1 1756 dL_law_1751 rfl (fun _ => ?_) (fun hq => absurd rfl hq)
    refine x_goto C1 1977 dL_law_1756 rfl ?_
    refine x_lv [2, 3, 4, 5, 6] [(0, .ref b), (1, ra V 0), (2, ra V 87), (3, .ref lo), (4, .int (nI (8 * i)))] rfl ?_
    exact J _ g' sp.2.2.2
  · rw [if_neg hk] at hσ
    rw [hσ]
    have sp := (st_typeOf h (xs (8 * i + 1)) (xs (8 * i + 2))).2 hk
    refine x_istore C1 [(5, .int (nI (kTyp σ (xs (8 * i + 1)) (xs (8 * i + 2))))), (0, .ref b), (1, ra V 0), (2, ra V 87), (3, .ref lo), (4, .int (nI (8 * i)))] dL_law_1708 (by decide) rfl ?_
    refine x_aload_n C1 dL_law_1710 rfl 3 rfl ?_
    refine x_arefn C1 dL_law_1711 rfl 1 rfl ?_
    refine x_iload C1 dL_law_1712 5 rfl ?_
    refine x_iconst C1 (1 : Int32) (by decide) dL_law_1714 ?_
    refine x_iadd C1 dL_law_1715 ?_
    refine x_sld C1 hX hbl hbA (8 * i + 1) (nI_add (8 * i) 1) (by omega) hL dL_law_1716 ?_
    refine x_arefn C1 dL_law_1717 rfl 1 rfl ?_
    refine x_iload C1 dL_law_1718 5 rfl ?_
    refine x_iconst C1 (2 : Int32) (by decide) dL_law_1720 ?_
    refine x_iadd C1 dL_law_1721 ?_
    refine x_sld C1 hX hbl hbA (8 * i + 2) (nI_add (8 * i) 2) (by omega) hL dL_law_1722 ?_
    refine x_callV C1 sh_87 (by decide) rfl [.int (xs (8 * i + 1)), .int (xs (8 * i + 2))] (c_X9_typeOf l V hV (σ) (xs (8 * i + 1)) (xs (8 * i + 2)) (mV_E (em_rf) h.1.V)) (cwV 2 C1.2.2.2.2.1 gL_law_X9_typeOf rfl rfl rfl (by decide +kernel) ⟨Nat.le_of_ble_eq_true rfl, Nat.le_of_ble_eq_true rfl⟩) rfl rfl (Nat.le_of_ble_eq_true rfl) dL_law_1723 ⟨hcs.1, hcs.2⟩ (x_kC (fun y u h1 h2 => ?_))
    have hu := h2 (by rw [sp.1]; exact hk)
    rw [sp.1] at hu
    subst hu
    refine x_nm (fun yv hyv => ?_)
    refine x_istore C1 [(6, .int yv), (5, .int (nI (kTyp σ (xs (8 * i + 1)) (xs (8 * i + 2))))), (0, .ref b), (1, ra V 0), (2, ra V 87), (3, .ref lo), (4, .int (nI (8 * i)))] dL_law_1726 (by decide) rfl ?_
    refine x_aload_n C1 dL_law_1728 rfl 4 rfl ?_
    refine x_callV C1 sh_87 (by decide) rfl [] (c_X9_thrown l V hV _) (cwV 0 C1.2.2.2.2.1 gL_law_X9_thrown rfl rfl rfl (by decide +kernel) ⟨Nat.le_of_ble_eq_true rfl, Nat.le_of_ble_eq_true rfl⟩) rfl rfl (Nat.le_of_ble_eq_true rfl) dL_law_1729 ⟨hcs.1, hcs.2⟩ (x_kI ?_)
    refine x_v (y := (nI (kTyp σ (xs (8 * i + 1)) (xs (8 * i + 2))))) (xw_at _ _ _ _) ?_
    refine x_iload C1 dL_law_1732 1 rfl ?_
    refine x_icmp_eq C1 1739 dL_law_1734 rfl (fun _ => ?_) (fun hq => absurd rfl hq)
    refine x_iload C1 dL_law_1739 1 rfl ?_
    refine x_if_ne C1 1756 dL_law_1741 rfl (fun _ => ?_) (fun hq => absurd hq (hne hk))
    refine x_goto C1 1977 dL_law_1756 rfl ?_
    refine x_lv [2, 3, 4, 5, 6] [(0, .ref b), (1, ra V 0), (2, ra V 87), (3, .ref lo), (4, .int (nI (8 * i)))] rfl ?_
    exact J _ g' sp.2
set_option maxHeartbeats 4000000 in
set_option maxRecDepth 100000 in
theorem L_errorCount {p : Program} {l : Launch} {e : Env} {s : State} {m : MethodId} {args : Array Value} {below : List Frame} {meth : Method} {c : Code} {V : xV} {A : Nat → Prop} {cells slots : Nat} {Q : State → Prop} {lo b L i : Nat} {xs : Nat → Int32} {gg : Nat → Int64} {σ : xS} (hlst : l.stackTraces = false) (C : XC p s m args c cL_law 9 RL wsL_law V [oc V lo gg] A) (hV : xInj V) (hO : ∀ k, k < 108 → xad V k ≠ lo) (hA : ∀ q, inO V lo q → A q) (hT : xT s) (hZ : xZ A s s.heap) (hX : va_X b L xs s s.heap) (hbl : b < s.heap.size) (hbA : ¬ A b) (hL : L < 2 ^ 31) (hi : 8 * i + 8 ≤ L) (hcs : cells + 1 ≤ room_1.cells ∧ slots + 6 ≤ room_1.slots) (h : Sm σ) (J : ∀ σ' g', Sm σ' → X p l e room_1 s m args below meth c V [oc V lo g'] A 9 (cells + 1) (slots + 6) Q σ' 1977 [(0, .ref b), (1, ra V 0), (2, ra V 87), (3, .ref lo), (4, .int (nI (8 * i)))] []) : X p l e room_1 s m args below meth c V [oc V lo gg] A 9 cells slots Q σ 1759 [(0, .ref b), (1, ra V 0), (2, ra V 87), (3, .ref lo), (4, .int (nI (8 * i)))] [] := by
  have hz202 := Sm_z2 h
  have hz203 := Sm_z3 h
  have sp := st_errorCount h
  refine x_aload_n C dL_law_1759 rfl 1 rfl ?_
  refine x_callV C sh_0 (by decide) rfl [] (c_X8_errorCount l V hV σ hz202 hz203) (cwV 0 C.2.2.2.2.1 gL_law_X8_errorCount rfl rfl rfl (by decide +kernel) ⟨Nat.le_of_ble_eq_true rfl, Nat.le_of_ble_eq_true rfl⟩) rfl rfl (Nat.le_of_ble_eq_true rfl) dL_law_1760 ⟨Nat.le_of_succ_le hcs.1, Nat.le_trans (Nat.le_add_right _ 6) hcs.2⟩ (x_kI ?_)
  refine x_aload_n C dL_law_1763 rfl 2 rfl ?_
  refine x_callV C sh_87 (by decide) rfl [] (c_X9_errorCount l V hV (insA σ) (mV_E em_insA h.1.V)) (cwV 0 C.2.2.2.2.1 gL_law_X9_errorCount rfl rfl rfl (by decide +kernel) ⟨Nat.le_of_ble_eq_true rfl, Nat.le_of_ble_eq_true rfl⟩) rfl rfl (Nat.le_of_ble_eq_true rfl) dL_law_1764 ⟨Nat.le_of_succ_le hcs.1, Nat.le_trans (Nat.le_add_right _ 6) hcs.2⟩ (x_kI ?_)
  refine x_icmp_eq C 1977 dL_law_1767 rfl (fun _ => ?_) (fun hq => absurd sp.1 hq)
  refine x_lv [0, 1, 2, 3, 4] [(0, .ref b), (1, ra V 0), (2, ra V 87), (3, .ref lo), (4, .int (nI (8 * i)))] rfl ?_
  exact x_widen (Nat.le_succ _) (Nat.le_add_right _ 6) (J _ gg sp.2)
set_option maxHeartbeats 4000000 in
set_option maxRecDepth 100000 in
theorem L_error {p : Program} {l : Launch} {e : Env} {s : State} {m : MethodId} {args : Array Value} {below : List Frame} {meth : Method} {c : Code} {V : xV} {A : Nat → Prop} {cells slots : Nat} {Q : State → Prop} {lo b L i : Nat} {xs : Nat → Int32} {gg : Nat → Int64} {σ : xS} (hlst : l.stackTraces = false) (C : XC p s m args c cL_law 9 RL wsL_law V [oc V lo gg] A) (hV : xInj V) (hO : ∀ k, k < 108 → xad V k ≠ lo) (hA : ∀ q, inO V lo q → A q) (hT : xT s) (hZ : xZ A s s.heap) (hX : va_X b L xs s s.heap) (hbl : b < s.heap.size) (hbA : ¬ A b) (hL : L < 2 ^ 31) (hi : 8 * i + 8 ≤ L) (hcs : cells + 1 ≤ room_1.cells ∧ slots + 6 ≤ room_1.slots) (h : Sm σ) (J : ∀ σ' g', Sm σ' → X p l e room_1 s m args below meth c V [oc V lo g'] A 9 (cells + 1) (slots + 6) Q σ' 1977 [(0, .ref b), (1, ra V 0), (2, ra V 87), (3, .ref lo), (4, .int (nI (8 * i)))] []) : X p l e room_1 s m args below meth c V [oc V lo gg] A 9 cells slots Q σ 1772 [(0, .ref b), (1, ra V 0), (2, ra V 87), (3, .ref lo), (4, .int (nI (8 * i)))] [] := by
  have hz202 := Sm_z2 h
  have hz203 := Sm_z3 h
  refine x_aload_n C dL_law_1772 rfl 1 rfl ?_
  refine x_arefn C dL_law_1773 rfl 0 rfl ?_
  refine x_iload C dL_law_1774 4 rfl ?_
  refine x_iconst C (1 : Int32) (by decide) dL_law_1776 ?_
  refine x_iadd C dL_law_1777 ?_
  refine x_sld C hX hbl hbA (8 * i + 1) (nI_add (8 * i) 1) (by omega) hL dL_law_1778 ?_
  refine x_arefn C dL_law_1779 rfl 0 rfl ?_
  refine x_iload C dL_law_1780 4 rfl ?_
  refine x_iconst C (2 : Int32) (by decide) dL_law_1782 ?_
  refine x_iadd C dL_law_1783 ?_
  refine x_sld C hX hbl hbA (8 * i + 2) (nI_add (8 * i) 2) (by omega) hL dL_law_1784 ?_
  refine x_arefn C dL_law_1785 rfl 3 rfl ?_
  refine x_callW C hT hZ hA [ra V 0, .int (xs (8 * i + 1)), .int (xs (8 * i + 2)), .ref lo] (c_L_error l hlst V hV lo hO σ gg (xs (8 * i + 1)) (xs (8 * i + 2)) hz202 hz203) (vx_cwSW 4 C.2.2.2.2.1 gL_law_L_error rfl rfl rfl (by decide +kernel) ⟨Nat.le_of_ble_eq_true rfl, Nat.le_of_ble_eq_true rfl⟩) rfl rfl (Nat.le_of_ble_eq_true rfl) dL_law_1786 hcs (fun v σ' g' hR => ?_)
  obtain ⟨rfl, hσ, hg, hne⟩ := hR
  have C1 := XC_oc C hV hO hA g'
  by_cases hk : kErr σ (xs (8 * i + 1)) (xs (8 * i + 2)) = 0
  · rw [if_pos hk] at hσ
    rw [hσ]
    have sp := (st_error h (xs (8 * i + 1)) (xs (8 * i + 2))).1 hk
    refine x_v (y := (0 : Int32)) (by rw [hk, nI_0]) ?_
    refine x_istore C1 [(5, .int (0 : Int32)), (0, .ref b), (1, ra V 0), (2, ra V 87), (3, .ref lo), (4, .int (nI (8 * i)))] dL_law_1789 (by decide) rfl ?_
    refine x_aload_n C1 dL_law_1791 rfl 3 rfl ?_
    refine x_arefn C1 dL_law_1792 rfl 1 rfl ?_
    refine x_iload C1 dL_law_1793 5 rfl ?_
    refine x_iconst C1 (1 : Int32) (by decide) dL_law_1795 ?_
    refine x_iadd C1 dL_law_1796 ?_
    refine x_sld C1 hX hbl hbA (8 * i + 1) (nI_add (8 * i) 1) (by omega) hL dL_law_1797 ?_
    refine x_arefn C1 dL_law_1798 rfl 1 rfl ?_
    refine x_iload C1 dL_law_1799 5 rfl ?_
    refine x_iconst C1 (2 : Int32) (by decide) dL_law_1801 ?_
    refine x_iadd C1 dL_law_1802 ?_
    refine x_sld C1 hX hbl hbA (8 * i + 2) (nI_add (8 * i) 2) (by omega) hL dL_law_1803 ?_
    refine x_callV C1 sh_87 (by decide) rfl [.int (xs (8 * i + 1)), .int (xs (8 * i + 2))] (c_X9_error l V hV (insA σ) (xs (8 * i + 1)) (xs (8 * i + 2)) (mV_E (em_error) h.1.V)) (cwV 2 C1.2.2.2.2.1 gL_law_X9_error rfl rfl rfl (by decide +kernel) ⟨Nat.le_of_ble_eq_true rfl, Nat.le_of_ble_eq_true rfl⟩) rfl rfl (Nat.le_of_ble_eq_true rfl) dL_law_1804 ⟨hcs.1, hcs.2⟩ (x_kE (fun y u h1 h2 => ?_))
    obtain ⟨hu, ea, ha1, ha2, ha3, ha4⟩ := h1 sp.1
    rw [hu]
    refine x_nm (fun yv hyv => ?_)
    refine x_istore C1 [(6, .int yv), (5, .int (0 : Int32)), (0, .ref b), (1, ra V 0), (2, ra V 87), (3, .ref lo), (4, .int (nI (8 * i)))] dL_law_1807 (by decide) rfl ?_
    refine x_aload_n C1 dL_law_1809 rfl 4 rfl ?_
    refine x_callV C1 sh_87 (by decide) rfl [] (c_X9_thrown l V hV _) (cwV 0 C1.2.2.2.2.1 gL_law_X9_thrown rfl rfl rfl (by decide +kernel) ⟨Nat.le_of_ble_eq_true rfl, Nat.le_of_ble_eq_true rfl⟩) rfl rfl (Nat.le_of_ble_eq_true rfl) dL_law_1810 ⟨hcs.1, hcs.2⟩ (x_kI ?_)
    refine x_v (y := (0 : Int32)) sp.2.1 ?_
    refine x_iload C1 dL_law_1813 1 rfl ?_
    refine x_icmp_eq C1 1820 dL_law_1815 rfl (fun _ => ?_) (fun hq => absurd rfl hq)
    refine x_iload C1 dL_law_1820 1 rfl ?_
    refine x_if_ne C1 1837 dL_law_1822 rfl (fun hq => absurd rfl hq) (fun _ => ?_)
    refine x_arefn C1 dL_law_1825 rfl 5 rfl ?_
    refine x_iconst C1 (0 : Int32) (by decide) dL_law_1826 ?_
    refine x_lald C1 dL_law_1827 ?_
    refine x_iload C1 dL_law_1828 0 rfl ?_
    have hg0 := (hg hk).trans (congrArg Int32.toInt64 ((sp.2.2.2 ea y ha1 ha2 ha3 ha4).trans hyv.symm))
    refine x_i2l C1 dL_law_1830 ?_
    refine x_lcmp C1 dL_law_1831 ?_
    refine x_v (y := (0 : Int32)) (by rw [hg0]; exact lg_cmp_s _) ?_
    refine x_if_eq C1 1837 dL_law_1832 rfl (fun _ => ?_) (fun hq => absurd rfl hq)
    refine x_goto C1 1977 dL_law_1837 rfl ?_
    refine x_lv [2, 3, 4, 5, 6] [(0, .ref b), (1, ra V 0), (2, ra V 87), (3, .ref lo), (4, .int (nI (8 * i)))] rfl ?_
    exact J _ g' sp.2.2.1
  · rw [if_neg hk] at hσ
    rw [hσ]
    have sp := (st_error h (xs (8 * i + 1)) (xs (8 * i + 2))).2 hk
    refine x_istore C1 [(5, .int (nI (kErr σ (xs (8 * i + 1)) (xs (8 * i + 2))))), (0, .ref b), (1, ra V 0), (2, ra V 87), (3, .ref lo), (4, .int (nI (8 * i)))] dL_law_1789 (by decide) rfl ?_
    refine x_aload_n C1 dL_law_1791 rfl 3 rfl ?_
    refine x_arefn C1 dL_law_1792 rfl 1 rfl ?_
    refine x_iload C1 dL_law_1793 5 rfl ?_
    refine x_iconst C1 (1 : Int32) (by decide) dL_law_1795 ?_
    refine x_iadd C1 dL_law_1796 ?_
    refine x_sld C1 hX hbl hbA (8 * i + 1) (nI_add (8 * i) 1) (by omega) hL dL_law_1797 ?_
    refine x_arefn C1 dL_law_1798 rfl 1 rfl ?_
    refine x_iload C1 dL_law_1799 5 rfl ?_
    refine x_iconst C1 (2 : Int32) (by decide) dL_law_1801 ?_
    refine x_iadd C1 dL_law_1802 ?_
    refine x_sld C1 hX hbl hbA (8 * i + 2) (nI_add (8 * i) 2) (by omega) hL dL_law_1803 ?_
    refine x_callV C1 sh_87 (by decide) rfl [.int (xs (8 * i + 1)), .int (xs (8 * i + 2))] (c_X9_error l V hV ((insA σ)) (xs (8 * i + 1)) (xs (8 * i + 2)) (mV_E (em_insA) h.1.V)) (cwV 2 C1.2.2.2.2.1 gL_law_X9_error rfl rfl rfl (by decide +kernel) ⟨Nat.le_of_ble_eq_true rfl, Nat.le_of_ble_eq_true rfl⟩) rfl rfl (Nat.le_of_ble_eq_true rfl) dL_law_1804 ⟨hcs.1, hcs.2⟩ (x_kE (fun y u h1 h2 => ?_))
    have hu := h2 (by rw [sp.1]; exact hk)
    rw [sp.1] at hu
    rw [hu]
    refine x_nm (fun yv hyv => ?_)
    refine x_istore C1 [(6, .int yv), (5, .int (nI (kErr σ (xs (8 * i + 1)) (xs (8 * i + 2))))), (0, .ref b), (1, ra V 0), (2, ra V 87), (3, .ref lo), (4, .int (nI (8 * i)))] dL_law_1807 (by decide) rfl ?_
    refine x_aload_n C1 dL_law_1809 rfl 4 rfl ?_
    refine x_callV C1 sh_87 (by decide) rfl [] (c_X9_thrown l V hV _) (cwV 0 C1.2.2.2.2.1 gL_law_X9_thrown rfl rfl rfl (by decide +kernel) ⟨Nat.le_of_ble_eq_true rfl, Nat.le_of_ble_eq_true rfl⟩) rfl rfl (Nat.le_of_ble_eq_true rfl) dL_law_1810 ⟨hcs.1, hcs.2⟩ (x_kI ?_)
    refine x_v (y := (nI (kErr σ (xs (8 * i + 1)) (xs (8 * i + 2))))) (xw_at _ _ _ _) ?_
    refine x_iload C1 dL_law_1813 1 rfl ?_
    refine x_icmp_eq C1 1820 dL_law_1815 rfl (fun _ => ?_) (fun hq => absurd rfl hq)
    refine x_iload C1 dL_law_1820 1 rfl ?_
    refine x_if_ne C1 1837 dL_law_1822 rfl (fun _ => ?_) (fun hq => absurd hq (hne hk))
    refine x_goto C1 1977 dL_law_1837 rfl ?_
    refine x_lv [2, 3, 4, 5, 6] [(0, .ref b), (1, ra V 0), (2, ra V 87), (3, .ref lo), (4, .int (nI (8 * i)))] rfl ?_
    exact J _ g' sp.2
set_option maxHeartbeats 4000000 in
set_option maxRecDepth 100000 in
theorem L_right {p : Program} {l : Launch} {e : Env} {s : State} {m : MethodId} {args : Array Value} {below : List Frame} {meth : Method} {c : Code} {V : xV} {A : Nat → Prop} {cells slots : Nat} {Q : State → Prop} {lo b L i : Nat} {xs : Nat → Int32} {gg : Nat → Int64} {σ : xS} (hlst : l.stackTraces = false) (C : XC p s m args c cL_law 9 RL wsL_law V [oc V lo gg] A) (hV : xInj V) (hO : ∀ k, k < 108 → xad V k ≠ lo) (hA : ∀ q, inO V lo q → A q) (hT : xT s) (hZ : xZ A s s.heap) (hX : va_X b L xs s s.heap) (hbl : b < s.heap.size) (hbA : ¬ A b) (hL : L < 2 ^ 31) (hi : 8 * i + 8 ≤ L) (hcs : cells + 1 ≤ room_1.cells ∧ slots + 6 ≤ room_1.slots) (h : Sm σ) (J : ∀ σ' g', Sm σ' → X p l e room_1 s m args below meth c V [oc V lo g'] A 9 (cells + 1) (slots + 6) Q σ' 1977 [(0, .ref b), (1, ra V 0), (2, ra V 87), (3, .ref lo), (4, .int (nI (8 * i)))] []) : X p l e room_1 s m args below meth c V [oc V lo gg] A 9 cells slots Q σ 1840 [(0, .ref b), (1, ra V 0), (2, ra V 87), (3, .ref lo), (4, .int (nI (8 * i)))] [] := by
  have hz202 := Sm_z2 h
  have hz203 := Sm_z3 h
  have sp := st_right h
  refine x_aload_n C dL_law_1840 rfl 1 rfl ?_
  refine x_callV C sh_0 (by decide) rfl [] (c_X8_right l V hV σ hz202 hz203) (cwV 0 C.2.2.2.2.1 gL_law_X8_right rfl rfl rfl (by decide +kernel) ⟨Nat.le_of_ble_eq_true rfl, Nat.le_of_ble_eq_true rfl⟩) rfl rfl (Nat.le_of_ble_eq_true rfl) dL_law_1841 ⟨Nat.le_of_succ_le hcs.1, Nat.le_trans (Nat.le_add_right _ 6) hcs.2⟩ (x_kI ?_)
  refine x_aload_n C dL_law_1844 rfl 2 rfl ?_
  refine x_callV C sh_87 (by decide) rfl [] (c_X9_right l V hV (insA σ) (mV_E em_insA h.1.V)) (cwV 0 C.2.2.2.2.1 gL_law_X9_right rfl rfl rfl (by decide +kernel) ⟨Nat.le_of_ble_eq_true rfl, Nat.le_of_ble_eq_true rfl⟩) rfl rfl (Nat.le_of_ble_eq_true rfl) dL_law_1845 ⟨Nat.le_of_succ_le hcs.1, Nat.le_trans (Nat.le_add_right _ 6) hcs.2⟩ (x_kI ?_)
  refine x_icmp_eq C 1977 dL_law_1848 rfl (fun _ => ?_) (fun hq => absurd sp.1 hq)
  refine x_lv [0, 1, 2, 3, 4] [(0, .ref b), (1, ra V 0), (2, ra V 87), (3, .ref lo), (4, .int (nI (8 * i)))] rfl ?_
  exact x_widen (Nat.le_succ _) (Nat.le_add_right _ 6) (J _ gg sp.2)
set_option maxHeartbeats 4000000 in
set_option maxRecDepth 100000 in
theorem L_errorsIn {p : Program} {l : Launch} {e : Env} {s : State} {m : MethodId} {args : Array Value} {below : List Frame} {meth : Method} {c : Code} {V : xV} {A : Nat → Prop} {cells slots : Nat} {Q : State → Prop} {lo b L i : Nat} {xs : Nat → Int32} {gg : Nat → Int64} {σ : xS} (hlst : l.stackTraces = false) (C : XC p s m args c cL_law 9 RL wsL_law V [oc V lo gg] A) (hV : xInj V) (hO : ∀ k, k < 108 → xad V k ≠ lo) (hA : ∀ q, inO V lo q → A q) (hT : xT s) (hZ : xZ A s s.heap) (hX : va_X b L xs s s.heap) (hbl : b < s.heap.size) (hbA : ¬ A b) (hL : L < 2 ^ 31) (hi : 8 * i + 8 ≤ L) (hcs : cells + 1 ≤ room_1.cells ∧ slots + 6 ≤ room_1.slots) (h : Sm σ) (J : ∀ σ' g', Sm σ' → X p l e room_1 s m args below meth c V [oc V lo g'] A 9 (cells + 1) (slots + 6) Q σ' 1977 [(0, .ref b), (1, ra V 0), (2, ra V 87), (3, .ref lo), (4, .int (nI (8 * i)))] []) : X p l e room_1 s m args below meth c V [oc V lo gg] A 9 cells slots Q σ 1853 [(0, .ref b), (1, ra V 0), (2, ra V 87), (3, .ref lo), (4, .int (nI (8 * i)))] [] := by
  have hz202 := Sm_z2 h
  have hz203 := Sm_z3 h
  refine x_aload_n C dL_law_1853 rfl 1 rfl ?_
  refine x_arefn C dL_law_1854 rfl 0 rfl ?_
  refine x_iload C dL_law_1855 4 rfl ?_
  refine x_iconst C (1 : Int32) (by decide) dL_law_1857 ?_
  refine x_iadd C dL_law_1858 ?_
  refine x_sld C hX hbl hbA (8 * i + 1) (nI_add (8 * i) 1) (by omega) hL dL_law_1859 ?_
  refine x_arefn C dL_law_1860 rfl 3 rfl ?_
  refine x_callW C hT hZ hA [ra V 0, .int (xs (8 * i + 1)), .ref lo] (c_L_errorsIn l hlst V hV lo hO σ gg (xs (8 * i + 1)) hz202 hz203) (vx_cwSW 3 C.2.2.2.2.1 gL_law_L_errorsIn rfl rfl rfl (by decide +kernel) ⟨Nat.le_of_ble_eq_true rfl, Nat.le_of_ble_eq_true rfl⟩) rfl rfl (Nat.le_of_ble_eq_true rfl) dL_law_1861 hcs (fun v σ' g' hR => ?_)
  obtain ⟨rfl, hσ, hg, hne⟩ := hR
  have C1 := XC_oc C hV hO hA g'
  by_cases hk : kEIn σ (xs (8 * i + 1)) = 0
  · rw [if_pos hk] at hσ
    rw [hσ]
    have sp := (st_errorsIn h (xs (8 * i + 1))).1 hk
    refine x_v (y := (0 : Int32)) (by rw [hk, nI_0]) ?_
    refine x_istore C1 [(5, .int (0 : Int32)), (0, .ref b), (1, ra V 0), (2, ra V 87), (3, .ref lo), (4, .int (nI (8 * i)))] dL_law_1864 (by decide) rfl ?_
    refine x_aload_n C1 dL_law_1866 rfl 3 rfl ?_
    refine x_arefn C1 dL_law_1867 rfl 1 rfl ?_
    refine x_iload C1 dL_law_1868 5 rfl ?_
    refine x_iconst C1 (1 : Int32) (by decide) dL_law_1870 ?_
    refine x_iadd C1 dL_law_1871 ?_
    refine x_sld C1 hX hbl hbA (8 * i + 1) (nI_add (8 * i) 1) (by omega) hL dL_law_1872 ?_
    refine x_callV C1 sh_87 (by decide) rfl [.int (xs (8 * i + 1))] (c_X9_errorsIn l V hV (insA σ) (xs (8 * i + 1)) (mV_E (em_errorsIn) h.1.V)) (cwV 1 C1.2.2.2.2.1 gL_law_X9_errorsIn rfl rfl rfl (by decide +kernel) ⟨Nat.le_of_ble_eq_true rfl, Nat.le_of_ble_eq_true rfl⟩) rfl rfl (Nat.le_of_ble_eq_true rfl) dL_law_1873 ⟨hcs.1, hcs.2⟩ (x_kC (fun y u h1 h2 => ?_))
    have hy := (h1 sp.1).1
    rw [(h1 sp.1).2]
    refine x_nm (fun yv hyv => ?_)
    refine x_istore C1 [(6, .int yv), (5, .int (0 : Int32)), (0, .ref b), (1, ra V 0), (2, ra V 87), (3, .ref lo), (4, .int (nI (8 * i)))] dL_law_1876 (by decide) rfl ?_
    refine x_aload_n C1 dL_law_1878 rfl 4 rfl ?_
    refine x_callV C1 sh_87 (by decide) rfl [] (c_X9_thrown l V hV _) (cwV 0 C1.2.2.2.2.1 gL_law_X9_thrown rfl rfl rfl (by decide +kernel) ⟨Nat.le_of_ble_eq_true rfl, Nat.le_of_ble_eq_true rfl⟩) rfl rfl (Nat.le_of_ble_eq_true rfl) dL_law_1879 ⟨hcs.1, hcs.2⟩ (x_kI ?_)
    refine x_v (y := (0 : Int32)) sp.2.1 ?_
    refine x_iload C1 dL_law_1882 1 rfl ?_
    refine x_icmp_eq C1 1889 dL_law_1884 rfl (fun _ => ?_) (fun hq => absurd rfl hq)
    refine x_iload C1 dL_law_1889 1 rfl ?_
    refine x_if_ne C1 1906 dL_law_1891 rfl (fun hq => absurd rfl hq) (fun _ => ?_)
    refine x_arefn C1 dL_law_1894 rfl 5 rfl ?_
    refine x_iconst C1 (0 : Int32) (by decide) dL_law_1895 ?_
    refine x_lald C1 dL_law_1896 ?_
    refine x_iload C1 dL_law_1897 0 rfl ?_
    have hg0 := (hg hk).trans (congrArg Int32.toInt64 (sp.2.2.1.trans (hy.symm.trans hyv.symm)))
    refine x_i2l C1 dL_law_1899 ?_
    refine x_lcmp C1 dL_law_1900 ?_
    refine x_v (y := (0 : Int32)) (by rw [hg0]; exact lg_cmp_s _) ?_
    refine x_if_eq C1 1906 dL_law_1901 rfl (fun _ => ?_) (fun hq => absurd rfl hq)
    refine x_goto C1 1977 dL_law_1906 rfl ?_
    refine x_lv [2, 3, 4, 5, 6] [(0, .ref b), (1, ra V 0), (2, ra V 87), (3, .ref lo), (4, .int (nI (8 * i)))] rfl ?_
    exact J _ g' sp.2.2.2
  · rw [if_neg hk] at hσ
    rw [hσ]
    have sp := (st_errorsIn h (xs (8 * i + 1))).2 hk
    refine x_istore C1 [(5, .int (nI (kEIn σ (xs (8 * i + 1))))), (0, .ref b), (1, ra V 0), (2, ra V 87), (3, .ref lo), (4, .int (nI (8 * i)))] dL_law_1864 (by decide) rfl ?_
    refine x_aload_n C1 dL_law_1866 rfl 3 rfl ?_
    refine x_arefn C1 dL_law_1867 rfl 1 rfl ?_
    refine x_iload C1 dL_law_1868 5 rfl ?_
    refine x_iconst C1 (1 : Int32) (by decide) dL_law_1870 ?_
    refine x_iadd C1 dL_law_1871 ?_
    refine x_sld C1 hX hbl hbA (8 * i + 1) (nI_add (8 * i) 1) (by omega) hL dL_law_1872 ?_
    refine x_callV C1 sh_87 (by decide) rfl [.int (xs (8 * i + 1))] (c_X9_errorsIn l V hV (σ) (xs (8 * i + 1)) (mV_E (em_rf) h.1.V)) (cwV 1 C1.2.2.2.2.1 gL_law_X9_errorsIn rfl rfl rfl (by decide +kernel) ⟨Nat.le_of_ble_eq_true rfl, Nat.le_of_ble_eq_true rfl⟩) rfl rfl (Nat.le_of_ble_eq_true rfl) dL_law_1873 ⟨hcs.1, hcs.2⟩ (x_kC (fun y u h1 h2 => ?_))
    have hu := h2 (by rw [sp.1]; exact hk)
    rw [sp.1] at hu
    rw [hu]
    refine x_nm (fun yv hyv => ?_)
    refine x_istore C1 [(6, .int yv), (5, .int (nI (kEIn σ (xs (8 * i + 1))))), (0, .ref b), (1, ra V 0), (2, ra V 87), (3, .ref lo), (4, .int (nI (8 * i)))] dL_law_1876 (by decide) rfl ?_
    refine x_aload_n C1 dL_law_1878 rfl 4 rfl ?_
    refine x_callV C1 sh_87 (by decide) rfl [] (c_X9_thrown l V hV _) (cwV 0 C1.2.2.2.2.1 gL_law_X9_thrown rfl rfl rfl (by decide +kernel) ⟨Nat.le_of_ble_eq_true rfl, Nat.le_of_ble_eq_true rfl⟩) rfl rfl (Nat.le_of_ble_eq_true rfl) dL_law_1879 ⟨hcs.1, hcs.2⟩ (x_kI ?_)
    refine x_v (y := (nI (kEIn σ (xs (8 * i + 1))))) (xw_at _ _ _ _) ?_
    refine x_iload C1 dL_law_1882 1 rfl ?_
    refine x_icmp_eq C1 1889 dL_law_1884 rfl (fun _ => ?_) (fun hq => absurd rfl hq)
    refine x_iload C1 dL_law_1889 1 rfl ?_
    refine x_if_ne C1 1906 dL_law_1891 rfl (fun _ => ?_) (fun hq => absurd hq (hne hk))
    refine x_goto C1 1977 dL_law_1906 rfl ?_
    refine x_lv [2, 3, 4, 5, 6] [(0, .ref b), (1, ra V 0), (2, ra V 87), (3, .ref lo), (4, .int (nI (8 * i)))] rfl ?_
    exact J _ g' sp.2

set_option maxHeartbeats 4000000 in
set_option maxRecDepth 100000 in
theorem L_addFieldOf {p : Program} {l : Launch} {e : Env} {s : State} {m : MethodId} {args : Array Value} {below : List Frame} {meth : Method} {c : Code} {V : xV} {A : Nat → Prop} {cells slots : Nat} {Q : State → Prop} {lo b L i : Nat} {xs : Nat → Int32} {gg : Nat → Int64} {σ : xS} (hlst : l.stackTraces = false) (C : XC p s m args c cL_law 9 RL wsL_law V [oc V lo gg] A) (hV : xInj V) (hO : ∀ k, k < 108 → xad V k ≠ lo) (hA : ∀ q, inO V lo q → A q) (hT : xT s) (hZ : xZ A s s.heap) (hX : va_X b L xs s s.heap) (hbl : b < s.heap.size) (hbA : ¬ A b) (hL : L < 2 ^ 31) (hi : 8 * i + 8 ≤ L) (hcs : cells + 1 ≤ room_1.cells ∧ slots + 6 ≤ room_1.slots) (h : Sm σ) (J : ∀ σ' g', Sm σ' → X p l e room_1 s m args below meth c V [oc V lo g'] A 9 (cells + 1) (slots + 6) Q σ' 1977 [(0, .ref b), (1, ra V 0), (2, ra V 87), (3, .ref lo), (4, .int (nI (8 * i)))] []) : X p l e room_1 s m args below meth c V [oc V lo gg] A 9 cells slots Q σ 921 [(0, .ref b), (1, ra V 0), (2, ra V 87), (3, .ref lo), (4, .int (nI (8 * i)))] [] := by
  refine x_aload_n C dL_law_921 rfl 1 rfl ?_
  refine x_arefn C dL_law_922 rfl 0 rfl ?_
  refine x_iload C dL_law_923 4 rfl ?_
  refine x_iconst C (1 : Int32) (by decide) dL_law_925 ?_
  refine x_iadd C dL_law_926 ?_
  refine x_sld C hX hbl hbA (8 * i + 1) (nI_add (8 * i) 1) (by omega) hL dL_law_927 ?_
  refine x_arefn C dL_law_928 rfl 0 rfl ?_
  refine x_iload C dL_law_929 4 rfl ?_
  refine x_iconst C (2 : Int32) (by decide) dL_law_931 ?_
  refine x_iadd C dL_law_932 ?_
  refine x_sld C hX hbl hbA (8 * i + 2) (nI_add (8 * i) 2) (by omega) hL dL_law_933 ?_
  refine x_arefn C dL_law_934 rfl 3 rfl ?_
  refine x_callW C hT hZ hA [ra V 0, .int (xs (8 * i + 1)), .int (xs (8 * i + 2)), .ref lo] (c_L_addFieldOf l hlst V hV lo hO σ gg (xs (8 * i + 1)) (xs (8 * i + 2))) (vx_cwSW 4 C.2.2.2.2.1 gL_law_L_addFieldOf rfl rfl rfl (by decide +kernel) ⟨Nat.le_of_ble_eq_true rfl, Nat.le_of_ble_eq_true rfl⟩) rfl rfl (Nat.le_of_ble_eq_true rfl) dL_law_935 hcs (fun v σ' g' hR => ?_)
  obtain ⟨rfl, hσ, hg, hne⟩ := hR
  have C1 := XC_oc C hV hO hA g'
  by_cases hk : kFOf σ (xs (8 * i + 1)) (xs (8 * i + 2)) = 0
  · rw [if_pos hk] at hσ
    rw [hσ]
    have sp := (st_addFieldOf h (xs (8 * i + 1)) (xs (8 * i + 2))).1 hk
    refine x_v (y := (0 : Int32)) (by rw [hk, nI_0]) ?_
    refine x_istore C1 [(5, .int (0 : Int32)), (0, .ref b), (1, ra V 0), (2, ra V 87), (3, .ref lo), (4, .int (nI (8 * i)))] dL_law_938 (by decide) rfl ?_
    refine x_aload_n C1 dL_law_940 rfl 3 rfl ?_
    refine x_arefn C1 dL_law_941 rfl 1 rfl ?_
    refine x_iload C1 dL_law_942 5 rfl ?_
    refine x_iconst C1 (1 : Int32) (by decide) dL_law_944 ?_
    refine x_iadd C1 dL_law_945 ?_
    refine x_sld C1 hX hbl hbA (8 * i + 1) (nI_add (8 * i) 1) (by omega) hL dL_law_946 ?_
    refine x_arefn C1 dL_law_947 rfl 1 rfl ?_
    refine x_iload C1 dL_law_948 5 rfl ?_
    refine x_iconst C1 (2 : Int32) (by decide) dL_law_950 ?_
    refine x_iadd C1 dL_law_951 ?_
    refine x_sld C1 hX hbl hbA (8 * i + 2) (nI_add (8 * i) 2) (by omega) hL dL_law_952 ?_
    refine x_callV C1 sh_87 (by decide) rfl [.int (xs (8 * i + 1)), .int (xs (8 * i + 2))] (c_X9_addFieldOf l V hV (eSet (eApp σ 4 (vAt 50 (σ 51) (xs (8 * i + 1))) (xs (8 * i + 2))) (σ 205 0) (xs (8 * i + 1)) (-1) (-1)) (xs (8 * i + 1)) (xs (8 * i + 2)) (mV_E (em_addFieldOf) h.1.V)) (cwV 2 C1.2.2.2.2.1 gL_law_X9_addFieldOf rfl rfl rfl (by decide +kernel) ⟨Nat.le_of_ble_eq_true rfl, Nat.le_of_ble_eq_true rfl⟩) rfl rfl (Nat.le_of_ble_eq_true rfl) dL_law_953 ⟨hcs.1, hcs.2⟩ (x_kC (fun y u h1 h2 => ?_))
    obtain ⟨rfl, rfl⟩ := h1 sp.1
    refine x_nm (fun yv hyv => ?_)
    refine x_istore C1 [(6, .int yv), (5, .int (0 : Int32)), (0, .ref b), (1, ra V 0), (2, ra V 87), (3, .ref lo), (4, .int (nI (8 * i)))] dL_law_956 (by decide) rfl ?_
    refine x_aload_n C1 dL_law_958 rfl 4 rfl ?_
    refine x_callV C1 sh_87 (by decide) rfl [] (c_X9_thrown l V hV _) (cwV 0 C1.2.2.2.2.1 gL_law_X9_thrown rfl rfl rfl (by decide +kernel) ⟨Nat.le_of_ble_eq_true rfl, Nat.le_of_ble_eq_true rfl⟩) rfl rfl (Nat.le_of_ble_eq_true rfl) dL_law_959 ⟨hcs.1, hcs.2⟩ (x_kI ?_)
    refine x_v (y := (0 : Int32)) sp.2.1 ?_
    refine x_iload C1 dL_law_962 1 rfl ?_
    refine x_icmp_eq C1 969 dL_law_964 rfl (fun _ => ?_) (fun hq => absurd rfl hq)
    refine x_iload C1 dL_law_969 1 rfl ?_
    refine x_if_ne C1 986 dL_law_971 rfl (fun hq => absurd rfl hq) (fun _ => ?_)
    refine x_arefn C1 dL_law_974 rfl 5 rfl ?_
    refine x_iconst C1 (0 : Int32) (by decide) dL_law_975 ?_
    refine x_lald C1 dL_law_976 ?_
    refine x_iload C1 dL_law_977 0 rfl ?_
    have hg0 := (hg hk).trans (congrArg Int32.toInt64 (sp.2.2.1.trans hyv.symm))
    refine x_i2l C1 dL_law_979 ?_
    refine x_lcmp C1 dL_law_980 ?_
    refine x_v (y := (0 : Int32)) (by rw [hg0]; exact lg_cmp_s _) ?_
    refine x_if_eq C1 986 dL_law_981 rfl (fun _ => ?_) (fun hq => absurd rfl hq)
    refine x_goto C1 1977 dL_law_986 rfl ?_
    refine x_lv [2, 3, 4, 5, 6] [(0, .ref b), (1, ra V 0), (2, ra V 87), (3, .ref lo), (4, .int (nI (8 * i)))] rfl ?_
    exact J _ g' sp.2.2.2
  · rw [if_neg hk] at hσ
    rw [hσ]
    have sp := (st_addFieldOf h (xs (8 * i + 1)) (xs (8 * i + 2))).2 hk
    refine x_istore C1 [(5, .int (nI (kFOf σ (xs (8 * i + 1)) (xs (8 * i + 2))))), (0, .ref b), (1, ra V 0), (2, ra V 87), (3, .ref lo), (4, .int (nI (8 * i)))] dL_law_938 (by decide) rfl ?_
    refine x_aload_n C1 dL_law_940 rfl 3 rfl ?_
    refine x_arefn C1 dL_law_941 rfl 1 rfl ?_
    refine x_iload C1 dL_law_942 5 rfl ?_
    refine x_iconst C1 (1 : Int32) (by decide) dL_law_944 ?_
    refine x_iadd C1 dL_law_945 ?_
    refine x_sld C1 hX hbl hbA (8 * i + 1) (nI_add (8 * i) 1) (by omega) hL dL_law_946 ?_
    refine x_arefn C1 dL_law_947 rfl 1 rfl ?_
    refine x_iload C1 dL_law_948 5 rfl ?_
    refine x_iconst C1 (2 : Int32) (by decide) dL_law_950 ?_
    refine x_iadd C1 dL_law_951 ?_
    refine x_sld C1 hX hbl hbA (8 * i + 2) (nI_add (8 * i) 2) (by omega) hL dL_law_952 ?_
    refine x_callV C1 sh_87 (by decide) rfl [.int (xs (8 * i + 1)), .int (xs (8 * i + 2))] (c_X9_addFieldOf l V hV (σ) (xs (8 * i + 1)) (xs (8 * i + 2)) (mV_E (em_rf) h.1.V)) (cwV 2 C1.2.2.2.2.1 gL_law_X9_addFieldOf rfl rfl rfl (by decide +kernel) ⟨Nat.le_of_ble_eq_true rfl, Nat.le_of_ble_eq_true rfl⟩) rfl rfl (Nat.le_of_ble_eq_true rfl) dL_law_953 ⟨hcs.1, hcs.2⟩ (x_kC (fun y u h1 h2 => ?_))
    have hu := h2 (by rw [sp.1]; exact hk)
    rw [sp.1] at hu
    subst hu
    refine x_nm (fun yv hyv => ?_)
    refine x_istore C1 [(6, .int yv), (5, .int (nI (kFOf σ (xs (8 * i + 1)) (xs (8 * i + 2))))), (0, .ref b), (1, ra V 0), (2, ra V 87), (3, .ref lo), (4, .int (nI (8 * i)))] dL_law_956 (by decide) rfl ?_
    refine x_aload_n C1 dL_law_958 rfl 4 rfl ?_
    refine x_callV C1 sh_87 (by decide) rfl [] (c_X9_thrown l V hV _) (cwV 0 C1.2.2.2.2.1 gL_law_X9_thrown rfl rfl rfl (by decide +kernel) ⟨Nat.le_of_ble_eq_true rfl, Nat.le_of_ble_eq_true rfl⟩) rfl rfl (Nat.le_of_ble_eq_true rfl) dL_law_959 ⟨hcs.1, hcs.2⟩ (x_kI ?_)
    refine x_v (y := (nI (kFOf σ (xs (8 * i + 1)) (xs (8 * i + 2))))) (xw_at _ _ _ _) ?_
    refine x_iload C1 dL_law_962 1 rfl ?_
    refine x_icmp_eq C1 969 dL_law_964 rfl (fun _ => ?_) (fun hq => absurd rfl hq)
    refine x_iload C1 dL_law_969 1 rfl ?_
    refine x_if_ne C1 986 dL_law_971 rfl (fun _ => ?_) (fun hq => absurd hq (hne hk))
    refine x_goto C1 1977 dL_law_986 rfl ?_
    refine x_lv [2, 3, 4, 5, 6] [(0, .ref b), (1, ra V 0), (2, ra V 87), (3, .ref lo), (4, .int (nI (8 * i)))] rfl ?_
    exact J _ g' sp.2
set_option maxHeartbeats 4000000 in
set_option maxRecDepth 100000 in
theorem L_addCall {p : Program} {l : Launch} {e : Env} {s : State} {m : MethodId} {args : Array Value} {below : List Frame} {meth : Method} {c : Code} {V : xV} {A : Nat → Prop} {cells slots : Nat} {Q : State → Prop} {lo b L i : Nat} {xs : Nat → Int32} {gg : Nat → Int64} {σ : xS} (hlst : l.stackTraces = false) (C : XC p s m args c cL_law 9 RL wsL_law V [oc V lo gg] A) (hV : xInj V) (hO : ∀ k, k < 108 → xad V k ≠ lo) (hA : ∀ q, inO V lo q → A q) (hT : xT s) (hZ : xZ A s s.heap) (hX : va_X b L xs s s.heap) (hbl : b < s.heap.size) (hbA : ¬ A b) (hL : L < 2 ^ 31) (hi : 8 * i + 8 ≤ L) (hcs : cells + 1 ≤ room_1.cells ∧ slots + 6 ≤ room_1.slots) (h : Sm σ) (J : ∀ σ' g', Sm σ' → X p l e room_1 s m args below meth c V [oc V lo g'] A 9 (cells + 1) (slots + 6) Q σ' 1977 [(0, .ref b), (1, ra V 0), (2, ra V 87), (3, .ref lo), (4, .int (nI (8 * i)))] []) : X p l e room_1 s m args below meth c V [oc V lo gg] A 9 cells slots Q σ 989 [(0, .ref b), (1, ra V 0), (2, ra V 87), (3, .ref lo), (4, .int (nI (8 * i)))] [] := by
  refine x_aload_n C dL_law_989 rfl 1 rfl ?_
  refine x_arefn C dL_law_990 rfl 0 rfl ?_
  refine x_iload C dL_law_991 4 rfl ?_
  refine x_iconst C (1 : Int32) (by decide) dL_law_993 ?_
  refine x_iadd C dL_law_994 ?_
  refine x_sld C hX hbl hbA (8 * i + 1) (nI_add (8 * i) 1) (by omega) hL dL_law_995 ?_
  refine x_arefn C dL_law_996 rfl 0 rfl ?_
  refine x_iload C dL_law_997 4 rfl ?_
  refine x_iconst C (2 : Int32) (by decide) dL_law_999 ?_
  refine x_iadd C dL_law_1000 ?_
  refine x_sld C hX hbl hbA (8 * i + 2) (nI_add (8 * i) 2) (by omega) hL dL_law_1001 ?_
  refine x_arefn C dL_law_1002 rfl 0 rfl ?_
  refine x_iload C dL_law_1003 4 rfl ?_
  refine x_iconst C (3 : Int32) (by decide) dL_law_1005 ?_
  refine x_iadd C dL_law_1006 ?_
  refine x_sld C hX hbl hbA (8 * i + 3) (nI_add (8 * i) 3) (by omega) hL dL_law_1007 ?_
  refine x_arefn C dL_law_1008 rfl 0 rfl ?_
  refine x_iload C dL_law_1009 4 rfl ?_
  refine x_iconst C (4 : Int32) (by decide) dL_law_1011 ?_
  refine x_iadd C dL_law_1012 ?_
  refine x_sld C hX hbl hbA (8 * i + 4) (nI_add (8 * i) 4) (by omega) hL dL_law_1013 ?_
  refine x_arefn C dL_law_1014 rfl 3 rfl ?_
  refine x_callW C hT hZ hA [ra V 0, .int (xs (8 * i + 1)), .int (xs (8 * i + 2)), .int (xs (8 * i + 3)), .int (xs (8 * i + 4)), .ref lo] (c_L_addCall l hlst V hV lo hO σ gg (xs (8 * i + 1)) (xs (8 * i + 2)) (xs (8 * i + 3)) (xs (8 * i + 4))) (vx_cwSW 6 C.2.2.2.2.1 gL_law_L_addCall rfl rfl rfl (by decide +kernel) ⟨Nat.le_of_ble_eq_true rfl, Nat.le_of_ble_eq_true rfl⟩) rfl rfl (Nat.le_of_ble_eq_true rfl) dL_law_1015 hcs (fun v σ' g' hR => ?_)
  obtain ⟨rfl, hσ, hg, hne⟩ := hR
  have C1 := XC_oc C hV hO hA g'
  by_cases hk : kCall σ (xs (8 * i + 1)) (xs (8 * i + 2)) (xs (8 * i + 3)) (xs (8 * i + 4)) = 0
  · rw [if_pos hk] at hσ
    rw [hσ]
    have sp := (st_addCall h (xs (8 * i + 1)) (xs (8 * i + 2)) (xs (8 * i + 3)) (xs (8 * i + 4))).1 hk
    refine x_v (y := (0 : Int32)) (by rw [hk, nI_0]) ?_
    refine x_istore C1 [(5, .int (0 : Int32)), (0, .ref b), (1, ra V 0), (2, ra V 87), (3, .ref lo), (4, .int (nI (8 * i)))] dL_law_1018 (by decide) rfl ?_
    refine x_aload_n C1 dL_law_1020 rfl 3 rfl ?_
    refine x_arefn C1 dL_law_1021 rfl 1 rfl ?_
    refine x_iload C1 dL_law_1022 5 rfl ?_
    refine x_iconst C1 (1 : Int32) (by decide) dL_law_1024 ?_
    refine x_iadd C1 dL_law_1025 ?_
    refine x_sld C1 hX hbl hbA (8 * i + 1) (nI_add (8 * i) 1) (by omega) hL dL_law_1026 ?_
    refine x_arefn C1 dL_law_1027 rfl 1 rfl ?_
    refine x_iload C1 dL_law_1028 5 rfl ?_
    refine x_iconst C1 (2 : Int32) (by decide) dL_law_1030 ?_
    refine x_iadd C1 dL_law_1031 ?_
    refine x_sld C1 hX hbl hbA (8 * i + 2) (nI_add (8 * i) 2) (by omega) hL dL_law_1032 ?_
    refine x_arefn C1 dL_law_1033 rfl 1 rfl ?_
    refine x_iload C1 dL_law_1034 5 rfl ?_
    refine x_iconst C1 (3 : Int32) (by decide) dL_law_1036 ?_
    refine x_iadd C1 dL_law_1037 ?_
    refine x_sld C1 hX hbl hbA (8 * i + 3) (nI_add (8 * i) 3) (by omega) hL dL_law_1038 ?_
    refine x_arefn C1 dL_law_1039 rfl 1 rfl ?_
    refine x_iload C1 dL_law_1040 5 rfl ?_
    refine x_iconst C1 (4 : Int32) (by decide) dL_law_1042 ?_
    refine x_iadd C1 dL_law_1043 ?_
    refine x_sld C1 hX hbl hbA (8 * i + 4) (nI_add (8 * i) 4) (by omega) hL dL_law_1044 ?_
    refine x_callV C1 sh_87 (by decide) rfl [.int (xs (8 * i + 1)), .int (xs (8 * i + 2)), .int (xs (8 * i + 3)), .int (xs (8 * i + 4))] (c_X9_addCall l V hV (eSet (eApp σ 5 (vAt 50 (σ 51) (xs (8 * i + 1))) (xs (8 * i + 2))) (σ 205 0) (xs (8 * i + 1)) (xs (8 * i + 3)) (xs (8 * i + 4))) (xs (8 * i + 1)) (xs (8 * i + 2)) (xs (8 * i + 3)) (xs (8 * i + 4)) (mV_E (em_addCall) h.1.V)) (cwV 4 C1.2.2.2.2.1 gL_law_X9_addCall rfl rfl rfl (by decide +kernel) ⟨Nat.le_of_ble_eq_true rfl, Nat.le_of_ble_eq_true rfl⟩) rfl rfl (Nat.le_of_ble_eq_true rfl) dL_law_1045 ⟨hcs.1, hcs.2⟩ (x_kC (fun y u h1 h2 => ?_))
    obtain ⟨rfl, rfl⟩ := h1 sp.1
    refine x_nm (fun yv hyv => ?_)
    refine x_istore C1 [(6, .int yv), (5, .int (0 : Int32)), (0, .ref b), (1, ra V 0), (2, ra V 87), (3, .ref lo), (4, .int (nI (8 * i)))] dL_law_1048 (by decide) rfl ?_
    refine x_aload_n C1 dL_law_1050 rfl 4 rfl ?_
    refine x_callV C1 sh_87 (by decide) rfl [] (c_X9_thrown l V hV _) (cwV 0 C1.2.2.2.2.1 gL_law_X9_thrown rfl rfl rfl (by decide +kernel) ⟨Nat.le_of_ble_eq_true rfl, Nat.le_of_ble_eq_true rfl⟩) rfl rfl (Nat.le_of_ble_eq_true rfl) dL_law_1051 ⟨hcs.1, hcs.2⟩ (x_kI ?_)
    refine x_v (y := (0 : Int32)) sp.2.1 ?_
    refine x_iload C1 dL_law_1054 1 rfl ?_
    refine x_icmp_eq C1 1061 dL_law_1056 rfl (fun _ => ?_) (fun hq => absurd rfl hq)
    refine x_iload C1 dL_law_1061 1 rfl ?_
    refine x_if_ne C1 1078 dL_law_1063 rfl (fun hq => absurd rfl hq) (fun _ => ?_)
    refine x_arefn C1 dL_law_1066 rfl 5 rfl ?_
    refine x_iconst C1 (0 : Int32) (by decide) dL_law_1067 ?_
    refine x_lald C1 dL_law_1068 ?_
    refine x_iload C1 dL_law_1069 0 rfl ?_
    have hg0 := (hg hk).trans (congrArg Int32.toInt64 (sp.2.2.1.trans hyv.symm))
    refine x_i2l C1 dL_law_1071 ?_
    refine x_lcmp C1 dL_law_1072 ?_
    refine x_v (y := (0 : Int32)) (by rw [hg0]; exact lg_cmp_s _) ?_
    refine x_if_eq C1 1078 dL_law_1073 rfl (fun _ => ?_) (fun hq => absurd rfl hq)
    refine x_goto C1 1977 dL_law_1078 rfl ?_
    refine x_lv [2, 3, 4, 5, 6] [(0, .ref b), (1, ra V 0), (2, ra V 87), (3, .ref lo), (4, .int (nI (8 * i)))] rfl ?_
    exact J _ g' sp.2.2.2
  · rw [if_neg hk] at hσ
    rw [hσ]
    have sp := (st_addCall h (xs (8 * i + 1)) (xs (8 * i + 2)) (xs (8 * i + 3)) (xs (8 * i + 4))).2 hk
    refine x_istore C1 [(5, .int (nI (kCall σ (xs (8 * i + 1)) (xs (8 * i + 2)) (xs (8 * i + 3)) (xs (8 * i + 4))))), (0, .ref b), (1, ra V 0), (2, ra V 87), (3, .ref lo), (4, .int (nI (8 * i)))] dL_law_1018 (by decide) rfl ?_
    refine x_aload_n C1 dL_law_1020 rfl 3 rfl ?_
    refine x_arefn C1 dL_law_1021 rfl 1 rfl ?_
    refine x_iload C1 dL_law_1022 5 rfl ?_
    refine x_iconst C1 (1 : Int32) (by decide) dL_law_1024 ?_
    refine x_iadd C1 dL_law_1025 ?_
    refine x_sld C1 hX hbl hbA (8 * i + 1) (nI_add (8 * i) 1) (by omega) hL dL_law_1026 ?_
    refine x_arefn C1 dL_law_1027 rfl 1 rfl ?_
    refine x_iload C1 dL_law_1028 5 rfl ?_
    refine x_iconst C1 (2 : Int32) (by decide) dL_law_1030 ?_
    refine x_iadd C1 dL_law_1031 ?_
    refine x_sld C1 hX hbl hbA (8 * i + 2) (nI_add (8 * i) 2) (by omega) hL dL_law_1032 ?_
    refine x_arefn C1 dL_law_1033 rfl 1 rfl ?_
    refine x_iload C1 dL_law_1034 5 rfl ?_
    refine x_iconst C1 (3 : Int32) (by decide) dL_law_1036 ?_
    refine x_iadd C1 dL_law_1037 ?_
    refine x_sld C1 hX hbl hbA (8 * i + 3) (nI_add (8 * i) 3) (by omega) hL dL_law_1038 ?_
    refine x_arefn C1 dL_law_1039 rfl 1 rfl ?_
    refine x_iload C1 dL_law_1040 5 rfl ?_
    refine x_iconst C1 (4 : Int32) (by decide) dL_law_1042 ?_
    refine x_iadd C1 dL_law_1043 ?_
    refine x_sld C1 hX hbl hbA (8 * i + 4) (nI_add (8 * i) 4) (by omega) hL dL_law_1044 ?_
    refine x_callV C1 sh_87 (by decide) rfl [.int (xs (8 * i + 1)), .int (xs (8 * i + 2)), .int (xs (8 * i + 3)), .int (xs (8 * i + 4))] (c_X9_addCall l V hV (σ) (xs (8 * i + 1)) (xs (8 * i + 2)) (xs (8 * i + 3)) (xs (8 * i + 4)) (mV_E (em_rf) h.1.V)) (cwV 4 C1.2.2.2.2.1 gL_law_X9_addCall rfl rfl rfl (by decide +kernel) ⟨Nat.le_of_ble_eq_true rfl, Nat.le_of_ble_eq_true rfl⟩) rfl rfl (Nat.le_of_ble_eq_true rfl) dL_law_1045 ⟨hcs.1, hcs.2⟩ (x_kC (fun y u h1 h2 => ?_))
    have hu := h2 (by rw [sp.1]; exact hk)
    rw [sp.1] at hu
    subst hu
    refine x_nm (fun yv hyv => ?_)
    refine x_istore C1 [(6, .int yv), (5, .int (nI (kCall σ (xs (8 * i + 1)) (xs (8 * i + 2)) (xs (8 * i + 3)) (xs (8 * i + 4))))), (0, .ref b), (1, ra V 0), (2, ra V 87), (3, .ref lo), (4, .int (nI (8 * i)))] dL_law_1048 (by decide) rfl ?_
    refine x_aload_n C1 dL_law_1050 rfl 4 rfl ?_
    refine x_callV C1 sh_87 (by decide) rfl [] (c_X9_thrown l V hV _) (cwV 0 C1.2.2.2.2.1 gL_law_X9_thrown rfl rfl rfl (by decide +kernel) ⟨Nat.le_of_ble_eq_true rfl, Nat.le_of_ble_eq_true rfl⟩) rfl rfl (Nat.le_of_ble_eq_true rfl) dL_law_1051 ⟨hcs.1, hcs.2⟩ (x_kI ?_)
    refine x_v (y := (nI (kCall σ (xs (8 * i + 1)) (xs (8 * i + 2)) (xs (8 * i + 3)) (xs (8 * i + 4))))) (xw_at _ _ _ _) ?_
    refine x_iload C1 dL_law_1054 1 rfl ?_
    refine x_icmp_eq C1 1061 dL_law_1056 rfl (fun _ => ?_) (fun hq => absurd rfl hq)
    refine x_iload C1 dL_law_1061 1 rfl ?_
    refine x_if_ne C1 1078 dL_law_1063 rfl (fun _ => ?_) (fun hq => absurd hq (hne hk))
    refine x_goto C1 1977 dL_law_1078 rfl ?_
    refine x_lv [2, 3, 4, 5, 6] [(0, .ref b), (1, ra V 0), (2, ra V 87), (3, .ref lo), (4, .int (nI (8 * i)))] rfl ?_
    exact J _ g' sp.2
set_option maxHeartbeats 4000000 in
set_option maxRecDepth 100000 in
theorem L_addResult {p : Program} {l : Launch} {e : Env} {s : State} {m : MethodId} {args : Array Value} {below : List Frame} {meth : Method} {c : Code} {V : xV} {A : Nat → Prop} {cells slots : Nat} {Q : State → Prop} {lo b L i : Nat} {xs : Nat → Int32} {gg : Nat → Int64} {σ : xS} (hlst : l.stackTraces = false) (C : XC p s m args c cL_law 9 RL wsL_law V [oc V lo gg] A) (hV : xInj V) (hO : ∀ k, k < 108 → xad V k ≠ lo) (hA : ∀ q, inO V lo q → A q) (hT : xT s) (hZ : xZ A s s.heap) (hX : va_X b L xs s s.heap) (hbl : b < s.heap.size) (hbA : ¬ A b) (hL : L < 2 ^ 31) (hi : 8 * i + 8 ≤ L) (hcs : cells + 1 ≤ room_1.cells ∧ slots + 6 ≤ room_1.slots) (h : Sm σ) (J : ∀ σ' g', Sm σ' → X p l e room_1 s m args below meth c V [oc V lo g'] A 9 (cells + 1) (slots + 6) Q σ' 1977 [(0, .ref b), (1, ra V 0), (2, ra V 87), (3, .ref lo), (4, .int (nI (8 * i)))] []) : X p l e room_1 s m args below meth c V [oc V lo gg] A 9 cells slots Q σ 1081 [(0, .ref b), (1, ra V 0), (2, ra V 87), (3, .ref lo), (4, .int (nI (8 * i)))] [] := by
  refine x_aload_n C dL_law_1081 rfl 1 rfl ?_
  refine x_arefn C dL_law_1082 rfl 0 rfl ?_
  refine x_iload C dL_law_1083 4 rfl ?_
  refine x_iconst C (1 : Int32) (by decide) dL_law_1085 ?_
  refine x_iadd C dL_law_1086 ?_
  refine x_sld C hX hbl hbA (8 * i + 1) (nI_add (8 * i) 1) (by omega) hL dL_law_1087 ?_
  refine x_arefn C dL_law_1088 rfl 0 rfl ?_
  refine x_iload C dL_law_1089 4 rfl ?_
  refine x_iconst C (2 : Int32) (by decide) dL_law_1091 ?_
  refine x_iadd C dL_law_1092 ?_
  refine x_sld C hX hbl hbA (8 * i + 2) (nI_add (8 * i) 2) (by omega) hL dL_law_1093 ?_
  refine x_arefn C dL_law_1094 rfl 0 rfl ?_
  refine x_iload C dL_law_1095 4 rfl ?_
  refine x_iconst C (3 : Int32) (by decide) dL_law_1097 ?_
  refine x_iadd C dL_law_1098 ?_
  refine x_sld C hX hbl hbA (8 * i + 3) (nI_add (8 * i) 3) (by omega) hL dL_law_1099 ?_
  refine x_arefn C dL_law_1100 rfl 3 rfl ?_
  refine x_callW C hT hZ hA [ra V 0, .int (xs (8 * i + 1)), .int (xs (8 * i + 2)), .int (xs (8 * i + 3)), .ref lo] (c_L_addResult l hlst V hV lo hO σ gg (xs (8 * i + 1)) (xs (8 * i + 2)) (xs (8 * i + 3))) (vx_cwSW 5 C.2.2.2.2.1 gL_law_L_addResult rfl rfl rfl (by decide +kernel) ⟨Nat.le_of_ble_eq_true rfl, Nat.le_of_ble_eq_true rfl⟩) rfl rfl (Nat.le_of_ble_eq_true rfl) dL_law_1101 hcs (fun v σ' g' hR => ?_)
  obtain ⟨rfl, hσ, hg, hne⟩ := hR
  have C1 := XC_oc C hV hO hA g'
  by_cases hk : kRes σ (xs (8 * i + 1)) (xs (8 * i + 2)) (xs (8 * i + 3)) = 0
  · rw [if_pos hk] at hσ
    rw [hσ]
    have sp := (st_addResult h (xs (8 * i + 1)) (xs (8 * i + 2)) (xs (8 * i + 3))).1 hk
    refine x_v (y := (0 : Int32)) (by rw [hk, nI_0]) ?_
    refine x_istore C1 [(5, .int (0 : Int32)), (0, .ref b), (1, ra V 0), (2, ra V 87), (3, .ref lo), (4, .int (nI (8 * i)))] dL_law_1104 (by decide) rfl ?_
    refine x_aload_n C1 dL_law_1106 rfl 3 rfl ?_
    refine x_arefn C1 dL_law_1107 rfl 1 rfl ?_
    refine x_iload C1 dL_law_1108 5 rfl ?_
    refine x_iconst C1 (1 : Int32) (by decide) dL_law_1110 ?_
    refine x_iadd C1 dL_law_1111 ?_
    refine x_sld C1 hX hbl hbA (8 * i + 1) (nI_add (8 * i) 1) (by omega) hL dL_law_1112 ?_
    refine x_arefn C1 dL_law_1113 rfl 1 rfl ?_
    refine x_iload C1 dL_law_1114 5 rfl ?_
    refine x_iconst C1 (2 : Int32) (by decide) dL_law_1116 ?_
    refine x_iadd C1 dL_law_1117 ?_
    refine x_sld C1 hX hbl hbA (8 * i + 2) (nI_add (8 * i) 2) (by omega) hL dL_law_1118 ?_
    refine x_arefn C1 dL_law_1119 rfl 1 rfl ?_
    refine x_iload C1 dL_law_1120 5 rfl ?_
    refine x_iconst C1 (3 : Int32) (by decide) dL_law_1122 ?_
    refine x_iadd C1 dL_law_1123 ?_
    refine x_sld C1 hX hbl hbA (8 * i + 3) (nI_add (8 * i) 3) (by omega) hL dL_law_1124 ?_
    refine x_callV C1 sh_87 (by decide) rfl [.int (xs (8 * i + 1)), .int (xs (8 * i + 2)), .int (xs (8 * i + 3))] (c_X9_addResult l V hV (vPut (cApp σ 60 16 204 (xs (8 * i + 2)) (xs (8 * i + 3))) 68 16 (σ 204 0) (xs (8 * i + 1))) (xs (8 * i + 1)) (xs (8 * i + 2)) (xs (8 * i + 3)) (mV_E (em_addResult) h.1.V)) (cwV 3 C1.2.2.2.2.1 gL_law_X9_addResult rfl rfl rfl (by decide +kernel) ⟨Nat.le_of_ble_eq_true rfl, Nat.le_of_ble_eq_true rfl⟩) rfl rfl (Nat.le_of_ble_eq_true rfl) dL_law_1125 ⟨hcs.1, hcs.2⟩ (x_kC (fun y u h1 h2 => ?_))
    obtain ⟨rfl, rfl⟩ := h1 sp.1
    refine x_nm (fun yv hyv => ?_)
    refine x_istore C1 [(6, .int yv), (5, .int (0 : Int32)), (0, .ref b), (1, ra V 0), (2, ra V 87), (3, .ref lo), (4, .int (nI (8 * i)))] dL_law_1128 (by decide) rfl ?_
    refine x_aload_n C1 dL_law_1130 rfl 4 rfl ?_
    refine x_callV C1 sh_87 (by decide) rfl [] (c_X9_thrown l V hV _) (cwV 0 C1.2.2.2.2.1 gL_law_X9_thrown rfl rfl rfl (by decide +kernel) ⟨Nat.le_of_ble_eq_true rfl, Nat.le_of_ble_eq_true rfl⟩) rfl rfl (Nat.le_of_ble_eq_true rfl) dL_law_1131 ⟨hcs.1, hcs.2⟩ (x_kI ?_)
    refine x_v (y := (0 : Int32)) sp.2.1 ?_
    refine x_iload C1 dL_law_1134 1 rfl ?_
    refine x_icmp_eq C1 1141 dL_law_1136 rfl (fun _ => ?_) (fun hq => absurd rfl hq)
    refine x_iload C1 dL_law_1141 1 rfl ?_
    refine x_if_ne C1 1158 dL_law_1143 rfl (fun hq => absurd rfl hq) (fun _ => ?_)
    refine x_arefn C1 dL_law_1146 rfl 5 rfl ?_
    refine x_iconst C1 (0 : Int32) (by decide) dL_law_1147 ?_
    refine x_lald C1 dL_law_1148 ?_
    refine x_iload C1 dL_law_1149 0 rfl ?_
    have hg0 := (hg hk).trans (congrArg Int32.toInt64 (sp.2.2.1.trans hyv.symm))
    refine x_i2l C1 dL_law_1151 ?_
    refine x_lcmp C1 dL_law_1152 ?_
    refine x_v (y := (0 : Int32)) (by rw [hg0]; exact lg_cmp_s _) ?_
    refine x_if_eq C1 1158 dL_law_1153 rfl (fun _ => ?_) (fun hq => absurd rfl hq)
    refine x_goto C1 1977 dL_law_1158 rfl ?_
    refine x_lv [2, 3, 4, 5, 6] [(0, .ref b), (1, ra V 0), (2, ra V 87), (3, .ref lo), (4, .int (nI (8 * i)))] rfl ?_
    exact J _ g' sp.2.2.2
  · rw [if_neg hk] at hσ
    rw [hσ]
    have sp := (st_addResult h (xs (8 * i + 1)) (xs (8 * i + 2)) (xs (8 * i + 3))).2 hk
    refine x_istore C1 [(5, .int (nI (kRes σ (xs (8 * i + 1)) (xs (8 * i + 2)) (xs (8 * i + 3))))), (0, .ref b), (1, ra V 0), (2, ra V 87), (3, .ref lo), (4, .int (nI (8 * i)))] dL_law_1104 (by decide) rfl ?_
    refine x_aload_n C1 dL_law_1106 rfl 3 rfl ?_
    refine x_arefn C1 dL_law_1107 rfl 1 rfl ?_
    refine x_iload C1 dL_law_1108 5 rfl ?_
    refine x_iconst C1 (1 : Int32) (by decide) dL_law_1110 ?_
    refine x_iadd C1 dL_law_1111 ?_
    refine x_sld C1 hX hbl hbA (8 * i + 1) (nI_add (8 * i) 1) (by omega) hL dL_law_1112 ?_
    refine x_arefn C1 dL_law_1113 rfl 1 rfl ?_
    refine x_iload C1 dL_law_1114 5 rfl ?_
    refine x_iconst C1 (2 : Int32) (by decide) dL_law_1116 ?_
    refine x_iadd C1 dL_law_1117 ?_
    refine x_sld C1 hX hbl hbA (8 * i + 2) (nI_add (8 * i) 2) (by omega) hL dL_law_1118 ?_
    refine x_arefn C1 dL_law_1119 rfl 1 rfl ?_
    refine x_iload C1 dL_law_1120 5 rfl ?_
    refine x_iconst C1 (3 : Int32) (by decide) dL_law_1122 ?_
    refine x_iadd C1 dL_law_1123 ?_
    refine x_sld C1 hX hbl hbA (8 * i + 3) (nI_add (8 * i) 3) (by omega) hL dL_law_1124 ?_
    refine x_callV C1 sh_87 (by decide) rfl [.int (xs (8 * i + 1)), .int (xs (8 * i + 2)), .int (xs (8 * i + 3))] (c_X9_addResult l V hV (σ) (xs (8 * i + 1)) (xs (8 * i + 2)) (xs (8 * i + 3)) (mV_E (em_rf) h.1.V)) (cwV 3 C1.2.2.2.2.1 gL_law_X9_addResult rfl rfl rfl (by decide +kernel) ⟨Nat.le_of_ble_eq_true rfl, Nat.le_of_ble_eq_true rfl⟩) rfl rfl (Nat.le_of_ble_eq_true rfl) dL_law_1125 ⟨hcs.1, hcs.2⟩ (x_kC (fun y u h1 h2 => ?_))
    have hu := h2 (by rw [sp.1]; exact hk)
    rw [sp.1] at hu
    subst hu
    refine x_nm (fun yv hyv => ?_)
    refine x_istore C1 [(6, .int yv), (5, .int (nI (kRes σ (xs (8 * i + 1)) (xs (8 * i + 2)) (xs (8 * i + 3))))), (0, .ref b), (1, ra V 0), (2, ra V 87), (3, .ref lo), (4, .int (nI (8 * i)))] dL_law_1128 (by decide) rfl ?_
    refine x_aload_n C1 dL_law_1130 rfl 4 rfl ?_
    refine x_callV C1 sh_87 (by decide) rfl [] (c_X9_thrown l V hV _) (cwV 0 C1.2.2.2.2.1 gL_law_X9_thrown rfl rfl rfl (by decide +kernel) ⟨Nat.le_of_ble_eq_true rfl, Nat.le_of_ble_eq_true rfl⟩) rfl rfl (Nat.le_of_ble_eq_true rfl) dL_law_1131 ⟨hcs.1, hcs.2⟩ (x_kI ?_)
    refine x_v (y := (nI (kRes σ (xs (8 * i + 1)) (xs (8 * i + 2)) (xs (8 * i + 3))))) (xw_at _ _ _ _) ?_
    refine x_iload C1 dL_law_1134 1 rfl ?_
    refine x_icmp_eq C1 1141 dL_law_1136 rfl (fun _ => ?_) (fun hq => absurd rfl hq)
    refine x_iload C1 dL_law_1141 1 rfl ?_
    refine x_if_ne C1 1158 dL_law_1143 rfl (fun _ => ?_) (fun hq => absurd hq (hne hk))
    refine x_goto C1 1977 dL_law_1158 rfl ?_
    refine x_lv [2, 3, 4, 5, 6] [(0, .ref b), (1, ra V 0), (2, ra V 87), (3, .ref lo), (4, .int (nI (8 * i)))] rfl ?_
    exact J _ g' sp.2
set_option maxHeartbeats 4000000 in
set_option maxRecDepth 100000 in
theorem L_setCondition {p : Program} {l : Launch} {e : Env} {s : State} {m : MethodId} {args : Array Value} {below : List Frame} {meth : Method} {c : Code} {V : xV} {A : Nat → Prop} {cells slots : Nat} {Q : State → Prop} {lo b L i : Nat} {xs : Nat → Int32} {gg : Nat → Int64} {σ : xS} (hlst : l.stackTraces = false) (C : XC p s m args c cL_law 9 RL wsL_law V [oc V lo gg] A) (hV : xInj V) (hO : ∀ k, k < 108 → xad V k ≠ lo) (hA : ∀ q, inO V lo q → A q) (hT : xT s) (hZ : xZ A s s.heap) (hX : va_X b L xs s s.heap) (hbl : b < s.heap.size) (hbA : ¬ A b) (hL : L < 2 ^ 31) (hi : 8 * i + 8 ≤ L) (hcs : cells + 1 ≤ room_1.cells ∧ slots + 6 ≤ room_1.slots) (h : Sm σ) (J : ∀ σ' g', Sm σ' → X p l e room_1 s m args below meth c V [oc V lo g'] A 9 (cells + 1) (slots + 6) Q σ' 1977 [(0, .ref b), (1, ra V 0), (2, ra V 87), (3, .ref lo), (4, .int (nI (8 * i)))] []) : X p l e room_1 s m args below meth c V [oc V lo gg] A 9 cells slots Q σ 1161 [(0, .ref b), (1, ra V 0), (2, ra V 87), (3, .ref lo), (4, .int (nI (8 * i)))] [] := by
  refine x_aload_n C dL_law_1161 rfl 1 rfl ?_
  refine x_arefn C dL_law_1162 rfl 0 rfl ?_
  refine x_iload C dL_law_1163 4 rfl ?_
  refine x_iconst C (1 : Int32) (by decide) dL_law_1165 ?_
  refine x_iadd C dL_law_1166 ?_
  refine x_sld C hX hbl hbA (8 * i + 1) (nI_add (8 * i) 1) (by omega) hL dL_law_1167 ?_
  refine x_arefn C dL_law_1168 rfl 0 rfl ?_
  refine x_iload C dL_law_1169 4 rfl ?_
  refine x_iconst C (2 : Int32) (by decide) dL_law_1171 ?_
  refine x_iadd C dL_law_1172 ?_
  refine x_sld C hX hbl hbA (8 * i + 2) (nI_add (8 * i) 2) (by omega) hL dL_law_1173 ?_
  refine x_arefn C dL_law_1174 rfl 0 rfl ?_
  refine x_iload C dL_law_1175 4 rfl ?_
  refine x_iconst C (3 : Int32) (by decide) dL_law_1177 ?_
  refine x_iadd C dL_law_1178 ?_
  refine x_sld C hX hbl hbA (8 * i + 3) (nI_add (8 * i) 3) (by omega) hL dL_law_1179 ?_
  refine x_arefn C dL_law_1180 rfl 0 rfl ?_
  refine x_iload C dL_law_1181 4 rfl ?_
  refine x_iconst C (4 : Int32) (by decide) dL_law_1183 ?_
  refine x_iadd C dL_law_1184 ?_
  refine x_sld C hX hbl hbA (8 * i + 4) (nI_add (8 * i) 4) (by omega) hL dL_law_1185 ?_
  refine x_arefn C dL_law_1186 rfl 3 rfl ?_
  refine x_callW C hT hZ hA [ra V 0, .int (xs (8 * i + 1)), .int (xs (8 * i + 2)), .int (xs (8 * i + 3)), .int (xs (8 * i + 4)), .ref lo] (c_L_setCondition l hlst V hV lo hO σ gg (xs (8 * i + 1)) (xs (8 * i + 2)) (xs (8 * i + 3)) (xs (8 * i + 4))) (vx_cwSW 6 C.2.2.2.2.1 gL_law_L_setCondition rfl rfl rfl (by decide +kernel) ⟨Nat.le_of_ble_eq_true rfl, Nat.le_of_ble_eq_true rfl⟩) rfl rfl (Nat.le_of_ble_eq_true rfl) dL_law_1187 hcs (fun v σ' g' hR => ?_)
  obtain ⟨rfl, hσ, hg, hne⟩ := hR
  have C1 := XC_oc C hV hO hA g'
  by_cases hk : kSet σ (xs (8 * i + 1)) (xs (8 * i + 2)) (xs (8 * i + 3)) (xs (8 * i + 4)) = 0
  · rw [if_pos hk] at hσ
    rw [hσ]
    have sp := (st_setCondition h (xs (8 * i + 1)) (xs (8 * i + 2)) (xs (8 * i + 3)) (xs (8 * i + 4))).1 hk
    refine x_v (y := (0 : Int32)) (by rw [hk, nI_0]) ?_
    refine x_istore C1 [(5, .int (0 : Int32)), (0, .ref b), (1, ra V 0), (2, ra V 87), (3, .ref lo), (4, .int (nI (8 * i)))] dL_law_1190 (by decide) rfl ?_
    refine x_aload_n C1 dL_law_1192 rfl 3 rfl ?_
    refine x_arefn C1 dL_law_1193 rfl 1 rfl ?_
    refine x_iload C1 dL_law_1194 5 rfl ?_
    refine x_iconst C1 (1 : Int32) (by decide) dL_law_1196 ?_
    refine x_iadd C1 dL_law_1197 ?_
    refine x_sld C1 hX hbl hbA (8 * i + 1) (nI_add (8 * i) 1) (by omega) hL dL_law_1198 ?_
    refine x_arefn C1 dL_law_1199 rfl 1 rfl ?_
    refine x_iload C1 dL_law_1200 5 rfl ?_
    refine x_iconst C1 (2 : Int32) (by decide) dL_law_1202 ?_
    refine x_iadd C1 dL_law_1203 ?_
    refine x_sld C1 hX hbl hbA (8 * i + 2) (nI_add (8 * i) 2) (by omega) hL dL_law_1204 ?_
    refine x_arefn C1 dL_law_1205 rfl 1 rfl ?_
    refine x_iload C1 dL_law_1206 5 rfl ?_
    refine x_iconst C1 (3 : Int32) (by decide) dL_law_1208 ?_
    refine x_iadd C1 dL_law_1209 ?_
    refine x_sld C1 hX hbl hbA (8 * i + 3) (nI_add (8 * i) 3) (by omega) hL dL_law_1210 ?_
    refine x_arefn C1 dL_law_1211 rfl 1 rfl ?_
    refine x_iload C1 dL_law_1212 5 rfl ?_
    refine x_iconst C1 (4 : Int32) (by decide) dL_law_1214 ?_
    refine x_iadd C1 dL_law_1215 ?_
    refine x_sld C1 hX hbl hbA (8 * i + 4) (nI_add (8 * i) 4) (by omega) hL dL_law_1216 ?_
    refine x_callV C1 sh_87 (by decide) rfl [.int (xs (8 * i + 1)), .int (xs (8 * i + 2)), .int (xs (8 * i + 3)), .int (xs (8 * i + 4))] (c_X9_setCondition l V hV (cPut σ (setQ (xs (8 * i + 1))) (setC (xs (8 * i + 1))) (xs (8 * i + 2)) (xs (8 * i + 3)) (xs (8 * i + 4))) (xs (8 * i + 1)) (xs (8 * i + 2)) (xs (8 * i + 3)) (xs (8 * i + 4)) (mV_E (em_setCondition) h.1.V)) (cwV 4 C1.2.2.2.2.1 gL_law_X9_setCondition rfl rfl rfl (by decide +kernel) ⟨Nat.le_of_ble_eq_true rfl, Nat.le_of_ble_eq_true rfl⟩) rfl rfl (Nat.le_of_ble_eq_true rfl) dL_law_1217 ⟨hcs.1, hcs.2⟩ (x_kCZ (fun y u h1 h2 => ?_))
    obtain ⟨rfl, rfl⟩ := h1 sp.1
    refine x_nm (fun yv hyv => ?_)
    refine x_istore C1 [(6, .int yv), (5, .int (0 : Int32)), (0, .ref b), (1, ra V 0), (2, ra V 87), (3, .ref lo), (4, .int (nI (8 * i)))] dL_law_1220 (by decide) rfl ?_
    refine x_aload_n C1 dL_law_1222 rfl 4 rfl ?_
    refine x_callV C1 sh_87 (by decide) rfl [] (c_X9_thrown l V hV _) (cwV 0 C1.2.2.2.2.1 gL_law_X9_thrown rfl rfl rfl (by decide +kernel) ⟨Nat.le_of_ble_eq_true rfl, Nat.le_of_ble_eq_true rfl⟩) rfl rfl (Nat.le_of_ble_eq_true rfl) dL_law_1223 ⟨hcs.1, hcs.2⟩ (x_kI ?_)
    refine x_v (y := (0 : Int32)) sp.2.1 ?_
    refine x_iload C1 dL_law_1226 1 rfl ?_
    refine x_icmp_eq C1 1233 dL_law_1228 rfl (fun _ => ?_) (fun hq => absurd rfl hq)
    refine x_iload C1 dL_law_1233 1 rfl ?_
    refine x_if_ne C1 1257 dL_law_1235 rfl (fun hq => absurd rfl hq) (fun _ => ?_)
    refine x_arefn C1 dL_law_1238 rfl 5 rfl ?_
    refine x_iconst C1 (0 : Int32) (by decide) dL_law_1239 ?_
    refine x_lald C1 dL_law_1240 ?_
    refine x_iload C1 dL_law_1241 0 rfl ?_
    subst hyv
    have hg0 := hg hk
    rw [sp.2.2.1] at hg0
    refine x_bif_eq C1 1250 dL_law_1243 rfl (fun hb => ?_) (fun hb => ?_)
    · refine x_lconst C1 (0 : Int64) rfl dL_law_1250 ?_
      refine x_lcmp C1 dL_law_1251 ?_
      refine x_v (y := (0 : Int32)) (by rw [hg0, if_neg (by rw [hb]; decide)]; exact lg_cmp_s _) ?_
      refine x_if_eq C1 1257 dL_law_1252 rfl (fun _ => ?_) (fun hq => absurd rfl hq)
      refine x_goto C1 1977 dL_law_1257 rfl ?_
      refine x_lv [2, 3, 4, 5, 6] [(0, .ref b), (1, ra V 0), (2, ra V 87), (3, .ref lo), (4, .int (nI (8 * i)))] rfl ?_
      exact J _ g' sp.2.2.2
    · refine x_lconst C1 (1 : Int64) rfl dL_law_1246 ?_
      refine x_goto C1 1251 dL_law_1247 rfl ?_
      refine x_lcmp C1 dL_law_1251 ?_
      refine x_v (y := (0 : Int32)) (by rw [hg0, if_pos hb]; exact lg_cmp_s _) ?_
      refine x_if_eq C1 1257 dL_law_1252 rfl (fun _ => ?_) (fun hq => absurd rfl hq)
      refine x_goto C1 1977 dL_law_1257 rfl ?_
      refine x_lv [2, 3, 4, 5, 6] [(0, .ref b), (1, ra V 0), (2, ra V 87), (3, .ref lo), (4, .int (nI (8 * i)))] rfl ?_
      exact J _ g' sp.2.2.2
  · rw [if_neg hk] at hσ
    rw [hσ]
    have sp := (st_setCondition h (xs (8 * i + 1)) (xs (8 * i + 2)) (xs (8 * i + 3)) (xs (8 * i + 4))).2 hk
    refine x_istore C1 [(5, .int (nI (kSet σ (xs (8 * i + 1)) (xs (8 * i + 2)) (xs (8 * i + 3)) (xs (8 * i + 4))))), (0, .ref b), (1, ra V 0), (2, ra V 87), (3, .ref lo), (4, .int (nI (8 * i)))] dL_law_1190 (by decide) rfl ?_
    refine x_aload_n C1 dL_law_1192 rfl 3 rfl ?_
    refine x_arefn C1 dL_law_1193 rfl 1 rfl ?_
    refine x_iload C1 dL_law_1194 5 rfl ?_
    refine x_iconst C1 (1 : Int32) (by decide) dL_law_1196 ?_
    refine x_iadd C1 dL_law_1197 ?_
    refine x_sld C1 hX hbl hbA (8 * i + 1) (nI_add (8 * i) 1) (by omega) hL dL_law_1198 ?_
    refine x_arefn C1 dL_law_1199 rfl 1 rfl ?_
    refine x_iload C1 dL_law_1200 5 rfl ?_
    refine x_iconst C1 (2 : Int32) (by decide) dL_law_1202 ?_
    refine x_iadd C1 dL_law_1203 ?_
    refine x_sld C1 hX hbl hbA (8 * i + 2) (nI_add (8 * i) 2) (by omega) hL dL_law_1204 ?_
    refine x_arefn C1 dL_law_1205 rfl 1 rfl ?_
    refine x_iload C1 dL_law_1206 5 rfl ?_
    refine x_iconst C1 (3 : Int32) (by decide) dL_law_1208 ?_
    refine x_iadd C1 dL_law_1209 ?_
    refine x_sld C1 hX hbl hbA (8 * i + 3) (nI_add (8 * i) 3) (by omega) hL dL_law_1210 ?_
    refine x_arefn C1 dL_law_1211 rfl 1 rfl ?_
    refine x_iload C1 dL_law_1212 5 rfl ?_
    refine x_iconst C1 (4 : Int32) (by decide) dL_law_1214 ?_
    refine x_iadd C1 dL_law_1215 ?_
    refine x_sld C1 hX hbl hbA (8 * i + 4) (nI_add (8 * i) 4) (by omega) hL dL_law_1216 ?_
    refine x_callV C1 sh_87 (by decide) rfl [.int (xs (8 * i + 1)), .int (xs (8 * i + 2)), .int (xs (8 * i + 3)), .int (xs (8 * i + 4))] (c_X9_setCondition l V hV (σ) (xs (8 * i + 1)) (xs (8 * i + 2)) (xs (8 * i + 3)) (xs (8 * i + 4)) (mV_E (em_rf) h.1.V)) (cwV 4 C1.2.2.2.2.1 gL_law_X9_setCondition rfl rfl rfl (by decide +kernel) ⟨Nat.le_of_ble_eq_true rfl, Nat.le_of_ble_eq_true rfl⟩) rfl rfl (Nat.le_of_ble_eq_true rfl) dL_law_1217 ⟨hcs.1, hcs.2⟩ (x_kCZ (fun y u h1 h2 => ?_))
    have hu := h2 (by rw [sp.1]; exact hk)
    rw [sp.1] at hu
    subst hu
    refine x_nm (fun yv hyv => ?_)
    refine x_istore C1 [(6, .int yv), (5, .int (nI (kSet σ (xs (8 * i + 1)) (xs (8 * i + 2)) (xs (8 * i + 3)) (xs (8 * i + 4))))), (0, .ref b), (1, ra V 0), (2, ra V 87), (3, .ref lo), (4, .int (nI (8 * i)))] dL_law_1220 (by decide) rfl ?_
    refine x_aload_n C1 dL_law_1222 rfl 4 rfl ?_
    refine x_callV C1 sh_87 (by decide) rfl [] (c_X9_thrown l V hV _) (cwV 0 C1.2.2.2.2.1 gL_law_X9_thrown rfl rfl rfl (by decide +kernel) ⟨Nat.le_of_ble_eq_true rfl, Nat.le_of_ble_eq_true rfl⟩) rfl rfl (Nat.le_of_ble_eq_true rfl) dL_law_1223 ⟨hcs.1, hcs.2⟩ (x_kI ?_)
    refine x_v (y := (nI (kSet σ (xs (8 * i + 1)) (xs (8 * i + 2)) (xs (8 * i + 3)) (xs (8 * i + 4))))) (xw_at _ _ _ _) ?_
    refine x_iload C1 dL_law_1226 1 rfl ?_
    refine x_icmp_eq C1 1233 dL_law_1228 rfl (fun _ => ?_) (fun hq => absurd rfl hq)
    refine x_iload C1 dL_law_1233 1 rfl ?_
    refine x_if_ne C1 1257 dL_law_1235 rfl (fun _ => ?_) (fun hq => absurd hq (hne hk))
    refine x_goto C1 1977 dL_law_1257 rfl ?_
    refine x_lv [2, 3, 4, 5, 6] [(0, .ref b), (1, ra V 0), (2, ra V 87), (3, .ref lo), (4, .int (nI (8 * i)))] rfl ?_
    exact J _ g' sp.2
set_option maxHeartbeats 4000000 in
set_option maxRecDepth 100000 in
theorem L_dropResult {p : Program} {l : Launch} {e : Env} {s : State} {m : MethodId} {args : Array Value} {below : List Frame} {meth : Method} {c : Code} {V : xV} {A : Nat → Prop} {cells slots : Nat} {Q : State → Prop} {lo b L i : Nat} {xs : Nat → Int32} {gg : Nat → Int64} {σ : xS} (hlst : l.stackTraces = false) (C : XC p s m args c cL_law 9 RL wsL_law V [oc V lo gg] A) (hV : xInj V) (hO : ∀ k, k < 108 → xad V k ≠ lo) (hA : ∀ q, inO V lo q → A q) (hT : xT s) (hZ : xZ A s s.heap) (hX : va_X b L xs s s.heap) (hbl : b < s.heap.size) (hbA : ¬ A b) (hL : L < 2 ^ 31) (hi : 8 * i + 8 ≤ L) (hcs : cells + 1 ≤ room_1.cells ∧ slots + 6 ≤ room_1.slots) (h : Sm σ) (J : ∀ σ' g', Sm σ' → X p l e room_1 s m args below meth c V [oc V lo g'] A 9 (cells + 1) (slots + 6) Q σ' 1977 [(0, .ref b), (1, ra V 0), (2, ra V 87), (3, .ref lo), (4, .int (nI (8 * i)))] []) : X p l e room_1 s m args below meth c V [oc V lo gg] A 9 cells slots Q σ 1260 [(0, .ref b), (1, ra V 0), (2, ra V 87), (3, .ref lo), (4, .int (nI (8 * i)))] [] := by
  refine x_aload_n C dL_law_1260 rfl 1 rfl ?_
  refine x_arefn C dL_law_1261 rfl 3 rfl ?_
  refine x_callW C hT hZ hA [ra V 0, .ref lo] (c_L_dropResult l hlst V hV lo hO σ gg) (vx_cwSW 2 C.2.2.2.2.1 gL_law_L_dropResult rfl rfl rfl (by decide +kernel) ⟨Nat.le_of_ble_eq_true rfl, Nat.le_of_ble_eq_true rfl⟩) rfl rfl (Nat.le_of_ble_eq_true rfl) dL_law_1262 hcs (fun v σ' g' hR => ?_)
  obtain ⟨rfl, hσ, hg, hne⟩ := hR
  have C1 := XC_oc C hV hO hA g'
  by_cases hk : kDropX σ = 0
  · rw [if_pos hk] at hσ
    rw [hσ]
    have sp := (st_dropResult h).1 hk
    refine x_v (y := (0 : Int32)) (by rw [hk, nI_0]) ?_
    refine x_istore C1 [(5, .int (0 : Int32)), (0, .ref b), (1, ra V 0), (2, ra V 87), (3, .ref lo), (4, .int (nI (8 * i)))] dL_law_1265 (by decide) rfl ?_
    refine x_aload_n C1 dL_law_1267 rfl 3 rfl ?_
    refine x_callV C1 sh_87 (by decide) rfl [] (c_X9_dropResult l V hV (xw σ 204 0 (σ 204 0 - 1)) (mV_E (em_dropResult) h.1.V)) (cwV 0 C1.2.2.2.2.1 gL_law_X9_dropResult rfl rfl rfl (by decide +kernel) ⟨Nat.le_of_ble_eq_true rfl, Nat.le_of_ble_eq_true rfl⟩) rfl rfl (Nat.le_of_ble_eq_true rfl) dL_law_1268 ⟨hcs.1, hcs.2⟩ (x_kC (fun y u h1 h2 => ?_))
    obtain ⟨rfl, rfl⟩ := h1 sp.1
    refine x_nm (fun yv hyv => ?_)
    refine x_istore C1 [(6, .int yv), (5, .int (0 : Int32)), (0, .ref b), (1, ra V 0), (2, ra V 87), (3, .ref lo), (4, .int (nI (8 * i)))] dL_law_1271 (by decide) rfl ?_
    refine x_aload_n C1 dL_law_1273 rfl 4 rfl ?_
    refine x_callV C1 sh_87 (by decide) rfl [] (c_X9_thrown l V hV _) (cwV 0 C1.2.2.2.2.1 gL_law_X9_thrown rfl rfl rfl (by decide +kernel) ⟨Nat.le_of_ble_eq_true rfl, Nat.le_of_ble_eq_true rfl⟩) rfl rfl (Nat.le_of_ble_eq_true rfl) dL_law_1274 ⟨hcs.1, hcs.2⟩ (x_kI ?_)
    refine x_v (y := (0 : Int32)) sp.2.1 ?_
    refine x_iload C1 dL_law_1277 1 rfl ?_
    refine x_icmp_eq C1 1284 dL_law_1279 rfl (fun _ => ?_) (fun hq => absurd rfl hq)
    refine x_iload C1 dL_law_1284 1 rfl ?_
    refine x_if_ne C1 1301 dL_law_1286 rfl (fun hq => absurd rfl hq) (fun _ => ?_)
    refine x_arefn C1 dL_law_1289 rfl 5 rfl ?_
    refine x_iconst C1 (0 : Int32) (by decide) dL_law_1290 ?_
    refine x_lald C1 dL_law_1291 ?_
    refine x_iload C1 dL_law_1292 0 rfl ?_
    have hg0 := (hg hk).trans (congrArg Int32.toInt64 (sp.2.2.1.trans hyv.symm))
    refine x_i2l C1 dL_law_1294 ?_
    refine x_lcmp C1 dL_law_1295 ?_
    refine x_v (y := (0 : Int32)) (by rw [hg0]; exact lg_cmp_s _) ?_
    refine x_if_eq C1 1301 dL_law_1296 rfl (fun _ => ?_) (fun hq => absurd rfl hq)
    refine x_goto C1 1977 dL_law_1301 rfl ?_
    refine x_lv [2, 3, 4, 5, 6] [(0, .ref b), (1, ra V 0), (2, ra V 87), (3, .ref lo), (4, .int (nI (8 * i)))] rfl ?_
    exact J _ g' sp.2.2.2
  · rw [if_neg hk] at hσ
    rw [hσ]
    have sp := (st_dropResult h).2 hk
    refine x_istore C1 [(5, .int (nI (kDropX σ))), (0, .ref b), (1, ra V 0), (2, ra V 87), (3, .ref lo), (4, .int (nI (8 * i)))] dL_law_1265 (by decide) rfl ?_
    refine x_aload_n C1 dL_law_1267 rfl 3 rfl ?_
    refine x_callV C1 sh_87 (by decide) rfl [] (c_X9_dropResult l V hV (σ) (mV_E (em_rf) h.1.V)) (cwV 0 C1.2.2.2.2.1 gL_law_X9_dropResult rfl rfl rfl (by decide +kernel) ⟨Nat.le_of_ble_eq_true rfl, Nat.le_of_ble_eq_true rfl⟩) rfl rfl (Nat.le_of_ble_eq_true rfl) dL_law_1268 ⟨hcs.1, hcs.2⟩ (x_kC (fun y u h1 h2 => ?_))
    have hu := h2 (by rw [sp.1]; exact hk)
    rw [sp.1] at hu
    subst hu
    refine x_nm (fun yv hyv => ?_)
    refine x_istore C1 [(6, .int yv), (5, .int (nI (kDropX σ))), (0, .ref b), (1, ra V 0), (2, ra V 87), (3, .ref lo), (4, .int (nI (8 * i)))] dL_law_1271 (by decide) rfl ?_
    refine x_aload_n C1 dL_law_1273 rfl 4 rfl ?_
    refine x_callV C1 sh_87 (by decide) rfl [] (c_X9_thrown l V hV _) (cwV 0 C1.2.2.2.2.1 gL_law_X9_thrown rfl rfl rfl (by decide +kernel) ⟨Nat.le_of_ble_eq_true rfl, Nat.le_of_ble_eq_true rfl⟩) rfl rfl (Nat.le_of_ble_eq_true rfl) dL_law_1274 ⟨hcs.1, hcs.2⟩ (x_kI ?_)
    refine x_v (y := (nI (kDropX σ))) (xw_at _ _ _ _) ?_
    refine x_iload C1 dL_law_1277 1 rfl ?_
    refine x_icmp_eq C1 1284 dL_law_1279 rfl (fun _ => ?_) (fun hq => absurd rfl hq)
    refine x_iload C1 dL_law_1284 1 rfl ?_
    refine x_if_ne C1 1301 dL_law_1286 rfl (fun _ => ?_) (fun hq => absurd hq (hne hk))
    refine x_goto C1 1977 dL_law_1301 rfl ?_
    refine x_lv [2, 3, 4, 5, 6] [(0, .ref b), (1, ra V 0), (2, ra V 87), (3, .ref lo), (4, .int (nI (8 * i)))] rfl ?_
    exact J _ g' sp.2

set_option maxHeartbeats 4000000 in
set_option maxRecDepth 100000 in
theorem L_culprit {p : Program} {l : Launch} {e : Env} {s : State} {m : MethodId} {args : Array Value} {below : List Frame} {meth : Method} {c : Code} {V : xV} {A : Nat → Prop} {cells slots : Nat} {Q : State → Prop} {lo b L i : Nat} {xs : Nat → Int32} {gg : Nat → Int64} {σ : xS} (hlst : l.stackTraces = false) (C : XC p s m args c cL_law 9 RL wsL_law V [oc V lo gg] A) (hV : xInj V) (hO : ∀ k, k < 108 → xad V k ≠ lo) (hA : ∀ q, inO V lo q → A q) (hT : xT s) (hZ : xZ A s s.heap) (hX : va_X b L xs s s.heap) (hbl : b < s.heap.size) (hbA : ¬ A b) (hL : L < 2 ^ 31) (hi : 8 * i + 8 ≤ L) (hcs : cells + 1 ≤ room_1.cells ∧ slots + 6 ≤ room_1.slots) (h : Sm σ) (J : ∀ σ' g', Sm σ' → X p l e room_1 s m args below meth c V [oc V lo g'] A 9 (cells + 1) (slots + 6) Q σ' 1977 [(0, .ref b), (1, ra V 0), (2, ra V 87), (3, .ref lo), (4, .int (nI (8 * i)))] []) : X p l e room_1 s m args below meth c V [oc V lo gg] A 9 cells slots Q σ 1909 [(0, .ref b), (1, ra V 0), (2, ra V 87), (3, .ref lo), (4, .int (nI (8 * i)))] [] := by
  have hz202 := Sm_z2 h
  have hz203 := Sm_z3 h
  have sp := st_culprit h
  refine x_aload_n C dL_law_1909 rfl 1 rfl ?_
  refine x_callV C sh_0 (by decide) rfl [] (c_X8_culprit l V hV σ hz202 hz203) (cwV 0 C.2.2.2.2.1 gL_law_X8_culprit rfl rfl rfl (by decide +kernel) ⟨Nat.le_of_ble_eq_true rfl, Nat.le_of_ble_eq_true rfl⟩) rfl rfl (Nat.le_of_ble_eq_true rfl) dL_law_1910 ⟨Nat.le_of_succ_le hcs.1, Nat.le_trans (Nat.le_add_right _ 6) hcs.2⟩ (x_kI ?_)
  refine x_aload_n C dL_law_1913 rfl 2 rfl ?_
  refine x_callV C sh_87 (by decide) rfl [] (c_X9_culprit l V hV (insA σ) (mV_E em_insA h.1.V)) (cwV 0 C.2.2.2.2.1 gL_law_X9_culprit rfl rfl rfl (by decide +kernel) ⟨Nat.le_of_ble_eq_true rfl, Nat.le_of_ble_eq_true rfl⟩) rfl rfl (Nat.le_of_ble_eq_true rfl) dL_law_1914 ⟨Nat.le_of_succ_le hcs.1, Nat.le_trans (Nat.le_add_right _ 6) hcs.2⟩ (x_kI ?_)
  refine x_icmp_eq C 1977 dL_law_1917 rfl (fun _ => ?_) (fun hq => absurd sp.1 hq)
  refine x_lv [0, 1, 2, 3, 4] [(0, .ref b), (1, ra V 0), (2, ra V 87), (3, .ref lo), (4, .int (nI (8 * i)))] rfl ?_
  exact x_widen (Nat.le_succ _) (Nat.le_add_right _ 6) (J _ gg sp.2)
set_option maxHeartbeats 4000000 in
set_option maxRecDepth 100000 in
theorem L_share {p : Program} {l : Launch} {e : Env} {s : State} {m : MethodId} {args : Array Value} {below : List Frame} {meth : Method} {c : Code} {V : xV} {A : Nat → Prop} {cells slots : Nat} {Q : State → Prop} {lo b L i : Nat} {xs : Nat → Int32} {gg : Nat → Int64} {σ : xS} (hlst : l.stackTraces = false) (C : XC p s m args c cL_law 9 RL wsL_law V [oc V lo gg] A) (hV : xInj V) (hO : ∀ k, k < 108 → xad V k ≠ lo) (hA : ∀ q, inO V lo q → A q) (hT : xT s) (hZ : xZ A s s.heap) (hX : va_X b L xs s s.heap) (hbl : b < s.heap.size) (hbA : ¬ A b) (hL : L < 2 ^ 31) (hi : 8 * i + 8 ≤ L) (hcs : cells + 1 ≤ room_1.cells ∧ slots + 6 ≤ room_1.slots) (h : Sm σ) (J : ∀ σ' g', Sm σ' → X p l e room_1 s m args below meth c V [oc V lo g'] A 9 (cells + 1) (slots + 6) Q σ' 1977 [(0, .ref b), (1, ra V 0), (2, ra V 87), (3, .ref lo), (4, .int (nI (8 * i)))] []) : X p l e room_1 s m args below meth c V [oc V lo gg] A 9 cells slots Q σ 1922 [(0, .ref b), (1, ra V 0), (2, ra V 87), (3, .ref lo), (4, .int (nI (8 * i)))] [] := by
  have hz202 := Sm_z2 h
  have hz203 := Sm_z3 h
  have sp := st_share h
  refine x_aload_n C dL_law_1922 rfl 1 rfl ?_
  refine x_callV C sh_0 (by decide) rfl [] (c_X8_share l V hV σ hz202 hz203 sp.2.2.1) (cwV 0 C.2.2.2.2.1 gL_law_X8_share rfl rfl rfl (by decide +kernel) ⟨Nat.le_of_ble_eq_true rfl, Nat.le_of_ble_eq_true rfl⟩) rfl rfl (Nat.le_of_ble_eq_true rfl) dL_law_1923 ⟨Nat.le_of_succ_le hcs.1, Nat.le_trans (Nat.le_add_right _ 6) hcs.2⟩ (x_kD ?_)
  rw [show shr0 σ = shr1 (insA σ) from sp.1]
  refine x_dstore C [(5, .double (shr1 (insA σ))), (0, .ref b), (1, ra V 0), (2, ra V 87), (3, .ref lo), (4, .int (nI (8 * i)))] dL_law_1926 (by decide) rfl ?_
  refine x_aload_n C dL_law_1928 rfl 3 rfl ?_
  refine x_callV C sh_87 (by decide) rfl [] (c_X9_share l V hV (insA σ) (mV_E em_insA h.1.V) sp.2.2.2.1) (cwV 0 C.2.2.2.2.1 gL_law_X9_share rfl rfl rfl (by decide +kernel) ⟨Nat.le_of_ble_eq_true rfl, Nat.le_of_ble_eq_true rfl⟩) rfl rfl (Nat.le_of_ble_eq_true rfl) dL_law_1929 ⟨Nat.le_of_succ_le hcs.1, Nat.le_trans (Nat.le_add_right _ 6) hcs.2⟩ (x_kD ?_)
  refine x_dstore C [(7, .double (shr1 (insA σ))), (5, .double (shr1 (insA σ))), (0, .ref b), (1, ra V 0), (2, ra V 87), (3, .ref lo), (4, .int (nI (8 * i)))] dL_law_1932 (by decide) rfl ?_
  refine x_dload C dL_law_1934 1 rfl ?_
  refine x_dload C dL_law_1936 0 rfl ?_
  refine x_dcmp C dL_law_1938 ?_
  refine x_v (y := (0 : Int32)) (share_cmp h) ?_
  refine x_if_eq C 1960 dL_law_1939 rfl (fun _ => ?_) (fun hq => absurd rfl hq)
  refine x_goto C 1977 dL_law_1960 rfl ?_
  refine x_lv [2, 3, 4, 5, 6] [(0, .ref b), (1, ra V 0), (2, ra V 87), (3, .ref lo), (4, .int (nI (8 * i)))] rfl ?_
  exact x_widen (Nat.le_succ _) (Nat.le_add_right _ 6) (J _ gg sp.2.1)
set_option maxHeartbeats 4000000 in
set_option maxRecDepth 100000 in
theorem L_digest {p : Program} {l : Launch} {e : Env} {s : State} {m : MethodId} {args : Array Value} {below : List Frame} {meth : Method} {c : Code} {V : xV} {A : Nat → Prop} {cells slots : Nat} {Q : State → Prop} {lo b L i : Nat} {xs : Nat → Int32} {gg : Nat → Int64} {σ : xS} (hlst : l.stackTraces = false) (C : XC p s m args c cL_law 9 RL wsL_law V [oc V lo gg] A) (hV : xInj V) (hO : ∀ k, k < 108 → xad V k ≠ lo) (hA : ∀ q, inO V lo q → A q) (hT : xT s) (hZ : xZ A s s.heap) (hX : va_X b L xs s s.heap) (hbl : b < s.heap.size) (hbA : ¬ A b) (hL : L < 2 ^ 31) (hi : 8 * i + 8 ≤ L) (hcs : cells + 1 ≤ room_1.cells ∧ slots + 6 ≤ room_1.slots) (h : Sm σ) (J : ∀ σ' g', Sm σ' → X p l e room_1 s m args below meth c V [oc V lo g'] A 9 (cells + 1) (slots + 6) Q σ' 1977 [(0, .ref b), (1, ra V 0), (2, ra V 87), (3, .ref lo), (4, .int (nI (8 * i)))] []) : X p l e room_1 s m args below meth c V [oc V lo gg] A 9 cells slots Q σ 1963 [(0, .ref b), (1, ra V 0), (2, ra V 87), (3, .ref lo), (4, .int (nI (8 * i)))] [] := by
  have hz202 := Sm_z2 h
  have hz203 := Sm_z3 h
  have sp := st_digest h
  refine x_aload_n C dL_law_1963 rfl 1 rfl ?_
  refine x_callV C sh_0 (by decide) rfl [] (c_X8_digest l V hV σ hz202 hz203) (cwV 0 C.2.2.2.2.1 gL_law_X8_digest rfl rfl rfl (by decide +kernel) ⟨Nat.le_of_ble_eq_true rfl, Nat.le_of_ble_eq_true rfl⟩) rfl rfl (Nat.le_of_ble_eq_true rfl) dL_law_1964 ⟨Nat.le_of_succ_le hcs.1, Nat.le_trans (Nat.le_add_right _ 6) hcs.2⟩ (x_kL ?_)
  refine x_aload_n C dL_law_1967 rfl 2 rfl ?_
  refine x_callV C sh_87 (by decide) rfl [] (c_X9_digest l V hV (insA σ) (mV_E em_insA h.1.V)) (cwV 0 C.2.2.2.2.1 gL_law_X9_digest rfl rfl rfl (by decide +kernel) ⟨Nat.le_of_ble_eq_true rfl, Nat.le_of_ble_eq_true rfl⟩) rfl rfl (Nat.le_of_ble_eq_true rfl) dL_law_1968 ⟨Nat.le_of_succ_le hcs.1, Nat.le_trans (Nat.le_add_right _ 6) hcs.2⟩ (x_kL ?_)
  refine x_lcmp C dL_law_1971 ?_
  refine x_v (y := (0 : Int32)) (by rw [sp.1]; exact lg_cmp_s _) ?_
  refine x_if_eq C 1977 dL_law_1972 rfl (fun _ => ?_) (fun hq => absurd rfl hq)
  refine x_lv [0, 1, 2, 3, 4] [(0, .ref b), (1, ra V 0), (2, ra V 87), (3, .ref lo), (4, .int (nI (8 * i)))] rfl ?_
  exact x_widen (Nat.le_succ _) (Nat.le_add_right _ 6) (J _ gg sp.2)

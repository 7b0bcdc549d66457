/-! The constructors. -/
def iZ (V : xV) (n : Nat) : va_E := .inl (V.2.1, n, .inl fun _ => 0)
def iB (V : xV) (n : Nat) : va_E := .inl (V.2.2.1, n, .inl fun _ => 0)
/-- a constructor's contract: from the bare object it makes the cells T, at addresses f -/
def iM (l : Launch) (y : MethodName) (ws : List Cond) (rm : Room) (V : xV) (av : List Value) (W0 : va_W) (sz cells slots : Nat) (T : (Nat → Nat) → va_W) : Prop := Met l y ws rm (va_Pc av (fun U => U.heap.size = sz ∧ va_P V.1 vwCl W0 U.heap ∧ xK V U ∧ va_D (fun _ => True) W0)) (va_Qv (fun _ : Nat → Nat => True) (fun f U => va_P V.1 vwCl (T f) U.heap ∧ va_D (va_A W0 sz) (T f)) (va_A W0 sz)) cells slots (va_A W0 sz)
theorem iK_int {V : xV} {s : State} {cA : ClassId} (h : va_K V.1 vwCl (xty V ++ [(cA, .int)]) s) : cA = V.2.1 := by
  have h1 := (h.2 0 (V.2.1, .int) rfl).2
  have h2 := (h.2 3 (cA, .int) rfl).2
  exact Option.some.inj (h2.symm.trans h1)
theorem iK_bool {V : xV} {s : State} {cA : ClassId} (h : va_K V.1 vwCl (xty V ++ [(cA, .boolean)]) s) : cA = V.2.2.1 := by
  have h1 := (h.2 1 (V.2.2.1, .boolean) rfl).2
  have h2 := (h.2 3 (cA, .boolean) rfl).2
  exact Option.some.inj (h2.symm.trans h1)
theorem nI_ge0 {n : Nat} (h : n < 2 ^ 31) : 0 ≤ nI n := by
  rw [Int32.le_iff_toInt_le, nI_toInt h]
  exact Int.natCast_nonneg n
theorem iRow (l : Launch) (V : xV) (h0 sz N : Nat) (hN : N < 1000) : iM l yX5_init wsX5_init { frames := 1, cells := 1, slots := N, locals := 20 } V [.ref h0, .int (nI N)] [(h0, .inr (5, [.null]))] sz 1 N (fun f => [(h0, .inr (5, [.ref (f 0)])), (f 0, iZ V N)]) := by
  refine Met.ofW (cc := cX5_init) (maxL := 2) (ret := none) (by decide) rfl ?_
  intro p e s m args below meth c s₁ B hml hv
  obtain ⟨rfl, hsz, hP, hK, hD0⟩ := hv
  have hx := B.exec
  have hb := B.bytes
  have hr := B.returns
  have hts := atoms_spec (ws := wsX5_init) B.pre
  have hown : s.vm.findClass RX5 = some m.cls := findClass_of_methodNamed B.named
  have hin : meth.name = "<init>" := (name_of_methodNamed B.named B.method).1
  subst hsz
  have hD := hD0.self (sz := s.heap.size)
  generalize hAe : va_A [(h0, .inr (5, [.null]))] s.heap.size = A at hD ⊢
  have hA : ∀ q : Nat, s.heap.size ≤ q → A q := fun q h => by rw [← hAe]; exact Or.inr h
  have hS : va_S A s.heap s.heap [] := va_S.rf
  have hl := lv_entry ([.ref h0, .int (nI N)]) (n := 2) (Nat.le_of_ble_eq_true rfl)
  rw [lg_entry_eq]
  generalize (lg_sl ([.ref h0, .int (nI N)]) ++ List.replicate (2 - (lg_sl ([.ref h0, .int (nI N)])).length) Slot.unset).toArray = ls at hl ⊢
  have hl : lv_has ls 2 [(0, .ref h0), (1, .int (nI N))] := hl
  refine lv_aload_n hx hb dX5_init_0 rfl (lv_at hl 0 rfl) ?_
  refine W.objInit hx hb hown (hts (.methodLink RX5 3 objectInit) (by decide +kernel)) (hts (.instanceMethod objectInit) (by decide +kernel)) (hts _ (List.mem_cons_of_mem _ (List.mem_append_left _ (List.mem_of_getElem? (i := 2) rfl)))) rfl (by rw [hml]; exact hl.1) rfl dX5_init_1 (Nat.le_of_ble_eq_true rfl) (Nat.le_of_ble_eq_true rfl) ?_
  refine W.eq (g2 := F0 m 4 ls []) rfl ?_
  refine lv_aload_n hx hb dX5_init_4 rfl (lv_at hl 0 rfl) ?_
  refine lv_iload_n hx hb dX5_init_5 rfl (lv_at hl 1 rfl) ?_
  refine lv_if_ge (tgt := 13) hx hb dX5_init_6 rfl (fun _ => ?_) (fun h => absurd (nI_ge0 (by omega)) h)
  refine lv_iload_n hx hb dX5_init_13 rfl (lv_at hl 1 rfl) ?_
  refine va_newa (N' := N) (a0 := (N, .inl fun _ => 0)) hx hb (atype := .int) (hts (.arrayClass .int) (by decide +kernel)) rfl hK.1 hP hD hS hA (fun _ => rfl) (by have := nI_ge0 (n := N) (by omega); exact Int32.not_lt.mpr this) (nI_clamp (by omega)) (by show N * 4 ≤ _; omega) (Nat.le_refl 1) (by show 0 + N ≤ N; omega) dX5_init_14 (fun q cA H1 hK1 hP hD hS => ?_)
  have hcA := iK_int hK1
  subst hcA
  refine va_putF (D := V.1) (ci := 5) (v := .ref q) (ty := .array .int) (C := RX5) (T := TX5) (N := 1) hx hb hts (by decide +kernel) tyX5 tyX5_ok nmX5 hown hK.1 hP hD hS 0 rfl rfl 0 (by decide) (hts (.fieldLink RX5 9 RX5 "numbers" "[I") (by decide +kernel)) (fun _ h9 => h9) rfl hin rfl (by decide +kernel) rfl rfl (Nat.le_of_ble_eq_true rfl) dX5_init_16 (fun H locs hP hD hS => ?_)
  refine W.widen (k := 1) (n := N) (Nat.le_refl 1) (by omega) ?_
  exact W.vret hx hb hr (fun t ht hW => ⟨⟨fun _ => q, rfl, trivial, by rw [ht]; exact hP, hD⟩, hS.F ht⟩) hS.2.2 dX5_init_19
set_option maxHeartbeats 4000000 in
set_option maxRecDepth 100000 in
theorem iRules (l : Launch) (V : xV) (h0 sz : Nat)  : iM l yX6_init wsX6_init { frames := 2, cells := 6, slots := 1 + (8) + 1 + (8) + 1 + (8), locals := 41 } V [.ref h0] [(h0, .inr (6, [.null, .null, .null, .int 0]))] sz 6 (1 + (8) + 1 + (8) + 1 + (8)) (fun f => [(h0, .inr (6, [.ref (f 0), .ref (f 2), .ref (f 4), .int (0 : Int32)])), ((f 0), .inr (5, [.ref (f 1)])), ((f 1), iZ V 8), ((f 2), .inr (5, [.ref (f 3)])), ((f 3), iZ V 8), ((f 4), .inr (5, [.ref (f 5)])), ((f 5), iZ V 8)]) := by
  refine Met.ofW (cc := cX6_init) (maxL := 1) (ret := none) (by decide) rfl ?_
  intro p e s m args below meth c s₁ B hml hv
  obtain ⟨rfl, hsz, hP, hK, hD0⟩ := hv
  have hx := B.exec
  have hb := B.bytes
  have hr := B.returns
  have hts := atoms_spec (ws := wsX6_init) B.pre
  have hown : s.vm.findClass RX6 = some m.cls := findClass_of_methodNamed B.named
  have hin : meth.name = "<init>" := (name_of_methodNamed B.named B.method).1
  subst hsz
  have hD := hD0.self (sz := s.heap.size)
  generalize hAe : va_A [(h0, .inr (6, [.null, .null, .null, .int 0]))] s.heap.size = A at hD ⊢
  have hA : ∀ q : Nat, s.heap.size ≤ q → A q := fun q h => by rw [← hAe]; exact Or.inr h
  have hS : va_S A s.heap s.heap [] := va_S.rf
  have hl := lv_entry ([.ref h0]) (n := 1) (Nat.le_of_ble_eq_true rfl)
  rw [lg_entry_eq]
  generalize (lg_sl ([.ref h0]) ++ List.replicate (1 - (lg_sl ([.ref h0])).length) Slot.unset).toArray = ls at hl ⊢
  have hl : lv_has ls 1 [(0, .ref h0)] := hl
  refine lv_aload_n hx hb dX6_init_0 rfl (lv_at hl 0 rfl) ?_
  refine W.objInit hx hb hown (hts (.methodLink RX6 3 objectInit) (by decide +kernel)) (hts (.instanceMethod objectInit) (by decide +kernel)) (hts _ (List.mem_of_getElem? (i := 3) rfl)) rfl (by rw [hml]; exact hl.1) rfl dX6_init_1 (Nat.le_of_ble_eq_true rfl) (Nat.le_of_ble_eq_true rfl) ?_
  refine W.eq (g2 := F0 m 4 ls []) rfl ?_
  refine lv_aload_n hx hb dX6_init_4 rfl (lv_at hl 0 rfl) ?_
  have hkc5 : 1 ≤ 6 := by omega
  have hks5 : 0 + 1 ≤ 1 + (8) + 1 + (8) + 1 + (8) := by omega
  refine va_new (ci := 5) (fs := [.null]) (C := RX5) (T := TX5) (N := 1) hx hb hts (by decide +kernel) tyX5 tyX5_ok hown (hts (.classLink RX6 9 RX5) (by decide +kernel)) (hts (.instantiable RX5 1) (by decide +kernel)) (hts (.initialized RX5) (by decide +kernel)) hK.1 hP hD hS hA rfl (fun j hj => by have : j = 0 ∨ j = 0 := (by omega); rcases this with rfl | rfl <;> rfl) hkc5 hks5 dX6_init_5 (fun q5 H hP hD hS => ?_)
  have hP : va_P V.1 vwCl [(h0, .inr (6, [.null, .null, .null, .int 0])), (q5, .inr (5, [.null]))] H := hP
  have hD : va_D A [(h0, .inr (6, [.null, .null, .null, .int 0])), (q5, .inr (5, [.null]))] := hD
  refine W.widen (k := 1) (n := 1) (by omega) (by omega) ?_
  refine lv_dup hx hb dX6_init_8 rfl ?_
  refine lv_bipush (v := (nI 8)) hx hb dX6_init_9 (by decide) ?_
  have hPc := hP.sub (ws' := [(q5, .inr (5, [.null]))]) [1] rfl
  have hDc := hD.sub (ws' := [(q5, .inr (5, [.null]))]) [1] (by decide) rfl
  have hFc := va_free (wc := [(q5, .inr (5, [.null]))]) hD hS hA [1] rfl
  have hkc11 : 2 ≤ 6 := by omega
  have hks11 : 1 + (8) ≤ 1 + (8) + 1 + (8) + 1 + (8) := by omega
  refine va_callv (va_runI (As := [.int (nI 8)]) (rest := [.ref q5, .ref h0]) ⟨hx, hb, hml, hown, hts⟩ (iRow l V q5 H.size 8 (by omega)) (cwI 1 hts gX6_init_X5_init rfl rfl rfl (hts (.initialized RX5) (by decide +kernel)) (hts (.methodLink RX6 11 yX5_init) (by decide +kernel)) (hts (.instanceMethod yX5_init) (by decide +kernel)) rfl (by decide +kernel) ⟨Nat.le_of_ble_eq_true rfl, Nat.le_of_ble_eq_true rfl⟩) ⟨fun a U g mk q => by obtain ⟨q0, q1, qP, qK, qD⟩ := q; exact ⟨q0, q1, qP, ⟨va_K.moved (u := U) (U := U.calling g mk a) (Vm.Alike.refl U.vm) qK.1, xN.same rfl qK.2⟩, qD⟩, fun U hU hW => ⟨rfl, by rw [hU], by rw [hU]; exact hPc, ⟨va_K.moved hW.alike hK.1, xN.warm hW hK.2⟩, hDc.weaken (fun _ _ _ _ => trivial)⟩⟩ rfl rfl hl.1 rfl (lv_room (Nat.le_of_ble_eq_true rfl)) dX6_init_11 ⟨hkc11, hks11⟩) hS (fun q _ h => hFc q h) hFc (fun u t H1 locs ht hvm hw hB hz1 hk1 hS => ?_)
  obtain ⟨f11, rfl⟩ : ∃ z, z = u := ⟨_, rfl⟩
  obtain ⟨hP1, hD1⟩ := hB
  rw [ht] at hP1
  obtain ⟨hP, hD⟩ := va_join (wr := [(h0, .inr (6, [.null, .null, .null, .int 0]))]) (w1 := [(q5, .inr (5, [.ref (f11 0)])), ((f11 0), iZ V 8)]) hP hD [1] [0] rfl rfl (by decide) (by decide) hk1 hFc hP1 hD1
  generalize H1 = H at hP hS ⊢
  have hP : va_P V.1 vwCl [(h0, .inr (6, [.null, .null, .null, .int 0])), (q5, .inr (5, [.ref (f11 0)])), ((f11 0), iZ V 8)] H := hP
  have hD : va_D A [(h0, .inr (6, [.null, .null, .null, .int 0])), (q5, .inr (5, [.ref (f11 0)])), ((f11 0), iZ V 8)] := hD
  refine W.widen (k := 2) (n := 1 + (8)) (by omega) (by omega) ?_
  refine va_putF (D := V.1) (ci := 6) (v := .ref q5) (ty := .object "ProductLineChecker$Row") (C := RX6) (T := TX6) (N := 4) hx hb hts (by decide +kernel) tyX6 tyX6_ok nmX6 hown hK.1 hP hD hS 0 rfl rfl 0 (by decide) (hts (.fieldLink RX6 14 "ProductLineChecker$Rules" "kinds" "LProductLineChecker$Row;") (by decide +kernel)) (fun _ h9 => h9) rfl hin rfl (by decide +kernel) rfl rfl (Nat.le_of_ble_eq_true rfl) dX6_init_14 (fun H locs hP hD hS => ?_)
  have hP : va_P V.1 vwCl [(h0, .inr (6, [.ref q5, .null, .null, .int 0])), (q5, .inr (5, [.ref (f11 0)])), ((f11 0), iZ V 8)] H := hP
  have hD : va_D A [(h0, .inr (6, [.ref q5, .null, .null, .int 0])), (q5, .inr (5, [.ref (f11 0)])), ((f11 0), iZ V 8)] := hD
  refine lv_aload_n hx hb dX6_init_17 rfl (lv_at hl 0 rfl) ?_
  have hkc18 : 3 ≤ 6 := by omega
  have hks18 : 1 + (8) + 1 ≤ 1 + (8) + 1 + (8) + 1 + (8) := by omega
  refine va_new (ci := 5) (fs := [.null]) (C := RX5) (T := TX5) (N := 1) hx hb hts (by decide +kernel) tyX5 tyX5_ok hown (hts (.classLink RX6 9 RX5) (by decide +kernel)) (hts (.instantiable RX5 1) (by decide +kernel)) (hts (.initialized RX5) (by decide +kernel)) hK.1 hP hD hS hA rfl (fun j hj => by have : j = 0 ∨ j = 0 := (by omega); rcases this with rfl | rfl <;> rfl) hkc18 hks18 dX6_init_18 (fun q18 H hP hD hS => ?_)
  have hP : va_P V.1 vwCl [(h0, .inr (6, [.ref q5, .null, .null, .int 0])), (q5, .inr (5, [.ref (f11 0)])), ((f11 0), iZ V 8), (q18, .inr (5, [.null]))] H := hP
  have hD : va_D A [(h0, .inr (6, [.ref q5, .null, .null, .int 0])), (q5, .inr (5, [.ref (f11 0)])), ((f11 0), iZ V 8), (q18, .inr (5, [.null]))] := hD
  refine W.widen (k := 3) (n := 1 + (8) + 1) (by omega) (by omega) ?_
  refine lv_dup hx hb dX6_init_21 rfl ?_
  refine lv_bipush (v := (nI 8)) hx hb dX6_init_22 (by decide) ?_
  have hPc := hP.sub (ws' := [(q18, .inr (5, [.null]))]) [3] rfl
  have hDc := hD.sub (ws' := [(q18, .inr (5, [.null]))]) [3] (by decide) rfl
  have hFc := va_free (wc := [(q18, .inr (5, [.null]))]) hD hS hA [3] rfl
  have hkc24 : 4 ≤ 6 := by omega
  have hks24 : 1 + (8) + 1 + (8) ≤ 1 + (8) + 1 + (8) + 1 + (8) := by omega
  refine va_callv (va_runI (As := [.int (nI 8)]) (rest := [.ref q18, .ref h0]) ⟨hx, hb, hml, hown, hts⟩ (iRow l V q18 H.size 8 (by omega)) (cwI 1 hts gX6_init_X5_init rfl rfl rfl (hts (.initialized RX5) (by decide +kernel)) (hts (.methodLink RX6 11 yX5_init) (by decide +kernel)) (hts (.instanceMethod yX5_init) (by decide +kernel)) rfl (by decide +kernel) ⟨Nat.le_of_ble_eq_true rfl, Nat.le_of_ble_eq_true rfl⟩) ⟨fun a U g mk q => by obtain ⟨q0, q1, qP, qK, qD⟩ := q; exact ⟨q0, q1, qP, ⟨va_K.moved (u := U) (U := U.calling g mk a) (Vm.Alike.refl U.vm) qK.1, xN.same rfl qK.2⟩, qD⟩, fun U hU hW => ⟨rfl, by rw [hU], by rw [hU]; exact hPc, ⟨va_K.moved hW.alike hK.1, xN.warm hW hK.2⟩, hDc.weaken (fun _ _ _ _ => trivial)⟩⟩ rfl rfl hl.1 rfl (lv_room (Nat.le_of_ble_eq_true rfl)) dX6_init_24 ⟨hkc24, hks24⟩) hS (fun q _ h => hFc q h) hFc (fun u t H1 locs ht hvm hw hB hz1 hk1 hS => ?_)
  obtain ⟨f24, rfl⟩ : ∃ z, z = u := ⟨_, rfl⟩
  obtain ⟨hP1, hD1⟩ := hB
  rw [ht] at hP1
  obtain ⟨hP, hD⟩ := va_join (wr := [(h0, .inr (6, [.ref q5, .null, .null, .int 0])), (q5, .inr (5, [.ref (f11 0)])), ((f11 0), iZ V 8)]) (w1 := [(q18, .inr (5, [.ref (f24 0)])), ((f24 0), iZ V 8)]) hP hD [3] [0, 1, 2] rfl rfl (by decide) (by decide) hk1 hFc hP1 hD1
  generalize H1 = H at hP hS ⊢
  have hP : va_P V.1 vwCl [(h0, .inr (6, [.ref q5, .null, .null, .int 0])), (q5, .inr (5, [.ref (f11 0)])), ((f11 0), iZ V 8), (q18, .inr (5, [.ref (f24 0)])), ((f24 0), iZ V 8)] H := hP
  have hD : va_D A [(h0, .inr (6, [.ref q5, .null, .null, .int 0])), (q5, .inr (5, [.ref (f11 0)])), ((f11 0), iZ V 8), (q18, .inr (5, [.ref (f24 0)])), ((f24 0), iZ V 8)] := hD
  refine W.widen (k := 4) (n := 1 + (8) + 1 + (8)) (by omega) (by omega) ?_
  refine va_putF (D := V.1) (ci := 6) (v := .ref q18) (ty := .object "ProductLineChecker$Row") (C := RX6) (T := TX6) (N := 4) hx hb hts (by decide +kernel) tyX6 tyX6_ok nmX6 hown hK.1 hP hD hS 0 rfl rfl 1 (by decide) (hts (.fieldLink RX6 20 "ProductLineChecker$Rules" "fs" "LProductLineChecker$Row;") (by decide +kernel)) (fun _ h9 => h9) rfl hin rfl (by decide +kernel) rfl rfl (Nat.le_of_ble_eq_true rfl) dX6_init_27 (fun H locs hP hD hS => ?_)
  have hP : va_P V.1 vwCl [(h0, .inr (6, [.ref q5, .ref q18, .null, .int 0])), (q5, .inr (5, [.ref (f11 0)])), ((f11 0), iZ V 8), (q18, .inr (5, [.ref (f24 0)])), ((f24 0), iZ V 8)] H := hP
  have hD : va_D A [(h0, .inr (6, [.ref q5, .ref q18, .null, .int 0])), (q5, .inr (5, [.ref (f11 0)])), ((f11 0), iZ V 8), (q18, .inr (5, [.ref (f24 0)])), ((f24 0), iZ V 8)] := hD
  refine lv_aload_n hx hb dX6_init_30 rfl (lv_at hl 0 rfl) ?_
  have hkc31 : 5 ≤ 6 := by omega
  have hks31 : 1 + (8) + 1 + (8) + 1 ≤ 1 + (8) + 1 + (8) + 1 + (8) := by omega
  refine va_new (ci := 5) (fs := [.null]) (C := RX5) (T := TX5) (N := 1) hx hb hts (by decide +kernel) tyX5 tyX5_ok hown (hts (.classLink RX6 9 RX5) (by decide +kernel)) (hts (.instantiable RX5 1) (by decide +kernel)) (hts (.initialized RX5) (by decide +kernel)) hK.1 hP hD hS hA rfl (fun j hj => by have : j = 0 ∨ j = 0 := (by omega); rcases this with rfl | rfl <;> rfl) hkc31 hks31 dX6_init_31 (fun q31 H hP hD hS => ?_)
  have hP : va_P V.1 vwCl [(h0, .inr (6, [.ref q5, .ref q18, .null, .int 0])), (q5, .inr (5, [.ref (f11 0)])), ((f11 0), iZ V 8), (q18, .inr (5, [.ref (f24 0)])), ((f24 0), iZ V 8), (q31, .inr (5, [.null]))] H := hP
  have hD : va_D A [(h0, .inr (6, [.ref q5, .ref q18, .null, .int 0])), (q5, .inr (5, [.ref (f11 0)])), ((f11 0), iZ V 8), (q18, .inr (5, [.ref (f24 0)])), ((f24 0), iZ V 8), (q31, .inr (5, [.null]))] := hD
  refine W.widen (k := 5) (n := 1 + (8) + 1 + (8) + 1) (by omega) (by omega) ?_
  refine lv_dup hx hb dX6_init_34 rfl ?_
  refine lv_bipush (v := (nI 8)) hx hb dX6_init_35 (by decide) ?_
  have hPc := hP.sub (ws' := [(q31, .inr (5, [.null]))]) [5] rfl
  have hDc := hD.sub (ws' := [(q31, .inr (5, [.null]))]) [5] (by decide) rfl
  have hFc := va_free (wc := [(q31, .inr (5, [.null]))]) hD hS hA [5] rfl
  have hkc37 : 6 ≤ 6 := by omega
  have hks37 : 1 + (8) + 1 + (8) + 1 + (8) ≤ 1 + (8) + 1 + (8) + 1 + (8) := by omega
  refine va_callv (va_runI (As := [.int (nI 8)]) (rest := [.ref q31, .ref h0]) ⟨hx, hb, hml, hown, hts⟩ (iRow l V q31 H.size 8 (by omega)) (cwI 1 hts gX6_init_X5_init rfl rfl rfl (hts (.initialized RX5) (by decide +kernel)) (hts (.methodLink RX6 11 yX5_init) (by decide +kernel)) (hts (.instanceMethod yX5_init) (by decide +kernel)) rfl (by decide +kernel) ⟨Nat.le_of_ble_eq_true rfl, Nat.le_of_ble_eq_true rfl⟩) ⟨fun a U g mk q => by obtain ⟨q0, q1, qP, qK, qD⟩ := q; exact ⟨q0, q1, qP, ⟨va_K.moved (u := U) (U := U.calling g mk a) (Vm.Alike.refl U.vm) qK.1, xN.same rfl qK.2⟩, qD⟩, fun U hU hW => ⟨rfl, by rw [hU], by rw [hU]; exact hPc, ⟨va_K.moved hW.alike hK.1, xN.warm hW hK.2⟩, hDc.weaken (fun _ _ _ _ => trivial)⟩⟩ rfl rfl hl.1 rfl (lv_room (Nat.le_of_ble_eq_true rfl)) dX6_init_37 ⟨hkc37, hks37⟩) hS (fun q _ h => hFc q h) hFc (fun u t H1 locs ht hvm hw hB hz1 hk1 hS => ?_)
  obtain ⟨f37, rfl⟩ : ∃ z, z = u := ⟨_, rfl⟩
  obtain ⟨hP1, hD1⟩ := hB
  rw [ht] at hP1
  obtain ⟨hP, hD⟩ := va_join (wr := [(h0, .inr (6, [.ref q5, .ref q18, .null, .int 0])), (q5, .inr (5, [.ref (f11 0)])), ((f11 0), iZ V 8), (q18, .inr (5, [.ref (f24 0)])), ((f24 0), iZ V 8)]) (w1 := [(q31, .inr (5, [.ref (f37 0)])), ((f37 0), iZ V 8)]) hP hD [5] [0, 1, 2, 3, 4] rfl rfl (by decide) (by decide) hk1 hFc hP1 hD1
  generalize H1 = H at hP hS ⊢
  have hP : va_P V.1 vwCl [(h0, .inr (6, [.ref q5, .ref q18, .null, .int 0])), (q5, .inr (5, [.ref (f11 0)])), ((f11 0), iZ V 8), (q18, .inr (5, [.ref (f24 0)])), ((f24 0), iZ V 8), (q31, .inr (5, [.ref (f37 0)])), ((f37 0), iZ V 8)] H := hP
  have hD : va_D A [(h0, .inr (6, [.ref q5, .ref q18, .null, .int 0])), (q5, .inr (5, [.ref (f11 0)])), ((f11 0), iZ V 8), (q18, .inr (5, [.ref (f24 0)])), ((f24 0), iZ V 8), (q31, .inr (5, [.ref (f37 0)])), ((f37 0), iZ V 8)] := hD
  refine W.widen (k := 6) (n := 1 + (8) + 1 + (8) + 1 + (8)) (by omega) (by omega) ?_
  refine va_putF (D := V.1) (ci := 6) (v := .ref q31) (ty := .object "ProductLineChecker$Row") (C := RX6) (T := TX6) (N := 4) hx hb hts (by decide +kernel) tyX6 tyX6_ok nmX6 hown hK.1 hP hD hS 0 rfl rfl 2 (by decide) (hts (.fieldLink RX6 23 "ProductLineChecker$Rules" "gs" "LProductLineChecker$Row;") (by decide +kernel)) (fun _ h9 => h9) rfl hin rfl (by decide +kernel) rfl rfl (Nat.le_of_ble_eq_true rfl) dX6_init_40 (fun H locs hP hD hS => ?_)
  have hP : va_P V.1 vwCl [(h0, .inr (6, [.ref q5, .ref q18, .ref q31, .int 0])), (q5, .inr (5, [.ref (f11 0)])), ((f11 0), iZ V 8), (q18, .inr (5, [.ref (f24 0)])), ((f24 0), iZ V 8), (q31, .inr (5, [.ref (f37 0)])), ((f37 0), iZ V 8)] H := hP
  have hD : va_D A [(h0, .inr (6, [.ref q5, .ref q18, .ref q31, .int 0])), (q5, .inr (5, [.ref (f11 0)])), ((f11 0), iZ V 8), (q18, .inr (5, [.ref (f24 0)])), ((f24 0), iZ V 8), (q31, .inr (5, [.ref (f37 0)])), ((f37 0), iZ V 8)] := hD
  refine lv_aload_n hx hb dX6_init_43 rfl (lv_at hl 0 rfl) ?_
  refine lv_iconst (v := (0 : Int32)) hx hb dX6_init_44 (by decide) ?_
  refine va_put (D := V.1) (ci := 6) (v := .int (0 : Int32)) (ty := .int) (C := RX6) (T := TX6) (N := 4) hx hb hts (by decide +kernel) tyX6 tyX6_ok nmX6 hown hK.1 hP hD hS 0 rfl rfl 3 (by decide) (hts (.fieldLink RX6 26 "ProductLineChecker$Rules" "size" "I") (by decide +kernel)) (fun _ h9 => h9) rfl (by decide +kernel) rfl rfl (Nat.le_of_ble_eq_true rfl) dX6_init_45 (fun H locs hP hD hS => ?_)
  have hP : va_P V.1 vwCl [(h0, .inr (6, [.ref q5, .ref q18, .ref q31, .int (0 : Int32)])), (q5, .inr (5, [.ref (f11 0)])), ((f11 0), iZ V 8), (q18, .inr (5, [.ref (f24 0)])), ((f24 0), iZ V 8), (q31, .inr (5, [.ref (f37 0)])), ((f37 0), iZ V 8)] H := hP
  have hD : va_D A [(h0, .inr (6, [.ref q5, .ref q18, .ref q31, .int (0 : Int32)])), (q5, .inr (5, [.ref (f11 0)])), ((f11 0), iZ V 8), (q18, .inr (5, [.ref (f24 0)])), ((f24 0), iZ V 8), (q31, .inr (5, [.ref (f37 0)])), ((f37 0), iZ V 8)] := hD
  exact W.vret hx hb hr (fun t ht hW => ⟨⟨fun k => [q5, (f11 0), q18, (f24 0), q31, (f37 0)].getD k 0, rfl, trivial, by rw [ht]; exact hP, hD⟩, hS.F ht⟩) hS.2.2 dX6_init_48


/-! The constructors. -/
def iZ (V : xV) (n : Nat) : va_E := .inl (V.2.1, n, .inl fun _ => 0)
def iB (V : xV) (n : Nat) : va_E := .inl (V.2.2.1, n, .inl fun _ => 0)
/-- a constructor's contract: from the bare object it makes the cells T, at addresses f -/
def iM (l : Launch) (y : MethodName) (ws : List Cond) (rm : Room) (V : xV) (av : List Value) (W0 : va_W) (sz cells slots : Nat) (T : (Nat → Nat) → va_W) : Prop := Met l y ws rm (va_Pc av (fun U => U.heap.size = sz ∧ va_P V.1 vwCl W0 U.heap ∧ xK V U ∧ va_D (fun _ => True) W0)) (va_Qv (fun _ : Nat → Nat => True) (fun f U => va_P V.1 vwCl (T f) U.heap ∧ va_D (va_A W0 sz) (T f)) (va_A W0 sz)) cells slots (va_A W0 sz)
theorem iK_int {V : xV} {s : State} {cA : ClassId} (h : va_K V.1 vwCl (xty V ++ [(cA, .int)]) s) : cA = V.2.1 := by
  have h1 := (h.2 0 (V.2.1, .int) rfl).2
  have h2 := (h.2 3 (cA, .int) rfl).2
  exact Option.some.inj (h2.symm.trans h1)
theorem iK_bool {V : xV} {s : State} {cA : ClassId} (h : va_K V.1 vwCl (xty V ++ [(cA, .boolean)]) s) : cA = V.2.2.1 := by
  have h1 := (h.2 1 (V.2.2.1, .boolean) rfl).2
  have h2 := (h.2 3 (cA, .boolean) rfl).2
  exact Option.some.inj (h2.symm.trans h1)
theorem nI_ge0 {n : Nat} (h : n < 2 ^ 31) : 0 ≤ nI n := by
  rw [Int32.le_iff_toInt_le, nI_toInt h]
  exact Int.natCast_nonneg n
theorem iRow (l : Launch) (V : xV) (h0 sz N : Nat) (hN : N < 1000) : iM l yX5_init wsX5_init { frames := 1, cells := 1, slots := N, locals := 20 } V [.ref h0, .int (nI N)] [(h0, .inr (5, [.null]))] sz 1 N (fun f => [(h0, .inr (5, [.ref (f 0)])), (f 0, iZ V N)]) := by
  refine Met.ofW (cc := cX5_init) (maxL := 2) (ret := none) (by decide) rfl ?_
  intro p e s m args below meth c s₁ B hml hv
  obtain ⟨rfl, hsz, hP, hK, hD0⟩ := hv
  have hx := B.exec
  have hb := B.bytes
  have hr := B.returns
  have hts := atoms_spec (ws := wsX5_init) B.pre
  have hown : s.vm.findClass RX5 = some m.cls := findClass_of_methodNamed B.named
  have hin : meth.name = "<init>" := (name_of_methodNamed B.named B.method).1
  subst hsz
  have hD := hD0.self (sz := s.heap.size)
  generalize hAe : va_A [(h0, .inr (5, [.null]))] s.heap.size = A at hD ⊢
  have hA : ∀ q : Nat, s.heap.size ≤ q → A q := fun q h => by rw [← hAe]; exact Or.inr h
  have hS : va_S A s.heap s.heap [] := va_S.rf
  have hl := lv_entry ([.ref h0, .int (nI N)]) (n := 2) (Nat.le_of_ble_eq_true rfl)
  rw [lg_entry_eq]
  generalize (lg_sl ([.ref h0, .int (nI N)]) ++ List.replicate (2 - (lg_sl ([.ref h0, .int (nI N)])).length) Slot.unset).toArray = ls at hl ⊢
  have hl : lv_has ls 2 [(0, .ref h0), (1, .int (nI N))] := hl
  refine lv_aload_n hx hb dX5_init_0 rfl (lv_at hl 0 rfl) ?_
  refine W.objInit hx hb hown (hts (.methodLink RX5 3 objectInit) (by decide +kernel)) (hts (.instanceMethod objectInit) (by decide +kernel)) (hts _ (List.mem_cons_of_mem _ (List.mem_append_left _ (List.mem_of_getElem? (i := 2) rfl)))) rfl (by rw [hml]; exact hl.1) rfl dX5_init_1 (Nat.le_of_ble_eq_true rfl) (Nat.le_of_ble_eq_true rfl) ?_
  refine W.eq (g2 := F0 m 4 ls []) rfl ?_
  refine lv_aload_n hx hb dX5_init_4 rfl (lv_at hl 0 rfl) ?_
  refine lv_iload_n hx hb dX5_init_5 rfl (lv_at hl 1 rfl) ?_
  refine lv_if_ge (tgt := 13) hx hb dX5_init_6 rfl (fun _ => ?_) (fun h => absurd (nI_ge0 (by omega)) h)
  refine lv_iload_n hx hb dX5_init_13 rfl (lv_at hl 1 rfl) ?_
  refine va_newa (N' := N) (a0 := (N, .inl fun _ => 0)) hx hb (atype := .int) (hts (.arrayClass .int) (by decide +kernel)) rfl hK.1 hP hD hS hA (fun _ => rfl) (by have := nI_ge0 (n := N) (by omega); exact Int32.not_lt.mpr this) (nI_clamp (by omega)) (by show N * 4 ≤ _; omega) (Nat.le_refl 1) (by show 0 + N ≤ N; omega) dX5_init_14 (fun q cA H1 hK1 hP hD hS => ?_)
  have hcA := iK_int hK1
  subst hcA
  refine va_putF (D := V.1) (ci := 5) (v := .ref q) (ty := .array .int) (C := RX5) (T := TX5) (N := 1) hx hb hts (by decide +kernel) tyX5 tyX5_ok nmX5 hown hK.1 hP hD hS 0 rfl rfl 0 (by decide) (hts (.fieldLink RX5 9 RX5 "numbers" "[I") (by decide +kernel)) (fun _ h9 => h9) rfl hin rfl (by decide +kernel) rfl rfl (Nat.le_of_ble_eq_true rfl) dX5_init_16 (fun H locs hP hD hS => ?_)
  refine W.widen (k := 1) (n := N) (Nat.le_refl 1) (by omega) ?_
  exact W.vret hx hb hr (fun t ht hW => ⟨⟨fun _ => q, rfl, trivial, by rw [ht]; exact hP, hD⟩, hS.F ht⟩) hS.2.2 dX5_init_19
set_option maxHeartbeats 4000000 in
set_option maxRecDepth 100000 in
theorem iRules (l : Launch) (V : xV) (h0 sz : Nat)  : iM l yX6_init wsX6_init { frames := 2, cells := 6, slots := 1 + (8) + 1 + (8) + 1 + (8), locals := 41 } V [.ref h0] [(h0, .inr (6, [.null, .null, .null, .int 0]))] sz 6 (1 + (8) + 1 + (8) + 1 + (8)) (fun f => [(h0, .inr (6, [.ref (f 0), .ref (f 2), .ref (f 4), .int (0 : Int32)])), ((f 0), .inr (5, [.ref (f 1)])), ((f 1), iZ V 8), ((f 2), .inr (5, [.ref (f 3)])), ((f 3), iZ V 8), ((f 4), .inr (5, [.ref (f 5)])), ((f 5), iZ V 8)]) := by
  refine Met.ofW (cc := cX6_init) (maxL := 1) (ret := none) (by decide) rfl ?_
  intro p e s m args below meth c s₁ B hml hv
  obtain ⟨rfl, hsz, hP, hK, hD0⟩ := hv
  have hx := B.exec
  have hb := B.bytes
  have hr := B.returns
  have hts := atoms_spec (ws := wsX6_init) B.pre
  have hown : s.vm.findClass RX6 = some m.cls := findClass_of_methodNamed B.named
  have hin : meth.name = "<init>" := (name_of_methodNamed B.named B.method).1
  subst hsz
  have hD := hD0.self (sz := s.heap.size)
  generalize hAe : va_A [(h0, .inr (6, [.null, .null, .null, .int 0]))] s.heap.size = A at hD ⊢
  have hA : ∀ q : Nat, s.heap.size ≤ q → A q := fun q h => by rw [← hAe]; exact Or.inr h
  have hS : va_S A s.heap s.heap [] := va_S.rf
  have hl := lv_entry ([.ref h0]) (n := 1) (Nat.le_of_ble_eq_true rfl)
  rw [lg_entry_eq]
  generalize (lg_sl ([.ref h0]) ++ List.replicate (1 - (lg_sl ([.ref h0])).length) Slot.unset).toArray = ls at hl ⊢
  have hl : lv_has ls 1 [(0, .ref h0)] := hl
  refine lv_aload_n hx hb dX6_init_0 rfl (lv_at hl 0 rfl) ?_
  refine W.objInit hx hb hown (hts (.methodLink RX6 3 objectInit) (by decide +kernel)) (hts (.instanceMethod objectInit) (by decide +kernel)) (hts _ (List.mem_of_getElem? (i := 3) rfl)) rfl (by rw [hml]; exact hl.1) rfl dX6_init_1 (Nat.le_of_ble_eq_true rfl) (Nat.le_of_ble_eq_true rfl) ?_
  refine W.eq (g2 := F0 m 4 ls []) rfl ?_
  refine lv_aload_n hx hb dX6_init_4 rfl (lv_at hl 0 rfl) ?_
  have hkc5 : 1 ≤ 6 := by omega
  have hks5 : 0 + 1 ≤ 1 + (8) + 1 + (8) + 1 + (8) := by omega
  refine va_new (ci := 5) (fs := [.null]) (C := RX5) (T := TX5) (N := 1) hx hb hts (by decide +kernel) tyX5 tyX5_ok hown (hts (.classLink RX6 9 RX5) (by decide +kernel)) (hts (.instantiable RX5 1) (by decide +kernel)) (hts (.initialized RX5) (by decide +kernel)) hK.1 hP hD hS hA rfl (fun j hj => by have : j = 0 ∨ j = 0 := (by omega); rcases this with rfl | rfl <;> rfl) hkc5 hks5 dX6_init_5 (fun q5 H hP hD hS => ?_)
  have hP : va_P V.1 vwCl [(h0, .inr (6, [.null, .null, .null, .int 0])), (q5, .inr (5, [.null]))] H := hP
  have hD : va_D A [(h0, .inr (6, [.null, .null, .null, .int 0])), (q5, .inr (5, [.null]))] := hD
  refine W.widen (k := 1) (n := 1) (by omega) (by omega) ?_
  refine lv_dup hx hb dX6_init_8 rfl ?_
  refine lv_bipush (v := (nI 8)) hx hb dX6_init_9 (by decide) ?_
  have hPc := hP.sub (ws' := [(q5, .inr (5, [.null]))]) [1] rfl
  have hDc := hD.sub (ws' := [(q5, .inr (5, [.null]))]) [1] (by decide) rfl
  have hFc := va_free (wc := [(q5, .inr (5, [.null]))]) hD hS hA [1] rfl
  have hkc11 : 2 ≤ 6 := by omega
  have hks11 : 1 + (8) ≤ 1 + (8) + 1 + (8) + 1 + (8) := by omega
  refine va_callv (va_runI (As := [.int (nI 8)]) (rest := [.ref q5, .ref h0]) ⟨hx, hb, hml, hown, hts⟩ (iRow l V q5 H.size 8 (by omega)) (cwI 1 hts gX6_init_X5_init rfl rfl rfl (hts (.initialized RX5) (by decide +kernel)) (hts (.methodLink RX6 11 yX5_init) (by decide +kernel)) (hts (.instanceMethod yX5_init) (by decide +kernel)) rfl (by decide +kernel) ⟨Nat.le_of_ble_eq_true rfl, Nat.le_of_ble_eq_true rfl⟩) ⟨fun a U g mk q => by obtain ⟨q0, q1, qP, qK, qD⟩ := q; exact ⟨q0, q1, qP, ⟨va_K.moved (u := U) (U := U.calling g mk a) (Vm.Alike.refl U.vm) qK.1, xN.same (s := U) (U := U.calling g mk a) rfl qK.2⟩, qD⟩, fun U hU hW => ⟨rfl, by rw [hU], by rw [hU]; exact hPc, ⟨va_K.moved hW.alike hK.1, xN.warm hW hK.2⟩, hDc.weaken (fun _ _ _ _ => trivial)⟩⟩ rfl rfl hl.1 rfl (lv_room (Nat.le_of_ble_eq_true rfl)) dX6_init_11 ⟨hkc11, hks11⟩) hS (fun q _ h => hFc q h) hFc (fun u t H1 locs ht hvm hw hB hz1 hk1 hS => ?_)
  obtain ⟨f11, rfl⟩ : ∃ z, z = u := ⟨_, rfl⟩
  obtain ⟨hP1, hD1⟩ := hB
  rw [ht] at hP1
  obtain ⟨hP, hD⟩ := va_join (wr := [(h0, .inr (6, [.null, .null, .null, .int 0]))]) (w1 := [(q5, .inr (5, [.ref (f11 0)])), ((f11 0), iZ V 8)]) hP hD [1] [0] rfl rfl (by decide) (by decide) hk1 hFc hP1 hD1
  generalize H1 = H at hP hS ⊢
  have hP : va_P V.1 vwCl [(h0, .inr (6, [.null, .null, .null, .int 0])), (q5, .inr (5, [.ref (f11 0)])), ((f11 0), iZ V 8)] H := hP
  have hD : va_D A [(h0, .inr (6, [.null, .null, .null, .int 0])), (q5, .inr (5, [.ref (f11 0)])), ((f11 0), iZ V 8)] := hD
  refine W.widen (k := 2) (n := 1 + (8)) (by omega) (by omega) ?_
  refine va_putF (D := V.1) (ci := 6) (v := .ref q5) (ty := .object "ProductLineChecker$Row") (C := RX6) (T := TX6) (N := 4) hx hb hts (by decide +kernel) tyX6 tyX6_ok nmX6 hown hK.1 hP hD hS 0 rfl rfl 0 (by decide) (hts (.fieldLink RX6 14 "ProductLineChecker$Rules" "kinds" "LProductLineChecker$Row;") (by decide +kernel)) (fun _ h9 => h9) rfl hin rfl (by decide +kernel) rfl rfl (Nat.le_of_ble_eq_true rfl) dX6_init_14 (fun H locs hP hD hS => ?_)
  have hP : va_P V.1 vwCl [(h0, .inr (6, [.ref q5, .null, .null, .int 0])), (q5, .inr (5, [.ref (f11 0)])), ((f11 0), iZ V 8)] H := hP
  have hD : va_D A [(h0, .inr (6, [.ref q5, .null, .null, .int 0])), (q5, .inr (5, [.ref (f11 0)])), ((f11 0), iZ V 8)] := hD
  refine lv_aload_n hx hb dX6_init_17 rfl (lv_at hl 0 rfl) ?_
  have hkc18 : 3 ≤ 6 := by omega
  have hks18 : 1 + (8) + 1 ≤ 1 + (8) + 1 + (8) + 1 + (8) := by omega
  refine va_new (ci := 5) (fs := [.null]) (C := RX5) (T := TX5) (N := 1) hx hb hts (by decide +kernel) tyX5 tyX5_ok hown (hts (.classLink RX6 9 RX5) (by decide +kernel)) (hts (.instantiable RX5 1) (by decide +kernel)) (hts (.initialized RX5) (by decide +kernel)) hK.1 hP hD hS hA rfl (fun j hj => by have : j = 0 ∨ j = 0 := (by omega); rcases this with rfl | rfl <;> rfl) hkc18 hks18 dX6_init_18 (fun q18 H hP hD hS => ?_)
  have hP : va_P V.1 vwCl [(h0, .inr (6, [.ref q5, .null, .null, .int 0])), (q5, .inr (5, [.ref (f11 0)])), ((f11 0), iZ V 8), (q18, .inr (5, [.null]))] H := hP
  have hD : va_D A [(h0, .inr (6, [.ref q5, .null, .null, .int 0])), (q5, .inr (5, [.ref (f11 0)])), ((f11 0), iZ V 8), (q18, .inr (5, [.null]))] := hD
  refine W.widen (k := 3) (n := 1 + (8) + 1) (by omega) (by omega) ?_
  refine lv_dup hx hb dX6_init_21 rfl ?_
  refine lv_bipush (v := (nI 8)) hx hb dX6_init_22 (by decide) ?_
  have hPc := hP.sub (ws' := [(q18, .inr (5, [.null]))]) [3] rfl
  have hDc := hD.sub (ws' := [(q18, .inr (5, [.null]))]) [3] (by decide) rfl
  have hFc := va_free (wc := [(q18, .inr (5, [.null]))]) hD hS hA [3] rfl
  have hkc24 : 4 ≤ 6 := by omega
  have hks24 : 1 + (8) + 1 + (8) ≤ 1 + (8) + 1 + (8) + 1 + (8) := by omega
  refine va_callv (va_runI (As := [.int (nI 8)]) (rest := [.ref q18, .ref h0]) ⟨hx, hb, hml, hown, hts⟩ (iRow l V q18 H.size 8 (by omega)) (cwI 1 hts gX6_init_X5_init rfl rfl rfl (hts (.initialized RX5) (by decide +kernel)) (hts (.methodLink RX6 11 yX5_init) (by decide +kernel)) (hts (.instanceMethod yX5_init) (by decide +kernel)) rfl (by decide +kernel) ⟨Nat.le_of_ble_eq_true rfl, Nat.le_of_ble_eq_true rfl⟩) ⟨fun a U g mk q => by obtain ⟨q0, q1, qP, qK, qD⟩ := q; exact ⟨q0, q1, qP, ⟨va_K.moved (u := U) (U := U.calling g mk a) (Vm.Alike.refl U.vm) qK.1, xN.same (s := U) (U := U.calling g mk a) rfl qK.2⟩, qD⟩, fun U hU hW => ⟨rfl, by rw [hU], by rw [hU]; exact hPc, ⟨va_K.moved hW.alike hK.1, xN.warm hW hK.2⟩, hDc.weaken (fun _ _ _ _ => trivial)⟩⟩ rfl rfl hl.1 rfl (lv_room (Nat.le_of_ble_eq_true rfl)) dX6_init_24 ⟨hkc24, hks24⟩) hS (fun q _ h => hFc q h) hFc (fun u t H1 locs ht hvm hw hB hz1 hk1 hS => ?_)
  obtain ⟨f24, rfl⟩ : ∃ z, z = u := ⟨_, rfl⟩
  obtain ⟨hP1, hD1⟩ := hB
  rw [ht] at hP1
  obtain ⟨hP, hD⟩ := va_join (wr := [(h0, .inr (6, [.ref q5, .null, .null, .int 0])), (q5, .inr (5, [.ref (f11 0)])), ((f11 0), iZ V 8)]) (w1 := [(q18, .inr (5, [.ref (f24 0)])), ((f24 0), iZ V 8)]) hP hD [3] [0, 1, 2] rfl rfl (by decide) (by decide) hk1 hFc hP1 hD1
  generalize H1 = H at hP hS ⊢
  have hP : va_P V.1 vwCl [(h0, .inr (6, [.ref q5, .null, .null, .int 0])), (q5, .inr (5, [.ref (f11 0)])), ((f11 0), iZ V 8), (q18, .inr (5, [.ref (f24 0)])), ((f24 0), iZ V 8)] H := hP
  have hD : va_D A [(h0, .inr (6, [.ref q5, .null, .null, .int 0])), (q5, .inr (5, [.ref (f11 0)])), ((f11 0), iZ V 8), (q18, .inr (5, [.ref (f24 0)])), ((f24 0), iZ V 8)] := hD
  refine W.widen (k := 4) (n := 1 + (8) + 1 + (8)) (by omega) (by omega) ?_
  refine va_putF (D := V.1) (ci := 6) (v := .ref q18) (ty := .object "ProductLineChecker$Row") (C := RX6) (T := TX6) (N := 4) hx hb hts (by decide +kernel) tyX6 tyX6_ok nmX6 hown hK.1 hP hD hS 0 rfl rfl 1 (by decide) (hts (.fieldLink RX6 20 "ProductLineChecker$Rules" "fs" "LProductLineChecker$Row;") (by decide +kernel)) (fun _ h9 => h9) rfl hin rfl (by decide +kernel) rfl rfl (Nat.le_of_ble_eq_true rfl) dX6_init_27 (fun H locs hP hD hS => ?_)
  have hP : va_P V.1 vwCl [(h0, .inr (6, [.ref q5, .ref q18, .null, .int 0])), (q5, .inr (5, [.ref (f11 0)])), ((f11 0), iZ V 8), (q18, .inr (5, [.ref (f24 0)])), ((f24 0), iZ V 8)] H := hP
  have hD : va_D A [(h0, .inr (6, [.ref q5, .ref q18, .null, .int 0])), (q5, .inr (5, [.ref (f11 0)])), ((f11 0), iZ V 8), (q18, .inr (5, [.ref (f24 0)])), ((f24 0), iZ V 8)] := hD
  refine lv_aload_n hx hb dX6_init_30 rfl (lv_at hl 0 rfl) ?_
  have hkc31 : 5 ≤ 6 := by omega
  have hks31 : 1 + (8) + 1 + (8) + 1 ≤ 1 + (8) + 1 + (8) + 1 + (8) := by omega
  refine va_new (ci := 5) (fs := [.null]) (C := RX5) (T := TX5) (N := 1) hx hb hts (by decide +kernel) tyX5 tyX5_ok hown (hts (.classLink RX6 9 RX5) (by decide +kernel)) (hts (.instantiable RX5 1) (by decide +kernel)) (hts (.initialized RX5) (by decide +kernel)) hK.1 hP hD hS hA rfl (fun j hj => by have : j = 0 ∨ j = 0 := (by omega); rcases this with rfl | rfl <;> rfl) hkc31 hks31 dX6_init_31 (fun q31 H hP hD hS => ?_)
  have hP : va_P V.1 vwCl [(h0, .inr (6, [.ref q5, .ref q18, .null, .int 0])), (q5, .inr (5, [.ref (f11 0)])), ((f11 0), iZ V 8), (q18, .inr (5, [.ref (f24 0)])), ((f24 0), iZ V 8), (q31, .inr (5, [.null]))] H := hP
  have hD : va_D A [(h0, .inr (6, [.ref q5, .ref q18, .null, .int 0])), (q5, .inr (5, [.ref (f11 0)])), ((f11 0), iZ V 8), (q18, .inr (5, [.ref (f24 0)])), ((f24 0), iZ V 8), (q31, .inr (5, [.null]))] := hD
  refine W.widen (k := 5) (n := 1 + (8) + 1 + (8) + 1) (by omega) (by omega) ?_
  refine lv_dup hx hb dX6_init_34 rfl ?_
  refine lv_bipush (v := (nI 8)) hx hb dX6_init_35 (by decide) ?_
  have hPc := hP.sub (ws' := [(q31, .inr (5, [.null]))]) [5] rfl
  have hDc := hD.sub (ws' := [(q31, .inr (5, [.null]))]) [5] (by decide) rfl
  have hFc := va_free (wc := [(q31, .inr (5, [.null]))]) hD hS hA [5] rfl
  have hkc37 : 6 ≤ 6 := by omega
  have hks37 : 1 + (8) + 1 + (8) + 1 + (8) ≤ 1 + (8) + 1 + (8) + 1 + (8) := by omega
  refine va_callv (va_runI (As := [.int (nI 8)]) (rest := [.ref q31, .ref h0]) ⟨hx, hb, hml, hown, hts⟩ (iRow l V q31 H.size 8 (by omega)) (cwI 1 hts gX6_init_X5_init rfl rfl rfl (hts (.initialized RX5) (by decide +kernel)) (hts (.methodLink RX6 11 yX5_init) (by decide +kernel)) (hts (.instanceMethod yX5_init) (by decide +kernel)) rfl (by decide +kernel) ⟨Nat.le_of_ble_eq_true rfl, Nat.le_of_ble_eq_true rfl⟩) ⟨fun a U g mk q => by obtain ⟨q0, q1, qP, qK, qD⟩ := q; exact ⟨q0, q1, qP, ⟨va_K.moved (u := U) (U := U.calling g mk a) (Vm.Alike.refl U.vm) qK.1, xN.same (s := U) (U := U.calling g mk a) rfl qK.2⟩, qD⟩, fun U hU hW => ⟨rfl, by rw [hU], by rw [hU]; exact hPc, ⟨va_K.moved hW.alike hK.1, xN.warm hW hK.2⟩, hDc.weaken (fun _ _ _ _ => trivial)⟩⟩ rfl rfl hl.1 rfl (lv_room (Nat.le_of_ble_eq_true rfl)) dX6_init_37 ⟨hkc37, hks37⟩) hS (fun q _ h => hFc q h) hFc (fun u t H1 locs ht hvm hw hB hz1 hk1 hS => ?_)
  obtain ⟨f37, rfl⟩ : ∃ z, z = u := ⟨_, rfl⟩
  obtain ⟨hP1, hD1⟩ := hB
  rw [ht] at hP1
  obtain ⟨hP, hD⟩ := va_join (wr := [(h0, .inr (6, [.ref q5, .ref q18, .null, .int 0])), (q5, .inr (5, [.ref (f11 0)])), ((f11 0), iZ V 8), (q18, .inr (5, [.ref (f24 0)])), ((f24 0), iZ V 8)]) (w1 := [(q31, .inr (5, [.ref (f37 0)])), ((f37 0), iZ V 8)]) hP hD [5] [0, 1, 2, 3, 4] rfl rfl (by decide) (by decide) hk1 hFc hP1 hD1
  generalize H1 = H at hP hS ⊢
  have hP : va_P V.1 vwCl [(h0, .inr (6, [.ref q5, .ref q18, .null, .int 0])), (q5, .inr (5, [.ref (f11 0)])), ((f11 0), iZ V 8), (q18, .inr (5, [.ref (f24 0)])), ((f24 0), iZ V 8), (q31, .inr (5, [.ref (f37 0)])), ((f37 0), iZ V 8)] H := hP
  have hD : va_D A [(h0, .inr (6, [.ref q5, .ref q18, .null, .int 0])), (q5, .inr (5, [.ref (f11 0)])), ((f11 0), iZ V 8), (q18, .inr (5, [.ref (f24 0)])), ((f24 0), iZ V 8), (q31, .inr (5, [.ref (f37 0)])), ((f37 0), iZ V 8)] := hD
  refine W.widen (k := 6) (n := 1 + (8) + 1 + (8) + 1 + (8)) (by omega) (by omega) ?_
  refine va_putF (D := V.1) (ci := 6) (v := .ref q31) (ty := .object "ProductLineChecker$Row") (C := RX6) (T := TX6) (N := 4) hx hb hts (by decide +kernel) tyX6 tyX6_ok nmX6 hown hK.1 hP hD hS 0 rfl rfl 2 (by decide) (hts (.fieldLink RX6 23 "ProductLineChecker$Rules" "gs" "LProductLineChecker$Row;") (by decide +kernel)) (fun _ h9 => h9) rfl hin rfl (by decide +kernel) rfl rfl (Nat.le_of_ble_eq_true rfl) dX6_init_40 (fun H locs hP hD hS => ?_)
  have hP : va_P V.1 vwCl [(h0, .inr (6, [.ref q5, .ref q18, .ref q31, .int 0])), (q5, .inr (5, [.ref (f11 0)])), ((f11 0), iZ V 8), (q18, .inr (5, [.ref (f24 0)])), ((f24 0), iZ V 8), (q31, .inr (5, [.ref (f37 0)])), ((f37 0), iZ V 8)] H := hP
  have hD : va_D A [(h0, .inr (6, [.ref q5, .ref q18, .ref q31, .int 0])), (q5, .inr (5, [.ref (f11 0)])), ((f11 0), iZ V 8), (q18, .inr (5, [.ref (f24 0)])), ((f24 0), iZ V 8), (q31, .inr (5, [.ref (f37 0)])), ((f37 0), iZ V 8)] := hD
  refine lv_aload_n hx hb dX6_init_43 rfl (lv_at hl 0 rfl) ?_
  refine lv_iconst (v := (0 : Int32)) hx hb dX6_init_44 (by decide) ?_
  refine va_put (D := V.1) (ci := 6) (v := .int (0 : Int32)) (ty := .int) (C := RX6) (T := TX6) (N := 4) hx hb hts (by decide +kernel) tyX6 tyX6_ok nmX6 hown hK.1 hP hD hS 0 rfl rfl 3 (by decide) (hts (.fieldLink RX6 26 "ProductLineChecker$Rules" "size" "I") (by decide +kernel)) (fun _ h9 => h9) rfl (by decide +kernel) rfl rfl (Nat.le_of_ble_eq_true rfl) dX6_init_45 (fun H locs hP hD hS => ?_)
  have hP : va_P V.1 vwCl [(h0, .inr (6, [.ref q5, .ref q18, .ref q31, .int (0 : Int32)])), (q5, .inr (5, [.ref (f11 0)])), ((f11 0), iZ V 8), (q18, .inr (5, [.ref (f24 0)])), ((f24 0), iZ V 8), (q31, .inr (5, [.ref (f37 0)])), ((f37 0), iZ V 8)] H := hP
  have hD : va_D A [(h0, .inr (6, [.ref q5, .ref q18, .ref q31, .int (0 : Int32)])), (q5, .inr (5, [.ref (f11 0)])), ((f11 0), iZ V 8), (q18, .inr (5, [.ref (f24 0)])), ((f24 0), iZ V 8), (q31, .inr (5, [.ref (f37 0)])), ((f37 0), iZ V 8)] := hD
  exact W.vret hx hb hr (fun t ht hW => ⟨⟨fun k => [q5, (f11 0), q18, (f24 0), q31, (f37 0)].getD k 0, rfl, trivial, by rw [ht]; exact hP, hD⟩, hS.F ht⟩) hS.2.2 dX6_init_48

set_option maxHeartbeats 4000000 in
set_option maxRecDepth 100000 in
theorem iExprs (l : Launch) (V : xV) (h0 sz : Nat)  : iM l yX1_init wsX1_init { frames := 2, cells := 12, slots := 1 + (50) + 1 + (50) + 1 + (50) + 1 + (50) + 1 + (50) + 1 + (50), locals := 41 } V [.ref h0] [(h0, .inr (1, [.null, .null, .null, .null, .null, .null, .int 0]))] sz 12 (1 + (50) + 1 + (50) + 1 + (50) + 1 + (50) + 1 + (50) + 1 + (50)) (fun f => [(h0, .inr (1, [.ref (f 0), .ref (f 2), .ref (f 4), .ref (f 6), .ref (f 8), .ref (f 10), .int (0 : Int32)])), ((f 0), .inr (5, [.ref (f 1)])), ((f 1), iZ V 50), ((f 2), .inr (5, [.ref (f 3)])), ((f 3), iZ V 50), ((f 4), .inr (5, [.ref (f 5)])), ((f 5), iZ V 50), ((f 6), .inr (5, [.ref (f 7)])), ((f 7), iZ V 50), ((f 8), .inr (5, [.ref (f 9)])), ((f 9), iZ V 50), ((f 10), .inr (5, [.ref (f 11)])), ((f 11), iZ V 50)]) := by
  refine Met.ofW (cc := cX1_init) (maxL := 1) (ret := none) (by decide) rfl ?_
  intro p e s m args below meth c s₁ B hml hv
  obtain ⟨rfl, hsz, hP, hK, hD0⟩ := hv
  have hx := B.exec
  have hb := B.bytes
  have hr := B.returns
  have hts := atoms_spec (ws := wsX1_init) B.pre
  have hown : s.vm.findClass RX1 = some m.cls := findClass_of_methodNamed B.named
  have hin : meth.name = "<init>" := (name_of_methodNamed B.named B.method).1
  subst hsz
  have hD := hD0.self (sz := s.heap.size)
  generalize hAe : va_A [(h0, .inr (1, [.null, .null, .null, .null, .null, .null, .int 0]))] s.heap.size = A at hD ⊢
  have hA : ∀ q : Nat, s.heap.size ≤ q → A q := fun q h => by rw [← hAe]; exact Or.inr h
  have hS : va_S A s.heap s.heap [] := va_S.rf
  have hl := lv_entry ([.ref h0]) (n := 1) (Nat.le_of_ble_eq_true rfl)
  rw [lg_entry_eq]
  generalize (lg_sl ([.ref h0]) ++ List.replicate (1 - (lg_sl ([.ref h0])).length) Slot.unset).toArray = ls at hl ⊢
  have hl : lv_has ls 1 [(0, .ref h0)] := hl
  refine lv_aload_n hx hb dX1_init_0 rfl (lv_at hl 0 rfl) ?_
  refine W.objInit hx hb hown (hts (.methodLink RX1 3 objectInit) (by decide +kernel)) (hts (.instanceMethod objectInit) (by decide +kernel)) (hts _ (List.mem_of_getElem? (i := 3) rfl)) rfl (by rw [hml]; exact hl.1) rfl dX1_init_1 (Nat.le_of_ble_eq_true rfl) (Nat.le_of_ble_eq_true rfl) ?_
  refine W.eq (g2 := F0 m 4 ls []) rfl ?_
  refine lv_aload_n hx hb dX1_init_4 rfl (lv_at hl 0 rfl) ?_
  have hkc5 : 1 ≤ 12 := by omega
  have hks5 : 0 + 1 ≤ 1 + (50) + 1 + (50) + 1 + (50) + 1 + (50) + 1 + (50) + 1 + (50) := by omega
  refine va_new (ci := 5) (fs := [.null]) (C := RX5) (T := TX5) (N := 1) hx hb hts (by decide +kernel) tyX5 tyX5_ok hown (hts (.classLink RX1 9 RX5) (by decide +kernel)) (hts (.instantiable RX5 1) (by decide +kernel)) (hts (.initialized RX5) (by decide +kernel)) hK.1 hP hD hS hA rfl (fun j hj => by have : j = 0 ∨ j = 0 := (by omega); rcases this with rfl | rfl <;> rfl) hkc5 hks5 dX1_init_5 (fun q5 H hP hD hS => ?_)
  have hP : va_P V.1 vwCl [(h0, .inr (1, [.null, .null, .null, .null, .null, .null, .int 0])), (q5, .inr (5, [.null]))] H := hP
  have hD : va_D A [(h0, .inr (1, [.null, .null, .null, .null, .null, .null, .int 0])), (q5, .inr (5, [.null]))] := hD
  refine W.widen (k := 1) (n := 1) (by omega) (by omega) ?_
  refine lv_dup hx hb dX1_init_8 rfl ?_
  refine lv_bipush (v := (nI 50)) hx hb dX1_init_9 (by decide) ?_
  have hPc := hP.sub (ws' := [(q5, .inr (5, [.null]))]) [1] rfl
  have hDc := hD.sub (ws' := [(q5, .inr (5, [.null]))]) [1] (by decide) rfl
  have hFc := va_free (wc := [(q5, .inr (5, [.null]))]) hD hS hA [1] rfl
  have hkc11 : 2 ≤ 12 := by omega
  have hks11 : 1 + (50) ≤ 1 + (50) + 1 + (50) + 1 + (50) + 1 + (50) + 1 + (50) + 1 + (50) := by omega
  refine va_callv (va_runI (As := [.int (nI 50)]) (rest := [.ref q5, .ref h0]) ⟨hx, hb, hml, hown, hts⟩ (iRow l V q5 H.size 50 (by omega)) (cwI 1 hts gX1_init_X5_init rfl rfl rfl (hts (.initialized RX5) (by decide +kernel)) (hts (.methodLink RX1 11 yX5_init) (by decide +kernel)) (hts (.instanceMethod yX5_init) (by decide +kernel)) rfl (by decide +kernel) ⟨Nat.le_of_ble_eq_true rfl, Nat.le_of_ble_eq_true rfl⟩) ⟨fun a U g mk q => by obtain ⟨q0, q1, qP, qK, qD⟩ := q; exact ⟨q0, q1, qP, ⟨va_K.moved (u := U) (U := U.calling g mk a) (Vm.Alike.refl U.vm) qK.1, xN.same (s := U) (U := U.calling g mk a) rfl qK.2⟩, qD⟩, fun U hU hW => ⟨rfl, by rw [hU], by rw [hU]; exact hPc, ⟨va_K.moved hW.alike hK.1, xN.warm hW hK.2⟩, hDc.weaken (fun _ _ _ _ => trivial)⟩⟩ rfl rfl hl.1 rfl (lv_room (Nat.le_of_ble_eq_true rfl)) dX1_init_11 ⟨hkc11, hks11⟩) hS (fun q _ h => hFc q h) hFc (fun u t H1 locs ht hvm hw hB hz1 hk1 hS => ?_)
  obtain ⟨f11, rfl⟩ : ∃ z, z = u := ⟨_, rfl⟩
  obtain ⟨hP1, hD1⟩ := hB
  rw [ht] at hP1
  obtain ⟨hP, hD⟩ := va_join (wr := [(h0, .inr (1, [.null, .null, .null, .null, .null, .null, .int 0]))]) (w1 := [(q5, .inr (5, [.ref (f11 0)])), ((f11 0), iZ V 50)]) hP hD [1] [0] rfl rfl (by decide) (by decide) hk1 hFc hP1 hD1
  generalize H1 = H at hP hS ⊢
  have hP : va_P V.1 vwCl [(h0, .inr (1, [.null, .null, .null, .null, .null, .null, .int 0])), (q5, .inr (5, [.ref (f11 0)])), ((f11 0), iZ V 50)] H := hP
  have hD : va_D A [(h0, .inr (1, [.null, .null, .null, .null, .null, .null, .int 0])), (q5, .inr (5, [.ref (f11 0)])), ((f11 0), iZ V 50)] := hD
  refine W.widen (k := 2) (n := 1 + (50)) (by omega) (by omega) ?_
  refine va_putF (D := V.1) (ci := 1) (v := .ref q5) (ty := .object "ProductLineChecker$Row") (C := RX1) (T := TX1) (N := 7) hx hb hts (by decide +kernel) tyX1 tyX1_ok nmX1 hown hK.1 hP hD hS 0 rfl rfl 0 (by decide) (hts (.fieldLink RX1 14 "ProductLineChecker$Expressions" "kinds" "LProductLineChecker$Row;") (by decide +kernel)) (fun _ h9 => h9) rfl hin rfl (by decide +kernel) rfl rfl (Nat.le_of_ble_eq_true rfl) dX1_init_14 (fun H locs hP hD hS => ?_)
  have hP : va_P V.1 vwCl [(h0, .inr (1, [.ref q5, .null, .null, .null, .null, .null, .int 0])), (q5, .inr (5, [.ref (f11 0)])), ((f11 0), iZ V 50)] H := hP
  have hD : va_D A [(h0, .inr (1, [.ref q5, .null, .null, .null, .null, .null, .int 0])), (q5, .inr (5, [.ref (f11 0)])), ((f11 0), iZ V 50)] := hD
  refine lv_aload_n hx hb dX1_init_17 rfl (lv_at hl 0 rfl) ?_
  have hkc18 : 3 ≤ 12 := by omega
  have hks18 : 1 + (50) + 1 ≤ 1 + (50) + 1 + (50) + 1 + (50) + 1 + (50) + 1 + (50) + 1 + (50) := by omega
  refine va_new (ci := 5) (fs := [.null]) (C := RX5) (T := TX5) (N := 1) hx hb hts (by decide +kernel) tyX5 tyX5_ok hown (hts (.classLink RX1 9 RX5) (by decide +kernel)) (hts (.instantiable RX5 1) (by decide +kernel)) (hts (.initialized RX5) (by decide +kernel)) hK.1 hP hD hS hA rfl (fun j hj => by have : j = 0 ∨ j = 0 := (by omega); rcases this with rfl | rfl <;> rfl) hkc18 hks18 dX1_init_18 (fun q18 H hP hD hS => ?_)
  have hP : va_P V.1 vwCl [(h0, .inr (1, [.ref q5, .null, .null, .null, .null, .null, .int 0])), (q5, .inr (5, [.ref (f11 0)])), ((f11 0), iZ V 50), (q18, .inr (5, [.null]))] H := hP
  have hD : va_D A [(h0, .inr (1, [.ref q5, .null, .null, .null, .null, .null, .int 0])), (q5, .inr (5, [.ref (f11 0)])), ((f11 0), iZ V 50), (q18, .inr (5, [.null]))] := hD
  refine W.widen (k := 3) (n := 1 + (50) + 1) (by omega) (by omega) ?_
  refine lv_dup hx hb dX1_init_21 rfl ?_
  refine lv_bipush (v := (nI 50)) hx hb dX1_init_22 (by decide) ?_
  have hPc := hP.sub (ws' := [(q18, .inr (5, [.null]))]) [3] rfl
  have hDc := hD.sub (ws' := [(q18, .inr (5, [.null]))]) [3] (by decide) rfl
  have hFc := va_free (wc := [(q18, .inr (5, [.null]))]) hD hS hA [3] rfl
  have hkc24 : 4 ≤ 12 := by omega
  have hks24 : 1 + (50) + 1 + (50) ≤ 1 + (50) + 1 + (50) + 1 + (50) + 1 + (50) + 1 + (50) + 1 + (50) := by omega
  refine va_callv (va_runI (As := [.int (nI 50)]) (rest := [.ref q18, .ref h0]) ⟨hx, hb, hml, hown, hts⟩ (iRow l V q18 H.size 50 (by omega)) (cwI 1 hts gX1_init_X5_init rfl rfl rfl (hts (.initialized RX5) (by decide +kernel)) (hts (.methodLink RX1 11 yX5_init) (by decide +kernel)) (hts (.instanceMethod yX5_init) (by decide +kernel)) rfl (by decide +kernel) ⟨Nat.le_of_ble_eq_true rfl, Nat.le_of_ble_eq_true rfl⟩) ⟨fun a U g mk q => by obtain ⟨q0, q1, qP, qK, qD⟩ := q; exact ⟨q0, q1, qP, ⟨va_K.moved (u := U) (U := U.calling g mk a) (Vm.Alike.refl U.vm) qK.1, xN.same (s := U) (U := U.calling g mk a) rfl qK.2⟩, qD⟩, fun U hU hW => ⟨rfl, by rw [hU], by rw [hU]; exact hPc, ⟨va_K.moved hW.alike hK.1, xN.warm hW hK.2⟩, hDc.weaken (fun _ _ _ _ => trivial)⟩⟩ rfl rfl hl.1 rfl (lv_room (Nat.le_of_ble_eq_true rfl)) dX1_init_24 ⟨hkc24, hks24⟩) hS (fun q _ h => hFc q h) hFc (fun u t H1 locs ht hvm hw hB hz1 hk1 hS => ?_)
  obtain ⟨f24, rfl⟩ : ∃ z, z = u := ⟨_, rfl⟩
  obtain ⟨hP1, hD1⟩ := hB
  rw [ht] at hP1
  obtain ⟨hP, hD⟩ := va_join (wr := [(h0, .inr (1, [.ref q5, .null, .null, .null, .null, .null, .int 0])), (q5, .inr (5, [.ref (f11 0)])), ((f11 0), iZ V 50)]) (w1 := [(q18, .inr (5, [.ref (f24 0)])), ((f24 0), iZ V 50)]) hP hD [3] [0, 1, 2] rfl rfl (by decide) (by decide) hk1 hFc hP1 hD1
  generalize H1 = H at hP hS ⊢
  have hP : va_P V.1 vwCl [(h0, .inr (1, [.ref q5, .null, .null, .null, .null, .null, .int 0])), (q5, .inr (5, [.ref (f11 0)])), ((f11 0), iZ V 50), (q18, .inr (5, [.ref (f24 0)])), ((f24 0), iZ V 50)] H := hP
  have hD : va_D A [(h0, .inr (1, [.ref q5, .null, .null, .null, .null, .null, .int 0])), (q5, .inr (5, [.ref (f11 0)])), ((f11 0), iZ V 50), (q18, .inr (5, [.ref (f24 0)])), ((f24 0), iZ V 50)] := hD
  refine W.widen (k := 4) (n := 1 + (50) + 1 + (50)) (by omega) (by omega) ?_
  refine va_putF (D := V.1) (ci := 1) (v := .ref q18) (ty := .object "ProductLineChecker$Row") (C := RX1) (T := TX1) (N := 7) hx hb hts (by decide +kernel) tyX1 tyX1_ok nmX1 hown hK.1 hP hD hS 0 rfl rfl 1 (by decide) (hts (.fieldLink RX1 20 "ProductLineChecker$Expressions" "methods" "LProductLineChecker$Row;") (by decide +kernel)) (fun _ h9 => h9) rfl hin rfl (by decide +kernel) rfl rfl (Nat.le_of_ble_eq_true rfl) dX1_init_27 (fun H locs hP hD hS => ?_)
  have hP : va_P V.1 vwCl [(h0, .inr (1, [.ref q5, .ref q18, .null, .null, .null, .null, .int 0])), (q5, .inr (5, [.ref (f11 0)])), ((f11 0), iZ V 50), (q18, .inr (5, [.ref (f24 0)])), ((f24 0), iZ V 50)] H := hP
  have hD : va_D A [(h0, .inr (1, [.ref q5, .ref q18, .null, .null, .null, .null, .int 0])), (q5, .inr (5, [.ref (f11 0)])), ((f11 0), iZ V 50), (q18, .inr (5, [.ref (f24 0)])), ((f24 0), iZ V 50)] := hD
  refine lv_aload_n hx hb dX1_init_30 rfl (lv_at hl 0 rfl) ?_
  have hkc31 : 5 ≤ 12 := by omega
  have hks31 : 1 + (50) + 1 + (50) + 1 ≤ 1 + (50) + 1 + (50) + 1 + (50) + 1 + (50) + 1 + (50) + 1 + (50) := by omega
  refine va_new (ci := 5) (fs := [.null]) (C := RX5) (T := TX5) (N := 1) hx hb hts (by decide +kernel) tyX5 tyX5_ok hown (hts (.classLink RX1 9 RX5) (by decide +kernel)) (hts (.instantiable RX5 1) (by decide +kernel)) (hts (.initialized RX5) (by decide +kernel)) hK.1 hP hD hS hA rfl (fun j hj => by have : j = 0 ∨ j = 0 := (by omega); rcases this with rfl | rfl <;> rfl) hkc31 hks31 dX1_init_31 (fun q31 H hP hD hS => ?_)
  have hP : va_P V.1 vwCl [(h0, .inr (1, [.ref q5, .ref q18, .null, .null, .null, .null, .int 0])), (q5, .inr (5, [.ref (f11 0)])), ((f11 0), iZ V 50), (q18, .inr (5, [.ref (f24 0)])), ((f24 0), iZ V 50), (q31, .inr (5, [.null]))] H := hP
  have hD : va_D A [(h0, .inr (1, [.ref q5, .ref q18, .null, .null, .null, .null, .int 0])), (q5, .inr (5, [.ref (f11 0)])), ((f11 0), iZ V 50), (q18, .inr (5, [.ref (f24 0)])), ((f24 0), iZ V 50), (q31, .inr (5, [.null]))] := hD
  refine W.widen (k := 5) (n := 1 + (50) + 1 + (50) + 1) (by omega) (by omega) ?_
  refine lv_dup hx hb dX1_init_34 rfl ?_
  refine lv_bipush (v := (nI 50)) hx hb dX1_init_35 (by decide) ?_
  have hPc := hP.sub (ws' := [(q31, .inr (5, [.null]))]) [5] rfl
  have hDc := hD.sub (ws' := [(q31, .inr (5, [.null]))]) [5] (by decide) rfl
  have hFc := va_free (wc := [(q31, .inr (5, [.null]))]) hD hS hA [5] rfl
  have hkc37 : 6 ≤ 12 := by omega
  have hks37 : 1 + (50) + 1 + (50) + 1 + (50) ≤ 1 + (50) + 1 + (50) + 1 + (50) + 1 + (50) + 1 + (50) + 1 + (50) := by omega
  refine va_callv (va_runI (As := [.int (nI 50)]) (rest := [.ref q31, .ref h0]) ⟨hx, hb, hml, hown, hts⟩ (iRow l V q31 H.size 50 (by omega)) (cwI 1 hts gX1_init_X5_init rfl rfl rfl (hts (.initialized RX5) (by decide +kernel)) (hts (.methodLink RX1 11 yX5_init) (by decide +kernel)) (hts (.instanceMethod yX5_init) (by decide +kernel)) rfl (by decide +kernel) ⟨Nat.le_of_ble_eq_true rfl, Nat.le_of_ble_eq_true rfl⟩) ⟨fun a U g mk q => by obtain ⟨q0, q1, qP, qK, qD⟩ := q; exact ⟨q0, q1, qP, ⟨va_K.moved (u := U) (U := U.calling g mk a) (Vm.Alike.refl U.vm) qK.1, xN.same (s := U) (U := U.calling g mk a) rfl qK.2⟩, qD⟩, fun U hU hW => ⟨rfl, by rw [hU], by rw [hU]; exact hPc, ⟨va_K.moved hW.alike hK.1, xN.warm hW hK.2⟩, hDc.weaken (fun _ _ _ _ => trivial)⟩⟩ rfl rfl hl.1 rfl (lv_room (Nat.le_of_ble_eq_true rfl)) dX1_init_37 ⟨hkc37, hks37⟩) hS (fun q _ h => hFc q h) hFc (fun u t H1 locs ht hvm hw hB hz1 hk1 hS => ?_)
  obtain ⟨f37, rfl⟩ : ∃ z, z = u := ⟨_, rfl⟩
  obtain ⟨hP1, hD1⟩ := hB
  rw [ht] at hP1
  obtain ⟨hP, hD⟩ := va_join (wr := [(h0, .inr (1, [.ref q5, .ref q18, .null, .null, .null, .null, .int 0])), (q5, .inr (5, [.ref (f11 0)])), ((f11 0), iZ V 50), (q18, .inr (5, [.ref (f24 0)])), ((f24 0), iZ V 50)]) (w1 := [(q31, .inr (5, [.ref (f37 0)])), ((f37 0), iZ V 50)]) hP hD [5] [0, 1, 2, 3, 4] rfl rfl (by decide) (by decide) hk1 hFc hP1 hD1
  generalize H1 = H at hP hS ⊢
  have hP : va_P V.1 vwCl [(h0, .inr (1, [.ref q5, .ref q18, .null, .null, .null, .null, .int 0])), (q5, .inr (5, [.ref (f11 0)])), ((f11 0), iZ V 50), (q18, .inr (5, [.ref (f24 0)])), ((f24 0), iZ V 50), (q31, .inr (5, [.ref (f37 0)])), ((f37 0), iZ V 50)] H := hP
  have hD : va_D A [(h0, .inr (1, [.ref q5, .ref q18, .null, .null, .null, .null, .int 0])), (q5, .inr (5, [.ref (f11 0)])), ((f11 0), iZ V 50), (q18, .inr (5, [.ref (f24 0)])), ((f24 0), iZ V 50), (q31, .inr (5, [.ref (f37 0)])), ((f37 0), iZ V 50)] := hD
  refine W.widen (k := 6) (n := 1 + (50) + 1 + (50) + 1 + (50)) (by omega) (by omega) ?_
  refine va_putF (D := V.1) (ci := 1) (v := .ref q31) (ty := .object "ProductLineChecker$Row") (C := RX1) (T := TX1) (N := 7) hx hb hts (by decide +kernel) tyX1 tyX1_ok nmX1 hown hK.1 hP hD hS 0 rfl rfl 2 (by decide) (hts (.fieldLink RX1 23 "ProductLineChecker$Expressions" "details" "LProductLineChecker$Row;") (by decide +kernel)) (fun _ h9 => h9) rfl hin rfl (by decide +kernel) rfl rfl (Nat.le_of_ble_eq_true rfl) dX1_init_40 (fun H locs hP hD hS => ?_)
  have hP : va_P V.1 vwCl [(h0, .inr (1, [.ref q5, .ref q18, .ref q31, .null, .null, .null, .int 0])), (q5, .inr (5, [.ref (f11 0)])), ((f11 0), iZ V 50), (q18, .inr (5, [.ref (f24 0)])), ((f24 0), iZ V 50), (q31, .inr (5, [.ref (f37 0)])), ((f37 0), iZ V 50)] H := hP
  have hD : va_D A [(h0, .inr (1, [.ref q5, .ref q18, .ref q31, .null, .null, .null, .int 0])), (q5, .inr (5, [.ref (f11 0)])), ((f11 0), iZ V 50), (q18, .inr (5, [.ref (f24 0)])), ((f24 0), iZ V 50), (q31, .inr (5, [.ref (f37 0)])), ((f37 0), iZ V 50)] := hD
  refine lv_aload_n hx hb dX1_init_43 rfl (lv_at hl 0 rfl) ?_
  have hkc44 : 7 ≤ 12 := by omega
  have hks44 : 1 + (50) + 1 + (50) + 1 + (50) + 1 ≤ 1 + (50) + 1 + (50) + 1 + (50) + 1 + (50) + 1 + (50) + 1 + (50) := by omega
  refine va_new (ci := 5) (fs := [.null]) (C := RX5) (T := TX5) (N := 1) hx hb hts (by decide +kernel) tyX5 tyX5_ok hown (hts (.classLink RX1 9 RX5) (by decide +kernel)) (hts (.instantiable RX5 1) (by decide +kernel)) (hts (.initialized RX5) (by decide +kernel)) hK.1 hP hD hS hA rfl (fun j hj => by have : j = 0 ∨ j = 0 := (by omega); rcases this with rfl | rfl <;> rfl) hkc44 hks44 dX1_init_44 (fun q44 H hP hD hS => ?_)
  have hP : va_P V.1 vwCl [(h0, .inr (1, [.ref q5, .ref q18, .ref q31, .null, .null, .null, .int 0])), (q5, .inr (5, [.ref (f11 0)])), ((f11 0), iZ V 50), (q18, .inr (5, [.ref (f24 0)])), ((f24 0), iZ V 50), (q31, .inr (5, [.ref (f37 0)])), ((f37 0), iZ V 50), (q44, .inr (5, [.null]))] H := hP
  have hD : va_D A [(h0, .inr (1, [.ref q5, .ref q18, .ref q31, .null, .null, .null, .int 0])), (q5, .inr (5, [.ref (f11 0)])), ((f11 0), iZ V 50), (q18, .inr (5, [.ref (f24 0)])), ((f24 0), iZ V 50), (q31, .inr (5, [.ref (f37 0)])), ((f37 0), iZ V 50), (q44, .inr (5, [.null]))] := hD
  refine W.widen (k := 7) (n := 1 + (50) + 1 + (50) + 1 + (50) + 1) (by omega) (by omega) ?_
  refine lv_dup hx hb dX1_init_47 rfl ?_
  refine lv_bipush (v := (nI 50)) hx hb dX1_init_48 (by decide) ?_
  have hPc := hP.sub (ws' := [(q44, .inr (5, [.null]))]) [7] rfl
  have hDc := hD.sub (ws' := [(q44, .inr (5, [.null]))]) [7] (by decide) rfl
  have hFc := va_free (wc := [(q44, .inr (5, [.null]))]) hD hS hA [7] rfl
  have hkc50 : 8 ≤ 12 := by omega
  have hks50 : 1 + (50) + 1 + (50) + 1 + (50) + 1 + (50) ≤ 1 + (50) + 1 + (50) + 1 + (50) + 1 + (50) + 1 + (50) + 1 + (50) := by omega
  refine va_callv (va_runI (As := [.int (nI 50)]) (rest := [.ref q44, .ref h0]) ⟨hx, hb, hml, hown, hts⟩ (iRow l V q44 H.size 50 (by omega)) (cwI 1 hts gX1_init_X5_init rfl rfl rfl (hts (.initialized RX5) (by decide +kernel)) (hts (.methodLink RX1 11 yX5_init) (by decide +kernel)) (hts (.instanceMethod yX5_init) (by decide +kernel)) rfl (by decide +kernel) ⟨Nat.le_of_ble_eq_true rfl, Nat.le_of_ble_eq_true rfl⟩) ⟨fun a U g mk q => by obtain ⟨q0, q1, qP, qK, qD⟩ := q; exact ⟨q0, q1, qP, ⟨va_K.moved (u := U) (U := U.calling g mk a) (Vm.Alike.refl U.vm) qK.1, xN.same (s := U) (U := U.calling g mk a) rfl qK.2⟩, qD⟩, fun U hU hW => ⟨rfl, by rw [hU], by rw [hU]; exact hPc, ⟨va_K.moved hW.alike hK.1, xN.warm hW hK.2⟩, hDc.weaken (fun _ _ _ _ => trivial)⟩⟩ rfl rfl hl.1 rfl (lv_room (Nat.le_of_ble_eq_true rfl)) dX1_init_50 ⟨hkc50, hks50⟩) hS (fun q _ h => hFc q h) hFc (fun u t H1 locs ht hvm hw hB hz1 hk1 hS => ?_)
  obtain ⟨f50, rfl⟩ : ∃ z, z = u := ⟨_, rfl⟩
  obtain ⟨hP1, hD1⟩ := hB
  rw [ht] at hP1
  obtain ⟨hP, hD⟩ := va_join (wr := [(h0, .inr (1, [.ref q5, .ref q18, .ref q31, .null, .null, .null, .int 0])), (q5, .inr (5, [.ref (f11 0)])), ((f11 0), iZ V 50), (q18, .inr (5, [.ref (f24 0)])), ((f24 0), iZ V 50), (q31, .inr (5, [.ref (f37 0)])), ((f37 0), iZ V 50)]) (w1 := [(q44, .inr (5, [.ref (f50 0)])), ((f50 0), iZ V 50)]) hP hD [7] [0, 1, 2, 3, 4, 5, 6] rfl rfl (by decide) (by decide) hk1 hFc hP1 hD1
  generalize H1 = H at hP hS ⊢
  have hP : va_P V.1 vwCl [(h0, .inr (1, [.ref q5, .ref q18, .ref q31, .null, .null, .null, .int 0])), (q5, .inr (5, [.ref (f11 0)])), ((f11 0), iZ V 50), (q18, .inr (5, [.ref (f24 0)])), ((f24 0), iZ V 50), (q31, .inr (5, [.ref (f37 0)])), ((f37 0), iZ V 50), (q44, .inr (5, [.ref (f50 0)])), ((f50 0), iZ V 50)] H := hP
  have hD : va_D A [(h0, .inr (1, [.ref q5, .ref q18, .ref q31, .null, .null, .null, .int 0])), (q5, .inr (5, [.ref (f11 0)])), ((f11 0), iZ V 50), (q18, .inr (5, [.ref (f24 0)])), ((f24 0), iZ V 50), (q31, .inr (5, [.ref (f37 0)])), ((f37 0), iZ V 50), (q44, .inr (5, [.ref (f50 0)])), ((f50 0), iZ V 50)] := hD
  refine W.widen (k := 8) (n := 1 + (50) + 1 + (50) + 1 + (50) + 1 + (50)) (by omega) (by omega) ?_
  refine va_putF (D := V.1) (ci := 1) (v := .ref q44) (ty := .object "ProductLineChecker$Row") (C := RX1) (T := TX1) (N := 7) hx hb hts (by decide +kernel) tyX1 tyX1_ok nmX1 hown hK.1 hP hD hS 0 rfl rfl 3 (by decide) (hts (.fieldLink RX1 26 "ProductLineChecker$Expressions" "objects" "LProductLineChecker$Row;") (by decide +kernel)) (fun _ h9 => h9) rfl hin rfl (by decide +kernel) rfl rfl (Nat.le_of_ble_eq_true rfl) dX1_init_53 (fun H locs hP hD hS => ?_)
  have hP : va_P V.1 vwCl [(h0, .inr (1, [.ref q5, .ref q18, .ref q31, .ref q44, .null, .null, .int 0])), (q5, .inr (5, [.ref (f11 0)])), ((f11 0), iZ V 50), (q18, .inr (5, [.ref (f24 0)])), ((f24 0), iZ V 50), (q31, .inr (5, [.ref (f37 0)])), ((f37 0), iZ V 50), (q44, .inr (5, [.ref (f50 0)])), ((f50 0), iZ V 50)] H := hP
  have hD : va_D A [(h0, .inr (1, [.ref q5, .ref q18, .ref q31, .ref q44, .null, .null, .int 0])), (q5, .inr (5, [.ref (f11 0)])), ((f11 0), iZ V 50), (q18, .inr (5, [.ref (f24 0)])), ((f24 0), iZ V 50), (q31, .inr (5, [.ref (f37 0)])), ((f37 0), iZ V 50), (q44, .inr (5, [.ref (f50 0)])), ((f50 0), iZ V 50)] := hD
  refine lv_aload_n hx hb dX1_init_56 rfl (lv_at hl 0 rfl) ?_
  have hkc57 : 9 ≤ 12 := by omega
  have hks57 : 1 + (50) + 1 + (50) + 1 + (50) + 1 + (50) + 1 ≤ 1 + (50) + 1 + (50) + 1 + (50) + 1 + (50) + 1 + (50) + 1 + (50) := by omega
  refine va_new (ci := 5) (fs := [.null]) (C := RX5) (T := TX5) (N := 1) hx hb hts (by decide +kernel) tyX5 tyX5_ok hown (hts (.classLink RX1 9 RX5) (by decide +kernel)) (hts (.instantiable RX5 1) (by decide +kernel)) (hts (.initialized RX5) (by decide +kernel)) hK.1 hP hD hS hA rfl (fun j hj => by have : j = 0 ∨ j = 0 := (by omega); rcases this with rfl | rfl <;> rfl) hkc57 hks57 dX1_init_57 (fun q57 H hP hD hS => ?_)
  have hP : va_P V.1 vwCl [(h0, .inr (1, [.ref q5, .ref q18, .ref q31, .ref q44, .null, .null, .int 0])), (q5, .inr (5, [.ref (f11 0)])), ((f11 0), iZ V 50), (q18, .inr (5, [.ref (f24 0)])), ((f24 0), iZ V 50), (q31, .inr (5, [.ref (f37 0)])), ((f37 0), iZ V 50), (q44, .inr (5, [.ref (f50 0)])), ((f50 0), iZ V 50), (q57, .inr (5, [.null]))] H := hP
  have hD : va_D A [(h0, .inr (1, [.ref q5, .ref q18, .ref q31, .ref q44, .null, .null, .int 0])), (q5, .inr (5, [.ref (f11 0)])), ((f11 0), iZ V 50), (q18, .inr (5, [.ref (f24 0)])), ((f24 0), iZ V 50), (q31, .inr (5, [.ref (f37 0)])), ((f37 0), iZ V 50), (q44, .inr (5, [.ref (f50 0)])), ((f50 0), iZ V 50), (q57, .inr (5, [.null]))] := hD
  refine W.widen (k := 9) (n := 1 + (50) + 1 + (50) + 1 + (50) + 1 + (50) + 1) (by omega) (by omega) ?_
  refine lv_dup hx hb dX1_init_60 rfl ?_
  refine lv_bipush (v := (nI 50)) hx hb dX1_init_61 (by decide) ?_
  have hPc := hP.sub (ws' := [(q57, .inr (5, [.null]))]) [9] rfl
  have hDc := hD.sub (ws' := [(q57, .inr (5, [.null]))]) [9] (by decide) rfl
  have hFc := va_free (wc := [(q57, .inr (5, [.null]))]) hD hS hA [9] rfl
  have hkc63 : 10 ≤ 12 := by omega
  have hks63 : 1 + (50) + 1 + (50) + 1 + (50) + 1 + (50) + 1 + (50) ≤ 1 + (50) + 1 + (50) + 1 + (50) + 1 + (50) + 1 + (50) + 1 + (50) := by omega
  refine va_callv (va_runI (As := [.int (nI 50)]) (rest := [.ref q57, .ref h0]) ⟨hx, hb, hml, hown, hts⟩ (iRow l V q57 H.size 50 (by omega)) (cwI 1 hts gX1_init_X5_init rfl rfl rfl (hts (.initialized RX5) (by decide +kernel)) (hts (.methodLink RX1 11 yX5_init) (by decide +kernel)) (hts (.instanceMethod yX5_init) (by decide +kernel)) rfl (by decide +kernel) ⟨Nat.le_of_ble_eq_true rfl, Nat.le_of_ble_eq_true rfl⟩) ⟨fun a U g mk q => by obtain ⟨q0, q1, qP, qK, qD⟩ := q; exact ⟨q0, q1, qP, ⟨va_K.moved (u := U) (U := U.calling g mk a) (Vm.Alike.refl U.vm) qK.1, xN.same (s := U) (U := U.calling g mk a) rfl qK.2⟩, qD⟩, fun U hU hW => ⟨rfl, by rw [hU], by rw [hU]; exact hPc, ⟨va_K.moved hW.alike hK.1, xN.warm hW hK.2⟩, hDc.weaken (fun _ _ _ _ => trivial)⟩⟩ rfl rfl hl.1 rfl (lv_room (Nat.le_of_ble_eq_true rfl)) dX1_init_63 ⟨hkc63, hks63⟩) hS (fun q _ h => hFc q h) hFc (fun u t H1 locs ht hvm hw hB hz1 hk1 hS => ?_)
  obtain ⟨f63, rfl⟩ : ∃ z, z = u := ⟨_, rfl⟩
  obtain ⟨hP1, hD1⟩ := hB
  rw [ht] at hP1
  obtain ⟨hP, hD⟩ := va_join (wr := [(h0, .inr (1, [.ref q5, .ref q18, .ref q31, .ref q44, .null, .null, .int 0])), (q5, .inr (5, [.ref (f11 0)])), ((f11 0), iZ V 50), (q18, .inr (5, [.ref (f24 0)])), ((f24 0), iZ V 50), (q31, .inr (5, [.ref (f37 0)])), ((f37 0), iZ V 50), (q44, .inr (5, [.ref (f50 0)])), ((f50 0), iZ V 50)]) (w1 := [(q57, .inr (5, [.ref (f63 0)])), ((f63 0), iZ V 50)]) hP hD [9] [0, 1, 2, 3, 4, 5, 6, 7, 8] rfl rfl (by decide) (by decide) hk1 hFc hP1 hD1
  generalize H1 = H at hP hS ⊢
  have hP : va_P V.1 vwCl [(h0, .inr (1, [.ref q5, .ref q18, .ref q31, .ref q44, .null, .null, .int 0])), (q5, .inr (5, [.ref (f11 0)])), ((f11 0), iZ V 50), (q18, .inr (5, [.ref (f24 0)])), ((f24 0), iZ V 50), (q31, .inr (5, [.ref (f37 0)])), ((f37 0), iZ V 50), (q44, .inr (5, [.ref (f50 0)])), ((f50 0), iZ V 50), (q57, .inr (5, [.ref (f63 0)])), ((f63 0), iZ V 50)] H := hP
  have hD : va_D A [(h0, .inr (1, [.ref q5, .ref q18, .ref q31, .ref q44, .null, .null, .int 0])), (q5, .inr (5, [.ref (f11 0)])), ((f11 0), iZ V 50), (q18, .inr (5, [.ref (f24 0)])), ((f24 0), iZ V 50), (q31, .inr (5, [.ref (f37 0)])), ((f37 0), iZ V 50), (q44, .inr (5, [.ref (f50 0)])), ((f50 0), iZ V 50), (q57, .inr (5, [.ref (f63 0)])), ((f63 0), iZ V 50)] := hD
  refine W.widen (k := 10) (n := 1 + (50) + 1 + (50) + 1 + (50) + 1 + (50) + 1 + (50)) (by omega) (by omega) ?_
  refine va_putF (D := V.1) (ci := 1) (v := .ref q57) (ty := .object "ProductLineChecker$Row") (C := RX1) (T := TX1) (N := 7) hx hb hts (by decide +kernel) tyX1 tyX1_ok nmX1 hown hK.1 hP hD hS 0 rfl rfl 4 (by decide) (hts (.fieldLink RX1 29 "ProductLineChecker$Expressions" "firsts" "LProductLineChecker$Row;") (by decide +kernel)) (fun _ h9 => h9) rfl hin rfl (by decide +kernel) rfl rfl (Nat.le_of_ble_eq_true rfl) dX1_init_66 (fun H locs hP hD hS => ?_)
  have hP : va_P V.1 vwCl [(h0, .inr (1, [.ref q5, .ref q18, .ref q31, .ref q44, .ref q57, .null, .int 0])), (q5, .inr (5, [.ref (f11 0)])), ((f11 0), iZ V 50), (q18, .inr (5, [.ref (f24 0)])), ((f24 0), iZ V 50), (q31, .inr (5, [.ref (f37 0)])), ((f37 0), iZ V 50), (q44, .inr (5, [.ref (f50 0)])), ((f50 0), iZ V 50), (q57, .inr (5, [.ref (f63 0)])), ((f63 0), iZ V 50)] H := hP
  have hD : va_D A [(h0, .inr (1, [.ref q5, .ref q18, .ref q31, .ref q44, .ref q57, .null, .int 0])), (q5, .inr (5, [.ref (f11 0)])), ((f11 0), iZ V 50), (q18, .inr (5, [.ref (f24 0)])), ((f24 0), iZ V 50), (q31, .inr (5, [.ref (f37 0)])), ((f37 0), iZ V 50), (q44, .inr (5, [.ref (f50 0)])), ((f50 0), iZ V 50), (q57, .inr (5, [.ref (f63 0)])), ((f63 0), iZ V 50)] := hD
  refine lv_aload_n hx hb dX1_init_69 rfl (lv_at hl 0 rfl) ?_
  have hkc70 : 11 ≤ 12 := by omega
  have hks70 : 1 + (50) + 1 + (50) + 1 + (50) + 1 + (50) + 1 + (50) + 1 ≤ 1 + (50) + 1 + (50) + 1 + (50) + 1 + (50) + 1 + (50) + 1 + (50) := by omega
  refine va_new (ci := 5) (fs := [.null]) (C := RX5) (T := TX5) (N := 1) hx hb hts (by decide +kernel) tyX5 tyX5_ok hown (hts (.classLink RX1 9 RX5) (by decide +kernel)) (hts (.instantiable RX5 1) (by decide +kernel)) (hts (.initialized RX5) (by decide +kernel)) hK.1 hP hD hS hA rfl (fun j hj => by have : j = 0 ∨ j = 0 := (by omega); rcases this with rfl | rfl <;> rfl) hkc70 hks70 dX1_init_70 (fun q70 H hP hD hS => ?_)
  have hP : va_P V.1 vwCl [(h0, .inr (1, [.ref q5, .ref q18, .ref q31, .ref q44, .ref q57, .null, .int 0])), (q5, .inr (5, [.ref (f11 0)])), ((f11 0), iZ V 50), (q18, .inr (5, [.ref (f24 0)])), ((f24 0), iZ V 50), (q31, .inr (5, [.ref (f37 0)])), ((f37 0), iZ V 50), (q44, .inr (5, [.ref (f50 0)])), ((f50 0), iZ V 50), (q57, .inr (5, [.ref (f63 0)])), ((f63 0), iZ V 50), (q70, .inr (5, [.null]))] H := hP
  have hD : va_D A [(h0, .inr (1, [.ref q5, .ref q18, .ref q31, .ref q44, .ref q57, .null, .int 0])), (q5, .inr (5, [.ref (f11 0)])), ((f11 0), iZ V 50), (q18, .inr (5, [.ref (f24 0)])), ((f24 0), iZ V 50), (q31, .inr (5, [.ref (f37 0)])), ((f37 0), iZ V 50), (q44, .inr (5, [.ref (f50 0)])), ((f50 0), iZ V 50), (q57, .inr (5, [.ref (f63 0)])), ((f63 0), iZ V 50), (q70, .inr (5, [.null]))] := hD
  refine W.widen (k := 11) (n := 1 + (50) + 1 + (50) + 1 + (50) + 1 + (50) + 1 + (50) + 1) (by omega) (by omega) ?_
  refine lv_dup hx hb dX1_init_73 rfl ?_
  refine lv_bipush (v := (nI 50)) hx hb dX1_init_74 (by decide) ?_
  have hPc := hP.sub (ws' := [(q70, .inr (5, [.null]))]) [11] rfl
  have hDc := hD.sub (ws' := [(q70, .inr (5, [.null]))]) [11] (by decide) rfl
  have hFc := va_free (wc := [(q70, .inr (5, [.null]))]) hD hS hA [11] rfl
  have hkc76 : 12 ≤ 12 := by omega
  have hks76 : 1 + (50) + 1 + (50) + 1 + (50) + 1 + (50) + 1 + (50) + 1 + (50) ≤ 1 + (50) + 1 + (50) + 1 + (50) + 1 + (50) + 1 + (50) + 1 + (50) := by omega
  refine va_callv (va_runI (As := [.int (nI 50)]) (rest := [.ref q70, .ref h0]) ⟨hx, hb, hml, hown, hts⟩ (iRow l V q70 H.size 50 (by omega)) (cwI 1 hts gX1_init_X5_init rfl rfl rfl (hts (.initialized RX5) (by decide +kernel)) (hts (.methodLink RX1 11 yX5_init) (by decide +kernel)) (hts (.instanceMethod yX5_init) (by decide +kernel)) rfl (by decide +kernel) ⟨Nat.le_of_ble_eq_true rfl, Nat.le_of_ble_eq_true rfl⟩) ⟨fun a U g mk q => by obtain ⟨q0, q1, qP, qK, qD⟩ := q; exact ⟨q0, q1, qP, ⟨va_K.moved (u := U) (U := U.calling g mk a) (Vm.Alike.refl U.vm) qK.1, xN.same (s := U) (U := U.calling g mk a) rfl qK.2⟩, qD⟩, fun U hU hW => ⟨rfl, by rw [hU], by rw [hU]; exact hPc, ⟨va_K.moved hW.alike hK.1, xN.warm hW hK.2⟩, hDc.weaken (fun _ _ _ _ => trivial)⟩⟩ rfl rfl hl.1 rfl (lv_room (Nat.le_of_ble_eq_true rfl)) dX1_init_76 ⟨hkc76, hks76⟩) hS (fun q _ h => hFc q h) hFc (fun u t H1 locs ht hvm hw hB hz1 hk1 hS => ?_)
  obtain ⟨f76, rfl⟩ : ∃ z, z = u := ⟨_, rfl⟩
  obtain ⟨hP1, hD1⟩ := hB
  rw [ht] at hP1
  obtain ⟨hP, hD⟩ := va_join (wr := [(h0, .inr (1, [.ref q5, .ref q18, .ref q31, .ref q44, .ref q57, .null, .int 0])), (q5, .inr (5, [.ref (f11 0)])), ((f11 0), iZ V 50), (q18, .inr (5, [.ref (f24 0)])), ((f24 0), iZ V 50), (q31, .inr (5, [.ref (f37 0)])), ((f37 0), iZ V 50), (q44, .inr (5, [.ref (f50 0)])), ((f50 0), iZ V 50), (q57, .inr (5, [.ref (f63 0)])), ((f63 0), iZ V 50)]) (w1 := [(q70, .inr (5, [.ref (f76 0)])), ((f76 0), iZ V 50)]) hP hD [11] [0, 1, 2, 3, 4, 5, 6, 7, 8, 9, 10] rfl rfl (by decide) (by decide) hk1 hFc hP1 hD1
  generalize H1 = H at hP hS ⊢
  have hP : va_P V.1 vwCl [(h0, .inr (1, [.ref q5, .ref q18, .ref q31, .ref q44, .ref q57, .null, .int 0])), (q5, .inr (5, [.ref (f11 0)])), ((f11 0), iZ V 50), (q18, .inr (5, [.ref (f24 0)])), ((f24 0), iZ V 50), (q31, .inr (5, [.ref (f37 0)])), ((f37 0), iZ V 50), (q44, .inr (5, [.ref (f50 0)])), ((f50 0), iZ V 50), (q57, .inr (5, [.ref (f63 0)])), ((f63 0), iZ V 50), (q70, .inr (5, [.ref (f76 0)])), ((f76 0), iZ V 50)] H := hP
  have hD : va_D A [(h0, .inr (1, [.ref q5, .ref q18, .ref q31, .ref q44, .ref q57, .null, .int 0])), (q5, .inr (5, [.ref (f11 0)])), ((f11 0), iZ V 50), (q18, .inr (5, [.ref (f24 0)])), ((f24 0), iZ V 50), (q31, .inr (5, [.ref (f37 0)])), ((f37 0), iZ V 50), (q44, .inr (5, [.ref (f50 0)])), ((f50 0), iZ V 50), (q57, .inr (5, [.ref (f63 0)])), ((f63 0), iZ V 50), (q70, .inr (5, [.ref (f76 0)])), ((f76 0), iZ V 50)] := hD
  refine W.widen (k := 12) (n := 1 + (50) + 1 + (50) + 1 + (50) + 1 + (50) + 1 + (50) + 1 + (50)) (by omega) (by omega) ?_
  refine va_putF (D := V.1) (ci := 1) (v := .ref q70) (ty := .object "ProductLineChecker$Row") (C := RX1) (T := TX1) (N := 7) hx hb hts (by decide +kernel) tyX1 tyX1_ok nmX1 hown hK.1 hP hD hS 0 rfl rfl 5 (by decide) (hts (.fieldLink RX1 32 "ProductLineChecker$Expressions" "seconds" "LProductLineChecker$Row;") (by decide +kernel)) (fun _ h9 => h9) rfl hin rfl (by decide +kernel) rfl rfl (Nat.le_of_ble_eq_true rfl) dX1_init_79 (fun H locs hP hD hS => ?_)
  have hP : va_P V.1 vwCl [(h0, .inr (1, [.ref q5, .ref q18, .ref q31, .ref q44, .ref q57, .ref q70, .int 0])), (q5, .inr (5, [.ref (f11 0)])), ((f11 0), iZ V 50), (q18, .inr (5, [.ref (f24 0)])), ((f24 0), iZ V 50), (q31, .inr (5, [.ref (f37 0)])), ((f37 0), iZ V 50), (q44, .inr (5, [.ref (f50 0)])), ((f50 0), iZ V 50), (q57, .inr (5, [.ref (f63 0)])), ((f63 0), iZ V 50), (q70, .inr (5, [.ref (f76 0)])), ((f76 0), iZ V 50)] H := hP
  have hD : va_D A [(h0, .inr (1, [.ref q5, .ref q18, .ref q31, .ref q44, .ref q57, .ref q70, .int 0])), (q5, .inr (5, [.ref (f11 0)])), ((f11 0), iZ V 50), (q18, .inr (5, [.ref (f24 0)])), ((f24 0), iZ V 50), (q31, .inr (5, [.ref (f37 0)])), ((f37 0), iZ V 50), (q44, .inr (5, [.ref (f50 0)])), ((f50 0), iZ V 50), (q57, .inr (5, [.ref (f63 0)])), ((f63 0), iZ V 50), (q70, .inr (5, [.ref (f76 0)])), ((f76 0), iZ V 50)] := hD
  refine lv_aload_n hx hb dX1_init_82 rfl (lv_at hl 0 rfl) ?_
  refine lv_iconst (v := (0 : Int32)) hx hb dX1_init_83 (by decide) ?_
  refine va_put (D := V.1) (ci := 1) (v := .int (0 : Int32)) (ty := .int) (C := RX1) (T := TX1) (N := 7) hx hb hts (by decide +kernel) tyX1 tyX1_ok nmX1 hown hK.1 hP hD hS 0 rfl rfl 6 (by decide) (hts (.fieldLink RX1 35 "ProductLineChecker$Expressions" "size" "I") (by decide +kernel)) (fun _ h9 => h9) rfl (by decide +kernel) rfl rfl (Nat.le_of_ble_eq_true rfl) dX1_init_84 (fun H locs hP hD hS => ?_)
  have hP : va_P V.1 vwCl [(h0, .inr (1, [.ref q5, .ref q18, .ref q31, .ref q44, .ref q57, .ref q70, .int (0 : Int32)])), (q5, .inr (5, [.ref (f11 0)])), ((f11 0), iZ V 50), (q18, .inr (5, [.ref (f24 0)])), ((f24 0), iZ V 50), (q31, .inr (5, [.ref (f37 0)])), ((f37 0), iZ V 50), (q44, .inr (5, [.ref (f50 0)])), ((f50 0), iZ V 50), (q57, .inr (5, [.ref (f63 0)])), ((f63 0), iZ V 50), (q70, .inr (5, [.ref (f76 0)])), ((f76 0), iZ V 50)] H := hP
  have hD : va_D A [(h0, .inr (1, [.ref q5, .ref q18, .ref q31, .ref q44, .ref q57, .ref q70, .int (0 : Int32)])), (q5, .inr (5, [.ref (f11 0)])), ((f11 0), iZ V 50), (q18, .inr (5, [.ref (f24 0)])), ((f24 0), iZ V 50), (q31, .inr (5, [.ref (f37 0)])), ((f37 0), iZ V 50), (q44, .inr (5, [.ref (f50 0)])), ((f50 0), iZ V 50), (q57, .inr (5, [.ref (f63 0)])), ((f63 0), iZ V 50), (q70, .inr (5, [.ref (f76 0)])), ((f76 0), iZ V 50)] := hD
  exact W.vret hx hb hr (fun t ht hW => ⟨⟨fun k => [q5, (f11 0), q18, (f24 0), q31, (f37 0), q44, (f50 0), q57, (f63 0), q70, (f76 0)].getD k 0, rfl, trivial, by rw [ht]; exact hP, hD⟩, hS.F ht⟩) hS.2.2 dX1_init_87

set_option maxHeartbeats 4000000 in
set_option maxRecDepth 100000 in
theorem iConds (l : Launch) (V : xV) (h0 sz : Nat) (N : Nat) (hN : N < 1000) : iM l yX0_init wsX0_init { frames := 2, cells := 6, slots := 1 + (N) + 1 + (N) + 1 + (N), locals := 41 } V [.ref h0, .int (nI N)] [(h0, .inr (0, [.null, .null, .null, .int 0]))] sz 6 (1 + (N) + 1 + (N) + 1 + (N)) (fun f => [(h0, .inr (0, [.ref (f 0), .ref (f 2), .ref (f 4), .int (0 : Int32)])), ((f 0), .inr (5, [.ref (f 1)])), ((f 1), iZ V N), ((f 2), .inr (5, [.ref (f 3)])), ((f 3), iZ V N), ((f 4), .inr (5, [.ref (f 5)])), ((f 5), iZ V N)]) := by
  refine Met.ofW (cc := cX0_init) (maxL := 2) (ret := none) (by decide) rfl ?_
  intro p e s m args below meth c s₁ B hml hv
  obtain ⟨rfl, hsz, hP, hK, hD0⟩ := hv
  have hx := B.exec
  have hb := B.bytes
  have hr := B.returns
  have hts := atoms_spec (ws := wsX0_init) B.pre
  have hown : s.vm.findClass RX0 = some m.cls := findClass_of_methodNamed B.named
  have hin : meth.name = "<init>" := (name_of_methodNamed B.named B.method).1
  subst hsz
  have hD := hD0.self (sz := s.heap.size)
  generalize hAe : va_A [(h0, .inr (0, [.null, .null, .null, .int 0]))] s.heap.size = A at hD ⊢
  have hA : ∀ q : Nat, s.heap.size ≤ q → A q := fun q h => by rw [← hAe]; exact Or.inr h
  have hS : va_S A s.heap s.heap [] := va_S.rf
  have hl := lv_entry ([.ref h0, .int (nI N)]) (n := 2) (Nat.le_of_ble_eq_true rfl)
  rw [lg_entry_eq]
  generalize (lg_sl ([.ref h0, .int (nI N)]) ++ List.replicate (2 - (lg_sl ([.ref h0, .int (nI N)])).length) Slot.unset).toArray = ls at hl ⊢
  have hl : lv_has ls 2 [(0, .ref h0), (1, .int (nI N))] := hl
  refine lv_aload_n hx hb dX0_init_0 rfl (lv_at hl 0 rfl) ?_
  refine W.objInit hx hb hown (hts (.methodLink RX0 1 objectInit) (by decide +kernel)) (hts (.instanceMethod objectInit) (by decide +kernel)) (hts _ (List.mem_of_getElem? (i := 3) rfl)) rfl (by rw [hml]; exact hl.1) rfl dX0_init_1 (Nat.le_of_ble_eq_true rfl) (Nat.le_of_ble_eq_true rfl) ?_
  refine W.eq (g2 := F0 m 4 ls []) rfl ?_
  refine lv_aload_n hx hb dX0_init_4 rfl (lv_at hl 0 rfl) ?_
  refine lv_iconst (v := (0 : Int32)) hx hb dX0_init_5 (by decide) ?_
  refine va_put (D := V.1) (ci := 0) (v := .int (0 : Int32)) (ty := .int) (C := RX0) (T := TX0) (N := 4) hx hb hts (by decide +kernel) tyX0 tyX0_ok nmX0 hown hK.1 hP hD hS 0 rfl rfl 3 (by decide) (hts (.fieldLink RX0 7 "ProductLineChecker$Conditions" "size" "I") (by decide +kernel)) (fun _ h9 => h9) rfl (by decide +kernel) rfl rfl (Nat.le_of_ble_eq_true rfl) dX0_init_6 (fun H locs hP hD hS => ?_)
  have hP : va_P V.1 vwCl [(h0, .inr (0, [.null, .null, .null, .int (0 : Int32)]))] H := hP
  have hD : va_D A [(h0, .inr (0, [.null, .null, .null, .int (0 : Int32)]))] := hD
  refine lv_aload_n hx hb dX0_init_9 rfl (lv_at hl 0 rfl) ?_
  have hkc10 : 1 ≤ 6 := by omega
  have hks10 : 0 + 1 ≤ 1 + (N) + 1 + (N) + 1 + (N) := by omega
  refine va_new (ci := 5) (fs := [.null]) (C := RX5) (T := TX5) (N := 1) hx hb hts (by decide +kernel) tyX5 tyX5_ok hown (hts (.classLink RX0 13 RX5) (by decide +kernel)) (hts (.instantiable RX5 1) (by decide +kernel)) (hts (.initialized RX5) (by decide +kernel)) hK.1 hP hD hS hA rfl (fun j hj => by have : j = 0 ∨ j = 0 := (by omega); rcases this with rfl | rfl <;> rfl) hkc10 hks10 dX0_init_10 (fun q10 H hP hD hS => ?_)
  have hP : va_P V.1 vwCl [(h0, .inr (0, [.null, .null, .null, .int (0 : Int32)])), (q10, .inr (5, [.null]))] H := hP
  have hD : va_D A [(h0, .inr (0, [.null, .null, .null, .int (0 : Int32)])), (q10, .inr (5, [.null]))] := hD
  refine W.widen (k := 1) (n := 1) (by omega) (by omega) ?_
  refine lv_dup hx hb dX0_init_13 rfl ?_
  refine lv_iload_n hx hb dX0_init_14 rfl (lv_at hl 1 rfl) ?_
  have hPc := hP.sub (ws' := [(q10, .inr (5, [.null]))]) [1] rfl
  have hDc := hD.sub (ws' := [(q10, .inr (5, [.null]))]) [1] (by decide) rfl
  have hFc := va_free (wc := [(q10, .inr (5, [.null]))]) hD hS hA [1] rfl
  have hkc15 : 2 ≤ 6 := by omega
  have hks15 : 1 + (N) ≤ 1 + (N) + 1 + (N) + 1 + (N) := by omega
  refine va_callv (va_runI (As := [.int (nI N)]) (rest := [.ref q10, .ref h0]) ⟨hx, hb, hml, hown, hts⟩ (iRow l V q10 H.size N (by omega)) (cwI 1 hts gX0_init_X5_init rfl rfl rfl (hts (.initialized RX5) (by decide +kernel)) (hts (.methodLink RX0 15 yX5_init) (by decide +kernel)) (hts (.instanceMethod yX5_init) (by decide +kernel)) rfl (by decide +kernel) ⟨Nat.le_of_ble_eq_true rfl, Nat.le_of_ble_eq_true rfl⟩) ⟨fun a U g mk q => by obtain ⟨q0, q1, qP, qK, qD⟩ := q; exact ⟨q0, q1, qP, ⟨va_K.moved (u := U) (U := U.calling g mk a) (Vm.Alike.refl U.vm) qK.1, xN.same (s := U) (U := U.calling g mk a) rfl qK.2⟩, qD⟩, fun U hU hW => ⟨rfl, by rw [hU], by rw [hU]; exact hPc, ⟨va_K.moved hW.alike hK.1, xN.warm hW hK.2⟩, hDc.weaken (fun _ _ _ _ => trivial)⟩⟩ rfl rfl hl.1 rfl (lv_room (Nat.le_of_ble_eq_true rfl)) dX0_init_15 ⟨hkc15, hks15⟩) hS (fun q _ h => hFc q h) hFc (fun u t H1 locs ht hvm hw hB hz1 hk1 hS => ?_)
  obtain ⟨f15, rfl⟩ : ∃ z, z = u := ⟨_, rfl⟩
  obtain ⟨hP1, hD1⟩ := hB
  rw [ht] at hP1
  obtain ⟨hP, hD⟩ := va_join (wr := [(h0, .inr (0, [.null, .null, .null, .int (0 : Int32)]))]) (w1 := [(q10, .inr (5, [.ref (f15 0)])), ((f15 0), iZ V N)]) hP hD [1] [0] rfl rfl (by decide) (by decide) hk1 hFc hP1 hD1
  generalize H1 = H at hP hS ⊢
  have hP : va_P V.1 vwCl [(h0, .inr (0, [.null, .null, .null, .int (0 : Int32)])), (q10, .inr (5, [.ref (f15 0)])), ((f15 0), iZ V N)] H := hP
  have hD : va_D A [(h0, .inr (0, [.null, .null, .null, .int (0 : Int32)])), (q10, .inr (5, [.ref (f15 0)])), ((f15 0), iZ V N)] := hD
  refine W.widen (k := 2) (n := 1 + (N)) (by omega) (by omega) ?_
  refine va_putF (D := V.1) (ci := 0) (v := .ref q10) (ty := .object "ProductLineChecker$Row") (C := RX0) (T := TX0) (N := 4) hx hb hts (by decide +kernel) tyX0 tyX0_ok nmX0 hown hK.1 hP hD hS 0 rfl rfl 0 (by decide) (hts (.fieldLink RX0 18 "ProductLineChecker$Conditions" "ons" "LProductLineChecker$Row;") (by decide +kernel)) (fun _ h9 => h9) rfl hin rfl (by decide +kernel) rfl rfl (Nat.le_of_ble_eq_true rfl) dX0_init_18 (fun H locs hP hD hS => ?_)
  have hP : va_P V.1 vwCl [(h0, .inr (0, [.ref q10, .null, .null, .int (0 : Int32)])), (q10, .inr (5, [.ref (f15 0)])), ((f15 0), iZ V N)] H := hP
  have hD : va_D A [(h0, .inr (0, [.ref q10, .null, .null, .int (0 : Int32)])), (q10, .inr (5, [.ref (f15 0)])), ((f15 0), iZ V N)] := hD
  refine lv_aload_n hx hb dX0_init_21 rfl (lv_at hl 0 rfl) ?_
  have hkc22 : 3 ≤ 6 := by omega
  have hks22 : 1 + (N) + 1 ≤ 1 + (N) + 1 + (N) + 1 + (N) := by omega
  refine va_new (ci := 5) (fs := [.null]) (C := RX5) (T := TX5) (N := 1) hx hb hts (by decide +kernel) tyX5 tyX5_ok hown (hts (.classLink RX0 13 RX5) (by decide +kernel)) (hts (.instantiable RX5 1) (by decide +kernel)) (hts (.initialized RX5) (by decide +kernel)) hK.1 hP hD hS hA rfl (fun j hj => by have : j = 0 ∨ j = 0 := (by omega); rcases this with rfl | rfl <;> rfl) hkc22 hks22 dX0_init_22 (fun q22 H hP hD hS => ?_)
  have hP : va_P V.1 vwCl [(h0, .inr (0, [.ref q10, .null, .null, .int (0 : Int32)])), (q10, .inr (5, [.ref (f15 0)])), ((f15 0), iZ V N), (q22, .inr (5, [.null]))] H := hP
  have hD : va_D A [(h0, .inr (0, [.ref q10, .null, .null, .int (0 : Int32)])), (q10, .inr (5, [.ref (f15 0)])), ((f15 0), iZ V N), (q22, .inr (5, [.null]))] := hD
  refine W.widen (k := 3) (n := 1 + (N) + 1) (by omega) (by omega) ?_
  refine lv_dup hx hb dX0_init_25 rfl ?_
  refine lv_iload_n hx hb dX0_init_26 rfl (lv_at hl 1 rfl) ?_
  have hPc := hP.sub (ws' := [(q22, .inr (5, [.null]))]) [3] rfl
  have hDc := hD.sub (ws' := [(q22, .inr (5, [.null]))]) [3] (by decide) rfl
  have hFc := va_free (wc := [(q22, .inr (5, [.null]))]) hD hS hA [3] rfl
  have hkc27 : 4 ≤ 6 := by omega
  have hks27 : 1 + (N) + 1 + (N) ≤ 1 + (N) + 1 + (N) + 1 + (N) := by omega
  refine va_callv (va_runI (As := [.int (nI N)]) (rest := [.ref q22, .ref h0]) ⟨hx, hb, hml, hown, hts⟩ (iRow l V q22 H.size N (by omega)) (cwI 1 hts gX0_init_X5_init rfl rfl rfl (hts (.initialized RX5) (by decide +kernel)) (hts (.methodLink RX0 15 yX5_init) (by decide +kernel)) (hts (.instanceMethod yX5_init) (by decide +kernel)) rfl (by decide +kernel) ⟨Nat.le_of_ble_eq_true rfl, Nat.le_of_ble_eq_true rfl⟩) ⟨fun a U g mk q => by obtain ⟨q0, q1, qP, qK, qD⟩ := q; exact ⟨q0, q1, qP, ⟨va_K.moved (u := U) (U := U.calling g mk a) (Vm.Alike.refl U.vm) qK.1, xN.same (s := U) (U := U.calling g mk a) rfl qK.2⟩, qD⟩, fun U hU hW => ⟨rfl, by rw [hU], by rw [hU]; exact hPc, ⟨va_K.moved hW.alike hK.1, xN.warm hW hK.2⟩, hDc.weaken (fun _ _ _ _ => trivial)⟩⟩ rfl rfl hl.1 rfl (lv_room (Nat.le_of_ble_eq_true rfl)) dX0_init_27 ⟨hkc27, hks27⟩) hS (fun q _ h => hFc q h) hFc (fun u t H1 locs ht hvm hw hB hz1 hk1 hS => ?_)
  obtain ⟨f27, rfl⟩ : ∃ z, z = u := ⟨_, rfl⟩
  obtain ⟨hP1, hD1⟩ := hB
  rw [ht] at hP1
  obtain ⟨hP, hD⟩ := va_join (wr := [(h0, .inr (0, [.ref q10, .null, .null, .int (0 : Int32)])), (q10, .inr (5, [.ref (f15 0)])), ((f15 0), iZ V N)]) (w1 := [(q22, .inr (5, [.ref (f27 0)])), ((f27 0), iZ V N)]) hP hD [3] [0, 1, 2] rfl rfl (by decide) (by decide) hk1 hFc hP1 hD1
  generalize H1 = H at hP hS ⊢
  have hP : va_P V.1 vwCl [(h0, .inr (0, [.ref q10, .null, .null, .int (0 : Int32)])), (q10, .inr (5, [.ref (f15 0)])), ((f15 0), iZ V N), (q22, .inr (5, [.ref (f27 0)])), ((f27 0), iZ V N)] H := hP
  have hD : va_D A [(h0, .inr (0, [.ref q10, .null, .null, .int (0 : Int32)])), (q10, .inr (5, [.ref (f15 0)])), ((f15 0), iZ V N), (q22, .inr (5, [.ref (f27 0)])), ((f27 0), iZ V N)] := hD
  refine W.widen (k := 4) (n := 1 + (N) + 1 + (N)) (by omega) (by omega) ?_
  refine va_putF (D := V.1) (ci := 0) (v := .ref q22) (ty := .object "ProductLineChecker$Row") (C := RX0) (T := TX0) (N := 4) hx hb hts (by decide +kernel) tyX0 tyX0_ok nmX0 hown hK.1 hP hD hS 0 rfl rfl 1 (by decide) (hts (.fieldLink RX0 22 "ProductLineChecker$Conditions" "offs" "LProductLineChecker$Row;") (by decide +kernel)) (fun _ h9 => h9) rfl hin rfl (by decide +kernel) rfl rfl (Nat.le_of_ble_eq_true rfl) dX0_init_30 (fun H locs hP hD hS => ?_)
  have hP : va_P V.1 vwCl [(h0, .inr (0, [.ref q10, .ref q22, .null, .int (0 : Int32)])), (q10, .inr (5, [.ref (f15 0)])), ((f15 0), iZ V N), (q22, .inr (5, [.ref (f27 0)])), ((f27 0), iZ V N)] H := hP
  have hD : va_D A [(h0, .inr (0, [.ref q10, .ref q22, .null, .int (0 : Int32)])), (q10, .inr (5, [.ref (f15 0)])), ((f15 0), iZ V N), (q22, .inr (5, [.ref (f27 0)])), ((f27 0), iZ V N)] := hD
  refine lv_aload_n hx hb dX0_init_33 rfl (lv_at hl 0 rfl) ?_
  have hkc34 : 5 ≤ 6 := by omega
  have hks34 : 1 + (N) + 1 + (N) + 1 ≤ 1 + (N) + 1 + (N) + 1 + (N) := by omega
  refine va_new (ci := 5) (fs := [.null]) (C := RX5) (T := TX5) (N := 1) hx hb hts (by decide +kernel) tyX5 tyX5_ok hown (hts (.classLink RX0 13 RX5) (by decide +kernel)) (hts (.instantiable RX5 1) (by decide +kernel)) (hts (.initialized RX5) (by decide +kernel)) hK.1 hP hD hS hA rfl (fun j hj => by have : j = 0 ∨ j = 0 := (by omega); rcases this with rfl | rfl <;> rfl) hkc34 hks34 dX0_init_34 (fun q34 H hP hD hS => ?_)
  have hP : va_P V.1 vwCl [(h0, .inr (0, [.ref q10, .ref q22, .null, .int (0 : Int32)])), (q10, .inr (5, [.ref (f15 0)])), ((f15 0), iZ V N), (q22, .inr (5, [.ref (f27 0)])), ((f27 0), iZ V N), (q34, .inr (5, [.null]))] H := hP
  have hD : va_D A [(h0, .inr (0, [.ref q10, .ref q22, .null, .int (0 : Int32)])), (q10, .inr (5, [.ref (f15 0)])), ((f15 0), iZ V N), (q22, .inr (5, [.ref (f27 0)])), ((f27 0), iZ V N), (q34, .inr (5, [.null]))] := hD
  refine W.widen (k := 5) (n := 1 + (N) + 1 + (N) + 1) (by omega) (by omega) ?_
  refine lv_dup hx hb dX0_init_37 rfl ?_
  refine lv_iload_n hx hb dX0_init_38 rfl (lv_at hl 1 rfl) ?_
  have hPc := hP.sub (ws' := [(q34, .inr (5, [.null]))]) [5] rfl
  have hDc := hD.sub (ws' := [(q34, .inr (5, [.null]))]) [5] (by decide) rfl
  have hFc := va_free (wc := [(q34, .inr (5, [.null]))]) hD hS hA [5] rfl
  have hkc39 : 6 ≤ 6 := by omega
  have hks39 : 1 + (N) + 1 + (N) + 1 + (N) ≤ 1 + (N) + 1 + (N) + 1 + (N) := by omega
  refine va_callv (va_runI (As := [.int (nI N)]) (rest := [.ref q34, .ref h0]) ⟨hx, hb, hml, hown, hts⟩ (iRow l V q34 H.size N (by omega)) (cwI 1 hts gX0_init_X5_init rfl rfl rfl (hts (.initialized RX5) (by decide +kernel)) (hts (.methodLink RX0 15 yX5_init) (by decide +kernel)) (hts (.instanceMethod yX5_init) (by decide +kernel)) rfl (by decide +kernel) ⟨Nat.le_of_ble_eq_true rfl, Nat.le_of_ble_eq_true rfl⟩) ⟨fun a U g mk q => by obtain ⟨q0, q1, qP, qK, qD⟩ := q; exact ⟨q0, q1, qP, ⟨va_K.moved (u := U) (U := U.calling g mk a) (Vm.Alike.refl U.vm) qK.1, xN.same (s := U) (U := U.calling g mk a) rfl qK.2⟩, qD⟩, fun U hU hW => ⟨rfl, by rw [hU], by rw [hU]; exact hPc, ⟨va_K.moved hW.alike hK.1, xN.warm hW hK.2⟩, hDc.weaken (fun _ _ _ _ => trivial)⟩⟩ rfl rfl hl.1 rfl (lv_room (Nat.le_of_ble_eq_true rfl)) dX0_init_39 ⟨hkc39, hks39⟩) hS (fun q _ h => hFc q h) hFc (fun u t H1 locs ht hvm hw hB hz1 hk1 hS => ?_)
  obtain ⟨f39, rfl⟩ : ∃ z, z = u := ⟨_, rfl⟩
  obtain ⟨hP1, hD1⟩ := hB
  rw [ht] at hP1
  obtain ⟨hP, hD⟩ := va_join (wr := [(h0, .inr (0, [.ref q10, .ref q22, .null, .int (0 : Int32)])), (q10, .inr (5, [.ref (f15 0)])), ((f15 0), iZ V N), (q22, .inr (5, [.ref (f27 0)])), ((f27 0), iZ V N)]) (w1 := [(q34, .inr (5, [.ref (f39 0)])), ((f39 0), iZ V N)]) hP hD [5] [0, 1, 2, 3, 4] rfl rfl (by decide) (by decide) hk1 hFc hP1 hD1
  generalize H1 = H at hP hS ⊢
  have hP : va_P V.1 vwCl [(h0, .inr (0, [.ref q10, .ref q22, .null, .int (0 : Int32)])), (q10, .inr (5, [.ref (f15 0)])), ((f15 0), iZ V N), (q22, .inr (5, [.ref (f27 0)])), ((f27 0), iZ V N), (q34, .inr (5, [.ref (f39 0)])), ((f39 0), iZ V N)] H := hP
  have hD : va_D A [(h0, .inr (0, [.ref q10, .ref q22, .null, .int (0 : Int32)])), (q10, .inr (5, [.ref (f15 0)])), ((f15 0), iZ V N), (q22, .inr (5, [.ref (f27 0)])), ((f27 0), iZ V N), (q34, .inr (5, [.ref (f39 0)])), ((f39 0), iZ V N)] := hD
  refine W.widen (k := 6) (n := 1 + (N) + 1 + (N) + 1 + (N)) (by omega) (by omega) ?_
  refine va_putF (D := V.1) (ci := 0) (v := .ref q34) (ty := .object "ProductLineChecker$Row") (C := RX0) (T := TX0) (N := 4) hx hb hts (by decide +kernel) tyX0 tyX0_ok nmX0 hown hK.1 hP hD hS 0 rfl rfl 2 (by decide) (hts (.fieldLink RX0 25 "ProductLineChecker$Conditions" "wheres" "LProductLineChecker$Row;") (by decide +kernel)) (fun _ h9 => h9) rfl hin rfl (by decide +kernel) rfl rfl (Nat.le_of_ble_eq_true rfl) dX0_init_42 (fun H locs hP hD hS => ?_)
  have hP : va_P V.1 vwCl [(h0, .inr (0, [.ref q10, .ref q22, .ref q34, .int (0 : Int32)])), (q10, .inr (5, [.ref (f15 0)])), ((f15 0), iZ V N), (q22, .inr (5, [.ref (f27 0)])), ((f27 0), iZ V N), (q34, .inr (5, [.ref (f39 0)])), ((f39 0), iZ V N)] H := hP
  have hD : va_D A [(h0, .inr (0, [.ref q10, .ref q22, .ref q34, .int (0 : Int32)])), (q10, .inr (5, [.ref (f15 0)])), ((f15 0), iZ V N), (q22, .inr (5, [.ref (f27 0)])), ((f27 0), iZ V N), (q34, .inr (5, [.ref (f39 0)])), ((f39 0), iZ V N)] := hD
  exact W.vret hx hb hr (fun t ht hW => ⟨⟨fun k => [q10, (f15 0), q22, (f27 0), q34, (f39 0)].getD k 0, rfl, trivial, by rw [ht]; exact hP, hD⟩, hS.F ht⟩) hS.2.2 dX0_init_45

set_option maxHeartbeats 4000000 in
set_option maxRecDepth 100000 in
theorem iView (l : Launch) (V : xV) (h0 sz : Nat) (a1 : Nat) : iM l yX7_init wsX7_init { frames := 2, cells := 12, slots := 1 + (4) + 1 + (8) + 1 + (8) + 1 + (160) + 1 + (50) + 1 + (800), locals := 41 } V [.ref h0, .ref a1] [(h0, .inr (7, [.null, .null, .null, .null, .null, .null, .null, .int 0]))] sz 12 (1 + (4) + 1 + (8) + 1 + (8) + 1 + (160) + 1 + (50) + 1 + (800)) (fun f => [(h0, .inr (7, [.ref a1, .ref (f 0), .ref (f 2), .ref (f 4), .ref (f 6), .ref (f 8), .ref (f 10), .int (0 : Int32)])), ((f 0), .inr (5, [.ref (f 1)])), ((f 1), iZ V 4), ((f 2), .inr (5, [.ref (f 3)])), ((f 3), iZ V 8), ((f 4), .inr (5, [.ref (f 5)])), ((f 5), iZ V 8), ((f 6), .inr (5, [.ref (f 7)])), ((f 7), iZ V 160), ((f 8), .inr (5, [.ref (f 9)])), ((f 9), iZ V 50), ((f 10), .inr (5, [.ref (f 11)])), ((f 11), iZ V 800)]) := by
  refine Met.ofW (cc := cX7_init) (maxL := 2) (ret := none) (by decide) rfl ?_
  intro p e s m args below meth c s₁ B hml hv
  obtain ⟨rfl, hsz, hP, hK, hD0⟩ := hv
  have hx := B.exec
  have hb := B.bytes
  have hr := B.returns
  have hts := atoms_spec (ws := wsX7_init) B.pre
  have hown : s.vm.findClass RX7 = some m.cls := findClass_of_methodNamed B.named
  have hin : meth.name = "<init>" := (name_of_methodNamed B.named B.method).1
  subst hsz
  have hD := hD0.self (sz := s.heap.size)
  generalize hAe : va_A [(h0, .inr (7, [.null, .null, .null, .null, .null, .null, .null, .int 0]))] s.heap.size = A at hD ⊢
  have hA : ∀ q : Nat, s.heap.size ≤ q → A q := fun q h => by rw [← hAe]; exact Or.inr h
  have hS : va_S A s.heap s.heap [] := va_S.rf
  have hl := lv_entry ([.ref h0, .ref a1]) (n := 2) (Nat.le_of_ble_eq_true rfl)
  rw [lg_entry_eq]
  generalize (lg_sl ([.ref h0, .ref a1]) ++ List.replicate (2 - (lg_sl ([.ref h0, .ref a1])).length) Slot.unset).toArray = ls at hl ⊢
  have hl : lv_has ls 2 [(0, .ref h0), (1, .ref a1)] := hl
  refine lv_aload_n hx hb dX7_init_0 rfl (lv_at hl 0 rfl) ?_
  refine W.objInit hx hb hown (hts (.methodLink RX7 3 objectInit) (by decide +kernel)) (hts (.instanceMethod objectInit) (by decide +kernel)) (hts _ (List.mem_of_getElem? (i := 3) rfl)) rfl (by rw [hml]; exact hl.1) rfl dX7_init_1 (Nat.le_of_ble_eq_true rfl) (Nat.le_of_ble_eq_true rfl) ?_
  refine W.eq (g2 := F0 m 4 ls []) rfl ?_
  refine lv_aload_n hx hb dX7_init_4 rfl (lv_at hl 0 rfl) ?_
  have hkc5 : 1 ≤ 12 := by omega
  have hks5 : 0 + 1 ≤ 1 + (4) + 1 + (8) + 1 + (8) + 1 + (160) + 1 + (50) + 1 + (800) := by omega
  refine va_new (ci := 5) (fs := [.null]) (C := RX5) (T := TX5) (N := 1) hx hb hts (by decide +kernel) tyX5 tyX5_ok hown (hts (.classLink RX7 9 RX5) (by decide +kernel)) (hts (.instantiable RX5 1) (by decide +kernel)) (hts (.initialized RX5) (by decide +kernel)) hK.1 hP hD hS hA rfl (fun j hj => by have : j = 0 ∨ j = 0 := (by omega); rcases this with rfl | rfl <;> rfl) hkc5 hks5 dX7_init_5 (fun q5 H hP hD hS => ?_)
  have hP : va_P V.1 vwCl [(h0, .inr (7, [.null, .null, .null, .null, .null, .null, .null, .int 0])), (q5, .inr (5, [.null]))] H := hP
  have hD : va_D A [(h0, .inr (7, [.null, .null, .null, .null, .null, .null, .null, .int 0])), (q5, .inr (5, [.null]))] := hD
  refine W.widen (k := 1) (n := 1) (by omega) (by omega) ?_
  refine lv_dup hx hb dX7_init_8 rfl ?_
  refine lv_iconst (v := (nI 4)) hx hb dX7_init_9 (by decide) ?_
  have hPc := hP.sub (ws' := [(q5, .inr (5, [.null]))]) [1] rfl
  have hDc := hD.sub (ws' := [(q5, .inr (5, [.null]))]) [1] (by decide) rfl
  have hFc := va_free (wc := [(q5, .inr (5, [.null]))]) hD hS hA [1] rfl
  have hkc10 : 2 ≤ 12 := by omega
  have hks10 : 1 + (4) ≤ 1 + (4) + 1 + (8) + 1 + (8) + 1 + (160) + 1 + (50) + 1 + (800) := by omega
  refine va_callv (va_runI (As := [.int (nI 4)]) (rest := [.ref q5, .ref h0]) ⟨hx, hb, hml, hown, hts⟩ (iRow l V q5 H.size 4 (by omega)) (cwI 1 hts gX7_init_X5_init rfl rfl rfl (hts (.initialized RX5) (by decide +kernel)) (hts (.methodLink RX7 11 yX5_init) (by decide +kernel)) (hts (.instanceMethod yX5_init) (by decide +kernel)) rfl (by decide +kernel) ⟨Nat.le_of_ble_eq_true rfl, Nat.le_of_ble_eq_true rfl⟩) ⟨fun a U g mk q => by obtain ⟨q0, q1, qP, qK, qD⟩ := q; exact ⟨q0, q1, qP, ⟨va_K.moved (u := U) (U := U.calling g mk a) (Vm.Alike.refl U.vm) qK.1, xN.same (s := U) (U := U.calling g mk a) rfl qK.2⟩, qD⟩, fun U hU hW => ⟨rfl, by rw [hU], by rw [hU]; exact hPc, ⟨va_K.moved hW.alike hK.1, xN.warm hW hK.2⟩, hDc.weaken (fun _ _ _ _ => trivial)⟩⟩ rfl rfl hl.1 rfl (lv_room (Nat.le_of_ble_eq_true rfl)) dX7_init_10 ⟨hkc10, hks10⟩) hS (fun q _ h => hFc q h) hFc (fun u t H1 locs ht hvm hw hB hz1 hk1 hS => ?_)
  obtain ⟨f10, rfl⟩ : ∃ z, z = u := ⟨_, rfl⟩
  obtain ⟨hP1, hD1⟩ := hB
  rw [ht] at hP1
  obtain ⟨hP, hD⟩ := va_join (wr := [(h0, .inr (7, [.null, .null, .null, .null, .null, .null, .null, .int 0]))]) (w1 := [(q5, .inr (5, [.ref (f10 0)])), ((f10 0), iZ V 4)]) hP hD [1] [0] rfl rfl (by decide) (by decide) hk1 hFc hP1 hD1
  generalize H1 = H at hP hS ⊢
  have hP : va_P V.1 vwCl [(h0, .inr (7, [.null, .null, .null, .null, .null, .null, .null, .int 0])), (q5, .inr (5, [.ref (f10 0)])), ((f10 0), iZ V 4)] H := hP
  have hD : va_D A [(h0, .inr (7, [.null, .null, .null, .null, .null, .null, .null, .int 0])), (q5, .inr (5, [.ref (f10 0)])), ((f10 0), iZ V 4)] := hD
  refine W.widen (k := 2) (n := 1 + (4)) (by omega) (by omega) ?_
  refine va_putF (D := V.1) (ci := 7) (v := .ref q5) (ty := .object "ProductLineChecker$Row") (C := RX7) (T := TX7) (N := 8) hx hb hts (by decide +kernel) tyX7 tyX7_ok nmX7 hown hK.1 hP hD hS 0 rfl rfl 1 (by decide) (hts (.fieldLink RX7 14 "ProductLineChecker$View" "there" "LProductLineChecker$Row;") (by decide +kernel)) (fun _ h9 => h9) rfl hin rfl (by decide +kernel) rfl rfl (Nat.le_of_ble_eq_true rfl) dX7_init_13 (fun H locs hP hD hS => ?_)
  have hP : va_P V.1 vwCl [(h0, .inr (7, [.null, .ref q5, .null, .null, .null, .null, .null, .int 0])), (q5, .inr (5, [.ref (f10 0)])), ((f10 0), iZ V 4)] H := hP
  have hD : va_D A [(h0, .inr (7, [.null, .ref q5, .null, .null, .null, .null, .null, .int 0])), (q5, .inr (5, [.ref (f10 0)])), ((f10 0), iZ V 4)] := hD
  refine lv_aload_n hx hb dX7_init_16 rfl (lv_at hl 0 rfl) ?_
  have hkc17 : 3 ≤ 12 := by omega
  have hks17 : 1 + (4) + 1 ≤ 1 + (4) + 1 + (8) + 1 + (8) + 1 + (160) + 1 + (50) + 1 + (800) := by omega
  refine va_new (ci := 5) (fs := [.null]) (C := RX5) (T := TX5) (N := 1) hx hb hts (by decide +kernel) tyX5 tyX5_ok hown (hts (.classLink RX7 9 RX5) (by decide +kernel)) (hts (.instantiable RX5 1) (by decide +kernel)) (hts (.initialized RX5) (by decide +kernel)) hK.1 hP hD hS hA rfl (fun j hj => by have : j = 0 ∨ j = 0 := (by omega); rcases this with rfl | rfl <;> rfl) hkc17 hks17 dX7_init_17 (fun q17 H hP hD hS => ?_)
  have hP : va_P V.1 vwCl [(h0, .inr (7, [.null, .ref q5, .null, .null, .null, .null, .null, .int 0])), (q5, .inr (5, [.ref (f10 0)])), ((f10 0), iZ V 4), (q17, .inr (5, [.null]))] H := hP
  have hD : va_D A [(h0, .inr (7, [.null, .ref q5, .null, .null, .null, .null, .null, .int 0])), (q5, .inr (5, [.ref (f10 0)])), ((f10 0), iZ V 4), (q17, .inr (5, [.null]))] := hD
  refine W.widen (k := 3) (n := 1 + (4) + 1) (by omega) (by omega) ?_
  refine lv_dup hx hb dX7_init_20 rfl ?_
  refine lv_bipush (v := (nI 8)) hx hb dX7_init_21 (by decide) ?_
  have hPc := hP.sub (ws' := [(q17, .inr (5, [.null]))]) [3] rfl
  have hDc := hD.sub (ws' := [(q17, .inr (5, [.null]))]) [3] (by decide) rfl
  have hFc := va_free (wc := [(q17, .inr (5, [.null]))]) hD hS hA [3] rfl
  have hkc23 : 4 ≤ 12 := by omega
  have hks23 : 1 + (4) + 1 + (8) ≤ 1 + (4) + 1 + (8) + 1 + (8) + 1 + (160) + 1 + (50) + 1 + (800) := by omega
  refine va_callv (va_runI (As := [.int (nI 8)]) (rest := [.ref q17, .ref h0]) ⟨hx, hb, hml, hown, hts⟩ (iRow l V q17 H.size 8 (by omega)) (cwI 1 hts gX7_init_X5_init rfl rfl rfl (hts (.initialized RX5) (by decide +kernel)) (hts (.methodLink RX7 11 yX5_init) (by decide +kernel)) (hts (.instanceMethod yX5_init) (by decide +kernel)) rfl (by decide +kernel) ⟨Nat.le_of_ble_eq_true rfl, Nat.le_of_ble_eq_true rfl⟩) ⟨fun a U g mk q => by obtain ⟨q0, q1, qP, qK, qD⟩ := q; exact ⟨q0, q1, qP, ⟨va_K.moved (u := U) (U := U.calling g mk a) (Vm.Alike.refl U.vm) qK.1, xN.same (s := U) (U := U.calling g mk a) rfl qK.2⟩, qD⟩, fun U hU hW => ⟨rfl, by rw [hU], by rw [hU]; exact hPc, ⟨va_K.moved hW.alike hK.1, xN.warm hW hK.2⟩, hDc.weaken (fun _ _ _ _ => trivial)⟩⟩ rfl rfl hl.1 rfl (lv_room (Nat.le_of_ble_eq_true rfl)) dX7_init_23 ⟨hkc23, hks23⟩) hS (fun q _ h => hFc q h) hFc (fun u t H1 locs ht hvm hw hB hz1 hk1 hS => ?_)
  obtain ⟨f23, rfl⟩ : ∃ z, z = u := ⟨_, rfl⟩
  obtain ⟨hP1, hD1⟩ := hB
  rw [ht] at hP1
  obtain ⟨hP, hD⟩ := va_join (wr := [(h0, .inr (7, [.null, .ref q5, .null, .null, .null, .null, .null, .int 0])), (q5, .inr (5, [.ref (f10 0)])), ((f10 0), iZ V 4)]) (w1 := [(q17, .inr (5, [.ref (f23 0)])), ((f23 0), iZ V 8)]) hP hD [3] [0, 1, 2] rfl rfl (by decide) (by decide) hk1 hFc hP1 hD1
  generalize H1 = H at hP hS ⊢
  have hP : va_P V.1 vwCl [(h0, .inr (7, [.null, .ref q5, .null, .null, .null, .null, .null, .int 0])), (q5, .inr (5, [.ref (f10 0)])), ((f10 0), iZ V 4), (q17, .inr (5, [.ref (f23 0)])), ((f23 0), iZ V 8)] H := hP
  have hD : va_D A [(h0, .inr (7, [.null, .ref q5, .null, .null, .null, .null, .null, .int 0])), (q5, .inr (5, [.ref (f10 0)])), ((f10 0), iZ V 4), (q17, .inr (5, [.ref (f23 0)])), ((f23 0), iZ V 8)] := hD
  refine W.widen (k := 4) (n := 1 + (4) + 1 + (8)) (by omega) (by omega) ?_
  refine va_putF (D := V.1) (ci := 7) (v := .ref q17) (ty := .object "ProductLineChecker$Row") (C := RX7) (T := TX7) (N := 8) hx hb hts (by decide +kernel) tyX7 tyX7_ok nmX7 hown hK.1 hP hD hS 0 rfl rfl 2 (by decide) (hts (.fieldLink RX7 20 "ProductLineChecker$View" "parents" "LProductLineChecker$Row;") (by decide +kernel)) (fun _ h9 => h9) rfl hin rfl (by decide +kernel) rfl rfl (Nat.le_of_ble_eq_true rfl) dX7_init_26 (fun H locs hP hD hS => ?_)
  have hP : va_P V.1 vwCl [(h0, .inr (7, [.null, .ref q5, .ref q17, .null, .null, .null, .null, .int 0])), (q5, .inr (5, [.ref (f10 0)])), ((f10 0), iZ V 4), (q17, .inr (5, [.ref (f23 0)])), ((f23 0), iZ V 8)] H := hP
  have hD : va_D A [(h0, .inr (7, [.null, .ref q5, .ref q17, .null, .null, .null, .null, .int 0])), (q5, .inr (5, [.ref (f10 0)])), ((f10 0), iZ V 4), (q17, .inr (5, [.ref (f23 0)])), ((f23 0), iZ V 8)] := hD
  refine lv_aload_n hx hb dX7_init_29 rfl (lv_at hl 0 rfl) ?_
  have hkc30 : 5 ≤ 12 := by omega
  have hks30 : 1 + (4) + 1 + (8) + 1 ≤ 1 + (4) + 1 + (8) + 1 + (8) + 1 + (160) + 1 + (50) + 1 + (800) := by omega
  refine va_new (ci := 5) (fs := [.null]) (C := RX5) (T := TX5) (N := 1) hx hb hts (by decide +kernel) tyX5 tyX5_ok hown (hts (.classLink RX7 9 RX5) (by decide +kernel)) (hts (.instantiable RX5 1) (by decide +kernel)) (hts (.initialized RX5) (by decide +kernel)) hK.1 hP hD hS hA rfl (fun j hj => by have : j = 0 ∨ j = 0 := (by omega); rcases this with rfl | rfl <;> rfl) hkc30 hks30 dX7_init_30 (fun q30 H hP hD hS => ?_)
  have hP : va_P V.1 vwCl [(h0, .inr (7, [.null, .ref q5, .ref q17, .null, .null, .null, .null, .int 0])), (q5, .inr (5, [.ref (f10 0)])), ((f10 0), iZ V 4), (q17, .inr (5, [.ref (f23 0)])), ((f23 0), iZ V 8), (q30, .inr (5, [.null]))] H := hP
  have hD : va_D A [(h0, .inr (7, [.null, .ref q5, .ref q17, .null, .null, .null, .null, .int 0])), (q5, .inr (5, [.ref (f10 0)])), ((f10 0), iZ V 4), (q17, .inr (5, [.ref (f23 0)])), ((f23 0), iZ V 8), (q30, .inr (5, [.null]))] := hD
  refine W.widen (k := 5) (n := 1 + (4) + 1 + (8) + 1) (by omega) (by omega) ?_
  refine lv_dup hx hb dX7_init_33 rfl ?_
  refine lv_bipush (v := (nI 8)) hx hb dX7_init_34 (by decide) ?_
  have hPc := hP.sub (ws' := [(q30, .inr (5, [.null]))]) [5] rfl
  have hDc := hD.sub (ws' := [(q30, .inr (5, [.null]))]) [5] (by decide) rfl
  have hFc := va_free (wc := [(q30, .inr (5, [.null]))]) hD hS hA [5] rfl
  have hkc36 : 6 ≤ 12 := by omega
  have hks36 : 1 + (4) + 1 + (8) + 1 + (8) ≤ 1 + (4) + 1 + (8) + 1 + (8) + 1 + (160) + 1 + (50) + 1 + (800) := by omega
  refine va_callv (va_runI (As := [.int (nI 8)]) (rest := [.ref q30, .ref h0]) ⟨hx, hb, hml, hown, hts⟩ (iRow l V q30 H.size 8 (by omega)) (cwI 1 hts gX7_init_X5_init rfl rfl rfl (hts (.initialized RX5) (by decide +kernel)) (hts (.methodLink RX7 11 yX5_init) (by decide +kernel)) (hts (.instanceMethod yX5_init) (by decide +kernel)) rfl (by decide +kernel) ⟨Nat.le_of_ble_eq_true rfl, Nat.le_of_ble_eq_true rfl⟩) ⟨fun a U g mk q => by obtain ⟨q0, q1, qP, qK, qD⟩ := q; exact ⟨q0, q1, qP, ⟨va_K.moved (u := U) (U := U.calling g mk a) (Vm.Alike.refl U.vm) qK.1, xN.same (s := U) (U := U.calling g mk a) rfl qK.2⟩, qD⟩, fun U hU hW => ⟨rfl, by rw [hU], by rw [hU]; exact hPc, ⟨va_K.moved hW.alike hK.1, xN.warm hW hK.2⟩, hDc.weaken (fun _ _ _ _ => trivial)⟩⟩ rfl rfl hl.1 rfl (lv_room (Nat.le_of_ble_eq_true rfl)) dX7_init_36 ⟨hkc36, hks36⟩) hS (fun q _ h => hFc q h) hFc (fun u t H1 locs ht hvm hw hB hz1 hk1 hS => ?_)
  obtain ⟨f36, rfl⟩ : ∃ z, z = u := ⟨_, rfl⟩
  obtain ⟨hP1, hD1⟩ := hB
  rw [ht] at hP1
  obtain ⟨hP, hD⟩ := va_join (wr := [(h0, .inr (7, [.null, .ref q5, .ref q17, .null, .null, .null, .null, .int 0])), (q5, .inr (5, [.ref (f10 0)])), ((f10 0), iZ V 4), (q17, .inr (5, [.ref (f23 0)])), ((f23 0), iZ V 8)]) (w1 := [(q30, .inr (5, [.ref (f36 0)])), ((f36 0), iZ V 8)]) hP hD [5] [0, 1, 2, 3, 4] rfl rfl (by decide) (by decide) hk1 hFc hP1 hD1
  generalize H1 = H at hP hS ⊢
  have hP : va_P V.1 vwCl [(h0, .inr (7, [.null, .ref q5, .ref q17, .null, .null, .null, .null, .int 0])), (q5, .inr (5, [.ref (f10 0)])), ((f10 0), iZ V 4), (q17, .inr (5, [.ref (f23 0)])), ((f23 0), iZ V 8), (q30, .inr (5, [.ref (f36 0)])), ((f36 0), iZ V 8)] H := hP
  have hD : va_D A [(h0, .inr (7, [.null, .ref q5, .ref q17, .null, .null, .null, .null, .int 0])), (q5, .inr (5, [.ref (f10 0)])), ((f10 0), iZ V 4), (q17, .inr (5, [.ref (f23 0)])), ((f23 0), iZ V 8), (q30, .inr (5, [.ref (f36 0)])), ((f36 0), iZ V 8)] := hD
  refine W.widen (k := 6) (n := 1 + (4) + 1 + (8) + 1 + (8)) (by omega) (by omega) ?_
  refine va_putF (D := V.1) (ci := 7) (v := .ref q30) (ty := .object "ProductLineChecker$Row") (C := RX7) (T := TX7) (N := 8) hx hb hts (by decide +kernel) tyX7 tyX7_ok nmX7 hown hK.1 hP hD hS 0 rfl rfl 3 (by decide) (hts (.fieldLink RX7 23 "ProductLineChecker$View" "ancestors" "LProductLineChecker$Row;") (by decide +kernel)) (fun _ h9 => h9) rfl hin rfl (by decide +kernel) rfl rfl (Nat.le_of_ble_eq_true rfl) dX7_init_39 (fun H locs hP hD hS => ?_)
  have hP : va_P V.1 vwCl [(h0, .inr (7, [.null, .ref q5, .ref q17, .ref q30, .null, .null, .null, .int 0])), (q5, .inr (5, [.ref (f10 0)])), ((f10 0), iZ V 4), (q17, .inr (5, [.ref (f23 0)])), ((f23 0), iZ V 8), (q30, .inr (5, [.ref (f36 0)])), ((f36 0), iZ V 8)] H := hP
  have hD : va_D A [(h0, .inr (7, [.null, .ref q5, .ref q17, .ref q30, .null, .null, .null, .int 0])), (q5, .inr (5, [.ref (f10 0)])), ((f10 0), iZ V 4), (q17, .inr (5, [.ref (f23 0)])), ((f23 0), iZ V 8), (q30, .inr (5, [.ref (f36 0)])), ((f36 0), iZ V 8)] := hD
  refine lv_aload_n hx hb dX7_init_42 rfl (lv_at hl 0 rfl) ?_
  have hkc43 : 7 ≤ 12 := by omega
  have hks43 : 1 + (4) + 1 + (8) + 1 + (8) + 1 ≤ 1 + (4) + 1 + (8) + 1 + (8) + 1 + (160) + 1 + (50) + 1 + (800) := by omega
  refine va_new (ci := 5) (fs := [.null]) (C := RX5) (T := TX5) (N := 1) hx hb hts (by decide +kernel) tyX5 tyX5_ok hown (hts (.classLink RX7 9 RX5) (by decide +kernel)) (hts (.instantiable RX5 1) (by decide +kernel)) (hts (.initialized RX5) (by decide +kernel)) hK.1 hP hD hS hA rfl (fun j hj => by have : j = 0 ∨ j = 0 := (by omega); rcases this with rfl | rfl <;> rfl) hkc43 hks43 dX7_init_43 (fun q43 H hP hD hS => ?_)
  have hP : va_P V.1 vwCl [(h0, .inr (7, [.null, .ref q5, .ref q17, .ref q30, .null, .null, .null, .int 0])), (q5, .inr (5, [.ref (f10 0)])), ((f10 0), iZ V 4), (q17, .inr (5, [.ref (f23 0)])), ((f23 0), iZ V 8), (q30, .inr (5, [.ref (f36 0)])), ((f36 0), iZ V 8), (q43, .inr (5, [.null]))] H := hP
  have hD : va_D A [(h0, .inr (7, [.null, .ref q5, .ref q17, .ref q30, .null, .null, .null, .int 0])), (q5, .inr (5, [.ref (f10 0)])), ((f10 0), iZ V 4), (q17, .inr (5, [.ref (f23 0)])), ((f23 0), iZ V 8), (q30, .inr (5, [.ref (f36 0)])), ((f36 0), iZ V 8), (q43, .inr (5, [.null]))] := hD
  refine W.widen (k := 7) (n := 1 + (4) + 1 + (8) + 1 + (8) + 1) (by omega) (by omega) ?_
  refine lv_dup hx hb dX7_init_46 rfl ?_
  refine lv_sipush (v := (nI 160)) hx hb dX7_init_47 (by decide) ?_
  have hPc := hP.sub (ws' := [(q43, .inr (5, [.null]))]) [7] rfl
  have hDc := hD.sub (ws' := [(q43, .inr (5, [.null]))]) [7] (by decide) rfl
  have hFc := va_free (wc := [(q43, .inr (5, [.null]))]) hD hS hA [7] rfl
  have hkc50 : 8 ≤ 12 := by omega
  have hks50 : 1 + (4) + 1 + (8) + 1 + (8) + 1 + (160) ≤ 1 + (4) + 1 + (8) + 1 + (8) + 1 + (160) + 1 + (50) + 1 + (800) := by omega
  refine va_callv (va_runI (As := [.int (nI 160)]) (rest := [.ref q43, .ref h0]) ⟨hx, hb, hml, hown, hts⟩ (iRow l V q43 H.size 160 (by omega)) (cwI 1 hts gX7_init_X5_init rfl rfl rfl (hts (.initialized RX5) (by decide +kernel)) (hts (.methodLink RX7 11 yX5_init) (by decide +kernel)) (hts (.instanceMethod yX5_init) (by decide +kernel)) rfl (by decide +kernel) ⟨Nat.le_of_ble_eq_true rfl, Nat.le_of_ble_eq_true rfl⟩) ⟨fun a U g mk q => by obtain ⟨q0, q1, qP, qK, qD⟩ := q; exact ⟨q0, q1, qP, ⟨va_K.moved (u := U) (U := U.calling g mk a) (Vm.Alike.refl U.vm) qK.1, xN.same (s := U) (U := U.calling g mk a) rfl qK.2⟩, qD⟩, fun U hU hW => ⟨rfl, by rw [hU], by rw [hU]; exact hPc, ⟨va_K.moved hW.alike hK.1, xN.warm hW hK.2⟩, hDc.weaken (fun _ _ _ _ => trivial)⟩⟩ rfl rfl hl.1 rfl (lv_room (Nat.le_of_ble_eq_true rfl)) dX7_init_50 ⟨hkc50, hks50⟩) hS (fun q _ h => hFc q h) hFc (fun u t H1 locs ht hvm hw hB hz1 hk1 hS => ?_)
  obtain ⟨f50, rfl⟩ : ∃ z, z = u := ⟨_, rfl⟩
  obtain ⟨hP1, hD1⟩ := hB
  rw [ht] at hP1
  obtain ⟨hP, hD⟩ := va_join (wr := [(h0, .inr (7, [.null, .ref q5, .ref q17, .ref q30, .null, .null, .null, .int 0])), (q5, .inr (5, [.ref (f10 0)])), ((f10 0), iZ V 4), (q17, .inr (5, [.ref (f23 0)])), ((f23 0), iZ V 8), (q30, .inr (5, [.ref (f36 0)])), ((f36 0), iZ V 8)]) (w1 := [(q43, .inr (5, [.ref (f50 0)])), ((f50 0), iZ V 160)]) hP hD [7] [0, 1, 2, 3, 4, 5, 6] rfl rfl (by decide) (by decide) hk1 hFc hP1 hD1
  generalize H1 = H at hP hS ⊢
  have hP : va_P V.1 vwCl [(h0, .inr (7, [.null, .ref q5, .ref q17, .ref q30, .null, .null, .null, .int 0])), (q5, .inr (5, [.ref (f10 0)])), ((f10 0), iZ V 4), (q17, .inr (5, [.ref (f23 0)])), ((f23 0), iZ V 8), (q30, .inr (5, [.ref (f36 0)])), ((f36 0), iZ V 8), (q43, .inr (5, [.ref (f50 0)])), ((f50 0), iZ V 160)] H := hP
  have hD : va_D A [(h0, .inr (7, [.null, .ref q5, .ref q17, .ref q30, .null, .null, .null, .int 0])), (q5, .inr (5, [.ref (f10 0)])), ((f10 0), iZ V 4), (q17, .inr (5, [.ref (f23 0)])), ((f23 0), iZ V 8), (q30, .inr (5, [.ref (f36 0)])), ((f36 0), iZ V 8), (q43, .inr (5, [.ref (f50 0)])), ((f50 0), iZ V 160)] := hD
  refine W.widen (k := 8) (n := 1 + (4) + 1 + (8) + 1 + (8) + 1 + (160)) (by omega) (by omega) ?_
  refine va_putF (D := V.1) (ci := 7) (v := .ref q43) (ty := .object "ProductLineChecker$Row") (C := RX7) (T := TX7) (N := 8) hx hb hts (by decide +kernel) tyX7 tyX7_ok nmX7 hown hK.1 hP hD hS 0 rfl rfl 4 (by decide) (hts (.fieldLink RX7 26 "ProductLineChecker$View" "firstMembers" "LProductLineChecker$Row;") (by decide +kernel)) (fun _ h9 => h9) rfl hin rfl (by decide +kernel) rfl rfl (Nat.le_of_ble_eq_true rfl) dX7_init_53 (fun H locs hP hD hS => ?_)
  have hP : va_P V.1 vwCl [(h0, .inr (7, [.null, .ref q5, .ref q17, .ref q30, .ref q43, .null, .null, .int 0])), (q5, .inr (5, [.ref (f10 0)])), ((f10 0), iZ V 4), (q17, .inr (5, [.ref (f23 0)])), ((f23 0), iZ V 8), (q30, .inr (5, [.ref (f36 0)])), ((f36 0), iZ V 8), (q43, .inr (5, [.ref (f50 0)])), ((f50 0), iZ V 160)] H := hP
  have hD : va_D A [(h0, .inr (7, [.null, .ref q5, .ref q17, .ref q30, .ref q43, .null, .null, .int 0])), (q5, .inr (5, [.ref (f10 0)])), ((f10 0), iZ V 4), (q17, .inr (5, [.ref (f23 0)])), ((f23 0), iZ V 8), (q30, .inr (5, [.ref (f36 0)])), ((f36 0), iZ V 8), (q43, .inr (5, [.ref (f50 0)])), ((f50 0), iZ V 160)] := hD
  refine lv_aload_n hx hb dX7_init_56 rfl (lv_at hl 0 rfl) ?_
  have hkc57 : 9 ≤ 12 := by omega
  have hks57 : 1 + (4) + 1 + (8) + 1 + (8) + 1 + (160) + 1 ≤ 1 + (4) + 1 + (8) + 1 + (8) + 1 + (160) + 1 + (50) + 1 + (800) := by omega
  refine va_new (ci := 5) (fs := [.null]) (C := RX5) (T := TX5) (N := 1) hx hb hts (by decide +kernel) tyX5 tyX5_ok hown (hts (.classLink RX7 9 RX5) (by decide +kernel)) (hts (.instantiable RX5 1) (by decide +kernel)) (hts (.initialized RX5) (by decide +kernel)) hK.1 hP hD hS hA rfl (fun j hj => by have : j = 0 ∨ j = 0 := (by omega); rcases this with rfl | rfl <;> rfl) hkc57 hks57 dX7_init_57 (fun q57 H hP hD hS => ?_)
  have hP : va_P V.1 vwCl [(h0, .inr (7, [.null, .ref q5, .ref q17, .ref q30, .ref q43, .null, .null, .int 0])), (q5, .inr (5, [.ref (f10 0)])), ((f10 0), iZ V 4), (q17, .inr (5, [.ref (f23 0)])), ((f23 0), iZ V 8), (q30, .inr (5, [.ref (f36 0)])), ((f36 0), iZ V 8), (q43, .inr (5, [.ref (f50 0)])), ((f50 0), iZ V 160), (q57, .inr (5, [.null]))] H := hP
  have hD : va_D A [(h0, .inr (7, [.null, .ref q5, .ref q17, .ref q30, .ref q43, .null, .null, .int 0])), (q5, .inr (5, [.ref (f10 0)])), ((f10 0), iZ V 4), (q17, .inr (5, [.ref (f23 0)])), ((f23 0), iZ V 8), (q30, .inr (5, [.ref (f36 0)])), ((f36 0), iZ V 8), (q43, .inr (5, [.ref (f50 0)])), ((f50 0), iZ V 160), (q57, .inr (5, [.null]))] := hD
  refine W.widen (k := 9) (n := 1 + (4) + 1 + (8) + 1 + (8) + 1 + (160) + 1) (by omega) (by omega) ?_
  refine lv_dup hx hb dX7_init_60 rfl ?_
  refine lv_bipush (v := (nI 50)) hx hb dX7_init_61 (by decide) ?_
  have hPc := hP.sub (ws' := [(q57, .inr (5, [.null]))]) [9] rfl
  have hDc := hD.sub (ws' := [(q57, .inr (5, [.null]))]) [9] (by decide) rfl
  have hFc := va_free (wc := [(q57, .inr (5, [.null]))]) hD hS hA [9] rfl
  have hkc63 : 10 ≤ 12 := by omega
  have hks63 : 1 + (4) + 1 + (8) + 1 + (8) + 1 + (160) + 1 + (50) ≤ 1 + (4) + 1 + (8) + 1 + (8) + 1 + (160) + 1 + (50) + 1 + (800) := by omega
  refine va_callv (va_runI (As := [.int (nI 50)]) (rest := [.ref q57, .ref h0]) ⟨hx, hb, hml, hown, hts⟩ (iRow l V q57 H.size 50 (by omega)) (cwI 1 hts gX7_init_X5_init rfl rfl rfl (hts (.initialized RX5) (by decide +kernel)) (hts (.methodLink RX7 11 yX5_init) (by decide +kernel)) (hts (.instanceMethod yX5_init) (by decide +kernel)) rfl (by decide +kernel) ⟨Nat.le_of_ble_eq_true rfl, Nat.le_of_ble_eq_true rfl⟩) ⟨fun a U g mk q => by obtain ⟨q0, q1, qP, qK, qD⟩ := q; exact ⟨q0, q1, qP, ⟨va_K.moved (u := U) (U := U.calling g mk a) (Vm.Alike.refl U.vm) qK.1, xN.same (s := U) (U := U.calling g mk a) rfl qK.2⟩, qD⟩, fun U hU hW => ⟨rfl, by rw [hU], by rw [hU]; exact hPc, ⟨va_K.moved hW.alike hK.1, xN.warm hW hK.2⟩, hDc.weaken (fun _ _ _ _ => trivial)⟩⟩ rfl rfl hl.1 rfl (lv_room (Nat.le_of_ble_eq_true rfl)) dX7_init_63 ⟨hkc63, hks63⟩) hS (fun q _ h => hFc q h) hFc (fun u t H1 locs ht hvm hw hB hz1 hk1 hS => ?_)
  obtain ⟨f63, rfl⟩ : ∃ z, z = u := ⟨_, rfl⟩
  obtain ⟨hP1, hD1⟩ := hB
  rw [ht] at hP1
  obtain ⟨hP, hD⟩ := va_join (wr := [(h0, .inr (7, [.null, .ref q5, .ref q17, .ref q30, .ref q43, .null, .null, .int 0])), (q5, .inr (5, [.ref (f10 0)])), ((f10 0), iZ V 4), (q17, .inr (5, [.ref (f23 0)])), ((f23 0), iZ V 8), (q30, .inr (5, [.ref (f36 0)])), ((f36 0), iZ V 8), (q43, .inr (5, [.ref (f50 0)])), ((f50 0), iZ V 160)]) (w1 := [(q57, .inr (5, [.ref (f63 0)])), ((f63 0), iZ V 50)]) hP hD [9] [0, 1, 2, 3, 4, 5, 6, 7, 8] rfl rfl (by decide) (by decide) hk1 hFc hP1 hD1
  generalize H1 = H at hP hS ⊢
  have hP : va_P V.1 vwCl [(h0, .inr (7, [.null, .ref q5, .ref q17, .ref q30, .ref q43, .null, .null, .int 0])), (q5, .inr (5, [.ref (f10 0)])), ((f10 0), iZ V 4), (q17, .inr (5, [.ref (f23 0)])), ((f23 0), iZ V 8), (q30, .inr (5, [.ref (f36 0)])), ((f36 0), iZ V 8), (q43, .inr (5, [.ref (f50 0)])), ((f50 0), iZ V 160), (q57, .inr (5, [.ref (f63 0)])), ((f63 0), iZ V 50)] H := hP
  have hD : va_D A [(h0, .inr (7, [.null, .ref q5, .ref q17, .ref q30, .ref q43, .null, .null, .int 0])), (q5, .inr (5, [.ref (f10 0)])), ((f10 0), iZ V 4), (q17, .inr (5, [.ref (f23 0)])), ((f23 0), iZ V 8), (q30, .inr (5, [.ref (f36 0)])), ((f36 0), iZ V 8), (q43, .inr (5, [.ref (f50 0)])), ((f50 0), iZ V 160), (q57, .inr (5, [.ref (f63 0)])), ((f63 0), iZ V 50)] := hD
  refine W.widen (k := 10) (n := 1 + (4) + 1 + (8) + 1 + (8) + 1 + (160) + 1 + (50)) (by omega) (by omega) ?_
  refine va_putF (D := V.1) (ci := 7) (v := .ref q57) (ty := .object "ProductLineChecker$Row") (C := RX7) (T := TX7) (N := 8) hx hb hts (by decide +kernel) tyX7 tyX7_ok nmX7 hown hK.1 hP hD hS 0 rfl rfl 5 (by decide) (hts (.fieldLink RX7 29 "ProductLineChecker$View" "faults" "LProductLineChecker$Row;") (by decide +kernel)) (fun _ h9 => h9) rfl hin rfl (by decide +kernel) rfl rfl (Nat.le_of_ble_eq_true rfl) dX7_init_66 (fun H locs hP hD hS => ?_)
  have hP : va_P V.1 vwCl [(h0, .inr (7, [.null, .ref q5, .ref q17, .ref q30, .ref q43, .ref q57, .null, .int 0])), (q5, .inr (5, [.ref (f10 0)])), ((f10 0), iZ V 4), (q17, .inr (5, [.ref (f23 0)])), ((f23 0), iZ V 8), (q30, .inr (5, [.ref (f36 0)])), ((f36 0), iZ V 8), (q43, .inr (5, [.ref (f50 0)])), ((f50 0), iZ V 160), (q57, .inr (5, [.ref (f63 0)])), ((f63 0), iZ V 50)] H := hP
  have hD : va_D A [(h0, .inr (7, [.null, .ref q5, .ref q17, .ref q30, .ref q43, .ref q57, .null, .int 0])), (q5, .inr (5, [.ref (f10 0)])), ((f10 0), iZ V 4), (q17, .inr (5, [.ref (f23 0)])), ((f23 0), iZ V 8), (q30, .inr (5, [.ref (f36 0)])), ((f36 0), iZ V 8), (q43, .inr (5, [.ref (f50 0)])), ((f50 0), iZ V 160), (q57, .inr (5, [.ref (f63 0)])), ((f63 0), iZ V 50)] := hD
  refine lv_aload_n hx hb dX7_init_69 rfl (lv_at hl 0 rfl) ?_
  have hkc70 : 11 ≤ 12 := by omega
  have hks70 : 1 + (4) + 1 + (8) + 1 + (8) + 1 + (160) + 1 + (50) + 1 ≤ 1 + (4) + 1 + (8) + 1 + (8) + 1 + (160) + 1 + (50) + 1 + (800) := by omega
  refine va_new (ci := 5) (fs := [.null]) (C := RX5) (T := TX5) (N := 1) hx hb hts (by decide +kernel) tyX5 tyX5_ok hown (hts (.classLink RX7 9 RX5) (by decide +kernel)) (hts (.instantiable RX5 1) (by decide +kernel)) (hts (.initialized RX5) (by decide +kernel)) hK.1 hP hD hS hA rfl (fun j hj => by have : j = 0 ∨ j = 0 := (by omega); rcases this with rfl | rfl <;> rfl) hkc70 hks70 dX7_init_70 (fun q70 H hP hD hS => ?_)
  have hP : va_P V.1 vwCl [(h0, .inr (7, [.null, .ref q5, .ref q17, .ref q30, .ref q43, .ref q57, .null, .int 0])), (q5, .inr (5, [.ref (f10 0)])), ((f10 0), iZ V 4), (q17, .inr (5, [.ref (f23 0)])), ((f23 0), iZ V 8), (q30, .inr (5, [.ref (f36 0)])), ((f36 0), iZ V 8), (q43, .inr (5, [.ref (f50 0)])), ((f50 0), iZ V 160), (q57, .inr (5, [.ref (f63 0)])), ((f63 0), iZ V 50), (q70, .inr (5, [.null]))] H := hP
  have hD : va_D A [(h0, .inr (7, [.null, .ref q5, .ref q17, .ref q30, .ref q43, .ref q57, .null, .int 0])), (q5, .inr (5, [.ref (f10 0)])), ((f10 0), iZ V 4), (q17, .inr (5, [.ref (f23 0)])), ((f23 0), iZ V 8), (q30, .inr (5, [.ref (f36 0)])), ((f36 0), iZ V 8), (q43, .inr (5, [.ref (f50 0)])), ((f50 0), iZ V 160), (q57, .inr (5, [.ref (f63 0)])), ((f63 0), iZ V 50), (q70, .inr (5, [.null]))] := hD
  refine W.widen (k := 11) (n := 1 + (4) + 1 + (8) + 1 + (8) + 1 + (160) + 1 + (50) + 1) (by omega) (by omega) ?_
  refine lv_dup hx hb dX7_init_73 rfl ?_
  refine lv_sipush (v := (nI 800)) hx hb dX7_init_74 (by decide) ?_
  have hPc := hP.sub (ws' := [(q70, .inr (5, [.null]))]) [11] rfl
  have hDc := hD.sub (ws' := [(q70, .inr (5, [.null]))]) [11] (by decide) rfl
  have hFc := va_free (wc := [(q70, .inr (5, [.null]))]) hD hS hA [11] rfl
  have hkc77 : 12 ≤ 12 := by omega
  have hks77 : 1 + (4) + 1 + (8) + 1 + (8) + 1 + (160) + 1 + (50) + 1 + (800) ≤ 1 + (4) + 1 + (8) + 1 + (8) + 1 + (160) + 1 + (50) + 1 + (800) := by omega
  refine va_callv (va_runI (As := [.int (nI 800)]) (rest := [.ref q70, .ref h0]) ⟨hx, hb, hml, hown, hts⟩ (iRow l V q70 H.size 800 (by omega)) (cwI 1 hts gX7_init_X5_init rfl rfl rfl (hts (.initialized RX5) (by decide +kernel)) (hts (.methodLink RX7 11 yX5_init) (by decide +kernel)) (hts (.instanceMethod yX5_init) (by decide +kernel)) rfl (by decide +kernel) ⟨Nat.le_of_ble_eq_true rfl, Nat.le_of_ble_eq_true rfl⟩) ⟨fun a U g mk q => by obtain ⟨q0, q1, qP, qK, qD⟩ := q; exact ⟨q0, q1, qP, ⟨va_K.moved (u := U) (U := U.calling g mk a) (Vm.Alike.refl U.vm) qK.1, xN.same (s := U) (U := U.calling g mk a) rfl qK.2⟩, qD⟩, fun U hU hW => ⟨rfl, by rw [hU], by rw [hU]; exact hPc, ⟨va_K.moved hW.alike hK.1, xN.warm hW hK.2⟩, hDc.weaken (fun _ _ _ _ => trivial)⟩⟩ rfl rfl hl.1 rfl (lv_room (Nat.le_of_ble_eq_true rfl)) dX7_init_77 ⟨hkc77, hks77⟩) hS (fun q _ h => hFc q h) hFc (fun u t H1 locs ht hvm hw hB hz1 hk1 hS => ?_)
  obtain ⟨f77, rfl⟩ : ∃ z, z = u := ⟨_, rfl⟩
  obtain ⟨hP1, hD1⟩ := hB
  rw [ht] at hP1
  obtain ⟨hP, hD⟩ := va_join (wr := [(h0, .inr (7, [.null, .ref q5, .ref q17, .ref q30, .ref q43, .ref q57, .null, .int 0])), (q5, .inr (5, [.ref (f10 0)])), ((f10 0), iZ V 4), (q17, .inr (5, [.ref (f23 0)])), ((f23 0), iZ V 8), (q30, .inr (5, [.ref (f36 0)])), ((f36 0), iZ V 8), (q43, .inr (5, [.ref (f50 0)])), ((f50 0), iZ V 160), (q57, .inr (5, [.ref (f63 0)])), ((f63 0), iZ V 50)]) (w1 := [(q70, .inr (5, [.ref (f77 0)])), ((f77 0), iZ V 800)]) hP hD [11] [0, 1, 2, 3, 4, 5, 6, 7, 8, 9, 10] rfl rfl (by decide) (by decide) hk1 hFc hP1 hD1
  generalize H1 = H at hP hS ⊢
  have hP : va_P V.1 vwCl [(h0, .inr (7, [.null, .ref q5, .ref q17, .ref q30, .ref q43, .ref q57, .null, .int 0])), (q5, .inr (5, [.ref (f10 0)])), ((f10 0), iZ V 4), (q17, .inr (5, [.ref (f23 0)])), ((f23 0), iZ V 8), (q30, .inr (5, [.ref (f36 0)])), ((f36 0), iZ V 8), (q43, .inr (5, [.ref (f50 0)])), ((f50 0), iZ V 160), (q57, .inr (5, [.ref (f63 0)])), ((f63 0), iZ V 50), (q70, .inr (5, [.ref (f77 0)])), ((f77 0), iZ V 800)] H := hP
  have hD : va_D A [(h0, .inr (7, [.null, .ref q5, .ref q17, .ref q30, .ref q43, .ref q57, .null, .int 0])), (q5, .inr (5, [.ref (f10 0)])), ((f10 0), iZ V 4), (q17, .inr (5, [.ref (f23 0)])), ((f23 0), iZ V 8), (q30, .inr (5, [.ref (f36 0)])), ((f36 0), iZ V 8), (q43, .inr (5, [.ref (f50 0)])), ((f50 0), iZ V 160), (q57, .inr (5, [.ref (f63 0)])), ((f63 0), iZ V 50), (q70, .inr (5, [.ref (f77 0)])), ((f77 0), iZ V 800)] := hD
  refine W.widen (k := 12) (n := 1 + (4) + 1 + (8) + 1 + (8) + 1 + (160) + 1 + (50) + 1 + (800)) (by omega) (by omega) ?_
  refine va_putF (D := V.1) (ci := 7) (v := .ref q70) (ty := .object "ProductLineChecker$Row") (C := RX7) (T := TX7) (N := 8) hx hb hts (by decide +kernel) tyX7 tyX7_ok nmX7 hown hK.1 hP hD hS 0 rfl rfl 6 (by decide) (hts (.fieldLink RX7 32 "ProductLineChecker$View" "types" "LProductLineChecker$Row;") (by decide +kernel)) (fun _ h9 => h9) rfl hin rfl (by decide +kernel) rfl rfl (Nat.le_of_ble_eq_true rfl) dX7_init_80 (fun H locs hP hD hS => ?_)
  have hP : va_P V.1 vwCl [(h0, .inr (7, [.null, .ref q5, .ref q17, .ref q30, .ref q43, .ref q57, .ref q70, .int 0])), (q5, .inr (5, [.ref (f10 0)])), ((f10 0), iZ V 4), (q17, .inr (5, [.ref (f23 0)])), ((f23 0), iZ V 8), (q30, .inr (5, [.ref (f36 0)])), ((f36 0), iZ V 8), (q43, .inr (5, [.ref (f50 0)])), ((f50 0), iZ V 160), (q57, .inr (5, [.ref (f63 0)])), ((f63 0), iZ V 50), (q70, .inr (5, [.ref (f77 0)])), ((f77 0), iZ V 800)] H := hP
  have hD : va_D A [(h0, .inr (7, [.null, .ref q5, .ref q17, .ref q30, .ref q43, .ref q57, .ref q70, .int 0])), (q5, .inr (5, [.ref (f10 0)])), ((f10 0), iZ V 4), (q17, .inr (5, [.ref (f23 0)])), ((f23 0), iZ V 8), (q30, .inr (5, [.ref (f36 0)])), ((f36 0), iZ V 8), (q43, .inr (5, [.ref (f50 0)])), ((f50 0), iZ V 160), (q57, .inr (5, [.ref (f63 0)])), ((f63 0), iZ V 50), (q70, .inr (5, [.ref (f77 0)])), ((f77 0), iZ V 800)] := hD
  refine lv_aload_n hx hb dX7_init_83 rfl (lv_at hl 0 rfl) ?_
  refine lv_iconst (v := (0 : Int32)) hx hb dX7_init_84 (by decide) ?_
  refine va_put (D := V.1) (ci := 7) (v := .int (0 : Int32)) (ty := .int) (C := RX7) (T := TX7) (N := 8) hx hb hts (by decide +kernel) tyX7 tyX7_ok nmX7 hown hK.1 hP hD hS 0 rfl rfl 7 (by decide) (hts (.fieldLink RX7 35 "ProductLineChecker$View" "configuration" "I") (by decide +kernel)) (fun _ h9 => h9) rfl (by decide +kernel) rfl rfl (Nat.le_of_ble_eq_true rfl) dX7_init_85 (fun H locs hP hD hS => ?_)
  have hP : va_P V.1 vwCl [(h0, .inr (7, [.null, .ref q5, .ref q17, .ref q30, .ref q43, .ref q57, .ref q70, .int (0 : Int32)])), (q5, .inr (5, [.ref (f10 0)])), ((f10 0), iZ V 4), (q17, .inr (5, [.ref (f23 0)])), ((f23 0), iZ V 8), (q30, .inr (5, [.ref (f36 0)])), ((f36 0), iZ V 8), (q43, .inr (5, [.ref (f50 0)])), ((f50 0), iZ V 160), (q57, .inr (5, [.ref (f63 0)])), ((f63 0), iZ V 50), (q70, .inr (5, [.ref (f77 0)])), ((f77 0), iZ V 800)] H := hP
  have hD : va_D A [(h0, .inr (7, [.null, .ref q5, .ref q17, .ref q30, .ref q43, .ref q57, .ref q70, .int (0 : Int32)])), (q5, .inr (5, [.ref (f10 0)])), ((f10 0), iZ V 4), (q17, .inr (5, [.ref (f23 0)])), ((f23 0), iZ V 8), (q30, .inr (5, [.ref (f36 0)])), ((f36 0), iZ V 8), (q43, .inr (5, [.ref (f50 0)])), ((f50 0), iZ V 160), (q57, .inr (5, [.ref (f63 0)])), ((f63 0), iZ V 50), (q70, .inr (5, [.ref (f77 0)])), ((f77 0), iZ V 800)] := hD
  refine lv_aload_n hx hb dX7_init_88 rfl (lv_at hl 0 rfl) ?_
  refine lv_aload_n hx hb dX7_init_89 rfl (lv_at hl 1 rfl) ?_
  refine va_putF (D := V.1) (ci := 7) (v := .ref a1) (ty := .object "ProductLineChecker$Program") (C := RX7) (T := TX7) (N := 8) hx hb hts (by decide +kernel) tyX7 tyX7_ok nmX7 hown hK.1 hP hD hS 0 rfl rfl 0 (by decide) (hts (.fieldLink RX7 39 "ProductLineChecker$View" "program" "LProductLineChecker$Program;") (by decide +kernel)) (fun _ h9 => h9) rfl hin rfl (by decide +kernel) rfl rfl (Nat.le_of_ble_eq_true rfl) dX7_init_90 (fun H locs hP hD hS => ?_)
  have hP : va_P V.1 vwCl [(h0, .inr (7, [.ref a1, .ref q5, .ref q17, .ref q30, .ref q43, .ref q57, .ref q70, .int (0 : Int32)])), (q5, .inr (5, [.ref (f10 0)])), ((f10 0), iZ V 4), (q17, .inr (5, [.ref (f23 0)])), ((f23 0), iZ V 8), (q30, .inr (5, [.ref (f36 0)])), ((f36 0), iZ V 8), (q43, .inr (5, [.ref (f50 0)])), ((f50 0), iZ V 160), (q57, .inr (5, [.ref (f63 0)])), ((f63 0), iZ V 50), (q70, .inr (5, [.ref (f77 0)])), ((f77 0), iZ V 800)] H := hP
  have hD : va_D A [(h0, .inr (7, [.ref a1, .ref q5, .ref q17, .ref q30, .ref q43, .ref q57, .ref q70, .int (0 : Int32)])), (q5, .inr (5, [.ref (f10 0)])), ((f10 0), iZ V 4), (q17, .inr (5, [.ref (f23 0)])), ((f23 0), iZ V 8), (q30, .inr (5, [.ref (f36 0)])), ((f36 0), iZ V 8), (q43, .inr (5, [.ref (f50 0)])), ((f50 0), iZ V 160), (q57, .inr (5, [.ref (f63 0)])), ((f63 0), iZ V 50), (q70, .inr (5, [.ref (f77 0)])), ((f77 0), iZ V 800)] := hD
  exact W.vret hx hb hr (fun t ht hW => ⟨⟨fun k => [q5, (f10 0), q17, (f23 0), q30, (f36 0), q43, (f50 0), q57, (f63 0), q70, (f77 0)].getD k 0, rfl, trivial, by rw [ht]; exact hP, hD⟩, hS.F ht⟩) hS.2.2 dX7_init_93

set_option maxHeartbeats 4000000 in
set_option maxRecDepth 100000 in
theorem iInsp (l : Launch) (V : xV) (h0 sz : Nat) (a1 a2 : Nat) : iM l yX2_init wsX2_init { frames := 2, cells := 4, slots := 1 + (600) + 1 + (600), locals := 41 } V [.ref h0, .ref a1, .ref a2] [(h0, .inr (2, [.null, .null, .null, .null, .int 0]))] sz 4 (1 + (600) + 1 + (600)) (fun f => [(h0, .inr (2, [.ref a1, .ref a2, .ref (f 0), .ref (f 2), .int (0 : Int32)])), ((f 0), .inr (5, [.ref (f 1)])), ((f 1), iZ V 600), ((f 2), .inr (5, [.ref (f 3)])), ((f 3), iZ V 600)]) := by
  refine Met.ofW (cc := cX2_init) (maxL := 3) (ret := none) (by decide) rfl ?_
  intro p e s m args below meth c s₁ B hml hv
  obtain ⟨rfl, hsz, hP, hK, hD0⟩ := hv
  have hx := B.exec
  have hb := B.bytes
  have hr := B.returns
  have hts := atoms_spec (ws := wsX2_init) B.pre
  have hown : s.vm.findClass RX2 = some m.cls := findClass_of_methodNamed B.named
  have hin : meth.name = "<init>" := (name_of_methodNamed B.named B.method).1
  subst hsz
  have hD := hD0.self (sz := s.heap.size)
  generalize hAe : va_A [(h0, .inr (2, [.null, .null, .null, .null, .int 0]))] s.heap.size = A at hD ⊢
  have hA : ∀ q : Nat, s.heap.size ≤ q → A q := fun q h => by rw [← hAe]; exact Or.inr h
  have hS : va_S A s.heap s.heap [] := va_S.rf
  have hl := lv_entry ([.ref h0, .ref a1, .ref a2]) (n := 3) (Nat.le_of_ble_eq_true rfl)
  rw [lg_entry_eq]
  generalize (lg_sl ([.ref h0, .ref a1, .ref a2]) ++ List.replicate (3 - (lg_sl ([.ref h0, .ref a1, .ref a2])).length) Slot.unset).toArray = ls at hl ⊢
  have hl : lv_has ls 3 [(0, .ref h0), (1, .ref a1), (2, .ref a2)] := hl
  refine lv_aload_n hx hb dX2_init_0 rfl (lv_at hl 0 rfl) ?_
  refine W.objInit hx hb hown (hts (.methodLink RX2 3 objectInit) (by decide +kernel)) (hts (.instanceMethod objectInit) (by decide +kernel)) (hts _ (List.mem_of_getElem? (i := 3) rfl)) rfl (by rw [hml]; exact hl.1) rfl dX2_init_1 (Nat.le_of_ble_eq_true rfl) (Nat.le_of_ble_eq_true rfl) ?_
  refine W.eq (g2 := F0 m 4 ls []) rfl ?_
  refine lv_aload_n hx hb dX2_init_4 rfl (lv_at hl 0 rfl) ?_
  have hkc5 : 1 ≤ 4 := by omega
  have hks5 : 0 + 1 ≤ 1 + (600) + 1 + (600) := by omega
  refine va_new (ci := 5) (fs := [.null]) (C := RX5) (T := TX5) (N := 1) hx hb hts (by decide +kernel) tyX5 tyX5_ok hown (hts (.classLink RX2 9 RX5) (by decide +kernel)) (hts (.instantiable RX5 1) (by decide +kernel)) (hts (.initialized RX5) (by decide +kernel)) hK.1 hP hD hS hA rfl (fun j hj => by have : j = 0 ∨ j = 0 := (by omega); rcases this with rfl | rfl <;> rfl) hkc5 hks5 dX2_init_5 (fun q5 H hP hD hS => ?_)
  have hP : va_P V.1 vwCl [(h0, .inr (2, [.null, .null, .null, .null, .int 0])), (q5, .inr (5, [.null]))] H := hP
  have hD : va_D A [(h0, .inr (2, [.null, .null, .null, .null, .int 0])), (q5, .inr (5, [.null]))] := hD
  refine W.widen (k := 1) (n := 1) (by omega) (by omega) ?_
  refine lv_dup hx hb dX2_init_8 rfl ?_
  refine lv_sipush (v := (nI 600)) hx hb dX2_init_9 (by decide) ?_
  have hPc := hP.sub (ws' := [(q5, .inr (5, [.null]))]) [1] rfl
  have hDc := hD.sub (ws' := [(q5, .inr (5, [.null]))]) [1] (by decide) rfl
  have hFc := va_free (wc := [(q5, .inr (5, [.null]))]) hD hS hA [1] rfl
  have hkc12 : 2 ≤ 4 := by omega
  have hks12 : 1 + (600) ≤ 1 + (600) + 1 + (600) := by omega
  refine va_callv (va_runI (As := [.int (nI 600)]) (rest := [.ref q5, .ref h0]) ⟨hx, hb, hml, hown, hts⟩ (iRow l V q5 H.size 600 (by omega)) (cwI 1 hts gX2_init_X5_init rfl rfl rfl (hts (.initialized RX5) (by decide +kernel)) (hts (.methodLink RX2 11 yX5_init) (by decide +kernel)) (hts (.instanceMethod yX5_init) (by decide +kernel)) rfl (by decide +kernel) ⟨Nat.le_of_ble_eq_true rfl, Nat.le_of_ble_eq_true rfl⟩) ⟨fun a U g mk q => by obtain ⟨q0, q1, qP, qK, qD⟩ := q; exact ⟨q0, q1, qP, ⟨va_K.moved (u := U) (U := U.calling g mk a) (Vm.Alike.refl U.vm) qK.1, xN.same (s := U) (U := U.calling g mk a) rfl qK.2⟩, qD⟩, fun U hU hW => ⟨rfl, by rw [hU], by rw [hU]; exact hPc, ⟨va_K.moved hW.alike hK.1, xN.warm hW hK.2⟩, hDc.weaken (fun _ _ _ _ => trivial)⟩⟩ rfl rfl hl.1 rfl (lv_room (Nat.le_of_ble_eq_true rfl)) dX2_init_12 ⟨hkc12, hks12⟩) hS (fun q _ h => hFc q h) hFc (fun u t H1 locs ht hvm hw hB hz1 hk1 hS => ?_)
  obtain ⟨f12, rfl⟩ : ∃ z, z = u := ⟨_, rfl⟩
  obtain ⟨hP1, hD1⟩ := hB
  rw [ht] at hP1
  obtain ⟨hP, hD⟩ := va_join (wr := [(h0, .inr (2, [.null, .null, .null, .null, .int 0]))]) (w1 := [(q5, .inr (5, [.ref (f12 0)])), ((f12 0), iZ V 600)]) hP hD [1] [0] rfl rfl (by decide) (by decide) hk1 hFc hP1 hD1
  generalize H1 = H at hP hS ⊢
  have hP : va_P V.1 vwCl [(h0, .inr (2, [.null, .null, .null, .null, .int 0])), (q5, .inr (5, [.ref (f12 0)])), ((f12 0), iZ V 600)] H := hP
  have hD : va_D A [(h0, .inr (2, [.null, .null, .null, .null, .int 0])), (q5, .inr (5, [.ref (f12 0)])), ((f12 0), iZ V 600)] := hD
  refine W.widen (k := 2) (n := 1 + (600)) (by omega) (by omega) ?_
  refine va_putF (D := V.1) (ci := 2) (v := .ref q5) (ty := .object "ProductLineChecker$Row") (C := RX2) (T := TX2) (N := 5) hx hb hts (by decide +kernel) tyX2 tyX2_ok nmX2 hown hK.1 hP hD hS 0 rfl rfl 2 (by decide) (hts (.fieldLink RX2 14 "ProductLineChecker$Inspector" "sets" "LProductLineChecker$Row;") (by decide +kernel)) (fun _ h9 => h9) rfl hin rfl (by decide +kernel) rfl rfl (Nat.le_of_ble_eq_true rfl) dX2_init_15 (fun H locs hP hD hS => ?_)
  have hP : va_P V.1 vwCl [(h0, .inr (2, [.null, .null, .ref q5, .null, .int 0])), (q5, .inr (5, [.ref (f12 0)])), ((f12 0), iZ V 600)] H := hP
  have hD : va_D A [(h0, .inr (2, [.null, .null, .ref q5, .null, .int 0])), (q5, .inr (5, [.ref (f12 0)])), ((f12 0), iZ V 600)] := hD
  refine lv_aload_n hx hb dX2_init_18 rfl (lv_at hl 0 rfl) ?_
  have hkc19 : 3 ≤ 4 := by omega
  have hks19 : 1 + (600) + 1 ≤ 1 + (600) + 1 + (600) := by omega
  refine va_new (ci := 5) (fs := [.null]) (C := RX5) (T := TX5) (N := 1) hx hb hts (by decide +kernel) tyX5 tyX5_ok hown (hts (.classLink RX2 9 RX5) (by decide +kernel)) (hts (.instantiable RX5 1) (by decide +kernel)) (hts (.initialized RX5) (by decide +kernel)) hK.1 hP hD hS hA rfl (fun j hj => by have : j = 0 ∨ j = 0 := (by omega); rcases this with rfl | rfl <;> rfl) hkc19 hks19 dX2_init_19 (fun q19 H hP hD hS => ?_)
  have hP : va_P V.1 vwCl [(h0, .inr (2, [.null, .null, .ref q5, .null, .int 0])), (q5, .inr (5, [.ref (f12 0)])), ((f12 0), iZ V 600), (q19, .inr (5, [.null]))] H := hP
  have hD : va_D A [(h0, .inr (2, [.null, .null, .ref q5, .null, .int 0])), (q5, .inr (5, [.ref (f12 0)])), ((f12 0), iZ V 600), (q19, .inr (5, [.null]))] := hD
  refine W.widen (k := 3) (n := 1 + (600) + 1) (by omega) (by omega) ?_
  refine lv_dup hx hb dX2_init_22 rfl ?_
  refine lv_sipush (v := (nI 600)) hx hb dX2_init_23 (by decide) ?_
  have hPc := hP.sub (ws' := [(q19, .inr (5, [.null]))]) [3] rfl
  have hDc := hD.sub (ws' := [(q19, .inr (5, [.null]))]) [3] (by decide) rfl
  have hFc := va_free (wc := [(q19, .inr (5, [.null]))]) hD hS hA [3] rfl
  have hkc26 : 4 ≤ 4 := by omega
  have hks26 : 1 + (600) + 1 + (600) ≤ 1 + (600) + 1 + (600) := by omega
  refine va_callv (va_runI (As := [.int (nI 600)]) (rest := [.ref q19, .ref h0]) ⟨hx, hb, hml, hown, hts⟩ (iRow l V q19 H.size 600 (by omega)) (cwI 1 hts gX2_init_X5_init rfl rfl rfl (hts (.initialized RX5) (by decide +kernel)) (hts (.methodLink RX2 11 yX5_init) (by decide +kernel)) (hts (.instanceMethod yX5_init) (by decide +kernel)) rfl (by decide +kernel) ⟨Nat.le_of_ble_eq_true rfl, Nat.le_of_ble_eq_true rfl⟩) ⟨fun a U g mk q => by obtain ⟨q0, q1, qP, qK, qD⟩ := q; exact ⟨q0, q1, qP, ⟨va_K.moved (u := U) (U := U.calling g mk a) (Vm.Alike.refl U.vm) qK.1, xN.same (s := U) (U := U.calling g mk a) rfl qK.2⟩, qD⟩, fun U hU hW => ⟨rfl, by rw [hU], by rw [hU]; exact hPc, ⟨va_K.moved hW.alike hK.1, xN.warm hW hK.2⟩, hDc.weaken (fun _ _ _ _ => trivial)⟩⟩ rfl rfl hl.1 rfl (lv_room (Nat.le_of_ble_eq_true rfl)) dX2_init_26 ⟨hkc26, hks26⟩) hS (fun q _ h => hFc q h) hFc (fun u t H1 locs ht hvm hw hB hz1 hk1 hS => ?_)
  obtain ⟨f26, rfl⟩ : ∃ z, z = u := ⟨_, rfl⟩
  obtain ⟨hP1, hD1⟩ := hB
  rw [ht] at hP1
  obtain ⟨hP, hD⟩ := va_join (wr := [(h0, .inr (2, [.null, .null, .ref q5, .null, .int 0])), (q5, .inr (5, [.ref (f12 0)])), ((f12 0), iZ V 600)]) (w1 := [(q19, .inr (5, [.ref (f26 0)])), ((f26 0), iZ V 600)]) hP hD [3] [0, 1, 2] rfl rfl (by decide) (by decide) hk1 hFc hP1 hD1
  generalize H1 = H at hP hS ⊢
  have hP : va_P V.1 vwCl [(h0, .inr (2, [.null, .null, .ref q5, .null, .int 0])), (q5, .inr (5, [.ref (f12 0)])), ((f12 0), iZ V 600), (q19, .inr (5, [.ref (f26 0)])), ((f26 0), iZ V 600)] H := hP
  have hD : va_D A [(h0, .inr (2, [.null, .null, .ref q5, .null, .int 0])), (q5, .inr (5, [.ref (f12 0)])), ((f12 0), iZ V 600), (q19, .inr (5, [.ref (f26 0)])), ((f26 0), iZ V 600)] := hD
  refine W.widen (k := 4) (n := 1 + (600) + 1 + (600)) (by omega) (by omega) ?_
  refine va_putF (D := V.1) (ci := 2) (v := .ref q19) (ty := .object "ProductLineChecker$Row") (C := RX2) (T := TX2) (N := 5) hx hb hts (by decide +kernel) tyX2 tyX2_ok nmX2 hown hK.1 hP hD hS 0 rfl rfl 3 (by decide) (hts (.fieldLink RX2 20 "ProductLineChecker$Inspector" "found" "LProductLineChecker$Row;") (by decide +kernel)) (fun _ h9 => h9) rfl hin rfl (by decide +kernel) rfl rfl (Nat.le_of_ble_eq_true rfl) dX2_init_29 (fun H locs hP hD hS => ?_)
  have hP : va_P V.1 vwCl [(h0, .inr (2, [.null, .null, .ref q5, .ref q19, .int 0])), (q5, .inr (5, [.ref (f12 0)])), ((f12 0), iZ V 600), (q19, .inr (5, [.ref (f26 0)])), ((f26 0), iZ V 600)] H := hP
  have hD : va_D A [(h0, .inr (2, [.null, .null, .ref q5, .ref q19, .int 0])), (q5, .inr (5, [.ref (f12 0)])), ((f12 0), iZ V 600), (q19, .inr (5, [.ref (f26 0)])), ((f26 0), iZ V 600)] := hD
  refine lv_aload_n hx hb dX2_init_32 rfl (lv_at hl 0 rfl) ?_
  refine lv_iconst (v := (0 : Int32)) hx hb dX2_init_33 (by decide) ?_
  refine va_put (D := V.1) (ci := 2) (v := .int (0 : Int32)) (ty := .int) (C := RX2) (T := TX2) (N := 5) hx hb hts (by decide +kernel) tyX2 tyX2_ok nmX2 hown hK.1 hP hD hS 0 rfl rfl 4 (by decide) (hts (.fieldLink RX2 23 "ProductLineChecker$Inspector" "size" "I") (by decide +kernel)) (fun _ h9 => h9) rfl (by decide +kernel) rfl rfl (Nat.le_of_ble_eq_true rfl) dX2_init_34 (fun H locs hP hD hS => ?_)
  have hP : va_P V.1 vwCl [(h0, .inr (2, [.null, .null, .ref q5, .ref q19, .int (0 : Int32)])), (q5, .inr (5, [.ref (f12 0)])), ((f12 0), iZ V 600), (q19, .inr (5, [.ref (f26 0)])), ((f26 0), iZ V 600)] H := hP
  have hD : va_D A [(h0, .inr (2, [.null, .null, .ref q5, .ref q19, .int (0 : Int32)])), (q5, .inr (5, [.ref (f12 0)])), ((f12 0), iZ V 600), (q19, .inr (5, [.ref (f26 0)])), ((f26 0), iZ V 600)] := hD
  refine lv_aload_n hx hb dX2_init_37 rfl (lv_at hl 0 rfl) ?_
  refine lv_aload_n hx hb dX2_init_38 rfl (lv_at hl 1 rfl) ?_
  refine va_putF (D := V.1) (ci := 2) (v := .ref a1) (ty := .object "ProductLineChecker$Program") (C := RX2) (T := TX2) (N := 5) hx hb hts (by decide +kernel) tyX2 tyX2_ok nmX2 hown hK.1 hP hD hS 0 rfl rfl 0 (by decide) (hts (.fieldLink RX2 27 "ProductLineChecker$Inspector" "program" "LProductLineChecker$Program;") (by decide +kernel)) (fun _ h9 => h9) rfl hin rfl (by decide +kernel) rfl rfl (Nat.le_of_ble_eq_true rfl) dX2_init_39 (fun H locs hP hD hS => ?_)
  have hP : va_P V.1 vwCl [(h0, .inr (2, [.ref a1, .null, .ref q5, .ref q19, .int (0 : Int32)])), (q5, .inr (5, [.ref (f12 0)])), ((f12 0), iZ V 600), (q19, .inr (5, [.ref (f26 0)])), ((f26 0), iZ V 600)] H := hP
  have hD : va_D A [(h0, .inr (2, [.ref a1, .null, .ref q5, .ref q19, .int (0 : Int32)])), (q5, .inr (5, [.ref (f12 0)])), ((f12 0), iZ V 600), (q19, .inr (5, [.ref (f26 0)])), ((f26 0), iZ V 600)] := hD
  refine lv_aload_n hx hb dX2_init_42 rfl (lv_at hl 0 rfl) ?_
  refine lv_aload_n hx hb dX2_init_43 rfl (lv_at hl 2 rfl) ?_
  refine va_putF (D := V.1) (ci := 2) (v := .ref a2) (ty := .object "ProductLineChecker$View") (C := RX2) (T := TX2) (N := 5) hx hb hts (by decide +kernel) tyX2 tyX2_ok nmX2 hown hK.1 hP hD hS 0 rfl rfl 1 (by decide) (hts (.fieldLink RX2 31 "ProductLineChecker$Inspector" "view" "LProductLineChecker$View;") (by decide +kernel)) (fun _ h9 => h9) rfl hin rfl (by decide +kernel) rfl rfl (Nat.le_of_ble_eq_true rfl) dX2_init_44 (fun H locs hP hD hS => ?_)
  have hP : va_P V.1 vwCl [(h0, .inr (2, [.ref a1, .ref a2, .ref q5, .ref q19, .int (0 : Int32)])), (q5, .inr (5, [.ref (f12 0)])), ((f12 0), iZ V 600), (q19, .inr (5, [.ref (f26 0)])), ((f26 0), iZ V 600)] H := hP
  have hD : va_D A [(h0, .inr (2, [.ref a1, .ref a2, .ref q5, .ref q19, .int (0 : Int32)])), (q5, .inr (5, [.ref (f12 0)])), ((f12 0), iZ V 600), (q19, .inr (5, [.ref (f26 0)])), ((f26 0), iZ V 600)] := hD
  exact W.vret hx hb hr (fun t ht hW => ⟨⟨fun k => [q5, (f12 0), q19, (f26 0)].getD k 0, rfl, trivial, by rw [ht]; exact hP, hD⟩, hS.F ht⟩) hS.2.2 dX2_init_47

set_option maxHeartbeats 4000000 in
set_option maxRecDepth 100000 in
theorem iModel (l : Launch) (V : xV) (h0 sz : Nat)  : iM l yX9_init wsX9_init { frames := 1, cells := 20, slots := 8 + 8 + 8 + 4 + 96 + 96 + 12 + 12 + 24 + 24 + 24 + 24 + 48 + 16 + 50 + 50 + 50 + 150 + 800 + 650, locals := 20 } V [.ref h0] [(h0, .inr (9, [.int 0, .int 0, .null, .null, .null, .null, .null, .null, .null, .null, .null, .null, .null, .null, .null, .null, .int 0, .null, .null, .null, .null, .int 0, .null, .null]))] sz 20 (8 + 8 + 8 + 4 + 96 + 96 + 12 + 12 + 24 + 24 + 24 + 24 + 48 + 16 + 50 + 50 + 50 + 150 + 800 + 650) (fun f => [(h0, .inr (9, [.int 0, .int 0, .ref (f 0), .ref (f 1), .ref (f 2), .ref (f 3), .ref (f 4), .ref (f 5), .ref (f 6), .ref (f 7), .ref (f 8), .ref (f 9), .ref (f 10), .ref (f 11), .ref (f 12), .ref (f 13), .int 0, .ref (f 14), .ref (f 15), .ref (f 16), .ref (f 17), .int 0, .ref (f 18), .ref (f 19)])), ((f 0), iZ V 8), ((f 1), iZ V 8), ((f 2), iZ V 8), ((f 3), iZ V 4), ((f 4), iZ V 96), ((f 5), iZ V 96), ((f 6), iZ V 12), ((f 7), iZ V 12), ((f 8), iB V 24), ((f 9), iZ V 24), ((f 10), iZ V 24), ((f 11), iZ V 24), ((f 12), iZ V 48), ((f 13), iZ V 16), ((f 14), iZ V 50), ((f 15), iZ V 50), ((f 16), iZ V 50), ((f 17), iZ V 150), ((f 18), iZ V 800), ((f 19), iZ V 650)]) := by
  refine Met.ofW (cc := cX9_init) (maxL := 1) (ret := none) (by decide) rfl ?_
  intro p e s m args below meth c s₁ B hml hv
  obtain ⟨rfl, hsz, hP, hK, hD0⟩ := hv
  have hx := B.exec
  have hb := B.bytes
  have hr := B.returns
  have hts := atoms_spec (ws := wsX9_init) B.pre
  have hown : s.vm.findClass RX9 = some m.cls := findClass_of_methodNamed B.named
  have hin : meth.name = "<init>" := (name_of_methodNamed B.named B.method).1
  subst hsz
  have hD := hD0.self (sz := s.heap.size)
  generalize hAe : va_A [(h0, .inr (9, [.int 0, .int 0, .null, .null, .null, .null, .null, .null, .null, .null, .null, .null, .null, .null, .null, .null, .int 0, .null, .null, .null, .null, .int 0, .null, .null]))] s.heap.size = A at hD ⊢
  have hA : ∀ q : Nat, s.heap.size ≤ q → A q := fun q h => by rw [← hAe]; exact Or.inr h
  have hS : va_S A s.heap s.heap [] := va_S.rf
  have hl := lv_entry ([.ref h0]) (n := 1) (Nat.le_of_ble_eq_true rfl)
  rw [lg_entry_eq]
  generalize (lg_sl ([.ref h0]) ++ List.replicate (1 - (lg_sl ([.ref h0])).length) Slot.unset).toArray = ls at hl ⊢
  have hl : lv_has ls 1 [(0, .ref h0)] := hl
  refine lv_aload_n hx hb dX9_init_0 rfl (lv_at hl 0 rfl) ?_
  refine W.objInit hx hb hown (hts (.methodLink RX9 1 objectInit) (by decide +kernel)) (hts (.instanceMethod objectInit) (by decide +kernel)) (hts _ (List.mem_of_getElem? (i := 3) rfl)) rfl (by rw [hml]; exact hl.1) rfl dX9_init_1 (Nat.le_of_ble_eq_true rfl) (Nat.le_of_ble_eq_true rfl) ?_
  refine W.eq (g2 := F0 m 4 ls []) rfl ?_
  refine lv_aload_n hx hb dX9_init_4 rfl (lv_at hl 0 rfl) ?_
  refine lv_bipush (v := (nI 8)) hx hb dX9_init_5 (by decide) ?_
  have hkc7 : 1 ≤ 20 := by omega
  have hks7 : 0 + 8 ≤ 8 + 8 + 8 + 4 + 96 + 96 + 12 + 12 + 24 + 24 + 24 + 24 + 48 + 16 + 50 + 50 + 50 + 150 + 800 + 650 := by omega
  refine va_newa (N' := 8) (a0 := (8, .inl fun _ => 0)) hx hb (atype := .int) (hts (.arrayClass .int) (by decide +kernel)) rfl hK.1 hP hD hS hA (fun _ => rfl) (by decide) rfl (Nat.le_of_ble_eq_true rfl) hkc7 hks7 dX9_init_7 (fun q7 cA H hK1 hP hD hS => ?_)
  have hcA := iK_int hK1
  subst hcA
  have hP : va_P V.1 vwCl [(h0, .inr (9, [.int 0, .int 0, .null, .null, .null, .null, .null, .null, .null, .null, .null, .null, .null, .null, .null, .null, .int 0, .null, .null, .null, .null, .int 0, .null, .null])), (q7, iZ V 8)] H := hP
  have hD : va_D A [(h0, .inr (9, [.int 0, .int 0, .null, .null, .null, .null, .null, .null, .null, .null, .null, .null, .null, .null, .null, .null, .int 0, .null, .null, .null, .null, .int 0, .null, .null])), (q7, iZ V 8)] := hD
  refine W.widen (k := 1) (n := 8) (by omega) (by omega) ?_
  refine va_putF (D := V.1) (ci := 9) (v := .ref q7) (ty := .array .int) (C := RX9) (T := TX9) (N := 24) hx hb hts (by decide +kernel) tyX9 tyX9_ok nmX9 hown hK.1 hP hD hS 0 rfl rfl 2 (by decide) (hts (.fieldLink RX9 9 "ProductLineCheckerModel" "ruleKinds" "[I") (by decide +kernel)) (fun _ h9 => h9) rfl hin rfl (by decide +kernel) rfl rfl (Nat.le_of_ble_eq_true rfl) dX9_init_9 (fun H locs hP hD hS => ?_)
  have hP : va_P V.1 vwCl [(h0, .inr (9, [.int 0, .int 0, .ref q7, .null, .null, .null, .null, .null, .null, .null, .null, .null, .null, .null, .null, .null, .int 0, .null, .null, .null, .null, .int 0, .null, .null])), (q7, iZ V 8)] H := hP
  have hD : va_D A [(h0, .inr (9, [.int 0, .int 0, .ref q7, .null, .null, .null, .null, .null, .null, .null, .null, .null, .null, .null, .null, .null, .int 0, .null, .null, .null, .null, .int 0, .null, .null])), (q7, iZ V 8)] := hD
  refine lv_aload_n hx hb dX9_init_12 rfl (lv_at hl 0 rfl) ?_
  refine lv_bipush (v := (nI 8)) hx hb dX9_init_13 (by decide) ?_
  have hkc15 : 2 ≤ 20 := by omega
  have hks15 : 8 + 8 ≤ 8 + 8 + 8 + 4 + 96 + 96 + 12 + 12 + 24 + 24 + 24 + 24 + 48 + 16 + 50 + 50 + 50 + 150 + 800 + 650 := by omega
  refine va_newa (N' := 8) (a0 := (8, .inl fun _ => 0)) hx hb (atype := .int) (hts (.arrayClass .int) (by decide +kernel)) rfl hK.1 hP hD hS hA (fun _ => rfl) (by decide) rfl (Nat.le_of_ble_eq_true rfl) hkc15 hks15 dX9_init_15 (fun q15 cA H hK1 hP hD hS => ?_)
  have hcA := iK_int hK1
  subst hcA
  have hP : va_P V.1 vwCl [(h0, .inr (9, [.int 0, .int 0, .ref q7, .null, .null, .null, .null, .null, .null, .null, .null, .null, .null, .null, .null, .null, .int 0, .null, .null, .null, .null, .int 0, .null, .null])), (q7, iZ V 8), (q15, iZ V 8)] H := hP
  have hD : va_D A [(h0, .inr (9, [.int 0, .int 0, .ref q7, .null, .null, .null, .null, .null, .null, .null, .null, .null, .null, .null, .null, .null, .int 0, .null, .null, .null, .null, .int 0, .null, .null])), (q7, iZ V 8), (q15, iZ V 8)] := hD
  refine W.widen (k := 2) (n := 8 + 8) (by omega) (by omega) ?_
  refine va_putF (D := V.1) (ci := 9) (v := .ref q15) (ty := .array .int) (C := RX9) (T := TX9) (N := 24) hx hb hts (by decide +kernel) tyX9 tyX9_ok nmX9 hown hK.1 hP hD hS 0 rfl rfl 3 (by decide) (hts (.fieldLink RX9 13 "ProductLineCheckerModel" "ruleFirsts" "[I") (by decide +kernel)) (fun _ h9 => h9) rfl hin rfl (by decide +kernel) rfl rfl (Nat.le_of_ble_eq_true rfl) dX9_init_17 (fun H locs hP hD hS => ?_)
  have hP : va_P V.1 vwCl [(h0, .inr (9, [.int 0, .int 0, .ref q7, .ref q15, .null, .null, .null, .null, .null, .null, .null, .null, .null, .null, .null, .null, .int 0, .null, .null, .null, .null, .int 0, .null, .null])), (q7, iZ V 8), (q15, iZ V 8)] H := hP
  have hD : va_D A [(h0, .inr (9, [.int 0, .int 0, .ref q7, .ref q15, .null, .null, .null, .null, .null, .null, .null, .null, .null, .null, .null, .null, .int 0, .null, .null, .null, .null, .int 0, .null, .null])), (q7, iZ V 8), (q15, iZ V 8)] := hD
  refine lv_aload_n hx hb dX9_init_20 rfl (lv_at hl 0 rfl) ?_
  refine lv_bipush (v := (nI 8)) hx hb dX9_init_21 (by decide) ?_
  have hkc23 : 3 ≤ 20 := by omega
  have hks23 : 8 + 8 + 8 ≤ 8 + 8 + 8 + 4 + 96 + 96 + 12 + 12 + 24 + 24 + 24 + 24 + 48 + 16 + 50 + 50 + 50 + 150 + 800 + 650 := by omega
  refine va_newa (N' := 8) (a0 := (8, .inl fun _ => 0)) hx hb (atype := .int) (hts (.arrayClass .int) (by decide +kernel)) rfl hK.1 hP hD hS hA (fun _ => rfl) (by decide) rfl (Nat.le_of_ble_eq_true rfl) hkc23 hks23 dX9_init_23 (fun q23 cA H hK1 hP hD hS => ?_)
  have hcA := iK_int hK1
  subst hcA
  have hP : va_P V.1 vwCl [(h0, .inr (9, [.int 0, .int 0, .ref q7, .ref q15, .null, .null, .null, .null, .null, .null, .null, .null, .null, .null, .null, .null, .int 0, .null, .null, .null, .null, .int 0, .null, .null])), (q7, iZ V 8), (q15, iZ V 8), (q23, iZ V 8)] H := hP
  have hD : va_D A [(h0, .inr (9, [.int 0, .int 0, .ref q7, .ref q15, .null, .null, .null, .null, .null, .null, .null, .null, .null, .null, .null, .null, .int 0, .null, .null, .null, .null, .int 0, .null, .null])), (q7, iZ V 8), (q15, iZ V 8), (q23, iZ V 8)] := hD
  refine W.widen (k := 3) (n := 8 + 8 + 8) (by omega) (by omega) ?_
  refine va_putF (D := V.1) (ci := 9) (v := .ref q23) (ty := .array .int) (C := RX9) (T := TX9) (N := 24) hx hb hts (by decide +kernel) tyX9 tyX9_ok nmX9 hown hK.1 hP hD hS 0 rfl rfl 4 (by decide) (hts (.fieldLink RX9 16 "ProductLineCheckerModel" "ruleSeconds" "[I") (by decide +kernel)) (fun _ h9 => h9) rfl hin rfl (by decide +kernel) rfl rfl (Nat.le_of_ble_eq_true rfl) dX9_init_25 (fun H locs hP hD hS => ?_)
  have hP : va_P V.1 vwCl [(h0, .inr (9, [.int 0, .int 0, .ref q7, .ref q15, .ref q23, .null, .null, .null, .null, .null, .null, .null, .null, .null, .null, .null, .int 0, .null, .null, .null, .null, .int 0, .null, .null])), (q7, iZ V 8), (q15, iZ V 8), (q23, iZ V 8)] H := hP
  have hD : va_D A [(h0, .inr (9, [.int 0, .int 0, .ref q7, .ref q15, .ref q23, .null, .null, .null, .null, .null, .null, .null, .null, .null, .null, .null, .int 0, .null, .null, .null, .null, .int 0, .null, .null])), (q7, iZ V 8), (q15, iZ V 8), (q23, iZ V 8)] := hD
  refine lv_aload_n hx hb dX9_init_28 rfl (lv_at hl 0 rfl) ?_
  refine lv_iconst (v := (nI 4)) hx hb dX9_init_29 (by decide) ?_
  have hkc30 : 4 ≤ 20 := by omega
  have hks30 : 8 + 8 + 8 + 4 ≤ 8 + 8 + 8 + 4 + 96 + 96 + 12 + 12 + 24 + 24 + 24 + 24 + 48 + 16 + 50 + 50 + 50 + 150 + 800 + 650 := by omega
  refine va_newa (N' := 4) (a0 := (4, .inl fun _ => 0)) hx hb (atype := .int) (hts (.arrayClass .int) (by decide +kernel)) rfl hK.1 hP hD hS hA (fun _ => rfl) (by decide) rfl (Nat.le_of_ble_eq_true rfl) hkc30 hks30 dX9_init_30 (fun q30 cA H hK1 hP hD hS => ?_)
  have hcA := iK_int hK1
  subst hcA
  have hP : va_P V.1 vwCl [(h0, .inr (9, [.int 0, .int 0, .ref q7, .ref q15, .ref q23, .null, .null, .null, .null, .null, .null, .null, .null, .null, .null, .null, .int 0, .null, .null, .null, .null, .int 0, .null, .null])), (q7, iZ V 8), (q15, iZ V 8), (q23, iZ V 8), (q30, iZ V 4)] H := hP
  have hD : va_D A [(h0, .inr (9, [.int 0, .int 0, .ref q7, .ref q15, .ref q23, .null, .null, .null, .null, .null, .null, .null, .null, .null, .null, .null, .int 0, .null, .null, .null, .null, .int 0, .null, .null])), (q7, iZ V 8), (q15, iZ V 8), (q23, iZ V 8), (q30, iZ V 4)] := hD
  refine W.widen (k := 4) (n := 8 + 8 + 8 + 4) (by omega) (by omega) ?_
  refine va_putF (D := V.1) (ci := 9) (v := .ref q30) (ty := .array .int) (C := RX9) (T := TX9) (N := 24) hx hb hts (by decide +kernel) tyX9 tyX9_ok nmX9 hown hK.1 hP hD hS 0 rfl rfl 5 (by decide) (hts (.fieldLink RX9 19 "ProductLineCheckerModel" "counts" "[I") (by decide +kernel)) (fun _ h9 => h9) rfl hin rfl (by decide +kernel) rfl rfl (Nat.le_of_ble_eq_true rfl) dX9_init_32 (fun H locs hP hD hS => ?_)
  have hP : va_P V.1 vwCl [(h0, .inr (9, [.int 0, .int 0, .ref q7, .ref q15, .ref q23, .ref q30, .null, .null, .null, .null, .null, .null, .null, .null, .null, .null, .int 0, .null, .null, .null, .null, .int 0, .null, .null])), (q7, iZ V 8), (q15, iZ V 8), (q23, iZ V 8), (q30, iZ V 4)] H := hP
  have hD : va_D A [(h0, .inr (9, [.int 0, .int 0, .ref q7, .ref q15, .ref q23, .ref q30, .null, .null, .null, .null, .null, .null, .null, .null, .null, .null, .int 0, .null, .null, .null, .null, .int 0, .null, .null])), (q7, iZ V 8), (q15, iZ V 8), (q23, iZ V 8), (q30, iZ V 4)] := hD
  refine lv_aload_n hx hb dX9_init_35 rfl (lv_at hl 0 rfl) ?_
  refine lv_bipush (v := (nI 96)) hx hb dX9_init_36 (by decide) ?_
  have hkc38 : 5 ≤ 20 := by omega
  have hks38 : 8 + 8 + 8 + 4 + 96 ≤ 8 + 8 + 8 + 4 + 96 + 96 + 12 + 12 + 24 + 24 + 24 + 24 + 48 + 16 + 50 + 50 + 50 + 150 + 800 + 650 := by omega
  refine va_newa (N' := 96) (a0 := (96, .inl fun _ => 0)) hx hb (atype := .int) (hts (.arrayClass .int) (by decide +kernel)) rfl hK.1 hP hD hS hA (fun _ => rfl) (by decide) rfl (Nat.le_of_ble_eq_true rfl) hkc38 hks38 dX9_init_38 (fun q38 cA H hK1 hP hD hS => ?_)
  have hcA := iK_int hK1
  subst hcA
  have hP : va_P V.1 vwCl [(h0, .inr (9, [.int 0, .int 0, .ref q7, .ref q15, .ref q23, .ref q30, .null, .null, .null, .null, .null, .null, .null, .null, .null, .null, .int 0, .null, .null, .null, .null, .int 0, .null, .null])), (q7, iZ V 8), (q15, iZ V 8), (q23, iZ V 8), (q30, iZ V 4), (q38, iZ V 96)] H := hP
  have hD : va_D A [(h0, .inr (9, [.int 0, .int 0, .ref q7, .ref q15, .ref q23, .ref q30, .null, .null, .null, .null, .null, .null, .null, .null, .null, .null, .int 0, .null, .null, .null, .null, .int 0, .null, .null])), (q7, iZ V 8), (q15, iZ V 8), (q23, iZ V 8), (q30, iZ V 4), (q38, iZ V 96)] := hD
  refine W.widen (k := 5) (n := 8 + 8 + 8 + 4 + 96) (by omega) (by omega) ?_
  refine va_putF (D := V.1) (ci := 9) (v := .ref q38) (ty := .array .int) (C := RX9) (T := TX9) (N := 24) hx hb hts (by decide +kernel) tyX9 tyX9_ok nmX9 hown hK.1 hP hD hS 0 rfl rfl 6 (by decide) (hts (.fieldLink RX9 22 "ProductLineCheckerModel" "ons" "[I") (by decide +kernel)) (fun _ h9 => h9) rfl hin rfl (by decide +kernel) rfl rfl (Nat.le_of_ble_eq_true rfl) dX9_init_40 (fun H locs hP hD hS => ?_)
  have hP : va_P V.1 vwCl [(h0, .inr (9, [.int 0, .int 0, .ref q7, .ref q15, .ref q23, .ref q30, .ref q38, .null, .null, .null, .null, .null, .null, .null, .null, .null, .int 0, .null, .null, .null, .null, .int 0, .null, .null])), (q7, iZ V 8), (q15, iZ V 8), (q23, iZ V 8), (q30, iZ V 4), (q38, iZ V 96)] H := hP
  have hD : va_D A [(h0, .inr (9, [.int 0, .int 0, .ref q7, .ref q15, .ref q23, .ref q30, .ref q38, .null, .null, .null, .null, .null, .null, .null, .null, .null, .int 0, .null, .null, .null, .null, .int 0, .null, .null])), (q7, iZ V 8), (q15, iZ V 8), (q23, iZ V 8), (q30, iZ V 4), (q38, iZ V 96)] := hD
  refine lv_aload_n hx hb dX9_init_43 rfl (lv_at hl 0 rfl) ?_
  refine lv_bipush (v := (nI 96)) hx hb dX9_init_44 (by decide) ?_
  have hkc46 : 6 ≤ 20 := by omega
  have hks46 : 8 + 8 + 8 + 4 + 96 + 96 ≤ 8 + 8 + 8 + 4 + 96 + 96 + 12 + 12 + 24 + 24 + 24 + 24 + 48 + 16 + 50 + 50 + 50 + 150 + 800 + 650 := by omega
  refine va_newa (N' := 96) (a0 := (96, .inl fun _ => 0)) hx hb (atype := .int) (hts (.arrayClass .int) (by decide +kernel)) rfl hK.1 hP hD hS hA (fun _ => rfl) (by decide) rfl (Nat.le_of_ble_eq_true rfl) hkc46 hks46 dX9_init_46 (fun q46 cA H hK1 hP hD hS => ?_)
  have hcA := iK_int hK1
  subst hcA
  have hP : va_P V.1 vwCl [(h0, .inr (9, [.int 0, .int 0, .ref q7, .ref q15, .ref q23, .ref q30, .ref q38, .null, .null, .null, .null, .null, .null, .null, .null, .null, .int 0, .null, .null, .null, .null, .int 0, .null, .null])), (q7, iZ V 8), (q15, iZ V 8), (q23, iZ V 8), (q30, iZ V 4), (q38, iZ V 96), (q46, iZ V 96)] H := hP
  have hD : va_D A [(h0, .inr (9, [.int 0, .int 0, .ref q7, .ref q15, .ref q23, .ref q30, .ref q38, .null, .null, .null, .null, .null, .null, .null, .null, .null, .int 0, .null, .null, .null, .null, .int 0, .null, .null])), (q7, iZ V 8), (q15, iZ V 8), (q23, iZ V 8), (q30, iZ V 4), (q38, iZ V 96), (q46, iZ V 96)] := hD
  refine W.widen (k := 6) (n := 8 + 8 + 8 + 4 + 96 + 96) (by omega) (by omega) ?_
  refine va_putF (D := V.1) (ci := 9) (v := .ref q46) (ty := .array .int) (C := RX9) (T := TX9) (N := 24) hx hb hts (by decide +kernel) tyX9 tyX9_ok nmX9 hown hK.1 hP hD hS 0 rfl rfl 7 (by decide) (hts (.fieldLink RX9 25 "ProductLineCheckerModel" "offs" "[I") (by decide +kernel)) (fun _ h9 => h9) rfl hin rfl (by decide +kernel) rfl rfl (Nat.le_of_ble_eq_true rfl) dX9_init_48 (fun H locs hP hD hS => ?_)
  have hP : va_P V.1 vwCl [(h0, .inr (9, [.int 0, .int 0, .ref q7, .ref q15, .ref q23, .ref q30, .ref q38, .ref q46, .null, .null, .null, .null, .null, .null, .null, .null, .int 0, .null, .null, .null, .null, .int 0, .null, .null])), (q7, iZ V 8), (q15, iZ V 8), (q23, iZ V 8), (q30, iZ V 4), (q38, iZ V 96), (q46, iZ V 96)] H := hP
  have hD : va_D A [(h0, .inr (9, [.int 0, .int 0, .ref q7, .ref q15, .ref q23, .ref q30, .ref q38, .ref q46, .null, .null, .null, .null, .null, .null, .null, .null, .int 0, .null, .null, .null, .null, .int 0, .null, .null])), (q7, iZ V 8), (q15, iZ V 8), (q23, iZ V 8), (q30, iZ V 4), (q38, iZ V 96), (q46, iZ V 96)] := hD
  refine lv_aload_n hx hb dX9_init_51 rfl (lv_at hl 0 rfl) ?_
  refine lv_bipush (v := (nI 12)) hx hb dX9_init_52 (by decide) ?_
  have hkc54 : 7 ≤ 20 := by omega
  have hks54 : 8 + 8 + 8 + 4 + 96 + 96 + 12 ≤ 8 + 8 + 8 + 4 + 96 + 96 + 12 + 12 + 24 + 24 + 24 + 24 + 48 + 16 + 50 + 50 + 50 + 150 + 800 + 650 := by omega
  refine va_newa (N' := 12) (a0 := (12, .inl fun _ => 0)) hx hb (atype := .int) (hts (.arrayClass .int) (by decide +kernel)) rfl hK.1 hP hD hS hA (fun _ => rfl) (by decide) rfl (Nat.le_of_ble_eq_true rfl) hkc54 hks54 dX9_init_54 (fun q54 cA H hK1 hP hD hS => ?_)
  have hcA := iK_int hK1
  subst hcA
  have hP : va_P V.1 vwCl [(h0, .inr (9, [.int 0, .int 0, .ref q7, .ref q15, .ref q23, .ref q30, .ref q38, .ref q46, .null, .null, .null, .null, .null, .null, .null, .null, .int 0, .null, .null, .null, .null, .int 0, .null, .null])), (q7, iZ V 8), (q15, iZ V 8), (q23, iZ V 8), (q30, iZ V 4), (q38, iZ V 96), (q46, iZ V 96), (q54, iZ V 12)] H := hP
  have hD : va_D A [(h0, .inr (9, [.int 0, .int 0, .ref q7, .ref q15, .ref q23, .ref q30, .ref q38, .ref q46, .null, .null, .null, .null, .null, .null, .null, .null, .int 0, .null, .null, .null, .null, .int 0, .null, .null])), (q7, iZ V 8), (q15, iZ V 8), (q23, iZ V 8), (q30, iZ V 4), (q38, iZ V 96), (q46, iZ V 96), (q54, iZ V 12)] := hD
  refine W.widen (k := 7) (n := 8 + 8 + 8 + 4 + 96 + 96 + 12) (by omega) (by omega) ?_
  refine va_putF (D := V.1) (ci := 9) (v := .ref q54) (ty := .array .int) (C := RX9) (T := TX9) (N := 24) hx hb hts (by decide +kernel) tyX9 tyX9_ok nmX9 hown hK.1 hP hD hS 0 rfl rfl 8 (by decide) (hts (.fieldLink RX9 28 "ProductLineCheckerModel" "linkClasses" "[I") (by decide +kernel)) (fun _ h9 => h9) rfl hin rfl (by decide +kernel) rfl rfl (Nat.le_of_ble_eq_true rfl) dX9_init_56 (fun H locs hP hD hS => ?_)
  have hP : va_P V.1 vwCl [(h0, .inr (9, [.int 0, .int 0, .ref q7, .ref q15, .ref q23, .ref q30, .ref q38, .ref q46, .ref q54, .null, .null, .null, .null, .null, .null, .null, .int 0, .null, .null, .null, .null, .int 0, .null, .null])), (q7, iZ V 8), (q15, iZ V 8), (q23, iZ V 8), (q30, iZ V 4), (q38, iZ V 96), (q46, iZ V 96), (q54, iZ V 12)] H := hP
  have hD : va_D A [(h0, .inr (9, [.int 0, .int 0, .ref q7, .ref q15, .ref q23, .ref q30, .ref q38, .ref q46, .ref q54, .null, .null, .null, .null, .null, .null, .null, .int 0, .null, .null, .null, .null, .int 0, .null, .null])), (q7, iZ V 8), (q15, iZ V 8), (q23, iZ V 8), (q30, iZ V 4), (q38, iZ V 96), (q46, iZ V 96), (q54, iZ V 12)] := hD
  refine lv_aload_n hx hb dX9_init_59 rfl (lv_at hl 0 rfl) ?_
  refine lv_bipush (v := (nI 12)) hx hb dX9_init_60 (by decide) ?_
  have hkc62 : 8 ≤ 20 := by omega
  have hks62 : 8 + 8 + 8 + 4 + 96 + 96 + 12 + 12 ≤ 8 + 8 + 8 + 4 + 96 + 96 + 12 + 12 + 24 + 24 + 24 + 24 + 48 + 16 + 50 + 50 + 50 + 150 + 800 + 650 := by omega
  refine va_newa (N' := 12) (a0 := (12, .inl fun _ => 0)) hx hb (atype := .int) (hts (.arrayClass .int) (by decide +kernel)) rfl hK.1 hP hD hS hA (fun _ => rfl) (by decide) rfl (Nat.le_of_ble_eq_true rfl) hkc62 hks62 dX9_init_62 (fun q62 cA H hK1 hP hD hS => ?_)
  have hcA := iK_int hK1
  subst hcA
  have hP : va_P V.1 vwCl [(h0, .inr (9, [.int 0, .int 0, .ref q7, .ref q15, .ref q23, .ref q30, .ref q38, .ref q46, .ref q54, .null, .null, .null, .null, .null, .null, .null, .int 0, .null, .null, .null, .null, .int 0, .null, .null])), (q7, iZ V 8), (q15, iZ V 8), (q23, iZ V 8), (q30, iZ V 4), (q38, iZ V 96), (q46, iZ V 96), (q54, iZ V 12), (q62, iZ V 12)] H := hP
  have hD : va_D A [(h0, .inr (9, [.int 0, .int 0, .ref q7, .ref q15, .ref q23, .ref q30, .ref q38, .ref q46, .ref q54, .null, .null, .null, .null, .null, .null, .null, .int 0, .null, .null, .null, .null, .int 0, .null, .null])), (q7, iZ V 8), (q15, iZ V 8), (q23, iZ V 8), (q30, iZ V 4), (q38, iZ V 96), (q46, iZ V 96), (q54, iZ V 12), (q62, iZ V 12)] := hD
  refine W.widen (k := 8) (n := 8 + 8 + 8 + 4 + 96 + 96 + 12 + 12) (by omega) (by omega) ?_
  refine va_putF (D := V.1) (ci := 9) (v := .ref q62) (ty := .array .int) (C := RX9) (T := TX9) (N := 24) hx hb hts (by decide +kernel) tyX9 tyX9_ok nmX9 hown hK.1 hP hD hS 0 rfl rfl 9 (by decide) (hts (.fieldLink RX9 31 "ProductLineCheckerModel" "linkParents" "[I") (by decide +kernel)) (fun _ h9 => h9) rfl hin rfl (by decide +kernel) rfl rfl (Nat.le_of_ble_eq_true rfl) dX9_init_64 (fun H locs hP hD hS => ?_)
  have hP : va_P V.1 vwCl [(h0, .inr (9, [.int 0, .int 0, .ref q7, .ref q15, .ref q23, .ref q30, .ref q38, .ref q46, .ref q54, .ref q62, .null, .null, .null, .null, .null, .null, .int 0, .null, .null, .null, .null, .int 0, .null, .null])), (q7, iZ V 8), (q15, iZ V 8), (q23, iZ V 8), (q30, iZ V 4), (q38, iZ V 96), (q46, iZ V 96), (q54, iZ V 12), (q62, iZ V 12)] H := hP
  have hD : va_D A [(h0, .inr (9, [.int 0, .int 0, .ref q7, .ref q15, .ref q23, .ref q30, .ref q38, .ref q46, .ref q54, .ref q62, .null, .null, .null, .null, .null, .null, .int 0, .null, .null, .null, .null, .int 0, .null, .null])), (q7, iZ V 8), (q15, iZ V 8), (q23, iZ V 8), (q30, iZ V 4), (q38, iZ V 96), (q46, iZ V 96), (q54, iZ V 12), (q62, iZ V 12)] := hD
  refine lv_aload_n hx hb dX9_init_67 rfl (lv_at hl 0 rfl) ?_
  refine lv_bipush (v := (nI 24)) hx hb dX9_init_68 (by decide) ?_
  have hkc70 : 9 ≤ 20 := by omega
  have hks70 : 8 + 8 + 8 + 4 + 96 + 96 + 12 + 12 + 24 ≤ 8 + 8 + 8 + 4 + 96 + 96 + 12 + 12 + 24 + 24 + 24 + 24 + 48 + 16 + 50 + 50 + 50 + 150 + 800 + 650 := by omega
  refine va_newa (N' := 24) (a0 := (24, .inl fun _ => 0)) hx hb (atype := .boolean) (hts (.arrayClass .boolean) (by decide +kernel)) rfl hK.1 hP hD hS hA (fun _ => rfl) (by decide) rfl (Nat.le_of_ble_eq_true rfl) hkc70 hks70 dX9_init_70 (fun q70 cA H hK1 hP hD hS => ?_)
  have hcA := iK_bool hK1
  subst hcA
  have hP : va_P V.1 vwCl [(h0, .inr (9, [.int 0, .int 0, .ref q7, .ref q15, .ref q23, .ref q30, .ref q38, .ref q46, .ref q54, .ref q62, .null, .null, .null, .null, .null, .null, .int 0, .null, .null, .null, .null, .int 0, .null, .null])), (q7, iZ V 8), (q15, iZ V 8), (q23, iZ V 8), (q30, iZ V 4), (q38, iZ V 96), (q46, iZ V 96), (q54, iZ V 12), (q62, iZ V 12), (q70, iB V 24)] H := hP
  have hD : va_D A [(h0, .inr (9, [.int 0, .int 0, .ref q7, .ref q15, .ref q23, .ref q30, .ref q38, .ref q46, .ref q54, .ref q62, .null, .null, .null, .null, .null, .null, .int 0, .null, .null, .null, .null, .int 0, .null, .null])), (q7, iZ V 8), (q15, iZ V 8), (q23, iZ V 8), (q30, iZ V 4), (q38, iZ V 96), (q46, iZ V 96), (q54, iZ V 12), (q62, iZ V 12), (q70, iB V 24)] := hD
  refine W.widen (k := 9) (n := 8 + 8 + 8 + 4 + 96 + 96 + 12 + 12 + 24) (by omega) (by omega) ?_
  refine va_putF (D := V.1) (ci := 9) (v := .ref q70) (ty := .array .boolean) (C := RX9) (T := TX9) (N := 24) hx hb hts (by decide +kernel) tyX9 tyX9_ok nmX9 hown hK.1 hP hD hS 0 rfl rfl 10 (by decide) (hts (.fieldLink RX9 34 "ProductLineCheckerModel" "areMethods" "[Z") (by decide +kernel)) (fun _ h9 => h9) rfl hin rfl (by decide +kernel) rfl rfl (Nat.le_of_ble_eq_true rfl) dX9_init_72 (fun H locs hP hD hS => ?_)
  have hP : va_P V.1 vwCl [(h0, .inr (9, [.int 0, .int 0, .ref q7, .ref q15, .ref q23, .ref q30, .ref q38, .ref q46, .ref q54, .ref q62, .ref q70, .null, .null, .null, .null, .null, .int 0, .null, .null, .null, .null, .int 0, .null, .null])), (q7, iZ V 8), (q15, iZ V 8), (q23, iZ V 8), (q30, iZ V 4), (q38, iZ V 96), (q46, iZ V 96), (q54, iZ V 12), (q62, iZ V 12), (q70, iB V 24)] H := hP
  have hD : va_D A [(h0, .inr (9, [.int 0, .int 0, .ref q7, .ref q15, .ref q23, .ref q30, .ref q38, .ref q46, .ref q54, .ref q62, .ref q70, .null, .null, .null, .null, .null, .int 0, .null, .null, .null, .null, .int 0, .null, .null])), (q7, iZ V 8), (q15, iZ V 8), (q23, iZ V 8), (q30, iZ V 4), (q38, iZ V 96), (q46, iZ V 96), (q54, iZ V 12), (q62, iZ V 12), (q70, iB V 24)] := hD
  refine lv_aload_n hx hb dX9_init_75 rfl (lv_at hl 0 rfl) ?_
  refine lv_bipush (v := (nI 24)) hx hb dX9_init_76 (by decide) ?_
  have hkc78 : 10 ≤ 20 := by omega
  have hks78 : 8 + 8 + 8 + 4 + 96 + 96 + 12 + 12 + 24 + 24 ≤ 8 + 8 + 8 + 4 + 96 + 96 + 12 + 12 + 24 + 24 + 24 + 24 + 48 + 16 + 50 + 50 + 50 + 150 + 800 + 650 := by omega
  refine va_newa (N' := 24) (a0 := (24, .inl fun _ => 0)) hx hb (atype := .int) (hts (.arrayClass .int) (by decide +kernel)) rfl hK.1 hP hD hS hA (fun _ => rfl) (by decide) rfl (Nat.le_of_ble_eq_true rfl) hkc78 hks78 dX9_init_78 (fun q78 cA H hK1 hP hD hS => ?_)
  have hcA := iK_int hK1
  subst hcA
  have hP : va_P V.1 vwCl [(h0, .inr (9, [.int 0, .int 0, .ref q7, .ref q15, .ref q23, .ref q30, .ref q38, .ref q46, .ref q54, .ref q62, .ref q70, .null, .null, .null, .null, .null, .int 0, .null, .null, .null, .null, .int 0, .null, .null])), (q7, iZ V 8), (q15, iZ V 8), (q23, iZ V 8), (q30, iZ V 4), (q38, iZ V 96), (q46, iZ V 96), (q54, iZ V 12), (q62, iZ V 12), (q70, iB V 24), (q78, iZ V 24)] H := hP
  have hD : va_D A [(h0, .inr (9, [.int 0, .int 0, .ref q7, .ref q15, .ref q23, .ref q30, .ref q38, .ref q46, .ref q54, .ref q62, .ref q70, .null, .null, .null, .null, .null, .int 0, .null, .null, .null, .null, .int 0, .null, .null])), (q7, iZ V 8), (q15, iZ V 8), (q23, iZ V 8), (q30, iZ V 4), (q38, iZ V 96), (q46, iZ V 96), (q54, iZ V 12), (q62, iZ V 12), (q70, iB V 24), (q78, iZ V 24)] := hD
  refine W.widen (k := 10) (n := 8 + 8 + 8 + 4 + 96 + 96 + 12 + 12 + 24 + 24) (by omega) (by omega) ?_
  refine va_putF (D := V.1) (ci := 9) (v := .ref q78) (ty := .array .int) (C := RX9) (T := TX9) (N := 24) hx hb hts (by decide +kernel) tyX9 tyX9_ok nmX9 hown hK.1 hP hD hS 0 rfl rfl 11 (by decide) (hts (.fieldLink RX9 38 "ProductLineCheckerModel" "owners" "[I") (by decide +kernel)) (fun _ h9 => h9) rfl hin rfl (by decide +kernel) rfl rfl (Nat.le_of_ble_eq_true rfl) dX9_init_80 (fun H locs hP hD hS => ?_)
  have hP : va_P V.1 vwCl [(h0, .inr (9, [.int 0, .int 0, .ref q7, .ref q15, .ref q23, .ref q30, .ref q38, .ref q46, .ref q54, .ref q62, .ref q70, .ref q78, .null, .null, .null, .null, .int 0, .null, .null, .null, .null, .int 0, .null, .null])), (q7, iZ V 8), (q15, iZ V 8), (q23, iZ V 8), (q30, iZ V 4), (q38, iZ V 96), (q46, iZ V 96), (q54, iZ V 12), (q62, iZ V 12), (q70, iB V 24), (q78, iZ V 24)] H := hP
  have hD : va_D A [(h0, .inr (9, [.int 0, .int 0, .ref q7, .ref q15, .ref q23, .ref q30, .ref q38, .ref q46, .ref q54, .ref q62, .ref q70, .ref q78, .null, .null, .null, .null, .int 0, .null, .null, .null, .null, .int 0, .null, .null])), (q7, iZ V 8), (q15, iZ V 8), (q23, iZ V 8), (q30, iZ V 4), (q38, iZ V 96), (q46, iZ V 96), (q54, iZ V 12), (q62, iZ V 12), (q70, iB V 24), (q78, iZ V 24)] := hD
  refine lv_aload_n hx hb dX9_init_83 rfl (lv_at hl 0 rfl) ?_
  refine lv_bipush (v := (nI 24)) hx hb dX9_init_84 (by decide) ?_
  have hkc86 : 11 ≤ 20 := by omega
  have hks86 : 8 + 8 + 8 + 4 + 96 + 96 + 12 + 12 + 24 + 24 + 24 ≤ 8 + 8 + 8 + 4 + 96 + 96 + 12 + 12 + 24 + 24 + 24 + 24 + 48 + 16 + 50 + 50 + 50 + 150 + 800 + 650 := by omega
  refine va_newa (N' := 24) (a0 := (24, .inl fun _ => 0)) hx hb (atype := .int) (hts (.arrayClass .int) (by decide +kernel)) rfl hK.1 hP hD hS hA (fun _ => rfl) (by decide) rfl (Nat.le_of_ble_eq_true rfl) hkc86 hks86 dX9_init_86 (fun q86 cA H hK1 hP hD hS => ?_)
  have hcA := iK_int hK1
  subst hcA
  have hP : va_P V.1 vwCl [(h0, .inr (9, [.int 0, .int 0, .ref q7, .ref q15, .ref q23, .ref q30, .ref q38, .ref q46, .ref q54, .ref q62, .ref q70, .ref q78, .null, .null, .null, .null, .int 0, .null, .null, .null, .null, .int 0, .null, .null])), (q7, iZ V 8), (q15, iZ V 8), (q23, iZ V 8), (q30, iZ V 4), (q38, iZ V 96), (q46, iZ V 96), (q54, iZ V 12), (q62, iZ V 12), (q70, iB V 24), (q78, iZ V 24), (q86, iZ V 24)] H := hP
  have hD : va_D A [(h0, .inr (9, [.int 0, .int 0, .ref q7, .ref q15, .ref q23, .ref q30, .ref q38, .ref q46, .ref q54, .ref q62, .ref q70, .ref q78, .null, .null, .null, .null, .int 0, .null, .null, .null, .null, .int 0, .null, .null])), (q7, iZ V 8), (q15, iZ V 8), (q23, iZ V 8), (q30, iZ V 4), (q38, iZ V 96), (q46, iZ V 96), (q54, iZ V 12), (q62, iZ V 12), (q70, iB V 24), (q78, iZ V 24), (q86, iZ V 24)] := hD
  refine W.widen (k := 11) (n := 8 + 8 + 8 + 4 + 96 + 96 + 12 + 12 + 24 + 24 + 24) (by omega) (by omega) ?_
  refine va_putF (D := V.1) (ci := 9) (v := .ref q86) (ty := .array .int) (C := RX9) (T := TX9) (N := 24) hx hb hts (by decide +kernel) tyX9 tyX9_ok nmX9 hown hK.1 hP hD hS 0 rfl rfl 12 (by decide) (hts (.fieldLink RX9 41 "ProductLineCheckerModel" "names" "[I") (by decide +kernel)) (fun _ h9 => h9) rfl hin rfl (by decide +kernel) rfl rfl (Nat.le_of_ble_eq_true rfl) dX9_init_88 (fun H locs hP hD hS => ?_)
  have hP : va_P V.1 vwCl [(h0, .inr (9, [.int 0, .int 0, .ref q7, .ref q15, .ref q23, .ref q30, .ref q38, .ref q46, .ref q54, .ref q62, .ref q70, .ref q78, .ref q86, .null, .null, .null, .int 0, .null, .null, .null, .null, .int 0, .null, .null])), (q7, iZ V 8), (q15, iZ V 8), (q23, iZ V 8), (q30, iZ V 4), (q38, iZ V 96), (q46, iZ V 96), (q54, iZ V 12), (q62, iZ V 12), (q70, iB V 24), (q78, iZ V 24), (q86, iZ V 24)] H := hP
  have hD : va_D A [(h0, .inr (9, [.int 0, .int 0, .ref q7, .ref q15, .ref q23, .ref q30, .ref q38, .ref q46, .ref q54, .ref q62, .ref q70, .ref q78, .ref q86, .null, .null, .null, .int 0, .null, .null, .null, .null, .int 0, .null, .null])), (q7, iZ V 8), (q15, iZ V 8), (q23, iZ V 8), (q30, iZ V 4), (q38, iZ V 96), (q46, iZ V 96), (q54, iZ V 12), (q62, iZ V 12), (q70, iB V 24), (q78, iZ V 24), (q86, iZ V 24)] := hD
  refine lv_aload_n hx hb dX9_init_91 rfl (lv_at hl 0 rfl) ?_
  refine lv_bipush (v := (nI 24)) hx hb dX9_init_92 (by decide) ?_
  have hkc94 : 12 ≤ 20 := by omega
  have hks94 : 8 + 8 + 8 + 4 + 96 + 96 + 12 + 12 + 24 + 24 + 24 + 24 ≤ 8 + 8 + 8 + 4 + 96 + 96 + 12 + 12 + 24 + 24 + 24 + 24 + 48 + 16 + 50 + 50 + 50 + 150 + 800 + 650 := by omega
  refine va_newa (N' := 24) (a0 := (24, .inl fun _ => 0)) hx hb (atype := .int) (hts (.arrayClass .int) (by decide +kernel)) rfl hK.1 hP hD hS hA (fun _ => rfl) (by decide) rfl (Nat.le_of_ble_eq_true rfl) hkc94 hks94 dX9_init_94 (fun q94 cA H hK1 hP hD hS => ?_)
  have hcA := iK_int hK1
  subst hcA
  have hP : va_P V.1 vwCl [(h0, .inr (9, [.int 0, .int 0, .ref q7, .ref q15, .ref q23, .ref q30, .ref q38, .ref q46, .ref q54, .ref q62, .ref q70, .ref q78, .ref q86, .null, .null, .null, .int 0, .null, .null, .null, .null, .int 0, .null, .null])), (q7, iZ V 8), (q15, iZ V 8), (q23, iZ V 8), (q30, iZ V 4), (q38, iZ V 96), (q46, iZ V 96), (q54, iZ V 12), (q62, iZ V 12), (q70, iB V 24), (q78, iZ V 24), (q86, iZ V 24), (q94, iZ V 24)] H := hP
  have hD : va_D A [(h0, .inr (9, [.int 0, .int 0, .ref q7, .ref q15, .ref q23, .ref q30, .ref q38, .ref q46, .ref q54, .ref q62, .ref q70, .ref q78, .ref q86, .null, .null, .null, .int 0, .null, .null, .null, .null, .int 0, .null, .null])), (q7, iZ V 8), (q15, iZ V 8), (q23, iZ V 8), (q30, iZ V 4), (q38, iZ V 96), (q46, iZ V 96), (q54, iZ V 12), (q62, iZ V 12), (q70, iB V 24), (q78, iZ V 24), (q86, iZ V 24), (q94, iZ V 24)] := hD
  refine W.widen (k := 12) (n := 8 + 8 + 8 + 4 + 96 + 96 + 12 + 12 + 24 + 24 + 24 + 24) (by omega) (by omega) ?_
  refine va_putF (D := V.1) (ci := 9) (v := .ref q94) (ty := .array .int) (C := RX9) (T := TX9) (N := 24) hx hb hts (by decide +kernel) tyX9 tyX9_ok nmX9 hown hK.1 hP hD hS 0 rfl rfl 13 (by decide) (hts (.fieldLink RX9 44 "ProductLineCheckerModel" "memberTypes" "[I") (by decide +kernel)) (fun _ h9 => h9) rfl hin rfl (by decide +kernel) rfl rfl (Nat.le_of_ble_eq_true rfl) dX9_init_96 (fun H locs hP hD hS => ?_)
  have hP : va_P V.1 vwCl [(h0, .inr (9, [.int 0, .int 0, .ref q7, .ref q15, .ref q23, .ref q30, .ref q38, .ref q46, .ref q54, .ref q62, .ref q70, .ref q78, .ref q86, .ref q94, .null, .null, .int 0, .null, .null, .null, .null, .int 0, .null, .null])), (q7, iZ V 8), (q15, iZ V 8), (q23, iZ V 8), (q30, iZ V 4), (q38, iZ V 96), (q46, iZ V 96), (q54, iZ V 12), (q62, iZ V 12), (q70, iB V 24), (q78, iZ V 24), (q86, iZ V 24), (q94, iZ V 24)] H := hP
  have hD : va_D A [(h0, .inr (9, [.int 0, .int 0, .ref q7, .ref q15, .ref q23, .ref q30, .ref q38, .ref q46, .ref q54, .ref q62, .ref q70, .ref q78, .ref q86, .ref q94, .null, .null, .int 0, .null, .null, .null, .null, .int 0, .null, .null])), (q7, iZ V 8), (q15, iZ V 8), (q23, iZ V 8), (q30, iZ V 4), (q38, iZ V 96), (q46, iZ V 96), (q54, iZ V 12), (q62, iZ V 12), (q70, iB V 24), (q78, iZ V 24), (q86, iZ V 24), (q94, iZ V 24)] := hD
  refine lv_aload_n hx hb dX9_init_99 rfl (lv_at hl 0 rfl) ?_
  refine lv_bipush (v := (nI 48)) hx hb dX9_init_100 (by decide) ?_
  have hkc102 : 13 ≤ 20 := by omega
  have hks102 : 8 + 8 + 8 + 4 + 96 + 96 + 12 + 12 + 24 + 24 + 24 + 24 + 48 ≤ 8 + 8 + 8 + 4 + 96 + 96 + 12 + 12 + 24 + 24 + 24 + 24 + 48 + 16 + 50 + 50 + 50 + 150 + 800 + 650 := by omega
  refine va_newa (N' := 48) (a0 := (48, .inl fun _ => 0)) hx hb (atype := .int) (hts (.arrayClass .int) (by decide +kernel)) rfl hK.1 hP hD hS hA (fun _ => rfl) (by decide) rfl (Nat.le_of_ble_eq_true rfl) hkc102 hks102 dX9_init_102 (fun q102 cA H hK1 hP hD hS => ?_)
  have hcA := iK_int hK1
  subst hcA
  have hP : va_P V.1 vwCl [(h0, .inr (9, [.int 0, .int 0, .ref q7, .ref q15, .ref q23, .ref q30, .ref q38, .ref q46, .ref q54, .ref q62, .ref q70, .ref q78, .ref q86, .ref q94, .null, .null, .int 0, .null, .null, .null, .null, .int 0, .null, .null])), (q7, iZ V 8), (q15, iZ V 8), (q23, iZ V 8), (q30, iZ V 4), (q38, iZ V 96), (q46, iZ V 96), (q54, iZ V 12), (q62, iZ V 12), (q70, iB V 24), (q78, iZ V 24), (q86, iZ V 24), (q94, iZ V 24), (q102, iZ V 48)] H := hP
  have hD : va_D A [(h0, .inr (9, [.int 0, .int 0, .ref q7, .ref q15, .ref q23, .ref q30, .ref q38, .ref q46, .ref q54, .ref q62, .ref q70, .ref q78, .ref q86, .ref q94, .null, .null, .int 0, .null, .null, .null, .null, .int 0, .null, .null])), (q7, iZ V 8), (q15, iZ V 8), (q23, iZ V 8), (q30, iZ V 4), (q38, iZ V 96), (q46, iZ V 96), (q54, iZ V 12), (q62, iZ V 12), (q70, iB V 24), (q78, iZ V 24), (q86, iZ V 24), (q94, iZ V 24), (q102, iZ V 48)] := hD
  refine W.widen (k := 13) (n := 8 + 8 + 8 + 4 + 96 + 96 + 12 + 12 + 24 + 24 + 24 + 24 + 48) (by omega) (by omega) ?_
  refine va_putF (D := V.1) (ci := 9) (v := .ref q102) (ty := .array .int) (C := RX9) (T := TX9) (N := 24) hx hb hts (by decide +kernel) tyX9 tyX9_ok nmX9 hown hK.1 hP hD hS 0 rfl rfl 14 (by decide) (hts (.fieldLink RX9 47 "ProductLineCheckerModel" "parameters" "[I") (by decide +kernel)) (fun _ h9 => h9) rfl hin rfl (by decide +kernel) rfl rfl (Nat.le_of_ble_eq_true rfl) dX9_init_104 (fun H locs hP hD hS => ?_)
  have hP : va_P V.1 vwCl [(h0, .inr (9, [.int 0, .int 0, .ref q7, .ref q15, .ref q23, .ref q30, .ref q38, .ref q46, .ref q54, .ref q62, .ref q70, .ref q78, .ref q86, .ref q94, .ref q102, .null, .int 0, .null, .null, .null, .null, .int 0, .null, .null])), (q7, iZ V 8), (q15, iZ V 8), (q23, iZ V 8), (q30, iZ V 4), (q38, iZ V 96), (q46, iZ V 96), (q54, iZ V 12), (q62, iZ V 12), (q70, iB V 24), (q78, iZ V 24), (q86, iZ V 24), (q94, iZ V 24), (q102, iZ V 48)] H := hP
  have hD : va_D A [(h0, .inr (9, [.int 0, .int 0, .ref q7, .ref q15, .ref q23, .ref q30, .ref q38, .ref q46, .ref q54, .ref q62, .ref q70, .ref q78, .ref q86, .ref q94, .ref q102, .null, .int 0, .null, .null, .null, .null, .int 0, .null, .null])), (q7, iZ V 8), (q15, iZ V 8), (q23, iZ V 8), (q30, iZ V 4), (q38, iZ V 96), (q46, iZ V 96), (q54, iZ V 12), (q62, iZ V 12), (q70, iB V 24), (q78, iZ V 24), (q86, iZ V 24), (q94, iZ V 24), (q102, iZ V 48)] := hD
  refine lv_aload_n hx hb dX9_init_107 rfl (lv_at hl 0 rfl) ?_
  refine lv_bipush (v := (nI 16)) hx hb dX9_init_108 (by decide) ?_
  have hkc110 : 14 ≤ 20 := by omega
  have hks110 : 8 + 8 + 8 + 4 + 96 + 96 + 12 + 12 + 24 + 24 + 24 + 24 + 48 + 16 ≤ 8 + 8 + 8 + 4 + 96 + 96 + 12 + 12 + 24 + 24 + 24 + 24 + 48 + 16 + 50 + 50 + 50 + 150 + 800 + 650 := by omega
  refine va_newa (N' := 16) (a0 := (16, .inl fun _ => 0)) hx hb (atype := .int) (hts (.arrayClass .int) (by decide +kernel)) rfl hK.1 hP hD hS hA (fun _ => rfl) (by decide) rfl (Nat.le_of_ble_eq_true rfl) hkc110 hks110 dX9_init_110 (fun q110 cA H hK1 hP hD hS => ?_)
  have hcA := iK_int hK1
  subst hcA
  have hP : va_P V.1 vwCl [(h0, .inr (9, [.int 0, .int 0, .ref q7, .ref q15, .ref q23, .ref q30, .ref q38, .ref q46, .ref q54, .ref q62, .ref q70, .ref q78, .ref q86, .ref q94, .ref q102, .null, .int 0, .null, .null, .null, .null, .int 0, .null, .null])), (q7, iZ V 8), (q15, iZ V 8), (q23, iZ V 8), (q30, iZ V 4), (q38, iZ V 96), (q46, iZ V 96), (q54, iZ V 12), (q62, iZ V 12), (q70, iB V 24), (q78, iZ V 24), (q86, iZ V 24), (q94, iZ V 24), (q102, iZ V 48), (q110, iZ V 16)] H := hP
  have hD : va_D A [(h0, .inr (9, [.int 0, .int 0, .ref q7, .ref q15, .ref q23, .ref q30, .ref q38, .ref q46, .ref q54, .ref q62, .ref q70, .ref q78, .ref q86, .ref q94, .ref q102, .null, .int 0, .null, .null, .null, .null, .int 0, .null, .null])), (q7, iZ V 8), (q15, iZ V 8), (q23, iZ V 8), (q30, iZ V 4), (q38, iZ V 96), (q46, iZ V 96), (q54, iZ V 12), (q62, iZ V 12), (q70, iB V 24), (q78, iZ V 24), (q86, iZ V 24), (q94, iZ V 24), (q102, iZ V 48), (q110, iZ V 16)] := hD
  refine W.widen (k := 14) (n := 8 + 8 + 8 + 4 + 96 + 96 + 12 + 12 + 24 + 24 + 24 + 24 + 48 + 16) (by omega) (by omega) ?_
  refine va_putF (D := V.1) (ci := 9) (v := .ref q110) (ty := .array .int) (C := RX9) (T := TX9) (N := 24) hx hb hts (by decide +kernel) tyX9 tyX9_ok nmX9 hown hK.1 hP hD hS 0 rfl rfl 15 (by decide) (hts (.fieldLink RX9 50 "ProductLineCheckerModel" "resultExpressions" "[I") (by decide +kernel)) (fun _ h9 => h9) rfl hin rfl (by decide +kernel) rfl rfl (Nat.le_of_ble_eq_true rfl) dX9_init_112 (fun H locs hP hD hS => ?_)
  have hP : va_P V.1 vwCl [(h0, .inr (9, [.int 0, .int 0, .ref q7, .ref q15, .ref q23, .ref q30, .ref q38, .ref q46, .ref q54, .ref q62, .ref q70, .ref q78, .ref q86, .ref q94, .ref q102, .ref q110, .int 0, .null, .null, .null, .null, .int 0, .null, .null])), (q7, iZ V 8), (q15, iZ V 8), (q23, iZ V 8), (q30, iZ V 4), (q38, iZ V 96), (q46, iZ V 96), (q54, iZ V 12), (q62, iZ V 12), (q70, iB V 24), (q78, iZ V 24), (q86, iZ V 24), (q94, iZ V 24), (q102, iZ V 48), (q110, iZ V 16)] H := hP
  have hD : va_D A [(h0, .inr (9, [.int 0, .int 0, .ref q7, .ref q15, .ref q23, .ref q30, .ref q38, .ref q46, .ref q54, .ref q62, .ref q70, .ref q78, .ref q86, .ref q94, .ref q102, .ref q110, .int 0, .null, .null, .null, .null, .int 0, .null, .null])), (q7, iZ V 8), (q15, iZ V 8), (q23, iZ V 8), (q30, iZ V 4), (q38, iZ V 96), (q46, iZ V 96), (q54, iZ V 12), (q62, iZ V 12), (q70, iB V 24), (q78, iZ V 24), (q86, iZ V 24), (q94, iZ V 24), (q102, iZ V 48), (q110, iZ V 16)] := hD
  refine lv_aload_n hx hb dX9_init_115 rfl (lv_at hl 0 rfl) ?_
  refine lv_bipush (v := (nI 50)) hx hb dX9_init_116 (by decide) ?_
  have hkc118 : 15 ≤ 20 := by omega
  have hks118 : 8 + 8 + 8 + 4 + 96 + 96 + 12 + 12 + 24 + 24 + 24 + 24 + 48 + 16 + 50 ≤ 8 + 8 + 8 + 4 + 96 + 96 + 12 + 12 + 24 + 24 + 24 + 24 + 48 + 16 + 50 + 50 + 50 + 150 + 800 + 650 := by omega
  refine va_newa (N' := 50) (a0 := (50, .inl fun _ => 0)) hx hb (atype := .int) (hts (.arrayClass .int) (by decide +kernel)) rfl hK.1 hP hD hS hA (fun _ => rfl) (by decide) rfl (Nat.le_of_ble_eq_true rfl) hkc118 hks118 dX9_init_118 (fun q118 cA H hK1 hP hD hS => ?_)
  have hcA := iK_int hK1
  subst hcA
  have hP : va_P V.1 vwCl [(h0, .inr (9, [.int 0, .int 0, .ref q7, .ref q15, .ref q23, .ref q30, .ref q38, .ref q46, .ref q54, .ref q62, .ref q70, .ref q78, .ref q86, .ref q94, .ref q102, .ref q110, .int 0, .null, .null, .null, .null, .int 0, .null, .null])), (q7, iZ V 8), (q15, iZ V 8), (q23, iZ V 8), (q30, iZ V 4), (q38, iZ V 96), (q46, iZ V 96), (q54, iZ V 12), (q62, iZ V 12), (q70, iB V 24), (q78, iZ V 24), (q86, iZ V 24), (q94, iZ V 24), (q102, iZ V 48), (q110, iZ V 16), (q118, iZ V 50)] H := hP
  have hD : va_D A [(h0, .inr (9, [.int 0, .int 0, .ref q7, .ref q15, .ref q23, .ref q30, .ref q38, .ref q46, .ref q54, .ref q62, .ref q70, .ref q78, .ref q86, .ref q94, .ref q102, .ref q110, .int 0, .null, .null, .null, .null, .int 0, .null, .null])), (q7, iZ V 8), (q15, iZ V 8), (q23, iZ V 8), (q30, iZ V 4), (q38, iZ V 96), (q46, iZ V 96), (q54, iZ V 12), (q62, iZ V 12), (q70, iB V 24), (q78, iZ V 24), (q86, iZ V 24), (q94, iZ V 24), (q102, iZ V 48), (q110, iZ V 16), (q118, iZ V 50)] := hD
  refine W.widen (k := 15) (n := 8 + 8 + 8 + 4 + 96 + 96 + 12 + 12 + 24 + 24 + 24 + 24 + 48 + 16 + 50) (by omega) (by omega) ?_
  refine va_putF (D := V.1) (ci := 9) (v := .ref q118) (ty := .array .int) (C := RX9) (T := TX9) (N := 24) hx hb hts (by decide +kernel) tyX9 tyX9_ok nmX9 hown hK.1 hP hD hS 0 rfl rfl 17 (by decide) (hts (.fieldLink RX9 53 "ProductLineCheckerModel" "forms" "[I") (by decide +kernel)) (fun _ h9 => h9) rfl hin rfl (by decide +kernel) rfl rfl (Nat.le_of_ble_eq_true rfl) dX9_init_120 (fun H locs hP hD hS => ?_)
  have hP : va_P V.1 vwCl [(h0, .inr (9, [.int 0, .int 0, .ref q7, .ref q15, .ref q23, .ref q30, .ref q38, .ref q46, .ref q54, .ref q62, .ref q70, .ref q78, .ref q86, .ref q94, .ref q102, .ref q110, .int 0, .ref q118, .null, .null, .null, .int 0, .null, .null])), (q7, iZ V 8), (q15, iZ V 8), (q23, iZ V 8), (q30, iZ V 4), (q38, iZ V 96), (q46, iZ V 96), (q54, iZ V 12), (q62, iZ V 12), (q70, iB V 24), (q78, iZ V 24), (q86, iZ V 24), (q94, iZ V 24), (q102, iZ V 48), (q110, iZ V 16), (q118, iZ V 50)] H := hP
  have hD : va_D A [(h0, .inr (9, [.int 0, .int 0, .ref q7, .ref q15, .ref q23, .ref q30, .ref q38, .ref q46, .ref q54, .ref q62, .ref q70, .ref q78, .ref q86, .ref q94, .ref q102, .ref q110, .int 0, .ref q118, .null, .null, .null, .int 0, .null, .null])), (q7, iZ V 8), (q15, iZ V 8), (q23, iZ V 8), (q30, iZ V 4), (q38, iZ V 96), (q46, iZ V 96), (q54, iZ V 12), (q62, iZ V 12), (q70, iB V 24), (q78, iZ V 24), (q86, iZ V 24), (q94, iZ V 24), (q102, iZ V 48), (q110, iZ V 16), (q118, iZ V 50)] := hD
  refine lv_aload_n hx hb dX9_init_123 rfl (lv_at hl 0 rfl) ?_
  refine lv_bipush (v := (nI 50)) hx hb dX9_init_124 (by decide) ?_
  have hkc126 : 16 ≤ 20 := by omega
  have hks126 : 8 + 8 + 8 + 4 + 96 + 96 + 12 + 12 + 24 + 24 + 24 + 24 + 48 + 16 + 50 + 50 ≤ 8 + 8 + 8 + 4 + 96 + 96 + 12 + 12 + 24 + 24 + 24 + 24 + 48 + 16 + 50 + 50 + 50 + 150 + 800 + 650 := by omega
  refine va_newa (N' := 50) (a0 := (50, .inl fun _ => 0)) hx hb (atype := .int) (hts (.arrayClass .int) (by decide +kernel)) rfl hK.1 hP hD hS hA (fun _ => rfl) (by decide) rfl (Nat.le_of_ble_eq_true rfl) hkc126 hks126 dX9_init_126 (fun q126 cA H hK1 hP hD hS => ?_)
  have hcA := iK_int hK1
  subst hcA
  have hP : va_P V.1 vwCl [(h0, .inr (9, [.int 0, .int 0, .ref q7, .ref q15, .ref q23, .ref q30, .ref q38, .ref q46, .ref q54, .ref q62, .ref q70, .ref q78, .ref q86, .ref q94, .ref q102, .ref q110, .int 0, .ref q118, .null, .null, .null, .int 0, .null, .null])), (q7, iZ V 8), (q15, iZ V 8), (q23, iZ V 8), (q30, iZ V 4), (q38, iZ V 96), (q46, iZ V 96), (q54, iZ V 12), (q62, iZ V 12), (q70, iB V 24), (q78, iZ V 24), (q86, iZ V 24), (q94, iZ V 24), (q102, iZ V 48), (q110, iZ V 16), (q118, iZ V 50), (q126, iZ V 50)] H := hP
  have hD : va_D A [(h0, .inr (9, [.int 0, .int 0, .ref q7, .ref q15, .ref q23, .ref q30, .ref q38, .ref q46, .ref q54, .ref q62, .ref q70, .ref q78, .ref q86, .ref q94, .ref q102, .ref q110, .int 0, .ref q118, .null, .null, .null, .int 0, .null, .null])), (q7, iZ V 8), (q15, iZ V 8), (q23, iZ V 8), (q30, iZ V 4), (q38, iZ V 96), (q46, iZ V 96), (q54, iZ V 12), (q62, iZ V 12), (q70, iB V 24), (q78, iZ V 24), (q86, iZ V 24), (q94, iZ V 24), (q102, iZ V 48), (q110, iZ V 16), (q118, iZ V 50), (q126, iZ V 50)] := hD
  refine W.widen (k := 16) (n := 8 + 8 + 8 + 4 + 96 + 96 + 12 + 12 + 24 + 24 + 24 + 24 + 48 + 16 + 50 + 50) (by omega) (by omega) ?_
  refine va_putF (D := V.1) (ci := 9) (v := .ref q126) (ty := .array .int) (C := RX9) (T := TX9) (N := 24) hx hb hts (by decide +kernel) tyX9 tyX9_ok nmX9 hown hK.1 hP hD hS 0 rfl rfl 18 (by decide) (hts (.fieldLink RX9 56 "ProductLineCheckerModel" "methods" "[I") (by decide +kernel)) (fun _ h9 => h9) rfl hin rfl (by decide +kernel) rfl rfl (Nat.le_of_ble_eq_true rfl) dX9_init_128 (fun H locs hP hD hS => ?_)
  have hP : va_P V.1 vwCl [(h0, .inr (9, [.int 0, .int 0, .ref q7, .ref q15, .ref q23, .ref q30, .ref q38, .ref q46, .ref q54, .ref q62, .ref q70, .ref q78, .ref q86, .ref q94, .ref q102, .ref q110, .int 0, .ref q118, .ref q126, .null, .null, .int 0, .null, .null])), (q7, iZ V 8), (q15, iZ V 8), (q23, iZ V 8), (q30, iZ V 4), (q38, iZ V 96), (q46, iZ V 96), (q54, iZ V 12), (q62, iZ V 12), (q70, iB V 24), (q78, iZ V 24), (q86, iZ V 24), (q94, iZ V 24), (q102, iZ V 48), (q110, iZ V 16), (q118, iZ V 50), (q126, iZ V 50)] H := hP
  have hD : va_D A [(h0, .inr (9, [.int 0, .int 0, .ref q7, .ref q15, .ref q23, .ref q30, .ref q38, .ref q46, .ref q54, .ref q62, .ref q70, .ref q78, .ref q86, .ref q94, .ref q102, .ref q110, .int 0, .ref q118, .ref q126, .null, .null, .int 0, .null, .null])), (q7, iZ V 8), (q15, iZ V 8), (q23, iZ V 8), (q30, iZ V 4), (q38, iZ V 96), (q46, iZ V 96), (q54, iZ V 12), (q62, iZ V 12), (q70, iB V 24), (q78, iZ V 24), (q86, iZ V 24), (q94, iZ V 24), (q102, iZ V 48), (q110, iZ V 16), (q118, iZ V 50), (q126, iZ V 50)] := hD
  refine lv_aload_n hx hb dX9_init_131 rfl (lv_at hl 0 rfl) ?_
  refine lv_bipush (v := (nI 50)) hx hb dX9_init_132 (by decide) ?_
  have hkc134 : 17 ≤ 20 := by omega
  have hks134 : 8 + 8 + 8 + 4 + 96 + 96 + 12 + 12 + 24 + 24 + 24 + 24 + 48 + 16 + 50 + 50 + 50 ≤ 8 + 8 + 8 + 4 + 96 + 96 + 12 + 12 + 24 + 24 + 24 + 24 + 48 + 16 + 50 + 50 + 50 + 150 + 800 + 650 := by omega
  refine va_newa (N' := 50) (a0 := (50, .inl fun _ => 0)) hx hb (atype := .int) (hts (.arrayClass .int) (by decide +kernel)) rfl hK.1 hP hD hS hA (fun _ => rfl) (by decide) rfl (Nat.le_of_ble_eq_true rfl) hkc134 hks134 dX9_init_134 (fun q134 cA H hK1 hP hD hS => ?_)
  have hcA := iK_int hK1
  subst hcA
  have hP : va_P V.1 vwCl [(h0, .inr (9, [.int 0, .int 0, .ref q7, .ref q15, .ref q23, .ref q30, .ref q38, .ref q46, .ref q54, .ref q62, .ref q70, .ref q78, .ref q86, .ref q94, .ref q102, .ref q110, .int 0, .ref q118, .ref q126, .null, .null, .int 0, .null, .null])), (q7, iZ V 8), (q15, iZ V 8), (q23, iZ V 8), (q30, iZ V 4), (q38, iZ V 96), (q46, iZ V 96), (q54, iZ V 12), (q62, iZ V 12), (q70, iB V 24), (q78, iZ V 24), (q86, iZ V 24), (q94, iZ V 24), (q102, iZ V 48), (q110, iZ V 16), (q118, iZ V 50), (q126, iZ V 50), (q134, iZ V 50)] H := hP
  have hD : va_D A [(h0, .inr (9, [.int 0, .int 0, .ref q7, .ref q15, .ref q23, .ref q30, .ref q38, .ref q46, .ref q54, .ref q62, .ref q70, .ref q78, .ref q86, .ref q94, .ref q102, .ref q110, .int 0, .ref q118, .ref q126, .null, .null, .int 0, .null, .null])), (q7, iZ V 8), (q15, iZ V 8), (q23, iZ V 8), (q30, iZ V 4), (q38, iZ V 96), (q46, iZ V 96), (q54, iZ V 12), (q62, iZ V 12), (q70, iB V 24), (q78, iZ V 24), (q86, iZ V 24), (q94, iZ V 24), (q102, iZ V 48), (q110, iZ V 16), (q118, iZ V 50), (q126, iZ V 50), (q134, iZ V 50)] := hD
  refine W.widen (k := 17) (n := 8 + 8 + 8 + 4 + 96 + 96 + 12 + 12 + 24 + 24 + 24 + 24 + 48 + 16 + 50 + 50 + 50) (by omega) (by omega) ?_
  refine va_putF (D := V.1) (ci := 9) (v := .ref q134) (ty := .array .int) (C := RX9) (T := TX9) (N := 24) hx hb hts (by decide +kernel) tyX9 tyX9_ok nmX9 hown hK.1 hP hD hS 0 rfl rfl 19 (by decide) (hts (.fieldLink RX9 59 "ProductLineCheckerModel" "whats" "[I") (by decide +kernel)) (fun _ h9 => h9) rfl hin rfl (by decide +kernel) rfl rfl (Nat.le_of_ble_eq_true rfl) dX9_init_136 (fun H locs hP hD hS => ?_)
  have hP : va_P V.1 vwCl [(h0, .inr (9, [.int 0, .int 0, .ref q7, .ref q15, .ref q23, .ref q30, .ref q38, .ref q46, .ref q54, .ref q62, .ref q70, .ref q78, .ref q86, .ref q94, .ref q102, .ref q110, .int 0, .ref q118, .ref q126, .ref q134, .null, .int 0, .null, .null])), (q7, iZ V 8), (q15, iZ V 8), (q23, iZ V 8), (q30, iZ V 4), (q38, iZ V 96), (q46, iZ V 96), (q54, iZ V 12), (q62, iZ V 12), (q70, iB V 24), (q78, iZ V 24), (q86, iZ V 24), (q94, iZ V 24), (q102, iZ V 48), (q110, iZ V 16), (q118, iZ V 50), (q126, iZ V 50), (q134, iZ V 50)] H := hP
  have hD : va_D A [(h0, .inr (9, [.int 0, .int 0, .ref q7, .ref q15, .ref q23, .ref q30, .ref q38, .ref q46, .ref q54, .ref q62, .ref q70, .ref q78, .ref q86, .ref q94, .ref q102, .ref q110, .int 0, .ref q118, .ref q126, .ref q134, .null, .int 0, .null, .null])), (q7, iZ V 8), (q15, iZ V 8), (q23, iZ V 8), (q30, iZ V 4), (q38, iZ V 96), (q46, iZ V 96), (q54, iZ V 12), (q62, iZ V 12), (q70, iB V 24), (q78, iZ V 24), (q86, iZ V 24), (q94, iZ V 24), (q102, iZ V 48), (q110, iZ V 16), (q118, iZ V 50), (q126, iZ V 50), (q134, iZ V 50)] := hD
  refine lv_aload_n hx hb dX9_init_139 rfl (lv_at hl 0 rfl) ?_
  refine lv_sipush (v := (nI 150)) hx hb dX9_init_140 (by decide) ?_
  have hkc143 : 18 ≤ 20 := by omega
  have hks143 : 8 + 8 + 8 + 4 + 96 + 96 + 12 + 12 + 24 + 24 + 24 + 24 + 48 + 16 + 50 + 50 + 50 + 150 ≤ 8 + 8 + 8 + 4 + 96 + 96 + 12 + 12 + 24 + 24 + 24 + 24 + 48 + 16 + 50 + 50 + 50 + 150 + 800 + 650 := by omega
  refine va_newa (N' := 150) (a0 := (150, .inl fun _ => 0)) hx hb (atype := .int) (hts (.arrayClass .int) (by decide +kernel)) rfl hK.1 hP hD hS hA (fun _ => rfl) (by decide) rfl (Nat.le_of_ble_eq_true rfl) hkc143 hks143 dX9_init_143 (fun q143 cA H hK1 hP hD hS => ?_)
  have hcA := iK_int hK1
  subst hcA
  have hP : va_P V.1 vwCl [(h0, .inr (9, [.int 0, .int 0, .ref q7, .ref q15, .ref q23, .ref q30, .ref q38, .ref q46, .ref q54, .ref q62, .ref q70, .ref q78, .ref q86, .ref q94, .ref q102, .ref q110, .int 0, .ref q118, .ref q126, .ref q134, .null, .int 0, .null, .null])), (q7, iZ V 8), (q15, iZ V 8), (q23, iZ V 8), (q30, iZ V 4), (q38, iZ V 96), (q46, iZ V 96), (q54, iZ V 12), (q62, iZ V 12), (q70, iB V 24), (q78, iZ V 24), (q86, iZ V 24), (q94, iZ V 24), (q102, iZ V 48), (q110, iZ V 16), (q118, iZ V 50), (q126, iZ V 50), (q134, iZ V 50), (q143, iZ V 150)] H := hP
  have hD : va_D A [(h0, .inr (9, [.int 0, .int 0, .ref q7, .ref q15, .ref q23, .ref q30, .ref q38, .ref q46, .ref q54, .ref q62, .ref q70, .ref q78, .ref q86, .ref q94, .ref q102, .ref q110, .int 0, .ref q118, .ref q126, .ref q134, .null, .int 0, .null, .null])), (q7, iZ V 8), (q15, iZ V 8), (q23, iZ V 8), (q30, iZ V 4), (q38, iZ V 96), (q46, iZ V 96), (q54, iZ V 12), (q62, iZ V 12), (q70, iB V 24), (q78, iZ V 24), (q86, iZ V 24), (q94, iZ V 24), (q102, iZ V 48), (q110, iZ V 16), (q118, iZ V 50), (q126, iZ V 50), (q134, iZ V 50), (q143, iZ V 150)] := hD
  refine W.widen (k := 18) (n := 8 + 8 + 8 + 4 + 96 + 96 + 12 + 12 + 24 + 24 + 24 + 24 + 48 + 16 + 50 + 50 + 50 + 150) (by omega) (by omega) ?_
  refine va_putF (D := V.1) (ci := 9) (v := .ref q143) (ty := .array .int) (C := RX9) (T := TX9) (N := 24) hx hb hts (by decide +kernel) tyX9 tyX9_ok nmX9 hown hK.1 hP hD hS 0 rfl rfl 20 (by decide) (hts (.fieldLink RX9 62 "ProductLineCheckerModel" "parts" "[I") (by decide +kernel)) (fun _ h9 => h9) rfl hin rfl (by decide +kernel) rfl rfl (Nat.le_of_ble_eq_true rfl) dX9_init_145 (fun H locs hP hD hS => ?_)
  have hP : va_P V.1 vwCl [(h0, .inr (9, [.int 0, .int 0, .ref q7, .ref q15, .ref q23, .ref q30, .ref q38, .ref q46, .ref q54, .ref q62, .ref q70, .ref q78, .ref q86, .ref q94, .ref q102, .ref q110, .int 0, .ref q118, .ref q126, .ref q134, .ref q143, .int 0, .null, .null])), (q7, iZ V 8), (q15, iZ V 8), (q23, iZ V 8), (q30, iZ V 4), (q38, iZ V 96), (q46, iZ V 96), (q54, iZ V 12), (q62, iZ V 12), (q70, iB V 24), (q78, iZ V 24), (q86, iZ V 24), (q94, iZ V 24), (q102, iZ V 48), (q110, iZ V 16), (q118, iZ V 50), (q126, iZ V 50), (q134, iZ V 50), (q143, iZ V 150)] H := hP
  have hD : va_D A [(h0, .inr (9, [.int 0, .int 0, .ref q7, .ref q15, .ref q23, .ref q30, .ref q38, .ref q46, .ref q54, .ref q62, .ref q70, .ref q78, .ref q86, .ref q94, .ref q102, .ref q110, .int 0, .ref q118, .ref q126, .ref q134, .ref q143, .int 0, .null, .null])), (q7, iZ V 8), (q15, iZ V 8), (q23, iZ V 8), (q30, iZ V 4), (q38, iZ V 96), (q46, iZ V 96), (q54, iZ V 12), (q62, iZ V 12), (q70, iB V 24), (q78, iZ V 24), (q86, iZ V 24), (q94, iZ V 24), (q102, iZ V 48), (q110, iZ V 16), (q118, iZ V 50), (q126, iZ V 50), (q134, iZ V 50), (q143, iZ V 150)] := hD
  refine lv_aload_n hx hb dX9_init_148 rfl (lv_at hl 0 rfl) ?_
  refine lv_sipush (v := (nI 800)) hx hb dX9_init_149 (by decide) ?_
  have hkc152 : 19 ≤ 20 := by omega
  have hks152 : 8 + 8 + 8 + 4 + 96 + 96 + 12 + 12 + 24 + 24 + 24 + 24 + 48 + 16 + 50 + 50 + 50 + 150 + 800 ≤ 8 + 8 + 8 + 4 + 96 + 96 + 12 + 12 + 24 + 24 + 24 + 24 + 48 + 16 + 50 + 50 + 50 + 150 + 800 + 650 := by omega
  refine va_newa (N' := 800) (a0 := (800, .inl fun _ => 0)) hx hb (atype := .int) (hts (.arrayClass .int) (by decide +kernel)) rfl hK.1 hP hD hS hA (fun _ => rfl) (by decide) rfl (Nat.le_of_ble_eq_true rfl) hkc152 hks152 dX9_init_152 (fun q152 cA H hK1 hP hD hS => ?_)
  have hcA := iK_int hK1
  subst hcA
  have hP : va_P V.1 vwCl [(h0, .inr (9, [.int 0, .int 0, .ref q7, .ref q15, .ref q23, .ref q30, .ref q38, .ref q46, .ref q54, .ref q62, .ref q70, .ref q78, .ref q86, .ref q94, .ref q102, .ref q110, .int 0, .ref q118, .ref q126, .ref q134, .ref q143, .int 0, .null, .null])), (q7, iZ V 8), (q15, iZ V 8), (q23, iZ V 8), (q30, iZ V 4), (q38, iZ V 96), (q46, iZ V 96), (q54, iZ V 12), (q62, iZ V 12), (q70, iB V 24), (q78, iZ V 24), (q86, iZ V 24), (q94, iZ V 24), (q102, iZ V 48), (q110, iZ V 16), (q118, iZ V 50), (q126, iZ V 50), (q134, iZ V 50), (q143, iZ V 150), (q152, iZ V 800)] H := hP
  have hD : va_D A [(h0, .inr (9, [.int 0, .int 0, .ref q7, .ref q15, .ref q23, .ref q30, .ref q38, .ref q46, .ref q54, .ref q62, .ref q70, .ref q78, .ref q86, .ref q94, .ref q102, .ref q110, .int 0, .ref q118, .ref q126, .ref q134, .ref q143, .int 0, .null, .null])), (q7, iZ V 8), (q15, iZ V 8), (q23, iZ V 8), (q30, iZ V 4), (q38, iZ V 96), (q46, iZ V 96), (q54, iZ V 12), (q62, iZ V 12), (q70, iB V 24), (q78, iZ V 24), (q86, iZ V 24), (q94, iZ V 24), (q102, iZ V 48), (q110, iZ V 16), (q118, iZ V 50), (q126, iZ V 50), (q134, iZ V 50), (q143, iZ V 150), (q152, iZ V 800)] := hD
  refine W.widen (k := 19) (n := 8 + 8 + 8 + 4 + 96 + 96 + 12 + 12 + 24 + 24 + 24 + 24 + 48 + 16 + 50 + 50 + 50 + 150 + 800) (by omega) (by omega) ?_
  refine va_putF (D := V.1) (ci := 9) (v := .ref q152) (ty := .array .int) (C := RX9) (T := TX9) (N := 24) hx hb hts (by decide +kernel) tyX9 tyX9_ok nmX9 hown hK.1 hP hD hS 0 rfl rfl 22 (by decide) (hts (.fieldLink RX9 65 "ProductLineCheckerModel" "types" "[I") (by decide +kernel)) (fun _ h9 => h9) rfl hin rfl (by decide +kernel) rfl rfl (Nat.le_of_ble_eq_true rfl) dX9_init_154 (fun H locs hP hD hS => ?_)
  have hP : va_P V.1 vwCl [(h0, .inr (9, [.int 0, .int 0, .ref q7, .ref q15, .ref q23, .ref q30, .ref q38, .ref q46, .ref q54, .ref q62, .ref q70, .ref q78, .ref q86, .ref q94, .ref q102, .ref q110, .int 0, .ref q118, .ref q126, .ref q134, .ref q143, .int 0, .ref q152, .null])), (q7, iZ V 8), (q15, iZ V 8), (q23, iZ V 8), (q30, iZ V 4), (q38, iZ V 96), (q46, iZ V 96), (q54, iZ V 12), (q62, iZ V 12), (q70, iB V 24), (q78, iZ V 24), (q86, iZ V 24), (q94, iZ V 24), (q102, iZ V 48), (q110, iZ V 16), (q118, iZ V 50), (q126, iZ V 50), (q134, iZ V 50), (q143, iZ V 150), (q152, iZ V 800)] H := hP
  have hD : va_D A [(h0, .inr (9, [.int 0, .int 0, .ref q7, .ref q15, .ref q23, .ref q30, .ref q38, .ref q46, .ref q54, .ref q62, .ref q70, .ref q78, .ref q86, .ref q94, .ref q102, .ref q110, .int 0, .ref q118, .ref q126, .ref q134, .ref q143, .int 0, .ref q152, .null])), (q7, iZ V 8), (q15, iZ V 8), (q23, iZ V 8), (q30, iZ V 4), (q38, iZ V 96), (q46, iZ V 96), (q54, iZ V 12), (q62, iZ V 12), (q70, iB V 24), (q78, iZ V 24), (q86, iZ V 24), (q94, iZ V 24), (q102, iZ V 48), (q110, iZ V 16), (q118, iZ V 50), (q126, iZ V 50), (q134, iZ V 50), (q143, iZ V 150), (q152, iZ V 800)] := hD
  refine lv_aload_n hx hb dX9_init_157 rfl (lv_at hl 0 rfl) ?_
  refine lv_sipush (v := (nI 650)) hx hb dX9_init_158 (by decide) ?_
  have hkc161 : 20 ≤ 20 := by omega
  have hks161 : 8 + 8 + 8 + 4 + 96 + 96 + 12 + 12 + 24 + 24 + 24 + 24 + 48 + 16 + 50 + 50 + 50 + 150 + 800 + 650 ≤ 8 + 8 + 8 + 4 + 96 + 96 + 12 + 12 + 24 + 24 + 24 + 24 + 48 + 16 + 50 + 50 + 50 + 150 + 800 + 650 := by omega
  refine va_newa (N' := 650) (a0 := (650, .inl fun _ => 0)) hx hb (atype := .int) (hts (.arrayClass .int) (by decide +kernel)) rfl hK.1 hP hD hS hA (fun _ => rfl) (by decide) rfl (Nat.le_of_ble_eq_true rfl) hkc161 hks161 dX9_init_161 (fun q161 cA H hK1 hP hD hS => ?_)
  have hcA := iK_int hK1
  subst hcA
  have hP : va_P V.1 vwCl [(h0, .inr (9, [.int 0, .int 0, .ref q7, .ref q15, .ref q23, .ref q30, .ref q38, .ref q46, .ref q54, .ref q62, .ref q70, .ref q78, .ref q86, .ref q94, .ref q102, .ref q110, .int 0, .ref q118, .ref q126, .ref q134, .ref q143, .int 0, .ref q152, .null])), (q7, iZ V 8), (q15, iZ V 8), (q23, iZ V 8), (q30, iZ V 4), (q38, iZ V 96), (q46, iZ V 96), (q54, iZ V 12), (q62, iZ V 12), (q70, iB V 24), (q78, iZ V 24), (q86, iZ V 24), (q94, iZ V 24), (q102, iZ V 48), (q110, iZ V 16), (q118, iZ V 50), (q126, iZ V 50), (q134, iZ V 50), (q143, iZ V 150), (q152, iZ V 800), (q161, iZ V 650)] H := hP
  have hD : va_D A [(h0, .inr (9, [.int 0, .int 0, .ref q7, .ref q15, .ref q23, .ref q30, .ref q38, .ref q46, .ref q54, .ref q62, .ref q70, .ref q78, .ref q86, .ref q94, .ref q102, .ref q110, .int 0, .ref q118, .ref q126, .ref q134, .ref q143, .int 0, .ref q152, .null])), (q7, iZ V 8), (q15, iZ V 8), (q23, iZ V 8), (q30, iZ V 4), (q38, iZ V 96), (q46, iZ V 96), (q54, iZ V 12), (q62, iZ V 12), (q70, iB V 24), (q78, iZ V 24), (q86, iZ V 24), (q94, iZ V 24), (q102, iZ V 48), (q110, iZ V 16), (q118, iZ V 50), (q126, iZ V 50), (q134, iZ V 50), (q143, iZ V 150), (q152, iZ V 800), (q161, iZ V 650)] := hD
  refine W.widen (k := 20) (n := 8 + 8 + 8 + 4 + 96 + 96 + 12 + 12 + 24 + 24 + 24 + 24 + 48 + 16 + 50 + 50 + 50 + 150 + 800 + 650) (by omega) (by omega) ?_
  refine va_putF (D := V.1) (ci := 9) (v := .ref q161) (ty := .array .int) (C := RX9) (T := TX9) (N := 24) hx hb hts (by decide +kernel) tyX9 tyX9_ok nmX9 hown hK.1 hP hD hS 0 rfl rfl 23 (by decide) (hts (.fieldLink RX9 68 "ProductLineCheckerModel" "errors" "[I") (by decide +kernel)) (fun _ h9 => h9) rfl hin rfl (by decide +kernel) rfl rfl (Nat.le_of_ble_eq_true rfl) dX9_init_163 (fun H locs hP hD hS => ?_)
  have hP : va_P V.1 vwCl [(h0, .inr (9, [.int 0, .int 0, .ref q7, .ref q15, .ref q23, .ref q30, .ref q38, .ref q46, .ref q54, .ref q62, .ref q70, .ref q78, .ref q86, .ref q94, .ref q102, .ref q110, .int 0, .ref q118, .ref q126, .ref q134, .ref q143, .int 0, .ref q152, .ref q161])), (q7, iZ V 8), (q15, iZ V 8), (q23, iZ V 8), (q30, iZ V 4), (q38, iZ V 96), (q46, iZ V 96), (q54, iZ V 12), (q62, iZ V 12), (q70, iB V 24), (q78, iZ V 24), (q86, iZ V 24), (q94, iZ V 24), (q102, iZ V 48), (q110, iZ V 16), (q118, iZ V 50), (q126, iZ V 50), (q134, iZ V 50), (q143, iZ V 150), (q152, iZ V 800), (q161, iZ V 650)] H := hP
  have hD : va_D A [(h0, .inr (9, [.int 0, .int 0, .ref q7, .ref q15, .ref q23, .ref q30, .ref q38, .ref q46, .ref q54, .ref q62, .ref q70, .ref q78, .ref q86, .ref q94, .ref q102, .ref q110, .int 0, .ref q118, .ref q126, .ref q134, .ref q143, .int 0, .ref q152, .ref q161])), (q7, iZ V 8), (q15, iZ V 8), (q23, iZ V 8), (q30, iZ V 4), (q38, iZ V 96), (q46, iZ V 96), (q54, iZ V 12), (q62, iZ V 12), (q70, iB V 24), (q78, iZ V 24), (q86, iZ V 24), (q94, iZ V 24), (q102, iZ V 48), (q110, iZ V 16), (q118, iZ V 50), (q126, iZ V 50), (q134, iZ V 50), (q143, iZ V 150), (q152, iZ V 800), (q161, iZ V 650)] := hD
  exact W.vret hx hb hr (fun t ht hW => ⟨⟨fun k => [q7, q15, q23, q30, q38, q46, q54, q62, q70, q78, q86, q94, q102, q110, q118, q126, q134, q143, q152, q161].getD k 0, rfl, trivial, by rw [ht]; exact hP, hD⟩, hS.F ht⟩) hS.2.2 dX9_init_166


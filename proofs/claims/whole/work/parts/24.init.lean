/-! The constructors. -/
def iZ (V : xV) (n : Nat) : va_E := .inl (V.2.1, n, .inl fun _ => 0)
def iB (V : xV) (n : Nat) : va_E := .inl (V.2.2.1, n, .inl fun _ => 0)
/-- a constructor's contract: from the bare object it makes the cells T, at addresses f -/
def iM (l : Launch) (y : MethodName) (ws : List Cond) (rm : Room) (V : xV) (av : List Value) (W0 : va_W) (sz cells slots : Nat) (T : (Nat → Nat) → va_W) : Prop := Met l y ws rm (va_Pc av (fun U => U.heap.size = sz ∧ va_P V.1 vwCl W0 U.heap ∧ xK V U ∧ va_D (fun _ => True) W0)) (va_Qv (fun _ : Nat → Nat => True) (fun f U => va_P V.1 vwCl (T f) U.heap ∧ va_D (va_A W0 sz) (T f)) (va_A W0 sz)) cells slots (va_A W0 sz)
theorem iK_int {V : xV} {s : State} {cA : ClassId} (h : va_K V.1 vwCl (xty V ++ [(cA, .int)]) s) : cA = V.2.1 := by
  have h1 := (h.2 0 (V.2.1, .int) rfl).2
  have h2 := (h.2 3 (cA, .int) rfl).2
  exact Option.some.inj (h2.symm.trans h1)
theorem iK_bool {V : xV} {s : State} {cA : ClassId} (h : va_K V.1 vwCl (xty V ++ [(cA, .boolean)]) s) : cA = V.2.2.1 := by
  have h1 := (h.2 1 (V.2.2.1, .boolean) rfl).2
  have h2 := (h.2 3 (cA, .boolean) rfl).2
  exact Option.some.inj (h2.symm.trans h1)
theorem nI_ge0 {n : Nat} (h : n < 2 ^ 31) : 0 ≤ nI n := by
  rw [Int32.le_iff_toInt_le, nI_toInt h]
  exact Int.natCast_nonneg n
theorem iRow (l : Launch) (V : xV) (h0 sz N : Nat) (hN : N < 1000) : iM l yX5_init wsX5_init { frames := 1, cells := 1, slots := N, locals := 20 } V [.ref h0, .int (nI N)] [(h0, .inr (5, [.null]))] sz 1 N (fun f => [(h0, .inr (5, [.ref (f 0)])), (f 0, iZ V N)]) := by
  refine Met.ofW (cc := cX5_init) (maxL := 2) (ret := none) (by decide) rfl ?_
  intro p e s m args below meth c s₁ B hml hv
  obtain ⟨rfl, hsz, hP, hK, hD0⟩ := hv
  have hx := B.exec
  have hb := B.bytes
  have hr := B.returns
  have hts := atoms_spec (ws := wsX5_init) B.pre
  have hown : s.vm.findClass RX5 = some m.cls := findClass_of_methodNamed B.named
  have hin : meth.name = "<init>" := (name_of_methodNamed B.named B.method).1
  subst hsz
  have hD := hD0.self (sz := s.heap.size)
  generalize hAe : va_A [(h0, .inr (5, [.null]))] s.heap.size = A at hD ⊢
  have hA : ∀ q : Nat, s.heap.size ≤ q → A q := fun q h => by rw [← hAe]; exact Or.inr h
  have hS : va_S A s.heap s.heap [] := va_S.rf
  have hl := lv_entry ([.ref h0, .int (nI N)]) (n := 2) (Nat.le_of_ble_eq_true rfl)
  rw [lg_entry_eq]
  generalize (lg_sl ([.ref h0, .int (nI N)]) ++ List.replicate (2 - (lg_sl ([.ref h0, .int (nI N)])).length) Slot.unset).toArray = ls at hl ⊢
  have hl : lv_has ls 2 [(0, .ref h0), (1, .int (nI N))] := hl
  refine lv_aload_n hx hb dX5_init_0 rfl (lv_at hl 0 rfl) ?_
  refine W.objInit hx hb hown (hts (.methodLink RX5 3 objectInit) (by decide +kernel)) (hts (.instanceMethod objectInit) (by decide +kernel)) (hts _ (List.mem_cons_of_mem _ (List.mem_append_left _ (List.mem_of_getElem? (i := 2) rfl)))) rfl (by rw [hml]; exact hl.1) rfl dX5_init_1 (Nat.le_of_ble_eq_true rfl) (Nat.le_of_ble_eq_true rfl) ?_
  refine W.eq (g2 := F0 m 4 ls []) rfl ?_
  refine lv_aload_n hx hb dX5_init_4 rfl (lv_at hl 0 rfl) ?_
  refine lv_iload_n hx hb dX5_init_5 rfl (lv_at hl 1 rfl) ?_
  refine lv_if_ge (tgt := 13) hx hb dX5_init_6 rfl (fun _ => ?_) (fun h => absurd (nI_ge0 (by omega)) h)
  refine lv_iload_n hx hb dX5_init_13 rfl (lv_at hl 1 rfl) ?_
  refine va_newa (N' := N) (a0 := (N, .inl fun _ => 0)) hx hb (atype := .int) (hts (.arrayClass .int) (by decide +kernel)) rfl hK.1 hP hD hS hA (fun _ => rfl) (by have := nI_ge0 (n := N) (by omega); exact Int32.not_lt.mpr this) (nI_clamp (by omega)) (by show N * 4 ≤ _; omega) (Nat.le_refl 1) (by show 0 + N ≤ N; omega) dX5_init_14 (fun q cA H1 hK1 hP hD hS => ?_)
  have hcA := iK_int hK1
  subst hcA
  refine va_putF (D := V.1) (ci := 5) (v := .ref q) (ty := .array .int) (C := RX5) (T := TX5) (N := 1) hx hb hts (by decide +kernel) tyX5 tyX5_ok nmX5 hown hK.1 hP hD hS 0 rfl rfl 0 (by decide) (hts (.fieldLink RX5 9 RX5 "numbers" "[I") (by decide +kernel)) (fun _ h9 => h9) rfl hin rfl (by decide +kernel) rfl rfl (Nat.le_of_ble_eq_true rfl) dX5_init_16 (fun H locs hP hD hS => ?_)
  refine W.widen (k := 1) (n := N) (Nat.le_refl 1) (by omega) ?_
  exact W.vret hx hb hr (fun t ht hW => ⟨⟨fun _ => q, rfl, trivial, by rw [ht]; exact hP, hD⟩, hS.F ht⟩) hS.2.2 dX5_init_19

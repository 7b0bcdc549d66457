/-! Methods that throw: the state is left, one cell comes. -/
def xstr : List (Nat × String) := [(47, "no such kind of rule, or no such feature"), (58, "there are 8 rules"), (77, "no condition"), (86, "there are 8 classes"), (96, "no such class"), (102, "there are 12 links"), (114, "no name, no type, or no condition"), (123, "there are 24 members"), (138, "no such method, or no such class"), (147, "there are 50 expressions"), (152, "no such method"), (157, "no such method, or no such parameter"), (160, "no such expression"), (162, "no name"), (177, "no name, or no arguments for this call"), (182, "there are 16 results"), (203, "no such sort"), (216, "no product"), (243, "no such error, or nothing that is told of it")]
def xEs : List String := ["java/lang/IllegalArgumentException", "java/lang/IllegalStateException", "java/lang/IndexOutOfBoundsException"]
def xSs : List String := ["java/lang/RuntimeException", "java/lang/Exception", Bundle.tN]
def xB (En : String) : List Cond := [Cond.castable En En, .declares (Bundle.initS "java/lang/RuntimeException"), .declares (Bundle.initS "java/lang/Exception"), .declares (Bundle.initS Bundle.tN)]
def xT (U : State) : Prop := (∀ q ∈ xstr, ∃ a, vk_R RX8 q.1 q.2 a U) ∧ (∀ En ∈ xEs, va_Nw (.castable En En) U) ∧ (∀ En ∈ xEs, ∀ Nm ∈ xEs, En ≠ Nm → va_Nc En Nm U) ∧ (∀ Y ∈ xSs, va_Nw (.declares (Bundle.initS Y)) U)
theorem xT.warm {s U : State} (hW : s.WarmedH U.vm) (h : xT s) : xT U :=
  ⟨fun q hq => (h.1 q hq).imp (fun a ha => vk_R.warm hW ha), fun En hE => va_Nw.warmC hW (h.2.1 En hE), fun En hE Nm hN hne => va_Nc.moved hW.alike (h.2.2.1 En hE Nm hN hne), fun Y hY => va_Nw.warmD hW (h.2.2.2 Y hY)⟩
theorem xT.same {s U : State} (hv : s.vm = U.vm) (h : xT s) : xT U :=
  ⟨fun q hq => (h.1 q hq).imp (fun a ha => vk_R.same hv.symm ha), fun En hE => va_Nw.same rfl hv (h.2.1 En hE), fun En hE Nm hN hne => va_Nc.moved (by rw [hv]; exact Vm.Alike.refl U.vm) (h.2.2.1 En hE Nm hN hne), fun Y hY => va_Nw.same rfl hv (h.2.2.2 Y hY)⟩
def xZ (A : Nat → Prop) (U : State) (H : Heap) : Prop := vx_Zq Bundle.tN "UNASSIGNED_STACK" Bundle.steD A U H ∧ vx_Zq Bundle.tN "SUPPRESSED_SENTINEL" Bundle.listD A U H
theorem xZ.moved {A : Nat → Prop} {u U : State} {H : Heap} (hvm : u.vm.Alike U.vm) (h : xZ A u H) : xZ A U H := ⟨vx_Zq.moved hvm h.1, vx_Zq.moved hvm h.2⟩
theorem xZ.narrow {A B : Nat → Prop} {U : State} {H : Heap} (h : xZ A U H) (hAB : ∀ q, B q → A q) : xZ B U H := ⟨vx_Zq.narrow h.1 hAB, vx_Zq.narrow h.2 hAB⟩
theorem xZ.kept {A : Nat → Prop} {U : State} {H H1 : Heap} (h : xZ A U H) (hq : ∀ a : Nat, a < H.size → ¬ A a → H1[a]? = H[a]?) : xZ A U H1 := ⟨vx_Zq.kept h.1 hq, vx_Zq.kept h.2 hq⟩
def xPcT (V : xV) (av : List Value) (σ : xS) : Array Value → State → Prop := va_Pc av (fun U => va_P V.1 vwCl (xpl V σ) U.heap ∧ xK V U ∧ xT U ∧ xZ (inR V) U U.heap)
def xXc (V : xV) (σ : xS) (Rx : String → Prop) : String → State → State → Prop := fun En st t => Rx En ∧ En ∈ xEs ∧ va_P V.1 vwCl (xpl V σ) t.heap ∧ va_F (inR V) st t
/-- a method's contract where it may throw: it returns as Rr has it, or throws a class that Rx has, and leaves σx -/
def xMX (l : Launch) (y : MethodName) (ws : List Cond) (rm : Room) (V : xV) (av : List Value) (σ σx : xS) (Rr : Option Value → xS → Prop) (Rx : String → Prop) : Prop := vx_Met l y ws rm (xPcT V av σ) (xOut V Rr) (xXc V σx Rx) 1 6 (inR V)
theorem xPcT_blind {V : xV} {av : List Value} {σ : xS} : FrameBlind (xPcT V av σ) := fun a U g mk h => ⟨h.1, h.2.1, ⟨va_K.moved (u := U) (U := U.calling g mk a) (Vm.Alike.refl U.vm) h.2.2.1.1, xN.same (s := U) (U := U.calling g mk a) rfl h.2.2.1.2⟩, xT.same (s := U) (U := U.calling g mk a) rfl h.2.2.2.1, xZ.moved (u := U) (U := U.calling g mk a) (Vm.Alike.refl U.vm) h.2.2.2.2⟩
section XT
variable {p : Program} {l : Launch} {e : Env} {R : Room} {s : State} {m : MethodId} {args : Array Value} {below : List Frame} {meth : Method} {c : Code} {V : xV} {nL : Nat} {cc : ByteArray} {own : String} {Ts : List Cond} {σ σx : xS} {pc : Nat} {lv : List (Nat × Value)} {st : List Value} {Rr : Option Value → xS → Prop} {Rx : String → Prop}
theorem x_throw (C : XC p s m args c cc nL own Ts V [] (inR V)) (hl : l.stackTraces = false) (hT : xT s) (hZ : xZ (inR V) s s.heap) (hx0 : ∀ x ∈ c.exceptionTable.toList, False) (hlk : meth.locks = false) (ho : own = RX8) {En tx : String} {ik is ic : Nat} (hE : En ∈ xEs) (htx : (is, tx) ∈ xstr) (hfit : Bundle.fit En = true)
    (hk : (Cond.classLink own ik En).before args s = true) (hini : (Cond.initialized En).before args s = true)
    (hat1 : ∀ w ∈ (vx_atS own ic En ["java/lang/RuntimeException", "java/lang/Exception"]).filter goodWord, w ∈ Ts) (hat2 : ∀ w ∈ (vx_atS own ic En ["java/lang/RuntimeException", "java/lang/Exception"]).filter (fun w => !goodWord w), w ∈ xB En)
    (hgood : ∀ w ∈ Cond.classLink own ik En :: Cond.initialized En :: vx_atS own ic En ["java/lang/RuntimeException", "java/lang/Exception"], vx_ot w = true)
    (d0 : decode cc pc = .ok (.new ik, 3)) (d3 : decode cc (pc + 3) = .ok (.dup, 1)) (d4 : decode cc (pc + 4) = .ok (.ldc is, 2)) (d6 : decode cc (pc + 6) = .ok (.invokespecial ic, 3)) (d9 : decode cc (pc + 9) = .ok (.athrow, 1))
    (hR : 5 < R.frames ∧ (st.map fun v => v.category).sum + 82 ≤ R.locals ∧ 1 ≤ R.cells ∧ 6 ≤ R.slots) (hσ : σ = σx) (hRx : Rx En) : X p l e R s m args below meth c V [] (inR V) nL 0 0 (vx_MQ below (xOut V Rr) (xXc V σx Rx) args s 1 6 (inR V)) σ pc lv st := by
  subst ho
  subst hσ
  intro H locs ls h1 h2 h3
  obtain ⟨sa, hsa⟩ := hT.1 _ htx
  refine vx_throwS (A := inR V) C.1 C.2.1 hl C.2.2.2.1 hfit (by decide) hk hini hsa ?_ hgood hZ.1 hZ.2 h2 (h3.1.trans C.2.2.1.symm) d0 d3 d4 d6 d9 (fun x hx => absurd (hx0 x hx) id) (by simpa using hR.1) (by simpa using hR.2.1) (by omega) (by omega) hlk ?_ h2.2.2 (by omega) (by omega)
  · exact vx_hat (fun w hw => C.2.2.2.2.1 w (hat1 w hw)) hat2 (vx_c (va_Nw.use rfl (hT.2.1 En hE)) (vx_c (va_Nw.use rfl (hT.2.2.2 _ (List.mem_cons_self))) (vx_c (va_Nw.use rfl (hT.2.2.2 _ (List.mem_cons_of_mem _ List.mem_cons_self))) (vx_c (va_Nw.use rfl (hT.2.2.2 _ (List.mem_cons_of_mem _ (List.mem_cons_of_mem _ List.mem_cons_self)))) vx_n))))
  · intro t hal hsz hq
    refine ⟨hRx, hE, fun k q hk => ?_, ⟨Nat.le_trans h2.1 hsz, fun q g1 g2 => ?_⟩⟩
    · exact (h1 k q hk).kept (hq q.1 (h1 k q hk).lt)
    · rw [hq q (Nat.lt_of_lt_of_le g1 h2.1)]; exact h2.2.1 q g1 g2
theorem x_iretT (C : XC p s m args c cc nL own Ts V [] (inR V)) {v : Int32} (hr : meth.sig.returnType = some .int) (hlk : meth.locks = false) (d : decode cc pc = .ok (.ireturn, 1)) (h : Rr (some (.int v)) σ) : X p l e R s m args below meth c V [] (inR V) nL 0 0 (vx_MQ below (xOut V Rr) (xXc V σx Rx) args s 1 6 (inR V)) σ pc lv [.int v] := fun H locs ls h1 h2 h3 =>
  W.widen (k := 1) (n := 6) (by omega) (by omega) (vx_ret (W.iret C.1 C.2.1 hr (fun t ht hW => ⟨⟨_, σ, rfl, h, by rw [ht]; exact h1⟩, h2.F ht⟩) h2.2.2 d hlk))
theorem x_zretT (C : XC p s m args c cc nL own Ts V [] (inR V)) (b : Bool) {v : Int32} (hv : v = bI b) (hr : meth.sig.returnType = some .boolean) (hlk : meth.locks = false) (d : decode cc pc = .ok (.ireturn, 1)) (h : Rr (some (.int (bI b))) σ) : X p l e R s m args below meth c V [] (inR V) nL 0 0 (vx_MQ below (xOut V Rr) (xXc V σx Rx) args s 1 6 (inR V)) σ pc lv [.int v] := by
  subst hv
  exact fun H locs ls h1 h2 h3 => W.widen (k := 1) (n := 6) (by omega) (by omega) (vx_ret (W.zret C.1 C.2.1 hr (bI_nar b) (fun t ht hW => ⟨⟨_, σ, rfl, h, by rw [ht]; exact h1⟩, h2.F ht⟩) h2.2.2 d hlk))
/-- such a contract out of its walk -/
theorem xMX_of {y : MethodName} {ws ws' : List Cond} {rm : Room} {av : List Value} {maxL : Nat} {ret : Option FieldType} (lv0 : List (Nat × Value)) (hV : xInj V) (hy : plainName y.cls = true) (hw : ws = Cond.code y cc maxL ret :: ws') (hlv : lv_args 0 av = lv0) (hlen : (lg_sl av).length ≤ maxL)
    (body : ∀ p e s m args below meth c, XC p s m args c cc maxL y.cls ws V [] (inR V) → meth.sig.returnType = ret → meth.locks = false → (∀ x ∈ c.exceptionTable.toList, False) → xT s → xZ (inR V) s s.heap → X p l e (headSpec ws rm).room s m args below meth c V [] (inR V) maxL 0 0 (vx_MQ below (xOut V Rr) (xXc V σx Rx) args s 1 6 (inR V)) σ 0 lv0 []) : xMX l y ws rm V av σ σx Rr Rx := by
  refine vx_ofW (cc := cc) (maxL := maxL) (ret := ret) hy hw ?_
  intro p e s m args below meth c s₁ B hml hx0 hv
  obtain ⟨rfl, hP, hK, hT, hZ⟩ := hv
  have C : XC p s m av.toArray c cc maxL y.cls ws V [] (inR V) := ⟨B.exec, B.bytes, hml, findClass_of_methodNamed B.named, atoms_spec (ws := ws) B.pre, hK, fun σ => xD_of hV σ, fun q h => h⟩
  have hl := lv_entry av (n := maxL) hlen
  rw [hlv] at hl
  rw [lg_entry_eq]
  exact body p e s m av.toArray below meth c C B.returns B.notSynchronized hx0 hT hZ s.heap [] _ (by rw [List.nil_append]; exact hP) va_S.rf hl
end XT

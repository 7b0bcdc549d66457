/-! The law's layer: the script, calls with the script, joins with a property. -/
/-- the world and the script -/
def xPcS (V : xV) (b L : Nat) (xs : Nat → Int32) (av : List Value) (σ : xS) : Array Value → State → Prop := va_Pc av (fun U => va_P V.1 vwCl (xpl V σ) U.heap ∧ xK V U ∧ va_X b L xs U U.heap)
/-- a contract of a method that reads the script -/
def xMS (l : Launch) (y : MethodName) (ws : List Cond) (rm : Room) (V : xV) (b L : Nat) (xs : Nat → Int32) (av : List Value) (σ : xS) (Rr : Option Value → xS → Prop) : Prop := Met l y ws rm (xPcS V b L xs av σ) (xOut V Rr) 0 0 (inR V)
theorem xPcS_blind {V : xV} {b L : Nat} {xs : Nat → Int32} {av : List Value} {σ : xS} : FrameBlind (xPcS V b L xs av σ) := fun a U g mk h => ⟨h.1, h.2.1, ⟨va_K.moved (u := U) (U := U.calling g mk a) (Vm.Alike.refl U.vm) h.2.2.1.1, xN.same (s := U) (U := U.calling g mk a) rfl h.2.2.1.2⟩, va_X.moved (u := U) (U := U.calling g mk a) (Vm.Alike.refl U.vm) h.2.2.2⟩
section LR
variable {p : Program} {l : Launch} {e : Env} {R : Room} {s : State} {m : MethodId} {args : Array Value} {below : List Frame} {meth : Method} {c : Code} {V : xV} {E : va_W} {A : Nat → Prop} {nL cells slots : Nat} {Q : State → Prop} {cc : ByteArray} {own : String} {Ts : List Cond}
variable {σ : xS} {pc : Nat} {lv : List (Nat × Value)} {st : List Value}
theorem x_aref (C : XC p s m args c cc nL own Ts V E A) {i a : Nat} (d : decode cc pc = .ok (.aload i, 2)) (q : Nat) (hq : lv[q]? = some (i, .ref a)) (kk : X p l e R s m args below meth c V E A nL cells slots Q σ (pc + 2) lv (.ref a :: st)) : X p l e R s m args below meth c V E A nL cells slots Q σ pc lv st := fun H locs ls h1 h2 h3 => lv_aload C.1 C.2.1 d (lv_at h3 q hq) (kk H locs ls h1 h2 h3)
theorem x_arefn (C : XC p s m args c cc nL own Ts V E A) {k : Fin 4} {i a : Nat} (d : decode cc pc = .ok (.aload_n k, 1)) (hi : (k : Nat) = i) (q : Nat) (hq : lv[q]? = some (i, .ref a)) (kk : X p l e R s m args below meth c V E A nL cells slots Q σ (pc + 1) lv (.ref a :: st)) : X p l e R s m args below meth c V E A nL cells slots Q σ pc lv st := fun H locs ls h1 h2 h3 => lv_aload_n C.1 C.2.1 d hi (lv_at h3 q hq) (kk H locs ls h1 h2 h3)
theorem x_astR (C : XC p s m args c cc nL own Ts V E A) {i a : Nat} (lv' : List (Nat × Value)) (d : decode cc pc = .ok (.astore i, 2)) (hn : i < nL) (hl : (i, Value.ref a) :: lv.filter (fun q => !(q.1 == i) && !(q.1 + 1 == i && q.2.category == 2)) = lv') (kk : X p l e R s m args below meth c V E A nL cells slots Q σ (pc + 2) lv' st) : X p l e R s m args below meth c V E A nL cells slots Q σ pc lv (.ref a :: st) := fun H locs ls h1 h2 h3 => lv_astore (lv' := lv') C.1 C.2.1 d h3 hn hl (fun ls' h => kk H locs ls' h1 h2 h)
theorem x_astRn (C : XC p s m args c cc nL own Ts V E A) {k : Fin 4} {i a : Nat} (lv' : List (Nat × Value)) (d : decode cc pc = .ok (.astore_n k, 1)) (hi : (k : Nat) = i) (hn : i < nL) (hl : (i, Value.ref a) :: lv.filter (fun q => !(q.1 == i) && !(q.1 + 1 == i && q.2.category == 2)) = lv') (kk : X p l e R s m args below meth c V E A nL cells slots Q σ (pc + 1) lv' st) : X p l e R s m args below meth c V E A nL cells slots Q σ pc lv (.ref a :: st) := fun H locs ls h1 h2 h3 => lv_astore_n (lv' := lv') C.1 C.2.1 d hi h3 hn hl (fun ls' h => kk H locs ls' h1 h2 h)
theorem x_widen {k n : Nat} (h1 : cells ≤ k) (h2 : slots ≤ n) (kk : X p l e R s m args below meth c V E A nL k n Q σ pc lv st) : X p l e R s m args below meth c V E A nL cells slots Q σ pc lv st := fun H locs ls g1 g2 g3 => W.widen h1 h2 (kk H locs ls g1 g2 g3)
/-- the script -/
theorem x_sld (C : XC p s m args c cc nL own Ts V E A) {b L : Nat} {xs : Nat → Int32} (hX : va_X b L xs s s.heap) (hbl : b < s.heap.size) (hbA : ¬ A b) {i : Int32} (hi : vp_in i L) (d : decode cc pc = .ok (.iaload, 1)) (kk : X p l e R s m args below meth c V E A nL cells slots Q σ (pc + 1) lv (.int (xs i.toNatClampNeg) :: st)) : X p l e R s m args below meth c V E A nL cells slots Q σ pc lv (.int i :: .ref b :: st) := fun H locs ls h1 h2 h3 =>
  va_sld C.1 C.2.1 hX hbl hbA h2 hi d (kk H locs ls h1 h2 h3)
theorem x_slen (C : XC p s m args c cc nL own Ts V E A) {b L : Nat} {xs : Nat → Int32} (hX : va_X b L xs s s.heap) (hbl : b < s.heap.size) (hbA : ¬ A b) (d : decode cc pc = .ok (.arraylength, 1)) (kk : X p l e R s m args below meth c V E A nL cells slots Q σ (pc + 1) lv (.int (nI L) :: st)) : X p l e R s m args below meth c V E A nL cells slots Q σ pc lv (.ref b :: st) := fun H locs ls h1 h2 h3 =>
  va_slen C.1 C.2.1 hX hbl hbA h2 d (kk H locs ls h1 h2 h3)
/-- a call of a method that reads the script -/
theorem x_callSS (C : XC p s m args c cc nL own Ts V E A) {b L : Nat} {xs : Nat → Int32} (hX : va_X b L xs s s.heap) (hbl : b < s.heap.size) (hbA : ¬ A b) {y : MethodName} {bytes : ByteArray} {maxL n index : Nat} {ret : Option FieldType} {ws : List Cond} {rm : Room} {Rr : Option Value → xS → Prop} {stk : List Value} (As : List Value) (M : xMS l y ws rm V b L xs As σ Rr) (cw : CallB R s args own index y bytes maxL ret ws rm 0 0 n ∧ (Cond.static y).before args s = true) (hn : As.length = n) (hst : stk = As.reverse ++ st) (hW : (st.map fun v => v.category).sum ≤ 8) (d : decode cc pc = .ok (.invokestatic index, 3)) (hcs : cells + 0 ≤ R.cells ∧ slots + 0 ≤ R.slots) (kk : ∀ v σ', Rr v σ' → X p l e R s m args below meth c V E A nL cells slots Q σ' (pc + 3) lv (v.toList ++ st)) : X p l e R s m args below meth c V E A nL cells slots Q σ pc lv stk := by
  subst hst
  intro H locs ls h1 h2 h3 T hT9 X9
  have hr : va_Run p l e R s m args below meth c H locs cells slots 0 0 (F0 m pc ls (As.reverse ++ st)) st (xOut V Rr As.toArray) (inR V) :=
    va_runS ⟨C.1, C.2.1, C.2.2.1, C.2.2.2.1, C.2.2.2.2.1⟩ M cw ⟨xPcS_blind, fun U hU hW => ⟨rfl, by rw [hU]; exact xP_of h1, C.2.2.2.2.2.1.warm hW, by rw [hU]; exact (hX.kept (h2.2.1 b hbl hbA)).moved hW.alike⟩⟩ rfl hn h3.1 rfl (lv_room hW) d hcs
  obtain ⟨v, st₀, t, T', L9, h0, X', hL, e1, e2, ⟨⟨v', σ', hv, hR, hb⟩, hz, hk⟩, st9⟩ := hr T hT9 X9
  cases hv
  rw [h0] at hz hk
  have hE : va_P V.1 vwCl (E ++ xpl V σ') T'.heap := by
    rw [e1]
    refine va_P.app (fun k q hq => ?_) hb
    have hq9 : (E ++ xpl V σ)[k]? = some q := by
      rw [List.getElem?_append_left (List.getElem?_eq_some_iff.mp hq).1]; exact hq
    have hl := (h1 k q hq9).lt
    refine (h1 k q hq9).kept (hk q.1 hl (fun hin => ?_))
    obtain ⟨j, hj, he⟩ := hin
    have := (C.2.2.2.2.2.2.1 σ).1 k (E.length + j) q _ hq9 (xpl_at hj) he
    have hkl := (List.getElem?_eq_some_iff.mp hq).1
    omega
  obtain ⟨t2, a1, b1⟩ := kk v σ' hR T'.heap (locs ++ L9) ls hE
    ⟨Nat.le_trans h2.1 (by rw [e1]; exact hz), fun q g1 g2 => by rw [e1, hk q (Nat.lt_of_lt_of_le g1 h2.1) (fun z => g2 (C.2.2.2.2.2.2.2 q z))]; exact h2.2.1 q g1 g2, fun q hq => by
      rcases List.mem_append.mp hq with h | h
      · exact h2.2.2 q h
      · exact C.2.2.2.2.2.2.2 _ (hL q h)⟩ h3 T' rfl X'
  exact ⟨t2, st9 t2 a1, b1⟩
/-- many roads to one place, by a property of a number -/
theorem x_jP {P : Int32 → Prop} (pc2 : Nat) (lv2 : Int32 → List (Nat × Value)) (st2 : Int32 → List Value) (J : ∀ y, P y → X p l e R s m args below meth c V E A nL cells slots Q σ pc2 (lv2 y) (st2 y)) (k : (∀ y, P y → X p l e R s m args below meth c V E A nL cells slots Q σ pc2 (lv2 y) (st2 y)) → X p l e R s m args below meth c V E A nL cells slots Q σ pc lv st) : X p l e R s m args below meth c V E A nL cells slots Q σ pc lv st := k J
/-- the same, by a property of the state and a number -/
theorem x_jS {P : xS → Int32 → Prop} (pc2 : Nat) (lv2 : Int32 → List (Nat × Value)) (st2 : Int32 → List Value) (J : ∀ u y, P u y → X p l e R s m args below meth c V E A nL cells slots Q u pc2 (lv2 y) (st2 y)) (k : (∀ u y, P u y → X p l e R s m args below meth c V E A nL cells slots Q u pc2 (lv2 y) (st2 y)) → X p l e R s m args below meth c V E A nL cells slots Q σ pc lv st) : X p l e R s m args below meth c V E A nL cells slots Q σ pc lv st := k J
end LR
section LS
variable {cc : ByteArray} {V : xV} {σ : xS} {l : Launch} {Rr : Option Value → xS → Prop}
/-- such a contract out of its walk -/
theorem xMS_of {y : MethodName} {ws ws' : List Cond} {rm : Room} {b L : Nat} {xs : Nat → Int32} {av : List Value} {maxL : Nat} {ret : Option FieldType} (lv0 : List (Nat × Value)) (hV : xInj V) (hy : plainName y.cls = true) (hw : ws = Cond.code y cc maxL ret :: ws') (hlv : lv_args 0 av = lv0) (hlen : (lg_sl av).length ≤ maxL)
    (body : ∀ p e s m args below meth c, XC p s m args c cc maxL y.cls ws V [] (inR V) → va_X b L xs s s.heap → b < s.heap.size → meth.sig.returnType = ret → meth.locks = false → X p l e (headSpec ws rm).room s m args below meth c V [] (inR V) maxL 0 0 (MQ below (xOut V Rr) args s 0 0 (inR V)) σ 0 lv0 []) : xMS l y ws rm V b L xs av σ Rr := by
  refine Met.ofW (cc := cc) (maxL := maxL) (ret := ret) hy hw ?_
  intro p e s m args below meth c s₁ B hml hv
  obtain ⟨rfl, hP, hK, hX⟩ := hv
  have C : XC p s m av.toArray c cc maxL y.cls ws V [] (inR V) := ⟨B.exec, B.bytes, hml, findClass_of_methodNamed B.named, atoms_spec (ws := ws) B.pre, hK, fun σ => xD_of hV σ, fun q h => h⟩
  have hl := lv_entry av (n := maxL) hlen
  rw [hlv] at hl
  rw [lg_entry_eq]
  have hbl : b < s.heap.size := by
    obtain ⟨scr, h1, -⟩ := hX
    exact (Array.getElem?_eq_some_iff.mp h1).1
  exact body p e s m av.toArray below meth c C hX hbl B.returns B.notSynchronized s.heap [] _ (by rw [List.nil_append]; exact hP) va_S.rf hl
end LS

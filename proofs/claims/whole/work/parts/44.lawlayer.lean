/-! The law's layer: its long[1], calls that throw, the script. -/
def oc (V : xV) (o : Nat) (g : Nat → Int64) : Nat × va_E := (o, .inl (V.2.2.2.1, 1, .inr (.inl g)))
def inO (V : xV) (o : Nat) (q : Nat) : Prop := inR V q ∨ q = o
def xWPc (V : xV) (o : Nat) (g : Nat → Int64) (av : List Value) (σ : xS) : Array Value → State → Prop := va_Pc av (fun U => va_P V.1 vwCl (oc V o g :: xpl V σ) U.heap ∧ xK V U ∧ xT U ∧ xZ (inO V o) U U.heap)
def xWQ (V : xV) (o : Nat) (Rr : Int32 → xS → (Nat → Int64) → Prop) : Array Value → State → Outcome → State → Prop := fun _ st oc' t => (∃ (v : Int32) (σ' : xS) (g' : Nat → Int64), oc' = .returned (some (.int v)) ∧ Rr v σ' g' ∧ va_P V.1 vwCl (oc V o g' :: xpl V σ') t.heap) ∧ va_F (inO V o) st t
/-- a wrapper's contract: it returns a code, and leaves the world and the long[1] as Rr has them -/
def xW (l : Launch) (y : MethodName) (ws : List Cond) (rm : Room) (V : xV) (o : Nat) (g : Nat → Int64) (av : List Value) (σ : xS) (Rr : Int32 → xS → (Nat → Int64) → Prop) : Prop := vx_Met l y ws rm (xWPc V o g av σ) (xWQ V o Rr) (fun _ _ _ => False) 1 6 (inO V o)
theorem xWPc_blind {V : xV} {o : Nat} {g : Nat → Int64} {av : List Value} {σ : xS} : FrameBlind (xWPc V o g av σ) := fun a U gg mk h => ⟨h.1, h.2.1, ⟨va_K.moved (u := U) (U := U.calling gg mk a) (Vm.Alike.refl U.vm) h.2.2.1.1, xN.same (s := U) (U := U.calling gg mk a) rfl h.2.2.1.2⟩, xT.same (s := U) (U := U.calling gg mk a) rfl h.2.2.2.1, xZ.moved (u := U) (U := U.calling gg mk a) (Vm.Alike.refl U.vm) h.2.2.2.2⟩
theorem xD_oc {V : xV} {o : Nat} (A : Nat → Prop) (hV : xInj V) (hO : ∀ k, k < 108 → xad V k ≠ o) (hA : ∀ q, inO V o q → A q) (g : Nat → Int64) (σ : xS) : va_D A ([oc V o g] ++ xpl V σ) := by
  have D := xD_of hV σ
  rw [List.nil_append] at D
  have k0 : ∀ (k : Nat) (q : Nat × va_E), (xpl V σ)[k]? = some q → q.1 ≠ o ∧ inR V q.1 := fun k q hq => by
    obtain ⟨j, hj, e⟩ := D.2 k q hq
    exact ⟨by rw [e]; exact hO j hj, j, hj, e⟩
  refine ⟨fun i j p q hi hj he => ?_, fun k q hq => ?_⟩
  · cases i with
    | zero =>
      cases j with
      | zero => rfl
      | succ j =>
        have hp : p = oc V o g := (Option.some.inj hi).symm
        exact absurd (by rw [← he, hp]; rfl) (k0 j q hj).1
    | succ i =>
      cases j with
      | zero =>
        have hp : q = oc V o g := (Option.some.inj hj).symm
        exact absurd (by rw [he, hp]; rfl) (k0 i p hi).1
      | succ j => rw [D.1 i j p q hi hj he]
  · cases k with
    | zero =>
      have hp : q = oc V o g := (Option.some.inj hq).symm
      rw [hp]; exact hA _ (Or.inr rfl)
    | succ k => exact hA _ (Or.inl (k0 k q hq).2)
section LR
variable {p : Program} {l : Launch} {e : Env} {R : Room} {s : State} {m : MethodId} {args : Array Value} {below : List Frame} {meth : Method} {c : Code} {V : xV} {E : va_W} {A : Nat → Prop} {nL cells slots : Nat} {Q : State → Prop} {cc : ByteArray} {own : String} {Ts : List Cond}
variable {σ : xS} {pc : Nat} {lv : List (Nat × Value)} {st : List Value}
theorem XC_oc {o : Nat} {g : Nat → Int64} (C : XC p s m args c cc nL own Ts V [oc V o g] A) (hV : xInj V) (hO : ∀ k, k < 108 → xad V k ≠ o) (hA : ∀ q, inO V o q → A q) (g' : Nat → Int64) : XC p s m args c cc nL own Ts V [oc V o g'] A := ⟨C.1, C.2.1, C.2.2.1, C.2.2.2.1, C.2.2.2.2.1, C.2.2.2.2.2.1, fun σ => xD_oc A hV hO hA g' σ, C.2.2.2.2.2.2.2⟩
theorem x_aref (C : XC p s m args c cc nL own Ts V E A) {i a : Nat} (d : decode cc pc = .ok (.aload i, 2)) (q : Nat) (hq : lv[q]? = some (i, .ref a)) (kk : X p l e R s m args below meth c V E A nL cells slots Q σ (pc + 2) lv (.ref a :: st)) : X p l e R s m args below meth c V E A nL cells slots Q σ pc lv st := fun H locs ls h1 h2 h3 => lv_aload C.1 C.2.1 d (lv_at h3 q hq) (kk H locs ls h1 h2 h3)
theorem x_arefn (C : XC p s m args c cc nL own Ts V E A) {k : Fin 4} {i a : Nat} (d : decode cc pc = .ok (.aload_n k, 1)) (hi : (k : Nat) = i) (q : Nat) (hq : lv[q]? = some (i, .ref a)) (kk : X p l e R s m args below meth c V E A nL cells slots Q σ (pc + 1) lv (.ref a :: st)) : X p l e R s m args below meth c V E A nL cells slots Q σ pc lv st := fun H locs ls h1 h2 h3 => lv_aload_n C.1 C.2.1 d hi (lv_at h3 q hq) (kk H locs ls h1 h2 h3)
theorem x_astR (C : XC p s m args c cc nL own Ts V E A) {i a : Nat} (lv' : List (Nat × Value)) (d : decode cc pc = .ok (.astore i, 2)) (hn : i < nL) (hl : (i, Value.ref a) :: lv.filter (fun q => !(q.1 == i) && !(q.1 + 1 == i && q.2.category == 2)) = lv') (kk : X p l e R s m args below meth c V E A nL cells slots Q σ (pc + 2) lv' st) : X p l e R s m args below meth c V E A nL cells slots Q σ pc lv (.ref a :: st) := fun H locs ls h1 h2 h3 => lv_astore (lv' := lv') C.1 C.2.1 d h3 hn hl (fun ls' h => kk H locs ls' h1 h2 h)
theorem x_astRn (C : XC p s m args c cc nL own Ts V E A) {k : Fin 4} {i a : Nat} (lv' : List (Nat × Value)) (d : decode cc pc = .ok (.astore_n k, 1)) (hi : (k : Nat) = i) (hn : i < nL) (hl : (i, Value.ref a) :: lv.filter (fun q => !(q.1 == i) && !(q.1 + 1 == i && q.2.category == 2)) = lv') (kk : X p l e R s m args below meth c V E A nL cells slots Q σ (pc + 1) lv' st) : X p l e R s m args below meth c V E A nL cells slots Q σ pc lv (.ref a :: st) := fun H locs ls h1 h2 h3 => lv_astore_n (lv' := lv') C.1 C.2.1 d hi h3 hn hl (fun ls' h => kk H locs ls' h1 h2 h)
theorem x_last {o : Nat} {g : Nat → Int64} {x : Int64} (C : XC p s m args c cc nL own Ts V [oc V o g] A) (d : decode cc pc = .ok (.lastore, 1)) (kk : X p l e R s m args below meth c V [oc V o (vp_updL g 0 x)] A nL cells slots Q σ (pc + 1) lv st) : X p l e R s m args below meth c V [oc V o g] A nL cells slots Q σ pc lv (.long x :: .int 0 :: .ref o :: st) := fun H locs ls h1 h2 h3 =>
  va_last (D := V.1) (tys := xty V) C.1 C.2.1 C.2.2.2.2.2.1.1 h1 (C.2.2.2.2.2.2.1 σ) h2 0 2 (cA := V.2.2.2.1) (n := 1) (f := g) rfl rfl (vp_in_nI (n := 0) (by decide) (by decide)) d (fun H1 l1 g1 _ g3 => kk H1 l1 ls g1 g3 h3)
theorem x_lald {o : Nat} {g : Nat → Int64} (C : XC p s m args c cc nL own Ts V [oc V o g] A) (d : decode cc pc = .ok (.laload, 1)) (kk : X p l e R s m args below meth c V [oc V o g] A nL cells slots Q σ (pc + 1) lv (.long (g 0) :: st)) : X p l e R s m args below meth c V [oc V o g] A nL cells slots Q σ pc lv (.int 0 :: .ref o :: st) := fun H locs ls h1 h2 h3 =>
  va_lald (D := V.1) (tys := xty V) C.1 C.2.1 C.2.2.2.2.2.1.1 h1 0 2 (cA := V.2.2.2.1) (n := 1) (f := g) rfl rfl (vp_in_nI (n := 0) (by decide) (by decide)) d (kk H locs ls h1 h2 h3)
theorem x_lcmp (C : XC p s m args c cc nL own Ts V E A) {x y : Int64} (d : decode cc pc = .ok (.lcmp, 1)) (kk : X p l e R s m args below meth c V E A nL cells slots Q σ (pc + 1) lv (.int (lg_cmp x y) :: st)) : X p l e R s m args below meth c V E A nL cells slots Q σ pc lv (.long y :: .long x :: st) := fun H locs ls h1 h2 h3 => W.lcmp C.1 C.2.1 d (kk H locs ls h1 h2 h3)
theorem lg_cmp_s (x : Int64) : lg_cmp x x = 0 := by
  unfold lg_cmp
  rw [if_neg (fun h => Int64.lt_irrefl h), if_pos rfl]
theorem x_dcmp (C : XC p s m args c cc nL own Ts V E A) {x y : UInt64} {op : CmpOp} (d : decode cc pc = .ok (.dcmp op, 1)) (kk : X p l e R s m args below meth c V E A nL cells slots Q σ (pc + 1) lv (.int (Op.cmpValue (FP.dcmp x y) op) :: st)) : X p l e R s m args below meth c V E A nL cells slots Q σ pc lv (.double y :: .double x :: st) := fun H locs ls h1 h2 h3 => lv_dcmp C.1 C.2.1 d (kk H locs ls h1 h2 h3)
theorem x_widen {k n : Nat} (h1 : cells ≤ k) (h2 : slots ≤ n) (kk : X p l e R s m args below meth c V E A nL k n Q σ pc lv st) : X p l e R s m args below meth c V E A nL cells slots Q σ pc lv st := fun H locs ls g1 g2 g3 => W.widen h1 h2 (kk H locs ls g1 g2 g3)
/-- the script -/
theorem x_sld (C : XC p s m args c cc nL own Ts V E A) {b L : Nat} {xs : Nat → Int32} (hX : va_X b L xs s s.heap) (hbl : b < s.heap.size) (hbA : ¬ A b) {i : Int32} (j : Nat) (hi : i = nI j) (hj : j < L) (hL : L < 2 ^ 31) (d : decode cc pc = .ok (.iaload, 1)) (kk : X p l e R s m args below meth c V E A nL cells slots Q σ (pc + 1) lv (.int (xs j) :: st)) : X p l e R s m args below meth c V E A nL cells slots Q σ pc lv (.int i :: .ref b :: st) := fun H locs ls h1 h2 h3 => by
  subst hi
  refine va_sld C.1 C.2.1 hX hbl hbA h2 (vp_in_nI hj hL) d ?_
  rw [nI_clamp (by omega)]
  exact kk H locs ls h1 h2 h3
theorem x_slen (C : XC p s m args c cc nL own Ts V E A) {b L : Nat} {xs : Nat → Int32} (hX : va_X b L xs s s.heap) (hbl : b < s.heap.size) (hbA : ¬ A b) (d : decode cc pc = .ok (.arraylength, 1)) (kk : X p l e R s m args below meth c V E A nL cells slots Q σ (pc + 1) lv (.int (nI L) :: st)) : X p l e R s m args below meth c V E A nL cells slots Q σ pc lv (.ref b :: st) := fun H locs ls h1 h2 h3 =>
  va_slen C.1 C.2.1 hX hbl hbA h2 d (kk H locs ls h1 h2 h3)
/-- a throw under way, over the world σ -/
def XTh (p : Program) (l : Launch) (e : Env) (R : Room) (s : State) (m : MethodId) (args : Array Value) (below : List Frame) (meth : Method) (c : Code) (V : xV) (E : va_W) (A : Nat → Prop) (nL cells slots : Nat) (Q : State → Prop) (σ : xS) (pc : Nat) (lv : List (Nat × Value)) (rest : List Value) (En : String) : Prop :=
  ∀ (H : Heap) (locs : List Loc) (ls : Array Slot) (ce : Cell) (q9 : Addr), va_P V.1 vwCl (E ++ xpl V σ) H → va_S A s.heap H locs → lv_has ls nL lv → H[q9]? = some ce → ce.vm = .none → s.vm.findClass En = some ce.cls → vx_W p l e R s m args below meth c H locs cells slots Q (F0 m pc ls rest) q9
theorem xE_kept (C : XC p s m args c cc nL own Ts V E A) {H H1 : Heap} {σ' : xS} (h1 : va_P V.1 vwCl (E ++ xpl V σ) H) (hk : ∀ q : Nat, q < H.size → ¬ inR V q → H1[q]? = H[q]?) (hb : va_P V.1 vwCl (xpl V σ') H1) : va_P V.1 vwCl (E ++ xpl V σ') H1 := by
  refine va_P.app (fun k q hq => ?_) hb
  have hq9 : (E ++ xpl V σ)[k]? = some q := by
    rw [List.getElem?_append_left (List.getElem?_eq_some_iff.mp hq).1]; exact hq
  have hl := (h1 k q hq9).lt
  refine (h1 k q hq9).kept (hk q.1 hl (fun hin => ?_))
  obtain ⟨j, hj, he⟩ := hin
  have := (C.2.2.2.2.2.2.1 σ).1 k (E.length + j) q _ hq9 (xpl_at hj) he
  have hkl := (List.getElem?_eq_some_iff.mp hq).1
  omega
theorem xS_kept {H H1 : Heap} {locs L : List Loc} {F : Nat → Prop} (hF : ∀ q, F q → A q) (h2 : va_S A s.heap H locs) (hz : H.size ≤ H1.size) (hk : ∀ q : Nat, q < H.size → ¬ F q → H1[q]? = H[q]?) (hL : ∀ z ∈ L, F z.base) : va_S A s.heap H1 (locs ++ L) :=
  ⟨Nat.le_trans h2.1 hz, fun q g1 g2 => by rw [hk q (Nat.lt_of_lt_of_le g1 h2.1) (fun z => g2 (hF q z))]; exact h2.2.1 q g1 g2, fun q hq => by
    rcases List.mem_append.mp hq with h | h
    · exact h2.2.2 q h
    · exact hF _ (hL q h)⟩
theorem x_goT {st0 rest : List Value} {a : Array Value} {Rr : Option Value → xS → Prop} {Rx : String → Prop} {σx : xS} (C : XC p s m args c cc nL own Ts V E A)
    (hr : ∀ (H : Heap) (locs : List Loc) (ls : Array Slot), va_P V.1 vwCl (E ++ xpl V σ) H → va_S A s.heap H locs → lv_has ls nL lv → vx_Run p l e R s m args below meth c H locs cells slots 1 6 (F0 m pc ls st0) rest (xOut V Rr a) (xXc V σx Rx) (inR V))
    (kk : ∀ v σ', Rr v σ' → X p l e R s m args below meth c V E A nL (cells + 1) (slots + 6) Q σ' (pc + 3) lv (v.toList ++ rest))
    (kx : ∀ En, Rx En → En ∈ xEs → XTh p l e R s m args below meth c V E A nL (cells + 1) (slots + 6) Q σx pc lv rest En) : X p l e R s m args below meth c V E A nL cells slots Q σ pc lv st0 := by
  intro H locs ls h1 h2 h3 T hT X9
  rcases hr H locs ls h1 h2 h3 T hT X9 with ⟨v, st₀, t, T', L, h0, X', hL, e1, e2, ⟨⟨v', σ', hv, hR, hb⟩, hz, hk⟩, st9⟩ | ⟨q, st₀, t, T', L, En, ce, h0, X', hL, e1, e2, ⟨hRx, hE, hb, hz, hk⟩, hce, hcv, hcl, st9⟩
  · cases hv
    rw [h0] at hz hk
    have hP' := xE_kept C h1 hk hb
    rw [← e1] at hP' hz hk
    obtain ⟨t2, a1, b1⟩ := kk v σ' hR T'.heap (locs ++ L) ls hP' (xS_kept (fun q h => C.2.2.2.2.2.2.2 q h) h2 hz hk hL) h3 T' rfl X'
    exact ⟨t2, st9 t2 a1, b1⟩
  · rw [h0] at hz hk
    have hP' := xE_kept C h1 hk hb
    rw [← e1] at hP' hz hk hce
    obtain ⟨t2, a1, b1⟩ := kx En hRx hE T'.heap (locs ++ L) ls ce q hP' (xS_kept (fun q h => C.2.2.2.2.2.2.2 q h) h2 hz hk hL) h3 hce hcv hcl T' rfl X'
    exact ⟨t2, st9.trans a1, b1⟩
theorem xZ_at {F : Nat → Prop} (hF : ∀ q, F q → A q) (hZ : xZ A s s.heap) {H : Heap} {locs : List Loc} (h2 : va_S A s.heap H locs) {U : State} (hU : U.heap = H) (hW : s.WarmedH U.vm) : xZ F U U.heap := by
  rw [hU]
  exact ((hZ.kept (H1 := H) (fun a ha hna => h2.2.1 a ha hna)).narrow hF).moved hW.alike
/-- a call of a method that may throw -/
theorem x_callVT (C : XC p s m args c cc nL own Ts V E A) (hT : xT s) (hZ : xZ A s s.heap) {y : MethodName} {bytes : ByteArray} {maxL n index : Nat} {ret : Option FieldType} {ws : List Cond} {rm : Room} {Rr : Option Value → xS → Prop} {Rx : String → Prop} {σx : xS} {stk : List Value} {r ci : Nat} {fl : List (Nat ⊕ Nat)} {Cn : String} {T : u_T} {N : Nat} (hs : shp r = .inr (ci, fl)) (hr : r < 108) (hc : vwCl[ci]? = some (Cn, T, N)) (As : List Value) (M : xMX l y ws rm V (ra V r :: As) σ σx Rr Rx) (cw : CallW R s args own Cn index y bytes maxL ret ws rm 1 6 n) (hn : As.length = n) (hst : stk = As.reverse ++ ra V r :: st) (hW : (st.map fun v => v.category).sum ≤ 8) (d : decode cc pc = .ok (.invokevirtual index, 3)) (hcs : cells + 1 ≤ R.cells ∧ slots + 6 ≤ R.slots)
    (kk : ∀ v σ', Rr v σ' → X p l e R s m args below meth c V E A nL (cells + 1) (slots + 6) Q σ' (pc + 3) lv (v.toList ++ st))
    (kx : ∀ En, Rx En → En ∈ xEs → XTh p l e R s m args below meth c V E A nL (cells + 1) (slots + 6) Q σx pc lv st En) : X p l e R s m args below meth c V E A nL cells slots Q σ pc lv stk := by
  subst hst
  refine x_goT (a := (ra V r :: As).toArray) C (fun H locs ls h1 h2 h3 => ?_) kk kx
  exact vx_runV (C := Cn) (b := xad V r) ⟨C.1, C.2.1, C.2.2.1, C.2.2.2.1, C.2.2.2.2.1⟩ M cw ⟨xPcT_blind, x_recv C h1 hs hr hc, fun U hU hW => ⟨rfl, by rw [hU]; exact xP_of h1, C.2.2.2.2.2.1.warm hW, hT.warm hW, xZ_at (fun q h => C.2.2.2.2.2.2.2 q h) hZ h2 hU hW⟩⟩ rfl hn h3.1 rfl (lv_room hW) d hcs
/-- caught -/
theorem x_catch (C : XC p s m args c cc nL own Ts V E A) {En : String} (pre : List ExceptionTableEntry) (x : ExceptionTableEntry) (suf : List ExceptionTableEntry) (pc2 : Nat) (hpc : x.handlerPc = pc2) (hsplit : c.exceptionTable.toList = pre ++ x :: suf) (hT : xT s) (hE : En ∈ xEs)
    (hpass : ∀ z ∈ pre, z.catchType ≠ 0 ∧ ∃ nm : String, (Cond.classLink own z.catchType nm).before args s = true ∧ nm ∈ xEs ∧ En ≠ nm) (hx : covers x pc = true) (h0 : x.catchType ≠ 0) (hlink : (Cond.classLink own x.catchType En).before args s = true)
    (kk : ∀ q : Nat, X p l e R s m args below meth c V E A nL cells slots Q σ pc2 lv [.ref q]) : XTh p l e R s m args below meth c V E A nL cells slots Q σ pc lv st En := fun H locs ls ce q9 h1 h2 h3 h4 h5 h6 =>
  vx_catch C.2.2.2.1 pre x suf hsplit (fun z hz => Or.inr (by
    obtain ⟨a1, nm, a2, a3, a4⟩ := hpass z hz
    exact ⟨a1, nm, a2, hT.2.2.1 En hE nm a3 a4⟩)) hx h0 hlink (va_Nw.use rfl (hT.2.1 En hE)) h4 h5 h6 (by rw [hpc]; exact kk q9 H locs ls h1 h2 h3)
/-- a call of a wrapper -/
theorem x_callW {o : Nat} {g : Nat → Int64} (C : XC p s m args c cc nL own Ts V [oc V o g] A) (hT : xT s) (hZ : xZ A s s.heap) (hA : ∀ q, inO V o q → A q) {y : MethodName} {bytes : ByteArray} {maxL n index : Nat} {ret : Option FieldType} {hh : List (Nat × Nat × Nat × Nat)} {ws : List Cond} {rm : Room} {Rr : Int32 → xS → (Nat → Int64) → Prop} {stk : List Value} (As : List Value) (M : xW l y ws rm V o g As σ Rr) (cw : vx_CSW R s args own index y bytes maxL ret hh ws rm 1 6 n) (hn : As.length = n) (hst : stk = As.reverse ++ st) (hW : (st.map fun v => v.category).sum ≤ 8) (d : decode cc pc = .ok (.invokestatic index, 3)) (hcs : cells + 1 ≤ R.cells ∧ slots + 6 ≤ R.slots)
    (kk : ∀ v σ' g', Rr v σ' g' → X p l e R s m args below meth c V [oc V o g'] A nL (cells + 1) (slots + 6) Q σ' (pc + 3) lv (.int v :: st)) : X p l e R s m args below meth c V [oc V o g] A nL cells slots Q σ pc lv stk := by
  subst hst
  intro H locs ls h1 h2 h3 T hT9 X9
  have hr : vx_Run p l e R s m args below meth c H locs cells slots 1 6 (F0 m pc ls (As.reverse ++ st)) st (xWQ V o Rr As.toArray) (fun _ _ _ => False) (inO V o) :=
    vx_runSX ⟨C.1, C.2.1, C.2.2.1, C.2.2.2.1, C.2.2.2.2.1⟩ M cw ⟨xWPc_blind, fun U hU hW => ⟨rfl, by rw [hU]; exact h1, C.2.2.2.2.2.1.warm hW, hT.warm hW, xZ_at hA hZ h2 hU hW⟩⟩ rfl hn h3.1 rfl (lv_room hW) d hcs
  rcases hr T hT9 X9 with ⟨v, st₀, t, T', L, h0, X', hL, e1, e2, ⟨⟨v', σ', g', hv, hR, hb⟩, hz, hk⟩, st9⟩ | ⟨q, st₀, t, T', L, En, ce, h0, X', hL, e1, e2, hf, -⟩
  · cases hv
    rw [h0] at hz hk
    rw [← e1] at hb hz hk
    obtain ⟨t2, a1, b1⟩ := kk v' σ' g' hR T'.heap (locs ++ L) ls hb (xS_kept hA h2 hz hk hL) h3 T' rfl X'
    exact ⟨t2, st9 t2 a1, b1⟩
  · exact hf.elim
end LR
section LE
variable {p : Program} {l : Launch} {e : Env} {R : Room} {s : State} {m : MethodId} {args : Array Value} {below : List Frame} {meth : Method} {c : Code} {V : xV} {nL cells slots : Nat} {cc : ByteArray} {own : String} {Ts : List Cond} {σ : xS} {pc : Nat} {lv : List (Nat × Value)} {o : Nat} {g : Nat → Int64} {Rr : Int32 → xS → (Nat → Int64) → Prop}
theorem x_iretW (C : XC p s m args c cc nL own Ts V [oc V o g] (inO V o)) {v : Int32} (hr : meth.sig.returnType = some .int) (hlk : meth.locks = false) (hc1 : cells ≤ 1) (hc2 : slots ≤ 6) (d : decode cc pc = .ok (.ireturn, 1)) (h : Rr v σ g) : X p l e R s m args below meth c V [oc V o g] (inO V o) nL cells slots (vx_MQ below (xWQ V o Rr) (fun _ _ _ => False) args s 1 6 (inO V o)) σ pc lv [.int v] := fun H locs ls h1 h2 h3 =>
  W.widen (k := 1) (n := 6) hc1 hc2 (vx_ret (W.iret C.1 C.2.1 hr (fun t ht hW => ⟨⟨v, σ, g, rfl, h, by rw [ht]; exact h1⟩, h2.F ht⟩) h2.2.2 d hlk))
theorem xW_of {y : MethodName} {ws ws' : List Cond} {rm : Room} {av : List Value} {maxL : Nat} {ret : Option FieldType} {hh : List (Nat × Nat × Nat × Nat)} (lv0 : List (Nat × Value)) (hV : xInj V) (hO : ∀ k, k < 108 → xad V k ≠ o) (hy : plainName y.cls = true) (hw : ws = Cond.codeWith y cc maxL ret hh :: ws') (hlv : lv_args 0 av = lv0) (hlen : (lg_sl av).length ≤ maxL)
    (body : ∀ p e s m args below meth c, XC p s m args c cc maxL y.cls ws V [oc V o g] (inO V o) → meth.sig.returnType = ret → meth.locks = false → c.exceptionTable.toList = tableOf hh → xT s → xZ (inO V o) s s.heap → X p l e (headSpec ws rm).room s m args below meth c V [oc V o g] (inO V o) maxL 0 0 (vx_MQ below (xWQ V o Rr) (fun _ _ _ => False) args s 1 6 (inO V o)) σ 0 lv0 []) : xW l y ws rm V o g av σ Rr := by
  refine vx_ofWH (cc := cc) (maxL := maxL) (ret := ret) (hh := hh) hy hw ?_
  intro p e s m args below meth c s₁ B hml hv
  obtain ⟨rfl, hP, hK, hT, hZ⟩ := hv
  have hts := atoms_spec (ws := ws) B.pre
  have C : XC p s m av.toArray c cc maxL y.cls ws V [oc V o g] (inO V o) := ⟨B.exec, B.bytes, hml, findClass_of_methodNamed B.named, hts, hK, fun σ => xD_oc _ hV hO (fun q h => h) g σ, fun q h => Or.inl h⟩
  have hl := lv_entry av (n := maxL) hlen
  rw [hlv] at hl
  rw [lg_entry_eq]
  exact body p e s m av.toArray below meth c C B.returns B.notSynchronized (vx_table (x := y) B (hts _ (by rw [hw]; exact List.mem_cons_self))) hT hZ s.heap [] _ hP va_S.rf hl
end LE

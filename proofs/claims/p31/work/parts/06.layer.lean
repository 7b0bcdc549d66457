/-! One world: 94 cells by their roles, ints of objects at 200 and on; its state: role, place, number. -/
abbrev xS : Type := Nat → Nat → Int32
abbrev xV : Type := va_G × ClassId × ClassId × ClassId × (Nat → Nat)
abbrev xSh : Type := (Nat × Nat) ⊕ (Nat × List (Nat ⊕ Nat))
def shL0 : List xSh := [.inr (8, [.inl 1, .inl 8, .inl 69, .inl 82]), .inr (6, [.inl 2, .inl 4, .inl 6, .inr 200]), .inr (5, [.inl 3]), .inl (0, 8), .inr (5, [.inl 5]), .inl (0, 8), .inr (5, [.inl 7]), .inl (0, 8), .inr (4, [.inl 9, .inl 16, .inl 23, .inl 25, .inl 27, .inl 47, .inl 60, .inl 67]), .inr (0, [.inl 10, .inl 12, .inl 14, .inr 201]), .inr (5, [.inl 11]), .inl (0, 8)]
def shL1 : List xSh := [.inr (5, [.inl 13]), .inl (0, 8), .inr (5, [.inl 15]), .inl (0, 8), .inr (0, [.inl 17, .inl 19, .inl 21, .inr 202]), .inr (5, [.inl 18]), .inl (0, 12), .inr (5, [.inl 20]), .inl (0, 12), .inr (5, [.inl 22]), .inl (0, 12), .inr (5, [.inl 24])]
def shL2 : List xSh := [.inl (0, 12), .inr (5, [.inl 26]), .inl (0, 12), .inr (3, [.inl 28, .inl 35, .inl 37, .inl 39, .inl 41, .inl 43, .inl 45]), .inr (0, [.inl 29, .inl 31, .inl 33, .inr 203]), .inr (5, [.inl 30]), .inl (0, 24), .inr (5, [.inl 32]), .inl (0, 24), .inr (5, [.inl 34]), .inl (0, 24), .inr (5, [.inl 36])]
def shL3 : List xSh := [.inl (0, 24), .inr (5, [.inl 38]), .inl (0, 24), .inr (5, [.inl 40]), .inl (0, 24), .inr (5, [.inl 42]), .inl (0, 24), .inr (5, [.inl 44]), .inl (0, 24), .inr (5, [.inl 46]), .inl (0, 24), .inr (1, [.inl 48, .inl 50, .inl 52, .inl 54, .inl 56, .inl 58, .inr 205])]
def shL4 : List xSh := [.inr (5, [.inl 49]), .inl (0, 50), .inr (5, [.inl 51]), .inl (0, 50), .inr (5, [.inl 53]), .inl (0, 50), .inr (5, [.inl 55]), .inl (0, 50), .inr (5, [.inl 57]), .inl (0, 50), .inr (5, [.inl 59]), .inl (0, 50)]
def shL5 : List xSh := [.inr (0, [.inl 61, .inl 63, .inl 65, .inr 204]), .inr (5, [.inl 62]), .inl (0, 16), .inr (5, [.inl 64]), .inl (0, 16), .inr (5, [.inl 66]), .inl (0, 16), .inr (5, [.inl 68]), .inl (0, 16), .inr (7, [.inl 8, .inl 70, .inl 72, .inl 74, .inl 76, .inl 78, .inl 80, .inr 206]), .inr (5, [.inl 71]), .inl (0, 4)]
def shL6 : List xSh := [.inr (5, [.inl 73]), .inl (0, 8), .inr (5, [.inl 75]), .inl (0, 8), .inr (5, [.inl 77]), .inl (0, 160), .inr (5, [.inl 79]), .inl (0, 50), .inr (5, [.inl 81]), .inl (0, 800), .inr (2, [.inl 8, .inl 69, .inl 83, .inl 85, .inr 207]), .inr (5, [.inl 84])]
def shL7 : List xSh := [.inl (0, 600), .inr (5, [.inl 86]), .inl (0, 600), .inl (0, 6), .inl (0, 12), .inl (0, 8), .inl (0, 15), .inl (0, 56), .inl (0, 96), .inl (0, 12)]
def shL : List xSh := shL0 ++ shL1 ++ shL2 ++ shL3 ++ shL4 ++ shL5 ++ shL6 ++ shL7
def shp (k : Nat) : xSh := shL.getD k (.inr (99, []))
theorem sh_0 : shp 0 = .inr (8, [.inl 1, .inl 8, .inl 69, .inl 82]) := by decide +kernel
theorem sh_1 : shp 1 = .inr (6, [.inl 2, .inl 4, .inl 6, .inr 200]) := by decide +kernel
theorem sh_2 : shp 2 = .inr (5, [.inl 3]) := by decide +kernel
theorem sh_3 : shp 3 = .inl (0, 8) := by decide +kernel
theorem sh_4 : shp 4 = .inr (5, [.inl 5]) := by decide +kernel
theorem sh_5 : shp 5 = .inl (0, 8) := by decide +kernel
theorem sh_6 : shp 6 = .inr (5, [.inl 7]) := by decide +kernel
theorem sh_7 : shp 7 = .inl (0, 8) := by decide +kernel
theorem sh_8 : shp 8 = .inr (4, [.inl 9, .inl 16, .inl 23, .inl 25, .inl 27, .inl 47, .inl 60, .inl 67]) := by decide +kernel
theorem sh_9 : shp 9 = .inr (0, [.inl 10, .inl 12, .inl 14, .inr 201]) := by decide +kernel
theorem sh_10 : shp 10 = .inr (5, [.inl 11]) := by decide +kernel
theorem sh_11 : shp 11 = .inl (0, 8) := by decide +kernel
theorem sh_12 : shp 12 = .inr (5, [.inl 13]) := by decide +kernel
theorem sh_13 : shp 13 = .inl (0, 8) := by decide +kernel
theorem sh_14 : shp 14 = .inr (5, [.inl 15]) := by decide +kernel
theorem sh_15 : shp 15 = .inl (0, 8) := by decide +kernel
theorem sh_16 : shp 16 = .inr (0, [.inl 17, .inl 19, .inl 21, .inr 202]) := by decide +kernel
theorem sh_17 : shp 17 = .inr (5, [.inl 18]) := by decide +kernel
theorem sh_18 : shp 18 = .inl (0, 12) := by decide +kernel
theorem sh_19 : shp 19 = .inr (5, [.inl 20]) := by decide +kernel
theorem sh_20 : shp 20 = .inl (0, 12) := by decide +kernel
theorem sh_21 : shp 21 = .inr (5, [.inl 22]) := by decide +kernel
theorem sh_22 : shp 22 = .inl (0, 12) := by decide +kernel
theorem sh_23 : shp 23 = .inr (5, [.inl 24]) := by decide +kernel
theorem sh_24 : shp 24 = .inl (0, 12) := by decide +kernel
theorem sh_25 : shp 25 = .inr (5, [.inl 26]) := by decide +kernel
theorem sh_26 : shp 26 = .inl (0, 12) := by decide +kernel
theorem sh_27 : shp 27 = .inr (3, [.inl 28, .inl 35, .inl 37, .inl 39, .inl 41, .inl 43, .inl 45]) := by decide +kernel
theorem sh_28 : shp 28 = .inr (0, [.inl 29, .inl 31, .inl 33, .inr 203]) := by decide +kernel
theorem sh_29 : shp 29 = .inr (5, [.inl 30]) := by decide +kernel
theorem sh_30 : shp 30 = .inl (0, 24) := by decide +kernel
theorem sh_31 : shp 31 = .inr (5, [.inl 32]) := by decide +kernel
theorem sh_32 : shp 32 = .inl (0, 24) := by decide +kernel
theorem sh_33 : shp 33 = .inr (5, [.inl 34]) := by decide +kernel
theorem sh_34 : shp 34 = .inl (0, 24) := by decide +kernel
theorem sh_35 : shp 35 = .inr (5, [.inl 36]) := by decide +kernel
theorem sh_36 : shp 36 = .inl (0, 24) := by decide +kernel
theorem sh_37 : shp 37 = .inr (5, [.inl 38]) := by decide +kernel
theorem sh_38 : shp 38 = .inl (0, 24) := by decide +kernel
theorem sh_39 : shp 39 = .inr (5, [.inl 40]) := by decide +kernel
theorem sh_40 : shp 40 = .inl (0, 24) := by decide +kernel
theorem sh_41 : shp 41 = .inr (5, [.inl 42]) := by decide +kernel
theorem sh_42 : shp 42 = .inl (0, 24) := by decide +kernel
theorem sh_43 : shp 43 = .inr (5, [.inl 44]) := by decide +kernel
theorem sh_44 : shp 44 = .inl (0, 24) := by decide +kernel
theorem sh_45 : shp 45 = .inr (5, [.inl 46]) := by decide +kernel
theorem sh_46 : shp 46 = .inl (0, 24) := by decide +kernel
theorem sh_47 : shp 47 = .inr (1, [.inl 48, .inl 50, .inl 52, .inl 54, .inl 56, .inl 58, .inr 205]) := by decide +kernel
theorem sh_48 : shp 48 = .inr (5, [.inl 49]) := by decide +kernel
theorem sh_49 : shp 49 = .inl (0, 50) := by decide +kernel
theorem sh_50 : shp 50 = .inr (5, [.inl 51]) := by decide +kernel
theorem sh_51 : shp 51 = .inl (0, 50) := by decide +kernel
theorem sh_52 : shp 52 = .inr (5, [.inl 53]) := by decide +kernel
theorem sh_53 : shp 53 = .inl (0, 50) := by decide +kernel
theorem sh_54 : shp 54 = .inr (5, [.inl 55]) := by decide +kernel
theorem sh_55 : shp 55 = .inl (0, 50) := by decide +kernel
theorem sh_56 : shp 56 = .inr (5, [.inl 57]) := by decide +kernel
theorem sh_57 : shp 57 = .inl (0, 50) := by decide +kernel
theorem sh_58 : shp 58 = .inr (5, [.inl 59]) := by decide +kernel
theorem sh_59 : shp 59 = .inl (0, 50) := by decide +kernel
theorem sh_60 : shp 60 = .inr (0, [.inl 61, .inl 63, .inl 65, .inr 204]) := by decide +kernel
theorem sh_61 : shp 61 = .inr (5, [.inl 62]) := by decide +kernel
theorem sh_62 : shp 62 = .inl (0, 16) := by decide +kernel
theorem sh_63 : shp 63 = .inr (5, [.inl 64]) := by decide +kernel
theorem sh_64 : shp 64 = .inl (0, 16) := by decide +kernel
theorem sh_65 : shp 65 = .inr (5, [.inl 66]) := by decide +kernel
theorem sh_66 : shp 66 = .inl (0, 16) := by decide +kernel
theorem sh_67 : shp 67 = .inr (5, [.inl 68]) := by decide +kernel
theorem sh_68 : shp 68 = .inl (0, 16) := by decide +kernel
theorem sh_69 : shp 69 = .inr (7, [.inl 8, .inl 70, .inl 72, .inl 74, .inl 76, .inl 78, .inl 80, .inr 206]) := by decide +kernel
theorem sh_70 : shp 70 = .inr (5, [.inl 71]) := by decide +kernel
theorem sh_71 : shp 71 = .inl (0, 4) := by decide +kernel
theorem sh_72 : shp 72 = .inr (5, [.inl 73]) := by decide +kernel
theorem sh_73 : shp 73 = .inl (0, 8) := by decide +kernel
theorem sh_74 : shp 74 = .inr (5, [.inl 75]) := by decide +kernel
theorem sh_75 : shp 75 = .inl (0, 8) := by decide +kernel
theorem sh_76 : shp 76 = .inr (5, [.inl 77]) := by decide +kernel
theorem sh_77 : shp 77 = .inl (0, 160) := by decide +kernel
theorem sh_78 : shp 78 = .inr (5, [.inl 79]) := by decide +kernel
theorem sh_79 : shp 79 = .inl (0, 50) := by decide +kernel
theorem sh_80 : shp 80 = .inr (5, [.inl 81]) := by decide +kernel
theorem sh_81 : shp 81 = .inl (0, 800) := by decide +kernel
theorem sh_82 : shp 82 = .inr (2, [.inl 8, .inl 69, .inl 83, .inl 85, .inr 207]) := by decide +kernel
theorem sh_83 : shp 83 = .inr (5, [.inl 84]) := by decide +kernel
theorem sh_84 : shp 84 = .inl (0, 600) := by decide +kernel
theorem sh_85 : shp 85 = .inr (5, [.inl 86]) := by decide +kernel
theorem sh_86 : shp 86 = .inl (0, 600) := by decide +kernel
theorem sh_87 : shp 87 = .inl (0, 6) := by decide +kernel
theorem sh_88 : shp 88 = .inl (0, 12) := by decide +kernel
theorem sh_89 : shp 89 = .inl (0, 8) := by decide +kernel
theorem sh_90 : shp 90 = .inl (0, 15) := by decide +kernel
theorem sh_91 : shp 91 = .inl (0, 56) := by decide +kernel
theorem sh_92 : shp 92 = .inl (0, 96) := by decide +kernel
theorem sh_93 : shp 93 = .inl (0, 12) := by decide +kernel
def xad (V : xV) : Nat → Nat := V.2.2.2.2
def ra (V : xV) (r : Nat) : Value := .ref (xad V r)
def xfv (V : xV) (σ : xS) (x : Nat ⊕ Nat) : Value := match x with
  | .inl r => ra V r
  | .inr q => .int (σ q 0)
def xel (V : xV) (σ : xS) (k : Nat) : va_E := match shp k with
  | .inl (t, n) => .inl ((if t = 0 then V.2.1 else V.2.2.1), n, .inl (σ k))
  | .inr (ci, fl) => .inr (ci, fl.map (xfv V σ))
def xpl (V : xV) (σ : xS) : va_W := (List.range 94).map (fun k => (xad V k, xel V σ k))
def xty (V : xV) : List (ClassId × FieldType) := [(V.2.1, .int)]
def nws : List Cond := [.methodLinkNest RX0 39 yX8_configurationsWith RX8, .methodLinkNest RX2 38 yX8_isIn RX8, .methodLinkNest RX6 42 yX8_isIn RX8, .methodLinkNest RX7 65 yX8_isIn RX8, .methodLinkNest RX4 35 yX3_init RX8, .methodLinkNest RX4 42 yX1_init RX8, .methodLinkNest RX8 9 yX6_init RX8, .methodLinkNest RX8 18 yX4_init RX8]
def xN (U : State) : Prop := ∀ w ∈ nws, va_Nw w U
theorem nws_nest : ∀ w ∈ nws, ∃ a i x h, w = .methodLinkNest a i x h := by
  intro w hw
  simp only [nws, List.mem_cons, List.not_mem_nil, or_false] at hw
  rcases hw with rfl | rfl | rfl | rfl | rfl | rfl | rfl | rfl <;> exact ⟨_, _, _, _, rfl⟩
theorem xN.warm {s U : State} (hW : s.WarmedH U.vm) (h : xN s) : xN U := by
  intro w hw
  obtain ⟨a, i, x, hh, rfl⟩ := nws_nest w hw
  exact va_Nw.warmM hW (h _ hw)
theorem xN.same {s U : State} (hv : s.vm = U.vm) (h : xN s) : xN U := by
  intro w hw
  obtain ⟨a, i, x, hh, rfl⟩ := nws_nest w hw
  exact va_Nw.same rfl hv (h _ hw)
def xK (V : xV) (U : State) : Prop := va_K V.1 vwCl (xty V) U ∧ xN U
def inR (V : xV) (q : Nat) : Prop := ∃ k, k < 94 ∧ q = xad V k
def xInj (V : xV) : Prop := ∀ i j, i < 94 → j < 94 → xad V i = xad V j → i = j
def xPc (V : xV) (av : List Value) (σ : xS) : Array Value → State → Prop := va_Pc av (fun U => va_P V.1 vwCl (xpl V σ) U.heap ∧ xK V U)
def xOut (V : xV) (Rr : Option Value → xS → Prop) : Array Value → State → Outcome → State → Prop := fun _ st oc t => (∃ (v : Option Value) (σ' : xS), oc = .returned v ∧ Rr v σ' ∧ va_P V.1 vwCl (xpl V σ') t.heap) ∧ va_F (inR V) st t
/-- a method's contract over the world: from σ it returns v and leaves σ', as Rr has them -/
def xM (l : Launch) (y : MethodName) (ws : List Cond) (rm : Room) (V : xV) (av : List Value) (σ : xS) (Rr : Option Value → xS → Prop) : Prop := Met l y ws rm (xPc V av σ) (xOut V Rr) 0 0 (inR V)
abbrev rI (x : Int32) (σ' : xS) : Option Value → xS → Prop := fun v u => v = some (.int x) ∧ u = σ'
abbrev rL (x : Int64) (σ' : xS) : Option Value → xS → Prop := fun v u => v = some (.long x) ∧ u = σ'
abbrev rV (σ' : xS) : Option Value → xS → Prop := fun v u => v = none ∧ u = σ'
theorem xpl_get {V : xV} {σ : xS} {k : Nat} (h : k < 94) : (xpl V σ)[k]? = some (xad V k, xel V σ k) := by
  simp [xpl, h]
theorem xpl_len {V : xV} {σ : xS} : (xpl V σ).length = 94 := by simp [xpl]
theorem xpl_at {V : xV} {σ : xS} {E : va_W} {k : Nat} (h : k < 94) : (E ++ xpl V σ)[E.length + k]? = some (xad V k, xel V σ k) := by
  rw [List.getElem?_append_right (by omega), Nat.add_sub_cancel_left]
  exact xpl_get h
theorem xel_arr {V : xV} {σ : xS} {k n : Nat} (h : shp k = .inl (0, n)) : xel V σ k = .inl (V.2.1, n, .inl (σ k)) := by
  simp only [xel, h]; rfl
theorem xel_arrZ {V : xV} {σ : xS} {k n : Nat} (h : shp k = .inl (1, n)) : xel V σ k = .inl (V.2.2.1, n, .inl (σ k)) := by
  simp only [xel, h]; rfl
theorem xel_obj {V : xV} {σ : xS} {k ci : Nat} {fl : List (Nat ⊕ Nat)} (h : shp k = .inr (ci, fl)) : xel V σ k = .inr (ci, fl.map (xfv V σ)) := by
  simp only [xel, h]
theorem xpl_set {V : xV} {σ σ' : xS} {E : va_W} {k : Nat} (hk : k < 94) (e : va_E) (h1 : xel V σ' k = e) (h2 : ∀ j, j ≠ k → xel V σ' j = xel V σ j) : (E ++ xpl V σ).set (E.length + k) (xad V k, e) = E ++ xpl V σ' := by
  rw [List.set_append_right _ _ (by omega), Nat.add_sub_cancel_left]
  congr 1
  apply List.ext_getElem?
  intro j
  by_cases hj : j = k
  · subst hj
    rw [List.getElem?_set_self (by rw [xpl_len]; exact hk), xpl_get hk, h1]
  · rw [List.getElem?_set_ne (by omega)]
    by_cases hl : j < 94
    · rw [xpl_get hl, xpl_get hl, h2 j hj]
    · rw [List.getElem?_eq_none (by rw [xpl_len]; omega), List.getElem?_eq_none (by rw [xpl_len]; omega)]
theorem shp_lt {k ci : Nat} {fl : List (Nat ⊕ Nat)} (h : shp k = .inr (ci, fl)) (hc : ci < 99) : k < 94 := by
  by_cases hk : k < 94
  · exact hk
  · exfalso
    have : shp k = .inr (99, []) := by
      unfold shp
      rw [List.getD_eq_getElem?_getD, List.getElem?_eq_none (by have : shL.length = 94 := by decide +kernel
                                                                omega)]
      rfl
    rw [this] at h
    injection h with h
    injection h with h
    omega
theorem shp_ltA {k t n : Nat} (h : shp k = .inl (t, n)) : k < 94 := by
  by_cases hk : k < 94
  · exact hk
  · exfalso
    have : shp k = .inr (99, []) := by
      unfold shp
      rw [List.getD_eq_getElem?_getD, List.getElem?_eq_none (by have : shL.length = 94 := by decide +kernel
                                                                omega)]
      rfl
    rw [this] at h
    injection h
/-- which int cells lie in which object: a place q of 200 and on is a field of one role alone -/
def xown (q k : Nat) : Prop := ∀ j, j ≠ k → ∀ ci fl, shp j = .inr (ci, fl) → Sum.inr q ∉ fl
def xownB (q k : Nat) : Bool := (List.range 94).all (fun j => j == k || match shp j with
  | .inl _ => true
  | .inr o => o.2.all (fun x => decide (x ≠ Sum.inr q)))
theorem xown_of {q k : Nat} (h : xownB q k = true) : xown q k := by
  intro j hj ci fl hs hm
  by_cases hl : j < 94
  · have := List.all_eq_true.mp h j (List.mem_range.mpr hl)
    rw [hs] at this
    simp only [Bool.or_eq_true, beq_iff_eq, hj, false_or] at this
    have := List.all_eq_true.mp this _ hm
    simp at this
  · have : shp j = .inr (99, []) := by
      unfold shp
      rw [List.getD_eq_getElem?_getD, List.getElem?_eq_none (by have : shL.length = 94 := by decide +kernel
                                                                omega)]
      rfl
    rw [this] at hs
    injection hs with hs
    injection hs with _ hs
    subst hs
    cases hm

theorem xint_hi {k ci q : Nat} {fl : List (Nat ⊕ Nat)} (hs : shp k = .inr (ci, fl)) (hm : Sum.inr q ∈ fl) : 200 ≤ q := by
  by_cases hk : k < 94
  · have h : (List.range 94).all (fun j => match shp j with
      | .inl _ => true
      | .inr o => o.2.all (fun x => match x with
        | .inl _ => true
        | .inr q => decide (200 ≤ q))) = true := by decide +kernel
    have h1 := List.all_eq_true.mp h k (List.mem_range.mpr hk)
    rw [hs] at h1
    have h2 := List.all_eq_true.mp h1 _ hm
    simpa using h2
  · have : shp k = .inr (99, []) := by
      unfold shp
      rw [List.getD_eq_getElem?_getD, List.getElem?_eq_none (by have : shL.length = 94 := by decide +kernel
                                                                omega)]
      rfl
    rw [this] at hs
    injection hs with hs
    injection hs with _ hs
    subst hs
    cases hm
section XW
variable {p : Program} {l : Launch} {e : Env} {R : Room} {s : State} {m : MethodId} {args : Array Value} {below : List Frame} {meth : Method} {c : Code} {V : xV} {E : va_W} {A : Nat → Prop} {nL cells slots : Nat} {Q : State → Prop} {cc : ByteArray} {own : String} {Ts : List Cond}
/-- the goal: from every heap that holds σ, the walk at pc with these locals and this stack comes to Q -/
def X (p : Program) (l : Launch) (e : Env) (R : Room) (s : State) (m : MethodId) (args : Array Value) (below : List Frame) (meth : Method) (c : Code) (V : xV) (E : va_W) (A : Nat → Prop) (nL cells slots : Nat) (Q : State → Prop) (σ : xS) (pc : Nat) (lv : List (Nat × Value)) (st : List Value) : Prop :=
  ∀ (H : Heap) (locs : List Loc) (ls : Array Slot), va_P V.1 vwCl (E ++ xpl V σ) H → va_S A s.heap H locs → lv_has ls nL lv → W p l e R s m args below meth c H locs cells slots Q (F0 m pc ls st)
/-- what stands through the whole walk -/
def XC (p : Program) (s : State) (m : MethodId) (args : Array Value) (c : Code) (cc : ByteArray) (nL : Nat) (own : String) (Ts : List Cond) (V : xV) (E : va_W) (A : Nat → Prop) : Prop :=
  p.tables.exec = Jvm.exec ∧ c.code = cc ∧ c.maxLocals = nL ∧ s.vm.findClass own = some m.cls ∧ (∀ w ∈ Ts, w.before args s = true) ∧ xK V s ∧ (∀ σ, va_D A (E ++ xpl V σ)) ∧ (∀ q, inR V q → A q)
variable {σ : xS} {pc : Nat} {lv : List (Nat × Value)} {st : List Value}
theorem x_iconst (C : XC p s m args c cc nL own Ts V E A) {n : Int} (v : Int32) (hv : Int32.ofInt n = v) (d : decode cc pc = .ok (.iconst n, 1)) (k : X p l e R s m args below meth c V E A nL cells slots Q σ (pc + 1) lv (.int v :: st)) : X p l e R s m args below meth c V E A nL cells slots Q σ pc lv st := fun H locs ls h1 h2 h3 => lv_iconst C.1 C.2.1 d hv (k H locs ls h1 h2 h3)
theorem x_bipush (C : XC p s m args c cc nL own Ts V E A) {n : Int} (v : Int32) (hv : (Int8.ofInt n).toInt32 = v) (d : decode cc pc = .ok (.bipush n, 2)) (k : X p l e R s m args below meth c V E A nL cells slots Q σ (pc + 2) lv (.int v :: st)) : X p l e R s m args below meth c V E A nL cells slots Q σ pc lv st := fun H locs ls h1 h2 h3 => lv_bipush C.1 C.2.1 d hv (k H locs ls h1 h2 h3)
theorem x_sipush (C : XC p s m args c cc nL own Ts V E A) {n : Int} (v : Int32) (hv : (Int16.ofInt n).toInt32 = v) (d : decode cc pc = .ok (.sipush n, 3)) (k : X p l e R s m args below meth c V E A nL cells slots Q σ (pc + 3) lv (.int v :: st)) : X p l e R s m args below meth c V E A nL cells slots Q σ pc lv st := fun H locs ls h1 h2 h3 => lv_sipush C.1 C.2.1 d hv (k H locs ls h1 h2 h3)
theorem x_lconst (C : XC p s m args c cc nL own Ts V E A) {n : Fin 2} (v : Int64) (hv : Int64.ofNat (n : Nat) = v) (d : decode cc pc = .ok (.lconst n, 1)) (k : X p l e R s m args below meth c V E A nL cells slots Q σ (pc + 1) lv (.long v :: st)) : X p l e R s m args below meth c V E A nL cells slots Q σ pc lv st := fun H locs ls h1 h2 h3 => lv_lconst C.1 C.2.1 d hv (k H locs ls h1 h2 h3)
theorem x_ldc2 (C : XC p s m args c cc nL own Ts V E A) {i : Nat} (v : Int64) (hc : (Jvm.Cond.constantLong own i v).before args s = true) (d : decode cc pc = .ok (.ldc2_w i, 3)) (k : X p l e R s m args below meth c V E A nL cells slots Q σ (pc + 3) lv (.long v :: st)) : X p l e R s m args below meth c V E A nL cells slots Q σ pc lv st := fun H locs ls h1 h2 h3 => lv_ldc2 C.1 C.2.1 C.2.2.2.1 hc d (k H locs ls h1 h2 h3)
theorem x_iload_n (C : XC p s m args c cc nL own Ts V E A) {k : Fin 4} {i : Nat} {x : Int32} (d : decode cc pc = .ok (.iload_n k, 1)) (hi : (k : Nat) = i) (q : Nat) (hq : lv[q]? = some (i, .int x)) (kk : X p l e R s m args below meth c V E A nL cells slots Q σ (pc + 1) lv (.int x :: st)) : X p l e R s m args below meth c V E A nL cells slots Q σ pc lv st := fun H locs ls h1 h2 h3 => lv_iload_n C.1 C.2.1 d hi (lv_at h3 q hq) (kk H locs ls h1 h2 h3)
theorem x_iload (C : XC p s m args c cc nL own Ts V E A) {i : Nat} {x : Int32} (d : decode cc pc = .ok (.iload i, 2)) (q : Nat) (hq : lv[q]? = some (i, .int x)) (kk : X p l e R s m args below meth c V E A nL cells slots Q σ (pc + 2) lv (.int x :: st)) : X p l e R s m args below meth c V E A nL cells slots Q σ pc lv st := fun H locs ls h1 h2 h3 => lv_iload C.1 C.2.1 d (lv_at h3 q hq) (kk H locs ls h1 h2 h3)
theorem x_lload_n (C : XC p s m args c cc nL own Ts V E A) {k : Fin 4} {i : Nat} {x : Int64} (d : decode cc pc = .ok (.lload_n k, 1)) (hi : (k : Nat) = i) (q : Nat) (hq : lv[q]? = some (i, .long x)) (kk : X p l e R s m args below meth c V E A nL cells slots Q σ (pc + 1) lv (.long x :: st)) : X p l e R s m args below meth c V E A nL cells slots Q σ pc lv st := fun H locs ls h1 h2 h3 => lv_lload_n C.1 C.2.1 d hi (lv_at h3 q hq) (kk H locs ls h1 h2 h3)
theorem x_lload (C : XC p s m args c cc nL own Ts V E A) {i : Nat} {x : Int64} (d : decode cc pc = .ok (.lload i, 2)) (q : Nat) (hq : lv[q]? = some (i, .long x)) (kk : X p l e R s m args below meth c V E A nL cells slots Q σ (pc + 2) lv (.long x :: st)) : X p l e R s m args below meth c V E A nL cells slots Q σ pc lv st := fun H locs ls h1 h2 h3 => lv_lload C.1 C.2.1 d (lv_at h3 q hq) (kk H locs ls h1 h2 h3)
theorem x_dload_n (C : XC p s m args c cc nL own Ts V E A) {k : Fin 4} {i : Nat} {x : UInt64} (d : decode cc pc = .ok (.dload_n k, 1)) (hi : (k : Nat) = i) (q : Nat) (hq : lv[q]? = some (i, .double x)) (kk : X p l e R s m args below meth c V E A nL cells slots Q σ (pc + 1) lv (.double x :: st)) : X p l e R s m args below meth c V E A nL cells slots Q σ pc lv st := fun H locs ls h1 h2 h3 => lv_dload_n C.1 C.2.1 d hi (lv_at h3 q hq) (kk H locs ls h1 h2 h3)
theorem x_dload (C : XC p s m args c cc nL own Ts V E A) {i : Nat} {x : UInt64} (d : decode cc pc = .ok (.dload i, 2)) (q : Nat) (hq : lv[q]? = some (i, .double x)) (kk : X p l e R s m args below meth c V E A nL cells slots Q σ (pc + 2) lv (.double x :: st)) : X p l e R s m args below meth c V E A nL cells slots Q σ pc lv st := fun H locs ls h1 h2 h3 => lv_dload C.1 C.2.1 d (lv_at h3 q hq) (kk H locs ls h1 h2 h3)
theorem x_aload_n (C : XC p s m args c cc nL own Ts V E A) {k : Fin 4} {i r : Nat} (d : decode cc pc = .ok (.aload_n k, 1)) (hi : (k : Nat) = i) (q : Nat) (hq : lv[q]? = some (i, ra V r)) (kk : X p l e R s m args below meth c V E A nL cells slots Q σ (pc + 1) lv (ra V r :: st)) : X p l e R s m args below meth c V E A nL cells slots Q σ pc lv st := fun H locs ls h1 h2 h3 => lv_aload_n C.1 C.2.1 d hi (lv_at h3 q hq) (kk H locs ls h1 h2 h3)
theorem x_aload (C : XC p s m args c cc nL own Ts V E A) {i r : Nat} (d : decode cc pc = .ok (.aload i, 2)) (q : Nat) (hq : lv[q]? = some (i, ra V r)) (kk : X p l e R s m args below meth c V E A nL cells slots Q σ (pc + 2) lv (ra V r :: st)) : X p l e R s m args below meth c V E A nL cells slots Q σ pc lv st := fun H locs ls h1 h2 h3 => lv_aload C.1 C.2.1 d (lv_at h3 q hq) (kk H locs ls h1 h2 h3)
theorem x_istore_n (C : XC p s m args c cc nL own Ts V E A) {k : Fin 4} {i : Nat} {x : Int32} (lv' : List (Nat × Value)) (d : decode cc pc = .ok (.istore_n k, 1)) (hi : (k : Nat) = i) (hn : i < nL) (hl : (i, Value.int x) :: lv.filter (fun q => !(q.1 == i) && !(q.1 + 1 == i && q.2.category == 2)) = lv') (kk : X p l e R s m args below meth c V E A nL cells slots Q σ (pc + 1) lv' st) : X p l e R s m args below meth c V E A nL cells slots Q σ pc lv (.int x :: st) := fun H locs ls h1 h2 h3 => lv_istore_n (lv' := lv') C.1 C.2.1 d hi h3 hn hl (fun ls' h => kk H locs ls' h1 h2 h)
theorem x_istore (C : XC p s m args c cc nL own Ts V E A) {i : Nat} {x : Int32} (lv' : List (Nat × Value)) (d : decode cc pc = .ok (.istore i, 2)) (hn : i < nL) (hl : (i, Value.int x) :: lv.filter (fun q => !(q.1 == i) && !(q.1 + 1 == i && q.2.category == 2)) = lv') (kk : X p l e R s m args below meth c V E A nL cells slots Q σ (pc + 2) lv' st) : X p l e R s m args below meth c V E A nL cells slots Q σ pc lv (.int x :: st) := fun H locs ls h1 h2 h3 => lv_istore (lv' := lv') C.1 C.2.1 d h3 hn hl (fun ls' h => kk H locs ls' h1 h2 h)
theorem x_lstore_n (C : XC p s m args c cc nL own Ts V E A) {k : Fin 4} {i : Nat} {x : Int64} (lv' : List (Nat × Value)) (d : decode cc pc = .ok (.lstore_n k, 1)) (hi : (k : Nat) = i) (hn : i + 1 < nL) (hl : (i, Value.long x) :: lv.filter (fun q => !(q.1 == i) && (!(q.1 == i + 1) && !(q.1 + 1 == i && q.2.category == 2))) = lv') (kk : X p l e R s m args below meth c V E A nL cells slots Q σ (pc + 1) lv' st) : X p l e R s m args below meth c V E A nL cells slots Q σ pc lv (.long x :: st) := fun H locs ls h1 h2 h3 => lv_lstore_n (lv' := lv') C.1 C.2.1 d hi h3 hn hl (fun ls' h => kk H locs ls' h1 h2 h)
theorem x_lstore (C : XC p s m args c cc nL own Ts V E A) {i : Nat} {x : Int64} (lv' : List (Nat × Value)) (d : decode cc pc = .ok (.lstore i, 2)) (hn : i + 1 < nL) (hl : (i, Value.long x) :: lv.filter (fun q => !(q.1 == i) && (!(q.1 == i + 1) && !(q.1 + 1 == i && q.2.category == 2))) = lv') (kk : X p l e R s m args below meth c V E A nL cells slots Q σ (pc + 2) lv' st) : X p l e R s m args below meth c V E A nL cells slots Q σ pc lv (.long x :: st) := fun H locs ls h1 h2 h3 => lv_lstore (lv' := lv') C.1 C.2.1 d h3 hn hl (fun ls' h => kk H locs ls' h1 h2 h)
theorem x_dstore_n (C : XC p s m args c cc nL own Ts V E A) {k : Fin 4} {i : Nat} {x : UInt64} (lv' : List (Nat × Value)) (d : decode cc pc = .ok (.dstore_n k, 1)) (hi : (k : Nat) = i) (hn : i + 1 < nL) (hl : (i, Value.double x) :: lv.filter (fun q => !(q.1 == i) && (!(q.1 == i + 1) && !(q.1 + 1 == i && q.2.category == 2))) = lv') (kk : X p l e R s m args below meth c V E A nL cells slots Q σ (pc + 1) lv' st) : X p l e R s m args below meth c V E A nL cells slots Q σ pc lv (.double x :: st) := fun H locs ls h1 h2 h3 => lv_dstore_n (lv' := lv') C.1 C.2.1 d hi h3 hn hl (fun ls' h => kk H locs ls' h1 h2 h)
theorem x_dstore (C : XC p s m args c cc nL own Ts V E A) {i : Nat} {x : UInt64} (lv' : List (Nat × Value)) (d : decode cc pc = .ok (.dstore i, 2)) (hn : i + 1 < nL) (hl : (i, Value.double x) :: lv.filter (fun q => !(q.1 == i) && (!(q.1 == i + 1) && !(q.1 + 1 == i && q.2.category == 2))) = lv') (kk : X p l e R s m args below meth c V E A nL cells slots Q σ (pc + 2) lv' st) : X p l e R s m args below meth c V E A nL cells slots Q σ pc lv (.double x :: st) := fun H locs ls h1 h2 h3 => lv_dstore (lv' := lv') C.1 C.2.1 d h3 hn hl (fun ls' h => kk H locs ls' h1 h2 h)
theorem x_iinc (C : XC p s m args c cc nL own Ts V E A) {i q : Nat} {n : Int} {x : Int32} (v : Int32) (lv' : List (Nat × Value)) (d : decode cc pc = .ok (.iinc i n, 3)) (hq : lv[q]? = some (i, .int x)) (hv : x + Int32.ofInt n = v) (hn : i < nL) (hl : (i, Value.int v) :: lv.filter (fun q => !(q.1 == i) && !(q.1 + 1 == i && q.2.category == 2)) = lv') (kk : X p l e R s m args below meth c V E A nL cells slots Q σ (pc + 3) lv' st) : X p l e R s m args below meth c V E A nL cells slots Q σ pc lv st := fun H locs ls h1 h2 h3 => lv_iinc (lv' := lv') C.1 C.2.1 d h3 hq hv hn hl (fun ls' h => kk H locs ls' h1 h2 h)
theorem x_iadd (C : XC p s m args c cc nL own Ts V E A) {x y : Int32} (d : decode cc pc = .ok (.iadd, 1)) (k : X p l e R s m args below meth c V E A nL cells slots Q σ (pc + 1) lv (.int (x + y) :: st)) : X p l e R s m args below meth c V E A nL cells slots Q σ pc lv (.int y :: .int x :: st) := fun H locs ls h1 h2 h3 => lv_iadd C.1 C.2.1 d (k H locs ls h1 h2 h3)
theorem x_isub (C : XC p s m args c cc nL own Ts V E A) {x y : Int32} (d : decode cc pc = .ok (.isub, 1)) (k : X p l e R s m args below meth c V E A nL cells slots Q σ (pc + 1) lv (.int (x - y) :: st)) : X p l e R s m args below meth c V E A nL cells slots Q σ pc lv (.int y :: .int x :: st) := fun H locs ls h1 h2 h3 => lv_isub C.1 C.2.1 d (k H locs ls h1 h2 h3)
theorem x_imul (C : XC p s m args c cc nL own Ts V E A) {x y : Int32} (d : decode cc pc = .ok (.imul, 1)) (k : X p l e R s m args below meth c V E A nL cells slots Q σ (pc + 1) lv (.int (x * y) :: st)) : X p l e R s m args below meth c V E A nL cells slots Q σ pc lv (.int y :: .int x :: st) := fun H locs ls h1 h2 h3 => lv_imul C.1 C.2.1 d (k H locs ls h1 h2 h3)
theorem x_iand (C : XC p s m args c cc nL own Ts V E A) {x y : Int32} (d : decode cc pc = .ok (.iand, 1)) (k : X p l e R s m args below meth c V E A nL cells slots Q σ (pc + 1) lv (.int (x &&& y) :: st)) : X p l e R s m args below meth c V E A nL cells slots Q σ pc lv (.int y :: .int x :: st) := fun H locs ls h1 h2 h3 => lv_iand C.1 C.2.1 d (k H locs ls h1 h2 h3)
theorem x_ior (C : XC p s m args c cc nL own Ts V E A) {x y : Int32} (d : decode cc pc = .ok (.ior, 1)) (k : X p l e R s m args below meth c V E A nL cells slots Q σ (pc + 1) lv (.int (x ||| y) :: st)) : X p l e R s m args below meth c V E A nL cells slots Q σ pc lv (.int y :: .int x :: st) := fun H locs ls h1 h2 h3 => lv_ior C.1 C.2.1 d (k H locs ls h1 h2 h3)
theorem x_ixor (C : XC p s m args c cc nL own Ts V E A) {x y : Int32} (d : decode cc pc = .ok (.ixor, 1)) (k : X p l e R s m args below meth c V E A nL cells slots Q σ (pc + 1) lv (.int (x ^^^ y) :: st)) : X p l e R s m args below meth c V E A nL cells slots Q σ pc lv (.int y :: .int x :: st) := fun H locs ls h1 h2 h3 => lv_ixor C.1 C.2.1 d (k H locs ls h1 h2 h3)
theorem x_ishl (C : XC p s m args c cc nL own Ts V E A) {x y : Int32} (d : decode cc pc = .ok (.ishl, 1)) (k : X p l e R s m args below meth c V E A nL cells slots Q σ (pc + 1) lv (.int (x <<< (y &&& 31)) :: st)) : X p l e R s m args below meth c V E A nL cells slots Q σ pc lv (.int y :: .int x :: st) := fun H locs ls h1 h2 h3 => lv_ishl C.1 C.2.1 d (k H locs ls h1 h2 h3)
theorem x_ishr (C : XC p s m args c cc nL own Ts V E A) {x y : Int32} (d : decode cc pc = .ok (.ishr, 1)) (k : X p l e R s m args below meth c V E A nL cells slots Q σ (pc + 1) lv (.int (x >>> (y &&& 31)) :: st)) : X p l e R s m args below meth c V E A nL cells slots Q σ pc lv (.int y :: .int x :: st) := fun H locs ls h1 h2 h3 => lv_ishr C.1 C.2.1 d (k H locs ls h1 h2 h3)
theorem x_idiv (C : XC p s m args c cc nL own Ts V E A) {x y : Int32} (hne : ¬ y = 0) (d : decode cc pc = .ok (.idiv, 1)) (k : X p l e R s m args below meth c V E A nL cells slots Q σ (pc + 1) lv (.int (x / y) :: st)) : X p l e R s m args below meth c V E A nL cells slots Q σ pc lv (.int y :: .int x :: st) := fun H locs ls h1 h2 h3 => lv_idiv C.1 C.2.1 d hne (k H locs ls h1 h2 h3)
theorem x_irem (C : XC p s m args c cc nL own Ts V E A) {x y : Int32} (hne : ¬ y = 0) (d : decode cc pc = .ok (.irem, 1)) (k : X p l e R s m args below meth c V E A nL cells slots Q σ (pc + 1) lv (.int (x - x / y * y) :: st)) : X p l e R s m args below meth c V E A nL cells slots Q σ pc lv (.int y :: .int x :: st) := fun H locs ls h1 h2 h3 => lv_irem C.1 C.2.1 d hne (k H locs ls h1 h2 h3)
theorem x_ladd (C : XC p s m args c cc nL own Ts V E A) {x y : Int64} (d : decode cc pc = .ok (.ladd, 1)) (k : X p l e R s m args below meth c V E A nL cells slots Q σ (pc + 1) lv (.long (x + y) :: st)) : X p l e R s m args below meth c V E A nL cells slots Q σ pc lv (.long y :: .long x :: st) := fun H locs ls h1 h2 h3 => lv_ladd C.1 C.2.1 d (k H locs ls h1 h2 h3)
theorem x_lmul (C : XC p s m args c cc nL own Ts V E A) {x y : Int64} (d : decode cc pc = .ok (.lmul, 1)) (k : X p l e R s m args below meth c V E A nL cells slots Q σ (pc + 1) lv (.long (x * y) :: st)) : X p l e R s m args below meth c V E A nL cells slots Q σ pc lv (.long y :: .long x :: st) := fun H locs ls h1 h2 h3 => lv_lmul C.1 C.2.1 d (k H locs ls h1 h2 h3)
theorem x_i2l (C : XC p s m args c cc nL own Ts V E A) {x : Int32} (d : decode cc pc = .ok (.i2l, 1)) (k : X p l e R s m args below meth c V E A nL cells slots Q σ (pc + 1) lv (.long x.toInt64 :: st)) : X p l e R s m args below meth c V E A nL cells slots Q σ pc lv (.int x :: st) := fun H locs ls h1 h2 h3 => lv_i2l C.1 C.2.1 d rfl (k H locs ls h1 h2 h3)
theorem x_dup (C : XC p s m args c cc nL own Ts V E A) {va : Value} (hva : va.category = 1) (d : decode cc pc = .ok (.dup, 1)) (k : X p l e R s m args below meth c V E A nL cells slots Q σ (pc + 1) lv (va :: va :: st)) : X p l e R s m args below meth c V E A nL cells slots Q σ pc lv (va :: st) := fun H locs ls h1 h2 h3 => lv_dup C.1 C.2.1 d hva (k H locs ls h1 h2 h3)
theorem x_dup2 (C : XC p s m args c cc nL own Ts V E A) {va vb : Value} (hva : va.category = 1) (hvb : vb.category = 1) (d : decode cc pc = .ok (.dup2, 1)) (k : X p l e R s m args below meth c V E A nL cells slots Q σ (pc + 1) lv (va :: vb :: va :: vb :: st)) : X p l e R s m args below meth c V E A nL cells slots Q σ pc lv (va :: vb :: st) := fun H locs ls h1 h2 h3 => lv_dup2_11 C.1 C.2.1 d hva hvb (k H locs ls h1 h2 h3)
-- branches
theorem x_if_eq (C : XC p s m args c cc nL own Ts V E A) {x : Int32} {off : Int} (tgt : Nat) (d : decode cc pc = .ok (.ifCond .eq off, 3)) (ht : (pc : Int) + off = (tgt : Int)) (kt : x = 0 → X p l e R s m args below meth c V E A nL cells slots Q σ tgt lv st) (kf : ¬ x = 0 → X p l e R s m args below meth c V E A nL cells slots Q σ (pc + 3) lv st) : X p l e R s m args below meth c V E A nL cells slots Q σ pc lv (.int x :: st) := fun H locs ls h1 h2 h3 => lv_if_eq C.1 C.2.1 d ht (fun h => kt h H locs ls h1 h2 h3) (fun h => kf h H locs ls h1 h2 h3)
theorem x_if_ne (C : XC p s m args c cc nL own Ts V E A) {x : Int32} {off : Int} (tgt : Nat) (d : decode cc pc = .ok (.ifCond .ne off, 3)) (ht : (pc : Int) + off = (tgt : Int)) (kt : ¬ x = 0 → X p l e R s m args below meth c V E A nL cells slots Q σ tgt lv st) (kf : x = 0 → X p l e R s m args below meth c V E A nL cells slots Q σ (pc + 3) lv st) : X p l e R s m args below meth c V E A nL cells slots Q σ pc lv (.int x :: st) := fun H locs ls h1 h2 h3 => lv_if_ne C.1 C.2.1 d ht (fun h => kt h H locs ls h1 h2 h3) (fun h => kf h H locs ls h1 h2 h3)
theorem x_if_lt (C : XC p s m args c cc nL own Ts V E A) {x : Int32} {off : Int} (tgt : Nat) (d : decode cc pc = .ok (.ifCond .lt off, 3)) (ht : (pc : Int) + off = (tgt : Int)) (kt : x < 0 → X p l e R s m args below meth c V E A nL cells slots Q σ tgt lv st) (kf : ¬ x < 0 → X p l e R s m args below meth c V E A nL cells slots Q σ (pc + 3) lv st) : X p l e R s m args below meth c V E A nL cells slots Q σ pc lv (.int x :: st) := fun H locs ls h1 h2 h3 => lv_if_lt C.1 C.2.1 d ht (fun h => kt h H locs ls h1 h2 h3) (fun h => kf h H locs ls h1 h2 h3)
theorem x_if_ge (C : XC p s m args c cc nL own Ts V E A) {x : Int32} {off : Int} (tgt : Nat) (d : decode cc pc = .ok (.ifCond .ge off, 3)) (ht : (pc : Int) + off = (tgt : Int)) (kt : 0 ≤ x → X p l e R s m args below meth c V E A nL cells slots Q σ tgt lv st) (kf : ¬ 0 ≤ x → X p l e R s m args below meth c V E A nL cells slots Q σ (pc + 3) lv st) : X p l e R s m args below meth c V E A nL cells slots Q σ pc lv (.int x :: st) := fun H locs ls h1 h2 h3 => lv_if_ge C.1 C.2.1 d ht (fun h => kt h H locs ls h1 h2 h3) (fun h => kf h H locs ls h1 h2 h3)
theorem x_if_gt (C : XC p s m args c cc nL own Ts V E A) {x : Int32} {off : Int} (tgt : Nat) (d : decode cc pc = .ok (.ifCond .gt off, 3)) (ht : (pc : Int) + off = (tgt : Int)) (kt : 0 < x → X p l e R s m args below meth c V E A nL cells slots Q σ tgt lv st) (kf : ¬ 0 < x → X p l e R s m args below meth c V E A nL cells slots Q σ (pc + 3) lv st) : X p l e R s m args below meth c V E A nL cells slots Q σ pc lv (.int x :: st) := fun H locs ls h1 h2 h3 => lv_if_gt C.1 C.2.1 d ht (fun h => kt h H locs ls h1 h2 h3) (fun h => kf h H locs ls h1 h2 h3)
theorem x_if_le (C : XC p s m args c cc nL own Ts V E A) {x : Int32} {off : Int} (tgt : Nat) (d : decode cc pc = .ok (.ifCond .le off, 3)) (ht : (pc : Int) + off = (tgt : Int)) (kt : x ≤ 0 → X p l e R s m args below meth c V E A nL cells slots Q σ tgt lv st) (kf : ¬ x ≤ 0 → X p l e R s m args below meth c V E A nL cells slots Q σ (pc + 3) lv st) : X p l e R s m args below meth c V E A nL cells slots Q σ pc lv (.int x :: st) := fun H locs ls h1 h2 h3 => lv_if_le C.1 C.2.1 d ht (fun h => kt h H locs ls h1 h2 h3) (fun h => kf h H locs ls h1 h2 h3)
theorem x_icmp_eq (C : XC p s m args c cc nL own Ts V E A) {x y : Int32} {off : Int} (tgt : Nat) (d : decode cc pc = .ok (.if_icmp .eq off, 3)) (ht : (pc : Int) + off = (tgt : Int)) (kt : x = y → X p l e R s m args below meth c V E A nL cells slots Q σ tgt lv st) (kf : ¬ x = y → X p l e R s m args below meth c V E A nL cells slots Q σ (pc + 3) lv st) : X p l e R s m args below meth c V E A nL cells slots Q σ pc lv (.int y :: .int x :: st) := fun H locs ls h1 h2 h3 => lv_icmp_eq C.1 C.2.1 d ht (fun h => kt h H locs ls h1 h2 h3) (fun h => kf h H locs ls h1 h2 h3)
theorem x_icmp_ne (C : XC p s m args c cc nL own Ts V E A) {x y : Int32} {off : Int} (tgt : Nat) (d : decode cc pc = .ok (.if_icmp .ne off, 3)) (ht : (pc : Int) + off = (tgt : Int)) (kt : ¬ x = y → X p l e R s m args below meth c V E A nL cells slots Q σ tgt lv st) (kf : x = y → X p l e R s m args below meth c V E A nL cells slots Q σ (pc + 3) lv st) : X p l e R s m args below meth c V E A nL cells slots Q σ pc lv (.int y :: .int x :: st) := fun H locs ls h1 h2 h3 => lv_icmp_ne C.1 C.2.1 d ht (fun h => kt h H locs ls h1 h2 h3) (fun h => kf h H locs ls h1 h2 h3)
theorem x_icmp_lt (C : XC p s m args c cc nL own Ts V E A) {x y : Int32} {off : Int} (tgt : Nat) (d : decode cc pc = .ok (.if_icmp .lt off, 3)) (ht : (pc : Int) + off = (tgt : Int)) (kt : x < y → X p l e R s m args below meth c V E A nL cells slots Q σ tgt lv st) (kf : ¬ x < y → X p l e R s m args below meth c V E A nL cells slots Q σ (pc + 3) lv st) : X p l e R s m args below meth c V E A nL cells slots Q σ pc lv (.int y :: .int x :: st) := fun H locs ls h1 h2 h3 => lv_icmp_lt C.1 C.2.1 d ht (fun h => kt h H locs ls h1 h2 h3) (fun h => kf h H locs ls h1 h2 h3)
theorem x_icmp_ge (C : XC p s m args c cc nL own Ts V E A) {x y : Int32} {off : Int} (tgt : Nat) (d : decode cc pc = .ok (.if_icmp .ge off, 3)) (ht : (pc : Int) + off = (tgt : Int)) (kt : y ≤ x → X p l e R s m args below meth c V E A nL cells slots Q σ tgt lv st) (kf : ¬ y ≤ x → X p l e R s m args below meth c V E A nL cells slots Q σ (pc + 3) lv st) : X p l e R s m args below meth c V E A nL cells slots Q σ pc lv (.int y :: .int x :: st) := fun H locs ls h1 h2 h3 => lv_icmp_ge C.1 C.2.1 d ht (fun h => kt h H locs ls h1 h2 h3) (fun h => kf h H locs ls h1 h2 h3)
theorem x_icmp_gt (C : XC p s m args c cc nL own Ts V E A) {x y : Int32} {off : Int} (tgt : Nat) (d : decode cc pc = .ok (.if_icmp .gt off, 3)) (ht : (pc : Int) + off = (tgt : Int)) (kt : y < x → X p l e R s m args below meth c V E A nL cells slots Q σ tgt lv st) (kf : ¬ y < x → X p l e R s m args below meth c V E A nL cells slots Q σ (pc + 3) lv st) : X p l e R s m args below meth c V E A nL cells slots Q σ pc lv (.int y :: .int x :: st) := fun H locs ls h1 h2 h3 => lv_icmp_gt C.1 C.2.1 d ht (fun h => kt h H locs ls h1 h2 h3) (fun h => kf h H locs ls h1 h2 h3)
theorem x_icmp_le (C : XC p s m args c cc nL own Ts V E A) {x y : Int32} {off : Int} (tgt : Nat) (d : decode cc pc = .ok (.if_icmp .le off, 3)) (ht : (pc : Int) + off = (tgt : Int)) (kt : x ≤ y → X p l e R s m args below meth c V E A nL cells slots Q σ tgt lv st) (kf : ¬ x ≤ y → X p l e R s m args below meth c V E A nL cells slots Q σ (pc + 3) lv st) : X p l e R s m args below meth c V E A nL cells slots Q σ pc lv (.int y :: .int x :: st) := fun H locs ls h1 h2 h3 => lv_icmp_le C.1 C.2.1 d ht (fun h => kt h H locs ls h1 h2 h3) (fun h => kf h H locs ls h1 h2 h3)
theorem x_goto (C : XC p s m args c cc nL own Ts V E A) {off : Int} (tgt : Nat) (d : decode cc pc = .ok (.goto off, 3)) (ht : (pc : Int) + off = (tgt : Int)) (k : X p l e R s m args below meth c V E A nL cells slots Q σ tgt lv st) : X p l e R s m args below meth c V E A nL cells slots Q σ pc lv st := fun H locs ls h1 h2 h3 => lv_goto C.1 C.2.1 d ht (k H locs ls h1 h2 h3)
/-- a boolean as the machine has it -/
def bI (b : Bool) : Int32 := if b then 1 else 0
theorem bI_t : bI true = 1 := rfl
theorem bI_f : bI false = 0 := rfl
theorem bI_0 {b : Bool} (h : bI b = 0) : b = false := by cases b; rfl; exact absurd h (by decide)
theorem bI_n {b : Bool} (h : ¬ bI b = 0) : b = true := by cases b; exact absurd rfl h; rfl
theorem x_bif_eq (C : XC p s m args c cc nL own Ts V E A) {b : Bool} {off : Int} (tgt : Nat) (d : decode cc pc = .ok (.ifCond .eq off, 3)) (ht : (pc : Int) + off = (tgt : Int)) (kt : b = false → X p l e R s m args below meth c V E A nL cells slots Q σ tgt lv st) (kf : b = true → X p l e R s m args below meth c V E A nL cells slots Q σ (pc + 3) lv st) : X p l e R s m args below meth c V E A nL cells slots Q σ pc lv (.int (bI b) :: st) := x_if_eq C tgt d ht (fun h => kt (bI_0 h)) (fun h => kf (bI_n h))
theorem x_bif_ne (C : XC p s m args c cc nL own Ts V E A) {b : Bool} {off : Int} (tgt : Nat) (d : decode cc pc = .ok (.ifCond .ne off, 3)) (ht : (pc : Int) + off = (tgt : Int)) (kt : b = true → X p l e R s m args below meth c V E A nL cells slots Q σ tgt lv st) (kf : b = false → X p l e R s m args below meth c V E A nL cells slots Q σ (pc + 3) lv st) : X p l e R s m args below meth c V E A nL cells slots Q σ pc lv (.int (bI b) :: st) := x_if_ne C tgt d ht (fun h => kt (bI_n h)) (fun h => kf (bI_0 h))
theorem bI_1 {b : Bool} (h : bI b = 1) : b = true := by cases b; exact absurd h (by decide); rfl
theorem bI_n1 {b : Bool} (h : ¬ bI b = 1) : b = false := by cases b; rfl; exact absurd rfl h
theorem x_bcmp_ne1 (C : XC p s m args c cc nL own Ts V E A) {b : Bool} {off : Int} (tgt : Nat) (d : decode cc pc = .ok (.if_icmp .ne off, 3)) (ht : (pc : Int) + off = (tgt : Int)) (kt : b = false → X p l e R s m args below meth c V E A nL cells slots Q σ tgt lv st) (kf : b = true → X p l e R s m args below meth c V E A nL cells slots Q σ (pc + 3) lv st) : X p l e R s m args below meth c V E A nL cells slots Q σ pc lv (.int 1 :: .int (bI b) :: st) := x_icmp_ne C tgt d ht (fun h => kt (bI_n1 h)) (fun h => kf (bI_1 h))
theorem x_bcmp_ne0 (C : XC p s m args c cc nL own Ts V E A) {b : Bool} {off : Int} (tgt : Nat) (d : decode cc pc = .ok (.if_icmp .ne off, 3)) (ht : (pc : Int) + off = (tgt : Int)) (kt : b = true → X p l e R s m args below meth c V E A nL cells slots Q σ tgt lv st) (kf : b = false → X p l e R s m args below meth c V E A nL cells slots Q σ (pc + 3) lv st) : X p l e R s m args below meth c V E A nL cells slots Q σ pc lv (.int 0 :: .int (bI b) :: st) := x_icmp_ne C tgt d ht (fun h => kt (bI_n h)) (fun h => kf (bI_0 h))
theorem x_bcmp_eq1 (C : XC p s m args c cc nL own Ts V E A) {b : Bool} {off : Int} (tgt : Nat) (d : decode cc pc = .ok (.if_icmp .eq off, 3)) (ht : (pc : Int) + off = (tgt : Int)) (kt : b = true → X p l e R s m args below meth c V E A nL cells slots Q σ tgt lv st) (kf : b = false → X p l e R s m args below meth c V E A nL cells slots Q σ (pc + 3) lv st) : X p l e R s m args below meth c V E A nL cells slots Q σ pc lv (.int 1 :: .int (bI b) :: st) := x_icmp_eq C tgt d ht (fun h => kt (bI_1 h)) (fun h => kf (bI_n1 h))
theorem x_bcmp_eq0 (C : XC p s m args c cc nL own Ts V E A) {b : Bool} {off : Int} (tgt : Nat) (d : decode cc pc = .ok (.if_icmp .eq off, 3)) (ht : (pc : Int) + off = (tgt : Int)) (kt : b = false → X p l e R s m args below meth c V E A nL cells slots Q σ tgt lv st) (kf : b = true → X p l e R s m args below meth c V E A nL cells slots Q σ (pc + 3) lv st) : X p l e R s m args below meth c V E A nL cells slots Q σ pc lv (.int 0 :: .int (bI b) :: st) := x_icmp_eq C tgt d ht (fun h => kt (bI_0 h)) (fun h => kf (bI_n h))
/-- a value on the stack or in a local by another name -/
theorem x_v {x y : Int32} (h : x = y) (k : X p l e R s m args below meth c V E A nL cells slots Q σ pc lv (.int y :: st)) : X p l e R s m args below meth c V E A nL cells slots Q σ pc lv (.int x :: st) := h ▸ k
theorem x_s {σ' : xS} (h : σ = σ') (k : X p l e R s m args below meth c V E A nL cells slots Q σ' pc lv st) : X p l e R s m args below meth c V E A nL cells slots Q σ pc lv st := h ▸ k
/-- a loop: by a measure, over what its head has -/
theorem x_loop (I : Nat → xS → List (Nat × Value) → Prop) (hI : ∃ n, I n σ lv)
    (body : ∀ (n : Nat) (σ : xS) (lv : List (Nat × Value)), I n σ lv → (∀ (n' : Nat) (σ' : xS) (lv' : List (Nat × Value)), n' < n → I n' σ' lv' → X p l e R s m args below meth c V E A nL cells slots Q σ' pc lv' st) → X p l e R s m args below meth c V E A nL cells slots Q σ pc lv st) : X p l e R s m args below meth c V E A nL cells slots Q σ pc lv st := by
  obtain ⟨n, hn⟩ := hI
  induction n using Nat.strongRecOn generalizing σ lv with
  | _ n ih => exact body n σ lv hn (fun n' σ' lv' hlt h' => ih n' hlt h')
theorem x_lv (ks : List Nat) (lv' : List (Nat × Value)) (h : lv_pick lv ks = lv') (k : X p l e R s m args below meth c V E A nL cells slots Q σ pc lv' st) : X p l e R s m args below meth c V E A nL cells slots Q σ pc lv st := fun H locs ls h1 h2 h3 => k H locs ls h1 h2 (lv_sub h3 ks h)
theorem x_join (σ2 : xS) (pc2 : Nat) (lv2 : List (Nat × Value)) (st2 : List Value) (J : X p l e R s m args below meth c V E A nL cells slots Q σ2 pc2 lv2 st2) (k : X p l e R s m args below meth c V E A nL cells slots Q σ2 pc2 lv2 st2 → X p l e R s m args below meth c V E A nL cells slots Q σ pc lv st) : X p l e R s m args below meth c V E A nL cells slots Q σ pc lv st := k J
theorem x_ss {σ2 : xS} {st2 : List Value} (h : σ = σ2 ∧ st = st2) (k : X p l e R s m args below meth c V E A nL cells slots Q σ2 pc lv st2) : X p l e R s m args below meth c V E A nL cells slots Q σ pc lv st := by
  obtain ⟨rfl, rfl⟩ := h; exact k
theorem x_tswIn (C : XC p s m args c cc nL own Ts V E A) {dflt : Int} {hi j : Nat} {offs : Array Int} {len : Nat} {x : Int32} {off : Int} (tgt : Nat) (hx : x = nI j) (hj : j ≤ hi) (hb : hi < 2 ^ 31) (d : decode cc pc = .ok (.tableswitch dflt 0 hi offs, len)) (ho : offs[j]? = some off) (ht : (pc : Int) + off = (tgt : Int)) (k : X p l e R s m args below meth c V E A nL cells slots Q σ tgt lv st) : X p l e R s m args below meth c V E A nL cells slots Q σ pc lv (.int x :: st) := fun H locs ls h1 h2 h3 => by
  have e : x.toInt = (j : Int) := by rw [hx]; exact nI_toInt (by omega)
  exact lv_tableIn C.1 C.2.1 d (by rw [e]; omega) (by rw [e]; omega) (by rw [e]; simpa using ho) ht (k H locs ls h1 h2 h3)
theorem x_tswOut (C : XC p s m args c cc nL own Ts V E A) {dflt : Int} {hi : Nat} {offs : Array Int} {len : Nat} {x : Int32} (tgt : Nat) (hx : ∀ j, j ≤ hi → x ≠ nI j) (hb : hi < 2 ^ 31) (d : decode cc pc = .ok (.tableswitch dflt 0 hi offs, len)) (ht : (pc : Int) + dflt = (tgt : Int)) (k : X p l e R s m args below meth c V E A nL cells slots Q σ tgt lv st) : X p l e R s m args below meth c V E A nL cells slots Q σ pc lv (.int x :: st) := fun H locs ls h1 h2 h3 => by
  refine lv_tableOut C.1 C.2.1 d ?_ ht (k H locs ls h1 h2 h3)
  by_cases h : x < 0
  · exact Or.inl (Int32.lt_iff_toInt_lt.mp h)
  · obtain ⟨j, hj, rfl⟩ := nI_of h
    right
    rw [nI_toInt hj]
    by_cases hh : j ≤ hi
    · exact absurd rfl (hx j hh)
    · omega
theorem x_iushr (C : XC p s m args c cc nL own Ts V E A) {x y : Int32} (d : decode cc pc = .ok (.iushr, 1)) (k : X p l e R s m args below meth c V E A nL cells slots Q σ (pc + 1) lv (.int ((x.toUInt32 >>> (y.toUInt32 &&& Int32.toUInt32 31)).toInt32) :: st)) : X p l e R s m args below meth c V E A nL cells slots Q σ pc lv (.int y :: .int x :: st) := fun H locs ls h1 h2 h3 => lv_iushr C.1 C.2.1 d rfl (k H locs ls h1 h2 h3)
theorem x_ldc (C : XC p s m args c cc nL own Ts V E A) {i : Nat} (v : Int32) (hc : (Jvm.Cond.constant own i v).before args s = true) (d : decode cc pc = .ok (.ldc i, 2)) (k : X p l e R s m args below meth c V E A nL cells slots Q σ (pc + 2) lv (.int v :: st)) : X p l e R s m args below meth c V E A nL cells slots Q σ pc lv st := fun H locs ls h1 h2 h3 => lv_ldc C.1 C.2.1 C.2.2.2.1 hc d (k H locs ls h1 h2 h3)
theorem x_ldc_w (C : XC p s m args c cc nL own Ts V E A) {i : Nat} (v : Int32) (hc : (Jvm.Cond.constant own i v).before args s = true) (d : decode cc pc = .ok (.ldc_w i, 3)) (k : X p l e R s m args below meth c V E A nL cells slots Q σ (pc + 3) lv (.int v :: st)) : X p l e R s m args below meth c V E A nL cells slots Q σ pc lv st := fun H locs ls h1 h2 h3 => lv_ldcw C.1 C.2.1 C.2.2.2.1 hc d (k H locs ls h1 h2 h3)
theorem x_nm {x : Int32} (k : ∀ y : Int32, y = x → X p l e R s m args below meth c V E A nL cells slots Q σ pc lv (.int y :: st)) : X p l e R s m args below meth c V E A nL cells slots Q σ pc lv (.int x :: st) := k x rfl
theorem x_nmL {x : Int64} (k : ∀ y : Int64, y = x → X p l e R s m args below meth c V E A nL cells slots Q σ pc lv (.long y :: st)) : X p l e R s m args below meth c V E A nL cells slots Q σ pc lv (.long x :: st) := k x rfl
theorem x_i2d (C : XC p s m args c cc nL own Ts V E A) {x : Int32} (d : decode cc pc = .ok (.i2d, 1)) (k : X p l e R s m args below meth c V E A nL cells slots Q σ (pc + 1) lv (.double (FP.i2d x) :: st)) : X p l e R s m args below meth c V E A nL cells slots Q σ pc lv (.int x :: st) := fun H locs ls h1 h2 h3 => lv_i2d C.1 C.2.1 d (k H locs ls h1 h2 h3)
theorem x_ddiv (C : XC p s m args c cc nL own Ts V E A) {x y : UInt64} (hne : vf_n64 (FP.ddiv x y)) (d : decode cc pc = .ok (.ddiv, 1)) (k : X p l e R s m args below meth c V E A nL cells slots Q σ (pc + 1) lv (.double (FP.ddiv x y) :: st)) : X p l e R s m args below meth c V E A nL cells slots Q σ pc lv (.double y :: .double x :: st) := fun H locs ls h1 h2 h3 => lv_ddiv C.1 C.2.1 d hne (k H locs ls h1 h2 h3)
theorem x_dconst0 (C : XC p s m args c cc nL own Ts V E A) (d : decode cc pc = .ok (.dconst 0, 1)) (k : X p l e R s m args below meth c V E A nL cells slots Q σ (pc + 1) lv (.double 0 :: st)) : X p l e R s m args below meth c V E A nL cells slots Q σ pc lv st := fun H locs ls h1 h2 h3 => lv_dconst0 C.1 C.2.1 d (k H locs ls h1 h2 h3)
-- the heap
theorem x_getr (C : XC p s m args c cc nL own Ts V E A) {Cn : String} {T : u_T} {N ci index r : Nat} {fl : List (Nat ⊕ Nat)} (hs : shp r = .inr (ci, fl)) (hc : vwCl[ci]? = some (Cn, T, N)) (hin : ∀ w ∈ u_ws Cn T N, w ∈ Ts) (k : Nat) (hk : k < N) (hlink : (Cond.fieldLink own index Cn (T k).2.1 (T k).2.2.1).before args s = true) (hsame : ∀ x, s.fieldFound? (T k).1 (T k).2.1 (T k).2.2.1 = some x → s.fieldFound? Cn (T k).2.1 (T k).2.2.1 = some x) (hr : r < 94) {r2 : Nat} (hf : fl[k]? = some (.inl r2)) (d : decode cc pc = .ok (.getfield index, 3)) (kk : X p l e R s m args below meth c V E A nL cells slots Q σ (pc + 3) lv (ra V r2 :: st)) : X p l e R s m args below meth c V E A nL cells slots Q σ pc lv (ra V r :: st) := fun H locs ls h1 h2 h3 =>
  va_get (D := V.1) (ci := ci) C.1 C.2.1 C.2.2.2.2.1 hin C.2.2.2.1 C.2.2.2.2.2.1.1 h1 (E.length + r) (by rw [xpl_at hr, xel_obj hs]) hc k hk hlink hsame (v := ra V r2) (by rw [List.getElem?_map, hf]; rfl) d (kk H locs ls h1 h2 h3)
theorem x_geti (C : XC p s m args c cc nL own Ts V E A) {Cn : String} {T : u_T} {N ci index r : Nat} {fl : List (Nat ⊕ Nat)} (hs : shp r = .inr (ci, fl)) (hc : vwCl[ci]? = some (Cn, T, N)) (hin : ∀ w ∈ u_ws Cn T N, w ∈ Ts) (k : Nat) (hk : k < N) (hlink : (Cond.fieldLink own index Cn (T k).2.1 (T k).2.2.1).before args s = true) (hsame : ∀ x, s.fieldFound? (T k).1 (T k).2.1 (T k).2.2.1 = some x → s.fieldFound? Cn (T k).2.1 (T k).2.2.1 = some x) (hr : r < 94) {q : Nat} (hf : fl[k]? = some (.inr q)) (d : decode cc pc = .ok (.getfield index, 3)) (kk : X p l e R s m args below meth c V E A nL cells slots Q σ (pc + 3) lv (.int (σ q 0) :: st)) : X p l e R s m args below meth c V E A nL cells slots Q σ pc lv (ra V r :: st) := fun H locs ls h1 h2 h3 =>
  va_get (D := V.1) (ci := ci) C.1 C.2.1 C.2.2.2.2.1 hin C.2.2.2.1 C.2.2.2.2.2.1.1 h1 (E.length + r) (by rw [xpl_at hr, xel_obj hs]) hc k hk hlink hsame (v := .int (σ q 0)) (by rw [List.getElem?_map, hf]; rfl) d (kk H locs ls h1 h2 h3)
/-- one number of the state changed -/
def xw (σ : xS) (r j : Nat) (x : Int32) : xS := fun a b => if a = r ∧ b = j then x else σ a b
theorem xw_at (σ : xS) (r j : Nat) (x : Int32) : xw σ r j x r j = x := by simp [xw]
theorem xw_ne (σ : xS) {r a : Nat} (j : Nat) (x : Int32) (h : a ≠ r) : xw σ r j x a = σ a := by funext b; simp [xw, h]
theorem xw_row (σ : xS) (r j : Nat) (x : Int32) : xw σ r j x r = upd (σ r) j x := by funext b; by_cases h : b = j <;> simp [xw, upd, h]
theorem xel_ne {V : xV} {σ : xS} {r j k : Nat} {x : Int32} (hr : r < 94) (h : k ≠ r) : xel V (xw σ r j x) k = xel V σ k := by
  unfold xel
  cases hs : shp k with
  | inl o => simp only [xw_ne σ j x h]
  | inr o =>
    simp only
    congr 2
    apply List.map_congr_left
    intro y hy
    cases y with
    | inl q => rfl
    | inr q =>
      have : q ≠ r := by
        intro e
        have hq := xint_hi hs hy
        omega
      simp only [xfv, xw_ne σ j x this]
theorem xast_eq {r n i : Nat} {x : Int32} (ha : shp r = .inl (0, n)) : (E ++ xpl V σ).set (E.length + r) (xad V r, .inl (V.2.1, n, .inl (upd (σ r) i x))) = E ++ xpl V (xw σ r i x) :=
  xpl_set (shp_ltA ha) _ (by rw [xel_arr ha, xw_row]) (fun j hj => xel_ne (shp_ltA ha) hj)
theorem xput_eq {r ci k q : Nat} {fl : List (Nat ⊕ Nat)} {v : Int32} (hs : shp r = .inr (ci, fl)) (hf : fl[k]? = some (.inr q)) (hone : Sum.inr q ∉ fl.set k (.inl 0)) (ho : xown q r) (hq : 94 ≤ q) (hr : r < 94) : (E ++ xpl V σ).set (E.length + r) (xad V r, .inr (ci, (fl.map (xfv V σ)).set k (.int v))) = E ++ xpl V (xw σ q 0 v) := by
  refine xpl_set hr _ ?_ (fun j hj => ?_)
  · rw [xel_obj hs]
    congr 2
    apply List.ext_getElem?
    intro j
    by_cases hj : j = k
    · subst hj
      rw [List.getElem?_set_self (by rw [List.length_map]; exact (List.getElem?_eq_some_iff.mp hf).1), List.getElem?_map, hf]
      simp [xfv, xw]
    · rw [List.getElem?_set_ne (by omega), List.getElem?_map, List.getElem?_map]
      cases hj2 : fl[j]? with
      | none => rfl
      | some y =>
        have hm : y ∈ fl.set k (.inl 0) := by
          apply List.mem_of_getElem? (i := j)
          rw [List.getElem?_set_ne (by omega)]
          exact hj2
        cases y with
        | inl z => rfl
        | inr z =>
          have : z ≠ q := fun e => hone (e ▸ hm)
          simp [xfv, xw_ne σ 0 v this]
  · unfold xel
    cases hs2 : shp j with
    | inl o =>
      have : j < 94 := shp_ltA (t := o.1) (n := o.2) hs2
      simp only [xw_ne σ 0 v (show j ≠ q by omega)]
    | inr o =>
      simp only
      congr 2
      apply List.map_congr_left
      intro y hy
      cases y with
      | inl z => rfl
      | inr z =>
        have : z ≠ q := fun e => ho j hj o.1 o.2 hs2 (e ▸ hy)
        simp only [xfv, xw_ne σ 0 v this]
theorem x_puti (C : XC p s m args c cc nL own Ts V E A) {Cn : String} {T : u_T} {N ci index r : Nat} {fl : List (Nat ⊕ Nat)} (hs : shp r = .inr (ci, fl)) (hc : vwCl[ci]? = some (Cn, T, N)) (hin : ∀ w ∈ u_ws Cn T N, w ∈ Ts) (k : Nat) (hk : k < N) (hlink : (Cond.fieldLink own index Cn (T k).2.1 (T k).2.2.1).before args s = true) (hsame : ∀ x, s.fieldFound? (T k).1 (T k).2.1 (T k).2.2.1 = some x → s.fieldFound? Cn (T k).2.1 (T k).2.2.1 = some x) (hr : r < 94) {q : Nat} (hf : fl[k]? = some (.inr q)) (hone : (fl.set k (.inl 0)).all (fun x => decide (x ≠ Sum.inr q)) = true) (hown : xownB q r = true) (hq : 94 ≤ q) {ty : FieldType} {v : Int32} (hfin : (T k).2.2.2 = false) (ty0 : Nat → FieldType) (hty : ∀ k, k < N → parseFieldDescriptor (T k).2.2.1 = some (ty0 k)) (hnm : ∀ a, a < N → ∀ b, b < N → a ≠ b → (T a).2.1 ≠ (T b).2.1) (hd : parseFieldDescriptor (T k).2.2.1 = some ty) (hn : narrow ty (.int v) = .int v) (hfit : fits ty (.int v) = true) (d : decode cc pc = .ok (.putfield index, 3)) (kk : X p l e R s m args below meth c V E A nL cells slots Q (xw σ q 0 v) (pc + 3) lv st) : X p l e R s m args below meth c V E A nL cells slots Q σ pc lv (.int v :: ra V r :: st) := fun H locs ls h1 h2 h3 =>
  va_put (D := V.1) (ci := ci) C.1 C.2.1 C.2.2.2.2.1 hin ty0 hty hnm C.2.2.2.1 C.2.2.2.2.2.1.1 h1 (C.2.2.2.2.2.2.1 σ) h2 (E.length + r) (by rw [xpl_at hr, xel_obj hs]) hc k hk hlink hsame hfin hd hn hfit (by rw [List.length_map]; exact (List.getElem?_eq_some_iff.mp hf).1) d (fun H1 l1 g1 _ g3 => kk H1 l1 ls (xput_eq hs hf (fun hm => by have := List.all_eq_true.mp hone _ hm; simp at this) (xown_of hown) hq hr ▸ g1) g3 h3)
theorem x_iald (C : XC p s m args c cc nL own Ts V E A) {r n : Nat} (ha : shp r = .inl (0, n)) {i : Int32} (hi : vp_in i n) (d : decode cc pc = .ok (.iaload, 1)) (kk : X p l e R s m args below meth c V E A nL cells slots Q σ (pc + 1) lv (.int (σ r i.toNatClampNeg) :: st)) : X p l e R s m args below meth c V E A nL cells slots Q σ pc lv (.int i :: ra V r :: st) := fun H locs ls h1 h2 h3 =>
  va_iald (D := V.1) C.1 C.2.1 C.2.2.2.2.2.1.1 h1 (E.length + r) 0 (by rw [xpl_at (shp_ltA ha), xel_arr ha]) rfl hi d (kk H locs ls h1 h2 h3)
theorem x_iast (C : XC p s m args c cc nL own Ts V E A) {r n : Nat} (ha : shp r = .inl (0, n)) {i x : Int32} (hi : vp_in i n) (d : decode cc pc = .ok (.iastore, 1)) (kk : X p l e R s m args below meth c V E A nL cells slots Q (xw σ r i.toNatClampNeg x) (pc + 1) lv st) : X p l e R s m args below meth c V E A nL cells slots Q σ pc lv (.int x :: .int i :: ra V r :: st) := fun H locs ls h1 h2 h3 =>
  va_iast (D := V.1) C.1 C.2.1 C.2.2.2.2.2.1.1 h1 (C.2.2.2.2.2.2.1 σ) h2 (E.length + r) 0 (by rw [xpl_at (shp_ltA ha), xel_arr ha]) rfl hi d (fun H1 l1 g1 _ g3 => kk H1 l1 ls (xast_eq ha ▸ g1) g3 h3)
theorem x_alen (C : XC p s m args c cc nL own Ts V E A) {r n : Nat} (ha : shp r = .inl (0, n)) (d : decode cc pc = .ok (.arraylength, 1)) (kk : X p l e R s m args below meth c V E A nL cells slots Q σ (pc + 1) lv (.int (nI n) :: st)) : X p l e R s m args below meth c V E A nL cells slots Q σ pc lv (ra V r :: st) := fun H locs ls h1 h2 h3 =>
  va_alen (D := V.1) (ty := .int) (x := (n, .inl (σ r))) C.1 C.2.1 C.2.2.2.2.2.1.1 h1 (E.length + r) 0 (by rw [xpl_at (shp_ltA ha), xel_arr ha]) rfl rfl d (kk H locs ls h1 h2 h3)
-- calls
/-- behind a call over the world -/
theorem x_go {st0 rest : List Value} {a : Array Value} {Rr : Option Value → xS → Prop} (C : XC p s m args c cc nL own Ts V E A)
    (hr : ∀ (H : Heap) (locs : List Loc) (ls : Array Slot), va_P V.1 vwCl (E ++ xpl V σ) H → lv_has ls nL lv → va_Run p l e R s m args below meth c H locs cells slots 0 0 (F0 m pc ls st0) rest (xOut V Rr a) (inR V))
    (kk : ∀ v σ', Rr v σ' → X p l e R s m args below meth c V E A nL cells slots Q σ' (pc + 3) lv (v.toList ++ rest)) : X p l e R s m args below meth c V E A nL cells slots Q σ pc lv st0 := by
  intro H locs ls h1 h2 h3 T hT X9
  obtain ⟨v, st₀, t, T', L, h0, X', hL, e1, e2, ⟨⟨v', σ', hv, hR, hb⟩, hz, hk⟩, st9⟩ := hr H locs ls h1 h3 T hT X9
  cases hv
  rw [h0] at hz hk
  have hE : va_P V.1 vwCl (E ++ xpl V σ') T'.heap := by
    rw [e1]
    refine va_P.app (fun k q hq => ?_) hb
    have hq9 : (E ++ xpl V σ)[k]? = some q := by
      rw [List.getElem?_append_left (List.getElem?_eq_some_iff.mp hq).1]; exact hq
    have hl := (h1 k q hq9).lt
    refine (h1 k q hq9).kept (hk q.1 hl (fun hin => ?_))
    obtain ⟨j, hj, he⟩ := hin
    have := (C.2.2.2.2.2.2.1 σ).1 k (E.length + j) q _ hq9 (xpl_at hj) he
    have hkl := (List.getElem?_eq_some_iff.mp hq).1
    omega
  obtain ⟨t2, a1, b1⟩ := kk v σ' hR T'.heap (locs ++ L) ls hE
    ⟨Nat.le_trans h2.1 (by rw [e1]; exact hz), fun q g1 g2 => by rw [e1, hk q (Nat.lt_of_lt_of_le g1 h2.1) (fun z => g2 (C.2.2.2.2.2.2.2 q z))]; exact h2.2.1 q g1 g2, fun q hq => by
      rcases List.mem_append.mp hq with h | h
      · exact h2.2.2 q h
      · exact C.2.2.2.2.2.2.2 _ (hL q h)⟩ h3 T' rfl X'
  exact ⟨t2, st9 t2 a1, b1⟩
theorem xPc_blind {V : xV} {av : List Value} {σ : xS} : FrameBlind (xPc V av σ) := fun a U g mk h => ⟨h.1, h.2.1, va_K.moved (u := U) (U := U.calling g mk a) (Vm.Alike.refl U.vm) h.2.2.1, xN.same (s := U) (U := U.calling g mk a) rfl h.2.2.2⟩
theorem xK.warm {V : xV} {s U : State} (hW : s.WarmedH U.vm) (h : xK V s) : xK V U := ⟨va_K.moved hW.alike h.1, h.2.warm hW⟩
theorem xP_of {H : Heap} (h : va_P V.1 vwCl (E ++ xpl V σ) H) : va_P V.1 vwCl (xpl V σ) H := fun k q hq => by
  have hl := (List.getElem?_eq_some_iff.mp hq).1
  refine h (E.length + k) q ?_
  rw [List.getElem?_append_right (by omega), Nat.add_sub_cancel_left]
  exact hq
theorem xPre (C : XC p s m args c cc nL own Ts V E A) {av : List Value} {H : Heap} (h : va_P V.1 vwCl (E ++ xpl V σ) H) : ∀ U : State, U.heap = H → s.WarmedH U.vm → xPc V av σ av.toArray U := fun U hU hW => ⟨rfl, by rw [hU]; exact xP_of h, C.2.2.2.2.2.1.warm hW⟩
theorem x_recv (C : XC p s m args c cc nL own Ts V E A) {H : Heap} (h : va_P V.1 vwCl (E ++ xpl V σ) H) {r ci : Nat} {fl : List (Nat ⊕ Nat)} {q : vw_C} (hs : shp r = .inr (ci, fl)) (hr : r < 94) (hc : vwCl[ci]? = some q) : ∃ cell : Cell, H[xad V r]? = some cell ∧ cell.vm.isStatics = false ∧ s.vm.findClass q.1 = some cell.cls :=
  va_recv C.2.2.2.2.2.1.1 h (q0 := E.length + r) hc (by rw [xpl_at hr, xel_obj hs])
theorem x_callV (C : XC p s m args c cc nL own Ts V E A) {y : MethodName} {bytes : ByteArray} {maxL n index : Nat} {ret : Option FieldType} {ws : List Cond} {rm : Room} {Rr : Option Value → xS → Prop} {stk : List Value} {r ci : Nat} {fl : List (Nat ⊕ Nat)} {Cn : String} {T : u_T} {N : Nat} (hs : shp r = .inr (ci, fl)) (hr : r < 94) (hc : vwCl[ci]? = some (Cn, T, N)) (As : List Value) (M : xM l y ws rm V (ra V r :: As) σ Rr) (cw : CallW R s args own Cn index y bytes maxL ret ws rm 0 0 n) (hn : As.length = n) (hst : stk = As.reverse ++ ra V r :: st) (hW : (st.map fun v => v.category).sum ≤ 8) (d : decode cc pc = .ok (.invokevirtual index, 3)) (hcs : cells + 0 ≤ R.cells ∧ slots + 0 ≤ R.slots) (kk : ∀ v σ', Rr v σ' → X p l e R s m args below meth c V E A nL cells slots Q σ' (pc + 3) lv (v.toList ++ st)) : X p l e R s m args below meth c V E A nL cells slots Q σ pc lv stk := by
  subst hst
  refine x_go (a := (ra V r :: As).toArray) C (fun H locs ls h1 h3 => ?_) kk
  exact va_runV (C := Cn) (b := xad V r) ⟨C.1, C.2.1, C.2.2.1, C.2.2.2.1, C.2.2.2.2.1⟩ M cw ⟨xPc_blind, x_recv C h1 hs hr hc, xPre C (av := ra V r :: As) h1⟩ rfl hn h3.1 rfl (lv_room hW) d hcs
theorem x_callVN (C : XC p s m args c cc nL own Ts V E A) {host : String} {y : MethodName} {bytes : ByteArray} {maxL n index : Nat} {ret : Option FieldType} {ws : List Cond} {rm : Room} {Rr : Option Value → xS → Prop} {stk : List Value} {r ci : Nat} {fl : List (Nat ⊕ Nat)} {Cn : String} {T : u_T} {N : Nat} (hs : shp r = .inr (ci, fl)) (hr : r < 94) (hc : vwCl[ci]? = some (Cn, T, N)) (As : List Value) (M : xM l y ws rm V (ra V r :: As) σ Rr) (cw : va_CN R s args own index y host bytes maxL ret ws rm 0 0 n ∧ (Cond.instanceMethod y).before args s = true ∧ (Cond.selects Cn y y).before args s = true) (hn : As.length = n) (hst : stk = As.reverse ++ ra V r :: st) (hW : (st.map fun v => v.category).sum ≤ 8) (d : decode cc pc = .ok (.invokevirtual index, 3)) (hcs : cells + 0 ≤ R.cells ∧ slots + 0 ≤ R.slots) (kk : ∀ v σ', Rr v σ' → X p l e R s m args below meth c V E A nL cells slots Q σ' (pc + 3) lv (v.toList ++ st)) : X p l e R s m args below meth c V E A nL cells slots Q σ pc lv stk := by
  subst hst
  refine x_go (a := (ra V r :: As).toArray) C (fun H locs ls h1 h3 => ?_) kk
  exact va_runVN (C := Cn) (b := xad V r) ⟨C.1, C.2.1, C.2.2.1, C.2.2.2.1, C.2.2.2.2.1⟩ M cw ⟨xPc_blind, x_recv C h1 hs hr hc, xPre C (av := ra V r :: As) h1⟩ rfl hn h3.1 rfl (lv_room hW) d hcs
theorem x_callS (C : XC p s m args c cc nL own Ts V E A) {y : MethodName} {bytes : ByteArray} {maxL n index : Nat} {ret : Option FieldType} {ws : List Cond} {rm : Room} {Rr : Option Value → xS → Prop} {stk : List Value} (As : List Value) (M : xM l y ws rm V As σ Rr) (cw : CallB R s args own index y bytes maxL ret ws rm 0 0 n ∧ (Cond.static y).before args s = true) (hn : As.length = n) (hst : stk = As.reverse ++ st) (hW : (st.map fun v => v.category).sum ≤ 8) (d : decode cc pc = .ok (.invokestatic index, 3)) (hcs : cells + 0 ≤ R.cells ∧ slots + 0 ≤ R.slots) (kk : ∀ v σ', Rr v σ' → X p l e R s m args below meth c V E A nL cells slots Q σ' (pc + 3) lv (v.toList ++ st)) : X p l e R s m args below meth c V E A nL cells slots Q σ pc lv stk := by
  subst hst
  refine x_go (a := As.toArray) C (fun H locs ls h1 h3 => ?_) kk
  exact va_runS ⟨C.1, C.2.1, C.2.2.1, C.2.2.2.1, C.2.2.2.2.1⟩ M cw ⟨xPc_blind, xPre C (av := As) h1⟩ rfl hn h3.1 rfl (lv_room hW) d hcs
theorem x_callSN (C : XC p s m args c cc nL own Ts V E A) {host : String} {y : MethodName} {bytes : ByteArray} {maxL n index : Nat} {ret : Option FieldType} {ws : List Cond} {rm : Room} {Rr : Option Value → xS → Prop} {stk : List Value} (As : List Value) (M : xM l y ws rm V As σ Rr) (cw : va_CN R s args own index y host bytes maxL ret ws rm 0 0 n ∧ (Cond.static y).before args s = true ∧ True) (hn : As.length = n) (hst : stk = As.reverse ++ st) (hW : (st.map fun v => v.category).sum ≤ 8) (d : decode cc pc = .ok (.invokestatic index, 3)) (hcs : cells + 0 ≤ R.cells ∧ slots + 0 ≤ R.slots) (kk : ∀ v σ', Rr v σ' → X p l e R s m args below meth c V E A nL cells slots Q σ' (pc + 3) lv (v.toList ++ st)) : X p l e R s m args below meth c V E A nL cells slots Q σ pc lv stk := by
  subst hst
  refine x_go (a := As.toArray) C (fun H locs ls h1 h3 => ?_) kk
  exact va_runSN ⟨C.1, C.2.1, C.2.2.1, C.2.2.2.1, C.2.2.2.2.1⟩ M cw ⟨xPc_blind, xPre C (av := As) h1⟩ rfl hn h3.1 rfl (lv_room hW) d hcs
theorem x_kI {x : Int32} {σ2 : xS} (k : X p l e R s m args below meth c V E A nL cells slots Q σ2 (pc + 3) lv (.int x :: st)) : ∀ v σ', rI x σ2 v σ' → X p l e R s m args below meth c V E A nL cells slots Q σ' (pc + 3) lv (v.toList ++ st) := by
  rintro v σ' ⟨rfl, rfl⟩; exact k
theorem x_kL {x : Int64} {σ2 : xS} (k : X p l e R s m args below meth c V E A nL cells slots Q σ2 (pc + 3) lv (.long x :: st)) : ∀ v σ', rL x σ2 v σ' → X p l e R s m args below meth c V E A nL cells slots Q σ' (pc + 3) lv (v.toList ++ st) := by
  rintro v σ' ⟨rfl, rfl⟩; exact k
theorem x_kV {σ2 : xS} (k : X p l e R s m args below meth c V E A nL cells slots Q σ2 (pc + 3) lv st) : ∀ v σ', rV σ2 v σ' → X p l e R s m args below meth c V E A nL cells slots Q σ' (pc + 3) lv (v.toList ++ st) := by
  rintro v σ' ⟨rfl, rfl⟩; exact k
end XW
section XR
variable {p : Program} {l : Launch} {e : Env} {R : Room} {s : State} {m : MethodId} {args : Array Value} {below : List Frame} {meth : Method} {c : Code} {V : xV} {A : Nat → Prop} {nL : Nat} {cc : ByteArray} {own : String} {Ts : List Cond} {σ : xS} {pc : Nat} {lv : List (Nat × Value)} {Rr : Option Value → xS → Prop}
theorem x_iret (C : XC p s m args c cc nL own Ts V [] (inR V)) {v : Int32} (hr : meth.sig.returnType = some .int) (hlk : meth.locks = false) (d : decode cc pc = .ok (.ireturn, 1)) (h : Rr (some (.int v)) σ) : X p l e R s m args below meth c V [] (inR V) nL 0 0 (MQ below (xOut V Rr) args s 0 0 (inR V)) σ pc lv [.int v] := fun H locs ls h1 h2 h3 =>
  W.iret C.1 C.2.1 hr (fun t ht hW => ⟨⟨_, σ, rfl, h, by rw [ht]; exact h1⟩, h2.F ht⟩) h2.2.2 d hlk
theorem bI_nar (b : Bool) : narrow .boolean (.int (bI b)) = .int (bI b) := by cases b <;> rfl
theorem x_zret (C : XC p s m args c cc nL own Ts V [] (inR V)) (b : Bool) {v : Int32} (hv : v = bI b) (hr : meth.sig.returnType = some .boolean) (hlk : meth.locks = false) (d : decode cc pc = .ok (.ireturn, 1)) (h : Rr (some (.int (bI b))) σ) : X p l e R s m args below meth c V [] (inR V) nL 0 0 (MQ below (xOut V Rr) args s 0 0 (inR V)) σ pc lv [.int v] := by
  subst hv
  exact fun H locs ls h1 h2 h3 => W.zret C.1 C.2.1 hr (bI_nar b) (fun t ht hW => ⟨⟨_, σ, rfl, h, by rw [ht]; exact h1⟩, h2.F ht⟩) h2.2.2 d hlk
theorem x_lret (C : XC p s m args c cc nL own Ts V [] (inR V)) {v : Int64} (hr : meth.sig.returnType = some .long) (hlk : meth.locks = false) (d : decode cc pc = .ok (.lreturn, 1)) (h : Rr (some (.long v)) σ) : X p l e R s m args below meth c V [] (inR V) nL 0 0 (MQ below (xOut V Rr) args s 0 0 (inR V)) σ pc lv [.long v] := fun H locs ls h1 h2 h3 =>
  W.lret C.1 C.2.1 hr (fun t ht hW => ⟨⟨_, σ, rfl, h, by rw [ht]; exact h1⟩, h2.F ht⟩) h2.2.2 d hlk
theorem x_dret (C : XC p s m args c cc nL own Ts V [] (inR V)) {v : UInt64} (hr : meth.sig.returnType = some .double) (hlk : meth.locks = false) (d : decode cc pc = .ok (.dreturn, 1)) (h : Rr (some (.double v)) σ) : X p l e R s m args below meth c V [] (inR V) nL 0 0 (MQ below (xOut V Rr) args s 0 0 (inR V)) σ pc lv [.double v] := fun H locs ls h1 h2 h3 =>
  W.dret C.1 C.2.1 hr (fun t ht hW => ⟨⟨_, σ, rfl, h, by rw [ht]; exact h1⟩, h2.F ht⟩) h2.2.2 d hlk
theorem bI_vp (b : Bool) : vp_nar .boolean (bI b) = bI b := by cases b <;> rfl
theorem bI_fit (b : Bool) : fits .boolean (.int (bI b)) = true := by cases b <;> rfl
theorem x_vret (C : XC p s m args c cc nL own Ts V [] (inR V)) (hr : meth.sig.returnType = none) (hlk : meth.locks = false) (d : decode cc pc = .ok (.return_, 1)) (h : Rr none σ) : X p l e R s m args below meth c V [] (inR V) nL 0 0 (MQ below (xOut V Rr) args s 0 0 (inR V)) σ pc lv [] := fun H locs ls h1 h2 h3 =>
  W.vret C.1 C.2.1 hr (fun t ht hW => ⟨⟨_, σ, rfl, h, by rw [ht]; exact h1⟩, h2.F ht⟩) h2.2.2 d hlk
theorem xD_of (hV : xInj V) (σ : xS) : va_D (inR V) ([] ++ xpl V σ) := by
  rw [List.nil_append]
  refine ⟨fun i j p q hi hj he => ?_, fun k q hq => ?_⟩
  · have h1 := (List.getElem?_eq_some_iff.mp hi).1
    have h2 := (List.getElem?_eq_some_iff.mp hj).1
    rw [xpl_len] at h1 h2
    rw [xpl_get h1] at hi
    rw [xpl_get h2] at hj
    cases hi; cases hj
    exact hV i j h1 h2 he
  · have h1 := (List.getElem?_eq_some_iff.mp hq).1
    rw [xpl_len] at h1
    rw [xpl_get h1] at hq
    cases hq
    exact ⟨k, h1, rfl⟩
/-- a contract out of its walk -/
theorem xM_of {y : MethodName} {ws ws' : List Cond} {rm : Room} {av : List Value} {maxL : Nat} {ret : Option FieldType} (lv0 : List (Nat × Value)) (hV : xInj V) (hy : plainName y.cls = true) (hw : ws = Cond.code y cc maxL ret :: ws') (hlv : lv_args 0 av = lv0) (hlen : (lg_sl av).length ≤ maxL)
    (body : ∀ p e s m args below meth c, XC p s m args c cc maxL y.cls ws V [] (inR V) → meth.sig.returnType = ret → meth.locks = false → X p l e (headSpec ws rm).room s m args below meth c V [] (inR V) maxL 0 0 (MQ below (xOut V Rr) args s 0 0 (inR V)) σ 0 lv0 []) : xM l y ws rm V av σ Rr := by
  refine Met.ofW (cc := cc) (maxL := maxL) (ret := ret) hy hw ?_
  intro p e s m args below meth c s₁ B hml hv
  obtain ⟨rfl, hP, hK⟩ := hv
  have C : XC p s m av.toArray c cc maxL y.cls ws V [] (inR V) := ⟨B.exec, B.bytes, hml, findClass_of_methodNamed B.named, atoms_spec (ws := ws) B.pre, hK, fun σ => xD_of hV σ, fun q h => h⟩
  have hl := lv_entry av (n := maxL) hlen
  rw [hlv] at hl
  rw [lg_entry_eq]
  exact body p e s m av.toArray below meth c C B.returns B.notSynchronized s.heap [] _ (by rw [List.nil_append]; exact hP) va_S.rf hl
end XR

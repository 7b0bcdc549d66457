/-! The inspector. -/
def nteP (kd el : Int32) : Int32 := (kd - 1) * 50 + el
def nte (σ : xS) (kd el c : Int32) : xS := vPut σ 84 600 (nteP kd el) (vAt 600 (σ 84) (nteP kd el) ||| ((1 : Int32) <<< (c &&& 31)))
def ckLS (c : Int32) (τ : xS) (i : Int32) : xS := if cTr τ 1 i = true ∧ isThB τ 0 (vAt 12 (τ 24) i) = true ∧ isThB τ 0 (vAt 12 (τ 26) i) = false then nte τ 1 i c else τ
def ckL (σ : xS) (c : Int32) : xS := upN (ckLS c) (σ 202 0).toNatClampNeg σ
def cntN (σ : xS) (o : Int32) : Nat → Int32
  | 0 => 0
  | k + 1 => if isThB σ 1 (nI k) = true ∧ vAt 12 (σ 24) (nI k) = o then cntN σ o k + 1 else cntN σ o k
def cntL (σ : xS) (o : Int32) : Int32 := cntN σ o (σ 202 0).toNatClampNeg
def ckC1 (c : Int32) (τ : xS) (i : Int32) : xS := if isThB τ 0 i = true ∧ ¬ cntL τ i ≤ 1 then nte τ 2 i c else τ
def ckCS (c : Int32) (τ : xS) (i : Int32) : xS := if isThB (ckC1 c τ i) 0 i = true ∧ isUnB (ckC1 c τ i) i i = true then nte (ckC1 c τ i) 3 i c else ckC1 c τ i
def ckC (σ : xS) (c : Int32) : xS := upN (ckCS c) (σ 201 0).toNatClampNeg σ
def unlI (σ : xS) (m : Int32) : Bool :=
  if vAt 8 (σ 73) (vAt 24 (σ 38) m) = -1 then false
  else if lookU σ (vAt 8 (σ 73) (vAt 24 (σ 38) m)) (vAt 24 (σ 40) m) 1 = -1 then false
  else if lookU σ (vAt 8 (σ 73) (vAt 24 (σ 38) m)) (vAt 24 (σ 40) m) 1 = m then false
  else !(decide (mPar σ m 0 = mPar σ (lookU σ (vAt 8 (σ 73) (vAt 24 (σ 38) m)) (vAt 24 (σ 40) m) 1) 0) && (decide (mPar σ m 1 = mPar σ (lookU σ (vAt 8 (σ 73) (vAt 24 (σ 38) m)) (vAt 24 (σ 40) m) 1) 1) && fitB σ (vAt 24 (σ 42) m) (vAt 24 (σ 42) (lookU σ (vAt 8 (σ 73) (vAt 24 (σ 38) m)) (vAt 24 (σ 40) m) 1))))
def ckM1 (c : Int32) (σ : xS) (m : Int32) : xS := if missB σ (vAt 24 (σ 42) m) = true ∨ missB σ (mPar σ m 0) = true ∨ missB σ (mPar σ m 1) = true then nte σ 5 m c else σ
def ckM2 (c : Int32) (σ : xS) (m : Int32) : xS := if isRep σ m = true then nte σ 6 m c else σ
def ckM3 (c : Int32) (σ : xS) (m : Int32) : xS := if vAt 24 (σ 36) m = 1 ∧ unlI σ m = true then nte σ 7 m c else σ
def ckM0 (c : Int32) (σ : xS) (m : Int32) : xS := ckM3 c (ckM2 c (ckM1 c σ m) m) m
def ckMS (c : Int32) (τ : xS) (i : Int32) : xS := if isThB τ 2 i = true then ckM0 c τ i else if cTr τ 2 i = true then nte τ 4 i c else τ
def ckM (σ : xS) (c : Int32) : xS := upN (ckMS c) (σ 203 0).toNatClampNeg σ
def ckES (c : Int32) (τ : xS) (i : Int32) : xS := if vAt 50 (τ 79) i = 0 then τ else nte τ (vAt 50 (τ 79) i) i c
def ckE (σ : xS) (c : Int32) : xS := upN (ckES c) (σ 205 0).toNatClampNeg σ
def ckXS (c : Int32) (τ : xS) (i : Int32) : xS := if isThB τ 3 i = true ∧ ¬ tyIn τ (vAt 16 (τ 68) i) c < 0 ∧ fitB τ (tyIn τ (vAt 16 (τ 68) i) c) (vAt 24 (τ 42) (resM τ i)) = false then nte τ 12 i c else τ
def ckX (σ : xS) (c : Int32) : xS := upN (ckXS c) (σ 204 0).toNatClampNeg σ
def nbS (τ : xS) (i : Int32) : xS := if vAt 600 (τ 84) i = 0 then τ else xw (vPut τ 86 600 (τ 207 0) i) 207 0 (τ 207 0 + 1)
def numb (σ : xS) : xS := upN nbS 600 (xw σ 207 0 0)
def insS (ps : Int32) (τ : xS) (c : Int32) : xS := if isInB ps c = true then ckX (ckE (ckM (ckC (ckL (gts (look τ c)) c) c) c) c) c else τ
def insp (σ : xS) (ps : Int32) : xS := numb (upN (insS ps) 16 (vFill σ 84 600 0))
def kndO (σ : xS) (i : Int32) : Int32 := vAt 600 (σ 86) i / 50 + 1
def elmO (σ : xS) (i : Int32) : Int32 := vAt 600 (σ 86) i - vAt 600 (σ 86) i / 50 * 50
def prdO (σ : xS) (i : Int32) : Int32 := vAt 600 (σ 84) (vAt 600 (σ 86) i)
def szIN (σ : xS) (c : Int32) : Nat → Int32
  | 0 => 0
  | k + 1 => if isInB (prdO σ (nI k)) c = true then szIN σ c k + 1 else szIN σ c k
def szI (σ : xS) (c : Int32) : Int32 := szIN σ c (σ 207 0).toNatClampNeg
def wrgN (σ : xS) : Nat → Int32
  | 0 => 0
  | k + 1 => wrgN σ k ||| prdO σ (nI k)
def wrg (σ : xS) : Int32 := wrgN σ (σ 207 0).toNatClampNeg
theorem nte_keep {r : Nat} (h : r ≠ 84) (σ : xS) (a b c : Int32) : nte σ a b c r = σ r := vPut_ne h
theorem ckLS_keep {r : Nat} (h : r ≠ 84) (c : Int32) (τ : xS) (i : Int32) : ckLS c τ i r = τ r := by unfold ckLS; split <;> simp [nte_keep h]
theorem ckC1_keep {r : Nat} (h : r ≠ 84) (c : Int32) (τ : xS) (i : Int32) : ckC1 c τ i r = τ r := by unfold ckC1; split <;> simp [nte_keep h]
theorem ckCS_keep {r : Nat} (h : r ≠ 84) (c : Int32) (τ : xS) (i : Int32) : ckCS c τ i r = τ r := by unfold ckCS; split <;> simp [nte_keep h, ckC1_keep h]
theorem ckM1_keep {r : Nat} (h : r ≠ 84) (c : Int32) (τ : xS) (i : Int32) : ckM1 c τ i r = τ r := by unfold ckM1; split <;> simp [nte_keep h]
theorem ckM2_keep {r : Nat} (h : r ≠ 84) (c : Int32) (τ : xS) (i : Int32) : ckM2 c τ i r = τ r := by unfold ckM2; split <;> simp [nte_keep h]
theorem ckM3_keep {r : Nat} (h : r ≠ 84) (c : Int32) (τ : xS) (i : Int32) : ckM3 c τ i r = τ r := by unfold ckM3; split <;> simp [nte_keep h]
theorem ckM0_keep {r : Nat} (h : r ≠ 84) (c : Int32) (τ : xS) (i : Int32) : ckM0 c τ i r = τ r := by rw [ckM0, ckM3_keep h, ckM2_keep h, ckM1_keep h]
theorem ckMS_keep {r : Nat} (h : r ≠ 84) (c : Int32) (τ : xS) (i : Int32) : ckMS c τ i r = τ r := by
  unfold ckMS; split
  · exact ckM0_keep h _ _ _
  · split <;> simp [nte_keep h]
theorem ckES_keep {r : Nat} (h : r ≠ 84) (c : Int32) (τ : xS) (i : Int32) : ckES c τ i r = τ r := by unfold ckES; split <;> simp [nte_keep h]
theorem ckXS_keep {r : Nat} (h : r ≠ 84) (c : Int32) (τ : xS) (i : Int32) : ckXS c τ i r = τ r := by unfold ckXS; split <;> simp [nte_keep h]
theorem ckL_keep {r : Nat} (h : r ≠ 84) (σ : xS) (c : Int32) : ckL σ c r = σ r := by rw [ckL, upN_keep (ckLS_keep h c)]
theorem ckC_keep {r : Nat} (h : r ≠ 84) (σ : xS) (c : Int32) : ckC σ c r = σ r := by rw [ckC, upN_keep (ckCS_keep h c)]
theorem ckM_keep {r : Nat} (h : r ≠ 84) (σ : xS) (c : Int32) : ckM σ c r = σ r := by rw [ckM, upN_keep (ckMS_keep h c)]
theorem ckE_keep {r : Nat} (h : r ≠ 84) (σ : xS) (c : Int32) : ckE σ c r = σ r := by rw [ckE, upN_keep (ckES_keep h c)]
theorem ckX_keep {r : Nat} (h : r ≠ 84) (σ : xS) (c : Int32) : ckX σ c r = σ r := by rw [ckX, upN_keep (ckXS_keep h c)]
/-- the roles that an inspection leaves: all but the view's and the inspector's -/
abbrev kpR (r : Nat) : Prop := r ≠ 71 ∧ r ≠ 73 ∧ r ≠ 75 ∧ r ≠ 77 ∧ r ≠ 79 ∧ r ≠ 81 ∧ r ≠ 84 ∧ r ≠ 86 ∧ r ≠ 206 ∧ r ≠ 207
theorem look_keep {r : Nat} (h : kpR r) (σ : xS) (c : Int32) : look σ c r = σ r := by
  obtain ⟨h1, h2, h3, h4, h5, h6, h7, h8, h9, h10⟩ := h
  rw [look, lfm_keep h4, lfa_keep h3, lfp_keep h2, lfe_keep h1, lfe_keep h1, lfe_keep h1, lfe_keep h1, xw_ne _ _ _ h9]
theorem insS_keep {r : Nat} (h : kpR r) (ps : Int32) (τ : xS) (c : Int32) : insS ps τ c r = τ r := by
  unfold insS; split
  · rw [ckX_keep h.2.2.2.2.2.2.1, ckE_keep h.2.2.2.2.2.2.1, ckM_keep h.2.2.2.2.2.2.1, ckC_keep h.2.2.2.2.2.2.1, ckL_keep h.2.2.2.2.2.2.1, gts_keep h.2.2.2.2.1 h.2.2.2.2.2.1, look_keep h]
  · rfl
theorem nbS_keep {r : Nat} (h1 : r ≠ 86) (h2 : r ≠ 207) (τ : xS) (i : Int32) : nbS τ i r = τ r := by unfold nbS; split <;> simp [xw_ne _ _ _ h2, vPut_ne h1]
theorem numb_keep {r : Nat} (h1 : r ≠ 86) (h2 : r ≠ 207) (σ : xS) : numb σ r = σ r := by rw [numb, upN_keep (nbS_keep h1 h2), xw_ne _ _ _ h2]
theorem insp_keep {r : Nat} (h : kpR r) (σ : xS) (ps : Int32) : insp σ ps r = σ r := by
  rw [insp, numb_keep h.2.2.2.2.2.2.2.1 h.2.2.2.2.2.2.2.2.2, upN_keep (insS_keep h ps), vFill_ne h.2.2.2.2.2.2.1]
theorem upN_s (f : xS → Int32 → xS) (k : Nat) (τ : xS) : upN f (k + 1) τ = f (upN f k τ) (nI k) := rfl

set_option maxHeartbeats 4000000 in
set_option maxRecDepth 100000 in
theorem c_X2_note (l : Launch) (V : xV) (hV : xInj V) (σ : xS) (k x c1 : Int32)  : xM l yX2_note wsX2_note ({ frames := 1, cells := 0, slots := 0, locals := 22 }) V [ra V 82, .int k, .int x, .int c1] σ (rV (nte σ k x c1)) := by
  refine xM_of (cc := cX2_note) (maxL := 5) (ret := none) [(0, ra V 82), (1, .int k), (2, .int x), (3, .int c1)] hV (by decide) rfl rfl (Nat.le_of_ble_eq_true rfl) (fun p e s m args below meth c C hr hlk => ?_)
  have iX2 : ∀ w ∈ u_ws RX2 TX2 5, w ∈ wsX2_note := by decide +kernel
  have f14 : (Cond.fieldLink RX2 14 RX2 (TX2 2).2.1 (TX2 2).2.2.1).before args s = true := C.2.2.2.2.1 _ (by decide +kernel)
  refine x_iload_n C dX2_note_0 rfl 1 rfl ?_
  refine x_iconst C (1 : Int32) (by decide) dX2_note_1 ?_
  refine x_isub C dX2_note_2 ?_
  refine x_bipush C (50 : Int32) (by decide) dX2_note_3 ?_
  refine x_imul C dX2_note_5 ?_
  refine x_iload_n C dX2_note_6 rfl 2 rfl ?_
  refine x_iadd C dX2_note_7 ?_
  refine x_istore C [(4, .int (((k - (1 : Int32)) * (50 : Int32)) + x)), (0, ra V 82), (1, .int k), (2, .int x), (3, .int c1)] dX2_note_8 (by decide) rfl ?_
  refine x_aload_n C dX2_note_10 rfl 1 rfl ?_
  refine x_getr C sh_82 rfl iX2 2 (by decide) f14 (fun _ h => h) (by decide) rfl dX2_note_11 ?_
  refine x_iload C dX2_note_14 0 rfl ?_
  refine x_aload_n C dX2_note_16 rfl 1 rfl ?_
  refine x_getr C sh_82 rfl iX2 2 (by decide) f14 (fun _ h => h) (by decide) rfl dX2_note_17 ?_
  refine x_iload C dX2_note_20 0 rfl ?_
  refine x_callV C sh_83 (by decide) rfl [.int (((k - (1 : Int32)) * (50 : Int32)) + x)] (c_X5_at l V hV σ 83 84 600 sh_83 sh_84 (by decide) (((k - (1 : Int32)) * (50 : Int32)) + x)) (cwV 1 C.2.2.2.2.1 gX2_note_X5_at rfl rfl rfl (by decide +kernel) ⟨Nat.le_of_ble_eq_true rfl, Nat.le_of_ble_eq_true rfl⟩) rfl rfl (Nat.le_of_ble_eq_true rfl) dX2_note_22 ⟨Nat.le_of_ble_eq_true rfl, Nat.le_of_ble_eq_true rfl⟩ (x_kI ?_)
  refine x_iconst C (1 : Int32) (by decide) dX2_note_25 ?_
  refine x_iload_n C dX2_note_26 rfl 4 rfl ?_
  refine x_ishl C dX2_note_27 ?_
  refine x_ior C dX2_note_28 ?_
  refine x_callV C sh_83 (by decide) rfl [.int (((k - (1 : Int32)) * (50 : Int32)) + x), .int ((vAt 600 (σ 84) (((k - (1 : Int32)) * (50 : Int32)) + x)) ||| ((1 : Int32) <<< (c1 &&& 31)))] (c_X5_put l V hV σ 83 84 600 sh_83 sh_84 (by decide) (((k - (1 : Int32)) * (50 : Int32)) + x) ((vAt 600 (σ 84) (((k - (1 : Int32)) * (50 : Int32)) + x)) ||| ((1 : Int32) <<< (c1 &&& 31)))) (cwV 2 C.2.2.2.2.1 gX2_note_X5_put rfl rfl rfl (by decide +kernel) ⟨Nat.le_of_ble_eq_true rfl, Nat.le_of_ble_eq_true rfl⟩) rfl rfl (Nat.le_of_ble_eq_true rfl) dX2_note_29 ⟨Nat.le_of_ble_eq_true rfl, Nat.le_of_ble_eq_true rfl⟩ (x_kV ?_)
  exact x_vret C hr hlk dX2_note_32 ⟨rfl, rfl⟩

set_option maxHeartbeats 4000000 in
set_option maxRecDepth 100000 in
theorem c_X2_size (l : Launch) (V : xV) (hV : xInj V) (σ : xS)   : xM l yX2_size wsX2_size ({ frames := 0, cells := 0, slots := 0, locals := 0 }) V [ra V 82] σ (rI (σ 207 0) σ) := by
  refine xM_of (cc := cX2_size) (maxL := 1) (ret := (some .int)) [(0, ra V 82)] hV (by decide) rfl rfl (Nat.le_of_ble_eq_true rfl) (fun p e s m args below meth c C hr hlk => ?_)
  have iX2 : ∀ w ∈ u_ws RX2 TX2 5, w ∈ wsX2_size := by decide +kernel
  have f23 : (Cond.fieldLink RX2 23 RX2 (TX2 4).2.1 (TX2 4).2.2.1).before args s = true := C.2.2.2.2.1 _ (by decide +kernel)
  refine x_aload_n C dX2_size_0 rfl 0 rfl ?_
  refine x_geti C sh_82 rfl iX2 4 (by decide) f23 (fun _ h => h) (by decide) rfl dX2_size_1 ?_
  exact x_iret C hr hlk dX2_size_4 ⟨rfl, rfl⟩

set_option maxHeartbeats 4000000 in
set_option maxRecDepth 100000 in
theorem c_X2_kindOf (l : Launch) (V : xV) (hV : xInj V) (σ : xS) (i : Int32)  : xM l yX2_kindOf wsX2_kindOf ({ frames := 1, cells := 0, slots := 0, locals := 21 }) V [ra V 82, .int i] σ (rI (kndO σ i) σ) := by
  refine xM_of (cc := cX2_kindOf) (maxL := 2) (ret := (some .int)) [(0, ra V 82), (1, .int i)] hV (by decide) rfl rfl (Nat.le_of_ble_eq_true rfl) (fun p e s m args below meth c C hr hlk => ?_)
  have iX2 : ∀ w ∈ u_ws RX2 TX2 5, w ∈ wsX2_kindOf := by decide +kernel
  have f20 : (Cond.fieldLink RX2 20 RX2 (TX2 3).2.1 (TX2 3).2.2.1).before args s = true := C.2.2.2.2.1 _ (by decide +kernel)
  refine x_aload_n C dX2_kindOf_0 rfl 0 rfl ?_
  refine x_getr C sh_82 rfl iX2 3 (by decide) f20 (fun _ h => h) (by decide) rfl dX2_kindOf_1 ?_
  refine x_iload_n C dX2_kindOf_4 rfl 1 rfl ?_
  refine x_callV C sh_85 (by decide) rfl [.int i] (c_X5_at l V hV σ 85 86 600 sh_85 sh_86 (by decide) i) (cwV 1 C.2.2.2.2.1 gX2_kindOf_X5_at rfl rfl rfl (by decide +kernel) ⟨Nat.le_of_ble_eq_true rfl, Nat.le_of_ble_eq_true rfl⟩) rfl rfl (Nat.le_of_ble_eq_true rfl) dX2_kindOf_5 ⟨Nat.le_of_ble_eq_true rfl, Nat.le_of_ble_eq_true rfl⟩ (x_kI ?_)
  refine x_bipush C (50 : Int32) (by decide) dX2_kindOf_8 ?_
  refine x_idiv C (by decide) dX2_kindOf_10 ?_
  refine x_iconst C (1 : Int32) (by decide) dX2_kindOf_11 ?_
  refine x_iadd C dX2_kindOf_12 ?_
  exact x_iret C hr hlk dX2_kindOf_13 ⟨rfl, rfl⟩

set_option maxHeartbeats 4000000 in
set_option maxRecDepth 100000 in
theorem c_X2_elementOf (l : Launch) (V : xV) (hV : xInj V) (σ : xS) (i : Int32)  : xM l yX2_elementOf wsX2_elementOf ({ frames := 1, cells := 0, slots := 0, locals := 21 }) V [ra V 82, .int i] σ (rI (elmO σ i) σ) := by
  refine xM_of (cc := cX2_elementOf) (maxL := 2) (ret := (some .int)) [(0, ra V 82), (1, .int i)] hV (by decide) rfl rfl (Nat.le_of_ble_eq_true rfl) (fun p e s m args below meth c C hr hlk => ?_)
  have iX2 : ∀ w ∈ u_ws RX2 TX2 5, w ∈ wsX2_elementOf := by decide +kernel
  have f20 : (Cond.fieldLink RX2 20 RX2 (TX2 3).2.1 (TX2 3).2.2.1).before args s = true := C.2.2.2.2.1 _ (by decide +kernel)
  refine x_aload_n C dX2_elementOf_0 rfl 0 rfl ?_
  refine x_getr C sh_82 rfl iX2 3 (by decide) f20 (fun _ h => h) (by decide) rfl dX2_elementOf_1 ?_
  refine x_iload_n C dX2_elementOf_4 rfl 1 rfl ?_
  refine x_callV C sh_85 (by decide) rfl [.int i] (c_X5_at l V hV σ 85 86 600 sh_85 sh_86 (by decide) i) (cwV 1 C.2.2.2.2.1 gX2_elementOf_X5_at rfl rfl rfl (by decide +kernel) ⟨Nat.le_of_ble_eq_true rfl, Nat.le_of_ble_eq_true rfl⟩) rfl rfl (Nat.le_of_ble_eq_true rfl) dX2_elementOf_5 ⟨Nat.le_of_ble_eq_true rfl, Nat.le_of_ble_eq_true rfl⟩ (x_kI ?_)
  refine x_bipush C (50 : Int32) (by decide) dX2_elementOf_8 ?_
  refine x_irem C (by decide) dX2_elementOf_10 ?_
  exact x_iret C hr hlk dX2_elementOf_11 ⟨rfl, rfl⟩

set_option maxHeartbeats 4000000 in
set_option maxRecDepth 100000 in
theorem c_X2_productsOf (l : Launch) (V : xV) (hV : xInj V) (σ : xS) (i : Int32)  : xM l yX2_productsOf wsX2_productsOf ({ frames := 1, cells := 0, slots := 0, locals := 21 }) V [ra V 82, .int i] σ (rI (prdO σ i) σ) := by
  refine xM_of (cc := cX2_productsOf) (maxL := 2) (ret := (some .int)) [(0, ra V 82), (1, .int i)] hV (by decide) rfl rfl (Nat.le_of_ble_eq_true rfl) (fun p e s m args below meth c C hr hlk => ?_)
  have iX2 : ∀ w ∈ u_ws RX2 TX2 5, w ∈ wsX2_productsOf := by decide +kernel
  have f14 : (Cond.fieldLink RX2 14 RX2 (TX2 2).2.1 (TX2 2).2.2.1).before args s = true := C.2.2.2.2.1 _ (by decide +kernel)
  have f20 : (Cond.fieldLink RX2 20 RX2 (TX2 3).2.1 (TX2 3).2.2.1).before args s = true := C.2.2.2.2.1 _ (by decide +kernel)
  refine x_aload_n C dX2_productsOf_0 rfl 0 rfl ?_
  refine x_getr C sh_82 rfl iX2 2 (by decide) f14 (fun _ h => h) (by decide) rfl dX2_productsOf_1 ?_
  refine x_aload_n C dX2_productsOf_4 rfl 0 rfl ?_
  refine x_getr C sh_82 rfl iX2 3 (by decide) f20 (fun _ h => h) (by decide) rfl dX2_productsOf_5 ?_
  refine x_iload_n C dX2_productsOf_8 rfl 1 rfl ?_
  refine x_callV C sh_85 (by decide) rfl [.int i] (c_X5_at l V hV σ 85 86 600 sh_85 sh_86 (by decide) i) (cwV 1 C.2.2.2.2.1 gX2_productsOf_X5_at rfl rfl rfl (by decide +kernel) ⟨Nat.le_of_ble_eq_true rfl, Nat.le_of_ble_eq_true rfl⟩) rfl rfl (Nat.le_of_ble_eq_true rfl) dX2_productsOf_9 ⟨Nat.le_of_ble_eq_true rfl, Nat.le_of_ble_eq_true rfl⟩ (x_kI ?_)
  refine x_callV C sh_83 (by decide) rfl [.int (vAt 600 (σ 86) i)] (c_X5_at l V hV σ 83 84 600 sh_83 sh_84 (by decide) (vAt 600 (σ 86) i)) (cwV 1 C.2.2.2.2.1 gX2_productsOf_X5_at rfl rfl rfl (by decide +kernel) ⟨Nat.le_of_ble_eq_true rfl, Nat.le_of_ble_eq_true rfl⟩) rfl rfl (Nat.le_of_ble_eq_true rfl) dX2_productsOf_12 ⟨Nat.le_of_ble_eq_true rfl, Nat.le_of_ble_eq_true rfl⟩ (x_kI ?_)
  exact x_iret C hr hlk dX2_productsOf_15 ⟨rfl, rfl⟩

set_option maxHeartbeats 4000000 in
set_option maxRecDepth 100000 in
theorem c_X2_countLinks (l : Launch) (V : xV) (hV : xInj V) (σ : xS) (o : Int32)  : xM l yX2_countLinks wsX2_countLinks ({ frames := 2, cells := 0, slots := 0, locals := 43 }) V [ra V 82, .int o] σ (rI (cntL σ o) σ) := by
  refine xM_of (cc := cX2_countLinks) (maxL := 4) (ret := (some .int)) [(0, ra V 82), (1, .int o)] hV (by decide) rfl rfl (Nat.le_of_ble_eq_true rfl) (fun p e s m args below meth c C hr hlk => ?_)
  have iX2 : ∀ w ∈ u_ws RX2 TX2 5, w ∈ wsX2_countLinks := by decide +kernel
  have f27 : (Cond.fieldLink RX2 27 RX2 (TX2 0).2.1 (TX2 0).2.2.1).before args s = true := C.2.2.2.2.1 _ (by decide +kernel)
  have iX4 : ∀ w ∈ u_ws RX4 TX4 8, w ∈ wsX2_countLinks := by decide +kernel
  have f79 : (Cond.fieldLink RX2 79 RX4 (TX4 1).2.1 (TX4 1).2.2.1).before args s = true := C.2.2.2.2.1 _ (by decide +kernel)
  have f31 : (Cond.fieldLink RX2 31 RX2 (TX2 1).2.1 (TX2 1).2.2.1).before args s = true := C.2.2.2.2.1 _ (by decide +kernel)
  have f93 : (Cond.fieldLink RX2 93 RX4 (TX4 2).2.1 (TX4 2).2.2.1).before args s = true := C.2.2.2.2.1 _ (by decide +kernel)
  refine x_iconst C (0 : Int32) (by decide) dX2_countLinks_0 ?_
  refine x_istore_n C [(2, .int (0 : Int32)), (0, ra V 82), (1, .int o)] dX2_countLinks_1 rfl (by decide) rfl ?_
  refine x_iconst C (0 : Int32) (by decide) dX2_countLinks_2 ?_
  refine x_istore_n C [(3, .int (0 : Int32)), (2, .int (0 : Int32)), (0, ra V 82), (1, .int o)] dX2_countLinks_3 rfl (by decide) rfl ?_
  refine x_lv [2, 3, 1, 0] [(0, ra V 82), (1, .int o), (2, .int (0 : Int32)), (3, .int (0 : Int32))] rfl ?_
  refine x_loop (fun μ σ_ lv_ => ∃ (k : Nat), μ = (σ 202 0).toNatClampNeg - k ∧ σ = σ_ ∧ lv_ = [(0, ra V 82), (1, .int o), (2, .int (cntN σ o k)), (3, .int (nI k))] ∧ k ≤ (σ 202 0).toNatClampNeg) ⟨_, ⟨0, rfl, rfl, rfl, Nat.zero_le _⟩⟩ ?_
  rintro μ4 _ _ ⟨k, hμ4, rfl, rfl, hc4_0⟩ ih4
  refine x_iload_n C dX2_countLinks_4 rfl 3 rfl ?_
  refine x_aload_n C dX2_countLinks_5 rfl 0 rfl ?_
  refine x_getr C sh_82 rfl iX2 0 (by decide) f27 (fun _ h => h) (by decide) rfl dX2_countLinks_6 ?_
  refine x_getr C sh_8 rfl iX4 1 (by decide) f79 (fun _ h => h) (by decide) rfl dX2_countLinks_9 ?_
  refine x_callV C sh_16 (by decide) rfl [] (c_X0_size_16 l V hV σ ) (cwV 0 C.2.2.2.2.1 gX2_countLinks_X0_size rfl rfl rfl (by decide +kernel) ⟨Nat.le_of_ble_eq_true rfl, Nat.le_of_ble_eq_true rfl⟩) rfl rfl (Nat.le_of_ble_eq_true rfl) dX2_countLinks_12 ⟨Nat.le_of_ble_eq_true rfl, Nat.le_of_ble_eq_true rfl⟩ (x_kI ?_)
  refine x_icmp_ge C 54 dX2_countLinks_15 rfl (fun h1 => ?_) (fun h1 => ?_)
  · refine x_iload_n C dX2_countLinks_54 rfl 2 rfl ?_
    exact x_iret C hr hlk dX2_countLinks_55 ⟨by rw [← (show (σ 202 0).toNatClampNeg = k from Nat.le_antisymm ((le_nI (by have := clamp_lt (σ 202 0); omega)).mp h1) hc4_0)]; rfl, rfl⟩
  · have hkn : k < (σ 202 0).toNatClampNeg := Nat.lt_of_not_le (fun hq => h1 ((le_nI (by have := clamp_lt (σ 202 0); omega)).mpr hq))
    refine x_aload_n C dX2_countLinks_18 rfl 0 rfl ?_
    refine x_getr C sh_82 rfl iX2 1 (by decide) f31 (fun _ h => h) (by decide) rfl dX2_countLinks_19 ?_
    refine x_iconst C (1 : Int32) (by decide) dX2_countLinks_22 ?_
    refine x_iload_n C dX2_countLinks_23 rfl 3 rfl ?_
    refine x_callV C sh_69 (by decide) rfl [.int (1 : Int32), .int (nI k)] (c_X7_isThere l V hV σ (1 : Int32) (nI k)) (cwV 2 C.2.2.2.2.1 gX2_countLinks_X7_isThere rfl rfl rfl (by decide +kernel) ⟨Nat.le_of_ble_eq_true rfl, Nat.le_of_ble_eq_true rfl⟩) rfl rfl (Nat.le_of_ble_eq_true rfl) dX2_countLinks_24 ⟨Nat.le_of_ble_eq_true rfl, Nat.le_of_ble_eq_true rfl⟩ (x_kI ?_)
    refine x_bif_eq C 48 dX2_countLinks_27 rfl (fun h2 => ?_) (fun h2 => ?_)
    · refine x_iinc C (q := 3) ((nI k) + (1 : Int32)) [(3, .int ((nI k) + (1 : Int32))), (0, ra V 82), (1, .int o), (2, .int (cntN σ o k))] dX2_countLinks_48 rfl rfl (by decide) rfl ?_
      refine x_goto C 4 dX2_countLinks_51 rfl ?_
      refine x_lv [1, 2, 3, 0] [(0, ra V 82), (1, .int o), (2, .int (cntN σ o k)), (3, .int ((nI k) + (1 : Int32)))] rfl ?_
      exact ih4 _ _ _ (by omega) ⟨k + 1, rfl, rfl, by rw [nI_succ]; simp [cntN, h2], hkn⟩
    · refine x_aload_n C dX2_countLinks_30 rfl 0 rfl ?_
      refine x_getr C sh_82 rfl iX2 0 (by decide) f27 (fun _ h => h) (by decide) rfl dX2_countLinks_31 ?_
      refine x_getr C sh_8 rfl iX4 2 (by decide) f93 (fun _ h => h) (by decide) rfl dX2_countLinks_34 ?_
      refine x_iload_n C dX2_countLinks_37 rfl 3 rfl ?_
      refine x_callV C sh_23 (by decide) rfl [.int (nI k)] (c_X5_at l V hV σ 23 24 12 sh_23 sh_24 (by decide) (nI k)) (cwV 1 C.2.2.2.2.1 gX2_countLinks_X5_at rfl rfl rfl (by decide +kernel) ⟨Nat.le_of_ble_eq_true rfl, Nat.le_of_ble_eq_true rfl⟩) rfl rfl (Nat.le_of_ble_eq_true rfl) dX2_countLinks_38 ⟨Nat.le_of_ble_eq_true rfl, Nat.le_of_ble_eq_true rfl⟩ (x_kI ?_)
      refine x_iload_n C dX2_countLinks_41 rfl 1 rfl ?_
      refine x_icmp_ne C 48 dX2_countLinks_42 rfl (fun h3 => ?_) (fun h3 => ?_)
      · refine x_iinc C (q := 3) ((nI k) + (1 : Int32)) [(3, .int ((nI k) + (1 : Int32))), (0, ra V 82), (1, .int o), (2, .int (cntN σ o k))] dX2_countLinks_48 rfl rfl (by decide) rfl ?_
        refine x_goto C 4 dX2_countLinks_51 rfl ?_
        refine x_lv [1, 2, 3, 0] [(0, ra V 82), (1, .int o), (2, .int (cntN σ o k)), (3, .int ((nI k) + (1 : Int32)))] rfl ?_
        exact ih4 _ _ _ (by omega) ⟨k + 1, rfl, rfl, by rw [nI_succ]; simp [cntN, h2, h3], hkn⟩
      · refine x_iinc C (q := 2) ((cntN σ o k) + (1 : Int32)) [(2, .int ((cntN σ o k) + (1 : Int32))), (0, ra V 82), (1, .int o), (3, .int (nI k))] dX2_countLinks_45 rfl rfl (by decide) rfl ?_
        refine x_iinc C (q := 3) ((nI k) + (1 : Int32)) [(3, .int ((nI k) + (1 : Int32))), (2, .int ((cntN σ o k) + (1 : Int32))), (0, ra V 82), (1, .int o)] dX2_countLinks_48 rfl rfl (by decide) rfl ?_
        refine x_goto C 4 dX2_countLinks_51 rfl ?_
        refine x_lv [2, 3, 1, 0] [(0, ra V 82), (1, .int o), (2, .int ((cntN σ o k) + (1 : Int32))), (3, .int ((nI k) + (1 : Int32)))] rfl ?_
        exact ih4 _ _ _ (by omega) ⟨k + 1, rfl, rfl, by rw [nI_succ]; simp [cntN, h2, eq_true h3], hkn⟩

set_option maxHeartbeats 4000000 in
set_option maxRecDepth 100000 in
theorem c_X2_sizeIn (l : Launch) (V : xV) (hV : xInj V) (σ : xS) (c1 : Int32)  : xM l yX2_sizeIn wsX2_sizeIn ({ frames := 2, cells := 0, slots := 0, locals := 42 }) V [ra V 82, .int c1] σ (rI (szI σ c1) σ) := by
  refine xM_of (cc := cX2_sizeIn) (maxL := 4) (ret := (some .int)) [(0, ra V 82), (1, .int c1)] hV (by decide) rfl rfl (Nat.le_of_ble_eq_true rfl) (fun p e s m args below meth c C hr hlk => ?_)
  have iX2 : ∀ w ∈ u_ws RX2 TX2 5, w ∈ wsX2_sizeIn := by decide +kernel
  have f23 : (Cond.fieldLink RX2 23 RX2 (TX2 4).2.1 (TX2 4).2.2.1).before args s = true := C.2.2.2.2.1 _ (by decide +kernel)
  refine x_iconst C (0 : Int32) (by decide) dX2_sizeIn_0 ?_
  refine x_istore_n C [(2, .int (0 : Int32)), (0, ra V 82), (1, .int c1)] dX2_sizeIn_1 rfl (by decide) rfl ?_
  refine x_iconst C (0 : Int32) (by decide) dX2_sizeIn_2 ?_
  refine x_istore_n C [(3, .int (0 : Int32)), (2, .int (0 : Int32)), (0, ra V 82), (1, .int c1)] dX2_sizeIn_3 rfl (by decide) rfl ?_
  refine x_lv [2, 3, 1, 0] [(0, ra V 82), (1, .int c1), (2, .int (0 : Int32)), (3, .int (0 : Int32))] rfl ?_
  refine x_loop (fun μ σ_ lv_ => ∃ (k : Nat), μ = (σ 207 0).toNatClampNeg - k ∧ σ = σ_ ∧ lv_ = [(0, ra V 82), (1, .int c1), (2, .int (szIN σ c1 k)), (3, .int (nI k))] ∧ k ≤ (σ 207 0).toNatClampNeg) ⟨_, ⟨0, rfl, rfl, rfl, Nat.zero_le _⟩⟩ ?_
  rintro μ4 _ _ ⟨k, hμ4, rfl, rfl, hc4_0⟩ ih4
  refine x_iload_n C dX2_sizeIn_4 rfl 3 rfl ?_
  refine x_aload_n C dX2_sizeIn_5 rfl 0 rfl ?_
  refine x_geti C sh_82 rfl iX2 4 (by decide) f23 (fun _ h => h) (by decide) rfl dX2_sizeIn_6 ?_
  refine x_icmp_ge C 33 dX2_sizeIn_9 rfl (fun h1 => ?_) (fun h1 => ?_)
  · refine x_iload_n C dX2_sizeIn_33 rfl 2 rfl ?_
    exact x_iret C hr hlk dX2_sizeIn_34 ⟨by rw [← (show (σ 207 0).toNatClampNeg = k from Nat.le_antisymm ((le_nI (by have := clamp_lt (σ 207 0); omega)).mp h1) hc4_0)]; rfl, rfl⟩
  · have hkn : k < (σ 207 0).toNatClampNeg := Nat.lt_of_not_le (fun hq => h1 ((le_nI (by have := clamp_lt (σ 207 0); omega)).mpr hq))
    refine x_aload_n C dX2_sizeIn_12 rfl 0 rfl ?_
    refine x_iload_n C dX2_sizeIn_13 rfl 3 rfl ?_
    refine x_callV C sh_82 (by decide) rfl [.int (nI k)] (c_X2_productsOf l V hV σ (nI k)) (cwV 1 C.2.2.2.2.1 gX2_sizeIn_X2_productsOf rfl rfl rfl (by decide +kernel) ⟨Nat.le_of_ble_eq_true rfl, Nat.le_of_ble_eq_true rfl⟩) rfl rfl (Nat.le_of_ble_eq_true rfl) dX2_sizeIn_14 ⟨Nat.le_of_ble_eq_true rfl, Nat.le_of_ble_eq_true rfl⟩ (x_kI ?_)
    refine x_iload_n C dX2_sizeIn_17 rfl 1 rfl ?_
    refine x_callSN (host := RX8) C [.int (prdO σ (nI k)), .int c1] (c_X8_isIn l V hV σ (prdO σ (nI k)) c1) (⟨va_cnB 2 C.2.2.2.2.1 gX2_sizeIn_X8_isIn_n38 rfl rfl rfl (C.2.2.2.2.2.1.2 _ (by decide +kernel)) (C.2.2.2.2.1 _ (by decide +kernel)) (by decide +kernel) ⟨Nat.le_of_ble_eq_true rfl, Nat.le_of_ble_eq_true rfl⟩, C.2.2.2.2.1 _ (by decide +kernel), trivial⟩) rfl rfl (Nat.le_of_ble_eq_true rfl) dX2_sizeIn_18 ⟨Nat.le_of_ble_eq_true rfl, Nat.le_of_ble_eq_true rfl⟩ (x_kI ?_)
    refine x_bif_eq C 27 dX2_sizeIn_21 rfl (fun h2 => ?_) (fun h2 => ?_)
    · refine x_iinc C (q := 3) ((nI k) + (1 : Int32)) [(3, .int ((nI k) + (1 : Int32))), (0, ra V 82), (1, .int c1), (2, .int (szIN σ c1 k))] dX2_sizeIn_27 rfl rfl (by decide) rfl ?_
      refine x_goto C 4 dX2_sizeIn_30 rfl ?_
      refine x_lv [1, 2, 3, 0] [(0, ra V 82), (1, .int c1), (2, .int (szIN σ c1 k)), (3, .int ((nI k) + (1 : Int32)))] rfl ?_
      exact ih4 _ _ _ (by omega) ⟨k + 1, rfl, rfl, by rw [nI_succ]; simp [szIN, h2], hkn⟩
    · refine x_iinc C (q := 2) ((szIN σ c1 k) + (1 : Int32)) [(2, .int ((szIN σ c1 k) + (1 : Int32))), (0, ra V 82), (1, .int c1), (3, .int (nI k))] dX2_sizeIn_24 rfl rfl (by decide) rfl ?_
      refine x_iinc C (q := 3) ((nI k) + (1 : Int32)) [(3, .int ((nI k) + (1 : Int32))), (2, .int ((szIN σ c1 k) + (1 : Int32))), (0, ra V 82), (1, .int c1)] dX2_sizeIn_27 rfl rfl (by decide) rfl ?_
      refine x_goto C 4 dX2_sizeIn_30 rfl ?_
      refine x_lv [2, 3, 1, 0] [(0, ra V 82), (1, .int c1), (2, .int ((szIN σ c1 k) + (1 : Int32))), (3, .int ((nI k) + (1 : Int32)))] rfl ?_
      exact ih4 _ _ _ (by omega) ⟨k + 1, rfl, rfl, by rw [nI_succ]; simp [szIN, h2], hkn⟩

set_option maxHeartbeats 4000000 in
set_option maxRecDepth 100000 in
theorem c_X2_wrongProducts (l : Launch) (V : xV) (hV : xInj V) (σ : xS)   : xM l yX2_wrongProducts wsX2_wrongProducts ({ frames := 2, cells := 0, slots := 0, locals := 42 }) V [ra V 82] σ (rI (wrg σ) σ) := by
  refine xM_of (cc := cX2_wrongProducts) (maxL := 3) (ret := (some .int)) [(0, ra V 82)] hV (by decide) rfl rfl (Nat.le_of_ble_eq_true rfl) (fun p e s m args below meth c C hr hlk => ?_)
  have iX2 : ∀ w ∈ u_ws RX2 TX2 5, w ∈ wsX2_wrongProducts := by decide +kernel
  have f23 : (Cond.fieldLink RX2 23 RX2 (TX2 4).2.1 (TX2 4).2.2.1).before args s = true := C.2.2.2.2.1 _ (by decide +kernel)
  refine x_iconst C (0 : Int32) (by decide) dX2_wrongProducts_0 ?_
  refine x_istore_n C [(1, .int (0 : Int32)), (0, ra V 82)] dX2_wrongProducts_1 rfl (by decide) rfl ?_
  refine x_iconst C (0 : Int32) (by decide) dX2_wrongProducts_2 ?_
  refine x_istore_n C [(2, .int (0 : Int32)), (1, .int (0 : Int32)), (0, ra V 82)] dX2_wrongProducts_3 rfl (by decide) rfl ?_
  refine x_lv [2, 1, 0] [(0, ra V 82), (1, .int (0 : Int32)), (2, .int (0 : Int32))] rfl ?_
  refine x_loop (fun μ σ_ lv_ => ∃ (k : Nat), μ = (σ 207 0).toNatClampNeg - k ∧ σ = σ_ ∧ lv_ = [(0, ra V 82), (1, .int (wrgN σ k)), (2, .int (nI k))] ∧ k ≤ (σ 207 0).toNatClampNeg) ⟨_, ⟨0, rfl, rfl, rfl, Nat.zero_le _⟩⟩ ?_
  rintro μ4 _ _ ⟨k, hμ4, rfl, rfl, hc4_0⟩ ih4
  refine x_iload_n C dX2_wrongProducts_4 rfl 2 rfl ?_
  refine x_aload_n C dX2_wrongProducts_5 rfl 0 rfl ?_
  refine x_geti C sh_82 rfl iX2 4 (by decide) f23 (fun _ h => h) (by decide) rfl dX2_wrongProducts_6 ?_
  refine x_icmp_ge C 26 dX2_wrongProducts_9 rfl (fun h1 => ?_) (fun h1 => ?_)
  · refine x_iload_n C dX2_wrongProducts_26 rfl 1 rfl ?_
    exact x_iret C hr hlk dX2_wrongProducts_27 ⟨by rw [← (show (σ 207 0).toNatClampNeg = k from Nat.le_antisymm ((le_nI (by have := clamp_lt (σ 207 0); omega)).mp h1) hc4_0)]; rfl, rfl⟩
  · have hkn : k < (σ 207 0).toNatClampNeg := Nat.lt_of_not_le (fun hq => h1 ((le_nI (by have := clamp_lt (σ 207 0); omega)).mpr hq))
    refine x_iload_n C dX2_wrongProducts_12 rfl 1 rfl ?_
    refine x_aload_n C dX2_wrongProducts_13 rfl 0 rfl ?_
    refine x_iload_n C dX2_wrongProducts_14 rfl 2 rfl ?_
    refine x_callV C sh_82 (by decide) rfl [.int (nI k)] (c_X2_productsOf l V hV σ (nI k)) (cwV 1 C.2.2.2.2.1 gX2_wrongProducts_X2_productsOf rfl rfl rfl (by decide +kernel) ⟨Nat.le_of_ble_eq_true rfl, Nat.le_of_ble_eq_true rfl⟩) rfl rfl (Nat.le_of_ble_eq_true rfl) dX2_wrongProducts_15 ⟨Nat.le_of_ble_eq_true rfl, Nat.le_of_ble_eq_true rfl⟩ (x_kI ?_)
    refine x_ior C dX2_wrongProducts_18 ?_
    refine x_istore_n C [(1, .int ((wrgN σ k) ||| (prdO σ (nI k)))), (0, ra V 82), (2, .int (nI k))] dX2_wrongProducts_19 rfl (by decide) rfl ?_
    refine x_iinc C (q := 2) ((nI k) + (1 : Int32)) [(2, .int ((nI k) + (1 : Int32))), (1, .int ((wrgN σ k) ||| (prdO σ (nI k)))), (0, ra V 82)] dX2_wrongProducts_20 rfl rfl (by decide) rfl ?_
    refine x_goto C 4 dX2_wrongProducts_23 rfl ?_
    refine x_lv [2, 1, 0] [(0, ra V 82), (1, .int ((wrgN σ k) ||| (prdO σ (nI k)))), (2, .int ((nI k) + (1 : Int32)))] rfl ?_
    exact ih4 _ _ _ (by omega) ⟨k + 1, rfl, rfl, by rw [nI_succ]; simp [wrgN, true_and], hkn⟩

set_option maxHeartbeats 4000000 in
set_option maxRecDepth 100000 in
theorem c_X2_isUnlikeInherited (l : Launch) (V : xV) (hV : xInj V) (σ : xS) (i : Int32)  : xM l yX2_isUnlikeInherited wsX2_isUnlikeInherited ({ frames := 2, cells := 0, slots := 0, locals := 48 }) V [ra V 82, .int i] σ (rI (bI (unlI σ i)) σ) := by
  refine xM_of (cc := cX2_isUnlikeInherited) (maxL := 4) (ret := (some .boolean)) [(0, ra V 82), (1, .int i)] hV (by decide) rfl rfl (Nat.le_of_ble_eq_true rfl) (fun p e s m args below meth c C hr hlk => ?_)
  have iX2 : ∀ w ∈ u_ws RX2 TX2 5, w ∈ wsX2_isUnlikeInherited := by decide +kernel
  have f31 : (Cond.fieldLink RX2 31 RX2 (TX2 1).2.1 (TX2 1).2.2.1).before args s = true := C.2.2.2.2.1 _ (by decide +kernel)
  have f27 : (Cond.fieldLink RX2 27 RX2 (TX2 0).2.1 (TX2 0).2.2.1).before args s = true := C.2.2.2.2.1 _ (by decide +kernel)
  have iX4 : ∀ w ∈ u_ws RX4 TX4 8, w ∈ wsX2_isUnlikeInherited := by decide +kernel
  have f115 : (Cond.fieldLink RX2 115 RX4 (TX4 4).2.1 (TX4 4).2.2.1).before args s = true := C.2.2.2.2.1 _ (by decide +kernel)
  refine x_aload_n C dX2_isUnlikeInherited_0 rfl 0 rfl ?_
  refine x_getr C sh_82 rfl iX2 1 (by decide) f31 (fun _ h => h) (by decide) rfl dX2_isUnlikeInherited_1 ?_
  refine x_aload_n C dX2_isUnlikeInherited_4 rfl 0 rfl ?_
  refine x_getr C sh_82 rfl iX2 0 (by decide) f27 (fun _ h => h) (by decide) rfl dX2_isUnlikeInherited_5 ?_
  refine x_getr C sh_8 rfl iX4 4 (by decide) f115 (fun _ h => h) (by decide) rfl dX2_isUnlikeInherited_8 ?_
  refine x_iload_n C dX2_isUnlikeInherited_11 rfl 1 rfl ?_
  refine x_callV C sh_27 (by decide) rfl [.int i] (c_X3_owner l V hV σ i) (cwV 1 C.2.2.2.2.1 gX2_isUnlikeInherited_X3_owner rfl rfl rfl (by decide +kernel) ⟨Nat.le_of_ble_eq_true rfl, Nat.le_of_ble_eq_true rfl⟩) rfl rfl (Nat.le_of_ble_eq_true rfl) dX2_isUnlikeInherited_12 ⟨Nat.le_of_ble_eq_true rfl, Nat.le_of_ble_eq_true rfl⟩ (x_kI ?_)
  refine x_callV C sh_69 (by decide) rfl [.int (vAt 24 (σ 38) i)] (c_X7_parentOf l V hV σ (vAt 24 (σ 38) i)) (cwV 1 C.2.2.2.2.1 gX2_isUnlikeInherited_X7_parentOf rfl rfl rfl (by decide +kernel) ⟨Nat.le_of_ble_eq_true rfl, Nat.le_of_ble_eq_true rfl⟩) rfl rfl (Nat.le_of_ble_eq_true rfl) dX2_isUnlikeInherited_15 ⟨Nat.le_of_ble_eq_true rfl, Nat.le_of_ble_eq_true rfl⟩ (x_kI ?_)
  refine x_istore_n C [(2, .int (vAt 8 (σ 73) (vAt 24 (σ 38) i))), (0, ra V 82), (1, .int i)] dX2_isUnlikeInherited_18 rfl (by decide) rfl ?_
  refine x_iload_n C dX2_isUnlikeInherited_19 rfl 0 rfl ?_
  refine x_iconst C (-1 : Int32) (by decide) dX2_isUnlikeInherited_20 ?_
  refine x_icmp_ne C 26 dX2_isUnlikeInherited_21 rfl (fun h1 => ?_) (fun h1 => ?_)
  · refine x_aload_n C dX2_isUnlikeInherited_26 rfl 1 rfl ?_
    refine x_getr C sh_82 rfl iX2 1 (by decide) f31 (fun _ h => h) (by decide) rfl dX2_isUnlikeInherited_27 ?_
    refine x_iload_n C dX2_isUnlikeInherited_30 rfl 0 rfl ?_
    refine x_aload_n C dX2_isUnlikeInherited_31 rfl 1 rfl ?_
    refine x_getr C sh_82 rfl iX2 0 (by decide) f27 (fun _ h => h) (by decide) rfl dX2_isUnlikeInherited_32 ?_
    refine x_getr C sh_8 rfl iX4 4 (by decide) f115 (fun _ h => h) (by decide) rfl dX2_isUnlikeInherited_35 ?_
    refine x_iload_n C dX2_isUnlikeInherited_38 rfl 2 rfl ?_
    refine x_callV C sh_27 (by decide) rfl [.int i] (c_X3_name l V hV σ i) (cwV 1 C.2.2.2.2.1 gX2_isUnlikeInherited_X3_name rfl rfl rfl (by decide +kernel) ⟨Nat.le_of_ble_eq_true rfl, Nat.le_of_ble_eq_true rfl⟩) rfl rfl (Nat.le_of_ble_eq_true rfl) dX2_isUnlikeInherited_39 ⟨Nat.le_of_ble_eq_true rfl, Nat.le_of_ble_eq_true rfl⟩ (x_kI ?_)
    refine x_iconst C (1 : Int32) (by decide) dX2_isUnlikeInherited_42 ?_
    refine x_callV C sh_69 (by decide) rfl [.int (vAt 8 (σ 73) (vAt 24 (σ 38) i)), .int (vAt 24 (σ 40) i), .int (1 : Int32)] (c_X7_lookUp l V hV σ (vAt 8 (σ 73) (vAt 24 (σ 38) i)) (vAt 24 (σ 40) i) (1 : Int32)) (cwV 3 C.2.2.2.2.1 gX2_isUnlikeInherited_X7_lookUp rfl rfl rfl (by decide +kernel) ⟨Nat.le_of_ble_eq_true rfl, Nat.le_of_ble_eq_true rfl⟩) rfl rfl (Nat.le_of_ble_eq_true rfl) dX2_isUnlikeInherited_43 ⟨Nat.le_of_ble_eq_true rfl, Nat.le_of_ble_eq_true rfl⟩ (x_kI ?_)
    refine x_istore_n C [(3, .int (lookU σ (vAt 8 (σ 73) (vAt 24 (σ 38) i)) (vAt 24 (σ 40) i) (1 : Int32))), (2, .int (vAt 8 (σ 73) (vAt 24 (σ 38) i))), (0, ra V 82), (1, .int i)] dX2_isUnlikeInherited_46 rfl (by decide) rfl ?_
    refine x_iload_n C dX2_isUnlikeInherited_47 rfl 0 rfl ?_
    refine x_iconst C (-1 : Int32) (by decide) dX2_isUnlikeInherited_48 ?_
    refine x_icmp_eq C 57 dX2_isUnlikeInherited_49 rfl (fun h2 => ?_) (fun h2 => ?_)
    · refine x_iconst C (0 : Int32) (by decide) dX2_isUnlikeInherited_57 ?_
      exact x_zret C false rfl hr hlk dX2_isUnlikeInherited_58 ⟨by simp [unlI, h1, eq_true h2], rfl⟩
    · refine x_iload_n C dX2_isUnlikeInherited_52 rfl 0 rfl ?_
      refine x_iload_n C dX2_isUnlikeInherited_53 rfl 3 rfl ?_
      refine x_icmp_ne C 59 dX2_isUnlikeInherited_54 rfl (fun h3 => ?_) (fun h3 => ?_)
      · refine x_aload_n C dX2_isUnlikeInherited_59 rfl 2 rfl ?_
        refine x_getr C sh_82 rfl iX2 0 (by decide) f27 (fun _ h => h) (by decide) rfl dX2_isUnlikeInherited_60 ?_
        refine x_getr C sh_8 rfl iX4 4 (by decide) f115 (fun _ h => h) (by decide) rfl dX2_isUnlikeInherited_63 ?_
        refine x_iload_n C dX2_isUnlikeInherited_66 rfl 3 rfl ?_
        refine x_iconst C (0 : Int32) (by decide) dX2_isUnlikeInherited_67 ?_
        refine x_callV C sh_27 (by decide) rfl [.int i, .int (0 : Int32)] (c_X3_parameter l V hV σ i (0 : Int32)) (cwV 2 C.2.2.2.2.1 gX2_isUnlikeInherited_X3_parameter rfl rfl rfl (by decide +kernel) ⟨Nat.le_of_ble_eq_true rfl, Nat.le_of_ble_eq_true rfl⟩) rfl rfl (Nat.le_of_ble_eq_true rfl) dX2_isUnlikeInherited_68 ⟨Nat.le_of_ble_eq_true rfl, Nat.le_of_ble_eq_true rfl⟩ (x_kI ?_)
        refine x_aload_n C dX2_isUnlikeInherited_71 rfl 2 rfl ?_
        refine x_getr C sh_82 rfl iX2 0 (by decide) f27 (fun _ h => h) (by decide) rfl dX2_isUnlikeInherited_72 ?_
        refine x_getr C sh_8 rfl iX4 4 (by decide) f115 (fun _ h => h) (by decide) rfl dX2_isUnlikeInherited_75 ?_
        refine x_iload_n C dX2_isUnlikeInherited_78 rfl 0 rfl ?_
        refine x_iconst C (0 : Int32) (by decide) dX2_isUnlikeInherited_79 ?_
        refine x_callV C sh_27 (by decide) rfl [.int (lookU σ (vAt 8 (σ 73) (vAt 24 (σ 38) i)) (vAt 24 (σ 40) i) (1 : Int32)), .int (0 : Int32)] (c_X3_parameter l V hV σ (lookU σ (vAt 8 (σ 73) (vAt 24 (σ 38) i)) (vAt 24 (σ 40) i) (1 : Int32)) (0 : Int32)) (cwV 2 C.2.2.2.2.1 gX2_isUnlikeInherited_X3_parameter rfl rfl rfl (by decide +kernel) ⟨Nat.le_of_ble_eq_true rfl, Nat.le_of_ble_eq_true rfl⟩) rfl rfl (Nat.le_of_ble_eq_true rfl) dX2_isUnlikeInherited_80 ⟨Nat.le_of_ble_eq_true rfl, Nat.le_of_ble_eq_true rfl⟩ (x_kI ?_)
        refine x_icmp_ne C 145 dX2_isUnlikeInherited_83 rfl (fun h4 => ?_) (fun h4 => ?_)
        · refine x_iconst C (1 : Int32) (by decide) dX2_isUnlikeInherited_145 ?_
          refine x_goto C 150 dX2_isUnlikeInherited_146 rfl ?_
          exact x_zret C true rfl hr hlk dX2_isUnlikeInherited_150 ⟨by simp [unlI, h1, h2, h3, h4], rfl⟩
        · refine x_aload_n C dX2_isUnlikeInherited_86 rfl 2 rfl ?_
          refine x_getr C sh_82 rfl iX2 0 (by decide) f27 (fun _ h => h) (by decide) rfl dX2_isUnlikeInherited_87 ?_
          refine x_getr C sh_8 rfl iX4 4 (by decide) f115 (fun _ h => h) (by decide) rfl dX2_isUnlikeInherited_90 ?_
          refine x_iload_n C dX2_isUnlikeInherited_93 rfl 3 rfl ?_
          refine x_iconst C (1 : Int32) (by decide) dX2_isUnlikeInherited_94 ?_
          refine x_callV C sh_27 (by decide) rfl [.int i, .int (1 : Int32)] (c_X3_parameter l V hV σ i (1 : Int32)) (cwV 2 C.2.2.2.2.1 gX2_isUnlikeInherited_X3_parameter rfl rfl rfl (by decide +kernel) ⟨Nat.le_of_ble_eq_true rfl, Nat.le_of_ble_eq_true rfl⟩) rfl rfl (Nat.le_of_ble_eq_true rfl) dX2_isUnlikeInherited_95 ⟨Nat.le_of_ble_eq_true rfl, Nat.le_of_ble_eq_true rfl⟩ (x_kI ?_)
          refine x_aload_n C dX2_isUnlikeInherited_98 rfl 2 rfl ?_
          refine x_getr C sh_82 rfl iX2 0 (by decide) f27 (fun _ h => h) (by decide) rfl dX2_isUnlikeInherited_99 ?_
          refine x_getr C sh_8 rfl iX4 4 (by decide) f115 (fun _ h => h) (by decide) rfl dX2_isUnlikeInherited_102 ?_
          refine x_iload_n C dX2_isUnlikeInherited_105 rfl 0 rfl ?_
          refine x_iconst C (1 : Int32) (by decide) dX2_isUnlikeInherited_106 ?_
          refine x_callV C sh_27 (by decide) rfl [.int (lookU σ (vAt 8 (σ 73) (vAt 24 (σ 38) i)) (vAt 24 (σ 40) i) (1 : Int32)), .int (1 : Int32)] (c_X3_parameter l V hV σ (lookU σ (vAt 8 (σ 73) (vAt 24 (σ 38) i)) (vAt 24 (σ 40) i) (1 : Int32)) (1 : Int32)) (cwV 2 C.2.2.2.2.1 gX2_isUnlikeInherited_X3_parameter rfl rfl rfl (by decide +kernel) ⟨Nat.le_of_ble_eq_true rfl, Nat.le_of_ble_eq_true rfl⟩) rfl rfl (Nat.le_of_ble_eq_true rfl) dX2_isUnlikeInherited_107 ⟨Nat.le_of_ble_eq_true rfl, Nat.le_of_ble_eq_true rfl⟩ (x_kI ?_)
          refine x_icmp_ne C 145 dX2_isUnlikeInherited_110 rfl (fun h5 => ?_) (fun h5 => ?_)
          · refine x_iconst C (1 : Int32) (by decide) dX2_isUnlikeInherited_145 ?_
            refine x_goto C 150 dX2_isUnlikeInherited_146 rfl ?_
            exact x_zret C true rfl hr hlk dX2_isUnlikeInherited_150 ⟨by simp [unlI, h1, h2, h3, eq_true h4, h5], rfl⟩
          · refine x_aload_n C dX2_isUnlikeInherited_113 rfl 2 rfl ?_
            refine x_getr C sh_82 rfl iX2 1 (by decide) f31 (fun _ h => h) (by decide) rfl dX2_isUnlikeInherited_114 ?_
            refine x_aload_n C dX2_isUnlikeInherited_117 rfl 2 rfl ?_
            refine x_getr C sh_82 rfl iX2 0 (by decide) f27 (fun _ h => h) (by decide) rfl dX2_isUnlikeInherited_118 ?_
            refine x_getr C sh_8 rfl iX4 4 (by decide) f115 (fun _ h => h) (by decide) rfl dX2_isUnlikeInherited_121 ?_
            refine x_iload_n C dX2_isUnlikeInherited_124 rfl 3 rfl ?_
            refine x_callV C sh_27 (by decide) rfl [.int i] (c_X3_type l V hV σ i) (cwV 1 C.2.2.2.2.1 gX2_isUnlikeInherited_X3_type rfl rfl rfl (by decide +kernel) ⟨Nat.le_of_ble_eq_true rfl, Nat.le_of_ble_eq_true rfl⟩) rfl rfl (Nat.le_of_ble_eq_true rfl) dX2_isUnlikeInherited_125 ⟨Nat.le_of_ble_eq_true rfl, Nat.le_of_ble_eq_true rfl⟩ (x_kI ?_)
            refine x_aload_n C dX2_isUnlikeInherited_128 rfl 2 rfl ?_
            refine x_getr C sh_82 rfl iX2 0 (by decide) f27 (fun _ h => h) (by decide) rfl dX2_isUnlikeInherited_129 ?_
            refine x_getr C sh_8 rfl iX4 4 (by decide) f115 (fun _ h => h) (by decide) rfl dX2_isUnlikeInherited_132 ?_
            refine x_iload_n C dX2_isUnlikeInherited_135 rfl 0 rfl ?_
            refine x_callV C sh_27 (by decide) rfl [.int (lookU σ (vAt 8 (σ 73) (vAt 24 (σ 38) i)) (vAt 24 (σ 40) i) (1 : Int32))] (c_X3_type l V hV σ (lookU σ (vAt 8 (σ 73) (vAt 24 (σ 38) i)) (vAt 24 (σ 40) i) (1 : Int32))) (cwV 1 C.2.2.2.2.1 gX2_isUnlikeInherited_X3_type rfl rfl rfl (by decide +kernel) ⟨Nat.le_of_ble_eq_true rfl, Nat.le_of_ble_eq_true rfl⟩) rfl rfl (Nat.le_of_ble_eq_true rfl) dX2_isUnlikeInherited_136 ⟨Nat.le_of_ble_eq_true rfl, Nat.le_of_ble_eq_true rfl⟩ (x_kI ?_)
            refine x_callV C sh_69 (by decide) rfl [.int (vAt 24 (σ 42) i), .int (vAt 24 (σ 42) (lookU σ (vAt 8 (σ 73) (vAt 24 (σ 38) i)) (vAt 24 (σ 40) i) (1 : Int32)))] (c_X7_fits l V hV σ (vAt 24 (σ 42) i) (vAt 24 (σ 42) (lookU σ (vAt 8 (σ 73) (vAt 24 (σ 38) i)) (vAt 24 (σ 40) i) (1 : Int32)))) (cwV 2 C.2.2.2.2.1 gX2_isUnlikeInherited_X7_fits rfl rfl rfl (by decide +kernel) ⟨Nat.le_of_ble_eq_true rfl, Nat.le_of_ble_eq_true rfl⟩) rfl rfl (Nat.le_of_ble_eq_true rfl) dX2_isUnlikeInherited_139 ⟨Nat.le_of_ble_eq_true rfl, Nat.le_of_ble_eq_true rfl⟩ (x_kI ?_)
            refine x_bif_ne C 149 dX2_isUnlikeInherited_142 rfl (fun h6 => ?_) (fun h6 => ?_)
            · refine x_iconst C (0 : Int32) (by decide) dX2_isUnlikeInherited_149 ?_
              exact x_zret C false rfl hr hlk dX2_isUnlikeInherited_150 ⟨by simp [unlI, h1, h2, h3, eq_true h4, eq_true h5, h6], rfl⟩
            · refine x_iconst C (1 : Int32) (by decide) dX2_isUnlikeInherited_145 ?_
              refine x_goto C 150 dX2_isUnlikeInherited_146 rfl ?_
              exact x_zret C true rfl hr hlk dX2_isUnlikeInherited_150 ⟨by simp [unlI, h1, h2, h3, eq_true h4, eq_true h5, h6], rfl⟩
      · refine x_iconst C (0 : Int32) (by decide) dX2_isUnlikeInherited_57 ?_
        exact x_zret C false rfl hr hlk dX2_isUnlikeInherited_58 ⟨by simp [unlI, h1, h2, eq_true h3], rfl⟩
  · refine x_iconst C (0 : Int32) (by decide) dX2_isUnlikeInherited_24 ?_
    exact x_zret C false rfl hr hlk dX2_isUnlikeInherited_25 ⟨by simp [unlI, eq_true h1], rfl⟩

set_option maxHeartbeats 4000000 in
set_option maxRecDepth 100000 in
theorem c_X2_checkLinks (l : Launch) (V : xV) (hV : xInj V) (σ : xS) (c1 : Int32)  : xM l yX2_checkLinks wsX2_checkLinks ({ frames := 3, cells := 0, slots := 0, locals := 64 }) V [ra V 82, .int c1] σ (rV (ckL σ c1)) := by
  refine xM_of (cc := cX2_checkLinks) (maxL := 3) (ret := none) [(0, ra V 82), (1, .int c1)] hV (by decide) rfl rfl (Nat.le_of_ble_eq_true rfl) (fun p e s m args below meth c C hr hlk => ?_)
  have iX2 : ∀ w ∈ u_ws RX2 TX2 5, w ∈ wsX2_checkLinks := by decide +kernel
  have f27 : (Cond.fieldLink RX2 27 RX2 (TX2 0).2.1 (TX2 0).2.2.1).before args s = true := C.2.2.2.2.1 _ (by decide +kernel)
  have iX4 : ∀ w ∈ u_ws RX4 TX4 8, w ∈ wsX2_checkLinks := by decide +kernel
  have f79 : (Cond.fieldLink RX2 79 RX4 (TX4 1).2.1 (TX4 1).2.2.1).before args s = true := C.2.2.2.2.1 _ (by decide +kernel)
  have f31 : (Cond.fieldLink RX2 31 RX2 (TX2 1).2.1 (TX2 1).2.2.1).before args s = true := C.2.2.2.2.1 _ (by decide +kernel)
  have f93 : (Cond.fieldLink RX2 93 RX4 (TX4 2).2.1 (TX4 2).2.2.1).before args s = true := C.2.2.2.2.1 _ (by decide +kernel)
  have f99 : (Cond.fieldLink RX2 99 RX4 (TX4 3).2.1 (TX4 3).2.2.1).before args s = true := C.2.2.2.2.1 _ (by decide +kernel)
  refine x_iconst C (0 : Int32) (by decide) dX2_checkLinks_0 ?_
  refine x_istore_n C [(2, .int (0 : Int32)), (0, ra V 82), (1, .int c1)] dX2_checkLinks_1 rfl (by decide) rfl ?_
  refine x_lv [1, 2, 0] [(0, ra V 82), (1, .int c1), (2, .int (0 : Int32))] rfl ?_
  refine x_loop (fun μ σ_ lv_ => ∃ (k : Nat), μ = (σ 202 0).toNatClampNeg - k ∧ upN (ckLS c1) k σ = σ_ ∧ lv_ = [(0, ra V 82), (1, .int c1), (2, .int (nI k))] ∧ k ≤ (σ 202 0).toNatClampNeg) ⟨_, ⟨0, rfl, rfl, rfl, Nat.zero_le _⟩⟩ ?_
  rintro μ2 _ _ ⟨k, hμ2, rfl, rfl, hc2_0⟩ ih2
  refine x_iload_n C dX2_checkLinks_2 rfl 2 rfl ?_
  refine x_aload_n C dX2_checkLinks_3 rfl 0 rfl ?_
  refine x_getr C sh_82 rfl iX2 0 (by decide) f27 (fun _ h => h) (by decide) rfl dX2_checkLinks_4 ?_
  refine x_getr C sh_8 rfl iX4 1 (by decide) f79 (fun _ h => h) (by decide) rfl dX2_checkLinks_7 ?_
  refine x_callV C sh_16 (by decide) rfl [] (c_X0_size_16 l V hV (upN (ckLS c1) k σ) ) (cwV 0 C.2.2.2.2.1 gX2_checkLinks_X0_size rfl rfl rfl (by decide +kernel) ⟨Nat.le_of_ble_eq_true rfl, Nat.le_of_ble_eq_true rfl⟩) rfl rfl (Nat.le_of_ble_eq_true rfl) dX2_checkLinks_10 ⟨Nat.le_of_ble_eq_true rfl, Nat.le_of_ble_eq_true rfl⟩ (x_kI ?_)
  refine x_icmp_ge C 85 dX2_checkLinks_13 rfl (fun h1 => ?_) (fun h1 => ?_)
  · exact x_vret C hr hlk dX2_checkLinks_85 ⟨rfl, by rw [upN_keep (ckLS_keep (r := 202) (by decide) c1)] at h1; rw [← (show (σ 202 0).toNatClampNeg = k from Nat.le_antisymm ((le_nI (by have := clamp_lt (σ 202 0); omega)).mp h1) hc2_0)]; rfl⟩
  · rw [upN_keep (ckLS_keep (r := 202) (by decide) c1)] at h1
    have hkn : k < (σ 202 0).toNatClampNeg := Nat.lt_of_not_le (fun hq => h1 ((le_nI (by have := clamp_lt (σ 202 0); omega)).mpr hq))
    refine x_aload_n C dX2_checkLinks_16 rfl 0 rfl ?_
    refine x_getr C sh_82 rfl iX2 1 (by decide) f31 (fun _ h => h) (by decide) rfl dX2_checkLinks_17 ?_
    refine x_iconst C (1 : Int32) (by decide) dX2_checkLinks_20 ?_
    refine x_iload_n C dX2_checkLinks_21 rfl 2 rfl ?_
    refine x_callV C sh_69 (by decide) rfl [.int (1 : Int32), .int (nI k)] (c_X7_isConditionTrue_1 l V hV (upN (ckLS c1) k σ) (nI k)) (cwV 2 C.2.2.2.2.1 gX2_checkLinks_X7_isConditionTrue rfl rfl rfl (by decide +kernel) ⟨Nat.le_of_ble_eq_true rfl, Nat.le_of_ble_eq_true rfl⟩) rfl rfl (Nat.le_of_ble_eq_true rfl) dX2_checkLinks_22 ⟨Nat.le_of_ble_eq_true rfl, Nat.le_of_ble_eq_true rfl⟩ (x_kI ?_)
    refine x_bif_eq C 79 dX2_checkLinks_25 rfl (fun h2 => ?_) (fun h2 => ?_)
    · refine x_iinc C (q := 2) ((nI k) + (1 : Int32)) [(2, .int ((nI k) + (1 : Int32))), (0, ra V 82), (1, .int c1)] dX2_checkLinks_79 rfl rfl (by decide) rfl ?_
      refine x_goto C 2 dX2_checkLinks_82 rfl ?_
      refine x_lv [1, 2, 0] [(0, ra V 82), (1, .int c1), (2, .int ((nI k) + (1 : Int32)))] rfl ?_
      exact ih2 _ _ _ (by omega) ⟨k + 1, rfl, Eq.symm (by rw [upN_s]; simp [ckLS, h2]), by rw [nI_succ], hkn⟩
    · refine x_aload_n C dX2_checkLinks_28 rfl 0 rfl ?_
      refine x_getr C sh_82 rfl iX2 1 (by decide) f31 (fun _ h => h) (by decide) rfl dX2_checkLinks_29 ?_
      refine x_iconst C (0 : Int32) (by decide) dX2_checkLinks_32 ?_
      refine x_aload_n C dX2_checkLinks_33 rfl 0 rfl ?_
      refine x_getr C sh_82 rfl iX2 0 (by decide) f27 (fun _ h => h) (by decide) rfl dX2_checkLinks_34 ?_
      refine x_getr C sh_8 rfl iX4 2 (by decide) f93 (fun _ h => h) (by decide) rfl dX2_checkLinks_37 ?_
      refine x_iload_n C dX2_checkLinks_40 rfl 2 rfl ?_
      refine x_callV C sh_23 (by decide) rfl [.int (nI k)] (c_X5_at l V hV (upN (ckLS c1) k σ) 23 24 12 sh_23 sh_24 (by decide) (nI k)) (cwV 1 C.2.2.2.2.1 gX2_checkLinks_X5_at rfl rfl rfl (by decide +kernel) ⟨Nat.le_of_ble_eq_true rfl, Nat.le_of_ble_eq_true rfl⟩) rfl rfl (Nat.le_of_ble_eq_true rfl) dX2_checkLinks_41 ⟨Nat.le_of_ble_eq_true rfl, Nat.le_of_ble_eq_true rfl⟩ (x_kI ?_)
      refine x_callV C sh_69 (by decide) rfl [.int (0 : Int32), .int (vAt 12 ((upN (ckLS c1) k σ) 24) (nI k))] (c_X7_isThere l V hV (upN (ckLS c1) k σ) (0 : Int32) (vAt 12 ((upN (ckLS c1) k σ) 24) (nI k))) (cwV 2 C.2.2.2.2.1 gX2_checkLinks_X7_isThere rfl rfl rfl (by decide +kernel) ⟨Nat.le_of_ble_eq_true rfl, Nat.le_of_ble_eq_true rfl⟩) rfl rfl (Nat.le_of_ble_eq_true rfl) dX2_checkLinks_44 ⟨Nat.le_of_ble_eq_true rfl, Nat.le_of_ble_eq_true rfl⟩ (x_kI ?_)
      refine x_bif_eq C 79 dX2_checkLinks_47 rfl (fun h3 => ?_) (fun h3 => ?_)
      · refine x_iinc C (q := 2) ((nI k) + (1 : Int32)) [(2, .int ((nI k) + (1 : Int32))), (0, ra V 82), (1, .int c1)] dX2_checkLinks_79 rfl rfl (by decide) rfl ?_
        refine x_goto C 2 dX2_checkLinks_82 rfl ?_
        refine x_lv [1, 2, 0] [(0, ra V 82), (1, .int c1), (2, .int ((nI k) + (1 : Int32)))] rfl ?_
        exact ih2 _ _ _ (by omega) ⟨k + 1, rfl, Eq.symm (by rw [upN_s]; simp [ckLS, h2, h3]), by rw [nI_succ], hkn⟩
      · refine x_aload_n C dX2_checkLinks_50 rfl 0 rfl ?_
        refine x_getr C sh_82 rfl iX2 1 (by decide) f31 (fun _ h => h) (by decide) rfl dX2_checkLinks_51 ?_
        refine x_iconst C (0 : Int32) (by decide) dX2_checkLinks_54 ?_
        refine x_aload_n C dX2_checkLinks_55 rfl 0 rfl ?_
        refine x_getr C sh_82 rfl iX2 0 (by decide) f27 (fun _ h => h) (by decide) rfl dX2_checkLinks_56 ?_
        refine x_getr C sh_8 rfl iX4 3 (by decide) f99 (fun _ h => h) (by decide) rfl dX2_checkLinks_59 ?_
        refine x_iload_n C dX2_checkLinks_62 rfl 2 rfl ?_
        refine x_callV C sh_25 (by decide) rfl [.int (nI k)] (c_X5_at l V hV (upN (ckLS c1) k σ) 25 26 12 sh_25 sh_26 (by decide) (nI k)) (cwV 1 C.2.2.2.2.1 gX2_checkLinks_X5_at rfl rfl rfl (by decide +kernel) ⟨Nat.le_of_ble_eq_true rfl, Nat.le_of_ble_eq_true rfl⟩) rfl rfl (Nat.le_of_ble_eq_true rfl) dX2_checkLinks_63 ⟨Nat.le_of_ble_eq_true rfl, Nat.le_of_ble_eq_true rfl⟩ (x_kI ?_)
        refine x_callV C sh_69 (by decide) rfl [.int (0 : Int32), .int (vAt 12 ((upN (ckLS c1) k σ) 26) (nI k))] (c_X7_isThere l V hV (upN (ckLS c1) k σ) (0 : Int32) (vAt 12 ((upN (ckLS c1) k σ) 26) (nI k))) (cwV 2 C.2.2.2.2.1 gX2_checkLinks_X7_isThere rfl rfl rfl (by decide +kernel) ⟨Nat.le_of_ble_eq_true rfl, Nat.le_of_ble_eq_true rfl⟩) rfl rfl (Nat.le_of_ble_eq_true rfl) dX2_checkLinks_66 ⟨Nat.le_of_ble_eq_true rfl, Nat.le_of_ble_eq_true rfl⟩ (x_kI ?_)
        refine x_bif_ne C 79 dX2_checkLinks_69 rfl (fun h4 => ?_) (fun h4 => ?_)
        · refine x_iinc C (q := 2) ((nI k) + (1 : Int32)) [(2, .int ((nI k) + (1 : Int32))), (0, ra V 82), (1, .int c1)] dX2_checkLinks_79 rfl rfl (by decide) rfl ?_
          refine x_goto C 2 dX2_checkLinks_82 rfl ?_
          refine x_lv [1, 2, 0] [(0, ra V 82), (1, .int c1), (2, .int ((nI k) + (1 : Int32)))] rfl ?_
          exact ih2 _ _ _ (by omega) ⟨k + 1, rfl, Eq.symm (by rw [upN_s]; simp [ckLS, h2, h3, h4]), by rw [nI_succ], hkn⟩
        · refine x_aload_n C dX2_checkLinks_72 rfl 0 rfl ?_
          refine x_iconst C (1 : Int32) (by decide) dX2_checkLinks_73 ?_
          refine x_iload_n C dX2_checkLinks_74 rfl 2 rfl ?_
          refine x_iload_n C dX2_checkLinks_75 rfl 1 rfl ?_
          refine x_callV C sh_82 (by decide) rfl [.int (1 : Int32), .int (nI k), .int c1] (c_X2_note l V hV (upN (ckLS c1) k σ) (1 : Int32) (nI k) c1) (cwV 3 C.2.2.2.2.1 gX2_checkLinks_X2_note rfl rfl rfl (by decide +kernel) ⟨Nat.le_of_ble_eq_true rfl, Nat.le_of_ble_eq_true rfl⟩) rfl rfl (Nat.le_of_ble_eq_true rfl) dX2_checkLinks_76 ⟨Nat.le_of_ble_eq_true rfl, Nat.le_of_ble_eq_true rfl⟩ (x_kV ?_)
          refine x_iinc C (q := 2) ((nI k) + (1 : Int32)) [(2, .int ((nI k) + (1 : Int32))), (0, ra V 82), (1, .int c1)] dX2_checkLinks_79 rfl rfl (by decide) rfl ?_
          refine x_goto C 2 dX2_checkLinks_82 rfl ?_
          refine x_lv [1, 2, 0] [(0, ra V 82), (1, .int c1), (2, .int ((nI k) + (1 : Int32)))] rfl ?_
          exact ih2 _ _ _ (by omega) ⟨k + 1, rfl, Eq.symm (by rw [upN_s]; simp [ckLS, h2, h3, h4]), by rw [nI_succ], hkn⟩

set_option maxHeartbeats 4000000 in
set_option maxRecDepth 100000 in
theorem c_X2_checkClasses (l : Launch) (V : xV) (hV : xInj V) (σ : xS) (c1 : Int32)  : xM l yX2_checkClasses wsX2_checkClasses ({ frames := 3, cells := 0, slots := 0, locals := 66 }) V [ra V 82, .int c1] σ (rV (ckC σ c1)) := by
  refine xM_of (cc := cX2_checkClasses) (maxL := 3) (ret := none) [(0, ra V 82), (1, .int c1)] hV (by decide) rfl rfl (Nat.le_of_ble_eq_true rfl) (fun p e s m args below meth c C hr hlk => ?_)
  have iX2 : ∀ w ∈ u_ws RX2 TX2 5, w ∈ wsX2_checkClasses := by decide +kernel
  have f27 : (Cond.fieldLink RX2 27 RX2 (TX2 0).2.1 (TX2 0).2.2.1).before args s = true := C.2.2.2.2.1 _ (by decide +kernel)
  have iX4 : ∀ w ∈ u_ws RX4 TX4 8, w ∈ wsX2_checkClasses := by decide +kernel
  have f106 : (Cond.fieldLink RX2 106 RX4 (TX4 0).2.1 (TX4 0).2.2.1).before args s = true := C.2.2.2.2.1 _ (by decide +kernel)
  have f31 : (Cond.fieldLink RX2 31 RX2 (TX2 1).2.1 (TX2 1).2.2.1).before args s = true := C.2.2.2.2.1 _ (by decide +kernel)
  refine x_iconst C (0 : Int32) (by decide) dX2_checkClasses_0 ?_
  refine x_istore_n C [(2, .int (0 : Int32)), (0, ra V 82), (1, .int c1)] dX2_checkClasses_1 rfl (by decide) rfl ?_
  refine x_lv [1, 2, 0] [(0, ra V 82), (1, .int c1), (2, .int (0 : Int32))] rfl ?_
  refine x_loop (fun μ σ_ lv_ => ∃ (k : Nat), μ = (σ 201 0).toNatClampNeg - k ∧ upN (ckCS c1) k σ = σ_ ∧ lv_ = [(0, ra V 82), (1, .int c1), (2, .int (nI k))] ∧ k ≤ (σ 201 0).toNatClampNeg) ⟨_, ⟨0, rfl, rfl, rfl, Nat.zero_le _⟩⟩ ?_
  rintro μ2 _ _ ⟨k, hμ2, rfl, rfl, hc2_0⟩ ih2
  refine x_iload_n C dX2_checkClasses_2 rfl 2 rfl ?_
  refine x_aload_n C dX2_checkClasses_3 rfl 0 rfl ?_
  refine x_getr C sh_82 rfl iX2 0 (by decide) f27 (fun _ h => h) (by decide) rfl dX2_checkClasses_4 ?_
  refine x_getr C sh_8 rfl iX4 0 (by decide) f106 (fun _ h => h) (by decide) rfl dX2_checkClasses_7 ?_
  refine x_callV C sh_9 (by decide) rfl [] (c_X0_size_9 l V hV (upN (ckCS c1) k σ) ) (cwV 0 C.2.2.2.2.1 gX2_checkClasses_X0_size rfl rfl rfl (by decide +kernel) ⟨Nat.le_of_ble_eq_true rfl, Nat.le_of_ble_eq_true rfl⟩) rfl rfl (Nat.le_of_ble_eq_true rfl) dX2_checkClasses_10 ⟨Nat.le_of_ble_eq_true rfl, Nat.le_of_ble_eq_true rfl⟩ (x_kI ?_)
  refine x_icmp_ge C 81 dX2_checkClasses_13 rfl (fun h1 => ?_) (fun h1 => ?_)
  · exact x_vret C hr hlk dX2_checkClasses_81 ⟨rfl, by rw [upN_keep (ckCS_keep (r := 201) (by decide) c1)] at h1; rw [← (show (σ 201 0).toNatClampNeg = k from Nat.le_antisymm ((le_nI (by have := clamp_lt (σ 201 0); omega)).mp h1) hc2_0)]; rfl⟩
  · rw [upN_keep (ckCS_keep (r := 201) (by decide) c1)] at h1
    have hkn : k < (σ 201 0).toNatClampNeg := Nat.lt_of_not_le (fun hq => h1 ((le_nI (by have := clamp_lt (σ 201 0); omega)).mpr hq))
    refine x_join (ckC1 c1 (upN (ckCS c1) k σ) (nI k)) 44 [(0, ra V 82), (1, .int c1), (2, .int (nI k))] [] ?_ (fun hJ44 => ?_)
    · refine x_aload_n C dX2_checkClasses_44 rfl 0 rfl ?_
      refine x_getr C sh_82 rfl iX2 1 (by decide) f31 (fun _ h => h) (by decide) rfl dX2_checkClasses_45 ?_
      refine x_iconst C (0 : Int32) (by decide) dX2_checkClasses_48 ?_
      refine x_iload_n C dX2_checkClasses_49 rfl 2 rfl ?_
      refine x_callV C sh_69 (by decide) rfl [.int (0 : Int32), .int (nI k)] (c_X7_isThere l V hV (ckC1 c1 (upN (ckCS c1) k σ) (nI k)) (0 : Int32) (nI k)) (cwV 2 C.2.2.2.2.1 gX2_checkClasses_X7_isThere rfl rfl rfl (by decide +kernel) ⟨Nat.le_of_ble_eq_true rfl, Nat.le_of_ble_eq_true rfl⟩) rfl rfl (Nat.le_of_ble_eq_true rfl) dX2_checkClasses_50 ⟨Nat.le_of_ble_eq_true rfl, Nat.le_of_ble_eq_true rfl⟩ (x_kI ?_)
      refine x_bif_eq C 75 dX2_checkClasses_53 rfl (fun h2 => ?_) (fun h2 => ?_)
      · refine x_iinc C (q := 2) ((nI k) + (1 : Int32)) [(2, .int ((nI k) + (1 : Int32))), (0, ra V 82), (1, .int c1)] dX2_checkClasses_75 rfl rfl (by decide) rfl ?_
        refine x_goto C 2 dX2_checkClasses_78 rfl ?_
        refine x_lv [1, 2, 0] [(0, ra V 82), (1, .int c1), (2, .int ((nI k) + (1 : Int32)))] rfl ?_
        exact ih2 _ _ _ (by omega) ⟨k + 1, rfl, Eq.symm (by rw [upN_s]; simp [ckCS, h2]), by rw [nI_succ], hkn⟩
      · refine x_aload_n C dX2_checkClasses_56 rfl 0 rfl ?_
        refine x_getr C sh_82 rfl iX2 1 (by decide) f31 (fun _ h => h) (by decide) rfl dX2_checkClasses_57 ?_
        refine x_iload_n C dX2_checkClasses_60 rfl 2 rfl ?_
        refine x_iload_n C dX2_checkClasses_61 rfl 2 rfl ?_
        refine x_callV C sh_69 (by decide) rfl [.int (nI k), .int (nI k)] (c_X7_isUnder l V hV (ckC1 c1 (upN (ckCS c1) k σ) (nI k)) (nI k) (nI k)) (cwV 2 C.2.2.2.2.1 gX2_checkClasses_X7_isUnder rfl rfl rfl (by decide +kernel) ⟨Nat.le_of_ble_eq_true rfl, Nat.le_of_ble_eq_true rfl⟩) rfl rfl (Nat.le_of_ble_eq_true rfl) dX2_checkClasses_62 ⟨Nat.le_of_ble_eq_true rfl, Nat.le_of_ble_eq_true rfl⟩ (x_kI ?_)
        refine x_bif_eq C 75 dX2_checkClasses_65 rfl (fun h3 => ?_) (fun h3 => ?_)
        · refine x_iinc C (q := 2) ((nI k) + (1 : Int32)) [(2, .int ((nI k) + (1 : Int32))), (0, ra V 82), (1, .int c1)] dX2_checkClasses_75 rfl rfl (by decide) rfl ?_
          refine x_goto C 2 dX2_checkClasses_78 rfl ?_
          refine x_lv [1, 2, 0] [(0, ra V 82), (1, .int c1), (2, .int ((nI k) + (1 : Int32)))] rfl ?_
          exact ih2 _ _ _ (by omega) ⟨k + 1, rfl, Eq.symm (by rw [upN_s]; simp [ckCS, h2, h3]), by rw [nI_succ], hkn⟩
        · refine x_aload_n C dX2_checkClasses_68 rfl 0 rfl ?_
          refine x_iconst C (3 : Int32) (by decide) dX2_checkClasses_69 ?_
          refine x_iload_n C dX2_checkClasses_70 rfl 2 rfl ?_
          refine x_iload_n C dX2_checkClasses_71 rfl 1 rfl ?_
          refine x_callV C sh_82 (by decide) rfl [.int (3 : Int32), .int (nI k), .int c1] (c_X2_note l V hV (ckC1 c1 (upN (ckCS c1) k σ) (nI k)) (3 : Int32) (nI k) c1) (cwV 3 C.2.2.2.2.1 gX2_checkClasses_X2_note rfl rfl rfl (by decide +kernel) ⟨Nat.le_of_ble_eq_true rfl, Nat.le_of_ble_eq_true rfl⟩) rfl rfl (Nat.le_of_ble_eq_true rfl) dX2_checkClasses_72 ⟨Nat.le_of_ble_eq_true rfl, Nat.le_of_ble_eq_true rfl⟩ (x_kV ?_)
          refine x_iinc C (q := 2) ((nI k) + (1 : Int32)) [(2, .int ((nI k) + (1 : Int32))), (0, ra V 82), (1, .int c1)] dX2_checkClasses_75 rfl rfl (by decide) rfl ?_
          refine x_goto C 2 dX2_checkClasses_78 rfl ?_
          refine x_lv [1, 2, 0] [(0, ra V 82), (1, .int c1), (2, .int ((nI k) + (1 : Int32)))] rfl ?_
          exact ih2 _ _ _ (by omega) ⟨k + 1, rfl, Eq.symm (by rw [upN_s]; simp [ckCS, h2, h3]), by rw [nI_succ], hkn⟩
    · refine x_aload_n C dX2_checkClasses_16 rfl 0 rfl ?_
      refine x_getr C sh_82 rfl iX2 1 (by decide) f31 (fun _ h => h) (by decide) rfl dX2_checkClasses_17 ?_
      refine x_iconst C (0 : Int32) (by decide) dX2_checkClasses_20 ?_
      refine x_iload_n C dX2_checkClasses_21 rfl 2 rfl ?_
      refine x_callV C sh_69 (by decide) rfl [.int (0 : Int32), .int (nI k)] (c_X7_isThere l V hV (upN (ckCS c1) k σ) (0 : Int32) (nI k)) (cwV 2 C.2.2.2.2.1 gX2_checkClasses_X7_isThere rfl rfl rfl (by decide +kernel) ⟨Nat.le_of_ble_eq_true rfl, Nat.le_of_ble_eq_true rfl⟩) rfl rfl (Nat.le_of_ble_eq_true rfl) dX2_checkClasses_22 ⟨Nat.le_of_ble_eq_true rfl, Nat.le_of_ble_eq_true rfl⟩ (x_kI ?_)
      refine x_bif_eq C 44 dX2_checkClasses_25 rfl (fun h4 => ?_) (fun h4 => ?_)
      · refine x_lv [0, 1, 2] [(0, ra V 82), (1, .int c1), (2, .int (nI k))] rfl ?_
        exact x_ss (⟨by simp [ckC1, h4], rfl⟩) hJ44
      · refine x_aload_n C dX2_checkClasses_28 rfl 0 rfl ?_
        refine x_iload_n C dX2_checkClasses_29 rfl 2 rfl ?_
        refine x_callV C sh_82 (by decide) rfl [.int (nI k)] (c_X2_countLinks l V hV (upN (ckCS c1) k σ) (nI k)) (cwV 1 C.2.2.2.2.1 gX2_checkClasses_X2_countLinks rfl rfl rfl (by decide +kernel) ⟨Nat.le_of_ble_eq_true rfl, Nat.le_of_ble_eq_true rfl⟩) rfl rfl (Nat.le_of_ble_eq_true rfl) dX2_checkClasses_30 ⟨Nat.le_of_ble_eq_true rfl, Nat.le_of_ble_eq_true rfl⟩ (x_kI ?_)
        refine x_iconst C (1 : Int32) (by decide) dX2_checkClasses_33 ?_
        refine x_icmp_le C 44 dX2_checkClasses_34 rfl (fun h5 => ?_) (fun h5 => ?_)
        · refine x_lv [0, 1, 2] [(0, ra V 82), (1, .int c1), (2, .int (nI k))] rfl ?_
          exact x_ss (⟨by simp [ckC1, h4, h5], rfl⟩) hJ44
        · refine x_aload_n C dX2_checkClasses_37 rfl 0 rfl ?_
          refine x_iconst C (2 : Int32) (by decide) dX2_checkClasses_38 ?_
          refine x_iload_n C dX2_checkClasses_39 rfl 2 rfl ?_
          refine x_iload_n C dX2_checkClasses_40 rfl 1 rfl ?_
          refine x_callV C sh_82 (by decide) rfl [.int (2 : Int32), .int (nI k), .int c1] (c_X2_note l V hV (upN (ckCS c1) k σ) (2 : Int32) (nI k) c1) (cwV 3 C.2.2.2.2.1 gX2_checkClasses_X2_note rfl rfl rfl (by decide +kernel) ⟨Nat.le_of_ble_eq_true rfl, Nat.le_of_ble_eq_true rfl⟩) rfl rfl (Nat.le_of_ble_eq_true rfl) dX2_checkClasses_41 ⟨Nat.le_of_ble_eq_true rfl, Nat.le_of_ble_eq_true rfl⟩ (x_kV ?_)
          refine x_lv [0, 1, 2] [(0, ra V 82), (1, .int c1), (2, .int (nI k))] rfl ?_
          exact x_ss (⟨by simp [ckC1, h4, h5], rfl⟩) hJ44

set_option maxHeartbeats 4000000 in
set_option maxRecDepth 100000 in
theorem c_X2_checkMember (l : Launch) (V : xV) (hV : xInj V) (σ : xS) (i c1 : Int32)  : xM l yX2_checkMember wsX2_checkMember ({ frames := 3, cells := 0, slots := 0, locals := 71 }) V [ra V 82, .int i, .int c1] σ (rV (ckM0 c1 σ i)) := by
  refine xM_of (cc := cX2_checkMember) (maxL := 3) (ret := none) [(0, ra V 82), (1, .int i), (2, .int c1)] hV (by decide) rfl rfl (Nat.le_of_ble_eq_true rfl) (fun p e s m args below meth c C hr hlk => ?_)
  have iX2 : ∀ w ∈ u_ws RX2 TX2 5, w ∈ wsX2_checkMember := by decide +kernel
  have f27 : (Cond.fieldLink RX2 27 RX2 (TX2 0).2.1 (TX2 0).2.2.1).before args s = true := C.2.2.2.2.1 _ (by decide +kernel)
  have iX4 : ∀ w ∈ u_ws RX4 TX4 8, w ∈ wsX2_checkMember := by decide +kernel
  have f115 : (Cond.fieldLink RX2 115 RX4 (TX4 4).2.1 (TX4 4).2.2.1).before args s = true := C.2.2.2.2.1 _ (by decide +kernel)
  have f31 : (Cond.fieldLink RX2 31 RX2 (TX2 1).2.1 (TX2 1).2.2.1).before args s = true := C.2.2.2.2.1 _ (by decide +kernel)
  refine x_join (ckM1 c1 σ i) 72 [(0, ra V 82), (1, .int i), (2, .int c1)] [] ?_ (fun hJ72 => ?_)
  · refine x_join (ckM2 c1 (ckM1 c1 σ i) i) 91 [(0, ra V 82), (1, .int i), (2, .int c1)] [] ?_ (fun hJ91 => ?_)
    · refine x_aload_n C dX2_checkMember_91 rfl 0 rfl ?_
      refine x_getr C sh_82 rfl iX2 0 (by decide) f27 (fun _ h => h) (by decide) rfl dX2_checkMember_92 ?_
      refine x_getr C sh_8 rfl iX4 4 (by decide) f115 (fun _ h => h) (by decide) rfl dX2_checkMember_95 ?_
      refine x_iload_n C dX2_checkMember_98 rfl 1 rfl ?_
      refine x_callV C sh_27 (by decide) rfl [.int i] (c_X3_sort l V hV (ckM2 c1 (ckM1 c1 σ i) i) i) (cwV 1 C.2.2.2.2.1 gX2_checkMember_X3_sort rfl rfl rfl (by decide +kernel) ⟨Nat.le_of_ble_eq_true rfl, Nat.le_of_ble_eq_true rfl⟩) rfl rfl (Nat.le_of_ble_eq_true rfl) dX2_checkMember_99 ⟨Nat.le_of_ble_eq_true rfl, Nat.le_of_ble_eq_true rfl⟩ (x_kI ?_)
      refine x_iconst C (1 : Int32) (by decide) dX2_checkMember_102 ?_
      refine x_icmp_ne C 122 dX2_checkMember_103 rfl (fun h1 => ?_) (fun h1 => ?_)
      · exact x_vret C hr hlk dX2_checkMember_122 ⟨rfl, by simp [ckM0, ckM3, h1]⟩
      · refine x_aload_n C dX2_checkMember_106 rfl 0 rfl ?_
        refine x_iload_n C dX2_checkMember_107 rfl 1 rfl ?_
        refine x_callV C sh_82 (by decide) rfl [.int i] (c_X2_isUnlikeInherited l V hV (ckM2 c1 (ckM1 c1 σ i) i) i) (cwV 1 C.2.2.2.2.1 gX2_checkMember_X2_isUnlikeInherited rfl rfl rfl (by decide +kernel) ⟨Nat.le_of_ble_eq_true rfl, Nat.le_of_ble_eq_true rfl⟩) rfl rfl (Nat.le_of_ble_eq_true rfl) dX2_checkMember_108 ⟨Nat.le_of_ble_eq_true rfl, Nat.le_of_ble_eq_true rfl⟩ (x_kI ?_)
        refine x_bif_eq C 122 dX2_checkMember_111 rfl (fun h2 => ?_) (fun h2 => ?_)
        · exact x_vret C hr hlk dX2_checkMember_122 ⟨rfl, by simp [ckM0, ckM3, eq_true h1, h2]⟩
        · refine x_aload_n C dX2_checkMember_114 rfl 0 rfl ?_
          refine x_bipush C (7 : Int32) (by decide) dX2_checkMember_115 ?_
          refine x_iload_n C dX2_checkMember_117 rfl 1 rfl ?_
          refine x_iload_n C dX2_checkMember_118 rfl 2 rfl ?_
          refine x_callV C sh_82 (by decide) rfl [.int (7 : Int32), .int i, .int c1] (c_X2_note l V hV (ckM2 c1 (ckM1 c1 σ i) i) (7 : Int32) i c1) (cwV 3 C.2.2.2.2.1 gX2_checkMember_X2_note rfl rfl rfl (by decide +kernel) ⟨Nat.le_of_ble_eq_true rfl, Nat.le_of_ble_eq_true rfl⟩) rfl rfl (Nat.le_of_ble_eq_true rfl) dX2_checkMember_119 ⟨Nat.le_of_ble_eq_true rfl, Nat.le_of_ble_eq_true rfl⟩ (x_kV ?_)
          exact x_vret C hr hlk dX2_checkMember_122 ⟨rfl, by simp [ckM0, ckM3, eq_true h1, h2]⟩
    · refine x_aload_n C dX2_checkMember_72 rfl 0 rfl ?_
      refine x_getr C sh_82 rfl iX2 1 (by decide) f31 (fun _ h => h) (by decide) rfl dX2_checkMember_73 ?_
      refine x_iload_n C dX2_checkMember_76 rfl 1 rfl ?_
      refine x_callV C sh_69 (by decide) rfl [.int i] (c_X7_isRepeated l V hV (ckM1 c1 σ i) i) (cwV 1 C.2.2.2.2.1 gX2_checkMember_X7_isRepeated rfl rfl rfl (by decide +kernel) ⟨Nat.le_of_ble_eq_true rfl, Nat.le_of_ble_eq_true rfl⟩) rfl rfl (Nat.le_of_ble_eq_true rfl) dX2_checkMember_77 ⟨Nat.le_of_ble_eq_true rfl, Nat.le_of_ble_eq_true rfl⟩ (x_kI ?_)
      refine x_bif_eq C 91 dX2_checkMember_80 rfl (fun h3 => ?_) (fun h3 => ?_)
      · refine x_lv [0, 1, 2] [(0, ra V 82), (1, .int i), (2, .int c1)] rfl ?_
        exact x_ss (⟨by simp [ckM2, h3], rfl⟩) hJ91
      · refine x_aload_n C dX2_checkMember_83 rfl 0 rfl ?_
        refine x_bipush C (6 : Int32) (by decide) dX2_checkMember_84 ?_
        refine x_iload_n C dX2_checkMember_86 rfl 1 rfl ?_
        refine x_iload_n C dX2_checkMember_87 rfl 2 rfl ?_
        refine x_callV C sh_82 (by decide) rfl [.int (6 : Int32), .int i, .int c1] (c_X2_note l V hV (ckM1 c1 σ i) (6 : Int32) i c1) (cwV 3 C.2.2.2.2.1 gX2_checkMember_X2_note rfl rfl rfl (by decide +kernel) ⟨Nat.le_of_ble_eq_true rfl, Nat.le_of_ble_eq_true rfl⟩) rfl rfl (Nat.le_of_ble_eq_true rfl) dX2_checkMember_88 ⟨Nat.le_of_ble_eq_true rfl, Nat.le_of_ble_eq_true rfl⟩ (x_kV ?_)
        refine x_lv [0, 1, 2] [(0, ra V 82), (1, .int i), (2, .int c1)] rfl ?_
        exact x_ss (⟨by simp [ckM2, h3], rfl⟩) hJ91
  · refine x_aload_n C dX2_checkMember_0 rfl 0 rfl ?_
    refine x_getr C sh_82 rfl iX2 1 (by decide) f31 (fun _ h => h) (by decide) rfl dX2_checkMember_1 ?_
    refine x_aload_n C dX2_checkMember_4 rfl 0 rfl ?_
    refine x_getr C sh_82 rfl iX2 0 (by decide) f27 (fun _ h => h) (by decide) rfl dX2_checkMember_5 ?_
    refine x_getr C sh_8 rfl iX4 4 (by decide) f115 (fun _ h => h) (by decide) rfl dX2_checkMember_8 ?_
    refine x_iload_n C dX2_checkMember_11 rfl 1 rfl ?_
    refine x_callV C sh_27 (by decide) rfl [.int i] (c_X3_type l V hV σ i) (cwV 1 C.2.2.2.2.1 gX2_checkMember_X3_type rfl rfl rfl (by decide +kernel) ⟨Nat.le_of_ble_eq_true rfl, Nat.le_of_ble_eq_true rfl⟩) rfl rfl (Nat.le_of_ble_eq_true rfl) dX2_checkMember_12 ⟨Nat.le_of_ble_eq_true rfl, Nat.le_of_ble_eq_true rfl⟩ (x_kI ?_)
    refine x_callV C sh_69 (by decide) rfl [.int (vAt 24 (σ 42) i)] (c_X7_isMissing l V hV σ (vAt 24 (σ 42) i)) (cwV 1 C.2.2.2.2.1 gX2_checkMember_X7_isMissing rfl rfl rfl (by decide +kernel) ⟨Nat.le_of_ble_eq_true rfl, Nat.le_of_ble_eq_true rfl⟩) rfl rfl (Nat.le_of_ble_eq_true rfl) dX2_checkMember_15 ⟨Nat.le_of_ble_eq_true rfl, Nat.le_of_ble_eq_true rfl⟩ (x_kI ?_)
    refine x_bif_ne C 65 dX2_checkMember_18 rfl (fun h4 => ?_) (fun h4 => ?_)
    · refine x_aload_n C dX2_checkMember_65 rfl 0 rfl ?_
      refine x_iconst C (5 : Int32) (by decide) dX2_checkMember_66 ?_
      refine x_iload_n C dX2_checkMember_67 rfl 1 rfl ?_
      refine x_iload_n C dX2_checkMember_68 rfl 2 rfl ?_
      refine x_callV C sh_82 (by decide) rfl [.int (5 : Int32), .int i, .int c1] (c_X2_note l V hV σ (5 : Int32) i c1) (cwV 3 C.2.2.2.2.1 gX2_checkMember_X2_note rfl rfl rfl (by decide +kernel) ⟨Nat.le_of_ble_eq_true rfl, Nat.le_of_ble_eq_true rfl⟩) rfl rfl (Nat.le_of_ble_eq_true rfl) dX2_checkMember_69 ⟨Nat.le_of_ble_eq_true rfl, Nat.le_of_ble_eq_true rfl⟩ (x_kV ?_)
      refine x_lv [0, 1, 2] [(0, ra V 82), (1, .int i), (2, .int c1)] rfl ?_
      exact x_ss (⟨by simp [ckM1, h4], rfl⟩) hJ72
    · refine x_aload_n C dX2_checkMember_21 rfl 0 rfl ?_
      refine x_getr C sh_82 rfl iX2 1 (by decide) f31 (fun _ h => h) (by decide) rfl dX2_checkMember_22 ?_
      refine x_aload_n C dX2_checkMember_25 rfl 0 rfl ?_
      refine x_getr C sh_82 rfl iX2 0 (by decide) f27 (fun _ h => h) (by decide) rfl dX2_checkMember_26 ?_
      refine x_getr C sh_8 rfl iX4 4 (by decide) f115 (fun _ h => h) (by decide) rfl dX2_checkMember_29 ?_
      refine x_iload_n C dX2_checkMember_32 rfl 1 rfl ?_
      refine x_iconst C (0 : Int32) (by decide) dX2_checkMember_33 ?_
      refine x_callV C sh_27 (by decide) rfl [.int i, .int (0 : Int32)] (c_X3_parameter l V hV σ i (0 : Int32)) (cwV 2 C.2.2.2.2.1 gX2_checkMember_X3_parameter rfl rfl rfl (by decide +kernel) ⟨Nat.le_of_ble_eq_true rfl, Nat.le_of_ble_eq_true rfl⟩) rfl rfl (Nat.le_of_ble_eq_true rfl) dX2_checkMember_34 ⟨Nat.le_of_ble_eq_true rfl, Nat.le_of_ble_eq_true rfl⟩ (x_kI ?_)
      refine x_callV C sh_69 (by decide) rfl [.int (mPar σ i (0 : Int32))] (c_X7_isMissing l V hV σ (mPar σ i (0 : Int32))) (cwV 1 C.2.2.2.2.1 gX2_checkMember_X7_isMissing rfl rfl rfl (by decide +kernel) ⟨Nat.le_of_ble_eq_true rfl, Nat.le_of_ble_eq_true rfl⟩) rfl rfl (Nat.le_of_ble_eq_true rfl) dX2_checkMember_37 ⟨Nat.le_of_ble_eq_true rfl, Nat.le_of_ble_eq_true rfl⟩ (x_kI ?_)
      refine x_bif_ne C 65 dX2_checkMember_40 rfl (fun h5 => ?_) (fun h5 => ?_)
      · refine x_aload_n C dX2_checkMember_65 rfl 0 rfl ?_
        refine x_iconst C (5 : Int32) (by decide) dX2_checkMember_66 ?_
        refine x_iload_n C dX2_checkMember_67 rfl 1 rfl ?_
        refine x_iload_n C dX2_checkMember_68 rfl 2 rfl ?_
        refine x_callV C sh_82 (by decide) rfl [.int (5 : Int32), .int i, .int c1] (c_X2_note l V hV σ (5 : Int32) i c1) (cwV 3 C.2.2.2.2.1 gX2_checkMember_X2_note rfl rfl rfl (by decide +kernel) ⟨Nat.le_of_ble_eq_true rfl, Nat.le_of_ble_eq_true rfl⟩) rfl rfl (Nat.le_of_ble_eq_true rfl) dX2_checkMember_69 ⟨Nat.le_of_ble_eq_true rfl, Nat.le_of_ble_eq_true rfl⟩ (x_kV ?_)
        refine x_lv [0, 1, 2] [(0, ra V 82), (1, .int i), (2, .int c1)] rfl ?_
        exact x_ss (⟨by simp [ckM1, h4, h5], rfl⟩) hJ72
      · refine x_aload_n C dX2_checkMember_43 rfl 0 rfl ?_
        refine x_getr C sh_82 rfl iX2 1 (by decide) f31 (fun _ h => h) (by decide) rfl dX2_checkMember_44 ?_
        refine x_aload_n C dX2_checkMember_47 rfl 0 rfl ?_
        refine x_getr C sh_82 rfl iX2 0 (by decide) f27 (fun _ h => h) (by decide) rfl dX2_checkMember_48 ?_
        refine x_getr C sh_8 rfl iX4 4 (by decide) f115 (fun _ h => h) (by decide) rfl dX2_checkMember_51 ?_
        refine x_iload_n C dX2_checkMember_54 rfl 1 rfl ?_
        refine x_iconst C (1 : Int32) (by decide) dX2_checkMember_55 ?_
        refine x_callV C sh_27 (by decide) rfl [.int i, .int (1 : Int32)] (c_X3_parameter l V hV σ i (1 : Int32)) (cwV 2 C.2.2.2.2.1 gX2_checkMember_X3_parameter rfl rfl rfl (by decide +kernel) ⟨Nat.le_of_ble_eq_true rfl, Nat.le_of_ble_eq_true rfl⟩) rfl rfl (Nat.le_of_ble_eq_true rfl) dX2_checkMember_56 ⟨Nat.le_of_ble_eq_true rfl, Nat.le_of_ble_eq_true rfl⟩ (x_kI ?_)
        refine x_callV C sh_69 (by decide) rfl [.int (mPar σ i (1 : Int32))] (c_X7_isMissing l V hV σ (mPar σ i (1 : Int32))) (cwV 1 C.2.2.2.2.1 gX2_checkMember_X7_isMissing rfl rfl rfl (by decide +kernel) ⟨Nat.le_of_ble_eq_true rfl, Nat.le_of_ble_eq_true rfl⟩) rfl rfl (Nat.le_of_ble_eq_true rfl) dX2_checkMember_59 ⟨Nat.le_of_ble_eq_true rfl, Nat.le_of_ble_eq_true rfl⟩ (x_kI ?_)
        refine x_bif_eq C 72 dX2_checkMember_62 rfl (fun h6 => ?_) (fun h6 => ?_)
        · refine x_lv [0, 1, 2] [(0, ra V 82), (1, .int i), (2, .int c1)] rfl ?_
          exact x_ss (⟨by simp [ckM1, h4, h5, h6], rfl⟩) hJ72
        · refine x_aload_n C dX2_checkMember_65 rfl 0 rfl ?_
          refine x_iconst C (5 : Int32) (by decide) dX2_checkMember_66 ?_
          refine x_iload_n C dX2_checkMember_67 rfl 1 rfl ?_
          refine x_iload_n C dX2_checkMember_68 rfl 2 rfl ?_
          refine x_callV C sh_82 (by decide) rfl [.int (5 : Int32), .int i, .int c1] (c_X2_note l V hV σ (5 : Int32) i c1) (cwV 3 C.2.2.2.2.1 gX2_checkMember_X2_note rfl rfl rfl (by decide +kernel) ⟨Nat.le_of_ble_eq_true rfl, Nat.le_of_ble_eq_true rfl⟩) rfl rfl (Nat.le_of_ble_eq_true rfl) dX2_checkMember_69 ⟨Nat.le_of_ble_eq_true rfl, Nat.le_of_ble_eq_true rfl⟩ (x_kV ?_)
          refine x_lv [0, 1, 2] [(0, ra V 82), (1, .int i), (2, .int c1)] rfl ?_
          exact x_ss (⟨by simp [ckM1, h4, h5, h6], rfl⟩) hJ72

set_option maxHeartbeats 4000000 in
set_option maxRecDepth 100000 in
theorem c_X2_checkMembers (l : Launch) (V : xV) (hV : xInj V) (σ : xS) (c1 : Int32)  : xM l yX2_checkMembers wsX2_checkMembers ({ frames := 4, cells := 0, slots := 0, locals := 93 }) V [ra V 82, .int c1] σ (rV (ckM σ c1)) := by
  refine xM_of (cc := cX2_checkMembers) (maxL := 3) (ret := none) [(0, ra V 82), (1, .int c1)] hV (by decide) rfl rfl (Nat.le_of_ble_eq_true rfl) (fun p e s m args below meth c C hr hlk => ?_)
  have iX2 : ∀ w ∈ u_ws RX2 TX2 5, w ∈ wsX2_checkMembers := by decide +kernel
  have f27 : (Cond.fieldLink RX2 27 RX2 (TX2 0).2.1 (TX2 0).2.2.1).before args s = true := C.2.2.2.2.1 _ (by decide +kernel)
  have iX4 : ∀ w ∈ u_ws RX4 TX4 8, w ∈ wsX2_checkMembers := by decide +kernel
  have f115 : (Cond.fieldLink RX2 115 RX4 (TX4 4).2.1 (TX4 4).2.2.1).before args s = true := C.2.2.2.2.1 _ (by decide +kernel)
  have f31 : (Cond.fieldLink RX2 31 RX2 (TX2 1).2.1 (TX2 1).2.2.1).before args s = true := C.2.2.2.2.1 _ (by decide +kernel)
  refine x_iconst C (0 : Int32) (by decide) dX2_checkMembers_0 ?_
  refine x_istore_n C [(2, .int (0 : Int32)), (0, ra V 82), (1, .int c1)] dX2_checkMembers_1 rfl (by decide) rfl ?_
  refine x_lv [1, 2, 0] [(0, ra V 82), (1, .int c1), (2, .int (0 : Int32))] rfl ?_
  refine x_loop (fun μ σ_ lv_ => ∃ (k : Nat), μ = (σ 203 0).toNatClampNeg - k ∧ upN (ckMS c1) k σ = σ_ ∧ lv_ = [(0, ra V 82), (1, .int c1), (2, .int (nI k))] ∧ k ≤ (σ 203 0).toNatClampNeg) ⟨_, ⟨0, rfl, rfl, rfl, Nat.zero_le _⟩⟩ ?_
  rintro μ2 _ _ ⟨k, hμ2, rfl, rfl, hc2_0⟩ ih2
  refine x_iload_n C dX2_checkMembers_2 rfl 2 rfl ?_
  refine x_aload_n C dX2_checkMembers_3 rfl 0 rfl ?_
  refine x_getr C sh_82 rfl iX2 0 (by decide) f27 (fun _ h => h) (by decide) rfl dX2_checkMembers_4 ?_
  refine x_getr C sh_8 rfl iX4 4 (by decide) f115 (fun _ h => h) (by decide) rfl dX2_checkMembers_7 ?_
  refine x_callV C sh_27 (by decide) rfl [] (c_X3_size l V hV (upN (ckMS c1) k σ) ) (cwV 0 C.2.2.2.2.1 gX2_checkMembers_X3_size rfl rfl rfl (by decide +kernel) ⟨Nat.le_of_ble_eq_true rfl, Nat.le_of_ble_eq_true rfl⟩) rfl rfl (Nat.le_of_ble_eq_true rfl) dX2_checkMembers_10 ⟨Nat.le_of_ble_eq_true rfl, Nat.le_of_ble_eq_true rfl⟩ (x_kI ?_)
  refine x_icmp_ge C 62 dX2_checkMembers_13 rfl (fun h1 => ?_) (fun h1 => ?_)
  · exact x_vret C hr hlk dX2_checkMembers_62 ⟨rfl, by rw [upN_keep (ckMS_keep (r := 203) (by decide) c1)] at h1; rw [← (show (σ 203 0).toNatClampNeg = k from Nat.le_antisymm ((le_nI (by have := clamp_lt (σ 203 0); omega)).mp h1) hc2_0)]; rfl⟩
  · rw [upN_keep (ckMS_keep (r := 203) (by decide) c1)] at h1
    have hkn : k < (σ 203 0).toNatClampNeg := Nat.lt_of_not_le (fun hq => h1 ((le_nI (by have := clamp_lt (σ 203 0); omega)).mpr hq))
    refine x_aload_n C dX2_checkMembers_16 rfl 0 rfl ?_
    refine x_getr C sh_82 rfl iX2 1 (by decide) f31 (fun _ h => h) (by decide) rfl dX2_checkMembers_17 ?_
    refine x_iconst C (2 : Int32) (by decide) dX2_checkMembers_20 ?_
    refine x_iload_n C dX2_checkMembers_21 rfl 2 rfl ?_
    refine x_callV C sh_69 (by decide) rfl [.int (2 : Int32), .int (nI k)] (c_X7_isThere l V hV (upN (ckMS c1) k σ) (2 : Int32) (nI k)) (cwV 2 C.2.2.2.2.1 gX2_checkMembers_X7_isThere rfl rfl rfl (by decide +kernel) ⟨Nat.le_of_ble_eq_true rfl, Nat.le_of_ble_eq_true rfl⟩) rfl rfl (Nat.le_of_ble_eq_true rfl) dX2_checkMembers_22 ⟨Nat.le_of_ble_eq_true rfl, Nat.le_of_ble_eq_true rfl⟩ (x_kI ?_)
    refine x_bif_eq C 37 dX2_checkMembers_25 rfl (fun h2 => ?_) (fun h2 => ?_)
    · refine x_aload_n C dX2_checkMembers_37 rfl 0 rfl ?_
      refine x_getr C sh_82 rfl iX2 1 (by decide) f31 (fun _ h => h) (by decide) rfl dX2_checkMembers_38 ?_
      refine x_iconst C (2 : Int32) (by decide) dX2_checkMembers_41 ?_
      refine x_iload_n C dX2_checkMembers_42 rfl 2 rfl ?_
      refine x_callV C sh_69 (by decide) rfl [.int (2 : Int32), .int (nI k)] (c_X7_isConditionTrue_2 l V hV (upN (ckMS c1) k σ) (nI k)) (cwV 2 C.2.2.2.2.1 gX2_checkMembers_X7_isConditionTrue rfl rfl rfl (by decide +kernel) ⟨Nat.le_of_ble_eq_true rfl, Nat.le_of_ble_eq_true rfl⟩) rfl rfl (Nat.le_of_ble_eq_true rfl) dX2_checkMembers_43 ⟨Nat.le_of_ble_eq_true rfl, Nat.le_of_ble_eq_true rfl⟩ (x_kI ?_)
      refine x_bif_eq C 56 dX2_checkMembers_46 rfl (fun h3 => ?_) (fun h3 => ?_)
      · refine x_iinc C (q := 2) ((nI k) + (1 : Int32)) [(2, .int ((nI k) + (1 : Int32))), (0, ra V 82), (1, .int c1)] dX2_checkMembers_56 rfl rfl (by decide) rfl ?_
        refine x_goto C 2 dX2_checkMembers_59 rfl ?_
        refine x_lv [1, 2, 0] [(0, ra V 82), (1, .int c1), (2, .int ((nI k) + (1 : Int32)))] rfl ?_
        exact ih2 _ _ _ (by omega) ⟨k + 1, rfl, Eq.symm (by rw [upN_s]; simp [ckMS, h2, h3]), by rw [nI_succ], hkn⟩
      · refine x_aload_n C dX2_checkMembers_49 rfl 0 rfl ?_
        refine x_iconst C (4 : Int32) (by decide) dX2_checkMembers_50 ?_
        refine x_iload_n C dX2_checkMembers_51 rfl 2 rfl ?_
        refine x_iload_n C dX2_checkMembers_52 rfl 1 rfl ?_
        refine x_callV C sh_82 (by decide) rfl [.int (4 : Int32), .int (nI k), .int c1] (c_X2_note l V hV (upN (ckMS c1) k σ) (4 : Int32) (nI k) c1) (cwV 3 C.2.2.2.2.1 gX2_checkMembers_X2_note rfl rfl rfl (by decide +kernel) ⟨Nat.le_of_ble_eq_true rfl, Nat.le_of_ble_eq_true rfl⟩) rfl rfl (Nat.le_of_ble_eq_true rfl) dX2_checkMembers_53 ⟨Nat.le_of_ble_eq_true rfl, Nat.le_of_ble_eq_true rfl⟩ (x_kV ?_)
        refine x_iinc C (q := 2) ((nI k) + (1 : Int32)) [(2, .int ((nI k) + (1 : Int32))), (0, ra V 82), (1, .int c1)] dX2_checkMembers_56 rfl rfl (by decide) rfl ?_
        refine x_goto C 2 dX2_checkMembers_59 rfl ?_
        refine x_lv [1, 2, 0] [(0, ra V 82), (1, .int c1), (2, .int ((nI k) + (1 : Int32)))] rfl ?_
        exact ih2 _ _ _ (by omega) ⟨k + 1, rfl, Eq.symm (by rw [upN_s]; simp [ckMS, h2, h3]), by rw [nI_succ], hkn⟩
    · refine x_aload_n C dX2_checkMembers_28 rfl 0 rfl ?_
      refine x_iload_n C dX2_checkMembers_29 rfl 2 rfl ?_
      refine x_iload_n C dX2_checkMembers_30 rfl 1 rfl ?_
      refine x_callV C sh_82 (by decide) rfl [.int (nI k), .int c1] (c_X2_checkMember l V hV (upN (ckMS c1) k σ) (nI k) c1) (cwV 2 C.2.2.2.2.1 gX2_checkMembers_X2_checkMember rfl rfl rfl (by decide +kernel) ⟨Nat.le_of_ble_eq_true rfl, Nat.le_of_ble_eq_true rfl⟩) rfl rfl (Nat.le_of_ble_eq_true rfl) dX2_checkMembers_31 ⟨Nat.le_of_ble_eq_true rfl, Nat.le_of_ble_eq_true rfl⟩ (x_kV ?_)
      refine x_goto C 56 dX2_checkMembers_34 rfl ?_
      refine x_iinc C (q := 2) ((nI k) + (1 : Int32)) [(2, .int ((nI k) + (1 : Int32))), (0, ra V 82), (1, .int c1)] dX2_checkMembers_56 rfl rfl (by decide) rfl ?_
      refine x_goto C 2 dX2_checkMembers_59 rfl ?_
      refine x_lv [1, 2, 0] [(0, ra V 82), (1, .int c1), (2, .int ((nI k) + (1 : Int32)))] rfl ?_
      exact ih2 _ _ _ (by omega) ⟨k + 1, rfl, Eq.symm (by rw [upN_s]; simp [ckMS, h2]), by rw [nI_succ], hkn⟩

set_option maxHeartbeats 4000000 in
set_option maxRecDepth 100000 in
theorem c_X2_checkExpressions (l : Launch) (V : xV) (hV : xInj V) (σ : xS) (c1 : Int32)  : xM l yX2_checkExpressions wsX2_checkExpressions ({ frames := 2, cells := 0, slots := 0, locals := 46 }) V [ra V 82, .int c1] σ (rV (ckE σ c1)) := by
  refine xM_of (cc := cX2_checkExpressions) (maxL := 3) (ret := none) [(0, ra V 82), (1, .int c1)] hV (by decide) rfl rfl (Nat.le_of_ble_eq_true rfl) (fun p e s m args below meth c C hr hlk => ?_)
  have iX2 : ∀ w ∈ u_ws RX2 TX2 5, w ∈ wsX2_checkExpressions := by decide +kernel
  have f27 : (Cond.fieldLink RX2 27 RX2 (TX2 0).2.1 (TX2 0).2.2.1).before args s = true := C.2.2.2.2.1 _ (by decide +kernel)
  have iX4 : ∀ w ∈ u_ws RX4 TX4 8, w ∈ wsX2_checkExpressions := by decide +kernel
  have f161 : (Cond.fieldLink RX2 161 RX4 (TX4 5).2.1 (TX4 5).2.2.1).before args s = true := C.2.2.2.2.1 _ (by decide +kernel)
  have f31 : (Cond.fieldLink RX2 31 RX2 (TX2 1).2.1 (TX2 1).2.2.1).before args s = true := C.2.2.2.2.1 _ (by decide +kernel)
  refine x_iconst C (0 : Int32) (by decide) dX2_checkExpressions_0 ?_
  refine x_istore_n C [(2, .int (0 : Int32)), (0, ra V 82), (1, .int c1)] dX2_checkExpressions_1 rfl (by decide) rfl ?_
  refine x_lv [1, 2, 0] [(0, ra V 82), (1, .int c1), (2, .int (0 : Int32))] rfl ?_
  refine x_loop (fun μ σ_ lv_ => ∃ (k : Nat), μ = (σ 205 0).toNatClampNeg - k ∧ upN (ckES c1) k σ = σ_ ∧ lv_ = [(0, ra V 82), (1, .int c1), (2, .int (nI k))] ∧ k ≤ (σ 205 0).toNatClampNeg) ⟨_, ⟨0, rfl, rfl, rfl, Nat.zero_le _⟩⟩ ?_
  rintro μ2 _ _ ⟨k, hμ2, rfl, rfl, hc2_0⟩ ih2
  refine x_iload_n C dX2_checkExpressions_2 rfl 2 rfl ?_
  refine x_aload_n C dX2_checkExpressions_3 rfl 0 rfl ?_
  refine x_getr C sh_82 rfl iX2 0 (by decide) f27 (fun _ h => h) (by decide) rfl dX2_checkExpressions_4 ?_
  refine x_getr C sh_8 rfl iX4 5 (by decide) f161 (fun _ h => h) (by decide) rfl dX2_checkExpressions_7 ?_
  refine x_callV C sh_47 (by decide) rfl [] (c_X1_size l V hV (upN (ckES c1) k σ) ) (cwV 0 C.2.2.2.2.1 gX2_checkExpressions_X1_size rfl rfl rfl (by decide +kernel) ⟨Nat.le_of_ble_eq_true rfl, Nat.le_of_ble_eq_true rfl⟩) rfl rfl (Nat.le_of_ble_eq_true rfl) dX2_checkExpressions_10 ⟨Nat.le_of_ble_eq_true rfl, Nat.le_of_ble_eq_true rfl⟩ (x_kI ?_)
  refine x_icmp_ge C 47 dX2_checkExpressions_13 rfl (fun h1 => ?_) (fun h1 => ?_)
  · exact x_vret C hr hlk dX2_checkExpressions_47 ⟨rfl, by rw [upN_keep (ckES_keep (r := 205) (by decide) c1)] at h1; rw [← (show (σ 205 0).toNatClampNeg = k from Nat.le_antisymm ((le_nI (by have := clamp_lt (σ 205 0); omega)).mp h1) hc2_0)]; rfl⟩
  · rw [upN_keep (ckES_keep (r := 205) (by decide) c1)] at h1
    have hkn : k < (σ 205 0).toNatClampNeg := Nat.lt_of_not_le (fun hq => h1 ((le_nI (by have := clamp_lt (σ 205 0); omega)).mpr hq))
    refine x_aload_n C dX2_checkExpressions_16 rfl 0 rfl ?_
    refine x_getr C sh_82 rfl iX2 1 (by decide) f31 (fun _ h => h) (by decide) rfl dX2_checkExpressions_17 ?_
    refine x_iload_n C dX2_checkExpressions_20 rfl 2 rfl ?_
    refine x_callV C sh_69 (by decide) rfl [.int (nI k)] (c_X7_fault l V hV (upN (ckES c1) k σ) (nI k)) (cwV 1 C.2.2.2.2.1 gX2_checkExpressions_X7_fault rfl rfl rfl (by decide +kernel) ⟨Nat.le_of_ble_eq_true rfl, Nat.le_of_ble_eq_true rfl⟩) rfl rfl (Nat.le_of_ble_eq_true rfl) dX2_checkExpressions_21 ⟨Nat.le_of_ble_eq_true rfl, Nat.le_of_ble_eq_true rfl⟩ (x_kI ?_)
    refine x_if_eq C 41 dX2_checkExpressions_24 rfl (fun h2 => ?_) (fun h2 => ?_)
    · refine x_iinc C (q := 2) ((nI k) + (1 : Int32)) [(2, .int ((nI k) + (1 : Int32))), (0, ra V 82), (1, .int c1)] dX2_checkExpressions_41 rfl rfl (by decide) rfl ?_
      refine x_goto C 2 dX2_checkExpressions_44 rfl ?_
      refine x_lv [1, 2, 0] [(0, ra V 82), (1, .int c1), (2, .int ((nI k) + (1 : Int32)))] rfl ?_
      exact ih2 _ _ _ (by omega) ⟨k + 1, rfl, Eq.symm (by rw [upN_s]; simp [ckES, eq_true h2]), by rw [nI_succ], hkn⟩
    · refine x_aload_n C dX2_checkExpressions_27 rfl 0 rfl ?_
      refine x_aload_n C dX2_checkExpressions_28 rfl 0 rfl ?_
      refine x_getr C sh_82 rfl iX2 1 (by decide) f31 (fun _ h => h) (by decide) rfl dX2_checkExpressions_29 ?_
      refine x_iload_n C dX2_checkExpressions_32 rfl 2 rfl ?_
      refine x_callV C sh_69 (by decide) rfl [.int (nI k)] (c_X7_fault l V hV (upN (ckES c1) k σ) (nI k)) (cwV 1 C.2.2.2.2.1 gX2_checkExpressions_X7_fault rfl rfl rfl (by decide +kernel) ⟨Nat.le_of_ble_eq_true rfl, Nat.le_of_ble_eq_true rfl⟩) rfl rfl (Nat.le_of_ble_eq_true rfl) dX2_checkExpressions_33 ⟨Nat.le_of_ble_eq_true rfl, Nat.le_of_ble_eq_true rfl⟩ (x_kI ?_)
      refine x_iload_n C dX2_checkExpressions_36 rfl 2 rfl ?_
      refine x_iload_n C dX2_checkExpressions_37 rfl 1 rfl ?_
      refine x_callV C sh_82 (by decide) rfl [.int (vAt 50 ((upN (ckES c1) k σ) 79) (nI k)), .int (nI k), .int c1] (c_X2_note l V hV (upN (ckES c1) k σ) (vAt 50 ((upN (ckES c1) k σ) 79) (nI k)) (nI k) c1) (cwV 3 C.2.2.2.2.1 gX2_checkExpressions_X2_note rfl rfl rfl (by decide +kernel) ⟨Nat.le_of_ble_eq_true rfl, Nat.le_of_ble_eq_true rfl⟩) rfl rfl (Nat.le_of_ble_eq_true rfl) dX2_checkExpressions_38 ⟨Nat.le_of_ble_eq_true rfl, Nat.le_of_ble_eq_true rfl⟩ (x_kV ?_)
      refine x_iinc C (q := 2) ((nI k) + (1 : Int32)) [(2, .int ((nI k) + (1 : Int32))), (0, ra V 82), (1, .int c1)] dX2_checkExpressions_41 rfl rfl (by decide) rfl ?_
      refine x_goto C 2 dX2_checkExpressions_44 rfl ?_
      refine x_lv [1, 2, 0] [(0, ra V 82), (1, .int c1), (2, .int ((nI k) + (1 : Int32)))] rfl ?_
      exact ih2 _ _ _ (by omega) ⟨k + 1, rfl, Eq.symm (by rw [upN_s]; simp [ckES, h2]), by rw [nI_succ], hkn⟩

set_option maxHeartbeats 4000000 in
set_option maxRecDepth 100000 in
theorem c_X2_checkResults (l : Launch) (V : xV) (hV : xInj V) (σ : xS) (c1 : Int32)  : xM l yX2_checkResults wsX2_checkResults ({ frames := 3, cells := 0, slots := 0, locals := 63 }) V [ra V 82, .int c1] σ (rV (ckX σ c1)) := by
  refine xM_of (cc := cX2_checkResults) (maxL := 4) (ret := none) [(0, ra V 82), (1, .int c1)] hV (by decide) rfl rfl (Nat.le_of_ble_eq_true rfl) (fun p e s m args below meth c C hr hlk => ?_)
  have iX2 : ∀ w ∈ u_ws RX2 TX2 5, w ∈ wsX2_checkResults := by decide +kernel
  have f27 : (Cond.fieldLink RX2 27 RX2 (TX2 0).2.1 (TX2 0).2.2.1).before args s = true := C.2.2.2.2.1 _ (by decide +kernel)
  have iX4 : ∀ w ∈ u_ws RX4 TX4 8, w ∈ wsX2_checkResults := by decide +kernel
  have f171 : (Cond.fieldLink RX2 171 RX4 (TX4 6).2.1 (TX4 6).2.2.1).before args s = true := C.2.2.2.2.1 _ (by decide +kernel)
  have f31 : (Cond.fieldLink RX2 31 RX2 (TX2 1).2.1 (TX2 1).2.2.1).before args s = true := C.2.2.2.2.1 _ (by decide +kernel)
  have f174 : (Cond.fieldLink RX2 174 RX4 (TX4 7).2.1 (TX4 7).2.2.1).before args s = true := C.2.2.2.2.1 _ (by decide +kernel)
  have f115 : (Cond.fieldLink RX2 115 RX4 (TX4 4).2.1 (TX4 4).2.2.1).before args s = true := C.2.2.2.2.1 _ (by decide +kernel)
  refine x_iconst C (0 : Int32) (by decide) dX2_checkResults_0 ?_
  refine x_istore_n C [(2, .int (0 : Int32)), (0, ra V 82), (1, .int c1)] dX2_checkResults_1 rfl (by decide) rfl ?_
  refine x_lv [1, 2, 0] [(0, ra V 82), (1, .int c1), (2, .int (0 : Int32))] rfl ?_
  refine x_loop (fun μ σ_ lv_ => ∃ (k : Nat), μ = (σ 204 0).toNatClampNeg - k ∧ upN (ckXS c1) k σ = σ_ ∧ lv_ = [(0, ra V 82), (1, .int c1), (2, .int (nI k))] ∧ k ≤ (σ 204 0).toNatClampNeg) ⟨_, ⟨0, rfl, rfl, rfl, Nat.zero_le _⟩⟩ ?_
  rintro μ2 _ _ ⟨k, hμ2, rfl, rfl, hc2_0⟩ ih2
  refine x_iload_n C dX2_checkResults_2 rfl 2 rfl ?_
  refine x_aload_n C dX2_checkResults_3 rfl 0 rfl ?_
  refine x_getr C sh_82 rfl iX2 0 (by decide) f27 (fun _ h => h) (by decide) rfl dX2_checkResults_4 ?_
  refine x_getr C sh_8 rfl iX4 6 (by decide) f171 (fun _ h => h) (by decide) rfl dX2_checkResults_7 ?_
  refine x_callV C sh_60 (by decide) rfl [] (c_X0_size_60 l V hV (upN (ckXS c1) k σ) ) (cwV 0 C.2.2.2.2.1 gX2_checkResults_X0_size rfl rfl rfl (by decide +kernel) ⟨Nat.le_of_ble_eq_true rfl, Nat.le_of_ble_eq_true rfl⟩) rfl rfl (Nat.le_of_ble_eq_true rfl) dX2_checkResults_10 ⟨Nat.le_of_ble_eq_true rfl, Nat.le_of_ble_eq_true rfl⟩ (x_kI ?_)
  refine x_icmp_ge C 95 dX2_checkResults_13 rfl (fun h1 => ?_) (fun h1 => ?_)
  · exact x_vret C hr hlk dX2_checkResults_95 ⟨rfl, by rw [upN_keep (ckXS_keep (r := 204) (by decide) c1)] at h1; rw [← (show (σ 204 0).toNatClampNeg = k from Nat.le_antisymm ((le_nI (by have := clamp_lt (σ 204 0); omega)).mp h1) hc2_0)]; rfl⟩
  · rw [upN_keep (ckXS_keep (r := 204) (by decide) c1)] at h1
    have hkn : k < (σ 204 0).toNatClampNeg := Nat.lt_of_not_le (fun hq => h1 ((le_nI (by have := clamp_lt (σ 204 0); omega)).mpr hq))
    refine x_aload_n C dX2_checkResults_16 rfl 0 rfl ?_
    refine x_getr C sh_82 rfl iX2 1 (by decide) f31 (fun _ h => h) (by decide) rfl dX2_checkResults_17 ?_
    refine x_aload_n C dX2_checkResults_20 rfl 0 rfl ?_
    refine x_getr C sh_82 rfl iX2 0 (by decide) f27 (fun _ h => h) (by decide) rfl dX2_checkResults_21 ?_
    refine x_getr C sh_8 rfl iX4 7 (by decide) f174 (fun _ h => h) (by decide) rfl dX2_checkResults_24 ?_
    refine x_iload_n C dX2_checkResults_27 rfl 2 rfl ?_
    refine x_callV C sh_67 (by decide) rfl [.int (nI k)] (c_X5_at l V hV (upN (ckXS c1) k σ) 67 68 16 sh_67 sh_68 (by decide) (nI k)) (cwV 1 C.2.2.2.2.1 gX2_checkResults_X5_at rfl rfl rfl (by decide +kernel) ⟨Nat.le_of_ble_eq_true rfl, Nat.le_of_ble_eq_true rfl⟩) rfl rfl (Nat.le_of_ble_eq_true rfl) dX2_checkResults_28 ⟨Nat.le_of_ble_eq_true rfl, Nat.le_of_ble_eq_true rfl⟩ (x_kI ?_)
    refine x_iload_n C dX2_checkResults_31 rfl 1 rfl ?_
    refine x_callV C sh_69 (by decide) rfl [.int (vAt 16 ((upN (ckXS c1) k σ) 68) (nI k)), .int c1] (c_X7_typeIn l V hV (upN (ckXS c1) k σ) (vAt 16 ((upN (ckXS c1) k σ) 68) (nI k)) c1) (cwV 2 C.2.2.2.2.1 gX2_checkResults_X7_typeIn rfl rfl rfl (by decide +kernel) ⟨Nat.le_of_ble_eq_true rfl, Nat.le_of_ble_eq_true rfl⟩) rfl rfl (Nat.le_of_ble_eq_true rfl) dX2_checkResults_32 ⟨Nat.le_of_ble_eq_true rfl, Nat.le_of_ble_eq_true rfl⟩ (x_kI ?_)
    refine x_istore_n C [(3, .int (tyIn (upN (ckXS c1) k σ) (vAt 16 ((upN (ckXS c1) k σ) 68) (nI k)) c1)), (0, ra V 82), (1, .int c1), (2, .int (nI k))] dX2_checkResults_35 rfl (by decide) rfl ?_
    refine x_aload_n C dX2_checkResults_36 rfl 1 rfl ?_
    refine x_getr C sh_82 rfl iX2 1 (by decide) f31 (fun _ h => h) (by decide) rfl dX2_checkResults_37 ?_
    refine x_iconst C (3 : Int32) (by decide) dX2_checkResults_40 ?_
    refine x_iload_n C dX2_checkResults_41 rfl 3 rfl ?_
    refine x_callV C sh_69 (by decide) rfl [.int (3 : Int32), .int (nI k)] (c_X7_isThere l V hV (upN (ckXS c1) k σ) (3 : Int32) (nI k)) (cwV 2 C.2.2.2.2.1 gX2_checkResults_X7_isThere rfl rfl rfl (by decide +kernel) ⟨Nat.le_of_ble_eq_true rfl, Nat.le_of_ble_eq_true rfl⟩) rfl rfl (Nat.le_of_ble_eq_true rfl) dX2_checkResults_42 ⟨Nat.le_of_ble_eq_true rfl, Nat.le_of_ble_eq_true rfl⟩ (x_kI ?_)
    refine x_bif_eq C 89 dX2_checkResults_45 rfl (fun h2 => ?_) (fun h2 => ?_)
    · refine x_iinc C (q := 3) ((nI k) + (1 : Int32)) [(2, .int ((nI k) + (1 : Int32))), (3, .int (tyIn (upN (ckXS c1) k σ) (vAt 16 ((upN (ckXS c1) k σ) 68) (nI k)) c1)), (0, ra V 82), (1, .int c1)] dX2_checkResults_89 rfl rfl (by decide) rfl ?_
      refine x_goto C 2 dX2_checkResults_92 rfl ?_
      refine x_lv [2, 3, 0] [(0, ra V 82), (1, .int c1), (2, .int ((nI k) + (1 : Int32)))] rfl ?_
      exact ih2 _ _ _ (by omega) ⟨k + 1, rfl, Eq.symm (by rw [upN_s]; simp [ckXS, h2]), by rw [nI_succ], hkn⟩
    · refine x_iload_n C dX2_checkResults_48 rfl 0 rfl ?_
      refine x_if_lt C 89 dX2_checkResults_49 rfl (fun h3 => ?_) (fun h3 => ?_)
      · refine x_iinc C (q := 3) ((nI k) + (1 : Int32)) [(2, .int ((nI k) + (1 : Int32))), (3, .int (tyIn (upN (ckXS c1) k σ) (vAt 16 ((upN (ckXS c1) k σ) 68) (nI k)) c1)), (0, ra V 82), (1, .int c1)] dX2_checkResults_89 rfl rfl (by decide) rfl ?_
        refine x_goto C 2 dX2_checkResults_92 rfl ?_
        refine x_lv [2, 3, 0] [(0, ra V 82), (1, .int c1), (2, .int ((nI k) + (1 : Int32)))] rfl ?_
        exact ih2 _ _ _ (by omega) ⟨k + 1, rfl, Eq.symm (by rw [upN_s]; simp [ckXS, h2, h3]), by rw [nI_succ], hkn⟩
      · refine x_aload_n C dX2_checkResults_52 rfl 1 rfl ?_
        refine x_getr C sh_82 rfl iX2 1 (by decide) f31 (fun _ h => h) (by decide) rfl dX2_checkResults_53 ?_
        refine x_iload_n C dX2_checkResults_56 rfl 0 rfl ?_
        refine x_aload_n C dX2_checkResults_57 rfl 1 rfl ?_
        refine x_getr C sh_82 rfl iX2 0 (by decide) f27 (fun _ h => h) (by decide) rfl dX2_checkResults_58 ?_
        refine x_getr C sh_8 rfl iX4 4 (by decide) f115 (fun _ h => h) (by decide) rfl dX2_checkResults_61 ?_
        refine x_aload_n C dX2_checkResults_64 rfl 1 rfl ?_
        refine x_getr C sh_82 rfl iX2 0 (by decide) f27 (fun _ h => h) (by decide) rfl dX2_checkResults_65 ?_
        refine x_iload_n C dX2_checkResults_68 rfl 3 rfl ?_
        refine x_callV C sh_8 (by decide) rfl [.int (nI k)] (c_X4_resultMethod l V hV (upN (ckXS c1) k σ) (nI k)) (cwV 1 C.2.2.2.2.1 gX2_checkResults_X4_resultMethod rfl rfl rfl (by decide +kernel) ⟨Nat.le_of_ble_eq_true rfl, Nat.le_of_ble_eq_true rfl⟩) rfl rfl (Nat.le_of_ble_eq_true rfl) dX2_checkResults_69 ⟨Nat.le_of_ble_eq_true rfl, Nat.le_of_ble_eq_true rfl⟩ (x_kI ?_)
        refine x_callV C sh_27 (by decide) rfl [.int (resM (upN (ckXS c1) k σ) (nI k))] (c_X3_type l V hV (upN (ckXS c1) k σ) (resM (upN (ckXS c1) k σ) (nI k))) (cwV 1 C.2.2.2.2.1 gX2_checkResults_X3_type rfl rfl rfl (by decide +kernel) ⟨Nat.le_of_ble_eq_true rfl, Nat.le_of_ble_eq_true rfl⟩) rfl rfl (Nat.le_of_ble_eq_true rfl) dX2_checkResults_72 ⟨Nat.le_of_ble_eq_true rfl, Nat.le_of_ble_eq_true rfl⟩ (x_kI ?_)
        refine x_callV C sh_69 (by decide) rfl [.int (tyIn (upN (ckXS c1) k σ) (vAt 16 ((upN (ckXS c1) k σ) 68) (nI k)) c1), .int (vAt 24 ((upN (ckXS c1) k σ) 42) (resM (upN (ckXS c1) k σ) (nI k)))] (c_X7_fits l V hV (upN (ckXS c1) k σ) (tyIn (upN (ckXS c1) k σ) (vAt 16 ((upN (ckXS c1) k σ) 68) (nI k)) c1) (vAt 24 ((upN (ckXS c1) k σ) 42) (resM (upN (ckXS c1) k σ) (nI k)))) (cwV 2 C.2.2.2.2.1 gX2_checkResults_X7_fits rfl rfl rfl (by decide +kernel) ⟨Nat.le_of_ble_eq_true rfl, Nat.le_of_ble_eq_true rfl⟩) rfl rfl (Nat.le_of_ble_eq_true rfl) dX2_checkResults_75 ⟨Nat.le_of_ble_eq_true rfl, Nat.le_of_ble_eq_true rfl⟩ (x_kI ?_)
        refine x_bif_ne C 89 dX2_checkResults_78 rfl (fun h4 => ?_) (fun h4 => ?_)
        · refine x_iinc C (q := 3) ((nI k) + (1 : Int32)) [(2, .int ((nI k) + (1 : Int32))), (3, .int (tyIn (upN (ckXS c1) k σ) (vAt 16 ((upN (ckXS c1) k σ) 68) (nI k)) c1)), (0, ra V 82), (1, .int c1)] dX2_checkResults_89 rfl rfl (by decide) rfl ?_
          refine x_goto C 2 dX2_checkResults_92 rfl ?_
          refine x_lv [2, 3, 0] [(0, ra V 82), (1, .int c1), (2, .int ((nI k) + (1 : Int32)))] rfl ?_
          exact ih2 _ _ _ (by omega) ⟨k + 1, rfl, Eq.symm (by rw [upN_s]; simp [ckXS, h2, h3, h4]), by rw [nI_succ], hkn⟩
        · refine x_aload_n C dX2_checkResults_81 rfl 1 rfl ?_
          refine x_bipush C (12 : Int32) (by decide) dX2_checkResults_82 ?_
          refine x_iload_n C dX2_checkResults_84 rfl 3 rfl ?_
          refine x_iload_n C dX2_checkResults_85 rfl 2 rfl ?_
          refine x_callV C sh_82 (by decide) rfl [.int (12 : Int32), .int (nI k), .int c1] (c_X2_note l V hV (upN (ckXS c1) k σ) (12 : Int32) (nI k) c1) (cwV 3 C.2.2.2.2.1 gX2_checkResults_X2_note rfl rfl rfl (by decide +kernel) ⟨Nat.le_of_ble_eq_true rfl, Nat.le_of_ble_eq_true rfl⟩) rfl rfl (Nat.le_of_ble_eq_true rfl) dX2_checkResults_86 ⟨Nat.le_of_ble_eq_true rfl, Nat.le_of_ble_eq_true rfl⟩ (x_kV ?_)
          refine x_iinc C (q := 3) ((nI k) + (1 : Int32)) [(2, .int ((nI k) + (1 : Int32))), (3, .int (tyIn (upN (ckXS c1) k σ) (vAt 16 ((upN (ckXS c1) k σ) 68) (nI k)) c1)), (0, ra V 82), (1, .int c1)] dX2_checkResults_89 rfl rfl (by decide) rfl ?_
          refine x_goto C 2 dX2_checkResults_92 rfl ?_
          refine x_lv [2, 3, 0] [(0, ra V 82), (1, .int c1), (2, .int ((nI k) + (1 : Int32)))] rfl ?_
          exact ih2 _ _ _ (by omega) ⟨k + 1, rfl, Eq.symm (by rw [upN_s]; simp [ckXS, h2, h3, h4]), by rw [nI_succ], hkn⟩

set_option maxHeartbeats 4000000 in
set_option maxRecDepth 100000 in
theorem c_X2_numberErrors (l : Launch) (V : xV) (hV : xInj V) (σ : xS)   : xM l yX2_numberErrors wsX2_numberErrors ({ frames := 1, cells := 0, slots := 0, locals := 22 }) V [ra V 82] σ (rV (numb σ)) := by
  refine xM_of (cc := cX2_numberErrors) (maxL := 2) (ret := none) [(0, ra V 82)] hV (by decide) rfl rfl (Nat.le_of_ble_eq_true rfl) (fun p e s m args below meth c C hr hlk => ?_)
  have iX2 : ∀ w ∈ u_ws RX2 TX2 5, w ∈ wsX2_numberErrors := by decide +kernel
  have f23 : (Cond.fieldLink RX2 23 RX2 (TX2 4).2.1 (TX2 4).2.2.1).before args s = true := C.2.2.2.2.1 _ (by decide +kernel)
  have f14 : (Cond.fieldLink RX2 14 RX2 (TX2 2).2.1 (TX2 2).2.2.1).before args s = true := C.2.2.2.2.1 _ (by decide +kernel)
  have f20 : (Cond.fieldLink RX2 20 RX2 (TX2 3).2.1 (TX2 3).2.2.1).before args s = true := C.2.2.2.2.1 _ (by decide +kernel)
  refine x_aload_n C dX2_numberErrors_0 rfl 0 rfl ?_
  refine x_iconst C (0 : Int32) (by decide) dX2_numberErrors_1 ?_
  refine x_puti (ty := .int) C sh_82 rfl iX2 4 (by decide) f23 (fun _ h => h) (by decide) rfl (by decide +kernel) (by decide +kernel) (by decide) rfl tyX2 tyX2_ok nmX2 (by decide +kernel) rfl rfl dX2_numberErrors_2 ?_
  refine x_iconst C (0 : Int32) (by decide) dX2_numberErrors_5 ?_
  refine x_istore_n C [(1, .int (0 : Int32)), (0, ra V 82)] dX2_numberErrors_6 rfl (by decide) rfl ?_
  refine x_lv [1, 0] [(0, ra V 82), (1, .int (0 : Int32))] rfl ?_
  refine x_loop (fun μ σ_ lv_ => ∃ (k : Nat), μ = 600 - k ∧ upN nbS k (xw σ 207 0 0) = σ_ ∧ lv_ = [(0, ra V 82), (1, .int (nI k))] ∧ k ≤ 600) ⟨_, ⟨0, rfl, rfl, rfl, Nat.zero_le _⟩⟩ ?_
  rintro μ7 _ _ ⟨k, hμ7, rfl, rfl, hc7_0⟩ ih7
  refine x_iload_n C dX2_numberErrors_7 rfl 1 rfl ?_
  refine x_sipush C (600 : Int32) (by decide) dX2_numberErrors_8 ?_
  refine x_icmp_ge C 53 dX2_numberErrors_11 rfl (fun h1 => ?_) (fun h1 => ?_)
  · exact x_vret C hr hlk dX2_numberErrors_53 ⟨rfl, by rw [show k = 600 from Nat.le_antisymm hc7_0 (Nat.le_of_not_lt (fun hq => nI_ge hq (by decide) h1))]; rfl⟩
  · have hkn : k < 600 := Nat.lt_of_not_le (fun hq => h1 (nI_le hq (by omega)))
    refine x_aload_n C dX2_numberErrors_14 rfl 0 rfl ?_
    refine x_getr C sh_82 rfl iX2 2 (by decide) f14 (fun _ h => h) (by decide) rfl dX2_numberErrors_15 ?_
    refine x_iload_n C dX2_numberErrors_18 rfl 1 rfl ?_
    refine x_callV C sh_83 (by decide) rfl [.int (nI k)] (c_X5_at l V hV (upN nbS k (xw σ 207 0 0)) 83 84 600 sh_83 sh_84 (by decide) (nI k)) (cwV 1 C.2.2.2.2.1 gX2_numberErrors_X5_at rfl rfl rfl (by decide +kernel) ⟨Nat.le_of_ble_eq_true rfl, Nat.le_of_ble_eq_true rfl⟩) rfl rfl (Nat.le_of_ble_eq_true rfl) dX2_numberErrors_19 ⟨Nat.le_of_ble_eq_true rfl, Nat.le_of_ble_eq_true rfl⟩ (x_kI ?_)
    refine x_if_eq C 47 dX2_numberErrors_22 rfl (fun h2 => ?_) (fun h2 => ?_)
    · refine x_iinc C (q := 1) ((nI k) + (1 : Int32)) [(1, .int ((nI k) + (1 : Int32))), (0, ra V 82)] dX2_numberErrors_47 rfl rfl (by decide) rfl ?_
      refine x_goto C 7 dX2_numberErrors_50 rfl ?_
      refine x_lv [1, 0] [(0, ra V 82), (1, .int ((nI k) + (1 : Int32)))] rfl ?_
      exact ih7 _ _ _ (by omega) ⟨k + 1, rfl, Eq.symm (by rw [upN_s]; simp [nbS, vPut_ne, eq_true h2]), by rw [nI_succ], hkn⟩
    · refine x_aload_n C dX2_numberErrors_25 rfl 0 rfl ?_
      refine x_getr C sh_82 rfl iX2 3 (by decide) f20 (fun _ h => h) (by decide) rfl dX2_numberErrors_26 ?_
      refine x_aload_n C dX2_numberErrors_29 rfl 0 rfl ?_
      refine x_geti C sh_82 rfl iX2 4 (by decide) f23 (fun _ h => h) (by decide) rfl dX2_numberErrors_30 ?_
      refine x_iload_n C dX2_numberErrors_33 rfl 1 rfl ?_
      refine x_callV C sh_85 (by decide) rfl [.int ((upN nbS k (xw σ 207 0 0)) 207 0), .int (nI k)] (c_X5_put l V hV (upN nbS k (xw σ 207 0 0)) 85 86 600 sh_85 sh_86 (by decide) ((upN nbS k (xw σ 207 0 0)) 207 0) (nI k)) (cwV 2 C.2.2.2.2.1 gX2_numberErrors_X5_put rfl rfl rfl (by decide +kernel) ⟨Nat.le_of_ble_eq_true rfl, Nat.le_of_ble_eq_true rfl⟩) rfl rfl (Nat.le_of_ble_eq_true rfl) dX2_numberErrors_34 ⟨Nat.le_of_ble_eq_true rfl, Nat.le_of_ble_eq_true rfl⟩ (x_kV ?_)
      refine x_aload_n C dX2_numberErrors_37 rfl 0 rfl ?_
      refine x_dup C rfl dX2_numberErrors_38 ?_
      refine x_geti C sh_82 rfl iX2 4 (by decide) f23 (fun _ h => h) (by decide) rfl dX2_numberErrors_39 ?_
      refine x_iconst C (1 : Int32) (by decide) dX2_numberErrors_42 ?_
      refine x_iadd C dX2_numberErrors_43 ?_
      refine x_puti (ty := .int) C sh_82 rfl iX2 4 (by decide) f23 (fun _ h => h) (by decide) rfl (by decide +kernel) (by decide +kernel) (by decide) rfl tyX2 tyX2_ok nmX2 (by decide +kernel) rfl rfl dX2_numberErrors_44 ?_
      refine x_iinc C (q := 1) ((nI k) + (1 : Int32)) [(1, .int ((nI k) + (1 : Int32))), (0, ra V 82)] dX2_numberErrors_47 rfl rfl (by decide) rfl ?_
      refine x_goto C 7 dX2_numberErrors_50 rfl ?_
      refine x_lv [1, 0] [(0, ra V 82), (1, .int ((nI k) + (1 : Int32)))] rfl ?_
      exact ih7 _ _ _ (by omega) ⟨k + 1, rfl, Eq.symm (by rw [upN_s]; simp [nbS, vPut_ne, h2]), by rw [nI_succ], hkn⟩

set_option maxHeartbeats 4000000 in
set_option maxRecDepth 100000 in
theorem c_X2_inspect (l : Launch) (V : xV) (hV : xInj V) (σ : xS) (ps : Int32) (hz202 : okZ σ 202) (hz203 : okZ σ 203) : xM l yX2_inspect wsX2_inspect ({ frames := 6, cells := 0, slots := 0, locals := 133 }) V [ra V 82, .int ps] σ (rV (insp σ ps)) := by
  refine xM_of (cc := cX2_inspect) (maxL := 3) (ret := none) [(0, ra V 82), (1, .int ps)] hV (by decide) rfl rfl (Nat.le_of_ble_eq_true rfl) (fun p e s m args below meth c C hr hlk => ?_)
  have iX2 : ∀ w ∈ u_ws RX2 TX2 5, w ∈ wsX2_inspect := by decide +kernel
  have f14 : (Cond.fieldLink RX2 14 RX2 (TX2 2).2.1 (TX2 2).2.2.1).before args s = true := C.2.2.2.2.1 _ (by decide +kernel)
  have f31 : (Cond.fieldLink RX2 31 RX2 (TX2 1).2.1 (TX2 1).2.2.1).before args s = true := C.2.2.2.2.1 _ (by decide +kernel)
  refine x_aload_n C dX2_inspect_0 rfl 0 rfl ?_
  refine x_getr C sh_82 rfl iX2 2 (by decide) f14 (fun _ h => h) (by decide) rfl dX2_inspect_1 ?_
  refine x_iconst C (0 : Int32) (by decide) dX2_inspect_4 ?_
  refine x_callV C sh_83 (by decide) rfl [.int (0 : Int32)] (c_X5_fill l V hV σ 83 84 600 sh_83 sh_84 (by decide) (0 : Int32)) (cwV 1 C.2.2.2.2.1 gX2_inspect_X5_fill rfl rfl rfl (by decide +kernel) ⟨Nat.le_of_ble_eq_true rfl, Nat.le_of_ble_eq_true rfl⟩) rfl rfl (Nat.le_of_ble_eq_true rfl) dX2_inspect_5 ⟨Nat.le_of_ble_eq_true rfl, Nat.le_of_ble_eq_true rfl⟩ (x_kV ?_)
  refine x_iconst C (0 : Int32) (by decide) dX2_inspect_8 ?_
  refine x_istore_n C [(2, .int (0 : Int32)), (0, ra V 82), (1, .int ps)] dX2_inspect_9 rfl (by decide) rfl ?_
  refine x_lv [1, 2, 0] [(0, ra V 82), (1, .int ps), (2, .int (0 : Int32))] rfl ?_
  refine x_loop (fun μ σ_ lv_ => ∃ (k : Nat), μ = 16 - k ∧ upN (insS ps) k (vFill σ 84 600 0) = σ_ ∧ lv_ = [(0, ra V 82), (1, .int ps), (2, .int (nI k))] ∧ k ≤ 16) ⟨_, ⟨0, rfl, rfl, rfl, Nat.zero_le _⟩⟩ ?_
  rintro μ10 _ _ ⟨k, hμ10, rfl, rfl, hc10_0⟩ ih10
  refine x_iload_n C dX2_inspect_10 rfl 2 rfl ?_
  refine x_bipush C (16 : Int32) (by decide) dX2_inspect_11 ?_
  refine x_icmp_ge C 70 dX2_inspect_13 rfl (fun h1 => ?_) (fun h1 => ?_)
  · refine x_aload_n C dX2_inspect_70 rfl 0 rfl ?_
    refine x_callV C sh_82 (by decide) rfl [] (c_X2_numberErrors l V hV (upN (insS ps) k (vFill σ 84 600 0)) ) (cwV 0 C.2.2.2.2.1 gX2_inspect_X2_numberErrors rfl rfl rfl (by decide +kernel) ⟨Nat.le_of_ble_eq_true rfl, Nat.le_of_ble_eq_true rfl⟩) rfl rfl (Nat.le_of_ble_eq_true rfl) dX2_inspect_71 ⟨Nat.le_of_ble_eq_true rfl, Nat.le_of_ble_eq_true rfl⟩ (x_kV ?_)
    exact x_vret C hr hlk dX2_inspect_74 ⟨rfl, by rw [show k = 16 from Nat.le_antisymm hc10_0 (Nat.le_of_not_lt (fun hq => nI_ge hq (by decide) h1))]; rfl⟩
  · have hkn : k < 16 := Nat.lt_of_not_le (fun hq => h1 (nI_le hq (by omega)))
    refine x_iload_n C dX2_inspect_16 rfl 1 rfl ?_
    refine x_iload_n C dX2_inspect_17 rfl 2 rfl ?_
    refine x_callSN (host := RX8) C [.int ps, .int (nI k)] (c_X8_isIn l V hV (upN (insS ps) k (vFill σ 84 600 0)) ps (nI k)) (⟨va_cnB 2 C.2.2.2.2.1 gX2_inspect_X8_isIn_n38 rfl rfl rfl (C.2.2.2.2.2.1.2 _ (by decide +kernel)) (C.2.2.2.2.1 _ (by decide +kernel)) (by decide +kernel) ⟨Nat.le_of_ble_eq_true rfl, Nat.le_of_ble_eq_true rfl⟩, C.2.2.2.2.1 _ (by decide +kernel), trivial⟩) rfl rfl (Nat.le_of_ble_eq_true rfl) dX2_inspect_18 ⟨Nat.le_of_ble_eq_true rfl, Nat.le_of_ble_eq_true rfl⟩ (x_kI ?_)
    refine x_bif_eq C 64 dX2_inspect_21 rfl (fun h2 => ?_) (fun h2 => ?_)
    · refine x_iinc C (q := 2) ((nI k) + (1 : Int32)) [(2, .int ((nI k) + (1 : Int32))), (0, ra V 82), (1, .int ps)] dX2_inspect_64 rfl rfl (by decide) rfl ?_
      refine x_goto C 10 dX2_inspect_67 rfl ?_
      refine x_lv [1, 2, 0] [(0, ra V 82), (1, .int ps), (2, .int ((nI k) + (1 : Int32)))] rfl ?_
      exact ih10 _ _ _ (by omega) ⟨k + 1, rfl, Eq.symm (by rw [upN_s]; simp [insS, h2]), by rw [nI_succ], hkn⟩
    · refine x_aload_n C dX2_inspect_24 rfl 0 rfl ?_
      refine x_getr C sh_82 rfl iX2 1 (by decide) f31 (fun _ h => h) (by decide) rfl dX2_inspect_25 ?_
      refine x_iload_n C dX2_inspect_28 rfl 2 rfl ?_
      refine x_callV C sh_69 (by decide) rfl [.int (nI k)] (c_X7_look l V hV (upN (insS ps) k (vFill σ 84 600 0)) (nI k) (okZ_of (by rw [upN_keep (insS_keep (by decide) ps), vFill_ne (by decide)]) hz202) (okZ_of (by rw [upN_keep (insS_keep (by decide) ps), vFill_ne (by decide)]) hz203)) (cwV 1 C.2.2.2.2.1 gX2_inspect_X7_look rfl rfl rfl (by decide +kernel) ⟨Nat.le_of_ble_eq_true rfl, Nat.le_of_ble_eq_true rfl⟩) rfl rfl (Nat.le_of_ble_eq_true rfl) dX2_inspect_29 ⟨Nat.le_of_ble_eq_true rfl, Nat.le_of_ble_eq_true rfl⟩ (x_kV ?_)
      refine x_aload_n C dX2_inspect_32 rfl 0 rfl ?_
      refine x_getr C sh_82 rfl iX2 1 (by decide) f31 (fun _ h => h) (by decide) rfl dX2_inspect_33 ?_
      refine x_callV C sh_69 (by decide) rfl [] (c_X7_giveTypes l V hV (look (upN (insS ps) k (vFill σ 84 600 0)) (nI k)) ) (cwV 0 C.2.2.2.2.1 gX2_inspect_X7_giveTypes rfl rfl rfl (by decide +kernel) ⟨Nat.le_of_ble_eq_true rfl, Nat.le_of_ble_eq_true rfl⟩) rfl rfl (Nat.le_of_ble_eq_true rfl) dX2_inspect_36 ⟨Nat.le_of_ble_eq_true rfl, Nat.le_of_ble_eq_true rfl⟩ (x_kV ?_)
      refine x_aload_n C dX2_inspect_39 rfl 0 rfl ?_
      refine x_iload_n C dX2_inspect_40 rfl 2 rfl ?_
      refine x_callV C sh_82 (by decide) rfl [.int (nI k)] (c_X2_checkLinks l V hV (gts (look (upN (insS ps) k (vFill σ 84 600 0)) (nI k))) (nI k)) (cwV 1 C.2.2.2.2.1 gX2_inspect_X2_checkLinks rfl rfl rfl (by decide +kernel) ⟨Nat.le_of_ble_eq_true rfl, Nat.le_of_ble_eq_true rfl⟩) rfl rfl (Nat.le_of_ble_eq_true rfl) dX2_inspect_41 ⟨Nat.le_of_ble_eq_true rfl, Nat.le_of_ble_eq_true rfl⟩ (x_kV ?_)
      refine x_aload_n C dX2_inspect_44 rfl 0 rfl ?_
      refine x_iload_n C dX2_inspect_45 rfl 2 rfl ?_
      refine x_callV C sh_82 (by decide) rfl [.int (nI k)] (c_X2_checkClasses l V hV (ckL (gts (look (upN (insS ps) k (vFill σ 84 600 0)) (nI k))) (nI k)) (nI k)) (cwV 1 C.2.2.2.2.1 gX2_inspect_X2_checkClasses rfl rfl rfl (by decide +kernel) ⟨Nat.le_of_ble_eq_true rfl, Nat.le_of_ble_eq_true rfl⟩) rfl rfl (Nat.le_of_ble_eq_true rfl) dX2_inspect_46 ⟨Nat.le_of_ble_eq_true rfl, Nat.le_of_ble_eq_true rfl⟩ (x_kV ?_)
      refine x_aload_n C dX2_inspect_49 rfl 0 rfl ?_
      refine x_iload_n C dX2_inspect_50 rfl 2 rfl ?_
      refine x_callV C sh_82 (by decide) rfl [.int (nI k)] (c_X2_checkMembers l V hV (ckC (ckL (gts (look (upN (insS ps) k (vFill σ 84 600 0)) (nI k))) (nI k)) (nI k)) (nI k)) (cwV 1 C.2.2.2.2.1 gX2_inspect_X2_checkMembers rfl rfl rfl (by decide +kernel) ⟨Nat.le_of_ble_eq_true rfl, Nat.le_of_ble_eq_true rfl⟩) rfl rfl (Nat.le_of_ble_eq_true rfl) dX2_inspect_51 ⟨Nat.le_of_ble_eq_true rfl, Nat.le_of_ble_eq_true rfl⟩ (x_kV ?_)
      refine x_aload_n C dX2_inspect_54 rfl 0 rfl ?_
      refine x_iload_n C dX2_inspect_55 rfl 2 rfl ?_
      refine x_callV C sh_82 (by decide) rfl [.int (nI k)] (c_X2_checkExpressions l V hV (ckM (ckC (ckL (gts (look (upN (insS ps) k (vFill σ 84 600 0)) (nI k))) (nI k)) (nI k)) (nI k)) (nI k)) (cwV 1 C.2.2.2.2.1 gX2_inspect_X2_checkExpressions rfl rfl rfl (by decide +kernel) ⟨Nat.le_of_ble_eq_true rfl, Nat.le_of_ble_eq_true rfl⟩) rfl rfl (Nat.le_of_ble_eq_true rfl) dX2_inspect_56 ⟨Nat.le_of_ble_eq_true rfl, Nat.le_of_ble_eq_true rfl⟩ (x_kV ?_)
      refine x_aload_n C dX2_inspect_59 rfl 0 rfl ?_
      refine x_iload_n C dX2_inspect_60 rfl 2 rfl ?_
      refine x_callV C sh_82 (by decide) rfl [.int (nI k)] (c_X2_checkResults l V hV (ckE (ckM (ckC (ckL (gts (look (upN (insS ps) k (vFill σ 84 600 0)) (nI k))) (nI k)) (nI k)) (nI k)) (nI k)) (nI k)) (cwV 1 C.2.2.2.2.1 gX2_inspect_X2_checkResults rfl rfl rfl (by decide +kernel) ⟨Nat.le_of_ble_eq_true rfl, Nat.le_of_ble_eq_true rfl⟩) rfl rfl (Nat.le_of_ble_eq_true rfl) dX2_inspect_61 ⟨Nat.le_of_ble_eq_true rfl, Nat.le_of_ble_eq_true rfl⟩ (x_kV ?_)
      refine x_iinc C (q := 2) ((nI k) + (1 : Int32)) [(2, .int ((nI k) + (1 : Int32))), (0, ra V 82), (1, .int ps)] dX2_inspect_64 rfl rfl (by decide) rfl ?_
      refine x_goto C 10 dX2_inspect_67 rfl ?_
      refine x_lv [1, 2, 0] [(0, ra V 82), (1, .int ps), (2, .int ((nI k) + (1 : Int32)))] rfl ?_
      exact ih10 _ _ _ (by omega) ⟨k + 1, rfl, Eq.symm (by rw [upN_s]; simp [insS, h2]), by rw [nI_succ], hkn⟩

/-! The view of one product. -/
def downN (f : xS → Int32 → xS) : Nat → xS → xS
  | 0, τ => τ
  | k + 1, τ => downN f k (f τ (nI k))
def upN (f : xS → Int32 → xS) : Nat → xS → xS
  | 0, τ => τ
  | k + 1, τ => f (upN f k τ) (nI k)
theorem upN_keep {f : xS → Int32 → xS} {r : Nat} (hf : ∀ τ i, f τ i r = τ r) : ∀ k τ, upN f k τ r = τ r
  | 0, _ => rfl
  | k + 1, τ => by rw [upN, hf, upN_keep hf k]
theorem downN_keep {f : xS → Int32 → xS} {r : Nat} (hf : ∀ τ i, f τ i r = τ r) : ∀ k τ, downN f k τ r = τ r
  | 0, _ => rfl
  | k + 1, τ => by rw [downN, downN_keep hf k, hf]
def okZ (σ : xS) (q : Nat) : Prop := σ q 0 = nI (σ q 0).toNatClampNeg
def isThB (σ : xS) (s i : Int32) : Bool := isInB (vAt 4 (σ 71) s) i
def cTr (σ : xS) (s i : Int32) : Bool := isInB (if s = 1 then vAt 12 (σ 22) i else vAt 24 (σ 34) i) (σ 206 0)
def plc (o n t : Int32) : Int32 := (o * 2 + t) * 10 + n
def lfeI (σ : xS) (s : Int32) : Int32 := maskI (fun j => isInB (wT σ s (nI j)) (σ 206 0)) (σ (szQ s) 0).toNatClampNeg
def lfe (σ : xS) (s : Int32) : xS := vPut σ 71 4 s (lfeI σ s)
def lpStep (τ : xS) (i : Int32) : xS := if isThB τ 1 i = true then vPut τ 73 8 (vAt 12 (τ 24) i) (vAt 12 (τ 26) i) else τ
def lfp (σ : xS) : xS := downN lpStep (σ 202 0).toNatClampNeg (vFill σ 73 8 (-1))
def ancN (P : Nat → Int32) : Nat → Int32 → Int32 → Int32
  | 0, set, _ => set
  | k + 1, set, ab => if ab = -1 then set else ancN P k (set ||| ((1 : Int32) <<< (ab &&& 31))) (vAt 8 P ab)
def laStep (τ : xS) (i : Int32) : xS := vPut τ 75 8 i (ancN (τ 73) 8 0 (vAt 8 (τ 73) i))
def lfa (σ : xS) : xS := upN laStep 8 σ
def lmStep (τ : xS) (i : Int32) : xS := if isThB τ 2 i = true then vPut τ 77 160 (plc (vAt 24 (τ 38) i) (vAt 24 (τ 40) i) (vAt 24 (τ 36) i)) i else τ
def lfm (σ : xS) : xS := downN lmStep (σ 203 0).toNatClampNeg (vFill σ 77 160 (-1))
def look (σ : xS) (c : Int32) : xS := lfm (lfa (lfp (lfe (lfe (lfe (lfe (xw σ 206 0 c) 0) 1) 2) 3)))
def isUnB (σ : xS) (a b : Int32) : Bool := isInB (vAt 8 (σ 75) a) b
def isRep (σ : xS) (i : Int32) : Bool := !decide (i = vAt 160 (σ 77) (plc (vAt 24 (σ 38) i) (vAt 24 (σ 40) i) (vAt 24 (σ 36) i)))
def lookN (σ : xS) (n t : Int32) : Nat → Int32 → Int32
  | 0, _ => -1
  | k + 1, a => if a = -1 then -1 else if vAt 160 (σ 77) (plc a n t) = -1 then lookN σ n t k (vAt 8 (σ 73) a) else vAt 160 (σ 77) (plc a n t)
def lookU (σ : xS) (o n t : Int32) : Int32 := lookN σ n t 8 o
def fitB (σ : xS) (t o : Int32) : Bool := decide (t = o) || (decide (¬ t = 8) && (decide (¬ o = 8) && isUnB σ t o))
def missB (σ : xS) (t : Int32) : Bool := decide (¬ t = -1) && (decide (¬ t = 8) && !isThB σ 0 t)
def tyP (e c : Int32) : Int32 := c * 50 + e
def tyIn (σ : xS) (e c : Int32) : Int32 := vAt 800 (σ 81) (tyP e c)
def tyH (σ : xS) (e : Int32) : Int32 := tyIn σ e (σ 206 0)
def hTN (σ : xS) (x : Int32) : Bool := decide (x = -1) || decide (¬ tyH σ x < 0)
def hPT (σ : xS) (e : Int32) : Bool := hTN σ (vAt 50 (σ 55) e) && (hTN σ (vAt 50 (σ 57) e) && hTN σ (vAt 50 (σ 59) e))
def useM (σ : xS) (e : Int32) : Int32 := lookU σ (tyH σ (vAt 50 (σ 55) e)) (vAt 50 (σ 53) e) (if vAt 50 (σ 49) e = 5 then 1 else 0)
def argF (σ : xS) (a q : Int32) : Bool := if a = -1 then decide (a = q) else if q = -1 then decide (a = q) else fitB σ (tyH σ a) q
def argsF (σ : xS) (e x : Int32) : Bool := argF σ (vAt 50 (σ 57) e) (mPar σ x 0) && argF σ (vAt 50 (σ 59) e) (mPar σ x 1)
def fndF (σ : xS) (e : Int32) : Int32 :=
  if vAt 50 (σ 49) e = 0 then (if isThB σ 0 (vAt 50 (σ 53) e) = true then 0 else 8)
  else if ¬ vAt 50 (σ 49) e = 4 ∧ ¬ vAt 50 (σ 49) e = 5 then 0
  else if tyH σ (vAt 50 (σ 55) e) = 8 then 9
  else if useM σ e = -1 then 10
  else if vAt 50 (σ 49) e = 4 then 0
  else if argsF σ e (useM σ e) = true then 0 else 11
def faT (σ : xS) (e : Int32) : Int32 :=
  if vAt 50 (σ 49) e = 0 then vAt 50 (σ 53) e
  else if vAt 50 (σ 49) e = 1 then 8
  else if vAt 50 (σ 49) e = 2 then vAt 24 (σ 38) (vAt 50 (σ 51) e)
  else if vAt 50 (σ 49) e = 3 then mPar σ (vAt 50 (σ 51) e) (vAt 50 (σ 53) e)
  else vAt 24 (σ 42) (useM σ e)
def gtF (σ : xS) (e : Int32) : Int32 := if isThB σ 2 (vAt 50 (σ 51) e) = true ∧ hPT σ e = true then fndF σ e else 0
def gtT (σ : xS) (e : Int32) : Int32 := if isThB σ 2 (vAt 50 (σ 51) e) = true then (if hPT σ e = true ∧ fndF σ e = 0 then faT σ e else -1) else -2
def gtStep (τ : xS) (e : Int32) : xS := vPut (vPut τ 79 50 e (gtF τ e)) 81 800 (tyP e (τ 206 0)) (gtT τ e)
def gts (σ : xS) : xS := upN gtStep (σ 205 0).toNatClampNeg σ
theorem gtStep_keep {r : Nat} (h1 : r ≠ 79) (h2 : r ≠ 81) (τ : xS) (i : Int32) : gtStep τ i r = τ r := by rw [gtStep, vPut_ne h2, vPut_ne h1]
theorem laStep_keep {r : Nat} (h1 : r ≠ 75) (τ : xS) (i : Int32) : laStep τ i r = τ r := by rw [laStep, vPut_ne h1]
theorem lpStep_keep {r : Nat} (h1 : r ≠ 73) (τ : xS) (i : Int32) : lpStep τ i r = τ r := by unfold lpStep; split <;> simp [vPut_ne h1]
theorem lmStep_keep {r : Nat} (h1 : r ≠ 77) (τ : xS) (i : Int32) : lmStep τ i r = τ r := by unfold lmStep; split <;> simp [vPut_ne h1]
theorem lfe_keep {r : Nat} (h : r ≠ 71) (σ : xS) (s : Int32) : lfe σ s r = σ r := vPut_ne h
theorem lfp_keep {r : Nat} (h : r ≠ 73) (σ : xS) : lfp σ r = σ r := by rw [lfp, downN_keep (lpStep_keep h), vFill_ne h]
theorem lfa_keep {r : Nat} (h : r ≠ 75) (σ : xS) : lfa σ r = σ r := by rw [lfa, upN_keep (laStep_keep h)]
theorem lfm_keep {r : Nat} (h : r ≠ 77) (σ : xS) : lfm σ r = σ r := by rw [lfm, downN_keep (lmStep_keep h), vFill_ne h]
theorem gts_keep {r : Nat} (h1 : r ≠ 79) (h2 : r ≠ 81) (σ : xS) : gts σ r = σ r := by rw [gts, upN_keep (gtStep_keep h1 h2)]
theorem okZ_of {σ τ : xS} {q : Nat} (h : τ q = σ q) (k : okZ σ q) : okZ τ q := by unfold okZ at *; rw [h]; exact k
theorem pred_neg {k : Nat} (hk : k < 2 ^ 31) {x : Int32} (hx : x = nI k - 1) (h : x < 0) : k = 0 := by
  cases k with
  | zero => rfl
  | succ j => rw [hx, nI_pred] at h; exact absurd h (nI_pos (by omega))
theorem pred_pos {k : Nat} {x : Int32} (hx : x = nI k - 1) (h : ¬ x < 0) : ∃ j, k = j + 1 ∧ x = nI j := by
  cases k with
  | zero => rw [hx] at h; exact absurd (by decide) h
  | succ j => exact ⟨j, rfl, by rw [hx, nI_pred]⟩

theorem nI_m1 (j : Nat) : nI j + (-1) = nI j - 1 := (Int32.sub_eq_add_neg _ _).symm
theorem ancN_s {P : Nat → Int32} {k : Nat} {s a : Int32} (h : ¬ a = -1) : ancN P (k + 1) s a = ancN P k (s ||| ((1 : Int32) <<< (a &&& 31))) (vAt 8 P a) := by rw [ancN, if_neg h]
theorem ancN_e {P : Nat → Int32} {k : Nat} {s a : Int32} (h : a = -1) : ancN P k s a = s := by
  cases k with
  | zero => rfl
  | succ k => rw [ancN, if_pos h]
theorem lookN_e {σ : xS} {n t : Int32} {k : Nat} {a : Int32} (h : a = -1) : lookN σ n t k a = -1 := by
  cases k with
  | zero => rfl
  | succ k => rw [lookN, if_pos h]
set_option maxHeartbeats 4000000 in
set_option maxRecDepth 100000 in
theorem c_X7_placeOf (l : Launch) (V : xV) (hV : xInj V) (σ : xS) (o n t : Int32) : xM l yX7_placeOf wsX7_placeOf ({ frames := 0, cells := 0, slots := 0, locals := 0 }) V [.int o, .int n, .int t] σ (rI (plc o n t) σ) := by
  refine xM_of (cc := cX7_placeOf) (maxL := 3) (ret := (some .int)) [(0, .int o), (1, .int n), (2, .int t)] hV (by decide) rfl rfl (Nat.le_of_ble_eq_true rfl) (fun p e s m args below meth c C hr hlk => ?_)
  refine x_iload_n C dX7_placeOf_0 rfl 0 rfl ?_
  refine x_iconst C (2 : Int32) (by decide) dX7_placeOf_1 ?_
  refine x_imul C dX7_placeOf_2 ?_
  refine x_iload_n C dX7_placeOf_3 rfl 2 rfl ?_
  refine x_iadd C dX7_placeOf_4 ?_
  refine x_bipush C (10 : Int32) (by decide) dX7_placeOf_5 ?_
  refine x_imul C dX7_placeOf_7 ?_
  refine x_iload_n C dX7_placeOf_8 rfl 1 rfl ?_
  refine x_iadd C dX7_placeOf_9 ?_
  exact x_iret C hr hlk dX7_placeOf_10 ⟨rfl, rfl⟩

set_option maxHeartbeats 4000000 in
set_option maxRecDepth 100000 in
theorem c_X7_typePlace (l : Launch) (V : xV) (hV : xInj V) (σ : xS) (x c1 : Int32) : xM l yX7_typePlace wsX7_typePlace ({ frames := 0, cells := 0, slots := 0, locals := 0 }) V [.int x, .int c1] σ (rI (tyP x c1) σ) := by
  refine xM_of (cc := cX7_typePlace) (maxL := 2) (ret := (some .int)) [(0, .int x), (1, .int c1)] hV (by decide) rfl rfl (Nat.le_of_ble_eq_true rfl) (fun p e s m args below meth c C hr hlk => ?_)
  refine x_iload_n C dX7_typePlace_0 rfl 1 rfl ?_
  refine x_bipush C (50 : Int32) (by decide) dX7_typePlace_1 ?_
  refine x_imul C dX7_typePlace_3 ?_
  refine x_iload_n C dX7_typePlace_4 rfl 0 rfl ?_
  refine x_iadd C dX7_typePlace_5 ?_
  exact x_iret C hr hlk dX7_typePlace_6 ⟨rfl, rfl⟩

set_option maxHeartbeats 4000000 in
set_option maxRecDepth 100000 in
theorem c_X7_lookForElements_0 (l : Launch) (V : xV) (hV : xInj V) (σ : xS) : xM l yX7_lookForElements wsX7_lookForElements ({ frames := 4, cells := 0, slots := 0, locals := 87 }) V [ra V 69, .int (0 : Int32)] σ (rV (lfe σ (0 : Int32))) := by
  refine xM_of (cc := cX7_lookForElements) (maxL := 4) (ret := none) [(0, ra V 69), (1, .int (0 : Int32))] hV (by decide) rfl rfl (Nat.le_of_ble_eq_true rfl) (fun p e s m args below meth c C hr hlk => ?_)
  have iX7 : ∀ w ∈ u_ws RX7 TX7 8, w ∈ wsX7_lookForElements := by decide +kernel
  have f39 : (Cond.fieldLink RX7 39 RX7 (TX7 0).2.1 (TX7 0).2.2.1).before args s = true := C.2.2.2.2.1 _ (by decide +kernel)
  have f14 : (Cond.fieldLink RX7 14 RX7 (TX7 1).2.1 (TX7 1).2.2.1).before args s = true := C.2.2.2.2.1 _ (by decide +kernel)
  have f35 : (Cond.fieldLink RX7 35 RX7 (TX7 7).2.1 (TX7 7).2.2.1).before args s = true := C.2.2.2.2.1 _ (by decide +kernel)
  refine x_iconst C (0 : Int32) (by decide) dX7_lookForElements_0 ?_
  refine x_istore_n C [(2, .int (0 : Int32)), (0, ra V 69), (1, .int (0 : Int32))] dX7_lookForElements_1 rfl (by decide) rfl ?_
  refine x_iconst C (0 : Int32) (by decide) dX7_lookForElements_2 ?_
  refine x_istore_n C [(3, .int (0 : Int32)), (2, .int (0 : Int32)), (0, ra V 69), (1, .int (0 : Int32))] dX7_lookForElements_3 rfl (by decide) rfl ?_
  refine x_lv [2, 3, 1, 0] [(0, ra V 69), (1, .int (0 : Int32)), (2, .int (0 : Int32)), (3, .int (0 : Int32))] rfl ?_
  refine x_loop (fun μ σ_ lv_ => ∃ (k : Nat), μ = (σ 201 0).toNatClampNeg - k ∧ σ = σ_ ∧ lv_ = [(0, ra V 69), (1, .int (0 : Int32)), (2, .int (maskI (fun j => isInB (wT σ (0 : Int32) (nI j)) (σ 206 0)) k)), (3, .int (nI k))] ∧ k ≤ (σ 201 0).toNatClampNeg) ⟨_, ⟨0, rfl, rfl, rfl, Nat.zero_le _⟩⟩ ?_
  rintro μ4 _ _ ⟨k, hμ4, rfl, rfl, hc4_0⟩ ih4
  refine x_iload_n C dX7_lookForElements_4 rfl 3 rfl ?_
  refine x_aload_n C dX7_lookForElements_5 rfl 0 rfl ?_
  refine x_getr C sh_69 rfl iX7 0 (by decide) f39 (fun _ h => h) (by decide) rfl dX7_lookForElements_6 ?_
  refine x_iload_n C dX7_lookForElements_9 rfl 1 rfl ?_
  refine x_callV C sh_8 (by decide) rfl [.int (0 : Int32)] (c_X4_size_0 l V hV σ) (cwV 1 C.2.2.2.2.1 gX7_lookForElements_X4_size rfl rfl rfl (by decide +kernel) ⟨Nat.le_of_ble_eq_true rfl, Nat.le_of_ble_eq_true rfl⟩) rfl rfl (Nat.le_of_ble_eq_true rfl) dX7_lookForElements_10 ⟨Nat.le_of_ble_eq_true rfl, Nat.le_of_ble_eq_true rfl⟩ (x_kI ?_)
  refine x_icmp_ge C 47 dX7_lookForElements_13 rfl (fun h1 => ?_) (fun h1 => ?_)
  · refine x_aload_n C dX7_lookForElements_47 rfl 0 rfl ?_
    refine x_getr C sh_69 rfl iX7 1 (by decide) f14 (fun _ h => h) (by decide) rfl dX7_lookForElements_48 ?_
    refine x_iload_n C dX7_lookForElements_51 rfl 1 rfl ?_
    refine x_iload_n C dX7_lookForElements_52 rfl 2 rfl ?_
    refine x_callV C sh_70 (by decide) rfl [.int (0 : Int32), .int (maskI (fun j => isInB (wT σ (0 : Int32) (nI j)) (σ 206 0)) k)] (c_X5_put l V hV σ 70 71 4 sh_70 sh_71 (by decide) (0 : Int32) (maskI (fun j => isInB (wT σ (0 : Int32) (nI j)) (σ 206 0)) k)) (cwV 2 C.2.2.2.2.1 gX7_lookForElements_X5_put rfl rfl rfl (by decide +kernel) ⟨Nat.le_of_ble_eq_true rfl, Nat.le_of_ble_eq_true rfl⟩) rfl rfl (Nat.le_of_ble_eq_true rfl) dX7_lookForElements_53 ⟨Nat.le_of_ble_eq_true rfl, Nat.le_of_ble_eq_true rfl⟩ (x_kV ?_)
    exact x_vret C hr hlk dX7_lookForElements_56 ⟨rfl, by rw [← (show (σ 201 0).toNatClampNeg = k from Nat.le_antisymm ((le_nI (by have := clamp_lt (σ 201 0); omega)).mp h1) hc4_0)]; rfl⟩
  · have hkn : k < (σ 201 0).toNatClampNeg := Nat.lt_of_not_le (fun hq => h1 ((le_nI (by have := clamp_lt (σ 201 0); omega)).mpr hq))
    refine x_aload_n C dX7_lookForElements_16 rfl 0 rfl ?_
    refine x_getr C sh_69 rfl iX7 0 (by decide) f39 (fun _ h => h) (by decide) rfl dX7_lookForElements_17 ?_
    refine x_iload_n C dX7_lookForElements_20 rfl 1 rfl ?_
    refine x_iload_n C dX7_lookForElements_21 rfl 3 rfl ?_
    refine x_callV C sh_8 (by decide) rfl [.int (0 : Int32), .int (nI k)] (c_X4_whereThere_0 l V hV σ (nI k)) (cwV 2 C.2.2.2.2.1 gX7_lookForElements_X4_whereThere rfl rfl rfl (by decide +kernel) ⟨Nat.le_of_ble_eq_true rfl, Nat.le_of_ble_eq_true rfl⟩) rfl rfl (Nat.le_of_ble_eq_true rfl) dX7_lookForElements_22 ⟨Nat.le_of_ble_eq_true rfl, Nat.le_of_ble_eq_true rfl⟩ (x_kI ?_)
    refine x_aload_n C dX7_lookForElements_25 rfl 0 rfl ?_
    refine x_geti C sh_69 rfl iX7 7 (by decide) f35 (fun _ h => h) (by decide) rfl dX7_lookForElements_26 ?_
    refine x_callSN (host := RX8) C [.int (wT σ (0 : Int32) (nI k)), .int (σ 206 0)] (c_X8_isIn l V hV σ (wT σ (0 : Int32) (nI k)) (σ 206 0)) (⟨va_cnB 2 C.2.2.2.2.1 gX7_lookForElements_X8_isIn_n65 rfl rfl rfl (C.2.2.2.2.2.1.2 _ (by decide +kernel)) (C.2.2.2.2.1 _ (by decide +kernel)) (by decide +kernel) ⟨Nat.le_of_ble_eq_true rfl, Nat.le_of_ble_eq_true rfl⟩, C.2.2.2.2.1 _ (by decide +kernel), trivial⟩) rfl rfl (Nat.le_of_ble_eq_true rfl) dX7_lookForElements_29 ⟨Nat.le_of_ble_eq_true rfl, Nat.le_of_ble_eq_true rfl⟩ (x_kI ?_)
    refine x_bif_eq C 41 dX7_lookForElements_32 rfl (fun h2 => ?_) (fun h2 => ?_)
    · refine x_iinc C (q := 3) ((nI k) + (1 : Int32)) [(3, .int ((nI k) + (1 : Int32))), (0, ra V 69), (1, .int (0 : Int32)), (2, .int (maskI (fun j => isInB (wT σ (0 : Int32) (nI j)) (σ 206 0)) k))] dX7_lookForElements_41 rfl rfl (by decide) rfl ?_
      refine x_goto C 4 dX7_lookForElements_44 rfl ?_
      refine x_lv [1, 2, 3, 0] [(0, ra V 69), (1, .int (0 : Int32)), (2, .int (maskI (fun j => isInB (wT σ (0 : Int32) (nI j)) (σ 206 0)) k)), (3, .int ((nI k) + (1 : Int32)))] rfl ?_
      exact ih4 _ _ _ (by omega) ⟨k + 1, rfl, rfl, by rw [nI_succ]; simp [maskI, h1, h2], hkn⟩
    · refine x_iload_n C dX7_lookForElements_35 rfl 2 rfl ?_
      refine x_iconst C (1 : Int32) (by decide) dX7_lookForElements_36 ?_
      refine x_iload_n C dX7_lookForElements_37 rfl 3 rfl ?_
      refine x_ishl C dX7_lookForElements_38 ?_
      refine x_ior C dX7_lookForElements_39 ?_
      refine x_istore_n C [(2, .int ((maskI (fun j => isInB (wT σ (0 : Int32) (nI j)) (σ 206 0)) k) ||| ((1 : Int32) <<< ((nI k) &&& 31)))), (0, ra V 69), (1, .int (0 : Int32)), (3, .int (nI k))] dX7_lookForElements_40 rfl (by decide) rfl ?_
      refine x_iinc C (q := 3) ((nI k) + (1 : Int32)) [(3, .int ((nI k) + (1 : Int32))), (2, .int ((maskI (fun j => isInB (wT σ (0 : Int32) (nI j)) (σ 206 0)) k) ||| ((1 : Int32) <<< ((nI k) &&& 31)))), (0, ra V 69), (1, .int (0 : Int32))] dX7_lookForElements_41 rfl rfl (by decide) rfl ?_
      refine x_goto C 4 dX7_lookForElements_44 rfl ?_
      refine x_lv [2, 3, 1, 0] [(0, ra V 69), (1, .int (0 : Int32)), (2, .int ((maskI (fun j => isInB (wT σ (0 : Int32) (nI j)) (σ 206 0)) k) ||| ((1 : Int32) <<< ((nI k) &&& 31)))), (3, .int ((nI k) + (1 : Int32)))] rfl ?_
      exact ih4 _ _ _ (by omega) ⟨k + 1, rfl, rfl, by rw [nI_succ]; simp [maskI, h1, h2], hkn⟩

set_option maxHeartbeats 4000000 in
set_option maxRecDepth 100000 in
theorem c_X7_lookForElements_1 (l : Launch) (V : xV) (hV : xInj V) (σ : xS) : xM l yX7_lookForElements wsX7_lookForElements ({ frames := 4, cells := 0, slots := 0, locals := 87 }) V [ra V 69, .int (1 : Int32)] σ (rV (lfe σ (1 : Int32))) := by
  refine xM_of (cc := cX7_lookForElements) (maxL := 4) (ret := none) [(0, ra V 69), (1, .int (1 : Int32))] hV (by decide) rfl rfl (Nat.le_of_ble_eq_true rfl) (fun p e s m args below meth c C hr hlk => ?_)
  have iX7 : ∀ w ∈ u_ws RX7 TX7 8, w ∈ wsX7_lookForElements := by decide +kernel
  have f39 : (Cond.fieldLink RX7 39 RX7 (TX7 0).2.1 (TX7 0).2.2.1).before args s = true := C.2.2.2.2.1 _ (by decide +kernel)
  have f14 : (Cond.fieldLink RX7 14 RX7 (TX7 1).2.1 (TX7 1).2.2.1).before args s = true := C.2.2.2.2.1 _ (by decide +kernel)
  have f35 : (Cond.fieldLink RX7 35 RX7 (TX7 7).2.1 (TX7 7).2.2.1).before args s = true := C.2.2.2.2.1 _ (by decide +kernel)
  refine x_iconst C (0 : Int32) (by decide) dX7_lookForElements_0 ?_
  refine x_istore_n C [(2, .int (0 : Int32)), (0, ra V 69), (1, .int (1 : Int32))] dX7_lookForElements_1 rfl (by decide) rfl ?_
  refine x_iconst C (0 : Int32) (by decide) dX7_lookForElements_2 ?_
  refine x_istore_n C [(3, .int (0 : Int32)), (2, .int (0 : Int32)), (0, ra V 69), (1, .int (1 : Int32))] dX7_lookForElements_3 rfl (by decide) rfl ?_
  refine x_lv [2, 3, 1, 0] [(0, ra V 69), (1, .int (1 : Int32)), (2, .int (0 : Int32)), (3, .int (0 : Int32))] rfl ?_
  refine x_loop (fun μ σ_ lv_ => ∃ (k : Nat), μ = (σ 202 0).toNatClampNeg - k ∧ σ = σ_ ∧ lv_ = [(0, ra V 69), (1, .int (1 : Int32)), (2, .int (maskI (fun j => isInB (wT σ (1 : Int32) (nI j)) (σ 206 0)) k)), (3, .int (nI k))] ∧ k ≤ (σ 202 0).toNatClampNeg) ⟨_, ⟨0, rfl, rfl, rfl, Nat.zero_le _⟩⟩ ?_
  rintro μ4 _ _ ⟨k, hμ4, rfl, rfl, hc4_0⟩ ih4
  refine x_iload_n C dX7_lookForElements_4 rfl 3 rfl ?_
  refine x_aload_n C dX7_lookForElements_5 rfl 0 rfl ?_
  refine x_getr C sh_69 rfl iX7 0 (by decide) f39 (fun _ h => h) (by decide) rfl dX7_lookForElements_6 ?_
  refine x_iload_n C dX7_lookForElements_9 rfl 1 rfl ?_
  refine x_callV C sh_8 (by decide) rfl [.int (1 : Int32)] (c_X4_size_1 l V hV σ) (cwV 1 C.2.2.2.2.1 gX7_lookForElements_X4_size rfl rfl rfl (by decide +kernel) ⟨Nat.le_of_ble_eq_true rfl, Nat.le_of_ble_eq_true rfl⟩) rfl rfl (Nat.le_of_ble_eq_true rfl) dX7_lookForElements_10 ⟨Nat.le_of_ble_eq_true rfl, Nat.le_of_ble_eq_true rfl⟩ (x_kI ?_)
  refine x_icmp_ge C 47 dX7_lookForElements_13 rfl (fun h1 => ?_) (fun h1 => ?_)
  · refine x_aload_n C dX7_lookForElements_47 rfl 0 rfl ?_
    refine x_getr C sh_69 rfl iX7 1 (by decide) f14 (fun _ h => h) (by decide) rfl dX7_lookForElements_48 ?_
    refine x_iload_n C dX7_lookForElements_51 rfl 1 rfl ?_
    refine x_iload_n C dX7_lookForElements_52 rfl 2 rfl ?_
    refine x_callV C sh_70 (by decide) rfl [.int (1 : Int32), .int (maskI (fun j => isInB (wT σ (1 : Int32) (nI j)) (σ 206 0)) k)] (c_X5_put l V hV σ 70 71 4 sh_70 sh_71 (by decide) (1 : Int32) (maskI (fun j => isInB (wT σ (1 : Int32) (nI j)) (σ 206 0)) k)) (cwV 2 C.2.2.2.2.1 gX7_lookForElements_X5_put rfl rfl rfl (by decide +kernel) ⟨Nat.le_of_ble_eq_true rfl, Nat.le_of_ble_eq_true rfl⟩) rfl rfl (Nat.le_of_ble_eq_true rfl) dX7_lookForElements_53 ⟨Nat.le_of_ble_eq_true rfl, Nat.le_of_ble_eq_true rfl⟩ (x_kV ?_)
    exact x_vret C hr hlk dX7_lookForElements_56 ⟨rfl, by rw [← (show (σ 202 0).toNatClampNeg = k from Nat.le_antisymm ((le_nI (by have := clamp_lt (σ 202 0); omega)).mp h1) hc4_0)]; rfl⟩
  · have hkn : k < (σ 202 0).toNatClampNeg := Nat.lt_of_not_le (fun hq => h1 ((le_nI (by have := clamp_lt (σ 202 0); omega)).mpr hq))
    refine x_aload_n C dX7_lookForElements_16 rfl 0 rfl ?_
    refine x_getr C sh_69 rfl iX7 0 (by decide) f39 (fun _ h => h) (by decide) rfl dX7_lookForElements_17 ?_
    refine x_iload_n C dX7_lookForElements_20 rfl 1 rfl ?_
    refine x_iload_n C dX7_lookForElements_21 rfl 3 rfl ?_
    refine x_callV C sh_8 (by decide) rfl [.int (1 : Int32), .int (nI k)] (c_X4_whereThere_1 l V hV σ (nI k)) (cwV 2 C.2.2.2.2.1 gX7_lookForElements_X4_whereThere rfl rfl rfl (by decide +kernel) ⟨Nat.le_of_ble_eq_true rfl, Nat.le_of_ble_eq_true rfl⟩) rfl rfl (Nat.le_of_ble_eq_true rfl) dX7_lookForElements_22 ⟨Nat.le_of_ble_eq_true rfl, Nat.le_of_ble_eq_true rfl⟩ (x_kI ?_)
    refine x_aload_n C dX7_lookForElements_25 rfl 0 rfl ?_
    refine x_geti C sh_69 rfl iX7 7 (by decide) f35 (fun _ h => h) (by decide) rfl dX7_lookForElements_26 ?_
    refine x_callSN (host := RX8) C [.int (wT σ (1 : Int32) (nI k)), .int (σ 206 0)] (c_X8_isIn l V hV σ (wT σ (1 : Int32) (nI k)) (σ 206 0)) (⟨va_cnB 2 C.2.2.2.2.1 gX7_lookForElements_X8_isIn_n65 rfl rfl rfl (C.2.2.2.2.2.1.2 _ (by decide +kernel)) (C.2.2.2.2.1 _ (by decide +kernel)) (by decide +kernel) ⟨Nat.le_of_ble_eq_true rfl, Nat.le_of_ble_eq_true rfl⟩, C.2.2.2.2.1 _ (by decide +kernel), trivial⟩) rfl rfl (Nat.le_of_ble_eq_true rfl) dX7_lookForElements_29 ⟨Nat.le_of_ble_eq_true rfl, Nat.le_of_ble_eq_true rfl⟩ (x_kI ?_)
    refine x_bif_eq C 41 dX7_lookForElements_32 rfl (fun h2 => ?_) (fun h2 => ?_)
    · refine x_iinc C (q := 3) ((nI k) + (1 : Int32)) [(3, .int ((nI k) + (1 : Int32))), (0, ra V 69), (1, .int (1 : Int32)), (2, .int (maskI (fun j => isInB (wT σ (1 : Int32) (nI j)) (σ 206 0)) k))] dX7_lookForElements_41 rfl rfl (by decide) rfl ?_
      refine x_goto C 4 dX7_lookForElements_44 rfl ?_
      refine x_lv [1, 2, 3, 0] [(0, ra V 69), (1, .int (1 : Int32)), (2, .int (maskI (fun j => isInB (wT σ (1 : Int32) (nI j)) (σ 206 0)) k)), (3, .int ((nI k) + (1 : Int32)))] rfl ?_
      exact ih4 _ _ _ (by omega) ⟨k + 1, rfl, rfl, by rw [nI_succ]; simp [maskI, h1, h2], hkn⟩
    · refine x_iload_n C dX7_lookForElements_35 rfl 2 rfl ?_
      refine x_iconst C (1 : Int32) (by decide) dX7_lookForElements_36 ?_
      refine x_iload_n C dX7_lookForElements_37 rfl 3 rfl ?_
      refine x_ishl C dX7_lookForElements_38 ?_
      refine x_ior C dX7_lookForElements_39 ?_
      refine x_istore_n C [(2, .int ((maskI (fun j => isInB (wT σ (1 : Int32) (nI j)) (σ 206 0)) k) ||| ((1 : Int32) <<< ((nI k) &&& 31)))), (0, ra V 69), (1, .int (1 : Int32)), (3, .int (nI k))] dX7_lookForElements_40 rfl (by decide) rfl ?_
      refine x_iinc C (q := 3) ((nI k) + (1 : Int32)) [(3, .int ((nI k) + (1 : Int32))), (2, .int ((maskI (fun j => isInB (wT σ (1 : Int32) (nI j)) (σ 206 0)) k) ||| ((1 : Int32) <<< ((nI k) &&& 31)))), (0, ra V 69), (1, .int (1 : Int32))] dX7_lookForElements_41 rfl rfl (by decide) rfl ?_
      refine x_goto C 4 dX7_lookForElements_44 rfl ?_
      refine x_lv [2, 3, 1, 0] [(0, ra V 69), (1, .int (1 : Int32)), (2, .int ((maskI (fun j => isInB (wT σ (1 : Int32) (nI j)) (σ 206 0)) k) ||| ((1 : Int32) <<< ((nI k) &&& 31)))), (3, .int ((nI k) + (1 : Int32)))] rfl ?_
      exact ih4 _ _ _ (by omega) ⟨k + 1, rfl, rfl, by rw [nI_succ]; simp [maskI, h1, h2], hkn⟩

set_option maxHeartbeats 4000000 in
set_option maxRecDepth 100000 in
theorem c_X7_lookForElements_2 (l : Launch) (V : xV) (hV : xInj V) (σ : xS) : xM l yX7_lookForElements wsX7_lookForElements ({ frames := 4, cells := 0, slots := 0, locals := 87 }) V [ra V 69, .int (2 : Int32)] σ (rV (lfe σ (2 : Int32))) := by
  refine xM_of (cc := cX7_lookForElements) (maxL := 4) (ret := none) [(0, ra V 69), (1, .int (2 : Int32))] hV (by decide) rfl rfl (Nat.le_of_ble_eq_true rfl) (fun p e s m args below meth c C hr hlk => ?_)
  have iX7 : ∀ w ∈ u_ws RX7 TX7 8, w ∈ wsX7_lookForElements := by decide +kernel
  have f39 : (Cond.fieldLink RX7 39 RX7 (TX7 0).2.1 (TX7 0).2.2.1).before args s = true := C.2.2.2.2.1 _ (by decide +kernel)
  have f14 : (Cond.fieldLink RX7 14 RX7 (TX7 1).2.1 (TX7 1).2.2.1).before args s = true := C.2.2.2.2.1 _ (by decide +kernel)
  have f35 : (Cond.fieldLink RX7 35 RX7 (TX7 7).2.1 (TX7 7).2.2.1).before args s = true := C.2.2.2.2.1 _ (by decide +kernel)
  refine x_iconst C (0 : Int32) (by decide) dX7_lookForElements_0 ?_
  refine x_istore_n C [(2, .int (0 : Int32)), (0, ra V 69), (1, .int (2 : Int32))] dX7_lookForElements_1 rfl (by decide) rfl ?_
  refine x_iconst C (0 : Int32) (by decide) dX7_lookForElements_2 ?_
  refine x_istore_n C [(3, .int (0 : Int32)), (2, .int (0 : Int32)), (0, ra V 69), (1, .int (2 : Int32))] dX7_lookForElements_3 rfl (by decide) rfl ?_
  refine x_lv [2, 3, 1, 0] [(0, ra V 69), (1, .int (2 : Int32)), (2, .int (0 : Int32)), (3, .int (0 : Int32))] rfl ?_
  refine x_loop (fun μ σ_ lv_ => ∃ (k : Nat), μ = (σ 203 0).toNatClampNeg - k ∧ σ = σ_ ∧ lv_ = [(0, ra V 69), (1, .int (2 : Int32)), (2, .int (maskI (fun j => isInB (wT σ (2 : Int32) (nI j)) (σ 206 0)) k)), (3, .int (nI k))] ∧ k ≤ (σ 203 0).toNatClampNeg) ⟨_, ⟨0, rfl, rfl, rfl, Nat.zero_le _⟩⟩ ?_
  rintro μ4 _ _ ⟨k, hμ4, rfl, rfl, hc4_0⟩ ih4
  refine x_iload_n C dX7_lookForElements_4 rfl 3 rfl ?_
  refine x_aload_n C dX7_lookForElements_5 rfl 0 rfl ?_
  refine x_getr C sh_69 rfl iX7 0 (by decide) f39 (fun _ h => h) (by decide) rfl dX7_lookForElements_6 ?_
  refine x_iload_n C dX7_lookForElements_9 rfl 1 rfl ?_
  refine x_callV C sh_8 (by decide) rfl [.int (2 : Int32)] (c_X4_size_2 l V hV σ) (cwV 1 C.2.2.2.2.1 gX7_lookForElements_X4_size rfl rfl rfl (by decide +kernel) ⟨Nat.le_of_ble_eq_true rfl, Nat.le_of_ble_eq_true rfl⟩) rfl rfl (Nat.le_of_ble_eq_true rfl) dX7_lookForElements_10 ⟨Nat.le_of_ble_eq_true rfl, Nat.le_of_ble_eq_true rfl⟩ (x_kI ?_)
  refine x_icmp_ge C 47 dX7_lookForElements_13 rfl (fun h1 => ?_) (fun h1 => ?_)
  · refine x_aload_n C dX7_lookForElements_47 rfl 0 rfl ?_
    refine x_getr C sh_69 rfl iX7 1 (by decide) f14 (fun _ h => h) (by decide) rfl dX7_lookForElements_48 ?_
    refine x_iload_n C dX7_lookForElements_51 rfl 1 rfl ?_
    refine x_iload_n C dX7_lookForElements_52 rfl 2 rfl ?_
    refine x_callV C sh_70 (by decide) rfl [.int (2 : Int32), .int (maskI (fun j => isInB (wT σ (2 : Int32) (nI j)) (σ 206 0)) k)] (c_X5_put l V hV σ 70 71 4 sh_70 sh_71 (by decide) (2 : Int32) (maskI (fun j => isInB (wT σ (2 : Int32) (nI j)) (σ 206 0)) k)) (cwV 2 C.2.2.2.2.1 gX7_lookForElements_X5_put rfl rfl rfl (by decide +kernel) ⟨Nat.le_of_ble_eq_true rfl, Nat.le_of_ble_eq_true rfl⟩) rfl rfl (Nat.le_of_ble_eq_true rfl) dX7_lookForElements_53 ⟨Nat.le_of_ble_eq_true rfl, Nat.le_of_ble_eq_true rfl⟩ (x_kV ?_)
    exact x_vret C hr hlk dX7_lookForElements_56 ⟨rfl, by rw [← (show (σ 203 0).toNatClampNeg = k from Nat.le_antisymm ((le_nI (by have := clamp_lt (σ 203 0); omega)).mp h1) hc4_0)]; rfl⟩
  · have hkn : k < (σ 203 0).toNatClampNeg := Nat.lt_of_not_le (fun hq => h1 ((le_nI (by have := clamp_lt (σ 203 0); omega)).mpr hq))
    refine x_aload_n C dX7_lookForElements_16 rfl 0 rfl ?_
    refine x_getr C sh_69 rfl iX7 0 (by decide) f39 (fun _ h => h) (by decide) rfl dX7_lookForElements_17 ?_
    refine x_iload_n C dX7_lookForElements_20 rfl 1 rfl ?_
    refine x_iload_n C dX7_lookForElements_21 rfl 3 rfl ?_
    refine x_callV C sh_8 (by decide) rfl [.int (2 : Int32), .int (nI k)] (c_X4_whereThere_2 l V hV σ (nI k)) (cwV 2 C.2.2.2.2.1 gX7_lookForElements_X4_whereThere rfl rfl rfl (by decide +kernel) ⟨Nat.le_of_ble_eq_true rfl, Nat.le_of_ble_eq_true rfl⟩) rfl rfl (Nat.le_of_ble_eq_true rfl) dX7_lookForElements_22 ⟨Nat.le_of_ble_eq_true rfl, Nat.le_of_ble_eq_true rfl⟩ (x_kI ?_)
    refine x_aload_n C dX7_lookForElements_25 rfl 0 rfl ?_
    refine x_geti C sh_69 rfl iX7 7 (by decide) f35 (fun _ h => h) (by decide) rfl dX7_lookForElements_26 ?_
    refine x_callSN (host := RX8) C [.int (wT σ (2 : Int32) (nI k)), .int (σ 206 0)] (c_X8_isIn l V hV σ (wT σ (2 : Int32) (nI k)) (σ 206 0)) (⟨va_cnB 2 C.2.2.2.2.1 gX7_lookForElements_X8_isIn_n65 rfl rfl rfl (C.2.2.2.2.2.1.2 _ (by decide +kernel)) (C.2.2.2.2.1 _ (by decide +kernel)) (by decide +kernel) ⟨Nat.le_of_ble_eq_true rfl, Nat.le_of_ble_eq_true rfl⟩, C.2.2.2.2.1 _ (by decide +kernel), trivial⟩) rfl rfl (Nat.le_of_ble_eq_true rfl) dX7_lookForElements_29 ⟨Nat.le_of_ble_eq_true rfl, Nat.le_of_ble_eq_true rfl⟩ (x_kI ?_)
    refine x_bif_eq C 41 dX7_lookForElements_32 rfl (fun h2 => ?_) (fun h2 => ?_)
    · refine x_iinc C (q := 3) ((nI k) + (1 : Int32)) [(3, .int ((nI k) + (1 : Int32))), (0, ra V 69), (1, .int (2 : Int32)), (2, .int (maskI (fun j => isInB (wT σ (2 : Int32) (nI j)) (σ 206 0)) k))] dX7_lookForElements_41 rfl rfl (by decide) rfl ?_
      refine x_goto C 4 dX7_lookForElements_44 rfl ?_
      refine x_lv [1, 2, 3, 0] [(0, ra V 69), (1, .int (2 : Int32)), (2, .int (maskI (fun j => isInB (wT σ (2 : Int32) (nI j)) (σ 206 0)) k)), (3, .int ((nI k) + (1 : Int32)))] rfl ?_
      exact ih4 _ _ _ (by omega) ⟨k + 1, rfl, rfl, by rw [nI_succ]; simp [maskI, h1, h2], hkn⟩
    · refine x_iload_n C dX7_lookForElements_35 rfl 2 rfl ?_
      refine x_iconst C (1 : Int32) (by decide) dX7_lookForElements_36 ?_
      refine x_iload_n C dX7_lookForElements_37 rfl 3 rfl ?_
      refine x_ishl C dX7_lookForElements_38 ?_
      refine x_ior C dX7_lookForElements_39 ?_
      refine x_istore_n C [(2, .int ((maskI (fun j => isInB (wT σ (2 : Int32) (nI j)) (σ 206 0)) k) ||| ((1 : Int32) <<< ((nI k) &&& 31)))), (0, ra V 69), (1, .int (2 : Int32)), (3, .int (nI k))] dX7_lookForElements_40 rfl (by decide) rfl ?_
      refine x_iinc C (q := 3) ((nI k) + (1 : Int32)) [(3, .int ((nI k) + (1 : Int32))), (2, .int ((maskI (fun j => isInB (wT σ (2 : Int32) (nI j)) (σ 206 0)) k) ||| ((1 : Int32) <<< ((nI k) &&& 31)))), (0, ra V 69), (1, .int (2 : Int32))] dX7_lookForElements_41 rfl rfl (by decide) rfl ?_
      refine x_goto C 4 dX7_lookForElements_44 rfl ?_
      refine x_lv [2, 3, 1, 0] [(0, ra V 69), (1, .int (2 : Int32)), (2, .int ((maskI (fun j => isInB (wT σ (2 : Int32) (nI j)) (σ 206 0)) k) ||| ((1 : Int32) <<< ((nI k) &&& 31)))), (3, .int ((nI k) + (1 : Int32)))] rfl ?_
      exact ih4 _ _ _ (by omega) ⟨k + 1, rfl, rfl, by rw [nI_succ]; simp [maskI, h1, h2], hkn⟩

set_option maxHeartbeats 4000000 in
set_option maxRecDepth 100000 in
theorem c_X7_lookForElements_3 (l : Launch) (V : xV) (hV : xInj V) (σ : xS) : xM l yX7_lookForElements wsX7_lookForElements ({ frames := 4, cells := 0, slots := 0, locals := 87 }) V [ra V 69, .int (3 : Int32)] σ (rV (lfe σ (3 : Int32))) := by
  refine xM_of (cc := cX7_lookForElements) (maxL := 4) (ret := none) [(0, ra V 69), (1, .int (3 : Int32))] hV (by decide) rfl rfl (Nat.le_of_ble_eq_true rfl) (fun p e s m args below meth c C hr hlk => ?_)
  have iX7 : ∀ w ∈ u_ws RX7 TX7 8, w ∈ wsX7_lookForElements := by decide +kernel
  have f39 : (Cond.fieldLink RX7 39 RX7 (TX7 0).2.1 (TX7 0).2.2.1).before args s = true := C.2.2.2.2.1 _ (by decide +kernel)
  have f14 : (Cond.fieldLink RX7 14 RX7 (TX7 1).2.1 (TX7 1).2.2.1).before args s = true := C.2.2.2.2.1 _ (by decide +kernel)
  have f35 : (Cond.fieldLink RX7 35 RX7 (TX7 7).2.1 (TX7 7).2.2.1).before args s = true := C.2.2.2.2.1 _ (by decide +kernel)
  refine x_iconst C (0 : Int32) (by decide) dX7_lookForElements_0 ?_
  refine x_istore_n C [(2, .int (0 : Int32)), (0, ra V 69), (1, .int (3 : Int32))] dX7_lookForElements_1 rfl (by decide) rfl ?_
  refine x_iconst C (0 : Int32) (by decide) dX7_lookForElements_2 ?_
  refine x_istore_n C [(3, .int (0 : Int32)), (2, .int (0 : Int32)), (0, ra V 69), (1, .int (3 : Int32))] dX7_lookForElements_3 rfl (by decide) rfl ?_
  refine x_lv [2, 3, 1, 0] [(0, ra V 69), (1, .int (3 : Int32)), (2, .int (0 : Int32)), (3, .int (0 : Int32))] rfl ?_
  refine x_loop (fun μ σ_ lv_ => ∃ (k : Nat), μ = (σ 204 0).toNatClampNeg - k ∧ σ = σ_ ∧ lv_ = [(0, ra V 69), (1, .int (3 : Int32)), (2, .int (maskI (fun j => isInB (wT σ (3 : Int32) (nI j)) (σ 206 0)) k)), (3, .int (nI k))] ∧ k ≤ (σ 204 0).toNatClampNeg) ⟨_, ⟨0, rfl, rfl, rfl, Nat.zero_le _⟩⟩ ?_
  rintro μ4 _ _ ⟨k, hμ4, rfl, rfl, hc4_0⟩ ih4
  refine x_iload_n C dX7_lookForElements_4 rfl 3 rfl ?_
  refine x_aload_n C dX7_lookForElements_5 rfl 0 rfl ?_
  refine x_getr C sh_69 rfl iX7 0 (by decide) f39 (fun _ h => h) (by decide) rfl dX7_lookForElements_6 ?_
  refine x_iload_n C dX7_lookForElements_9 rfl 1 rfl ?_
  refine x_callV C sh_8 (by decide) rfl [.int (3 : Int32)] (c_X4_size_3 l V hV σ) (cwV 1 C.2.2.2.2.1 gX7_lookForElements_X4_size rfl rfl rfl (by decide +kernel) ⟨Nat.le_of_ble_eq_true rfl, Nat.le_of_ble_eq_true rfl⟩) rfl rfl (Nat.le_of_ble_eq_true rfl) dX7_lookForElements_10 ⟨Nat.le_of_ble_eq_true rfl, Nat.le_of_ble_eq_true rfl⟩ (x_kI ?_)
  refine x_icmp_ge C 47 dX7_lookForElements_13 rfl (fun h1 => ?_) (fun h1 => ?_)
  · refine x_aload_n C dX7_lookForElements_47 rfl 0 rfl ?_
    refine x_getr C sh_69 rfl iX7 1 (by decide) f14 (fun _ h => h) (by decide) rfl dX7_lookForElements_48 ?_
    refine x_iload_n C dX7_lookForElements_51 rfl 1 rfl ?_
    refine x_iload_n C dX7_lookForElements_52 rfl 2 rfl ?_
    refine x_callV C sh_70 (by decide) rfl [.int (3 : Int32), .int (maskI (fun j => isInB (wT σ (3 : Int32) (nI j)) (σ 206 0)) k)] (c_X5_put l V hV σ 70 71 4 sh_70 sh_71 (by decide) (3 : Int32) (maskI (fun j => isInB (wT σ (3 : Int32) (nI j)) (σ 206 0)) k)) (cwV 2 C.2.2.2.2.1 gX7_lookForElements_X5_put rfl rfl rfl (by decide +kernel) ⟨Nat.le_of_ble_eq_true rfl, Nat.le_of_ble_eq_true rfl⟩) rfl rfl (Nat.le_of_ble_eq_true rfl) dX7_lookForElements_53 ⟨Nat.le_of_ble_eq_true rfl, Nat.le_of_ble_eq_true rfl⟩ (x_kV ?_)
    exact x_vret C hr hlk dX7_lookForElements_56 ⟨rfl, by rw [← (show (σ 204 0).toNatClampNeg = k from Nat.le_antisymm ((le_nI (by have := clamp_lt (σ 204 0); omega)).mp h1) hc4_0)]; rfl⟩
  · have hkn : k < (σ 204 0).toNatClampNeg := Nat.lt_of_not_le (fun hq => h1 ((le_nI (by have := clamp_lt (σ 204 0); omega)).mpr hq))
    refine x_aload_n C dX7_lookForElements_16 rfl 0 rfl ?_
    refine x_getr C sh_69 rfl iX7 0 (by decide) f39 (fun _ h => h) (by decide) rfl dX7_lookForElements_17 ?_
    refine x_iload_n C dX7_lookForElements_20 rfl 1 rfl ?_
    refine x_iload_n C dX7_lookForElements_21 rfl 3 rfl ?_
    refine x_callV C sh_8 (by decide) rfl [.int (3 : Int32), .int (nI k)] (c_X4_whereThere_3 l V hV σ (nI k)) (cwV 2 C.2.2.2.2.1 gX7_lookForElements_X4_whereThere rfl rfl rfl (by decide +kernel) ⟨Nat.le_of_ble_eq_true rfl, Nat.le_of_ble_eq_true rfl⟩) rfl rfl (Nat.le_of_ble_eq_true rfl) dX7_lookForElements_22 ⟨Nat.le_of_ble_eq_true rfl, Nat.le_of_ble_eq_true rfl⟩ (x_kI ?_)
    refine x_aload_n C dX7_lookForElements_25 rfl 0 rfl ?_
    refine x_geti C sh_69 rfl iX7 7 (by decide) f35 (fun _ h => h) (by decide) rfl dX7_lookForElements_26 ?_
    refine x_callSN (host := RX8) C [.int (wT σ (3 : Int32) (nI k)), .int (σ 206 0)] (c_X8_isIn l V hV σ (wT σ (3 : Int32) (nI k)) (σ 206 0)) (⟨va_cnB 2 C.2.2.2.2.1 gX7_lookForElements_X8_isIn_n65 rfl rfl rfl (C.2.2.2.2.2.1.2 _ (by decide +kernel)) (C.2.2.2.2.1 _ (by decide +kernel)) (by decide +kernel) ⟨Nat.le_of_ble_eq_true rfl, Nat.le_of_ble_eq_true rfl⟩, C.2.2.2.2.1 _ (by decide +kernel), trivial⟩) rfl rfl (Nat.le_of_ble_eq_true rfl) dX7_lookForElements_29 ⟨Nat.le_of_ble_eq_true rfl, Nat.le_of_ble_eq_true rfl⟩ (x_kI ?_)
    refine x_bif_eq C 41 dX7_lookForElements_32 rfl (fun h2 => ?_) (fun h2 => ?_)
    · refine x_iinc C (q := 3) ((nI k) + (1 : Int32)) [(3, .int ((nI k) + (1 : Int32))), (0, ra V 69), (1, .int (3 : Int32)), (2, .int (maskI (fun j => isInB (wT σ (3 : Int32) (nI j)) (σ 206 0)) k))] dX7_lookForElements_41 rfl rfl (by decide) rfl ?_
      refine x_goto C 4 dX7_lookForElements_44 rfl ?_
      refine x_lv [1, 2, 3, 0] [(0, ra V 69), (1, .int (3 : Int32)), (2, .int (maskI (fun j => isInB (wT σ (3 : Int32) (nI j)) (σ 206 0)) k)), (3, .int ((nI k) + (1 : Int32)))] rfl ?_
      exact ih4 _ _ _ (by omega) ⟨k + 1, rfl, rfl, by rw [nI_succ]; simp [maskI, h1, h2], hkn⟩
    · refine x_iload_n C dX7_lookForElements_35 rfl 2 rfl ?_
      refine x_iconst C (1 : Int32) (by decide) dX7_lookForElements_36 ?_
      refine x_iload_n C dX7_lookForElements_37 rfl 3 rfl ?_
      refine x_ishl C dX7_lookForElements_38 ?_
      refine x_ior C dX7_lookForElements_39 ?_
      refine x_istore_n C [(2, .int ((maskI (fun j => isInB (wT σ (3 : Int32) (nI j)) (σ 206 0)) k) ||| ((1 : Int32) <<< ((nI k) &&& 31)))), (0, ra V 69), (1, .int (3 : Int32)), (3, .int (nI k))] dX7_lookForElements_40 rfl (by decide) rfl ?_
      refine x_iinc C (q := 3) ((nI k) + (1 : Int32)) [(3, .int ((nI k) + (1 : Int32))), (2, .int ((maskI (fun j => isInB (wT σ (3 : Int32) (nI j)) (σ 206 0)) k) ||| ((1 : Int32) <<< ((nI k) &&& 31)))), (0, ra V 69), (1, .int (3 : Int32))] dX7_lookForElements_41 rfl rfl (by decide) rfl ?_
      refine x_goto C 4 dX7_lookForElements_44 rfl ?_
      refine x_lv [2, 3, 1, 0] [(0, ra V 69), (1, .int (3 : Int32)), (2, .int ((maskI (fun j => isInB (wT σ (3 : Int32) (nI j)) (σ 206 0)) k) ||| ((1 : Int32) <<< ((nI k) &&& 31)))), (3, .int ((nI k) + (1 : Int32)))] rfl ?_
      exact ih4 _ _ _ (by omega) ⟨k + 1, rfl, rfl, by rw [nI_succ]; simp [maskI, h1, h2], hkn⟩

set_option maxHeartbeats 4000000 in
set_option maxRecDepth 100000 in
theorem c_X7_isThere (l : Launch) (V : xV) (hV : xInj V) (σ : xS) (t i : Int32)  : xM l yX7_isThere wsX7_isThere ({ frames := 1, cells := 0, slots := 0, locals := 21 }) V [ra V 69, .int t, .int i] σ (rI (bI (isThB σ t i)) σ) := by
  refine xM_of (cc := cX7_isThere) (maxL := 3) (ret := (some .boolean)) [(0, ra V 69), (1, .int t), (2, .int i)] hV (by decide) rfl rfl (Nat.le_of_ble_eq_true rfl) (fun p e s m args below meth c C hr hlk => ?_)
  have iX7 : ∀ w ∈ u_ws RX7 TX7 8, w ∈ wsX7_isThere := by decide +kernel
  have f14 : (Cond.fieldLink RX7 14 RX7 (TX7 1).2.1 (TX7 1).2.2.1).before args s = true := C.2.2.2.2.1 _ (by decide +kernel)
  refine x_aload_n C dX7_isThere_0 rfl 0 rfl ?_
  refine x_getr C sh_69 rfl iX7 1 (by decide) f14 (fun _ h => h) (by decide) rfl dX7_isThere_1 ?_
  refine x_iload_n C dX7_isThere_4 rfl 1 rfl ?_
  refine x_callV C sh_70 (by decide) rfl [.int t] (c_X5_at l V hV σ 70 71 4 sh_70 sh_71 (by decide) t) (cwV 1 C.2.2.2.2.1 gX7_isThere_X5_at rfl rfl rfl (by decide +kernel) ⟨Nat.le_of_ble_eq_true rfl, Nat.le_of_ble_eq_true rfl⟩) rfl rfl (Nat.le_of_ble_eq_true rfl) dX7_isThere_5 ⟨Nat.le_of_ble_eq_true rfl, Nat.le_of_ble_eq_true rfl⟩ (x_kI ?_)
  refine x_iload_n C dX7_isThere_8 rfl 2 rfl ?_
  refine x_callSN (host := RX8) C [.int (vAt 4 (σ 71) t), .int i] (c_X8_isIn l V hV σ (vAt 4 (σ 71) t) i) (⟨va_cnB 2 C.2.2.2.2.1 gX7_isThere_X8_isIn_n65 rfl rfl rfl (C.2.2.2.2.2.1.2 _ (by decide +kernel)) (C.2.2.2.2.1 _ (by decide +kernel)) (by decide +kernel) ⟨Nat.le_of_ble_eq_true rfl, Nat.le_of_ble_eq_true rfl⟩, C.2.2.2.2.1 _ (by decide +kernel), trivial⟩) rfl rfl (Nat.le_of_ble_eq_true rfl) dX7_isThere_9 ⟨Nat.le_of_ble_eq_true rfl, Nat.le_of_ble_eq_true rfl⟩ (x_kI ?_)
  exact x_zret C (isInB (vAt 4 (σ 71) t) i) rfl hr hlk dX7_isThere_12 ⟨rfl, rfl⟩

set_option maxHeartbeats 4000000 in
set_option maxRecDepth 100000 in
theorem c_X7_isConditionTrue_1 (l : Launch) (V : xV) (hV : xInj V) (σ : xS) (i : Int32) : xM l yX7_isConditionTrue wsX7_isConditionTrue ({ frames := 2, cells := 0, slots := 0, locals := 42 }) V [ra V 69, .int (1 : Int32), .int i] σ (rI (bI (cTr σ (1 : Int32) i)) σ) := by
  refine xM_of (cc := cX7_isConditionTrue) (maxL := 3) (ret := (some .boolean)) [(0, ra V 69), (1, .int (1 : Int32)), (2, .int i)] hV (by decide) rfl rfl (Nat.le_of_ble_eq_true rfl) (fun p e s m args below meth c C hr hlk => ?_)
  have iX7 : ∀ w ∈ u_ws RX7 TX7 8, w ∈ wsX7_isConditionTrue := by decide +kernel
  have f39 : (Cond.fieldLink RX7 39 RX7 (TX7 0).2.1 (TX7 0).2.2.1).before args s = true := C.2.2.2.2.1 _ (by decide +kernel)
  have f35 : (Cond.fieldLink RX7 35 RX7 (TX7 7).2.1 (TX7 7).2.2.1).before args s = true := C.2.2.2.2.1 _ (by decide +kernel)
  refine x_aload_n C dX7_isConditionTrue_0 rfl 0 rfl ?_
  refine x_getr C sh_69 rfl iX7 0 (by decide) f39 (fun _ h => h) (by decide) rfl dX7_isConditionTrue_1 ?_
  refine x_iload_n C dX7_isConditionTrue_4 rfl 1 rfl ?_
  refine x_callV C sh_8 (by decide) rfl [.int (1 : Int32)] (c_X4_conditions_1 l V hV σ) (cwV 1 C.2.2.2.2.1 gX7_isConditionTrue_X4_conditions rfl rfl rfl (by decide +kernel) ⟨Nat.le_of_ble_eq_true rfl, Nat.le_of_ble_eq_true rfl⟩) rfl rfl (Nat.le_of_ble_eq_true rfl) dX7_isConditionTrue_5 ⟨Nat.le_of_ble_eq_true rfl, Nat.le_of_ble_eq_true rfl⟩ (x_kR ?_)
  refine x_iload_n C dX7_isConditionTrue_8 rfl 2 rfl ?_
  refine x_callV C sh_16 (by decide) rfl [.int i] (c_X0_whereTrue_16 l V hV σ i) (cwV 1 C.2.2.2.2.1 gX7_isConditionTrue_X0_whereTrue rfl rfl rfl (by decide +kernel) ⟨Nat.le_of_ble_eq_true rfl, Nat.le_of_ble_eq_true rfl⟩) rfl rfl (Nat.le_of_ble_eq_true rfl) dX7_isConditionTrue_9 ⟨Nat.le_of_ble_eq_true rfl, Nat.le_of_ble_eq_true rfl⟩ (x_kI ?_)
  refine x_aload_n C dX7_isConditionTrue_12 rfl 0 rfl ?_
  refine x_geti C sh_69 rfl iX7 7 (by decide) f35 (fun _ h => h) (by decide) rfl dX7_isConditionTrue_13 ?_
  refine x_callSN (host := RX8) C [.int (vAt 12 (σ 22) i), .int (σ 206 0)] (c_X8_isIn l V hV σ (vAt 12 (σ 22) i) (σ 206 0)) (⟨va_cnB 2 C.2.2.2.2.1 gX7_isConditionTrue_X8_isIn_n65 rfl rfl rfl (C.2.2.2.2.2.1.2 _ (by decide +kernel)) (C.2.2.2.2.1 _ (by decide +kernel)) (by decide +kernel) ⟨Nat.le_of_ble_eq_true rfl, Nat.le_of_ble_eq_true rfl⟩, C.2.2.2.2.1 _ (by decide +kernel), trivial⟩) rfl rfl (Nat.le_of_ble_eq_true rfl) dX7_isConditionTrue_16 ⟨Nat.le_of_ble_eq_true rfl, Nat.le_of_ble_eq_true rfl⟩ (x_kI ?_)
  exact x_zret C (isInB (vAt 12 (σ 22) i) (σ 206 0)) rfl hr hlk dX7_isConditionTrue_19 ⟨rfl, rfl⟩

set_option maxHeartbeats 4000000 in
set_option maxRecDepth 100000 in
theorem c_X7_isConditionTrue_2 (l : Launch) (V : xV) (hV : xInj V) (σ : xS) (i : Int32) : xM l yX7_isConditionTrue wsX7_isConditionTrue ({ frames := 2, cells := 0, slots := 0, locals := 42 }) V [ra V 69, .int (2 : Int32), .int i] σ (rI (bI (cTr σ (2 : Int32) i)) σ) := by
  refine xM_of (cc := cX7_isConditionTrue) (maxL := 3) (ret := (some .boolean)) [(0, ra V 69), (1, .int (2 : Int32)), (2, .int i)] hV (by decide) rfl rfl (Nat.le_of_ble_eq_true rfl) (fun p e s m args below meth c C hr hlk => ?_)
  have iX7 : ∀ w ∈ u_ws RX7 TX7 8, w ∈ wsX7_isConditionTrue := by decide +kernel
  have f39 : (Cond.fieldLink RX7 39 RX7 (TX7 0).2.1 (TX7 0).2.2.1).before args s = true := C.2.2.2.2.1 _ (by decide +kernel)
  have f35 : (Cond.fieldLink RX7 35 RX7 (TX7 7).2.1 (TX7 7).2.2.1).before args s = true := C.2.2.2.2.1 _ (by decide +kernel)
  refine x_aload_n C dX7_isConditionTrue_0 rfl 0 rfl ?_
  refine x_getr C sh_69 rfl iX7 0 (by decide) f39 (fun _ h => h) (by decide) rfl dX7_isConditionTrue_1 ?_
  refine x_iload_n C dX7_isConditionTrue_4 rfl 1 rfl ?_
  refine x_callV C sh_8 (by decide) rfl [.int (2 : Int32)] (c_X4_conditions_2 l V hV σ) (cwV 1 C.2.2.2.2.1 gX7_isConditionTrue_X4_conditions rfl rfl rfl (by decide +kernel) ⟨Nat.le_of_ble_eq_true rfl, Nat.le_of_ble_eq_true rfl⟩) rfl rfl (Nat.le_of_ble_eq_true rfl) dX7_isConditionTrue_5 ⟨Nat.le_of_ble_eq_true rfl, Nat.le_of_ble_eq_true rfl⟩ (x_kR ?_)
  refine x_iload_n C dX7_isConditionTrue_8 rfl 2 rfl ?_
  refine x_callV C sh_28 (by decide) rfl [.int i] (c_X0_whereTrue_28 l V hV σ i) (cwV 1 C.2.2.2.2.1 gX7_isConditionTrue_X0_whereTrue rfl rfl rfl (by decide +kernel) ⟨Nat.le_of_ble_eq_true rfl, Nat.le_of_ble_eq_true rfl⟩) rfl rfl (Nat.le_of_ble_eq_true rfl) dX7_isConditionTrue_9 ⟨Nat.le_of_ble_eq_true rfl, Nat.le_of_ble_eq_true rfl⟩ (x_kI ?_)
  refine x_aload_n C dX7_isConditionTrue_12 rfl 0 rfl ?_
  refine x_geti C sh_69 rfl iX7 7 (by decide) f35 (fun _ h => h) (by decide) rfl dX7_isConditionTrue_13 ?_
  refine x_callSN (host := RX8) C [.int (vAt 24 (σ 34) i), .int (σ 206 0)] (c_X8_isIn l V hV σ (vAt 24 (σ 34) i) (σ 206 0)) (⟨va_cnB 2 C.2.2.2.2.1 gX7_isConditionTrue_X8_isIn_n65 rfl rfl rfl (C.2.2.2.2.2.1.2 _ (by decide +kernel)) (C.2.2.2.2.1 _ (by decide +kernel)) (by decide +kernel) ⟨Nat.le_of_ble_eq_true rfl, Nat.le_of_ble_eq_true rfl⟩, C.2.2.2.2.1 _ (by decide +kernel), trivial⟩) rfl rfl (Nat.le_of_ble_eq_true rfl) dX7_isConditionTrue_16 ⟨Nat.le_of_ble_eq_true rfl, Nat.le_of_ble_eq_true rfl⟩ (x_kI ?_)
  exact x_zret C (isInB (vAt 24 (σ 34) i) (σ 206 0)) rfl hr hlk dX7_isConditionTrue_19 ⟨rfl, rfl⟩

set_option maxHeartbeats 4000000 in
set_option maxRecDepth 100000 in
theorem c_X7_lookForParents (l : Launch) (V : xV) (hV : xInj V) (σ : xS)  (hz : okZ σ 202) : xM l yX7_lookForParents wsX7_lookForParents ({ frames := 2, cells := 0, slots := 0, locals := 43 }) V [ra V 69] σ (rV (lfp σ)) := by
  refine xM_of (cc := cX7_lookForParents) (maxL := 2) (ret := none) [(0, ra V 69)] hV (by decide) rfl rfl (Nat.le_of_ble_eq_true rfl) (fun p e s m args below meth c C hr hlk => ?_)
  have iX7 : ∀ w ∈ u_ws RX7 TX7 8, w ∈ wsX7_lookForParents := by decide +kernel
  have f20 : (Cond.fieldLink RX7 20 RX7 (TX7 2).2.1 (TX7 2).2.2.1).before args s = true := C.2.2.2.2.1 _ (by decide +kernel)
  have f39 : (Cond.fieldLink RX7 39 RX7 (TX7 0).2.1 (TX7 0).2.2.1).before args s = true := C.2.2.2.2.1 _ (by decide +kernel)
  have iX4 : ∀ w ∈ u_ws RX4 TX4 8, w ∈ wsX7_lookForParents := by decide +kernel
  have f76 : (Cond.fieldLink RX7 76 RX4 (TX4 1).2.1 (TX4 1).2.2.1).before args s = true := C.2.2.2.2.1 _ (by decide +kernel)
  have f88 : (Cond.fieldLink RX7 88 RX4 (TX4 2).2.1 (TX4 2).2.2.1).before args s = true := C.2.2.2.2.1 _ (by decide +kernel)
  have f94 : (Cond.fieldLink RX7 94 RX4 (TX4 3).2.1 (TX4 3).2.2.1).before args s = true := C.2.2.2.2.1 _ (by decide +kernel)
  refine x_aload_n C dX7_lookForParents_0 rfl 0 rfl ?_
  refine x_getr C sh_69 rfl iX7 2 (by decide) f20 (fun _ h => h) (by decide) rfl dX7_lookForParents_1 ?_
  refine x_iconst C (-1 : Int32) (by decide) dX7_lookForParents_4 ?_
  refine x_callV C sh_72 (by decide) rfl [.int (-1 : Int32)] (c_X5_fill l V hV σ 72 73 8 sh_72 sh_73 (by decide) (-1 : Int32)) (cwV 1 C.2.2.2.2.1 gX7_lookForParents_X5_fill rfl rfl rfl (by decide +kernel) ⟨Nat.le_of_ble_eq_true rfl, Nat.le_of_ble_eq_true rfl⟩) rfl rfl (Nat.le_of_ble_eq_true rfl) dX7_lookForParents_5 ⟨Nat.le_of_ble_eq_true rfl, Nat.le_of_ble_eq_true rfl⟩ (x_kV ?_)
  refine x_aload_n C dX7_lookForParents_8 rfl 0 rfl ?_
  refine x_getr C sh_69 rfl iX7 0 (by decide) f39 (fun _ h => h) (by decide) rfl dX7_lookForParents_9 ?_
  refine x_getr C sh_8 rfl iX4 1 (by decide) f76 (fun _ h => h) (by decide) rfl dX7_lookForParents_12 ?_
  refine x_callV C sh_16 (by decide) rfl [] (c_X0_size_16 l V hV (vFill σ 73 8 (-1 : Int32)) ) (cwV 0 C.2.2.2.2.1 gX7_lookForParents_X0_size rfl rfl rfl (by decide +kernel) ⟨Nat.le_of_ble_eq_true rfl, Nat.le_of_ble_eq_true rfl⟩) rfl rfl (Nat.le_of_ble_eq_true rfl) dX7_lookForParents_15 ⟨Nat.le_of_ble_eq_true rfl, Nat.le_of_ble_eq_true rfl⟩ (x_kI ?_)
  refine x_iconst C (1 : Int32) (by decide) dX7_lookForParents_18 ?_
  refine x_isub C dX7_lookForParents_19 ?_
  refine x_istore_n C [(1, .int (((vFill σ 73 8 (-1 : Int32)) 202 0) - (1 : Int32))), (0, ra V 69)] dX7_lookForParents_20 rfl (by decide) rfl ?_
  refine x_lv [1, 0] [(0, ra V 69), (1, .int (((vFill σ 73 8 (-1 : Int32)) 202 0) - (1 : Int32)))] rfl ?_
  refine x_loop (fun μ τ lv_ => ∃ (k : Nat) (x : Int32), μ = k ∧ lv_ = [(0, ra V 69), (1, .int x)] ∧ x = nI k - 1 ∧ k < 2 ^ 31 ∧ downN lpStep k τ = lfp σ) ⟨_, ⟨(σ 202 0).toNatClampNeg, _, rfl, rfl, (by simp only [vFill_ne (show 202 ≠ 73 by decide)]; rw [← hz]), clamp_lt _, rfl⟩⟩ ?_
  rintro μ21 τ _ ⟨k, x, hμ21, rfl, hc21_0, hc21_1, hc21_2⟩ ih21
  refine x_iload_n C dX7_lookForParents_21 rfl 1 rfl ?_
  refine x_if_lt C 69 dX7_lookForParents_22 rfl (fun h1 => ?_) (fun h1 => ?_)
  · exact x_vret C hr hlk dX7_lookForParents_69 ⟨rfl, by rw [← hc21_2, pred_neg hc21_1 hc21_0 h1]; rfl⟩
  · obtain ⟨j, hkj, hxj⟩ := pred_pos hc21_0 h1
    refine x_aload_n C dX7_lookForParents_25 rfl 0 rfl ?_
    refine x_iconst C (1 : Int32) (by decide) dX7_lookForParents_26 ?_
    refine x_iload_n C dX7_lookForParents_27 rfl 1 rfl ?_
    refine x_callV C sh_69 (by decide) rfl [.int (1 : Int32), .int x] (c_X7_isThere l V hV τ (1 : Int32) x) (cwV 2 C.2.2.2.2.1 gX7_lookForParents_X7_isThere rfl rfl rfl (by decide +kernel) ⟨Nat.le_of_ble_eq_true rfl, Nat.le_of_ble_eq_true rfl⟩) rfl rfl (Nat.le_of_ble_eq_true rfl) dX7_lookForParents_28 ⟨Nat.le_of_ble_eq_true rfl, Nat.le_of_ble_eq_true rfl⟩ (x_kI ?_)
    refine x_bif_eq C 63 dX7_lookForParents_31 rfl (fun h2 => ?_) (fun h2 => ?_)
    · refine x_iinc C (q := 1) (x + (-1 : Int32)) [(1, .int (x + (-1 : Int32))), (0, ra V 69)] dX7_lookForParents_63 rfl rfl (by decide) rfl ?_
      refine x_goto C 21 dX7_lookForParents_66 rfl ?_
      refine x_lv [1, 0] [(0, ra V 69), (1, .int (x + (-1 : Int32)))] rfl ?_
      exact ih21 _ _ _ (by omega) ⟨j, _, rfl, rfl, (by rw [hxj]; exact nI_m1 j), (by omega), (by rw [← hc21_2, hkj, downN, ← hxj]; simp [lpStep, h1, h2])⟩
    · refine x_aload_n C dX7_lookForParents_34 rfl 0 rfl ?_
      refine x_getr C sh_69 rfl iX7 2 (by decide) f20 (fun _ h => h) (by decide) rfl dX7_lookForParents_35 ?_
      refine x_aload_n C dX7_lookForParents_38 rfl 0 rfl ?_
      refine x_getr C sh_69 rfl iX7 0 (by decide) f39 (fun _ h => h) (by decide) rfl dX7_lookForParents_39 ?_
      refine x_getr C sh_8 rfl iX4 2 (by decide) f88 (fun _ h => h) (by decide) rfl dX7_lookForParents_42 ?_
      refine x_iload_n C dX7_lookForParents_45 rfl 1 rfl ?_
      refine x_callV C sh_23 (by decide) rfl [.int x] (c_X5_at l V hV τ 23 24 12 sh_23 sh_24 (by decide) x) (cwV 1 C.2.2.2.2.1 gX7_lookForParents_X5_at rfl rfl rfl (by decide +kernel) ⟨Nat.le_of_ble_eq_true rfl, Nat.le_of_ble_eq_true rfl⟩) rfl rfl (Nat.le_of_ble_eq_true rfl) dX7_lookForParents_46 ⟨Nat.le_of_ble_eq_true rfl, Nat.le_of_ble_eq_true rfl⟩ (x_kI ?_)
      refine x_aload_n C dX7_lookForParents_49 rfl 0 rfl ?_
      refine x_getr C sh_69 rfl iX7 0 (by decide) f39 (fun _ h => h) (by decide) rfl dX7_lookForParents_50 ?_
      refine x_getr C sh_8 rfl iX4 3 (by decide) f94 (fun _ h => h) (by decide) rfl dX7_lookForParents_53 ?_
      refine x_iload_n C dX7_lookForParents_56 rfl 1 rfl ?_
      refine x_callV C sh_25 (by decide) rfl [.int x] (c_X5_at l V hV τ 25 26 12 sh_25 sh_26 (by decide) x) (cwV 1 C.2.2.2.2.1 gX7_lookForParents_X5_at rfl rfl rfl (by decide +kernel) ⟨Nat.le_of_ble_eq_true rfl, Nat.le_of_ble_eq_true rfl⟩) rfl rfl (Nat.le_of_ble_eq_true rfl) dX7_lookForParents_57 ⟨Nat.le_of_ble_eq_true rfl, Nat.le_of_ble_eq_true rfl⟩ (x_kI ?_)
      refine x_callV C sh_72 (by decide) rfl [.int (vAt 12 (τ 24) x), .int (vAt 12 (τ 26) x)] (c_X5_put l V hV τ 72 73 8 sh_72 sh_73 (by decide) (vAt 12 (τ 24) x) (vAt 12 (τ 26) x)) (cwV 2 C.2.2.2.2.1 gX7_lookForParents_X5_put rfl rfl rfl (by decide +kernel) ⟨Nat.le_of_ble_eq_true rfl, Nat.le_of_ble_eq_true rfl⟩) rfl rfl (Nat.le_of_ble_eq_true rfl) dX7_lookForParents_60 ⟨Nat.le_of_ble_eq_true rfl, Nat.le_of_ble_eq_true rfl⟩ (x_kV ?_)
      refine x_iinc C (q := 1) (x + (-1 : Int32)) [(1, .int (x + (-1 : Int32))), (0, ra V 69)] dX7_lookForParents_63 rfl rfl (by decide) rfl ?_
      refine x_goto C 21 dX7_lookForParents_66 rfl ?_
      refine x_lv [1, 0] [(0, ra V 69), (1, .int (x + (-1 : Int32)))] rfl ?_
      exact ih21 _ _ _ (by omega) ⟨j, _, rfl, rfl, (by rw [hxj]; exact nI_m1 j), (by omega), (by rw [← hc21_2, hkj, downN, ← hxj]; simp [lpStep, h1, h2])⟩

set_option maxHeartbeats 4000000 in
set_option maxRecDepth 100000 in
theorem c_X7_lookForFirstMembers (l : Launch) (V : xV) (hV : xInj V) (σ : xS)  (hz : okZ σ 203) : xM l yX7_lookForFirstMembers wsX7_lookForFirstMembers ({ frames := 2, cells := 0, slots := 0, locals := 43 }) V [ra V 69] σ (rV (lfm σ)) := by
  refine xM_of (cc := cX7_lookForFirstMembers) (maxL := 2) (ret := none) [(0, ra V 69)] hV (by decide) rfl rfl (Nat.le_of_ble_eq_true rfl) (fun p e s m args below meth c C hr hlk => ?_)
  have iX7 : ∀ w ∈ u_ws RX7 TX7 8, w ∈ wsX7_lookForFirstMembers := by decide +kernel
  have f26 : (Cond.fieldLink RX7 26 RX7 (TX7 4).2.1 (TX7 4).2.2.1).before args s = true := C.2.2.2.2.1 _ (by decide +kernel)
  have f39 : (Cond.fieldLink RX7 39 RX7 (TX7 0).2.1 (TX7 0).2.2.1).before args s = true := C.2.2.2.2.1 _ (by decide +kernel)
  have iX4 : ∀ w ∈ u_ws RX4 TX4 8, w ∈ wsX7_lookForFirstMembers := by decide +kernel
  have f97 : (Cond.fieldLink RX7 97 RX4 (TX4 4).2.1 (TX4 4).2.2.1).before args s = true := C.2.2.2.2.1 _ (by decide +kernel)
  refine x_aload_n C dX7_lookForFirstMembers_0 rfl 0 rfl ?_
  refine x_getr C sh_69 rfl iX7 4 (by decide) f26 (fun _ h => h) (by decide) rfl dX7_lookForFirstMembers_1 ?_
  refine x_iconst C (-1 : Int32) (by decide) dX7_lookForFirstMembers_4 ?_
  refine x_callV C sh_76 (by decide) rfl [.int (-1 : Int32)] (c_X5_fill l V hV σ 76 77 160 sh_76 sh_77 (by decide) (-1 : Int32)) (cwV 1 C.2.2.2.2.1 gX7_lookForFirstMembers_X5_fill rfl rfl rfl (by decide +kernel) ⟨Nat.le_of_ble_eq_true rfl, Nat.le_of_ble_eq_true rfl⟩) rfl rfl (Nat.le_of_ble_eq_true rfl) dX7_lookForFirstMembers_5 ⟨Nat.le_of_ble_eq_true rfl, Nat.le_of_ble_eq_true rfl⟩ (x_kV ?_)
  refine x_aload_n C dX7_lookForFirstMembers_8 rfl 0 rfl ?_
  refine x_getr C sh_69 rfl iX7 0 (by decide) f39 (fun _ h => h) (by decide) rfl dX7_lookForFirstMembers_9 ?_
  refine x_getr C sh_8 rfl iX4 4 (by decide) f97 (fun _ h => h) (by decide) rfl dX7_lookForFirstMembers_12 ?_
  refine x_callV C sh_27 (by decide) rfl [] (c_X3_size l V hV (vFill σ 77 160 (-1 : Int32)) ) (cwV 0 C.2.2.2.2.1 gX7_lookForFirstMembers_X3_size rfl rfl rfl (by decide +kernel) ⟨Nat.le_of_ble_eq_true rfl, Nat.le_of_ble_eq_true rfl⟩) rfl rfl (Nat.le_of_ble_eq_true rfl) dX7_lookForFirstMembers_15 ⟨Nat.le_of_ble_eq_true rfl, Nat.le_of_ble_eq_true rfl⟩ (x_kI ?_)
  refine x_iconst C (1 : Int32) (by decide) dX7_lookForFirstMembers_18 ?_
  refine x_isub C dX7_lookForFirstMembers_19 ?_
  refine x_istore_n C [(1, .int (((vFill σ 77 160 (-1 : Int32)) 203 0) - (1 : Int32))), (0, ra V 69)] dX7_lookForFirstMembers_20 rfl (by decide) rfl ?_
  refine x_lv [1, 0] [(0, ra V 69), (1, .int (((vFill σ 77 160 (-1 : Int32)) 203 0) - (1 : Int32)))] rfl ?_
  refine x_loop (fun μ τ lv_ => ∃ (k : Nat) (x : Int32), μ = k ∧ lv_ = [(0, ra V 69), (1, .int x)] ∧ x = nI k - 1 ∧ k < 2 ^ 31 ∧ downN lmStep k τ = lfm σ) ⟨_, ⟨(σ 203 0).toNatClampNeg, _, rfl, rfl, (by simp only [vFill_ne (show 203 ≠ 77 by decide)]; rw [← hz]), clamp_lt _, rfl⟩⟩ ?_
  rintro μ21 τ _ ⟨k, x, hμ21, rfl, hc21_0, hc21_1, hc21_2⟩ ih21
  refine x_iload_n C dX7_lookForFirstMembers_21 rfl 1 rfl ?_
  refine x_if_lt C 84 dX7_lookForFirstMembers_22 rfl (fun h1 => ?_) (fun h1 => ?_)
  · exact x_vret C hr hlk dX7_lookForFirstMembers_84 ⟨rfl, by rw [← hc21_2, pred_neg hc21_1 hc21_0 h1]; rfl⟩
  · obtain ⟨j, hkj, hxj⟩ := pred_pos hc21_0 h1
    refine x_aload_n C dX7_lookForFirstMembers_25 rfl 0 rfl ?_
    refine x_iconst C (2 : Int32) (by decide) dX7_lookForFirstMembers_26 ?_
    refine x_iload_n C dX7_lookForFirstMembers_27 rfl 1 rfl ?_
    refine x_callV C sh_69 (by decide) rfl [.int (2 : Int32), .int x] (c_X7_isThere l V hV τ (2 : Int32) x) (cwV 2 C.2.2.2.2.1 gX7_lookForFirstMembers_X7_isThere rfl rfl rfl (by decide +kernel) ⟨Nat.le_of_ble_eq_true rfl, Nat.le_of_ble_eq_true rfl⟩) rfl rfl (Nat.le_of_ble_eq_true rfl) dX7_lookForFirstMembers_28 ⟨Nat.le_of_ble_eq_true rfl, Nat.le_of_ble_eq_true rfl⟩ (x_kI ?_)
    refine x_bif_eq C 78 dX7_lookForFirstMembers_31 rfl (fun h2 => ?_) (fun h2 => ?_)
    · refine x_iinc C (q := 1) (x + (-1 : Int32)) [(1, .int (x + (-1 : Int32))), (0, ra V 69)] dX7_lookForFirstMembers_78 rfl rfl (by decide) rfl ?_
      refine x_goto C 21 dX7_lookForFirstMembers_81 rfl ?_
      refine x_lv [1, 0] [(0, ra V 69), (1, .int (x + (-1 : Int32)))] rfl ?_
      exact ih21 _ _ _ (by omega) ⟨j, _, rfl, rfl, (by rw [hxj]; exact nI_m1 j), (by omega), (by rw [← hc21_2, hkj, downN, ← hxj]; simp [lmStep, h1, h2])⟩
    · refine x_aload_n C dX7_lookForFirstMembers_34 rfl 0 rfl ?_
      refine x_getr C sh_69 rfl iX7 4 (by decide) f26 (fun _ h => h) (by decide) rfl dX7_lookForFirstMembers_35 ?_
      refine x_aload_n C dX7_lookForFirstMembers_38 rfl 0 rfl ?_
      refine x_getr C sh_69 rfl iX7 0 (by decide) f39 (fun _ h => h) (by decide) rfl dX7_lookForFirstMembers_39 ?_
      refine x_getr C sh_8 rfl iX4 4 (by decide) f97 (fun _ h => h) (by decide) rfl dX7_lookForFirstMembers_42 ?_
      refine x_iload_n C dX7_lookForFirstMembers_45 rfl 1 rfl ?_
      refine x_callV C sh_27 (by decide) rfl [.int x] (c_X3_owner l V hV τ x) (cwV 1 C.2.2.2.2.1 gX7_lookForFirstMembers_X3_owner rfl rfl rfl (by decide +kernel) ⟨Nat.le_of_ble_eq_true rfl, Nat.le_of_ble_eq_true rfl⟩) rfl rfl (Nat.le_of_ble_eq_true rfl) dX7_lookForFirstMembers_46 ⟨Nat.le_of_ble_eq_true rfl, Nat.le_of_ble_eq_true rfl⟩ (x_kI ?_)
      refine x_aload_n C dX7_lookForFirstMembers_49 rfl 0 rfl ?_
      refine x_getr C sh_69 rfl iX7 0 (by decide) f39 (fun _ h => h) (by decide) rfl dX7_lookForFirstMembers_50 ?_
      refine x_getr C sh_8 rfl iX4 4 (by decide) f97 (fun _ h => h) (by decide) rfl dX7_lookForFirstMembers_53 ?_
      refine x_iload_n C dX7_lookForFirstMembers_56 rfl 1 rfl ?_
      refine x_callV C sh_27 (by decide) rfl [.int x] (c_X3_name l V hV τ x) (cwV 1 C.2.2.2.2.1 gX7_lookForFirstMembers_X3_name rfl rfl rfl (by decide +kernel) ⟨Nat.le_of_ble_eq_true rfl, Nat.le_of_ble_eq_true rfl⟩) rfl rfl (Nat.le_of_ble_eq_true rfl) dX7_lookForFirstMembers_57 ⟨Nat.le_of_ble_eq_true rfl, Nat.le_of_ble_eq_true rfl⟩ (x_kI ?_)
      refine x_aload_n C dX7_lookForFirstMembers_60 rfl 0 rfl ?_
      refine x_getr C sh_69 rfl iX7 0 (by decide) f39 (fun _ h => h) (by decide) rfl dX7_lookForFirstMembers_61 ?_
      refine x_getr C sh_8 rfl iX4 4 (by decide) f97 (fun _ h => h) (by decide) rfl dX7_lookForFirstMembers_64 ?_
      refine x_iload_n C dX7_lookForFirstMembers_67 rfl 1 rfl ?_
      refine x_callV C sh_27 (by decide) rfl [.int x] (c_X3_sort l V hV τ x) (cwV 1 C.2.2.2.2.1 gX7_lookForFirstMembers_X3_sort rfl rfl rfl (by decide +kernel) ⟨Nat.le_of_ble_eq_true rfl, Nat.le_of_ble_eq_true rfl⟩) rfl rfl (Nat.le_of_ble_eq_true rfl) dX7_lookForFirstMembers_68 ⟨Nat.le_of_ble_eq_true rfl, Nat.le_of_ble_eq_true rfl⟩ (x_kI ?_)
      refine x_callS C [.int (vAt 24 (τ 38) x), .int (vAt 24 (τ 40) x), .int (vAt 24 (τ 36) x)] (c_X7_placeOf l V hV τ (vAt 24 (τ 38) x) (vAt 24 (τ 40) x) (vAt 24 (τ 36) x)) (va_cwS 3 C.2.2.2.2.1 gX7_lookForFirstMembers_X7_placeOf rfl rfl rfl (by decide +kernel) ⟨Nat.le_of_ble_eq_true rfl, Nat.le_of_ble_eq_true rfl⟩) rfl rfl (Nat.le_of_ble_eq_true rfl) dX7_lookForFirstMembers_71 ⟨Nat.le_of_ble_eq_true rfl, Nat.le_of_ble_eq_true rfl⟩ (x_kI ?_)
      refine x_iload_n C dX7_lookForFirstMembers_74 rfl 1 rfl ?_
      refine x_callV C sh_76 (by decide) rfl [.int (plc (vAt 24 (τ 38) x) (vAt 24 (τ 40) x) (vAt 24 (τ 36) x)), .int x] (c_X5_put l V hV τ 76 77 160 sh_76 sh_77 (by decide) (plc (vAt 24 (τ 38) x) (vAt 24 (τ 40) x) (vAt 24 (τ 36) x)) x) (cwV 2 C.2.2.2.2.1 gX7_lookForFirstMembers_X5_put rfl rfl rfl (by decide +kernel) ⟨Nat.le_of_ble_eq_true rfl, Nat.le_of_ble_eq_true rfl⟩) rfl rfl (Nat.le_of_ble_eq_true rfl) dX7_lookForFirstMembers_75 ⟨Nat.le_of_ble_eq_true rfl, Nat.le_of_ble_eq_true rfl⟩ (x_kV ?_)
      refine x_iinc C (q := 1) (x + (-1 : Int32)) [(1, .int (x + (-1 : Int32))), (0, ra V 69)] dX7_lookForFirstMembers_78 rfl rfl (by decide) rfl ?_
      refine x_goto C 21 dX7_lookForFirstMembers_81 rfl ?_
      refine x_lv [1, 0] [(0, ra V 69), (1, .int (x + (-1 : Int32)))] rfl ?_
      exact ih21 _ _ _ (by omega) ⟨j, _, rfl, rfl, (by rw [hxj]; exact nI_m1 j), (by omega), (by rw [← hc21_2, hkj, downN, ← hxj]; simp [lmStep, h1, h2])⟩

set_option maxHeartbeats 4000000 in
set_option maxRecDepth 100000 in
theorem c_X7_lookForAncestors (l : Launch) (V : xV) (hV : xInj V) (σ : xS)   : xM l yX7_lookForAncestors wsX7_lookForAncestors ({ frames := 1, cells := 0, slots := 0, locals := 22 }) V [ra V 69] σ (rV (lfa σ)) := by
  refine xM_of (cc := cX7_lookForAncestors) (maxL := 5) (ret := none) [(0, ra V 69)] hV (by decide) rfl rfl (Nat.le_of_ble_eq_true rfl) (fun p e s m args below meth c C hr hlk => ?_)
  have iX7 : ∀ w ∈ u_ws RX7 TX7 8, w ∈ wsX7_lookForAncestors := by decide +kernel
  have f20 : (Cond.fieldLink RX7 20 RX7 (TX7 2).2.1 (TX7 2).2.2.1).before args s = true := C.2.2.2.2.1 _ (by decide +kernel)
  have f23 : (Cond.fieldLink RX7 23 RX7 (TX7 3).2.1 (TX7 3).2.2.1).before args s = true := C.2.2.2.2.1 _ (by decide +kernel)
  refine x_iconst C (0 : Int32) (by decide) dX7_lookForAncestors_0 ?_
  refine x_istore_n C [(1, .int (0 : Int32)), (0, ra V 69)] dX7_lookForAncestors_1 rfl (by decide) rfl ?_
  refine x_lv [1, 0] [(0, ra V 69), (1, .int (0 : Int32))] rfl ?_
  refine x_loop (fun μ σ_ lv_ => ∃ (k : Nat), μ = 8 - k ∧ upN laStep k σ = σ_ ∧ lv_ = [(0, ra V 69), (1, .int (nI k))] ∧ k ≤ 8) ⟨_, ⟨0, rfl, rfl, rfl, Nat.zero_le _⟩⟩ ?_
  rintro μ2 _ _ ⟨k, hμ2, rfl, rfl, hc2_0⟩ ih2
  refine x_iload_n C dX7_lookForAncestors_2 rfl 1 rfl ?_
  refine x_bipush C (8 : Int32) (by decide) dX7_lookForAncestors_3 ?_
  refine x_icmp_ge C 70 dX7_lookForAncestors_5 rfl (fun h1 => ?_) (fun h1 => ?_)
  · exact x_vret C hr hlk dX7_lookForAncestors_70 ⟨rfl, by rw [show k = 8 from Nat.le_antisymm hc2_0 (Nat.le_of_not_lt (fun hq => nI_ge hq (by decide) h1))]; rfl⟩
  · have hkn : k < 8 := Nat.lt_of_not_le (fun hq => h1 (nI_le hq (by omega)))
    refine x_iconst C (0 : Int32) (by decide) dX7_lookForAncestors_8 ?_
    refine x_istore_n C [(2, .int (0 : Int32)), (0, ra V 69), (1, .int (nI k))] dX7_lookForAncestors_9 rfl (by decide) rfl ?_
    refine x_aload_n C dX7_lookForAncestors_10 rfl 1 rfl ?_
    refine x_getr C sh_69 rfl iX7 2 (by decide) f20 (fun _ h => h) (by decide) rfl dX7_lookForAncestors_11 ?_
    refine x_iload_n C dX7_lookForAncestors_14 rfl 2 rfl ?_
    refine x_callV C sh_72 (by decide) rfl [.int (nI k)] (c_X5_at l V hV (upN laStep k σ) 72 73 8 sh_72 sh_73 (by decide) (nI k)) (cwV 1 C.2.2.2.2.1 gX7_lookForAncestors_X5_at rfl rfl rfl (by decide +kernel) ⟨Nat.le_of_ble_eq_true rfl, Nat.le_of_ble_eq_true rfl⟩) rfl rfl (Nat.le_of_ble_eq_true rfl) dX7_lookForAncestors_15 ⟨Nat.le_of_ble_eq_true rfl, Nat.le_of_ble_eq_true rfl⟩ (x_kI ?_)
    refine x_istore_n C [(3, .int (vAt 8 ((upN laStep k σ) 73) (nI k))), (2, .int (0 : Int32)), (0, ra V 69), (1, .int (nI k))] dX7_lookForAncestors_18 rfl (by decide) rfl ?_
    refine x_iconst C (0 : Int32) (by decide) dX7_lookForAncestors_19 ?_
    refine x_istore C [(4, .int (0 : Int32)), (3, .int (vAt 8 ((upN laStep k σ) 73) (nI k))), (2, .int (0 : Int32)), (0, ra V 69), (1, .int (nI k))] dX7_lookForAncestors_20 (by decide) rfl ?_
    refine x_lv [3, 4, 2, 1, 0] [(0, ra V 69), (1, .int (nI k)), (2, .int (0 : Int32)), (3, .int (vAt 8 ((upN laStep k σ) 73) (nI k))), (4, .int (0 : Int32))] rfl ?_
    refine x_loop (fun μ σ_ lv_ => ∃ (j : Nat) (s2 a2 : Int32), μ = 8 - j ∧ upN laStep k σ = σ_ ∧ lv_ = [(0, ra V 69), (1, .int (nI k)), (2, .int s2), (3, .int a2), (4, .int (nI j))] ∧ j ≤ 8 ∧ ancN (upN laStep k σ 73) (8 - j) s2 a2 = ancN (upN laStep k σ 73) 8 0 (vAt 8 (upN laStep k σ 73) (nI k))) ⟨_, ⟨0, _, _, rfl, rfl, rfl, Nat.zero_le _, rfl⟩⟩ ?_
    rintro μ22 _ _ ⟨j, s2, a2, hμ22, rfl, rfl, hc22_0, hc22_1⟩ ih22
    refine x_iload C dX7_lookForAncestors_22 4 rfl ?_
    refine x_bipush C (8 : Int32) (by decide) dX7_lookForAncestors_24 ?_
    refine x_icmp_ge C 55 dX7_lookForAncestors_26 rfl (fun h2 => ?_) (fun h2 => ?_)
    · have hin : s2 = ancN (upN laStep k σ 73) 8 0 (vAt 8 (upN laStep k σ 73) (nI k)) := by first | rw [← hc22_1, ancN_e h2] | rw [← hc22_1, show 8 - j = 0 by have := (nI_leI (a := 8) (b := j) (by decide) (by omega)).mp h2; omega]; rfl
      refine x_aload_n C dX7_lookForAncestors_55 rfl 0 rfl ?_
      refine x_getr C sh_69 rfl iX7 3 (by decide) f23 (fun _ h => h) (by decide) rfl dX7_lookForAncestors_56 ?_
      refine x_iload_n C dX7_lookForAncestors_59 rfl 1 rfl ?_
      refine x_iload_n C dX7_lookForAncestors_60 rfl 2 rfl ?_
      refine x_callV C sh_74 (by decide) rfl [.int (nI k), .int s2] (c_X5_put l V hV (upN laStep k σ) 74 75 8 sh_74 sh_75 (by decide) (nI k) s2) (cwV 2 C.2.2.2.2.1 gX7_lookForAncestors_X5_put rfl rfl rfl (by decide +kernel) ⟨Nat.le_of_ble_eq_true rfl, Nat.le_of_ble_eq_true rfl⟩) rfl rfl (Nat.le_of_ble_eq_true rfl) dX7_lookForAncestors_61 ⟨Nat.le_of_ble_eq_true rfl, Nat.le_of_ble_eq_true rfl⟩ (x_kV ?_)
      refine x_iinc C (q := 1) ((nI k) + (1 : Int32)) [(1, .int ((nI k) + (1 : Int32))), (0, ra V 69), (2, .int s2), (3, .int a2), (4, .int (nI j))] dX7_lookForAncestors_64 rfl rfl (by decide) rfl ?_
      refine x_goto C 2 dX7_lookForAncestors_67 rfl ?_
      refine x_lv [1, 0] [(0, ra V 69), (1, .int ((nI k) + (1 : Int32)))] rfl ?_
      exact ih2 _ _ _ (by omega) ⟨k + 1, rfl, Eq.symm (by rw [hin]; rfl), by rw [nI_succ], hkn⟩
    · have hjn : j < 8 := Nat.lt_of_not_le (fun hq => h2 (nI_le hq (by omega)))
      refine x_iload_n C dX7_lookForAncestors_29 rfl 3 rfl ?_
      refine x_iconst C (-1 : Int32) (by decide) dX7_lookForAncestors_30 ?_
      refine x_icmp_eq C 55 dX7_lookForAncestors_31 rfl (fun h3 => ?_) (fun h3 => ?_)
      · have hin : s2 = ancN (upN laStep k σ 73) 8 0 (vAt 8 (upN laStep k σ 73) (nI k)) := by first | rw [← hc22_1, ancN_e h3] | rw [← hc22_1, show 8 - j = 0 by have := (nI_leI (a := 8) (b := j) (by decide) (by omega)).mp h3; omega]; rfl
        refine x_aload_n C dX7_lookForAncestors_55 rfl 0 rfl ?_
        refine x_getr C sh_69 rfl iX7 3 (by decide) f23 (fun _ h => h) (by decide) rfl dX7_lookForAncestors_56 ?_
        refine x_iload_n C dX7_lookForAncestors_59 rfl 1 rfl ?_
        refine x_iload_n C dX7_lookForAncestors_60 rfl 2 rfl ?_
        refine x_callV C sh_74 (by decide) rfl [.int (nI k), .int s2] (c_X5_put l V hV (upN laStep k σ) 74 75 8 sh_74 sh_75 (by decide) (nI k) s2) (cwV 2 C.2.2.2.2.1 gX7_lookForAncestors_X5_put rfl rfl rfl (by decide +kernel) ⟨Nat.le_of_ble_eq_true rfl, Nat.le_of_ble_eq_true rfl⟩) rfl rfl (Nat.le_of_ble_eq_true rfl) dX7_lookForAncestors_61 ⟨Nat.le_of_ble_eq_true rfl, Nat.le_of_ble_eq_true rfl⟩ (x_kV ?_)
        refine x_iinc C (q := 1) ((nI k) + (1 : Int32)) [(1, .int ((nI k) + (1 : Int32))), (0, ra V 69), (2, .int s2), (3, .int a2), (4, .int (nI j))] dX7_lookForAncestors_64 rfl rfl (by decide) rfl ?_
        refine x_goto C 2 dX7_lookForAncestors_67 rfl ?_
        refine x_lv [1, 0] [(0, ra V 69), (1, .int ((nI k) + (1 : Int32)))] rfl ?_
        exact ih2 _ _ _ (by omega) ⟨k + 1, rfl, Eq.symm (by rw [hin]; rfl), by rw [nI_succ], hkn⟩
      · refine x_iload_n C dX7_lookForAncestors_34 rfl 2 rfl ?_
        refine x_iconst C (1 : Int32) (by decide) dX7_lookForAncestors_35 ?_
        refine x_iload_n C dX7_lookForAncestors_36 rfl 3 rfl ?_
        refine x_ishl C dX7_lookForAncestors_37 ?_
        refine x_ior C dX7_lookForAncestors_38 ?_
        refine x_istore_n C [(2, .int (s2 ||| ((1 : Int32) <<< (a2 &&& 31)))), (0, ra V 69), (1, .int (nI k)), (3, .int a2), (4, .int (nI j))] dX7_lookForAncestors_39 rfl (by decide) rfl ?_
        refine x_aload_n C dX7_lookForAncestors_40 rfl 1 rfl ?_
        refine x_getr C sh_69 rfl iX7 2 (by decide) f20 (fun _ h => h) (by decide) rfl dX7_lookForAncestors_41 ?_
        refine x_iload_n C dX7_lookForAncestors_44 rfl 3 rfl ?_
        refine x_callV C sh_72 (by decide) rfl [.int a2] (c_X5_at l V hV (upN laStep k σ) 72 73 8 sh_72 sh_73 (by decide) a2) (cwV 1 C.2.2.2.2.1 gX7_lookForAncestors_X5_at rfl rfl rfl (by decide +kernel) ⟨Nat.le_of_ble_eq_true rfl, Nat.le_of_ble_eq_true rfl⟩) rfl rfl (Nat.le_of_ble_eq_true rfl) dX7_lookForAncestors_45 ⟨Nat.le_of_ble_eq_true rfl, Nat.le_of_ble_eq_true rfl⟩ (x_kI ?_)
        refine x_istore_n C [(3, .int (vAt 8 ((upN laStep k σ) 73) a2)), (2, .int (s2 ||| ((1 : Int32) <<< (a2 &&& 31)))), (0, ra V 69), (1, .int (nI k)), (4, .int (nI j))] dX7_lookForAncestors_48 rfl (by decide) rfl ?_
        refine x_iinc C (q := 4) ((nI j) + (1 : Int32)) [(4, .int ((nI j) + (1 : Int32))), (3, .int (vAt 8 ((upN laStep k σ) 73) a2)), (2, .int (s2 ||| ((1 : Int32) <<< (a2 &&& 31)))), (0, ra V 69), (1, .int (nI k))] dX7_lookForAncestors_49 rfl rfl (by decide) rfl ?_
        refine x_goto C 22 dX7_lookForAncestors_52 rfl ?_
        refine x_lv [3, 4, 2, 1, 0] [(0, ra V 69), (1, .int (nI k)), (2, .int (s2 ||| ((1 : Int32) <<< (a2 &&& 31)))), (3, .int (vAt 8 ((upN laStep k σ) 73) a2)), (4, .int ((nI j) + (1 : Int32)))] rfl ?_
        exact ih22 _ _ _ (by omega) ⟨j + 1, _, _, rfl, rfl, by rw [nI_succ], (by omega), (by rw [← hc22_1, show 8 - j = (8 - (j + 1)) + 1 by omega, ancN_s h3])⟩

set_option maxHeartbeats 4000000 in
set_option maxRecDepth 100000 in
theorem c_X7_look (l : Launch) (V : xV) (hV : xInj V) (σ : xS) (c1 : Int32) (hz202 : okZ σ 202) (hz203 : okZ σ 203) : xM l yX7_look wsX7_look ({ frames := 5, cells := 0, slots := 0, locals := 110 }) V [ra V 69, .int c1] σ (rV (look σ c1)) := by
  refine xM_of (cc := cX7_look) (maxL := 3) (ret := none) [(0, ra V 69), (1, .int c1)] hV (by decide) rfl rfl (Nat.le_of_ble_eq_true rfl) (fun p e s m args below meth c C hr hlk => ?_)
  have iX7 : ∀ w ∈ u_ws RX7 TX7 8, w ∈ wsX7_look := by decide +kernel
  have f35 : (Cond.fieldLink RX7 35 RX7 (TX7 7).2.1 (TX7 7).2.2.1).before args s = true := C.2.2.2.2.1 _ (by decide +kernel)
  refine x_aload_n C dX7_look_0 rfl 0 rfl ?_
  refine x_iload_n C dX7_look_1 rfl 1 rfl ?_
  refine x_puti (ty := .int) C sh_69 rfl iX7 7 (by decide) f35 (fun _ h => h) (by decide) rfl (by decide +kernel) (by decide +kernel) (by decide) rfl tyX7 tyX7_ok nmX7 (by decide +kernel) rfl rfl dX7_look_2 ?_
  refine x_iconst C (0 : Int32) (by decide) dX7_look_5 ?_
  refine x_istore_n C [(2, .int (0 : Int32)), (0, ra V 69), (1, .int c1)] dX7_look_6 rfl (by decide) rfl ?_
  refine x_iload_n C dX7_look_7 rfl 0 rfl ?_
  refine x_iconst C (3 : Int32) (by decide) dX7_look_8 ?_
  refine x_icmp_gt C 23 dX7_look_9 rfl (fun h1 => absurd h1 (by decide)) (fun h1 => ?_)
  refine x_aload_n C dX7_look_12 rfl 1 rfl ?_
  refine x_iload_n C dX7_look_13 rfl 0 rfl ?_
  refine x_callV C sh_69 (by decide) rfl [.int (0 : Int32)] (c_X7_lookForElements_0 l V hV (xw σ 206 0 c1)) (cwV 1 C.2.2.2.2.1 gX7_look_X7_lookForElements rfl rfl rfl (by decide +kernel) ⟨Nat.le_of_ble_eq_true rfl, Nat.le_of_ble_eq_true rfl⟩) rfl rfl (Nat.le_of_ble_eq_true rfl) dX7_look_14 ⟨Nat.le_of_ble_eq_true rfl, Nat.le_of_ble_eq_true rfl⟩ (x_kV ?_)
  refine x_iinc C (q := 0) (1 : Int32) [(2, .int (1 : Int32)), (0, ra V 69), (1, .int c1)] dX7_look_17 rfl (by decide) (by decide) rfl ?_
  refine x_goto C 7 dX7_look_20 rfl ?_
  refine x_iload_n C dX7_look_7 rfl 0 rfl ?_
  refine x_iconst C (3 : Int32) (by decide) dX7_look_8 ?_
  refine x_icmp_gt C 23 dX7_look_9 rfl (fun h2 => absurd h2 (by decide)) (fun h2 => ?_)
  refine x_aload_n C dX7_look_12 rfl 1 rfl ?_
  refine x_iload_n C dX7_look_13 rfl 0 rfl ?_
  refine x_callV C sh_69 (by decide) rfl [.int (1 : Int32)] (c_X7_lookForElements_1 l V hV (lfe (xw σ 206 0 c1) (0 : Int32))) (cwV 1 C.2.2.2.2.1 gX7_look_X7_lookForElements rfl rfl rfl (by decide +kernel) ⟨Nat.le_of_ble_eq_true rfl, Nat.le_of_ble_eq_true rfl⟩) rfl rfl (Nat.le_of_ble_eq_true rfl) dX7_look_14 ⟨Nat.le_of_ble_eq_true rfl, Nat.le_of_ble_eq_true rfl⟩ (x_kV ?_)
  refine x_iinc C (q := 0) (2 : Int32) [(2, .int (2 : Int32)), (0, ra V 69), (1, .int c1)] dX7_look_17 rfl (by decide) (by decide) rfl ?_
  refine x_goto C 7 dX7_look_20 rfl ?_
  refine x_iload_n C dX7_look_7 rfl 0 rfl ?_
  refine x_iconst C (3 : Int32) (by decide) dX7_look_8 ?_
  refine x_icmp_gt C 23 dX7_look_9 rfl (fun h3 => absurd h3 (by decide)) (fun h3 => ?_)
  refine x_aload_n C dX7_look_12 rfl 1 rfl ?_
  refine x_iload_n C dX7_look_13 rfl 0 rfl ?_
  refine x_callV C sh_69 (by decide) rfl [.int (2 : Int32)] (c_X7_lookForElements_2 l V hV (lfe (lfe (xw σ 206 0 c1) (0 : Int32)) (1 : Int32))) (cwV 1 C.2.2.2.2.1 gX7_look_X7_lookForElements rfl rfl rfl (by decide +kernel) ⟨Nat.le_of_ble_eq_true rfl, Nat.le_of_ble_eq_true rfl⟩) rfl rfl (Nat.le_of_ble_eq_true rfl) dX7_look_14 ⟨Nat.le_of_ble_eq_true rfl, Nat.le_of_ble_eq_true rfl⟩ (x_kV ?_)
  refine x_iinc C (q := 0) (3 : Int32) [(2, .int (3 : Int32)), (0, ra V 69), (1, .int c1)] dX7_look_17 rfl (by decide) (by decide) rfl ?_
  refine x_goto C 7 dX7_look_20 rfl ?_
  refine x_iload_n C dX7_look_7 rfl 0 rfl ?_
  refine x_iconst C (3 : Int32) (by decide) dX7_look_8 ?_
  refine x_icmp_gt C 23 dX7_look_9 rfl (fun h4 => absurd h4 (by decide)) (fun h4 => ?_)
  refine x_aload_n C dX7_look_12 rfl 1 rfl ?_
  refine x_iload_n C dX7_look_13 rfl 0 rfl ?_
  refine x_callV C sh_69 (by decide) rfl [.int (3 : Int32)] (c_X7_lookForElements_3 l V hV (lfe (lfe (lfe (xw σ 206 0 c1) (0 : Int32)) (1 : Int32)) (2 : Int32))) (cwV 1 C.2.2.2.2.1 gX7_look_X7_lookForElements rfl rfl rfl (by decide +kernel) ⟨Nat.le_of_ble_eq_true rfl, Nat.le_of_ble_eq_true rfl⟩) rfl rfl (Nat.le_of_ble_eq_true rfl) dX7_look_14 ⟨Nat.le_of_ble_eq_true rfl, Nat.le_of_ble_eq_true rfl⟩ (x_kV ?_)
  refine x_iinc C (q := 0) (4 : Int32) [(2, .int (4 : Int32)), (0, ra V 69), (1, .int c1)] dX7_look_17 rfl (by decide) (by decide) rfl ?_
  refine x_goto C 7 dX7_look_20 rfl ?_
  refine x_iload_n C dX7_look_7 rfl 0 rfl ?_
  refine x_iconst C (3 : Int32) (by decide) dX7_look_8 ?_
  refine x_icmp_gt C 23 dX7_look_9 rfl (fun h5 => ?_) (fun h5 => absurd h5 (by decide))
  refine x_aload_n C dX7_look_23 rfl 1 rfl ?_
  refine x_callV C sh_69 (by decide) rfl [] (c_X7_lookForParents l V hV (lfe (lfe (lfe (lfe (xw σ 206 0 c1) (0 : Int32)) (1 : Int32)) (2 : Int32)) (3 : Int32))  (okZ_of (by simp [lfe_keep, lfp_keep, lfa_keep, lfm_keep, gts_keep, vPut_ne, vFill_ne, xw_ne]) hz202)) (cwV 0 C.2.2.2.2.1 gX7_look_X7_lookForParents rfl rfl rfl (by decide +kernel) ⟨Nat.le_of_ble_eq_true rfl, Nat.le_of_ble_eq_true rfl⟩) rfl rfl (Nat.le_of_ble_eq_true rfl) dX7_look_24 ⟨Nat.le_of_ble_eq_true rfl, Nat.le_of_ble_eq_true rfl⟩ (x_kV ?_)
  refine x_aload_n C dX7_look_27 rfl 1 rfl ?_
  refine x_callV C sh_69 (by decide) rfl [] (c_X7_lookForAncestors l V hV (lfp (lfe (lfe (lfe (lfe (xw σ 206 0 c1) (0 : Int32)) (1 : Int32)) (2 : Int32)) (3 : Int32))) ) (cwV 0 C.2.2.2.2.1 gX7_look_X7_lookForAncestors rfl rfl rfl (by decide +kernel) ⟨Nat.le_of_ble_eq_true rfl, Nat.le_of_ble_eq_true rfl⟩) rfl rfl (Nat.le_of_ble_eq_true rfl) dX7_look_28 ⟨Nat.le_of_ble_eq_true rfl, Nat.le_of_ble_eq_true rfl⟩ (x_kV ?_)
  refine x_aload_n C dX7_look_31 rfl 1 rfl ?_
  refine x_callV C sh_69 (by decide) rfl [] (c_X7_lookForFirstMembers l V hV (lfa (lfp (lfe (lfe (lfe (lfe (xw σ 206 0 c1) (0 : Int32)) (1 : Int32)) (2 : Int32)) (3 : Int32))))  (okZ_of (by simp [lfe_keep, lfp_keep, lfa_keep, lfm_keep, gts_keep, vPut_ne, vFill_ne, xw_ne]) hz203)) (cwV 0 C.2.2.2.2.1 gX7_look_X7_lookForFirstMembers rfl rfl rfl (by decide +kernel) ⟨Nat.le_of_ble_eq_true rfl, Nat.le_of_ble_eq_true rfl⟩) rfl rfl (Nat.le_of_ble_eq_true rfl) dX7_look_32 ⟨Nat.le_of_ble_eq_true rfl, Nat.le_of_ble_eq_true rfl⟩ (x_kV ?_)
  exact x_vret C hr hlk dX7_look_35 ⟨rfl, rfl⟩

set_option maxHeartbeats 4000000 in
set_option maxRecDepth 100000 in
theorem c_X7_parentOf (l : Launch) (V : xV) (hV : xInj V) (σ : xS) (i : Int32)  : xM l yX7_parentOf wsX7_parentOf ({ frames := 1, cells := 0, slots := 0, locals := 21 }) V [ra V 69, .int i] σ (rI (vAt 8 (σ 73) i) σ) := by
  refine xM_of (cc := cX7_parentOf) (maxL := 2) (ret := (some .int)) [(0, ra V 69), (1, .int i)] hV (by decide) rfl rfl (Nat.le_of_ble_eq_true rfl) (fun p e s m args below meth c C hr hlk => ?_)
  have iX7 : ∀ w ∈ u_ws RX7 TX7 8, w ∈ wsX7_parentOf := by decide +kernel
  have f20 : (Cond.fieldLink RX7 20 RX7 (TX7 2).2.1 (TX7 2).2.2.1).before args s = true := C.2.2.2.2.1 _ (by decide +kernel)
  refine x_aload_n C dX7_parentOf_0 rfl 0 rfl ?_
  refine x_getr C sh_69 rfl iX7 2 (by decide) f20 (fun _ h => h) (by decide) rfl dX7_parentOf_1 ?_
  refine x_iload_n C dX7_parentOf_4 rfl 1 rfl ?_
  refine x_callV C sh_72 (by decide) rfl [.int i] (c_X5_at l V hV σ 72 73 8 sh_72 sh_73 (by decide) i) (cwV 1 C.2.2.2.2.1 gX7_parentOf_X5_at rfl rfl rfl (by decide +kernel) ⟨Nat.le_of_ble_eq_true rfl, Nat.le_of_ble_eq_true rfl⟩) rfl rfl (Nat.le_of_ble_eq_true rfl) dX7_parentOf_5 ⟨Nat.le_of_ble_eq_true rfl, Nat.le_of_ble_eq_true rfl⟩ (x_kI ?_)
  exact x_iret C hr hlk dX7_parentOf_8 ⟨rfl, rfl⟩

set_option maxHeartbeats 4000000 in
set_option maxRecDepth 100000 in
theorem c_X7_isUnder (l : Launch) (V : xV) (hV : xInj V) (σ : xS) (a b : Int32)  : xM l yX7_isUnder wsX7_isUnder ({ frames := 1, cells := 0, slots := 0, locals := 21 }) V [ra V 69, .int a, .int b] σ (rI (bI (isUnB σ a b)) σ) := by
  refine xM_of (cc := cX7_isUnder) (maxL := 3) (ret := (some .boolean)) [(0, ra V 69), (1, .int a), (2, .int b)] hV (by decide) rfl rfl (Nat.le_of_ble_eq_true rfl) (fun p e s m args below meth c C hr hlk => ?_)
  have iX7 : ∀ w ∈ u_ws RX7 TX7 8, w ∈ wsX7_isUnder := by decide +kernel
  have f23 : (Cond.fieldLink RX7 23 RX7 (TX7 3).2.1 (TX7 3).2.2.1).before args s = true := C.2.2.2.2.1 _ (by decide +kernel)
  refine x_aload_n C dX7_isUnder_0 rfl 0 rfl ?_
  refine x_getr C sh_69 rfl iX7 3 (by decide) f23 (fun _ h => h) (by decide) rfl dX7_isUnder_1 ?_
  refine x_iload_n C dX7_isUnder_4 rfl 1 rfl ?_
  refine x_callV C sh_74 (by decide) rfl [.int a] (c_X5_at l V hV σ 74 75 8 sh_74 sh_75 (by decide) a) (cwV 1 C.2.2.2.2.1 gX7_isUnder_X5_at rfl rfl rfl (by decide +kernel) ⟨Nat.le_of_ble_eq_true rfl, Nat.le_of_ble_eq_true rfl⟩) rfl rfl (Nat.le_of_ble_eq_true rfl) dX7_isUnder_5 ⟨Nat.le_of_ble_eq_true rfl, Nat.le_of_ble_eq_true rfl⟩ (x_kI ?_)
  refine x_iload_n C dX7_isUnder_8 rfl 2 rfl ?_
  refine x_callSN (host := RX8) C [.int (vAt 8 (σ 75) a), .int b] (c_X8_isIn l V hV σ (vAt 8 (σ 75) a) b) (⟨va_cnB 2 C.2.2.2.2.1 gX7_isUnder_X8_isIn_n65 rfl rfl rfl (C.2.2.2.2.2.1.2 _ (by decide +kernel)) (C.2.2.2.2.1 _ (by decide +kernel)) (by decide +kernel) ⟨Nat.le_of_ble_eq_true rfl, Nat.le_of_ble_eq_true rfl⟩, C.2.2.2.2.1 _ (by decide +kernel), trivial⟩) rfl rfl (Nat.le_of_ble_eq_true rfl) dX7_isUnder_9 ⟨Nat.le_of_ble_eq_true rfl, Nat.le_of_ble_eq_true rfl⟩ (x_kI ?_)
  exact x_zret C (isInB (vAt 8 (σ 75) a) b) rfl hr hlk dX7_isUnder_12 ⟨rfl, rfl⟩

set_option maxHeartbeats 4000000 in
set_option maxRecDepth 100000 in
theorem c_X7_isRepeated (l : Launch) (V : xV) (hV : xInj V) (σ : xS) (i : Int32)  : xM l yX7_isRepeated wsX7_isRepeated ({ frames := 2, cells := 0, slots := 0, locals := 42 }) V [ra V 69, .int i] σ (rI (bI (isRep σ i)) σ) := by
  refine xM_of (cc := cX7_isRepeated) (maxL := 2) (ret := (some .boolean)) [(0, ra V 69), (1, .int i)] hV (by decide) rfl rfl (Nat.le_of_ble_eq_true rfl) (fun p e s m args below meth c C hr hlk => ?_)
  have iX7 : ∀ w ∈ u_ws RX7 TX7 8, w ∈ wsX7_isRepeated := by decide +kernel
  have f26 : (Cond.fieldLink RX7 26 RX7 (TX7 4).2.1 (TX7 4).2.2.1).before args s = true := C.2.2.2.2.1 _ (by decide +kernel)
  have f39 : (Cond.fieldLink RX7 39 RX7 (TX7 0).2.1 (TX7 0).2.2.1).before args s = true := C.2.2.2.2.1 _ (by decide +kernel)
  have iX4 : ∀ w ∈ u_ws RX4 TX4 8, w ∈ wsX7_isRepeated := by decide +kernel
  have f97 : (Cond.fieldLink RX7 97 RX4 (TX4 4).2.1 (TX4 4).2.2.1).before args s = true := C.2.2.2.2.1 _ (by decide +kernel)
  refine x_iload_n C dX7_isRepeated_0 rfl 1 rfl ?_
  refine x_aload_n C dX7_isRepeated_1 rfl 0 rfl ?_
  refine x_getr C sh_69 rfl iX7 4 (by decide) f26 (fun _ h => h) (by decide) rfl dX7_isRepeated_2 ?_
  refine x_aload_n C dX7_isRepeated_5 rfl 0 rfl ?_
  refine x_getr C sh_69 rfl iX7 0 (by decide) f39 (fun _ h => h) (by decide) rfl dX7_isRepeated_6 ?_
  refine x_getr C sh_8 rfl iX4 4 (by decide) f97 (fun _ h => h) (by decide) rfl dX7_isRepeated_9 ?_
  refine x_iload_n C dX7_isRepeated_12 rfl 1 rfl ?_
  refine x_callV C sh_27 (by decide) rfl [.int i] (c_X3_owner l V hV σ i) (cwV 1 C.2.2.2.2.1 gX7_isRepeated_X3_owner rfl rfl rfl (by decide +kernel) ⟨Nat.le_of_ble_eq_true rfl, Nat.le_of_ble_eq_true rfl⟩) rfl rfl (Nat.le_of_ble_eq_true rfl) dX7_isRepeated_13 ⟨Nat.le_of_ble_eq_true rfl, Nat.le_of_ble_eq_true rfl⟩ (x_kI ?_)
  refine x_aload_n C dX7_isRepeated_16 rfl 0 rfl ?_
  refine x_getr C sh_69 rfl iX7 0 (by decide) f39 (fun _ h => h) (by decide) rfl dX7_isRepeated_17 ?_
  refine x_getr C sh_8 rfl iX4 4 (by decide) f97 (fun _ h => h) (by decide) rfl dX7_isRepeated_20 ?_
  refine x_iload_n C dX7_isRepeated_23 rfl 1 rfl ?_
  refine x_callV C sh_27 (by decide) rfl [.int i] (c_X3_name l V hV σ i) (cwV 1 C.2.2.2.2.1 gX7_isRepeated_X3_name rfl rfl rfl (by decide +kernel) ⟨Nat.le_of_ble_eq_true rfl, Nat.le_of_ble_eq_true rfl⟩) rfl rfl (Nat.le_of_ble_eq_true rfl) dX7_isRepeated_24 ⟨Nat.le_of_ble_eq_true rfl, Nat.le_of_ble_eq_true rfl⟩ (x_kI ?_)
  refine x_aload_n C dX7_isRepeated_27 rfl 0 rfl ?_
  refine x_getr C sh_69 rfl iX7 0 (by decide) f39 (fun _ h => h) (by decide) rfl dX7_isRepeated_28 ?_
  refine x_getr C sh_8 rfl iX4 4 (by decide) f97 (fun _ h => h) (by decide) rfl dX7_isRepeated_31 ?_
  refine x_iload_n C dX7_isRepeated_34 rfl 1 rfl ?_
  refine x_callV C sh_27 (by decide) rfl [.int i] (c_X3_sort l V hV σ i) (cwV 1 C.2.2.2.2.1 gX7_isRepeated_X3_sort rfl rfl rfl (by decide +kernel) ⟨Nat.le_of_ble_eq_true rfl, Nat.le_of_ble_eq_true rfl⟩) rfl rfl (Nat.le_of_ble_eq_true rfl) dX7_isRepeated_35 ⟨Nat.le_of_ble_eq_true rfl, Nat.le_of_ble_eq_true rfl⟩ (x_kI ?_)
  refine x_callS C [.int (vAt 24 (σ 38) i), .int (vAt 24 (σ 40) i), .int (vAt 24 (σ 36) i)] (c_X7_placeOf l V hV σ (vAt 24 (σ 38) i) (vAt 24 (σ 40) i) (vAt 24 (σ 36) i)) (va_cwS 3 C.2.2.2.2.1 gX7_isRepeated_X7_placeOf rfl rfl rfl (by decide +kernel) ⟨Nat.le_of_ble_eq_true rfl, Nat.le_of_ble_eq_true rfl⟩) rfl rfl (Nat.le_of_ble_eq_true rfl) dX7_isRepeated_38 ⟨Nat.le_of_ble_eq_true rfl, Nat.le_of_ble_eq_true rfl⟩ (x_kI ?_)
  refine x_callV C sh_76 (by decide) rfl [.int (plc (vAt 24 (σ 38) i) (vAt 24 (σ 40) i) (vAt 24 (σ 36) i))] (c_X5_at l V hV σ 76 77 160 sh_76 sh_77 (by decide) (plc (vAt 24 (σ 38) i) (vAt 24 (σ 40) i) (vAt 24 (σ 36) i))) (cwV 1 C.2.2.2.2.1 gX7_isRepeated_X5_at rfl rfl rfl (by decide +kernel) ⟨Nat.le_of_ble_eq_true rfl, Nat.le_of_ble_eq_true rfl⟩) rfl rfl (Nat.le_of_ble_eq_true rfl) dX7_isRepeated_41 ⟨Nat.le_of_ble_eq_true rfl, Nat.le_of_ble_eq_true rfl⟩ (x_kI ?_)
  refine x_icmp_eq C 51 dX7_isRepeated_44 rfl (fun h1 => ?_) (fun h1 => ?_)
  · refine x_iconst C (0 : Int32) (by decide) dX7_isRepeated_51 ?_
    exact x_zret C false rfl hr hlk dX7_isRepeated_52 ⟨by unfold isRep; first | rw [decide_eq_true h1]; rfl | rw [decide_eq_false h1]; rfl, rfl⟩
  · refine x_iconst C (1 : Int32) (by decide) dX7_isRepeated_47 ?_
    refine x_goto C 52 dX7_isRepeated_48 rfl ?_
    exact x_zret C true rfl hr hlk dX7_isRepeated_52 ⟨by unfold isRep; first | rw [decide_eq_true h1]; rfl | rw [decide_eq_false h1]; rfl, rfl⟩

set_option maxHeartbeats 4000000 in
set_option maxRecDepth 100000 in
theorem c_X7_lookUp (l : Launch) (V : xV) (hV : xInj V) (σ : xS) (o n t : Int32)  : xM l yX7_lookUp wsX7_lookUp ({ frames := 1, cells := 0, slots := 0, locals := 22 }) V [ra V 69, .int o, .int n, .int t] σ (rI (lookU σ o n t) σ) := by
  refine xM_of (cc := cX7_lookUp) (maxL := 7) (ret := (some .int)) [(0, ra V 69), (1, .int o), (2, .int n), (3, .int t)] hV (by decide) rfl rfl (Nat.le_of_ble_eq_true rfl) (fun p e s m args below meth c C hr hlk => ?_)
  have iX7 : ∀ w ∈ u_ws RX7 TX7 8, w ∈ wsX7_lookUp := by decide +kernel
  have f26 : (Cond.fieldLink RX7 26 RX7 (TX7 4).2.1 (TX7 4).2.2.1).before args s = true := C.2.2.2.2.1 _ (by decide +kernel)
  have f20 : (Cond.fieldLink RX7 20 RX7 (TX7 2).2.1 (TX7 2).2.2.1).before args s = true := C.2.2.2.2.1 _ (by decide +kernel)
  refine x_iload_n C dX7_lookUp_0 rfl 1 rfl ?_
  refine x_istore C [(4, .int o), (0, ra V 69), (1, .int o), (2, .int n), (3, .int t)] dX7_lookUp_1 (by decide) rfl ?_
  refine x_iconst C (0 : Int32) (by decide) dX7_lookUp_3 ?_
  refine x_istore C [(5, .int (0 : Int32)), (4, .int o), (0, ra V 69), (1, .int o), (2, .int n), (3, .int t)] dX7_lookUp_4 (by decide) rfl ?_
  refine x_lv [2, 3, 4, 5, 1, 0] [(0, ra V 69), (1, .int o), (2, .int n), (3, .int t), (4, .int o), (5, .int (0 : Int32))] rfl ?_
  refine x_loop (fun μ σ_ lv_ => ∃ (j : Nat) (a2 : Int32), μ = 8 - j ∧ σ = σ_ ∧ lv_ = [(0, ra V 69), (1, .int o), (2, .int n), (3, .int t), (4, .int a2), (5, .int (nI j))] ∧ j ≤ 8 ∧ lookN σ n t (8 - j) a2 = lookU σ o n t) ⟨_, ⟨0, _, rfl, rfl, rfl, Nat.zero_le _, rfl⟩⟩ ?_
  rintro μ6 _ _ ⟨j, a2, hμ6, rfl, rfl, hc6_0, hc6_1⟩ ih6
  refine x_iload C dX7_lookUp_6 5 rfl ?_
  refine x_bipush C (8 : Int32) (by decide) dX7_lookUp_8 ?_
  refine x_icmp_ge C 61 dX7_lookUp_10 rfl (fun h1 => ?_) (fun h1 => ?_)
  · refine x_iconst C (-1 : Int32) (by decide) dX7_lookUp_61 ?_
    exact x_iret C hr hlk dX7_lookUp_62 ⟨by rw [← hc6_1, show 8 - j = 0 by have := (nI_leI (a := 8) (b := j) (by decide) (by omega)).mp h1; omega]; rfl, rfl⟩
  · have hjn : j < 8 := Nat.lt_of_not_le (fun hq => h1 (nI_le hq (by omega)))
    refine x_iload C dX7_lookUp_13 4 rfl ?_
    refine x_iconst C (-1 : Int32) (by decide) dX7_lookUp_15 ?_
    refine x_icmp_eq C 61 dX7_lookUp_16 rfl (fun h2 => ?_) (fun h2 => ?_)
    · refine x_iconst C (-1 : Int32) (by decide) dX7_lookUp_61 ?_
      exact x_iret C hr hlk dX7_lookUp_62 ⟨by rw [← hc6_1, lookN_e h2], rfl⟩
    · refine x_aload_n C dX7_lookUp_19 rfl 0 rfl ?_
      refine x_getr C sh_69 rfl iX7 4 (by decide) f26 (fun _ h => h) (by decide) rfl dX7_lookUp_20 ?_
      refine x_iload C dX7_lookUp_23 4 rfl ?_
      refine x_iload_n C dX7_lookUp_25 rfl 2 rfl ?_
      refine x_iload_n C dX7_lookUp_26 rfl 3 rfl ?_
      refine x_callS C [.int a2, .int n, .int t] (c_X7_placeOf l V hV σ a2 n t) (va_cwS 3 C.2.2.2.2.1 gX7_lookUp_X7_placeOf rfl rfl rfl (by decide +kernel) ⟨Nat.le_of_ble_eq_true rfl, Nat.le_of_ble_eq_true rfl⟩) rfl rfl (Nat.le_of_ble_eq_true rfl) dX7_lookUp_27 ⟨Nat.le_of_ble_eq_true rfl, Nat.le_of_ble_eq_true rfl⟩ (x_kI ?_)
      refine x_callV C sh_76 (by decide) rfl [.int (plc a2 n t)] (c_X5_at l V hV σ 76 77 160 sh_76 sh_77 (by decide) (plc a2 n t)) (cwV 1 C.2.2.2.2.1 gX7_lookUp_X5_at rfl rfl rfl (by decide +kernel) ⟨Nat.le_of_ble_eq_true rfl, Nat.le_of_ble_eq_true rfl⟩) rfl rfl (Nat.le_of_ble_eq_true rfl) dX7_lookUp_30 ⟨Nat.le_of_ble_eq_true rfl, Nat.le_of_ble_eq_true rfl⟩ (x_kI ?_)
      refine x_istore C [(6, .int (vAt 160 (σ 77) (plc a2 n t))), (0, ra V 69), (1, .int o), (2, .int n), (3, .int t), (4, .int a2), (5, .int (nI j))] dX7_lookUp_33 (by decide) rfl ?_
      refine x_iload C dX7_lookUp_35 0 rfl ?_
      refine x_iconst C (-1 : Int32) (by decide) dX7_lookUp_37 ?_
      refine x_icmp_eq C 44 dX7_lookUp_38 rfl (fun h3 => ?_) (fun h3 => ?_)
      · refine x_aload_n C dX7_lookUp_44 rfl 1 rfl ?_
        refine x_getr C sh_69 rfl iX7 2 (by decide) f20 (fun _ h => h) (by decide) rfl dX7_lookUp_45 ?_
        refine x_iload C dX7_lookUp_48 5 rfl ?_
        refine x_callV C sh_72 (by decide) rfl [.int a2] (c_X5_at l V hV σ 72 73 8 sh_72 sh_73 (by decide) a2) (cwV 1 C.2.2.2.2.1 gX7_lookUp_X5_at rfl rfl rfl (by decide +kernel) ⟨Nat.le_of_ble_eq_true rfl, Nat.le_of_ble_eq_true rfl⟩) rfl rfl (Nat.le_of_ble_eq_true rfl) dX7_lookUp_50 ⟨Nat.le_of_ble_eq_true rfl, Nat.le_of_ble_eq_true rfl⟩ (x_kI ?_)
        refine x_istore C [(4, .int (vAt 8 (σ 73) a2)), (6, .int (vAt 160 (σ 77) (plc a2 n t))), (0, ra V 69), (1, .int o), (2, .int n), (3, .int t), (5, .int (nI j))] dX7_lookUp_53 (by decide) rfl ?_
        refine x_iinc C (q := 6) ((nI j) + (1 : Int32)) [(5, .int ((nI j) + (1 : Int32))), (4, .int (vAt 8 (σ 73) a2)), (6, .int (vAt 160 (σ 77) (plc a2 n t))), (0, ra V 69), (1, .int o), (2, .int n), (3, .int t)] dX7_lookUp_55 rfl rfl (by decide) rfl ?_
        refine x_goto C 6 dX7_lookUp_58 rfl ?_
        refine x_lv [3, 4, 5, 6, 1, 0] [(0, ra V 69), (1, .int o), (2, .int n), (3, .int t), (4, .int (vAt 8 (σ 73) a2)), (5, .int ((nI j) + (1 : Int32)))] rfl ?_
        exact ih6 _ _ _ (by omega) ⟨j + 1, _, rfl, rfl, by rw [nI_succ], (by omega), (by rw [← hc6_1, show 8 - j = (8 - (j + 1)) + 1 by omega, lookN, if_neg h2, if_pos h3])⟩
      · refine x_iload C dX7_lookUp_41 0 rfl ?_
        exact x_iret C hr hlk dX7_lookUp_43 ⟨by rw [← hc6_1, show 8 - j = (8 - (j + 1)) + 1 by omega, lookN, if_neg h2, if_neg h3], rfl⟩

set_option maxHeartbeats 4000000 in
set_option maxRecDepth 100000 in
theorem c_X7_fits (l : Launch) (V : xV) (hV : xInj V) (σ : xS) (t o : Int32)  : xM l yX7_fits wsX7_fits ({ frames := 1, cells := 0, slots := 0, locals := 21 }) V [ra V 69, .int t, .int o] σ (rI (bI (fitB σ t o)) σ) := by
  refine xM_of (cc := cX7_fits) (maxL := 3) (ret := (some .boolean)) [(0, ra V 69), (1, .int t), (2, .int o)] hV (by decide) rfl rfl (Nat.le_of_ble_eq_true rfl) (fun p e s m args below meth c C hr hlk => ?_)
  have iX7 : ∀ w ∈ u_ws RX7 TX7 8, w ∈ wsX7_fits := by decide +kernel
  have f23 : (Cond.fieldLink RX7 23 RX7 (TX7 3).2.1 (TX7 3).2.2.1).before args s = true := C.2.2.2.2.1 _ (by decide +kernel)
  refine x_iload_n C dX7_fits_0 rfl 1 rfl ?_
  refine x_iload_n C dX7_fits_1 rfl 2 rfl ?_
  refine x_icmp_eq C 32 dX7_fits_2 rfl (fun h1 => ?_) (fun h1 => ?_)
  · refine x_iconst C (1 : Int32) (by decide) dX7_fits_32 ?_
    refine x_goto C 37 dX7_fits_33 rfl ?_
    exact x_zret C true rfl hr hlk dX7_fits_37 ⟨by simp [fitB, isUnB, eq_true h1], rfl⟩
  · refine x_iload_n C dX7_fits_5 rfl 1 rfl ?_
    refine x_bipush C (8 : Int32) (by decide) dX7_fits_6 ?_
    refine x_icmp_eq C 36 dX7_fits_8 rfl (fun h2 => ?_) (fun h2 => ?_)
    · refine x_iconst C (0 : Int32) (by decide) dX7_fits_36 ?_
      exact x_zret C false rfl hr hlk dX7_fits_37 ⟨by simp [fitB, isUnB, h1, eq_true h2], rfl⟩
    · refine x_iload_n C dX7_fits_11 rfl 2 rfl ?_
      refine x_bipush C (8 : Int32) (by decide) dX7_fits_12 ?_
      refine x_icmp_eq C 36 dX7_fits_14 rfl (fun h3 => ?_) (fun h3 => ?_)
      · refine x_iconst C (0 : Int32) (by decide) dX7_fits_36 ?_
        exact x_zret C false rfl hr hlk dX7_fits_37 ⟨by simp [fitB, isUnB, h1, h2, eq_true h3], rfl⟩
      · refine x_aload_n C dX7_fits_17 rfl 0 rfl ?_
        refine x_getr C sh_69 rfl iX7 3 (by decide) f23 (fun _ h => h) (by decide) rfl dX7_fits_18 ?_
        refine x_iload_n C dX7_fits_21 rfl 1 rfl ?_
        refine x_callV C sh_74 (by decide) rfl [.int t] (c_X5_at l V hV σ 74 75 8 sh_74 sh_75 (by decide) t) (cwV 1 C.2.2.2.2.1 gX7_fits_X5_at rfl rfl rfl (by decide +kernel) ⟨Nat.le_of_ble_eq_true rfl, Nat.le_of_ble_eq_true rfl⟩) rfl rfl (Nat.le_of_ble_eq_true rfl) dX7_fits_22 ⟨Nat.le_of_ble_eq_true rfl, Nat.le_of_ble_eq_true rfl⟩ (x_kI ?_)
        refine x_iload_n C dX7_fits_25 rfl 2 rfl ?_
        refine x_callSN (host := RX8) C [.int (vAt 8 (σ 75) t), .int o] (c_X8_isIn l V hV σ (vAt 8 (σ 75) t) o) (⟨va_cnB 2 C.2.2.2.2.1 gX7_fits_X8_isIn_n65 rfl rfl rfl (C.2.2.2.2.2.1.2 _ (by decide +kernel)) (C.2.2.2.2.1 _ (by decide +kernel)) (by decide +kernel) ⟨Nat.le_of_ble_eq_true rfl, Nat.le_of_ble_eq_true rfl⟩, C.2.2.2.2.1 _ (by decide +kernel), trivial⟩) rfl rfl (Nat.le_of_ble_eq_true rfl) dX7_fits_26 ⟨Nat.le_of_ble_eq_true rfl, Nat.le_of_ble_eq_true rfl⟩ (x_kI ?_)
        refine x_bif_eq C 36 dX7_fits_29 rfl (fun h4 => ?_) (fun h4 => ?_)
        · refine x_iconst C (0 : Int32) (by decide) dX7_fits_36 ?_
          exact x_zret C false rfl hr hlk dX7_fits_37 ⟨by simp [fitB, isUnB, h1, h2, h3, h4], rfl⟩
        · refine x_iconst C (1 : Int32) (by decide) dX7_fits_32 ?_
          refine x_goto C 37 dX7_fits_33 rfl ?_
          exact x_zret C true rfl hr hlk dX7_fits_37 ⟨by simp [fitB, isUnB, h1, h2, h3, h4], rfl⟩

set_option maxHeartbeats 4000000 in
set_option maxRecDepth 100000 in
theorem c_X7_isMissing (l : Launch) (V : xV) (hV : xInj V) (σ : xS) (t : Int32)  : xM l yX7_isMissing wsX7_isMissing ({ frames := 2, cells := 0, slots := 0, locals := 43 }) V [ra V 69, .int t] σ (rI (bI (missB σ t)) σ) := by
  refine xM_of (cc := cX7_isMissing) (maxL := 2) (ret := (some .boolean)) [(0, ra V 69), (1, .int t)] hV (by decide) rfl rfl (Nat.le_of_ble_eq_true rfl) (fun p e s m args below meth c C hr hlk => ?_)
  refine x_iload_n C dX7_isMissing_0 rfl 1 rfl ?_
  refine x_iconst C (-1 : Int32) (by decide) dX7_isMissing_1 ?_
  refine x_icmp_eq C 24 dX7_isMissing_2 rfl (fun h1 => ?_) (fun h1 => ?_)
  · refine x_iconst C (0 : Int32) (by decide) dX7_isMissing_24 ?_
    exact x_zret C false rfl hr hlk dX7_isMissing_25 ⟨by simp [missB, eq_true h1], rfl⟩
  · refine x_iload_n C dX7_isMissing_5 rfl 1 rfl ?_
    refine x_bipush C (8 : Int32) (by decide) dX7_isMissing_6 ?_
    refine x_icmp_eq C 24 dX7_isMissing_8 rfl (fun h2 => ?_) (fun h2 => ?_)
    · refine x_iconst C (0 : Int32) (by decide) dX7_isMissing_24 ?_
      exact x_zret C false rfl hr hlk dX7_isMissing_25 ⟨by simp [missB, h1, eq_true h2], rfl⟩
    · refine x_aload_n C dX7_isMissing_11 rfl 0 rfl ?_
      refine x_iconst C (0 : Int32) (by decide) dX7_isMissing_12 ?_
      refine x_iload_n C dX7_isMissing_13 rfl 1 rfl ?_
      refine x_callV C sh_69 (by decide) rfl [.int (0 : Int32), .int t] (c_X7_isThere l V hV σ (0 : Int32) t) (cwV 2 C.2.2.2.2.1 gX7_isMissing_X7_isThere rfl rfl rfl (by decide +kernel) ⟨Nat.le_of_ble_eq_true rfl, Nat.le_of_ble_eq_true rfl⟩) rfl rfl (Nat.le_of_ble_eq_true rfl) dX7_isMissing_14 ⟨Nat.le_of_ble_eq_true rfl, Nat.le_of_ble_eq_true rfl⟩ (x_kI ?_)
      refine x_bif_ne C 24 dX7_isMissing_17 rfl (fun h3 => ?_) (fun h3 => ?_)
      · refine x_iconst C (0 : Int32) (by decide) dX7_isMissing_24 ?_
        exact x_zret C false rfl hr hlk dX7_isMissing_25 ⟨by simp [missB, h1, h2, h3], rfl⟩
      · refine x_iconst C (1 : Int32) (by decide) dX7_isMissing_20 ?_
        refine x_goto C 25 dX7_isMissing_21 rfl ?_
        exact x_zret C true rfl hr hlk dX7_isMissing_25 ⟨by simp [missB, h1, h2, h3], rfl⟩

set_option maxHeartbeats 4000000 in
set_option maxRecDepth 100000 in
theorem c_X7_fault (l : Launch) (V : xV) (hV : xInj V) (σ : xS) (i : Int32)  : xM l yX7_fault wsX7_fault ({ frames := 1, cells := 0, slots := 0, locals := 21 }) V [ra V 69, .int i] σ (rI (vAt 50 (σ 79) i) σ) := by
  refine xM_of (cc := cX7_fault) (maxL := 2) (ret := (some .int)) [(0, ra V 69), (1, .int i)] hV (by decide) rfl rfl (Nat.le_of_ble_eq_true rfl) (fun p e s m args below meth c C hr hlk => ?_)
  have iX7 : ∀ w ∈ u_ws RX7 TX7 8, w ∈ wsX7_fault := by decide +kernel
  have f29 : (Cond.fieldLink RX7 29 RX7 (TX7 5).2.1 (TX7 5).2.2.1).before args s = true := C.2.2.2.2.1 _ (by decide +kernel)
  refine x_aload_n C dX7_fault_0 rfl 0 rfl ?_
  refine x_getr C sh_69 rfl iX7 5 (by decide) f29 (fun _ h => h) (by decide) rfl dX7_fault_1 ?_
  refine x_iload_n C dX7_fault_4 rfl 1 rfl ?_
  refine x_callV C sh_78 (by decide) rfl [.int i] (c_X5_at l V hV σ 78 79 50 sh_78 sh_79 (by decide) i) (cwV 1 C.2.2.2.2.1 gX7_fault_X5_at rfl rfl rfl (by decide +kernel) ⟨Nat.le_of_ble_eq_true rfl, Nat.le_of_ble_eq_true rfl⟩) rfl rfl (Nat.le_of_ble_eq_true rfl) dX7_fault_5 ⟨Nat.le_of_ble_eq_true rfl, Nat.le_of_ble_eq_true rfl⟩ (x_kI ?_)
  exact x_iret C hr hlk dX7_fault_8 ⟨rfl, rfl⟩

set_option maxHeartbeats 4000000 in
set_option maxRecDepth 100000 in
theorem c_X7_typeIn (l : Launch) (V : xV) (hV : xInj V) (σ : xS) (x c1 : Int32)  : xM l yX7_typeIn wsX7_typeIn ({ frames := 1, cells := 0, slots := 0, locals := 21 }) V [ra V 69, .int x, .int c1] σ (rI (tyIn σ x c1) σ) := by
  refine xM_of (cc := cX7_typeIn) (maxL := 3) (ret := (some .int)) [(0, ra V 69), (1, .int x), (2, .int c1)] hV (by decide) rfl rfl (Nat.le_of_ble_eq_true rfl) (fun p e s m args below meth c C hr hlk => ?_)
  have iX7 : ∀ w ∈ u_ws RX7 TX7 8, w ∈ wsX7_typeIn := by decide +kernel
  have f32 : (Cond.fieldLink RX7 32 RX7 (TX7 6).2.1 (TX7 6).2.2.1).before args s = true := C.2.2.2.2.1 _ (by decide +kernel)
  refine x_aload_n C dX7_typeIn_0 rfl 0 rfl ?_
  refine x_getr C sh_69 rfl iX7 6 (by decide) f32 (fun _ h => h) (by decide) rfl dX7_typeIn_1 ?_
  refine x_iload_n C dX7_typeIn_4 rfl 1 rfl ?_
  refine x_iload_n C dX7_typeIn_5 rfl 2 rfl ?_
  refine x_callS C [.int x, .int c1] (c_X7_typePlace l V hV σ x c1) (va_cwS 2 C.2.2.2.2.1 gX7_typeIn_X7_typePlace rfl rfl rfl (by decide +kernel) ⟨Nat.le_of_ble_eq_true rfl, Nat.le_of_ble_eq_true rfl⟩) rfl rfl (Nat.le_of_ble_eq_true rfl) dX7_typeIn_6 ⟨Nat.le_of_ble_eq_true rfl, Nat.le_of_ble_eq_true rfl⟩ (x_kI ?_)
  refine x_callV C sh_80 (by decide) rfl [.int (tyP x c1)] (c_X5_at l V hV σ 80 81 800 sh_80 sh_81 (by decide) (tyP x c1)) (cwV 1 C.2.2.2.2.1 gX7_typeIn_X5_at rfl rfl rfl (by decide +kernel) ⟨Nat.le_of_ble_eq_true rfl, Nat.le_of_ble_eq_true rfl⟩) rfl rfl (Nat.le_of_ble_eq_true rfl) dX7_typeIn_9 ⟨Nat.le_of_ble_eq_true rfl, Nat.le_of_ble_eq_true rfl⟩ (x_kI ?_)
  exact x_iret C hr hlk dX7_typeIn_12 ⟨rfl, rfl⟩

set_option maxHeartbeats 4000000 in
set_option maxRecDepth 100000 in
theorem c_X7_typeHere (l : Launch) (V : xV) (hV : xInj V) (σ : xS) (x : Int32)  : xM l yX7_typeHere wsX7_typeHere ({ frames := 1, cells := 0, slots := 0, locals := 21 }) V [ra V 69, .int x] σ (rI (tyH σ x) σ) := by
  refine xM_of (cc := cX7_typeHere) (maxL := 2) (ret := (some .int)) [(0, ra V 69), (1, .int x)] hV (by decide) rfl rfl (Nat.le_of_ble_eq_true rfl) (fun p e s m args below meth c C hr hlk => ?_)
  have iX7 : ∀ w ∈ u_ws RX7 TX7 8, w ∈ wsX7_typeHere := by decide +kernel
  have f32 : (Cond.fieldLink RX7 32 RX7 (TX7 6).2.1 (TX7 6).2.2.1).before args s = true := C.2.2.2.2.1 _ (by decide +kernel)
  have f35 : (Cond.fieldLink RX7 35 RX7 (TX7 7).2.1 (TX7 7).2.2.1).before args s = true := C.2.2.2.2.1 _ (by decide +kernel)
  refine x_aload_n C dX7_typeHere_0 rfl 0 rfl ?_
  refine x_getr C sh_69 rfl iX7 6 (by decide) f32 (fun _ h => h) (by decide) rfl dX7_typeHere_1 ?_
  refine x_iload_n C dX7_typeHere_4 rfl 1 rfl ?_
  refine x_aload_n C dX7_typeHere_5 rfl 0 rfl ?_
  refine x_geti C sh_69 rfl iX7 7 (by decide) f35 (fun _ h => h) (by decide) rfl dX7_typeHere_6 ?_
  refine x_callS C [.int x, .int (σ 206 0)] (c_X7_typePlace l V hV σ x (σ 206 0)) (va_cwS 2 C.2.2.2.2.1 gX7_typeHere_X7_typePlace rfl rfl rfl (by decide +kernel) ⟨Nat.le_of_ble_eq_true rfl, Nat.le_of_ble_eq_true rfl⟩) rfl rfl (Nat.le_of_ble_eq_true rfl) dX7_typeHere_9 ⟨Nat.le_of_ble_eq_true rfl, Nat.le_of_ble_eq_true rfl⟩ (x_kI ?_)
  refine x_callV C sh_80 (by decide) rfl [.int (tyP x (σ 206 0))] (c_X5_at l V hV σ 80 81 800 sh_80 sh_81 (by decide) (tyP x (σ 206 0))) (cwV 1 C.2.2.2.2.1 gX7_typeHere_X5_at rfl rfl rfl (by decide +kernel) ⟨Nat.le_of_ble_eq_true rfl, Nat.le_of_ble_eq_true rfl⟩) rfl rfl (Nat.le_of_ble_eq_true rfl) dX7_typeHere_12 ⟨Nat.le_of_ble_eq_true rfl, Nat.le_of_ble_eq_true rfl⟩ (x_kI ?_)
  exact x_iret C hr hlk dX7_typeHere_15 ⟨rfl, rfl⟩

set_option maxHeartbeats 4000000 in
set_option maxRecDepth 100000 in
theorem c_X7_hasTypeOrIsNone (l : Launch) (V : xV) (hV : xInj V) (σ : xS) (x : Int32)  : xM l yX7_hasTypeOrIsNone wsX7_hasTypeOrIsNone ({ frames := 2, cells := 0, slots := 0, locals := 42 }) V [ra V 69, .int x] σ (rI (bI (hTN σ x)) σ) := by
  refine xM_of (cc := cX7_hasTypeOrIsNone) (maxL := 2) (ret := (some .boolean)) [(0, ra V 69), (1, .int x)] hV (by decide) rfl rfl (Nat.le_of_ble_eq_true rfl) (fun p e s m args below meth c C hr hlk => ?_)
  refine x_iload_n C dX7_hasTypeOrIsNone_0 rfl 1 rfl ?_
  refine x_iconst C (-1 : Int32) (by decide) dX7_hasTypeOrIsNone_1 ?_
  refine x_icmp_eq C 13 dX7_hasTypeOrIsNone_2 rfl (fun h1 => ?_) (fun h1 => ?_)
  · refine x_iconst C (1 : Int32) (by decide) dX7_hasTypeOrIsNone_13 ?_
    refine x_goto C 18 dX7_hasTypeOrIsNone_14 rfl ?_
    exact x_zret C true rfl hr hlk dX7_hasTypeOrIsNone_18 ⟨by simp [hTN, eq_true h1], rfl⟩
  · refine x_aload_n C dX7_hasTypeOrIsNone_5 rfl 0 rfl ?_
    refine x_iload_n C dX7_hasTypeOrIsNone_6 rfl 1 rfl ?_
    refine x_callV C sh_69 (by decide) rfl [.int x] (c_X7_typeHere l V hV σ x) (cwV 1 C.2.2.2.2.1 gX7_hasTypeOrIsNone_X7_typeHere rfl rfl rfl (by decide +kernel) ⟨Nat.le_of_ble_eq_true rfl, Nat.le_of_ble_eq_true rfl⟩) rfl rfl (Nat.le_of_ble_eq_true rfl) dX7_hasTypeOrIsNone_7 ⟨Nat.le_of_ble_eq_true rfl, Nat.le_of_ble_eq_true rfl⟩ (x_kI ?_)
    refine x_if_lt C 17 dX7_hasTypeOrIsNone_10 rfl (fun h2 => ?_) (fun h2 => ?_)
    · refine x_iconst C (0 : Int32) (by decide) dX7_hasTypeOrIsNone_17 ?_
      exact x_zret C false rfl hr hlk dX7_hasTypeOrIsNone_18 ⟨by simp [hTN, h1, h2], rfl⟩
    · refine x_iconst C (1 : Int32) (by decide) dX7_hasTypeOrIsNone_13 ?_
      refine x_goto C 18 dX7_hasTypeOrIsNone_14 rfl ?_
      exact x_zret C true rfl hr hlk dX7_hasTypeOrIsNone_18 ⟨by simp [hTN, h1, h2], rfl⟩

set_option maxHeartbeats 4000000 in
set_option maxRecDepth 100000 in
theorem c_X7_havePartsTypes (l : Launch) (V : xV) (hV : xInj V) (σ : xS) (x : Int32)  : xM l yX7_havePartsTypes wsX7_havePartsTypes ({ frames := 3, cells := 0, slots := 0, locals := 63 }) V [ra V 69, .int x] σ (rI (bI (hPT σ x)) σ) := by
  refine xM_of (cc := cX7_havePartsTypes) (maxL := 2) (ret := (some .boolean)) [(0, ra V 69), (1, .int x)] hV (by decide) rfl rfl (Nat.le_of_ble_eq_true rfl) (fun p e s m args below meth c C hr hlk => ?_)
  have iX7 : ∀ w ∈ u_ws RX7 TX7 8, w ∈ wsX7_havePartsTypes := by decide +kernel
  have f39 : (Cond.fieldLink RX7 39 RX7 (TX7 0).2.1 (TX7 0).2.2.1).before args s = true := C.2.2.2.2.1 _ (by decide +kernel)
  have iX4 : ∀ w ∈ u_ws RX4 TX4 8, w ∈ wsX7_havePartsTypes := by decide +kernel
  have f124 : (Cond.fieldLink RX7 124 RX4 (TX4 5).2.1 (TX4 5).2.2.1).before args s = true := C.2.2.2.2.1 _ (by decide +kernel)
  refine x_aload_n C dX7_havePartsTypes_0 rfl 0 rfl ?_
  refine x_aload_n C dX7_havePartsTypes_1 rfl 0 rfl ?_
  refine x_getr C sh_69 rfl iX7 0 (by decide) f39 (fun _ h => h) (by decide) rfl dX7_havePartsTypes_2 ?_
  refine x_getr C sh_8 rfl iX4 5 (by decide) f124 (fun _ h => h) (by decide) rfl dX7_havePartsTypes_5 ?_
  refine x_iload_n C dX7_havePartsTypes_8 rfl 1 rfl ?_
  refine x_callV C sh_47 (by decide) rfl [.int x] (c_X1_object l V hV σ x) (cwV 1 C.2.2.2.2.1 gX7_havePartsTypes_X1_object rfl rfl rfl (by decide +kernel) ⟨Nat.le_of_ble_eq_true rfl, Nat.le_of_ble_eq_true rfl⟩) rfl rfl (Nat.le_of_ble_eq_true rfl) dX7_havePartsTypes_9 ⟨Nat.le_of_ble_eq_true rfl, Nat.le_of_ble_eq_true rfl⟩ (x_kI ?_)
  refine x_callV C sh_69 (by decide) rfl [.int (vAt 50 (σ 55) x)] (c_X7_hasTypeOrIsNone l V hV σ (vAt 50 (σ 55) x)) (cwV 1 C.2.2.2.2.1 gX7_havePartsTypes_X7_hasTypeOrIsNone rfl rfl rfl (by decide +kernel) ⟨Nat.le_of_ble_eq_true rfl, Nat.le_of_ble_eq_true rfl⟩) rfl rfl (Nat.le_of_ble_eq_true rfl) dX7_havePartsTypes_12 ⟨Nat.le_of_ble_eq_true rfl, Nat.le_of_ble_eq_true rfl⟩ (x_kI ?_)
  refine x_bif_eq C 58 dX7_havePartsTypes_15 rfl (fun h1 => ?_) (fun h1 => ?_)
  · refine x_iconst C (0 : Int32) (by decide) dX7_havePartsTypes_58 ?_
    exact x_zret C false rfl hr hlk dX7_havePartsTypes_59 ⟨by simp [hPT, h1], rfl⟩
  · refine x_aload_n C dX7_havePartsTypes_18 rfl 0 rfl ?_
    refine x_aload_n C dX7_havePartsTypes_19 rfl 0 rfl ?_
    refine x_getr C sh_69 rfl iX7 0 (by decide) f39 (fun _ h => h) (by decide) rfl dX7_havePartsTypes_20 ?_
    refine x_getr C sh_8 rfl iX4 5 (by decide) f124 (fun _ h => h) (by decide) rfl dX7_havePartsTypes_23 ?_
    refine x_iload_n C dX7_havePartsTypes_26 rfl 1 rfl ?_
    refine x_callV C sh_47 (by decide) rfl [.int x] (c_X1_first l V hV σ x) (cwV 1 C.2.2.2.2.1 gX7_havePartsTypes_X1_first rfl rfl rfl (by decide +kernel) ⟨Nat.le_of_ble_eq_true rfl, Nat.le_of_ble_eq_true rfl⟩) rfl rfl (Nat.le_of_ble_eq_true rfl) dX7_havePartsTypes_27 ⟨Nat.le_of_ble_eq_true rfl, Nat.le_of_ble_eq_true rfl⟩ (x_kI ?_)
    refine x_callV C sh_69 (by decide) rfl [.int (vAt 50 (σ 57) x)] (c_X7_hasTypeOrIsNone l V hV σ (vAt 50 (σ 57) x)) (cwV 1 C.2.2.2.2.1 gX7_havePartsTypes_X7_hasTypeOrIsNone rfl rfl rfl (by decide +kernel) ⟨Nat.le_of_ble_eq_true rfl, Nat.le_of_ble_eq_true rfl⟩) rfl rfl (Nat.le_of_ble_eq_true rfl) dX7_havePartsTypes_30 ⟨Nat.le_of_ble_eq_true rfl, Nat.le_of_ble_eq_true rfl⟩ (x_kI ?_)
    refine x_bif_eq C 58 dX7_havePartsTypes_33 rfl (fun h2 => ?_) (fun h2 => ?_)
    · refine x_iconst C (0 : Int32) (by decide) dX7_havePartsTypes_58 ?_
      exact x_zret C false rfl hr hlk dX7_havePartsTypes_59 ⟨by simp [hPT, h1, h2], rfl⟩
    · refine x_aload_n C dX7_havePartsTypes_36 rfl 0 rfl ?_
      refine x_aload_n C dX7_havePartsTypes_37 rfl 0 rfl ?_
      refine x_getr C sh_69 rfl iX7 0 (by decide) f39 (fun _ h => h) (by decide) rfl dX7_havePartsTypes_38 ?_
      refine x_getr C sh_8 rfl iX4 5 (by decide) f124 (fun _ h => h) (by decide) rfl dX7_havePartsTypes_41 ?_
      refine x_iload_n C dX7_havePartsTypes_44 rfl 1 rfl ?_
      refine x_callV C sh_47 (by decide) rfl [.int x] (c_X1_second l V hV σ x) (cwV 1 C.2.2.2.2.1 gX7_havePartsTypes_X1_second rfl rfl rfl (by decide +kernel) ⟨Nat.le_of_ble_eq_true rfl, Nat.le_of_ble_eq_true rfl⟩) rfl rfl (Nat.le_of_ble_eq_true rfl) dX7_havePartsTypes_45 ⟨Nat.le_of_ble_eq_true rfl, Nat.le_of_ble_eq_true rfl⟩ (x_kI ?_)
      refine x_callV C sh_69 (by decide) rfl [.int (vAt 50 (σ 59) x)] (c_X7_hasTypeOrIsNone l V hV σ (vAt 50 (σ 59) x)) (cwV 1 C.2.2.2.2.1 gX7_havePartsTypes_X7_hasTypeOrIsNone rfl rfl rfl (by decide +kernel) ⟨Nat.le_of_ble_eq_true rfl, Nat.le_of_ble_eq_true rfl⟩) rfl rfl (Nat.le_of_ble_eq_true rfl) dX7_havePartsTypes_48 ⟨Nat.le_of_ble_eq_true rfl, Nat.le_of_ble_eq_true rfl⟩ (x_kI ?_)
      refine x_bif_eq C 58 dX7_havePartsTypes_51 rfl (fun h3 => ?_) (fun h3 => ?_)
      · refine x_iconst C (0 : Int32) (by decide) dX7_havePartsTypes_58 ?_
        exact x_zret C false rfl hr hlk dX7_havePartsTypes_59 ⟨by simp [hPT, h1, h2, h3], rfl⟩
      · refine x_iconst C (1 : Int32) (by decide) dX7_havePartsTypes_54 ?_
        refine x_goto C 59 dX7_havePartsTypes_55 rfl ?_
        exact x_zret C true rfl hr hlk dX7_havePartsTypes_59 ⟨by simp [hPT, h1, h2, h3], rfl⟩

set_option maxHeartbeats 4000000 in
set_option maxRecDepth 100000 in
theorem c_X7_usedMember (l : Launch) (V : xV) (hV : xInj V) (σ : xS) (x : Int32)  : xM l yX7_usedMember wsX7_usedMember ({ frames := 2, cells := 0, slots := 0, locals := 48 }) V [ra V 69, .int x] σ (rI (useM σ x) σ) := by
  refine xM_of (cc := cX7_usedMember) (maxL := 3) (ret := (some .int)) [(0, ra V 69), (1, .int x)] hV (by decide) rfl rfl (Nat.le_of_ble_eq_true rfl) (fun p e s m args below meth c C hr hlk => ?_)
  have iX7 : ∀ w ∈ u_ws RX7 TX7 8, w ∈ wsX7_usedMember := by decide +kernel
  have f39 : (Cond.fieldLink RX7 39 RX7 (TX7 0).2.1 (TX7 0).2.2.1).before args s = true := C.2.2.2.2.1 _ (by decide +kernel)
  have iX4 : ∀ w ∈ u_ws RX4 TX4 8, w ∈ wsX7_usedMember := by decide +kernel
  have f124 : (Cond.fieldLink RX7 124 RX4 (TX4 5).2.1 (TX4 5).2.2.1).before args s = true := C.2.2.2.2.1 _ (by decide +kernel)
  refine x_aload_n C dX7_usedMember_0 rfl 0 rfl ?_
  refine x_getr C sh_69 rfl iX7 0 (by decide) f39 (fun _ h => h) (by decide) rfl dX7_usedMember_1 ?_
  refine x_getr C sh_8 rfl iX4 5 (by decide) f124 (fun _ h => h) (by decide) rfl dX7_usedMember_4 ?_
  refine x_iload_n C dX7_usedMember_7 rfl 1 rfl ?_
  refine x_callV C sh_47 (by decide) rfl [.int x] (c_X1_kind l V hV σ x) (cwV 1 C.2.2.2.2.1 gX7_usedMember_X1_kind rfl rfl rfl (by decide +kernel) ⟨Nat.le_of_ble_eq_true rfl, Nat.le_of_ble_eq_true rfl⟩) rfl rfl (Nat.le_of_ble_eq_true rfl) dX7_usedMember_8 ⟨Nat.le_of_ble_eq_true rfl, Nat.le_of_ble_eq_true rfl⟩ (x_kI ?_)
  refine x_iconst C (5 : Int32) (by decide) dX7_usedMember_11 ?_
  refine x_icmp_ne C 19 dX7_usedMember_12 rfl (fun h1 => ?_) (fun h1 => ?_)
  · refine x_iconst C (0 : Int32) (by decide) dX7_usedMember_19 ?_
    refine x_istore_n C [(2, .int (0 : Int32)), (0, ra V 69), (1, .int x)] dX7_usedMember_20 rfl (by decide) rfl ?_
    refine x_aload_n C dX7_usedMember_21 rfl 1 rfl ?_
    refine x_aload_n C dX7_usedMember_22 rfl 1 rfl ?_
    refine x_aload_n C dX7_usedMember_23 rfl 1 rfl ?_
    refine x_getr C sh_69 rfl iX7 0 (by decide) f39 (fun _ h => h) (by decide) rfl dX7_usedMember_24 ?_
    refine x_getr C sh_8 rfl iX4 5 (by decide) f124 (fun _ h => h) (by decide) rfl dX7_usedMember_27 ?_
    refine x_iload_n C dX7_usedMember_30 rfl 2 rfl ?_
    refine x_callV C sh_47 (by decide) rfl [.int x] (c_X1_object l V hV σ x) (cwV 1 C.2.2.2.2.1 gX7_usedMember_X1_object rfl rfl rfl (by decide +kernel) ⟨Nat.le_of_ble_eq_true rfl, Nat.le_of_ble_eq_true rfl⟩) rfl rfl (Nat.le_of_ble_eq_true rfl) dX7_usedMember_31 ⟨Nat.le_of_ble_eq_true rfl, Nat.le_of_ble_eq_true rfl⟩ (x_kI ?_)
    refine x_callV C sh_69 (by decide) rfl [.int (vAt 50 (σ 55) x)] (c_X7_typeHere l V hV σ (vAt 50 (σ 55) x)) (cwV 1 C.2.2.2.2.1 gX7_usedMember_X7_typeHere rfl rfl rfl (by decide +kernel) ⟨Nat.le_of_ble_eq_true rfl, Nat.le_of_ble_eq_true rfl⟩) rfl rfl (Nat.le_of_ble_eq_true rfl) dX7_usedMember_34 ⟨Nat.le_of_ble_eq_true rfl, Nat.le_of_ble_eq_true rfl⟩ (x_kI ?_)
    refine x_aload_n C dX7_usedMember_37 rfl 1 rfl ?_
    refine x_getr C sh_69 rfl iX7 0 (by decide) f39 (fun _ h => h) (by decide) rfl dX7_usedMember_38 ?_
    refine x_getr C sh_8 rfl iX4 5 (by decide) f124 (fun _ h => h) (by decide) rfl dX7_usedMember_41 ?_
    refine x_iload_n C dX7_usedMember_44 rfl 2 rfl ?_
    refine x_callV C sh_47 (by decide) rfl [.int x] (c_X1_detail l V hV σ x) (cwV 1 C.2.2.2.2.1 gX7_usedMember_X1_detail rfl rfl rfl (by decide +kernel) ⟨Nat.le_of_ble_eq_true rfl, Nat.le_of_ble_eq_true rfl⟩) rfl rfl (Nat.le_of_ble_eq_true rfl) dX7_usedMember_45 ⟨Nat.le_of_ble_eq_true rfl, Nat.le_of_ble_eq_true rfl⟩ (x_kI ?_)
    refine x_iload_n C dX7_usedMember_48 rfl 0 rfl ?_
    refine x_callV C sh_69 (by decide) rfl [.int (tyH σ (vAt 50 (σ 55) x)), .int (vAt 50 (σ 53) x), .int (0 : Int32)] (c_X7_lookUp l V hV σ (tyH σ (vAt 50 (σ 55) x)) (vAt 50 (σ 53) x) (0 : Int32)) (cwV 3 C.2.2.2.2.1 gX7_usedMember_X7_lookUp rfl rfl rfl (by decide +kernel) ⟨Nat.le_of_ble_eq_true rfl, Nat.le_of_ble_eq_true rfl⟩) rfl rfl (Nat.le_of_ble_eq_true rfl) dX7_usedMember_49 ⟨Nat.le_of_ble_eq_true rfl, Nat.le_of_ble_eq_true rfl⟩ (x_kI ?_)
    exact x_iret C hr hlk dX7_usedMember_52 ⟨by simp [useM, h1], rfl⟩
  · refine x_iconst C (1 : Int32) (by decide) dX7_usedMember_15 ?_
    refine x_goto C 20 dX7_usedMember_16 rfl ?_
    refine x_istore_n C [(2, .int (1 : Int32)), (0, ra V 69), (1, .int x)] dX7_usedMember_20 rfl (by decide) rfl ?_
    refine x_aload_n C dX7_usedMember_21 rfl 1 rfl ?_
    refine x_aload_n C dX7_usedMember_22 rfl 1 rfl ?_
    refine x_aload_n C dX7_usedMember_23 rfl 1 rfl ?_
    refine x_getr C sh_69 rfl iX7 0 (by decide) f39 (fun _ h => h) (by decide) rfl dX7_usedMember_24 ?_
    refine x_getr C sh_8 rfl iX4 5 (by decide) f124 (fun _ h => h) (by decide) rfl dX7_usedMember_27 ?_
    refine x_iload_n C dX7_usedMember_30 rfl 2 rfl ?_
    refine x_callV C sh_47 (by decide) rfl [.int x] (c_X1_object l V hV σ x) (cwV 1 C.2.2.2.2.1 gX7_usedMember_X1_object rfl rfl rfl (by decide +kernel) ⟨Nat.le_of_ble_eq_true rfl, Nat.le_of_ble_eq_true rfl⟩) rfl rfl (Nat.le_of_ble_eq_true rfl) dX7_usedMember_31 ⟨Nat.le_of_ble_eq_true rfl, Nat.le_of_ble_eq_true rfl⟩ (x_kI ?_)
    refine x_callV C sh_69 (by decide) rfl [.int (vAt 50 (σ 55) x)] (c_X7_typeHere l V hV σ (vAt 50 (σ 55) x)) (cwV 1 C.2.2.2.2.1 gX7_usedMember_X7_typeHere rfl rfl rfl (by decide +kernel) ⟨Nat.le_of_ble_eq_true rfl, Nat.le_of_ble_eq_true rfl⟩) rfl rfl (Nat.le_of_ble_eq_true rfl) dX7_usedMember_34 ⟨Nat.le_of_ble_eq_true rfl, Nat.le_of_ble_eq_true rfl⟩ (x_kI ?_)
    refine x_aload_n C dX7_usedMember_37 rfl 1 rfl ?_
    refine x_getr C sh_69 rfl iX7 0 (by decide) f39 (fun _ h => h) (by decide) rfl dX7_usedMember_38 ?_
    refine x_getr C sh_8 rfl iX4 5 (by decide) f124 (fun _ h => h) (by decide) rfl dX7_usedMember_41 ?_
    refine x_iload_n C dX7_usedMember_44 rfl 2 rfl ?_
    refine x_callV C sh_47 (by decide) rfl [.int x] (c_X1_detail l V hV σ x) (cwV 1 C.2.2.2.2.1 gX7_usedMember_X1_detail rfl rfl rfl (by decide +kernel) ⟨Nat.le_of_ble_eq_true rfl, Nat.le_of_ble_eq_true rfl⟩) rfl rfl (Nat.le_of_ble_eq_true rfl) dX7_usedMember_45 ⟨Nat.le_of_ble_eq_true rfl, Nat.le_of_ble_eq_true rfl⟩ (x_kI ?_)
    refine x_iload_n C dX7_usedMember_48 rfl 0 rfl ?_
    refine x_callV C sh_69 (by decide) rfl [.int (tyH σ (vAt 50 (σ 55) x)), .int (vAt 50 (σ 53) x), .int (1 : Int32)] (c_X7_lookUp l V hV σ (tyH σ (vAt 50 (σ 55) x)) (vAt 50 (σ 53) x) (1 : Int32)) (cwV 3 C.2.2.2.2.1 gX7_usedMember_X7_lookUp rfl rfl rfl (by decide +kernel) ⟨Nat.le_of_ble_eq_true rfl, Nat.le_of_ble_eq_true rfl⟩) rfl rfl (Nat.le_of_ble_eq_true rfl) dX7_usedMember_49 ⟨Nat.le_of_ble_eq_true rfl, Nat.le_of_ble_eq_true rfl⟩ (x_kI ?_)
    exact x_iret C hr hlk dX7_usedMember_52 ⟨by simp [useM, eq_true h1], rfl⟩

set_option maxHeartbeats 4000000 in
set_option maxRecDepth 100000 in
theorem c_X7_doesArgumentFit (l : Launch) (V : xV) (hV : xInj V) (σ : xS) (a q : Int32)  : xM l yX7_doesArgumentFit wsX7_doesArgumentFit ({ frames := 2, cells := 0, slots := 0, locals := 43 }) V [ra V 69, .int a, .int q] σ (rI (bI (argF σ a q)) σ) := by
  refine xM_of (cc := cX7_doesArgumentFit) (maxL := 3) (ret := (some .boolean)) [(0, ra V 69), (1, .int a), (2, .int q)] hV (by decide) rfl rfl (Nat.le_of_ble_eq_true rfl) (fun p e s m args below meth c C hr hlk => ?_)
  refine x_iload_n C dX7_doesArgumentFit_0 rfl 1 rfl ?_
  refine x_iconst C (-1 : Int32) (by decide) dX7_doesArgumentFit_1 ?_
  refine x_icmp_eq C 10 dX7_doesArgumentFit_2 rfl (fun h1 => ?_) (fun h1 => ?_)
  · refine x_iload_n C dX7_doesArgumentFit_10 rfl 1 rfl ?_
    refine x_iload_n C dX7_doesArgumentFit_11 rfl 2 rfl ?_
    refine x_icmp_ne C 19 dX7_doesArgumentFit_12 rfl (fun h2 => ?_) (fun h2 => ?_)
    · refine x_iconst C (0 : Int32) (by decide) dX7_doesArgumentFit_19 ?_
      exact x_zret C false rfl hr hlk dX7_doesArgumentFit_20 ⟨by simp [argF, eq_true h1, h2], rfl⟩
    · refine x_iconst C (1 : Int32) (by decide) dX7_doesArgumentFit_15 ?_
      refine x_goto C 20 dX7_doesArgumentFit_16 rfl ?_
      exact x_zret C true rfl hr hlk dX7_doesArgumentFit_20 ⟨by simp [argF, eq_true h1, eq_true h2], rfl⟩
  · refine x_iload_n C dX7_doesArgumentFit_5 rfl 2 rfl ?_
    refine x_iconst C (-1 : Int32) (by decide) dX7_doesArgumentFit_6 ?_
    refine x_icmp_ne C 21 dX7_doesArgumentFit_7 rfl (fun h3 => ?_) (fun h3 => ?_)
    · refine x_aload_n C dX7_doesArgumentFit_21 rfl 0 rfl ?_
      refine x_aload_n C dX7_doesArgumentFit_22 rfl 0 rfl ?_
      refine x_iload_n C dX7_doesArgumentFit_23 rfl 1 rfl ?_
      refine x_callV C sh_69 (by decide) rfl [.int a] (c_X7_typeHere l V hV σ a) (cwV 1 C.2.2.2.2.1 gX7_doesArgumentFit_X7_typeHere rfl rfl rfl (by decide +kernel) ⟨Nat.le_of_ble_eq_true rfl, Nat.le_of_ble_eq_true rfl⟩) rfl rfl (Nat.le_of_ble_eq_true rfl) dX7_doesArgumentFit_24 ⟨Nat.le_of_ble_eq_true rfl, Nat.le_of_ble_eq_true rfl⟩ (x_kI ?_)
      refine x_iload_n C dX7_doesArgumentFit_27 rfl 2 rfl ?_
      refine x_callV C sh_69 (by decide) rfl [.int (tyH σ a), .int q] (c_X7_fits l V hV σ (tyH σ a) q) (cwV 2 C.2.2.2.2.1 gX7_doesArgumentFit_X7_fits rfl rfl rfl (by decide +kernel) ⟨Nat.le_of_ble_eq_true rfl, Nat.le_of_ble_eq_true rfl⟩) rfl rfl (Nat.le_of_ble_eq_true rfl) dX7_doesArgumentFit_28 ⟨Nat.le_of_ble_eq_true rfl, Nat.le_of_ble_eq_true rfl⟩ (x_kI ?_)
      exact x_zret C (fitB σ (tyH σ a) q) rfl hr hlk dX7_doesArgumentFit_31 ⟨by simp [argF, h1, h3], rfl⟩
    · refine x_iload_n C dX7_doesArgumentFit_10 rfl 1 rfl ?_
      refine x_iload_n C dX7_doesArgumentFit_11 rfl 2 rfl ?_
      refine x_icmp_ne C 19 dX7_doesArgumentFit_12 rfl (fun h4 => ?_) (fun h4 => ?_)
      · refine x_iconst C (0 : Int32) (by decide) dX7_doesArgumentFit_19 ?_
        exact x_zret C false rfl hr hlk dX7_doesArgumentFit_20 ⟨by simp [argF, h1, eq_true h3, h4], rfl⟩
      · refine x_iconst C (1 : Int32) (by decide) dX7_doesArgumentFit_15 ?_
        refine x_goto C 20 dX7_doesArgumentFit_16 rfl ?_
        exact x_zret C true rfl hr hlk dX7_doesArgumentFit_20 ⟨by simp [argF, h1, eq_true h3, eq_true h4], rfl⟩

set_option maxHeartbeats 4000000 in
set_option maxRecDepth 100000 in
theorem c_X7_doArgumentsFit (l : Launch) (V : xV) (hV : xInj V) (σ : xS) (x y : Int32)  : xM l yX7_doArgumentsFit wsX7_doArgumentsFit ({ frames := 3, cells := 0, slots := 0, locals := 65 }) V [ra V 69, .int x, .int y] σ (rI (bI (argsF σ x y)) σ) := by
  refine xM_of (cc := cX7_doArgumentsFit) (maxL := 3) (ret := (some .boolean)) [(0, ra V 69), (1, .int x), (2, .int y)] hV (by decide) rfl rfl (Nat.le_of_ble_eq_true rfl) (fun p e s m args below meth c C hr hlk => ?_)
  have iX7 : ∀ w ∈ u_ws RX7 TX7 8, w ∈ wsX7_doArgumentsFit := by decide +kernel
  have f39 : (Cond.fieldLink RX7 39 RX7 (TX7 0).2.1 (TX7 0).2.2.1).before args s = true := C.2.2.2.2.1 _ (by decide +kernel)
  have iX4 : ∀ w ∈ u_ws RX4 TX4 8, w ∈ wsX7_doArgumentsFit := by decide +kernel
  have f124 : (Cond.fieldLink RX7 124 RX4 (TX4 5).2.1 (TX4 5).2.2.1).before args s = true := C.2.2.2.2.1 _ (by decide +kernel)
  have f97 : (Cond.fieldLink RX7 97 RX4 (TX4 4).2.1 (TX4 4).2.2.1).before args s = true := C.2.2.2.2.1 _ (by decide +kernel)
  refine x_aload_n C dX7_doArgumentsFit_0 rfl 0 rfl ?_
  refine x_aload_n C dX7_doArgumentsFit_1 rfl 0 rfl ?_
  refine x_getr C sh_69 rfl iX7 0 (by decide) f39 (fun _ h => h) (by decide) rfl dX7_doArgumentsFit_2 ?_
  refine x_getr C sh_8 rfl iX4 5 (by decide) f124 (fun _ h => h) (by decide) rfl dX7_doArgumentsFit_5 ?_
  refine x_iload_n C dX7_doArgumentsFit_8 rfl 1 rfl ?_
  refine x_callV C sh_47 (by decide) rfl [.int x] (c_X1_first l V hV σ x) (cwV 1 C.2.2.2.2.1 gX7_doArgumentsFit_X1_first rfl rfl rfl (by decide +kernel) ⟨Nat.le_of_ble_eq_true rfl, Nat.le_of_ble_eq_true rfl⟩) rfl rfl (Nat.le_of_ble_eq_true rfl) dX7_doArgumentsFit_9 ⟨Nat.le_of_ble_eq_true rfl, Nat.le_of_ble_eq_true rfl⟩ (x_kI ?_)
  refine x_aload_n C dX7_doArgumentsFit_12 rfl 0 rfl ?_
  refine x_getr C sh_69 rfl iX7 0 (by decide) f39 (fun _ h => h) (by decide) rfl dX7_doArgumentsFit_13 ?_
  refine x_getr C sh_8 rfl iX4 4 (by decide) f97 (fun _ h => h) (by decide) rfl dX7_doArgumentsFit_16 ?_
  refine x_iload_n C dX7_doArgumentsFit_19 rfl 2 rfl ?_
  refine x_iconst C (0 : Int32) (by decide) dX7_doArgumentsFit_20 ?_
  refine x_callV C sh_27 (by decide) rfl [.int y, .int (0 : Int32)] (c_X3_parameter l V hV σ y (0 : Int32)) (cwV 2 C.2.2.2.2.1 gX7_doArgumentsFit_X3_parameter rfl rfl rfl (by decide +kernel) ⟨Nat.le_of_ble_eq_true rfl, Nat.le_of_ble_eq_true rfl⟩) rfl rfl (Nat.le_of_ble_eq_true rfl) dX7_doArgumentsFit_21 ⟨Nat.le_of_ble_eq_true rfl, Nat.le_of_ble_eq_true rfl⟩ (x_kI ?_)
  refine x_callV C sh_69 (by decide) rfl [.int (vAt 50 (σ 57) x), .int (mPar σ y (0 : Int32))] (c_X7_doesArgumentFit l V hV σ (vAt 50 (σ 57) x) (mPar σ y (0 : Int32))) (cwV 2 C.2.2.2.2.1 gX7_doArgumentsFit_X7_doesArgumentFit rfl rfl rfl (by decide +kernel) ⟨Nat.le_of_ble_eq_true rfl, Nat.le_of_ble_eq_true rfl⟩) rfl rfl (Nat.le_of_ble_eq_true rfl) dX7_doArgumentsFit_24 ⟨Nat.le_of_ble_eq_true rfl, Nat.le_of_ble_eq_true rfl⟩ (x_kI ?_)
  refine x_bif_eq C 64 dX7_doArgumentsFit_27 rfl (fun h1 => ?_) (fun h1 => ?_)
  · refine x_iconst C (0 : Int32) (by decide) dX7_doArgumentsFit_64 ?_
    exact x_zret C false rfl hr hlk dX7_doArgumentsFit_65 ⟨by simp [argsF, h1], rfl⟩
  · refine x_aload_n C dX7_doArgumentsFit_30 rfl 0 rfl ?_
    refine x_aload_n C dX7_doArgumentsFit_31 rfl 0 rfl ?_
    refine x_getr C sh_69 rfl iX7 0 (by decide) f39 (fun _ h => h) (by decide) rfl dX7_doArgumentsFit_32 ?_
    refine x_getr C sh_8 rfl iX4 5 (by decide) f124 (fun _ h => h) (by decide) rfl dX7_doArgumentsFit_35 ?_
    refine x_iload_n C dX7_doArgumentsFit_38 rfl 1 rfl ?_
    refine x_callV C sh_47 (by decide) rfl [.int x] (c_X1_second l V hV σ x) (cwV 1 C.2.2.2.2.1 gX7_doArgumentsFit_X1_second rfl rfl rfl (by decide +kernel) ⟨Nat.le_of_ble_eq_true rfl, Nat.le_of_ble_eq_true rfl⟩) rfl rfl (Nat.le_of_ble_eq_true rfl) dX7_doArgumentsFit_39 ⟨Nat.le_of_ble_eq_true rfl, Nat.le_of_ble_eq_true rfl⟩ (x_kI ?_)
    refine x_aload_n C dX7_doArgumentsFit_42 rfl 0 rfl ?_
    refine x_getr C sh_69 rfl iX7 0 (by decide) f39 (fun _ h => h) (by decide) rfl dX7_doArgumentsFit_43 ?_
    refine x_getr C sh_8 rfl iX4 4 (by decide) f97 (fun _ h => h) (by decide) rfl dX7_doArgumentsFit_46 ?_
    refine x_iload_n C dX7_doArgumentsFit_49 rfl 2 rfl ?_
    refine x_iconst C (1 : Int32) (by decide) dX7_doArgumentsFit_50 ?_
    refine x_callV C sh_27 (by decide) rfl [.int y, .int (1 : Int32)] (c_X3_parameter l V hV σ y (1 : Int32)) (cwV 2 C.2.2.2.2.1 gX7_doArgumentsFit_X3_parameter rfl rfl rfl (by decide +kernel) ⟨Nat.le_of_ble_eq_true rfl, Nat.le_of_ble_eq_true rfl⟩) rfl rfl (Nat.le_of_ble_eq_true rfl) dX7_doArgumentsFit_51 ⟨Nat.le_of_ble_eq_true rfl, Nat.le_of_ble_eq_true rfl⟩ (x_kI ?_)
    refine x_callV C sh_69 (by decide) rfl [.int (vAt 50 (σ 59) x), .int (mPar σ y (1 : Int32))] (c_X7_doesArgumentFit l V hV σ (vAt 50 (σ 59) x) (mPar σ y (1 : Int32))) (cwV 2 C.2.2.2.2.1 gX7_doArgumentsFit_X7_doesArgumentFit rfl rfl rfl (by decide +kernel) ⟨Nat.le_of_ble_eq_true rfl, Nat.le_of_ble_eq_true rfl⟩) rfl rfl (Nat.le_of_ble_eq_true rfl) dX7_doArgumentsFit_54 ⟨Nat.le_of_ble_eq_true rfl, Nat.le_of_ble_eq_true rfl⟩ (x_kI ?_)
    refine x_bif_eq C 64 dX7_doArgumentsFit_57 rfl (fun h2 => ?_) (fun h2 => ?_)
    · refine x_iconst C (0 : Int32) (by decide) dX7_doArgumentsFit_64 ?_
      exact x_zret C false rfl hr hlk dX7_doArgumentsFit_65 ⟨by simp [argsF, h1, h2], rfl⟩
    · refine x_iconst C (1 : Int32) (by decide) dX7_doArgumentsFit_60 ?_
      refine x_goto C 65 dX7_doArgumentsFit_61 rfl ?_
      exact x_zret C true rfl hr hlk dX7_doArgumentsFit_65 ⟨by simp [argsF, h1, h2], rfl⟩

set_option maxHeartbeats 4000000 in
set_option maxRecDepth 100000 in
theorem c_X7_findFault (l : Launch) (V : xV) (hV : xInj V) (σ : xS) (x : Int32)  : xM l yX7_findFault wsX7_findFault ({ frames := 4, cells := 0, slots := 0, locals := 87 }) V [ra V 69, .int x] σ (rI (fndF σ x) σ) := by
  refine xM_of (cc := cX7_findFault) (maxL := 4) (ret := (some .int)) [(0, ra V 69), (1, .int x)] hV (by decide) rfl rfl (Nat.le_of_ble_eq_true rfl) (fun p e s m args below meth c C hr hlk => ?_)
  have iX7 : ∀ w ∈ u_ws RX7 TX7 8, w ∈ wsX7_findFault := by decide +kernel
  have f39 : (Cond.fieldLink RX7 39 RX7 (TX7 0).2.1 (TX7 0).2.2.1).before args s = true := C.2.2.2.2.1 _ (by decide +kernel)
  have iX4 : ∀ w ∈ u_ws RX4 TX4 8, w ∈ wsX7_findFault := by decide +kernel
  have f124 : (Cond.fieldLink RX7 124 RX4 (TX4 5).2.1 (TX4 5).2.2.1).before args s = true := C.2.2.2.2.1 _ (by decide +kernel)
  refine x_aload_n C dX7_findFault_0 rfl 0 rfl ?_
  refine x_getr C sh_69 rfl iX7 0 (by decide) f39 (fun _ h => h) (by decide) rfl dX7_findFault_1 ?_
  refine x_getr C sh_8 rfl iX4 5 (by decide) f124 (fun _ h => h) (by decide) rfl dX7_findFault_4 ?_
  refine x_iload_n C dX7_findFault_7 rfl 1 rfl ?_
  refine x_callV C sh_47 (by decide) rfl [.int x] (c_X1_kind l V hV σ x) (cwV 1 C.2.2.2.2.1 gX7_findFault_X1_kind rfl rfl rfl (by decide +kernel) ⟨Nat.le_of_ble_eq_true rfl, Nat.le_of_ble_eq_true rfl⟩) rfl rfl (Nat.le_of_ble_eq_true rfl) dX7_findFault_8 ⟨Nat.le_of_ble_eq_true rfl, Nat.le_of_ble_eq_true rfl⟩ (x_kI ?_)
  refine x_istore_n C [(2, .int (vAt 50 (σ 49) x)), (0, ra V 69), (1, .int x)] dX7_findFault_11 rfl (by decide) rfl ?_
  refine x_iload_n C dX7_findFault_12 rfl 0 rfl ?_
  refine x_if_ne C 42 dX7_findFault_13 rfl (fun h1 => ?_) (fun h1 => ?_)
  · refine x_iload_n C dX7_findFault_42 rfl 0 rfl ?_
    refine x_iconst C (4 : Int32) (by decide) dX7_findFault_43 ?_
    refine x_icmp_eq C 54 dX7_findFault_44 rfl (fun h2 => ?_) (fun h2 => ?_)
    · refine x_aload_n C dX7_findFault_54 rfl 1 rfl ?_
      refine x_aload_n C dX7_findFault_55 rfl 1 rfl ?_
      refine x_getr C sh_69 rfl iX7 0 (by decide) f39 (fun _ h => h) (by decide) rfl dX7_findFault_56 ?_
      refine x_getr C sh_8 rfl iX4 5 (by decide) f124 (fun _ h => h) (by decide) rfl dX7_findFault_59 ?_
      refine x_iload_n C dX7_findFault_62 rfl 2 rfl ?_
      refine x_callV C sh_47 (by decide) rfl [.int x] (c_X1_object l V hV σ x) (cwV 1 C.2.2.2.2.1 gX7_findFault_X1_object rfl rfl rfl (by decide +kernel) ⟨Nat.le_of_ble_eq_true rfl, Nat.le_of_ble_eq_true rfl⟩) rfl rfl (Nat.le_of_ble_eq_true rfl) dX7_findFault_63 ⟨Nat.le_of_ble_eq_true rfl, Nat.le_of_ble_eq_true rfl⟩ (x_kI ?_)
      refine x_callV C sh_69 (by decide) rfl [.int (vAt 50 (σ 55) x)] (c_X7_typeHere l V hV σ (vAt 50 (σ 55) x)) (cwV 1 C.2.2.2.2.1 gX7_findFault_X7_typeHere rfl rfl rfl (by decide +kernel) ⟨Nat.le_of_ble_eq_true rfl, Nat.le_of_ble_eq_true rfl⟩) rfl rfl (Nat.le_of_ble_eq_true rfl) dX7_findFault_66 ⟨Nat.le_of_ble_eq_true rfl, Nat.le_of_ble_eq_true rfl⟩ (x_kI ?_)
      refine x_bipush C (8 : Int32) (by decide) dX7_findFault_69 ?_
      refine x_icmp_ne C 77 dX7_findFault_71 rfl (fun h3 => ?_) (fun h3 => ?_)
      · refine x_aload_n C dX7_findFault_77 rfl 1 rfl ?_
        refine x_iload_n C dX7_findFault_78 rfl 2 rfl ?_
        refine x_callV C sh_69 (by decide) rfl [.int x] (c_X7_usedMember l V hV σ x) (cwV 1 C.2.2.2.2.1 gX7_findFault_X7_usedMember rfl rfl rfl (by decide +kernel) ⟨Nat.le_of_ble_eq_true rfl, Nat.le_of_ble_eq_true rfl⟩) rfl rfl (Nat.le_of_ble_eq_true rfl) dX7_findFault_79 ⟨Nat.le_of_ble_eq_true rfl, Nat.le_of_ble_eq_true rfl⟩ (x_kI ?_)
        refine x_istore_n C [(3, .int (useM σ x)), (2, .int (vAt 50 (σ 49) x)), (0, ra V 69), (1, .int x)] dX7_findFault_82 rfl (by decide) rfl ?_
        refine x_iload_n C dX7_findFault_83 rfl 0 rfl ?_
        refine x_iconst C (-1 : Int32) (by decide) dX7_findFault_84 ?_
        refine x_icmp_ne C 91 dX7_findFault_85 rfl (fun h4 => ?_) (fun h4 => ?_)
        · refine x_iload_n C dX7_findFault_91 rfl 1 rfl ?_
          refine x_iconst C (4 : Int32) (by decide) dX7_findFault_92 ?_
          refine x_icmp_eq C 105 dX7_findFault_93 rfl (fun h5 => ?_) (fun h5 => absurd h5 (fun q => q h2))
          refine x_iconst C (0 : Int32) (by decide) dX7_findFault_105 ?_
          refine x_goto C 111 dX7_findFault_106 rfl ?_
          exact x_iret C hr hlk dX7_findFault_111 ⟨by simp [fndF, h1, eq_true h2, h3, h4], rfl⟩
        · refine x_bipush C (10 : Int32) (by decide) dX7_findFault_88 ?_
          exact x_iret C hr hlk dX7_findFault_90 ⟨by simp [fndF, h1, eq_true h2, h3, eq_true h4], rfl⟩
      · refine x_bipush C (9 : Int32) (by decide) dX7_findFault_74 ?_
        exact x_iret C hr hlk dX7_findFault_76 ⟨by simp [fndF, h1, eq_true h2, eq_true h3], rfl⟩
    · refine x_iload_n C dX7_findFault_47 rfl 0 rfl ?_
      refine x_iconst C (5 : Int32) (by decide) dX7_findFault_48 ?_
      refine x_icmp_eq C 54 dX7_findFault_49 rfl (fun h6 => ?_) (fun h6 => ?_)
      · refine x_aload_n C dX7_findFault_54 rfl 1 rfl ?_
        refine x_aload_n C dX7_findFault_55 rfl 1 rfl ?_
        refine x_getr C sh_69 rfl iX7 0 (by decide) f39 (fun _ h => h) (by decide) rfl dX7_findFault_56 ?_
        refine x_getr C sh_8 rfl iX4 5 (by decide) f124 (fun _ h => h) (by decide) rfl dX7_findFault_59 ?_
        refine x_iload_n C dX7_findFault_62 rfl 2 rfl ?_
        refine x_callV C sh_47 (by decide) rfl [.int x] (c_X1_object l V hV σ x) (cwV 1 C.2.2.2.2.1 gX7_findFault_X1_object rfl rfl rfl (by decide +kernel) ⟨Nat.le_of_ble_eq_true rfl, Nat.le_of_ble_eq_true rfl⟩) rfl rfl (Nat.le_of_ble_eq_true rfl) dX7_findFault_63 ⟨Nat.le_of_ble_eq_true rfl, Nat.le_of_ble_eq_true rfl⟩ (x_kI ?_)
        refine x_callV C sh_69 (by decide) rfl [.int (vAt 50 (σ 55) x)] (c_X7_typeHere l V hV σ (vAt 50 (σ 55) x)) (cwV 1 C.2.2.2.2.1 gX7_findFault_X7_typeHere rfl rfl rfl (by decide +kernel) ⟨Nat.le_of_ble_eq_true rfl, Nat.le_of_ble_eq_true rfl⟩) rfl rfl (Nat.le_of_ble_eq_true rfl) dX7_findFault_66 ⟨Nat.le_of_ble_eq_true rfl, Nat.le_of_ble_eq_true rfl⟩ (x_kI ?_)
        refine x_bipush C (8 : Int32) (by decide) dX7_findFault_69 ?_
        refine x_icmp_ne C 77 dX7_findFault_71 rfl (fun h7 => ?_) (fun h7 => ?_)
        · refine x_aload_n C dX7_findFault_77 rfl 1 rfl ?_
          refine x_iload_n C dX7_findFault_78 rfl 2 rfl ?_
          refine x_callV C sh_69 (by decide) rfl [.int x] (c_X7_usedMember l V hV σ x) (cwV 1 C.2.2.2.2.1 gX7_findFault_X7_usedMember rfl rfl rfl (by decide +kernel) ⟨Nat.le_of_ble_eq_true rfl, Nat.le_of_ble_eq_true rfl⟩) rfl rfl (Nat.le_of_ble_eq_true rfl) dX7_findFault_79 ⟨Nat.le_of_ble_eq_true rfl, Nat.le_of_ble_eq_true rfl⟩ (x_kI ?_)
          refine x_istore_n C [(3, .int (useM σ x)), (2, .int (vAt 50 (σ 49) x)), (0, ra V 69), (1, .int x)] dX7_findFault_82 rfl (by decide) rfl ?_
          refine x_iload_n C dX7_findFault_83 rfl 0 rfl ?_
          refine x_iconst C (-1 : Int32) (by decide) dX7_findFault_84 ?_
          refine x_icmp_ne C 91 dX7_findFault_85 rfl (fun h8 => ?_) (fun h8 => ?_)
          · refine x_iload_n C dX7_findFault_91 rfl 1 rfl ?_
            refine x_iconst C (4 : Int32) (by decide) dX7_findFault_92 ?_
            refine x_icmp_eq C 105 dX7_findFault_93 rfl (fun h9 => absurd h9 h2) (fun h9 => ?_)
            refine x_aload_n C dX7_findFault_96 rfl 2 rfl ?_
            refine x_iload_n C dX7_findFault_97 rfl 3 rfl ?_
            refine x_iload_n C dX7_findFault_98 rfl 0 rfl ?_
            refine x_callV C sh_69 (by decide) rfl [.int x, .int (useM σ x)] (c_X7_doArgumentsFit l V hV σ x (useM σ x)) (cwV 2 C.2.2.2.2.1 gX7_findFault_X7_doArgumentsFit rfl rfl rfl (by decide +kernel) ⟨Nat.le_of_ble_eq_true rfl, Nat.le_of_ble_eq_true rfl⟩) rfl rfl (Nat.le_of_ble_eq_true rfl) dX7_findFault_99 ⟨Nat.le_of_ble_eq_true rfl, Nat.le_of_ble_eq_true rfl⟩ (x_kI ?_)
            refine x_bif_eq C 109 dX7_findFault_102 rfl (fun h10 => ?_) (fun h10 => ?_)
            · refine x_bipush C (11 : Int32) (by decide) dX7_findFault_109 ?_
              exact x_iret C hr hlk dX7_findFault_111 ⟨by simp [fndF, h1, h2, eq_true h6, h7, h8, h10], rfl⟩
            · refine x_iconst C (0 : Int32) (by decide) dX7_findFault_105 ?_
              refine x_goto C 111 dX7_findFault_106 rfl ?_
              exact x_iret C hr hlk dX7_findFault_111 ⟨by simp [fndF, h1, h2, eq_true h6, h7, h8, h10], rfl⟩
          · refine x_bipush C (10 : Int32) (by decide) dX7_findFault_88 ?_
            exact x_iret C hr hlk dX7_findFault_90 ⟨by simp [fndF, h1, h2, eq_true h6, h7, eq_true h8], rfl⟩
        · refine x_bipush C (9 : Int32) (by decide) dX7_findFault_74 ?_
          exact x_iret C hr hlk dX7_findFault_76 ⟨by simp [fndF, h1, h2, eq_true h6, eq_true h7], rfl⟩
      · refine x_iconst C (0 : Int32) (by decide) dX7_findFault_52 ?_
        exact x_iret C hr hlk dX7_findFault_53 ⟨by simp [fndF, h1, h2, h6], rfl⟩
  · refine x_aload_n C dX7_findFault_16 rfl 1 rfl ?_
    refine x_iconst C (0 : Int32) (by decide) dX7_findFault_17 ?_
    refine x_aload_n C dX7_findFault_18 rfl 1 rfl ?_
    refine x_getr C sh_69 rfl iX7 0 (by decide) f39 (fun _ h => h) (by decide) rfl dX7_findFault_19 ?_
    refine x_getr C sh_8 rfl iX4 5 (by decide) f124 (fun _ h => h) (by decide) rfl dX7_findFault_22 ?_
    refine x_iload_n C dX7_findFault_25 rfl 2 rfl ?_
    refine x_callV C sh_47 (by decide) rfl [.int x] (c_X1_detail l V hV σ x) (cwV 1 C.2.2.2.2.1 gX7_findFault_X1_detail rfl rfl rfl (by decide +kernel) ⟨Nat.le_of_ble_eq_true rfl, Nat.le_of_ble_eq_true rfl⟩) rfl rfl (Nat.le_of_ble_eq_true rfl) dX7_findFault_26 ⟨Nat.le_of_ble_eq_true rfl, Nat.le_of_ble_eq_true rfl⟩ (x_kI ?_)
    refine x_callV C sh_69 (by decide) rfl [.int (0 : Int32), .int (vAt 50 (σ 53) x)] (c_X7_isThere l V hV σ (0 : Int32) (vAt 50 (σ 53) x)) (cwV 2 C.2.2.2.2.1 gX7_findFault_X7_isThere rfl rfl rfl (by decide +kernel) ⟨Nat.le_of_ble_eq_true rfl, Nat.le_of_ble_eq_true rfl⟩) rfl rfl (Nat.le_of_ble_eq_true rfl) dX7_findFault_29 ⟨Nat.le_of_ble_eq_true rfl, Nat.le_of_ble_eq_true rfl⟩ (x_kI ?_)
    refine x_bif_eq C 39 dX7_findFault_32 rfl (fun h11 => ?_) (fun h11 => ?_)
    · refine x_bipush C (8 : Int32) (by decide) dX7_findFault_39 ?_
      exact x_iret C hr hlk dX7_findFault_41 ⟨by simp [fndF, eq_true h1, h11], rfl⟩
    · refine x_iconst C (0 : Int32) (by decide) dX7_findFault_35 ?_
      refine x_goto C 41 dX7_findFault_36 rfl ?_
      exact x_iret C hr hlk dX7_findFault_41 ⟨by simp [fndF, eq_true h1, h11], rfl⟩

set_option maxHeartbeats 4000000 in
set_option maxRecDepth 100000 in
theorem c_X7_faultlessType (l : Launch) (V : xV) (hV : xInj V) (σ : xS) (x : Int32)  : xM l yX7_faultlessType wsX7_faultlessType ({ frames := 3, cells := 0, slots := 0, locals := 70 }) V [ra V 69, .int x] σ (rI (faT σ x) σ) := by
  refine xM_of (cc := cX7_faultlessType) (maxL := 4) (ret := (some .int)) [(0, ra V 69), (1, .int x)] hV (by decide) rfl rfl (Nat.le_of_ble_eq_true rfl) (fun p e s m args below meth c C hr hlk => ?_)
  have iX7 : ∀ w ∈ u_ws RX7 TX7 8, w ∈ wsX7_faultlessType := by decide +kernel
  have f39 : (Cond.fieldLink RX7 39 RX7 (TX7 0).2.1 (TX7 0).2.2.1).before args s = true := C.2.2.2.2.1 _ (by decide +kernel)
  have iX4 : ∀ w ∈ u_ws RX4 TX4 8, w ∈ wsX7_faultlessType := by decide +kernel
  have f124 : (Cond.fieldLink RX7 124 RX4 (TX4 5).2.1 (TX4 5).2.2.1).before args s = true := C.2.2.2.2.1 _ (by decide +kernel)
  have f97 : (Cond.fieldLink RX7 97 RX4 (TX4 4).2.1 (TX4 4).2.2.1).before args s = true := C.2.2.2.2.1 _ (by decide +kernel)
  refine x_aload_n C dX7_faultlessType_0 rfl 0 rfl ?_
  refine x_getr C sh_69 rfl iX7 0 (by decide) f39 (fun _ h => h) (by decide) rfl dX7_faultlessType_1 ?_
  refine x_getr C sh_8 rfl iX4 5 (by decide) f124 (fun _ h => h) (by decide) rfl dX7_faultlessType_4 ?_
  refine x_iload_n C dX7_faultlessType_7 rfl 1 rfl ?_
  refine x_callV C sh_47 (by decide) rfl [.int x] (c_X1_method l V hV σ x) (cwV 1 C.2.2.2.2.1 gX7_faultlessType_X1_method rfl rfl rfl (by decide +kernel) ⟨Nat.le_of_ble_eq_true rfl, Nat.le_of_ble_eq_true rfl⟩) rfl rfl (Nat.le_of_ble_eq_true rfl) dX7_faultlessType_8 ⟨Nat.le_of_ble_eq_true rfl, Nat.le_of_ble_eq_true rfl⟩ (x_kI ?_)
  refine x_istore_n C [(2, .int (vAt 50 (σ 51) x)), (0, ra V 69), (1, .int x)] dX7_faultlessType_11 rfl (by decide) rfl ?_
  refine x_aload_n C dX7_faultlessType_12 rfl 1 rfl ?_
  refine x_getr C sh_69 rfl iX7 0 (by decide) f39 (fun _ h => h) (by decide) rfl dX7_faultlessType_13 ?_
  refine x_getr C sh_8 rfl iX4 5 (by decide) f124 (fun _ h => h) (by decide) rfl dX7_faultlessType_16 ?_
  refine x_iload_n C dX7_faultlessType_19 rfl 2 rfl ?_
  refine x_callV C sh_47 (by decide) rfl [.int x] (c_X1_detail l V hV σ x) (cwV 1 C.2.2.2.2.1 gX7_faultlessType_X1_detail rfl rfl rfl (by decide +kernel) ⟨Nat.le_of_ble_eq_true rfl, Nat.le_of_ble_eq_true rfl⟩) rfl rfl (Nat.le_of_ble_eq_true rfl) dX7_faultlessType_20 ⟨Nat.le_of_ble_eq_true rfl, Nat.le_of_ble_eq_true rfl⟩ (x_kI ?_)
  refine x_istore_n C [(3, .int (vAt 50 (σ 53) x)), (2, .int (vAt 50 (σ 51) x)), (0, ra V 69), (1, .int x)] dX7_faultlessType_23 rfl (by decide) rfl ?_
  refine x_aload_n C dX7_faultlessType_24 rfl 2 rfl ?_
  refine x_getr C sh_69 rfl iX7 0 (by decide) f39 (fun _ h => h) (by decide) rfl dX7_faultlessType_25 ?_
  refine x_getr C sh_8 rfl iX4 5 (by decide) f124 (fun _ h => h) (by decide) rfl dX7_faultlessType_28 ?_
  refine x_iload_n C dX7_faultlessType_31 rfl 3 rfl ?_
  refine x_callV C sh_47 (by decide) rfl [.int x] (c_X1_kind l V hV σ x) (cwV 1 C.2.2.2.2.1 gX7_faultlessType_X1_kind rfl rfl rfl (by decide +kernel) ⟨Nat.le_of_ble_eq_true rfl, Nat.le_of_ble_eq_true rfl⟩) rfl rfl (Nat.le_of_ble_eq_true rfl) dX7_faultlessType_32 ⟨Nat.le_of_ble_eq_true rfl, Nat.le_of_ble_eq_true rfl⟩ (x_kI ?_)
  by_cases e35_0 : vAt 50 (σ 49) x = (0 : Int32)
  · refine x_tswIn (hi := 3) C (j := 0) 64 e35_0 (by decide) (by decide) dX7_faultlessType_35 rfl rfl ?_
    refine x_iload_n C dX7_faultlessType_64 rfl 0 rfl ?_
    exact x_iret C hr hlk dX7_faultlessType_65 ⟨by simp [faT, e35_0], rfl⟩
  by_cases e35_1 : vAt 50 (σ 49) x = (1 : Int32)
  · refine x_tswIn (hi := 3) C (j := 1) 66 e35_1 (by decide) (by decide) dX7_faultlessType_35 rfl rfl ?_
    refine x_bipush C (8 : Int32) (by decide) dX7_faultlessType_66 ?_
    exact x_iret C hr hlk dX7_faultlessType_68 ⟨by simp [faT, e35_1], rfl⟩
  by_cases e35_2 : vAt 50 (σ 49) x = (2 : Int32)
  · refine x_tswIn (hi := 3) C (j := 2) 69 e35_2 (by decide) (by decide) dX7_faultlessType_35 rfl rfl ?_
    refine x_aload_n C dX7_faultlessType_69 rfl 2 rfl ?_
    refine x_getr C sh_69 rfl iX7 0 (by decide) f39 (fun _ h => h) (by decide) rfl dX7_faultlessType_70 ?_
    refine x_getr C sh_8 rfl iX4 4 (by decide) f97 (fun _ h => h) (by decide) rfl dX7_faultlessType_73 ?_
    refine x_iload_n C dX7_faultlessType_76 rfl 1 rfl ?_
    refine x_callV C sh_27 (by decide) rfl [.int (vAt 50 (σ 51) x)] (c_X3_owner l V hV σ (vAt 50 (σ 51) x)) (cwV 1 C.2.2.2.2.1 gX7_faultlessType_X3_owner rfl rfl rfl (by decide +kernel) ⟨Nat.le_of_ble_eq_true rfl, Nat.le_of_ble_eq_true rfl⟩) rfl rfl (Nat.le_of_ble_eq_true rfl) dX7_faultlessType_77 ⟨Nat.le_of_ble_eq_true rfl, Nat.le_of_ble_eq_true rfl⟩ (x_kI ?_)
    exact x_iret C hr hlk dX7_faultlessType_80 ⟨by simp [faT, e35_2], rfl⟩
  by_cases e35_3 : vAt 50 (σ 49) x = (3 : Int32)
  · refine x_tswIn (hi := 3) C (j := 3) 81 e35_3 (by decide) (by decide) dX7_faultlessType_35 rfl rfl ?_
    refine x_aload_n C dX7_faultlessType_81 rfl 2 rfl ?_
    refine x_getr C sh_69 rfl iX7 0 (by decide) f39 (fun _ h => h) (by decide) rfl dX7_faultlessType_82 ?_
    refine x_getr C sh_8 rfl iX4 4 (by decide) f97 (fun _ h => h) (by decide) rfl dX7_faultlessType_85 ?_
    refine x_iload_n C dX7_faultlessType_88 rfl 1 rfl ?_
    refine x_iload_n C dX7_faultlessType_89 rfl 0 rfl ?_
    refine x_callV C sh_27 (by decide) rfl [.int (vAt 50 (σ 51) x), .int (vAt 50 (σ 53) x)] (c_X3_parameter l V hV σ (vAt 50 (σ 51) x) (vAt 50 (σ 53) x)) (cwV 2 C.2.2.2.2.1 gX7_faultlessType_X3_parameter rfl rfl rfl (by decide +kernel) ⟨Nat.le_of_ble_eq_true rfl, Nat.le_of_ble_eq_true rfl⟩) rfl rfl (Nat.le_of_ble_eq_true rfl) dX7_faultlessType_90 ⟨Nat.le_of_ble_eq_true rfl, Nat.le_of_ble_eq_true rfl⟩ (x_kI ?_)
    exact x_iret C hr hlk dX7_faultlessType_93 ⟨by simp [faT, e35_3], rfl⟩
  refine x_tswOut (hi := 3) C 94 (by intro j hj; have : j = 0 ∨ j = 1 ∨ j = 2 ∨ j = 3 := (by omega); rcases this with rfl | rfl | rfl | rfl; exact e35_0; exact e35_1; exact e35_2; exact e35_3) (by decide) dX7_faultlessType_35 rfl ?_
  refine x_aload_n C dX7_faultlessType_94 rfl 2 rfl ?_
  refine x_getr C sh_69 rfl iX7 0 (by decide) f39 (fun _ h => h) (by decide) rfl dX7_faultlessType_95 ?_
  refine x_getr C sh_8 rfl iX4 4 (by decide) f97 (fun _ h => h) (by decide) rfl dX7_faultlessType_98 ?_
  refine x_aload_n C dX7_faultlessType_101 rfl 2 rfl ?_
  refine x_iload_n C dX7_faultlessType_102 rfl 3 rfl ?_
  refine x_callV C sh_69 (by decide) rfl [.int x] (c_X7_usedMember l V hV σ x) (cwV 1 C.2.2.2.2.1 gX7_faultlessType_X7_usedMember rfl rfl rfl (by decide +kernel) ⟨Nat.le_of_ble_eq_true rfl, Nat.le_of_ble_eq_true rfl⟩) rfl rfl (Nat.le_of_ble_eq_true rfl) dX7_faultlessType_103 ⟨Nat.le_of_ble_eq_true rfl, Nat.le_of_ble_eq_true rfl⟩ (x_kI ?_)
  refine x_callV C sh_27 (by decide) rfl [.int (useM σ x)] (c_X3_type l V hV σ (useM σ x)) (cwV 1 C.2.2.2.2.1 gX7_faultlessType_X3_type rfl rfl rfl (by decide +kernel) ⟨Nat.le_of_ble_eq_true rfl, Nat.le_of_ble_eq_true rfl⟩) rfl rfl (Nat.le_of_ble_eq_true rfl) dX7_faultlessType_106 ⟨Nat.le_of_ble_eq_true rfl, Nat.le_of_ble_eq_true rfl⟩ (x_kI ?_)
  exact x_iret C hr hlk dX7_faultlessType_109 ⟨by simp [faT, e35_0, e35_1, e35_2, e35_3], rfl⟩

set_option maxHeartbeats 4000000 in
set_option maxRecDepth 100000 in
theorem c_X7_giveTypes (l : Launch) (V : xV) (hV : xInj V) (σ : xS)   : xM l yX7_giveTypes wsX7_giveTypes ({ frames := 5, cells := 0, slots := 0, locals := 110 }) V [ra V 69] σ (rV (gts σ)) := by
  refine xM_of (cc := cX7_giveTypes) (maxL := 4) (ret := none) [(0, ra V 69)] hV (by decide) rfl rfl (Nat.le_of_ble_eq_true rfl) (fun p e s m args below meth c C hr hlk => ?_)
  have iX7 : ∀ w ∈ u_ws RX7 TX7 8, w ∈ wsX7_giveTypes := by decide +kernel
  have f39 : (Cond.fieldLink RX7 39 RX7 (TX7 0).2.1 (TX7 0).2.2.1).before args s = true := C.2.2.2.2.1 _ (by decide +kernel)
  have iX4 : ∀ w ∈ u_ws RX4 TX4 8, w ∈ wsX7_giveTypes := by decide +kernel
  have f124 : (Cond.fieldLink RX7 124 RX4 (TX4 5).2.1 (TX4 5).2.2.1).before args s = true := C.2.2.2.2.1 _ (by decide +kernel)
  have f29 : (Cond.fieldLink RX7 29 RX7 (TX7 5).2.1 (TX7 5).2.2.1).before args s = true := C.2.2.2.2.1 _ (by decide +kernel)
  have f32 : (Cond.fieldLink RX7 32 RX7 (TX7 6).2.1 (TX7 6).2.2.1).before args s = true := C.2.2.2.2.1 _ (by decide +kernel)
  have f35 : (Cond.fieldLink RX7 35 RX7 (TX7 7).2.1 (TX7 7).2.2.1).before args s = true := C.2.2.2.2.1 _ (by decide +kernel)
  refine x_iconst C (0 : Int32) (by decide) dX7_giveTypes_0 ?_
  refine x_istore_n C [(1, .int (0 : Int32)), (0, ra V 69)] dX7_giveTypes_1 rfl (by decide) rfl ?_
  refine x_lv [1, 0] [(0, ra V 69), (1, .int (0 : Int32))] rfl ?_
  refine x_loop (fun μ σ_ lv_ => ∃ (k : Nat), μ = (σ 205 0).toNatClampNeg - k ∧ upN gtStep k σ = σ_ ∧ lv_ = [(0, ra V 69), (1, .int (nI k))] ∧ k ≤ (σ 205 0).toNatClampNeg) ⟨_, ⟨0, rfl, rfl, rfl, Nat.zero_le _⟩⟩ ?_
  rintro μ2 _ _ ⟨k, hμ2, rfl, rfl, hc2_0⟩ ih2
  refine x_iload_n C dX7_giveTypes_2 rfl 1 rfl ?_
  refine x_aload_n C dX7_giveTypes_3 rfl 0 rfl ?_
  refine x_getr C sh_69 rfl iX7 0 (by decide) f39 (fun _ h => h) (by decide) rfl dX7_giveTypes_4 ?_
  refine x_getr C sh_8 rfl iX4 5 (by decide) f124 (fun _ h => h) (by decide) rfl dX7_giveTypes_7 ?_
  refine x_callV C sh_47 (by decide) rfl [] (c_X1_size l V hV (upN gtStep k σ) ) (cwV 0 C.2.2.2.2.1 gX7_giveTypes_X1_size rfl rfl rfl (by decide +kernel) ⟨Nat.le_of_ble_eq_true rfl, Nat.le_of_ble_eq_true rfl⟩) rfl rfl (Nat.le_of_ble_eq_true rfl) dX7_giveTypes_10 ⟨Nat.le_of_ble_eq_true rfl, Nat.le_of_ble_eq_true rfl⟩ (x_kI ?_)
  refine x_icmp_ge C 104 dX7_giveTypes_13 rfl (fun h1 => ?_) (fun h1 => ?_)
  · exact x_vret C hr hlk dX7_giveTypes_104 ⟨rfl, by rw [upN_keep (gtStep_keep (r := 205) (by decide) (by decide))] at h1; rw [← (show (σ 205 0).toNatClampNeg = k from Nat.le_antisymm ((le_nI (by have := clamp_lt (σ 205 0); omega)).mp h1) hc2_0)]; rfl⟩
  · rw [upN_keep (gtStep_keep (r := 205) (by decide) (by decide))] at h1
    have hkn : k < (σ 205 0).toNatClampNeg := Nat.lt_of_not_le (fun hq => h1 ((le_nI (by have := clamp_lt (σ 205 0); omega)).mpr hq))
    refine x_iconst C (0 : Int32) (by decide) dX7_giveTypes_16 ?_
    refine x_istore_n C [(2, .int (0 : Int32)), (0, ra V 69), (1, .int (nI k))] dX7_giveTypes_17 rfl (by decide) rfl ?_
    refine x_iconst C (-1 : Int32) (by decide) dX7_giveTypes_18 ?_
    refine x_istore_n C [(3, .int (-1 : Int32)), (2, .int (0 : Int32)), (0, ra V 69), (1, .int (nI k))] dX7_giveTypes_19 rfl (by decide) rfl ?_
    refine x_aload_n C dX7_giveTypes_20 rfl 2 rfl ?_
    refine x_iconst C (2 : Int32) (by decide) dX7_giveTypes_21 ?_
    refine x_aload_n C dX7_giveTypes_22 rfl 2 rfl ?_
    refine x_getr C sh_69 rfl iX7 0 (by decide) f39 (fun _ h => h) (by decide) rfl dX7_giveTypes_23 ?_
    refine x_getr C sh_8 rfl iX4 5 (by decide) f124 (fun _ h => h) (by decide) rfl dX7_giveTypes_26 ?_
    refine x_iload_n C dX7_giveTypes_29 rfl 3 rfl ?_
    refine x_callV C sh_47 (by decide) rfl [.int (nI k)] (c_X1_method l V hV (upN gtStep k σ) (nI k)) (cwV 1 C.2.2.2.2.1 gX7_giveTypes_X1_method rfl rfl rfl (by decide +kernel) ⟨Nat.le_of_ble_eq_true rfl, Nat.le_of_ble_eq_true rfl⟩) rfl rfl (Nat.le_of_ble_eq_true rfl) dX7_giveTypes_30 ⟨Nat.le_of_ble_eq_true rfl, Nat.le_of_ble_eq_true rfl⟩ (x_kI ?_)
    refine x_callV C sh_69 (by decide) rfl [.int (2 : Int32), .int (vAt 50 ((upN gtStep k σ) 51) (nI k))] (c_X7_isThere l V hV (upN gtStep k σ) (2 : Int32) (vAt 50 ((upN gtStep k σ) 51) (nI k))) (cwV 2 C.2.2.2.2.1 gX7_giveTypes_X7_isThere rfl rfl rfl (by decide +kernel) ⟨Nat.le_of_ble_eq_true rfl, Nat.le_of_ble_eq_true rfl⟩) rfl rfl (Nat.le_of_ble_eq_true rfl) dX7_giveTypes_33 ⟨Nat.le_of_ble_eq_true rfl, Nat.le_of_ble_eq_true rfl⟩ (x_kI ?_)
    refine x_bif_ne C 45 dX7_giveTypes_36 rfl (fun h2 => ?_) (fun h2 => ?_)
    · refine x_aload_n C dX7_giveTypes_45 rfl 2 rfl ?_
      refine x_iload_n C dX7_giveTypes_46 rfl 3 rfl ?_
      refine x_callV C sh_69 (by decide) rfl [.int (nI k)] (c_X7_havePartsTypes l V hV (upN gtStep k σ) (nI k)) (cwV 1 C.2.2.2.2.1 gX7_giveTypes_X7_havePartsTypes rfl rfl rfl (by decide +kernel) ⟨Nat.le_of_ble_eq_true rfl, Nat.le_of_ble_eq_true rfl⟩) rfl rfl (Nat.le_of_ble_eq_true rfl) dX7_giveTypes_47 ⟨Nat.le_of_ble_eq_true rfl, Nat.le_of_ble_eq_true rfl⟩ (x_kI ?_)
      refine x_bif_eq C 73 dX7_giveTypes_50 rfl (fun h3 => ?_) (fun h3 => ?_)
      · refine x_aload_n C dX7_giveTypes_73 rfl 2 rfl ?_
        refine x_getr C sh_69 rfl iX7 5 (by decide) f29 (fun _ h => h) (by decide) rfl dX7_giveTypes_74 ?_
        refine x_iload_n C dX7_giveTypes_77 rfl 3 rfl ?_
        refine x_iload_n C dX7_giveTypes_78 rfl 1 rfl ?_
        refine x_callV C sh_78 (by decide) rfl [.int (nI k), .int (0 : Int32)] (c_X5_put l V hV (upN gtStep k σ) 78 79 50 sh_78 sh_79 (by decide) (nI k) (0 : Int32)) (cwV 2 C.2.2.2.2.1 gX7_giveTypes_X5_put rfl rfl rfl (by decide +kernel) ⟨Nat.le_of_ble_eq_true rfl, Nat.le_of_ble_eq_true rfl⟩) rfl rfl (Nat.le_of_ble_eq_true rfl) dX7_giveTypes_79 ⟨Nat.le_of_ble_eq_true rfl, Nat.le_of_ble_eq_true rfl⟩ (x_kV ?_)
        refine x_aload_n C dX7_giveTypes_82 rfl 2 rfl ?_
        refine x_getr C sh_69 rfl iX7 6 (by decide) f32 (fun _ h => h) (by decide) rfl dX7_giveTypes_83 ?_
        refine x_iload_n C dX7_giveTypes_86 rfl 3 rfl ?_
        refine x_aload_n C dX7_giveTypes_87 rfl 2 rfl ?_
        refine x_geti C sh_69 rfl iX7 7 (by decide) f35 (fun _ h => h) (by decide) rfl dX7_giveTypes_88 ?_
        refine x_callS C [.int (nI k), .int ((vPut (upN gtStep k σ) 79 50 (nI k) (0 : Int32)) 206 0)] (c_X7_typePlace l V hV (vPut (upN gtStep k σ) 79 50 (nI k) (0 : Int32)) (nI k) ((vPut (upN gtStep k σ) 79 50 (nI k) (0 : Int32)) 206 0)) (va_cwS 2 C.2.2.2.2.1 gX7_giveTypes_X7_typePlace rfl rfl rfl (by decide +kernel) ⟨Nat.le_of_ble_eq_true rfl, Nat.le_of_ble_eq_true rfl⟩) rfl rfl (Nat.le_of_ble_eq_true rfl) dX7_giveTypes_91 ⟨Nat.le_of_ble_eq_true rfl, Nat.le_of_ble_eq_true rfl⟩ (x_kI ?_)
        refine x_iload_n C dX7_giveTypes_94 rfl 0 rfl ?_
        refine x_callV C sh_80 (by decide) rfl [.int (tyP (nI k) ((vPut (upN gtStep k σ) 79 50 (nI k) (0 : Int32)) 206 0)), .int (-1 : Int32)] (c_X5_put l V hV (vPut (upN gtStep k σ) 79 50 (nI k) (0 : Int32)) 80 81 800 sh_80 sh_81 (by decide) (tyP (nI k) ((vPut (upN gtStep k σ) 79 50 (nI k) (0 : Int32)) 206 0)) (-1 : Int32)) (cwV 2 C.2.2.2.2.1 gX7_giveTypes_X5_put rfl rfl rfl (by decide +kernel) ⟨Nat.le_of_ble_eq_true rfl, Nat.le_of_ble_eq_true rfl⟩) rfl rfl (Nat.le_of_ble_eq_true rfl) dX7_giveTypes_95 ⟨Nat.le_of_ble_eq_true rfl, Nat.le_of_ble_eq_true rfl⟩ (x_kV ?_)
        refine x_iinc C (q := 3) ((nI k) + (1 : Int32)) [(1, .int ((nI k) + (1 : Int32))), (3, .int (-1 : Int32)), (2, .int (0 : Int32)), (0, ra V 69)] dX7_giveTypes_98 rfl rfl (by decide) rfl ?_
        refine x_goto C 2 dX7_giveTypes_101 rfl ?_
        refine x_lv [3, 0] [(0, ra V 69), (1, .int ((nI k) + (1 : Int32)))] rfl ?_
        exact ih2 _ _ _ (by omega) ⟨k + 1, rfl, Eq.symm (by simp [upN, gtStep, gtF, gtT, vPut_ne, h2, h3]), by rw [nI_succ], hkn⟩
      · refine x_aload_n C dX7_giveTypes_53 rfl 2 rfl ?_
        refine x_iload_n C dX7_giveTypes_54 rfl 3 rfl ?_
        refine x_callV C sh_69 (by decide) rfl [.int (nI k)] (c_X7_findFault l V hV (upN gtStep k σ) (nI k)) (cwV 1 C.2.2.2.2.1 gX7_giveTypes_X7_findFault rfl rfl rfl (by decide +kernel) ⟨Nat.le_of_ble_eq_true rfl, Nat.le_of_ble_eq_true rfl⟩) rfl rfl (Nat.le_of_ble_eq_true rfl) dX7_giveTypes_55 ⟨Nat.le_of_ble_eq_true rfl, Nat.le_of_ble_eq_true rfl⟩ (x_kI ?_)
        refine x_istore_n C [(2, .int (fndF (upN gtStep k σ) (nI k))), (3, .int (-1 : Int32)), (0, ra V 69), (1, .int (nI k))] dX7_giveTypes_58 rfl (by decide) rfl ?_
        refine x_iload_n C dX7_giveTypes_59 rfl 0 rfl ?_
        refine x_if_ne C 71 dX7_giveTypes_60 rfl (fun h4 => ?_) (fun h4 => ?_)
        · refine x_iconst C (-1 : Int32) (by decide) dX7_giveTypes_71 ?_
          refine x_istore_n C [(3, .int (-1 : Int32)), (2, .int (fndF (upN gtStep k σ) (nI k))), (0, ra V 69), (1, .int (nI k))] dX7_giveTypes_72 rfl (by decide) rfl ?_
          refine x_aload_n C dX7_giveTypes_73 rfl 2 rfl ?_
          refine x_getr C sh_69 rfl iX7 5 (by decide) f29 (fun _ h => h) (by decide) rfl dX7_giveTypes_74 ?_
          refine x_iload_n C dX7_giveTypes_77 rfl 3 rfl ?_
          refine x_iload_n C dX7_giveTypes_78 rfl 1 rfl ?_
          refine x_callV C sh_78 (by decide) rfl [.int (nI k), .int (fndF (upN gtStep k σ) (nI k))] (c_X5_put l V hV (upN gtStep k σ) 78 79 50 sh_78 sh_79 (by decide) (nI k) (fndF (upN gtStep k σ) (nI k))) (cwV 2 C.2.2.2.2.1 gX7_giveTypes_X5_put rfl rfl rfl (by decide +kernel) ⟨Nat.le_of_ble_eq_true rfl, Nat.le_of_ble_eq_true rfl⟩) rfl rfl (Nat.le_of_ble_eq_true rfl) dX7_giveTypes_79 ⟨Nat.le_of_ble_eq_true rfl, Nat.le_of_ble_eq_true rfl⟩ (x_kV ?_)
          refine x_aload_n C dX7_giveTypes_82 rfl 2 rfl ?_
          refine x_getr C sh_69 rfl iX7 6 (by decide) f32 (fun _ h => h) (by decide) rfl dX7_giveTypes_83 ?_
          refine x_iload_n C dX7_giveTypes_86 rfl 3 rfl ?_
          refine x_aload_n C dX7_giveTypes_87 rfl 2 rfl ?_
          refine x_geti C sh_69 rfl iX7 7 (by decide) f35 (fun _ h => h) (by decide) rfl dX7_giveTypes_88 ?_
          refine x_callS C [.int (nI k), .int ((vPut (upN gtStep k σ) 79 50 (nI k) (fndF (upN gtStep k σ) (nI k))) 206 0)] (c_X7_typePlace l V hV (vPut (upN gtStep k σ) 79 50 (nI k) (fndF (upN gtStep k σ) (nI k))) (nI k) ((vPut (upN gtStep k σ) 79 50 (nI k) (fndF (upN gtStep k σ) (nI k))) 206 0)) (va_cwS 2 C.2.2.2.2.1 gX7_giveTypes_X7_typePlace rfl rfl rfl (by decide +kernel) ⟨Nat.le_of_ble_eq_true rfl, Nat.le_of_ble_eq_true rfl⟩) rfl rfl (Nat.le_of_ble_eq_true rfl) dX7_giveTypes_91 ⟨Nat.le_of_ble_eq_true rfl, Nat.le_of_ble_eq_true rfl⟩ (x_kI ?_)
          refine x_iload_n C dX7_giveTypes_94 rfl 0 rfl ?_
          refine x_callV C sh_80 (by decide) rfl [.int (tyP (nI k) ((vPut (upN gtStep k σ) 79 50 (nI k) (fndF (upN gtStep k σ) (nI k))) 206 0)), .int (-1 : Int32)] (c_X5_put l V hV (vPut (upN gtStep k σ) 79 50 (nI k) (fndF (upN gtStep k σ) (nI k))) 80 81 800 sh_80 sh_81 (by decide) (tyP (nI k) ((vPut (upN gtStep k σ) 79 50 (nI k) (fndF (upN gtStep k σ) (nI k))) 206 0)) (-1 : Int32)) (cwV 2 C.2.2.2.2.1 gX7_giveTypes_X5_put rfl rfl rfl (by decide +kernel) ⟨Nat.le_of_ble_eq_true rfl, Nat.le_of_ble_eq_true rfl⟩) rfl rfl (Nat.le_of_ble_eq_true rfl) dX7_giveTypes_95 ⟨Nat.le_of_ble_eq_true rfl, Nat.le_of_ble_eq_true rfl⟩ (x_kV ?_)
          refine x_iinc C (q := 3) ((nI k) + (1 : Int32)) [(1, .int ((nI k) + (1 : Int32))), (3, .int (-1 : Int32)), (2, .int (fndF (upN gtStep k σ) (nI k))), (0, ra V 69)] dX7_giveTypes_98 rfl rfl (by decide) rfl ?_
          refine x_goto C 2 dX7_giveTypes_101 rfl ?_
          refine x_lv [3, 0] [(0, ra V 69), (1, .int ((nI k) + (1 : Int32)))] rfl ?_
          exact ih2 _ _ _ (by omega) ⟨k + 1, rfl, Eq.symm (by simp [upN, gtStep, gtF, gtT, vPut_ne, h2, h3, h4]), by rw [nI_succ], hkn⟩
        · refine x_aload_n C dX7_giveTypes_63 rfl 2 rfl ?_
          refine x_iload_n C dX7_giveTypes_64 rfl 3 rfl ?_
          refine x_callV C sh_69 (by decide) rfl [.int (nI k)] (c_X7_faultlessType l V hV (upN gtStep k σ) (nI k)) (cwV 1 C.2.2.2.2.1 gX7_giveTypes_X7_faultlessType rfl rfl rfl (by decide +kernel) ⟨Nat.le_of_ble_eq_true rfl, Nat.le_of_ble_eq_true rfl⟩) rfl rfl (Nat.le_of_ble_eq_true rfl) dX7_giveTypes_65 ⟨Nat.le_of_ble_eq_true rfl, Nat.le_of_ble_eq_true rfl⟩ (x_kI ?_)
          refine x_goto C 72 dX7_giveTypes_68 rfl ?_
          refine x_istore_n C [(3, .int (faT (upN gtStep k σ) (nI k))), (2, .int (fndF (upN gtStep k σ) (nI k))), (0, ra V 69), (1, .int (nI k))] dX7_giveTypes_72 rfl (by decide) rfl ?_
          refine x_aload_n C dX7_giveTypes_73 rfl 2 rfl ?_
          refine x_getr C sh_69 rfl iX7 5 (by decide) f29 (fun _ h => h) (by decide) rfl dX7_giveTypes_74 ?_
          refine x_iload_n C dX7_giveTypes_77 rfl 3 rfl ?_
          refine x_iload_n C dX7_giveTypes_78 rfl 1 rfl ?_
          refine x_callV C sh_78 (by decide) rfl [.int (nI k), .int (fndF (upN gtStep k σ) (nI k))] (c_X5_put l V hV (upN gtStep k σ) 78 79 50 sh_78 sh_79 (by decide) (nI k) (fndF (upN gtStep k σ) (nI k))) (cwV 2 C.2.2.2.2.1 gX7_giveTypes_X5_put rfl rfl rfl (by decide +kernel) ⟨Nat.le_of_ble_eq_true rfl, Nat.le_of_ble_eq_true rfl⟩) rfl rfl (Nat.le_of_ble_eq_true rfl) dX7_giveTypes_79 ⟨Nat.le_of_ble_eq_true rfl, Nat.le_of_ble_eq_true rfl⟩ (x_kV ?_)
          refine x_aload_n C dX7_giveTypes_82 rfl 2 rfl ?_
          refine x_getr C sh_69 rfl iX7 6 (by decide) f32 (fun _ h => h) (by decide) rfl dX7_giveTypes_83 ?_
          refine x_iload_n C dX7_giveTypes_86 rfl 3 rfl ?_
          refine x_aload_n C dX7_giveTypes_87 rfl 2 rfl ?_
          refine x_geti C sh_69 rfl iX7 7 (by decide) f35 (fun _ h => h) (by decide) rfl dX7_giveTypes_88 ?_
          refine x_callS C [.int (nI k), .int ((vPut (upN gtStep k σ) 79 50 (nI k) (fndF (upN gtStep k σ) (nI k))) 206 0)] (c_X7_typePlace l V hV (vPut (upN gtStep k σ) 79 50 (nI k) (fndF (upN gtStep k σ) (nI k))) (nI k) ((vPut (upN gtStep k σ) 79 50 (nI k) (fndF (upN gtStep k σ) (nI k))) 206 0)) (va_cwS 2 C.2.2.2.2.1 gX7_giveTypes_X7_typePlace rfl rfl rfl (by decide +kernel) ⟨Nat.le_of_ble_eq_true rfl, Nat.le_of_ble_eq_true rfl⟩) rfl rfl (Nat.le_of_ble_eq_true rfl) dX7_giveTypes_91 ⟨Nat.le_of_ble_eq_true rfl, Nat.le_of_ble_eq_true rfl⟩ (x_kI ?_)
          refine x_iload_n C dX7_giveTypes_94 rfl 0 rfl ?_
          refine x_callV C sh_80 (by decide) rfl [.int (tyP (nI k) ((vPut (upN gtStep k σ) 79 50 (nI k) (fndF (upN gtStep k σ) (nI k))) 206 0)), .int (faT (upN gtStep k σ) (nI k))] (c_X5_put l V hV (vPut (upN gtStep k σ) 79 50 (nI k) (fndF (upN gtStep k σ) (nI k))) 80 81 800 sh_80 sh_81 (by decide) (tyP (nI k) ((vPut (upN gtStep k σ) 79 50 (nI k) (fndF (upN gtStep k σ) (nI k))) 206 0)) (faT (upN gtStep k σ) (nI k))) (cwV 2 C.2.2.2.2.1 gX7_giveTypes_X5_put rfl rfl rfl (by decide +kernel) ⟨Nat.le_of_ble_eq_true rfl, Nat.le_of_ble_eq_true rfl⟩) rfl rfl (Nat.le_of_ble_eq_true rfl) dX7_giveTypes_95 ⟨Nat.le_of_ble_eq_true rfl, Nat.le_of_ble_eq_true rfl⟩ (x_kV ?_)
          refine x_iinc C (q := 3) ((nI k) + (1 : Int32)) [(1, .int ((nI k) + (1 : Int32))), (3, .int (faT (upN gtStep k σ) (nI k))), (2, .int (fndF (upN gtStep k σ) (nI k))), (0, ra V 69)] dX7_giveTypes_98 rfl rfl (by decide) rfl ?_
          refine x_goto C 2 dX7_giveTypes_101 rfl ?_
          refine x_lv [3, 0] [(0, ra V 69), (1, .int ((nI k) + (1 : Int32)))] rfl ?_
          exact ih2 _ _ _ (by omega) ⟨k + 1, rfl, Eq.symm (by simp [upN, gtStep, gtF, gtT, vPut_ne, h2, h3, eq_true h4]), by rw [nI_succ], hkn⟩
    · refine x_bipush C (-2 : Int32) (by decide) dX7_giveTypes_39 ?_
      refine x_istore_n C [(3, .int (-2 : Int32)), (2, .int (0 : Int32)), (0, ra V 69), (1, .int (nI k))] dX7_giveTypes_41 rfl (by decide) rfl ?_
      refine x_goto C 73 dX7_giveTypes_42 rfl ?_
      refine x_aload_n C dX7_giveTypes_73 rfl 2 rfl ?_
      refine x_getr C sh_69 rfl iX7 5 (by decide) f29 (fun _ h => h) (by decide) rfl dX7_giveTypes_74 ?_
      refine x_iload_n C dX7_giveTypes_77 rfl 3 rfl ?_
      refine x_iload_n C dX7_giveTypes_78 rfl 1 rfl ?_
      refine x_callV C sh_78 (by decide) rfl [.int (nI k), .int (0 : Int32)] (c_X5_put l V hV (upN gtStep k σ) 78 79 50 sh_78 sh_79 (by decide) (nI k) (0 : Int32)) (cwV 2 C.2.2.2.2.1 gX7_giveTypes_X5_put rfl rfl rfl (by decide +kernel) ⟨Nat.le_of_ble_eq_true rfl, Nat.le_of_ble_eq_true rfl⟩) rfl rfl (Nat.le_of_ble_eq_true rfl) dX7_giveTypes_79 ⟨Nat.le_of_ble_eq_true rfl, Nat.le_of_ble_eq_true rfl⟩ (x_kV ?_)
      refine x_aload_n C dX7_giveTypes_82 rfl 2 rfl ?_
      refine x_getr C sh_69 rfl iX7 6 (by decide) f32 (fun _ h => h) (by decide) rfl dX7_giveTypes_83 ?_
      refine x_iload_n C dX7_giveTypes_86 rfl 3 rfl ?_
      refine x_aload_n C dX7_giveTypes_87 rfl 2 rfl ?_
      refine x_geti C sh_69 rfl iX7 7 (by decide) f35 (fun _ h => h) (by decide) rfl dX7_giveTypes_88 ?_
      refine x_callS C [.int (nI k), .int ((vPut (upN gtStep k σ) 79 50 (nI k) (0 : Int32)) 206 0)] (c_X7_typePlace l V hV (vPut (upN gtStep k σ) 79 50 (nI k) (0 : Int32)) (nI k) ((vPut (upN gtStep k σ) 79 50 (nI k) (0 : Int32)) 206 0)) (va_cwS 2 C.2.2.2.2.1 gX7_giveTypes_X7_typePlace rfl rfl rfl (by decide +kernel) ⟨Nat.le_of_ble_eq_true rfl, Nat.le_of_ble_eq_true rfl⟩) rfl rfl (Nat.le_of_ble_eq_true rfl) dX7_giveTypes_91 ⟨Nat.le_of_ble_eq_true rfl, Nat.le_of_ble_eq_true rfl⟩ (x_kI ?_)
      refine x_iload_n C dX7_giveTypes_94 rfl 0 rfl ?_
      refine x_callV C sh_80 (by decide) rfl [.int (tyP (nI k) ((vPut (upN gtStep k σ) 79 50 (nI k) (0 : Int32)) 206 0)), .int (-2 : Int32)] (c_X5_put l V hV (vPut (upN gtStep k σ) 79 50 (nI k) (0 : Int32)) 80 81 800 sh_80 sh_81 (by decide) (tyP (nI k) ((vPut (upN gtStep k σ) 79 50 (nI k) (0 : Int32)) 206 0)) (-2 : Int32)) (cwV 2 C.2.2.2.2.1 gX7_giveTypes_X5_put rfl rfl rfl (by decide +kernel) ⟨Nat.le_of_ble_eq_true rfl, Nat.le_of_ble_eq_true rfl⟩) rfl rfl (Nat.le_of_ble_eq_true rfl) dX7_giveTypes_95 ⟨Nat.le_of_ble_eq_true rfl, Nat.le_of_ble_eq_true rfl⟩ (x_kV ?_)
      refine x_iinc C (q := 3) ((nI k) + (1 : Int32)) [(1, .int ((nI k) + (1 : Int32))), (3, .int (-2 : Int32)), (2, .int (0 : Int32)), (0, ra V 69)] dX7_giveTypes_98 rfl rfl (by decide) rfl ?_
      refine x_goto C 2 dX7_giveTypes_101 rfl ?_
      refine x_lv [3, 0] [(0, ra V 69), (1, .int ((nI k) + (1 : Int32)))] rfl ?_
      exact ih2 _ _ _ (by omega) ⟨k + 1, rfl, Eq.symm (by simp [upN, gtStep, gtF, gtT, vPut_ne, h2]), by rw [nI_succ], hkn⟩

/-! What the small methods answer. -/
def cfgB (on off : Int32) (c : Nat) : Bool := decide (nI c &&& on = on) && decide (nI c &&& off = 0)
def cfgI (on off : Int32) : Int32 := maskI (cfgB on off) 16
def featB (f : Int32) : Bool := decide (¬ f < 0) && decide (¬ (4 : Int32) ≤ f)
def nameB (x : Int32) : Bool := decide (¬ x < 0) && decide (¬ (10 : Int32) ≤ x)
def condB (on off : Int32) : Bool := decide (¬ on < 0) && (decide (¬ (16 : Int32) ≤ on) && (decide (¬ off < 0) && (decide (¬ (16 : Int32) ≤ off) && decide (on &&& off = 0))))
def cHas (σ : xS) (q : Nat) (i : Int32) : Bool := decide (¬ i < 0) && decide (¬ σ q 0 ≤ i)
def cPut (σ : xS) (b n : Nat) (i on off : Int32) : xS := vPut (vPut (vPut σ (b + 2) n i on) (b + 4) n i off) (b + 6) n i (cfgI on off)
def cApp (σ : xS) (b n q : Nat) (on off : Int32) : xS := cPut (xw σ q 0 (σ q 0 + 1)) b n (σ q 0) on off
def cChg (σ : xS) (b n : Nat) (i on off : Int32) : Bool := !(decide (vAt n (σ (b + 2)) i = on) && decide (vAt n (σ (b + 4)) i = off))
def eSet (σ : xS) (i o f s : Int32) : xS := vPut (vPut (vPut σ 55 50 i o) 57 50 i f) 59 50 i s
def eApp (σ : xS) (k m d : Int32) : xS := eSet (vPut (vPut (vPut (xw σ 205 0 (σ 205 0 + 1)) 49 50 (σ 205 0) k) 51 50 (σ 205 0) m) 53 50 (σ 205 0) d) (σ 205 0) (-1) (-1) (-1)
def eOrN (σ : xS) (i : Int32) : Bool := decide (i = -1) || cHas σ 205 i
def eTog (σ : xS) (e a : Int32) : Bool := decide (a = -1) || decide (vAt 50 (σ 51) a = vAt 50 (σ 51) e)
def mApp (σ : xS) (sort owner name on off : Int32) : xS := vPut (vPut (vPut (cApp σ 28 24 203 on off) 36 24 (σ 203 0) sort) 38 24 (σ 203 0) owner) 40 24 (σ 203 0) name
def mTyp (σ : xS) (i t f s : Int32) : xS := vPut (vPut (vPut σ 42 24 i t) 44 24 i f) 46 24 i s
def mPar (σ : xS) (i x : Int32) : Int32 := if x = 0 then vAt 24 (σ 44) i else if x = 1 then vAt 24 (σ 46) i else -1
def mIsM (σ : xS) (i : Int32) : Bool := cHas σ 203 i && decide (vAt 24 (σ 36) i = 1)
def rApp (σ : xS) (k f g : Int32) : xS := xw (vPut (vPut (vPut σ 3 8 (σ 200 0) k) 5 8 (σ 200 0) f) 7 8 (σ 200 0) g) 200 0 (σ 200 0 + 1)
/-- a rule is broken in a configuration -/
def rBad (σ : xS) (c : Int32) (j : Nat) : Bool := isInB c (vAt 8 (σ 5) (nI j)) && (isInB c (vAt 8 (σ 7) (nI j)) == decide (vAt 8 (σ 3) (nI j) = 1))
def rKeptN (σ : xS) (c : Int32) : Nat → Bool
  | 0 => true
  | k + 1 => rKeptN σ c k && !rBad σ c k
def rKept (σ : xS) (c : Int32) : Bool := rKeptN σ c (σ 200 0).toNatClampNeg
def allI (σ : xS) : Int32 := maskI (fun c => rKept σ (nI c)) 16
def hasT (σ : xS) (t : Int32) : Bool := decide (t = 8) || cHas σ 201 t
def hasPs (σ : xS) (f s : Int32) : Bool := if f = -1 then decide (s = -1) else hasT σ f && (decide (s = -1) || hasT σ s)
def szQ (s : Int32) : Nat := if s = 0 then 201 else if s = 1 then 202 else if s = 2 then 203 else if s = 4 then 205 else 204
def hasE (σ : xS) (s i : Int32) : Bool := decide (¬ s < 0) && (decide (¬ (3 : Int32) < s) && cHas σ (szQ s) i)
def resM (σ : xS) (i : Int32) : Int32 := vAt 50 (σ 51) (vAt 16 (σ 68) i)
def wT (σ : xS) (s i : Int32) : Int32 :=
  if s = 1 then vAt 12 (σ 22) i &&& vAt 8 (σ 15) (vAt 12 (σ 24) i) &&& vAt 8 (σ 15) (vAt 12 (σ 26) i)
  else if s = 2 then vAt 24 (σ 34) i &&& vAt 8 (σ 15) (vAt 24 (σ 38) i)
  else if s = 3 then vAt 16 (σ 66) i &&& vAt 24 (σ 34) (resM σ i) &&& vAt 8 (σ 15) (vAt 24 (σ 38) (resM σ i))
  else vAt 8 (σ 15) i
theorem bI_ite (b : Bool) : (if b = true then (1 : Int32) else 0) = bI b := by cases b <;> rfl

set_option maxHeartbeats 4000000 in
set_option maxRecDepth 100000 in
theorem c_X8_isIn (l : Launch) (V : xV) (hV : xInj V) (σ : xS) (x i : Int32) : xM l yX8_isIn wsX8_isIn ({ frames := 0, cells := 0, slots := 0, locals := 0 }) V [.int x, .int i] σ (rI (bI (isInB x i)) σ) := by
  refine xM_of (cc := cX8_isIn) (maxL := 2) (ret := (some .boolean)) [(0, .int x), (1, .int i)] hV (by decide) rfl rfl (Nat.le_of_ble_eq_true rfl) (fun p e s m args below meth c C hr hlk => ?_)
  refine x_iload_n C dX8_isIn_0 rfl 1 rfl ?_
  refine x_if_lt C 23 dX8_isIn_1 rfl (fun h1 => ?_) (fun h1 => ?_)
  · refine x_iconst C (0 : Int32) (by decide) dX8_isIn_23 ?_
    exact x_zret C false rfl hr hlk dX8_isIn_24 ⟨by simp [isInB, h1], rfl⟩
  · refine x_iload_n C dX8_isIn_4 rfl 1 rfl ?_
    refine x_bipush C (32 : Int32) (by decide) dX8_isIn_5 ?_
    refine x_icmp_ge C 23 dX8_isIn_7 rfl (fun h2 => ?_) (fun h2 => ?_)
    · refine x_iconst C (0 : Int32) (by decide) dX8_isIn_23 ?_
      exact x_zret C false rfl hr hlk dX8_isIn_24 ⟨by simp [isInB, h1, h2], rfl⟩
    · refine x_iload_n C dX8_isIn_10 rfl 0 rfl ?_
      refine x_iload_n C dX8_isIn_11 rfl 1 rfl ?_
      refine x_ishr C dX8_isIn_12 ?_
      refine x_iconst C (1 : Int32) (by decide) dX8_isIn_13 ?_
      refine x_iand C dX8_isIn_14 ?_
      refine x_iconst C (1 : Int32) (by decide) dX8_isIn_15 ?_
      refine x_icmp_ne C 23 dX8_isIn_16 rfl (fun h3 => ?_) (fun h3 => ?_)
      · refine x_iconst C (0 : Int32) (by decide) dX8_isIn_23 ?_
        exact x_zret C false rfl hr hlk dX8_isIn_24 ⟨by simp [isInB, h1, h2, h3], rfl⟩
      · refine x_iconst C (1 : Int32) (by decide) dX8_isIn_19 ?_
        refine x_goto C 24 dX8_isIn_20 rfl ?_
        exact x_zret C true rfl hr hlk dX8_isIn_24 ⟨by simp [isInB, h1, h2, eq_true h3], rfl⟩

set_option maxHeartbeats 4000000 in
set_option maxRecDepth 100000 in
theorem c_X8_isFeature (l : Launch) (V : xV) (hV : xInj V) (σ : xS) (x : Int32) : xM l yX8_isFeature wsX8_isFeature ({ frames := 0, cells := 0, slots := 0, locals := 0 }) V [.int x] σ (rI (bI (featB x)) σ) := by
  refine xM_of (cc := cX8_isFeature) (maxL := 1) (ret := (some .boolean)) [(0, .int x)] hV (by decide) rfl rfl (Nat.le_of_ble_eq_true rfl) (fun p e s m args below meth c C hr hlk => ?_)
  refine x_iload_n C dX8_isFeature_0 rfl 0 rfl ?_
  refine x_if_lt C 13 dX8_isFeature_1 rfl (fun h1 => ?_) (fun h1 => ?_)
  · refine x_iconst C (0 : Int32) (by decide) dX8_isFeature_13 ?_
    exact x_zret C false rfl hr hlk dX8_isFeature_14 ⟨by simp [featB, h1], rfl⟩
  · refine x_iload_n C dX8_isFeature_4 rfl 0 rfl ?_
    refine x_iconst C (4 : Int32) (by decide) dX8_isFeature_5 ?_
    refine x_icmp_ge C 13 dX8_isFeature_6 rfl (fun h2 => ?_) (fun h2 => ?_)
    · refine x_iconst C (0 : Int32) (by decide) dX8_isFeature_13 ?_
      exact x_zret C false rfl hr hlk dX8_isFeature_14 ⟨by simp [featB, h1, h2], rfl⟩
    · refine x_iconst C (1 : Int32) (by decide) dX8_isFeature_9 ?_
      refine x_goto C 14 dX8_isFeature_10 rfl ?_
      exact x_zret C true rfl hr hlk dX8_isFeature_14 ⟨by simp [featB, h1, h2], rfl⟩

set_option maxHeartbeats 4000000 in
set_option maxRecDepth 100000 in
theorem c_X8_isName (l : Launch) (V : xV) (hV : xInj V) (σ : xS) (x : Int32) : xM l yX8_isName wsX8_isName ({ frames := 0, cells := 0, slots := 0, locals := 0 }) V [.int x] σ (rI (bI (nameB x)) σ) := by
  refine xM_of (cc := cX8_isName) (maxL := 1) (ret := (some .boolean)) [(0, .int x)] hV (by decide) rfl rfl (Nat.le_of_ble_eq_true rfl) (fun p e s m args below meth c C hr hlk => ?_)
  refine x_iload_n C dX8_isName_0 rfl 0 rfl ?_
  refine x_if_lt C 14 dX8_isName_1 rfl (fun h1 => ?_) (fun h1 => ?_)
  · refine x_iconst C (0 : Int32) (by decide) dX8_isName_14 ?_
    exact x_zret C false rfl hr hlk dX8_isName_15 ⟨by simp [nameB, h1], rfl⟩
  · refine x_iload_n C dX8_isName_4 rfl 0 rfl ?_
    refine x_bipush C (10 : Int32) (by decide) dX8_isName_5 ?_
    refine x_icmp_ge C 14 dX8_isName_7 rfl (fun h2 => ?_) (fun h2 => ?_)
    · refine x_iconst C (0 : Int32) (by decide) dX8_isName_14 ?_
      exact x_zret C false rfl hr hlk dX8_isName_15 ⟨by simp [nameB, h1, h2], rfl⟩
    · refine x_iconst C (1 : Int32) (by decide) dX8_isName_10 ?_
      refine x_goto C 15 dX8_isName_11 rfl ?_
      exact x_zret C true rfl hr hlk dX8_isName_15 ⟨by simp [nameB, h1, h2], rfl⟩

set_option maxHeartbeats 4000000 in
set_option maxRecDepth 100000 in
theorem c_X8_isCondition (l : Launch) (V : xV) (hV : xInj V) (σ : xS) (x y : Int32) : xM l yX8_isCondition wsX8_isCondition ({ frames := 0, cells := 0, slots := 0, locals := 0 }) V [.int x, .int y] σ (rI (bI (condB x y)) σ) := by
  refine xM_of (cc := cX8_isCondition) (maxL := 2) (ret := (some .boolean)) [(0, .int x), (1, .int y)] hV (by decide) rfl rfl (Nat.le_of_ble_eq_true rfl) (fun p e s m args below meth c C hr hlk => ?_)
  refine x_iload_n C dX8_isCondition_0 rfl 0 rfl ?_
  refine x_if_lt C 30 dX8_isCondition_1 rfl (fun h1 => ?_) (fun h1 => ?_)
  · refine x_iconst C (0 : Int32) (by decide) dX8_isCondition_30 ?_
    exact x_zret C false rfl hr hlk dX8_isCondition_31 ⟨by simp [condB, h1], rfl⟩
  · refine x_iload_n C dX8_isCondition_4 rfl 0 rfl ?_
    refine x_bipush C (16 : Int32) (by decide) dX8_isCondition_5 ?_
    refine x_icmp_ge C 30 dX8_isCondition_7 rfl (fun h2 => ?_) (fun h2 => ?_)
    · refine x_iconst C (0 : Int32) (by decide) dX8_isCondition_30 ?_
      exact x_zret C false rfl hr hlk dX8_isCondition_31 ⟨by simp [condB, h1, h2], rfl⟩
    · refine x_iload_n C dX8_isCondition_10 rfl 1 rfl ?_
      refine x_if_lt C 30 dX8_isCondition_11 rfl (fun h3 => ?_) (fun h3 => ?_)
      · refine x_iconst C (0 : Int32) (by decide) dX8_isCondition_30 ?_
        exact x_zret C false rfl hr hlk dX8_isCondition_31 ⟨by simp [condB, h1, h2, h3], rfl⟩
      · refine x_iload_n C dX8_isCondition_14 rfl 1 rfl ?_
        refine x_bipush C (16 : Int32) (by decide) dX8_isCondition_15 ?_
        refine x_icmp_ge C 30 dX8_isCondition_17 rfl (fun h4 => ?_) (fun h4 => ?_)
        · refine x_iconst C (0 : Int32) (by decide) dX8_isCondition_30 ?_
          exact x_zret C false rfl hr hlk dX8_isCondition_31 ⟨by simp [condB, h1, h2, h3, h4], rfl⟩
        · refine x_iload_n C dX8_isCondition_20 rfl 0 rfl ?_
          refine x_iload_n C dX8_isCondition_21 rfl 1 rfl ?_
          refine x_iand C dX8_isCondition_22 ?_
          refine x_if_ne C 30 dX8_isCondition_23 rfl (fun h5 => ?_) (fun h5 => ?_)
          · refine x_iconst C (0 : Int32) (by decide) dX8_isCondition_30 ?_
            exact x_zret C false rfl hr hlk dX8_isCondition_31 ⟨by simp [condB, h1, h2, h3, h4, h5], rfl⟩
          · refine x_iconst C (1 : Int32) (by decide) dX8_isCondition_26 ?_
            refine x_goto C 31 dX8_isCondition_27 rfl ?_
            exact x_zret C true rfl hr hlk dX8_isCondition_31 ⟨by simp [condB, h1, h2, h3, h4, eq_true h5], rfl⟩

set_option maxHeartbeats 4000000 in
set_option maxRecDepth 100000 in
theorem c_X8_configurationsWith (l : Launch) (V : xV) (hV : xInj V) (σ : xS) (on off : Int32) : xM l yX8_configurationsWith wsX8_configurationsWith ({ frames := 0, cells := 0, slots := 0, locals := 0 }) V [.int on, .int off] σ (rI (cfgI on off) σ) := by
  refine xM_of (cc := cX8_configurationsWith) (maxL := 4) (ret := (some .int)) [(0, .int on), (1, .int off)] hV (by decide) rfl rfl (Nat.le_of_ble_eq_true rfl) (fun p e s m args below meth c C hr hlk => ?_)
  refine x_iconst C (0 : Int32) (by decide) dX8_configurationsWith_0 ?_
  refine x_istore_n C [(2, .int (0 : Int32)), (0, .int on), (1, .int off)] dX8_configurationsWith_1 rfl (by decide) rfl ?_
  refine x_iconst C (0 : Int32) (by decide) dX8_configurationsWith_2 ?_
  refine x_istore_n C [(3, .int (0 : Int32)), (2, .int (0 : Int32)), (0, .int on), (1, .int off)] dX8_configurationsWith_3 rfl (by decide) rfl ?_
  refine x_lv [2, 3, 1, 0] [(0, .int on), (1, .int off), (2, .int (0 : Int32)), (3, .int (0 : Int32))] rfl ?_
  refine x_loop (fun μ σ_ lv_ => ∃ (k : Nat), μ = 16 - k ∧ σ = σ_ ∧ lv_ = [(0, .int on), (1, .int off), (2, .int (maskI (cfgB on off) k)), (3, .int (nI k))] ∧ k ≤ 16) ⟨_, ⟨0, rfl, rfl, rfl, Nat.zero_le _⟩⟩ ?_
  rintro μ4 _ _ ⟨k, hμ4, rfl, rfl, hc4_0⟩ ih4
  refine x_iload_n C dX8_configurationsWith_4 rfl 3 rfl ?_
  refine x_bipush C (16 : Int32) (by decide) dX8_configurationsWith_5 ?_
  refine x_icmp_ge C 35 dX8_configurationsWith_7 rfl (fun h1 => ?_) (fun h1 => ?_)
  · refine x_iload_n C dX8_configurationsWith_35 rfl 2 rfl ?_
    exact x_iret C hr hlk dX8_configurationsWith_36 ⟨by rw [show k = 16 from Nat.le_antisymm hc4_0 (Nat.le_of_not_lt (fun hq => nI_ge hq (by decide) h1))]; rfl, rfl⟩
  · have hkn : k < 16 := Nat.lt_of_not_le (fun hq => h1 (nI_le hq (by omega)))
    refine x_iload_n C dX8_configurationsWith_10 rfl 3 rfl ?_
    refine x_iload_n C dX8_configurationsWith_11 rfl 0 rfl ?_
    refine x_iand C dX8_configurationsWith_12 ?_
    refine x_iload_n C dX8_configurationsWith_13 rfl 0 rfl ?_
    refine x_icmp_ne C 29 dX8_configurationsWith_14 rfl (fun h2 => ?_) (fun h2 => ?_)
    · refine x_iinc C (q := 3) ((nI k) + (1 : Int32)) [(3, .int ((nI k) + (1 : Int32))), (0, .int on), (1, .int off), (2, .int (maskI (cfgB on off) k))] dX8_configurationsWith_29 rfl rfl (by decide) rfl ?_
      refine x_goto C 4 dX8_configurationsWith_32 rfl ?_
      refine x_lv [1, 2, 3, 0] [(0, .int on), (1, .int off), (2, .int (maskI (cfgB on off) k)), (3, .int ((nI k) + (1 : Int32)))] rfl ?_
      exact ih4 _ _ _ (by omega) ⟨k + 1, rfl, rfl, by rw [nI_succ]; simp [maskI, cfgB, h1, h2], hkn⟩
    · refine x_iload_n C dX8_configurationsWith_17 rfl 3 rfl ?_
      refine x_iload_n C dX8_configurationsWith_18 rfl 1 rfl ?_
      refine x_iand C dX8_configurationsWith_19 ?_
      refine x_if_ne C 29 dX8_configurationsWith_20 rfl (fun h3 => ?_) (fun h3 => ?_)
      · refine x_iinc C (q := 3) ((nI k) + (1 : Int32)) [(3, .int ((nI k) + (1 : Int32))), (0, .int on), (1, .int off), (2, .int (maskI (cfgB on off) k))] dX8_configurationsWith_29 rfl rfl (by decide) rfl ?_
        refine x_goto C 4 dX8_configurationsWith_32 rfl ?_
        refine x_lv [1, 2, 3, 0] [(0, .int on), (1, .int off), (2, .int (maskI (cfgB on off) k)), (3, .int ((nI k) + (1 : Int32)))] rfl ?_
        exact ih4 _ _ _ (by omega) ⟨k + 1, rfl, rfl, by rw [nI_succ]; simp [maskI, cfgB, h1, eq_true h2, h3], hkn⟩
      · refine x_iload_n C dX8_configurationsWith_23 rfl 2 rfl ?_
        refine x_iconst C (1 : Int32) (by decide) dX8_configurationsWith_24 ?_
        refine x_iload_n C dX8_configurationsWith_25 rfl 3 rfl ?_
        refine x_ishl C dX8_configurationsWith_26 ?_
        refine x_ior C dX8_configurationsWith_27 ?_
        refine x_istore_n C [(2, .int ((maskI (cfgB on off) k) ||| ((1 : Int32) <<< ((nI k) &&& 31)))), (0, .int on), (1, .int off), (3, .int (nI k))] dX8_configurationsWith_28 rfl (by decide) rfl ?_
        refine x_iinc C (q := 3) ((nI k) + (1 : Int32)) [(3, .int ((nI k) + (1 : Int32))), (2, .int ((maskI (cfgB on off) k) ||| ((1 : Int32) <<< ((nI k) &&& 31)))), (0, .int on), (1, .int off)] dX8_configurationsWith_29 rfl rfl (by decide) rfl ?_
        refine x_goto C 4 dX8_configurationsWith_32 rfl ?_
        refine x_lv [2, 3, 1, 0] [(0, .int on), (1, .int off), (2, .int ((maskI (cfgB on off) k) ||| ((1 : Int32) <<< ((nI k) &&& 31)))), (3, .int ((nI k) + (1 : Int32)))] rfl ?_
        exact ih4 _ _ _ (by omega) ⟨k + 1, rfl, rfl, by rw [nI_succ]; simp [maskI, cfgB, h1, eq_true h2, eq_true h3], hkn⟩

set_option maxHeartbeats 4000000 in
set_option maxRecDepth 100000 in
theorem c_X0_size_9 (l : Launch) (V : xV) (hV : xInj V) (σ : xS)  : xM l yX0_size wsX0_size ({ frames := 0, cells := 0, slots := 0, locals := 0 }) V [ra V 9] σ (rI (σ 201 0) σ) := by
  refine xM_of (cc := cX0_size) (maxL := 1) (ret := (some .int)) [(0, ra V 9)] hV (by decide) rfl rfl (Nat.le_of_ble_eq_true rfl) (fun p e s m args below meth c C hr hlk => ?_)
  have iX0 : ∀ w ∈ u_ws RX0 TX0 4, w ∈ wsX0_size := by decide +kernel
  have f7 : (Cond.fieldLink RX0 7 RX0 (TX0 3).2.1 (TX0 3).2.2.1).before args s = true := C.2.2.2.2.1 _ (by decide +kernel)
  refine x_aload_n C dX0_size_0 rfl 0 rfl ?_
  refine x_geti C sh_9 rfl iX0 3 (by decide) f7 (fun _ h => h) (by decide) rfl dX0_size_1 ?_
  exact x_iret C hr hlk dX0_size_4 ⟨rfl, rfl⟩

set_option maxHeartbeats 4000000 in
set_option maxRecDepth 100000 in
theorem c_X0_size_16 (l : Launch) (V : xV) (hV : xInj V) (σ : xS)  : xM l yX0_size wsX0_size ({ frames := 0, cells := 0, slots := 0, locals := 0 }) V [ra V 16] σ (rI (σ 202 0) σ) := by
  refine xM_of (cc := cX0_size) (maxL := 1) (ret := (some .int)) [(0, ra V 16)] hV (by decide) rfl rfl (Nat.le_of_ble_eq_true rfl) (fun p e s m args below meth c C hr hlk => ?_)
  have iX0 : ∀ w ∈ u_ws RX0 TX0 4, w ∈ wsX0_size := by decide +kernel
  have f7 : (Cond.fieldLink RX0 7 RX0 (TX0 3).2.1 (TX0 3).2.2.1).before args s = true := C.2.2.2.2.1 _ (by decide +kernel)
  refine x_aload_n C dX0_size_0 rfl 0 rfl ?_
  refine x_geti C sh_16 rfl iX0 3 (by decide) f7 (fun _ h => h) (by decide) rfl dX0_size_1 ?_
  exact x_iret C hr hlk dX0_size_4 ⟨rfl, rfl⟩

set_option maxHeartbeats 4000000 in
set_option maxRecDepth 100000 in
theorem c_X0_size_28 (l : Launch) (V : xV) (hV : xInj V) (σ : xS)  : xM l yX0_size wsX0_size ({ frames := 0, cells := 0, slots := 0, locals := 0 }) V [ra V 28] σ (rI (σ 203 0) σ) := by
  refine xM_of (cc := cX0_size) (maxL := 1) (ret := (some .int)) [(0, ra V 28)] hV (by decide) rfl rfl (Nat.le_of_ble_eq_true rfl) (fun p e s m args below meth c C hr hlk => ?_)
  have iX0 : ∀ w ∈ u_ws RX0 TX0 4, w ∈ wsX0_size := by decide +kernel
  have f7 : (Cond.fieldLink RX0 7 RX0 (TX0 3).2.1 (TX0 3).2.2.1).before args s = true := C.2.2.2.2.1 _ (by decide +kernel)
  refine x_aload_n C dX0_size_0 rfl 0 rfl ?_
  refine x_geti C sh_28 rfl iX0 3 (by decide) f7 (fun _ h => h) (by decide) rfl dX0_size_1 ?_
  exact x_iret C hr hlk dX0_size_4 ⟨rfl, rfl⟩

set_option maxHeartbeats 4000000 in
set_option maxRecDepth 100000 in
theorem c_X0_size_60 (l : Launch) (V : xV) (hV : xInj V) (σ : xS)  : xM l yX0_size wsX0_size ({ frames := 0, cells := 0, slots := 0, locals := 0 }) V [ra V 60] σ (rI (σ 204 0) σ) := by
  refine xM_of (cc := cX0_size) (maxL := 1) (ret := (some .int)) [(0, ra V 60)] hV (by decide) rfl rfl (Nat.le_of_ble_eq_true rfl) (fun p e s m args below meth c C hr hlk => ?_)
  have iX0 : ∀ w ∈ u_ws RX0 TX0 4, w ∈ wsX0_size := by decide +kernel
  have f7 : (Cond.fieldLink RX0 7 RX0 (TX0 3).2.1 (TX0 3).2.2.1).before args s = true := C.2.2.2.2.1 _ (by decide +kernel)
  refine x_aload_n C dX0_size_0 rfl 0 rfl ?_
  refine x_geti C sh_60 rfl iX0 3 (by decide) f7 (fun _ h => h) (by decide) rfl dX0_size_1 ?_
  exact x_iret C hr hlk dX0_size_4 ⟨rfl, rfl⟩

set_option maxHeartbeats 4000000 in
set_option maxRecDepth 100000 in
theorem c_X0_has_9 (l : Launch) (V : xV) (hV : xInj V) (σ : xS) (i : Int32) : xM l yX0_has wsX0_has ({ frames := 0, cells := 0, slots := 0, locals := 0 }) V [ra V 9, .int i] σ (rI (bI (cHas σ 201 i)) σ) := by
  refine xM_of (cc := cX0_has) (maxL := 2) (ret := (some .boolean)) [(0, ra V 9), (1, .int i)] hV (by decide) rfl rfl (Nat.le_of_ble_eq_true rfl) (fun p e s m args below meth c C hr hlk => ?_)
  have iX0 : ∀ w ∈ u_ws RX0 TX0 4, w ∈ wsX0_has := by decide +kernel
  have f7 : (Cond.fieldLink RX0 7 RX0 (TX0 3).2.1 (TX0 3).2.2.1).before args s = true := C.2.2.2.2.1 _ (by decide +kernel)
  refine x_iload_n C dX0_has_0 rfl 1 rfl ?_
  refine x_if_lt C 16 dX0_has_1 rfl (fun h1 => ?_) (fun h1 => ?_)
  · refine x_iconst C (0 : Int32) (by decide) dX0_has_16 ?_
    exact x_zret C false rfl hr hlk dX0_has_17 ⟨by simp [cHas, h1], rfl⟩
  · refine x_iload_n C dX0_has_4 rfl 1 rfl ?_
    refine x_aload_n C dX0_has_5 rfl 0 rfl ?_
    refine x_geti C sh_9 rfl iX0 3 (by decide) f7 (fun _ h => h) (by decide) rfl dX0_has_6 ?_
    refine x_icmp_ge C 16 dX0_has_9 rfl (fun h2 => ?_) (fun h2 => ?_)
    · refine x_iconst C (0 : Int32) (by decide) dX0_has_16 ?_
      exact x_zret C false rfl hr hlk dX0_has_17 ⟨by simp [cHas, h1, h2], rfl⟩
    · refine x_iconst C (1 : Int32) (by decide) dX0_has_12 ?_
      refine x_goto C 17 dX0_has_13 rfl ?_
      exact x_zret C true rfl hr hlk dX0_has_17 ⟨by simp [cHas, h1, h2], rfl⟩

set_option maxHeartbeats 4000000 in
set_option maxRecDepth 100000 in
theorem c_X0_has_16 (l : Launch) (V : xV) (hV : xInj V) (σ : xS) (i : Int32) : xM l yX0_has wsX0_has ({ frames := 0, cells := 0, slots := 0, locals := 0 }) V [ra V 16, .int i] σ (rI (bI (cHas σ 202 i)) σ) := by
  refine xM_of (cc := cX0_has) (maxL := 2) (ret := (some .boolean)) [(0, ra V 16), (1, .int i)] hV (by decide) rfl rfl (Nat.le_of_ble_eq_true rfl) (fun p e s m args below meth c C hr hlk => ?_)
  have iX0 : ∀ w ∈ u_ws RX0 TX0 4, w ∈ wsX0_has := by decide +kernel
  have f7 : (Cond.fieldLink RX0 7 RX0 (TX0 3).2.1 (TX0 3).2.2.1).before args s = true := C.2.2.2.2.1 _ (by decide +kernel)
  refine x_iload_n C dX0_has_0 rfl 1 rfl ?_
  refine x_if_lt C 16 dX0_has_1 rfl (fun h1 => ?_) (fun h1 => ?_)
  · refine x_iconst C (0 : Int32) (by decide) dX0_has_16 ?_
    exact x_zret C false rfl hr hlk dX0_has_17 ⟨by simp [cHas, h1], rfl⟩
  · refine x_iload_n C dX0_has_4 rfl 1 rfl ?_
    refine x_aload_n C dX0_has_5 rfl 0 rfl ?_
    refine x_geti C sh_16 rfl iX0 3 (by decide) f7 (fun _ h => h) (by decide) rfl dX0_has_6 ?_
    refine x_icmp_ge C 16 dX0_has_9 rfl (fun h2 => ?_) (fun h2 => ?_)
    · refine x_iconst C (0 : Int32) (by decide) dX0_has_16 ?_
      exact x_zret C false rfl hr hlk dX0_has_17 ⟨by simp [cHas, h1, h2], rfl⟩
    · refine x_iconst C (1 : Int32) (by decide) dX0_has_12 ?_
      refine x_goto C 17 dX0_has_13 rfl ?_
      exact x_zret C true rfl hr hlk dX0_has_17 ⟨by simp [cHas, h1, h2], rfl⟩

set_option maxHeartbeats 4000000 in
set_option maxRecDepth 100000 in
theorem c_X0_has_28 (l : Launch) (V : xV) (hV : xInj V) (σ : xS) (i : Int32) : xM l yX0_has wsX0_has ({ frames := 0, cells := 0, slots := 0, locals := 0 }) V [ra V 28, .int i] σ (rI (bI (cHas σ 203 i)) σ) := by
  refine xM_of (cc := cX0_has) (maxL := 2) (ret := (some .boolean)) [(0, ra V 28), (1, .int i)] hV (by decide) rfl rfl (Nat.le_of_ble_eq_true rfl) (fun p e s m args below meth c C hr hlk => ?_)
  have iX0 : ∀ w ∈ u_ws RX0 TX0 4, w ∈ wsX0_has := by decide +kernel
  have f7 : (Cond.fieldLink RX0 7 RX0 (TX0 3).2.1 (TX0 3).2.2.1).before args s = true := C.2.2.2.2.1 _ (by decide +kernel)
  refine x_iload_n C dX0_has_0 rfl 1 rfl ?_
  refine x_if_lt C 16 dX0_has_1 rfl (fun h1 => ?_) (fun h1 => ?_)
  · refine x_iconst C (0 : Int32) (by decide) dX0_has_16 ?_
    exact x_zret C false rfl hr hlk dX0_has_17 ⟨by simp [cHas, h1], rfl⟩
  · refine x_iload_n C dX0_has_4 rfl 1 rfl ?_
    refine x_aload_n C dX0_has_5 rfl 0 rfl ?_
    refine x_geti C sh_28 rfl iX0 3 (by decide) f7 (fun _ h => h) (by decide) rfl dX0_has_6 ?_
    refine x_icmp_ge C 16 dX0_has_9 rfl (fun h2 => ?_) (fun h2 => ?_)
    · refine x_iconst C (0 : Int32) (by decide) dX0_has_16 ?_
      exact x_zret C false rfl hr hlk dX0_has_17 ⟨by simp [cHas, h1, h2], rfl⟩
    · refine x_iconst C (1 : Int32) (by decide) dX0_has_12 ?_
      refine x_goto C 17 dX0_has_13 rfl ?_
      exact x_zret C true rfl hr hlk dX0_has_17 ⟨by simp [cHas, h1, h2], rfl⟩

set_option maxHeartbeats 4000000 in
set_option maxRecDepth 100000 in
theorem c_X0_has_60 (l : Launch) (V : xV) (hV : xInj V) (σ : xS) (i : Int32) : xM l yX0_has wsX0_has ({ frames := 0, cells := 0, slots := 0, locals := 0 }) V [ra V 60, .int i] σ (rI (bI (cHas σ 204 i)) σ) := by
  refine xM_of (cc := cX0_has) (maxL := 2) (ret := (some .boolean)) [(0, ra V 60), (1, .int i)] hV (by decide) rfl rfl (Nat.le_of_ble_eq_true rfl) (fun p e s m args below meth c C hr hlk => ?_)
  have iX0 : ∀ w ∈ u_ws RX0 TX0 4, w ∈ wsX0_has := by decide +kernel
  have f7 : (Cond.fieldLink RX0 7 RX0 (TX0 3).2.1 (TX0 3).2.2.1).before args s = true := C.2.2.2.2.1 _ (by decide +kernel)
  refine x_iload_n C dX0_has_0 rfl 1 rfl ?_
  refine x_if_lt C 16 dX0_has_1 rfl (fun h1 => ?_) (fun h1 => ?_)
  · refine x_iconst C (0 : Int32) (by decide) dX0_has_16 ?_
    exact x_zret C false rfl hr hlk dX0_has_17 ⟨by simp [cHas, h1], rfl⟩
  · refine x_iload_n C dX0_has_4 rfl 1 rfl ?_
    refine x_aload_n C dX0_has_5 rfl 0 rfl ?_
    refine x_geti C sh_60 rfl iX0 3 (by decide) f7 (fun _ h => h) (by decide) rfl dX0_has_6 ?_
    refine x_icmp_ge C 16 dX0_has_9 rfl (fun h2 => ?_) (fun h2 => ?_)
    · refine x_iconst C (0 : Int32) (by decide) dX0_has_16 ?_
      exact x_zret C false rfl hr hlk dX0_has_17 ⟨by simp [cHas, h1, h2], rfl⟩
    · refine x_iconst C (1 : Int32) (by decide) dX0_has_12 ?_
      refine x_goto C 17 dX0_has_13 rfl ?_
      exact x_zret C true rfl hr hlk dX0_has_17 ⟨by simp [cHas, h1, h2], rfl⟩

set_option maxHeartbeats 4000000 in
set_option maxRecDepth 100000 in
theorem c_X0_whereTrue_9 (l : Launch) (V : xV) (hV : xInj V) (σ : xS) (i : Int32) : xM l yX0_whereTrue wsX0_whereTrue ({ frames := 1, cells := 0, slots := 0, locals := 21 }) V [ra V 9, .int i] σ (rI (vAt 8 (σ 15) i) σ) := by
  refine xM_of (cc := cX0_whereTrue) (maxL := 2) (ret := (some .int)) [(0, ra V 9), (1, .int i)] hV (by decide) rfl rfl (Nat.le_of_ble_eq_true rfl) (fun p e s m args below meth c C hr hlk => ?_)
  have iX0 : ∀ w ∈ u_ws RX0 TX0 4, w ∈ wsX0_whereTrue := by decide +kernel
  have f25 : (Cond.fieldLink RX0 25 RX0 (TX0 2).2.1 (TX0 2).2.2.1).before args s = true := C.2.2.2.2.1 _ (by decide +kernel)
  refine x_aload_n C dX0_whereTrue_0 rfl 0 rfl ?_
  refine x_getr C sh_9 rfl iX0 2 (by decide) f25 (fun _ h => h) (by decide) rfl dX0_whereTrue_1 ?_
  refine x_iload_n C dX0_whereTrue_4 rfl 1 rfl ?_
  refine x_callV C sh_14 (by decide) rfl [.int i] (c_X5_at l V hV σ 14 15 8 sh_14 sh_15 (by decide) i) (cwV 1 C.2.2.2.2.1 gX0_whereTrue_X5_at rfl rfl rfl (by decide +kernel) ⟨Nat.le_of_ble_eq_true rfl, Nat.le_of_ble_eq_true rfl⟩) rfl rfl (Nat.le_of_ble_eq_true rfl) dX0_whereTrue_5 ⟨Nat.le_of_ble_eq_true rfl, Nat.le_of_ble_eq_true rfl⟩ (x_kI ?_)
  exact x_iret C hr hlk dX0_whereTrue_8 ⟨rfl, rfl⟩

set_option maxHeartbeats 4000000 in
set_option maxRecDepth 100000 in
theorem c_X0_whereTrue_16 (l : Launch) (V : xV) (hV : xInj V) (σ : xS) (i : Int32) : xM l yX0_whereTrue wsX0_whereTrue ({ frames := 1, cells := 0, slots := 0, locals := 21 }) V [ra V 16, .int i] σ (rI (vAt 12 (σ 22) i) σ) := by
  refine xM_of (cc := cX0_whereTrue) (maxL := 2) (ret := (some .int)) [(0, ra V 16), (1, .int i)] hV (by decide) rfl rfl (Nat.le_of_ble_eq_true rfl) (fun p e s m args below meth c C hr hlk => ?_)
  have iX0 : ∀ w ∈ u_ws RX0 TX0 4, w ∈ wsX0_whereTrue := by decide +kernel
  have f25 : (Cond.fieldLink RX0 25 RX0 (TX0 2).2.1 (TX0 2).2.2.1).before args s = true := C.2.2.2.2.1 _ (by decide +kernel)
  refine x_aload_n C dX0_whereTrue_0 rfl 0 rfl ?_
  refine x_getr C sh_16 rfl iX0 2 (by decide) f25 (fun _ h => h) (by decide) rfl dX0_whereTrue_1 ?_
  refine x_iload_n C dX0_whereTrue_4 rfl 1 rfl ?_
  refine x_callV C sh_21 (by decide) rfl [.int i] (c_X5_at l V hV σ 21 22 12 sh_21 sh_22 (by decide) i) (cwV 1 C.2.2.2.2.1 gX0_whereTrue_X5_at rfl rfl rfl (by decide +kernel) ⟨Nat.le_of_ble_eq_true rfl, Nat.le_of_ble_eq_true rfl⟩) rfl rfl (Nat.le_of_ble_eq_true rfl) dX0_whereTrue_5 ⟨Nat.le_of_ble_eq_true rfl, Nat.le_of_ble_eq_true rfl⟩ (x_kI ?_)
  exact x_iret C hr hlk dX0_whereTrue_8 ⟨rfl, rfl⟩

set_option maxHeartbeats 4000000 in
set_option maxRecDepth 100000 in
theorem c_X0_whereTrue_28 (l : Launch) (V : xV) (hV : xInj V) (σ : xS) (i : Int32) : xM l yX0_whereTrue wsX0_whereTrue ({ frames := 1, cells := 0, slots := 0, locals := 21 }) V [ra V 28, .int i] σ (rI (vAt 24 (σ 34) i) σ) := by
  refine xM_of (cc := cX0_whereTrue) (maxL := 2) (ret := (some .int)) [(0, ra V 28), (1, .int i)] hV (by decide) rfl rfl (Nat.le_of_ble_eq_true rfl) (fun p e s m args below meth c C hr hlk => ?_)
  have iX0 : ∀ w ∈ u_ws RX0 TX0 4, w ∈ wsX0_whereTrue := by decide +kernel
  have f25 : (Cond.fieldLink RX0 25 RX0 (TX0 2).2.1 (TX0 2).2.2.1).before args s = true := C.2.2.2.2.1 _ (by decide +kernel)
  refine x_aload_n C dX0_whereTrue_0 rfl 0 rfl ?_
  refine x_getr C sh_28 rfl iX0 2 (by decide) f25 (fun _ h => h) (by decide) rfl dX0_whereTrue_1 ?_
  refine x_iload_n C dX0_whereTrue_4 rfl 1 rfl ?_
  refine x_callV C sh_33 (by decide) rfl [.int i] (c_X5_at l V hV σ 33 34 24 sh_33 sh_34 (by decide) i) (cwV 1 C.2.2.2.2.1 gX0_whereTrue_X5_at rfl rfl rfl (by decide +kernel) ⟨Nat.le_of_ble_eq_true rfl, Nat.le_of_ble_eq_true rfl⟩) rfl rfl (Nat.le_of_ble_eq_true rfl) dX0_whereTrue_5 ⟨Nat.le_of_ble_eq_true rfl, Nat.le_of_ble_eq_true rfl⟩ (x_kI ?_)
  exact x_iret C hr hlk dX0_whereTrue_8 ⟨rfl, rfl⟩

set_option maxHeartbeats 4000000 in
set_option maxRecDepth 100000 in
theorem c_X0_whereTrue_60 (l : Launch) (V : xV) (hV : xInj V) (σ : xS) (i : Int32) : xM l yX0_whereTrue wsX0_whereTrue ({ frames := 1, cells := 0, slots := 0, locals := 21 }) V [ra V 60, .int i] σ (rI (vAt 16 (σ 66) i) σ) := by
  refine xM_of (cc := cX0_whereTrue) (maxL := 2) (ret := (some .int)) [(0, ra V 60), (1, .int i)] hV (by decide) rfl rfl (Nat.le_of_ble_eq_true rfl) (fun p e s m args below meth c C hr hlk => ?_)
  have iX0 : ∀ w ∈ u_ws RX0 TX0 4, w ∈ wsX0_whereTrue := by decide +kernel
  have f25 : (Cond.fieldLink RX0 25 RX0 (TX0 2).2.1 (TX0 2).2.2.1).before args s = true := C.2.2.2.2.1 _ (by decide +kernel)
  refine x_aload_n C dX0_whereTrue_0 rfl 0 rfl ?_
  refine x_getr C sh_60 rfl iX0 2 (by decide) f25 (fun _ h => h) (by decide) rfl dX0_whereTrue_1 ?_
  refine x_iload_n C dX0_whereTrue_4 rfl 1 rfl ?_
  refine x_callV C sh_65 (by decide) rfl [.int i] (c_X5_at l V hV σ 65 66 16 sh_65 sh_66 (by decide) i) (cwV 1 C.2.2.2.2.1 gX0_whereTrue_X5_at rfl rfl rfl (by decide +kernel) ⟨Nat.le_of_ble_eq_true rfl, Nat.le_of_ble_eq_true rfl⟩) rfl rfl (Nat.le_of_ble_eq_true rfl) dX0_whereTrue_5 ⟨Nat.le_of_ble_eq_true rfl, Nat.le_of_ble_eq_true rfl⟩ (x_kI ?_)
  exact x_iret C hr hlk dX0_whereTrue_8 ⟨rfl, rfl⟩

set_option maxHeartbeats 4000000 in
set_option maxRecDepth 100000 in
theorem c_X0_put_9 (l : Launch) (V : xV) (hV : xInj V) (σ : xS) (i on off : Int32) : xM l yX0_put wsX0_put ({ frames := 1, cells := 0, slots := 0, locals := 23 }) V [ra V 9, .int i, .int on, .int off] σ (rV (cPut σ 9 8 i on off)) := by
  refine xM_of (cc := cX0_put) (maxL := 4) (ret := none) [(0, ra V 9), (1, .int i), (2, .int on), (3, .int off)] hV (by decide) rfl rfl (Nat.le_of_ble_eq_true rfl) (fun p e s m args below meth c C hr hlk => ?_)
  have iX0 : ∀ w ∈ u_ws RX0 TX0 4, w ∈ wsX0_put := by decide +kernel
  have f18 : (Cond.fieldLink RX0 18 RX0 (TX0 0).2.1 (TX0 0).2.2.1).before args s = true := C.2.2.2.2.1 _ (by decide +kernel)
  have f22 : (Cond.fieldLink RX0 22 RX0 (TX0 1).2.1 (TX0 1).2.2.1).before args s = true := C.2.2.2.2.1 _ (by decide +kernel)
  have f25 : (Cond.fieldLink RX0 25 RX0 (TX0 2).2.1 (TX0 2).2.2.1).before args s = true := C.2.2.2.2.1 _ (by decide +kernel)
  refine x_aload_n C dX0_put_0 rfl 0 rfl ?_
  refine x_getr C sh_9 rfl iX0 0 (by decide) f18 (fun _ h => h) (by decide) rfl dX0_put_1 ?_
  refine x_iload_n C dX0_put_4 rfl 1 rfl ?_
  refine x_iload_n C dX0_put_5 rfl 2 rfl ?_
  refine x_callV C sh_10 (by decide) rfl [.int i, .int on] (c_X5_put l V hV σ 10 11 8 sh_10 sh_11 (by decide) i on) (cwV 2 C.2.2.2.2.1 gX0_put_X5_put rfl rfl rfl (by decide +kernel) ⟨Nat.le_of_ble_eq_true rfl, Nat.le_of_ble_eq_true rfl⟩) rfl rfl (Nat.le_of_ble_eq_true rfl) dX0_put_6 ⟨Nat.le_of_ble_eq_true rfl, Nat.le_of_ble_eq_true rfl⟩ (x_kV ?_)
  refine x_aload_n C dX0_put_9 rfl 0 rfl ?_
  refine x_getr C sh_9 rfl iX0 1 (by decide) f22 (fun _ h => h) (by decide) rfl dX0_put_10 ?_
  refine x_iload_n C dX0_put_13 rfl 1 rfl ?_
  refine x_iload_n C dX0_put_14 rfl 3 rfl ?_
  refine x_callV C sh_12 (by decide) rfl [.int i, .int off] (c_X5_put l V hV (vPut σ 11 8 i on) 12 13 8 sh_12 sh_13 (by decide) i off) (cwV 2 C.2.2.2.2.1 gX0_put_X5_put rfl rfl rfl (by decide +kernel) ⟨Nat.le_of_ble_eq_true rfl, Nat.le_of_ble_eq_true rfl⟩) rfl rfl (Nat.le_of_ble_eq_true rfl) dX0_put_15 ⟨Nat.le_of_ble_eq_true rfl, Nat.le_of_ble_eq_true rfl⟩ (x_kV ?_)
  refine x_aload_n C dX0_put_18 rfl 0 rfl ?_
  refine x_getr C sh_9 rfl iX0 2 (by decide) f25 (fun _ h => h) (by decide) rfl dX0_put_19 ?_
  refine x_iload_n C dX0_put_22 rfl 1 rfl ?_
  refine x_iload_n C dX0_put_23 rfl 2 rfl ?_
  refine x_iload_n C dX0_put_24 rfl 3 rfl ?_
  refine x_callSN (host := RX8) C [.int on, .int off] (c_X8_configurationsWith l V hV (vPut (vPut σ 11 8 i on) 13 8 i off) on off) (⟨va_cnB 2 C.2.2.2.2.1 gX0_put_X8_configurationsWith_n39 rfl rfl rfl (C.2.2.2.2.2.1.2 _ (by decide +kernel)) (C.2.2.2.2.1 _ (by decide +kernel)) (by decide +kernel) ⟨Nat.le_of_ble_eq_true rfl, Nat.le_of_ble_eq_true rfl⟩, C.2.2.2.2.1 _ (by decide +kernel), trivial⟩) rfl rfl (Nat.le_of_ble_eq_true rfl) dX0_put_25 ⟨Nat.le_of_ble_eq_true rfl, Nat.le_of_ble_eq_true rfl⟩ (x_kI ?_)
  refine x_callV C sh_14 (by decide) rfl [.int i, .int (cfgI on off)] (c_X5_put l V hV (vPut (vPut σ 11 8 i on) 13 8 i off) 14 15 8 sh_14 sh_15 (by decide) i (cfgI on off)) (cwV 2 C.2.2.2.2.1 gX0_put_X5_put rfl rfl rfl (by decide +kernel) ⟨Nat.le_of_ble_eq_true rfl, Nat.le_of_ble_eq_true rfl⟩) rfl rfl (Nat.le_of_ble_eq_true rfl) dX0_put_28 ⟨Nat.le_of_ble_eq_true rfl, Nat.le_of_ble_eq_true rfl⟩ (x_kV ?_)
  exact x_vret C hr hlk dX0_put_31 ⟨rfl, rfl⟩

set_option maxHeartbeats 4000000 in
set_option maxRecDepth 100000 in
theorem c_X0_put_16 (l : Launch) (V : xV) (hV : xInj V) (σ : xS) (i on off : Int32) : xM l yX0_put wsX0_put ({ frames := 1, cells := 0, slots := 0, locals := 23 }) V [ra V 16, .int i, .int on, .int off] σ (rV (cPut σ 16 12 i on off)) := by
  refine xM_of (cc := cX0_put) (maxL := 4) (ret := none) [(0, ra V 16), (1, .int i), (2, .int on), (3, .int off)] hV (by decide) rfl rfl (Nat.le_of_ble_eq_true rfl) (fun p e s m args below meth c C hr hlk => ?_)
  have iX0 : ∀ w ∈ u_ws RX0 TX0 4, w ∈ wsX0_put := by decide +kernel
  have f18 : (Cond.fieldLink RX0 18 RX0 (TX0 0).2.1 (TX0 0).2.2.1).before args s = true := C.2.2.2.2.1 _ (by decide +kernel)
  have f22 : (Cond.fieldLink RX0 22 RX0 (TX0 1).2.1 (TX0 1).2.2.1).before args s = true := C.2.2.2.2.1 _ (by decide +kernel)
  have f25 : (Cond.fieldLink RX0 25 RX0 (TX0 2).2.1 (TX0 2).2.2.1).before args s = true := C.2.2.2.2.1 _ (by decide +kernel)
  refine x_aload_n C dX0_put_0 rfl 0 rfl ?_
  refine x_getr C sh_16 rfl iX0 0 (by decide) f18 (fun _ h => h) (by decide) rfl dX0_put_1 ?_
  refine x_iload_n C dX0_put_4 rfl 1 rfl ?_
  refine x_iload_n C dX0_put_5 rfl 2 rfl ?_
  refine x_callV C sh_17 (by decide) rfl [.int i, .int on] (c_X5_put l V hV σ 17 18 12 sh_17 sh_18 (by decide) i on) (cwV 2 C.2.2.2.2.1 gX0_put_X5_put rfl rfl rfl (by decide +kernel) ⟨Nat.le_of_ble_eq_true rfl, Nat.le_of_ble_eq_true rfl⟩) rfl rfl (Nat.le_of_ble_eq_true rfl) dX0_put_6 ⟨Nat.le_of_ble_eq_true rfl, Nat.le_of_ble_eq_true rfl⟩ (x_kV ?_)
  refine x_aload_n C dX0_put_9 rfl 0 rfl ?_
  refine x_getr C sh_16 rfl iX0 1 (by decide) f22 (fun _ h => h) (by decide) rfl dX0_put_10 ?_
  refine x_iload_n C dX0_put_13 rfl 1 rfl ?_
  refine x_iload_n C dX0_put_14 rfl 3 rfl ?_
  refine x_callV C sh_19 (by decide) rfl [.int i, .int off] (c_X5_put l V hV (vPut σ 18 12 i on) 19 20 12 sh_19 sh_20 (by decide) i off) (cwV 2 C.2.2.2.2.1 gX0_put_X5_put rfl rfl rfl (by decide +kernel) ⟨Nat.le_of_ble_eq_true rfl, Nat.le_of_ble_eq_true rfl⟩) rfl rfl (Nat.le_of_ble_eq_true rfl) dX0_put_15 ⟨Nat.le_of_ble_eq_true rfl, Nat.le_of_ble_eq_true rfl⟩ (x_kV ?_)
  refine x_aload_n C dX0_put_18 rfl 0 rfl ?_
  refine x_getr C sh_16 rfl iX0 2 (by decide) f25 (fun _ h => h) (by decide) rfl dX0_put_19 ?_
  refine x_iload_n C dX0_put_22 rfl 1 rfl ?_
  refine x_iload_n C dX0_put_23 rfl 2 rfl ?_
  refine x_iload_n C dX0_put_24 rfl 3 rfl ?_
  refine x_callSN (host := RX8) C [.int on, .int off] (c_X8_configurationsWith l V hV (vPut (vPut σ 18 12 i on) 20 12 i off) on off) (⟨va_cnB 2 C.2.2.2.2.1 gX0_put_X8_configurationsWith_n39 rfl rfl rfl (C.2.2.2.2.2.1.2 _ (by decide +kernel)) (C.2.2.2.2.1 _ (by decide +kernel)) (by decide +kernel) ⟨Nat.le_of_ble_eq_true rfl, Nat.le_of_ble_eq_true rfl⟩, C.2.2.2.2.1 _ (by decide +kernel), trivial⟩) rfl rfl (Nat.le_of_ble_eq_true rfl) dX0_put_25 ⟨Nat.le_of_ble_eq_true rfl, Nat.le_of_ble_eq_true rfl⟩ (x_kI ?_)
  refine x_callV C sh_21 (by decide) rfl [.int i, .int (cfgI on off)] (c_X5_put l V hV (vPut (vPut σ 18 12 i on) 20 12 i off) 21 22 12 sh_21 sh_22 (by decide) i (cfgI on off)) (cwV 2 C.2.2.2.2.1 gX0_put_X5_put rfl rfl rfl (by decide +kernel) ⟨Nat.le_of_ble_eq_true rfl, Nat.le_of_ble_eq_true rfl⟩) rfl rfl (Nat.le_of_ble_eq_true rfl) dX0_put_28 ⟨Nat.le_of_ble_eq_true rfl, Nat.le_of_ble_eq_true rfl⟩ (x_kV ?_)
  exact x_vret C hr hlk dX0_put_31 ⟨rfl, rfl⟩

set_option maxHeartbeats 4000000 in
set_option maxRecDepth 100000 in
theorem c_X0_put_28 (l : Launch) (V : xV) (hV : xInj V) (σ : xS) (i on off : Int32) : xM l yX0_put wsX0_put ({ frames := 1, cells := 0, slots := 0, locals := 23 }) V [ra V 28, .int i, .int on, .int off] σ (rV (cPut σ 28 24 i on off)) := by
  refine xM_of (cc := cX0_put) (maxL := 4) (ret := none) [(0, ra V 28), (1, .int i), (2, .int on), (3, .int off)] hV (by decide) rfl rfl (Nat.le_of_ble_eq_true rfl) (fun p e s m args below meth c C hr hlk => ?_)
  have iX0 : ∀ w ∈ u_ws RX0 TX0 4, w ∈ wsX0_put := by decide +kernel
  have f18 : (Cond.fieldLink RX0 18 RX0 (TX0 0).2.1 (TX0 0).2.2.1).before args s = true := C.2.2.2.2.1 _ (by decide +kernel)
  have f22 : (Cond.fieldLink RX0 22 RX0 (TX0 1).2.1 (TX0 1).2.2.1).before args s = true := C.2.2.2.2.1 _ (by decide +kernel)
  have f25 : (Cond.fieldLink RX0 25 RX0 (TX0 2).2.1 (TX0 2).2.2.1).before args s = true := C.2.2.2.2.1 _ (by decide +kernel)
  refine x_aload_n C dX0_put_0 rfl 0 rfl ?_
  refine x_getr C sh_28 rfl iX0 0 (by decide) f18 (fun _ h => h) (by decide) rfl dX0_put_1 ?_
  refine x_iload_n C dX0_put_4 rfl 1 rfl ?_
  refine x_iload_n C dX0_put_5 rfl 2 rfl ?_
  refine x_callV C sh_29 (by decide) rfl [.int i, .int on] (c_X5_put l V hV σ 29 30 24 sh_29 sh_30 (by decide) i on) (cwV 2 C.2.2.2.2.1 gX0_put_X5_put rfl rfl rfl (by decide +kernel) ⟨Nat.le_of_ble_eq_true rfl, Nat.le_of_ble_eq_true rfl⟩) rfl rfl (Nat.le_of_ble_eq_true rfl) dX0_put_6 ⟨Nat.le_of_ble_eq_true rfl, Nat.le_of_ble_eq_true rfl⟩ (x_kV ?_)
  refine x_aload_n C dX0_put_9 rfl 0 rfl ?_
  refine x_getr C sh_28 rfl iX0 1 (by decide) f22 (fun _ h => h) (by decide) rfl dX0_put_10 ?_
  refine x_iload_n C dX0_put_13 rfl 1 rfl ?_
  refine x_iload_n C dX0_put_14 rfl 3 rfl ?_
  refine x_callV C sh_31 (by decide) rfl [.int i, .int off] (c_X5_put l V hV (vPut σ 30 24 i on) 31 32 24 sh_31 sh_32 (by decide) i off) (cwV 2 C.2.2.2.2.1 gX0_put_X5_put rfl rfl rfl (by decide +kernel) ⟨Nat.le_of_ble_eq_true rfl, Nat.le_of_ble_eq_true rfl⟩) rfl rfl (Nat.le_of_ble_eq_true rfl) dX0_put_15 ⟨Nat.le_of_ble_eq_true rfl, Nat.le_of_ble_eq_true rfl⟩ (x_kV ?_)
  refine x_aload_n C dX0_put_18 rfl 0 rfl ?_
  refine x_getr C sh_28 rfl iX0 2 (by decide) f25 (fun _ h => h) (by decide) rfl dX0_put_19 ?_
  refine x_iload_n C dX0_put_22 rfl 1 rfl ?_
  refine x_iload_n C dX0_put_23 rfl 2 rfl ?_
  refine x_iload_n C dX0_put_24 rfl 3 rfl ?_
  refine x_callSN (host := RX8) C [.int on, .int off] (c_X8_configurationsWith l V hV (vPut (vPut σ 30 24 i on) 32 24 i off) on off) (⟨va_cnB 2 C.2.2.2.2.1 gX0_put_X8_configurationsWith_n39 rfl rfl rfl (C.2.2.2.2.2.1.2 _ (by decide +kernel)) (C.2.2.2.2.1 _ (by decide +kernel)) (by decide +kernel) ⟨Nat.le_of_ble_eq_true rfl, Nat.le_of_ble_eq_true rfl⟩, C.2.2.2.2.1 _ (by decide +kernel), trivial⟩) rfl rfl (Nat.le_of_ble_eq_true rfl) dX0_put_25 ⟨Nat.le_of_ble_eq_true rfl, Nat.le_of_ble_eq_true rfl⟩ (x_kI ?_)
  refine x_callV C sh_33 (by decide) rfl [.int i, .int (cfgI on off)] (c_X5_put l V hV (vPut (vPut σ 30 24 i on) 32 24 i off) 33 34 24 sh_33 sh_34 (by decide) i (cfgI on off)) (cwV 2 C.2.2.2.2.1 gX0_put_X5_put rfl rfl rfl (by decide +kernel) ⟨Nat.le_of_ble_eq_true rfl, Nat.le_of_ble_eq_true rfl⟩) rfl rfl (Nat.le_of_ble_eq_true rfl) dX0_put_28 ⟨Nat.le_of_ble_eq_true rfl, Nat.le_of_ble_eq_true rfl⟩ (x_kV ?_)
  exact x_vret C hr hlk dX0_put_31 ⟨rfl, rfl⟩

set_option maxHeartbeats 4000000 in
set_option maxRecDepth 100000 in
theorem c_X0_put_60 (l : Launch) (V : xV) (hV : xInj V) (σ : xS) (i on off : Int32) : xM l yX0_put wsX0_put ({ frames := 1, cells := 0, slots := 0, locals := 23 }) V [ra V 60, .int i, .int on, .int off] σ (rV (cPut σ 60 16 i on off)) := by
  refine xM_of (cc := cX0_put) (maxL := 4) (ret := none) [(0, ra V 60), (1, .int i), (2, .int on), (3, .int off)] hV (by decide) rfl rfl (Nat.le_of_ble_eq_true rfl) (fun p e s m args below meth c C hr hlk => ?_)
  have iX0 : ∀ w ∈ u_ws RX0 TX0 4, w ∈ wsX0_put := by decide +kernel
  have f18 : (Cond.fieldLink RX0 18 RX0 (TX0 0).2.1 (TX0 0).2.2.1).before args s = true := C.2.2.2.2.1 _ (by decide +kernel)
  have f22 : (Cond.fieldLink RX0 22 RX0 (TX0 1).2.1 (TX0 1).2.2.1).before args s = true := C.2.2.2.2.1 _ (by decide +kernel)
  have f25 : (Cond.fieldLink RX0 25 RX0 (TX0 2).2.1 (TX0 2).2.2.1).before args s = true := C.2.2.2.2.1 _ (by decide +kernel)
  refine x_aload_n C dX0_put_0 rfl 0 rfl ?_
  refine x_getr C sh_60 rfl iX0 0 (by decide) f18 (fun _ h => h) (by decide) rfl dX0_put_1 ?_
  refine x_iload_n C dX0_put_4 rfl 1 rfl ?_
  refine x_iload_n C dX0_put_5 rfl 2 rfl ?_
  refine x_callV C sh_61 (by decide) rfl [.int i, .int on] (c_X5_put l V hV σ 61 62 16 sh_61 sh_62 (by decide) i on) (cwV 2 C.2.2.2.2.1 gX0_put_X5_put rfl rfl rfl (by decide +kernel) ⟨Nat.le_of_ble_eq_true rfl, Nat.le_of_ble_eq_true rfl⟩) rfl rfl (Nat.le_of_ble_eq_true rfl) dX0_put_6 ⟨Nat.le_of_ble_eq_true rfl, Nat.le_of_ble_eq_true rfl⟩ (x_kV ?_)
  refine x_aload_n C dX0_put_9 rfl 0 rfl ?_
  refine x_getr C sh_60 rfl iX0 1 (by decide) f22 (fun _ h => h) (by decide) rfl dX0_put_10 ?_
  refine x_iload_n C dX0_put_13 rfl 1 rfl ?_
  refine x_iload_n C dX0_put_14 rfl 3 rfl ?_
  refine x_callV C sh_63 (by decide) rfl [.int i, .int off] (c_X5_put l V hV (vPut σ 62 16 i on) 63 64 16 sh_63 sh_64 (by decide) i off) (cwV 2 C.2.2.2.2.1 gX0_put_X5_put rfl rfl rfl (by decide +kernel) ⟨Nat.le_of_ble_eq_true rfl, Nat.le_of_ble_eq_true rfl⟩) rfl rfl (Nat.le_of_ble_eq_true rfl) dX0_put_15 ⟨Nat.le_of_ble_eq_true rfl, Nat.le_of_ble_eq_true rfl⟩ (x_kV ?_)
  refine x_aload_n C dX0_put_18 rfl 0 rfl ?_
  refine x_getr C sh_60 rfl iX0 2 (by decide) f25 (fun _ h => h) (by decide) rfl dX0_put_19 ?_
  refine x_iload_n C dX0_put_22 rfl 1 rfl ?_
  refine x_iload_n C dX0_put_23 rfl 2 rfl ?_
  refine x_iload_n C dX0_put_24 rfl 3 rfl ?_
  refine x_callSN (host := RX8) C [.int on, .int off] (c_X8_configurationsWith l V hV (vPut (vPut σ 62 16 i on) 64 16 i off) on off) (⟨va_cnB 2 C.2.2.2.2.1 gX0_put_X8_configurationsWith_n39 rfl rfl rfl (C.2.2.2.2.2.1.2 _ (by decide +kernel)) (C.2.2.2.2.1 _ (by decide +kernel)) (by decide +kernel) ⟨Nat.le_of_ble_eq_true rfl, Nat.le_of_ble_eq_true rfl⟩, C.2.2.2.2.1 _ (by decide +kernel), trivial⟩) rfl rfl (Nat.le_of_ble_eq_true rfl) dX0_put_25 ⟨Nat.le_of_ble_eq_true rfl, Nat.le_of_ble_eq_true rfl⟩ (x_kI ?_)
  refine x_callV C sh_65 (by decide) rfl [.int i, .int (cfgI on off)] (c_X5_put l V hV (vPut (vPut σ 62 16 i on) 64 16 i off) 65 66 16 sh_65 sh_66 (by decide) i (cfgI on off)) (cwV 2 C.2.2.2.2.1 gX0_put_X5_put rfl rfl rfl (by decide +kernel) ⟨Nat.le_of_ble_eq_true rfl, Nat.le_of_ble_eq_true rfl⟩) rfl rfl (Nat.le_of_ble_eq_true rfl) dX0_put_28 ⟨Nat.le_of_ble_eq_true rfl, Nat.le_of_ble_eq_true rfl⟩ (x_kV ?_)
  exact x_vret C hr hlk dX0_put_31 ⟨rfl, rfl⟩

set_option maxHeartbeats 4000000 in
set_option maxRecDepth 100000 in
theorem c_X0_append_9 (l : Launch) (V : xV) (hV : xInj V) (σ : xS) (on off : Int32) : xM l yX0_append wsX0_append ({ frames := 2, cells := 0, slots := 0, locals := 46 }) V [ra V 9, .int on, .int off] σ (rI (σ 201 0) (cApp σ 9 8 201 on off)) := by
  refine xM_of (cc := cX0_append) (maxL := 4) (ret := (some .int)) [(0, ra V 9), (1, .int on), (2, .int off)] hV (by decide) rfl rfl (Nat.le_of_ble_eq_true rfl) (fun p e s m args below meth c C hr hlk => ?_)
  have iX0 : ∀ w ∈ u_ws RX0 TX0 4, w ∈ wsX0_append := by decide +kernel
  have f7 : (Cond.fieldLink RX0 7 RX0 (TX0 3).2.1 (TX0 3).2.2.1).before args s = true := C.2.2.2.2.1 _ (by decide +kernel)
  refine x_aload_n C dX0_append_0 rfl 0 rfl ?_
  refine x_geti C sh_9 rfl iX0 3 (by decide) f7 (fun _ h => h) (by decide) rfl dX0_append_1 ?_
  refine x_istore_n C [(3, .int (σ 201 0)), (0, ra V 9), (1, .int on), (2, .int off)] dX0_append_4 rfl (by decide) rfl ?_
  refine x_aload_n C dX0_append_5 rfl 1 rfl ?_
  refine x_dup C rfl dX0_append_6 ?_
  refine x_geti C sh_9 rfl iX0 3 (by decide) f7 (fun _ h => h) (by decide) rfl dX0_append_7 ?_
  refine x_iconst C (1 : Int32) (by decide) dX0_append_10 ?_
  refine x_iadd C dX0_append_11 ?_
  refine x_puti (ty := .int) C sh_9 rfl iX0 3 (by decide) f7 (fun _ h => h) (by decide) rfl (by decide +kernel) (by decide +kernel) (by decide) rfl tyX0 tyX0_ok nmX0 (by decide +kernel) rfl rfl dX0_append_12 ?_
  refine x_aload_n C dX0_append_15 rfl 1 rfl ?_
  refine x_iload_n C dX0_append_16 rfl 0 rfl ?_
  refine x_iload_n C dX0_append_17 rfl 2 rfl ?_
  refine x_iload_n C dX0_append_18 rfl 3 rfl ?_
  refine x_callV C sh_9 (by decide) rfl [.int (σ 201 0), .int on, .int off] (c_X0_put_9 l V hV (xw σ 201 0 ((σ 201 0) + (1 : Int32))) (σ 201 0) on off) (cwV 3 C.2.2.2.2.1 gX0_append_X0_put rfl rfl rfl (by decide +kernel) ⟨Nat.le_of_ble_eq_true rfl, Nat.le_of_ble_eq_true rfl⟩) rfl rfl (Nat.le_of_ble_eq_true rfl) dX0_append_19 ⟨Nat.le_of_ble_eq_true rfl, Nat.le_of_ble_eq_true rfl⟩ (x_kV ?_)
  refine x_iload_n C dX0_append_22 rfl 0 rfl ?_
  exact x_iret C hr hlk dX0_append_23 ⟨rfl, rfl⟩

set_option maxHeartbeats 4000000 in
set_option maxRecDepth 100000 in
theorem c_X0_append_16 (l : Launch) (V : xV) (hV : xInj V) (σ : xS) (on off : Int32) : xM l yX0_append wsX0_append ({ frames := 2, cells := 0, slots := 0, locals := 46 }) V [ra V 16, .int on, .int off] σ (rI (σ 202 0) (cApp σ 16 12 202 on off)) := by
  refine xM_of (cc := cX0_append) (maxL := 4) (ret := (some .int)) [(0, ra V 16), (1, .int on), (2, .int off)] hV (by decide) rfl rfl (Nat.le_of_ble_eq_true rfl) (fun p e s m args below meth c C hr hlk => ?_)
  have iX0 : ∀ w ∈ u_ws RX0 TX0 4, w ∈ wsX0_append := by decide +kernel
  have f7 : (Cond.fieldLink RX0 7 RX0 (TX0 3).2.1 (TX0 3).2.2.1).before args s = true := C.2.2.2.2.1 _ (by decide +kernel)
  refine x_aload_n C dX0_append_0 rfl 0 rfl ?_
  refine x_geti C sh_16 rfl iX0 3 (by decide) f7 (fun _ h => h) (by decide) rfl dX0_append_1 ?_
  refine x_istore_n C [(3, .int (σ 202 0)), (0, ra V 16), (1, .int on), (2, .int off)] dX0_append_4 rfl (by decide) rfl ?_
  refine x_aload_n C dX0_append_5 rfl 1 rfl ?_
  refine x_dup C rfl dX0_append_6 ?_
  refine x_geti C sh_16 rfl iX0 3 (by decide) f7 (fun _ h => h) (by decide) rfl dX0_append_7 ?_
  refine x_iconst C (1 : Int32) (by decide) dX0_append_10 ?_
  refine x_iadd C dX0_append_11 ?_
  refine x_puti (ty := .int) C sh_16 rfl iX0 3 (by decide) f7 (fun _ h => h) (by decide) rfl (by decide +kernel) (by decide +kernel) (by decide) rfl tyX0 tyX0_ok nmX0 (by decide +kernel) rfl rfl dX0_append_12 ?_
  refine x_aload_n C dX0_append_15 rfl 1 rfl ?_
  refine x_iload_n C dX0_append_16 rfl 0 rfl ?_
  refine x_iload_n C dX0_append_17 rfl 2 rfl ?_
  refine x_iload_n C dX0_append_18 rfl 3 rfl ?_
  refine x_callV C sh_16 (by decide) rfl [.int (σ 202 0), .int on, .int off] (c_X0_put_16 l V hV (xw σ 202 0 ((σ 202 0) + (1 : Int32))) (σ 202 0) on off) (cwV 3 C.2.2.2.2.1 gX0_append_X0_put rfl rfl rfl (by decide +kernel) ⟨Nat.le_of_ble_eq_true rfl, Nat.le_of_ble_eq_true rfl⟩) rfl rfl (Nat.le_of_ble_eq_true rfl) dX0_append_19 ⟨Nat.le_of_ble_eq_true rfl, Nat.le_of_ble_eq_true rfl⟩ (x_kV ?_)
  refine x_iload_n C dX0_append_22 rfl 0 rfl ?_
  exact x_iret C hr hlk dX0_append_23 ⟨rfl, rfl⟩

set_option maxHeartbeats 4000000 in
set_option maxRecDepth 100000 in
theorem c_X0_append_28 (l : Launch) (V : xV) (hV : xInj V) (σ : xS) (on off : Int32) : xM l yX0_append wsX0_append ({ frames := 2, cells := 0, slots := 0, locals := 46 }) V [ra V 28, .int on, .int off] σ (rI (σ 203 0) (cApp σ 28 24 203 on off)) := by
  refine xM_of (cc := cX0_append) (maxL := 4) (ret := (some .int)) [(0, ra V 28), (1, .int on), (2, .int off)] hV (by decide) rfl rfl (Nat.le_of_ble_eq_true rfl) (fun p e s m args below meth c C hr hlk => ?_)
  have iX0 : ∀ w ∈ u_ws RX0 TX0 4, w ∈ wsX0_append := by decide +kernel
  have f7 : (Cond.fieldLink RX0 7 RX0 (TX0 3).2.1 (TX0 3).2.2.1).before args s = true := C.2.2.2.2.1 _ (by decide +kernel)
  refine x_aload_n C dX0_append_0 rfl 0 rfl ?_
  refine x_geti C sh_28 rfl iX0 3 (by decide) f7 (fun _ h => h) (by decide) rfl dX0_append_1 ?_
  refine x_istore_n C [(3, .int (σ 203 0)), (0, ra V 28), (1, .int on), (2, .int off)] dX0_append_4 rfl (by decide) rfl ?_
  refine x_aload_n C dX0_append_5 rfl 1 rfl ?_
  refine x_dup C rfl dX0_append_6 ?_
  refine x_geti C sh_28 rfl iX0 3 (by decide) f7 (fun _ h => h) (by decide) rfl dX0_append_7 ?_
  refine x_iconst C (1 : Int32) (by decide) dX0_append_10 ?_
  refine x_iadd C dX0_append_11 ?_
  refine x_puti (ty := .int) C sh_28 rfl iX0 3 (by decide) f7 (fun _ h => h) (by decide) rfl (by decide +kernel) (by decide +kernel) (by decide) rfl tyX0 tyX0_ok nmX0 (by decide +kernel) rfl rfl dX0_append_12 ?_
  refine x_aload_n C dX0_append_15 rfl 1 rfl ?_
  refine x_iload_n C dX0_append_16 rfl 0 rfl ?_
  refine x_iload_n C dX0_append_17 rfl 2 rfl ?_
  refine x_iload_n C dX0_append_18 rfl 3 rfl ?_
  refine x_callV C sh_28 (by decide) rfl [.int (σ 203 0), .int on, .int off] (c_X0_put_28 l V hV (xw σ 203 0 ((σ 203 0) + (1 : Int32))) (σ 203 0) on off) (cwV 3 C.2.2.2.2.1 gX0_append_X0_put rfl rfl rfl (by decide +kernel) ⟨Nat.le_of_ble_eq_true rfl, Nat.le_of_ble_eq_true rfl⟩) rfl rfl (Nat.le_of_ble_eq_true rfl) dX0_append_19 ⟨Nat.le_of_ble_eq_true rfl, Nat.le_of_ble_eq_true rfl⟩ (x_kV ?_)
  refine x_iload_n C dX0_append_22 rfl 0 rfl ?_
  exact x_iret C hr hlk dX0_append_23 ⟨rfl, rfl⟩

set_option maxHeartbeats 4000000 in
set_option maxRecDepth 100000 in
theorem c_X0_append_60 (l : Launch) (V : xV) (hV : xInj V) (σ : xS) (on off : Int32) : xM l yX0_append wsX0_append ({ frames := 2, cells := 0, slots := 0, locals := 46 }) V [ra V 60, .int on, .int off] σ (rI (σ 204 0) (cApp σ 60 16 204 on off)) := by
  refine xM_of (cc := cX0_append) (maxL := 4) (ret := (some .int)) [(0, ra V 60), (1, .int on), (2, .int off)] hV (by decide) rfl rfl (Nat.le_of_ble_eq_true rfl) (fun p e s m args below meth c C hr hlk => ?_)
  have iX0 : ∀ w ∈ u_ws RX0 TX0 4, w ∈ wsX0_append := by decide +kernel
  have f7 : (Cond.fieldLink RX0 7 RX0 (TX0 3).2.1 (TX0 3).2.2.1).before args s = true := C.2.2.2.2.1 _ (by decide +kernel)
  refine x_aload_n C dX0_append_0 rfl 0 rfl ?_
  refine x_geti C sh_60 rfl iX0 3 (by decide) f7 (fun _ h => h) (by decide) rfl dX0_append_1 ?_
  refine x_istore_n C [(3, .int (σ 204 0)), (0, ra V 60), (1, .int on), (2, .int off)] dX0_append_4 rfl (by decide) rfl ?_
  refine x_aload_n C dX0_append_5 rfl 1 rfl ?_
  refine x_dup C rfl dX0_append_6 ?_
  refine x_geti C sh_60 rfl iX0 3 (by decide) f7 (fun _ h => h) (by decide) rfl dX0_append_7 ?_
  refine x_iconst C (1 : Int32) (by decide) dX0_append_10 ?_
  refine x_iadd C dX0_append_11 ?_
  refine x_puti (ty := .int) C sh_60 rfl iX0 3 (by decide) f7 (fun _ h => h) (by decide) rfl (by decide +kernel) (by decide +kernel) (by decide) rfl tyX0 tyX0_ok nmX0 (by decide +kernel) rfl rfl dX0_append_12 ?_
  refine x_aload_n C dX0_append_15 rfl 1 rfl ?_
  refine x_iload_n C dX0_append_16 rfl 0 rfl ?_
  refine x_iload_n C dX0_append_17 rfl 2 rfl ?_
  refine x_iload_n C dX0_append_18 rfl 3 rfl ?_
  refine x_callV C sh_60 (by decide) rfl [.int (σ 204 0), .int on, .int off] (c_X0_put_60 l V hV (xw σ 204 0 ((σ 204 0) + (1 : Int32))) (σ 204 0) on off) (cwV 3 C.2.2.2.2.1 gX0_append_X0_put rfl rfl rfl (by decide +kernel) ⟨Nat.le_of_ble_eq_true rfl, Nat.le_of_ble_eq_true rfl⟩) rfl rfl (Nat.le_of_ble_eq_true rfl) dX0_append_19 ⟨Nat.le_of_ble_eq_true rfl, Nat.le_of_ble_eq_true rfl⟩ (x_kV ?_)
  refine x_iload_n C dX0_append_22 rfl 0 rfl ?_
  exact x_iret C hr hlk dX0_append_23 ⟨rfl, rfl⟩









set_option maxHeartbeats 4000000 in
set_option maxRecDepth 100000 in
theorem c_X6_size (l : Launch) (V : xV) (hV : xInj V) (σ : xS)  : xM l yX6_size wsX6_size ({ frames := 0, cells := 0, slots := 0, locals := 0 }) V [ra V 1] σ (rI (σ 200 0) σ) := by
  refine xM_of (cc := cX6_size) (maxL := 1) (ret := (some .int)) [(0, ra V 1)] hV (by decide) rfl rfl (Nat.le_of_ble_eq_true rfl) (fun p e s m args below meth c C hr hlk => ?_)
  have iX6 : ∀ w ∈ u_ws RX6 TX6 4, w ∈ wsX6_size := by decide +kernel
  have f26 : (Cond.fieldLink RX6 26 RX6 (TX6 3).2.1 (TX6 3).2.2.1).before args s = true := C.2.2.2.2.1 _ (by decide +kernel)
  refine x_aload_n C dX6_size_0 rfl 0 rfl ?_
  refine x_geti C sh_1 rfl iX6 3 (by decide) f26 (fun _ h => h) (by decide) rfl dX6_size_1 ?_
  exact x_iret C hr hlk dX6_size_4 ⟨rfl, rfl⟩

set_option maxHeartbeats 4000000 in
set_option maxRecDepth 100000 in
theorem c_X6_append (l : Launch) (V : xV) (hV : xInj V) (σ : xS) (k f g : Int32) : xM l yX6_append wsX6_append ({ frames := 1, cells := 0, slots := 0, locals := 22 }) V [ra V 1, .int k, .int f, .int g] σ (rV (rApp σ k f g)) := by
  refine xM_of (cc := cX6_append) (maxL := 4) (ret := none) [(0, ra V 1), (1, .int k), (2, .int f), (3, .int g)] hV (by decide) rfl rfl (Nat.le_of_ble_eq_true rfl) (fun p e s m args below meth c C hr hlk => ?_)
  have iX6 : ∀ w ∈ u_ws RX6 TX6 4, w ∈ wsX6_append := by decide +kernel
  have f14 : (Cond.fieldLink RX6 14 RX6 (TX6 0).2.1 (TX6 0).2.2.1).before args s = true := C.2.2.2.2.1 _ (by decide +kernel)
  have f26 : (Cond.fieldLink RX6 26 RX6 (TX6 3).2.1 (TX6 3).2.2.1).before args s = true := C.2.2.2.2.1 _ (by decide +kernel)
  have f20 : (Cond.fieldLink RX6 20 RX6 (TX6 1).2.1 (TX6 1).2.2.1).before args s = true := C.2.2.2.2.1 _ (by decide +kernel)
  have f23 : (Cond.fieldLink RX6 23 RX6 (TX6 2).2.1 (TX6 2).2.2.1).before args s = true := C.2.2.2.2.1 _ (by decide +kernel)
  refine x_aload_n C dX6_append_0 rfl 0 rfl ?_
  refine x_getr C sh_1 rfl iX6 0 (by decide) f14 (fun _ h => h) (by decide) rfl dX6_append_1 ?_
  refine x_aload_n C dX6_append_4 rfl 0 rfl ?_
  refine x_geti C sh_1 rfl iX6 3 (by decide) f26 (fun _ h => h) (by decide) rfl dX6_append_5 ?_
  refine x_iload_n C dX6_append_8 rfl 1 rfl ?_
  refine x_callV C sh_2 (by decide) rfl [.int (σ 200 0), .int k] (c_X5_put l V hV σ 2 3 8 sh_2 sh_3 (by decide) (σ 200 0) k) (cwV 2 C.2.2.2.2.1 gX6_append_X5_put rfl rfl rfl (by decide +kernel) ⟨Nat.le_of_ble_eq_true rfl, Nat.le_of_ble_eq_true rfl⟩) rfl rfl (Nat.le_of_ble_eq_true rfl) dX6_append_9 ⟨Nat.le_of_ble_eq_true rfl, Nat.le_of_ble_eq_true rfl⟩ (x_kV ?_)
  refine x_aload_n C dX6_append_12 rfl 0 rfl ?_
  refine x_getr C sh_1 rfl iX6 1 (by decide) f20 (fun _ h => h) (by decide) rfl dX6_append_13 ?_
  refine x_aload_n C dX6_append_16 rfl 0 rfl ?_
  refine x_geti C sh_1 rfl iX6 3 (by decide) f26 (fun _ h => h) (by decide) rfl dX6_append_17 ?_
  refine x_iload_n C dX6_append_20 rfl 2 rfl ?_
  refine x_callV C sh_4 (by decide) rfl [.int ((vPut σ 3 8 (σ 200 0) k) 200 0), .int f] (c_X5_put l V hV (vPut σ 3 8 (σ 200 0) k) 4 5 8 sh_4 sh_5 (by decide) ((vPut σ 3 8 (σ 200 0) k) 200 0) f) (cwV 2 C.2.2.2.2.1 gX6_append_X5_put rfl rfl rfl (by decide +kernel) ⟨Nat.le_of_ble_eq_true rfl, Nat.le_of_ble_eq_true rfl⟩) rfl rfl (Nat.le_of_ble_eq_true rfl) dX6_append_21 ⟨Nat.le_of_ble_eq_true rfl, Nat.le_of_ble_eq_true rfl⟩ (x_kV ?_)
  refine x_aload_n C dX6_append_24 rfl 0 rfl ?_
  refine x_getr C sh_1 rfl iX6 2 (by decide) f23 (fun _ h => h) (by decide) rfl dX6_append_25 ?_
  refine x_aload_n C dX6_append_28 rfl 0 rfl ?_
  refine x_geti C sh_1 rfl iX6 3 (by decide) f26 (fun _ h => h) (by decide) rfl dX6_append_29 ?_
  refine x_iload_n C dX6_append_32 rfl 3 rfl ?_
  refine x_callV C sh_6 (by decide) rfl [.int ((vPut (vPut σ 3 8 (σ 200 0) k) 5 8 ((vPut σ 3 8 (σ 200 0) k) 200 0) f) 200 0), .int g] (c_X5_put l V hV (vPut (vPut σ 3 8 (σ 200 0) k) 5 8 ((vPut σ 3 8 (σ 200 0) k) 200 0) f) 6 7 8 sh_6 sh_7 (by decide) ((vPut (vPut σ 3 8 (σ 200 0) k) 5 8 ((vPut σ 3 8 (σ 200 0) k) 200 0) f) 200 0) g) (cwV 2 C.2.2.2.2.1 gX6_append_X5_put rfl rfl rfl (by decide +kernel) ⟨Nat.le_of_ble_eq_true rfl, Nat.le_of_ble_eq_true rfl⟩) rfl rfl (Nat.le_of_ble_eq_true rfl) dX6_append_33 ⟨Nat.le_of_ble_eq_true rfl, Nat.le_of_ble_eq_true rfl⟩ (x_kV ?_)
  refine x_aload_n C dX6_append_36 rfl 0 rfl ?_
  refine x_dup C rfl dX6_append_37 ?_
  refine x_geti C sh_1 rfl iX6 3 (by decide) f26 (fun _ h => h) (by decide) rfl dX6_append_38 ?_
  refine x_iconst C (1 : Int32) (by decide) dX6_append_41 ?_
  refine x_iadd C dX6_append_42 ?_
  refine x_puti (ty := .int) C sh_1 rfl iX6 3 (by decide) f26 (fun _ h => h) (by decide) rfl (by decide +kernel) (by decide +kernel) (by decide) rfl tyX6 tyX6_ok nmX6 (by decide +kernel) rfl rfl dX6_append_43 ?_
  exact x_vret C hr hlk dX6_append_46 ⟨rfl, by simp [rApp, vPut_ne]⟩


abbrev IllegalArgumentExceptionN : String := "java/lang/IllegalArgumentException"
abbrev IllegalStateExceptionN : String := "java/lang/IllegalStateException"
abbrev IndexOutOfBoundsExceptionN : String := "java/lang/IndexOutOfBoundsException"
/-! ProductLineChecker's public methods. kX: 0, or which of its exceptions (in their order) it throws. -/
def mixL (d x : Int64) : Int64 := d * 31 + x
def kRule (σ : xS) (k f g : Int32) : Nat := if (k = 0 ∨ k = 1) ∧ featB f = true ∧ featB g = true then (if σ 200 0 < 8 then 0 else 2) else 1
def kDropR (σ : xS) : Nat := if σ 200 0 = 0 then 1 else 0
def kClass (σ : xS) (on off : Int32) : Nat := if condB on off = true then (if σ 201 0 < 8 then 0 else 2) else 1
def kLink (σ : xS) (o q on off : Int32) : Nat := if cHas σ 201 o = true ∧ cHas σ 201 q = true then (if condB on off = true then (if σ 202 0 < 12 then 0 else 3) else 2) else 1
def kField (σ : xS) (o n t on off : Int32) : Nat := if cHas σ 201 o = true then (if nameB n = true ∧ hasT σ t = true ∧ condB on off = true then (if σ 203 0 < 24 then 0 else 3) else 2) else 1
def kMeth (σ : xS) (o n t f g on off : Int32) : Nat := if cHas σ 201 o = true then (if nameB n = true ∧ hasT σ t = true ∧ hasPs σ f g = true ∧ condB on off = true then (if σ 203 0 < 24 then 0 else 3) else 2) else 1
def kNew (σ : xS) (m c : Int32) : Nat := if mIsM σ m = true ∧ cHas σ 201 c = true then (if σ 205 0 < 50 then 0 else 2) else 1
def kPlain (σ : xS) (m : Int32) : Nat := if mIsM σ m = true then (if σ 205 0 < 50 then 0 else 2) else 1
def kArg (σ : xS) (m i : Int32) : Nat := if mIsM σ m = true ∧ ¬ mPar σ m i = -1 then (if σ 205 0 < 50 then 0 else 2) else 1
def kFOf (σ : xS) (e n : Int32) : Nat := if cHas σ 205 e = true then (if nameB n = true then (if σ 205 0 < 50 then 0 else 3) else 2) else 1
def kCall (σ : xS) (e n f g : Int32) : Nat := if cHas σ 205 e = true ∧ eOrN σ f = true ∧ eOrN σ g = true then (if nameB n = true ∧ ¬ (f = -1 ∧ ¬ g = -1) ∧ eTog σ e f = true ∧ eTog σ e g = true then (if σ 205 0 < 50 then 0 else 3) else 2) else 1
def kRes (σ : xS) (e on off : Int32) : Nat := if cHas σ 205 e = true then (if condB on off = true then (if σ 204 0 < 16 then 0 else 3) else 2) else 1
def kSet (σ : xS) (t i on off : Int32) : Nat := if hasE σ t i = true then (if condB on off = true then 0 else 2) else 1
def kDropX (σ : xS) : Nat := if σ 204 0 = 0 then 1 else 0
def kCnt (t : Int32) : Nat := if ¬ t < 0 ∧ t ≤ 4 then 0 else 1
def kPres (σ : xS) (t i : Int32) : Nat := if hasE σ t i = true then 0 else 1
def isPr (σ : xS) (c : Int32) : Bool := isInB (allI σ) c
def kPar (σ : xS) (o c : Int32) : Nat := if cHas σ 201 o = true then (if isPr σ c = true then 0 else 2) else 1
def kBel (σ : xS) (a b c : Int32) : Nat := if cHas σ 201 a = true ∧ cHas σ 201 b = true then (if isPr σ c = true then 0 else 2) else 1
def kFind (σ : xS) (o n c : Int32) : Nat := if cHas σ 201 o = true then (if nameB n = true ∧ isPr σ c = true then 0 else 2) else 1
def kTyp (σ : xS) (e c : Int32) : Nat := if cHas σ 205 e = true then (if isPr σ c = true then 0 else 2) else 1
def insA (σ : xS) : xS := insp σ (allI σ)
def kErr (σ : xS) (i w : Int32) : Nat := if ¬ i < 0 ∧ ¬ insA σ 207 0 ≤ i ∧ ¬ w < 0 ∧ w ≤ 2 then 0 else 1
def kEIn (σ : xS) (c : Int32) : Nat := if isPr σ c = true then 0 else 1
def vErr (σ : xS) (i w : Int32) : Int32 := if w = 0 then kndO (insA σ) i else if w = 1 then elmO (insA σ) i else prdO (insA σ) i
def rgt (σ : xS) : Int32 := allI σ &&& (wrg (insA σ) ^^^ (-1))
def setQ (t : Int32) : Nat := if t = 0 then 9 else if t = 1 then 16 else if t = 2 then 28 else 60
def setC (t : Int32) : Nat := if t = 0 then 8 else if t = 1 then 12 else if t = 2 then 24 else 16

set_option maxHeartbeats 4000000 in
set_option maxRecDepth 100000 in
theorem c_X8_products (l : Launch) (V : xV) (hV : xInj V) (σ : xS)   : xM l yX8_products wsX8_products ({ frames := 3, cells := 0, slots := 0, locals := 67 }) V [ra V 0] σ (rI (allI σ) σ) := by
  refine xM_of (cc := cX8_products) (maxL := 1) (ret := (some .int)) [(0, ra V 0)] hV (by decide) rfl rfl (Nat.le_of_ble_eq_true rfl) (fun p e s m args below meth c C hr hlk => ?_)
  have iX8 : ∀ w ∈ u_ws RX8 TX8 4, w ∈ wsX8_products := by decide +kernel
  have f10 : (Cond.fieldLink RX8 10 RX8 (TX8 0).2.1 (TX8 0).2.2.1).before args s = true := C.2.2.2.2.1 _ (by decide +kernel)
  refine x_aload_n C dX8_products_0 rfl 0 rfl ?_
  refine x_getr C sh_0 rfl iX8 0 (by decide) f10 (fun _ h => h) (by decide) rfl dX8_products_1 ?_
  refine x_callV C sh_1 (by decide) rfl [] (c_X6_allowed l V hV σ ) (cwV 0 C.2.2.2.2.1 gX8_products_X6_allowed rfl rfl rfl (by decide +kernel) ⟨Nat.le_of_ble_eq_true rfl, Nat.le_of_ble_eq_true rfl⟩) rfl rfl (Nat.le_of_ble_eq_true rfl) dX8_products_4 ⟨Nat.le_of_ble_eq_true rfl, Nat.le_of_ble_eq_true rfl⟩ (x_kI ?_)
  exact x_iret C hr hlk dX8_products_7 ⟨rfl, rfl⟩

set_option maxHeartbeats 4000000 in
set_option maxRecDepth 100000 in
theorem c_X8_isProduct (l : Launch) (V : xV) (hV : xInj V) (σ : xS) (c1 : Int32)  : xM l yX8_isProduct wsX8_isProduct ({ frames := 3, cells := 0, slots := 0, locals := 67 }) V [ra V 0, .int c1] σ (rI (bI (isPr σ c1)) σ) := by
  refine xM_of (cc := cX8_isProduct) (maxL := 2) (ret := (some .boolean)) [(0, ra V 0), (1, .int c1)] hV (by decide) rfl rfl (Nat.le_of_ble_eq_true rfl) (fun p e s m args below meth c C hr hlk => ?_)
  have iX8 : ∀ w ∈ u_ws RX8 TX8 4, w ∈ wsX8_isProduct := by decide +kernel
  have f10 : (Cond.fieldLink RX8 10 RX8 (TX8 0).2.1 (TX8 0).2.2.1).before args s = true := C.2.2.2.2.1 _ (by decide +kernel)
  refine x_aload_n C dX8_isProduct_0 rfl 0 rfl ?_
  refine x_getr C sh_0 rfl iX8 0 (by decide) f10 (fun _ h => h) (by decide) rfl dX8_isProduct_1 ?_
  refine x_callV C sh_1 (by decide) rfl [] (c_X6_allowed l V hV σ ) (cwV 0 C.2.2.2.2.1 gX8_isProduct_X6_allowed rfl rfl rfl (by decide +kernel) ⟨Nat.le_of_ble_eq_true rfl, Nat.le_of_ble_eq_true rfl⟩) rfl rfl (Nat.le_of_ble_eq_true rfl) dX8_isProduct_4 ⟨Nat.le_of_ble_eq_true rfl, Nat.le_of_ble_eq_true rfl⟩ (x_kI ?_)
  refine x_iload_n C dX8_isProduct_7 rfl 1 rfl ?_
  refine x_callS C [.int (allI σ), .int c1] (c_X8_isIn l V hV σ (allI σ) c1) (va_cwS 2 C.2.2.2.2.1 gX8_isProduct_X8_isIn rfl rfl rfl (by decide +kernel) ⟨Nat.le_of_ble_eq_true rfl, Nat.le_of_ble_eq_true rfl⟩) rfl rfl (Nat.le_of_ble_eq_true rfl) dX8_isProduct_8 ⟨Nat.le_of_ble_eq_true rfl, Nat.le_of_ble_eq_true rfl⟩ (x_kI ?_)
  exact x_zret C (isInB (allI σ) c1) rfl hr hlk dX8_isProduct_11 ⟨rfl, rfl⟩

set_option maxHeartbeats 4000000 in
set_option maxRecDepth 100000 in
theorem c_X8_addRule (l : Launch) (V : xV) (hV : xInj V) (σ : xS) (k f g : Int32)  (hk0 : kRule σ k f g = 0) : xM l yX8_addRule wsX8_addRule ({ frames := 2, cells := 0, slots := 0, locals := 45 }) V [ra V 0, .int k, .int f, .int g] σ (rI (rApp σ k f g 200 0) (rApp σ k f g)) := by
  refine xM_of (cc := cX8_addRule) (maxL := 4) (ret := (some .int)) [(0, ra V 0), (1, .int k), (2, .int f), (3, .int g)] hV (by decide) rfl rfl (Nat.le_of_ble_eq_true rfl) (fun p e s m args below meth c C hr hlk => ?_)
  have iX8 : ∀ w ∈ u_ws RX8 TX8 4, w ∈ wsX8_addRule := by decide +kernel
  have f10 : (Cond.fieldLink RX8 10 RX8 (TX8 0).2.1 (TX8 0).2.2.1).before args s = true := C.2.2.2.2.1 _ (by decide +kernel)
  refine x_iload_n C dX8_addRule_0 rfl 1 rfl ?_
  refine x_if_eq C 9 dX8_addRule_1 rfl (fun h1 => ?_) (fun h1 => ?_)
  · refine x_iload_n C dX8_addRule_9 rfl 2 rfl ?_
    refine x_callS C [.int f] (c_X8_isFeature l V hV σ f) (va_cwS 1 C.2.2.2.2.1 gX8_addRule_X8_isFeature rfl rfl rfl (by decide +kernel) ⟨Nat.le_of_ble_eq_true rfl, Nat.le_of_ble_eq_true rfl⟩) rfl rfl (Nat.le_of_ble_eq_true rfl) dX8_addRule_10 ⟨Nat.le_of_ble_eq_true rfl, Nat.le_of_ble_eq_true rfl⟩ (x_kI ?_)
    refine x_bif_eq C 23 dX8_addRule_13 rfl (fun h2 => ?_) (fun h2 => ?_)
    · exact absurd hk0 (by simp [kRule, eq_true h1, h2])
    · refine x_iload_n C dX8_addRule_16 rfl 3 rfl ?_
      refine x_callS C [.int g] (c_X8_isFeature l V hV σ g) (va_cwS 1 C.2.2.2.2.1 gX8_addRule_X8_isFeature rfl rfl rfl (by decide +kernel) ⟨Nat.le_of_ble_eq_true rfl, Nat.le_of_ble_eq_true rfl⟩) rfl rfl (Nat.le_of_ble_eq_true rfl) dX8_addRule_17 ⟨Nat.le_of_ble_eq_true rfl, Nat.le_of_ble_eq_true rfl⟩ (x_kI ?_)
      refine x_bif_ne C 33 dX8_addRule_20 rfl (fun h3 => ?_) (fun h3 => ?_)
      · refine x_aload_n C dX8_addRule_33 rfl 0 rfl ?_
        refine x_getr C sh_0 rfl iX8 0 (by decide) f10 (fun _ h => h) (by decide) rfl dX8_addRule_34 ?_
        refine x_callV C sh_1 (by decide) rfl [] (c_X6_size l V hV σ ) (cwV 0 C.2.2.2.2.1 gX8_addRule_X6_size rfl rfl rfl (by decide +kernel) ⟨Nat.le_of_ble_eq_true rfl, Nat.le_of_ble_eq_true rfl⟩) rfl rfl (Nat.le_of_ble_eq_true rfl) dX8_addRule_37 ⟨Nat.le_of_ble_eq_true rfl, Nat.le_of_ble_eq_true rfl⟩ (x_kI ?_)
        refine x_bipush C (8 : Int32) (by decide) dX8_addRule_40 ?_
        refine x_icmp_lt C 55 dX8_addRule_42 rfl (fun h4 => ?_) (fun h4 => ?_)
        · refine x_aload_n C dX8_addRule_55 rfl 0 rfl ?_
          refine x_getr C sh_0 rfl iX8 0 (by decide) f10 (fun _ h => h) (by decide) rfl dX8_addRule_56 ?_
          refine x_iload_n C dX8_addRule_59 rfl 1 rfl ?_
          refine x_iload_n C dX8_addRule_60 rfl 2 rfl ?_
          refine x_iload_n C dX8_addRule_61 rfl 3 rfl ?_
          refine x_callV C sh_1 (by decide) rfl [.int k, .int f, .int g] (c_X6_append l V hV σ k f g) (cwV 3 C.2.2.2.2.1 gX8_addRule_X6_append rfl rfl rfl (by decide +kernel) ⟨Nat.le_of_ble_eq_true rfl, Nat.le_of_ble_eq_true rfl⟩) rfl rfl (Nat.le_of_ble_eq_true rfl) dX8_addRule_62 ⟨Nat.le_of_ble_eq_true rfl, Nat.le_of_ble_eq_true rfl⟩ (x_kV ?_)
          refine x_aload_n C dX8_addRule_65 rfl 0 rfl ?_
          refine x_getr C sh_0 rfl iX8 0 (by decide) f10 (fun _ h => h) (by decide) rfl dX8_addRule_66 ?_
          refine x_callV C sh_1 (by decide) rfl [] (c_X6_size l V hV (rApp σ k f g) ) (cwV 0 C.2.2.2.2.1 gX8_addRule_X6_size rfl rfl rfl (by decide +kernel) ⟨Nat.le_of_ble_eq_true rfl, Nat.le_of_ble_eq_true rfl⟩) rfl rfl (Nat.le_of_ble_eq_true rfl) dX8_addRule_69 ⟨Nat.le_of_ble_eq_true rfl, Nat.le_of_ble_eq_true rfl⟩ (x_kI ?_)
          exact x_iret C hr hlk dX8_addRule_72 ⟨rfl, rfl⟩
        · exact absurd hk0 (by simp [kRule, eq_true h1, h2, h3, h4])
      · exact absurd hk0 (by simp [kRule, eq_true h1, h2, h3])
  · refine x_iload_n C dX8_addRule_4 rfl 1 rfl ?_
    refine x_iconst C (1 : Int32) (by decide) dX8_addRule_5 ?_
    refine x_icmp_ne C 23 dX8_addRule_6 rfl (fun h5 => ?_) (fun h5 => ?_)
    · exact absurd hk0 (by simp [kRule, h1, h5])
    · refine x_iload_n C dX8_addRule_9 rfl 2 rfl ?_
      refine x_callS C [.int f] (c_X8_isFeature l V hV σ f) (va_cwS 1 C.2.2.2.2.1 gX8_addRule_X8_isFeature rfl rfl rfl (by decide +kernel) ⟨Nat.le_of_ble_eq_true rfl, Nat.le_of_ble_eq_true rfl⟩) rfl rfl (Nat.le_of_ble_eq_true rfl) dX8_addRule_10 ⟨Nat.le_of_ble_eq_true rfl, Nat.le_of_ble_eq_true rfl⟩ (x_kI ?_)
      refine x_bif_eq C 23 dX8_addRule_13 rfl (fun h6 => ?_) (fun h6 => ?_)
      · exact absurd hk0 (by simp [kRule, h1, eq_true h5, h6])
      · refine x_iload_n C dX8_addRule_16 rfl 3 rfl ?_
        refine x_callS C [.int g] (c_X8_isFeature l V hV σ g) (va_cwS 1 C.2.2.2.2.1 gX8_addRule_X8_isFeature rfl rfl rfl (by decide +kernel) ⟨Nat.le_of_ble_eq_true rfl, Nat.le_of_ble_eq_true rfl⟩) rfl rfl (Nat.le_of_ble_eq_true rfl) dX8_addRule_17 ⟨Nat.le_of_ble_eq_true rfl, Nat.le_of_ble_eq_true rfl⟩ (x_kI ?_)
        refine x_bif_ne C 33 dX8_addRule_20 rfl (fun h7 => ?_) (fun h7 => ?_)
        · refine x_aload_n C dX8_addRule_33 rfl 0 rfl ?_
          refine x_getr C sh_0 rfl iX8 0 (by decide) f10 (fun _ h => h) (by decide) rfl dX8_addRule_34 ?_
          refine x_callV C sh_1 (by decide) rfl [] (c_X6_size l V hV σ ) (cwV 0 C.2.2.2.2.1 gX8_addRule_X6_size rfl rfl rfl (by decide +kernel) ⟨Nat.le_of_ble_eq_true rfl, Nat.le_of_ble_eq_true rfl⟩) rfl rfl (Nat.le_of_ble_eq_true rfl) dX8_addRule_37 ⟨Nat.le_of_ble_eq_true rfl, Nat.le_of_ble_eq_true rfl⟩ (x_kI ?_)
          refine x_bipush C (8 : Int32) (by decide) dX8_addRule_40 ?_
          refine x_icmp_lt C 55 dX8_addRule_42 rfl (fun h8 => ?_) (fun h8 => ?_)
          · refine x_aload_n C dX8_addRule_55 rfl 0 rfl ?_
            refine x_getr C sh_0 rfl iX8 0 (by decide) f10 (fun _ h => h) (by decide) rfl dX8_addRule_56 ?_
            refine x_iload_n C dX8_addRule_59 rfl 1 rfl ?_
            refine x_iload_n C dX8_addRule_60 rfl 2 rfl ?_
            refine x_iload_n C dX8_addRule_61 rfl 3 rfl ?_
            refine x_callV C sh_1 (by decide) rfl [.int k, .int f, .int g] (c_X6_append l V hV σ k f g) (cwV 3 C.2.2.2.2.1 gX8_addRule_X6_append rfl rfl rfl (by decide +kernel) ⟨Nat.le_of_ble_eq_true rfl, Nat.le_of_ble_eq_true rfl⟩) rfl rfl (Nat.le_of_ble_eq_true rfl) dX8_addRule_62 ⟨Nat.le_of_ble_eq_true rfl, Nat.le_of_ble_eq_true rfl⟩ (x_kV ?_)
            refine x_aload_n C dX8_addRule_65 rfl 0 rfl ?_
            refine x_getr C sh_0 rfl iX8 0 (by decide) f10 (fun _ h => h) (by decide) rfl dX8_addRule_66 ?_
            refine x_callV C sh_1 (by decide) rfl [] (c_X6_size l V hV (rApp σ k f g) ) (cwV 0 C.2.2.2.2.1 gX8_addRule_X6_size rfl rfl rfl (by decide +kernel) ⟨Nat.le_of_ble_eq_true rfl, Nat.le_of_ble_eq_true rfl⟩) rfl rfl (Nat.le_of_ble_eq_true rfl) dX8_addRule_69 ⟨Nat.le_of_ble_eq_true rfl, Nat.le_of_ble_eq_true rfl⟩ (x_kI ?_)
            exact x_iret C hr hlk dX8_addRule_72 ⟨rfl, rfl⟩
          · exact absurd hk0 (by simp [kRule, h1, eq_true h5, h6, h7, h8])
        · exact absurd hk0 (by simp [kRule, h1, eq_true h5, h6, h7])


set_option maxHeartbeats 4000000 in
set_option maxRecDepth 100000 in
theorem c_X8_addClass (l : Launch) (V : xV) (hV : xInj V) (σ : xS) (on off : Int32)  (hk0 : kClass σ on off = 0) : xM l yX8_addClass wsX8_addClass ({ frames := 3, cells := 0, slots := 0, locals := 69 }) V [ra V 0, .int on, .int off] σ (rI (σ 201 0) (cApp σ 9 8 201 on off)) := by
  refine xM_of (cc := cX8_addClass) (maxL := 3) (ret := (some .int)) [(0, ra V 0), (1, .int on), (2, .int off)] hV (by decide) rfl rfl (Nat.le_of_ble_eq_true rfl) (fun p e s m args below meth c C hr hlk => ?_)
  have iX8 : ∀ w ∈ u_ws RX8 TX8 4, w ∈ wsX8_addClass := by decide +kernel
  have f19 : (Cond.fieldLink RX8 19 RX8 (TX8 1).2.1 (TX8 1).2.2.1).before args s = true := C.2.2.2.2.1 _ (by decide +kernel)
  have iX4 : ∀ w ∈ u_ws RX4 TX4 8, w ∈ wsX8_addClass := by decide +kernel
  have f79 : (Cond.fieldLink RX8 79 RX4 (TX4 0).2.1 (TX4 0).2.2.1).before args s = true := C.2.2.2.2.1 _ (by decide +kernel)
  refine x_iload_n C dX8_addClass_0 rfl 1 rfl ?_
  refine x_iload_n C dX8_addClass_1 rfl 2 rfl ?_
  refine x_callS C [.int on, .int off] (c_X8_isCondition l V hV σ on off) (va_cwS 2 C.2.2.2.2.1 gX8_addClass_X8_isCondition rfl rfl rfl (by decide +kernel) ⟨Nat.le_of_ble_eq_true rfl, Nat.le_of_ble_eq_true rfl⟩) rfl rfl (Nat.le_of_ble_eq_true rfl) dX8_addClass_2 ⟨Nat.le_of_ble_eq_true rfl, Nat.le_of_ble_eq_true rfl⟩ (x_kI ?_)
  refine x_bif_ne C 18 dX8_addClass_5 rfl (fun h1 => ?_) (fun h1 => ?_)
  · refine x_aload_n C dX8_addClass_18 rfl 0 rfl ?_
    refine x_getr C sh_0 rfl iX8 1 (by decide) f19 (fun _ h => h) (by decide) rfl dX8_addClass_19 ?_
    refine x_getr C sh_8 rfl iX4 0 (by decide) f79 (fun _ h => h) (by decide) rfl dX8_addClass_22 ?_
    refine x_callV C sh_9 (by decide) rfl [] (c_X0_size_9 l V hV σ ) (cwV 0 C.2.2.2.2.1 gX8_addClass_X0_size rfl rfl rfl (by decide +kernel) ⟨Nat.le_of_ble_eq_true rfl, Nat.le_of_ble_eq_true rfl⟩) rfl rfl (Nat.le_of_ble_eq_true rfl) dX8_addClass_25 ⟨Nat.le_of_ble_eq_true rfl, Nat.le_of_ble_eq_true rfl⟩ (x_kI ?_)
    refine x_bipush C (8 : Int32) (by decide) dX8_addClass_28 ?_
    refine x_icmp_lt C 43 dX8_addClass_30 rfl (fun h2 => ?_) (fun h2 => ?_)
    · refine x_aload_n C dX8_addClass_43 rfl 0 rfl ?_
      refine x_getr C sh_0 rfl iX8 1 (by decide) f19 (fun _ h => h) (by decide) rfl dX8_addClass_44 ?_
      refine x_getr C sh_8 rfl iX4 0 (by decide) f79 (fun _ h => h) (by decide) rfl dX8_addClass_47 ?_
      refine x_iload_n C dX8_addClass_50 rfl 1 rfl ?_
      refine x_iload_n C dX8_addClass_51 rfl 2 rfl ?_
      refine x_callV C sh_9 (by decide) rfl [.int on, .int off] (c_X0_append_9 l V hV σ on off) (cwV 2 C.2.2.2.2.1 gX8_addClass_X0_append rfl rfl rfl (by decide +kernel) ⟨Nat.le_of_ble_eq_true rfl, Nat.le_of_ble_eq_true rfl⟩) rfl rfl (Nat.le_of_ble_eq_true rfl) dX8_addClass_52 ⟨Nat.le_of_ble_eq_true rfl, Nat.le_of_ble_eq_true rfl⟩ (x_kI ?_)
      exact x_iret C hr hlk dX8_addClass_55 ⟨rfl, rfl⟩
    · exact absurd hk0 (by simp [kClass, h1, h2])
  · exact absurd hk0 (by simp [kClass, h1])

set_option maxHeartbeats 4000000 in
set_option maxRecDepth 100000 in
theorem c_X8_addLink (l : Launch) (V : xV) (hV : xInj V) (σ : xS) (o q on off : Int32)  (hk0 : kLink σ o q on off = 0) : xM l yX8_addLink wsX8_addLink ({ frames := 4, cells := 0, slots := 0, locals := 94 }) V [ra V 0, .int o, .int q, .int on, .int off] σ (rI (σ 202 0) (vPut (vPut (cApp σ 16 12 202 on off) 24 12 (σ 202 0) o) 26 12 (σ 202 0) q)) := by
  refine xM_of (cc := cX8_addLink) (maxL := 5) (ret := (some .int)) [(0, ra V 0), (1, .int o), (2, .int q), (3, .int on), (4, .int off)] hV (by decide) rfl rfl (Nat.le_of_ble_eq_true rfl) (fun p e s m args below meth c C hr hlk => ?_)
  have iX8 : ∀ w ∈ u_ws RX8 TX8 4, w ∈ wsX8_addLink := by decide +kernel
  have f19 : (Cond.fieldLink RX8 19 RX8 (TX8 1).2.1 (TX8 1).2.2.1).before args s = true := C.2.2.2.2.1 _ (by decide +kernel)
  have iX4 : ∀ w ∈ u_ws RX4 TX4 8, w ∈ wsX8_addLink := by decide +kernel
  have f79 : (Cond.fieldLink RX8 79 RX4 (TX4 0).2.1 (TX4 0).2.2.1).before args s = true := C.2.2.2.2.1 _ (by decide +kernel)
  have f99 : (Cond.fieldLink RX8 99 RX4 (TX4 1).2.1 (TX4 1).2.2.1).before args s = true := C.2.2.2.2.1 _ (by decide +kernel)
  refine x_aload_n C dX8_addLink_0 rfl 0 rfl ?_
  refine x_getr C sh_0 rfl iX8 1 (by decide) f19 (fun _ h => h) (by decide) rfl dX8_addLink_1 ?_
  refine x_getr C sh_8 rfl iX4 0 (by decide) f79 (fun _ h => h) (by decide) rfl dX8_addLink_4 ?_
  refine x_iload_n C dX8_addLink_7 rfl 1 rfl ?_
  refine x_callV C sh_9 (by decide) rfl [.int o] (c_X0_has_9 l V hV σ o) (cwV 1 C.2.2.2.2.1 gX8_addLink_X0_has rfl rfl rfl (by decide +kernel) ⟨Nat.le_of_ble_eq_true rfl, Nat.le_of_ble_eq_true rfl⟩) rfl rfl (Nat.le_of_ble_eq_true rfl) dX8_addLink_8 ⟨Nat.le_of_ble_eq_true rfl, Nat.le_of_ble_eq_true rfl⟩ (x_kI ?_)
  refine x_bif_eq C 28 dX8_addLink_11 rfl (fun h1 => ?_) (fun h1 => ?_)
  · exact absurd hk0 (by simp [kLink, h1])
  · refine x_aload_n C dX8_addLink_14 rfl 0 rfl ?_
    refine x_getr C sh_0 rfl iX8 1 (by decide) f19 (fun _ h => h) (by decide) rfl dX8_addLink_15 ?_
    refine x_getr C sh_8 rfl iX4 0 (by decide) f79 (fun _ h => h) (by decide) rfl dX8_addLink_18 ?_
    refine x_iload_n C dX8_addLink_21 rfl 2 rfl ?_
    refine x_callV C sh_9 (by decide) rfl [.int q] (c_X0_has_9 l V hV σ q) (cwV 1 C.2.2.2.2.1 gX8_addLink_X0_has rfl rfl rfl (by decide +kernel) ⟨Nat.le_of_ble_eq_true rfl, Nat.le_of_ble_eq_true rfl⟩) rfl rfl (Nat.le_of_ble_eq_true rfl) dX8_addLink_22 ⟨Nat.le_of_ble_eq_true rfl, Nat.le_of_ble_eq_true rfl⟩ (x_kI ?_)
    refine x_bif_ne C 38 dX8_addLink_25 rfl (fun h2 => ?_) (fun h2 => ?_)
    · refine x_iload_n C dX8_addLink_38 rfl 3 rfl ?_
      refine x_iload C dX8_addLink_39 4 rfl ?_
      refine x_callS C [.int on, .int off] (c_X8_isCondition l V hV σ on off) (va_cwS 2 C.2.2.2.2.1 gX8_addLink_X8_isCondition rfl rfl rfl (by decide +kernel) ⟨Nat.le_of_ble_eq_true rfl, Nat.le_of_ble_eq_true rfl⟩) rfl rfl (Nat.le_of_ble_eq_true rfl) dX8_addLink_41 ⟨Nat.le_of_ble_eq_true rfl, Nat.le_of_ble_eq_true rfl⟩ (x_kI ?_)
      refine x_bif_ne C 57 dX8_addLink_44 rfl (fun h3 => ?_) (fun h3 => ?_)
      · refine x_aload_n C dX8_addLink_57 rfl 0 rfl ?_
        refine x_getr C sh_0 rfl iX8 1 (by decide) f19 (fun _ h => h) (by decide) rfl dX8_addLink_58 ?_
        refine x_getr C sh_8 rfl iX4 1 (by decide) f99 (fun _ h => h) (by decide) rfl dX8_addLink_61 ?_
        refine x_callV C sh_16 (by decide) rfl [] (c_X0_size_16 l V hV σ ) (cwV 0 C.2.2.2.2.1 gX8_addLink_X0_size rfl rfl rfl (by decide +kernel) ⟨Nat.le_of_ble_eq_true rfl, Nat.le_of_ble_eq_true rfl⟩) rfl rfl (Nat.le_of_ble_eq_true rfl) dX8_addLink_64 ⟨Nat.le_of_ble_eq_true rfl, Nat.le_of_ble_eq_true rfl⟩ (x_kI ?_)
        refine x_bipush C (12 : Int32) (by decide) dX8_addLink_67 ?_
        refine x_icmp_lt C 82 dX8_addLink_69 rfl (fun h4 => ?_) (fun h4 => ?_)
        · refine x_aload_n C dX8_addLink_82 rfl 0 rfl ?_
          refine x_getr C sh_0 rfl iX8 1 (by decide) f19 (fun _ h => h) (by decide) rfl dX8_addLink_83 ?_
          refine x_iload_n C dX8_addLink_86 rfl 1 rfl ?_
          refine x_iload_n C dX8_addLink_87 rfl 2 rfl ?_
          refine x_iload_n C dX8_addLink_88 rfl 3 rfl ?_
          refine x_iload C dX8_addLink_89 4 rfl ?_
          refine x_callV C sh_8 (by decide) rfl [.int o, .int q, .int on, .int off] (c_X4_appendLink l V hV σ o q on off) (cwV 4 C.2.2.2.2.1 gX8_addLink_X4_appendLink rfl rfl rfl (by decide +kernel) ⟨Nat.le_of_ble_eq_true rfl, Nat.le_of_ble_eq_true rfl⟩) rfl rfl (Nat.le_of_ble_eq_true rfl) dX8_addLink_91 ⟨Nat.le_of_ble_eq_true rfl, Nat.le_of_ble_eq_true rfl⟩ (x_kI ?_)
          exact x_iret C hr hlk dX8_addLink_94 ⟨rfl, rfl⟩
        · exact absurd hk0 (by simp [kLink, h1, h2, h3, h4])
      · exact absurd hk0 (by simp [kLink, h1, h2, h3])
    · exact absurd hk0 (by simp [kLink, h1, h2])

set_option maxHeartbeats 4000000 in
set_option maxRecDepth 100000 in
theorem c_X8_addField (l : Launch) (V : xV) (hV : xInj V) (σ : xS) (o n t on off : Int32)  (hk0 : kField σ o n t on off = 0) : xM l yX8_addField wsX8_addField ({ frames := 4, cells := 0, slots := 0, locals := 95 }) V [ra V 0, .int o, .int n, .int t, .int on, .int off] σ (rI (σ 203 0) (mTyp (mApp σ 0 o n on off) (σ 203 0) t (-1) (-1))) := by
  refine xM_of (cc := cX8_addField) (maxL := 7) (ret := (some .int)) [(0, ra V 0), (1, .int o), (2, .int n), (3, .int t), (4, .int on), (5, .int off)] hV (by decide) rfl rfl (Nat.le_of_ble_eq_true rfl) (fun p e s m args below meth c C hr hlk => ?_)
  have iX8 : ∀ w ∈ u_ws RX8 TX8 4, w ∈ wsX8_addField := by decide +kernel
  have f19 : (Cond.fieldLink RX8 19 RX8 (TX8 1).2.1 (TX8 1).2.2.1).before args s = true := C.2.2.2.2.1 _ (by decide +kernel)
  have iX4 : ∀ w ∈ u_ws RX4 TX4 8, w ∈ wsX8_addField := by decide +kernel
  have f79 : (Cond.fieldLink RX8 79 RX4 (TX4 0).2.1 (TX4 0).2.2.1).before args s = true := C.2.2.2.2.1 _ (by decide +kernel)
  have f116 : (Cond.fieldLink RX8 116 RX4 (TX4 4).2.1 (TX4 4).2.2.1).before args s = true := C.2.2.2.2.1 _ (by decide +kernel)
  refine x_aload_n C dX8_addField_0 rfl 0 rfl ?_
  refine x_getr C sh_0 rfl iX8 1 (by decide) f19 (fun _ h => h) (by decide) rfl dX8_addField_1 ?_
  refine x_getr C sh_8 rfl iX4 0 (by decide) f79 (fun _ h => h) (by decide) rfl dX8_addField_4 ?_
  refine x_iload_n C dX8_addField_7 rfl 1 rfl ?_
  refine x_callV C sh_9 (by decide) rfl [.int o] (c_X0_has_9 l V hV σ o) (cwV 1 C.2.2.2.2.1 gX8_addField_X0_has rfl rfl rfl (by decide +kernel) ⟨Nat.le_of_ble_eq_true rfl, Nat.le_of_ble_eq_true rfl⟩) rfl rfl (Nat.le_of_ble_eq_true rfl) dX8_addField_8 ⟨Nat.le_of_ble_eq_true rfl, Nat.le_of_ble_eq_true rfl⟩ (x_kI ?_)
  refine x_bif_ne C 24 dX8_addField_11 rfl (fun h1 => ?_) (fun h1 => ?_)
  · refine x_iload_n C dX8_addField_24 rfl 2 rfl ?_
    refine x_callS C [.int n] (c_X8_isName l V hV σ n) (va_cwS 1 C.2.2.2.2.1 gX8_addField_X8_isName rfl rfl rfl (by decide +kernel) ⟨Nat.le_of_ble_eq_true rfl, Nat.le_of_ble_eq_true rfl⟩) rfl rfl (Nat.le_of_ble_eq_true rfl) dX8_addField_25 ⟨Nat.le_of_ble_eq_true rfl, Nat.le_of_ble_eq_true rfl⟩ (x_kI ?_)
    refine x_bif_eq C 52 dX8_addField_28 rfl (fun h2 => ?_) (fun h2 => ?_)
    · exact absurd hk0 (by simp [kField, h1, h2])
    · refine x_aload_n C dX8_addField_31 rfl 0 rfl ?_
      refine x_getr C sh_0 rfl iX8 1 (by decide) f19 (fun _ h => h) (by decide) rfl dX8_addField_32 ?_
      refine x_iload_n C dX8_addField_35 rfl 3 rfl ?_
      refine x_callV C sh_8 (by decide) rfl [.int t] (c_X4_hasType l V hV σ t) (cwV 1 C.2.2.2.2.1 gX8_addField_X4_hasType rfl rfl rfl (by decide +kernel) ⟨Nat.le_of_ble_eq_true rfl, Nat.le_of_ble_eq_true rfl⟩) rfl rfl (Nat.le_of_ble_eq_true rfl) dX8_addField_36 ⟨Nat.le_of_ble_eq_true rfl, Nat.le_of_ble_eq_true rfl⟩ (x_kI ?_)
      refine x_bif_eq C 52 dX8_addField_39 rfl (fun h3 => ?_) (fun h3 => ?_)
      · exact absurd hk0 (by simp [kField, h1, h2, h3])
      · refine x_iload C dX8_addField_42 4 rfl ?_
        refine x_iload C dX8_addField_44 5 rfl ?_
        refine x_callS C [.int on, .int off] (c_X8_isCondition l V hV σ on off) (va_cwS 2 C.2.2.2.2.1 gX8_addField_X8_isCondition rfl rfl rfl (by decide +kernel) ⟨Nat.le_of_ble_eq_true rfl, Nat.le_of_ble_eq_true rfl⟩) rfl rfl (Nat.le_of_ble_eq_true rfl) dX8_addField_46 ⟨Nat.le_of_ble_eq_true rfl, Nat.le_of_ble_eq_true rfl⟩ (x_kI ?_)
        refine x_bif_ne C 62 dX8_addField_49 rfl (fun h4 => ?_) (fun h4 => ?_)
        · refine x_aload_n C dX8_addField_62 rfl 0 rfl ?_
          refine x_getr C sh_0 rfl iX8 1 (by decide) f19 (fun _ h => h) (by decide) rfl dX8_addField_63 ?_
          refine x_getr C sh_8 rfl iX4 4 (by decide) f116 (fun _ h => h) (by decide) rfl dX8_addField_66 ?_
          refine x_callV C sh_27 (by decide) rfl [] (c_X3_size l V hV σ ) (cwV 0 C.2.2.2.2.1 gX8_addField_X3_size rfl rfl rfl (by decide +kernel) ⟨Nat.le_of_ble_eq_true rfl, Nat.le_of_ble_eq_true rfl⟩) rfl rfl (Nat.le_of_ble_eq_true rfl) dX8_addField_69 ⟨Nat.le_of_ble_eq_true rfl, Nat.le_of_ble_eq_true rfl⟩ (x_kI ?_)
          refine x_bipush C (24 : Int32) (by decide) dX8_addField_72 ?_
          refine x_icmp_lt C 87 dX8_addField_74 rfl (fun h5 => ?_) (fun h5 => ?_)
          · refine x_aload_n C dX8_addField_87 rfl 0 rfl ?_
            refine x_getr C sh_0 rfl iX8 1 (by decide) f19 (fun _ h => h) (by decide) rfl dX8_addField_88 ?_
            refine x_getr C sh_8 rfl iX4 4 (by decide) f116 (fun _ h => h) (by decide) rfl dX8_addField_91 ?_
            refine x_iconst C (0 : Int32) (by decide) dX8_addField_94 ?_
            refine x_iload_n C dX8_addField_95 rfl 1 rfl ?_
            refine x_iload_n C dX8_addField_96 rfl 2 rfl ?_
            refine x_iload C dX8_addField_97 4 rfl ?_
            refine x_iload C dX8_addField_99 5 rfl ?_
            refine x_callV C sh_27 (by decide) rfl [.int (0 : Int32), .int o, .int n, .int on, .int off] (c_X3_append l V hV σ (0 : Int32) o n on off) (cwV 5 C.2.2.2.2.1 gX8_addField_X3_append rfl rfl rfl (by decide +kernel) ⟨Nat.le_of_ble_eq_true rfl, Nat.le_of_ble_eq_true rfl⟩) rfl rfl (Nat.le_of_ble_eq_true rfl) dX8_addField_101 ⟨Nat.le_of_ble_eq_true rfl, Nat.le_of_ble_eq_true rfl⟩ (x_kI ?_)
            refine x_istore C [(6, .int (σ 203 0)), (0, ra V 0), (1, .int o), (2, .int n), (3, .int t), (4, .int on), (5, .int off)] dX8_addField_104 (by decide) rfl ?_
            refine x_aload_n C dX8_addField_106 rfl 1 rfl ?_
            refine x_getr C sh_0 rfl iX8 1 (by decide) f19 (fun _ h => h) (by decide) rfl dX8_addField_107 ?_
            refine x_getr C sh_8 rfl iX4 4 (by decide) f116 (fun _ h => h) (by decide) rfl dX8_addField_110 ?_
            refine x_iload C dX8_addField_113 0 rfl ?_
            refine x_iload_n C dX8_addField_115 rfl 4 rfl ?_
            refine x_iconst C (-1 : Int32) (by decide) dX8_addField_116 ?_
            refine x_iconst C (-1 : Int32) (by decide) dX8_addField_117 ?_
            refine x_callV C sh_27 (by decide) rfl [.int (σ 203 0), .int t, .int (-1 : Int32), .int (-1 : Int32)] (c_X3_setTypes l V hV (mApp σ (0 : Int32) o n on off) (σ 203 0) t (-1 : Int32) (-1 : Int32)) (cwV 4 C.2.2.2.2.1 gX8_addField_X3_setTypes rfl rfl rfl (by decide +kernel) ⟨Nat.le_of_ble_eq_true rfl, Nat.le_of_ble_eq_true rfl⟩) rfl rfl (Nat.le_of_ble_eq_true rfl) dX8_addField_118 ⟨Nat.le_of_ble_eq_true rfl, Nat.le_of_ble_eq_true rfl⟩ (x_kV ?_)
            refine x_iload C dX8_addField_121 0 rfl ?_
            exact x_iret C hr hlk dX8_addField_123 ⟨rfl, rfl⟩
          · exact absurd hk0 (by simp [kField, h1, h2, h3, h4, h5])
        · exact absurd hk0 (by simp [kField, h1, h2, h3, h4])
  · exact absurd hk0 (by simp [kField, h1])

set_option maxHeartbeats 4000000 in
set_option maxRecDepth 100000 in
theorem c_X8_addMethod (l : Launch) (V : xV) (hV : xInj V) (σ : xS) (o n t f g on off : Int32)  (hk0 : kMeth σ o n t f g on off = 0) : xM l yX8_addMethod wsX8_addMethod ({ frames := 4, cells := 0, slots := 0, locals := 95 }) V [ra V 0, .int o, .int n, .int t, .int f, .int g, .int on, .int off] σ (rI (σ 203 0) (mTyp (mApp σ 1 o n on off) (σ 203 0) t f g)) := by
  refine xM_of (cc := cX8_addMethod) (maxL := 9) (ret := (some .int)) [(0, ra V 0), (1, .int o), (2, .int n), (3, .int t), (4, .int f), (5, .int g), (6, .int on), (7, .int off)] hV (by decide) rfl rfl (Nat.le_of_ble_eq_true rfl) (fun p e s m args below meth c C hr hlk => ?_)
  have iX8 : ∀ w ∈ u_ws RX8 TX8 4, w ∈ wsX8_addMethod := by decide +kernel
  have f19 : (Cond.fieldLink RX8 19 RX8 (TX8 1).2.1 (TX8 1).2.2.1).before args s = true := C.2.2.2.2.1 _ (by decide +kernel)
  have iX4 : ∀ w ∈ u_ws RX4 TX4 8, w ∈ wsX8_addMethod := by decide +kernel
  have f79 : (Cond.fieldLink RX8 79 RX4 (TX4 0).2.1 (TX4 0).2.2.1).before args s = true := C.2.2.2.2.1 _ (by decide +kernel)
  have f116 : (Cond.fieldLink RX8 116 RX4 (TX4 4).2.1 (TX4 4).2.2.1).before args s = true := C.2.2.2.2.1 _ (by decide +kernel)
  refine x_aload_n C dX8_addMethod_0 rfl 0 rfl ?_
  refine x_getr C sh_0 rfl iX8 1 (by decide) f19 (fun _ h => h) (by decide) rfl dX8_addMethod_1 ?_
  refine x_getr C sh_8 rfl iX4 0 (by decide) f79 (fun _ h => h) (by decide) rfl dX8_addMethod_4 ?_
  refine x_iload_n C dX8_addMethod_7 rfl 1 rfl ?_
  refine x_callV C sh_9 (by decide) rfl [.int o] (c_X0_has_9 l V hV σ o) (cwV 1 C.2.2.2.2.1 gX8_addMethod_X0_has rfl rfl rfl (by decide +kernel) ⟨Nat.le_of_ble_eq_true rfl, Nat.le_of_ble_eq_true rfl⟩) rfl rfl (Nat.le_of_ble_eq_true rfl) dX8_addMethod_8 ⟨Nat.le_of_ble_eq_true rfl, Nat.le_of_ble_eq_true rfl⟩ (x_kI ?_)
  refine x_bif_ne C 24 dX8_addMethod_11 rfl (fun h1 => ?_) (fun h1 => ?_)
  · refine x_iload_n C dX8_addMethod_24 rfl 2 rfl ?_
    refine x_callS C [.int n] (c_X8_isName l V hV σ n) (va_cwS 1 C.2.2.2.2.1 gX8_addMethod_X8_isName rfl rfl rfl (by decide +kernel) ⟨Nat.le_of_ble_eq_true rfl, Nat.le_of_ble_eq_true rfl⟩) rfl rfl (Nat.le_of_ble_eq_true rfl) dX8_addMethod_25 ⟨Nat.le_of_ble_eq_true rfl, Nat.le_of_ble_eq_true rfl⟩ (x_kI ?_)
    refine x_bif_eq C 66 dX8_addMethod_28 rfl (fun h2 => ?_) (fun h2 => ?_)
    · exact absurd hk0 (by simp [kMeth, h1, h2])
    · refine x_aload_n C dX8_addMethod_31 rfl 0 rfl ?_
      refine x_getr C sh_0 rfl iX8 1 (by decide) f19 (fun _ h => h) (by decide) rfl dX8_addMethod_32 ?_
      refine x_iload_n C dX8_addMethod_35 rfl 3 rfl ?_
      refine x_callV C sh_8 (by decide) rfl [.int t] (c_X4_hasType l V hV σ t) (cwV 1 C.2.2.2.2.1 gX8_addMethod_X4_hasType rfl rfl rfl (by decide +kernel) ⟨Nat.le_of_ble_eq_true rfl, Nat.le_of_ble_eq_true rfl⟩) rfl rfl (Nat.le_of_ble_eq_true rfl) dX8_addMethod_36 ⟨Nat.le_of_ble_eq_true rfl, Nat.le_of_ble_eq_true rfl⟩ (x_kI ?_)
      refine x_bif_eq C 66 dX8_addMethod_39 rfl (fun h3 => ?_) (fun h3 => ?_)
      · exact absurd hk0 (by simp [kMeth, h1, h2, h3])
      · refine x_aload_n C dX8_addMethod_42 rfl 0 rfl ?_
        refine x_getr C sh_0 rfl iX8 1 (by decide) f19 (fun _ h => h) (by decide) rfl dX8_addMethod_43 ?_
        refine x_iload C dX8_addMethod_46 4 rfl ?_
        refine x_iload C dX8_addMethod_48 5 rfl ?_
        refine x_callV C sh_8 (by decide) rfl [.int f, .int g] (c_X4_hasParameters l V hV σ f g) (cwV 2 C.2.2.2.2.1 gX8_addMethod_X4_hasParameters rfl rfl rfl (by decide +kernel) ⟨Nat.le_of_ble_eq_true rfl, Nat.le_of_ble_eq_true rfl⟩) rfl rfl (Nat.le_of_ble_eq_true rfl) dX8_addMethod_50 ⟨Nat.le_of_ble_eq_true rfl, Nat.le_of_ble_eq_true rfl⟩ (x_kI ?_)
        refine x_bif_eq C 66 dX8_addMethod_53 rfl (fun h4 => ?_) (fun h4 => ?_)
        · exact absurd hk0 (by simp [kMeth, h1, h2, h3, h4])
        · refine x_iload C dX8_addMethod_56 6 rfl ?_
          refine x_iload C dX8_addMethod_58 7 rfl ?_
          refine x_callS C [.int on, .int off] (c_X8_isCondition l V hV σ on off) (va_cwS 2 C.2.2.2.2.1 gX8_addMethod_X8_isCondition rfl rfl rfl (by decide +kernel) ⟨Nat.le_of_ble_eq_true rfl, Nat.le_of_ble_eq_true rfl⟩) rfl rfl (Nat.le_of_ble_eq_true rfl) dX8_addMethod_60 ⟨Nat.le_of_ble_eq_true rfl, Nat.le_of_ble_eq_true rfl⟩ (x_kI ?_)
          refine x_bif_ne C 76 dX8_addMethod_63 rfl (fun h5 => ?_) (fun h5 => ?_)
          · refine x_aload_n C dX8_addMethod_76 rfl 0 rfl ?_
            refine x_getr C sh_0 rfl iX8 1 (by decide) f19 (fun _ h => h) (by decide) rfl dX8_addMethod_77 ?_
            refine x_getr C sh_8 rfl iX4 4 (by decide) f116 (fun _ h => h) (by decide) rfl dX8_addMethod_80 ?_
            refine x_callV C sh_27 (by decide) rfl [] (c_X3_size l V hV σ ) (cwV 0 C.2.2.2.2.1 gX8_addMethod_X3_size rfl rfl rfl (by decide +kernel) ⟨Nat.le_of_ble_eq_true rfl, Nat.le_of_ble_eq_true rfl⟩) rfl rfl (Nat.le_of_ble_eq_true rfl) dX8_addMethod_83 ⟨Nat.le_of_ble_eq_true rfl, Nat.le_of_ble_eq_true rfl⟩ (x_kI ?_)
            refine x_bipush C (24 : Int32) (by decide) dX8_addMethod_86 ?_
            refine x_icmp_lt C 101 dX8_addMethod_88 rfl (fun h6 => ?_) (fun h6 => ?_)
            · refine x_aload_n C dX8_addMethod_101 rfl 0 rfl ?_
              refine x_getr C sh_0 rfl iX8 1 (by decide) f19 (fun _ h => h) (by decide) rfl dX8_addMethod_102 ?_
              refine x_getr C sh_8 rfl iX4 4 (by decide) f116 (fun _ h => h) (by decide) rfl dX8_addMethod_105 ?_
              refine x_iconst C (1 : Int32) (by decide) dX8_addMethod_108 ?_
              refine x_iload_n C dX8_addMethod_109 rfl 1 rfl ?_
              refine x_iload_n C dX8_addMethod_110 rfl 2 rfl ?_
              refine x_iload C dX8_addMethod_111 6 rfl ?_
              refine x_iload C dX8_addMethod_113 7 rfl ?_
              refine x_callV C sh_27 (by decide) rfl [.int (1 : Int32), .int o, .int n, .int on, .int off] (c_X3_append l V hV σ (1 : Int32) o n on off) (cwV 5 C.2.2.2.2.1 gX8_addMethod_X3_append rfl rfl rfl (by decide +kernel) ⟨Nat.le_of_ble_eq_true rfl, Nat.le_of_ble_eq_true rfl⟩) rfl rfl (Nat.le_of_ble_eq_true rfl) dX8_addMethod_115 ⟨Nat.le_of_ble_eq_true rfl, Nat.le_of_ble_eq_true rfl⟩ (x_kI ?_)
              refine x_istore C [(8, .int (σ 203 0)), (0, ra V 0), (1, .int o), (2, .int n), (3, .int t), (4, .int f), (5, .int g), (6, .int on), (7, .int off)] dX8_addMethod_118 (by decide) rfl ?_
              refine x_aload_n C dX8_addMethod_120 rfl 1 rfl ?_
              refine x_getr C sh_0 rfl iX8 1 (by decide) f19 (fun _ h => h) (by decide) rfl dX8_addMethod_121 ?_
              refine x_getr C sh_8 rfl iX4 4 (by decide) f116 (fun _ h => h) (by decide) rfl dX8_addMethod_124 ?_
              refine x_iload C dX8_addMethod_127 0 rfl ?_
              refine x_iload_n C dX8_addMethod_129 rfl 4 rfl ?_
              refine x_iload C dX8_addMethod_130 5 rfl ?_
              refine x_iload C dX8_addMethod_132 6 rfl ?_
              refine x_callV C sh_27 (by decide) rfl [.int (σ 203 0), .int t, .int f, .int g] (c_X3_setTypes l V hV (mApp σ (1 : Int32) o n on off) (σ 203 0) t f g) (cwV 4 C.2.2.2.2.1 gX8_addMethod_X3_setTypes rfl rfl rfl (by decide +kernel) ⟨Nat.le_of_ble_eq_true rfl, Nat.le_of_ble_eq_true rfl⟩) rfl rfl (Nat.le_of_ble_eq_true rfl) dX8_addMethod_134 ⟨Nat.le_of_ble_eq_true rfl, Nat.le_of_ble_eq_true rfl⟩ (x_kV ?_)
              refine x_iload C dX8_addMethod_137 0 rfl ?_
              exact x_iret C hr hlk dX8_addMethod_139 ⟨rfl, rfl⟩
            · exact absurd hk0 (by simp [kMeth, h1, h2, h3, h4, h5, h6])
          · exact absurd hk0 (by simp [kMeth, h1, h2, h3, h4, h5])
  · exact absurd hk0 (by simp [kMeth, h1])

set_option maxHeartbeats 4000000 in
set_option maxRecDepth 100000 in
theorem c_X8_addNew (l : Launch) (V : xV) (hV : xInj V) (σ : xS) (m1 c1 : Int32)  (hk0 : kNew σ m1 c1 = 0) : xM l yX8_addNew wsX8_addNew ({ frames := 3, cells := 0, slots := 0, locals := 70 }) V [ra V 0, .int m1, .int c1] σ (rI (σ 205 0) (eApp σ 0 m1 c1)) := by
  refine xM_of (cc := cX8_addNew) (maxL := 3) (ret := (some .int)) [(0, ra V 0), (1, .int m1), (2, .int c1)] hV (by decide) rfl rfl (Nat.le_of_ble_eq_true rfl) (fun p e s m args below meth c C hr hlk => ?_)
  have iX8 : ∀ w ∈ u_ws RX8 TX8 4, w ∈ wsX8_addNew := by decide +kernel
  have f19 : (Cond.fieldLink RX8 19 RX8 (TX8 1).2.1 (TX8 1).2.2.1).before args s = true := C.2.2.2.2.1 _ (by decide +kernel)
  have iX4 : ∀ w ∈ u_ws RX4 TX4 8, w ∈ wsX8_addNew := by decide +kernel
  have f116 : (Cond.fieldLink RX8 116 RX4 (TX4 4).2.1 (TX4 4).2.2.1).before args s = true := C.2.2.2.2.1 _ (by decide +kernel)
  have f79 : (Cond.fieldLink RX8 79 RX4 (TX4 0).2.1 (TX4 0).2.2.1).before args s = true := C.2.2.2.2.1 _ (by decide +kernel)
  have f140 : (Cond.fieldLink RX8 140 RX4 (TX4 5).2.1 (TX4 5).2.2.1).before args s = true := C.2.2.2.2.1 _ (by decide +kernel)
  refine x_aload_n C dX8_addNew_0 rfl 0 rfl ?_
  refine x_getr C sh_0 rfl iX8 1 (by decide) f19 (fun _ h => h) (by decide) rfl dX8_addNew_1 ?_
  refine x_getr C sh_8 rfl iX4 4 (by decide) f116 (fun _ h => h) (by decide) rfl dX8_addNew_4 ?_
  refine x_iload_n C dX8_addNew_7 rfl 1 rfl ?_
  refine x_callV C sh_27 (by decide) rfl [.int m1] (c_X3_hasMethod l V hV σ m1) (cwV 1 C.2.2.2.2.1 gX8_addNew_X3_hasMethod rfl rfl rfl (by decide +kernel) ⟨Nat.le_of_ble_eq_true rfl, Nat.le_of_ble_eq_true rfl⟩) rfl rfl (Nat.le_of_ble_eq_true rfl) dX8_addNew_8 ⟨Nat.le_of_ble_eq_true rfl, Nat.le_of_ble_eq_true rfl⟩ (x_kI ?_)
  refine x_bif_eq C 28 dX8_addNew_11 rfl (fun h1 => ?_) (fun h1 => ?_)
  · exact absurd hk0 (by simp [kNew, h1])
  · refine x_aload_n C dX8_addNew_14 rfl 0 rfl ?_
    refine x_getr C sh_0 rfl iX8 1 (by decide) f19 (fun _ h => h) (by decide) rfl dX8_addNew_15 ?_
    refine x_getr C sh_8 rfl iX4 0 (by decide) f79 (fun _ h => h) (by decide) rfl dX8_addNew_18 ?_
    refine x_iload_n C dX8_addNew_21 rfl 2 rfl ?_
    refine x_callV C sh_9 (by decide) rfl [.int c1] (c_X0_has_9 l V hV σ c1) (cwV 1 C.2.2.2.2.1 gX8_addNew_X0_has rfl rfl rfl (by decide +kernel) ⟨Nat.le_of_ble_eq_true rfl, Nat.le_of_ble_eq_true rfl⟩) rfl rfl (Nat.le_of_ble_eq_true rfl) dX8_addNew_22 ⟨Nat.le_of_ble_eq_true rfl, Nat.le_of_ble_eq_true rfl⟩ (x_kI ?_)
    refine x_bif_ne C 38 dX8_addNew_25 rfl (fun h2 => ?_) (fun h2 => ?_)
    · refine x_aload_n C dX8_addNew_38 rfl 0 rfl ?_
      refine x_getr C sh_0 rfl iX8 1 (by decide) f19 (fun _ h => h) (by decide) rfl dX8_addNew_39 ?_
      refine x_getr C sh_8 rfl iX4 5 (by decide) f140 (fun _ h => h) (by decide) rfl dX8_addNew_42 ?_
      refine x_callV C sh_47 (by decide) rfl [] (c_X1_size l V hV σ ) (cwV 0 C.2.2.2.2.1 gX8_addNew_X1_size rfl rfl rfl (by decide +kernel) ⟨Nat.le_of_ble_eq_true rfl, Nat.le_of_ble_eq_true rfl⟩) rfl rfl (Nat.le_of_ble_eq_true rfl) dX8_addNew_45 ⟨Nat.le_of_ble_eq_true rfl, Nat.le_of_ble_eq_true rfl⟩ (x_kI ?_)
      refine x_bipush C (50 : Int32) (by decide) dX8_addNew_48 ?_
      refine x_icmp_lt C 63 dX8_addNew_50 rfl (fun h3 => ?_) (fun h3 => ?_)
      · refine x_aload_n C dX8_addNew_63 rfl 0 rfl ?_
        refine x_getr C sh_0 rfl iX8 1 (by decide) f19 (fun _ h => h) (by decide) rfl dX8_addNew_64 ?_
        refine x_getr C sh_8 rfl iX4 5 (by decide) f140 (fun _ h => h) (by decide) rfl dX8_addNew_67 ?_
        refine x_iconst C (0 : Int32) (by decide) dX8_addNew_70 ?_
        refine x_iload_n C dX8_addNew_71 rfl 1 rfl ?_
        refine x_iload_n C dX8_addNew_72 rfl 2 rfl ?_
        refine x_callV C sh_47 (by decide) rfl [.int (0 : Int32), .int m1, .int c1] (c_X1_append l V hV σ (0 : Int32) m1 c1) (cwV 3 C.2.2.2.2.1 gX8_addNew_X1_append rfl rfl rfl (by decide +kernel) ⟨Nat.le_of_ble_eq_true rfl, Nat.le_of_ble_eq_true rfl⟩) rfl rfl (Nat.le_of_ble_eq_true rfl) dX8_addNew_73 ⟨Nat.le_of_ble_eq_true rfl, Nat.le_of_ble_eq_true rfl⟩ (x_kI ?_)
        exact x_iret C hr hlk dX8_addNew_76 ⟨rfl, rfl⟩
      · exact absurd hk0 (by simp [kNew, h1, h2, h3])
    · exact absurd hk0 (by simp [kNew, h1, h2])

set_option maxHeartbeats 4000000 in
set_option maxRecDepth 100000 in
theorem c_X8_addPlain (l : Launch) (V : xV) (hV : xInj V) (σ : xS) (m1 : Int32) (b : Bool)  (hk0 : kPlain σ m1 = 0) : xM l yX8_addPlain wsX8_addPlain ({ frames := 3, cells := 0, slots := 0, locals := 70 }) V [ra V 0, .int m1, .int (bI b)] σ (rI (σ 205 0) (eApp σ (if b = true then 2 else 1) m1 (-1))) := by
  refine xM_of (cc := cX8_addPlain) (maxL := 3) (ret := (some .int)) [(0, ra V 0), (1, .int m1), (2, .int (bI b))] hV (by decide) rfl rfl (Nat.le_of_ble_eq_true rfl) (fun p e s m args below meth c C hr hlk => ?_)
  have iX8 : ∀ w ∈ u_ws RX8 TX8 4, w ∈ wsX8_addPlain := by decide +kernel
  have f19 : (Cond.fieldLink RX8 19 RX8 (TX8 1).2.1 (TX8 1).2.2.1).before args s = true := C.2.2.2.2.1 _ (by decide +kernel)
  have iX4 : ∀ w ∈ u_ws RX4 TX4 8, w ∈ wsX8_addPlain := by decide +kernel
  have f116 : (Cond.fieldLink RX8 116 RX4 (TX4 4).2.1 (TX4 4).2.2.1).before args s = true := C.2.2.2.2.1 _ (by decide +kernel)
  have f140 : (Cond.fieldLink RX8 140 RX4 (TX4 5).2.1 (TX4 5).2.2.1).before args s = true := C.2.2.2.2.1 _ (by decide +kernel)
  refine x_aload_n C dX8_addPlain_0 rfl 0 rfl ?_
  refine x_getr C sh_0 rfl iX8 1 (by decide) f19 (fun _ h => h) (by decide) rfl dX8_addPlain_1 ?_
  refine x_getr C sh_8 rfl iX4 4 (by decide) f116 (fun _ h => h) (by decide) rfl dX8_addPlain_4 ?_
  refine x_iload_n C dX8_addPlain_7 rfl 1 rfl ?_
  refine x_callV C sh_27 (by decide) rfl [.int m1] (c_X3_hasMethod l V hV σ m1) (cwV 1 C.2.2.2.2.1 gX8_addPlain_X3_hasMethod rfl rfl rfl (by decide +kernel) ⟨Nat.le_of_ble_eq_true rfl, Nat.le_of_ble_eq_true rfl⟩) rfl rfl (Nat.le_of_ble_eq_true rfl) dX8_addPlain_8 ⟨Nat.le_of_ble_eq_true rfl, Nat.le_of_ble_eq_true rfl⟩ (x_kI ?_)
  refine x_bif_ne C 24 dX8_addPlain_11 rfl (fun h1 => ?_) (fun h1 => ?_)
  · refine x_aload_n C dX8_addPlain_24 rfl 0 rfl ?_
    refine x_getr C sh_0 rfl iX8 1 (by decide) f19 (fun _ h => h) (by decide) rfl dX8_addPlain_25 ?_
    refine x_getr C sh_8 rfl iX4 5 (by decide) f140 (fun _ h => h) (by decide) rfl dX8_addPlain_28 ?_
    refine x_callV C sh_47 (by decide) rfl [] (c_X1_size l V hV σ ) (cwV 0 C.2.2.2.2.1 gX8_addPlain_X1_size rfl rfl rfl (by decide +kernel) ⟨Nat.le_of_ble_eq_true rfl, Nat.le_of_ble_eq_true rfl⟩) rfl rfl (Nat.le_of_ble_eq_true rfl) dX8_addPlain_31 ⟨Nat.le_of_ble_eq_true rfl, Nat.le_of_ble_eq_true rfl⟩ (x_kI ?_)
    refine x_bipush C (50 : Int32) (by decide) dX8_addPlain_34 ?_
    refine x_icmp_lt C 49 dX8_addPlain_36 rfl (fun h2 => ?_) (fun h2 => ?_)
    · refine x_aload_n C dX8_addPlain_49 rfl 0 rfl ?_
      refine x_getr C sh_0 rfl iX8 1 (by decide) f19 (fun _ h => h) (by decide) rfl dX8_addPlain_50 ?_
      refine x_getr C sh_8 rfl iX4 5 (by decide) f140 (fun _ h => h) (by decide) rfl dX8_addPlain_53 ?_
      refine x_iload_n C dX8_addPlain_56 rfl 2 rfl ?_
      refine x_bif_eq C 64 dX8_addPlain_57 rfl (fun h3 => ?_) (fun h3 => ?_)
      · refine x_iconst C (1 : Int32) (by decide) dX8_addPlain_64 ?_
        refine x_iload_n C dX8_addPlain_65 rfl 1 rfl ?_
        refine x_iconst C (-1 : Int32) (by decide) dX8_addPlain_66 ?_
        refine x_callV C sh_47 (by decide) rfl [.int (1 : Int32), .int m1, .int (-1 : Int32)] (c_X1_append l V hV σ (1 : Int32) m1 (-1 : Int32)) (cwV 3 C.2.2.2.2.1 gX8_addPlain_X1_append rfl rfl rfl (by decide +kernel) ⟨Nat.le_of_ble_eq_true rfl, Nat.le_of_ble_eq_true rfl⟩) rfl rfl (Nat.le_of_ble_eq_true rfl) dX8_addPlain_67 ⟨Nat.le_of_ble_eq_true rfl, Nat.le_of_ble_eq_true rfl⟩ (x_kI ?_)
        exact x_iret C hr hlk dX8_addPlain_70 ⟨rfl, by simp [h1, h2, h3]⟩
      · refine x_iconst C (2 : Int32) (by decide) dX8_addPlain_60 ?_
        refine x_goto C 65 dX8_addPlain_61 rfl ?_
        refine x_iload_n C dX8_addPlain_65 rfl 1 rfl ?_
        refine x_iconst C (-1 : Int32) (by decide) dX8_addPlain_66 ?_
        refine x_callV C sh_47 (by decide) rfl [.int (2 : Int32), .int m1, .int (-1 : Int32)] (c_X1_append l V hV σ (2 : Int32) m1 (-1 : Int32)) (cwV 3 C.2.2.2.2.1 gX8_addPlain_X1_append rfl rfl rfl (by decide +kernel) ⟨Nat.le_of_ble_eq_true rfl, Nat.le_of_ble_eq_true rfl⟩) rfl rfl (Nat.le_of_ble_eq_true rfl) dX8_addPlain_67 ⟨Nat.le_of_ble_eq_true rfl, Nat.le_of_ble_eq_true rfl⟩ (x_kI ?_)
        exact x_iret C hr hlk dX8_addPlain_70 ⟨rfl, by simp [h1, h2, h3]⟩
    · exact absurd hk0 (by simp [kPlain, h1, h2])
  · exact absurd hk0 (by simp [kPlain, h1])

set_option maxHeartbeats 4000000 in
set_option maxRecDepth 100000 in
theorem c_X8_addArgument (l : Launch) (V : xV) (hV : xInj V) (σ : xS) (m1 i : Int32)  (hk0 : kArg σ m1 i = 0) : xM l yX8_addArgument wsX8_addArgument ({ frames := 3, cells := 0, slots := 0, locals := 70 }) V [ra V 0, .int m1, .int i] σ (rI (σ 205 0) (eApp σ 3 m1 i)) := by
  refine xM_of (cc := cX8_addArgument) (maxL := 3) (ret := (some .int)) [(0, ra V 0), (1, .int m1), (2, .int i)] hV (by decide) rfl rfl (Nat.le_of_ble_eq_true rfl) (fun p e s m args below meth c C hr hlk => ?_)
  have iX8 : ∀ w ∈ u_ws RX8 TX8 4, w ∈ wsX8_addArgument := by decide +kernel
  have f19 : (Cond.fieldLink RX8 19 RX8 (TX8 1).2.1 (TX8 1).2.2.1).before args s = true := C.2.2.2.2.1 _ (by decide +kernel)
  have iX4 : ∀ w ∈ u_ws RX4 TX4 8, w ∈ wsX8_addArgument := by decide +kernel
  have f116 : (Cond.fieldLink RX8 116 RX4 (TX4 4).2.1 (TX4 4).2.2.1).before args s = true := C.2.2.2.2.1 _ (by decide +kernel)
  have f140 : (Cond.fieldLink RX8 140 RX4 (TX4 5).2.1 (TX4 5).2.2.1).before args s = true := C.2.2.2.2.1 _ (by decide +kernel)
  refine x_aload_n C dX8_addArgument_0 rfl 0 rfl ?_
  refine x_getr C sh_0 rfl iX8 1 (by decide) f19 (fun _ h => h) (by decide) rfl dX8_addArgument_1 ?_
  refine x_getr C sh_8 rfl iX4 4 (by decide) f116 (fun _ h => h) (by decide) rfl dX8_addArgument_4 ?_
  refine x_iload_n C dX8_addArgument_7 rfl 1 rfl ?_
  refine x_callV C sh_27 (by decide) rfl [.int m1] (c_X3_hasMethod l V hV σ m1) (cwV 1 C.2.2.2.2.1 gX8_addArgument_X3_hasMethod rfl rfl rfl (by decide +kernel) ⟨Nat.le_of_ble_eq_true rfl, Nat.le_of_ble_eq_true rfl⟩) rfl rfl (Nat.le_of_ble_eq_true rfl) dX8_addArgument_8 ⟨Nat.le_of_ble_eq_true rfl, Nat.le_of_ble_eq_true rfl⟩ (x_kI ?_)
  refine x_bif_eq C 30 dX8_addArgument_11 rfl (fun h1 => ?_) (fun h1 => ?_)
  · exact absurd hk0 (by simp [kArg, h1])
  · refine x_aload_n C dX8_addArgument_14 rfl 0 rfl ?_
    refine x_getr C sh_0 rfl iX8 1 (by decide) f19 (fun _ h => h) (by decide) rfl dX8_addArgument_15 ?_
    refine x_getr C sh_8 rfl iX4 4 (by decide) f116 (fun _ h => h) (by decide) rfl dX8_addArgument_18 ?_
    refine x_iload_n C dX8_addArgument_21 rfl 1 rfl ?_
    refine x_iload_n C dX8_addArgument_22 rfl 2 rfl ?_
    refine x_callV C sh_27 (by decide) rfl [.int m1, .int i] (c_X3_parameter l V hV σ m1 i) (cwV 2 C.2.2.2.2.1 gX8_addArgument_X3_parameter rfl rfl rfl (by decide +kernel) ⟨Nat.le_of_ble_eq_true rfl, Nat.le_of_ble_eq_true rfl⟩) rfl rfl (Nat.le_of_ble_eq_true rfl) dX8_addArgument_23 ⟨Nat.le_of_ble_eq_true rfl, Nat.le_of_ble_eq_true rfl⟩ (x_kI ?_)
    refine x_iconst C (-1 : Int32) (by decide) dX8_addArgument_26 ?_
    refine x_icmp_ne C 40 dX8_addArgument_27 rfl (fun h2 => ?_) (fun h2 => ?_)
    · refine x_aload_n C dX8_addArgument_40 rfl 0 rfl ?_
      refine x_getr C sh_0 rfl iX8 1 (by decide) f19 (fun _ h => h) (by decide) rfl dX8_addArgument_41 ?_
      refine x_getr C sh_8 rfl iX4 5 (by decide) f140 (fun _ h => h) (by decide) rfl dX8_addArgument_44 ?_
      refine x_callV C sh_47 (by decide) rfl [] (c_X1_size l V hV σ ) (cwV 0 C.2.2.2.2.1 gX8_addArgument_X1_size rfl rfl rfl (by decide +kernel) ⟨Nat.le_of_ble_eq_true rfl, Nat.le_of_ble_eq_true rfl⟩) rfl rfl (Nat.le_of_ble_eq_true rfl) dX8_addArgument_47 ⟨Nat.le_of_ble_eq_true rfl, Nat.le_of_ble_eq_true rfl⟩ (x_kI ?_)
      refine x_bipush C (50 : Int32) (by decide) dX8_addArgument_50 ?_
      refine x_icmp_lt C 65 dX8_addArgument_52 rfl (fun h3 => ?_) (fun h3 => ?_)
      · refine x_aload_n C dX8_addArgument_65 rfl 0 rfl ?_
        refine x_getr C sh_0 rfl iX8 1 (by decide) f19 (fun _ h => h) (by decide) rfl dX8_addArgument_66 ?_
        refine x_getr C sh_8 rfl iX4 5 (by decide) f140 (fun _ h => h) (by decide) rfl dX8_addArgument_69 ?_
        refine x_iconst C (3 : Int32) (by decide) dX8_addArgument_72 ?_
        refine x_iload_n C dX8_addArgument_73 rfl 1 rfl ?_
        refine x_iload_n C dX8_addArgument_74 rfl 2 rfl ?_
        refine x_callV C sh_47 (by decide) rfl [.int (3 : Int32), .int m1, .int i] (c_X1_append l V hV σ (3 : Int32) m1 i) (cwV 3 C.2.2.2.2.1 gX8_addArgument_X1_append rfl rfl rfl (by decide +kernel) ⟨Nat.le_of_ble_eq_true rfl, Nat.le_of_ble_eq_true rfl⟩) rfl rfl (Nat.le_of_ble_eq_true rfl) dX8_addArgument_75 ⟨Nat.le_of_ble_eq_true rfl, Nat.le_of_ble_eq_true rfl⟩ (x_kI ?_)
        exact x_iret C hr hlk dX8_addArgument_78 ⟨rfl, rfl⟩
      · exact absurd hk0 (by simp [kArg, h1, h2, h3])
    · exact absurd hk0 (by simp [kArg, h1, eq_true h2])

set_option maxHeartbeats 4000000 in
set_option maxRecDepth 100000 in
theorem c_X8_addFieldOf (l : Launch) (V : xV) (hV : xInj V) (σ : xS) (x n : Int32)  (hk0 : kFOf σ x n = 0) : xM l yX8_addFieldOf wsX8_addFieldOf ({ frames := 3, cells := 0, slots := 0, locals := 70 }) V [ra V 0, .int x, .int n] σ (rI (σ 205 0) (eSet (eApp σ 4 (vAt 50 (σ 51) x) n) (σ 205 0) x (-1) (-1))) := by
  refine xM_of (cc := cX8_addFieldOf) (maxL := 4) (ret := (some .int)) [(0, ra V 0), (1, .int x), (2, .int n)] hV (by decide) rfl rfl (Nat.le_of_ble_eq_true rfl) (fun p e s m args below meth c C hr hlk => ?_)
  have iX8 : ∀ w ∈ u_ws RX8 TX8 4, w ∈ wsX8_addFieldOf := by decide +kernel
  have f19 : (Cond.fieldLink RX8 19 RX8 (TX8 1).2.1 (TX8 1).2.2.1).before args s = true := C.2.2.2.2.1 _ (by decide +kernel)
  have iX4 : ∀ w ∈ u_ws RX4 TX4 8, w ∈ wsX8_addFieldOf := by decide +kernel
  have f140 : (Cond.fieldLink RX8 140 RX4 (TX4 5).2.1 (TX4 5).2.2.1).before args s = true := C.2.2.2.2.1 _ (by decide +kernel)
  refine x_aload_n C dX8_addFieldOf_0 rfl 0 rfl ?_
  refine x_getr C sh_0 rfl iX8 1 (by decide) f19 (fun _ h => h) (by decide) rfl dX8_addFieldOf_1 ?_
  refine x_getr C sh_8 rfl iX4 5 (by decide) f140 (fun _ h => h) (by decide) rfl dX8_addFieldOf_4 ?_
  refine x_iload_n C dX8_addFieldOf_7 rfl 1 rfl ?_
  refine x_callV C sh_47 (by decide) rfl [.int x] (c_X1_has l V hV σ x) (cwV 1 C.2.2.2.2.1 gX8_addFieldOf_X1_has rfl rfl rfl (by decide +kernel) ⟨Nat.le_of_ble_eq_true rfl, Nat.le_of_ble_eq_true rfl⟩) rfl rfl (Nat.le_of_ble_eq_true rfl) dX8_addFieldOf_8 ⟨Nat.le_of_ble_eq_true rfl, Nat.le_of_ble_eq_true rfl⟩ (x_kI ?_)
  refine x_bif_ne C 24 dX8_addFieldOf_11 rfl (fun h1 => ?_) (fun h1 => ?_)
  · refine x_iload_n C dX8_addFieldOf_24 rfl 2 rfl ?_
    refine x_callS C [.int n] (c_X8_isName l V hV σ n) (va_cwS 1 C.2.2.2.2.1 gX8_addFieldOf_X8_isName rfl rfl rfl (by decide +kernel) ⟨Nat.le_of_ble_eq_true rfl, Nat.le_of_ble_eq_true rfl⟩) rfl rfl (Nat.le_of_ble_eq_true rfl) dX8_addFieldOf_25 ⟨Nat.le_of_ble_eq_true rfl, Nat.le_of_ble_eq_true rfl⟩ (x_kI ?_)
    refine x_bif_ne C 41 dX8_addFieldOf_28 rfl (fun h2 => ?_) (fun h2 => ?_)
    · refine x_aload_n C dX8_addFieldOf_41 rfl 0 rfl ?_
      refine x_getr C sh_0 rfl iX8 1 (by decide) f19 (fun _ h => h) (by decide) rfl dX8_addFieldOf_42 ?_
      refine x_getr C sh_8 rfl iX4 5 (by decide) f140 (fun _ h => h) (by decide) rfl dX8_addFieldOf_45 ?_
      refine x_callV C sh_47 (by decide) rfl [] (c_X1_size l V hV σ ) (cwV 0 C.2.2.2.2.1 gX8_addFieldOf_X1_size rfl rfl rfl (by decide +kernel) ⟨Nat.le_of_ble_eq_true rfl, Nat.le_of_ble_eq_true rfl⟩) rfl rfl (Nat.le_of_ble_eq_true rfl) dX8_addFieldOf_48 ⟨Nat.le_of_ble_eq_true rfl, Nat.le_of_ble_eq_true rfl⟩ (x_kI ?_)
      refine x_bipush C (50 : Int32) (by decide) dX8_addFieldOf_51 ?_
      refine x_icmp_lt C 66 dX8_addFieldOf_53 rfl (fun h3 => ?_) (fun h3 => ?_)
      · refine x_aload_n C dX8_addFieldOf_66 rfl 0 rfl ?_
        refine x_getr C sh_0 rfl iX8 1 (by decide) f19 (fun _ h => h) (by decide) rfl dX8_addFieldOf_67 ?_
        refine x_getr C sh_8 rfl iX4 5 (by decide) f140 (fun _ h => h) (by decide) rfl dX8_addFieldOf_70 ?_
        refine x_iconst C (4 : Int32) (by decide) dX8_addFieldOf_73 ?_
        refine x_aload_n C dX8_addFieldOf_74 rfl 0 rfl ?_
        refine x_getr C sh_0 rfl iX8 1 (by decide) f19 (fun _ h => h) (by decide) rfl dX8_addFieldOf_75 ?_
        refine x_getr C sh_8 rfl iX4 5 (by decide) f140 (fun _ h => h) (by decide) rfl dX8_addFieldOf_78 ?_
        refine x_iload_n C dX8_addFieldOf_81 rfl 1 rfl ?_
        refine x_callV C sh_47 (by decide) rfl [.int x] (c_X1_method l V hV σ x) (cwV 1 C.2.2.2.2.1 gX8_addFieldOf_X1_method rfl rfl rfl (by decide +kernel) ⟨Nat.le_of_ble_eq_true rfl, Nat.le_of_ble_eq_true rfl⟩) rfl rfl (Nat.le_of_ble_eq_true rfl) dX8_addFieldOf_82 ⟨Nat.le_of_ble_eq_true rfl, Nat.le_of_ble_eq_true rfl⟩ (x_kI ?_)
        refine x_iload_n C dX8_addFieldOf_85 rfl 2 rfl ?_
        refine x_callV C sh_47 (by decide) rfl [.int (4 : Int32), .int (vAt 50 (σ 51) x), .int n] (c_X1_append l V hV σ (4 : Int32) (vAt 50 (σ 51) x) n) (cwV 3 C.2.2.2.2.1 gX8_addFieldOf_X1_append rfl rfl rfl (by decide +kernel) ⟨Nat.le_of_ble_eq_true rfl, Nat.le_of_ble_eq_true rfl⟩) rfl rfl (Nat.le_of_ble_eq_true rfl) dX8_addFieldOf_86 ⟨Nat.le_of_ble_eq_true rfl, Nat.le_of_ble_eq_true rfl⟩ (x_kI ?_)
        refine x_istore_n C [(3, .int (σ 205 0)), (0, ra V 0), (1, .int x), (2, .int n)] dX8_addFieldOf_89 rfl (by decide) rfl ?_
        refine x_aload_n C dX8_addFieldOf_90 rfl 1 rfl ?_
        refine x_getr C sh_0 rfl iX8 1 (by decide) f19 (fun _ h => h) (by decide) rfl dX8_addFieldOf_91 ?_
        refine x_getr C sh_8 rfl iX4 5 (by decide) f140 (fun _ h => h) (by decide) rfl dX8_addFieldOf_94 ?_
        refine x_iload_n C dX8_addFieldOf_97 rfl 0 rfl ?_
        refine x_iload_n C dX8_addFieldOf_98 rfl 2 rfl ?_
        refine x_iconst C (-1 : Int32) (by decide) dX8_addFieldOf_99 ?_
        refine x_iconst C (-1 : Int32) (by decide) dX8_addFieldOf_100 ?_
        refine x_callV C sh_47 (by decide) rfl [.int (σ 205 0), .int x, .int (-1 : Int32), .int (-1 : Int32)] (c_X1_setParts l V hV (eApp σ (4 : Int32) (vAt 50 (σ 51) x) n) (σ 205 0) x (-1 : Int32) (-1 : Int32)) (cwV 4 C.2.2.2.2.1 gX8_addFieldOf_X1_setParts rfl rfl rfl (by decide +kernel) ⟨Nat.le_of_ble_eq_true rfl, Nat.le_of_ble_eq_true rfl⟩) rfl rfl (Nat.le_of_ble_eq_true rfl) dX8_addFieldOf_101 ⟨Nat.le_of_ble_eq_true rfl, Nat.le_of_ble_eq_true rfl⟩ (x_kV ?_)
        refine x_iload_n C dX8_addFieldOf_104 rfl 0 rfl ?_
        exact x_iret C hr hlk dX8_addFieldOf_105 ⟨rfl, rfl⟩
      · exact absurd hk0 (by simp [kFOf, h1, h2, h3])
    · exact absurd hk0 (by simp [kFOf, h1, h2])
  · exact absurd hk0 (by simp [kFOf, h1])

set_option maxHeartbeats 4000000 in
set_option maxRecDepth 100000 in
theorem c_X8_addCall (l : Launch) (V : xV) (hV : xInj V) (σ : xS) (x n f g : Int32)  (hk0 : kCall σ x n f g = 0) : xM l yX8_addCall wsX8_addCall ({ frames := 3, cells := 0, slots := 0, locals := 70 }) V [ra V 0, .int x, .int n, .int f, .int g] σ (rI (σ 205 0) (eSet (eApp σ 5 (vAt 50 (σ 51) x) n) (σ 205 0) x f g)) := by
  refine xM_of (cc := cX8_addCall) (maxL := 6) (ret := (some .int)) [(0, ra V 0), (1, .int x), (2, .int n), (3, .int f), (4, .int g)] hV (by decide) rfl rfl (Nat.le_of_ble_eq_true rfl) (fun p e s m args below meth c C hr hlk => ?_)
  have iX8 : ∀ w ∈ u_ws RX8 TX8 4, w ∈ wsX8_addCall := by decide +kernel
  have f19 : (Cond.fieldLink RX8 19 RX8 (TX8 1).2.1 (TX8 1).2.2.1).before args s = true := C.2.2.2.2.1 _ (by decide +kernel)
  have iX4 : ∀ w ∈ u_ws RX4 TX4 8, w ∈ wsX8_addCall := by decide +kernel
  have f140 : (Cond.fieldLink RX8 140 RX4 (TX4 5).2.1 (TX4 5).2.2.1).before args s = true := C.2.2.2.2.1 _ (by decide +kernel)
  refine x_aload_n C dX8_addCall_0 rfl 0 rfl ?_
  refine x_getr C sh_0 rfl iX8 1 (by decide) f19 (fun _ h => h) (by decide) rfl dX8_addCall_1 ?_
  refine x_getr C sh_8 rfl iX4 5 (by decide) f140 (fun _ h => h) (by decide) rfl dX8_addCall_4 ?_
  refine x_iload_n C dX8_addCall_7 rfl 1 rfl ?_
  refine x_callV C sh_47 (by decide) rfl [.int x] (c_X1_has l V hV σ x) (cwV 1 C.2.2.2.2.1 gX8_addCall_X1_has rfl rfl rfl (by decide +kernel) ⟨Nat.le_of_ble_eq_true rfl, Nat.le_of_ble_eq_true rfl⟩) rfl rfl (Nat.le_of_ble_eq_true rfl) dX8_addCall_8 ⟨Nat.le_of_ble_eq_true rfl, Nat.le_of_ble_eq_true rfl⟩ (x_kI ?_)
  refine x_bif_eq C 43 dX8_addCall_11 rfl (fun h1 => ?_) (fun h1 => ?_)
  · exact absurd hk0 (by simp [kCall, h1])
  · refine x_aload_n C dX8_addCall_14 rfl 0 rfl ?_
    refine x_getr C sh_0 rfl iX8 1 (by decide) f19 (fun _ h => h) (by decide) rfl dX8_addCall_15 ?_
    refine x_getr C sh_8 rfl iX4 5 (by decide) f140 (fun _ h => h) (by decide) rfl dX8_addCall_18 ?_
    refine x_iload_n C dX8_addCall_21 rfl 3 rfl ?_
    refine x_callV C sh_47 (by decide) rfl [.int f] (c_X1_hasOrNone l V hV σ f) (cwV 1 C.2.2.2.2.1 gX8_addCall_X1_hasOrNone rfl rfl rfl (by decide +kernel) ⟨Nat.le_of_ble_eq_true rfl, Nat.le_of_ble_eq_true rfl⟩) rfl rfl (Nat.le_of_ble_eq_true rfl) dX8_addCall_22 ⟨Nat.le_of_ble_eq_true rfl, Nat.le_of_ble_eq_true rfl⟩ (x_kI ?_)
    refine x_bif_eq C 43 dX8_addCall_25 rfl (fun h2 => ?_) (fun h2 => ?_)
    · exact absurd hk0 (by simp [kCall, h1, h2])
    · refine x_aload_n C dX8_addCall_28 rfl 0 rfl ?_
      refine x_getr C sh_0 rfl iX8 1 (by decide) f19 (fun _ h => h) (by decide) rfl dX8_addCall_29 ?_
      refine x_getr C sh_8 rfl iX4 5 (by decide) f140 (fun _ h => h) (by decide) rfl dX8_addCall_32 ?_
      refine x_iload C dX8_addCall_35 4 rfl ?_
      refine x_callV C sh_47 (by decide) rfl [.int g] (c_X1_hasOrNone l V hV σ g) (cwV 1 C.2.2.2.2.1 gX8_addCall_X1_hasOrNone rfl rfl rfl (by decide +kernel) ⟨Nat.le_of_ble_eq_true rfl, Nat.le_of_ble_eq_true rfl⟩) rfl rfl (Nat.le_of_ble_eq_true rfl) dX8_addCall_37 ⟨Nat.le_of_ble_eq_true rfl, Nat.le_of_ble_eq_true rfl⟩ (x_kI ?_)
      refine x_bif_ne C 53 dX8_addCall_40 rfl (fun h3 => ?_) (fun h3 => ?_)
      · refine x_iload_n C dX8_addCall_53 rfl 2 rfl ?_
        refine x_callS C [.int n] (c_X8_isName l V hV σ n) (va_cwS 1 C.2.2.2.2.1 gX8_addCall_X8_isName rfl rfl rfl (by decide +kernel) ⟨Nat.le_of_ble_eq_true rfl, Nat.le_of_ble_eq_true rfl⟩) rfl rfl (Nat.le_of_ble_eq_true rfl) dX8_addCall_54 ⟨Nat.le_of_ble_eq_true rfl, Nat.le_of_ble_eq_true rfl⟩ (x_kI ?_)
        refine x_bif_eq C 102 dX8_addCall_57 rfl (fun h4 => ?_) (fun h4 => ?_)
        · exact absurd hk0 (by simp [kCall, h1, h2, h3, h4])
        · refine x_iload_n C dX8_addCall_60 rfl 3 rfl ?_
          refine x_iconst C (-1 : Int32) (by decide) dX8_addCall_61 ?_
          refine x_icmp_ne C 71 dX8_addCall_62 rfl (fun h5 => ?_) (fun h5 => ?_)
          · refine x_aload_n C dX8_addCall_71 rfl 0 rfl ?_
            refine x_getr C sh_0 rfl iX8 1 (by decide) f19 (fun _ h => h) (by decide) rfl dX8_addCall_72 ?_
            refine x_getr C sh_8 rfl iX4 5 (by decide) f140 (fun _ h => h) (by decide) rfl dX8_addCall_75 ?_
            refine x_iload_n C dX8_addCall_78 rfl 1 rfl ?_
            refine x_iload_n C dX8_addCall_79 rfl 3 rfl ?_
            refine x_callV C sh_47 (by decide) rfl [.int x, .int f] (c_X1_areTogether l V hV σ x f) (cwV 2 C.2.2.2.2.1 gX8_addCall_X1_areTogether rfl rfl rfl (by decide +kernel) ⟨Nat.le_of_ble_eq_true rfl, Nat.le_of_ble_eq_true rfl⟩) rfl rfl (Nat.le_of_ble_eq_true rfl) dX8_addCall_80 ⟨Nat.le_of_ble_eq_true rfl, Nat.le_of_ble_eq_true rfl⟩ (x_kI ?_)
            refine x_bif_eq C 102 dX8_addCall_83 rfl (fun h6 => ?_) (fun h6 => ?_)
            · exact absurd hk0 (by simp [kCall, h1, h2, h3, h4, h5, h6])
            · refine x_aload_n C dX8_addCall_86 rfl 0 rfl ?_
              refine x_getr C sh_0 rfl iX8 1 (by decide) f19 (fun _ h => h) (by decide) rfl dX8_addCall_87 ?_
              refine x_getr C sh_8 rfl iX4 5 (by decide) f140 (fun _ h => h) (by decide) rfl dX8_addCall_90 ?_
              refine x_iload_n C dX8_addCall_93 rfl 1 rfl ?_
              refine x_iload C dX8_addCall_94 4 rfl ?_
              refine x_callV C sh_47 (by decide) rfl [.int x, .int g] (c_X1_areTogether l V hV σ x g) (cwV 2 C.2.2.2.2.1 gX8_addCall_X1_areTogether rfl rfl rfl (by decide +kernel) ⟨Nat.le_of_ble_eq_true rfl, Nat.le_of_ble_eq_true rfl⟩) rfl rfl (Nat.le_of_ble_eq_true rfl) dX8_addCall_96 ⟨Nat.le_of_ble_eq_true rfl, Nat.le_of_ble_eq_true rfl⟩ (x_kI ?_)
              refine x_bif_ne C 112 dX8_addCall_99 rfl (fun h7 => ?_) (fun h7 => ?_)
              · refine x_aload_n C dX8_addCall_112 rfl 0 rfl ?_
                refine x_getr C sh_0 rfl iX8 1 (by decide) f19 (fun _ h => h) (by decide) rfl dX8_addCall_113 ?_
                refine x_getr C sh_8 rfl iX4 5 (by decide) f140 (fun _ h => h) (by decide) rfl dX8_addCall_116 ?_
                refine x_callV C sh_47 (by decide) rfl [] (c_X1_size l V hV σ ) (cwV 0 C.2.2.2.2.1 gX8_addCall_X1_size rfl rfl rfl (by decide +kernel) ⟨Nat.le_of_ble_eq_true rfl, Nat.le_of_ble_eq_true rfl⟩) rfl rfl (Nat.le_of_ble_eq_true rfl) dX8_addCall_119 ⟨Nat.le_of_ble_eq_true rfl, Nat.le_of_ble_eq_true rfl⟩ (x_kI ?_)
                refine x_bipush C (50 : Int32) (by decide) dX8_addCall_122 ?_
                refine x_icmp_lt C 137 dX8_addCall_124 rfl (fun h8 => ?_) (fun h8 => ?_)
                · refine x_aload_n C dX8_addCall_137 rfl 0 rfl ?_
                  refine x_getr C sh_0 rfl iX8 1 (by decide) f19 (fun _ h => h) (by decide) rfl dX8_addCall_138 ?_
                  refine x_getr C sh_8 rfl iX4 5 (by decide) f140 (fun _ h => h) (by decide) rfl dX8_addCall_141 ?_
                  refine x_iconst C (5 : Int32) (by decide) dX8_addCall_144 ?_
                  refine x_aload_n C dX8_addCall_145 rfl 0 rfl ?_
                  refine x_getr C sh_0 rfl iX8 1 (by decide) f19 (fun _ h => h) (by decide) rfl dX8_addCall_146 ?_
                  refine x_getr C sh_8 rfl iX4 5 (by decide) f140 (fun _ h => h) (by decide) rfl dX8_addCall_149 ?_
                  refine x_iload_n C dX8_addCall_152 rfl 1 rfl ?_
                  refine x_callV C sh_47 (by decide) rfl [.int x] (c_X1_method l V hV σ x) (cwV 1 C.2.2.2.2.1 gX8_addCall_X1_method rfl rfl rfl (by decide +kernel) ⟨Nat.le_of_ble_eq_true rfl, Nat.le_of_ble_eq_true rfl⟩) rfl rfl (Nat.le_of_ble_eq_true rfl) dX8_addCall_153 ⟨Nat.le_of_ble_eq_true rfl, Nat.le_of_ble_eq_true rfl⟩ (x_kI ?_)
                  refine x_iload_n C dX8_addCall_156 rfl 2 rfl ?_
                  refine x_callV C sh_47 (by decide) rfl [.int (5 : Int32), .int (vAt 50 (σ 51) x), .int n] (c_X1_append l V hV σ (5 : Int32) (vAt 50 (σ 51) x) n) (cwV 3 C.2.2.2.2.1 gX8_addCall_X1_append rfl rfl rfl (by decide +kernel) ⟨Nat.le_of_ble_eq_true rfl, Nat.le_of_ble_eq_true rfl⟩) rfl rfl (Nat.le_of_ble_eq_true rfl) dX8_addCall_157 ⟨Nat.le_of_ble_eq_true rfl, Nat.le_of_ble_eq_true rfl⟩ (x_kI ?_)
                  refine x_istore C [(5, .int (σ 205 0)), (0, ra V 0), (1, .int x), (2, .int n), (3, .int f), (4, .int g)] dX8_addCall_160 (by decide) rfl ?_
                  refine x_aload_n C dX8_addCall_162 rfl 1 rfl ?_
                  refine x_getr C sh_0 rfl iX8 1 (by decide) f19 (fun _ h => h) (by decide) rfl dX8_addCall_163 ?_
                  refine x_getr C sh_8 rfl iX4 5 (by decide) f140 (fun _ h => h) (by decide) rfl dX8_addCall_166 ?_
                  refine x_iload C dX8_addCall_169 0 rfl ?_
                  refine x_iload_n C dX8_addCall_171 rfl 2 rfl ?_
                  refine x_iload_n C dX8_addCall_172 rfl 4 rfl ?_
                  refine x_iload C dX8_addCall_173 5 rfl ?_
                  refine x_callV C sh_47 (by decide) rfl [.int (σ 205 0), .int x, .int f, .int g] (c_X1_setParts l V hV (eApp σ (5 : Int32) (vAt 50 (σ 51) x) n) (σ 205 0) x f g) (cwV 4 C.2.2.2.2.1 gX8_addCall_X1_setParts rfl rfl rfl (by decide +kernel) ⟨Nat.le_of_ble_eq_true rfl, Nat.le_of_ble_eq_true rfl⟩) rfl rfl (Nat.le_of_ble_eq_true rfl) dX8_addCall_175 ⟨Nat.le_of_ble_eq_true rfl, Nat.le_of_ble_eq_true rfl⟩ (x_kV ?_)
                  refine x_iload C dX8_addCall_178 0 rfl ?_
                  exact x_iret C hr hlk dX8_addCall_180 ⟨rfl, rfl⟩
                · exact absurd hk0 (by simp [kCall, h1, h2, h3, h4, h5, h6, h7, h8])
              · exact absurd hk0 (by simp [kCall, h1, h2, h3, h4, h5, h6, h7])
          · refine x_iload C dX8_addCall_65 4 rfl ?_
            refine x_iconst C (-1 : Int32) (by decide) dX8_addCall_67 ?_
            refine x_icmp_ne C 102 dX8_addCall_68 rfl (fun h9 => ?_) (fun h9 => ?_)
            · exact absurd hk0 (by simp [kCall, h1, h2, h3, h4, eq_true h5, h9])
            · refine x_aload_n C dX8_addCall_71 rfl 0 rfl ?_
              refine x_getr C sh_0 rfl iX8 1 (by decide) f19 (fun _ h => h) (by decide) rfl dX8_addCall_72 ?_
              refine x_getr C sh_8 rfl iX4 5 (by decide) f140 (fun _ h => h) (by decide) rfl dX8_addCall_75 ?_
              refine x_iload_n C dX8_addCall_78 rfl 1 rfl ?_
              refine x_iload_n C dX8_addCall_79 rfl 3 rfl ?_
              refine x_callV C sh_47 (by decide) rfl [.int x, .int f] (c_X1_areTogether l V hV σ x f) (cwV 2 C.2.2.2.2.1 gX8_addCall_X1_areTogether rfl rfl rfl (by decide +kernel) ⟨Nat.le_of_ble_eq_true rfl, Nat.le_of_ble_eq_true rfl⟩) rfl rfl (Nat.le_of_ble_eq_true rfl) dX8_addCall_80 ⟨Nat.le_of_ble_eq_true rfl, Nat.le_of_ble_eq_true rfl⟩ (x_kI ?_)
              refine x_bif_eq C 102 dX8_addCall_83 rfl (fun h10 => ?_) (fun h10 => ?_)
              · exact absurd hk0 (by simp [kCall, h1, h2, h3, h4, eq_true h5, eq_true h9, h10])
              · refine x_aload_n C dX8_addCall_86 rfl 0 rfl ?_
                refine x_getr C sh_0 rfl iX8 1 (by decide) f19 (fun _ h => h) (by decide) rfl dX8_addCall_87 ?_
                refine x_getr C sh_8 rfl iX4 5 (by decide) f140 (fun _ h => h) (by decide) rfl dX8_addCall_90 ?_
                refine x_iload_n C dX8_addCall_93 rfl 1 rfl ?_
                refine x_iload C dX8_addCall_94 4 rfl ?_
                refine x_callV C sh_47 (by decide) rfl [.int x, .int g] (c_X1_areTogether l V hV σ x g) (cwV 2 C.2.2.2.2.1 gX8_addCall_X1_areTogether rfl rfl rfl (by decide +kernel) ⟨Nat.le_of_ble_eq_true rfl, Nat.le_of_ble_eq_true rfl⟩) rfl rfl (Nat.le_of_ble_eq_true rfl) dX8_addCall_96 ⟨Nat.le_of_ble_eq_true rfl, Nat.le_of_ble_eq_true rfl⟩ (x_kI ?_)
                refine x_bif_ne C 112 dX8_addCall_99 rfl (fun h11 => ?_) (fun h11 => ?_)
                · refine x_aload_n C dX8_addCall_112 rfl 0 rfl ?_
                  refine x_getr C sh_0 rfl iX8 1 (by decide) f19 (fun _ h => h) (by decide) rfl dX8_addCall_113 ?_
                  refine x_getr C sh_8 rfl iX4 5 (by decide) f140 (fun _ h => h) (by decide) rfl dX8_addCall_116 ?_
                  refine x_callV C sh_47 (by decide) rfl [] (c_X1_size l V hV σ ) (cwV 0 C.2.2.2.2.1 gX8_addCall_X1_size rfl rfl rfl (by decide +kernel) ⟨Nat.le_of_ble_eq_true rfl, Nat.le_of_ble_eq_true rfl⟩) rfl rfl (Nat.le_of_ble_eq_true rfl) dX8_addCall_119 ⟨Nat.le_of_ble_eq_true rfl, Nat.le_of_ble_eq_true rfl⟩ (x_kI ?_)
                  refine x_bipush C (50 : Int32) (by decide) dX8_addCall_122 ?_
                  refine x_icmp_lt C 137 dX8_addCall_124 rfl (fun h12 => ?_) (fun h12 => ?_)
                  · refine x_aload_n C dX8_addCall_137 rfl 0 rfl ?_
                    refine x_getr C sh_0 rfl iX8 1 (by decide) f19 (fun _ h => h) (by decide) rfl dX8_addCall_138 ?_
                    refine x_getr C sh_8 rfl iX4 5 (by decide) f140 (fun _ h => h) (by decide) rfl dX8_addCall_141 ?_
                    refine x_iconst C (5 : Int32) (by decide) dX8_addCall_144 ?_
                    refine x_aload_n C dX8_addCall_145 rfl 0 rfl ?_
                    refine x_getr C sh_0 rfl iX8 1 (by decide) f19 (fun _ h => h) (by decide) rfl dX8_addCall_146 ?_
                    refine x_getr C sh_8 rfl iX4 5 (by decide) f140 (fun _ h => h) (by decide) rfl dX8_addCall_149 ?_
                    refine x_iload_n C dX8_addCall_152 rfl 1 rfl ?_
                    refine x_callV C sh_47 (by decide) rfl [.int x] (c_X1_method l V hV σ x) (cwV 1 C.2.2.2.2.1 gX8_addCall_X1_method rfl rfl rfl (by decide +kernel) ⟨Nat.le_of_ble_eq_true rfl, Nat.le_of_ble_eq_true rfl⟩) rfl rfl (Nat.le_of_ble_eq_true rfl) dX8_addCall_153 ⟨Nat.le_of_ble_eq_true rfl, Nat.le_of_ble_eq_true rfl⟩ (x_kI ?_)
                    refine x_iload_n C dX8_addCall_156 rfl 2 rfl ?_
                    refine x_callV C sh_47 (by decide) rfl [.int (5 : Int32), .int (vAt 50 (σ 51) x), .int n] (c_X1_append l V hV σ (5 : Int32) (vAt 50 (σ 51) x) n) (cwV 3 C.2.2.2.2.1 gX8_addCall_X1_append rfl rfl rfl (by decide +kernel) ⟨Nat.le_of_ble_eq_true rfl, Nat.le_of_ble_eq_true rfl⟩) rfl rfl (Nat.le_of_ble_eq_true rfl) dX8_addCall_157 ⟨Nat.le_of_ble_eq_true rfl, Nat.le_of_ble_eq_true rfl⟩ (x_kI ?_)
                    refine x_istore C [(5, .int (σ 205 0)), (0, ra V 0), (1, .int x), (2, .int n), (3, .int f), (4, .int g)] dX8_addCall_160 (by decide) rfl ?_
                    refine x_aload_n C dX8_addCall_162 rfl 1 rfl ?_
                    refine x_getr C sh_0 rfl iX8 1 (by decide) f19 (fun _ h => h) (by decide) rfl dX8_addCall_163 ?_
                    refine x_getr C sh_8 rfl iX4 5 (by decide) f140 (fun _ h => h) (by decide) rfl dX8_addCall_166 ?_
                    refine x_iload C dX8_addCall_169 0 rfl ?_
                    refine x_iload_n C dX8_addCall_171 rfl 2 rfl ?_
                    refine x_iload_n C dX8_addCall_172 rfl 4 rfl ?_
                    refine x_iload C dX8_addCall_173 5 rfl ?_
                    refine x_callV C sh_47 (by decide) rfl [.int (σ 205 0), .int x, .int f, .int g] (c_X1_setParts l V hV (eApp σ (5 : Int32) (vAt 50 (σ 51) x) n) (σ 205 0) x f g) (cwV 4 C.2.2.2.2.1 gX8_addCall_X1_setParts rfl rfl rfl (by decide +kernel) ⟨Nat.le_of_ble_eq_true rfl, Nat.le_of_ble_eq_true rfl⟩) rfl rfl (Nat.le_of_ble_eq_true rfl) dX8_addCall_175 ⟨Nat.le_of_ble_eq_true rfl, Nat.le_of_ble_eq_true rfl⟩ (x_kV ?_)
                    refine x_iload C dX8_addCall_178 0 rfl ?_
                    exact x_iret C hr hlk dX8_addCall_180 ⟨rfl, rfl⟩
                  · exact absurd hk0 (by simp [kCall, h1, h2, h3, h4, eq_true h5, eq_true h9, h10, h11, h12])
                · exact absurd hk0 (by simp [kCall, h1, h2, h3, h4, eq_true h5, eq_true h9, h10, h11])
      · exact absurd hk0 (by simp [kCall, h1, h2, h3])

set_option maxHeartbeats 4000000 in
set_option maxRecDepth 100000 in
theorem c_X8_addResult (l : Launch) (V : xV) (hV : xInj V) (σ : xS) (x on off : Int32)  (hk0 : kRes σ x on off = 0) : xM l yX8_addResult wsX8_addResult ({ frames := 4, cells := 0, slots := 0, locals := 93 }) V [ra V 0, .int x, .int on, .int off] σ (rI (σ 204 0) (vPut (cApp σ 60 16 204 on off) 68 16 (σ 204 0) x)) := by
  refine xM_of (cc := cX8_addResult) (maxL := 4) (ret := (some .int)) [(0, ra V 0), (1, .int x), (2, .int on), (3, .int off)] hV (by decide) rfl rfl (Nat.le_of_ble_eq_true rfl) (fun p e s m args below meth c C hr hlk => ?_)
  have iX8 : ∀ w ∈ u_ws RX8 TX8 4, w ∈ wsX8_addResult := by decide +kernel
  have f19 : (Cond.fieldLink RX8 19 RX8 (TX8 1).2.1 (TX8 1).2.2.1).before args s = true := C.2.2.2.2.1 _ (by decide +kernel)
  have iX4 : ∀ w ∈ u_ws RX4 TX4 8, w ∈ wsX8_addResult := by decide +kernel
  have f140 : (Cond.fieldLink RX8 140 RX4 (TX4 5).2.1 (TX4 5).2.2.1).before args s = true := C.2.2.2.2.1 _ (by decide +kernel)
  have f179 : (Cond.fieldLink RX8 179 RX4 (TX4 6).2.1 (TX4 6).2.2.1).before args s = true := C.2.2.2.2.1 _ (by decide +kernel)
  refine x_aload_n C dX8_addResult_0 rfl 0 rfl ?_
  refine x_getr C sh_0 rfl iX8 1 (by decide) f19 (fun _ h => h) (by decide) rfl dX8_addResult_1 ?_
  refine x_getr C sh_8 rfl iX4 5 (by decide) f140 (fun _ h => h) (by decide) rfl dX8_addResult_4 ?_
  refine x_iload_n C dX8_addResult_7 rfl 1 rfl ?_
  refine x_callV C sh_47 (by decide) rfl [.int x] (c_X1_has l V hV σ x) (cwV 1 C.2.2.2.2.1 gX8_addResult_X1_has rfl rfl rfl (by decide +kernel) ⟨Nat.le_of_ble_eq_true rfl, Nat.le_of_ble_eq_true rfl⟩) rfl rfl (Nat.le_of_ble_eq_true rfl) dX8_addResult_8 ⟨Nat.le_of_ble_eq_true rfl, Nat.le_of_ble_eq_true rfl⟩ (x_kI ?_)
  refine x_bif_ne C 24 dX8_addResult_11 rfl (fun h1 => ?_) (fun h1 => ?_)
  · refine x_iload_n C dX8_addResult_24 rfl 2 rfl ?_
    refine x_iload_n C dX8_addResult_25 rfl 3 rfl ?_
    refine x_callS C [.int on, .int off] (c_X8_isCondition l V hV σ on off) (va_cwS 2 C.2.2.2.2.1 gX8_addResult_X8_isCondition rfl rfl rfl (by decide +kernel) ⟨Nat.le_of_ble_eq_true rfl, Nat.le_of_ble_eq_true rfl⟩) rfl rfl (Nat.le_of_ble_eq_true rfl) dX8_addResult_26 ⟨Nat.le_of_ble_eq_true rfl, Nat.le_of_ble_eq_true rfl⟩ (x_kI ?_)
    refine x_bif_ne C 42 dX8_addResult_29 rfl (fun h2 => ?_) (fun h2 => ?_)
    · refine x_aload_n C dX8_addResult_42 rfl 0 rfl ?_
      refine x_getr C sh_0 rfl iX8 1 (by decide) f19 (fun _ h => h) (by decide) rfl dX8_addResult_43 ?_
      refine x_getr C sh_8 rfl iX4 6 (by decide) f179 (fun _ h => h) (by decide) rfl dX8_addResult_46 ?_
      refine x_callV C sh_60 (by decide) rfl [] (c_X0_size_60 l V hV σ ) (cwV 0 C.2.2.2.2.1 gX8_addResult_X0_size rfl rfl rfl (by decide +kernel) ⟨Nat.le_of_ble_eq_true rfl, Nat.le_of_ble_eq_true rfl⟩) rfl rfl (Nat.le_of_ble_eq_true rfl) dX8_addResult_49 ⟨Nat.le_of_ble_eq_true rfl, Nat.le_of_ble_eq_true rfl⟩ (x_kI ?_)
      refine x_bipush C (16 : Int32) (by decide) dX8_addResult_52 ?_
      refine x_icmp_lt C 67 dX8_addResult_54 rfl (fun h3 => ?_) (fun h3 => ?_)
      · refine x_aload_n C dX8_addResult_67 rfl 0 rfl ?_
        refine x_getr C sh_0 rfl iX8 1 (by decide) f19 (fun _ h => h) (by decide) rfl dX8_addResult_68 ?_
        refine x_iload_n C dX8_addResult_71 rfl 1 rfl ?_
        refine x_iload_n C dX8_addResult_72 rfl 2 rfl ?_
        refine x_iload_n C dX8_addResult_73 rfl 3 rfl ?_
        refine x_callV C sh_8 (by decide) rfl [.int x, .int on, .int off] (c_X4_appendResult l V hV σ x on off) (cwV 3 C.2.2.2.2.1 gX8_addResult_X4_appendResult rfl rfl rfl (by decide +kernel) ⟨Nat.le_of_ble_eq_true rfl, Nat.le_of_ble_eq_true rfl⟩) rfl rfl (Nat.le_of_ble_eq_true rfl) dX8_addResult_74 ⟨Nat.le_of_ble_eq_true rfl, Nat.le_of_ble_eq_true rfl⟩ (x_kI ?_)
        exact x_iret C hr hlk dX8_addResult_77 ⟨rfl, rfl⟩
      · exact absurd hk0 (by simp [kRes, h1, h2, h3])
    · exact absurd hk0 (by simp [kRes, h1, h2])
  · exact absurd hk0 (by simp [kRes, h1])



theorem sort5 {x : Int32} (h1 : ¬ x < 0) (h2 : x ≤ 4) : x = 0 ∨ x = 1 ∨ x = 2 ∨ x = 3 ∨ x = 4 := by
  obtain ⟨j, hj, rfl⟩ := nI_of2 (M := 4) (n := 4) (by decide) h1 h2
  have : j = 0 ∨ j = 1 ∨ j = 2 ∨ j = 3 ∨ j = 4 := by omega
  rcases this with rfl | rfl | rfl | rfl | rfl
  · exact Or.inl rfl
  · exact Or.inr (Or.inl rfl)
  · exact Or.inr (Or.inr (Or.inl rfl))
  · exact Or.inr (Or.inr (Or.inr (Or.inl rfl)))
  · exact Or.inr (Or.inr (Or.inr (Or.inr rfl)))
set_option maxHeartbeats 4000000 in
set_option maxRecDepth 100000 in
theorem c_X8_count (l : Launch) (V : xV) (hV : xInj V) (σ : xS) (t : Int32)  (hk0 : kCnt t = 0) : xM l yX8_count wsX8_count ({ frames := 2, cells := 0, slots := 0, locals := 42 }) V [ra V 0, .int t] σ (rI (σ (szQ t) 0) (σ)) := by
  refine xM_of (cc := cX8_count) (maxL := 2) (ret := (some .int)) [(0, ra V 0), (1, .int t)] hV (by decide) rfl rfl (Nat.le_of_ble_eq_true rfl) (fun p e s m args below meth c C hr hlk => ?_)
  have iX8 : ∀ w ∈ u_ws RX8 TX8 4, w ∈ wsX8_count := by decide +kernel
  have f19 : (Cond.fieldLink RX8 19 RX8 (TX8 1).2.1 (TX8 1).2.2.1).before args s = true := C.2.2.2.2.1 _ (by decide +kernel)
  refine x_iload_n C dX8_count_0 rfl 1 rfl ?_
  refine x_if_lt C 9 dX8_count_1 rfl (fun h1 => ?_) (fun h1 => ?_)
  · exact absurd hk0 (by simp [kCnt, h1])
  · refine x_iload_n C dX8_count_4 rfl 1 rfl ?_
    refine x_iconst C (4 : Int32) (by decide) dX8_count_5 ?_
    refine x_icmp_le C 19 dX8_count_6 rfl (fun h2 => ?_) (fun h2 => ?_)
    · have hq5 : t = 0 ∨ t = 1 ∨ t = 2 ∨ t = 3 ∨ t = 4 := sort5 h1 h2
      rcases hq5 with rfl | rfl | rfl | rfl | rfl
      · refine x_aload_n C dX8_count_19 rfl 0 rfl ?_
        refine x_getr C sh_0 rfl iX8 1 (by decide) f19 (fun _ h => h) (by decide) rfl dX8_count_20 ?_
        refine x_iload_n C dX8_count_23 rfl 1 rfl ?_
        refine x_callV C sh_8 (by decide) rfl [.int (0 : Int32)] (c_X4_size_0 l V hV σ) (cwV 1 C.2.2.2.2.1 gX8_count_X4_size rfl rfl rfl (by decide +kernel) ⟨Nat.le_of_ble_eq_true rfl, Nat.le_of_ble_eq_true rfl⟩) rfl rfl (Nat.le_of_ble_eq_true rfl) dX8_count_24 ⟨Nat.le_of_ble_eq_true rfl, Nat.le_of_ble_eq_true rfl⟩ (x_kI ?_)
        exact x_iret C hr hlk dX8_count_27 ⟨rfl, rfl⟩
      · refine x_aload_n C dX8_count_19 rfl 0 rfl ?_
        refine x_getr C sh_0 rfl iX8 1 (by decide) f19 (fun _ h => h) (by decide) rfl dX8_count_20 ?_
        refine x_iload_n C dX8_count_23 rfl 1 rfl ?_
        refine x_callV C sh_8 (by decide) rfl [.int (1 : Int32)] (c_X4_size_1 l V hV σ) (cwV 1 C.2.2.2.2.1 gX8_count_X4_size rfl rfl rfl (by decide +kernel) ⟨Nat.le_of_ble_eq_true rfl, Nat.le_of_ble_eq_true rfl⟩) rfl rfl (Nat.le_of_ble_eq_true rfl) dX8_count_24 ⟨Nat.le_of_ble_eq_true rfl, Nat.le_of_ble_eq_true rfl⟩ (x_kI ?_)
        exact x_iret C hr hlk dX8_count_27 ⟨rfl, rfl⟩
      · refine x_aload_n C dX8_count_19 rfl 0 rfl ?_
        refine x_getr C sh_0 rfl iX8 1 (by decide) f19 (fun _ h => h) (by decide) rfl dX8_count_20 ?_
        refine x_iload_n C dX8_count_23 rfl 1 rfl ?_
        refine x_callV C sh_8 (by decide) rfl [.int (2 : Int32)] (c_X4_size_2 l V hV σ) (cwV 1 C.2.2.2.2.1 gX8_count_X4_size rfl rfl rfl (by decide +kernel) ⟨Nat.le_of_ble_eq_true rfl, Nat.le_of_ble_eq_true rfl⟩) rfl rfl (Nat.le_of_ble_eq_true rfl) dX8_count_24 ⟨Nat.le_of_ble_eq_true rfl, Nat.le_of_ble_eq_true rfl⟩ (x_kI ?_)
        exact x_iret C hr hlk dX8_count_27 ⟨rfl, rfl⟩
      · refine x_aload_n C dX8_count_19 rfl 0 rfl ?_
        refine x_getr C sh_0 rfl iX8 1 (by decide) f19 (fun _ h => h) (by decide) rfl dX8_count_20 ?_
        refine x_iload_n C dX8_count_23 rfl 1 rfl ?_
        refine x_callV C sh_8 (by decide) rfl [.int (3 : Int32)] (c_X4_size_3 l V hV σ) (cwV 1 C.2.2.2.2.1 gX8_count_X4_size rfl rfl rfl (by decide +kernel) ⟨Nat.le_of_ble_eq_true rfl, Nat.le_of_ble_eq_true rfl⟩) rfl rfl (Nat.le_of_ble_eq_true rfl) dX8_count_24 ⟨Nat.le_of_ble_eq_true rfl, Nat.le_of_ble_eq_true rfl⟩ (x_kI ?_)
        exact x_iret C hr hlk dX8_count_27 ⟨rfl, rfl⟩
      · refine x_aload_n C dX8_count_19 rfl 0 rfl ?_
        refine x_getr C sh_0 rfl iX8 1 (by decide) f19 (fun _ h => h) (by decide) rfl dX8_count_20 ?_
        refine x_iload_n C dX8_count_23 rfl 1 rfl ?_
        refine x_callV C sh_8 (by decide) rfl [.int (4 : Int32)] (c_X4_size_4 l V hV σ) (cwV 1 C.2.2.2.2.1 gX8_count_X4_size rfl rfl rfl (by decide +kernel) ⟨Nat.le_of_ble_eq_true rfl, Nat.le_of_ble_eq_true rfl⟩) rfl rfl (Nat.le_of_ble_eq_true rfl) dX8_count_24 ⟨Nat.le_of_ble_eq_true rfl, Nat.le_of_ble_eq_true rfl⟩ (x_kI ?_)
        exact x_iret C hr hlk dX8_count_27 ⟨rfl, rfl⟩
    · exact absurd hk0 (by simp [kCnt, h1, h2])





set_option maxHeartbeats 4000000 in
set_option maxRecDepth 100000 in
theorem c_X8_typeOf (l : Launch) (V : xV) (hV : xInj V) (σ : xS) (x c1 : Int32) (hz202 : okZ σ 202) (hz203 : okZ σ 203) (hk0 : kTyp σ x c1 = 0) : xM l yX8_typeOf wsX8_typeOf ({ frames := 6, cells := 0, slots := 0, locals := 133 }) V [ra V 0, .int x, .int c1] σ (rI (tyIn (gts (look σ c1)) x c1) (gts (look σ c1))) := by
  refine xM_of (cc := cX8_typeOf) (maxL := 3) (ret := (some .int)) [(0, ra V 0), (1, .int x), (2, .int c1)] hV (by decide) rfl rfl (Nat.le_of_ble_eq_true rfl) (fun p e s m args below meth c C hr hlk => ?_)
  have iX8 : ∀ w ∈ u_ws RX8 TX8 4, w ∈ wsX8_typeOf := by decide +kernel
  have f19 : (Cond.fieldLink RX8 19 RX8 (TX8 1).2.1 (TX8 1).2.2.1).before args s = true := C.2.2.2.2.1 _ (by decide +kernel)
  have iX4 : ∀ w ∈ u_ws RX4 TX4 8, w ∈ wsX8_typeOf := by decide +kernel
  have f140 : (Cond.fieldLink RX8 140 RX4 (TX4 5).2.1 (TX4 5).2.2.1).before args s = true := C.2.2.2.2.1 _ (by decide +kernel)
  have f28 : (Cond.fieldLink RX8 28 RX8 (TX8 2).2.1 (TX8 2).2.2.1).before args s = true := C.2.2.2.2.1 _ (by decide +kernel)
  refine x_aload_n C dX8_typeOf_0 rfl 0 rfl ?_
  refine x_getr C sh_0 rfl iX8 1 (by decide) f19 (fun _ h => h) (by decide) rfl dX8_typeOf_1 ?_
  refine x_getr C sh_8 rfl iX4 5 (by decide) f140 (fun _ h => h) (by decide) rfl dX8_typeOf_4 ?_
  refine x_iload_n C dX8_typeOf_7 rfl 1 rfl ?_
  refine x_callV C sh_47 (by decide) rfl [.int x] (c_X1_has l V hV σ x) (cwV 1 C.2.2.2.2.1 gX8_typeOf_X1_has rfl rfl rfl (by decide +kernel) ⟨Nat.le_of_ble_eq_true rfl, Nat.le_of_ble_eq_true rfl⟩) rfl rfl (Nat.le_of_ble_eq_true rfl) dX8_typeOf_8 ⟨Nat.le_of_ble_eq_true rfl, Nat.le_of_ble_eq_true rfl⟩ (x_kI ?_)
  refine x_bif_ne C 24 dX8_typeOf_11 rfl (fun h1 => ?_) (fun h1 => ?_)
  · refine x_aload_n C dX8_typeOf_24 rfl 0 rfl ?_
    refine x_iload_n C dX8_typeOf_25 rfl 2 rfl ?_
    refine x_callV C sh_0 (by decide) rfl [.int c1] (c_X8_isProduct l V hV σ c1) (cwV 1 C.2.2.2.2.1 gX8_typeOf_X8_isProduct rfl rfl rfl (by decide +kernel) ⟨Nat.le_of_ble_eq_true rfl, Nat.le_of_ble_eq_true rfl⟩) rfl rfl (Nat.le_of_ble_eq_true rfl) dX8_typeOf_26 ⟨Nat.le_of_ble_eq_true rfl, Nat.le_of_ble_eq_true rfl⟩ (x_kI ?_)
    refine x_bif_ne C 42 dX8_typeOf_29 rfl (fun h2 => ?_) (fun h2 => ?_)
    · refine x_aload_n C dX8_typeOf_42 rfl 0 rfl ?_
      refine x_getr C sh_0 rfl iX8 2 (by decide) f28 (fun _ h => h) (by decide) rfl dX8_typeOf_43 ?_
      refine x_iload_n C dX8_typeOf_46 rfl 2 rfl ?_
      refine x_callV C sh_69 (by decide) rfl [.int c1] (c_X7_look l V hV σ c1 (okZ_of (by simp [lfe_keep, lfp_keep, lfa_keep, lfm_keep, gts_keep, vPut_ne, vFill_ne, xw_ne]) hz202) (okZ_of (by simp [lfe_keep, lfp_keep, lfa_keep, lfm_keep, gts_keep, vPut_ne, vFill_ne, xw_ne]) hz203)) (cwV 1 C.2.2.2.2.1 gX8_typeOf_X7_look rfl rfl rfl (by decide +kernel) ⟨Nat.le_of_ble_eq_true rfl, Nat.le_of_ble_eq_true rfl⟩) rfl rfl (Nat.le_of_ble_eq_true rfl) dX8_typeOf_47 ⟨Nat.le_of_ble_eq_true rfl, Nat.le_of_ble_eq_true rfl⟩ (x_kV ?_)
      refine x_aload_n C dX8_typeOf_50 rfl 0 rfl ?_
      refine x_getr C sh_0 rfl iX8 2 (by decide) f28 (fun _ h => h) (by decide) rfl dX8_typeOf_51 ?_
      refine x_callV C sh_69 (by decide) rfl [] (c_X7_giveTypes l V hV (look σ c1) ) (cwV 0 C.2.2.2.2.1 gX8_typeOf_X7_giveTypes rfl rfl rfl (by decide +kernel) ⟨Nat.le_of_ble_eq_true rfl, Nat.le_of_ble_eq_true rfl⟩) rfl rfl (Nat.le_of_ble_eq_true rfl) dX8_typeOf_54 ⟨Nat.le_of_ble_eq_true rfl, Nat.le_of_ble_eq_true rfl⟩ (x_kV ?_)
      refine x_aload_n C dX8_typeOf_57 rfl 0 rfl ?_
      refine x_getr C sh_0 rfl iX8 2 (by decide) f28 (fun _ h => h) (by decide) rfl dX8_typeOf_58 ?_
      refine x_iload_n C dX8_typeOf_61 rfl 1 rfl ?_
      refine x_iload_n C dX8_typeOf_62 rfl 2 rfl ?_
      refine x_callV C sh_69 (by decide) rfl [.int x, .int c1] (c_X7_typeIn l V hV (gts (look σ c1)) x c1) (cwV 2 C.2.2.2.2.1 gX8_typeOf_X7_typeIn rfl rfl rfl (by decide +kernel) ⟨Nat.le_of_ble_eq_true rfl, Nat.le_of_ble_eq_true rfl⟩) rfl rfl (Nat.le_of_ble_eq_true rfl) dX8_typeOf_63 ⟨Nat.le_of_ble_eq_true rfl, Nat.le_of_ble_eq_true rfl⟩ (x_kI ?_)
      exact x_iret C hr hlk dX8_typeOf_66 ⟨rfl, rfl⟩
    · exact absurd hk0 (by simp [kTyp, h1, h2])
  · exact absurd hk0 (by simp [kTyp, h1])

set_option maxHeartbeats 4000000 in
set_option maxRecDepth 100000 in
theorem c_X8_errorCount (l : Launch) (V : xV) (hV : xInj V) (σ : xS)  (hz202 : okZ σ 202) (hz203 : okZ σ 203) : xM l yX8_errorCount wsX8_errorCount ({ frames := 7, cells := 0, slots := 0, locals := 155 }) V [ra V 0] σ (rI (insA σ 207 0) (insA σ)) := by
  refine xM_of (cc := cX8_errorCount) (maxL := 1) (ret := (some .int)) [(0, ra V 0)] hV (by decide) rfl rfl (Nat.le_of_ble_eq_true rfl) (fun p e s m args below meth c C hr hlk => ?_)
  have iX8 : ∀ w ∈ u_ws RX8 TX8 4, w ∈ wsX8_errorCount := by decide +kernel
  have f37 : (Cond.fieldLink RX8 37 RX8 (TX8 3).2.1 (TX8 3).2.2.1).before args s = true := C.2.2.2.2.1 _ (by decide +kernel)
  refine x_aload_n C dX8_errorCount_0 rfl 0 rfl ?_
  refine x_getr C sh_0 rfl iX8 3 (by decide) f37 (fun _ h => h) (by decide) rfl dX8_errorCount_1 ?_
  refine x_aload_n C dX8_errorCount_4 rfl 0 rfl ?_
  refine x_callV C sh_0 (by decide) rfl [] (c_X8_products l V hV σ ) (cwV 0 C.2.2.2.2.1 gX8_errorCount_X8_products rfl rfl rfl (by decide +kernel) ⟨Nat.le_of_ble_eq_true rfl, Nat.le_of_ble_eq_true rfl⟩) rfl rfl (Nat.le_of_ble_eq_true rfl) dX8_errorCount_5 ⟨Nat.le_of_ble_eq_true rfl, Nat.le_of_ble_eq_true rfl⟩ (x_kI ?_)
  refine x_callV C sh_82 (by decide) rfl [.int (allI σ)] (c_X2_inspect l V hV σ (allI σ) (okZ_of (by simp [lfe_keep, lfp_keep, lfa_keep, lfm_keep, gts_keep, vPut_ne, vFill_ne, xw_ne]) hz202) (okZ_of (by simp [lfe_keep, lfp_keep, lfa_keep, lfm_keep, gts_keep, vPut_ne, vFill_ne, xw_ne]) hz203)) (cwV 1 C.2.2.2.2.1 gX8_errorCount_X2_inspect rfl rfl rfl (by decide +kernel) ⟨Nat.le_of_ble_eq_true rfl, Nat.le_of_ble_eq_true rfl⟩) rfl rfl (Nat.le_of_ble_eq_true rfl) dX8_errorCount_8 ⟨Nat.le_of_ble_eq_true rfl, Nat.le_of_ble_eq_true rfl⟩ (x_kV ?_)
  refine x_aload_n C dX8_errorCount_11 rfl 0 rfl ?_
  refine x_getr C sh_0 rfl iX8 3 (by decide) f37 (fun _ h => h) (by decide) rfl dX8_errorCount_12 ?_
  refine x_callV C sh_82 (by decide) rfl [] (c_X2_size l V hV (insp σ (allI σ)) ) (cwV 0 C.2.2.2.2.1 gX8_errorCount_X2_size rfl rfl rfl (by decide +kernel) ⟨Nat.le_of_ble_eq_true rfl, Nat.le_of_ble_eq_true rfl⟩) rfl rfl (Nat.le_of_ble_eq_true rfl) dX8_errorCount_15 ⟨Nat.le_of_ble_eq_true rfl, Nat.le_of_ble_eq_true rfl⟩ (x_kI ?_)
  exact x_iret C hr hlk dX8_errorCount_18 ⟨rfl, rfl⟩

set_option maxHeartbeats 4000000 in
set_option maxRecDepth 100000 in
theorem c_X8_error (l : Launch) (V : xV) (hV : xInj V) (σ : xS) (i w1 : Int32) (hz202 : okZ σ 202) (hz203 : okZ σ 203) (hk0 : kErr σ i w1 = 0) : xM l yX8_error wsX8_error ({ frames := 7, cells := 0, slots := 0, locals := 155 }) V [ra V 0, .int i, .int w1] σ (rI (vErr σ i w1) (insA σ)) := by
  refine xM_of (cc := cX8_error) (maxL := 3) (ret := (some .int)) [(0, ra V 0), (1, .int i), (2, .int w1)] hV (by decide) rfl rfl (Nat.le_of_ble_eq_true rfl) (fun p e s m args below meth c C hr hlk => ?_)
  have iX8 : ∀ w ∈ u_ws RX8 TX8 4, w ∈ wsX8_error := by decide +kernel
  have f37 : (Cond.fieldLink RX8 37 RX8 (TX8 3).2.1 (TX8 3).2.2.1).before args s = true := C.2.2.2.2.1 _ (by decide +kernel)
  refine x_aload_n C dX8_error_0 rfl 0 rfl ?_
  refine x_getr C sh_0 rfl iX8 3 (by decide) f37 (fun _ h => h) (by decide) rfl dX8_error_1 ?_
  refine x_aload_n C dX8_error_4 rfl 0 rfl ?_
  refine x_callV C sh_0 (by decide) rfl [] (c_X8_products l V hV σ ) (cwV 0 C.2.2.2.2.1 gX8_error_X8_products rfl rfl rfl (by decide +kernel) ⟨Nat.le_of_ble_eq_true rfl, Nat.le_of_ble_eq_true rfl⟩) rfl rfl (Nat.le_of_ble_eq_true rfl) dX8_error_5 ⟨Nat.le_of_ble_eq_true rfl, Nat.le_of_ble_eq_true rfl⟩ (x_kI ?_)
  refine x_callV C sh_82 (by decide) rfl [.int (allI σ)] (c_X2_inspect l V hV σ (allI σ) (okZ_of (by simp [lfe_keep, lfp_keep, lfa_keep, lfm_keep, gts_keep, vPut_ne, vFill_ne, xw_ne]) hz202) (okZ_of (by simp [lfe_keep, lfp_keep, lfa_keep, lfm_keep, gts_keep, vPut_ne, vFill_ne, xw_ne]) hz203)) (cwV 1 C.2.2.2.2.1 gX8_error_X2_inspect rfl rfl rfl (by decide +kernel) ⟨Nat.le_of_ble_eq_true rfl, Nat.le_of_ble_eq_true rfl⟩) rfl rfl (Nat.le_of_ble_eq_true rfl) dX8_error_8 ⟨Nat.le_of_ble_eq_true rfl, Nat.le_of_ble_eq_true rfl⟩ (x_kV ?_)
  refine x_iload_n C dX8_error_11 rfl 1 rfl ?_
  refine x_if_lt C 35 dX8_error_12 rfl (fun h1 => ?_) (fun h1 => ?_)
  · exact absurd hk0 (by simp [kErr, insA, h1])
  · refine x_iload_n C dX8_error_15 rfl 1 rfl ?_
    refine x_aload_n C dX8_error_16 rfl 0 rfl ?_
    refine x_getr C sh_0 rfl iX8 3 (by decide) f37 (fun _ h => h) (by decide) rfl dX8_error_17 ?_
    refine x_callV C sh_82 (by decide) rfl [] (c_X2_size l V hV (insp σ (allI σ)) ) (cwV 0 C.2.2.2.2.1 gX8_error_X2_size rfl rfl rfl (by decide +kernel) ⟨Nat.le_of_ble_eq_true rfl, Nat.le_of_ble_eq_true rfl⟩) rfl rfl (Nat.le_of_ble_eq_true rfl) dX8_error_20 ⟨Nat.le_of_ble_eq_true rfl, Nat.le_of_ble_eq_true rfl⟩ (x_kI ?_)
    refine x_icmp_ge C 35 dX8_error_23 rfl (fun h2 => ?_) (fun h2 => ?_)
    · exact absurd hk0 (by simp [kErr, insA, h1, h2])
    · refine x_iload_n C dX8_error_26 rfl 2 rfl ?_
      refine x_if_lt C 35 dX8_error_27 rfl (fun h3 => ?_) (fun h3 => ?_)
      · exact absurd hk0 (by simp [kErr, insA, h1, h2, h3])
      · refine x_iload_n C dX8_error_30 rfl 2 rfl ?_
        refine x_iconst C (2 : Int32) (by decide) dX8_error_31 ?_
        refine x_icmp_le C 45 dX8_error_32 rfl (fun h4 => ?_) (fun h4 => ?_)
        · refine x_iload_n C dX8_error_45 rfl 2 rfl ?_
          refine x_if_ne C 60 dX8_error_46 rfl (fun h5 => ?_) (fun h5 => ?_)
          · refine x_iload_n C dX8_error_60 rfl 2 rfl ?_
            refine x_iconst C (1 : Int32) (by decide) dX8_error_61 ?_
            refine x_icmp_ne C 76 dX8_error_62 rfl (fun h6 => ?_) (fun h6 => ?_)
            · refine x_aload_n C dX8_error_76 rfl 0 rfl ?_
              refine x_getr C sh_0 rfl iX8 3 (by decide) f37 (fun _ h => h) (by decide) rfl dX8_error_77 ?_
              refine x_iload_n C dX8_error_80 rfl 1 rfl ?_
              refine x_callV C sh_82 (by decide) rfl [.int i] (c_X2_productsOf l V hV (insp σ (allI σ)) i) (cwV 1 C.2.2.2.2.1 gX8_error_X2_productsOf rfl rfl rfl (by decide +kernel) ⟨Nat.le_of_ble_eq_true rfl, Nat.le_of_ble_eq_true rfl⟩) rfl rfl (Nat.le_of_ble_eq_true rfl) dX8_error_81 ⟨Nat.le_of_ble_eq_true rfl, Nat.le_of_ble_eq_true rfl⟩ (x_kI ?_)
              exact x_iret C hr hlk dX8_error_84 ⟨by simp [vErr, insA, h1, h2, h3, h4, h5, h6], rfl⟩
            · refine x_aload_n C dX8_error_65 rfl 0 rfl ?_
              refine x_getr C sh_0 rfl iX8 3 (by decide) f37 (fun _ h => h) (by decide) rfl dX8_error_66 ?_
              refine x_iload_n C dX8_error_69 rfl 1 rfl ?_
              refine x_callV C sh_82 (by decide) rfl [.int i] (c_X2_elementOf l V hV (insp σ (allI σ)) i) (cwV 1 C.2.2.2.2.1 gX8_error_X2_elementOf rfl rfl rfl (by decide +kernel) ⟨Nat.le_of_ble_eq_true rfl, Nat.le_of_ble_eq_true rfl⟩) rfl rfl (Nat.le_of_ble_eq_true rfl) dX8_error_70 ⟨Nat.le_of_ble_eq_true rfl, Nat.le_of_ble_eq_true rfl⟩ (x_kI ?_)
              refine x_goto C 84 dX8_error_73 rfl ?_
              exact x_iret C hr hlk dX8_error_84 ⟨by simp [vErr, insA, h1, h2, h3, h4, h5, eq_true h6], rfl⟩
          · refine x_aload_n C dX8_error_49 rfl 0 rfl ?_
            refine x_getr C sh_0 rfl iX8 3 (by decide) f37 (fun _ h => h) (by decide) rfl dX8_error_50 ?_
            refine x_iload_n C dX8_error_53 rfl 1 rfl ?_
            refine x_callV C sh_82 (by decide) rfl [.int i] (c_X2_kindOf l V hV (insp σ (allI σ)) i) (cwV 1 C.2.2.2.2.1 gX8_error_X2_kindOf rfl rfl rfl (by decide +kernel) ⟨Nat.le_of_ble_eq_true rfl, Nat.le_of_ble_eq_true rfl⟩) rfl rfl (Nat.le_of_ble_eq_true rfl) dX8_error_54 ⟨Nat.le_of_ble_eq_true rfl, Nat.le_of_ble_eq_true rfl⟩ (x_kI ?_)
            refine x_goto C 84 dX8_error_57 rfl ?_
            exact x_iret C hr hlk dX8_error_84 ⟨by simp [vErr, insA, h1, h2, h3, h4, eq_true h5], rfl⟩
        · exact absurd hk0 (by simp [kErr, insA, h1, h2, h3, h4])

set_option maxHeartbeats 4000000 in
set_option maxRecDepth 100000 in
theorem c_X8_right (l : Launch) (V : xV) (hV : xInj V) (σ : xS)  (hz202 : okZ σ 202) (hz203 : okZ σ 203) : xM l yX8_right wsX8_right ({ frames := 7, cells := 0, slots := 0, locals := 155 }) V [ra V 0] σ (rI (rgt σ) (insA σ)) := by
  refine xM_of (cc := cX8_right) (maxL := 2) (ret := (some .int)) [(0, ra V 0)] hV (by decide) rfl rfl (Nat.le_of_ble_eq_true rfl) (fun p e s m args below meth c C hr hlk => ?_)
  have iX8 : ∀ w ∈ u_ws RX8 TX8 4, w ∈ wsX8_right := by decide +kernel
  have f37 : (Cond.fieldLink RX8 37 RX8 (TX8 3).2.1 (TX8 3).2.2.1).before args s = true := C.2.2.2.2.1 _ (by decide +kernel)
  refine x_aload_n C dX8_right_0 rfl 0 rfl ?_
  refine x_callV C sh_0 (by decide) rfl [] (c_X8_products l V hV σ ) (cwV 0 C.2.2.2.2.1 gX8_right_X8_products rfl rfl rfl (by decide +kernel) ⟨Nat.le_of_ble_eq_true rfl, Nat.le_of_ble_eq_true rfl⟩) rfl rfl (Nat.le_of_ble_eq_true rfl) dX8_right_1 ⟨Nat.le_of_ble_eq_true rfl, Nat.le_of_ble_eq_true rfl⟩ (x_kI ?_)
  refine x_istore_n C [(1, .int (allI σ)), (0, ra V 0)] dX8_right_4 rfl (by decide) rfl ?_
  refine x_aload_n C dX8_right_5 rfl 1 rfl ?_
  refine x_getr C sh_0 rfl iX8 3 (by decide) f37 (fun _ h => h) (by decide) rfl dX8_right_6 ?_
  refine x_iload_n C dX8_right_9 rfl 0 rfl ?_
  refine x_callV C sh_82 (by decide) rfl [.int (allI σ)] (c_X2_inspect l V hV σ (allI σ) (okZ_of (by simp [lfe_keep, lfp_keep, lfa_keep, lfm_keep, gts_keep, vPut_ne, vFill_ne, xw_ne]) hz202) (okZ_of (by simp [lfe_keep, lfp_keep, lfa_keep, lfm_keep, gts_keep, vPut_ne, vFill_ne, xw_ne]) hz203)) (cwV 1 C.2.2.2.2.1 gX8_right_X2_inspect rfl rfl rfl (by decide +kernel) ⟨Nat.le_of_ble_eq_true rfl, Nat.le_of_ble_eq_true rfl⟩) rfl rfl (Nat.le_of_ble_eq_true rfl) dX8_right_10 ⟨Nat.le_of_ble_eq_true rfl, Nat.le_of_ble_eq_true rfl⟩ (x_kV ?_)
  refine x_iload_n C dX8_right_13 rfl 0 rfl ?_
  refine x_aload_n C dX8_right_14 rfl 1 rfl ?_
  refine x_getr C sh_0 rfl iX8 3 (by decide) f37 (fun _ h => h) (by decide) rfl dX8_right_15 ?_
  refine x_callV C sh_82 (by decide) rfl [] (c_X2_wrongProducts l V hV (insp σ (allI σ)) ) (cwV 0 C.2.2.2.2.1 gX8_right_X2_wrongProducts rfl rfl rfl (by decide +kernel) ⟨Nat.le_of_ble_eq_true rfl, Nat.le_of_ble_eq_true rfl⟩) rfl rfl (Nat.le_of_ble_eq_true rfl) dX8_right_18 ⟨Nat.le_of_ble_eq_true rfl, Nat.le_of_ble_eq_true rfl⟩ (x_kI ?_)
  refine x_iconst C (-1 : Int32) (by decide) dX8_right_21 ?_
  refine x_ixor C dX8_right_22 ?_
  refine x_iand C dX8_right_23 ?_
  exact x_iret C hr hlk dX8_right_24 ⟨rfl, rfl⟩

set_option maxHeartbeats 4000000 in
set_option maxRecDepth 100000 in
theorem c_X8_errorsIn (l : Launch) (V : xV) (hV : xInj V) (σ : xS) (c1 : Int32) (hz202 : okZ σ 202) (hz203 : okZ σ 203) (hk0 : kEIn σ c1 = 0) : xM l yX8_errorsIn wsX8_errorsIn ({ frames := 7, cells := 0, slots := 0, locals := 155 }) V [ra V 0, .int c1] σ (rI (szI (insA σ) c1) (insA σ)) := by
  refine xM_of (cc := cX8_errorsIn) (maxL := 2) (ret := (some .int)) [(0, ra V 0), (1, .int c1)] hV (by decide) rfl rfl (Nat.le_of_ble_eq_true rfl) (fun p e s m args below meth c C hr hlk => ?_)
  have iX8 : ∀ w ∈ u_ws RX8 TX8 4, w ∈ wsX8_errorsIn := by decide +kernel
  have f37 : (Cond.fieldLink RX8 37 RX8 (TX8 3).2.1 (TX8 3).2.2.1).before args s = true := C.2.2.2.2.1 _ (by decide +kernel)
  refine x_aload_n C dX8_errorsIn_0 rfl 0 rfl ?_
  refine x_iload_n C dX8_errorsIn_1 rfl 1 rfl ?_
  refine x_callV C sh_0 (by decide) rfl [.int c1] (c_X8_isProduct l V hV σ c1) (cwV 1 C.2.2.2.2.1 gX8_errorsIn_X8_isProduct rfl rfl rfl (by decide +kernel) ⟨Nat.le_of_ble_eq_true rfl, Nat.le_of_ble_eq_true rfl⟩) rfl rfl (Nat.le_of_ble_eq_true rfl) dX8_errorsIn_2 ⟨Nat.le_of_ble_eq_true rfl, Nat.le_of_ble_eq_true rfl⟩ (x_kI ?_)
  refine x_bif_ne C 18 dX8_errorsIn_5 rfl (fun h1 => ?_) (fun h1 => ?_)
  · refine x_aload_n C dX8_errorsIn_18 rfl 0 rfl ?_
    refine x_getr C sh_0 rfl iX8 3 (by decide) f37 (fun _ h => h) (by decide) rfl dX8_errorsIn_19 ?_
    refine x_aload_n C dX8_errorsIn_22 rfl 0 rfl ?_
    refine x_callV C sh_0 (by decide) rfl [] (c_X8_products l V hV σ ) (cwV 0 C.2.2.2.2.1 gX8_errorsIn_X8_products rfl rfl rfl (by decide +kernel) ⟨Nat.le_of_ble_eq_true rfl, Nat.le_of_ble_eq_true rfl⟩) rfl rfl (Nat.le_of_ble_eq_true rfl) dX8_errorsIn_23 ⟨Nat.le_of_ble_eq_true rfl, Nat.le_of_ble_eq_true rfl⟩ (x_kI ?_)
    refine x_callV C sh_82 (by decide) rfl [.int (allI σ)] (c_X2_inspect l V hV σ (allI σ) (okZ_of (by simp [lfe_keep, lfp_keep, lfa_keep, lfm_keep, gts_keep, vPut_ne, vFill_ne, xw_ne]) hz202) (okZ_of (by simp [lfe_keep, lfp_keep, lfa_keep, lfm_keep, gts_keep, vPut_ne, vFill_ne, xw_ne]) hz203)) (cwV 1 C.2.2.2.2.1 gX8_errorsIn_X2_inspect rfl rfl rfl (by decide +kernel) ⟨Nat.le_of_ble_eq_true rfl, Nat.le_of_ble_eq_true rfl⟩) rfl rfl (Nat.le_of_ble_eq_true rfl) dX8_errorsIn_26 ⟨Nat.le_of_ble_eq_true rfl, Nat.le_of_ble_eq_true rfl⟩ (x_kV ?_)
    refine x_aload_n C dX8_errorsIn_29 rfl 0 rfl ?_
    refine x_getr C sh_0 rfl iX8 3 (by decide) f37 (fun _ h => h) (by decide) rfl dX8_errorsIn_30 ?_
    refine x_iload_n C dX8_errorsIn_33 rfl 1 rfl ?_
    refine x_callV C sh_82 (by decide) rfl [.int c1] (c_X2_sizeIn l V hV (insp σ (allI σ)) c1) (cwV 1 C.2.2.2.2.1 gX8_errorsIn_X2_sizeIn rfl rfl rfl (by decide +kernel) ⟨Nat.le_of_ble_eq_true rfl, Nat.le_of_ble_eq_true rfl⟩) rfl rfl (Nat.le_of_ble_eq_true rfl) dX8_errorsIn_34 ⟨Nat.le_of_ble_eq_true rfl, Nat.le_of_ble_eq_true rfl⟩ (x_kI ?_)
    exact x_iret C hr hlk dX8_errorsIn_37 ⟨rfl, rfl⟩
  · exact absurd hk0 (by simp [kEIn, h1])

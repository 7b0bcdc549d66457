/-! The law's small methods. -/
def belowI (v n : Int32) : Int32 := (v &&& 2147483647) - (v &&& 2147483647) / n * n
def cellI (L : Nat) (xs : Nat → Int32) (k : Int32) : Int32 := if nI L ≤ k then 790386105 * (k + 3) else xs k.toNatClampNeg
def onI (x : Int32) : Int32 := if belowI x 3 = 0 then (1 : Int32) <<< (belowI (x >>> ((2 : Int32) &&& 31)) 4 &&& 31) else 0
def offI (x : Int32) : Int32 := if belowI (x >>> ((4 : Int32) &&& 31)) 4 = 0 then (1 : Int32) <<< (belowI (x >>> ((6 : Int32) &&& 31)) 4 &&& 31) else 0
def condI (x : Int32) : Int32 := (16 : Int32) * onI x + (if onI x = offI x then 0 else offI x)
def prHas (p f : Int32) : Bool := decide ((p >>> (f &&& 31)) &&& 1 = 1)
def prBoth (p f g : Int32) : Bool := decide ((p >>> (f &&& 31)) &&& (p >>> (g &&& 31)) &&& 1 = 1)
def prBad (σ : xS) (p : Int32) (k : Nat) : Bool := if σ 88 (3 * k) = 0 then prHas p (σ 88 (3 * k + 1)) && !prBoth p (σ 88 (3 * k + 1)) (σ 88 (3 * k + 2)) else prBoth p (σ 88 (3 * k + 1)) (σ 88 (3 * k + 2))
def prN (σ : xS) (p : Int32) : Nat → Bool
  | 0 => true
  | k + 1 => prN σ p k && !prBad σ p k

set_option maxHeartbeats 4000000 in
set_option maxRecDepth 100000 in
theorem c_L_below (l : Launch) (V : xV) (hV : xInj V) (σ : xS) (v n : Int32) (hn : ¬ n = 0) : xM l yL_below wsL_below ({ frames := 0, cells := 0, slots := 0, locals := 0 }) V [.int v, .int n] σ (rI (belowI v n) σ) := by
  refine xM_of (cc := cL_below) (maxL := 2) (ret := (some .int)) [(0, .int v), (1, .int n)] hV (by decide) rfl rfl (Nat.le_of_ble_eq_true rfl) (fun p e s m args below meth c C hr hlk => ?_)
  refine x_iload_n C dL_below_0 rfl 0 rfl ?_
  refine x_ldc C (2147483647 : Int32) (C.2.2.2.2.1 _ (by decide +kernel)) dL_below_1 ?_
  refine x_iand C dL_below_3 ?_
  refine x_iload_n C dL_below_4 rfl 1 rfl ?_
  refine x_irem C hn dL_below_5 ?_
  exact x_iret C hr hlk dL_below_6 ⟨rfl, rfl⟩

set_option maxHeartbeats 4000000 in
set_option maxRecDepth 100000 in
theorem c_L_cell (l : Launch) (V : xV) (hV : xInj V) (σ : xS) (b L : Nat) (xs : Nat → Int32) (hbA : ¬ inR V b) (hL : L < 2 ^ 31) (k : Int32) (hk : ¬ k < 0) : xMS l yL_cell wsL_cell ({ frames := 0, cells := 0, slots := 0, locals := 0 }) V b L xs [.ref b, .int k] σ (rI (cellI L xs k) σ) := by
  refine xMS_of (cc := cL_cell) (maxL := 2) (ret := (some .int)) [(0, .ref b), (1, .int k)] hV (by decide) rfl rfl (Nat.le_of_ble_eq_true rfl) (fun p e s m args below meth c C hX hbl hr hlk => ?_)
  refine x_iload_n C dL_cell_0 rfl 1 rfl ?_
  refine x_arefn C dL_cell_1 rfl 0 rfl ?_
  refine x_slen C hX hbl hbA dL_cell_2 ?_
  refine x_icmp_ge C 12 dL_cell_3 rfl (fun h1 => ?_) (fun h1 => ?_)
  · refine x_ldc C (790386105 : Int32) (C.2.2.2.2.1 _ (by decide +kernel)) dL_cell_12 ?_
    refine x_iload_n C dL_cell_14 rfl 1 rfl ?_
    refine x_iconst C (3 : Int32) (by decide) dL_cell_15 ?_
    refine x_iadd C dL_cell_16 ?_
    refine x_imul C dL_cell_17 ?_
    exact x_iret C hr hlk dL_cell_18 ⟨by simp [cellI, h1], rfl⟩
  · refine x_arefn C dL_cell_6 rfl 0 rfl ?_
    refine x_iload_n C dL_cell_7 rfl 1 rfl ?_
    refine x_sld C hX hbl hbA (vp_in_of2 hL hk h1) dL_cell_8 ?_
    refine x_goto C 18 dL_cell_9 rfl ?_
    exact x_iret C hr hlk dL_cell_18 ⟨by simp [cellI, h1], rfl⟩

set_option maxHeartbeats 4000000 in
set_option maxRecDepth 100000 in
theorem c_L_condition (l : Launch) (V : xV) (hV : xInj V) (σ : xS) (x : Int32) : xM l yL_condition wsL_condition ({ frames := 1, cells := 0, slots := 0, locals := 21 }) V [.int x] σ (rI (condI x) σ) := by
  refine xM_of (cc := cL_condition) (maxL := 3) (ret := (some .int)) [(0, .int x)] hV (by decide) rfl rfl (Nat.le_of_ble_eq_true rfl) (fun p e s m args below meth c C hr hlk => ?_)
  refine x_iload_n C dL_condition_0 rfl 0 rfl ?_
  refine x_iconst C (3 : Int32) (by decide) dL_condition_1 ?_
  refine x_callS C [.int x, .int (3 : Int32)] (c_L_below l V hV σ x (3 : Int32) (by decide)) (va_cwS 2 C.2.2.2.2.1 gL_condition_L_below rfl rfl rfl (by decide +kernel) ⟨Nat.le_of_ble_eq_true rfl, Nat.le_of_ble_eq_true rfl⟩) rfl rfl (Nat.le_of_ble_eq_true rfl) dL_condition_2 ⟨Nat.le_of_ble_eq_true rfl, Nat.le_of_ble_eq_true rfl⟩ (x_kI ?_)
  refine x_if_ne C 20 dL_condition_5 rfl (fun h1 => ?_) (fun h1 => ?_)
  · refine x_iconst C (0 : Int32) (by decide) dL_condition_20 ?_
    refine x_istore_n C [(1, .int (0 : Int32)), (0, .int x)] dL_condition_21 rfl (by decide) rfl ?_
    refine x_iload_n C dL_condition_22 rfl 1 rfl ?_
    refine x_iconst C (4 : Int32) (by decide) dL_condition_23 ?_
    refine x_ishr C dL_condition_24 ?_
    refine x_iconst C (4 : Int32) (by decide) dL_condition_25 ?_
    refine x_callS C [.int (x >>> ((4 : Int32) &&& 31)), .int (4 : Int32)] (c_L_below l V hV σ (x >>> ((4 : Int32) &&& 31)) (4 : Int32) (by decide)) (va_cwS 2 C.2.2.2.2.1 gL_condition_L_below rfl rfl rfl (by decide +kernel) ⟨Nat.le_of_ble_eq_true rfl, Nat.le_of_ble_eq_true rfl⟩) rfl rfl (Nat.le_of_ble_eq_true rfl) dL_condition_26 ⟨Nat.le_of_ble_eq_true rfl, Nat.le_of_ble_eq_true rfl⟩ (x_kI ?_)
    refine x_if_ne C 45 dL_condition_29 rfl (fun h2 => ?_) (fun h2 => ?_)
    · refine x_iconst C (0 : Int32) (by decide) dL_condition_45 ?_
      refine x_istore_n C [(2, .int (0 : Int32)), (1, .int (0 : Int32)), (0, .int x)] dL_condition_46 rfl (by decide) rfl ?_
      refine x_bipush C (16 : Int32) (by decide) dL_condition_47 ?_
      refine x_iload_n C dL_condition_49 rfl 1 rfl ?_
      refine x_imul C dL_condition_50 ?_
      refine x_iload_n C dL_condition_51 rfl 1 rfl ?_
      refine x_iload_n C dL_condition_52 rfl 0 rfl ?_
      refine x_icmp_ne C 60 dL_condition_53 rfl (fun h3 => absurd h3 (by decide)) (fun h3 => ?_)
      refine x_iconst C (0 : Int32) (by decide) dL_condition_56 ?_
      refine x_goto C 61 dL_condition_57 rfl ?_
      refine x_iadd C dL_condition_61 ?_
      exact x_iret C hr hlk dL_condition_62 ⟨by simp [condI, onI, offI, h1, h2], rfl⟩
    · refine x_iconst C (1 : Int32) (by decide) dL_condition_32 ?_
      refine x_iload_n C dL_condition_33 rfl 1 rfl ?_
      refine x_bipush C (6 : Int32) (by decide) dL_condition_34 ?_
      refine x_ishr C dL_condition_36 ?_
      refine x_iconst C (4 : Int32) (by decide) dL_condition_37 ?_
      refine x_callS C [.int (x >>> ((6 : Int32) &&& 31)), .int (4 : Int32)] (c_L_below l V hV σ (x >>> ((6 : Int32) &&& 31)) (4 : Int32) (by decide)) (va_cwS 2 C.2.2.2.2.1 gL_condition_L_below rfl rfl rfl (by decide +kernel) ⟨Nat.le_of_ble_eq_true rfl, Nat.le_of_ble_eq_true rfl⟩) rfl rfl (Nat.le_of_ble_eq_true rfl) dL_condition_38 ⟨Nat.le_of_ble_eq_true rfl, Nat.le_of_ble_eq_true rfl⟩ (x_kI ?_)
      refine x_ishl C dL_condition_41 ?_
      refine x_goto C 46 dL_condition_42 rfl ?_
      refine x_istore_n C [(2, .int ((1 : Int32) <<< ((belowI (x >>> ((6 : Int32) &&& 31)) (4 : Int32)) &&& 31))), (1, .int (0 : Int32)), (0, .int x)] dL_condition_46 rfl (by decide) rfl ?_
      refine x_bipush C (16 : Int32) (by decide) dL_condition_47 ?_
      refine x_iload_n C dL_condition_49 rfl 1 rfl ?_
      refine x_imul C dL_condition_50 ?_
      refine x_iload_n C dL_condition_51 rfl 1 rfl ?_
      refine x_iload_n C dL_condition_52 rfl 0 rfl ?_
      refine x_icmp_ne C 60 dL_condition_53 rfl (fun h4 => ?_) (fun h4 => ?_)
      · refine x_iload_n C dL_condition_60 rfl 0 rfl ?_
        refine x_iadd C dL_condition_61 ?_
        exact x_iret C hr hlk dL_condition_62 ⟨by simp [condI, onI, offI, h1, eq_true h2, h4], rfl⟩
      · refine x_iconst C (0 : Int32) (by decide) dL_condition_56 ?_
        refine x_goto C 61 dL_condition_57 rfl ?_
        refine x_iadd C dL_condition_61 ?_
        exact x_iret C hr hlk dL_condition_62 ⟨by simp [condI, onI, offI, h1, eq_true h2, eq_true h4], rfl⟩
  · refine x_iconst C (1 : Int32) (by decide) dL_condition_8 ?_
    refine x_iload_n C dL_condition_9 rfl 0 rfl ?_
    refine x_iconst C (2 : Int32) (by decide) dL_condition_10 ?_
    refine x_ishr C dL_condition_11 ?_
    refine x_iconst C (4 : Int32) (by decide) dL_condition_12 ?_
    refine x_callS C [.int (x >>> ((2 : Int32) &&& 31)), .int (4 : Int32)] (c_L_below l V hV σ (x >>> ((2 : Int32) &&& 31)) (4 : Int32) (by decide)) (va_cwS 2 C.2.2.2.2.1 gL_condition_L_below rfl rfl rfl (by decide +kernel) ⟨Nat.le_of_ble_eq_true rfl, Nat.le_of_ble_eq_true rfl⟩) rfl rfl (Nat.le_of_ble_eq_true rfl) dL_condition_13 ⟨Nat.le_of_ble_eq_true rfl, Nat.le_of_ble_eq_true rfl⟩ (x_kI ?_)
    refine x_ishl C dL_condition_16 ?_
    refine x_goto C 21 dL_condition_17 rfl ?_
    refine x_istore_n C [(1, .int ((1 : Int32) <<< ((belowI (x >>> ((2 : Int32) &&& 31)) (4 : Int32)) &&& 31))), (0, .int x)] dL_condition_21 rfl (by decide) rfl ?_
    refine x_iload_n C dL_condition_22 rfl 1 rfl ?_
    refine x_iconst C (4 : Int32) (by decide) dL_condition_23 ?_
    refine x_ishr C dL_condition_24 ?_
    refine x_iconst C (4 : Int32) (by decide) dL_condition_25 ?_
    refine x_callS C [.int (x >>> ((4 : Int32) &&& 31)), .int (4 : Int32)] (c_L_below l V hV σ (x >>> ((4 : Int32) &&& 31)) (4 : Int32) (by decide)) (va_cwS 2 C.2.2.2.2.1 gL_condition_L_below rfl rfl rfl (by decide +kernel) ⟨Nat.le_of_ble_eq_true rfl, Nat.le_of_ble_eq_true rfl⟩) rfl rfl (Nat.le_of_ble_eq_true rfl) dL_condition_26 ⟨Nat.le_of_ble_eq_true rfl, Nat.le_of_ble_eq_true rfl⟩ (x_kI ?_)
    refine x_if_ne C 45 dL_condition_29 rfl (fun h5 => ?_) (fun h5 => ?_)
    · refine x_iconst C (0 : Int32) (by decide) dL_condition_45 ?_
      refine x_istore_n C [(2, .int (0 : Int32)), (1, .int ((1 : Int32) <<< ((belowI (x >>> ((2 : Int32) &&& 31)) (4 : Int32)) &&& 31))), (0, .int x)] dL_condition_46 rfl (by decide) rfl ?_
      refine x_bipush C (16 : Int32) (by decide) dL_condition_47 ?_
      refine x_iload_n C dL_condition_49 rfl 1 rfl ?_
      refine x_imul C dL_condition_50 ?_
      refine x_iload_n C dL_condition_51 rfl 1 rfl ?_
      refine x_iload_n C dL_condition_52 rfl 0 rfl ?_
      refine x_icmp_ne C 60 dL_condition_53 rfl (fun h6 => ?_) (fun h6 => ?_)
      · refine x_iload_n C dL_condition_60 rfl 0 rfl ?_
        refine x_iadd C dL_condition_61 ?_
        exact x_iret C hr hlk dL_condition_62 ⟨by simp [condI, onI, offI, eq_true h1, h5, h6], rfl⟩
      · refine x_iconst C (0 : Int32) (by decide) dL_condition_56 ?_
        refine x_goto C 61 dL_condition_57 rfl ?_
        refine x_iadd C dL_condition_61 ?_
        exact x_iret C hr hlk dL_condition_62 ⟨by simp [condI, onI, offI, eq_true h1, h5, eq_true h6], rfl⟩
    · refine x_iconst C (1 : Int32) (by decide) dL_condition_32 ?_
      refine x_iload_n C dL_condition_33 rfl 1 rfl ?_
      refine x_bipush C (6 : Int32) (by decide) dL_condition_34 ?_
      refine x_ishr C dL_condition_36 ?_
      refine x_iconst C (4 : Int32) (by decide) dL_condition_37 ?_
      refine x_callS C [.int (x >>> ((6 : Int32) &&& 31)), .int (4 : Int32)] (c_L_below l V hV σ (x >>> ((6 : Int32) &&& 31)) (4 : Int32) (by decide)) (va_cwS 2 C.2.2.2.2.1 gL_condition_L_below rfl rfl rfl (by decide +kernel) ⟨Nat.le_of_ble_eq_true rfl, Nat.le_of_ble_eq_true rfl⟩) rfl rfl (Nat.le_of_ble_eq_true rfl) dL_condition_38 ⟨Nat.le_of_ble_eq_true rfl, Nat.le_of_ble_eq_true rfl⟩ (x_kI ?_)
      refine x_ishl C dL_condition_41 ?_
      refine x_goto C 46 dL_condition_42 rfl ?_
      refine x_istore_n C [(2, .int ((1 : Int32) <<< ((belowI (x >>> ((6 : Int32) &&& 31)) (4 : Int32)) &&& 31))), (1, .int ((1 : Int32) <<< ((belowI (x >>> ((2 : Int32) &&& 31)) (4 : Int32)) &&& 31))), (0, .int x)] dL_condition_46 rfl (by decide) rfl ?_
      refine x_bipush C (16 : Int32) (by decide) dL_condition_47 ?_
      refine x_iload_n C dL_condition_49 rfl 1 rfl ?_
      refine x_imul C dL_condition_50 ?_
      refine x_iload_n C dL_condition_51 rfl 1 rfl ?_
      refine x_iload_n C dL_condition_52 rfl 0 rfl ?_
      refine x_icmp_ne C 60 dL_condition_53 rfl (fun h7 => ?_) (fun h7 => ?_)
      · refine x_iload_n C dL_condition_60 rfl 0 rfl ?_
        refine x_iadd C dL_condition_61 ?_
        exact x_iret C hr hlk dL_condition_62 ⟨by simp [condI, onI, offI, eq_true h1, eq_true h5, h7], rfl⟩
      · refine x_iconst C (0 : Int32) (by decide) dL_condition_56 ?_
        refine x_goto C 61 dL_condition_57 rfl ?_
        refine x_iadd C dL_condition_61 ?_
        exact x_iret C hr hlk dL_condition_62 ⟨by simp [condI, onI, offI, eq_true h1, eq_true h5, eq_true h7], rfl⟩

set_option maxHeartbeats 4000000 in
set_option maxRecDepth 100000 in
theorem c_L_isTrue (l : Launch) (V : xV) (hV : xInj V) (σ : xS) (x c1 : Int32) : xM l yL_isTrue wsL_isTrue ({ frames := 0, cells := 0, slots := 0, locals := 0 }) V [.int x, .int c1] σ (rI (bI (isTrB x c1)) σ) := by
  refine xM_of (cc := cL_isTrue) (maxL := 2) (ret := (some .boolean)) [(0, .int x), (1, .int c1)] hV (by decide) rfl rfl (Nat.le_of_ble_eq_true rfl) (fun p e s m args below meth c C hr hlk => ?_)
  refine x_iload_n C dL_isTrue_0 rfl 0 rfl ?_
  refine x_bipush C (16 : Int32) (by decide) dL_isTrue_1 ?_
  refine x_idiv C (by decide) dL_isTrue_3 ?_
  refine x_iload_n C dL_isTrue_4 rfl 1 rfl ?_
  refine x_iconst C (-1 : Int32) (by decide) dL_isTrue_5 ?_
  refine x_ixor C dL_isTrue_6 ?_
  refine x_iand C dL_isTrue_7 ?_
  refine x_if_ne C 24 dL_isTrue_8 rfl (fun h1 => ?_) (fun h1 => ?_)
  · refine x_iconst C (0 : Int32) (by decide) dL_isTrue_24 ?_
    exact x_zret C false rfl hr hlk dL_isTrue_25 ⟨by simp only [isTrB, h1, decide_true, decide_false, Bool.true_and, Bool.false_and, Bool.and_false, Bool.and_true, Bool.and_self], rfl⟩
  · refine x_iload_n C dL_isTrue_11 rfl 0 rfl ?_
    refine x_bipush C (16 : Int32) (by decide) dL_isTrue_12 ?_
    refine x_irem C (by decide) dL_isTrue_14 ?_
    refine x_iload_n C dL_isTrue_15 rfl 1 rfl ?_
    refine x_iand C dL_isTrue_16 ?_
    refine x_if_ne C 24 dL_isTrue_17 rfl (fun h2 => ?_) (fun h2 => ?_)
    · refine x_iconst C (0 : Int32) (by decide) dL_isTrue_24 ?_
      exact x_zret C false rfl hr hlk dL_isTrue_25 ⟨by simp only [isTrB, eq_true h1, h2, decide_true, decide_false, Bool.true_and, Bool.false_and, Bool.and_false, Bool.and_true, Bool.and_self], rfl⟩
    · refine x_iconst C (1 : Int32) (by decide) dL_isTrue_20 ?_
      refine x_goto C 25 dL_isTrue_21 rfl ?_
      exact x_zret C true rfl hr hlk dL_isTrue_25 ⟨by simp only [isTrB, eq_true h1, eq_true h2, decide_true, decide_false, Bool.true_and, Bool.false_and, Bool.and_false, Bool.and_true, Bool.and_self], rfl⟩

set_option maxHeartbeats 4000000 in
set_option maxRecDepth 100000 in
theorem c_L_isProduct (l : Launch) (V : xV) (hV : xInj V) (σ : xS) (c1 : Int32) (n : Nat) (hc0 : σ 87 0 = nI n) (hn4 : n ≤ 4) : xM l yL_isProduct wsL_isProduct ({ frames := 0, cells := 0, slots := 0, locals := 0 }) V [.int c1, ra V 87, ra V 88] σ (rI (bI (prN σ c1 n)) σ) := by
  refine xM_of (cc := cL_isProduct) (maxL := 7) (ret := (some .boolean)) [(0, .int c1), (1, ra V 87), (2, ra V 88)] hV (by decide) rfl rfl (Nat.le_of_ble_eq_true rfl) (fun p e s m args below meth c C hr hlk => ?_)
  refine x_iconst C (1 : Int32) (by decide) dL_isProduct_0 ?_
  refine x_istore_n C [(3, .int (1 : Int32)), (0, .int c1), (1, ra V 87), (2, ra V 88)] dL_isProduct_1 rfl (by decide) rfl ?_
  refine x_iconst C (0 : Int32) (by decide) dL_isProduct_2 ?_
  refine x_istore C [(4, .int (0 : Int32)), (3, .int (1 : Int32)), (0, .int c1), (1, ra V 87), (2, ra V 88)] dL_isProduct_3 (by decide) rfl ?_
  refine x_lv [2, 3, 4, 1, 0] [(0, .int c1), (1, ra V 87), (2, ra V 88), (3, .int (1 : Int32)), (4, .int (0 : Int32))] rfl ?_
  refine x_loop (fun μ σ_ lv_ => ∃ (k : Nat), μ = n - k ∧ σ = σ_ ∧ lv_ = [(0, .int c1), (1, ra V 87), (2, ra V 88), (3, .int (bI (prN σ c1 k))), (4, .int (nI k))] ∧ k ≤ n) ⟨_, ⟨0, rfl, rfl, rfl, Nat.zero_le _⟩⟩ ?_
  rintro μ5 _ _ ⟨k, hμ5, rfl, rfl, hc5_0⟩ ih5
  refine x_iload C dL_isProduct_5 4 rfl ?_
  refine x_aload_n C dL_isProduct_7 rfl 1 rfl ?_
  refine x_iconst C (0 : Int32) (by decide) dL_isProduct_8 ?_
  refine x_iald C sh_87 (vp_in_nI (n := 0) (by omega) (by decide)) dL_isProduct_9 ?_
  rw [show (0 : Int32).toNatClampNeg = 0 from nI_clamp (n := 0) (by omega)]
  refine x_v (y := nI n) (hc0) ?_
  refine x_icmp_ge C 113 dL_isProduct_10 rfl (fun h1 => ?_) (fun h1 => ?_)
  · refine x_iload_n C dL_isProduct_113 rfl 3 rfl ?_
    exact x_zret C (prN σ c1 k) rfl hr hlk dL_isProduct_114 ⟨by rw [show k = n from Nat.le_antisymm hc5_0 (Nat.le_of_not_lt (fun hq => nI_ge hq (by omega) h1))], rfl⟩
  · have hkn : k < n := Nat.lt_of_not_le (fun hq => h1 (nI_le hq (by omega)))
    refine x_iload_n C dL_isProduct_13 rfl 0 rfl ?_
    refine x_aload_n C dL_isProduct_14 rfl 2 rfl ?_
    refine x_iconst C (3 : Int32) (by decide) dL_isProduct_15 ?_
    refine x_iload C dL_isProduct_16 4 rfl ?_
    refine x_imul C dL_isProduct_18 ?_
    refine x_v (y := nI (3 * k)) (pk_mul 3 k) ?_
    refine x_iconst C (1 : Int32) (by decide) dL_isProduct_19 ?_
    refine x_iadd C dL_isProduct_20 ?_
    refine x_v (y := nI ((3 * k) + 1)) (nI_add (3 * k) 1) ?_
    refine x_iald C sh_88 (vp_in_nI (n := (3 * k) + 1) (by omega) (by decide)) dL_isProduct_21 ?_
    rw [show (nI ((3 * k) + 1)).toNatClampNeg = (3 * k) + 1 from nI_clamp (n := (3 * k) + 1) (by omega)]
    refine x_ishr C dL_isProduct_22 ?_
    refine x_iload_n C dL_isProduct_23 rfl 0 rfl ?_
    refine x_aload_n C dL_isProduct_24 rfl 2 rfl ?_
    refine x_iconst C (3 : Int32) (by decide) dL_isProduct_25 ?_
    refine x_iload C dL_isProduct_26 4 rfl ?_
    refine x_imul C dL_isProduct_28 ?_
    refine x_v (y := nI (3 * k)) (pk_mul 3 k) ?_
    refine x_iconst C (2 : Int32) (by decide) dL_isProduct_29 ?_
    refine x_iadd C dL_isProduct_30 ?_
    refine x_v (y := nI ((3 * k) + 2)) (nI_add (3 * k) 2) ?_
    refine x_iald C sh_88 (vp_in_nI (n := (3 * k) + 2) (by omega) (by decide)) dL_isProduct_31 ?_
    rw [show (nI ((3 * k) + 2)).toNatClampNeg = (3 * k) + 2 from nI_clamp (n := (3 * k) + 2) (by omega)]
    refine x_ishr C dL_isProduct_32 ?_
    refine x_iand C dL_isProduct_33 ?_
    refine x_iconst C (1 : Int32) (by decide) dL_isProduct_34 ?_
    refine x_iand C dL_isProduct_35 ?_
    refine x_iconst C (1 : Int32) (by decide) dL_isProduct_36 ?_
    refine x_jP (P := fun y => y = bI (prBoth c1 (σ 88 (3 * k + 1)) (σ 88 (3 * k + 2)))) 45 (fun y => [(0, .int c1), (1, ra V 87), (2, ra V 88), (3, .int (bI (prN σ c1 k))), (4, .int (nI k))]) (fun y => [.int y]) (fun b1 hb1 => ?_) (fun hJ45 => ?_)
    · subst hb1
      refine x_istore C [(5, .int (bI (prBoth c1 (σ 88 (3 * k + 1)) (σ 88 (3 * k + 2))))), (0, .int c1), (1, ra V 87), (2, ra V 88), (3, .int (bI (prN σ c1 k))), (4, .int (nI k))] dL_isProduct_45 (by decide) rfl ?_
      refine x_iload_n C dL_isProduct_47 rfl 1 rfl ?_
      refine x_aload_n C dL_isProduct_48 rfl 3 rfl ?_
      refine x_iconst C (3 : Int32) (by decide) dL_isProduct_49 ?_
      refine x_iload C dL_isProduct_50 5 rfl ?_
      refine x_imul C dL_isProduct_52 ?_
      refine x_v (y := nI (3 * k)) (pk_mul 3 k) ?_
      refine x_iconst C (1 : Int32) (by decide) dL_isProduct_53 ?_
      refine x_iadd C dL_isProduct_54 ?_
      refine x_v (y := nI ((3 * k) + 1)) (nI_add (3 * k) 1) ?_
      refine x_iald C sh_88 (vp_in_nI (n := (3 * k) + 1) (by omega) (by decide)) dL_isProduct_55 ?_
      rw [show (nI ((3 * k) + 1)).toNatClampNeg = (3 * k) + 1 from nI_clamp (n := (3 * k) + 1) (by omega)]
      refine x_ishr C dL_isProduct_56 ?_
      refine x_iconst C (1 : Int32) (by decide) dL_isProduct_57 ?_
      refine x_iand C dL_isProduct_58 ?_
      refine x_iconst C (1 : Int32) (by decide) dL_isProduct_59 ?_
      refine x_jP (P := fun y => y = bI (prHas c1 (σ 88 (3 * k + 1)))) 68 (fun y => [(5, .int (bI (prBoth c1 (σ 88 (3 * k + 1)) (σ 88 (3 * k + 2))))), (0, .int c1), (1, ra V 87), (2, ra V 88), (3, .int (bI (prN σ c1 k))), (4, .int (nI k))]) (fun y => [.int y]) (fun b2 hb2 => ?_) (fun hJ68 => ?_)
      · subst hb2
        refine x_istore C [(6, .int (bI (prHas c1 (σ 88 (3 * k + 1))))), (5, .int (bI (prBoth c1 (σ 88 (3 * k + 1)) (σ 88 (3 * k + 2))))), (0, .int c1), (1, ra V 87), (2, ra V 88), (3, .int (bI (prN σ c1 k))), (4, .int (nI k))] dL_isProduct_68 (by decide) rfl ?_
        refine x_iload_n C dL_isProduct_70 rfl 5 rfl ?_
        refine x_jP (P := fun y => y = bI (prN σ c1 k && !prBad σ c1 k)) 106 (fun y => [(6, .int (bI (prHas c1 (σ 88 (3 * k + 1))))), (5, .int (bI (prBoth c1 (σ 88 (3 * k + 1)) (σ 88 (3 * k + 2))))), (0, .int c1), (1, ra V 87), (2, ra V 88), (3, .int (bI (prN σ c1 k))), (4, .int (nI k))]) (fun y => [.int y]) (fun y hy => ?_) (fun hJ106 => ?_)
        · refine x_istore_n C [(3, .int y), (6, .int (bI (prHas c1 (σ 88 (3 * k + 1))))), (5, .int (bI (prBoth c1 (σ 88 (3 * k + 1)) (σ 88 (3 * k + 2))))), (0, .int c1), (1, ra V 87), (2, ra V 88), (4, .int (nI k))] dL_isProduct_106 rfl (by decide) rfl ?_
          refine x_iinc C (q := 6) ((nI k) + (1 : Int32)) [(4, .int ((nI k) + (1 : Int32))), (3, .int y), (6, .int (bI (prHas c1 (σ 88 (3 * k + 1))))), (5, .int (bI (prBoth c1 (σ 88 (3 * k + 1)) (σ 88 (3 * k + 2))))), (0, .int c1), (1, ra V 87), (2, ra V 88)] dL_isProduct_107 rfl rfl (by decide) rfl ?_
          refine x_goto C 5 dL_isProduct_110 rfl ?_
          refine x_lv [4, 5, 6, 1, 0] [(0, .int c1), (1, ra V 87), (2, ra V 88), (3, .int y), (4, .int ((nI k) + (1 : Int32)))] rfl ?_
          exact ih5 _ _ _ (by omega) ⟨k + 1, rfl, rfl, by rw [nI_succ, prN, hy], (by omega)⟩
        · refine x_bif_eq C 105 dL_isProduct_71 rfl (fun h2 => ?_) (fun h2 => ?_)
          · refine x_iconst C (0 : Int32) (by decide) dL_isProduct_105 ?_
            exact hJ106 _ (by simp [prBad, bI_t, bI_f, h1, h2])
          · refine x_aload_n C dL_isProduct_74 rfl 4 rfl ?_
            refine x_iconst C (3 : Int32) (by decide) dL_isProduct_75 ?_
            refine x_iload C dL_isProduct_76 6 rfl ?_
            refine x_imul C dL_isProduct_78 ?_
            refine x_v (y := nI (3 * k)) (pk_mul 3 k) ?_
            refine x_iald C sh_88 (vp_in_nI (n := 3 * k) (by omega) (by decide)) dL_isProduct_79 ?_
            rw [show (nI (3 * k)).toNatClampNeg = 3 * k from nI_clamp (n := 3 * k) (by omega)]
            refine x_if_ne C 96 dL_isProduct_80 rfl (fun h3 => ?_) (fun h3 => ?_)
            · refine x_iload C dL_isProduct_96 1 rfl ?_
              refine x_bif_ne C 105 dL_isProduct_98 rfl (fun h4 => ?_) (fun h4 => ?_)
              · refine x_iconst C (0 : Int32) (by decide) dL_isProduct_105 ?_
                exact hJ106 _ (by simp [prBad, bI_t, bI_f, h1, h2, h3, h4])
              · refine x_iconst C (1 : Int32) (by decide) dL_isProduct_101 ?_
                refine x_goto C 106 dL_isProduct_102 rfl ?_
                exact hJ106 _ (by simp [prBad, bI_t, bI_f, h1, h2, h3, h4])
            · refine x_iload C dL_isProduct_83 0 rfl ?_
              refine x_bif_eq C 101 dL_isProduct_85 rfl (fun h5 => ?_) (fun h5 => ?_)
              · refine x_iconst C (1 : Int32) (by decide) dL_isProduct_101 ?_
                refine x_goto C 106 dL_isProduct_102 rfl ?_
                exact hJ106 _ (by simp [prBad, bI_t, bI_f, h1, h2, eq_true h3, h5])
              · refine x_iload C dL_isProduct_88 1 rfl ?_
                refine x_bif_ne C 101 dL_isProduct_90 rfl (fun h6 => ?_) (fun h6 => ?_)
                · refine x_iconst C (1 : Int32) (by decide) dL_isProduct_101 ?_
                  refine x_goto C 106 dL_isProduct_102 rfl ?_
                  exact hJ106 _ (by simp [prBad, bI_t, bI_f, h1, h2, eq_true h3, h5, h6])
                · refine x_goto C 105 dL_isProduct_93 rfl ?_
                  refine x_iconst C (0 : Int32) (by decide) dL_isProduct_105 ?_
                  exact hJ106 _ (by simp [prBad, bI_t, bI_f, h1, h2, eq_true h3, h5, h6])
      · refine x_icmp_ne C 67 dL_isProduct_60 rfl (fun h7 => ?_) (fun h7 => ?_)
        · refine x_iconst C (0 : Int32) (by decide) dL_isProduct_67 ?_
          exact hJ68 _ (by simp [prHas, bI_t, bI_f, h1, h7])
        · refine x_iconst C (1 : Int32) (by decide) dL_isProduct_63 ?_
          refine x_goto C 68 dL_isProduct_64 rfl ?_
          exact hJ68 _ (by simp [prHas, bI_t, bI_f, h1, eq_true h7])
    · refine x_icmp_ne C 44 dL_isProduct_37 rfl (fun h8 => ?_) (fun h8 => ?_)
      · refine x_iconst C (0 : Int32) (by decide) dL_isProduct_44 ?_
        exact hJ45 _ (by simp [prBoth, bI_t, bI_f, h1, h8])
      · refine x_iconst C (1 : Int32) (by decide) dL_isProduct_40 ?_
        refine x_goto C 45 dL_isProduct_41 rfl ?_
        exact hJ45 _ (by simp [prBoth, bI_t, bI_f, h1, eq_true h8])

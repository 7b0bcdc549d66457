/-! Parents, members, types. -/
theorem firstN_s {P : Nat → Bool} {v : Nat → Int32} {N k : Nat} (h : k < N) : firstN P v (N - k) k = if P k = true then v k else firstN P v (N - (k + 1)) (k + 1) := by
  rw [show N - k = (N - (k + 1)) + 1 by omega, firstN]
theorem firstN_z {P : Nat → Bool} {v : Nat → Int32} {N k : Nat} (h : N ≤ k) : firstN P v (N - k) k = -1 := by
  rw [show N - k = 0 by omega, firstN]

set_option maxHeartbeats 4000000 in
set_option maxRecDepth 100000 in
theorem c_X9_parentOf (l : Launch) (V : xV) (hV : xInj V) (σ : xS) (o c1 : Int32) (hM : mV σ) : xM l yX9_parentOf wsX9_parentOf ({ frames := 3, cells := 0, slots := 0, locals := 70 }) V [ra V 87, .int o, .int c1] σ (rI (mPa σ o c1) σ) := by
  refine xM_of (cc := cX9_parentOf) (maxL := 4) (ret := (some .int)) [(0, ra V 87), (1, .int o), (2, .int c1)] hV (by decide) rfl rfl (Nat.le_of_ble_eq_true rfl) (fun p e s m args below meth c C hr hlk => ?_)
  have iX9 : ∀ w ∈ u_ws RX9 TX9 24, w ∈ wsX9_parentOf := by decide +kernel
  have f19 : (Cond.fieldLink RX9 19 RX9 (TX9 5).2.1 (TX9 5).2.2.1).before args s = true := C.2.2.2.2.1 _ (by decide +kernel)
  have f28 : (Cond.fieldLink RX9 28 RX9 (TX9 8).2.1 (TX9 8).2.2.1).before args s = true := C.2.2.2.2.1 _ (by decide +kernel)
  have f31 : (Cond.fieldLink RX9 31 RX9 (TX9 9).2.1 (TX9 9).2.2.1).before args s = true := C.2.2.2.2.1 _ (by decide +kernel)
  refine x_iconst C (0 : Int32) (by decide) dX9_parentOf_0 ?_
  refine x_istore_n C [(3, .int (0 : Int32)), (0, ra V 87), (1, .int o), (2, .int c1)] dX9_parentOf_1 rfl (by decide) rfl ?_
  refine x_lv [1, 2, 3, 0] [(0, ra V 87), (1, .int o), (2, .int c1), (3, .int (0 : Int32))] rfl ?_
  refine x_loop (fun μ σ_ lv_ => ∃ (k : Nat), μ = (σ 91 1).toNatClampNeg - k ∧ σ = σ_ ∧ lv_ = [(0, ra V 87), (1, .int o), (2, .int c1), (3, .int (nI k))] ∧ k ≤ (σ 91 1).toNatClampNeg ∧ firstN (mPaP σ o c1) (fun k => σ 95 k) ((σ 91 1).toNatClampNeg - k) k = mPa σ o c1) ⟨_, ⟨0, rfl, rfl, rfl, Nat.zero_le _, rfl⟩⟩ ?_
  rintro μ2 _ _ ⟨k, hμ2, rfl, rfl, hc2_0, hc2_1⟩ ih2
  refine x_iload_n C dX9_parentOf_2 rfl 3 rfl ?_
  refine x_aload_n C dX9_parentOf_3 rfl 0 rfl ?_
  refine x_getr C sh_87 rfl iX9 5 (by decide) f19 (fun _ h => h) (by decide) rfl dX9_parentOf_4 ?_
  refine x_iconst C (1 : Int32) (by decide) dX9_parentOf_7 ?_
  refine x_iald C sh_91 (vp_le (vp_lit 1 (by decide)) (by decide)) dX9_parentOf_8 ?_
  refine x_icmp_ge C 45 dX9_parentOf_9 rfl (fun h1 => ?_) (fun h1 => ?_)
  · refine x_iconst C (-1 : Int32) (by decide) dX9_parentOf_45 ?_
    exact x_iret C hr hlk dX9_parentOf_46 ⟨by rw [← hc2_1, firstN_z (show (σ 91 1).toNatClampNeg ≤ k from (le_nI (by have := clamp_lt (σ 91 1); omega)).mp h1)], rfl⟩
  · have hb := (mvc1 hM).2
    have hkn : k < (σ 91 1).toNatClampNeg := Nat.lt_of_not_le (fun hq => h1 ((le_nI (by have := clamp_lt (σ 91 1); omega)).mpr hq))
    have hcl : (nI k).toNatClampNeg = k := nI_clamp (by omega)
    refine x_aload_n C dX9_parentOf_12 rfl 0 rfl ?_
    refine x_getr C sh_87 rfl iX9 8 (by decide) f28 (fun _ h => h) (by decide) rfl dX9_parentOf_13 ?_
    refine x_iload_n C dX9_parentOf_16 rfl 3 rfl ?_
    refine x_iald C sh_94 (vp_in_nI (n := k) (N := 12) (by omega) (by decide)) dX9_parentOf_17 ?_
    rw [hcl]
    refine x_iload_n C dX9_parentOf_18 rfl 1 rfl ?_
    refine x_icmp_ne C 39 dX9_parentOf_19 rfl (fun h2 => ?_) (fun h2 => ?_)
    · refine x_iinc C (q := 3) ((nI k) + (1 : Int32)) [(3, .int ((nI k) + (1 : Int32))), (0, ra V 87), (1, .int o), (2, .int c1)] dX9_parentOf_39 rfl rfl (by decide) rfl ?_
      refine x_goto C 2 dX9_parentOf_42 rfl ?_
      refine x_lv [1, 2, 3, 0] [(0, ra V 87), (1, .int o), (2, .int c1), (3, .int ((nI k) + (1 : Int32)))] rfl ?_
      exact ih2 _ _ _ (by omega) ⟨k + 1, rfl, rfl, by rw [nI_succ], hkn, (by rw [← hc2_1, firstN_s hkn, if_neg (by simp [mPaP, h2])])⟩
    · refine x_aload_n C dX9_parentOf_22 rfl 0 rfl ?_
      refine x_iconst C (1 : Int32) (by decide) dX9_parentOf_23 ?_
      refine x_iload_n C dX9_parentOf_24 rfl 3 rfl ?_
      refine x_iload_n C dX9_parentOf_25 rfl 2 rfl ?_
      refine x_callV C sh_87 (by decide) rfl [.int (1 : Int32), .int (nI k), .int c1] (c_X9_is_1 l V hV σ (nI k) c1 hM (vp_in_nI (n := k) (N := 12) (by omega) (by decide))) (cwV 3 C.2.2.2.2.1 gX9_parentOf_X9_is rfl rfl rfl (by decide +kernel) ⟨Nat.le_of_ble_eq_true rfl, Nat.le_of_ble_eq_true rfl⟩) rfl rfl (Nat.le_of_ble_eq_true rfl) dX9_parentOf_26 ⟨Nat.le_of_ble_eq_true rfl, Nat.le_of_ble_eq_true rfl⟩ (x_kI ?_)
      refine x_bif_eq C 39 dX9_parentOf_29 rfl (fun h3 => ?_) (fun h3 => ?_)
      · refine x_iinc C (q := 3) ((nI k) + (1 : Int32)) [(3, .int ((nI k) + (1 : Int32))), (0, ra V 87), (1, .int o), (2, .int c1)] dX9_parentOf_39 rfl rfl (by decide) rfl ?_
        refine x_goto C 2 dX9_parentOf_42 rfl ?_
        refine x_lv [1, 2, 3, 0] [(0, ra V 87), (1, .int o), (2, .int c1), (3, .int ((nI k) + (1 : Int32)))] rfl ?_
        exact ih2 _ _ _ (by omega) ⟨k + 1, rfl, rfl, by rw [nI_succ], hkn, (by rw [← hc2_1, firstN_s hkn, if_neg (by simp [mPaP, eq_true h2, h3])])⟩
      · refine x_aload_n C dX9_parentOf_32 rfl 0 rfl ?_
        refine x_getr C sh_87 rfl iX9 9 (by decide) f31 (fun _ h => h) (by decide) rfl dX9_parentOf_33 ?_
        refine x_iload_n C dX9_parentOf_36 rfl 3 rfl ?_
        refine x_iald C sh_95 (vp_in_nI (n := k) (N := 12) (by omega) (by decide)) dX9_parentOf_37 ?_
        rw [hcl]
        exact x_iret C hr hlk dX9_parentOf_38 ⟨by rw [← hc2_1, firstN_s hkn, if_pos (by simp [mPaP, eq_true h2, h3])], rfl⟩

set_option maxHeartbeats 4000000 in
set_option maxRecDepth 100000 in
theorem c_X9_below (l : Launch) (V : xV) (hV : xInj V) (σ : xS) (a b c1 : Int32) (hM : mV σ) : xM l yX9_below wsX9_below ({ frames := 4, cells := 0, slots := 0, locals := 93 }) V [ra V 87, .int a, .int b, .int c1] σ (rI (bI (mBe σ a b c1)) σ) := by
  refine xM_of (cc := cX9_below) (maxL := 6) (ret := (some .boolean)) [(0, ra V 87), (1, .int a), (2, .int b), (3, .int c1)] hV (by decide) rfl rfl (Nat.le_of_ble_eq_true rfl) (fun p e s m args below meth c C hr hlk => ?_)
  refine x_aload_n C dX9_below_0 rfl 0 rfl ?_
  refine x_iload_n C dX9_below_1 rfl 1 rfl ?_
  refine x_iload_n C dX9_below_2 rfl 3 rfl ?_
  refine x_callV C sh_87 (by decide) rfl [.int a, .int c1] (c_X9_parentOf l V hV σ a c1 hM) (cwV 2 C.2.2.2.2.1 gX9_below_X9_parentOf rfl rfl rfl (by decide +kernel) ⟨Nat.le_of_ble_eq_true rfl, Nat.le_of_ble_eq_true rfl⟩) rfl rfl (Nat.le_of_ble_eq_true rfl) dX9_below_3 ⟨Nat.le_of_ble_eq_true rfl, Nat.le_of_ble_eq_true rfl⟩ (x_kI ?_)
  refine x_istore C [(4, .int (mPa σ a c1)), (0, ra V 87), (1, .int a), (2, .int b), (3, .int c1)] dX9_below_6 (by decide) rfl ?_
  refine x_iconst C (0 : Int32) (by decide) dX9_below_8 ?_
  refine x_istore C [(5, .int (0 : Int32)), (4, .int (mPa σ a c1)), (0, ra V 87), (1, .int a), (2, .int b), (3, .int c1)] dX9_below_9 (by decide) rfl ?_
  refine x_lv [2, 3, 4, 5, 1, 0] [(0, ra V 87), (1, .int a), (2, .int b), (3, .int c1), (4, .int (mPa σ a c1)), (5, .int (0 : Int32))] rfl ?_
  refine x_loop (fun μ σ_ lv_ => ∃ (j : Nat) (a2 : Int32), μ = 8 - j ∧ σ = σ_ ∧ lv_ = [(0, ra V 87), (1, .int a), (2, .int b), (3, .int c1), (4, .int a2), (5, .int (nI j))] ∧ j ≤ 8 ∧ mBeN σ b c1 (8 - j) a2 = mBe σ a b c1) ⟨_, ⟨0, _, rfl, rfl, rfl, Nat.zero_le _, rfl⟩⟩ ?_
  rintro μ11 _ _ ⟨j, a2, hμ11, rfl, rfl, hc11_0, hc11_1⟩ ih11
  refine x_iload C dX9_below_11 5 rfl ?_
  refine x_bipush C (8 : Int32) (by decide) dX9_below_13 ?_
  refine x_icmp_ge C 47 dX9_below_15 rfl (fun h1 => ?_) (fun h1 => ?_)
  · refine x_iconst C (0 : Int32) (by decide) dX9_below_47 ?_
    exact x_zret C false rfl hr hlk dX9_below_48 ⟨by rw [← hc11_1, show 8 - j = 0 by have := (nI_leI (a := 8) (b := j) (by decide) (by omega)).mp h1; omega]; rfl, rfl⟩
  · have hjn : j < 8 := Nat.lt_of_not_le (fun hq => h1 (nI_le hq (by omega)))
    refine x_iload C dX9_below_18 4 rfl ?_
    refine x_iconst C (-1 : Int32) (by decide) dX9_below_20 ?_
    refine x_icmp_eq C 47 dX9_below_21 rfl (fun h2 => ?_) (fun h2 => ?_)
    · refine x_iconst C (0 : Int32) (by decide) dX9_below_47 ?_
      exact x_zret C false rfl hr hlk dX9_below_48 ⟨by rw [← hc11_1, show 8 - j = (8 - (j + 1)) + 1 by omega, mBeN, if_pos h2], rfl⟩
    · refine x_iload C dX9_below_24 4 rfl ?_
      refine x_iload_n C dX9_below_26 rfl 2 rfl ?_
      refine x_icmp_ne C 32 dX9_below_27 rfl (fun h3 => ?_) (fun h3 => ?_)
      · refine x_aload_n C dX9_below_32 rfl 0 rfl ?_
        refine x_iload C dX9_below_33 4 rfl ?_
        refine x_iload_n C dX9_below_35 rfl 3 rfl ?_
        refine x_callV C sh_87 (by decide) rfl [.int a2, .int c1] (c_X9_parentOf l V hV σ a2 c1 hM) (cwV 2 C.2.2.2.2.1 gX9_below_X9_parentOf rfl rfl rfl (by decide +kernel) ⟨Nat.le_of_ble_eq_true rfl, Nat.le_of_ble_eq_true rfl⟩) rfl rfl (Nat.le_of_ble_eq_true rfl) dX9_below_36 ⟨Nat.le_of_ble_eq_true rfl, Nat.le_of_ble_eq_true rfl⟩ (x_kI ?_)
        refine x_istore C [(4, .int (mPa σ a2 c1)), (0, ra V 87), (1, .int a), (2, .int b), (3, .int c1), (5, .int (nI j))] dX9_below_39 (by decide) rfl ?_
        refine x_iinc C (q := 5) ((nI j) + (1 : Int32)) [(5, .int ((nI j) + (1 : Int32))), (4, .int (mPa σ a2 c1)), (0, ra V 87), (1, .int a), (2, .int b), (3, .int c1)] dX9_below_41 rfl rfl (by decide) rfl ?_
        refine x_goto C 11 dX9_below_44 rfl ?_
        refine x_lv [2, 3, 4, 5, 1, 0] [(0, ra V 87), (1, .int a), (2, .int b), (3, .int c1), (4, .int (mPa σ a2 c1)), (5, .int ((nI j) + (1 : Int32)))] rfl ?_
        exact ih11 _ _ _ (by omega) ⟨j + 1, _, rfl, rfl, by rw [nI_succ], (by omega), (by rw [← hc11_1, show 8 - j = (8 - (j + 1)) + 1 by omega, mBeN, if_neg h2, if_neg h3])⟩
      · refine x_iconst C (1 : Int32) (by decide) dX9_below_30 ?_
        exact x_zret C true rfl hr hlk dX9_below_31 ⟨by rw [← hc11_1, show 8 - j = (8 - (j + 1)) + 1 by omega, mBeN, if_neg h2, if_pos h3], rfl⟩

set_option maxHeartbeats 4000000 in
set_option maxRecDepth 100000 in
theorem c_X9_fits (l : Launch) (V : xV) (hV : xInj V) (σ : xS) (t o c1 : Int32) (hM : mV σ) : xM l yX9_fits wsX9_fits ({ frames := 5, cells := 0, slots := 0, locals := 118 }) V [ra V 87, .int t, .int o, .int c1] σ (rI (bI (mFit σ t o c1)) σ) := by
  refine xM_of (cc := cX9_fits) (maxL := 4) (ret := (some .boolean)) [(0, ra V 87), (1, .int t), (2, .int o), (3, .int c1)] hV (by decide) rfl rfl (Nat.le_of_ble_eq_true rfl) (fun p e s m args below meth c C hr hlk => ?_)
  refine x_iload_n C dX9_fits_0 rfl 1 rfl ?_
  refine x_iload_n C dX9_fits_1 rfl 2 rfl ?_
  refine x_icmp_eq C 27 dX9_fits_2 rfl (fun h1 => ?_) (fun h1 => ?_)
  · refine x_iconst C (1 : Int32) (by decide) dX9_fits_27 ?_
    refine x_goto C 32 dX9_fits_28 rfl ?_
    exact x_zret C true rfl hr hlk dX9_fits_32 ⟨by simp [mFit, eq_true h1], rfl⟩
  · refine x_iload_n C dX9_fits_5 rfl 1 rfl ?_
    refine x_bipush C (8 : Int32) (by decide) dX9_fits_6 ?_
    refine x_icmp_eq C 31 dX9_fits_8 rfl (fun h2 => ?_) (fun h2 => ?_)
    · refine x_iconst C (0 : Int32) (by decide) dX9_fits_31 ?_
      exact x_zret C false rfl hr hlk dX9_fits_32 ⟨by simp [mFit, h1, eq_true h2], rfl⟩
    · refine x_iload_n C dX9_fits_11 rfl 2 rfl ?_
      refine x_bipush C (8 : Int32) (by decide) dX9_fits_12 ?_
      refine x_icmp_eq C 31 dX9_fits_14 rfl (fun h3 => ?_) (fun h3 => ?_)
      · refine x_iconst C (0 : Int32) (by decide) dX9_fits_31 ?_
        exact x_zret C false rfl hr hlk dX9_fits_32 ⟨by simp [mFit, h1, h2, eq_true h3], rfl⟩
      · refine x_aload_n C dX9_fits_17 rfl 0 rfl ?_
        refine x_iload_n C dX9_fits_18 rfl 1 rfl ?_
        refine x_iload_n C dX9_fits_19 rfl 2 rfl ?_
        refine x_iload_n C dX9_fits_20 rfl 3 rfl ?_
        refine x_callV C sh_87 (by decide) rfl [.int t, .int o, .int c1] (c_X9_below l V hV σ t o c1 hM) (cwV 3 C.2.2.2.2.1 gX9_fits_X9_below rfl rfl rfl (by decide +kernel) ⟨Nat.le_of_ble_eq_true rfl, Nat.le_of_ble_eq_true rfl⟩) rfl rfl (Nat.le_of_ble_eq_true rfl) dX9_fits_21 ⟨Nat.le_of_ble_eq_true rfl, Nat.le_of_ble_eq_true rfl⟩ (x_kI ?_)
        refine x_bif_eq C 31 dX9_fits_24 rfl (fun h4 => ?_) (fun h4 => ?_)
        · refine x_iconst C (0 : Int32) (by decide) dX9_fits_31 ?_
          exact x_zret C false rfl hr hlk dX9_fits_32 ⟨by simp [mFit, h1, h2, h3, h4], rfl⟩
        · refine x_iconst C (1 : Int32) (by decide) dX9_fits_27 ?_
          refine x_goto C 32 dX9_fits_28 rfl ?_
          exact x_zret C true rfl hr hlk dX9_fits_32 ⟨by simp [mFit, h1, h2, h3, h4], rfl⟩

theorem mFN_e1 {σ : xS} {n t c : Int32} {d : Nat} {s a : Int32} (h : a = -1) : mFN σ n t c d s a = -1 := by
  cases d with
  | zero => rfl
  | succ d => rw [mFN, if_pos h]
theorem mFN_e2 {σ : xS} {n t c : Int32} {d : Nat} {s a : Int32} (h : mHas s a = true) : mFN σ n t c d s a = -1 := by
  cases d with
  | zero => rfl
  | succ d =>
    rw [mFN]
    by_cases ha : a = -1
    · rw [if_pos ha]
    · rw [if_neg ha, if_pos h]
theorem nI_ne1 {k : Nat} (h : k < 2 ^ 31) : ¬ nI k = -1 := fun e => nI_pos h (by rw [e]; decide)
theorem unI_step {s a : Int32} {d : Nat} (h : unI s < d + 1) (ha : vp_in a 8 ∨ 9 < d + 1) (hm : mHas s a = false) : unI (s ||| ((1 : Int32) <<< (a &&& 31))) < d := by
  rcases ha with ha | ha
  · have e := vp_nI ha
    have hl := vp_cl ha
    rw [e] at hm ⊢
    have := unI_lt hl hm
    omega
  · have := unI_8 (s ||| ((1 : Int32) <<< (a &&& 31)))
    omega
set_option maxHeartbeats 4000000 in
set_option maxRecDepth 100000 in
theorem c_X9_findMember (l : Launch) (V : xV) (hV : xInj V) (σ : xS) (o n t c1 : Int32) (hM : mV σ) : xM l yX9_findMember wsX9_findMember ({ frames := 4, cells := 0, slots := 0, locals := 93 }) V [ra V 87, .int o, .int n, .int t, .int c1] σ (rI (mFi σ o n t c1) σ) := by
  refine xM_of (cc := cX9_findMember) (maxL := 8) (ret := (some .int)) [(0, ra V 87), (1, .int o), (2, .int n), (3, .int t), (4, .int c1)] hV (by decide) rfl rfl (Nat.le_of_ble_eq_true rfl) (fun p e s m args below meth c C hr hlk => ?_)
  have iX9 : ∀ w ∈ u_ws RX9 TX9 24, w ∈ wsX9_findMember := by decide +kernel
  have f19 : (Cond.fieldLink RX9 19 RX9 (TX9 5).2.1 (TX9 5).2.2.1).before args s = true := C.2.2.2.2.1 _ (by decide +kernel)
  have f38 : (Cond.fieldLink RX9 38 RX9 (TX9 11).2.1 (TX9 11).2.2.1).before args s = true := C.2.2.2.2.1 _ (by decide +kernel)
  have f41 : (Cond.fieldLink RX9 41 RX9 (TX9 12).2.1 (TX9 12).2.2.1).before args s = true := C.2.2.2.2.1 _ (by decide +kernel)
  have f34 : (Cond.fieldLink RX9 34 RX9 (TX9 10).2.1 (TX9 10).2.2.1).before args s = true := C.2.2.2.2.1 _ (by decide +kernel)
  refine x_iload_n C dX9_findMember_0 rfl 1 rfl ?_
  refine x_istore C [(5, .int o), (0, ra V 87), (1, .int o), (2, .int n), (3, .int t), (4, .int c1)] dX9_findMember_1 (by decide) rfl ?_
  refine x_iconst C (0 : Int32) (by decide) dX9_findMember_3 ?_
  refine x_istore C [(6, .int (0 : Int32)), (5, .int o), (0, ra V 87), (1, .int o), (2, .int n), (3, .int t), (4, .int c1)] dX9_findMember_4 (by decide) rfl ?_
  refine x_lv [2, 3, 4, 5, 6, 1, 0] [(0, ra V 87), (1, .int o), (2, .int n), (3, .int t), (4, .int c1), (5, .int o), (6, .int (0 : Int32))] rfl ?_
  refine x_loop (fun μ σ_ lv_ => ∃ (d : Nat) (a2 s2 : Int32), μ = d ∧ σ = σ_ ∧ lv_ = [(0, ra V 87), (1, .int o), (2, .int n), (3, .int t), (4, .int c1), (5, .int a2), (6, .int s2)] ∧ mFN σ n t c1 d s2 a2 = mFi σ o n t c1 ∧ unI s2 < d ∧ (a2 = -1 ∨ vp_in a2 8 ∨ 9 < d)) ⟨_, ⟨10, _, _, rfl, rfl, rfl, rfl, (Nat.lt_of_le_of_lt (unI_8 0) (by decide)), (Or.inr (Or.inr (by decide)))⟩⟩ ?_
  rintro μ6 _ _ ⟨d, a2, s2, hμ6, rfl, rfl, hc6_0, hc6_1, hc6_2⟩ ih6
  refine x_iload C dX9_findMember_6 5 rfl ?_
  refine x_iconst C (-1 : Int32) (by decide) dX9_findMember_8 ?_
  refine x_icmp_eq C 113 dX9_findMember_9 rfl (fun h1 => ?_) (fun h1 => ?_)
  · refine x_iconst C (-1 : Int32) (by decide) dX9_findMember_113 ?_
    exact x_iret C hr hlk dX9_findMember_114 ⟨by rw [← hc6_0, mFN_e1 h1], rfl⟩
  · refine x_iload C dX9_findMember_12 6 rfl ?_
    refine x_iload C dX9_findMember_14 5 rfl ?_
    refine x_callS C [.int s2, .int a2] (c_X9_has l V hV σ s2 a2) (va_cwS 2 C.2.2.2.2.1 gX9_findMember_X9_has rfl rfl rfl (by decide +kernel) ⟨Nat.le_of_ble_eq_true rfl, Nat.le_of_ble_eq_true rfl⟩) rfl rfl (Nat.le_of_ble_eq_true rfl) dX9_findMember_16 ⟨Nat.le_of_ble_eq_true rfl, Nat.le_of_ble_eq_true rfl⟩ (x_kI ?_)
    refine x_bif_ne C 113 dX9_findMember_19 rfl (fun h2 => ?_) (fun h2 => ?_)
    · refine x_iconst C (-1 : Int32) (by decide) dX9_findMember_113 ?_
      exact x_iret C hr hlk dX9_findMember_114 ⟨by rw [← hc6_0, mFN_e2 h2], rfl⟩
    · obtain ⟨d2, hd2⟩ : ∃ d2, d = d2 + 1 := ⟨d - 1, by omega⟩
      refine x_iload C dX9_findMember_22 6 rfl ?_
      refine x_iconst C (1 : Int32) (by decide) dX9_findMember_24 ?_
      refine x_iload C dX9_findMember_25 5 rfl ?_
      refine x_ishl C dX9_findMember_27 ?_
      refine x_ior C dX9_findMember_28 ?_
      refine x_istore C [(6, .int (s2 ||| ((1 : Int32) <<< (a2 &&& 31)))), (0, ra V 87), (1, .int o), (2, .int n), (3, .int t), (4, .int c1), (5, .int a2)] dX9_findMember_29 (by decide) rfl ?_
      refine x_iconst C (0 : Int32) (by decide) dX9_findMember_31 ?_
      refine x_istore C [(7, .int (0 : Int32)), (6, .int (s2 ||| ((1 : Int32) <<< (a2 &&& 31)))), (0, ra V 87), (1, .int o), (2, .int n), (3, .int t), (4, .int c1), (5, .int a2)] dX9_findMember_32 (by decide) rfl ?_
      refine x_lv [2, 3, 4, 5, 6, 7, 1, 0] [(0, ra V 87), (1, .int o), (2, .int n), (3, .int t), (4, .int c1), (5, .int a2), (6, .int (s2 ||| ((1 : Int32) <<< (a2 &&& 31)))), (7, .int (0 : Int32))] rfl ?_
      refine x_loop (fun μ σ_ lv_ => ∃ (k : Nat), μ = (σ 91 2).toNatClampNeg - k ∧ σ = σ_ ∧ lv_ = [(0, ra V 87), (1, .int o), (2, .int n), (3, .int t), (4, .int c1), (5, .int a2), (6, .int (s2 ||| ((1 : Int32) <<< (a2 &&& 31)))), (7, .int (nI k))] ∧ k ≤ (σ 91 2).toNatClampNeg ∧ firstN (mMeP σ a2 n t c1) nI ((σ 91 2).toNatClampNeg - k) k = mMe σ a2 n t c1) ⟨_, ⟨0, rfl, rfl, rfl, Nat.zero_le _, rfl⟩⟩ ?_
      rintro μ34 _ _ ⟨k, hμ34, rfl, rfl, hc34_0, hc34_1⟩ ih34
      refine x_iload C dX9_findMember_34 7 rfl ?_
      refine x_aload_n C dX9_findMember_36 rfl 0 rfl ?_
      refine x_getr C sh_87 rfl iX9 5 (by decide) f19 (fun _ h => h) (by decide) rfl dX9_findMember_37 ?_
      refine x_iconst C (2 : Int32) (by decide) dX9_findMember_40 ?_
      refine x_iald C sh_91 (vp_le (vp_lit 2 (by decide)) (by decide)) dX9_findMember_41 ?_
      refine x_icmp_ge C 100 dX9_findMember_42 rfl (fun h3 => ?_) (fun h3 => ?_)
      · have hme : mMe σ a2 n t c1 = -1 := by rw [← hc34_1, firstN_z (show (σ 91 2).toNatClampNeg ≤ k from (le_nI (by have := clamp_lt (σ 91 2); omega)).mp h3)]
        refine x_aload_n C dX9_findMember_100 rfl 0 rfl ?_
        refine x_iload C dX9_findMember_101 5 rfl ?_
        refine x_iload C dX9_findMember_103 4 rfl ?_
        refine x_callV C sh_87 (by decide) rfl [.int a2, .int c1] (c_X9_parentOf l V hV σ a2 c1 hM) (cwV 2 C.2.2.2.2.1 gX9_findMember_X9_parentOf rfl rfl rfl (by decide +kernel) ⟨Nat.le_of_ble_eq_true rfl, Nat.le_of_ble_eq_true rfl⟩) rfl rfl (Nat.le_of_ble_eq_true rfl) dX9_findMember_105 ⟨Nat.le_of_ble_eq_true rfl, Nat.le_of_ble_eq_true rfl⟩ (x_kI ?_)
        refine x_istore C [(5, .int (mPa σ a2 c1)), (0, ra V 87), (1, .int o), (2, .int n), (3, .int t), (4, .int c1), (6, .int (s2 ||| ((1 : Int32) <<< (a2 &&& 31)))), (7, .int (nI k))] dX9_findMember_108 (by decide) rfl ?_
        refine x_goto C 6 dX9_findMember_110 rfl ?_
        refine x_lv [1, 2, 3, 4, 5, 0, 6] [(0, ra V 87), (1, .int o), (2, .int n), (3, .int t), (4, .int c1), (5, .int (mPa σ a2 c1)), (6, .int (s2 ||| ((1 : Int32) <<< (a2 &&& 31))))] rfl ?_
        exact ih6 _ _ _ (by omega) ⟨d2, _, _, rfl, rfl, rfl, (by rw [← hc6_0, hd2, mFN, if_neg h1, if_neg (by simp [h2]), if_pos hme]), (unI_step (hd2 ▸ hc6_1) ((hc6_2.resolve_left h1).imp_right (fun q => hd2 ▸ q)) h2), ((mPa_in hM a2 c1).imp_right Or.inl)⟩
      · have hb := (mvc2 hM).2
        have hkn : k < (σ 91 2).toNatClampNeg := Nat.lt_of_not_le (fun hq => h3 ((le_nI (by have := clamp_lt (σ 91 2); omega)).mpr hq))
        have hcl : (nI k).toNatClampNeg = k := nI_clamp (by omega)
        refine x_aload_n C dX9_findMember_45 rfl 0 rfl ?_
        refine x_getr C sh_87 rfl iX9 11 (by decide) f38 (fun _ h => h) (by decide) rfl dX9_findMember_46 ?_
        refine x_iload C dX9_findMember_49 7 rfl ?_
        refine x_iald C sh_97 (vp_in_nI (n := k) (N := 24) (by omega) (by decide)) dX9_findMember_51 ?_
        rw [hcl]
        refine x_iload C dX9_findMember_52 5 rfl ?_
        refine x_icmp_ne C 94 dX9_findMember_54 rfl (fun h4 => ?_) (fun h4 => ?_)
        · refine x_iinc C (q := 7) ((nI k) + (1 : Int32)) [(7, .int ((nI k) + (1 : Int32))), (0, ra V 87), (1, .int o), (2, .int n), (3, .int t), (4, .int c1), (5, .int a2), (6, .int (s2 ||| ((1 : Int32) <<< (a2 &&& 31))))] dX9_findMember_94 rfl rfl (by decide) rfl ?_
          refine x_goto C 34 dX9_findMember_97 rfl ?_
          refine x_lv [1, 2, 3, 4, 5, 6, 7, 0] [(0, ra V 87), (1, .int o), (2, .int n), (3, .int t), (4, .int c1), (5, .int a2), (6, .int (s2 ||| ((1 : Int32) <<< (a2 &&& 31)))), (7, .int ((nI k) + (1 : Int32)))] rfl ?_
          exact ih34 _ _ _ (by omega) ⟨k + 1, rfl, rfl, by rw [nI_succ], hkn, (by rw [← hc34_1, firstN_s hkn, if_neg (by simp [mMeP, h4])])⟩
        · refine x_aload_n C dX9_findMember_57 rfl 0 rfl ?_
          refine x_getr C sh_87 rfl iX9 12 (by decide) f41 (fun _ h => h) (by decide) rfl dX9_findMember_58 ?_
          refine x_iload C dX9_findMember_61 7 rfl ?_
          refine x_iald C sh_98 (vp_in_nI (n := k) (N := 24) (by omega) (by decide)) dX9_findMember_63 ?_
          rw [hcl]
          refine x_iload_n C dX9_findMember_64 rfl 2 rfl ?_
          refine x_icmp_ne C 94 dX9_findMember_65 rfl (fun h5 => ?_) (fun h5 => ?_)
          · refine x_iinc C (q := 7) ((nI k) + (1 : Int32)) [(7, .int ((nI k) + (1 : Int32))), (0, ra V 87), (1, .int o), (2, .int n), (3, .int t), (4, .int c1), (5, .int a2), (6, .int (s2 ||| ((1 : Int32) <<< (a2 &&& 31))))] dX9_findMember_94 rfl rfl (by decide) rfl ?_
            refine x_goto C 34 dX9_findMember_97 rfl ?_
            refine x_lv [1, 2, 3, 4, 5, 6, 7, 0] [(0, ra V 87), (1, .int o), (2, .int n), (3, .int t), (4, .int c1), (5, .int a2), (6, .int (s2 ||| ((1 : Int32) <<< (a2 &&& 31)))), (7, .int ((nI k) + (1 : Int32)))] rfl ?_
            exact ih34 _ _ _ (by omega) ⟨k + 1, rfl, rfl, by rw [nI_succ], hkn, (by rw [← hc34_1, firstN_s hkn, if_neg (by simp [mMeP, eq_true h4, h5])])⟩
          · refine x_aload_n C dX9_findMember_68 rfl 0 rfl ?_
            refine x_getr C sh_87 rfl iX9 10 (by decide) f34 (fun _ h => h) (by decide) rfl dX9_findMember_69 ?_
            refine x_iload C dX9_findMember_72 7 rfl ?_
            refine x_zald C sh_96 (vp_in_nI (n := k) (N := 24) (by omega) (by decide)) dX9_findMember_74 ?_
            rw [hcl]
            refine x_iload_n C dX9_findMember_75 rfl 3 rfl ?_
            refine x_icmp_ne C 94 dX9_findMember_76 rfl (fun h6 => ?_) (fun h6 => ?_)
            · refine x_iinc C (q := 7) ((nI k) + (1 : Int32)) [(7, .int ((nI k) + (1 : Int32))), (0, ra V 87), (1, .int o), (2, .int n), (3, .int t), (4, .int c1), (5, .int a2), (6, .int (s2 ||| ((1 : Int32) <<< (a2 &&& 31))))] dX9_findMember_94 rfl rfl (by decide) rfl ?_
              refine x_goto C 34 dX9_findMember_97 rfl ?_
              refine x_lv [1, 2, 3, 4, 5, 6, 7, 0] [(0, ra V 87), (1, .int o), (2, .int n), (3, .int t), (4, .int c1), (5, .int a2), (6, .int (s2 ||| ((1 : Int32) <<< (a2 &&& 31)))), (7, .int ((nI k) + (1 : Int32)))] rfl ?_
              exact ih34 _ _ _ (by omega) ⟨k + 1, rfl, rfl, by rw [nI_succ], hkn, (by rw [← hc34_1, firstN_s hkn, if_neg (by simp [mMeP, eq_true h4, eq_true h5, h6])])⟩
            · refine x_aload_n C dX9_findMember_79 rfl 0 rfl ?_
              refine x_iconst C (2 : Int32) (by decide) dX9_findMember_80 ?_
              refine x_iload C dX9_findMember_81 7 rfl ?_
              refine x_iload C dX9_findMember_83 4 rfl ?_
              refine x_callV C sh_87 (by decide) rfl [.int (2 : Int32), .int (nI k), .int c1] (c_X9_is_2 l V hV σ (nI k) c1 hM (vp_in_nI (n := k) (N := 24) (by omega) (by decide))) (cwV 3 C.2.2.2.2.1 gX9_findMember_X9_is rfl rfl rfl (by decide +kernel) ⟨Nat.le_of_ble_eq_true rfl, Nat.le_of_ble_eq_true rfl⟩) rfl rfl (Nat.le_of_ble_eq_true rfl) dX9_findMember_85 ⟨Nat.le_of_ble_eq_true rfl, Nat.le_of_ble_eq_true rfl⟩ (x_kI ?_)
              refine x_bif_eq C 94 dX9_findMember_88 rfl (fun h7 => ?_) (fun h7 => ?_)
              · refine x_iinc C (q := 7) ((nI k) + (1 : Int32)) [(7, .int ((nI k) + (1 : Int32))), (0, ra V 87), (1, .int o), (2, .int n), (3, .int t), (4, .int c1), (5, .int a2), (6, .int (s2 ||| ((1 : Int32) <<< (a2 &&& 31))))] dX9_findMember_94 rfl rfl (by decide) rfl ?_
                refine x_goto C 34 dX9_findMember_97 rfl ?_
                refine x_lv [1, 2, 3, 4, 5, 6, 7, 0] [(0, ra V 87), (1, .int o), (2, .int n), (3, .int t), (4, .int c1), (5, .int a2), (6, .int (s2 ||| ((1 : Int32) <<< (a2 &&& 31)))), (7, .int ((nI k) + (1 : Int32)))] rfl ?_
                exact ih34 _ _ _ (by omega) ⟨k + 1, rfl, rfl, by rw [nI_succ], hkn, (by rw [← hc34_1, firstN_s hkn, if_neg (by simp [mMeP, eq_true h4, eq_true h5, eq_true h6, h7])])⟩
              · have hme : mMe σ a2 n t c1 = nI k := by rw [← hc34_1, firstN_s hkn, if_pos (by simp [mMeP, eq_true h4, eq_true h5, eq_true h6, h7])]
                refine x_iload C dX9_findMember_91 7 rfl ?_
                exact x_iret C hr hlk dX9_findMember_93 ⟨by rw [← hc6_0, hd2, mFN, if_neg h1, if_neg (by simp [h2]), hme, if_neg (nI_ne1 (by omega))], rfl⟩

set_option maxHeartbeats 4000000 in
set_option maxRecDepth 100000 in
theorem c_X9_typeIn (l : Launch) (V : xV) (hV : xInj V) (σ : xS) (x c1 : Int32) (hx : vp_in x 50) (hc : vp_in c1 16) : xM l yX9_typeIn wsX9_typeIn ({ frames := 0, cells := 0, slots := 0, locals := 0 }) V [ra V 87, .int x, .int c1] σ (rI (mTI σ x c1) σ) := by
  refine xM_of (cc := cX9_typeIn) (maxL := 3) (ret := (some .int)) [(0, ra V 87), (1, .int x), (2, .int c1)] hV (by decide) rfl rfl (Nat.le_of_ble_eq_true rfl) (fun p e s m args below meth c C hr hlk => ?_)
  have iX9 : ∀ w ∈ u_ws RX9 TX9 24, w ∈ wsX9_typeIn := by decide +kernel
  have f65 : (Cond.fieldLink RX9 65 RX9 (TX9 22).2.1 (TX9 22).2.2.1).before args s = true := C.2.2.2.2.1 _ (by decide +kernel)
  refine x_aload_n C dX9_typeIn_0 rfl 0 rfl ?_
  refine x_getr C sh_87 rfl iX9 22 (by decide) f65 (fun _ h => h) (by decide) rfl dX9_typeIn_1 ?_
  refine x_bipush C (50 : Int32) (by decide) dX9_typeIn_4 ?_
  refine x_iload_n C dX9_typeIn_6 rfl 2 rfl ?_
  refine x_imul C dX9_typeIn_7 ?_
  refine x_iload_n C dX9_typeIn_8 rfl 1 rfl ?_
  refine x_iadd C dX9_typeIn_9 ?_
  refine x_iald C sh_106 (vp_add (vp_mulk 50 hc (by decide)) hx (by decide)) dX9_typeIn_10 ?_
  exact x_iret C hr hlk dX9_typeIn_11 ⟨rfl, rfl⟩

set_option maxHeartbeats 4000000 in
set_option maxRecDepth 100000 in
theorem c_X9_note (l : Launch) (V : xV) (hV : xInj V) (σ : xS) (k x c1 : Int32) (hk : vp_in k 13) (hx : vp_in x 50) : xM l yX9_note wsX9_note ({ frames := 0, cells := 0, slots := 0, locals := 0 }) V [ra V 87, .int k, .int x, .int c1] σ (rV (mNt σ k x c1)) := by
  refine xM_of (cc := cX9_note) (maxL := 4) (ret := none) [(0, ra V 87), (1, .int k), (2, .int x), (3, .int c1)] hV (by decide) rfl rfl (Nat.le_of_ble_eq_true rfl) (fun p e s m args below meth c C hr hlk => ?_)
  have iX9 : ∀ w ∈ u_ws RX9 TX9 24, w ∈ wsX9_note := by decide +kernel
  have f68 : (Cond.fieldLink RX9 68 RX9 (TX9 23).2.1 (TX9 23).2.2.1).before args s = true := C.2.2.2.2.1 _ (by decide +kernel)
  refine x_aload_n C dX9_note_0 rfl 0 rfl ?_
  refine x_getr C sh_87 rfl iX9 23 (by decide) f68 (fun _ h => h) (by decide) rfl dX9_note_1 ?_
  refine x_bipush C (50 : Int32) (by decide) dX9_note_4 ?_
  refine x_iload_n C dX9_note_6 rfl 1 rfl ?_
  refine x_imul C dX9_note_7 ?_
  refine x_iload_n C dX9_note_8 rfl 2 rfl ?_
  refine x_iadd C dX9_note_9 ?_
  refine x_dup2 C rfl rfl dX9_note_10 ?_
  refine x_iald C sh_107 (vp_add (vp_mulk 50 hk (by decide)) hx (by decide)) dX9_note_11 ?_
  refine x_iconst C (1 : Int32) (by decide) dX9_note_12 ?_
  refine x_iload_n C dX9_note_13 rfl 3 rfl ?_
  refine x_ishl C dX9_note_14 ?_
  refine x_ior C dX9_note_15 ?_
  refine x_iast C sh_107 (vp_add (vp_mulk 50 hk (by decide)) hx (by decide)) dX9_note_16 ?_
  exact x_vret C hr hlk dX9_note_17 ⟨rfl, rfl⟩

/-! Accepted arguments, types. -/
def mPt (σ : xS) (e k : Int32) : Int32 := σ 105 ((3 : Int32) * e + 1 + k).toNatClampNeg
def mPr2 (σ : xS) (m k : Int32) : Int32 := σ 100 ((2 : Int32) * m + k).toNatClampNeg
def mAc1 (σ : xS) (e m c k : Int32) : Bool := (decide (mPt σ e k = -1) == decide (mPr2 σ m k = -1)) && (decide (mPt σ e k = -1) || mFit σ (mTI σ (mPt σ e k) c) (mPr2 σ m k) c)
def mAcN (σ : xS) (e m c : Int32) : Nat → Bool
  | 0 => true
  | k + 1 => mAcN σ e m c k && mAc1 σ e m c (nI k)
def mPNb (σ : xS) (e c : Int32) (k : Nat) : Bool := decide (¬ σ 105 ((3 : Int32) * e + nI k).toNatClampNeg = -1) && decide (mTI σ (σ 105 ((3 : Int32) * e + nI k).toNatClampNeg) c = -1)
def mPNN (σ : xS) (e c : Int32) : Nat → Bool
  | 0 => true
  | k + 1 => mPNN σ e c k && !mPNb σ e c k
theorem mPNN_bad {σ : xS} {e c : Int32} {k : Nat} (hb : mPNb σ e c k = true) : ∀ n, k < n → mPNN σ e c n = false := by
  intro n
  induction n with
  | zero => intro h; omega
  | succ n ih =>
    intro h
    rw [mPNN]
    by_cases q : k = n
    · subst q; rw [hb]; simp
    · rw [ih (by omega)]; rfl
def mOf (σ : xS) (e c : Int32) : Int32 := mTI σ (σ 105 ((3 : Int32) * e).toNatClampNeg) c
def mFd (σ : xS) (e c : Int32) : Int32 := mFi σ (mOf σ e c) (σ 104 e.toNatClampNeg) (if σ 102 e.toNatClampNeg = 5 then 1 else 0) c
def mFT (σ : xS) (e c : Int32) : Int32 × Int32 :=
  if σ 102 e.toNatClampNeg = 1 then (0, 8)
  else if σ 102 e.toNatClampNeg = 2 then (0, σ 97 (σ 103 e.toNatClampNeg).toNatClampNeg)
  else if σ 102 e.toNatClampNeg = 3 then (0, σ 100 ((2 : Int32) * σ 103 e.toNatClampNeg + σ 104 e.toNatClampNeg).toNatClampNeg)
  else if σ 102 e.toNatClampNeg = 0 then (if mIs σ 0 (σ 104 e.toNatClampNeg) c = true then (0, σ 104 e.toNatClampNeg) else (8, -1))
  else if mPNN σ e c 3 = false then (0, -1)
  else if mOf σ e c = 8 then (9, -1)
  else if mFd σ e c = -1 then (10, -1)
  else if σ 102 e.toNatClampNeg = 4 then (0, σ 99 (mFd σ e c).toNatClampNeg)
  else if mAcN σ e (mFd σ e c) c 2 = true then (0, σ 99 (mFd σ e c).toNatClampNeg)
  else (11, -1)
def mFTs (σ : xS) (e c : Int32) : xS := if (mFT σ e c).1 = 0 then σ else mNt σ (mFT σ e c).1 e c

set_option maxHeartbeats 4000000 in
set_option maxRecDepth 100000 in
theorem c_X9_areAccepted (l : Launch) (V : xV) (hV : xInj V) (σ : xS) (x m1 c1 : Int32) (hM : mV σ) (hx : vp_in x 50) (hm : vp_in m1 24) (hc : vp_in c1 16) : xM l yX9_areAccepted wsX9_areAccepted ({ frames := 6, cells := 0, slots := 0, locals := 141 }) V [ra V 87, .int x, .int m1, .int c1] σ (rI (bI (mAcN σ x m1 c1 2)) σ) := by
  refine xM_of (cc := cX9_areAccepted) (maxL := 8) (ret := (some .boolean)) [(0, ra V 87), (1, .int x), (2, .int m1), (3, .int c1)] hV (by decide) rfl rfl (Nat.le_of_ble_eq_true rfl) (fun p e s m args below meth c C hr hlk => ?_)
  have iX9 : ∀ w ∈ u_ws RX9 TX9 24, w ∈ wsX9_areAccepted := by decide +kernel
  have f62 : (Cond.fieldLink RX9 62 RX9 (TX9 20).2.1 (TX9 20).2.2.1).before args s = true := C.2.2.2.2.1 _ (by decide +kernel)
  have f47 : (Cond.fieldLink RX9 47 RX9 (TX9 14).2.1 (TX9 14).2.2.1).before args s = true := C.2.2.2.2.1 _ (by decide +kernel)
  refine x_iconst C (1 : Int32) (by decide) dX9_areAccepted_0 ?_
  refine x_istore C [(4, .int (1 : Int32)), (0, ra V 87), (1, .int x), (2, .int m1), (3, .int c1)] dX9_areAccepted_1 (by decide) rfl ?_
  refine x_iconst C (0 : Int32) (by decide) dX9_areAccepted_3 ?_
  refine x_istore C [(5, .int (0 : Int32)), (4, .int (1 : Int32)), (0, ra V 87), (1, .int x), (2, .int m1), (3, .int c1)] dX9_areAccepted_4 (by decide) rfl ?_
  refine x_lv [2, 3, 4, 5, 1, 0] [(0, ra V 87), (1, .int x), (2, .int m1), (3, .int c1), (4, .int (1 : Int32)), (5, .int (0 : Int32))] rfl ?_
  refine x_loop (fun μ σ_ lv_ => ∃ (k : Nat), μ = 2 - k ∧ σ = σ_ ∧ lv_ = [(0, ra V 87), (1, .int x), (2, .int m1), (3, .int c1), (4, .int (bI (mAcN σ x m1 c1 k))), (5, .int (nI k))] ∧ k ≤ 2) ⟨_, ⟨0, rfl, rfl, rfl, Nat.zero_le _⟩⟩ ?_
  rintro μ6 _ _ ⟨k, hμ6, rfl, rfl, hc6_0⟩ ih6
  refine x_iload C dX9_areAccepted_6 5 rfl ?_
  refine x_iconst C (2 : Int32) (by decide) dX9_areAccepted_8 ?_
  refine x_icmp_ge C 106 dX9_areAccepted_9 rfl (fun h1 => ?_) (fun h1 => ?_)
  · refine x_iload C dX9_areAccepted_106 4 rfl ?_
    exact x_zret C (mAcN σ x m1 c1 k) rfl hr hlk dX9_areAccepted_108 ⟨by rw [show k = 2 from Nat.le_antisymm hc6_0 (Nat.le_of_not_lt (fun hq => nI_ge hq (by decide) h1))], rfl⟩
  · have hkn : k < 2 := Nat.lt_of_not_le (fun hq => h1 (nI_le hq (by omega)))
    refine x_aload_n C dX9_areAccepted_12 rfl 0 rfl ?_
    refine x_getr C sh_87 rfl iX9 20 (by decide) f62 (fun _ h => h) (by decide) rfl dX9_areAccepted_13 ?_
    refine x_iconst C (3 : Int32) (by decide) dX9_areAccepted_16 ?_
    refine x_iload_n C dX9_areAccepted_17 rfl 1 rfl ?_
    refine x_imul C dX9_areAccepted_18 ?_
    refine x_iconst C (1 : Int32) (by decide) dX9_areAccepted_19 ?_
    refine x_iadd C dX9_areAccepted_20 ?_
    refine x_iload C dX9_areAccepted_21 5 rfl ?_
    refine x_iadd C dX9_areAccepted_23 ?_
    refine x_iald C sh_105 (vp_add (vp_add (vp_mulk 3 hx (by decide)) (vp_lit 1 (by decide)) (by decide)) (vp_in_nI (n := k) (N := 2) (by omega) (by decide)) (by decide)) dX9_areAccepted_24 ?_
    refine x_istore C [(6, .int (σ 105 ((((3 : Int32) * x) + (1 : Int32)) + (nI k)).toNatClampNeg)), (0, ra V 87), (1, .int x), (2, .int m1), (3, .int c1), (4, .int (bI (mAcN σ x m1 c1 k))), (5, .int (nI k))] dX9_areAccepted_25 (by decide) rfl ?_
    refine x_aload_n C dX9_areAccepted_27 rfl 1 rfl ?_
    refine x_getr C sh_87 rfl iX9 14 (by decide) f47 (fun _ h => h) (by decide) rfl dX9_areAccepted_28 ?_
    refine x_iconst C (2 : Int32) (by decide) dX9_areAccepted_31 ?_
    refine x_iload_n C dX9_areAccepted_32 rfl 3 rfl ?_
    refine x_imul C dX9_areAccepted_33 ?_
    refine x_iload C dX9_areAccepted_34 6 rfl ?_
    refine x_iadd C dX9_areAccepted_36 ?_
    refine x_iald C sh_100 (vp_add (vp_mulk 2 hm (by decide)) (vp_in_nI (n := k) (N := 2) (by omega) (by decide)) (by decide)) dX9_areAccepted_37 ?_
    refine x_istore C [(7, .int (σ 100 (((2 : Int32) * m1) + (nI k)).toNatClampNeg)), (6, .int (σ 105 ((((3 : Int32) * x) + (1 : Int32)) + (nI k)).toNatClampNeg)), (0, ra V 87), (1, .int x), (2, .int m1), (3, .int c1), (4, .int (bI (mAcN σ x m1 c1 k))), (5, .int (nI k))] dX9_areAccepted_38 (by decide) rfl ?_
    refine x_iload C dX9_areAccepted_40 6 rfl ?_
    refine x_bif_eq C 97 dX9_areAccepted_42 rfl (fun h2 => ?_) (fun h2 => ?_)
    · refine x_iconst C (0 : Int32) (by decide) dX9_areAccepted_97 ?_
      refine x_istore C [(4, .int (0 : Int32)), (7, .int (σ 100 (((2 : Int32) * m1) + (nI k)).toNatClampNeg)), (6, .int (σ 105 ((((3 : Int32) * x) + (1 : Int32)) + (nI k)).toNatClampNeg)), (0, ra V 87), (1, .int x), (2, .int m1), (3, .int c1), (5, .int (nI k))] dX9_areAccepted_98 (by decide) rfl ?_
      refine x_iinc C (q := 7) ((nI k) + (1 : Int32)) [(5, .int ((nI k) + (1 : Int32))), (4, .int (0 : Int32)), (7, .int (σ 100 (((2 : Int32) * m1) + (nI k)).toNatClampNeg)), (6, .int (σ 105 ((((3 : Int32) * x) + (1 : Int32)) + (nI k)).toNatClampNeg)), (0, ra V 87), (1, .int x), (2, .int m1), (3, .int c1)] dX9_areAccepted_100 rfl rfl (by decide) rfl ?_
      refine x_goto C 6 dX9_areAccepted_103 rfl ?_
      refine x_lv [4, 5, 6, 7, 1, 0] [(0, ra V 87), (1, .int x), (2, .int m1), (3, .int c1), (4, .int (0 : Int32)), (5, .int ((nI k) + (1 : Int32)))] rfl ?_
      exact ih6 _ _ _ (by omega) ⟨k + 1, rfl, rfl, by rw [nI_succ]; simp [mAcN, mAc1, mPt, mPr2, bI, h2], hkn⟩
    · refine x_iload C dX9_areAccepted_45 1 rfl ?_
      refine x_iconst C (-1 : Int32) (by decide) dX9_areAccepted_47 ?_
      refine x_icmp_ne C 55 dX9_areAccepted_48 rfl (fun h3 => ?_) (fun h3 => ?_)
      · refine x_iconst C (0 : Int32) (by decide) dX9_areAccepted_55 ?_
        refine x_iload C dX9_areAccepted_56 0 rfl ?_
        refine x_iconst C (-1 : Int32) (by decide) dX9_areAccepted_58 ?_
        refine x_icmp_ne C 66 dX9_areAccepted_59 rfl (fun h4 => ?_) (fun h4 => ?_)
        · refine x_iconst C (0 : Int32) (by decide) dX9_areAccepted_66 ?_
          refine x_icmp_ne C 97 dX9_areAccepted_67 rfl (fun h5 => absurd h5 (by decide)) (fun h5 => ?_)
          refine x_iload C dX9_areAccepted_70 1 rfl ?_
          refine x_iconst C (-1 : Int32) (by decide) dX9_areAccepted_72 ?_
          refine x_icmp_eq C 93 dX9_areAccepted_73 rfl (fun h6 => absurd h6 h3) (fun h6 => ?_)
          have hp9 : vp_in (σ 105 ((((3 : Int32) * x) + (1 : Int32)) + (nI k)).toNatClampNeg) 50 := mv105 hM (vp_add (vp_add (vp_mulk 3 hx (by decide)) (vp_lit 1 (by decide)) (by decide)) (vp_in_nI (n := k) (N := 2) (by omega) (by decide)) (by decide)) h3
          refine x_aload_n C dX9_areAccepted_76 rfl 2 rfl ?_
          refine x_aload_n C dX9_areAccepted_77 rfl 2 rfl ?_
          refine x_iload C dX9_areAccepted_78 1 rfl ?_
          refine x_iload_n C dX9_areAccepted_80 rfl 5 rfl ?_
          refine x_callV C sh_87 (by decide) rfl [.int (σ 105 ((((3 : Int32) * x) + (1 : Int32)) + (nI k)).toNatClampNeg), .int c1] (c_X9_typeIn l V hV σ (σ 105 ((((3 : Int32) * x) + (1 : Int32)) + (nI k)).toNatClampNeg) c1 hp9 hc) (cwV 2 C.2.2.2.2.1 gX9_areAccepted_X9_typeIn rfl rfl rfl (by decide +kernel) ⟨Nat.le_of_ble_eq_true rfl, Nat.le_of_ble_eq_true rfl⟩) rfl rfl (Nat.le_of_ble_eq_true rfl) dX9_areAccepted_81 ⟨Nat.le_of_ble_eq_true rfl, Nat.le_of_ble_eq_true rfl⟩ (x_kI ?_)
          refine x_iload C dX9_areAccepted_84 0 rfl ?_
          refine x_iload_n C dX9_areAccepted_86 rfl 5 rfl ?_
          refine x_callV C sh_87 (by decide) rfl [.int (mTI σ (σ 105 ((((3 : Int32) * x) + (1 : Int32)) + (nI k)).toNatClampNeg) c1), .int (σ 100 (((2 : Int32) * m1) + (nI k)).toNatClampNeg), .int c1] (c_X9_fits l V hV σ (mTI σ (σ 105 ((((3 : Int32) * x) + (1 : Int32)) + (nI k)).toNatClampNeg) c1) (σ 100 (((2 : Int32) * m1) + (nI k)).toNatClampNeg) c1 hM) (cwV 3 C.2.2.2.2.1 gX9_areAccepted_X9_fits rfl rfl rfl (by decide +kernel) ⟨Nat.le_of_ble_eq_true rfl, Nat.le_of_ble_eq_true rfl⟩) rfl rfl (Nat.le_of_ble_eq_true rfl) dX9_areAccepted_87 ⟨Nat.le_of_ble_eq_true rfl, Nat.le_of_ble_eq_true rfl⟩ (x_kI ?_)
          refine x_bif_eq C 97 dX9_areAccepted_90 rfl (fun h7 => ?_) (fun h7 => ?_)
          · refine x_iconst C (0 : Int32) (by decide) dX9_areAccepted_97 ?_
            refine x_istore C [(4, .int (0 : Int32)), (7, .int (σ 100 (((2 : Int32) * m1) + (nI k)).toNatClampNeg)), (6, .int (σ 105 ((((3 : Int32) * x) + (1 : Int32)) + (nI k)).toNatClampNeg)), (0, ra V 87), (1, .int x), (2, .int m1), (3, .int c1), (5, .int (nI k))] dX9_areAccepted_98 (by decide) rfl ?_
            refine x_iinc C (q := 7) ((nI k) + (1 : Int32)) [(5, .int ((nI k) + (1 : Int32))), (4, .int (0 : Int32)), (7, .int (σ 100 (((2 : Int32) * m1) + (nI k)).toNatClampNeg)), (6, .int (σ 105 ((((3 : Int32) * x) + (1 : Int32)) + (nI k)).toNatClampNeg)), (0, ra V 87), (1, .int x), (2, .int m1), (3, .int c1)] dX9_areAccepted_100 rfl rfl (by decide) rfl ?_
            refine x_goto C 6 dX9_areAccepted_103 rfl ?_
            refine x_lv [4, 5, 6, 7, 1, 0] [(0, ra V 87), (1, .int x), (2, .int m1), (3, .int c1), (4, .int (0 : Int32)), (5, .int ((nI k) + (1 : Int32)))] rfl ?_
            exact ih6 _ _ _ (by omega) ⟨k + 1, rfl, rfl, by rw [nI_succ]; simp [mAcN, mAc1, mPt, mPr2, bI, h2, h3, h4, h7], hkn⟩
          · refine x_iconst C (1 : Int32) (by decide) dX9_areAccepted_93 ?_
            refine x_goto C 98 dX9_areAccepted_94 rfl ?_
            refine x_istore C [(4, .int (1 : Int32)), (7, .int (σ 100 (((2 : Int32) * m1) + (nI k)).toNatClampNeg)), (6, .int (σ 105 ((((3 : Int32) * x) + (1 : Int32)) + (nI k)).toNatClampNeg)), (0, ra V 87), (1, .int x), (2, .int m1), (3, .int c1), (5, .int (nI k))] dX9_areAccepted_98 (by decide) rfl ?_
            refine x_iinc C (q := 7) ((nI k) + (1 : Int32)) [(5, .int ((nI k) + (1 : Int32))), (4, .int (1 : Int32)), (7, .int (σ 100 (((2 : Int32) * m1) + (nI k)).toNatClampNeg)), (6, .int (σ 105 ((((3 : Int32) * x) + (1 : Int32)) + (nI k)).toNatClampNeg)), (0, ra V 87), (1, .int x), (2, .int m1), (3, .int c1)] dX9_areAccepted_100 rfl rfl (by decide) rfl ?_
            refine x_goto C 6 dX9_areAccepted_103 rfl ?_
            refine x_lv [4, 5, 6, 7, 1, 0] [(0, ra V 87), (1, .int x), (2, .int m1), (3, .int c1), (4, .int (1 : Int32)), (5, .int ((nI k) + (1 : Int32)))] rfl ?_
            exact ih6 _ _ _ (by omega) ⟨k + 1, rfl, rfl, by rw [nI_succ]; simp [mAcN, mAc1, mPt, mPr2, bI, h2, h3, h4, h7], hkn⟩
        · refine x_iconst C (1 : Int32) (by decide) dX9_areAccepted_62 ?_
          refine x_goto C 67 dX9_areAccepted_63 rfl ?_
          refine x_icmp_ne C 97 dX9_areAccepted_67 rfl (fun h8 => ?_) (fun h8 => absurd h8 (by decide))
          refine x_iconst C (0 : Int32) (by decide) dX9_areAccepted_97 ?_
          refine x_istore C [(4, .int (0 : Int32)), (7, .int (σ 100 (((2 : Int32) * m1) + (nI k)).toNatClampNeg)), (6, .int (σ 105 ((((3 : Int32) * x) + (1 : Int32)) + (nI k)).toNatClampNeg)), (0, ra V 87), (1, .int x), (2, .int m1), (3, .int c1), (5, .int (nI k))] dX9_areAccepted_98 (by decide) rfl ?_
          refine x_iinc C (q := 7) ((nI k) + (1 : Int32)) [(5, .int ((nI k) + (1 : Int32))), (4, .int (0 : Int32)), (7, .int (σ 100 (((2 : Int32) * m1) + (nI k)).toNatClampNeg)), (6, .int (σ 105 ((((3 : Int32) * x) + (1 : Int32)) + (nI k)).toNatClampNeg)), (0, ra V 87), (1, .int x), (2, .int m1), (3, .int c1)] dX9_areAccepted_100 rfl rfl (by decide) rfl ?_
          refine x_goto C 6 dX9_areAccepted_103 rfl ?_
          refine x_lv [4, 5, 6, 7, 1, 0] [(0, ra V 87), (1, .int x), (2, .int m1), (3, .int c1), (4, .int (0 : Int32)), (5, .int ((nI k) + (1 : Int32)))] rfl ?_
          exact ih6 _ _ _ (by omega) ⟨k + 1, rfl, rfl, by rw [nI_succ]; simp [mAcN, mAc1, mPt, mPr2, bI, h2, h3, eq_true h4], hkn⟩
      · refine x_iconst C (1 : Int32) (by decide) dX9_areAccepted_51 ?_
        refine x_goto C 56 dX9_areAccepted_52 rfl ?_
        refine x_iload C dX9_areAccepted_56 0 rfl ?_
        refine x_iconst C (-1 : Int32) (by decide) dX9_areAccepted_58 ?_
        refine x_icmp_ne C 66 dX9_areAccepted_59 rfl (fun h9 => ?_) (fun h9 => ?_)
        · refine x_iconst C (0 : Int32) (by decide) dX9_areAccepted_66 ?_
          refine x_icmp_ne C 97 dX9_areAccepted_67 rfl (fun h10 => ?_) (fun h10 => absurd h10 (by decide))
          refine x_iconst C (0 : Int32) (by decide) dX9_areAccepted_97 ?_
          refine x_istore C [(4, .int (0 : Int32)), (7, .int (σ 100 (((2 : Int32) * m1) + (nI k)).toNatClampNeg)), (6, .int (σ 105 ((((3 : Int32) * x) + (1 : Int32)) + (nI k)).toNatClampNeg)), (0, ra V 87), (1, .int x), (2, .int m1), (3, .int c1), (5, .int (nI k))] dX9_areAccepted_98 (by decide) rfl ?_
          refine x_iinc C (q := 7) ((nI k) + (1 : Int32)) [(5, .int ((nI k) + (1 : Int32))), (4, .int (0 : Int32)), (7, .int (σ 100 (((2 : Int32) * m1) + (nI k)).toNatClampNeg)), (6, .int (σ 105 ((((3 : Int32) * x) + (1 : Int32)) + (nI k)).toNatClampNeg)), (0, ra V 87), (1, .int x), (2, .int m1), (3, .int c1)] dX9_areAccepted_100 rfl rfl (by decide) rfl ?_
          refine x_goto C 6 dX9_areAccepted_103 rfl ?_
          refine x_lv [4, 5, 6, 7, 1, 0] [(0, ra V 87), (1, .int x), (2, .int m1), (3, .int c1), (4, .int (0 : Int32)), (5, .int ((nI k) + (1 : Int32)))] rfl ?_
          exact ih6 _ _ _ (by omega) ⟨k + 1, rfl, rfl, by rw [nI_succ]; simp [mAcN, mAc1, mPt, mPr2, bI, h2, eq_true h3, h9], hkn⟩
        · refine x_iconst C (1 : Int32) (by decide) dX9_areAccepted_62 ?_
          refine x_goto C 67 dX9_areAccepted_63 rfl ?_
          refine x_icmp_ne C 97 dX9_areAccepted_67 rfl (fun h11 => absurd h11 (by decide)) (fun h11 => ?_)
          refine x_iload C dX9_areAccepted_70 1 rfl ?_
          refine x_iconst C (-1 : Int32) (by decide) dX9_areAccepted_72 ?_
          refine x_icmp_eq C 93 dX9_areAccepted_73 rfl (fun h12 => ?_) (fun h12 => absurd h12 (fun q => q h3))
          refine x_iconst C (1 : Int32) (by decide) dX9_areAccepted_93 ?_
          refine x_goto C 98 dX9_areAccepted_94 rfl ?_
          refine x_istore C [(4, .int (1 : Int32)), (7, .int (σ 100 (((2 : Int32) * m1) + (nI k)).toNatClampNeg)), (6, .int (σ 105 ((((3 : Int32) * x) + (1 : Int32)) + (nI k)).toNatClampNeg)), (0, ra V 87), (1, .int x), (2, .int m1), (3, .int c1), (5, .int (nI k))] dX9_areAccepted_98 (by decide) rfl ?_
          refine x_iinc C (q := 7) ((nI k) + (1 : Int32)) [(5, .int ((nI k) + (1 : Int32))), (4, .int (1 : Int32)), (7, .int (σ 100 (((2 : Int32) * m1) + (nI k)).toNatClampNeg)), (6, .int (σ 105 ((((3 : Int32) * x) + (1 : Int32)) + (nI k)).toNatClampNeg)), (0, ra V 87), (1, .int x), (2, .int m1), (3, .int c1)] dX9_areAccepted_100 rfl rfl (by decide) rfl ?_
          refine x_goto C 6 dX9_areAccepted_103 rfl ?_
          refine x_lv [4, 5, 6, 7, 1, 0] [(0, ra V 87), (1, .int x), (2, .int m1), (3, .int c1), (4, .int (1 : Int32)), (5, .int ((nI k) + (1 : Int32)))] rfl ?_
          exact ih6 _ _ _ (by omega) ⟨k + 1, rfl, rfl, by rw [nI_succ]; simp [mAcN, mAc1, mPt, mPr2, bI, h2, eq_true h3, eq_true h9], hkn⟩

set_option maxHeartbeats 4000000 in
set_option maxRecDepth 100000 in
theorem c_X9_findType (l : Launch) (V : xV) (hV : xInj V) (σ : xS) (x c1 : Int32) (hM : mV σ) (hx : vp_in x 50) (hc : vp_in c1 16) : xM l yX9_findType wsX9_findType ({ frames := 7, cells := 0, slots := 0, locals := 168 }) V [ra V 87, .int x, .int c1] σ (rI (mFT σ x c1).2 (mFTs σ x c1)) := by
  refine xM_of (cc := cX9_findType) (maxL := 7) (ret := (some .int)) [(0, ra V 87), (1, .int x), (2, .int c1)] hV (by decide) rfl rfl (Nat.le_of_ble_eq_true rfl) (fun p e s m args below meth c C hr hlk => ?_)
  have iX9 : ∀ w ∈ u_ws RX9 TX9 24, w ∈ wsX9_findType := by decide +kernel
  have f56 : (Cond.fieldLink RX9 56 RX9 (TX9 18).2.1 (TX9 18).2.2.1).before args s = true := C.2.2.2.2.1 _ (by decide +kernel)
  have f59 : (Cond.fieldLink RX9 59 RX9 (TX9 19).2.1 (TX9 19).2.2.1).before args s = true := C.2.2.2.2.1 _ (by decide +kernel)
  have f53 : (Cond.fieldLink RX9 53 RX9 (TX9 17).2.1 (TX9 17).2.2.1).before args s = true := C.2.2.2.2.1 _ (by decide +kernel)
  have f62 : (Cond.fieldLink RX9 62 RX9 (TX9 20).2.1 (TX9 20).2.2.1).before args s = true := C.2.2.2.2.1 _ (by decide +kernel)
  have f44 : (Cond.fieldLink RX9 44 RX9 (TX9 13).2.1 (TX9 13).2.2.1).before args s = true := C.2.2.2.2.1 _ (by decide +kernel)
  have f47 : (Cond.fieldLink RX9 47 RX9 (TX9 14).2.1 (TX9 14).2.2.1).before args s = true := C.2.2.2.2.1 _ (by decide +kernel)
  have f38 : (Cond.fieldLink RX9 38 RX9 (TX9 11).2.1 (TX9 11).2.2.1).before args s = true := C.2.2.2.2.1 _ (by decide +kernel)
  refine x_aload_n C dX9_findType_0 rfl 0 rfl ?_
  refine x_getr C sh_87 rfl iX9 18 (by decide) f56 (fun _ h => h) (by decide) rfl dX9_findType_1 ?_
  refine x_iload_n C dX9_findType_4 rfl 1 rfl ?_
  refine x_iald C sh_103 hx dX9_findType_5 ?_
  refine x_istore_n C [(3, .int (σ 103 x.toNatClampNeg)), (0, ra V 87), (1, .int x), (2, .int c1)] dX9_findType_6 rfl (by decide) rfl ?_
  refine x_aload_n C dX9_findType_7 rfl 1 rfl ?_
  refine x_getr C sh_87 rfl iX9 19 (by decide) f59 (fun _ h => h) (by decide) rfl dX9_findType_8 ?_
  refine x_iload_n C dX9_findType_11 rfl 2 rfl ?_
  refine x_iald C sh_104 hx dX9_findType_12 ?_
  refine x_istore C [(4, .int (σ 104 x.toNatClampNeg)), (3, .int (σ 103 x.toNatClampNeg)), (0, ra V 87), (1, .int x), (2, .int c1)] dX9_findType_13 (by decide) rfl ?_
  refine x_aload_n C dX9_findType_15 rfl 2 rfl ?_
  refine x_getr C sh_87 rfl iX9 17 (by decide) f53 (fun _ h => h) (by decide) rfl dX9_findType_16 ?_
  refine x_iload_n C dX9_findType_19 rfl 3 rfl ?_
  refine x_iald C sh_102 hx dX9_findType_20 ?_
  refine x_iconst C (1 : Int32) (by decide) dX9_findType_21 ?_
  refine x_icmp_ne C 28 dX9_findType_22 rfl (fun h1 => ?_) (fun h1 => ?_)
  · refine x_aload_n C dX9_findType_28 rfl 2 rfl ?_
    refine x_getr C sh_87 rfl iX9 17 (by decide) f53 (fun _ h => h) (by decide) rfl dX9_findType_29 ?_
    refine x_iload_n C dX9_findType_32 rfl 3 rfl ?_
    refine x_iald C sh_102 hx dX9_findType_33 ?_
    refine x_iconst C (2 : Int32) (by decide) dX9_findType_34 ?_
    refine x_icmp_ne C 45 dX9_findType_35 rfl (fun h2 => ?_) (fun h2 => ?_)
    · refine x_aload_n C dX9_findType_45 rfl 2 rfl ?_
      refine x_getr C sh_87 rfl iX9 17 (by decide) f53 (fun _ h => h) (by decide) rfl dX9_findType_46 ?_
      refine x_iload_n C dX9_findType_49 rfl 3 rfl ?_
      refine x_iald C sh_102 hx dX9_findType_50 ?_
      refine x_iconst C (3 : Int32) (by decide) dX9_findType_51 ?_
      refine x_icmp_ne C 67 dX9_findType_52 rfl (fun h3 => ?_) (fun h3 => ?_)
      · refine x_aload_n C dX9_findType_67 rfl 2 rfl ?_
        refine x_getr C sh_87 rfl iX9 17 (by decide) f53 (fun _ h => h) (by decide) rfl dX9_findType_68 ?_
        refine x_iload_n C dX9_findType_71 rfl 3 rfl ?_
        refine x_iald C sh_102 hx dX9_findType_72 ?_
        refine x_if_ne C 100 dX9_findType_73 rfl (fun h4 => ?_) (fun h4 => ?_)
        · refine x_iconst C (0 : Int32) (by decide) dX9_findType_100 ?_
          refine x_istore C [(5, .int (0 : Int32)), (4, .int (σ 104 x.toNatClampNeg)), (3, .int (σ 103 x.toNatClampNeg)), (0, ra V 87), (1, .int x), (2, .int c1)] dX9_findType_101 (by decide) rfl ?_
          refine x_lv [3, 4, 5, 2, 1, 0] [(0, ra V 87), (1, .int x), (2, .int c1), (3, .int (σ 103 x.toNatClampNeg)), (4, .int (σ 104 x.toNatClampNeg)), (5, .int (0 : Int32))] rfl ?_
          refine x_loop (fun μ σ_ lv_ => ∃ (k : Nat), μ = 3 - k ∧ σ = σ_ ∧ lv_ = [(0, ra V 87), (1, .int x), (2, .int c1), (3, .int (σ 103 x.toNatClampNeg)), (4, .int (σ 104 x.toNatClampNeg)), (5, .int (nI k))] ∧ k ≤ 3 ∧ mPNN σ x c1 k = true) ⟨_, ⟨0, rfl, rfl, rfl, Nat.zero_le _, rfl⟩⟩ ?_
          rintro μ103 _ _ ⟨k, hμ103, rfl, rfl, hc103_0, hc103_1⟩ ih103
          refine x_iload C dX9_findType_103 5 rfl ?_
          refine x_iconst C (3 : Int32) (by decide) dX9_findType_105 ?_
          refine x_icmp_ge C 152 dX9_findType_106 rfl (fun h5 => ?_) (fun h5 => ?_)
          · have hk3 : k = 3 := Nat.le_antisymm hc103_0 (Nat.le_of_not_lt (fun hq => nI_ge hq (by decide) h5))
            have hpn : mPNN σ x c1 3 = true := hk3 ▸ hc103_1
            have hpp : vp_in (σ 105 ((3 : Int32) * x).toNatClampNeg) 50 := mv105a hM hx h4 h1 h2 h3
            refine x_aload_n C dX9_findType_152 rfl 0 rfl ?_
            refine x_aload_n C dX9_findType_153 rfl 0 rfl ?_
            refine x_getr C sh_87 rfl iX9 20 (by decide) f62 (fun _ h => h) (by decide) rfl dX9_findType_154 ?_
            refine x_iconst C (3 : Int32) (by decide) dX9_findType_157 ?_
            refine x_iload_n C dX9_findType_158 rfl 1 rfl ?_
            refine x_imul C dX9_findType_159 ?_
            refine x_iald C sh_105 (vp_le (vp_mulk 3 hx (by decide)) (by decide)) dX9_findType_160 ?_
            refine x_iload_n C dX9_findType_161 rfl 2 rfl ?_
            refine x_callV C sh_87 (by decide) rfl [.int (σ 105 ((3 : Int32) * x).toNatClampNeg), .int c1] (c_X9_typeIn l V hV σ (σ 105 ((3 : Int32) * x).toNatClampNeg) c1 hpp hc) (cwV 2 C.2.2.2.2.1 gX9_findType_X9_typeIn rfl rfl rfl (by decide +kernel) ⟨Nat.le_of_ble_eq_true rfl, Nat.le_of_ble_eq_true rfl⟩) rfl rfl (Nat.le_of_ble_eq_true rfl) dX9_findType_162 ⟨Nat.le_of_ble_eq_true rfl, Nat.le_of_ble_eq_true rfl⟩ (x_kI ?_)
            refine x_istore C [(5, .int (mTI σ (σ 105 ((3 : Int32) * x).toNatClampNeg) c1)), (0, ra V 87), (1, .int x), (2, .int c1), (3, .int (σ 103 x.toNatClampNeg)), (4, .int (σ 104 x.toNatClampNeg))] dX9_findType_165 (by decide) rfl ?_
            refine x_iload C dX9_findType_167 0 rfl ?_
            refine x_bipush C (8 : Int32) (by decide) dX9_findType_169 ?_
            refine x_icmp_ne C 178 dX9_findType_171 rfl (fun h6 => ?_) (fun h6 => ?_)
            · refine x_aload_n C dX9_findType_178 rfl 1 rfl ?_
              refine x_iload C dX9_findType_179 0 rfl ?_
              refine x_iload C dX9_findType_181 5 rfl ?_
              refine x_aload_n C dX9_findType_183 rfl 1 rfl ?_
              refine x_getr C sh_87 rfl iX9 17 (by decide) f53 (fun _ h => h) (by decide) rfl dX9_findType_184 ?_
              refine x_iload_n C dX9_findType_187 rfl 2 rfl ?_
              refine x_iald C sh_102 hx dX9_findType_188 ?_
              refine x_iconst C (5 : Int32) (by decide) dX9_findType_189 ?_
              refine x_icmp_ne C 197 dX9_findType_190 rfl (fun h7 => ?_) (fun h7 => ?_)
              · refine x_iconst C (0 : Int32) (by decide) dX9_findType_197 ?_
                refine x_iload_n C dX9_findType_198 rfl 3 rfl ?_
                refine x_callV C sh_87 (by decide) rfl [.int (mTI σ (σ 105 ((3 : Int32) * x).toNatClampNeg) c1), .int (σ 104 x.toNatClampNeg), .int (0 : Int32), .int c1] (c_X9_findMember l V hV σ (mTI σ (σ 105 ((3 : Int32) * x).toNatClampNeg) c1) (σ 104 x.toNatClampNeg) (0 : Int32) c1 hM) (cwV 4 C.2.2.2.2.1 gX9_findType_X9_findMember rfl rfl rfl (by decide +kernel) ⟨Nat.le_of_ble_eq_true rfl, Nat.le_of_ble_eq_true rfl⟩) rfl rfl (Nat.le_of_ble_eq_true rfl) dX9_findType_199 ⟨Nat.le_of_ble_eq_true rfl, Nat.le_of_ble_eq_true rfl⟩ (x_kI ?_)
                refine x_istore C [(6, .int (mFi σ (mTI σ (σ 105 ((3 : Int32) * x).toNatClampNeg) c1) (σ 104 x.toNatClampNeg) (0 : Int32) c1)), (5, .int (mTI σ (σ 105 ((3 : Int32) * x).toNatClampNeg) c1)), (0, ra V 87), (1, .int x), (2, .int c1), (3, .int (σ 103 x.toNatClampNeg)), (4, .int (σ 104 x.toNatClampNeg))] dX9_findType_202 (by decide) rfl ?_
                refine x_iload C dX9_findType_204 0 rfl ?_
                refine x_iconst C (-1 : Int32) (by decide) dX9_findType_206 ?_
                refine x_icmp_eq C 239 dX9_findType_207 rfl (fun h8 => ?_) (fun h8 => ?_)
                · refine x_aload_n C dX9_findType_239 rfl 2 rfl ?_
                  refine x_iload C dX9_findType_240 1 rfl ?_
                  refine x_bipush C (8 : Int32) (by decide) dX9_findType_242 ?_
                  refine x_icmp_ne C 252 dX9_findType_244 rfl (fun h9 => ?_) (fun h9 => absurd h9 h6)
                  refine x_iload C dX9_findType_252 0 rfl ?_
                  refine x_iconst C (-1 : Int32) (by decide) dX9_findType_254 ?_
                  refine x_icmp_ne C 263 dX9_findType_255 rfl (fun h10 => absurd h10 (fun q => q h8)) (fun h10 => ?_)
                  refine x_bipush C (10 : Int32) (by decide) dX9_findType_258 ?_
                  refine x_goto C 265 dX9_findType_260 rfl ?_
                  refine x_iload_n C dX9_findType_265 rfl 3 rfl ?_
                  refine x_iload_n C dX9_findType_266 rfl 4 rfl ?_
                  refine x_callV C sh_87 (by decide) rfl [.int (10 : Int32), .int x, .int c1] (c_X9_note l V hV σ (10 : Int32) x c1 (vp_le (vp_lit 10 (by decide)) (by decide)) hx) (cwV 3 C.2.2.2.2.1 gX9_findType_X9_note rfl rfl rfl (by decide +kernel) ⟨Nat.le_of_ble_eq_true rfl, Nat.le_of_ble_eq_true rfl⟩) rfl rfl (Nat.le_of_ble_eq_true rfl) dX9_findType_267 ⟨Nat.le_of_ble_eq_true rfl, Nat.le_of_ble_eq_true rfl⟩ (x_kV ?_)
                  refine x_iconst C (-1 : Int32) (by decide) dX9_findType_270 ?_
                  exact x_iret C hr hlk dX9_findType_271 ⟨by simp [mFT, mOf, mFd, h1, h2, h3, h4, hpn, h6, h7, eq_true h8], by simp [mFTs, mFT, mOf, mFd, h1, h2, h3, h4, hpn, h6, h7, eq_true h8]⟩
                · have hfd : vp_in (mFi σ (mTI σ (σ 105 ((3 : Int32) * x).toNatClampNeg) c1) (σ 104 x.toNatClampNeg) (0 : Int32) c1) 24 := mFi_in hM h8
                  refine x_aload_n C dX9_findType_210 rfl 2 rfl ?_
                  refine x_getr C sh_87 rfl iX9 17 (by decide) f53 (fun _ h => h) (by decide) rfl dX9_findType_211 ?_
                  refine x_iload_n C dX9_findType_214 rfl 3 rfl ?_
                  refine x_iald C sh_102 hx dX9_findType_215 ?_
                  refine x_iconst C (4 : Int32) (by decide) dX9_findType_216 ?_
                  refine x_icmp_eq C 231 dX9_findType_217 rfl (fun h11 => ?_) (fun h11 => ?_)
                  · refine x_aload_n C dX9_findType_231 rfl 2 rfl ?_
                    refine x_getr C sh_87 rfl iX9 13 (by decide) f44 (fun _ h => h) (by decide) rfl dX9_findType_232 ?_
                    refine x_iload C dX9_findType_235 0 rfl ?_
                    refine x_iald C sh_99 hfd dX9_findType_237 ?_
                    exact x_iret C hr hlk dX9_findType_238 ⟨by simp [mFT, mOf, mFd, h1, h2, h3, h4, hpn, h6, h7, h8, eq_true h11], by simp [mFTs, mFT, mOf, mFd, h1, h2, h3, h4, hpn, h6, h7, h8, eq_true h11]⟩
                  · refine x_aload_n C dX9_findType_220 rfl 2 rfl ?_
                    refine x_iload_n C dX9_findType_221 rfl 3 rfl ?_
                    refine x_iload C dX9_findType_222 0 rfl ?_
                    refine x_iload_n C dX9_findType_224 rfl 4 rfl ?_
                    refine x_callV C sh_87 (by decide) rfl [.int x, .int (mFi σ (mTI σ (σ 105 ((3 : Int32) * x).toNatClampNeg) c1) (σ 104 x.toNatClampNeg) (0 : Int32) c1), .int c1] (c_X9_areAccepted l V hV σ x (mFi σ (mTI σ (σ 105 ((3 : Int32) * x).toNatClampNeg) c1) (σ 104 x.toNatClampNeg) (0 : Int32) c1) c1 hM hx hfd hc) (cwV 3 C.2.2.2.2.1 gX9_findType_X9_areAccepted rfl rfl rfl (by decide +kernel) ⟨Nat.le_of_ble_eq_true rfl, Nat.le_of_ble_eq_true rfl⟩) rfl rfl (Nat.le_of_ble_eq_true rfl) dX9_findType_225 ⟨Nat.le_of_ble_eq_true rfl, Nat.le_of_ble_eq_true rfl⟩ (x_kI ?_)
                    refine x_bif_eq C 239 dX9_findType_228 rfl (fun h12 => ?_) (fun h12 => ?_)
                    · refine x_aload_n C dX9_findType_239 rfl 2 rfl ?_
                      refine x_iload C dX9_findType_240 1 rfl ?_
                      refine x_bipush C (8 : Int32) (by decide) dX9_findType_242 ?_
                      refine x_icmp_ne C 252 dX9_findType_244 rfl (fun h13 => ?_) (fun h13 => absurd h13 h6)
                      refine x_iload C dX9_findType_252 0 rfl ?_
                      refine x_iconst C (-1 : Int32) (by decide) dX9_findType_254 ?_
                      refine x_icmp_ne C 263 dX9_findType_255 rfl (fun h14 => ?_) (fun h14 => absurd h14 h8)
                      refine x_bipush C (11 : Int32) (by decide) dX9_findType_263 ?_
                      refine x_iload_n C dX9_findType_265 rfl 3 rfl ?_
                      refine x_iload_n C dX9_findType_266 rfl 4 rfl ?_
                      refine x_callV C sh_87 (by decide) rfl [.int (11 : Int32), .int x, .int c1] (c_X9_note l V hV σ (11 : Int32) x c1 (vp_le (vp_lit 11 (by decide)) (by decide)) hx) (cwV 3 C.2.2.2.2.1 gX9_findType_X9_note rfl rfl rfl (by decide +kernel) ⟨Nat.le_of_ble_eq_true rfl, Nat.le_of_ble_eq_true rfl⟩) rfl rfl (Nat.le_of_ble_eq_true rfl) dX9_findType_267 ⟨Nat.le_of_ble_eq_true rfl, Nat.le_of_ble_eq_true rfl⟩ (x_kV ?_)
                      refine x_iconst C (-1 : Int32) (by decide) dX9_findType_270 ?_
                      exact x_iret C hr hlk dX9_findType_271 ⟨by simp [mFT, mOf, mFd, h1, h2, h3, h4, hpn, h6, h7, h8, h11, h12], by simp [mFTs, mFT, mOf, mFd, h1, h2, h3, h4, hpn, h6, h7, h8, h11, h12]⟩
                    · refine x_aload_n C dX9_findType_231 rfl 2 rfl ?_
                      refine x_getr C sh_87 rfl iX9 13 (by decide) f44 (fun _ h => h) (by decide) rfl dX9_findType_232 ?_
                      refine x_iload C dX9_findType_235 0 rfl ?_
                      refine x_iald C sh_99 hfd dX9_findType_237 ?_
                      exact x_iret C hr hlk dX9_findType_238 ⟨by simp [mFT, mOf, mFd, h1, h2, h3, h4, hpn, h6, h7, h8, h11, h12], by simp [mFTs, mFT, mOf, mFd, h1, h2, h3, h4, hpn, h6, h7, h8, h11, h12]⟩
              · refine x_iconst C (1 : Int32) (by decide) dX9_findType_193 ?_
                refine x_goto C 198 dX9_findType_194 rfl ?_
                refine x_iload_n C dX9_findType_198 rfl 3 rfl ?_
                refine x_callV C sh_87 (by decide) rfl [.int (mTI σ (σ 105 ((3 : Int32) * x).toNatClampNeg) c1), .int (σ 104 x.toNatClampNeg), .int (1 : Int32), .int c1] (c_X9_findMember l V hV σ (mTI σ (σ 105 ((3 : Int32) * x).toNatClampNeg) c1) (σ 104 x.toNatClampNeg) (1 : Int32) c1 hM) (cwV 4 C.2.2.2.2.1 gX9_findType_X9_findMember rfl rfl rfl (by decide +kernel) ⟨Nat.le_of_ble_eq_true rfl, Nat.le_of_ble_eq_true rfl⟩) rfl rfl (Nat.le_of_ble_eq_true rfl) dX9_findType_199 ⟨Nat.le_of_ble_eq_true rfl, Nat.le_of_ble_eq_true rfl⟩ (x_kI ?_)
                refine x_istore C [(6, .int (mFi σ (mTI σ (σ 105 ((3 : Int32) * x).toNatClampNeg) c1) (σ 104 x.toNatClampNeg) (1 : Int32) c1)), (5, .int (mTI σ (σ 105 ((3 : Int32) * x).toNatClampNeg) c1)), (0, ra V 87), (1, .int x), (2, .int c1), (3, .int (σ 103 x.toNatClampNeg)), (4, .int (σ 104 x.toNatClampNeg))] dX9_findType_202 (by decide) rfl ?_
                refine x_iload C dX9_findType_204 0 rfl ?_
                refine x_iconst C (-1 : Int32) (by decide) dX9_findType_206 ?_
                refine x_icmp_eq C 239 dX9_findType_207 rfl (fun h15 => ?_) (fun h15 => ?_)
                · refine x_aload_n C dX9_findType_239 rfl 2 rfl ?_
                  refine x_iload C dX9_findType_240 1 rfl ?_
                  refine x_bipush C (8 : Int32) (by decide) dX9_findType_242 ?_
                  refine x_icmp_ne C 252 dX9_findType_244 rfl (fun h16 => ?_) (fun h16 => absurd h16 h6)
                  refine x_iload C dX9_findType_252 0 rfl ?_
                  refine x_iconst C (-1 : Int32) (by decide) dX9_findType_254 ?_
                  refine x_icmp_ne C 263 dX9_findType_255 rfl (fun h17 => absurd h17 (fun q => q h15)) (fun h17 => ?_)
                  refine x_bipush C (10 : Int32) (by decide) dX9_findType_258 ?_
                  refine x_goto C 265 dX9_findType_260 rfl ?_
                  refine x_iload_n C dX9_findType_265 rfl 3 rfl ?_
                  refine x_iload_n C dX9_findType_266 rfl 4 rfl ?_
                  refine x_callV C sh_87 (by decide) rfl [.int (10 : Int32), .int x, .int c1] (c_X9_note l V hV σ (10 : Int32) x c1 (vp_le (vp_lit 10 (by decide)) (by decide)) hx) (cwV 3 C.2.2.2.2.1 gX9_findType_X9_note rfl rfl rfl (by decide +kernel) ⟨Nat.le_of_ble_eq_true rfl, Nat.le_of_ble_eq_true rfl⟩) rfl rfl (Nat.le_of_ble_eq_true rfl) dX9_findType_267 ⟨Nat.le_of_ble_eq_true rfl, Nat.le_of_ble_eq_true rfl⟩ (x_kV ?_)
                  refine x_iconst C (-1 : Int32) (by decide) dX9_findType_270 ?_
                  exact x_iret C hr hlk dX9_findType_271 ⟨by simp [mFT, mOf, mFd, h1, h2, h3, h4, hpn, h6, eq_true h7, eq_true h15], by simp [mFTs, mFT, mOf, mFd, h1, h2, h3, h4, hpn, h6, eq_true h7, eq_true h15]⟩
                · have hfd : vp_in (mFi σ (mTI σ (σ 105 ((3 : Int32) * x).toNatClampNeg) c1) (σ 104 x.toNatClampNeg) (1 : Int32) c1) 24 := mFi_in hM h15
                  refine x_aload_n C dX9_findType_210 rfl 2 rfl ?_
                  refine x_getr C sh_87 rfl iX9 17 (by decide) f53 (fun _ h => h) (by decide) rfl dX9_findType_211 ?_
                  refine x_iload_n C dX9_findType_214 rfl 3 rfl ?_
                  refine x_iald C sh_102 hx dX9_findType_215 ?_
                  refine x_iconst C (4 : Int32) (by decide) dX9_findType_216 ?_
                  refine x_icmp_eq C 231 dX9_findType_217 rfl (fun h18 => ?_) (fun h18 => ?_)
                  · refine x_aload_n C dX9_findType_231 rfl 2 rfl ?_
                    refine x_getr C sh_87 rfl iX9 13 (by decide) f44 (fun _ h => h) (by decide) rfl dX9_findType_232 ?_
                    refine x_iload C dX9_findType_235 0 rfl ?_
                    refine x_iald C sh_99 hfd dX9_findType_237 ?_
                    exact x_iret C hr hlk dX9_findType_238 ⟨by simp [mFT, mOf, mFd, h1, h2, h3, h4, hpn, h6, eq_true h7, h15, eq_true h18], by simp [mFTs, mFT, mOf, mFd, h1, h2, h3, h4, hpn, h6, eq_true h7, h15, eq_true h18]⟩
                  · refine x_aload_n C dX9_findType_220 rfl 2 rfl ?_
                    refine x_iload_n C dX9_findType_221 rfl 3 rfl ?_
                    refine x_iload C dX9_findType_222 0 rfl ?_
                    refine x_iload_n C dX9_findType_224 rfl 4 rfl ?_
                    refine x_callV C sh_87 (by decide) rfl [.int x, .int (mFi σ (mTI σ (σ 105 ((3 : Int32) * x).toNatClampNeg) c1) (σ 104 x.toNatClampNeg) (1 : Int32) c1), .int c1] (c_X9_areAccepted l V hV σ x (mFi σ (mTI σ (σ 105 ((3 : Int32) * x).toNatClampNeg) c1) (σ 104 x.toNatClampNeg) (1 : Int32) c1) c1 hM hx hfd hc) (cwV 3 C.2.2.2.2.1 gX9_findType_X9_areAccepted rfl rfl rfl (by decide +kernel) ⟨Nat.le_of_ble_eq_true rfl, Nat.le_of_ble_eq_true rfl⟩) rfl rfl (Nat.le_of_ble_eq_true rfl) dX9_findType_225 ⟨Nat.le_of_ble_eq_true rfl, Nat.le_of_ble_eq_true rfl⟩ (x_kI ?_)
                    refine x_bif_eq C 239 dX9_findType_228 rfl (fun h19 => ?_) (fun h19 => ?_)
                    · refine x_aload_n C dX9_findType_239 rfl 2 rfl ?_
                      refine x_iload C dX9_findType_240 1 rfl ?_
                      refine x_bipush C (8 : Int32) (by decide) dX9_findType_242 ?_
                      refine x_icmp_ne C 252 dX9_findType_244 rfl (fun h20 => ?_) (fun h20 => absurd h20 h6)
                      refine x_iload C dX9_findType_252 0 rfl ?_
                      refine x_iconst C (-1 : Int32) (by decide) dX9_findType_254 ?_
                      refine x_icmp_ne C 263 dX9_findType_255 rfl (fun h21 => ?_) (fun h21 => absurd h21 h15)
                      refine x_bipush C (11 : Int32) (by decide) dX9_findType_263 ?_
                      refine x_iload_n C dX9_findType_265 rfl 3 rfl ?_
                      refine x_iload_n C dX9_findType_266 rfl 4 rfl ?_
                      refine x_callV C sh_87 (by decide) rfl [.int (11 : Int32), .int x, .int c1] (c_X9_note l V hV σ (11 : Int32) x c1 (vp_le (vp_lit 11 (by decide)) (by decide)) hx) (cwV 3 C.2.2.2.2.1 gX9_findType_X9_note rfl rfl rfl (by decide +kernel) ⟨Nat.le_of_ble_eq_true rfl, Nat.le_of_ble_eq_true rfl⟩) rfl rfl (Nat.le_of_ble_eq_true rfl) dX9_findType_267 ⟨Nat.le_of_ble_eq_true rfl, Nat.le_of_ble_eq_true rfl⟩ (x_kV ?_)
                      refine x_iconst C (-1 : Int32) (by decide) dX9_findType_270 ?_
                      exact x_iret C hr hlk dX9_findType_271 ⟨by simp [mFT, mOf, mFd, h1, h2, h3, h4, hpn, h6, eq_true h7, h15, h18, h19], by simp [mFTs, mFT, mOf, mFd, h1, h2, h3, h4, hpn, h6, eq_true h7, h15, h18, h19]⟩
                    · refine x_aload_n C dX9_findType_231 rfl 2 rfl ?_
                      refine x_getr C sh_87 rfl iX9 13 (by decide) f44 (fun _ h => h) (by decide) rfl dX9_findType_232 ?_
                      refine x_iload C dX9_findType_235 0 rfl ?_
                      refine x_iald C sh_99 hfd dX9_findType_237 ?_
                      exact x_iret C hr hlk dX9_findType_238 ⟨by simp [mFT, mOf, mFd, h1, h2, h3, h4, hpn, h6, eq_true h7, h15, h18, h19], by simp [mFTs, mFT, mOf, mFd, h1, h2, h3, h4, hpn, h6, eq_true h7, h15, h18, h19]⟩
            · refine x_iconst C (-1 : Int32) (by decide) dX9_findType_174 ?_
              refine x_goto C 202 dX9_findType_175 rfl ?_
              refine x_istore C [(6, .int (-1 : Int32)), (5, .int (mTI σ (σ 105 ((3 : Int32) * x).toNatClampNeg) c1)), (0, ra V 87), (1, .int x), (2, .int c1), (3, .int (σ 103 x.toNatClampNeg)), (4, .int (σ 104 x.toNatClampNeg))] dX9_findType_202 (by decide) rfl ?_
              refine x_iload C dX9_findType_204 0 rfl ?_
              refine x_iconst C (-1 : Int32) (by decide) dX9_findType_206 ?_
              refine x_icmp_eq C 239 dX9_findType_207 rfl (fun h22 => ?_) (fun h22 => absurd h22 (by decide))
              refine x_aload_n C dX9_findType_239 rfl 2 rfl ?_
              refine x_iload C dX9_findType_240 1 rfl ?_
              refine x_bipush C (8 : Int32) (by decide) dX9_findType_242 ?_
              refine x_icmp_ne C 252 dX9_findType_244 rfl (fun h23 => absurd h23 (fun q => q h6)) (fun h23 => ?_)
              refine x_bipush C (9 : Int32) (by decide) dX9_findType_247 ?_
              refine x_goto C 265 dX9_findType_249 rfl ?_
              refine x_iload_n C dX9_findType_265 rfl 3 rfl ?_
              refine x_iload_n C dX9_findType_266 rfl 4 rfl ?_
              refine x_callV C sh_87 (by decide) rfl [.int (9 : Int32), .int x, .int c1] (c_X9_note l V hV σ (9 : Int32) x c1 (vp_le (vp_lit 9 (by decide)) (by decide)) hx) (cwV 3 C.2.2.2.2.1 gX9_findType_X9_note rfl rfl rfl (by decide +kernel) ⟨Nat.le_of_ble_eq_true rfl, Nat.le_of_ble_eq_true rfl⟩) rfl rfl (Nat.le_of_ble_eq_true rfl) dX9_findType_267 ⟨Nat.le_of_ble_eq_true rfl, Nat.le_of_ble_eq_true rfl⟩ (x_kV ?_)
              refine x_iconst C (-1 : Int32) (by decide) dX9_findType_270 ?_
              exact x_iret C hr hlk dX9_findType_271 ⟨by simp [mFT, mOf, mFd, h1, h2, h3, h4, hpn, eq_true h6], by simp [mFTs, mFT, mOf, mFd, h1, h2, h3, h4, hpn, eq_true h6]⟩
          · have hkn : k < 3 := Nat.lt_of_not_le (fun hq => h5 (nI_le hq (by omega)))
            refine x_aload_n C dX9_findType_109 rfl 0 rfl ?_
            refine x_getr C sh_87 rfl iX9 20 (by decide) f62 (fun _ h => h) (by decide) rfl dX9_findType_110 ?_
            refine x_iconst C (3 : Int32) (by decide) dX9_findType_113 ?_
            refine x_iload_n C dX9_findType_114 rfl 1 rfl ?_
            refine x_imul C dX9_findType_115 ?_
            refine x_iload C dX9_findType_116 5 rfl ?_
            refine x_iadd C dX9_findType_118 ?_
            refine x_iald C sh_105 (vp_add (vp_mulk 3 hx (by decide)) (vp_in_nI (n := k) (N := 3) (by omega) (by decide)) (by decide)) dX9_findType_119 ?_
            refine x_iconst C (-1 : Int32) (by decide) dX9_findType_120 ?_
            refine x_icmp_eq C 146 dX9_findType_121 rfl (fun h24 => ?_) (fun h24 => ?_)
            · refine x_iinc C (q := 5) ((nI k) + (1 : Int32)) [(5, .int ((nI k) + (1 : Int32))), (0, ra V 87), (1, .int x), (2, .int c1), (3, .int (σ 103 x.toNatClampNeg)), (4, .int (σ 104 x.toNatClampNeg))] dX9_findType_146 rfl rfl (by decide) rfl ?_
              refine x_goto C 103 dX9_findType_149 rfl ?_
              refine x_lv [1, 2, 3, 4, 5, 0] [(0, ra V 87), (1, .int x), (2, .int c1), (3, .int (σ 103 x.toNatClampNeg)), (4, .int (σ 104 x.toNatClampNeg)), (5, .int ((nI k) + (1 : Int32)))] rfl ?_
              exact ih103 _ _ _ (by omega) ⟨k + 1, rfl, rfl, by rw [nI_succ], hkn, (by simp [mPNN, mPNb, hc103_1, h24])⟩
            · have hp9 : vp_in (σ 105 (((3 : Int32) * x) + (nI k)).toNatClampNeg) 50 := mv105 hM (vp_add (vp_mulk 3 hx (by decide)) (vp_in_nI (n := k) (N := 3) (by omega) (by decide)) (by decide)) h24
              refine x_aload_n C dX9_findType_124 rfl 0 rfl ?_
              refine x_aload_n C dX9_findType_125 rfl 0 rfl ?_
              refine x_getr C sh_87 rfl iX9 20 (by decide) f62 (fun _ h => h) (by decide) rfl dX9_findType_126 ?_
              refine x_iconst C (3 : Int32) (by decide) dX9_findType_129 ?_
              refine x_iload_n C dX9_findType_130 rfl 1 rfl ?_
              refine x_imul C dX9_findType_131 ?_
              refine x_iload C dX9_findType_132 5 rfl ?_
              refine x_iadd C dX9_findType_134 ?_
              refine x_iald C sh_105 (vp_add (vp_mulk 3 hx (by decide)) (vp_in_nI (n := k) (N := 3) (by omega) (by decide)) (by decide)) dX9_findType_135 ?_
              refine x_iload_n C dX9_findType_136 rfl 2 rfl ?_
              refine x_callV C sh_87 (by decide) rfl [.int (σ 105 (((3 : Int32) * x) + (nI k)).toNatClampNeg), .int c1] (c_X9_typeIn l V hV σ (σ 105 (((3 : Int32) * x) + (nI k)).toNatClampNeg) c1 hp9 hc) (cwV 2 C.2.2.2.2.1 gX9_findType_X9_typeIn rfl rfl rfl (by decide +kernel) ⟨Nat.le_of_ble_eq_true rfl, Nat.le_of_ble_eq_true rfl⟩) rfl rfl (Nat.le_of_ble_eq_true rfl) dX9_findType_137 ⟨Nat.le_of_ble_eq_true rfl, Nat.le_of_ble_eq_true rfl⟩ (x_kI ?_)
              refine x_iconst C (-1 : Int32) (by decide) dX9_findType_140 ?_
              refine x_icmp_ne C 146 dX9_findType_141 rfl (fun h25 => ?_) (fun h25 => ?_)
              · refine x_iinc C (q := 5) ((nI k) + (1 : Int32)) [(5, .int ((nI k) + (1 : Int32))), (0, ra V 87), (1, .int x), (2, .int c1), (3, .int (σ 103 x.toNatClampNeg)), (4, .int (σ 104 x.toNatClampNeg))] dX9_findType_146 rfl rfl (by decide) rfl ?_
                refine x_goto C 103 dX9_findType_149 rfl ?_
                refine x_lv [1, 2, 3, 4, 5, 0] [(0, ra V 87), (1, .int x), (2, .int c1), (3, .int (σ 103 x.toNatClampNeg)), (4, .int (σ 104 x.toNatClampNeg)), (5, .int ((nI k) + (1 : Int32)))] rfl ?_
                exact ih103 _ _ _ (by omega) ⟨k + 1, rfl, rfl, by rw [nI_succ], hkn, (by simp [mPNN, mPNb, hc103_1, h24, h25])⟩
              · have hbd : mPNN σ x c1 3 = false := mPNN_bad (k := k) (by simp [mPNb, h24, eq_true h25]) 3 hkn
                refine x_iconst C (-1 : Int32) (by decide) dX9_findType_144 ?_
                exact x_iret C hr hlk dX9_findType_145 ⟨by simp [mFT, hbd, h1, h2, h3, h4], by simp [mFTs, mFT, hbd, h1, h2, h3, h4]⟩
        · refine x_aload_n C dX9_findType_76 rfl 2 rfl ?_
          refine x_iconst C (0 : Int32) (by decide) dX9_findType_77 ?_
          refine x_iload C dX9_findType_78 0 rfl ?_
          refine x_iload_n C dX9_findType_80 rfl 4 rfl ?_
          refine x_callV C sh_87 (by decide) rfl [.int (0 : Int32), .int (σ 104 x.toNatClampNeg), .int c1] (c_X9_is_0 l V hV σ (σ 104 x.toNatClampNeg) c1 hM (vp_le (mv104 hM hx) (by decide))) (cwV 3 C.2.2.2.2.1 gX9_findType_X9_is rfl rfl rfl (by decide +kernel) ⟨Nat.le_of_ble_eq_true rfl, Nat.le_of_ble_eq_true rfl⟩) rfl rfl (Nat.le_of_ble_eq_true rfl) dX9_findType_81 ⟨Nat.le_of_ble_eq_true rfl, Nat.le_of_ble_eq_true rfl⟩ (x_kI ?_)
          refine x_bif_eq C 90 dX9_findType_84 rfl (fun h26 => ?_) (fun h26 => ?_)
          · refine x_aload_n C dX9_findType_90 rfl 2 rfl ?_
            refine x_bipush C (8 : Int32) (by decide) dX9_findType_91 ?_
            refine x_iload_n C dX9_findType_93 rfl 3 rfl ?_
            refine x_iload_n C dX9_findType_94 rfl 4 rfl ?_
            refine x_callV C sh_87 (by decide) rfl [.int (8 : Int32), .int x, .int c1] (c_X9_note l V hV σ (8 : Int32) x c1 (vp_le (vp_lit 8 (by decide)) (by decide)) hx) (cwV 3 C.2.2.2.2.1 gX9_findType_X9_note rfl rfl rfl (by decide +kernel) ⟨Nat.le_of_ble_eq_true rfl, Nat.le_of_ble_eq_true rfl⟩) rfl rfl (Nat.le_of_ble_eq_true rfl) dX9_findType_95 ⟨Nat.le_of_ble_eq_true rfl, Nat.le_of_ble_eq_true rfl⟩ (x_kV ?_)
            refine x_iconst C (-1 : Int32) (by decide) dX9_findType_98 ?_
            exact x_iret C hr hlk dX9_findType_99 ⟨by simp [mFT, mOf, mFd, h1, h2, h3, eq_true h4, h26], by simp [mFTs, mFT, mOf, mFd, h1, h2, h3, eq_true h4, h26]⟩
          · refine x_iload C dX9_findType_87 0 rfl ?_
            exact x_iret C hr hlk dX9_findType_89 ⟨by simp [mFT, mOf, mFd, h1, h2, h3, eq_true h4, h26], by simp [mFTs, mFT, mOf, mFd, h1, h2, h3, eq_true h4, h26]⟩
      · refine x_aload_n C dX9_findType_55 rfl 2 rfl ?_
        refine x_getr C sh_87 rfl iX9 14 (by decide) f47 (fun _ h => h) (by decide) rfl dX9_findType_56 ?_
        refine x_iconst C (2 : Int32) (by decide) dX9_findType_59 ?_
        refine x_iload_n C dX9_findType_60 rfl 1 rfl ?_
        refine x_imul C dX9_findType_61 ?_
        refine x_iload C dX9_findType_62 0 rfl ?_
        refine x_iadd C dX9_findType_64 ?_
        refine x_iald C sh_100 (vp_le (vp_add (vp_mulk 2 (mv103 hM hx) (by decide)) (mv104a hM hx h3) (by decide)) (by decide)) dX9_findType_65 ?_
        exact x_iret C hr hlk dX9_findType_66 ⟨by simp [mFT, mOf, mFd, h1, h2, eq_true h3], by simp [mFTs, mFT, mOf, mFd, h1, h2, eq_true h3]⟩
    · refine x_aload_n C dX9_findType_38 rfl 2 rfl ?_
      refine x_getr C sh_87 rfl iX9 11 (by decide) f38 (fun _ h => h) (by decide) rfl dX9_findType_39 ?_
      refine x_iload_n C dX9_findType_42 rfl 1 rfl ?_
      refine x_iald C sh_97 (mv103 hM hx) dX9_findType_43 ?_
      exact x_iret C hr hlk dX9_findType_44 ⟨by simp [mFT, mOf, mFd, h1, eq_true h2], by simp [mFTs, mFT, mOf, mFd, h1, eq_true h2]⟩
  · refine x_bipush C (8 : Int32) (by decide) dX9_findType_25 ?_
    exact x_iret C hr hlk dX9_findType_27 ⟨by simp [mFT, mOf, mFd, eq_true h1], by simp [mFTs, mFT, mOf, mFd, eq_true h1]⟩

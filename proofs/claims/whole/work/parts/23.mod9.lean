/-! The reference's digest. -/
theorem mDpN_0 (σ : xS) (s : Int32) (d : Int64) : mDpN σ s 0 d = d := rfl
theorem mDpN_s (σ : xS) (s : Int32) (k : Nat) (d : Int64) : mDpN σ s (k + 1) d = mDpN σ s k d * 31 + (mPres σ s (nI k)).toInt64 := rfl
theorem mDeN_0 (σ : xS) (d : Int64) : mDeN σ 0 d = d := rfl
theorem mDeN_z {σ : xS} {k : Nat} {d : Int64} (h : σ 107 k = 0) : mDeN σ (k + 1) d = mDeN σ k d := by rw [mDeN, if_pos h]
theorem mDeN_n {σ : xS} {k : Nat} {d : Int64} (h : ¬ σ 107 k = 0) : mDeN σ (k + 1) d = ((mDeN σ k d * 31 + (nI k / 50).toInt64) * 31 + (nI k - nI k / 50 * 50).toInt64) * 31 + (σ 107 k).toInt64 := by rw [mDeN, if_neg h]
theorem mDtI_0 (σ : xS) (e : Int32) (d : Int64) : mDtI σ e 0 d = d := rfl
theorem mDtI_y {σ : xS} {e : Int32} {k : Nat} {d : Int64} (h : mPr σ (nI k) = true) : mDtI σ e (k + 1) d = mDtI σ e k d * 31 + (mTI σ e (nI k)).toInt64 := by rw [mDtI, if_pos h]
theorem mDtI_x {σ : xS} {e : Int32} {k : Nat} {d : Int64} (h : mPr σ (nI k) = false) : mDtI σ e (k + 1) d = mDtI σ e k d := by rw [mDtI, if_neg (by rw [h]; decide)]
theorem mDtO_0 (σ : xS) (d : Int64) : mDtO σ 0 d = d := rfl
theorem mDtO_s (σ : xS) (k : Nat) (d : Int64) : mDtO σ (k + 1) d = mDtI σ (nI k) 16 (mDtO σ k d) := rfl
def mD0 (σ : xS) (d : Int64) : Int64 := ((((d + (mAll σ).toInt64) * 31 + (σ 91 0).toInt64) * 31 + (σ 91 1).toInt64) * 31 + (σ 91 2).toInt64) * 31 + (σ 91 3).toInt64
def mD1 (σ : xS) (d : Int64) : Int64 := mD0 σ d * 31 + (σ 210 0).toInt64
def mD2 (σ : xS) (d : Int64) : Int64 := mDpN σ 3 (σ 91 3).toNatClampNeg (mDpN σ 2 (σ 91 2).toNatClampNeg (mDpN σ 1 (σ 91 1).toNatClampNeg (mDpN σ 0 (σ 91 0).toNatClampNeg (mD1 σ d))))
def mD3 (σ : xS) (d : Int64) : Int64 := mDeN (mKn σ) 650 (mD2 σ d * 31 + (mCE (mKn σ)).toInt64)
def mDig (σ : xS) (d : Int64) : Int64 := mDtO (mKn σ) (mKn σ 210 0).toNatClampNeg (mD3 σ d)
set_option maxHeartbeats 4000000 in
set_option maxRecDepth 100000 in
theorem c_X9_digest (l : Launch) (V : xV) (hV : xInj V) (σ : xS) (hM : mV σ) : xM l yX9_digest wsX9_digest ({ frames := 10, cells := 0, slots := 0, locals := 239 }) V [ra V 87] σ (rL (mDig (t0 σ) 4619) (mKn (t0 σ))) := by
  refine xM_of (cc := cX9_digest) (maxL := 5) (ret := (some .long)) [(0, ra V 87)] hV (by decide) rfl rfl (Nat.le_of_ble_eq_true rfl) (fun p e s m args below meth c C hr hlk => ?_)
  have iX9 : ∀ w ∈ u_ws RX9 TX9 24, w ∈ wsX9_digest := by decide +kernel
  have f71 : (Cond.fieldLink RX9 71 RX9 (TX9 0).2.1 (TX9 0).2.2.1).before args s = true := C.2.2.2.2.1 _ (by decide +kernel)
  have f19 : (Cond.fieldLink RX9 19 RX9 (TX9 5).2.1 (TX9 5).2.2.1).before args s = true := C.2.2.2.2.1 _ (by decide +kernel)
  have f83 : (Cond.fieldLink RX9 83 RX9 (TX9 16).2.1 (TX9 16).2.2.1).before args s = true := C.2.2.2.2.1 _ (by decide +kernel)
  have f68 : (Cond.fieldLink RX9 68 RX9 (TX9 23).2.1 (TX9 23).2.2.1).before args s = true := C.2.2.2.2.1 _ (by decide +kernel)
  refine x_aload_n C dX9_digest_0 rfl 0 rfl ?_
  refine x_iconst C (0 : Int32) (by decide) dX9_digest_1 ?_
  refine x_puti (ty := .int) C sh_87 rfl iX9 0 (by decide) f71 (fun _ h => h) (by decide) rfl (by decide +kernel) (by decide +kernel) (by decide) rfl tyX9 tyX9_ok nmX9 (by decide +kernel) rfl rfl dX9_digest_2 ?_
  have hMt := t0_V hM
  refine x_s (σ' := t0 σ) rfl ?_
  refine x_ldc2 C (4619 : Int64) (C.2.2.2.2.1 _ (by decide +kernel)) dX9_digest_5 ?_
  refine x_aload_n C dX9_digest_8 rfl 0 rfl ?_
  refine x_callV C sh_87 (by decide) rfl [] (c_X9_allProducts l V hV (t0 σ)  hMt) (cwV 0 C.2.2.2.2.1 gX9_digest_X9_allProducts rfl rfl rfl (by decide +kernel) ⟨Nat.le_of_ble_eq_true rfl, Nat.le_of_ble_eq_true rfl⟩) rfl rfl (Nat.le_of_ble_eq_true rfl) dX9_digest_9 ⟨Nat.le_of_ble_eq_true rfl, Nat.le_of_ble_eq_true rfl⟩ (x_kI ?_)
  refine x_i2l C dX9_digest_12 ?_
  refine x_ladd C dX9_digest_13 ?_
  refine x_lstore_n C [(1, .long ((4619 : Int64) + ((mAll (t0 σ)).toInt64))), (0, ra V 87)] dX9_digest_14 rfl (by decide) rfl ?_
  refine x_iconst C (0 : Int32) (by decide) dX9_digest_15 ?_
  refine x_istore_n C [(3, .int (0 : Int32)), (1, .long ((4619 : Int64) + ((mAll (t0 σ)).toInt64))), (0, ra V 87)] dX9_digest_16 rfl (by decide) rfl ?_
  refine x_iload_n C dX9_digest_17 rfl 0 rfl ?_
  refine x_iconst C (3 : Int32) (by decide) dX9_digest_18 ?_
  refine x_icmp_gt C 42 dX9_digest_19 rfl (fun h1 => absurd h1 (by decide)) (fun h1 => ?_)
  refine x_lload_n C dX9_digest_22 rfl 1 rfl ?_
  refine x_ldc2 C (31 : Int64) (C.2.2.2.2.1 _ (by decide +kernel)) dX9_digest_23 ?_
  refine x_lmul C dX9_digest_26 ?_
  refine x_aload_n C dX9_digest_27 rfl 2 rfl ?_
  refine x_getr C sh_87 rfl iX9 5 (by decide) f19 (fun _ h => h) (by decide) rfl dX9_digest_28 ?_
  refine x_iload_n C dX9_digest_31 rfl 0 rfl ?_
  refine x_iald C sh_91 (vp_le (vp_lit 0 (by decide)) (by decide)) dX9_digest_32 ?_
  rw [cl0]
  refine x_i2l C dX9_digest_33 ?_
  refine x_ladd C dX9_digest_34 ?_
  refine x_lstore_n C [(1, .long ((((4619 : Int64) + ((mAll (t0 σ)).toInt64)) * (31 : Int64)) + (((t0 σ) 91 0).toInt64))), (3, .int (0 : Int32)), (0, ra V 87)] dX9_digest_35 rfl (by decide) rfl ?_
  refine x_iinc C (q := 1) (1 : Int32) [(3, .int (1 : Int32)), (1, .long ((((4619 : Int64) + ((mAll (t0 σ)).toInt64)) * (31 : Int64)) + (((t0 σ) 91 0).toInt64))), (0, ra V 87)] dX9_digest_36 rfl (by decide) (by decide) rfl ?_
  refine x_goto C 17 dX9_digest_39 rfl ?_
  refine x_iload_n C dX9_digest_17 rfl 0 rfl ?_
  refine x_iconst C (3 : Int32) (by decide) dX9_digest_18 ?_
  refine x_icmp_gt C 42 dX9_digest_19 rfl (fun h2 => absurd h2 (by decide)) (fun h2 => ?_)
  refine x_lload_n C dX9_digest_22 rfl 1 rfl ?_
  refine x_ldc2 C (31 : Int64) (C.2.2.2.2.1 _ (by decide +kernel)) dX9_digest_23 ?_
  refine x_lmul C dX9_digest_26 ?_
  refine x_aload_n C dX9_digest_27 rfl 2 rfl ?_
  refine x_getr C sh_87 rfl iX9 5 (by decide) f19 (fun _ h => h) (by decide) rfl dX9_digest_28 ?_
  refine x_iload_n C dX9_digest_31 rfl 0 rfl ?_
  refine x_iald C sh_91 (vp_le (vp_lit 1 (by decide)) (by decide)) dX9_digest_32 ?_
  rw [cl1]
  refine x_i2l C dX9_digest_33 ?_
  refine x_ladd C dX9_digest_34 ?_
  refine x_lstore_n C [(1, .long ((((((4619 : Int64) + ((mAll (t0 σ)).toInt64)) * (31 : Int64)) + (((t0 σ) 91 0).toInt64)) * (31 : Int64)) + (((t0 σ) 91 1).toInt64))), (3, .int (1 : Int32)), (0, ra V 87)] dX9_digest_35 rfl (by decide) rfl ?_
  refine x_iinc C (q := 1) (2 : Int32) [(3, .int (2 : Int32)), (1, .long ((((((4619 : Int64) + ((mAll (t0 σ)).toInt64)) * (31 : Int64)) + (((t0 σ) 91 0).toInt64)) * (31 : Int64)) + (((t0 σ) 91 1).toInt64))), (0, ra V 87)] dX9_digest_36 rfl (by decide) (by decide) rfl ?_
  refine x_goto C 17 dX9_digest_39 rfl ?_
  refine x_iload_n C dX9_digest_17 rfl 0 rfl ?_
  refine x_iconst C (3 : Int32) (by decide) dX9_digest_18 ?_
  refine x_icmp_gt C 42 dX9_digest_19 rfl (fun h3 => absurd h3 (by decide)) (fun h3 => ?_)
  refine x_lload_n C dX9_digest_22 rfl 1 rfl ?_
  refine x_ldc2 C (31 : Int64) (C.2.2.2.2.1 _ (by decide +kernel)) dX9_digest_23 ?_
  refine x_lmul C dX9_digest_26 ?_
  refine x_aload_n C dX9_digest_27 rfl 2 rfl ?_
  refine x_getr C sh_87 rfl iX9 5 (by decide) f19 (fun _ h => h) (by decide) rfl dX9_digest_28 ?_
  refine x_iload_n C dX9_digest_31 rfl 0 rfl ?_
  refine x_iald C sh_91 (vp_le (vp_lit 2 (by decide)) (by decide)) dX9_digest_32 ?_
  rw [cl2]
  refine x_i2l C dX9_digest_33 ?_
  refine x_ladd C dX9_digest_34 ?_
  refine x_lstore_n C [(1, .long ((((((((4619 : Int64) + ((mAll (t0 σ)).toInt64)) * (31 : Int64)) + (((t0 σ) 91 0).toInt64)) * (31 : Int64)) + (((t0 σ) 91 1).toInt64)) * (31 : Int64)) + (((t0 σ) 91 2).toInt64))), (3, .int (2 : Int32)), (0, ra V 87)] dX9_digest_35 rfl (by decide) rfl ?_
  refine x_iinc C (q := 1) (3 : Int32) [(3, .int (3 : Int32)), (1, .long ((((((((4619 : Int64) + ((mAll (t0 σ)).toInt64)) * (31 : Int64)) + (((t0 σ) 91 0).toInt64)) * (31 : Int64)) + (((t0 σ) 91 1).toInt64)) * (31 : Int64)) + (((t0 σ) 91 2).toInt64))), (0, ra V 87)] dX9_digest_36 rfl (by decide) (by decide) rfl ?_
  refine x_goto C 17 dX9_digest_39 rfl ?_
  refine x_iload_n C dX9_digest_17 rfl 0 rfl ?_
  refine x_iconst C (3 : Int32) (by decide) dX9_digest_18 ?_
  refine x_icmp_gt C 42 dX9_digest_19 rfl (fun h4 => absurd h4 (by decide)) (fun h4 => ?_)
  refine x_lload_n C dX9_digest_22 rfl 1 rfl ?_
  refine x_ldc2 C (31 : Int64) (C.2.2.2.2.1 _ (by decide +kernel)) dX9_digest_23 ?_
  refine x_lmul C dX9_digest_26 ?_
  refine x_aload_n C dX9_digest_27 rfl 2 rfl ?_
  refine x_getr C sh_87 rfl iX9 5 (by decide) f19 (fun _ h => h) (by decide) rfl dX9_digest_28 ?_
  refine x_iload_n C dX9_digest_31 rfl 0 rfl ?_
  refine x_iald C sh_91 (vp_lit 3 (by decide)) dX9_digest_32 ?_
  rw [cl3]
  refine x_i2l C dX9_digest_33 ?_
  refine x_ladd C dX9_digest_34 ?_
  refine x_lstore_n C [(1, .long ((((((((((4619 : Int64) + ((mAll (t0 σ)).toInt64)) * (31 : Int64)) + (((t0 σ) 91 0).toInt64)) * (31 : Int64)) + (((t0 σ) 91 1).toInt64)) * (31 : Int64)) + (((t0 σ) 91 2).toInt64)) * (31 : Int64)) + (((t0 σ) 91 3).toInt64))), (3, .int (3 : Int32)), (0, ra V 87)] dX9_digest_35 rfl (by decide) rfl ?_
  refine x_iinc C (q := 1) (4 : Int32) [(3, .int (4 : Int32)), (1, .long ((((((((((4619 : Int64) + ((mAll (t0 σ)).toInt64)) * (31 : Int64)) + (((t0 σ) 91 0).toInt64)) * (31 : Int64)) + (((t0 σ) 91 1).toInt64)) * (31 : Int64)) + (((t0 σ) 91 2).toInt64)) * (31 : Int64)) + (((t0 σ) 91 3).toInt64))), (0, ra V 87)] dX9_digest_36 rfl (by decide) (by decide) rfl ?_
  refine x_goto C 17 dX9_digest_39 rfl ?_
  refine x_iload_n C dX9_digest_17 rfl 0 rfl ?_
  refine x_iconst C (3 : Int32) (by decide) dX9_digest_18 ?_
  refine x_icmp_gt C 42 dX9_digest_19 rfl (fun h5 => ?_) (fun h5 => absurd h5 (by decide))
  refine x_lload_n C dX9_digest_42 rfl 1 rfl ?_
  refine x_ldc2 C (31 : Int64) (C.2.2.2.2.1 _ (by decide +kernel)) dX9_digest_43 ?_
  refine x_lmul C dX9_digest_46 ?_
  refine x_aload_n C dX9_digest_47 rfl 2 rfl ?_
  refine x_geti C sh_87 rfl iX9 16 (by decide) f83 (fun _ h => h) (by decide) rfl dX9_digest_48 ?_
  refine x_i2l C dX9_digest_51 ?_
  refine x_ladd C dX9_digest_52 ?_
  refine x_nmL (fun d1 hd1 => ?_)
  refine x_lstore_n C [(1, .long d1), (3, .int (4 : Int32)), (0, ra V 87)] dX9_digest_53 rfl (by decide) rfl ?_
  refine x_iconst C (0 : Int32) (by decide) dX9_digest_54 ?_
  refine x_istore_n C [(3, .int (0 : Int32)), (1, .long d1), (0, ra V 87)] dX9_digest_55 rfl (by decide) rfl ?_
  refine x_iload_n C dX9_digest_56 rfl 0 rfl ?_
  refine x_iconst C (3 : Int32) (by decide) dX9_digest_57 ?_
  refine x_icmp_gt C 102 dX9_digest_58 rfl (fun h6 => absurd h6 (by decide)) (fun h6 => ?_)
  refine x_iconst C (0 : Int32) (by decide) dX9_digest_61 ?_
  refine x_istore C [(4, .int (0 : Int32)), (3, .int (0 : Int32)), (1, .long d1), (0, ra V 87)] dX9_digest_62 (by decide) rfl ?_
  refine x_lv [3, 2, 1, 0] [(0, ra V 87), (1, .long d1), (3, .int (0 : Int32)), (4, .int (0 : Int32))] rfl ?_
  refine x_loop (fun μ σ_ lv_ => ∃ (k : Nat), μ = (t0 σ 91 0).toNatClampNeg - k ∧ t0 σ = σ_ ∧ lv_ = [(0, ra V 87), (1, .long (mDpN (t0 σ) (0 : Int32) k d1)), (3, .int (0 : Int32)), (4, .int (nI k))] ∧ k ≤ (t0 σ 91 0).toNatClampNeg) ⟨_, ⟨0, rfl, rfl, by rw [mDpN_0]; rfl, Nat.zero_le _⟩⟩ ?_
  rintro μ64 _ _ ⟨k, hμ64, rfl, rfl, hc64_0⟩ ih64
  refine x_iload C dX9_digest_64 3 rfl ?_
  refine x_aload_n C dX9_digest_66 rfl 0 rfl ?_
  refine x_getr C sh_87 rfl iX9 5 (by decide) f19 (fun _ h => h) (by decide) rfl dX9_digest_67 ?_
  refine x_iload_n C dX9_digest_70 rfl 2 rfl ?_
  refine x_iald C sh_91 (vp_le (vp_lit 0 (by decide)) (by decide)) dX9_digest_71 ?_
  rw [cl0]
  refine x_icmp_ge C 96 dX9_digest_72 rfl (fun h7 => ?_) (fun h7 => ?_)
  · have hk0 : k = (t0 σ 91 0).toNatClampNeg := Nat.le_antisymm hc64_0 ((le_nI (by have := clamp_lt (t0 σ 91 0); omega)).mp h7)
    subst hk0
    refine x_iinc C (q := 2) (1 : Int32) [(3, .int (1 : Int32)), (0, ra V 87), (1, .long (mDpN (t0 σ) (0 : Int32) (t0 σ 91 0).toNatClampNeg d1)), (4, .int (nI (t0 σ 91 0).toNatClampNeg))] dX9_digest_96 rfl (by decide) (by decide) rfl ?_
    refine x_goto C 56 dX9_digest_99 rfl ?_
    refine x_iload_n C dX9_digest_56 rfl 0 rfl ?_
    refine x_iconst C (3 : Int32) (by decide) dX9_digest_57 ?_
    refine x_icmp_gt C 102 dX9_digest_58 rfl (fun h8 => absurd h8 (by decide)) (fun h8 => ?_)
    refine x_iconst C (0 : Int32) (by decide) dX9_digest_61 ?_
    refine x_istore C [(4, .int (0 : Int32)), (3, .int (1 : Int32)), (0, ra V 87), (1, .long (mDpN (t0 σ) (0 : Int32) (t0 σ 91 0).toNatClampNeg d1))] dX9_digest_62 (by decide) rfl ?_
    refine x_lv [2, 3, 1, 0] [(0, ra V 87), (1, .long (mDpN (t0 σ) (0 : Int32) (t0 σ 91 0).toNatClampNeg d1)), (3, .int (1 : Int32)), (4, .int (0 : Int32))] rfl ?_
    refine x_loop (fun μ σ_ lv_ => ∃ (k : Nat), μ = (t0 σ 91 1).toNatClampNeg - k ∧ t0 σ = σ_ ∧ lv_ = [(0, ra V 87), (1, .long (mDpN (t0 σ) (1 : Int32) k (mDpN (t0 σ) (0 : Int32) (t0 σ 91 0).toNatClampNeg d1))), (3, .int (1 : Int32)), (4, .int (nI k))] ∧ k ≤ (t0 σ 91 1).toNatClampNeg) ⟨_, ⟨0, rfl, rfl, by rw [mDpN_0]; rfl, Nat.zero_le _⟩⟩ ?_
    rintro μ64 _ _ ⟨k, hμ64, rfl, rfl, hc64_0⟩ ih64
    refine x_iload C dX9_digest_64 3 rfl ?_
    refine x_aload_n C dX9_digest_66 rfl 0 rfl ?_
    refine x_getr C sh_87 rfl iX9 5 (by decide) f19 (fun _ h => h) (by decide) rfl dX9_digest_67 ?_
    refine x_iload_n C dX9_digest_70 rfl 2 rfl ?_
    refine x_iald C sh_91 (vp_le (vp_lit 1 (by decide)) (by decide)) dX9_digest_71 ?_
    rw [cl1]
    refine x_icmp_ge C 96 dX9_digest_72 rfl (fun h9 => ?_) (fun h9 => ?_)
    · have hk1 : k = (t0 σ 91 1).toNatClampNeg := Nat.le_antisymm hc64_0 ((le_nI (by have := clamp_lt (t0 σ 91 1); omega)).mp h9)
      subst hk1
      refine x_iinc C (q := 2) (2 : Int32) [(3, .int (2 : Int32)), (0, ra V 87), (1, .long (mDpN (t0 σ) (1 : Int32) (t0 σ 91 1).toNatClampNeg (mDpN (t0 σ) (0 : Int32) (t0 σ 91 0).toNatClampNeg d1))), (4, .int (nI (t0 σ 91 1).toNatClampNeg))] dX9_digest_96 rfl (by decide) (by decide) rfl ?_
      refine x_goto C 56 dX9_digest_99 rfl ?_
      refine x_iload_n C dX9_digest_56 rfl 0 rfl ?_
      refine x_iconst C (3 : Int32) (by decide) dX9_digest_57 ?_
      refine x_icmp_gt C 102 dX9_digest_58 rfl (fun h10 => absurd h10 (by decide)) (fun h10 => ?_)
      refine x_iconst C (0 : Int32) (by decide) dX9_digest_61 ?_
      refine x_istore C [(4, .int (0 : Int32)), (3, .int (2 : Int32)), (0, ra V 87), (1, .long (mDpN (t0 σ) (1 : Int32) (t0 σ 91 1).toNatClampNeg (mDpN (t0 σ) (0 : Int32) (t0 σ 91 0).toNatClampNeg d1)))] dX9_digest_62 (by decide) rfl ?_
      refine x_lv [2, 3, 1, 0] [(0, ra V 87), (1, .long (mDpN (t0 σ) (1 : Int32) (t0 σ 91 1).toNatClampNeg (mDpN (t0 σ) (0 : Int32) (t0 σ 91 0).toNatClampNeg d1))), (3, .int (2 : Int32)), (4, .int (0 : Int32))] rfl ?_
      refine x_loop (fun μ σ_ lv_ => ∃ (k : Nat), μ = (t0 σ 91 2).toNatClampNeg - k ∧ t0 σ = σ_ ∧ lv_ = [(0, ra V 87), (1, .long (mDpN (t0 σ) (2 : Int32) k (mDpN (t0 σ) (1 : Int32) (t0 σ 91 1).toNatClampNeg (mDpN (t0 σ) (0 : Int32) (t0 σ 91 0).toNatClampNeg d1)))), (3, .int (2 : Int32)), (4, .int (nI k))] ∧ k ≤ (t0 σ 91 2).toNatClampNeg) ⟨_, ⟨0, rfl, rfl, by rw [mDpN_0]; rfl, Nat.zero_le _⟩⟩ ?_
      rintro μ64 _ _ ⟨k, hμ64, rfl, rfl, hc64_0⟩ ih64
      refine x_iload C dX9_digest_64 3 rfl ?_
      refine x_aload_n C dX9_digest_66 rfl 0 rfl ?_
      refine x_getr C sh_87 rfl iX9 5 (by decide) f19 (fun _ h => h) (by decide) rfl dX9_digest_67 ?_
      refine x_iload_n C dX9_digest_70 rfl 2 rfl ?_
      refine x_iald C sh_91 (vp_le (vp_lit 2 (by decide)) (by decide)) dX9_digest_71 ?_
      rw [cl2]
      refine x_icmp_ge C 96 dX9_digest_72 rfl (fun h11 => ?_) (fun h11 => ?_)
      · have hk2 : k = (t0 σ 91 2).toNatClampNeg := Nat.le_antisymm hc64_0 ((le_nI (by have := clamp_lt (t0 σ 91 2); omega)).mp h11)
        subst hk2
        refine x_iinc C (q := 2) (3 : Int32) [(3, .int (3 : Int32)), (0, ra V 87), (1, .long (mDpN (t0 σ) (2 : Int32) (t0 σ 91 2).toNatClampNeg (mDpN (t0 σ) (1 : Int32) (t0 σ 91 1).toNatClampNeg (mDpN (t0 σ) (0 : Int32) (t0 σ 91 0).toNatClampNeg d1)))), (4, .int (nI (t0 σ 91 2).toNatClampNeg))] dX9_digest_96 rfl (by decide) (by decide) rfl ?_
        refine x_goto C 56 dX9_digest_99 rfl ?_
        refine x_iload_n C dX9_digest_56 rfl 0 rfl ?_
        refine x_iconst C (3 : Int32) (by decide) dX9_digest_57 ?_
        refine x_icmp_gt C 102 dX9_digest_58 rfl (fun h12 => absurd h12 (by decide)) (fun h12 => ?_)
        refine x_iconst C (0 : Int32) (by decide) dX9_digest_61 ?_
        refine x_istore C [(4, .int (0 : Int32)), (3, .int (3 : Int32)), (0, ra V 87), (1, .long (mDpN (t0 σ) (2 : Int32) (t0 σ 91 2).toNatClampNeg (mDpN (t0 σ) (1 : Int32) (t0 σ 91 1).toNatClampNeg (mDpN (t0 σ) (0 : Int32) (t0 σ 91 0).toNatClampNeg d1))))] dX9_digest_62 (by decide) rfl ?_
        refine x_lv [2, 3, 1, 0] [(0, ra V 87), (1, .long (mDpN (t0 σ) (2 : Int32) (t0 σ 91 2).toNatClampNeg (mDpN (t0 σ) (1 : Int32) (t0 σ 91 1).toNatClampNeg (mDpN (t0 σ) (0 : Int32) (t0 σ 91 0).toNatClampNeg d1)))), (3, .int (3 : Int32)), (4, .int (0 : Int32))] rfl ?_
        refine x_loop (fun μ σ_ lv_ => ∃ (k : Nat), μ = (t0 σ 91 3).toNatClampNeg - k ∧ t0 σ = σ_ ∧ lv_ = [(0, ra V 87), (1, .long (mDpN (t0 σ) (3 : Int32) k (mDpN (t0 σ) (2 : Int32) (t0 σ 91 2).toNatClampNeg (mDpN (t0 σ) (1 : Int32) (t0 σ 91 1).toNatClampNeg (mDpN (t0 σ) (0 : Int32) (t0 σ 91 0).toNatClampNeg d1))))), (3, .int (3 : Int32)), (4, .int (nI k))] ∧ k ≤ (t0 σ 91 3).toNatClampNeg) ⟨_, ⟨0, rfl, rfl, by rw [mDpN_0]; rfl, Nat.zero_le _⟩⟩ ?_
        rintro μ64 _ _ ⟨k, hμ64, rfl, rfl, hc64_0⟩ ih64
        refine x_iload C dX9_digest_64 3 rfl ?_
        refine x_aload_n C dX9_digest_66 rfl 0 rfl ?_
        refine x_getr C sh_87 rfl iX9 5 (by decide) f19 (fun _ h => h) (by decide) rfl dX9_digest_67 ?_
        refine x_iload_n C dX9_digest_70 rfl 2 rfl ?_
        refine x_iald C sh_91 (vp_lit 3 (by decide)) dX9_digest_71 ?_
        rw [cl3]
        refine x_icmp_ge C 96 dX9_digest_72 rfl (fun h13 => ?_) (fun h13 => ?_)
        · have hk3 : k = (t0 σ 91 3).toNatClampNeg := Nat.le_antisymm hc64_0 ((le_nI (by have := clamp_lt (t0 σ 91 3); omega)).mp h13)
          subst hk3
          refine x_iinc C (q := 2) (4 : Int32) [(3, .int (4 : Int32)), (0, ra V 87), (1, .long (mDpN (t0 σ) (3 : Int32) (t0 σ 91 3).toNatClampNeg (mDpN (t0 σ) (2 : Int32) (t0 σ 91 2).toNatClampNeg (mDpN (t0 σ) (1 : Int32) (t0 σ 91 1).toNatClampNeg (mDpN (t0 σ) (0 : Int32) (t0 σ 91 0).toNatClampNeg d1))))), (4, .int (nI (t0 σ 91 3).toNatClampNeg))] dX9_digest_96 rfl (by decide) (by decide) rfl ?_
          refine x_goto C 56 dX9_digest_99 rfl ?_
          refine x_iload_n C dX9_digest_56 rfl 0 rfl ?_
          refine x_iconst C (3 : Int32) (by decide) dX9_digest_57 ?_
          refine x_icmp_gt C 102 dX9_digest_58 rfl (fun h14 => ?_) (fun h14 => absurd h14 (by decide))
          refine x_lload_n C dX9_digest_102 rfl 2 rfl ?_
          refine x_ldc2 C (31 : Int64) (C.2.2.2.2.1 _ (by decide +kernel)) dX9_digest_103 ?_
          refine x_lmul C dX9_digest_106 ?_
          refine x_aload_n C dX9_digest_107 rfl 1 rfl ?_
          refine x_callV C sh_87 (by decide) rfl [] (c_X9_countErrors l V hV (t0 σ)  hMt) (cwV 0 C.2.2.2.2.1 gX9_digest_X9_countErrors rfl rfl rfl (by decide +kernel) ⟨Nat.le_of_ble_eq_true rfl, Nat.le_of_ble_eq_true rfl⟩) rfl rfl (Nat.le_of_ble_eq_true rfl) dX9_digest_108 ⟨Nat.le_of_ble_eq_true rfl, Nat.le_of_ble_eq_true rfl⟩ (x_kI ?_)
          refine x_i2l C dX9_digest_111 ?_
          refine x_ladd C dX9_digest_112 ?_
          refine x_nmL (fun d3 hd3 => ?_)
          refine x_lstore_n C [(1, .long d3), (3, .int (4 : Int32)), (0, ra V 87), (4, .int (nI (t0 σ 91 3).toNatClampNeg))] dX9_digest_113 rfl (by decide) rfl ?_
          refine x_iconst C (0 : Int32) (by decide) dX9_digest_114 ?_
          refine x_istore_n C [(3, .int (0 : Int32)), (1, .long d3), (0, ra V 87), (4, .int (nI (t0 σ 91 3).toNatClampNeg))] dX9_digest_115 rfl (by decide) rfl ?_
          refine x_lv [2, 1, 0] [(0, ra V 87), (1, .long d3), (3, .int (0 : Int32))] rfl ?_
          refine x_loop (fun μ σ_ lv_ => ∃ (k : Nat), μ = 650 - k ∧ mKn (t0 σ) = σ_ ∧ lv_ = [(0, ra V 87), (1, .long (mDeN (mKn (t0 σ)) k d3)), (3, .int (nI k))] ∧ k ≤ 650) ⟨_, ⟨0, rfl, rfl, by rw [mDeN_0]; rfl, Nat.zero_le _⟩⟩ ?_
          rintro μ116 _ _ ⟨k, hμ116, rfl, rfl, hc116_0⟩ ih116
          refine x_iload_n C dX9_digest_116 rfl 2 rfl ?_
          refine x_sipush C (650 : Int32) (by decide) dX9_digest_117 ?_
          refine x_icmp_ge C 172 dX9_digest_120 rfl (fun h15 => ?_) (fun h15 => ?_)
          · have hk650 : k = 650 := Nat.le_antisymm hc116_0 (Nat.le_of_not_lt (fun hq => nI_ge hq (by decide) h15))
            subst hk650
            refine x_iconst C (0 : Int32) (by decide) dX9_digest_172 ?_
            refine x_istore_n C [(3, .int (0 : Int32)), (0, ra V 87), (1, .long (mDeN (mKn (t0 σ)) 650 d3))] dX9_digest_173 rfl (by decide) rfl ?_
            refine x_lv [1, 2, 0] [(0, ra V 87), (1, .long (mDeN (mKn (t0 σ)) 650 d3)), (3, .int (0 : Int32))] rfl ?_
            refine x_loop (fun μ σ_ lv_ => ∃ (k : Nat), μ = (mKn (t0 σ) 210 0).toNatClampNeg - k ∧ mKn (t0 σ) = σ_ ∧ lv_ = [(0, ra V 87), (1, .long (mDtO (mKn (t0 σ)) k (mDeN (mKn (t0 σ)) 650 d3))), (3, .int (nI k))] ∧ k ≤ (mKn (t0 σ) 210 0).toNatClampNeg) ⟨_, ⟨0, rfl, rfl, by rw [mDtO_0]; rfl, Nat.zero_le _⟩⟩ ?_
            rintro μ174 _ _ ⟨k, hμ174, rfl, rfl, hc174_0⟩ ih174
            refine x_iload_n C dX9_digest_174 rfl 2 rfl ?_
            refine x_aload_n C dX9_digest_175 rfl 0 rfl ?_
            refine x_geti C sh_87 rfl iX9 16 (by decide) f83 (fun _ h => h) (by decide) rfl dX9_digest_176 ?_
            refine x_icmp_ge C 228 dX9_digest_179 rfl (fun h16 => ?_) (fun h16 => ?_)
            · refine x_lload_n C dX9_digest_228 rfl 1 rfl ?_
              exact x_lret C hr hlk dX9_digest_229 ⟨by rw [mDig, mD3, mD2, mD1, mD0, ← hd1, ← hd3, show (mKn (t0 σ) 210 0).toNatClampNeg = k from Nat.le_antisymm ((le_nI (by have := clamp_lt (mKn (t0 σ) 210 0); omega)).mp h16) hc174_0], rfl⟩
            · have hbe := (mvce (mKn_V hMt)).2
              have hkn : k < (mKn (t0 σ) 210 0).toNatClampNeg := Nat.lt_of_not_le (fun hq => h16 ((le_nI (by have := clamp_lt (mKn (t0 σ) 210 0); omega)).mpr hq))
              refine x_iconst C (0 : Int32) (by decide) dX9_digest_182 ?_
              refine x_istore C [(4, .int (0 : Int32)), (0, ra V 87), (1, .long (mDtO (mKn (t0 σ)) k (mDeN (mKn (t0 σ)) 650 d3))), (3, .int (nI k))] dX9_digest_183 (by decide) rfl ?_
              refine x_lv [1, 2, 3, 0] [(0, ra V 87), (1, .long (mDtO (mKn (t0 σ)) k (mDeN (mKn (t0 σ)) 650 d3))), (3, .int (nI k)), (4, .int (0 : Int32))] rfl ?_
              refine x_loop (fun μ σ_ lv_ => ∃ (j : Nat), μ = 16 - j ∧ mKn (t0 σ) = σ_ ∧ lv_ = [(0, ra V 87), (1, .long (mDtI (mKn (t0 σ)) (nI k) j (mDtO (mKn (t0 σ)) k (mDeN (mKn (t0 σ)) 650 d3)))), (3, .int (nI k)), (4, .int (nI j))] ∧ j ≤ 16) ⟨_, ⟨0, rfl, rfl, by rw [mDtI_0]; rfl, Nat.zero_le _⟩⟩ ?_
              rintro μ185 _ _ ⟨j, hμ185, rfl, rfl, hc185_0⟩ ih185
              refine x_iload C dX9_digest_185 3 rfl ?_
              refine x_bipush C (16 : Int32) (by decide) dX9_digest_187 ?_
              refine x_icmp_ge C 222 dX9_digest_189 rfl (fun h17 => ?_) (fun h17 => ?_)
              · have hj16 : j = 16 := Nat.le_antisymm hc185_0 (Nat.le_of_not_lt (fun hq => nI_ge hq (by decide) h17))
                refine x_iinc C (q := 2) ((nI k) + (1 : Int32)) [(3, .int ((nI k) + (1 : Int32))), (0, ra V 87), (1, .long (mDtI (mKn (t0 σ)) (nI k) j (mDtO (mKn (t0 σ)) k (mDeN (mKn (t0 σ)) 650 d3)))), (4, .int (nI j))] dX9_digest_222 rfl rfl (by decide) rfl ?_
                refine x_goto C 174 dX9_digest_225 rfl ?_
                refine x_lv [1, 2, 0] [(0, ra V 87), (1, .long (mDtI (mKn (t0 σ)) (nI k) j (mDtO (mKn (t0 σ)) k (mDeN (mKn (t0 σ)) 650 d3)))), (3, .int ((nI k) + (1 : Int32)))] rfl ?_
                exact ih174 _ _ _ (by omega) ⟨k + 1, rfl, rfl, by rw [nI_succ, mDtO_s, hj16], hkn⟩
              · have hjn : j < 16 := Nat.lt_of_not_le (fun hq => h17 (nI_le hq (by omega)))
                refine x_aload_n C dX9_digest_192 rfl 0 rfl ?_
                refine x_iload C dX9_digest_193 3 rfl ?_
                refine x_callV C sh_87 (by decide) rfl [.int (nI j)] (c_X9_isProduct l V hV (mKn (t0 σ)) (nI j) (mKn_V hMt)) (cwV 1 C.2.2.2.2.1 gX9_digest_X9_isProduct rfl rfl rfl (by decide +kernel) ⟨Nat.le_of_ble_eq_true rfl, Nat.le_of_ble_eq_true rfl⟩) rfl rfl (Nat.le_of_ble_eq_true rfl) dX9_digest_195 ⟨Nat.le_of_ble_eq_true rfl, Nat.le_of_ble_eq_true rfl⟩ (x_kI ?_)
                refine x_bif_eq C 216 dX9_digest_198 rfl (fun h18 => ?_) (fun h18 => ?_)
                · refine x_iinc C (q := 3) ((nI j) + (1 : Int32)) [(4, .int ((nI j) + (1 : Int32))), (0, ra V 87), (1, .long (mDtI (mKn (t0 σ)) (nI k) j (mDtO (mKn (t0 σ)) k (mDeN (mKn (t0 σ)) 650 d3)))), (3, .int (nI k))] dX9_digest_216 rfl rfl (by decide) rfl ?_
                  refine x_goto C 185 dX9_digest_219 rfl ?_
                  refine x_lv [1, 2, 3, 0] [(0, ra V 87), (1, .long (mDtI (mKn (t0 σ)) (nI k) j (mDtO (mKn (t0 σ)) k (mDeN (mKn (t0 σ)) 650 d3)))), (3, .int (nI k)), (4, .int ((nI j) + (1 : Int32)))] rfl ?_
                  exact ih185 _ _ _ (by omega) ⟨j + 1, rfl, rfl, by rw [nI_succ]; first | rw [mDtI_y h18] | rw [mDtI_x h18], hjn⟩
                · refine x_lload_n C dX9_digest_201 rfl 1 rfl ?_
                  refine x_ldc2 C (31 : Int64) (C.2.2.2.2.1 _ (by decide +kernel)) dX9_digest_202 ?_
                  refine x_lmul C dX9_digest_205 ?_
                  refine x_aload_n C dX9_digest_206 rfl 0 rfl ?_
                  refine x_iload_n C dX9_digest_207 rfl 2 rfl ?_
                  refine x_iload C dX9_digest_208 3 rfl ?_
                  refine x_callV C sh_87 (by decide) rfl [.int (nI k), .int (nI j)] (c_X9_typeIn l V hV (mKn (t0 σ)) (nI k) (nI j) (vp_in_nI (n := k) (N := 50) (by omega) (by decide)) (vp_in_nI (n := j) (N := 16) (by omega) (by decide))) (cwV 2 C.2.2.2.2.1 gX9_digest_X9_typeIn rfl rfl rfl (by decide +kernel) ⟨Nat.le_of_ble_eq_true rfl, Nat.le_of_ble_eq_true rfl⟩) rfl rfl (Nat.le_of_ble_eq_true rfl) dX9_digest_210 ⟨Nat.le_of_ble_eq_true rfl, Nat.le_of_ble_eq_true rfl⟩ (x_kI ?_)
                  refine x_i2l C dX9_digest_213 ?_
                  refine x_ladd C dX9_digest_214 ?_
                  refine x_lstore_n C [(1, .long (((mDtI (mKn (t0 σ)) (nI k) j (mDtO (mKn (t0 σ)) k (mDeN (mKn (t0 σ)) 650 d3))) * (31 : Int64)) + ((mTI (mKn (t0 σ)) (nI k) (nI j)).toInt64))), (0, ra V 87), (3, .int (nI k)), (4, .int (nI j))] dX9_digest_215 rfl (by decide) rfl ?_
                  refine x_iinc C (q := 3) ((nI j) + (1 : Int32)) [(4, .int ((nI j) + (1 : Int32))), (1, .long (((mDtI (mKn (t0 σ)) (nI k) j (mDtO (mKn (t0 σ)) k (mDeN (mKn (t0 σ)) 650 d3))) * (31 : Int64)) + ((mTI (mKn (t0 σ)) (nI k) (nI j)).toInt64))), (0, ra V 87), (3, .int (nI k))] dX9_digest_216 rfl rfl (by decide) rfl ?_
                  refine x_goto C 185 dX9_digest_219 rfl ?_
                  refine x_lv [2, 1, 3, 0] [(0, ra V 87), (1, .long (((mDtI (mKn (t0 σ)) (nI k) j (mDtO (mKn (t0 σ)) k (mDeN (mKn (t0 σ)) 650 d3))) * (31 : Int64)) + ((mTI (mKn (t0 σ)) (nI k) (nI j)).toInt64))), (3, .int (nI k)), (4, .int ((nI j) + (1 : Int32)))] rfl ?_
                  exact ih185 _ _ _ (by omega) ⟨j + 1, rfl, rfl, by rw [nI_succ]; first | rw [mDtI_y h18] | rw [mDtI_x h18], hjn⟩
          · have hkn : k < 650 := Nat.lt_of_not_le (fun hq => h15 (nI_le hq (by omega)))
            have hcl : (nI k).toNatClampNeg = k := nI_clamp (by omega)
            refine x_aload_n C dX9_digest_123 rfl 0 rfl ?_
            refine x_getr C sh_87 rfl iX9 23 (by decide) f68 (fun _ h => h) (by decide) rfl dX9_digest_124 ?_
            refine x_iload_n C dX9_digest_127 rfl 2 rfl ?_
            refine x_iald C sh_107 (vp_in_nI (n := k) (N := 650) (by omega) (by decide)) dX9_digest_128 ?_
            rw [hcl]
            refine x_if_eq C 166 dX9_digest_129 rfl (fun h19 => ?_) (fun h19 => ?_)
            · refine x_iinc C (q := 2) ((nI k) + (1 : Int32)) [(3, .int ((nI k) + (1 : Int32))), (0, ra V 87), (1, .long (mDeN (mKn (t0 σ)) k d3))] dX9_digest_166 rfl rfl (by decide) rfl ?_
              refine x_goto C 116 dX9_digest_169 rfl ?_
              refine x_lv [1, 2, 0] [(0, ra V 87), (1, .long (mDeN (mKn (t0 σ)) k d3)), (3, .int ((nI k) + (1 : Int32)))] rfl ?_
              exact ih116 _ _ _ (by omega) ⟨k + 1, rfl, rfl, by rw [nI_succ]; first | rw [mDeN_z h19] | rw [mDeN_n h19], hkn⟩
            · refine x_lload_n C dX9_digest_132 rfl 1 rfl ?_
              refine x_ldc2 C (31 : Int64) (C.2.2.2.2.1 _ (by decide +kernel)) dX9_digest_133 ?_
              refine x_lmul C dX9_digest_136 ?_
              refine x_iload_n C dX9_digest_137 rfl 2 rfl ?_
              refine x_bipush C (50 : Int32) (by decide) dX9_digest_138 ?_
              refine x_idiv C (by decide) dX9_digest_140 ?_
              refine x_i2l C dX9_digest_141 ?_
              refine x_ladd C dX9_digest_142 ?_
              refine x_ldc2 C (31 : Int64) (C.2.2.2.2.1 _ (by decide +kernel)) dX9_digest_143 ?_
              refine x_lmul C dX9_digest_146 ?_
              refine x_iload_n C dX9_digest_147 rfl 2 rfl ?_
              refine x_bipush C (50 : Int32) (by decide) dX9_digest_148 ?_
              refine x_irem C (by decide) dX9_digest_150 ?_
              refine x_i2l C dX9_digest_151 ?_
              refine x_ladd C dX9_digest_152 ?_
              refine x_ldc2 C (31 : Int64) (C.2.2.2.2.1 _ (by decide +kernel)) dX9_digest_153 ?_
              refine x_lmul C dX9_digest_156 ?_
              refine x_aload_n C dX9_digest_157 rfl 0 rfl ?_
              refine x_getr C sh_87 rfl iX9 23 (by decide) f68 (fun _ h => h) (by decide) rfl dX9_digest_158 ?_
              refine x_iload_n C dX9_digest_161 rfl 2 rfl ?_
              refine x_iald C sh_107 (vp_in_nI (n := k) (N := 650) (by omega) (by decide)) dX9_digest_162 ?_
              rw [hcl]
              refine x_i2l C dX9_digest_163 ?_
              refine x_ladd C dX9_digest_164 ?_
              refine x_lstore_n C [(1, .long (((((((mDeN (mKn (t0 σ)) k d3) * (31 : Int64)) + (((nI k) / (50 : Int32)).toInt64)) * (31 : Int64)) + (((nI k) - (nI k) / (50 : Int32) * (50 : Int32)).toInt64)) * (31 : Int64)) + (((mKn (t0 σ)) 107 k).toInt64))), (0, ra V 87), (3, .int (nI k))] dX9_digest_165 rfl (by decide) rfl ?_
              refine x_iinc C (q := 2) ((nI k) + (1 : Int32)) [(3, .int ((nI k) + (1 : Int32))), (1, .long (((((((mDeN (mKn (t0 σ)) k d3) * (31 : Int64)) + (((nI k) / (50 : Int32)).toInt64)) * (31 : Int64)) + (((nI k) - (nI k) / (50 : Int32) * (50 : Int32)).toInt64)) * (31 : Int64)) + (((mKn (t0 σ)) 107 k).toInt64))), (0, ra V 87)] dX9_digest_166 rfl rfl (by decide) rfl ?_
              refine x_goto C 116 dX9_digest_169 rfl ?_
              refine x_lv [2, 1, 0] [(0, ra V 87), (1, .long (((((((mDeN (mKn (t0 σ)) k d3) * (31 : Int64)) + (((nI k) / (50 : Int32)).toInt64)) * (31 : Int64)) + (((nI k) - (nI k) / (50 : Int32) * (50 : Int32)).toInt64)) * (31 : Int64)) + (((mKn (t0 σ)) 107 k).toInt64))), (3, .int ((nI k) + (1 : Int32)))] rfl ?_
              exact ih116 _ _ _ (by omega) ⟨k + 1, rfl, rfl, by rw [nI_succ]; first | rw [mDeN_z h19] | rw [mDeN_n h19], hkn⟩
        · have hb := (mvc3 hMt).2
          have hkn : k < (t0 σ 91 3).toNatClampNeg := Nat.lt_of_not_le (fun hq => h13 ((le_nI (by have := clamp_lt (t0 σ 91 3); omega)).mpr hq))
          refine x_lload_n C dX9_digest_75 rfl 1 rfl ?_
          refine x_ldc2 C (31 : Int64) (C.2.2.2.2.1 _ (by decide +kernel)) dX9_digest_76 ?_
          refine x_lmul C dX9_digest_79 ?_
          refine x_aload_n C dX9_digest_80 rfl 0 rfl ?_
          refine x_iload_n C dX9_digest_81 rfl 2 rfl ?_
          refine x_iload C dX9_digest_82 3 rfl ?_
          refine x_callV C sh_87 (by decide) rfl [.int (3 : Int32), .int (nI k)] (c_X9_presenceOf_3 l V hV (t0 σ) (nI k) hMt (vp_in_nI (n := k) (N := 16) (by omega) (by decide))) (cwV 2 C.2.2.2.2.1 gX9_digest_X9_presenceOf rfl rfl rfl (by decide +kernel) ⟨Nat.le_of_ble_eq_true rfl, Nat.le_of_ble_eq_true rfl⟩) rfl rfl (Nat.le_of_ble_eq_true rfl) dX9_digest_84 ⟨Nat.le_of_ble_eq_true rfl, Nat.le_of_ble_eq_true rfl⟩ (x_kI ?_)
          refine x_i2l C dX9_digest_87 ?_
          refine x_ladd C dX9_digest_88 ?_
          refine x_lstore_n C [(1, .long (((mDpN (t0 σ) (3 : Int32) k (mDpN (t0 σ) (2 : Int32) (t0 σ 91 2).toNatClampNeg (mDpN (t0 σ) (1 : Int32) (t0 σ 91 1).toNatClampNeg (mDpN (t0 σ) (0 : Int32) (t0 σ 91 0).toNatClampNeg d1)))) * (31 : Int64)) + ((mPres (t0 σ) (3 : Int32) (nI k)).toInt64))), (0, ra V 87), (3, .int (3 : Int32)), (4, .int (nI k))] dX9_digest_89 rfl (by decide) rfl ?_
          refine x_iinc C (q := 3) ((nI k) + (1 : Int32)) [(4, .int ((nI k) + (1 : Int32))), (1, .long (((mDpN (t0 σ) (3 : Int32) k (mDpN (t0 σ) (2 : Int32) (t0 σ 91 2).toNatClampNeg (mDpN (t0 σ) (1 : Int32) (t0 σ 91 1).toNatClampNeg (mDpN (t0 σ) (0 : Int32) (t0 σ 91 0).toNatClampNeg d1)))) * (31 : Int64)) + ((mPres (t0 σ) (3 : Int32) (nI k)).toInt64))), (0, ra V 87), (3, .int (3 : Int32))] dX9_digest_90 rfl rfl (by decide) rfl ?_
          refine x_goto C 64 dX9_digest_93 rfl ?_
          refine x_lv [2, 1, 3, 0] [(0, ra V 87), (1, .long (((mDpN (t0 σ) (3 : Int32) k (mDpN (t0 σ) (2 : Int32) (t0 σ 91 2).toNatClampNeg (mDpN (t0 σ) (1 : Int32) (t0 σ 91 1).toNatClampNeg (mDpN (t0 σ) (0 : Int32) (t0 σ 91 0).toNatClampNeg d1)))) * (31 : Int64)) + ((mPres (t0 σ) (3 : Int32) (nI k)).toInt64))), (3, .int (3 : Int32)), (4, .int ((nI k) + (1 : Int32)))] rfl ?_
          exact ih64 _ _ _ (by omega) ⟨k + 1, rfl, rfl, by rw [nI_succ, mDpN_s], hkn⟩
      · have hb := (mvc2 hMt).2
        have hkn : k < (t0 σ 91 2).toNatClampNeg := Nat.lt_of_not_le (fun hq => h11 ((le_nI (by have := clamp_lt (t0 σ 91 2); omega)).mpr hq))
        refine x_lload_n C dX9_digest_75 rfl 1 rfl ?_
        refine x_ldc2 C (31 : Int64) (C.2.2.2.2.1 _ (by decide +kernel)) dX9_digest_76 ?_
        refine x_lmul C dX9_digest_79 ?_
        refine x_aload_n C dX9_digest_80 rfl 0 rfl ?_
        refine x_iload_n C dX9_digest_81 rfl 2 rfl ?_
        refine x_iload C dX9_digest_82 3 rfl ?_
        refine x_callV C sh_87 (by decide) rfl [.int (2 : Int32), .int (nI k)] (c_X9_presenceOf_2 l V hV (t0 σ) (nI k) hMt (vp_in_nI (n := k) (N := 24) (by omega) (by decide))) (cwV 2 C.2.2.2.2.1 gX9_digest_X9_presenceOf rfl rfl rfl (by decide +kernel) ⟨Nat.le_of_ble_eq_true rfl, Nat.le_of_ble_eq_true rfl⟩) rfl rfl (Nat.le_of_ble_eq_true rfl) dX9_digest_84 ⟨Nat.le_of_ble_eq_true rfl, Nat.le_of_ble_eq_true rfl⟩ (x_kI ?_)
        refine x_i2l C dX9_digest_87 ?_
        refine x_ladd C dX9_digest_88 ?_
        refine x_lstore_n C [(1, .long (((mDpN (t0 σ) (2 : Int32) k (mDpN (t0 σ) (1 : Int32) (t0 σ 91 1).toNatClampNeg (mDpN (t0 σ) (0 : Int32) (t0 σ 91 0).toNatClampNeg d1))) * (31 : Int64)) + ((mPres (t0 σ) (2 : Int32) (nI k)).toInt64))), (0, ra V 87), (3, .int (2 : Int32)), (4, .int (nI k))] dX9_digest_89 rfl (by decide) rfl ?_
        refine x_iinc C (q := 3) ((nI k) + (1 : Int32)) [(4, .int ((nI k) + (1 : Int32))), (1, .long (((mDpN (t0 σ) (2 : Int32) k (mDpN (t0 σ) (1 : Int32) (t0 σ 91 1).toNatClampNeg (mDpN (t0 σ) (0 : Int32) (t0 σ 91 0).toNatClampNeg d1))) * (31 : Int64)) + ((mPres (t0 σ) (2 : Int32) (nI k)).toInt64))), (0, ra V 87), (3, .int (2 : Int32))] dX9_digest_90 rfl rfl (by decide) rfl ?_
        refine x_goto C 64 dX9_digest_93 rfl ?_
        refine x_lv [2, 1, 3, 0] [(0, ra V 87), (1, .long (((mDpN (t0 σ) (2 : Int32) k (mDpN (t0 σ) (1 : Int32) (t0 σ 91 1).toNatClampNeg (mDpN (t0 σ) (0 : Int32) (t0 σ 91 0).toNatClampNeg d1))) * (31 : Int64)) + ((mPres (t0 σ) (2 : Int32) (nI k)).toInt64))), (3, .int (2 : Int32)), (4, .int ((nI k) + (1 : Int32)))] rfl ?_
        exact ih64 _ _ _ (by omega) ⟨k + 1, rfl, rfl, by rw [nI_succ, mDpN_s], hkn⟩
    · have hb := (mvc1 hMt).2
      have hkn : k < (t0 σ 91 1).toNatClampNeg := Nat.lt_of_not_le (fun hq => h9 ((le_nI (by have := clamp_lt (t0 σ 91 1); omega)).mpr hq))
      refine x_lload_n C dX9_digest_75 rfl 1 rfl ?_
      refine x_ldc2 C (31 : Int64) (C.2.2.2.2.1 _ (by decide +kernel)) dX9_digest_76 ?_
      refine x_lmul C dX9_digest_79 ?_
      refine x_aload_n C dX9_digest_80 rfl 0 rfl ?_
      refine x_iload_n C dX9_digest_81 rfl 2 rfl ?_
      refine x_iload C dX9_digest_82 3 rfl ?_
      refine x_callV C sh_87 (by decide) rfl [.int (1 : Int32), .int (nI k)] (c_X9_presenceOf_1 l V hV (t0 σ) (nI k) hMt (vp_in_nI (n := k) (N := 12) (by omega) (by decide))) (cwV 2 C.2.2.2.2.1 gX9_digest_X9_presenceOf rfl rfl rfl (by decide +kernel) ⟨Nat.le_of_ble_eq_true rfl, Nat.le_of_ble_eq_true rfl⟩) rfl rfl (Nat.le_of_ble_eq_true rfl) dX9_digest_84 ⟨Nat.le_of_ble_eq_true rfl, Nat.le_of_ble_eq_true rfl⟩ (x_kI ?_)
      refine x_i2l C dX9_digest_87 ?_
      refine x_ladd C dX9_digest_88 ?_
      refine x_lstore_n C [(1, .long (((mDpN (t0 σ) (1 : Int32) k (mDpN (t0 σ) (0 : Int32) (t0 σ 91 0).toNatClampNeg d1)) * (31 : Int64)) + ((mPres (t0 σ) (1 : Int32) (nI k)).toInt64))), (0, ra V 87), (3, .int (1 : Int32)), (4, .int (nI k))] dX9_digest_89 rfl (by decide) rfl ?_
      refine x_iinc C (q := 3) ((nI k) + (1 : Int32)) [(4, .int ((nI k) + (1 : Int32))), (1, .long (((mDpN (t0 σ) (1 : Int32) k (mDpN (t0 σ) (0 : Int32) (t0 σ 91 0).toNatClampNeg d1)) * (31 : Int64)) + ((mPres (t0 σ) (1 : Int32) (nI k)).toInt64))), (0, ra V 87), (3, .int (1 : Int32))] dX9_digest_90 rfl rfl (by decide) rfl ?_
      refine x_goto C 64 dX9_digest_93 rfl ?_
      refine x_lv [2, 1, 3, 0] [(0, ra V 87), (1, .long (((mDpN (t0 σ) (1 : Int32) k (mDpN (t0 σ) (0 : Int32) (t0 σ 91 0).toNatClampNeg d1)) * (31 : Int64)) + ((mPres (t0 σ) (1 : Int32) (nI k)).toInt64))), (3, .int (1 : Int32)), (4, .int ((nI k) + (1 : Int32)))] rfl ?_
      exact ih64 _ _ _ (by omega) ⟨k + 1, rfl, rfl, by rw [nI_succ, mDpN_s], hkn⟩
  · have hb := (mvc0 hMt).2
    have hkn : k < (t0 σ 91 0).toNatClampNeg := Nat.lt_of_not_le (fun hq => h7 ((le_nI (by have := clamp_lt (t0 σ 91 0); omega)).mpr hq))
    refine x_lload_n C dX9_digest_75 rfl 1 rfl ?_
    refine x_ldc2 C (31 : Int64) (C.2.2.2.2.1 _ (by decide +kernel)) dX9_digest_76 ?_
    refine x_lmul C dX9_digest_79 ?_
    refine x_aload_n C dX9_digest_80 rfl 0 rfl ?_
    refine x_iload_n C dX9_digest_81 rfl 2 rfl ?_
    refine x_iload C dX9_digest_82 3 rfl ?_
    refine x_callV C sh_87 (by decide) rfl [.int (0 : Int32), .int (nI k)] (c_X9_presenceOf_0 l V hV (t0 σ) (nI k) hMt (vp_in_nI (n := k) (N := 24) (by omega) (by decide))) (cwV 2 C.2.2.2.2.1 gX9_digest_X9_presenceOf rfl rfl rfl (by decide +kernel) ⟨Nat.le_of_ble_eq_true rfl, Nat.le_of_ble_eq_true rfl⟩) rfl rfl (Nat.le_of_ble_eq_true rfl) dX9_digest_84 ⟨Nat.le_of_ble_eq_true rfl, Nat.le_of_ble_eq_true rfl⟩ (x_kI ?_)
    refine x_i2l C dX9_digest_87 ?_
    refine x_ladd C dX9_digest_88 ?_
    refine x_lstore_n C [(1, .long (((mDpN (t0 σ) (0 : Int32) k d1) * (31 : Int64)) + ((mPres (t0 σ) (0 : Int32) (nI k)).toInt64))), (0, ra V 87), (3, .int (0 : Int32)), (4, .int (nI k))] dX9_digest_89 rfl (by decide) rfl ?_
    refine x_iinc C (q := 3) ((nI k) + (1 : Int32)) [(4, .int ((nI k) + (1 : Int32))), (1, .long (((mDpN (t0 σ) (0 : Int32) k d1) * (31 : Int64)) + ((mPres (t0 σ) (0 : Int32) (nI k)).toInt64))), (0, ra V 87), (3, .int (0 : Int32))] dX9_digest_90 rfl rfl (by decide) rfl ?_
    refine x_goto C 64 dX9_digest_93 rfl ?_
    refine x_lv [2, 1, 3, 0] [(0, ra V 87), (1, .long (((mDpN (t0 σ) (0 : Int32) k d1) * (31 : Int64)) + ((mPres (t0 σ) (0 : Int32) (nI k)).toInt64))), (3, .int (0 : Int32)), (4, .int ((nI k) + (1 : Int32)))] rfl ?_
    exact ih64 _ _ _ (by omega) ⟨k + 1, rfl, rfl, by rw [nI_succ, mDpN_s], hkn⟩

/-! The reference's public methods, on. -/
set_option maxHeartbeats 4000000 in
set_option maxRecDepth 100000 in
theorem c_X9_addPlain (l : Launch) (V : xV) (hV : xInj V) (σ : xS) (m1 : Int32) (b : Bool) (hM : mV σ) : xM l yX9_addPlain wsX9_addPlain ({ frames := 3, cells := 0, slots := 0, locals := 65 }) V [ra V 87, .int m1, .int (bI b)] σ (rC (qPlain σ m1) (t0 σ 210 0 + 1 - 1) (sExp (t0 σ) (if b = true then 2 else 1) m1 0 (-1) (-1) (-1)) (t0 σ)) := by
  refine xM_of (cc := cX9_addPlain) (maxL := 3) (ret := (some .int)) [(0, ra V 87), (1, .int m1), (2, .int (bI b))] hV (by decide) rfl rfl (Nat.le_of_ble_eq_true rfl) (fun p e s m args below meth c C hr hlk => ?_)
  have iX9 : ∀ w ∈ u_ws RX9 TX9 24, w ∈ wsX9_addPlain := by decide +kernel
  have f71 : (Cond.fieldLink RX9 71 RX9 (TX9 0).2.1 (TX9 0).2.2.1).before args s = true := C.2.2.2.2.1 _ (by decide +kernel)
  refine x_aload_n C dX9_addPlain_0 rfl 0 rfl ?_
  refine x_iconst C (0 : Int32) (by decide) dX9_addPlain_1 ?_
  refine x_puti (ty := .int) C sh_87 rfl iX9 0 (by decide) f71 (fun _ h => h) (by decide) rfl (by decide +kernel) (by decide +kernel) (by decide) rfl tyX9 tyX9_ok nmX9 (by decide +kernel) rfl rfl dX9_addPlain_2 ?_
  have hMt := t0_V hM
  refine x_s (σ' := t0 σ) rfl ?_
  refine x_aload_n C dX9_addPlain_5 rfl 0 rfl ?_
  refine x_iload_n C dX9_addPlain_6 rfl 1 rfl ?_
  refine x_callV C sh_87 (by decide) rfl [.int m1] (c_X9_isMethod l V hV (t0 σ) m1 hMt) (cwV 1 C.2.2.2.2.1 gX9_addPlain_X9_isMethod rfl rfl rfl (by decide +kernel) ⟨Nat.le_of_ble_eq_true rfl, Nat.le_of_ble_eq_true rfl⟩) rfl rfl (Nat.le_of_ble_eq_true rfl) dX9_addPlain_7 ⟨Nat.le_of_ble_eq_true rfl, Nat.le_of_ble_eq_true rfl⟩ (x_kI ?_)
  refine x_bif_eq C 35 dX9_addPlain_10 rfl (fun h1 => ?_) (fun h1 => ?_)
  · refine x_aload_n C dX9_addPlain_35 rfl 0 rfl ?_
    refine x_iconst C (1 : Int32) (by decide) dX9_addPlain_36 ?_
    refine x_callV C sh_87 (by decide) rfl [.int (1 : Int32)] (c_X9_no l V hV (t0 σ) (1 : Int32)) (cwV 1 C.2.2.2.2.1 gX9_addPlain_X9_no rfl rfl rfl (by decide +kernel) ⟨Nat.le_of_ble_eq_true rfl, Nat.le_of_ble_eq_true rfl⟩) rfl rfl (Nat.le_of_ble_eq_true rfl) dX9_addPlain_37 ⟨Nat.le_of_ble_eq_true rfl, Nat.le_of_ble_eq_true rfl⟩ (x_kI ?_)
    exact x_iret C hr hlk dX9_addPlain_40 ⟨_, rfl, fun h => absurd h (by simp [qPlain, h1]), fun _ => by simp [qPlain, h1]; rfl⟩
  · refine x_aload_n C dX9_addPlain_13 rfl 0 rfl ?_
    refine x_iload_n C dX9_addPlain_14 rfl 2 rfl ?_
    refine x_bif_eq C 22 dX9_addPlain_15 rfl (fun h2 => ?_) (fun h2 => ?_)
    · refine x_iconst C (1 : Int32) (by decide) dX9_addPlain_22 ?_
      refine x_iload_n C dX9_addPlain_23 rfl 1 rfl ?_
      refine x_iconst C (0 : Int32) (by decide) dX9_addPlain_24 ?_
      refine x_iconst C (-1 : Int32) (by decide) dX9_addPlain_25 ?_
      refine x_iconst C (-1 : Int32) (by decide) dX9_addPlain_26 ?_
      refine x_iconst C (-1 : Int32) (by decide) dX9_addPlain_27 ?_
      refine x_iconst C (2 : Int32) (by decide) dX9_addPlain_28 ?_
      refine x_callV C sh_87 (by decide) rfl [.int (1 : Int32), .int m1, .int (0 : Int32), .int (-1 : Int32), .int (-1 : Int32), .int (-1 : Int32), .int (2 : Int32)] (c_X9_addExpression l V hV (t0 σ) (1 : Int32) m1 (0 : Int32) (-1 : Int32) (-1 : Int32) (-1 : Int32) 2 hMt (by decide)) (cwV 7 C.2.2.2.2.1 gX9_addPlain_X9_addExpression rfl rfl rfl (by decide +kernel) ⟨Nat.le_of_ble_eq_true rfl, Nat.le_of_ble_eq_true rfl⟩) rfl rfl (Nat.le_of_ble_eq_true rfl) dX9_addPlain_29 ⟨Nat.le_of_ble_eq_true rfl, Nat.le_of_ble_eq_true rfl⟩ (fun v σ2 hR => ?_)
      obtain ⟨y, rfl, hk0, hk1⟩ := hR
      dsimp only [Option.toList, List.cons_append, List.nil_append]
      refine x_goto C 40 dX9_addPlain_32 rfl ?_
      exact x_iret C hr hlk dX9_addPlain_40 (by
        have hq : qPlain σ m1 = qExp (t0 σ) 2 := by simp [qPlain, h1, h2]
        rw [hq]
        exact ⟨_, rfl, by simpa [h1, h2] using hk0, hk1⟩)
    · refine x_iconst C (2 : Int32) (by decide) dX9_addPlain_18 ?_
      refine x_goto C 23 dX9_addPlain_19 rfl ?_
      refine x_iload_n C dX9_addPlain_23 rfl 1 rfl ?_
      refine x_iconst C (0 : Int32) (by decide) dX9_addPlain_24 ?_
      refine x_iconst C (-1 : Int32) (by decide) dX9_addPlain_25 ?_
      refine x_iconst C (-1 : Int32) (by decide) dX9_addPlain_26 ?_
      refine x_iconst C (-1 : Int32) (by decide) dX9_addPlain_27 ?_
      refine x_iconst C (2 : Int32) (by decide) dX9_addPlain_28 ?_
      refine x_callV C sh_87 (by decide) rfl [.int (2 : Int32), .int m1, .int (0 : Int32), .int (-1 : Int32), .int (-1 : Int32), .int (-1 : Int32), .int (2 : Int32)] (c_X9_addExpression l V hV (t0 σ) (2 : Int32) m1 (0 : Int32) (-1 : Int32) (-1 : Int32) (-1 : Int32) 2 hMt (by decide)) (cwV 7 C.2.2.2.2.1 gX9_addPlain_X9_addExpression rfl rfl rfl (by decide +kernel) ⟨Nat.le_of_ble_eq_true rfl, Nat.le_of_ble_eq_true rfl⟩) rfl rfl (Nat.le_of_ble_eq_true rfl) dX9_addPlain_29 ⟨Nat.le_of_ble_eq_true rfl, Nat.le_of_ble_eq_true rfl⟩ (fun v σ2 hR => ?_)
      obtain ⟨y, rfl, hk0, hk1⟩ := hR
      dsimp only [Option.toList, List.cons_append, List.nil_append]
      refine x_goto C 40 dX9_addPlain_32 rfl ?_
      exact x_iret C hr hlk dX9_addPlain_40 (by
        have hq : qPlain σ m1 = qExp (t0 σ) 2 := by simp [qPlain, h1, h2]
        rw [hq]
        exact ⟨_, rfl, by simpa [h1, h2] using hk0, hk1⟩)

set_option maxHeartbeats 4000000 in
set_option maxRecDepth 100000 in
theorem c_X9_parameterCount (l : Launch) (V : xV) (hV : xInj V) (σ : xS) (i : Int32) (hi : vp_in i 24) : xM l yX9_parameterCount wsX9_parameterCount ({ frames := 0, cells := 0, slots := 0, locals := 0 }) V [ra V 87, .int i] σ (rI (mPC σ i) σ) := by
  refine xM_of (cc := cX9_parameterCount) (maxL := 2) (ret := (some .int)) [(0, ra V 87), (1, .int i)] hV (by decide) rfl rfl (Nat.le_of_ble_eq_true rfl) (fun p e s m args below meth c C hr hlk => ?_)
  have iX9 : ∀ w ∈ u_ws RX9 TX9 24, w ∈ wsX9_parameterCount := by decide +kernel
  have f47 : (Cond.fieldLink RX9 47 RX9 (TX9 14).2.1 (TX9 14).2.2.1).before args s = true := C.2.2.2.2.1 _ (by decide +kernel)
  refine x_aload_n C dX9_parameterCount_0 rfl 0 rfl ?_
  refine x_getr C sh_87 rfl iX9 14 (by decide) f47 (fun _ h => h) (by decide) rfl dX9_parameterCount_1 ?_
  refine x_iconst C (2 : Int32) (by decide) dX9_parameterCount_4 ?_
  refine x_iload_n C dX9_parameterCount_5 rfl 1 rfl ?_
  refine x_imul C dX9_parameterCount_6 ?_
  refine x_iald C sh_100 (vp_le (vp_mulk 2 hi (by decide)) (by decide)) dX9_parameterCount_7 ?_
  refine x_iconst C (-1 : Int32) (by decide) dX9_parameterCount_8 ?_
  refine x_icmp_ne C 16 dX9_parameterCount_9 rfl (fun h1 => ?_) (fun h1 => ?_)
  · refine x_aload_n C dX9_parameterCount_16 rfl 0 rfl ?_
    refine x_getr C sh_87 rfl iX9 14 (by decide) f47 (fun _ h => h) (by decide) rfl dX9_parameterCount_17 ?_
    refine x_iconst C (2 : Int32) (by decide) dX9_parameterCount_20 ?_
    refine x_iload_n C dX9_parameterCount_21 rfl 1 rfl ?_
    refine x_imul C dX9_parameterCount_22 ?_
    refine x_iconst C (1 : Int32) (by decide) dX9_parameterCount_23 ?_
    refine x_iadd C dX9_parameterCount_24 ?_
    refine x_iald C sh_100 (vp_add (vp_mulk 2 hi (by decide)) (vp_lit 1 (by decide)) (by decide)) dX9_parameterCount_25 ?_
    refine x_iconst C (-1 : Int32) (by decide) dX9_parameterCount_26 ?_
    refine x_icmp_ne C 34 dX9_parameterCount_27 rfl (fun h2 => ?_) (fun h2 => ?_)
    · refine x_iconst C (2 : Int32) (by decide) dX9_parameterCount_34 ?_
      exact x_iret C hr hlk dX9_parameterCount_35 ⟨by simp [mPC, h1, h2], rfl⟩
    · refine x_iconst C (1 : Int32) (by decide) dX9_parameterCount_30 ?_
      refine x_goto C 35 dX9_parameterCount_31 rfl ?_
      exact x_iret C hr hlk dX9_parameterCount_35 ⟨by simp [mPC, h1, eq_true h2], rfl⟩
  · refine x_iconst C (0 : Int32) (by decide) dX9_parameterCount_12 ?_
    refine x_goto C 35 dX9_parameterCount_13 rfl ?_
    exact x_iret C hr hlk dX9_parameterCount_35 ⟨by simp [mPC, eq_true h1], rfl⟩

set_option maxHeartbeats 4000000 in
set_option maxRecDepth 100000 in
theorem c_X9_addArgument (l : Launch) (V : xV) (hV : xInj V) (σ : xS) (m1 i : Int32) (hM : mV σ) : xM l yX9_addArgument wsX9_addArgument ({ frames := 3, cells := 0, slots := 0, locals := 65 }) V [ra V 87, .int m1, .int i] σ (rC (qArg σ m1 i) (t0 σ 210 0 + 1 - 1) (sExp (t0 σ) 3 m1 i (-1) (-1) (-1)) (t0 σ)) := by
  refine xM_of (cc := cX9_addArgument) (maxL := 3) (ret := (some .int)) [(0, ra V 87), (1, .int m1), (2, .int i)] hV (by decide) rfl rfl (Nat.le_of_ble_eq_true rfl) (fun p e s m args below meth c C hr hlk => ?_)
  have iX9 : ∀ w ∈ u_ws RX9 TX9 24, w ∈ wsX9_addArgument := by decide +kernel
  have f71 : (Cond.fieldLink RX9 71 RX9 (TX9 0).2.1 (TX9 0).2.2.1).before args s = true := C.2.2.2.2.1 _ (by decide +kernel)
  refine x_aload_n C dX9_addArgument_0 rfl 0 rfl ?_
  refine x_iconst C (0 : Int32) (by decide) dX9_addArgument_1 ?_
  refine x_puti (ty := .int) C sh_87 rfl iX9 0 (by decide) f71 (fun _ h => h) (by decide) rfl (by decide +kernel) (by decide +kernel) (by decide) rfl tyX9 tyX9_ok nmX9 (by decide +kernel) rfl rfl dX9_addArgument_2 ?_
  have hMt := t0_V hM
  refine x_s (σ' := t0 σ) rfl ?_
  refine x_aload_n C dX9_addArgument_5 rfl 0 rfl ?_
  refine x_iload_n C dX9_addArgument_6 rfl 1 rfl ?_
  refine x_callV C sh_87 (by decide) rfl [.int m1] (c_X9_isMethod l V hV (t0 σ) m1 hMt) (cwV 1 C.2.2.2.2.1 gX9_addArgument_X9_isMethod rfl rfl rfl (by decide +kernel) ⟨Nat.le_of_ble_eq_true rfl, Nat.le_of_ble_eq_true rfl⟩) rfl rfl (Nat.le_of_ble_eq_true rfl) dX9_addArgument_7 ⟨Nat.le_of_ble_eq_true rfl, Nat.le_of_ble_eq_true rfl⟩ (x_kI ?_)
  refine x_bif_eq C 28 dX9_addArgument_10 rfl (fun h1 => ?_) (fun h1 => ?_)
  · refine x_aload_n C dX9_addArgument_28 rfl 0 rfl ?_
    refine x_iconst C (1 : Int32) (by decide) dX9_addArgument_29 ?_
    refine x_callV C sh_87 (by decide) rfl [.int (1 : Int32)] (c_X9_no l V hV (t0 σ) (1 : Int32)) (cwV 1 C.2.2.2.2.1 gX9_addArgument_X9_no rfl rfl rfl (by decide +kernel) ⟨Nat.le_of_ble_eq_true rfl, Nat.le_of_ble_eq_true rfl⟩) rfl rfl (Nat.le_of_ble_eq_true rfl) dX9_addArgument_30 ⟨Nat.le_of_ble_eq_true rfl, Nat.le_of_ble_eq_true rfl⟩ (x_kI ?_)
    exact x_iret C hr hlk dX9_addArgument_33 ⟨_, rfl, fun h => absurd h (by simp [qArg, h1]), fun _ => by simp [qArg, h1]; rfl⟩
  · refine x_iload_n C dX9_addArgument_13 rfl 2 rfl ?_
    refine x_iconst C (0 : Int32) (by decide) dX9_addArgument_14 ?_
    refine x_aload_n C dX9_addArgument_15 rfl 0 rfl ?_
    refine x_iload_n C dX9_addArgument_16 rfl 1 rfl ?_
    refine x_callV C sh_87 (by decide) rfl [.int m1] (c_X9_parameterCount l V hV (t0 σ) m1 (mMth_vp hMt h1)) (cwV 1 C.2.2.2.2.1 gX9_addArgument_X9_parameterCount rfl rfl rfl (by decide +kernel) ⟨Nat.le_of_ble_eq_true rfl, Nat.le_of_ble_eq_true rfl⟩) rfl rfl (Nat.le_of_ble_eq_true rfl) dX9_addArgument_17 ⟨Nat.le_of_ble_eq_true rfl, Nat.le_of_ble_eq_true rfl⟩ (x_kI ?_)
    refine x_iconst C (1 : Int32) (by decide) dX9_addArgument_20 ?_
    refine x_isub C dX9_addArgument_21 ?_
    refine x_callS C [.int i, .int (0 : Int32), .int ((mPC (t0 σ) m1) - (1 : Int32))] (c_X9_isIn l V hV (t0 σ) i (0 : Int32) ((mPC (t0 σ) m1) - (1 : Int32))) (va_cwS 3 C.2.2.2.2.1 gX9_addArgument_X9_isIn rfl rfl rfl (by decide +kernel) ⟨Nat.le_of_ble_eq_true rfl, Nat.le_of_ble_eq_true rfl⟩) rfl rfl (Nat.le_of_ble_eq_true rfl) dX9_addArgument_22 ⟨Nat.le_of_ble_eq_true rfl, Nat.le_of_ble_eq_true rfl⟩ (x_kI ?_)
    refine x_bif_ne C 34 dX9_addArgument_25 rfl (fun h2 => ?_) (fun h2 => ?_)
    · refine x_aload_n C dX9_addArgument_34 rfl 0 rfl ?_
      refine x_iconst C (3 : Int32) (by decide) dX9_addArgument_35 ?_
      refine x_iload_n C dX9_addArgument_36 rfl 1 rfl ?_
      refine x_iload_n C dX9_addArgument_37 rfl 2 rfl ?_
      refine x_iconst C (-1 : Int32) (by decide) dX9_addArgument_38 ?_
      refine x_iconst C (-1 : Int32) (by decide) dX9_addArgument_39 ?_
      refine x_iconst C (-1 : Int32) (by decide) dX9_addArgument_40 ?_
      refine x_iconst C (2 : Int32) (by decide) dX9_addArgument_41 ?_
      refine x_callV C sh_87 (by decide) rfl [.int (3 : Int32), .int m1, .int i, .int (-1 : Int32), .int (-1 : Int32), .int (-1 : Int32), .int (2 : Int32)] (c_X9_addExpression l V hV (t0 σ) (3 : Int32) m1 i (-1 : Int32) (-1 : Int32) (-1 : Int32) 2 hMt (by decide)) (cwV 7 C.2.2.2.2.1 gX9_addArgument_X9_addExpression rfl rfl rfl (by decide +kernel) ⟨Nat.le_of_ble_eq_true rfl, Nat.le_of_ble_eq_true rfl⟩) rfl rfl (Nat.le_of_ble_eq_true rfl) dX9_addArgument_42 ⟨Nat.le_of_ble_eq_true rfl, Nat.le_of_ble_eq_true rfl⟩ (fun v σ2 hR => ?_)
      obtain ⟨y, rfl, hk0, hk1⟩ := hR
      dsimp only [Option.toList, List.cons_append, List.nil_append]
      exact x_iret C hr hlk dX9_addArgument_45 (by
        have hq : qArg σ m1 i = qExp (t0 σ) 2 := by simp [qArg, h1, h2]
        rw [hq]
        exact ⟨_, rfl, hk0, hk1⟩)
    · refine x_aload_n C dX9_addArgument_28 rfl 0 rfl ?_
      refine x_iconst C (1 : Int32) (by decide) dX9_addArgument_29 ?_
      refine x_callV C sh_87 (by decide) rfl [.int (1 : Int32)] (c_X9_no l V hV (t0 σ) (1 : Int32)) (cwV 1 C.2.2.2.2.1 gX9_addArgument_X9_no rfl rfl rfl (by decide +kernel) ⟨Nat.le_of_ble_eq_true rfl, Nat.le_of_ble_eq_true rfl⟩) rfl rfl (Nat.le_of_ble_eq_true rfl) dX9_addArgument_30 ⟨Nat.le_of_ble_eq_true rfl, Nat.le_of_ble_eq_true rfl⟩ (x_kI ?_)
      exact x_iret C hr hlk dX9_addArgument_33 ⟨_, rfl, fun h => absurd h (by simp [qArg, h1, h2]), fun _ => by simp [qArg, h1, h2]; rfl⟩

set_option maxHeartbeats 4000000 in
set_option maxRecDepth 100000 in
theorem c_X9_addFieldOf (l : Launch) (V : xV) (hV : xInj V) (σ : xS) (x n : Int32) (hM : mV σ) : xM l yX9_addFieldOf wsX9_addFieldOf ({ frames := 2, cells := 0, slots := 0, locals := 48 }) V [ra V 87, .int x, .int n] σ (rC (qFOf σ x n) (t0 σ 210 0 + 1 - 1) (sExp (t0 σ) 4 (t0 σ 103 x.toNatClampNeg) n x (-1) (-1)) (t0 σ)) := by
  refine xM_of (cc := cX9_addFieldOf) (maxL := 3) (ret := (some .int)) [(0, ra V 87), (1, .int x), (2, .int n)] hV (by decide) rfl rfl (Nat.le_of_ble_eq_true rfl) (fun p e s m args below meth c C hr hlk => ?_)
  have iX9 : ∀ w ∈ u_ws RX9 TX9 24, w ∈ wsX9_addFieldOf := by decide +kernel
  have f71 : (Cond.fieldLink RX9 71 RX9 (TX9 0).2.1 (TX9 0).2.2.1).before args s = true := C.2.2.2.2.1 _ (by decide +kernel)
  have f56 : (Cond.fieldLink RX9 56 RX9 (TX9 18).2.1 (TX9 18).2.2.1).before args s = true := C.2.2.2.2.1 _ (by decide +kernel)
  refine x_aload_n C dX9_addFieldOf_0 rfl 0 rfl ?_
  refine x_iconst C (0 : Int32) (by decide) dX9_addFieldOf_1 ?_
  refine x_puti (ty := .int) C sh_87 rfl iX9 0 (by decide) f71 (fun _ h => h) (by decide) rfl (by decide +kernel) (by decide +kernel) (by decide) rfl tyX9 tyX9_ok nmX9 (by decide +kernel) rfl rfl dX9_addFieldOf_2 ?_
  have hMt := t0_V hM
  refine x_s (σ' := t0 σ) rfl ?_
  refine x_aload_n C dX9_addFieldOf_5 rfl 0 rfl ?_
  refine x_iload_n C dX9_addFieldOf_6 rfl 1 rfl ?_
  refine x_callV C sh_87 (by decide) rfl [.int x] (c_X9_isExpression l V hV (t0 σ) x) (cwV 1 C.2.2.2.2.1 gX9_addFieldOf_X9_isExpression rfl rfl rfl (by decide +kernel) ⟨Nat.le_of_ble_eq_true rfl, Nat.le_of_ble_eq_true rfl⟩) rfl rfl (Nat.le_of_ble_eq_true rfl) dX9_addFieldOf_7 ⟨Nat.le_of_ble_eq_true rfl, Nat.le_of_ble_eq_true rfl⟩ (x_kI ?_)
  refine x_bif_ne C 19 dX9_addFieldOf_10 rfl (fun h1 => ?_) (fun h1 => ?_)
  · refine x_iload_n C dX9_addFieldOf_19 rfl 2 rfl ?_
    refine x_callS C [.int n] (c_X9_isName l V hV (t0 σ) n) (va_cwS 1 C.2.2.2.2.1 gX9_addFieldOf_X9_isName rfl rfl rfl (by decide +kernel) ⟨Nat.le_of_ble_eq_true rfl, Nat.le_of_ble_eq_true rfl⟩) rfl rfl (Nat.le_of_ble_eq_true rfl) dX9_addFieldOf_20 ⟨Nat.le_of_ble_eq_true rfl, Nat.le_of_ble_eq_true rfl⟩ (x_kI ?_)
    refine x_bif_eq C 45 dX9_addFieldOf_23 rfl (fun h2 => ?_) (fun h2 => ?_)
    · refine x_aload_n C dX9_addFieldOf_45 rfl 0 rfl ?_
      refine x_iconst C (2 : Int32) (by decide) dX9_addFieldOf_46 ?_
      refine x_callV C sh_87 (by decide) rfl [.int (2 : Int32)] (c_X9_no l V hV (t0 σ) (2 : Int32)) (cwV 1 C.2.2.2.2.1 gX9_addFieldOf_X9_no rfl rfl rfl (by decide +kernel) ⟨Nat.le_of_ble_eq_true rfl, Nat.le_of_ble_eq_true rfl⟩) rfl rfl (Nat.le_of_ble_eq_true rfl) dX9_addFieldOf_47 ⟨Nat.le_of_ble_eq_true rfl, Nat.le_of_ble_eq_true rfl⟩ (x_kI ?_)
      exact x_iret C hr hlk dX9_addFieldOf_50 ⟨_, rfl, fun h => absurd h (by simp [qFOf, h1, h2]), fun _ => by simp [qFOf, h1, h2]; rfl⟩
    · refine x_aload_n C dX9_addFieldOf_26 rfl 0 rfl ?_
      refine x_iconst C (4 : Int32) (by decide) dX9_addFieldOf_27 ?_
      refine x_aload_n C dX9_addFieldOf_28 rfl 0 rfl ?_
      refine x_getr C sh_87 rfl iX9 18 (by decide) f56 (fun _ h => h) (by decide) rfl dX9_addFieldOf_29 ?_
      refine x_iload_n C dX9_addFieldOf_32 rfl 1 rfl ?_
      refine x_iald C sh_103 (mExp_vp hMt h1) dX9_addFieldOf_33 ?_
      refine x_iload_n C dX9_addFieldOf_34 rfl 2 rfl ?_
      refine x_iload_n C dX9_addFieldOf_35 rfl 1 rfl ?_
      refine x_iconst C (-1 : Int32) (by decide) dX9_addFieldOf_36 ?_
      refine x_iconst C (-1 : Int32) (by decide) dX9_addFieldOf_37 ?_
      refine x_iconst C (3 : Int32) (by decide) dX9_addFieldOf_38 ?_
      refine x_callV C sh_87 (by decide) rfl [.int (4 : Int32), .int ((t0 σ) 103 x.toNatClampNeg), .int n, .int x, .int (-1 : Int32), .int (-1 : Int32), .int (3 : Int32)] (c_X9_addExpression l V hV (t0 σ) (4 : Int32) ((t0 σ) 103 x.toNatClampNeg) n x (-1 : Int32) (-1 : Int32) 3 hMt (by decide)) (cwV 7 C.2.2.2.2.1 gX9_addFieldOf_X9_addExpression rfl rfl rfl (by decide +kernel) ⟨Nat.le_of_ble_eq_true rfl, Nat.le_of_ble_eq_true rfl⟩) rfl rfl (Nat.le_of_ble_eq_true rfl) dX9_addFieldOf_39 ⟨Nat.le_of_ble_eq_true rfl, Nat.le_of_ble_eq_true rfl⟩ (fun v σ2 hR => ?_)
      obtain ⟨y, rfl, hk0, hk1⟩ := hR
      dsimp only [Option.toList, List.cons_append, List.nil_append]
      refine x_goto C 50 dX9_addFieldOf_42 rfl ?_
      exact x_iret C hr hlk dX9_addFieldOf_50 (by
        have hq : qFOf σ x n = qExp (t0 σ) 3 := by simp [qFOf, h1, h2]
        rw [hq]
        exact ⟨_, rfl, hk0, hk1⟩)
  · refine x_aload_n C dX9_addFieldOf_13 rfl 0 rfl ?_
    refine x_iconst C (1 : Int32) (by decide) dX9_addFieldOf_14 ?_
    refine x_callV C sh_87 (by decide) rfl [.int (1 : Int32)] (c_X9_no l V hV (t0 σ) (1 : Int32)) (cwV 1 C.2.2.2.2.1 gX9_addFieldOf_X9_no rfl rfl rfl (by decide +kernel) ⟨Nat.le_of_ble_eq_true rfl, Nat.le_of_ble_eq_true rfl⟩) rfl rfl (Nat.le_of_ble_eq_true rfl) dX9_addFieldOf_15 ⟨Nat.le_of_ble_eq_true rfl, Nat.le_of_ble_eq_true rfl⟩ (x_kI ?_)
    exact x_iret C hr hlk dX9_addFieldOf_18 ⟨_, rfl, fun h => absurd h (by simp [qFOf, h1]), fun _ => by simp [qFOf, h1]; rfl⟩

set_option maxHeartbeats 4000000 in
set_option maxRecDepth 100000 in
theorem c_X9_addCall (l : Launch) (V : xV) (hV : xInj V) (σ : xS) (x n f g : Int32) (hM : mV σ) : xM l yX9_addCall wsX9_addCall ({ frames := 2, cells := 0, slots := 0, locals := 48 }) V [ra V 87, .int x, .int n, .int f, .int g] σ (rC (qCall σ x n f g) (t0 σ 210 0 + 1 - 1) (sExp (t0 σ) 5 (t0 σ 103 x.toNatClampNeg) n x f g) (t0 σ)) := by
  refine xM_of (cc := cX9_addCall) (maxL := 6) (ret := (some .int)) [(0, ra V 87), (1, .int x), (2, .int n), (3, .int f), (4, .int g)] hV (by decide) rfl rfl (Nat.le_of_ble_eq_true rfl) (fun p e s m args below meth c C hr hlk => ?_)
  have iX9 : ∀ w ∈ u_ws RX9 TX9 24, w ∈ wsX9_addCall := by decide +kernel
  have f71 : (Cond.fieldLink RX9 71 RX9 (TX9 0).2.1 (TX9 0).2.2.1).before args s = true := C.2.2.2.2.1 _ (by decide +kernel)
  have f56 : (Cond.fieldLink RX9 56 RX9 (TX9 18).2.1 (TX9 18).2.2.1).before args s = true := C.2.2.2.2.1 _ (by decide +kernel)
  refine x_aload_n C dX9_addCall_0 rfl 0 rfl ?_
  refine x_iconst C (0 : Int32) (by decide) dX9_addCall_1 ?_
  refine x_puti (ty := .int) C sh_87 rfl iX9 0 (by decide) f71 (fun _ h => h) (by decide) rfl (by decide +kernel) (by decide +kernel) (by decide) rfl tyX9 tyX9_ok nmX9 (by decide +kernel) rfl rfl dX9_addCall_2 ?_
  have hMt := t0_V hM
  refine x_s (σ' := t0 σ) rfl ?_
  refine x_aload_n C dX9_addCall_5 rfl 0 rfl ?_
  refine x_iload_n C dX9_addCall_6 rfl 1 rfl ?_
  refine x_callV C sh_87 (by decide) rfl [.int x] (c_X9_isExpression l V hV (t0 σ) x) (cwV 1 C.2.2.2.2.1 gX9_addCall_X9_isExpression rfl rfl rfl (by decide +kernel) ⟨Nat.le_of_ble_eq_true rfl, Nat.le_of_ble_eq_true rfl⟩) rfl rfl (Nat.le_of_ble_eq_true rfl) dX9_addCall_7 ⟨Nat.le_of_ble_eq_true rfl, Nat.le_of_ble_eq_true rfl⟩ (x_kI ?_)
  refine x_bif_eq C 41 dX9_addCall_10 rfl (fun h1 => ?_) (fun h1 => ?_)
  · refine x_aload_n C dX9_addCall_41 rfl 0 rfl ?_
    refine x_iconst C (1 : Int32) (by decide) dX9_addCall_42 ?_
    refine x_callV C sh_87 (by decide) rfl [.int (1 : Int32)] (c_X9_no l V hV (t0 σ) (1 : Int32)) (cwV 1 C.2.2.2.2.1 gX9_addCall_X9_no rfl rfl rfl (by decide +kernel) ⟨Nat.le_of_ble_eq_true rfl, Nat.le_of_ble_eq_true rfl⟩) rfl rfl (Nat.le_of_ble_eq_true rfl) dX9_addCall_43 ⟨Nat.le_of_ble_eq_true rfl, Nat.le_of_ble_eq_true rfl⟩ (x_kI ?_)
    exact x_iret C hr hlk dX9_addCall_46 ⟨_, rfl, fun h => absurd h (by simp [qCall, h1]), fun _ => by simp [qCall, h1]; rfl⟩
  · refine x_iload_n C dX9_addCall_13 rfl 3 rfl ?_
    refine x_iconst C (-1 : Int32) (by decide) dX9_addCall_14 ?_
    refine x_icmp_eq C 26 dX9_addCall_15 rfl (fun h2 => ?_) (fun h2 => ?_)
    · refine x_iload C dX9_addCall_26 4 rfl ?_
      refine x_iconst C (-1 : Int32) (by decide) dX9_addCall_28 ?_
      refine x_icmp_eq C 47 dX9_addCall_29 rfl (fun h3 => ?_) (fun h3 => ?_)
      · refine x_iload_n C dX9_addCall_47 rfl 2 rfl ?_
        refine x_callS C [.int n] (c_X9_isName l V hV (t0 σ) n) (va_cwS 1 C.2.2.2.2.1 gX9_addCall_X9_isName rfl rfl rfl (by decide +kernel) ⟨Nat.le_of_ble_eq_true rfl, Nat.le_of_ble_eq_true rfl⟩) rfl rfl (Nat.le_of_ble_eq_true rfl) dX9_addCall_48 ⟨Nat.le_of_ble_eq_true rfl, Nat.le_of_ble_eq_true rfl⟩ (x_kI ?_)
        refine x_bif_eq C 111 dX9_addCall_51 rfl (fun h4 => ?_) (fun h4 => ?_)
        · refine x_iconst C (0 : Int32) (by decide) dX9_addCall_111 ?_
          refine x_istore C [(5, .int (0 : Int32)), (0, ra V 87), (1, .int x), (2, .int n), (3, .int f), (4, .int g)] dX9_addCall_112 (by decide) rfl ?_
          refine x_iload C dX9_addCall_114 0 rfl ?_
          refine x_if_eq C 139 dX9_addCall_116 rfl (fun h5 => ?_) (fun h5 => absurd h5 (by decide))
          refine x_aload_n C dX9_addCall_139 rfl 1 rfl ?_
          refine x_iconst C (2 : Int32) (by decide) dX9_addCall_140 ?_
          refine x_callV C sh_87 (by decide) rfl [.int (2 : Int32)] (c_X9_no l V hV (t0 σ) (2 : Int32)) (cwV 1 C.2.2.2.2.1 gX9_addCall_X9_no rfl rfl rfl (by decide +kernel) ⟨Nat.le_of_ble_eq_true rfl, Nat.le_of_ble_eq_true rfl⟩) rfl rfl (Nat.le_of_ble_eq_true rfl) dX9_addCall_141 ⟨Nat.le_of_ble_eq_true rfl, Nat.le_of_ble_eq_true rfl⟩ (x_kI ?_)
          exact x_iret C hr hlk dX9_addCall_144 ⟨_, rfl, fun h => absurd h (by simp [qCall, h1, eq_true h2, eq_true h3, h4]), fun _ => by simp [qCall, h1, eq_true h2, eq_true h3, h4]; rfl⟩
        · refine x_iload_n C dX9_addCall_54 rfl 3 rfl ?_
          refine x_iconst C (-1 : Int32) (by decide) dX9_addCall_55 ?_
          refine x_icmp_ne C 65 dX9_addCall_56 rfl (fun h6 => absurd h6 (fun q => q h2)) (fun h6 => ?_)
          refine x_iload C dX9_addCall_59 4 rfl ?_
          refine x_iconst C (-1 : Int32) (by decide) dX9_addCall_61 ?_
          refine x_icmp_ne C 111 dX9_addCall_62 rfl (fun h7 => absurd h7 (fun q => q h3)) (fun h7 => ?_)
          refine x_iload_n C dX9_addCall_65 rfl 3 rfl ?_
          refine x_iconst C (-1 : Int32) (by decide) dX9_addCall_66 ?_
          refine x_icmp_eq C 85 dX9_addCall_67 rfl (fun h8 => ?_) (fun h8 => absurd h8 (fun q => q h2))
          refine x_iload C dX9_addCall_85 4 rfl ?_
          refine x_iconst C (-1 : Int32) (by decide) dX9_addCall_87 ?_
          refine x_icmp_eq C 107 dX9_addCall_88 rfl (fun h9 => ?_) (fun h9 => absurd h9 (fun q => q h3))
          refine x_iconst C (1 : Int32) (by decide) dX9_addCall_107 ?_
          refine x_goto C 112 dX9_addCall_108 rfl ?_
          refine x_istore C [(5, .int (1 : Int32)), (0, ra V 87), (1, .int x), (2, .int n), (3, .int f), (4, .int g)] dX9_addCall_112 (by decide) rfl ?_
          refine x_iload C dX9_addCall_114 0 rfl ?_
          refine x_if_eq C 139 dX9_addCall_116 rfl (fun h10 => absurd h10 (by decide)) (fun h10 => ?_)
          refine x_aload_n C dX9_addCall_119 rfl 1 rfl ?_
          refine x_iconst C (5 : Int32) (by decide) dX9_addCall_120 ?_
          refine x_aload_n C dX9_addCall_121 rfl 1 rfl ?_
          refine x_getr C sh_87 rfl iX9 18 (by decide) f56 (fun _ h => h) (by decide) rfl dX9_addCall_122 ?_
          refine x_iload_n C dX9_addCall_125 rfl 2 rfl ?_
          refine x_iald C sh_103 (mExp_vp hMt h1) dX9_addCall_126 ?_
          refine x_iload_n C dX9_addCall_127 rfl 3 rfl ?_
          refine x_iload_n C dX9_addCall_128 rfl 2 rfl ?_
          refine x_iload_n C dX9_addCall_129 rfl 4 rfl ?_
          refine x_iload C dX9_addCall_130 5 rfl ?_
          refine x_iconst C (3 : Int32) (by decide) dX9_addCall_132 ?_
          refine x_callV C sh_87 (by decide) rfl [.int (5 : Int32), .int ((t0 σ) 103 x.toNatClampNeg), .int n, .int x, .int f, .int g, .int (3 : Int32)] (c_X9_addExpression l V hV (t0 σ) (5 : Int32) ((t0 σ) 103 x.toNatClampNeg) n x f g 3 hMt (by decide)) (cwV 7 C.2.2.2.2.1 gX9_addCall_X9_addExpression rfl rfl rfl (by decide +kernel) ⟨Nat.le_of_ble_eq_true rfl, Nat.le_of_ble_eq_true rfl⟩) rfl rfl (Nat.le_of_ble_eq_true rfl) dX9_addCall_133 ⟨Nat.le_of_ble_eq_true rfl, Nat.le_of_ble_eq_true rfl⟩ (fun v σ2 hR => ?_)
          obtain ⟨y, rfl, hk0, hk1⟩ := hR
          dsimp only [Option.toList, List.cons_append, List.nil_append]
          refine x_goto C 144 dX9_addCall_136 rfl ?_
          exact x_iret C hr hlk dX9_addCall_144 (by
        have hq : qCall σ x n f g = qExp (t0 σ) 3 := by simp [qCall, h1, eq_true h2, eq_true h3, h4]
        rw [hq]
        exact ⟨_, rfl, hk0, hk1⟩)
      · refine x_aload_n C dX9_addCall_32 rfl 0 rfl ?_
        refine x_iload C dX9_addCall_33 4 rfl ?_
        refine x_callV C sh_87 (by decide) rfl [.int g] (c_X9_isExpression l V hV (t0 σ) g) (cwV 1 C.2.2.2.2.1 gX9_addCall_X9_isExpression rfl rfl rfl (by decide +kernel) ⟨Nat.le_of_ble_eq_true rfl, Nat.le_of_ble_eq_true rfl⟩) rfl rfl (Nat.le_of_ble_eq_true rfl) dX9_addCall_35 ⟨Nat.le_of_ble_eq_true rfl, Nat.le_of_ble_eq_true rfl⟩ (x_kI ?_)
        refine x_bif_ne C 47 dX9_addCall_38 rfl (fun h11 => ?_) (fun h11 => ?_)
        · refine x_iload_n C dX9_addCall_47 rfl 2 rfl ?_
          refine x_callS C [.int n] (c_X9_isName l V hV (t0 σ) n) (va_cwS 1 C.2.2.2.2.1 gX9_addCall_X9_isName rfl rfl rfl (by decide +kernel) ⟨Nat.le_of_ble_eq_true rfl, Nat.le_of_ble_eq_true rfl⟩) rfl rfl (Nat.le_of_ble_eq_true rfl) dX9_addCall_48 ⟨Nat.le_of_ble_eq_true rfl, Nat.le_of_ble_eq_true rfl⟩ (x_kI ?_)
          refine x_bif_eq C 111 dX9_addCall_51 rfl (fun h12 => ?_) (fun h12 => ?_)
          · refine x_iconst C (0 : Int32) (by decide) dX9_addCall_111 ?_
            refine x_istore C [(5, .int (0 : Int32)), (0, ra V 87), (1, .int x), (2, .int n), (3, .int f), (4, .int g)] dX9_addCall_112 (by decide) rfl ?_
            refine x_iload C dX9_addCall_114 0 rfl ?_
            refine x_if_eq C 139 dX9_addCall_116 rfl (fun h13 => ?_) (fun h13 => absurd h13 (by decide))
            refine x_aload_n C dX9_addCall_139 rfl 1 rfl ?_
            refine x_iconst C (2 : Int32) (by decide) dX9_addCall_140 ?_
            refine x_callV C sh_87 (by decide) rfl [.int (2 : Int32)] (c_X9_no l V hV (t0 σ) (2 : Int32)) (cwV 1 C.2.2.2.2.1 gX9_addCall_X9_no rfl rfl rfl (by decide +kernel) ⟨Nat.le_of_ble_eq_true rfl, Nat.le_of_ble_eq_true rfl⟩) rfl rfl (Nat.le_of_ble_eq_true rfl) dX9_addCall_141 ⟨Nat.le_of_ble_eq_true rfl, Nat.le_of_ble_eq_true rfl⟩ (x_kI ?_)
            exact x_iret C hr hlk dX9_addCall_144 ⟨_, rfl, fun h => absurd h (by simp [qCall, h1, eq_true h2, h3, h11, h12]), fun _ => by simp [qCall, h1, eq_true h2, h3, h11, h12]; rfl⟩
          · refine x_iload_n C dX9_addCall_54 rfl 3 rfl ?_
            refine x_iconst C (-1 : Int32) (by decide) dX9_addCall_55 ?_
            refine x_icmp_ne C 65 dX9_addCall_56 rfl (fun h14 => absurd h14 (fun q => q h2)) (fun h14 => ?_)
            refine x_iload C dX9_addCall_59 4 rfl ?_
            refine x_iconst C (-1 : Int32) (by decide) dX9_addCall_61 ?_
            refine x_icmp_ne C 111 dX9_addCall_62 rfl (fun h15 => ?_) (fun h15 => absurd h15 h3)
            refine x_iconst C (0 : Int32) (by decide) dX9_addCall_111 ?_
            refine x_istore C [(5, .int (0 : Int32)), (0, ra V 87), (1, .int x), (2, .int n), (3, .int f), (4, .int g)] dX9_addCall_112 (by decide) rfl ?_
            refine x_iload C dX9_addCall_114 0 rfl ?_
            refine x_if_eq C 139 dX9_addCall_116 rfl (fun h16 => ?_) (fun h16 => absurd h16 (by decide))
            refine x_aload_n C dX9_addCall_139 rfl 1 rfl ?_
            refine x_iconst C (2 : Int32) (by decide) dX9_addCall_140 ?_
            refine x_callV C sh_87 (by decide) rfl [.int (2 : Int32)] (c_X9_no l V hV (t0 σ) (2 : Int32)) (cwV 1 C.2.2.2.2.1 gX9_addCall_X9_no rfl rfl rfl (by decide +kernel) ⟨Nat.le_of_ble_eq_true rfl, Nat.le_of_ble_eq_true rfl⟩) rfl rfl (Nat.le_of_ble_eq_true rfl) dX9_addCall_141 ⟨Nat.le_of_ble_eq_true rfl, Nat.le_of_ble_eq_true rfl⟩ (x_kI ?_)
            exact x_iret C hr hlk dX9_addCall_144 ⟨_, rfl, fun h => absurd h (by simp [qCall, h1, eq_true h2, h3, h11, h12]), fun _ => by simp [qCall, h1, eq_true h2, h3, h11, h12]; rfl⟩
        · refine x_aload_n C dX9_addCall_41 rfl 0 rfl ?_
          refine x_iconst C (1 : Int32) (by decide) dX9_addCall_42 ?_
          refine x_callV C sh_87 (by decide) rfl [.int (1 : Int32)] (c_X9_no l V hV (t0 σ) (1 : Int32)) (cwV 1 C.2.2.2.2.1 gX9_addCall_X9_no rfl rfl rfl (by decide +kernel) ⟨Nat.le_of_ble_eq_true rfl, Nat.le_of_ble_eq_true rfl⟩) rfl rfl (Nat.le_of_ble_eq_true rfl) dX9_addCall_43 ⟨Nat.le_of_ble_eq_true rfl, Nat.le_of_ble_eq_true rfl⟩ (x_kI ?_)
          exact x_iret C hr hlk dX9_addCall_46 ⟨_, rfl, fun h => absurd h (by simp [qCall, h1, eq_true h2, h3, h11]), fun _ => by simp [qCall, h1, eq_true h2, h3, h11]; rfl⟩
    · refine x_aload_n C dX9_addCall_18 rfl 0 rfl ?_
      refine x_iload_n C dX9_addCall_19 rfl 3 rfl ?_
      refine x_callV C sh_87 (by decide) rfl [.int f] (c_X9_isExpression l V hV (t0 σ) f) (cwV 1 C.2.2.2.2.1 gX9_addCall_X9_isExpression rfl rfl rfl (by decide +kernel) ⟨Nat.le_of_ble_eq_true rfl, Nat.le_of_ble_eq_true rfl⟩) rfl rfl (Nat.le_of_ble_eq_true rfl) dX9_addCall_20 ⟨Nat.le_of_ble_eq_true rfl, Nat.le_of_ble_eq_true rfl⟩ (x_kI ?_)
      refine x_bif_eq C 41 dX9_addCall_23 rfl (fun h17 => ?_) (fun h17 => ?_)
      · refine x_aload_n C dX9_addCall_41 rfl 0 rfl ?_
        refine x_iconst C (1 : Int32) (by decide) dX9_addCall_42 ?_
        refine x_callV C sh_87 (by decide) rfl [.int (1 : Int32)] (c_X9_no l V hV (t0 σ) (1 : Int32)) (cwV 1 C.2.2.2.2.1 gX9_addCall_X9_no rfl rfl rfl (by decide +kernel) ⟨Nat.le_of_ble_eq_true rfl, Nat.le_of_ble_eq_true rfl⟩) rfl rfl (Nat.le_of_ble_eq_true rfl) dX9_addCall_43 ⟨Nat.le_of_ble_eq_true rfl, Nat.le_of_ble_eq_true rfl⟩ (x_kI ?_)
        exact x_iret C hr hlk dX9_addCall_46 ⟨_, rfl, fun h => absurd h (by simp [qCall, h1, h2, h17]), fun _ => by simp [qCall, h1, h2, h17]; rfl⟩
      · refine x_iload C dX9_addCall_26 4 rfl ?_
        refine x_iconst C (-1 : Int32) (by decide) dX9_addCall_28 ?_
        refine x_icmp_eq C 47 dX9_addCall_29 rfl (fun h18 => ?_) (fun h18 => ?_)
        · refine x_iload_n C dX9_addCall_47 rfl 2 rfl ?_
          refine x_callS C [.int n] (c_X9_isName l V hV (t0 σ) n) (va_cwS 1 C.2.2.2.2.1 gX9_addCall_X9_isName rfl rfl rfl (by decide +kernel) ⟨Nat.le_of_ble_eq_true rfl, Nat.le_of_ble_eq_true rfl⟩) rfl rfl (Nat.le_of_ble_eq_true rfl) dX9_addCall_48 ⟨Nat.le_of_ble_eq_true rfl, Nat.le_of_ble_eq_true rfl⟩ (x_kI ?_)
          refine x_bif_eq C 111 dX9_addCall_51 rfl (fun h19 => ?_) (fun h19 => ?_)
          · refine x_iconst C (0 : Int32) (by decide) dX9_addCall_111 ?_
            refine x_istore C [(5, .int (0 : Int32)), (0, ra V 87), (1, .int x), (2, .int n), (3, .int f), (4, .int g)] dX9_addCall_112 (by decide) rfl ?_
            refine x_iload C dX9_addCall_114 0 rfl ?_
            refine x_if_eq C 139 dX9_addCall_116 rfl (fun h20 => ?_) (fun h20 => absurd h20 (by decide))
            refine x_aload_n C dX9_addCall_139 rfl 1 rfl ?_
            refine x_iconst C (2 : Int32) (by decide) dX9_addCall_140 ?_
            refine x_callV C sh_87 (by decide) rfl [.int (2 : Int32)] (c_X9_no l V hV (t0 σ) (2 : Int32)) (cwV 1 C.2.2.2.2.1 gX9_addCall_X9_no rfl rfl rfl (by decide +kernel) ⟨Nat.le_of_ble_eq_true rfl, Nat.le_of_ble_eq_true rfl⟩) rfl rfl (Nat.le_of_ble_eq_true rfl) dX9_addCall_141 ⟨Nat.le_of_ble_eq_true rfl, Nat.le_of_ble_eq_true rfl⟩ (x_kI ?_)
            exact x_iret C hr hlk dX9_addCall_144 ⟨_, rfl, fun h => absurd h (by simp [qCall, h1, h2, h17, eq_true h18, h19]), fun _ => by simp [qCall, h1, h2, h17, eq_true h18, h19]; rfl⟩
          · refine x_iload_n C dX9_addCall_54 rfl 3 rfl ?_
            refine x_iconst C (-1 : Int32) (by decide) dX9_addCall_55 ?_
            refine x_icmp_ne C 65 dX9_addCall_56 rfl (fun h21 => ?_) (fun h21 => absurd h21 h2)
            refine x_iload_n C dX9_addCall_65 rfl 3 rfl ?_
            refine x_iconst C (-1 : Int32) (by decide) dX9_addCall_66 ?_
            refine x_icmp_eq C 85 dX9_addCall_67 rfl (fun h22 => absurd h22 h2) (fun h22 => ?_)
            refine x_aload_n C dX9_addCall_70 rfl 0 rfl ?_
            refine x_getr C sh_87 rfl iX9 18 (by decide) f56 (fun _ h => h) (by decide) rfl dX9_addCall_71 ?_
            refine x_iload_n C dX9_addCall_74 rfl 3 rfl ?_
            refine x_iald C sh_103 (mExp_vp hMt h17) dX9_addCall_75 ?_
            refine x_aload_n C dX9_addCall_76 rfl 0 rfl ?_
            refine x_getr C sh_87 rfl iX9 18 (by decide) f56 (fun _ h => h) (by decide) rfl dX9_addCall_77 ?_
            refine x_iload_n C dX9_addCall_80 rfl 1 rfl ?_
            refine x_iald C sh_103 (mExp_vp hMt h1) dX9_addCall_81 ?_
            refine x_icmp_ne C 111 dX9_addCall_82 rfl (fun h23 => ?_) (fun h23 => ?_)
            · refine x_iconst C (0 : Int32) (by decide) dX9_addCall_111 ?_
              refine x_istore C [(5, .int (0 : Int32)), (0, ra V 87), (1, .int x), (2, .int n), (3, .int f), (4, .int g)] dX9_addCall_112 (by decide) rfl ?_
              refine x_iload C dX9_addCall_114 0 rfl ?_
              refine x_if_eq C 139 dX9_addCall_116 rfl (fun h24 => ?_) (fun h24 => absurd h24 (by decide))
              refine x_aload_n C dX9_addCall_139 rfl 1 rfl ?_
              refine x_iconst C (2 : Int32) (by decide) dX9_addCall_140 ?_
              refine x_callV C sh_87 (by decide) rfl [.int (2 : Int32)] (c_X9_no l V hV (t0 σ) (2 : Int32)) (cwV 1 C.2.2.2.2.1 gX9_addCall_X9_no rfl rfl rfl (by decide +kernel) ⟨Nat.le_of_ble_eq_true rfl, Nat.le_of_ble_eq_true rfl⟩) rfl rfl (Nat.le_of_ble_eq_true rfl) dX9_addCall_141 ⟨Nat.le_of_ble_eq_true rfl, Nat.le_of_ble_eq_true rfl⟩ (x_kI ?_)
              exact x_iret C hr hlk dX9_addCall_144 ⟨_, rfl, fun h => absurd h (by simp [qCall, h1, h2, h17, eq_true h18, h19, h23]), fun _ => by simp [qCall, h1, h2, h17, eq_true h18, h19, h23]; rfl⟩
            · refine x_iload C dX9_addCall_85 4 rfl ?_
              refine x_iconst C (-1 : Int32) (by decide) dX9_addCall_87 ?_
              refine x_icmp_eq C 107 dX9_addCall_88 rfl (fun h25 => ?_) (fun h25 => absurd h25 (fun q => q h18))
              refine x_iconst C (1 : Int32) (by decide) dX9_addCall_107 ?_
              refine x_goto C 112 dX9_addCall_108 rfl ?_
              refine x_istore C [(5, .int (1 : Int32)), (0, ra V 87), (1, .int x), (2, .int n), (3, .int f), (4, .int g)] dX9_addCall_112 (by decide) rfl ?_
              refine x_iload C dX9_addCall_114 0 rfl ?_
              refine x_if_eq C 139 dX9_addCall_116 rfl (fun h26 => absurd h26 (by decide)) (fun h26 => ?_)
              refine x_aload_n C dX9_addCall_119 rfl 1 rfl ?_
              refine x_iconst C (5 : Int32) (by decide) dX9_addCall_120 ?_
              refine x_aload_n C dX9_addCall_121 rfl 1 rfl ?_
              refine x_getr C sh_87 rfl iX9 18 (by decide) f56 (fun _ h => h) (by decide) rfl dX9_addCall_122 ?_
              refine x_iload_n C dX9_addCall_125 rfl 2 rfl ?_
              refine x_iald C sh_103 (mExp_vp hMt h1) dX9_addCall_126 ?_
              refine x_iload_n C dX9_addCall_127 rfl 3 rfl ?_
              refine x_iload_n C dX9_addCall_128 rfl 2 rfl ?_
              refine x_iload_n C dX9_addCall_129 rfl 4 rfl ?_
              refine x_iload C dX9_addCall_130 5 rfl ?_
              refine x_iconst C (3 : Int32) (by decide) dX9_addCall_132 ?_
              refine x_callV C sh_87 (by decide) rfl [.int (5 : Int32), .int ((t0 σ) 103 x.toNatClampNeg), .int n, .int x, .int f, .int g, .int (3 : Int32)] (c_X9_addExpression l V hV (t0 σ) (5 : Int32) ((t0 σ) 103 x.toNatClampNeg) n x f g 3 hMt (by decide)) (cwV 7 C.2.2.2.2.1 gX9_addCall_X9_addExpression rfl rfl rfl (by decide +kernel) ⟨Nat.le_of_ble_eq_true rfl, Nat.le_of_ble_eq_true rfl⟩) rfl rfl (Nat.le_of_ble_eq_true rfl) dX9_addCall_133 ⟨Nat.le_of_ble_eq_true rfl, Nat.le_of_ble_eq_true rfl⟩ (fun v σ2 hR => ?_)
              obtain ⟨y, rfl, hk0, hk1⟩ := hR
              dsimp only [Option.toList, List.cons_append, List.nil_append]
              refine x_goto C 144 dX9_addCall_136 rfl ?_
              exact x_iret C hr hlk dX9_addCall_144 (by
        have hq : qCall σ x n f g = qExp (t0 σ) 3 := by simp [qCall, h1, h2, h17, eq_true h18, h19, eq_true h23]
        rw [hq]
        exact ⟨_, rfl, hk0, hk1⟩)
        · refine x_aload_n C dX9_addCall_32 rfl 0 rfl ?_
          refine x_iload C dX9_addCall_33 4 rfl ?_
          refine x_callV C sh_87 (by decide) rfl [.int g] (c_X9_isExpression l V hV (t0 σ) g) (cwV 1 C.2.2.2.2.1 gX9_addCall_X9_isExpression rfl rfl rfl (by decide +kernel) ⟨Nat.le_of_ble_eq_true rfl, Nat.le_of_ble_eq_true rfl⟩) rfl rfl (Nat.le_of_ble_eq_true rfl) dX9_addCall_35 ⟨Nat.le_of_ble_eq_true rfl, Nat.le_of_ble_eq_true rfl⟩ (x_kI ?_)
          refine x_bif_ne C 47 dX9_addCall_38 rfl (fun h27 => ?_) (fun h27 => ?_)
          · refine x_iload_n C dX9_addCall_47 rfl 2 rfl ?_
            refine x_callS C [.int n] (c_X9_isName l V hV (t0 σ) n) (va_cwS 1 C.2.2.2.2.1 gX9_addCall_X9_isName rfl rfl rfl (by decide +kernel) ⟨Nat.le_of_ble_eq_true rfl, Nat.le_of_ble_eq_true rfl⟩) rfl rfl (Nat.le_of_ble_eq_true rfl) dX9_addCall_48 ⟨Nat.le_of_ble_eq_true rfl, Nat.le_of_ble_eq_true rfl⟩ (x_kI ?_)
            refine x_bif_eq C 111 dX9_addCall_51 rfl (fun h28 => ?_) (fun h28 => ?_)
            · refine x_iconst C (0 : Int32) (by decide) dX9_addCall_111 ?_
              refine x_istore C [(5, .int (0 : Int32)), (0, ra V 87), (1, .int x), (2, .int n), (3, .int f), (4, .int g)] dX9_addCall_112 (by decide) rfl ?_
              refine x_iload C dX9_addCall_114 0 rfl ?_
              refine x_if_eq C 139 dX9_addCall_116 rfl (fun h29 => ?_) (fun h29 => absurd h29 (by decide))
              refine x_aload_n C dX9_addCall_139 rfl 1 rfl ?_
              refine x_iconst C (2 : Int32) (by decide) dX9_addCall_140 ?_
              refine x_callV C sh_87 (by decide) rfl [.int (2 : Int32)] (c_X9_no l V hV (t0 σ) (2 : Int32)) (cwV 1 C.2.2.2.2.1 gX9_addCall_X9_no rfl rfl rfl (by decide +kernel) ⟨Nat.le_of_ble_eq_true rfl, Nat.le_of_ble_eq_true rfl⟩) rfl rfl (Nat.le_of_ble_eq_true rfl) dX9_addCall_141 ⟨Nat.le_of_ble_eq_true rfl, Nat.le_of_ble_eq_true rfl⟩ (x_kI ?_)
              exact x_iret C hr hlk dX9_addCall_144 ⟨_, rfl, fun h => absurd h (by simp [qCall, h1, h2, h17, h18, h27, h28]), fun _ => by simp [qCall, h1, h2, h17, h18, h27, h28]; rfl⟩
            · refine x_iload_n C dX9_addCall_54 rfl 3 rfl ?_
              refine x_iconst C (-1 : Int32) (by decide) dX9_addCall_55 ?_
              refine x_icmp_ne C 65 dX9_addCall_56 rfl (fun h30 => ?_) (fun h30 => absurd h30 h2)
              refine x_iload_n C dX9_addCall_65 rfl 3 rfl ?_
              refine x_iconst C (-1 : Int32) (by decide) dX9_addCall_66 ?_
              refine x_icmp_eq C 85 dX9_addCall_67 rfl (fun h31 => absurd h31 h2) (fun h31 => ?_)
              refine x_aload_n C dX9_addCall_70 rfl 0 rfl ?_
              refine x_getr C sh_87 rfl iX9 18 (by decide) f56 (fun _ h => h) (by decide) rfl dX9_addCall_71 ?_
              refine x_iload_n C dX9_addCall_74 rfl 3 rfl ?_
              refine x_iald C sh_103 (mExp_vp hMt h17) dX9_addCall_75 ?_
              refine x_aload_n C dX9_addCall_76 rfl 0 rfl ?_
              refine x_getr C sh_87 rfl iX9 18 (by decide) f56 (fun _ h => h) (by decide) rfl dX9_addCall_77 ?_
              refine x_iload_n C dX9_addCall_80 rfl 1 rfl ?_
              refine x_iald C sh_103 (mExp_vp hMt h1) dX9_addCall_81 ?_
              refine x_icmp_ne C 111 dX9_addCall_82 rfl (fun h32 => ?_) (fun h32 => ?_)
              · refine x_iconst C (0 : Int32) (by decide) dX9_addCall_111 ?_
                refine x_istore C [(5, .int (0 : Int32)), (0, ra V 87), (1, .int x), (2, .int n), (3, .int f), (4, .int g)] dX9_addCall_112 (by decide) rfl ?_
                refine x_iload C dX9_addCall_114 0 rfl ?_
                refine x_if_eq C 139 dX9_addCall_116 rfl (fun h33 => ?_) (fun h33 => absurd h33 (by decide))
                refine x_aload_n C dX9_addCall_139 rfl 1 rfl ?_
                refine x_iconst C (2 : Int32) (by decide) dX9_addCall_140 ?_
                refine x_callV C sh_87 (by decide) rfl [.int (2 : Int32)] (c_X9_no l V hV (t0 σ) (2 : Int32)) (cwV 1 C.2.2.2.2.1 gX9_addCall_X9_no rfl rfl rfl (by decide +kernel) ⟨Nat.le_of_ble_eq_true rfl, Nat.le_of_ble_eq_true rfl⟩) rfl rfl (Nat.le_of_ble_eq_true rfl) dX9_addCall_141 ⟨Nat.le_of_ble_eq_true rfl, Nat.le_of_ble_eq_true rfl⟩ (x_kI ?_)
                exact x_iret C hr hlk dX9_addCall_144 ⟨_, rfl, fun h => absurd h (by simp [qCall, h1, h2, h17, h18, h27, h28, h32]), fun _ => by simp [qCall, h1, h2, h17, h18, h27, h28, h32]; rfl⟩
              · refine x_iload C dX9_addCall_85 4 rfl ?_
                refine x_iconst C (-1 : Int32) (by decide) dX9_addCall_87 ?_
                refine x_icmp_eq C 107 dX9_addCall_88 rfl (fun h34 => absurd h34 h18) (fun h34 => ?_)
                refine x_aload_n C dX9_addCall_91 rfl 0 rfl ?_
                refine x_getr C sh_87 rfl iX9 18 (by decide) f56 (fun _ h => h) (by decide) rfl dX9_addCall_92 ?_
                refine x_iload C dX9_addCall_95 4 rfl ?_
                refine x_iald C sh_103 (mExp_vp hMt h27) dX9_addCall_97 ?_
                refine x_aload_n C dX9_addCall_98 rfl 0 rfl ?_
                refine x_getr C sh_87 rfl iX9 18 (by decide) f56 (fun _ h => h) (by decide) rfl dX9_addCall_99 ?_
                refine x_iload_n C dX9_addCall_102 rfl 1 rfl ?_
                refine x_iald C sh_103 (mExp_vp hMt h1) dX9_addCall_103 ?_
                refine x_icmp_ne C 111 dX9_addCall_104 rfl (fun h35 => ?_) (fun h35 => ?_)
                · refine x_iconst C (0 : Int32) (by decide) dX9_addCall_111 ?_
                  refine x_istore C [(5, .int (0 : Int32)), (0, ra V 87), (1, .int x), (2, .int n), (3, .int f), (4, .int g)] dX9_addCall_112 (by decide) rfl ?_
                  refine x_iload C dX9_addCall_114 0 rfl ?_
                  refine x_if_eq C 139 dX9_addCall_116 rfl (fun h36 => ?_) (fun h36 => absurd h36 (by decide))
                  refine x_aload_n C dX9_addCall_139 rfl 1 rfl ?_
                  refine x_iconst C (2 : Int32) (by decide) dX9_addCall_140 ?_
                  refine x_callV C sh_87 (by decide) rfl [.int (2 : Int32)] (c_X9_no l V hV (t0 σ) (2 : Int32)) (cwV 1 C.2.2.2.2.1 gX9_addCall_X9_no rfl rfl rfl (by decide +kernel) ⟨Nat.le_of_ble_eq_true rfl, Nat.le_of_ble_eq_true rfl⟩) rfl rfl (Nat.le_of_ble_eq_true rfl) dX9_addCall_141 ⟨Nat.le_of_ble_eq_true rfl, Nat.le_of_ble_eq_true rfl⟩ (x_kI ?_)
                  exact x_iret C hr hlk dX9_addCall_144 ⟨_, rfl, fun h => absurd h (by simp [qCall, h1, h2, h17, h18, h27, h28, eq_true h32, h35]), fun _ => by simp [qCall, h1, h2, h17, h18, h27, h28, eq_true h32, h35]; rfl⟩
                · refine x_iconst C (1 : Int32) (by decide) dX9_addCall_107 ?_
                  refine x_goto C 112 dX9_addCall_108 rfl ?_
                  refine x_istore C [(5, .int (1 : Int32)), (0, ra V 87), (1, .int x), (2, .int n), (3, .int f), (4, .int g)] dX9_addCall_112 (by decide) rfl ?_
                  refine x_iload C dX9_addCall_114 0 rfl ?_
                  refine x_if_eq C 139 dX9_addCall_116 rfl (fun h37 => absurd h37 (by decide)) (fun h37 => ?_)
                  refine x_aload_n C dX9_addCall_119 rfl 1 rfl ?_
                  refine x_iconst C (5 : Int32) (by decide) dX9_addCall_120 ?_
                  refine x_aload_n C dX9_addCall_121 rfl 1 rfl ?_
                  refine x_getr C sh_87 rfl iX9 18 (by decide) f56 (fun _ h => h) (by decide) rfl dX9_addCall_122 ?_
                  refine x_iload_n C dX9_addCall_125 rfl 2 rfl ?_
                  refine x_iald C sh_103 (mExp_vp hMt h1) dX9_addCall_126 ?_
                  refine x_iload_n C dX9_addCall_127 rfl 3 rfl ?_
                  refine x_iload_n C dX9_addCall_128 rfl 2 rfl ?_
                  refine x_iload_n C dX9_addCall_129 rfl 4 rfl ?_
                  refine x_iload C dX9_addCall_130 5 rfl ?_
                  refine x_iconst C (3 : Int32) (by decide) dX9_addCall_132 ?_
                  refine x_callV C sh_87 (by decide) rfl [.int (5 : Int32), .int ((t0 σ) 103 x.toNatClampNeg), .int n, .int x, .int f, .int g, .int (3 : Int32)] (c_X9_addExpression l V hV (t0 σ) (5 : Int32) ((t0 σ) 103 x.toNatClampNeg) n x f g 3 hMt (by decide)) (cwV 7 C.2.2.2.2.1 gX9_addCall_X9_addExpression rfl rfl rfl (by decide +kernel) ⟨Nat.le_of_ble_eq_true rfl, Nat.le_of_ble_eq_true rfl⟩) rfl rfl (Nat.le_of_ble_eq_true rfl) dX9_addCall_133 ⟨Nat.le_of_ble_eq_true rfl, Nat.le_of_ble_eq_true rfl⟩ (fun v σ2 hR => ?_)
                  obtain ⟨y, rfl, hk0, hk1⟩ := hR
                  dsimp only [Option.toList, List.cons_append, List.nil_append]
                  refine x_goto C 144 dX9_addCall_136 rfl ?_
                  exact x_iret C hr hlk dX9_addCall_144 (by
        have hq : qCall σ x n f g = qExp (t0 σ) 3 := by simp [qCall, h1, h2, h17, h18, h27, h28, eq_true h32, eq_true h35]
        rw [hq]
        exact ⟨_, rfl, hk0, hk1⟩)
          · refine x_aload_n C dX9_addCall_41 rfl 0 rfl ?_
            refine x_iconst C (1 : Int32) (by decide) dX9_addCall_42 ?_
            refine x_callV C sh_87 (by decide) rfl [.int (1 : Int32)] (c_X9_no l V hV (t0 σ) (1 : Int32)) (cwV 1 C.2.2.2.2.1 gX9_addCall_X9_no rfl rfl rfl (by decide +kernel) ⟨Nat.le_of_ble_eq_true rfl, Nat.le_of_ble_eq_true rfl⟩) rfl rfl (Nat.le_of_ble_eq_true rfl) dX9_addCall_43 ⟨Nat.le_of_ble_eq_true rfl, Nat.le_of_ble_eq_true rfl⟩ (x_kI ?_)
            exact x_iret C hr hlk dX9_addCall_46 ⟨_, rfl, fun h => absurd h (by simp [qCall, h1, h2, h17, h18, h27]), fun _ => by simp [qCall, h1, h2, h17, h18, h27]; rfl⟩

set_option maxHeartbeats 4000000 in
set_option maxRecDepth 100000 in
theorem c_X9_addResult (l : Launch) (V : xV) (hV : xInj V) (σ : xS) (x on off : Int32) (hM : mV σ) : xM l yX9_addResult wsX9_addResult ({ frames := 2, cells := 0, slots := 0, locals := 43 }) V [ra V 87, .int x, .int on, .int off] σ (rC (qRes σ x on off) (σ 91 3 + 1 - 1) (mAd (xw (t0 σ) 101 (σ 91 3).toNatClampNeg x) 3 on off) (t0 σ)) := by
  refine xM_of (cc := cX9_addResult) (maxL := 4) (ret := (some .int)) [(0, ra V 87), (1, .int x), (2, .int on), (3, .int off)] hV (by decide) rfl rfl (Nat.le_of_ble_eq_true rfl) (fun p e s m args below meth c C hr hlk => ?_)
  have iX9 : ∀ w ∈ u_ws RX9 TX9 24, w ∈ wsX9_addResult := by decide +kernel
  have f71 : (Cond.fieldLink RX9 71 RX9 (TX9 0).2.1 (TX9 0).2.2.1).before args s = true := C.2.2.2.2.1 _ (by decide +kernel)
  have f19 : (Cond.fieldLink RX9 19 RX9 (TX9 5).2.1 (TX9 5).2.2.1).before args s = true := C.2.2.2.2.1 _ (by decide +kernel)
  have f50 : (Cond.fieldLink RX9 50 RX9 (TX9 15).2.1 (TX9 15).2.2.1).before args s = true := C.2.2.2.2.1 _ (by decide +kernel)
  refine x_aload_n C dX9_addResult_0 rfl 0 rfl ?_
  refine x_iconst C (0 : Int32) (by decide) dX9_addResult_1 ?_
  refine x_puti (ty := .int) C sh_87 rfl iX9 0 (by decide) f71 (fun _ h => h) (by decide) rfl (by decide +kernel) (by decide +kernel) (by decide) rfl tyX9 tyX9_ok nmX9 (by decide +kernel) rfl rfl dX9_addResult_2 ?_
  have hMt := t0_V hM
  refine x_s (σ' := t0 σ) rfl ?_
  refine x_aload_n C dX9_addResult_5 rfl 0 rfl ?_
  refine x_iload_n C dX9_addResult_6 rfl 1 rfl ?_
  refine x_callV C sh_87 (by decide) rfl [.int x] (c_X9_isExpression l V hV (t0 σ) x) (cwV 1 C.2.2.2.2.1 gX9_addResult_X9_isExpression rfl rfl rfl (by decide +kernel) ⟨Nat.le_of_ble_eq_true rfl, Nat.le_of_ble_eq_true rfl⟩) rfl rfl (Nat.le_of_ble_eq_true rfl) dX9_addResult_7 ⟨Nat.le_of_ble_eq_true rfl, Nat.le_of_ble_eq_true rfl⟩ (x_kI ?_)
  refine x_bif_ne C 19 dX9_addResult_10 rfl (fun h1 => ?_) (fun h1 => ?_)
  · refine x_iload_n C dX9_addResult_19 rfl 2 rfl ?_
    refine x_iload_n C dX9_addResult_20 rfl 3 rfl ?_
    refine x_callS C [.int on, .int off] (c_X9_isCondition l V hV (t0 σ) on off) (va_cwS 2 C.2.2.2.2.1 gX9_addResult_X9_isCondition rfl rfl rfl (by decide +kernel) ⟨Nat.le_of_ble_eq_true rfl, Nat.le_of_ble_eq_true rfl⟩) rfl rfl (Nat.le_of_ble_eq_true rfl) dX9_addResult_21 ⟨Nat.le_of_ble_eq_true rfl, Nat.le_of_ble_eq_true rfl⟩ (x_kI ?_)
    refine x_bif_ne C 33 dX9_addResult_24 rfl (fun h2 => ?_) (fun h2 => ?_)
    · refine x_aload_n C dX9_addResult_33 rfl 0 rfl ?_
      refine x_getr C sh_87 rfl iX9 5 (by decide) f19 (fun _ h => h) (by decide) rfl dX9_addResult_34 ?_
      refine x_iconst C (3 : Int32) (by decide) dX9_addResult_37 ?_
      refine x_iald C sh_91 (vp_lit 3 (by decide)) dX9_addResult_38 ?_
      rw [cl3]
      refine x_bipush C (16 : Int32) (by decide) dX9_addResult_39 ?_
      refine x_icmp_ne C 50 dX9_addResult_41 rfl (fun h3 => ?_) (fun h3 => ?_)
      · have hix : vp_in (t0 σ 91 3) 16 := okB_lt (mvc3 hMt) h3
        refine x_aload_n C dX9_addResult_50 rfl 0 rfl ?_
        refine x_getr C sh_87 rfl iX9 15 (by decide) f50 (fun _ h => h) (by decide) rfl dX9_addResult_51 ?_
        refine x_aload_n C dX9_addResult_54 rfl 0 rfl ?_
        refine x_getr C sh_87 rfl iX9 5 (by decide) f19 (fun _ h => h) (by decide) rfl dX9_addResult_55 ?_
        refine x_iconst C (3 : Int32) (by decide) dX9_addResult_58 ?_
        refine x_iald C sh_91 (vp_lit 3 (by decide)) dX9_addResult_59 ?_
        rw [cl3]
        refine x_iload_n C dX9_addResult_60 rfl 1 rfl ?_
        refine x_iast C sh_101 hix dX9_addResult_61 ?_
        refine x_aload_n C dX9_addResult_62 rfl 0 rfl ?_
        refine x_iconst C (3 : Int32) (by decide) dX9_addResult_63 ?_
        refine x_iload_n C dX9_addResult_64 rfl 2 rfl ?_
        refine x_iload_n C dX9_addResult_65 rfl 3 rfl ?_
        refine x_callV C sh_87 (by decide) rfl [.int (3 : Int32), .int on, .int off] (c_X9_add_3 l V hV (xw (t0 σ) 101 ((t0 σ) 91 3).toNatClampNeg x) on off (vp_le (by rw [xw_ne _ _ _ (by decide)]; exact hix) (by decide))) (cwV 3 C.2.2.2.2.1 gX9_addResult_X9_add rfl rfl rfl (by decide +kernel) ⟨Nat.le_of_ble_eq_true rfl, Nat.le_of_ble_eq_true rfl⟩) rfl rfl (Nat.le_of_ble_eq_true rfl) dX9_addResult_66 ⟨Nat.le_of_ble_eq_true rfl, Nat.le_of_ble_eq_true rfl⟩ (x_kI ?_)
        exact x_iret C hr hlk dX9_addResult_69 ⟨_, rfl, fun _ => ⟨by simp [xw_ne, xw_at, cl0, cl1, cl2, cl3], by simp [xw_ne, xw_at, cl0, cl1, cl2, cl3]⟩, fun h => absurd (by simp [qRes, h1, h2, h3]) h⟩
      · refine x_aload_n C dX9_addResult_44 rfl 0 rfl ?_
        refine x_iconst C (3 : Int32) (by decide) dX9_addResult_45 ?_
        refine x_callV C sh_87 (by decide) rfl [.int (3 : Int32)] (c_X9_no l V hV (t0 σ) (3 : Int32)) (cwV 1 C.2.2.2.2.1 gX9_addResult_X9_no rfl rfl rfl (by decide +kernel) ⟨Nat.le_of_ble_eq_true rfl, Nat.le_of_ble_eq_true rfl⟩) rfl rfl (Nat.le_of_ble_eq_true rfl) dX9_addResult_46 ⟨Nat.le_of_ble_eq_true rfl, Nat.le_of_ble_eq_true rfl⟩ (x_kI ?_)
        exact x_iret C hr hlk dX9_addResult_49 ⟨_, rfl, fun h => absurd h (by simp [qRes, h1, h2, eq_true h3]), fun _ => by simp [qRes, h1, h2, eq_true h3]; rfl⟩
    · refine x_aload_n C dX9_addResult_27 rfl 0 rfl ?_
      refine x_iconst C (2 : Int32) (by decide) dX9_addResult_28 ?_
      refine x_callV C sh_87 (by decide) rfl [.int (2 : Int32)] (c_X9_no l V hV (t0 σ) (2 : Int32)) (cwV 1 C.2.2.2.2.1 gX9_addResult_X9_no rfl rfl rfl (by decide +kernel) ⟨Nat.le_of_ble_eq_true rfl, Nat.le_of_ble_eq_true rfl⟩) rfl rfl (Nat.le_of_ble_eq_true rfl) dX9_addResult_29 ⟨Nat.le_of_ble_eq_true rfl, Nat.le_of_ble_eq_true rfl⟩ (x_kI ?_)
      exact x_iret C hr hlk dX9_addResult_32 ⟨_, rfl, fun h => absurd h (by simp [qRes, h1, h2]), fun _ => by simp [qRes, h1, h2]; rfl⟩
  · refine x_aload_n C dX9_addResult_13 rfl 0 rfl ?_
    refine x_iconst C (1 : Int32) (by decide) dX9_addResult_14 ?_
    refine x_callV C sh_87 (by decide) rfl [.int (1 : Int32)] (c_X9_no l V hV (t0 σ) (1 : Int32)) (cwV 1 C.2.2.2.2.1 gX9_addResult_X9_no rfl rfl rfl (by decide +kernel) ⟨Nat.le_of_ble_eq_true rfl, Nat.le_of_ble_eq_true rfl⟩) rfl rfl (Nat.le_of_ble_eq_true rfl) dX9_addResult_15 ⟨Nat.le_of_ble_eq_true rfl, Nat.le_of_ble_eq_true rfl⟩ (x_kI ?_)
    exact x_iret C hr hlk dX9_addResult_18 ⟨_, rfl, fun h => absurd h (by simp [qRes, h1]), fun _ => by simp [qRes, h1]; rfl⟩

def qSet (σ : xS) (s i on off : Int32) : Nat := if mEl σ s i = true then (if mCond on off = true then 0 else 2) else 1
def mAx (s i : Int32) : Nat := ((24 : Int32) * s + i).toNatClampNeg
def qDropX (σ : xS) : Nat := if t0 σ 91 3 = 0 then 1 else 0
def qCnt (t : Int32) : Nat := if mIn t 0 4 = true then 0 else 1
def qPres (σ : xS) (s i : Int32) : Nat := if mEl (t0 σ) s i = true then 0 else 1
def qPar (σ : xS) (o c : Int32) : Nat := if mEl (t0 σ) 0 o = true then (if mPr (t0 σ) c = true then 0 else 2) else 1
def qBel (σ : xS) (a b c : Int32) : Nat := if mEl σ 0 a = true ∧ mEl σ 0 b = true then (if mPr σ c = true then 0 else 2) else 1
def qFind (σ : xS) (o n c : Int32) : Nat := if mEl (t0 σ) 0 o = true then (if mIn n 0 9 = true ∧ mPr (t0 σ) c = true then 0 else 2) else 1
def qTyp (σ : xS) (e c : Int32) : Nat := if mExp (t0 σ) e = true then (if mPr (t0 σ) c = true then 0 else 2) else 1
def qEIn (σ : xS) (c : Int32) : Nat := if mPr (t0 σ) c = true then 0 else 1
theorem mPr_in {σ : xS} {c : Int32} (h : mPr σ c = true) : vp_in c 16 := by
  have hk : ∀ k, mKN σ c k = true → mIn c 0 15 = true := by
    intro k
    induction k with
    | zero => exact id
    | succ k ih => intro h; rw [mKN, Bool.and_eq_true] at h; exact ih h.1
  have h1 := hk _ h
  simp only [mIn, Bool.and_eq_true, decide_eq_true_eq] at h1
  obtain ⟨j, hj, rfl⟩ := nI_of h1.1
  refine vp_in_nI ?_ (by decide)
  by_cases hh : j < 16
  · exact hh
  · exact absurd (nI_lt (a := 15) (b := j) (by omega) hj) h1.2
theorem cnt_in {t : Int32} (h : mIn t 0 4 = true) (h4 : ¬ t = 4) : vp_in t 4 := by
  simp only [mIn, Bool.and_eq_true, decide_eq_true_eq] at h
  obtain ⟨j, hj, rfl⟩ := nI_of h.1
  refine vp_in_nI ?_ (by decide)
  rcases Nat.lt_or_ge j 5 with q | q
  · rcases Nat.lt_or_ge j 4 with r | r
    · exact r
    · exact absurd (show nI j = 4 by rw [show j = 4 by omega]; rfl) h4
  · exact absurd (nI_lt (a := 4) (b := j) (by omega) hj) h.2
set_option maxHeartbeats 4000000 in
set_option maxRecDepth 100000 in
theorem c_X9_dropResult (l : Launch) (V : xV) (hV : xInj V) (σ : xS)  (hM : mV σ) : xM l yX9_dropResult wsX9_dropResult ({ frames := 1, cells := 0, slots := 0, locals := 21 }) V [ra V 87] σ (rC (qDropX σ) (σ 91 3 - 1) (xw (xw (t0 σ) 91 3 (σ 91 3 - 1)) 211 0 0) (t0 σ)) := by
  refine xM_of (cc := cX9_dropResult) (maxL := 1) (ret := (some .int)) [(0, ra V 87)] hV (by decide) rfl rfl (Nat.le_of_ble_eq_true rfl) (fun p e s m args below meth c C hr hlk => ?_)
  have iX9 : ∀ w ∈ u_ws RX9 TX9 24, w ∈ wsX9_dropResult := by decide +kernel
  have f71 : (Cond.fieldLink RX9 71 RX9 (TX9 0).2.1 (TX9 0).2.2.1).before args s = true := C.2.2.2.2.1 _ (by decide +kernel)
  have f19 : (Cond.fieldLink RX9 19 RX9 (TX9 5).2.1 (TX9 5).2.2.1).before args s = true := C.2.2.2.2.1 _ (by decide +kernel)
  have f93 : (Cond.fieldLink RX9 93 RX9 (TX9 21).2.1 (TX9 21).2.2.1).before args s = true := C.2.2.2.2.1 _ (by decide +kernel)
  refine x_aload_n C dX9_dropResult_0 rfl 0 rfl ?_
  refine x_iconst C (0 : Int32) (by decide) dX9_dropResult_1 ?_
  refine x_puti (ty := .int) C sh_87 rfl iX9 0 (by decide) f71 (fun _ h => h) (by decide) rfl (by decide +kernel) (by decide +kernel) (by decide) rfl tyX9 tyX9_ok nmX9 (by decide +kernel) rfl rfl dX9_dropResult_2 ?_
  have hMt := t0_V hM
  refine x_s (σ' := t0 σ) rfl ?_
  refine x_aload_n C dX9_dropResult_5 rfl 0 rfl ?_
  refine x_getr C sh_87 rfl iX9 5 (by decide) f19 (fun _ h => h) (by decide) rfl dX9_dropResult_6 ?_
  refine x_iconst C (3 : Int32) (by decide) dX9_dropResult_9 ?_
  refine x_iald C sh_91 (vp_lit 3 (by decide)) dX9_dropResult_10 ?_
  rw [cl3]
  refine x_if_ne C 20 dX9_dropResult_11 rfl (fun h1 => ?_) (fun h1 => ?_)
  · refine x_aload_n C dX9_dropResult_20 rfl 0 rfl ?_
    refine x_getr C sh_87 rfl iX9 5 (by decide) f19 (fun _ h => h) (by decide) rfl dX9_dropResult_21 ?_
    refine x_iconst C (3 : Int32) (by decide) dX9_dropResult_24 ?_
    refine x_dup2 C rfl rfl dX9_dropResult_25 ?_
    refine x_iald C sh_91 (vp_lit 3 (by decide)) dX9_dropResult_26 ?_
    rw [cl3]
    refine x_iconst C (1 : Int32) (by decide) dX9_dropResult_27 ?_
    refine x_isub C dX9_dropResult_28 ?_
    refine x_iast C sh_91 (vp_lit 3 (by decide)) dX9_dropResult_29 ?_
    refine x_aload_n C dX9_dropResult_30 rfl 0 rfl ?_
    refine x_iconst C (0 : Int32) (by decide) dX9_dropResult_31 ?_
    refine x_puti (ty := .boolean) C sh_87 rfl iX9 21 (by decide) f93 (fun _ h => h) (by decide) rfl (by decide +kernel) (by decide +kernel) (by decide) rfl tyX9 tyX9_ok nmX9 (by decide +kernel) (by first | rfl | exact bI_nar _) (by first | rfl | exact bI_fit _) dX9_dropResult_32 ?_
    refine x_aload_n C dX9_dropResult_35 rfl 0 rfl ?_
    refine x_getr C sh_87 rfl iX9 5 (by decide) f19 (fun _ h => h) (by decide) rfl dX9_dropResult_36 ?_
    refine x_iconst C (3 : Int32) (by decide) dX9_dropResult_39 ?_
    refine x_iald C sh_91 (vp_lit 3 (by decide)) dX9_dropResult_40 ?_
    rw [cl3]
    exact x_iret C hr hlk dX9_dropResult_41 ⟨_, rfl, fun _ => ⟨by simp [xw_ne, xw_at, cl0, cl1, cl2, cl3], by simp [xw_ne, xw_at, cl0, cl1, cl2, cl3]⟩, fun h => absurd (by simp [qDropX, h1]) h⟩
  · refine x_aload_n C dX9_dropResult_14 rfl 0 rfl ?_
    refine x_iconst C (1 : Int32) (by decide) dX9_dropResult_15 ?_
    refine x_callV C sh_87 (by decide) rfl [.int (1 : Int32)] (c_X9_no l V hV (t0 σ) (1 : Int32)) (cwV 1 C.2.2.2.2.1 gX9_dropResult_X9_no rfl rfl rfl (by decide +kernel) ⟨Nat.le_of_ble_eq_true rfl, Nat.le_of_ble_eq_true rfl⟩) rfl rfl (Nat.le_of_ble_eq_true rfl) dX9_dropResult_16 ⟨Nat.le_of_ble_eq_true rfl, Nat.le_of_ble_eq_true rfl⟩ (x_kI ?_)
    exact x_iret C hr hlk dX9_dropResult_19 ⟨_, rfl, fun h => absurd h (by simp [qDropX, eq_true h1]), fun _ => by simp [qDropX, eq_true h1]; rfl⟩

set_option maxHeartbeats 4000000 in
set_option maxRecDepth 100000 in
theorem c_X9_count (l : Launch) (V : xV) (hV : xInj V) (σ : xS) (t : Int32) (hM : mV σ) : xM l yX9_count wsX9_count ({ frames := 1, cells := 0, slots := 0, locals := 22 }) V [ra V 87, .int t] σ (rC (qCnt t) ((if t = 4 then σ 210 0 else σ 91 t.toNatClampNeg)) (t0 σ) (t0 σ)) := by
  refine xM_of (cc := cX9_count) (maxL := 2) (ret := (some .int)) [(0, ra V 87), (1, .int t)] hV (by decide) rfl rfl (Nat.le_of_ble_eq_true rfl) (fun p e s m args below meth c C hr hlk => ?_)
  have iX9 : ∀ w ∈ u_ws RX9 TX9 24, w ∈ wsX9_count := by decide +kernel
  have f71 : (Cond.fieldLink RX9 71 RX9 (TX9 0).2.1 (TX9 0).2.2.1).before args s = true := C.2.2.2.2.1 _ (by decide +kernel)
  have f19 : (Cond.fieldLink RX9 19 RX9 (TX9 5).2.1 (TX9 5).2.2.1).before args s = true := C.2.2.2.2.1 _ (by decide +kernel)
  have f83 : (Cond.fieldLink RX9 83 RX9 (TX9 16).2.1 (TX9 16).2.2.1).before args s = true := C.2.2.2.2.1 _ (by decide +kernel)
  refine x_aload_n C dX9_count_0 rfl 0 rfl ?_
  refine x_iconst C (0 : Int32) (by decide) dX9_count_1 ?_
  refine x_puti (ty := .int) C sh_87 rfl iX9 0 (by decide) f71 (fun _ h => h) (by decide) rfl (by decide +kernel) (by decide +kernel) (by decide) rfl tyX9 tyX9_ok nmX9 (by decide +kernel) rfl rfl dX9_count_2 ?_
  have hMt := t0_V hM
  refine x_s (σ' := t0 σ) rfl ?_
  refine x_iload_n C dX9_count_5 rfl 1 rfl ?_
  refine x_iconst C (0 : Int32) (by decide) dX9_count_6 ?_
  refine x_iconst C (4 : Int32) (by decide) dX9_count_7 ?_
  refine x_callS C [.int t, .int (0 : Int32), .int (4 : Int32)] (c_X9_isIn l V hV (t0 σ) t (0 : Int32) (4 : Int32)) (va_cwS 3 C.2.2.2.2.1 gX9_count_X9_isIn rfl rfl rfl (by decide +kernel) ⟨Nat.le_of_ble_eq_true rfl, Nat.le_of_ble_eq_true rfl⟩) rfl rfl (Nat.le_of_ble_eq_true rfl) dX9_count_8 ⟨Nat.le_of_ble_eq_true rfl, Nat.le_of_ble_eq_true rfl⟩ (x_kI ?_)
  refine x_bif_ne C 20 dX9_count_11 rfl (fun h1 => ?_) (fun h1 => ?_)
  · refine x_iload_n C dX9_count_20 rfl 1 rfl ?_
    refine x_iconst C (4 : Int32) (by decide) dX9_count_21 ?_
    refine x_icmp_ne C 32 dX9_count_22 rfl (fun h2 => ?_) (fun h2 => ?_)
    · refine x_aload_n C dX9_count_32 rfl 0 rfl ?_
      refine x_getr C sh_87 rfl iX9 5 (by decide) f19 (fun _ h => h) (by decide) rfl dX9_count_33 ?_
      refine x_iload_n C dX9_count_36 rfl 1 rfl ?_
      refine x_iald C sh_91 (cnt_in h1 h2) dX9_count_37 ?_
      exact x_iret C hr hlk dX9_count_38 ⟨_, rfl, fun _ => ⟨by simp [xw_ne, xw_at, cl0, cl1, cl2, cl3, h1, h2], by simp [xw_ne, xw_at, cl0, cl1, cl2, cl3]⟩, fun h => absurd (by simp [qCnt, h1, h2]) h⟩
    · refine x_aload_n C dX9_count_25 rfl 0 rfl ?_
      refine x_geti C sh_87 rfl iX9 16 (by decide) f83 (fun _ h => h) (by decide) rfl dX9_count_26 ?_
      refine x_goto C 38 dX9_count_29 rfl ?_
      exact x_iret C hr hlk dX9_count_38 ⟨_, rfl, fun _ => ⟨by simp [xw_ne, xw_at, cl0, cl1, cl2, cl3, h1, eq_true h2], by simp [xw_ne, xw_at, cl0, cl1, cl2, cl3]⟩, fun h => absurd (by simp [qCnt, h1, eq_true h2]) h⟩
  · refine x_aload_n C dX9_count_14 rfl 0 rfl ?_
    refine x_iconst C (1 : Int32) (by decide) dX9_count_15 ?_
    refine x_callV C sh_87 (by decide) rfl [.int (1 : Int32)] (c_X9_no l V hV (t0 σ) (1 : Int32)) (cwV 1 C.2.2.2.2.1 gX9_count_X9_no rfl rfl rfl (by decide +kernel) ⟨Nat.le_of_ble_eq_true rfl, Nat.le_of_ble_eq_true rfl⟩) rfl rfl (Nat.le_of_ble_eq_true rfl) dX9_count_16 ⟨Nat.le_of_ble_eq_true rfl, Nat.le_of_ble_eq_true rfl⟩ (x_kI ?_)
    exact x_iret C hr hlk dX9_count_19 ⟨_, rfl, fun h => absurd h (by simp [qCnt, h1]), fun _ => by simp [qCnt, h1]; rfl⟩

/-! errors counted -/
def mCEN (σ : xS) : Nat → Int32
  | 0 => 0
  | k + 1 => mCEN σ k + bI (decide (¬ σ 107 k = 0))
def mCE (σ : xS) : Int32 := mCEN σ 650
def mRgN (σ : xS) (a : Int32) : Nat → Int32
  | 0 => a
  | k + 1 => mRgN σ a k &&& (σ 107 k ^^^ (-1))
def mRg (σ : xS) : Int32 := mRgN σ (mAll σ) 650
def mEIN (σ : xS) (c : Int32) : Nat → Int32
  | 0 => 0
  | k + 1 => mEIN σ c k + bI (mHas (σ 107 k) c)
def mTF (σ : xS) (on off : Int32) : Int32 := maskI (fun c => mPr σ (nI c) && (decide (on &&& (nI c ^^^ (-1)) = 0) && decide (off &&& nI c = 0))) 16
def mCuS (σ : xS) (rt k b : Int32) : Int32 :=
  if ¬ (k / 16) &&& (k - k / 16 * 16) = 0 then b else if mTF σ (k / 16) (k - k / 16 * 16) = 0 then b else if ¬ mTF σ (k / 16) (k - k / 16 * 16) &&& rt = 0 then b
  else if b = -1 then k else if popc b ≤ popc k then b else k
def mCuN (σ : xS) (rt : Int32) : Nat → Int32
  | 0 => -1
  | k + 1 => mCuS σ rt (nI k) (mCuN σ rt k)
def mDpN (σ : xS) (s : Int32) : Nat → Int64 → Int64
  | 0, d => d
  | k + 1, d => mDpN σ s k d * 31 + (mPres σ s (nI k)).toInt64
def mDeN (σ : xS) : Nat → Int64 → Int64
  | 0, d => d
  | k + 1, d => if σ 107 k = 0 then mDeN σ k d else ((mDeN σ k d * 31 + (nI k / 50).toInt64) * 31 + (nI k - nI k / 50 * 50).toInt64) * 31 + (σ 107 k).toInt64
def mDtI (σ : xS) (e : Int32) : Nat → Int64 → Int64
  | 0, d => d
  | k + 1, d => if mPr σ (nI k) = true then mDtI σ e k d * 31 + (mTI σ e (nI k)).toInt64 else mDtI σ e k d
def mDtO (σ : xS) : Nat → Int64 → Int64
  | 0, d => d
  | k + 1, d => mDtI σ (nI k) 16 (mDtO σ k d)
set_option maxHeartbeats 4000000 in
set_option maxRecDepth 100000 in
theorem c_X9_countErrors (l : Launch) (V : xV) (hV : xInj V) (σ : xS)  (hM : mV σ) : xM l yX9_countErrors wsX9_countErrors ({ frames := 9, cells := 0, slots := 0, locals := 217 }) V [ra V 87] σ (rI (mCE (mKn σ)) (mKn σ)) := by
  refine xM_of (cc := cX9_countErrors) (maxL := 3) (ret := (some .int)) [(0, ra V 87)] hV (by decide) rfl rfl (Nat.le_of_ble_eq_true rfl) (fun p e s m args below meth c C hr hlk => ?_)
  have iX9 : ∀ w ∈ u_ws RX9 TX9 24, w ∈ wsX9_countErrors := by decide +kernel
  have f68 : (Cond.fieldLink RX9 68 RX9 (TX9 23).2.1 (TX9 23).2.2.1).before args s = true := C.2.2.2.2.1 _ (by decide +kernel)
  refine x_aload_n C dX9_countErrors_0 rfl 0 rfl ?_
  refine x_callV C sh_87 (by decide) rfl [] (c_X9_know l V hV σ  hM) (cwV 0 C.2.2.2.2.1 gX9_countErrors_X9_know rfl rfl rfl (by decide +kernel) ⟨Nat.le_of_ble_eq_true rfl, Nat.le_of_ble_eq_true rfl⟩) rfl rfl (Nat.le_of_ble_eq_true rfl) dX9_countErrors_1 ⟨Nat.le_of_ble_eq_true rfl, Nat.le_of_ble_eq_true rfl⟩ (x_kV ?_)
  refine x_iconst C (0 : Int32) (by decide) dX9_countErrors_4 ?_
  refine x_istore_n C [(1, .int (0 : Int32)), (0, ra V 87)] dX9_countErrors_5 rfl (by decide) rfl ?_
  refine x_iconst C (0 : Int32) (by decide) dX9_countErrors_6 ?_
  refine x_istore_n C [(2, .int (0 : Int32)), (1, .int (0 : Int32)), (0, ra V 87)] dX9_countErrors_7 rfl (by decide) rfl ?_
  refine x_lv [2, 1, 0] [(0, ra V 87), (1, .int (0 : Int32)), (2, .int (0 : Int32))] rfl ?_
  refine x_loop (fun μ σ_ lv_ => ∃ (k : Nat), μ = 650 - k ∧ mKn σ = σ_ ∧ lv_ = [(0, ra V 87), (1, .int (mCEN (mKn σ) k)), (2, .int (nI k))] ∧ k ≤ 650) ⟨_, ⟨0, rfl, rfl, rfl, Nat.zero_le _⟩⟩ ?_
  rintro μ8 _ _ ⟨k, hμ8, rfl, rfl, hc8_0⟩ ih8
  refine x_iload_n C dX9_countErrors_8 rfl 2 rfl ?_
  refine x_sipush C (650 : Int32) (by decide) dX9_countErrors_9 ?_
  refine x_icmp_ge C 38 dX9_countErrors_12 rfl (fun h1 => ?_) (fun h1 => ?_)
  · refine x_iload_n C dX9_countErrors_38 rfl 1 rfl ?_
    exact x_iret C hr hlk dX9_countErrors_39 ⟨by rw [show k = 650 from Nat.le_antisymm hc8_0 (Nat.le_of_not_lt (fun hq => nI_ge hq (by decide) h1))]; rfl, rfl⟩
  · have hkn : k < 650 := Nat.lt_of_not_le (fun hq => h1 (nI_le hq (by omega)))
    have hcl : (nI k).toNatClampNeg = k := nI_clamp (by omega)
    refine x_iload_n C dX9_countErrors_15 rfl 1 rfl ?_
    refine x_aload_n C dX9_countErrors_16 rfl 0 rfl ?_
    refine x_getr C sh_87 rfl iX9 23 (by decide) f68 (fun _ h => h) (by decide) rfl dX9_countErrors_17 ?_
    refine x_iload_n C dX9_countErrors_20 rfl 2 rfl ?_
    refine x_iald C sh_107 (vp_in_nI (n := k) (N := 650) (by omega) (by decide)) dX9_countErrors_21 ?_
    rw [hcl]
    refine x_if_eq C 29 dX9_countErrors_22 rfl (fun h2 => ?_) (fun h2 => ?_)
    · refine x_iconst C (0 : Int32) (by decide) dX9_countErrors_29 ?_
      refine x_iadd C dX9_countErrors_30 ?_
      refine x_istore_n C [(1, .int ((mCEN (mKn σ) k) + (0 : Int32))), (0, ra V 87), (2, .int (nI k))] dX9_countErrors_31 rfl (by decide) rfl ?_
      refine x_iinc C (q := 2) ((nI k) + (1 : Int32)) [(2, .int ((nI k) + (1 : Int32))), (1, .int ((mCEN (mKn σ) k) + (0 : Int32))), (0, ra V 87)] dX9_countErrors_32 rfl rfl (by decide) rfl ?_
      refine x_goto C 8 dX9_countErrors_35 rfl ?_
      refine x_lv [2, 1, 0] [(0, ra V 87), (1, .int ((mCEN (mKn σ) k) + (0 : Int32))), (2, .int ((nI k) + (1 : Int32)))] rfl ?_
      exact ih8 _ _ _ (by omega) ⟨k + 1, rfl, rfl, by rw [nI_succ]; simp [mCEN, bI, eq_true h2], hkn⟩
    · refine x_iconst C (1 : Int32) (by decide) dX9_countErrors_25 ?_
      refine x_goto C 30 dX9_countErrors_26 rfl ?_
      refine x_iadd C dX9_countErrors_30 ?_
      refine x_istore_n C [(1, .int ((mCEN (mKn σ) k) + (1 : Int32))), (0, ra V 87), (2, .int (nI k))] dX9_countErrors_31 rfl (by decide) rfl ?_
      refine x_iinc C (q := 2) ((nI k) + (1 : Int32)) [(2, .int ((nI k) + (1 : Int32))), (1, .int ((mCEN (mKn σ) k) + (1 : Int32))), (0, ra V 87)] dX9_countErrors_32 rfl rfl (by decide) rfl ?_
      refine x_goto C 8 dX9_countErrors_35 rfl ?_
      refine x_lv [2, 1, 0] [(0, ra V 87), (1, .int ((mCEN (mKn σ) k) + (1 : Int32))), (2, .int ((nI k) + (1 : Int32)))] rfl ?_
      exact ih8 _ _ _ (by omega) ⟨k + 1, rfl, rfl, by rw [nI_succ]; simp [mCEN, bI, h2], hkn⟩

set_option maxHeartbeats 4000000 in
set_option maxRecDepth 100000 in
theorem c_X9_rightSet (l : Launch) (V : xV) (hV : xInj V) (σ : xS)  (hM : mV σ) : xM l yX9_rightSet wsX9_rightSet ({ frames := 9, cells := 0, slots := 0, locals := 217 }) V [ra V 87] σ (rI (mRg (mKn σ)) (mKn σ)) := by
  refine xM_of (cc := cX9_rightSet) (maxL := 3) (ret := (some .int)) [(0, ra V 87)] hV (by decide) rfl rfl (Nat.le_of_ble_eq_true rfl) (fun p e s m args below meth c C hr hlk => ?_)
  have iX9 : ∀ w ∈ u_ws RX9 TX9 24, w ∈ wsX9_rightSet := by decide +kernel
  have f68 : (Cond.fieldLink RX9 68 RX9 (TX9 23).2.1 (TX9 23).2.2.1).before args s = true := C.2.2.2.2.1 _ (by decide +kernel)
  refine x_aload_n C dX9_rightSet_0 rfl 0 rfl ?_
  refine x_callV C sh_87 (by decide) rfl [] (c_X9_know l V hV σ  hM) (cwV 0 C.2.2.2.2.1 gX9_rightSet_X9_know rfl rfl rfl (by decide +kernel) ⟨Nat.le_of_ble_eq_true rfl, Nat.le_of_ble_eq_true rfl⟩) rfl rfl (Nat.le_of_ble_eq_true rfl) dX9_rightSet_1 ⟨Nat.le_of_ble_eq_true rfl, Nat.le_of_ble_eq_true rfl⟩ (x_kV ?_)
  refine x_aload_n C dX9_rightSet_4 rfl 0 rfl ?_
  refine x_callV C sh_87 (by decide) rfl [] (c_X9_allProducts l V hV (mKn σ)  (mKn_V hM)) (cwV 0 C.2.2.2.2.1 gX9_rightSet_X9_allProducts rfl rfl rfl (by decide +kernel) ⟨Nat.le_of_ble_eq_true rfl, Nat.le_of_ble_eq_true rfl⟩) rfl rfl (Nat.le_of_ble_eq_true rfl) dX9_rightSet_5 ⟨Nat.le_of_ble_eq_true rfl, Nat.le_of_ble_eq_true rfl⟩ (x_kI ?_)
  refine x_istore_n C [(1, .int (mAll (mKn σ))), (0, ra V 87)] dX9_rightSet_8 rfl (by decide) rfl ?_
  refine x_iconst C (0 : Int32) (by decide) dX9_rightSet_9 ?_
  refine x_istore_n C [(2, .int (0 : Int32)), (1, .int (mAll (mKn σ))), (0, ra V 87)] dX9_rightSet_10 rfl (by decide) rfl ?_
  refine x_lv [2, 1, 0] [(0, ra V 87), (1, .int (mAll (mKn σ))), (2, .int (0 : Int32))] rfl ?_
  refine x_loop (fun μ σ_ lv_ => ∃ (k : Nat), μ = 650 - k ∧ mKn σ = σ_ ∧ lv_ = [(0, ra V 87), (1, .int (mRgN (mKn σ) (mAll (mKn σ)) k)), (2, .int (nI k))] ∧ k ≤ 650) ⟨_, ⟨0, rfl, rfl, rfl, Nat.zero_le _⟩⟩ ?_
  rintro μ11 _ _ ⟨k, hμ11, rfl, rfl, hc11_0⟩ ih11
  refine x_iload_n C dX9_rightSet_11 rfl 2 rfl ?_
  refine x_sipush C (650 : Int32) (by decide) dX9_rightSet_12 ?_
  refine x_icmp_ge C 35 dX9_rightSet_15 rfl (fun h1 => ?_) (fun h1 => ?_)
  · refine x_iload_n C dX9_rightSet_35 rfl 1 rfl ?_
    exact x_iret C hr hlk dX9_rightSet_36 ⟨by rw [show k = 650 from Nat.le_antisymm hc11_0 (Nat.le_of_not_lt (fun hq => nI_ge hq (by decide) h1))]; rfl, rfl⟩
  · have hkn : k < 650 := Nat.lt_of_not_le (fun hq => h1 (nI_le hq (by omega)))
    have hcl : (nI k).toNatClampNeg = k := nI_clamp (by omega)
    refine x_iload_n C dX9_rightSet_18 rfl 1 rfl ?_
    refine x_aload_n C dX9_rightSet_19 rfl 0 rfl ?_
    refine x_getr C sh_87 rfl iX9 23 (by decide) f68 (fun _ h => h) (by decide) rfl dX9_rightSet_20 ?_
    refine x_iload_n C dX9_rightSet_23 rfl 2 rfl ?_
    refine x_iald C sh_107 (vp_in_nI (n := k) (N := 650) (by omega) (by decide)) dX9_rightSet_24 ?_
    rw [hcl]
    refine x_iconst C (-1 : Int32) (by decide) dX9_rightSet_25 ?_
    refine x_ixor C dX9_rightSet_26 ?_
    refine x_iand C dX9_rightSet_27 ?_
    refine x_istore_n C [(1, .int ((mRgN (mKn σ) (mAll (mKn σ)) k) &&& (((mKn σ) 107 k) ^^^ (-1 : Int32)))), (0, ra V 87), (2, .int (nI k))] dX9_rightSet_28 rfl (by decide) rfl ?_
    refine x_iinc C (q := 2) ((nI k) + (1 : Int32)) [(2, .int ((nI k) + (1 : Int32))), (1, .int ((mRgN (mKn σ) (mAll (mKn σ)) k) &&& (((mKn σ) 107 k) ^^^ (-1 : Int32)))), (0, ra V 87)] dX9_rightSet_29 rfl rfl (by decide) rfl ?_
    refine x_goto C 11 dX9_rightSet_32 rfl ?_
    refine x_lv [2, 1, 0] [(0, ra V 87), (1, .int ((mRgN (mKn σ) (mAll (mKn σ)) k) &&& (((mKn σ) 107 k) ^^^ (-1 : Int32)))), (2, .int ((nI k) + (1 : Int32)))] rfl ?_
    exact ih11 _ _ _ (by omega) ⟨k + 1, rfl, rfl, by rw [nI_succ]; simp [mRgN, bI, true_and], hkn⟩

set_option maxHeartbeats 4000000 in
set_option maxRecDepth 100000 in
theorem c_X9_products (l : Launch) (V : xV) (hV : xInj V) (σ : xS)  (hM : mV σ) : xM l yX9_products wsX9_products ({ frames := 3, cells := 0, slots := 0, locals := 67 }) V [ra V 87] σ (rI (mAll (t0 σ)) (t0 σ)) := by
  refine xM_of (cc := cX9_products) (maxL := 1) (ret := (some .int)) [(0, ra V 87)] hV (by decide) rfl rfl (Nat.le_of_ble_eq_true rfl) (fun p e s m args below meth c C hr hlk => ?_)
  have iX9 : ∀ w ∈ u_ws RX9 TX9 24, w ∈ wsX9_products := by decide +kernel
  have f71 : (Cond.fieldLink RX9 71 RX9 (TX9 0).2.1 (TX9 0).2.2.1).before args s = true := C.2.2.2.2.1 _ (by decide +kernel)
  refine x_aload_n C dX9_products_0 rfl 0 rfl ?_
  refine x_iconst C (0 : Int32) (by decide) dX9_products_1 ?_
  refine x_puti (ty := .int) C sh_87 rfl iX9 0 (by decide) f71 (fun _ h => h) (by decide) rfl (by decide +kernel) (by decide +kernel) (by decide) rfl tyX9 tyX9_ok nmX9 (by decide +kernel) rfl rfl dX9_products_2 ?_
  have hMt := t0_V hM
  refine x_s (σ' := t0 σ) rfl ?_
  refine x_aload_n C dX9_products_5 rfl 0 rfl ?_
  refine x_callV C sh_87 (by decide) rfl [] (c_X9_allProducts l V hV (t0 σ)  hMt) (cwV 0 C.2.2.2.2.1 gX9_products_X9_allProducts rfl rfl rfl (by decide +kernel) ⟨Nat.le_of_ble_eq_true rfl, Nat.le_of_ble_eq_true rfl⟩) rfl rfl (Nat.le_of_ble_eq_true rfl) dX9_products_6 ⟨Nat.le_of_ble_eq_true rfl, Nat.le_of_ble_eq_true rfl⟩ (x_kI ?_)
  exact x_iret C hr hlk dX9_products_9 ⟨rfl, rfl⟩

set_option maxHeartbeats 4000000 in
set_option maxRecDepth 100000 in
theorem c_X9_errorCount (l : Launch) (V : xV) (hV : xInj V) (σ : xS)  (hM : mV σ) : xM l yX9_errorCount wsX9_errorCount ({ frames := 10, cells := 0, slots := 0, locals := 239 }) V [ra V 87] σ (rI (mCE (mKn (t0 σ))) (mKn (t0 σ))) := by
  refine xM_of (cc := cX9_errorCount) (maxL := 1) (ret := (some .int)) [(0, ra V 87)] hV (by decide) rfl rfl (Nat.le_of_ble_eq_true rfl) (fun p e s m args below meth c C hr hlk => ?_)
  have iX9 : ∀ w ∈ u_ws RX9 TX9 24, w ∈ wsX9_errorCount := by decide +kernel
  have f71 : (Cond.fieldLink RX9 71 RX9 (TX9 0).2.1 (TX9 0).2.2.1).before args s = true := C.2.2.2.2.1 _ (by decide +kernel)
  refine x_aload_n C dX9_errorCount_0 rfl 0 rfl ?_
  refine x_iconst C (0 : Int32) (by decide) dX9_errorCount_1 ?_
  refine x_puti (ty := .int) C sh_87 rfl iX9 0 (by decide) f71 (fun _ h => h) (by decide) rfl (by decide +kernel) (by decide +kernel) (by decide) rfl tyX9 tyX9_ok nmX9 (by decide +kernel) rfl rfl dX9_errorCount_2 ?_
  have hMt := t0_V hM
  refine x_s (σ' := t0 σ) rfl ?_
  refine x_aload_n C dX9_errorCount_5 rfl 0 rfl ?_
  refine x_callV C sh_87 (by decide) rfl [] (c_X9_countErrors l V hV (t0 σ)  hMt) (cwV 0 C.2.2.2.2.1 gX9_errorCount_X9_countErrors rfl rfl rfl (by decide +kernel) ⟨Nat.le_of_ble_eq_true rfl, Nat.le_of_ble_eq_true rfl⟩) rfl rfl (Nat.le_of_ble_eq_true rfl) dX9_errorCount_6 ⟨Nat.le_of_ble_eq_true rfl, Nat.le_of_ble_eq_true rfl⟩ (x_kI ?_)
  exact x_iret C hr hlk dX9_errorCount_9 ⟨rfl, rfl⟩

set_option maxHeartbeats 4000000 in
set_option maxRecDepth 100000 in
theorem c_X9_right (l : Launch) (V : xV) (hV : xInj V) (σ : xS)  (hM : mV σ) : xM l yX9_right wsX9_right ({ frames := 10, cells := 0, slots := 0, locals := 239 }) V [ra V 87] σ (rI (mRg (mKn (t0 σ))) (mKn (t0 σ))) := by
  refine xM_of (cc := cX9_right) (maxL := 1) (ret := (some .int)) [(0, ra V 87)] hV (by decide) rfl rfl (Nat.le_of_ble_eq_true rfl) (fun p e s m args below meth c C hr hlk => ?_)
  have iX9 : ∀ w ∈ u_ws RX9 TX9 24, w ∈ wsX9_right := by decide +kernel
  have f71 : (Cond.fieldLink RX9 71 RX9 (TX9 0).2.1 (TX9 0).2.2.1).before args s = true := C.2.2.2.2.1 _ (by decide +kernel)
  refine x_aload_n C dX9_right_0 rfl 0 rfl ?_
  refine x_iconst C (0 : Int32) (by decide) dX9_right_1 ?_
  refine x_puti (ty := .int) C sh_87 rfl iX9 0 (by decide) f71 (fun _ h => h) (by decide) rfl (by decide +kernel) (by decide +kernel) (by decide) rfl tyX9 tyX9_ok nmX9 (by decide +kernel) rfl rfl dX9_right_2 ?_
  have hMt := t0_V hM
  refine x_s (σ' := t0 σ) rfl ?_
  refine x_aload_n C dX9_right_5 rfl 0 rfl ?_
  refine x_callV C sh_87 (by decide) rfl [] (c_X9_rightSet l V hV (t0 σ)  hMt) (cwV 0 C.2.2.2.2.1 gX9_right_X9_rightSet rfl rfl rfl (by decide +kernel) ⟨Nat.le_of_ble_eq_true rfl, Nat.le_of_ble_eq_true rfl⟩) rfl rfl (Nat.le_of_ble_eq_true rfl) dX9_right_6 ⟨Nat.le_of_ble_eq_true rfl, Nat.le_of_ble_eq_true rfl⟩ (x_kI ?_)
  exact x_iret C hr hlk dX9_right_9 ⟨rfl, rfl⟩

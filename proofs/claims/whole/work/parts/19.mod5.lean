/-! The reference's public methods. -/
theorem vp_lit_in (k : Nat) {n : Nat} (h : k < n ∧ n < 2 ^ 31) : vp_in (nI k) n := vp_in_nI h.1 h.2
abbrev t0 (σ : xS) : xS := xw σ 208 0 0
theorem t0_V {σ : xS} (h : mV σ) : mV (t0 σ) := mV_keep (fun r h1 h2 h3 h4 => xw_ne _ _ _ h3) h
abbrev rC (code : Nat) (x : Int32) (S F : xS) : Option Value → xS → Prop := fun v u => ∃ y, v = some (.int y) ∧ (code = 0 → y = x ∧ u = S) ∧ (code ≠ 0 → u = xw F 208 0 (nI code))
theorem okB_lt {x : Int32} {n : Nat} (h : okB x n) (hne : ¬ x = nI n) (hn : n < 2 ^ 31 := by decide) : vp_in x n := by
  obtain ⟨e, hle⟩ := h
  rw [e]
  refine vp_in_nI ?_ hn
  · rcases Nat.lt_or_ge x.toNatClampNeg n with q | q
    · exact q
    · exact absurd (by rw [e]; congr 1; omega) hne
theorem cl0 : (0 : Int32).toNatClampNeg = 0 := rfl
theorem cl1 : (1 : Int32).toNatClampNeg = 1 := rfl
theorem cl2 : (2 : Int32).toNatClampNeg = 2 := rfl
theorem cl3 : (3 : Int32).toNatClampNeg = 3 := rfl
def mAd (σ : xS) (k : Nat) (on off : Int32) : xS := xw (xw (xw (xw σ 92 ((24 : Int32) * nI k + σ 91 k).toNatClampNeg on) 93 ((24 : Int32) * nI k + σ 91 k).toNatClampNeg off) 91 k (σ 91 k + 1)) 211 0 0
def mPres (σ : xS) (s i : Int32) : Int32 := maskI (fun c => mPr σ (nI c) && mIs σ s i (nI c)) 16

set_option maxHeartbeats 4000000 in
set_option maxRecDepth 100000 in
theorem c_X9_add_0 (l : Launch) (V : xV) (hV : xInj V) (σ : xS) (on off : Int32) (hi : vp_in (σ 91 0) 24) : xM l yX9_add wsX9_add ({ frames := 0, cells := 0, slots := 0, locals := 0 }) V [ra V 87, .int (0 : Int32), .int on, .int off] σ (rI (σ 91 0 + 1 - 1) (mAd σ 0 on off)) := by
  refine xM_of (cc := cX9_add) (maxL := 4) (ret := (some .int)) [(0, ra V 87), (1, .int (0 : Int32)), (2, .int on), (3, .int off)] hV (by decide) rfl rfl (Nat.le_of_ble_eq_true rfl) (fun p e s m args below meth c C hr hlk => ?_)
  have iX9 : ∀ w ∈ u_ws RX9 TX9 24, w ∈ wsX9_add := by decide +kernel
  have f22 : (Cond.fieldLink RX9 22 RX9 (TX9 6).2.1 (TX9 6).2.2.1).before args s = true := C.2.2.2.2.1 _ (by decide +kernel)
  have f19 : (Cond.fieldLink RX9 19 RX9 (TX9 5).2.1 (TX9 5).2.2.1).before args s = true := C.2.2.2.2.1 _ (by decide +kernel)
  have f25 : (Cond.fieldLink RX9 25 RX9 (TX9 7).2.1 (TX9 7).2.2.1).before args s = true := C.2.2.2.2.1 _ (by decide +kernel)
  have f93 : (Cond.fieldLink RX9 93 RX9 (TX9 21).2.1 (TX9 21).2.2.1).before args s = true := C.2.2.2.2.1 _ (by decide +kernel)
  refine x_aload_n C dX9_add_0 rfl 0 rfl ?_
  refine x_getr C sh_87 rfl iX9 6 (by decide) f22 (fun _ h => h) (by decide) rfl dX9_add_1 ?_
  refine x_bipush C (24 : Int32) (by decide) dX9_add_4 ?_
  refine x_iload_n C dX9_add_6 rfl 1 rfl ?_
  refine x_imul C dX9_add_7 ?_
  refine x_aload_n C dX9_add_8 rfl 0 rfl ?_
  refine x_getr C sh_87 rfl iX9 5 (by decide) f19 (fun _ h => h) (by decide) rfl dX9_add_9 ?_
  refine x_iload_n C dX9_add_12 rfl 1 rfl ?_
  refine x_iald C sh_91 (vp_lit_in 0 (by decide)) dX9_add_13 ?_
  rw [cl0]
  refine x_iadd C dX9_add_14 ?_
  refine x_iload_n C dX9_add_15 rfl 2 rfl ?_
  refine x_iast C sh_92 (vp_le (vp_add (vp_mulk 24 (vp_lit 0 (by decide)) (by decide)) hi (by decide)) (by decide)) dX9_add_16 ?_
  refine x_aload_n C dX9_add_17 rfl 0 rfl ?_
  refine x_getr C sh_87 rfl iX9 7 (by decide) f25 (fun _ h => h) (by decide) rfl dX9_add_18 ?_
  refine x_bipush C (24 : Int32) (by decide) dX9_add_21 ?_
  refine x_iload_n C dX9_add_23 rfl 1 rfl ?_
  refine x_imul C dX9_add_24 ?_
  refine x_aload_n C dX9_add_25 rfl 0 rfl ?_
  refine x_getr C sh_87 rfl iX9 5 (by decide) f19 (fun _ h => h) (by decide) rfl dX9_add_26 ?_
  refine x_iload_n C dX9_add_29 rfl 1 rfl ?_
  refine x_iald C sh_91 (vp_le (vp_lit 0 (by decide)) (by decide)) dX9_add_30 ?_
  rw [cl0]
  refine x_iadd C dX9_add_31 ?_
  refine x_iload_n C dX9_add_32 rfl 3 rfl ?_
  refine x_iast C sh_93 (by rw [xw_ne _ _ _ (by decide)]; exact vp_le (vp_add (vp_mulk 24 (vp_lit 0 (by decide)) (by decide)) hi (by decide)) (by decide)) dX9_add_33 ?_
  refine x_aload_n C dX9_add_34 rfl 0 rfl ?_
  refine x_getr C sh_87 rfl iX9 5 (by decide) f19 (fun _ h => h) (by decide) rfl dX9_add_35 ?_
  refine x_iload_n C dX9_add_38 rfl 1 rfl ?_
  refine x_dup2 C rfl rfl dX9_add_39 ?_
  refine x_iald C sh_91 (vp_lit_in 0 (by decide)) dX9_add_40 ?_
  rw [cl0]
  refine x_iconst C (1 : Int32) (by decide) dX9_add_41 ?_
  refine x_iadd C dX9_add_42 ?_
  refine x_iast C sh_91 (vp_lit_in 0 (by decide)) dX9_add_43 ?_
  refine x_aload_n C dX9_add_44 rfl 0 rfl ?_
  refine x_iconst C (0 : Int32) (by decide) dX9_add_45 ?_
  refine x_puti (ty := .boolean) C sh_87 rfl iX9 21 (by decide) f93 (fun _ h => h) (by decide) rfl (by decide +kernel) (by decide +kernel) (by decide) rfl tyX9 tyX9_ok nmX9 (by decide +kernel) (by first | rfl | exact bI_nar _) (by first | rfl | exact bI_fit _) dX9_add_46 ?_
  refine x_aload_n C dX9_add_49 rfl 0 rfl ?_
  refine x_getr C sh_87 rfl iX9 5 (by decide) f19 (fun _ h => h) (by decide) rfl dX9_add_50 ?_
  refine x_iload_n C dX9_add_53 rfl 1 rfl ?_
  refine x_iald C sh_91 (vp_lit_in 0 (by decide)) dX9_add_54 ?_
  rw [cl0]
  refine x_iconst C (1 : Int32) (by decide) dX9_add_55 ?_
  refine x_isub C dX9_add_56 ?_
  exact x_iret C hr hlk dX9_add_57 ⟨by simp [xw_ne, xw_at, cl0], by simp [mAd, xw_ne, xw_at, cl0, nI]⟩

set_option maxHeartbeats 4000000 in
set_option maxRecDepth 100000 in
theorem c_X9_add_1 (l : Launch) (V : xV) (hV : xInj V) (σ : xS) (on off : Int32) (hi : vp_in (σ 91 1) 24) : xM l yX9_add wsX9_add ({ frames := 0, cells := 0, slots := 0, locals := 0 }) V [ra V 87, .int (1 : Int32), .int on, .int off] σ (rI (σ 91 1 + 1 - 1) (mAd σ 1 on off)) := by
  refine xM_of (cc := cX9_add) (maxL := 4) (ret := (some .int)) [(0, ra V 87), (1, .int (1 : Int32)), (2, .int on), (3, .int off)] hV (by decide) rfl rfl (Nat.le_of_ble_eq_true rfl) (fun p e s m args below meth c C hr hlk => ?_)
  have iX9 : ∀ w ∈ u_ws RX9 TX9 24, w ∈ wsX9_add := by decide +kernel
  have f22 : (Cond.fieldLink RX9 22 RX9 (TX9 6).2.1 (TX9 6).2.2.1).before args s = true := C.2.2.2.2.1 _ (by decide +kernel)
  have f19 : (Cond.fieldLink RX9 19 RX9 (TX9 5).2.1 (TX9 5).2.2.1).before args s = true := C.2.2.2.2.1 _ (by decide +kernel)
  have f25 : (Cond.fieldLink RX9 25 RX9 (TX9 7).2.1 (TX9 7).2.2.1).before args s = true := C.2.2.2.2.1 _ (by decide +kernel)
  have f93 : (Cond.fieldLink RX9 93 RX9 (TX9 21).2.1 (TX9 21).2.2.1).before args s = true := C.2.2.2.2.1 _ (by decide +kernel)
  refine x_aload_n C dX9_add_0 rfl 0 rfl ?_
  refine x_getr C sh_87 rfl iX9 6 (by decide) f22 (fun _ h => h) (by decide) rfl dX9_add_1 ?_
  refine x_bipush C (24 : Int32) (by decide) dX9_add_4 ?_
  refine x_iload_n C dX9_add_6 rfl 1 rfl ?_
  refine x_imul C dX9_add_7 ?_
  refine x_aload_n C dX9_add_8 rfl 0 rfl ?_
  refine x_getr C sh_87 rfl iX9 5 (by decide) f19 (fun _ h => h) (by decide) rfl dX9_add_9 ?_
  refine x_iload_n C dX9_add_12 rfl 1 rfl ?_
  refine x_iald C sh_91 (vp_lit_in 1 (by decide)) dX9_add_13 ?_
  rw [cl1]
  refine x_iadd C dX9_add_14 ?_
  refine x_iload_n C dX9_add_15 rfl 2 rfl ?_
  refine x_iast C sh_92 (vp_le (vp_add (vp_mulk 24 (vp_lit 1 (by decide)) (by decide)) hi (by decide)) (by decide)) dX9_add_16 ?_
  refine x_aload_n C dX9_add_17 rfl 0 rfl ?_
  refine x_getr C sh_87 rfl iX9 7 (by decide) f25 (fun _ h => h) (by decide) rfl dX9_add_18 ?_
  refine x_bipush C (24 : Int32) (by decide) dX9_add_21 ?_
  refine x_iload_n C dX9_add_23 rfl 1 rfl ?_
  refine x_imul C dX9_add_24 ?_
  refine x_aload_n C dX9_add_25 rfl 0 rfl ?_
  refine x_getr C sh_87 rfl iX9 5 (by decide) f19 (fun _ h => h) (by decide) rfl dX9_add_26 ?_
  refine x_iload_n C dX9_add_29 rfl 1 rfl ?_
  refine x_iald C sh_91 (vp_le (vp_lit 1 (by decide)) (by decide)) dX9_add_30 ?_
  rw [cl1]
  refine x_iadd C dX9_add_31 ?_
  refine x_iload_n C dX9_add_32 rfl 3 rfl ?_
  refine x_iast C sh_93 (by rw [xw_ne _ _ _ (by decide)]; exact vp_le (vp_add (vp_mulk 24 (vp_lit 1 (by decide)) (by decide)) hi (by decide)) (by decide)) dX9_add_33 ?_
  refine x_aload_n C dX9_add_34 rfl 0 rfl ?_
  refine x_getr C sh_87 rfl iX9 5 (by decide) f19 (fun _ h => h) (by decide) rfl dX9_add_35 ?_
  refine x_iload_n C dX9_add_38 rfl 1 rfl ?_
  refine x_dup2 C rfl rfl dX9_add_39 ?_
  refine x_iald C sh_91 (vp_lit_in 1 (by decide)) dX9_add_40 ?_
  rw [cl1]
  refine x_iconst C (1 : Int32) (by decide) dX9_add_41 ?_
  refine x_iadd C dX9_add_42 ?_
  refine x_iast C sh_91 (vp_lit_in 1 (by decide)) dX9_add_43 ?_
  refine x_aload_n C dX9_add_44 rfl 0 rfl ?_
  refine x_iconst C (0 : Int32) (by decide) dX9_add_45 ?_
  refine x_puti (ty := .boolean) C sh_87 rfl iX9 21 (by decide) f93 (fun _ h => h) (by decide) rfl (by decide +kernel) (by decide +kernel) (by decide) rfl tyX9 tyX9_ok nmX9 (by decide +kernel) (by first | rfl | exact bI_nar _) (by first | rfl | exact bI_fit _) dX9_add_46 ?_
  refine x_aload_n C dX9_add_49 rfl 0 rfl ?_
  refine x_getr C sh_87 rfl iX9 5 (by decide) f19 (fun _ h => h) (by decide) rfl dX9_add_50 ?_
  refine x_iload_n C dX9_add_53 rfl 1 rfl ?_
  refine x_iald C sh_91 (vp_lit_in 1 (by decide)) dX9_add_54 ?_
  rw [cl1]
  refine x_iconst C (1 : Int32) (by decide) dX9_add_55 ?_
  refine x_isub C dX9_add_56 ?_
  exact x_iret C hr hlk dX9_add_57 ⟨by simp [xw_ne, xw_at, cl1], by simp [mAd, xw_ne, xw_at, cl1, nI]⟩

set_option maxHeartbeats 4000000 in
set_option maxRecDepth 100000 in
theorem c_X9_add_2 (l : Launch) (V : xV) (hV : xInj V) (σ : xS) (on off : Int32) (hi : vp_in (σ 91 2) 24) : xM l yX9_add wsX9_add ({ frames := 0, cells := 0, slots := 0, locals := 0 }) V [ra V 87, .int (2 : Int32), .int on, .int off] σ (rI (σ 91 2 + 1 - 1) (mAd σ 2 on off)) := by
  refine xM_of (cc := cX9_add) (maxL := 4) (ret := (some .int)) [(0, ra V 87), (1, .int (2 : Int32)), (2, .int on), (3, .int off)] hV (by decide) rfl rfl (Nat.le_of_ble_eq_true rfl) (fun p e s m args below meth c C hr hlk => ?_)
  have iX9 : ∀ w ∈ u_ws RX9 TX9 24, w ∈ wsX9_add := by decide +kernel
  have f22 : (Cond.fieldLink RX9 22 RX9 (TX9 6).2.1 (TX9 6).2.2.1).before args s = true := C.2.2.2.2.1 _ (by decide +kernel)
  have f19 : (Cond.fieldLink RX9 19 RX9 (TX9 5).2.1 (TX9 5).2.2.1).before args s = true := C.2.2.2.2.1 _ (by decide +kernel)
  have f25 : (Cond.fieldLink RX9 25 RX9 (TX9 7).2.1 (TX9 7).2.2.1).before args s = true := C.2.2.2.2.1 _ (by decide +kernel)
  have f93 : (Cond.fieldLink RX9 93 RX9 (TX9 21).2.1 (TX9 21).2.2.1).before args s = true := C.2.2.2.2.1 _ (by decide +kernel)
  refine x_aload_n C dX9_add_0 rfl 0 rfl ?_
  refine x_getr C sh_87 rfl iX9 6 (by decide) f22 (fun _ h => h) (by decide) rfl dX9_add_1 ?_
  refine x_bipush C (24 : Int32) (by decide) dX9_add_4 ?_
  refine x_iload_n C dX9_add_6 rfl 1 rfl ?_
  refine x_imul C dX9_add_7 ?_
  refine x_aload_n C dX9_add_8 rfl 0 rfl ?_
  refine x_getr C sh_87 rfl iX9 5 (by decide) f19 (fun _ h => h) (by decide) rfl dX9_add_9 ?_
  refine x_iload_n C dX9_add_12 rfl 1 rfl ?_
  refine x_iald C sh_91 (vp_lit_in 2 (by decide)) dX9_add_13 ?_
  rw [cl2]
  refine x_iadd C dX9_add_14 ?_
  refine x_iload_n C dX9_add_15 rfl 2 rfl ?_
  refine x_iast C sh_92 (vp_le (vp_add (vp_mulk 24 (vp_lit 2 (by decide)) (by decide)) hi (by decide)) (by decide)) dX9_add_16 ?_
  refine x_aload_n C dX9_add_17 rfl 0 rfl ?_
  refine x_getr C sh_87 rfl iX9 7 (by decide) f25 (fun _ h => h) (by decide) rfl dX9_add_18 ?_
  refine x_bipush C (24 : Int32) (by decide) dX9_add_21 ?_
  refine x_iload_n C dX9_add_23 rfl 1 rfl ?_
  refine x_imul C dX9_add_24 ?_
  refine x_aload_n C dX9_add_25 rfl 0 rfl ?_
  refine x_getr C sh_87 rfl iX9 5 (by decide) f19 (fun _ h => h) (by decide) rfl dX9_add_26 ?_
  refine x_iload_n C dX9_add_29 rfl 1 rfl ?_
  refine x_iald C sh_91 (vp_le (vp_lit 2 (by decide)) (by decide)) dX9_add_30 ?_
  rw [cl2]
  refine x_iadd C dX9_add_31 ?_
  refine x_iload_n C dX9_add_32 rfl 3 rfl ?_
  refine x_iast C sh_93 (by rw [xw_ne _ _ _ (by decide)]; exact vp_le (vp_add (vp_mulk 24 (vp_lit 2 (by decide)) (by decide)) hi (by decide)) (by decide)) dX9_add_33 ?_
  refine x_aload_n C dX9_add_34 rfl 0 rfl ?_
  refine x_getr C sh_87 rfl iX9 5 (by decide) f19 (fun _ h => h) (by decide) rfl dX9_add_35 ?_
  refine x_iload_n C dX9_add_38 rfl 1 rfl ?_
  refine x_dup2 C rfl rfl dX9_add_39 ?_
  refine x_iald C sh_91 (vp_lit_in 2 (by decide)) dX9_add_40 ?_
  rw [cl2]
  refine x_iconst C (1 : Int32) (by decide) dX9_add_41 ?_
  refine x_iadd C dX9_add_42 ?_
  refine x_iast C sh_91 (vp_lit_in 2 (by decide)) dX9_add_43 ?_
  refine x_aload_n C dX9_add_44 rfl 0 rfl ?_
  refine x_iconst C (0 : Int32) (by decide) dX9_add_45 ?_
  refine x_puti (ty := .boolean) C sh_87 rfl iX9 21 (by decide) f93 (fun _ h => h) (by decide) rfl (by decide +kernel) (by decide +kernel) (by decide) rfl tyX9 tyX9_ok nmX9 (by decide +kernel) (by first | rfl | exact bI_nar _) (by first | rfl | exact bI_fit _) dX9_add_46 ?_
  refine x_aload_n C dX9_add_49 rfl 0 rfl ?_
  refine x_getr C sh_87 rfl iX9 5 (by decide) f19 (fun _ h => h) (by decide) rfl dX9_add_50 ?_
  refine x_iload_n C dX9_add_53 rfl 1 rfl ?_
  refine x_iald C sh_91 (vp_lit_in 2 (by decide)) dX9_add_54 ?_
  rw [cl2]
  refine x_iconst C (1 : Int32) (by decide) dX9_add_55 ?_
  refine x_isub C dX9_add_56 ?_
  exact x_iret C hr hlk dX9_add_57 ⟨by simp [xw_ne, xw_at, cl2], by simp [mAd, xw_ne, xw_at, cl2, nI]⟩

set_option maxHeartbeats 4000000 in
set_option maxRecDepth 100000 in
theorem c_X9_add_3 (l : Launch) (V : xV) (hV : xInj V) (σ : xS) (on off : Int32) (hi : vp_in (σ 91 3) 24) : xM l yX9_add wsX9_add ({ frames := 0, cells := 0, slots := 0, locals := 0 }) V [ra V 87, .int (3 : Int32), .int on, .int off] σ (rI (σ 91 3 + 1 - 1) (mAd σ 3 on off)) := by
  refine xM_of (cc := cX9_add) (maxL := 4) (ret := (some .int)) [(0, ra V 87), (1, .int (3 : Int32)), (2, .int on), (3, .int off)] hV (by decide) rfl rfl (Nat.le_of_ble_eq_true rfl) (fun p e s m args below meth c C hr hlk => ?_)
  have iX9 : ∀ w ∈ u_ws RX9 TX9 24, w ∈ wsX9_add := by decide +kernel
  have f22 : (Cond.fieldLink RX9 22 RX9 (TX9 6).2.1 (TX9 6).2.2.1).before args s = true := C.2.2.2.2.1 _ (by decide +kernel)
  have f19 : (Cond.fieldLink RX9 19 RX9 (TX9 5).2.1 (TX9 5).2.2.1).before args s = true := C.2.2.2.2.1 _ (by decide +kernel)
  have f25 : (Cond.fieldLink RX9 25 RX9 (TX9 7).2.1 (TX9 7).2.2.1).before args s = true := C.2.2.2.2.1 _ (by decide +kernel)
  have f93 : (Cond.fieldLink RX9 93 RX9 (TX9 21).2.1 (TX9 21).2.2.1).before args s = true := C.2.2.2.2.1 _ (by decide +kernel)
  refine x_aload_n C dX9_add_0 rfl 0 rfl ?_
  refine x_getr C sh_87 rfl iX9 6 (by decide) f22 (fun _ h => h) (by decide) rfl dX9_add_1 ?_
  refine x_bipush C (24 : Int32) (by decide) dX9_add_4 ?_
  refine x_iload_n C dX9_add_6 rfl 1 rfl ?_
  refine x_imul C dX9_add_7 ?_
  refine x_aload_n C dX9_add_8 rfl 0 rfl ?_
  refine x_getr C sh_87 rfl iX9 5 (by decide) f19 (fun _ h => h) (by decide) rfl dX9_add_9 ?_
  refine x_iload_n C dX9_add_12 rfl 1 rfl ?_
  refine x_iald C sh_91 (vp_lit_in 3 (by decide)) dX9_add_13 ?_
  rw [cl3]
  refine x_iadd C dX9_add_14 ?_
  refine x_iload_n C dX9_add_15 rfl 2 rfl ?_
  refine x_iast C sh_92 (vp_le (vp_add (vp_mulk 24 (vp_lit 3 (by decide)) (by decide)) hi (by decide)) (by decide)) dX9_add_16 ?_
  refine x_aload_n C dX9_add_17 rfl 0 rfl ?_
  refine x_getr C sh_87 rfl iX9 7 (by decide) f25 (fun _ h => h) (by decide) rfl dX9_add_18 ?_
  refine x_bipush C (24 : Int32) (by decide) dX9_add_21 ?_
  refine x_iload_n C dX9_add_23 rfl 1 rfl ?_
  refine x_imul C dX9_add_24 ?_
  refine x_aload_n C dX9_add_25 rfl 0 rfl ?_
  refine x_getr C sh_87 rfl iX9 5 (by decide) f19 (fun _ h => h) (by decide) rfl dX9_add_26 ?_
  refine x_iload_n C dX9_add_29 rfl 1 rfl ?_
  refine x_iald C sh_91 (vp_lit 3 (by decide)) dX9_add_30 ?_
  rw [cl3]
  refine x_iadd C dX9_add_31 ?_
  refine x_iload_n C dX9_add_32 rfl 3 rfl ?_
  refine x_iast C sh_93 (by rw [xw_ne _ _ _ (by decide)]; exact vp_le (vp_add (vp_mulk 24 (vp_lit 3 (by decide)) (by decide)) hi (by decide)) (by decide)) dX9_add_33 ?_
  refine x_aload_n C dX9_add_34 rfl 0 rfl ?_
  refine x_getr C sh_87 rfl iX9 5 (by decide) f19 (fun _ h => h) (by decide) rfl dX9_add_35 ?_
  refine x_iload_n C dX9_add_38 rfl 1 rfl ?_
  refine x_dup2 C rfl rfl dX9_add_39 ?_
  refine x_iald C sh_91 (vp_lit_in 3 (by decide)) dX9_add_40 ?_
  rw [cl3]
  refine x_iconst C (1 : Int32) (by decide) dX9_add_41 ?_
  refine x_iadd C dX9_add_42 ?_
  refine x_iast C sh_91 (vp_lit_in 3 (by decide)) dX9_add_43 ?_
  refine x_aload_n C dX9_add_44 rfl 0 rfl ?_
  refine x_iconst C (0 : Int32) (by decide) dX9_add_45 ?_
  refine x_puti (ty := .boolean) C sh_87 rfl iX9 21 (by decide) f93 (fun _ h => h) (by decide) rfl (by decide +kernel) (by decide +kernel) (by decide) rfl tyX9 tyX9_ok nmX9 (by decide +kernel) (by first | rfl | exact bI_nar _) (by first | rfl | exact bI_fit _) dX9_add_46 ?_
  refine x_aload_n C dX9_add_49 rfl 0 rfl ?_
  refine x_getr C sh_87 rfl iX9 5 (by decide) f19 (fun _ h => h) (by decide) rfl dX9_add_50 ?_
  refine x_iload_n C dX9_add_53 rfl 1 rfl ?_
  refine x_iald C sh_91 (vp_lit_in 3 (by decide)) dX9_add_54 ?_
  rw [cl3]
  refine x_iconst C (1 : Int32) (by decide) dX9_add_55 ?_
  refine x_isub C dX9_add_56 ?_
  exact x_iret C hr hlk dX9_add_57 ⟨by simp [xw_ne, xw_at, cl3], by simp [mAd, xw_ne, xw_at, cl3, nI]⟩

set_option maxHeartbeats 4000000 in
set_option maxRecDepth 100000 in
theorem c_X9_presenceOf_0 (l : Launch) (V : xV) (hV : xInj V) (σ : xS) (i : Int32) (hM : mV σ) (hi : vp_in i 24) : xM l yX9_presenceOf wsX9_presenceOf ({ frames := 3, cells := 0, slots := 0, locals := 70 }) V [ra V 87, .int (0 : Int32), .int i] σ (rI (mPres σ (0 : Int32) i) σ) := by
  refine xM_of (cc := cX9_presenceOf) (maxL := 5) (ret := (some .int)) [(0, ra V 87), (1, .int (0 : Int32)), (2, .int i)] hV (by decide) rfl rfl (Nat.le_of_ble_eq_true rfl) (fun p e s m args below meth c C hr hlk => ?_)
  refine x_iconst C (0 : Int32) (by decide) dX9_presenceOf_0 ?_
  refine x_istore_n C [(3, .int (0 : Int32)), (0, ra V 87), (1, .int (0 : Int32)), (2, .int i)] dX9_presenceOf_1 rfl (by decide) rfl ?_
  refine x_iconst C (0 : Int32) (by decide) dX9_presenceOf_2 ?_
  refine x_istore C [(4, .int (0 : Int32)), (3, .int (0 : Int32)), (0, ra V 87), (1, .int (0 : Int32)), (2, .int i)] dX9_presenceOf_3 (by decide) rfl ?_
  refine x_lv [2, 3, 4, 1, 0] [(0, ra V 87), (1, .int (0 : Int32)), (2, .int i), (3, .int (0 : Int32)), (4, .int (0 : Int32))] rfl ?_
  refine x_loop (fun μ σ_ lv_ => ∃ (k : Nat), μ = 16 - k ∧ σ = σ_ ∧ lv_ = [(0, ra V 87), (1, .int (0 : Int32)), (2, .int i), (3, .int (maskI (fun c => mPr σ (nI c) && mIs σ (0 : Int32) i (nI c)) k)), (4, .int (nI k))] ∧ k ≤ 16) ⟨_, ⟨0, rfl, rfl, rfl, Nat.zero_le _⟩⟩ ?_
  rintro μ5 _ _ ⟨k, hμ5, rfl, rfl, hc5_0⟩ ih5
  refine x_iload C dX9_presenceOf_5 4 rfl ?_
  refine x_bipush C (16 : Int32) (by decide) dX9_presenceOf_7 ?_
  refine x_icmp_ge C 45 dX9_presenceOf_9 rfl (fun h1 => ?_) (fun h1 => ?_)
  · refine x_iload_n C dX9_presenceOf_45 rfl 3 rfl ?_
    exact x_iret C hr hlk dX9_presenceOf_46 ⟨by rw [show k = 16 from Nat.le_antisymm hc5_0 (Nat.le_of_not_lt (fun hq => nI_ge hq (by decide) h1))]; rfl, rfl⟩
  · have hkn : k < 16 := Nat.lt_of_not_le (fun hq => h1 (nI_le hq (by omega)))
    refine x_aload_n C dX9_presenceOf_12 rfl 0 rfl ?_
    refine x_iload C dX9_presenceOf_13 4 rfl ?_
    refine x_callV C sh_87 (by decide) rfl [.int (nI k)] (c_X9_isProduct l V hV σ (nI k) hM) (cwV 1 C.2.2.2.2.1 gX9_presenceOf_X9_isProduct rfl rfl rfl (by decide +kernel) ⟨Nat.le_of_ble_eq_true rfl, Nat.le_of_ble_eq_true rfl⟩) rfl rfl (Nat.le_of_ble_eq_true rfl) dX9_presenceOf_15 ⟨Nat.le_of_ble_eq_true rfl, Nat.le_of_ble_eq_true rfl⟩ (x_kI ?_)
    refine x_bif_eq C 39 dX9_presenceOf_18 rfl (fun h2 => ?_) (fun h2 => ?_)
    · refine x_iinc C (q := 4) ((nI k) + (1 : Int32)) [(4, .int ((nI k) + (1 : Int32))), (0, ra V 87), (1, .int (0 : Int32)), (2, .int i), (3, .int (maskI (fun c => mPr σ (nI c) && mIs σ (0 : Int32) i (nI c)) k))] dX9_presenceOf_39 rfl rfl (by decide) rfl ?_
      refine x_goto C 5 dX9_presenceOf_42 rfl ?_
      refine x_lv [1, 2, 3, 4, 0] [(0, ra V 87), (1, .int (0 : Int32)), (2, .int i), (3, .int (maskI (fun c => mPr σ (nI c) && mIs σ (0 : Int32) i (nI c)) k)), (4, .int ((nI k) + (1 : Int32)))] rfl ?_
      exact ih5 _ _ _ (by omega) ⟨k + 1, rfl, rfl, by rw [nI_succ]; simp [maskI, show mIs σ 2 i (nI k) = mIs2 σ i (nI k) from rfl, h2], hkn⟩
    · refine x_aload_n C dX9_presenceOf_21 rfl 0 rfl ?_
      refine x_iload_n C dX9_presenceOf_22 rfl 1 rfl ?_
      refine x_iload_n C dX9_presenceOf_23 rfl 2 rfl ?_
      refine x_iload C dX9_presenceOf_24 4 rfl ?_
      refine x_callV C sh_87 (by decide) rfl [.int (0 : Int32), .int i, .int (nI k)] (c_X9_is_0 l V hV σ i (nI k) hM hi) (cwV 3 C.2.2.2.2.1 gX9_presenceOf_X9_is rfl rfl rfl (by decide +kernel) ⟨Nat.le_of_ble_eq_true rfl, Nat.le_of_ble_eq_true rfl⟩) rfl rfl (Nat.le_of_ble_eq_true rfl) dX9_presenceOf_26 ⟨Nat.le_of_ble_eq_true rfl, Nat.le_of_ble_eq_true rfl⟩ (x_kI ?_)
      refine x_bif_eq C 39 dX9_presenceOf_29 rfl (fun h3 => ?_) (fun h3 => ?_)
      · refine x_iinc C (q := 4) ((nI k) + (1 : Int32)) [(4, .int ((nI k) + (1 : Int32))), (0, ra V 87), (1, .int (0 : Int32)), (2, .int i), (3, .int (maskI (fun c => mPr σ (nI c) && mIs σ (0 : Int32) i (nI c)) k))] dX9_presenceOf_39 rfl rfl (by decide) rfl ?_
        refine x_goto C 5 dX9_presenceOf_42 rfl ?_
        refine x_lv [1, 2, 3, 4, 0] [(0, ra V 87), (1, .int (0 : Int32)), (2, .int i), (3, .int (maskI (fun c => mPr σ (nI c) && mIs σ (0 : Int32) i (nI c)) k)), (4, .int ((nI k) + (1 : Int32)))] rfl ?_
        exact ih5 _ _ _ (by omega) ⟨k + 1, rfl, rfl, by rw [nI_succ]; simp [maskI, show mIs σ 2 i (nI k) = mIs2 σ i (nI k) from rfl, h2, h3], hkn⟩
      · refine x_iload_n C dX9_presenceOf_32 rfl 3 rfl ?_
        refine x_iconst C (1 : Int32) (by decide) dX9_presenceOf_33 ?_
        refine x_iload C dX9_presenceOf_34 4 rfl ?_
        refine x_ishl C dX9_presenceOf_36 ?_
        refine x_ior C dX9_presenceOf_37 ?_
        refine x_istore_n C [(3, .int ((maskI (fun c => mPr σ (nI c) && mIs σ (0 : Int32) i (nI c)) k) ||| ((1 : Int32) <<< ((nI k) &&& 31)))), (0, ra V 87), (1, .int (0 : Int32)), (2, .int i), (4, .int (nI k))] dX9_presenceOf_38 rfl (by decide) rfl ?_
        refine x_iinc C (q := 4) ((nI k) + (1 : Int32)) [(4, .int ((nI k) + (1 : Int32))), (3, .int ((maskI (fun c => mPr σ (nI c) && mIs σ (0 : Int32) i (nI c)) k) ||| ((1 : Int32) <<< ((nI k) &&& 31)))), (0, ra V 87), (1, .int (0 : Int32)), (2, .int i)] dX9_presenceOf_39 rfl rfl (by decide) rfl ?_
        refine x_goto C 5 dX9_presenceOf_42 rfl ?_
        refine x_lv [2, 3, 4, 1, 0] [(0, ra V 87), (1, .int (0 : Int32)), (2, .int i), (3, .int ((maskI (fun c => mPr σ (nI c) && mIs σ (0 : Int32) i (nI c)) k) ||| ((1 : Int32) <<< ((nI k) &&& 31)))), (4, .int ((nI k) + (1 : Int32)))] rfl ?_
        exact ih5 _ _ _ (by omega) ⟨k + 1, rfl, rfl, by rw [nI_succ]; simp [maskI, show mIs σ 2 i (nI k) = mIs2 σ i (nI k) from rfl, h2, h3], hkn⟩

set_option maxHeartbeats 4000000 in
set_option maxRecDepth 100000 in
theorem c_X9_presenceOf_1 (l : Launch) (V : xV) (hV : xInj V) (σ : xS) (i : Int32) (hM : mV σ) (hi : vp_in i 12) : xM l yX9_presenceOf wsX9_presenceOf ({ frames := 3, cells := 0, slots := 0, locals := 70 }) V [ra V 87, .int (1 : Int32), .int i] σ (rI (mPres σ (1 : Int32) i) σ) := by
  refine xM_of (cc := cX9_presenceOf) (maxL := 5) (ret := (some .int)) [(0, ra V 87), (1, .int (1 : Int32)), (2, .int i)] hV (by decide) rfl rfl (Nat.le_of_ble_eq_true rfl) (fun p e s m args below meth c C hr hlk => ?_)
  refine x_iconst C (0 : Int32) (by decide) dX9_presenceOf_0 ?_
  refine x_istore_n C [(3, .int (0 : Int32)), (0, ra V 87), (1, .int (1 : Int32)), (2, .int i)] dX9_presenceOf_1 rfl (by decide) rfl ?_
  refine x_iconst C (0 : Int32) (by decide) dX9_presenceOf_2 ?_
  refine x_istore C [(4, .int (0 : Int32)), (3, .int (0 : Int32)), (0, ra V 87), (1, .int (1 : Int32)), (2, .int i)] dX9_presenceOf_3 (by decide) rfl ?_
  refine x_lv [2, 3, 4, 1, 0] [(0, ra V 87), (1, .int (1 : Int32)), (2, .int i), (3, .int (0 : Int32)), (4, .int (0 : Int32))] rfl ?_
  refine x_loop (fun μ σ_ lv_ => ∃ (k : Nat), μ = 16 - k ∧ σ = σ_ ∧ lv_ = [(0, ra V 87), (1, .int (1 : Int32)), (2, .int i), (3, .int (maskI (fun c => mPr σ (nI c) && mIs σ (1 : Int32) i (nI c)) k)), (4, .int (nI k))] ∧ k ≤ 16) ⟨_, ⟨0, rfl, rfl, rfl, Nat.zero_le _⟩⟩ ?_
  rintro μ5 _ _ ⟨k, hμ5, rfl, rfl, hc5_0⟩ ih5
  refine x_iload C dX9_presenceOf_5 4 rfl ?_
  refine x_bipush C (16 : Int32) (by decide) dX9_presenceOf_7 ?_
  refine x_icmp_ge C 45 dX9_presenceOf_9 rfl (fun h1 => ?_) (fun h1 => ?_)
  · refine x_iload_n C dX9_presenceOf_45 rfl 3 rfl ?_
    exact x_iret C hr hlk dX9_presenceOf_46 ⟨by rw [show k = 16 from Nat.le_antisymm hc5_0 (Nat.le_of_not_lt (fun hq => nI_ge hq (by decide) h1))]; rfl, rfl⟩
  · have hkn : k < 16 := Nat.lt_of_not_le (fun hq => h1 (nI_le hq (by omega)))
    refine x_aload_n C dX9_presenceOf_12 rfl 0 rfl ?_
    refine x_iload C dX9_presenceOf_13 4 rfl ?_
    refine x_callV C sh_87 (by decide) rfl [.int (nI k)] (c_X9_isProduct l V hV σ (nI k) hM) (cwV 1 C.2.2.2.2.1 gX9_presenceOf_X9_isProduct rfl rfl rfl (by decide +kernel) ⟨Nat.le_of_ble_eq_true rfl, Nat.le_of_ble_eq_true rfl⟩) rfl rfl (Nat.le_of_ble_eq_true rfl) dX9_presenceOf_15 ⟨Nat.le_of_ble_eq_true rfl, Nat.le_of_ble_eq_true rfl⟩ (x_kI ?_)
    refine x_bif_eq C 39 dX9_presenceOf_18 rfl (fun h2 => ?_) (fun h2 => ?_)
    · refine x_iinc C (q := 4) ((nI k) + (1 : Int32)) [(4, .int ((nI k) + (1 : Int32))), (0, ra V 87), (1, .int (1 : Int32)), (2, .int i), (3, .int (maskI (fun c => mPr σ (nI c) && mIs σ (1 : Int32) i (nI c)) k))] dX9_presenceOf_39 rfl rfl (by decide) rfl ?_
      refine x_goto C 5 dX9_presenceOf_42 rfl ?_
      refine x_lv [1, 2, 3, 4, 0] [(0, ra V 87), (1, .int (1 : Int32)), (2, .int i), (3, .int (maskI (fun c => mPr σ (nI c) && mIs σ (1 : Int32) i (nI c)) k)), (4, .int ((nI k) + (1 : Int32)))] rfl ?_
      exact ih5 _ _ _ (by omega) ⟨k + 1, rfl, rfl, by rw [nI_succ]; simp [maskI, show mIs σ 2 i (nI k) = mIs2 σ i (nI k) from rfl, h2], hkn⟩
    · refine x_aload_n C dX9_presenceOf_21 rfl 0 rfl ?_
      refine x_iload_n C dX9_presenceOf_22 rfl 1 rfl ?_
      refine x_iload_n C dX9_presenceOf_23 rfl 2 rfl ?_
      refine x_iload C dX9_presenceOf_24 4 rfl ?_
      refine x_callV C sh_87 (by decide) rfl [.int (1 : Int32), .int i, .int (nI k)] (c_X9_is_1 l V hV σ i (nI k) hM hi) (cwV 3 C.2.2.2.2.1 gX9_presenceOf_X9_is rfl rfl rfl (by decide +kernel) ⟨Nat.le_of_ble_eq_true rfl, Nat.le_of_ble_eq_true rfl⟩) rfl rfl (Nat.le_of_ble_eq_true rfl) dX9_presenceOf_26 ⟨Nat.le_of_ble_eq_true rfl, Nat.le_of_ble_eq_true rfl⟩ (x_kI ?_)
      refine x_bif_eq C 39 dX9_presenceOf_29 rfl (fun h3 => ?_) (fun h3 => ?_)
      · refine x_iinc C (q := 4) ((nI k) + (1 : Int32)) [(4, .int ((nI k) + (1 : Int32))), (0, ra V 87), (1, .int (1 : Int32)), (2, .int i), (3, .int (maskI (fun c => mPr σ (nI c) && mIs σ (1 : Int32) i (nI c)) k))] dX9_presenceOf_39 rfl rfl (by decide) rfl ?_
        refine x_goto C 5 dX9_presenceOf_42 rfl ?_
        refine x_lv [1, 2, 3, 4, 0] [(0, ra V 87), (1, .int (1 : Int32)), (2, .int i), (3, .int (maskI (fun c => mPr σ (nI c) && mIs σ (1 : Int32) i (nI c)) k)), (4, .int ((nI k) + (1 : Int32)))] rfl ?_
        exact ih5 _ _ _ (by omega) ⟨k + 1, rfl, rfl, by rw [nI_succ]; simp [maskI, show mIs σ 2 i (nI k) = mIs2 σ i (nI k) from rfl, h2, h3], hkn⟩
      · refine x_iload_n C dX9_presenceOf_32 rfl 3 rfl ?_
        refine x_iconst C (1 : Int32) (by decide) dX9_presenceOf_33 ?_
        refine x_iload C dX9_presenceOf_34 4 rfl ?_
        refine x_ishl C dX9_presenceOf_36 ?_
        refine x_ior C dX9_presenceOf_37 ?_
        refine x_istore_n C [(3, .int ((maskI (fun c => mPr σ (nI c) && mIs σ (1 : Int32) i (nI c)) k) ||| ((1 : Int32) <<< ((nI k) &&& 31)))), (0, ra V 87), (1, .int (1 : Int32)), (2, .int i), (4, .int (nI k))] dX9_presenceOf_38 rfl (by decide) rfl ?_
        refine x_iinc C (q := 4) ((nI k) + (1 : Int32)) [(4, .int ((nI k) + (1 : Int32))), (3, .int ((maskI (fun c => mPr σ (nI c) && mIs σ (1 : Int32) i (nI c)) k) ||| ((1 : Int32) <<< ((nI k) &&& 31)))), (0, ra V 87), (1, .int (1 : Int32)), (2, .int i)] dX9_presenceOf_39 rfl rfl (by decide) rfl ?_
        refine x_goto C 5 dX9_presenceOf_42 rfl ?_
        refine x_lv [2, 3, 4, 1, 0] [(0, ra V 87), (1, .int (1 : Int32)), (2, .int i), (3, .int ((maskI (fun c => mPr σ (nI c) && mIs σ (1 : Int32) i (nI c)) k) ||| ((1 : Int32) <<< ((nI k) &&& 31)))), (4, .int ((nI k) + (1 : Int32)))] rfl ?_
        exact ih5 _ _ _ (by omega) ⟨k + 1, rfl, rfl, by rw [nI_succ]; simp [maskI, show mIs σ 2 i (nI k) = mIs2 σ i (nI k) from rfl, h2, h3], hkn⟩

set_option maxHeartbeats 4000000 in
set_option maxRecDepth 100000 in
theorem c_X9_presenceOf_2 (l : Launch) (V : xV) (hV : xInj V) (σ : xS) (i : Int32) (hM : mV σ) (hi : vp_in i 24) : xM l yX9_presenceOf wsX9_presenceOf ({ frames := 3, cells := 0, slots := 0, locals := 70 }) V [ra V 87, .int (2 : Int32), .int i] σ (rI (mPres σ (2 : Int32) i) σ) := by
  refine xM_of (cc := cX9_presenceOf) (maxL := 5) (ret := (some .int)) [(0, ra V 87), (1, .int (2 : Int32)), (2, .int i)] hV (by decide) rfl rfl (Nat.le_of_ble_eq_true rfl) (fun p e s m args below meth c C hr hlk => ?_)
  refine x_iconst C (0 : Int32) (by decide) dX9_presenceOf_0 ?_
  refine x_istore_n C [(3, .int (0 : Int32)), (0, ra V 87), (1, .int (2 : Int32)), (2, .int i)] dX9_presenceOf_1 rfl (by decide) rfl ?_
  refine x_iconst C (0 : Int32) (by decide) dX9_presenceOf_2 ?_
  refine x_istore C [(4, .int (0 : Int32)), (3, .int (0 : Int32)), (0, ra V 87), (1, .int (2 : Int32)), (2, .int i)] dX9_presenceOf_3 (by decide) rfl ?_
  refine x_lv [2, 3, 4, 1, 0] [(0, ra V 87), (1, .int (2 : Int32)), (2, .int i), (3, .int (0 : Int32)), (4, .int (0 : Int32))] rfl ?_
  refine x_loop (fun μ σ_ lv_ => ∃ (k : Nat), μ = 16 - k ∧ σ = σ_ ∧ lv_ = [(0, ra V 87), (1, .int (2 : Int32)), (2, .int i), (3, .int (maskI (fun c => mPr σ (nI c) && mIs σ (2 : Int32) i (nI c)) k)), (4, .int (nI k))] ∧ k ≤ 16) ⟨_, ⟨0, rfl, rfl, rfl, Nat.zero_le _⟩⟩ ?_
  rintro μ5 _ _ ⟨k, hμ5, rfl, rfl, hc5_0⟩ ih5
  refine x_iload C dX9_presenceOf_5 4 rfl ?_
  refine x_bipush C (16 : Int32) (by decide) dX9_presenceOf_7 ?_
  refine x_icmp_ge C 45 dX9_presenceOf_9 rfl (fun h1 => ?_) (fun h1 => ?_)
  · refine x_iload_n C dX9_presenceOf_45 rfl 3 rfl ?_
    exact x_iret C hr hlk dX9_presenceOf_46 ⟨by rw [show k = 16 from Nat.le_antisymm hc5_0 (Nat.le_of_not_lt (fun hq => nI_ge hq (by decide) h1))]; rfl, rfl⟩
  · have hkn : k < 16 := Nat.lt_of_not_le (fun hq => h1 (nI_le hq (by omega)))
    refine x_aload_n C dX9_presenceOf_12 rfl 0 rfl ?_
    refine x_iload C dX9_presenceOf_13 4 rfl ?_
    refine x_callV C sh_87 (by decide) rfl [.int (nI k)] (c_X9_isProduct l V hV σ (nI k) hM) (cwV 1 C.2.2.2.2.1 gX9_presenceOf_X9_isProduct rfl rfl rfl (by decide +kernel) ⟨Nat.le_of_ble_eq_true rfl, Nat.le_of_ble_eq_true rfl⟩) rfl rfl (Nat.le_of_ble_eq_true rfl) dX9_presenceOf_15 ⟨Nat.le_of_ble_eq_true rfl, Nat.le_of_ble_eq_true rfl⟩ (x_kI ?_)
    refine x_bif_eq C 39 dX9_presenceOf_18 rfl (fun h2 => ?_) (fun h2 => ?_)
    · refine x_iinc C (q := 4) ((nI k) + (1 : Int32)) [(4, .int ((nI k) + (1 : Int32))), (0, ra V 87), (1, .int (2 : Int32)), (2, .int i), (3, .int (maskI (fun c => mPr σ (nI c) && mIs σ (2 : Int32) i (nI c)) k))] dX9_presenceOf_39 rfl rfl (by decide) rfl ?_
      refine x_goto C 5 dX9_presenceOf_42 rfl ?_
      refine x_lv [1, 2, 3, 4, 0] [(0, ra V 87), (1, .int (2 : Int32)), (2, .int i), (3, .int (maskI (fun c => mPr σ (nI c) && mIs σ (2 : Int32) i (nI c)) k)), (4, .int ((nI k) + (1 : Int32)))] rfl ?_
      exact ih5 _ _ _ (by omega) ⟨k + 1, rfl, rfl, by rw [nI_succ]; simp [maskI, show mIs σ 2 i (nI k) = mIs2 σ i (nI k) from rfl, h2], hkn⟩
    · refine x_aload_n C dX9_presenceOf_21 rfl 0 rfl ?_
      refine x_iload_n C dX9_presenceOf_22 rfl 1 rfl ?_
      refine x_iload_n C dX9_presenceOf_23 rfl 2 rfl ?_
      refine x_iload C dX9_presenceOf_24 4 rfl ?_
      refine x_callV C sh_87 (by decide) rfl [.int (2 : Int32), .int i, .int (nI k)] (c_X9_is_2 l V hV σ i (nI k) hM hi) (cwV 3 C.2.2.2.2.1 gX9_presenceOf_X9_is rfl rfl rfl (by decide +kernel) ⟨Nat.le_of_ble_eq_true rfl, Nat.le_of_ble_eq_true rfl⟩) rfl rfl (Nat.le_of_ble_eq_true rfl) dX9_presenceOf_26 ⟨Nat.le_of_ble_eq_true rfl, Nat.le_of_ble_eq_true rfl⟩ (x_kI ?_)
      refine x_bif_eq C 39 dX9_presenceOf_29 rfl (fun h3 => ?_) (fun h3 => ?_)
      · refine x_iinc C (q := 4) ((nI k) + (1 : Int32)) [(4, .int ((nI k) + (1 : Int32))), (0, ra V 87), (1, .int (2 : Int32)), (2, .int i), (3, .int (maskI (fun c => mPr σ (nI c) && mIs σ (2 : Int32) i (nI c)) k))] dX9_presenceOf_39 rfl rfl (by decide) rfl ?_
        refine x_goto C 5 dX9_presenceOf_42 rfl ?_
        refine x_lv [1, 2, 3, 4, 0] [(0, ra V 87), (1, .int (2 : Int32)), (2, .int i), (3, .int (maskI (fun c => mPr σ (nI c) && mIs σ (2 : Int32) i (nI c)) k)), (4, .int ((nI k) + (1 : Int32)))] rfl ?_
        exact ih5 _ _ _ (by omega) ⟨k + 1, rfl, rfl, by rw [nI_succ]; simp [maskI, show mIs σ 2 i (nI k) = mIs2 σ i (nI k) from rfl, h2, h3], hkn⟩
      · refine x_iload_n C dX9_presenceOf_32 rfl 3 rfl ?_
        refine x_iconst C (1 : Int32) (by decide) dX9_presenceOf_33 ?_
        refine x_iload C dX9_presenceOf_34 4 rfl ?_
        refine x_ishl C dX9_presenceOf_36 ?_
        refine x_ior C dX9_presenceOf_37 ?_
        refine x_istore_n C [(3, .int ((maskI (fun c => mPr σ (nI c) && mIs σ (2 : Int32) i (nI c)) k) ||| ((1 : Int32) <<< ((nI k) &&& 31)))), (0, ra V 87), (1, .int (2 : Int32)), (2, .int i), (4, .int (nI k))] dX9_presenceOf_38 rfl (by decide) rfl ?_
        refine x_iinc C (q := 4) ((nI k) + (1 : Int32)) [(4, .int ((nI k) + (1 : Int32))), (3, .int ((maskI (fun c => mPr σ (nI c) && mIs σ (2 : Int32) i (nI c)) k) ||| ((1 : Int32) <<< ((nI k) &&& 31)))), (0, ra V 87), (1, .int (2 : Int32)), (2, .int i)] dX9_presenceOf_39 rfl rfl (by decide) rfl ?_
        refine x_goto C 5 dX9_presenceOf_42 rfl ?_
        refine x_lv [2, 3, 4, 1, 0] [(0, ra V 87), (1, .int (2 : Int32)), (2, .int i), (3, .int ((maskI (fun c => mPr σ (nI c) && mIs σ (2 : Int32) i (nI c)) k) ||| ((1 : Int32) <<< ((nI k) &&& 31)))), (4, .int ((nI k) + (1 : Int32)))] rfl ?_
        exact ih5 _ _ _ (by omega) ⟨k + 1, rfl, rfl, by rw [nI_succ]; simp [maskI, show mIs σ 2 i (nI k) = mIs2 σ i (nI k) from rfl, h2, h3], hkn⟩

set_option maxHeartbeats 4000000 in
set_option maxRecDepth 100000 in
theorem c_X9_presenceOf_3 (l : Launch) (V : xV) (hV : xInj V) (σ : xS) (i : Int32) (hM : mV σ) (hi : vp_in i 16) : xM l yX9_presenceOf wsX9_presenceOf ({ frames := 3, cells := 0, slots := 0, locals := 70 }) V [ra V 87, .int (3 : Int32), .int i] σ (rI (mPres σ (3 : Int32) i) σ) := by
  refine xM_of (cc := cX9_presenceOf) (maxL := 5) (ret := (some .int)) [(0, ra V 87), (1, .int (3 : Int32)), (2, .int i)] hV (by decide) rfl rfl (Nat.le_of_ble_eq_true rfl) (fun p e s m args below meth c C hr hlk => ?_)
  refine x_iconst C (0 : Int32) (by decide) dX9_presenceOf_0 ?_
  refine x_istore_n C [(3, .int (0 : Int32)), (0, ra V 87), (1, .int (3 : Int32)), (2, .int i)] dX9_presenceOf_1 rfl (by decide) rfl ?_
  refine x_iconst C (0 : Int32) (by decide) dX9_presenceOf_2 ?_
  refine x_istore C [(4, .int (0 : Int32)), (3, .int (0 : Int32)), (0, ra V 87), (1, .int (3 : Int32)), (2, .int i)] dX9_presenceOf_3 (by decide) rfl ?_
  refine x_lv [2, 3, 4, 1, 0] [(0, ra V 87), (1, .int (3 : Int32)), (2, .int i), (3, .int (0 : Int32)), (4, .int (0 : Int32))] rfl ?_
  refine x_loop (fun μ σ_ lv_ => ∃ (k : Nat), μ = 16 - k ∧ σ = σ_ ∧ lv_ = [(0, ra V 87), (1, .int (3 : Int32)), (2, .int i), (3, .int (maskI (fun c => mPr σ (nI c) && mIs σ (3 : Int32) i (nI c)) k)), (4, .int (nI k))] ∧ k ≤ 16) ⟨_, ⟨0, rfl, rfl, rfl, Nat.zero_le _⟩⟩ ?_
  rintro μ5 _ _ ⟨k, hμ5, rfl, rfl, hc5_0⟩ ih5
  refine x_iload C dX9_presenceOf_5 4 rfl ?_
  refine x_bipush C (16 : Int32) (by decide) dX9_presenceOf_7 ?_
  refine x_icmp_ge C 45 dX9_presenceOf_9 rfl (fun h1 => ?_) (fun h1 => ?_)
  · refine x_iload_n C dX9_presenceOf_45 rfl 3 rfl ?_
    exact x_iret C hr hlk dX9_presenceOf_46 ⟨by rw [show k = 16 from Nat.le_antisymm hc5_0 (Nat.le_of_not_lt (fun hq => nI_ge hq (by decide) h1))]; rfl, rfl⟩
  · have hkn : k < 16 := Nat.lt_of_not_le (fun hq => h1 (nI_le hq (by omega)))
    refine x_aload_n C dX9_presenceOf_12 rfl 0 rfl ?_
    refine x_iload C dX9_presenceOf_13 4 rfl ?_
    refine x_callV C sh_87 (by decide) rfl [.int (nI k)] (c_X9_isProduct l V hV σ (nI k) hM) (cwV 1 C.2.2.2.2.1 gX9_presenceOf_X9_isProduct rfl rfl rfl (by decide +kernel) ⟨Nat.le_of_ble_eq_true rfl, Nat.le_of_ble_eq_true rfl⟩) rfl rfl (Nat.le_of_ble_eq_true rfl) dX9_presenceOf_15 ⟨Nat.le_of_ble_eq_true rfl, Nat.le_of_ble_eq_true rfl⟩ (x_kI ?_)
    refine x_bif_eq C 39 dX9_presenceOf_18 rfl (fun h2 => ?_) (fun h2 => ?_)
    · refine x_iinc C (q := 4) ((nI k) + (1 : Int32)) [(4, .int ((nI k) + (1 : Int32))), (0, ra V 87), (1, .int (3 : Int32)), (2, .int i), (3, .int (maskI (fun c => mPr σ (nI c) && mIs σ (3 : Int32) i (nI c)) k))] dX9_presenceOf_39 rfl rfl (by decide) rfl ?_
      refine x_goto C 5 dX9_presenceOf_42 rfl ?_
      refine x_lv [1, 2, 3, 4, 0] [(0, ra V 87), (1, .int (3 : Int32)), (2, .int i), (3, .int (maskI (fun c => mPr σ (nI c) && mIs σ (3 : Int32) i (nI c)) k)), (4, .int ((nI k) + (1 : Int32)))] rfl ?_
      exact ih5 _ _ _ (by omega) ⟨k + 1, rfl, rfl, by rw [nI_succ]; simp [maskI, show mIs σ 2 i (nI k) = mIs2 σ i (nI k) from rfl, h2], hkn⟩
    · refine x_aload_n C dX9_presenceOf_21 rfl 0 rfl ?_
      refine x_iload_n C dX9_presenceOf_22 rfl 1 rfl ?_
      refine x_iload_n C dX9_presenceOf_23 rfl 2 rfl ?_
      refine x_iload C dX9_presenceOf_24 4 rfl ?_
      refine x_callV C sh_87 (by decide) rfl [.int (3 : Int32), .int i, .int (nI k)] (c_X9_is_3 l V hV σ i (nI k) hM hi) (cwV 3 C.2.2.2.2.1 gX9_presenceOf_X9_is rfl rfl rfl (by decide +kernel) ⟨Nat.le_of_ble_eq_true rfl, Nat.le_of_ble_eq_true rfl⟩) rfl rfl (Nat.le_of_ble_eq_true rfl) dX9_presenceOf_26 ⟨Nat.le_of_ble_eq_true rfl, Nat.le_of_ble_eq_true rfl⟩ (x_kI ?_)
      refine x_bif_eq C 39 dX9_presenceOf_29 rfl (fun h3 => ?_) (fun h3 => ?_)
      · refine x_iinc C (q := 4) ((nI k) + (1 : Int32)) [(4, .int ((nI k) + (1 : Int32))), (0, ra V 87), (1, .int (3 : Int32)), (2, .int i), (3, .int (maskI (fun c => mPr σ (nI c) && mIs σ (3 : Int32) i (nI c)) k))] dX9_presenceOf_39 rfl rfl (by decide) rfl ?_
        refine x_goto C 5 dX9_presenceOf_42 rfl ?_
        refine x_lv [1, 2, 3, 4, 0] [(0, ra V 87), (1, .int (3 : Int32)), (2, .int i), (3, .int (maskI (fun c => mPr σ (nI c) && mIs σ (3 : Int32) i (nI c)) k)), (4, .int ((nI k) + (1 : Int32)))] rfl ?_
        exact ih5 _ _ _ (by omega) ⟨k + 1, rfl, rfl, by rw [nI_succ]; simp [maskI, show mIs σ 2 i (nI k) = mIs2 σ i (nI k) from rfl, h2, h3], hkn⟩
      · refine x_iload_n C dX9_presenceOf_32 rfl 3 rfl ?_
        refine x_iconst C (1 : Int32) (by decide) dX9_presenceOf_33 ?_
        refine x_iload C dX9_presenceOf_34 4 rfl ?_
        refine x_ishl C dX9_presenceOf_36 ?_
        refine x_ior C dX9_presenceOf_37 ?_
        refine x_istore_n C [(3, .int ((maskI (fun c => mPr σ (nI c) && mIs σ (3 : Int32) i (nI c)) k) ||| ((1 : Int32) <<< ((nI k) &&& 31)))), (0, ra V 87), (1, .int (3 : Int32)), (2, .int i), (4, .int (nI k))] dX9_presenceOf_38 rfl (by decide) rfl ?_
        refine x_iinc C (q := 4) ((nI k) + (1 : Int32)) [(4, .int ((nI k) + (1 : Int32))), (3, .int ((maskI (fun c => mPr σ (nI c) && mIs σ (3 : Int32) i (nI c)) k) ||| ((1 : Int32) <<< ((nI k) &&& 31)))), (0, ra V 87), (1, .int (3 : Int32)), (2, .int i)] dX9_presenceOf_39 rfl rfl (by decide) rfl ?_
        refine x_goto C 5 dX9_presenceOf_42 rfl ?_
        refine x_lv [2, 3, 4, 1, 0] [(0, ra V 87), (1, .int (3 : Int32)), (2, .int i), (3, .int ((maskI (fun c => mPr σ (nI c) && mIs σ (3 : Int32) i (nI c)) k) ||| ((1 : Int32) <<< ((nI k) &&& 31)))), (4, .int ((nI k) + (1 : Int32)))] rfl ?_
        exact ih5 _ _ _ (by omega) ⟨k + 1, rfl, rfl, by rw [nI_succ]; simp [maskI, show mIs σ 2 i (nI k) = mIs2 σ i (nI k) from rfl, h2, h3], hkn⟩

def qRule (σ : xS) (k f g : Int32) : Nat := if mIn k 0 1 = true ∧ mIn f 0 3 = true ∧ mIn g 0 3 = true then (if t0 σ 209 0 = 8 then 2 else 0) else 1
def qDropR (σ : xS) : Nat := if t0 σ 209 0 = 0 then 1 else 0
def qClass (σ : xS) (on off : Int32) : Nat := if mCond on off = true then (if t0 σ 91 0 = 8 then 2 else 0) else 1
def qLink (σ : xS) (o q on off : Int32) : Nat := if mEl (t0 σ) 0 o = true ∧ mEl (t0 σ) 0 q = true then (if mCond on off = true then (if t0 σ 91 1 = 12 then 3 else 0) else 2) else 1

set_option maxHeartbeats 4000000 in
set_option maxRecDepth 100000 in
theorem c_X9_addRule (l : Launch) (V : xV) (hV : xInj V) (σ : xS) (k f g : Int32) (hM : mV σ) : xM l yX9_addRule wsX9_addRule ({ frames := 1, cells := 0, slots := 0, locals := 22 }) V [ra V 87, .int k, .int f, .int g] σ (rC (qRule σ k f g) (σ 209 0 + 1) (xw (xw (xw (xw (xw (t0 σ) 88 (σ 209 0).toNatClampNeg k) 89 (σ 209 0).toNatClampNeg f) 90 (σ 209 0).toNatClampNeg g) 209 0 (σ 209 0 + 1)) 211 0 0) (t0 σ)) := by
  refine xM_of (cc := cX9_addRule) (maxL := 4) (ret := (some .int)) [(0, ra V 87), (1, .int k), (2, .int f), (3, .int g)] hV (by decide) rfl rfl (Nat.le_of_ble_eq_true rfl) (fun p e s m args below meth c C hr hlk => ?_)
  have iX9 : ∀ w ∈ u_ws RX9 TX9 24, w ∈ wsX9_addRule := by decide +kernel
  have f71 : (Cond.fieldLink RX9 71 RX9 (TX9 0).2.1 (TX9 0).2.2.1).before args s = true := C.2.2.2.2.1 _ (by decide +kernel)
  have f90 : (Cond.fieldLink RX9 90 RX9 (TX9 1).2.1 (TX9 1).2.2.1).before args s = true := C.2.2.2.2.1 _ (by decide +kernel)
  have f9 : (Cond.fieldLink RX9 9 RX9 (TX9 2).2.1 (TX9 2).2.2.1).before args s = true := C.2.2.2.2.1 _ (by decide +kernel)
  have f13 : (Cond.fieldLink RX9 13 RX9 (TX9 3).2.1 (TX9 3).2.2.1).before args s = true := C.2.2.2.2.1 _ (by decide +kernel)
  have f16 : (Cond.fieldLink RX9 16 RX9 (TX9 4).2.1 (TX9 4).2.2.1).before args s = true := C.2.2.2.2.1 _ (by decide +kernel)
  have f93 : (Cond.fieldLink RX9 93 RX9 (TX9 21).2.1 (TX9 21).2.2.1).before args s = true := C.2.2.2.2.1 _ (by decide +kernel)
  refine x_aload_n C dX9_addRule_0 rfl 0 rfl ?_
  refine x_iconst C (0 : Int32) (by decide) dX9_addRule_1 ?_
  refine x_puti (ty := .int) C sh_87 rfl iX9 0 (by decide) f71 (fun _ h => h) (by decide) rfl (by decide +kernel) (by decide +kernel) (by decide) rfl tyX9 tyX9_ok nmX9 (by decide +kernel) rfl rfl dX9_addRule_2 ?_
  have hMt := t0_V hM
  refine x_s (σ' := t0 σ) rfl ?_
  refine x_iload_n C dX9_addRule_5 rfl 1 rfl ?_
  refine x_iconst C (0 : Int32) (by decide) dX9_addRule_6 ?_
  refine x_iconst C (1 : Int32) (by decide) dX9_addRule_7 ?_
  refine x_callS C [.int k, .int (0 : Int32), .int (1 : Int32)] (c_X9_isIn l V hV (t0 σ) k (0 : Int32) (1 : Int32)) (va_cwS 3 C.2.2.2.2.1 gX9_addRule_X9_isIn rfl rfl rfl (by decide +kernel) ⟨Nat.le_of_ble_eq_true rfl, Nat.le_of_ble_eq_true rfl⟩) rfl rfl (Nat.le_of_ble_eq_true rfl) dX9_addRule_8 ⟨Nat.le_of_ble_eq_true rfl, Nat.le_of_ble_eq_true rfl⟩ (x_kI ?_)
  refine x_bif_eq C 32 dX9_addRule_11 rfl (fun h1 => ?_) (fun h1 => ?_)
  · refine x_aload_n C dX9_addRule_32 rfl 0 rfl ?_
    refine x_iconst C (1 : Int32) (by decide) dX9_addRule_33 ?_
    refine x_callV C sh_87 (by decide) rfl [.int (1 : Int32)] (c_X9_no l V hV (t0 σ) (1 : Int32)) (cwV 1 C.2.2.2.2.1 gX9_addRule_X9_no rfl rfl rfl (by decide +kernel) ⟨Nat.le_of_ble_eq_true rfl, Nat.le_of_ble_eq_true rfl⟩) rfl rfl (Nat.le_of_ble_eq_true rfl) dX9_addRule_34 ⟨Nat.le_of_ble_eq_true rfl, Nat.le_of_ble_eq_true rfl⟩ (x_kI ?_)
    exact x_iret C hr hlk dX9_addRule_37 ⟨_, rfl, fun h => absurd h (by simp [qRule, h1]), fun _ => by simp [qRule, h1]; rfl⟩
  · refine x_iload_n C dX9_addRule_14 rfl 2 rfl ?_
    refine x_iconst C (0 : Int32) (by decide) dX9_addRule_15 ?_
    refine x_iconst C (3 : Int32) (by decide) dX9_addRule_16 ?_
    refine x_callS C [.int f, .int (0 : Int32), .int (3 : Int32)] (c_X9_isIn l V hV (t0 σ) f (0 : Int32) (3 : Int32)) (va_cwS 3 C.2.2.2.2.1 gX9_addRule_X9_isIn rfl rfl rfl (by decide +kernel) ⟨Nat.le_of_ble_eq_true rfl, Nat.le_of_ble_eq_true rfl⟩) rfl rfl (Nat.le_of_ble_eq_true rfl) dX9_addRule_17 ⟨Nat.le_of_ble_eq_true rfl, Nat.le_of_ble_eq_true rfl⟩ (x_kI ?_)
    refine x_bif_eq C 32 dX9_addRule_20 rfl (fun h2 => ?_) (fun h2 => ?_)
    · refine x_aload_n C dX9_addRule_32 rfl 0 rfl ?_
      refine x_iconst C (1 : Int32) (by decide) dX9_addRule_33 ?_
      refine x_callV C sh_87 (by decide) rfl [.int (1 : Int32)] (c_X9_no l V hV (t0 σ) (1 : Int32)) (cwV 1 C.2.2.2.2.1 gX9_addRule_X9_no rfl rfl rfl (by decide +kernel) ⟨Nat.le_of_ble_eq_true rfl, Nat.le_of_ble_eq_true rfl⟩) rfl rfl (Nat.le_of_ble_eq_true rfl) dX9_addRule_34 ⟨Nat.le_of_ble_eq_true rfl, Nat.le_of_ble_eq_true rfl⟩ (x_kI ?_)
      exact x_iret C hr hlk dX9_addRule_37 ⟨_, rfl, fun h => absurd h (by simp [qRule, h1, h2]), fun _ => by simp [qRule, h1, h2]; rfl⟩
    · refine x_iload_n C dX9_addRule_23 rfl 3 rfl ?_
      refine x_iconst C (0 : Int32) (by decide) dX9_addRule_24 ?_
      refine x_iconst C (3 : Int32) (by decide) dX9_addRule_25 ?_
      refine x_callS C [.int g, .int (0 : Int32), .int (3 : Int32)] (c_X9_isIn l V hV (t0 σ) g (0 : Int32) (3 : Int32)) (va_cwS 3 C.2.2.2.2.1 gX9_addRule_X9_isIn rfl rfl rfl (by decide +kernel) ⟨Nat.le_of_ble_eq_true rfl, Nat.le_of_ble_eq_true rfl⟩) rfl rfl (Nat.le_of_ble_eq_true rfl) dX9_addRule_26 ⟨Nat.le_of_ble_eq_true rfl, Nat.le_of_ble_eq_true rfl⟩ (x_kI ?_)
      refine x_bif_ne C 38 dX9_addRule_29 rfl (fun h3 => ?_) (fun h3 => ?_)
      · refine x_aload_n C dX9_addRule_38 rfl 0 rfl ?_
        refine x_geti C sh_87 rfl iX9 1 (by decide) f90 (fun _ h => h) (by decide) rfl dX9_addRule_39 ?_
        refine x_bipush C (8 : Int32) (by decide) dX9_addRule_42 ?_
        refine x_icmp_ne C 53 dX9_addRule_44 rfl (fun h4 => ?_) (fun h4 => ?_)
        · have hix : vp_in (t0 σ 209 0) 8 := okB_lt (mvcr hMt) h4
          refine x_aload_n C dX9_addRule_53 rfl 0 rfl ?_
          refine x_getr C sh_87 rfl iX9 2 (by decide) f9 (fun _ h => h) (by decide) rfl dX9_addRule_54 ?_
          refine x_aload_n C dX9_addRule_57 rfl 0 rfl ?_
          refine x_geti C sh_87 rfl iX9 1 (by decide) f90 (fun _ h => h) (by decide) rfl dX9_addRule_58 ?_
          refine x_iload_n C dX9_addRule_61 rfl 1 rfl ?_
          refine x_iast C sh_88 hix dX9_addRule_62 ?_
          refine x_aload_n C dX9_addRule_63 rfl 0 rfl ?_
          refine x_getr C sh_87 rfl iX9 3 (by decide) f13 (fun _ h => h) (by decide) rfl dX9_addRule_64 ?_
          refine x_aload_n C dX9_addRule_67 rfl 0 rfl ?_
          refine x_geti C sh_87 rfl iX9 1 (by decide) f90 (fun _ h => h) (by decide) rfl dX9_addRule_68 ?_
          refine x_iload_n C dX9_addRule_71 rfl 2 rfl ?_
          refine x_iast C sh_89 (by rw [xw_ne _ _ _ (by decide)]; exact hix) dX9_addRule_72 ?_
          refine x_aload_n C dX9_addRule_73 rfl 0 rfl ?_
          refine x_getr C sh_87 rfl iX9 4 (by decide) f16 (fun _ h => h) (by decide) rfl dX9_addRule_74 ?_
          refine x_aload_n C dX9_addRule_77 rfl 0 rfl ?_
          refine x_geti C sh_87 rfl iX9 1 (by decide) f90 (fun _ h => h) (by decide) rfl dX9_addRule_78 ?_
          refine x_iload_n C dX9_addRule_81 rfl 3 rfl ?_
          refine x_iast C sh_90 (by rw [xw_ne _ _ _ (by decide), xw_ne _ _ _ (by decide)]; exact hix) dX9_addRule_82 ?_
          refine x_aload_n C dX9_addRule_83 rfl 0 rfl ?_
          refine x_dup C rfl dX9_addRule_84 ?_
          refine x_geti C sh_87 rfl iX9 1 (by decide) f90 (fun _ h => h) (by decide) rfl dX9_addRule_85 ?_
          refine x_iconst C (1 : Int32) (by decide) dX9_addRule_88 ?_
          refine x_iadd C dX9_addRule_89 ?_
          refine x_puti (ty := .int) C sh_87 rfl iX9 1 (by decide) f90 (fun _ h => h) (by decide) rfl (by decide +kernel) (by decide +kernel) (by decide) rfl tyX9 tyX9_ok nmX9 (by decide +kernel) rfl rfl dX9_addRule_90 ?_
          refine x_aload_n C dX9_addRule_93 rfl 0 rfl ?_
          refine x_iconst C (0 : Int32) (by decide) dX9_addRule_94 ?_
          refine x_puti (ty := .boolean) C sh_87 rfl iX9 21 (by decide) f93 (fun _ h => h) (by decide) rfl (by decide +kernel) (by decide +kernel) (by decide) rfl tyX9 tyX9_ok nmX9 (by decide +kernel) (by first | rfl | exact bI_nar _) (by first | rfl | exact bI_fit _) dX9_addRule_95 ?_
          refine x_aload_n C dX9_addRule_98 rfl 0 rfl ?_
          refine x_geti C sh_87 rfl iX9 1 (by decide) f90 (fun _ h => h) (by decide) rfl dX9_addRule_99 ?_
          exact x_iret C hr hlk dX9_addRule_102 ⟨_, rfl, fun _ => ⟨by simp [xw_ne, xw_at, cl0, cl1, cl2, cl3], by simp [xw_ne, xw_at, cl0, cl1, cl2, cl3]⟩, fun h => absurd (by simp [qRule, h1, h2, h3, h4]) h⟩
        · refine x_aload_n C dX9_addRule_47 rfl 0 rfl ?_
          refine x_iconst C (2 : Int32) (by decide) dX9_addRule_48 ?_
          refine x_callV C sh_87 (by decide) rfl [.int (2 : Int32)] (c_X9_no l V hV (t0 σ) (2 : Int32)) (cwV 1 C.2.2.2.2.1 gX9_addRule_X9_no rfl rfl rfl (by decide +kernel) ⟨Nat.le_of_ble_eq_true rfl, Nat.le_of_ble_eq_true rfl⟩) rfl rfl (Nat.le_of_ble_eq_true rfl) dX9_addRule_49 ⟨Nat.le_of_ble_eq_true rfl, Nat.le_of_ble_eq_true rfl⟩ (x_kI ?_)
          exact x_iret C hr hlk dX9_addRule_52 ⟨_, rfl, fun h => absurd h (by simp [qRule, h1, h2, h3, eq_true h4]), fun _ => by simp [qRule, h1, h2, h3, eq_true h4]; rfl⟩
      · refine x_aload_n C dX9_addRule_32 rfl 0 rfl ?_
        refine x_iconst C (1 : Int32) (by decide) dX9_addRule_33 ?_
        refine x_callV C sh_87 (by decide) rfl [.int (1 : Int32)] (c_X9_no l V hV (t0 σ) (1 : Int32)) (cwV 1 C.2.2.2.2.1 gX9_addRule_X9_no rfl rfl rfl (by decide +kernel) ⟨Nat.le_of_ble_eq_true rfl, Nat.le_of_ble_eq_true rfl⟩) rfl rfl (Nat.le_of_ble_eq_true rfl) dX9_addRule_34 ⟨Nat.le_of_ble_eq_true rfl, Nat.le_of_ble_eq_true rfl⟩ (x_kI ?_)
        exact x_iret C hr hlk dX9_addRule_37 ⟨_, rfl, fun h => absurd h (by simp [qRule, h1, h2, h3]), fun _ => by simp [qRule, h1, h2, h3]; rfl⟩

set_option maxHeartbeats 4000000 in
set_option maxRecDepth 100000 in
theorem c_X9_dropRule (l : Launch) (V : xV) (hV : xInj V) (σ : xS)  (hM : mV σ) : xM l yX9_dropRule wsX9_dropRule ({ frames := 1, cells := 0, slots := 0, locals := 21 }) V [ra V 87] σ (rC (qDropR σ) (σ 209 0 - 1) (xw (xw (t0 σ) 209 0 (σ 209 0 - 1)) 211 0 0) (t0 σ)) := by
  refine xM_of (cc := cX9_dropRule) (maxL := 1) (ret := (some .int)) [(0, ra V 87)] hV (by decide) rfl rfl (Nat.le_of_ble_eq_true rfl) (fun p e s m args below meth c C hr hlk => ?_)
  have iX9 : ∀ w ∈ u_ws RX9 TX9 24, w ∈ wsX9_dropRule := by decide +kernel
  have f71 : (Cond.fieldLink RX9 71 RX9 (TX9 0).2.1 (TX9 0).2.2.1).before args s = true := C.2.2.2.2.1 _ (by decide +kernel)
  have f90 : (Cond.fieldLink RX9 90 RX9 (TX9 1).2.1 (TX9 1).2.2.1).before args s = true := C.2.2.2.2.1 _ (by decide +kernel)
  have f93 : (Cond.fieldLink RX9 93 RX9 (TX9 21).2.1 (TX9 21).2.2.1).before args s = true := C.2.2.2.2.1 _ (by decide +kernel)
  refine x_aload_n C dX9_dropRule_0 rfl 0 rfl ?_
  refine x_iconst C (0 : Int32) (by decide) dX9_dropRule_1 ?_
  refine x_puti (ty := .int) C sh_87 rfl iX9 0 (by decide) f71 (fun _ h => h) (by decide) rfl (by decide +kernel) (by decide +kernel) (by decide) rfl tyX9 tyX9_ok nmX9 (by decide +kernel) rfl rfl dX9_dropRule_2 ?_
  have hMt := t0_V hM
  refine x_s (σ' := t0 σ) rfl ?_
  refine x_aload_n C dX9_dropRule_5 rfl 0 rfl ?_
  refine x_geti C sh_87 rfl iX9 1 (by decide) f90 (fun _ h => h) (by decide) rfl dX9_dropRule_6 ?_
  refine x_if_ne C 18 dX9_dropRule_9 rfl (fun h1 => ?_) (fun h1 => ?_)
  · refine x_aload_n C dX9_dropRule_18 rfl 0 rfl ?_
    refine x_dup C rfl dX9_dropRule_19 ?_
    refine x_geti C sh_87 rfl iX9 1 (by decide) f90 (fun _ h => h) (by decide) rfl dX9_dropRule_20 ?_
    refine x_iconst C (1 : Int32) (by decide) dX9_dropRule_23 ?_
    refine x_isub C dX9_dropRule_24 ?_
    refine x_puti (ty := .int) C sh_87 rfl iX9 1 (by decide) f90 (fun _ h => h) (by decide) rfl (by decide +kernel) (by decide +kernel) (by decide) rfl tyX9 tyX9_ok nmX9 (by decide +kernel) rfl rfl dX9_dropRule_25 ?_
    refine x_aload_n C dX9_dropRule_28 rfl 0 rfl ?_
    refine x_iconst C (0 : Int32) (by decide) dX9_dropRule_29 ?_
    refine x_puti (ty := .boolean) C sh_87 rfl iX9 21 (by decide) f93 (fun _ h => h) (by decide) rfl (by decide +kernel) (by decide +kernel) (by decide) rfl tyX9 tyX9_ok nmX9 (by decide +kernel) (by first | rfl | exact bI_nar _) (by first | rfl | exact bI_fit _) dX9_dropRule_30 ?_
    refine x_aload_n C dX9_dropRule_33 rfl 0 rfl ?_
    refine x_geti C sh_87 rfl iX9 1 (by decide) f90 (fun _ h => h) (by decide) rfl dX9_dropRule_34 ?_
    exact x_iret C hr hlk dX9_dropRule_37 ⟨_, rfl, fun _ => ⟨by simp [xw_ne, xw_at, cl0, cl1, cl2, cl3], by simp [xw_ne, xw_at, cl0, cl1, cl2, cl3]⟩, fun h => absurd (by simp [qDropR, h1]) h⟩
  · refine x_aload_n C dX9_dropRule_12 rfl 0 rfl ?_
    refine x_iconst C (1 : Int32) (by decide) dX9_dropRule_13 ?_
    refine x_callV C sh_87 (by decide) rfl [.int (1 : Int32)] (c_X9_no l V hV (t0 σ) (1 : Int32)) (cwV 1 C.2.2.2.2.1 gX9_dropRule_X9_no rfl rfl rfl (by decide +kernel) ⟨Nat.le_of_ble_eq_true rfl, Nat.le_of_ble_eq_true rfl⟩) rfl rfl (Nat.le_of_ble_eq_true rfl) dX9_dropRule_14 ⟨Nat.le_of_ble_eq_true rfl, Nat.le_of_ble_eq_true rfl⟩ (x_kI ?_)
    exact x_iret C hr hlk dX9_dropRule_17 ⟨_, rfl, fun h => absurd h (by simp [qDropR, eq_true h1]), fun _ => by simp [qDropR, eq_true h1]; rfl⟩

set_option maxHeartbeats 4000000 in
set_option maxRecDepth 100000 in
theorem c_X9_addClass (l : Launch) (V : xV) (hV : xInj V) (σ : xS) (on off : Int32) (hM : mV σ) : xM l yX9_addClass wsX9_addClass ({ frames := 2, cells := 0, slots := 0, locals := 43 }) V [ra V 87, .int on, .int off] σ (rC (qClass σ on off) (σ 91 0 + 1 - 1) (mAd (t0 σ) 0 on off) (t0 σ)) := by
  refine xM_of (cc := cX9_addClass) (maxL := 3) (ret := (some .int)) [(0, ra V 87), (1, .int on), (2, .int off)] hV (by decide) rfl rfl (Nat.le_of_ble_eq_true rfl) (fun p e s m args below meth c C hr hlk => ?_)
  have iX9 : ∀ w ∈ u_ws RX9 TX9 24, w ∈ wsX9_addClass := by decide +kernel
  have f71 : (Cond.fieldLink RX9 71 RX9 (TX9 0).2.1 (TX9 0).2.2.1).before args s = true := C.2.2.2.2.1 _ (by decide +kernel)
  have f19 : (Cond.fieldLink RX9 19 RX9 (TX9 5).2.1 (TX9 5).2.2.1).before args s = true := C.2.2.2.2.1 _ (by decide +kernel)
  refine x_aload_n C dX9_addClass_0 rfl 0 rfl ?_
  refine x_iconst C (0 : Int32) (by decide) dX9_addClass_1 ?_
  refine x_puti (ty := .int) C sh_87 rfl iX9 0 (by decide) f71 (fun _ h => h) (by decide) rfl (by decide +kernel) (by decide +kernel) (by decide) rfl tyX9 tyX9_ok nmX9 (by decide +kernel) rfl rfl dX9_addClass_2 ?_
  have hMt := t0_V hM
  refine x_s (σ' := t0 σ) rfl ?_
  refine x_iload_n C dX9_addClass_5 rfl 1 rfl ?_
  refine x_iload_n C dX9_addClass_6 rfl 2 rfl ?_
  refine x_callS C [.int on, .int off] (c_X9_isCondition l V hV (t0 σ) on off) (va_cwS 2 C.2.2.2.2.1 gX9_addClass_X9_isCondition rfl rfl rfl (by decide +kernel) ⟨Nat.le_of_ble_eq_true rfl, Nat.le_of_ble_eq_true rfl⟩) rfl rfl (Nat.le_of_ble_eq_true rfl) dX9_addClass_7 ⟨Nat.le_of_ble_eq_true rfl, Nat.le_of_ble_eq_true rfl⟩ (x_kI ?_)
  refine x_bif_ne C 19 dX9_addClass_10 rfl (fun h1 => ?_) (fun h1 => ?_)
  · refine x_aload_n C dX9_addClass_19 rfl 0 rfl ?_
    refine x_getr C sh_87 rfl iX9 5 (by decide) f19 (fun _ h => h) (by decide) rfl dX9_addClass_20 ?_
    refine x_iconst C (0 : Int32) (by decide) dX9_addClass_23 ?_
    refine x_iald C sh_91 (vp_le (vp_lit 0 (by decide)) (by decide)) dX9_addClass_24 ?_
    rw [cl0]
    refine x_bipush C (8 : Int32) (by decide) dX9_addClass_25 ?_
    refine x_icmp_ne C 38 dX9_addClass_27 rfl (fun h2 => ?_) (fun h2 => ?_)
    · refine x_aload_n C dX9_addClass_38 rfl 0 rfl ?_
      refine x_iconst C (0 : Int32) (by decide) dX9_addClass_39 ?_
      refine x_iload_n C dX9_addClass_40 rfl 1 rfl ?_
      refine x_iload_n C dX9_addClass_41 rfl 2 rfl ?_
      refine x_callV C sh_87 (by decide) rfl [.int (0 : Int32), .int on, .int off] (c_X9_add_0 l V hV (t0 σ) on off (vp_le (okB_lt (mvc0 hMt) h2) (by decide))) (cwV 3 C.2.2.2.2.1 gX9_addClass_X9_add rfl rfl rfl (by decide +kernel) ⟨Nat.le_of_ble_eq_true rfl, Nat.le_of_ble_eq_true rfl⟩) rfl rfl (Nat.le_of_ble_eq_true rfl) dX9_addClass_42 ⟨Nat.le_of_ble_eq_true rfl, Nat.le_of_ble_eq_true rfl⟩ (x_kI ?_)
      exact x_iret C hr hlk dX9_addClass_45 ⟨_, rfl, fun _ => ⟨by simp [xw_ne, xw_at, cl0, cl1, cl2, cl3], by simp [xw_ne, xw_at, cl0, cl1, cl2, cl3]⟩, fun h => absurd (by simp [qClass, h1, h2]) h⟩
    · refine x_aload_n C dX9_addClass_30 rfl 0 rfl ?_
      refine x_iconst C (2 : Int32) (by decide) dX9_addClass_31 ?_
      refine x_callV C sh_87 (by decide) rfl [.int (2 : Int32)] (c_X9_no l V hV (t0 σ) (2 : Int32)) (cwV 1 C.2.2.2.2.1 gX9_addClass_X9_no rfl rfl rfl (by decide +kernel) ⟨Nat.le_of_ble_eq_true rfl, Nat.le_of_ble_eq_true rfl⟩) rfl rfl (Nat.le_of_ble_eq_true rfl) dX9_addClass_32 ⟨Nat.le_of_ble_eq_true rfl, Nat.le_of_ble_eq_true rfl⟩ (x_kI ?_)
      refine x_goto C 45 dX9_addClass_35 rfl ?_
      exact x_iret C hr hlk dX9_addClass_45 ⟨_, rfl, fun h => absurd h (by simp [qClass, h1, eq_true h2]), fun _ => by simp [qClass, h1, eq_true h2]; rfl⟩
  · refine x_aload_n C dX9_addClass_13 rfl 0 rfl ?_
    refine x_iconst C (1 : Int32) (by decide) dX9_addClass_14 ?_
    refine x_callV C sh_87 (by decide) rfl [.int (1 : Int32)] (c_X9_no l V hV (t0 σ) (1 : Int32)) (cwV 1 C.2.2.2.2.1 gX9_addClass_X9_no rfl rfl rfl (by decide +kernel) ⟨Nat.le_of_ble_eq_true rfl, Nat.le_of_ble_eq_true rfl⟩) rfl rfl (Nat.le_of_ble_eq_true rfl) dX9_addClass_15 ⟨Nat.le_of_ble_eq_true rfl, Nat.le_of_ble_eq_true rfl⟩ (x_kI ?_)
    exact x_iret C hr hlk dX9_addClass_18 ⟨_, rfl, fun h => absurd h (by simp [qClass, h1]), fun _ => by simp [qClass, h1]; rfl⟩

set_option maxHeartbeats 4000000 in
set_option maxRecDepth 100000 in
theorem c_X9_addLink (l : Launch) (V : xV) (hV : xInj V) (σ : xS) (o q on off : Int32) (hM : mV σ) : xM l yX9_addLink wsX9_addLink ({ frames := 2, cells := 0, slots := 0, locals := 44 }) V [ra V 87, .int o, .int q, .int on, .int off] σ (rC (qLink σ o q on off) (σ 91 1 + 1 - 1) (mAd (xw (xw (t0 σ) 94 (σ 91 1).toNatClampNeg o) 95 (σ 91 1).toNatClampNeg q) 1 on off) (t0 σ)) := by
  refine xM_of (cc := cX9_addLink) (maxL := 5) (ret := (some .int)) [(0, ra V 87), (1, .int o), (2, .int q), (3, .int on), (4, .int off)] hV (by decide) rfl rfl (Nat.le_of_ble_eq_true rfl) (fun p e s m args below meth c C hr hlk => ?_)
  have iX9 : ∀ w ∈ u_ws RX9 TX9 24, w ∈ wsX9_addLink := by decide +kernel
  have f71 : (Cond.fieldLink RX9 71 RX9 (TX9 0).2.1 (TX9 0).2.2.1).before args s = true := C.2.2.2.2.1 _ (by decide +kernel)
  have f19 : (Cond.fieldLink RX9 19 RX9 (TX9 5).2.1 (TX9 5).2.2.1).before args s = true := C.2.2.2.2.1 _ (by decide +kernel)
  have f28 : (Cond.fieldLink RX9 28 RX9 (TX9 8).2.1 (TX9 8).2.2.1).before args s = true := C.2.2.2.2.1 _ (by decide +kernel)
  have f31 : (Cond.fieldLink RX9 31 RX9 (TX9 9).2.1 (TX9 9).2.2.1).before args s = true := C.2.2.2.2.1 _ (by decide +kernel)
  refine x_aload_n C dX9_addLink_0 rfl 0 rfl ?_
  refine x_iconst C (0 : Int32) (by decide) dX9_addLink_1 ?_
  refine x_puti (ty := .int) C sh_87 rfl iX9 0 (by decide) f71 (fun _ h => h) (by decide) rfl (by decide +kernel) (by decide +kernel) (by decide) rfl tyX9 tyX9_ok nmX9 (by decide +kernel) rfl rfl dX9_addLink_2 ?_
  have hMt := t0_V hM
  refine x_s (σ' := t0 σ) rfl ?_
  refine x_aload_n C dX9_addLink_5 rfl 0 rfl ?_
  refine x_iconst C (0 : Int32) (by decide) dX9_addLink_6 ?_
  refine x_iload_n C dX9_addLink_7 rfl 1 rfl ?_
  refine x_callV C sh_87 (by decide) rfl [.int (0 : Int32), .int o] (c_X9_isElement l V hV (t0 σ) (0 : Int32) o) (cwV 2 C.2.2.2.2.1 gX9_addLink_X9_isElement rfl rfl rfl (by decide +kernel) ⟨Nat.le_of_ble_eq_true rfl, Nat.le_of_ble_eq_true rfl⟩) rfl rfl (Nat.le_of_ble_eq_true rfl) dX9_addLink_8 ⟨Nat.le_of_ble_eq_true rfl, Nat.le_of_ble_eq_true rfl⟩ (x_kI ?_)
  refine x_bif_eq C 23 dX9_addLink_11 rfl (fun h1 => ?_) (fun h1 => ?_)
  · refine x_aload_n C dX9_addLink_23 rfl 0 rfl ?_
    refine x_iconst C (1 : Int32) (by decide) dX9_addLink_24 ?_
    refine x_callV C sh_87 (by decide) rfl [.int (1 : Int32)] (c_X9_no l V hV (t0 σ) (1 : Int32)) (cwV 1 C.2.2.2.2.1 gX9_addLink_X9_no rfl rfl rfl (by decide +kernel) ⟨Nat.le_of_ble_eq_true rfl, Nat.le_of_ble_eq_true rfl⟩) rfl rfl (Nat.le_of_ble_eq_true rfl) dX9_addLink_25 ⟨Nat.le_of_ble_eq_true rfl, Nat.le_of_ble_eq_true rfl⟩ (x_kI ?_)
    exact x_iret C hr hlk dX9_addLink_28 ⟨_, rfl, fun h => absurd h (by simp [qLink, h1]), fun _ => by simp [qLink, h1]; rfl⟩
  · refine x_aload_n C dX9_addLink_14 rfl 0 rfl ?_
    refine x_iconst C (0 : Int32) (by decide) dX9_addLink_15 ?_
    refine x_iload_n C dX9_addLink_16 rfl 2 rfl ?_
    refine x_callV C sh_87 (by decide) rfl [.int (0 : Int32), .int q] (c_X9_isElement l V hV (t0 σ) (0 : Int32) q) (cwV 2 C.2.2.2.2.1 gX9_addLink_X9_isElement rfl rfl rfl (by decide +kernel) ⟨Nat.le_of_ble_eq_true rfl, Nat.le_of_ble_eq_true rfl⟩) rfl rfl (Nat.le_of_ble_eq_true rfl) dX9_addLink_17 ⟨Nat.le_of_ble_eq_true rfl, Nat.le_of_ble_eq_true rfl⟩ (x_kI ?_)
    refine x_bif_ne C 29 dX9_addLink_20 rfl (fun h2 => ?_) (fun h2 => ?_)
    · refine x_iload_n C dX9_addLink_29 rfl 3 rfl ?_
      refine x_iload C dX9_addLink_30 4 rfl ?_
      refine x_callS C [.int on, .int off] (c_X9_isCondition l V hV (t0 σ) on off) (va_cwS 2 C.2.2.2.2.1 gX9_addLink_X9_isCondition rfl rfl rfl (by decide +kernel) ⟨Nat.le_of_ble_eq_true rfl, Nat.le_of_ble_eq_true rfl⟩) rfl rfl (Nat.le_of_ble_eq_true rfl) dX9_addLink_32 ⟨Nat.le_of_ble_eq_true rfl, Nat.le_of_ble_eq_true rfl⟩ (x_kI ?_)
      refine x_bif_ne C 44 dX9_addLink_35 rfl (fun h3 => ?_) (fun h3 => ?_)
      · refine x_aload_n C dX9_addLink_44 rfl 0 rfl ?_
        refine x_getr C sh_87 rfl iX9 5 (by decide) f19 (fun _ h => h) (by decide) rfl dX9_addLink_45 ?_
        refine x_iconst C (1 : Int32) (by decide) dX9_addLink_48 ?_
        refine x_iald C sh_91 (vp_le (vp_lit 1 (by decide)) (by decide)) dX9_addLink_49 ?_
        rw [cl1]
        refine x_bipush C (12 : Int32) (by decide) dX9_addLink_50 ?_
        refine x_icmp_ne C 61 dX9_addLink_52 rfl (fun h4 => ?_) (fun h4 => ?_)
        · have hix : vp_in (t0 σ 91 1) 12 := okB_lt (mvc1 hMt) h4
          refine x_aload_n C dX9_addLink_61 rfl 0 rfl ?_
          refine x_getr C sh_87 rfl iX9 8 (by decide) f28 (fun _ h => h) (by decide) rfl dX9_addLink_62 ?_
          refine x_aload_n C dX9_addLink_65 rfl 0 rfl ?_
          refine x_getr C sh_87 rfl iX9 5 (by decide) f19 (fun _ h => h) (by decide) rfl dX9_addLink_66 ?_
          refine x_iconst C (1 : Int32) (by decide) dX9_addLink_69 ?_
          refine x_iald C sh_91 (vp_le (vp_lit 1 (by decide)) (by decide)) dX9_addLink_70 ?_
          rw [cl1]
          refine x_iload_n C dX9_addLink_71 rfl 1 rfl ?_
          refine x_iast C sh_94 hix dX9_addLink_72 ?_
          refine x_aload_n C dX9_addLink_73 rfl 0 rfl ?_
          refine x_getr C sh_87 rfl iX9 9 (by decide) f31 (fun _ h => h) (by decide) rfl dX9_addLink_74 ?_
          refine x_aload_n C dX9_addLink_77 rfl 0 rfl ?_
          refine x_getr C sh_87 rfl iX9 5 (by decide) f19 (fun _ h => h) (by decide) rfl dX9_addLink_78 ?_
          refine x_iconst C (1 : Int32) (by decide) dX9_addLink_81 ?_
          refine x_iald C sh_91 (vp_le (vp_lit 1 (by decide)) (by decide)) dX9_addLink_82 ?_
          rw [cl1]
          refine x_iload_n C dX9_addLink_83 rfl 2 rfl ?_
          refine x_iast C sh_95 (by rw [xw_ne _ _ _ (by decide)]; exact hix) dX9_addLink_84 ?_
          refine x_aload_n C dX9_addLink_85 rfl 0 rfl ?_
          refine x_iconst C (1 : Int32) (by decide) dX9_addLink_86 ?_
          refine x_iload_n C dX9_addLink_87 rfl 3 rfl ?_
          refine x_iload C dX9_addLink_88 4 rfl ?_
          refine x_callV C sh_87 (by decide) rfl [.int (1 : Int32), .int on, .int off] (c_X9_add_1 l V hV (xw (xw (t0 σ) 94 ((t0 σ) 91 1).toNatClampNeg o) 95 ((xw (t0 σ) 94 ((t0 σ) 91 1).toNatClampNeg o) 91 1).toNatClampNeg q) on off (vp_le (by rw [xw_ne _ _ _ (by decide), xw_ne _ _ _ (by decide)]; exact hix) (by decide))) (cwV 3 C.2.2.2.2.1 gX9_addLink_X9_add rfl rfl rfl (by decide +kernel) ⟨Nat.le_of_ble_eq_true rfl, Nat.le_of_ble_eq_true rfl⟩) rfl rfl (Nat.le_of_ble_eq_true rfl) dX9_addLink_90 ⟨Nat.le_of_ble_eq_true rfl, Nat.le_of_ble_eq_true rfl⟩ (x_kI ?_)
          exact x_iret C hr hlk dX9_addLink_93 ⟨_, rfl, fun _ => ⟨by simp [xw_ne, xw_at, cl0, cl1, cl2, cl3], by simp [xw_ne, xw_at, cl0, cl1, cl2, cl3]⟩, fun h => absurd (by simp [qLink, h1, h2, h3, h4]) h⟩
        · refine x_aload_n C dX9_addLink_55 rfl 0 rfl ?_
          refine x_iconst C (3 : Int32) (by decide) dX9_addLink_56 ?_
          refine x_callV C sh_87 (by decide) rfl [.int (3 : Int32)] (c_X9_no l V hV (t0 σ) (3 : Int32)) (cwV 1 C.2.2.2.2.1 gX9_addLink_X9_no rfl rfl rfl (by decide +kernel) ⟨Nat.le_of_ble_eq_true rfl, Nat.le_of_ble_eq_true rfl⟩) rfl rfl (Nat.le_of_ble_eq_true rfl) dX9_addLink_57 ⟨Nat.le_of_ble_eq_true rfl, Nat.le_of_ble_eq_true rfl⟩ (x_kI ?_)
          exact x_iret C hr hlk dX9_addLink_60 ⟨_, rfl, fun h => absurd h (by simp [qLink, h1, h2, h3, eq_true h4]), fun _ => by simp [qLink, h1, h2, h3, eq_true h4]; rfl⟩
      · refine x_aload_n C dX9_addLink_38 rfl 0 rfl ?_
        refine x_iconst C (2 : Int32) (by decide) dX9_addLink_39 ?_
        refine x_callV C sh_87 (by decide) rfl [.int (2 : Int32)] (c_X9_no l V hV (t0 σ) (2 : Int32)) (cwV 1 C.2.2.2.2.1 gX9_addLink_X9_no rfl rfl rfl (by decide +kernel) ⟨Nat.le_of_ble_eq_true rfl, Nat.le_of_ble_eq_true rfl⟩) rfl rfl (Nat.le_of_ble_eq_true rfl) dX9_addLink_40 ⟨Nat.le_of_ble_eq_true rfl, Nat.le_of_ble_eq_true rfl⟩ (x_kI ?_)
        exact x_iret C hr hlk dX9_addLink_43 ⟨_, rfl, fun h => absurd h (by simp [qLink, h1, h2, h3]), fun _ => by simp [qLink, h1, h2, h3]; rfl⟩
    · refine x_aload_n C dX9_addLink_23 rfl 0 rfl ?_
      refine x_iconst C (1 : Int32) (by decide) dX9_addLink_24 ?_
      refine x_callV C sh_87 (by decide) rfl [.int (1 : Int32)] (c_X9_no l V hV (t0 σ) (1 : Int32)) (cwV 1 C.2.2.2.2.1 gX9_addLink_X9_no rfl rfl rfl (by decide +kernel) ⟨Nat.le_of_ble_eq_true rfl, Nat.le_of_ble_eq_true rfl⟩) rfl rfl (Nat.le_of_ble_eq_true rfl) dX9_addLink_25 ⟨Nat.le_of_ble_eq_true rfl, Nat.le_of_ble_eq_true rfl⟩ (x_kI ?_)
      exact x_iret C hr hlk dX9_addLink_28 ⟨_, rfl, fun h => absurd h (by simp [qLink, h1, h2]), fun _ => by simp [qLink, h1, h2]; rfl⟩

def qMem (σ : xS) : Nat := if σ 91 2 = 24 then 3 else 0
def sMem (σ : xS) (b : Bool) (o n t f g on off : Int32) : xS := mAd (xw (xw (xw (xw (xw (xw σ 96 (σ 91 2).toNatClampNeg (bI b)) 97 (σ 91 2).toNatClampNeg o) 98 (σ 91 2).toNatClampNeg n) 99 (σ 91 2).toNatClampNeg t) 100 ((2 : Int32) * σ 91 2).toNatClampNeg f) 100 ((2 : Int32) * σ 91 2 + 1).toNatClampNeg g) 2 on off
def qExp (σ : xS) (f : Nat) : Nat := if σ 210 0 = 50 then f else 0
def sExp (σ : xS) (fo m w e f g : Int32) : xS := xw (xw (xw (xw (xw (xw (xw (xw σ 102 (σ 210 0).toNatClampNeg fo) 103 (σ 210 0).toNatClampNeg m) 104 (σ 210 0).toNatClampNeg w) 105 ((3 : Int32) * σ 210 0).toNatClampNeg e) 105 ((3 : Int32) * σ 210 0 + 1).toNatClampNeg f) 105 ((3 : Int32) * σ 210 0 + 2).toNatClampNeg g) 210 0 (σ 210 0 + 1)) 211 0 0
def qField (σ : xS) (o n t on off : Int32) : Nat := if mEl (t0 σ) 0 o = true then (if mIn n 0 9 = true ∧ mTyB (t0 σ) t = true ∧ mCond on off = true then qMem (t0 σ) else 2) else 1
def qMeth (σ : xS) (o n t f g on off : Int32) : Nat := if mEl (t0 σ) 0 o = true then (if mTyB (t0 σ) t = true ∧ (f = -1 ∨ mTyB (t0 σ) f = true) ∧ (g = -1 ∨ mTyB (t0 σ) g = true) ∧ (¬ f = -1 ∨ g = -1) ∧ mIn n 0 9 = true ∧ mCond on off = true then qMem (t0 σ) else 2) else 1
def qNew (σ : xS) (m c : Int32) : Nat := if mMth (t0 σ) m = true ∧ mEl (t0 σ) 0 c = true then qExp (t0 σ) 2 else 1
def qPlain (σ : xS) (m : Int32) : Nat := if mMth (t0 σ) m = true then qExp (t0 σ) 2 else 1
def mPC (σ : xS) (m : Int32) : Int32 := if σ 100 ((2 : Int32) * m).toNatClampNeg = -1 then 0 else if σ 100 ((2 : Int32) * m + 1).toNatClampNeg = -1 then 1 else 2
def qArg (σ : xS) (m i : Int32) : Nat := if mMth (t0 σ) m = true ∧ mIn i 0 (mPC (t0 σ) m - 1) = true then qExp (t0 σ) 2 else 1
def qFOf (σ : xS) (e n : Int32) : Nat := if mExp (t0 σ) e = true then (if mIn n 0 9 = true then qExp (t0 σ) 3 else 2) else 1
def qCall (σ : xS) (e n f g : Int32) : Nat := if mExp (t0 σ) e = true ∧ (f = -1 ∨ mExp (t0 σ) f = true) ∧ (g = -1 ∨ mExp (t0 σ) g = true) then (if mIn n 0 9 = true ∧ (¬ f = -1 ∨ g = -1) ∧ (f = -1 ∨ t0 σ 103 f.toNatClampNeg = t0 σ 103 e.toNatClampNeg) ∧ (g = -1 ∨ t0 σ 103 g.toNatClampNeg = t0 σ 103 e.toNatClampNeg) then qExp (t0 σ) 3 else 2) else 1
def qRes (σ : xS) (e on off : Int32) : Nat := if mExp (t0 σ) e = true then (if mCond on off = true then (if t0 σ 91 3 = 16 then 3 else 0) else 2) else 1
theorem mExp_vp {σ : xS} (hM : mV σ) {e : Int32} (h : mExp σ e = true) : vp_in e 50 := mIn_vp (mvce hM) (by decide) h
theorem mMth_vp {σ : xS} (hM : mV σ) {e : Int32} (h : mMth σ e = true) : vp_in e 24 := by
  simp only [mMth, Bool.and_eq_true] at h
  exact mEl_vp (mvc2 hM) (by decide) h.1

set_option maxHeartbeats 4000000 in
set_option maxRecDepth 100000 in
theorem c_X9_addMember (l : Launch) (V : xV) (hV : xInj V) (σ : xS) (b : Bool) (o n t f g on off : Int32) (hM : mV σ) : xM l yX9_addMember wsX9_addMember ({ frames := 1, cells := 0, slots := 0, locals := 23 }) V [ra V 87, .int (bI b), .int o, .int n, .int t, .int f, .int g, .int on, .int off] σ (rC (qMem σ) (σ 91 2 + 1 - 1) (sMem σ b o n t f g on off) σ) := by
  refine xM_of (cc := cX9_addMember) (maxL := 10) (ret := (some .int)) [(0, ra V 87), (1, .int (bI b)), (2, .int o), (3, .int n), (4, .int t), (5, .int f), (6, .int g), (7, .int on), (8, .int off)] hV (by decide) rfl rfl (Nat.le_of_ble_eq_true rfl) (fun p e s m args below meth c C hr hlk => ?_)
  have iX9 : ∀ w ∈ u_ws RX9 TX9 24, w ∈ wsX9_addMember := by decide +kernel
  have f19 : (Cond.fieldLink RX9 19 RX9 (TX9 5).2.1 (TX9 5).2.2.1).before args s = true := C.2.2.2.2.1 _ (by decide +kernel)
  have f34 : (Cond.fieldLink RX9 34 RX9 (TX9 10).2.1 (TX9 10).2.2.1).before args s = true := C.2.2.2.2.1 _ (by decide +kernel)
  have f38 : (Cond.fieldLink RX9 38 RX9 (TX9 11).2.1 (TX9 11).2.2.1).before args s = true := C.2.2.2.2.1 _ (by decide +kernel)
  have f41 : (Cond.fieldLink RX9 41 RX9 (TX9 12).2.1 (TX9 12).2.2.1).before args s = true := C.2.2.2.2.1 _ (by decide +kernel)
  have f44 : (Cond.fieldLink RX9 44 RX9 (TX9 13).2.1 (TX9 13).2.2.1).before args s = true := C.2.2.2.2.1 _ (by decide +kernel)
  have f47 : (Cond.fieldLink RX9 47 RX9 (TX9 14).2.1 (TX9 14).2.2.1).before args s = true := C.2.2.2.2.1 _ (by decide +kernel)
  refine x_aload_n C dX9_addMember_0 rfl 0 rfl ?_
  refine x_getr C sh_87 rfl iX9 5 (by decide) f19 (fun _ h => h) (by decide) rfl dX9_addMember_1 ?_
  refine x_iconst C (2 : Int32) (by decide) dX9_addMember_4 ?_
  refine x_iald C sh_91 (vp_le (vp_lit 2 (by decide)) (by decide)) dX9_addMember_5 ?_
  rw [cl2]
  refine x_bipush C (24 : Int32) (by decide) dX9_addMember_6 ?_
  refine x_icmp_ne C 17 dX9_addMember_8 rfl (fun h1 => ?_) (fun h1 => ?_)
  · have hix : vp_in (σ 91 2) 24 := okB_lt (mvc2 hM) h1
    refine x_aload_n C dX9_addMember_17 rfl 0 rfl ?_
    refine x_getr C sh_87 rfl iX9 5 (by decide) f19 (fun _ h => h) (by decide) rfl dX9_addMember_18 ?_
    refine x_iconst C (2 : Int32) (by decide) dX9_addMember_21 ?_
    refine x_iald C sh_91 (vp_le (vp_lit 2 (by decide)) (by decide)) dX9_addMember_22 ?_
    rw [cl2]
    refine x_istore C [(9, .int (σ 91 2)), (0, ra V 87), (1, .int (bI b)), (2, .int o), (3, .int n), (4, .int t), (5, .int f), (6, .int g), (7, .int on), (8, .int off)] dX9_addMember_23 (by decide) rfl ?_
    refine x_aload_n C dX9_addMember_25 rfl 1 rfl ?_
    refine x_getr C sh_87 rfl iX9 10 (by decide) f34 (fun _ h => h) (by decide) rfl dX9_addMember_26 ?_
    refine x_iload C dX9_addMember_29 0 rfl ?_
    refine x_iload_n C dX9_addMember_31 rfl 2 rfl ?_
    refine x_zast C sh_96 hix (by first | rfl | exact bI_vp _) dX9_addMember_32 ?_
    refine x_aload_n C dX9_addMember_33 rfl 1 rfl ?_
    refine x_getr C sh_87 rfl iX9 11 (by decide) f38 (fun _ h => h) (by decide) rfl dX9_addMember_34 ?_
    refine x_iload C dX9_addMember_37 0 rfl ?_
    refine x_iload_n C dX9_addMember_39 rfl 3 rfl ?_
    refine x_iast C sh_97 hix dX9_addMember_40 ?_
    refine x_aload_n C dX9_addMember_41 rfl 1 rfl ?_
    refine x_getr C sh_87 rfl iX9 12 (by decide) f41 (fun _ h => h) (by decide) rfl dX9_addMember_42 ?_
    refine x_iload C dX9_addMember_45 0 rfl ?_
    refine x_iload_n C dX9_addMember_47 rfl 4 rfl ?_
    refine x_iast C sh_98 hix dX9_addMember_48 ?_
    refine x_aload_n C dX9_addMember_49 rfl 1 rfl ?_
    refine x_getr C sh_87 rfl iX9 13 (by decide) f44 (fun _ h => h) (by decide) rfl dX9_addMember_50 ?_
    refine x_iload C dX9_addMember_53 0 rfl ?_
    refine x_iload C dX9_addMember_55 5 rfl ?_
    refine x_iast C sh_99 hix dX9_addMember_57 ?_
    refine x_aload_n C dX9_addMember_58 rfl 1 rfl ?_
    refine x_getr C sh_87 rfl iX9 14 (by decide) f47 (fun _ h => h) (by decide) rfl dX9_addMember_59 ?_
    refine x_iconst C (2 : Int32) (by decide) dX9_addMember_62 ?_
    refine x_iload C dX9_addMember_63 0 rfl ?_
    refine x_imul C dX9_addMember_65 ?_
    refine x_iload C dX9_addMember_66 6 rfl ?_
    refine x_iast C sh_100 (vp_le (vp_mulk 2 hix (by decide)) (by decide)) dX9_addMember_68 ?_
    refine x_aload_n C dX9_addMember_69 rfl 1 rfl ?_
    refine x_getr C sh_87 rfl iX9 14 (by decide) f47 (fun _ h => h) (by decide) rfl dX9_addMember_70 ?_
    refine x_iconst C (2 : Int32) (by decide) dX9_addMember_73 ?_
    refine x_iload C dX9_addMember_74 0 rfl ?_
    refine x_imul C dX9_addMember_76 ?_
    refine x_iconst C (1 : Int32) (by decide) dX9_addMember_77 ?_
    refine x_iadd C dX9_addMember_78 ?_
    refine x_iload C dX9_addMember_79 7 rfl ?_
    refine x_iast C sh_100 (vp_le (vp_add (vp_mulk 2 hix (by decide)) (vp_lit 1 (by decide)) (by decide)) (by decide)) dX9_addMember_81 ?_
    refine x_aload_n C dX9_addMember_82 rfl 1 rfl ?_
    refine x_iconst C (2 : Int32) (by decide) dX9_addMember_83 ?_
    refine x_iload C dX9_addMember_84 8 rfl ?_
    refine x_iload C dX9_addMember_86 9 rfl ?_
    refine x_callV C sh_87 (by decide) rfl [.int (2 : Int32), .int on, .int off] (c_X9_add_2 l V hV (xw (xw (xw (xw (xw (xw σ 96 (σ 91 2).toNatClampNeg (bI b)) 97 (σ 91 2).toNatClampNeg o) 98 (σ 91 2).toNatClampNeg n) 99 (σ 91 2).toNatClampNeg t) 100 ((2 : Int32) * (σ 91 2)).toNatClampNeg f) 100 (((2 : Int32) * (σ 91 2)) + (1 : Int32)).toNatClampNeg g) on off (by simp only [xw_ne _ _ _ (show (91 : Nat) ≠ 96 by decide), xw_ne _ _ _ (show (91 : Nat) ≠ 97 by decide), xw_ne _ _ _ (show (91 : Nat) ≠ 98 by decide), xw_ne _ _ _ (show (91 : Nat) ≠ 99 by decide), xw_ne _ _ _ (show (91 : Nat) ≠ 100 by decide)]; exact hix)) (cwV 3 C.2.2.2.2.1 gX9_addMember_X9_add rfl rfl rfl (by decide +kernel) ⟨Nat.le_of_ble_eq_true rfl, Nat.le_of_ble_eq_true rfl⟩) rfl rfl (Nat.le_of_ble_eq_true rfl) dX9_addMember_88 ⟨Nat.le_of_ble_eq_true rfl, Nat.le_of_ble_eq_true rfl⟩ (x_kI ?_)
    exact x_iret C hr hlk dX9_addMember_91 ⟨_, rfl, fun _ => ⟨by simp [xw_ne], by simp [sMem, cl2]⟩, fun h => absurd (by simp [qMem, h1]) h⟩
  · refine x_aload_n C dX9_addMember_11 rfl 0 rfl ?_
    refine x_iconst C (3 : Int32) (by decide) dX9_addMember_12 ?_
    refine x_callV C sh_87 (by decide) rfl [.int (3 : Int32)] (c_X9_no l V hV σ (3 : Int32)) (cwV 1 C.2.2.2.2.1 gX9_addMember_X9_no rfl rfl rfl (by decide +kernel) ⟨Nat.le_of_ble_eq_true rfl, Nat.le_of_ble_eq_true rfl⟩) rfl rfl (Nat.le_of_ble_eq_true rfl) dX9_addMember_13 ⟨Nat.le_of_ble_eq_true rfl, Nat.le_of_ble_eq_true rfl⟩ (x_kI ?_)
    exact x_iret C hr hlk dX9_addMember_16 ⟨_, rfl, fun h => absurd h (by simp [qMem, eq_true h1]), fun _ => by simp [qMem, eq_true h1]; rfl⟩

set_option maxHeartbeats 4000000 in
set_option maxRecDepth 100000 in
theorem c_X9_addExpression (l : Launch) (V : xV) (hV : xInj V) (σ : xS) (fo m1 w1 x f g : Int32) (fu : Nat) (hM : mV σ) (hf : fu ≠ 0) : xM l yX9_addExpression wsX9_addExpression ({ frames := 1, cells := 0, slots := 0, locals := 21 }) V [ra V 87, .int fo, .int m1, .int w1, .int x, .int f, .int g, .int (nI fu)] σ (rC (qExp σ fu) (σ 210 0 + 1 - 1) (sExp σ fo m1 w1 x f g) σ) := by
  refine xM_of (cc := cX9_addExpression) (maxL := 8) (ret := (some .int)) [(0, ra V 87), (1, .int fo), (2, .int m1), (3, .int w1), (4, .int x), (5, .int f), (6, .int g), (7, .int (nI fu))] hV (by decide) rfl rfl (Nat.le_of_ble_eq_true rfl) (fun p e s m args below meth c C hr hlk => ?_)
  have iX9 : ∀ w ∈ u_ws RX9 TX9 24, w ∈ wsX9_addExpression := by decide +kernel
  have f83 : (Cond.fieldLink RX9 83 RX9 (TX9 16).2.1 (TX9 16).2.2.1).before args s = true := C.2.2.2.2.1 _ (by decide +kernel)
  have f53 : (Cond.fieldLink RX9 53 RX9 (TX9 17).2.1 (TX9 17).2.2.1).before args s = true := C.2.2.2.2.1 _ (by decide +kernel)
  have f56 : (Cond.fieldLink RX9 56 RX9 (TX9 18).2.1 (TX9 18).2.2.1).before args s = true := C.2.2.2.2.1 _ (by decide +kernel)
  have f59 : (Cond.fieldLink RX9 59 RX9 (TX9 19).2.1 (TX9 19).2.2.1).before args s = true := C.2.2.2.2.1 _ (by decide +kernel)
  have f62 : (Cond.fieldLink RX9 62 RX9 (TX9 20).2.1 (TX9 20).2.2.1).before args s = true := C.2.2.2.2.1 _ (by decide +kernel)
  have f93 : (Cond.fieldLink RX9 93 RX9 (TX9 21).2.1 (TX9 21).2.2.1).before args s = true := C.2.2.2.2.1 _ (by decide +kernel)
  refine x_aload_n C dX9_addExpression_0 rfl 0 rfl ?_
  refine x_geti C sh_87 rfl iX9 16 (by decide) f83 (fun _ h => h) (by decide) rfl dX9_addExpression_1 ?_
  refine x_bipush C (50 : Int32) (by decide) dX9_addExpression_4 ?_
  refine x_icmp_ne C 16 dX9_addExpression_6 rfl (fun h1 => ?_) (fun h1 => ?_)
  · have hix : vp_in (σ 210 0) 50 := okB_lt (mvce hM) h1
    refine x_aload_n C dX9_addExpression_16 rfl 0 rfl ?_
    refine x_getr C sh_87 rfl iX9 17 (by decide) f53 (fun _ h => h) (by decide) rfl dX9_addExpression_17 ?_
    refine x_aload_n C dX9_addExpression_20 rfl 0 rfl ?_
    refine x_geti C sh_87 rfl iX9 16 (by decide) f83 (fun _ h => h) (by decide) rfl dX9_addExpression_21 ?_
    refine x_iload_n C dX9_addExpression_24 rfl 1 rfl ?_
    refine x_iast C sh_102 hix dX9_addExpression_25 ?_
    refine x_aload_n C dX9_addExpression_26 rfl 0 rfl ?_
    refine x_getr C sh_87 rfl iX9 18 (by decide) f56 (fun _ h => h) (by decide) rfl dX9_addExpression_27 ?_
    refine x_aload_n C dX9_addExpression_30 rfl 0 rfl ?_
    refine x_geti C sh_87 rfl iX9 16 (by decide) f83 (fun _ h => h) (by decide) rfl dX9_addExpression_31 ?_
    refine x_iload_n C dX9_addExpression_34 rfl 2 rfl ?_
    refine x_iast C sh_103 (by rw [xw_ne _ _ _ (by decide)]; exact hix) dX9_addExpression_35 ?_
    refine x_aload_n C dX9_addExpression_36 rfl 0 rfl ?_
    refine x_getr C sh_87 rfl iX9 19 (by decide) f59 (fun _ h => h) (by decide) rfl dX9_addExpression_37 ?_
    refine x_aload_n C dX9_addExpression_40 rfl 0 rfl ?_
    refine x_geti C sh_87 rfl iX9 16 (by decide) f83 (fun _ h => h) (by decide) rfl dX9_addExpression_41 ?_
    refine x_iload_n C dX9_addExpression_44 rfl 3 rfl ?_
    refine x_iast C sh_104 (by rw [xw_ne _ _ _ (by decide), xw_ne _ _ _ (by decide)]; exact hix) dX9_addExpression_45 ?_
    refine x_aload_n C dX9_addExpression_46 rfl 0 rfl ?_
    refine x_getr C sh_87 rfl iX9 20 (by decide) f62 (fun _ h => h) (by decide) rfl dX9_addExpression_47 ?_
    refine x_iconst C (3 : Int32) (by decide) dX9_addExpression_50 ?_
    refine x_aload_n C dX9_addExpression_51 rfl 0 rfl ?_
    refine x_geti C sh_87 rfl iX9 16 (by decide) f83 (fun _ h => h) (by decide) rfl dX9_addExpression_52 ?_
    refine x_imul C dX9_addExpression_55 ?_
    refine x_iload C dX9_addExpression_56 4 rfl ?_
    refine x_iast C sh_105 (by rw [xw_ne _ _ _ (by decide), xw_ne _ _ _ (by decide), xw_ne _ _ _ (by decide)]; exact (vp_le (vp_mulk 3 hix (by decide)) (by decide))) dX9_addExpression_58 ?_
    refine x_aload_n C dX9_addExpression_59 rfl 0 rfl ?_
    refine x_getr C sh_87 rfl iX9 20 (by decide) f62 (fun _ h => h) (by decide) rfl dX9_addExpression_60 ?_
    refine x_iconst C (3 : Int32) (by decide) dX9_addExpression_63 ?_
    refine x_aload_n C dX9_addExpression_64 rfl 0 rfl ?_
    refine x_geti C sh_87 rfl iX9 16 (by decide) f83 (fun _ h => h) (by decide) rfl dX9_addExpression_65 ?_
    refine x_imul C dX9_addExpression_68 ?_
    refine x_iconst C (1 : Int32) (by decide) dX9_addExpression_69 ?_
    refine x_iadd C dX9_addExpression_70 ?_
    refine x_iload C dX9_addExpression_71 5 rfl ?_
    refine x_iast C sh_105 (by rw [xw_ne _ _ _ (by decide), xw_ne _ _ _ (by decide), xw_ne _ _ _ (by decide), xw_ne _ _ _ (by decide)]; exact (vp_le (vp_add (vp_mulk 3 hix (by decide)) (vp_lit 1 (by decide)) (by decide)) (by decide))) dX9_addExpression_73 ?_
    refine x_aload_n C dX9_addExpression_74 rfl 0 rfl ?_
    refine x_getr C sh_87 rfl iX9 20 (by decide) f62 (fun _ h => h) (by decide) rfl dX9_addExpression_75 ?_
    refine x_iconst C (3 : Int32) (by decide) dX9_addExpression_78 ?_
    refine x_aload_n C dX9_addExpression_79 rfl 0 rfl ?_
    refine x_geti C sh_87 rfl iX9 16 (by decide) f83 (fun _ h => h) (by decide) rfl dX9_addExpression_80 ?_
    refine x_imul C dX9_addExpression_83 ?_
    refine x_iconst C (2 : Int32) (by decide) dX9_addExpression_84 ?_
    refine x_iadd C dX9_addExpression_85 ?_
    refine x_iload C dX9_addExpression_86 6 rfl ?_
    refine x_iast C sh_105 (by rw [xw_ne _ _ _ (by decide), xw_ne _ _ _ (by decide), xw_ne _ _ _ (by decide), xw_ne _ _ _ (by decide), xw_ne _ _ _ (by decide)]; exact (vp_le (vp_add (vp_mulk 3 hix (by decide)) (vp_lit 2 (by decide)) (by decide)) (by decide))) dX9_addExpression_88 ?_
    refine x_aload_n C dX9_addExpression_89 rfl 0 rfl ?_
    refine x_dup C rfl dX9_addExpression_90 ?_
    refine x_geti C sh_87 rfl iX9 16 (by decide) f83 (fun _ h => h) (by decide) rfl dX9_addExpression_91 ?_
    refine x_iconst C (1 : Int32) (by decide) dX9_addExpression_94 ?_
    refine x_iadd C dX9_addExpression_95 ?_
    refine x_puti (ty := .int) C sh_87 rfl iX9 16 (by decide) f83 (fun _ h => h) (by decide) rfl (by decide +kernel) (by decide +kernel) (by decide) rfl tyX9 tyX9_ok nmX9 (by decide +kernel) rfl rfl dX9_addExpression_96 ?_
    refine x_aload_n C dX9_addExpression_99 rfl 0 rfl ?_
    refine x_iconst C (0 : Int32) (by decide) dX9_addExpression_100 ?_
    refine x_puti (ty := .boolean) C sh_87 rfl iX9 21 (by decide) f93 (fun _ h => h) (by decide) rfl (by decide +kernel) (by decide +kernel) (by decide) rfl tyX9 tyX9_ok nmX9 (by decide +kernel) (by first | rfl | exact bI_nar _) (by first | rfl | exact bI_fit _) dX9_addExpression_101 ?_
    refine x_aload_n C dX9_addExpression_104 rfl 0 rfl ?_
    refine x_geti C sh_87 rfl iX9 16 (by decide) f83 (fun _ h => h) (by decide) rfl dX9_addExpression_105 ?_
    refine x_iconst C (1 : Int32) (by decide) dX9_addExpression_108 ?_
    refine x_isub C dX9_addExpression_109 ?_
    exact x_iret C hr hlk dX9_addExpression_110 ⟨_, rfl, fun _ => ⟨by simp [xw_ne, xw_at], by simp [sExp, xw_ne]⟩, fun h => absurd (by simp [qExp, h1]) h⟩
  · refine x_aload_n C dX9_addExpression_9 rfl 0 rfl ?_
    refine x_iload C dX9_addExpression_10 7 rfl ?_
    refine x_callV C sh_87 (by decide) rfl [.int (nI fu)] (c_X9_no l V hV σ (nI fu)) (cwV 1 C.2.2.2.2.1 gX9_addExpression_X9_no rfl rfl rfl (by decide +kernel) ⟨Nat.le_of_ble_eq_true rfl, Nat.le_of_ble_eq_true rfl⟩) rfl rfl (Nat.le_of_ble_eq_true rfl) dX9_addExpression_12 ⟨Nat.le_of_ble_eq_true rfl, Nat.le_of_ble_eq_true rfl⟩ (x_kI ?_)
    exact x_iret C hr hlk dX9_addExpression_15 ⟨_, rfl, fun h => absurd h (by simp [qExp, h1, hf]), fun _ => by simp [qExp, h1]⟩

set_option maxHeartbeats 4000000 in
set_option maxRecDepth 100000 in
theorem c_X9_addField (l : Launch) (V : xV) (hV : xInj V) (σ : xS) (o n t on off : Int32) (hM : mV σ) : xM l yX9_addField wsX9_addField ({ frames := 3, cells := 0, slots := 0, locals := 65 }) V [ra V 87, .int o, .int n, .int t, .int on, .int off] σ (rC (qField σ o n t on off) (t0 σ 91 2 + 1 - 1) (sMem (t0 σ) false o n t (-1) (-1) on off) (t0 σ)) := by
  refine xM_of (cc := cX9_addField) (maxL := 6) (ret := (some .int)) [(0, ra V 87), (1, .int o), (2, .int n), (3, .int t), (4, .int on), (5, .int off)] hV (by decide) rfl rfl (Nat.le_of_ble_eq_true rfl) (fun p e s m args below meth c C hr hlk => ?_)
  have iX9 : ∀ w ∈ u_ws RX9 TX9 24, w ∈ wsX9_addField := by decide +kernel
  have f71 : (Cond.fieldLink RX9 71 RX9 (TX9 0).2.1 (TX9 0).2.2.1).before args s = true := C.2.2.2.2.1 _ (by decide +kernel)
  refine x_aload_n C dX9_addField_0 rfl 0 rfl ?_
  refine x_iconst C (0 : Int32) (by decide) dX9_addField_1 ?_
  refine x_puti (ty := .int) C sh_87 rfl iX9 0 (by decide) f71 (fun _ h => h) (by decide) rfl (by decide +kernel) (by decide +kernel) (by decide) rfl tyX9 tyX9_ok nmX9 (by decide +kernel) rfl rfl dX9_addField_2 ?_
  have hMt := t0_V hM
  refine x_s (σ' := t0 σ) rfl ?_
  refine x_aload_n C dX9_addField_5 rfl 0 rfl ?_
  refine x_iconst C (0 : Int32) (by decide) dX9_addField_6 ?_
  refine x_iload_n C dX9_addField_7 rfl 1 rfl ?_
  refine x_callV C sh_87 (by decide) rfl [.int (0 : Int32), .int o] (c_X9_isElement l V hV (t0 σ) (0 : Int32) o) (cwV 2 C.2.2.2.2.1 gX9_addField_X9_isElement rfl rfl rfl (by decide +kernel) ⟨Nat.le_of_ble_eq_true rfl, Nat.le_of_ble_eq_true rfl⟩) rfl rfl (Nat.le_of_ble_eq_true rfl) dX9_addField_8 ⟨Nat.le_of_ble_eq_true rfl, Nat.le_of_ble_eq_true rfl⟩ (x_kI ?_)
  refine x_bif_ne C 20 dX9_addField_11 rfl (fun h1 => ?_) (fun h1 => ?_)
  · refine x_iload_n C dX9_addField_20 rfl 2 rfl ?_
    refine x_callS C [.int n] (c_X9_isName l V hV (t0 σ) n) (va_cwS 1 C.2.2.2.2.1 gX9_addField_X9_isName rfl rfl rfl (by decide +kernel) ⟨Nat.le_of_ble_eq_true rfl, Nat.le_of_ble_eq_true rfl⟩) rfl rfl (Nat.le_of_ble_eq_true rfl) dX9_addField_21 ⟨Nat.le_of_ble_eq_true rfl, Nat.le_of_ble_eq_true rfl⟩ (x_kI ?_)
    refine x_bif_eq C 62 dX9_addField_24 rfl (fun h2 => ?_) (fun h2 => ?_)
    · refine x_aload_n C dX9_addField_62 rfl 0 rfl ?_
      refine x_iconst C (2 : Int32) (by decide) dX9_addField_63 ?_
      refine x_callV C sh_87 (by decide) rfl [.int (2 : Int32)] (c_X9_no l V hV (t0 σ) (2 : Int32)) (cwV 1 C.2.2.2.2.1 gX9_addField_X9_no rfl rfl rfl (by decide +kernel) ⟨Nat.le_of_ble_eq_true rfl, Nat.le_of_ble_eq_true rfl⟩) rfl rfl (Nat.le_of_ble_eq_true rfl) dX9_addField_64 ⟨Nat.le_of_ble_eq_true rfl, Nat.le_of_ble_eq_true rfl⟩ (x_kI ?_)
      exact x_iret C hr hlk dX9_addField_67 ⟨_, rfl, fun h => absurd h (by simp [qField, h1, h2]), fun _ => by simp [qField, h1, h2]; rfl⟩
    · refine x_aload_n C dX9_addField_27 rfl 0 rfl ?_
      refine x_iload_n C dX9_addField_28 rfl 3 rfl ?_
      refine x_callV C sh_87 (by decide) rfl [.int t] (c_X9_isType l V hV (t0 σ) t) (cwV 1 C.2.2.2.2.1 gX9_addField_X9_isType rfl rfl rfl (by decide +kernel) ⟨Nat.le_of_ble_eq_true rfl, Nat.le_of_ble_eq_true rfl⟩) rfl rfl (Nat.le_of_ble_eq_true rfl) dX9_addField_29 ⟨Nat.le_of_ble_eq_true rfl, Nat.le_of_ble_eq_true rfl⟩ (x_kI ?_)
      refine x_bif_eq C 62 dX9_addField_32 rfl (fun h3 => ?_) (fun h3 => ?_)
      · refine x_aload_n C dX9_addField_62 rfl 0 rfl ?_
        refine x_iconst C (2 : Int32) (by decide) dX9_addField_63 ?_
        refine x_callV C sh_87 (by decide) rfl [.int (2 : Int32)] (c_X9_no l V hV (t0 σ) (2 : Int32)) (cwV 1 C.2.2.2.2.1 gX9_addField_X9_no rfl rfl rfl (by decide +kernel) ⟨Nat.le_of_ble_eq_true rfl, Nat.le_of_ble_eq_true rfl⟩) rfl rfl (Nat.le_of_ble_eq_true rfl) dX9_addField_64 ⟨Nat.le_of_ble_eq_true rfl, Nat.le_of_ble_eq_true rfl⟩ (x_kI ?_)
        exact x_iret C hr hlk dX9_addField_67 ⟨_, rfl, fun h => absurd h (by simp [qField, h1, h2, h3]), fun _ => by simp [qField, h1, h2, h3]; rfl⟩
      · refine x_iload C dX9_addField_35 4 rfl ?_
        refine x_iload C dX9_addField_37 5 rfl ?_
        refine x_callS C [.int on, .int off] (c_X9_isCondition l V hV (t0 σ) on off) (va_cwS 2 C.2.2.2.2.1 gX9_addField_X9_isCondition rfl rfl rfl (by decide +kernel) ⟨Nat.le_of_ble_eq_true rfl, Nat.le_of_ble_eq_true rfl⟩) rfl rfl (Nat.le_of_ble_eq_true rfl) dX9_addField_39 ⟨Nat.le_of_ble_eq_true rfl, Nat.le_of_ble_eq_true rfl⟩ (x_kI ?_)
        refine x_bif_eq C 62 dX9_addField_42 rfl (fun h4 => ?_) (fun h4 => ?_)
        · refine x_aload_n C dX9_addField_62 rfl 0 rfl ?_
          refine x_iconst C (2 : Int32) (by decide) dX9_addField_63 ?_
          refine x_callV C sh_87 (by decide) rfl [.int (2 : Int32)] (c_X9_no l V hV (t0 σ) (2 : Int32)) (cwV 1 C.2.2.2.2.1 gX9_addField_X9_no rfl rfl rfl (by decide +kernel) ⟨Nat.le_of_ble_eq_true rfl, Nat.le_of_ble_eq_true rfl⟩) rfl rfl (Nat.le_of_ble_eq_true rfl) dX9_addField_64 ⟨Nat.le_of_ble_eq_true rfl, Nat.le_of_ble_eq_true rfl⟩ (x_kI ?_)
          exact x_iret C hr hlk dX9_addField_67 ⟨_, rfl, fun h => absurd h (by simp [qField, h1, h2, h3, h4]), fun _ => by simp [qField, h1, h2, h3, h4]; rfl⟩
        · refine x_aload_n C dX9_addField_45 rfl 0 rfl ?_
          refine x_iconst C (0 : Int32) (by decide) dX9_addField_46 ?_
          refine x_iload_n C dX9_addField_47 rfl 1 rfl ?_
          refine x_iload_n C dX9_addField_48 rfl 2 rfl ?_
          refine x_iload_n C dX9_addField_49 rfl 3 rfl ?_
          refine x_iconst C (-1 : Int32) (by decide) dX9_addField_50 ?_
          refine x_iconst C (-1 : Int32) (by decide) dX9_addField_51 ?_
          refine x_iload C dX9_addField_52 4 rfl ?_
          refine x_iload C dX9_addField_54 5 rfl ?_
          refine x_callV C sh_87 (by decide) rfl [.int (0 : Int32), .int o, .int n, .int t, .int (-1 : Int32), .int (-1 : Int32), .int on, .int off] (c_X9_addMember l V hV (t0 σ) false o n t (-1 : Int32) (-1 : Int32) on off hMt) (cwV 8 C.2.2.2.2.1 gX9_addField_X9_addMember rfl rfl rfl (by decide +kernel) ⟨Nat.le_of_ble_eq_true rfl, Nat.le_of_ble_eq_true rfl⟩) rfl rfl (Nat.le_of_ble_eq_true rfl) dX9_addField_56 ⟨Nat.le_of_ble_eq_true rfl, Nat.le_of_ble_eq_true rfl⟩ (fun v σ2 hR => ?_)
          obtain ⟨y, rfl, hk0, hk1⟩ := hR
          dsimp only [Option.toList, List.cons_append, List.nil_append]
          refine x_goto C 67 dX9_addField_59 rfl ?_
          exact x_iret C hr hlk dX9_addField_67 (by
        have hq : qField σ o n t on off = qMem (t0 σ) := by simp [qField, h1, h2, h3, h4]
        rw [hq]
        exact ⟨_, rfl, hk0, hk1⟩)
  · refine x_aload_n C dX9_addField_14 rfl 0 rfl ?_
    refine x_iconst C (1 : Int32) (by decide) dX9_addField_15 ?_
    refine x_callV C sh_87 (by decide) rfl [.int (1 : Int32)] (c_X9_no l V hV (t0 σ) (1 : Int32)) (cwV 1 C.2.2.2.2.1 gX9_addField_X9_no rfl rfl rfl (by decide +kernel) ⟨Nat.le_of_ble_eq_true rfl, Nat.le_of_ble_eq_true rfl⟩) rfl rfl (Nat.le_of_ble_eq_true rfl) dX9_addField_16 ⟨Nat.le_of_ble_eq_true rfl, Nat.le_of_ble_eq_true rfl⟩ (x_kI ?_)
    exact x_iret C hr hlk dX9_addField_19 ⟨_, rfl, fun h => absurd h (by simp [qField, h1]), fun _ => by simp [qField, h1]; rfl⟩

set_option maxHeartbeats 4000000 in
set_option maxRecDepth 100000 in
theorem c_X9_addMethod (l : Launch) (V : xV) (hV : xInj V) (σ : xS) (o n t f g on off : Int32) (hM : mV σ) : xM l yX9_addMethod wsX9_addMethod ({ frames := 3, cells := 0, slots := 0, locals := 65 }) V [ra V 87, .int o, .int n, .int t, .int f, .int g, .int on, .int off] σ (rC (qMeth σ o n t f g on off) (t0 σ 91 2 + 1 - 1) (sMem (t0 σ) true o n t f g on off) (t0 σ)) := by
  refine xM_of (cc := cX9_addMethod) (maxL := 9) (ret := (some .int)) [(0, ra V 87), (1, .int o), (2, .int n), (3, .int t), (4, .int f), (5, .int g), (6, .int on), (7, .int off)] hV (by decide) rfl rfl (Nat.le_of_ble_eq_true rfl) (fun p e s m args below meth c C hr hlk => ?_)
  have iX9 : ∀ w ∈ u_ws RX9 TX9 24, w ∈ wsX9_addMethod := by decide +kernel
  have f71 : (Cond.fieldLink RX9 71 RX9 (TX9 0).2.1 (TX9 0).2.2.1).before args s = true := C.2.2.2.2.1 _ (by decide +kernel)
  refine x_aload_n C dX9_addMethod_0 rfl 0 rfl ?_
  refine x_iconst C (0 : Int32) (by decide) dX9_addMethod_1 ?_
  refine x_puti (ty := .int) C sh_87 rfl iX9 0 (by decide) f71 (fun _ h => h) (by decide) rfl (by decide +kernel) (by decide +kernel) (by decide) rfl tyX9 tyX9_ok nmX9 (by decide +kernel) rfl rfl dX9_addMethod_2 ?_
  have hMt := t0_V hM
  refine x_s (σ' := t0 σ) rfl ?_
  refine x_aload_n C dX9_addMethod_5 rfl 0 rfl ?_
  refine x_iconst C (0 : Int32) (by decide) dX9_addMethod_6 ?_
  refine x_iload_n C dX9_addMethod_7 rfl 1 rfl ?_
  refine x_callV C sh_87 (by decide) rfl [.int (0 : Int32), .int o] (c_X9_isElement l V hV (t0 σ) (0 : Int32) o) (cwV 2 C.2.2.2.2.1 gX9_addMethod_X9_isElement rfl rfl rfl (by decide +kernel) ⟨Nat.le_of_ble_eq_true rfl, Nat.le_of_ble_eq_true rfl⟩) rfl rfl (Nat.le_of_ble_eq_true rfl) dX9_addMethod_8 ⟨Nat.le_of_ble_eq_true rfl, Nat.le_of_ble_eq_true rfl⟩ (x_kI ?_)
  refine x_bif_ne C 20 dX9_addMethod_11 rfl (fun h1 => ?_) (fun h1 => ?_)
  · refine x_aload_n C dX9_addMethod_20 rfl 0 rfl ?_
    refine x_iload_n C dX9_addMethod_21 rfl 3 rfl ?_
    refine x_callV C sh_87 (by decide) rfl [.int t] (c_X9_isType l V hV (t0 σ) t) (cwV 1 C.2.2.2.2.1 gX9_addMethod_X9_isType rfl rfl rfl (by decide +kernel) ⟨Nat.le_of_ble_eq_true rfl, Nat.le_of_ble_eq_true rfl⟩) rfl rfl (Nat.le_of_ble_eq_true rfl) dX9_addMethod_22 ⟨Nat.le_of_ble_eq_true rfl, Nat.le_of_ble_eq_true rfl⟩ (x_kI ?_)
    refine x_bif_eq C 74 dX9_addMethod_25 rfl (fun h2 => ?_) (fun h2 => ?_)
    · refine x_iconst C (0 : Int32) (by decide) dX9_addMethod_74 ?_
      refine x_istore C [(8, .int (0 : Int32)), (0, ra V 87), (1, .int o), (2, .int n), (3, .int t), (4, .int f), (5, .int g), (6, .int on), (7, .int off)] dX9_addMethod_75 (by decide) rfl ?_
      refine x_iload_n C dX9_addMethod_77 rfl 3 rfl ?_
      refine x_callS C [.int n] (c_X9_isName l V hV (t0 σ) n) (va_cwS 1 C.2.2.2.2.1 gX9_addMethod_X9_isName rfl rfl rfl (by decide +kernel) ⟨Nat.le_of_ble_eq_true rfl, Nat.le_of_ble_eq_true rfl⟩) rfl rfl (Nat.le_of_ble_eq_true rfl) dX9_addMethod_78 ⟨Nat.le_of_ble_eq_true rfl, Nat.le_of_ble_eq_true rfl⟩ (x_kI ?_)
      refine x_bif_eq C 118 dX9_addMethod_81 rfl (fun h3 => ?_) (fun h3 => ?_)
      · refine x_aload_n C dX9_addMethod_118 rfl 1 rfl ?_
        refine x_iconst C (2 : Int32) (by decide) dX9_addMethod_119 ?_
        refine x_callV C sh_87 (by decide) rfl [.int (2 : Int32)] (c_X9_no l V hV (t0 σ) (2 : Int32)) (cwV 1 C.2.2.2.2.1 gX9_addMethod_X9_no rfl rfl rfl (by decide +kernel) ⟨Nat.le_of_ble_eq_true rfl, Nat.le_of_ble_eq_true rfl⟩) rfl rfl (Nat.le_of_ble_eq_true rfl) dX9_addMethod_120 ⟨Nat.le_of_ble_eq_true rfl, Nat.le_of_ble_eq_true rfl⟩ (x_kI ?_)
        exact x_iret C hr hlk dX9_addMethod_123 ⟨_, rfl, fun h => absurd h (by simp [qMeth, h1, h2, h3]), fun _ => by simp [qMeth, h1, h2, h3]; rfl⟩
      · refine x_iload C dX9_addMethod_84 0 rfl ?_
        refine x_if_eq C 118 dX9_addMethod_86 rfl (fun h4 => ?_) (fun h4 => absurd h4 (by decide))
        refine x_aload_n C dX9_addMethod_118 rfl 1 rfl ?_
        refine x_iconst C (2 : Int32) (by decide) dX9_addMethod_119 ?_
        refine x_callV C sh_87 (by decide) rfl [.int (2 : Int32)] (c_X9_no l V hV (t0 σ) (2 : Int32)) (cwV 1 C.2.2.2.2.1 gX9_addMethod_X9_no rfl rfl rfl (by decide +kernel) ⟨Nat.le_of_ble_eq_true rfl, Nat.le_of_ble_eq_true rfl⟩) rfl rfl (Nat.le_of_ble_eq_true rfl) dX9_addMethod_120 ⟨Nat.le_of_ble_eq_true rfl, Nat.le_of_ble_eq_true rfl⟩ (x_kI ?_)
        exact x_iret C hr hlk dX9_addMethod_123 ⟨_, rfl, fun h => absurd h (by simp [qMeth, h1, h2, h3]), fun _ => by simp [qMeth, h1, h2, h3]; rfl⟩
    · refine x_iload C dX9_addMethod_28 4 rfl ?_
      refine x_iconst C (-1 : Int32) (by decide) dX9_addMethod_30 ?_
      refine x_icmp_eq C 43 dX9_addMethod_31 rfl (fun h5 => ?_) (fun h5 => ?_)
      · refine x_iload C dX9_addMethod_43 5 rfl ?_
        refine x_iconst C (-1 : Int32) (by decide) dX9_addMethod_45 ?_
        refine x_icmp_eq C 58 dX9_addMethod_46 rfl (fun h6 => ?_) (fun h6 => ?_)
        · refine x_iload C dX9_addMethod_58 4 rfl ?_
          refine x_iconst C (-1 : Int32) (by decide) dX9_addMethod_60 ?_
          refine x_icmp_ne C 70 dX9_addMethod_61 rfl (fun h7 => absurd h7 (fun q => q h5)) (fun h7 => ?_)
          refine x_iload C dX9_addMethod_64 5 rfl ?_
          refine x_iconst C (-1 : Int32) (by decide) dX9_addMethod_66 ?_
          refine x_icmp_ne C 74 dX9_addMethod_67 rfl (fun h8 => absurd h8 (fun q => q h6)) (fun h8 => ?_)
          refine x_iconst C (1 : Int32) (by decide) dX9_addMethod_70 ?_
          refine x_goto C 75 dX9_addMethod_71 rfl ?_
          refine x_istore C [(8, .int (1 : Int32)), (0, ra V 87), (1, .int o), (2, .int n), (3, .int t), (4, .int f), (5, .int g), (6, .int on), (7, .int off)] dX9_addMethod_75 (by decide) rfl ?_
          refine x_iload_n C dX9_addMethod_77 rfl 3 rfl ?_
          refine x_callS C [.int n] (c_X9_isName l V hV (t0 σ) n) (va_cwS 1 C.2.2.2.2.1 gX9_addMethod_X9_isName rfl rfl rfl (by decide +kernel) ⟨Nat.le_of_ble_eq_true rfl, Nat.le_of_ble_eq_true rfl⟩) rfl rfl (Nat.le_of_ble_eq_true rfl) dX9_addMethod_78 ⟨Nat.le_of_ble_eq_true rfl, Nat.le_of_ble_eq_true rfl⟩ (x_kI ?_)
          refine x_bif_eq C 118 dX9_addMethod_81 rfl (fun h9 => ?_) (fun h9 => ?_)
          · refine x_aload_n C dX9_addMethod_118 rfl 1 rfl ?_
            refine x_iconst C (2 : Int32) (by decide) dX9_addMethod_119 ?_
            refine x_callV C sh_87 (by decide) rfl [.int (2 : Int32)] (c_X9_no l V hV (t0 σ) (2 : Int32)) (cwV 1 C.2.2.2.2.1 gX9_addMethod_X9_no rfl rfl rfl (by decide +kernel) ⟨Nat.le_of_ble_eq_true rfl, Nat.le_of_ble_eq_true rfl⟩) rfl rfl (Nat.le_of_ble_eq_true rfl) dX9_addMethod_120 ⟨Nat.le_of_ble_eq_true rfl, Nat.le_of_ble_eq_true rfl⟩ (x_kI ?_)
            exact x_iret C hr hlk dX9_addMethod_123 ⟨_, rfl, fun h => absurd h (by simp [qMeth, h1, h2, eq_true h5, eq_true h6, h9]), fun _ => by simp [qMeth, h1, h2, eq_true h5, eq_true h6, h9]; rfl⟩
          · refine x_iload C dX9_addMethod_84 0 rfl ?_
            refine x_if_eq C 118 dX9_addMethod_86 rfl (fun h10 => absurd h10 (by decide)) (fun h10 => ?_)
            refine x_iload C dX9_addMethod_89 7 rfl ?_
            refine x_iload C dX9_addMethod_91 8 rfl ?_
            refine x_callS C [.int on, .int off] (c_X9_isCondition l V hV (t0 σ) on off) (va_cwS 2 C.2.2.2.2.1 gX9_addMethod_X9_isCondition rfl rfl rfl (by decide +kernel) ⟨Nat.le_of_ble_eq_true rfl, Nat.le_of_ble_eq_true rfl⟩) rfl rfl (Nat.le_of_ble_eq_true rfl) dX9_addMethod_93 ⟨Nat.le_of_ble_eq_true rfl, Nat.le_of_ble_eq_true rfl⟩ (x_kI ?_)
            refine x_bif_eq C 118 dX9_addMethod_96 rfl (fun h11 => ?_) (fun h11 => ?_)
            · refine x_aload_n C dX9_addMethod_118 rfl 1 rfl ?_
              refine x_iconst C (2 : Int32) (by decide) dX9_addMethod_119 ?_
              refine x_callV C sh_87 (by decide) rfl [.int (2 : Int32)] (c_X9_no l V hV (t0 σ) (2 : Int32)) (cwV 1 C.2.2.2.2.1 gX9_addMethod_X9_no rfl rfl rfl (by decide +kernel) ⟨Nat.le_of_ble_eq_true rfl, Nat.le_of_ble_eq_true rfl⟩) rfl rfl (Nat.le_of_ble_eq_true rfl) dX9_addMethod_120 ⟨Nat.le_of_ble_eq_true rfl, Nat.le_of_ble_eq_true rfl⟩ (x_kI ?_)
              exact x_iret C hr hlk dX9_addMethod_123 ⟨_, rfl, fun h => absurd h (by simp [qMeth, h1, h2, eq_true h5, eq_true h6, h9, h11]), fun _ => by simp [qMeth, h1, h2, eq_true h5, eq_true h6, h9, h11]; rfl⟩
            · refine x_aload_n C dX9_addMethod_99 rfl 1 rfl ?_
              refine x_iconst C (1 : Int32) (by decide) dX9_addMethod_100 ?_
              refine x_iload_n C dX9_addMethod_101 rfl 2 rfl ?_
              refine x_iload_n C dX9_addMethod_102 rfl 3 rfl ?_
              refine x_iload_n C dX9_addMethod_103 rfl 4 rfl ?_
              refine x_iload C dX9_addMethod_104 5 rfl ?_
              refine x_iload C dX9_addMethod_106 6 rfl ?_
              refine x_iload C dX9_addMethod_108 7 rfl ?_
              refine x_iload C dX9_addMethod_110 8 rfl ?_
              refine x_callV C sh_87 (by decide) rfl [.int (1 : Int32), .int o, .int n, .int t, .int f, .int g, .int on, .int off] (c_X9_addMember l V hV (t0 σ) true o n t f g on off hMt) (cwV 8 C.2.2.2.2.1 gX9_addMethod_X9_addMember rfl rfl rfl (by decide +kernel) ⟨Nat.le_of_ble_eq_true rfl, Nat.le_of_ble_eq_true rfl⟩) rfl rfl (Nat.le_of_ble_eq_true rfl) dX9_addMethod_112 ⟨Nat.le_of_ble_eq_true rfl, Nat.le_of_ble_eq_true rfl⟩ (fun v σ2 hR => ?_)
              obtain ⟨y, rfl, hk0, hk1⟩ := hR
              dsimp only [Option.toList, List.cons_append, List.nil_append]
              refine x_goto C 123 dX9_addMethod_115 rfl ?_
              exact x_iret C hr hlk dX9_addMethod_123 (by
        have hq : qMeth σ o n t f g on off = qMem (t0 σ) := by simp [qMeth, h1, h2, eq_true h5, eq_true h6, h9, h11]
        rw [hq]
        exact ⟨_, rfl, hk0, hk1⟩)
        · refine x_aload_n C dX9_addMethod_49 rfl 0 rfl ?_
          refine x_iload C dX9_addMethod_50 5 rfl ?_
          refine x_callV C sh_87 (by decide) rfl [.int g] (c_X9_isType l V hV (t0 σ) g) (cwV 1 C.2.2.2.2.1 gX9_addMethod_X9_isType rfl rfl rfl (by decide +kernel) ⟨Nat.le_of_ble_eq_true rfl, Nat.le_of_ble_eq_true rfl⟩) rfl rfl (Nat.le_of_ble_eq_true rfl) dX9_addMethod_52 ⟨Nat.le_of_ble_eq_true rfl, Nat.le_of_ble_eq_true rfl⟩ (x_kI ?_)
          refine x_bif_eq C 74 dX9_addMethod_55 rfl (fun h12 => ?_) (fun h12 => ?_)
          · refine x_iconst C (0 : Int32) (by decide) dX9_addMethod_74 ?_
            refine x_istore C [(8, .int (0 : Int32)), (0, ra V 87), (1, .int o), (2, .int n), (3, .int t), (4, .int f), (5, .int g), (6, .int on), (7, .int off)] dX9_addMethod_75 (by decide) rfl ?_
            refine x_iload_n C dX9_addMethod_77 rfl 3 rfl ?_
            refine x_callS C [.int n] (c_X9_isName l V hV (t0 σ) n) (va_cwS 1 C.2.2.2.2.1 gX9_addMethod_X9_isName rfl rfl rfl (by decide +kernel) ⟨Nat.le_of_ble_eq_true rfl, Nat.le_of_ble_eq_true rfl⟩) rfl rfl (Nat.le_of_ble_eq_true rfl) dX9_addMethod_78 ⟨Nat.le_of_ble_eq_true rfl, Nat.le_of_ble_eq_true rfl⟩ (x_kI ?_)
            refine x_bif_eq C 118 dX9_addMethod_81 rfl (fun h13 => ?_) (fun h13 => ?_)
            · refine x_aload_n C dX9_addMethod_118 rfl 1 rfl ?_
              refine x_iconst C (2 : Int32) (by decide) dX9_addMethod_119 ?_
              refine x_callV C sh_87 (by decide) rfl [.int (2 : Int32)] (c_X9_no l V hV (t0 σ) (2 : Int32)) (cwV 1 C.2.2.2.2.1 gX9_addMethod_X9_no rfl rfl rfl (by decide +kernel) ⟨Nat.le_of_ble_eq_true rfl, Nat.le_of_ble_eq_true rfl⟩) rfl rfl (Nat.le_of_ble_eq_true rfl) dX9_addMethod_120 ⟨Nat.le_of_ble_eq_true rfl, Nat.le_of_ble_eq_true rfl⟩ (x_kI ?_)
              exact x_iret C hr hlk dX9_addMethod_123 ⟨_, rfl, fun h => absurd h (by simp [qMeth, h1, h2, eq_true h5, h6, h12, h13]), fun _ => by simp [qMeth, h1, h2, eq_true h5, h6, h12, h13]; rfl⟩
            · refine x_iload C dX9_addMethod_84 0 rfl ?_
              refine x_if_eq C 118 dX9_addMethod_86 rfl (fun h14 => ?_) (fun h14 => absurd h14 (by decide))
              refine x_aload_n C dX9_addMethod_118 rfl 1 rfl ?_
              refine x_iconst C (2 : Int32) (by decide) dX9_addMethod_119 ?_
              refine x_callV C sh_87 (by decide) rfl [.int (2 : Int32)] (c_X9_no l V hV (t0 σ) (2 : Int32)) (cwV 1 C.2.2.2.2.1 gX9_addMethod_X9_no rfl rfl rfl (by decide +kernel) ⟨Nat.le_of_ble_eq_true rfl, Nat.le_of_ble_eq_true rfl⟩) rfl rfl (Nat.le_of_ble_eq_true rfl) dX9_addMethod_120 ⟨Nat.le_of_ble_eq_true rfl, Nat.le_of_ble_eq_true rfl⟩ (x_kI ?_)
              exact x_iret C hr hlk dX9_addMethod_123 ⟨_, rfl, fun h => absurd h (by simp [qMeth, h1, h2, eq_true h5, h6, h12, h13]), fun _ => by simp [qMeth, h1, h2, eq_true h5, h6, h12, h13]; rfl⟩
          · refine x_iload C dX9_addMethod_58 4 rfl ?_
            refine x_iconst C (-1 : Int32) (by decide) dX9_addMethod_60 ?_
            refine x_icmp_ne C 70 dX9_addMethod_61 rfl (fun h15 => absurd h15 (fun q => q h5)) (fun h15 => ?_)
            refine x_iload C dX9_addMethod_64 5 rfl ?_
            refine x_iconst C (-1 : Int32) (by decide) dX9_addMethod_66 ?_
            refine x_icmp_ne C 74 dX9_addMethod_67 rfl (fun h16 => ?_) (fun h16 => absurd h16 h6)
            refine x_iconst C (0 : Int32) (by decide) dX9_addMethod_74 ?_
            refine x_istore C [(8, .int (0 : Int32)), (0, ra V 87), (1, .int o), (2, .int n), (3, .int t), (4, .int f), (5, .int g), (6, .int on), (7, .int off)] dX9_addMethod_75 (by decide) rfl ?_
            refine x_iload_n C dX9_addMethod_77 rfl 3 rfl ?_
            refine x_callS C [.int n] (c_X9_isName l V hV (t0 σ) n) (va_cwS 1 C.2.2.2.2.1 gX9_addMethod_X9_isName rfl rfl rfl (by decide +kernel) ⟨Nat.le_of_ble_eq_true rfl, Nat.le_of_ble_eq_true rfl⟩) rfl rfl (Nat.le_of_ble_eq_true rfl) dX9_addMethod_78 ⟨Nat.le_of_ble_eq_true rfl, Nat.le_of_ble_eq_true rfl⟩ (x_kI ?_)
            refine x_bif_eq C 118 dX9_addMethod_81 rfl (fun h17 => ?_) (fun h17 => ?_)
            · refine x_aload_n C dX9_addMethod_118 rfl 1 rfl ?_
              refine x_iconst C (2 : Int32) (by decide) dX9_addMethod_119 ?_
              refine x_callV C sh_87 (by decide) rfl [.int (2 : Int32)] (c_X9_no l V hV (t0 σ) (2 : Int32)) (cwV 1 C.2.2.2.2.1 gX9_addMethod_X9_no rfl rfl rfl (by decide +kernel) ⟨Nat.le_of_ble_eq_true rfl, Nat.le_of_ble_eq_true rfl⟩) rfl rfl (Nat.le_of_ble_eq_true rfl) dX9_addMethod_120 ⟨Nat.le_of_ble_eq_true rfl, Nat.le_of_ble_eq_true rfl⟩ (x_kI ?_)
              exact x_iret C hr hlk dX9_addMethod_123 ⟨_, rfl, fun h => absurd h (by simp [qMeth, h1, h2, eq_true h5, h6, h12, h17]), fun _ => by simp [qMeth, h1, h2, eq_true h5, h6, h12, h17]; rfl⟩
            · refine x_iload C dX9_addMethod_84 0 rfl ?_
              refine x_if_eq C 118 dX9_addMethod_86 rfl (fun h18 => ?_) (fun h18 => absurd h18 (by decide))
              refine x_aload_n C dX9_addMethod_118 rfl 1 rfl ?_
              refine x_iconst C (2 : Int32) (by decide) dX9_addMethod_119 ?_
              refine x_callV C sh_87 (by decide) rfl [.int (2 : Int32)] (c_X9_no l V hV (t0 σ) (2 : Int32)) (cwV 1 C.2.2.2.2.1 gX9_addMethod_X9_no rfl rfl rfl (by decide +kernel) ⟨Nat.le_of_ble_eq_true rfl, Nat.le_of_ble_eq_true rfl⟩) rfl rfl (Nat.le_of_ble_eq_true rfl) dX9_addMethod_120 ⟨Nat.le_of_ble_eq_true rfl, Nat.le_of_ble_eq_true rfl⟩ (x_kI ?_)
              exact x_iret C hr hlk dX9_addMethod_123 ⟨_, rfl, fun h => absurd h (by simp [qMeth, h1, h2, eq_true h5, h6, h12, h17]), fun _ => by simp [qMeth, h1, h2, eq_true h5, h6, h12, h17]; rfl⟩
      · refine x_aload_n C dX9_addMethod_34 rfl 0 rfl ?_
        refine x_iload C dX9_addMethod_35 4 rfl ?_
        refine x_callV C sh_87 (by decide) rfl [.int f] (c_X9_isType l V hV (t0 σ) f) (cwV 1 C.2.2.2.2.1 gX9_addMethod_X9_isType rfl rfl rfl (by decide +kernel) ⟨Nat.le_of_ble_eq_true rfl, Nat.le_of_ble_eq_true rfl⟩) rfl rfl (Nat.le_of_ble_eq_true rfl) dX9_addMethod_37 ⟨Nat.le_of_ble_eq_true rfl, Nat.le_of_ble_eq_true rfl⟩ (x_kI ?_)
        refine x_bif_eq C 74 dX9_addMethod_40 rfl (fun h19 => ?_) (fun h19 => ?_)
        · refine x_iconst C (0 : Int32) (by decide) dX9_addMethod_74 ?_
          refine x_istore C [(8, .int (0 : Int32)), (0, ra V 87), (1, .int o), (2, .int n), (3, .int t), (4, .int f), (5, .int g), (6, .int on), (7, .int off)] dX9_addMethod_75 (by decide) rfl ?_
          refine x_iload_n C dX9_addMethod_77 rfl 3 rfl ?_
          refine x_callS C [.int n] (c_X9_isName l V hV (t0 σ) n) (va_cwS 1 C.2.2.2.2.1 gX9_addMethod_X9_isName rfl rfl rfl (by decide +kernel) ⟨Nat.le_of_ble_eq_true rfl, Nat.le_of_ble_eq_true rfl⟩) rfl rfl (Nat.le_of_ble_eq_true rfl) dX9_addMethod_78 ⟨Nat.le_of_ble_eq_true rfl, Nat.le_of_ble_eq_true rfl⟩ (x_kI ?_)
          refine x_bif_eq C 118 dX9_addMethod_81 rfl (fun h20 => ?_) (fun h20 => ?_)
          · refine x_aload_n C dX9_addMethod_118 rfl 1 rfl ?_
            refine x_iconst C (2 : Int32) (by decide) dX9_addMethod_119 ?_
            refine x_callV C sh_87 (by decide) rfl [.int (2 : Int32)] (c_X9_no l V hV (t0 σ) (2 : Int32)) (cwV 1 C.2.2.2.2.1 gX9_addMethod_X9_no rfl rfl rfl (by decide +kernel) ⟨Nat.le_of_ble_eq_true rfl, Nat.le_of_ble_eq_true rfl⟩) rfl rfl (Nat.le_of_ble_eq_true rfl) dX9_addMethod_120 ⟨Nat.le_of_ble_eq_true rfl, Nat.le_of_ble_eq_true rfl⟩ (x_kI ?_)
            exact x_iret C hr hlk dX9_addMethod_123 ⟨_, rfl, fun h => absurd h (by simp [qMeth, h1, h2, h5, h19, h20]), fun _ => by simp [qMeth, h1, h2, h5, h19, h20]; rfl⟩
          · refine x_iload C dX9_addMethod_84 0 rfl ?_
            refine x_if_eq C 118 dX9_addMethod_86 rfl (fun h21 => ?_) (fun h21 => absurd h21 (by decide))
            refine x_aload_n C dX9_addMethod_118 rfl 1 rfl ?_
            refine x_iconst C (2 : Int32) (by decide) dX9_addMethod_119 ?_
            refine x_callV C sh_87 (by decide) rfl [.int (2 : Int32)] (c_X9_no l V hV (t0 σ) (2 : Int32)) (cwV 1 C.2.2.2.2.1 gX9_addMethod_X9_no rfl rfl rfl (by decide +kernel) ⟨Nat.le_of_ble_eq_true rfl, Nat.le_of_ble_eq_true rfl⟩) rfl rfl (Nat.le_of_ble_eq_true rfl) dX9_addMethod_120 ⟨Nat.le_of_ble_eq_true rfl, Nat.le_of_ble_eq_true rfl⟩ (x_kI ?_)
            exact x_iret C hr hlk dX9_addMethod_123 ⟨_, rfl, fun h => absurd h (by simp [qMeth, h1, h2, h5, h19, h20]), fun _ => by simp [qMeth, h1, h2, h5, h19, h20]; rfl⟩
        · refine x_iload C dX9_addMethod_43 5 rfl ?_
          refine x_iconst C (-1 : Int32) (by decide) dX9_addMethod_45 ?_
          refine x_icmp_eq C 58 dX9_addMethod_46 rfl (fun h22 => ?_) (fun h22 => ?_)
          · refine x_iload C dX9_addMethod_58 4 rfl ?_
            refine x_iconst C (-1 : Int32) (by decide) dX9_addMethod_60 ?_
            refine x_icmp_ne C 70 dX9_addMethod_61 rfl (fun h23 => ?_) (fun h23 => absurd h23 h5)
            refine x_iconst C (1 : Int32) (by decide) dX9_addMethod_70 ?_
            refine x_goto C 75 dX9_addMethod_71 rfl ?_
            refine x_istore C [(8, .int (1 : Int32)), (0, ra V 87), (1, .int o), (2, .int n), (3, .int t), (4, .int f), (5, .int g), (6, .int on), (7, .int off)] dX9_addMethod_75 (by decide) rfl ?_
            refine x_iload_n C dX9_addMethod_77 rfl 3 rfl ?_
            refine x_callS C [.int n] (c_X9_isName l V hV (t0 σ) n) (va_cwS 1 C.2.2.2.2.1 gX9_addMethod_X9_isName rfl rfl rfl (by decide +kernel) ⟨Nat.le_of_ble_eq_true rfl, Nat.le_of_ble_eq_true rfl⟩) rfl rfl (Nat.le_of_ble_eq_true rfl) dX9_addMethod_78 ⟨Nat.le_of_ble_eq_true rfl, Nat.le_of_ble_eq_true rfl⟩ (x_kI ?_)
            refine x_bif_eq C 118 dX9_addMethod_81 rfl (fun h24 => ?_) (fun h24 => ?_)
            · refine x_aload_n C dX9_addMethod_118 rfl 1 rfl ?_
              refine x_iconst C (2 : Int32) (by decide) dX9_addMethod_119 ?_
              refine x_callV C sh_87 (by decide) rfl [.int (2 : Int32)] (c_X9_no l V hV (t0 σ) (2 : Int32)) (cwV 1 C.2.2.2.2.1 gX9_addMethod_X9_no rfl rfl rfl (by decide +kernel) ⟨Nat.le_of_ble_eq_true rfl, Nat.le_of_ble_eq_true rfl⟩) rfl rfl (Nat.le_of_ble_eq_true rfl) dX9_addMethod_120 ⟨Nat.le_of_ble_eq_true rfl, Nat.le_of_ble_eq_true rfl⟩ (x_kI ?_)
              exact x_iret C hr hlk dX9_addMethod_123 ⟨_, rfl, fun h => absurd h (by simp [qMeth, h1, h2, h5, h19, eq_true h22, h24]), fun _ => by simp [qMeth, h1, h2, h5, h19, eq_true h22, h24]; rfl⟩
            · refine x_iload C dX9_addMethod_84 0 rfl ?_
              refine x_if_eq C 118 dX9_addMethod_86 rfl (fun h25 => absurd h25 (by decide)) (fun h25 => ?_)
              refine x_iload C dX9_addMethod_89 7 rfl ?_
              refine x_iload C dX9_addMethod_91 8 rfl ?_
              refine x_callS C [.int on, .int off] (c_X9_isCondition l V hV (t0 σ) on off) (va_cwS 2 C.2.2.2.2.1 gX9_addMethod_X9_isCondition rfl rfl rfl (by decide +kernel) ⟨Nat.le_of_ble_eq_true rfl, Nat.le_of_ble_eq_true rfl⟩) rfl rfl (Nat.le_of_ble_eq_true rfl) dX9_addMethod_93 ⟨Nat.le_of_ble_eq_true rfl, Nat.le_of_ble_eq_true rfl⟩ (x_kI ?_)
              refine x_bif_eq C 118 dX9_addMethod_96 rfl (fun h26 => ?_) (fun h26 => ?_)
              · refine x_aload_n C dX9_addMethod_118 rfl 1 rfl ?_
                refine x_iconst C (2 : Int32) (by decide) dX9_addMethod_119 ?_
                refine x_callV C sh_87 (by decide) rfl [.int (2 : Int32)] (c_X9_no l V hV (t0 σ) (2 : Int32)) (cwV 1 C.2.2.2.2.1 gX9_addMethod_X9_no rfl rfl rfl (by decide +kernel) ⟨Nat.le_of_ble_eq_true rfl, Nat.le_of_ble_eq_true rfl⟩) rfl rfl (Nat.le_of_ble_eq_true rfl) dX9_addMethod_120 ⟨Nat.le_of_ble_eq_true rfl, Nat.le_of_ble_eq_true rfl⟩ (x_kI ?_)
                exact x_iret C hr hlk dX9_addMethod_123 ⟨_, rfl, fun h => absurd h (by simp [qMeth, h1, h2, h5, h19, eq_true h22, h24, h26]), fun _ => by simp [qMeth, h1, h2, h5, h19, eq_true h22, h24, h26]; rfl⟩
              · refine x_aload_n C dX9_addMethod_99 rfl 1 rfl ?_
                refine x_iconst C (1 : Int32) (by decide) dX9_addMethod_100 ?_
                refine x_iload_n C dX9_addMethod_101 rfl 2 rfl ?_
                refine x_iload_n C dX9_addMethod_102 rfl 3 rfl ?_
                refine x_iload_n C dX9_addMethod_103 rfl 4 rfl ?_
                refine x_iload C dX9_addMethod_104 5 rfl ?_
                refine x_iload C dX9_addMethod_106 6 rfl ?_
                refine x_iload C dX9_addMethod_108 7 rfl ?_
                refine x_iload C dX9_addMethod_110 8 rfl ?_
                refine x_callV C sh_87 (by decide) rfl [.int (1 : Int32), .int o, .int n, .int t, .int f, .int g, .int on, .int off] (c_X9_addMember l V hV (t0 σ) true o n t f g on off hMt) (cwV 8 C.2.2.2.2.1 gX9_addMethod_X9_addMember rfl rfl rfl (by decide +kernel) ⟨Nat.le_of_ble_eq_true rfl, Nat.le_of_ble_eq_true rfl⟩) rfl rfl (Nat.le_of_ble_eq_true rfl) dX9_addMethod_112 ⟨Nat.le_of_ble_eq_true rfl, Nat.le_of_ble_eq_true rfl⟩ (fun v σ2 hR => ?_)
                obtain ⟨y, rfl, hk0, hk1⟩ := hR
                dsimp only [Option.toList, List.cons_append, List.nil_append]
                refine x_goto C 123 dX9_addMethod_115 rfl ?_
                exact x_iret C hr hlk dX9_addMethod_123 (by
        have hq : qMeth σ o n t f g on off = qMem (t0 σ) := by simp [qMeth, h1, h2, h5, h19, eq_true h22, h24, h26]
        rw [hq]
        exact ⟨_, rfl, hk0, hk1⟩)
          · refine x_aload_n C dX9_addMethod_49 rfl 0 rfl ?_
            refine x_iload C dX9_addMethod_50 5 rfl ?_
            refine x_callV C sh_87 (by decide) rfl [.int g] (c_X9_isType l V hV (t0 σ) g) (cwV 1 C.2.2.2.2.1 gX9_addMethod_X9_isType rfl rfl rfl (by decide +kernel) ⟨Nat.le_of_ble_eq_true rfl, Nat.le_of_ble_eq_true rfl⟩) rfl rfl (Nat.le_of_ble_eq_true rfl) dX9_addMethod_52 ⟨Nat.le_of_ble_eq_true rfl, Nat.le_of_ble_eq_true rfl⟩ (x_kI ?_)
            refine x_bif_eq C 74 dX9_addMethod_55 rfl (fun h27 => ?_) (fun h27 => ?_)
            · refine x_iconst C (0 : Int32) (by decide) dX9_addMethod_74 ?_
              refine x_istore C [(8, .int (0 : Int32)), (0, ra V 87), (1, .int o), (2, .int n), (3, .int t), (4, .int f), (5, .int g), (6, .int on), (7, .int off)] dX9_addMethod_75 (by decide) rfl ?_
              refine x_iload_n C dX9_addMethod_77 rfl 3 rfl ?_
              refine x_callS C [.int n] (c_X9_isName l V hV (t0 σ) n) (va_cwS 1 C.2.2.2.2.1 gX9_addMethod_X9_isName rfl rfl rfl (by decide +kernel) ⟨Nat.le_of_ble_eq_true rfl, Nat.le_of_ble_eq_true rfl⟩) rfl rfl (Nat.le_of_ble_eq_true rfl) dX9_addMethod_78 ⟨Nat.le_of_ble_eq_true rfl, Nat.le_of_ble_eq_true rfl⟩ (x_kI ?_)
              refine x_bif_eq C 118 dX9_addMethod_81 rfl (fun h28 => ?_) (fun h28 => ?_)
              · refine x_aload_n C dX9_addMethod_118 rfl 1 rfl ?_
                refine x_iconst C (2 : Int32) (by decide) dX9_addMethod_119 ?_
                refine x_callV C sh_87 (by decide) rfl [.int (2 : Int32)] (c_X9_no l V hV (t0 σ) (2 : Int32)) (cwV 1 C.2.2.2.2.1 gX9_addMethod_X9_no rfl rfl rfl (by decide +kernel) ⟨Nat.le_of_ble_eq_true rfl, Nat.le_of_ble_eq_true rfl⟩) rfl rfl (Nat.le_of_ble_eq_true rfl) dX9_addMethod_120 ⟨Nat.le_of_ble_eq_true rfl, Nat.le_of_ble_eq_true rfl⟩ (x_kI ?_)
                exact x_iret C hr hlk dX9_addMethod_123 ⟨_, rfl, fun h => absurd h (by simp [qMeth, h1, h2, h5, h19, h22, h27, h28]), fun _ => by simp [qMeth, h1, h2, h5, h19, h22, h27, h28]; rfl⟩
              · refine x_iload C dX9_addMethod_84 0 rfl ?_
                refine x_if_eq C 118 dX9_addMethod_86 rfl (fun h29 => ?_) (fun h29 => absurd h29 (by decide))
                refine x_aload_n C dX9_addMethod_118 rfl 1 rfl ?_
                refine x_iconst C (2 : Int32) (by decide) dX9_addMethod_119 ?_
                refine x_callV C sh_87 (by decide) rfl [.int (2 : Int32)] (c_X9_no l V hV (t0 σ) (2 : Int32)) (cwV 1 C.2.2.2.2.1 gX9_addMethod_X9_no rfl rfl rfl (by decide +kernel) ⟨Nat.le_of_ble_eq_true rfl, Nat.le_of_ble_eq_true rfl⟩) rfl rfl (Nat.le_of_ble_eq_true rfl) dX9_addMethod_120 ⟨Nat.le_of_ble_eq_true rfl, Nat.le_of_ble_eq_true rfl⟩ (x_kI ?_)
                exact x_iret C hr hlk dX9_addMethod_123 ⟨_, rfl, fun h => absurd h (by simp [qMeth, h1, h2, h5, h19, h22, h27, h28]), fun _ => by simp [qMeth, h1, h2, h5, h19, h22, h27, h28]; rfl⟩
            · refine x_iload C dX9_addMethod_58 4 rfl ?_
              refine x_iconst C (-1 : Int32) (by decide) dX9_addMethod_60 ?_
              refine x_icmp_ne C 70 dX9_addMethod_61 rfl (fun h30 => ?_) (fun h30 => absurd h30 h5)
              refine x_iconst C (1 : Int32) (by decide) dX9_addMethod_70 ?_
              refine x_goto C 75 dX9_addMethod_71 rfl ?_
              refine x_istore C [(8, .int (1 : Int32)), (0, ra V 87), (1, .int o), (2, .int n), (3, .int t), (4, .int f), (5, .int g), (6, .int on), (7, .int off)] dX9_addMethod_75 (by decide) rfl ?_
              refine x_iload_n C dX9_addMethod_77 rfl 3 rfl ?_
              refine x_callS C [.int n] (c_X9_isName l V hV (t0 σ) n) (va_cwS 1 C.2.2.2.2.1 gX9_addMethod_X9_isName rfl rfl rfl (by decide +kernel) ⟨Nat.le_of_ble_eq_true rfl, Nat.le_of_ble_eq_true rfl⟩) rfl rfl (Nat.le_of_ble_eq_true rfl) dX9_addMethod_78 ⟨Nat.le_of_ble_eq_true rfl, Nat.le_of_ble_eq_true rfl⟩ (x_kI ?_)
              refine x_bif_eq C 118 dX9_addMethod_81 rfl (fun h31 => ?_) (fun h31 => ?_)
              · refine x_aload_n C dX9_addMethod_118 rfl 1 rfl ?_
                refine x_iconst C (2 : Int32) (by decide) dX9_addMethod_119 ?_
                refine x_callV C sh_87 (by decide) rfl [.int (2 : Int32)] (c_X9_no l V hV (t0 σ) (2 : Int32)) (cwV 1 C.2.2.2.2.1 gX9_addMethod_X9_no rfl rfl rfl (by decide +kernel) ⟨Nat.le_of_ble_eq_true rfl, Nat.le_of_ble_eq_true rfl⟩) rfl rfl (Nat.le_of_ble_eq_true rfl) dX9_addMethod_120 ⟨Nat.le_of_ble_eq_true rfl, Nat.le_of_ble_eq_true rfl⟩ (x_kI ?_)
                exact x_iret C hr hlk dX9_addMethod_123 ⟨_, rfl, fun h => absurd h (by simp [qMeth, h1, h2, h5, h19, h22, h27, h31]), fun _ => by simp [qMeth, h1, h2, h5, h19, h22, h27, h31]; rfl⟩
              · refine x_iload C dX9_addMethod_84 0 rfl ?_
                refine x_if_eq C 118 dX9_addMethod_86 rfl (fun h32 => absurd h32 (by decide)) (fun h32 => ?_)
                refine x_iload C dX9_addMethod_89 7 rfl ?_
                refine x_iload C dX9_addMethod_91 8 rfl ?_
                refine x_callS C [.int on, .int off] (c_X9_isCondition l V hV (t0 σ) on off) (va_cwS 2 C.2.2.2.2.1 gX9_addMethod_X9_isCondition rfl rfl rfl (by decide +kernel) ⟨Nat.le_of_ble_eq_true rfl, Nat.le_of_ble_eq_true rfl⟩) rfl rfl (Nat.le_of_ble_eq_true rfl) dX9_addMethod_93 ⟨Nat.le_of_ble_eq_true rfl, Nat.le_of_ble_eq_true rfl⟩ (x_kI ?_)
                refine x_bif_eq C 118 dX9_addMethod_96 rfl (fun h33 => ?_) (fun h33 => ?_)
                · refine x_aload_n C dX9_addMethod_118 rfl 1 rfl ?_
                  refine x_iconst C (2 : Int32) (by decide) dX9_addMethod_119 ?_
                  refine x_callV C sh_87 (by decide) rfl [.int (2 : Int32)] (c_X9_no l V hV (t0 σ) (2 : Int32)) (cwV 1 C.2.2.2.2.1 gX9_addMethod_X9_no rfl rfl rfl (by decide +kernel) ⟨Nat.le_of_ble_eq_true rfl, Nat.le_of_ble_eq_true rfl⟩) rfl rfl (Nat.le_of_ble_eq_true rfl) dX9_addMethod_120 ⟨Nat.le_of_ble_eq_true rfl, Nat.le_of_ble_eq_true rfl⟩ (x_kI ?_)
                  exact x_iret C hr hlk dX9_addMethod_123 ⟨_, rfl, fun h => absurd h (by simp [qMeth, h1, h2, h5, h19, h22, h27, h31, h33]), fun _ => by simp [qMeth, h1, h2, h5, h19, h22, h27, h31, h33]; rfl⟩
                · refine x_aload_n C dX9_addMethod_99 rfl 1 rfl ?_
                  refine x_iconst C (1 : Int32) (by decide) dX9_addMethod_100 ?_
                  refine x_iload_n C dX9_addMethod_101 rfl 2 rfl ?_
                  refine x_iload_n C dX9_addMethod_102 rfl 3 rfl ?_
                  refine x_iload_n C dX9_addMethod_103 rfl 4 rfl ?_
                  refine x_iload C dX9_addMethod_104 5 rfl ?_
                  refine x_iload C dX9_addMethod_106 6 rfl ?_
                  refine x_iload C dX9_addMethod_108 7 rfl ?_
                  refine x_iload C dX9_addMethod_110 8 rfl ?_
                  refine x_callV C sh_87 (by decide) rfl [.int (1 : Int32), .int o, .int n, .int t, .int f, .int g, .int on, .int off] (c_X9_addMember l V hV (t0 σ) true o n t f g on off hMt) (cwV 8 C.2.2.2.2.1 gX9_addMethod_X9_addMember rfl rfl rfl (by decide +kernel) ⟨Nat.le_of_ble_eq_true rfl, Nat.le_of_ble_eq_true rfl⟩) rfl rfl (Nat.le_of_ble_eq_true rfl) dX9_addMethod_112 ⟨Nat.le_of_ble_eq_true rfl, Nat.le_of_ble_eq_true rfl⟩ (fun v σ2 hR => ?_)
                  obtain ⟨y, rfl, hk0, hk1⟩ := hR
                  dsimp only [Option.toList, List.cons_append, List.nil_append]
                  refine x_goto C 123 dX9_addMethod_115 rfl ?_
                  exact x_iret C hr hlk dX9_addMethod_123 (by
        have hq : qMeth σ o n t f g on off = qMem (t0 σ) := by simp [qMeth, h1, h2, h5, h19, h22, h27, h31, h33]
        rw [hq]
        exact ⟨_, rfl, hk0, hk1⟩)
  · refine x_aload_n C dX9_addMethod_14 rfl 0 rfl ?_
    refine x_iconst C (1 : Int32) (by decide) dX9_addMethod_15 ?_
    refine x_callV C sh_87 (by decide) rfl [.int (1 : Int32)] (c_X9_no l V hV (t0 σ) (1 : Int32)) (cwV 1 C.2.2.2.2.1 gX9_addMethod_X9_no rfl rfl rfl (by decide +kernel) ⟨Nat.le_of_ble_eq_true rfl, Nat.le_of_ble_eq_true rfl⟩) rfl rfl (Nat.le_of_ble_eq_true rfl) dX9_addMethod_16 ⟨Nat.le_of_ble_eq_true rfl, Nat.le_of_ble_eq_true rfl⟩ (x_kI ?_)
    exact x_iret C hr hlk dX9_addMethod_19 ⟨_, rfl, fun h => absurd h (by simp [qMeth, h1]), fun _ => by simp [qMeth, h1]; rfl⟩

set_option maxHeartbeats 4000000 in
set_option maxRecDepth 100000 in
theorem c_X9_addNew (l : Launch) (V : xV) (hV : xInj V) (σ : xS) (m1 c1 : Int32) (hM : mV σ) : xM l yX9_addNew wsX9_addNew ({ frames := 3, cells := 0, slots := 0, locals := 65 }) V [ra V 87, .int m1, .int c1] σ (rC (qNew σ m1 c1) (t0 σ 210 0 + 1 - 1) (sExp (t0 σ) 0 m1 c1 (-1) (-1) (-1)) (t0 σ)) := by
  refine xM_of (cc := cX9_addNew) (maxL := 3) (ret := (some .int)) [(0, ra V 87), (1, .int m1), (2, .int c1)] hV (by decide) rfl rfl (Nat.le_of_ble_eq_true rfl) (fun p e s m args below meth c C hr hlk => ?_)
  have iX9 : ∀ w ∈ u_ws RX9 TX9 24, w ∈ wsX9_addNew := by decide +kernel
  have f71 : (Cond.fieldLink RX9 71 RX9 (TX9 0).2.1 (TX9 0).2.2.1).before args s = true := C.2.2.2.2.1 _ (by decide +kernel)
  refine x_aload_n C dX9_addNew_0 rfl 0 rfl ?_
  refine x_iconst C (0 : Int32) (by decide) dX9_addNew_1 ?_
  refine x_puti (ty := .int) C sh_87 rfl iX9 0 (by decide) f71 (fun _ h => h) (by decide) rfl (by decide +kernel) (by decide +kernel) (by decide) rfl tyX9 tyX9_ok nmX9 (by decide +kernel) rfl rfl dX9_addNew_2 ?_
  have hMt := t0_V hM
  refine x_s (σ' := t0 σ) rfl ?_
  refine x_aload_n C dX9_addNew_5 rfl 0 rfl ?_
  refine x_iload_n C dX9_addNew_6 rfl 1 rfl ?_
  refine x_callV C sh_87 (by decide) rfl [.int m1] (c_X9_isMethod l V hV (t0 σ) m1 hMt) (cwV 1 C.2.2.2.2.1 gX9_addNew_X9_isMethod rfl rfl rfl (by decide +kernel) ⟨Nat.le_of_ble_eq_true rfl, Nat.le_of_ble_eq_true rfl⟩) rfl rfl (Nat.le_of_ble_eq_true rfl) dX9_addNew_7 ⟨Nat.le_of_ble_eq_true rfl, Nat.le_of_ble_eq_true rfl⟩ (x_kI ?_)
  refine x_bif_eq C 36 dX9_addNew_10 rfl (fun h1 => ?_) (fun h1 => ?_)
  · refine x_aload_n C dX9_addNew_36 rfl 0 rfl ?_
    refine x_iconst C (1 : Int32) (by decide) dX9_addNew_37 ?_
    refine x_callV C sh_87 (by decide) rfl [.int (1 : Int32)] (c_X9_no l V hV (t0 σ) (1 : Int32)) (cwV 1 C.2.2.2.2.1 gX9_addNew_X9_no rfl rfl rfl (by decide +kernel) ⟨Nat.le_of_ble_eq_true rfl, Nat.le_of_ble_eq_true rfl⟩) rfl rfl (Nat.le_of_ble_eq_true rfl) dX9_addNew_38 ⟨Nat.le_of_ble_eq_true rfl, Nat.le_of_ble_eq_true rfl⟩ (x_kI ?_)
    exact x_iret C hr hlk dX9_addNew_41 ⟨_, rfl, fun h => absurd h (by simp [qNew, h1]), fun _ => by simp [qNew, h1]; rfl⟩
  · refine x_aload_n C dX9_addNew_13 rfl 0 rfl ?_
    refine x_iconst C (0 : Int32) (by decide) dX9_addNew_14 ?_
    refine x_iload_n C dX9_addNew_15 rfl 2 rfl ?_
    refine x_callV C sh_87 (by decide) rfl [.int (0 : Int32), .int c1] (c_X9_isElement l V hV (t0 σ) (0 : Int32) c1) (cwV 2 C.2.2.2.2.1 gX9_addNew_X9_isElement rfl rfl rfl (by decide +kernel) ⟨Nat.le_of_ble_eq_true rfl, Nat.le_of_ble_eq_true rfl⟩) rfl rfl (Nat.le_of_ble_eq_true rfl) dX9_addNew_16 ⟨Nat.le_of_ble_eq_true rfl, Nat.le_of_ble_eq_true rfl⟩ (x_kI ?_)
    refine x_bif_eq C 36 dX9_addNew_19 rfl (fun h2 => ?_) (fun h2 => ?_)
    · refine x_aload_n C dX9_addNew_36 rfl 0 rfl ?_
      refine x_iconst C (1 : Int32) (by decide) dX9_addNew_37 ?_
      refine x_callV C sh_87 (by decide) rfl [.int (1 : Int32)] (c_X9_no l V hV (t0 σ) (1 : Int32)) (cwV 1 C.2.2.2.2.1 gX9_addNew_X9_no rfl rfl rfl (by decide +kernel) ⟨Nat.le_of_ble_eq_true rfl, Nat.le_of_ble_eq_true rfl⟩) rfl rfl (Nat.le_of_ble_eq_true rfl) dX9_addNew_38 ⟨Nat.le_of_ble_eq_true rfl, Nat.le_of_ble_eq_true rfl⟩ (x_kI ?_)
      exact x_iret C hr hlk dX9_addNew_41 ⟨_, rfl, fun h => absurd h (by simp [qNew, h1, h2]), fun _ => by simp [qNew, h1, h2]; rfl⟩
    · refine x_aload_n C dX9_addNew_22 rfl 0 rfl ?_
      refine x_iconst C (0 : Int32) (by decide) dX9_addNew_23 ?_
      refine x_iload_n C dX9_addNew_24 rfl 1 rfl ?_
      refine x_iload_n C dX9_addNew_25 rfl 2 rfl ?_
      refine x_iconst C (-1 : Int32) (by decide) dX9_addNew_26 ?_
      refine x_iconst C (-1 : Int32) (by decide) dX9_addNew_27 ?_
      refine x_iconst C (-1 : Int32) (by decide) dX9_addNew_28 ?_
      refine x_iconst C (2 : Int32) (by decide) dX9_addNew_29 ?_
      refine x_callV C sh_87 (by decide) rfl [.int (0 : Int32), .int m1, .int c1, .int (-1 : Int32), .int (-1 : Int32), .int (-1 : Int32), .int (2 : Int32)] (c_X9_addExpression l V hV (t0 σ) (0 : Int32) m1 c1 (-1 : Int32) (-1 : Int32) (-1 : Int32) 2 hMt (by decide)) (cwV 7 C.2.2.2.2.1 gX9_addNew_X9_addExpression rfl rfl rfl (by decide +kernel) ⟨Nat.le_of_ble_eq_true rfl, Nat.le_of_ble_eq_true rfl⟩) rfl rfl (Nat.le_of_ble_eq_true rfl) dX9_addNew_30 ⟨Nat.le_of_ble_eq_true rfl, Nat.le_of_ble_eq_true rfl⟩ (fun v σ2 hR => ?_)
      obtain ⟨y, rfl, hk0, hk1⟩ := hR
      dsimp only [Option.toList, List.cons_append, List.nil_append]
      refine x_goto C 41 dX9_addNew_33 rfl ?_
      exact x_iret C hr hlk dX9_addNew_41 (by
        have hq : qNew σ m1 c1 = qExp (t0 σ) 2 := by simp [qNew, h1, h2]
        rw [hq]
        exact ⟨_, rfl, hk0, hk1⟩)

/-! The reference, the rest. -/
theorem sortc {x : Int32} (h : vp_in x 4) : x = 0 ∨ x = 1 ∨ x = 2 ∨ x = 3 := by
  have h1 := vp_cl h
  have e := vp_nI h
  generalize x.toNatClampNeg = j at h1 e
  subst e
  have : j = 0 ∨ j = 1 ∨ j = 2 ∨ j = 3 := by omega
  rcases this with rfl | rfl | rfl | rfl
  · exact Or.inl rfl
  · exact Or.inr (Or.inl rfl)
  · exact Or.inr (Or.inr (Or.inl rfl))
  · exact Or.inr (Or.inr (Or.inr rfl))
theorem mEl_s {σ : xS} {s i : Int32} (h : mEl σ s i = true) : vp_in s 4 := by
  simp only [mEl, Bool.and_eq_true] at h
  exact mIn_sort h.1
theorem mEl_24 {σ : xS} (hM : mV σ) {s i : Int32} (h : mEl σ s i = true) : vp_in i 24 := by
  rcases sortc (mEl_s h) with rfl | rfl | rfl | rfl
  · exact vp_le (mEl_vp (mvc0 hM) (by decide) h) (by decide)
  · exact vp_le (mEl_vp (mvc1 hM) (by decide) h) (by decide)
  · exact mEl_vp (mvc2 hM) (by decide) h
  · exact vp_le (mEl_vp (mvc3 hM) (by decide) h) (by decide)
abbrev rCZ (code : Nat) (x : Bool) (S F : xS) : Option Value → xS → Prop := fun v u => ∃ y, v = some (.int (bI y)) ∧ (code = 0 → y = x ∧ u = S) ∧ (code ≠ 0 → u = xw F 208 0 (nI code))
def mOth (σ : xS) (s i on off : Int32) : Bool := !(decide (σ 92 (mAx s i) = on) && decide (σ 93 (mAx s i) = off))
def sSet (σ : xS) (s i on off : Int32) : xS := xw (xw (xw (t0 σ) 92 (mAx s i) on) 93 (mAx s i) off) 211 0 0
set_option maxHeartbeats 4000000 in
set_option maxRecDepth 100000 in
theorem c_X9_setCondition (l : Launch) (V : xV) (hV : xInj V) (σ : xS) (s1 i on off : Int32) (hM : mV σ) : xM l yX9_setCondition wsX9_setCondition ({ frames := 2, cells := 0, slots := 0, locals := 44 }) V [ra V 87, .int s1, .int i, .int on, .int off] σ (rCZ (qSet σ s1 i on off) (mOth (t0 σ) s1 i on off) (sSet σ s1 i on off) σ) := by
  refine xM_of (cc := cX9_setCondition) (maxL := 7) (ret := (some .boolean)) [(0, ra V 87), (1, .int s1), (2, .int i), (3, .int on), (4, .int off)] hV (by decide) rfl rfl (Nat.le_of_ble_eq_true rfl) (fun p e s m args below meth c C hr hlk => ?_)
  have iX9 : ∀ w ∈ u_ws RX9 TX9 24, w ∈ wsX9_setCondition := by decide +kernel
  have f71 : (Cond.fieldLink RX9 71 RX9 (TX9 0).2.1 (TX9 0).2.2.1).before args s = true := C.2.2.2.2.1 _ (by decide +kernel)
  have f22 : (Cond.fieldLink RX9 22 RX9 (TX9 6).2.1 (TX9 6).2.2.1).before args s = true := C.2.2.2.2.1 _ (by decide +kernel)
  have f25 : (Cond.fieldLink RX9 25 RX9 (TX9 7).2.1 (TX9 7).2.2.1).before args s = true := C.2.2.2.2.1 _ (by decide +kernel)
  have f93 : (Cond.fieldLink RX9 93 RX9 (TX9 21).2.1 (TX9 21).2.2.1).before args s = true := C.2.2.2.2.1 _ (by decide +kernel)
  refine x_aload_n C dX9_setCondition_0 rfl 0 rfl ?_
  refine x_aload_n C dX9_setCondition_1 rfl 0 rfl ?_
  refine x_iload_n C dX9_setCondition_2 rfl 1 rfl ?_
  refine x_iload_n C dX9_setCondition_3 rfl 2 rfl ?_
  refine x_callV C sh_87 (by decide) rfl [.int s1, .int i] (c_X9_isElement l V hV σ s1 i) (cwV 2 C.2.2.2.2.1 gX9_setCondition_X9_isElement rfl rfl rfl (by decide +kernel) ⟨Nat.le_of_ble_eq_true rfl, Nat.le_of_ble_eq_true rfl⟩) rfl rfl (Nat.le_of_ble_eq_true rfl) dX9_setCondition_4 ⟨Nat.le_of_ble_eq_true rfl, Nat.le_of_ble_eq_true rfl⟩ (x_kI ?_)
  refine x_bif_ne C 14 dX9_setCondition_7 rfl (fun h1 => ?_) (fun h1 => ?_)
  · refine x_iload_n C dX9_setCondition_14 rfl 3 rfl ?_
    refine x_iload C dX9_setCondition_15 4 rfl ?_
    refine x_callS C [.int on, .int off] (c_X9_isCondition l V hV σ on off) (va_cwS 2 C.2.2.2.2.1 gX9_setCondition_X9_isCondition rfl rfl rfl (by decide +kernel) ⟨Nat.le_of_ble_eq_true rfl, Nat.le_of_ble_eq_true rfl⟩) rfl rfl (Nat.le_of_ble_eq_true rfl) dX9_setCondition_17 ⟨Nat.le_of_ble_eq_true rfl, Nat.le_of_ble_eq_true rfl⟩ (x_kI ?_)
    refine x_bif_ne C 27 dX9_setCondition_20 rfl (fun h2 => ?_) (fun h2 => ?_)
    · refine x_iconst C (0 : Int32) (by decide) dX9_setCondition_27 ?_
      refine x_puti (ty := .int) C sh_87 rfl iX9 0 (by decide) f71 (fun _ h => h) (by decide) rfl (by decide +kernel) (by decide +kernel) (by decide) rfl tyX9 tyX9_ok nmX9 (by decide +kernel) rfl rfl dX9_setCondition_28 ?_
      refine x_aload_n C dX9_setCondition_31 rfl 0 rfl ?_
      refine x_geti C sh_87 rfl iX9 0 (by decide) f71 (fun _ h => h) (by decide) rfl dX9_setCondition_32 ?_
      refine x_v (y := (0 : Int32)) (xw_at _ _ _ _) ?_
      have hMt := t0_V hM
      refine x_s (σ' := t0 σ) rfl ?_
      refine x_if_eq C 40 dX9_setCondition_35 rfl (fun h3 => ?_) (fun h3 => absurd h3 (by decide))
      refine x_bipush C (24 : Int32) (by decide) dX9_setCondition_40 ?_
      refine x_iload_n C dX9_setCondition_42 rfl 1 rfl ?_
      refine x_imul C dX9_setCondition_43 ?_
      refine x_iload_n C dX9_setCondition_44 rfl 2 rfl ?_
      refine x_iadd C dX9_setCondition_45 ?_
      refine x_istore C [(5, .int (((24 : Int32) * s1) + i)), (0, ra V 87), (1, .int s1), (2, .int i), (3, .int on), (4, .int off)] dX9_setCondition_46 (by decide) rfl ?_
      refine x_aload_n C dX9_setCondition_48 rfl 1 rfl ?_
      refine x_getr C sh_87 rfl iX9 6 (by decide) f22 (fun _ h => h) (by decide) rfl dX9_setCondition_49 ?_
      refine x_iload C dX9_setCondition_52 0 rfl ?_
      refine x_iald C sh_92 (vp_add (vp_mulk 24 (mEl_s h1) (by decide)) (mEl_24 hM h1) (by decide)) dX9_setCondition_54 ?_
      refine x_iload_n C dX9_setCondition_55 rfl 4 rfl ?_
      refine x_icmp_ne C 71 dX9_setCondition_56 rfl (fun h4 => ?_) (fun h4 => ?_)
      · refine x_iconst C (1 : Int32) (by decide) dX9_setCondition_71 ?_
        refine x_goto C 76 dX9_setCondition_72 rfl ?_
        refine x_istore C [(6, .int (1 : Int32)), (5, .int (((24 : Int32) * s1) + i)), (0, ra V 87), (1, .int s1), (2, .int i), (3, .int on), (4, .int off)] dX9_setCondition_76 (by decide) rfl ?_
        refine x_aload_n C dX9_setCondition_78 rfl 2 rfl ?_
        refine x_getr C sh_87 rfl iX9 6 (by decide) f22 (fun _ h => h) (by decide) rfl dX9_setCondition_79 ?_
        refine x_iload C dX9_setCondition_82 1 rfl ?_
        refine x_iload_n C dX9_setCondition_84 rfl 5 rfl ?_
        refine x_iast C sh_92 (vp_add (vp_mulk 24 (mEl_s h1) (by decide)) (mEl_24 hM h1) (by decide)) dX9_setCondition_85 ?_
        refine x_aload_n C dX9_setCondition_86 rfl 2 rfl ?_
        refine x_getr C sh_87 rfl iX9 7 (by decide) f25 (fun _ h => h) (by decide) rfl dX9_setCondition_87 ?_
        refine x_iload C dX9_setCondition_90 1 rfl ?_
        refine x_iload C dX9_setCondition_92 6 rfl ?_
        refine x_iast C sh_93 (vp_add (vp_mulk 24 (mEl_s h1) (by decide)) (mEl_24 hM h1) (by decide)) dX9_setCondition_94 ?_
        refine x_aload_n C dX9_setCondition_95 rfl 2 rfl ?_
        refine x_iconst C (0 : Int32) (by decide) dX9_setCondition_96 ?_
        refine x_puti (ty := .boolean) C sh_87 rfl iX9 21 (by decide) f93 (fun _ h => h) (by decide) rfl (by decide +kernel) (by decide +kernel) (by decide) rfl tyX9 tyX9_ok nmX9 (by decide +kernel) (by first | rfl | exact bI_nar _) (by first | rfl | exact bI_fit _) dX9_setCondition_97 ?_
        refine x_iload C dX9_setCondition_100 0 rfl ?_
        exact x_zret C true rfl hr hlk dX9_setCondition_102 ⟨_, rfl, fun _ => ⟨by simp [mOth, mAx, h4], rfl⟩, fun h => absurd (by simp [qSet, h1, h2]) h⟩
      · refine x_aload_n C dX9_setCondition_59 rfl 1 rfl ?_
        refine x_getr C sh_87 rfl iX9 7 (by decide) f25 (fun _ h => h) (by decide) rfl dX9_setCondition_60 ?_
        refine x_iload C dX9_setCondition_63 0 rfl ?_
        refine x_iald C sh_93 (vp_add (vp_mulk 24 (mEl_s h1) (by decide)) (mEl_24 hM h1) (by decide)) dX9_setCondition_65 ?_
        refine x_iload C dX9_setCondition_66 5 rfl ?_
        refine x_icmp_eq C 75 dX9_setCondition_68 rfl (fun h5 => ?_) (fun h5 => ?_)
        · refine x_iconst C (0 : Int32) (by decide) dX9_setCondition_75 ?_
          refine x_istore C [(6, .int (0 : Int32)), (5, .int (((24 : Int32) * s1) + i)), (0, ra V 87), (1, .int s1), (2, .int i), (3, .int on), (4, .int off)] dX9_setCondition_76 (by decide) rfl ?_
          refine x_aload_n C dX9_setCondition_78 rfl 2 rfl ?_
          refine x_getr C sh_87 rfl iX9 6 (by decide) f22 (fun _ h => h) (by decide) rfl dX9_setCondition_79 ?_
          refine x_iload C dX9_setCondition_82 1 rfl ?_
          refine x_iload_n C dX9_setCondition_84 rfl 5 rfl ?_
          refine x_iast C sh_92 (vp_add (vp_mulk 24 (mEl_s h1) (by decide)) (mEl_24 hM h1) (by decide)) dX9_setCondition_85 ?_
          refine x_aload_n C dX9_setCondition_86 rfl 2 rfl ?_
          refine x_getr C sh_87 rfl iX9 7 (by decide) f25 (fun _ h => h) (by decide) rfl dX9_setCondition_87 ?_
          refine x_iload C dX9_setCondition_90 1 rfl ?_
          refine x_iload C dX9_setCondition_92 6 rfl ?_
          refine x_iast C sh_93 (vp_add (vp_mulk 24 (mEl_s h1) (by decide)) (mEl_24 hM h1) (by decide)) dX9_setCondition_94 ?_
          refine x_aload_n C dX9_setCondition_95 rfl 2 rfl ?_
          refine x_iconst C (0 : Int32) (by decide) dX9_setCondition_96 ?_
          refine x_puti (ty := .boolean) C sh_87 rfl iX9 21 (by decide) f93 (fun _ h => h) (by decide) rfl (by decide +kernel) (by decide +kernel) (by decide) rfl tyX9 tyX9_ok nmX9 (by decide +kernel) (by first | rfl | exact bI_nar _) (by first | rfl | exact bI_fit _) dX9_setCondition_97 ?_
          refine x_iload C dX9_setCondition_100 0 rfl ?_
          exact x_zret C false rfl hr hlk dX9_setCondition_102 ⟨_, rfl, fun _ => ⟨by simp [mOth, mAx, eq_true h4, eq_true h5], rfl⟩, fun h => absurd (by simp [qSet, h1, h2]) h⟩
        · refine x_iconst C (1 : Int32) (by decide) dX9_setCondition_71 ?_
          refine x_goto C 76 dX9_setCondition_72 rfl ?_
          refine x_istore C [(6, .int (1 : Int32)), (5, .int (((24 : Int32) * s1) + i)), (0, ra V 87), (1, .int s1), (2, .int i), (3, .int on), (4, .int off)] dX9_setCondition_76 (by decide) rfl ?_
          refine x_aload_n C dX9_setCondition_78 rfl 2 rfl ?_
          refine x_getr C sh_87 rfl iX9 6 (by decide) f22 (fun _ h => h) (by decide) rfl dX9_setCondition_79 ?_
          refine x_iload C dX9_setCondition_82 1 rfl ?_
          refine x_iload_n C dX9_setCondition_84 rfl 5 rfl ?_
          refine x_iast C sh_92 (vp_add (vp_mulk 24 (mEl_s h1) (by decide)) (mEl_24 hM h1) (by decide)) dX9_setCondition_85 ?_
          refine x_aload_n C dX9_setCondition_86 rfl 2 rfl ?_
          refine x_getr C sh_87 rfl iX9 7 (by decide) f25 (fun _ h => h) (by decide) rfl dX9_setCondition_87 ?_
          refine x_iload C dX9_setCondition_90 1 rfl ?_
          refine x_iload C dX9_setCondition_92 6 rfl ?_
          refine x_iast C sh_93 (vp_add (vp_mulk 24 (mEl_s h1) (by decide)) (mEl_24 hM h1) (by decide)) dX9_setCondition_94 ?_
          refine x_aload_n C dX9_setCondition_95 rfl 2 rfl ?_
          refine x_iconst C (0 : Int32) (by decide) dX9_setCondition_96 ?_
          refine x_puti (ty := .boolean) C sh_87 rfl iX9 21 (by decide) f93 (fun _ h => h) (by decide) rfl (by decide +kernel) (by decide +kernel) (by decide) rfl tyX9 tyX9_ok nmX9 (by decide +kernel) (by first | rfl | exact bI_nar _) (by first | rfl | exact bI_fit _) dX9_setCondition_97 ?_
          refine x_iload C dX9_setCondition_100 0 rfl ?_
          exact x_zret C true rfl hr hlk dX9_setCondition_102 ⟨_, rfl, fun _ => ⟨by simp [mOth, mAx, eq_true h4, h5], rfl⟩, fun h => absurd (by simp [qSet, h1, h2]) h⟩
    · refine x_iconst C (2 : Int32) (by decide) dX9_setCondition_23 ?_
      refine x_goto C 28 dX9_setCondition_24 rfl ?_
      refine x_puti (ty := .int) C sh_87 rfl iX9 0 (by decide) f71 (fun _ h => h) (by decide) rfl (by decide +kernel) (by decide +kernel) (by decide) rfl tyX9 tyX9_ok nmX9 (by decide +kernel) rfl rfl dX9_setCondition_28 ?_
      refine x_aload_n C dX9_setCondition_31 rfl 0 rfl ?_
      refine x_geti C sh_87 rfl iX9 0 (by decide) f71 (fun _ h => h) (by decide) rfl dX9_setCondition_32 ?_
      refine x_v (y := (2 : Int32)) (xw_at _ _ _ _) ?_
      refine x_if_eq C 40 dX9_setCondition_35 rfl (fun h6 => absurd h6 (by decide)) (fun h6 => ?_)
      refine x_iconst C (0 : Int32) (by decide) dX9_setCondition_38 ?_
      exact x_zret C false rfl hr hlk dX9_setCondition_39 ⟨_, rfl, fun h => absurd h (by simp [qSet, h1, h2]), fun _ => by simp [qSet, h1, h2]; rfl⟩
  · refine x_iconst C (1 : Int32) (by decide) dX9_setCondition_10 ?_
    refine x_goto C 28 dX9_setCondition_11 rfl ?_
    refine x_puti (ty := .int) C sh_87 rfl iX9 0 (by decide) f71 (fun _ h => h) (by decide) rfl (by decide +kernel) (by decide +kernel) (by decide) rfl tyX9 tyX9_ok nmX9 (by decide +kernel) rfl rfl dX9_setCondition_28 ?_
    refine x_aload_n C dX9_setCondition_31 rfl 0 rfl ?_
    refine x_geti C sh_87 rfl iX9 0 (by decide) f71 (fun _ h => h) (by decide) rfl dX9_setCondition_32 ?_
    refine x_v (y := (1 : Int32)) (xw_at _ _ _ _) ?_
    refine x_if_eq C 40 dX9_setCondition_35 rfl (fun h7 => absurd h7 (by decide)) (fun h7 => ?_)
    refine x_iconst C (0 : Int32) (by decide) dX9_setCondition_38 ?_
    exact x_zret C false rfl hr hlk dX9_setCondition_39 ⟨_, rfl, fun h => absurd h (by simp [qSet, h1]), fun _ => by simp [qSet, h1]; rfl⟩

set_option maxHeartbeats 4000000 in
set_option maxRecDepth 100000 in
theorem c_X9_isBelow (l : Launch) (V : xV) (hV : xInj V) (σ : xS) (a b c1 : Int32) (hM : mV σ) : xM l yX9_isBelow wsX9_isBelow ({ frames := 5, cells := 0, slots := 0, locals := 118 }) V [ra V 87, .int a, .int b, .int c1] σ (rCZ (qBel σ a b c1) (mBe (t0 σ) a b c1) (t0 σ) σ) := by
  refine xM_of (cc := cX9_isBelow) (maxL := 4) (ret := (some .boolean)) [(0, ra V 87), (1, .int a), (2, .int b), (3, .int c1)] hV (by decide) rfl rfl (Nat.le_of_ble_eq_true rfl) (fun p e s m args below meth c C hr hlk => ?_)
  have iX9 : ∀ w ∈ u_ws RX9 TX9 24, w ∈ wsX9_isBelow := by decide +kernel
  have f71 : (Cond.fieldLink RX9 71 RX9 (TX9 0).2.1 (TX9 0).2.2.1).before args s = true := C.2.2.2.2.1 _ (by decide +kernel)
  refine x_aload_n C dX9_isBelow_0 rfl 0 rfl ?_
  refine x_aload_n C dX9_isBelow_1 rfl 0 rfl ?_
  refine x_iconst C (0 : Int32) (by decide) dX9_isBelow_2 ?_
  refine x_iload_n C dX9_isBelow_3 rfl 1 rfl ?_
  refine x_callV C sh_87 (by decide) rfl [.int (0 : Int32), .int a] (c_X9_isElement l V hV σ (0 : Int32) a) (cwV 2 C.2.2.2.2.1 gX9_isBelow_X9_isElement rfl rfl rfl (by decide +kernel) ⟨Nat.le_of_ble_eq_true rfl, Nat.le_of_ble_eq_true rfl⟩) rfl rfl (Nat.le_of_ble_eq_true rfl) dX9_isBelow_4 ⟨Nat.le_of_ble_eq_true rfl, Nat.le_of_ble_eq_true rfl⟩ (x_kI ?_)
  refine x_bif_eq C 19 dX9_isBelow_7 rfl (fun h1 => ?_) (fun h1 => ?_)
  · refine x_iconst C (1 : Int32) (by decide) dX9_isBelow_19 ?_
    refine x_goto C 36 dX9_isBelow_20 rfl ?_
    refine x_puti (ty := .int) C sh_87 rfl iX9 0 (by decide) f71 (fun _ h => h) (by decide) rfl (by decide +kernel) (by decide +kernel) (by decide) rfl tyX9 tyX9_ok nmX9 (by decide +kernel) rfl rfl dX9_isBelow_36 ?_
    refine x_aload_n C dX9_isBelow_39 rfl 0 rfl ?_
    refine x_geti C sh_87 rfl iX9 0 (by decide) f71 (fun _ h => h) (by decide) rfl dX9_isBelow_40 ?_
    refine x_v (y := (1 : Int32)) (xw_at _ _ _ _) ?_
    refine x_if_ne C 60 dX9_isBelow_43 rfl (fun h2 => ?_) (fun h2 => absurd h2 (by decide))
    refine x_iconst C (0 : Int32) (by decide) dX9_isBelow_60 ?_
    exact x_zret C false rfl hr hlk dX9_isBelow_61 ⟨_, rfl, fun h => absurd h (by simp [qBel, h1]), fun _ => by simp [qBel, h1]; rfl⟩
  · refine x_aload_n C dX9_isBelow_10 rfl 0 rfl ?_
    refine x_iconst C (0 : Int32) (by decide) dX9_isBelow_11 ?_
    refine x_iload_n C dX9_isBelow_12 rfl 2 rfl ?_
    refine x_callV C sh_87 (by decide) rfl [.int (0 : Int32), .int b] (c_X9_isElement l V hV σ (0 : Int32) b) (cwV 2 C.2.2.2.2.1 gX9_isBelow_X9_isElement rfl rfl rfl (by decide +kernel) ⟨Nat.le_of_ble_eq_true rfl, Nat.le_of_ble_eq_true rfl⟩) rfl rfl (Nat.le_of_ble_eq_true rfl) dX9_isBelow_13 ⟨Nat.le_of_ble_eq_true rfl, Nat.le_of_ble_eq_true rfl⟩ (x_kI ?_)
    refine x_bif_ne C 23 dX9_isBelow_16 rfl (fun h3 => ?_) (fun h3 => ?_)
    · refine x_aload_n C dX9_isBelow_23 rfl 0 rfl ?_
      refine x_iload_n C dX9_isBelow_24 rfl 3 rfl ?_
      refine x_callV C sh_87 (by decide) rfl [.int c1] (c_X9_isProduct l V hV σ c1 hM) (cwV 1 C.2.2.2.2.1 gX9_isBelow_X9_isProduct rfl rfl rfl (by decide +kernel) ⟨Nat.le_of_ble_eq_true rfl, Nat.le_of_ble_eq_true rfl⟩) rfl rfl (Nat.le_of_ble_eq_true rfl) dX9_isBelow_25 ⟨Nat.le_of_ble_eq_true rfl, Nat.le_of_ble_eq_true rfl⟩ (x_kI ?_)
      refine x_bif_ne C 35 dX9_isBelow_28 rfl (fun h4 => ?_) (fun h4 => ?_)
      · refine x_iconst C (0 : Int32) (by decide) dX9_isBelow_35 ?_
        refine x_puti (ty := .int) C sh_87 rfl iX9 0 (by decide) f71 (fun _ h => h) (by decide) rfl (by decide +kernel) (by decide +kernel) (by decide) rfl tyX9 tyX9_ok nmX9 (by decide +kernel) rfl rfl dX9_isBelow_36 ?_
        refine x_aload_n C dX9_isBelow_39 rfl 0 rfl ?_
        refine x_geti C sh_87 rfl iX9 0 (by decide) f71 (fun _ h => h) (by decide) rfl dX9_isBelow_40 ?_
        refine x_v (y := (0 : Int32)) (xw_at _ _ _ _) ?_
        have hMt := t0_V hM
        refine x_s (σ' := t0 σ) rfl ?_
        refine x_if_ne C 60 dX9_isBelow_43 rfl (fun h5 => absurd h5 (by decide)) (fun h5 => ?_)
        refine x_aload_n C dX9_isBelow_46 rfl 0 rfl ?_
        refine x_iload_n C dX9_isBelow_47 rfl 1 rfl ?_
        refine x_iload_n C dX9_isBelow_48 rfl 2 rfl ?_
        refine x_iload_n C dX9_isBelow_49 rfl 3 rfl ?_
        refine x_callV C sh_87 (by decide) rfl [.int a, .int b, .int c1] (c_X9_below l V hV (t0 σ) a b c1 hMt) (cwV 3 C.2.2.2.2.1 gX9_isBelow_X9_below rfl rfl rfl (by decide +kernel) ⟨Nat.le_of_ble_eq_true rfl, Nat.le_of_ble_eq_true rfl⟩) rfl rfl (Nat.le_of_ble_eq_true rfl) dX9_isBelow_50 ⟨Nat.le_of_ble_eq_true rfl, Nat.le_of_ble_eq_true rfl⟩ (x_kI ?_)
        refine x_bif_eq C 60 dX9_isBelow_53 rfl (fun h6 => ?_) (fun h6 => ?_)
        · refine x_iconst C (0 : Int32) (by decide) dX9_isBelow_60 ?_
          exact x_zret C false rfl hr hlk dX9_isBelow_61 ⟨_, rfl, fun _ => ⟨by simp [h6], rfl⟩, fun h => absurd (by simp [qBel, h1, h3, h4]) h⟩
        · refine x_iconst C (1 : Int32) (by decide) dX9_isBelow_56 ?_
          refine x_goto C 61 dX9_isBelow_57 rfl ?_
          exact x_zret C true rfl hr hlk dX9_isBelow_61 ⟨_, rfl, fun _ => ⟨by simp [h6], rfl⟩, fun h => absurd (by simp [qBel, h1, h3, h4]) h⟩
      · refine x_iconst C (2 : Int32) (by decide) dX9_isBelow_31 ?_
        refine x_goto C 36 dX9_isBelow_32 rfl ?_
        refine x_puti (ty := .int) C sh_87 rfl iX9 0 (by decide) f71 (fun _ h => h) (by decide) rfl (by decide +kernel) (by decide +kernel) (by decide) rfl tyX9 tyX9_ok nmX9 (by decide +kernel) rfl rfl dX9_isBelow_36 ?_
        refine x_aload_n C dX9_isBelow_39 rfl 0 rfl ?_
        refine x_geti C sh_87 rfl iX9 0 (by decide) f71 (fun _ h => h) (by decide) rfl dX9_isBelow_40 ?_
        refine x_v (y := (2 : Int32)) (xw_at _ _ _ _) ?_
        refine x_if_ne C 60 dX9_isBelow_43 rfl (fun h7 => ?_) (fun h7 => absurd h7 (by decide))
        refine x_iconst C (0 : Int32) (by decide) dX9_isBelow_60 ?_
        exact x_zret C false rfl hr hlk dX9_isBelow_61 ⟨_, rfl, fun h => absurd h (by simp [qBel, h1, h3, h4]), fun _ => by simp [qBel, h1, h3, h4]; rfl⟩
    · refine x_iconst C (1 : Int32) (by decide) dX9_isBelow_19 ?_
      refine x_goto C 36 dX9_isBelow_20 rfl ?_
      refine x_puti (ty := .int) C sh_87 rfl iX9 0 (by decide) f71 (fun _ h => h) (by decide) rfl (by decide +kernel) (by decide +kernel) (by decide) rfl tyX9 tyX9_ok nmX9 (by decide +kernel) rfl rfl dX9_isBelow_36 ?_
      refine x_aload_n C dX9_isBelow_39 rfl 0 rfl ?_
      refine x_geti C sh_87 rfl iX9 0 (by decide) f71 (fun _ h => h) (by decide) rfl dX9_isBelow_40 ?_
      refine x_v (y := (1 : Int32)) (xw_at _ _ _ _) ?_
      refine x_if_ne C 60 dX9_isBelow_43 rfl (fun h8 => ?_) (fun h8 => absurd h8 (by decide))
      refine x_iconst C (0 : Int32) (by decide) dX9_isBelow_60 ?_
      exact x_zret C false rfl hr hlk dX9_isBelow_61 ⟨_, rfl, fun h => absurd h (by simp [qBel, h1, h3]), fun _ => by simp [qBel, h1, h3]; rfl⟩

set_option maxHeartbeats 4000000 in
set_option maxRecDepth 100000 in
theorem c_X9_parent (l : Launch) (V : xV) (hV : xInj V) (σ : xS) (o c1 : Int32) (hM : mV σ) : xM l yX9_parent wsX9_parent ({ frames := 4, cells := 0, slots := 0, locals := 93 }) V [ra V 87, .int o, .int c1] σ (rC (qPar σ o c1) (mPa (t0 σ) o c1) (t0 σ) (t0 σ)) := by
  refine xM_of (cc := cX9_parent) (maxL := 3) (ret := (some .int)) [(0, ra V 87), (1, .int o), (2, .int c1)] hV (by decide) rfl rfl (Nat.le_of_ble_eq_true rfl) (fun p e s m args below meth c C hr hlk => ?_)
  have iX9 : ∀ w ∈ u_ws RX9 TX9 24, w ∈ wsX9_parent := by decide +kernel
  have f71 : (Cond.fieldLink RX9 71 RX9 (TX9 0).2.1 (TX9 0).2.2.1).before args s = true := C.2.2.2.2.1 _ (by decide +kernel)
  refine x_aload_n C dX9_parent_0 rfl 0 rfl ?_
  refine x_iconst C (0 : Int32) (by decide) dX9_parent_1 ?_
  refine x_puti (ty := .int) C sh_87 rfl iX9 0 (by decide) f71 (fun _ h => h) (by decide) rfl (by decide +kernel) (by decide +kernel) (by decide) rfl tyX9 tyX9_ok nmX9 (by decide +kernel) rfl rfl dX9_parent_2 ?_
  have hMt := t0_V hM
  refine x_s (σ' := t0 σ) rfl ?_
  refine x_aload_n C dX9_parent_5 rfl 0 rfl ?_
  refine x_iconst C (0 : Int32) (by decide) dX9_parent_6 ?_
  refine x_iload_n C dX9_parent_7 rfl 1 rfl ?_
  refine x_callV C sh_87 (by decide) rfl [.int (0 : Int32), .int o] (c_X9_isElement l V hV (t0 σ) (0 : Int32) o) (cwV 2 C.2.2.2.2.1 gX9_parent_X9_isElement rfl rfl rfl (by decide +kernel) ⟨Nat.le_of_ble_eq_true rfl, Nat.le_of_ble_eq_true rfl⟩) rfl rfl (Nat.le_of_ble_eq_true rfl) dX9_parent_8 ⟨Nat.le_of_ble_eq_true rfl, Nat.le_of_ble_eq_true rfl⟩ (x_kI ?_)
  refine x_bif_ne C 20 dX9_parent_11 rfl (fun h1 => ?_) (fun h1 => ?_)
  · refine x_aload_n C dX9_parent_20 rfl 0 rfl ?_
    refine x_iload_n C dX9_parent_21 rfl 2 rfl ?_
    refine x_callV C sh_87 (by decide) rfl [.int c1] (c_X9_isProduct l V hV (t0 σ) c1 hMt) (cwV 1 C.2.2.2.2.1 gX9_parent_X9_isProduct rfl rfl rfl (by decide +kernel) ⟨Nat.le_of_ble_eq_true rfl, Nat.le_of_ble_eq_true rfl⟩) rfl rfl (Nat.le_of_ble_eq_true rfl) dX9_parent_22 ⟨Nat.le_of_ble_eq_true rfl, Nat.le_of_ble_eq_true rfl⟩ (x_kI ?_)
    refine x_bif_eq C 37 dX9_parent_25 rfl (fun h2 => ?_) (fun h2 => ?_)
    · refine x_aload_n C dX9_parent_37 rfl 0 rfl ?_
      refine x_iconst C (2 : Int32) (by decide) dX9_parent_38 ?_
      refine x_callV C sh_87 (by decide) rfl [.int (2 : Int32)] (c_X9_no l V hV (t0 σ) (2 : Int32)) (cwV 1 C.2.2.2.2.1 gX9_parent_X9_no rfl rfl rfl (by decide +kernel) ⟨Nat.le_of_ble_eq_true rfl, Nat.le_of_ble_eq_true rfl⟩) rfl rfl (Nat.le_of_ble_eq_true rfl) dX9_parent_39 ⟨Nat.le_of_ble_eq_true rfl, Nat.le_of_ble_eq_true rfl⟩ (x_kI ?_)
      exact x_iret C hr hlk dX9_parent_42 ⟨_, rfl, fun h => absurd h (by simp [qPar, h1, h2]), fun _ => by simp [qPar, h1, h2]; rfl⟩
    · refine x_aload_n C dX9_parent_28 rfl 0 rfl ?_
      refine x_iload_n C dX9_parent_29 rfl 1 rfl ?_
      refine x_iload_n C dX9_parent_30 rfl 2 rfl ?_
      refine x_callV C sh_87 (by decide) rfl [.int o, .int c1] (c_X9_parentOf l V hV (t0 σ) o c1 hMt) (cwV 2 C.2.2.2.2.1 gX9_parent_X9_parentOf rfl rfl rfl (by decide +kernel) ⟨Nat.le_of_ble_eq_true rfl, Nat.le_of_ble_eq_true rfl⟩) rfl rfl (Nat.le_of_ble_eq_true rfl) dX9_parent_31 ⟨Nat.le_of_ble_eq_true rfl, Nat.le_of_ble_eq_true rfl⟩ (x_kI ?_)
      refine x_goto C 42 dX9_parent_34 rfl ?_
      exact x_iret C hr hlk dX9_parent_42 ⟨_, rfl, fun _ => ⟨by simp [xw_ne, xw_at, cl0, cl1, cl2, cl3], by simp [xw_ne, xw_at, cl0, cl1, cl2, cl3]⟩, fun h => absurd (by simp [qPar, h1, h2]) h⟩
  · refine x_aload_n C dX9_parent_14 rfl 0 rfl ?_
    refine x_iconst C (1 : Int32) (by decide) dX9_parent_15 ?_
    refine x_callV C sh_87 (by decide) rfl [.int (1 : Int32)] (c_X9_no l V hV (t0 σ) (1 : Int32)) (cwV 1 C.2.2.2.2.1 gX9_parent_X9_no rfl rfl rfl (by decide +kernel) ⟨Nat.le_of_ble_eq_true rfl, Nat.le_of_ble_eq_true rfl⟩) rfl rfl (Nat.le_of_ble_eq_true rfl) dX9_parent_16 ⟨Nat.le_of_ble_eq_true rfl, Nat.le_of_ble_eq_true rfl⟩ (x_kI ?_)
    exact x_iret C hr hlk dX9_parent_19 ⟨_, rfl, fun h => absurd h (by simp [qPar, h1]), fun _ => by simp [qPar, h1]; rfl⟩

set_option maxHeartbeats 4000000 in
set_option maxRecDepth 100000 in
theorem c_X9_find (l : Launch) (V : xV) (hV : xInj V) (σ : xS) (o n : Int32) (b : Bool) (c1 : Int32) (hM : mV σ) : xM l yX9_find wsX9_find ({ frames := 5, cells := 0, slots := 0, locals := 120 }) V [ra V 87, .int o, .int n, .int (bI b), .int c1] σ (rC (qFind σ o n c1) (mFi (t0 σ) o n (bI b) c1) (t0 σ) (t0 σ)) := by
  refine xM_of (cc := cX9_find) (maxL := 5) (ret := (some .int)) [(0, ra V 87), (1, .int o), (2, .int n), (3, .int (bI b)), (4, .int c1)] hV (by decide) rfl rfl (Nat.le_of_ble_eq_true rfl) (fun p e s m args below meth c C hr hlk => ?_)
  have iX9 : ∀ w ∈ u_ws RX9 TX9 24, w ∈ wsX9_find := by decide +kernel
  have f71 : (Cond.fieldLink RX9 71 RX9 (TX9 0).2.1 (TX9 0).2.2.1).before args s = true := C.2.2.2.2.1 _ (by decide +kernel)
  refine x_aload_n C dX9_find_0 rfl 0 rfl ?_
  refine x_iconst C (0 : Int32) (by decide) dX9_find_1 ?_
  refine x_puti (ty := .int) C sh_87 rfl iX9 0 (by decide) f71 (fun _ h => h) (by decide) rfl (by decide +kernel) (by decide +kernel) (by decide) rfl tyX9 tyX9_ok nmX9 (by decide +kernel) rfl rfl dX9_find_2 ?_
  have hMt := t0_V hM
  refine x_s (σ' := t0 σ) rfl ?_
  refine x_aload_n C dX9_find_5 rfl 0 rfl ?_
  refine x_iconst C (0 : Int32) (by decide) dX9_find_6 ?_
  refine x_iload_n C dX9_find_7 rfl 1 rfl ?_
  refine x_callV C sh_87 (by decide) rfl [.int (0 : Int32), .int o] (c_X9_isElement l V hV (t0 σ) (0 : Int32) o) (cwV 2 C.2.2.2.2.1 gX9_find_X9_isElement rfl rfl rfl (by decide +kernel) ⟨Nat.le_of_ble_eq_true rfl, Nat.le_of_ble_eq_true rfl⟩) rfl rfl (Nat.le_of_ble_eq_true rfl) dX9_find_8 ⟨Nat.le_of_ble_eq_true rfl, Nat.le_of_ble_eq_true rfl⟩ (x_kI ?_)
  refine x_bif_ne C 20 dX9_find_11 rfl (fun h1 => ?_) (fun h1 => ?_)
  · refine x_iload_n C dX9_find_20 rfl 2 rfl ?_
    refine x_callS C [.int n] (c_X9_isName l V hV (t0 σ) n) (va_cwS 1 C.2.2.2.2.1 gX9_find_X9_isName rfl rfl rfl (by decide +kernel) ⟨Nat.le_of_ble_eq_true rfl, Nat.le_of_ble_eq_true rfl⟩) rfl rfl (Nat.le_of_ble_eq_true rfl) dX9_find_21 ⟨Nat.le_of_ble_eq_true rfl, Nat.le_of_ble_eq_true rfl⟩ (x_kI ?_)
    refine x_bif_eq C 48 dX9_find_24 rfl (fun h2 => ?_) (fun h2 => ?_)
    · refine x_aload_n C dX9_find_48 rfl 0 rfl ?_
      refine x_iconst C (2 : Int32) (by decide) dX9_find_49 ?_
      refine x_callV C sh_87 (by decide) rfl [.int (2 : Int32)] (c_X9_no l V hV (t0 σ) (2 : Int32)) (cwV 1 C.2.2.2.2.1 gX9_find_X9_no rfl rfl rfl (by decide +kernel) ⟨Nat.le_of_ble_eq_true rfl, Nat.le_of_ble_eq_true rfl⟩) rfl rfl (Nat.le_of_ble_eq_true rfl) dX9_find_50 ⟨Nat.le_of_ble_eq_true rfl, Nat.le_of_ble_eq_true rfl⟩ (x_kI ?_)
      exact x_iret C hr hlk dX9_find_53 ⟨_, rfl, fun h => absurd h (by simp [qFind, h1, h2]), fun _ => by simp [qFind, h1, h2]; rfl⟩
    · refine x_aload_n C dX9_find_27 rfl 0 rfl ?_
      refine x_iload C dX9_find_28 4 rfl ?_
      refine x_callV C sh_87 (by decide) rfl [.int c1] (c_X9_isProduct l V hV (t0 σ) c1 hMt) (cwV 1 C.2.2.2.2.1 gX9_find_X9_isProduct rfl rfl rfl (by decide +kernel) ⟨Nat.le_of_ble_eq_true rfl, Nat.le_of_ble_eq_true rfl⟩) rfl rfl (Nat.le_of_ble_eq_true rfl) dX9_find_30 ⟨Nat.le_of_ble_eq_true rfl, Nat.le_of_ble_eq_true rfl⟩ (x_kI ?_)
      refine x_bif_eq C 48 dX9_find_33 rfl (fun h3 => ?_) (fun h3 => ?_)
      · refine x_aload_n C dX9_find_48 rfl 0 rfl ?_
        refine x_iconst C (2 : Int32) (by decide) dX9_find_49 ?_
        refine x_callV C sh_87 (by decide) rfl [.int (2 : Int32)] (c_X9_no l V hV (t0 σ) (2 : Int32)) (cwV 1 C.2.2.2.2.1 gX9_find_X9_no rfl rfl rfl (by decide +kernel) ⟨Nat.le_of_ble_eq_true rfl, Nat.le_of_ble_eq_true rfl⟩) rfl rfl (Nat.le_of_ble_eq_true rfl) dX9_find_50 ⟨Nat.le_of_ble_eq_true rfl, Nat.le_of_ble_eq_true rfl⟩ (x_kI ?_)
        exact x_iret C hr hlk dX9_find_53 ⟨_, rfl, fun h => absurd h (by simp [qFind, h1, h2, h3]), fun _ => by simp [qFind, h1, h2, h3]; rfl⟩
      · refine x_aload_n C dX9_find_36 rfl 0 rfl ?_
        refine x_iload_n C dX9_find_37 rfl 1 rfl ?_
        refine x_iload_n C dX9_find_38 rfl 2 rfl ?_
        refine x_iload_n C dX9_find_39 rfl 3 rfl ?_
        refine x_iload C dX9_find_40 4 rfl ?_
        refine x_callV C sh_87 (by decide) rfl [.int o, .int n, .int (bI b), .int c1] (c_X9_findMember l V hV (t0 σ) o n (bI b) c1 hMt) (cwV 4 C.2.2.2.2.1 gX9_find_X9_findMember rfl rfl rfl (by decide +kernel) ⟨Nat.le_of_ble_eq_true rfl, Nat.le_of_ble_eq_true rfl⟩) rfl rfl (Nat.le_of_ble_eq_true rfl) dX9_find_42 ⟨Nat.le_of_ble_eq_true rfl, Nat.le_of_ble_eq_true rfl⟩ (x_kI ?_)
        refine x_goto C 53 dX9_find_45 rfl ?_
        exact x_iret C hr hlk dX9_find_53 ⟨_, rfl, fun _ => ⟨by simp [xw_ne, xw_at, cl0, cl1, cl2, cl3], by simp [xw_ne, xw_at, cl0, cl1, cl2, cl3]⟩, fun h => absurd (by simp [qFind, h1, h2, h3]) h⟩
  · refine x_aload_n C dX9_find_14 rfl 0 rfl ?_
    refine x_iconst C (1 : Int32) (by decide) dX9_find_15 ?_
    refine x_callV C sh_87 (by decide) rfl [.int (1 : Int32)] (c_X9_no l V hV (t0 σ) (1 : Int32)) (cwV 1 C.2.2.2.2.1 gX9_find_X9_no rfl rfl rfl (by decide +kernel) ⟨Nat.le_of_ble_eq_true rfl, Nat.le_of_ble_eq_true rfl⟩) rfl rfl (Nat.le_of_ble_eq_true rfl) dX9_find_16 ⟨Nat.le_of_ble_eq_true rfl, Nat.le_of_ble_eq_true rfl⟩ (x_kI ?_)
    exact x_iret C hr hlk dX9_find_19 ⟨_, rfl, fun h => absurd h (by simp [qFind, h1]), fun _ => by simp [qFind, h1]; rfl⟩

set_option maxHeartbeats 4000000 in
set_option maxRecDepth 100000 in
theorem c_X9_typeOf (l : Launch) (V : xV) (hV : xInj V) (σ : xS) (x c1 : Int32) (hM : mV σ) : xM l yX9_typeOf wsX9_typeOf ({ frames := 9, cells := 0, slots := 0, locals := 217 }) V [ra V 87, .int x, .int c1] σ (rC (qTyp σ x c1) (mTI (mKn (t0 σ)) x c1) (mKn (t0 σ)) (t0 σ)) := by
  refine xM_of (cc := cX9_typeOf) (maxL := 3) (ret := (some .int)) [(0, ra V 87), (1, .int x), (2, .int c1)] hV (by decide) rfl rfl (Nat.le_of_ble_eq_true rfl) (fun p e s m args below meth c C hr hlk => ?_)
  have iX9 : ∀ w ∈ u_ws RX9 TX9 24, w ∈ wsX9_typeOf := by decide +kernel
  have f71 : (Cond.fieldLink RX9 71 RX9 (TX9 0).2.1 (TX9 0).2.2.1).before args s = true := C.2.2.2.2.1 _ (by decide +kernel)
  refine x_aload_n C dX9_typeOf_0 rfl 0 rfl ?_
  refine x_iconst C (0 : Int32) (by decide) dX9_typeOf_1 ?_
  refine x_puti (ty := .int) C sh_87 rfl iX9 0 (by decide) f71 (fun _ h => h) (by decide) rfl (by decide +kernel) (by decide +kernel) (by decide) rfl tyX9 tyX9_ok nmX9 (by decide +kernel) rfl rfl dX9_typeOf_2 ?_
  have hMt := t0_V hM
  refine x_s (σ' := t0 σ) rfl ?_
  refine x_aload_n C dX9_typeOf_5 rfl 0 rfl ?_
  refine x_iload_n C dX9_typeOf_6 rfl 1 rfl ?_
  refine x_callV C sh_87 (by decide) rfl [.int x] (c_X9_isExpression l V hV (t0 σ) x) (cwV 1 C.2.2.2.2.1 gX9_typeOf_X9_isExpression rfl rfl rfl (by decide +kernel) ⟨Nat.le_of_ble_eq_true rfl, Nat.le_of_ble_eq_true rfl⟩) rfl rfl (Nat.le_of_ble_eq_true rfl) dX9_typeOf_7 ⟨Nat.le_of_ble_eq_true rfl, Nat.le_of_ble_eq_true rfl⟩ (x_kI ?_)
  refine x_bif_ne C 19 dX9_typeOf_10 rfl (fun h1 => ?_) (fun h1 => ?_)
  · refine x_aload_n C dX9_typeOf_19 rfl 0 rfl ?_
    refine x_iload_n C dX9_typeOf_20 rfl 2 rfl ?_
    refine x_callV C sh_87 (by decide) rfl [.int c1] (c_X9_isProduct l V hV (t0 σ) c1 hMt) (cwV 1 C.2.2.2.2.1 gX9_typeOf_X9_isProduct rfl rfl rfl (by decide +kernel) ⟨Nat.le_of_ble_eq_true rfl, Nat.le_of_ble_eq_true rfl⟩) rfl rfl (Nat.le_of_ble_eq_true rfl) dX9_typeOf_21 ⟨Nat.le_of_ble_eq_true rfl, Nat.le_of_ble_eq_true rfl⟩ (x_kI ?_)
    refine x_bif_ne C 33 dX9_typeOf_24 rfl (fun h2 => ?_) (fun h2 => ?_)
    · refine x_aload_n C dX9_typeOf_33 rfl 0 rfl ?_
      refine x_callV C sh_87 (by decide) rfl [] (c_X9_know l V hV (t0 σ)  hMt) (cwV 0 C.2.2.2.2.1 gX9_typeOf_X9_know rfl rfl rfl (by decide +kernel) ⟨Nat.le_of_ble_eq_true rfl, Nat.le_of_ble_eq_true rfl⟩) rfl rfl (Nat.le_of_ble_eq_true rfl) dX9_typeOf_34 ⟨Nat.le_of_ble_eq_true rfl, Nat.le_of_ble_eq_true rfl⟩ (x_kV ?_)
      refine x_aload_n C dX9_typeOf_37 rfl 0 rfl ?_
      refine x_iload_n C dX9_typeOf_38 rfl 1 rfl ?_
      refine x_iload_n C dX9_typeOf_39 rfl 2 rfl ?_
      refine x_callV C sh_87 (by decide) rfl [.int x, .int c1] (c_X9_typeIn l V hV (mKn (t0 σ)) x c1 (mExp_vp hMt h1) (mPr_in h2)) (cwV 2 C.2.2.2.2.1 gX9_typeOf_X9_typeIn rfl rfl rfl (by decide +kernel) ⟨Nat.le_of_ble_eq_true rfl, Nat.le_of_ble_eq_true rfl⟩) rfl rfl (Nat.le_of_ble_eq_true rfl) dX9_typeOf_40 ⟨Nat.le_of_ble_eq_true rfl, Nat.le_of_ble_eq_true rfl⟩ (x_kI ?_)
      exact x_iret C hr hlk dX9_typeOf_43 ⟨_, rfl, fun _ => ⟨by simp [xw_ne, xw_at, cl0, cl1, cl2, cl3], by simp [xw_ne, xw_at, cl0, cl1, cl2, cl3]⟩, fun h => absurd (by simp [qTyp, h1, h2]) h⟩
    · refine x_aload_n C dX9_typeOf_27 rfl 0 rfl ?_
      refine x_iconst C (2 : Int32) (by decide) dX9_typeOf_28 ?_
      refine x_callV C sh_87 (by decide) rfl [.int (2 : Int32)] (c_X9_no l V hV (t0 σ) (2 : Int32)) (cwV 1 C.2.2.2.2.1 gX9_typeOf_X9_no rfl rfl rfl (by decide +kernel) ⟨Nat.le_of_ble_eq_true rfl, Nat.le_of_ble_eq_true rfl⟩) rfl rfl (Nat.le_of_ble_eq_true rfl) dX9_typeOf_29 ⟨Nat.le_of_ble_eq_true rfl, Nat.le_of_ble_eq_true rfl⟩ (x_kI ?_)
      exact x_iret C hr hlk dX9_typeOf_32 ⟨_, rfl, fun h => absurd h (by simp [qTyp, h1, h2]), fun _ => by simp [qTyp, h1, h2]; rfl⟩
  · refine x_aload_n C dX9_typeOf_13 rfl 0 rfl ?_
    refine x_iconst C (1 : Int32) (by decide) dX9_typeOf_14 ?_
    refine x_callV C sh_87 (by decide) rfl [.int (1 : Int32)] (c_X9_no l V hV (t0 σ) (1 : Int32)) (cwV 1 C.2.2.2.2.1 gX9_typeOf_X9_no rfl rfl rfl (by decide +kernel) ⟨Nat.le_of_ble_eq_true rfl, Nat.le_of_ble_eq_true rfl⟩) rfl rfl (Nat.le_of_ble_eq_true rfl) dX9_typeOf_15 ⟨Nat.le_of_ble_eq_true rfl, Nat.le_of_ble_eq_true rfl⟩ (x_kI ?_)
    exact x_iret C hr hlk dX9_typeOf_18 ⟨_, rfl, fun h => absurd h (by simp [qTyp, h1]), fun _ => by simp [qTyp, h1]; rfl⟩

set_option maxHeartbeats 4000000 in
set_option maxRecDepth 100000 in
theorem c_X9_presence (l : Launch) (V : xV) (hV : xInj V) (σ : xS) (s1 i : Int32) (hM : mV σ) : xM l yX9_presence wsX9_presence ({ frames := 4, cells := 0, slots := 0, locals := 94 }) V [ra V 87, .int s1, .int i] σ (rC (qPres σ s1 i) (mPres (t0 σ) s1 i) (t0 σ) (t0 σ)) := by
  refine xM_of (cc := cX9_presence) (maxL := 3) (ret := (some .int)) [(0, ra V 87), (1, .int s1), (2, .int i)] hV (by decide) rfl rfl (Nat.le_of_ble_eq_true rfl) (fun p e s m args below meth c C hr hlk => ?_)
  have iX9 : ∀ w ∈ u_ws RX9 TX9 24, w ∈ wsX9_presence := by decide +kernel
  have f71 : (Cond.fieldLink RX9 71 RX9 (TX9 0).2.1 (TX9 0).2.2.1).before args s = true := C.2.2.2.2.1 _ (by decide +kernel)
  refine x_aload_n C dX9_presence_0 rfl 0 rfl ?_
  refine x_iconst C (0 : Int32) (by decide) dX9_presence_1 ?_
  refine x_puti (ty := .int) C sh_87 rfl iX9 0 (by decide) f71 (fun _ h => h) (by decide) rfl (by decide +kernel) (by decide +kernel) (by decide) rfl tyX9 tyX9_ok nmX9 (by decide +kernel) rfl rfl dX9_presence_2 ?_
  have hMt := t0_V hM
  refine x_s (σ' := t0 σ) rfl ?_
  refine x_aload_n C dX9_presence_5 rfl 0 rfl ?_
  refine x_iload_n C dX9_presence_6 rfl 1 rfl ?_
  refine x_iload_n C dX9_presence_7 rfl 2 rfl ?_
  refine x_callV C sh_87 (by decide) rfl [.int s1, .int i] (c_X9_isElement l V hV (t0 σ) s1 i) (cwV 2 C.2.2.2.2.1 gX9_presence_X9_isElement rfl rfl rfl (by decide +kernel) ⟨Nat.le_of_ble_eq_true rfl, Nat.le_of_ble_eq_true rfl⟩) rfl rfl (Nat.le_of_ble_eq_true rfl) dX9_presence_8 ⟨Nat.le_of_ble_eq_true rfl, Nat.le_of_ble_eq_true rfl⟩ (x_kI ?_)
  refine x_bif_eq C 23 dX9_presence_11 rfl (fun h1 => ?_) (fun h1 => ?_)
  · refine x_aload_n C dX9_presence_23 rfl 0 rfl ?_
    refine x_iconst C (1 : Int32) (by decide) dX9_presence_24 ?_
    refine x_callV C sh_87 (by decide) rfl [.int (1 : Int32)] (c_X9_no l V hV (t0 σ) (1 : Int32)) (cwV 1 C.2.2.2.2.1 gX9_presence_X9_no rfl rfl rfl (by decide +kernel) ⟨Nat.le_of_ble_eq_true rfl, Nat.le_of_ble_eq_true rfl⟩) rfl rfl (Nat.le_of_ble_eq_true rfl) dX9_presence_25 ⟨Nat.le_of_ble_eq_true rfl, Nat.le_of_ble_eq_true rfl⟩ (x_kI ?_)
    exact x_iret C hr hlk dX9_presence_28 ⟨_, rfl, fun h => absurd h (by simp [qPres, h1]), fun _ => by simp [qPres, h1]; rfl⟩
  · have hs4 := mEl_s h1
    rcases sortc hs4 with rfl | rfl | rfl | rfl
    · refine x_aload_n C dX9_presence_14 rfl 0 rfl ?_
      refine x_iload_n C dX9_presence_15 rfl 1 rfl ?_
      refine x_iload_n C dX9_presence_16 rfl 2 rfl ?_
      refine x_callV C sh_87 (by decide) rfl [.int (0 : Int32), .int i] (c_X9_presenceOf_0 l V hV (t0 σ) i hMt (vp_le (mEl_vp (mvc0 hMt) (by decide) h1) (by decide))) (cwV 2 C.2.2.2.2.1 gX9_presence_X9_presenceOf rfl rfl rfl (by decide +kernel) ⟨Nat.le_of_ble_eq_true rfl, Nat.le_of_ble_eq_true rfl⟩) rfl rfl (Nat.le_of_ble_eq_true rfl) dX9_presence_17 ⟨Nat.le_of_ble_eq_true rfl, Nat.le_of_ble_eq_true rfl⟩ (x_kI ?_)
      refine x_goto C 28 dX9_presence_20 rfl ?_
      exact x_iret C hr hlk dX9_presence_28 ⟨_, rfl, fun _ => ⟨by simp [xw_ne, xw_at, cl0, cl1, cl2, cl3], by simp [xw_ne, xw_at, cl0, cl1, cl2, cl3]⟩, fun h => absurd (by simp [qPres, h1]) h⟩
    · refine x_aload_n C dX9_presence_14 rfl 0 rfl ?_
      refine x_iload_n C dX9_presence_15 rfl 1 rfl ?_
      refine x_iload_n C dX9_presence_16 rfl 2 rfl ?_
      refine x_callV C sh_87 (by decide) rfl [.int (1 : Int32), .int i] (c_X9_presenceOf_1 l V hV (t0 σ) i hMt (mEl_vp (mvc1 hMt) (by decide) h1)) (cwV 2 C.2.2.2.2.1 gX9_presence_X9_presenceOf rfl rfl rfl (by decide +kernel) ⟨Nat.le_of_ble_eq_true rfl, Nat.le_of_ble_eq_true rfl⟩) rfl rfl (Nat.le_of_ble_eq_true rfl) dX9_presence_17 ⟨Nat.le_of_ble_eq_true rfl, Nat.le_of_ble_eq_true rfl⟩ (x_kI ?_)
      refine x_goto C 28 dX9_presence_20 rfl ?_
      exact x_iret C hr hlk dX9_presence_28 ⟨_, rfl, fun _ => ⟨by simp [xw_ne, xw_at, cl0, cl1, cl2, cl3], by simp [xw_ne, xw_at, cl0, cl1, cl2, cl3]⟩, fun h => absurd (by simp [qPres, h1]) h⟩
    · refine x_aload_n C dX9_presence_14 rfl 0 rfl ?_
      refine x_iload_n C dX9_presence_15 rfl 1 rfl ?_
      refine x_iload_n C dX9_presence_16 rfl 2 rfl ?_
      refine x_callV C sh_87 (by decide) rfl [.int (2 : Int32), .int i] (c_X9_presenceOf_2 l V hV (t0 σ) i hMt (mEl_vp (mvc2 hMt) (by decide) h1)) (cwV 2 C.2.2.2.2.1 gX9_presence_X9_presenceOf rfl rfl rfl (by decide +kernel) ⟨Nat.le_of_ble_eq_true rfl, Nat.le_of_ble_eq_true rfl⟩) rfl rfl (Nat.le_of_ble_eq_true rfl) dX9_presence_17 ⟨Nat.le_of_ble_eq_true rfl, Nat.le_of_ble_eq_true rfl⟩ (x_kI ?_)
      refine x_goto C 28 dX9_presence_20 rfl ?_
      exact x_iret C hr hlk dX9_presence_28 ⟨_, rfl, fun _ => ⟨by simp [xw_ne, xw_at, cl0, cl1, cl2, cl3], by simp [xw_ne, xw_at, cl0, cl1, cl2, cl3]⟩, fun h => absurd (by simp [qPres, h1]) h⟩
    · refine x_aload_n C dX9_presence_14 rfl 0 rfl ?_
      refine x_iload_n C dX9_presence_15 rfl 1 rfl ?_
      refine x_iload_n C dX9_presence_16 rfl 2 rfl ?_
      refine x_callV C sh_87 (by decide) rfl [.int (3 : Int32), .int i] (c_X9_presenceOf_3 l V hV (t0 σ) i hMt (mEl_vp (mvc3 hMt) (by decide) h1)) (cwV 2 C.2.2.2.2.1 gX9_presence_X9_presenceOf rfl rfl rfl (by decide +kernel) ⟨Nat.le_of_ble_eq_true rfl, Nat.le_of_ble_eq_true rfl⟩) rfl rfl (Nat.le_of_ble_eq_true rfl) dX9_presence_17 ⟨Nat.le_of_ble_eq_true rfl, Nat.le_of_ble_eq_true rfl⟩ (x_kI ?_)
      refine x_goto C 28 dX9_presence_20 rfl ?_
      exact x_iret C hr hlk dX9_presence_28 ⟨_, rfl, fun _ => ⟨by simp [xw_ne, xw_at, cl0, cl1, cl2, cl3], by simp [xw_ne, xw_at, cl0, cl1, cl2, cl3]⟩, fun h => absurd (by simp [qPres, h1]) h⟩

set_option maxHeartbeats 4000000 in
set_option maxRecDepth 100000 in
theorem c_X9_errorsIn (l : Launch) (V : xV) (hV : xInj V) (σ : xS) (c1 : Int32) (hM : mV σ) : xM l yX9_errorsIn wsX9_errorsIn ({ frames := 9, cells := 0, slots := 0, locals := 217 }) V [ra V 87, .int c1] σ (rC (qEIn σ c1) (mEIN (mKn (t0 σ)) c1 650) (mKn (t0 σ)) (t0 σ)) := by
  refine xM_of (cc := cX9_errorsIn) (maxL := 4) (ret := (some .int)) [(0, ra V 87), (1, .int c1)] hV (by decide) rfl rfl (Nat.le_of_ble_eq_true rfl) (fun p e s m args below meth c C hr hlk => ?_)
  have iX9 : ∀ w ∈ u_ws RX9 TX9 24, w ∈ wsX9_errorsIn := by decide +kernel
  have f71 : (Cond.fieldLink RX9 71 RX9 (TX9 0).2.1 (TX9 0).2.2.1).before args s = true := C.2.2.2.2.1 _ (by decide +kernel)
  have f68 : (Cond.fieldLink RX9 68 RX9 (TX9 23).2.1 (TX9 23).2.2.1).before args s = true := C.2.2.2.2.1 _ (by decide +kernel)
  refine x_aload_n C dX9_errorsIn_0 rfl 0 rfl ?_
  refine x_iconst C (0 : Int32) (by decide) dX9_errorsIn_1 ?_
  refine x_puti (ty := .int) C sh_87 rfl iX9 0 (by decide) f71 (fun _ h => h) (by decide) rfl (by decide +kernel) (by decide +kernel) (by decide) rfl tyX9 tyX9_ok nmX9 (by decide +kernel) rfl rfl dX9_errorsIn_2 ?_
  have hMt := t0_V hM
  refine x_s (σ' := t0 σ) rfl ?_
  refine x_aload_n C dX9_errorsIn_5 rfl 0 rfl ?_
  refine x_iload_n C dX9_errorsIn_6 rfl 1 rfl ?_
  refine x_callV C sh_87 (by decide) rfl [.int c1] (c_X9_isProduct l V hV (t0 σ) c1 hMt) (cwV 1 C.2.2.2.2.1 gX9_errorsIn_X9_isProduct rfl rfl rfl (by decide +kernel) ⟨Nat.le_of_ble_eq_true rfl, Nat.le_of_ble_eq_true rfl⟩) rfl rfl (Nat.le_of_ble_eq_true rfl) dX9_errorsIn_7 ⟨Nat.le_of_ble_eq_true rfl, Nat.le_of_ble_eq_true rfl⟩ (x_kI ?_)
  refine x_bif_ne C 19 dX9_errorsIn_10 rfl (fun h1 => ?_) (fun h1 => ?_)
  · refine x_aload_n C dX9_errorsIn_19 rfl 0 rfl ?_
    refine x_callV C sh_87 (by decide) rfl [] (c_X9_know l V hV (t0 σ)  hMt) (cwV 0 C.2.2.2.2.1 gX9_errorsIn_X9_know rfl rfl rfl (by decide +kernel) ⟨Nat.le_of_ble_eq_true rfl, Nat.le_of_ble_eq_true rfl⟩) rfl rfl (Nat.le_of_ble_eq_true rfl) dX9_errorsIn_20 ⟨Nat.le_of_ble_eq_true rfl, Nat.le_of_ble_eq_true rfl⟩ (x_kV ?_)
    refine x_iconst C (0 : Int32) (by decide) dX9_errorsIn_23 ?_
    refine x_istore_n C [(2, .int (0 : Int32)), (0, ra V 87), (1, .int c1)] dX9_errorsIn_24 rfl (by decide) rfl ?_
    refine x_iconst C (0 : Int32) (by decide) dX9_errorsIn_25 ?_
    refine x_istore_n C [(3, .int (0 : Int32)), (2, .int (0 : Int32)), (0, ra V 87), (1, .int c1)] dX9_errorsIn_26 rfl (by decide) rfl ?_
    refine x_lv [2, 3, 1, 0] [(0, ra V 87), (1, .int c1), (2, .int (0 : Int32)), (3, .int (0 : Int32))] rfl ?_
    refine x_loop (fun μ σ_ lv_ => ∃ (k : Nat), μ = 650 - k ∧ mKn (t0 σ) = σ_ ∧ lv_ = [(0, ra V 87), (1, .int c1), (2, .int (mEIN (mKn (t0 σ)) c1 k)), (3, .int (nI k))] ∧ k ≤ 650) ⟨_, ⟨0, rfl, rfl, rfl, Nat.zero_le _⟩⟩ ?_
    rintro μ27 _ _ ⟨k, hμ27, rfl, rfl, hc27_0⟩ ih27
    refine x_iload_n C dX9_errorsIn_27 rfl 3 rfl ?_
    refine x_sipush C (650 : Int32) (by decide) dX9_errorsIn_28 ?_
    refine x_icmp_ge C 61 dX9_errorsIn_31 rfl (fun h2 => ?_) (fun h2 => ?_)
    · rw [show k = 650 from Nat.le_antisymm hc27_0 (Nat.le_of_not_lt (fun hq => nI_ge hq (by decide) h2))]
      refine x_iload_n C dX9_errorsIn_61 rfl 2 rfl ?_
      exact x_iret C hr hlk dX9_errorsIn_62 ⟨_, rfl, fun _ => ⟨by simp [xw_ne, xw_at, cl0, cl1, cl2, cl3], by simp [xw_ne, xw_at, cl0, cl1, cl2, cl3]⟩, fun h => absurd (by simp [qEIn, h1, h2]) h⟩
    · have hkn : k < 650 := Nat.lt_of_not_le (fun hq => h2 (nI_le hq (by omega)))
      have hcl : (nI k).toNatClampNeg = k := nI_clamp (by omega)
      refine x_iload_n C dX9_errorsIn_34 rfl 2 rfl ?_
      refine x_aload_n C dX9_errorsIn_35 rfl 0 rfl ?_
      refine x_getr C sh_87 rfl iX9 23 (by decide) f68 (fun _ h => h) (by decide) rfl dX9_errorsIn_36 ?_
      refine x_iload_n C dX9_errorsIn_39 rfl 3 rfl ?_
      refine x_iald C sh_107 (vp_in_nI (n := k) (N := 650) (by omega) (by decide)) dX9_errorsIn_40 ?_
      rw [hcl]
      refine x_iload_n C dX9_errorsIn_41 rfl 1 rfl ?_
      refine x_callS C [.int ((mKn (t0 σ)) 107 k), .int c1] (c_X9_has l V hV (mKn (t0 σ)) ((mKn (t0 σ)) 107 k) c1) (va_cwS 2 C.2.2.2.2.1 gX9_errorsIn_X9_has rfl rfl rfl (by decide +kernel) ⟨Nat.le_of_ble_eq_true rfl, Nat.le_of_ble_eq_true rfl⟩) rfl rfl (Nat.le_of_ble_eq_true rfl) dX9_errorsIn_42 ⟨Nat.le_of_ble_eq_true rfl, Nat.le_of_ble_eq_true rfl⟩ (x_kI ?_)
      refine x_bif_eq C 52 dX9_errorsIn_45 rfl (fun h3 => ?_) (fun h3 => ?_)
      · refine x_iconst C (0 : Int32) (by decide) dX9_errorsIn_52 ?_
        refine x_iadd C dX9_errorsIn_53 ?_
        refine x_istore_n C [(2, .int ((mEIN (mKn (t0 σ)) c1 k) + (0 : Int32))), (0, ra V 87), (1, .int c1), (3, .int (nI k))] dX9_errorsIn_54 rfl (by decide) rfl ?_
        refine x_iinc C (q := 3) ((nI k) + (1 : Int32)) [(3, .int ((nI k) + (1 : Int32))), (2, .int ((mEIN (mKn (t0 σ)) c1 k) + (0 : Int32))), (0, ra V 87), (1, .int c1)] dX9_errorsIn_55 rfl rfl (by decide) rfl ?_
        refine x_goto C 27 dX9_errorsIn_58 rfl ?_
        refine x_lv [2, 3, 1, 0] [(0, ra V 87), (1, .int c1), (2, .int ((mEIN (mKn (t0 σ)) c1 k) + (0 : Int32))), (3, .int ((nI k) + (1 : Int32)))] rfl ?_
        exact ih27 _ _ _ (by omega) ⟨k + 1, rfl, rfl, by rw [nI_succ]; simp [mEIN, bI, h3], hkn⟩
      · refine x_iconst C (1 : Int32) (by decide) dX9_errorsIn_48 ?_
        refine x_goto C 53 dX9_errorsIn_49 rfl ?_
        refine x_iadd C dX9_errorsIn_53 ?_
        refine x_istore_n C [(2, .int ((mEIN (mKn (t0 σ)) c1 k) + (1 : Int32))), (0, ra V 87), (1, .int c1), (3, .int (nI k))] dX9_errorsIn_54 rfl (by decide) rfl ?_
        refine x_iinc C (q := 3) ((nI k) + (1 : Int32)) [(3, .int ((nI k) + (1 : Int32))), (2, .int ((mEIN (mKn (t0 σ)) c1 k) + (1 : Int32))), (0, ra V 87), (1, .int c1)] dX9_errorsIn_55 rfl rfl (by decide) rfl ?_
        refine x_goto C 27 dX9_errorsIn_58 rfl ?_
        refine x_lv [2, 3, 1, 0] [(0, ra V 87), (1, .int c1), (2, .int ((mEIN (mKn (t0 σ)) c1 k) + (1 : Int32))), (3, .int ((nI k) + (1 : Int32)))] rfl ?_
        exact ih27 _ _ _ (by omega) ⟨k + 1, rfl, rfl, by rw [nI_succ]; simp [mEIN, bI, h3], hkn⟩
  · refine x_aload_n C dX9_errorsIn_13 rfl 0 rfl ?_
    refine x_iconst C (1 : Int32) (by decide) dX9_errorsIn_14 ?_
    refine x_callV C sh_87 (by decide) rfl [.int (1 : Int32)] (c_X9_no l V hV (t0 σ) (1 : Int32)) (cwV 1 C.2.2.2.2.1 gX9_errorsIn_X9_no rfl rfl rfl (by decide +kernel) ⟨Nat.le_of_ble_eq_true rfl, Nat.le_of_ble_eq_true rfl⟩) rfl rfl (Nat.le_of_ble_eq_true rfl) dX9_errorsIn_15 ⟨Nat.le_of_ble_eq_true rfl, Nat.le_of_ble_eq_true rfl⟩ (x_kI ?_)
    exact x_iret C hr hlk dX9_errorsIn_18 ⟨_, rfl, fun h => absurd h (by simp [qEIn, h1]), fun _ => by simp [qEIn, h1]; rfl⟩

set_option maxHeartbeats 4000000 in
set_option maxRecDepth 100000 in
theorem c_X9_trueFor (l : Launch) (V : xV) (hV : xInj V) (σ : xS) (on off : Int32) (hM : mV σ) : xM l yX9_trueFor wsX9_trueFor ({ frames := 2, cells := 0, slots := 0, locals := 45 }) V [ra V 87, .int on, .int off] σ (rI (mTF σ on off) σ) := by
  refine xM_of (cc := cX9_trueFor) (maxL := 5) (ret := (some .int)) [(0, ra V 87), (1, .int on), (2, .int off)] hV (by decide) rfl rfl (Nat.le_of_ble_eq_true rfl) (fun p e s m args below meth c C hr hlk => ?_)
  refine x_iconst C (0 : Int32) (by decide) dX9_trueFor_0 ?_
  refine x_istore_n C [(3, .int (0 : Int32)), (0, ra V 87), (1, .int on), (2, .int off)] dX9_trueFor_1 rfl (by decide) rfl ?_
  refine x_iconst C (0 : Int32) (by decide) dX9_trueFor_2 ?_
  refine x_istore C [(4, .int (0 : Int32)), (3, .int (0 : Int32)), (0, ra V 87), (1, .int on), (2, .int off)] dX9_trueFor_3 (by decide) rfl ?_
  refine x_lv [2, 3, 4, 1, 0] [(0, ra V 87), (1, .int on), (2, .int off), (3, .int (0 : Int32)), (4, .int (0 : Int32))] rfl ?_
  refine x_loop (fun μ σ_ lv_ => ∃ (k : Nat), μ = 16 - k ∧ σ = σ_ ∧ lv_ = [(0, ra V 87), (1, .int on), (2, .int off), (3, .int (maskI (fun c => mPr σ (nI c) && (decide (on &&& (nI c ^^^ (-1)) = 0) && decide (off &&& nI c = 0))) k)), (4, .int (nI k))] ∧ k ≤ 16) ⟨_, ⟨0, rfl, rfl, rfl, Nat.zero_le _⟩⟩ ?_
  rintro μ5 _ _ ⟨k, hμ5, rfl, rfl, hc5_0⟩ ih5
  refine x_iload C dX9_trueFor_5 4 rfl ?_
  refine x_bipush C (16 : Int32) (by decide) dX9_trueFor_7 ?_
  refine x_icmp_ge C 50 dX9_trueFor_9 rfl (fun h1 => ?_) (fun h1 => ?_)
  · refine x_iload_n C dX9_trueFor_50 rfl 3 rfl ?_
    exact x_iret C hr hlk dX9_trueFor_51 ⟨by rw [show k = 16 from Nat.le_antisymm hc5_0 (Nat.le_of_not_lt (fun hq => nI_ge hq (by decide) h1))]; rfl, rfl⟩
  · have hkn : k < 16 := Nat.lt_of_not_le (fun hq => h1 (nI_le hq (by omega)))
    refine x_aload_n C dX9_trueFor_12 rfl 0 rfl ?_
    refine x_iload C dX9_trueFor_13 4 rfl ?_
    refine x_callV C sh_87 (by decide) rfl [.int (nI k)] (c_X9_isProduct l V hV σ (nI k) hM) (cwV 1 C.2.2.2.2.1 gX9_trueFor_X9_isProduct rfl rfl rfl (by decide +kernel) ⟨Nat.le_of_ble_eq_true rfl, Nat.le_of_ble_eq_true rfl⟩) rfl rfl (Nat.le_of_ble_eq_true rfl) dX9_trueFor_15 ⟨Nat.le_of_ble_eq_true rfl, Nat.le_of_ble_eq_true rfl⟩ (x_kI ?_)
    refine x_bif_eq C 44 dX9_trueFor_18 rfl (fun h2 => ?_) (fun h2 => ?_)
    · refine x_iinc C (q := 4) ((nI k) + (1 : Int32)) [(4, .int ((nI k) + (1 : Int32))), (0, ra V 87), (1, .int on), (2, .int off), (3, .int (maskI (fun c => mPr σ (nI c) && (decide (on &&& (nI c ^^^ (-1)) = 0) && decide (off &&& nI c = 0))) k))] dX9_trueFor_44 rfl rfl (by decide) rfl ?_
      refine x_goto C 5 dX9_trueFor_47 rfl ?_
      refine x_lv [1, 2, 3, 4, 0] [(0, ra V 87), (1, .int on), (2, .int off), (3, .int (maskI (fun c => mPr σ (nI c) && (decide (on &&& (nI c ^^^ (-1)) = 0) && decide (off &&& nI c = 0))) k)), (4, .int ((nI k) + (1 : Int32)))] rfl ?_
      exact ih5 _ _ _ (by omega) ⟨k + 1, rfl, rfl, by rw [nI_succ, maskI]; first | rw [if_pos (by rw [h2]; rfl)] | rw [if_neg (by rw [h2]; exact Bool.false_ne_true)], hkn⟩
    · refine x_iload_n C dX9_trueFor_21 rfl 1 rfl ?_
      refine x_iload C dX9_trueFor_22 4 rfl ?_
      refine x_iconst C (-1 : Int32) (by decide) dX9_trueFor_24 ?_
      refine x_ixor C dX9_trueFor_25 ?_
      refine x_iand C dX9_trueFor_26 ?_
      refine x_if_ne C 44 dX9_trueFor_27 rfl (fun h3 => ?_) (fun h3 => ?_)
      · refine x_iinc C (q := 4) ((nI k) + (1 : Int32)) [(4, .int ((nI k) + (1 : Int32))), (0, ra V 87), (1, .int on), (2, .int off), (3, .int (maskI (fun c => mPr σ (nI c) && (decide (on &&& (nI c ^^^ (-1)) = 0) && decide (off &&& nI c = 0))) k))] dX9_trueFor_44 rfl rfl (by decide) rfl ?_
        refine x_goto C 5 dX9_trueFor_47 rfl ?_
        refine x_lv [1, 2, 3, 4, 0] [(0, ra V 87), (1, .int on), (2, .int off), (3, .int (maskI (fun c => mPr σ (nI c) && (decide (on &&& (nI c ^^^ (-1)) = 0) && decide (off &&& nI c = 0))) k)), (4, .int ((nI k) + (1 : Int32)))] rfl ?_
        exact ih5 _ _ _ (by omega) ⟨k + 1, rfl, rfl, by rw [nI_succ, maskI]; first | rw [if_pos (by rw [h2, decide_eq_false h3]; rfl)] | rw [if_neg (by rw [h2, decide_eq_false h3]; exact Bool.false_ne_true)], hkn⟩
      · refine x_iload_n C dX9_trueFor_30 rfl 2 rfl ?_
        refine x_iload C dX9_trueFor_31 4 rfl ?_
        refine x_iand C dX9_trueFor_33 ?_
        refine x_if_ne C 44 dX9_trueFor_34 rfl (fun h4 => ?_) (fun h4 => ?_)
        · refine x_iinc C (q := 4) ((nI k) + (1 : Int32)) [(4, .int ((nI k) + (1 : Int32))), (0, ra V 87), (1, .int on), (2, .int off), (3, .int (maskI (fun c => mPr σ (nI c) && (decide (on &&& (nI c ^^^ (-1)) = 0) && decide (off &&& nI c = 0))) k))] dX9_trueFor_44 rfl rfl (by decide) rfl ?_
          refine x_goto C 5 dX9_trueFor_47 rfl ?_
          refine x_lv [1, 2, 3, 4, 0] [(0, ra V 87), (1, .int on), (2, .int off), (3, .int (maskI (fun c => mPr σ (nI c) && (decide (on &&& (nI c ^^^ (-1)) = 0) && decide (off &&& nI c = 0))) k)), (4, .int ((nI k) + (1 : Int32)))] rfl ?_
          exact ih5 _ _ _ (by omega) ⟨k + 1, rfl, rfl, by rw [nI_succ, maskI]; first | rw [if_pos (by rw [h2, decide_eq_true h3, decide_eq_false h4]; rfl)] | rw [if_neg (by rw [h2, decide_eq_true h3, decide_eq_false h4]; exact Bool.false_ne_true)], hkn⟩
        · refine x_iload_n C dX9_trueFor_37 rfl 3 rfl ?_
          refine x_iconst C (1 : Int32) (by decide) dX9_trueFor_38 ?_
          refine x_iload C dX9_trueFor_39 4 rfl ?_
          refine x_ishl C dX9_trueFor_41 ?_
          refine x_ior C dX9_trueFor_42 ?_
          refine x_istore_n C [(3, .int ((maskI (fun c => mPr σ (nI c) && (decide (on &&& (nI c ^^^ (-1)) = 0) && decide (off &&& nI c = 0))) k) ||| ((1 : Int32) <<< ((nI k) &&& 31)))), (0, ra V 87), (1, .int on), (2, .int off), (4, .int (nI k))] dX9_trueFor_43 rfl (by decide) rfl ?_
          refine x_iinc C (q := 4) ((nI k) + (1 : Int32)) [(4, .int ((nI k) + (1 : Int32))), (3, .int ((maskI (fun c => mPr σ (nI c) && (decide (on &&& (nI c ^^^ (-1)) = 0) && decide (off &&& nI c = 0))) k) ||| ((1 : Int32) <<< ((nI k) &&& 31)))), (0, ra V 87), (1, .int on), (2, .int off)] dX9_trueFor_44 rfl rfl (by decide) rfl ?_
          refine x_goto C 5 dX9_trueFor_47 rfl ?_
          refine x_lv [2, 3, 4, 1, 0] [(0, ra V 87), (1, .int on), (2, .int off), (3, .int ((maskI (fun c => mPr σ (nI c) && (decide (on &&& (nI c ^^^ (-1)) = 0) && decide (off &&& nI c = 0))) k) ||| ((1 : Int32) <<< ((nI k) &&& 31)))), (4, .int ((nI k) + (1 : Int32)))] rfl ?_
          exact ih5 _ _ _ (by omega) ⟨k + 1, rfl, rfl, by rw [nI_succ, maskI]; first | rw [if_pos (by rw [h2, decide_eq_true h3, decide_eq_true h4]; rfl)] | rw [if_neg (by rw [h2, decide_eq_true h3, decide_eq_true h4]; exact Bool.false_ne_true)], hkn⟩

theorem mCuN_s (σ : xS) (rt : Int32) (k : Nat) : mCuN σ rt (k + 1) = mCuS σ rt (nI k) (mCuN σ rt k) := rfl
set_option maxHeartbeats 4000000 in
set_option maxRecDepth 100000 in
theorem c_X9_culprit (l : Launch) (V : xV) (hV : xInj V) (σ : xS) (hM : mV σ) : xM l yX9_culprit wsX9_culprit ({ frames := 10, cells := 0, slots := 0, locals := 239 }) V [ra V 87] σ (rI (mCuN (mKn (t0 σ)) (mRg (mKn (t0 σ))) 256) (mKn (t0 σ))) := by
  refine xM_of (cc := cX9_culprit) (maxL := 7) (ret := (some .int)) [(0, ra V 87)] hV (by decide) rfl rfl (Nat.le_of_ble_eq_true rfl) (fun p e s m args below meth c C hr hlk => ?_)
  have iX9 : ∀ w ∈ u_ws RX9 TX9 24, w ∈ wsX9_culprit := by decide +kernel
  have f71 : (Cond.fieldLink RX9 71 RX9 (TX9 0).2.1 (TX9 0).2.2.1).before args s = true := C.2.2.2.2.1 _ (by decide +kernel)
  refine x_aload_n C dX9_culprit_0 rfl 0 rfl ?_
  refine x_iconst C (0 : Int32) (by decide) dX9_culprit_1 ?_
  refine x_puti (ty := .int) C sh_87 rfl iX9 0 (by decide) f71 (fun _ h => h) (by decide) rfl (by decide +kernel) (by decide +kernel) (by decide) rfl tyX9 tyX9_ok nmX9 (by decide +kernel) rfl rfl dX9_culprit_2 ?_
  have hMt := t0_V hM
  refine x_s (σ' := t0 σ) rfl ?_
  refine x_aload_n C dX9_culprit_5 rfl 0 rfl ?_
  refine x_callV C sh_87 (by decide) rfl [] (c_X9_rightSet l V hV (t0 σ)  hMt) (cwV 0 C.2.2.2.2.1 gX9_culprit_X9_rightSet rfl rfl rfl (by decide +kernel) ⟨Nat.le_of_ble_eq_true rfl, Nat.le_of_ble_eq_true rfl⟩) rfl rfl (Nat.le_of_ble_eq_true rfl) dX9_culprit_6 ⟨Nat.le_of_ble_eq_true rfl, Nat.le_of_ble_eq_true rfl⟩ (x_kI ?_)
  refine x_istore_n C [(1, .int (mRg (mKn (t0 σ)))), (0, ra V 87)] dX9_culprit_9 rfl (by decide) rfl ?_
  refine x_iconst C (-1 : Int32) (by decide) dX9_culprit_10 ?_
  refine x_istore_n C [(2, .int (-1 : Int32)), (1, .int (mRg (mKn (t0 σ)))), (0, ra V 87)] dX9_culprit_11 rfl (by decide) rfl ?_
  refine x_iconst C (0 : Int32) (by decide) dX9_culprit_12 ?_
  refine x_istore_n C [(3, .int (0 : Int32)), (2, .int (-1 : Int32)), (1, .int (mRg (mKn (t0 σ)))), (0, ra V 87)] dX9_culprit_13 rfl (by decide) rfl ?_
  refine x_lv [3, 2, 1, 0] [(0, ra V 87), (1, .int (mRg (mKn (t0 σ)))), (2, .int (-1 : Int32)), (3, .int (0 : Int32))] rfl ?_
  refine x_loop (fun μ σ_ lv_ => ∃ (k : Nat), μ = 256 - k ∧ mKn (t0 σ) = σ_ ∧ lv_ = [(0, ra V 87), (1, .int (mRg (mKn (t0 σ)))), (2, .int (mCuN (mKn (t0 σ)) (mRg (mKn (t0 σ))) k)), (3, .int (nI k))] ∧ k ≤ 256) ⟨_, ⟨0, rfl, rfl, rfl, Nat.zero_le _⟩⟩ ?_
  rintro μ14 _ _ ⟨k, hμ14, rfl, rfl, hc14_0⟩ ih14
  refine x_iload_n C dX9_culprit_14 rfl 3 rfl ?_
  refine x_sipush C (256 : Int32) (by decide) dX9_culprit_15 ?_
  refine x_icmp_ge C 90 dX9_culprit_18 rfl (fun h1 => ?_) (fun h1 => ?_)
  · refine x_iload_n C dX9_culprit_90 rfl 2 rfl ?_
    exact x_iret C hr hlk dX9_culprit_91 ⟨by rw [show k = 256 from Nat.le_antisymm hc14_0 (Nat.le_of_not_lt (fun hq => nI_ge hq (by decide) h1))], rfl⟩
  · have hkn : k < 256 := Nat.lt_of_not_le (fun hq => h1 (nI_le hq (by omega)))
    refine x_iload_n C dX9_culprit_21 rfl 3 rfl ?_
    refine x_bipush C (16 : Int32) (by decide) dX9_culprit_22 ?_
    refine x_idiv C (by decide) dX9_culprit_24 ?_
    refine x_istore C [(4, .int ((nI k) / (16 : Int32))), (0, ra V 87), (1, .int (mRg (mKn (t0 σ)))), (2, .int (mCuN (mKn (t0 σ)) (mRg (mKn (t0 σ))) k)), (3, .int (nI k))] dX9_culprit_25 (by decide) rfl ?_
    refine x_iload_n C dX9_culprit_27 rfl 4 rfl ?_
    refine x_bipush C (16 : Int32) (by decide) dX9_culprit_28 ?_
    refine x_irem C (by decide) dX9_culprit_30 ?_
    refine x_istore C [(5, .int ((nI k) - (nI k) / (16 : Int32) * (16 : Int32))), (4, .int ((nI k) / (16 : Int32))), (0, ra V 87), (1, .int (mRg (mKn (t0 σ)))), (2, .int (mCuN (mKn (t0 σ)) (mRg (mKn (t0 σ))) k)), (3, .int (nI k))] dX9_culprit_31 (by decide) rfl ?_
    refine x_aload_n C dX9_culprit_33 rfl 2 rfl ?_
    refine x_iload C dX9_culprit_34 1 rfl ?_
    refine x_iload C dX9_culprit_36 0 rfl ?_
    refine x_callV C sh_87 (by decide) rfl [.int ((nI k) / (16 : Int32)), .int ((nI k) - (nI k) / (16 : Int32) * (16 : Int32))] (c_X9_trueFor l V hV (mKn (t0 σ)) ((nI k) / (16 : Int32)) ((nI k) - (nI k) / (16 : Int32) * (16 : Int32)) (mKn_V hMt)) (cwV 2 C.2.2.2.2.1 gX9_culprit_X9_trueFor rfl rfl rfl (by decide +kernel) ⟨Nat.le_of_ble_eq_true rfl, Nat.le_of_ble_eq_true rfl⟩) rfl rfl (Nat.le_of_ble_eq_true rfl) dX9_culprit_38 ⟨Nat.le_of_ble_eq_true rfl, Nat.le_of_ble_eq_true rfl⟩ (x_kI ?_)
    refine x_istore C [(6, .int (mTF (mKn (t0 σ)) ((nI k) / (16 : Int32)) ((nI k) - (nI k) / (16 : Int32) * (16 : Int32)))), (5, .int ((nI k) - (nI k) / (16 : Int32) * (16 : Int32))), (4, .int ((nI k) / (16 : Int32))), (0, ra V 87), (1, .int (mRg (mKn (t0 σ)))), (2, .int (mCuN (mKn (t0 σ)) (mRg (mKn (t0 σ))) k)), (3, .int (nI k))] dX9_culprit_41 (by decide) rfl ?_
    refine x_iload C dX9_culprit_43 2 rfl ?_
    refine x_iload C dX9_culprit_45 1 rfl ?_
    refine x_iand C dX9_culprit_47 ?_
    refine x_if_ne C 84 dX9_culprit_48 rfl (fun h2 => ?_) (fun h2 => ?_)
    · refine x_iinc C (q := 6) ((nI k) + (1 : Int32)) [(3, .int ((nI k) + (1 : Int32))), (6, .int (mTF (mKn (t0 σ)) ((nI k) / (16 : Int32)) ((nI k) - (nI k) / (16 : Int32) * (16 : Int32)))), (5, .int ((nI k) - (nI k) / (16 : Int32) * (16 : Int32))), (4, .int ((nI k) / (16 : Int32))), (0, ra V 87), (1, .int (mRg (mKn (t0 σ)))), (2, .int (mCuN (mKn (t0 σ)) (mRg (mKn (t0 σ))) k))] dX9_culprit_84 rfl rfl (by decide) rfl ?_
      refine x_goto C 14 dX9_culprit_87 rfl ?_
      refine x_lv [4, 5, 6, 0] [(0, ra V 87), (1, .int (mRg (mKn (t0 σ)))), (2, .int (mCuN (mKn (t0 σ)) (mRg (mKn (t0 σ))) k)), (3, .int ((nI k) + (1 : Int32)))] rfl ?_
      exact ih14 _ _ _ (by omega) ⟨k + 1, rfl, rfl, by rw [nI_succ, mCuN_s]; unfold mCuS; rw [if_pos h2], hkn⟩
    · refine x_iload C dX9_culprit_51 0 rfl ?_
      refine x_if_eq C 84 dX9_culprit_53 rfl (fun h3 => ?_) (fun h3 => ?_)
      · refine x_iinc C (q := 6) ((nI k) + (1 : Int32)) [(3, .int ((nI k) + (1 : Int32))), (6, .int (mTF (mKn (t0 σ)) ((nI k) / (16 : Int32)) ((nI k) - (nI k) / (16 : Int32) * (16 : Int32)))), (5, .int ((nI k) - (nI k) / (16 : Int32) * (16 : Int32))), (4, .int ((nI k) / (16 : Int32))), (0, ra V 87), (1, .int (mRg (mKn (t0 σ)))), (2, .int (mCuN (mKn (t0 σ)) (mRg (mKn (t0 σ))) k))] dX9_culprit_84 rfl rfl (by decide) rfl ?_
        refine x_goto C 14 dX9_culprit_87 rfl ?_
        refine x_lv [4, 5, 6, 0] [(0, ra V 87), (1, .int (mRg (mKn (t0 σ)))), (2, .int (mCuN (mKn (t0 σ)) (mRg (mKn (t0 σ))) k)), (3, .int ((nI k) + (1 : Int32)))] rfl ?_
        exact ih14 _ _ _ (by omega) ⟨k + 1, rfl, rfl, by rw [nI_succ, mCuN_s]; unfold mCuS; rw [if_neg (fun q => q h2), if_pos h3], hkn⟩
      · refine x_iload C dX9_culprit_56 0 rfl ?_
        refine x_iload_n C dX9_culprit_58 rfl 4 rfl ?_
        refine x_iand C dX9_culprit_59 ?_
        refine x_if_eq C 66 dX9_culprit_60 rfl (fun h4 => ?_) (fun h4 => ?_)
        · refine x_iload_n C dX9_culprit_66 rfl 5 rfl ?_
          refine x_iconst C (-1 : Int32) (by decide) dX9_culprit_67 ?_
          refine x_icmp_eq C 82 dX9_culprit_68 rfl (fun h5 => ?_) (fun h5 => ?_)
          · refine x_iload_n C dX9_culprit_82 rfl 6 rfl ?_
            refine x_istore_n C [(2, .int (nI k)), (6, .int (mTF (mKn (t0 σ)) ((nI k) / (16 : Int32)) ((nI k) - (nI k) / (16 : Int32) * (16 : Int32)))), (5, .int ((nI k) - (nI k) / (16 : Int32) * (16 : Int32))), (4, .int ((nI k) / (16 : Int32))), (0, ra V 87), (1, .int (mRg (mKn (t0 σ)))), (3, .int (nI k))] dX9_culprit_83 rfl (by decide) rfl ?_
            refine x_iinc C (q := 6) ((nI k) + (1 : Int32)) [(3, .int ((nI k) + (1 : Int32))), (2, .int (nI k)), (6, .int (mTF (mKn (t0 σ)) ((nI k) / (16 : Int32)) ((nI k) - (nI k) / (16 : Int32) * (16 : Int32)))), (5, .int ((nI k) - (nI k) / (16 : Int32) * (16 : Int32))), (4, .int ((nI k) / (16 : Int32))), (0, ra V 87), (1, .int (mRg (mKn (t0 σ))))] dX9_culprit_84 rfl rfl (by decide) rfl ?_
            refine x_goto C 14 dX9_culprit_87 rfl ?_
            refine x_lv [5, 6, 1, 0] [(0, ra V 87), (1, .int (mRg (mKn (t0 σ)))), (2, .int (nI k)), (3, .int ((nI k) + (1 : Int32)))] rfl ?_
            exact ih14 _ _ _ (by omega) ⟨k + 1, rfl, rfl, by rw [nI_succ, mCuN_s]; unfold mCuS; rw [if_neg (fun q => q h2), if_neg h3, if_neg (fun q => q h4), if_pos h5], hkn⟩
          · refine x_iload_n C dX9_culprit_71 rfl 6 rfl ?_
            refine x_callS C [.int (nI k)] (c_J6_bitCount_0f7a4 l V hV (mKn (t0 σ)) (nI k)) (va_cwS 1 C.2.2.2.2.1 gX9_culprit_J6_bitCount_0f7a4 rfl rfl rfl (by decide +kernel) ⟨Nat.le_of_ble_eq_true rfl, Nat.le_of_ble_eq_true rfl⟩) rfl rfl (Nat.le_of_ble_eq_true rfl) dX9_culprit_72 ⟨Nat.le_of_ble_eq_true rfl, Nat.le_of_ble_eq_true rfl⟩ (x_kI ?_)
            refine x_iload_n C dX9_culprit_75 rfl 5 rfl ?_
            refine x_callS C [.int (mCuN (mKn (t0 σ)) (mRg (mKn (t0 σ))) k)] (c_J6_bitCount_0f7a4 l V hV (mKn (t0 σ)) (mCuN (mKn (t0 σ)) (mRg (mKn (t0 σ))) k)) (va_cwS 1 C.2.2.2.2.1 gX9_culprit_J6_bitCount_0f7a4 rfl rfl rfl (by decide +kernel) ⟨Nat.le_of_ble_eq_true rfl, Nat.le_of_ble_eq_true rfl⟩) rfl rfl (Nat.le_of_ble_eq_true rfl) dX9_culprit_76 ⟨Nat.le_of_ble_eq_true rfl, Nat.le_of_ble_eq_true rfl⟩ (x_kI ?_)
            refine x_icmp_ge C 84 dX9_culprit_79 rfl (fun h6 => ?_) (fun h6 => ?_)
            · refine x_iinc C (q := 6) ((nI k) + (1 : Int32)) [(3, .int ((nI k) + (1 : Int32))), (6, .int (mTF (mKn (t0 σ)) ((nI k) / (16 : Int32)) ((nI k) - (nI k) / (16 : Int32) * (16 : Int32)))), (5, .int ((nI k) - (nI k) / (16 : Int32) * (16 : Int32))), (4, .int ((nI k) / (16 : Int32))), (0, ra V 87), (1, .int (mRg (mKn (t0 σ)))), (2, .int (mCuN (mKn (t0 σ)) (mRg (mKn (t0 σ))) k))] dX9_culprit_84 rfl rfl (by decide) rfl ?_
              refine x_goto C 14 dX9_culprit_87 rfl ?_
              refine x_lv [4, 5, 6, 0] [(0, ra V 87), (1, .int (mRg (mKn (t0 σ)))), (2, .int (mCuN (mKn (t0 σ)) (mRg (mKn (t0 σ))) k)), (3, .int ((nI k) + (1 : Int32)))] rfl ?_
              exact ih14 _ _ _ (by omega) ⟨k + 1, rfl, rfl, by rw [nI_succ, mCuN_s]; unfold mCuS; rw [if_neg (fun q => q h2), if_neg h3, if_neg (fun q => q h4), if_neg h5]; first | rw [if_pos h6] | rw [if_neg h6], hkn⟩
            · refine x_iload_n C dX9_culprit_82 rfl 6 rfl ?_
              refine x_istore_n C [(2, .int (nI k)), (6, .int (mTF (mKn (t0 σ)) ((nI k) / (16 : Int32)) ((nI k) - (nI k) / (16 : Int32) * (16 : Int32)))), (5, .int ((nI k) - (nI k) / (16 : Int32) * (16 : Int32))), (4, .int ((nI k) / (16 : Int32))), (0, ra V 87), (1, .int (mRg (mKn (t0 σ)))), (3, .int (nI k))] dX9_culprit_83 rfl (by decide) rfl ?_
              refine x_iinc C (q := 6) ((nI k) + (1 : Int32)) [(3, .int ((nI k) + (1 : Int32))), (2, .int (nI k)), (6, .int (mTF (mKn (t0 σ)) ((nI k) / (16 : Int32)) ((nI k) - (nI k) / (16 : Int32) * (16 : Int32)))), (5, .int ((nI k) - (nI k) / (16 : Int32) * (16 : Int32))), (4, .int ((nI k) / (16 : Int32))), (0, ra V 87), (1, .int (mRg (mKn (t0 σ))))] dX9_culprit_84 rfl rfl (by decide) rfl ?_
              refine x_goto C 14 dX9_culprit_87 rfl ?_
              refine x_lv [5, 6, 1, 0] [(0, ra V 87), (1, .int (mRg (mKn (t0 σ)))), (2, .int (nI k)), (3, .int ((nI k) + (1 : Int32)))] rfl ?_
              exact ih14 _ _ _ (by omega) ⟨k + 1, rfl, rfl, by rw [nI_succ, mCuN_s]; unfold mCuS; rw [if_neg (fun q => q h2), if_neg h3, if_neg (fun q => q h4), if_neg h5]; first | rw [if_pos h6] | rw [if_neg h6], hkn⟩
        · refine x_goto C 84 dX9_culprit_63 rfl ?_
          refine x_iinc C (q := 6) ((nI k) + (1 : Int32)) [(3, .int ((nI k) + (1 : Int32))), (6, .int (mTF (mKn (t0 σ)) ((nI k) / (16 : Int32)) ((nI k) - (nI k) / (16 : Int32) * (16 : Int32)))), (5, .int ((nI k) - (nI k) / (16 : Int32) * (16 : Int32))), (4, .int ((nI k) / (16 : Int32))), (0, ra V 87), (1, .int (mRg (mKn (t0 σ)))), (2, .int (mCuN (mKn (t0 σ)) (mRg (mKn (t0 σ))) k))] dX9_culprit_84 rfl rfl (by decide) rfl ?_
          refine x_goto C 14 dX9_culprit_87 rfl ?_
          refine x_lv [4, 5, 6, 0] [(0, ra V 87), (1, .int (mRg (mKn (t0 σ)))), (2, .int (mCuN (mKn (t0 σ)) (mRg (mKn (t0 σ))) k)), (3, .int ((nI k) + (1 : Int32)))] rfl ?_
          exact ih14 _ _ _ (by omega) ⟨k + 1, rfl, rfl, by rw [nI_succ, mCuN_s]; unfold mCuS; rw [if_neg (fun q => q h2), if_neg h3, if_pos h4], hkn⟩

def shr1 (σ : xS) : UInt64 := if popc (mAll (t0 σ)) = 0 then 0 else FP.ddiv (FP.i2d (popc (mRg (mKn (t0 σ))))) (FP.i2d (popc (mAll (t0 σ))))
def sh1s (σ : xS) : xS := if popc (mAll (t0 σ)) = 0 then t0 σ else mKn (t0 σ)
set_option maxHeartbeats 4000000 in
set_option maxRecDepth 100000 in
theorem c_X9_share (l : Launch) (V : xV) (hV : xInj V) (σ : xS) (hM : mV σ) (hnan : ¬ popc (mAll (t0 σ)) = 0 → vf_n64 (FP.ddiv (FP.i2d (popc (mRg (mKn (t0 σ))))) (FP.i2d (popc (mAll (t0 σ)))))) : xM l yX9_share wsX9_share ({ frames := 10, cells := 0, slots := 0, locals := 239 }) V [ra V 87] σ (rD (shr1 σ) (sh1s σ)) := by
  refine xM_of (cc := cX9_share) (maxL := 2) (ret := (some .double)) [(0, ra V 87)] hV (by decide) rfl rfl (Nat.le_of_ble_eq_true rfl) (fun p e s m args below meth c C hr hlk => ?_)
  have iX9 : ∀ w ∈ u_ws RX9 TX9 24, w ∈ wsX9_share := by decide +kernel
  have f71 : (Cond.fieldLink RX9 71 RX9 (TX9 0).2.1 (TX9 0).2.2.1).before args s = true := C.2.2.2.2.1 _ (by decide +kernel)
  refine x_aload_n C dX9_share_0 rfl 0 rfl ?_
  refine x_iconst C (0 : Int32) (by decide) dX9_share_1 ?_
  refine x_puti (ty := .int) C sh_87 rfl iX9 0 (by decide) f71 (fun _ h => h) (by decide) rfl (by decide +kernel) (by decide +kernel) (by decide) rfl tyX9 tyX9_ok nmX9 (by decide +kernel) rfl rfl dX9_share_2 ?_
  have hMt := t0_V hM
  refine x_s (σ' := t0 σ) rfl ?_
  refine x_aload_n C dX9_share_5 rfl 0 rfl ?_
  refine x_callV C sh_87 (by decide) rfl [] (c_X9_allProducts l V hV (t0 σ)  hMt) (cwV 0 C.2.2.2.2.1 gX9_share_X9_allProducts rfl rfl rfl (by decide +kernel) ⟨Nat.le_of_ble_eq_true rfl, Nat.le_of_ble_eq_true rfl⟩) rfl rfl (Nat.le_of_ble_eq_true rfl) dX9_share_6 ⟨Nat.le_of_ble_eq_true rfl, Nat.le_of_ble_eq_true rfl⟩ (x_kI ?_)
  refine x_callS C [.int (mAll (t0 σ))] (c_J6_bitCount_0f7a4 l V hV (t0 σ) (mAll (t0 σ))) (va_cwS 1 C.2.2.2.2.1 gX9_share_J6_bitCount_0f7a4 rfl rfl rfl (by decide +kernel) ⟨Nat.le_of_ble_eq_true rfl, Nat.le_of_ble_eq_true rfl⟩) rfl rfl (Nat.le_of_ble_eq_true rfl) dX9_share_9 ⟨Nat.le_of_ble_eq_true rfl, Nat.le_of_ble_eq_true rfl⟩ (x_kI ?_)
  refine x_istore_n C [(1, .int (popc (mAll (t0 σ)))), (0, ra V 87)] dX9_share_12 rfl (by decide) rfl ?_
  refine x_iload_n C dX9_share_13 rfl 0 rfl ?_
  refine x_if_ne C 21 dX9_share_14 rfl (fun h1 => ?_) (fun h1 => ?_)
  · refine x_aload_n C dX9_share_21 rfl 1 rfl ?_
    refine x_callV C sh_87 (by decide) rfl [] (c_X9_rightSet l V hV (t0 σ)  hMt) (cwV 0 C.2.2.2.2.1 gX9_share_X9_rightSet rfl rfl rfl (by decide +kernel) ⟨Nat.le_of_ble_eq_true rfl, Nat.le_of_ble_eq_true rfl⟩) rfl rfl (Nat.le_of_ble_eq_true rfl) dX9_share_22 ⟨Nat.le_of_ble_eq_true rfl, Nat.le_of_ble_eq_true rfl⟩ (x_kI ?_)
    refine x_callS C [.int (mRg (mKn (t0 σ)))] (c_J6_bitCount_0f7a4 l V hV (mKn (t0 σ)) (mRg (mKn (t0 σ)))) (va_cwS 1 C.2.2.2.2.1 gX9_share_J6_bitCount_0f7a4 rfl rfl rfl (by decide +kernel) ⟨Nat.le_of_ble_eq_true rfl, Nat.le_of_ble_eq_true rfl⟩) rfl rfl (Nat.le_of_ble_eq_true rfl) dX9_share_25 ⟨Nat.le_of_ble_eq_true rfl, Nat.le_of_ble_eq_true rfl⟩ (x_kI ?_)
    refine x_i2d C dX9_share_28 ?_
    refine x_iload_n C dX9_share_29 rfl 0 rfl ?_
    refine x_i2d C dX9_share_30 ?_
    refine x_ddiv C (hnan h1) dX9_share_31 ?_
    exact x_dret C hr hlk dX9_share_32 ⟨by simp [shr1, h1], by simp [sh1s, h1]⟩
  · refine x_dconst0 C dX9_share_17 ?_
    refine x_goto C 32 dX9_share_18 rfl ?_
    exact x_dret C hr hlk dX9_share_32 ⟨by simp [shr1, eq_true h1], by simp [sh1s, eq_true h1]⟩

/-! The reference's checks. -/
theorem mV_keep {σ τ : xS} (h : ∀ r, r ≠ 106 → r ≠ 107 → r ≠ 208 → r ≠ 211 → τ r = σ r) (k : mV σ) : mV τ := mV_of (fun r hr => h r (by omega) (by omega) (by omega) (by omega)) k
theorem mNt_keep {r : Nat} (h : r ≠ 107) (σ : xS) (k x c : Int32) : mNt σ k x c r = σ r := xw_ne _ _ _ h
def mGone (σ : xS) (t c : Int32) : Bool := decide (¬ t = -1) && (decide (¬ t = 8) && !mIs σ 0 t c)
def mC1 (c : Int32) (σ : xS) (m : Int32) : xS := if mGone σ (σ 99 m.toNatClampNeg) c = true ∨ mGone σ (σ 100 ((2 : Int32) * m).toNatClampNeg) c = true ∨ mGone σ (σ 100 ((2 : Int32) * m + 1).toNatClampNeg) c = true then mNt σ 5 m c else σ
def mC2S (m c : Int32) (τ : xS) (i : Int32) : xS := if τ 96 i.toNatClampNeg = τ 96 m.toNatClampNeg ∧ τ 97 i.toNatClampNeg = τ 97 m.toNatClampNeg ∧ τ 98 i.toNatClampNeg = τ 98 m.toNatClampNeg ∧ mIs2 τ i c = true then mNt τ 6 m c else τ
def mC2 (c : Int32) (σ : xS) (m : Int32) : xS := upN (mC2S m c) m.toNatClampNeg σ
def mCpa (σ : xS) (m c : Int32) : Int32 := mPa σ (σ 97 m.toNatClampNeg) c
def mCf (σ : xS) (m c : Int32) : Int32 := mFi σ (mCpa σ m c) (σ 98 m.toNatClampNeg) 1 c
def mCsame (σ : xS) (m f : Int32) : Bool := decide (σ 100 ((2 : Int32) * m).toNatClampNeg = σ 100 ((2 : Int32) * f).toNatClampNeg) && decide (σ 100 ((2 : Int32) * m + 1).toNatClampNeg = σ 100 ((2 : Int32) * f + 1).toNatClampNeg)
def mC3 (c : Int32) (σ : xS) (m : Int32) : xS :=
  if σ 96 m.toNatClampNeg = 0 then σ else if mCpa σ m c = -1 then σ
  else if mCf σ m c = -1 then σ else if mCf σ m c = m then σ
  else if mCsame σ m (mCf σ m c) = true ∧ mFit σ (σ 99 m.toNatClampNeg) (σ 99 (mCf σ m c).toNatClampNeg) c = true then σ else mNt σ 7 m c
def mC0 (c : Int32) (σ : xS) (m : Int32) : xS := mC3 c (mC2 c (mC1 c σ m) m) m
def mL1 (c : Int32) (τ : xS) (i : Int32) : xS := if mMt τ 1 i c = true ∧ mIs τ 0 (τ 94 i.toNatClampNeg) c = true ∧ mIs τ 0 (τ 95 i.toNatClampNeg) c = false then mNt τ 1 i c else τ
def mCtN (σ : xS) (o c : Int32) : Nat → Int32
  | 0 => 0
  | k + 1 => mCtN σ o c k + bI (decide (σ 94 k = o) && mIs σ 1 (nI k) c)
def mCt (σ : xS) (o c : Int32) : Int32 := mCtN σ o c (σ 91 1).toNatClampNeg
def mL2a (c : Int32) (τ : xS) (i : Int32) : xS := if ¬ mCt τ i c ≤ 1 then mNt τ 2 i c else τ
def mL2 (c : Int32) (τ : xS) (i : Int32) : xS := if mIs τ 0 i c = true then (if mBe (mL2a c τ i) i i c = true then mNt (mL2a c τ i) 3 i c else mL2a c τ i) else τ
def mL3a (c : Int32) (τ : xS) (i : Int32) : xS := if mMt τ 2 i c = true ∧ mIs τ 0 (τ 97 i.toNatClampNeg) c = false then mNt τ 4 i c else τ
def mL3 (c : Int32) (τ : xS) (i : Int32) : xS := if mIs2 (mL3a c τ i) i c = true then mC0 c (mL3a c τ i) i else mL3a c τ i
def mCP1 (σ : xS) (c : Int32) : xS := upN (mL1 c) (σ 91 1).toNatClampNeg σ
def mCP2 (σ : xS) (c : Int32) : xS := upN (mL2 c) (σ 91 0).toNatClampNeg (mCP1 σ c)
def mCP (σ : xS) (c : Int32) : xS := upN (mL3 c) (σ 91 2).toNatClampNeg (mCP2 σ c)
def mKTv (c : Int32) (τ : xS) (i : Int32) : Int32 := if mIs2 τ (τ 103 i.toNatClampNeg) c = true then (mFT τ i c).2 else -2
def mKTs (c : Int32) (τ : xS) (i : Int32) : xS := if mIs2 τ (τ 103 i.toNatClampNeg) c = true then mFTs τ i c else τ
def mKT (c : Int32) (τ : xS) (i : Int32) : xS := xw (mKTs c τ i) 106 ((50 : Int32) * c + i).toNatClampNeg (mKTv c τ i)
def mKX (c : Int32) (τ : xS) (i : Int32) : xS := if mIs τ 3 i c = true ∧ ¬ mTI τ (τ 101 i.toNatClampNeg) c < 0 ∧ mFit τ (mTI τ (τ 101 i.toNatClampNeg) c) (τ 99 (τ 103 (τ 101 i.toNatClampNeg).toNatClampNeg).toNatClampNeg) c = false then mNt τ 12 i c else τ
def mK1 (σ : xS) (c : Int32) : xS := upN (mKT c) (σ 210 0).toNatClampNeg (mCP σ c)
def mKP (τ : xS) (c : Int32) : xS := if mPr τ c = true then upN (mKX c) (τ 91 3).toNatClampNeg (mK1 τ c) else τ
def mKn (σ : xS) : xS := if σ 211 0 = 0 then upN mKP 16 (vFill (xw σ 211 0 1) 107 650 0) else σ
theorem mC1_keep {r : Nat} (h : r ≠ 107) (c : Int32) (σ : xS) (m : Int32) : mC1 c σ m r = σ r := by unfold mC1; split <;> simp [mNt_keep h]
theorem mC2S_keep {r : Nat} (h : r ≠ 107) (m c : Int32) (σ : xS) (i : Int32) : mC2S m c σ i r = σ r := by unfold mC2S; split <;> simp [mNt_keep h]
theorem mC2_keep {r : Nat} (h : r ≠ 107) (c : Int32) (σ : xS) (m : Int32) : mC2 c σ m r = σ r := by rw [mC2, upN_keep (mC2S_keep h m c)]
theorem mC3_keep {r : Nat} (h : r ≠ 107) (c : Int32) (σ : xS) (m : Int32) : mC3 c σ m r = σ r := by
  unfold mC3
  repeat' (first | rfl | exact mNt_keep h _ _ _ _ | split)
theorem mC0_keep {r : Nat} (h : r ≠ 107) (c : Int32) (σ : xS) (m : Int32) : mC0 c σ m r = σ r := by rw [mC0, mC3_keep h, mC2_keep h, mC1_keep h]
theorem mL1_keep {r : Nat} (h : r ≠ 107) (c : Int32) (σ : xS) (m : Int32) : mL1 c σ m r = σ r := by unfold mL1; split <;> simp [mNt_keep h]
theorem mL2a_keep {r : Nat} (h : r ≠ 107) (c : Int32) (σ : xS) (m : Int32) : mL2a c σ m r = σ r := by unfold mL2a; split <;> simp [mNt_keep h]
theorem mL2_keep {r : Nat} (h : r ≠ 107) (c : Int32) (σ : xS) (m : Int32) : mL2 c σ m r = σ r := by
  unfold mL2; split
  · split <;> simp [mNt_keep h, mL2a_keep h]
  · rfl
theorem mL3a_keep {r : Nat} (h : r ≠ 107) (c : Int32) (σ : xS) (m : Int32) : mL3a c σ m r = σ r := by unfold mL3a; split <;> simp [mNt_keep h]
theorem mL3_keep {r : Nat} (h : r ≠ 107) (c : Int32) (σ : xS) (m : Int32) : mL3 c σ m r = σ r := by unfold mL3; split <;> simp [mC0_keep h, mL3a_keep h]
theorem mCP1_keep {r : Nat} (h : r ≠ 107) (σ : xS) (c : Int32) : mCP1 σ c r = σ r := by rw [mCP1, upN_keep (mL1_keep h c)]
theorem mCP2_keep {r : Nat} (h : r ≠ 107) (σ : xS) (c : Int32) : mCP2 σ c r = σ r := by rw [mCP2, upN_keep (mL2_keep h c), mCP1_keep h]
theorem mCP_keep {r : Nat} (h : r ≠ 107) (σ : xS) (c : Int32) : mCP σ c r = σ r := by rw [mCP, upN_keep (mL3_keep h c), mCP2_keep h]
theorem mFTs_keep {r : Nat} (h : r ≠ 107) (σ : xS) (e c : Int32) : mFTs σ e c r = σ r := by unfold mFTs; split <;> simp [mNt_keep h]
theorem mKTs_keep {r : Nat} (h : r ≠ 107) (c : Int32) (σ : xS) (i : Int32) : mKTs c σ i r = σ r := by unfold mKTs; split <;> simp [mFTs_keep h]
theorem mKT_keep {r : Nat} (h : r ≠ 107) (h2 : r ≠ 106) (c : Int32) (σ : xS) (i : Int32) : mKT c σ i r = σ r := by rw [mKT, xw_ne _ _ _ h2, mKTs_keep h]
theorem mKX_keep {r : Nat} (h : r ≠ 107) (c : Int32) (σ : xS) (i : Int32) : mKX c σ i r = σ r := by unfold mKX; split <;> simp [mNt_keep h]
theorem mK1_keep {r : Nat} (h : r ≠ 107) (h2 : r ≠ 106) (σ : xS) (c : Int32) : mK1 σ c r = σ r := by rw [mK1, upN_keep (mKT_keep h h2 c), mCP_keep h]
theorem mKP_keep {r : Nat} (h : r ≠ 107) (h2 : r ≠ 106) (σ : xS) (c : Int32) : mKP σ c r = σ r := by
  unfold mKP; split
  · rw [upN_keep (mKX_keep h c), mK1_keep h h2]
  · rfl
theorem mKn_keep {r : Nat} (h : r ≠ 107) (h2 : r ≠ 106) (h3 : r ≠ 211) (σ : xS) : mKn σ r = σ r := by
  unfold mKn; split
  · rw [upN_keep (mKP_keep h h2), vFill_ne h, xw_ne _ _ _ h3]
  · rfl
theorem mKn_V {σ : xS} (h : mV σ) : mV (mKn σ) := mV_keep (fun r h1 h2 h3 h4 => mKn_keep h2 h1 h4 σ) h

set_option maxHeartbeats 4000000 in
set_option maxRecDepth 100000 in
theorem c_X9_isGone (l : Launch) (V : xV) (hV : xInj V) (σ : xS) (t c1 : Int32) (hM : mV σ) (ht : t = -1 ∨ vp_in t 9) : xM l yX9_isGone wsX9_isGone ({ frames := 3, cells := 0, slots := 0, locals := 70 }) V [ra V 87, .int t, .int c1] σ (rI (bI (mGone σ t c1)) σ) := by
  refine xM_of (cc := cX9_isGone) (maxL := 3) (ret := (some .boolean)) [(0, ra V 87), (1, .int t), (2, .int c1)] hV (by decide) rfl rfl (Nat.le_of_ble_eq_true rfl) (fun p e s m args below meth c C hr hlk => ?_)
  refine x_iload_n C dX9_isGone_0 rfl 1 rfl ?_
  refine x_iconst C (-1 : Int32) (by decide) dX9_isGone_1 ?_
  refine x_icmp_eq C 25 dX9_isGone_2 rfl (fun h1 => ?_) (fun h1 => ?_)
  · refine x_iconst C (0 : Int32) (by decide) dX9_isGone_25 ?_
    exact x_zret C false rfl hr hlk dX9_isGone_26 ⟨by simp [mGone, eq_true h1], rfl⟩
  · refine x_iload_n C dX9_isGone_5 rfl 1 rfl ?_
    refine x_bipush C (8 : Int32) (by decide) dX9_isGone_6 ?_
    refine x_icmp_eq C 25 dX9_isGone_8 rfl (fun h2 => ?_) (fun h2 => ?_)
    · refine x_iconst C (0 : Int32) (by decide) dX9_isGone_25 ?_
      exact x_zret C false rfl hr hlk dX9_isGone_26 ⟨by simp [mGone, h1, eq_true h2], rfl⟩
    · have ht9 := ht.resolve_left h1
      refine x_aload_n C dX9_isGone_11 rfl 0 rfl ?_
      refine x_iconst C (0 : Int32) (by decide) dX9_isGone_12 ?_
      refine x_iload_n C dX9_isGone_13 rfl 1 rfl ?_
      refine x_iload_n C dX9_isGone_14 rfl 2 rfl ?_
      refine x_callV C sh_87 (by decide) rfl [.int (0 : Int32), .int t, .int c1] (c_X9_is_0 l V hV σ t c1 hM (vp_le ht9 (by decide))) (cwV 3 C.2.2.2.2.1 gX9_isGone_X9_is rfl rfl rfl (by decide +kernel) ⟨Nat.le_of_ble_eq_true rfl, Nat.le_of_ble_eq_true rfl⟩) rfl rfl (Nat.le_of_ble_eq_true rfl) dX9_isGone_15 ⟨Nat.le_of_ble_eq_true rfl, Nat.le_of_ble_eq_true rfl⟩ (x_kI ?_)
      refine x_bif_ne C 25 dX9_isGone_18 rfl (fun h3 => ?_) (fun h3 => ?_)
      · refine x_iconst C (0 : Int32) (by decide) dX9_isGone_25 ?_
        exact x_zret C false rfl hr hlk dX9_isGone_26 ⟨by simp [mGone, h1, h2, h3], rfl⟩
      · refine x_iconst C (1 : Int32) (by decide) dX9_isGone_21 ?_
        refine x_goto C 26 dX9_isGone_22 rfl ?_
        exact x_zret C true rfl hr hlk dX9_isGone_26 ⟨by simp [mGone, h1, h2, h3], rfl⟩

set_option maxHeartbeats 4000000 in
set_option maxRecDepth 100000 in
theorem c_X9_checkMember (l : Launch) (V : xV) (hV : xInj V) (σ : xS) (m1 c1 : Int32) (hM : mV σ) (hm1 : vp_in m1 24) (hc : vp_in c1 16) : xM l yX9_checkMember wsX9_checkMember ({ frames := 6, cells := 0, slots := 0, locals := 141 }) V [ra V 87, .int m1, .int c1] σ (rV (mC0 c1 σ m1)) := by
  refine xM_of (cc := cX9_checkMember) (maxL := 6) (ret := none) [(0, ra V 87), (1, .int m1), (2, .int c1)] hV (by decide) rfl rfl (Nat.le_of_ble_eq_true rfl) (fun p e s m args below meth c C hr hlk => ?_)
  have iX9 : ∀ w ∈ u_ws RX9 TX9 24, w ∈ wsX9_checkMember := by decide +kernel
  have f38 : (Cond.fieldLink RX9 38 RX9 (TX9 11).2.1 (TX9 11).2.2.1).before args s = true := C.2.2.2.2.1 _ (by decide +kernel)
  have f34 : (Cond.fieldLink RX9 34 RX9 (TX9 10).2.1 (TX9 10).2.2.1).before args s = true := C.2.2.2.2.1 _ (by decide +kernel)
  have f41 : (Cond.fieldLink RX9 41 RX9 (TX9 12).2.1 (TX9 12).2.2.1).before args s = true := C.2.2.2.2.1 _ (by decide +kernel)
  have f47 : (Cond.fieldLink RX9 47 RX9 (TX9 14).2.1 (TX9 14).2.2.1).before args s = true := C.2.2.2.2.1 _ (by decide +kernel)
  have f44 : (Cond.fieldLink RX9 44 RX9 (TX9 13).2.1 (TX9 13).2.2.1).before args s = true := C.2.2.2.2.1 _ (by decide +kernel)
  refine x_join (mC1 c1 σ m1) 55 [(0, ra V 87), (1, .int m1), (2, .int c1)] [] ?_ (fun hJ55 => ?_)
  · have hM1 : mV (mC1 c1 σ m1) := mV_keep (fun r h1 h2 h3 h4 => mC1_keep h2 c1 σ m1) hM
    refine x_iconst C (0 : Int32) (by decide) dX9_checkMember_55 ?_
    refine x_istore_n C [(3, .int (0 : Int32)), (0, ra V 87), (1, .int m1), (2, .int c1)] dX9_checkMember_56 rfl (by decide) rfl ?_
    refine x_lv [1, 2, 3, 0] [(0, ra V 87), (1, .int m1), (2, .int c1), (3, .int (0 : Int32))] rfl ?_
    refine x_loop (fun μ σ_ lv_ => ∃ (k : Nat), μ = m1.toNatClampNeg - k ∧ upN (mC2S m1 c1) k (mC1 c1 σ m1) = σ_ ∧ lv_ = [(0, ra V 87), (1, .int m1), (2, .int c1), (3, .int (nI k))] ∧ k ≤ m1.toNatClampNeg) ⟨_, ⟨0, rfl, rfl, rfl, Nat.zero_le _⟩⟩ ?_
    rintro μ57 _ _ ⟨k, hμ57, rfl, rfl, hc57_0⟩ ih57
    refine x_iload_n C dX9_checkMember_57 rfl 3 rfl ?_
    refine x_iload_n C dX9_checkMember_58 rfl 1 rfl ?_
    refine x_icmp_ge C 131 dX9_checkMember_59 rfl (fun h1 => ?_) (fun h1 => ?_)
    · refine x_s (σ' := mC2 c1 (mC1 c1 σ m1) m1) (by rw [mC2, show m1.toNatClampNeg = k from Nat.le_antisymm ((le_nI (by have := clamp_lt m1; omega)).mp h1) hc57_0]) ?_
      have hM3 : mV (mC2 c1 (mC1 c1 σ m1) m1) := mV_keep (fun r h1 h2 h3 h4 => mC2_keep h2 c1 _ m1) hM1
      refine x_aload_n C dX9_checkMember_131 rfl 0 rfl ?_
      refine x_aload_n C dX9_checkMember_132 rfl 0 rfl ?_
      refine x_getr C sh_87 rfl iX9 11 (by decide) f38 (fun _ h => h) (by decide) rfl dX9_checkMember_133 ?_
      refine x_iload_n C dX9_checkMember_136 rfl 1 rfl ?_
      refine x_iald C sh_97 hm1 dX9_checkMember_137 ?_
      refine x_iload_n C dX9_checkMember_138 rfl 2 rfl ?_
      refine x_callV C sh_87 (by decide) rfl [.int ((mC2 c1 (mC1 c1 σ m1) m1) 97 m1.toNatClampNeg), .int c1] (c_X9_parentOf l V hV (mC2 c1 (mC1 c1 σ m1) m1) ((mC2 c1 (mC1 c1 σ m1) m1) 97 m1.toNatClampNeg) c1 hM3) (cwV 2 C.2.2.2.2.1 gX9_checkMember_X9_parentOf rfl rfl rfl (by decide +kernel) ⟨Nat.le_of_ble_eq_true rfl, Nat.le_of_ble_eq_true rfl⟩) rfl rfl (Nat.le_of_ble_eq_true rfl) dX9_checkMember_139 ⟨Nat.le_of_ble_eq_true rfl, Nat.le_of_ble_eq_true rfl⟩ (x_kI ?_)
      refine x_istore_n C [(3, .int (mPa (mC2 c1 (mC1 c1 σ m1) m1) ((mC2 c1 (mC1 c1 σ m1) m1) 97 m1.toNatClampNeg) c1)), (0, ra V 87), (1, .int m1), (2, .int c1)] dX9_checkMember_142 rfl (by decide) rfl ?_
      refine x_aload_n C dX9_checkMember_143 rfl 1 rfl ?_
      refine x_getr C sh_87 rfl iX9 10 (by decide) f34 (fun _ h => h) (by decide) rfl dX9_checkMember_144 ?_
      refine x_iload_n C dX9_checkMember_147 rfl 2 rfl ?_
      refine x_zald C sh_96 hm1 dX9_checkMember_148 ?_
      refine x_if_eq C 157 dX9_checkMember_149 rfl (fun h2 => ?_) (fun h2 => ?_)
      · exact x_vret C hr hlk dX9_checkMember_157 ⟨rfl, by rw [mC0]; simp [mC3, mCpa, mCf, mCsame, eq_true h2]⟩
      · refine x_iload_n C dX9_checkMember_152 rfl 0 rfl ?_
        refine x_iconst C (-1 : Int32) (by decide) dX9_checkMember_153 ?_
        refine x_icmp_ne C 158 dX9_checkMember_154 rfl (fun h3 => ?_) (fun h3 => ?_)
        · refine x_aload_n C dX9_checkMember_158 rfl 1 rfl ?_
          refine x_iload_n C dX9_checkMember_159 rfl 0 rfl ?_
          refine x_aload_n C dX9_checkMember_160 rfl 1 rfl ?_
          refine x_getr C sh_87 rfl iX9 12 (by decide) f41 (fun _ h => h) (by decide) rfl dX9_checkMember_161 ?_
          refine x_iload_n C dX9_checkMember_164 rfl 2 rfl ?_
          refine x_iald C sh_98 hm1 dX9_checkMember_165 ?_
          refine x_iconst C (1 : Int32) (by decide) dX9_checkMember_166 ?_
          refine x_iload_n C dX9_checkMember_167 rfl 3 rfl ?_
          refine x_callV C sh_87 (by decide) rfl [.int (mPa (mC2 c1 (mC1 c1 σ m1) m1) ((mC2 c1 (mC1 c1 σ m1) m1) 97 m1.toNatClampNeg) c1), .int ((mC2 c1 (mC1 c1 σ m1) m1) 98 m1.toNatClampNeg), .int (1 : Int32), .int c1] (c_X9_findMember l V hV (mC2 c1 (mC1 c1 σ m1) m1) (mPa (mC2 c1 (mC1 c1 σ m1) m1) ((mC2 c1 (mC1 c1 σ m1) m1) 97 m1.toNatClampNeg) c1) ((mC2 c1 (mC1 c1 σ m1) m1) 98 m1.toNatClampNeg) (1 : Int32) c1 hM3) (cwV 4 C.2.2.2.2.1 gX9_checkMember_X9_findMember rfl rfl rfl (by decide +kernel) ⟨Nat.le_of_ble_eq_true rfl, Nat.le_of_ble_eq_true rfl⟩) rfl rfl (Nat.le_of_ble_eq_true rfl) dX9_checkMember_168 ⟨Nat.le_of_ble_eq_true rfl, Nat.le_of_ble_eq_true rfl⟩ (x_kI ?_)
          refine x_istore C [(4, .int (mFi (mC2 c1 (mC1 c1 σ m1) m1) (mPa (mC2 c1 (mC1 c1 σ m1) m1) ((mC2 c1 (mC1 c1 σ m1) m1) 97 m1.toNatClampNeg) c1) ((mC2 c1 (mC1 c1 σ m1) m1) 98 m1.toNatClampNeg) (1 : Int32) c1)), (3, .int (mPa (mC2 c1 (mC1 c1 σ m1) m1) ((mC2 c1 (mC1 c1 σ m1) m1) 97 m1.toNatClampNeg) c1)), (0, ra V 87), (1, .int m1), (2, .int c1)] dX9_checkMember_171 (by decide) rfl ?_
          refine x_iload C dX9_checkMember_173 0 rfl ?_
          refine x_iconst C (-1 : Int32) (by decide) dX9_checkMember_175 ?_
          refine x_icmp_eq C 185 dX9_checkMember_176 rfl (fun h4 => ?_) (fun h4 => ?_)
          · exact x_vret C hr hlk dX9_checkMember_185 ⟨rfl, by rw [mC0]; simp [mC3, mCpa, mCf, mCsame, h2, h3, eq_true h4]⟩
          · refine x_iload C dX9_checkMember_179 0 rfl ?_
            refine x_iload_n C dX9_checkMember_181 rfl 3 rfl ?_
            refine x_icmp_ne C 186 dX9_checkMember_182 rfl (fun h5 => ?_) (fun h5 => ?_)
            · have hfd : vp_in (mFi (mC2 c1 (mC1 c1 σ m1) m1) (mPa (mC2 c1 (mC1 c1 σ m1) m1) ((mC2 c1 (mC1 c1 σ m1) m1) 97 m1.toNatClampNeg) c1) ((mC2 c1 (mC1 c1 σ m1) m1) 98 m1.toNatClampNeg) (1 : Int32) c1) 24 := mFi_in hM3 h4
              refine x_aload_n C dX9_checkMember_186 rfl 2 rfl ?_
              refine x_getr C sh_87 rfl iX9 14 (by decide) f47 (fun _ h => h) (by decide) rfl dX9_checkMember_187 ?_
              refine x_iconst C (2 : Int32) (by decide) dX9_checkMember_190 ?_
              refine x_iload_n C dX9_checkMember_191 rfl 3 rfl ?_
              refine x_imul C dX9_checkMember_192 ?_
              refine x_iald C sh_100 (vp_le (vp_mulk 2 hm1 (by decide)) (by decide)) dX9_checkMember_193 ?_
              refine x_aload_n C dX9_checkMember_194 rfl 2 rfl ?_
              refine x_getr C sh_87 rfl iX9 14 (by decide) f47 (fun _ h => h) (by decide) rfl dX9_checkMember_195 ?_
              refine x_iconst C (2 : Int32) (by decide) dX9_checkMember_198 ?_
              refine x_iload C dX9_checkMember_199 0 rfl ?_
              refine x_imul C dX9_checkMember_201 ?_
              refine x_iald C sh_100 (vp_le (vp_mulk 2 hfd (by decide)) (by decide)) dX9_checkMember_202 ?_
              refine x_icmp_ne C 234 dX9_checkMember_203 rfl (fun h6 => ?_) (fun h6 => ?_)
              · refine x_iconst C (0 : Int32) (by decide) dX9_checkMember_234 ?_
                refine x_istore C [(5, .int (0 : Int32)), (4, .int (mFi (mC2 c1 (mC1 c1 σ m1) m1) (mPa (mC2 c1 (mC1 c1 σ m1) m1) ((mC2 c1 (mC1 c1 σ m1) m1) 97 m1.toNatClampNeg) c1) ((mC2 c1 (mC1 c1 σ m1) m1) 98 m1.toNatClampNeg) (1 : Int32) c1)), (3, .int (mPa (mC2 c1 (mC1 c1 σ m1) m1) ((mC2 c1 (mC1 c1 σ m1) m1) 97 m1.toNatClampNeg) c1)), (0, ra V 87), (1, .int m1), (2, .int c1)] dX9_checkMember_235 (by decide) rfl ?_
                refine x_iload C dX9_checkMember_237 0 rfl ?_
                refine x_if_eq C 263 dX9_checkMember_239 rfl (fun h7 => ?_) (fun h7 => absurd h7 (by decide))
                refine x_aload_n C dX9_checkMember_263 rfl 3 rfl ?_
                refine x_bipush C (7 : Int32) (by decide) dX9_checkMember_264 ?_
                refine x_iload_n C dX9_checkMember_266 rfl 4 rfl ?_
                refine x_iload_n C dX9_checkMember_267 rfl 5 rfl ?_
                refine x_callV C sh_87 (by decide) rfl [.int (7 : Int32), .int m1, .int c1] (c_X9_note l V hV (mC2 c1 (mC1 c1 σ m1) m1) (7 : Int32) m1 c1 (vp_le (vp_lit 7 (by decide)) (by decide)) (vp_le hm1 (by decide))) (cwV 3 C.2.2.2.2.1 gX9_checkMember_X9_note rfl rfl rfl (by decide +kernel) ⟨Nat.le_of_ble_eq_true rfl, Nat.le_of_ble_eq_true rfl⟩) rfl rfl (Nat.le_of_ble_eq_true rfl) dX9_checkMember_268 ⟨Nat.le_of_ble_eq_true rfl, Nat.le_of_ble_eq_true rfl⟩ (x_kV ?_)
                exact x_vret C hr hlk dX9_checkMember_271 ⟨rfl, by rw [mC0]; simp [mC3, mCpa, mCf, mCsame, h2, h3, h4, h5, h6]⟩
              · refine x_aload_n C dX9_checkMember_206 rfl 2 rfl ?_
                refine x_getr C sh_87 rfl iX9 14 (by decide) f47 (fun _ h => h) (by decide) rfl dX9_checkMember_207 ?_
                refine x_iconst C (2 : Int32) (by decide) dX9_checkMember_210 ?_
                refine x_iload_n C dX9_checkMember_211 rfl 3 rfl ?_
                refine x_imul C dX9_checkMember_212 ?_
                refine x_iconst C (1 : Int32) (by decide) dX9_checkMember_213 ?_
                refine x_iadd C dX9_checkMember_214 ?_
                refine x_iald C sh_100 (vp_add (vp_mulk 2 hm1 (by decide)) (vp_lit 1 (by decide)) (by decide)) dX9_checkMember_215 ?_
                refine x_aload_n C dX9_checkMember_216 rfl 2 rfl ?_
                refine x_getr C sh_87 rfl iX9 14 (by decide) f47 (fun _ h => h) (by decide) rfl dX9_checkMember_217 ?_
                refine x_iconst C (2 : Int32) (by decide) dX9_checkMember_220 ?_
                refine x_iload C dX9_checkMember_221 0 rfl ?_
                refine x_imul C dX9_checkMember_223 ?_
                refine x_iconst C (1 : Int32) (by decide) dX9_checkMember_224 ?_
                refine x_iadd C dX9_checkMember_225 ?_
                refine x_iald C sh_100 (vp_add (vp_mulk 2 hfd (by decide)) (vp_lit 1 (by decide)) (by decide)) dX9_checkMember_226 ?_
                refine x_icmp_ne C 234 dX9_checkMember_227 rfl (fun h8 => ?_) (fun h8 => ?_)
                · refine x_iconst C (0 : Int32) (by decide) dX9_checkMember_234 ?_
                  refine x_istore C [(5, .int (0 : Int32)), (4, .int (mFi (mC2 c1 (mC1 c1 σ m1) m1) (mPa (mC2 c1 (mC1 c1 σ m1) m1) ((mC2 c1 (mC1 c1 σ m1) m1) 97 m1.toNatClampNeg) c1) ((mC2 c1 (mC1 c1 σ m1) m1) 98 m1.toNatClampNeg) (1 : Int32) c1)), (3, .int (mPa (mC2 c1 (mC1 c1 σ m1) m1) ((mC2 c1 (mC1 c1 σ m1) m1) 97 m1.toNatClampNeg) c1)), (0, ra V 87), (1, .int m1), (2, .int c1)] dX9_checkMember_235 (by decide) rfl ?_
                  refine x_iload C dX9_checkMember_237 0 rfl ?_
                  refine x_if_eq C 263 dX9_checkMember_239 rfl (fun h9 => ?_) (fun h9 => absurd h9 (by decide))
                  refine x_aload_n C dX9_checkMember_263 rfl 3 rfl ?_
                  refine x_bipush C (7 : Int32) (by decide) dX9_checkMember_264 ?_
                  refine x_iload_n C dX9_checkMember_266 rfl 4 rfl ?_
                  refine x_iload_n C dX9_checkMember_267 rfl 5 rfl ?_
                  refine x_callV C sh_87 (by decide) rfl [.int (7 : Int32), .int m1, .int c1] (c_X9_note l V hV (mC2 c1 (mC1 c1 σ m1) m1) (7 : Int32) m1 c1 (vp_le (vp_lit 7 (by decide)) (by decide)) (vp_le hm1 (by decide))) (cwV 3 C.2.2.2.2.1 gX9_checkMember_X9_note rfl rfl rfl (by decide +kernel) ⟨Nat.le_of_ble_eq_true rfl, Nat.le_of_ble_eq_true rfl⟩) rfl rfl (Nat.le_of_ble_eq_true rfl) dX9_checkMember_268 ⟨Nat.le_of_ble_eq_true rfl, Nat.le_of_ble_eq_true rfl⟩ (x_kV ?_)
                  exact x_vret C hr hlk dX9_checkMember_271 ⟨rfl, by rw [mC0]; simp [mC3, mCpa, mCf, mCsame, h2, h3, h4, h5, eq_true h6, h8]⟩
                · refine x_iconst C (1 : Int32) (by decide) dX9_checkMember_230 ?_
                  refine x_goto C 235 dX9_checkMember_231 rfl ?_
                  refine x_istore C [(5, .int (1 : Int32)), (4, .int (mFi (mC2 c1 (mC1 c1 σ m1) m1) (mPa (mC2 c1 (mC1 c1 σ m1) m1) ((mC2 c1 (mC1 c1 σ m1) m1) 97 m1.toNatClampNeg) c1) ((mC2 c1 (mC1 c1 σ m1) m1) 98 m1.toNatClampNeg) (1 : Int32) c1)), (3, .int (mPa (mC2 c1 (mC1 c1 σ m1) m1) ((mC2 c1 (mC1 c1 σ m1) m1) 97 m1.toNatClampNeg) c1)), (0, ra V 87), (1, .int m1), (2, .int c1)] dX9_checkMember_235 (by decide) rfl ?_
                  refine x_iload C dX9_checkMember_237 0 rfl ?_
                  refine x_if_eq C 263 dX9_checkMember_239 rfl (fun h10 => absurd h10 (by decide)) (fun h10 => ?_)
                  refine x_aload_n C dX9_checkMember_242 rfl 3 rfl ?_
                  refine x_aload_n C dX9_checkMember_243 rfl 3 rfl ?_
                  refine x_getr C sh_87 rfl iX9 13 (by decide) f44 (fun _ h => h) (by decide) rfl dX9_checkMember_244 ?_
                  refine x_iload_n C dX9_checkMember_247 rfl 4 rfl ?_
                  refine x_iald C sh_99 hm1 dX9_checkMember_248 ?_
                  refine x_aload_n C dX9_checkMember_249 rfl 3 rfl ?_
                  refine x_getr C sh_87 rfl iX9 13 (by decide) f44 (fun _ h => h) (by decide) rfl dX9_checkMember_250 ?_
                  refine x_iload C dX9_checkMember_253 1 rfl ?_
                  refine x_iald C sh_99 hfd dX9_checkMember_255 ?_
                  refine x_iload_n C dX9_checkMember_256 rfl 5 rfl ?_
                  refine x_callV C sh_87 (by decide) rfl [.int ((mC2 c1 (mC1 c1 σ m1) m1) 99 m1.toNatClampNeg), .int ((mC2 c1 (mC1 c1 σ m1) m1) 99 (mFi (mC2 c1 (mC1 c1 σ m1) m1) (mPa (mC2 c1 (mC1 c1 σ m1) m1) ((mC2 c1 (mC1 c1 σ m1) m1) 97 m1.toNatClampNeg) c1) ((mC2 c1 (mC1 c1 σ m1) m1) 98 m1.toNatClampNeg) (1 : Int32) c1).toNatClampNeg), .int c1] (c_X9_fits l V hV (mC2 c1 (mC1 c1 σ m1) m1) ((mC2 c1 (mC1 c1 σ m1) m1) 99 m1.toNatClampNeg) ((mC2 c1 (mC1 c1 σ m1) m1) 99 (mFi (mC2 c1 (mC1 c1 σ m1) m1) (mPa (mC2 c1 (mC1 c1 σ m1) m1) ((mC2 c1 (mC1 c1 σ m1) m1) 97 m1.toNatClampNeg) c1) ((mC2 c1 (mC1 c1 σ m1) m1) 98 m1.toNatClampNeg) (1 : Int32) c1).toNatClampNeg) c1 hM3) (cwV 3 C.2.2.2.2.1 gX9_checkMember_X9_fits rfl rfl rfl (by decide +kernel) ⟨Nat.le_of_ble_eq_true rfl, Nat.le_of_ble_eq_true rfl⟩) rfl rfl (Nat.le_of_ble_eq_true rfl) dX9_checkMember_257 ⟨Nat.le_of_ble_eq_true rfl, Nat.le_of_ble_eq_true rfl⟩ (x_kI ?_)
                  refine x_bif_ne C 271 dX9_checkMember_260 rfl (fun h11 => ?_) (fun h11 => ?_)
                  · exact x_vret C hr hlk dX9_checkMember_271 ⟨rfl, by rw [mC0]; simp [mC3, mCpa, mCf, mCsame, h2, h3, h4, h5, eq_true h6, eq_true h8, h11]⟩
                  · refine x_aload_n C dX9_checkMember_263 rfl 3 rfl ?_
                    refine x_bipush C (7 : Int32) (by decide) dX9_checkMember_264 ?_
                    refine x_iload_n C dX9_checkMember_266 rfl 4 rfl ?_
                    refine x_iload_n C dX9_checkMember_267 rfl 5 rfl ?_
                    refine x_callV C sh_87 (by decide) rfl [.int (7 : Int32), .int m1, .int c1] (c_X9_note l V hV (mC2 c1 (mC1 c1 σ m1) m1) (7 : Int32) m1 c1 (vp_le (vp_lit 7 (by decide)) (by decide)) (vp_le hm1 (by decide))) (cwV 3 C.2.2.2.2.1 gX9_checkMember_X9_note rfl rfl rfl (by decide +kernel) ⟨Nat.le_of_ble_eq_true rfl, Nat.le_of_ble_eq_true rfl⟩) rfl rfl (Nat.le_of_ble_eq_true rfl) dX9_checkMember_268 ⟨Nat.le_of_ble_eq_true rfl, Nat.le_of_ble_eq_true rfl⟩ (x_kV ?_)
                    exact x_vret C hr hlk dX9_checkMember_271 ⟨rfl, by rw [mC0]; simp [mC3, mCpa, mCf, mCsame, h2, h3, h4, h5, eq_true h6, eq_true h8, h11]⟩
            · exact x_vret C hr hlk dX9_checkMember_185 ⟨rfl, by rw [mC0]; simp [mC3, mCpa, mCf, mCsame, h2, h3, h4, eq_true h5]⟩
        · exact x_vret C hr hlk dX9_checkMember_157 ⟨rfl, by rw [mC0]; simp [mC3, mCpa, mCf, mCsame, h2, eq_true h3]⟩
    · have hkn : k < m1.toNatClampNeg := Nat.lt_of_not_le (fun hq => h1 ((le_nI (by have := clamp_lt m1; omega)).mpr hq))
      have hmc := vp_cl hm1
      have hM2 : mV (upN (mC2S m1 c1) k (mC1 c1 σ m1)) := mV_keep (fun r h1 h2 h3 h4 => upN_keep (mC2S_keep h2 m1 c1) k _) hM1
      refine x_aload_n C dX9_checkMember_62 rfl 0 rfl ?_
      refine x_getr C sh_87 rfl iX9 10 (by decide) f34 (fun _ h => h) (by decide) rfl dX9_checkMember_63 ?_
      refine x_iload_n C dX9_checkMember_66 rfl 3 rfl ?_
      refine x_zald C sh_96 (vp_in_nI (n := k) (N := 24) (by omega) (by decide)) dX9_checkMember_67 ?_
      refine x_aload_n C dX9_checkMember_68 rfl 0 rfl ?_
      refine x_getr C sh_87 rfl iX9 10 (by decide) f34 (fun _ h => h) (by decide) rfl dX9_checkMember_69 ?_
      refine x_iload_n C dX9_checkMember_72 rfl 1 rfl ?_
      refine x_zald C sh_96 hm1 dX9_checkMember_73 ?_
      refine x_icmp_ne C 125 dX9_checkMember_74 rfl (fun h12 => ?_) (fun h12 => ?_)
      · refine x_iinc C (q := 3) ((nI k) + (1 : Int32)) [(3, .int ((nI k) + (1 : Int32))), (0, ra V 87), (1, .int m1), (2, .int c1)] dX9_checkMember_125 rfl rfl (by decide) rfl ?_
        refine x_goto C 57 dX9_checkMember_128 rfl ?_
        refine x_lv [1, 2, 3, 0] [(0, ra V 87), (1, .int m1), (2, .int c1), (3, .int ((nI k) + (1 : Int32)))] rfl ?_
        exact ih57 _ _ _ (by omega) ⟨k + 1, rfl, Eq.symm (by rw [upN_s]; simp [mC2S, h12]), by rw [nI_succ], hkn⟩
      · refine x_aload_n C dX9_checkMember_77 rfl 0 rfl ?_
        refine x_getr C sh_87 rfl iX9 11 (by decide) f38 (fun _ h => h) (by decide) rfl dX9_checkMember_78 ?_
        refine x_iload_n C dX9_checkMember_81 rfl 3 rfl ?_
        refine x_iald C sh_97 (vp_in_nI (n := k) (N := 24) (by omega) (by decide)) dX9_checkMember_82 ?_
        refine x_aload_n C dX9_checkMember_83 rfl 0 rfl ?_
        refine x_getr C sh_87 rfl iX9 11 (by decide) f38 (fun _ h => h) (by decide) rfl dX9_checkMember_84 ?_
        refine x_iload_n C dX9_checkMember_87 rfl 1 rfl ?_
        refine x_iald C sh_97 hm1 dX9_checkMember_88 ?_
        refine x_icmp_ne C 125 dX9_checkMember_89 rfl (fun h13 => ?_) (fun h13 => ?_)
        · refine x_iinc C (q := 3) ((nI k) + (1 : Int32)) [(3, .int ((nI k) + (1 : Int32))), (0, ra V 87), (1, .int m1), (2, .int c1)] dX9_checkMember_125 rfl rfl (by decide) rfl ?_
          refine x_goto C 57 dX9_checkMember_128 rfl ?_
          refine x_lv [1, 2, 3, 0] [(0, ra V 87), (1, .int m1), (2, .int c1), (3, .int ((nI k) + (1 : Int32)))] rfl ?_
          exact ih57 _ _ _ (by omega) ⟨k + 1, rfl, Eq.symm (by rw [upN_s]; simp [mC2S, eq_true h12, h13]), by rw [nI_succ], hkn⟩
        · refine x_aload_n C dX9_checkMember_92 rfl 0 rfl ?_
          refine x_getr C sh_87 rfl iX9 12 (by decide) f41 (fun _ h => h) (by decide) rfl dX9_checkMember_93 ?_
          refine x_iload_n C dX9_checkMember_96 rfl 3 rfl ?_
          refine x_iald C sh_98 (vp_in_nI (n := k) (N := 24) (by omega) (by decide)) dX9_checkMember_97 ?_
          refine x_aload_n C dX9_checkMember_98 rfl 0 rfl ?_
          refine x_getr C sh_87 rfl iX9 12 (by decide) f41 (fun _ h => h) (by decide) rfl dX9_checkMember_99 ?_
          refine x_iload_n C dX9_checkMember_102 rfl 1 rfl ?_
          refine x_iald C sh_98 hm1 dX9_checkMember_103 ?_
          refine x_icmp_ne C 125 dX9_checkMember_104 rfl (fun h14 => ?_) (fun h14 => ?_)
          · refine x_iinc C (q := 3) ((nI k) + (1 : Int32)) [(3, .int ((nI k) + (1 : Int32))), (0, ra V 87), (1, .int m1), (2, .int c1)] dX9_checkMember_125 rfl rfl (by decide) rfl ?_
            refine x_goto C 57 dX9_checkMember_128 rfl ?_
            refine x_lv [1, 2, 3, 0] [(0, ra V 87), (1, .int m1), (2, .int c1), (3, .int ((nI k) + (1 : Int32)))] rfl ?_
            exact ih57 _ _ _ (by omega) ⟨k + 1, rfl, Eq.symm (by rw [upN_s]; simp [mC2S, eq_true h12, eq_true h13, h14]), by rw [nI_succ], hkn⟩
          · refine x_aload_n C dX9_checkMember_107 rfl 0 rfl ?_
            refine x_iconst C (2 : Int32) (by decide) dX9_checkMember_108 ?_
            refine x_iload_n C dX9_checkMember_109 rfl 3 rfl ?_
            refine x_iload_n C dX9_checkMember_110 rfl 2 rfl ?_
            refine x_callV C sh_87 (by decide) rfl [.int (2 : Int32), .int (nI k), .int c1] (c_X9_is_2 l V hV (upN (mC2S m1 c1) k (mC1 c1 σ m1)) (nI k) c1 hM2 (vp_in_nI (n := k) (N := 24) (by omega) (by decide))) (cwV 3 C.2.2.2.2.1 gX9_checkMember_X9_is rfl rfl rfl (by decide +kernel) ⟨Nat.le_of_ble_eq_true rfl, Nat.le_of_ble_eq_true rfl⟩) rfl rfl (Nat.le_of_ble_eq_true rfl) dX9_checkMember_111 ⟨Nat.le_of_ble_eq_true rfl, Nat.le_of_ble_eq_true rfl⟩ (x_kI ?_)
            refine x_bif_eq C 125 dX9_checkMember_114 rfl (fun h15 => ?_) (fun h15 => ?_)
            · refine x_iinc C (q := 3) ((nI k) + (1 : Int32)) [(3, .int ((nI k) + (1 : Int32))), (0, ra V 87), (1, .int m1), (2, .int c1)] dX9_checkMember_125 rfl rfl (by decide) rfl ?_
              refine x_goto C 57 dX9_checkMember_128 rfl ?_
              refine x_lv [1, 2, 3, 0] [(0, ra V 87), (1, .int m1), (2, .int c1), (3, .int ((nI k) + (1 : Int32)))] rfl ?_
              exact ih57 _ _ _ (by omega) ⟨k + 1, rfl, Eq.symm (by rw [upN_s]; simp [mC2S, eq_true h12, eq_true h13, eq_true h14, h15]), by rw [nI_succ], hkn⟩
            · refine x_aload_n C dX9_checkMember_117 rfl 0 rfl ?_
              refine x_bipush C (6 : Int32) (by decide) dX9_checkMember_118 ?_
              refine x_iload_n C dX9_checkMember_120 rfl 1 rfl ?_
              refine x_iload_n C dX9_checkMember_121 rfl 2 rfl ?_
              refine x_callV C sh_87 (by decide) rfl [.int (6 : Int32), .int m1, .int c1] (c_X9_note l V hV (upN (mC2S m1 c1) k (mC1 c1 σ m1)) (6 : Int32) m1 c1 (vp_le (vp_lit 6 (by decide)) (by decide)) (vp_le hm1 (by decide))) (cwV 3 C.2.2.2.2.1 gX9_checkMember_X9_note rfl rfl rfl (by decide +kernel) ⟨Nat.le_of_ble_eq_true rfl, Nat.le_of_ble_eq_true rfl⟩) rfl rfl (Nat.le_of_ble_eq_true rfl) dX9_checkMember_122 ⟨Nat.le_of_ble_eq_true rfl, Nat.le_of_ble_eq_true rfl⟩ (x_kV ?_)
              refine x_iinc C (q := 3) ((nI k) + (1 : Int32)) [(3, .int ((nI k) + (1 : Int32))), (0, ra V 87), (1, .int m1), (2, .int c1)] dX9_checkMember_125 rfl rfl (by decide) rfl ?_
              refine x_goto C 57 dX9_checkMember_128 rfl ?_
              refine x_lv [1, 2, 3, 0] [(0, ra V 87), (1, .int m1), (2, .int c1), (3, .int ((nI k) + (1 : Int32)))] rfl ?_
              exact ih57 _ _ _ (by omega) ⟨k + 1, rfl, Eq.symm (by rw [upN_s]; simp [mC2S, eq_true h12, eq_true h13, eq_true h14, h15]), by rw [nI_succ], hkn⟩
  · refine x_aload_n C dX9_checkMember_0 rfl 0 rfl ?_
    refine x_aload_n C dX9_checkMember_1 rfl 0 rfl ?_
    refine x_getr C sh_87 rfl iX9 13 (by decide) f44 (fun _ h => h) (by decide) rfl dX9_checkMember_2 ?_
    refine x_iload_n C dX9_checkMember_5 rfl 1 rfl ?_
    refine x_iald C sh_99 hm1 dX9_checkMember_6 ?_
    refine x_iload_n C dX9_checkMember_7 rfl 2 rfl ?_
    refine x_callV C sh_87 (by decide) rfl [.int (σ 99 m1.toNatClampNeg), .int c1] (c_X9_isGone l V hV σ (σ 99 m1.toNatClampNeg) c1 hM (Or.inr (mv99 hM hm1))) (cwV 2 C.2.2.2.2.1 gX9_checkMember_X9_isGone rfl rfl rfl (by decide +kernel) ⟨Nat.le_of_ble_eq_true rfl, Nat.le_of_ble_eq_true rfl⟩) rfl rfl (Nat.le_of_ble_eq_true rfl) dX9_checkMember_8 ⟨Nat.le_of_ble_eq_true rfl, Nat.le_of_ble_eq_true rfl⟩ (x_kI ?_)
    refine x_bif_ne C 48 dX9_checkMember_11 rfl (fun h16 => ?_) (fun h16 => ?_)
    · refine x_aload_n C dX9_checkMember_48 rfl 0 rfl ?_
      refine x_iconst C (5 : Int32) (by decide) dX9_checkMember_49 ?_
      refine x_iload_n C dX9_checkMember_50 rfl 1 rfl ?_
      refine x_iload_n C dX9_checkMember_51 rfl 2 rfl ?_
      refine x_callV C sh_87 (by decide) rfl [.int (5 : Int32), .int m1, .int c1] (c_X9_note l V hV σ (5 : Int32) m1 c1 (vp_le (vp_lit 5 (by decide)) (by decide)) (vp_le hm1 (by decide))) (cwV 3 C.2.2.2.2.1 gX9_checkMember_X9_note rfl rfl rfl (by decide +kernel) ⟨Nat.le_of_ble_eq_true rfl, Nat.le_of_ble_eq_true rfl⟩) rfl rfl (Nat.le_of_ble_eq_true rfl) dX9_checkMember_52 ⟨Nat.le_of_ble_eq_true rfl, Nat.le_of_ble_eq_true rfl⟩ (x_kV ?_)
      refine x_lv [0, 1, 2] [(0, ra V 87), (1, .int m1), (2, .int c1)] rfl ?_
      exact x_ss (⟨by simp [mC1, h16], rfl⟩) hJ55
    · refine x_aload_n C dX9_checkMember_14 rfl 0 rfl ?_
      refine x_aload_n C dX9_checkMember_15 rfl 0 rfl ?_
      refine x_getr C sh_87 rfl iX9 14 (by decide) f47 (fun _ h => h) (by decide) rfl dX9_checkMember_16 ?_
      refine x_iconst C (2 : Int32) (by decide) dX9_checkMember_19 ?_
      refine x_iload_n C dX9_checkMember_20 rfl 1 rfl ?_
      refine x_imul C dX9_checkMember_21 ?_
      refine x_iald C sh_100 (vp_le (vp_mulk 2 hm1 (by decide)) (by decide)) dX9_checkMember_22 ?_
      refine x_iload_n C dX9_checkMember_23 rfl 2 rfl ?_
      refine x_callV C sh_87 (by decide) rfl [.int (σ 100 ((2 : Int32) * m1).toNatClampNeg), .int c1] (c_X9_isGone l V hV σ (σ 100 ((2 : Int32) * m1).toNatClampNeg) c1 hM (mv100 hM (vp_le (vp_mulk 2 hm1 (by decide)) (by decide)))) (cwV 2 C.2.2.2.2.1 gX9_checkMember_X9_isGone rfl rfl rfl (by decide +kernel) ⟨Nat.le_of_ble_eq_true rfl, Nat.le_of_ble_eq_true rfl⟩) rfl rfl (Nat.le_of_ble_eq_true rfl) dX9_checkMember_24 ⟨Nat.le_of_ble_eq_true rfl, Nat.le_of_ble_eq_true rfl⟩ (x_kI ?_)
      refine x_bif_ne C 48 dX9_checkMember_27 rfl (fun h17 => ?_) (fun h17 => ?_)
      · refine x_aload_n C dX9_checkMember_48 rfl 0 rfl ?_
        refine x_iconst C (5 : Int32) (by decide) dX9_checkMember_49 ?_
        refine x_iload_n C dX9_checkMember_50 rfl 1 rfl ?_
        refine x_iload_n C dX9_checkMember_51 rfl 2 rfl ?_
        refine x_callV C sh_87 (by decide) rfl [.int (5 : Int32), .int m1, .int c1] (c_X9_note l V hV σ (5 : Int32) m1 c1 (vp_le (vp_lit 5 (by decide)) (by decide)) (vp_le hm1 (by decide))) (cwV 3 C.2.2.2.2.1 gX9_checkMember_X9_note rfl rfl rfl (by decide +kernel) ⟨Nat.le_of_ble_eq_true rfl, Nat.le_of_ble_eq_true rfl⟩) rfl rfl (Nat.le_of_ble_eq_true rfl) dX9_checkMember_52 ⟨Nat.le_of_ble_eq_true rfl, Nat.le_of_ble_eq_true rfl⟩ (x_kV ?_)
        refine x_lv [0, 1, 2] [(0, ra V 87), (1, .int m1), (2, .int c1)] rfl ?_
        exact x_ss (⟨by simp [mC1, h16, h17], rfl⟩) hJ55
      · refine x_aload_n C dX9_checkMember_30 rfl 0 rfl ?_
        refine x_aload_n C dX9_checkMember_31 rfl 0 rfl ?_
        refine x_getr C sh_87 rfl iX9 14 (by decide) f47 (fun _ h => h) (by decide) rfl dX9_checkMember_32 ?_
        refine x_iconst C (2 : Int32) (by decide) dX9_checkMember_35 ?_
        refine x_iload_n C dX9_checkMember_36 rfl 1 rfl ?_
        refine x_imul C dX9_checkMember_37 ?_
        refine x_iconst C (1 : Int32) (by decide) dX9_checkMember_38 ?_
        refine x_iadd C dX9_checkMember_39 ?_
        refine x_iald C sh_100 (vp_add (vp_mulk 2 hm1 (by decide)) (vp_lit 1 (by decide)) (by decide)) dX9_checkMember_40 ?_
        refine x_iload_n C dX9_checkMember_41 rfl 2 rfl ?_
        refine x_callV C sh_87 (by decide) rfl [.int (σ 100 (((2 : Int32) * m1) + (1 : Int32)).toNatClampNeg), .int c1] (c_X9_isGone l V hV σ (σ 100 (((2 : Int32) * m1) + (1 : Int32)).toNatClampNeg) c1 hM (mv100 hM (vp_add (vp_mulk 2 hm1 (by decide)) (vp_lit 1 (by decide)) (by decide)))) (cwV 2 C.2.2.2.2.1 gX9_checkMember_X9_isGone rfl rfl rfl (by decide +kernel) ⟨Nat.le_of_ble_eq_true rfl, Nat.le_of_ble_eq_true rfl⟩) rfl rfl (Nat.le_of_ble_eq_true rfl) dX9_checkMember_42 ⟨Nat.le_of_ble_eq_true rfl, Nat.le_of_ble_eq_true rfl⟩ (x_kI ?_)
        refine x_bif_eq C 55 dX9_checkMember_45 rfl (fun h18 => ?_) (fun h18 => ?_)
        · refine x_lv [0, 1, 2] [(0, ra V 87), (1, .int m1), (2, .int c1)] rfl ?_
          exact x_ss (⟨by simp [mC1, h16, h17, h18], rfl⟩) hJ55
        · refine x_aload_n C dX9_checkMember_48 rfl 0 rfl ?_
          refine x_iconst C (5 : Int32) (by decide) dX9_checkMember_49 ?_
          refine x_iload_n C dX9_checkMember_50 rfl 1 rfl ?_
          refine x_iload_n C dX9_checkMember_51 rfl 2 rfl ?_
          refine x_callV C sh_87 (by decide) rfl [.int (5 : Int32), .int m1, .int c1] (c_X9_note l V hV σ (5 : Int32) m1 c1 (vp_le (vp_lit 5 (by decide)) (by decide)) (vp_le hm1 (by decide))) (cwV 3 C.2.2.2.2.1 gX9_checkMember_X9_note rfl rfl rfl (by decide +kernel) ⟨Nat.le_of_ble_eq_true rfl, Nat.le_of_ble_eq_true rfl⟩) rfl rfl (Nat.le_of_ble_eq_true rfl) dX9_checkMember_52 ⟨Nat.le_of_ble_eq_true rfl, Nat.le_of_ble_eq_true rfl⟩ (x_kV ?_)
          refine x_lv [0, 1, 2] [(0, ra V 87), (1, .int m1), (2, .int c1)] rfl ?_
          exact x_ss (⟨by simp [mC1, h16, h17, h18], rfl⟩) hJ55

set_option maxHeartbeats 4000000 in
set_option maxRecDepth 100000 in
theorem c_X9_checkProgram (l : Launch) (V : xV) (hV : xInj V) (σ : xS) (c1 : Int32) (hM : mV σ) (hc : vp_in c1 16) : xM l yX9_checkProgram wsX9_checkProgram ({ frames := 7, cells := 0, slots := 0, locals := 166 }) V [ra V 87, .int c1] σ (rV (mCP σ c1)) := by
  refine xM_of (cc := cX9_checkProgram) (maxL := 5) (ret := none) [(0, ra V 87), (1, .int c1)] hV (by decide) rfl rfl (Nat.le_of_ble_eq_true rfl) (fun p e s m args below meth c C hr hlk => ?_)
  have iX9 : ∀ w ∈ u_ws RX9 TX9 24, w ∈ wsX9_checkProgram := by decide +kernel
  have f19 : (Cond.fieldLink RX9 19 RX9 (TX9 5).2.1 (TX9 5).2.2.1).before args s = true := C.2.2.2.2.1 _ (by decide +kernel)
  have f38 : (Cond.fieldLink RX9 38 RX9 (TX9 11).2.1 (TX9 11).2.2.1).before args s = true := C.2.2.2.2.1 _ (by decide +kernel)
  have f28 : (Cond.fieldLink RX9 28 RX9 (TX9 8).2.1 (TX9 8).2.2.1).before args s = true := C.2.2.2.2.1 _ (by decide +kernel)
  have f31 : (Cond.fieldLink RX9 31 RX9 (TX9 9).2.1 (TX9 9).2.2.1).before args s = true := C.2.2.2.2.1 _ (by decide +kernel)
  refine x_iconst C (0 : Int32) (by decide) dX9_checkProgram_0 ?_
  refine x_istore_n C [(2, .int (0 : Int32)), (0, ra V 87), (1, .int c1)] dX9_checkProgram_1 rfl (by decide) rfl ?_
  refine x_lv [1, 2, 0] [(0, ra V 87), (1, .int c1), (2, .int (0 : Int32))] rfl ?_
  refine x_loop (fun μ σ_ lv_ => ∃ (k : Nat), μ = (σ 91 1).toNatClampNeg - k ∧ upN (mL1 c1) k σ = σ_ ∧ lv_ = [(0, ra V 87), (1, .int c1), (2, .int (nI k))] ∧ k ≤ (σ 91 1).toNatClampNeg) ⟨_, ⟨0, rfl, rfl, rfl, Nat.zero_le _⟩⟩ ?_
  rintro μ2 _ _ ⟨k, hμ2, rfl, rfl, hc2_0⟩ ih2
  refine x_iload_n C dX9_checkProgram_2 rfl 2 rfl ?_
  refine x_aload_n C dX9_checkProgram_3 rfl 0 rfl ?_
  refine x_getr C sh_87 rfl iX9 5 (by decide) f19 (fun _ h => h) (by decide) rfl dX9_checkProgram_4 ?_
  refine x_iconst C (1 : Int32) (by decide) dX9_checkProgram_7 ?_
  refine x_iald C sh_91 (vp_le (vp_lit 1 (by decide)) (by decide)) dX9_checkProgram_8 ?_
  refine x_icmp_ge C 65 dX9_checkProgram_9 rfl (fun h1 => ?_) (fun h1 => ?_)
  · have hq91 : (upN (mL1 c1) k σ) 91 = σ 91 := by rw [upN_keep (mL1_keep (r := 91) (by decide) c1)]
    rw [hq91] at h1
    refine x_s (σ' := mCP1 σ c1) (by rw [mCP1, show (σ 91 1).toNatClampNeg = k from Nat.le_antisymm ((le_nI (by have := clamp_lt (σ 91 1); omega)).mp h1) hc2_0]) ?_
    refine x_iconst C (0 : Int32) (by decide) dX9_checkProgram_65 ?_
    refine x_istore_n C [(2, .int (0 : Int32)), (0, ra V 87), (1, .int c1)] dX9_checkProgram_66 rfl (by decide) rfl ?_
    refine x_lv [1, 2, 0] [(0, ra V 87), (1, .int c1), (2, .int (0 : Int32))] rfl ?_
    refine x_loop (fun μ σ_ lv_ => ∃ (k : Nat), μ = (σ 91 0).toNatClampNeg - k ∧ upN (mL2 c1) k (mCP1 σ c1) = σ_ ∧ lv_ = [(0, ra V 87), (1, .int c1), (2, .int (nI k))] ∧ k ≤ (σ 91 0).toNatClampNeg) ⟨_, ⟨0, rfl, rfl, rfl, Nat.zero_le _⟩⟩ ?_
    rintro μ67 _ _ ⟨k, hμ67, rfl, rfl, hc67_0⟩ ih67
    refine x_iload_n C dX9_checkProgram_67 rfl 2 rfl ?_
    refine x_aload_n C dX9_checkProgram_68 rfl 0 rfl ?_
    refine x_getr C sh_87 rfl iX9 5 (by decide) f19 (fun _ h => h) (by decide) rfl dX9_checkProgram_69 ?_
    refine x_iconst C (0 : Int32) (by decide) dX9_checkProgram_72 ?_
    refine x_iald C sh_91 (vp_le (vp_lit 0 (by decide)) (by decide)) dX9_checkProgram_73 ?_
    refine x_icmp_ge C 177 dX9_checkProgram_74 rfl (fun h2 => ?_) (fun h2 => ?_)
    · have hq91 : (upN (mL2 c1) k (mCP1 σ c1)) 91 = σ 91 := by rw [upN_keep (mL2_keep (r := 91) (by decide) c1)]; rw [mCP1_keep (by decide)]
      rw [hq91] at h2
      refine x_s (σ' := mCP2 σ c1) (by rw [mCP2, show (σ 91 0).toNatClampNeg = k from Nat.le_antisymm ((le_nI (by have := clamp_lt (σ 91 0); omega)).mp h2) hc67_0]) ?_
      refine x_iconst C (0 : Int32) (by decide) dX9_checkProgram_177 ?_
      refine x_istore_n C [(2, .int (0 : Int32)), (0, ra V 87), (1, .int c1)] dX9_checkProgram_178 rfl (by decide) rfl ?_
      refine x_lv [1, 2, 0] [(0, ra V 87), (1, .int c1), (2, .int (0 : Int32))] rfl ?_
      refine x_loop (fun μ σ_ lv_ => ∃ (k : Nat), μ = (σ 91 2).toNatClampNeg - k ∧ upN (mL3 c1) k (mCP2 σ c1) = σ_ ∧ lv_ = [(0, ra V 87), (1, .int c1), (2, .int (nI k))] ∧ k ≤ (σ 91 2).toNatClampNeg) ⟨_, ⟨0, rfl, rfl, rfl, Nat.zero_le _⟩⟩ ?_
      rintro μ179 _ _ ⟨k, hμ179, rfl, rfl, hc179_0⟩ ih179
      refine x_iload_n C dX9_checkProgram_179 rfl 2 rfl ?_
      refine x_aload_n C dX9_checkProgram_180 rfl 0 rfl ?_
      refine x_getr C sh_87 rfl iX9 5 (by decide) f19 (fun _ h => h) (by decide) rfl dX9_checkProgram_181 ?_
      refine x_iconst C (2 : Int32) (by decide) dX9_checkProgram_184 ?_
      refine x_iald C sh_91 (vp_le (vp_lit 2 (by decide)) (by decide)) dX9_checkProgram_185 ?_
      refine x_icmp_ge C 243 dX9_checkProgram_186 rfl (fun h3 => ?_) (fun h3 => ?_)
      · exact x_vret C hr hlk dX9_checkProgram_243 ⟨rfl, by
            have hq91 : (upN (mL3 c1) k (mCP2 σ c1)) 91 = σ 91 := by rw [upN_keep (mL3_keep (r := 91) (by decide) c1)]; rw [mCP2_keep (by decide)]
            rw [hq91] at h3
            rw [mCP, show (σ 91 2).toNatClampNeg = k from Nat.le_antisymm ((le_nI (by have := clamp_lt (σ 91 2); omega)).mp h3) hc179_0]⟩
      · have hq91 : (upN (mL3 c1) k (mCP2 σ c1)) 91 = σ 91 := by rw [upN_keep (mL3_keep (r := 91) (by decide) c1)]; rw [mCP2_keep (by decide)]
        rw [hq91] at h3
        have hkn : k < (σ 91 2).toNatClampNeg := Nat.lt_of_not_le (fun hq => h3 ((le_nI (by have := clamp_lt (σ 91 2); omega)).mpr hq))
        have hb := (mvc2 hM).2
        have hMc : mV (upN (mL3 c1) k (mCP2 σ c1)) := mV_keep (fun r h1 h2 h3 h4 => by rw [upN_keep (mL3_keep h2 c1)]; rw [mCP2_keep h2]) hM
        refine x_join (mL3a c1 (upN (mL3 c1) k (mCP2 σ c1)) (nI k)) 221 [(0, ra V 87), (1, .int c1), (2, .int (nI k))] [] ?_ (fun hJ221 => ?_)
        · have hMc2 : mV (mL3a c1 (upN (mL3 c1) k (mCP2 σ c1)) (nI k)) := mV_keep (fun r h1 h2 h3 h4 => mL3a_keep h2 c1 _ _) hMc
          refine x_aload_n C dX9_checkProgram_221 rfl 0 rfl ?_
          refine x_iconst C (2 : Int32) (by decide) dX9_checkProgram_222 ?_
          refine x_iload_n C dX9_checkProgram_223 rfl 2 rfl ?_
          refine x_iload_n C dX9_checkProgram_224 rfl 1 rfl ?_
          refine x_callV C sh_87 (by decide) rfl [.int (2 : Int32), .int (nI k), .int c1] (c_X9_is_2 l V hV (mL3a c1 (upN (mL3 c1) k (mCP2 σ c1)) (nI k)) (nI k) c1 hMc2 (vp_in_nI (n := k) (N := 24) (by omega) (by decide))) (cwV 3 C.2.2.2.2.1 gX9_checkProgram_X9_is rfl rfl rfl (by decide +kernel) ⟨Nat.le_of_ble_eq_true rfl, Nat.le_of_ble_eq_true rfl⟩) rfl rfl (Nat.le_of_ble_eq_true rfl) dX9_checkProgram_225 ⟨Nat.le_of_ble_eq_true rfl, Nat.le_of_ble_eq_true rfl⟩ (x_kI ?_)
          refine x_bif_eq C 237 dX9_checkProgram_228 rfl (fun h4 => ?_) (fun h4 => ?_)
          · refine x_iinc C (q := 2) ((nI k) + (1 : Int32)) [(2, .int ((nI k) + (1 : Int32))), (0, ra V 87), (1, .int c1)] dX9_checkProgram_237 rfl rfl (by decide) rfl ?_
            refine x_goto C 179 dX9_checkProgram_240 rfl ?_
            refine x_lv [1, 2, 0] [(0, ra V 87), (1, .int c1), (2, .int ((nI k) + (1 : Int32)))] rfl ?_
            exact ih179 _ _ _ (by omega) ⟨k + 1, rfl, Eq.symm (by rw [upN_s]; simp [mL3, h1, h2, h4]), by rw [nI_succ], hkn⟩
          · refine x_aload_n C dX9_checkProgram_231 rfl 0 rfl ?_
            refine x_iload_n C dX9_checkProgram_232 rfl 2 rfl ?_
            refine x_iload_n C dX9_checkProgram_233 rfl 1 rfl ?_
            refine x_callV C sh_87 (by decide) rfl [.int (nI k), .int c1] (c_X9_checkMember l V hV (mL3a c1 (upN (mL3 c1) k (mCP2 σ c1)) (nI k)) (nI k) c1 hMc2 (vp_in_nI (n := k) (N := 24) (by omega) (by decide)) hc) (cwV 2 C.2.2.2.2.1 gX9_checkProgram_X9_checkMember rfl rfl rfl (by decide +kernel) ⟨Nat.le_of_ble_eq_true rfl, Nat.le_of_ble_eq_true rfl⟩) rfl rfl (Nat.le_of_ble_eq_true rfl) dX9_checkProgram_234 ⟨Nat.le_of_ble_eq_true rfl, Nat.le_of_ble_eq_true rfl⟩ (x_kV ?_)
            refine x_iinc C (q := 2) ((nI k) + (1 : Int32)) [(2, .int ((nI k) + (1 : Int32))), (0, ra V 87), (1, .int c1)] dX9_checkProgram_237 rfl rfl (by decide) rfl ?_
            refine x_goto C 179 dX9_checkProgram_240 rfl ?_
            refine x_lv [1, 2, 0] [(0, ra V 87), (1, .int c1), (2, .int ((nI k) + (1 : Int32)))] rfl ?_
            exact ih179 _ _ _ (by omega) ⟨k + 1, rfl, Eq.symm (by rw [upN_s]; simp [mL3, h1, h2, h4]), by rw [nI_succ], hkn⟩
        · refine x_aload_n C dX9_checkProgram_189 rfl 0 rfl ?_
          refine x_iconst C (2 : Int32) (by decide) dX9_checkProgram_190 ?_
          refine x_iload_n C dX9_checkProgram_191 rfl 2 rfl ?_
          refine x_iload_n C dX9_checkProgram_192 rfl 1 rfl ?_
          refine x_callV C sh_87 (by decide) rfl [.int (2 : Int32), .int (nI k), .int c1] (c_X9_isMeant_2 l V hV (upN (mL3 c1) k (mCP2 σ c1)) (nI k) c1 (vp_in_nI (n := k) (N := 24) (by omega) (by decide))) (cwV 3 C.2.2.2.2.1 gX9_checkProgram_X9_isMeant rfl rfl rfl (by decide +kernel) ⟨Nat.le_of_ble_eq_true rfl, Nat.le_of_ble_eq_true rfl⟩) rfl rfl (Nat.le_of_ble_eq_true rfl) dX9_checkProgram_193 ⟨Nat.le_of_ble_eq_true rfl, Nat.le_of_ble_eq_true rfl⟩ (x_kI ?_)
          refine x_bif_eq C 221 dX9_checkProgram_196 rfl (fun h5 => ?_) (fun h5 => ?_)
          · refine x_lv [0, 1, 2] [(0, ra V 87), (1, .int c1), (2, .int (nI k))] rfl ?_
            exact x_ss (⟨by simp [mL3a, h5], rfl⟩) hJ221
          · refine x_aload_n C dX9_checkProgram_199 rfl 0 rfl ?_
            refine x_iconst C (0 : Int32) (by decide) dX9_checkProgram_200 ?_
            refine x_aload_n C dX9_checkProgram_201 rfl 0 rfl ?_
            refine x_getr C sh_87 rfl iX9 11 (by decide) f38 (fun _ h => h) (by decide) rfl dX9_checkProgram_202 ?_
            refine x_iload_n C dX9_checkProgram_205 rfl 2 rfl ?_
            refine x_iald C sh_97 (vp_in_nI (n := k) (N := 24) (by omega) (by decide)) dX9_checkProgram_206 ?_
            refine x_iload_n C dX9_checkProgram_207 rfl 1 rfl ?_
            refine x_callV C sh_87 (by decide) rfl [.int (0 : Int32), .int ((upN (mL3 c1) k (mCP2 σ c1)) 97 (nI k).toNatClampNeg), .int c1] (c_X9_is_0 l V hV (upN (mL3 c1) k (mCP2 σ c1)) ((upN (mL3 c1) k (mCP2 σ c1)) 97 (nI k).toNatClampNeg) c1 hMc (vp_le (mv97 hMc (vp_in_nI (n := k) (N := 24) (by omega) (by decide))) (by decide))) (cwV 3 C.2.2.2.2.1 gX9_checkProgram_X9_is rfl rfl rfl (by decide +kernel) ⟨Nat.le_of_ble_eq_true rfl, Nat.le_of_ble_eq_true rfl⟩) rfl rfl (Nat.le_of_ble_eq_true rfl) dX9_checkProgram_208 ⟨Nat.le_of_ble_eq_true rfl, Nat.le_of_ble_eq_true rfl⟩ (x_kI ?_)
            refine x_bif_ne C 221 dX9_checkProgram_211 rfl (fun h6 => ?_) (fun h6 => ?_)
            · refine x_lv [0, 1, 2] [(0, ra V 87), (1, .int c1), (2, .int (nI k))] rfl ?_
              exact x_ss (⟨by simp [mL3a, h5, h6], rfl⟩) hJ221
            · refine x_aload_n C dX9_checkProgram_214 rfl 0 rfl ?_
              refine x_iconst C (4 : Int32) (by decide) dX9_checkProgram_215 ?_
              refine x_iload_n C dX9_checkProgram_216 rfl 2 rfl ?_
              refine x_iload_n C dX9_checkProgram_217 rfl 1 rfl ?_
              refine x_callV C sh_87 (by decide) rfl [.int (4 : Int32), .int (nI k), .int c1] (c_X9_note l V hV (upN (mL3 c1) k (mCP2 σ c1)) (4 : Int32) (nI k) c1 (vp_le (vp_lit 4 (by decide)) (by decide)) (vp_le (vp_in_nI (n := k) (N := 24) (by omega) (by decide)) (by decide))) (cwV 3 C.2.2.2.2.1 gX9_checkProgram_X9_note rfl rfl rfl (by decide +kernel) ⟨Nat.le_of_ble_eq_true rfl, Nat.le_of_ble_eq_true rfl⟩) rfl rfl (Nat.le_of_ble_eq_true rfl) dX9_checkProgram_218 ⟨Nat.le_of_ble_eq_true rfl, Nat.le_of_ble_eq_true rfl⟩ (x_kV ?_)
              refine x_lv [0, 1, 2] [(0, ra V 87), (1, .int c1), (2, .int (nI k))] rfl ?_
              exact x_ss (⟨by simp [mL3a, h5, h6], rfl⟩) hJ221
    · have hq91 : (upN (mL2 c1) k (mCP1 σ c1)) 91 = σ 91 := by rw [upN_keep (mL2_keep (r := 91) (by decide) c1)]; rw [mCP1_keep (by decide)]
      rw [hq91] at h2
      have hkn : k < (σ 91 0).toNatClampNeg := Nat.lt_of_not_le (fun hq => h2 ((le_nI (by have := clamp_lt (σ 91 0); omega)).mpr hq))
      have hb := (mvc0 hM).2
      have hMb : mV (upN (mL2 c1) k (mCP1 σ c1)) := mV_keep (fun r h1 h2 h3 h4 => by rw [upN_keep (mL2_keep h2 c1)]; rw [mCP1_keep h2]) hM
      refine x_aload_n C dX9_checkProgram_77 rfl 0 rfl ?_
      refine x_iconst C (0 : Int32) (by decide) dX9_checkProgram_78 ?_
      refine x_iload_n C dX9_checkProgram_79 rfl 2 rfl ?_
      refine x_iload_n C dX9_checkProgram_80 rfl 1 rfl ?_
      refine x_callV C sh_87 (by decide) rfl [.int (0 : Int32), .int (nI k), .int c1] (c_X9_is_0 l V hV (upN (mL2 c1) k (mCP1 σ c1)) (nI k) c1 hMb (vp_le (vp_in_nI (n := k) (N := 8) (by omega) (by decide)) (by decide))) (cwV 3 C.2.2.2.2.1 gX9_checkProgram_X9_is rfl rfl rfl (by decide +kernel) ⟨Nat.le_of_ble_eq_true rfl, Nat.le_of_ble_eq_true rfl⟩) rfl rfl (Nat.le_of_ble_eq_true rfl) dX9_checkProgram_81 ⟨Nat.le_of_ble_eq_true rfl, Nat.le_of_ble_eq_true rfl⟩ (x_kI ?_)
      refine x_bif_ne C 90 dX9_checkProgram_84 rfl (fun h7 => ?_) (fun h7 => ?_)
      · refine x_join (mL2a c1 (upN (mL2 c1) k (mCP1 σ c1)) (nI k)) 154 [(0, ra V 87), (1, .int c1), (2, .int (nI k))] [] ?_ (fun hJ154 => ?_)
        · have hMb2 : mV (mL2a c1 (upN (mL2 c1) k (mCP1 σ c1)) (nI k)) := mV_keep (fun r h1 h2 h3 h4 => mL2a_keep h2 c1 _ _) hMb
          refine x_aload_n C dX9_checkProgram_154 rfl 0 rfl ?_
          refine x_iload_n C dX9_checkProgram_155 rfl 2 rfl ?_
          refine x_iload_n C dX9_checkProgram_156 rfl 2 rfl ?_
          refine x_iload_n C dX9_checkProgram_157 rfl 1 rfl ?_
          refine x_callV C sh_87 (by decide) rfl [.int (nI k), .int (nI k), .int c1] (c_X9_below l V hV (mL2a c1 (upN (mL2 c1) k (mCP1 σ c1)) (nI k)) (nI k) (nI k) c1 hMb2) (cwV 3 C.2.2.2.2.1 gX9_checkProgram_X9_below rfl rfl rfl (by decide +kernel) ⟨Nat.le_of_ble_eq_true rfl, Nat.le_of_ble_eq_true rfl⟩) rfl rfl (Nat.le_of_ble_eq_true rfl) dX9_checkProgram_158 ⟨Nat.le_of_ble_eq_true rfl, Nat.le_of_ble_eq_true rfl⟩ (x_kI ?_)
          refine x_bif_eq C 171 dX9_checkProgram_161 rfl (fun h8 => ?_) (fun h8 => ?_)
          · refine x_iinc C (q := 2) ((nI k) + (1 : Int32)) [(2, .int ((nI k) + (1 : Int32))), (0, ra V 87), (1, .int c1)] dX9_checkProgram_171 rfl rfl (by decide) rfl ?_
            refine x_goto C 67 dX9_checkProgram_174 rfl ?_
            refine x_lv [1, 2, 0] [(0, ra V 87), (1, .int c1), (2, .int ((nI k) + (1 : Int32)))] rfl ?_
            exact ih67 _ _ _ (by omega) ⟨k + 1, rfl, Eq.symm (by rw [upN_s]; simp [mL2, h1, h7, h8]), by rw [nI_succ], hkn⟩
          · refine x_aload_n C dX9_checkProgram_164 rfl 0 rfl ?_
            refine x_iconst C (3 : Int32) (by decide) dX9_checkProgram_165 ?_
            refine x_iload_n C dX9_checkProgram_166 rfl 2 rfl ?_
            refine x_iload_n C dX9_checkProgram_167 rfl 1 rfl ?_
            refine x_callV C sh_87 (by decide) rfl [.int (3 : Int32), .int (nI k), .int c1] (c_X9_note l V hV (mL2a c1 (upN (mL2 c1) k (mCP1 σ c1)) (nI k)) (3 : Int32) (nI k) c1 (vp_le (vp_lit 3 (by decide)) (by decide)) (vp_le (vp_in_nI (n := k) (N := 8) (by omega) (by decide)) (by decide))) (cwV 3 C.2.2.2.2.1 gX9_checkProgram_X9_note rfl rfl rfl (by decide +kernel) ⟨Nat.le_of_ble_eq_true rfl, Nat.le_of_ble_eq_true rfl⟩) rfl rfl (Nat.le_of_ble_eq_true rfl) dX9_checkProgram_168 ⟨Nat.le_of_ble_eq_true rfl, Nat.le_of_ble_eq_true rfl⟩ (x_kV ?_)
            refine x_iinc C (q := 2) ((nI k) + (1 : Int32)) [(2, .int ((nI k) + (1 : Int32))), (0, ra V 87), (1, .int c1)] dX9_checkProgram_171 rfl rfl (by decide) rfl ?_
            refine x_goto C 67 dX9_checkProgram_174 rfl ?_
            refine x_lv [1, 2, 0] [(0, ra V 87), (1, .int c1), (2, .int ((nI k) + (1 : Int32)))] rfl ?_
            exact ih67 _ _ _ (by omega) ⟨k + 1, rfl, Eq.symm (by rw [upN_s]; simp [mL2, h1, h7, h8]), by rw [nI_succ], hkn⟩
        · refine x_iconst C (0 : Int32) (by decide) dX9_checkProgram_90 ?_
          refine x_istore_n C [(3, .int (0 : Int32)), (0, ra V 87), (1, .int c1), (2, .int (nI k))] dX9_checkProgram_91 rfl (by decide) rfl ?_
          refine x_iconst C (0 : Int32) (by decide) dX9_checkProgram_92 ?_
          refine x_istore C [(4, .int (0 : Int32)), (3, .int (0 : Int32)), (0, ra V 87), (1, .int c1), (2, .int (nI k))] dX9_checkProgram_93 (by decide) rfl ?_
          refine x_lv [2, 3, 4, 1, 0] [(0, ra V 87), (1, .int c1), (2, .int (nI k)), (3, .int (0 : Int32)), (4, .int (0 : Int32))] rfl ?_
          refine x_loop (fun μ σ_ lv_ => ∃ (j : Nat), μ = (σ 91 1).toNatClampNeg - j ∧ upN (mL2 c1) k (mCP1 σ c1) = σ_ ∧ lv_ = [(0, ra V 87), (1, .int c1), (2, .int (nI k)), (3, .int (mCtN (upN (mL2 c1) k (mCP1 σ c1)) (nI k) c1 j)), (4, .int (nI j))] ∧ j ≤ (σ 91 1).toNatClampNeg) ⟨_, ⟨0, rfl, rfl, rfl, Nat.zero_le _⟩⟩ ?_
          rintro μ95 _ _ ⟨j, hμ95, rfl, rfl, hc95_0⟩ ih95
          refine x_iload C dX9_checkProgram_95 4 rfl ?_
          refine x_aload_n C dX9_checkProgram_97 rfl 0 rfl ?_
          refine x_getr C sh_87 rfl iX9 5 (by decide) f19 (fun _ h => h) (by decide) rfl dX9_checkProgram_98 ?_
          refine x_iconst C (1 : Int32) (by decide) dX9_checkProgram_101 ?_
          refine x_iald C sh_91 (vp_le (vp_lit 1 (by decide)) (by decide)) dX9_checkProgram_102 ?_
          refine x_icmp_ge C 142 dX9_checkProgram_103 rfl (fun h9 => ?_) (fun h9 => ?_)
          · rw [hq91] at h9
            have hct : mCtN (upN (mL2 c1) k (mCP1 σ c1)) (nI k) c1 j = mCt (upN (mL2 c1) k (mCP1 σ c1)) (nI k) c1 := by rw [mCt, hq91, show (σ 91 1).toNatClampNeg = j from Nat.le_antisymm ((le_nI (by have := clamp_lt (σ 91 1); omega)).mp h9) hc95_0]
            rw [hct]
            refine x_iload_n C dX9_checkProgram_142 rfl 3 rfl ?_
            refine x_iconst C (1 : Int32) (by decide) dX9_checkProgram_143 ?_
            refine x_icmp_le C 154 dX9_checkProgram_144 rfl (fun h10 => ?_) (fun h10 => ?_)
            · refine x_lv [0, 1, 2] [(0, ra V 87), (1, .int c1), (2, .int (nI k))] rfl ?_
              exact x_ss (⟨by simp [mL2a, h10], rfl⟩) hJ154
            · refine x_aload_n C dX9_checkProgram_147 rfl 0 rfl ?_
              refine x_iconst C (2 : Int32) (by decide) dX9_checkProgram_148 ?_
              refine x_iload_n C dX9_checkProgram_149 rfl 2 rfl ?_
              refine x_iload_n C dX9_checkProgram_150 rfl 1 rfl ?_
              refine x_callV C sh_87 (by decide) rfl [.int (2 : Int32), .int (nI k), .int c1] (c_X9_note l V hV (upN (mL2 c1) k (mCP1 σ c1)) (2 : Int32) (nI k) c1 (vp_le (vp_lit 2 (by decide)) (by decide)) (vp_le (vp_in_nI (n := k) (N := 8) (by omega) (by decide)) (by decide))) (cwV 3 C.2.2.2.2.1 gX9_checkProgram_X9_note rfl rfl rfl (by decide +kernel) ⟨Nat.le_of_ble_eq_true rfl, Nat.le_of_ble_eq_true rfl⟩) rfl rfl (Nat.le_of_ble_eq_true rfl) dX9_checkProgram_151 ⟨Nat.le_of_ble_eq_true rfl, Nat.le_of_ble_eq_true rfl⟩ (x_kV ?_)
              refine x_lv [0, 1, 2] [(0, ra V 87), (1, .int c1), (2, .int (nI k))] rfl ?_
              exact x_ss (⟨by simp [mL2a, h10], rfl⟩) hJ154
          · rw [hq91] at h9
            have hjn : j < (σ 91 1).toNatClampNeg := Nat.lt_of_not_le (fun hq => h9 ((le_nI (by have := clamp_lt (σ 91 1); omega)).mpr hq))
            have hbj := (mvc1 hM).2
            have hcj : (nI j).toNatClampNeg = j := nI_clamp (by omega)
            refine x_iload_n C dX9_checkProgram_106 rfl 3 rfl ?_
            refine x_aload_n C dX9_checkProgram_107 rfl 0 rfl ?_
            refine x_getr C sh_87 rfl iX9 8 (by decide) f28 (fun _ h => h) (by decide) rfl dX9_checkProgram_108 ?_
            refine x_iload C dX9_checkProgram_111 4 rfl ?_
            refine x_iald C sh_94 (vp_in_nI (n := j) (N := 12) (by omega) (by decide)) dX9_checkProgram_113 ?_
            rw [hcj]
            refine x_iload_n C dX9_checkProgram_114 rfl 2 rfl ?_
            refine x_icmp_ne C 133 dX9_checkProgram_115 rfl (fun h11 => ?_) (fun h11 => ?_)
            · refine x_iconst C (0 : Int32) (by decide) dX9_checkProgram_133 ?_
              refine x_iadd C dX9_checkProgram_134 ?_
              refine x_istore_n C [(3, .int ((mCtN (upN (mL2 c1) k (mCP1 σ c1)) (nI k) c1 j) + (0 : Int32))), (0, ra V 87), (1, .int c1), (2, .int (nI k)), (4, .int (nI j))] dX9_checkProgram_135 rfl (by decide) rfl ?_
              refine x_iinc C (q := 4) ((nI j) + (1 : Int32)) [(4, .int ((nI j) + (1 : Int32))), (3, .int ((mCtN (upN (mL2 c1) k (mCP1 σ c1)) (nI k) c1 j) + (0 : Int32))), (0, ra V 87), (1, .int c1), (2, .int (nI k))] dX9_checkProgram_136 rfl rfl (by decide) rfl ?_
              refine x_goto C 95 dX9_checkProgram_139 rfl ?_
              refine x_lv [2, 3, 4, 1, 0] [(0, ra V 87), (1, .int c1), (2, .int (nI k)), (3, .int ((mCtN (upN (mL2 c1) k (mCP1 σ c1)) (nI k) c1 j) + (0 : Int32))), (4, .int ((nI j) + (1 : Int32)))] rfl ?_
              exact ih95 _ _ _ (by omega) ⟨j + 1, rfl, rfl, by rw [nI_succ]; simp [mCtN, bI, h11], hjn⟩
            · refine x_aload_n C dX9_checkProgram_118 rfl 0 rfl ?_
              refine x_iconst C (1 : Int32) (by decide) dX9_checkProgram_119 ?_
              refine x_iload C dX9_checkProgram_120 4 rfl ?_
              refine x_iload_n C dX9_checkProgram_122 rfl 1 rfl ?_
              refine x_callV C sh_87 (by decide) rfl [.int (1 : Int32), .int (nI j), .int c1] (c_X9_is_1 l V hV (upN (mL2 c1) k (mCP1 σ c1)) (nI j) c1 hMb (vp_in_nI (n := j) (N := 12) (by omega) (by decide))) (cwV 3 C.2.2.2.2.1 gX9_checkProgram_X9_is rfl rfl rfl (by decide +kernel) ⟨Nat.le_of_ble_eq_true rfl, Nat.le_of_ble_eq_true rfl⟩) rfl rfl (Nat.le_of_ble_eq_true rfl) dX9_checkProgram_123 ⟨Nat.le_of_ble_eq_true rfl, Nat.le_of_ble_eq_true rfl⟩ (x_kI ?_)
              refine x_bif_eq C 133 dX9_checkProgram_126 rfl (fun h12 => ?_) (fun h12 => ?_)
              · refine x_iconst C (0 : Int32) (by decide) dX9_checkProgram_133 ?_
                refine x_iadd C dX9_checkProgram_134 ?_
                refine x_istore_n C [(3, .int ((mCtN (upN (mL2 c1) k (mCP1 σ c1)) (nI k) c1 j) + (0 : Int32))), (0, ra V 87), (1, .int c1), (2, .int (nI k)), (4, .int (nI j))] dX9_checkProgram_135 rfl (by decide) rfl ?_
                refine x_iinc C (q := 4) ((nI j) + (1 : Int32)) [(4, .int ((nI j) + (1 : Int32))), (3, .int ((mCtN (upN (mL2 c1) k (mCP1 σ c1)) (nI k) c1 j) + (0 : Int32))), (0, ra V 87), (1, .int c1), (2, .int (nI k))] dX9_checkProgram_136 rfl rfl (by decide) rfl ?_
                refine x_goto C 95 dX9_checkProgram_139 rfl ?_
                refine x_lv [2, 3, 4, 1, 0] [(0, ra V 87), (1, .int c1), (2, .int (nI k)), (3, .int ((mCtN (upN (mL2 c1) k (mCP1 σ c1)) (nI k) c1 j) + (0 : Int32))), (4, .int ((nI j) + (1 : Int32)))] rfl ?_
                exact ih95 _ _ _ (by omega) ⟨j + 1, rfl, rfl, by rw [nI_succ]; simp [mCtN, bI, eq_true h11, h12], hjn⟩
              · refine x_iconst C (1 : Int32) (by decide) dX9_checkProgram_129 ?_
                refine x_goto C 134 dX9_checkProgram_130 rfl ?_
                refine x_iadd C dX9_checkProgram_134 ?_
                refine x_istore_n C [(3, .int ((mCtN (upN (mL2 c1) k (mCP1 σ c1)) (nI k) c1 j) + (1 : Int32))), (0, ra V 87), (1, .int c1), (2, .int (nI k)), (4, .int (nI j))] dX9_checkProgram_135 rfl (by decide) rfl ?_
                refine x_iinc C (q := 4) ((nI j) + (1 : Int32)) [(4, .int ((nI j) + (1 : Int32))), (3, .int ((mCtN (upN (mL2 c1) k (mCP1 σ c1)) (nI k) c1 j) + (1 : Int32))), (0, ra V 87), (1, .int c1), (2, .int (nI k))] dX9_checkProgram_136 rfl rfl (by decide) rfl ?_
                refine x_goto C 95 dX9_checkProgram_139 rfl ?_
                refine x_lv [2, 3, 4, 1, 0] [(0, ra V 87), (1, .int c1), (2, .int (nI k)), (3, .int ((mCtN (upN (mL2 c1) k (mCP1 σ c1)) (nI k) c1 j) + (1 : Int32))), (4, .int ((nI j) + (1 : Int32)))] rfl ?_
                exact ih95 _ _ _ (by omega) ⟨j + 1, rfl, rfl, by rw [nI_succ]; simp [mCtN, bI, eq_true h11, h12], hjn⟩
      · refine x_goto C 171 dX9_checkProgram_87 rfl ?_
        refine x_iinc C (q := 2) ((nI k) + (1 : Int32)) [(2, .int ((nI k) + (1 : Int32))), (0, ra V 87), (1, .int c1)] dX9_checkProgram_171 rfl rfl (by decide) rfl ?_
        refine x_goto C 67 dX9_checkProgram_174 rfl ?_
        refine x_lv [1, 2, 0] [(0, ra V 87), (1, .int c1), (2, .int ((nI k) + (1 : Int32)))] rfl ?_
        exact ih67 _ _ _ (by omega) ⟨k + 1, rfl, Eq.symm (by rw [upN_s]; simp [mL2, h1, h7]), by rw [nI_succ], hkn⟩
  · have hq91 : (upN (mL1 c1) k σ) 91 = σ 91 := by rw [upN_keep (mL1_keep (r := 91) (by decide) c1)]
    rw [hq91] at h1
    have hkn : k < (σ 91 1).toNatClampNeg := Nat.lt_of_not_le (fun hq => h1 ((le_nI (by have := clamp_lt (σ 91 1); omega)).mpr hq))
    have hb := (mvc1 hM).2
    have hMa : mV (upN (mL1 c1) k σ) := mV_keep (fun r h1 h2 h3 h4 => by rw [upN_keep (mL1_keep h2 c1)]) hM
    refine x_aload_n C dX9_checkProgram_12 rfl 0 rfl ?_
    refine x_iconst C (1 : Int32) (by decide) dX9_checkProgram_13 ?_
    refine x_iload_n C dX9_checkProgram_14 rfl 2 rfl ?_
    refine x_iload_n C dX9_checkProgram_15 rfl 1 rfl ?_
    refine x_callV C sh_87 (by decide) rfl [.int (1 : Int32), .int (nI k), .int c1] (c_X9_isMeant_1 l V hV (upN (mL1 c1) k σ) (nI k) c1 (vp_le (vp_in_nI (n := k) (N := 12) (by omega) (by decide)) (by decide))) (cwV 3 C.2.2.2.2.1 gX9_checkProgram_X9_isMeant rfl rfl rfl (by decide +kernel) ⟨Nat.le_of_ble_eq_true rfl, Nat.le_of_ble_eq_true rfl⟩) rfl rfl (Nat.le_of_ble_eq_true rfl) dX9_checkProgram_16 ⟨Nat.le_of_ble_eq_true rfl, Nat.le_of_ble_eq_true rfl⟩ (x_kI ?_)
    refine x_bif_eq C 59 dX9_checkProgram_19 rfl (fun h13 => ?_) (fun h13 => ?_)
    · refine x_iinc C (q := 2) ((nI k) + (1 : Int32)) [(2, .int ((nI k) + (1 : Int32))), (0, ra V 87), (1, .int c1)] dX9_checkProgram_59 rfl rfl (by decide) rfl ?_
      refine x_goto C 2 dX9_checkProgram_62 rfl ?_
      refine x_lv [1, 2, 0] [(0, ra V 87), (1, .int c1), (2, .int ((nI k) + (1 : Int32)))] rfl ?_
      exact ih2 _ _ _ (by omega) ⟨k + 1, rfl, Eq.symm (by rw [upN_s]; simp [mL1, h13]), by rw [nI_succ], hkn⟩
    · refine x_aload_n C dX9_checkProgram_22 rfl 0 rfl ?_
      refine x_iconst C (0 : Int32) (by decide) dX9_checkProgram_23 ?_
      refine x_aload_n C dX9_checkProgram_24 rfl 0 rfl ?_
      refine x_getr C sh_87 rfl iX9 8 (by decide) f28 (fun _ h => h) (by decide) rfl dX9_checkProgram_25 ?_
      refine x_iload_n C dX9_checkProgram_28 rfl 2 rfl ?_
      refine x_iald C sh_94 (vp_in_nI (n := k) (N := 12) (by omega) (by decide)) dX9_checkProgram_29 ?_
      refine x_iload_n C dX9_checkProgram_30 rfl 1 rfl ?_
      refine x_callV C sh_87 (by decide) rfl [.int (0 : Int32), .int ((upN (mL1 c1) k σ) 94 (nI k).toNatClampNeg), .int c1] (c_X9_is_0 l V hV (upN (mL1 c1) k σ) ((upN (mL1 c1) k σ) 94 (nI k).toNatClampNeg) c1 hMa (vp_le (mv94 hMa (vp_in_nI (n := k) (N := 12) (by omega) (by decide))) (by decide))) (cwV 3 C.2.2.2.2.1 gX9_checkProgram_X9_is rfl rfl rfl (by decide +kernel) ⟨Nat.le_of_ble_eq_true rfl, Nat.le_of_ble_eq_true rfl⟩) rfl rfl (Nat.le_of_ble_eq_true rfl) dX9_checkProgram_31 ⟨Nat.le_of_ble_eq_true rfl, Nat.le_of_ble_eq_true rfl⟩ (x_kI ?_)
      refine x_bif_eq C 59 dX9_checkProgram_34 rfl (fun h14 => ?_) (fun h14 => ?_)
      · refine x_iinc C (q := 2) ((nI k) + (1 : Int32)) [(2, .int ((nI k) + (1 : Int32))), (0, ra V 87), (1, .int c1)] dX9_checkProgram_59 rfl rfl (by decide) rfl ?_
        refine x_goto C 2 dX9_checkProgram_62 rfl ?_
        refine x_lv [1, 2, 0] [(0, ra V 87), (1, .int c1), (2, .int ((nI k) + (1 : Int32)))] rfl ?_
        exact ih2 _ _ _ (by omega) ⟨k + 1, rfl, Eq.symm (by rw [upN_s]; simp [mL1, h13, h14]), by rw [nI_succ], hkn⟩
      · refine x_aload_n C dX9_checkProgram_37 rfl 0 rfl ?_
        refine x_iconst C (0 : Int32) (by decide) dX9_checkProgram_38 ?_
        refine x_aload_n C dX9_checkProgram_39 rfl 0 rfl ?_
        refine x_getr C sh_87 rfl iX9 9 (by decide) f31 (fun _ h => h) (by decide) rfl dX9_checkProgram_40 ?_
        refine x_iload_n C dX9_checkProgram_43 rfl 2 rfl ?_
        refine x_iald C sh_95 (vp_in_nI (n := k) (N := 12) (by omega) (by decide)) dX9_checkProgram_44 ?_
        refine x_iload_n C dX9_checkProgram_45 rfl 1 rfl ?_
        refine x_callV C sh_87 (by decide) rfl [.int (0 : Int32), .int ((upN (mL1 c1) k σ) 95 (nI k).toNatClampNeg), .int c1] (c_X9_is_0 l V hV (upN (mL1 c1) k σ) ((upN (mL1 c1) k σ) 95 (nI k).toNatClampNeg) c1 hMa (vp_le (mv95 hMa (vp_in_nI (n := k) (N := 12) (by omega) (by decide))) (by decide))) (cwV 3 C.2.2.2.2.1 gX9_checkProgram_X9_is rfl rfl rfl (by decide +kernel) ⟨Nat.le_of_ble_eq_true rfl, Nat.le_of_ble_eq_true rfl⟩) rfl rfl (Nat.le_of_ble_eq_true rfl) dX9_checkProgram_46 ⟨Nat.le_of_ble_eq_true rfl, Nat.le_of_ble_eq_true rfl⟩ (x_kI ?_)
        refine x_bif_ne C 59 dX9_checkProgram_49 rfl (fun h15 => ?_) (fun h15 => ?_)
        · refine x_iinc C (q := 2) ((nI k) + (1 : Int32)) [(2, .int ((nI k) + (1 : Int32))), (0, ra V 87), (1, .int c1)] dX9_checkProgram_59 rfl rfl (by decide) rfl ?_
          refine x_goto C 2 dX9_checkProgram_62 rfl ?_
          refine x_lv [1, 2, 0] [(0, ra V 87), (1, .int c1), (2, .int ((nI k) + (1 : Int32)))] rfl ?_
          exact ih2 _ _ _ (by omega) ⟨k + 1, rfl, Eq.symm (by rw [upN_s]; simp [mL1, h13, h14, h15]), by rw [nI_succ], hkn⟩
        · refine x_aload_n C dX9_checkProgram_52 rfl 0 rfl ?_
          refine x_iconst C (1 : Int32) (by decide) dX9_checkProgram_53 ?_
          refine x_iload_n C dX9_checkProgram_54 rfl 2 rfl ?_
          refine x_iload_n C dX9_checkProgram_55 rfl 1 rfl ?_
          refine x_callV C sh_87 (by decide) rfl [.int (1 : Int32), .int (nI k), .int c1] (c_X9_note l V hV (upN (mL1 c1) k σ) (1 : Int32) (nI k) c1 (vp_le (vp_lit 1 (by decide)) (by decide)) (vp_le (vp_in_nI (n := k) (N := 12) (by omega) (by decide)) (by decide))) (cwV 3 C.2.2.2.2.1 gX9_checkProgram_X9_note rfl rfl rfl (by decide +kernel) ⟨Nat.le_of_ble_eq_true rfl, Nat.le_of_ble_eq_true rfl⟩) rfl rfl (Nat.le_of_ble_eq_true rfl) dX9_checkProgram_56 ⟨Nat.le_of_ble_eq_true rfl, Nat.le_of_ble_eq_true rfl⟩ (x_kV ?_)
          refine x_iinc C (q := 2) ((nI k) + (1 : Int32)) [(2, .int ((nI k) + (1 : Int32))), (0, ra V 87), (1, .int c1)] dX9_checkProgram_59 rfl rfl (by decide) rfl ?_
          refine x_goto C 2 dX9_checkProgram_62 rfl ?_
          refine x_lv [1, 2, 0] [(0, ra V 87), (1, .int c1), (2, .int ((nI k) + (1 : Int32)))] rfl ?_
          exact ih2 _ _ _ (by omega) ⟨k + 1, rfl, Eq.symm (by rw [upN_s]; simp [mL1, h13, h14, h15]), by rw [nI_succ], hkn⟩

/-! The reference knows. -/
set_option maxHeartbeats 4000000 in
set_option maxRecDepth 100000 in
theorem c_X9_know (l : Launch) (V : xV) (hV : xInj V) (σ : xS)  (hM : mV σ) : xM l yX9_know wsX9_know ({ frames := 8, cells := 0, slots := 0, locals := 194 }) V [ra V 87] σ (rV (mKn σ)) := by
  refine xM_of (cc := cX9_know) (maxL := 4) (ret := none) [(0, ra V 87)] hV (by decide) rfl rfl (Nat.le_of_ble_eq_true rfl) (fun p e s m args below meth c C hr hlk => ?_)
  have iX9 : ∀ w ∈ u_ws RX9 TX9 24, w ∈ wsX9_know := by decide +kernel
  have f93 : (Cond.fieldLink RX9 93 RX9 (TX9 21).2.1 (TX9 21).2.2.1).before args s = true := C.2.2.2.2.1 _ (by decide +kernel)
  have f83 : (Cond.fieldLink RX9 83 RX9 (TX9 16).2.1 (TX9 16).2.2.1).before args s = true := C.2.2.2.2.1 _ (by decide +kernel)
  have f19 : (Cond.fieldLink RX9 19 RX9 (TX9 5).2.1 (TX9 5).2.2.1).before args s = true := C.2.2.2.2.1 _ (by decide +kernel)
  have f50 : (Cond.fieldLink RX9 50 RX9 (TX9 15).2.1 (TX9 15).2.2.1).before args s = true := C.2.2.2.2.1 _ (by decide +kernel)
  have f44 : (Cond.fieldLink RX9 44 RX9 (TX9 13).2.1 (TX9 13).2.2.1).before args s = true := C.2.2.2.2.1 _ (by decide +kernel)
  have f56 : (Cond.fieldLink RX9 56 RX9 (TX9 18).2.1 (TX9 18).2.2.1).before args s = true := C.2.2.2.2.1 _ (by decide +kernel)
  have f65 : (Cond.fieldLink RX9 65 RX9 (TX9 22).2.1 (TX9 22).2.2.1).before args s = true := C.2.2.2.2.1 _ (by decide +kernel)
  have f68 : (Cond.fieldLink RX9 68 RX9 (TX9 23).2.1 (TX9 23).2.2.1).before args s = true := C.2.2.2.2.1 _ (by decide +kernel)
  refine x_aload_n C dX9_know_0 rfl 0 rfl ?_
  refine x_geti C sh_87 rfl iX9 21 (by decide) f93 (fun _ h => h) (by decide) rfl dX9_know_1 ?_
  refine x_if_eq C 8 dX9_know_4 rfl (fun h1 => ?_) (fun h1 => ?_)
  · refine x_aload_n C dX9_know_8 rfl 0 rfl ?_
    refine x_iconst C (1 : Int32) (by decide) dX9_know_9 ?_
    refine x_puti (ty := .boolean) C sh_87 rfl iX9 21 (by decide) f93 (fun _ h => h) (by decide) rfl (by decide +kernel) (by decide +kernel) (by decide) rfl tyX9 tyX9_ok nmX9 (by decide +kernel) (by first | rfl | exact bI_nar _) (by first | rfl | exact bI_fit _) dX9_know_10 ?_
    refine x_iconst C (0 : Int32) (by decide) dX9_know_13 ?_
    refine x_istore_n C [(1, .int (0 : Int32)), (0, ra V 87)] dX9_know_14 rfl (by decide) rfl ?_
    refine x_lv [1, 0] [(0, ra V 87), (1, .int (0 : Int32))] rfl ?_
    refine x_loop (fun μ σ_ lv_ => ∃ (k : Nat), μ = 650 - k ∧ vFill (xw σ 211 0 (1 : Int32)) 107 k 0 = σ_ ∧ lv_ = [(0, ra V 87), (1, .int (nI k))] ∧ k ≤ 650) ⟨_, ⟨0, rfl, Eq.symm ((vFill_0 _ _ _).symm), rfl, Nat.zero_le _⟩⟩ ?_
    rintro μ15 _ _ ⟨k, hμ15, rfl, rfl, hc15_0⟩ ih15
    refine x_iload_n C dX9_know_15 rfl 1 rfl ?_
    refine x_sipush C (650 : Int32) (by decide) dX9_know_16 ?_
    refine x_icmp_ge C 35 dX9_know_19 rfl (fun h2 => ?_) (fun h2 => ?_)
    · refine x_s (σ' := vFill (xw σ 211 0 (1 : Int32)) 107 650 0) (by rw [show k = 650 from Nat.le_antisymm hc15_0 (Nat.le_of_not_lt (fun hq => nI_ge hq (by decide) h2))]) ?_
      have hM0 : mV (vFill (xw σ 211 0 (1 : Int32)) 107 650 0) := mV_keep (fun r h1 h2 h3 h4 => by rw [vFill_ne h2, xw_ne _ _ _ h4]) hM
      refine x_iconst C (0 : Int32) (by decide) dX9_know_35 ?_
      refine x_istore_n C [(1, .int (0 : Int32)), (0, ra V 87)] dX9_know_36 rfl (by decide) rfl ?_
      refine x_lv [1, 0] [(0, ra V 87), (1, .int (0 : Int32))] rfl ?_
      refine x_loop (fun μ σ_ lv_ => ∃ (k : Nat), μ = 16 - k ∧ upN mKP k (vFill (xw σ 211 0 (1 : Int32)) 107 650 0) = σ_ ∧ lv_ = [(0, ra V 87), (1, .int (nI k))] ∧ k ≤ 16) ⟨_, ⟨0, rfl, rfl, rfl, Nat.zero_le _⟩⟩ ?_
      rintro μ37 _ _ ⟨k, hμ37, rfl, rfl, hc37_0⟩ ih37
      refine x_iload_n C dX9_know_37 rfl 1 rfl ?_
      refine x_bipush C (16 : Int32) (by decide) dX9_know_38 ?_
      refine x_icmp_ge C 195 dX9_know_40 rfl (fun h3 => ?_) (fun h3 => ?_)
      · exact x_vret C hr hlk dX9_know_195 ⟨rfl, by rw [mKn, if_pos h1, show k = 16 from Nat.le_antisymm hc37_0 (Nat.le_of_not_lt (fun hq => nI_ge hq (by decide) h3))]⟩
      · have hkn : k < 16 := Nat.lt_of_not_le (fun hq => h3 (nI_le hq (by omega)))
        have hMT : mV (upN mKP k (vFill (xw σ 211 0 (1 : Int32)) 107 650 0)) := mV_keep (fun r h1 h2 h3 h4 => upN_keep (mKP_keep h2 h1) k _) hM0
        refine x_aload_n C dX9_know_43 rfl 0 rfl ?_
        refine x_iload_n C dX9_know_44 rfl 1 rfl ?_
        refine x_callV C sh_87 (by decide) rfl [.int (nI k)] (c_X9_isProduct l V hV (upN mKP k (vFill (xw σ 211 0 (1 : Int32)) 107 650 0)) (nI k) hMT) (cwV 1 C.2.2.2.2.1 gX9_know_X9_isProduct rfl rfl rfl (by decide +kernel) ⟨Nat.le_of_ble_eq_true rfl, Nat.le_of_ble_eq_true rfl⟩) rfl rfl (Nat.le_of_ble_eq_true rfl) dX9_know_45 ⟨Nat.le_of_ble_eq_true rfl, Nat.le_of_ble_eq_true rfl⟩ (x_kI ?_)
        refine x_bif_ne C 54 dX9_know_48 rfl (fun h4 => ?_) (fun h4 => ?_)
        · refine x_aload_n C dX9_know_54 rfl 0 rfl ?_
          refine x_iload_n C dX9_know_55 rfl 1 rfl ?_
          refine x_callV C sh_87 (by decide) rfl [.int (nI k)] (c_X9_checkProgram l V hV (upN mKP k (vFill (xw σ 211 0 (1 : Int32)) 107 650 0)) (nI k) hMT (vp_in_nI (n := k) (N := 16) (by omega) (by decide))) (cwV 1 C.2.2.2.2.1 gX9_know_X9_checkProgram rfl rfl rfl (by decide +kernel) ⟨Nat.le_of_ble_eq_true rfl, Nat.le_of_ble_eq_true rfl⟩) rfl rfl (Nat.le_of_ble_eq_true rfl) dX9_know_56 ⟨Nat.le_of_ble_eq_true rfl, Nat.le_of_ble_eq_true rfl⟩ (x_kV ?_)
          have hMC : mV (mCP (upN mKP k (vFill (xw σ 211 0 (1 : Int32)) 107 650 0)) (nI k)) := mV_keep (fun r h1 h2 h3 h4 => mCP_keep h2 _ _) hMT
          refine x_iconst C (0 : Int32) (by decide) dX9_know_59 ?_
          refine x_istore_n C [(2, .int (0 : Int32)), (0, ra V 87), (1, .int (nI k))] dX9_know_60 rfl (by decide) rfl ?_
          refine x_lv [1, 2, 0] [(0, ra V 87), (1, .int (nI k)), (2, .int (0 : Int32))] rfl ?_
          refine x_loop (fun μ σ_ lv_ => ∃ (j : Nat), μ = ((upN mKP k (vFill (xw σ 211 0 (1 : Int32)) 107 650 0)) 210 0).toNatClampNeg - j ∧ upN (mKT (nI k)) j (mCP (upN mKP k (vFill (xw σ 211 0 (1 : Int32)) 107 650 0)) (nI k)) = σ_ ∧ lv_ = [(0, ra V 87), (1, .int (nI k)), (2, .int (nI j))] ∧ j ≤ ((upN mKP k (vFill (xw σ 211 0 (1 : Int32)) 107 650 0)) 210 0).toNatClampNeg) ⟨_, ⟨0, rfl, rfl, rfl, Nat.zero_le _⟩⟩ ?_
          rintro μ61 _ _ ⟨j, hμ61, rfl, rfl, hc61_0⟩ ih61
          refine x_iload_n C dX9_know_61 rfl 2 rfl ?_
          refine x_aload_n C dX9_know_62 rfl 0 rfl ?_
          refine x_geti C sh_87 rfl iX9 16 (by decide) f83 (fun _ h => h) (by decide) rfl dX9_know_63 ?_
          refine x_icmp_ge C 112 dX9_know_66 rfl (fun h5 => ?_) (fun h5 => ?_)
          · have hq210 : (upN (mKT (nI k)) j (mCP (upN mKP k (vFill (xw σ 211 0 (1 : Int32)) 107 650 0)) (nI k))) 210 = (upN mKP k (vFill (xw σ 211 0 (1 : Int32)) 107 650 0)) 210 := by rw [upN_keep (mKT_keep (r := 210) (by decide) (by decide) _), mCP_keep (by decide)]
            rw [hq210] at h5
            refine x_s (σ' := mK1 (upN mKP k (vFill (xw σ 211 0 (1 : Int32)) 107 650 0)) (nI k)) (by rw [mK1, show ((upN mKP k (vFill (xw σ 211 0 (1 : Int32)) 107 650 0)) 210 0).toNatClampNeg = j from Nat.le_antisymm ((le_nI (by have := clamp_lt ((upN mKP k (vFill (xw σ 211 0 (1 : Int32)) 107 650 0)) 210 0); omega)).mp h5) hc61_0]) ?_
            have hMK : mV (mK1 (upN mKP k (vFill (xw σ 211 0 (1 : Int32)) 107 650 0)) (nI k)) := mV_keep (fun r h1 h2 h3 h4 => mK1_keep h2 h1 _ _) hMT
            refine x_iconst C (0 : Int32) (by decide) dX9_know_112 ?_
            refine x_istore_n C [(2, .int (0 : Int32)), (0, ra V 87), (1, .int (nI k))] dX9_know_113 rfl (by decide) rfl ?_
            refine x_lv [1, 2, 0] [(0, ra V 87), (1, .int (nI k)), (2, .int (0 : Int32))] rfl ?_
            refine x_loop (fun μ σ_ lv_ => ∃ (j : Nat), μ = ((upN mKP k (vFill (xw σ 211 0 (1 : Int32)) 107 650 0)) 91 3).toNatClampNeg - j ∧ upN (mKX (nI k)) j (mK1 (upN mKP k (vFill (xw σ 211 0 (1 : Int32)) 107 650 0)) (nI k)) = σ_ ∧ lv_ = [(0, ra V 87), (1, .int (nI k)), (2, .int (nI j))] ∧ j ≤ ((upN mKP k (vFill (xw σ 211 0 (1 : Int32)) 107 650 0)) 91 3).toNatClampNeg) ⟨_, ⟨0, rfl, rfl, rfl, Nat.zero_le _⟩⟩ ?_
            rintro μ114 _ _ ⟨j, hμ114, rfl, rfl, hc114_0⟩ ih114
            refine x_iload_n C dX9_know_114 rfl 2 rfl ?_
            refine x_aload_n C dX9_know_115 rfl 0 rfl ?_
            refine x_getr C sh_87 rfl iX9 5 (by decide) f19 (fun _ h => h) (by decide) rfl dX9_know_116 ?_
            refine x_iconst C (3 : Int32) (by decide) dX9_know_119 ?_
            refine x_iald C sh_91 (vp_lit 3 (by decide)) dX9_know_120 ?_
            refine x_icmp_ge C 189 dX9_know_121 rfl (fun h6 => ?_) (fun h6 => ?_)
            · have hq91 : (upN (mKX (nI k)) j (mK1 (upN mKP k (vFill (xw σ 211 0 (1 : Int32)) 107 650 0)) (nI k))) 91 = (upN mKP k (vFill (xw σ 211 0 (1 : Int32)) 107 650 0)) 91 := by rw [upN_keep (mKX_keep (r := 91) (by decide) _), mK1_keep (by decide) (by decide)]
              rw [hq91] at h6
              have hjx : ((upN mKP k (vFill (xw σ 211 0 (1 : Int32)) 107 650 0)) 91 3).toNatClampNeg = j := Nat.le_antisymm ((le_nI (by have := clamp_lt ((upN mKP k (vFill (xw σ 211 0 (1 : Int32)) 107 650 0)) 91 3); omega)).mp h6) hc114_0
              refine x_iinc C (q := 1) ((nI k) + (1 : Int32)) [(1, .int ((nI k) + (1 : Int32))), (0, ra V 87), (2, .int (nI j))] dX9_know_189 rfl rfl (by decide) rfl ?_
              refine x_goto C 37 dX9_know_192 rfl ?_
              refine x_lv [1, 0] [(0, ra V 87), (1, .int ((nI k) + (1 : Int32)))] rfl ?_
              exact ih37 _ _ _ (by omega) ⟨k + 1, rfl, Eq.symm (by rw [upN_s, mKP, if_pos h4, hjx]), by rw [nI_succ], hkn⟩
            · have hq91 : (upN (mKX (nI k)) j (mK1 (upN mKP k (vFill (xw σ 211 0 (1 : Int32)) 107 650 0)) (nI k))) 91 = (upN mKP k (vFill (xw σ 211 0 (1 : Int32)) 107 650 0)) 91 := by rw [upN_keep (mKX_keep (r := 91) (by decide) _), mK1_keep (by decide) (by decide)]
              rw [hq91] at h6
              have hjn : j < ((upN mKP k (vFill (xw σ 211 0 (1 : Int32)) 107 650 0)) 91 3).toNatClampNeg := Nat.lt_of_not_le (fun hq => h6 ((le_nI (by have := clamp_lt ((upN mKP k (vFill (xw σ 211 0 (1 : Int32)) 107 650 0)) 91 3); omega)).mpr hq))
              have hbj := (mvc3 hMT).2
              have hMX : mV (upN (mKX (nI k)) j (mK1 (upN mKP k (vFill (xw σ 211 0 (1 : Int32)) 107 650 0)) (nI k))) := mV_keep (fun r h1 h2 h3 h4 => by rw [upN_keep (mKX_keep h2 _)]) hMK
              refine x_aload_n C dX9_know_124 rfl 0 rfl ?_
              refine x_getr C sh_87 rfl iX9 15 (by decide) f50 (fun _ h => h) (by decide) rfl dX9_know_125 ?_
              refine x_iload_n C dX9_know_128 rfl 2 rfl ?_
              refine x_iald C sh_101 (vp_in_nI (n := j) (N := 16) (by omega) (by decide)) dX9_know_129 ?_
              refine x_istore_n C [(3, .int ((upN (mKX (nI k)) j (mK1 (upN mKP k (vFill (xw σ 211 0 (1 : Int32)) 107 650 0)) (nI k))) 101 (nI j).toNatClampNeg)), (0, ra V 87), (1, .int (nI k)), (2, .int (nI j))] dX9_know_130 rfl (by decide) rfl ?_
              refine x_aload_n C dX9_know_131 rfl 1 rfl ?_
              refine x_iconst C (3 : Int32) (by decide) dX9_know_132 ?_
              refine x_iload_n C dX9_know_133 rfl 3 rfl ?_
              refine x_iload_n C dX9_know_134 rfl 2 rfl ?_
              refine x_callV C sh_87 (by decide) rfl [.int (3 : Int32), .int (nI j), .int (nI k)] (c_X9_is_3 l V hV (upN (mKX (nI k)) j (mK1 (upN mKP k (vFill (xw σ 211 0 (1 : Int32)) 107 650 0)) (nI k))) (nI j) (nI k) hMX (vp_in_nI (n := j) (N := 16) (by omega) (by decide))) (cwV 3 C.2.2.2.2.1 gX9_know_X9_is rfl rfl rfl (by decide +kernel) ⟨Nat.le_of_ble_eq_true rfl, Nat.le_of_ble_eq_true rfl⟩) rfl rfl (Nat.le_of_ble_eq_true rfl) dX9_know_135 ⟨Nat.le_of_ble_eq_true rfl, Nat.le_of_ble_eq_true rfl⟩ (x_kI ?_)
              refine x_bif_eq C 183 dX9_know_138 rfl (fun h7 => ?_) (fun h7 => ?_)
              · refine x_iinc C (q := 3) ((nI j) + (1 : Int32)) [(2, .int ((nI j) + (1 : Int32))), (3, .int ((upN (mKX (nI k)) j (mK1 (upN mKP k (vFill (xw σ 211 0 (1 : Int32)) 107 650 0)) (nI k))) 101 (nI j).toNatClampNeg)), (0, ra V 87), (1, .int (nI k))] dX9_know_183 rfl rfl (by decide) rfl ?_
                refine x_goto C 114 dX9_know_186 rfl ?_
                refine x_lv [2, 3, 0] [(0, ra V 87), (1, .int (nI k)), (2, .int ((nI j) + (1 : Int32)))] rfl ?_
                exact ih114 _ _ _ (by omega) ⟨j + 1, rfl, Eq.symm (by rw [upN_s]; simp [mKX, h7]), by rw [nI_succ], hjn⟩
              · refine x_aload_n C dX9_know_141 rfl 1 rfl ?_
                refine x_iload_n C dX9_know_142 rfl 0 rfl ?_
                refine x_iload_n C dX9_know_143 rfl 2 rfl ?_
                refine x_callV C sh_87 (by decide) rfl [.int ((upN (mKX (nI k)) j (mK1 (upN mKP k (vFill (xw σ 211 0 (1 : Int32)) 107 650 0)) (nI k))) 101 (nI j).toNatClampNeg), .int (nI k)] (c_X9_typeIn l V hV (upN (mKX (nI k)) j (mK1 (upN mKP k (vFill (xw σ 211 0 (1 : Int32)) 107 650 0)) (nI k))) ((upN (mKX (nI k)) j (mK1 (upN mKP k (vFill (xw σ 211 0 (1 : Int32)) 107 650 0)) (nI k))) 101 (nI j).toNatClampNeg) (nI k) (mv101 hMX (vp_in_nI (n := j) (N := 16) (by omega) (by decide))) (vp_in_nI (n := k) (N := 16) (by omega) (by decide))) (cwV 2 C.2.2.2.2.1 gX9_know_X9_typeIn rfl rfl rfl (by decide +kernel) ⟨Nat.le_of_ble_eq_true rfl, Nat.le_of_ble_eq_true rfl⟩) rfl rfl (Nat.le_of_ble_eq_true rfl) dX9_know_144 ⟨Nat.le_of_ble_eq_true rfl, Nat.le_of_ble_eq_true rfl⟩ (x_kI ?_)
                refine x_if_lt C 183 dX9_know_147 rfl (fun h8 => ?_) (fun h8 => ?_)
                · refine x_iinc C (q := 3) ((nI j) + (1 : Int32)) [(2, .int ((nI j) + (1 : Int32))), (3, .int ((upN (mKX (nI k)) j (mK1 (upN mKP k (vFill (xw σ 211 0 (1 : Int32)) 107 650 0)) (nI k))) 101 (nI j).toNatClampNeg)), (0, ra V 87), (1, .int (nI k))] dX9_know_183 rfl rfl (by decide) rfl ?_
                  refine x_goto C 114 dX9_know_186 rfl ?_
                  refine x_lv [2, 3, 0] [(0, ra V 87), (1, .int (nI k)), (2, .int ((nI j) + (1 : Int32)))] rfl ?_
                  exact ih114 _ _ _ (by omega) ⟨j + 1, rfl, Eq.symm (by rw [upN_s]; simp [mKX, h7, h8]), by rw [nI_succ], hjn⟩
                · refine x_aload_n C dX9_know_150 rfl 1 rfl ?_
                  refine x_aload_n C dX9_know_151 rfl 1 rfl ?_
                  refine x_iload_n C dX9_know_152 rfl 0 rfl ?_
                  refine x_iload_n C dX9_know_153 rfl 2 rfl ?_
                  refine x_callV C sh_87 (by decide) rfl [.int ((upN (mKX (nI k)) j (mK1 (upN mKP k (vFill (xw σ 211 0 (1 : Int32)) 107 650 0)) (nI k))) 101 (nI j).toNatClampNeg), .int (nI k)] (c_X9_typeIn l V hV (upN (mKX (nI k)) j (mK1 (upN mKP k (vFill (xw σ 211 0 (1 : Int32)) 107 650 0)) (nI k))) ((upN (mKX (nI k)) j (mK1 (upN mKP k (vFill (xw σ 211 0 (1 : Int32)) 107 650 0)) (nI k))) 101 (nI j).toNatClampNeg) (nI k) (mv101 hMX (vp_in_nI (n := j) (N := 16) (by omega) (by decide))) (vp_in_nI (n := k) (N := 16) (by omega) (by decide))) (cwV 2 C.2.2.2.2.1 gX9_know_X9_typeIn rfl rfl rfl (by decide +kernel) ⟨Nat.le_of_ble_eq_true rfl, Nat.le_of_ble_eq_true rfl⟩) rfl rfl (Nat.le_of_ble_eq_true rfl) dX9_know_154 ⟨Nat.le_of_ble_eq_true rfl, Nat.le_of_ble_eq_true rfl⟩ (x_kI ?_)
                  refine x_aload_n C dX9_know_157 rfl 1 rfl ?_
                  refine x_getr C sh_87 rfl iX9 13 (by decide) f44 (fun _ h => h) (by decide) rfl dX9_know_158 ?_
                  refine x_aload_n C dX9_know_161 rfl 1 rfl ?_
                  refine x_getr C sh_87 rfl iX9 18 (by decide) f56 (fun _ h => h) (by decide) rfl dX9_know_162 ?_
                  refine x_iload_n C dX9_know_165 rfl 0 rfl ?_
                  refine x_iald C sh_103 (mv101 hMX (vp_in_nI (n := j) (N := 16) (by omega) (by decide))) dX9_know_166 ?_
                  refine x_iald C sh_99 (mv103 hMX (mv101 hMX (vp_in_nI (n := j) (N := 16) (by omega) (by decide)))) dX9_know_167 ?_
                  refine x_iload_n C dX9_know_168 rfl 2 rfl ?_
                  refine x_callV C sh_87 (by decide) rfl [.int (mTI (upN (mKX (nI k)) j (mK1 (upN mKP k (vFill (xw σ 211 0 (1 : Int32)) 107 650 0)) (nI k))) ((upN (mKX (nI k)) j (mK1 (upN mKP k (vFill (xw σ 211 0 (1 : Int32)) 107 650 0)) (nI k))) 101 (nI j).toNatClampNeg) (nI k)), .int ((upN (mKX (nI k)) j (mK1 (upN mKP k (vFill (xw σ 211 0 (1 : Int32)) 107 650 0)) (nI k))) 99 ((upN (mKX (nI k)) j (mK1 (upN mKP k (vFill (xw σ 211 0 (1 : Int32)) 107 650 0)) (nI k))) 103 ((upN (mKX (nI k)) j (mK1 (upN mKP k (vFill (xw σ 211 0 (1 : Int32)) 107 650 0)) (nI k))) 101 (nI j).toNatClampNeg).toNatClampNeg).toNatClampNeg), .int (nI k)] (c_X9_fits l V hV (upN (mKX (nI k)) j (mK1 (upN mKP k (vFill (xw σ 211 0 (1 : Int32)) 107 650 0)) (nI k))) (mTI (upN (mKX (nI k)) j (mK1 (upN mKP k (vFill (xw σ 211 0 (1 : Int32)) 107 650 0)) (nI k))) ((upN (mKX (nI k)) j (mK1 (upN mKP k (vFill (xw σ 211 0 (1 : Int32)) 107 650 0)) (nI k))) 101 (nI j).toNatClampNeg) (nI k)) ((upN (mKX (nI k)) j (mK1 (upN mKP k (vFill (xw σ 211 0 (1 : Int32)) 107 650 0)) (nI k))) 99 ((upN (mKX (nI k)) j (mK1 (upN mKP k (vFill (xw σ 211 0 (1 : Int32)) 107 650 0)) (nI k))) 103 ((upN (mKX (nI k)) j (mK1 (upN mKP k (vFill (xw σ 211 0 (1 : Int32)) 107 650 0)) (nI k))) 101 (nI j).toNatClampNeg).toNatClampNeg).toNatClampNeg) (nI k) hMX) (cwV 3 C.2.2.2.2.1 gX9_know_X9_fits rfl rfl rfl (by decide +kernel) ⟨Nat.le_of_ble_eq_true rfl, Nat.le_of_ble_eq_true rfl⟩) rfl rfl (Nat.le_of_ble_eq_true rfl) dX9_know_169 ⟨Nat.le_of_ble_eq_true rfl, Nat.le_of_ble_eq_true rfl⟩ (x_kI ?_)
                  refine x_bif_ne C 183 dX9_know_172 rfl (fun h9 => ?_) (fun h9 => ?_)
                  · refine x_iinc C (q := 3) ((nI j) + (1 : Int32)) [(2, .int ((nI j) + (1 : Int32))), (3, .int ((upN (mKX (nI k)) j (mK1 (upN mKP k (vFill (xw σ 211 0 (1 : Int32)) 107 650 0)) (nI k))) 101 (nI j).toNatClampNeg)), (0, ra V 87), (1, .int (nI k))] dX9_know_183 rfl rfl (by decide) rfl ?_
                    refine x_goto C 114 dX9_know_186 rfl ?_
                    refine x_lv [2, 3, 0] [(0, ra V 87), (1, .int (nI k)), (2, .int ((nI j) + (1 : Int32)))] rfl ?_
                    exact ih114 _ _ _ (by omega) ⟨j + 1, rfl, Eq.symm (by rw [upN_s]; simp [mKX, h7, h8, h9]), by rw [nI_succ], hjn⟩
                  · refine x_aload_n C dX9_know_175 rfl 1 rfl ?_
                    refine x_bipush C (12 : Int32) (by decide) dX9_know_176 ?_
                    refine x_iload_n C dX9_know_178 rfl 3 rfl ?_
                    refine x_iload_n C dX9_know_179 rfl 2 rfl ?_
                    refine x_callV C sh_87 (by decide) rfl [.int (12 : Int32), .int (nI j), .int (nI k)] (c_X9_note l V hV (upN (mKX (nI k)) j (mK1 (upN mKP k (vFill (xw σ 211 0 (1 : Int32)) 107 650 0)) (nI k))) (12 : Int32) (nI j) (nI k) (vp_lit 12 (by decide)) (vp_le (vp_in_nI (n := j) (N := 16) (by omega) (by decide)) (by decide))) (cwV 3 C.2.2.2.2.1 gX9_know_X9_note rfl rfl rfl (by decide +kernel) ⟨Nat.le_of_ble_eq_true rfl, Nat.le_of_ble_eq_true rfl⟩) rfl rfl (Nat.le_of_ble_eq_true rfl) dX9_know_180 ⟨Nat.le_of_ble_eq_true rfl, Nat.le_of_ble_eq_true rfl⟩ (x_kV ?_)
                    refine x_iinc C (q := 3) ((nI j) + (1 : Int32)) [(2, .int ((nI j) + (1 : Int32))), (3, .int ((upN (mKX (nI k)) j (mK1 (upN mKP k (vFill (xw σ 211 0 (1 : Int32)) 107 650 0)) (nI k))) 101 (nI j).toNatClampNeg)), (0, ra V 87), (1, .int (nI k))] dX9_know_183 rfl rfl (by decide) rfl ?_
                    refine x_goto C 114 dX9_know_186 rfl ?_
                    refine x_lv [2, 3, 0] [(0, ra V 87), (1, .int (nI k)), (2, .int ((nI j) + (1 : Int32)))] rfl ?_
                    exact ih114 _ _ _ (by omega) ⟨j + 1, rfl, Eq.symm (by rw [upN_s]; simp [mKX, h7, h8, h9]), by rw [nI_succ], hjn⟩
          · have hq210 : (upN (mKT (nI k)) j (mCP (upN mKP k (vFill (xw σ 211 0 (1 : Int32)) 107 650 0)) (nI k))) 210 = (upN mKP k (vFill (xw σ 211 0 (1 : Int32)) 107 650 0)) 210 := by rw [upN_keep (mKT_keep (r := 210) (by decide) (by decide) _), mCP_keep (by decide)]
            rw [hq210] at h5
            have hjn : j < ((upN mKP k (vFill (xw σ 211 0 (1 : Int32)) 107 650 0)) 210 0).toNatClampNeg := Nat.lt_of_not_le (fun hq => h5 ((le_nI (by have := clamp_lt ((upN mKP k (vFill (xw σ 211 0 (1 : Int32)) 107 650 0)) 210 0); omega)).mpr hq))
            have hbj := (mvce hMT).2
            have hME : mV (upN (mKT (nI k)) j (mCP (upN mKP k (vFill (xw σ 211 0 (1 : Int32)) 107 650 0)) (nI k))) := mV_keep (fun r h1 h2 h3 h4 => by rw [upN_keep (mKT_keep h2 h1 _)]) hMC
            refine x_aload_n C dX9_know_69 rfl 0 rfl ?_
            refine x_getr C sh_87 rfl iX9 22 (by decide) f65 (fun _ h => h) (by decide) rfl dX9_know_70 ?_
            refine x_bipush C (50 : Int32) (by decide) dX9_know_73 ?_
            refine x_iload_n C dX9_know_75 rfl 1 rfl ?_
            refine x_imul C dX9_know_76 ?_
            refine x_iload_n C dX9_know_77 rfl 2 rfl ?_
            refine x_iadd C dX9_know_78 ?_
            refine x_aload_n C dX9_know_79 rfl 0 rfl ?_
            refine x_iconst C (2 : Int32) (by decide) dX9_know_80 ?_
            refine x_aload_n C dX9_know_81 rfl 0 rfl ?_
            refine x_getr C sh_87 rfl iX9 18 (by decide) f56 (fun _ h => h) (by decide) rfl dX9_know_82 ?_
            refine x_iload_n C dX9_know_85 rfl 2 rfl ?_
            refine x_iald C sh_103 (vp_in_nI (n := j) (N := 50) (by omega) (by decide)) dX9_know_86 ?_
            refine x_iload_n C dX9_know_87 rfl 1 rfl ?_
            refine x_callV C sh_87 (by decide) rfl [.int (2 : Int32), .int ((upN (mKT (nI k)) j (mCP (upN mKP k (vFill (xw σ 211 0 (1 : Int32)) 107 650 0)) (nI k))) 103 (nI j).toNatClampNeg), .int (nI k)] (c_X9_is_2 l V hV (upN (mKT (nI k)) j (mCP (upN mKP k (vFill (xw σ 211 0 (1 : Int32)) 107 650 0)) (nI k))) ((upN (mKT (nI k)) j (mCP (upN mKP k (vFill (xw σ 211 0 (1 : Int32)) 107 650 0)) (nI k))) 103 (nI j).toNatClampNeg) (nI k) hME (mv103 hME (vp_in_nI (n := j) (N := 50) (by omega) (by decide)))) (cwV 3 C.2.2.2.2.1 gX9_know_X9_is rfl rfl rfl (by decide +kernel) ⟨Nat.le_of_ble_eq_true rfl, Nat.le_of_ble_eq_true rfl⟩) rfl rfl (Nat.le_of_ble_eq_true rfl) dX9_know_88 ⟨Nat.le_of_ble_eq_true rfl, Nat.le_of_ble_eq_true rfl⟩ (x_kI ?_)
            refine x_bif_eq C 103 dX9_know_91 rfl (fun h10 => ?_) (fun h10 => ?_)
            · refine x_bipush C (-2 : Int32) (by decide) dX9_know_103 ?_
              refine x_iast C sh_106 (vp_add (vp_mulk 50 (vp_in_nI (n := k) (N := 16) (by omega) (by decide)) (by decide)) (vp_in_nI (n := j) (N := 50) (by omega) (by decide)) (by decide)) dX9_know_105 ?_
              refine x_iinc C (q := 2) ((nI j) + (1 : Int32)) [(2, .int ((nI j) + (1 : Int32))), (0, ra V 87), (1, .int (nI k))] dX9_know_106 rfl rfl (by decide) rfl ?_
              refine x_goto C 61 dX9_know_109 rfl ?_
              refine x_lv [1, 2, 0] [(0, ra V 87), (1, .int (nI k)), (2, .int ((nI j) + (1 : Int32)))] rfl ?_
              exact ih61 _ _ _ (by omega) ⟨j + 1, rfl, Eq.symm (by rw [upN_s]; simp [mKT, mKTs, mKTv, h10]), by rw [nI_succ], hjn⟩
            · refine x_aload_n C dX9_know_94 rfl 0 rfl ?_
              refine x_iload_n C dX9_know_95 rfl 2 rfl ?_
              refine x_iload_n C dX9_know_96 rfl 1 rfl ?_
              refine x_callV C sh_87 (by decide) rfl [.int (nI j), .int (nI k)] (c_X9_findType l V hV (upN (mKT (nI k)) j (mCP (upN mKP k (vFill (xw σ 211 0 (1 : Int32)) 107 650 0)) (nI k))) (nI j) (nI k) hME (vp_in_nI (n := j) (N := 50) (by omega) (by decide)) (vp_in_nI (n := k) (N := 16) (by omega) (by decide))) (cwV 2 C.2.2.2.2.1 gX9_know_X9_findType rfl rfl rfl (by decide +kernel) ⟨Nat.le_of_ble_eq_true rfl, Nat.le_of_ble_eq_true rfl⟩) rfl rfl (Nat.le_of_ble_eq_true rfl) dX9_know_97 ⟨Nat.le_of_ble_eq_true rfl, Nat.le_of_ble_eq_true rfl⟩ (x_kI ?_)
              refine x_goto C 105 dX9_know_100 rfl ?_
              refine x_iast C sh_106 (vp_add (vp_mulk 50 (vp_in_nI (n := k) (N := 16) (by omega) (by decide)) (by decide)) (vp_in_nI (n := j) (N := 50) (by omega) (by decide)) (by decide)) dX9_know_105 ?_
              refine x_iinc C (q := 2) ((nI j) + (1 : Int32)) [(2, .int ((nI j) + (1 : Int32))), (0, ra V 87), (1, .int (nI k))] dX9_know_106 rfl rfl (by decide) rfl ?_
              refine x_goto C 61 dX9_know_109 rfl ?_
              refine x_lv [1, 2, 0] [(0, ra V 87), (1, .int (nI k)), (2, .int ((nI j) + (1 : Int32)))] rfl ?_
              exact ih61 _ _ _ (by omega) ⟨j + 1, rfl, Eq.symm (by rw [upN_s]; simp [mKT, mKTs, mKTv, h10]), by rw [nI_succ], hjn⟩
        · refine x_goto C 189 dX9_know_51 rfl ?_
          refine x_iinc C (q := 1) ((nI k) + (1 : Int32)) [(1, .int ((nI k) + (1 : Int32))), (0, ra V 87)] dX9_know_189 rfl rfl (by decide) rfl ?_
          refine x_goto C 37 dX9_know_192 rfl ?_
          refine x_lv [1, 0] [(0, ra V 87), (1, .int ((nI k) + (1 : Int32)))] rfl ?_
          exact ih37 _ _ _ (by omega) ⟨k + 1, rfl, Eq.symm (by rw [upN_s]; simp [mKP, h4]), by rw [nI_succ], hkn⟩
    · have hkn : k < 650 := Nat.lt_of_not_le (fun hq => h2 (nI_le hq (by omega)))
      refine x_aload_n C dX9_know_22 rfl 0 rfl ?_
      refine x_getr C sh_87 rfl iX9 23 (by decide) f68 (fun _ h => h) (by decide) rfl dX9_know_23 ?_
      refine x_iload_n C dX9_know_26 rfl 1 rfl ?_
      refine x_iconst C (0 : Int32) (by decide) dX9_know_27 ?_
      refine x_iast C sh_107 (vp_in_nI hkn (by decide)) dX9_know_28 ?_
      refine x_iinc C (q := 1) ((nI k) + (1 : Int32)) [(1, .int ((nI k) + (1 : Int32))), (0, ra V 87)] dX9_know_29 rfl rfl (by decide) rfl ?_
      refine x_goto C 15 dX9_know_32 rfl ?_
      refine x_lv [1, 0] [(0, ra V 87), (1, .int ((nI k) + (1 : Int32)))] rfl ?_
      exact ih15 _ _ _ (by omega) ⟨k + 1, rfl, Eq.symm (vFill_s _ _ k _ (by omega)), by rw [nI_succ], hkn⟩
  · exact x_vret C hr hlk dX9_know_7 ⟨rfl, by simp [mKn, h1]⟩

/-! The reference's error and digest. -/
def nzc (σ : xS) : Nat → Nat
  | 0 => 0
  | k + 1 => nzc σ k + (if σ 107 k = 0 then 0 else 1)
theorem nzc_z {σ : xS} {k : Nat} (h : σ 107 k = 0) : nzc σ (k + 1) = nzc σ k := by rw [nzc, if_pos h]; rfl
theorem nzc_n {σ : xS} {k : Nat} (h : ¬ σ 107 k = 0) : nzc σ (k + 1) = nzc σ k + 1 := by rw [nzc, if_neg h]
theorem nzc_mono {σ : xS} {a : Nat} : ∀ b, a ≤ b → nzc σ a ≤ nzc σ b := by
  intro b
  induction b with
  | zero => intro h; rw [Nat.le_zero.mp h]; exact Nat.le_refl _
  | succ b ih =>
    intro h
    rcases Nat.lt_or_ge a (b + 1) with q | q
    · have := ih (by omega)
      rw [nzc]; omega
    · rw [show a = b + 1 by omega]; exact Nat.le_refl _
theorem nzc_le (σ : xS) : ∀ k, nzc σ k ≤ k
  | 0 => Nat.le_refl _
  | k + 1 => by
    have := nzc_le σ k
    rw [nzc]; split <;> omega
theorem mCEN_nzc (σ : xS) : ∀ k, mCEN σ k = nI (nzc σ k)
  | 0 => rfl
  | k + 1 => by
    rw [mCEN, mCEN_nzc σ k]
    by_cases h : σ 107 k = 0
    · rw [nzc_z h, decide_eq_false (fun q => q h)]
      exact Int32.add_zero _
    · rw [nzc_n h, decide_eq_true h, nI_succ]
      rfl
theorem mCE_vp {σ : xS} {x : Int32} (h : mIn x 0 (mCE σ - 1) = true) : vp_in x (nzc σ 650) := by
  have hl := nzc_le σ 650
  refine mIn_vp (y := mCE σ) ?_ (by omega) h
  rw [mCE, mCEN_nzc]
  exact ⟨by rw [nI_clamp (by omega)], by rw [nI_clamp (by omega)]; exact Nat.le_refl _⟩
theorem nzc_lt {σ : xS} {q n : Nat} (h : nzc σ q ≤ n) (hn : n < nzc σ 650) : q < 650 := by
  rcases Nat.lt_or_ge q 650 with r | r
  · exact r
  · have := nzc_mono (σ := σ) q r; omega
def qErr (σ : xS) (x w : Int32) : Nat := if mIn x 0 (mCE (mKn (t0 σ)) - 1) = true ∧ mIn w 0 2 = true then 0 else 1
abbrev rErr (σ : xS) (x w : Int32) : Option Value → xS → Prop := fun v u => ∃ y, v = some (.int y) ∧ (qErr σ x w = 0 → u = mKn (t0 σ) ∧ ∃ a, a < 650 ∧ nzc (mKn (t0 σ)) a = x.toNatClampNeg ∧ ¬ mKn (t0 σ) 107 a = 0 ∧ y = (if w = 0 then nI a / 50 else if w = 1 then nI a - nI a / 50 * 50 else mKn (t0 σ) 107 a)) ∧ (qErr σ x w ≠ 0 → u = xw (mKn (t0 σ)) 208 0 (nI (qErr σ x w)))
set_option maxHeartbeats 4000000 in
set_option maxRecDepth 100000 in
theorem c_X9_error (l : Launch) (V : xV) (hV : xInj V) (σ : xS) (x w1 : Int32) (hM : mV σ) : xM l yX9_error wsX9_error ({ frames := 10, cells := 0, slots := 0, locals := 239 }) V [ra V 87, .int x, .int w1] σ (rErr σ x w1) := by
  refine xM_of (cc := cX9_error) (maxL := 5) (ret := (some .int)) [(0, ra V 87), (1, .int x), (2, .int w1)] hV (by decide) rfl rfl (Nat.le_of_ble_eq_true rfl) (fun p e s m args below meth c C hr hlk => ?_)
  have iX9 : ∀ w ∈ u_ws RX9 TX9 24, w ∈ wsX9_error := by decide +kernel
  have f71 : (Cond.fieldLink RX9 71 RX9 (TX9 0).2.1 (TX9 0).2.2.1).before args s = true := C.2.2.2.2.1 _ (by decide +kernel)
  have f68 : (Cond.fieldLink RX9 68 RX9 (TX9 23).2.1 (TX9 23).2.2.1).before args s = true := C.2.2.2.2.1 _ (by decide +kernel)
  refine x_aload_n C dX9_error_0 rfl 0 rfl ?_
  refine x_iconst C (0 : Int32) (by decide) dX9_error_1 ?_
  refine x_puti (ty := .int) C sh_87 rfl iX9 0 (by decide) f71 (fun _ h => h) (by decide) rfl (by decide +kernel) (by decide +kernel) (by decide) rfl tyX9 tyX9_ok nmX9 (by decide +kernel) rfl rfl dX9_error_2 ?_
  have hMt := t0_V hM
  refine x_s (σ' := t0 σ) rfl ?_
  refine x_iload_n C dX9_error_5 rfl 1 rfl ?_
  refine x_iconst C (0 : Int32) (by decide) dX9_error_6 ?_
  refine x_aload_n C dX9_error_7 rfl 0 rfl ?_
  refine x_callV C sh_87 (by decide) rfl [] (c_X9_countErrors l V hV (t0 σ)  hMt) (cwV 0 C.2.2.2.2.1 gX9_error_X9_countErrors rfl rfl rfl (by decide +kernel) ⟨Nat.le_of_ble_eq_true rfl, Nat.le_of_ble_eq_true rfl⟩) rfl rfl (Nat.le_of_ble_eq_true rfl) dX9_error_8 ⟨Nat.le_of_ble_eq_true rfl, Nat.le_of_ble_eq_true rfl⟩ (x_kI ?_)
  refine x_iconst C (1 : Int32) (by decide) dX9_error_11 ?_
  refine x_isub C dX9_error_12 ?_
  refine x_callS C [.int x, .int (0 : Int32), .int ((mCE (mKn (t0 σ))) - (1 : Int32))] (c_X9_isIn l V hV (mKn (t0 σ)) x (0 : Int32) ((mCE (mKn (t0 σ))) - (1 : Int32))) (va_cwS 3 C.2.2.2.2.1 gX9_error_X9_isIn rfl rfl rfl (by decide +kernel) ⟨Nat.le_of_ble_eq_true rfl, Nat.le_of_ble_eq_true rfl⟩) rfl rfl (Nat.le_of_ble_eq_true rfl) dX9_error_13 ⟨Nat.le_of_ble_eq_true rfl, Nat.le_of_ble_eq_true rfl⟩ (x_kI ?_)
  refine x_bif_eq C 28 dX9_error_16 rfl (fun h1 => ?_) (fun h1 => ?_)
  · refine x_aload_n C dX9_error_28 rfl 0 rfl ?_
    refine x_iconst C (1 : Int32) (by decide) dX9_error_29 ?_
    refine x_callV C sh_87 (by decide) rfl [.int (1 : Int32)] (c_X9_no l V hV (mKn (t0 σ)) (1 : Int32)) (cwV 1 C.2.2.2.2.1 gX9_error_X9_no rfl rfl rfl (by decide +kernel) ⟨Nat.le_of_ble_eq_true rfl, Nat.le_of_ble_eq_true rfl⟩) rfl rfl (Nat.le_of_ble_eq_true rfl) dX9_error_30 ⟨Nat.le_of_ble_eq_true rfl, Nat.le_of_ble_eq_true rfl⟩ (x_kI ?_)
    exact x_iret C hr hlk dX9_error_33 ⟨_, rfl, fun h => absurd h (by simp [qErr, h1]), fun _ => by simp [qErr, h1]; rfl⟩
  · refine x_iload_n C dX9_error_19 rfl 2 rfl ?_
    refine x_iconst C (0 : Int32) (by decide) dX9_error_20 ?_
    refine x_iconst C (2 : Int32) (by decide) dX9_error_21 ?_
    refine x_callS C [.int w1, .int (0 : Int32), .int (2 : Int32)] (c_X9_isIn l V hV (mKn (t0 σ)) w1 (0 : Int32) (2 : Int32)) (va_cwS 3 C.2.2.2.2.1 gX9_error_X9_isIn rfl rfl rfl (by decide +kernel) ⟨Nat.le_of_ble_eq_true rfl, Nat.le_of_ble_eq_true rfl⟩) rfl rfl (Nat.le_of_ble_eq_true rfl) dX9_error_22 ⟨Nat.le_of_ble_eq_true rfl, Nat.le_of_ble_eq_true rfl⟩ (x_kI ?_)
    refine x_bif_ne C 34 dX9_error_25 rfl (fun h2 => ?_) (fun h2 => ?_)
    · have hxv := mCE_vp h1
      have hxE := vp_nI hxv
      have hxlt := vp_cl hxv
      refine x_iconst C (-1 : Int32) (by decide) dX9_error_34 ?_
      refine x_istore_n C [(3, .int (-1 : Int32)), (0, ra V 87), (1, .int x), (2, .int w1)] dX9_error_35 rfl (by decide) rfl ?_
      refine x_iload_n C dX9_error_36 rfl 2 rfl ?_
      refine x_istore C [(4, .int x), (3, .int (-1 : Int32)), (0, ra V 87), (1, .int x), (2, .int w1)] dX9_error_37 (by decide) rfl ?_
      refine x_lv [2, 3, 4, 1, 0] [(0, ra V 87), (1, .int x), (2, .int w1), (3, .int (-1 : Int32)), (4, .int x)] rfl ?_
      refine x_loop (fun μ σ_ lv_ => ∃ (l q : Nat) (a2 l2 : Int32), μ = l ∧ mKn (t0 σ) = σ_ ∧ lv_ = [(0, ra V 87), (1, .int x), (2, .int w1), (3, .int a2), (4, .int l2)] ∧ a2 = nI q - 1 ∧ l2 = nI l - 1 ∧ nzc (mKn (t0 σ)) q + l = x.toNatClampNeg + 1 ∧ l < 2 ^ 31 ∧ (l = x.toNatClampNeg + 1 ∨ ∃ r, q = r + 1 ∧ ¬ mKn (t0 σ) 107 r = 0)) ⟨_, ⟨x.toNatClampNeg + 1, 0, _, _, rfl, rfl, rfl, (by decide), (by rw [nI_pred]; exact hxE), (by rw [nzc]; omega), (by have := nzc_le (mKn (t0 σ)) 650; omega), (Or.inl rfl)⟩⟩ ?_
      rintro μ39 _ _ ⟨l, q, a2, l2, hμ39, rfl, rfl, hc39_0, hc39_1, hc39_2, hc39_3, hc39_4⟩ ih39
      refine x_iload C dX9_error_39 4 rfl ?_
      refine x_if_lt C 68 dX9_error_41 rfl (fun h3 => ?_) (fun h3 => ?_)
      · have hl0 := pred_neg hc39_3 hc39_1 h3
        obtain ⟨r, hqr, hnz⟩ := hc39_4.resolve_left (by omega)
        have hr6 : nzc (mKn (t0 σ)) r = x.toNatClampNeg := by rw [hqr, nzc_n hnz] at hc39_2; omega
        have hr7 : r < 650 := nzc_lt (Nat.le_of_eq hr6) hxlt
        have hcl : (nI r).toNatClampNeg = r := nI_clamp (by omega)
        rw [hc39_0, hqr, nI_pred]
        refine x_iload_n C dX9_error_68 rfl 2 rfl ?_
        refine x_if_ne C 79 dX9_error_69 rfl (fun h4 => ?_) (fun h4 => ?_)
        · refine x_iload_n C dX9_error_79 rfl 2 rfl ?_
          refine x_iconst C (1 : Int32) (by decide) dX9_error_80 ?_
          refine x_icmp_ne C 91 dX9_error_81 rfl (fun h5 => ?_) (fun h5 => ?_)
          · refine x_aload_n C dX9_error_91 rfl 0 rfl ?_
            refine x_getr C sh_87 rfl iX9 23 (by decide) f68 (fun _ h => h) (by decide) rfl dX9_error_92 ?_
            refine x_iload_n C dX9_error_95 rfl 3 rfl ?_
            refine x_iald C sh_107 (vp_in_nI (n := r) (N := 650) (by omega) (by decide)) dX9_error_96 ?_
            rw [hcl]
            exact x_iret C hr hlk dX9_error_97 ⟨_, rfl, fun _ => ⟨rfl, r, hr7, hr6, hnz, by simp [h4, h5]⟩, fun h => absurd (by simp [qErr, h1, h2]) h⟩
          · refine x_iload_n C dX9_error_84 rfl 3 rfl ?_
            refine x_bipush C (50 : Int32) (by decide) dX9_error_85 ?_
            refine x_irem C (by decide) dX9_error_87 ?_
            refine x_goto C 97 dX9_error_88 rfl ?_
            exact x_iret C hr hlk dX9_error_97 ⟨_, rfl, fun _ => ⟨rfl, r, hr7, hr6, hnz, by simp [h4, eq_true h5]⟩, fun h => absurd (by simp [qErr, h1, h2]) h⟩
        · refine x_iload_n C dX9_error_72 rfl 3 rfl ?_
          refine x_bipush C (50 : Int32) (by decide) dX9_error_73 ?_
          refine x_idiv C (by decide) dX9_error_75 ?_
          refine x_goto C 97 dX9_error_76 rfl ?_
          exact x_iret C hr hlk dX9_error_97 ⟨_, rfl, fun _ => ⟨rfl, r, hr7, hr6, hnz, by simp [eq_true h4]⟩, fun h => absurd (by simp [qErr, h1, h2]) h⟩
      · obtain ⟨l3, hl3, hl3b⟩ := pred_pos hc39_1 h3
        refine x_iinc C (q := 3) (a2 + (1 : Int32)) [(3, .int (a2 + (1 : Int32))), (0, ra V 87), (1, .int x), (2, .int w1), (4, .int l2)] dX9_error_44 rfl rfl (by decide) rfl ?_
        refine x_lv [1, 2, 3, 0, 4] [(0, ra V 87), (1, .int x), (2, .int w1), (3, .int (a2 + (1 : Int32))), (4, .int l2)] rfl ?_
        refine x_loop (fun μ σ_ lv_ => ∃ (r : Nat), μ = 650 - r ∧ mKn (t0 σ) = σ_ ∧ lv_ = [(0, ra V 87), (1, .int x), (2, .int w1), (3, .int (nI r)), (4, .int l2)] ∧ r < 650 ∧ nzc (mKn (t0 σ)) r = nzc (mKn (t0 σ)) q) ⟨_, ⟨q, rfl, rfl, by rw [hc39_0, Int32.sub_add_cancel], (nzc_lt (n := x.toNatClampNeg) (by omega) hxlt), rfl⟩⟩ ?_
        rintro μ47 _ _ ⟨r, hμ47, rfl, rfl, hc47_0, hc47_1⟩ ih47
        refine x_aload_n C dX9_error_47 rfl 0 rfl ?_
        refine x_getr C sh_87 rfl iX9 23 (by decide) f68 (fun _ h => h) (by decide) rfl dX9_error_48 ?_
        have hcl : (nI r).toNatClampNeg = r := nI_clamp (by omega)
        refine x_iload_n C dX9_error_51 rfl 3 rfl ?_
        refine x_iald C sh_107 (vp_in_nI (n := r) (N := 650) (by omega) (by decide)) dX9_error_52 ?_
        rw [hcl]
        refine x_if_ne C 62 dX9_error_53 rfl (fun h6 => ?_) (fun h6 => ?_)
        · refine x_iinc C (q := 4) (l2 + (-1 : Int32)) [(4, .int (l2 + (-1 : Int32))), (0, ra V 87), (1, .int x), (2, .int w1), (3, .int (nI r))] dX9_error_62 rfl rfl (by decide) rfl ?_
          refine x_goto C 39 dX9_error_65 rfl ?_
          refine x_lv [1, 2, 3, 4, 0] [(0, ra V 87), (1, .int x), (2, .int w1), (3, .int (nI r)), (4, .int (l2 + (-1 : Int32)))] rfl ?_
          exact ih39 _ _ _ (by omega) ⟨l3, r + 1, _, _, rfl, rfl, rfl, (nI_pred r).symm ▸ rfl, (by rw [hl3b]; exact nI_m1 l3), (by rw [nzc_n h6, hc47_1]; omega), (by omega), (Or.inr ⟨r, rfl, h6⟩)⟩
        · refine x_iinc C (q := 3) ((nI r) + (1 : Int32)) [(3, .int ((nI r) + (1 : Int32))), (0, ra V 87), (1, .int x), (2, .int w1), (4, .int l2)] dX9_error_56 rfl rfl (by decide) rfl ?_
          refine x_goto C 47 dX9_error_59 rfl ?_
          refine x_lv [1, 2, 3, 0, 4] [(0, ra V 87), (1, .int x), (2, .int w1), (3, .int ((nI r) + (1 : Int32))), (4, .int l2)] rfl ?_
          exact ih47 _ _ _ (by omega) ⟨r + 1, rfl, rfl, by rw [nI_succ], (nzc_lt (n := x.toNatClampNeg) (by rw [nzc_z h6, hc47_1]; omega) hxlt), (by rw [nzc_z h6, hc47_1])⟩
    · refine x_aload_n C dX9_error_28 rfl 0 rfl ?_
      refine x_iconst C (1 : Int32) (by decide) dX9_error_29 ?_
      refine x_callV C sh_87 (by decide) rfl [.int (1 : Int32)] (c_X9_no l V hV (mKn (t0 σ)) (1 : Int32)) (cwV 1 C.2.2.2.2.1 gX9_error_X9_no rfl rfl rfl (by decide +kernel) ⟨Nat.le_of_ble_eq_true rfl, Nat.le_of_ble_eq_true rfl⟩) rfl rfl (Nat.le_of_ble_eq_true rfl) dX9_error_30 ⟨Nat.le_of_ble_eq_true rfl, Nat.le_of_ble_eq_true rfl⟩ (x_kI ?_)
      exact x_iret C hr hlk dX9_error_33 ⟨_, rfl, fun h => absurd h (by simp [qErr, h1, h2]), fun _ => by simp [qErr, h1, h2]; rfl⟩

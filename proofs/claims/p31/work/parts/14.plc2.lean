/-! Counts of bits, culprit, share, digest. -/
def ush (x y : Int32) : Int32 := (x.toUInt32 >>> (y.toUInt32 &&& Int32.toUInt32 31)).toInt32
def pc1 (x : Int32) : Int32 := x - (ush x 1 &&& 1431655765)
def pc2 (x : Int32) : Int32 := (x &&& 858993459) + (ush x 2 &&& 858993459)
def pc3 (x : Int32) : Int32 := (x + ush x 4) &&& 252645135
def pc4 (x : Int32) : Int32 := x + ush x 8
def pc5 (x : Int32) : Int32 := x + ush x 16
def popc (x : Int32) : Int32 := pc5 (pc4 (pc3 (pc2 (pc1 x)))) &&& 63
def culS (al rt o f : Int32) (b : Int32 × Int32) : Int32 × Int32 := if ¬ cfgI o f &&& al = 0 ∧ cfgI o f &&& al &&& rt = 0 ∧ ¬ b.2 ≤ popc o + popc f then (16 * o + f, popc o + popc f) else b
def culI (al rt o : Int32) : Nat → Int32 × Int32 → Int32 × Int32
  | 0, b => b
  | k + 1, b => culS al rt o (nI k) (culI al rt o k b)
def culO (al rt : Int32) : Nat → Int32 × Int32
  | 0 => (-1, 9)
  | k + 1 => culI al rt (nI k) 16 (culO al rt k)
def culp (σ : xS) : Int32 := (culO (allI σ) (rgt σ) 16).1
def mpN (σ : xS) (al s : Int32) : Nat → Int64 → Int64
  | 0, d => d
  | k + 1, d => mixL (mpN σ al s k d) (wT σ s (nI k) &&& al).toInt64
theorem mpN_0 (σ : xS) (al s : Int32) (d : Int64) : mpN σ al s 0 d = d := rfl
theorem mpN_s (σ : xS) (al s : Int32) (k : Nat) (d : Int64) : mpN σ al s (k + 1) d = mixL (mpN σ al s k d) (wT σ s (nI k) &&& al).toInt64 := rfl
def mixP (σ : xS) (al : Int32) (d : Int64) : Int64 := mpN σ al 3 (σ 204 0).toNatClampNeg (mpN σ al 2 (σ 203 0).toNatClampNeg (mpN σ al 1 (σ 202 0).toNatClampNeg (mpN σ al 0 (σ 201 0).toNatClampNeg d)))
def mtI (σ : xS) (al e : Int32) : Nat → Int64 → Int64
  | 0, d => d
  | k + 1, d => if isInB al (nI k) = true then mixL (mtI σ al e k d) (tyIn σ e (nI k)).toInt64 else mtI σ al e k d
def mtO (σ : xS) (al : Int32) : Nat → Int64 → Int64
  | 0, d => d
  | k + 1, d => mtI σ al (nI k) 16 (mtO σ al k d)
def mixT (σ : xS) (al : Int32) (d : Int64) : Int64 := mtO σ al (σ 205 0).toNatClampNeg d
def deN (σ : xS) : Nat → Int64 → Int64
  | 0, d => d
  | k + 1, d => mixL (mixL (mixL (deN σ k d) (kndO σ (nI k)).toInt64) (elmO σ (nI k)).toInt64) (prdO σ (nI k)).toInt64
def dig0 (σ : xS) (al : Int32) : Int64 := mixL (mixL (mixL (mixL (mixL (mixL 149 al.toInt64) (σ 201 0).toInt64) (σ 202 0).toInt64) (σ 203 0).toInt64) (σ 204 0).toInt64) (σ 205 0).toInt64
def dige (σ : xS) : Int64 := mixT (insA σ) (allI σ) (deN (insA σ) (insA σ 207 0).toNatClampNeg (mixL (mixP (insA σ) (allI σ) (dig0 (insA σ) (allI σ))) (insA σ 207 0).toInt64))
def shr0 (σ : xS) : UInt64 := if popc (allI σ) = 0 then 0 else FP.ddiv (FP.i2d (popc (allI σ) - popc (wrg (insA σ)))) (FP.i2d (popc (allI σ)))
abbrev rD (x : UInt64) (σ' : xS) : Option Value → xS → Prop := fun v u => v = some (.double x) ∧ u = σ'
section XD
variable {p : Program} {l : Launch} {e : Env} {R : Room} {s : State} {m : MethodId} {args : Array Value} {below : List Frame} {meth : Method} {c : Code} {V : xV} {E : va_W} {A : Nat → Prop} {nL cells slots : Nat} {Q : State → Prop} {pc : Nat} {lv : List (Nat × Value)} {st : List Value}
theorem x_kD {x : UInt64} {σ2 : xS} (k : X p l e R s m args below meth c V E A nL cells slots Q σ2 (pc + 3) lv (.double x :: st)) : ∀ v σ', rD x σ2 v σ' → X p l e R s m args below meth c V E A nL cells slots Q σ' (pc + 3) lv (v.toList ++ st) := by
  rintro v σ' ⟨rfl, rfl⟩; exact k
end XD
set_option maxHeartbeats 4000000 in
set_option maxRecDepth 100000 in
theorem c_J6_bitCount_0f7a4 (l : Launch) (V : xV) (hV : xInj V) (σ : xS) (x : Int32) : xM l yJ6_bitCount_0f7a4 wsJ6_bitCount_0f7a4 ({ frames := 0, cells := 0, slots := 0, locals := 0 }) V [.int x] σ (rI (popc x) σ) := by
  refine xM_of (cc := cJ6_bitCount_0f7a4) (maxL := 1) (ret := (some .int)) [(0, .int x)] hV (by decide) rfl rfl (Nat.le_of_ble_eq_true rfl) (fun p e s m args below meth c C hr hlk => ?_)
  refine x_iload_n C dJ6_bitCount_0f7a4_0 rfl 0 rfl ?_
  refine x_iload_n C dJ6_bitCount_0f7a4_1 rfl 0 rfl ?_
  refine x_iconst C (1 : Int32) (by decide) dJ6_bitCount_0f7a4_2 ?_
  refine x_iushr C dJ6_bitCount_0f7a4_3 ?_
  refine x_ldc_w C (1431655765 : Int32) (C.2.2.2.2.1 _ (by decide +kernel)) dJ6_bitCount_0f7a4_4 ?_
  refine x_iand C dJ6_bitCount_0f7a4_7 ?_
  refine x_isub C dJ6_bitCount_0f7a4_8 ?_
  refine x_nm (fun y1 hy1 => ?_)
  refine x_istore_n C [(0, .int y1)] dJ6_bitCount_0f7a4_9 rfl (by decide) rfl ?_
  refine x_iload_n C dJ6_bitCount_0f7a4_10 rfl 0 rfl ?_
  refine x_ldc_w C (858993459 : Int32) (C.2.2.2.2.1 _ (by decide +kernel)) dJ6_bitCount_0f7a4_11 ?_
  refine x_iand C dJ6_bitCount_0f7a4_14 ?_
  refine x_iload_n C dJ6_bitCount_0f7a4_15 rfl 0 rfl ?_
  refine x_iconst C (2 : Int32) (by decide) dJ6_bitCount_0f7a4_16 ?_
  refine x_iushr C dJ6_bitCount_0f7a4_17 ?_
  refine x_ldc_w C (858993459 : Int32) (C.2.2.2.2.1 _ (by decide +kernel)) dJ6_bitCount_0f7a4_18 ?_
  refine x_iand C dJ6_bitCount_0f7a4_21 ?_
  refine x_iadd C dJ6_bitCount_0f7a4_22 ?_
  refine x_nm (fun y2 hy2 => ?_)
  refine x_istore_n C [(0, .int y2)] dJ6_bitCount_0f7a4_23 rfl (by decide) rfl ?_
  refine x_iload_n C dJ6_bitCount_0f7a4_24 rfl 0 rfl ?_
  refine x_iload_n C dJ6_bitCount_0f7a4_25 rfl 0 rfl ?_
  refine x_iconst C (4 : Int32) (by decide) dJ6_bitCount_0f7a4_26 ?_
  refine x_iushr C dJ6_bitCount_0f7a4_27 ?_
  refine x_iadd C dJ6_bitCount_0f7a4_28 ?_
  refine x_ldc_w C (252645135 : Int32) (C.2.2.2.2.1 _ (by decide +kernel)) dJ6_bitCount_0f7a4_29 ?_
  refine x_iand C dJ6_bitCount_0f7a4_32 ?_
  refine x_nm (fun y3 hy3 => ?_)
  refine x_istore_n C [(0, .int y3)] dJ6_bitCount_0f7a4_33 rfl (by decide) rfl ?_
  refine x_iload_n C dJ6_bitCount_0f7a4_34 rfl 0 rfl ?_
  refine x_iload_n C dJ6_bitCount_0f7a4_35 rfl 0 rfl ?_
  refine x_bipush C (8 : Int32) (by decide) dJ6_bitCount_0f7a4_36 ?_
  refine x_iushr C dJ6_bitCount_0f7a4_38 ?_
  refine x_iadd C dJ6_bitCount_0f7a4_39 ?_
  refine x_nm (fun y4 hy4 => ?_)
  refine x_istore_n C [(0, .int y4)] dJ6_bitCount_0f7a4_40 rfl (by decide) rfl ?_
  refine x_iload_n C dJ6_bitCount_0f7a4_41 rfl 0 rfl ?_
  refine x_iload_n C dJ6_bitCount_0f7a4_42 rfl 0 rfl ?_
  refine x_bipush C (16 : Int32) (by decide) dJ6_bitCount_0f7a4_43 ?_
  refine x_iushr C dJ6_bitCount_0f7a4_45 ?_
  refine x_iadd C dJ6_bitCount_0f7a4_46 ?_
  refine x_nm (fun y5 hy5 => ?_)
  refine x_istore_n C [(0, .int y5)] dJ6_bitCount_0f7a4_47 rfl (by decide) rfl ?_
  refine x_iload_n C dJ6_bitCount_0f7a4_48 rfl 0 rfl ?_
  refine x_bipush C (63 : Int32) (by decide) dJ6_bitCount_0f7a4_49 ?_
  refine x_iand C dJ6_bitCount_0f7a4_51 ?_
  exact x_iret C hr hlk dJ6_bitCount_0f7a4_52 ⟨by simp only [hy5, hy4, hy3, hy2, hy1]; rfl, rfl⟩


set_option maxHeartbeats 4000000 in
set_option maxRecDepth 100000 in
theorem c_X8_culprit (l : Launch) (V : xV) (hV : xInj V) (σ : xS)  (hz202 : okZ σ 202) (hz203 : okZ σ 203) : xM l yX8_culprit wsX8_culprit ({ frames := 7, cells := 0, slots := 0, locals := 155 }) V [ra V 0] σ (rI (culp σ) (insA σ)) := by
  refine xM_of (cc := cX8_culprit) (maxL := 9) (ret := (some .int)) [(0, ra V 0)] hV (by decide) rfl rfl (Nat.le_of_ble_eq_true rfl) (fun p e s m args below meth c C hr hlk => ?_)
  have iX8 : ∀ w ∈ u_ws RX8 TX8 4, w ∈ wsX8_culprit := by decide +kernel
  have f37 : (Cond.fieldLink RX8 37 RX8 (TX8 3).2.1 (TX8 3).2.2.1).before args s = true := C.2.2.2.2.1 _ (by decide +kernel)
  refine x_aload_n C dX8_culprit_0 rfl 0 rfl ?_
  refine x_callV C sh_0 (by decide) rfl [] (c_X8_products l V hV σ ) (cwV 0 C.2.2.2.2.1 gX8_culprit_X8_products rfl rfl rfl (by decide +kernel) ⟨Nat.le_of_ble_eq_true rfl, Nat.le_of_ble_eq_true rfl⟩) rfl rfl (Nat.le_of_ble_eq_true rfl) dX8_culprit_1 ⟨Nat.le_of_ble_eq_true rfl, Nat.le_of_ble_eq_true rfl⟩ (x_kI ?_)
  refine x_istore_n C [(1, .int (allI σ)), (0, ra V 0)] dX8_culprit_4 rfl (by decide) rfl ?_
  refine x_aload_n C dX8_culprit_5 rfl 1 rfl ?_
  refine x_getr C sh_0 rfl iX8 3 (by decide) f37 (fun _ h => h) (by decide) rfl dX8_culprit_6 ?_
  refine x_iload_n C dX8_culprit_9 rfl 0 rfl ?_
  refine x_callV C sh_82 (by decide) rfl [.int (allI σ)] (c_X2_inspect l V hV σ (allI σ) (okZ_of (by simp [lfe_keep, lfp_keep, lfa_keep, lfm_keep, gts_keep, vPut_ne, vFill_ne, xw_ne]) hz202) (okZ_of (by simp [lfe_keep, lfp_keep, lfa_keep, lfm_keep, gts_keep, vPut_ne, vFill_ne, xw_ne]) hz203)) (cwV 1 C.2.2.2.2.1 gX8_culprit_X2_inspect rfl rfl rfl (by decide +kernel) ⟨Nat.le_of_ble_eq_true rfl, Nat.le_of_ble_eq_true rfl⟩) rfl rfl (Nat.le_of_ble_eq_true rfl) dX8_culprit_10 ⟨Nat.le_of_ble_eq_true rfl, Nat.le_of_ble_eq_true rfl⟩ (x_kV ?_)
  refine x_iload_n C dX8_culprit_13 rfl 0 rfl ?_
  refine x_aload_n C dX8_culprit_14 rfl 1 rfl ?_
  refine x_getr C sh_0 rfl iX8 3 (by decide) f37 (fun _ h => h) (by decide) rfl dX8_culprit_15 ?_
  refine x_callV C sh_82 (by decide) rfl [] (c_X2_wrongProducts l V hV (insp σ (allI σ)) ) (cwV 0 C.2.2.2.2.1 gX8_culprit_X2_wrongProducts rfl rfl rfl (by decide +kernel) ⟨Nat.le_of_ble_eq_true rfl, Nat.le_of_ble_eq_true rfl⟩) rfl rfl (Nat.le_of_ble_eq_true rfl) dX8_culprit_18 ⟨Nat.le_of_ble_eq_true rfl, Nat.le_of_ble_eq_true rfl⟩ (x_kI ?_)
  refine x_iconst C (-1 : Int32) (by decide) dX8_culprit_21 ?_
  refine x_ixor C dX8_culprit_22 ?_
  refine x_iand C dX8_culprit_23 ?_
  refine x_istore_n C [(2, .int ((allI σ) &&& ((wrg (insp σ (allI σ))) ^^^ (-1 : Int32)))), (1, .int (allI σ)), (0, ra V 0)] dX8_culprit_24 rfl (by decide) rfl ?_
  refine x_iconst C (-1 : Int32) (by decide) dX8_culprit_25 ?_
  refine x_istore_n C [(3, .int (-1 : Int32)), (2, .int ((allI σ) &&& ((wrg (insp σ (allI σ))) ^^^ (-1 : Int32)))), (1, .int (allI σ)), (0, ra V 0)] dX8_culprit_26 rfl (by decide) rfl ?_
  refine x_bipush C (9 : Int32) (by decide) dX8_culprit_27 ?_
  refine x_istore C [(4, .int (9 : Int32)), (3, .int (-1 : Int32)), (2, .int ((allI σ) &&& ((wrg (insp σ (allI σ))) ^^^ (-1 : Int32)))), (1, .int (allI σ)), (0, ra V 0)] dX8_culprit_29 (by decide) rfl ?_
  refine x_iconst C (0 : Int32) (by decide) dX8_culprit_31 ?_
  refine x_istore C [(5, .int (0 : Int32)), (4, .int (9 : Int32)), (3, .int (-1 : Int32)), (2, .int ((allI σ) &&& ((wrg (insp σ (allI σ))) ^^^ (-1 : Int32)))), (1, .int (allI σ)), (0, ra V 0)] dX8_culprit_32 (by decide) rfl ?_
  refine x_lv [5, 4, 3, 2, 1, 0] [(0, ra V 0), (1, .int (allI σ)), (2, .int ((allI σ) &&& ((wrg (insp σ (allI σ))) ^^^ (-1 : Int32)))), (3, .int (-1 : Int32)), (4, .int (9 : Int32)), (5, .int (0 : Int32))] rfl ?_
  refine x_loop (fun μ σ_ lv_ => ∃ (k : Nat), μ = 16 - k ∧ insA σ = σ_ ∧ lv_ = [(0, ra V 0), (1, .int (allI σ)), (2, .int (rgt σ)), (3, .int ((culO (allI σ) (rgt σ) k).1)), (4, .int ((culO (allI σ) (rgt σ) k).2)), (5, .int (nI k))] ∧ k ≤ 16) ⟨_, ⟨0, rfl, rfl, rfl, Nat.zero_le _⟩⟩ ?_
  rintro μ34 _ _ ⟨k, hμ34, rfl, rfl, hc34_0⟩ ih34
  refine x_iload C dX8_culprit_34 5 rfl ?_
  refine x_bipush C (16 : Int32) (by decide) dX8_culprit_36 ?_
  refine x_icmp_ge C 119 dX8_culprit_38 rfl (fun h1 => ?_) (fun h1 => ?_)
  · refine x_iload_n C dX8_culprit_119 rfl 3 rfl ?_
    exact x_iret C hr hlk dX8_culprit_120 ⟨by rw [show k = 16 from Nat.le_antisymm hc34_0 (Nat.le_of_not_lt (fun hq => nI_ge hq (by decide) h1))]; rfl, rfl⟩
  · have hkn : k < 16 := Nat.lt_of_not_le (fun hq => h1 (nI_le hq (by omega)))
    refine x_iconst C (0 : Int32) (by decide) dX8_culprit_41 ?_
    refine x_istore C [(6, .int (0 : Int32)), (0, ra V 0), (1, .int (allI σ)), (2, .int (rgt σ)), (3, .int ((culO (allI σ) (rgt σ) k).1)), (4, .int ((culO (allI σ) (rgt σ) k).2)), (5, .int (nI k))] dX8_culprit_42 (by decide) rfl ?_
    refine x_lv [1, 2, 3, 4, 5, 6, 0] [(0, ra V 0), (1, .int (allI σ)), (2, .int (rgt σ)), (3, .int ((culO (allI σ) (rgt σ) k).1)), (4, .int ((culO (allI σ) (rgt σ) k).2)), (5, .int (nI k)), (6, .int (0 : Int32))] rfl ?_
    refine x_loop (fun μ σ_ lv_ => ∃ (j : Nat), μ = 16 - j ∧ insA σ = σ_ ∧ lv_ = [(0, ra V 0), (1, .int (allI σ)), (2, .int (rgt σ)), (3, .int ((culI (allI σ) (rgt σ) (nI k) j (culO (allI σ) (rgt σ) k)).1)), (4, .int ((culI (allI σ) (rgt σ) (nI k) j (culO (allI σ) (rgt σ) k)).2)), (5, .int (nI k)), (6, .int (nI j))] ∧ j ≤ 16) ⟨_, ⟨0, rfl, rfl, rfl, Nat.zero_le _⟩⟩ ?_
    rintro μ44 _ _ ⟨j, hμ44, rfl, rfl, hc44_0⟩ ih44
    refine x_iload C dX8_culprit_44 6 rfl ?_
    refine x_bipush C (16 : Int32) (by decide) dX8_culprit_46 ?_
    refine x_icmp_ge C 113 dX8_culprit_48 rfl (fun h2 => ?_) (fun h2 => ?_)
    · have hj16 : j = 16 := Nat.le_antisymm hc44_0 (Nat.le_of_not_lt (fun hq => nI_ge hq (by decide) h2))
      refine x_iinc C (q := 5) ((nI k) + (1 : Int32)) [(5, .int ((nI k) + (1 : Int32))), (0, ra V 0), (1, .int (allI σ)), (2, .int (rgt σ)), (3, .int ((culI (allI σ) (rgt σ) (nI k) j (culO (allI σ) (rgt σ) k)).1)), (4, .int ((culI (allI σ) (rgt σ) (nI k) j (culO (allI σ) (rgt σ) k)).2)), (6, .int (nI j))] dX8_culprit_113 rfl rfl (by decide) rfl ?_
      refine x_goto C 34 dX8_culprit_116 rfl ?_
      refine x_lv [1, 2, 3, 4, 5, 0] [(0, ra V 0), (1, .int (allI σ)), (2, .int (rgt σ)), (3, .int ((culI (allI σ) (rgt σ) (nI k) j (culO (allI σ) (rgt σ) k)).1)), (4, .int ((culI (allI σ) (rgt σ) (nI k) j (culO (allI σ) (rgt σ) k)).2)), (5, .int ((nI k) + (1 : Int32)))] rfl ?_
      exact ih34 _ _ _ (by omega) ⟨k + 1, rfl, rfl, by rw [nI_succ, hj16]; rfl, hkn⟩
    · have hjn : j < 16 := Nat.lt_of_not_le (fun hq => h2 (nI_le hq (by omega)))
      refine x_iload C dX8_culprit_51 5 rfl ?_
      refine x_iload C dX8_culprit_53 6 rfl ?_
      refine x_callS C [.int (nI k), .int (nI j)] (c_X8_configurationsWith l V hV (insA σ) (nI k) (nI j)) (va_cwS 2 C.2.2.2.2.1 gX8_culprit_X8_configurationsWith rfl rfl rfl (by decide +kernel) ⟨Nat.le_of_ble_eq_true rfl, Nat.le_of_ble_eq_true rfl⟩) rfl rfl (Nat.le_of_ble_eq_true rfl) dX8_culprit_55 ⟨Nat.le_of_ble_eq_true rfl, Nat.le_of_ble_eq_true rfl⟩ (x_kI ?_)
      refine x_iload_n C dX8_culprit_58 rfl 1 rfl ?_
      refine x_iand C dX8_culprit_59 ?_
      refine x_istore C [(7, .int ((cfgI (nI k) (nI j)) &&& (allI σ))), (0, ra V 0), (1, .int (allI σ)), (2, .int (rgt σ)), (3, .int ((culI (allI σ) (rgt σ) (nI k) j (culO (allI σ) (rgt σ) k)).1)), (4, .int ((culI (allI σ) (rgt σ) (nI k) j (culO (allI σ) (rgt σ) k)).2)), (5, .int (nI k)), (6, .int (nI j))] dX8_culprit_60 (by decide) rfl ?_
      refine x_iload C dX8_culprit_62 6 rfl ?_
      refine x_callS C [.int (nI k)] (c_J6_bitCount_0f7a4 l V hV (insA σ) (nI k)) (va_cwS 1 C.2.2.2.2.1 gX8_culprit_J6_bitCount_0f7a4 rfl rfl rfl (by decide +kernel) ⟨Nat.le_of_ble_eq_true rfl, Nat.le_of_ble_eq_true rfl⟩) rfl rfl (Nat.le_of_ble_eq_true rfl) dX8_culprit_64 ⟨Nat.le_of_ble_eq_true rfl, Nat.le_of_ble_eq_true rfl⟩ (x_kI ?_)
      refine x_iload C dX8_culprit_67 7 rfl ?_
      refine x_callS C [.int (nI j)] (c_J6_bitCount_0f7a4 l V hV (insA σ) (nI j)) (va_cwS 1 C.2.2.2.2.1 gX8_culprit_J6_bitCount_0f7a4 rfl rfl rfl (by decide +kernel) ⟨Nat.le_of_ble_eq_true rfl, Nat.le_of_ble_eq_true rfl⟩) rfl rfl (Nat.le_of_ble_eq_true rfl) dX8_culprit_69 ⟨Nat.le_of_ble_eq_true rfl, Nat.le_of_ble_eq_true rfl⟩ (x_kI ?_)
      refine x_iadd C dX8_culprit_72 ?_
      refine x_istore C [(8, .int ((popc (nI k)) + (popc (nI j)))), (7, .int ((cfgI (nI k) (nI j)) &&& (allI σ))), (0, ra V 0), (1, .int (allI σ)), (2, .int (rgt σ)), (3, .int ((culI (allI σ) (rgt σ) (nI k) j (culO (allI σ) (rgt σ) k)).1)), (4, .int ((culI (allI σ) (rgt σ) (nI k) j (culO (allI σ) (rgt σ) k)).2)), (5, .int (nI k)), (6, .int (nI j))] dX8_culprit_73 (by decide) rfl ?_
      refine x_iload C dX8_culprit_75 1 rfl ?_
      refine x_if_eq C 107 dX8_culprit_77 rfl (fun h3 => ?_) (fun h3 => ?_)
      · refine x_iinc C (q := 8) ((nI j) + (1 : Int32)) [(6, .int ((nI j) + (1 : Int32))), (8, .int ((popc (nI k)) + (popc (nI j)))), (7, .int ((cfgI (nI k) (nI j)) &&& (allI σ))), (0, ra V 0), (1, .int (allI σ)), (2, .int (rgt σ)), (3, .int ((culI (allI σ) (rgt σ) (nI k) j (culO (allI σ) (rgt σ) k)).1)), (4, .int ((culI (allI σ) (rgt σ) (nI k) j (culO (allI σ) (rgt σ) k)).2)), (5, .int (nI k))] dX8_culprit_107 rfl rfl (by decide) rfl ?_
        refine x_goto C 44 dX8_culprit_110 rfl ?_
        refine x_lv [3, 4, 5, 6, 7, 8, 0] [(0, ra V 0), (1, .int (allI σ)), (2, .int (rgt σ)), (3, .int ((culI (allI σ) (rgt σ) (nI k) j (culO (allI σ) (rgt σ) k)).1)), (4, .int ((culI (allI σ) (rgt σ) (nI k) j (culO (allI σ) (rgt σ) k)).2)), (5, .int (nI k)), (6, .int ((nI j) + (1 : Int32)))] rfl ?_
        exact ih44 _ _ _ (by omega) ⟨j + 1, rfl, rfl, by rw [nI_succ]; simp [culI, culS, eq_true h3], hjn⟩
      · refine x_iload C dX8_culprit_80 1 rfl ?_
        refine x_iload_n C dX8_culprit_82 rfl 4 rfl ?_
        refine x_iand C dX8_culprit_83 ?_
        refine x_if_ne C 107 dX8_culprit_84 rfl (fun h4 => ?_) (fun h4 => ?_)
        · refine x_iinc C (q := 8) ((nI j) + (1 : Int32)) [(6, .int ((nI j) + (1 : Int32))), (8, .int ((popc (nI k)) + (popc (nI j)))), (7, .int ((cfgI (nI k) (nI j)) &&& (allI σ))), (0, ra V 0), (1, .int (allI σ)), (2, .int (rgt σ)), (3, .int ((culI (allI σ) (rgt σ) (nI k) j (culO (allI σ) (rgt σ) k)).1)), (4, .int ((culI (allI σ) (rgt σ) (nI k) j (culO (allI σ) (rgt σ) k)).2)), (5, .int (nI k))] dX8_culprit_107 rfl rfl (by decide) rfl ?_
          refine x_goto C 44 dX8_culprit_110 rfl ?_
          refine x_lv [3, 4, 5, 6, 7, 8, 0] [(0, ra V 0), (1, .int (allI σ)), (2, .int (rgt σ)), (3, .int ((culI (allI σ) (rgt σ) (nI k) j (culO (allI σ) (rgt σ) k)).1)), (4, .int ((culI (allI σ) (rgt σ) (nI k) j (culO (allI σ) (rgt σ) k)).2)), (5, .int (nI k)), (6, .int ((nI j) + (1 : Int32)))] rfl ?_
          exact ih44 _ _ _ (by omega) ⟨j + 1, rfl, rfl, by rw [nI_succ]; simp [culI, culS, h3, h4], hjn⟩
        · refine x_iload C dX8_culprit_87 0 rfl ?_
          refine x_iload C dX8_culprit_89 6 rfl ?_
          refine x_icmp_ge C 107 dX8_culprit_91 rfl (fun h5 => ?_) (fun h5 => ?_)
          · refine x_iinc C (q := 8) ((nI j) + (1 : Int32)) [(6, .int ((nI j) + (1 : Int32))), (8, .int ((popc (nI k)) + (popc (nI j)))), (7, .int ((cfgI (nI k) (nI j)) &&& (allI σ))), (0, ra V 0), (1, .int (allI σ)), (2, .int (rgt σ)), (3, .int ((culI (allI σ) (rgt σ) (nI k) j (culO (allI σ) (rgt σ) k)).1)), (4, .int ((culI (allI σ) (rgt σ) (nI k) j (culO (allI σ) (rgt σ) k)).2)), (5, .int (nI k))] dX8_culprit_107 rfl rfl (by decide) rfl ?_
            refine x_goto C 44 dX8_culprit_110 rfl ?_
            refine x_lv [3, 4, 5, 6, 7, 8, 0] [(0, ra V 0), (1, .int (allI σ)), (2, .int (rgt σ)), (3, .int ((culI (allI σ) (rgt σ) (nI k) j (culO (allI σ) (rgt σ) k)).1)), (4, .int ((culI (allI σ) (rgt σ) (nI k) j (culO (allI σ) (rgt σ) k)).2)), (5, .int (nI k)), (6, .int ((nI j) + (1 : Int32)))] rfl ?_
            exact ih44 _ _ _ (by omega) ⟨j + 1, rfl, rfl, by rw [nI_succ]; simp [culI, culS, h3, eq_true h4, h5], hjn⟩
          · refine x_bipush C (16 : Int32) (by decide) dX8_culprit_94 ?_
            refine x_iload C dX8_culprit_96 7 rfl ?_
            refine x_imul C dX8_culprit_98 ?_
            refine x_iload C dX8_culprit_99 8 rfl ?_
            refine x_iadd C dX8_culprit_101 ?_
            refine x_istore_n C [(3, .int (((16 : Int32) * (nI k)) + (nI j))), (8, .int ((popc (nI k)) + (popc (nI j)))), (7, .int ((cfgI (nI k) (nI j)) &&& (allI σ))), (0, ra V 0), (1, .int (allI σ)), (2, .int (rgt σ)), (4, .int ((culI (allI σ) (rgt σ) (nI k) j (culO (allI σ) (rgt σ) k)).2)), (5, .int (nI k)), (6, .int (nI j))] dX8_culprit_102 rfl (by decide) rfl ?_
            refine x_iload C dX8_culprit_103 1 rfl ?_
            refine x_istore C [(4, .int ((popc (nI k)) + (popc (nI j)))), (3, .int (((16 : Int32) * (nI k)) + (nI j))), (8, .int ((popc (nI k)) + (popc (nI j)))), (7, .int ((cfgI (nI k) (nI j)) &&& (allI σ))), (0, ra V 0), (1, .int (allI σ)), (2, .int (rgt σ)), (5, .int (nI k)), (6, .int (nI j))] dX8_culprit_105 (by decide) rfl ?_
            refine x_iinc C (q := 8) ((nI j) + (1 : Int32)) [(6, .int ((nI j) + (1 : Int32))), (4, .int ((popc (nI k)) + (popc (nI j)))), (3, .int (((16 : Int32) * (nI k)) + (nI j))), (8, .int ((popc (nI k)) + (popc (nI j)))), (7, .int ((cfgI (nI k) (nI j)) &&& (allI σ))), (0, ra V 0), (1, .int (allI σ)), (2, .int (rgt σ)), (5, .int (nI k))] dX8_culprit_107 rfl rfl (by decide) rfl ?_
            refine x_goto C 44 dX8_culprit_110 rfl ?_
            refine x_lv [5, 6, 7, 2, 1, 8, 0] [(0, ra V 0), (1, .int (allI σ)), (2, .int (rgt σ)), (3, .int (((16 : Int32) * (nI k)) + (nI j))), (4, .int ((popc (nI k)) + (popc (nI j)))), (5, .int (nI k)), (6, .int ((nI j) + (1 : Int32)))] rfl ?_
            exact ih44 _ _ _ (by omega) ⟨j + 1, rfl, rfl, by rw [nI_succ]; simp [culI, culS, h3, eq_true h4, h5], hjn⟩





/-! Rules' loops, Expressions, Members, Program. -/
theorem clamp_lt (x : Int32) : x.toNatClampNeg < 2 ^ 31 := by
  have h1 := x.toInt_lt
  have h2 : x.toNatClampNeg = x.toInt.toNat := rfl
  omega
theorem le_nI {x : Int32} {k : Nat} (hk : k < 2 ^ 31) : x ≤ nI k ↔ x.toNatClampNeg ≤ k := by
  rw [Int32.le_iff_toInt_le, nI_toInt hk]
  have h2 : x.toNatClampNeg = x.toInt.toNat := rfl
  omega
theorem bI_eq1 {b : Bool} : bI b = 1 ↔ b = true := by cases b <;> decide
theorem bI_eq0 {b : Bool} : bI b = 0 ↔ b = false := by cases b <;> decide
theorem rKeptN_bad {σ : xS} {c : Int32} {k : Nat} (hb : rBad σ c k = true) : ∀ n, k < n → rKeptN σ c n = false := by
  intro n
  induction n with
  | zero => intro h; omega
  | succ n ih =>
    intro h
    rw [rKeptN]
    by_cases e : k = n
    · subst e; rw [hb]; simp
    · rw [ih (by omega)]; rfl
section XA
variable {p : Program} {l : Launch} {e : Env} {R : Room} {s : State} {m : MethodId} {args : Array Value} {below : List Frame} {meth : Method} {c : Code} {V : xV} {E : va_W} {A : Nat → Prop} {nL cells slots : Nat} {Q : State → Prop} {cc : ByteArray} {own : String} {Ts : List Cond} {σ : xS} {pc : Nat} {lv : List (Nat × Value)} {st : List Value} {Rr : Option Value → xS → Prop}
abbrev rR (V : xV) (r : Nat) (σ' : xS) : Option Value → xS → Prop := fun v u => v = some (ra V r) ∧ u = σ'
theorem x_kR {r : Nat} {σ2 : xS} (k : X p l e R s m args below meth c V E A nL cells slots Q σ2 (pc + 3) lv (ra V r :: st)) : ∀ v σ', rR V r σ2 v σ' → X p l e R s m args below meth c V E A nL cells slots Q σ' (pc + 3) lv (v.toList ++ st) := by
  rintro v σ' ⟨rfl, rfl⟩; exact k
theorem x_aret (C : XC p s m args c cc nL own Ts V [] (inR V)) {r : Nat} {Cn : String} (hr : meth.sig.returnType = some (.object Cn)) (hlk : meth.locks = false) (d : decode cc pc = .ok (.areturn, 1)) (h : Rr (some (ra V r)) σ) : X p l e R s m args below meth c V [] (inR V) nL 0 0 (MQ below (xOut V Rr) args s 0 0 (inR V)) σ pc lv [ra V r] := fun H locs ls h1 h2 h3 =>
  W.aret C.1 C.2.1 hr (Or.inl ⟨_, rfl⟩) (Or.inr ⟨_, rfl⟩) (fun t ht hW => ⟨⟨_, σ, rfl, h, by rw [ht]; exact h1⟩, h2.F ht⟩) h2.2.2 d hlk
end XA

set_option maxHeartbeats 4000000 in
set_option maxRecDepth 100000 in
theorem c_X6_areKept (l : Launch) (V : xV) (hV : xInj V) (σ : xS) (c1 : Int32) : xM l yX6_areKept wsX6_areKept ({ frames := 1, cells := 0, slots := 0, locals := 21 }) V [ra V 1, .int c1] σ (rI (bI (rKept σ c1)) σ) := by
  refine xM_of (cc := cX6_areKept) (maxL := 5) (ret := (some .boolean)) [(0, ra V 1), (1, .int c1)] hV (by decide) rfl rfl (Nat.le_of_ble_eq_true rfl) (fun p e s m args below meth c C hr hlk => ?_)
  have iX6 : ∀ w ∈ u_ws RX6 TX6 4, w ∈ wsX6_areKept := by decide +kernel
  have f26 : (Cond.fieldLink RX6 26 RX6 (TX6 3).2.1 (TX6 3).2.2.1).before args s = true := C.2.2.2.2.1 _ (by decide +kernel)
  have f20 : (Cond.fieldLink RX6 20 RX6 (TX6 1).2.1 (TX6 1).2.2.1).before args s = true := C.2.2.2.2.1 _ (by decide +kernel)
  have f23 : (Cond.fieldLink RX6 23 RX6 (TX6 2).2.1 (TX6 2).2.2.1).before args s = true := C.2.2.2.2.1 _ (by decide +kernel)
  have f14 : (Cond.fieldLink RX6 14 RX6 (TX6 0).2.1 (TX6 0).2.2.1).before args s = true := C.2.2.2.2.1 _ (by decide +kernel)
  refine x_iconst C (0 : Int32) (by decide) dX6_areKept_0 ?_
  refine x_istore_n C [(2, .int (0 : Int32)), (0, ra V 1), (1, .int c1)] dX6_areKept_1 rfl (by decide) rfl ?_
  refine x_lv [1, 2, 0] [(0, ra V 1), (1, .int c1), (2, .int (0 : Int32))] rfl ?_
  refine x_loop (fun μ σ_ lv_ => ∃ (k : Nat), μ = (σ 200 0).toNatClampNeg - k ∧ σ = σ_ ∧ lv_ = [(0, ra V 1), (1, .int c1), (2, .int (nI k))] ∧ k ≤ (σ 200 0).toNatClampNeg ∧ rKeptN σ c1 k = true) ⟨_, ⟨0, rfl, rfl, rfl, Nat.zero_le _, rfl⟩⟩ ?_
  rintro μ2 _ _ ⟨k, hμ2, rfl, rfl, hc2_0, hc2_1⟩ ih2
  refine x_iload_n C dX6_areKept_2 rfl 2 rfl ?_
  refine x_aload_n C dX6_areKept_3 rfl 0 rfl ?_
  refine x_geti C sh_1 rfl iX6 3 (by decide) f26 (fun _ h => h) (by decide) rfl dX6_areKept_4 ?_
  refine x_icmp_ge C 71 dX6_areKept_7 rfl (fun h1 => ?_) (fun h1 => ?_)
  · refine x_iconst C (1 : Int32) (by decide) dX6_areKept_71 ?_
    exact x_zret C true rfl hr hlk dX6_areKept_72 ⟨by rw [rKept, show (σ 200 0).toNatClampNeg = k from Nat.le_antisymm ((le_nI (by have := clamp_lt (σ 200 0); omega)).mp h1) hc2_0, hc2_1], rfl⟩
  · have hkn : k < (σ 200 0).toNatClampNeg := Nat.lt_of_not_le (fun hq => h1 ((le_nI (by have := clamp_lt (σ 200 0); omega)).mpr hq))
    refine x_iload_n C dX6_areKept_10 rfl 1 rfl ?_
    refine x_aload_n C dX6_areKept_11 rfl 0 rfl ?_
    refine x_getr C sh_1 rfl iX6 1 (by decide) f20 (fun _ h => h) (by decide) rfl dX6_areKept_12 ?_
    refine x_iload_n C dX6_areKept_15 rfl 2 rfl ?_
    refine x_callV C sh_4 (by decide) rfl [.int (nI k)] (c_X5_at l V hV σ 4 5 8 sh_4 sh_5 (by decide) (nI k)) (cwV 1 C.2.2.2.2.1 gX6_areKept_X5_at rfl rfl rfl (by decide +kernel) ⟨Nat.le_of_ble_eq_true rfl, Nat.le_of_ble_eq_true rfl⟩) rfl rfl (Nat.le_of_ble_eq_true rfl) dX6_areKept_16 ⟨Nat.le_of_ble_eq_true rfl, Nat.le_of_ble_eq_true rfl⟩ (x_kI ?_)
    refine x_callSN (host := RX8) C [.int c1, .int (vAt 8 (σ 5) (nI k))] (c_X8_isIn l V hV σ c1 (vAt 8 (σ 5) (nI k))) (⟨va_cnB 2 C.2.2.2.2.1 gX6_areKept_X8_isIn_n42 rfl rfl rfl (C.2.2.2.2.2.1.2 _ (by decide +kernel)) (C.2.2.2.2.1 _ (by decide +kernel)) (by decide +kernel) ⟨Nat.le_of_ble_eq_true rfl, Nat.le_of_ble_eq_true rfl⟩, C.2.2.2.2.1 _ (by decide +kernel), trivial⟩) rfl rfl (Nat.le_of_ble_eq_true rfl) dX6_areKept_19 ⟨Nat.le_of_ble_eq_true rfl, Nat.le_of_ble_eq_true rfl⟩ (x_kI ?_)
    refine x_istore_n C [(3, .int (bI (isInB c1 (vAt 8 (σ 5) (nI k))))), (0, ra V 1), (1, .int c1), (2, .int (nI k))] dX6_areKept_22 rfl (by decide) rfl ?_
    refine x_iload_n C dX6_areKept_23 rfl 2 rfl ?_
    refine x_aload_n C dX6_areKept_24 rfl 1 rfl ?_
    refine x_getr C sh_1 rfl iX6 2 (by decide) f23 (fun _ h => h) (by decide) rfl dX6_areKept_25 ?_
    refine x_iload_n C dX6_areKept_28 rfl 3 rfl ?_
    refine x_callV C sh_6 (by decide) rfl [.int (nI k)] (c_X5_at l V hV σ 6 7 8 sh_6 sh_7 (by decide) (nI k)) (cwV 1 C.2.2.2.2.1 gX6_areKept_X5_at rfl rfl rfl (by decide +kernel) ⟨Nat.le_of_ble_eq_true rfl, Nat.le_of_ble_eq_true rfl⟩) rfl rfl (Nat.le_of_ble_eq_true rfl) dX6_areKept_29 ⟨Nat.le_of_ble_eq_true rfl, Nat.le_of_ble_eq_true rfl⟩ (x_kI ?_)
    refine x_callSN (host := RX8) C [.int c1, .int (vAt 8 (σ 7) (nI k))] (c_X8_isIn l V hV σ c1 (vAt 8 (σ 7) (nI k))) (⟨va_cnB 2 C.2.2.2.2.1 gX6_areKept_X8_isIn_n42 rfl rfl rfl (C.2.2.2.2.2.1.2 _ (by decide +kernel)) (C.2.2.2.2.1 _ (by decide +kernel)) (by decide +kernel) ⟨Nat.le_of_ble_eq_true rfl, Nat.le_of_ble_eq_true rfl⟩, C.2.2.2.2.1 _ (by decide +kernel), trivial⟩) rfl rfl (Nat.le_of_ble_eq_true rfl) dX6_areKept_32 ⟨Nat.le_of_ble_eq_true rfl, Nat.le_of_ble_eq_true rfl⟩ (x_kI ?_)
    refine x_istore C [(4, .int (bI (isInB c1 (vAt 8 (σ 7) (nI k))))), (3, .int (bI (isInB c1 (vAt 8 (σ 5) (nI k))))), (0, ra V 1), (1, .int c1), (2, .int (nI k))] dX6_areKept_35 (by decide) rfl ?_
    refine x_iload_n C dX6_areKept_37 rfl 1 rfl ?_
    refine x_bif_eq C 65 dX6_areKept_38 rfl (fun h2 => ?_) (fun h2 => ?_)
    · refine x_iinc C (q := 4) ((nI k) + (1 : Int32)) [(2, .int ((nI k) + (1 : Int32))), (4, .int (bI (isInB c1 (vAt 8 (σ 7) (nI k))))), (3, .int (bI (isInB c1 (vAt 8 (σ 5) (nI k))))), (0, ra V 1), (1, .int c1)] dX6_areKept_65 rfl rfl (by decide) rfl ?_
      refine x_goto C 2 dX6_areKept_68 rfl ?_
      refine x_lv [3, 4, 0] [(0, ra V 1), (1, .int c1), (2, .int ((nI k) + (1 : Int32)))] rfl ?_
      exact ih2 _ _ _ (by omega) ⟨k + 1, rfl, rfl, by rw [nI_succ], hkn, (by simp [rKeptN, rBad, bI_eq1, bI_eq0, hc2_1, h1, h2])⟩
    · refine x_iload C dX6_areKept_41 0 rfl ?_
      refine x_aload_n C dX6_areKept_43 rfl 2 rfl ?_
      refine x_getr C sh_1 rfl iX6 0 (by decide) f14 (fun _ h => h) (by decide) rfl dX6_areKept_44 ?_
      refine x_iload_n C dX6_areKept_47 rfl 4 rfl ?_
      refine x_callV C sh_2 (by decide) rfl [.int (nI k)] (c_X5_at l V hV σ 2 3 8 sh_2 sh_3 (by decide) (nI k)) (cwV 1 C.2.2.2.2.1 gX6_areKept_X5_at rfl rfl rfl (by decide +kernel) ⟨Nat.le_of_ble_eq_true rfl, Nat.le_of_ble_eq_true rfl⟩) rfl rfl (Nat.le_of_ble_eq_true rfl) dX6_areKept_48 ⟨Nat.le_of_ble_eq_true rfl, Nat.le_of_ble_eq_true rfl⟩ (x_kI ?_)
      refine x_iconst C (1 : Int32) (by decide) dX6_areKept_51 ?_
      refine x_icmp_ne C 59 dX6_areKept_52 rfl (fun h3 => ?_) (fun h3 => ?_)
      · refine x_iconst C (0 : Int32) (by decide) dX6_areKept_59 ?_
        refine x_bcmp_ne0 C 65 dX6_areKept_60 rfl (fun h4 => ?_) (fun h4 => ?_)
        · refine x_iinc C (q := 4) ((nI k) + (1 : Int32)) [(2, .int ((nI k) + (1 : Int32))), (4, .int (bI (isInB c1 (vAt 8 (σ 7) (nI k))))), (3, .int (bI (isInB c1 (vAt 8 (σ 5) (nI k))))), (0, ra V 1), (1, .int c1)] dX6_areKept_65 rfl rfl (by decide) rfl ?_
          refine x_goto C 2 dX6_areKept_68 rfl ?_
          refine x_lv [3, 4, 0] [(0, ra V 1), (1, .int c1), (2, .int ((nI k) + (1 : Int32)))] rfl ?_
          exact ih2 _ _ _ (by omega) ⟨k + 1, rfl, rfl, by rw [nI_succ], hkn, (by simp [rKeptN, rBad, bI_eq1, bI_eq0, hc2_1, h1, h2, h3, h4])⟩
        · refine x_iconst C (0 : Int32) (by decide) dX6_areKept_63 ?_
          exact x_zret C false rfl hr hlk dX6_areKept_64 ⟨by rw [rKept, rKeptN_bad (k := k) (by simp [rBad, bI_eq1, bI_eq0, h1, h2, h3, h4]) _ hkn], rfl⟩
      · refine x_iconst C (1 : Int32) (by decide) dX6_areKept_55 ?_
        refine x_goto C 60 dX6_areKept_56 rfl ?_
        refine x_bcmp_ne1 C 65 dX6_areKept_60 rfl (fun h5 => ?_) (fun h5 => ?_)
        · refine x_iinc C (q := 4) ((nI k) + (1 : Int32)) [(2, .int ((nI k) + (1 : Int32))), (4, .int (bI (isInB c1 (vAt 8 (σ 7) (nI k))))), (3, .int (bI (isInB c1 (vAt 8 (σ 5) (nI k))))), (0, ra V 1), (1, .int c1)] dX6_areKept_65 rfl rfl (by decide) rfl ?_
          refine x_goto C 2 dX6_areKept_68 rfl ?_
          refine x_lv [3, 4, 0] [(0, ra V 1), (1, .int c1), (2, .int ((nI k) + (1 : Int32)))] rfl ?_
          exact ih2 _ _ _ (by omega) ⟨k + 1, rfl, rfl, by rw [nI_succ], hkn, (by simp [rKeptN, rBad, bI_eq1, bI_eq0, hc2_1, h1, h2, eq_true h3, h5])⟩
        · refine x_iconst C (0 : Int32) (by decide) dX6_areKept_63 ?_
          exact x_zret C false rfl hr hlk dX6_areKept_64 ⟨by rw [rKept, rKeptN_bad (k := k) (by simp [rBad, bI_eq1, bI_eq0, h1, h2, eq_true h3, h5]) _ hkn], rfl⟩

set_option maxHeartbeats 4000000 in
set_option maxRecDepth 100000 in
theorem c_X6_allowed (l : Launch) (V : xV) (hV : xInj V) (σ : xS)  : xM l yX6_allowed wsX6_allowed ({ frames := 2, cells := 0, slots := 0, locals := 45 }) V [ra V 1] σ (rI (allI σ) σ) := by
  refine xM_of (cc := cX6_allowed) (maxL := 3) (ret := (some .int)) [(0, ra V 1)] hV (by decide) rfl rfl (Nat.le_of_ble_eq_true rfl) (fun p e s m args below meth c C hr hlk => ?_)
  refine x_iconst C (0 : Int32) (by decide) dX6_allowed_0 ?_
  refine x_istore_n C [(1, .int (0 : Int32)), (0, ra V 1)] dX6_allowed_1 rfl (by decide) rfl ?_
  refine x_iconst C (0 : Int32) (by decide) dX6_allowed_2 ?_
  refine x_istore_n C [(2, .int (0 : Int32)), (1, .int (0 : Int32)), (0, ra V 1)] dX6_allowed_3 rfl (by decide) rfl ?_
  refine x_lv [2, 1, 0] [(0, ra V 1), (1, .int (0 : Int32)), (2, .int (0 : Int32))] rfl ?_
  refine x_loop (fun μ σ_ lv_ => ∃ (k : Nat), μ = 16 - k ∧ σ = σ_ ∧ lv_ = [(0, ra V 1), (1, .int (maskI (fun c => rKept σ (nI c)) k)), (2, .int (nI k))] ∧ k ≤ 16) ⟨_, ⟨0, rfl, rfl, rfl, Nat.zero_le _⟩⟩ ?_
  rintro μ4 _ _ ⟨k, hμ4, rfl, rfl, hc4_0⟩ ih4
  refine x_iload_n C dX6_allowed_4 rfl 2 rfl ?_
  refine x_bipush C (16 : Int32) (by decide) dX6_allowed_5 ?_
  refine x_icmp_ge C 30 dX6_allowed_7 rfl (fun h1 => ?_) (fun h1 => ?_)
  · refine x_iload_n C dX6_allowed_30 rfl 1 rfl ?_
    exact x_iret C hr hlk dX6_allowed_31 ⟨by rw [show k = 16 from Nat.le_antisymm hc4_0 (Nat.le_of_not_lt (fun hq => nI_ge hq (by decide) h1))]; rfl, rfl⟩
  · have hkn : k < 16 := Nat.lt_of_not_le (fun hq => h1 (nI_le hq (by omega)))
    refine x_aload_n C dX6_allowed_10 rfl 0 rfl ?_
    refine x_iload_n C dX6_allowed_11 rfl 2 rfl ?_
    refine x_callV C sh_1 (by decide) rfl [.int (nI k)] (c_X6_areKept l V hV σ (nI k)) (cwV 1 C.2.2.2.2.1 gX6_allowed_X6_areKept rfl rfl rfl (by decide +kernel) ⟨Nat.le_of_ble_eq_true rfl, Nat.le_of_ble_eq_true rfl⟩) rfl rfl (Nat.le_of_ble_eq_true rfl) dX6_allowed_12 ⟨Nat.le_of_ble_eq_true rfl, Nat.le_of_ble_eq_true rfl⟩ (x_kI ?_)
    refine x_bif_eq C 24 dX6_allowed_15 rfl (fun h2 => ?_) (fun h2 => ?_)
    · refine x_iinc C (q := 2) ((nI k) + (1 : Int32)) [(2, .int ((nI k) + (1 : Int32))), (0, ra V 1), (1, .int (maskI (fun c => rKept σ (nI c)) k))] dX6_allowed_24 rfl rfl (by decide) rfl ?_
      refine x_goto C 4 dX6_allowed_27 rfl ?_
      refine x_lv [1, 2, 0] [(0, ra V 1), (1, .int (maskI (fun c => rKept σ (nI c)) k)), (2, .int ((nI k) + (1 : Int32)))] rfl ?_
      exact ih4 _ _ _ (by omega) ⟨k + 1, rfl, rfl, by rw [nI_succ]; simp [maskI, h1, h2], hkn⟩
    · refine x_iload_n C dX6_allowed_18 rfl 1 rfl ?_
      refine x_iconst C (1 : Int32) (by decide) dX6_allowed_19 ?_
      refine x_iload_n C dX6_allowed_20 rfl 2 rfl ?_
      refine x_ishl C dX6_allowed_21 ?_
      refine x_ior C dX6_allowed_22 ?_
      refine x_istore_n C [(1, .int ((maskI (fun c => rKept σ (nI c)) k) ||| ((1 : Int32) <<< ((nI k) &&& 31)))), (0, ra V 1), (2, .int (nI k))] dX6_allowed_23 rfl (by decide) rfl ?_
      refine x_iinc C (q := 2) ((nI k) + (1 : Int32)) [(2, .int ((nI k) + (1 : Int32))), (1, .int ((maskI (fun c => rKept σ (nI c)) k) ||| ((1 : Int32) <<< ((nI k) &&& 31)))), (0, ra V 1)] dX6_allowed_24 rfl rfl (by decide) rfl ?_
      refine x_goto C 4 dX6_allowed_27 rfl ?_
      refine x_lv [2, 1, 0] [(0, ra V 1), (1, .int ((maskI (fun c => rKept σ (nI c)) k) ||| ((1 : Int32) <<< ((nI k) &&& 31)))), (2, .int ((nI k) + (1 : Int32)))] rfl ?_
      exact ih4 _ _ _ (by omega) ⟨k + 1, rfl, rfl, by rw [nI_succ]; simp [maskI, h1, h2], hkn⟩

set_option maxHeartbeats 4000000 in
set_option maxRecDepth 100000 in
theorem c_X1_size (l : Launch) (V : xV) (hV : xInj V) (σ : xS)  : xM l yX1_size wsX1_size ({ frames := 0, cells := 0, slots := 0, locals := 0 }) V [ra V 47] σ (rI (σ 205 0) σ) := by
  refine xM_of (cc := cX1_size) (maxL := 1) (ret := (some .int)) [(0, ra V 47)] hV (by decide) rfl rfl (Nat.le_of_ble_eq_true rfl) (fun p e s m args below meth c C hr hlk => ?_)
  have iX1 : ∀ w ∈ u_ws RX1 TX1 7, w ∈ wsX1_size := by decide +kernel
  have f35 : (Cond.fieldLink RX1 35 RX1 (TX1 6).2.1 (TX1 6).2.2.1).before args s = true := C.2.2.2.2.1 _ (by decide +kernel)
  refine x_aload_n C dX1_size_0 rfl 0 rfl ?_
  refine x_geti C sh_47 rfl iX1 6 (by decide) f35 (fun _ h => h) (by decide) rfl dX1_size_1 ?_
  exact x_iret C hr hlk dX1_size_4 ⟨rfl, rfl⟩

set_option maxHeartbeats 4000000 in
set_option maxRecDepth 100000 in
theorem c_X1_has (l : Launch) (V : xV) (hV : xInj V) (σ : xS) (i : Int32) : xM l yX1_has wsX1_has ({ frames := 0, cells := 0, slots := 0, locals := 0 }) V [ra V 47, .int i] σ (rI (bI (cHas σ 205 i)) σ) := by
  refine xM_of (cc := cX1_has) (maxL := 2) (ret := (some .boolean)) [(0, ra V 47), (1, .int i)] hV (by decide) rfl rfl (Nat.le_of_ble_eq_true rfl) (fun p e s m args below meth c C hr hlk => ?_)
  have iX1 : ∀ w ∈ u_ws RX1 TX1 7, w ∈ wsX1_has := by decide +kernel
  have f35 : (Cond.fieldLink RX1 35 RX1 (TX1 6).2.1 (TX1 6).2.2.1).before args s = true := C.2.2.2.2.1 _ (by decide +kernel)
  refine x_iload_n C dX1_has_0 rfl 1 rfl ?_
  refine x_if_lt C 16 dX1_has_1 rfl (fun h1 => ?_) (fun h1 => ?_)
  · refine x_iconst C (0 : Int32) (by decide) dX1_has_16 ?_
    exact x_zret C false rfl hr hlk dX1_has_17 ⟨by simp [cHas, h1], rfl⟩
  · refine x_iload_n C dX1_has_4 rfl 1 rfl ?_
    refine x_aload_n C dX1_has_5 rfl 0 rfl ?_
    refine x_geti C sh_47 rfl iX1 6 (by decide) f35 (fun _ h => h) (by decide) rfl dX1_has_6 ?_
    refine x_icmp_ge C 16 dX1_has_9 rfl (fun h2 => ?_) (fun h2 => ?_)
    · refine x_iconst C (0 : Int32) (by decide) dX1_has_16 ?_
      exact x_zret C false rfl hr hlk dX1_has_17 ⟨by simp [cHas, h1, h2], rfl⟩
    · refine x_iconst C (1 : Int32) (by decide) dX1_has_12 ?_
      refine x_goto C 17 dX1_has_13 rfl ?_
      exact x_zret C true rfl hr hlk dX1_has_17 ⟨by simp [cHas, h1, h2], rfl⟩

set_option maxHeartbeats 4000000 in
set_option maxRecDepth 100000 in
theorem c_X1_hasOrNone (l : Launch) (V : xV) (hV : xInj V) (σ : xS) (i : Int32) : xM l yX1_hasOrNone wsX1_hasOrNone ({ frames := 1, cells := 0, slots := 0, locals := 21 }) V [ra V 47, .int i] σ (rI (bI (eOrN σ i)) σ) := by
  refine xM_of (cc := cX1_hasOrNone) (maxL := 2) (ret := (some .boolean)) [(0, ra V 47), (1, .int i)] hV (by decide) rfl rfl (Nat.le_of_ble_eq_true rfl) (fun p e s m args below meth c C hr hlk => ?_)
  refine x_iload_n C dX1_hasOrNone_0 rfl 1 rfl ?_
  refine x_iconst C (-1 : Int32) (by decide) dX1_hasOrNone_1 ?_
  refine x_icmp_eq C 13 dX1_hasOrNone_2 rfl (fun h1 => ?_) (fun h1 => ?_)
  · refine x_iconst C (1 : Int32) (by decide) dX1_hasOrNone_13 ?_
    refine x_goto C 18 dX1_hasOrNone_14 rfl ?_
    exact x_zret C true rfl hr hlk dX1_hasOrNone_18 ⟨by simp [eOrN, eq_true h1], rfl⟩
  · refine x_aload_n C dX1_hasOrNone_5 rfl 0 rfl ?_
    refine x_iload_n C dX1_hasOrNone_6 rfl 1 rfl ?_
    refine x_callV C sh_47 (by decide) rfl [.int i] (c_X1_has l V hV σ i) (cwV 1 C.2.2.2.2.1 gX1_hasOrNone_X1_has rfl rfl rfl (by decide +kernel) ⟨Nat.le_of_ble_eq_true rfl, Nat.le_of_ble_eq_true rfl⟩) rfl rfl (Nat.le_of_ble_eq_true rfl) dX1_hasOrNone_7 ⟨Nat.le_of_ble_eq_true rfl, Nat.le_of_ble_eq_true rfl⟩ (x_kI ?_)
    refine x_bif_eq C 17 dX1_hasOrNone_10 rfl (fun h2 => ?_) (fun h2 => ?_)
    · refine x_iconst C (0 : Int32) (by decide) dX1_hasOrNone_17 ?_
      exact x_zret C false rfl hr hlk dX1_hasOrNone_18 ⟨by simp [eOrN, h1, h2], rfl⟩
    · refine x_iconst C (1 : Int32) (by decide) dX1_hasOrNone_13 ?_
      refine x_goto C 18 dX1_hasOrNone_14 rfl ?_
      exact x_zret C true rfl hr hlk dX1_hasOrNone_18 ⟨by simp [eOrN, h1, h2], rfl⟩

set_option maxHeartbeats 4000000 in
set_option maxRecDepth 100000 in
theorem c_X1_areTogether (l : Launch) (V : xV) (hV : xInj V) (σ : xS) (x a : Int32) : xM l yX1_areTogether wsX1_areTogether ({ frames := 1, cells := 0, slots := 0, locals := 21 }) V [ra V 47, .int x, .int a] σ (rI (bI (eTog σ x a)) σ) := by
  refine xM_of (cc := cX1_areTogether) (maxL := 3) (ret := (some .boolean)) [(0, ra V 47), (1, .int x), (2, .int a)] hV (by decide) rfl rfl (Nat.le_of_ble_eq_true rfl) (fun p e s m args below meth c C hr hlk => ?_)
  have iX1 : ∀ w ∈ u_ws RX1 TX1 7, w ∈ wsX1_areTogether := by decide +kernel
  have f20 : (Cond.fieldLink RX1 20 RX1 (TX1 1).2.1 (TX1 1).2.2.1).before args s = true := C.2.2.2.2.1 _ (by decide +kernel)
  refine x_iload_n C dX1_areTogether_0 rfl 2 rfl ?_
  refine x_iconst C (-1 : Int32) (by decide) dX1_areTogether_1 ?_
  refine x_icmp_eq C 24 dX1_areTogether_2 rfl (fun h1 => ?_) (fun h1 => ?_)
  · refine x_iconst C (1 : Int32) (by decide) dX1_areTogether_24 ?_
    refine x_goto C 29 dX1_areTogether_25 rfl ?_
    exact x_zret C true rfl hr hlk dX1_areTogether_29 ⟨by simp [eTog, eq_true h1], rfl⟩
  · refine x_aload_n C dX1_areTogether_5 rfl 0 rfl ?_
    refine x_getr C sh_47 rfl iX1 1 (by decide) f20 (fun _ h => h) (by decide) rfl dX1_areTogether_6 ?_
    refine x_iload_n C dX1_areTogether_9 rfl 2 rfl ?_
    refine x_callV C sh_50 (by decide) rfl [.int a] (c_X5_at l V hV σ 50 51 50 sh_50 sh_51 (by decide) a) (cwV 1 C.2.2.2.2.1 gX1_areTogether_X5_at rfl rfl rfl (by decide +kernel) ⟨Nat.le_of_ble_eq_true rfl, Nat.le_of_ble_eq_true rfl⟩) rfl rfl (Nat.le_of_ble_eq_true rfl) dX1_areTogether_10 ⟨Nat.le_of_ble_eq_true rfl, Nat.le_of_ble_eq_true rfl⟩ (x_kI ?_)
    refine x_aload_n C dX1_areTogether_13 rfl 0 rfl ?_
    refine x_getr C sh_47 rfl iX1 1 (by decide) f20 (fun _ h => h) (by decide) rfl dX1_areTogether_14 ?_
    refine x_iload_n C dX1_areTogether_17 rfl 1 rfl ?_
    refine x_callV C sh_50 (by decide) rfl [.int x] (c_X5_at l V hV σ 50 51 50 sh_50 sh_51 (by decide) x) (cwV 1 C.2.2.2.2.1 gX1_areTogether_X5_at rfl rfl rfl (by decide +kernel) ⟨Nat.le_of_ble_eq_true rfl, Nat.le_of_ble_eq_true rfl⟩) rfl rfl (Nat.le_of_ble_eq_true rfl) dX1_areTogether_18 ⟨Nat.le_of_ble_eq_true rfl, Nat.le_of_ble_eq_true rfl⟩ (x_kI ?_)
    refine x_icmp_ne C 28 dX1_areTogether_21 rfl (fun h2 => ?_) (fun h2 => ?_)
    · refine x_iconst C (0 : Int32) (by decide) dX1_areTogether_28 ?_
      exact x_zret C false rfl hr hlk dX1_areTogether_29 ⟨by simp [eTog, h1, h2], rfl⟩
    · refine x_iconst C (1 : Int32) (by decide) dX1_areTogether_24 ?_
      refine x_goto C 29 dX1_areTogether_25 rfl ?_
      exact x_zret C true rfl hr hlk dX1_areTogether_29 ⟨by simp [eTog, h1, eq_true h2], rfl⟩

set_option maxHeartbeats 4000000 in
set_option maxRecDepth 100000 in
theorem c_X1_setParts (l : Launch) (V : xV) (hV : xInj V) (σ : xS) (i o f g : Int32) : xM l yX1_setParts wsX1_setParts ({ frames := 1, cells := 0, slots := 0, locals := 22 }) V [ra V 47, .int i, .int o, .int f, .int g] σ (rV (eSet σ i o f g)) := by
  refine xM_of (cc := cX1_setParts) (maxL := 5) (ret := none) [(0, ra V 47), (1, .int i), (2, .int o), (3, .int f), (4, .int g)] hV (by decide) rfl rfl (Nat.le_of_ble_eq_true rfl) (fun p e s m args below meth c C hr hlk => ?_)
  have iX1 : ∀ w ∈ u_ws RX1 TX1 7, w ∈ wsX1_setParts := by decide +kernel
  have f26 : (Cond.fieldLink RX1 26 RX1 (TX1 3).2.1 (TX1 3).2.2.1).before args s = true := C.2.2.2.2.1 _ (by decide +kernel)
  have f29 : (Cond.fieldLink RX1 29 RX1 (TX1 4).2.1 (TX1 4).2.2.1).before args s = true := C.2.2.2.2.1 _ (by decide +kernel)
  have f32 : (Cond.fieldLink RX1 32 RX1 (TX1 5).2.1 (TX1 5).2.2.1).before args s = true := C.2.2.2.2.1 _ (by decide +kernel)
  refine x_aload_n C dX1_setParts_0 rfl 0 rfl ?_
  refine x_getr C sh_47 rfl iX1 3 (by decide) f26 (fun _ h => h) (by decide) rfl dX1_setParts_1 ?_
  refine x_iload_n C dX1_setParts_4 rfl 1 rfl ?_
  refine x_iload_n C dX1_setParts_5 rfl 2 rfl ?_
  refine x_callV C sh_54 (by decide) rfl [.int i, .int o] (c_X5_put l V hV σ 54 55 50 sh_54 sh_55 (by decide) i o) (cwV 2 C.2.2.2.2.1 gX1_setParts_X5_put rfl rfl rfl (by decide +kernel) ⟨Nat.le_of_ble_eq_true rfl, Nat.le_of_ble_eq_true rfl⟩) rfl rfl (Nat.le_of_ble_eq_true rfl) dX1_setParts_6 ⟨Nat.le_of_ble_eq_true rfl, Nat.le_of_ble_eq_true rfl⟩ (x_kV ?_)
  refine x_aload_n C dX1_setParts_9 rfl 0 rfl ?_
  refine x_getr C sh_47 rfl iX1 4 (by decide) f29 (fun _ h => h) (by decide) rfl dX1_setParts_10 ?_
  refine x_iload_n C dX1_setParts_13 rfl 1 rfl ?_
  refine x_iload_n C dX1_setParts_14 rfl 3 rfl ?_
  refine x_callV C sh_56 (by decide) rfl [.int i, .int f] (c_X5_put l V hV (vPut σ 55 50 i o) 56 57 50 sh_56 sh_57 (by decide) i f) (cwV 2 C.2.2.2.2.1 gX1_setParts_X5_put rfl rfl rfl (by decide +kernel) ⟨Nat.le_of_ble_eq_true rfl, Nat.le_of_ble_eq_true rfl⟩) rfl rfl (Nat.le_of_ble_eq_true rfl) dX1_setParts_15 ⟨Nat.le_of_ble_eq_true rfl, Nat.le_of_ble_eq_true rfl⟩ (x_kV ?_)
  refine x_aload_n C dX1_setParts_18 rfl 0 rfl ?_
  refine x_getr C sh_47 rfl iX1 5 (by decide) f32 (fun _ h => h) (by decide) rfl dX1_setParts_19 ?_
  refine x_iload_n C dX1_setParts_22 rfl 1 rfl ?_
  refine x_iload C dX1_setParts_23 4 rfl ?_
  refine x_callV C sh_58 (by decide) rfl [.int i, .int g] (c_X5_put l V hV (vPut (vPut σ 55 50 i o) 57 50 i f) 58 59 50 sh_58 sh_59 (by decide) i g) (cwV 2 C.2.2.2.2.1 gX1_setParts_X5_put rfl rfl rfl (by decide +kernel) ⟨Nat.le_of_ble_eq_true rfl, Nat.le_of_ble_eq_true rfl⟩) rfl rfl (Nat.le_of_ble_eq_true rfl) dX1_setParts_25 ⟨Nat.le_of_ble_eq_true rfl, Nat.le_of_ble_eq_true rfl⟩ (x_kV ?_)
  exact x_vret C hr hlk dX1_setParts_28 ⟨rfl, rfl⟩

set_option maxHeartbeats 4000000 in
set_option maxRecDepth 100000 in
theorem c_X1_append (l : Launch) (V : xV) (hV : xInj V) (σ : xS) (k x d : Int32) : xM l yX1_append wsX1_append ({ frames := 2, cells := 0, slots := 0, locals := 46 }) V [ra V 47, .int k, .int x, .int d] σ (rI (σ 205 0) (eApp σ k x d)) := by
  refine xM_of (cc := cX1_append) (maxL := 5) (ret := (some .int)) [(0, ra V 47), (1, .int k), (2, .int x), (3, .int d)] hV (by decide) rfl rfl (Nat.le_of_ble_eq_true rfl) (fun p e s m args below meth c C hr hlk => ?_)
  have iX1 : ∀ w ∈ u_ws RX1 TX1 7, w ∈ wsX1_append := by decide +kernel
  have f35 : (Cond.fieldLink RX1 35 RX1 (TX1 6).2.1 (TX1 6).2.2.1).before args s = true := C.2.2.2.2.1 _ (by decide +kernel)
  have f14 : (Cond.fieldLink RX1 14 RX1 (TX1 0).2.1 (TX1 0).2.2.1).before args s = true := C.2.2.2.2.1 _ (by decide +kernel)
  have f20 : (Cond.fieldLink RX1 20 RX1 (TX1 1).2.1 (TX1 1).2.2.1).before args s = true := C.2.2.2.2.1 _ (by decide +kernel)
  have f23 : (Cond.fieldLink RX1 23 RX1 (TX1 2).2.1 (TX1 2).2.2.1).before args s = true := C.2.2.2.2.1 _ (by decide +kernel)
  refine x_aload_n C dX1_append_0 rfl 0 rfl ?_
  refine x_geti C sh_47 rfl iX1 6 (by decide) f35 (fun _ h => h) (by decide) rfl dX1_append_1 ?_
  refine x_istore C [(4, .int (σ 205 0)), (0, ra V 47), (1, .int k), (2, .int x), (3, .int d)] dX1_append_4 (by decide) rfl ?_
  refine x_aload_n C dX1_append_6 rfl 1 rfl ?_
  refine x_dup C rfl dX1_append_7 ?_
  refine x_geti C sh_47 rfl iX1 6 (by decide) f35 (fun _ h => h) (by decide) rfl dX1_append_8 ?_
  refine x_iconst C (1 : Int32) (by decide) dX1_append_11 ?_
  refine x_iadd C dX1_append_12 ?_
  refine x_puti (ty := .int) C sh_47 rfl iX1 6 (by decide) f35 (fun _ h => h) (by decide) rfl (by decide +kernel) (by decide +kernel) (by decide) rfl tyX1 tyX1_ok nmX1 (by decide +kernel) rfl rfl dX1_append_13 ?_
  refine x_aload_n C dX1_append_16 rfl 1 rfl ?_
  refine x_getr C sh_47 rfl iX1 0 (by decide) f14 (fun _ h => h) (by decide) rfl dX1_append_17 ?_
  refine x_iload C dX1_append_20 0 rfl ?_
  refine x_iload_n C dX1_append_22 rfl 2 rfl ?_
  refine x_callV C sh_48 (by decide) rfl [.int (σ 205 0), .int k] (c_X5_put l V hV (xw σ 205 0 ((σ 205 0) + (1 : Int32))) 48 49 50 sh_48 sh_49 (by decide) (σ 205 0) k) (cwV 2 C.2.2.2.2.1 gX1_append_X5_put rfl rfl rfl (by decide +kernel) ⟨Nat.le_of_ble_eq_true rfl, Nat.le_of_ble_eq_true rfl⟩) rfl rfl (Nat.le_of_ble_eq_true rfl) dX1_append_23 ⟨Nat.le_of_ble_eq_true rfl, Nat.le_of_ble_eq_true rfl⟩ (x_kV ?_)
  refine x_aload_n C dX1_append_26 rfl 1 rfl ?_
  refine x_getr C sh_47 rfl iX1 1 (by decide) f20 (fun _ h => h) (by decide) rfl dX1_append_27 ?_
  refine x_iload C dX1_append_30 0 rfl ?_
  refine x_iload_n C dX1_append_32 rfl 3 rfl ?_
  refine x_callV C sh_50 (by decide) rfl [.int (σ 205 0), .int x] (c_X5_put l V hV (vPut (xw σ 205 0 ((σ 205 0) + (1 : Int32))) 49 50 (σ 205 0) k) 50 51 50 sh_50 sh_51 (by decide) (σ 205 0) x) (cwV 2 C.2.2.2.2.1 gX1_append_X5_put rfl rfl rfl (by decide +kernel) ⟨Nat.le_of_ble_eq_true rfl, Nat.le_of_ble_eq_true rfl⟩) rfl rfl (Nat.le_of_ble_eq_true rfl) dX1_append_33 ⟨Nat.le_of_ble_eq_true rfl, Nat.le_of_ble_eq_true rfl⟩ (x_kV ?_)
  refine x_aload_n C dX1_append_36 rfl 1 rfl ?_
  refine x_getr C sh_47 rfl iX1 2 (by decide) f23 (fun _ h => h) (by decide) rfl dX1_append_37 ?_
  refine x_iload C dX1_append_40 0 rfl ?_
  refine x_iload_n C dX1_append_42 rfl 4 rfl ?_
  refine x_callV C sh_52 (by decide) rfl [.int (σ 205 0), .int d] (c_X5_put l V hV (vPut (vPut (xw σ 205 0 ((σ 205 0) + (1 : Int32))) 49 50 (σ 205 0) k) 51 50 (σ 205 0) x) 52 53 50 sh_52 sh_53 (by decide) (σ 205 0) d) (cwV 2 C.2.2.2.2.1 gX1_append_X5_put rfl rfl rfl (by decide +kernel) ⟨Nat.le_of_ble_eq_true rfl, Nat.le_of_ble_eq_true rfl⟩) rfl rfl (Nat.le_of_ble_eq_true rfl) dX1_append_43 ⟨Nat.le_of_ble_eq_true rfl, Nat.le_of_ble_eq_true rfl⟩ (x_kV ?_)
  refine x_aload_n C dX1_append_46 rfl 1 rfl ?_
  refine x_iload C dX1_append_47 0 rfl ?_
  refine x_iconst C (-1 : Int32) (by decide) dX1_append_49 ?_
  refine x_iconst C (-1 : Int32) (by decide) dX1_append_50 ?_
  refine x_iconst C (-1 : Int32) (by decide) dX1_append_51 ?_
  refine x_callV C sh_47 (by decide) rfl [.int (σ 205 0), .int (-1 : Int32), .int (-1 : Int32), .int (-1 : Int32)] (c_X1_setParts l V hV (vPut (vPut (vPut (xw σ 205 0 ((σ 205 0) + (1 : Int32))) 49 50 (σ 205 0) k) 51 50 (σ 205 0) x) 53 50 (σ 205 0) d) (σ 205 0) (-1 : Int32) (-1 : Int32) (-1 : Int32)) (cwV 4 C.2.2.2.2.1 gX1_append_X1_setParts rfl rfl rfl (by decide +kernel) ⟨Nat.le_of_ble_eq_true rfl, Nat.le_of_ble_eq_true rfl⟩) rfl rfl (Nat.le_of_ble_eq_true rfl) dX1_append_52 ⟨Nat.le_of_ble_eq_true rfl, Nat.le_of_ble_eq_true rfl⟩ (x_kV ?_)
  refine x_iload C dX1_append_55 0 rfl ?_
  exact x_iret C hr hlk dX1_append_57 ⟨rfl, rfl⟩

set_option maxHeartbeats 4000000 in
set_option maxRecDepth 100000 in
theorem c_X1_kind (l : Launch) (V : xV) (hV : xInj V) (σ : xS) (i : Int32) : xM l yX1_kind wsX1_kind ({ frames := 1, cells := 0, slots := 0, locals := 21 }) V [ra V 47, .int i] σ (rI (vAt 50 (σ 49) i) σ) := by
  refine xM_of (cc := cX1_kind) (maxL := 2) (ret := (some .int)) [(0, ra V 47), (1, .int i)] hV (by decide) rfl rfl (Nat.le_of_ble_eq_true rfl) (fun p e s m args below meth c C hr hlk => ?_)
  have iX1 : ∀ w ∈ u_ws RX1 TX1 7, w ∈ wsX1_kind := by decide +kernel
  have f14 : (Cond.fieldLink RX1 14 RX1 (TX1 0).2.1 (TX1 0).2.2.1).before args s = true := C.2.2.2.2.1 _ (by decide +kernel)
  refine x_aload_n C dX1_kind_0 rfl 0 rfl ?_
  refine x_getr C sh_47 rfl iX1 0 (by decide) f14 (fun _ h => h) (by decide) rfl dX1_kind_1 ?_
  refine x_iload_n C dX1_kind_4 rfl 1 rfl ?_
  refine x_callV C sh_48 (by decide) rfl [.int i] (c_X5_at l V hV σ 48 49 50 sh_48 sh_49 (by decide) i) (cwV 1 C.2.2.2.2.1 gX1_kind_X5_at rfl rfl rfl (by decide +kernel) ⟨Nat.le_of_ble_eq_true rfl, Nat.le_of_ble_eq_true rfl⟩) rfl rfl (Nat.le_of_ble_eq_true rfl) dX1_kind_5 ⟨Nat.le_of_ble_eq_true rfl, Nat.le_of_ble_eq_true rfl⟩ (x_kI ?_)
  exact x_iret C hr hlk dX1_kind_8 ⟨rfl, rfl⟩

set_option maxHeartbeats 4000000 in
set_option maxRecDepth 100000 in
theorem c_X1_method (l : Launch) (V : xV) (hV : xInj V) (σ : xS) (i : Int32) : xM l yX1_method wsX1_method ({ frames := 1, cells := 0, slots := 0, locals := 21 }) V [ra V 47, .int i] σ (rI (vAt 50 (σ 51) i) σ) := by
  refine xM_of (cc := cX1_method) (maxL := 2) (ret := (some .int)) [(0, ra V 47), (1, .int i)] hV (by decide) rfl rfl (Nat.le_of_ble_eq_true rfl) (fun p e s m args below meth c C hr hlk => ?_)
  have iX1 : ∀ w ∈ u_ws RX1 TX1 7, w ∈ wsX1_method := by decide +kernel
  have f20 : (Cond.fieldLink RX1 20 RX1 (TX1 1).2.1 (TX1 1).2.2.1).before args s = true := C.2.2.2.2.1 _ (by decide +kernel)
  refine x_aload_n C dX1_method_0 rfl 0 rfl ?_
  refine x_getr C sh_47 rfl iX1 1 (by decide) f20 (fun _ h => h) (by decide) rfl dX1_method_1 ?_
  refine x_iload_n C dX1_method_4 rfl 1 rfl ?_
  refine x_callV C sh_50 (by decide) rfl [.int i] (c_X5_at l V hV σ 50 51 50 sh_50 sh_51 (by decide) i) (cwV 1 C.2.2.2.2.1 gX1_method_X5_at rfl rfl rfl (by decide +kernel) ⟨Nat.le_of_ble_eq_true rfl, Nat.le_of_ble_eq_true rfl⟩) rfl rfl (Nat.le_of_ble_eq_true rfl) dX1_method_5 ⟨Nat.le_of_ble_eq_true rfl, Nat.le_of_ble_eq_true rfl⟩ (x_kI ?_)
  exact x_iret C hr hlk dX1_method_8 ⟨rfl, rfl⟩

set_option maxHeartbeats 4000000 in
set_option maxRecDepth 100000 in
theorem c_X1_detail (l : Launch) (V : xV) (hV : xInj V) (σ : xS) (i : Int32) : xM l yX1_detail wsX1_detail ({ frames := 1, cells := 0, slots := 0, locals := 21 }) V [ra V 47, .int i] σ (rI (vAt 50 (σ 53) i) σ) := by
  refine xM_of (cc := cX1_detail) (maxL := 2) (ret := (some .int)) [(0, ra V 47), (1, .int i)] hV (by decide) rfl rfl (Nat.le_of_ble_eq_true rfl) (fun p e s m args below meth c C hr hlk => ?_)
  have iX1 : ∀ w ∈ u_ws RX1 TX1 7, w ∈ wsX1_detail := by decide +kernel
  have f23 : (Cond.fieldLink RX1 23 RX1 (TX1 2).2.1 (TX1 2).2.2.1).before args s = true := C.2.2.2.2.1 _ (by decide +kernel)
  refine x_aload_n C dX1_detail_0 rfl 0 rfl ?_
  refine x_getr C sh_47 rfl iX1 2 (by decide) f23 (fun _ h => h) (by decide) rfl dX1_detail_1 ?_
  refine x_iload_n C dX1_detail_4 rfl 1 rfl ?_
  refine x_callV C sh_52 (by decide) rfl [.int i] (c_X5_at l V hV σ 52 53 50 sh_52 sh_53 (by decide) i) (cwV 1 C.2.2.2.2.1 gX1_detail_X5_at rfl rfl rfl (by decide +kernel) ⟨Nat.le_of_ble_eq_true rfl, Nat.le_of_ble_eq_true rfl⟩) rfl rfl (Nat.le_of_ble_eq_true rfl) dX1_detail_5 ⟨Nat.le_of_ble_eq_true rfl, Nat.le_of_ble_eq_true rfl⟩ (x_kI ?_)
  exact x_iret C hr hlk dX1_detail_8 ⟨rfl, rfl⟩

set_option maxHeartbeats 4000000 in
set_option maxRecDepth 100000 in
theorem c_X1_object (l : Launch) (V : xV) (hV : xInj V) (σ : xS) (i : Int32) : xM l yX1_object wsX1_object ({ frames := 1, cells := 0, slots := 0, locals := 21 }) V [ra V 47, .int i] σ (rI (vAt 50 (σ 55) i) σ) := by
  refine xM_of (cc := cX1_object) (maxL := 2) (ret := (some .int)) [(0, ra V 47), (1, .int i)] hV (by decide) rfl rfl (Nat.le_of_ble_eq_true rfl) (fun p e s m args below meth c C hr hlk => ?_)
  have iX1 : ∀ w ∈ u_ws RX1 TX1 7, w ∈ wsX1_object := by decide +kernel
  have f26 : (Cond.fieldLink RX1 26 RX1 (TX1 3).2.1 (TX1 3).2.2.1).before args s = true := C.2.2.2.2.1 _ (by decide +kernel)
  refine x_aload_n C dX1_object_0 rfl 0 rfl ?_
  refine x_getr C sh_47 rfl iX1 3 (by decide) f26 (fun _ h => h) (by decide) rfl dX1_object_1 ?_
  refine x_iload_n C dX1_object_4 rfl 1 rfl ?_
  refine x_callV C sh_54 (by decide) rfl [.int i] (c_X5_at l V hV σ 54 55 50 sh_54 sh_55 (by decide) i) (cwV 1 C.2.2.2.2.1 gX1_object_X5_at rfl rfl rfl (by decide +kernel) ⟨Nat.le_of_ble_eq_true rfl, Nat.le_of_ble_eq_true rfl⟩) rfl rfl (Nat.le_of_ble_eq_true rfl) dX1_object_5 ⟨Nat.le_of_ble_eq_true rfl, Nat.le_of_ble_eq_true rfl⟩ (x_kI ?_)
  exact x_iret C hr hlk dX1_object_8 ⟨rfl, rfl⟩

set_option maxHeartbeats 4000000 in
set_option maxRecDepth 100000 in
theorem c_X1_first (l : Launch) (V : xV) (hV : xInj V) (σ : xS) (i : Int32) : xM l yX1_first wsX1_first ({ frames := 1, cells := 0, slots := 0, locals := 21 }) V [ra V 47, .int i] σ (rI (vAt 50 (σ 57) i) σ) := by
  refine xM_of (cc := cX1_first) (maxL := 2) (ret := (some .int)) [(0, ra V 47), (1, .int i)] hV (by decide) rfl rfl (Nat.le_of_ble_eq_true rfl) (fun p e s m args below meth c C hr hlk => ?_)
  have iX1 : ∀ w ∈ u_ws RX1 TX1 7, w ∈ wsX1_first := by decide +kernel
  have f29 : (Cond.fieldLink RX1 29 RX1 (TX1 4).2.1 (TX1 4).2.2.1).before args s = true := C.2.2.2.2.1 _ (by decide +kernel)
  refine x_aload_n C dX1_first_0 rfl 0 rfl ?_
  refine x_getr C sh_47 rfl iX1 4 (by decide) f29 (fun _ h => h) (by decide) rfl dX1_first_1 ?_
  refine x_iload_n C dX1_first_4 rfl 1 rfl ?_
  refine x_callV C sh_56 (by decide) rfl [.int i] (c_X5_at l V hV σ 56 57 50 sh_56 sh_57 (by decide) i) (cwV 1 C.2.2.2.2.1 gX1_first_X5_at rfl rfl rfl (by decide +kernel) ⟨Nat.le_of_ble_eq_true rfl, Nat.le_of_ble_eq_true rfl⟩) rfl rfl (Nat.le_of_ble_eq_true rfl) dX1_first_5 ⟨Nat.le_of_ble_eq_true rfl, Nat.le_of_ble_eq_true rfl⟩ (x_kI ?_)
  exact x_iret C hr hlk dX1_first_8 ⟨rfl, rfl⟩

set_option maxHeartbeats 4000000 in
set_option maxRecDepth 100000 in
theorem c_X1_second (l : Launch) (V : xV) (hV : xInj V) (σ : xS) (i : Int32) : xM l yX1_second wsX1_second ({ frames := 1, cells := 0, slots := 0, locals := 21 }) V [ra V 47, .int i] σ (rI (vAt 50 (σ 59) i) σ) := by
  refine xM_of (cc := cX1_second) (maxL := 2) (ret := (some .int)) [(0, ra V 47), (1, .int i)] hV (by decide) rfl rfl (Nat.le_of_ble_eq_true rfl) (fun p e s m args below meth c C hr hlk => ?_)
  have iX1 : ∀ w ∈ u_ws RX1 TX1 7, w ∈ wsX1_second := by decide +kernel
  have f32 : (Cond.fieldLink RX1 32 RX1 (TX1 5).2.1 (TX1 5).2.2.1).before args s = true := C.2.2.2.2.1 _ (by decide +kernel)
  refine x_aload_n C dX1_second_0 rfl 0 rfl ?_
  refine x_getr C sh_47 rfl iX1 5 (by decide) f32 (fun _ h => h) (by decide) rfl dX1_second_1 ?_
  refine x_iload_n C dX1_second_4 rfl 1 rfl ?_
  refine x_callV C sh_58 (by decide) rfl [.int i] (c_X5_at l V hV σ 58 59 50 sh_58 sh_59 (by decide) i) (cwV 1 C.2.2.2.2.1 gX1_second_X5_at rfl rfl rfl (by decide +kernel) ⟨Nat.le_of_ble_eq_true rfl, Nat.le_of_ble_eq_true rfl⟩) rfl rfl (Nat.le_of_ble_eq_true rfl) dX1_second_5 ⟨Nat.le_of_ble_eq_true rfl, Nat.le_of_ble_eq_true rfl⟩ (x_kI ?_)
  exact x_iret C hr hlk dX1_second_8 ⟨rfl, rfl⟩

set_option maxHeartbeats 4000000 in
set_option maxRecDepth 100000 in
theorem c_X3_size (l : Launch) (V : xV) (hV : xInj V) (σ : xS)  : xM l yX3_size wsX3_size ({ frames := 1, cells := 0, slots := 0, locals := 20 }) V [ra V 27] σ (rI (σ 203 0) σ) := by
  refine xM_of (cc := cX3_size) (maxL := 1) (ret := (some .int)) [(0, ra V 27)] hV (by decide) rfl rfl (Nat.le_of_ble_eq_true rfl) (fun p e s m args below meth c C hr hlk => ?_)
  have iX3 : ∀ w ∈ u_ws RX3 TX3 7, w ∈ wsX3_size := by decide +kernel
  have f14 : (Cond.fieldLink RX3 14 RX3 (TX3 0).2.1 (TX3 0).2.2.1).before args s = true := C.2.2.2.2.1 _ (by decide +kernel)
  refine x_aload_n C dX3_size_0 rfl 0 rfl ?_
  refine x_getr C sh_27 rfl iX3 0 (by decide) f14 (fun _ h => h) (by decide) rfl dX3_size_1 ?_
  refine x_callV C sh_28 (by decide) rfl [] (c_X0_size_28 l V hV σ ) (cwV 0 C.2.2.2.2.1 gX3_size_X0_size rfl rfl rfl (by decide +kernel) ⟨Nat.le_of_ble_eq_true rfl, Nat.le_of_ble_eq_true rfl⟩) rfl rfl (Nat.le_of_ble_eq_true rfl) dX3_size_4 ⟨Nat.le_of_ble_eq_true rfl, Nat.le_of_ble_eq_true rfl⟩ (x_kI ?_)
  exact x_iret C hr hlk dX3_size_7 ⟨rfl, rfl⟩

set_option maxHeartbeats 4000000 in
set_option maxRecDepth 100000 in
theorem c_X3_hasMethod (l : Launch) (V : xV) (hV : xInj V) (σ : xS) (i : Int32) : xM l yX3_hasMethod wsX3_hasMethod ({ frames := 1, cells := 0, slots := 0, locals := 21 }) V [ra V 27, .int i] σ (rI (bI (mIsM σ i)) σ) := by
  refine xM_of (cc := cX3_hasMethod) (maxL := 2) (ret := (some .boolean)) [(0, ra V 27), (1, .int i)] hV (by decide) rfl rfl (Nat.le_of_ble_eq_true rfl) (fun p e s m args below meth c C hr hlk => ?_)
  have iX3 : ∀ w ∈ u_ws RX3 TX3 7, w ∈ wsX3_hasMethod := by decide +kernel
  have f14 : (Cond.fieldLink RX3 14 RX3 (TX3 0).2.1 (TX3 0).2.2.1).before args s = true := C.2.2.2.2.1 _ (by decide +kernel)
  have f23 : (Cond.fieldLink RX3 23 RX3 (TX3 1).2.1 (TX3 1).2.2.1).before args s = true := C.2.2.2.2.1 _ (by decide +kernel)
  refine x_aload_n C dX3_hasMethod_0 rfl 0 rfl ?_
  refine x_getr C sh_27 rfl iX3 0 (by decide) f14 (fun _ h => h) (by decide) rfl dX3_hasMethod_1 ?_
  refine x_iload_n C dX3_hasMethod_4 rfl 1 rfl ?_
  refine x_callV C sh_28 (by decide) rfl [.int i] (c_X0_has_28 l V hV σ i) (cwV 1 C.2.2.2.2.1 gX3_hasMethod_X0_has rfl rfl rfl (by decide +kernel) ⟨Nat.le_of_ble_eq_true rfl, Nat.le_of_ble_eq_true rfl⟩) rfl rfl (Nat.le_of_ble_eq_true rfl) dX3_hasMethod_5 ⟨Nat.le_of_ble_eq_true rfl, Nat.le_of_ble_eq_true rfl⟩ (x_kI ?_)
  refine x_bif_eq C 27 dX3_hasMethod_8 rfl (fun h1 => ?_) (fun h1 => ?_)
  · refine x_iconst C (0 : Int32) (by decide) dX3_hasMethod_27 ?_
    exact x_zret C false rfl hr hlk dX3_hasMethod_28 ⟨by simp [mIsM, h1], rfl⟩
  · refine x_aload_n C dX3_hasMethod_11 rfl 0 rfl ?_
    refine x_getr C sh_27 rfl iX3 1 (by decide) f23 (fun _ h => h) (by decide) rfl dX3_hasMethod_12 ?_
    refine x_iload_n C dX3_hasMethod_15 rfl 1 rfl ?_
    refine x_callV C sh_35 (by decide) rfl [.int i] (c_X5_at l V hV σ 35 36 24 sh_35 sh_36 (by decide) i) (cwV 1 C.2.2.2.2.1 gX3_hasMethod_X5_at rfl rfl rfl (by decide +kernel) ⟨Nat.le_of_ble_eq_true rfl, Nat.le_of_ble_eq_true rfl⟩) rfl rfl (Nat.le_of_ble_eq_true rfl) dX3_hasMethod_16 ⟨Nat.le_of_ble_eq_true rfl, Nat.le_of_ble_eq_true rfl⟩ (x_kI ?_)
    refine x_iconst C (1 : Int32) (by decide) dX3_hasMethod_19 ?_
    refine x_icmp_ne C 27 dX3_hasMethod_20 rfl (fun h2 => ?_) (fun h2 => ?_)
    · refine x_iconst C (0 : Int32) (by decide) dX3_hasMethod_27 ?_
      exact x_zret C false rfl hr hlk dX3_hasMethod_28 ⟨by simp [mIsM, h1, h2], rfl⟩
    · refine x_iconst C (1 : Int32) (by decide) dX3_hasMethod_23 ?_
      refine x_goto C 28 dX3_hasMethod_24 rfl ?_
      exact x_zret C true rfl hr hlk dX3_hasMethod_28 ⟨by simp [mIsM, h1, eq_true h2], rfl⟩

set_option maxHeartbeats 4000000 in
set_option maxRecDepth 100000 in
theorem c_X3_append (l : Launch) (V : xV) (hV : xInj V) (σ : xS) (t o n on off : Int32) : xM l yX3_append wsX3_append ({ frames := 3, cells := 0, slots := 0, locals := 69 }) V [ra V 27, .int t, .int o, .int n, .int on, .int off] σ (rI (σ 203 0) (mApp σ t o n on off)) := by
  refine xM_of (cc := cX3_append) (maxL := 7) (ret := (some .int)) [(0, ra V 27), (1, .int t), (2, .int o), (3, .int n), (4, .int on), (5, .int off)] hV (by decide) rfl rfl (Nat.le_of_ble_eq_true rfl) (fun p e s m args below meth c C hr hlk => ?_)
  have iX3 : ∀ w ∈ u_ws RX3 TX3 7, w ∈ wsX3_append := by decide +kernel
  have f14 : (Cond.fieldLink RX3 14 RX3 (TX3 0).2.1 (TX3 0).2.2.1).before args s = true := C.2.2.2.2.1 _ (by decide +kernel)
  have f23 : (Cond.fieldLink RX3 23 RX3 (TX3 1).2.1 (TX3 1).2.2.1).before args s = true := C.2.2.2.2.1 _ (by decide +kernel)
  have f27 : (Cond.fieldLink RX3 27 RX3 (TX3 2).2.1 (TX3 2).2.2.1).before args s = true := C.2.2.2.2.1 _ (by decide +kernel)
  have f30 : (Cond.fieldLink RX3 30 RX3 (TX3 3).2.1 (TX3 3).2.2.1).before args s = true := C.2.2.2.2.1 _ (by decide +kernel)
  refine x_aload_n C dX3_append_0 rfl 0 rfl ?_
  refine x_getr C sh_27 rfl iX3 0 (by decide) f14 (fun _ h => h) (by decide) rfl dX3_append_1 ?_
  refine x_iload C dX3_append_4 4 rfl ?_
  refine x_iload C dX3_append_6 5 rfl ?_
  refine x_callV C sh_28 (by decide) rfl [.int on, .int off] (c_X0_append_28 l V hV σ on off) (cwV 2 C.2.2.2.2.1 gX3_append_X0_append rfl rfl rfl (by decide +kernel) ⟨Nat.le_of_ble_eq_true rfl, Nat.le_of_ble_eq_true rfl⟩) rfl rfl (Nat.le_of_ble_eq_true rfl) dX3_append_8 ⟨Nat.le_of_ble_eq_true rfl, Nat.le_of_ble_eq_true rfl⟩ (x_kI ?_)
  refine x_istore C [(6, .int (σ 203 0)), (0, ra V 27), (1, .int t), (2, .int o), (3, .int n), (4, .int on), (5, .int off)] dX3_append_11 (by decide) rfl ?_
  refine x_aload_n C dX3_append_13 rfl 1 rfl ?_
  refine x_getr C sh_27 rfl iX3 1 (by decide) f23 (fun _ h => h) (by decide) rfl dX3_append_14 ?_
  refine x_iload C dX3_append_17 0 rfl ?_
  refine x_iload_n C dX3_append_19 rfl 2 rfl ?_
  refine x_callV C sh_35 (by decide) rfl [.int (σ 203 0), .int t] (c_X5_put l V hV (cApp σ 28 24 203 on off) 35 36 24 sh_35 sh_36 (by decide) (σ 203 0) t) (cwV 2 C.2.2.2.2.1 gX3_append_X5_put rfl rfl rfl (by decide +kernel) ⟨Nat.le_of_ble_eq_true rfl, Nat.le_of_ble_eq_true rfl⟩) rfl rfl (Nat.le_of_ble_eq_true rfl) dX3_append_20 ⟨Nat.le_of_ble_eq_true rfl, Nat.le_of_ble_eq_true rfl⟩ (x_kV ?_)
  refine x_aload_n C dX3_append_23 rfl 1 rfl ?_
  refine x_getr C sh_27 rfl iX3 2 (by decide) f27 (fun _ h => h) (by decide) rfl dX3_append_24 ?_
  refine x_iload C dX3_append_27 0 rfl ?_
  refine x_iload_n C dX3_append_29 rfl 3 rfl ?_
  refine x_callV C sh_37 (by decide) rfl [.int (σ 203 0), .int o] (c_X5_put l V hV (vPut (cApp σ 28 24 203 on off) 36 24 (σ 203 0) t) 37 38 24 sh_37 sh_38 (by decide) (σ 203 0) o) (cwV 2 C.2.2.2.2.1 gX3_append_X5_put rfl rfl rfl (by decide +kernel) ⟨Nat.le_of_ble_eq_true rfl, Nat.le_of_ble_eq_true rfl⟩) rfl rfl (Nat.le_of_ble_eq_true rfl) dX3_append_30 ⟨Nat.le_of_ble_eq_true rfl, Nat.le_of_ble_eq_true rfl⟩ (x_kV ?_)
  refine x_aload_n C dX3_append_33 rfl 1 rfl ?_
  refine x_getr C sh_27 rfl iX3 3 (by decide) f30 (fun _ h => h) (by decide) rfl dX3_append_34 ?_
  refine x_iload C dX3_append_37 0 rfl ?_
  refine x_iload_n C dX3_append_39 rfl 4 rfl ?_
  refine x_callV C sh_39 (by decide) rfl [.int (σ 203 0), .int n] (c_X5_put l V hV (vPut (vPut (cApp σ 28 24 203 on off) 36 24 (σ 203 0) t) 38 24 (σ 203 0) o) 39 40 24 sh_39 sh_40 (by decide) (σ 203 0) n) (cwV 2 C.2.2.2.2.1 gX3_append_X5_put rfl rfl rfl (by decide +kernel) ⟨Nat.le_of_ble_eq_true rfl, Nat.le_of_ble_eq_true rfl⟩) rfl rfl (Nat.le_of_ble_eq_true rfl) dX3_append_40 ⟨Nat.le_of_ble_eq_true rfl, Nat.le_of_ble_eq_true rfl⟩ (x_kV ?_)
  refine x_iload C dX3_append_43 0 rfl ?_
  exact x_iret C hr hlk dX3_append_45 ⟨rfl, rfl⟩

set_option maxHeartbeats 4000000 in
set_option maxRecDepth 100000 in
theorem c_X3_setTypes (l : Launch) (V : xV) (hV : xInj V) (σ : xS) (i t f g : Int32) : xM l yX3_setTypes wsX3_setTypes ({ frames := 1, cells := 0, slots := 0, locals := 22 }) V [ra V 27, .int i, .int t, .int f, .int g] σ (rV (mTyp σ i t f g)) := by
  refine xM_of (cc := cX3_setTypes) (maxL := 5) (ret := none) [(0, ra V 27), (1, .int i), (2, .int t), (3, .int f), (4, .int g)] hV (by decide) rfl rfl (Nat.le_of_ble_eq_true rfl) (fun p e s m args below meth c C hr hlk => ?_)
  have iX3 : ∀ w ∈ u_ws RX3 TX3 7, w ∈ wsX3_setTypes := by decide +kernel
  have f33 : (Cond.fieldLink RX3 33 RX3 (TX3 4).2.1 (TX3 4).2.2.1).before args s = true := C.2.2.2.2.1 _ (by decide +kernel)
  have f36 : (Cond.fieldLink RX3 36 RX3 (TX3 5).2.1 (TX3 5).2.2.1).before args s = true := C.2.2.2.2.1 _ (by decide +kernel)
  have f39 : (Cond.fieldLink RX3 39 RX3 (TX3 6).2.1 (TX3 6).2.2.1).before args s = true := C.2.2.2.2.1 _ (by decide +kernel)
  refine x_aload_n C dX3_setTypes_0 rfl 0 rfl ?_
  refine x_getr C sh_27 rfl iX3 4 (by decide) f33 (fun _ h => h) (by decide) rfl dX3_setTypes_1 ?_
  refine x_iload_n C dX3_setTypes_4 rfl 1 rfl ?_
  refine x_iload_n C dX3_setTypes_5 rfl 2 rfl ?_
  refine x_callV C sh_41 (by decide) rfl [.int i, .int t] (c_X5_put l V hV σ 41 42 24 sh_41 sh_42 (by decide) i t) (cwV 2 C.2.2.2.2.1 gX3_setTypes_X5_put rfl rfl rfl (by decide +kernel) ⟨Nat.le_of_ble_eq_true rfl, Nat.le_of_ble_eq_true rfl⟩) rfl rfl (Nat.le_of_ble_eq_true rfl) dX3_setTypes_6 ⟨Nat.le_of_ble_eq_true rfl, Nat.le_of_ble_eq_true rfl⟩ (x_kV ?_)
  refine x_aload_n C dX3_setTypes_9 rfl 0 rfl ?_
  refine x_getr C sh_27 rfl iX3 5 (by decide) f36 (fun _ h => h) (by decide) rfl dX3_setTypes_10 ?_
  refine x_iload_n C dX3_setTypes_13 rfl 1 rfl ?_
  refine x_iload_n C dX3_setTypes_14 rfl 3 rfl ?_
  refine x_callV C sh_43 (by decide) rfl [.int i, .int f] (c_X5_put l V hV (vPut σ 42 24 i t) 43 44 24 sh_43 sh_44 (by decide) i f) (cwV 2 C.2.2.2.2.1 gX3_setTypes_X5_put rfl rfl rfl (by decide +kernel) ⟨Nat.le_of_ble_eq_true rfl, Nat.le_of_ble_eq_true rfl⟩) rfl rfl (Nat.le_of_ble_eq_true rfl) dX3_setTypes_15 ⟨Nat.le_of_ble_eq_true rfl, Nat.le_of_ble_eq_true rfl⟩ (x_kV ?_)
  refine x_aload_n C dX3_setTypes_18 rfl 0 rfl ?_
  refine x_getr C sh_27 rfl iX3 6 (by decide) f39 (fun _ h => h) (by decide) rfl dX3_setTypes_19 ?_
  refine x_iload_n C dX3_setTypes_22 rfl 1 rfl ?_
  refine x_iload C dX3_setTypes_23 4 rfl ?_
  refine x_callV C sh_45 (by decide) rfl [.int i, .int g] (c_X5_put l V hV (vPut (vPut σ 42 24 i t) 44 24 i f) 45 46 24 sh_45 sh_46 (by decide) i g) (cwV 2 C.2.2.2.2.1 gX3_setTypes_X5_put rfl rfl rfl (by decide +kernel) ⟨Nat.le_of_ble_eq_true rfl, Nat.le_of_ble_eq_true rfl⟩) rfl rfl (Nat.le_of_ble_eq_true rfl) dX3_setTypes_25 ⟨Nat.le_of_ble_eq_true rfl, Nat.le_of_ble_eq_true rfl⟩ (x_kV ?_)
  exact x_vret C hr hlk dX3_setTypes_28 ⟨rfl, rfl⟩

set_option maxHeartbeats 4000000 in
set_option maxRecDepth 100000 in
theorem c_X3_sort (l : Launch) (V : xV) (hV : xInj V) (σ : xS) (i : Int32) : xM l yX3_sort wsX3_sort ({ frames := 1, cells := 0, slots := 0, locals := 21 }) V [ra V 27, .int i] σ (rI (vAt 24 (σ 36) i) σ) := by
  refine xM_of (cc := cX3_sort) (maxL := 2) (ret := (some .int)) [(0, ra V 27), (1, .int i)] hV (by decide) rfl rfl (Nat.le_of_ble_eq_true rfl) (fun p e s m args below meth c C hr hlk => ?_)
  have iX3 : ∀ w ∈ u_ws RX3 TX3 7, w ∈ wsX3_sort := by decide +kernel
  have f23 : (Cond.fieldLink RX3 23 RX3 (TX3 1).2.1 (TX3 1).2.2.1).before args s = true := C.2.2.2.2.1 _ (by decide +kernel)
  refine x_aload_n C dX3_sort_0 rfl 0 rfl ?_
  refine x_getr C sh_27 rfl iX3 1 (by decide) f23 (fun _ h => h) (by decide) rfl dX3_sort_1 ?_
  refine x_iload_n C dX3_sort_4 rfl 1 rfl ?_
  refine x_callV C sh_35 (by decide) rfl [.int i] (c_X5_at l V hV σ 35 36 24 sh_35 sh_36 (by decide) i) (cwV 1 C.2.2.2.2.1 gX3_sort_X5_at rfl rfl rfl (by decide +kernel) ⟨Nat.le_of_ble_eq_true rfl, Nat.le_of_ble_eq_true rfl⟩) rfl rfl (Nat.le_of_ble_eq_true rfl) dX3_sort_5 ⟨Nat.le_of_ble_eq_true rfl, Nat.le_of_ble_eq_true rfl⟩ (x_kI ?_)
  exact x_iret C hr hlk dX3_sort_8 ⟨rfl, rfl⟩

set_option maxHeartbeats 4000000 in
set_option maxRecDepth 100000 in
theorem c_X3_owner (l : Launch) (V : xV) (hV : xInj V) (σ : xS) (i : Int32) : xM l yX3_owner wsX3_owner ({ frames := 1, cells := 0, slots := 0, locals := 21 }) V [ra V 27, .int i] σ (rI (vAt 24 (σ 38) i) σ) := by
  refine xM_of (cc := cX3_owner) (maxL := 2) (ret := (some .int)) [(0, ra V 27), (1, .int i)] hV (by decide) rfl rfl (Nat.le_of_ble_eq_true rfl) (fun p e s m args below meth c C hr hlk => ?_)
  have iX3 : ∀ w ∈ u_ws RX3 TX3 7, w ∈ wsX3_owner := by decide +kernel
  have f27 : (Cond.fieldLink RX3 27 RX3 (TX3 2).2.1 (TX3 2).2.2.1).before args s = true := C.2.2.2.2.1 _ (by decide +kernel)
  refine x_aload_n C dX3_owner_0 rfl 0 rfl ?_
  refine x_getr C sh_27 rfl iX3 2 (by decide) f27 (fun _ h => h) (by decide) rfl dX3_owner_1 ?_
  refine x_iload_n C dX3_owner_4 rfl 1 rfl ?_
  refine x_callV C sh_37 (by decide) rfl [.int i] (c_X5_at l V hV σ 37 38 24 sh_37 sh_38 (by decide) i) (cwV 1 C.2.2.2.2.1 gX3_owner_X5_at rfl rfl rfl (by decide +kernel) ⟨Nat.le_of_ble_eq_true rfl, Nat.le_of_ble_eq_true rfl⟩) rfl rfl (Nat.le_of_ble_eq_true rfl) dX3_owner_5 ⟨Nat.le_of_ble_eq_true rfl, Nat.le_of_ble_eq_true rfl⟩ (x_kI ?_)
  exact x_iret C hr hlk dX3_owner_8 ⟨rfl, rfl⟩

set_option maxHeartbeats 4000000 in
set_option maxRecDepth 100000 in
theorem c_X3_name (l : Launch) (V : xV) (hV : xInj V) (σ : xS) (i : Int32) : xM l yX3_name wsX3_name ({ frames := 1, cells := 0, slots := 0, locals := 21 }) V [ra V 27, .int i] σ (rI (vAt 24 (σ 40) i) σ) := by
  refine xM_of (cc := cX3_name) (maxL := 2) (ret := (some .int)) [(0, ra V 27), (1, .int i)] hV (by decide) rfl rfl (Nat.le_of_ble_eq_true rfl) (fun p e s m args below meth c C hr hlk => ?_)
  have iX3 : ∀ w ∈ u_ws RX3 TX3 7, w ∈ wsX3_name := by decide +kernel
  have f30 : (Cond.fieldLink RX3 30 RX3 (TX3 3).2.1 (TX3 3).2.2.1).before args s = true := C.2.2.2.2.1 _ (by decide +kernel)
  refine x_aload_n C dX3_name_0 rfl 0 rfl ?_
  refine x_getr C sh_27 rfl iX3 3 (by decide) f30 (fun _ h => h) (by decide) rfl dX3_name_1 ?_
  refine x_iload_n C dX3_name_4 rfl 1 rfl ?_
  refine x_callV C sh_39 (by decide) rfl [.int i] (c_X5_at l V hV σ 39 40 24 sh_39 sh_40 (by decide) i) (cwV 1 C.2.2.2.2.1 gX3_name_X5_at rfl rfl rfl (by decide +kernel) ⟨Nat.le_of_ble_eq_true rfl, Nat.le_of_ble_eq_true rfl⟩) rfl rfl (Nat.le_of_ble_eq_true rfl) dX3_name_5 ⟨Nat.le_of_ble_eq_true rfl, Nat.le_of_ble_eq_true rfl⟩ (x_kI ?_)
  exact x_iret C hr hlk dX3_name_8 ⟨rfl, rfl⟩

set_option maxHeartbeats 4000000 in
set_option maxRecDepth 100000 in
theorem c_X3_type (l : Launch) (V : xV) (hV : xInj V) (σ : xS) (i : Int32) : xM l yX3_type wsX3_type ({ frames := 1, cells := 0, slots := 0, locals := 21 }) V [ra V 27, .int i] σ (rI (vAt 24 (σ 42) i) σ) := by
  refine xM_of (cc := cX3_type) (maxL := 2) (ret := (some .int)) [(0, ra V 27), (1, .int i)] hV (by decide) rfl rfl (Nat.le_of_ble_eq_true rfl) (fun p e s m args below meth c C hr hlk => ?_)
  have iX3 : ∀ w ∈ u_ws RX3 TX3 7, w ∈ wsX3_type := by decide +kernel
  have f33 : (Cond.fieldLink RX3 33 RX3 (TX3 4).2.1 (TX3 4).2.2.1).before args s = true := C.2.2.2.2.1 _ (by decide +kernel)
  refine x_aload_n C dX3_type_0 rfl 0 rfl ?_
  refine x_getr C sh_27 rfl iX3 4 (by decide) f33 (fun _ h => h) (by decide) rfl dX3_type_1 ?_
  refine x_iload_n C dX3_type_4 rfl 1 rfl ?_
  refine x_callV C sh_41 (by decide) rfl [.int i] (c_X5_at l V hV σ 41 42 24 sh_41 sh_42 (by decide) i) (cwV 1 C.2.2.2.2.1 gX3_type_X5_at rfl rfl rfl (by decide +kernel) ⟨Nat.le_of_ble_eq_true rfl, Nat.le_of_ble_eq_true rfl⟩) rfl rfl (Nat.le_of_ble_eq_true rfl) dX3_type_5 ⟨Nat.le_of_ble_eq_true rfl, Nat.le_of_ble_eq_true rfl⟩ (x_kI ?_)
  exact x_iret C hr hlk dX3_type_8 ⟨rfl, rfl⟩

set_option maxHeartbeats 4000000 in
set_option maxRecDepth 100000 in
theorem c_X3_parameter (l : Launch) (V : xV) (hV : xInj V) (σ : xS) (i x : Int32) : xM l yX3_parameter wsX3_parameter ({ frames := 1, cells := 0, slots := 0, locals := 21 }) V [ra V 27, .int i, .int x] σ (rI (mPar σ i x) σ) := by
  refine xM_of (cc := cX3_parameter) (maxL := 3) (ret := (some .int)) [(0, ra V 27), (1, .int i), (2, .int x)] hV (by decide) rfl rfl (Nat.le_of_ble_eq_true rfl) (fun p e s m args below meth c C hr hlk => ?_)
  have iX3 : ∀ w ∈ u_ws RX3 TX3 7, w ∈ wsX3_parameter := by decide +kernel
  have f39 : (Cond.fieldLink RX3 39 RX3 (TX3 6).2.1 (TX3 6).2.2.1).before args s = true := C.2.2.2.2.1 _ (by decide +kernel)
  have f36 : (Cond.fieldLink RX3 36 RX3 (TX3 5).2.1 (TX3 5).2.2.1).before args s = true := C.2.2.2.2.1 _ (by decide +kernel)
  refine x_iload_n C dX3_parameter_0 rfl 2 rfl ?_
  refine x_if_ne C 15 dX3_parameter_1 rfl (fun h1 => ?_) (fun h1 => ?_)
  · refine x_iload_n C dX3_parameter_15 rfl 2 rfl ?_
    refine x_iconst C (1 : Int32) (by decide) dX3_parameter_16 ?_
    refine x_icmp_ne C 31 dX3_parameter_17 rfl (fun h2 => ?_) (fun h2 => ?_)
    · refine x_iconst C (-1 : Int32) (by decide) dX3_parameter_31 ?_
      exact x_iret C hr hlk dX3_parameter_32 ⟨by simp [mPar, h1, h2], rfl⟩
    · refine x_aload_n C dX3_parameter_20 rfl 0 rfl ?_
      refine x_getr C sh_27 rfl iX3 6 (by decide) f39 (fun _ h => h) (by decide) rfl dX3_parameter_21 ?_
      refine x_iload_n C dX3_parameter_24 rfl 1 rfl ?_
      refine x_callV C sh_45 (by decide) rfl [.int i] (c_X5_at l V hV σ 45 46 24 sh_45 sh_46 (by decide) i) (cwV 1 C.2.2.2.2.1 gX3_parameter_X5_at rfl rfl rfl (by decide +kernel) ⟨Nat.le_of_ble_eq_true rfl, Nat.le_of_ble_eq_true rfl⟩) rfl rfl (Nat.le_of_ble_eq_true rfl) dX3_parameter_25 ⟨Nat.le_of_ble_eq_true rfl, Nat.le_of_ble_eq_true rfl⟩ (x_kI ?_)
      refine x_goto C 32 dX3_parameter_28 rfl ?_
      exact x_iret C hr hlk dX3_parameter_32 ⟨by simp [mPar, h1, eq_true h2], rfl⟩
  · refine x_aload_n C dX3_parameter_4 rfl 0 rfl ?_
    refine x_getr C sh_27 rfl iX3 5 (by decide) f36 (fun _ h => h) (by decide) rfl dX3_parameter_5 ?_
    refine x_iload_n C dX3_parameter_8 rfl 1 rfl ?_
    refine x_callV C sh_43 (by decide) rfl [.int i] (c_X5_at l V hV σ 43 44 24 sh_43 sh_44 (by decide) i) (cwV 1 C.2.2.2.2.1 gX3_parameter_X5_at rfl rfl rfl (by decide +kernel) ⟨Nat.le_of_ble_eq_true rfl, Nat.le_of_ble_eq_true rfl⟩) rfl rfl (Nat.le_of_ble_eq_true rfl) dX3_parameter_9 ⟨Nat.le_of_ble_eq_true rfl, Nat.le_of_ble_eq_true rfl⟩ (x_kI ?_)
    refine x_goto C 32 dX3_parameter_12 rfl ?_
    exact x_iret C hr hlk dX3_parameter_32 ⟨by simp [mPar, eq_true h1], rfl⟩

set_option maxHeartbeats 4000000 in
set_option maxRecDepth 100000 in
theorem c_X4_appendLink (l : Launch) (V : xV) (hV : xInj V) (σ : xS) (o q on off : Int32) : xM l yX4_appendLink wsX4_appendLink ({ frames := 3, cells := 0, slots := 0, locals := 69 }) V [ra V 8, .int o, .int q, .int on, .int off] σ (rI (σ 202 0) (vPut (vPut (cApp σ 16 12 202 on off) 24 12 (σ 202 0) o) 26 12 (σ 202 0) q)) := by
  refine xM_of (cc := cX4_appendLink) (maxL := 6) (ret := (some .int)) [(0, ra V 8), (1, .int o), (2, .int q), (3, .int on), (4, .int off)] hV (by decide) rfl rfl (Nat.le_of_ble_eq_true rfl) (fun p e s m args below meth c C hr hlk => ?_)
  have iX4 : ∀ w ∈ u_ws RX4 TX4 8, w ∈ wsX4_appendLink := by decide +kernel
  have f20 : (Cond.fieldLink RX4 20 RX4 (TX4 1).2.1 (TX4 1).2.2.1).before args s = true := C.2.2.2.2.1 _ (by decide +kernel)
  have f26 : (Cond.fieldLink RX4 26 RX4 (TX4 2).2.1 (TX4 2).2.2.1).before args s = true := C.2.2.2.2.1 _ (by decide +kernel)
  have f30 : (Cond.fieldLink RX4 30 RX4 (TX4 3).2.1 (TX4 3).2.2.1).before args s = true := C.2.2.2.2.1 _ (by decide +kernel)
  refine x_aload_n C dX4_appendLink_0 rfl 0 rfl ?_
  refine x_getr C sh_8 rfl iX4 1 (by decide) f20 (fun _ h => h) (by decide) rfl dX4_appendLink_1 ?_
  refine x_iload_n C dX4_appendLink_4 rfl 3 rfl ?_
  refine x_iload C dX4_appendLink_5 4 rfl ?_
  refine x_callV C sh_16 (by decide) rfl [.int on, .int off] (c_X0_append_16 l V hV σ on off) (cwV 2 C.2.2.2.2.1 gX4_appendLink_X0_append rfl rfl rfl (by decide +kernel) ⟨Nat.le_of_ble_eq_true rfl, Nat.le_of_ble_eq_true rfl⟩) rfl rfl (Nat.le_of_ble_eq_true rfl) dX4_appendLink_7 ⟨Nat.le_of_ble_eq_true rfl, Nat.le_of_ble_eq_true rfl⟩ (x_kI ?_)
  refine x_istore C [(5, .int (σ 202 0)), (0, ra V 8), (1, .int o), (2, .int q), (3, .int on), (4, .int off)] dX4_appendLink_10 (by decide) rfl ?_
  refine x_aload_n C dX4_appendLink_12 rfl 1 rfl ?_
  refine x_getr C sh_8 rfl iX4 2 (by decide) f26 (fun _ h => h) (by decide) rfl dX4_appendLink_13 ?_
  refine x_iload C dX4_appendLink_16 0 rfl ?_
  refine x_iload_n C dX4_appendLink_18 rfl 2 rfl ?_
  refine x_callV C sh_23 (by decide) rfl [.int (σ 202 0), .int o] (c_X5_put l V hV (cApp σ 16 12 202 on off) 23 24 12 sh_23 sh_24 (by decide) (σ 202 0) o) (cwV 2 C.2.2.2.2.1 gX4_appendLink_X5_put rfl rfl rfl (by decide +kernel) ⟨Nat.le_of_ble_eq_true rfl, Nat.le_of_ble_eq_true rfl⟩) rfl rfl (Nat.le_of_ble_eq_true rfl) dX4_appendLink_19 ⟨Nat.le_of_ble_eq_true rfl, Nat.le_of_ble_eq_true rfl⟩ (x_kV ?_)
  refine x_aload_n C dX4_appendLink_22 rfl 1 rfl ?_
  refine x_getr C sh_8 rfl iX4 3 (by decide) f30 (fun _ h => h) (by decide) rfl dX4_appendLink_23 ?_
  refine x_iload C dX4_appendLink_26 0 rfl ?_
  refine x_iload_n C dX4_appendLink_28 rfl 3 rfl ?_
  refine x_callV C sh_25 (by decide) rfl [.int (σ 202 0), .int q] (c_X5_put l V hV (vPut (cApp σ 16 12 202 on off) 24 12 (σ 202 0) o) 25 26 12 sh_25 sh_26 (by decide) (σ 202 0) q) (cwV 2 C.2.2.2.2.1 gX4_appendLink_X5_put rfl rfl rfl (by decide +kernel) ⟨Nat.le_of_ble_eq_true rfl, Nat.le_of_ble_eq_true rfl⟩) rfl rfl (Nat.le_of_ble_eq_true rfl) dX4_appendLink_29 ⟨Nat.le_of_ble_eq_true rfl, Nat.le_of_ble_eq_true rfl⟩ (x_kV ?_)
  refine x_iload C dX4_appendLink_32 0 rfl ?_
  exact x_iret C hr hlk dX4_appendLink_34 ⟨rfl, rfl⟩

set_option maxHeartbeats 4000000 in
set_option maxRecDepth 100000 in
theorem c_X4_appendResult (l : Launch) (V : xV) (hV : xInj V) (σ : xS) (x on off : Int32) : xM l yX4_appendResult wsX4_appendResult ({ frames := 3, cells := 0, slots := 0, locals := 69 }) V [ra V 8, .int x, .int on, .int off] σ (rI (σ 204 0) (vPut (cApp σ 60 16 204 on off) 68 16 (σ 204 0) x)) := by
  refine xM_of (cc := cX4_appendResult) (maxL := 5) (ret := (some .int)) [(0, ra V 8), (1, .int x), (2, .int on), (3, .int off)] hV (by decide) rfl rfl (Nat.le_of_ble_eq_true rfl) (fun p e s m args below meth c C hr hlk => ?_)
  have iX4 : ∀ w ∈ u_ws RX4 TX4 8, w ∈ wsX4_appendResult := by decide +kernel
  have f47 : (Cond.fieldLink RX4 47 RX4 (TX4 6).2.1 (TX4 6).2.2.1).before args s = true := C.2.2.2.2.1 _ (by decide +kernel)
  have f50 : (Cond.fieldLink RX4 50 RX4 (TX4 7).2.1 (TX4 7).2.2.1).before args s = true := C.2.2.2.2.1 _ (by decide +kernel)
  refine x_aload_n C dX4_appendResult_0 rfl 0 rfl ?_
  refine x_getr C sh_8 rfl iX4 6 (by decide) f47 (fun _ h => h) (by decide) rfl dX4_appendResult_1 ?_
  refine x_iload_n C dX4_appendResult_4 rfl 2 rfl ?_
  refine x_iload_n C dX4_appendResult_5 rfl 3 rfl ?_
  refine x_callV C sh_60 (by decide) rfl [.int on, .int off] (c_X0_append_60 l V hV σ on off) (cwV 2 C.2.2.2.2.1 gX4_appendResult_X0_append rfl rfl rfl (by decide +kernel) ⟨Nat.le_of_ble_eq_true rfl, Nat.le_of_ble_eq_true rfl⟩) rfl rfl (Nat.le_of_ble_eq_true rfl) dX4_appendResult_6 ⟨Nat.le_of_ble_eq_true rfl, Nat.le_of_ble_eq_true rfl⟩ (x_kI ?_)
  refine x_istore C [(4, .int (σ 204 0)), (0, ra V 8), (1, .int x), (2, .int on), (3, .int off)] dX4_appendResult_9 (by decide) rfl ?_
  refine x_aload_n C dX4_appendResult_11 rfl 1 rfl ?_
  refine x_getr C sh_8 rfl iX4 7 (by decide) f50 (fun _ h => h) (by decide) rfl dX4_appendResult_12 ?_
  refine x_iload C dX4_appendResult_15 0 rfl ?_
  refine x_iload_n C dX4_appendResult_17 rfl 2 rfl ?_
  refine x_callV C sh_67 (by decide) rfl [.int (σ 204 0), .int x] (c_X5_put l V hV (cApp σ 60 16 204 on off) 67 68 16 sh_67 sh_68 (by decide) (σ 204 0) x) (cwV 2 C.2.2.2.2.1 gX4_appendResult_X5_put rfl rfl rfl (by decide +kernel) ⟨Nat.le_of_ble_eq_true rfl, Nat.le_of_ble_eq_true rfl⟩) rfl rfl (Nat.le_of_ble_eq_true rfl) dX4_appendResult_18 ⟨Nat.le_of_ble_eq_true rfl, Nat.le_of_ble_eq_true rfl⟩ (x_kV ?_)
  refine x_iload C dX4_appendResult_21 0 rfl ?_
  exact x_iret C hr hlk dX4_appendResult_23 ⟨rfl, rfl⟩

set_option maxHeartbeats 4000000 in
set_option maxRecDepth 100000 in
theorem c_X4_conditions_0 (l : Launch) (V : xV) (hV : xInj V) (σ : xS) : xM l yX4_conditions wsX4_conditions ({ frames := 0, cells := 0, slots := 0, locals := 0 }) V [ra V 8, .int (0 : Int32)] σ (rR V 9 σ) := by
  refine xM_of (cc := cX4_conditions) (maxL := 2) (ret := (some (.object "ProductLineChecker$Conditions"))) [(0, ra V 8), (1, .int (0 : Int32))] hV (by decide) rfl rfl (Nat.le_of_ble_eq_true rfl) (fun p e s m args below meth c C hr hlk => ?_)
  have iX4 : ∀ w ∈ u_ws RX4 TX4 8, w ∈ wsX4_conditions := by decide +kernel
  have f14 : (Cond.fieldLink RX4 14 RX4 (TX4 0).2.1 (TX4 0).2.2.1).before args s = true := C.2.2.2.2.1 _ (by decide +kernel)
  refine x_iload_n C dX4_conditions_0 rfl 1 rfl ?_
  refine x_if_ne C 11 dX4_conditions_1 rfl (fun h1 => absurd h1 (by decide)) (fun h1 => ?_)
  refine x_aload_n C dX4_conditions_4 rfl 0 rfl ?_
  refine x_getr C sh_8 rfl iX4 0 (by decide) f14 (fun _ h => h) (by decide) rfl dX4_conditions_5 ?_
  refine x_goto C 42 dX4_conditions_8 rfl ?_
  exact x_aret C hr hlk dX4_conditions_42 ⟨rfl, rfl⟩

set_option maxHeartbeats 4000000 in
set_option maxRecDepth 100000 in
theorem c_X4_conditions_1 (l : Launch) (V : xV) (hV : xInj V) (σ : xS) : xM l yX4_conditions wsX4_conditions ({ frames := 0, cells := 0, slots := 0, locals := 0 }) V [ra V 8, .int (1 : Int32)] σ (rR V 16 σ) := by
  refine xM_of (cc := cX4_conditions) (maxL := 2) (ret := (some (.object "ProductLineChecker$Conditions"))) [(0, ra V 8), (1, .int (1 : Int32))] hV (by decide) rfl rfl (Nat.le_of_ble_eq_true rfl) (fun p e s m args below meth c C hr hlk => ?_)
  have iX4 : ∀ w ∈ u_ws RX4 TX4 8, w ∈ wsX4_conditions := by decide +kernel
  have f20 : (Cond.fieldLink RX4 20 RX4 (TX4 1).2.1 (TX4 1).2.2.1).before args s = true := C.2.2.2.2.1 _ (by decide +kernel)
  refine x_iload_n C dX4_conditions_0 rfl 1 rfl ?_
  refine x_if_ne C 11 dX4_conditions_1 rfl (fun h1 => ?_) (fun h1 => absurd h1 (by decide))
  refine x_iload_n C dX4_conditions_11 rfl 1 rfl ?_
  refine x_iconst C (1 : Int32) (by decide) dX4_conditions_12 ?_
  refine x_icmp_ne C 23 dX4_conditions_13 rfl (fun h2 => absurd h2 (by decide)) (fun h2 => ?_)
  refine x_aload_n C dX4_conditions_16 rfl 0 rfl ?_
  refine x_getr C sh_8 rfl iX4 1 (by decide) f20 (fun _ h => h) (by decide) rfl dX4_conditions_17 ?_
  refine x_goto C 42 dX4_conditions_20 rfl ?_
  exact x_aret C hr hlk dX4_conditions_42 ⟨rfl, rfl⟩

set_option maxHeartbeats 4000000 in
set_option maxRecDepth 100000 in
theorem c_X4_conditions_2 (l : Launch) (V : xV) (hV : xInj V) (σ : xS) : xM l yX4_conditions wsX4_conditions ({ frames := 0, cells := 0, slots := 0, locals := 0 }) V [ra V 8, .int (2 : Int32)] σ (rR V 28 σ) := by
  refine xM_of (cc := cX4_conditions) (maxL := 2) (ret := (some (.object "ProductLineChecker$Conditions"))) [(0, ra V 8), (1, .int (2 : Int32))] hV (by decide) rfl rfl (Nat.le_of_ble_eq_true rfl) (fun p e s m args below meth c C hr hlk => ?_)
  have iX4 : ∀ w ∈ u_ws RX4 TX4 8, w ∈ wsX4_conditions := by decide +kernel
  have f36 : (Cond.fieldLink RX4 36 RX4 (TX4 4).2.1 (TX4 4).2.2.1).before args s = true := C.2.2.2.2.1 _ (by decide +kernel)
  have iX3 : ∀ w ∈ u_ws RX3 TX3 7, w ∈ wsX4_conditions := by decide +kernel
  have f61 : (Cond.fieldLink RX4 61 RX3 (TX3 0).2.1 (TX3 0).2.2.1).before args s = true := C.2.2.2.2.1 _ (by decide +kernel)
  refine x_iload_n C dX4_conditions_0 rfl 1 rfl ?_
  refine x_if_ne C 11 dX4_conditions_1 rfl (fun h1 => ?_) (fun h1 => absurd h1 (by decide))
  refine x_iload_n C dX4_conditions_11 rfl 1 rfl ?_
  refine x_iconst C (1 : Int32) (by decide) dX4_conditions_12 ?_
  refine x_icmp_ne C 23 dX4_conditions_13 rfl (fun h2 => ?_) (fun h2 => absurd h2 (by decide))
  refine x_iload_n C dX4_conditions_23 rfl 1 rfl ?_
  refine x_iconst C (2 : Int32) (by decide) dX4_conditions_24 ?_
  refine x_icmp_ne C 38 dX4_conditions_25 rfl (fun h3 => absurd h3 (by decide)) (fun h3 => ?_)
  refine x_aload_n C dX4_conditions_28 rfl 0 rfl ?_
  refine x_getr C sh_8 rfl iX4 4 (by decide) f36 (fun _ h => h) (by decide) rfl dX4_conditions_29 ?_
  refine x_getr C sh_27 rfl iX3 0 (by decide) f61 (fun _ h => h) (by decide) rfl dX4_conditions_32 ?_
  refine x_goto C 42 dX4_conditions_35 rfl ?_
  exact x_aret C hr hlk dX4_conditions_42 ⟨rfl, rfl⟩

set_option maxHeartbeats 4000000 in
set_option maxRecDepth 100000 in
theorem c_X4_conditions_3 (l : Launch) (V : xV) (hV : xInj V) (σ : xS) : xM l yX4_conditions wsX4_conditions ({ frames := 0, cells := 0, slots := 0, locals := 0 }) V [ra V 8, .int (3 : Int32)] σ (rR V 60 σ) := by
  refine xM_of (cc := cX4_conditions) (maxL := 2) (ret := (some (.object "ProductLineChecker$Conditions"))) [(0, ra V 8), (1, .int (3 : Int32))] hV (by decide) rfl rfl (Nat.le_of_ble_eq_true rfl) (fun p e s m args below meth c C hr hlk => ?_)
  have iX4 : ∀ w ∈ u_ws RX4 TX4 8, w ∈ wsX4_conditions := by decide +kernel
  have f47 : (Cond.fieldLink RX4 47 RX4 (TX4 6).2.1 (TX4 6).2.2.1).before args s = true := C.2.2.2.2.1 _ (by decide +kernel)
  refine x_iload_n C dX4_conditions_0 rfl 1 rfl ?_
  refine x_if_ne C 11 dX4_conditions_1 rfl (fun h1 => ?_) (fun h1 => absurd h1 (by decide))
  refine x_iload_n C dX4_conditions_11 rfl 1 rfl ?_
  refine x_iconst C (1 : Int32) (by decide) dX4_conditions_12 ?_
  refine x_icmp_ne C 23 dX4_conditions_13 rfl (fun h2 => ?_) (fun h2 => absurd h2 (by decide))
  refine x_iload_n C dX4_conditions_23 rfl 1 rfl ?_
  refine x_iconst C (2 : Int32) (by decide) dX4_conditions_24 ?_
  refine x_icmp_ne C 38 dX4_conditions_25 rfl (fun h3 => ?_) (fun h3 => absurd h3 (by decide))
  refine x_aload_n C dX4_conditions_38 rfl 0 rfl ?_
  refine x_getr C sh_8 rfl iX4 6 (by decide) f47 (fun _ h => h) (by decide) rfl dX4_conditions_39 ?_
  exact x_aret C hr hlk dX4_conditions_42 ⟨rfl, rfl⟩

set_option maxHeartbeats 4000000 in
set_option maxRecDepth 100000 in
theorem c_X4_size_0 (l : Launch) (V : xV) (hV : xInj V) (σ : xS) : xM l yX4_size wsX4_size ({ frames := 1, cells := 0, slots := 0, locals := 21 }) V [ra V 8, .int (0 : Int32)] σ (rI (σ 201 0) σ) := by
  refine xM_of (cc := cX4_size) (maxL := 2) (ret := (some .int)) [(0, ra V 8), (1, .int (0 : Int32))] hV (by decide) rfl rfl (Nat.le_of_ble_eq_true rfl) (fun p e s m args below meth c C hr hlk => ?_)
  refine x_iload_n C dX4_size_0 rfl 1 rfl ?_
  refine x_iconst C (4 : Int32) (by decide) dX4_size_1 ?_
  refine x_icmp_ne C 15 dX4_size_2 rfl (fun h1 => ?_) (fun h1 => absurd h1 (by decide))
  refine x_aload_n C dX4_size_15 rfl 0 rfl ?_
  refine x_iload_n C dX4_size_16 rfl 1 rfl ?_
  refine x_callV C sh_8 (by decide) rfl [.int (0 : Int32)] (c_X4_conditions_0 l V hV σ) (cwV 1 C.2.2.2.2.1 gX4_size_X4_conditions rfl rfl rfl (by decide +kernel) ⟨Nat.le_of_ble_eq_true rfl, Nat.le_of_ble_eq_true rfl⟩) rfl rfl (Nat.le_of_ble_eq_true rfl) dX4_size_17 ⟨Nat.le_of_ble_eq_true rfl, Nat.le_of_ble_eq_true rfl⟩ (x_kR ?_)
  refine x_callV C sh_9 (by decide) rfl [] (c_X0_size_9 l V hV σ ) (cwV 0 C.2.2.2.2.1 gX4_size_X0_size rfl rfl rfl (by decide +kernel) ⟨Nat.le_of_ble_eq_true rfl, Nat.le_of_ble_eq_true rfl⟩) rfl rfl (Nat.le_of_ble_eq_true rfl) dX4_size_20 ⟨Nat.le_of_ble_eq_true rfl, Nat.le_of_ble_eq_true rfl⟩ (x_kI ?_)
  exact x_iret C hr hlk dX4_size_23 ⟨rfl, rfl⟩

set_option maxHeartbeats 4000000 in
set_option maxRecDepth 100000 in
theorem c_X4_size_1 (l : Launch) (V : xV) (hV : xInj V) (σ : xS) : xM l yX4_size wsX4_size ({ frames := 1, cells := 0, slots := 0, locals := 21 }) V [ra V 8, .int (1 : Int32)] σ (rI (σ 202 0) σ) := by
  refine xM_of (cc := cX4_size) (maxL := 2) (ret := (some .int)) [(0, ra V 8), (1, .int (1 : Int32))] hV (by decide) rfl rfl (Nat.le_of_ble_eq_true rfl) (fun p e s m args below meth c C hr hlk => ?_)
  refine x_iload_n C dX4_size_0 rfl 1 rfl ?_
  refine x_iconst C (4 : Int32) (by decide) dX4_size_1 ?_
  refine x_icmp_ne C 15 dX4_size_2 rfl (fun h1 => ?_) (fun h1 => absurd h1 (by decide))
  refine x_aload_n C dX4_size_15 rfl 0 rfl ?_
  refine x_iload_n C dX4_size_16 rfl 1 rfl ?_
  refine x_callV C sh_8 (by decide) rfl [.int (1 : Int32)] (c_X4_conditions_1 l V hV σ) (cwV 1 C.2.2.2.2.1 gX4_size_X4_conditions rfl rfl rfl (by decide +kernel) ⟨Nat.le_of_ble_eq_true rfl, Nat.le_of_ble_eq_true rfl⟩) rfl rfl (Nat.le_of_ble_eq_true rfl) dX4_size_17 ⟨Nat.le_of_ble_eq_true rfl, Nat.le_of_ble_eq_true rfl⟩ (x_kR ?_)
  refine x_callV C sh_16 (by decide) rfl [] (c_X0_size_16 l V hV σ ) (cwV 0 C.2.2.2.2.1 gX4_size_X0_size rfl rfl rfl (by decide +kernel) ⟨Nat.le_of_ble_eq_true rfl, Nat.le_of_ble_eq_true rfl⟩) rfl rfl (Nat.le_of_ble_eq_true rfl) dX4_size_20 ⟨Nat.le_of_ble_eq_true rfl, Nat.le_of_ble_eq_true rfl⟩ (x_kI ?_)
  exact x_iret C hr hlk dX4_size_23 ⟨rfl, rfl⟩

set_option maxHeartbeats 4000000 in
set_option maxRecDepth 100000 in
theorem c_X4_size_2 (l : Launch) (V : xV) (hV : xInj V) (σ : xS) : xM l yX4_size wsX4_size ({ frames := 1, cells := 0, slots := 0, locals := 21 }) V [ra V 8, .int (2 : Int32)] σ (rI (σ 203 0) σ) := by
  refine xM_of (cc := cX4_size) (maxL := 2) (ret := (some .int)) [(0, ra V 8), (1, .int (2 : Int32))] hV (by decide) rfl rfl (Nat.le_of_ble_eq_true rfl) (fun p e s m args below meth c C hr hlk => ?_)
  refine x_iload_n C dX4_size_0 rfl 1 rfl ?_
  refine x_iconst C (4 : Int32) (by decide) dX4_size_1 ?_
  refine x_icmp_ne C 15 dX4_size_2 rfl (fun h1 => ?_) (fun h1 => absurd h1 (by decide))
  refine x_aload_n C dX4_size_15 rfl 0 rfl ?_
  refine x_iload_n C dX4_size_16 rfl 1 rfl ?_
  refine x_callV C sh_8 (by decide) rfl [.int (2 : Int32)] (c_X4_conditions_2 l V hV σ) (cwV 1 C.2.2.2.2.1 gX4_size_X4_conditions rfl rfl rfl (by decide +kernel) ⟨Nat.le_of_ble_eq_true rfl, Nat.le_of_ble_eq_true rfl⟩) rfl rfl (Nat.le_of_ble_eq_true rfl) dX4_size_17 ⟨Nat.le_of_ble_eq_true rfl, Nat.le_of_ble_eq_true rfl⟩ (x_kR ?_)
  refine x_callV C sh_28 (by decide) rfl [] (c_X0_size_28 l V hV σ ) (cwV 0 C.2.2.2.2.1 gX4_size_X0_size rfl rfl rfl (by decide +kernel) ⟨Nat.le_of_ble_eq_true rfl, Nat.le_of_ble_eq_true rfl⟩) rfl rfl (Nat.le_of_ble_eq_true rfl) dX4_size_20 ⟨Nat.le_of_ble_eq_true rfl, Nat.le_of_ble_eq_true rfl⟩ (x_kI ?_)
  exact x_iret C hr hlk dX4_size_23 ⟨rfl, rfl⟩

set_option maxHeartbeats 4000000 in
set_option maxRecDepth 100000 in
theorem c_X4_size_3 (l : Launch) (V : xV) (hV : xInj V) (σ : xS) : xM l yX4_size wsX4_size ({ frames := 1, cells := 0, slots := 0, locals := 21 }) V [ra V 8, .int (3 : Int32)] σ (rI (σ 204 0) σ) := by
  refine xM_of (cc := cX4_size) (maxL := 2) (ret := (some .int)) [(0, ra V 8), (1, .int (3 : Int32))] hV (by decide) rfl rfl (Nat.le_of_ble_eq_true rfl) (fun p e s m args below meth c C hr hlk => ?_)
  refine x_iload_n C dX4_size_0 rfl 1 rfl ?_
  refine x_iconst C (4 : Int32) (by decide) dX4_size_1 ?_
  refine x_icmp_ne C 15 dX4_size_2 rfl (fun h1 => ?_) (fun h1 => absurd h1 (by decide))
  refine x_aload_n C dX4_size_15 rfl 0 rfl ?_
  refine x_iload_n C dX4_size_16 rfl 1 rfl ?_
  refine x_callV C sh_8 (by decide) rfl [.int (3 : Int32)] (c_X4_conditions_3 l V hV σ) (cwV 1 C.2.2.2.2.1 gX4_size_X4_conditions rfl rfl rfl (by decide +kernel) ⟨Nat.le_of_ble_eq_true rfl, Nat.le_of_ble_eq_true rfl⟩) rfl rfl (Nat.le_of_ble_eq_true rfl) dX4_size_17 ⟨Nat.le_of_ble_eq_true rfl, Nat.le_of_ble_eq_true rfl⟩ (x_kR ?_)
  refine x_callV C sh_60 (by decide) rfl [] (c_X0_size_60 l V hV σ ) (cwV 0 C.2.2.2.2.1 gX4_size_X0_size rfl rfl rfl (by decide +kernel) ⟨Nat.le_of_ble_eq_true rfl, Nat.le_of_ble_eq_true rfl⟩) rfl rfl (Nat.le_of_ble_eq_true rfl) dX4_size_20 ⟨Nat.le_of_ble_eq_true rfl, Nat.le_of_ble_eq_true rfl⟩ (x_kI ?_)
  exact x_iret C hr hlk dX4_size_23 ⟨rfl, rfl⟩

set_option maxHeartbeats 4000000 in
set_option maxRecDepth 100000 in
theorem c_X4_size_4 (l : Launch) (V : xV) (hV : xInj V) (σ : xS) : xM l yX4_size wsX4_size ({ frames := 1, cells := 0, slots := 0, locals := 20 }) V [ra V 8, .int (4 : Int32)] σ (rI (σ 205 0) σ) := by
  refine xM_of (cc := cX4_size) (maxL := 2) (ret := (some .int)) [(0, ra V 8), (1, .int (4 : Int32))] hV (by decide) rfl rfl (Nat.le_of_ble_eq_true rfl) (fun p e s m args below meth c C hr hlk => ?_)
  have iX4 : ∀ w ∈ u_ws RX4 TX4 8, w ∈ wsX4_size := by decide +kernel
  have f43 : (Cond.fieldLink RX4 43 RX4 (TX4 5).2.1 (TX4 5).2.2.1).before args s = true := C.2.2.2.2.1 _ (by decide +kernel)
  refine x_iload_n C dX4_size_0 rfl 1 rfl ?_
  refine x_iconst C (4 : Int32) (by decide) dX4_size_1 ?_
  refine x_icmp_ne C 15 dX4_size_2 rfl (fun h1 => absurd h1 (by decide)) (fun h1 => ?_)
  refine x_aload_n C dX4_size_5 rfl 0 rfl ?_
  refine x_getr C sh_8 rfl iX4 5 (by decide) f43 (fun _ h => h) (by decide) rfl dX4_size_6 ?_
  refine x_callV C sh_47 (by decide) rfl [] (c_X1_size l V hV σ ) (cwV 0 C.2.2.2.2.1 gX4_size_X1_size rfl rfl rfl (by decide +kernel) ⟨Nat.le_of_ble_eq_true rfl, Nat.le_of_ble_eq_true rfl⟩) rfl rfl (Nat.le_of_ble_eq_true rfl) dX4_size_9 ⟨Nat.le_of_ble_eq_true rfl, Nat.le_of_ble_eq_true rfl⟩ (x_kI ?_)
  refine x_goto C 23 dX4_size_12 rfl ?_
  exact x_iret C hr hlk dX4_size_23 ⟨rfl, rfl⟩

theorem sort4 {x : Int32} (h1 : ¬ x < 0) (h2 : ¬ (3 : Int32) < x) : x = 0 ∨ x = 1 ∨ x = 2 ∨ x = 3 := by
  obtain ⟨j, hj, rfl⟩ := nI_of2 (M := 3) (n := 3) (by decide) h1 (by simpa using h2)
  have : j = 0 ∨ j = 1 ∨ j = 2 ∨ j = 3 := by omega
  rcases this with rfl | rfl | rfl | rfl
  · exact Or.inl rfl
  · exact Or.inr (Or.inl rfl)
  · exact Or.inr (Or.inr (Or.inl rfl))
  · exact Or.inr (Or.inr (Or.inr rfl))

set_option maxHeartbeats 4000000 in
set_option maxRecDepth 100000 in
theorem c_X4_hasType (l : Launch) (V : xV) (hV : xInj V) (σ : xS) (t : Int32) : xM l yX4_hasType wsX4_hasType ({ frames := 1, cells := 0, slots := 0, locals := 21 }) V [ra V 8, .int t] σ (rI (bI (hasT σ t)) σ) := by
  refine xM_of (cc := cX4_hasType) (maxL := 2) (ret := (some .boolean)) [(0, ra V 8), (1, .int t)] hV (by decide) rfl rfl (Nat.le_of_ble_eq_true rfl) (fun p e s m args below meth c C hr hlk => ?_)
  have iX4 : ∀ w ∈ u_ws RX4 TX4 8, w ∈ wsX4_hasType := by decide +kernel
  have f14 : (Cond.fieldLink RX4 14 RX4 (TX4 0).2.1 (TX4 0).2.2.1).before args s = true := C.2.2.2.2.1 _ (by decide +kernel)
  refine x_iload_n C dX4_hasType_0 rfl 1 rfl ?_
  refine x_bipush C (8 : Int32) (by decide) dX4_hasType_1 ?_
  refine x_icmp_eq C 17 dX4_hasType_3 rfl (fun h1 => ?_) (fun h1 => ?_)
  · refine x_iconst C (1 : Int32) (by decide) dX4_hasType_17 ?_
    refine x_goto C 22 dX4_hasType_18 rfl ?_
    exact x_zret C true rfl hr hlk dX4_hasType_22 ⟨by simp [hasT, eq_true h1], rfl⟩
  · refine x_aload_n C dX4_hasType_6 rfl 0 rfl ?_
    refine x_getr C sh_8 rfl iX4 0 (by decide) f14 (fun _ h => h) (by decide) rfl dX4_hasType_7 ?_
    refine x_iload_n C dX4_hasType_10 rfl 1 rfl ?_
    refine x_callV C sh_9 (by decide) rfl [.int t] (c_X0_has_9 l V hV σ t) (cwV 1 C.2.2.2.2.1 gX4_hasType_X0_has rfl rfl rfl (by decide +kernel) ⟨Nat.le_of_ble_eq_true rfl, Nat.le_of_ble_eq_true rfl⟩) rfl rfl (Nat.le_of_ble_eq_true rfl) dX4_hasType_11 ⟨Nat.le_of_ble_eq_true rfl, Nat.le_of_ble_eq_true rfl⟩ (x_kI ?_)
    refine x_bif_eq C 21 dX4_hasType_14 rfl (fun h2 => ?_) (fun h2 => ?_)
    · refine x_iconst C (0 : Int32) (by decide) dX4_hasType_21 ?_
      exact x_zret C false rfl hr hlk dX4_hasType_22 ⟨by simp [hasT, h1, h2], rfl⟩
    · refine x_iconst C (1 : Int32) (by decide) dX4_hasType_17 ?_
      refine x_goto C 22 dX4_hasType_18 rfl ?_
      exact x_zret C true rfl hr hlk dX4_hasType_22 ⟨by simp [hasT, h1, h2], rfl⟩

set_option maxHeartbeats 4000000 in
set_option maxRecDepth 100000 in
theorem c_X4_hasParameters (l : Launch) (V : xV) (hV : xInj V) (σ : xS) (f g : Int32) : xM l yX4_hasParameters wsX4_hasParameters ({ frames := 2, cells := 0, slots := 0, locals := 42 }) V [ra V 8, .int f, .int g] σ (rI (bI (hasPs σ f g)) σ) := by
  refine xM_of (cc := cX4_hasParameters) (maxL := 3) (ret := (some .boolean)) [(0, ra V 8), (1, .int f), (2, .int g)] hV (by decide) rfl rfl (Nat.le_of_ble_eq_true rfl) (fun p e s m args below meth c C hr hlk => ?_)
  refine x_iload_n C dX4_hasParameters_0 rfl 1 rfl ?_
  refine x_iconst C (-1 : Int32) (by decide) dX4_hasParameters_1 ?_
  refine x_icmp_ne C 16 dX4_hasParameters_2 rfl (fun h1 => ?_) (fun h1 => ?_)
  · refine x_aload_n C dX4_hasParameters_16 rfl 0 rfl ?_
    refine x_iload_n C dX4_hasParameters_17 rfl 1 rfl ?_
    refine x_callV C sh_8 (by decide) rfl [.int f] (c_X4_hasType l V hV σ f) (cwV 1 C.2.2.2.2.1 gX4_hasParameters_X4_hasType rfl rfl rfl (by decide +kernel) ⟨Nat.le_of_ble_eq_true rfl, Nat.le_of_ble_eq_true rfl⟩) rfl rfl (Nat.le_of_ble_eq_true rfl) dX4_hasParameters_18 ⟨Nat.le_of_ble_eq_true rfl, Nat.le_of_ble_eq_true rfl⟩ (x_kI ?_)
    refine x_bif_eq C 41 dX4_hasParameters_21 rfl (fun h2 => ?_) (fun h2 => ?_)
    · refine x_iconst C (0 : Int32) (by decide) dX4_hasParameters_41 ?_
      exact x_zret C false rfl hr hlk dX4_hasParameters_42 ⟨by simp [hasPs, h1, h2], rfl⟩
    · refine x_iload_n C dX4_hasParameters_24 rfl 2 rfl ?_
      refine x_iconst C (-1 : Int32) (by decide) dX4_hasParameters_25 ?_
      refine x_icmp_eq C 37 dX4_hasParameters_26 rfl (fun h3 => ?_) (fun h3 => ?_)
      · refine x_iconst C (1 : Int32) (by decide) dX4_hasParameters_37 ?_
        refine x_goto C 42 dX4_hasParameters_38 rfl ?_
        exact x_zret C true rfl hr hlk dX4_hasParameters_42 ⟨by simp [hasPs, h1, h2, eq_true h3], rfl⟩
      · refine x_aload_n C dX4_hasParameters_29 rfl 0 rfl ?_
        refine x_iload_n C dX4_hasParameters_30 rfl 2 rfl ?_
        refine x_callV C sh_8 (by decide) rfl [.int g] (c_X4_hasType l V hV σ g) (cwV 1 C.2.2.2.2.1 gX4_hasParameters_X4_hasType rfl rfl rfl (by decide +kernel) ⟨Nat.le_of_ble_eq_true rfl, Nat.le_of_ble_eq_true rfl⟩) rfl rfl (Nat.le_of_ble_eq_true rfl) dX4_hasParameters_31 ⟨Nat.le_of_ble_eq_true rfl, Nat.le_of_ble_eq_true rfl⟩ (x_kI ?_)
        refine x_bif_eq C 41 dX4_hasParameters_34 rfl (fun h4 => ?_) (fun h4 => ?_)
        · refine x_iconst C (0 : Int32) (by decide) dX4_hasParameters_41 ?_
          exact x_zret C false rfl hr hlk dX4_hasParameters_42 ⟨by simp [hasPs, h1, h2, h3, h4], rfl⟩
        · refine x_iconst C (1 : Int32) (by decide) dX4_hasParameters_37 ?_
          refine x_goto C 42 dX4_hasParameters_38 rfl ?_
          exact x_zret C true rfl hr hlk dX4_hasParameters_42 ⟨by simp [hasPs, h1, h2, h3, h4], rfl⟩
  · refine x_iload_n C dX4_hasParameters_5 rfl 2 rfl ?_
    refine x_iconst C (-1 : Int32) (by decide) dX4_hasParameters_6 ?_
    refine x_icmp_ne C 14 dX4_hasParameters_7 rfl (fun h5 => ?_) (fun h5 => ?_)
    · refine x_iconst C (0 : Int32) (by decide) dX4_hasParameters_14 ?_
      exact x_zret C false rfl hr hlk dX4_hasParameters_15 ⟨by simp [hasPs, eq_true h1, h5], rfl⟩
    · refine x_iconst C (1 : Int32) (by decide) dX4_hasParameters_10 ?_
      refine x_goto C 15 dX4_hasParameters_11 rfl ?_
      exact x_zret C true rfl hr hlk dX4_hasParameters_15 ⟨by simp [hasPs, eq_true h1, eq_true h5], rfl⟩

set_option maxHeartbeats 4000000 in
set_option maxRecDepth 100000 in
theorem c_X4_resultMethod (l : Launch) (V : xV) (hV : xInj V) (σ : xS) (i : Int32) : xM l yX4_resultMethod wsX4_resultMethod ({ frames := 2, cells := 0, slots := 0, locals := 42 }) V [ra V 8, .int i] σ (rI (resM σ i) σ) := by
  refine xM_of (cc := cX4_resultMethod) (maxL := 2) (ret := (some .int)) [(0, ra V 8), (1, .int i)] hV (by decide) rfl rfl (Nat.le_of_ble_eq_true rfl) (fun p e s m args below meth c C hr hlk => ?_)
  have iX4 : ∀ w ∈ u_ws RX4 TX4 8, w ∈ wsX4_resultMethod := by decide +kernel
  have f43 : (Cond.fieldLink RX4 43 RX4 (TX4 5).2.1 (TX4 5).2.2.1).before args s = true := C.2.2.2.2.1 _ (by decide +kernel)
  have f50 : (Cond.fieldLink RX4 50 RX4 (TX4 7).2.1 (TX4 7).2.2.1).before args s = true := C.2.2.2.2.1 _ (by decide +kernel)
  refine x_aload_n C dX4_resultMethod_0 rfl 0 rfl ?_
  refine x_getr C sh_8 rfl iX4 5 (by decide) f43 (fun _ h => h) (by decide) rfl dX4_resultMethod_1 ?_
  refine x_aload_n C dX4_resultMethod_4 rfl 0 rfl ?_
  refine x_getr C sh_8 rfl iX4 7 (by decide) f50 (fun _ h => h) (by decide) rfl dX4_resultMethod_5 ?_
  refine x_iload_n C dX4_resultMethod_8 rfl 1 rfl ?_
  refine x_callV C sh_67 (by decide) rfl [.int i] (c_X5_at l V hV σ 67 68 16 sh_67 sh_68 (by decide) i) (cwV 1 C.2.2.2.2.1 gX4_resultMethod_X5_at rfl rfl rfl (by decide +kernel) ⟨Nat.le_of_ble_eq_true rfl, Nat.le_of_ble_eq_true rfl⟩) rfl rfl (Nat.le_of_ble_eq_true rfl) dX4_resultMethod_9 ⟨Nat.le_of_ble_eq_true rfl, Nat.le_of_ble_eq_true rfl⟩ (x_kI ?_)
  refine x_callV C sh_47 (by decide) rfl [.int (vAt 16 (σ 68) i)] (c_X1_method l V hV σ (vAt 16 (σ 68) i)) (cwV 1 C.2.2.2.2.1 gX4_resultMethod_X1_method rfl rfl rfl (by decide +kernel) ⟨Nat.le_of_ble_eq_true rfl, Nat.le_of_ble_eq_true rfl⟩) rfl rfl (Nat.le_of_ble_eq_true rfl) dX4_resultMethod_12 ⟨Nat.le_of_ble_eq_true rfl, Nat.le_of_ble_eq_true rfl⟩ (x_kI ?_)
  exact x_iret C hr hlk dX4_resultMethod_15 ⟨rfl, rfl⟩

set_option maxHeartbeats 4000000 in
set_option maxRecDepth 100000 in
theorem c_X4_whereThere_0 (l : Launch) (V : xV) (hV : xInj V) (σ : xS) (i : Int32) : xM l yX4_whereThere wsX4_whereThere ({ frames := 2, cells := 0, slots := 0, locals := 42 }) V [ra V 8, .int (0 : Int32), .int i] σ (rI (wT σ (0 : Int32) i) σ) := by
  refine xM_of (cc := cX4_whereThere) (maxL := 5) (ret := (some .int)) [(0, ra V 8), (1, .int (0 : Int32)), (2, .int i)] hV (by decide) rfl rfl (Nat.le_of_ble_eq_true rfl) (fun p e s m args below meth c C hr hlk => ?_)
  refine x_aload_n C dX4_whereThere_0 rfl 0 rfl ?_
  refine x_iload_n C dX4_whereThere_1 rfl 1 rfl ?_
  refine x_callV C sh_8 (by decide) rfl [.int (0 : Int32)] (c_X4_conditions_0 l V hV σ) (cwV 1 C.2.2.2.2.1 gX4_whereThere_X4_conditions rfl rfl rfl (by decide +kernel) ⟨Nat.le_of_ble_eq_true rfl, Nat.le_of_ble_eq_true rfl⟩) rfl rfl (Nat.le_of_ble_eq_true rfl) dX4_whereThere_2 ⟨Nat.le_of_ble_eq_true rfl, Nat.le_of_ble_eq_true rfl⟩ (x_kR ?_)
  refine x_iload_n C dX4_whereThere_5 rfl 2 rfl ?_
  refine x_callV C sh_9 (by decide) rfl [.int i] (c_X0_whereTrue_9 l V hV σ i) (cwV 1 C.2.2.2.2.1 gX4_whereThere_X0_whereTrue rfl rfl rfl (by decide +kernel) ⟨Nat.le_of_ble_eq_true rfl, Nat.le_of_ble_eq_true rfl⟩) rfl rfl (Nat.le_of_ble_eq_true rfl) dX4_whereThere_6 ⟨Nat.le_of_ble_eq_true rfl, Nat.le_of_ble_eq_true rfl⟩ (x_kI ?_)
  refine x_istore_n C [(3, .int (vAt 8 (σ 15) i)), (0, ra V 8), (1, .int (0 : Int32)), (2, .int i)] dX4_whereThere_9 rfl (by decide) rfl ?_
  refine x_iload_n C dX4_whereThere_10 rfl 2 rfl ?_
  refine x_iconst C (1 : Int32) (by decide) dX4_whereThere_11 ?_
  refine x_icmp_ne C 49 dX4_whereThere_12 rfl (fun h1 => ?_) (fun h1 => absurd h1 (by decide))
  refine x_iload_n C dX4_whereThere_49 rfl 2 rfl ?_
  refine x_iconst C (2 : Int32) (by decide) dX4_whereThere_50 ?_
  refine x_icmp_ne C 72 dX4_whereThere_51 rfl (fun h2 => ?_) (fun h2 => absurd h2 (by decide))
  refine x_iload_n C dX4_whereThere_72 rfl 2 rfl ?_
  refine x_iconst C (3 : Int32) (by decide) dX4_whereThere_73 ?_
  refine x_icmp_ne C 116 dX4_whereThere_74 rfl (fun h3 => ?_) (fun h3 => absurd h3 (by decide))
  refine x_iload_n C dX4_whereThere_116 rfl 0 rfl ?_
  exact x_iret C hr hlk dX4_whereThere_117 ⟨rfl, rfl⟩

set_option maxHeartbeats 4000000 in
set_option maxRecDepth 100000 in
theorem c_X4_whereThere_1 (l : Launch) (V : xV) (hV : xInj V) (σ : xS) (i : Int32) : xM l yX4_whereThere wsX4_whereThere ({ frames := 2, cells := 0, slots := 0, locals := 42 }) V [ra V 8, .int (1 : Int32), .int i] σ (rI (wT σ (1 : Int32) i) σ) := by
  refine xM_of (cc := cX4_whereThere) (maxL := 5) (ret := (some .int)) [(0, ra V 8), (1, .int (1 : Int32)), (2, .int i)] hV (by decide) rfl rfl (Nat.le_of_ble_eq_true rfl) (fun p e s m args below meth c C hr hlk => ?_)
  have iX4 : ∀ w ∈ u_ws RX4 TX4 8, w ∈ wsX4_whereThere := by decide +kernel
  have f14 : (Cond.fieldLink RX4 14 RX4 (TX4 0).2.1 (TX4 0).2.2.1).before args s = true := C.2.2.2.2.1 _ (by decide +kernel)
  have f26 : (Cond.fieldLink RX4 26 RX4 (TX4 2).2.1 (TX4 2).2.2.1).before args s = true := C.2.2.2.2.1 _ (by decide +kernel)
  have f30 : (Cond.fieldLink RX4 30 RX4 (TX4 3).2.1 (TX4 3).2.2.1).before args s = true := C.2.2.2.2.1 _ (by decide +kernel)
  refine x_aload_n C dX4_whereThere_0 rfl 0 rfl ?_
  refine x_iload_n C dX4_whereThere_1 rfl 1 rfl ?_
  refine x_callV C sh_8 (by decide) rfl [.int (1 : Int32)] (c_X4_conditions_1 l V hV σ) (cwV 1 C.2.2.2.2.1 gX4_whereThere_X4_conditions rfl rfl rfl (by decide +kernel) ⟨Nat.le_of_ble_eq_true rfl, Nat.le_of_ble_eq_true rfl⟩) rfl rfl (Nat.le_of_ble_eq_true rfl) dX4_whereThere_2 ⟨Nat.le_of_ble_eq_true rfl, Nat.le_of_ble_eq_true rfl⟩ (x_kR ?_)
  refine x_iload_n C dX4_whereThere_5 rfl 2 rfl ?_
  refine x_callV C sh_16 (by decide) rfl [.int i] (c_X0_whereTrue_16 l V hV σ i) (cwV 1 C.2.2.2.2.1 gX4_whereThere_X0_whereTrue rfl rfl rfl (by decide +kernel) ⟨Nat.le_of_ble_eq_true rfl, Nat.le_of_ble_eq_true rfl⟩) rfl rfl (Nat.le_of_ble_eq_true rfl) dX4_whereThere_6 ⟨Nat.le_of_ble_eq_true rfl, Nat.le_of_ble_eq_true rfl⟩ (x_kI ?_)
  refine x_istore_n C [(3, .int (vAt 12 (σ 22) i)), (0, ra V 8), (1, .int (1 : Int32)), (2, .int i)] dX4_whereThere_9 rfl (by decide) rfl ?_
  refine x_iload_n C dX4_whereThere_10 rfl 2 rfl ?_
  refine x_iconst C (1 : Int32) (by decide) dX4_whereThere_11 ?_
  refine x_icmp_ne C 49 dX4_whereThere_12 rfl (fun h1 => absurd h1 (by decide)) (fun h1 => ?_)
  refine x_iload_n C dX4_whereThere_15 rfl 0 rfl ?_
  refine x_aload_n C dX4_whereThere_16 rfl 1 rfl ?_
  refine x_getr C sh_8 rfl iX4 0 (by decide) f14 (fun _ h => h) (by decide) rfl dX4_whereThere_17 ?_
  refine x_aload_n C dX4_whereThere_20 rfl 1 rfl ?_
  refine x_getr C sh_8 rfl iX4 2 (by decide) f26 (fun _ h => h) (by decide) rfl dX4_whereThere_21 ?_
  refine x_iload_n C dX4_whereThere_24 rfl 3 rfl ?_
  refine x_callV C sh_23 (by decide) rfl [.int i] (c_X5_at l V hV σ 23 24 12 sh_23 sh_24 (by decide) i) (cwV 1 C.2.2.2.2.1 gX4_whereThere_X5_at rfl rfl rfl (by decide +kernel) ⟨Nat.le_of_ble_eq_true rfl, Nat.le_of_ble_eq_true rfl⟩) rfl rfl (Nat.le_of_ble_eq_true rfl) dX4_whereThere_25 ⟨Nat.le_of_ble_eq_true rfl, Nat.le_of_ble_eq_true rfl⟩ (x_kI ?_)
  refine x_callV C sh_9 (by decide) rfl [.int (vAt 12 (σ 24) i)] (c_X0_whereTrue_9 l V hV σ (vAt 12 (σ 24) i)) (cwV 1 C.2.2.2.2.1 gX4_whereThere_X0_whereTrue rfl rfl rfl (by decide +kernel) ⟨Nat.le_of_ble_eq_true rfl, Nat.le_of_ble_eq_true rfl⟩) rfl rfl (Nat.le_of_ble_eq_true rfl) dX4_whereThere_28 ⟨Nat.le_of_ble_eq_true rfl, Nat.le_of_ble_eq_true rfl⟩ (x_kI ?_)
  refine x_iand C dX4_whereThere_31 ?_
  refine x_aload_n C dX4_whereThere_32 rfl 1 rfl ?_
  refine x_getr C sh_8 rfl iX4 0 (by decide) f14 (fun _ h => h) (by decide) rfl dX4_whereThere_33 ?_
  refine x_aload_n C dX4_whereThere_36 rfl 1 rfl ?_
  refine x_getr C sh_8 rfl iX4 3 (by decide) f30 (fun _ h => h) (by decide) rfl dX4_whereThere_37 ?_
  refine x_iload_n C dX4_whereThere_40 rfl 3 rfl ?_
  refine x_callV C sh_25 (by decide) rfl [.int i] (c_X5_at l V hV σ 25 26 12 sh_25 sh_26 (by decide) i) (cwV 1 C.2.2.2.2.1 gX4_whereThere_X5_at rfl rfl rfl (by decide +kernel) ⟨Nat.le_of_ble_eq_true rfl, Nat.le_of_ble_eq_true rfl⟩) rfl rfl (Nat.le_of_ble_eq_true rfl) dX4_whereThere_41 ⟨Nat.le_of_ble_eq_true rfl, Nat.le_of_ble_eq_true rfl⟩ (x_kI ?_)
  refine x_callV C sh_9 (by decide) rfl [.int (vAt 12 (σ 26) i)] (c_X0_whereTrue_9 l V hV σ (vAt 12 (σ 26) i)) (cwV 1 C.2.2.2.2.1 gX4_whereThere_X0_whereTrue rfl rfl rfl (by decide +kernel) ⟨Nat.le_of_ble_eq_true rfl, Nat.le_of_ble_eq_true rfl⟩) rfl rfl (Nat.le_of_ble_eq_true rfl) dX4_whereThere_44 ⟨Nat.le_of_ble_eq_true rfl, Nat.le_of_ble_eq_true rfl⟩ (x_kI ?_)
  refine x_iand C dX4_whereThere_47 ?_
  exact x_iret C hr hlk dX4_whereThere_48 ⟨rfl, rfl⟩

set_option maxHeartbeats 4000000 in
set_option maxRecDepth 100000 in
theorem c_X4_whereThere_2 (l : Launch) (V : xV) (hV : xInj V) (σ : xS) (i : Int32) : xM l yX4_whereThere wsX4_whereThere ({ frames := 2, cells := 0, slots := 0, locals := 42 }) V [ra V 8, .int (2 : Int32), .int i] σ (rI (wT σ (2 : Int32) i) σ) := by
  refine xM_of (cc := cX4_whereThere) (maxL := 5) (ret := (some .int)) [(0, ra V 8), (1, .int (2 : Int32)), (2, .int i)] hV (by decide) rfl rfl (Nat.le_of_ble_eq_true rfl) (fun p e s m args below meth c C hr hlk => ?_)
  have iX4 : ∀ w ∈ u_ws RX4 TX4 8, w ∈ wsX4_whereThere := by decide +kernel
  have f14 : (Cond.fieldLink RX4 14 RX4 (TX4 0).2.1 (TX4 0).2.2.1).before args s = true := C.2.2.2.2.1 _ (by decide +kernel)
  have f36 : (Cond.fieldLink RX4 36 RX4 (TX4 4).2.1 (TX4 4).2.2.1).before args s = true := C.2.2.2.2.1 _ (by decide +kernel)
  refine x_aload_n C dX4_whereThere_0 rfl 0 rfl ?_
  refine x_iload_n C dX4_whereThere_1 rfl 1 rfl ?_
  refine x_callV C sh_8 (by decide) rfl [.int (2 : Int32)] (c_X4_conditions_2 l V hV σ) (cwV 1 C.2.2.2.2.1 gX4_whereThere_X4_conditions rfl rfl rfl (by decide +kernel) ⟨Nat.le_of_ble_eq_true rfl, Nat.le_of_ble_eq_true rfl⟩) rfl rfl (Nat.le_of_ble_eq_true rfl) dX4_whereThere_2 ⟨Nat.le_of_ble_eq_true rfl, Nat.le_of_ble_eq_true rfl⟩ (x_kR ?_)
  refine x_iload_n C dX4_whereThere_5 rfl 2 rfl ?_
  refine x_callV C sh_28 (by decide) rfl [.int i] (c_X0_whereTrue_28 l V hV σ i) (cwV 1 C.2.2.2.2.1 gX4_whereThere_X0_whereTrue rfl rfl rfl (by decide +kernel) ⟨Nat.le_of_ble_eq_true rfl, Nat.le_of_ble_eq_true rfl⟩) rfl rfl (Nat.le_of_ble_eq_true rfl) dX4_whereThere_6 ⟨Nat.le_of_ble_eq_true rfl, Nat.le_of_ble_eq_true rfl⟩ (x_kI ?_)
  refine x_istore_n C [(3, .int (vAt 24 (σ 34) i)), (0, ra V 8), (1, .int (2 : Int32)), (2, .int i)] dX4_whereThere_9 rfl (by decide) rfl ?_
  refine x_iload_n C dX4_whereThere_10 rfl 2 rfl ?_
  refine x_iconst C (1 : Int32) (by decide) dX4_whereThere_11 ?_
  refine x_icmp_ne C 49 dX4_whereThere_12 rfl (fun h1 => ?_) (fun h1 => absurd h1 (by decide))
  refine x_iload_n C dX4_whereThere_49 rfl 2 rfl ?_
  refine x_iconst C (2 : Int32) (by decide) dX4_whereThere_50 ?_
  refine x_icmp_ne C 72 dX4_whereThere_51 rfl (fun h2 => absurd h2 (by decide)) (fun h2 => ?_)
  refine x_iload_n C dX4_whereThere_54 rfl 0 rfl ?_
  refine x_aload_n C dX4_whereThere_55 rfl 1 rfl ?_
  refine x_getr C sh_8 rfl iX4 0 (by decide) f14 (fun _ h => h) (by decide) rfl dX4_whereThere_56 ?_
  refine x_aload_n C dX4_whereThere_59 rfl 1 rfl ?_
  refine x_getr C sh_8 rfl iX4 4 (by decide) f36 (fun _ h => h) (by decide) rfl dX4_whereThere_60 ?_
  refine x_iload_n C dX4_whereThere_63 rfl 3 rfl ?_
  refine x_callV C sh_27 (by decide) rfl [.int i] (c_X3_owner l V hV σ i) (cwV 1 C.2.2.2.2.1 gX4_whereThere_X3_owner rfl rfl rfl (by decide +kernel) ⟨Nat.le_of_ble_eq_true rfl, Nat.le_of_ble_eq_true rfl⟩) rfl rfl (Nat.le_of_ble_eq_true rfl) dX4_whereThere_64 ⟨Nat.le_of_ble_eq_true rfl, Nat.le_of_ble_eq_true rfl⟩ (x_kI ?_)
  refine x_callV C sh_9 (by decide) rfl [.int (vAt 24 (σ 38) i)] (c_X0_whereTrue_9 l V hV σ (vAt 24 (σ 38) i)) (cwV 1 C.2.2.2.2.1 gX4_whereThere_X0_whereTrue rfl rfl rfl (by decide +kernel) ⟨Nat.le_of_ble_eq_true rfl, Nat.le_of_ble_eq_true rfl⟩) rfl rfl (Nat.le_of_ble_eq_true rfl) dX4_whereThere_67 ⟨Nat.le_of_ble_eq_true rfl, Nat.le_of_ble_eq_true rfl⟩ (x_kI ?_)
  refine x_iand C dX4_whereThere_70 ?_
  exact x_iret C hr hlk dX4_whereThere_71 ⟨rfl, rfl⟩

set_option maxHeartbeats 4000000 in
set_option maxRecDepth 100000 in
theorem c_X4_whereThere_3 (l : Launch) (V : xV) (hV : xInj V) (σ : xS) (i : Int32) : xM l yX4_whereThere wsX4_whereThere ({ frames := 3, cells := 0, slots := 0, locals := 63 }) V [ra V 8, .int (3 : Int32), .int i] σ (rI (wT σ (3 : Int32) i) σ) := by
  refine xM_of (cc := cX4_whereThere) (maxL := 5) (ret := (some .int)) [(0, ra V 8), (1, .int (3 : Int32)), (2, .int i)] hV (by decide) rfl rfl (Nat.le_of_ble_eq_true rfl) (fun p e s m args below meth c C hr hlk => ?_)
  have iX4 : ∀ w ∈ u_ws RX4 TX4 8, w ∈ wsX4_whereThere := by decide +kernel
  have f36 : (Cond.fieldLink RX4 36 RX4 (TX4 4).2.1 (TX4 4).2.2.1).before args s = true := C.2.2.2.2.1 _ (by decide +kernel)
  have iX3 : ∀ w ∈ u_ws RX3 TX3 7, w ∈ wsX4_whereThere := by decide +kernel
  have f61 : (Cond.fieldLink RX4 61 RX3 (TX3 0).2.1 (TX3 0).2.2.1).before args s = true := C.2.2.2.2.1 _ (by decide +kernel)
  have f14 : (Cond.fieldLink RX4 14 RX4 (TX4 0).2.1 (TX4 0).2.2.1).before args s = true := C.2.2.2.2.1 _ (by decide +kernel)
  refine x_aload_n C dX4_whereThere_0 rfl 0 rfl ?_
  refine x_iload_n C dX4_whereThere_1 rfl 1 rfl ?_
  refine x_callV C sh_8 (by decide) rfl [.int (3 : Int32)] (c_X4_conditions_3 l V hV σ) (cwV 1 C.2.2.2.2.1 gX4_whereThere_X4_conditions rfl rfl rfl (by decide +kernel) ⟨Nat.le_of_ble_eq_true rfl, Nat.le_of_ble_eq_true rfl⟩) rfl rfl (Nat.le_of_ble_eq_true rfl) dX4_whereThere_2 ⟨Nat.le_of_ble_eq_true rfl, Nat.le_of_ble_eq_true rfl⟩ (x_kR ?_)
  refine x_iload_n C dX4_whereThere_5 rfl 2 rfl ?_
  refine x_callV C sh_60 (by decide) rfl [.int i] (c_X0_whereTrue_60 l V hV σ i) (cwV 1 C.2.2.2.2.1 gX4_whereThere_X0_whereTrue rfl rfl rfl (by decide +kernel) ⟨Nat.le_of_ble_eq_true rfl, Nat.le_of_ble_eq_true rfl⟩) rfl rfl (Nat.le_of_ble_eq_true rfl) dX4_whereThere_6 ⟨Nat.le_of_ble_eq_true rfl, Nat.le_of_ble_eq_true rfl⟩ (x_kI ?_)
  refine x_istore_n C [(3, .int (vAt 16 (σ 66) i)), (0, ra V 8), (1, .int (3 : Int32)), (2, .int i)] dX4_whereThere_9 rfl (by decide) rfl ?_
  refine x_iload_n C dX4_whereThere_10 rfl 2 rfl ?_
  refine x_iconst C (1 : Int32) (by decide) dX4_whereThere_11 ?_
  refine x_icmp_ne C 49 dX4_whereThere_12 rfl (fun h1 => ?_) (fun h1 => absurd h1 (by decide))
  refine x_iload_n C dX4_whereThere_49 rfl 2 rfl ?_
  refine x_iconst C (2 : Int32) (by decide) dX4_whereThere_50 ?_
  refine x_icmp_ne C 72 dX4_whereThere_51 rfl (fun h2 => ?_) (fun h2 => absurd h2 (by decide))
  refine x_iload_n C dX4_whereThere_72 rfl 2 rfl ?_
  refine x_iconst C (3 : Int32) (by decide) dX4_whereThere_73 ?_
  refine x_icmp_ne C 116 dX4_whereThere_74 rfl (fun h3 => absurd h3 (by decide)) (fun h3 => ?_)
  refine x_aload_n C dX4_whereThere_77 rfl 1 rfl ?_
  refine x_iload_n C dX4_whereThere_78 rfl 3 rfl ?_
  refine x_callV C sh_8 (by decide) rfl [.int i] (c_X4_resultMethod l V hV σ i) (cwV 1 C.2.2.2.2.1 gX4_whereThere_X4_resultMethod rfl rfl rfl (by decide +kernel) ⟨Nat.le_of_ble_eq_true rfl, Nat.le_of_ble_eq_true rfl⟩) rfl rfl (Nat.le_of_ble_eq_true rfl) dX4_whereThere_79 ⟨Nat.le_of_ble_eq_true rfl, Nat.le_of_ble_eq_true rfl⟩ (x_kI ?_)
  refine x_istore C [(4, .int (resM σ i)), (3, .int (vAt 16 (σ 66) i)), (0, ra V 8), (1, .int (3 : Int32)), (2, .int i)] dX4_whereThere_82 (by decide) rfl ?_
  refine x_iload_n C dX4_whereThere_84 rfl 1 rfl ?_
  refine x_aload_n C dX4_whereThere_85 rfl 2 rfl ?_
  refine x_getr C sh_8 rfl iX4 4 (by decide) f36 (fun _ h => h) (by decide) rfl dX4_whereThere_86 ?_
  refine x_getr C sh_27 rfl iX3 0 (by decide) f61 (fun _ h => h) (by decide) rfl dX4_whereThere_89 ?_
  refine x_iload C dX4_whereThere_92 0 rfl ?_
  refine x_callV C sh_28 (by decide) rfl [.int (resM σ i)] (c_X0_whereTrue_28 l V hV σ (resM σ i)) (cwV 1 C.2.2.2.2.1 gX4_whereThere_X0_whereTrue rfl rfl rfl (by decide +kernel) ⟨Nat.le_of_ble_eq_true rfl, Nat.le_of_ble_eq_true rfl⟩) rfl rfl (Nat.le_of_ble_eq_true rfl) dX4_whereThere_94 ⟨Nat.le_of_ble_eq_true rfl, Nat.le_of_ble_eq_true rfl⟩ (x_kI ?_)
  refine x_iand C dX4_whereThere_97 ?_
  refine x_aload_n C dX4_whereThere_98 rfl 2 rfl ?_
  refine x_getr C sh_8 rfl iX4 0 (by decide) f14 (fun _ h => h) (by decide) rfl dX4_whereThere_99 ?_
  refine x_aload_n C dX4_whereThere_102 rfl 2 rfl ?_
  refine x_getr C sh_8 rfl iX4 4 (by decide) f36 (fun _ h => h) (by decide) rfl dX4_whereThere_103 ?_
  refine x_iload C dX4_whereThere_106 0 rfl ?_
  refine x_callV C sh_27 (by decide) rfl [.int (resM σ i)] (c_X3_owner l V hV σ (resM σ i)) (cwV 1 C.2.2.2.2.1 gX4_whereThere_X3_owner rfl rfl rfl (by decide +kernel) ⟨Nat.le_of_ble_eq_true rfl, Nat.le_of_ble_eq_true rfl⟩) rfl rfl (Nat.le_of_ble_eq_true rfl) dX4_whereThere_108 ⟨Nat.le_of_ble_eq_true rfl, Nat.le_of_ble_eq_true rfl⟩ (x_kI ?_)
  refine x_callV C sh_9 (by decide) rfl [.int (vAt 24 (σ 38) (resM σ i))] (c_X0_whereTrue_9 l V hV σ (vAt 24 (σ 38) (resM σ i))) (cwV 1 C.2.2.2.2.1 gX4_whereThere_X0_whereTrue rfl rfl rfl (by decide +kernel) ⟨Nat.le_of_ble_eq_true rfl, Nat.le_of_ble_eq_true rfl⟩) rfl rfl (Nat.le_of_ble_eq_true rfl) dX4_whereThere_111 ⟨Nat.le_of_ble_eq_true rfl, Nat.le_of_ble_eq_true rfl⟩ (x_kI ?_)
  refine x_iand C dX4_whereThere_114 ?_
  exact x_iret C hr hlk dX4_whereThere_115 ⟨rfl, rfl⟩

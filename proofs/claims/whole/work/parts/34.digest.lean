/-! The checksum. -/
theorem insA_q {τ σ : xS} (hq : Eqc τ σ) : Eqc (insA τ) σ := fun r hr => by unfold insA; rw [insp_keep hr]; exact hq r hr
theorem insA_81 (τ : xS) : insA τ 81 = insB τ (allI τ) 81 := by rw [insA_n]; exact numb_keep (by decide) (by decide) _
theorem mp_eq {σ I S : xS} (h : Pg σ) (hI : Eqc I σ) (hS : Eqm S σ) {s : Nat} (hs : s < 4) (d : Int64) : ∀ k, k ≤ cnt σ s → mpN I (mAll σ) (nI s) k d = mDpN S (nI s) k d := by
  intro k
  induction k with
  | zero => intro _; rfl
  | succ k ih =>
    intro hk
    rw [mpN_s, mDpN_s, ih (by omega), wT_c hI, pres_eq h hs (by omega), mPres_c hS]
    rfl
theorem mt_eq {σ I M : xS} (hM : Eqm M σ) {e : Nat} (he : e < 50) (hT : ∀ p, p < 16 → mPr σ (nI p) = true → I 81 (50 * p + e) = M 106 (50 * p + e)) (d : Int64) : ∀ k, k ≤ 16 → mtI I (mAll σ) (nI e) k d = mDtI M (nI e) k d := by
  intro k
  induction k with
  | zero => intro _; rfl
  | succ k ih =>
    intro hk
    rw [mtI, mDtI, ih (by omega), isAll_eq, mPr_c hM]
    by_cases hp : mPr σ (nI k) = true
    · rw [if_pos hp, if_pos hp, tyIn_n (by omega) he, mTI_n (by omega) he, hT k (by omega) hp]
      rfl
    · rw [if_neg hp, if_neg hp]
theorem mo_eq {σ I M : xS} (hM : Eqm M σ) {n : Nat} (hn : n ≤ 50) (hT : ∀ p, p < 16 → mPr σ (nI p) = true → ∀ e, e < n → I 81 (50 * p + e) = M 106 (50 * p + e)) (d : Int64) : ∀ k, k ≤ n → mtO I (mAll σ) k d = mDtO M k d := by
  intro k
  induction k with
  | zero => intro _; rfl
  | succ k ih =>
    intro hk
    rw [mtO, mDtO, ih (by omega), mt_eq hM (show k < 50 by omega) (fun p hp hpr => hT p hp hpr k (by omega)) _ 16 (Nat.le_refl _)]
theorem dig_eq {σ τ S : xS} (h : Pg σ) (hq : Eqc τ σ) (hS : Eqm S σ) (hK : Kn S) : dige τ = mDig S 4619 := by
  obtain ⟨hM, -, R, T⟩ := kn_use h hq hS hK
  have E := ER_of R
  rw [← insA_n] at E
  have hI := insA_q hq
  have hal : allI τ = mAll σ := by rw [allI_c hq, allI_eq h]
  have i81 := insA_81 τ
  unfold dige mDig mD3 mD2 mD1 mD0 mixT mixP dig0
  generalize mKn S = M at hM R T E ⊢
  generalize insA τ = I at hI E i81 ⊢
  have i201 : I 201 0 = σ 91 0 := by rw [hI 201 (by decide), h.C0.1]
  have i202 : I 202 0 = σ 91 1 := by rw [hI 202 (by decide), h.C1.1]
  have i203 : I 203 0 = σ 91 2 := by rw [hI 203 (by decide), h.C2.1]
  have i204 : I 204 0 = σ 91 3 := by rw [hI 204 (by decide), h.C3.1]
  have i205 : I 205 0 = σ 210 0 := by rw [hI 205 (by decide), h.N.2]
  have s91 : S 91 = σ 91 := hS 91 (by decide)
  have s210 : S 210 = σ 210 := hS 210 (by decide)
  have m210 : M 210 = σ 210 := hM 210 (by decide)
  have p0 : ∀ d, mpN I (mAll σ) 0 (σ 91 0).toNatClampNeg d = mDpN S 0 (σ 91 0).toNatClampNeg d := fun d => mp_eq (s := 0) h hI hS (by decide) d _ (Nat.le_refl _)
  have p1 : ∀ d, mpN I (mAll σ) 1 (σ 91 1).toNatClampNeg d = mDpN S 1 (σ 91 1).toNatClampNeg d := fun d => mp_eq (s := 1) h hI hS (by decide) d _ (Nat.le_refl _)
  have p2 : ∀ d, mpN I (mAll σ) 2 (σ 91 2).toNatClampNeg d = mDpN S 2 (σ 91 2).toNatClampNeg d := fun d => mp_eq (s := 2) h hI hS (by decide) d _ (Nat.le_refl _)
  have p3 : ∀ d, mpN I (mAll σ) 3 (σ 91 3).toNatClampNeg d = mDpN S 3 (σ 91 3).toNatClampNeg d := fun d => mp_eq (s := 3) h hI hS (by decide) d _ (Nat.le_refl _)
  have po : ∀ d, mtO I (mAll σ) (σ 210 0).toNatClampNeg d = mDtO M (σ 210 0).toNatClampNeg d := fun d => mo_eq hM h.ne.2 (fun p hp hpr e he => by rw [i81]; exact (T p hp hpr e he).1) d _ (Nat.le_refl _)
  have k0 : (149 : Int64) * 31 = 4619 := by decide
  rw [hal, E.dn, E.count, i201, i202, i203, i204, i205, mAll_c hS, s91, s210, m210, po, p3, p2, p1, p0]
  unfold mixL
  rw [k0]

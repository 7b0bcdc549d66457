/-! All products; what the reference knows. -/
def AR (σ : xS) (k : Nat) (τ ρ : xS) : Prop := Re τ ρ ∧ Eqc τ σ ∧ Eqm ρ σ ∧ ∀ p, p < k → mPr σ (nI p) = true → ∀ e, e < nEx σ → τ 81 (50 * p + e) = ρ 106 (50 * p + e) ∧ ∀ τ', Eqc τ' σ → gts (look τ' (nI p)) 81 (50 * p + e) = ρ 106 (50 * p + e)
theorem AR_all {σ τ ρ : xS} (h : Pg σ) (hq : Eqc τ σ) (hr : Eqm ρ σ) (R : Re τ ρ) : AR σ 16 (upN (insS (allI σ)) 16 τ) (upN mKP 16 ρ) := by
  have hn := h.ne.2
  refine up2 (AR σ) 16 ⟨R, hq, hr, fun p hp => absurd hp (Nat.not_lt_zero p)⟩ (fun k hk u w ⟨q1, q2, q3, q4⟩ => ?_) 16 (Nat.le_refl _)
  have e1 : isInB (allI σ) (nI k) = mPr σ (nI k) := isPr_eq h (nI k)
  have e2 : mPr w (nI k) = mPr σ (nI k) := by rw [mPr_c q3]
  have s1 : insS (allI σ) u (nI k) = if mPr σ (nI k) = true then clP u (nI k) else u := by
    unfold insS; rw [e1]; rfl
  have s2 : mKP w (nI k) = if mPr σ (nI k) = true then rfP w (nI k) else w := by
    unfold mKP; rw [e2]; rfl
  rw [s1, s2]
  by_cases hp : mPr σ (nI k) = true
  · rw [if_pos hp, if_pos hp]
    obtain ⟨a1, a2, a3, a4, a5, a6⟩ := prod_rel h q2 q3 hk q1
    refine ⟨a1, a2, a3, fun p hp2 hpr e he => ?_⟩
    by_cases g : p = k
    · subst g
      exact ⟨a5 e he, fun τ' hq' => a6 τ' hq' e he⟩
    · have b := a4 (50 * p + e) (by omega)
      have c := q4 p (by omega) hpr e he
      rw [b.1, b.2]; exact c
  · rw [if_neg hp, if_neg hp]
    refine ⟨q1, q2, q3, fun p hp2 hpr e he => ?_⟩
    by_cases g : p = k
    · subst g; exact absurd hpr hp
    · exact q4 p (by omega) hpr e he
def mKf (σ : xS) : xS := upN mKP 16 (vFill (xw σ 211 0 1) 107 650 0)
def insB (τ : xS) (ps : Int32) : xS := upN (insS ps) 16 (vFill τ 84 600 0)
theorem insA_n (τ : xS) : insA τ = numb (insB τ (allI τ)) := rfl
theorem allI_c {τ σ : xS} (h : Eqc τ σ) : allI τ = allI σ := by
  have e : ∀ c k, rKeptN τ c k = rKeptN σ c k := by
    intro c k
    induction k with
    | zero => rfl
    | succ k ih => rw [rKeptN, rKeptN, ih]; unfold rBad; rw [h 3 (by decide), h 5 (by decide), h 7 (by decide)]
  unfold allI rKept
  rw [h 200 (by decide)]
  simp only [e]
theorem kn_all {σ τ ρ : xS} (h : Pg σ) (hq : Eqc τ σ) (hr : Eqm ρ σ) : AR σ 16 (insB τ (allI τ)) (mKf ρ) := by
  rw [allI_c hq]
  refine AR_all h (fun r g => by rw [vFill_ne g.2.2.2.2.2.2.1]; exact hq r g) (fun r g => by rw [vFill_ne (by omega), xw_ne _ _ _ (by omega)]; exact hr r g) ⟨fun q g => ?_, fun q g => ?_⟩
  · rw [vFill_at g, vFill_at (by omega)]
  · rw [vFill_at (by omega)]
/-- what the reference has worked out is of the present program -/
def Kn (σ : xS) : Prop := σ 211 0 = 0 ∨ ∃ ρ, Eqm ρ σ ∧ σ 106 = mKf ρ 106 ∧ σ 107 = mKf ρ 107
theorem Eqm.tr {a b c : xS} (h : Eqm a b) (g : Eqm b c) : Eqm a c := fun r q => (h r q).trans (g r q)
theorem Eqm.sy {a b : xS} (h : Eqm a b) : Eqm b a := fun r q => (h r q).symm
theorem mKn_E (σ : xS) : Eqm (mKn σ) σ := fun r g => mKn_keep (by omega) (by omega) (by omega) σ
theorem mKf_211 (σ : xS) : mKf σ 211 = xw σ 211 0 1 211 := by
  unfold mKf
  rw [upN_keep (mKP_keep (by decide) (by decide)), vFill_ne (by decide)]
theorem kn_use {σ τ σ' : xS} (h : Pg σ) (hq : Eqc τ σ) (hm : Eqm σ' σ) (hk : Kn σ') : Eqm (mKn σ') σ ∧ Kn (mKn σ') ∧ Re (insB τ (allI τ)) (mKn σ') ∧ ∀ p, p < 16 → mPr σ (nI p) = true → ∀ e, e < nEx σ → insB τ (allI τ) 81 (50 * p + e) = mKn σ' 106 (50 * p + e) ∧ ∀ τ', Eqc τ' σ → gts (look τ' (nI p)) 81 (50 * p + e) = mKn σ' 106 (50 * p + e) := by
  have hE : Eqm (mKn σ') σ := (mKn_E σ').tr hm
  by_cases h0 : σ' 211 0 = 0
  · have e : mKn σ' = mKf σ' := by unfold mKn; rw [if_pos h0]; rfl
    have A := kn_all h hq hm
    refine ⟨hE, Or.inr ⟨σ', (mKn_E σ').sy, by rw [e], by rw [e]⟩, ?_⟩
    rw [e]
    exact ⟨A.1, A.2.2.2⟩
  · have e : mKn σ' = σ' := by unfold mKn; rw [if_neg h0]
    rw [e]
    obtain ⟨ρ, r1, r2, r3⟩ := hk.resolve_left h0
    have A := kn_all h hq (r1.tr hm)
    refine ⟨hm, hk, ?_, ?_⟩
    · have := A.1
      unfold Re at this ⊢
      rw [r3]; exact this
    · rw [r2]; exact A.2.2.2
/-! The numbering of the errors. -/
def zc (A : Nat → Int32) : Nat → Nat
  | 0 => 0
  | k + 1 => zc A k + (if A k = 0 then 0 else 1)
theorem zc_le (A : Nat → Int32) : ∀ k, zc A k ≤ k
  | 0 => Nat.le_refl _
  | k + 1 => by have := zc_le A k; rw [zc]; split <;> omega
theorem zc_z {A : Nat → Int32} {k : Nat} (h : A k = 0) : zc A (k + 1) = zc A k := by rw [zc, if_pos h]; rfl
theorem zc_n {A : Nat → Int32} {k : Nat} (h : ¬ A k = 0) : zc A (k + 1) = zc A k + 1 := by rw [zc, if_neg h]
theorem zc_mono {A : Nat → Int32} {a : Nat} : ∀ b, a ≤ b → zc A a ≤ zc A b := by
  intro b
  induction b with
  | zero => intro h; rw [Nat.le_zero.mp h]; exact Nat.le_refl _
  | succ b ih =>
    intro h
    by_cases e : a = b + 1
    · rw [e]; exact Nat.le_refl _
    · have := ih (by omega)
      rw [zc]; omega
theorem zc_lt {A : Nat → Int32} {j k : Nat} (hj : j < k) (h : ¬ A j = 0) : zc A j < zc A k := by
  have := zc_mono (A := A) k (show j + 1 ≤ k from hj)
  rw [zc_n h] at this
  omega
theorem numb_at {J : xS} : ∀ k, k ≤ 600 → upN nbS k (xw J 207 0 0) 207 0 = nI (zc (J 84) k) ∧ ∀ j, j < k → ¬ J 84 j = 0 → upN nbS k (xw J 207 0 0) 86 (zc (J 84) j) = nI j := by
  intro k
  induction k with
  | zero => intro _; exact ⟨xw_at _ _ _ _, fun j hj => absurd hj (Nat.not_lt_zero j)⟩
  | succ k ih =>
    intro hk
    obtain ⟨i1, i2⟩ := ih (by omega)
    rw [upN_s]
    have hz := zc_le (J 84) k
    have h84 : upN nbS k (xw J 207 0 0) 84 = J 84 := by rw [upN_keep (nbS_keep (by decide) (by decide)), xw_ne _ _ _ (by decide)]
    generalize upN nbS k (xw J 207 0 0) = U at i1 i2 h84 ⊢
    unfold nbS
    rw [vAt_n (by omega) (by decide), h84]
    by_cases e : J 84 k = 0
    · rw [if_pos e, zc_z e]
      refine ⟨i1, fun j hj hne => ?_⟩
      by_cases q : j = k
      · subst q; exact absurd e hne
      · exact i2 j (by omega) hne
    · rw [if_neg e, i1, vPut_n (by omega) (by decide), zc_n e, xw_at]
      refine ⟨nI_1 _, fun j hj hne => ?_⟩
      rw [xw_ne _ _ _ (by decide)]
      by_cases q : j = k
      · subst q; rw [xw_at]
      · rw [xw_other (by have := zc_lt (show j < k by omega) hne; omega)]
        exact i2 j (by omega) hne
/-- a fold over the found errors is a fold over the places -/
def cfo {D : Type} (s : D → Nat → D) (d : D) (fd : Nat → Int32) : Nat → D
  | 0 => d
  | k + 1 => s (cfo s d fd k) (fd k).toNatClampNeg
def rfo {D : Type} (s : D → Nat → D) (d : D) (A : Nat → Int32) : Nat → D
  | 0 => d
  | k + 1 => if A k = 0 then rfo s d A k else s (rfo s d A k) k
theorem fold_eq {D : Type} {s : D → Nat → D} {d : D} {A fd : Nat → Int32} {n : Nat} (hn : n < 2 ^ 31) (h : ∀ j, j < n → ¬ A j = 0 → fd (zc A j) = nI j) : ∀ k, k ≤ n → cfo s d fd (zc A k) = rfo s d A k := by
  intro k
  induction k with
  | zero => intro _; rfl
  | succ k ih =>
    intro hk
    by_cases e : A k = 0
    · rw [zc_z e, rfo, if_pos e, ih (by omega)]
    · rw [zc_n e, rfo, if_neg e, cfo, ih (by omega), h k (by omega) e, nI_clamp (by omega)]
theorem zc_on {A : Nat → Int32} : ∀ k j, j < zc A k → ∃ q, q < k ∧ ¬ A q = 0 ∧ zc A q = j := by
  intro k
  induction k with
  | zero => intro j hj; exact absurd hj (Nat.not_lt_zero j)
  | succ k ih =>
    intro j hj
    by_cases e : A k = 0
    · rw [zc_z e] at hj
      obtain ⟨q, q1, q2⟩ := ih j hj
      exact ⟨q, by omega, q2⟩
    · rw [zc_n e] at hj
      by_cases g : j = zc A k
      · exact ⟨k, by omega, e, g.symm⟩
      · obtain ⟨q, q1, q2⟩ := ih j (by omega)
        exact ⟨q, by omega, q2⟩
/-- the errors of both sides: I of the class, M of the reference, over the places A -/
def ER (I M : xS) : Prop := I 207 0 = nI (zc (I 84) 600) ∧ (∀ j, j < 600 → ¬ I 84 j = 0 → I 86 (zc (I 84) j) = nI j) ∧ (∀ q, q < 600 → I 84 q = M 107 (q + 50)) ∧ (∀ q, q < 50 → M 107 q = 0)
theorem ER_of {J M : xS} (R : Re J M) : ER (numb J) M := by
  have e84 : numb J 84 = J 84 := numb_keep (by decide) (by decide) J
  unfold ER
  rw [e84]
  have n := numb_at (J := J) 600 (Nat.le_refl _)
  exact ⟨n.1, n.2, R.1, R.2⟩
section ER
variable {I M : xS}
theorem ER.cnt (E : ER I M) : (I 207 0).toNatClampNeg = zc (I 84) 600 := by
  have := zc_le (I 84) 600
  rw [E.1, nI_clamp (by omega)]
theorem ER.nz (E : ER I M) : ∀ k, k ≤ 600 → nzc M (50 + k) = zc (I 84) k := by
  intro k
  induction k with
  | zero =>
    intro _
    have : ∀ j, j ≤ 50 → nzc M j = 0 := by
      intro j
      induction j with
      | zero => intro _; rfl
      | succ j ih => intro hj; rw [nzc_z (E.2.2.2 j (by omega))]; exact ih (by omega)
    exact this 50 (Nat.le_refl _)
  | succ k ih =>
    intro hk
    have e := E.2.2.1 k (by omega)
    rw [← Nat.add_assoc]
    by_cases g : I 84 k = 0
    · rw [zc_z g, nzc_z (by rw [Nat.add_comm, ← e]; exact g)]; exact ih (by omega)
    · rw [zc_n g, nzc_n (by rw [Nat.add_comm, ← e]; exact g), ih (by omega)]
theorem ER.count (E : ER I M) : I 207 0 = mCE M := by
  unfold mCE
  rw [mCEN_nzc, E.1, ← E.nz 600 (Nat.le_refl _)]
theorem ER.at (E : ER I M) {a : Nat} (ha : a < 650) (h0 : ¬ M 107 a = 0) : ∃ q, q < 600 ∧ a = q + 50 ∧ ¬ I 84 q = 0 ∧ M 107 a = I 84 q ∧ nzc M a = zc (I 84) q ∧ zc (I 84) q < 600 ∧ I 86 (zc (I 84) q) = nI q := by
  have h50 : 50 ≤ a := by
    rcases Nat.lt_or_ge a 50 with g | g
    · exact absurd (E.2.2.2 a g) h0
    · exact g
  obtain ⟨q, rfl⟩ : ∃ q, a = q + 50 := ⟨a - 50, by omega⟩
  have hq : q < 600 := by omega
  have e := E.2.2.1 q hq
  have hne : ¬ I 84 q = 0 := by rw [e]; exact h0
  have hz := zc_le (I 84) q
  exact ⟨q, hq, rfl, hne, e.symm, by rw [Nat.add_comm]; exact E.nz q (by omega), by omega, E.2.1 q hq hne⟩
theorem ER.vals (E : ER I M) {q : Nat} (hq : q < 600) (h0 : ¬ I 84 q = 0) : kndO I (nI (zc (I 84) q)) = nI ((q + 50) / 50) ∧ elmO I (nI (zc (I 84) q)) = nI ((q + 50) % 50) ∧ prdO I (nI (zc (I 84) q)) = I 84 q := by
  have hz := zc_le (I 84) q
  have e := E.2.1 q hq h0
  have d1 : nI q / 50 = nI (q / 50) := pk_div (d := 50) (by omega) (by decide) (by decide)
  have d2 : nI q - nI q / 50 * 50 = nI (q % 50) := pk_rem (d := 50) (by omega) (by decide) (by decide)
  unfold kndO elmO prdO
  rw [vAt_n (by omega) (by decide), e, d2, d1, vAt_n hq (by decide)]
  refine ⟨?_, ?_, rfl⟩
  · show nI (q / 50) + 1 = _
    rw [nI_1]; congr 1; omega
  · congr 1; omega
theorem ER.fold (E : ER I M) {D : Type} (s : D → Nat → D) (d : D) : cfo s d (I 86) (I 207 0).toNatClampNeg = rfo s d (I 84) 600 := by
  rw [E.cnt]
  exact fold_eq (n := 600) (by decide) E.2.1 600 (Nat.le_refl _)
end ER

/-! The two checkers side by side. -/
theorem kp_a (r : Nat) (h1 : 87 ≤ r) (h2 : r < 94) : kpR r := ⟨by omega, by omega, by omega, by omega, by omega, by omega, by omega, by omega, by omega, by omega⟩
theorem gl_q (σ : xS) (c : Int32) : Eqc (gts (look σ c)) σ := fun r hr => by rw [gts_keep hr.2.2.2.2.1 hr.2.2.2.2.2.1, look_keep hr]
/-- p, as build has left it, whatever was asked since -/
def PP (nr nc nl nm ne nx : Nat) (σ : xS) : Prop := AV nr nc nl nm ne nx σ ∧ Rr nr σ ∧ Ro cfgO nc nl nm ne nx σ
def AA (c : Int32) (nr nc nl nm ne nx : Nat) (τ : xS) : Prop := AV nr nc nl nm ne nx τ ∧ AR c nc nl nm ne nx τ
theorem Ro.ofq {cf : Int32 → Int32} {nc nl nm ne nx : Nat} {σ σ' : xS} (h : Ro cf nc nl nm ne nx σ) (d : Eqc σ' σ) : Ro cf nc nl nm ne nx σ' :=
  ⟨h.1.of (fun r hr => d r ((by decide : ∀ r, r ∈ [201, 15] → kpR r) r hr)) (El.same (d 89 (by decide))), h.2.1.of (fun r hr => d r ((by decide : ∀ r, r ∈ [202, 24, 26, 22] → kpR r) r hr)) (El.same (d 90 (by decide))), h.2.2.1.of (fun r hr => d r ((by decide : ∀ r, r ∈ [203, 36, 38, 40, 42, 44, 46, 34] → kpR r) r hr)) (El.same (d 91 (by decide))), h.2.2.2.1.of (fun r hr => d r ((by decide : ∀ r, r ∈ [205, 49, 51, 53, 55, 57, 59] → kpR r) r hr)) (El.same (d 92 (by decide))), h.2.2.2.2.of (fun r hr => d r ((by decide : ∀ r, r ∈ [204, 68, 66] → kpR r) r hr)) (El.same (d 93 (by decide)))⟩
theorem PP.of {nr nc nl nm ne nx : Nat} {σ σ' : xS} (h : PP nr nc nl nm ne nx σ) (d : Eqc σ' σ) : PP nr nc nl nm ne nx σ' := ⟨h.1.of (fun r h1 h2 => d r (kp_a r h1 h2)), h.2.1.of (fun r hr => d r ((by decide : ∀ r, r ∈ [200, 3, 5, 7] → kpR r) r hr)) (El.same (d 88 (by decide))), h.2.2.ofq d⟩
theorem AA.of {c : Int32} {nr nc nl nm ne nx : Nat} {σ σ' : xS} (h : AA c nr nc nl nm ne nx σ) (d : Eqc σ' σ) : AA c nr nc nl nm ne nx σ' := ⟨h.1.of (fun r h1 h2 => d r (kp_a r h1 h2)), h.2.1.of (fun r hr => d r ((by decide : ∀ r, r ∈ [200, 3, 5, 7] → kpR r) r hr)), h.2.2.ofq d⟩
theorem PP.Wx {nr nc nl nm ne nx : Nat} {σ : xS} (h : PP nr nc nl nm ne nx σ) : Wx ne nx σ := Ro_Wx h.2.2.2.2.2.1 h.2.2.2.2.2.2 h.1.2.2.2.2.1 h.1.2.2.2.2.2.1
theorem AA.Wx {c : Int32} {nr nc nl nm ne nx : Nat} {τ : xS} (h : AA c nr nc nl nm ne nx τ) : Wx ne nx τ := Ro_Wx h.2.2.2.2.2.1 h.2.2.2.2.2.2 h.1.2.2.2.2.1 h.1.2.2.2.2.2.1
theorem PP.z2 {nr nc nl nm ne nx : Nat} {σ : xS} (h : PP nr nc nl nm ne nx σ) : okZ σ 202 := okZ_n h.2.2.2.1.1 (by have := h.1.2.2.1.1; omega)
theorem PP.z3 {nr nc nl nm ne nx : Nat} {σ : xS} (h : PP nr nc nl nm ne nx σ) : okZ σ 203 := okZ_n h.2.2.2.2.1.1 (by have := h.1.2.2.2.1.1; omega)
theorem AA.z2 {c : Int32} {nr nc nl nm ne nx : Nat} {σ : xS} (h : AA c nr nc nl nm ne nx σ) : okZ σ 202 := okZ_n h.2.2.2.1.1 (by have := h.1.2.2.1.1; omega)
theorem AA.z3 {c : Int32} {nr nc nl nm ne nx : Nat} {σ : xS} (h : AA c nr nc nl nm ne nx σ) : okZ σ 203 := okZ_n h.2.2.2.2.1.1 (by have := h.1.2.2.2.1.1; omega)
theorem AA.a1 {c : Int32} {nr nc nl nm ne nx : Nat} {σ : xS} (h : AA c nr nc nl nm ne nx σ) : allI σ = 1 := allI_4 h.2.1
theorem AA.b1 {c : Int32} {nr nc nl nm ne nx : Nat} {σ : xS} (h : AA c nr nc nl nm ne nx σ) : bt (allI σ) 0 = true := by rw [h.a1]; decide
theorem pair_St {g nr nc nl nm ne nx : Nat} {σ τ : xS} (hg : g < 16) (hP : PP nr nc nl nm ne nx σ) (hA : AA (nI g) nr nc nl nm ne nx τ) (ha : ∀ r, 87 ≤ r → r < 94 → τ r = σ r) : St g 0 σ τ := Ro_St hg hP.2.2 hA.2.2 ha
theorem err_c {n m k : Nat} {σ σ0 : xS} (q : Eqc σ σ0) (w : Wx n m σ0) (hk : k < zc (Er σ0) 600) : kndO (insA σ) (nI k) = kndO (insA σ0) (nI k) ∧ elmO (insA σ) (nI k) = elmO (insA σ0) (nI k) ∧ prdO (insA σ) (nI k) = prdO (insA σ0) (nI k) := by
  obtain ⟨q0, q1, q2, rfl⟩ := zc_on 600 k hk
  have e := Er_c q w
  have z : zc (Er σ) q0 = zc (Er σ0) q0 := zc_eq (fun j hj => e j hj) q0 (by omega)
  obtain ⟨a1, a2, a3⟩ := err_at σ0 q1 q2
  obtain ⟨b1, b2, b3⟩ := err_at σ q1 (by rw [e q0 q1]; exact q2)
  rw [z] at b1 b2 b3
  rw [a1, a2, a3, b1, b2, b3, e q0 q1]
  exact ⟨rfl, rfl, rfl⟩
theorem zc_c {n m : Nat} {σ σ0 : xS} (q : Eqc σ σ0) (w : Wx n m σ0) : zc (Er σ) 600 = zc (Er σ0) 600 := zc_eq (fun j hj => Er_c q w j hj) 600 (Nat.le_refl _)
theorem rgt_c {n m : Nat} {σ σ0 : xS} (q : Eqc σ σ0) (w : Wx n m σ0) : rgt σ = rgt σ0 := b_ext (fun i hi => by
  rw [rgt_bt σ hi, rgt_bt σ0 hi, allI_c q, bc_eq (fun j hj => by rw [Er_c q w j hj]) 600 (Nat.le_refl _)])

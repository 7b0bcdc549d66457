/-! What the law's arrays and a checker's rows hold. -/
def rwf (n : Nat) (g : Nat → Int32) : Nat → Int32 := fun j => if j < n then g j else 0
theorem rwf_at {n j : Nat} {g : Nat → Int32} (h : j < n) : rwf n g j = g j := if_pos h
theorem rwf_congr {n : Nat} {g h : Nat → Int32} (e : ∀ j, j < n → g j = h j) : rwf n g = rwf n h := by
  funext j
  unfold rwf
  split
  · rename_i q; exact e j q
  · rfl
theorem rwf_push {n N r : Nat} {g : Nat → Int32} {X : xS} {v : Int32} (hX : X r = rwf n g) (hn : n < N) (hN : N < 2 ^ 31) (hv : v = g n) : vPut X r N (nI n) v r = rwf (n + 1) g := by
  rw [vPut_n hn hN]
  funext j
  by_cases q : j = n
  · rw [q, xw_at, rwf_at (Nat.lt_succ_self n)]; exact hv
  · rw [xw_other q, hX]
    unfold rwf
    by_cases z : j < n
    · rw [if_pos z, if_pos (by omega)]
    · rw [if_neg z, if_neg (by omega)]
theorem rwf_0 (g : Nat → Int32) : rwf 0 g = fun _ => 0 := by
  funext j; exact if_neg (Nat.not_lt_zero j)
def offO (x : Int32) : Int32 := x - x / 16 * 16
def cfgO (x : Int32) : Int32 := cfgI (x / 16) (offO x)
/-- a condition that the checker takes -/
def GC (x : Int32) : Prop := condB (x / 16) (offO x) = true
def tyn (nc : Nat) (x : Int32) : Prop := x = 8 ∨ vp_in x nc
def dtl (f : Nat → Int32) (j : Nat) : Int32 := if f (6 * j) = 1 ∨ f (6 * j) = 2 then -1 else f (6 * j + 2)
def Rc (cf : Int32 → Int32) (n : Nat) (σ : xS) : Prop := σ 201 0 = nI n ∧ σ 15 = rwf n (fun j => cf (σ 89 (j)))
theorem Rc.of {cf : Int32 → Int32} {n : Nat} {σ σ' : xS} (h : Rc cf n σ) (d : ∀ r, r ∈ [201, 15] → σ' r = σ r) (e : El (n) (σ' 89) (σ 89)) : Rc cf n σ' := by
  obtain ⟨h0, h1⟩ := h
  refine ⟨by rw [d 201 (by decide)]; exact h0, ?_⟩
  · rw [d 15 (by decide), h1]; exact (rwf_congr (fun j hj => by rw [e (j) (by omega)])).symm
def Rl (cf : Int32 → Int32) (n : Nat) (σ : xS) : Prop := σ 202 0 = nI n ∧ σ 24 = rwf n (fun j => σ 90 (3 * j)) ∧ σ 26 = rwf n (fun j => σ 90 (3 * j + 1)) ∧ σ 22 = rwf n (fun j => cf (σ 90 (3 * j + 2)))
theorem Rl.of {cf : Int32 → Int32} {n : Nat} {σ σ' : xS} (h : Rl cf n σ) (d : ∀ r, r ∈ [202, 24, 26, 22] → σ' r = σ r) (e : El (3 * n) (σ' 90) (σ 90)) : Rl cf n σ' := by
  obtain ⟨h0, h1, h2, h3⟩ := h
  refine ⟨by rw [d 202 (by decide)]; exact h0, ?_, ?_, ?_⟩
  · rw [d 24 (by decide), h1]; exact (rwf_congr (fun j hj => by rw [e (3 * j) (by omega)])).symm
  · rw [d 26 (by decide), h2]; exact (rwf_congr (fun j hj => by rw [e (3 * j + 1) (by omega)])).symm
  · rw [d 22 (by decide), h3]; exact (rwf_congr (fun j hj => by rw [e (3 * j + 2) (by omega)])).symm
def Rm (cf : Int32 → Int32) (n : Nat) (σ : xS) : Prop := σ 203 0 = nI n ∧ σ 36 = rwf n (fun j => σ 91 (7 * j + 3)) ∧ σ 38 = rwf n (fun j => σ 91 (7 * j)) ∧ σ 40 = rwf n (fun j => σ 91 (7 * j + 1)) ∧ σ 42 = rwf n (fun j => σ 91 (7 * j + 2)) ∧ σ 44 = rwf n (fun j => σ 91 (7 * j + 4)) ∧ σ 46 = rwf n (fun j => σ 91 (7 * j + 5)) ∧ σ 34 = rwf n (fun j => cf (σ 91 (7 * j + 6)))
theorem Rm.of {cf : Int32 → Int32} {n : Nat} {σ σ' : xS} (h : Rm cf n σ) (d : ∀ r, r ∈ [203, 36, 38, 40, 42, 44, 46, 34] → σ' r = σ r) (e : El (7 * n) (σ' 91) (σ 91)) : Rm cf n σ' := by
  obtain ⟨h0, h1, h2, h3, h4, h5, h6, h7⟩ := h
  refine ⟨by rw [d 203 (by decide)]; exact h0, ?_, ?_, ?_, ?_, ?_, ?_, ?_⟩
  · rw [d 36 (by decide), h1]; exact (rwf_congr (fun j hj => by rw [e (7 * j + 3) (by omega)])).symm
  · rw [d 38 (by decide), h2]; exact (rwf_congr (fun j hj => by rw [e (7 * j) (by omega)])).symm
  · rw [d 40 (by decide), h3]; exact (rwf_congr (fun j hj => by rw [e (7 * j + 1) (by omega)])).symm
  · rw [d 42 (by decide), h4]; exact (rwf_congr (fun j hj => by rw [e (7 * j + 2) (by omega)])).symm
  · rw [d 44 (by decide), h5]; exact (rwf_congr (fun j hj => by rw [e (7 * j + 4) (by omega)])).symm
  · rw [d 46 (by decide), h6]; exact (rwf_congr (fun j hj => by rw [e (7 * j + 5) (by omega)])).symm
  · rw [d 34 (by decide), h7]; exact (rwf_congr (fun j hj => by rw [e (7 * j + 6) (by omega)])).symm
def Re (n : Nat) (σ : xS) : Prop := σ 205 0 = nI n ∧ σ 49 = rwf n (fun j => σ 92 (6 * j)) ∧ σ 51 = rwf n (fun j => σ 92 (6 * j + 1)) ∧ σ 53 = rwf n (fun j => dtl (σ 92) j) ∧ σ 55 = rwf n (fun j => σ 92 (6 * j + 3)) ∧ σ 57 = rwf n (fun j => σ 92 (6 * j + 4)) ∧ σ 59 = rwf n (fun j => σ 92 (6 * j + 5))
theorem Re.of {n : Nat} {σ σ' : xS} (h : Re n σ) (d : ∀ r, r ∈ [205, 49, 51, 53, 55, 57, 59] → σ' r = σ r) (e : El (6 * n) (σ' 92) (σ 92)) : Re n σ' := by
  obtain ⟨h0, h1, h2, h3, h4, h5, h6⟩ := h
  refine ⟨by rw [d 205 (by decide)]; exact h0, ?_, ?_, ?_, ?_, ?_, ?_⟩
  · rw [d 49 (by decide), h1]; exact (rwf_congr (fun j hj => by rw [e (6 * j) (by omega)])).symm
  · rw [d 51 (by decide), h2]; exact (rwf_congr (fun j hj => by rw [e (6 * j + 1) (by omega)])).symm
  · rw [d 53 (by decide), h3]; exact (rwf_congr (fun j hj => by unfold dtl; rw [e (6 * j) (by omega), e (6 * j + 2) (by omega)])).symm
  · rw [d 55 (by decide), h4]; exact (rwf_congr (fun j hj => by rw [e (6 * j + 3) (by omega)])).symm
  · rw [d 57 (by decide), h5]; exact (rwf_congr (fun j hj => by rw [e (6 * j + 4) (by omega)])).symm
  · rw [d 59 (by decide), h6]; exact (rwf_congr (fun j hj => by rw [e (6 * j + 5) (by omega)])).symm
def Rx (cf : Int32 → Int32) (n : Nat) (σ : xS) : Prop := σ 204 0 = nI n ∧ σ 68 = rwf n (fun j => σ 93 (2 * j)) ∧ σ 66 = rwf n (fun j => cf (σ 93 (2 * j + 1)))
theorem Rx.of {cf : Int32 → Int32} {n : Nat} {σ σ' : xS} (h : Rx cf n σ) (d : ∀ r, r ∈ [204, 68, 66] → σ' r = σ r) (e : El (2 * n) (σ' 93) (σ 93)) : Rx cf n σ' := by
  obtain ⟨h0, h1, h2⟩ := h
  refine ⟨by rw [d 204 (by decide)]; exact h0, ?_, ?_⟩
  · rw [d 68 (by decide), h1]; exact (rwf_congr (fun j hj => by rw [e (2 * j) (by omega)])).symm
  · rw [d 66 (by decide), h2]; exact (rwf_congr (fun j hj => by rw [e (2 * j + 1) (by omega)])).symm
def Rr (n : Nat) (σ : xS) : Prop := σ 200 0 = nI n ∧ ∀ k, k < n → σ 3 k = σ 88 (3 * k) ∧ σ 5 k = σ 88 (3 * k + 1) ∧ σ 7 k = σ 88 (3 * k + 2)
theorem Rr.of {n : Nat} {σ σ' : xS} (h : Rr n σ) (d : ∀ r, r ∈ [200, 3, 5, 7] → σ' r = σ r) (e : El (3 * n) (σ' 88) (σ 88)) : Rr n σ' := by
  refine ⟨by rw [d 200 (by decide)]; exact h.1, fun k hk => ?_⟩
  rw [d 3 (by decide), d 5 (by decide), d 7 (by decide), e _ (by omega), e _ (by omega), e _ (by omega)]
  exact h.2 k hk
/-! What the arrays hold. -/
def Ar (n : Nat) (σ : xS) : Prop := n ≤ 4 ∧ ∀ k, k < n → (σ 88 (3 * k) = 0 ∨ σ 88 (3 * k) = 1) ∧ vp_in (σ 88 (3 * k + 1)) 4 ∧ vp_in (σ 88 (3 * k + 2)) 4
def Ac (n : Nat) (σ : xS) : Prop := n ≤ 4 ∧ ∀ k, k < n → GC (σ 89 k)
def Al (nc n : Nat) (σ : xS) : Prop := n ≤ 4 ∧ ∀ k, k < n → vp_in (σ 90 (3 * k)) nc ∧ vp_in (σ 90 (3 * k + 1)) nc ∧ GC (σ 90 (3 * k + 2))
def MV (nc : Nat) (a0 a1 a2 a3 a4 a5 a6 : Int32) : Prop := vp_in a0 nc ∧ vp_in a1 10 ∧ tyn nc a2 ∧ (a3 = 0 ∨ a3 = 1) ∧ (a4 = -1 ∨ tyn nc a4) ∧ (a5 = -1 ∨ tyn nc a5) ∧ (a4 = -1 → a5 = -1) ∧ (a3 = 0 → a4 = -1 ∧ a5 = -1) ∧ GC a6
def Am (nc n : Nat) (σ : xS) : Prop := n ≤ 7 ∧ ∀ k, k < n → MV nc (σ 91 (7 * k)) (σ 91 (7 * k + 1)) (σ 91 (7 * k + 2)) (σ 91 (7 * k + 3)) (σ 91 (7 * k + 4)) (σ 91 (7 * k + 5)) (σ 91 (7 * k + 6))
/-- expression k; M: the members' array, F: the expressions' -/
def prt (F : Nat → Int32) (k : Nat) (x m : Int32) : Prop := x = -1 ∨ ∃ j, j < k ∧ x = nI j ∧ F (6 * j + 1) = m
def EV (nc nm : Nat) (M F : Nat → Int32) (k : Nat) (e0 e1 e2 e3 e4 e5 : Int32) : Prop :=
  (∃ m, m < nm ∧ e1 = nI m ∧ M (7 * m + 3) = 1 ∧ (e0 = 3 → (e2 = 0 ∧ ¬ M (7 * m + 4) = -1) ∨ (e2 = 1 ∧ ¬ M (7 * m + 5) = -1))) ∧ ((e0 = 0 ∨ e0 = 1 ∨ e0 = 2 ∨ e0 = 3) ∨ (e0 = 4 ∨ e0 = 5)) ∧ (e0 = 0 → vp_in e2 nc) ∧ ((e0 = 4 ∨ e0 = 5) → vp_in e2 10 ∧ ¬ e3 = -1) ∧ (¬ (e0 = 4 ∨ e0 = 5) → e3 = -1) ∧ prt F k e3 e1 ∧ prt F k e4 e1 ∧ prt F k e5 e1 ∧ (e4 = -1 → e5 = -1) ∧ (¬ e0 = 5 → e4 = -1 ∧ e5 = -1)
def Ae (nc nm n : Nat) (σ : xS) : Prop := n ≤ 14 ∧ ∀ k, k < n → EV nc nm (σ 91) (σ 92) k (σ 92 (6 * k)) (σ 92 (6 * k + 1)) (σ 92 (6 * k + 2)) (σ 92 (6 * k + 3)) (σ 92 (6 * k + 4)) (σ 92 (6 * k + 5))
def Ax (ne n : Nat) (σ : xS) : Prop := n ≤ 6 ∧ ∀ k, k < n → (∃ j, j < ne ∧ σ 93 (2 * k) = nI j) ∧ GC (σ 93 (2 * k + 1))
theorem Ar.of {n : Nat} {σ σ' : xS} (h : Ar n σ) (e : El (3 * n) (σ' 88) (σ 88)) : Ar n σ' := ⟨h.1, fun k hk => by rw [e _ (by omega), e _ (by omega), e _ (by omega)]; exact h.2 k hk⟩
theorem Ac.of {n : Nat} {σ σ' : xS} (h : Ac n σ) (e : El n (σ' 89) (σ 89)) : Ac n σ' := ⟨h.1, fun k hk => by rw [e _ hk]; exact h.2 k hk⟩
theorem Al.of {nc n : Nat} {σ σ' : xS} (h : Al nc n σ) (e : El (3 * n) (σ' 90) (σ 90)) : Al nc n σ' := ⟨h.1, fun k hk => by rw [e _ (by omega), e _ (by omega), e _ (by omega)]; exact h.2 k hk⟩
theorem Am.of {nc n : Nat} {σ σ' : xS} (h : Am nc n σ) (e : El (7 * n) (σ' 91) (σ 91)) : Am nc n σ' := ⟨h.1, fun k hk => by rw [e _ (by omega), e _ (by omega), e _ (by omega), e _ (by omega), e _ (by omega), e _ (by omega), e _ (by omega)]; exact h.2 k hk⟩
theorem prt.of {F G : Nat → Int32} {k : Nat} {x m : Int32} (h : prt F k x m) (e : El (6 * k) G F) : prt G k x m := h.imp id (fun ⟨j, j1, j2, j3⟩ => ⟨j, j1, j2, by rw [e _ (by omega)]; exact j3⟩)
theorem EV.of {nc nm k : Nat} {M F M' F' : Nat → Int32} {e0 e1 e2 e3 e4 e5 : Int32} (h : EV nc nm M F k e0 e1 e2 e3 e4 e5) (eM : El (7 * nm) M' M) (eF : El (6 * k) F' F) : EV nc nm M' F' k e0 e1 e2 e3 e4 e5 := by
  obtain ⟨⟨m, m1, m2, m3, m4⟩, h2, h3, h4, h5, h6, h7, h8, h9⟩ := h
  exact ⟨⟨m, m1, m2, by rw [eM _ (by omega)]; exact m3, by rw [eM _ (by omega), eM _ (by omega)]; exact m4⟩, h2, h3, h4, h5, h6.of eF, h7.of eF, h8.of eF, h9⟩
theorem Ae.of {nc nm n : Nat} {σ σ' : xS} (h : Ae nc nm n σ) (eM : El (7 * nm) (σ' 91) (σ 91)) (e : El (6 * n) (σ' 92) (σ 92)) : Ae nc nm n σ' := ⟨h.1, fun k hk => by rw [e _ (by omega), e _ (by omega), e _ (by omega), e _ (by omega), e _ (by omega), e _ (by omega)]; exact (h.2 k hk).of eM (fun j hj => e j (by omega))⟩
theorem Ax.of {ne n : Nat} {σ σ' : xS} (h : Ax ne n σ) (e : El (2 * n) (σ' 93) (σ 93)) : Ax ne n σ' := ⟨h.1, fun k hk => by rw [e _ (by omega), e _ (by omega)]; exact h.2 k hk⟩
theorem Ax.up {ne n : Nat} {σ : xS} (h : Ax ne n σ) : Ax (ne + 1) n σ := ⟨h.1, fun k hk => ⟨(h.2 k hk).1.imp (fun _ q => ⟨by omega, q.2⟩), (h.2 k hk).2⟩⟩
theorem El.same {n : Nat} {f g : Nat → Int32} (h : f = g) : El n f g := fun j _ => by rw [h]
theorem El.xw {σ : xS} {r j n : Nat} {x : Int32} (h : n ≤ j) : El n (xw σ r j x r) (σ r) := fun i hi => xw_other (by omega)
theorem El.tr {n : Nat} {f g h : Nat → Int32} (a : El n f g) (b : El n g h) : El n f h := fun j hj => (a j hj).trans (b j hj)
/-! cApp σ 9 8 201 on off -/
theorem Rc_ch (σ : xS) (on off : Int32) : cApp σ 9 8 201 on off = vPut (vPut (vPut (xw σ 201 0 (σ 201 0 + 1)) 11 8 (σ 201 0) on) 13 8 (σ 201 0) off) 15 8 (σ 201 0) (cfgI on off) := rfl
theorem Rc_dif (σ : xS) (on off : Int32) : ∀ r, r ∉ [11, 13, 15, 201] → (cApp σ 9 8 201 on off) r = σ r := by
  intro r hr
  simp only [List.mem_cons, List.not_mem_nil, or_false, not_or] at hr
  obtain ⟨n11, n13, n15, n201⟩ := hr
  rw [Rc_ch, vPut_ne (a := 15) n15, vPut_ne (a := 13) n13, vPut_ne (a := 11) n11, xw_ne (r := 201) _ _ _ n201]
theorem Rc.step {cf : Int32 → Int32} {n : Nat} {σ : xS} (h : Rc cf n σ) (hn : n < 8) {on off : Int32} (v15 : cfgI on off = cf (σ 89 (n))) : Rc cf (n + 1) (cApp σ 9 8 201 on off) := by
  obtain ⟨h0, h15⟩ := h
  have ea : (cApp σ 9 8 201 on off) 89 = σ 89 := Rc_dif σ on off 89 (by decide)
  refine ⟨?_, ?_⟩
  · rw [Rc_ch, vPut_ne (a := 15) (r := 201) (by decide), vPut_ne (a := 13) (r := 201) (by decide), vPut_ne (a := 11) (r := 201) (by decide), xw_at, h0]; exact nI_1 n
  · rw [ea, Rc_ch, h0]
    exact rwf_push (by rw [vPut_ne (a := 13) (r := 15) (by decide), vPut_ne (a := 11) (r := 15) (by decide), xw_ne (r := 201) (a := 15) _ _ _ (by decide)]; exact h15) hn (by decide) v15
/-! vPut (vPut (cApp σ 16 12 202 on off) 24 12 (σ 202 0) o) 26 12 (σ 202 0) q -/
theorem Rl_ch (σ : xS) (o q on off : Int32) : vPut (vPut (cApp σ 16 12 202 on off) 24 12 (σ 202 0) o) 26 12 (σ 202 0) q = vPut (vPut (vPut (vPut (vPut (xw σ 202 0 (σ 202 0 + 1)) 18 12 (σ 202 0) on) 20 12 (σ 202 0) off) 22 12 (σ 202 0) (cfgI on off)) 24 12 (σ 202 0) o) 26 12 (σ 202 0) q := rfl
theorem Rl_dif (σ : xS) (o q on off : Int32) : ∀ r, r ∉ [18, 20, 22, 24, 26, 202] → (vPut (vPut (cApp σ 16 12 202 on off) 24 12 (σ 202 0) o) 26 12 (σ 202 0) q) r = σ r := by
  intro r hr
  simp only [List.mem_cons, List.not_mem_nil, or_false, not_or] at hr
  obtain ⟨n18, n20, n22, n24, n26, n202⟩ := hr
  rw [Rl_ch, vPut_ne (a := 26) n26, vPut_ne (a := 24) n24, vPut_ne (a := 22) n22, vPut_ne (a := 20) n20, vPut_ne (a := 18) n18, xw_ne (r := 202) _ _ _ n202]
theorem Rl.step {cf : Int32 → Int32} {n : Nat} {σ : xS} (h : Rl cf n σ) (hn : n < 12) {o q on off : Int32} (v24 : o = σ 90 (3 * n)) (v26 : q = σ 90 (3 * n + 1)) (v22 : cfgI on off = cf (σ 90 (3 * n + 2))) : Rl cf (n + 1) (vPut (vPut (cApp σ 16 12 202 on off) 24 12 (σ 202 0) o) 26 12 (σ 202 0) q) := by
  obtain ⟨h0, h24, h26, h22⟩ := h
  have ea : (vPut (vPut (cApp σ 16 12 202 on off) 24 12 (σ 202 0) o) 26 12 (σ 202 0) q) 90 = σ 90 := Rl_dif σ o q on off 90 (by decide)
  refine ⟨?_, ?_, ?_, ?_⟩
  · rw [Rl_ch, vPut_ne (a := 26) (r := 202) (by decide), vPut_ne (a := 24) (r := 202) (by decide), vPut_ne (a := 22) (r := 202) (by decide), vPut_ne (a := 20) (r := 202) (by decide), vPut_ne (a := 18) (r := 202) (by decide), xw_at, h0]; exact nI_1 n
  · rw [ea, Rl_ch, h0, vPut_ne (a := 26) (r := 24) (by decide)]
    exact rwf_push (by rw [vPut_ne (a := 22) (r := 24) (by decide), vPut_ne (a := 20) (r := 24) (by decide), vPut_ne (a := 18) (r := 24) (by decide), xw_ne (r := 202) (a := 24) _ _ _ (by decide)]; exact h24) hn (by decide) v24
  · rw [ea, Rl_ch, h0]
    exact rwf_push (by rw [vPut_ne (a := 24) (r := 26) (by decide), vPut_ne (a := 22) (r := 26) (by decide), vPut_ne (a := 20) (r := 26) (by decide), vPut_ne (a := 18) (r := 26) (by decide), xw_ne (r := 202) (a := 26) _ _ _ (by decide)]; exact h26) hn (by decide) v26
  · rw [ea, Rl_ch, h0, vPut_ne (a := 26) (r := 22) (by decide), vPut_ne (a := 24) (r := 22) (by decide)]
    exact rwf_push (by rw [vPut_ne (a := 20) (r := 22) (by decide), vPut_ne (a := 18) (r := 22) (by decide), xw_ne (r := 202) (a := 22) _ _ _ (by decide)]; exact h22) hn (by decide) v22
/-! mTyp (mApp σ so o nn on off) (σ 203 0) t f g -/
theorem Rm_ch (σ : xS) (so o nn t f g on off : Int32) : mTyp (mApp σ so o nn on off) (σ 203 0) t f g = vPut (vPut (vPut (vPut (vPut (vPut (vPut (vPut (vPut (xw σ 203 0 (σ 203 0 + 1)) 30 24 (σ 203 0) on) 32 24 (σ 203 0) off) 34 24 (σ 203 0) (cfgI on off)) 36 24 (σ 203 0) so) 38 24 (σ 203 0) o) 40 24 (σ 203 0) nn) 42 24 (σ 203 0) t) 44 24 (σ 203 0) f) 46 24 (σ 203 0) g := rfl
theorem Rm_dif (σ : xS) (so o nn t f g on off : Int32) : ∀ r, r ∉ [30, 32, 34, 36, 38, 40, 42, 44, 46, 203] → (mTyp (mApp σ so o nn on off) (σ 203 0) t f g) r = σ r := by
  intro r hr
  simp only [List.mem_cons, List.not_mem_nil, or_false, not_or] at hr
  obtain ⟨n30, n32, n34, n36, n38, n40, n42, n44, n46, n203⟩ := hr
  rw [Rm_ch, vPut_ne (a := 46) n46, vPut_ne (a := 44) n44, vPut_ne (a := 42) n42, vPut_ne (a := 40) n40, vPut_ne (a := 38) n38, vPut_ne (a := 36) n36, vPut_ne (a := 34) n34, vPut_ne (a := 32) n32, vPut_ne (a := 30) n30, xw_ne (r := 203) _ _ _ n203]
theorem Rm.step {cf : Int32 → Int32} {n : Nat} {σ : xS} (h : Rm cf n σ) (hn : n < 24) {so o nn t f g on off : Int32} (v36 : so = σ 91 (7 * n + 3)) (v38 : o = σ 91 (7 * n)) (v40 : nn = σ 91 (7 * n + 1)) (v42 : t = σ 91 (7 * n + 2)) (v44 : f = σ 91 (7 * n + 4)) (v46 : g = σ 91 (7 * n + 5)) (v34 : cfgI on off = cf (σ 91 (7 * n + 6))) : Rm cf (n + 1) (mTyp (mApp σ so o nn on off) (σ 203 0) t f g) := by
  obtain ⟨h0, h36, h38, h40, h42, h44, h46, h34⟩ := h
  have ea : (mTyp (mApp σ so o nn on off) (σ 203 0) t f g) 91 = σ 91 := Rm_dif σ so o nn t f g on off 91 (by decide)
  refine ⟨?_, ?_, ?_, ?_, ?_, ?_, ?_, ?_⟩
  · rw [Rm_ch, vPut_ne (a := 46) (r := 203) (by decide), vPut_ne (a := 44) (r := 203) (by decide), vPut_ne (a := 42) (r := 203) (by decide), vPut_ne (a := 40) (r := 203) (by decide), vPut_ne (a := 38) (r := 203) (by decide), vPut_ne (a := 36) (r := 203) (by decide), vPut_ne (a := 34) (r := 203) (by decide), vPut_ne (a := 32) (r := 203) (by decide), vPut_ne (a := 30) (r := 203) (by decide), xw_at, h0]; exact nI_1 n
  · rw [ea, Rm_ch, h0, vPut_ne (a := 46) (r := 36) (by decide), vPut_ne (a := 44) (r := 36) (by decide), vPut_ne (a := 42) (r := 36) (by decide), vPut_ne (a := 40) (r := 36) (by decide), vPut_ne (a := 38) (r := 36) (by decide)]
    exact rwf_push (by rw [vPut_ne (a := 34) (r := 36) (by decide), vPut_ne (a := 32) (r := 36) (by decide), vPut_ne (a := 30) (r := 36) (by decide), xw_ne (r := 203) (a := 36) _ _ _ (by decide)]; exact h36) hn (by decide) v36
  · rw [ea, Rm_ch, h0, vPut_ne (a := 46) (r := 38) (by decide), vPut_ne (a := 44) (r := 38) (by decide), vPut_ne (a := 42) (r := 38) (by decide), vPut_ne (a := 40) (r := 38) (by decide)]
    exact rwf_push (by rw [vPut_ne (a := 36) (r := 38) (by decide), vPut_ne (a := 34) (r := 38) (by decide), vPut_ne (a := 32) (r := 38) (by decide), vPut_ne (a := 30) (r := 38) (by decide), xw_ne (r := 203) (a := 38) _ _ _ (by decide)]; exact h38) hn (by decide) v38
  · rw [ea, Rm_ch, h0, vPut_ne (a := 46) (r := 40) (by decide), vPut_ne (a := 44) (r := 40) (by decide), vPut_ne (a := 42) (r := 40) (by decide)]
    exact rwf_push (by rw [vPut_ne (a := 38) (r := 40) (by decide), vPut_ne (a := 36) (r := 40) (by decide), vPut_ne (a := 34) (r := 40) (by decide), vPut_ne (a := 32) (r := 40) (by decide), vPut_ne (a := 30) (r := 40) (by decide), xw_ne (r := 203) (a := 40) _ _ _ (by decide)]; exact h40) hn (by decide) v40
  · rw [ea, Rm_ch, h0, vPut_ne (a := 46) (r := 42) (by decide), vPut_ne (a := 44) (r := 42) (by decide)]
    exact rwf_push (by rw [vPut_ne (a := 40) (r := 42) (by decide), vPut_ne (a := 38) (r := 42) (by decide), vPut_ne (a := 36) (r := 42) (by decide), vPut_ne (a := 34) (r := 42) (by decide), vPut_ne (a := 32) (r := 42) (by decide), vPut_ne (a := 30) (r := 42) (by decide), xw_ne (r := 203) (a := 42) _ _ _ (by decide)]; exact h42) hn (by decide) v42
  · rw [ea, Rm_ch, h0, vPut_ne (a := 46) (r := 44) (by decide)]
    exact rwf_push (by rw [vPut_ne (a := 42) (r := 44) (by decide), vPut_ne (a := 40) (r := 44) (by decide), vPut_ne (a := 38) (r := 44) (by decide), vPut_ne (a := 36) (r := 44) (by decide), vPut_ne (a := 34) (r := 44) (by decide), vPut_ne (a := 32) (r := 44) (by decide), vPut_ne (a := 30) (r := 44) (by decide), xw_ne (r := 203) (a := 44) _ _ _ (by decide)]; exact h44) hn (by decide) v44
  · rw [ea, Rm_ch, h0]
    exact rwf_push (by rw [vPut_ne (a := 44) (r := 46) (by decide), vPut_ne (a := 42) (r := 46) (by decide), vPut_ne (a := 40) (r := 46) (by decide), vPut_ne (a := 38) (r := 46) (by decide), vPut_ne (a := 36) (r := 46) (by decide), vPut_ne (a := 34) (r := 46) (by decide), vPut_ne (a := 32) (r := 46) (by decide), vPut_ne (a := 30) (r := 46) (by decide), xw_ne (r := 203) (a := 46) _ _ _ (by decide)]; exact h46) hn (by decide) v46
  · rw [ea, Rm_ch, h0, vPut_ne (a := 46) (r := 34) (by decide), vPut_ne (a := 44) (r := 34) (by decide), vPut_ne (a := 42) (r := 34) (by decide), vPut_ne (a := 40) (r := 34) (by decide), vPut_ne (a := 38) (r := 34) (by decide), vPut_ne (a := 36) (r := 34) (by decide)]
    exact rwf_push (by rw [vPut_ne (a := 32) (r := 34) (by decide), vPut_ne (a := 30) (r := 34) (by decide), xw_ne (r := 203) (a := 34) _ _ _ (by decide)]; exact h34) hn (by decide) v34
/-! vPut (cApp σ 60 16 204 on off) 68 16 (σ 204 0) x -/
theorem Rx_ch (σ : xS) (x on off : Int32) : vPut (cApp σ 60 16 204 on off) 68 16 (σ 204 0) x = vPut (vPut (vPut (vPut (xw σ 204 0 (σ 204 0 + 1)) 62 16 (σ 204 0) on) 64 16 (σ 204 0) off) 66 16 (σ 204 0) (cfgI on off)) 68 16 (σ 204 0) x := rfl
theorem Rx_dif (σ : xS) (x on off : Int32) : ∀ r, r ∉ [62, 64, 66, 68, 204] → (vPut (cApp σ 60 16 204 on off) 68 16 (σ 204 0) x) r = σ r := by
  intro r hr
  simp only [List.mem_cons, List.not_mem_nil, or_false, not_or] at hr
  obtain ⟨n62, n64, n66, n68, n204⟩ := hr
  rw [Rx_ch, vPut_ne (a := 68) n68, vPut_ne (a := 66) n66, vPut_ne (a := 64) n64, vPut_ne (a := 62) n62, xw_ne (r := 204) _ _ _ n204]
theorem Rx.step {cf : Int32 → Int32} {n : Nat} {σ : xS} (h : Rx cf n σ) (hn : n < 16) {x on off : Int32} (v68 : x = σ 93 (2 * n)) (v66 : cfgI on off = cf (σ 93 (2 * n + 1))) : Rx cf (n + 1) (vPut (cApp σ 60 16 204 on off) 68 16 (σ 204 0) x) := by
  obtain ⟨h0, h68, h66⟩ := h
  have ea : (vPut (cApp σ 60 16 204 on off) 68 16 (σ 204 0) x) 93 = σ 93 := Rx_dif σ x on off 93 (by decide)
  refine ⟨?_, ?_, ?_⟩
  · rw [Rx_ch, vPut_ne (a := 68) (r := 204) (by decide), vPut_ne (a := 66) (r := 204) (by decide), vPut_ne (a := 64) (r := 204) (by decide), vPut_ne (a := 62) (r := 204) (by decide), xw_at, h0]; exact nI_1 n
  · rw [ea, Rx_ch, h0]
    exact rwf_push (by rw [vPut_ne (a := 66) (r := 68) (by decide), vPut_ne (a := 64) (r := 68) (by decide), vPut_ne (a := 62) (r := 68) (by decide), xw_ne (r := 204) (a := 68) _ _ _ (by decide)]; exact h68) hn (by decide) v68
  · rw [ea, Rx_ch, h0, vPut_ne (a := 68) (r := 66) (by decide)]
    exact rwf_push (by rw [vPut_ne (a := 64) (r := 66) (by decide), vPut_ne (a := 62) (r := 66) (by decide), xw_ne (r := 204) (a := 66) _ _ _ (by decide)]; exact h66) hn (by decide) v66
/-! the adds of expressions -/
theorem eApp_ch (σ : xS) (k m d : Int32) : eApp σ k m d = vPut (vPut (vPut (vPut (vPut (vPut (xw σ 205 0 (σ 205 0 + 1)) 49 50 (σ 205 0) k) 51 50 (σ 205 0) m) 53 50 (σ 205 0) d) 55 50 (σ 205 0) (-1)) 57 50 (σ 205 0) (-1)) 59 50 (σ 205 0) (-1) := rfl
theorem eApp_dif (σ : xS) (k m d : Int32) : ∀ r, r ∉ [205, 49, 51, 53, 55, 57, 59] → eApp σ k m d r = σ r := by
  intro r hr
  simp only [List.mem_cons, List.not_mem_nil, or_false, not_or] at hr
  obtain ⟨n205, n49, n51, n53, n55, n57, n59⟩ := hr
  rw [eApp_ch, vPut_ne (a := 59) n59, vPut_ne (a := 57) n57, vPut_ne (a := 55) n55, vPut_ne (a := 53) n53, vPut_ne (a := 51) n51, vPut_ne (a := 49) n49, xw_ne (r := 205) _ _ _ n205]
theorem eSet_dif (σ : xS) (i o f s : Int32) : ∀ r, r ∉ [55, 57, 59] → eSet σ i o f s r = σ r := by
  intro r hr
  simp only [List.mem_cons, List.not_mem_nil, or_false, not_or] at hr
  obtain ⟨n55, n57, n59⟩ := hr
  unfold eSet
  rw [vPut_ne (a := 59) n59, vPut_ne (a := 57) n57, vPut_ne (a := 55) n55]
theorem Re.step {n : Nat} {σ : xS} (h : Re n σ) (hn : n < 50) {k m d : Int32} (v49 : k = σ 92 (6 * n)) (v51 : m = σ 92 (6 * n + 1)) (v53 : d = dtl (σ 92) n) (v55 : (-1 : Int32) = σ 92 (6 * n + 3)) (v57 : (-1 : Int32) = σ 92 (6 * n + 4)) (v59 : (-1 : Int32) = σ 92 (6 * n + 5)) : Re (n + 1) (eApp σ k m d) := by
  obtain ⟨h0, h49, h51, h53, h55, h57, h59⟩ := h
  have ea : eApp σ k m d 92 = σ 92 := eApp_dif σ k m d 92 (by decide)
  refine ⟨?_, ?_, ?_, ?_, ?_, ?_, ?_⟩
  · rw [eApp_ch, vPut_ne (a := 59) (r := 205) (by decide), vPut_ne (a := 57) (r := 205) (by decide), vPut_ne (a := 55) (r := 205) (by decide), vPut_ne (a := 53) (r := 205) (by decide), vPut_ne (a := 51) (r := 205) (by decide), vPut_ne (a := 49) (r := 205) (by decide), xw_at, h0]; exact nI_1 n
  · rw [ea, eApp_ch, h0, vPut_ne (a := 59) (r := 49) (by decide), vPut_ne (a := 57) (r := 49) (by decide), vPut_ne (a := 55) (r := 49) (by decide), vPut_ne (a := 53) (r := 49) (by decide), vPut_ne (a := 51) (r := 49) (by decide)]
    exact rwf_push (by rw [xw_ne (r := 205) (a := 49) _ _ _ (by decide)]; exact h49) hn (by decide) v49
  · rw [ea, eApp_ch, h0, vPut_ne (a := 59) (r := 51) (by decide), vPut_ne (a := 57) (r := 51) (by decide), vPut_ne (a := 55) (r := 51) (by decide), vPut_ne (a := 53) (r := 51) (by decide)]
    exact rwf_push (by rw [vPut_ne (a := 49) (r := 51) (by decide), xw_ne (r := 205) (a := 51) _ _ _ (by decide)]; exact h51) hn (by decide) v51
  · rw [ea, eApp_ch, h0, vPut_ne (a := 59) (r := 53) (by decide), vPut_ne (a := 57) (r := 53) (by decide), vPut_ne (a := 55) (r := 53) (by decide)]
    exact rwf_push (by rw [vPut_ne (a := 51) (r := 53) (by decide), vPut_ne (a := 49) (r := 53) (by decide), xw_ne (r := 205) (a := 53) _ _ _ (by decide)]; exact h53) hn (by decide) v53
  · rw [ea, eApp_ch, h0, vPut_ne (a := 59) (r := 55) (by decide), vPut_ne (a := 57) (r := 55) (by decide)]
    exact rwf_push (by rw [vPut_ne (a := 53) (r := 55) (by decide), vPut_ne (a := 51) (r := 55) (by decide), vPut_ne (a := 49) (r := 55) (by decide), xw_ne (r := 205) (a := 55) _ _ _ (by decide)]; exact h55) hn (by decide) v55
  · rw [ea, eApp_ch, h0, vPut_ne (a := 59) (r := 57) (by decide)]
    exact rwf_push (by rw [vPut_ne (a := 55) (r := 57) (by decide), vPut_ne (a := 53) (r := 57) (by decide), vPut_ne (a := 51) (r := 57) (by decide), vPut_ne (a := 49) (r := 57) (by decide), xw_ne (r := 205) (a := 57) _ _ _ (by decide)]; exact h57) hn (by decide) v57
  · rw [ea, eApp_ch, h0]
    exact rwf_push (by rw [vPut_ne (a := 57) (r := 59) (by decide), vPut_ne (a := 55) (r := 59) (by decide), vPut_ne (a := 53) (r := 59) (by decide), vPut_ne (a := 51) (r := 59) (by decide), vPut_ne (a := 49) (r := 59) (by decide), xw_ne (r := 205) (a := 59) _ _ _ (by decide)]; exact h59) hn (by decide) v59
theorem rwf_put2 {n N r : Nat} {g : Nat → Int32} {X Y : xS} {v w : Int32} (hY : X r = vPut Y r N (nI n) w r) (hX : Y r = rwf n g) (hn : n < N) (hN : N < 2 ^ 31) (hv : v = g n) : vPut X r N (nI n) v r = rwf (n + 1) g := by
  rw [vPut_n hn hN]
  rw [vPut_n hn hN] at hY
  funext j
  by_cases q : j = n
  · rw [q, xw_at, rwf_at (Nat.lt_succ_self n)]; exact hv
  · rw [xw_other q, hY, xw_other q, hX]
    unfold rwf
    by_cases z : j < n
    · rw [if_pos z, if_pos (by omega)]
    · rw [if_neg z, if_neg (by omega)]
theorem Re.step2 {n : Nat} {σ : xS} (h : Re n σ) (hn : n < 50) {k m d o f s : Int32} (v49 : k = σ 92 (6 * n)) (v51 : m = σ 92 (6 * n + 1)) (v53 : d = dtl (σ 92) n) (v55 : o = σ 92 (6 * n + 3)) (v57 : f = σ 92 (6 * n + 4)) (v59 : s = σ 92 (6 * n + 5)) : Re (n + 1) (eSet (eApp σ k m d) (σ 205 0) o f s) := by
  obtain ⟨h0, h49, h51, h53, h55, h57, h59⟩ := h
  have ea : eSet (eApp σ k m d) (σ 205 0) o f s 92 = σ 92 := (eSet_dif _ _ _ _ _ 92 (by decide)).trans (eApp_dif σ k m d 92 (by decide))
  refine ⟨?_, ?_, ?_, ?_, ?_, ?_, ?_⟩
  · rw [eSet_dif _ _ _ _ _ 205 (by decide), eApp_ch, vPut_ne (a := 59) (r := 205) (by decide), vPut_ne (a := 57) (r := 205) (by decide), vPut_ne (a := 55) (r := 205) (by decide), vPut_ne (a := 53) (r := 205) (by decide), vPut_ne (a := 51) (r := 205) (by decide), vPut_ne (a := 49) (r := 205) (by decide), xw_at, h0]; exact nI_1 n
  · rw [ea, eSet_dif _ _ _ _ _ 49 (by decide), eApp_ch, h0, vPut_ne (a := 59) (r := 49) (by decide), vPut_ne (a := 57) (r := 49) (by decide), vPut_ne (a := 55) (r := 49) (by decide), vPut_ne (a := 53) (r := 49) (by decide), vPut_ne (a := 51) (r := 49) (by decide)]
    exact rwf_push (by rw [xw_ne (r := 205) (a := 49) _ _ _ (by decide)]; exact h49) hn (by decide) v49
  · rw [ea, eSet_dif _ _ _ _ _ 51 (by decide), eApp_ch, h0, vPut_ne (a := 59) (r := 51) (by decide), vPut_ne (a := 57) (r := 51) (by decide), vPut_ne (a := 55) (r := 51) (by decide), vPut_ne (a := 53) (r := 51) (by decide)]
    exact rwf_push (by rw [vPut_ne (a := 49) (r := 51) (by decide), xw_ne (r := 205) (a := 51) _ _ _ (by decide)]; exact h51) hn (by decide) v51
  · rw [ea, eSet_dif _ _ _ _ _ 53 (by decide), eApp_ch, h0, vPut_ne (a := 59) (r := 53) (by decide), vPut_ne (a := 57) (r := 53) (by decide), vPut_ne (a := 55) (r := 53) (by decide)]
    exact rwf_push (by rw [vPut_ne (a := 51) (r := 53) (by decide), vPut_ne (a := 49) (r := 53) (by decide), xw_ne (r := 205) (a := 53) _ _ _ (by decide)]; exact h53) hn (by decide) v53
  · rw [ea, h0]
    unfold eSet
    rw [vPut_ne (a := 59) (r := 55) (by decide), vPut_ne (a := 57) (r := 55) (by decide)]
    exact rwf_put2 (by rw [eApp_ch, h0, vPut_ne (a := 59) (r := 55) (by decide), vPut_ne (a := 57) (r := 55) (by decide)]) (by rw [vPut_ne (a := 53) (r := 55) (by decide), vPut_ne (a := 51) (r := 55) (by decide), vPut_ne (a := 49) (r := 55) (by decide), xw_ne (r := 205) (a := 55) _ _ _ (by decide)]; exact h55) hn (by decide) v55
  · rw [ea, h0]
    unfold eSet
    rw [vPut_ne (a := 59) (r := 57) (by decide)]
    exact rwf_put2 (by rw [vPut_ne (a := 55) (r := 57) (by decide), eApp_ch, h0, vPut_ne (a := 59) (r := 57) (by decide)]) (by rw [vPut_ne (a := 55) (r := 57) (by decide), vPut_ne (a := 53) (r := 57) (by decide), vPut_ne (a := 51) (r := 57) (by decide), vPut_ne (a := 49) (r := 57) (by decide), xw_ne (r := 205) (a := 57) _ _ _ (by decide)]; exact h57) hn (by decide) v57
  · rw [ea, h0]
    unfold eSet
    exact rwf_put2 (by rw [vPut_ne (a := 57) (r := 59) (by decide), vPut_ne (a := 55) (r := 59) (by decide), eApp_ch, h0]) (by rw [vPut_ne (a := 57) (r := 59) (by decide), vPut_ne (a := 55) (r := 59) (by decide), vPut_ne (a := 53) (r := 59) (by decide), vPut_ne (a := 51) (r := 59) (by decide), vPut_ne (a := 49) (r := 59) (by decide), xw_ne (r := 205) (a := 59) _ _ _ (by decide)]; exact h59) hn (by decide) v59
theorem rApp_dif (σ : xS) (a b c : Int32) : ∀ r, r ∉ [200, 3, 5, 7] → rApp σ a b c r = σ r := by
  intro r hr
  simp only [List.mem_cons, List.not_mem_nil, or_false, not_or] at hr
  obtain ⟨n200, n3, n5, n7⟩ := hr
  unfold rApp
  rw [xw_ne (r := 200) _ _ _ n200, vPut_ne (a := 7) n7, vPut_ne (a := 5) n5, vPut_ne (a := 3) n3]
theorem Rr.step {n : Nat} {σ : xS} (h : Rr n σ) (hn : n < 8) {a b c : Int32} (va : a = σ 88 (3 * n)) (vb : b = σ 88 (3 * n + 1)) (vc : c = σ 88 (3 * n + 2)) : Rr (n + 1) (rApp σ a b c) := by
  obtain ⟨h0, h1⟩ := h
  have ea : rApp σ a b c 88 = σ 88 := rApp_dif σ a b c 88 (by decide)
  unfold Rr
  rw [ea]
  unfold rApp
  rw [h0]
  refine ⟨by rw [xw_at]; exact nI_1 n, fun k hk => ?_⟩
  rw [xw_ne (r := 200) (a := 3) _ _ _ (by decide), xw_ne (r := 200) (a := 5) _ _ _ (by decide), xw_ne (r := 200) (a := 7) _ _ _ (by decide), vPut_n (a := 7) hn (by decide), xw_ne (r := 7) (a := 3) _ _ _ (by decide), xw_ne (r := 7) (a := 5) _ _ _ (by decide), vPut_n (a := 5) hn (by decide), xw_ne (r := 5) (a := 3) _ _ _ (by decide), vPut_n (a := 3) hn (by decide)]
  by_cases q : k = n
  · subst q; rw [xw_at, xw_at, xw_at]; exact ⟨va, vb, vc⟩
  · rw [xw_other q, xw_other q, xw_other q, xw_ne (r := 3) (a := 5) _ _ _ (by decide), xw_ne (r := 5) (a := 7) _ _ _ (by decide), xw_ne (r := 3) (a := 7) _ _ _ (by decide)]; exact h1 k (by omega)

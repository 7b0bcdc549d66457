/-! Pure mathematics: places, numbers, loops. -/
theorem vAt_n {n j : Nat} {f : Nat → Int32} (h : j < n) (hn : n < 2 ^ 31) : vAt n f (nI j) = f j := by
  unfold vAt
  rw [if_pos ⟨nI_pos (by omega), nI_ge h hn⟩, nI_clamp (by omega)]
theorem vAt_m {n : Nat} {f : Nat → Int32} : vAt n f (-1) = -1 := by
  unfold vAt
  exact if_neg (fun h => h.1 (by decide))
theorem vPut_n {σ : xS} {a n j : Nat} {v : Int32} (h : j < n) (hn : n < 2 ^ 31) : vPut σ a n (nI j) v = xw σ a j v := by
  unfold vPut
  rw [if_pos ⟨nI_pos (by omega), nI_ge h hn⟩, nI_clamp (by omega)]
theorem vFill_at {σ : xS} {a n j : Nat} {v : Int32} (h : j < n) : vFill σ a n v a j = v := by simp [vFill, h]
theorem xw_other {σ : xS} {r j b : Nat} {x : Int32} (h : b ≠ j) : xw σ r j x r b = σ r b := by simp [xw, h]
theorem vp_ex {x : Int32} {n : Nat} (h : vp_in x n) : ∃ j, j < n ∧ x = nI j := ⟨_, vp_cl h, vp_nI h⟩
theorem ixA (a s i : Nat) : nI a * nI s + nI i = nI (a * s + i) := by rw [pk_mul, nI_add]
theorem ixC (a s i : Nat) (h : a * s + i < 2 ^ 31) : (nI a * nI s + nI i).toNatClampNeg = a * s + i := by rw [ixA, nI_clamp h]
theorem nI_neg1 {k : Nat} (h : k < 2 ^ 31) : ¬ nI k = -1 := fun e => nI_pos h (by rw [e]; decide)
theorem and_sub (c o : Int32) : (c &&& o = o) ↔ (o &&& (c ^^^ (-1)) = 0) := by
  constructor
  · intro h
    refine b_ext (fun i hi => ?_)
    have h1 := congrArg (fun z => bt z i) h
    simp only [b_and] at h1
    rw [b_and, b_xor, b_m1 i hi, b_0]
    revert h1
    cases bt c i <;> cases bt o i <;> decide
  · intro h
    refine b_ext (fun i hi => ?_)
    have h1 := congrArg (fun z => bt z i) h
    simp only [b_and, b_xor, b_m1 i hi, b_0] at h1
    rw [b_and]
    revert h1
    cases bt c i <;> cases bt o i <;> decide
theorem cfg_bt {on off : Int32} {p : Nat} (hp : p < 16) : bt (cfgI on off) p = (decide (on &&& (nI p ^^^ (-1)) = 0) && decide (off &&& nI p = 0)) := by
  unfold cfgI
  rw [maskI_bt _ (by omega) 16 (by decide), decide_eq_true hp, Bool.true_and]
  unfold cfgB
  rw [decide_eq_decide.mpr (and_sub (nI p) on), Int32.and_comm (nI p) off]
theorem cfg_big {on off : Int32} {p : Nat} (hp : 16 ≤ p) : bt (cfgI on off) p = false := by
  by_cases h : p < 32
  · unfold cfgI
    rw [maskI_bt _ h 16 (by decide), decide_eq_false (by omega)]; rfl
  · exact b_big (by omega)
theorem isIn_mHas {s x : Int32} (h : vp_in x 32) : isInB s x = mHas s x := by
  obtain ⟨i, hi, rfl⟩ := vp_ex h
  rw [isIn_bt hi, mHas_bt hi]
theorem isIn_out {s x : Int32} (h : ¬ vp_in x 32) : isInB s x = false := by
  unfold isInB
  by_cases h1 : x < 0
  · simp [h1]
  · by_cases h2 : (32 : Int32) ≤ x
    · simp [h2]
    · exact absurd (vp_in_of2 (n := 32) (by decide) h1 h2) h
/-! the first place, from behind -/
def firstE (P : Nat → Bool) (v : Nat → Int32) (z : Int32) : Nat → Nat → Int32
  | 0, _ => z
  | d + 1, k => if P k = true then v k else firstE P v z d (k + 1)
theorem firstE_N (P : Nat → Bool) (v : Nat → Int32) : ∀ d k, firstE P v (-1) d k = firstN P v d k
  | 0, _ => rfl
  | d + 1, k => by rw [firstE, firstN, firstE_N P v d]
theorem firstE_last (P : Nat → Bool) (v : Nat → Int32) (z : Int32) : ∀ d k, firstE P v z (d + 1) k = firstE P v (if P (k + d) = true then v (k + d) else z) d k
  | 0, k => by simp [firstE]
  | d + 1, k => by
    rw [firstE, firstE_last P v z d (k + 1), firstE, show k + 1 + d = k + (d + 1) by omega]
theorem down_first {f : xS → Int32 → xS} {r q : Nat} {P : Nat → Bool} {v : Nat → Int32} (J : xS → Prop) (n : Nat) (hJ : ∀ τ k, k < n → J τ → J (f τ (nI k))) (hs : ∀ τ k, k < n → J τ → f τ (nI k) r q = if P k = true then v k else τ r q) : ∀ k τ, k ≤ n → J τ → downN f k τ r q = firstE P v (τ r q) k 0
  | 0, τ, _, _ => rfl
  | k + 1, τ, hk, h => by
    rw [downN, down_first J n hJ hs k _ (by omega) (hJ τ k (by omega) h), hs τ k (by omega) h, firstE_last, Nat.zero_add]
theorem firstN_congr {P Q : Nat → Bool} {v w : Nat → Int32} : ∀ d k, (∀ j, k ≤ j → j < k + d → P j = Q j ∧ (P j = true → v j = w j)) → firstN P v d k = firstN Q w d k
  | 0, _, _ => rfl
  | d + 1, k, h => by
    have h0 := h k (Nat.le_refl k) (by omega)
    rw [firstN, firstN, ← h0.1, firstN_congr d (k + 1) (fun j h1 h2 => h j (by omega) (by omega))]
    by_cases hp : P k = true
    · rw [if_pos hp, if_pos hp, h0.2 hp]
    · rw [if_neg hp, if_neg hp]
/-! What the two programs hold: the class's rows and the reference's arrays. -/
abbrev cnt (σ : xS) (s : Nat) : Nat := (σ 91 s).toNatClampNeg
abbrev nEx (σ : xS) : Nat := (σ 210 0).toNatClampNeg
abbrev nRu (σ : xS) : Nat := (σ 209 0).toNatClampNeg
def tyk (c : Nat) (x : Int32) : Prop := x = 8 ∨ vp_in x c
def Scn (σ : xS) (s b n q : Nat) : Prop := σ q 0 = σ 91 s ∧ (∀ j, j < n → σ (b + 2) j = σ 92 (24 * s + j)) ∧ (∀ j, j < n → σ (b + 4) j = σ 93 (24 * s + j)) ∧ (∀ j, j < cnt σ s → σ (b + 6) j = cfgI (σ 92 (24 * s + j)) (σ 93 (24 * s + j)))
def Wu (n : Nat) (f g : Nat → Int32) : Prop := ∀ j, j < n → vp_in (f j) 4 ∧ vp_in (g j) 4
def Wl (n c : Nat) (f g : Nat → Int32) : Prop := ∀ j, j < n → vp_in (f j) c ∧ vp_in (g j) c
def Wm (n c : Nat) (so ow na ty pa : Nat → Int32) : Prop := ∀ j, j < n → (so j = 0 ∨ so j = 1) ∧ vp_in (ow j) c ∧ vp_in (na j) 10 ∧ tyk c (ty j) ∧ (pa (2 * j) = -1 ∨ tyk c (pa (2 * j))) ∧ (pa (2 * j + 1) = -1 ∨ tyk c (pa (2 * j + 1))) ∧ (pa (2 * j) = -1 → pa (2 * j + 1) = -1)
def We (n c m : Nat) (so fo me wh pt : Nat → Int32) : Prop := ∀ j, j < n → vp_in (me j) m ∧ so (me j).toNatClampNeg = 1 ∧ vp_in (fo j) 6 ∧ (fo j = 0 → vp_in (wh j) c) ∧ (fo j = 3 → vp_in (wh j) 2) ∧ (fo j = 4 ∨ fo j = 5 → vp_in (wh j) 10 ∧ ¬ pt (3 * j) = -1) ∧ (∀ k, k < 3 → pt (3 * j + k) = -1 ∨ (vp_in (pt (3 * j + k)) j ∧ me (pt (3 * j + k)).toNatClampNeg = me j)) ∧ (¬ fo j = 4 → ¬ fo j = 5 → ∀ k, k < 3 → pt (3 * j + k) = -1)
def Wr (n e : Nat) (f : Nat → Int32) : Prop := ∀ j, j < n → vp_in (f j) e
/-- the rows of the members and of the expressions -/
def Qa (σ : xS) : Prop := (σ 3 = σ 88 ∧ σ 5 = σ 89 ∧ σ 7 = σ 90 ∧ σ 24 = σ 94 ∧ σ 26 = σ 95 ∧ σ 36 = σ 96 ∧ σ 38 = σ 97 ∧ σ 40 = σ 98 ∧ σ 42 = σ 99 ∧ σ 68 = σ 101 ∧ σ 49 = σ 102 ∧ σ 51 = σ 103) ∧ (∀ j, j < 24 → σ 44 j = σ 100 (2 * j)) ∧ (∀ j, j < 24 → σ 46 j = σ 100 (2 * j + 1)) ∧ (∀ j, j < 50 → ¬ σ 102 j = 1 → ¬ σ 102 j = 2 → σ 53 j = σ 104 j) ∧ (∀ j, j < 50 → σ 55 j = σ 105 (3 * j)) ∧ (∀ j, j < 50 → σ 57 j = σ 105 (3 * j + 1)) ∧ (∀ j, j < 50 → σ 59 j = σ 105 (3 * j + 2))
def Qn (σ : xS) : Prop := σ 200 0 = σ 209 0 ∧ σ 205 0 = σ 210 0
def Qw (σ : xS) : Prop := Wu (nRu σ) (σ 89) (σ 90) ∧ Wl (cnt σ 1) (cnt σ 0) (σ 94) (σ 95) ∧ Wm (cnt σ 2) (cnt σ 0) (σ 96) (σ 97) (σ 98) (σ 99) (σ 100) ∧ We (nEx σ) (cnt σ 0) (cnt σ 2) (σ 96) (σ 102) (σ 103) (σ 104) (σ 105) ∧ Wr (cnt σ 3) (nEx σ) (σ 101)
def Pg (σ : xS) : Prop := mV σ ∧ Qa σ ∧ Qn σ ∧ Qw σ ∧ Scn σ 0 9 8 201 ∧ Scn σ 1 16 12 202 ∧ Scn σ 2 28 24 203 ∧ Scn σ 3 60 16 204
theorem Pg.V {σ : xS} (h : Pg σ) : mV σ := h.1
theorem Pg.A {σ : xS} (h : Pg σ) : Qa σ := h.2.1
theorem Pg.N {σ : xS} (h : Pg σ) : Qn σ := h.2.2.1
theorem Pg.W {σ : xS} (h : Pg σ) : Qw σ := h.2.2.2.1
theorem Pg.C0 {σ : xS} (h : Pg σ) : Scn σ 0 9 8 201 := h.2.2.2.2.1
theorem Pg.C1 {σ : xS} (h : Pg σ) : Scn σ 1 16 12 202 := h.2.2.2.2.2.1
theorem Pg.C2 {σ : xS} (h : Pg σ) : Scn σ 2 28 24 203 := h.2.2.2.2.2.2.1
theorem Pg.C3 {σ : xS} (h : Pg σ) : Scn σ 3 60 16 204 := h.2.2.2.2.2.2.2
theorem Pg.n0 {σ : xS} (h : Pg σ) : σ 91 0 = nI (cnt σ 0) ∧ cnt σ 0 ≤ 8 := mvc0 h.V
theorem Pg.n1 {σ : xS} (h : Pg σ) : σ 91 1 = nI (cnt σ 1) ∧ cnt σ 1 ≤ 12 := mvc1 h.V
theorem Pg.n2 {σ : xS} (h : Pg σ) : σ 91 2 = nI (cnt σ 2) ∧ cnt σ 2 ≤ 24 := mvc2 h.V
theorem Pg.n3 {σ : xS} (h : Pg σ) : σ 91 3 = nI (cnt σ 3) ∧ cnt σ 3 ≤ 16 := mvc3 h.V
theorem Pg.ne {σ : xS} (h : Pg σ) : σ 210 0 = nI (nEx σ) ∧ nEx σ ≤ 50 := mvce h.V
theorem Pg.nr {σ : xS} (h : Pg σ) : σ 209 0 = nI (nRu σ) ∧ nRu σ ≤ 8 := mvcr h.V
theorem Pg.r {σ : xS} (h : Pg σ) : Wu (nRu σ) (σ 89) (σ 90) := h.W.1
theorem Pg.l {σ : xS} (h : Pg σ) : Wl (cnt σ 1) (cnt σ 0) (σ 94) (σ 95) := h.W.2.1
theorem Pg.m {σ : xS} (h : Pg σ) : Wm (cnt σ 2) (cnt σ 0) (σ 96) (σ 97) (σ 98) (σ 99) (σ 100) := h.W.2.2.1
theorem Pg.e {σ : xS} (h : Pg σ) : We (nEx σ) (cnt σ 0) (cnt σ 2) (σ 96) (σ 102) (σ 103) (σ 104) (σ 105) := h.W.2.2.2.1
theorem Pg.x {σ : xS} (h : Pg σ) : Wr (cnt σ 3) (nEx σ) (σ 101) := h.W.2.2.2.2
/-! Products. -/
theorem rBad_eq {σ : xS} (h : Pg σ) (c : Int32) {j : Nat} (hj : j < nRu σ) : rBad σ c j = mRBad σ c j := by
  have hn := h.nr.2
  have w := h.r j hj
  have a := h.A.1
  unfold rBad mRBad
  rw [vAt_n (show j < 8 by omega) (by decide), vAt_n (show j < 8 by omega) (by decide), vAt_n (show j < 8 by omega) (by decide), a.1, a.2.1, a.2.2.1, isIn_mHas (vp_le w.1 (by decide)), isIn_mHas (vp_le w.2 (by decide))]
theorem rKept_eq {σ : xS} (h : Pg σ) {p : Nat} (hp : p < 16) : rKept σ (nI p) = mPr σ (nI p) := by
  unfold rKept mPr
  rw [h.N.1]
  have hi : mIn (nI p) 0 15 = true := by
    unfold mIn
    rw [decide_eq_true (nI_pos (by omega)), decide_eq_true (show ¬ (15 : Int32) < nI p from fun q => absurd ((nI_ltI (a := 15) (by decide) (show p < 2 ^ 31 by omega)).mp q) (by omega))]; rfl
  have hk : ∀ k, k ≤ nRu σ → rKeptN σ (nI p) k = mKN σ (nI p) k := by
    intro k
    induction k with
    | zero => intro _; rw [rKeptN, mKN, hi]
    | succ k ih => intro hk; rw [rKeptN, mKN, ih (by omega), rBad_eq h _ (by omega)]
  exact hk _ (Nat.le_refl _)
theorem allI_eq {σ : xS} (h : Pg σ) : allI σ = mAll σ := maskI_congr (fun _ hi => rKept_eq h hi)
theorem mAll_bt {σ : xS} {p : Nat} (hp : p < 32) : bt (mAll σ) p = (decide (p < 16) && mPr σ (nI p)) := maskI_bt _ hp 16 (by decide)
theorem isAll_eq (σ : xS) (c : Int32) : isInB (mAll σ) c = mPr σ c := by
  by_cases hc : vp_in c 32
  · obtain ⟨p, hp, rfl⟩ := vp_ex hc
    rw [isIn_bt hp, mAll_bt hp]
    by_cases h16 : p < 16
    · rw [decide_eq_true h16, Bool.true_and]
    · rw [decide_eq_false h16, Bool.false_and]
      cases hq : mPr σ (nI p) with
      | false => rfl
      | true => exact absurd (by have := vp_cl (mPr_in hq); rwa [nI_clamp (by omega)] at this) h16
  · rw [isIn_out hc]
    cases hq : mPr σ c with
    | false => rfl
    | true => exact absurd (vp_le (mPr_in hq) (by decide)) hc
theorem isPr_eq {σ : xS} (h : Pg σ) (c : Int32) : isPr σ c = mPr σ c := by
  unfold isPr; rw [allI_eq h]; exact isAll_eq σ c
/-! Where things are there. -/
theorem mIs_0 {σ : xS} {i c : Int32} : mIs σ 0 i c = mMt σ 0 i c := by
  unfold mIs; rw [if_neg (by decide), if_neg (by decide), if_pos rfl]
theorem mIs_1 {σ : xS} {i c : Int32} : mIs σ 1 i c = (mMt σ 1 i c && (mMt σ 0 (σ 94 i.toNatClampNeg) c && mMt σ 0 (σ 95 i.toNatClampNeg) c)) := by
  unfold mIs; rw [if_pos rfl]
theorem mIs_2 {σ : xS} {i c : Int32} : mIs σ 2 i c = mIs2 σ i c := by
  unfold mIs; rw [if_neg (by decide), if_pos rfl]
theorem mIs_3 {σ : xS} {i c : Int32} : mIs σ 3 i c = (mMt σ 3 i c && mIs2 σ (σ 103 (σ 101 i.toNatClampNeg).toNatClampNeg) c) := by
  unfold mIs; rw [if_neg (by decide), if_neg (by decide), if_neg (by decide)]
theorem mMt_n {σ : xS} {s j : Nat} {c : Int32} (h : 24 * s + j < 2 ^ 31) : mMt σ (nI s) (nI j) c = (decide (σ 92 (24 * s + j) &&& (c ^^^ (-1)) = 0) && decide (σ 93 (24 * s + j) &&& c = 0)) := by
  unfold mMt
  have e : ((24 : Int32) * nI s + nI j).toNatClampNeg = 24 * s + j := ixC 24 s j h
  rw [e]
theorem wh_bt {σ : xS} {s b n q : Nat} (h : Scn σ s b n q) (hn : cnt σ s ≤ n) (h24 : n ≤ 24) (h4 : s < 4) {j p : Nat} (hj : j < cnt σ s) (hp : p < 16) : bt (vAt n (σ (b + 6)) (nI j)) p = mMt σ (nI s) (nI j) (nI p) := by
  rw [vAt_n (by omega) (by omega), h.2.2.2 j hj, cfg_bt hp, mMt_n (by omega)]
theorem wT_0 {σ : xS} {i : Int32} : wT σ 0 i = vAt 8 (σ 15) i := by
  unfold wT; rw [if_neg (by decide), if_neg (by decide), if_neg (by decide)]
theorem wT_1 {σ : xS} {i : Int32} : wT σ 1 i = vAt 12 (σ 22) i &&& vAt 8 (σ 15) (vAt 12 (σ 24) i) &&& vAt 8 (σ 15) (vAt 12 (σ 26) i) := by
  unfold wT; rw [if_pos rfl]
theorem wT_2 {σ : xS} {i : Int32} : wT σ 2 i = vAt 24 (σ 34) i &&& vAt 8 (σ 15) (vAt 24 (σ 38) i) := by
  unfold wT; rw [if_neg (by decide), if_pos rfl]
theorem wT_3 {σ : xS} {i : Int32} : wT σ 3 i = vAt 16 (σ 66) i &&& vAt 24 (σ 34) (resM σ i) &&& vAt 8 (σ 15) (vAt 24 (σ 38) (resM σ i)) := by
  unfold wT; rw [if_neg (by decide), if_neg (by decide), if_pos rfl]
theorem wh0 {σ : xS} (h : Pg σ) {x : Int32} (hx : vp_in x (cnt σ 0)) {p : Nat} (hp : p < 16) : bt (vAt 8 (σ 15) x) p = mMt σ 0 x (nI p) := by
  obtain ⟨j, hj, rfl⟩ := vp_ex hx
  exact wh_bt (s := 0) h.C0 h.n0.2 (by decide) (by decide) hj hp
theorem wh2 {σ : xS} (h : Pg σ) {x : Int32} (hx : vp_in x (cnt σ 2)) {p : Nat} (hp : p < 16) : bt (vAt 24 (σ 34) x) p = mMt σ 2 x (nI p) := by
  obtain ⟨j, hj, rfl⟩ := vp_ex hx
  exact wh_bt (s := 2) h.C2 h.n2.2 (by decide) (by decide) hj hp
theorem wT_bt0 {σ : xS} (h : Pg σ) {j p : Nat} (hj : j < cnt σ 0) (hp : p < 16) : bt (wT σ 0 (nI j)) p = mIs σ 0 (nI j) (nI p) := by
  rw [wT_0, mIs_0, wh0 h (vp_in_nI hj (by have := h.n0.2; omega)) hp]
theorem wT_bt1 {σ : xS} (h : Pg σ) {j p : Nat} (hj : j < cnt σ 1) (hp : p < 16) : bt (wT σ 1 (nI j)) p = mIs σ 1 (nI j) (nI p) := by
  have hn := h.n1.2
  have w := h.l j hj
  have e1 : bt (vAt 12 (σ 22) (nI j)) p = mMt σ 1 (nI j) (nI p) := wh_bt (s := 1) h.C1 hn (by decide) (by decide) hj hp
  rw [wT_1, mIs_1, b_and, b_and, e1, nI_clamp (show j < 2 ^ 31 by omega), vAt_n (show j < 12 by omega) (by decide), vAt_n (show j < 12 by omega) (by decide), h.A.1.2.2.2.1, h.A.1.2.2.2.2.1, wh0 h w.1 hp, wh0 h w.2 hp, Bool.and_assoc]
theorem mem_bt {σ : xS} (h : Pg σ) {x : Int32} (hx : vp_in x (cnt σ 2)) {p : Nat} (hp : p < 16) : (bt (vAt 24 (σ 34) x) p && bt (vAt 8 (σ 15) (vAt 24 (σ 38) x)) p) = mIs2 σ x (nI p) := by
  obtain ⟨j, hj, rfl⟩ := vp_ex hx
  have hn := h.n2.2
  have w := h.m j hj
  unfold mIs2
  rw [wh2 h hx hp, nI_clamp (show j < 2 ^ 31 by omega), vAt_n (show j < 24 by omega) (by decide), h.A.1.2.2.2.2.2.2.1, wh0 h w.2.1 hp]
theorem wT_bt2 {σ : xS} (h : Pg σ) {j p : Nat} (hj : j < cnt σ 2) (hp : p < 16) : bt (wT σ 2 (nI j)) p = mIs σ 2 (nI j) (nI p) := by
  rw [wT_2, mIs_2, b_and, mem_bt h (vp_in_nI hj (by have := h.n2.2; omega)) hp]
theorem resM_eq {σ : xS} (h : Pg σ) {j : Nat} (hj : j < cnt σ 3) : resM σ (nI j) = σ 103 (σ 101 j).toNatClampNeg ∧ vp_in (σ 103 (σ 101 j).toNatClampNeg) (cnt σ 2) := by
  have hn := h.n3.2
  have hne := h.ne.2
  have w := h.x j hj
  obtain ⟨e, he, hx⟩ := vp_ex w
  have w2 := h.e e he
  unfold resM
  rw [vAt_n (show j < 16 by omega) (by decide), h.A.1.2.2.2.2.2.2.2.2.2.1, hx, nI_clamp (show e < 2 ^ 31 by omega), vAt_n (show e < 50 by omega) (by decide), h.A.1.2.2.2.2.2.2.2.2.2.2.2]
  exact ⟨rfl, w2.1⟩
theorem wT_bt3 {σ : xS} (h : Pg σ) {j p : Nat} (hj : j < cnt σ 3) (hp : p < 16) : bt (wT σ 3 (nI j)) p = mIs σ 3 (nI j) (nI p) := by
  have hn := h.n3.2
  have e1 : bt (vAt 16 (σ 66) (nI j)) p = mMt σ 3 (nI j) (nI p) := wh_bt (s := 3) h.C3 hn (by decide) (by decide) hj hp
  have e2 := resM_eq h hj
  rw [wT_3, mIs_3, b_and, b_and, e1, e2.1, nI_clamp (show j < 2 ^ 31 by omega), Bool.and_assoc, mem_bt h e2.2 hp]
theorem s4c {s : Nat} (h : s < 4) : s = 0 ∨ s = 1 ∨ s = 2 ∨ s = 3 := by omega
theorem wT_bt {σ : xS} (h : Pg σ) {s j p : Nat} (hs : s < 4) (hj : j < cnt σ s) (hp : p < 16) : bt (wT σ (nI s) (nI j)) p = mIs σ (nI s) (nI j) (nI p) := by
  rcases s4c hs with rfl | rfl | rfl | rfl
  · exact wT_bt0 h hj hp
  · exact wT_bt1 h hj hp
  · exact wT_bt2 h hj hp
  · exact wT_bt3 h hj hp
theorem wT_big {σ : xS} (h : Pg σ) {s j p : Nat} (hs : s < 4) (hj : j < cnt σ s) (hp : 16 ≤ p) : bt (wT σ (nI s) (nI j)) p = false := by
  rcases s4c hs with rfl | rfl | rfl | rfl
  · have e : wT σ (nI 0) (nI j) = vAt 8 (σ 15) (nI j) := wT_0
    rw [e, vAt_n (by have := h.n0.2; omega) (by decide)]
    have e2 : σ 15 j = cfgI _ _ := h.C0.2.2.2 j hj
    rw [e2, cfg_big hp]
  · have e : wT σ (nI 1) (nI j) = vAt 12 (σ 22) (nI j) &&& vAt 8 (σ 15) (vAt 12 (σ 24) (nI j)) &&& vAt 8 (σ 15) (vAt 12 (σ 26) (nI j)) := wT_1
    rw [e, b_and, b_and, vAt_n (by have := h.n1.2; omega) (by decide)]
    have e2 : σ 22 j = cfgI _ _ := h.C1.2.2.2 j hj
    rw [e2, cfg_big hp]; rfl
  · have e : wT σ (nI 2) (nI j) = vAt 24 (σ 34) (nI j) &&& vAt 8 (σ 15) (vAt 24 (σ 38) (nI j)) := wT_2
    rw [e, b_and, vAt_n (by have := h.n2.2; omega) (by decide)]
    have e2 : σ 34 j = cfgI _ _ := h.C2.2.2.2 j hj
    rw [e2, cfg_big hp]; rfl
  · have e : wT σ (nI 3) (nI j) = vAt 16 (σ 66) (nI j) &&& vAt 24 (σ 34) (resM σ (nI j)) &&& vAt 8 (σ 15) (vAt 24 (σ 38) (resM σ (nI j))) := wT_3
    rw [e, b_and, b_and, vAt_n (by have := h.n3.2; omega) (by decide)]
    have e2 : σ 66 j = cfgI _ _ := h.C3.2.2.2 j hj
    rw [e2, cfg_big hp]; rfl

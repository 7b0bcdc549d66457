/-! The reference: bounds, what its methods answer. -/
theorem vp_le {x : Int32} {a b : Nat} (h : vp_in x a) (hab : a ≤ b) : vp_in x b := by
  rw [vp_in_iff] at h ⊢; omega
theorem vp_cl {x : Int32} {n : Nat} (h : vp_in x n) : x.toNatClampNeg < n := by
  rw [vp_in_iff] at h
  have : x.toNatClampNeg = x.toInt.toNat := rfl
  omega
theorem vp_nI {x : Int32} {n : Nat} (h : vp_in x n) : x = nI x.toNatClampNeg := by
  have h1 : ¬ x < 0 := fun q => h (Or.inl q)
  obtain ⟨j, hj, rfl⟩ := nI_of h1
  rw [nI_clamp hj]
theorem vp_lit (k : Nat) (h : k < 2 ^ 30) : vp_in (nI k) (k + 1) := vp_in_nI (by omega) (by omega)
theorem vp_add {x y : Int32} {a b : Nat} (hx : vp_in x a) (hy : vp_in y b) (h : a + b < 2 ^ 31) : vp_in (x + y) (a + b - 1) := by
  have h1 := vp_cl hx
  have h2 := vp_cl hy
  rw [vp_nI hx, vp_nI hy, nI_add]
  exact vp_in_nI (by omega) (by omega)
theorem vp_mulk (k : Nat) {x : Int32} {a : Nat} (hx : vp_in x a) (h : k * (a - 1) + 1 < 2 ^ 31) : vp_in (nI k * x) (k * (a - 1) + 1) := by
  have h1 := vp_cl hx
  rw [vp_nI hx, pk_mul]
  refine vp_in_nI ?_ h
  have : k * x.toNatClampNeg ≤ k * (a - 1) := Nat.mul_le_mul_left k (by omega)
  omega
def okB (x : Int32) (n : Nat) : Prop := x = nI x.toNatClampNeg ∧ x.toNatClampNeg ≤ n
/-- what the reference's arrays hold: all places, also those not in use -/
def mV (σ : xS) : Prop :=
  (∀ j, j < 12 → vp_in (σ 94 j) 8) ∧ (∀ j, j < 12 → vp_in (σ 95 j) 8) ∧ (∀ j, j < 24 → vp_in (σ 97 j) 8) ∧ (∀ j, j < 16 → vp_in (σ 101 j) 50) ∧ (∀ j, j < 50 → vp_in (σ 103 j) 24) ∧ (∀ j, j < 50 → vp_in (σ 104 j) 10) ∧
  (∀ j, j < 50 → σ 102 j = 3 → vp_in (σ 104 j) 2) ∧ (∀ j, j < 150 → σ 105 j = -1 ∨ vp_in (σ 105 j) 50) ∧ (∀ j, j < 50 → ¬ σ 102 j = 0 → ¬ σ 102 j = 1 → ¬ σ 102 j = 2 → ¬ σ 102 j = 3 → vp_in (σ 105 (3 * j)) 50) ∧
  (∀ j, j < 24 → vp_in (σ 99 j) 9) ∧ (∀ j, j < 48 → σ 100 j = -1 ∨ vp_in (σ 100 j) 9) ∧
  okB (σ 91 0) 8 ∧ okB (σ 91 1) 12 ∧ okB (σ 91 2) 24 ∧ okB (σ 91 3) 16 ∧ okB (σ 210 0) 50 ∧ okB (σ 209 0) 8
theorem mV_of {σ τ : xS} (h : ∀ r, r = 91 ∨ r = 94 ∨ r = 95 ∨ r = 97 ∨ r = 99 ∨ r = 100 ∨ r = 101 ∨ r = 102 ∨ r = 103 ∨ r = 104 ∨ r = 105 ∨ r = 209 ∨ r = 210 → τ r = σ r) (k : mV σ) : mV τ := by
  unfold mV at *
  rw [h 91 (by simp), h 94 (by simp), h 95 (by simp), h 97 (by simp), h 99 (by simp), h 100 (by simp), h 101 (by simp), h 102 (by simp), h 103 (by simp), h 104 (by simp), h 105 (by simp), h 209 (by simp), h 210 (by simp)]
  exact k
theorem mv94 {σ : xS} (h : mV σ) {x : Int32} (hx : vp_in x 12) : vp_in (σ 94 x.toNatClampNeg) 8 := h.1 _ (vp_cl hx)
theorem mv95 {σ : xS} (h : mV σ) {x : Int32} (hx : vp_in x 12) : vp_in (σ 95 x.toNatClampNeg) 8 := h.2.1 _ (vp_cl hx)
theorem mv97 {σ : xS} (h : mV σ) {x : Int32} (hx : vp_in x 24) : vp_in (σ 97 x.toNatClampNeg) 8 := h.2.2.1 _ (vp_cl hx)
theorem mv101 {σ : xS} (h : mV σ) {x : Int32} (hx : vp_in x 16) : vp_in (σ 101 x.toNatClampNeg) 50 := h.2.2.2.1 _ (vp_cl hx)
theorem mv103 {σ : xS} (h : mV σ) {x : Int32} (hx : vp_in x 50) : vp_in (σ 103 x.toNatClampNeg) 24 := h.2.2.2.2.1 _ (vp_cl hx)
theorem mv104 {σ : xS} (h : mV σ) {x : Int32} (hx : vp_in x 50) : vp_in (σ 104 x.toNatClampNeg) 10 := h.2.2.2.2.2.1 _ (vp_cl hx)
theorem mv104a {σ : xS} (h : mV σ) {x : Int32} (hx : vp_in x 50) (h3 : σ 102 x.toNatClampNeg = 3) : vp_in (σ 104 x.toNatClampNeg) 2 := h.2.2.2.2.2.2.1 _ (vp_cl hx) h3
theorem mv105 {σ : xS} (h : mV σ) {x : Int32} (hx : vp_in x 150) (hn : ¬ σ 105 x.toNatClampNeg = -1) : vp_in (σ 105 x.toNatClampNeg) 50 := (h.2.2.2.2.2.2.2.1 _ (vp_cl hx)).resolve_left hn
theorem mv105a {σ : xS} (h : mV σ) {x : Int32} (hx : vp_in x 50) (h0 : ¬ σ 102 x.toNatClampNeg = 0) (h1 : ¬ σ 102 x.toNatClampNeg = 1) (h2 : ¬ σ 102 x.toNatClampNeg = 2) (h3 : ¬ σ 102 x.toNatClampNeg = 3) : vp_in (σ 105 ((3 : Int32) * x).toNatClampNeg) 50 := by
  have e : ((3 : Int32) * x).toNatClampNeg = 3 * x.toNatClampNeg := by
    have := vp_cl hx
    rw [show ((3 : Int32) * x) = nI (3 * x.toNatClampNeg) by rw [← pk_mul, ← vp_nI hx]; rfl, nI_clamp (by omega)]
  rw [e]
  exact h.2.2.2.2.2.2.2.2.1 _ (vp_cl hx) h0 h1 h2 h3
theorem mv94n {σ : xS} (h : mV σ) (j : Nat) (hj : j < 12) : vp_in (σ 94 j) 8 := h.1 j hj
theorem mv95n {σ : xS} (h : mV σ) (j : Nat) (hj : j < 12) : vp_in (σ 95 j) 8 := h.2.1 j hj
theorem mv97n {σ : xS} (h : mV σ) (j : Nat) (hj : j < 24) : vp_in (σ 97 j) 8 := h.2.2.1 j hj
theorem mv101n {σ : xS} (h : mV σ) (j : Nat) (hj : j < 16) : vp_in (σ 101 j) 50 := h.2.2.2.1 j hj
theorem mv103n {σ : xS} (h : mV σ) (j : Nat) (hj : j < 50) : vp_in (σ 103 j) 24 := h.2.2.2.2.1 j hj
theorem mv99 {σ : xS} (h : mV σ) {x : Int32} (hx : vp_in x 24) : vp_in (σ 99 x.toNatClampNeg) 9 := h.2.2.2.2.2.2.2.2.2.1 _ (vp_cl hx)
theorem mv100 {σ : xS} (h : mV σ) {x : Int32} (hx : vp_in x 48) : σ 100 x.toNatClampNeg = -1 ∨ vp_in (σ 100 x.toNatClampNeg) 9 := h.2.2.2.2.2.2.2.2.2.2.1 _ (vp_cl hx)
theorem mvc0 {σ : xS} (h : mV σ) : okB (σ 91 0) 8 := h.2.2.2.2.2.2.2.2.2.2.2.1
theorem mvc1 {σ : xS} (h : mV σ) : okB (σ 91 1) 12 := h.2.2.2.2.2.2.2.2.2.2.2.2.1
theorem mvc2 {σ : xS} (h : mV σ) : okB (σ 91 2) 24 := h.2.2.2.2.2.2.2.2.2.2.2.2.2.1
theorem mvc3 {σ : xS} (h : mV σ) : okB (σ 91 3) 16 := h.2.2.2.2.2.2.2.2.2.2.2.2.2.2.1
theorem mvce {σ : xS} (h : mV σ) : okB (σ 210 0) 50 := h.2.2.2.2.2.2.2.2.2.2.2.2.2.2.2.1
theorem mvcr {σ : xS} (h : mV σ) : okB (σ 209 0) 8 := h.2.2.2.2.2.2.2.2.2.2.2.2.2.2.2.2
def mIn (v lo hi : Int32) : Bool := decide (¬ v < lo) && decide (¬ hi < v)
def mCond (on off : Int32) : Bool := mIn on 0 15 && (mIn off 0 15 && decide (on &&& off = 0))
def mEl (σ : xS) (s i : Int32) : Bool := mIn s 0 3 && mIn i 0 (σ 91 s.toNatClampNeg - 1)
def mTyB (σ : xS) (t : Int32) : Bool := decide (t = 8) || mEl σ 0 t
def mMth (σ : xS) (i : Int32) : Bool := mEl σ 2 i && decide (¬ σ 96 i.toNatClampNeg = 0)
def mExp (σ : xS) (e : Int32) : Bool := mIn e 0 (σ 210 0 - 1)
theorem mIn_vp {x y : Int32} {n : Nat} (hy : okB y n) (hn : n < 2 ^ 30) (h : mIn x 0 (y - 1) = true) : vp_in x n := by
  obtain ⟨e, hle⟩ := hy
  simp only [mIn, Bool.and_eq_true, decide_eq_true_eq] at h
  obtain ⟨h1, h2⟩ := h
  obtain ⟨j, hj, rfl⟩ := nI_of h1
  refine vp_in_nI ?_ (by omega)
  cases hm : y.toNatClampNeg with
  | zero =>
    rw [hm] at e
    rw [e] at h2
    exfalso
    apply h2
    rw [Int32.lt_iff_toInt_lt, nI_toInt hj]
    have : (nI 0 - 1).toInt = -1 := by decide
    omega
  | succ k =>
    rw [e, hm, nI_pred] at h2
    by_cases hjk : j < n
    · exact hjk
    · exact absurd (nI_lt (a := k) (b := j) (by omega) hj) h2
theorem mEl_vp {σ : xS} {s i : Int32} {n : Nat} (hc : okB (σ 91 s.toNatClampNeg) n) (hn : n < 2 ^ 30) (h : mEl σ s i = true) : vp_in i n := by
  simp only [mEl, Bool.and_eq_true] at h
  exact mIn_vp hc hn h.2
def mRBad (σ : xS) (c : Int32) (j : Nat) : Bool := mHas c (σ 89 j) && (mHas c (σ 90 j) == decide (σ 88 j = 1))
def mKN (σ : xS) (c : Int32) : Nat → Bool
  | 0 => mIn c 0 15
  | k + 1 => mKN σ c k && !mRBad σ c k
def mPr (σ : xS) (c : Int32) : Bool := mKN σ c (σ 209 0).toNatClampNeg
def mAll (σ : xS) : Int32 := maskI (fun c => mPr σ (nI c)) 16
def mMt (σ : xS) (s i c : Int32) : Bool := decide (σ 92 ((24 : Int32) * s + i).toNatClampNeg &&& (c ^^^ (-1)) = 0) && decide (σ 93 ((24 : Int32) * s + i).toNatClampNeg &&& c = 0)
def mIs2 (σ : xS) (i c : Int32) : Bool := mMt σ 2 i c && mMt σ 0 (σ 97 i.toNatClampNeg) c
def mIs (σ : xS) (s i c : Int32) : Bool :=
  if s = 1 then mMt σ 1 i c && (mMt σ 0 (σ 94 i.toNatClampNeg) c && mMt σ 0 (σ 95 i.toNatClampNeg) c)
  else if s = 2 then mIs2 σ i c
  else if s = 0 then mMt σ 0 i c
  else mMt σ 3 i c && mIs2 σ (σ 103 (σ 101 i.toNatClampNeg).toNatClampNeg) c
/-- the first of d places from k on -/
def firstN (P : Nat → Bool) (v : Nat → Int32) : Nat → Nat → Int32
  | 0, _ => -1
  | d + 1, k => if P k = true then v k else firstN P v d (k + 1)
def mPaP (σ : xS) (o c : Int32) (k : Nat) : Bool := decide (σ 94 k = o) && mIs σ 1 (nI k) c
def mPa (σ : xS) (o c : Int32) : Int32 := firstN (mPaP σ o c) (fun k => σ 95 k) (σ 91 1).toNatClampNeg 0
def mBeN (σ : xS) (b c : Int32) : Nat → Int32 → Bool
  | 0, _ => false
  | j + 1, a => if a = -1 then false else if a = b then true else mBeN σ b c j (mPa σ a c)
def mBe (σ : xS) (a b c : Int32) : Bool := mBeN σ b c 8 (mPa σ a c)
def mFit (σ : xS) (t o c : Int32) : Bool := decide (t = o) || (decide (¬ t = 8) && (decide (¬ o = 8) && mBe σ t o c))
def mMeP (σ : xS) (a n t c : Int32) (k : Nat) : Bool := decide (σ 97 k = a) && (decide (σ 98 k = n) && (decide (σ 96 k = t) && mIs2 σ (nI k) c))
def mMe (σ : xS) (a n t c : Int32) : Int32 := firstN (mMeP σ a n t c) nI (σ 91 2).toNatClampNeg 0
def mFN (σ : xS) (n t c : Int32) : Nat → Int32 → Int32 → Int32
  | 0, _, _ => -1
  | d + 1, s, a => if a = -1 then -1 else if mHas s a = true then -1 else if mMe σ a n t c = -1 then mFN σ n t c d (s ||| ((1 : Int32) <<< (a &&& 31))) (mPa σ a c) else mMe σ a n t c
def mFi (σ : xS) (o n t c : Int32) : Int32 := mFN σ n t c 10 0 o
def mNt (σ : xS) (k x c : Int32) : xS := xw σ 107 ((50 : Int32) * k + x).toNatClampNeg (σ 107 ((50 : Int32) * k + x).toNatClampNeg ||| ((1 : Int32) <<< (c &&& 31)))
def mTI (σ : xS) (e c : Int32) : Int32 := σ 106 ((50 : Int32) * c + e).toNatClampNeg
theorem firstN_in {P : Nat → Bool} {v : Nat → Int32} : ∀ d k, firstN P v d k = -1 ∨ ∃ j, k ≤ j ∧ j < k + d ∧ P j = true ∧ firstN P v d k = v j
  | 0, k => Or.inl rfl
  | d + 1, k => by
    rw [firstN]
    split
    · exact Or.inr ⟨k, Nat.le_refl _, by omega, by assumption, rfl⟩
    · rcases firstN_in (P := P) (v := v) d (k + 1) with h | ⟨j, h1, h2, h3, h4⟩
      · exact Or.inl h
      · exact Or.inr ⟨j, by omega, by omega, h3, h4⟩
theorem mPa_in {σ : xS} (hM : mV σ) (o c : Int32) : mPa σ o c = -1 ∨ vp_in (mPa σ o c) 8 := by
  rcases firstN_in (P := mPaP σ o c) (v := fun k => σ 95 k) (σ 91 1).toNatClampNeg 0 with h | ⟨j, h1, h2, h3, h4⟩
  · exact Or.inl h
  · right
    have := (mvc1 hM).2
    unfold mPa
    rw [h4]
    exact hM.2.1 j (by omega)
theorem mMe_in {σ : xS} (hM : mV σ) (a n t c : Int32) : mMe σ a n t c = -1 ∨ vp_in (mMe σ a n t c) 24 := by
  rcases firstN_in (P := mMeP σ a n t c) (v := nI) (σ 91 2).toNatClampNeg 0 with h | ⟨j, h1, h2, h3, h4⟩
  · exact Or.inl h
  · right
    have := (mvc2 hM).2
    unfold mMe
    rw [h4]
    exact vp_in_nI (by omega) (by decide)
theorem mFN_in {σ : xS} (hM : mV σ) (n t c : Int32) : ∀ d s a, mFN σ n t c d s a = -1 ∨ vp_in (mFN σ n t c d s a) 24
  | 0, _, _ => Or.inl rfl
  | d + 1, s, a => by
    rw [mFN]
    split
    · exact Or.inl rfl
    · split
      · exact Or.inl rfl
      · split
        · exact mFN_in hM n t c d _ _
        · exact mMe_in hM a n t c
theorem mFi_in {σ : xS} (hM : mV σ) {o n t c : Int32} (h : ¬ mFi σ o n t c = -1) : vp_in (mFi σ o n t c) 24 := (mFN_in hM n t c 10 0 o).resolve_left h

set_option maxHeartbeats 4000000 in
set_option maxRecDepth 100000 in
theorem c_X9_isIn (l : Launch) (V : xV) (hV : xInj V) (σ : xS) (v lo hi : Int32) : xM l yX9_isIn wsX9_isIn ({ frames := 0, cells := 0, slots := 0, locals := 0 }) V [.int v, .int lo, .int hi] σ (rI (bI (mIn v lo hi)) σ) := by
  refine xM_of (cc := cX9_isIn) (maxL := 3) (ret := (some .boolean)) [(0, .int v), (1, .int lo), (2, .int hi)] hV (by decide) rfl rfl (Nat.le_of_ble_eq_true rfl) (fun p e s m args below meth c C hr hlk => ?_)
  refine x_iload_n C dX9_isIn_0 rfl 0 rfl ?_
  refine x_iload_n C dX9_isIn_1 rfl 1 rfl ?_
  refine x_icmp_lt C 14 dX9_isIn_2 rfl (fun h1 => ?_) (fun h1 => ?_)
  · refine x_iconst C (0 : Int32) (by decide) dX9_isIn_14 ?_
    exact x_zret C false rfl hr hlk dX9_isIn_15 ⟨by simp [mIn, h1], rfl⟩
  · refine x_iload_n C dX9_isIn_5 rfl 0 rfl ?_
    refine x_iload_n C dX9_isIn_6 rfl 2 rfl ?_
    refine x_icmp_gt C 14 dX9_isIn_7 rfl (fun h2 => ?_) (fun h2 => ?_)
    · refine x_iconst C (0 : Int32) (by decide) dX9_isIn_14 ?_
      exact x_zret C false rfl hr hlk dX9_isIn_15 ⟨by simp [mIn, h1, h2], rfl⟩
    · refine x_iconst C (1 : Int32) (by decide) dX9_isIn_10 ?_
      refine x_goto C 15 dX9_isIn_11 rfl ?_
      exact x_zret C true rfl hr hlk dX9_isIn_15 ⟨by simp [mIn, h1, h2], rfl⟩

set_option maxHeartbeats 4000000 in
set_option maxRecDepth 100000 in
theorem c_X9_has (l : Launch) (V : xV) (hV : xInj V) (σ : xS) (s1 x : Int32) : xM l yX9_has wsX9_has ({ frames := 0, cells := 0, slots := 0, locals := 0 }) V [.int s1, .int x] σ (rI (bI (mHas s1 x)) σ) := by
  refine xM_of (cc := cX9_has) (maxL := 2) (ret := (some .boolean)) [(0, .int s1), (1, .int x)] hV (by decide) rfl rfl (Nat.le_of_ble_eq_true rfl) (fun p e s m args below meth c C hr hlk => ?_)
  refine x_iload_n C dX9_has_0 rfl 0 rfl ?_
  refine x_iload_n C dX9_has_1 rfl 1 rfl ?_
  refine x_ishr C dX9_has_2 ?_
  refine x_iconst C (1 : Int32) (by decide) dX9_has_3 ?_
  refine x_iand C dX9_has_4 ?_
  refine x_iconst C (1 : Int32) (by decide) dX9_has_5 ?_
  refine x_icmp_ne C 13 dX9_has_6 rfl (fun h1 => ?_) (fun h1 => ?_)
  · refine x_iconst C (0 : Int32) (by decide) dX9_has_13 ?_
    exact x_zret C false rfl hr hlk dX9_has_14 ⟨by simp [mHas, h1], rfl⟩
  · refine x_iconst C (1 : Int32) (by decide) dX9_has_9 ?_
    refine x_goto C 14 dX9_has_10 rfl ?_
    exact x_zret C true rfl hr hlk dX9_has_14 ⟨by simp [mHas, eq_true h1], rfl⟩

set_option maxHeartbeats 4000000 in
set_option maxRecDepth 100000 in
theorem c_X9_isCondition (l : Launch) (V : xV) (hV : xInj V) (σ : xS) (x y : Int32) : xM l yX9_isCondition wsX9_isCondition ({ frames := 1, cells := 0, slots := 0, locals := 22 }) V [.int x, .int y] σ (rI (bI (mCond x y)) σ) := by
  refine xM_of (cc := cX9_isCondition) (maxL := 2) (ret := (some .boolean)) [(0, .int x), (1, .int y)] hV (by decide) rfl rfl (Nat.le_of_ble_eq_true rfl) (fun p e s m args below meth c C hr hlk => ?_)
  refine x_iload_n C dX9_isCondition_0 rfl 0 rfl ?_
  refine x_iconst C (0 : Int32) (by decide) dX9_isCondition_1 ?_
  refine x_bipush C (15 : Int32) (by decide) dX9_isCondition_2 ?_
  refine x_callS C [.int x, .int (0 : Int32), .int (15 : Int32)] (c_X9_isIn l V hV σ x (0 : Int32) (15 : Int32)) (va_cwS 3 C.2.2.2.2.1 gX9_isCondition_X9_isIn rfl rfl rfl (by decide +kernel) ⟨Nat.le_of_ble_eq_true rfl, Nat.le_of_ble_eq_true rfl⟩) rfl rfl (Nat.le_of_ble_eq_true rfl) dX9_isCondition_4 ⟨Nat.le_of_ble_eq_true rfl, Nat.le_of_ble_eq_true rfl⟩ (x_kI ?_)
  refine x_bif_eq C 30 dX9_isCondition_7 rfl (fun h1 => ?_) (fun h1 => ?_)
  · refine x_iconst C (0 : Int32) (by decide) dX9_isCondition_30 ?_
    exact x_zret C false rfl hr hlk dX9_isCondition_31 ⟨by simp [mCond, h1], rfl⟩
  · refine x_iload_n C dX9_isCondition_10 rfl 1 rfl ?_
    refine x_iconst C (0 : Int32) (by decide) dX9_isCondition_11 ?_
    refine x_bipush C (15 : Int32) (by decide) dX9_isCondition_12 ?_
    refine x_callS C [.int y, .int (0 : Int32), .int (15 : Int32)] (c_X9_isIn l V hV σ y (0 : Int32) (15 : Int32)) (va_cwS 3 C.2.2.2.2.1 gX9_isCondition_X9_isIn rfl rfl rfl (by decide +kernel) ⟨Nat.le_of_ble_eq_true rfl, Nat.le_of_ble_eq_true rfl⟩) rfl rfl (Nat.le_of_ble_eq_true rfl) dX9_isCondition_14 ⟨Nat.le_of_ble_eq_true rfl, Nat.le_of_ble_eq_true rfl⟩ (x_kI ?_)
    refine x_bif_eq C 30 dX9_isCondition_17 rfl (fun h2 => ?_) (fun h2 => ?_)
    · refine x_iconst C (0 : Int32) (by decide) dX9_isCondition_30 ?_
      exact x_zret C false rfl hr hlk dX9_isCondition_31 ⟨by simp [mCond, h1, h2], rfl⟩
    · refine x_iload_n C dX9_isCondition_20 rfl 0 rfl ?_
      refine x_iload_n C dX9_isCondition_21 rfl 1 rfl ?_
      refine x_iand C dX9_isCondition_22 ?_
      refine x_if_ne C 30 dX9_isCondition_23 rfl (fun h3 => ?_) (fun h3 => ?_)
      · refine x_iconst C (0 : Int32) (by decide) dX9_isCondition_30 ?_
        exact x_zret C false rfl hr hlk dX9_isCondition_31 ⟨by simp [mCond, h1, h2, h3], rfl⟩
      · refine x_iconst C (1 : Int32) (by decide) dX9_isCondition_26 ?_
        refine x_goto C 31 dX9_isCondition_27 rfl ?_
        exact x_zret C true rfl hr hlk dX9_isCondition_31 ⟨by simp [mCond, h1, h2, eq_true h3], rfl⟩

set_option maxHeartbeats 4000000 in
set_option maxRecDepth 100000 in
theorem c_X9_isName (l : Launch) (V : xV) (hV : xInj V) (σ : xS) (x : Int32) : xM l yX9_isName wsX9_isName ({ frames := 1, cells := 0, slots := 0, locals := 22 }) V [.int x] σ (rI (bI (mIn x 0 9)) σ) := by
  refine xM_of (cc := cX9_isName) (maxL := 1) (ret := (some .boolean)) [(0, .int x)] hV (by decide) rfl rfl (Nat.le_of_ble_eq_true rfl) (fun p e s m args below meth c C hr hlk => ?_)
  refine x_iload_n C dX9_isName_0 rfl 0 rfl ?_
  refine x_iconst C (0 : Int32) (by decide) dX9_isName_1 ?_
  refine x_bipush C (9 : Int32) (by decide) dX9_isName_2 ?_
  refine x_callS C [.int x, .int (0 : Int32), .int (9 : Int32)] (c_X9_isIn l V hV σ x (0 : Int32) (9 : Int32)) (va_cwS 3 C.2.2.2.2.1 gX9_isName_X9_isIn rfl rfl rfl (by decide +kernel) ⟨Nat.le_of_ble_eq_true rfl, Nat.le_of_ble_eq_true rfl⟩) rfl rfl (Nat.le_of_ble_eq_true rfl) dX9_isName_4 ⟨Nat.le_of_ble_eq_true rfl, Nat.le_of_ble_eq_true rfl⟩ (x_kI ?_)
  exact x_zret C (mIn x (0 : Int32) (9 : Int32)) rfl hr hlk dX9_isName_7 ⟨rfl, rfl⟩

set_option maxHeartbeats 4000000 in
set_option maxRecDepth 100000 in
theorem c_X9_no (l : Launch) (V : xV) (hV : xInj V) (σ : xS) (k : Int32)  : xM l yX9_no wsX9_no ({ frames := 0, cells := 0, slots := 0, locals := 0 }) V [ra V 87, .int k] σ (rI 0 (xw σ 208 0 k)) := by
  refine xM_of (cc := cX9_no) (maxL := 2) (ret := (some .int)) [(0, ra V 87), (1, .int k)] hV (by decide) rfl rfl (Nat.le_of_ble_eq_true rfl) (fun p e s m args below meth c C hr hlk => ?_)
  have iX9 : ∀ w ∈ u_ws RX9 TX9 24, w ∈ wsX9_no := by decide +kernel
  have f71 : (Cond.fieldLink RX9 71 RX9 (TX9 0).2.1 (TX9 0).2.2.1).before args s = true := C.2.2.2.2.1 _ (by decide +kernel)
  refine x_aload_n C dX9_no_0 rfl 0 rfl ?_
  refine x_iload_n C dX9_no_1 rfl 1 rfl ?_
  refine x_puti (ty := .int) C sh_87 rfl iX9 0 (by decide) f71 (fun _ h => h) (by decide) rfl (by decide +kernel) (by decide +kernel) (by decide) rfl tyX9 tyX9_ok nmX9 (by decide +kernel) rfl rfl dX9_no_2 ?_
  refine x_iconst C (0 : Int32) (by decide) dX9_no_5 ?_
  exact x_iret C hr hlk dX9_no_6 ⟨rfl, rfl⟩

set_option maxHeartbeats 4000000 in
set_option maxRecDepth 100000 in
theorem c_X9_thrown (l : Launch) (V : xV) (hV : xInj V) (σ : xS)   : xM l yX9_thrown wsX9_thrown ({ frames := 0, cells := 0, slots := 0, locals := 0 }) V [ra V 87] σ (rI (σ 208 0) σ) := by
  refine xM_of (cc := cX9_thrown) (maxL := 1) (ret := (some .int)) [(0, ra V 87)] hV (by decide) rfl rfl (Nat.le_of_ble_eq_true rfl) (fun p e s m args below meth c C hr hlk => ?_)
  have iX9 : ∀ w ∈ u_ws RX9 TX9 24, w ∈ wsX9_thrown := by decide +kernel
  have f71 : (Cond.fieldLink RX9 71 RX9 (TX9 0).2.1 (TX9 0).2.2.1).before args s = true := C.2.2.2.2.1 _ (by decide +kernel)
  refine x_aload_n C dX9_thrown_0 rfl 0 rfl ?_
  refine x_geti C sh_87 rfl iX9 0 (by decide) f71 (fun _ h => h) (by decide) rfl dX9_thrown_1 ?_
  exact x_iret C hr hlk dX9_thrown_4 ⟨rfl, rfl⟩

theorem mIn_sort {s : Int32} (h : mIn s 0 3 = true) : vp_in s 4 := by
  simp only [mIn, Bool.and_eq_true, decide_eq_true_eq] at h
  obtain ⟨j, hj, rfl⟩ := nI_of h.1
  refine vp_in_nI ?_ (by decide)
  by_cases hh : j < 4
  · exact hh
  · exact absurd (nI_lt (a := 3) (b := j) (by omega) hj) h.2
set_option maxHeartbeats 4000000 in
set_option maxRecDepth 100000 in
theorem c_X9_isElement (l : Launch) (V : xV) (hV : xInj V) (σ : xS) (s1 i : Int32)  : xM l yX9_isElement wsX9_isElement ({ frames := 1, cells := 0, slots := 0, locals := 22 }) V [ra V 87, .int s1, .int i] σ (rI (bI (mEl σ s1 i)) σ) := by
  refine xM_of (cc := cX9_isElement) (maxL := 3) (ret := (some .boolean)) [(0, ra V 87), (1, .int s1), (2, .int i)] hV (by decide) rfl rfl (Nat.le_of_ble_eq_true rfl) (fun p e s m args below meth c C hr hlk => ?_)
  have iX9 : ∀ w ∈ u_ws RX9 TX9 24, w ∈ wsX9_isElement := by decide +kernel
  have f19 : (Cond.fieldLink RX9 19 RX9 (TX9 5).2.1 (TX9 5).2.2.1).before args s = true := C.2.2.2.2.1 _ (by decide +kernel)
  refine x_iload_n C dX9_isElement_0 rfl 1 rfl ?_
  refine x_iconst C (0 : Int32) (by decide) dX9_isElement_1 ?_
  refine x_iconst C (3 : Int32) (by decide) dX9_isElement_2 ?_
  refine x_callS C [.int s1, .int (0 : Int32), .int (3 : Int32)] (c_X9_isIn l V hV σ s1 (0 : Int32) (3 : Int32)) (va_cwS 3 C.2.2.2.2.1 gX9_isElement_X9_isIn rfl rfl rfl (by decide +kernel) ⟨Nat.le_of_ble_eq_true rfl, Nat.le_of_ble_eq_true rfl⟩) rfl rfl (Nat.le_of_ble_eq_true rfl) dX9_isElement_3 ⟨Nat.le_of_ble_eq_true rfl, Nat.le_of_ble_eq_true rfl⟩ (x_kI ?_)
  refine x_bif_eq C 29 dX9_isElement_6 rfl (fun h1 => ?_) (fun h1 => ?_)
  · refine x_iconst C (0 : Int32) (by decide) dX9_isElement_29 ?_
    exact x_zret C false rfl hr hlk dX9_isElement_30 ⟨by simp [mEl, h1], rfl⟩
  · refine x_iload_n C dX9_isElement_9 rfl 2 rfl ?_
    refine x_iconst C (0 : Int32) (by decide) dX9_isElement_10 ?_
    refine x_aload_n C dX9_isElement_11 rfl 0 rfl ?_
    refine x_getr C sh_87 rfl iX9 5 (by decide) f19 (fun _ h => h) (by decide) rfl dX9_isElement_12 ?_
    refine x_iload_n C dX9_isElement_15 rfl 1 rfl ?_
    refine x_iald C sh_91 (mIn_sort h1) dX9_isElement_16 ?_
    refine x_iconst C (1 : Int32) (by decide) dX9_isElement_17 ?_
    refine x_isub C dX9_isElement_18 ?_
    refine x_callS C [.int i, .int (0 : Int32), .int ((σ 91 s1.toNatClampNeg) - (1 : Int32))] (c_X9_isIn l V hV σ i (0 : Int32) ((σ 91 s1.toNatClampNeg) - (1 : Int32))) (va_cwS 3 C.2.2.2.2.1 gX9_isElement_X9_isIn rfl rfl rfl (by decide +kernel) ⟨Nat.le_of_ble_eq_true rfl, Nat.le_of_ble_eq_true rfl⟩) rfl rfl (Nat.le_of_ble_eq_true rfl) dX9_isElement_19 ⟨Nat.le_of_ble_eq_true rfl, Nat.le_of_ble_eq_true rfl⟩ (x_kI ?_)
    refine x_bif_eq C 29 dX9_isElement_22 rfl (fun h2 => ?_) (fun h2 => ?_)
    · refine x_iconst C (0 : Int32) (by decide) dX9_isElement_29 ?_
      exact x_zret C false rfl hr hlk dX9_isElement_30 ⟨by simp [mEl, h1, h2], rfl⟩
    · refine x_iconst C (1 : Int32) (by decide) dX9_isElement_25 ?_
      refine x_goto C 30 dX9_isElement_26 rfl ?_
      exact x_zret C true rfl hr hlk dX9_isElement_30 ⟨by simp [mEl, h1, h2], rfl⟩

set_option maxHeartbeats 4000000 in
set_option maxRecDepth 100000 in
theorem c_X9_isType (l : Launch) (V : xV) (hV : xInj V) (σ : xS) (t : Int32)  : xM l yX9_isType wsX9_isType ({ frames := 2, cells := 0, slots := 0, locals := 44 }) V [ra V 87, .int t] σ (rI (bI (mTyB σ t)) σ) := by
  refine xM_of (cc := cX9_isType) (maxL := 2) (ret := (some .boolean)) [(0, ra V 87), (1, .int t)] hV (by decide) rfl rfl (Nat.le_of_ble_eq_true rfl) (fun p e s m args below meth c C hr hlk => ?_)
  refine x_iload_n C dX9_isType_0 rfl 1 rfl ?_
  refine x_bipush C (8 : Int32) (by decide) dX9_isType_1 ?_
  refine x_icmp_eq C 15 dX9_isType_3 rfl (fun h1 => ?_) (fun h1 => ?_)
  · refine x_iconst C (1 : Int32) (by decide) dX9_isType_15 ?_
    refine x_goto C 20 dX9_isType_16 rfl ?_
    exact x_zret C true rfl hr hlk dX9_isType_20 ⟨by simp [mTyB, eq_true h1], rfl⟩
  · refine x_aload_n C dX9_isType_6 rfl 0 rfl ?_
    refine x_iconst C (0 : Int32) (by decide) dX9_isType_7 ?_
    refine x_iload_n C dX9_isType_8 rfl 1 rfl ?_
    refine x_callV C sh_87 (by decide) rfl [.int (0 : Int32), .int t] (c_X9_isElement l V hV σ (0 : Int32) t) (cwV 2 C.2.2.2.2.1 gX9_isType_X9_isElement rfl rfl rfl (by decide +kernel) ⟨Nat.le_of_ble_eq_true rfl, Nat.le_of_ble_eq_true rfl⟩) rfl rfl (Nat.le_of_ble_eq_true rfl) dX9_isType_9 ⟨Nat.le_of_ble_eq_true rfl, Nat.le_of_ble_eq_true rfl⟩ (x_kI ?_)
    refine x_bif_eq C 19 dX9_isType_12 rfl (fun h2 => ?_) (fun h2 => ?_)
    · refine x_iconst C (0 : Int32) (by decide) dX9_isType_19 ?_
      exact x_zret C false rfl hr hlk dX9_isType_20 ⟨by simp [mTyB, h1, h2], rfl⟩
    · refine x_iconst C (1 : Int32) (by decide) dX9_isType_15 ?_
      refine x_goto C 20 dX9_isType_16 rfl ?_
      exact x_zret C true rfl hr hlk dX9_isType_20 ⟨by simp [mTyB, h1, h2], rfl⟩

set_option maxHeartbeats 4000000 in
set_option maxRecDepth 100000 in
theorem c_X9_isMethod (l : Launch) (V : xV) (hV : xInj V) (σ : xS) (i : Int32) (hM : mV σ) : xM l yX9_isMethod wsX9_isMethod ({ frames := 2, cells := 0, slots := 0, locals := 44 }) V [ra V 87, .int i] σ (rI (bI (mMth σ i)) σ) := by
  refine xM_of (cc := cX9_isMethod) (maxL := 2) (ret := (some .boolean)) [(0, ra V 87), (1, .int i)] hV (by decide) rfl rfl (Nat.le_of_ble_eq_true rfl) (fun p e s m args below meth c C hr hlk => ?_)
  have iX9 : ∀ w ∈ u_ws RX9 TX9 24, w ∈ wsX9_isMethod := by decide +kernel
  have f34 : (Cond.fieldLink RX9 34 RX9 (TX9 10).2.1 (TX9 10).2.2.1).before args s = true := C.2.2.2.2.1 _ (by decide +kernel)
  refine x_aload_n C dX9_isMethod_0 rfl 0 rfl ?_
  refine x_iconst C (2 : Int32) (by decide) dX9_isMethod_1 ?_
  refine x_iload_n C dX9_isMethod_2 rfl 1 rfl ?_
  refine x_callV C sh_87 (by decide) rfl [.int (2 : Int32), .int i] (c_X9_isElement l V hV σ (2 : Int32) i) (cwV 2 C.2.2.2.2.1 gX9_isMethod_X9_isElement rfl rfl rfl (by decide +kernel) ⟨Nat.le_of_ble_eq_true rfl, Nat.le_of_ble_eq_true rfl⟩) rfl rfl (Nat.le_of_ble_eq_true rfl) dX9_isMethod_3 ⟨Nat.le_of_ble_eq_true rfl, Nat.le_of_ble_eq_true rfl⟩ (x_kI ?_)
  refine x_bif_eq C 22 dX9_isMethod_6 rfl (fun h1 => ?_) (fun h1 => ?_)
  · refine x_iconst C (0 : Int32) (by decide) dX9_isMethod_22 ?_
    exact x_zret C false rfl hr hlk dX9_isMethod_23 ⟨by simp [mMth, h1], rfl⟩
  · refine x_aload_n C dX9_isMethod_9 rfl 0 rfl ?_
    refine x_getr C sh_87 rfl iX9 10 (by decide) f34 (fun _ h => h) (by decide) rfl dX9_isMethod_10 ?_
    refine x_iload_n C dX9_isMethod_13 rfl 1 rfl ?_
    refine x_zald C sh_96 (mEl_vp (mvc2 hM) (by decide) h1) dX9_isMethod_14 ?_
    refine x_if_eq C 22 dX9_isMethod_15 rfl (fun h2 => ?_) (fun h2 => ?_)
    · refine x_iconst C (0 : Int32) (by decide) dX9_isMethod_22 ?_
      exact x_zret C false rfl hr hlk dX9_isMethod_23 ⟨by simp [mMth, h1, eq_true h2], rfl⟩
    · refine x_iconst C (1 : Int32) (by decide) dX9_isMethod_18 ?_
      refine x_goto C 23 dX9_isMethod_19 rfl ?_
      exact x_zret C true rfl hr hlk dX9_isMethod_23 ⟨by simp [mMth, h1, h2], rfl⟩

set_option maxHeartbeats 4000000 in
set_option maxRecDepth 100000 in
theorem c_X9_isExpression (l : Launch) (V : xV) (hV : xInj V) (σ : xS) (i : Int32)  : xM l yX9_isExpression wsX9_isExpression ({ frames := 1, cells := 0, slots := 0, locals := 22 }) V [ra V 87, .int i] σ (rI (bI (mExp σ i)) σ) := by
  refine xM_of (cc := cX9_isExpression) (maxL := 2) (ret := (some .boolean)) [(0, ra V 87), (1, .int i)] hV (by decide) rfl rfl (Nat.le_of_ble_eq_true rfl) (fun p e s m args below meth c C hr hlk => ?_)
  have iX9 : ∀ w ∈ u_ws RX9 TX9 24, w ∈ wsX9_isExpression := by decide +kernel
  have f83 : (Cond.fieldLink RX9 83 RX9 (TX9 16).2.1 (TX9 16).2.2.1).before args s = true := C.2.2.2.2.1 _ (by decide +kernel)
  refine x_iload_n C dX9_isExpression_0 rfl 1 rfl ?_
  refine x_iconst C (0 : Int32) (by decide) dX9_isExpression_1 ?_
  refine x_aload_n C dX9_isExpression_2 rfl 0 rfl ?_
  refine x_geti C sh_87 rfl iX9 16 (by decide) f83 (fun _ h => h) (by decide) rfl dX9_isExpression_3 ?_
  refine x_iconst C (1 : Int32) (by decide) dX9_isExpression_6 ?_
  refine x_isub C dX9_isExpression_7 ?_
  refine x_callS C [.int i, .int (0 : Int32), .int ((σ 210 0) - (1 : Int32))] (c_X9_isIn l V hV σ i (0 : Int32) ((σ 210 0) - (1 : Int32))) (va_cwS 3 C.2.2.2.2.1 gX9_isExpression_X9_isIn rfl rfl rfl (by decide +kernel) ⟨Nat.le_of_ble_eq_true rfl, Nat.le_of_ble_eq_true rfl⟩) rfl rfl (Nat.le_of_ble_eq_true rfl) dX9_isExpression_8 ⟨Nat.le_of_ble_eq_true rfl, Nat.le_of_ble_eq_true rfl⟩ (x_kI ?_)
  exact x_zret C (mIn i (0 : Int32) ((σ 210 0) - (1 : Int32))) rfl hr hlk dX9_isExpression_11 ⟨rfl, rfl⟩

set_option maxHeartbeats 4000000 in
set_option maxRecDepth 100000 in
theorem c_X9_isProduct (l : Launch) (V : xV) (hV : xInj V) (σ : xS) (c1 : Int32) (hM : mV σ) : xM l yX9_isProduct wsX9_isProduct ({ frames := 1, cells := 0, slots := 0, locals := 22 }) V [ra V 87, .int c1] σ (rI (bI (mPr σ c1)) σ) := by
  refine xM_of (cc := cX9_isProduct) (maxL := 4) (ret := (some .boolean)) [(0, ra V 87), (1, .int c1)] hV (by decide) rfl rfl (Nat.le_of_ble_eq_true rfl) (fun p e s m args below meth c C hr hlk => ?_)
  have iX9 : ∀ w ∈ u_ws RX9 TX9 24, w ∈ wsX9_isProduct := by decide +kernel
  have f90 : (Cond.fieldLink RX9 90 RX9 (TX9 1).2.1 (TX9 1).2.2.1).before args s = true := C.2.2.2.2.1 _ (by decide +kernel)
  have f13 : (Cond.fieldLink RX9 13 RX9 (TX9 3).2.1 (TX9 3).2.2.1).before args s = true := C.2.2.2.2.1 _ (by decide +kernel)
  have f16 : (Cond.fieldLink RX9 16 RX9 (TX9 4).2.1 (TX9 4).2.2.1).before args s = true := C.2.2.2.2.1 _ (by decide +kernel)
  have f9 : (Cond.fieldLink RX9 9 RX9 (TX9 2).2.1 (TX9 2).2.2.1).before args s = true := C.2.2.2.2.1 _ (by decide +kernel)
  refine x_iload_n C dX9_isProduct_0 rfl 1 rfl ?_
  refine x_iconst C (0 : Int32) (by decide) dX9_isProduct_1 ?_
  refine x_bipush C (15 : Int32) (by decide) dX9_isProduct_2 ?_
  refine x_callS C [.int c1, .int (0 : Int32), .int (15 : Int32)] (c_X9_isIn l V hV σ c1 (0 : Int32) (15 : Int32)) (va_cwS 3 C.2.2.2.2.1 gX9_isProduct_X9_isIn rfl rfl rfl (by decide +kernel) ⟨Nat.le_of_ble_eq_true rfl, Nat.le_of_ble_eq_true rfl⟩) rfl rfl (Nat.le_of_ble_eq_true rfl) dX9_isProduct_4 ⟨Nat.le_of_ble_eq_true rfl, Nat.le_of_ble_eq_true rfl⟩ (x_kI ?_)
  refine x_istore_n C [(2, .int (bI (mIn c1 (0 : Int32) (15 : Int32)))), (0, ra V 87), (1, .int c1)] dX9_isProduct_7 rfl (by decide) rfl ?_
  refine x_iconst C (0 : Int32) (by decide) dX9_isProduct_8 ?_
  refine x_istore_n C [(3, .int (0 : Int32)), (2, .int (bI (mIn c1 (0 : Int32) (15 : Int32)))), (0, ra V 87), (1, .int c1)] dX9_isProduct_9 rfl (by decide) rfl ?_
  refine x_lv [2, 3, 1, 0] [(0, ra V 87), (1, .int c1), (2, .int (bI (mIn c1 (0 : Int32) (15 : Int32)))), (3, .int (0 : Int32))] rfl ?_
  refine x_loop (fun μ σ_ lv_ => ∃ (k : Nat), μ = (σ 209 0).toNatClampNeg - k ∧ σ = σ_ ∧ lv_ = [(0, ra V 87), (1, .int c1), (2, .int (bI (mKN σ c1 k))), (3, .int (nI k))] ∧ k ≤ (σ 209 0).toNatClampNeg) ⟨_, ⟨0, rfl, rfl, rfl, Nat.zero_le _⟩⟩ ?_
  rintro μ10 _ _ ⟨k, hμ10, rfl, rfl, hc10_0⟩ ih10
  refine x_iload_n C dX9_isProduct_10 rfl 3 rfl ?_
  refine x_aload_n C dX9_isProduct_11 rfl 0 rfl ?_
  refine x_geti C sh_87 rfl iX9 1 (by decide) f90 (fun _ h => h) (by decide) rfl dX9_isProduct_12 ?_
  refine x_icmp_ge C 75 dX9_isProduct_15 rfl (fun h1 => ?_) (fun h1 => ?_)
  · refine x_iload_n C dX9_isProduct_75 rfl 2 rfl ?_
    exact x_zret C (mKN σ c1 k) rfl hr hlk dX9_isProduct_76 ⟨by rw [mPr, show (σ 209 0).toNatClampNeg = k from Nat.le_antisymm ((le_nI (by have := clamp_lt (σ 209 0); omega)).mp h1) hc10_0], rfl⟩
  · have hb := (mvcr hM).2
    have hkn : k < (σ 209 0).toNatClampNeg := Nat.lt_of_not_le (fun hq => h1 ((le_nI (by have := clamp_lt (σ 209 0); omega)).mpr hq))
    have hcl : (nI k).toNatClampNeg = k := nI_clamp (by omega)
    refine x_iload_n C dX9_isProduct_18 rfl 2 rfl ?_
    refine x_bif_eq C 67 dX9_isProduct_19 rfl (fun h2 => ?_) (fun h2 => ?_)
    · refine x_iconst C (0 : Int32) (by decide) dX9_isProduct_67 ?_
      refine x_istore_n C [(2, .int (0 : Int32)), (0, ra V 87), (1, .int c1), (3, .int (nI k))] dX9_isProduct_68 rfl (by decide) rfl ?_
      refine x_iinc C (q := 3) ((nI k) + (1 : Int32)) [(3, .int ((nI k) + (1 : Int32))), (2, .int (0 : Int32)), (0, ra V 87), (1, .int c1)] dX9_isProduct_69 rfl rfl (by decide) rfl ?_
      refine x_goto C 10 dX9_isProduct_72 rfl ?_
      refine x_lv [2, 3, 1, 0] [(0, ra V 87), (1, .int c1), (2, .int (0 : Int32)), (3, .int ((nI k) + (1 : Int32)))] rfl ?_
      exact ih10 _ _ _ (by omega) ⟨k + 1, rfl, rfl, by rw [nI_succ]; simp [mKN, mRBad, bI, h2], hkn⟩
    · refine x_iload_n C dX9_isProduct_22 rfl 1 rfl ?_
      refine x_aload_n C dX9_isProduct_23 rfl 0 rfl ?_
      refine x_getr C sh_87 rfl iX9 3 (by decide) f13 (fun _ h => h) (by decide) rfl dX9_isProduct_24 ?_
      refine x_iload_n C dX9_isProduct_27 rfl 3 rfl ?_
      refine x_iald C sh_89 (vp_in_nI (n := k) (N := 8) (by omega) (by decide)) dX9_isProduct_28 ?_
      rw [hcl]
      refine x_callS C [.int c1, .int (σ 89 k)] (c_X9_has l V hV σ c1 (σ 89 k)) (va_cwS 2 C.2.2.2.2.1 gX9_isProduct_X9_has rfl rfl rfl (by decide +kernel) ⟨Nat.le_of_ble_eq_true rfl, Nat.le_of_ble_eq_true rfl⟩) rfl rfl (Nat.le_of_ble_eq_true rfl) dX9_isProduct_29 ⟨Nat.le_of_ble_eq_true rfl, Nat.le_of_ble_eq_true rfl⟩ (x_kI ?_)
      refine x_bif_eq C 63 dX9_isProduct_32 rfl (fun h3 => ?_) (fun h3 => ?_)
      · refine x_iconst C (1 : Int32) (by decide) dX9_isProduct_63 ?_
        refine x_goto C 68 dX9_isProduct_64 rfl ?_
        refine x_istore_n C [(2, .int (1 : Int32)), (0, ra V 87), (1, .int c1), (3, .int (nI k))] dX9_isProduct_68 rfl (by decide) rfl ?_
        refine x_iinc C (q := 3) ((nI k) + (1 : Int32)) [(3, .int ((nI k) + (1 : Int32))), (2, .int (1 : Int32)), (0, ra V 87), (1, .int c1)] dX9_isProduct_69 rfl rfl (by decide) rfl ?_
        refine x_goto C 10 dX9_isProduct_72 rfl ?_
        refine x_lv [2, 3, 1, 0] [(0, ra V 87), (1, .int c1), (2, .int (1 : Int32)), (3, .int ((nI k) + (1 : Int32)))] rfl ?_
        exact ih10 _ _ _ (by omega) ⟨k + 1, rfl, rfl, by rw [nI_succ]; simp [mKN, mRBad, bI, h2, h3], hkn⟩
      · refine x_iload_n C dX9_isProduct_35 rfl 1 rfl ?_
        refine x_aload_n C dX9_isProduct_36 rfl 0 rfl ?_
        refine x_getr C sh_87 rfl iX9 4 (by decide) f16 (fun _ h => h) (by decide) rfl dX9_isProduct_37 ?_
        refine x_iload_n C dX9_isProduct_40 rfl 3 rfl ?_
        refine x_iald C sh_90 (vp_in_nI (n := k) (N := 8) (by omega) (by decide)) dX9_isProduct_41 ?_
        rw [hcl]
        refine x_callS C [.int c1, .int (σ 90 k)] (c_X9_has l V hV σ c1 (σ 90 k)) (va_cwS 2 C.2.2.2.2.1 gX9_isProduct_X9_has rfl rfl rfl (by decide +kernel) ⟨Nat.le_of_ble_eq_true rfl, Nat.le_of_ble_eq_true rfl⟩) rfl rfl (Nat.le_of_ble_eq_true rfl) dX9_isProduct_42 ⟨Nat.le_of_ble_eq_true rfl, Nat.le_of_ble_eq_true rfl⟩ (x_kI ?_)
        refine x_aload_n C dX9_isProduct_45 rfl 0 rfl ?_
        refine x_getr C sh_87 rfl iX9 2 (by decide) f9 (fun _ h => h) (by decide) rfl dX9_isProduct_46 ?_
        refine x_iload_n C dX9_isProduct_49 rfl 3 rfl ?_
        refine x_iald C sh_88 (vp_in_nI (n := k) (N := 8) (by omega) (by decide)) dX9_isProduct_50 ?_
        rw [hcl]
        refine x_iconst C (1 : Int32) (by decide) dX9_isProduct_51 ?_
        refine x_icmp_ne C 59 dX9_isProduct_52 rfl (fun h4 => ?_) (fun h4 => ?_)
        · refine x_iconst C (0 : Int32) (by decide) dX9_isProduct_59 ?_
          refine x_bcmp_eq0 C 67 dX9_isProduct_60 rfl (fun h5 => ?_) (fun h5 => ?_)
          · refine x_iconst C (0 : Int32) (by decide) dX9_isProduct_67 ?_
            refine x_istore_n C [(2, .int (0 : Int32)), (0, ra V 87), (1, .int c1), (3, .int (nI k))] dX9_isProduct_68 rfl (by decide) rfl ?_
            refine x_iinc C (q := 3) ((nI k) + (1 : Int32)) [(3, .int ((nI k) + (1 : Int32))), (2, .int (0 : Int32)), (0, ra V 87), (1, .int c1)] dX9_isProduct_69 rfl rfl (by decide) rfl ?_
            refine x_goto C 10 dX9_isProduct_72 rfl ?_
            refine x_lv [2, 3, 1, 0] [(0, ra V 87), (1, .int c1), (2, .int (0 : Int32)), (3, .int ((nI k) + (1 : Int32)))] rfl ?_
            exact ih10 _ _ _ (by omega) ⟨k + 1, rfl, rfl, by rw [nI_succ]; simp [mKN, mRBad, bI, h2, h3, h4, h5], hkn⟩
          · refine x_iconst C (1 : Int32) (by decide) dX9_isProduct_63 ?_
            refine x_goto C 68 dX9_isProduct_64 rfl ?_
            refine x_istore_n C [(2, .int (1 : Int32)), (0, ra V 87), (1, .int c1), (3, .int (nI k))] dX9_isProduct_68 rfl (by decide) rfl ?_
            refine x_iinc C (q := 3) ((nI k) + (1 : Int32)) [(3, .int ((nI k) + (1 : Int32))), (2, .int (1 : Int32)), (0, ra V 87), (1, .int c1)] dX9_isProduct_69 rfl rfl (by decide) rfl ?_
            refine x_goto C 10 dX9_isProduct_72 rfl ?_
            refine x_lv [2, 3, 1, 0] [(0, ra V 87), (1, .int c1), (2, .int (1 : Int32)), (3, .int ((nI k) + (1 : Int32)))] rfl ?_
            exact ih10 _ _ _ (by omega) ⟨k + 1, rfl, rfl, by rw [nI_succ]; simp [mKN, mRBad, bI, h2, h3, h4, h5], hkn⟩
        · refine x_iconst C (1 : Int32) (by decide) dX9_isProduct_55 ?_
          refine x_goto C 60 dX9_isProduct_56 rfl ?_
          refine x_bcmp_eq1 C 67 dX9_isProduct_60 rfl (fun h6 => ?_) (fun h6 => ?_)
          · refine x_iconst C (0 : Int32) (by decide) dX9_isProduct_67 ?_
            refine x_istore_n C [(2, .int (0 : Int32)), (0, ra V 87), (1, .int c1), (3, .int (nI k))] dX9_isProduct_68 rfl (by decide) rfl ?_
            refine x_iinc C (q := 3) ((nI k) + (1 : Int32)) [(3, .int ((nI k) + (1 : Int32))), (2, .int (0 : Int32)), (0, ra V 87), (1, .int c1)] dX9_isProduct_69 rfl rfl (by decide) rfl ?_
            refine x_goto C 10 dX9_isProduct_72 rfl ?_
            refine x_lv [2, 3, 1, 0] [(0, ra V 87), (1, .int c1), (2, .int (0 : Int32)), (3, .int ((nI k) + (1 : Int32)))] rfl ?_
            exact ih10 _ _ _ (by omega) ⟨k + 1, rfl, rfl, by rw [nI_succ]; simp [mKN, mRBad, bI, h2, h3, eq_true h4, h6], hkn⟩
          · refine x_iconst C (1 : Int32) (by decide) dX9_isProduct_63 ?_
            refine x_goto C 68 dX9_isProduct_64 rfl ?_
            refine x_istore_n C [(2, .int (1 : Int32)), (0, ra V 87), (1, .int c1), (3, .int (nI k))] dX9_isProduct_68 rfl (by decide) rfl ?_
            refine x_iinc C (q := 3) ((nI k) + (1 : Int32)) [(3, .int ((nI k) + (1 : Int32))), (2, .int (1 : Int32)), (0, ra V 87), (1, .int c1)] dX9_isProduct_69 rfl rfl (by decide) rfl ?_
            refine x_goto C 10 dX9_isProduct_72 rfl ?_
            refine x_lv [2, 3, 1, 0] [(0, ra V 87), (1, .int c1), (2, .int (1 : Int32)), (3, .int ((nI k) + (1 : Int32)))] rfl ?_
            exact ih10 _ _ _ (by omega) ⟨k + 1, rfl, rfl, by rw [nI_succ]; simp [mKN, mRBad, bI, h2, h3, eq_true h4, h6], hkn⟩

set_option maxHeartbeats 4000000 in
set_option maxRecDepth 100000 in
theorem c_X9_allProducts (l : Launch) (V : xV) (hV : xInj V) (σ : xS)  (hM : mV σ) : xM l yX9_allProducts wsX9_allProducts ({ frames := 2, cells := 0, slots := 0, locals := 45 }) V [ra V 87] σ (rI (mAll σ) σ) := by
  refine xM_of (cc := cX9_allProducts) (maxL := 3) (ret := (some .int)) [(0, ra V 87)] hV (by decide) rfl rfl (Nat.le_of_ble_eq_true rfl) (fun p e s m args below meth c C hr hlk => ?_)
  refine x_iconst C (0 : Int32) (by decide) dX9_allProducts_0 ?_
  refine x_istore_n C [(1, .int (0 : Int32)), (0, ra V 87)] dX9_allProducts_1 rfl (by decide) rfl ?_
  refine x_iconst C (0 : Int32) (by decide) dX9_allProducts_2 ?_
  refine x_istore_n C [(2, .int (0 : Int32)), (1, .int (0 : Int32)), (0, ra V 87)] dX9_allProducts_3 rfl (by decide) rfl ?_
  refine x_lv [2, 1, 0] [(0, ra V 87), (1, .int (0 : Int32)), (2, .int (0 : Int32))] rfl ?_
  refine x_loop (fun μ σ_ lv_ => ∃ (k : Nat), μ = 16 - k ∧ σ = σ_ ∧ lv_ = [(0, ra V 87), (1, .int (maskI (fun c => mPr σ (nI c)) k)), (2, .int (nI k))] ∧ k ≤ 16) ⟨_, ⟨0, rfl, rfl, rfl, Nat.zero_le _⟩⟩ ?_
  rintro μ4 _ _ ⟨k, hμ4, rfl, rfl, hc4_0⟩ ih4
  refine x_iload_n C dX9_allProducts_4 rfl 2 rfl ?_
  refine x_bipush C (16 : Int32) (by decide) dX9_allProducts_5 ?_
  refine x_icmp_ge C 30 dX9_allProducts_7 rfl (fun h1 => ?_) (fun h1 => ?_)
  · refine x_iload_n C dX9_allProducts_30 rfl 1 rfl ?_
    exact x_iret C hr hlk dX9_allProducts_31 ⟨by rw [show k = 16 from Nat.le_antisymm hc4_0 (Nat.le_of_not_lt (fun hq => nI_ge hq (by decide) h1))]; rfl, rfl⟩
  · have hkn : k < 16 := Nat.lt_of_not_le (fun hq => h1 (nI_le hq (by omega)))
    refine x_aload_n C dX9_allProducts_10 rfl 0 rfl ?_
    refine x_iload_n C dX9_allProducts_11 rfl 2 rfl ?_
    refine x_callV C sh_87 (by decide) rfl [.int (nI k)] (c_X9_isProduct l V hV σ (nI k) hM) (cwV 1 C.2.2.2.2.1 gX9_allProducts_X9_isProduct rfl rfl rfl (by decide +kernel) ⟨Nat.le_of_ble_eq_true rfl, Nat.le_of_ble_eq_true rfl⟩) rfl rfl (Nat.le_of_ble_eq_true rfl) dX9_allProducts_12 ⟨Nat.le_of_ble_eq_true rfl, Nat.le_of_ble_eq_true rfl⟩ (x_kI ?_)
    refine x_bif_eq C 24 dX9_allProducts_15 rfl (fun h2 => ?_) (fun h2 => ?_)
    · refine x_iinc C (q := 2) ((nI k) + (1 : Int32)) [(2, .int ((nI k) + (1 : Int32))), (0, ra V 87), (1, .int (maskI (fun c => mPr σ (nI c)) k))] dX9_allProducts_24 rfl rfl (by decide) rfl ?_
      refine x_goto C 4 dX9_allProducts_27 rfl ?_
      refine x_lv [1, 2, 0] [(0, ra V 87), (1, .int (maskI (fun c => mPr σ (nI c)) k)), (2, .int ((nI k) + (1 : Int32)))] rfl ?_
      exact ih4 _ _ _ (by omega) ⟨k + 1, rfl, rfl, by rw [nI_succ]; simp [maskI, h2], hkn⟩
    · refine x_iload_n C dX9_allProducts_18 rfl 1 rfl ?_
      refine x_iconst C (1 : Int32) (by decide) dX9_allProducts_19 ?_
      refine x_iload_n C dX9_allProducts_20 rfl 2 rfl ?_
      refine x_ishl C dX9_allProducts_21 ?_
      refine x_ior C dX9_allProducts_22 ?_
      refine x_istore_n C [(1, .int ((maskI (fun c => mPr σ (nI c)) k) ||| ((1 : Int32) <<< ((nI k) &&& 31)))), (0, ra V 87), (2, .int (nI k))] dX9_allProducts_23 rfl (by decide) rfl ?_
      refine x_iinc C (q := 2) ((nI k) + (1 : Int32)) [(2, .int ((nI k) + (1 : Int32))), (1, .int ((maskI (fun c => mPr σ (nI c)) k) ||| ((1 : Int32) <<< ((nI k) &&& 31)))), (0, ra V 87)] dX9_allProducts_24 rfl rfl (by decide) rfl ?_
      refine x_goto C 4 dX9_allProducts_27 rfl ?_
      refine x_lv [2, 1, 0] [(0, ra V 87), (1, .int ((maskI (fun c => mPr σ (nI c)) k) ||| ((1 : Int32) <<< ((nI k) &&& 31)))), (2, .int ((nI k) + (1 : Int32)))] rfl ?_
      exact ih4 _ _ _ (by omega) ⟨k + 1, rfl, rfl, by rw [nI_succ]; simp [maskI, h2], hkn⟩

set_option maxHeartbeats 4000000 in
set_option maxRecDepth 100000 in
theorem c_X9_isMeant_0 (l : Launch) (V : xV) (hV : xInj V) (σ : xS) (i c1 : Int32) (hi : vp_in i 24) : xM l yX9_isMeant wsX9_isMeant ({ frames := 0, cells := 0, slots := 0, locals := 0 }) V [ra V 87, .int (0 : Int32), .int i, .int c1] σ (rI (bI (mMt σ (0 : Int32) i c1)) σ) := by
  refine xM_of (cc := cX9_isMeant) (maxL := 5) (ret := (some .boolean)) [(0, ra V 87), (1, .int (0 : Int32)), (2, .int i), (3, .int c1)] hV (by decide) rfl rfl (Nat.le_of_ble_eq_true rfl) (fun p e s m args below meth c C hr hlk => ?_)
  have iX9 : ∀ w ∈ u_ws RX9 TX9 24, w ∈ wsX9_isMeant := by decide +kernel
  have f22 : (Cond.fieldLink RX9 22 RX9 (TX9 6).2.1 (TX9 6).2.2.1).before args s = true := C.2.2.2.2.1 _ (by decide +kernel)
  have f25 : (Cond.fieldLink RX9 25 RX9 (TX9 7).2.1 (TX9 7).2.2.1).before args s = true := C.2.2.2.2.1 _ (by decide +kernel)
  refine x_bipush C (24 : Int32) (by decide) dX9_isMeant_0 ?_
  refine x_iload_n C dX9_isMeant_2 rfl 1 rfl ?_
  refine x_imul C dX9_isMeant_3 ?_
  refine x_iload_n C dX9_isMeant_4 rfl 2 rfl ?_
  refine x_iadd C dX9_isMeant_5 ?_
  refine x_istore C [(4, .int (((24 : Int32) * (0 : Int32)) + i)), (0, ra V 87), (1, .int (0 : Int32)), (2, .int i), (3, .int c1)] dX9_isMeant_6 (by decide) rfl ?_
  refine x_aload_n C dX9_isMeant_8 rfl 1 rfl ?_
  refine x_getr C sh_87 rfl iX9 6 (by decide) f22 (fun _ h => h) (by decide) rfl dX9_isMeant_9 ?_
  refine x_iload C dX9_isMeant_12 0 rfl ?_
  refine x_iald C sh_92 (vp_le (vp_add (vp_mulk 24 (vp_lit 0 (by decide)) (by decide)) hi (by decide)) (by decide)) dX9_isMeant_14 ?_
  refine x_iload_n C dX9_isMeant_15 rfl 4 rfl ?_
  refine x_iconst C (-1 : Int32) (by decide) dX9_isMeant_16 ?_
  refine x_ixor C dX9_isMeant_17 ?_
  refine x_iand C dX9_isMeant_18 ?_
  refine x_if_ne C 38 dX9_isMeant_19 rfl (fun h1 => ?_) (fun h1 => ?_)
  · refine x_iconst C (0 : Int32) (by decide) dX9_isMeant_38 ?_
    exact x_zret C false rfl hr hlk dX9_isMeant_39 ⟨by unfold mMt; first | (rw [decide_eq_true h1, decide_eq_true h2]; rfl) | (rw [decide_eq_true h1, decide_eq_false h2]; rfl) | (rw [decide_eq_false h1]; rfl), rfl⟩
  · refine x_aload_n C dX9_isMeant_22 rfl 1 rfl ?_
    refine x_getr C sh_87 rfl iX9 7 (by decide) f25 (fun _ h => h) (by decide) rfl dX9_isMeant_23 ?_
    refine x_iload C dX9_isMeant_26 0 rfl ?_
    refine x_iald C sh_93 (vp_le (vp_add (vp_mulk 24 (vp_lit 0 (by decide)) (by decide)) hi (by decide)) (by decide)) dX9_isMeant_28 ?_
    refine x_iload_n C dX9_isMeant_29 rfl 4 rfl ?_
    refine x_iand C dX9_isMeant_30 ?_
    refine x_if_ne C 38 dX9_isMeant_31 rfl (fun h2 => ?_) (fun h2 => ?_)
    · refine x_iconst C (0 : Int32) (by decide) dX9_isMeant_38 ?_
      exact x_zret C false rfl hr hlk dX9_isMeant_39 ⟨by unfold mMt; first | (rw [decide_eq_true h1, decide_eq_true h2]; rfl) | (rw [decide_eq_true h1, decide_eq_false h2]; rfl) | (rw [decide_eq_false h1]; rfl), rfl⟩
    · refine x_iconst C (1 : Int32) (by decide) dX9_isMeant_34 ?_
      refine x_goto C 39 dX9_isMeant_35 rfl ?_
      exact x_zret C true rfl hr hlk dX9_isMeant_39 ⟨by unfold mMt; first | (rw [decide_eq_true h1, decide_eq_true h2]; rfl) | (rw [decide_eq_true h1, decide_eq_false h2]; rfl) | (rw [decide_eq_false h1]; rfl), rfl⟩

set_option maxHeartbeats 4000000 in
set_option maxRecDepth 100000 in
theorem c_X9_isMeant_1 (l : Launch) (V : xV) (hV : xInj V) (σ : xS) (i c1 : Int32) (hi : vp_in i 24) : xM l yX9_isMeant wsX9_isMeant ({ frames := 0, cells := 0, slots := 0, locals := 0 }) V [ra V 87, .int (1 : Int32), .int i, .int c1] σ (rI (bI (mMt σ (1 : Int32) i c1)) σ) := by
  refine xM_of (cc := cX9_isMeant) (maxL := 5) (ret := (some .boolean)) [(0, ra V 87), (1, .int (1 : Int32)), (2, .int i), (3, .int c1)] hV (by decide) rfl rfl (Nat.le_of_ble_eq_true rfl) (fun p e s m args below meth c C hr hlk => ?_)
  have iX9 : ∀ w ∈ u_ws RX9 TX9 24, w ∈ wsX9_isMeant := by decide +kernel
  have f22 : (Cond.fieldLink RX9 22 RX9 (TX9 6).2.1 (TX9 6).2.2.1).before args s = true := C.2.2.2.2.1 _ (by decide +kernel)
  have f25 : (Cond.fieldLink RX9 25 RX9 (TX9 7).2.1 (TX9 7).2.2.1).before args s = true := C.2.2.2.2.1 _ (by decide +kernel)
  refine x_bipush C (24 : Int32) (by decide) dX9_isMeant_0 ?_
  refine x_iload_n C dX9_isMeant_2 rfl 1 rfl ?_
  refine x_imul C dX9_isMeant_3 ?_
  refine x_iload_n C dX9_isMeant_4 rfl 2 rfl ?_
  refine x_iadd C dX9_isMeant_5 ?_
  refine x_istore C [(4, .int (((24 : Int32) * (1 : Int32)) + i)), (0, ra V 87), (1, .int (1 : Int32)), (2, .int i), (3, .int c1)] dX9_isMeant_6 (by decide) rfl ?_
  refine x_aload_n C dX9_isMeant_8 rfl 1 rfl ?_
  refine x_getr C sh_87 rfl iX9 6 (by decide) f22 (fun _ h => h) (by decide) rfl dX9_isMeant_9 ?_
  refine x_iload C dX9_isMeant_12 0 rfl ?_
  refine x_iald C sh_92 (vp_le (vp_add (vp_mulk 24 (vp_lit 1 (by decide)) (by decide)) hi (by decide)) (by decide)) dX9_isMeant_14 ?_
  refine x_iload_n C dX9_isMeant_15 rfl 4 rfl ?_
  refine x_iconst C (-1 : Int32) (by decide) dX9_isMeant_16 ?_
  refine x_ixor C dX9_isMeant_17 ?_
  refine x_iand C dX9_isMeant_18 ?_
  refine x_if_ne C 38 dX9_isMeant_19 rfl (fun h1 => ?_) (fun h1 => ?_)
  · refine x_iconst C (0 : Int32) (by decide) dX9_isMeant_38 ?_
    exact x_zret C false rfl hr hlk dX9_isMeant_39 ⟨by unfold mMt; first | (rw [decide_eq_true h1, decide_eq_true h2]; rfl) | (rw [decide_eq_true h1, decide_eq_false h2]; rfl) | (rw [decide_eq_false h1]; rfl), rfl⟩
  · refine x_aload_n C dX9_isMeant_22 rfl 1 rfl ?_
    refine x_getr C sh_87 rfl iX9 7 (by decide) f25 (fun _ h => h) (by decide) rfl dX9_isMeant_23 ?_
    refine x_iload C dX9_isMeant_26 0 rfl ?_
    refine x_iald C sh_93 (vp_le (vp_add (vp_mulk 24 (vp_lit 1 (by decide)) (by decide)) hi (by decide)) (by decide)) dX9_isMeant_28 ?_
    refine x_iload_n C dX9_isMeant_29 rfl 4 rfl ?_
    refine x_iand C dX9_isMeant_30 ?_
    refine x_if_ne C 38 dX9_isMeant_31 rfl (fun h2 => ?_) (fun h2 => ?_)
    · refine x_iconst C (0 : Int32) (by decide) dX9_isMeant_38 ?_
      exact x_zret C false rfl hr hlk dX9_isMeant_39 ⟨by unfold mMt; first | (rw [decide_eq_true h1, decide_eq_true h2]; rfl) | (rw [decide_eq_true h1, decide_eq_false h2]; rfl) | (rw [decide_eq_false h1]; rfl), rfl⟩
    · refine x_iconst C (1 : Int32) (by decide) dX9_isMeant_34 ?_
      refine x_goto C 39 dX9_isMeant_35 rfl ?_
      exact x_zret C true rfl hr hlk dX9_isMeant_39 ⟨by unfold mMt; first | (rw [decide_eq_true h1, decide_eq_true h2]; rfl) | (rw [decide_eq_true h1, decide_eq_false h2]; rfl) | (rw [decide_eq_false h1]; rfl), rfl⟩

set_option maxHeartbeats 4000000 in
set_option maxRecDepth 100000 in
theorem c_X9_isMeant_2 (l : Launch) (V : xV) (hV : xInj V) (σ : xS) (i c1 : Int32) (hi : vp_in i 24) : xM l yX9_isMeant wsX9_isMeant ({ frames := 0, cells := 0, slots := 0, locals := 0 }) V [ra V 87, .int (2 : Int32), .int i, .int c1] σ (rI (bI (mMt σ (2 : Int32) i c1)) σ) := by
  refine xM_of (cc := cX9_isMeant) (maxL := 5) (ret := (some .boolean)) [(0, ra V 87), (1, .int (2 : Int32)), (2, .int i), (3, .int c1)] hV (by decide) rfl rfl (Nat.le_of_ble_eq_true rfl) (fun p e s m args below meth c C hr hlk => ?_)
  have iX9 : ∀ w ∈ u_ws RX9 TX9 24, w ∈ wsX9_isMeant := by decide +kernel
  have f22 : (Cond.fieldLink RX9 22 RX9 (TX9 6).2.1 (TX9 6).2.2.1).before args s = true := C.2.2.2.2.1 _ (by decide +kernel)
  have f25 : (Cond.fieldLink RX9 25 RX9 (TX9 7).2.1 (TX9 7).2.2.1).before args s = true := C.2.2.2.2.1 _ (by decide +kernel)
  refine x_bipush C (24 : Int32) (by decide) dX9_isMeant_0 ?_
  refine x_iload_n C dX9_isMeant_2 rfl 1 rfl ?_
  refine x_imul C dX9_isMeant_3 ?_
  refine x_iload_n C dX9_isMeant_4 rfl 2 rfl ?_
  refine x_iadd C dX9_isMeant_5 ?_
  refine x_istore C [(4, .int (((24 : Int32) * (2 : Int32)) + i)), (0, ra V 87), (1, .int (2 : Int32)), (2, .int i), (3, .int c1)] dX9_isMeant_6 (by decide) rfl ?_
  refine x_aload_n C dX9_isMeant_8 rfl 1 rfl ?_
  refine x_getr C sh_87 rfl iX9 6 (by decide) f22 (fun _ h => h) (by decide) rfl dX9_isMeant_9 ?_
  refine x_iload C dX9_isMeant_12 0 rfl ?_
  refine x_iald C sh_92 (vp_le (vp_add (vp_mulk 24 (vp_lit 2 (by decide)) (by decide)) hi (by decide)) (by decide)) dX9_isMeant_14 ?_
  refine x_iload_n C dX9_isMeant_15 rfl 4 rfl ?_
  refine x_iconst C (-1 : Int32) (by decide) dX9_isMeant_16 ?_
  refine x_ixor C dX9_isMeant_17 ?_
  refine x_iand C dX9_isMeant_18 ?_
  refine x_if_ne C 38 dX9_isMeant_19 rfl (fun h1 => ?_) (fun h1 => ?_)
  · refine x_iconst C (0 : Int32) (by decide) dX9_isMeant_38 ?_
    exact x_zret C false rfl hr hlk dX9_isMeant_39 ⟨by unfold mMt; first | (rw [decide_eq_true h1, decide_eq_true h2]; rfl) | (rw [decide_eq_true h1, decide_eq_false h2]; rfl) | (rw [decide_eq_false h1]; rfl), rfl⟩
  · refine x_aload_n C dX9_isMeant_22 rfl 1 rfl ?_
    refine x_getr C sh_87 rfl iX9 7 (by decide) f25 (fun _ h => h) (by decide) rfl dX9_isMeant_23 ?_
    refine x_iload C dX9_isMeant_26 0 rfl ?_
    refine x_iald C sh_93 (vp_le (vp_add (vp_mulk 24 (vp_lit 2 (by decide)) (by decide)) hi (by decide)) (by decide)) dX9_isMeant_28 ?_
    refine x_iload_n C dX9_isMeant_29 rfl 4 rfl ?_
    refine x_iand C dX9_isMeant_30 ?_
    refine x_if_ne C 38 dX9_isMeant_31 rfl (fun h2 => ?_) (fun h2 => ?_)
    · refine x_iconst C (0 : Int32) (by decide) dX9_isMeant_38 ?_
      exact x_zret C false rfl hr hlk dX9_isMeant_39 ⟨by unfold mMt; first | (rw [decide_eq_true h1, decide_eq_true h2]; rfl) | (rw [decide_eq_true h1, decide_eq_false h2]; rfl) | (rw [decide_eq_false h1]; rfl), rfl⟩
    · refine x_iconst C (1 : Int32) (by decide) dX9_isMeant_34 ?_
      refine x_goto C 39 dX9_isMeant_35 rfl ?_
      exact x_zret C true rfl hr hlk dX9_isMeant_39 ⟨by unfold mMt; first | (rw [decide_eq_true h1, decide_eq_true h2]; rfl) | (rw [decide_eq_true h1, decide_eq_false h2]; rfl) | (rw [decide_eq_false h1]; rfl), rfl⟩

set_option maxHeartbeats 4000000 in
set_option maxRecDepth 100000 in
theorem c_X9_isMeant_3 (l : Launch) (V : xV) (hV : xInj V) (σ : xS) (i c1 : Int32) (hi : vp_in i 24) : xM l yX9_isMeant wsX9_isMeant ({ frames := 0, cells := 0, slots := 0, locals := 0 }) V [ra V 87, .int (3 : Int32), .int i, .int c1] σ (rI (bI (mMt σ (3 : Int32) i c1)) σ) := by
  refine xM_of (cc := cX9_isMeant) (maxL := 5) (ret := (some .boolean)) [(0, ra V 87), (1, .int (3 : Int32)), (2, .int i), (3, .int c1)] hV (by decide) rfl rfl (Nat.le_of_ble_eq_true rfl) (fun p e s m args below meth c C hr hlk => ?_)
  have iX9 : ∀ w ∈ u_ws RX9 TX9 24, w ∈ wsX9_isMeant := by decide +kernel
  have f22 : (Cond.fieldLink RX9 22 RX9 (TX9 6).2.1 (TX9 6).2.2.1).before args s = true := C.2.2.2.2.1 _ (by decide +kernel)
  have f25 : (Cond.fieldLink RX9 25 RX9 (TX9 7).2.1 (TX9 7).2.2.1).before args s = true := C.2.2.2.2.1 _ (by decide +kernel)
  refine x_bipush C (24 : Int32) (by decide) dX9_isMeant_0 ?_
  refine x_iload_n C dX9_isMeant_2 rfl 1 rfl ?_
  refine x_imul C dX9_isMeant_3 ?_
  refine x_iload_n C dX9_isMeant_4 rfl 2 rfl ?_
  refine x_iadd C dX9_isMeant_5 ?_
  refine x_istore C [(4, .int (((24 : Int32) * (3 : Int32)) + i)), (0, ra V 87), (1, .int (3 : Int32)), (2, .int i), (3, .int c1)] dX9_isMeant_6 (by decide) rfl ?_
  refine x_aload_n C dX9_isMeant_8 rfl 1 rfl ?_
  refine x_getr C sh_87 rfl iX9 6 (by decide) f22 (fun _ h => h) (by decide) rfl dX9_isMeant_9 ?_
  refine x_iload C dX9_isMeant_12 0 rfl ?_
  refine x_iald C sh_92 (vp_add (vp_mulk 24 (vp_lit 3 (by decide)) (by decide)) hi (by decide)) dX9_isMeant_14 ?_
  refine x_iload_n C dX9_isMeant_15 rfl 4 rfl ?_
  refine x_iconst C (-1 : Int32) (by decide) dX9_isMeant_16 ?_
  refine x_ixor C dX9_isMeant_17 ?_
  refine x_iand C dX9_isMeant_18 ?_
  refine x_if_ne C 38 dX9_isMeant_19 rfl (fun h1 => ?_) (fun h1 => ?_)
  · refine x_iconst C (0 : Int32) (by decide) dX9_isMeant_38 ?_
    exact x_zret C false rfl hr hlk dX9_isMeant_39 ⟨by unfold mMt; first | (rw [decide_eq_true h1, decide_eq_true h2]; rfl) | (rw [decide_eq_true h1, decide_eq_false h2]; rfl) | (rw [decide_eq_false h1]; rfl), rfl⟩
  · refine x_aload_n C dX9_isMeant_22 rfl 1 rfl ?_
    refine x_getr C sh_87 rfl iX9 7 (by decide) f25 (fun _ h => h) (by decide) rfl dX9_isMeant_23 ?_
    refine x_iload C dX9_isMeant_26 0 rfl ?_
    refine x_iald C sh_93 (vp_add (vp_mulk 24 (vp_lit 3 (by decide)) (by decide)) hi (by decide)) dX9_isMeant_28 ?_
    refine x_iload_n C dX9_isMeant_29 rfl 4 rfl ?_
    refine x_iand C dX9_isMeant_30 ?_
    refine x_if_ne C 38 dX9_isMeant_31 rfl (fun h2 => ?_) (fun h2 => ?_)
    · refine x_iconst C (0 : Int32) (by decide) dX9_isMeant_38 ?_
      exact x_zret C false rfl hr hlk dX9_isMeant_39 ⟨by unfold mMt; first | (rw [decide_eq_true h1, decide_eq_true h2]; rfl) | (rw [decide_eq_true h1, decide_eq_false h2]; rfl) | (rw [decide_eq_false h1]; rfl), rfl⟩
    · refine x_iconst C (1 : Int32) (by decide) dX9_isMeant_34 ?_
      refine x_goto C 39 dX9_isMeant_35 rfl ?_
      exact x_zret C true rfl hr hlk dX9_isMeant_39 ⟨by unfold mMt; first | (rw [decide_eq_true h1, decide_eq_true h2]; rfl) | (rw [decide_eq_true h1, decide_eq_false h2]; rfl) | (rw [decide_eq_false h1]; rfl), rfl⟩

set_option maxHeartbeats 4000000 in
set_option maxRecDepth 100000 in
theorem c_X9_is_0 (l : Launch) (V : xV) (hV : xInj V) (σ : xS) (i c1 : Int32) (hM : mV σ) (hi : vp_in i 24) : xM l yX9_is wsX9_is ({ frames := 1, cells := 0, slots := 0, locals := 24 }) V [ra V 87, .int (0 : Int32), .int i, .int c1] σ (rI (bI (mIs σ (0 : Int32) i c1)) σ) := by
  refine xM_of (cc := cX9_is) (maxL := 4) (ret := (some .boolean)) [(0, ra V 87), (1, .int (0 : Int32)), (2, .int i), (3, .int c1)] hV (by decide) rfl rfl (Nat.le_of_ble_eq_true rfl) (fun p e s m args below meth c C hr hlk => ?_)
  refine x_aload_n C dX9_is_0 rfl 0 rfl ?_
  refine x_iload_n C dX9_is_1 rfl 1 rfl ?_
  refine x_iload_n C dX9_is_2 rfl 2 rfl ?_
  refine x_iload_n C dX9_is_3 rfl 3 rfl ?_
  refine x_callV C sh_87 (by decide) rfl [.int (0 : Int32), .int i, .int c1] (c_X9_isMeant_0 l V hV σ i c1 hi) (cwV 3 C.2.2.2.2.1 gX9_is_X9_isMeant rfl rfl rfl (by decide +kernel) ⟨Nat.le_of_ble_eq_true rfl, Nat.le_of_ble_eq_true rfl⟩) rfl rfl (Nat.le_of_ble_eq_true rfl) dX9_is_4 ⟨Nat.le_of_ble_eq_true rfl, Nat.le_of_ble_eq_true rfl⟩ (x_kI ?_)
  refine x_bif_ne C 12 dX9_is_7 rfl (fun h1 => ?_) (fun h1 => ?_)
  · refine x_iload_n C dX9_is_12 rfl 1 rfl ?_
    refine x_iconst C (1 : Int32) (by decide) dX9_is_13 ?_
    refine x_icmp_ne C 53 dX9_is_14 rfl (fun h2 => ?_) (fun h2 => absurd h2 (by decide))
    refine x_iload_n C dX9_is_53 rfl 1 rfl ?_
    refine x_iconst C (2 : Int32) (by decide) dX9_is_54 ?_
    refine x_icmp_ne C 71 dX9_is_55 rfl (fun h3 => ?_) (fun h3 => absurd h3 (by decide))
    refine x_iload_n C dX9_is_71 rfl 1 rfl ?_
    refine x_if_eq C 95 dX9_is_72 rfl (fun h4 => ?_) (fun h4 => absurd h4 (by decide))
    refine x_iconst C (1 : Int32) (by decide) dX9_is_95 ?_
    refine x_goto C 100 dX9_is_96 rfl ?_
    exact x_zret C true rfl hr hlk dX9_is_100 ⟨by simp [mIs, h1], rfl⟩
  · refine x_iconst C (0 : Int32) (by decide) dX9_is_10 ?_
    exact x_zret C false rfl hr hlk dX9_is_11 ⟨by simp [mIs, h1], rfl⟩

set_option maxHeartbeats 4000000 in
set_option maxRecDepth 100000 in
theorem c_X9_is_1 (l : Launch) (V : xV) (hV : xInj V) (σ : xS) (i c1 : Int32) (hM : mV σ) (hi : vp_in i 12) : xM l yX9_is wsX9_is ({ frames := 1, cells := 0, slots := 0, locals := 24 }) V [ra V 87, .int (1 : Int32), .int i, .int c1] σ (rI (bI (mIs σ (1 : Int32) i c1)) σ) := by
  refine xM_of (cc := cX9_is) (maxL := 4) (ret := (some .boolean)) [(0, ra V 87), (1, .int (1 : Int32)), (2, .int i), (3, .int c1)] hV (by decide) rfl rfl (Nat.le_of_ble_eq_true rfl) (fun p e s m args below meth c C hr hlk => ?_)
  have iX9 : ∀ w ∈ u_ws RX9 TX9 24, w ∈ wsX9_is := by decide +kernel
  have f28 : (Cond.fieldLink RX9 28 RX9 (TX9 8).2.1 (TX9 8).2.2.1).before args s = true := C.2.2.2.2.1 _ (by decide +kernel)
  have f31 : (Cond.fieldLink RX9 31 RX9 (TX9 9).2.1 (TX9 9).2.2.1).before args s = true := C.2.2.2.2.1 _ (by decide +kernel)
  refine x_aload_n C dX9_is_0 rfl 0 rfl ?_
  refine x_iload_n C dX9_is_1 rfl 1 rfl ?_
  refine x_iload_n C dX9_is_2 rfl 2 rfl ?_
  refine x_iload_n C dX9_is_3 rfl 3 rfl ?_
  refine x_callV C sh_87 (by decide) rfl [.int (1 : Int32), .int i, .int c1] (c_X9_isMeant_1 l V hV σ i c1 (vp_le hi (by decide))) (cwV 3 C.2.2.2.2.1 gX9_is_X9_isMeant rfl rfl rfl (by decide +kernel) ⟨Nat.le_of_ble_eq_true rfl, Nat.le_of_ble_eq_true rfl⟩) rfl rfl (Nat.le_of_ble_eq_true rfl) dX9_is_4 ⟨Nat.le_of_ble_eq_true rfl, Nat.le_of_ble_eq_true rfl⟩ (x_kI ?_)
  refine x_bif_ne C 12 dX9_is_7 rfl (fun h1 => ?_) (fun h1 => ?_)
  · refine x_iload_n C dX9_is_12 rfl 1 rfl ?_
    refine x_iconst C (1 : Int32) (by decide) dX9_is_13 ?_
    refine x_icmp_ne C 53 dX9_is_14 rfl (fun h2 => absurd h2 (by decide)) (fun h2 => ?_)
    refine x_aload_n C dX9_is_17 rfl 0 rfl ?_
    refine x_iconst C (0 : Int32) (by decide) dX9_is_18 ?_
    refine x_aload_n C dX9_is_19 rfl 0 rfl ?_
    refine x_getr C sh_87 rfl iX9 8 (by decide) f28 (fun _ h => h) (by decide) rfl dX9_is_20 ?_
    refine x_iload_n C dX9_is_23 rfl 2 rfl ?_
    refine x_iald C sh_94 hi dX9_is_24 ?_
    refine x_iload_n C dX9_is_25 rfl 3 rfl ?_
    refine x_callV C sh_87 (by decide) rfl [.int (0 : Int32), .int (σ 94 i.toNatClampNeg), .int c1] (c_X9_isMeant_0 l V hV σ (σ 94 i.toNatClampNeg) c1 (vp_le (mv94 hM hi) (by decide))) (cwV 3 C.2.2.2.2.1 gX9_is_X9_isMeant rfl rfl rfl (by decide +kernel) ⟨Nat.le_of_ble_eq_true rfl, Nat.le_of_ble_eq_true rfl⟩) rfl rfl (Nat.le_of_ble_eq_true rfl) dX9_is_26 ⟨Nat.le_of_ble_eq_true rfl, Nat.le_of_ble_eq_true rfl⟩ (x_kI ?_)
    refine x_bif_eq C 51 dX9_is_29 rfl (fun h3 => ?_) (fun h3 => ?_)
    · refine x_iconst C (0 : Int32) (by decide) dX9_is_51 ?_
      exact x_zret C false rfl hr hlk dX9_is_52 ⟨by simp [mIs, h1, h3], rfl⟩
    · refine x_aload_n C dX9_is_32 rfl 0 rfl ?_
      refine x_iconst C (0 : Int32) (by decide) dX9_is_33 ?_
      refine x_aload_n C dX9_is_34 rfl 0 rfl ?_
      refine x_getr C sh_87 rfl iX9 9 (by decide) f31 (fun _ h => h) (by decide) rfl dX9_is_35 ?_
      refine x_iload_n C dX9_is_38 rfl 2 rfl ?_
      refine x_iald C sh_95 hi dX9_is_39 ?_
      refine x_iload_n C dX9_is_40 rfl 3 rfl ?_
      refine x_callV C sh_87 (by decide) rfl [.int (0 : Int32), .int (σ 95 i.toNatClampNeg), .int c1] (c_X9_isMeant_0 l V hV σ (σ 95 i.toNatClampNeg) c1 (vp_le (mv95 hM hi) (by decide))) (cwV 3 C.2.2.2.2.1 gX9_is_X9_isMeant rfl rfl rfl (by decide +kernel) ⟨Nat.le_of_ble_eq_true rfl, Nat.le_of_ble_eq_true rfl⟩) rfl rfl (Nat.le_of_ble_eq_true rfl) dX9_is_41 ⟨Nat.le_of_ble_eq_true rfl, Nat.le_of_ble_eq_true rfl⟩ (x_kI ?_)
      refine x_bif_eq C 51 dX9_is_44 rfl (fun h4 => ?_) (fun h4 => ?_)
      · refine x_iconst C (0 : Int32) (by decide) dX9_is_51 ?_
        exact x_zret C false rfl hr hlk dX9_is_52 ⟨by simp [mIs, h1, h3, h4], rfl⟩
      · refine x_iconst C (1 : Int32) (by decide) dX9_is_47 ?_
        refine x_goto C 52 dX9_is_48 rfl ?_
        exact x_zret C true rfl hr hlk dX9_is_52 ⟨by simp [mIs, h1, h3, h4], rfl⟩
  · refine x_iconst C (0 : Int32) (by decide) dX9_is_10 ?_
    exact x_zret C false rfl hr hlk dX9_is_11 ⟨by simp [mIs, h1], rfl⟩

set_option maxHeartbeats 4000000 in
set_option maxRecDepth 100000 in
theorem c_X9_is_2 (l : Launch) (V : xV) (hV : xInj V) (σ : xS) (i c1 : Int32) (hM : mV σ) (hi : vp_in i 24) : xM l yX9_is wsX9_is ({ frames := 1, cells := 0, slots := 0, locals := 24 }) V [ra V 87, .int (2 : Int32), .int i, .int c1] σ (rI (bI (mIs2 σ i c1)) σ) := by
  refine xM_of (cc := cX9_is) (maxL := 4) (ret := (some .boolean)) [(0, ra V 87), (1, .int (2 : Int32)), (2, .int i), (3, .int c1)] hV (by decide) rfl rfl (Nat.le_of_ble_eq_true rfl) (fun p e s m args below meth c C hr hlk => ?_)
  have iX9 : ∀ w ∈ u_ws RX9 TX9 24, w ∈ wsX9_is := by decide +kernel
  have f38 : (Cond.fieldLink RX9 38 RX9 (TX9 11).2.1 (TX9 11).2.2.1).before args s = true := C.2.2.2.2.1 _ (by decide +kernel)
  refine x_aload_n C dX9_is_0 rfl 0 rfl ?_
  refine x_iload_n C dX9_is_1 rfl 1 rfl ?_
  refine x_iload_n C dX9_is_2 rfl 2 rfl ?_
  refine x_iload_n C dX9_is_3 rfl 3 rfl ?_
  refine x_callV C sh_87 (by decide) rfl [.int (2 : Int32), .int i, .int c1] (c_X9_isMeant_2 l V hV σ i c1 hi) (cwV 3 C.2.2.2.2.1 gX9_is_X9_isMeant rfl rfl rfl (by decide +kernel) ⟨Nat.le_of_ble_eq_true rfl, Nat.le_of_ble_eq_true rfl⟩) rfl rfl (Nat.le_of_ble_eq_true rfl) dX9_is_4 ⟨Nat.le_of_ble_eq_true rfl, Nat.le_of_ble_eq_true rfl⟩ (x_kI ?_)
  refine x_bif_ne C 12 dX9_is_7 rfl (fun h1 => ?_) (fun h1 => ?_)
  · refine x_iload_n C dX9_is_12 rfl 1 rfl ?_
    refine x_iconst C (1 : Int32) (by decide) dX9_is_13 ?_
    refine x_icmp_ne C 53 dX9_is_14 rfl (fun h2 => ?_) (fun h2 => absurd h2 (by decide))
    refine x_iload_n C dX9_is_53 rfl 1 rfl ?_
    refine x_iconst C (2 : Int32) (by decide) dX9_is_54 ?_
    refine x_icmp_ne C 71 dX9_is_55 rfl (fun h3 => absurd h3 (by decide)) (fun h3 => ?_)
    refine x_aload_n C dX9_is_58 rfl 0 rfl ?_
    refine x_iconst C (0 : Int32) (by decide) dX9_is_59 ?_
    refine x_aload_n C dX9_is_60 rfl 0 rfl ?_
    refine x_getr C sh_87 rfl iX9 11 (by decide) f38 (fun _ h => h) (by decide) rfl dX9_is_61 ?_
    refine x_iload_n C dX9_is_64 rfl 2 rfl ?_
    refine x_iald C sh_97 hi dX9_is_65 ?_
    refine x_iload_n C dX9_is_66 rfl 3 rfl ?_
    refine x_callV C sh_87 (by decide) rfl [.int (0 : Int32), .int (σ 97 i.toNatClampNeg), .int c1] (c_X9_isMeant_0 l V hV σ (σ 97 i.toNatClampNeg) c1 (vp_le (mv97 hM hi) (by decide))) (cwV 3 C.2.2.2.2.1 gX9_is_X9_isMeant rfl rfl rfl (by decide +kernel) ⟨Nat.le_of_ble_eq_true rfl, Nat.le_of_ble_eq_true rfl⟩) rfl rfl (Nat.le_of_ble_eq_true rfl) dX9_is_67 ⟨Nat.le_of_ble_eq_true rfl, Nat.le_of_ble_eq_true rfl⟩ (x_kI ?_)
    exact x_zret C (mMt σ (0 : Int32) (σ 97 i.toNatClampNeg) c1) rfl hr hlk dX9_is_70 ⟨by simp [mIs2, h1], rfl⟩
  · refine x_iconst C (0 : Int32) (by decide) dX9_is_10 ?_
    exact x_zret C false rfl hr hlk dX9_is_11 ⟨by simp [mIs2, h1], rfl⟩

set_option maxHeartbeats 4000000 in
set_option maxRecDepth 100000 in
theorem c_X9_is_3 (l : Launch) (V : xV) (hV : xInj V) (σ : xS) (i c1 : Int32) (hM : mV σ) (hi : vp_in i 16) : xM l yX9_is wsX9_is ({ frames := 2, cells := 0, slots := 0, locals := 47 }) V [ra V 87, .int (3 : Int32), .int i, .int c1] σ (rI (bI (mIs σ (3 : Int32) i c1)) σ) := by
  refine xM_of (cc := cX9_is) (maxL := 4) (ret := (some .boolean)) [(0, ra V 87), (1, .int (3 : Int32)), (2, .int i), (3, .int c1)] hV (by decide) rfl rfl (Nat.le_of_ble_eq_true rfl) (fun p e s m args below meth c C hr hlk => ?_)
  have iX9 : ∀ w ∈ u_ws RX9 TX9 24, w ∈ wsX9_is := by decide +kernel
  have f56 : (Cond.fieldLink RX9 56 RX9 (TX9 18).2.1 (TX9 18).2.2.1).before args s = true := C.2.2.2.2.1 _ (by decide +kernel)
  have f50 : (Cond.fieldLink RX9 50 RX9 (TX9 15).2.1 (TX9 15).2.2.1).before args s = true := C.2.2.2.2.1 _ (by decide +kernel)
  refine x_aload_n C dX9_is_0 rfl 0 rfl ?_
  refine x_iload_n C dX9_is_1 rfl 1 rfl ?_
  refine x_iload_n C dX9_is_2 rfl 2 rfl ?_
  refine x_iload_n C dX9_is_3 rfl 3 rfl ?_
  refine x_callV C sh_87 (by decide) rfl [.int (3 : Int32), .int i, .int c1] (c_X9_isMeant_3 l V hV σ i c1 (vp_le hi (by decide))) (cwV 3 C.2.2.2.2.1 gX9_is_X9_isMeant rfl rfl rfl (by decide +kernel) ⟨Nat.le_of_ble_eq_true rfl, Nat.le_of_ble_eq_true rfl⟩) rfl rfl (Nat.le_of_ble_eq_true rfl) dX9_is_4 ⟨Nat.le_of_ble_eq_true rfl, Nat.le_of_ble_eq_true rfl⟩ (x_kI ?_)
  refine x_bif_ne C 12 dX9_is_7 rfl (fun h1 => ?_) (fun h1 => ?_)
  · refine x_iload_n C dX9_is_12 rfl 1 rfl ?_
    refine x_iconst C (1 : Int32) (by decide) dX9_is_13 ?_
    refine x_icmp_ne C 53 dX9_is_14 rfl (fun h2 => ?_) (fun h2 => absurd h2 (by decide))
    refine x_iload_n C dX9_is_53 rfl 1 rfl ?_
    refine x_iconst C (2 : Int32) (by decide) dX9_is_54 ?_
    refine x_icmp_ne C 71 dX9_is_55 rfl (fun h3 => ?_) (fun h3 => absurd h3 (by decide))
    refine x_iload_n C dX9_is_71 rfl 1 rfl ?_
    refine x_if_eq C 95 dX9_is_72 rfl (fun h4 => absurd h4 (by decide)) (fun h4 => ?_)
    refine x_aload_n C dX9_is_75 rfl 0 rfl ?_
    refine x_iconst C (2 : Int32) (by decide) dX9_is_76 ?_
    refine x_aload_n C dX9_is_77 rfl 0 rfl ?_
    refine x_getr C sh_87 rfl iX9 18 (by decide) f56 (fun _ h => h) (by decide) rfl dX9_is_78 ?_
    refine x_aload_n C dX9_is_81 rfl 0 rfl ?_
    refine x_getr C sh_87 rfl iX9 15 (by decide) f50 (fun _ h => h) (by decide) rfl dX9_is_82 ?_
    refine x_iload_n C dX9_is_85 rfl 2 rfl ?_
    refine x_iald C sh_101 hi dX9_is_86 ?_
    refine x_iald C sh_103 (mv101 hM hi) dX9_is_87 ?_
    refine x_iload_n C dX9_is_88 rfl 3 rfl ?_
    refine x_callV C sh_87 (by decide) rfl [.int (2 : Int32), .int (σ 103 (σ 101 i.toNatClampNeg).toNatClampNeg), .int c1] (c_X9_is_2 l V hV σ (σ 103 (σ 101 i.toNatClampNeg).toNatClampNeg) c1 hM (mv103 hM (mv101 hM hi))) (cwV 3 C.2.2.2.2.1 gX9_is_X9_is rfl rfl rfl (by decide +kernel) ⟨Nat.le_of_ble_eq_true rfl, Nat.le_of_ble_eq_true rfl⟩) rfl rfl (Nat.le_of_ble_eq_true rfl) dX9_is_89 ⟨Nat.le_of_ble_eq_true rfl, Nat.le_of_ble_eq_true rfl⟩ (x_kI ?_)
    refine x_bif_eq C 99 dX9_is_92 rfl (fun h5 => ?_) (fun h5 => ?_)
    · refine x_iconst C (0 : Int32) (by decide) dX9_is_99 ?_
      exact x_zret C false rfl hr hlk dX9_is_100 ⟨by simp [mIs, h1, h5], rfl⟩
    · refine x_iconst C (1 : Int32) (by decide) dX9_is_95 ?_
      refine x_goto C 100 dX9_is_96 rfl ?_
      exact x_zret C true rfl hr hlk dX9_is_100 ⟨by simp [mIs, h1, h5], rfl⟩
  · refine x_iconst C (0 : Int32) (by decide) dX9_is_10 ?_
    exact x_zret C false rfl hr hlk dX9_is_11 ⟨by simp [mIs, h1], rfl⟩

/-! Int32 by its bits (this head began as the kit's BITS family) -/
def bt (x : Int32) (i : Nat) : Bool := x.toBitVec.getLsbD i
theorem b_ext {x y : Int32} (h : ∀ i, i < 32 → bt x i = bt y i) : x = y := Int32.toBitVec_inj.mp (BitVec.eq_of_getLsbD_eq (fun i hi => h i hi))
theorem b_or (x y : Int32) (i : Nat) : bt (x ||| y) i = (bt x i || bt y i) := by unfold bt; rw [Int32.toBitVec_or, BitVec.getLsbD_or]
theorem b_and (x y : Int32) (i : Nat) : bt (x &&& y) i = (bt x i && bt y i) := by unfold bt; rw [Int32.toBitVec_and, BitVec.getLsbD_and]
theorem b_xor (x y : Int32) (i : Nat) : bt (x ^^^ y) i = (bt x i ^^ bt y i) := by unfold bt; rw [Int32.toBitVec_xor, BitVec.getLsbD_xor]
theorem b_big {x : Int32} {i : Nat} (h : 32 ≤ i) : bt x i = false := BitVec.getLsbD_of_ge _ _ h
theorem b_255 (i : Nat) : bt 255 i = decide (i < 8) := by
  rcases Nat.lt_or_ge i 32 with h | h
  · exact (by decide +kernel : ∀ i, i < 32 → bt 255 i = decide (i < 8)) i h
  · rw [b_big h, decide_eq_false (by omega)]
theorem b_65535 (i : Nat) : bt 65535 i = decide (i < 16) := by
  rcases Nat.lt_or_ge i 32 with h | h
  · exact (by decide +kernel : ∀ i, i < 32 → bt 65535 i = decide (i < 16)) i h
  · rw [b_big h, decide_eq_false (by omega)]
theorem b_m1 : ∀ i, i < 32 → bt (-1) i = true := by decide +kernel
theorem b_0 (i : Nat) : bt 0 i = false := BitVec.getLsbD_zero
theorem s_l : ∀ n, n < 32 → ((nI n &&& 31).toBitVec.smod 32).toNat = n := by decide +kernel
theorem s_u : ∀ n, n < 32 → (((nI n).toUInt32 &&& Int32.toUInt32 31).toBitVec % 32).toNat = n := by decide +kernel
theorem b_shl (n : Nat) (hn : n < 32) (x : Int32) {i : Nat} (hi : i < 32) : bt (x <<< (nI n &&& 31)) i = (decide (n ≤ i) && bt x (i - n)) := by
  unfold bt
  rw [Int32.toBitVec_shiftLeft]
  show (x.toBitVec <<< ((nI n &&& 31).toBitVec.smod 32).toNat).getLsbD i = _
  rw [s_l n hn, BitVec.getLsbD_shiftLeft]
  rcases Nat.lt_or_ge i n with h | h
  · simp [h, Nat.not_le.mpr h]
  · simp [hi, h, Nat.not_lt.mpr h]
theorem b_ushr (n : Nat) (hn : n < 32) (x : Int32) (i : Nat) : bt ((x.toUInt32 >>> ((nI n).toUInt32 &&& Int32.toUInt32 31)).toInt32) i = bt x (n + i) := by
  show (x.toUInt32 >>> ((nI n).toUInt32 &&& Int32.toUInt32 31)).toBitVec.getLsbD i = x.toUInt32.toBitVec.getLsbD (n + i)
  rw [UInt32.toBitVec_shiftRight]
  show (x.toUInt32.toBitVec >>> (((nI n).toUInt32 &&& Int32.toUInt32 31).toBitVec % 32).toNat).getLsbD i = _
  rw [s_u n hn, BitVec.getLsbD_ushiftRight]
theorem b_sshr (n : Nat) (hn : n < 32) (x : Int32) {i : Nat} (hi : i < 32) : bt (x >>> (nI n &&& 31)) i = if n + i < 32 then bt x (n + i) else bt x 31 := by
  unfold bt
  rw [Int32.toBitVec_shiftRight]
  show (x.toBitVec.sshiftRight ((nI n &&& 31).toBitVec.smod 32).toNat).getLsbD i = _
  rw [s_l n hn, BitVec.getLsbD_sshiftRight, BitVec.msb_eq_getLsbD_last]
  simp [hi]
/-! bits: what a shift and a mask ask; sets of places -/
theorem b_1 (i : Nat) : bt 1 i = decide (i = 0) := by
  rcases Nat.lt_or_ge i 32 with h | h
  · exact (by decide +kernel : ∀ i, i < 32 → bt 1 i = decide (i = 0)) i h
  · rw [b_big h, decide_eq_false (by omega)]
theorem has_bt {x : Int32} {i : Nat} (hi : i < 32) : decide ((x >>> (nI i &&& 31)) &&& 1 = 1) = bt x i := by
  have h0 : bt (x >>> (nI i &&& 31)) 0 = bt x i := by rw [b_sshr i hi x (by omega)]; simp [hi]
  cases hb : bt x i with
  | true =>
    refine decide_eq_true (b_ext fun j hj => ?_)
    rw [b_and, b_1]
    by_cases e : j = 0
    · subst e; rw [h0, hb]; rfl
    · simp [e]
  | false =>
    refine decide_eq_false (fun h => ?_)
    have := congrArg (fun z => bt z 0) h
    simp only [b_and, b_1, h0, hb] at this
    cases this
def isInB (s i : Int32) : Bool := decide (¬ i < 0) && (decide (¬ (32 : Int32) ≤ i) && decide ((s >>> (i &&& 31)) &&& 1 = 1))
def mHas (s x : Int32) : Bool := decide ((s >>> (x &&& 31)) &&& 1 = 1)
theorem isIn_bt {x : Int32} {i : Nat} (hi : i < 32) : isInB x (nI i) = bt x i := by
  unfold isInB
  rw [has_bt hi, decide_eq_true (show ¬ nI i < 0 from nI_pos (by omega)), decide_eq_true (show ¬ (32 : Int32) ≤ nI i from fun h => absurd ((nI_leI (a := 32) (b := i) (by decide) (by omega)).mp h) (by omega))]
  rfl
theorem mHas_bt {x : Int32} {i : Nat} (hi : i < 32) : mHas x (nI i) = bt x i := has_bt hi
def maskI (f : Nat → Bool) : Nat → Int32
  | 0 => 0
  | k + 1 => if f k = true then maskI f k ||| ((1 : Int32) <<< (nI k &&& 31)) else maskI f k
theorem b_one {k i : Nat} (hk : k < 32) (hi : i < 32) : bt ((1 : Int32) <<< (nI k &&& 31)) i = decide (i = k) := by
  rw [b_shl k hk 1 hi, b_1]
  by_cases e : i = k
  · subst e; simp
  · by_cases h : k ≤ i
    · simp [e, show ¬ i - k = 0 by omega]
    · simp [e, h]
theorem maskI_bt (f : Nat → Bool) {i : Nat} (hi : i < 32) : ∀ k, k ≤ 32 → bt (maskI f k) i = (decide (i < k) && f i) := by
  intro k
  induction k with
  | zero => intro _; simp [maskI, b_0]
  | succ k ih =>
    intro hk
    rw [maskI]
    by_cases hf : f k = true
    · rw [if_pos hf, b_or, ih (by omega), b_one (by omega) hi]
      by_cases e : i = k
      · subst e; simp [hf]
      · by_cases h : i < k
        · simp [h, e, show i < k + 1 by omega]
        · simp [h, e, show ¬ i < k + 1 by omega]
    · rw [if_neg hf, ih (by omega)]
      by_cases e : i = k
      · subst e; simp [Bool.not_eq_true _ ▸ hf]
      · by_cases h : i < k
        · simp [h, show i < k + 1 by omega]
        · simp [h, show ¬ i < k + 1 by omega]
theorem maskI_congr {f g : Nat → Bool} {k : Nat} (h : ∀ i, i < k → f i = g i) : maskI f k = maskI g k := by
  induction k with
  | zero => rfl
  | succ k ih => rw [maskI, maskI, ih (fun i hi => h i (by omega)), h k (by omega)]
/-- how many of the eight places are not in a set -/
def unF (s : Int32) (i : Nat) : Bool := decide (i < 8) && !mHas s (nI i)
def unI (s : Int32) : Nat := ((List.range 8).filter (unF s)).length
theorem unI_8 (s : Int32) : unI s ≤ 8 := by
  unfold unI
  exact Nat.le_trans (List.length_filter_le _ _) (by simp)
theorem filter_less {f g : Nat → Bool} {j : Nat} (hf : f j = true) (hg : ∀ i, g i = true → f i = true) (hgj : g j = false) : ∀ l : List Nat, (l.filter g).length ≤ (l.filter f).length ∧ (j ∈ l → (l.filter g).length < (l.filter f).length) := by
  intro l
  induction l with
  | nil => exact ⟨Nat.le_refl _, fun h => absurd h List.not_mem_nil⟩
  | cons a l ih =>
    obtain ⟨i1, i2⟩ := ih
    rw [List.filter_cons, List.filter_cons]
    by_cases e : a = j
    · subst e
      rw [hgj, hf]
      simp only [Bool.false_eq_true, if_false, if_true, List.length_cons]
      exact ⟨by omega, fun _ => by omega⟩
    · have hj : j ∈ a :: l → j ∈ l := fun h => (List.mem_cons.mp h).resolve_left (fun q => e q.symm)
      cases hga : g a with
      | true =>
        rw [hg a hga]
        simp only [if_true, List.length_cons]
        exact ⟨by omega, fun h => by have := i2 (hj h); omega⟩
      | false =>
        cases hfa : f a with
        | true =>
          simp only [Bool.false_eq_true, if_false, if_true, List.length_cons]
          exact ⟨by omega, fun h => by have := i2 (hj h); omega⟩
        | false =>
          simp only [Bool.false_eq_true, if_false]
          exact ⟨i1, fun h => i2 (hj h)⟩
theorem mHas_or {s : Int32} {i j : Nat} (hj : j < 8) (hi : i < 32) : mHas (s ||| ((1 : Int32) <<< (nI j &&& 31))) (nI i) = (mHas s (nI i) || decide (i = j)) := by
  rw [mHas_bt hi, b_or, b_one (Nat.lt_of_lt_of_le hj (by decide)) hi, mHas_bt hi]
theorem mHas_mono {s : Int32} {i j : Nat} (hj : j < 8) (hi : i < 32) (h : mHas s (nI i) = true) : mHas (s ||| ((1 : Int32) <<< (nI j &&& 31))) (nI i) = true := by
  rw [mHas_or hj hi, h]; rfl
theorem unI_lt {s : Int32} {j : Nat} (hj : j < 8) (h : mHas s (nI j) = false) : unI (s ||| ((1 : Int32) <<< (nI j &&& 31))) < unI s := by
  unfold unI
  refine (filter_less (f := unF s) (g := unF (s ||| ((1 : Int32) <<< (nI j &&& 31)))) (j := j) ?_ ?_ ?_ (List.range 8)).2 (List.mem_range.mpr hj)
  · rw [unF, h, decide_eq_true hj]; rfl
  · intro i hi
    rw [unF, Bool.and_eq_true, Bool.not_eq_true', decide_eq_true_eq] at hi
    rw [unF, decide_eq_true hi.1, Bool.true_and, Bool.not_eq_true']
    cases hm : mHas s (nI i) with
    | false => rfl
    | true =>
      have := mHas_mono hj (show i < 32 by omega) hm
      rw [hi.2] at this
      cases this
  · rw [unF, mHas_or hj (show j < 32 by omega), decide_eq_true (rfl : j = j), Bool.or_true, Bool.not_true, Bool.and_false]

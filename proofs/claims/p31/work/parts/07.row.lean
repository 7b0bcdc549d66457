/-! Row: at, put, fill. -/
def vAt (n : Nat) (f : Nat → Int32) (i : Int32) : Int32 := if ¬ i < 0 ∧ ¬ nI n ≤ i then f i.toNatClampNeg else -1
def vPut (σ : xS) (a n : Nat) (i v : Int32) : xS := if ¬ i < 0 ∧ ¬ nI n ≤ i then xw σ a i.toNatClampNeg v else σ
def vFill (σ : xS) (a n : Nat) (v : Int32) : xS := fun q j => if q = a ∧ j < n then v else σ q j
theorem vPut_ne {σ : xS} {a n r : Nat} {i v : Int32} (h : r ≠ a) : vPut σ a n i v r = σ r := by
  unfold vPut; split
  · exact xw_ne _ _ _ h
  · rfl
theorem vFill_ne {σ : xS} {a n r : Nat} {v : Int32} (h : r ≠ a) : vFill σ a n v r = σ r := by funext j; simp [vFill, h]
theorem vp_in_of2 {i : Int32} {n : Nat} (hn : n < 2 ^ 31) (h0 : ¬ i < 0) (h1 : ¬ nI n ≤ i) : vp_in i n := by
  obtain ⟨j, hj, rfl⟩ := nI_of h0
  refine vp_in_nI ?_ hn
  by_cases h : j < n
  · exact h
  · exact absurd (nI_le (Nat.le_of_not_lt h) hj) h1
theorem vFill_0 (σ : xS) (a : Nat) (v : Int32) : vFill σ a 0 v = σ := by funext q j; simp [vFill]
theorem vFill_s (σ : xS) (a k : Nat) (v : Int32) (hk : k < 2 ^ 31) : xw (vFill σ a k v) a (nI k).toNatClampNeg v = vFill σ a (k + 1) v := by
  rw [nI_clamp hk]
  funext q j
  simp only [xw, vFill]
  by_cases hq : q = a
  · by_cases hj : j = k
    · simp [hq, hj]
    · by_cases h2 : j < k
      · simp [hq, hj, h2, show j < k + 1 by omega]
      · simp [hq, hj, h2, show ¬ j < k + 1 by omega]
  · simp [hq]

set_option maxHeartbeats 4000000 in
set_option maxRecDepth 100000 in
theorem c_X5_at (l : Launch) (V : xV) (hV : xInj V) (σ : xS) (r a n : Nat) (hs : shp r = .inr (5, [.inl a])) (ha : shp a = .inl (0, n)) (hn : n < 2 ^ 31) (i : Int32) : xM l yX5_at wsX5_at ({ frames := 0, cells := 0, slots := 0, locals := 0 }) V [ra V r, .int i] σ (rI (vAt n (σ a) i) σ) := by
  refine xM_of (cc := cX5_at) (maxL := 2) (ret := (some .int)) [(0, ra V r), (1, .int i)] hV (by decide) rfl rfl (Nat.le_of_ble_eq_true rfl) (fun p e s m args below meth c C hr hlk => ?_)
  have iX5 : ∀ w ∈ u_ws RX5 TX5 1, w ∈ wsX5_at := by decide +kernel
  have f9 : (Cond.fieldLink RX5 9 RX5 (TX5 0).2.1 (TX5 0).2.2.1).before args s = true := C.2.2.2.2.1 _ (by decide +kernel)
  refine x_iload_n C dX5_at_0 rfl 1 rfl ?_
  refine x_if_lt C 22 dX5_at_1 rfl (fun h1 => ?_) (fun h1 => ?_)
  · refine x_iconst C (-1 : Int32) (by decide) dX5_at_22 ?_
    exact x_iret C hr hlk dX5_at_23 ⟨by simp [vAt, h1], rfl⟩
  · refine x_iload_n C dX5_at_4 rfl 1 rfl ?_
    refine x_aload_n C dX5_at_5 rfl 0 rfl ?_
    refine x_getr C hs rfl iX5 0 (by decide) f9 (fun _ h => h) (shp_lt hs (by decide)) rfl dX5_at_6 ?_
    refine x_alen C ha dX5_at_9 ?_
    refine x_icmp_ge C 22 dX5_at_10 rfl (fun h2 => ?_) (fun h2 => ?_)
    · refine x_iconst C (-1 : Int32) (by decide) dX5_at_22 ?_
      exact x_iret C hr hlk dX5_at_23 ⟨by simp [vAt, h1, h2], rfl⟩
    · refine x_aload_n C dX5_at_13 rfl 0 rfl ?_
      refine x_getr C hs rfl iX5 0 (by decide) f9 (fun _ h => h) (shp_lt hs (by decide)) rfl dX5_at_14 ?_
      refine x_iload_n C dX5_at_17 rfl 1 rfl ?_
      refine x_iald C ha (vp_in_of2 hn h1 h2) dX5_at_18 ?_
      refine x_goto C 23 dX5_at_19 rfl ?_
      exact x_iret C hr hlk dX5_at_23 ⟨by simp [vAt, h1, h2], rfl⟩

set_option maxHeartbeats 4000000 in
set_option maxRecDepth 100000 in
theorem c_X5_put (l : Launch) (V : xV) (hV : xInj V) (σ : xS) (r a n : Nat) (hs : shp r = .inr (5, [.inl a])) (ha : shp a = .inl (0, n)) (hn : n < 2 ^ 31) (i v : Int32) : xM l yX5_put wsX5_put ({ frames := 0, cells := 0, slots := 0, locals := 0 }) V [ra V r, .int i, .int v] σ (rV (vPut σ a n i v)) := by
  refine xM_of (cc := cX5_put) (maxL := 3) (ret := none) [(0, ra V r), (1, .int i), (2, .int v)] hV (by decide) rfl rfl (Nat.le_of_ble_eq_true rfl) (fun p e s m args below meth c C hr hlk => ?_)
  have iX5 : ∀ w ∈ u_ws RX5 TX5 1, w ∈ wsX5_put := by decide +kernel
  have f9 : (Cond.fieldLink RX5 9 RX5 (TX5 0).2.1 (TX5 0).2.2.1).before args s = true := C.2.2.2.2.1 _ (by decide +kernel)
  refine x_iload_n C dX5_put_0 rfl 1 rfl ?_
  refine x_if_lt C 20 dX5_put_1 rfl (fun h1 => ?_) (fun h1 => ?_)
  · exact x_vret C hr hlk dX5_put_20 ⟨rfl, by simp [vPut, h1]⟩
  · refine x_iload_n C dX5_put_4 rfl 1 rfl ?_
    refine x_aload_n C dX5_put_5 rfl 0 rfl ?_
    refine x_getr C hs rfl iX5 0 (by decide) f9 (fun _ h => h) (shp_lt hs (by decide)) rfl dX5_put_6 ?_
    refine x_alen C ha dX5_put_9 ?_
    refine x_icmp_ge C 20 dX5_put_10 rfl (fun h2 => ?_) (fun h2 => ?_)
    · exact x_vret C hr hlk dX5_put_20 ⟨rfl, by simp [vPut, h1, h2]⟩
    · refine x_aload_n C dX5_put_13 rfl 0 rfl ?_
      refine x_getr C hs rfl iX5 0 (by decide) f9 (fun _ h => h) (shp_lt hs (by decide)) rfl dX5_put_14 ?_
      refine x_iload_n C dX5_put_17 rfl 1 rfl ?_
      refine x_iload_n C dX5_put_18 rfl 2 rfl ?_
      refine x_iast C ha (vp_in_of2 hn h1 h2) dX5_put_19 ?_
      exact x_vret C hr hlk dX5_put_20 ⟨rfl, by simp [vPut, h1, h2]⟩

set_option maxHeartbeats 4000000 in
set_option maxRecDepth 100000 in
theorem c_X5_fill (l : Launch) (V : xV) (hV : xInj V) (σ : xS) (r a n : Nat) (hs : shp r = .inr (5, [.inl a])) (ha : shp a = .inl (0, n)) (hn : n < 2 ^ 31) (v : Int32) : xM l yX5_fill wsX5_fill ({ frames := 0, cells := 0, slots := 0, locals := 0 }) V [ra V r, .int v] σ (rV (vFill σ a n v)) := by
  refine xM_of (cc := cX5_fill) (maxL := 3) (ret := none) [(0, ra V r), (1, .int v)] hV (by decide) rfl rfl (Nat.le_of_ble_eq_true rfl) (fun p e s m args below meth c C hr hlk => ?_)
  have iX5 : ∀ w ∈ u_ws RX5 TX5 1, w ∈ wsX5_fill := by decide +kernel
  have f9 : (Cond.fieldLink RX5 9 RX5 (TX5 0).2.1 (TX5 0).2.2.1).before args s = true := C.2.2.2.2.1 _ (by decide +kernel)
  refine x_iconst C (0 : Int32) (by decide) dX5_fill_0 ?_
  refine x_istore_n C [(2, .int (0 : Int32)), (0, ra V r), (1, .int v)] dX5_fill_1 rfl (by decide) rfl ?_
  refine x_lv [1, 2, 0] [(0, ra V r), (1, .int v), (2, .int (0 : Int32))] rfl ?_
  refine x_loop (fun μ σ_ lv_ => ∃ (k : Nat), μ = n - k ∧ vFill σ a k v = σ_ ∧ lv_ = [(0, ra V r), (1, .int v), (2, .int (nI k))] ∧ k ≤ n) ⟨_, ⟨0, rfl, Eq.symm ((vFill_0 σ a v).symm), rfl, Nat.zero_le _⟩⟩ ?_
  rintro μ2 _ _ ⟨k, hμ2, rfl, rfl, hc2_0⟩ ih2
  refine x_iload_n C dX5_fill_2 rfl 2 rfl ?_
  refine x_aload_n C dX5_fill_3 rfl 0 rfl ?_
  refine x_getr C hs rfl iX5 0 (by decide) f9 (fun _ h => h) (shp_lt hs (by decide)) rfl dX5_fill_4 ?_
  refine x_alen C ha dX5_fill_7 ?_
  refine x_icmp_ge C 24 dX5_fill_8 rfl (fun h1 => ?_) (fun h1 => ?_)
  · exact x_vret C hr hlk dX5_fill_24 ⟨rfl, by rw [show k = n from Nat.le_antisymm hc2_0 (Nat.le_of_not_lt (fun hq => absurd (nI_lt hq hn) (by simpa using h1)))]⟩
  · have hkn : k < n := Nat.lt_of_not_le (fun hq => h1 (nI_le hq (by omega)))
    refine x_aload_n C dX5_fill_11 rfl 0 rfl ?_
    refine x_getr C hs rfl iX5 0 (by decide) f9 (fun _ h => h) (shp_lt hs (by decide)) rfl dX5_fill_12 ?_
    refine x_iload_n C dX5_fill_15 rfl 2 rfl ?_
    refine x_iload_n C dX5_fill_16 rfl 1 rfl ?_
    refine x_iast C ha (vp_in_nI hkn hn) dX5_fill_17 ?_
    refine x_iinc C (q := 2) ((nI k) + (1 : Int32)) [(2, .int ((nI k) + (1 : Int32))), (0, ra V r), (1, .int v)] dX5_fill_18 rfl rfl (by decide) rfl ?_
    refine x_goto C 2 dX5_fill_21 rfl ?_
    refine x_lv [1, 2, 0] [(0, ra V r), (1, .int v), (2, .int ((nI k) + (1 : Int32)))] rfl ?_
    exact ih2 _ _ _ (by omega) ⟨k + 1, rfl, Eq.symm (vFill_s σ a k v (by omega)), by rw [nI_succ], hkn⟩

/-! Bounds kept by the calls. -/
theorem okB_succ {x : Int32} {n : Nat} (h : okB x n) (hne : ¬ x = nI n) (hn : n < 2 ^ 31) : okB (x + 1) n := by
  have hv := vp_cl (okB_lt h hne hn)
  obtain ⟨e, -⟩ := h
  rw [e, ← nI_succ]
  refine ⟨by rw [nI_clamp (by omega)], by rw [nI_clamp (by omega)]; omega⟩
def mcap (k : Nat) : Nat := if k = 0 then 8 else if k = 1 then 12 else if k = 2 then 24 else 16
theorem mV_91 {σ : xS} (h : mV σ) {k : Nat} {v : Int32} (hv : okB v (mcap k)) : mV (xw σ 91 k v) := by
  obtain ⟨a1, a2, a3, a4, a5, a6, a7, a8, a9, a10, a11, c0, c1, c2, c3, ce, cr⟩ := h
  have n : ∀ r, r ≠ 91 → xw σ 91 k v r = σ r := fun r hr => xw_ne _ _ _ hr
  unfold mV
  simp only [n 94 (by decide), n 95 (by decide), n 97 (by decide), n 99 (by decide), n 100 (by decide), n 101 (by decide), n 102 (by decide), n 103 (by decide), n 104 (by decide), n 105 (by decide), n 209 (by decide), n 210 (by decide)]
  have c : ∀ i, okB (σ 91 i) (mcap i) → okB (xw σ 91 k v 91 i) (mcap i) := fun i hi => by
    by_cases q : i = k
    · subst q; rw [xw_at]; exact hv
    · rw [show xw σ 91 k v 91 i = σ 91 i by simp [xw, q]]; exact hi
  exact ⟨a1, a2, a3, a4, a5, a6, a7, a8, a9, a10, a11, c 0 c0, c 1 c1, c 2 c2, c 3 c3, ce, cr⟩
theorem mAd_V {σ : xS} (h : mV σ) {k : Nat} (on off : Int32) (hb : okB (σ 91 k) (mcap k)) (hne : ¬ σ 91 k = nI (mcap k)) : mV (mAd σ k on off) := by
  unfold mAd
  refine mV_of (σ := xw σ 91 k (σ 91 k + 1)) (fun r hr => ?_) (mV_91 h (okB_succ hb hne (by unfold mcap; split <;> (try split) <;> (try split) <;> decide)))
  have h1 : r ≠ 92 := by rintro rfl; simp at hr
  have h2 : r ≠ 93 := by rintro rfl; simp at hr
  have h3 : r ≠ 211 := by rintro rfl; simp at hr
  funext i
  by_cases q : r = 91
  · subst q; simp [xw]
  · simp [xw, q, h1, h2, h3]

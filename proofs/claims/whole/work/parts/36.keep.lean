/-! What the groups of facts want of a change. -/
theorem upd2 {f : Nat → Int32} {n : Nat} {x y : Int32} : upd (upd f n x) n y = upd f n y := by
  funext j
  by_cases e : j = n
  · subst e; rw [pk_us, pk_us]
  · rw [pk_un e, pk_un e, pk_un e]
section SC
variable {σ τ : xS} {s b n q c i : Nat} {on off : Int32}
theorem Scn_push (h : Scn σ s b n q) (hc : cnt σ s = c) (hcn : c < n) (hn : n ≤ 24) (e1 : τ q 0 = nI (c + 1)) (e2 : τ 91 s = nI (c + 1)) (e3 : τ (b + 2) = upd (σ (b + 2)) c on) (e4 : τ (b + 4) = upd (σ (b + 4)) c off) (e5 : τ (b + 6) = upd (σ (b + 6)) c (cfgI on off)) (e6 : τ 92 = upd (σ 92) (24 * s + c) on) (e7 : τ 93 = upd (σ 93) (24 * s + c) off) : Scn τ s b n q := by
  refine ⟨by rw [e1, e2], fun j hj => ?_, fun j hj => ?_, fun j hj => ?_⟩
  · rw [e3, e6]
    by_cases g : j = c
    · subst g; rw [pk_us, pk_us]
    · rw [pk_un g, pk_un (by omega)]; exact h.2.1 j hj
  · rw [e4, e7]
    by_cases g : j = c
    · subst g; rw [pk_us, pk_us]
    · rw [pk_un g, pk_un (by omega)]; exact h.2.2.1 j hj
  · have k : cnt τ s = c + 1 := by show (τ 91 s).toNatClampNeg = _; rw [e2, nI_clamp (by omega)]
    rw [e5, e6, e7]
    by_cases g : j = c
    · subst g; rw [pk_us, pk_us, pk_us]
    · rw [pk_un g, pk_un (by omega), pk_un (by omega)]; exact h.2.2.2 j (by omega)
theorem Scn_other (h : Scn σ s b n q) (hn : n ≤ 24) (hc : cnt σ s ≤ n) (e1 : τ q 0 = σ q 0) (e2 : τ 91 s = σ 91 s) (e3 : τ (b + 2) = σ (b + 2)) (e4 : τ (b + 4) = σ (b + 4)) (e5 : τ (b + 6) = σ (b + 6)) (e6 : ∀ j, j < 24 → τ 92 (24 * s + j) = σ 92 (24 * s + j)) (e7 : ∀ j, j < 24 → τ 93 (24 * s + j) = σ 93 (24 * s + j)) : Scn τ s b n q := by
  refine ⟨by rw [e1, e2]; exact h.1, fun j hj => ?_, fun j hj => ?_, fun j hj => ?_⟩
  · rw [e3, e6 j (by omega)]; exact h.2.1 j hj
  · rw [e4, e7 j (by omega)]; exact h.2.2.1 j hj
  · have k : cnt τ s = cnt σ s := by show (τ 91 s).toNatClampNeg = _; rw [e2]
    rw [e5, e6 j (by omega), e7 j (by omega)]; exact h.2.2.2 j (by omega)
theorem Scn_set (h : Scn σ s b n q) (hc : cnt σ s ≤ n) (hn : n ≤ 24) (hi : i < cnt σ s) (e1 : τ q 0 = σ q 0) (e2 : τ 91 s = σ 91 s) (e3 : τ (b + 2) = upd (σ (b + 2)) i on) (e4 : τ (b + 4) = upd (σ (b + 4)) i off) (e5 : τ (b + 6) = upd (σ (b + 6)) i (cfgI on off)) (e6 : τ 92 = upd (σ 92) (24 * s + i) on) (e7 : τ 93 = upd (σ 93) (24 * s + i) off) : Scn τ s b n q := by
  refine ⟨by rw [e1, e2]; exact h.1, fun j hj => ?_, fun j hj => ?_, fun j hj => ?_⟩
  · rw [e3, e6]
    by_cases g : j = i
    · subst g; rw [pk_us, pk_us]
    · rw [pk_un g, pk_un (by omega)]; exact h.2.1 j hj
  · rw [e4, e7]
    by_cases g : j = i
    · subst g; rw [pk_us, pk_us]
    · rw [pk_un g, pk_un (by omega)]; exact h.2.2.1 j hj
  · have k : cnt τ s = cnt σ s := by show (τ 91 s).toNatClampNeg = _; rw [e2]
    rw [e5, e6, e7]
    by_cases g : j = i
    · subst g; rw [pk_us, pk_us, pk_us]
    · rw [pk_un g, pk_un (by omega), pk_un (by omega)]; exact h.2.2.2 j (by omega)
theorem Scn_drop (h : Scn σ s b n q) (hc : c ≤ cnt σ s) (hn : c < 2 ^ 31) (e1 : τ q 0 = nI c) (e2 : τ 91 s = nI c) (e3 : τ (b + 2) = σ (b + 2)) (e4 : τ (b + 4) = σ (b + 4)) (e5 : τ (b + 6) = σ (b + 6)) (e6 : τ 92 = σ 92) (e7 : τ 93 = σ 93) : Scn τ s b n q := by
  refine ⟨by rw [e1, e2], fun j hj => ?_, fun j hj => ?_, fun j hj => ?_⟩
  · rw [e3, e6]; exact h.2.1 j hj
  · rw [e4, e7]; exact h.2.2.1 j hj
  · have k : cnt τ s = c := by show (τ 91 s).toNatClampNeg = _; rw [e2, nI_clamp hn]
    rw [e5, e6, e7]; exact h.2.2.2 j (by omega)
end SC
section WW
variable {n c c' m m' e' : Nat} {f g so so' ow na ty pa fo me wh pt : Nat → Int32} {x y a : Int32}
theorem tyk_mono {x : Int32} (h : tyk c x) (hc : c ≤ c') : tyk c' x := h.imp id (fun q => vp_le q hc)
theorem Wu_push (h : Wu n f g) (h1 : vp_in x 4) (h2 : vp_in y 4) : Wu (n + 1) (upd f n x) (upd g n y) := fun j hj => by
  by_cases e : j = n
  · subst e; rw [pk_us, pk_us]; exact ⟨h1, h2⟩
  · rw [pk_un e, pk_un e]; exact h j (by omega)
theorem Wu_less (h : Wu n f g) (hm : m ≤ n) : Wu m f g := fun j hj => h j (by omega)
theorem Wl_push (h : Wl n c f g) (h1 : vp_in x c) (h2 : vp_in y c) : Wl (n + 1) c (upd f n x) (upd g n y) := fun j hj => by
  by_cases e : j = n
  · subst e; rw [pk_us, pk_us]; exact ⟨h1, h2⟩
  · rw [pk_un e, pk_un e]; exact h j (by omega)
theorem Wl_mono (h : Wl n c f g) (hc : c ≤ c') : Wl n c' f g := fun j hj => ⟨vp_le (h j hj).1 hc, vp_le (h j hj).2 hc⟩
theorem Wr_push (h : Wr n c f) (h1 : vp_in x c) : Wr (n + 1) c (upd f n x) := fun j hj => by
  by_cases e : j = n
  · subst e; rw [pk_us]; exact h1
  · rw [pk_un e]; exact h j (by omega)
theorem Wr_mono (h : Wr n c f) (hc : c ≤ c') : Wr n c' f := fun j hj => vp_le (h j hj) hc
theorem Wr_less (h : Wr n c f) (hm : m ≤ n) : Wr m c f := fun j hj => h j (by omega)
theorem Wm_mono (h : Wm n c so ow na ty pa) (hc : c ≤ c') : Wm n c' so ow na ty pa := fun j hj => by
  obtain ⟨h1, h2, h3, h4, h5, h6, h7⟩ := h j hj
  exact ⟨h1, vp_le h2 hc, h3, tyk_mono h4 hc, h5.imp id (fun q => tyk_mono q hc), h6.imp id (fun q => tyk_mono q hc), h7⟩
theorem Wm_push {b o nm t p q : Int32} (h : Wm n c so ow na ty pa) (h1 : b = 0 ∨ b = 1) (h2 : vp_in o c) (h3 : vp_in nm 10) (h4 : tyk c t) (h5 : p = -1 ∨ tyk c p) (h6 : q = -1 ∨ tyk c q) (h7 : p = -1 → q = -1) : Wm (n + 1) c (upd so n b) (upd ow n o) (upd na n nm) (upd ty n t) (upd (upd pa (2 * n) p) (2 * n + 1) q) := fun j hj => by
  by_cases e : j = n
  · subst e
    rw [pk_us, pk_us, pk_us, pk_us, pk_us, pk_un (show 2 * j ≠ 2 * j + 1 by omega), pk_us]
    exact ⟨h1, h2, h3, h4, h5, h6, h7⟩
  · rw [pk_un e, pk_un e, pk_un e, pk_un e, pk_un (show 2 * j ≠ 2 * n + 1 by omega), pk_un (show 2 * j ≠ 2 * n by omega), pk_un (show 2 * j + 1 ≠ 2 * n + 1 by omega), pk_un (show 2 * j + 1 ≠ 2 * n by omega)]
    exact h j (by omega)
theorem We_mono (h : We n c m so fo me wh pt) (hc : c ≤ c') (hm : m ≤ m') (hs : ∀ j, j < m → so' j = so j) : We n c' m' so' fo me wh pt := fun j hj => by
  obtain ⟨h1, h2, h3, h4, h5, h6, h7, h8⟩ := h j hj
  exact ⟨vp_le h1 hm, by rw [hs _ (vp_cl h1)]; exact h2, h3, fun q => vp_le (h4 q) hc, h5, h6, h7, h8⟩
theorem We_push {k d w p0 p1 p2 : Int32} (h : We n c m so fo me wh pt) (hn : n < 1000) (h1 : vp_in d m) (h2 : so d.toNatClampNeg = 1) (h3 : vp_in k 6) (h4 : k = 0 → vp_in w c) (h5 : k = 3 → vp_in w 2) (h6 : k = 4 ∨ k = 5 → vp_in w 10 ∧ ¬ p0 = -1) (g0 : p0 = -1 ∨ (vp_in p0 n ∧ me p0.toNatClampNeg = d)) (g1 : p1 = -1 ∨ (vp_in p1 n ∧ me p1.toNatClampNeg = d)) (g2 : p2 = -1 ∨ (vp_in p2 n ∧ me p2.toNatClampNeg = d)) (h8 : ¬ k = 4 → ¬ k = 5 → p0 = -1 ∧ p1 = -1 ∧ p2 = -1) : We (n + 1) c m so (upd fo n k) (upd me n d) (upd wh n w) (upd (upd (upd pt (3 * n) p0) (3 * n + 1) p1) (3 * n + 2) p2) := fun j hj => by
  by_cases e : j = n
  · subst e
    have r0 : upd (upd (upd pt (3 * j) p0) (3 * j + 1) p1) (3 * j + 2) p2 (3 * j) = p0 := by
      rw [pk_un (by omega), pk_un (by omega), pk_us]
    have r1 : upd (upd (upd pt (3 * j) p0) (3 * j + 1) p1) (3 * j + 2) p2 (3 * j + 1) = p1 := by
      rw [pk_un (by omega), pk_us]
    have r2 : upd (upd (upd pt (3 * j) p0) (3 * j + 1) p1) (3 * j + 2) p2 (3 * j + 2) = p2 := pk_us
    have r00 : upd (upd (upd pt (3 * j) p0) (3 * j + 1) p1) (3 * j + 2) p2 (3 * j + 0) = p0 := r0
    have k3 : ∀ i, i < 3 → i = 0 ∨ i = 1 ∨ i = 2 := fun i hi => by omega
    rw [pk_us, pk_us, pk_us, r0]
    have up : ∀ z : Int32, (z = -1 ∨ (vp_in z j ∧ me z.toNatClampNeg = d)) → (z = -1 ∨ (vp_in z j ∧ upd me j d z.toNatClampNeg = d)) := fun z hz => hz.imp id (fun q => ⟨q.1, by rw [pk_un (by have := vp_cl q.1; omega)]; exact q.2⟩)
    refine ⟨h1, h2, h3, h4, h5, h6, fun i hi => ?_, fun q1 q2 i hi => ?_⟩
    · rcases k3 i hi with rfl | rfl | rfl
      · rw [r00]; exact up _ g0
      · rw [r1]; exact up _ g1
      · rw [r2]; exact up _ g2
    · have z := h8 q1 q2
      rcases k3 i hi with rfl | rfl | rfl
      · rw [r00]; exact z.1
      · rw [r1]; exact z.2.1
      · rw [r2]; exact z.2.2
  · obtain ⟨h1, h2, h3, h4, h5, h6, h7, h8⟩ := h j (by omega)
    have r : ∀ i, i < 3 → upd (upd (upd pt (3 * n) p0) (3 * n + 1) p1) (3 * n + 2) p2 (3 * j + i) = pt (3 * j + i) := fun i hi => by
      rw [pk_un (by omega), pk_un (by omega), pk_un (by omega)]
    have r0 : upd (upd (upd pt (3 * n) p0) (3 * n + 1) p1) (3 * n + 2) p2 (3 * j) = pt (3 * j) := r 0 (by decide)
    rw [pk_un e, pk_un e, pk_un e, r0]
    refine ⟨h1, h2, h3, h4, h5, h6, fun i hi => ?_, fun q1 q2 i hi => by rw [r i hi]; exact h8 q1 q2 i hi⟩
    rw [r i hi]
    exact (h7 i hi).imp id (fun q => ⟨q.1, by rw [pk_un (by have := vp_cl q.1; omega)]; exact q.2⟩)
theorem vpu {d : Nat} (h : ∀ j, j < m → vp_in (f j) d) (hx : vp_in x d) : ∀ j, j < m → vp_in (upd f n x j) d := fun j hj => by
  by_cases e : j = n
  · subst e; rw [pk_us]; exact hx
  · rw [pk_un e]; exact h j hj
theorem vpo {d : Nat} (h : ∀ j, j < m → f j = -1 ∨ vp_in (f j) d) (hx : x = -1 ∨ vp_in x d) : ∀ j, j < m → upd f n x j = -1 ∨ vp_in (upd f n x j) d := fun j hj => by
  by_cases e : j = n
  · subst e; rw [pk_us]; exact hx
  · rw [pk_un e]; exact h j hj
theorem tyk9 {x : Int32} (h : tyk 8 x) : vp_in x 9 := by
  rcases h with rfl | h
  · exact vp_in_nI (n := 8) (by decide) (by decide)
  · exact vp_le h (by decide)
end WW

/-! Two checkers in one heap: a world, with one of them in focus. -/
theorem vP_l {D : va_G} {cl : List vw_C} {w1 w2 : va_W} {H : Heap} (h : va_P D cl (w1 ++ w2) H) : va_P D cl w1 H := fun k q hq => h k q (by rw [List.getElem?_append_left (List.getElem?_eq_some_iff.mp hq).1]; exact hq)
theorem vP_r {D : va_G} {cl : List vw_C} {w1 w2 : va_W} {H : Heap} (h : va_P D cl (w1 ++ w2) H) : va_P D cl w2 H := fun k q hq => h (w1.length + k) q (by rw [List.getElem?_append_right (by omega), Nat.add_sub_cancel_left]; exact hq)
/-- a checker's own cells; the law's seven arrays -/
def x87 (V : xV) (σ : xS) : va_W := (List.range 87).map (fun k => (xad V k, xel V σ k))
def xar (V : xV) (σ : xS) : va_W := [(xad V 87, .inl (V.2.1, 6, .inl (σ 87))), (xad V 88, .inl (V.2.1, 12, .inl (σ 88))), (xad V 89, .inl (V.2.1, 8, .inl (σ 89))), (xad V 90, .inl (V.2.1, 15, .inl (σ 90))), (xad V 91, .inl (V.2.1, 56, .inl (σ 91))), (xad V 92, .inl (V.2.1, 96, .inl (σ 92))), (xad V 93, .inl (V.2.1, 12, .inl (σ 93)))]
theorem x87_len {V : xV} {σ : xS} : (x87 V σ).length = 87 := by simp [x87]
set_option maxHeartbeats 4000000 in
set_option maxRecDepth 100000 in
theorem xpl_split (V : xV) (σ : xS) : xpl V σ = x87 V σ ++ xar V σ := by rfl
/-- V2 is a second checker beside V: the same classes, the same arrays -/
def WV (V V2 : xV) : Prop := V2.1 = V.1 ∧ V2.2.1 = V.2.1 ∧ ∀ k, 87 ≤ k → k < 94 → xad V2 k = xad V k
theorem WV.sy {V V2 : xV} (h : WV V V2) : WV V2 V := ⟨h.1.symm, h.2.1.symm, fun k h1 h2 => (h.2.2 k h1 h2).symm⟩
theorem wv_ra {V V2 : xV} (h : WV V V2) {k : Nat} (h1 : 87 ≤ k) (h2 : k < 94) : ra V2 k = ra V k := by unfold ra; rw [h.2.2 k h1 h2]
theorem xar_eq {V V2 : xV} (h : WV V V2) {σ τ : xS} (ha : ∀ r, 87 ≤ r → r < 94 → τ r = σ r) : xar V2 τ = xar V σ := by
  unfold xar
  rw [h.2.1, h.2.2 87 (by decide) (by decide), h.2.2 88 (by decide) (by decide), h.2.2 89 (by decide) (by decide), h.2.2 90 (by decide) (by decide), h.2.2 91 (by decide) (by decide), h.2.2 92 (by decide) (by decide), h.2.2 93 (by decide) (by decide), ha 87 (by decide) (by decide), ha 88 (by decide) (by decide), ha 89 (by decide) (by decide), ha 90 (by decide) (by decide), ha 91 (by decide) (by decide), ha 92 (by decide) (by decide), ha 93 (by decide) (by decide)]
theorem sw_P {V V2 : xV} (h : WV V V2) {σ τ : xS} (ha : ∀ r, 87 ≤ r → r < 94 → τ r = σ r) {H : Heap} (hP : va_P V.1 vwCl (x87 V2 τ ++ xpl V σ) H) : va_P V2.1 vwCl (x87 V σ ++ xpl V2 τ) H := by
  rw [h.1, xpl_split V2 τ, xar_eq h ha]
  have h1 := vP_l hP
  have h2 := vP_r hP
  rw [xpl_split] at h2
  exact (vP_l h2).app (h1.app (vP_r h2))
/-- the addresses of a list of cells -/
theorem xpl_fst (V : xV) (σ τ : xS) : (xpl V σ).map Prod.fst = (xpl V τ).map Prod.fst := by
  unfold xpl; rw [List.map_map, List.map_map]; rfl
theorem x87_fst (V : xV) (σ τ : xS) : (x87 V σ).map Prod.fst = (x87 V τ).map Prod.fst := by
  unfold x87; rw [List.map_map, List.map_map]; rfl
theorem vD_fst {A : Nat → Prop} {w1 w2 : va_W} (e : w1.map Prod.fst = w2.map Prod.fst) (h : va_D A w1) : va_D A w2 := by
  have at' : ∀ (k : Nat) (q : Nat × va_E), w2[k]? = some q → ∃ q1, w1[k]? = some q1 ∧ q1.1 = q.1 := fun k q hq => by
    have h1 : (w2.map Prod.fst)[k]? = some q.1 := by rw [List.getElem?_map, hq]; rfl
    rw [← e, List.getElem?_map] at h1
    cases hk : w1[k]? with
    | none => rw [hk] at h1; cases h1
    | some q1 => rw [hk] at h1; exact ⟨q1, rfl, Option.some.inj h1⟩
  refine ⟨fun i j p q hi hj he => ?_, fun k q hq => ?_⟩
  · obtain ⟨p1, a1, b1⟩ := at' i p hi
    obtain ⟨q1, a2, b2⟩ := at' j q hj
    exact h.1 i j p1 q1 a1 a2 (by rw [b1, b2]; exact he)
  · obtain ⟨q1, a1, b1⟩ := at' k q hq
    rw [← b1]; exact h.2 k q1 a1
theorem vD_perm {A : Nat → Prop} {w1 w2 w3 : va_W} (h : va_D A (w1 ++ (w2 ++ w3))) : va_D A (w2 ++ (w1 ++ w3)) := by
  have nd : ∀ (k : Nat) (q : Nat × va_E), (w2 ++ (w1 ++ w3))[k]? = some q → ∃ i, (w1 ++ (w2 ++ w3))[i]? = some q ∧ ((k < w2.length ∧ i = w1.length + k) ∨ (w2.length ≤ k ∧ k < w2.length + w1.length ∧ i + w2.length = k) ∨ (w2.length + w1.length ≤ k ∧ i = k)) := by
    intro k q hq
    by_cases g : k < w2.length
    · refine ⟨w1.length + k, ?_, Or.inl ⟨g, rfl⟩⟩
      rw [List.getElem?_append_right (by omega), Nat.add_sub_cancel_left, List.getElem?_append_left g]
      rw [List.getElem?_append_left g] at hq; exact hq
    · rw [List.getElem?_append_right (by omega)] at hq
      by_cases g2 : k < w2.length + w1.length
      · refine ⟨k - w2.length, ?_, Or.inr (Or.inl ⟨by omega, g2, by omega⟩)⟩
        rw [List.getElem?_append_left (by omega)] at hq ⊢
        exact hq
      · refine ⟨k, ?_, Or.inr (Or.inr ⟨by omega, rfl⟩)⟩
        rw [List.getElem?_append_right (by omega)] at hq
        rw [List.getElem?_append_right (by omega), List.getElem?_append_right (by omega)]
        rw [show k - w1.length - w2.length = k - w2.length - w1.length by omega]
        exact hq
  refine ⟨fun i j p q hi hj he => ?_, fun k q hq => ?_⟩
  · obtain ⟨i', a1, c1⟩ := nd i p hi
    obtain ⟨j', a2, c2⟩ := nd j q hj
    have := h.1 i' j' p q a1 a2 he
    omega
  · obtain ⟨i', a1, -⟩ := nd k q hq
    exact h.2 i' q a1
theorem sw_D {V V2 : xV} (h : WV V V2) {A : Nat → Prop} {σ0 τ0 : xS} (hD : va_D A (x87 V2 τ0 ++ xpl V σ0)) (σ τ : xS) : va_D A (x87 V2 τ ++ xpl V σ) ∧ va_D A (x87 V σ ++ xpl V2 τ) := by
  have h1 : va_D A (x87 V2 τ ++ xpl V σ) := vD_fst (by rw [List.map_append, List.map_append, x87_fst V2 τ0 τ, xpl_fst V σ0 σ]) hD
  refine ⟨h1, ?_⟩
  have e2 : (xar V2 τ).map Prod.fst = (xar V σ).map Prod.fst := by
    unfold xar
    rw [h.2.2 87 (by decide) (by decide), h.2.2 88 (by decide) (by decide), h.2.2 89 (by decide) (by decide), h.2.2 90 (by decide) (by decide), h.2.2 91 (by decide) (by decide), h.2.2 92 (by decide) (by decide), h.2.2 93 (by decide) (by decide)]
    rfl
  rw [xpl_split V σ] at h1
  rw [xpl_split V2 τ]
  refine vD_fst ?_ (vD_perm h1)
  rw [List.map_append, List.map_append, List.map_append, List.map_append, e2]
theorem inR_of {V : xV} {σ : xS} {E : va_W} {A : Nat → Prop} (hD : va_D A (E ++ xpl V σ)) : ∀ q, inR V q → A q := fun q hq => by
  obtain ⟨k, hk, rfl⟩ := hq
  exact hD.2 (E.length + k) _ (xpl_at hk)
section SW
variable {p : Program} {l : Launch} {e : Env} {R : Room} {s : State} {m : MethodId} {args : Array Value} {below : List Frame} {meth : Method} {c : Code} {V V2 : xV} {E : va_W} {A : Nat → Prop} {nL cells slots : Nat} {Q : State → Prop} {cc : ByteArray} {own : String} {Ts : List Cond}
variable {σ τ : xS} {pc : Nat} {lv lv2 : List (Nat × Value)} {st st2 : List Value}
theorem x_pop (C : XC p s m args c cc nL own Ts V E A) {va : Value} (hva : va.category = 1) (d : decode cc pc = .ok (.pop, 1)) (k : X p l e R s m args below meth c V E A nL cells slots Q σ (pc + 1) lv st) : X p l e R s m args below meth c V E A nL cells slots Q σ pc lv (va :: st) := fun H locs ls h1 h2 h3 => lv_pop C.1 C.2.1 d hva (k H locs ls h1 h2 h3)
/-- the other checker comes into focus -/
theorem x_swap (h : WV V V2) (ha : ∀ r, 87 ≤ r → r < 94 → τ r = σ r) (hl : lv = lv2) (hs : st = st2) (k : X p l e R s m args below meth c V2 (x87 V σ) A nL cells slots Q τ pc lv2 st2) : X p l e R s m args below meth c V (x87 V2 τ) A nL cells slots Q σ pc lv st := by
  subst hl hs
  exact fun H locs ls h1 h2 h3 => k H locs ls (sw_P h ha h1) h2 h3
/-- the second checker is done with -/
theorem x_drop (k : X p l e R s m args below meth c V [] A nL cells slots Q σ pc lv st) : X p l e R s m args below meth c V E A nL cells slots Q σ pc lv st := fun H locs ls h1 h2 h3 => k H locs ls (by rw [List.nil_append]; exact vP_r h1) h2 h3
end SW

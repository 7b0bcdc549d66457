/-! A second checker beside the first. -/
theorem at_app (w z : va_W) : (List.range w.length).map (fun i => (w ++ z)[i]?) = w.map some := by
  apply List.ext_getElem?
  intro i
  by_cases h : i < w.length
  · simp [h, List.getElem?_append_left h]
  · rw [List.getElem?_eq_none (by simp; omega), List.getElem?_eq_none (by simp; omega)]
abbrev obj0 (h0 : Nat) : va_W := [(h0, .inr (8, [.null, .null, .null, .null]))]
def aV (V : xV) (h : Nat) (f : Nat → Nat) : xV := (V.1, V.2.1, V.2.2.1, V.2.2.2.1, fun k => if k = 0 then h else if k < 87 then f (k - 1) else xad V k)
set_option maxHeartbeats 4000000 in
set_option maxRecDepth 100000 in
theorem aV_x87 (V : xV) (h : Nat) (f : Nat → Nat) : x87 (aV V h f) xS0 = iTp V h f := by rfl
theorem x87_mkA (V : xV) (σ : xS) : x87 V (mkA σ) = x87 V xS0 := by
  unfold x87
  refine List.map_congr_left (fun k hk => ?_)
  have hk : k < 87 := List.mem_range.mp hk
  have e : xel V (mkA σ) k = xel V xS0 k := by
    unfold xel
    cases hs : shp k with
    | inl o =>
      have e0 : mkA σ k = xS0 k := mkA_0 σ (by omega)
      simp only [e0]
    | inr o =>
      simp only
      congr 2
      apply List.map_congr_left
      intro y hy
      cases y with
      | inl q => rfl
      | inr q =>
        have hq := xint_hi hs hy
        have e0 : mkA σ q = xS0 q := mkA_0 σ (by omega)
        simp only [xfv, e0]
  rw [e]
theorem aV_W (V : xV) (h : Nat) (f : Nat → Nat) : WV V (aV V h f) := ⟨rfl, rfl, fun k h1 h2 => by
  show (if k = 0 then h else if k < 87 then f (k - 1) else xad V k) = xad V k
  rw [if_neg (by omega), if_neg (by omega)]⟩
theorem aV_P (V : xV) (h : Nat) (f : Nat → Nat) (σ : xS) {H : Heap} (hP : va_P V.1 vwCl (xpl V σ ++ iTp V h f) H) : va_P (aV V h f).1 vwCl (x87 V σ ++ xpl (aV V h f) (mkA σ)) H := by
  have h1 := vP_l hP
  have h2 := vP_r hP
  rw [xpl_split] at h1
  rw [xpl_split (aV V h f), x87_mkA, aV_x87, xar_eq (aV_W V h f) (mkA_a σ)]
  exact (vP_l h1).app (h2.app (vP_r h1))
theorem aV_D (V : xV) (h : Nat) (f : Nat → Nat) (σ0 : xS) {A : Nat → Prop} (hD : va_D A (xpl V σ0 ++ iTp V h f)) (σ τ : xS) : va_D A (x87 (aV V h f) τ ++ xpl V σ) ∧ va_D A (x87 V σ ++ xpl (aV V h f) τ) := by
  have h1 : va_D A (xpl V σ0 ++ (iTp V h f ++ [])) := by rw [List.append_nil]; exact hD
  have h2 := vD_perm h1
  rw [List.append_nil, ← aV_x87] at h2
  exact sw_D (aV_W V h f) h2 σ τ
theorem xor5 : ∀ f, f < 16 → ∀ t, t < 4 → (f ^^^ (t * 5)) < 16 ∧ nI f ^^^ nI (t * 5) = nI (f ^^^ (t * 5)) := by decide +kernel
set_option maxHeartbeats 8000000 in
set_option maxRecDepth 100000 in
/-- the products, one after the other -/
theorem T_time {p : Program} {l : Launch} {e : Env} {s : State} {m : MethodId} {args : Array Value} {below : List Frame} {meth : Method} {c : Code} {V : xV} {A : Nat → Prop} {Q : State → Prop} {b fr nr nc nl nm ne nx : Nat} (C : XC p s m args c cL_law 17 RL wsL_law V [] A) (hV : xInj V) (hA : ∀ q, s.heap.size ≤ q → A q) (hfr : fr < 16) {u0 : xS} (hP0 : PP nr nc nl nm ne nx u0)
    (K : ∀ σ, Eqc σ u0 → X p l e room_1 s m args below meth c V [] A 17 600 34000 Q σ 804 [(0, .ref b), (1, ra V 0), (2, ra V 87), (3, ra V 88), (4, ra V 89), (5, ra V 90), (6, ra V 91), (7, ra V 92), (8, ra V 93), (9, .int (nI fr)), (10, .int (nI 4))] []) :
    ∀ (n t : Nat) (σ : xS), t + n = 4 → Eqc σ u0 → X p l e room_1 s m args below meth c V [] A 17 (200 + 100 * t) (10000 + 6000 * t) Q σ 87 [(0, .ref b), (1, ra V 0), (2, ra V 87), (3, ra V 88), (4, ra V 89), (5, ra V 90), (6, ra V 91), (7, ra V 92), (8, ra V 93), (9, .int (nI fr)), (10, .int (nI t))] [] := by
  intro n
  induction n with
  | zero =>
    intro t σ ht q1
    have e4 : t = 4 := ht
    subst e4
    exact M_17 (pa := 0) (g := 0) C hV ⟨Nat.le_of_ble_eq_true rfl, Nat.le_of_ble_eq_true rfl⟩ (by omega) (by omega) (K σ q1)
  | succ n ih =>
    intro t σ ht q1
    have ht4 : t < 4 := by omega
    have hcs : (200 + 100 * t) + 0 ≤ room_1.cells ∧ (10000 + 6000 * t) + 0 ≤ room_1.slots := ⟨by show _ ≤ 600064; omega, by show _ ≤ 7301640; omega⟩
    have hcs2 : (200 + 100 * (t + 1)) + 0 ≤ room_1.cells ∧ (10000 + 6000 * (t + 1)) + 0 ≤ room_1.slots := ⟨by show _ ≤ 600064; omega, by show _ ≤ 7301640; omega⟩
    obtain ⟨hg, hx⟩ := xor5 fr hfr t ht4
    generalize fr ^^^ (t * 5) = g at hg hx
    have hP := hP0.of q1
    have hb : nc ≤ 4 ∧ nl ≤ 4 ∧ nm ≤ 7 ∧ ne ≤ 14 ∧ nx ≤ 6 := ⟨hP.1.2.1.1, hP.1.2.2.1.1, hP.1.2.2.2.1.1, hP.1.2.2.2.2.1.1, hP.1.2.2.2.2.2.1.1⟩
    refine M_18 (pa := 0) (g := g) C hV hcs ht4 hx hP.1.2.2.2.2.2.2.1 hP.1.1.1 (fun hpr => ?_) (fun hpr => ?_)
    · have hp : bt (allI σ) g = true := by rw [allI_p hg hP.2.1 hP.1.1]; exact hpr
      intro H locs ls h1 h2 h3
      rw [List.nil_append] at h1
      have hD0 : va_D A (xpl V σ) := by have := C.2.2.2.2.2.2.1 σ; rw [List.nil_append] at this; exact this
      refine va_new (ci := 8) (fs := [.null, .null, .null, .null]) (C := RX8) (T := TX8) (N := 4) C.1 C.2.1 C.2.2.2.2.1 inlX8 tyX8 tyX8_ok C.2.2.2.1 (C.2.2.2.2.1 (.classLink RL 20 RX8) (by decide +kernel)) (C.2.2.2.2.1 (.instantiable RX8 4) (by decide +kernel)) (C.2.2.2.2.1 (.initialized RX8) (by decide +kernel)) C.2.2.2.2.2.1.1 h1 hD0 h2 hA rfl (fun j hj => by have : j = 0 ∨ j = 1 ∨ j = 2 ∨ j = 3 := (by omega); rcases this with rfl | rfl | rfl | rfl <;> rfl) (by show _ ≤ 600064; omega) (by show _ ≤ 7301640; omega) dL_law_115 (fun h0 H hP9 hD9 hS9 => ?_)
      have hP9 : va_P V.1 vwCl (xpl V σ ++ obj0 h0) H := hP9
      have hD9 : va_D A (xpl V σ ++ obj0 h0) := hD9
      refine lv_dup C.1 C.2.1 dL_law_118 rfl ?_
      have hPc : va_P V.1 vwCl (obj0 h0) H := vP_r hP9
      have hDc : va_D A (obj0 h0) := hD9.sub (ws' := obj0 h0) [94] (by decide) (by show [(xpl V σ ++ obj0 h0)[94]?] = _; rw [List.getElem?_append_right (by rw [xpl_len]; exact Nat.le_refl _), xpl_len]; rfl)
      have hi94 : [94].map (fun i => (xpl V σ ++ obj0 h0)[i]?) = (obj0 h0).map some := by show [(xpl V σ ++ obj0 h0)[94]?] = _; rw [List.getElem?_append_right (by rw [xpl_len]; exact Nat.le_refl _), xpl_len]; rfl
      have hFc := va_free (wc := obj0 h0) hD9 hS9 hA [94] hi94
      refine va_callv (va_runI (As := []) (rest := [.ref h0]) ⟨C.1, C.2.1, C.2.2.1, C.2.2.2.1, C.2.2.2.2.1⟩ (iPlc l V h0 H.size) (cwI 0 C.2.2.2.2.1 gL_law_X8_init rfl rfl rfl (C.2.2.2.2.1 (.initialized RX8) (by decide +kernel)) (C.2.2.2.2.1 (.methodLink RL 66 yX8_init) (by decide +kernel)) (C.2.2.2.2.1 (.instanceMethod yX8_init) (by decide +kernel)) rfl (by decide +kernel) ⟨Nat.le_of_ble_eq_true rfl, Nat.le_of_ble_eq_true rfl⟩) ⟨fun a U g mk q => by obtain ⟨q0, q1, qP, qK, qD⟩ := q; exact ⟨q0, q1, qP, ⟨va_K.moved (u := U) (U := U.calling g mk a) (Vm.Alike.refl U.vm) qK.1, xN.same (s := U) (U := U.calling g mk a) rfl qK.2⟩, qD⟩, fun U hU hW => ⟨rfl, by rw [hU], by rw [hU]; exact hPc, C.2.2.2.2.2.1.warm hW, hDc.weaken (fun _ _ _ _ => trivial)⟩⟩ rfl rfl h3.1 rfl (lv_room (Nat.le_of_ble_eq_true rfl)) dL_law_119 ⟨by show _ ≤ 600064; omega, by show _ ≤ 7301640; omega⟩) hS9 (fun q _ h => hFc q h) hFc (fun u t9 H1 locs1 ht9 hvm hw hB hz1 hk1 hS1 => ?_)
      obtain ⟨f, rfl⟩ : ∃ z, z = u := ⟨_, rfl⟩
      obtain ⟨hP1, hD1⟩ := hB
      rw [ht9] at hP1
      have hi87 : (List.range 94).map (fun i => (xpl V σ ++ obj0 h0)[i]?) = (xpl V σ).map some := by
        have := at_app (xpl V σ) (obj0 h0)
        rw [xpl_len] at this; exact this
      obtain ⟨hP2, hD2⟩ := va_join (wr := xpl V σ) (w1 := iTp V h0 f) hP9 hD9 [94] (List.range 94) hi94 hi87 (by decide) (by decide) hk1 hFc hP1 hD1
      refine W.widen (k := 200 + 100 * (t + 1)) (n := 10000 + 6000 * (t + 1)) (by omega) (by omega) ?_
      refine lv_astore (lv' := [(12, .ref h0), (0, .ref b), (1, ra V 0), (2, ra V 87), (3, ra V 88), (4, ra V 89), (5, ra V 90), (6, ra V 91), (7, ra V 92), (8, ra V 93), (9, .int (nI fr)), (10, .int (nI t)), (11, .int (nI g))]) C.1 C.2.1 dL_law_122 h3 (by decide) rfl (fun ls hl => ?_)
      have hl := lv_sub hl (l' := [(0, .ref b), (1, ra V 0), (2, ra V 87), (3, ra V 88), (4, ra V 89), (5, ra V 90), (6, ra V 91), (7, ra V 92), (8, ra V 93), (9, .int (nI fr)), (10, .int (nI t)), (11, .int (nI g)), (12, .ref h0)]) [1, 2, 3, 4, 5, 6, 7, 8, 9, 10, 11, 12, 0] rfl
      have W2 := aV_W V h0 f
      have hDD := aV_D V h0 f σ hD2
      have hPa := aV_P V h0 f σ hP2
      have hra0 : xad (aV V h0 f) 0 = h0 := rfl
      generalize aV V h0 f = V2 at W2 hDD hPa hra0
      have hK2 : xK V2 s := by
        unfold xK xty
        rw [W2.1, W2.2.1]; exact C.2.2.2.2.2.1
      have hV2 : xInj V2 := xInj_of (E := x87 V σ) (σ := mkA σ) (hDD σ (mkA σ)).2
      have C1 : ∀ τ, XC p s m args c cL_law 17 RL wsL_law V (x87 V2 τ) A := fun τ => ⟨C.1, C.2.1, C.2.2.1, C.2.2.2.1, C.2.2.2.2.1, C.2.2.2.2.2.1, fun σ => (hDD σ τ).1, C.2.2.2.2.2.2.2⟩
      have C2 : ∀ σ', XC p s m args c cL_law 17 RL wsL_law V2 (x87 V σ') A := fun σ' => ⟨C.1, C.2.1, C.2.2.1, C.2.2.2.1, C.2.2.2.2.1, hK2, fun τ => (hDD σ' τ).2, inR_of (hDD σ' (mkA σ)).2⟩
      rw [← hra0] at hl
      have hl2 : lv_has ls 17 ((0, .ref b) :: (1, ra V 0) :: (2, ra V 87) :: (3, ra V 88) :: (4, ra V 89) :: (5, ra V 90) :: (6, ra V 91) :: (7, ra V 92) :: (8, ra V 93) :: (9, .int (nI fr)) :: (10, .int (nI t)) :: (11, .int (nI g)) :: (12, .ref (xad V2 0)) :: []) := hl
      rw [lPA W2] at hl2
      refine (?_ : X p l e room_1 s m args below meth c V2 (x87 V σ) A 17 (200 + 100 * (t + 1)) (10000 + 6000 * (t + 1)) Q (mkA σ) 124 ((0, .ref b) :: (1, .ref (xad V 0)) :: (2, ra V2 87) :: (3, ra V2 88) :: (4, ra V2 89) :: (5, ra V2 90) :: (6, ra V2 91) :: (7, ra V2 92) :: (8, ra V2 93) :: (9, .int (nI fr)) :: (10, .int (nI t)) :: (11, .int (nI g)) :: (12, ra V2 0) :: []) []) H1 locs1 ls hPa hS1 hl2
      refine F_rules (C2 σ) hV2 hcs2 (a := σ) (mkA_RK σ) (mkA_Ro σ _) (mkA_a σ) (fun τ1 r1 a1 => ?_)
      refine F_classes (C2 σ) hV2 hcs2 hb r1 (hP.1.of a1) a1 (fun τ2 r2 v2 a2 => ?_)
      refine F_links (C2 σ) hV2 hcs2 hb r2 v2 a2 (fun τ3 r3 v3 a3 => ?_)
      refine F_members (C2 σ) hV2 hcs2 hb r3 v3 a3 (fun τ4 r4 v4 a4 => ?_)
      refine F_exprs (C2 σ) hV2 hcs2 hb r4 v4 a4 (fun τ5 r5 v5 a5 => ?_)
      refine F_results (C2 σ) hV2 hcs2 hb r5 v5 a5 (fun τ6 r6 v6 a6 => ?_)
      refine T_pair W2 C1 C2 hV hV2 hcs2 hg hP ⟨v6, r6⟩ a6 hp (fun σ' τ' q' => ?_)
      refine M_15 (C1 τ') hV hcs2 ?_
      refine x_drop ?_
      exact ih (t + 1) σ' (by omega) (q'.tr q1)
    · refine M_15b (pa := 0) C hV hcs ?_
      refine x_widen (k := 200 + 100 * (t + 1)) (n := 10000 + 6000 * (t + 1)) (by omega) (by omega) ?_
      exact ih (t + 1) σ (by omega) q1

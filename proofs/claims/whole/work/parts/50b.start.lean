theorem vP_l {D : va_G} {cl : List vw_C} {w1 w2 : va_W} {H : Heap} (h : va_P D cl (w1 ++ w2) H) : va_P D cl w1 H := fun k q hq => h k q (by rw [List.getElem?_append_left (List.getElem?_eq_some_iff.mp hq).1]; exact hq)
theorem vP_r {D : va_G} {cl : List vw_C} {w1 w2 : va_W} {H : Heap} (h : va_P D cl (w1 ++ w2) H) : va_P D cl w2 H := fun k q hq => h (w1.length + k) q (by rw [List.getElem?_append_right (by omega), Nat.add_sub_cancel_left]; exact hq)
set_option maxRecDepth 100000 in
theorem iTp_at (V : xV) (h0 : Nat) (f : Nat → Nat) (W : va_E) (h9 : Nat) : (List.range 87).map (fun i => (iTp V h0 f ++ [(h9, W)])[i]?) = (iTp V h0 f).map some := by rfl
set_option maxHeartbeats 8000000 in
set_option maxRecDepth 100000 in
/-- THE LAW, from its entry -/
theorem whole_start {p : Program} {e : Env} {s : State} {m : MethodId} {below : List Frame} {meth : Method} {c : Code} (l : Launch) (hflags : l.flags = flags0) {b L : Nat} {xs : Nat → Int32} (hL : L ≤ 4096) (C0 : lw_At p s m meth c b L xs) : W p l e room_1 s m #[Value.ref b] below meth c s.heap [] 0 0 (lw_Z below #[Value.ref b] s) (entryFrame m ([Value.ref b] : List Value).toArray 9) := by
  obtain ⟨hx, hb, hr, hml, hown, hts0, hX, hbl, hlocks, hgv⟩ := C0
  have hs := flat_of_before _ hgv
  have hlst : l.stackTraces = false := by
    show (!l.flags.contains noTraceFlag) = false
    rw [hflags]; first | decide +kernel | simp [flags0]
  have hT := xT_start hts0 hs
  have hZ := xZ_start hts0 hs
  obtain ⟨V, hK⟩ := xK_start hts0
  have hts : ∀ w ∈ wsL_law, w.before #[Value.ref b] s = true := fun w h => hts0 w (wsL_law_in w h)
  have hown : s.vm.findClass RL = some m.cls := hown
  have hA : ∀ q : Nat, s.heap.size ≤ q → (fun q : Nat => s.heap.size ≤ q) q := fun _ h => h
  have hbA : ¬ (fun q : Nat => s.heap.size ≤ q) b := Nat.not_le.mpr hbl
  have hS : va_S (fun q : Nat => s.heap.size ≤ q) s.heap s.heap [] := va_S.rf
  have hP : va_P V.1 vwCl [] s.heap := fun k q h => by simp at h
  have hD : va_D (fun q : Nat => s.heap.size ≤ q) [] := ⟨fun i j p q h => by simp at h, fun k q h => by simp at h⟩
  have hl := lv_entry ([.ref b]) (n := 9) (Nat.le_of_ble_eq_true rfl)
  rw [lg_entry_eq]
  generalize (lg_sl ([.ref b]) ++ List.replicate (9 - (lg_sl ([.ref b])).length) Slot.unset).toArray = ls at hl ⊢
  have hl : lv_has ls 9 [(0, .ref b)] := hl
  refine va_new (ci := 8) (fs := [.null, .null, .null, .null]) (C := RX8) (T := TX8) (N := 4) hx hb hts inlX8 tyX8 tyX8_ok hown (hts (.classLink RL 8 RX8) (by decide +kernel)) (hts (.instantiable RX8 4) (by decide +kernel)) (hts (.initialized RX8) (by decide +kernel)) hK.1 hP hD hS hA rfl (fun j hj => by have : j = 0 ∨ j = 1 ∨ j = 2 ∨ j = 3 := (by omega); rcases this with rfl | rfl | rfl | rfl <;> rfl) (Nat.le_of_ble_eq_true rfl) (Nat.le_of_ble_eq_true rfl) dL_law_0 (fun h0 H hP hD hS => ?_)
  have hP : va_P V.1 vwCl [(h0, .inr (8, [.null, .null, .null, .null]))] H := hP
  have hD : va_D (fun q : Nat => s.heap.size ≤ q) [(h0, .inr (8, [.null, .null, .null, .null]))] := hD
  refine W.widen (k := 1) (n := 4) (by omega) (by omega) ?_
  refine lv_dup hx hb dL_law_3 rfl ?_
  have hPc := hP
  have hDc := hD
  have hFc := va_free (wc := [(h0, .inr (8, [.null, .null, .null, .null]))]) hD hS hA [0] rfl
  refine va_callv (va_runI (As := []) (rest := [.ref h0]) ⟨hx, hb, hml, hown, hts⟩ (iPlc l V h0 H.size) (cwI 0 hts gL_law_X8_init rfl rfl rfl (hts (.initialized RX8) (by decide +kernel)) (hts (.methodLink RL 92 yX8_init) (by decide +kernel)) (hts (.instanceMethod yX8_init) (by decide +kernel)) rfl (by decide +kernel) ⟨Nat.le_of_ble_eq_true rfl, Nat.le_of_ble_eq_true rfl⟩) ⟨fun a U g mk q => by obtain ⟨q0, q1, qP, qK, qD⟩ := q; exact ⟨q0, q1, qP, ⟨va_K.moved (u := U) (U := U.calling g mk a) (Vm.Alike.refl U.vm) qK.1, xN.same (s := U) (U := U.calling g mk a) rfl qK.2⟩, qD⟩, fun U hU hW => ⟨rfl, by rw [hU], by rw [hU]; exact hPc, ⟨va_K.moved hW.alike hK.1, xN.warm hW hK.2⟩, hDc.weaken (fun _ _ _ _ => trivial)⟩⟩ rfl rfl hl.1 rfl (lv_room (Nat.le_of_ble_eq_true rfl)) dL_law_4 ⟨Nat.le_of_ble_eq_true rfl, Nat.le_of_ble_eq_true rfl⟩) hS (fun q _ h => hFc q h) hFc (fun u t H1 locs ht hvm hw hB hz1 hk1 hS => ?_)
  obtain ⟨f, rfl⟩ : ∃ z, z = u := ⟨_, rfl⟩
  obtain ⟨hP1, hD1⟩ := hB
  rw [ht] at hP1
  obtain ⟨hP, hD⟩ := va_join (wr := []) (w1 := iTp V h0 f) hP hD [0] [] rfl rfl (by decide) (by decide) hk1 hFc hP1 hD1
  generalize H1 = H at hP hS ⊢
  have hP : va_P V.1 vwCl (iTp V h0 f) H := hP
  have hD : va_D (fun q : Nat => s.heap.size ≤ q) (iTp V h0 f) := hD
  refine W.widen (k := 100) (n := 6000) (Nat.le_of_ble_eq_true rfl) (Nat.le_of_ble_eq_true rfl) ?_
  refine lv_astore_n (lv' := [(1, .ref h0), (0, .ref b)]) hx hb dL_law_7 rfl hl (by decide) rfl (fun ls hl => ?_)
  refine va_new (ci := 9) (fs := [.int 0, .int 0, .null, .null, .null, .null, .null, .null, .null, .null, .null, .null, .null, .null, .null, .null, .int 0, .null, .null, .null, .null, .int 0, .null, .null]) (C := RX9) (T := TX9) (N := 24) hx hb hts inlX9 tyX9 tyX9_ok hown (hts (.classLink RL 93 RX9) (by decide +kernel)) (hts (.instantiable RX9 24) (by decide +kernel)) (hts (.initialized RX9) (by decide +kernel)) hK.1 hP hD hS hA rfl (fun j hj => by have : j = 0 ∨ j = 1 ∨ j = 2 ∨ j = 3 ∨ j = 4 ∨ j = 5 ∨ j = 6 ∨ j = 7 ∨ j = 8 ∨ j = 9 ∨ j = 10 ∨ j = 11 ∨ j = 12 ∨ j = 13 ∨ j = 14 ∨ j = 15 ∨ j = 16 ∨ j = 17 ∨ j = 18 ∨ j = 19 ∨ j = 20 ∨ j = 21 ∨ j = 22 ∨ j = 23 := (by omega); rcases this with rfl | rfl | rfl | rfl | rfl | rfl | rfl | rfl | rfl | rfl | rfl | rfl | rfl | rfl | rfl | rfl | rfl | rfl | rfl | rfl | rfl | rfl | rfl | rfl <;> rfl) (Nat.le_of_ble_eq_true rfl) (Nat.le_of_ble_eq_true rfl) dL_law_8 (fun h9 H hP hD hS => ?_)
  have hP : va_P V.1 vwCl (iTp V h0 f ++ [(h9, .inr (9, [.int 0, .int 0, .null, .null, .null, .null, .null, .null, .null, .null, .null, .null, .null, .null, .null, .null, .int 0, .null, .null, .null, .null, .int 0, .null, .null]))]) H := hP
  have hD : va_D (fun q : Nat => s.heap.size ≤ q) (iTp V h0 f ++ [(h9, .inr (9, [.int 0, .int 0, .null, .null, .null, .null, .null, .null, .null, .null, .null, .null, .null, .null, .null, .null, .int 0, .null, .null, .null, .null, .int 0, .null, .null]))]) := hD
  refine W.widen (k := 101) (n := 6100) (by omega) (by omega) ?_
  refine lv_dup hx hb dL_law_11 rfl ?_
  have hPc := hP.sub (ws' := [(h9, .inr (9, [.int 0, .int 0, .null, .null, .null, .null, .null, .null, .null, .null, .null, .null, .null, .null, .null, .null, .int 0, .null, .null, .null, .null, .int 0, .null, .null]))]) [87] rfl
  have hDc := hD.sub (ws' := [(h9, .inr (9, [.int 0, .int 0, .null, .null, .null, .null, .null, .null, .null, .null, .null, .null, .null, .null, .null, .null, .int 0, .null, .null, .null, .null, .int 0, .null, .null]))]) [87] (by decide) rfl
  have hFc := va_free (wc := [(h9, .inr (9, [.int 0, .int 0, .null, .null, .null, .null, .null, .null, .null, .null, .null, .null, .null, .null, .null, .null, .int 0, .null, .null, .null, .null, .int 0, .null, .null]))]) hD hS hA [87] rfl
  refine va_callv (va_runI (As := []) (rest := [.ref h9]) ⟨hx, hb, hml, hown, hts⟩ (iModel l V h9 H.size) (cwI 0 hts gL_law_X9_init rfl rfl rfl (hts (.initialized RX9) (by decide +kernel)) (hts (.methodLink RL 95 yX9_init) (by decide +kernel)) (hts (.instanceMethod yX9_init) (by decide +kernel)) rfl (by decide +kernel) ⟨Nat.le_of_ble_eq_true rfl, Nat.le_of_ble_eq_true rfl⟩) ⟨fun a U g mk q => by obtain ⟨q0, q1, qP, qK, qD⟩ := q; exact ⟨q0, q1, qP, ⟨va_K.moved (u := U) (U := U.calling g mk a) (Vm.Alike.refl U.vm) qK.1, xN.same (s := U) (U := U.calling g mk a) rfl qK.2⟩, qD⟩, fun U hU hW => ⟨rfl, by rw [hU], by rw [hU]; exact hPc, ⟨va_K.moved hW.alike hK.1, xN.warm hW hK.2⟩, hDc.weaken (fun _ _ _ _ => trivial)⟩⟩ rfl rfl hl.1 rfl (lv_room (Nat.le_of_ble_eq_true rfl)) dL_law_12 ⟨Nat.le_of_ble_eq_true rfl, Nat.le_of_ble_eq_true rfl⟩) hS (fun q _ h => hFc q h) hFc (fun u t H1 locs ht hvm hw hB hz1 hk1 hS => ?_)
  obtain ⟨g, rfl⟩ : ∃ z, z = u := ⟨_, rfl⟩
  obtain ⟨hP1, hD1⟩ := hB
  rw [ht] at hP1
  obtain ⟨hP, hD⟩ := va_join (wr := iTp V h0 f) (w1 := iTm V h9 g) hP hD [87] (List.range 87) rfl (iTp_at _ _ _ _ _) (by decide) (by decide) hk1 hFc hP1 hD1
  rw [iWorld] at hP hD
  generalize H1 = H at hP hS ⊢
  refine W.widen (k := 200) (n := 10000) (Nat.le_of_ble_eq_true rfl) (Nat.le_of_ble_eq_true rfl) ?_
  have hV : xInj (iV V h0 h9 f g) := xInj_of (E := []) (σ := xS0) (by rw [List.nil_append]; exact hD)
  have hK2 : xK (iV V h0 h9 f g) s := hK
  refine lv_astore_n (lv' := [(2, .ref h9), (1, .ref h0), (0, .ref b)]) hx hb dL_law_15 rfl hl (by decide) rfl (fun ls hl => ?_)
  refine lv_iconst (v := 1) hx hb dL_law_16 (by decide) ?_
  refine va_newa (N' := 1) (a0 := (1, .inr (.inl fun _ => 0))) hx hb (atype := .long) (hts (.arrayClass .long) (by decide +kernel)) rfl hK2.1 hP hD hS hA (fun _ => rfl) (by decide) rfl (Nat.le_of_ble_eq_true rfl) (Nat.le_of_ble_eq_true rfl) (Nat.le_of_ble_eq_true rfl) dL_law_17 (fun lo cA H hK1 hP hD hS => ?_)
  have hcA : cA = (iV V h0 h9 f g).2.2.2.1 := by
    have h1 := (hK1.2 2 ((iV V h0 h9 f g).2.2.2.1, .long) rfl).2
    have h2 := (hK1.2 3 (cA, .long) rfl).2
    exact Option.some.inj (h2.symm.trans h1)
  subst hcA
  have hD : va_D (fun q : Nat => s.heap.size ≤ q) (xpl (iV V h0 h9 f g) xS0 ++ [oc (iV V h0 h9 f g) lo (fun _ => 0)]) := hD
  have hP : va_P (iV V h0 h9 f g).1 vwCl (xpl (iV V h0 h9 f g) xS0 ++ [oc (iV V h0 h9 f g) lo (fun _ => 0)]) H := hP
  have hra0 : ra (iV V h0 h9 f g) 0 = .ref h0 := rfl
  have hra9 : ra (iV V h0 h9 f g) 87 = .ref h9 := rfl
  generalize iV V h0 h9 f g = V2 at hV hK2 hP hD hra0 hra9
  have hP2 : va_P V2.1 vwCl ([oc V2 lo (fun _ => 0)] ++ xpl V2 xS0) H := (vP_r hP).app (vP_l hP)
  have hat : ∀ k, k < 108 → (xpl V2 xS0 ++ [oc V2 lo (fun _ => 0)])[k]? = some (xad V2 k, xel V2 xS0 k) := fun k hk => by
    rw [List.getElem?_append_left (by rw [xpl_len]; exact hk)]; exact xpl_get hk
  have hat2 : (xpl V2 xS0 ++ [oc V2 lo (fun _ => 0)])[108]? = some (oc V2 lo (fun _ => 0)) := by
    rw [List.getElem?_append_right (by rw [xpl_len]; exact Nat.le_refl _), xpl_len]; rfl
  have hO : ∀ k, k < 108 → xad V2 k ≠ lo := fun k hk q => by
    have := hD.1 k 108 _ _ (hat k hk) hat2 q
    omega
  have hAO : ∀ q, inO V2 lo q → (fun q : Nat => s.heap.size ≤ q) q := fun q hq => by
    rcases hq with ⟨k, hk, rfl⟩ | rfl
    · exact hD.2 k _ (hat k hk)
    · exact hD.2 108 _ hat2
  have C0 : ∀ gg, XC p s m #[Value.ref b] c cL_law 9 RL wsL_law V2 [oc V2 lo gg] (fun q : Nat => s.heap.size ≤ q) := fun gg => ⟨hx, hb, hml, hown, hts, hK2, fun σ => xD_oc _ hV hO hAO gg σ, fun q h => hAO q (Or.inl h)⟩
  refine lv_astore_n (lv' := [(3, .ref lo), (2, .ref h9), (1, .ref h0), (0, .ref b)]) hx hb dL_law_19 rfl hl (by decide) rfl (fun ls hl => ?_)
  refine lv_iconst (v := 0) hx hb dL_law_20 (by decide) ?_
  refine lv_istore (lv' := [(4, .int 0), (3, .ref lo), (2, .ref h9), (1, .ref h0), (0, .ref b)]) hx hb dL_law_21 hl (by decide) rfl (fun ls hl => ?_)
  refine W.widen (k := 2000) (n := 20000) (by omega) (by omega) ?_
  have hl := lv_sub hl (l' := [(0, .ref b), (1, .ref h0), (2, .ref h9), (3, .ref lo), (4, .int 0)]) [4, 3, 2, 1, 0] rfl
  rw [← hra0, ← hra9] at hl
  refine law_loop hlst C0 hV hO hAO hT hZ hX hbl hbA hL (fun i cells slots σ gg hc1 hc2 => ?_) 512 0 xS0 (fun _ => 0) (Nat.zero_le _) (by omega) Sm_start H locs ls hP2 hS hl
  refine x_iconst (C0 gg) (1 : Int32) (by decide) dL_law_1983 ?_
  intro H2 locs2 ls2 g1 g2 g3
  refine va_forget (fun q hq => g2.2.2 q hq) ?_
  refine W.widen (k := 601024) (n := 7293034) (by omega) (by omega) ?_
  exact W.base (lw_ret (d0 := s.drawn) (Drawn.sameBut.refl s.drawn lw_cs) hx hb hr hlocks dL_law_1984)

set_option maxHeartbeats 8000000 in
set_option maxRecDepth 100000 in
/-- THE LAW, from its entry -/
theorem whole_start {p : Program} {e : Env} {s : State} {m : MethodId} {below : List Frame} {meth : Method} {c : Code} (l : Launch) (hflags : l.flags = flags0) {b L : Nat} {xs : Nat → Int32} (hL : L ≤ 260) (C0 : lw_At p s m meth c b L xs) : W p l e room_1 s m #[Value.ref b] below meth c s.heap [] 0 0 (lw_Z below #[Value.ref b] s) (entryFrame m ([Value.ref b] : List Value).toArray 17) := by
  obtain ⟨hx, hb, hr, hml, hown, hts0, hX, hbl, hlocks, hgv⟩ := C0
  obtain ⟨V, hK⟩ := xK_start hts0
  have hts : ∀ w ∈ wsL_law, w.before #[Value.ref b] s = true := fun w h => hts0 w (wsL_law_in w h)
  have hown : s.vm.findClass RL = some m.cls := hown
  have hA : ∀ q : Nat, s.heap.size ≤ q → (fun q : Nat => s.heap.size ≤ q) q := fun _ h => h
  have hbA : ¬ (fun q : Nat => s.heap.size ≤ q) b := Nat.not_le.mpr hbl
  have hS : va_S (fun q : Nat => s.heap.size ≤ q) s.heap s.heap [] := va_S.rf
  have hP : va_P V.1 vwCl [] s.heap := fun k q h => by simp at h
  have hD : va_D (fun q : Nat => s.heap.size ≤ q) [] := ⟨fun i j p q h => by simp at h, fun k q h => by simp at h⟩
  have hl := lv_entry ([.ref b]) (n := 17) (Nat.le_of_ble_eq_true rfl)
  rw [lg_entry_eq]
  generalize (lg_sl ([.ref b]) ++ List.replicate (17 - (lg_sl ([.ref b])).length) Slot.unset).toArray = ls at hl ⊢
  have hl : lv_has ls 17 [(0, .ref b)] := hl
  refine va_new (ci := 8) (fs := [.null, .null, .null, .null]) (C := RX8) (T := TX8) (N := 4) hx hb hts inlX8 tyX8 tyX8_ok hown (hts (.classLink RL 20 RX8) (by decide +kernel)) (hts (.instantiable RX8 4) (by decide +kernel)) (hts (.initialized RX8) (by decide +kernel)) hK.1 hP hD hS hA rfl (fun j hj => by have : j = 0 ∨ j = 1 ∨ j = 2 ∨ j = 3 := (by omega); rcases this with rfl | rfl | rfl | rfl <;> rfl) (Nat.le_of_ble_eq_true rfl) (Nat.le_of_ble_eq_true rfl) dL_law_0 (fun h0 H hP hD hS => ?_)
  have hP : va_P V.1 vwCl [(h0, .inr (8, [.null, .null, .null, .null]))] H := hP
  have hD : va_D (fun q : Nat => s.heap.size ≤ q) [(h0, .inr (8, [.null, .null, .null, .null]))] := hD
  refine W.widen (k := 1) (n := 4) (by omega) (by omega) ?_
  refine lv_dup hx hb dL_law_3 rfl ?_
  have hPc := hP
  have hDc := hD
  have hFc := va_free (wc := [(h0, .inr (8, [.null, .null, .null, .null]))]) hD hS hA [0] rfl
  refine va_callv (va_runI (As := []) (rest := [.ref h0]) ⟨hx, hb, hml, hown, hts⟩ (iPlc l V h0 H.size) (cwI 0 hts gL_law_X8_init rfl rfl rfl (hts (.initialized RX8) (by decide +kernel)) (hts (.methodLink RL 66 yX8_init) (by decide +kernel)) (hts (.instanceMethod yX8_init) (by decide +kernel)) rfl (by decide +kernel) ⟨Nat.le_of_ble_eq_true rfl, Nat.le_of_ble_eq_true rfl⟩) ⟨fun a U g mk q => by obtain ⟨q0, q1, qP, qK, qD⟩ := q; exact ⟨q0, q1, qP, ⟨va_K.moved (u := U) (U := U.calling g mk a) (Vm.Alike.refl U.vm) qK.1, xN.same (s := U) (U := U.calling g mk a) rfl qK.2⟩, qD⟩, fun U hU hW => ⟨rfl, by rw [hU], by rw [hU]; exact hPc, ⟨va_K.moved hW.alike hK.1, xN.warm hW hK.2⟩, hDc.weaken (fun _ _ _ _ => trivial)⟩⟩ rfl rfl hl.1 rfl (lv_room (Nat.le_of_ble_eq_true rfl)) dL_law_4 ⟨Nat.le_of_ble_eq_true rfl, Nat.le_of_ble_eq_true rfl⟩) hS (fun q _ h => hFc q h) hFc (fun u t H1 locs ht hvm hw hB hz1 hk1 hS => ?_)
  obtain ⟨f, rfl⟩ : ∃ z, z = u := ⟨_, rfl⟩
  obtain ⟨hP1, hD1⟩ := hB
  rw [ht] at hP1
  obtain ⟨hP, hD⟩ := va_join (wr := []) (w1 := iTp V h0 f) hP hD [0] [] rfl rfl (by decide) (by decide) hk1 hFc hP1 hD1
  generalize H1 = H at hP hS ⊢
  have hP : va_P V.1 vwCl (iTp V h0 f) H := hP
  have hD : va_D (fun q : Nat => s.heap.size ≤ q) (iTp V h0 f) := hD
  refine W.widen (k := 100) (n := 6000) (Nat.le_of_ble_eq_true rfl) (Nat.le_of_ble_eq_true rfl) ?_
  refine lv_astore_n (lv' := [(1, .ref h0), (0, .ref b)]) hx hb dL_law_7 rfl hl (by decide) rfl (fun ls hl => ?_)
  refine lv_bipush (v := 6) hx hb dL_law_8 (by decide) ?_
  refine va_newa (N' := 6) (a0 := (6, .inl fun _ => 0)) hx hb (atype := .int) (hts (.arrayClass .int) (by decide +kernel)) rfl hK.1 hP hD hS hA (fun _ => rfl) (by decide) rfl (Nat.le_of_ble_eq_true rfl) (Nat.le_of_ble_eq_true rfl) (Nat.le_of_ble_eq_true rfl) dL_law_10 (fun a0 cA H hK1 hP hD hS => ?_)
  have hcA := iK_int hK1
  subst hcA
  have hP : va_P V.1 vwCl (iTp V h0 f ++ [(a0, iZ V 6)]) H := hP
  have hD : va_D (fun q : Nat => s.heap.size ≤ q) (iTp V h0 f ++ [(a0, iZ V 6)]) := hD
  refine lv_astore_n (lv' := [(2, .ref a0), (1, .ref h0), (0, .ref b)]) hx hb dL_law_12 rfl hl (by decide) rfl (fun ls hl => ?_)
  refine lv_bipush (v := 12) hx hb dL_law_13 (by decide) ?_
  refine va_newa (N' := 12) (a0 := (12, .inl fun _ => 0)) hx hb (atype := .int) (hts (.arrayClass .int) (by decide +kernel)) rfl hK.1 hP hD hS hA (fun _ => rfl) (by decide) rfl (Nat.le_of_ble_eq_true rfl) (Nat.le_of_ble_eq_true rfl) (Nat.le_of_ble_eq_true rfl) dL_law_15 (fun a1 cA H hK1 hP hD hS => ?_)
  have hcA := iK_int hK1
  subst hcA
  have hP : va_P V.1 vwCl ((iTp V h0 f ++ [(a0, iZ V 6)]) ++ [(a1, iZ V 12)]) H := hP
  have hD : va_D (fun q : Nat => s.heap.size ≤ q) ((iTp V h0 f ++ [(a0, iZ V 6)]) ++ [(a1, iZ V 12)]) := hD
  refine lv_astore_n (lv' := [(3, .ref a1), (2, .ref a0), (1, .ref h0), (0, .ref b)]) hx hb dL_law_17 rfl hl (by decide) rfl (fun ls hl => ?_)
  refine lv_bipush (v := 8) hx hb dL_law_18 (by decide) ?_
  refine va_newa (N' := 8) (a0 := (8, .inl fun _ => 0)) hx hb (atype := .int) (hts (.arrayClass .int) (by decide +kernel)) rfl hK.1 hP hD hS hA (fun _ => rfl) (by decide) rfl (Nat.le_of_ble_eq_true rfl) (Nat.le_of_ble_eq_true rfl) (Nat.le_of_ble_eq_true rfl) dL_law_20 (fun a2 cA H hK1 hP hD hS => ?_)
  have hcA := iK_int hK1
  subst hcA
  have hP : va_P V.1 vwCl (((iTp V h0 f ++ [(a0, iZ V 6)]) ++ [(a1, iZ V 12)]) ++ [(a2, iZ V 8)]) H := hP
  have hD : va_D (fun q : Nat => s.heap.size ≤ q) (((iTp V h0 f ++ [(a0, iZ V 6)]) ++ [(a1, iZ V 12)]) ++ [(a2, iZ V 8)]) := hD
  refine lv_astore (lv' := [(4, .ref a2), (3, .ref a1), (2, .ref a0), (1, .ref h0), (0, .ref b)]) hx hb dL_law_22 hl (by decide) rfl (fun ls hl => ?_)
  refine lv_bipush (v := 15) hx hb dL_law_24 (by decide) ?_
  refine va_newa (N' := 15) (a0 := (15, .inl fun _ => 0)) hx hb (atype := .int) (hts (.arrayClass .int) (by decide +kernel)) rfl hK.1 hP hD hS hA (fun _ => rfl) (by decide) rfl (Nat.le_of_ble_eq_true rfl) (Nat.le_of_ble_eq_true rfl) (Nat.le_of_ble_eq_true rfl) dL_law_26 (fun a3 cA H hK1 hP hD hS => ?_)
  have hcA := iK_int hK1
  subst hcA
  have hP : va_P V.1 vwCl ((((iTp V h0 f ++ [(a0, iZ V 6)]) ++ [(a1, iZ V 12)]) ++ [(a2, iZ V 8)]) ++ [(a3, iZ V 15)]) H := hP
  have hD : va_D (fun q : Nat => s.heap.size ≤ q) ((((iTp V h0 f ++ [(a0, iZ V 6)]) ++ [(a1, iZ V 12)]) ++ [(a2, iZ V 8)]) ++ [(a3, iZ V 15)]) := hD
  refine lv_astore (lv' := [(5, .ref a3), (4, .ref a2), (3, .ref a1), (2, .ref a0), (1, .ref h0), (0, .ref b)]) hx hb dL_law_28 hl (by decide) rfl (fun ls hl => ?_)
  refine lv_bipush (v := 56) hx hb dL_law_30 (by decide) ?_
  refine va_newa (N' := 56) (a0 := (56, .inl fun _ => 0)) hx hb (atype := .int) (hts (.arrayClass .int) (by decide +kernel)) rfl hK.1 hP hD hS hA (fun _ => rfl) (by decide) rfl (Nat.le_of_ble_eq_true rfl) (Nat.le_of_ble_eq_true rfl) (Nat.le_of_ble_eq_true rfl) dL_law_32 (fun a4 cA H hK1 hP hD hS => ?_)
  have hcA := iK_int hK1
  subst hcA
  have hP : va_P V.1 vwCl (((((iTp V h0 f ++ [(a0, iZ V 6)]) ++ [(a1, iZ V 12)]) ++ [(a2, iZ V 8)]) ++ [(a3, iZ V 15)]) ++ [(a4, iZ V 56)]) H := hP
  have hD : va_D (fun q : Nat => s.heap.size ≤ q) (((((iTp V h0 f ++ [(a0, iZ V 6)]) ++ [(a1, iZ V 12)]) ++ [(a2, iZ V 8)]) ++ [(a3, iZ V 15)]) ++ [(a4, iZ V 56)]) := hD
  refine lv_astore (lv' := [(6, .ref a4), (5, .ref a3), (4, .ref a2), (3, .ref a1), (2, .ref a0), (1, .ref h0), (0, .ref b)]) hx hb dL_law_34 hl (by decide) rfl (fun ls hl => ?_)
  refine lv_bipush (v := 96) hx hb dL_law_36 (by decide) ?_
  refine va_newa (N' := 96) (a0 := (96, .inl fun _ => 0)) hx hb (atype := .int) (hts (.arrayClass .int) (by decide +kernel)) rfl hK.1 hP hD hS hA (fun _ => rfl) (by decide) rfl (Nat.le_of_ble_eq_true rfl) (Nat.le_of_ble_eq_true rfl) (Nat.le_of_ble_eq_true rfl) dL_law_38 (fun a5 cA H hK1 hP hD hS => ?_)
  have hcA := iK_int hK1
  subst hcA
  have hP : va_P V.1 vwCl ((((((iTp V h0 f ++ [(a0, iZ V 6)]) ++ [(a1, iZ V 12)]) ++ [(a2, iZ V 8)]) ++ [(a3, iZ V 15)]) ++ [(a4, iZ V 56)]) ++ [(a5, iZ V 96)]) H := hP
  have hD : va_D (fun q : Nat => s.heap.size ≤ q) ((((((iTp V h0 f ++ [(a0, iZ V 6)]) ++ [(a1, iZ V 12)]) ++ [(a2, iZ V 8)]) ++ [(a3, iZ V 15)]) ++ [(a4, iZ V 56)]) ++ [(a5, iZ V 96)]) := hD
  refine lv_astore (lv' := [(7, .ref a5), (6, .ref a4), (5, .ref a3), (4, .ref a2), (3, .ref a1), (2, .ref a0), (1, .ref h0), (0, .ref b)]) hx hb dL_law_40 hl (by decide) rfl (fun ls hl => ?_)
  refine lv_bipush (v := 12) hx hb dL_law_42 (by decide) ?_
  refine va_newa (N' := 12) (a0 := (12, .inl fun _ => 0)) hx hb (atype := .int) (hts (.arrayClass .int) (by decide +kernel)) rfl hK.1 hP hD hS hA (fun _ => rfl) (by decide) rfl (Nat.le_of_ble_eq_true rfl) (Nat.le_of_ble_eq_true rfl) (Nat.le_of_ble_eq_true rfl) dL_law_44 (fun a6 cA H hK1 hP hD hS => ?_)
  have hcA := iK_int hK1
  subst hcA
  have hP : va_P V.1 vwCl (((((((iTp V h0 f ++ [(a0, iZ V 6)]) ++ [(a1, iZ V 12)]) ++ [(a2, iZ V 8)]) ++ [(a3, iZ V 15)]) ++ [(a4, iZ V 56)]) ++ [(a5, iZ V 96)]) ++ [(a6, iZ V 12)]) H := hP
  have hD : va_D (fun q : Nat => s.heap.size ≤ q) (((((((iTp V h0 f ++ [(a0, iZ V 6)]) ++ [(a1, iZ V 12)]) ++ [(a2, iZ V 8)]) ++ [(a3, iZ V 15)]) ++ [(a4, iZ V 56)]) ++ [(a5, iZ V 96)]) ++ [(a6, iZ V 12)]) := hD
  refine lv_astore (lv' := [(8, .ref a6), (7, .ref a5), (6, .ref a4), (5, .ref a3), (4, .ref a2), (3, .ref a1), (2, .ref a0), (1, .ref h0), (0, .ref b)]) hx hb dL_law_46 hl (by decide) rfl (fun ls hl => ?_)
  refine W.widen (k := 200) (n := 10000) (Nat.le_of_ble_eq_true rfl) (Nat.le_of_ble_eq_true rfl) ?_
  have ew : (((((((iTp V h0 f ++ [(a0, iZ V 6)]) ++ [(a1, iZ V 12)]) ++ [(a2, iZ V 8)]) ++ [(a3, iZ V 15)]) ++ [(a4, iZ V 56)]) ++ [(a5, iZ V 96)]) ++ [(a6, iZ V 12)]) = xpl (iV V h0 f (fun k => [a0, a1, a2, a3, a4, a5, a6].getD k 0)) xS0 := by
    rw [← iWorld]
    simp only [List.append_assoc]
    rfl
  rw [ew] at hP hD
  have hV : xInj (iV V h0 f (fun k => [a0, a1, a2, a3, a4, a5, a6].getD k 0)) := xInj_of (E := []) (σ := xS0) (by rw [List.nil_append]; exact hD)
  have hK2 : xK (iV V h0 f (fun k => [a0, a1, a2, a3, a4, a5, a6].getD k 0)) s := hK
  have hP : va_P (iV V h0 f (fun k => [a0, a1, a2, a3, a4, a5, a6].getD k 0)).1 vwCl (xpl (iV V h0 f (fun k => [a0, a1, a2, a3, a4, a5, a6].getD k 0)) xS0) H := hP
  have hl := lv_sub hl (l' := [(0, .ref b), (1, .ref h0), (2, .ref a0), (3, .ref a1), (4, .ref a2), (5, .ref a3), (6, .ref a4), (7, .ref a5), (8, .ref a6)]) [8, 7, 6, 5, 4, 3, 2, 1, 0] rfl
  have hl : lv_has ls 17 [(0, .ref b), (1, ra (iV V h0 f (fun k => [a0, a1, a2, a3, a4, a5, a6].getD k 0)) 0), (2, ra (iV V h0 f (fun k => [a0, a1, a2, a3, a4, a5, a6].getD k 0)) 87), (3, ra (iV V h0 f (fun k => [a0, a1, a2, a3, a4, a5, a6].getD k 0)) 88), (4, ra (iV V h0 f (fun k => [a0, a1, a2, a3, a4, a5, a6].getD k 0)) 89), (5, ra (iV V h0 f (fun k => [a0, a1, a2, a3, a4, a5, a6].getD k 0)) 90), (6, ra (iV V h0 f (fun k => [a0, a1, a2, a3, a4, a5, a6].getD k 0)) 91), (7, ra (iV V h0 f (fun k => [a0, a1, a2, a3, a4, a5, a6].getD k 0)) 92), (8, ra (iV V h0 f (fun k => [a0, a1, a2, a3, a4, a5, a6].getD k 0)) 93)] := hl
  generalize iV V h0 f (fun k => [a0, a1, a2, a3, a4, a5, a6].getD k 0) = V2 at hV hK2 hP hD hl
  have hAR : ∀ q, inR V2 q → (fun q : Nat => s.heap.size ≤ q) q := inR_of (E := []) (σ := xS0) (by rw [List.nil_append]; exact hD)
  have C : XC p s m #[Value.ref b] c cL_law 17 RL wsL_law V2 [] (fun q : Nat => s.heap.size ≤ q) := ⟨hx, hb, hml, hown, hts, hK2, fun σ => by rw [List.nil_append]; exact vD_fst (xpl_fst V2 xS0 σ) hD, hAR⟩
  have hcs : (200 : Nat) + 0 ≤ room_1.cells ∧ (10000 : Nat) + 0 ≤ room_1.slots := ⟨Nat.le_of_ble_eq_true rfl, Nat.le_of_ble_eq_true rfl⟩
  have hcs3 : (600 : Nat) + 0 ≤ room_1.cells ∧ (34000 : Nat) + 0 ≤ room_1.slots := ⟨Nat.le_of_ble_eq_true rfl, Nat.le_of_ble_eq_true rfl⟩
  refine (?_ : X p l e room_1 s m #[Value.ref b] below meth c V2 [] (fun q : Nat => s.heap.size ≤ q) 17 200 10000 (lw_Z below #[Value.ref b] s) xS0 48 [(0, .ref b), (1, ra V2 0), (2, ra V2 87), (3, ra V2 88), (4, ra V2 89), (5, ra V2 90), (6, ra V2 91), (7, ra V2 92), (8, ra V2 93)] []) H _ ls (by rw [List.nil_append]; exact hP) hS hl
  refine M_20 (pa := 0) (fr := 0) (t := 0) (g := 0) C hV hcs hX hbl hbA (fun q => hbA (hAR _ q)) (by omega) (fun u f0 hf0 hBD => ?_)
  obtain ⟨nr, nc, nl, nm, ne, nx, hAV, hRr, hRo⟩ := BD_of hBD
  have hP0 : PP nr nc nl nm ne nx u := ⟨hAV, hRr, hRo⟩
  refine T_time (fr := f0) C hV hA hf0 hP0 (fun σ q => ?_) 4 0 u rfl Eqc.rf
  refine M_19 (pa := 0) (g := 0) C hV hcs3 (hP0.of q) (fun u2 lv2 => ?_)
  intro H2 locs2 ls2 g1 g2 g3
  refine va_forget (fun q hq => g2.2.2 q hq) ?_
  refine W.widen (k := 600064) (n := 7301640) (by omega) (by omega) ?_
  exact lw_ret hx hb hr hlocks dL_law_899

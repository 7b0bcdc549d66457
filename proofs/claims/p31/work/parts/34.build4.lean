theorem BI.memb2 {n : Nat} {m0 m1 m2 m3 m4 m5 m6 so f g : Int32} {nr nc nl : Nat} {σ : xS} (h : BI nr nc nl n 0 0 σ) (hn : n < 7) (hM : MV nc m0 m1 m2 m3 m4 m5 m6) (hs : so = m3) (hf : f = m4) (hg : g = m5) : BI nr nc nl (n + 1) 0 0 (mTyp (mApp (xw (xw (xw (xw (xw (xw (xw σ 91 (7 * n) m0) 91 (7 * n + 1) m1) 91 (7 * n + 2) m2) 91 (7 * n + 3) m3) 91 (7 * n + 4) m4) 91 (7 * n + 5) m5) 91 (7 * n + 6) m6) so m0 m1 (m6 / 16) (offO m6)) ((xw (xw (xw (xw (xw (xw (xw σ 91 (7 * n) m0) 91 (7 * n + 1) m1) 91 (7 * n + 2) m2) 91 (7 * n + 3) m3) 91 (7 * n + 4) m4) 91 (7 * n + 5) m5) 91 (7 * n + 6) m6) 203 0) m2 f g) := by
  subst hs hf hg
  exact BI.memb h hn hM
theorem q_le0 {q : Nat} (hq : q < 3) (h : nI q ≤ 0) : q = 0 := by
  have := (le_nI (x := nI q) (k := 0) (by decide)).mp h
  rw [nI_clamp (by omega)] at this; omega
theorem q_le1 {q : Nat} (hq : q < 3) (h : nI q ≤ 1) : q ≤ 1 := by
  have := (le_nI (x := nI q) (k := 1) (by decide)).mp h
  rw [nI_clamp (by omega)] at this; omega
theorem q_gt0 {q : Nat} (hq : q < 3) (h : ¬ nI q ≤ 0) : 0 < q := Nat.pos_of_ne_zero (fun z => h (by rw [z]; decide))
theorem q_gt1 {q : Nat} (hq : q < 3) (h : ¬ nI q ≤ 1) : 1 < q := by
  rcases (show q = 0 ∨ q = 1 ∨ q = 2 by omega) with z | z | z
  · exact absurd (show nI q ≤ 1 by rw [z]; decide) h
  · exact absurd (show nI q ≤ 1 by rw [z]; decide) h
  · omega
set_option maxHeartbeats 4000000 in
set_option maxRecDepth 100000 in
theorem B_members {p : Program} {l : Launch} {e : Env} {s : State} {m : MethodId} {args : Array Value} {below : List Frame} {meth : Method} {c : Code} {V : xV} {Q : State → Prop} {b L : Nat} {xs : Nat → Int32} (C : XC p s m args c cL_build 20 RL wsL_build V [] (inR V)) (hV : xInj V) (hX : va_X b L xs s s.heap) (hbl : b < s.heap.size) (hbV : ¬ inR V b) (hL : L < 2 ^ 31) {σ : xS} {nr nc nl : Nat} (hnc1 : 0 < nc) (hnc4 : nc ≤ 4) (h : BI nr nc nl 0 0 0 σ) (h0 : σ 87 0 = nI nr) (h1 : σ 87 1 = nI nc) (h2 : σ 87 2 = nI nl) (K : ∀ (u : xS) (nm : Nat), 0 < nm → nm ≤ 7 → BI nr nc nl nm 0 0 u → u 87 0 = nI nr → u 87 1 = nI nc → u 87 2 = nI nl → u 87 3 = nI nm → X p l e (headSpec wsL_build rmB).room s m args below meth c V [] (inR V) 20 0 0 Q u 769 [(0, ra V 0), (1, .ref b), (2, .int (0 : Int32)), (3, ra V 87), (4, ra V 88), (5, ra V 89), (6, ra V 90), (7, ra V 91), (8, ra V 92), (9, ra V 93)] []) : X p l e (headSpec wsL_build rmB).room s m args below meth c V [] (inR V) 20 0 0 Q σ 370 [(0, ra V 0), (1, .ref b), (2, .int (0 : Int32)), (3, ra V 87), (4, ra V 88), (5, ra V 89), (6, ra V 90), (7, ra V 91), (8, ra V 92), (9, ra V 93)] [] := by
  have hbA : ¬ inR V b := hbV
  refine x_aload_n C dL_build_370 rfl 3 rfl ?_
  refine x_iconst C (3 : Int32) (by decide) dL_build_371 ?_
  refine x_iconst C (1 : Int32) (by decide) dL_build_372 ?_
  refine x_arefn C dL_build_373 rfl 1 rfl ?_
  refine x_iload_n C dL_build_374 rfl 2 rfl ?_
  refine x_iconst C (3 : Int32) (by decide) dL_build_375 ?_
  refine x_iadd C dL_build_376 ?_
  refine x_v (y := (3 : Int32)) (by decide) ?_
  refine x_callSS C hX hbl hbA [.ref b, .int (3 : Int32)] (c_L_cell l V hV σ b L xs hbV hL (3 : Int32) (by decide)) (va_cwS 2 C.2.2.2.2.1 gL_build_L_cell rfl rfl rfl (by decide +kernel) ⟨Nat.le_of_ble_eq_true rfl, Nat.le_of_ble_eq_true rfl⟩) rfl rfl (Nat.le_of_ble_eq_true rfl) dL_build_377 ⟨Nat.le_of_ble_eq_true rfl, Nat.le_of_ble_eq_true rfl⟩ (x_kI ?_)
  refine x_bipush C (7 : Int32) (by decide) dL_build_380 ?_
  refine x_callS C [.int (cellI L xs (3 : Int32)), .int (7 : Int32)] (c_L_below l V hV σ (cellI L xs (3 : Int32)) (7 : Int32) (by decide)) (va_cwS 2 C.2.2.2.2.1 gL_build_L_below rfl rfl rfl (by decide +kernel) ⟨Nat.le_of_ble_eq_true rfl, Nat.le_of_ble_eq_true rfl⟩) rfl rfl (Nat.le_of_ble_eq_true rfl) dL_build_382 ⟨Nat.le_of_ble_eq_true rfl, Nat.le_of_ble_eq_true rfl⟩ (x_kI ?_)
  obtain ⟨n1, hn1, en1⟩ := below_at (cellI L xs (3 : Int32)) (n := 7) (by decide) (by decide)
  refine x_v (y := nI n1) en1 ?_
  refine x_iadd C dL_build_385 ?_
  refine x_v (y := nI (1 + n1)) (nI_add 1 n1) ?_
  obtain ⟨nm, hnm1, hnm7, enm⟩ : ∃ nm, 0 < nm ∧ nm ≤ 7 ∧ 1 + n1 = nm := ⟨_, by omega, by omega, rfl⟩
  rw [enm]
  refine x_iast C sh_87 (vp_in_nI (n := 3) (by omega) (by decide)) dL_build_386 ?_
  rw [show (3 : Int32).toNatClampNeg = 3 from nI_clamp (n := 3) (by omega)]
  refine x_iconst C (0 : Int32) (by decide) dL_build_387 ?_
  refine x_istore C [(10, .int (0 : Int32)), (0, ra V 0), (1, .ref b), (2, .int (0 : Int32)), (3, ra V 87), (4, ra V 88), (5, ra V 89), (6, ra V 90), (7, ra V 91), (8, ra V 92), (9, ra V 93)] dL_build_388 (by decide) rfl ?_
  refine x_lv [1, 2, 3, 4, 5, 6, 7, 8, 9, 10, 0] [(0, ra V 0), (1, .ref b), (2, .int (0 : Int32)), (3, ra V 87), (4, ra V 88), (5, ra V 89), (6, ra V 90), (7, ra V 91), (8, ra V 92), (9, ra V 93), (10, .int (0 : Int32))] rfl ?_
  refine x_loop (fun μ τ lv_ => ∃ (k : Nat), μ = nm - k ∧ lv_ = [(0, ra V 0), (1, .ref b), (2, .int (0 : Int32)), (3, ra V 87), (4, ra V 88), (5, ra V 89), (6, ra V 90), (7, ra V 91), (8, ra V 92), (9, ra V 93), (10, .int (nI k))] ∧ k ≤ nm ∧ BI nr nc nl k 0 0 τ ∧ τ 87 0 = nI nr ∧ τ 87 1 = nI nc ∧ τ 87 2 = nI nl ∧ τ 87 3 = nI nm) ⟨_, ⟨0, rfl, rfl, Nat.zero_le _, h.cnt (fun r hr => xw_ne (r := 87) _ _ _ (fun z => hr (by rw [z]; exact List.mem_cons_self))), by rw [xw_other (by decide)]; exact h0, by rw [xw_other (by decide)]; exact h1, by rw [xw_other (by decide)]; exact h2, xw_at _ _ _ _⟩⟩ ?_
  rintro μ390 τ _ ⟨k, hμ390, rfl, hc390_0, hc390_1, hc390_2, hc390_3, hc390_4, hc390_5⟩ ih390
  refine x_iload C dL_build_390 10 rfl ?_
  refine x_aload_n C dL_build_392 rfl 3 rfl ?_
  refine x_iconst C (3 : Int32) (by decide) dL_build_393 ?_
  refine x_iald C sh_87 (vp_in_nI (n := 3) (by omega) (by decide)) dL_build_394 ?_
  rw [show (3 : Int32).toNatClampNeg = 3 from nI_clamp (n := 3) (by omega)]
  refine x_v (y := nI nm) (hc390_5) ?_
  refine x_icmp_ge C 769 dL_build_395 rfl (fun h1 => ?_) (fun h1 => ?_)
  · refine x_lv [0, 1, 2, 3, 4, 5, 6, 7, 8, 9] [(0, ra V 0), (1, .ref b), (2, .int (0 : Int32)), (3, ra V 87), (4, ra V 88), (5, ra V 89), (6, ra V 90), (7, ra V 91), (8, ra V 92), (9, ra V 93)] rfl ?_
    have hkn : k = nm := Nat.le_antisymm hc390_0 (Nat.le_of_not_lt (fun hq => nI_ge hq (by omega) h1))
    subst hkn
    exact K _ k hnm1 hnm7 hc390_1 hc390_2 hc390_3 hc390_4 hc390_5
  · have hkn : k < nm := Nat.lt_of_not_le (fun hq => h1 (nI_le hq (by omega)))
    have hnz : ¬ nI nc = 0 := fun q => absurd ((nI_eq (a := nc) (b := 0) (by omega) (by decide)).mp q) (by omega)
    refine x_arefn C dL_build_398 rfl 1 rfl ?_
    refine x_iload_n C dL_build_399 rfl 2 rfl ?_
    refine x_iconst C (4 : Int32) (by decide) dL_build_400 ?_
    refine x_iadd C dL_build_401 ?_
    refine x_v (y := (4 : Int32)) (by decide) ?_
    refine x_iload C dL_build_402 10 rfl ?_
    refine x_iconst C (4 : Int32) (by decide) dL_build_404 ?_
    refine x_irem C (by decide) dL_build_405 ?_
    refine x_v (y := nI (k % 4)) (pk_rem (a := k) (d := 4) (by omega) (by decide) (by decide)) ?_
    refine x_iadd C dL_build_406 ?_
    refine x_v (y := nI (4 + (k % 4))) (nI_add 4 (k % 4)) ?_
    refine x_callSS C hX hbl hbA [.ref b, .int (nI (4 + (k % 4)))] (c_L_cell l V hV τ b L xs hbV hL (nI (4 + (k % 4))) (nI_pos (n := 4 + (k % 4)) (by omega))) (va_cwS 2 C.2.2.2.2.1 gL_build_L_cell rfl rfl rfl (by decide +kernel) ⟨Nat.le_of_ble_eq_true rfl, Nat.le_of_ble_eq_true rfl⟩) rfl rfl (Nat.le_of_ble_eq_true rfl) dL_build_407 ⟨Nat.le_of_ble_eq_true rfl, Nat.le_of_ble_eq_true rfl⟩ (x_kI ?_)
    refine x_iload C dL_build_410 10 rfl ?_
    refine x_iconst C (4 : Int32) (by decide) dL_build_412 ?_
    refine x_idiv C (by decide) dL_build_413 ?_
    refine x_v (y := nI (k / 4)) (pk_div (a := k) (d := 4) (by omega) (by decide) (by decide)) ?_
    refine x_bipush C (7 : Int32) (by decide) dL_build_414 ?_
    refine x_imul C dL_build_416 ?_
    refine x_v (y := nI ((k / 4) * 7)) (pk_mul (k / 4) 7) ?_
    refine x_ishr C dL_build_417 ?_
    refine x_nm (fun x hx => ?_)
    refine x_istore C [(11, .int x), (0, ra V 0), (1, .ref b), (2, .int (0 : Int32)), (3, ra V 87), (4, ra V 88), (5, ra V 89), (6, ra V 90), (7, ra V 91), (8, ra V 92), (9, ra V 93), (10, .int (nI k))] dL_build_418 (by decide) rfl ?_
    refine x_bipush C (7 : Int32) (by decide) dL_build_420 ?_
    refine x_iload C dL_build_422 11 rfl ?_
    refine x_imul C dL_build_424 ?_
    refine x_v (y := nI (7 * k)) (pk_mul 7 k) ?_
    refine x_istore C [(12, .int (nI (7 * k))), (11, .int x), (0, ra V 0), (1, .ref b), (2, .int (0 : Int32)), (3, ra V 87), (4, ra V 88), (5, ra V 89), (6, ra V 90), (7, ra V 91), (8, ra V 92), (9, ra V 93), (10, .int (nI k))] dL_build_425 (by decide) rfl ?_
    refine x_aload C dL_build_427 9 rfl ?_
    refine x_iload C dL_build_429 0 rfl ?_
    refine x_iload C dL_build_431 1 rfl ?_
    refine x_aload_n C dL_build_433 rfl 5 rfl ?_
    refine x_iconst C (1 : Int32) (by decide) dL_build_434 ?_
    refine x_iald C sh_87 (vp_in_nI (n := 1) (by omega) (by decide)) dL_build_435 ?_
    rw [show (1 : Int32).toNatClampNeg = 1 from nI_clamp (n := 1) (by omega)]
    refine x_v (y := nI nc) (hc390_3) ?_
    refine x_callS C [.int x, .int (nI nc)] (c_L_below l V hV τ x (nI nc) hnz) (va_cwS 2 C.2.2.2.2.1 gL_build_L_below rfl rfl rfl (by decide +kernel) ⟨Nat.le_of_ble_eq_true rfl, Nat.le_of_ble_eq_true rfl⟩) rfl rfl (Nat.le_of_ble_eq_true rfl) dL_build_436 ⟨Nat.le_of_ble_eq_true rfl, Nat.le_of_ble_eq_true rfl⟩ (x_kI ?_)
    obtain ⟨a0, ha0, ea0⟩ := below_at x (n := nc) (by omega) (by omega)
    refine x_v (y := nI a0) ea0 ?_
    refine x_iast C sh_91 (vp_in_nI (n := 7 * k) (by omega) (by decide)) dL_build_439 ?_
    rw [show (nI (7 * k)).toNatClampNeg = 7 * k from nI_clamp (n := 7 * k) (by omega)]
    refine x_aload C dL_build_440 9 rfl ?_
    refine x_iload C dL_build_442 0 rfl ?_
    refine x_iconst C (1 : Int32) (by decide) dL_build_444 ?_
    refine x_iadd C dL_build_445 ?_
    refine x_v (y := nI ((7 * k) + 1)) (nI_add (7 * k) 1) ?_
    refine x_iload C dL_build_446 1 rfl ?_
    refine x_iconst C (3 : Int32) (by decide) dL_build_448 ?_
    refine x_ishr C dL_build_449 ?_
    refine x_iconst C (2 : Int32) (by decide) dL_build_450 ?_
    refine x_callS C [.int (x >>> ((3 : Int32) &&& 31)), .int (2 : Int32)] (c_L_below l V hV (xw τ 91 (7 * k) (nI a0)) (x >>> ((3 : Int32) &&& 31)) (2 : Int32) (by decide)) (va_cwS 2 C.2.2.2.2.1 gL_build_L_below rfl rfl rfl (by decide +kernel) ⟨Nat.le_of_ble_eq_true rfl, Nat.le_of_ble_eq_true rfl⟩) rfl rfl (Nat.le_of_ble_eq_true rfl) dL_build_451 ⟨Nat.le_of_ble_eq_true rfl, Nat.le_of_ble_eq_true rfl⟩ (x_kI ?_)
    obtain ⟨a1, ha1, ea1⟩ := below_at (x >>> ((3 : Int32) &&& 31)) (n := 2) (by decide) (by decide)
    refine x_v (y := nI a1) ea1 ?_
    refine x_iast C sh_91 (vp_in_nI (n := (7 * k) + 1) (by omega) (by decide)) dL_build_454 ?_
    rw [show (nI ((7 * k) + 1)).toNatClampNeg = (7 * k) + 1 from nI_clamp (n := (7 * k) + 1) (by omega)]
    refine x_aload C dL_build_455 9 rfl ?_
    refine x_iload C dL_build_457 0 rfl ?_
    refine x_iconst C (2 : Int32) (by decide) dL_build_459 ?_
    refine x_iadd C dL_build_460 ?_
    refine x_v (y := nI ((7 * k) + 2)) (nI_add (7 * k) 2) ?_
    refine x_iload C dL_build_461 1 rfl ?_
    refine x_iconst C (4 : Int32) (by decide) dL_build_463 ?_
    refine x_ishr C dL_build_464 ?_
    refine x_iconst C (3 : Int32) (by decide) dL_build_465 ?_
    refine x_callS C [.int (x >>> ((4 : Int32) &&& 31)), .int (3 : Int32)] (c_L_below l V hV (xw (xw τ 91 (7 * k) (nI a0)) 91 ((7 * k) + 1) (nI a1)) (x >>> ((4 : Int32) &&& 31)) (3 : Int32) (by decide)) (va_cwS 2 C.2.2.2.2.1 gL_build_L_below rfl rfl rfl (by decide +kernel) ⟨Nat.le_of_ble_eq_true rfl, Nat.le_of_ble_eq_true rfl⟩) rfl rfl (Nat.le_of_ble_eq_true rfl) dL_build_466 ⟨Nat.le_of_ble_eq_true rfl, Nat.le_of_ble_eq_true rfl⟩ (x_kI ?_)
    refine x_jP (P := fun y => tyn nc y) 488 (fun y => [(12, .int (nI (7 * k))), (11, .int x), (0, ra V 0), (1, .ref b), (2, .int (0 : Int32)), (3, ra V 87), (4, ra V 88), (5, ra V 89), (6, ra V 90), (7, ra V 91), (8, ra V 92), (9, ra V 93), (10, .int (nI k))]) (fun y => [.int y, .int (nI ((7 * k) + 2)), ra V 91]) (fun a2 ha2 => ?_) (fun hJ488 => ?_)
    · refine x_iast C sh_91 (vp_in_nI (n := (7 * k) + 2) (by omega) (by decide)) dL_build_488 ?_
      rw [show (nI ((7 * k) + 2)).toNatClampNeg = (7 * k) + 2 from nI_clamp (n := (7 * k) + 2) (by omega)]
      refine x_aload C dL_build_489 9 rfl ?_
      refine x_iload C dL_build_491 0 rfl ?_
      refine x_iconst C (3 : Int32) (by decide) dL_build_493 ?_
      refine x_iadd C dL_build_494 ?_
      refine x_v (y := nI ((7 * k) + 3)) (nI_add (7 * k) 3) ?_
      refine x_iload C dL_build_495 1 rfl ?_
      refine x_bipush C (8 : Int32) (by decide) dL_build_497 ?_
      refine x_ishr C dL_build_499 ?_
      refine x_iconst C (3 : Int32) (by decide) dL_build_500 ?_
      refine x_callS C [.int (x >>> ((8 : Int32) &&& 31)), .int (3 : Int32)] (c_L_below l V hV (xw (xw (xw τ 91 (7 * k) (nI a0)) 91 ((7 * k) + 1) (nI a1)) 91 ((7 * k) + 2) a2) (x >>> ((8 : Int32) &&& 31)) (3 : Int32) (by decide)) (va_cwS 2 C.2.2.2.2.1 gL_build_L_below rfl rfl rfl (by decide +kernel) ⟨Nat.le_of_ble_eq_true rfl, Nat.le_of_ble_eq_true rfl⟩) rfl rfl (Nat.le_of_ble_eq_true rfl) dL_build_501 ⟨Nat.le_of_ble_eq_true rfl, Nat.le_of_ble_eq_true rfl⟩ (x_kI ?_)
      refine x_jP (P := fun y => y = 0 ∨ y = 1) 512 (fun y => [(12, .int (nI (7 * k))), (11, .int x), (0, ra V 0), (1, .ref b), (2, .int (0 : Int32)), (3, ra V 87), (4, ra V 88), (5, ra V 89), (6, ra V 90), (7, ra V 91), (8, ra V 92), (9, ra V 93), (10, .int (nI k))]) (fun y => [.int y, .int (nI ((7 * k) + 3)), ra V 91]) (fun a3 ha3 => ?_) (fun hJ512 => ?_)
      · refine x_iast C sh_91 (vp_in_nI (n := (7 * k) + 3) (by omega) (by decide)) dL_build_512 ?_
        rw [show (nI ((7 * k) + 3)).toNatClampNeg = (7 * k) + 3 from nI_clamp (n := (7 * k) + 3) (by omega)]
        refine x_aload C dL_build_513 9 rfl ?_
        refine x_iload C dL_build_515 0 rfl ?_
        refine x_iconst C (3 : Int32) (by decide) dL_build_517 ?_
        refine x_iadd C dL_build_518 ?_
        refine x_v (y := nI ((7 * k) + 3)) (nI_add (7 * k) 3) ?_
        refine x_iald C sh_91 (vp_in_nI (n := (7 * k) + 3) (by omega) (by decide)) dL_build_519 ?_
        rw [show (nI ((7 * k) + 3)).toNatClampNeg = (7 * k) + 3 from nI_clamp (n := (7 * k) + 3) (by omega)]
        refine x_v (y := a3) (by rw [xw_at]) ?_
        refine x_iconst C (1 : Int32) (by decide) dL_build_520 ?_
        refine x_jP (P := fun y => ∃ q, q < 3 ∧ y = nI q ∧ (¬ a3 = 1 → q = 0)) 537 (fun y => [(12, .int (nI (7 * k))), (11, .int x), (0, ra V 0), (1, .ref b), (2, .int (0 : Int32)), (3, ra V 87), (4, ra V 88), (5, ra V 89), (6, ra V 90), (7, ra V 91), (8, ra V 92), (9, ra V 93), (10, .int (nI k))]) (fun y => [.int y]) (fun pv hpv => ?_) (fun hJ537 => ?_)
        · obtain ⟨q, hq3, epv, hq0⟩ := hpv
          subst epv
          refine x_istore C [(13, .int (nI q)), (12, .int (nI (7 * k))), (11, .int x), (0, ra V 0), (1, .ref b), (2, .int (0 : Int32)), (3, ra V 87), (4, ra V 88), (5, ra V 89), (6, ra V 90), (7, ra V 91), (8, ra V 92), (9, ra V 93), (10, .int (nI k))] dL_build_537 (by decide) rfl ?_
          refine x_aload C dL_build_539 10 rfl ?_
          refine x_iload C dL_build_541 1 rfl ?_
          refine x_iconst C (4 : Int32) (by decide) dL_build_543 ?_
          refine x_iadd C dL_build_544 ?_
          refine x_v (y := nI ((7 * k) + 4)) (nI_add (7 * k) 4) ?_
          refine x_iload C dL_build_545 0 rfl ?_
          refine x_jP (P := fun y => (y = -1 ∧ q = 0) ∨ (tyn nc y ∧ 0 < q)) 582 (fun y => [(13, .int (nI q)), (12, .int (nI (7 * k))), (11, .int x), (0, ra V 0), (1, .ref b), (2, .int (0 : Int32)), (3, ra V 87), (4, ra V 88), (5, ra V 89), (6, ra V 90), (7, ra V 91), (8, ra V 92), (9, ra V 93), (10, .int (nI k))]) (fun y => [.int y, .int (nI ((7 * k) + 4)), ra V 91]) (fun a4 ha4 => ?_) (fun hJ582 => ?_)
          · refine x_iast C sh_91 (vp_in_nI (n := (7 * k) + 4) (by omega) (by decide)) dL_build_582 ?_
            rw [show (nI ((7 * k) + 4)).toNatClampNeg = (7 * k) + 4 from nI_clamp (n := (7 * k) + 4) (by omega)]
            refine x_aload C dL_build_583 10 rfl ?_
            refine x_iload C dL_build_585 1 rfl ?_
            refine x_iconst C (5 : Int32) (by decide) dL_build_587 ?_
            refine x_iadd C dL_build_588 ?_
            refine x_v (y := nI ((7 * k) + 5)) (nI_add (7 * k) 5) ?_
            refine x_iload C dL_build_589 0 rfl ?_
            refine x_iconst C (1 : Int32) (by decide) dL_build_591 ?_
            refine x_jP (P := fun y => (y = -1 ∧ q ≤ 1) ∨ (tyn nc y ∧ 1 < q)) 627 (fun y => [(13, .int (nI q)), (12, .int (nI (7 * k))), (11, .int x), (0, ra V 0), (1, .ref b), (2, .int (0 : Int32)), (3, ra V 87), (4, ra V 88), (5, ra V 89), (6, ra V 90), (7, ra V 91), (8, ra V 92), (9, ra V 93), (10, .int (nI k))]) (fun y => [.int y, .int (nI ((7 * k) + 5)), ra V 91]) (fun a5 ha5 => ?_) (fun hJ627 => ?_)
            · refine x_iast C sh_91 (vp_in_nI (n := (7 * k) + 5) (by omega) (by decide)) dL_build_627 ?_
              rw [show (nI ((7 * k) + 5)).toNatClampNeg = (7 * k) + 5 from nI_clamp (n := (7 * k) + 5) (by omega)]
              refine x_aload C dL_build_628 10 rfl ?_
              refine x_iload C dL_build_630 1 rfl ?_
              refine x_bipush C (6 : Int32) (by decide) dL_build_632 ?_
              refine x_iadd C dL_build_634 ?_
              refine x_v (y := nI ((7 * k) + 6)) (nI_add (7 * k) 6) ?_
              refine x_iload C dL_build_635 2 rfl ?_
              refine x_bipush C (18 : Int32) (by decide) dL_build_637 ?_
              refine x_ishr C dL_build_639 ?_
              refine x_callS C [.int (x >>> ((18 : Int32) &&& 31))] (c_L_condition l V hV (xw (xw (xw (xw (xw (xw τ 91 (7 * k) (nI a0)) 91 ((7 * k) + 1) (nI a1)) 91 ((7 * k) + 2) a2) 91 ((7 * k) + 3) a3) 91 ((7 * k) + 4) a4) 91 ((7 * k) + 5) a5) (x >>> ((18 : Int32) &&& 31))) (va_cwS 1 C.2.2.2.2.1 gL_build_L_condition rfl rfl rfl (by decide +kernel) ⟨Nat.le_of_ble_eq_true rfl, Nat.le_of_ble_eq_true rfl⟩) rfl rfl (Nat.le_of_ble_eq_true rfl) dL_build_640 ⟨Nat.le_of_ble_eq_true rfl, Nat.le_of_ble_eq_true rfl⟩ (x_kI ?_)
              obtain ⟨x6, hx6, ex6⟩ : ∃ z_, GC z_ ∧ condI (x >>> ((18 : Int32) &&& 31)) = z_ := ⟨_, cond_GC _, rfl⟩
              refine x_v (y := x6) ex6 ?_
              refine x_iast C sh_91 (vp_in_nI (n := (7 * k) + 6) (by omega) (by decide)) dL_build_643 ?_
              rw [show (nI ((7 * k) + 6)).toNatClampNeg = (7 * k) + 6 from nI_clamp (n := (7 * k) + 6) (by omega)]
              refine x_aload C dL_build_644 10 rfl ?_
              refine x_iload C dL_build_646 1 rfl ?_
              refine x_bipush C (6 : Int32) (by decide) dL_build_648 ?_
              refine x_iadd C dL_build_650 ?_
              refine x_v (y := nI ((7 * k) + 6)) (nI_add (7 * k) 6) ?_
              refine x_iald C sh_91 (vp_in_nI (n := (7 * k) + 6) (by omega) (by decide)) dL_build_651 ?_
              rw [show (nI ((7 * k) + 6)).toNatClampNeg = (7 * k) + 6 from nI_clamp (n := (7 * k) + 6) (by omega)]
              refine x_v (y := x6) (by rw [xw_at]) ?_
              refine x_bipush C (16 : Int32) (by decide) dL_build_652 ?_
              refine x_idiv C (by decide) dL_build_654 ?_
              refine x_istore C [(14, .int (x6 / (16 : Int32))), (13, .int (nI q)), (12, .int (nI (7 * k))), (11, .int x), (0, ra V 0), (1, .ref b), (2, .int (0 : Int32)), (3, ra V 87), (4, ra V 88), (5, ra V 89), (6, ra V 90), (7, ra V 91), (8, ra V 92), (9, ra V 93), (10, .int (nI k))] dL_build_655 (by decide) rfl ?_
              refine x_aload C dL_build_657 11 rfl ?_
              refine x_iload C dL_build_659 2 rfl ?_
              refine x_bipush C (6 : Int32) (by decide) dL_build_661 ?_
              refine x_iadd C dL_build_663 ?_
              refine x_v (y := nI ((7 * k) + 6)) (nI_add (7 * k) 6) ?_
              refine x_iald C sh_91 (vp_in_nI (n := (7 * k) + 6) (by omega) (by decide)) dL_build_664 ?_
              rw [show (nI ((7 * k) + 6)).toNatClampNeg = (7 * k) + 6 from nI_clamp (n := (7 * k) + 6) (by omega)]
              refine x_v (y := x6) (by rw [xw_at]) ?_
              refine x_bipush C (16 : Int32) (by decide) dL_build_665 ?_
              refine x_irem C (by decide) dL_build_667 ?_
              refine x_v (y := offO x6) (rfl) ?_
              refine x_istore C [(15, .int (offO x6)), (14, .int (x6 / (16 : Int32))), (13, .int (nI q)), (12, .int (nI (7 * k))), (11, .int x), (0, ra V 0), (1, .ref b), (2, .int (0 : Int32)), (3, ra V 87), (4, ra V 88), (5, ra V 89), (6, ra V 90), (7, ra V 91), (8, ra V 92), (9, ra V 93), (10, .int (nI k))] dL_build_668 (by decide) rfl ?_
              refine x_aload C dL_build_670 12 rfl ?_
              refine x_iload C dL_build_672 3 rfl ?_
              refine x_iconst C (3 : Int32) (by decide) dL_build_674 ?_
              refine x_iadd C dL_build_675 ?_
              refine x_v (y := nI ((7 * k) + 3)) (nI_add (7 * k) 3) ?_
              refine x_iald C sh_91 (vp_in_nI (n := (7 * k) + 3) (by omega) (by decide)) dL_build_676 ?_
              rw [show (nI ((7 * k) + 3)).toNatClampNeg = (7 * k) + 3 from nI_clamp (n := (7 * k) + 3) (by omega)]
              refine x_v (y := a3) (by rw [xw_other (by omega), xw_other (by omega), xw_other (by omega), xw_at]) ?_
              refine x_iconst C (1 : Int32) (by decide) dL_build_677 ?_
              have hM : MV nc (nI a0) (nI a1) a2 a3 a4 a5 x6 := ⟨vp_in_nI ha0 (by omega), vp_le (vp_in_nI ha1 (by decide)) (by decide), ha2, ha3, ha4.imp And.left And.left, ha5.imp And.left And.left, fun z => by
                rcases ha4 with g | g
                · rcases ha5 with g2 | g2
                  · exact g2.1
                  · omega
                · exact absurd z (tyn_m1 (by omega) g.1), fun z => by
                have q0 : q = 0 := hq0 (by rw [z]; decide)
                refine ⟨?_, ?_⟩
                · rcases ha4 with g | g
                  · exact g.1
                  · omega
                · rcases ha5 with g | g
                  · exact g.1
                  · omega, hx6⟩
              refine x_jS (P := fun u y => BI nr nc nl (k + 1) 0 0 u ∧ (∀ i, u 87 i = τ 87 i) ∧ y = nI k) 752 (fun y => [(15, .int (offO x6)), (14, .int (x6 / (16 : Int32))), (13, .int (nI q)), (12, .int (nI (7 * k))), (11, .int x), (0, ra V 0), (1, .ref b), (2, .int (0 : Int32)), (3, ra V 87), (4, ra V 88), (5, ra V 89), (6, ra V 90), (7, ra V 91), (8, ra V 92), (9, ra V 93), (10, .int (nI k))]) (fun y => [.int y]) (fun u752 made hmade => ?_) (fun hJ752 => ?_)
              · obtain ⟨hB3, h87, emade⟩ := hmade
                subst emade
                refine x_istore C [(16, .int (nI k)), (15, .int (offO x6)), (14, .int (x6 / (16 : Int32))), (13, .int (nI q)), (12, .int (nI (7 * k))), (11, .int x), (0, ra V 0), (1, .ref b), (2, .int (0 : Int32)), (3, ra V 87), (4, ra V 88), (5, ra V 89), (6, ra V 90), (7, ra V 91), (8, ra V 92), (9, ra V 93), (10, .int (nI k))] dL_build_752 (by decide) rfl ?_
                refine x_iload C dL_build_754 0 rfl ?_
                refine x_iload C dL_build_756 16 rfl ?_
                refine x_icmp_eq C 763 dL_build_758 rfl (fun h2 => ?_) (fun h2 => absurd h2 (fun q => q rfl))
                refine x_iinc C (q := 16) ((nI k) + (1 : Int32)) [(10, .int ((nI k) + (1 : Int32))), (16, .int (nI k)), (15, .int (offO x6)), (14, .int (x6 / (16 : Int32))), (13, .int (nI q)), (12, .int (nI (7 * k))), (11, .int x), (0, ra V 0), (1, .ref b), (2, .int (0 : Int32)), (3, ra V 87), (4, ra V 88), (5, ra V 89), (6, ra V 90), (7, ra V 91), (8, ra V 92), (9, ra V 93)] dL_build_763 rfl rfl (by decide) rfl ?_
                refine x_goto C 390 dL_build_766 rfl ?_
                refine x_lv [7, 8, 9, 10, 11, 12, 13, 14, 15, 16, 0] [(0, ra V 0), (1, .ref b), (2, .int (0 : Int32)), (3, ra V 87), (4, ra V 88), (5, ra V 89), (6, ra V 90), (7, ra V 91), (8, ra V 92), (9, ra V 93), (10, .int ((nI k) + (1 : Int32)))] rfl ?_
                exact ih390 _ _ _ (by omega) ⟨k + 1, rfl, by rw [nI_succ], (by omega), hB3, by rw [h87]; exact hc390_2, by rw [h87]; exact hc390_3, by rw [h87]; exact hc390_4, by rw [h87]; exact hc390_5⟩
              · refine x_icmp_ne C 725 dL_build_678 rfl (fun h3 => ?_) (fun h3 => ?_)
                · refine x_aload_n C dL_build_725 rfl 5 rfl ?_
                  refine x_aload C dL_build_726 12 rfl ?_
                  refine x_iload C dL_build_728 3 rfl ?_
                  refine x_iald C sh_91 (vp_in_nI (n := 7 * k) (by omega) (by decide)) dL_build_730 ?_
                  rw [show (nI (7 * k)).toNatClampNeg = 7 * k from nI_clamp (n := 7 * k) (by omega)]
                  refine x_v (y := nI a0) (by rw [xw_other (by omega), xw_other (by omega), xw_other (by omega), xw_other (by omega), xw_other (by omega), xw_other (by omega), xw_at]) ?_
                  refine x_aload C dL_build_731 12 rfl ?_
                  refine x_iload C dL_build_733 3 rfl ?_
                  refine x_iconst C (1 : Int32) (by decide) dL_build_735 ?_
                  refine x_iadd C dL_build_736 ?_
                  refine x_v (y := nI ((7 * k) + 1)) (nI_add (7 * k) 1) ?_
                  refine x_iald C sh_91 (vp_in_nI (n := (7 * k) + 1) (by omega) (by decide)) dL_build_737 ?_
                  rw [show (nI ((7 * k) + 1)).toNatClampNeg = (7 * k) + 1 from nI_clamp (n := (7 * k) + 1) (by omega)]
                  refine x_v (y := nI a1) (by rw [xw_other (by omega), xw_other (by omega), xw_other (by omega), xw_other (by omega), xw_other (by omega), xw_at]) ?_
                  refine x_aload C dL_build_738 12 rfl ?_
                  refine x_iload C dL_build_740 3 rfl ?_
                  refine x_iconst C (2 : Int32) (by decide) dL_build_742 ?_
                  refine x_iadd C dL_build_743 ?_
                  refine x_v (y := nI ((7 * k) + 2)) (nI_add (7 * k) 2) ?_
                  refine x_iald C sh_91 (vp_in_nI (n := (7 * k) + 2) (by omega) (by decide)) dL_build_744 ?_
                  rw [show (nI ((7 * k) + 2)).toNatClampNeg = (7 * k) + 2 from nI_clamp (n := (7 * k) + 2) (by omega)]
                  refine x_v (y := a2) (by rw [xw_other (by omega), xw_other (by omega), xw_other (by omega), xw_other (by omega), xw_at]) ?_
                  refine x_iload C dL_build_745 1 rfl ?_
                  refine x_iload C dL_build_747 0 rfl ?_
                  refine x_callV C sh_0 (by decide) rfl [.int (nI a0), .int (nI a1), .int a2, .int (x6 / (16 : Int32)), .int (offO x6)] (c_X8_addField l V hV (xw (xw (xw (xw (xw (xw (xw τ 91 (7 * k) (nI a0)) 91 ((7 * k) + 1) (nI a1)) 91 ((7 * k) + 2) a2) 91 ((7 * k) + 3) a3) 91 ((7 * k) + 4) a4) 91 ((7 * k) + 5) a5) 91 ((7 * k) + 6) x6) (nI a0) (nI a1) a2 (x6 / (16 : Int32)) (offO x6) (kField_0 (c := nc) (n := k) (by rw [xw_ne (r := 91) (a := 201) _ _ _ (by decide), xw_ne (r := 91) (a := 201) _ _ _ (by decide), xw_ne (r := 91) (a := 201) _ _ _ (by decide), xw_ne (r := 91) (a := 201) _ _ _ (by decide), xw_ne (r := 91) (a := 201) _ _ _ (by decide), xw_ne (r := 91) (a := 201) _ _ _ (by decide), xw_ne (r := 91) (a := 201) _ _ _ (by decide)]; exact hc390_1.2.1.1.1) (by omega) (by rw [xw_ne (r := 91) (a := 203) _ _ _ (by decide), xw_ne (r := 91) (a := 203) _ _ _ (by decide), xw_ne (r := 91) (a := 203) _ _ _ (by decide), xw_ne (r := 91) (a := 203) _ _ _ (by decide), xw_ne (r := 91) (a := 203) _ _ _ (by decide), xw_ne (r := 91) (a := 203) _ _ _ (by decide), xw_ne (r := 91) (a := 203) _ _ _ (by decide)]; exact hc390_1.2.2.2.1.1.1) (by omega) hM.1 hM.2.1 hM.2.2.1 hM.2.2.2.2.2.2.2.2)) (cwV 5 C.2.2.2.2.1 gL_build_X8_addField rfl rfl rfl (by decide +kernel) ⟨Nat.le_of_ble_eq_true rfl, Nat.le_of_ble_eq_true rfl⟩) rfl rfl (Nat.le_of_ble_eq_true rfl) dL_build_749 ⟨Nat.le_of_ble_eq_true rfl, Nat.le_of_ble_eq_true rfl⟩ (x_kI ?_)
                  exact hJ752 _ _ (⟨BI.memb2 hc390_1 (by omega) hM (ha3.resolve_right h3).symm (hM.2.2.2.2.2.2.2.1 (ha3.resolve_right h3)).1.symm (hM.2.2.2.2.2.2.2.1 (ha3.resolve_right h3)).2.symm, fun i => by rw [Rm_dif _ _ _ _ _ _ _ _ _ 87 (by decide), xw_ne (r := 91) (a := 87) _ _ _ (by decide), xw_ne (r := 91) (a := 87) _ _ _ (by decide), xw_ne (r := 91) (a := 87) _ _ _ (by decide), xw_ne (r := 91) (a := 87) _ _ _ (by decide), xw_ne (r := 91) (a := 87) _ _ _ (by decide), xw_ne (r := 91) (a := 87) _ _ _ (by decide), xw_ne (r := 91) (a := 87) _ _ _ (by decide)], by rw [xw_ne (r := 91) (a := 203) _ _ _ (by decide), xw_ne (r := 91) (a := 203) _ _ _ (by decide), xw_ne (r := 91) (a := 203) _ _ _ (by decide), xw_ne (r := 91) (a := 203) _ _ _ (by decide), xw_ne (r := 91) (a := 203) _ _ _ (by decide), xw_ne (r := 91) (a := 203) _ _ _ (by decide), xw_ne (r := 91) (a := 203) _ _ _ (by decide)]; exact hc390_1.2.2.2.1.1.1⟩)
                · refine x_aload_n C dL_build_681 rfl 5 rfl ?_
                  refine x_aload C dL_build_682 12 rfl ?_
                  refine x_iload C dL_build_684 3 rfl ?_
                  refine x_iald C sh_91 (vp_in_nI (n := 7 * k) (by omega) (by decide)) dL_build_686 ?_
                  rw [show (nI (7 * k)).toNatClampNeg = 7 * k from nI_clamp (n := 7 * k) (by omega)]
                  refine x_v (y := nI a0) (by rw [xw_other (by omega), xw_other (by omega), xw_other (by omega), xw_other (by omega), xw_other (by omega), xw_other (by omega), xw_at]) ?_
                  refine x_aload C dL_build_687 12 rfl ?_
                  refine x_iload C dL_build_689 3 rfl ?_
                  refine x_iconst C (1 : Int32) (by decide) dL_build_691 ?_
                  refine x_iadd C dL_build_692 ?_
                  refine x_v (y := nI ((7 * k) + 1)) (nI_add (7 * k) 1) ?_
                  refine x_iald C sh_91 (vp_in_nI (n := (7 * k) + 1) (by omega) (by decide)) dL_build_693 ?_
                  rw [show (nI ((7 * k) + 1)).toNatClampNeg = (7 * k) + 1 from nI_clamp (n := (7 * k) + 1) (by omega)]
                  refine x_v (y := nI a1) (by rw [xw_other (by omega), xw_other (by omega), xw_other (by omega), xw_other (by omega), xw_other (by omega), xw_at]) ?_
                  refine x_aload C dL_build_694 12 rfl ?_
                  refine x_iload C dL_build_696 3 rfl ?_
                  refine x_iconst C (2 : Int32) (by decide) dL_build_698 ?_
                  refine x_iadd C dL_build_699 ?_
                  refine x_v (y := nI ((7 * k) + 2)) (nI_add (7 * k) 2) ?_
                  refine x_iald C sh_91 (vp_in_nI (n := (7 * k) + 2) (by omega) (by decide)) dL_build_700 ?_
                  rw [show (nI ((7 * k) + 2)).toNatClampNeg = (7 * k) + 2 from nI_clamp (n := (7 * k) + 2) (by omega)]
                  refine x_v (y := a2) (by rw [xw_other (by omega), xw_other (by omega), xw_other (by omega), xw_other (by omega), xw_at]) ?_
                  refine x_aload C dL_build_701 12 rfl ?_
                  refine x_iload C dL_build_703 3 rfl ?_
                  refine x_iconst C (4 : Int32) (by decide) dL_build_705 ?_
                  refine x_iadd C dL_build_706 ?_
                  refine x_v (y := nI ((7 * k) + 4)) (nI_add (7 * k) 4) ?_
                  refine x_iald C sh_91 (vp_in_nI (n := (7 * k) + 4) (by omega) (by decide)) dL_build_707 ?_
                  rw [show (nI ((7 * k) + 4)).toNatClampNeg = (7 * k) + 4 from nI_clamp (n := (7 * k) + 4) (by omega)]
                  refine x_v (y := a4) (by rw [xw_other (by omega), xw_other (by omega), xw_at]) ?_
                  refine x_aload C dL_build_708 12 rfl ?_
                  refine x_iload C dL_build_710 3 rfl ?_
                  refine x_iconst C (5 : Int32) (by decide) dL_build_712 ?_
                  refine x_iadd C dL_build_713 ?_
                  refine x_v (y := nI ((7 * k) + 5)) (nI_add (7 * k) 5) ?_
                  refine x_iald C sh_91 (vp_in_nI (n := (7 * k) + 5) (by omega) (by decide)) dL_build_714 ?_
                  rw [show (nI ((7 * k) + 5)).toNatClampNeg = (7 * k) + 5 from nI_clamp (n := (7 * k) + 5) (by omega)]
                  refine x_v (y := a5) (by rw [xw_other (by omega), xw_at]) ?_
                  refine x_iload C dL_build_715 1 rfl ?_
                  refine x_iload C dL_build_717 0 rfl ?_
                  refine x_callV C sh_0 (by decide) rfl [.int (nI a0), .int (nI a1), .int a2, .int a4, .int a5, .int (x6 / (16 : Int32)), .int (offO x6)] (c_X8_addMethod l V hV (xw (xw (xw (xw (xw (xw (xw τ 91 (7 * k) (nI a0)) 91 ((7 * k) + 1) (nI a1)) 91 ((7 * k) + 2) a2) 91 ((7 * k) + 3) a3) 91 ((7 * k) + 4) a4) 91 ((7 * k) + 5) a5) 91 ((7 * k) + 6) x6) (nI a0) (nI a1) a2 a4 a5 (x6 / (16 : Int32)) (offO x6) (kMeth_0 (c := nc) (n := k) (by rw [xw_ne (r := 91) (a := 201) _ _ _ (by decide), xw_ne (r := 91) (a := 201) _ _ _ (by decide), xw_ne (r := 91) (a := 201) _ _ _ (by decide), xw_ne (r := 91) (a := 201) _ _ _ (by decide), xw_ne (r := 91) (a := 201) _ _ _ (by decide), xw_ne (r := 91) (a := 201) _ _ _ (by decide), xw_ne (r := 91) (a := 201) _ _ _ (by decide)]; exact hc390_1.2.1.1.1) (by omega) (by rw [xw_ne (r := 91) (a := 203) _ _ _ (by decide), xw_ne (r := 91) (a := 203) _ _ _ (by decide), xw_ne (r := 91) (a := 203) _ _ _ (by decide), xw_ne (r := 91) (a := 203) _ _ _ (by decide), xw_ne (r := 91) (a := 203) _ _ _ (by decide), xw_ne (r := 91) (a := 203) _ _ _ (by decide), xw_ne (r := 91) (a := 203) _ _ _ (by decide)]; exact hc390_1.2.2.2.1.1.1) (by omega) hM.1 hM.2.1 hM.2.2.1 hM.2.2.2.2.1 hM.2.2.2.2.2.1 hM.2.2.2.2.2.2.1 hM.2.2.2.2.2.2.2.2)) (cwV 7 C.2.2.2.2.1 gL_build_X8_addMethod rfl rfl rfl (by decide +kernel) ⟨Nat.le_of_ble_eq_true rfl, Nat.le_of_ble_eq_true rfl⟩) rfl rfl (Nat.le_of_ble_eq_true rfl) dL_build_719 ⟨Nat.le_of_ble_eq_true rfl, Nat.le_of_ble_eq_true rfl⟩ (x_kI ?_)
                  refine x_goto C 752 dL_build_722 rfl ?_
                  exact hJ752 _ _ (⟨BI.memb2 hc390_1 (by omega) hM h3.symm rfl rfl, fun i => by rw [Rm_dif _ _ _ _ _ _ _ _ _ 87 (by decide), xw_ne (r := 91) (a := 87) _ _ _ (by decide), xw_ne (r := 91) (a := 87) _ _ _ (by decide), xw_ne (r := 91) (a := 87) _ _ _ (by decide), xw_ne (r := 91) (a := 87) _ _ _ (by decide), xw_ne (r := 91) (a := 87) _ _ _ (by decide), xw_ne (r := 91) (a := 87) _ _ _ (by decide), xw_ne (r := 91) (a := 87) _ _ _ (by decide)], by rw [xw_ne (r := 91) (a := 203) _ _ _ (by decide), xw_ne (r := 91) (a := 203) _ _ _ (by decide), xw_ne (r := 91) (a := 203) _ _ _ (by decide), xw_ne (r := 91) (a := 203) _ _ _ (by decide), xw_ne (r := 91) (a := 203) _ _ _ (by decide), xw_ne (r := 91) (a := 203) _ _ _ (by decide), xw_ne (r := 91) (a := 203) _ _ _ (by decide)]; exact hc390_1.2.2.2.1.1.1⟩)
            · refine x_icmp_le C 626 dL_build_592 rfl (fun h4 => ?_) (fun h4 => ?_)
              · refine x_iconst C (-1 : Int32) (by decide) dL_build_626 ?_
                exact hJ627 _ (Or.inl ⟨rfl, q_le1 hq3 h4⟩)
              · refine x_iload C dL_build_595 2 rfl ?_
                refine x_bipush C (15 : Int32) (by decide) dL_build_597 ?_
                refine x_ishr C dL_build_599 ?_
                refine x_iconst C (2 : Int32) (by decide) dL_build_600 ?_
                refine x_callS C [.int (x >>> ((15 : Int32) &&& 31)), .int (2 : Int32)] (c_L_below l V hV (xw (xw (xw (xw (xw τ 91 (7 * k) (nI a0)) 91 ((7 * k) + 1) (nI a1)) 91 ((7 * k) + 2) a2) 91 ((7 * k) + 3) a3) 91 ((7 * k) + 4) a4) (x >>> ((15 : Int32) &&& 31)) (2 : Int32) (by decide)) (va_cwS 2 C.2.2.2.2.1 gL_build_L_below rfl rfl rfl (by decide +kernel) ⟨Nat.le_of_ble_eq_true rfl, Nat.le_of_ble_eq_true rfl⟩) rfl rfl (Nat.le_of_ble_eq_true rfl) dL_build_601 ⟨Nat.le_of_ble_eq_true rfl, Nat.le_of_ble_eq_true rfl⟩ (x_kI ?_)
                refine x_if_ne C 621 dL_build_604 rfl (fun h5 => ?_) (fun h5 => ?_)
                · refine x_bipush C (8 : Int32) (by decide) dL_build_621 ?_
                  refine x_goto C 627 dL_build_623 rfl ?_
                  exact hJ627 _ (Or.inr ⟨Or.inl rfl, q_gt1 hq3 h4⟩)
                · refine x_iload C dL_build_607 2 rfl ?_
                  refine x_bipush C (16 : Int32) (by decide) dL_build_609 ?_
                  refine x_ishr C dL_build_611 ?_
                  refine x_aload_n C dL_build_612 rfl 6 rfl ?_
                  refine x_iconst C (1 : Int32) (by decide) dL_build_613 ?_
                  refine x_iald C sh_87 (vp_in_nI (n := 1) (by omega) (by decide)) dL_build_614 ?_
                  rw [show (1 : Int32).toNatClampNeg = 1 from nI_clamp (n := 1) (by omega)]
                  refine x_v (y := nI nc) (by rw [xw_ne (r := 91) (a := 87) _ _ _ (by decide), xw_ne (r := 91) (a := 87) _ _ _ (by decide), xw_ne (r := 91) (a := 87) _ _ _ (by decide), xw_ne (r := 91) (a := 87) _ _ _ (by decide), xw_ne (r := 91) (a := 87) _ _ _ (by decide)]; exact hc390_3) ?_
                  refine x_callS C [.int (x >>> ((16 : Int32) &&& 31)), .int (nI nc)] (c_L_below l V hV (xw (xw (xw (xw (xw τ 91 (7 * k) (nI a0)) 91 ((7 * k) + 1) (nI a1)) 91 ((7 * k) + 2) a2) 91 ((7 * k) + 3) a3) 91 ((7 * k) + 4) a4) (x >>> ((16 : Int32) &&& 31)) (nI nc) hnz) (va_cwS 2 C.2.2.2.2.1 gL_build_L_below rfl rfl rfl (by decide +kernel) ⟨Nat.le_of_ble_eq_true rfl, Nat.le_of_ble_eq_true rfl⟩) rfl rfl (Nat.le_of_ble_eq_true rfl) dL_build_615 ⟨Nat.le_of_ble_eq_true rfl, Nat.le_of_ble_eq_true rfl⟩ (x_kI ?_)
                  refine x_goto C 627 dL_build_618 rfl ?_
                  exact hJ627 _ (Or.inr ⟨Or.inr (below_vp _ (by omega) (by omega)), q_gt1 hq3 h4⟩)
          · refine x_if_le C 581 dL_build_547 rfl (fun h6 => ?_) (fun h6 => ?_)
            · refine x_iconst C (-1 : Int32) (by decide) dL_build_581 ?_
              exact hJ582 _ (Or.inl ⟨rfl, q_le0 hq3 h6⟩)
            · refine x_iload C dL_build_550 2 rfl ?_
              refine x_bipush C (12 : Int32) (by decide) dL_build_552 ?_
              refine x_ishr C dL_build_554 ?_
              refine x_iconst C (3 : Int32) (by decide) dL_build_555 ?_
              refine x_callS C [.int (x >>> ((12 : Int32) &&& 31)), .int (3 : Int32)] (c_L_below l V hV (xw (xw (xw (xw τ 91 (7 * k) (nI a0)) 91 ((7 * k) + 1) (nI a1)) 91 ((7 * k) + 2) a2) 91 ((7 * k) + 3) a3) (x >>> ((12 : Int32) &&& 31)) (3 : Int32) (by decide)) (va_cwS 2 C.2.2.2.2.1 gL_build_L_below rfl rfl rfl (by decide +kernel) ⟨Nat.le_of_ble_eq_true rfl, Nat.le_of_ble_eq_true rfl⟩) rfl rfl (Nat.le_of_ble_eq_true rfl) dL_build_556 ⟨Nat.le_of_ble_eq_true rfl, Nat.le_of_ble_eq_true rfl⟩ (x_kI ?_)
              refine x_if_ne C 576 dL_build_559 rfl (fun h7 => ?_) (fun h7 => ?_)
              · refine x_bipush C (8 : Int32) (by decide) dL_build_576 ?_
                refine x_goto C 582 dL_build_578 rfl ?_
                exact hJ582 _ (Or.inr ⟨Or.inl rfl, q_gt0 hq3 h6⟩)
              · refine x_iload C dL_build_562 2 rfl ?_
                refine x_bipush C (13 : Int32) (by decide) dL_build_564 ?_
                refine x_ishr C dL_build_566 ?_
                refine x_aload_n C dL_build_567 rfl 6 rfl ?_
                refine x_iconst C (1 : Int32) (by decide) dL_build_568 ?_
                refine x_iald C sh_87 (vp_in_nI (n := 1) (by omega) (by decide)) dL_build_569 ?_
                rw [show (1 : Int32).toNatClampNeg = 1 from nI_clamp (n := 1) (by omega)]
                refine x_v (y := nI nc) (by rw [xw_ne (r := 91) (a := 87) _ _ _ (by decide), xw_ne (r := 91) (a := 87) _ _ _ (by decide), xw_ne (r := 91) (a := 87) _ _ _ (by decide), xw_ne (r := 91) (a := 87) _ _ _ (by decide)]; exact hc390_3) ?_
                refine x_callS C [.int (x >>> ((13 : Int32) &&& 31)), .int (nI nc)] (c_L_below l V hV (xw (xw (xw (xw τ 91 (7 * k) (nI a0)) 91 ((7 * k) + 1) (nI a1)) 91 ((7 * k) + 2) a2) 91 ((7 * k) + 3) a3) (x >>> ((13 : Int32) &&& 31)) (nI nc) hnz) (va_cwS 2 C.2.2.2.2.1 gL_build_L_below rfl rfl rfl (by decide +kernel) ⟨Nat.le_of_ble_eq_true rfl, Nat.le_of_ble_eq_true rfl⟩) rfl rfl (Nat.le_of_ble_eq_true rfl) dL_build_570 ⟨Nat.le_of_ble_eq_true rfl, Nat.le_of_ble_eq_true rfl⟩ (x_kI ?_)
                refine x_goto C 582 dL_build_573 rfl ?_
                exact hJ582 _ (Or.inr ⟨Or.inr (below_vp _ (by omega) (by omega)), q_gt0 hq3 h6⟩)
        · refine x_icmp_ne C 536 dL_build_521 rfl (fun h8 => ?_) (fun h8 => ?_)
          · refine x_iconst C (0 : Int32) (by decide) dL_build_536 ?_
            exact hJ537 _ (⟨0, by decide, rfl, fun _ => rfl⟩)
          · refine x_iload C dL_build_524 1 rfl ?_
            refine x_bipush C (10 : Int32) (by decide) dL_build_526 ?_
            refine x_ishr C dL_build_528 ?_
            refine x_iconst C (3 : Int32) (by decide) dL_build_529 ?_
            refine x_callS C [.int (x >>> ((10 : Int32) &&& 31)), .int (3 : Int32)] (c_L_below l V hV (xw (xw (xw (xw τ 91 (7 * k) (nI a0)) 91 ((7 * k) + 1) (nI a1)) 91 ((7 * k) + 2) a2) 91 ((7 * k) + 3) a3) (x >>> ((10 : Int32) &&& 31)) (3 : Int32) (by decide)) (va_cwS 2 C.2.2.2.2.1 gL_build_L_below rfl rfl rfl (by decide +kernel) ⟨Nat.le_of_ble_eq_true rfl, Nat.le_of_ble_eq_true rfl⟩) rfl rfl (Nat.le_of_ble_eq_true rfl) dL_build_530 ⟨Nat.le_of_ble_eq_true rfl, Nat.le_of_ble_eq_true rfl⟩ (x_kI ?_)
            refine x_goto C 537 dL_build_533 rfl ?_
            exact hJ537 _ (by obtain ⟨j, hj, ej⟩ := below_at (x >>> ((10 : Int32) &&& 31)) (n := 3) (by decide) (by decide); exact ⟨j, hj, ej, fun z => absurd h8 z⟩)
      · refine x_if_ne C 511 dL_build_504 rfl (fun h9 => ?_) (fun h9 => ?_)
        · refine x_iconst C (1 : Int32) (by decide) dL_build_511 ?_
          exact hJ512 _ (Or.inr rfl)
        · refine x_iconst C (0 : Int32) (by decide) dL_build_507 ?_
          refine x_goto C 512 dL_build_508 rfl ?_
          exact hJ512 _ (Or.inl rfl)
    · refine x_if_ne C 477 dL_build_469 rfl (fun h10 => ?_) (fun h10 => ?_)
      · refine x_iload C dL_build_477 1 rfl ?_
        refine x_bipush C (6 : Int32) (by decide) dL_build_479 ?_
        refine x_ishr C dL_build_481 ?_
        refine x_aload_n C dL_build_482 rfl 5 rfl ?_
        refine x_iconst C (1 : Int32) (by decide) dL_build_483 ?_
        refine x_iald C sh_87 (vp_in_nI (n := 1) (by omega) (by decide)) dL_build_484 ?_
        rw [show (1 : Int32).toNatClampNeg = 1 from nI_clamp (n := 1) (by omega)]
        refine x_v (y := nI nc) (by rw [xw_ne (r := 91) (a := 87) _ _ _ (by decide), xw_ne (r := 91) (a := 87) _ _ _ (by decide)]; exact hc390_3) ?_
        refine x_callS C [.int (x >>> ((6 : Int32) &&& 31)), .int (nI nc)] (c_L_below l V hV (xw (xw τ 91 (7 * k) (nI a0)) 91 ((7 * k) + 1) (nI a1)) (x >>> ((6 : Int32) &&& 31)) (nI nc) hnz) (va_cwS 2 C.2.2.2.2.1 gL_build_L_below rfl rfl rfl (by decide +kernel) ⟨Nat.le_of_ble_eq_true rfl, Nat.le_of_ble_eq_true rfl⟩) rfl rfl (Nat.le_of_ble_eq_true rfl) dL_build_485 ⟨Nat.le_of_ble_eq_true rfl, Nat.le_of_ble_eq_true rfl⟩ (x_kI ?_)
        exact hJ488 _ (Or.inr (below_vp _ (by omega) (by omega)))
      · refine x_bipush C (8 : Int32) (by decide) dL_build_472 ?_
        refine x_goto C 488 dL_build_474 rfl ?_
        exact hJ488 _ (Or.inl rfl)


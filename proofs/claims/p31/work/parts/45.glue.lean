theorem lPA {V V2 : xV} (W : WV V V2) (b fr t g : Nat) (ex : List (Nat × Value)) : (0, .ref b) :: (1, ra V 0) :: (2, ra V 87) :: (3, ra V 88) :: (4, ra V 89) :: (5, ra V 90) :: (6, ra V 91) :: (7, ra V 92) :: (8, ra V 93) :: (9, .int (nI fr)) :: (10, .int (nI t)) :: (11, .int (nI g)) :: (12, .ref (xad V2 0)) :: ex = (0, .ref b) :: (1, .ref (xad V 0)) :: (2, ra V2 87) :: (3, ra V2 88) :: (4, ra V2 89) :: (5, ra V2 90) :: (6, ra V2 91) :: (7, ra V2 92) :: (8, ra V2 93) :: (9, .int (nI fr)) :: (10, .int (nI t)) :: (11, .int (nI g)) :: (12, ra V2 0) :: ex := by
  rw [wv_ra W (k := 87) (by decide) (by decide), wv_ra W (k := 88) (by decide) (by decide), wv_ra W (k := 89) (by decide) (by decide), wv_ra W (k := 90) (by decide) (by decide), wv_ra W (k := 91) (by decide) (by decide), wv_ra W (k := 92) (by decide) (by decide), wv_ra W (k := 93) (by decide) (by decide)]
  rfl
set_option maxHeartbeats 4000000 in
theorem T_types {p : Program} {l : Launch} {e : Env} {s : State} {m : MethodId} {args : Array Value} {below : List Frame} {meth : Method} {c : Code} {V V2 : xV} {A : Nat → Prop} {Q : State → Prop} {cells slots b fr t g nr nc nl nm ne nx : Nat} (W : WV V V2) (C1 : ∀ τ, XC p s m args c cL_law 17 RL wsL_law V (x87 V2 τ) A) (C2 : ∀ σ, XC p s m args c cL_law 17 RL wsL_law V2 (x87 V σ) A) (hV : xInj V) (hV2 : xInj V2) (hcs : cells + 0 ≤ room_1.cells ∧ slots + 0 ≤ room_1.slots) (hg : g < 16) {σ0 τ0 : xS} (hP0 : PP nr nc nl nm ne nx σ0) (hA0 : AA (nI g) nr nc nl nm ne nx τ0) (ha0 : ∀ r, 87 ≤ r → r < 94 → τ0 r = σ0 r) (hp : bt (allI σ0) g = true)
    (K : ∀ σ τ, Eqc σ σ0 → Eqc τ τ0 → X p l e room_1 s m args below meth c V (x87 V2 τ) A 17 cells slots Q σ 724 ((0, .ref b) :: (1, ra V 0) :: (2, ra V 87) :: (3, ra V 88) :: (4, ra V 89) :: (5, ra V 90) :: (6, ra V 91) :: (7, ra V 92) :: (8, ra V 93) :: (9, .int (nI fr)) :: (10, .int (nI t)) :: (11, .int (nI g)) :: (12, .ref (xad V2 0)) :: (13, .int (0 : Int32)) :: (14, .int (0 : Int32)) :: []) []) :
    ∀ (n k : Nat) (σ τ : xS), k + n = ne → Eqc σ σ0 → Eqc τ τ0 → X p l e room_1 s m args below meth c V (x87 V2 τ) A 17 cells slots Q σ 683 ((0, .ref b) :: (1, ra V 0) :: (2, ra V 87) :: (3, ra V 88) :: (4, ra V 89) :: (5, ra V 90) :: (6, ra V 91) :: (7, ra V 92) :: (8, ra V 93) :: (9, .int (nI fr)) :: (10, .int (nI t)) :: (11, .int (nI g)) :: (12, .ref (xad V2 0)) :: (13, .int (nI k)) :: []) [] := by
  have hne : ne ≤ 14 := hP0.1.2.2.2.2.1.1
  intro n
  induction n with
  | zero =>
    intro k σ τ hk q1 q2
    have e : k = ne := hk
    subst e
    have hP := hP0.of q1
    exact M_7 (C1 τ) hV hcs (ne := k) hP.1.2.2.2.2.2.2.2.2.2.2.1 (K σ τ q1 q2)
  | succ n ih =>
    intro k σ τ hk q1 q2
    have hP := hP0.of q1
    have hA := hA0.of q2
    have ha : ∀ r, 87 ≤ r → r < 94 → τ r = σ r := fun r h1 h2 => by rw [q1 r (kp_a r h1 h2), q2 r (kp_a r h1 h2)]; exact ha0 r h1 h2
    have hp1 : bt (allI σ) g = true := by rw [allI_c q1]; exact hp
    have q1' : Eqc (gts (look σ (nI g))) σ0 := (gl_q σ _).tr q1
    have q2' : Eqc (gts (look τ (nI 0))) τ0 := (gl_q τ _).tr q2
    refine M_5 (C1 τ) hV hcs (k := k) (ne := ne) hP.z2 hP.z3 hg hp1 hne (by omega) hP.1.2.2.2.2.2.2.2.2.2.2.1 hP.2.2.2.2.2.1.1 ?_
    refine x_swap W (fun r h1 h2 => by rw [gl_q σ _ r (kp_a r h1 h2)]; exact ha r h1 h2) (lPA W b fr t g _) rfl ?_
    refine M_6 (C2 _) hV2 hcs (k := k) (ne := ne) hA.z2 hA.z3 hA.b1 hne (by omega) hA.2.2.2.2.2.1.1 (type_al (pair_St hg hP hA ha) hg (by decide) hP.Wx (by omega)) ?_
    refine x_swap W.sy (fun r h1 h2 => by rw [gl_q τ _ r (kp_a r h1 h2), gl_q σ _ r (kp_a r h1 h2)]; exact (ha r h1 h2).symm) (lPA W b fr t g _).symm rfl ?_
    exact ih (k + 1) _ _ (by omega) q1' q2'
set_option maxHeartbeats 4000000 in
theorem T_errs {p : Program} {l : Launch} {e : Env} {s : State} {m : MethodId} {args : Array Value} {below : List Frame} {meth : Method} {c : Code} {V V2 : xV} {A : Nat → Prop} {Q : State → Prop} {cells slots b fr t g nr nc nl nm ne nx : Nat} (W : WV V V2) (C1 : ∀ τ, XC p s m args c cL_law 17 RL wsL_law V (x87 V2 τ) A) (C2 : ∀ σ, XC p s m args c cL_law 17 RL wsL_law V2 (x87 V σ) A) (hV : xInj V) (hV2 : xInj V2) (hcs : cells + 0 ≤ room_1.cells ∧ slots + 0 ≤ room_1.slots) (hg : g < 16) {σ0 τ0 : xS} (hP0 : PP nr nc nl nm ne nx σ0) (hA0 : AA (nI g) nr nc nl nm ne nx τ0) (ha0 : ∀ r, 87 ≤ r → r < 94 → τ0 r = σ0 r) (hp : bt (allI σ0) g = true)
    (K : ∀ σ τ, Eqc σ σ0 → Eqc τ τ0 → X p l e room_1 s m args below meth c V (x87 V2 τ) A 17 cells slots Q σ 798 ((0, .ref b) :: (1, ra V 0) :: (2, ra V 87) :: (3, ra V 88) :: (4, ra V 89) :: (5, ra V 90) :: (6, ra V 91) :: (7, ra V 92) :: (8, ra V 93) :: (9, .int (nI fr)) :: (10, .int (nI t)) :: (11, .int (nI g)) :: (12, .ref (xad V2 0)) :: []) []) :
    ∀ (n k : Nat) (σ τ : xS), k + n = zc (Er σ0) 600 → Eqc σ σ0 → Eqc τ τ0 → X p l e room_1 s m args below meth c V (x87 V2 τ) A 17 cells slots Q σ 724 ((0, .ref b) :: (1, ra V 0) :: (2, ra V 87) :: (3, ra V 88) :: (4, ra V 89) :: (5, ra V 90) :: (6, ra V 91) :: (7, ra V 92) :: (8, ra V 93) :: (9, .int (nI fr)) :: (10, .int (nI t)) :: (11, .int (nI g)) :: (12, .ref (xad V2 0)) :: (13, .int (szIN (insA σ0) (nI g) k)) :: (14, .int (nI k)) :: []) [] := by
  have w := hP0.Wx
  have wA := hA0.Wx
  have hz6 := zc_le (Er σ0) 600
  intro n
  induction n with
  | zero =>
    intro k σ τ hk q1 q2
    have hP := hP0.of q1
    exact M_8 (C1 τ) hV hcs (k := k) (n := zc (Er σ0) 600) hP.z2 hP.z3 (by rw [insA_207, zc_c q1 w]) (by omega) (by omega) (K _ τ ((insA_q σ).tr q1) q2)
  | succ n ih =>
    intro k σ τ hk q1 q2
    have hP := hP0.of q1
    have hA := hA0.of q2
    have hk1 : k < zc (Er σ0) 600 := by omega
    have s1 : Eqc (insA σ) σ0 := (insA_q σ).tr q1
    have s2 : Eqc (insA (insA σ)) σ0 := (insA_q _).tr s1
    have hP2 := hP0.of s2
    have ep := (err_c s1 w hk1).2.2
    refine M_9 (C1 τ) hV hcs (k := k) (n := zc (Er σ0) 600) hP.z2 hP.z3 hg (by rw [insA_207, zc_c q1 w]) (by omega) hk1 (zc_c s1 w).symm (fun hb => ?_) (fun hb => ?_)
    · have en : szIN (insA σ0) (nI g) (k + 1) = szIN (insA σ0) (nI g) k := by
        rw [szIN, isIn_bt (by omega), ← ep, hb]; rfl
      refine M_14 (C1 τ) hV hcs ?_
      rw [← en]
      exact ih (k + 1) _ τ (by omega) s2 q2
    · rw [ep] at hb
      obtain ⟨j, j1, j2, j3, j4, j5⟩ := error_1 (pair_St hg hP0 hA0 ha0) hg w hp hA0.a1 hk1 hb
      have en : szIN (insA σ0) (nI g) (k + 1) = nI (j + 1) := by
        rw [szIN, isIn_bt (by omega), hb, if_pos rfl, j3]; exact nI_1 j
      have ha2 : ∀ r, 87 ≤ r → r < 94 → τ r = insA (insA σ) r := fun r h1 h2 => by rw [s2 r (kp_a r h1 h2), q2 r (kp_a r h1 h2)]; exact ha0 r h1 h2
      have t1 : Eqc (insA τ) τ0 := (insA_q τ).tr q2
      have t2 : Eqc (insA (insA τ)) τ0 := (insA_q _).tr t1
      have s3 : Eqc (insA (insA (insA σ))) σ0 := (insA_q _).tr s2
      have s4 : Eqc (insA (insA (insA (insA σ)))) σ0 := (insA_q _).tr s3
      have ar : ∀ {u v : xS}, Eqc u σ0 → Eqc v τ0 → ∀ r, 87 ≤ r → r < 94 → v r = u r := fun qu qv r h1 h2 => by rw [qu r (kp_a r h1 h2), qv r (kp_a r h1 h2)]; exact ha0 r h1 h2
      rw [j3]
      refine x_swap W (ar s2 q2) (lPA W b fr t g _) rfl ?_
      refine M_10 (C2 _) hV2 hcs (j := j) (k := k) hA.z2 hA.z3 (by rw [zc_c q2 wA]; exact j1) ?_
      refine x_swap W.sy (fun r h1 h2 => (ar s2 t1 r h1 h2).symm) (lPA W b fr t g _).symm rfl ?_
      refine M_11 (C1 _) hV hcs (j := j) (k := k) hP2.z2 hP2.z3 (by rw [zc_c s2 w]; exact hk1) (by rw [(err_c q2 wA j1).1, (err_c s2 w hk1).1]; exact j4.symm) ?_
      refine x_swap W (ar s3 t1) (lPA W b fr t g _) rfl ?_
      refine M_12 (C2 _) hV2 hcs (j := j) (k := k) (hA0.of t1).z2 (hA0.of t1).z3 (by rw [zc_c t1 wA]; exact j1) ?_
      refine x_swap W.sy (fun r h1 h2 => (ar s3 t2 r h1 h2).symm) (lPA W b fr t g _).symm rfl ?_
      refine M_13 (C1 _) hV hcs (j := j) (k := k) (hP0.of s3).z2 (hP0.of s3).z3 (by rw [zc_c s3 w]; exact hk1) (by rw [(err_c t1 wA j1).2.1, (err_c s3 w hk1).2.1]; exact j5.symm) ?_
      refine M_14 (C1 _) hV hcs ?_
      rw [← en]
      exact ih (k + 1) _ _ (by omega) s4 t2
set_option maxHeartbeats 4000000 in
/-- both are filled: they are held against each other -/
theorem T_pair {p : Program} {l : Launch} {e : Env} {s : State} {m : MethodId} {args : Array Value} {below : List Frame} {meth : Method} {c : Code} {V V2 : xV} {A : Nat → Prop} {Q : State → Prop} {cells slots b fr t g nr nc nl nm ne nx : Nat} (W : WV V V2) (C1 : ∀ τ, XC p s m args c cL_law 17 RL wsL_law V (x87 V2 τ) A) (C2 : ∀ σ, XC p s m args c cL_law 17 RL wsL_law V2 (x87 V σ) A) (hV : xInj V) (hV2 : xInj V2) (hcs : cells + 0 ≤ room_1.cells ∧ slots + 0 ≤ room_1.slots) (hg : g < 16) {σ0 τ0 : xS} (hP0 : PP nr nc nl nm ne nx σ0) (hA0 : AA (nI g) nr nc nl nm ne nx τ0) (ha0 : ∀ r, 87 ≤ r → r < 94 → τ0 r = σ0 r) (hp : bt (allI σ0) g = true)
    (K : ∀ σ τ, Eqc σ σ0 → X p l e room_1 s m args below meth c V (x87 V2 τ) A 17 cells slots Q σ 798 ((0, .ref b) :: (1, ra V 0) :: (2, ra V 87) :: (3, ra V 88) :: (4, ra V 89) :: (5, ra V 90) :: (6, ra V 91) :: (7, ra V 92) :: (8, ra V 93) :: (9, .int (nI fr)) :: (10, .int (nI t)) :: (11, .int (nI g)) :: (12, .ref (xad V2 0)) :: []) []) : X p l e room_1 s m args below meth c V2 (x87 V σ0) A 17 cells slots Q τ0 647 ((0, .ref b) :: (1, .ref (xad V 0)) :: (2, ra V2 87) :: (3, ra V2 88) :: (4, ra V2 89) :: (5, ra V2 90) :: (6, ra V2 91) :: (7, ra V2 92) :: (8, ra V2 93) :: (9, .int (nI fr)) :: (10, .int (nI t)) :: (11, .int (nI g)) :: (12, ra V2 0) :: []) [] := by
  have w := hP0.Wx
  have wA := hA0.Wx
  have hS := pair_St hg hP0 hA0 ha0
  have s1 : Eqc (insA σ0) σ0 := insA_q σ0
  have s2 : Eqc (insA (insA σ0)) σ0 := (insA_q _).tr s1
  have t1 : Eqc (insA τ0) τ0 := insA_q τ0
  have t2 : Eqc (insA (insA τ0)) τ0 := (insA_q _).tr t1
  have ar : ∀ {u v : xS}, Eqc u σ0 → Eqc v τ0 → ∀ r, 87 ≤ r → r < 94 → v r = u r := fun qu qv r h1 h2 => by rw [qu r (kp_a r h1 h2), qv r (kp_a r h1 h2)]; exact ha0 r h1 h2
  refine x_swap W.sy (fun r h1 h2 => (ha0 r h1 h2).symm) (lPA W b fr t g _).symm rfl ?_
  refine M_1 (C1 _) hV hcs hP0.z2 hP0.z3 hg hp ?_
  refine x_swap W (ar s1 Eqc.rf) (lPA W b fr t g _) rfl ?_
  refine M_2 (C2 _) hV2 hcs hA0.z2 hA0.z3 (in_1 hS hg w hp hA0.a1) ?_
  refine x_swap W.sy (fun r h1 h2 => (ar s1 t1 r h1 h2).symm) (lPA W b fr t g _).symm rfl ?_
  refine M_3 (C1 _) hV hcs (hP0.of s1).z2 (hP0.of s1).z3 ?_
  refine x_swap W (ar s2 t1) (lPA W b fr t g _) rfl ?_
  refine M_4 (C2 _) hV2 hcs (hA0.of t1).z2 (hA0.of t1).z3 (by rw [rgt_c s1 w, rgt_c t1 wA]; exact right_1 hS hg w hp hA0.a1) ?_
  refine x_swap W.sy (fun r h1 h2 => (ar s2 t2 r h1 h2).symm) (lPA W b fr t g _).symm rfl ?_
  refine M_4b (C1 _) hV hcs ?_
  refine T_types W C1 C2 hV hV2 hcs hg hP0 hA0 ha0 hp (fun σ τ q1 q2 => ?_) ne 0 _ _ (Nat.zero_add _) s2 t2
  refine T_errs W C1 C2 hV hV2 hcs hg hP0 hA0 ha0 hp (fun σ τ q1 q2 => K σ τ q1) (zc (Er σ0) 600) 0 σ τ (Nat.zero_add _) q1 q2

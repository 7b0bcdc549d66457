/-! The law looks at the culprit; it calls build. -/
theorem met_1 {σ : xS} {k : Nat} {mb : Bool} (hf : bt (allI σ) k = false) (h : ∀ c, c < k → bt (allI σ) c = true → isTrB (culp σ) (nI c) = true → mb = true) : ∀ c, c < k + 1 → bt (allI σ) c = true → isTrB (culp σ) (nI c) = true → mb = true := by
  intro c hc h1 h2
  by_cases e : c = k
  · rw [e, hf] at h1; exact Bool.noConfusion h1
  · exact h c (by omega) h1 h2
theorem met_2 {σ : xS} {x : Int32} {k : Nat} {mb : Bool} (hx : culp σ = x) (hf : isTrB x (nI k) = false) (h : ∀ c, c < k → bt (allI σ) c = true → isTrB (culp σ) (nI c) = true → mb = true) : ∀ c, c < k + 1 → bt (allI σ) c = true → isTrB (culp σ) (nI c) = true → mb = true := by
  intro c hc h1 h2
  by_cases e : c = k
  · rw [e, hx, hf] at h2; exact Bool.noConfusion h2
  · exact h c (by omega) h1 h2
theorem bc_c {n m : Nat} {σ σ0 : xS} (q : Eqc σ σ0) (w : Wx n m σ0) (c : Nat) : bc (Er σ) c 600 = bc (Er σ0) c 600 := bc_eq (c := c) (d := c) (n := 600) (fun j hj => by rw [Er_c q w j hj]) 600 (Nat.le_refl _)
set_option maxHeartbeats 4000000 in
set_option maxRecDepth 100000 in
theorem M_19 {p : Program} {l : Launch} {e : Env} {s : State} {m : MethodId} {args : Array Value} {below : List Frame} {meth : Method} {c : Code} {V : xV} {E : va_W} {A : Nat → Prop} {Q : State → Prop} {cells slots b pa fr t g : Nat} (C : XC p s m args c cL_law 17 RL wsL_law V E A) (hV : xInj V) (hcs : cells + 0 ≤ room_1.cells ∧ slots + 0 ≤ room_1.slots) {σ : xS} {nr nc nl nm ne nx : Nat} (hP0 : PP nr nc nl nm ne nx σ) (K : ∀ (u : xS) (lv : List (Nat × Value)), X p l e room_1 s m args below meth c V E A 17 cells slots Q u 899 lv [.int (1 : Int32)]) : X p l e room_1 s m args below meth c V E A 17 cells slots Q σ 804 [(0, .ref b), (1, ra V 0), (2, ra V 87), (3, ra V 88), (4, ra V 89), (5, ra V 90), (6, ra V 91), (7, ra V 92), (8, ra V 93), (9, .int (nI fr)), (10, .int (nI t))] [] := by
  refine x_aload_n C dL_law_804 rfl 1 rfl ?_
  refine x_callV C sh_0 (by decide) rfl [] (c_X8_culprit l V hV σ  hP0.z2 hP0.z3) (cwV 0 C.2.2.2.2.1 gL_law_X8_culprit rfl rfl rfl (by decide +kernel) ⟨Nat.le_of_ble_eq_true rfl, Nat.le_of_ble_eq_true rfl⟩) rfl rfl (Nat.le_of_ble_eq_true rfl) dL_law_805 hcs (x_kI ?_)
  obtain ⟨x, hx⟩ : ∃ x, culp σ = x := ⟨_, rfl⟩
  refine x_v (y := x) hx ?_
  refine x_istore C [(10, .int x), (0, .ref b), (1, ra V 0), (2, ra V 87), (3, ra V 88), (4, ra V 89), (5, ra V 90), (6, ra V 91), (7, ra V 92), (8, ra V 93), (9, .int (nI fr))] dL_law_808 (by decide) rfl ?_
  refine x_iconst C (0 : Int32) (by decide) dL_law_810 ?_
  refine x_istore C [(11, .int (0 : Int32)), (10, .int x), (0, .ref b), (1, ra V 0), (2, ra V 87), (3, ra V 88), (4, ra V 89), (5, ra V 90), (6, ra V 91), (7, ra V 92), (8, ra V 93), (9, .int (nI fr))] dL_law_811 (by decide) rfl ?_
  refine x_iconst C (0 : Int32) (by decide) dL_law_813 ?_
  refine x_istore C [(12, .int (0 : Int32)), (11, .int (0 : Int32)), (10, .int x), (0, .ref b), (1, ra V 0), (2, ra V 87), (3, ra V 88), (4, ra V 89), (5, ra V 90), (6, ra V 91), (7, ra V 92), (8, ra V 93), (9, .int (nI fr))] dL_law_814 (by decide) rfl ?_
  refine x_lv [3, 4, 5, 6, 7, 8, 9, 10, 11, 12, 2, 1, 0] [(0, .ref b), (1, ra V 0), (2, ra V 87), (3, ra V 88), (4, ra V 89), (5, ra V 90), (6, ra V 91), (7, ra V 92), (8, ra V 93), (9, .int (nI fr)), (10, .int x), (11, .int (0 : Int32)), (12, .int (0 : Int32))] rfl ?_
  refine x_loop (fun μ τ lv_ => ∃ (k : Nat) (mb : Bool), μ = 16 - k ∧ lv_ = [(0, .ref b), (1, ra V 0), (2, ra V 87), (3, ra V 88), (4, ra V 89), (5, ra V 90), (6, ra V 91), (7, ra V 92), (8, ra V 93), (9, .int (nI fr)), (10, .int x), (11, .int (bI mb)), (12, .int (nI k))] ∧ k ≤ 16 ∧ Eqc τ σ ∧ ∀ c, c < k → bt (allI σ) c = true → isTrB (culp σ) (nI c) = true → mb = true) ⟨_, ⟨0, false, rfl, rfl, Nat.zero_le _, insA_q σ, fun c hc => absurd hc (Nat.not_lt_zero c)⟩⟩ ?_
  rintro μ816 τ _ ⟨k, mb, hμ816, rfl, hc816_0, hc816_1, hc816_2⟩ ih816
  refine x_iload C dL_law_816 10 rfl ?_
  refine x_if_lt C 873 dL_law_818 rfl (fun h1 => ?_) (fun h1 => ?_)
  · refine x_iload C dL_law_873 10 rfl ?_
    refine x_if_ge C 897 dL_law_875 rfl (fun h2 => absurd h2 (Int32.not_le.mpr h1)) (fun h2 => ?_)
    refine x_aload_n C dL_law_878 rfl 1 rfl ?_
    refine x_callV C sh_0 (by decide) rfl [] (c_X8_right l V hV τ  (okZ_of (hc816_1 202 (by decide)) hP0.z2) (okZ_of (hc816_1 203 (by decide)) hP0.z3)) (cwV 0 C.2.2.2.2.1 gL_law_X8_right rfl rfl rfl (by decide +kernel) ⟨Nat.le_of_ble_eq_true rfl, Nat.le_of_ble_eq_true rfl⟩) rfl rfl (Nat.le_of_ble_eq_true rfl) dL_law_879 hcs (x_kI ?_)
    refine x_aload_n C dL_law_882 rfl 1 rfl ?_
    refine x_callV C sh_0 (by decide) rfl [] (c_X8_products l V hV (insA τ) ) (cwV 0 C.2.2.2.2.1 gL_law_X8_products rfl rfl rfl (by decide +kernel) ⟨Nat.le_of_ble_eq_true rfl, Nat.le_of_ble_eq_true rfl⟩) rfl rfl (Nat.le_of_ble_eq_true rfl) dL_law_883 hcs (x_kI ?_)
    have heq : rgt τ = allI (insA τ) := by rw [rgt_c hc816_1 hP0.Wx, allI_c ((insA_q τ).tr hc816_1)]; exact culp_neg (by rw [hx]; exact h1)
    refine x_icmp_ne C 893 dL_law_886 rfl (fun h3 => absurd h3 (fun q => q heq)) (fun h3 => ?_)
    refine x_iconst C (1 : Int32) (by decide) dL_law_889 ?_
    refine x_goto C 899 dL_law_890 rfl ?_
    exact K _ _
  · refine x_iload C dL_law_821 12 rfl ?_
    refine x_bipush C (16 : Int32) (by decide) dL_law_823 ?_
    refine x_icmp_ge C 873 dL_law_825 rfl (fun h4 => ?_) (fun h4 => ?_)
    · refine x_iload C dL_law_873 10 rfl ?_
      refine x_if_ge C 897 dL_law_875 rfl (fun h5 => ?_) (fun h5 => absurd h5 (fun q => q (Int32.not_lt.mp h1)))
      refine x_iload C dL_law_897 11 rfl ?_
      have hk16 : k = 16 := Nat.le_antisymm hc816_0 ((nI_leI (a := 16) (b := k) (by decide) (by omega)).mp h4)
      obtain ⟨c0, c1, c2, c3⟩ := (culp_pos (σ := σ) (by rw [hx]; exact h1)).1
      have hmb : mb = true := hc816_2 c0 (by omega) c2 c3
      refine x_v (y := (1 : Int32)) (by rw [hmb]; rfl) ?_
      exact K _ _
    · have hkn : k < 16 := Nat.lt_of_not_le (fun hq => h4 (nI_le (a := 16) hq (by omega)))
      have hP := hP0.of hc816_1
      refine x_aload_n C dL_law_828 rfl 1 rfl ?_
      refine x_callV C sh_0 (by decide) rfl [] (c_X8_products l V hV τ ) (cwV 0 C.2.2.2.2.1 gL_law_X8_products rfl rfl rfl (by decide +kernel) ⟨Nat.le_of_ble_eq_true rfl, Nat.le_of_ble_eq_true rfl⟩) rfl rfl (Nat.le_of_ble_eq_true rfl) dL_law_829 hcs (x_kI ?_)
      refine x_iload C dL_law_832 12 rfl ?_
      refine x_ishr C dL_law_834 ?_
      refine x_iconst C (1 : Int32) (by decide) dL_law_835 ?_
      refine x_iand C dL_law_836 ?_
      refine x_v (y := bI (bt (allI τ) k)) (shr_bt _ (by omega)) ?_
      refine x_bif_eq C 867 dL_law_837 rfl (fun h6 => ?_) (fun h6 => ?_)
      · refine x_iinc C (q := 12) ((nI k) + (1 : Int32)) [(12, .int ((nI k) + (1 : Int32))), (0, .ref b), (1, ra V 0), (2, ra V 87), (3, ra V 88), (4, ra V 89), (5, ra V 90), (6, ra V 91), (7, ra V 92), (8, ra V 93), (9, .int (nI fr)), (10, .int x), (11, .int (bI mb))] dL_law_867 rfl rfl (by decide) rfl ?_
        refine x_goto C 816 dL_law_870 rfl ?_
        refine x_lv [1, 2, 3, 4, 5, 6, 7, 8, 9, 10, 11, 12, 0] [(0, .ref b), (1, ra V 0), (2, ra V 87), (3, ra V 88), (4, ra V 89), (5, ra V 90), (6, ra V 91), (7, ra V 92), (8, ra V 93), (9, .int (nI fr)), (10, .int x), (11, .int (bI mb)), (12, .int ((nI k) + (1 : Int32)))] rfl ?_
        exact ih816 _ _ _ (by omega) ⟨k + 1, mb, rfl, by rw [nI_succ], (by omega), hc816_1, met_1 (by rw [← allI_c hc816_1]; exact h6) hc816_2⟩
      · refine x_iload C dL_law_840 10 rfl ?_
        refine x_iload C dL_law_842 12 rfl ?_
        refine x_callS C [.int x, .int (nI k)] (c_L_isTrue l V hV τ x (nI k)) (va_cwS 2 C.2.2.2.2.1 gL_law_L_isTrue rfl rfl rfl (by decide +kernel) ⟨Nat.le_of_ble_eq_true rfl, Nat.le_of_ble_eq_true rfl⟩) rfl rfl (Nat.le_of_ble_eq_true rfl) dL_law_844 hcs (x_kI ?_)
        refine x_bif_ne C 853 dL_law_847 rfl (fun h7 => ?_) (fun h7 => ?_)
        · have hbk : bt (allI τ) k = true := h6
          have htr : isTrB (culp σ) (nI k) = true := by rw [hx]; exact h7
          have hnx : ¬ culp σ < 0 := by rw [hx]; exact h1
          have hpos : 0 < bc (Er τ) k 600 := by rw [bc_c hc816_1 hP0.Wx k]; exact (culp_pos hnx).2 k hkn (by rw [← allI_c hc816_1]; exact hbk) htr
          refine x_iconst C (1 : Int32) (by decide) dL_law_853 ?_
          refine x_istore C [(11, .int (1 : Int32)), (0, .ref b), (1, ra V 0), (2, ra V 87), (3, ra V 88), (4, ra V 89), (5, ra V 90), (6, ra V 91), (7, ra V 92), (8, ra V 93), (9, .int (nI fr)), (10, .int x), (12, .int (nI k))] dL_law_854 (by decide) rfl ?_
          refine x_aload_n C dL_law_856 rfl 2 rfl ?_
          refine x_iload C dL_law_857 12 rfl ?_
          refine x_callV C sh_0 (by decide) rfl [.int (nI k)] (c_X8_errorsIn l V hV τ (nI k) (okZ_of (hc816_1 202 (by decide)) hP0.z2) (okZ_of (hc816_1 203 (by decide)) hP0.z3) (kEIn_0 (by omega) hbk)) (cwV 1 C.2.2.2.2.1 gL_law_X8_errorsIn rfl rfl rfl (by decide +kernel) ⟨Nat.le_of_ble_eq_true rfl, Nat.le_of_ble_eq_true rfl⟩) rfl rfl (Nat.le_of_ble_eq_true rfl) dL_law_859 hcs (x_kI ?_)
          refine x_v (y := nI (bc (Er τ) k 600)) (szI_at τ (by omega)) ?_
          refine x_if_ne C 867 dL_law_862 rfl (fun h8 => ?_) (fun h8 => absurd h8 (fun z => absurd ((nI_eq (a := bc (Er τ) k 600) (b := 0) (by have := bc_le (Er τ) k 600; omega) (by decide)).mp z) (by omega)))
          refine x_iinc C (q := 12) ((nI k) + (1 : Int32)) [(12, .int ((nI k) + (1 : Int32))), (11, .int (1 : Int32)), (0, .ref b), (1, ra V 0), (2, ra V 87), (3, ra V 88), (4, ra V 89), (5, ra V 90), (6, ra V 91), (7, ra V 92), (8, ra V 93), (9, .int (nI fr)), (10, .int x)] dL_law_867 rfl rfl (by decide) rfl ?_
          refine x_goto C 816 dL_law_870 rfl ?_
          refine x_lv [2, 3, 4, 5, 6, 7, 8, 9, 10, 11, 12, 1, 0] [(0, .ref b), (1, ra V 0), (2, ra V 87), (3, ra V 88), (4, ra V 89), (5, ra V 90), (6, ra V 91), (7, ra V 92), (8, ra V 93), (9, .int (nI fr)), (10, .int x), (11, .int (1 : Int32)), (12, .int ((nI k) + (1 : Int32)))] rfl ?_
          exact ih816 _ _ _ (by omega) ⟨k + 1, true, rfl, by rw [nI_succ]; rfl, (by omega), (insA_q τ).tr hc816_1, fun _ _ _ _ => rfl⟩
        · refine x_goto C 867 dL_law_850 rfl ?_
          refine x_iinc C (q := 12) ((nI k) + (1 : Int32)) [(12, .int ((nI k) + (1 : Int32))), (0, .ref b), (1, ra V 0), (2, ra V 87), (3, ra V 88), (4, ra V 89), (5, ra V 90), (6, ra V 91), (7, ra V 92), (8, ra V 93), (9, .int (nI fr)), (10, .int x), (11, .int (bI mb))] dL_law_867 rfl rfl (by decide) rfl ?_
          refine x_goto C 816 dL_law_870 rfl ?_
          refine x_lv [1, 2, 3, 4, 5, 6, 7, 8, 9, 10, 11, 12, 0] [(0, .ref b), (1, ra V 0), (2, ra V 87), (3, ra V 88), (4, ra V 89), (5, ra V 90), (6, ra V 91), (7, ra V 92), (8, ra V 93), (9, .int (nI fr)), (10, .int x), (11, .int (bI mb)), (12, .int ((nI k) + (1 : Int32)))] rfl ?_
          exact ih816 _ _ _ (by omega) ⟨k + 1, mb, rfl, by rw [nI_succ], (by omega), hc816_1, met_2 hx h7 hc816_2⟩

set_option maxHeartbeats 4000000 in
set_option maxRecDepth 100000 in
theorem M_20 {p : Program} {l : Launch} {e : Env} {s : State} {m : MethodId} {args : Array Value} {below : List Frame} {meth : Method} {c : Code} {V : xV} {E : va_W} {A : Nat → Prop} {Q : State → Prop} {cells slots b pa fr t g : Nat} (C : XC p s m args c cL_law 17 RL wsL_law V E A) (hV : xInj V) (hcs : cells + 0 ≤ room_1.cells ∧ slots + 0 ≤ room_1.slots) {L : Nat} {xs : Nat → Int32} (hX : va_X b L xs s s.heap) (hbl : b < s.heap.size) (hbA : ¬ A b) (hbV : ¬ inR V b) (hL : L < 2 ^ 31) (K : ∀ (u : xS) (f0 : Nat), f0 < 16 → BD u → X p l e room_1 s m args below meth c V E A 17 cells slots Q u 87 [(0, .ref b), (1, ra V 0), (2, ra V 87), (3, ra V 88), (4, ra V 89), (5, ra V 90), (6, ra V 91), (7, ra V 92), (8, ra V 93), (9, .int (nI f0)), (10, .int (0 : Int32))] []) : X p l e room_1 s m args below meth c V E A 17 cells slots Q xS0 48 [(0, .ref b), (1, ra V 0), (2, ra V 87), (3, ra V 88), (4, ra V 89), (5, ra V 90), (6, ra V 91), (7, ra V 92), (8, ra V 93)] [] := by
  refine x_aload_n C dL_law_48 rfl 1 rfl ?_
  refine x_arefn C dL_law_49 rfl 0 rfl ?_
  refine x_iconst C (0 : Int32) (by decide) dL_law_50 ?_
  refine x_aload_n C dL_law_51 rfl 2 rfl ?_
  refine x_aload_n C dL_law_52 rfl 3 rfl ?_
  refine x_aload C dL_law_53 4 rfl ?_
  refine x_aload C dL_law_55 5 rfl ?_
  refine x_aload C dL_law_57 6 rfl ?_
  refine x_aload C dL_law_59 7 rfl ?_
  refine x_aload C dL_law_61 8 rfl ?_
  refine x_callSS C hX hbl hbA [ra V 0, .ref b, .int (0 : Int32), ra V 87, ra V 88, ra V 89, ra V 90, ra V 91, ra V 92, ra V 93] (c_L_build l V hV b L xs hbV hL) (va_cwS 10 C.2.2.2.2.1 gL_law_L_build rfl rfl rfl (by decide +kernel) ⟨Nat.le_of_ble_eq_true rfl, Nat.le_of_ble_eq_true rfl⟩) rfl rfl (Nat.le_of_ble_eq_true rfl) dL_law_63 hcs (fun v_ u hu => ?_)
  obtain ⟨rfl, hBD⟩ := hu
  refine x_bif_ne C 71 dL_law_66 rfl (fun h1 => ?_) (fun h1 => absurd h1 (by decide))
  refine x_arefn C dL_law_71 rfl 0 rfl ?_
  refine x_bipush C (15 : Int32) (by decide) dL_law_72 ?_
  refine x_callSS C hX hbl hbA [.ref b, .int (15 : Int32)] (c_L_cell l V hV u b L xs hbV hL (15 : Int32) (by decide)) (va_cwS 2 C.2.2.2.2.1 gL_law_L_cell rfl rfl rfl (by decide +kernel) ⟨Nat.le_of_ble_eq_true rfl, Nat.le_of_ble_eq_true rfl⟩) rfl rfl (Nat.le_of_ble_eq_true rfl) dL_law_74 hcs (x_kI ?_)
  refine x_bipush C (16 : Int32) (by decide) dL_law_77 ?_
  refine x_callS C [.int (cellI L xs (15 : Int32)), .int (16 : Int32)] (c_L_below l V hV u (cellI L xs (15 : Int32)) (16 : Int32) (by decide)) (va_cwS 2 C.2.2.2.2.1 gL_law_L_below rfl rfl rfl (by decide +kernel) ⟨Nat.le_of_ble_eq_true rfl, Nat.le_of_ble_eq_true rfl⟩) rfl rfl (Nat.le_of_ble_eq_true rfl) dL_law_79 hcs (x_kI ?_)
  obtain ⟨f0, hf0, ef0⟩ := below_at (cellI L xs (15 : Int32)) (n := 16) (by decide) (by decide)
  refine x_v (y := nI f0) ef0 ?_
  refine x_istore C [(9, .int (nI f0)), (0, .ref b), (1, ra V 0), (2, ra V 87), (3, ra V 88), (4, ra V 89), (5, ra V 90), (6, ra V 91), (7, ra V 92), (8, ra V 93)] dL_law_82 (by decide) rfl ?_
  refine x_iconst C (0 : Int32) (by decide) dL_law_84 ?_
  refine x_istore C [(10, .int (0 : Int32)), (9, .int (nI f0)), (0, .ref b), (1, ra V 0), (2, ra V 87), (3, ra V 88), (4, ra V 89), (5, ra V 90), (6, ra V 91), (7, ra V 92), (8, ra V 93)] dL_law_85 (by decide) rfl ?_
  refine x_lv [2, 3, 4, 5, 6, 7, 8, 9, 10, 1, 0] [(0, .ref b), (1, ra V 0), (2, ra V 87), (3, ra V 88), (4, ra V 89), (5, ra V 90), (6, ra V 91), (7, ra V 92), (8, ra V 93), (9, .int (nI f0)), (10, .int (0 : Int32))] rfl ?_
  exact K u f0 hf0 hBD


set_option maxHeartbeats 4000000 in
set_option maxRecDepth 100000 in
theorem B_classes {p : Program} {l : Launch} {e : Env} {s : State} {m : MethodId} {args : Array Value} {below : List Frame} {meth : Method} {c : Code} {V : xV} {Q : State → Prop} {b L : Nat} {xs : Nat → Int32} (C : XC p s m args c cL_build 20 RL wsL_build V [] (inR V)) (hV : xInj V) (hX : va_X b L xs s s.heap) (hbl : b < s.heap.size) (hbV : ¬ inR V b) (hL : L < 2 ^ 31) {σ : xS} {nr : Nat} (hnr : nr ≤ 3) (h : BI nr 0 0 0 0 0 σ) (h0 : σ 87 0 = nI nr) (K : ∀ (u : xS) (nc : Nat), 0 < nc → nc ≤ 4 → BI nr nc 0 0 0 0 u → u 87 0 = nI nr → u 87 1 = nI nc → X p l e (headSpec wsL_build rmB).room s m args below meth c V [] (inR V) 20 0 0 Q u 211 [(0, ra V 0), (1, .ref b), (2, .int (0 : Int32)), (3, ra V 87), (4, ra V 88), (5, ra V 89), (6, ra V 90), (7, ra V 91), (8, ra V 92), (9, ra V 93)] []) : X p l e (headSpec wsL_build rmB).room s m args below meth c V [] (inR V) 20 0 0 Q σ 129 [(0, ra V 0), (1, .ref b), (2, .int (0 : Int32)), (3, ra V 87), (4, ra V 88), (5, ra V 89), (6, ra V 90), (7, ra V 91), (8, ra V 92), (9, ra V 93)] [] := by
  have hbA : ¬ inR V b := hbV
  refine x_aload_n C dL_build_129 rfl 3 rfl ?_
  refine x_iconst C (1 : Int32) (by decide) dL_build_130 ?_
  refine x_iconst C (1 : Int32) (by decide) dL_build_131 ?_
  refine x_arefn C dL_build_132 rfl 1 rfl ?_
  refine x_iload_n C dL_build_133 rfl 2 rfl ?_
  refine x_iconst C (1 : Int32) (by decide) dL_build_134 ?_
  refine x_iadd C dL_build_135 ?_
  refine x_v (y := (1 : Int32)) (by decide) ?_
  refine x_callSS C hX hbl hbA [.ref b, .int (1 : Int32)] (c_L_cell l V hV σ b L xs hbV hL (1 : Int32) (by decide)) (va_cwS 2 C.2.2.2.2.1 gL_build_L_cell rfl rfl rfl (by decide +kernel) ⟨Nat.le_of_ble_eq_true rfl, Nat.le_of_ble_eq_true rfl⟩) rfl rfl (Nat.le_of_ble_eq_true rfl) dL_build_136 ⟨Nat.le_of_ble_eq_true rfl, Nat.le_of_ble_eq_true rfl⟩ (x_kI ?_)
  refine x_iconst C (4 : Int32) (by decide) dL_build_139 ?_
  refine x_callS C [.int (cellI L xs (1 : Int32)), .int (4 : Int32)] (c_L_below l V hV σ (cellI L xs (1 : Int32)) (4 : Int32) (by decide)) (va_cwS 2 C.2.2.2.2.1 gL_build_L_below rfl rfl rfl (by decide +kernel) ⟨Nat.le_of_ble_eq_true rfl, Nat.le_of_ble_eq_true rfl⟩) rfl rfl (Nat.le_of_ble_eq_true rfl) dL_build_140 ⟨Nat.le_of_ble_eq_true rfl, Nat.le_of_ble_eq_true rfl⟩ (x_kI ?_)
  obtain ⟨n1, hn1, en1⟩ := below_at (cellI L xs (1 : Int32)) (n := 4) (by decide) (by decide)
  refine x_v (y := nI n1) en1 ?_
  refine x_iadd C dL_build_143 ?_
  refine x_v (y := nI (1 + n1)) (nI_add 1 n1) ?_
  obtain ⟨nc, hnc1, hnc4, enc⟩ : ∃ nc, 0 < nc ∧ nc ≤ 4 ∧ 1 + n1 = nc := ⟨_, by omega, by omega, rfl⟩
  rw [enc]
  refine x_iast C sh_87 (vp_in_nI (n := 1) (by omega) (by decide)) dL_build_144 ?_
  rw [show (1 : Int32).toNatClampNeg = 1 from nI_clamp (n := 1) (by omega)]
  refine x_iconst C (0 : Int32) (by decide) dL_build_145 ?_
  refine x_istore C [(10, .int (0 : Int32)), (0, ra V 0), (1, .ref b), (2, .int (0 : Int32)), (3, ra V 87), (4, ra V 88), (5, ra V 89), (6, ra V 90), (7, ra V 91), (8, ra V 92), (9, ra V 93)] dL_build_146 (by decide) rfl ?_
  refine x_lv [1, 2, 3, 4, 5, 6, 7, 8, 9, 10, 0] [(0, ra V 0), (1, .ref b), (2, .int (0 : Int32)), (3, ra V 87), (4, ra V 88), (5, ra V 89), (6, ra V 90), (7, ra V 91), (8, ra V 92), (9, ra V 93), (10, .int (0 : Int32))] rfl ?_
  refine x_loop (fun μ τ lv_ => ∃ (k : Nat), μ = nc - k ∧ lv_ = [(0, ra V 0), (1, .ref b), (2, .int (0 : Int32)), (3, ra V 87), (4, ra V 88), (5, ra V 89), (6, ra V 90), (7, ra V 91), (8, ra V 92), (9, ra V 93), (10, .int (nI k))] ∧ k ≤ nc ∧ BI nr k 0 0 0 0 τ ∧ τ 87 0 = nI nr ∧ τ 87 1 = nI nc) ⟨_, ⟨0, rfl, rfl, Nat.zero_le _, h.cnt (fun r hr => xw_ne (r := 87) _ _ _ (fun z => hr (by rw [z]; exact List.mem_cons_self))), by rw [xw_other (by decide)]; exact h0, xw_at _ _ _ _⟩⟩ ?_
  rintro μ148 τ _ ⟨k, hμ148, rfl, hc148_0, hc148_1, hc148_2, hc148_3⟩ ih148
  refine x_iload C dL_build_148 10 rfl ?_
  refine x_aload_n C dL_build_150 rfl 3 rfl ?_
  refine x_iconst C (1 : Int32) (by decide) dL_build_151 ?_
  refine x_iald C sh_87 (vp_in_nI (n := 1) (by omega) (by decide)) dL_build_152 ?_
  rw [show (1 : Int32).toNatClampNeg = 1 from nI_clamp (n := 1) (by omega)]
  refine x_v (y := nI nc) (hc148_3) ?_
  refine x_icmp_ge C 211 dL_build_153 rfl (fun h1 => ?_) (fun h1 => ?_)
  · refine x_lv [0, 1, 2, 3, 4, 5, 6, 7, 8, 9] [(0, ra V 0), (1, .ref b), (2, .int (0 : Int32)), (3, ra V 87), (4, ra V 88), (5, ra V 89), (6, ra V 90), (7, ra V 91), (8, ra V 92), (9, ra V 93)] rfl ?_
    have hkn : k = nc := Nat.le_antisymm hc148_0 (Nat.le_of_not_lt (fun hq => nI_ge hq (by omega) h1))
    subst hkn
    exact K _ k hnc1 hnc4 hc148_1 hc148_2 hc148_3
  · have hkn : k < nc := Nat.lt_of_not_le (fun hq => h1 (nI_le hq (by omega)))
    refine x_aload C dL_build_156 5 rfl ?_
    refine x_iload C dL_build_158 10 rfl ?_
    refine x_arefn C dL_build_160 rfl 1 rfl ?_
    refine x_iload_n C dL_build_161 rfl 2 rfl ?_
    refine x_iconst C (1 : Int32) (by decide) dL_build_162 ?_
    refine x_iadd C dL_build_163 ?_
    refine x_v (y := (1 : Int32)) (by decide) ?_
    refine x_callSS C hX hbl hbA [.ref b, .int (1 : Int32)] (c_L_cell l V hV τ b L xs hbV hL (1 : Int32) (by decide)) (va_cwS 2 C.2.2.2.2.1 gL_build_L_cell rfl rfl rfl (by decide +kernel) ⟨Nat.le_of_ble_eq_true rfl, Nat.le_of_ble_eq_true rfl⟩) rfl rfl (Nat.le_of_ble_eq_true rfl) dL_build_164 ⟨Nat.le_of_ble_eq_true rfl, Nat.le_of_ble_eq_true rfl⟩ (x_kI ?_)
    refine x_iconst C (4 : Int32) (by decide) dL_build_167 ?_
    refine x_iconst C (5 : Int32) (by decide) dL_build_168 ?_
    refine x_iload C dL_build_169 10 rfl ?_
    refine x_imul C dL_build_171 ?_
    refine x_v (y := nI (5 * k)) (pk_mul 5 k) ?_
    refine x_iadd C dL_build_172 ?_
    refine x_v (y := nI (4 + (5 * k))) (nI_add 4 (5 * k)) ?_
    refine x_ishr C dL_build_173 ?_
    refine x_callS C [.int ((cellI L xs (1 : Int32)) >>> ((nI (4 + (5 * k))) &&& 31))] (c_L_condition l V hV τ ((cellI L xs (1 : Int32)) >>> ((nI (4 + (5 * k))) &&& 31))) (va_cwS 1 C.2.2.2.2.1 gL_build_L_condition rfl rfl rfl (by decide +kernel) ⟨Nat.le_of_ble_eq_true rfl, Nat.le_of_ble_eq_true rfl⟩) rfl rfl (Nat.le_of_ble_eq_true rfl) dL_build_174 ⟨Nat.le_of_ble_eq_true rfl, Nat.le_of_ble_eq_true rfl⟩ (x_kI ?_)
    obtain ⟨x, hx, ex⟩ : ∃ z_, GC z_ ∧ condI ((cellI L xs (1 : Int32)) >>> ((nI (4 + (5 * k))) &&& 31)) = z_ := ⟨_, cond_GC _, rfl⟩
    refine x_v (y := x) ex ?_
    refine x_iast C sh_89 (vp_in_nI (n := k) (by omega) (by decide)) dL_build_177 ?_
    rw [show (nI k).toNatClampNeg = k from nI_clamp (n := k) (by omega)]
    refine x_aload_n C dL_build_178 rfl 0 rfl ?_
    refine x_aload C dL_build_179 5 rfl ?_
    refine x_iload C dL_build_181 10 rfl ?_
    refine x_iald C sh_89 (vp_in_nI (n := k) (by omega) (by decide)) dL_build_183 ?_
    rw [show (nI k).toNatClampNeg = k from nI_clamp (n := k) (by omega)]
    refine x_v (y := x) (xw_at _ _ _ _) ?_
    refine x_bipush C (16 : Int32) (by decide) dL_build_184 ?_
    refine x_idiv C (by decide) dL_build_186 ?_
    refine x_aload C dL_build_187 5 rfl ?_
    refine x_iload C dL_build_189 10 rfl ?_
    refine x_iald C sh_89 (vp_in_nI (n := k) (by omega) (by decide)) dL_build_191 ?_
    rw [show (nI k).toNatClampNeg = k from nI_clamp (n := k) (by omega)]
    refine x_v (y := x) (xw_at _ _ _ _) ?_
    refine x_bipush C (16 : Int32) (by decide) dL_build_192 ?_
    refine x_irem C (by decide) dL_build_194 ?_
    refine x_v (y := offO x) (rfl) ?_
    have hB2 := BI.cls (σ := τ) hc148_1 (by omega) hx
    refine x_callV C sh_0 (by decide) rfl [.int (x / (16 : Int32)), .int (offO x)] (c_X8_addClass l V hV (xw τ 89 k x) (x / (16 : Int32)) (offO x) (kClass_0 (n := k) (by rw [xw_ne (r := 89) (a := 201) _ _ _ (by decide)]; exact hc148_1.2.1.1.1) (by omega) hx)) (cwV 2 C.2.2.2.2.1 gL_build_X8_addClass rfl rfl rfl (by decide +kernel) ⟨Nat.le_of_ble_eq_true rfl, Nat.le_of_ble_eq_true rfl⟩) rfl rfl (Nat.le_of_ble_eq_true rfl) dL_build_195 ⟨Nat.le_of_ble_eq_true rfl, Nat.le_of_ble_eq_true rfl⟩ (x_kI ?_)
    refine x_v (y := nI k) (by rw [xw_ne (r := 89) (a := 201) _ _ _ (by decide)]; exact hc148_1.2.1.1.1) ?_
    refine x_iload C dL_build_198 10 rfl ?_
    refine x_icmp_eq C 205 dL_build_200 rfl (fun h2 => ?_) (fun h2 => absurd h2 (fun q => q rfl))
    refine x_iinc C (q := 10) ((nI k) + (1 : Int32)) [(10, .int ((nI k) + (1 : Int32))), (0, ra V 0), (1, .ref b), (2, .int (0 : Int32)), (3, ra V 87), (4, ra V 88), (5, ra V 89), (6, ra V 90), (7, ra V 91), (8, ra V 92), (9, ra V 93)] dL_build_205 rfl rfl (by decide) rfl ?_
    refine x_goto C 148 dL_build_208 rfl ?_
    refine x_lv [1, 2, 3, 4, 5, 6, 7, 8, 9, 10, 0] [(0, ra V 0), (1, .ref b), (2, .int (0 : Int32)), (3, ra V 87), (4, ra V 88), (5, ra V 89), (6, ra V 90), (7, ra V 91), (8, ra V 92), (9, ra V 93), (10, .int ((nI k) + (1 : Int32)))] rfl ?_
    exact ih148 _ _ _ (by omega) ⟨k + 1, rfl, by rw [nI_succ], (by omega), hB2, by rw [Rc_dif _ _ _ 87 (by decide), xw_ne (r := 89) (a := 87) _ _ _ (by decide)]; exact hc148_2, by rw [Rc_dif _ _ _ 87 (by decide), xw_ne (r := 89) (a := 87) _ _ _ (by decide)]; exact hc148_3⟩


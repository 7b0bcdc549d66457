/-! below, condition: what they can answer. -/
theorem and_pos (v : Int32) : ∃ m, m < 2 ^ 31 ∧ v &&& 2147483647 = nI m := by
  refine ⟨(v &&& 2147483647).toBitVec.toNat, ?_, ?_⟩
  · have h : (v &&& 2147483647).toBitVec.toNat = v.toBitVec.toNat &&& 2147483647 := by rw [Int32.toBitVec_and, BitVec.toNat_and]; rfl
    rw [h]
    have := Nat.and_le_right (n := v.toBitVec.toNat) (m := 2147483647)
    omega
  · apply Int32.toBitVec_inj.mp
    show _ = BitVec.ofNat 32 _
    rw [BitVec.ofNat_toNat, BitVec.setWidth_eq]
theorem below_at (v : Int32) {n : Nat} (h0 : 0 < n) (hn : n < 2 ^ 31) : ∃ j, j < n ∧ belowI v (nI n) = nI j := by
  obtain ⟨m, hm, e⟩ := and_pos v
  refine ⟨m % n, Nat.mod_lt _ h0, ?_⟩
  unfold belowI
  rw [e]
  exact pk_rem hm h0 hn
theorem below_vp (v : Int32) {n : Nat} (h0 : 0 < n) (hn : n < 2 ^ 31) : vp_in (belowI v (nI n)) n := by
  obtain ⟨j, hj, e⟩ := below_at v h0 hn
  rw [e]; exact vp_in_nI hj hn
def l5 : List Int32 := [0, 1, 2, 4, 8]
theorem bit_l5 (v : Int32) : (1 : Int32) <<< (belowI v 4 &&& 31) ∈ l5 := by
  obtain ⟨j, hj, e⟩ := below_at v (n := 4) (by decide) (by decide)
  have e' : belowI v 4 = nI j := e
  rw [e']
  exact (by decide : ∀ j, j < 4 → (1 : Int32) <<< (nI j &&& 31) ∈ l5) j hj
theorem on_l5 (x : Int32) : onI x ∈ l5 := by
  unfold onI
  split
  · exact bit_l5 _
  · decide
theorem off_l5 (x : Int32) : offI x ∈ l5 := by
  unfold offI
  split
  · exact bit_l5 _
  · decide
theorem cond_ok : ∀ a, a ∈ l5 → ∀ b, b ∈ l5 → condB (((16 : Int32) * a + (if a = b then 0 else b)) / 16) (offO ((16 : Int32) * a + (if a = b then 0 else b))) = true := by decide +kernel
theorem cond_GC (x : Int32) : GC (condI x) := cond_ok _ (on_l5 x) _ (off_l5 x)
/-! The calls that don't throw. -/
theorem lt_n {x : Int32} {n : Nat} (k : Nat) (h : x = nI n) (hn : n < k) (hk : k < 2 ^ 31) : x < nI k := by rw [h]; exact nI_lt hn hk
theorem feat_1 {f : Int32} (h : vp_in f 4) : featB f = true := by
  obtain ⟨j, hj, rfl⟩ := vp_ex h
  exact (by decide : ∀ j, j < 4 → featB (nI j) = true) j hj
theorem name_1 {f : Int32} (h : vp_in f 10) : nameB f = true := by
  obtain ⟨j, hj, rfl⟩ := vp_ex h
  exact (by decide : ∀ j, j < 10 → nameB (nI j) = true) j hj
theorem has_1 {σ : xS} {q n : Nat} {i : Int32} (h : σ q 0 = nI n) (hn : n < 2 ^ 31) (hi : vp_in i n) : cHas σ q i = true := by
  obtain ⟨j, hj, rfl⟩ := vp_ex hi
  unfold cHas
  rw [h, decide_eq_true (nI_pos (by omega)), decide_eq_true (nI_ge hj hn)]; rfl
theorem hasT_1 {σ : xS} {n : Nat} {t : Int32} (h : σ 201 0 = nI n) (hn : n < 2 ^ 31) (ht : tyn n t) : hasT σ t = true := by
  unfold hasT
  rcases ht with rfl | ht
  · rfl
  · rw [has_1 h hn ht, Bool.or_true]
theorem tyn_m1 {n : Nat} {t : Int32} (hn : n < 2 ^ 31) (h : tyn n t) : ¬ t = -1 := by
  rcases h with rfl | h
  · decide
  · obtain ⟨j, hj, rfl⟩ := vp_ex h; exact nI_neg1 (by omega)
theorem hasPs_1 {σ : xS} {n : Nat} {f g : Int32} (h : σ 201 0 = nI n) (hn : n < 2 ^ 31) (hf : f = -1 ∨ tyn n f) (hg : g = -1 ∨ tyn n g) (hfg : f = -1 → g = -1) : hasPs σ f g = true := by
  unfold hasPs
  rcases hf with rfl | hf
  · rw [if_pos rfl, hfg rfl]; rfl
  · rw [if_neg (tyn_m1 hn hf), hasT_1 h hn hf]
    rcases hg with rfl | hg
    · rfl
    · rw [hasT_1 h hn hg, Bool.or_true]; rfl
theorem kRule_0 {σ : xS} {n : Nat} {k f g : Int32} (h : σ 200 0 = nI n) (hn : n < 8) (hk : k = 0 ∨ k = 1) (hf : vp_in f 4) (hg : vp_in g 4) : kRule σ k f g = 0 := by
  unfold kRule
  rw [if_pos ⟨hk, feat_1 hf, feat_1 hg⟩]
  exact if_pos (lt_n 8 h hn (by decide))
theorem kClass_0 {σ : xS} {n : Nat} {on off : Int32} (h : σ 201 0 = nI n) (hn : n < 8) (hc : condB on off = true) : kClass σ on off = 0 := by
  unfold kClass
  rw [if_pos hc]
  exact if_pos (lt_n 8 h hn (by decide))
theorem kLink_0 {σ : xS} {c n : Nat} {o q on off : Int32} (h1 : σ 201 0 = nI c) (hc1 : c < 2 ^ 31) (h : σ 202 0 = nI n) (hn : n < 12) (ho : vp_in o c) (hq : vp_in q c) (hc : condB on off = true) : kLink σ o q on off = 0 := by
  unfold kLink
  rw [if_pos ⟨has_1 h1 hc1 ho, has_1 h1 hc1 hq⟩, if_pos hc]
  exact if_pos (lt_n 12 h hn (by decide))
theorem kField_0 {σ : xS} {c n : Nat} {o nn t on off : Int32} (h1 : σ 201 0 = nI c) (hc1 : c < 2 ^ 31) (h : σ 203 0 = nI n) (hn : n < 24) (ho : vp_in o c) (hN : vp_in nn 10) (ht : tyn c t) (hc : condB on off = true) : kField σ o nn t on off = 0 := by
  unfold kField
  rw [if_pos (has_1 h1 hc1 ho), if_pos ⟨name_1 hN, hasT_1 h1 hc1 ht, hc⟩]
  exact if_pos (lt_n 24 h hn (by decide))
theorem kMeth_0 {σ : xS} {c n : Nat} {o nn t f g on off : Int32} (h1 : σ 201 0 = nI c) (hc1 : c < 2 ^ 31) (h : σ 203 0 = nI n) (hn : n < 24) (ho : vp_in o c) (hN : vp_in nn 10) (ht : tyn c t) (hf : f = -1 ∨ tyn c f) (hg : g = -1 ∨ tyn c g) (hfg : f = -1 → g = -1) (hc : condB on off = true) : kMeth σ o nn t f g on off = 0 := by
  unfold kMeth
  rw [if_pos (has_1 h1 hc1 ho), if_pos ⟨name_1 hN, hasT_1 h1 hc1 ht, hasPs_1 h1 hc1 hf hg hfg, hc⟩]
  exact if_pos (lt_n 24 h hn (by decide))
theorem isM_1 {σ : xS} {cf : Int32 → Int32} {n m : Nat} (h : Rm cf n σ) (hn : n ≤ 7) (hm : m < n) (h1 : σ 91 (7 * m + 3) = 1) : mIsM σ (nI m) = true := by
  unfold mIsM
  rw [has_1 h.1 (by omega) (vp_in_nI hm (by omega)), vAt_n (by omega) (by decide), h.2.1, rwf_at hm, h1]; rfl
theorem kNew_0 {σ : xS} {c n : Nat} {m x : Int32} (hm : mIsM σ m = true) (h1 : σ 201 0 = nI c) (hc1 : c < 2 ^ 31) (hx : vp_in x c) (h : σ 205 0 = nI n) (hn : n < 50) : kNew σ m x = 0 := by
  unfold kNew
  rw [if_pos ⟨hm, has_1 h1 hc1 hx⟩]
  exact if_pos (lt_n 50 h hn (by decide))
theorem kPlain_0 {σ : xS} {n : Nat} {m : Int32} (hm : mIsM σ m = true) (h : σ 205 0 = nI n) (hn : n < 50) : kPlain σ m = 0 := by
  unfold kPlain
  rw [if_pos hm]
  exact if_pos (lt_n 50 h hn (by decide))
theorem kArg_0 {σ : xS} {n : Nat} {m i : Int32} (hm : mIsM σ m = true) (hi : ¬ mPar σ m i = -1) (h : σ 205 0 = nI n) (hn : n < 50) : kArg σ m i = 0 := by
  unfold kArg
  rw [if_pos ⟨hm, hi⟩]
  exact if_pos (lt_n 50 h hn (by decide))
theorem par_1 {σ : xS} {cf : Int32 → Int32} {n m : Nat} {i : Int32} (h : Rm cf n σ) (hn : n ≤ 7) (hm : m < n) (hi : (i = 0 ∧ ¬ σ 91 (7 * m + 4) = -1) ∨ (i = 1 ∧ ¬ σ 91 (7 * m + 5) = -1)) : ¬ mPar σ (nI m) i = -1 := by
  obtain ⟨-, -, -, -, -, h44, h46, -⟩ := h
  unfold mPar
  rcases hi with ⟨rfl, q⟩ | ⟨rfl, q⟩
  · rw [if_pos rfl, vAt_n (by omega) (by decide), h44, rwf_at hm]; exact q
  · rw [if_neg (by decide), if_pos rfl, vAt_n (by omega) (by decide), h46, rwf_at hm]; exact q
theorem kFOf_0 {σ : xS} {n : Nat} {x nn : Int32} (h : σ 205 0 = nI n) (hn : n < 50) (hx : vp_in x n) (hN : vp_in nn 10) : kFOf σ x nn = 0 := by
  unfold kFOf
  rw [if_pos (has_1 h (by omega) hx), if_pos (name_1 hN)]
  exact if_pos (lt_n 50 h hn (by decide))
theorem orN_1 {σ : xS} {n : Nat} {x : Int32} (h : σ 205 0 = nI n) (hn : n < 50) (hx : x = -1 ∨ vp_in x n) : eOrN σ x = true := by
  unfold eOrN
  rcases hx with rfl | hx
  · rfl
  · rw [has_1 h (by omega) hx, Bool.or_true]
theorem tog_1 {σ : xS} {x a : Int32} (h : a = -1 ∨ vAt 50 (σ 51) a = vAt 50 (σ 51) x) : eTog σ x a = true := by
  unfold eTog
  rcases h with rfl | h
  · rfl
  · rw [decide_eq_true h, Bool.or_true]
theorem kCall_0 {σ : xS} {n : Nat} {x nn f g : Int32} (h : σ 205 0 = nI n) (hn : n < 50) (hx : vp_in x n) (hN : vp_in nn 10) (hf : f = -1 ∨ vp_in f n) (hg : g = -1 ∨ vp_in g n) (hfg : f = -1 → g = -1) (tf : f = -1 ∨ vAt 50 (σ 51) f = vAt 50 (σ 51) x) (tg : g = -1 ∨ vAt 50 (σ 51) g = vAt 50 (σ 51) x) : kCall σ x nn f g = 0 := by
  unfold kCall
  rw [if_pos ⟨has_1 h (by omega) hx, orN_1 h hn hf, orN_1 h hn hg⟩, if_pos ⟨name_1 hN, fun q => q.2 (hfg q.1), tog_1 tf, tog_1 tg⟩]
  exact if_pos (lt_n 50 h hn (by decide))
theorem kRes_0 {σ : xS} {e n : Nat} {x on off : Int32} (h1 : σ 205 0 = nI e) (he : e < 2 ^ 31) (h : σ 204 0 = nI n) (hn : n < 16) (hx : vp_in x e) (hc : condB on off = true) : kRes σ x on off = 0 := by
  unfold kRes
  rw [if_pos (has_1 h1 he hx), if_pos hc]
  exact if_pos (lt_n 16 h hn (by decide))
theorem kTyp_0 {σ : xS} {n c : Nat} {x : Int32} (h : σ 205 0 = nI n) (hn : n < 50) (hx : vp_in x n) (hc : c < 16) (hp : bt (allI σ) c = true) : kTyp σ x (nI c) = 0 := by
  unfold kTyp isPr
  rw [if_pos (has_1 h (by omega) hx), isIn_bt (by omega), if_pos hp]
theorem kEIn_0 {σ : xS} {c : Nat} (hc : c < 16) (hp : bt (allI σ) c = true) : kEIn σ (nI c) = 0 := by
  unfold kEIn isPr
  rw [isIn_bt (by omega), if_pos hp]
theorem kErr_0 {σ : xS} {k : Nat} {w : Int32} (hk : k < zc (Er σ) 600) (hw : w = 0 ∨ w = 1 ∨ w = 2) : kErr σ (nI k) w = 0 := by
  have := zc_le (Er σ) 600
  unfold kErr
  rw [insA_207, if_pos ⟨nI_pos (by omega), nI_ge hk (by omega), by rcases hw with rfl | rfl | rfl <;> decide, by rcases hw with rfl | rfl | rfl <;> decide⟩]
theorem okZ_n {σ : xS} {q n : Nat} (h : σ q 0 = nI n) (hn : n < 2 ^ 31) : okZ σ q := by
  unfold okZ; rw [h, nI_clamp hn]
/-! The invariant of build. -/
def BI (nr nc nl nm ne nx : Nat) (σ : xS) : Prop := (Rr nr σ ∧ Ar nr σ) ∧ (Rc cfgO nc σ ∧ Ac nc σ) ∧ (Rl cfgO nl σ ∧ Al nc nl σ) ∧ (Rm cfgO nm σ ∧ Am nc nm σ) ∧ (Re ne σ ∧ Ae nc nm ne σ) ∧ (Rx cfgO nx σ ∧ Ax ne nx σ)
theorem BI.z : BI 0 0 0 0 0 0 xS0 := by
  have f : ∀ (r : Nat) (g : Nat → Int32), xS0 r = rwf 0 g := fun r g => (rwf_0 g).symm
  have n0 : ∀ (P : Nat → Prop) (k : Nat), k < 0 → P k := fun P k hk => absurd hk (Nat.not_lt_zero k)
  exact ⟨⟨⟨rfl, fun k hk => absurd hk (Nat.not_lt_zero k)⟩, Nat.zero_le _, fun k hk => absurd hk (Nat.not_lt_zero k)⟩, ⟨⟨rfl, f _ _⟩, Nat.zero_le _, fun k hk => absurd hk (Nat.not_lt_zero k)⟩, ⟨⟨rfl, f _ _, f _ _, f _ _⟩, Nat.zero_le _, fun k hk => absurd hk (Nat.not_lt_zero k)⟩, ⟨⟨rfl, f _ _, f _ _, f _ _, f _ _, f _ _, f _ _, f _ _⟩, Nat.zero_le _, fun k hk => absurd hk (Nat.not_lt_zero k)⟩, ⟨⟨rfl, f _ _, f _ _, f _ _, f _ _, f _ _, f _ _⟩, Nat.zero_le _, fun k hk => absurd hk (Nat.not_lt_zero k)⟩, ⟨⟨rfl, f _ _, f _ _⟩, Nat.zero_le _, fun k hk => absurd hk (Nat.not_lt_zero k)⟩⟩
theorem BI.cnt {nr nc nl nm ne nx : Nat} {σ σ' : xS} (h : BI nr nc nl nm ne nx σ) (dd : ∀ r, r ∉ [87] → σ' r = σ r) : BI nr nc nl nm ne nx σ' := ⟨⟨h.1.1.of (fun r hr => dd r ((by decide : ∀ r, r ∈ [200, 3, 5, 7] → r ∉ [87]) r hr)) (El.same (dd 88 (by decide))), h.1.2.of (El.same (dd 88 (by decide)))⟩, ⟨h.2.1.1.of (fun r hr => dd r ((by decide : ∀ r, r ∈ [201, 15] → r ∉ [87]) r hr)) (El.same (dd 89 (by decide))), h.2.1.2.of (El.same (dd 89 (by decide)))⟩, ⟨h.2.2.1.1.of (fun r hr => dd r ((by decide : ∀ r, r ∈ [202, 24, 26, 22] → r ∉ [87]) r hr)) (El.same (dd 90 (by decide))), h.2.2.1.2.of (El.same (dd 90 (by decide)))⟩, ⟨h.2.2.2.1.1.of (fun r hr => dd r ((by decide : ∀ r, r ∈ [203, 36, 38, 40, 42, 44, 46, 34] → r ∉ [87]) r hr)) (El.same (dd 91 (by decide))), h.2.2.2.1.2.of (El.same (dd 91 (by decide)))⟩, ⟨h.2.2.2.2.1.1.of (fun r hr => dd r ((by decide : ∀ r, r ∈ [205, 49, 51, 53, 55, 57, 59] → r ∉ [87]) r hr)) (El.same (dd 92 (by decide))), h.2.2.2.2.1.2.of (El.same (dd 91 (by decide))) (El.same (dd 92 (by decide)))⟩, ⟨h.2.2.2.2.2.1.of (fun r hr => dd r ((by decide : ∀ r, r ∈ [204, 68, 66] → r ∉ [87]) r hr)) (El.same (dd 93 (by decide))), h.2.2.2.2.2.2.of (El.same (dd 93 (by decide)))⟩⟩
theorem BI.rule {n : Nat} {a b c : Int32} {σ : xS} (h : BI n 0 0 0 0 0 σ) (hn : n < 4) (ha : a = 0 ∨ a = 1) (hb : vp_in b 4) (hc : vp_in c 4) : BI (n + 1) 0 0 0 0 0 (rApp (xw (xw (xw σ 88 (3 * n) a) 88 (3 * n + 1) b) 88 (3 * n + 2) c) a b c) := by
  have d1 : ∀ r, r ≠ 88 → (xw (xw (xw σ 88 (3 * n) a) 88 (3 * n + 1) b) 88 (3 * n + 2) c) r = σ r := fun r hr => by rw [xw_ne (r := 88) _ _ _ hr, xw_ne (r := 88) _ _ _ hr, xw_ne (r := 88) _ _ _ hr]
  have e1 : El (3 * n) ((xw (xw (xw σ 88 (3 * n) a) 88 (3 * n + 1) b) 88 (3 * n + 2) c) 88) (σ 88) := (El.xw (by omega)).tr ((El.xw (by omega)).tr (El.xw (by omega)))
  have a0 : (xw (xw (xw σ 88 (3 * n) a) 88 (3 * n + 1) b) 88 (3 * n + 2) c) 88 (3 * n) = a := by simp [xw]
  have a1 : (xw (xw (xw σ 88 (3 * n) a) 88 (3 * n + 1) b) 88 (3 * n + 2) c) 88 (3 * n + 1) = b := by simp [xw]
  have a2 : (xw (xw (xw σ 88 (3 * n) a) 88 (3 * n + 1) b) 88 (3 * n + 2) c) 88 (3 * n + 2) = c := by simp [xw]
  generalize xw (xw (xw σ 88 (3 * n) a) 88 (3 * n + 1) b) 88 (3 * n + 2) c = σ1 at d1 e1 a0 a1 a2 ⊢
  have d2 : ∀ r, r ∉ [200, 3, 5, 7] → (rApp σ1 a b c) r = σ1 r := rApp_dif σ1 a b c
  have dd : ∀ r, r ∉ [88, 200, 3, 5, 7] → (rApp σ1 a b c) r = σ r := fun r hr => by rw [d2 r (fun z => hr (List.mem_cons_of_mem _ z)), d1 r (fun z => hr (by rw [z]; exact List.mem_cons_self))]
  have hR := h.1.1.of (σ' := σ1) (fun r hr => d1 r ((by decide : ∀ r, r ∈ [200, 3, 5, 7] → r ≠ 88) r hr)) e1
  have hA : Ar (n + 1) σ1 := ⟨by omega, fun k hk => by
    by_cases q : k = n
    · subst q; rw [a0, a1, a2]; exact ⟨ha, hb, hc⟩
    · exact (h.1.2.of e1).2 k (by omega)⟩
  have eA : El (3 * (n + 1)) ((rApp σ1 a b c) 88) (σ1 88) := El.same (d2 88 (by decide))
  exact ⟨⟨Rr.step hR (by omega) a0.symm a1.symm a2.symm, hA.of eA⟩, ⟨h.2.1.1.of (fun r hr => dd r ((by decide : ∀ r, r ∈ [201, 15] → r ∉ [88, 200, 3, 5, 7]) r hr)) (El.same (dd 89 (by decide))), h.2.1.2.of (El.same (dd 89 (by decide)))⟩, ⟨h.2.2.1.1.of (fun r hr => dd r ((by decide : ∀ r, r ∈ [202, 24, 26, 22] → r ∉ [88, 200, 3, 5, 7]) r hr)) (El.same (dd 90 (by decide))), h.2.2.1.2.of (El.same (dd 90 (by decide)))⟩, ⟨h.2.2.2.1.1.of (fun r hr => dd r ((by decide : ∀ r, r ∈ [203, 36, 38, 40, 42, 44, 46, 34] → r ∉ [88, 200, 3, 5, 7]) r hr)) (El.same (dd 91 (by decide))), h.2.2.2.1.2.of (El.same (dd 91 (by decide)))⟩, ⟨h.2.2.2.2.1.1.of (fun r hr => dd r ((by decide : ∀ r, r ∈ [205, 49, 51, 53, 55, 57, 59] → r ∉ [88, 200, 3, 5, 7]) r hr)) (El.same (dd 92 (by decide))), h.2.2.2.2.1.2.of (El.same (dd 91 (by decide))) (El.same (dd 92 (by decide)))⟩, ⟨h.2.2.2.2.2.1.of (fun r hr => dd r ((by decide : ∀ r, r ∈ [204, 68, 66] → r ∉ [88, 200, 3, 5, 7]) r hr)) (El.same (dd 93 (by decide))), h.2.2.2.2.2.2.of (El.same (dd 93 (by decide)))⟩⟩
theorem BI.cls {n : Nat} {x : Int32} {nr : Nat} {σ : xS} (h : BI nr n 0 0 0 0 σ) (hn : n < 4) (hx : GC x) : BI nr (n + 1) 0 0 0 0 (cApp (xw σ 89 (n) x) 9 8 201 (x / 16) (offO x)) := by
  have d1 : ∀ r, r ≠ 89 → (xw σ 89 (n) x) r = σ r := fun r hr => by rw [xw_ne (r := 89) _ _ _ hr]
  have e1 : El (n) ((xw σ 89 (n) x) 89) (σ 89) := El.xw (by omega)
  have a0 : (xw σ 89 (n) x) 89 (n) = x := by simp [xw]
  generalize xw σ 89 (n) x = σ1 at d1 e1 a0 ⊢
  have d2 : ∀ r, r ∉ [11, 13, 15, 201] → (cApp σ1 9 8 201 (x / 16) (offO x)) r = σ1 r := Rc_dif σ1 (x / 16) (offO x)
  have dd : ∀ r, r ∉ [89, 11, 13, 15, 201] → (cApp σ1 9 8 201 (x / 16) (offO x)) r = σ r := fun r hr => by rw [d2 r (fun z => hr (List.mem_cons_of_mem _ z)), d1 r (fun z => hr (by rw [z]; exact List.mem_cons_self))]
  have hR := h.2.1.1.of (σ' := σ1) (fun r hr => d1 r ((by decide : ∀ r, r ∈ [201, 15] → r ≠ 89) r hr)) e1
  have hA : Ac (n + 1) σ1 := ⟨by omega, fun k hk => by
    by_cases q : k = n
    · subst q; rw [a0]; exact hx
    · exact (h.2.1.2.of e1).2 k (by omega)⟩
  have eA : El (n + 1) ((cApp σ1 9 8 201 (x / 16) (offO x)) 89) (σ1 89) := El.same (d2 89 (by decide))
  exact ⟨⟨h.1.1.of (fun r hr => dd r ((by decide : ∀ r, r ∈ [200, 3, 5, 7] → r ∉ [89, 11, 13, 15, 201]) r hr)) (El.same (dd 88 (by decide))), h.1.2.of (El.same (dd 88 (by decide)))⟩, ⟨Rc.step hR (by omega) (by rw [a0]; rfl), hA.of eA⟩, ⟨h.2.2.1.1.of (fun r hr => dd r ((by decide : ∀ r, r ∈ [202, 24, 26, 22] → r ∉ [89, 11, 13, 15, 201]) r hr)) (El.same (dd 90 (by decide))), ⟨Nat.zero_le _, fun k hk => absurd hk (Nat.not_lt_zero k)⟩⟩, ⟨h.2.2.2.1.1.of (fun r hr => dd r ((by decide : ∀ r, r ∈ [203, 36, 38, 40, 42, 44, 46, 34] → r ∉ [89, 11, 13, 15, 201]) r hr)) (El.same (dd 91 (by decide))), ⟨Nat.zero_le _, fun k hk => absurd hk (Nat.not_lt_zero k)⟩⟩, ⟨h.2.2.2.2.1.1.of (fun r hr => dd r ((by decide : ∀ r, r ∈ [205, 49, 51, 53, 55, 57, 59] → r ∉ [89, 11, 13, 15, 201]) r hr)) (El.same (dd 92 (by decide))), ⟨Nat.zero_le _, fun k hk => absurd hk (Nat.not_lt_zero k)⟩⟩, ⟨h.2.2.2.2.2.1.of (fun r hr => dd r ((by decide : ∀ r, r ∈ [204, 68, 66] → r ∉ [89, 11, 13, 15, 201]) r hr)) (El.same (dd 93 (by decide))), h.2.2.2.2.2.2.of (El.same (dd 93 (by decide)))⟩⟩
theorem BI.link {n : Nat} {a b x : Int32} {nr nc : Nat} {σ : xS} (h : BI nr nc n 0 0 0 σ) (hn : n < 4) (ha : vp_in a nc) (hb : vp_in b nc) (hx : GC x) : BI nr nc (n + 1) 0 0 0 (vPut (vPut (cApp (xw (xw (xw σ 90 (3 * n) a) 90 (3 * n + 1) b) 90 (3 * n + 2) x) 16 12 202 (x / 16) (offO x)) 24 12 ((xw (xw (xw σ 90 (3 * n) a) 90 (3 * n + 1) b) 90 (3 * n + 2) x) 202 0) a) 26 12 ((xw (xw (xw σ 90 (3 * n) a) 90 (3 * n + 1) b) 90 (3 * n + 2) x) 202 0) b) := by
  have d1 : ∀ r, r ≠ 90 → (xw (xw (xw σ 90 (3 * n) a) 90 (3 * n + 1) b) 90 (3 * n + 2) x) r = σ r := fun r hr => by rw [xw_ne (r := 90) _ _ _ hr, xw_ne (r := 90) _ _ _ hr, xw_ne (r := 90) _ _ _ hr]
  have e1 : El (3 * n) ((xw (xw (xw σ 90 (3 * n) a) 90 (3 * n + 1) b) 90 (3 * n + 2) x) 90) (σ 90) := (El.xw (by omega)).tr ((El.xw (by omega)).tr (El.xw (by omega)))
  have a0 : (xw (xw (xw σ 90 (3 * n) a) 90 (3 * n + 1) b) 90 (3 * n + 2) x) 90 (3 * n) = a := by simp [xw]
  have a1 : (xw (xw (xw σ 90 (3 * n) a) 90 (3 * n + 1) b) 90 (3 * n + 2) x) 90 (3 * n + 1) = b := by simp [xw]
  have a2 : (xw (xw (xw σ 90 (3 * n) a) 90 (3 * n + 1) b) 90 (3 * n + 2) x) 90 (3 * n + 2) = x := by simp [xw]
  generalize xw (xw (xw σ 90 (3 * n) a) 90 (3 * n + 1) b) 90 (3 * n + 2) x = σ1 at d1 e1 a0 a1 a2 ⊢
  have d2 : ∀ r, r ∉ [18, 20, 22, 24, 26, 202] → (vPut (vPut (cApp σ1 16 12 202 (x / 16) (offO x)) 24 12 (σ1 202 0) a) 26 12 (σ1 202 0) b) r = σ1 r := Rl_dif σ1 a b (x / 16) (offO x)
  have dd : ∀ r, r ∉ [90, 18, 20, 22, 24, 26, 202] → (vPut (vPut (cApp σ1 16 12 202 (x / 16) (offO x)) 24 12 (σ1 202 0) a) 26 12 (σ1 202 0) b) r = σ r := fun r hr => by rw [d2 r (fun z => hr (List.mem_cons_of_mem _ z)), d1 r (fun z => hr (by rw [z]; exact List.mem_cons_self))]
  have hR := h.2.2.1.1.of (σ' := σ1) (fun r hr => d1 r ((by decide : ∀ r, r ∈ [202, 24, 26, 22] → r ≠ 90) r hr)) e1
  have hA : Al nc (n + 1) σ1 := ⟨by omega, fun k hk => by
    by_cases q : k = n
    · subst q; rw [a0, a1, a2]; exact ⟨ha, hb, hx⟩
    · exact (h.2.2.1.2.of e1).2 k (by omega)⟩
  have eA : El (3 * (n + 1)) ((vPut (vPut (cApp σ1 16 12 202 (x / 16) (offO x)) 24 12 (σ1 202 0) a) 26 12 (σ1 202 0) b) 90) (σ1 90) := El.same (d2 90 (by decide))
  exact ⟨⟨h.1.1.of (fun r hr => dd r ((by decide : ∀ r, r ∈ [200, 3, 5, 7] → r ∉ [90, 18, 20, 22, 24, 26, 202]) r hr)) (El.same (dd 88 (by decide))), h.1.2.of (El.same (dd 88 (by decide)))⟩, ⟨h.2.1.1.of (fun r hr => dd r ((by decide : ∀ r, r ∈ [201, 15] → r ∉ [90, 18, 20, 22, 24, 26, 202]) r hr)) (El.same (dd 89 (by decide))), h.2.1.2.of (El.same (dd 89 (by decide)))⟩, ⟨Rl.step hR (by omega) a0.symm a1.symm (by rw [a2]; rfl), hA.of eA⟩, ⟨h.2.2.2.1.1.of (fun r hr => dd r ((by decide : ∀ r, r ∈ [203, 36, 38, 40, 42, 44, 46, 34] → r ∉ [90, 18, 20, 22, 24, 26, 202]) r hr)) (El.same (dd 91 (by decide))), h.2.2.2.1.2.of (El.same (dd 91 (by decide)))⟩, ⟨h.2.2.2.2.1.1.of (fun r hr => dd r ((by decide : ∀ r, r ∈ [205, 49, 51, 53, 55, 57, 59] → r ∉ [90, 18, 20, 22, 24, 26, 202]) r hr)) (El.same (dd 92 (by decide))), h.2.2.2.2.1.2.of (El.same (dd 91 (by decide))) (El.same (dd 92 (by decide)))⟩, ⟨h.2.2.2.2.2.1.of (fun r hr => dd r ((by decide : ∀ r, r ∈ [204, 68, 66] → r ∉ [90, 18, 20, 22, 24, 26, 202]) r hr)) (El.same (dd 93 (by decide))), h.2.2.2.2.2.2.of (El.same (dd 93 (by decide)))⟩⟩
theorem BI.memb {n : Nat} {m0 m1 m2 m3 m4 m5 m6 : Int32} {nr nc nl : Nat} {σ : xS} (h : BI nr nc nl n 0 0 σ) (hn : n < 7) (hM : MV nc m0 m1 m2 m3 m4 m5 m6) : BI nr nc nl (n + 1) 0 0 (mTyp (mApp (xw (xw (xw (xw (xw (xw (xw σ 91 (7 * n) m0) 91 (7 * n + 1) m1) 91 (7 * n + 2) m2) 91 (7 * n + 3) m3) 91 (7 * n + 4) m4) 91 (7 * n + 5) m5) 91 (7 * n + 6) m6) m3 m0 m1 (m6 / 16) (offO m6)) ((xw (xw (xw (xw (xw (xw (xw σ 91 (7 * n) m0) 91 (7 * n + 1) m1) 91 (7 * n + 2) m2) 91 (7 * n + 3) m3) 91 (7 * n + 4) m4) 91 (7 * n + 5) m5) 91 (7 * n + 6) m6) 203 0) m2 m4 m5) := by
  have d1 : ∀ r, r ≠ 91 → (xw (xw (xw (xw (xw (xw (xw σ 91 (7 * n) m0) 91 (7 * n + 1) m1) 91 (7 * n + 2) m2) 91 (7 * n + 3) m3) 91 (7 * n + 4) m4) 91 (7 * n + 5) m5) 91 (7 * n + 6) m6) r = σ r := fun r hr => by rw [xw_ne (r := 91) _ _ _ hr, xw_ne (r := 91) _ _ _ hr, xw_ne (r := 91) _ _ _ hr, xw_ne (r := 91) _ _ _ hr, xw_ne (r := 91) _ _ _ hr, xw_ne (r := 91) _ _ _ hr, xw_ne (r := 91) _ _ _ hr]
  have e1 : El (7 * n) ((xw (xw (xw (xw (xw (xw (xw σ 91 (7 * n) m0) 91 (7 * n + 1) m1) 91 (7 * n + 2) m2) 91 (7 * n + 3) m3) 91 (7 * n + 4) m4) 91 (7 * n + 5) m5) 91 (7 * n + 6) m6) 91) (σ 91) := (El.xw (by omega)).tr ((El.xw (by omega)).tr ((El.xw (by omega)).tr ((El.xw (by omega)).tr ((El.xw (by omega)).tr ((El.xw (by omega)).tr (El.xw (by omega)))))))
  have a0 : (xw (xw (xw (xw (xw (xw (xw σ 91 (7 * n) m0) 91 (7 * n + 1) m1) 91 (7 * n + 2) m2) 91 (7 * n + 3) m3) 91 (7 * n + 4) m4) 91 (7 * n + 5) m5) 91 (7 * n + 6) m6) 91 (7 * n) = m0 := by simp [xw]
  have a1 : (xw (xw (xw (xw (xw (xw (xw σ 91 (7 * n) m0) 91 (7 * n + 1) m1) 91 (7 * n + 2) m2) 91 (7 * n + 3) m3) 91 (7 * n + 4) m4) 91 (7 * n + 5) m5) 91 (7 * n + 6) m6) 91 (7 * n + 1) = m1 := by simp [xw]
  have a2 : (xw (xw (xw (xw (xw (xw (xw σ 91 (7 * n) m0) 91 (7 * n + 1) m1) 91 (7 * n + 2) m2) 91 (7 * n + 3) m3) 91 (7 * n + 4) m4) 91 (7 * n + 5) m5) 91 (7 * n + 6) m6) 91 (7 * n + 2) = m2 := by simp [xw]
  have a3 : (xw (xw (xw (xw (xw (xw (xw σ 91 (7 * n) m0) 91 (7 * n + 1) m1) 91 (7 * n + 2) m2) 91 (7 * n + 3) m3) 91 (7 * n + 4) m4) 91 (7 * n + 5) m5) 91 (7 * n + 6) m6) 91 (7 * n + 3) = m3 := by simp [xw]
  have a4 : (xw (xw (xw (xw (xw (xw (xw σ 91 (7 * n) m0) 91 (7 * n + 1) m1) 91 (7 * n + 2) m2) 91 (7 * n + 3) m3) 91 (7 * n + 4) m4) 91 (7 * n + 5) m5) 91 (7 * n + 6) m6) 91 (7 * n + 4) = m4 := by simp [xw]
  have a5 : (xw (xw (xw (xw (xw (xw (xw σ 91 (7 * n) m0) 91 (7 * n + 1) m1) 91 (7 * n + 2) m2) 91 (7 * n + 3) m3) 91 (7 * n + 4) m4) 91 (7 * n + 5) m5) 91 (7 * n + 6) m6) 91 (7 * n + 5) = m5 := by simp [xw]
  have a6 : (xw (xw (xw (xw (xw (xw (xw σ 91 (7 * n) m0) 91 (7 * n + 1) m1) 91 (7 * n + 2) m2) 91 (7 * n + 3) m3) 91 (7 * n + 4) m4) 91 (7 * n + 5) m5) 91 (7 * n + 6) m6) 91 (7 * n + 6) = m6 := by simp [xw]
  generalize xw (xw (xw (xw (xw (xw (xw σ 91 (7 * n) m0) 91 (7 * n + 1) m1) 91 (7 * n + 2) m2) 91 (7 * n + 3) m3) 91 (7 * n + 4) m4) 91 (7 * n + 5) m5) 91 (7 * n + 6) m6 = σ1 at d1 e1 a0 a1 a2 a3 a4 a5 a6 ⊢
  have d2 : ∀ r, r ∉ [30, 32, 34, 36, 38, 40, 42, 44, 46, 203] → (mTyp (mApp σ1 m3 m0 m1 (m6 / 16) (offO m6)) (σ1 203 0) m2 m4 m5) r = σ1 r := Rm_dif σ1 m3 m0 m1 m2 m4 m5 (m6 / 16) (offO m6)
  have dd : ∀ r, r ∉ [91, 30, 32, 34, 36, 38, 40, 42, 44, 46, 203] → (mTyp (mApp σ1 m3 m0 m1 (m6 / 16) (offO m6)) (σ1 203 0) m2 m4 m5) r = σ r := fun r hr => by rw [d2 r (fun z => hr (List.mem_cons_of_mem _ z)), d1 r (fun z => hr (by rw [z]; exact List.mem_cons_self))]
  have hR := h.2.2.2.1.1.of (σ' := σ1) (fun r hr => d1 r ((by decide : ∀ r, r ∈ [203, 36, 38, 40, 42, 44, 46, 34] → r ≠ 91) r hr)) e1
  have hA : Am nc (n + 1) σ1 := ⟨by omega, fun k hk => by
    by_cases q : k = n
    · subst q; rw [a0, a1, a2, a3, a4, a5, a6]; exact hM
    · exact (h.2.2.2.1.2.of e1).2 k (by omega)⟩
  have eA : El (7 * (n + 1)) ((mTyp (mApp σ1 m3 m0 m1 (m6 / 16) (offO m6)) (σ1 203 0) m2 m4 m5) 91) (σ1 91) := El.same (d2 91 (by decide))
  exact ⟨⟨h.1.1.of (fun r hr => dd r ((by decide : ∀ r, r ∈ [200, 3, 5, 7] → r ∉ [91, 30, 32, 34, 36, 38, 40, 42, 44, 46, 203]) r hr)) (El.same (dd 88 (by decide))), h.1.2.of (El.same (dd 88 (by decide)))⟩, ⟨h.2.1.1.of (fun r hr => dd r ((by decide : ∀ r, r ∈ [201, 15] → r ∉ [91, 30, 32, 34, 36, 38, 40, 42, 44, 46, 203]) r hr)) (El.same (dd 89 (by decide))), h.2.1.2.of (El.same (dd 89 (by decide)))⟩, ⟨h.2.2.1.1.of (fun r hr => dd r ((by decide : ∀ r, r ∈ [202, 24, 26, 22] → r ∉ [91, 30, 32, 34, 36, 38, 40, 42, 44, 46, 203]) r hr)) (El.same (dd 90 (by decide))), h.2.2.1.2.of (El.same (dd 90 (by decide)))⟩, ⟨Rm.step hR (by omega) a3.symm a0.symm a1.symm a2.symm a4.symm a5.symm (by rw [a6]; rfl), hA.of eA⟩, ⟨h.2.2.2.2.1.1.of (fun r hr => dd r ((by decide : ∀ r, r ∈ [205, 49, 51, 53, 55, 57, 59] → r ∉ [91, 30, 32, 34, 36, 38, 40, 42, 44, 46, 203]) r hr)) (El.same (dd 92 (by decide))), ⟨Nat.zero_le _, fun k hk => absurd hk (Nat.not_lt_zero k)⟩⟩, ⟨h.2.2.2.2.2.1.of (fun r hr => dd r ((by decide : ∀ r, r ∈ [204, 68, 66] → r ∉ [91, 30, 32, 34, 36, 38, 40, 42, 44, 46, 203]) r hr)) (El.same (dd 93 (by decide))), h.2.2.2.2.2.2.of (El.same (dd 93 (by decide)))⟩⟩
theorem BI.res {n : Nat} {a x : Int32} {nr nc nl nm ne : Nat} {σ : xS} (h : BI nr nc nl nm ne n σ) (hn : n < 6) (ha : ∃ j, j < ne ∧ a = nI j) (hx : GC x) : BI nr nc nl nm ne (n + 1) (vPut (cApp (xw (xw σ 93 (2 * n) a) 93 (2 * n + 1) x) 60 16 204 (x / 16) (offO x)) 68 16 ((xw (xw σ 93 (2 * n) a) 93 (2 * n + 1) x) 204 0) a) := by
  have d1 : ∀ r, r ≠ 93 → (xw (xw σ 93 (2 * n) a) 93 (2 * n + 1) x) r = σ r := fun r hr => by rw [xw_ne (r := 93) _ _ _ hr, xw_ne (r := 93) _ _ _ hr]
  have e1 : El (2 * n) ((xw (xw σ 93 (2 * n) a) 93 (2 * n + 1) x) 93) (σ 93) := (El.xw (by omega)).tr (El.xw (by omega))
  have a0 : (xw (xw σ 93 (2 * n) a) 93 (2 * n + 1) x) 93 (2 * n) = a := by simp [xw]
  have a1 : (xw (xw σ 93 (2 * n) a) 93 (2 * n + 1) x) 93 (2 * n + 1) = x := by simp [xw]
  generalize xw (xw σ 93 (2 * n) a) 93 (2 * n + 1) x = σ1 at d1 e1 a0 a1 ⊢
  have d2 : ∀ r, r ∉ [62, 64, 66, 68, 204] → (vPut (cApp σ1 60 16 204 (x / 16) (offO x)) 68 16 (σ1 204 0) a) r = σ1 r := Rx_dif σ1 a (x / 16) (offO x)
  have dd : ∀ r, r ∉ [93, 62, 64, 66, 68, 204] → (vPut (cApp σ1 60 16 204 (x / 16) (offO x)) 68 16 (σ1 204 0) a) r = σ r := fun r hr => by rw [d2 r (fun z => hr (List.mem_cons_of_mem _ z)), d1 r (fun z => hr (by rw [z]; exact List.mem_cons_self))]
  have hR := h.2.2.2.2.2.1.of (σ' := σ1) (fun r hr => d1 r ((by decide : ∀ r, r ∈ [204, 68, 66] → r ≠ 93) r hr)) e1
  have hA : Ax ne (n + 1) σ1 := ⟨by omega, fun k hk => by
    by_cases q : k = n
    · subst q; rw [a0, a1]; exact ⟨ha, hx⟩
    · exact (h.2.2.2.2.2.2.of e1).2 k (by omega)⟩
  have eA : El (2 * (n + 1)) ((vPut (cApp σ1 60 16 204 (x / 16) (offO x)) 68 16 (σ1 204 0) a) 93) (σ1 93) := El.same (d2 93 (by decide))
  exact ⟨⟨h.1.1.of (fun r hr => dd r ((by decide : ∀ r, r ∈ [200, 3, 5, 7] → r ∉ [93, 62, 64, 66, 68, 204]) r hr)) (El.same (dd 88 (by decide))), h.1.2.of (El.same (dd 88 (by decide)))⟩, ⟨h.2.1.1.of (fun r hr => dd r ((by decide : ∀ r, r ∈ [201, 15] → r ∉ [93, 62, 64, 66, 68, 204]) r hr)) (El.same (dd 89 (by decide))), h.2.1.2.of (El.same (dd 89 (by decide)))⟩, ⟨h.2.2.1.1.of (fun r hr => dd r ((by decide : ∀ r, r ∈ [202, 24, 26, 22] → r ∉ [93, 62, 64, 66, 68, 204]) r hr)) (El.same (dd 90 (by decide))), h.2.2.1.2.of (El.same (dd 90 (by decide)))⟩, ⟨h.2.2.2.1.1.of (fun r hr => dd r ((by decide : ∀ r, r ∈ [203, 36, 38, 40, 42, 44, 46, 34] → r ∉ [93, 62, 64, 66, 68, 204]) r hr)) (El.same (dd 91 (by decide))), h.2.2.2.1.2.of (El.same (dd 91 (by decide)))⟩, ⟨h.2.2.2.2.1.1.of (fun r hr => dd r ((by decide : ∀ r, r ∈ [205, 49, 51, 53, 55, 57, 59] → r ∉ [93, 62, 64, 66, 68, 204]) r hr)) (El.same (dd 92 (by decide))), h.2.2.2.2.1.2.of (El.same (dd 91 (by decide))) (El.same (dd 92 (by decide)))⟩, ⟨Rx.step hR (by omega) a0.symm (by rw [a1]; rfl), hA.of eA⟩⟩
theorem BI.expr1 {n : Nat} {e0 e1 e2 e3 e4 e5 : Int32} {nr nc nl nm nx : Nat} {σ : xS} (h : BI nr nc nl nm n nx σ) (hn : n < 14) (hE : EV nc nm (σ 91) (σ 92) n e0 e1 e2 e3 e4 e5) (h3 : e3 = -1) (h4 : e4 = -1) (h5 : e5 = -1) : BI nr nc nl nm (n + 1) nx (eApp (xw (xw (xw (xw (xw (xw σ 92 (6 * n) e0) 92 (6 * n + 1) e1) 92 (6 * n + 2) e2) 92 (6 * n + 3) e3) 92 (6 * n + 4) e4) 92 (6 * n + 5) e5) e0 e1 (dtl ((xw (xw (xw (xw (xw (xw σ 92 (6 * n) e0) 92 (6 * n + 1) e1) 92 (6 * n + 2) e2) 92 (6 * n + 3) e3) 92 (6 * n + 4) e4) 92 (6 * n + 5) e5) 92) n)) := by
  have d1 : ∀ r, r ≠ 92 → (xw (xw (xw (xw (xw (xw σ 92 (6 * n) e0) 92 (6 * n + 1) e1) 92 (6 * n + 2) e2) 92 (6 * n + 3) e3) 92 (6 * n + 4) e4) 92 (6 * n + 5) e5) r = σ r := fun r hr => by rw [xw_ne (r := 92) _ _ _ hr, xw_ne (r := 92) _ _ _ hr, xw_ne (r := 92) _ _ _ hr, xw_ne (r := 92) _ _ _ hr, xw_ne (r := 92) _ _ _ hr, xw_ne (r := 92) _ _ _ hr]
  have e1_ : El (6 * n) ((xw (xw (xw (xw (xw (xw σ 92 (6 * n) e0) 92 (6 * n + 1) e1) 92 (6 * n + 2) e2) 92 (6 * n + 3) e3) 92 (6 * n + 4) e4) 92 (6 * n + 5) e5) 92) (σ 92) := (El.xw (by omega)).tr ((El.xw (by omega)).tr ((El.xw (by omega)).tr ((El.xw (by omega)).tr ((El.xw (by omega)).tr (El.xw (by omega))))))
  have a0 : (xw (xw (xw (xw (xw (xw σ 92 (6 * n) e0) 92 (6 * n + 1) e1) 92 (6 * n + 2) e2) 92 (6 * n + 3) e3) 92 (6 * n + 4) e4) 92 (6 * n + 5) e5) 92 (6 * n) = e0 := by simp [xw]
  have a1 : (xw (xw (xw (xw (xw (xw σ 92 (6 * n) e0) 92 (6 * n + 1) e1) 92 (6 * n + 2) e2) 92 (6 * n + 3) e3) 92 (6 * n + 4) e4) 92 (6 * n + 5) e5) 92 (6 * n + 1) = e1 := by simp [xw]
  have a2 : (xw (xw (xw (xw (xw (xw σ 92 (6 * n) e0) 92 (6 * n + 1) e1) 92 (6 * n + 2) e2) 92 (6 * n + 3) e3) 92 (6 * n + 4) e4) 92 (6 * n + 5) e5) 92 (6 * n + 2) = e2 := by simp [xw]
  have a3 : (xw (xw (xw (xw (xw (xw σ 92 (6 * n) e0) 92 (6 * n + 1) e1) 92 (6 * n + 2) e2) 92 (6 * n + 3) e3) 92 (6 * n + 4) e4) 92 (6 * n + 5) e5) 92 (6 * n + 3) = e3 := by simp [xw]
  have a4 : (xw (xw (xw (xw (xw (xw σ 92 (6 * n) e0) 92 (6 * n + 1) e1) 92 (6 * n + 2) e2) 92 (6 * n + 3) e3) 92 (6 * n + 4) e4) 92 (6 * n + 5) e5) 92 (6 * n + 4) = e4 := by simp [xw]
  have a5 : (xw (xw (xw (xw (xw (xw σ 92 (6 * n) e0) 92 (6 * n + 1) e1) 92 (6 * n + 2) e2) 92 (6 * n + 3) e3) 92 (6 * n + 4) e4) 92 (6 * n + 5) e5) 92 (6 * n + 5) = e5 := by simp [xw]
  generalize xw (xw (xw (xw (xw (xw σ 92 (6 * n) e0) 92 (6 * n + 1) e1) 92 (6 * n + 2) e2) 92 (6 * n + 3) e3) 92 (6 * n + 4) e4) 92 (6 * n + 5) e5 = σ1 at d1 e1_ a0 a1 a2 a3 a4 a5 ⊢
  have d2 : ∀ r, r ∉ [49, 51, 53, 55, 57, 59, 205] → (eApp σ1 e0 e1 (dtl (σ1 92) n)) r = σ1 r := fun r hr => eApp_dif σ1 e0 e1 (dtl (σ1 92) n) r (fun z => hr ((by decide : ∀ r, r ∈ [205, 49, 51, 53, 55, 57, 59] → r ∈ [49, 51, 53, 55, 57, 59, 205]) r z))
  have dd : ∀ r, r ∉ [92, 49, 51, 53, 55, 57, 59, 205] → (eApp σ1 e0 e1 (dtl (σ1 92) n)) r = σ r := fun r hr => by rw [d2 r (fun z => hr (List.mem_cons_of_mem _ z)), d1 r (fun z => hr (by rw [z]; exact List.mem_cons_self))]
  have hR := h.2.2.2.2.1.1.of (σ' := σ1) (fun r hr => d1 r ((by decide : ∀ r, r ∈ [205, 49, 51, 53, 55, 57, 59] → r ≠ 92) r hr)) e1_
  have hA : Ae nc nm (n + 1) σ1 := ⟨by omega, fun k hk => by
    have e91 : El (7 * nm) (σ1 91) (σ 91) := El.same (d1 91 (by decide))
    by_cases q : k = n
    · subst q; rw [a0, a1, a2, a3, a4, a5]; exact hE.of e91 e1_
    · exact (h.2.2.2.2.1.2.of e91 e1_).2 k (by omega)⟩
  have eA : El (6 * (n + 1)) ((eApp σ1 e0 e1 (dtl (σ1 92) n)) 92) (σ1 92) := El.same (d2 92 (by decide))
  exact ⟨⟨h.1.1.of (fun r hr => dd r ((by decide : ∀ r, r ∈ [200, 3, 5, 7] → r ∉ [92, 49, 51, 53, 55, 57, 59, 205]) r hr)) (El.same (dd 88 (by decide))), h.1.2.of (El.same (dd 88 (by decide)))⟩, ⟨h.2.1.1.of (fun r hr => dd r ((by decide : ∀ r, r ∈ [201, 15] → r ∉ [92, 49, 51, 53, 55, 57, 59, 205]) r hr)) (El.same (dd 89 (by decide))), h.2.1.2.of (El.same (dd 89 (by decide)))⟩, ⟨h.2.2.1.1.of (fun r hr => dd r ((by decide : ∀ r, r ∈ [202, 24, 26, 22] → r ∉ [92, 49, 51, 53, 55, 57, 59, 205]) r hr)) (El.same (dd 90 (by decide))), h.2.2.1.2.of (El.same (dd 90 (by decide)))⟩, ⟨h.2.2.2.1.1.of (fun r hr => dd r ((by decide : ∀ r, r ∈ [203, 36, 38, 40, 42, 44, 46, 34] → r ∉ [92, 49, 51, 53, 55, 57, 59, 205]) r hr)) (El.same (dd 91 (by decide))), h.2.2.2.1.2.of (El.same (dd 91 (by decide)))⟩, ⟨Re.step hR (by omega) a0.symm a1.symm rfl (by rw [a3, h3]) (by rw [a4, h4]) (by rw [a5, h5]), hA.of (El.same (d2 91 (by decide))) eA⟩, ⟨h.2.2.2.2.2.1.of (fun r hr => dd r ((by decide : ∀ r, r ∈ [204, 68, 66] → r ∉ [92, 49, 51, 53, 55, 57, 59, 205]) r hr)) (El.same (dd 93 (by decide))), (h.2.2.2.2.2.2.of (El.same (dd 93 (by decide)))).up⟩⟩
theorem BI.expr2 {n : Nat} {e0 e1 e2 e3 e4 e5 : Int32} {nr nc nl nm nx : Nat} {σ : xS} (h : BI nr nc nl nm n nx σ) (hn : n < 14) (hE : EV nc nm (σ 91) (σ 92) n e0 e1 e2 e3 e4 e5)  : BI nr nc nl nm (n + 1) nx (eSet (eApp (xw (xw (xw (xw (xw (xw σ 92 (6 * n) e0) 92 (6 * n + 1) e1) 92 (6 * n + 2) e2) 92 (6 * n + 3) e3) 92 (6 * n + 4) e4) 92 (6 * n + 5) e5) e0 e1 (dtl ((xw (xw (xw (xw (xw (xw σ 92 (6 * n) e0) 92 (6 * n + 1) e1) 92 (6 * n + 2) e2) 92 (6 * n + 3) e3) 92 (6 * n + 4) e4) 92 (6 * n + 5) e5) 92) n)) ((xw (xw (xw (xw (xw (xw σ 92 (6 * n) e0) 92 (6 * n + 1) e1) 92 (6 * n + 2) e2) 92 (6 * n + 3) e3) 92 (6 * n + 4) e4) 92 (6 * n + 5) e5) 205 0) e3 e4 e5) := by
  have d1 : ∀ r, r ≠ 92 → (xw (xw (xw (xw (xw (xw σ 92 (6 * n) e0) 92 (6 * n + 1) e1) 92 (6 * n + 2) e2) 92 (6 * n + 3) e3) 92 (6 * n + 4) e4) 92 (6 * n + 5) e5) r = σ r := fun r hr => by rw [xw_ne (r := 92) _ _ _ hr, xw_ne (r := 92) _ _ _ hr, xw_ne (r := 92) _ _ _ hr, xw_ne (r := 92) _ _ _ hr, xw_ne (r := 92) _ _ _ hr, xw_ne (r := 92) _ _ _ hr]
  have e1_ : El (6 * n) ((xw (xw (xw (xw (xw (xw σ 92 (6 * n) e0) 92 (6 * n + 1) e1) 92 (6 * n + 2) e2) 92 (6 * n + 3) e3) 92 (6 * n + 4) e4) 92 (6 * n + 5) e5) 92) (σ 92) := (El.xw (by omega)).tr ((El.xw (by omega)).tr ((El.xw (by omega)).tr ((El.xw (by omega)).tr ((El.xw (by omega)).tr (El.xw (by omega))))))
  have a0 : (xw (xw (xw (xw (xw (xw σ 92 (6 * n) e0) 92 (6 * n + 1) e1) 92 (6 * n + 2) e2) 92 (6 * n + 3) e3) 92 (6 * n + 4) e4) 92 (6 * n + 5) e5) 92 (6 * n) = e0 := by simp [xw]
  have a1 : (xw (xw (xw (xw (xw (xw σ 92 (6 * n) e0) 92 (6 * n + 1) e1) 92 (6 * n + 2) e2) 92 (6 * n + 3) e3) 92 (6 * n + 4) e4) 92 (6 * n + 5) e5) 92 (6 * n + 1) = e1 := by simp [xw]
  have a2 : (xw (xw (xw (xw (xw (xw σ 92 (6 * n) e0) 92 (6 * n + 1) e1) 92 (6 * n + 2) e2) 92 (6 * n + 3) e3) 92 (6 * n + 4) e4) 92 (6 * n + 5) e5) 92 (6 * n + 2) = e2 := by simp [xw]
  have a3 : (xw (xw (xw (xw (xw (xw σ 92 (6 * n) e0) 92 (6 * n + 1) e1) 92 (6 * n + 2) e2) 92 (6 * n + 3) e3) 92 (6 * n + 4) e4) 92 (6 * n + 5) e5) 92 (6 * n + 3) = e3 := by simp [xw]
  have a4 : (xw (xw (xw (xw (xw (xw σ 92 (6 * n) e0) 92 (6 * n + 1) e1) 92 (6 * n + 2) e2) 92 (6 * n + 3) e3) 92 (6 * n + 4) e4) 92 (6 * n + 5) e5) 92 (6 * n + 4) = e4 := by simp [xw]
  have a5 : (xw (xw (xw (xw (xw (xw σ 92 (6 * n) e0) 92 (6 * n + 1) e1) 92 (6 * n + 2) e2) 92 (6 * n + 3) e3) 92 (6 * n + 4) e4) 92 (6 * n + 5) e5) 92 (6 * n + 5) = e5 := by simp [xw]
  generalize xw (xw (xw (xw (xw (xw σ 92 (6 * n) e0) 92 (6 * n + 1) e1) 92 (6 * n + 2) e2) 92 (6 * n + 3) e3) 92 (6 * n + 4) e4) 92 (6 * n + 5) e5 = σ1 at d1 e1_ a0 a1 a2 a3 a4 a5 ⊢
  have d2 : ∀ r, r ∉ [49, 51, 53, 55, 57, 59, 205] → (eSet (eApp σ1 e0 e1 (dtl (σ1 92) n)) (σ1 205 0) e3 e4 e5) r = σ1 r := fun r hr => (eSet_dif _ _ _ _ _ r (fun z => hr ((by decide : ∀ r, r ∈ [55, 57, 59] → r ∈ [49, 51, 53, 55, 57, 59, 205]) r z))).trans (eApp_dif σ1 e0 e1 (dtl (σ1 92) n) r (fun z => hr ((by decide : ∀ r, r ∈ [205, 49, 51, 53, 55, 57, 59] → r ∈ [49, 51, 53, 55, 57, 59, 205]) r z)))
  have dd : ∀ r, r ∉ [92, 49, 51, 53, 55, 57, 59, 205] → (eSet (eApp σ1 e0 e1 (dtl (σ1 92) n)) (σ1 205 0) e3 e4 e5) r = σ r := fun r hr => by rw [d2 r (fun z => hr (List.mem_cons_of_mem _ z)), d1 r (fun z => hr (by rw [z]; exact List.mem_cons_self))]
  have hR := h.2.2.2.2.1.1.of (σ' := σ1) (fun r hr => d1 r ((by decide : ∀ r, r ∈ [205, 49, 51, 53, 55, 57, 59] → r ≠ 92) r hr)) e1_
  have hA : Ae nc nm (n + 1) σ1 := ⟨by omega, fun k hk => by
    have e91 : El (7 * nm) (σ1 91) (σ 91) := El.same (d1 91 (by decide))
    by_cases q : k = n
    · subst q; rw [a0, a1, a2, a3, a4, a5]; exact hE.of e91 e1_
    · exact (h.2.2.2.2.1.2.of e91 e1_).2 k (by omega)⟩
  have eA : El (6 * (n + 1)) ((eSet (eApp σ1 e0 e1 (dtl (σ1 92) n)) (σ1 205 0) e3 e4 e5) 92) (σ1 92) := El.same (d2 92 (by decide))
  exact ⟨⟨h.1.1.of (fun r hr => dd r ((by decide : ∀ r, r ∈ [200, 3, 5, 7] → r ∉ [92, 49, 51, 53, 55, 57, 59, 205]) r hr)) (El.same (dd 88 (by decide))), h.1.2.of (El.same (dd 88 (by decide)))⟩, ⟨h.2.1.1.of (fun r hr => dd r ((by decide : ∀ r, r ∈ [201, 15] → r ∉ [92, 49, 51, 53, 55, 57, 59, 205]) r hr)) (El.same (dd 89 (by decide))), h.2.1.2.of (El.same (dd 89 (by decide)))⟩, ⟨h.2.2.1.1.of (fun r hr => dd r ((by decide : ∀ r, r ∈ [202, 24, 26, 22] → r ∉ [92, 49, 51, 53, 55, 57, 59, 205]) r hr)) (El.same (dd 90 (by decide))), h.2.2.1.2.of (El.same (dd 90 (by decide)))⟩, ⟨h.2.2.2.1.1.of (fun r hr => dd r ((by decide : ∀ r, r ∈ [203, 36, 38, 40, 42, 44, 46, 34] → r ∉ [92, 49, 51, 53, 55, 57, 59, 205]) r hr)) (El.same (dd 91 (by decide))), h.2.2.2.1.2.of (El.same (dd 91 (by decide)))⟩, ⟨Re.step2 hR (by omega) a0.symm a1.symm rfl a3.symm a4.symm a5.symm, hA.of (El.same (d2 91 (by decide))) eA⟩, ⟨h.2.2.2.2.2.1.of (fun r hr => dd r ((by decide : ∀ r, r ∈ [204, 68, 66] → r ∉ [92, 49, 51, 53, 55, 57, 59, 205]) r hr)) (El.same (dd 93 (by decide))), (h.2.2.2.2.2.2.of (El.same (dd 93 (by decide)))).up⟩⟩

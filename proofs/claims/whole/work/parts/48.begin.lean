/-! What the words give at the law's entry. -/
abbrev lwF : List Cond := flatC (Jvm.Cond.and given_1 narrow_1)
theorem arr_of {args : Array Value} {s : State} {ty : FieldType} (h : (Cond.arrayClass ty).before args s = true) : ∃ cA, ArrOfT s cA ty ∧ s.vm.findClass ("[" ++ ty.toString) = some cA := by
  obtain ⟨cA, kA, comp, h1, h2, h3⟩ := Cond.arrayClass_spec h
  exact ⟨cA, fun n z => ⟨fun k h => (by cases h), kA, h2, comp, h3⟩, h1⟩
section BG
variable {s : State} {b : Addr}
theorem str_of (hts : ∀ w ∈ lw_tbl, w.before #[Value.ref b] s = true) (hs : ∀ w ∈ lwF, w.before #[Value.ref b] s = true) {k : Nat} {tx : String} (h1 : Cond.stringRef RX8 k tx ∈ lw_tbl) (h2 : Cond.exactly (.string RX8 k) "java/lang/String" ∈ lwF) : ∃ a, vk_R RX8 k tx a s := by
  obtain ⟨a, c, cell, kk, e1, -⟩ := Cond.exactly_spec (hs _ h2)
  exact ⟨a, vk_R.of (hts _ h1) e1⟩
theorem in_s47 : Cond.stringRef RX8 47 "no such kind of rule, or no such feature" ∈ lw_tbl := by decide +kernel
theorem in_e47 : Cond.exactly (.string RX8 47) "java/lang/String" ∈ lwF := by decide +kernel
theorem in_s58 : Cond.stringRef RX8 58 "there are 8 rules" ∈ lw_tbl := by decide +kernel
theorem in_e58 : Cond.exactly (.string RX8 58) "java/lang/String" ∈ lwF := by decide +kernel
theorem in_s65 : Cond.stringRef RX8 65 "there is no rule" ∈ lw_tbl := by decide +kernel
theorem in_e65 : Cond.exactly (.string RX8 65) "java/lang/String" ∈ lwF := by decide +kernel
theorem in_s77 : Cond.stringRef RX8 77 "no condition" ∈ lw_tbl := by decide +kernel
theorem in_e77 : Cond.exactly (.string RX8 77) "java/lang/String" ∈ lwF := by decide +kernel
theorem in_s86 : Cond.stringRef RX8 86 "there are 8 classes" ∈ lw_tbl := by decide +kernel
theorem in_e86 : Cond.exactly (.string RX8 86) "java/lang/String" ∈ lwF := by decide +kernel
theorem in_s96 : Cond.stringRef RX8 96 "no such class" ∈ lw_tbl := by decide +kernel
theorem in_e96 : Cond.exactly (.string RX8 96) "java/lang/String" ∈ lwF := by decide +kernel
theorem in_s102 : Cond.stringRef RX8 102 "there are 12 links" ∈ lw_tbl := by decide +kernel
theorem in_e102 : Cond.exactly (.string RX8 102) "java/lang/String" ∈ lwF := by decide +kernel
theorem in_s114 : Cond.stringRef RX8 114 "no name, no type, or no condition" ∈ lw_tbl := by decide +kernel
theorem in_e114 : Cond.exactly (.string RX8 114) "java/lang/String" ∈ lwF := by decide +kernel
theorem in_s123 : Cond.stringRef RX8 123 "there are 24 members" ∈ lw_tbl := by decide +kernel
theorem in_e123 : Cond.exactly (.string RX8 123) "java/lang/String" ∈ lwF := by decide +kernel
theorem in_s138 : Cond.stringRef RX8 138 "no such method, or no such class" ∈ lw_tbl := by decide +kernel
theorem in_e138 : Cond.exactly (.string RX8 138) "java/lang/String" ∈ lwF := by decide +kernel
theorem in_s147 : Cond.stringRef RX8 147 "there are 50 expressions" ∈ lw_tbl := by decide +kernel
theorem in_e147 : Cond.exactly (.string RX8 147) "java/lang/String" ∈ lwF := by decide +kernel
theorem in_s152 : Cond.stringRef RX8 152 "no such method" ∈ lw_tbl := by decide +kernel
theorem in_e152 : Cond.exactly (.string RX8 152) "java/lang/String" ∈ lwF := by decide +kernel
theorem in_s157 : Cond.stringRef RX8 157 "no such method, or no such parameter" ∈ lw_tbl := by decide +kernel
theorem in_e157 : Cond.exactly (.string RX8 157) "java/lang/String" ∈ lwF := by decide +kernel
theorem in_s160 : Cond.stringRef RX8 160 "no such expression" ∈ lw_tbl := by decide +kernel
theorem in_e160 : Cond.exactly (.string RX8 160) "java/lang/String" ∈ lwF := by decide +kernel
theorem in_s162 : Cond.stringRef RX8 162 "no name" ∈ lw_tbl := by decide +kernel
theorem in_e162 : Cond.exactly (.string RX8 162) "java/lang/String" ∈ lwF := by decide +kernel
theorem in_s177 : Cond.stringRef RX8 177 "no name, or no arguments for this call" ∈ lw_tbl := by decide +kernel
theorem in_e177 : Cond.exactly (.string RX8 177) "java/lang/String" ∈ lwF := by decide +kernel
theorem in_s182 : Cond.stringRef RX8 182 "there are 16 results" ∈ lw_tbl := by decide +kernel
theorem in_e182 : Cond.exactly (.string RX8 182) "java/lang/String" ∈ lwF := by decide +kernel
theorem in_s190 : Cond.stringRef RX8 190 "no such element" ∈ lw_tbl := by decide +kernel
theorem in_e190 : Cond.exactly (.string RX8 190) "java/lang/String" ∈ lwF := by decide +kernel
theorem in_s200 : Cond.stringRef RX8 200 "there is no result" ∈ lw_tbl := by decide +kernel
theorem in_e200 : Cond.exactly (.string RX8 200) "java/lang/String" ∈ lwF := by decide +kernel
theorem in_s203 : Cond.stringRef RX8 203 "no such sort" ∈ lw_tbl := by decide +kernel
theorem in_e203 : Cond.exactly (.string RX8 203) "java/lang/String" ∈ lwF := by decide +kernel
theorem in_s216 : Cond.stringRef RX8 216 "no product" ∈ lw_tbl := by decide +kernel
theorem in_e216 : Cond.exactly (.string RX8 216) "java/lang/String" ∈ lwF := by decide +kernel
theorem in_s228 : Cond.stringRef RX8 228 "no name, or no product" ∈ lw_tbl := by decide +kernel
theorem in_e228 : Cond.exactly (.string RX8 228) "java/lang/String" ∈ lwF := by decide +kernel
theorem in_s243 : Cond.stringRef RX8 243 "no such error, or nothing that is told of it" ∈ lw_tbl := by decide +kernel
theorem in_e243 : Cond.exactly (.string RX8 243) "java/lang/String" ∈ lwF := by decide +kernel
theorem in_k0 : Cond.castable "java/lang/IllegalArgumentException" "java/lang/IllegalArgumentException" ∈ lw_tbl := by decide +kernel
theorem in_n01 : Cond.not (.castable "java/lang/IllegalArgumentException" "java/lang/IllegalStateException") ∈ lwF := by decide +kernel
theorem in_n02 : Cond.not (.castable "java/lang/IllegalArgumentException" "java/lang/IndexOutOfBoundsException") ∈ lwF := by decide +kernel
theorem in_k1 : Cond.castable "java/lang/IllegalStateException" "java/lang/IllegalStateException" ∈ lw_tbl := by decide +kernel
theorem in_n10 : Cond.not (.castable "java/lang/IllegalStateException" "java/lang/IllegalArgumentException") ∈ lwF := by decide +kernel
theorem in_n12 : Cond.not (.castable "java/lang/IllegalStateException" "java/lang/IndexOutOfBoundsException") ∈ lwF := by decide +kernel
theorem in_k2 : Cond.castable "java/lang/IndexOutOfBoundsException" "java/lang/IndexOutOfBoundsException" ∈ lw_tbl := by decide +kernel
theorem in_n20 : Cond.not (.castable "java/lang/IndexOutOfBoundsException" "java/lang/IllegalArgumentException") ∈ lwF := by decide +kernel
theorem in_n21 : Cond.not (.castable "java/lang/IndexOutOfBoundsException" "java/lang/IllegalStateException") ∈ lwF := by decide +kernel
theorem in_d0 : Cond.declares (Bundle.initS "java/lang/RuntimeException") ∈ lw_tbl := by decide +kernel
theorem in_d1 : Cond.declares (Bundle.initS "java/lang/Exception") ∈ lw_tbl := by decide +kernel
theorem in_d2 : Cond.declares (Bundle.initS Bundle.tN) ∈ lw_tbl := by decide +kernel
theorem xT_start (hts : ∀ w ∈ lw_tbl, w.before #[Value.ref b] s = true) (hs : ∀ w ∈ lwF, w.before #[Value.ref b] s = true) : xT s := by
  refine ⟨?_, ?_, ?_, ?_⟩
  · intro q hq
    simp only [xstr, List.mem_cons, List.not_mem_nil, or_false] at hq
    rcases hq with rfl | rfl | rfl | rfl | rfl | rfl | rfl | rfl | rfl | rfl | rfl | rfl | rfl | rfl | rfl | rfl | rfl | rfl | rfl | rfl | rfl | rfl | rfl
    · exact str_of hts hs in_s47 in_e47
    · exact str_of hts hs in_s58 in_e58
    · exact str_of hts hs in_s65 in_e65
    · exact str_of hts hs in_s77 in_e77
    · exact str_of hts hs in_s86 in_e86
    · exact str_of hts hs in_s96 in_e96
    · exact str_of hts hs in_s102 in_e102
    · exact str_of hts hs in_s114 in_e114
    · exact str_of hts hs in_s123 in_e123
    · exact str_of hts hs in_s138 in_e138
    · exact str_of hts hs in_s147 in_e147
    · exact str_of hts hs in_s152 in_e152
    · exact str_of hts hs in_s157 in_e157
    · exact str_of hts hs in_s160 in_e160
    · exact str_of hts hs in_s162 in_e162
    · exact str_of hts hs in_s177 in_e177
    · exact str_of hts hs in_s182 in_e182
    · exact str_of hts hs in_s190 in_e190
    · exact str_of hts hs in_s200 in_e200
    · exact str_of hts hs in_s203 in_e203
    · exact str_of hts hs in_s216 in_e216
    · exact str_of hts hs in_s228 in_e228
    · exact str_of hts hs in_s243 in_e243
  · intro En hE
    simp only [xEs, List.mem_cons, List.not_mem_nil, or_false] at hE
    rcases hE with rfl | rfl | rfl
    · exact va_Nw.of rfl (hts _ in_k0)
    · exact va_Nw.of rfl (hts _ in_k1)
    · exact va_Nw.of rfl (hts _ in_k2)
  · intro En hE Nm hN hne
    simp only [xEs, List.mem_cons, List.not_mem_nil, or_false] at hE hN
    rcases hE with rfl | rfl | rfl <;> rcases hN with rfl | rfl | rfl
    · exact absurd rfl hne
    · exact va_Nc.of (hs _ in_n01)
    · exact va_Nc.of (hs _ in_n02)
    · exact va_Nc.of (hs _ in_n10)
    · exact absurd rfl hne
    · exact va_Nc.of (hs _ in_n12)
    · exact va_Nc.of (hs _ in_n20)
    · exact va_Nc.of (hs _ in_n21)
    · exact absurd rfl hne
  · intro Y hY
    simp only [xSs, List.mem_cons, List.not_mem_nil, or_false] at hY
    rcases hY with rfl | rfl | rfl
    · exact va_Nw.of rfl (hts _ in_d0)
    · exact va_Nw.of rfl (hts _ in_d1)
    · exact va_Nw.of rfl (hts _ in_d2)
theorem in_z0 : Cond.laysStatic Bundle.tN "UNASSIGNED_STACK" Bundle.steD ∈ lw_tbl := by decide +kernel
theorem in_z1 : Cond.laysStatic Bundle.tN "SUPPRESSED_SENTINEL" Bundle.listD ∈ lw_tbl := by decide +kernel
theorem in_z2 : Cond.initialized Bundle.tN ∈ lw_tbl := by decide +kernel
theorem in_z3 : Cond.isRef (.static Bundle.tN "UNASSIGNED_STACK" Bundle.steD) ∈ lwF := by decide +kernel
theorem in_z4 : Cond.isRef (.static Bundle.tN "SUPPRESSED_SENTINEL" Bundle.listD) ∈ lwF := by decide +kernel
theorem xZ_start (hts : ∀ w ∈ lw_tbl, w.before #[Value.ref b] s = true) (hs : ∀ w ∈ lwF, w.before #[Value.ref b] s = true) : xZ (fun q : Nat => s.heap.size ≤ q) s s.heap :=
  ⟨vx_Zqof (hts _ in_z0) (hts _ in_z2) (hs _ in_z3) (fun a h => Nat.not_le.mpr h), vx_Zqof (hts _ in_z1) (hts _ in_z2) (hs _ in_z4) (fun a h => Nat.not_le.mpr h)⟩
theorem in_nws : ∀ w ∈ nws, w ∈ lw_tbl := by decide +kernel
theorem xN_start (hts : ∀ w ∈ lw_tbl, w.before #[Value.ref b] s = true) : xN s := fun w hw => by
  obtain ⟨a, i, x, h, e⟩ := nws_nest w hw
  have := hts w (in_nws w hw)
  rw [e] at this ⊢
  exact va_Nw.of rfl this
theorem xK_start (hts : ∀ w ∈ lw_tbl, w.before #[Value.ref b] s = true) : ∃ V : xV, xK V s := by
  obtain ⟨c0, i0, kn0⟩ := u_known (C := RX0) (T := TX0) (N := 4) (n := 4) hts inX0 (hts (.instantiable RX0 4) (by decide +kernel))
  obtain ⟨c1, i1, kn1⟩ := u_known (C := RX1) (T := TX1) (N := 7) (n := 7) hts inX1 (hts (.instantiable RX1 7) (by decide +kernel))
  obtain ⟨c2, i2, kn2⟩ := u_known (C := RX2) (T := TX2) (N := 5) (n := 5) hts inX2 (hts (.instantiable RX2 5) (by decide +kernel))
  obtain ⟨c3, i3, kn3⟩ := u_known (C := RX3) (T := TX3) (N := 7) (n := 7) hts inX3 (hts (.instantiable RX3 7) (by decide +kernel))
  obtain ⟨c4, i4, kn4⟩ := u_known (C := RX4) (T := TX4) (N := 8) (n := 8) hts inX4 (hts (.instantiable RX4 8) (by decide +kernel))
  obtain ⟨c5, i5, kn5⟩ := u_known (C := RX5) (T := TX5) (N := 1) (n := 1) hts inX5 (hts (.instantiable RX5 1) (by decide +kernel))
  obtain ⟨c6, i6, kn6⟩ := u_known (C := RX6) (T := TX6) (N := 4) (n := 4) hts inX6 (hts (.instantiable RX6 4) (by decide +kernel))
  obtain ⟨c7, i7, kn7⟩ := u_known (C := RX7) (T := TX7) (N := 8) (n := 8) hts inX7 (hts (.instantiable RX7 8) (by decide +kernel))
  obtain ⟨c8, i8, kn8⟩ := u_known (C := RX8) (T := TX8) (N := 4) (n := 4) hts inX8 (hts (.instantiable RX8 4) (by decide +kernel))
  obtain ⟨c9, i9, kn9⟩ := u_known (C := RX9) (T := TX9) (N := 24) (n := 24) hts inX9 (hts (.instantiable RX9 24) (by decide +kernel))
  obtain ⟨a0, ar0, an0⟩ := arr_of (hts (.arrayClass .int) (by decide +kernel))
  obtain ⟨a1, ar1, an1⟩ := arr_of (hts (.arrayClass .boolean) (by decide +kernel))
  obtain ⟨a2, ar2, an2⟩ := arr_of (hts (.arrayClass .long) (by decide +kernel))
  refine ⟨((fun k => if k = 0 then c0 else if k = 1 then c1 else if k = 2 then c2 else if k = 3 then c3 else if k = 4 then c4 else if k = 5 then c5 else if k = 6 then c6 else if k = 7 then c7 else if k = 8 then c8 else c9, fun k => if k = 0 then i0 else if k = 1 then i1 else if k = 2 then i2 else if k = 3 then i3 else if k = 4 then i4 else if k = 5 then i5 else if k = 6 then i6 else if k = 7 then i7 else if k = 8 then i8 else i9), a0, a1, a2, fun _ => 0), ⟨?_, ?_⟩, xN_start hts⟩
  · intro k q hq
    match k, hq with
    | 0, hq => cases hq; exact kn0
    | 1, hq => cases hq; exact kn1
    | 2, hq => cases hq; exact kn2
    | 3, hq => cases hq; exact kn3
    | 4, hq => cases hq; exact kn4
    | 5, hq => cases hq; exact kn5
    | 6, hq => cases hq; exact kn6
    | 7, hq => cases hq; exact kn7
    | 8, hq => cases hq; exact kn8
    | 9, hq => cases hq; exact kn9
    | k + 10, hq => simp [vwCl] at hq
  · intro k q hq
    match k, hq with
    | 0, hq => cases hq; exact ⟨ar0, an0⟩
    | 1, hq => cases hq; exact ⟨ar1, an1⟩
    | 2, hq => cases hq; exact ⟨ar2, an2⟩
    | k + 3, hq => simp [xty] at hq
end BG

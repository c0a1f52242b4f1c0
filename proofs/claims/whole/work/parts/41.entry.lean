/-! ===== what is known at the law's entry ===== -/
set_option maxRecDepth 100000 in
theorem we_ao0 : Cond.arrayOver (.object RX0) ∈ lw_tbl := List.mem_of_getElem? (i := 167) rfl
set_option maxRecDepth 100000 in
theorem we_ao3 : Cond.arrayOver (.object RX3) ∈ lw_tbl := List.mem_of_getElem? (i := 951) rfl
set_option maxRecDepth 100000 in
theorem we_ao4 : Cond.arrayOver (.object RX4) ∈ lw_tbl := List.mem_of_getElem? (i := 105) rfl
set_option maxRecDepth 100000 in
theorem we_ao5 : Cond.arrayOver (.object RX5) ∈ lw_tbl := List.mem_of_getElem? (i := 154) rfl
set_option maxRecDepth 100000 in
theorem we_ao6 : Cond.arrayOver (.object RX6) ∈ lw_tbl := List.mem_of_getElem? (i := 140) rfl
set_option maxRecDepth 100000 in
theorem we_ao7 : Cond.arrayOver (.object RX7) ∈ lw_tbl := List.mem_of_getElem? (i := 252) rfl
set_option maxRecDepth 100000 in
theorem we_aoa : Cond.arrayOver (.array .int) ∈ lw_tbl := List.mem_of_getElem? (i := 250) rfl
set_option maxRecDepth 100000 in
theorem we_ls1 : Cond.laysStatic Bundle.tN "UNASSIGNED_STACK" Bundle.steD ∈ lw_tbl := List.mem_of_getElem? (i := 397) rfl
set_option maxRecDepth 100000 in
theorem we_ls2 : Cond.laysStatic Bundle.tN "SUPPRESSED_SENTINEL" Bundle.listD ∈ lw_tbl := List.mem_of_getElem? (i := 399) rfl
set_option maxRecDepth 100000 in
theorem we_ti : Cond.initialized Bundle.tN ∈ lw_tbl := List.mem_of_getElem? (i := 78) rfl
set_option maxRecDepth 100000 in
theorem we_lsa : Cond.laysStatic RX3 "STARTS" "[I" ∈ lw_tbl := List.mem_of_getElem? (i := 992) rfl
set_option maxRecDepth 100000 in
theorem we_lsb : Cond.laysStatic RX3 "SETS" "[I" ∈ lw_tbl := List.mem_of_getElem? (i := 994) rfl
set_option maxRecDepth 100000 in
theorem we_n0 : Cond.methodLinkNest RX8 15 yX4_init RX8 ∈ lw_tbl := List.mem_of_getElem? (i := 107) rfl
set_option maxRecDepth 100000 in
theorem we_n1 : Cond.methodLinkNest RX8 22 yX6_init RX8 ∈ lw_tbl := List.mem_of_getElem? (i := 142) rfl
set_option maxRecDepth 100000 in
theorem we_n2 : Cond.methodLinkNest RX8 32 yX5_init RX8 ∈ lw_tbl := List.mem_of_getElem? (i := 156) rfl
set_option maxRecDepth 100000 in
theorem we_n3 : Cond.methodLinkNest RX5 28 yX8_bigs RX8 ∈ lw_tbl := List.mem_of_getElem? (i := 160) rfl
set_option maxRecDepth 100000 in
theorem we_n4 : Cond.methodLinkNest RX8 80 yX0_init RX8 ∈ lw_tbl := List.mem_of_getElem? (i := 169) rfl
set_option maxRecDepth 100000 in
theorem we_n5 : Cond.methodLinkNest RX5 38 yX0_init RX8 ∈ lw_tbl := List.mem_of_getElem? (i := 190) rfl
set_option maxRecDepth 100000 in
theorem we_n6 : Cond.methodLinkNest RX5 51 yX1_init RX8 ∈ lw_tbl := List.mem_of_getElem? (i := 193) rfl
set_option maxRecDepth 100000 in
theorem we_n7 : Cond.methodLinkNest RX1 18 yX0_init RX8 ∈ lw_tbl := List.mem_of_getElem? (i := 198) rfl
set_option maxRecDepth 100000 in
theorem we_n8 : Cond.methodLinkNest RX8 65 yX7_init RX8 ∈ lw_tbl := List.mem_of_getElem? (i := 254) rfl
set_option maxRecDepth 100000 in
theorem we_n9 : Cond.methodLinkNest RX7 9 yX8_bigs RX8 ∈ lw_tbl := List.mem_of_getElem? (i := 258) rfl
set_option maxRecDepth 100000 in
theorem we_n10 : Cond.methodLinkNest RX7 21 yX0_init RX8 ∈ lw_tbl := List.mem_of_getElem? (i := 260) rfl
set_option maxRecDepth 100000 in
theorem we_n11 : Cond.methodLinkNest RX2 9 yX0_init RX8 ∈ lw_tbl := List.mem_of_getElem? (i := 282) rfl
set_option maxRecDepth 100000 in
theorem we_n12 : Cond.methodLinkNest RX8 97 yX1_init RX8 ∈ lw_tbl := List.mem_of_getElem? (i := 302) rfl
set_option maxRecDepth 100000 in
theorem we_n13 : Cond.declares ⟨"java/lang/RuntimeException", "<init>", "(Ljava/lang/String;)V"⟩ ∈ lw_tbl := List.mem_of_getElem? (i := 374) rfl
set_option maxRecDepth 100000 in
theorem we_n14 : Cond.declares ⟨"java/lang/Exception", "<init>", "(Ljava/lang/String;)V"⟩ ∈ lw_tbl := List.mem_of_getElem? (i := 376) rfl
set_option maxRecDepth 100000 in
theorem we_n15 : Cond.declares ⟨"java/lang/Throwable", "<init>", "(Ljava/lang/String;)V"⟩ ∈ lw_tbl := List.mem_of_getElem? (i := 378) rfl
set_option maxRecDepth 100000 in
theorem we_n16 : Cond.castable R_iae R_iae ∈ lw_tbl := List.mem_of_getElem? (i := 372) rfl
set_option maxRecDepth 100000 in
theorem we_n17 : Cond.castable R_ise R_ise ∈ lw_tbl := List.mem_of_getElem? (i := 481) rfl
set_option maxRecDepth 100000 in
theorem we_n18 : Cond.castable R_ioe R_ioe ∈ lw_tbl := List.mem_of_getElem? (i := 915) rfl
set_option maxRecDepth 100000 in
theorem we_s0 : Cond.stringRef RX8 104 "rows and columns are 1 to 6" ∈ lw_tbl := List.mem_of_getElem? (i := 412) rfl
set_option maxRecDepth 100000 in
theorem we_s1 : Cond.stringRef RX8 258 "no game" ∈ lw_tbl := List.mem_of_getElem? (i := 488) rfl
set_option maxRecDepth 100000 in
theorem we_s2 : Cond.stringRef RX8 260 "no such player" ∈ lw_tbl := List.mem_of_getElem? (i := 499) rfl
set_option maxRecDepth 100000 in
theorem we_s3 : Cond.stringRef RX8 262 "no such row or column" ∈ lw_tbl := List.mem_of_getElem? (i := 504) rfl
set_option maxRecDepth 100000 in
theorem we_s4 : Cond.stringRef RX8 128 "no such payoff" ∈ lw_tbl := List.mem_of_getElem? (i := 505) rfl
set_option maxRecDepth 100000 in
theorem we_s5 : Cond.stringRef RX8 134 "no such label" ∈ lw_tbl := List.mem_of_getElem? (i := 520) rfl
set_option maxRecDepth 100000 in
theorem we_s6 : Cond.stringRef RX8 146 "no run" ∈ lw_tbl := List.mem_of_getElem? (i := 912) rfl
set_option maxRecDepth 100000 in
theorem we_s7 : Cond.stringRef RX8 151 "no such step" ∈ lw_tbl := List.mem_of_getElem? (i := 922) rfl
set_option maxRecDepth 100000 in
theorem we_s8 : Cond.stringRef RX8 154 "what is 0 to 2" ∈ lw_tbl := List.mem_of_getElem? (i := 926) rfl
set_option maxRecDepth 100000 in
theorem we_s9 : Cond.stringRef RX8 156 "no such weight" ∈ lw_tbl := List.mem_of_getElem? (i := 934) rfl
set_option maxRecDepth 100000 in
theorem we_s10 : Cond.stringRef RX8 268 "no such source" ∈ lw_tbl := List.mem_of_getElem? (i := 1058) rfl
set_option maxRecDepth 100000 in
theorem we_s11 : Cond.stringRef RX8 236 "no such entry" ∈ lw_tbl := List.mem_of_getElem? (i := 1194) rfl
set_option maxRecDepth 100000 in
theorem we_s12 : Cond.stringRef RX8 250 "no such part" ∈ lw_tbl := List.mem_of_getElem? (i := 1225) rfl
set_option maxRecDepth 100000 in
theorem we_s13 : Cond.stringRef RX8 256 "what is 0 to 6" ∈ lw_tbl := List.mem_of_getElem? (i := 1240) rfl
abbrev lw_gn : Cond := Jvm.Cond.and given_1 narrow_1
set_option maxRecDepth 100000 in
theorem wg_s0 : Cond.exactly (.string RX8 104) "java/lang/String" ∈ flatC lw_gn := List.mem_of_getElem? (i := 281) rfl
set_option maxRecDepth 100000 in
theorem wg_s1 : Cond.exactly (.string RX8 258) "java/lang/String" ∈ flatC lw_gn := List.mem_of_getElem? (i := 312) rfl
set_option maxRecDepth 100000 in
theorem wg_s2 : Cond.exactly (.string RX8 260) "java/lang/String" ∈ flatC lw_gn := List.mem_of_getElem? (i := 324) rfl
set_option maxRecDepth 100000 in
theorem wg_s3 : Cond.exactly (.string RX8 262) "java/lang/String" ∈ flatC lw_gn := List.mem_of_getElem? (i := 344) rfl
set_option maxRecDepth 100000 in
theorem wg_s4 : Cond.exactly (.string RX8 128) "java/lang/String" ∈ flatC lw_gn := List.mem_of_getElem? (i := 372) rfl
set_option maxRecDepth 100000 in
theorem wg_s5 : Cond.exactly (.string RX8 134) "java/lang/String" ∈ flatC lw_gn := List.mem_of_getElem? (i := 394) rfl
set_option maxRecDepth 100000 in
theorem wg_s6 : Cond.exactly (.string RX8 146) "java/lang/String" ∈ flatC lw_gn := List.mem_of_getElem? (i := 528) rfl
set_option maxRecDepth 100000 in
theorem wg_s7 : Cond.exactly (.string RX8 151) "java/lang/String" ∈ flatC lw_gn := List.mem_of_getElem? (i := 549) rfl
set_option maxRecDepth 100000 in
theorem wg_s8 : Cond.exactly (.string RX8 154) "java/lang/String" ∈ flatC lw_gn := List.mem_of_getElem? (i := 577) rfl
set_option maxRecDepth 100000 in
theorem wg_s9 : Cond.exactly (.string RX8 156) "java/lang/String" ∈ flatC lw_gn := List.mem_of_getElem? (i := 608) rfl
set_option maxRecDepth 100000 in
theorem wg_s10 : Cond.exactly (.string RX8 268) "java/lang/String" ∈ flatC lw_gn := List.mem_of_getElem? (i := 640) rfl
set_option maxRecDepth 100000 in
theorem wg_s11 : Cond.exactly (.string RX8 236) "java/lang/String" ∈ flatC lw_gn := List.mem_of_getElem? (i := 673) rfl
set_option maxRecDepth 100000 in
theorem wg_s12 : Cond.exactly (.string RX8 250) "java/lang/String" ∈ flatC lw_gn := List.mem_of_getElem? (i := 706) rfl
set_option maxRecDepth 100000 in
theorem wg_s13 : Cond.exactly (.string RX8 256) "java/lang/String" ∈ flatC lw_gn := List.mem_of_getElem? (i := 739) rfl
set_option maxRecDepth 100000 in
theorem wg_c0 : Cond.not (.castable R_iae R_ise) ∈ flatC lw_gn := List.mem_of_getElem? (i := 261) rfl
set_option maxRecDepth 100000 in
theorem wg_c1 : Cond.not (.castable R_iae R_ioe) ∈ flatC lw_gn := List.mem_of_getElem? (i := 276) rfl
set_option maxRecDepth 100000 in
theorem wg_c2 : Cond.not (.castable R_ioe R_ise) ∈ flatC lw_gn := List.mem_of_getElem? (i := 265) rfl
set_option maxRecDepth 100000 in
theorem wg_u : Cond.isRef (.static Bundle.tN "UNASSIGNED_STACK" Bundle.steD) ∈ flatC lw_gn := List.mem_of_getElem? (i := 4) rfl
set_option maxRecDepth 100000 in
theorem wg_n : Cond.isRef (.static Bundle.tN "SUPPRESSED_SENTINEL" Bundle.listD) ∈ flatC lw_gn := List.mem_of_getElem? (i := 5) rfl
set_option maxRecDepth 100000 in
theorem wg_aa : Cond.arrayOf (.static RX3 "STARTS" "[I") .int ∈ flatC lw_gn := List.mem_of_getElem? (i := 218) rfl
set_option maxRecDepth 100000 in
theorem wg_al : Cond.eq (.length (.static RX3 "STARTS" "[I")) (.int 7) ∈ flatC lw_gn := List.mem_of_getElem? (i := 219) rfl
set_option maxRecDepth 100000 in
theorem wg_a0 : Cond.eq (.elem (.static RX3 "STARTS" "[I") (.int 0)) (.int 0) ∈ flatC lw_gn := List.mem_of_getElem? (i := 220) rfl
set_option maxRecDepth 100000 in
theorem wg_a1 : Cond.eq (.elem (.static RX3 "STARTS" "[I") (.int 1)) (.int 1) ∈ flatC lw_gn := List.mem_of_getElem? (i := 221) rfl
set_option maxRecDepth 100000 in
theorem wg_a2 : Cond.eq (.elem (.static RX3 "STARTS" "[I") (.int 2)) (.int 37) ∈ flatC lw_gn := List.mem_of_getElem? (i := 222) rfl
set_option maxRecDepth 100000 in
theorem wg_a3 : Cond.eq (.elem (.static RX3 "STARTS" "[I") (.int 3)) (.int 262) ∈ flatC lw_gn := List.mem_of_getElem? (i := 223) rfl
set_option maxRecDepth 100000 in
theorem wg_a4 : Cond.eq (.elem (.static RX3 "STARTS" "[I") (.int 4)) (.int 662) ∈ flatC lw_gn := List.mem_of_getElem? (i := 224) rfl
set_option maxRecDepth 100000 in
theorem wg_a5 : Cond.eq (.elem (.static RX3 "STARTS" "[I") (.int 5)) (.int 887) ∈ flatC lw_gn := List.mem_of_getElem? (i := 225) rfl
set_option maxRecDepth 100000 in
theorem wg_a6 : Cond.eq (.elem (.static RX3 "STARTS" "[I") (.int 6)) (.int 923) ∈ flatC lw_gn := List.mem_of_getElem? (i := 226) rfl
set_option maxRecDepth 100000 in
theorem wg_ba : Cond.arrayOf (.static RX3 "SETS" "[I") .int ∈ flatC lw_gn := List.mem_of_getElem? (i := 228) rfl
set_option maxRecDepth 100000 in
theorem wg_bl : Cond.eq (.length (.static RX3 "SETS" "[I")) (.int 7) ∈ flatC lw_gn := List.mem_of_getElem? (i := 229) rfl
set_option maxRecDepth 100000 in
theorem wg_b0 : Cond.eq (.elem (.static RX3 "SETS" "[I") (.int 0)) (.int 1) ∈ flatC lw_gn := List.mem_of_getElem? (i := 230) rfl
set_option maxRecDepth 100000 in
theorem wg_b1 : Cond.eq (.elem (.static RX3 "SETS" "[I") (.int 1)) (.int 6) ∈ flatC lw_gn := List.mem_of_getElem? (i := 231) rfl
set_option maxRecDepth 100000 in
theorem wg_b2 : Cond.eq (.elem (.static RX3 "SETS" "[I") (.int 2)) (.int 15) ∈ flatC lw_gn := List.mem_of_getElem? (i := 232) rfl
set_option maxRecDepth 100000 in
theorem wg_b3 : Cond.eq (.elem (.static RX3 "SETS" "[I") (.int 3)) (.int 20) ∈ flatC lw_gn := List.mem_of_getElem? (i := 233) rfl
set_option maxRecDepth 100000 in
theorem wg_b4 : Cond.eq (.elem (.static RX3 "SETS" "[I") (.int 4)) (.int 15) ∈ flatC lw_gn := List.mem_of_getElem? (i := 234) rfl
set_option maxRecDepth 100000 in
theorem wg_b5 : Cond.eq (.elem (.static RX3 "SETS" "[I") (.int 5)) (.int 6) ∈ flatC lw_gn := List.mem_of_getElem? (i := 235) rfl
set_option maxRecDepth 100000 in
theorem wg_b6 : Cond.eq (.elem (.static RX3 "SETS" "[I") (.int 6)) (.int 1) ∈ flatC lw_gn := List.mem_of_getElem? (i := 236) rfl
theorem we_aoa_of {s : State} {A : Array Value} (h : (Cond.arrayOver (.array .int)).before A s = true) : xx_AOA s := h
theorem xx_forget {s t : State} {L : List Loc} {k n : Nat} (h : s.sameButNew t L k n) (hL : ∀ q ∈ L, s.heap.size ≤ q.base) : s.sameButNew t [] k n :=
  ⟨h.1, h.2.1, h.2.2.1, h.2.2.2.1, h.2.2.2.2.1, fun a c hc => by
    obtain ⟨c', e1, e2, e3, e4⟩ := h.2.2.2.2.2 a c hc
    refine ⟨c', e1, e2, e3, fun i _ => e4 i (fun q => ?_)⟩
    have h1 := hL _ q
    have h2 := (Array.getElem?_eq_some_iff.mp hc).1
    exact absurd h2 (Nat.not_lt.mpr h1)⟩
theorem xx_aot {s : State} {c : ClassId} {k : Class} {comp : ClassId} {ty : FieldType} (h1 : s.vm.classes[c]? = some k) (h2 : k.kind = .array comp ty) : ArrOfT s c ty := fun _ _ => ⟨fun _ h => (by cases h), k, h1, comp, h2⟩
/-- the numbers of the classes, of their slots, of the array classes; all that the rows ask of the tables -/
theorem k_K {s : State} {b : Nat} {scr : Cell} (hts : ∀ w ∈ lw_tbl, w.before #[Value.ref b] s = true) (hgv : lw_gn.before #[Value.ref b] s = true) (hof : s.isArrayOf scr .int) : ∃ (D : va_G) (dA : Nat → ClassId), dA 2 = scr.cls ∧ xx_K (s.heap, D, dA) s := by
  have hc : ∀ c : Nat, ∃ (cC : ClassId) (iS : Nat → Nat), ∀ q : vw_C, xx_cl[c]? = some q → u_Kn s q.1 q.2.1 q.2.2 cC iS := by
    intro c
    match c with
    | 0 =>
      obtain ⟨cC, iS, h⟩ := u_known (C := RX0) (T := TX0) (N := 3) (n := 3) hts (fun w hw => (List.mem_filter.mp (xx_cin xx_c0 w hw)).1) (hts _ wn_X0)
      exact ⟨cC, iS, fun q hq => by cases hq; exact h⟩
    | 1 =>
      obtain ⟨cC, iS, h⟩ := u_known (C := RX1) (T := TX1) (N := 6) (n := 6) hts (fun w hw => (List.mem_filter.mp (xx_cin xx_c1 w hw)).1) (hts _ wn_X1)
      exact ⟨cC, iS, fun q hq => by cases hq; exact h⟩
    | 2 =>
      obtain ⟨cC, iS, h⟩ := u_known (C := RX2) (T := TX2) (N := 2) (n := 2) hts (fun w hw => (List.mem_filter.mp (xx_cin xx_c2 w hw)).1) (hts _ wn_X2)
      exact ⟨cC, iS, fun q hq => by cases hq; exact h⟩
    | 3 =>
      obtain ⟨cC, iS, h⟩ := u_known (C := RX3) (T := TX3) (N := 5) (n := 5) hts (fun w hw => (List.mem_filter.mp (xx_cin xx_c3 w hw)).1) (hts _ wn_X3)
      exact ⟨cC, iS, fun q hq => by cases hq; exact h⟩
    | 4 =>
      obtain ⟨cC, iS, h⟩ := u_known (C := RX4) (T := TX4) (N := 7) (n := 7) hts (fun w hw => (List.mem_filter.mp (xx_cin xx_c4 w hw)).1) (hts _ wn_X4)
      exact ⟨cC, iS, fun q hq => by cases hq; exact h⟩
    | 5 =>
      obtain ⟨cC, iS, h⟩ := u_known (C := RX5) (T := TX5) (N := 10) (n := 10) hts (fun w hw => (List.mem_filter.mp (xx_cin xx_c5 w hw)).1) (hts _ wn_X5)
      exact ⟨cC, iS, fun q hq => by cases hq; exact h⟩
    | 6 =>
      obtain ⟨cC, iS, h⟩ := u_known (C := RX6) (T := TX6) (N := 2) (n := 2) hts (fun w hw => (List.mem_filter.mp (xx_cin xx_c6 w hw)).1) (hts _ wn_X6)
      exact ⟨cC, iS, fun q hq => by cases hq; exact h⟩
    | 7 =>
      obtain ⟨cC, iS, h⟩ := u_known (C := RX7) (T := TX7) (N := 2) (n := 2) hts (fun w hw => (List.mem_filter.mp (xx_cin xx_c7 w hw)).1) (hts _ wn_X7)
      exact ⟨cC, iS, fun q hq => by cases hq; exact h⟩
    | 8 =>
      obtain ⟨cC, iS, h⟩ := u_known (C := RX8) (T := TX8) (N := 18) (n := 18) hts (fun w hw => (List.mem_filter.mp (xx_cin xx_c8 w hw)).1) (hts _ wn_X8)
      exact ⟨cC, iS, fun q hq => by cases hq; exact h⟩
    | 9 =>
      obtain ⟨cC, iS, h⟩ := u_known (C := RX9) (T := TX9) (N := 29) (n := 29) hts (fun w hw => (List.mem_filter.mp (xx_cin xx_c9 w hw)).1) (hts _ wn_X9)
      exact ⟨cC, iS, fun q hq => by cases hq; exact h⟩
    | c + 10 => exact ⟨scr.cls, fun _ => 0, fun q hq => by simp [xx_cl] at hq⟩
  obtain ⟨i1, i2, i3, i4, i5, i6⟩ := Cond.arrayClass_spec (hts _ wa_int)
  obtain ⟨l1, l2, l3, l4, l5, l6⟩ := Cond.arrayClass_spec (hts _ wa_long)
  obtain ⟨z1, z2, z3, z4, z5, z6⟩ := Cond.arrayClass_spec (hts _ wa_boolean)
  obtain ⟨o1, o2, o3, o4, o5, o6, o7, o8⟩ := arrayOverA_spec (hts _ we_aoa)
  obtain ⟨a0, b0, c0, d0, e0, f0, g0, h0⟩ := Cond.arrayOver_spec (hts _ we_ao0)
  obtain ⟨a3, b3, c3, d3, e3, f3, g3, h3⟩ := Cond.arrayOver_spec (hts _ we_ao3)
  obtain ⟨a4, b4, c4, d4, e4, f4, g4, h4⟩ := Cond.arrayOver_spec (hts _ we_ao4)
  obtain ⟨a5, b5, c5, d5, e5, f5, g5, h5⟩ := Cond.arrayOver_spec (hts _ we_ao5)
  obtain ⟨a6, b6, c6, d6, e6, f6, g6, h6⟩ := Cond.arrayOver_spec (hts _ we_ao6)
  obtain ⟨a7, b7, c7, d7, e7, f7, g7, h7⟩ := Cond.arrayOver_spec (hts _ we_ao7)
  obtain ⟨ta, ua, va⟩ := va_Tof (N := 7) (f := yST) (A := fun q => s.heap.size ≤ q) (by decide) (flat_of_before _ hgv _ wg_aa) (va_eqt (flat_of_before _ hgv _ wg_al)) (fun j hj => by
    match j, hj with
    | 0, _ => exact va_eqt (flat_of_before _ hgv _ wg_a0)
    | 1, _ => exact va_eqt (flat_of_before _ hgv _ wg_a1)
    | 2, _ => exact va_eqt (flat_of_before _ hgv _ wg_a2)
    | 3, _ => exact va_eqt (flat_of_before _ hgv _ wg_a3)
    | 4, _ => exact va_eqt (flat_of_before _ hgv _ wg_a4)
    | 5, _ => exact va_eqt (flat_of_before _ hgv _ wg_a5)
    | 6, _ => exact va_eqt (flat_of_before _ hgv _ wg_a6)
    | j + 7, h => omega) (fun a ha => Nat.not_le.mpr ha)
  obtain ⟨tb, ub, vb⟩ := va_Tof (N := 7) (f := ySE) (A := fun q => s.heap.size ≤ q) (by decide) (flat_of_before _ hgv _ wg_ba) (va_eqt (flat_of_before _ hgv _ wg_bl)) (fun j hj => by
    match j, hj with
    | 0, _ => exact va_eqt (flat_of_before _ hgv _ wg_b0)
    | 1, _ => exact va_eqt (flat_of_before _ hgv _ wg_b1)
    | 2, _ => exact va_eqt (flat_of_before _ hgv _ wg_b2)
    | 3, _ => exact va_eqt (flat_of_before _ hgv _ wg_b3)
    | 4, _ => exact va_eqt (flat_of_before _ hgv _ wg_b4)
    | 5, _ => exact va_eqt (flat_of_before _ hgv _ wg_b5)
    | 6, _ => exact va_eqt (flat_of_before _ hgv _ wg_b6)
    | j + 7, h => omega) (fun a ha => Nat.not_le.mpr ha)
  refine ⟨(fun c => (hc c).choose, fun c => if c = 10 then (fun j => if j = 0 then ta else tb) else (hc c).choose_spec.choose), fun k => match k with | 1 => i1 | 2 => scr.cls | 3 => l1 | 4 => z1 | 5 => o2 | 10 => b0 | 13 => b3 | 14 => b4 | 15 => b5 | 16 => b6 | 17 => b7 | _ => scr.cls, rfl, ?_⟩
  refine ⟨fun c q hq => ?_, ?_, fun n z => ⟨fun _ h => (by cases h), hof.2⟩, ?_, ?_, we_aoa_of (hts _ we_aoa), ?_, ?_, ?_, ?_, ⟨va_Zof (hts _ we_lsa) (hts _ wz_X3) ua (fun a ha => Nat.not_le.mpr ha), va, va_Zof (hts _ we_lsb) (hts _ wz_X3) ub (fun a ha => Nat.not_le.mpr ha), vb⟩⟩
  · by_cases e : c = 10
    · subst e; simp [xx_cl] at hq
    · show u_Kn s q.1 q.2.1 q.2.2 (hc c).choose (if c = 10 then _ else (hc c).choose_spec.choose)
      rw [if_neg e]
      exact (hc c).choose_spec.choose_spec q hq
  · intro k hk
    simp only [List.mem_cons, List.not_mem_nil, or_false] at hk
    rcases hk with rfl | rfl | rfl | rfl | rfl | rfl | rfl | rfl | rfl | rfl
    · exact ⟨xx_aot i5 i6, i4⟩
    · exact ⟨xx_aot l5 l6, l4⟩
    · exact ⟨xx_aot z5 z6, z4⟩
    · exact ⟨xx_aot o6 o7, o8⟩
    · exact ⟨xx_aot f0 g0, ⟨c0, a0, f0, g0, d0, h0⟩⟩
    · exact ⟨xx_aot f3 g3, ⟨c3, a3, f3, g3, d3, h3⟩⟩
    · exact ⟨xx_aot f4 g4, ⟨c4, a4, f4, g4, d4, h4⟩⟩
    · exact ⟨xx_aot f5 g5, ⟨c5, a5, f5, g5, d5, h5⟩⟩
    · exact ⟨xx_aot f6 g6, ⟨c6, a6, f6, g6, d6, h6⟩⟩
    · exact ⟨xx_aot f7 g7, ⟨c7, a7, f7, g7, d7, h7⟩⟩
  · intro w hw
    simp only [List.mem_cons, List.not_mem_nil, or_false] at hw
    rcases hw with rfl | rfl | rfl | rfl | rfl | rfl | rfl | rfl | rfl | rfl | rfl | rfl | rfl | rfl | rfl | rfl | rfl | rfl | rfl
    · exact va_Nw.of rfl (hts _ we_n0)
    · exact va_Nw.of rfl (hts _ we_n1)
    · exact va_Nw.of rfl (hts _ we_n2)
    · exact va_Nw.of rfl (hts _ we_n3)
    · exact va_Nw.of rfl (hts _ we_n4)
    · exact va_Nw.of rfl (hts _ we_n5)
    · exact va_Nw.of rfl (hts _ we_n6)
    · exact va_Nw.of rfl (hts _ we_n7)
    · exact va_Nw.of rfl (hts _ we_n8)
    · exact va_Nw.of rfl (hts _ we_n9)
    · exact va_Nw.of rfl (hts _ we_n10)
    · exact va_Nw.of rfl (hts _ we_n11)
    · exact va_Nw.of rfl (hts _ we_n12)
    · exact va_Nw.of rfl (hts _ we_n13)
    · exact va_Nw.of rfl (hts _ we_n14)
    · exact va_Nw.of rfl (hts _ we_n15)
    · exact va_Nw.of rfl (hts _ we_n16)
    · exact va_Nw.of rfl (hts _ we_n17)
    · exact va_Nw.of rfl (hts _ we_n18)
  · intro C hC
    simp only [List.mem_cons, List.not_mem_nil, or_false] at hC
    rcases hC with rfl | rfl | rfl | rfl | rfl | rfl
    · exact hts _ we_ao4
    · exact hts _ we_ao6
    · exact hts _ we_ao5
    · exact hts _ we_ao0
    · exact hts _ we_ao7
    · exact hts _ we_ao3
  · intro q hq
    simp only [List.mem_cons, List.not_mem_nil, or_false] at hq
    rcases hq with rfl | rfl | rfl | rfl | rfl | rfl | rfl | rfl | rfl | rfl | rfl | rfl | rfl | rfl
    · obtain ⟨sa, _, _, _, he, _⟩ := Cond.exactly_spec (flat_of_before _ hgv _ wg_s0)
      exact ⟨sa, hts _ we_s0, he⟩
    · obtain ⟨sa, _, _, _, he, _⟩ := Cond.exactly_spec (flat_of_before _ hgv _ wg_s1)
      exact ⟨sa, hts _ we_s1, he⟩
    · obtain ⟨sa, _, _, _, he, _⟩ := Cond.exactly_spec (flat_of_before _ hgv _ wg_s2)
      exact ⟨sa, hts _ we_s2, he⟩
    · obtain ⟨sa, _, _, _, he, _⟩ := Cond.exactly_spec (flat_of_before _ hgv _ wg_s3)
      exact ⟨sa, hts _ we_s3, he⟩
    · obtain ⟨sa, _, _, _, he, _⟩ := Cond.exactly_spec (flat_of_before _ hgv _ wg_s4)
      exact ⟨sa, hts _ we_s4, he⟩
    · obtain ⟨sa, _, _, _, he, _⟩ := Cond.exactly_spec (flat_of_before _ hgv _ wg_s5)
      exact ⟨sa, hts _ we_s5, he⟩
    · obtain ⟨sa, _, _, _, he, _⟩ := Cond.exactly_spec (flat_of_before _ hgv _ wg_s6)
      exact ⟨sa, hts _ we_s6, he⟩
    · obtain ⟨sa, _, _, _, he, _⟩ := Cond.exactly_spec (flat_of_before _ hgv _ wg_s7)
      exact ⟨sa, hts _ we_s7, he⟩
    · obtain ⟨sa, _, _, _, he, _⟩ := Cond.exactly_spec (flat_of_before _ hgv _ wg_s8)
      exact ⟨sa, hts _ we_s8, he⟩
    · obtain ⟨sa, _, _, _, he, _⟩ := Cond.exactly_spec (flat_of_before _ hgv _ wg_s9)
      exact ⟨sa, hts _ we_s9, he⟩
    · obtain ⟨sa, _, _, _, he, _⟩ := Cond.exactly_spec (flat_of_before _ hgv _ wg_s10)
      exact ⟨sa, hts _ we_s10, he⟩
    · obtain ⟨sa, _, _, _, he, _⟩ := Cond.exactly_spec (flat_of_before _ hgv _ wg_s11)
      exact ⟨sa, hts _ we_s11, he⟩
    · obtain ⟨sa, _, _, _, he, _⟩ := Cond.exactly_spec (flat_of_before _ hgv _ wg_s12)
      exact ⟨sa, hts _ we_s12, he⟩
    · obtain ⟨sa, _, _, _, he, _⟩ := Cond.exactly_spec (flat_of_before _ hgv _ wg_s13)
      exact ⟨sa, hts _ we_s13, he⟩
  · intro q hq
    simp only [List.mem_cons, List.not_mem_nil, or_false] at hq
    rcases hq with rfl | rfl | rfl
    · exact va_Nc.of (flat_of_before _ hgv _ wg_c0)
    · exact va_Nc.of (flat_of_before _ hgv _ wg_c1)
    · exact va_Nc.of (flat_of_before _ hgv _ wg_c2)
  · exact vx_Zqof (hts _ we_ls1) (hts _ we_ti) (flat_of_before _ hgv _ wg_u) (fun a ha => Nat.not_le.mpr ha)
  · exact vx_Zqof (hts _ we_ls2) (hts _ we_ti) (flat_of_before _ hgv _ wg_n) (fun a ha => Nat.not_le.mpr ha)
abbrev xx_A0 (s : State) (b L : Nat) (xs : Nat → Int32) : xx_H := (s.heap.size, fun q => if q = b then xx_s L xs else (0, 0, fun _ => .null))
/-- the law's entry, out of its walk over the pictured heap -/
theorem k_entry {p : Program} {e : Env} {s : State} {m : MethodId} {below : List Frame} {meth : Method} {c : Code} {l : Launch} {b L d c1 s1 : Nat} {xs : Nat → Int32} (hx : p.tables.exec = Jvm.exec) (hb : c.code = code) (hr : meth.sig.returnType = ret) (hml : c.maxLocals = 8) (hown : s.vm.findClass RL = some m.cls) (hts : ∀ w ∈ lw_tbl, w.before #[Value.ref b] s = true) (hX : va_X b L xs s s.heap) (hbl : b < s.heap.size) (hlocks : meth.locks = false) (hgv : lw_gn.before #[Value.ref b] s = true) (hst : l.stackTraces = false) (hex : c.exceptionTable.isEmpty = true) (hnm : meth.name = yL_law.name)
    (hd : d ≤ room_1.frames) (hdl : 48 * d + 400 ≤ room_1.locals) (hc1 : c1 ≤ room_1.cells) (hs1 : s1 ≤ room_1.slots) (K : ∀ G : xx_G, xx_X G l mL_law d c1 s1 0 [(0, .ref b)] [] (xx_A0 s b L xs) (fun r _ => r = .inl (some (.int 1)))) :
    W p l e room_1 s m #[Value.ref b] below meth c s.heap [] 0 0 (fun t => ∃ o, t.status = .running ∧ Ended t below o ∧ o = .returned (some (.int 1)) ∧ s.WarmedH t.vm ∧ s.sameButNew { t with vm := s.vm } [] room_1.cells room_1.slots) (entryFrame m ([Value.ref b] : List Value).toArray 8) := by
  obtain ⟨scr, hcb, hof, hkn, hsz, hval⟩ := hX
  obtain ⟨D, dA, hd2, hK⟩ := k_K hts hgv hof
  have hl := lv_entry ([.ref b]) (n := 8) (Nat.le_of_ble_eq_true rfl)
  rw [lg_entry_eq]
  generalize (lg_sl ([.ref b]) ++ List.replicate (8 - (lg_sl ([.ref b])).length) Slot.unset).toArray = ls at hl ⊢
  have hl : lv_has ls 8 [(0, .ref b)] := hl
  have hR : xx_R (s.heap, D, dA) (xx_A0 s b L xs) s.heap := by
    refine ⟨rfl, Nat.le_refl _, fun q _ => rfl, fun a => ?_⟩
    show xx_at _ a (if a = b then xx_s L xs else (0, 0, fun _ => .null)) s.heap
    by_cases e : a = b
    · rw [if_pos e, e]
      exact Or.inr (Or.inl ⟨rfl, scr, hcb, hd2.symm, hkn, hof.1, hsz, hval⟩)
    · rw [if_neg e]
      exact Or.inl rfl
  have hO : xx_O (s.heap, D, dA) l mL_law d c1 s1 [(0, .ref b)] (xx_A0 s b L xs) p room_1 s m #[Value.ref b] meth c s.heap [] 0 0 ls := by
    refine ⟨⟨hx, hb, hml, hr, hlocks, ?_, hown, hnm⟩, ⟨fun w hw _ => hts w hw, hK, hst, Nat.le_refl _⟩, ⟨hd, hdl, by omega, by omega⟩, hR, fun q hq => (by cases hq), hl⟩
    have : c.exceptionTable = #[] := by simpa using hex
    rw [this]
    rfl
  intro T hT X
  obtain ⟨t, st, o, r, B, Lq, g1, g2, g3, g4, g5, g6, g7, g8⟩ := K (s.heap, D, dA) p e room_1 s m #[Value.ref b] below meth c s.heap [] 0 0 ls hO T hT X
  subst g4
  exact ⟨t, st, o, g1, g2, g3, g6, xx_forget g8 g7⟩

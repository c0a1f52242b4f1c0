/-! ===== what game needs of both ===== -/
def yx_z0 : Nat → Nat → Int := fun _ _ => 0
def yx_t0 : Nat → Nat → Nat := fun _ _ => 0
def yx_o1 : Nat → Nat → Nat := fun _ _ => 1
theorem yx_Aun : yl_A 0 1 = 0 := by decide +kernel
theorem yx_Dun : yl_D 0 1 = 1 := by decide +kernel
theorem yx_r01 : yl_raw yx_z0 yx_o1 := fun p hp k hk => ⟨(by decide : (0 : Int).natAbs ≤ 9999), (by decide : 1 ≤ 1), (by decide : 1 ≤ 12)⟩
theorem yx_k01 {m n : Nat} : yt_ok m n yx_t0 yx_o1 := fun p hp k hk => ⟨(by decide : 0 ≤ 999), (by decide : 1 ≤ 1), (by decide : 1 ≤ 999), fun _ => ⟨rfl, rfl⟩⟩
theorem yx_rl0 : ∀ p k, yy_rl (fun _ => 0) (fun _ => 1) p k = 1 := fun p k => yy_rl01 p k
def yx_g (B : xx_H) (b : Nat) (u w9 : Int) (u8 : Value) : Prop := (∃ u6 u7 u10 u11 : Value, B.2 b = xx_o 8 [.ref (b + 1), .ref (b + 2), .ref (b + 11), .ref (b + 18), .ref (b + 19), .ref (b + 226), u6, u7, u8, .ref (b + 230), u10, u11, .ref (b + 233), .ref (b + 266), .ref (b + 279), .ref (b + 281), .ref (b + 283), .ref (b + 288)]) ∧ (∃ f, B.2 (b + 1) = xx_i 2 f) ∧ (B.2 (b + 2) = xx_r 14 2 (va_up (va_up (fun _ => none) (0 : Int32).toNatClampNeg (some (b + 3))) (1 : Int32).toNatClampNeg (some (b + 7)))) ∧ (B.2 (b + 11) = xx_r 16 2 (va_up (va_up (fun _ => none) (0 : Int32).toNatClampNeg (some (b + 12))) (1 : Int32).toNatClampNeg (some (b + 15)))) ∧ (∃ x y m e : Int32, B.2 (b + 3) = xx_o 4 [.int x, .int y, .int m, .int e, .ref (b + 4), .ref (b + 5), .ref (b + 6)]) ∧ (∃ f, B.2 (b + 4) = xx_i 36 f) ∧ (∃ f, B.2 (b + 5) = xx_i 36 f) ∧ (∃ f, B.2 (b + 6) = xx_i 36 f) ∧ (∃ x y m e : Int32, B.2 (b + 7) = xx_o 4 [.int x, .int y, .int m, .int e, .ref (b + 8), .ref (b + 9), .ref (b + 10)]) ∧ (∃ f, B.2 (b + 8) = xx_i 36 f) ∧ (∃ f, B.2 (b + 9) = xx_i 36 f) ∧ (∃ f, B.2 (b + 10) = xx_i 36 f) ∧ (B.2 (b + 12) = xx_o 6 [.ref (b + 13), .ref (b + 14)]) ∧ (∃ f, B.2 (b + 13) = xx_i 6 f) ∧ (∃ f, B.2 (b + 14) = xx_i 6 f) ∧ (B.2 (b + 15) = xx_o 6 [.ref (b + 16), .ref (b + 17)]) ∧ (∃ f, B.2 (b + 16) = xx_i 6 f) ∧ (∃ f, B.2 (b + 17) = xx_i 6 f) ∧ (∃ f, B.2 (b + 18) = xx_i 2 f) ∧ (∃ ht, B.2 (b + 19) = xx_r 15 2 ht ∧ ∀ t, t < 2 → ht t = some (yt_t b t)) ∧ (∀ t, t < 2 → xx_ta B (yt_t b t)) ∧ (∃ hp, B.2 (b + 226) = xx_r 5 3 hp ∧ ∀ j, j < 3 → hp j = some (b + 227 + j)) ∧ (∃ ps, xx_pt B b ps 0) ∧ (xx_ent B b yn_0) ∧ (yx_mn B b u8 false 0 0 (fun _ _ _ => 0) (fun _ => 0)) ∧ (∃ X t V o, xx_wk B b X t V o u w9)
def yx_r (B : xx_H) (c : Nat) (u w9 : Int) : Prop := (∃ (th : Value) (m n : Int32) (hr st hl en tu : Value), B.2 c = xx_o 9 (xx_mf c th (.int m) (.int n) hr st hl en tu)) ∧ (∃ N, xx_rw B c N ∧ N 16 = u ∧ N 17 = w9) ∧ (∃ f, B.2 (c + 4) = xx_i 72 f) ∧ (∃ f, B.2 (c + 5) = xx_i 72 f) ∧ (∃ f, B.2 (c + 6) = xx_i 12 f) ∧ (∃ f, B.2 (c + 7) = xx_i 12 f) ∧ (∃ f, B.2 (c + 13) = xx_z 12 f) ∧ (∃ f, B.2 (c + 14) = xx_l 2 f) ∧ (∃ f, B.2 (c + 15) = xx_l 72 f) ∧ (∃ f, B.2 (c + 16) = xx_l 2 f) ∧ (∃ f, B.2 (c + 12) = xx_i 12 f) ∧ (∃ ps, xx_rt2 B c ps 0) ∧ (∃ f, B.2 (c + 19) = xx_i 6 f) ∧ (∃ f, B.2 (c + 20) = xx_i 6 f) ∧ (∃ f, B.2 (c + 11) = xx_i 200 f) ∧ (∃ f, B.2 (c + 21) = xx_z 12 f)
theorem yx_r.to {B C : xx_H} {c : Nat} {u w9 : Int} (h : yx_r B c u w9) (hq : ∀ q, c ≤ q → q < c + 22 → C.2 q = B.2 q) : yx_r C c u w9 := by
  obtain ⟨⟨th, m0, n0, hr, st, hl, en, tu, r1⟩, ⟨N, r2, r3, r4⟩, ⟨f5, r5⟩, ⟨f6, r6⟩, ⟨f7, r7⟩, ⟨f8, r8⟩, ⟨f9, r9⟩, ⟨f10, r10⟩, ⟨f11, r11⟩, ⟨f12, r12⟩, ⟨f13, r13⟩, ⟨ps, r14⟩, ⟨f15, r15⟩, ⟨f16, r16⟩, ⟨f17, r17⟩, ⟨f18, r18⟩⟩ := h
  exact ⟨⟨th, m0, n0, hr, st, hl, en, tu, (hq _ (by omega) (by omega)).trans r1⟩, ⟨N, r2.to (hq _ (by omega) (by omega)) (hq _ (by omega) (by omega)) (hq _ (by omega) (by omega)) (hq _ (by omega) (by omega)) (hq _ (by omega) (by omega)), r3, r4⟩, ⟨f5, (hq _ (by omega) (by omega)).trans r5⟩, ⟨f6, (hq _ (by omega) (by omega)).trans r6⟩, ⟨f7, (hq _ (by omega) (by omega)).trans r7⟩, ⟨f8, (hq _ (by omega) (by omega)).trans r8⟩, ⟨f9, (hq _ (by omega) (by omega)).trans r9⟩, ⟨f10, (hq _ (by omega) (by omega)).trans r10⟩, ⟨f11, (hq _ (by omega) (by omega)).trans r11⟩, ⟨f12, (hq _ (by omega) (by omega)).trans r12⟩, ⟨f13, (hq _ (by omega) (by omega)).trans r13⟩, ⟨ps, r14.to (fun q a d => hq q (by omega) (by omega))⟩, ⟨f15, (hq _ (by omega) (by omega)).trans r15⟩, ⟨f16, (hq _ (by omega) (by omega)).trans r16⟩, ⟨f17, (hq _ (by omega) (by omega)).trans r17⟩, ⟨f18, (hq _ (by omega) (by omega)).trans r18⟩⟩
theorem yx_c.g {B : xx_H} {b : Nat} {m n : Nat} {ra : Nat → Nat → Int} {rd : Nat → Nat → Nat} {W : Nat → Nat → Nat → Int} {le : Nat → Int} {mu : Nat → Nat} {ta tb : Nat → Nat → Nat} {th9 : Nat → Nat} {st lb : Nat} {li : Bool} {s9 : yn_S} {u w9 : Int} {u8 : Value} (h : yx_c B b m n ra rd W le mu ta tb th9 st lb li s9 u w9 u8) : yx_g B b u w9 u8 := by
  obtain ⟨c1, ⟨fc, c2, c3⟩, c4, c5, c6, c7, c8, ⟨ft, c9, c10⟩, ⟨ht, c11, c12⟩, c13, ⟨hp, c14, c15⟩, c16, c17, c18, c19, ⟨X0, t0, V0, o0, c20⟩⟩ := h
  have po0 : xx_po B (b + 3) m n (mu 0) (le 0) (yo_w W 0) := c6.2 0 (by decide)
  have po1 : xx_po B (b + 7) n m (mu 1) (le 1) (yo_w W 1) := c6.2 1 (by decide)
  obtain ⟨a1, _, _, ⟨fa, a2, _⟩, _⟩ := po0
  obtain ⟨b1, _, _, ⟨fb, b2, _⟩, _⟩ := po1
  have cp0 := c7 0 (by decide)
  have cp1 := c7 1 (by decide)
  obtain ⟨⟨g1, d1, _⟩, ⟨g2, d2, _⟩⟩ := cp0
  obtain ⟨⟨g3, d3, _⟩, ⟨g4, d4, _⟩⟩ := cp1
  have td0 : xx_tdl B (b + 12) (ta 0) (tb 0) := c8.2 0 (by decide)
  have td1 : xx_tdl B (b + 15) (ta 1) (tb 1) := c8.2 1 (by decide)
  obtain ⟨s1, ⟨h1, s2, _⟩, ⟨h2, s3, _⟩, _⟩ := td0
  obtain ⟨s4, ⟨h3, s5, _⟩, ⟨h4, s6, _⟩, _⟩ := td1
  exact ⟨⟨_, _, _, _, c1⟩, ⟨fc, c2⟩, c4, c5, ⟨_, _, _, _, a1⟩, ⟨g1, d1⟩, ⟨g2, d2⟩, ⟨fa, a2⟩, ⟨_, _, _, _, b1⟩, ⟨g3, d3⟩, ⟨g4, d4⟩, ⟨fb, b2⟩, s1, ⟨h1, s2⟩, ⟨h2, s3⟩, s4, ⟨h3, s5⟩, ⟨h4, s6⟩, ⟨ft, c9⟩, ⟨ht, c11, c12⟩, c13, ⟨hp, c14, c15⟩, ⟨_, c16.no (pt := fun _ => ((fun _ _ => 0), 0, 0))⟩, c18.mo, c19.no (fun q _ => rfl), X0, t0, V0, o0, c20⟩
theorem yx_m.r {B : xx_H} {c : Nat} {m n : Nat} {ra : Nat → Nat → Int} {rd : Nat → Nat → Nat} {W : Nat → Nat → Nat → Int} {le : Nat → Int} {mu : Nat → Nat} {ta tb : Nat → Nat → Nat} {th9 : Nat → Nat} {st lb : Nat} {li : Bool} {s9 : yn_S} {u w9 : Int} {th tu : Value} {N : Nat → Int} {S9 : Nat → Bool} (h : yx_m B c m n ra rd W le mu ta tb th9 st lb li s9 u w9 th tu N S9) : yx_r B c u w9 := by
  obtain ⟨m1, m2, m3, m4, m5, m6, m7, m8, m9, m10, ⟨f12, m11⟩, m12, ⟨g19, m13⟩, ⟨g20, m14⟩, m15, ⟨g21, m16⟩⟩ := h
  obtain ⟨⟨f4, a4, _⟩, ⟨f5, a5, _⟩⟩ := m8
  obtain ⟨⟨f6, a6, _⟩, ⟨f7, a7, _⟩⟩ := m9
  obtain ⟨⟨f13, a13, _⟩, _⟩ := m10
  obtain ⟨⟨f15, a15, _⟩, ⟨f16, a16, _⟩, ⟨f14, a14, _⟩, _⟩ := m7
  obtain ⟨f11, a11, _⟩ := m15
  exact ⟨⟨_, _, _, _, _, _, _, _, m1⟩, ⟨N, m2, m3, m4⟩, ⟨f4, a4⟩, ⟨f5, a5⟩, ⟨f6, a6⟩, ⟨f7, a7⟩, ⟨f13, a13⟩, ⟨f14, a14⟩, ⟨f15, a15⟩, ⟨f16, a16⟩, ⟨f12, m11⟩, ⟨_, m12.no (pt := fun _ => ((fun _ _ => 0), 0, 0))⟩, ⟨g19, m13⟩, ⟨g20, m14⟩, ⟨f11, a11⟩, ⟨g21, m16⟩⟩
theorem xx_pw0 {B : xx_H} {p ow ot : Nat} {w : Nat → Int32} (ho1 : 1 ≤ ow) (ho : ow ≤ 6) (ht1 : 1 ≤ ot) (ht : ot ≤ 6) (h1 : B.2 p = xx_o 4 [.int (nI ow), .int (nI ot), .int 1, .int (yy_w0 ot ow w).2, .ref (p + 1), .ref (p + 2), .ref (p + 3)]) (h2 : B.2 (p + 3) = xx_i 36 (yy_w0 ot ow w).1) : xx_pw B p ow ot (fun _ => 0) (fun _ => 1) := by
  obtain ⟨mu, le, e1, e2, e3, e4, e5, e6, e7⟩ := yl_class (A9 := fun _ => 0) (D9 := fun _ => 1) (a := fun _ => 0) (b := fun _ => 1) (f := w) ho1 ho ht1 ht (fun c _ => ⟨(by decide : (0 : Int).natAbs ≤ 9999), (by decide : (0 : Int32) = iz 0)⟩) (fun c _ => ⟨(by decide : 1 ≤ 1), (by decide : 1 ≤ 12), (by decide : (1 : Int32) = nI 1)⟩)
  rw [yy_lcm_one] at e1 e5 e7
  have h3 : B.2 p = xx_o 4 [.int (nI ow), .int (nI ot), .int (nI mu), .int (iz le), .ref (p + 1), .ref (p + 2), .ref (p + 3)] := by
    rw [h1, ← e5, ← e1]
  exact ⟨mu, le, e2, e3, e4, h3, ho, ht, ⟨_, h2, fun i hi j hj => (e7 i hi j hj).1⟩, fun i hi j hj => (e7 i hi j hj).2, e6⟩
/-- a game just told: its numbers -/
theorem yx_gs {B : xx_H} {b o t : Nat} {w0 w1 : Nat → Int32} (ho1 : 1 ≤ o) (ho : o ≤ 6) (ht1 : 1 ≤ t) (ht : t ≤ 6) (h0 : B.2 (b + 2) = xx_r 14 2 (va_up (va_up (fun _ => none) (0 : Int32).toNatClampNeg (some (b + 3))) (1 : Int32).toNatClampNeg (some (b + 7)))) (h1 : B.2 (b + 3) = xx_o 4 [.int (nI o), .int (nI t), .int 1, .int (yy_w0 t o w0).2, .ref (b + 4), .ref (b + 5), .ref (b + 6)]) (h2 : B.2 (b + 6) = xx_i 36 (yy_w0 t o w0).1) (h3 : B.2 (b + 7) = xx_o 4 [.int (nI t), .int (nI o), .int 1, .int (yy_w0 o t w1).2, .ref (b + 8), .ref (b + 9), .ref (b + 10)]) (h4 : B.2 (b + 10) = xx_i 36 (yy_w0 o t w1).1) : ∃ W le mu, yl_st o t yx_z0 yx_o1 W le mu ∧ xx_pys B b o t W le mu := by
  have q0 : xx_pw B (b + 3 + 4 * 0) (yy_cn o t 0) (yy_cn o t (1 - 0)) (fun c => yl_A (yx_z0 0 (yl_tr 0 c)) (yx_o1 0 (yl_tr 0 c))) (fun c => yl_D (yx_z0 0 (yl_tr 0 c)) (yx_o1 0 (yl_tr 0 c))) := xx_pw.cg (xx_pw0 (p := b + 3) ho1 ho ht1 ht h1 h2) ho ht (fun c _ => yx_Aun.symm) (fun c _ => yx_Dun.symm)
  have q1 : xx_pw B (b + 3 + 4 * 1) (yy_cn o t 1) (yy_cn o t (1 - 1)) (fun c => yl_A (yx_z0 1 (yl_tr 1 c)) (yx_o1 1 (yl_tr 1 c))) (fun c => yl_D (yx_z0 1 (yl_tr 1 c)) (yx_o1 1 (yl_tr 1 c))) := xx_pw.cg (xx_pw0 (p := b + 7) ht1 ht ho1 ho h3 h4) ht ho (fun c _ => yx_Aun.symm) (fun c _ => yx_Dun.symm)
  obtain ⟨W0, l0, m0, a1, a2, a3, a4⟩ := xx_pw_st (by decide) ho ht q0
  obtain ⟨W1, l1, m1, b1, b2, b3, b4⟩ := xx_pw_st (by decide) ho ht q1
  refine ⟨fun p => if p = 0 then W0 else W1, fun p => if p = 0 then l0 else l1, fun p => if p = 0 then m0 else m1, fun p hp => ?_, ⟨_, h0, fun p hp => ?_⟩, fun p hp => ?_⟩
  · rcases (show p = 0 ∨ p = 1 by omega) with y | y
    · subst y; exact ⟨a1, a2, a3⟩
    · subst y; exact ⟨b1, b2, b3⟩
  · rcases (show p = 0 ∨ p = 1 by omega) with y | y
    · subst y; rfl
    · subst y; rfl
  · rcases (show p = 0 ∨ p = 1 by omega) with y | y
    · subst y
      rw [yo_w_cg (V := fun _ => W0) (p := 0) (by decide) (if_pos rfl)]
      exact a4
    · subst y
      rw [yo_w_cg (V := fun _ => W1) (p := 1) (by decide) (if_neg (by decide))]
      exact b4
set_option maxRecDepth 100000 in
theorem c_X8_gameW {G : xx_G} {l : Launch} {A : xx_H} {b o t : Nat} {u w9 : Int} {u8 : Value} (ho1 : 1 ≤ o) (ho : o ≤ 6) (ht1 : 1 ≤ t) (ht6 : t ≤ 6) (g : yx_g A b u w9 u8) : xx_X G l mX8_game 3 0 0 0 (lv_args 0 [.ref b, .int (nI o), .int (nI t)]) [] A (fun r B => r = .inl none ∧ B.1 = A.1 ∧ (∃ W le mu, yl_st o t yx_z0 yx_o1 W le mu ∧ yx_c B b o t yx_z0 yx_o1 W le mu yx_t0 yx_o1 (yr_all o t) 0 0 false yn_0 u w9 u8) ∧ ∀ q, (q < b ∨ b + 19 ≤ q) → B.2 q = A.2 q) := by
  obtain ⟨⟨u6, u7, u10, u11, g1⟩, ⟨f1, g2⟩, g3, g4, ⟨x0, y0, m0, e0, g5⟩, ⟨f6, g6⟩, ⟨f7, g7⟩, ⟨f8, g8⟩, ⟨x1, y1, m1, e1, g9⟩, ⟨f10, g10⟩, ⟨f11, g11⟩, ⟨f12, g12⟩, g13, ⟨f14, g14⟩, ⟨f15, g15⟩, g16, ⟨f17, g17⟩, ⟨f18, g18⟩, ⟨f19, g19⟩, ⟨ht, g20, g20b⟩, g21, ⟨hp, g22, g22b⟩, ⟨ps, g23⟩, g24, g25, ⟨X0, t0, V0, o0, g26⟩⟩ := g
  refine xx_mono (fun r B hr => ?_) (c_X8_gameK (a := b + 1) ho1 ho ht1 ht6 (by omega) g1 g2 g3 g4 g19 g5 g6 g7 g8 g13 g14 g15 g9 g10 g11 g12 g16 g17 g18)
  obtain ⟨k1, k2, k3, k4, k5, k6, k7, k8, k9, k10, k11, k12, k13, k14, k15, k16, k17, k18, k19, k20, k21, k22⟩ := hr
  have fB : ∀ q, (q < b ∨ b + 19 ≤ q) → B.2 q = A.2 q := fun q a => k22 q (by omega) (by omega)
  obtain ⟨W, le, mu, s1, s2⟩ := yx_gs ho1 ho ht1 ht6 k5 k6 k9 k10 k13
  refine ⟨k1, k2, ⟨W, le, mu, s1, ?_⟩, fB⟩
  have tl : xx_tls B b yx_t0 yx_o1 := by
    refine ⟨⟨_, k14, fun p hp => ?_⟩, fun p hp => ?_⟩
    · rcases (show p = 0 ∨ p = 1 by omega) with y | y
      · subst y; rfl
      · subst y; rfl
    · rcases (show p = 0 ∨ p = 1 by omega) with y | y
      · subst y; exact ⟨k15, ⟨_, k16, fun k _ => (by decide : (0 : Int32) = nI 0)⟩, ⟨_, k17, fun k _ => (by decide : (1 : Int32) = nI 1)⟩, fun k _ => ⟨(by decide : 0 ≤ 999), (by decide : 1 ≤ 1), (by decide : 1 ≤ 999)⟩⟩
      · subst y; exact ⟨k18, ⟨_, k19, fun k _ => (by decide : (0 : Int32) = nI 0)⟩, ⟨_, k20, fun k _ => (by decide : (1 : Int32) = nI 1)⟩, fun k _ => ⟨(by decide : 0 ≤ 999), (by decide : 1 ≤ 1), (by decide : 1 ≤ 999)⟩⟩
  have cp : xx_cp B b yx_z0 yx_o1 := by
    intro p hp
    have aA : (yl_A 0 1).natAbs ≤ 9999 ∧ (0 : Int32) = iz (yl_A 0 1) := by rw [yx_Aun]; decide
    have aD : 1 ≤ yl_D 0 1 ∧ yl_D 0 1 ≤ 12 ∧ (1 : Int32) = nI (yl_D 0 1) := by rw [yx_Dun]; decide
    rcases (show p = 0 ∨ p = 1 by omega) with y | y
    · subst y; exact ⟨⟨_, k7, fun c hc => aA⟩, ⟨_, k8, fun c hc => aD⟩⟩
    · subst y; exact ⟨⟨_, k11, fun c hc => aA⟩, ⟨_, k12, fun c hc => aD⟩⟩
  refine ⟨k3, ⟨_, k4, fun p hp => ?_⟩, k5, k14, s2, cp, tl, ⟨_, k21, fun p hp => ?_⟩, ⟨ht, (fB _ (by omega)).trans g20, g20b⟩, fun t ht9 => (g21 t ht9).to (fun q a d => fB q (by have := yt_tb (b := b) ht9; omega)), ⟨hp, (fB _ (by omega)).trans g22, g22b⟩, (g23.to (fun q a d => fB q (by omega))).no, fun s0 => absurd s0 (Nat.lt_irrefl 0), g24.to (fun q a d => fB q (by omega)), g25.no (fun q a => fB q (by omega)), X0, t0, V0, o0, g26.to (fun q a d => fB q (by omega))⟩
  · rcases (show p = 0 ∨ p = 1 by omega) with y | y
    · subst y; rw [pk_un (by decide), pk_us]; rfl
    · subst y; rw [pk_us]; rfl
  · rcases (show p = 0 ∨ p = 1 by omega) with y | y
    · subst y; rw [pk_un (by decide), pk_us]; exact yb_full o (by omega)
    · subst y; rw [pk_us]; exact yb_full t (by omega)
set_option maxRecDepth 100000 in
theorem c_X9_gameW {G : xx_G} {l : Launch} {A : xx_H} {c o t : Nat} {u w9 : Int} (ho1 : 1 ≤ o) (ho : o ≤ 6) (ht1 : 1 ≤ t) (ht6 : t ≤ 6) (g : yx_r A c u w9) : xx_X G l mX9_game 2 0 0 0 (lv_args 0 [.ref c, .int (nI o), .int (nI t)]) [] A (fun r B => r = .inl none ∧ B.1 = A.1 ∧ (∃ (tu : Value) (N : Nat → Int), ∀ (W : Nat → Nat → Nat → Int) (le : Nat → Int) (mu : Nat → Nat), yl_st o t yx_z0 yx_o1 W le mu → yx_m B c o t yx_z0 yx_o1 W le mu yx_t0 yx_o1 (yr_all o t) 0 0 false yn_0 u w9 (.int 0) tu N (fun _ => true)) ∧ ∀ q, (q < c ∨ c + 22 ≤ q) → B.2 q = A.2 q) := by
  obtain ⟨⟨th, m0, n0, hr, st, hl, en, tu, r1⟩, ⟨N, r2, r3, r4⟩, ⟨f5, r5⟩, ⟨f6, r6⟩, ⟨f7, r7⟩, ⟨f8, r8⟩, ⟨f9, r9⟩, ⟨f10, r10⟩, ⟨f11, r11⟩, ⟨f12, r12⟩, ⟨f13, r13⟩, ⟨ps, r14⟩, ⟨f15, r15⟩, ⟨f16, r16⟩, ⟨f17, r17⟩, ⟨f18, r18⟩⟩ := g
  refine xx_mono (fun r B hr => ?_) (c_X9_gameK (a := c + 1) (by omega) ho1 ho ht1 ht6 r1 r5 r6 r7 r8 r9 r10 r11 r12)
  obtain ⟨k1, k2, k3, k4, k5, k6, k7, k8, k9, k10, k11, k12⟩ := hr
  have fC : ∀ q, q ≠ c → q ≠ c + 4 → q ≠ c + 5 → q ≠ c + 6 → q ≠ c + 7 → q ≠ c + 13 → q ≠ c + 14 → q ≠ c + 15 → q ≠ c + 16 → B.2 q = A.2 q := fun q a0 a1 a2 a3 a4 a5 a6 a7 a8 => k12 q a0 (by omega) (by omega) (by omega) (by omega) (by omega) (by omega) (by omega) (by omega)
  obtain ⟨W2, le2, mu2, s1, s2⟩ := yl_changed (B := B) (b := c) (m := o) (n := t) (ra := yx_z0) (rd := yx_o1) (af := fun _ => 0) (bf := fun _ => 1) (mu9 := f10) (wh9 := f11) (le9 := f12) ho1 ho ht1 ht6 yx_r01 (fun p hp k hk => (by decide : (0 : Int32) = iz 0)) (fun p hp k hk => (by decide : (1 : Int32) = nI 1)) (by rw [yx_rl0, yx_rl0]; exact k9) (by rw [yx_rl0, yx_rl0]; exact k10) (by rw [yx_rl0, yx_rl0]; exact k11)
  refine ⟨k1, k2, ⟨tu, N, fun W le mu hs => ?_⟩, fun q a => fC q (by omega) (by omega) (by omega) (by omega) (by omega) (by omega) (by omega) (by omega) (by omega)⟩
  exact ⟨k3, r2.to (fC _ (by omega) (by omega) (by omega) (by omega) (by omega) (by omega) (by omega) (by omega) (by omega)) (fC _ (by omega) (by omega) (by omega) (by omega) (by omega) (by omega) (by omega) (by omega) (by omega)) (fC _ (by omega) (by omega) (by omega) (by omega) (by omega) (by omega) (by omega) (by omega) (by omega)) (fC _ (by omega) (by omega) (by omega) (by omega) (by omega) (by omega) (by omega) (by omega) (by omega)) (fC _ (by omega) (by omega) (by omega) (by omega) (by omega) (by omega) (by omega) (by omega) (by omega)), r3, r4, fun s0 => absurd s0 (Nat.lt_irrefl 0), fun e he => absurd he (Nat.not_lt_zero e), s2.cg (yl_st_u s1 hs), ⟨⟨_, k4, fun p hp k hk => (by decide : (0 : Int32) = iz 0)⟩, ⟨_, k5, fun p hp k hk => (by decide : (1 : Int32) = nI 1)⟩⟩, ⟨⟨_, k6, fun p hp k hk => (by decide : (0 : Int32) = nI 0)⟩, ⟨_, k7, fun p hp k hk => (by decide : (1 : Int32) = nI 1)⟩⟩, ⟨⟨_, k8, fun j _ => rfl⟩, fun q hq k hk => by rw [yr_all_t]; exact (decide_eq_true hk).symm⟩, ⟨f13, (fC _ (by omega) (by omega) (by omega) (by omega) (by omega) (by omega) (by omega) (by omega) (by omega)).trans r13⟩, (r14.to (fun q a d => fC q (by omega) (by omega) (by omega) (by omega) (by omega) (by omega) (by omega) (by omega) (by omega))).no, ⟨f15, (fC _ (by omega) (by omega) (by omega) (by omega) (by omega) (by omega) (by omega) (by omega) (by omega)).trans r15⟩, ⟨f16, (fC _ (by omega) (by omega) (by omega) (by omega) (by omega) (by omega) (by omega) (by omega) (by omega)).trans r16⟩, ⟨f17, (fC _ (by omega) (by omega) (by omega) (by omega) (by omega) (by omega) (by omega) (by omega) (by omega)).trans r17, fun e he => absurd he (Nat.not_lt_zero e)⟩, f18, (fC _ (by omega) (by omega) (by omega) (by omega) (by omega) (by omega) (by omega) (by omega) (by omega)).trans r18⟩
set_option maxRecDepth 100000 in
theorem a_gameG {G : xx_G} {l : Launch} {A : xx_H} {z b i L cR sR : Nat} {xs : Nat → Int32} {Q : Option Value ⊕ String → xx_H → Prop} {u w9 : Int} {u8 : Value} {o t : Nat} (hz : A.2 z = xx_s L xs) (zb : z < b) (bA : b + 320 ≤ A.1) (hw9 : ∃ g, A.2 (b + 319) = xx_l 1 g) (g : yx_g A b u w9 u8) (r : yx_r A (b + 297) u w9) (ho1 : 1 ≤ o) (ho : o ≤ 6) (ht1 : 1 ≤ t) (ht6 : t ≤ 6) (e1 : xs (i + 1) = nI o) (e2 : xs (i + 2) = nI t) (hi : i + 6 ≤ L) (hL : L ≤ 3072) (K : ∀ C : xx_H, yx_I C z b L xs → xx_X G l mL_law 12 cR sR 1182 (xx_lv5 z b (b + 297) (b + 319) i) [] C Q) : xx_X G l mL_law 12 (cR + 14) (sR + 11400) 124 (xx_lv5 z b (b + 297) (b + 319) i) [] A Q := by
  obtain ⟨gw, hw⟩ := hw9
  obtain ⟨⟨u6, u7, u10, u11, g1⟩, _⟩ := id g
  refine xx_room (d2 := 12) (c2 := 0 + (0 + cR)) (s2 := 0 + (0 + sR)) (by omega) (by omega) (by omega) ?_
  refine k_game (d1 := 4) (c1 := 0) (s1 := 0) (d2 := 2) (c2 := 0) (s2 := 0) (P1 := fun k B => k = 0 ∧ B.1 = A.1 ∧ (∃ W le mu, yl_st o t yx_z0 yx_o1 W le mu ∧ yx_c B b o t yx_z0 yx_o1 W le mu yx_t0 yx_o1 (yr_all o t) 0 0 false yn_0 u w9 u8) ∧ ∀ q, (q < b ∨ b + 19 ≤ q) → B.2 q = A.2 q) (P2 := fun k C => yx_J C z b L xs k) hi (by omega) (by decide) (by decide) hz (by rw [e1, e2]; exact h_L_game g1 (c_X8_gameW ho1 ho ht1 ht6 g) (fun r B hr => Or.inl ⟨hr.1, rfl, hr.2⟩)) ?_ (fun k C hC => ⟨hC.1, K C hC.2⟩)
  rintro k B ⟨rfl, e9, ⟨W, le, mu, s, hcB⟩, fB⟩
  have rB : yx_r B (b + 297) u w9 := r.to (fun q a1 a2 => fB q (by omega))
  obtain ⟨⟨th, m0, n0, hr, st, hl, en, tu, r1⟩, _⟩ := id rB
  refine ⟨(fB z (by omega)).trans hz, ⟨_, r1⟩, ?_⟩
  rw [e1, e2]
  refine xx_mono (fun r C hr => ?_) (c_X9_gameW ho1 ho ht1 ht6 rB)
  obtain ⟨h1, h2, ⟨tu, N, h3⟩, h4⟩ := hr
  exact ⟨h1, yx_J.mk ((h4 z (by omega)).trans ((fB z (by omega)).trans hz)) zb (by omega) ⟨gw, (h4 _ (by omega)).trans ((fB _ (by omega)).trans hw)⟩ (yx_p0 ho1 ho ht1 ht6 yx_r01 s yx_k01) (hcB.to (fun q a1 a2 => h4 q (by omega)) (fun q a1 => h4 q (by omega))) (h3 W le mu s)⟩
theorem yx_gin {x y : Int32} (hg : ¬ (¬ x < 1 ∧ ¬ 6 < x ∧ ¬ y < 1 ∧ y ≤ 6)) : xx_inn x 1 6 = 0 ∨ xx_inn y 1 6 = 0 := by
  unfold xx_inn
  by_cases q1 : x < 1
  · exact Or.inl (if_pos q1)
  by_cases q2 : 6 < x
  · exact Or.inl (by rw [if_neg q1, if_pos q2])
  by_cases q3 : y < 1
  · exact Or.inr (if_pos q3)
  by_cases q4 : 6 < y
  · exact Or.inr (by rw [if_neg q3, if_pos q4])
  exact absurd ⟨q1, q2, q3, Int32.not_lt.mp q4⟩ hg
theorem yx_gok {x y : Int32} (hg : ¬ x < 1 ∧ ¬ 6 < x ∧ ¬ y < 1 ∧ y ≤ 6) : ∃ o t : Nat, 1 ≤ o ∧ o ≤ 6 ∧ 1 ≤ t ∧ t ≤ 6 ∧ x = nI o ∧ y = nI t := by
  obtain ⟨q1, q2, q3, q4⟩ := hg
  obtain ⟨o, o1, e1⟩ := nI_of2 (n := 6) (M := 6) (by decide) (fun q => q1 (Int32.lt_trans q (by decide))) (Int32.not_lt.mp q2)
  obtain ⟨t, t1, e2⟩ := nI_of2 (n := 6) (M := 6) (by decide) (fun q => q3 (Int32.lt_trans q (by decide))) q4
  have o0 : o ≠ 0 := fun q => by subst q; rw [e1] at q1; exact q1 (by decide)
  have t0 : t ≠ 0 := fun q => by subst q; rw [e2] at q3; exact q3 (by decide)
  exact ⟨o, t, by omega, o1, by omega, t1, e1, e2⟩
set_option maxRecDepth 100000 in
theorem a_gameB {G : xx_G} {l : Launch} {A : xx_H} {z b i L cR sR : Nat} {xs : Nat → Int32} {Q : Option Value ⊕ String → xx_H → Prop} (I : yx_I A z b L xs) (hi : i + 6 ≤ L) (hL : L ≤ 3072) (K : ∀ C : xx_H, yx_I C z b L xs → xx_X G l mL_law 12 cR sR 1182 (xx_lv5 z b (b + 297) (b + 319) i) [] C Q) (hg : ¬ (¬ xs (i + 1) < 1 ∧ ¬ 6 < xs (i + 1) ∧ ¬ xs (i + 2) < 1 ∧ xs (i + 2) ≤ 6)) : xx_X G l mL_law 12 (cR + 14) (sR + 11400) 124 (xx_lv5 z b (b + 297) (b + 319) i) [] A Q := by
  obtain ⟨hz, zb, bA, ⟨gw, hw⟩, m, n, ra, rd, W, le, mu, ta, tb, th9, st, lb, li, s9, u, w9, P, ⟨u8, HC⟩, k0, tu, N, S9, HM⟩ := I
  have HC2 := HC
  have HM2 := HM
  obtain ⟨c1, ⟨fc, c2, c3⟩, c4, c5, c6, c7, c8, ⟨ft, c9, c10⟩, ⟨ht, c11, c12⟩, c13, ⟨hp, c14, c15⟩, c16, c17, c18, c19, ⟨X0, t0, V0, o0, c20⟩⟩ := HC2
  obtain ⟨p1, p2, p3, p4, p5, p6, p7, p8, ⟨E, p9, p10, p11⟩⟩ := id P
  have hm1 := p1.1
  have hm := p1.2.1
  have hn1 := p1.2.2.1
  have hn := p1.2.2.2.1
  refine xx_room (d2 := 12) (c2 := 1 + (0 + cR)) (s2 := 6 + (0 + sR)) (by omega) (by omega) (by omega) ?_
  refine k_game (d1 := 7) (c1 := 1) (s1 := 6) (d2 := 2) (c2 := 0) (s2 := 0) (P1 := fun k B => b + 320 ≤ B.1 ∧ B.2 z = xx_s L xs ∧ yx_m B (b + 297) m n ra rd W le mu ta tb th9 st lb li s9 u w9 (.int k0) tu N S9 ∧ (k = 1 ∧ (∃ g, B.2 (b + 319) = xx_l 1 g) ∧ yx_c B b m n ra rd W le mu ta tb th9 st lb li s9 u w9 u8)) (P2 := fun k C => yx_J C z b L xs k) hi (by omega) (by decide) (by decide) hz (h_L_game c1 (r_X8_game (f := fun _ => 0) c1 hg) (fun r B hr => ?_)) ?_ (fun k C hC => ⟨hC.1, K C hC.2⟩)
  · obtain ⟨h2, h3, eB⟩ := hr
    exact Or.inr ⟨h2, ⟨by omega, by rw [eB]; exact hz, HM.fr (fun q _ _ => by rw [eB]), ⟨rfl, ⟨gw, by rw [eB]; exact hw⟩, HC.to (fun q _ _ => by rw [eB]) (fun q _ => by rw [eB])⟩⟩⟩
  · rintro k B ⟨q1, q2, hmB, rfl, hwB, hcB⟩
    refine ⟨q2, ⟨_, hmB.1⟩, xx_mono (fun r C hr => ?_) (r_X9_game (yx_gin hg) hmB.1)⟩
    obtain ⟨g0, g1, z6, g2⟩ := hr
    exact ⟨g0, yx_J.th q2 zb q1 hwB P hcB hmB g1 z6 g2⟩
theorem a_game {G : xx_G} {l : Launch} {A : xx_H} {z b i L cR sR : Nat} {xs : Nat → Int32} {Q : Option Value ⊕ String → xx_H → Prop} (I : yx_I A z b L xs) (hi : i + 6 ≤ L) (hL : L ≤ 3072) (K : ∀ C : xx_H, yx_I C z b L xs → xx_X G l mL_law 12 cR sR 1182 (xx_lv5 z b (b + 297) (b + 319) i) [] C Q) : xx_X G l mL_law 12 (cR + 14) (sR + 11400) 124 (xx_lv5 z b (b + 297) (b + 319) i) [] A Q := by
  by_cases hg : ¬ xs (i + 1) < 1 ∧ ¬ 6 < xs (i + 1) ∧ ¬ xs (i + 2) < 1 ∧ xs (i + 2) ≤ 6
  · obtain ⟨o, t, ho1, ho, ht1, ht, e1, e2⟩ := yx_gok hg
    obtain ⟨hz, zb, bA, hw, m, n, ra, rd, W, le, mu, ta, tb, th9, st, lb, li, s9, u, w9, P, ⟨u8, HC⟩, k0, tu, N, S9, HM⟩ := I
    exact a_gameG hz zb bA hw HC.g HM.r ho1 ho ht1 ht e1 e2 hi hL K
  · exact a_gameB I hi hL K hg

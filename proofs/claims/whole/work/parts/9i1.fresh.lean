/-! ===== a fresh object: what game needs of it ===== -/
theorem xx_row.bg {B : xx_H} {a n j : Nat} (h : xx_row B a n) (hj : j < n) : xx_bg B (a + 1 + 2 * j) 0 := by
  obtain ⟨h1, h2⟩ := h.2 j hj
  rw [show a + 2 + 2 * j = a + 1 + 2 * j + 1 by omega] at h1 h2
  exact xx_zb.bg ⟨h1, h2⟩
theorem xx_div0.dw {B : xx_H} {b : Nat} (h : xx_div0 B b (b + 1)) : ∃ c, xx_dw B b c := by
  obtain ⟨h1, h2, h3, h4, h5, h6⟩ := h
  exact ⟨b + 5, ⟨_, _, h1, h2, h3⟩, ⟨0, xx_zb.bg h4⟩, ⟨0, xx_zb.bg h5⟩, ⟨0, xx_zb.bg h6⟩, Or.inl rfl⟩
theorem xx_tb0.ta {B : xx_H} {t : Nat} (h : xx_tb0 B t (t + 1)) : xx_ta B t := by
  obtain ⟨h1, h2, h3, h4, h5, h6, h7, h8⟩ := h
  refine ⟨0, 0, 0, fun _ => 0, fun _ => 0, fun i => t + 4 + 2 * i, fun _ => 0, ⟨h1, by decide, by decide, ⟨_, h2, fun i hi => absurd hi (Nat.not_lt_zero i)⟩, ⟨_, h3, fun i hi => absurd hi (Nat.not_lt_zero i)⟩, fun i hi => absurd hi (Nat.not_lt_zero i), fun i hi => absurd hi (Nat.not_lt_zero i), by decide, ?_, fun i hi => ?_, fun i j hi hj e => ?_, fun i hi => ?_, ⟨0, xx_zb.bg h6⟩, ⟨0, xx_zb.bg h7⟩, xx_div0.dw h8⟩, fun i hi => ?_⟩
  · obtain ⟨f, a1, a2⟩ := h4.1
    exact ⟨f, a1, fun i hi => a2 i hi⟩
  · show t + 4 ≤ t + 4 + 2 * i ∧ t + 4 + 2 * i < t + 90 ∧ (t + 4 + 2 * i + t) % 2 = 0
    omega
  · have e : t + 4 + 2 * i = t + 4 + 2 * j := e
    omega
  · by_cases y : i < 42
    · exact h4.bg y
    · have e : i = 42 := by omega
      subst e
      exact xx_zb.bg h5
  · show (0 : Int).natAbs < 2 ^ 200
    decide +kernel
theorem xx_wt0.wt {B : xx_H} {s : Nat} (h : xx_wt0 B s (s + 1)) : xx_wt B s (fun _ => 0) 0 := by
  obtain ⟨h1, h2, h3⟩ := h
  obtain ⟨f, a1, a2⟩ := h2.1
  exact ⟨h1, ⟨f, a1, fun k hk => a2 k hk⟩, fun k hk => h2.bg hk, xx_zb.bg h3⟩
theorem yx_v1 {β : Nat} {D : Nat → Nat} (h : D 0 = 1) : 1 = yy_val β D 1 := by
  show 1 = yy_val β D 0 + D 0 * β ^ 0
  rw [yy_v0, h, Nat.pow_zero]
theorem xx_fr0.fq {B : xx_H} {a : Nat} (h : xx_fr0 B a (a + 1)) : xx_fq B a 0 1 := by
  obtain ⟨h1, h2, h3, h4⟩ := h
  exact ⟨h1, xx_zb.bg h2, xx_fun1, 1, h3, h4, by decide, fun _ => 1, fun i hi => ⟨(by decide : 1 < 2147483648), by rw [show i = 0 by omega]; rfl⟩, fun _ => by decide, yx_v1 rfl⟩
theorem xx_br0.g {B : xx_H} {b : Nat} (h : xx_br0 B b (b + 1)) : yx_g B b 0 1 .null := by
  obtain ⟨hb, hk, ⟨gp, p0, p1⟩, ⟨gt, t0, t1⟩, gth, ⟨gtb, tb0, tb1⟩, ⟨gpa, gpb⟩, ⟨gen, gnb⟩, ⟨gst, w0, w1⟩, gval, gprod, gown, ghand, gdiv⟩ := h
  obtain ⟨a1, a2, a3, a4⟩ := p0
  obtain ⟨b1, b2, b3, b4⟩ := p1
  obtain ⟨c1, c2, c3⟩ := t0
  obtain ⟨d1, d2, d3⟩ := t1
  have wk : xx_wk B b (fun _ _ => 0) (fun _ => 0) (fun _ => 0) 0 0 1 := by
    refine ⟨⟨_, gst, fun p hp => ?_⟩, fun p hp => ?_, ?_, fun k hk => xx_row.bg gval hk, ⟨0, xx_zb.bg gprod⟩, xx_zb.bg gown, xx_fr0.fq ghand, xx_div0.dw gdiv⟩
    · rcases (show p = 0 ∨ p = 1 by omega) with y | y
      · subst y; rfl
      · subst y; rfl
    · rcases (show p = 0 ∨ p = 1 by omega) with y | y
      · subst y; exact xx_wt0.wt w0
      · subst y; exact xx_wt0.wt w1
    · obtain ⟨f, e1, e2⟩ := gval.1
      exact ⟨f, e1, fun k hk => e2 k hk⟩
  refine ⟨⟨_, _, _, _, hb⟩, ⟨_, hk⟩, gp, gt, ⟨_, _, _, _, a1⟩, ⟨_, a2⟩, ⟨_, a3⟩, ⟨_, a4⟩, ⟨_, _, _, _, b1⟩, ⟨_, b2⟩, ⟨_, b3⟩, ⟨_, b4⟩, c1, ⟨_, c2⟩, ⟨_, c3⟩, d1, ⟨_, d2⟩, ⟨_, d3⟩, ⟨_, gth⟩, ⟨_, gtb, fun t ht => ?_⟩, fun t ht => ?_, ⟨_, gpa, fun j hj => ?_⟩, ⟨fun _ => ((fun _ _ => 0), 0, 0), ⟨_, _, _, gpb 0 (by decide), gpb 1 (by decide), gpb 2 (by decide), fun j hj => absurd hj (Nat.not_lt_zero j)⟩⟩, ⟨⟨_, gen, rfl, rfl⟩, ⟨_, gnb 0 (by decide), fun e he => absurd he (Nat.not_lt_zero e)⟩, ⟨_, gnb 1 (by decide), fun e he => absurd he (Nat.not_lt_zero e)⟩⟩, Or.inl ⟨rfl, rfl⟩, _, _, _, _, wk⟩
  · rcases (show t = 0 ∨ t = 1 by omega) with y | y
    · subst y; rfl
    · subst y; rfl
  · rcases (show t = 0 ∨ t = 1 by omega) with y | y
    · subst y; exact xx_tb0.ta tb0
    · subst y; exact xx_tb0.ta tb1
  · rfl
/-- the reference as it is made, but for what it throws -/
def xx_md1 (B : xx_H) (b a : Nat) (k : Int32) : Prop :=
  B.2 b = xx_o 9 [.int k, .ref a, .ref (a + 1), .ref (a + 2), .int 0, .int 0, .ref (a + 3), .ref (a + 4), .ref (a + 5), .ref (a + 6), .int (-1), .int 0, .ref (a + 7), .ref (a + 8), .ref (a + 9), .int 0, .int 0, .ref (a + 10), .ref (a + 11), .ref (a + 12), .ref (a + 13), .ref (a + 14), .ref (a + 15), .ref (a + 16), .ref (a + 17), .ref (a + 18), .ref (a + 19), .int 0, .ref (a + 20)] ∧
  B.2 (a + 0) = xx_i 69600 (upd (fun _ => 0) 680 1) ∧
  B.2 (a + 1) = xx_i 1740 (upd (upd (upd (fun _ => 0) 16 0) 17 0) 17 1) ∧
  B.2 (a + 2) = xx_i 1740 (upd (upd (fun _ => 0) 16 0) 17 1) ∧
  B.2 (a + 3) = xx_i 72 (fun _ => 0) ∧
  B.2 (a + 4) = xx_i 72 (fun _ => 0) ∧
  B.2 (a + 5) = xx_i 12 (fun _ => 0) ∧
  B.2 (a + 6) = xx_i 12 (fun _ => 0) ∧
  B.2 (a + 7) = xx_i 1000 (fun _ => 0) ∧
  B.2 (a + 8) = xx_i 1000 (fun _ => 0) ∧
  B.2 (a + 9) = xx_i 1000 (fun _ => 0) ∧
  B.2 (a + 10) = xx_i 200 (fun _ => 0) ∧
  B.2 (a + 11) = xx_i 12 (fun _ => 0) ∧
  B.2 (a + 12) = xx_z 12 (fun _ => 0) ∧
  B.2 (a + 13) = xx_l 2 (vp_updL (vp_updL (fun _ => 0) 0 0) 1 0) ∧
  B.2 (a + 14) = xx_l 72 (fun _ => 0) ∧
  B.2 (a + 15) = xx_l 2 (fun _ => 0) ∧
  B.2 (a + 16) = xx_i 42 (fun _ => 0) ∧
  B.2 (a + 17) = xx_i 42 (fun _ => 0) ∧
  B.2 (a + 18) = xx_i 6 (fun _ => 0) ∧
  B.2 (a + 19) = xx_i 6 (fun _ => 0) ∧
  B.2 (a + 20) = xx_z 12 (fun _ => 0)
theorem xx_md1.to {B C : xx_H} {b a : Nat} {k k2 : Int32} (h : xx_md1 B b a k) (h0 : C.2 b = xx_o 9 [.int k2, .ref a, .ref (a + 1), .ref (a + 2), .int 0, .int 0, .ref (a + 3), .ref (a + 4), .ref (a + 5), .ref (a + 6), .int (-1), .int 0, .ref (a + 7), .ref (a + 8), .ref (a + 9), .int 0, .int 0, .ref (a + 10), .ref (a + 11), .ref (a + 12), .ref (a + 13), .ref (a + 14), .ref (a + 15), .ref (a + 16), .ref (a + 17), .ref (a + 18), .ref (a + 19), .int 0, .ref (a + 20)]) (h1 : ∀ q, a ≤ q → q < a + 21 → C.2 q = B.2 q) : xx_md1 C b a k2 := by
  obtain ⟨g0, g1, g2, g3, g4, g5, g6, g7, g8, g9, g10, g11, g12, g13, g14, g15, g16, g17, g18, g19, g20, g21⟩ := h
  exact ⟨h0, (h1 _ (by omega) (by omega)).trans g1, (h1 _ (by omega) (by omega)).trans g2, (h1 _ (by omega) (by omega)).trans g3, (h1 _ (by omega) (by omega)).trans g4, (h1 _ (by omega) (by omega)).trans g5, (h1 _ (by omega) (by omega)).trans g6, (h1 _ (by omega) (by omega)).trans g7, (h1 _ (by omega) (by omega)).trans g8, (h1 _ (by omega) (by omega)).trans g9, (h1 _ (by omega) (by omega)).trans g10, (h1 _ (by omega) (by omega)).trans g11, (h1 _ (by omega) (by omega)).trans g12, (h1 _ (by omega) (by omega)).trans g13, (h1 _ (by omega) (by omega)).trans g14, (h1 _ (by omega) (by omega)).trans g15, (h1 _ (by omega) (by omega)).trans g16, (h1 _ (by omega) (by omega)).trans g17, (h1 _ (by omega) (by omega)).trans g18, (h1 _ (by omega) (by omega)).trans g19, (h1 _ (by omega) (by omega)).trans g20, (h1 _ (by omega) (by omega)).trans g21⟩
theorem xx_md0.md1 {B : xx_H} {b a : Nat} (h : xx_md0 B b a) : xx_md1 B b a 0 := h
def yx_n9 : Nat → Int := fun r => if r = 17 then 1 else 0
theorem yx_n9s : yx_n9 17 = 1 := rfl
theorem yx_n9n {r : Nat} (h : ¬ r = 17) : yx_n9 r = 0 := if_neg h
theorem xx_md1.r {B : xx_H} {b : Nat} {k : Int32} (h : xx_md1 B (b + 297) (b + 298) k) : yx_r B (b + 297) 0 1 := by
  obtain ⟨m0, m1, m2, m3, m4, m5, m6, m7, m8, m9, m10, m11, m12, m13, m14, m15, m16, m17, m18, m19, m20, m21⟩ := h
  have rw9 : xx_rw B (b + 297) yx_n9 := by
    refine ⟨⟨_, _, _, m1, m2, m3, fun r hr => ?_⟩, ⟨_, m17⟩, ⟨_, m18⟩⟩
    by_cases y : r = 17
    · subst y
      exact ⟨by rw [pk_us, yx_n9s]; rfl, 1, by rw [pk_us]; rfl, by decide, fun _ => 1, fun i hi => ⟨(by decide : 1 < 65536), by rw [show 40 * 17 + i = 680 by omega, pk_us]; rfl⟩, fun _ => by decide, by rw [yx_n9s]; exact yx_v1 rfl⟩
    · refine ⟨?_, 0, ?_, by decide, fun _ => 0, fun i hi => absurd hi (Nat.not_lt_zero i), fun h => absurd h (Nat.lt_irrefl 0), by rw [yx_n9n y]; rfl⟩
      · rw [pk_un y, yx_n9n y]
        by_cases x : r = 16
        · subst x; rw [pk_us]; rfl
        · rw [pk_un x]; rfl
      · rw [pk_un y, pk_un y]
        by_cases x : r = 16
        · subst x; rw [pk_us]; rfl
        · rw [pk_un x]; rfl
  exact ⟨⟨_, _, _, _, _, _, _, _, m0⟩, ⟨_, rw9, rfl, rfl⟩, ⟨_, m4⟩, ⟨_, m5⟩, ⟨_, m6⟩, ⟨_, m7⟩, ⟨_, m13⟩, ⟨_, m14⟩, ⟨_, m15⟩, ⟨_, m16⟩, ⟨_, m12⟩, ⟨fun _ => ((fun _ _ => 0), 0, 0), ⟨_, _, _, m8, m9, m10, fun j hj => absurd hj (Nat.not_lt_zero j)⟩⟩, ⟨_, m19⟩, ⟨_, m20⟩, ⟨_, m11⟩, ⟨_, m21⟩⟩
/-- before the first game -/
def yx_F (B : xx_H) (z b L : Nat) (xs : Nat → Int32) : Prop := B.2 z = xx_s L xs ∧ z < b ∧ b + 320 ≤ B.1 ∧ (∃ g, B.2 (b + 319) = xx_l 1 g) ∧ xx_br0 B b (b + 1) ∧ ∃ k, xx_md1 B (b + 297) (b + 298) k
def yx_G (B : xx_H) (z b L : Nat) (xs : Nat → Int32) (k : Int32) : Prop := (∃ fs, B.2 (b + 297) = xx_o 9 (.int k :: fs) ∧ fs.length = 28) ∧ yx_F B z b L xs
theorem yx_G.th {B C : xx_H} {z b L : Nat} {xs : Nat → Int32} {k k2 : Int32} (hz : B.2 z = xx_s L xs) (zb : z < b) (hB : b + 320 ≤ B.1) (hw : ∃ g, B.2 (b + 319) = xx_l 1 g) (br : xx_br0 B b (b + 1)) (md : xx_md1 B (b + 297) (b + 298) k) (h1 : C.1 = B.1) (hb : C.2 (b + 297) = xx_o 9 [.int k2, .ref (b + 298), .ref (b + 298 + 1), .ref (b + 298 + 2), .int 0, .int 0, .ref (b + 298 + 3), .ref (b + 298 + 4), .ref (b + 298 + 5), .ref (b + 298 + 6), .int (-1), .int 0, .ref (b + 298 + 7), .ref (b + 298 + 8), .ref (b + 298 + 9), .int 0, .int 0, .ref (b + 298 + 10), .ref (b + 298 + 11), .ref (b + 298 + 12), .ref (b + 298 + 13), .ref (b + 298 + 14), .ref (b + 298 + 15), .ref (b + 298 + 16), .ref (b + 298 + 17), .ref (b + 298 + 18), .ref (b + 298 + 19), .int 0, .ref (b + 298 + 20)]) (hq : ∀ q, q ≠ b + 297 → C.2 q = B.2 q) : yx_G C z b L xs k2 := by
  obtain ⟨g, hw⟩ := hw
  exact ⟨⟨_, hb, rfl⟩, (hq z (by omega)).trans hz, zb, by omega, ⟨g, (hq _ (by omega)).trans hw⟩, br.to (hq b (by omega)) (fun q a1 a2 => hq q (by omega)), k2, md.to hb (fun q a1 a2 => hq q (by omega))⟩

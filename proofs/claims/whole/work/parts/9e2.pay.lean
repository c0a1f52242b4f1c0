/-! ===== Payoffs.put, pay ===== -/
theorem xx_mth4abs : xx_mth RX4 43 Lib.Math.abs.name Lib.Math.abs.code 1 := ⟨wm_X4_43, wq_s_abs, wq_z, wq_c_abs⟩
theorem yl_abs {x : Int} (h : x.natAbs ≤ 9999) : (if 0 ≤ iz x then iz x else 0 - iz x) = nI x.natAbs := by
  have e0 : (0 : Int32) = iz 0 := rfl
  by_cases z : 0 ≤ x
  · rw [if_pos (by rw [Int32.le_iff_toInt_le, iz_toInt (by omega) (by omega)]; exact z), nI_iz]
    congr 1; omega
  · rw [if_neg (by rw [Int32.le_iff_toInt_le, iz_toInt (by omega) (by omega)]; exact z), e0, iz_sub, nI_iz]
    congr 1; omega
/-- the reduced payoffs of a Payoffs, by its own cells -/
def xx_pf (B : xx_H) (p : Nat) (A9 : Nat → Int) (D9 : Nat → Nat) : Prop := (∃ f, B.2 (p + 1) = xx_i 36 f ∧ ∀ c, c < 36 → (A9 c).natAbs ≤ 9999 ∧ f c = iz (A9 c)) ∧ (∃ f, B.2 (p + 2) = xx_i 36 f ∧ ∀ c, c < 36 → 1 ≤ D9 c ∧ D9 c ≤ 12 ∧ f c = nI (D9 c))
theorem xx_pf.to {B C : xx_H} {p : Nat} {A9 : Nat → Int} {D9 : Nat → Nat} (h : xx_pf B p A9 D9) (h1 : C.2 (p + 1) = B.2 (p + 1)) (h2 : C.2 (p + 2) = B.2 (p + 2)) : xx_pf C p A9 D9 := by
  obtain ⟨⟨f, a1, a2⟩, ⟨g, a3, a4⟩⟩ := h
  exact ⟨⟨f, h1.trans a1, a2⟩, ⟨g, h2.trans a3, a4⟩⟩
theorem xx_pf.cg {B : xx_H} {p : Nat} {A9 A8 : Nat → Int} {D9 D8 : Nat → Nat} (h : xx_pf B p A9 D9) (e1 : ∀ c, c < 36 → A9 c = A8 c) (e2 : ∀ c, c < 36 → D9 c = D8 c) : xx_pf B p A8 D8 := by
  obtain ⟨⟨f, a1, a2⟩, ⟨g, a3, a4⟩⟩ := h
  exact ⟨⟨f, a1, fun c hc => by rw [← e1 c hc]; exact a2 c hc⟩, ⟨g, a3, fun c hc => by rw [← e2 c hc]; exact a4 c hc⟩⟩
/-- what makeWhole makes of them -/
def xx_pw (B : xx_H) (p ow ot : Nat) (A9 : Nat → Int) (D9 : Nat → Nat) : Prop := ∃ mu le, yl_is D9 36 mu ∧ mu ≤ 27720 ∧ yl_min (fun i j => A9 (i * 6 + j) * ((mu / D9 (i * 6 + j) : Nat) : Int)) ow ot le ∧ xx_po B p ow ot mu le (fun i j => A9 (i * 6 + j) * ((mu / D9 (i * 6 + j) : Nat) : Int))
set_option maxRecDepth 100000 in
theorem c_X4_mw {G : xx_G} {l : Launch} {A : xx_H} {p ow ot : Nat} {m0 le0 : Int32} {A9 : Nat → Int} {D9 : Nat → Nat} {wf : Nat → Int32} (ho1 : 1 ≤ ow) (ho : ow ≤ 6) (ht1 : 1 ≤ ot) (ht : ot ≤ 6) (hp : A.2 p = xx_o 4 [.int (nI ow), .int (nI ot), .int m0, .int le0, .ref (p + 1), .ref (p + 2), .ref (p + 3)]) (hf : xx_pf A p A9 D9) (hw : A.2 (p + 3) = xx_i 36 wf) : xx_X G l mX4_makeWhole 1 0 0 0 (lv_args 0 [.ref p]) [] A (fun z B => z = .inl none ∧ B.1 = A.1 ∧ xx_pw B p ow ot A9 D9 ∧ xx_pf B p A9 D9 ∧ ∀ q, q ≠ p → q ≠ p + 3 → B.2 q = A.2 q) := by
  obtain ⟨⟨f, a1, a2⟩, ⟨g, a3, a4⟩⟩ := id hf
  refine xx_mono (fun z B h => ?_) (c_X4_makeWhole ho ht (by omega) (by omega) hp a1 a3 hw)
  obtain ⟨h1, h2, h3, h4, h5⟩ := h
  obtain ⟨mu, le, e1, e2, e3, e4, e5, e6, e7⟩ := yl_class (f := wf) ho1 ho ht1 ht a2 a4
  rw [e5] at h3
  rw [e1] at h3
  exact ⟨h1, h2, ⟨mu, le, e2, e3, e4, h3, ho, ht, ⟨_, h4, fun i hi j hj => (e7 i hi j hj).1⟩, fun i hi j hj => (e7 i hi j hj).2, e6⟩, hf.to (h5 _ (by omega) (by omega)) (h5 _ (by omega) (by omega)), h5⟩
set_option maxRecDepth 100000 in
theorem c_X4_put {G : xx_G} {l : Launch} {A : xx_H} {p ow ot r o9 : Nat} {m0 le0 : Int32} {A9 : Nat → Int} {D9 : Nat → Nat} {wf : Nat → Int32} {x : Int} {d : Nat} (ho1 : 1 ≤ ow) (ho : ow ≤ 6) (ht1 : 1 ≤ ot) (ht : ot ≤ 6) (hp : A.2 p = xx_o 4 [.int (nI ow), .int (nI ot), .int m0, .int le0, .ref (p + 1), .ref (p + 2), .ref (p + 3)]) (hf : xx_pf A p A9 D9) (hw : A.2 (p + 3) = xx_i 36 wf) (hr : r < 6) (ho9 : o9 < 6) (hx : x.natAbs ≤ 9999) (hd1 : 1 ≤ d) (hd : d ≤ 12) : xx_X G l mX4_put 2 0 0 0 (lv_args 0 [.ref p, .int (nI r), .int (nI o9), .int (iz x), .int (nI d)]) [] A (fun z B => z = .inl none ∧ B.1 = A.1 ∧ xx_pw B p ow ot (yy_un A9 (r * 6 + o9) (yl_A x d)) (yy_u2 D9 (r * 6 + o9) (yl_D x d)) ∧ xx_pf B p (yy_un A9 (r * 6 + o9) (yl_A x d)) (yy_u2 D9 (r * 6 + o9) (yl_D x d)) ∧ ∀ q, q ≠ p → q ≠ p + 1 → q ≠ p + 2 → q ≠ p + 3 → B.2 q = A.2 q) := by
  obtain ⟨⟨f, a1, a2⟩, ⟨g, a3, a4⟩⟩ := id hf
  have g0 := yl_g0 (x := x) hd1
  have g1 : Nat.gcd x.natAbs d ≤ d := Nat.gcd_le_right _ hd1
  obtain ⟨gg, hgg⟩ : ∃ k, k = Nat.gcd x.natAbs d := ⟨_, rfl⟩
  have hA1 := yl_Al (x := x) hd1
  have hD1 := yl_D1 (x := x) hd1
  have hD2 := yl_Dl (x := x) (d := d)
  refine xx_clv (lv2 := [(0, .ref p), (1, .int (nI r)), (2, .int (nI o9)), (3, .int (iz x)), (4, .int (nI d))]) rfl ?_
  refine xx_iconst (v := 1) dX4_put_0 (by decide) ?_
  refine xx_iload_n dX4_put_1 rfl ?_
  refine xx_mabs dX4_put_2 xx_mth4abs (by decide) (Nat.le_of_ble_eq_true rfl) ?_
  refine xx_eqi (y := nI x.natAbs) (yl_abs hx) ?_
  refine xx_iload dX4_put_5 rfl ?_
  refine xx_callS (N := mX4_commonDivisor) (vs := [.int (nI x.natAbs), .int (nI d)]) (rest := [.int 1]) (d2 := 0) (c2 := 0) (s2 := 0) (c3 := 0) (s3 := 0) dX4_put_7 wm_X4_49 ws_X4_commonDivisor wz_X4 (by decide) nX4_commonDivisor ⟨pX4_commonDivisor, Nat.le_of_ble_eq_true rfl, by decide, Nat.le_of_ble_eq_true rfl, by decide, by decide⟩ (c_X4_commonDivisor) (fun v9 B9 hC => ?_) (fun E9 B9 hC => absurd hC.1 (by simp))
  obtain ⟨hv9, e9⟩ := hC
  cases hv9
  refine xx_cst (st2 := [.int (nI gg), .int 1]) (by rw [xx_cdN 100 _ _ (by omega) (by omega) (by omega), hgg]; rfl) ?_
  rw [e9]
  refine xx_mmax dX4_put_10 xx_mth4max (by decide) (Nat.le_of_ble_eq_true rfl) ?_
  refine xx_eqi (y := nI gg) (by rw [← nI_ofl1, nI_max (by decide) (by omega)]; unfold yy_max; congr 1; split <;> omega) ?_
  refine xx_istore dX4_put_13 (by decide) ?_
  refine xx_clv (lv2 := [(0, .ref p), (1, .int (nI r)), (2, .int (nI o9)), (3, .int (iz x)), (4, .int (nI d)), (5, .int (nI gg))]) rfl ?_
  refine xx_aload_n dX4_put_15 rfl ?_
  refine xx_get xx_c4 dX4_put_16 wf_X4_24 (j := 4) (by decide) hp rfl ?_
  refine xx_iload_n dX4_put_19 rfl ?_
  refine xx_bipush (v := 6) dX4_put_20 (by decide) ?_
  refine xx_imul dX4_put_22 ?_
  refine xx_eqi (y := nI (r * 6)) (pk_mul r 6) ?_
  refine xx_iload_n dX4_put_23 rfl ?_
  refine xx_iadd dX4_put_24 ?_
  refine xx_eqi (y := nI (r * 6 + o9)) (nI_add (r * 6) o9) ?_
  refine xx_iload_n dX4_put_25 rfl ?_
  refine xx_iload dX4_put_26 rfl ?_
  refine xx_idiv dX4_put_28 (nI_ne0 (n := gg) (by omega) (by omega)) ?_
  refine xx_eqi (y := iz (yl_A x d)) (by rw [iz_divN (by omega) (by omega) (by omega) (by rw [hgg]; exact ⟨yl_A x d, by rw [Int.mul_comm]; exact yl_Am.symm⟩), hgg]; rfl) ?_
  refine xx_iast dX4_put_29 a1 (vp_in_nI (by omega) (by decide)) (xx_gu fun Eq1 z1 h1 o1 => ?_)
  rw [nI_clamp (by omega)] at h1
  have hp1 := (o1 p (by omega)).trans hp
  refine xx_aload_n dX4_put_30 rfl ?_
  refine xx_get xx_c4 dX4_put_31 wf_X4_28 (j := 5) (by decide) hp1 rfl ?_
  refine xx_iload_n dX4_put_34 rfl ?_
  refine xx_bipush (v := 6) dX4_put_35 (by decide) ?_
  refine xx_imul dX4_put_37 ?_
  refine xx_eqi (y := nI (r * 6)) (pk_mul r 6) ?_
  refine xx_iload_n dX4_put_38 rfl ?_
  refine xx_iadd dX4_put_39 ?_
  refine xx_eqi (y := nI (r * 6 + o9)) (nI_add (r * 6) o9) ?_
  refine xx_iload dX4_put_40 rfl ?_
  refine xx_iload dX4_put_42 rfl ?_
  refine xx_idiv dX4_put_44 (nI_ne0 (n := gg) (by omega) (by omega)) ?_
  refine xx_eqi (y := nI (yl_D x d)) (by rw [pk_div (by omega) (by omega) (by omega), hgg]; rfl) ?_
  refine xx_iast dX4_put_45 ((o1 (p + 2) (by omega)).trans a3) (vp_in_nI (by omega) (by decide)) (xx_gu fun Eq2 z2 h2 o2 => ?_)
  rw [nI_clamp (by omega)] at h2
  have hp2 := (o2 p (by omega)).trans hp1
  refine xx_aload_n dX4_put_46 rfl ?_
  have hf2 : xx_pf Eq2 p (yy_un A9 (r * 6 + o9) (yl_A x d)) (yy_u2 D9 (r * 6 + o9) (yl_D x d)) := by
    refine ⟨⟨_, (o2 (p + 1) (by omega)).trans h1, fun c hc => ?_⟩, ⟨_, h2, fun c hc => ?_⟩⟩
    · by_cases z : c = r * 6 + o9
      · rw [z, yy_un_s, pk_us]; exact ⟨by omega, rfl⟩
      · rw [yy_un_n z, pk_un z]; exact a2 c hc
    · unfold yy_u2
      by_cases z : c = r * 6 + o9
      · rw [if_pos z, z, pk_us]; exact ⟨hD1, by omega, rfl⟩
      · rw [if_neg z, pk_un z]; exact a4 c hc
  refine xx_callV (N := mX4_makeWhole) (vs := []) (b := p) (rest := []) (d2 := 1) (c2 := 0) (s2 := 0) (c3 := 0) (s3 := 0) dX4_put_47 wm_X4_40 wi_X4_makeWhole wv_X4_makeWhole (k := 4) rfl (by decide) hp2 nX4_makeWhole ⟨pX4_makeWhole, Nat.le_of_ble_eq_true rfl, by decide, Nat.le_of_ble_eq_true rfl, by decide, by decide⟩ (c_X4_mw ho1 ho ht1 ht hp2 hf2 ((o2 _ (by omega)).trans ((o1 _ (by omega)).trans hw))) (fun v9 Eq3 hC => ?_) (fun E9 B9 hC => absurd hC.1 (by simp))
  obtain ⟨hv9, z3, v3, w3, f3⟩ := hC
  cases hv9
  refine xx_cst (st2 := []) rfl ?_
  exact xx_vret dX4_put_50 rfl ⟨rfl, by omega, v3, w3, fun q b0 b1 b2 b3 => (f3 q b0 b3).trans ((o2 q b2).trans (o1 q b1))⟩
/-- where a Payoffs' own cell stands among the game's -/
def yl_tr (p c : Nat) : Nat := if p = 0 then c else c % 6 * 6 + c / 6
theorem yl_tr36 {p c : Nat} (hc : c < 36) : yl_tr p c < 36 := by unfold yl_tr; split <;> omega
theorem yl_tr2 {p c : Nat} (hc : c < 36) : yl_tr p (yl_tr p c) = c := by
  unfold yl_tr
  by_cases z : p = 0
  · rw [if_pos z, if_pos z]
  · rw [if_neg z, if_neg z]; omega
/-- payoffs as they were paid -/
def yl_raw (ra : Nat → Nat → Int) (rd : Nat → Nat → Nat) : Prop := ∀ p, p < 2 → ∀ k, k < 36 → (ra p k).natAbs ≤ 9999 ∧ 1 ≤ rd p k ∧ rd p k ≤ 12
/-- what the game's numbers are -/
def yl_st (m n : Nat) (ra : Nat → Nat → Int) (rd : Nat → Nat → Nat) (W : Nat → Nat → Nat → Int) (le : Nat → Int) (mu : Nat → Nat) : Prop := ∀ p, p < 2 → yl_is (fun k => yl_D (ra p k) (rd p k)) 36 (mu p) ∧ (∀ i, i < m → ∀ j, j < n → W p i j = yl_A (ra p (6 * i + j)) (rd p (6 * i + j)) * ((mu p / yl_D (ra p (6 * i + j)) (rd p (6 * i + j)) : Nat) : Int)) ∧ yl_min (W p) m n (le p)
theorem yl_st_u {m n : Nat} {ra : Nat → Nat → Int} {rd : Nat → Nat → Nat} {W W2 : Nat → Nat → Nat → Int} {le le2 : Nat → Int} {mu mu2 : Nat → Nat} (h : yl_st m n ra rd W le mu) (h2 : yl_st m n ra rd W2 le2 mu2) : ∀ p, p < 2 → mu p = mu2 p ∧ le p = le2 p ∧ ∀ i, i < m → ∀ j, j < n → W p i j = W2 p i j := by
  intro p hp
  obtain ⟨a1, a2, a3⟩ := h p hp
  obtain ⟨b1, b2, b3⟩ := h2 p hp
  have em := yl_uni a1 b1 (fun k hk => ⟨k, hk, rfl⟩) (fun k hk => ⟨k, hk, rfl⟩)
  have ew : ∀ i, i < m → ∀ j, j < n → W p i j = W2 p i j := fun i hi j hj => by rw [a2 i hi j hj, b2 i hi j hj, em]
  refine ⟨em, ?_, ew⟩
  obtain ⟨⟨i, j, hi, hj, e⟩, c⟩ := a3
  obtain ⟨⟨k, l, hk, hl, e2⟩, c2⟩ := b3
  have h3 := c k hk l hl
  have h4 := c2 i hi j hj
  rw [ew k hk l hl] at h3
  rw [← ew i hi j hj] at h4
  omega
theorem yl_ok {m n : Nat} {ra : Nat → Nat → Int} {rd : Nat → Nat → Nat} {W : Nat → Nat → Nat → Int} {le : Nat → Int} {mu : Nat → Nat} (hm1 : 1 ≤ m) (hm : m ≤ 6) (hn1 : 1 ≤ n) (hn : n ≤ 6) (hr : yl_raw ra rd) (h : yl_st m n ra rd W le mu) : yg_ok m n W le ∧ ∀ p, p < 2 → mu p ≤ 27720 ∧ 0 < mu p := by
  have hmu : ∀ p, p < 2 → mu p ≤ 27720 ∧ 0 < mu p := fun p hp => ⟨yl_le (h p hp).1 (fun k hk => by
    obtain ⟨b1, b2, b3⟩ := hr p hp k hk
    have := yl_D1 (x := ra p k) b2
    have := yl_Dl (x := ra p k) (d := rd p k)
    exact ⟨by assumption, by omega⟩), (h p hp).1.1⟩
  have hw : ∀ p, p < 2 → ∀ i, i < m → ∀ j, j < n → (W p i j).natAbs ≤ 277172280 := fun p hp i hi j hj => by
    obtain ⟨b1, b2, b3⟩ := hr p hp (6 * i + j) (by omega)
    have := yl_Al (x := ra p (6 * i + j)) b2
    rw [(h p hp).2.1 i hi j hj]
    exact yl_w_b (by omega) (hmu p hp).1
  refine ⟨⟨hm1, hm, hn1, hn, fun p hp i hi j hj => ⟨hw p hp i hi j hj, (h p hp).2.2.2 i hi j hj⟩, fun p hp => ?_⟩, hmu⟩
  obtain ⟨⟨i, j, hi, hj, e⟩, _⟩ := (h p hp).2.2
  rw [e]
  exact hw p hp i hi j hj
/-- the class's payoffs as a whole -/
def xx_cp (B : xx_H) (b : Nat) (ra : Nat → Nat → Int) (rd : Nat → Nat → Nat) : Prop := ∀ p, p < 2 → xx_pf B (b + 3 + 4 * p) (fun c => yl_A (ra p (yl_tr p c)) (rd p (yl_tr p c))) (fun c => yl_D (ra p (yl_tr p c)) (rd p (yl_tr p c)))
theorem xx_cp.to {B C : xx_H} {b : Nat} {ra : Nat → Nat → Int} {rd : Nat → Nat → Nat} (h : xx_cp B b ra rd) (hq : ∀ q, b + 2 ≤ q → q < b + 11 → C.2 q = B.2 q) : xx_cp C b ra rd := fun p hp => (h p hp).to (hq _ (by omega) (by omega)) (hq _ (by omega) (by omega))
/-- a Payoffs' wholes are the game's -/
theorem xx_pw_st {B : xx_H} {b m n p : Nat} {ra : Nat → Nat → Int} {rd : Nat → Nat → Nat} (hp : p < 2) (hm : m ≤ 6) (hn : n ≤ 6) (h : xx_pw B (b + 3 + 4 * p) (yy_cn m n p) (yy_cn m n (1 - p)) (fun c => yl_A (ra p (yl_tr p c)) (rd p (yl_tr p c))) (fun c => yl_D (ra p (yl_tr p c)) (rd p (yl_tr p c)))) : ∃ (W : Nat → Nat → Int) (le : Int) (mu : Nat), yl_is (fun k => yl_D (ra p k) (rd p k)) 36 mu ∧ (∀ i, i < m → ∀ j, j < n → W i j = yl_A (ra p (6 * i + j)) (rd p (6 * i + j)) * ((mu / yl_D (ra p (6 * i + j)) (rd p (6 * i + j)) : Nat) : Int)) ∧ yl_min W m n le ∧ xx_po B (b + 3 + 4 * p) (yy_cn m n p) (yy_cn m n (1 - p)) mu le (yo_w (fun _ => W) p) := by
  obtain ⟨mu, le, h1, h2, h3, h4⟩ := h
  have hi : yl_is (fun k => yl_D (ra p k) (rd p k)) 36 mu := by
    refine ⟨h1.1, fun k hk => ?_, fun x hx => h1.2.2 x (fun k hk => hx _ (yl_tr36 hk))⟩
    have this : yl_D (ra p (yl_tr p (yl_tr p k))) (rd p (yl_tr p (yl_tr p k))) ∣ mu := h1.2.1 (yl_tr p k) (yl_tr36 hk)
    rw [yl_tr2 hk] at this
    exact this
  refine ⟨fun i j => yl_A (ra p (6 * i + j)) (rd p (6 * i + j)) * ((mu / yl_D (ra p (6 * i + j)) (rd p (6 * i + j)) : Nat) : Int), le, mu, hi, fun i _ j _ => rfl, ?_, ?_⟩
  · obtain ⟨⟨i, j, hi2, hj, e⟩, c⟩ := h3
    rcases (show p = 0 ∨ p = 1 by omega) with z | z
    · subst z
      refine ⟨⟨i, j, hi2, hj, ?_⟩, fun k hk l hl => ?_⟩
      · rw [e]; dsimp only; rw [show yl_tr 0 (i * 6 + j) = 6 * i + j from by unfold yl_tr; rw [if_pos rfl]; omega]
      · have := c k hk l hl
        dsimp only at this
        rw [show yl_tr 0 (k * 6 + l) = 6 * k + l from by unfold yl_tr; rw [if_pos rfl]; omega] at this
        exact this
    · subst z
      have hi2 : i < n := hi2
      have hj : j < m := hj
      refine ⟨⟨j, i, hj, hi2, ?_⟩, fun k hk l hl => ?_⟩
      · rw [e]; dsimp only; rw [show yl_tr 1 (i * 6 + j) = 6 * j + i from by unfold yl_tr; rw [if_neg (by decide)]; omega]
      · have := c l hl k hk
        dsimp only at this
        rw [show yl_tr 1 (l * 6 + k) = 6 * k + l from by unfold yl_tr; rw [if_neg (by decide)]; omega] at this
        exact this
  · obtain ⟨q1, q2, q3, ⟨f, q4, q5⟩, q6, q7⟩ := h4
    refine ⟨q1, q2, q3, ⟨f, q4, fun i hi2 j hj => ?_⟩, fun i hi2 j hj => ?_, q7⟩
    · rw [q5 i hi2 j hj]
      unfold yo_w
      dsimp only
      rcases (show p = 0 ∨ p = 1 by omega) with z | z
      · subst z
        rw [if_pos rfl, show yl_tr 0 (i * 6 + j) = 6 * i + j from by unfold yl_tr; rw [if_pos rfl]; omega]
      · subst z
        have hi2 : i < n := hi2
        have hj : j < m := hj
        rw [if_neg (by decide), show yl_tr 1 (i * 6 + j) = 6 * j + i from by unfold yl_tr; rw [if_neg (by decide)]; omega]
    · have := q6 i hi2 j hj
      dsimp only at this
      unfold yo_w
      dsimp only
      rcases (show p = 0 ∨ p = 1 by omega) with z | z
      · subst z
        rw [show yl_tr 0 (i * 6 + j) = 6 * i + j from by unfold yl_tr; rw [if_pos rfl]; omega] at this
        rw [if_pos rfl]
        exact this
      · subst z
        have hi2 : i < n := hi2
        have hj : j < m := hj
        rw [show yl_tr 1 (i * 6 + j) = 6 * j + i from by unfold yl_tr; rw [if_neg (by decide)]; omega] at this
        rw [if_neg (by decide)]
        exact this

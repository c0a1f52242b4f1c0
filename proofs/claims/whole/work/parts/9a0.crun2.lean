/-! ===== BestReplies.run ===== -/
/-- a Table that has just been laid holds the table of the first basis -/
theorem yt_first {B : xx_H} {t m n tt : Nat} {P : Nat → Nat} {V : Nat → Int} {W : Nat → Nat → Nat → Int} {le : Nat → Int} (hg : yg_ok m n W le) (ht : tt < 2) (H : xx_tb B t (yy_rw m n tt) (yy_rw m n (1 - tt)) (yq_fl m tt) (fun i => yq_fl m tt + i) (fun i => yq_fl m (1 - tt) + i) P V) (hV : ∀ k, k < yy_rw m n tt → ∀ c, c < yy_rw m n (1 - tt) → V (k * 7 + c) = 1 + (if tt = 0 then W 1 c k - le 1 else W 0 k c - le 0)) (hS : ∀ k, k < yy_rw m n tt → V (k * 7 + 6) = 1) (hd : V 42 = 1) (hb : ∀ i, i < 43 → (V i).natAbs < 2 ^ 200) : xx_tq B t m n tt (yg_a m n W le tt) (fun i => yq_fl m tt + i) := by
  obtain ⟨i1, i2⟩ := yh_init ((yg_g hg).1 tt ht)
  refine ⟨_, _, P, V, H, fun i _ => rfl, ⟨fun k hk p hp => ?_, fun k hk => ?_, ?_⟩, hb, fun c hc => ?_, fun p hp => ?_⟩
  · rw [hV k hk p hp, i1 k hk]
    show _ = yg_a m n W le tt (yq_fl m (1 - tt) + p) k
    unfold yy_rw at hp
    by_cases e : tt = 0
    · subst e
      rw [if_neg (by decide)] at hp
      rw [show yq_fl m (1 - 0) = 0 from rfl, Nat.zero_add, if_pos rfl]
      unfold yg_a
      rw [if_neg (by omega), if_pos rfl, if_pos hp]
      omega
    · have : tt = 1 := by omega
      subst this
      rw [if_pos (by decide)] at hp
      rw [show yq_fl m (1 - 1) = m from rfl, if_neg (by decide)]
      unfold yg_a
      rw [if_neg (by omega), if_neg (by decide), if_neg (by omega), Nat.add_sub_cancel_left]
      omega
  · rw [hS k hk, i1 k hk]
    unfold yg_a
    rw [if_pos rfl]
  · rw [hd, i2]
  · unfold yq_fl yy_rw
    by_cases e : tt = 0
    · subst e
      by_cases z : c < m
      · exact Or.inl ⟨c, by rw [if_neg (by decide)]; exact z, by show (if 1 - 0 = 0 then m else 0) + c = c; rw [if_neg (by decide)]; omega⟩
      · exact Or.inr ⟨c - m, by rw [if_pos rfl]; omega, by show (if 0 = 0 then m else 0) + (c - m) = c; rw [if_pos rfl]; omega⟩
    · have : tt = 1 := by omega
      subst this
      by_cases z : c < m
      · exact Or.inr ⟨c, by rw [if_neg (by decide)]; exact z, by show (if 1 = 0 then m else 0) + c = c; rw [if_neg (by decide)]; omega⟩
      · exact Or.inl ⟨c - m, by rw [if_pos (by decide)]; omega, by show (if 1 - 1 = 0 then m else 0) + (c - m) = c; rw [if_pos (by decide)]; omega⟩
  · unfold yy_rw at hp
    show yq_fl m (1 - tt) + p < m + n
    unfold yq_fl
    by_cases e : tt = 0
    · subst e; rw [if_neg (by decide)] at hp ⊢; omega
    · have : tt = 1 := by omega
      subst this; rw [if_pos (by decide)] at hp ⊢; omega
/-- a Table, whatever it holds -/
def xx_ta (B : xx_H) (t : Nat) : Prop := ∃ R C fl rl cl P V, xx_tb B t R C fl rl cl P V ∧ ∀ i, i < 43 → (V i).natAbs < 2 ^ 200
theorem xx_ta.to {B C : xx_H} {t : Nat} (h : xx_ta B t) (hq : ∀ q, t ≤ q → q < t + 103 → C.2 q = B.2 q) : xx_ta C t := by
  obtain ⟨R, C9, fl, rl, cl, P, V, h1, h2⟩ := h
  exact ⟨R, C9, fl, rl, cl, P, V, h1.to hq, h2⟩
theorem xx_tq.ta {B : xx_H} {t m n tt : Nat} {a : Nat → Nat → Int} {bs : Nat → Nat} (h : xx_tq B t m n tt a bs) : xx_ta B t := by
  obtain ⟨rl, cl, P, V, h1, _, _, h4, _⟩ := h
  exact ⟨_, _, _, rl, cl, P, V, h1, h4⟩
abbrev yg_p (m n : Nat) (W : Nat → Nat → Nat → Int) (le : Nat → Int) (lb : Nat) : Nat → yq_S := yq_p m n (yg_a m n W le) (yg_s m lb)
/-- how many steps a run from a label has -/
def yg_q (m n : Nat) (W : Nat → Nat → Nat → Int) (le : Nat → Int) (lb q : Nat) : Prop := q < 227 ∧ (yg_p m n W le lb (q + 1)).2.2 = lb ∧ ∀ i, i < q → (yg_p m n W le lb (i + 1)).2.2 ≠ lb
theorem yg_q_u {m n : Nat} {W : Nat → Nat → Nat → Int} {le : Nat → Int} {lb q r : Nat} (h : yg_q m n W le lb q) (h2 : yg_q m n W le lb r) : q = r := by
  rcases Nat.lt_trichotomy q r with z | z | z
  · exact absurd h.2.1 (h2.2.2 q z)
  · exact z
  · exact absurd h2.2.1 (h.2.2 r z)
theorem yg_all {m n : Nat} {W : Nat → Nat → Nat → Int} {le : Nat → Int} {lb q : Nat} (hg : yg_ok m n W le) (hl : lb < m + n) (h : yg_q m n W le lb q) : ∀ i, i ≤ q → yq_ok m n (yg_a m n W le) (yg_p m n W le lb i) := fun i hi => (yq_all (yg_g hg) (yg_start hg hl).1 (yg_start hg hl).2 (fun j hj => h.2.2 j hj) i hi).1
/-- what the path's arrays tell of a run -/
def xx_pt (B : xx_H) (b : Nat) (ps : Nat → yq_S) (q : Nat) : Prop := ∃ f8 f9 f10, B.2 (b + 227) = xx_i 256 f8 ∧ B.2 (b + 228) = xx_i 256 f9 ∧ B.2 (b + 229) = xx_i 256 f10 ∧ ∀ j, j < q → f8 j = nI (ps j).2.2 ∧ f9 j = nI (ps (j + 1)).2.2 ∧ f10 j = nI (ps j).2.1
set_option maxRecDepth 100000 in
theorem c_X8_run {G : xx_G} {l : Launch} {A : xx_H} {b m n : Nat} {u6 u7 u8 u10 u11 : Value} {fc : Nat → Int32} {hpy ht hp : Nat → Option Nat} {mu : Nat → Nat} {W : Nat → Nat → Nat → Int} {le : Nat → Int} {x : Int32} (hb : A.2 b = xx_o 8 [.ref (b + 1), .ref (b + 2), .ref (b + 11), .ref (b + 18), .ref (b + 19), .ref (b + 226), u6, u7, u8, .ref (b + 230), u10, u11, .ref (b + 233), .ref (b + 266), .ref (b + 279), .ref (b + 281), .ref (b + 283), .ref (b + 288)]) (hc : A.2 (b + 1) = xx_i 2 fc) (hc2 : ∀ p, p < 2 → fc p = nI (yy_cn m n p)) (hpay : A.2 (b + 2) = xx_r 14 2 hpy) (hpy0 : hpy 0 = some (b + 3)) (hpy1 : hpy 1 = some (b + 7)) (po0 : xx_po A (b + 3) m n (mu 0) (le 0) (W 0)) (po1 : xx_po A (b + 7) n m (mu 1) (le 1) (fun i j => W 1 j i)) (htb : A.2 (b + 19) = xx_r 15 2 ht) (ht2 : ∀ t, t < 2 → ht t = some (yt_t b t)) (hta : ∀ t, t < 2 → xx_ta A (yt_t b t)) (hpa : A.2 (b + 226) = xx_r 5 3 hp) (hp3 : ∀ j, j < 3 → hp j = some (b + 227 + j)) (hpt : xx_pt A b (fun _ => (fun _ _ => 0, 0, 0)) 0) (hg : yg_ok m n W le) : xx_X G l mX8_run 8 1 6 0 (lv_args 0 [.ref b, .int x]) [] A (fun z B => (∃ lb q, lb < m + n ∧ x = nI lb ∧ yg_q m n W le lb q ∧ z = .inl (some (.int (nI (q + 1)))) ∧ B.1 = A.1 ∧ B.2 b = xx_o 8 [.ref (b + 1), .ref (b + 2), .ref (b + 11), .ref (b + 18), .ref (b + 19), .ref (b + 226), .int (nI (q + 1)), .int (nI lb), u8, .ref (b + 230), u10, u11, .ref (b + 233), .ref (b + 266), .ref (b + 279), .ref (b + 281), .ref (b + 283), .ref (b + 288)] ∧ (∀ t, t < 2 → xx_tq B (yt_t b t) m n t (yg_a m n W le t) ((yg_p m n W le lb (q + 1)).1 t)) ∧ xx_pt B b (yg_p m n W le lb) (q + 1) ∧ ∀ q, q ≠ b → (q < b + 20 ∨ b + 230 ≤ q ∨ q = b + 226) → B.2 q = A.2 q) ∨ (¬ yy_in x (m + n) ∧ z = .inr R_iae ∧ A.1 ≤ B.1 ∧ B.2 = A.2)) := by
  have hm1 := hg.1
  have hm := hg.2.1
  have hn1 := hg.2.2.1
  have hn := hg.2.2.2.1
  refine xx_clv (lv2 := [(0, .ref b), (1, .int x)]) rfl ?_
  refine xx_aload_n dX8_run_0 rfl ?_
  refine xx_callV (N := mX8_needGame) (vs := []) (b := b) (rest := []) (d2 := 6) (c2 := 0) (s2 := 0) (c3 := 1) (s3 := 6) dX8_run_1 wm_X8_118 wi_X8_needGame wv_X8_needGame (k := 8) rfl (by decide) hb nX8_needGame ⟨pX8_needGame, Nat.le_of_ble_eq_true rfl, by decide, Nat.le_of_ble_eq_true rfl, by decide, by decide⟩ (c_X8_needGame hb hc hc2 hm1 hm) (fun v9 B9 hC => ?_) (fun E9 B9 hC => absurd hC.1 (by simp))
  obtain ⟨hv9, e9⟩ := hC
  cases hv9
  refine xx_cst (st2 := []) rfl ?_
  rw [e9]
  refine xx_iload_n dX8_run_4 rfl ?_
  refine xx_if_lt (tgt := 25) dX8_run_5 (by decide) (fun j5 => ?_) (fun j5 => ?_)
  · exact xx_throwS xx_thw_iae (List.mem_of_getElem? (i := 5) rfl) rfl dX8_run_25 dX8_run_28 dX8_run_29 dX8_run_31 dX8_run_34 (by decide) (by decide) (fun n9 hn9 => Or.inr ⟨yy_in_lo (by omega) j5, rfl, hn9, rfl⟩)
  · refine xx_iload_n dX8_run_8 rfl ?_
    refine xx_aload_n dX8_run_9 rfl ?_
    refine xx_get xx_c8 dX8_run_10 wf_X8_7 (j := 0) (by decide) hb rfl ?_
    refine xx_iconst (v := 0) dX8_run_13 (by decide) ?_
    refine xx_iald dX8_run_14 hc (by unfold vp_in; decide) ?_
    refine xx_eqi (y := nI m) (hc2 0 (by decide)) ?_
    refine xx_aload_n dX8_run_15 rfl ?_
    refine xx_get xx_c8 dX8_run_16 wf_X8_7 (j := 0) (by decide) hb rfl ?_
    refine xx_iconst (v := 1) dX8_run_19 (by decide) ?_
    refine xx_iald dX8_run_20 hc (by unfold vp_in; decide) ?_
    refine xx_eqi (y := nI n) (hc2 1 (by decide)) ?_
    refine xx_iadd dX8_run_21 ?_
    refine xx_eqi (y := nI (m + n)) (nI_add m n) ?_
    refine xx_icmp_lt (tgt := 35) dX8_run_22 (by decide) (fun j22 => ?_) (fun j22 => ?_)
    · obtain ⟨lb, hlb, ex⟩ := yy_in_of (k := m + n) (by omega) j5 j22
      subst ex
      refine xx_clv (lv2 := [(0, .ref b), (1, .int (nI lb))]) rfl ?_
      obtain ⟨q, hq9⟩ := yg_run (label := lb) hg hlb
      have hq : yg_q m n W le lb q := hq9
      obtain ⟨R0, C0, fl0, rl0, cl0, P0, V0, tb0, tv0⟩ := hta 0 (by decide)
      obtain ⟨R1, C1, fl1, rl1, cl1, P1, V1, tb1, tv1⟩ := hta 1 (by decide)
      have tb0 : xx_tb A (b + 20) R0 C0 fl0 rl0 cl0 P0 V0 := tb0
      have tb1 : xx_tb A (b + 123) R1 C1 fl1 rl1 cl1 P1 V1 := tb1
      refine xx_room (d2 := 8) (c2 := 0) (s2 := 0) (by decide) (by decide) (by decide) ?_
      refine xx_aload_n dX8_run_35 rfl ?_
      refine xx_get xx_c8 dX8_run_36 wf_X8_33 (j := 4) (by decide) hb rfl ?_
      refine xx_iconst (v := 0) dX8_run_39 (by decide) ?_
      refine xx_aald (kd := 15) (b := b + 20) dX8_run_40 (by decide) rfl htb (by unfold vp_in; decide) (ht2 0 (by decide)) ?_
      refine xx_aload_n dX8_run_41 rfl ?_
      refine xx_get xx_c8 dX8_run_42 wf_X8_16 (j := 1) (by decide) hb rfl ?_
      refine xx_iconst (v := 1) dX8_run_45 (by decide) ?_
      refine xx_aald (kd := 14) (b := b + 7) dX8_run_46 (by decide) rfl hpay (by unfold vp_in; decide) (hpy1) ?_
      refine xx_aload_n dX8_run_47 rfl ?_
      refine xx_get xx_c8 dX8_run_48 wf_X8_7 (j := 0) (by decide) hb rfl ?_
      refine xx_iconst (v := 0) dX8_run_51 (by decide) ?_
      refine xx_iald dX8_run_52 hc (by unfold vp_in; decide) ?_
      refine xx_eqi (y := nI m) (hc2 0 (by decide)) ?_
      refine xx_iconst (v := 0) dX8_run_53 (by decide) ?_
      refine xx_callV (N := mX5_start) (vs := [.ref (b + 7), .int (nI m), .int 0]) (b := (b + 20)) (rest := []) (d2 := 3) (c2 := 0) (s2 := 0) (c3 := 0) (s3 := 0) dX8_run_54 wm_X8_136 wi_X5_start wv_X5_start (k := 5) rfl (by decide) tb0.1 nX5_start ⟨pX5_start, Nat.le_of_ble_eq_true rfl, by decide, Nat.le_of_ble_eq_true rfl, by decide, by decide⟩ (c_X5_start (RL := m) (CL := 0) tb0 tv0 po1 (by omega) (by omega) (by omega)) (fun v9 D hC => ?_) (fun E9 B9 hC => absurd hC.1 (by simp))
      obtain ⟨hv9, k1, k2, k3⟩ := hC
      cases hv9
      refine xx_cst (st2 := []) rfl ?_
      have b2 := (k3 b (by omega)).trans hb
      have hc_1 := (k3 (b + 1) (by omega)).trans hc
      refine xx_aload_n dX8_run_57 rfl ?_
      refine xx_get xx_c8 dX8_run_58 wf_X8_33 (j := 4) (by decide) b2 rfl ?_
      refine xx_iconst (v := 1) dX8_run_61 (by decide) ?_
      refine xx_aald (kd := 15) (b := b + 123) dX8_run_62 (by decide) rfl ((k3 (b + 19) (by omega)).trans htb) (by unfold vp_in; decide) (ht2 1 (by decide)) ?_
      refine xx_aload_n dX8_run_63 rfl ?_
      refine xx_get xx_c8 dX8_run_64 wf_X8_16 (j := 1) (by decide) b2 rfl ?_
      refine xx_iconst (v := 0) dX8_run_67 (by decide) ?_
      refine xx_aald (kd := 14) (b := b + 3) dX8_run_68 (by decide) rfl ((k3 (b + 2) (by omega)).trans hpay) (by unfold vp_in; decide) (hpy0) ?_
      refine xx_iconst (v := 0) dX8_run_69 (by decide) ?_
      refine xx_aload_n dX8_run_70 rfl ?_
      refine xx_get xx_c8 dX8_run_71 wf_X8_7 (j := 0) (by decide) b2 rfl ?_
      refine xx_iconst (v := 0) dX8_run_74 (by decide) ?_
      refine xx_iald dX8_run_75 hc_1 (by unfold vp_in; decide) ?_
      refine xx_eqi (y := nI m) (hc2 0 (by decide)) ?_
      have tb1_2 : xx_tb D (b + 123) R1 C1 fl1 rl1 cl1 P1 V1 := tb1.to (fun q a1 a2 => k3 q (by omega))
      refine xx_callV (N := mX5_start) (vs := [.ref (b + 3), .int 0, .int (nI m)]) (b := (b + 123)) (rest := []) (d2 := 3) (c2 := 0) (s2 := 0) (c3 := 0) (s3 := 0) dX8_run_76 wm_X8_136 wi_X5_start wv_X5_start (k := 5) rfl (by decide) tb1_2.1 nX5_start ⟨pX5_start, Nat.le_of_ble_eq_true rfl, by decide, Nat.le_of_ble_eq_true rfl, by decide, by decide⟩ (c_X5_start (RL := 0) (CL := m) tb1_2 tv1 (po0.to (k3 _ (by omega)) (k3 _ (by omega))) (by omega) (by omega) (by omega)) (fun v9 E hC => ?_) (fun E9 B9 hC => absurd hC.1 (by simp))
      obtain ⟨hv9, n1, n2, n3⟩ := hC
      cases hv9
      refine xx_cst (st2 := []) rfl ?_
      have b3 := (n3 b (by omega)).trans b2
      have hc_2 := (n3 (b + 1) (by omega)).trans hc_1
      refine xx_iload_n dX8_run_79 rfl ?_
      refine xx_aload_n dX8_run_80 rfl ?_
      refine xx_get xx_c8 dX8_run_81 wf_X8_7 (j := 0) (by decide) b3 rfl ?_
      refine xx_iconst (v := 0) dX8_run_84 (by decide) ?_
      refine xx_iald dX8_run_85 hc_2 (by unfold vp_in; decide) ?_
      refine xx_eqi (y := nI m) (hc2 0 (by decide)) ?_
      refine xx_icmp_ge (tgt := 93) dX8_run_86 (by decide) (fun j86 => ?_) (fun j86 => ?_)
      · have j86 : m ≤ lb := (nI_leI (a := m) (b := lb) (by omega) (by omega)).mp j86
        refine xx_iconst (v := 1) dX8_run_93 (by decide) ?_
        refine xx_istore_n dX8_run_94 (by decide) ?_
        refine xx_clv (lv2 := [(0, .ref b), (1, .int (nI lb)), (2, .int 1)]) rfl ?_
        refine xx_iload_n dX8_run_95 rfl ?_
        refine xx_istore_n dX8_run_96 (by decide) ?_
        refine xx_clv (lv2 := [(0, .ref b), (1, .int (nI lb)), (2, .int 1), (3, .int (nI lb))]) rfl ?_
        refine xx_iconst (v := 0) dX8_run_97 (by decide) ?_
        refine xx_istore dX8_run_98 (by decide) ?_
        refine xx_clv (lv2 := [(0, .ref b), (1, .int (nI lb)), (2, .int 1), (3, .int (nI lb)), (4, .int 0)]) rfl ?_
        refine xx_iconst (v := 0) dX8_run_100 (by decide) ?_
        refine xx_istore dX8_run_101 (by decide) ?_
        refine xx_clv (lv2 := [(0, .ref b), (1, .int (nI lb)), (2, .int 1), (3, .int (nI lb)), (4, .int 0), (5, .int 0)]) rfl ?_
        obtain ⟨V2, tt0, v1, v2, v3, v4⟩ := k2
        obtain ⟨V3, tt1, w1, w2, w3, w4⟩ := n2
        have T0 : xx_tq E (yt_t b 0) m n 0 (yg_a m n W le 0) (fun i => yq_fl m 0 + i) := yt_first hg (by decide) (show xx_tb E (b + 20) n m m (fun i => m + i) (fun i => 0 + i) P0 V2 from tt0.to (fun q a1 a2 => n3 q (by omega))) (fun k hk c hc => (v1 k hk c hc).trans (by rw [if_pos rfl]; omega)) v2 v3 v4
        have T1 : xx_tq E (yt_t b 1) m n 1 (yg_a m n W le 1) (fun i => yq_fl m 1 + i) := yt_first hg (by decide) (show xx_tb E (b + 123) m n 0 (fun i => 0 + i) (fun i => m + i) P1 V3 from tt1) (fun k hk c hc => (w1 k hk c hc).trans (by rw [if_neg (by decide)]; omega)) w2 w3 w4
        obtain ⟨g8, g9, g10, p1, p2, p3, _⟩ := hpt
        have fr : ∀ q, (q < b + 20 ∨ b + 226 ≤ q) → E.2 q = A.2 q := fun q h9 => (n3 q (by omega)).trans (k3 q (by omega))
        refine xx_less [0, 1, 2, 3, 4, 5] ?_
        have t0 : (yg_p m n W le lb 0).2.1 = 1 := if_neg (by omega)
        refine xx_clv (lv2 := [(0, .ref b), (1, .int (nI lb)), (2, .int (nI (yg_p m n W le lb 0).2.1)), (3, .int (nI (yg_p m n W le lb 0).2.2)), (4, .int (nI 0)), (5, .int (if q + 1 = 0 then 1 else 0))]) (by rw [t0, if_neg (by omega)]; rfl) ?_
        refine l_X8_run (A := E) (ht := ht) (hp := hp) (ps := yg_p m n W le lb) (q := q) b3 ((fr _ (by omega)).trans htb) ht2 ((fr _ (by omega)).trans hpa) hp3 hg (fun i => rfl) (yg_all hg hlb hq) hq.1 hq.2.1 hq.2.2 hlb (fun F f8 f9 f10 y1 y2 y3 y4 y5 y6 y7 => ?_) (q + 1) 0 (by omega) E g8 g9 g10 rfl (fun t h9 => ?_) ((fr _ (by omega)).trans p1) ((fr _ (by omega)).trans p2) ((fr _ (by omega)).trans p3) (fun j hj => absurd hj (Nat.not_lt_zero j)) (fun q _ => rfl)
        rotate_left
        · show xx_tq E (yt_t b t) m n t (yg_a m n W le t) (fun i => yq_fl m t + i)
          rcases (show t = 0 ∨ t = 1 by omega) with z | z
          · rw [z]; exact T0
          · rw [z]; exact T1
        have b4 := (y7 b (by omega)).trans b3
        refine xx_aload_n dX8_run_185 rfl ?_
        refine xx_iload dX8_run_186 rfl ?_
        refine xx_put xx_c8 dX8_run_188 wf_X8_42 (j := 6) (by decide) rfl rfl rfl b4 (Nat.le_of_ble_eq_true rfl) (xx_gu fun A1 z1 h1 o1 => ?_)
        have h1 : A1.2 b = xx_o 8 [.ref (b + 1), .ref (b + 2), .ref (b + 11), .ref (b + 18), .ref (b + 19), .ref (b + 226), .int (nI (q + 1)), u7, u8, .ref (b + 230), u10, u11, .ref (b + 233), .ref (b + 266), .ref (b + 279), .ref (b + 281), .ref (b + 283), .ref (b + 288)] := h1
        refine xx_aload_n dX8_run_191 rfl ?_
        refine xx_iload_n dX8_run_192 rfl ?_
        refine xx_put xx_c8 dX8_run_193 wf_X8_46 (j := 7) (by decide) rfl rfl rfl h1 (Nat.le_of_ble_eq_true rfl) (xx_gu fun A2 z2 h2 o2 => ?_)
        have h2 : A2.2 b = xx_o 8 [.ref (b + 1), .ref (b + 2), .ref (b + 11), .ref (b + 18), .ref (b + 19), .ref (b + 226), .int (nI (q + 1)), .int (nI lb), u8, .ref (b + 230), u10, u11, .ref (b + 233), .ref (b + 266), .ref (b + 279), .ref (b + 281), .ref (b + 283), .ref (b + 288)] := h2
        refine xx_aload_n dX8_run_196 rfl ?_
        refine xx_get xx_c8 dX8_run_197 wf_X8_42 (j := 6) (by decide) h2 rfl ?_
        refine xx_iret dX8_run_200 rfl (Or.inl ⟨lb, q, hlb, rfl, hq, rfl, by omega, h2, fun t h9 => (y2 t h9).to (fun p a1 a2 => ?_), ⟨f8, f9, f10, ?_, ?_, ?_, y6⟩, fun p a1 a2 => ?_⟩)
        · have := yt_t_b b t
          rw [o2 p (by omega), o1 p (by omega)]
        · rw [o2 (b + 227) (by omega), o1 (b + 227) (by omega)]; exact y3
        · rw [o2 (b + 228) (by omega), o1 (b + 228) (by omega)]; exact y4
        · rw [o2 (b + 229) (by omega), o1 (b + 229) (by omega)]; exact y5
        · rw [o2 p (by omega), o1 p (by omega), y7 p (by omega)]; exact fr p (by omega)
      · have j86 : ¬ m ≤ lb := fun hq9 => j86 ((nI_leI (a := m) (b := lb) (by omega) (by omega)).mpr hq9)
        refine xx_iconst (v := 0) dX8_run_89 (by decide) ?_
        refine xx_goto (tgt := 94) dX8_run_90 (by decide) ?_
        refine xx_istore_n dX8_run_94 (by decide) ?_
        refine xx_clv (lv2 := [(0, .ref b), (1, .int (nI lb)), (2, .int 0)]) rfl ?_
        refine xx_iload_n dX8_run_95 rfl ?_
        refine xx_istore_n dX8_run_96 (by decide) ?_
        refine xx_clv (lv2 := [(0, .ref b), (1, .int (nI lb)), (2, .int 0), (3, .int (nI lb))]) rfl ?_
        refine xx_iconst (v := 0) dX8_run_97 (by decide) ?_
        refine xx_istore dX8_run_98 (by decide) ?_
        refine xx_clv (lv2 := [(0, .ref b), (1, .int (nI lb)), (2, .int 0), (3, .int (nI lb)), (4, .int 0)]) rfl ?_
        refine xx_iconst (v := 0) dX8_run_100 (by decide) ?_
        refine xx_istore dX8_run_101 (by decide) ?_
        refine xx_clv (lv2 := [(0, .ref b), (1, .int (nI lb)), (2, .int 0), (3, .int (nI lb)), (4, .int 0), (5, .int 0)]) rfl ?_
        obtain ⟨V2, tt0, v1, v2, v3, v4⟩ := k2
        obtain ⟨V3, tt1, w1, w2, w3, w4⟩ := n2
        have T0 : xx_tq E (yt_t b 0) m n 0 (yg_a m n W le 0) (fun i => yq_fl m 0 + i) := yt_first hg (by decide) (show xx_tb E (b + 20) n m m (fun i => m + i) (fun i => 0 + i) P0 V2 from tt0.to (fun q a1 a2 => n3 q (by omega))) (fun k hk c hc => (v1 k hk c hc).trans (by rw [if_pos rfl]; omega)) v2 v3 v4
        have T1 : xx_tq E (yt_t b 1) m n 1 (yg_a m n W le 1) (fun i => yq_fl m 1 + i) := yt_first hg (by decide) (show xx_tb E (b + 123) m n 0 (fun i => 0 + i) (fun i => m + i) P1 V3 from tt1) (fun k hk c hc => (w1 k hk c hc).trans (by rw [if_neg (by decide)]; omega)) w2 w3 w4
        obtain ⟨g8, g9, g10, p1, p2, p3, _⟩ := hpt
        have fr : ∀ q, (q < b + 20 ∨ b + 226 ≤ q) → E.2 q = A.2 q := fun q h9 => (n3 q (by omega)).trans (k3 q (by omega))
        refine xx_less [0, 1, 2, 3, 4, 5] ?_
        have t0 : (yg_p m n W le lb 0).2.1 = 0 := if_pos (by omega)
        refine xx_clv (lv2 := [(0, .ref b), (1, .int (nI lb)), (2, .int (nI (yg_p m n W le lb 0).2.1)), (3, .int (nI (yg_p m n W le lb 0).2.2)), (4, .int (nI 0)), (5, .int (if q + 1 = 0 then 1 else 0))]) (by rw [t0, if_neg (by omega)]; rfl) ?_
        refine l_X8_run (A := E) (ht := ht) (hp := hp) (ps := yg_p m n W le lb) (q := q) b3 ((fr _ (by omega)).trans htb) ht2 ((fr _ (by omega)).trans hpa) hp3 hg (fun i => rfl) (yg_all hg hlb hq) hq.1 hq.2.1 hq.2.2 hlb (fun F f8 f9 f10 y1 y2 y3 y4 y5 y6 y7 => ?_) (q + 1) 0 (by omega) E g8 g9 g10 rfl (fun t h9 => ?_) ((fr _ (by omega)).trans p1) ((fr _ (by omega)).trans p2) ((fr _ (by omega)).trans p3) (fun j hj => absurd hj (Nat.not_lt_zero j)) (fun q _ => rfl)
        rotate_left
        · show xx_tq E (yt_t b t) m n t (yg_a m n W le t) (fun i => yq_fl m t + i)
          rcases (show t = 0 ∨ t = 1 by omega) with z | z
          · rw [z]; exact T0
          · rw [z]; exact T1
        have b4 := (y7 b (by omega)).trans b3
        refine xx_aload_n dX8_run_185 rfl ?_
        refine xx_iload dX8_run_186 rfl ?_
        refine xx_put xx_c8 dX8_run_188 wf_X8_42 (j := 6) (by decide) rfl rfl rfl b4 (Nat.le_of_ble_eq_true rfl) (xx_gu fun A1 z1 h1 o1 => ?_)
        have h1 : A1.2 b = xx_o 8 [.ref (b + 1), .ref (b + 2), .ref (b + 11), .ref (b + 18), .ref (b + 19), .ref (b + 226), .int (nI (q + 1)), u7, u8, .ref (b + 230), u10, u11, .ref (b + 233), .ref (b + 266), .ref (b + 279), .ref (b + 281), .ref (b + 283), .ref (b + 288)] := h1
        refine xx_aload_n dX8_run_191 rfl ?_
        refine xx_iload_n dX8_run_192 rfl ?_
        refine xx_put xx_c8 dX8_run_193 wf_X8_46 (j := 7) (by decide) rfl rfl rfl h1 (Nat.le_of_ble_eq_true rfl) (xx_gu fun A2 z2 h2 o2 => ?_)
        have h2 : A2.2 b = xx_o 8 [.ref (b + 1), .ref (b + 2), .ref (b + 11), .ref (b + 18), .ref (b + 19), .ref (b + 226), .int (nI (q + 1)), .int (nI lb), u8, .ref (b + 230), u10, u11, .ref (b + 233), .ref (b + 266), .ref (b + 279), .ref (b + 281), .ref (b + 283), .ref (b + 288)] := h2
        refine xx_aload_n dX8_run_196 rfl ?_
        refine xx_get xx_c8 dX8_run_197 wf_X8_42 (j := 6) (by decide) h2 rfl ?_
        refine xx_iret dX8_run_200 rfl (Or.inl ⟨lb, q, hlb, rfl, hq, rfl, by omega, h2, fun t h9 => (y2 t h9).to (fun p a1 a2 => ?_), ⟨f8, f9, f10, ?_, ?_, ?_, y6⟩, fun p a1 a2 => ?_⟩)
        · have := yt_t_b b t
          rw [o2 p (by omega), o1 p (by omega)]
        · rw [o2 (b + 227) (by omega), o1 (b + 227) (by omega)]; exact y3
        · rw [o2 (b + 228) (by omega), o1 (b + 228) (by omega)]; exact y4
        · rw [o2 (b + 229) (by omega), o1 (b + 229) (by omega)]; exact y5
        · rw [o2 p (by omega), o1 p (by omega), y7 p (by omega)]; exact fr p (by omega)
    · exact xx_throwS xx_thw_iae (List.mem_of_getElem? (i := 5) rfl) rfl dX8_run_25 dX8_run_28 dX8_run_29 dX8_run_31 dX8_run_34 (by decide) (by decide) (fun n9 hn9 => Or.inr ⟨yy_in_hi (by omega) j22, rfl, hn9, rfl⟩)

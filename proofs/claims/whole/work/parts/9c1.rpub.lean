/-! ===== the reference's hasPlayer, support, strategy, gets, replies, judge ===== -/
/-- a player's row -/
def yy_hp (m n : Nat) (xp xr : Int32) : Prop := ∃ p, p < 2 ∧ xp = nI p ∧ yy_in xr (yy_cn m n p)
/-- what is kept of the registers -/
def xx_nh (N2 N : Nat → Int) : Prop := ∀ q, ((300 ≤ q ∧ q < 314) ∨ 330 ≤ q) → N2 q = N q
def xx_ns (N2 N : Nat → Int) : Prop := N2 16 = N 16 ∧ N2 17 = N 17 ∧ xx_nh N2 N
theorem xx_ns.tr {N3 N2 N : Nat → Int} (h : xx_ns N2 N) (h2 : ∀ q, 13 ≤ q → q < 18 ∨ 300 ≤ q → N3 q = N2 q) : xx_ns N3 N := ⟨(h2 16 (by decide) (by decide)).trans h.1, (h2 17 (by decide) (by decide)).trans h.2.1, fun q hq => (h2 q (by omega) (by omega)).trans (h.2.2 q hq)⟩
theorem xx_nh.tr {N3 N2 N : Nat → Int} (h : xx_nh N2 N) (h2 : ∀ q, 300 ≤ q → N3 q = N2 q) : xx_nh N3 N := fun q hq => (h2 q (by omega)).trans (h q hq)
theorem xx_rw.sg {B : xx_H} {b : Nat} {N : Nat → Int} (H : xx_rw B b N) : ∃ h, B.2 (b + 3) = xx_i 1740 h ∧ ∀ r, r < 1740 → h r = iz (N r).sign := by
  obtain ⟨⟨f, g, h, a1, a2, a3, a4⟩, _⟩ := H
  exact ⟨h, a3, fun r hr => (a4 r hr).1⟩
set_option maxRecDepth 100000 in
theorem c_X9_hasPlayer {G : xx_G} {l : Launch} {A : xx_H} {b : Nat} {th hr st hl en tu : Value} {m n : Nat} {xp xr : Int32} (hb : A.2 b = xx_o 9 (xx_mf b th (.int (nI m)) (.int (nI n)) hr st hl en tu)) (hm1 : 1 ≤ m) (hm : m ≤ 6) (hn1 : 1 ≤ n) (hn : n ≤ 6) : xx_X G l mX9_hasPlayer 1 0 0 0 (lv_args 0 [.ref b, .int xp, .int xr]) [] A (fun z B => B = A ∧ ((yy_hp m n xp xr ∧ z = .inl (some (.int 1))) ∨ (¬ yy_hp m n xp xr ∧ z = .inl (some (.int 0))))) := by
  by_cases h0 : xp = 0
  · subst h0
    by_cases hr : yy_in xr m
    · have hin : xx_inn xr 0 (nI (m - 1)) = 1 := xx_inn1 (by omega) (by rw [show m - 1 + 1 = m by omega]; exact hr)
      refine xx_clv (lv2 := [(0, .ref b), (1, .int 0), (2, .int xr)]) rfl ?_
      refine xx_iload_n dX9_hasPlayer_0 rfl ?_
      refine xx_if_ne (tgt := 18) dX9_hasPlayer_1 (by decide) (fun h => absurd rfl h) (fun j1 => ?_)
      refine xx_iload_n dX9_hasPlayer_4 rfl ?_
      refine xx_iconst (v := 0) dX9_hasPlayer_5 (by decide) ?_
      refine xx_aload_n dX9_hasPlayer_6 rfl ?_
      refine xx_get xx_c9 dX9_hasPlayer_7 wf_X9_120 (j := 4) (by decide) hb rfl ?_
      refine xx_iconst (v := 1) dX9_hasPlayer_10 (by decide) ?_
      refine xx_isub dX9_hasPlayer_11 ?_
      refine xx_eqi (y := nI (m - 1)) (pk_sub (a := m) (b := 1) (by omega)) ?_
      refine xx_callS (N := mX9_in) (vs := [.int xr, .int 0, .int (nI (m - 1))]) (rest := []) (d2 := 0) (c2 := 0) (s2 := 0) (c3 := 0) (s3 := 0) dX9_hasPlayer_12 wm_X9_116 ws_X9_in wz_X9 (by decide) nX9_in ⟨pX9_in, Nat.le_of_ble_eq_true rfl, by decide, Nat.le_of_ble_eq_true rfl, by decide, by decide⟩ c_X9_in (fun v9 B9 hC => ?_) (fun E9 B9 hC => absurd hC.1 (by simp))
      obtain ⟨hv9, e9⟩ := hC
      cases hv9
      rw [e9]
      refine xx_cst (st2 := [.int 1]) (by rw [hin]; rfl) ?_
      refine xx_if_ne (tgt := 37) dX9_hasPlayer_15 (by decide) (fun j15 => ?_) (fun h => absurd h (by decide))
      refine xx_iconst (v := 1) dX9_hasPlayer_37 (by decide) ?_
      refine xx_goto (tgt := 42) dX9_hasPlayer_38 (by decide) ?_
      exact xx_zret dX9_hasPlayer_42 rfl rfl ⟨rfl, Or.inl ⟨⟨0, by decide, rfl, hr⟩, rfl⟩⟩
    · have hin : xx_inn xr 0 (nI (m - 1)) = 0 := xx_inn0 (by omega) (by rw [show m - 1 + 1 = m by omega]; exact hr)
      refine xx_clv (lv2 := [(0, .ref b), (1, .int 0), (2, .int xr)]) rfl ?_
      refine xx_iload_n dX9_hasPlayer_0 rfl ?_
      refine xx_if_ne (tgt := 18) dX9_hasPlayer_1 (by decide) (fun h => absurd rfl h) (fun j1 => ?_)
      refine xx_iload_n dX9_hasPlayer_4 rfl ?_
      refine xx_iconst (v := 0) dX9_hasPlayer_5 (by decide) ?_
      refine xx_aload_n dX9_hasPlayer_6 rfl ?_
      refine xx_get xx_c9 dX9_hasPlayer_7 wf_X9_120 (j := 4) (by decide) hb rfl ?_
      refine xx_iconst (v := 1) dX9_hasPlayer_10 (by decide) ?_
      refine xx_isub dX9_hasPlayer_11 ?_
      refine xx_eqi (y := nI (m - 1)) (pk_sub (a := m) (b := 1) (by omega)) ?_
      refine xx_callS (N := mX9_in) (vs := [.int xr, .int 0, .int (nI (m - 1))]) (rest := []) (d2 := 0) (c2 := 0) (s2 := 0) (c3 := 0) (s3 := 0) dX9_hasPlayer_12 wm_X9_116 ws_X9_in wz_X9 (by decide) nX9_in ⟨pX9_in, Nat.le_of_ble_eq_true rfl, by decide, Nat.le_of_ble_eq_true rfl, by decide, by decide⟩ c_X9_in (fun v9 B9 hC => ?_) (fun E9 B9 hC => absurd hC.1 (by simp))
      obtain ⟨hv9, e9⟩ := hC
      cases hv9
      rw [e9]
      refine xx_cst (st2 := [.int 0]) (by rw [hin]; rfl) ?_
      refine xx_if_ne (tgt := 37) dX9_hasPlayer_15 (by decide) (fun h => absurd rfl h) (fun j15 => ?_)
      refine xx_iload_n dX9_hasPlayer_18 rfl ?_
      refine xx_iconst (v := 1) dX9_hasPlayer_19 (by decide) ?_
      refine xx_icmp_ne (tgt := 41) dX9_hasPlayer_20 (by decide) (fun j20 => ?_) (fun h => absurd h (by decide))
      refine xx_iconst (v := 0) dX9_hasPlayer_41 (by decide) ?_
      refine xx_zret dX9_hasPlayer_42 rfl rfl ⟨rfl, Or.inr ⟨?_, rfl⟩⟩
      rintro ⟨p, hp, ep, er⟩
      rcases (show p = 0 ∨ p = 1 by omega) with z | z
      · rw [z] at er; exact hr er
      · rw [z] at ep; exact absurd ep (by decide)
  · by_cases h1 : xp = 1
    · subst h1
      by_cases hr : yy_in xr n
      · have hin : xx_inn xr 0 (nI (n - 1)) = 1 := xx_inn1 (by omega) (by rw [show n - 1 + 1 = n by omega]; exact hr)
        refine xx_clv (lv2 := [(0, .ref b), (1, .int 1), (2, .int xr)]) rfl ?_
        refine xx_iload_n dX9_hasPlayer_0 rfl ?_
        refine xx_if_ne (tgt := 18) dX9_hasPlayer_1 (by decide) (fun j1 => ?_) (fun h => absurd h (by decide))
        refine xx_iload_n dX9_hasPlayer_18 rfl ?_
        refine xx_iconst (v := 1) dX9_hasPlayer_19 (by decide) ?_
        refine xx_icmp_ne (tgt := 41) dX9_hasPlayer_20 (by decide) (fun h => absurd rfl h) (fun j20 => ?_)
        refine xx_iload_n dX9_hasPlayer_23 rfl ?_
        refine xx_iconst (v := 0) dX9_hasPlayer_24 (by decide) ?_
        refine xx_aload_n dX9_hasPlayer_25 rfl ?_
        refine xx_get xx_c9 dX9_hasPlayer_26 wf_X9_123 (j := 5) (by decide) hb rfl ?_
        refine xx_iconst (v := 1) dX9_hasPlayer_29 (by decide) ?_
        refine xx_isub dX9_hasPlayer_30 ?_
        refine xx_eqi (y := nI (n - 1)) (pk_sub (a := n) (b := 1) (by omega)) ?_
        refine xx_callS (N := mX9_in) (vs := [.int xr, .int 0, .int (nI (n - 1))]) (rest := []) (d2 := 0) (c2 := 0) (s2 := 0) (c3 := 0) (s3 := 0) dX9_hasPlayer_31 wm_X9_116 ws_X9_in wz_X9 (by decide) nX9_in ⟨pX9_in, Nat.le_of_ble_eq_true rfl, by decide, Nat.le_of_ble_eq_true rfl, by decide, by decide⟩ c_X9_in (fun v9 B9 hC => ?_) (fun E9 B9 hC => absurd hC.1 (by simp))
        obtain ⟨hv9, e9⟩ := hC
        cases hv9
        rw [e9]
        refine xx_cst (st2 := [.int 1]) (by rw [hin]; rfl) ?_
        refine xx_if_eq (tgt := 41) dX9_hasPlayer_34 (by decide) (fun h => absurd h (by decide)) (fun j34 => ?_)
        refine xx_iconst (v := 1) dX9_hasPlayer_37 (by decide) ?_
        refine xx_goto (tgt := 42) dX9_hasPlayer_38 (by decide) ?_
        exact xx_zret dX9_hasPlayer_42 rfl rfl ⟨rfl, Or.inl ⟨⟨1, by decide, rfl, hr⟩, rfl⟩⟩
      · have hin : xx_inn xr 0 (nI (n - 1)) = 0 := xx_inn0 (by omega) (by rw [show n - 1 + 1 = n by omega]; exact hr)
        refine xx_clv (lv2 := [(0, .ref b), (1, .int 1), (2, .int xr)]) rfl ?_
        refine xx_iload_n dX9_hasPlayer_0 rfl ?_
        refine xx_if_ne (tgt := 18) dX9_hasPlayer_1 (by decide) (fun j1 => ?_) (fun h => absurd h (by decide))
        refine xx_iload_n dX9_hasPlayer_18 rfl ?_
        refine xx_iconst (v := 1) dX9_hasPlayer_19 (by decide) ?_
        refine xx_icmp_ne (tgt := 41) dX9_hasPlayer_20 (by decide) (fun h => absurd rfl h) (fun j20 => ?_)
        refine xx_iload_n dX9_hasPlayer_23 rfl ?_
        refine xx_iconst (v := 0) dX9_hasPlayer_24 (by decide) ?_
        refine xx_aload_n dX9_hasPlayer_25 rfl ?_
        refine xx_get xx_c9 dX9_hasPlayer_26 wf_X9_123 (j := 5) (by decide) hb rfl ?_
        refine xx_iconst (v := 1) dX9_hasPlayer_29 (by decide) ?_
        refine xx_isub dX9_hasPlayer_30 ?_
        refine xx_eqi (y := nI (n - 1)) (pk_sub (a := n) (b := 1) (by omega)) ?_
        refine xx_callS (N := mX9_in) (vs := [.int xr, .int 0, .int (nI (n - 1))]) (rest := []) (d2 := 0) (c2 := 0) (s2 := 0) (c3 := 0) (s3 := 0) dX9_hasPlayer_31 wm_X9_116 ws_X9_in wz_X9 (by decide) nX9_in ⟨pX9_in, Nat.le_of_ble_eq_true rfl, by decide, Nat.le_of_ble_eq_true rfl, by decide, by decide⟩ c_X9_in (fun v9 B9 hC => ?_) (fun E9 B9 hC => absurd hC.1 (by simp))
        obtain ⟨hv9, e9⟩ := hC
        cases hv9
        rw [e9]
        refine xx_cst (st2 := [.int 0]) (by rw [hin]; rfl) ?_
        refine xx_if_eq (tgt := 41) dX9_hasPlayer_34 (by decide) (fun j34 => ?_) (fun h => absurd (by decide) h)
        refine xx_iconst (v := 0) dX9_hasPlayer_41 (by decide) ?_
        refine xx_zret dX9_hasPlayer_42 rfl rfl ⟨rfl, Or.inr ⟨?_, rfl⟩⟩
        rintro ⟨p, hp, ep, er⟩
        rcases (show p = 0 ∨ p = 1 by omega) with z | z
        · rw [z] at ep; exact absurd ep (by decide)
        · rw [z] at er; exact hr er
    · refine xx_clv (lv2 := [(0, .ref b), (1, .int xp), (2, .int xr)]) rfl ?_
      refine xx_iload_n dX9_hasPlayer_0 rfl ?_
      refine xx_if_ne (tgt := 18) dX9_hasPlayer_1 (by decide) (fun j1 => ?_) (fun h => absurd h h0)
      refine xx_iload_n dX9_hasPlayer_18 rfl ?_
      refine xx_iconst (v := 1) dX9_hasPlayer_19 (by decide) ?_
      refine xx_icmp_ne (tgt := 41) dX9_hasPlayer_20 (by decide) (fun j20 => ?_) (fun h => absurd h h1)
      refine xx_iconst (v := 0) dX9_hasPlayer_41 (by decide) ?_
      refine xx_zret dX9_hasPlayer_42 rfl rfl ⟨rfl, Or.inr ⟨?_, rfl⟩⟩
      rintro ⟨p, hp, ep, er⟩
      rcases (show p = 0 ∨ p = 1 by omega) with z | z
      · exact h0 (by rw [ep, z]; rfl)
      · exact h1 (by rw [ep, z]; rfl)
set_option maxRecDepth 100000 in
theorem l_X9_sup {G : xx_G} {l : Launch} {A : xx_H} {b : Nat} {th hr st hl en tu : Value} {m n : Nat} {N : Nat → Int} {X : Nat → Nat → Int} {t : Nat → Int} {w p : Nat} {Q : Option Value ⊕ String → xx_H → Prop} (hb : A.2 b = xx_o 9 (xx_mf b th (.int (nI m)) (.int (nI n)) hr st hl en tu)) (hN : xx_rw A b N) (hL : xx_pl N w X t) (hp : p < 2) (hw : 300 ≤ w) (hw2 : w + 14 ≤ 1740) (k : ∀ (B : xx_H), (B = A) → xx_X G l mX9_support 6 0 0 90 [(4, .int (nI (yb_n (fun k => decide (0 < X p k)) 6)))] [] B Q) :
    ∀ (v i : Nat), i + v = 6 → ∀ (B : xx_H), (B = A) → xx_X G l mX9_support 6 0 0 47 [(0, .ref b), (2, .int (nI p)), (3, .int (nI w)), (4, .int (nI (yb_n (fun k => decide (0 < X p k)) i))), (5, .int (nI i))] [] B Q := by
  obtain ⟨sg, sg1, sg2⟩ := hN.sg
  intro v
  induction v with
  | zero =>
    intro i h9i B y1
    have h9e : 6 = i := by omega
    subst h9e
    refine xx_clv (lv2 := [(0, .ref b), (2, .int (nI p)), (3, .int (nI w)), (4, .int (nI (yb_n (fun k => decide (0 < X p k)) 6))), (5, .int 6)]) rfl ?_
    refine xx_iload dX9_support_47 rfl ?_
    refine xx_bipush (v := 6) dX9_support_49 (by decide) ?_
    refine xx_icmp_ge (tgt := 90) dX9_support_51 (by decide) (fun j51 => ?_) (fun h => absurd (by decide) h)
    refine xx_less [4] ?_
    refine xx_clv (lv2 := [(4, .int (nI (yb_n (fun k => decide (0 < X p k)) 6)))]) rfl ?_
    exact k B y1
  | succ v ih =>
    intro i h9i B y1
    rw [y1]
    refine xx_iload dX9_support_47 rfl ?_
    refine xx_bipush (v := 6) dX9_support_49 (by decide) ?_
    refine xx_icmp_ge (tgt := 90) dX9_support_51 (by decide) (fun h => absurd h (nI_ge (a := i) (b := 6) (by omega) (by omega))) (fun j51 => ?_)
    refine xx_iload dX9_support_54 rfl ?_
    refine xx_aload_n dX9_support_56 rfl ?_
    refine xx_get xx_c9 dX9_support_57 wf_X9_17 (j := 3) (by decide) hb rfl ?_
    refine xx_iload_n dX9_support_60 rfl ?_
    refine xx_bipush (v := 6) dX9_support_61 (by decide) ?_
    refine xx_iload_n dX9_support_63 rfl ?_
    refine xx_imul dX9_support_64 ?_
    refine xx_eqi (y := nI (6 * p)) (pk_mul 6 p) ?_
    refine xx_iadd dX9_support_65 ?_
    refine xx_eqi (y := nI (w + (6 * p))) (nI_add w (6 * p)) ?_
    refine xx_iload dX9_support_66 rfl ?_
    refine xx_iadd dX9_support_68 ?_
    refine xx_eqi (y := nI (w + (6 * p) + i)) (nI_add (w + (6 * p)) i) ?_
    refine xx_iald dX9_support_69 sg1 (vp_in_nI (by omega) (by decide)) ?_
    refine xx_eqi (y := iz (X p i).sign) (by rw [nI_clamp (by omega), sg2 _ (by omega), hL.1 p hp i (by omega)]) ?_
    refine xx_if_le (tgt := 80) dX9_support_70 (by decide) (fun j70 => ?_) (fun j70 => ?_)
    · refine xx_iconst (v := 0) dX9_support_80 (by decide) ?_
      refine xx_ior dX9_support_81 ?_
      refine xx_eqi (y := nI (yb_n (fun k => decide (0 < X p k)) (i + 1))) (by rw [Int32.or_zero, yb_s0 (fun h => (yb_sgp _).mp j70 (of_decide_eq_true h))]) ?_
      refine xx_istore dX9_support_82 (by decide) ?_
      refine xx_clv (lv2 := [(0, .ref b), (2, .int (nI p)), (3, .int (nI w)), (4, .int (nI (yb_n (fun k => decide (0 < X p k)) (i + 1)))), (5, .int (nI i))]) rfl ?_
      refine xx_iinc (v := nI (i + 1)) dX9_support_84 rfl (nI_1 i) (by decide) ?_
      refine xx_clv (lv2 := [(0, .ref b), (2, .int (nI p)), (3, .int (nI w)), (4, .int (nI (yb_n (fun k => decide (0 < X p k)) (i + 1)))), (5, .int (nI (i + 1)))]) rfl ?_
      refine xx_goto (tgt := 47) dX9_support_87 (by decide) ?_
      refine xx_less [0, 2, 3, 4, 5] ?_
      refine xx_clv (lv2 := [(0, .ref b), (2, .int (nI p)), (3, .int (nI w)), (4, .int (nI (yb_n (fun k => decide (0 < X p k)) (i + 1)))), (5, .int (nI (i + 1)))]) rfl ?_
      refine ih (i + 1) (by omega) A rfl
    · refine xx_iconst (v := 1) dX9_support_73 (by decide) ?_
      refine xx_iload dX9_support_74 rfl ?_
      refine xx_ishl dX9_support_76 ?_
      refine xx_goto (tgt := 81) dX9_support_77 (by decide) ?_
      refine xx_ior dX9_support_81 ?_
      refine xx_eqi (y := nI (yb_n (fun k => decide (0 < X p k)) (i + 1))) (by rw [yb_or (by omega) (yb_lt _ i), yb_s1 (decide_eq_true (Classical.byContradiction (fun h => j70 ((yb_sgp _).mpr h))))]) ?_
      refine xx_istore dX9_support_82 (by decide) ?_
      refine xx_clv (lv2 := [(0, .ref b), (2, .int (nI p)), (3, .int (nI w)), (4, .int (nI (yb_n (fun k => decide (0 < X p k)) (i + 1)))), (5, .int (nI i))]) rfl ?_
      refine xx_iinc (v := nI (i + 1)) dX9_support_84 rfl (nI_1 i) (by decide) ?_
      refine xx_clv (lv2 := [(0, .ref b), (2, .int (nI p)), (3, .int (nI w)), (4, .int (nI (yb_n (fun k => decide (0 < X p k)) (i + 1)))), (5, .int (nI (i + 1)))]) rfl ?_
      refine xx_goto (tgt := 47) dX9_support_87 (by decide) ?_
      refine xx_less [0, 2, 3, 4, 5] ?_
      refine xx_clv (lv2 := [(0, .ref b), (2, .int (nI p)), (3, .int (nI w)), (4, .int (nI (yb_n (fun k => decide (0 < X p k)) (i + 1)))), (5, .int (nI (i + 1)))]) rfl ?_
      refine ih (i + 1) (by omega) A rfl
set_option maxRecDepth 100000 in
theorem c_X9_support {G : xx_G} {l : Launch} {A : xx_H} {b : Nat} {th hr st hl en tu : Value} {m n : Nat} {S : Prop} {N : Nat → Int} {X : Nat → Nat → Int} {t : Nat → Int} {w : Nat} {x xp : Int32} (hb : A.2 b = xx_o 9 (xx_mf b th (.int (nI m)) (.int (nI n)) hr st hl en tu)) (hplace : xx_X G l mX9_placeOf 5 0 0 0 (lv_args 0 [.ref b, .int x]) [] A (fun z B => B.1 = A.1 ∧ (∃ N2, xx_rw B b N2 ∧ xx_ns N2 N ∧ ((S ∧ z = .inl (some (.int (nI w))) ∧ xx_pl N2 w X t) ∨ (¬ S ∧ z = .inl (some (.int (-1)))))) ∧ ∀ q, q ≠ b + 1 → q ≠ b + 2 → q ≠ b + 3 → q ≠ b + 17 → q ≠ b + 18 → B.2 q = A.2 q)) (hw : 300 ≤ w) (hw2 : w + 14 ≤ 1740) : xx_X G l mX9_support 6 0 0 0 (lv_args 0 [.ref b, .int x, .int xp]) [] A (fun z B => B.1 = A.1 ∧ (∃ N2, xx_rw B b N2 ∧ xx_ns N2 N) ∧ (∀ q, q ≠ b → q ≠ b + 1 → q ≠ b + 2 → q ≠ b + 3 → q ≠ b + 17 → q ≠ b + 18 → B.2 q = A.2 q) ∧ ((S ∧ (∃ p, p < 2 ∧ xp = nI p ∧ z = .inl (some (.int (nI (yb_n (fun k => decide (0 < X p k)) 6))))) ∧ B.2 b = xx_o 9 (xx_mf b (.int 0) (.int (nI m)) (.int (nI n)) hr st hl en tu)) ∨ (¬ S ∧ z = .inl (some (.int 0)) ∧ B.2 b = xx_o 9 (xx_mf b (.int 1) (.int (nI m)) (.int (nI n)) hr st hl en tu)) ∨ (S ∧ ¬ yy_in xp 2 ∧ z = .inl (some (.int 0)) ∧ B.2 b = xx_o 9 (xx_mf b (.int 2) (.int (nI m)) (.int (nI n)) hr st hl en tu)))) := by
  refine xx_clv (lv2 := [(0, .ref b), (1, .int x), (2, .int xp)]) rfl ?_
  refine xx_aload_n dX9_support_0 rfl ?_
  refine xx_iload_n dX9_support_1 rfl ?_
  refine xx_callV (N := mX9_placeOf) (vs := [.int x]) (b := b) (rest := []) (d2 := 5) (c2 := 0) (s2 := 0) (c3 := 0) (s3 := 0) dX9_support_2 wm_X9_184 wi_X9_placeOf wv_X9_placeOf (k := 9) rfl (by decide) hb nX9_placeOf ⟨pX9_placeOf, Nat.le_of_ble_eq_true rfl, by decide, Nat.le_of_ble_eq_true rfl, by decide, by decide⟩ hplace (fun v9 Eq0 hC => ?_) (fun E9 B9 hC => by obtain ⟨_, ⟨_, _, _, ⟨_, h, _⟩ | ⟨_, h⟩⟩, _⟩ := hC <;> cases h)
  obtain ⟨zq0, ⟨Nq0, hNq0, ns0, hC⟩, oq0⟩ := hC
  have hb0 := (oq0 b (by omega) (by omega) (by omega) (by omega) (by omega)).trans hb
  rcases hC with ⟨hS, hv9, hL⟩ | ⟨hS, hv9⟩
  · cases hv9
    refine xx_cst (st2 := [.int (nI w)]) rfl ?_
    refine xx_istore_n dX9_support_5 (by decide) ?_
    refine xx_clv (lv2 := [(0, .ref b), (1, .int x), (2, .int xp), (3, .int (nI w))]) rfl ?_
    refine xx_aload_n dX9_support_6 rfl ?_
    refine xx_iload_n dX9_support_7 rfl ?_
    refine xx_if_ge (tgt := 15) dX9_support_8 (by decide) (fun j8 => ?_) (fun h => absurd ((nI_leI (a := 0) (b := w) (by decide) (by omega)).mpr (Nat.zero_le _)) h)
    refine xx_iload_n dX9_support_15 rfl ?_
    refine xx_iconst (v := 0) dX9_support_16 (by decide) ?_
    refine xx_iconst (v := 1) dX9_support_17 (by decide) ?_
    by_cases hPp : yy_in xp 2
    · have hin : xx_inn xp 0 1 = 1 := xx_inn1 (k := 1) (by decide) hPp
      refine xx_callS (N := mX9_in) (vs := [.int xp, .int 0, .int 1]) (rest := [.ref b]) (d2 := 0) (c2 := 0) (s2 := 0) (c3 := 0) (s3 := 0) dX9_support_18 wm_X9_116 ws_X9_in wz_X9 (by decide) nX9_in ⟨pX9_in, Nat.le_of_ble_eq_true rfl, by decide, Nat.le_of_ble_eq_true rfl, by decide, by decide⟩ c_X9_in (fun v9 B9 hC => ?_) (fun E9 B9 hC => absurd hC.1 (by simp))
      obtain ⟨hv9, e9⟩ := hC
      cases hv9
      rw [e9]
      refine xx_cst (st2 := [.int 1, .ref b]) (by rw [hin]; rfl) ?_
      obtain ⟨p, hp, ep⟩ := id hPp
      subst ep
      refine xx_clv (lv2 := [(0, .ref b), (1, .int x), (2, .int (nI p)), (3, .int (nI w))]) rfl ?_
      refine xx_if_ne (tgt := 28) dX9_support_21 (by decide) (fun j21 => ?_) (fun h => absurd h (by decide))
      refine xx_iconst (v := 0) dX9_support_28 (by decide) ?_
      refine xx_put xx_c9 dX9_support_29 wf_X9_84 (j := 0) (by decide) rfl rfl rfl hb0 (Nat.le_of_ble_eq_true rfl) (xx_gu fun Eq1 zq1 hbq1 oq1 => ?_)
      have hbq1 : Eq1.2 b = xx_o 9 (xx_mf b (.int 0) (.int (nI m)) (.int (nI n)) hr st hl en tu) := hbq1
      have hNq1 : xx_rw Eq1 b Nq0 := hNq0.to (oq1 _ (by omega)) (oq1 _ (by omega)) (oq1 _ (by omega)) (oq1 _ (by omega)) (oq1 _ (by omega))
      refine xx_aload_n dX9_support_32 rfl ?_
      refine xx_get xx_c9 dX9_support_33 wf_X9_84 (j := 0) (by decide) hbq1 rfl ?_
      refine xx_if_le (tgt := 41) dX9_support_36 (by decide) (fun j36 => ?_) (fun h => absurd (by decide) h)
      refine xx_iconst (v := 0) dX9_support_41 (by decide) ?_
      refine xx_istore dX9_support_42 (by decide) ?_
      refine xx_clv (lv2 := [(0, .ref b), (1, .int x), (2, .int (nI p)), (3, .int (nI w)), (4, .int 0)]) rfl ?_
      refine xx_iconst (v := 0) dX9_support_44 (by decide) ?_
      refine xx_istore dX9_support_45 (by decide) ?_
      refine xx_clv (lv2 := [(0, .ref b), (1, .int x), (2, .int (nI p)), (3, .int (nI w)), (4, .int 0), (5, .int 0)]) rfl ?_
      refine xx_less [0, 2, 3, 4, 5] ?_
      refine xx_clv (lv2 := [(0, .ref b), (2, .int (nI p)), (3, .int (nI w)), (4, .int (nI (yb_n (fun k => decide (0 < X p k)) 0))), (5, .int (nI 0))]) rfl ?_
      refine l_X9_sup (A := Eq1) hbq1 hNq1 hL hp hw hw2 (fun B y1 => ?_) 6 0 (by omega) Eq1 rfl
      rw [y1]
      refine xx_iload dX9_support_90 rfl ?_
      exact xx_iret dX9_support_92 rfl ⟨by omega, ⟨Nq0, hNq1, ns0⟩, (fun q a0 a1 a2 a3 a4 a5 => (oq1 q a0).trans (oq0 q a1 a2 a3 a4 a5)), Or.inl ⟨hS, ⟨p, hp, rfl, rfl⟩, hbq1⟩⟩
    · have hin : xx_inn xp 0 1 = 0 := xx_inn0 (k := 1) (by decide) hPp
      refine xx_callS (N := mX9_in) (vs := [.int xp, .int 0, .int 1]) (rest := [.ref b]) (d2 := 0) (c2 := 0) (s2 := 0) (c3 := 0) (s3 := 0) dX9_support_18 wm_X9_116 ws_X9_in wz_X9 (by decide) nX9_in ⟨pX9_in, Nat.le_of_ble_eq_true rfl, by decide, Nat.le_of_ble_eq_true rfl, by decide, by decide⟩ c_X9_in (fun v9 B9 hC => ?_) (fun E9 B9 hC => absurd hC.1 (by simp))
      obtain ⟨hv9, e9⟩ := hC
      cases hv9
      rw [e9]
      refine xx_cst (st2 := [.int 0, .ref b]) (by rw [hin]; rfl) ?_
      refine xx_if_ne (tgt := 28) dX9_support_21 (by decide) (fun h => absurd rfl h) (fun j21 => ?_)
      refine xx_iconst (v := 2) dX9_support_24 (by decide) ?_
      refine xx_goto (tgt := 29) dX9_support_25 (by decide) ?_
      refine xx_put xx_c9 dX9_support_29 wf_X9_84 (j := 0) (by decide) rfl rfl rfl hb0 (Nat.le_of_ble_eq_true rfl) (xx_gu fun Eq1 zq1 hbq1 oq1 => ?_)
      have hbq1 : Eq1.2 b = xx_o 9 (xx_mf b (.int 2) (.int (nI m)) (.int (nI n)) hr st hl en tu) := hbq1
      have hNq1 : xx_rw Eq1 b Nq0 := hNq0.to (oq1 _ (by omega)) (oq1 _ (by omega)) (oq1 _ (by omega)) (oq1 _ (by omega)) (oq1 _ (by omega))
      refine xx_aload_n dX9_support_32 rfl ?_
      refine xx_get xx_c9 dX9_support_33 wf_X9_84 (j := 0) (by decide) hbq1 rfl ?_
      refine xx_if_le (tgt := 41) dX9_support_36 (by decide) (fun h => absurd h (by decide)) (fun j36 => ?_)
      refine xx_iconst (v := 0) dX9_support_39 (by decide) ?_
      exact xx_iret dX9_support_40 rfl ⟨by omega, ⟨Nq0, hNq1, ns0⟩, (fun q a0 a1 a2 a3 a4 a5 => (oq1 q a0).trans (oq0 q a1 a2 a3 a4 a5)), Or.inr (Or.inr ⟨hS, hPp, rfl, hbq1⟩)⟩
  · cases hv9
    refine xx_cst (st2 := [.int (-1)]) rfl ?_
    refine xx_istore_n dX9_support_5 (by decide) ?_
    refine xx_clv (lv2 := [(0, .ref b), (1, .int x), (2, .int xp), (3, .int (-1))]) rfl ?_
    refine xx_aload_n dX9_support_6 rfl ?_
    refine xx_iload_n dX9_support_7 rfl ?_
    refine xx_if_ge (tgt := 15) dX9_support_8 (by decide) (fun h => absurd h (by decide)) (fun j8 => ?_)
    refine xx_iconst (v := 1) dX9_support_11 (by decide) ?_
    refine xx_goto (tgt := 29) dX9_support_12 (by decide) ?_
    refine xx_put xx_c9 dX9_support_29 wf_X9_84 (j := 0) (by decide) rfl rfl rfl hb0 (Nat.le_of_ble_eq_true rfl) (xx_gu fun Eq1 zq1 hbq1 oq1 => ?_)
    have hbq1 : Eq1.2 b = xx_o 9 (xx_mf b (.int 1) (.int (nI m)) (.int (nI n)) hr st hl en tu) := hbq1
    have hNq1 : xx_rw Eq1 b Nq0 := hNq0.to (oq1 _ (by omega)) (oq1 _ (by omega)) (oq1 _ (by omega)) (oq1 _ (by omega)) (oq1 _ (by omega))
    refine xx_aload_n dX9_support_32 rfl ?_
    refine xx_get xx_c9 dX9_support_33 wf_X9_84 (j := 0) (by decide) hbq1 rfl ?_
    refine xx_if_le (tgt := 41) dX9_support_36 (by decide) (fun h => absurd h (by decide)) (fun j36 => ?_)
    refine xx_iconst (v := 0) dX9_support_39 (by decide) ?_
    exact xx_iret dX9_support_40 rfl ⟨by omega, ⟨Nq0, hNq1, ns0⟩, (fun q a0 a1 a2 a3 a4 a5 => (oq1 q a0).trans (oq0 q a1 a2 a3 a4 a5)), Or.inr (Or.inl ⟨hS, rfl, hbq1⟩)⟩
set_option maxRecDepth 100000 in
theorem c_X9_strategy {G : xx_G} {l : Launch} {A : xx_H} {b : Nat} {th hr st hl en tu : Value} {m n : Nat} {S : Prop} {N : Nat → Int} {X : Nat → Nat → Int} {t : Nat → Int} {w : Nat} {x xp : Int32} {xr : Int32} (hb : A.2 b = xx_o 9 (xx_mf b th (.int (nI m)) (.int (nI n)) hr st hl en tu)) (hm1 : 1 ≤ m) (hm : m ≤ 6) (hn1 : 1 ≤ n) (hn : n ≤ 6)  (hplace : xx_X G l mX9_placeOf 5 0 0 0 (lv_args 0 [.ref b, .int x]) [] A (fun z B => B.1 = A.1 ∧ (∃ N2, xx_rw B b N2 ∧ xx_ns N2 N ∧ ((S ∧ z = .inl (some (.int (nI w))) ∧ xx_pl N2 w X t) ∨ (¬ S ∧ z = .inl (some (.int (-1)))))) ∧ ∀ q, q ≠ b + 1 → q ≠ b + 2 → q ≠ b + 3 → q ≠ b + 17 → q ≠ b + 18 → B.2 q = A.2 q)) (hw : 300 ≤ w) (hw2 : w + 14 ≤ 1740) (ht : ∀ q, q < 2 → 0 < t q ∧ (t q).natAbs < 2 ^ 195) : xx_X G l mX9_strategy 6 0 0 0 (lv_args 0 [.ref b, .int x, .int xp, .int xr]) [] A (fun z B => B.1 = A.1 ∧ (∀ q, q ≠ b → q ≠ b + 1 → q ≠ b + 2 → q ≠ b + 3 → q ≠ b + 17 → q ≠ b + 18 → B.2 q = A.2 q) ∧ ((S ∧ (∃ p r, p < 2 ∧ r < yy_cn m n p ∧ xp = nI p ∧ xr = nI r ∧ z = .inl (some (.int (iz (X p r).sign))) ∧ ∃ N2, xx_rw B b N2 ∧ xx_nh N2 N ∧ N2 16 = yf_n (X p r) (t p) ∧ N2 17 = yf_d (X p r) (t p)) ∧ B.2 b = xx_o 9 (xx_mf b (.int 0) (.int (nI m)) (.int (nI n)) hr st hl en tu)) ∨ (¬ S ∧ z = .inl (some (.int 0)) ∧ (∃ N2, xx_rw B b N2 ∧ xx_ns N2 N) ∧ B.2 b = xx_o 9 (xx_mf b (.int 1) (.int (nI m)) (.int (nI n)) hr st hl en tu)) ∨ (S ∧ ¬ yy_hp m n xp xr ∧ z = .inl (some (.int 0)) ∧ (∃ N2, xx_rw B b N2 ∧ xx_ns N2 N) ∧ B.2 b = xx_o 9 (xx_mf b (.int 2) (.int (nI m)) (.int (nI n)) hr st hl en tu)))) := by
  refine xx_clv (lv2 := [(0, .ref b), (1, .int x), (2, .int xp), (3, .int xr)]) rfl ?_
  refine xx_aload_n dX9_strategy_0 rfl ?_
  refine xx_iload_n dX9_strategy_1 rfl ?_
  refine xx_callV (N := mX9_placeOf) (vs := [.int x]) (b := b) (rest := []) (d2 := 5) (c2 := 0) (s2 := 0) (c3 := 0) (s3 := 0) dX9_strategy_2 wm_X9_184 wi_X9_placeOf wv_X9_placeOf (k := 9) rfl (by decide) hb nX9_placeOf ⟨pX9_placeOf, Nat.le_of_ble_eq_true rfl, by decide, Nat.le_of_ble_eq_true rfl, by decide, by decide⟩ hplace (fun v9 Eq0 hC => ?_) (fun E9 B9 hC => by obtain ⟨_, ⟨_, _, _, ⟨_, h, _⟩ | ⟨_, h⟩⟩, _⟩ := hC <;> cases h)
  obtain ⟨zq0, ⟨Nq0, hNq0, ns0, hC⟩, oq0⟩ := hC
  have hb0 := (oq0 b (by omega) (by omega) (by omega) (by omega) (by omega)).trans hb
  rcases hC with ⟨hS, hv9, hL⟩ | ⟨hS, hv9⟩
  · cases hv9
    refine xx_cst (st2 := [.int (nI w)]) rfl ?_
    refine xx_istore dX9_strategy_5 (by decide) ?_
    refine xx_clv (lv2 := [(0, .ref b), (1, .int x), (2, .int xp), (3, .int xr), (4, .int (nI w))]) rfl ?_
    refine xx_aload_n dX9_strategy_7 rfl ?_
    refine xx_iload dX9_strategy_8 rfl ?_
    refine xx_if_ge (tgt := 17) dX9_strategy_10 (by decide) (fun j10 => ?_) (fun h => absurd ((nI_leI (a := 0) (b := w) (by decide) (by omega)).mpr (Nat.zero_le _)) h)
    refine xx_aload_n dX9_strategy_17 rfl ?_
    refine xx_iload_n dX9_strategy_18 rfl ?_
    refine xx_iload_n dX9_strategy_19 rfl ?_
    refine xx_callV (N := mX9_hasPlayer) (vs := [.int xp, .int xr]) (b := b) (rest := [.ref b]) (d2 := 1) (c2 := 0) (s2 := 0) (c3 := 0) (s3 := 0) dX9_strategy_20 wm_X9_176 wi_X9_hasPlayer wv_X9_hasPlayer (k := 9) rfl (by decide) hb0 nX9_hasPlayer ⟨pX9_hasPlayer, Nat.le_of_ble_eq_true rfl, by decide, Nat.le_of_ble_eq_true rfl, by decide, by decide⟩ (c_X9_hasPlayer hb0 hm1 hm hn1 hn) (fun v9 B9 hC => ?_) (fun E9 B9 hC => by obtain ⟨_, ⟨_, h⟩ | ⟨_, h⟩⟩ := hC <;> cases h)
    obtain ⟨e9, ⟨hq9, hv9⟩ | ⟨hq9, hv9⟩⟩ := hC
    · cases hv9
      rw [e9]
      refine xx_cst (st2 := [.int 1, .ref b]) rfl ?_
      refine xx_if_ne (tgt := 30) dX9_strategy_23 (by decide) (fun j23 => ?_) (fun h => absurd h (by decide))
      refine xx_iconst (v := 0) dX9_strategy_30 (by decide) ?_
      refine xx_put xx_c9 dX9_strategy_31 wf_X9_84 (j := 0) (by decide) rfl rfl rfl hb0 (Nat.le_of_ble_eq_true rfl) (xx_gu fun Eq1 zq1 hbq1 oq1 => ?_)
      have hbq1 : Eq1.2 b = xx_o 9 (xx_mf b (.int 0) (.int (nI m)) (.int (nI n)) hr st hl en tu) := hbq1
      have hNq1 : xx_rw Eq1 b Nq0 := hNq0.to (oq1 _ (by omega)) (oq1 _ (by omega)) (oq1 _ (by omega)) (oq1 _ (by omega)) (oq1 _ (by omega))
      obtain ⟨p, hp, ep, ⟨r, hr, er⟩⟩ := id hq9
      subst ep
      subst er
      refine xx_clv (lv2 := [(0, .ref b), (1, .int x), (2, .int (nI p)), (3, .int (nI r)), (4, .int (nI w))]) rfl ?_
      have c6 := yy_cn6 (p := p) hm hn
      refine xx_aload_n dX9_strategy_34 rfl ?_
      refine xx_get xx_c9 dX9_strategy_35 wf_X9_84 (j := 0) (by decide) hbq1 rfl ?_
      refine xx_if_le (tgt := 45) dX9_strategy_38 (by decide) (fun j38 => ?_) (fun h => absurd (by decide) h)
      refine xx_aload_n dX9_strategy_45 rfl ?_
      refine xx_iload dX9_strategy_46 rfl ?_
      refine xx_bipush (v := 6) dX9_strategy_48 (by decide) ?_
      refine xx_iload_n dX9_strategy_50 rfl ?_
      refine xx_imul dX9_strategy_51 ?_
      refine xx_eqi (y := nI (6 * p)) (pk_mul 6 p) ?_
      refine xx_iadd dX9_strategy_52 ?_
      refine xx_eqi (y := nI (w + (6 * p))) (nI_add w (6 * p)) ?_
      refine xx_iload_n dX9_strategy_53 rfl ?_
      refine xx_iadd dX9_strategy_54 ?_
      refine xx_eqi (y := nI (w + (6 * p) + r)) (nI_add (w + (6 * p)) r) ?_
      refine xx_iload dX9_strategy_55 rfl ?_
      refine xx_bipush (v := 12) dX9_strategy_57 (by decide) ?_
      refine xx_iadd dX9_strategy_59 ?_
      refine xx_eqi (y := nI (w + 12)) (nI_add w 12) ?_
      refine xx_iload_n dX9_strategy_60 rfl ?_
      refine xx_iadd dX9_strategy_61 ?_
      refine xx_eqi (y := nI (w + 12 + p)) (nI_add (w + 12) p) ?_
      refine xx_callV (N := mX9_toHand) (vs := [.int (nI (w + (6 * p) + r)), .int (nI (w + 12 + p))]) (b := b) (rest := []) (d2 := 2) (c2 := 0) (s2 := 0) (c3 := 0) (s3 := 0) dX9_strategy_62 wm_X9_187 wi_X9_toHand wv_X9_toHand (k := 9) rfl (by decide) hbq1 nX9_toHand ⟨pX9_toHand, Nat.le_of_ble_eq_true rfl, by decide, Nat.le_of_ble_eq_true rfl, by decide, by decide⟩ (c_X9_toHand hbq1 hNq1 (x := w + 6 * p + r) (y := w + 12 + p) (by omega) (by omega) (by omega) (by omega) (by rw [hL.2 p hp]; exact (ht p hp).1)) (fun v9 Eq2 hC => ?_) (fun E9 B9 hC => absurd hC.1 (by simp))
      obtain ⟨hv9, zq2, ⟨Nq2, hNq2, v16, v17, fq2⟩, oq2⟩ := hC
      cases hv9
      refine xx_cst (st2 := [.int (iz (X p r).sign)]) (by rw [hL.1 p hp r (by omega)]; rfl) ?_
      rw [hL.1 p hp r (by omega), hL.2 p hp] at v16 v17
      have hbq2 := (oq2 b (by omega) (by omega) (by omega) (by omega) (by omega)).trans hbq1
      exact xx_iret dX9_strategy_65 rfl ⟨by omega, (fun q a0 a1 a2 a3 a4 a5 => (oq2 q a1 a2 a3 a4 a5).trans ((oq1 q a0).trans (oq0 q a1 a2 a3 a4 a5))), Or.inl ⟨hS, ⟨p, r, hp, hr, rfl, rfl, rfl, Nq2, hNq2, ns0.2.2.tr (fun q hq => fq2 q (by omega) (by omega) (by omega)), v16, v17⟩, hbq2⟩⟩
    · cases hv9
      rw [e9]
      refine xx_cst (st2 := [.int 0, .ref b]) rfl ?_
      refine xx_if_ne (tgt := 30) dX9_strategy_23 (by decide) (fun h => absurd rfl h) (fun j23 => ?_)
      refine xx_iconst (v := 2) dX9_strategy_26 (by decide) ?_
      refine xx_goto (tgt := 31) dX9_strategy_27 (by decide) ?_
      refine xx_put xx_c9 dX9_strategy_31 wf_X9_84 (j := 0) (by decide) rfl rfl rfl hb0 (Nat.le_of_ble_eq_true rfl) (xx_gu fun Eq1 zq1 hbq1 oq1 => ?_)
      have hbq1 : Eq1.2 b = xx_o 9 (xx_mf b (.int 2) (.int (nI m)) (.int (nI n)) hr st hl en tu) := hbq1
      have hNq1 : xx_rw Eq1 b Nq0 := hNq0.to (oq1 _ (by omega)) (oq1 _ (by omega)) (oq1 _ (by omega)) (oq1 _ (by omega)) (oq1 _ (by omega))
      refine xx_aload_n dX9_strategy_34 rfl ?_
      refine xx_get xx_c9 dX9_strategy_35 wf_X9_84 (j := 0) (by decide) hbq1 rfl ?_
      refine xx_if_le (tgt := 45) dX9_strategy_38 (by decide) (fun h => absurd h (by decide)) (fun j38 => ?_)
      refine xx_iconst (v := 0) dX9_strategy_41 (by decide) ?_
      refine xx_goto (tgt := 65) dX9_strategy_42 (by decide) ?_
      exact xx_iret dX9_strategy_65 rfl ⟨by omega, (fun q a0 a1 a2 a3 a4 a5 => (oq1 q a0).trans (oq0 q a1 a2 a3 a4 a5)), Or.inr (Or.inr ⟨hS, hq9, rfl, ⟨Nq0, hNq1, ns0⟩, hbq1⟩)⟩
  · cases hv9
    refine xx_cst (st2 := [.int (-1)]) rfl ?_
    refine xx_istore dX9_strategy_5 (by decide) ?_
    refine xx_clv (lv2 := [(0, .ref b), (1, .int x), (2, .int xp), (3, .int xr), (4, .int (-1))]) rfl ?_
    refine xx_aload_n dX9_strategy_7 rfl ?_
    refine xx_iload dX9_strategy_8 rfl ?_
    refine xx_if_ge (tgt := 17) dX9_strategy_10 (by decide) (fun h => absurd h (by decide)) (fun j10 => ?_)
    refine xx_iconst (v := 1) dX9_strategy_13 (by decide) ?_
    refine xx_goto (tgt := 31) dX9_strategy_14 (by decide) ?_
    refine xx_put xx_c9 dX9_strategy_31 wf_X9_84 (j := 0) (by decide) rfl rfl rfl hb0 (Nat.le_of_ble_eq_true rfl) (xx_gu fun Eq1 zq1 hbq1 oq1 => ?_)
    have hbq1 : Eq1.2 b = xx_o 9 (xx_mf b (.int 1) (.int (nI m)) (.int (nI n)) hr st hl en tu) := hbq1
    have hNq1 : xx_rw Eq1 b Nq0 := hNq0.to (oq1 _ (by omega)) (oq1 _ (by omega)) (oq1 _ (by omega)) (oq1 _ (by omega)) (oq1 _ (by omega))
    refine xx_aload_n dX9_strategy_34 rfl ?_
    refine xx_get xx_c9 dX9_strategy_35 wf_X9_84 (j := 0) (by decide) hbq1 rfl ?_
    refine xx_if_le (tgt := 45) dX9_strategy_38 (by decide) (fun h => absurd h (by decide)) (fun j38 => ?_)
    refine xx_iconst (v := 0) dX9_strategy_41 (by decide) ?_
    refine xx_goto (tgt := 65) dX9_strategy_42 (by decide) ?_
    exact xx_iret dX9_strategy_65 rfl ⟨by omega, (fun q a0 a1 a2 a3 a4 a5 => (oq1 q a0).trans (oq0 q a1 a2 a3 a4 a5)), Or.inr (Or.inl ⟨hS, rfl, ⟨Nq0, hNq1, ns0⟩, hbq1⟩)⟩
theorem yy_p2m {k : Nat} (h : k ≤ 27720) : ((k : Nat) : Int).natAbs < 65536 ^ 2 := by rw [Int.natAbs_natCast]; exact Nat.lt_of_le_of_lt h (by decide)
theorem yy_p38t {v : Int} (h : v.natAbs < 2 ^ 195) : v.natAbs < 65536 ^ 38 := Nat.lt_trans h (by decide +kernel)
theorem yy_p14 {v : Int} (h : v.natAbs ≤ 2 ^ 210) : v.natAbs < 65536 ^ 15 := Nat.lt_of_le_of_lt h (by decide +kernel)
theorem yt_01 {p : Nat} {t : Nat → Int} {c : Int} (hp : p < 2) : c * t (1 - p) * t p = c * t 0 * t 1 := by
  rcases (show p = 0 ∨ p = 1 by omega) with z | z
  · subst z; exact Int.mul_right_comm _ _ _
  · subst z; rfl
set_option maxRecDepth 100000 in
theorem c_X9_gets {G : xx_G} {l : Launch} {A : xx_H} {b : Nat} {th hr st hl en tu : Value} {m n : Nat} {S : Prop} {N : Nat → Int} {X : Nat → Nat → Int} {t : Nat → Int} {w : Nat} {x xp : Int32} {W : Nat → Nat → Nat → Int} {le : Nat → Int} {mu : Nat → Nat} {xr : Int32} (hb : A.2 b = xx_o 9 (xx_mf b th (.int (nI m)) (.int (nI n)) hr st hl en tu)) (hm1 : 1 ≤ m) (hm : m ≤ 6) (hn1 : 1 ≤ n) (hn : n ≤ 6)  (hplace : xx_X G l mX9_placeOf 5 0 0 0 (lv_args 0 [.ref b, .int x]) [] A (fun z B => B.1 = A.1 ∧ (∃ N2, xx_rw B b N2 ∧ xx_ns N2 N ∧ ((S ∧ z = .inl (some (.int (nI w))) ∧ xx_pl N2 w X t) ∨ (¬ S ∧ z = .inl (some (.int (-1)))))) ∧ ∀ q, q ≠ b + 1 → q ≠ b + 2 → q ≠ b + 3 → q ≠ b + 17 → q ≠ b + 18 → B.2 q = A.2 q)) (hw : 300 ≤ w) (hw2 : w + 14 ≤ 1740) (ht : ∀ q, q < 2 → 0 < t q ∧ (t q).natAbs < 2 ^ 195) (hP : xx_rp A b m n W le mu) (hmu : ∀ p, p < 2 → mu p ≤ 27720 ∧ 0 < mu p) (hX : ∀ q, q < 2 → ∀ k, k < 6 → (X q k).natAbs < 2 ^ 192) : xx_X G l mX9_gets 6 0 0 0 (lv_args 0 [.ref b, .int x, .int xp, .int xr]) [] A (fun z B => B.1 = A.1 ∧ (∀ q, q ≠ b → q ≠ b + 1 → q ≠ b + 2 → q ≠ b + 3 → q ≠ b + 17 → q ≠ b + 18 → B.2 q = A.2 q) ∧ ((S ∧ (∃ p y d, p < 2 ∧ xp = nI p ∧ ((xr = -1 ∧ y = ye_o m n W X p (yy_cn m n p) ∧ d = (mu p : Int) * t 0 * t 1) ∨ ∃ r, r < yy_cn m n p ∧ xr = nI r ∧ y = ye_v m n W X p r ∧ d = (mu p : Int) * t (1 - p)) ∧ z = .inl (some (.int (iz y.sign))) ∧ ∃ N2, xx_rw B b N2 ∧ xx_nh N2 N ∧ N2 16 = yf_n y d ∧ N2 17 = yf_d y d) ∧ B.2 b = xx_o 9 (xx_mf b (.int 0) (.int (nI m)) (.int (nI n)) hr st hl en tu)) ∨ (¬ S ∧ z = .inl (some (.int 0)) ∧ (∃ N2, xx_rw B b N2 ∧ xx_ns N2 N) ∧ B.2 b = xx_o 9 (xx_mf b (.int 1) (.int (nI m)) (.int (nI n)) hr st hl en tu)) ∨ (S ∧ ¬ (∃ p, p < 2 ∧ xp = nI p ∧ (xr = -1 ∨ yy_in xr (yy_cn m n p))) ∧ z = .inl (some (.int 0)) ∧ (∃ N2, xx_rw B b N2 ∧ xx_ns N2 N) ∧ B.2 b = xx_o 9 (xx_mf b (.int 2) (.int (nI m)) (.int (nI n)) hr st hl en tu)))) := by
  refine xx_clv (lv2 := [(0, .ref b), (1, .int x), (2, .int xp), (3, .int xr)]) rfl ?_
  refine xx_aload_n dX9_gets_0 rfl ?_
  refine xx_iload_n dX9_gets_1 rfl ?_
  refine xx_callV (N := mX9_placeOf) (vs := [.int x]) (b := b) (rest := []) (d2 := 5) (c2 := 0) (s2 := 0) (c3 := 0) (s3 := 0) dX9_gets_2 wm_X9_184 wi_X9_placeOf wv_X9_placeOf (k := 9) rfl (by decide) hb nX9_placeOf ⟨pX9_placeOf, Nat.le_of_ble_eq_true rfl, by decide, Nat.le_of_ble_eq_true rfl, by decide, by decide⟩ hplace (fun v9 Eq0 hC => ?_) (fun E9 B9 hC => by obtain ⟨_, ⟨_, _, _, ⟨_, h, _⟩ | ⟨_, h⟩⟩, _⟩ := hC <;> cases h)
  obtain ⟨zq0, ⟨Nq0, hNq0, ns0, hC⟩, oq0⟩ := hC
  have hb0 := (oq0 b (by omega) (by omega) (by omega) (by omega) (by omega)).trans hb
  rcases hC with ⟨hS, hv9, hL⟩ | ⟨hS, hv9⟩
  · cases hv9
    refine xx_cst (st2 := [.int (nI w)]) rfl ?_
    refine xx_istore dX9_gets_5 (by decide) ?_
    refine xx_clv (lv2 := [(0, .ref b), (1, .int x), (2, .int xp), (3, .int xr), (4, .int (nI w))]) rfl ?_
    refine xx_aload_n dX9_gets_7 rfl ?_
    refine xx_iload dX9_gets_8 rfl ?_
    refine xx_if_ge (tgt := 17) dX9_gets_10 (by decide) (fun j10 => ?_) (fun h => absurd ((nI_leI (a := 0) (b := w) (by decide) (by omega)).mpr (Nat.zero_le _)) h)
    refine xx_iload_n dX9_gets_17 rfl ?_
    refine xx_iconst (v := 0) dX9_gets_18 (by decide) ?_
    refine xx_iconst (v := 1) dX9_gets_19 (by decide) ?_
    by_cases hPp : yy_in xp 2
    · have hin : xx_inn xp 0 1 = 1 := xx_inn1 (k := 1) (by decide) hPp
      refine xx_callS (N := mX9_in) (vs := [.int xp, .int 0, .int 1]) (rest := [.ref b]) (d2 := 0) (c2 := 0) (s2 := 0) (c3 := 0) (s3 := 0) dX9_gets_20 wm_X9_116 ws_X9_in wz_X9 (by decide) nX9_in ⟨pX9_in, Nat.le_of_ble_eq_true rfl, by decide, Nat.le_of_ble_eq_true rfl, by decide, by decide⟩ c_X9_in (fun v9 B9 hC => ?_) (fun E9 B9 hC => absurd hC.1 (by simp))
      obtain ⟨hv9, e9⟩ := hC
      cases hv9
      rw [e9]
      refine xx_cst (st2 := [.int 1, .ref b]) (by rw [hin]; rfl) ?_
      obtain ⟨p, hp, ep⟩ := id hPp
      subst ep
      refine xx_clv (lv2 := [(0, .ref b), (1, .int x), (2, .int (nI p)), (3, .int xr), (4, .int (nI w))]) rfl ?_
      refine xx_if_eq (tgt := 40) dX9_gets_23 (by decide) (fun h => absurd h (by decide)) (fun j23 => ?_)
      refine xx_iload_n dX9_gets_26 rfl ?_
      refine xx_iconst (v := (-1)) dX9_gets_27 (by decide) ?_
      refine xx_icmp_eq (tgt := 44) dX9_gets_28 (by decide) (fun j28 => ?_) (fun j28 => ?_)
      · refine xx_iconst (v := 0) dX9_gets_44 (by decide) ?_
        refine xx_put xx_c9 dX9_gets_45 wf_X9_84 (j := 0) (by decide) rfl rfl rfl hb0 (Nat.le_of_ble_eq_true rfl) (xx_gu fun Eq1 zq1 hbq1 oq1 => ?_)
        have hbq1 : Eq1.2 b = xx_o 9 (xx_mf b (.int 0) (.int (nI m)) (.int (nI n)) hr st hl en tu) := hbq1
        have hNq1 : xx_rw Eq1 b Nq0 := hNq0.to (oq1 _ (by omega)) (oq1 _ (by omega)) (oq1 _ (by omega)) (oq1 _ (by omega)) (oq1 _ (by omega))
        have c6 := yy_cn6 (p := p) hm hn
        subst j28
        refine xx_clv (lv2 := [(0, .ref b), (1, .int x), (2, .int (nI p)), (3, .int (-1)), (4, .int (nI w))]) rfl ?_
        refine xx_aload_n dX9_gets_48 rfl ?_
        refine xx_get xx_c9 dX9_gets_49 wf_X9_84 (j := 0) (by decide) hbq1 rfl ?_
        refine xx_if_le (tgt := 57) dX9_gets_52 (by decide) (fun j52 => ?_) (fun h => absurd (by decide) h)
        refine xx_aload_n dX9_gets_57 rfl ?_
        refine xx_bipush (v := 10) dX9_gets_58 (by decide) ?_
        refine xx_aload_n dX9_gets_60 rfl ?_
        refine xx_get xx_c9 dX9_gets_61 wf_X9_55 (j := 20) (by decide) hbq1 rfl ?_
        refine xx_iload_n dX9_gets_64 rfl ?_
        obtain ⟨_, _, ⟨mf9, m1, m2⟩, _⟩ := id hP
        obtain ⟨mu1, mu2⟩ := hmu p hp
        refine xx_lald dX9_gets_65 (((oq1 (b + 14) (by omega)).trans (oq0 (b + 14) (by omega) (by omega) (by omega) (by omega) (by omega))).trans m1) (vp_in_nI (by omega) (by decide)) ?_
        refine xx_eql (y := lz (mu p : Int)) (by rw [nI_clamp (by omega)]; exact m2 p hp) ?_
        refine xx_callV (N := mX9_set) (vs := [.int 10, .long (lz (mu p : Int))]) (b := b) (rest := []) (d2 := 0) (c2 := 0) (s2 := 0) (c3 := 0) (s3 := 0) dX9_gets_66 wm_X9_80 wi_X9_set wv_X9_set (k := 9) rfl (by decide) hbq1 nX9_set ⟨pX9_set, Nat.le_of_ble_eq_true rfl, by decide, Nat.le_of_ble_eq_true rfl, by decide, by decide⟩ (w_X9_set hbq1 hNq1 (a := 10) (v := (mu p : Int)) (by omega) (by omega) (by omega)) (fun v9 Eq2 hC => ?_) (fun E9 B9 hC => absurd hC.1 (by simp))
        obtain ⟨hv9, zq2, ⟨Nq2, hNq2, vq2, fq2⟩, oq2⟩ := hC
        cases hv9
        refine xx_cst (st2 := []) rfl ?_
        have hbq2 := (oq2 b (by omega) (by omega) (by omega) (by omega) (by omega)).trans hbq1
        refine xx_aload_n dX9_gets_69 rfl ?_
        refine xx_bipush (v := 10) dX9_gets_70 (by decide) ?_
        refine xx_iload dX9_gets_72 rfl ?_
        refine xx_bipush (v := 12) dX9_gets_74 (by decide) ?_
        refine xx_iadd dX9_gets_76 ?_
        refine xx_eqi (y := nI (w + 12)) (nI_add w 12) ?_
        refine xx_iconst (v := 1) dX9_gets_77 (by decide) ?_
        refine xx_iadd dX9_gets_78 ?_
        refine xx_eqi (y := nI (w + 12 + 1)) (nI_add (w + 12) 1) ?_
        refine xx_iload_n dX9_gets_79 rfl ?_
        refine xx_isub dX9_gets_80 ?_
        refine xx_eqi (y := nI ((w + 12 + 1) - p)) (pk_sub (a := w + 12 + 1) (b := p) (by omega)) ?_
        refine xx_bipush (v := 21) dX9_gets_81 (by decide) ?_
        have x1 : Nq2 (w + 12 + (1 - p)) = t (1 - p) := (fq2 _ (by omega)).trans (hL.2 (1 - p) (by omega))
        refine xx_cst (st2 := [.int 21, .int (nI (w + 12 + (1 - p))), .int 10, .ref b]) (by rw [show w + 12 + 1 - p = w + 12 + (1 - p) by omega]) ?_
        refine xx_callV (N := mX9_times) (vs := [.int 10, .int (nI (w + 12 + (1 - p))), .int 21]) (b := b) (rest := []) (d2 := 1) (c2 := 0) (s2 := 0) (c3 := 0) (s3 := 0) dX9_gets_83 wm_X9_104 wi_X9_times wv_X9_times (k := 9) rfl (by decide) hbq2 nX9_times ⟨pX9_times, Nat.le_of_ble_eq_true rfl, by decide, Nat.le_of_ble_eq_true rfl, by decide, by decide⟩ (w_X9_times hbq2 hNq2 (x := 10) (y := w + 12 + (1 - p)) (c := 21) (p := 2) (q := 38) (by omega) (by omega) (by omega) (by omega) (by omega) (by decide) (by rw [vq2]; exact yy_p2m mu1) (by rw [x1]; exact yy_p38t (ht (1 - p) (by omega)).2)) (fun v9 Eq3 hC => ?_) (fun E9 B9 hC => absurd hC.1 (by simp))
        obtain ⟨hv9, zq3, ⟨Nq3, hNq3, vq3, fq3⟩, oq3⟩ := hC
        cases hv9
        refine xx_cst (st2 := []) rfl ?_
        have hbq3 := (oq3 b (by omega) (by omega) (by omega) (by omega) (by omega)).trans hbq2
        have x2 : Nq3 21 = (mu p : Int) * t (1 - p) := by rw [vq3, vq2, x1]
        have hL3 : xx_pl Nq3 w X t := hL.to (fun q9 a9 b9 => (fq3 q9 (by omega)).trans (fq2 q9 (by omega)))
        have hP3 : xx_rp Eq3 b m n W le mu := hP.to (((oq3 (b + 14) (by omega) (by omega) (by omega) (by omega) (by omega)).trans ((oq2 (b + 14) (by omega) (by omega) (by omega) (by omega) (by omega)).trans ((oq1 (b + 14) (by omega)).trans (oq0 (b + 14) (by omega) (by omega) (by omega) (by omega) (by omega)))))) (((oq3 (b + 15) (by omega) (by omega) (by omega) (by omega) (by omega)).trans ((oq2 (b + 15) (by omega) (by omega) (by omega) (by omega) (by omega)).trans ((oq1 (b + 15) (by omega)).trans (oq0 (b + 15) (by omega) (by omega) (by omega) (by omega) (by omega)))))) (((oq3 (b + 16) (by omega) (by omega) (by omega) (by omega) (by omega)).trans ((oq2 (b + 16) (by omega) (by omega) (by omega) (by omega) (by omega)).trans ((oq1 (b + 16) (by omega)).trans (oq0 (b + 16) (by omega) (by omega) (by omega) (by omega) (by omega))))))
        refine xx_iload_n dX9_gets_86 rfl ?_
        refine xx_if_lt (tgt := 109) dX9_gets_87 (by decide) (fun j87 => ?_) (fun h => absurd (by decide) h)
        refine xx_aload_n dX9_gets_109 rfl ?_
        refine xx_bipush (v := 21) dX9_gets_110 (by decide) ?_
        refine xx_iload dX9_gets_112 rfl ?_
        refine xx_bipush (v := 12) dX9_gets_114 (by decide) ?_
        refine xx_iadd dX9_gets_116 ?_
        refine xx_eqi (y := nI (w + 12)) (nI_add w 12) ?_
        refine xx_iload_n dX9_gets_117 rfl ?_
        refine xx_iadd dX9_gets_118 ?_
        refine xx_eqi (y := nI (w + 12 + p)) (nI_add (w + 12) p) ?_
        refine xx_bipush (v := 23) dX9_gets_119 (by decide) ?_
        have x4 : Nq3 (w + 12 + p) = t p := hL3.2 p hp
        refine xx_callV (N := mX9_times) (vs := [.int 21, .int (nI (w + 12 + p)), .int 23]) (b := b) (rest := []) (d2 := 1) (c2 := 0) (s2 := 0) (c3 := 0) (s3 := 0) dX9_gets_121 wm_X9_104 wi_X9_times wv_X9_times (k := 9) rfl (by decide) hbq3 nX9_times ⟨pX9_times, Nat.le_of_ble_eq_true rfl, by decide, Nat.le_of_ble_eq_true rfl, by decide, by decide⟩ (w_X9_times hbq3 hNq3 (x := 21) (y := w + 12 + p) (c := 23) (p := 15) (q := 25) (by omega) (by omega) (by omega) (by omega) (by omega) (by decide) (by rw [x2]; exact yy_p14 (yb_t1 mu1 (ht (1 - p) (by omega)).2)) (by rw [x4]; exact yy_p25 (ht p hp).2)) (fun v9 Eq4 hC => ?_) (fun E9 B9 hC => absurd hC.1 (by simp))
        obtain ⟨hv9, zq4, ⟨Nq4, hNq4, vq4, fq4⟩, oq4⟩ := hC
        cases hv9
        refine xx_cst (st2 := []) rfl ?_
        have hbq4 := (oq4 b (by omega) (by omega) (by omega) (by omega) (by omega)).trans hbq3
        have x5 : Nq4 23 = (mu p : Int) * t 0 * t 1 := by rw [vq4, x2, x4, yt_01 hp]
        have hL4 : xx_pl Nq4 w X t := hL3.to (fun q9 a9 b9 => fq4 q9 (by omega))
        have hP4 : xx_rp Eq4 b m n W le mu := hP.to (((oq4 (b + 14) (by omega) (by omega) (by omega) (by omega) (by omega)).trans ((oq3 (b + 14) (by omega) (by omega) (by omega) (by omega) (by omega)).trans ((oq2 (b + 14) (by omega) (by omega) (by omega) (by omega) (by omega)).trans ((oq1 (b + 14) (by omega)).trans (oq0 (b + 14) (by omega) (by omega) (by omega) (by omega) (by omega))))))) (((oq4 (b + 15) (by omega) (by omega) (by omega) (by omega) (by omega)).trans ((oq3 (b + 15) (by omega) (by omega) (by omega) (by omega) (by omega)).trans ((oq2 (b + 15) (by omega) (by omega) (by omega) (by omega) (by omega)).trans ((oq1 (b + 15) (by omega)).trans (oq0 (b + 15) (by omega) (by omega) (by omega) (by omega) (by omega))))))) (((oq4 (b + 16) (by omega) (by omega) (by omega) (by omega) (by omega)).trans ((oq3 (b + 16) (by omega) (by omega) (by omega) (by omega) (by omega)).trans ((oq2 (b + 16) (by omega) (by omega) (by omega) (by omega) (by omega)).trans ((oq1 (b + 16) (by omega)).trans (oq0 (b + 16) (by omega) (by omega) (by omega) (by omega) (by omega)))))))
        refine xx_aload_n dX9_gets_124 rfl ?_
        refine xx_iload dX9_gets_125 rfl ?_
        refine xx_iload_n dX9_gets_127 rfl ?_
        refine xx_bipush (v := 25) dX9_gets_128 (by decide) ?_
        refine xx_callV (N := mX9_ownGets) (vs := [.int (nI w), .int (nI p), .int 25]) (b := b) (rest := []) (d2 := 4) (c2 := 0) (s2 := 0) (c3 := 0) (s3 := 0) dX9_gets_130 wm_X9_193 wi_X9_ownGets wv_X9_ownGets (k := 9) rfl (by decide) hbq4 nX9_ownGets ⟨pX9_ownGets, Nat.le_of_ble_eq_true rfl, by decide, Nat.le_of_ble_eq_true rfl, by decide, by decide⟩ (c_X9_ownGets (p := p) (to9 := 25) hbq4 hP4 hm hn hw hw2 hL4 hX hNq4 hp (by decide) (by decide)) (fun v9 Eq5 hC => ?_) (fun E9 B9 hC => absurd hC.1 (by simp))
        obtain ⟨hv9, zq5, ⟨Nq5, hNq5, vq5, fq5⟩, oq5⟩ := hC
        cases hv9
        refine xx_cst (st2 := []) rfl ?_
        have hbq5 := (oq5 b (by omega) (by omega) (by omega) (by omega) (by omega)).trans hbq4
        have x6 : Nq5 23 = (mu p : Int) * t 0 * t 1 := (fq5 _ (by decide) (by decide) (by decide) (by decide) (by decide) (by decide)).trans x5
        refine xx_aload_n dX9_gets_133 rfl ?_
        refine xx_bipush (v := 25) dX9_gets_134 (by decide) ?_
        refine xx_bipush (v := 23) dX9_gets_136 (by decide) ?_
        refine xx_callV (N := mX9_toHand) (vs := [.int 25, .int 23]) (b := b) (rest := []) (d2 := 2) (c2 := 0) (s2 := 0) (c3 := 0) (s3 := 0) dX9_gets_138 wm_X9_187 wi_X9_toHand wv_X9_toHand (k := 9) rfl (by decide) hbq5 nX9_toHand ⟨pX9_toHand, Nat.le_of_ble_eq_true rfl, by decide, Nat.le_of_ble_eq_true rfl, by decide, by decide⟩ (c_X9_toHand hbq5 hNq5 (x := 25) (y := 23) (by omega) (by omega) (by omega) (by omega) (by rw [x6]; exact Int.mul_pos (Int.mul_pos (by omega) (ht 0 (by decide)).1) (ht 1 (by decide)).1)) (fun v9 Eq6 hC => ?_) (fun E9 B9 hC => absurd hC.1 (by simp))
        obtain ⟨hv9, zq6, ⟨Nq6, hNq6, v16, v17, fq6⟩, oq6⟩ := hC
        cases hv9
        refine xx_cst (st2 := [.int (iz (ye_o m n W X p (yy_cn m n p)).sign)]) (by rw [vq5]; rfl) ?_
        rw [vq5, x6] at v16 v17
        have hbq6 := (oq6 b (by omega) (by omega) (by omega) (by omega) (by omega)).trans hbq5
        exact xx_iret dX9_gets_141 rfl ⟨by omega, (fun q a0 a1 a2 a3 a4 a5 => (oq6 q a1 a2 a3 a4 a5).trans ((oq5 q a1 a2 a3 a4 a5).trans ((oq4 q a1 a2 a3 a4 a5).trans ((oq3 q a1 a2 a3 a4 a5).trans ((oq2 q a1 a2 a3 a4 a5).trans ((oq1 q a0).trans (oq0 q a1 a2 a3 a4 a5))))))), Or.inl ⟨hS, ⟨p, _, _, hp, rfl, Or.inl ⟨rfl, rfl, rfl⟩, rfl, Nq6, hNq6, ns0.2.2.tr (fun q hq => (fq6 q (by omega) (by omega) (by omega)).trans ((fq5 q (by omega) (by omega) (by omega) (by omega) (by omega) (by omega)).trans ((fq4 q (by omega)).trans ((fq3 q (by omega)).trans (fq2 q (by omega)))))), v16, v17⟩, hbq6⟩⟩
      · refine xx_aload_n dX9_gets_31 rfl ?_
        refine xx_iload_n dX9_gets_32 rfl ?_
        refine xx_iload_n dX9_gets_33 rfl ?_
        refine xx_callV (N := mX9_hasPlayer) (vs := [.int (nI p), .int xr]) (b := b) (rest := [.ref b]) (d2 := 1) (c2 := 0) (s2 := 0) (c3 := 0) (s3 := 0) dX9_gets_34 wm_X9_176 wi_X9_hasPlayer wv_X9_hasPlayer (k := 9) rfl (by decide) hb0 nX9_hasPlayer ⟨pX9_hasPlayer, Nat.le_of_ble_eq_true rfl, by decide, Nat.le_of_ble_eq_true rfl, by decide, by decide⟩ (c_X9_hasPlayer hb0 hm1 hm hn1 hn) (fun v9 B9 hC => ?_) (fun E9 B9 hC => by obtain ⟨_, ⟨_, h⟩ | ⟨_, h⟩⟩ := hC <;> cases h)
        obtain ⟨e9, ⟨hq9, hv9⟩ | ⟨hq9, hv9⟩⟩ := hC
        · cases hv9
          rw [e9]
          refine xx_cst (st2 := [.int 1, .ref b]) rfl ?_
          refine xx_if_ne (tgt := 44) dX9_gets_37 (by decide) (fun j37 => ?_) (fun h => absurd h (by decide))
          refine xx_iconst (v := 0) dX9_gets_44 (by decide) ?_
          refine xx_put xx_c9 dX9_gets_45 wf_X9_84 (j := 0) (by decide) rfl rfl rfl hb0 (Nat.le_of_ble_eq_true rfl) (xx_gu fun Eq1 zq1 hbq1 oq1 => ?_)
          have hbq1 : Eq1.2 b = xx_o 9 (xx_mf b (.int 0) (.int (nI m)) (.int (nI n)) hr st hl en tu) := hbq1
          have hNq1 : xx_rw Eq1 b Nq0 := hNq0.to (oq1 _ (by omega)) (oq1 _ (by omega)) (oq1 _ (by omega)) (oq1 _ (by omega)) (oq1 _ (by omega))
          have c6 := yy_cn6 (p := p) hm hn
          obtain ⟨p9, hp9, ep9, ⟨r, hr, er⟩⟩ := id hq9
          have e99 : p = p9 := nI_inj2 (by omega) (by omega) ep9
          subst e99
          subst er
          refine xx_clv (lv2 := [(0, .ref b), (1, .int x), (2, .int (nI p)), (3, .int (nI r)), (4, .int (nI w))]) rfl ?_
          refine xx_aload_n dX9_gets_48 rfl ?_
          refine xx_get xx_c9 dX9_gets_49 wf_X9_84 (j := 0) (by decide) hbq1 rfl ?_
          refine xx_if_le (tgt := 57) dX9_gets_52 (by decide) (fun j52 => ?_) (fun h => absurd (by decide) h)
          refine xx_aload_n dX9_gets_57 rfl ?_
          refine xx_bipush (v := 10) dX9_gets_58 (by decide) ?_
          refine xx_aload_n dX9_gets_60 rfl ?_
          refine xx_get xx_c9 dX9_gets_61 wf_X9_55 (j := 20) (by decide) hbq1 rfl ?_
          refine xx_iload_n dX9_gets_64 rfl ?_
          obtain ⟨_, _, ⟨mf9, m1, m2⟩, _⟩ := id hP
          obtain ⟨mu1, mu2⟩ := hmu p hp
          refine xx_lald dX9_gets_65 (((oq1 (b + 14) (by omega)).trans (oq0 (b + 14) (by omega) (by omega) (by omega) (by omega) (by omega))).trans m1) (vp_in_nI (by omega) (by decide)) ?_
          refine xx_eql (y := lz (mu p : Int)) (by rw [nI_clamp (by omega)]; exact m2 p hp) ?_
          refine xx_callV (N := mX9_set) (vs := [.int 10, .long (lz (mu p : Int))]) (b := b) (rest := []) (d2 := 0) (c2 := 0) (s2 := 0) (c3 := 0) (s3 := 0) dX9_gets_66 wm_X9_80 wi_X9_set wv_X9_set (k := 9) rfl (by decide) hbq1 nX9_set ⟨pX9_set, Nat.le_of_ble_eq_true rfl, by decide, Nat.le_of_ble_eq_true rfl, by decide, by decide⟩ (w_X9_set hbq1 hNq1 (a := 10) (v := (mu p : Int)) (by omega) (by omega) (by omega)) (fun v9 Eq2 hC => ?_) (fun E9 B9 hC => absurd hC.1 (by simp))
          obtain ⟨hv9, zq2, ⟨Nq2, hNq2, vq2, fq2⟩, oq2⟩ := hC
          cases hv9
          refine xx_cst (st2 := []) rfl ?_
          have hbq2 := (oq2 b (by omega) (by omega) (by omega) (by omega) (by omega)).trans hbq1
          refine xx_aload_n dX9_gets_69 rfl ?_
          refine xx_bipush (v := 10) dX9_gets_70 (by decide) ?_
          refine xx_iload dX9_gets_72 rfl ?_
          refine xx_bipush (v := 12) dX9_gets_74 (by decide) ?_
          refine xx_iadd dX9_gets_76 ?_
          refine xx_eqi (y := nI (w + 12)) (nI_add w 12) ?_
          refine xx_iconst (v := 1) dX9_gets_77 (by decide) ?_
          refine xx_iadd dX9_gets_78 ?_
          refine xx_eqi (y := nI (w + 12 + 1)) (nI_add (w + 12) 1) ?_
          refine xx_iload_n dX9_gets_79 rfl ?_
          refine xx_isub dX9_gets_80 ?_
          refine xx_eqi (y := nI ((w + 12 + 1) - p)) (pk_sub (a := w + 12 + 1) (b := p) (by omega)) ?_
          refine xx_bipush (v := 21) dX9_gets_81 (by decide) ?_
          have x1 : Nq2 (w + 12 + (1 - p)) = t (1 - p) := (fq2 _ (by omega)).trans (hL.2 (1 - p) (by omega))
          refine xx_cst (st2 := [.int 21, .int (nI (w + 12 + (1 - p))), .int 10, .ref b]) (by rw [show w + 12 + 1 - p = w + 12 + (1 - p) by omega]) ?_
          refine xx_callV (N := mX9_times) (vs := [.int 10, .int (nI (w + 12 + (1 - p))), .int 21]) (b := b) (rest := []) (d2 := 1) (c2 := 0) (s2 := 0) (c3 := 0) (s3 := 0) dX9_gets_83 wm_X9_104 wi_X9_times wv_X9_times (k := 9) rfl (by decide) hbq2 nX9_times ⟨pX9_times, Nat.le_of_ble_eq_true rfl, by decide, Nat.le_of_ble_eq_true rfl, by decide, by decide⟩ (w_X9_times hbq2 hNq2 (x := 10) (y := w + 12 + (1 - p)) (c := 21) (p := 2) (q := 38) (by omega) (by omega) (by omega) (by omega) (by omega) (by decide) (by rw [vq2]; exact yy_p2m mu1) (by rw [x1]; exact yy_p38t (ht (1 - p) (by omega)).2)) (fun v9 Eq3 hC => ?_) (fun E9 B9 hC => absurd hC.1 (by simp))
          obtain ⟨hv9, zq3, ⟨Nq3, hNq3, vq3, fq3⟩, oq3⟩ := hC
          cases hv9
          refine xx_cst (st2 := []) rfl ?_
          have hbq3 := (oq3 b (by omega) (by omega) (by omega) (by omega) (by omega)).trans hbq2
          have x2 : Nq3 21 = (mu p : Int) * t (1 - p) := by rw [vq3, vq2, x1]
          have hL3 : xx_pl Nq3 w X t := hL.to (fun q9 a9 b9 => (fq3 q9 (by omega)).trans (fq2 q9 (by omega)))
          have hP3 : xx_rp Eq3 b m n W le mu := hP.to (((oq3 (b + 14) (by omega) (by omega) (by omega) (by omega) (by omega)).trans ((oq2 (b + 14) (by omega) (by omega) (by omega) (by omega) (by omega)).trans ((oq1 (b + 14) (by omega)).trans (oq0 (b + 14) (by omega) (by omega) (by omega) (by omega) (by omega)))))) (((oq3 (b + 15) (by omega) (by omega) (by omega) (by omega) (by omega)).trans ((oq2 (b + 15) (by omega) (by omega) (by omega) (by omega) (by omega)).trans ((oq1 (b + 15) (by omega)).trans (oq0 (b + 15) (by omega) (by omega) (by omega) (by omega) (by omega)))))) (((oq3 (b + 16) (by omega) (by omega) (by omega) (by omega) (by omega)).trans ((oq2 (b + 16) (by omega) (by omega) (by omega) (by omega) (by omega)).trans ((oq1 (b + 16) (by omega)).trans (oq0 (b + 16) (by omega) (by omega) (by omega) (by omega) (by omega))))))
          refine xx_iload_n dX9_gets_86 rfl ?_
          refine xx_if_lt (tgt := 109) dX9_gets_87 (by decide) (fun h => absurd h (nI_pos (by omega))) (fun j87 => ?_)
          refine xx_aload_n dX9_gets_90 rfl ?_
          refine xx_iload dX9_gets_91 rfl ?_
          refine xx_iload_n dX9_gets_93 rfl ?_
          refine xx_iload_n dX9_gets_94 rfl ?_
          refine xx_bipush (v := 20) dX9_gets_95 (by decide) ?_
          refine xx_callV (N := mX9_rowGets) (vs := [.int (nI w), .int (nI p), .int (nI r), .int 20]) (b := b) (rest := []) (d2 := 3) (c2 := 0) (s2 := 0) (c3 := 0) (s3 := 0) dX9_gets_97 wm_X9_190 wi_X9_rowGets wv_X9_rowGets (k := 9) rfl (by decide) hbq3 nX9_rowGets ⟨pX9_rowGets, Nat.le_of_ble_eq_true rfl, by decide, Nat.le_of_ble_eq_true rfl, by decide, by decide⟩ (c_X9_rowGets (p := p) (r := r) (to9 := 20) hbq3 hP3 hm hn hw hw2 hL3 hX hNq3 hp hr (by decide) (by decide)) (fun v9 Eq4 hC => ?_) (fun E9 B9 hC => absurd hC.1 (by simp))
          obtain ⟨hv9, zq4, ⟨Nq4, hNq4, vq4, fq4⟩, oq4⟩ := hC
          cases hv9
          refine xx_cst (st2 := []) rfl ?_
          have hbq4 := (oq4 b (by omega) (by omega) (by omega) (by omega) (by omega)).trans hbq3
          have x3 : Nq4 21 = (mu p : Int) * t (1 - p) := (fq4 _ (by decide) (by decide) (by decide) (by decide)).trans x2
          refine xx_aload_n dX9_gets_100 rfl ?_
          refine xx_bipush (v := 20) dX9_gets_101 (by decide) ?_
          refine xx_bipush (v := 21) dX9_gets_103 (by decide) ?_
          refine xx_callV (N := mX9_toHand) (vs := [.int 20, .int 21]) (b := b) (rest := []) (d2 := 2) (c2 := 0) (s2 := 0) (c3 := 0) (s3 := 0) dX9_gets_105 wm_X9_187 wi_X9_toHand wv_X9_toHand (k := 9) rfl (by decide) hbq4 nX9_toHand ⟨pX9_toHand, Nat.le_of_ble_eq_true rfl, by decide, Nat.le_of_ble_eq_true rfl, by decide, by decide⟩ (c_X9_toHand hbq4 hNq4 (x := 20) (y := 21) (by omega) (by omega) (by omega) (by omega) (by rw [x3]; exact Int.mul_pos (by omega) (ht (1 - p) (by omega)).1)) (fun v9 Eq5 hC => ?_) (fun E9 B9 hC => absurd hC.1 (by simp))
          obtain ⟨hv9, zq5, ⟨Nq5, hNq5, v16, v17, fq5⟩, oq5⟩ := hC
          cases hv9
          refine xx_cst (st2 := [.int (iz (ye_v m n W X p r).sign)]) (by rw [vq4]; rfl) ?_
          rw [vq4, x3] at v16 v17
          have hbq5 := (oq5 b (by omega) (by omega) (by omega) (by omega) (by omega)).trans hbq4
          exact xx_iret dX9_gets_108 rfl ⟨by omega, (fun q a0 a1 a2 a3 a4 a5 => (oq5 q a1 a2 a3 a4 a5).trans ((oq4 q a1 a2 a3 a4 a5).trans ((oq3 q a1 a2 a3 a4 a5).trans ((oq2 q a1 a2 a3 a4 a5).trans ((oq1 q a0).trans (oq0 q a1 a2 a3 a4 a5)))))), Or.inl ⟨hS, ⟨p, _, _, hp, rfl, Or.inr ⟨r, hr, rfl, rfl, rfl⟩, rfl, Nq5, hNq5, ns0.2.2.tr (fun q hq => (fq5 q (by omega) (by omega) (by omega)).trans ((fq4 q (by omega) (by omega) (by omega) (by omega)).trans ((fq3 q (by omega)).trans (fq2 q (by omega))))), v16, v17⟩, hbq5⟩⟩
        · cases hv9
          rw [e9]
          refine xx_cst (st2 := [.int 0, .ref b]) rfl ?_
          refine xx_if_ne (tgt := 44) dX9_gets_37 (by decide) (fun h => absurd rfl h) (fun j37 => ?_)
          refine xx_iconst (v := 2) dX9_gets_40 (by decide) ?_
          refine xx_goto (tgt := 45) dX9_gets_41 (by decide) ?_
          refine xx_put xx_c9 dX9_gets_45 wf_X9_84 (j := 0) (by decide) rfl rfl rfl hb0 (Nat.le_of_ble_eq_true rfl) (xx_gu fun Eq1 zq1 hbq1 oq1 => ?_)
          have hbq1 : Eq1.2 b = xx_o 9 (xx_mf b (.int 2) (.int (nI m)) (.int (nI n)) hr st hl en tu) := hbq1
          have hNq1 : xx_rw Eq1 b Nq0 := hNq0.to (oq1 _ (by omega)) (oq1 _ (by omega)) (oq1 _ (by omega)) (oq1 _ (by omega)) (oq1 _ (by omega))
          refine xx_aload_n dX9_gets_48 rfl ?_
          refine xx_get xx_c9 dX9_gets_49 wf_X9_84 (j := 0) (by decide) hbq1 rfl ?_
          refine xx_if_le (tgt := 57) dX9_gets_52 (by decide) (fun h => absurd h (by decide)) (fun j52 => ?_)
          refine xx_iconst (v := 0) dX9_gets_55 (by decide) ?_
          exact xx_iret dX9_gets_56 rfl ⟨by omega, (fun q a0 a1 a2 a3 a4 a5 => (oq1 q a0).trans (oq0 q a1 a2 a3 a4 a5)), Or.inr (Or.inr ⟨hS, fun h => by obtain ⟨p9, a9, b9, c9⟩ := h; rcases c9 with c9 | c9; exact j28 c9; exact hq9 ⟨p9, a9, b9, c9⟩, rfl, ⟨Nq0, hNq1, ns0⟩, hbq1⟩)⟩
    · have hin : xx_inn xp 0 1 = 0 := xx_inn0 (k := 1) (by decide) hPp
      refine xx_callS (N := mX9_in) (vs := [.int xp, .int 0, .int 1]) (rest := [.ref b]) (d2 := 0) (c2 := 0) (s2 := 0) (c3 := 0) (s3 := 0) dX9_gets_20 wm_X9_116 ws_X9_in wz_X9 (by decide) nX9_in ⟨pX9_in, Nat.le_of_ble_eq_true rfl, by decide, Nat.le_of_ble_eq_true rfl, by decide, by decide⟩ c_X9_in (fun v9 B9 hC => ?_) (fun E9 B9 hC => absurd hC.1 (by simp))
      obtain ⟨hv9, e9⟩ := hC
      cases hv9
      rw [e9]
      refine xx_cst (st2 := [.int 0, .ref b]) (by rw [hin]; rfl) ?_
      refine xx_if_eq (tgt := 40) dX9_gets_23 (by decide) (fun j23 => ?_) (fun h => absurd (by decide) h)
      refine xx_iconst (v := 2) dX9_gets_40 (by decide) ?_
      refine xx_goto (tgt := 45) dX9_gets_41 (by decide) ?_
      refine xx_put xx_c9 dX9_gets_45 wf_X9_84 (j := 0) (by decide) rfl rfl rfl hb0 (Nat.le_of_ble_eq_true rfl) (xx_gu fun Eq1 zq1 hbq1 oq1 => ?_)
      have hbq1 : Eq1.2 b = xx_o 9 (xx_mf b (.int 2) (.int (nI m)) (.int (nI n)) hr st hl en tu) := hbq1
      have hNq1 : xx_rw Eq1 b Nq0 := hNq0.to (oq1 _ (by omega)) (oq1 _ (by omega)) (oq1 _ (by omega)) (oq1 _ (by omega)) (oq1 _ (by omega))
      refine xx_aload_n dX9_gets_48 rfl ?_
      refine xx_get xx_c9 dX9_gets_49 wf_X9_84 (j := 0) (by decide) hbq1 rfl ?_
      refine xx_if_le (tgt := 57) dX9_gets_52 (by decide) (fun h => absurd h (by decide)) (fun j52 => ?_)
      refine xx_iconst (v := 0) dX9_gets_55 (by decide) ?_
      exact xx_iret dX9_gets_56 rfl ⟨by omega, (fun q a0 a1 a2 a3 a4 a5 => (oq1 q a0).trans (oq0 q a1 a2 a3 a4 a5)), Or.inr (Or.inr ⟨hS, fun h => hPp (by obtain ⟨p9, a9, b9, _⟩ := h; exact ⟨p9, a9, b9⟩), rfl, ⟨Nq0, hNq1, ns0⟩, hbq1⟩)⟩
  · cases hv9
    refine xx_cst (st2 := [.int (-1)]) rfl ?_
    refine xx_istore dX9_gets_5 (by decide) ?_
    refine xx_clv (lv2 := [(0, .ref b), (1, .int x), (2, .int xp), (3, .int xr), (4, .int (-1))]) rfl ?_
    refine xx_aload_n dX9_gets_7 rfl ?_
    refine xx_iload dX9_gets_8 rfl ?_
    refine xx_if_ge (tgt := 17) dX9_gets_10 (by decide) (fun h => absurd h (by decide)) (fun j10 => ?_)
    refine xx_iconst (v := 1) dX9_gets_13 (by decide) ?_
    refine xx_goto (tgt := 45) dX9_gets_14 (by decide) ?_
    refine xx_put xx_c9 dX9_gets_45 wf_X9_84 (j := 0) (by decide) rfl rfl rfl hb0 (Nat.le_of_ble_eq_true rfl) (xx_gu fun Eq1 zq1 hbq1 oq1 => ?_)
    have hbq1 : Eq1.2 b = xx_o 9 (xx_mf b (.int 1) (.int (nI m)) (.int (nI n)) hr st hl en tu) := hbq1
    have hNq1 : xx_rw Eq1 b Nq0 := hNq0.to (oq1 _ (by omega)) (oq1 _ (by omega)) (oq1 _ (by omega)) (oq1 _ (by omega)) (oq1 _ (by omega))
    refine xx_aload_n dX9_gets_48 rfl ?_
    refine xx_get xx_c9 dX9_gets_49 wf_X9_84 (j := 0) (by decide) hbq1 rfl ?_
    refine xx_if_le (tgt := 57) dX9_gets_52 (by decide) (fun h => absurd h (by decide)) (fun j52 => ?_)
    refine xx_iconst (v := 0) dX9_gets_55 (by decide) ?_
    exact xx_iret dX9_gets_56 rfl ⟨by omega, (fun q a0 a1 a2 a3 a4 a5 => (oq1 q a0).trans (oq0 q a1 a2 a3 a4 a5)), Or.inr (Or.inl ⟨hS, rfl, ⟨Nq0, hNq1, ns0⟩, hbq1⟩)⟩
theorem ye_m_b {V : Nat → Int} {K : Nat} : ∀ {i : Nat}, (∀ k, k ≤ i → (V k).natAbs < K) → (ye_m V i).natAbs < K
  | 0, h => h 0 (Nat.le_refl _)
  | i + 1, h => by
    show (if ye_m V i < V (i + 1) then V (i + 1) else ye_m V i).natAbs < K
    split
    · exact h (i + 1) (Nat.le_refl _)
    · exact ye_m_b (fun k hk => h k (by omega))
theorem yy_p39e {v : Int} (h : v.natAbs ≤ 2 ^ 419) : v.natAbs < 65536 ^ 39 := Nat.lt_of_le_of_lt h (by decide +kernel)
set_option maxRecDepth 100000 in
theorem c_X9_replies {G : xx_G} {l : Launch} {A : xx_H} {b : Nat} {th hr st hl en tu : Value} {m n : Nat} {S : Prop} {N : Nat → Int} {X : Nat → Nat → Int} {t : Nat → Int} {w : Nat} {x xp : Int32} {W : Nat → Nat → Nat → Int} {le : Nat → Int} {mu : Nat → Nat} (hb : A.2 b = xx_o 9 (xx_mf b th (.int (nI m)) (.int (nI n)) hr st hl en tu)) (hm1 : 1 ≤ m) (hm : m ≤ 6) (hn1 : 1 ≤ n) (hn : n ≤ 6)  (hplace : xx_X G l mX9_placeOf 5 0 0 0 (lv_args 0 [.ref b, .int x]) [] A (fun z B => B.1 = A.1 ∧ (∃ N2, xx_rw B b N2 ∧ xx_ns N2 N ∧ ((S ∧ z = .inl (some (.int (nI w))) ∧ xx_pl N2 w X t) ∨ (¬ S ∧ z = .inl (some (.int (-1)))))) ∧ ∀ q, q ≠ b + 1 → q ≠ b + 2 → q ≠ b + 3 → q ≠ b + 17 → q ≠ b + 18 → B.2 q = A.2 q)) (hw : 300 ≤ w) (hw2 : w + 14 ≤ 1740) (ht : ∀ q, q < 2 → 0 < t q ∧ (t q).natAbs < 2 ^ 195) (hP : xx_rp A b m n W le mu) (hmu : ∀ p, p < 2 → mu p ≤ 27720 ∧ 0 < mu p) (hX : ∀ q, q < 2 → ∀ k, k < 6 → (X q k).natAbs < 2 ^ 192) : xx_X G l mX9_replies 6 0 0 0 (lv_args 0 [.ref b, .int x, .int xp]) [] A (fun z B => B.1 = A.1 ∧ (∀ q, q ≠ b → q ≠ b + 1 → q ≠ b + 2 → q ≠ b + 3 → q ≠ b + 17 → q ≠ b + 18 → B.2 q = A.2 q) ∧ ((S ∧ (∃ p, p < 2 ∧ xp = nI p ∧ z = .inl (some (.int (nI (ye_b (ye_v m n W X p) (yy_cn m n p - 1))))) ∧ ∃ N2, xx_rw B b N2 ∧ xx_nh N2 N ∧ N2 16 = yf_n (ye_m (ye_v m n W X p) (yy_cn m n p - 1) * t p - ye_o m n W X p (yy_cn m n p)) ((mu p : Int) * t 0 * t 1) ∧ N2 17 = yf_d (ye_m (ye_v m n W X p) (yy_cn m n p - 1) * t p - ye_o m n W X p (yy_cn m n p)) ((mu p : Int) * t 0 * t 1)) ∧ B.2 b = xx_o 9 (xx_mf b (.int 0) (.int (nI m)) (.int (nI n)) hr st hl en tu)) ∨ (¬ S ∧ z = .inl (some (.int 0)) ∧ (∃ N2, xx_rw B b N2 ∧ xx_ns N2 N) ∧ B.2 b = xx_o 9 (xx_mf b (.int 1) (.int (nI m)) (.int (nI n)) hr st hl en tu)) ∨ (S ∧ ¬ yy_in xp 2 ∧ z = .inl (some (.int 0)) ∧ (∃ N2, xx_rw B b N2 ∧ xx_ns N2 N) ∧ B.2 b = xx_o 9 (xx_mf b (.int 2) (.int (nI m)) (.int (nI n)) hr st hl en tu)))) := by
  refine xx_clv (lv2 := [(0, .ref b), (1, .int x), (2, .int xp)]) rfl ?_
  refine xx_aload_n dX9_replies_0 rfl ?_
  refine xx_iload_n dX9_replies_1 rfl ?_
  refine xx_callV (N := mX9_placeOf) (vs := [.int x]) (b := b) (rest := []) (d2 := 5) (c2 := 0) (s2 := 0) (c3 := 0) (s3 := 0) dX9_replies_2 wm_X9_184 wi_X9_placeOf wv_X9_placeOf (k := 9) rfl (by decide) hb nX9_placeOf ⟨pX9_placeOf, Nat.le_of_ble_eq_true rfl, by decide, Nat.le_of_ble_eq_true rfl, by decide, by decide⟩ hplace (fun v9 Eq0 hC => ?_) (fun E9 B9 hC => by obtain ⟨_, ⟨_, _, _, ⟨_, h, _⟩ | ⟨_, h⟩⟩, _⟩ := hC <;> cases h)
  obtain ⟨zq0, ⟨Nq0, hNq0, ns0, hC⟩, oq0⟩ := hC
  have hb0 := (oq0 b (by omega) (by omega) (by omega) (by omega) (by omega)).trans hb
  rcases hC with ⟨hS, hv9, hL⟩ | ⟨hS, hv9⟩
  · cases hv9
    refine xx_cst (st2 := [.int (nI w)]) rfl ?_
    refine xx_istore_n dX9_replies_5 (by decide) ?_
    refine xx_clv (lv2 := [(0, .ref b), (1, .int x), (2, .int xp), (3, .int (nI w))]) rfl ?_
    refine xx_aload_n dX9_replies_6 rfl ?_
    refine xx_iload_n dX9_replies_7 rfl ?_
    refine xx_if_ge (tgt := 15) dX9_replies_8 (by decide) (fun j8 => ?_) (fun h => absurd ((nI_leI (a := 0) (b := w) (by decide) (by omega)).mpr (Nat.zero_le _)) h)
    refine xx_iload_n dX9_replies_15 rfl ?_
    refine xx_iconst (v := 0) dX9_replies_16 (by decide) ?_
    refine xx_iconst (v := 1) dX9_replies_17 (by decide) ?_
    by_cases hPp : yy_in xp 2
    · have hin : xx_inn xp 0 1 = 1 := xx_inn1 (k := 1) (by decide) hPp
      refine xx_callS (N := mX9_in) (vs := [.int xp, .int 0, .int 1]) (rest := [.ref b]) (d2 := 0) (c2 := 0) (s2 := 0) (c3 := 0) (s3 := 0) dX9_replies_18 wm_X9_116 ws_X9_in wz_X9 (by decide) nX9_in ⟨pX9_in, Nat.le_of_ble_eq_true rfl, by decide, Nat.le_of_ble_eq_true rfl, by decide, by decide⟩ c_X9_in (fun v9 B9 hC => ?_) (fun E9 B9 hC => absurd hC.1 (by simp))
      obtain ⟨hv9, e9⟩ := hC
      cases hv9
      rw [e9]
      refine xx_cst (st2 := [.int 1, .ref b]) (by rw [hin]; rfl) ?_
      obtain ⟨p, hp, ep⟩ := id hPp
      subst ep
      refine xx_clv (lv2 := [(0, .ref b), (1, .int x), (2, .int (nI p)), (3, .int (nI w))]) rfl ?_
      refine xx_if_ne (tgt := 28) dX9_replies_21 (by decide) (fun j21 => ?_) (fun h => absurd h (by decide))
      refine xx_iconst (v := 0) dX9_replies_28 (by decide) ?_
      refine xx_put xx_c9 dX9_replies_29 wf_X9_84 (j := 0) (by decide) rfl rfl rfl hb0 (Nat.le_of_ble_eq_true rfl) (xx_gu fun Eq1 zq1 hbq1 oq1 => ?_)
      have hbq1 : Eq1.2 b = xx_o 9 (xx_mf b (.int 0) (.int (nI m)) (.int (nI n)) hr st hl en tu) := hbq1
      have hNq1 : xx_rw Eq1 b Nq0 := hNq0.to (oq1 _ (by omega)) (oq1 _ (by omega)) (oq1 _ (by omega)) (oq1 _ (by omega)) (oq1 _ (by omega))
      have c6 := yy_cn6 (p := p) hm hn
      have c1 : 1 ≤ yy_cn m n p := by unfold yy_cn; split <;> assumption
      have hP1 : xx_rp Eq1 b m n W le mu := hP.to (((oq1 (b + 14) (by omega)).trans (oq0 (b + 14) (by omega) (by omega) (by omega) (by omega) (by omega)))) (((oq1 (b + 15) (by omega)).trans (oq0 (b + 15) (by omega) (by omega) (by omega) (by omega) (by omega)))) (((oq1 (b + 16) (by omega)).trans (oq0 (b + 16) (by omega) (by omega) (by omega) (by omega) (by omega))))
      have wo := yo_w_r (p := p) hP hp
      refine xx_aload_n dX9_replies_32 rfl ?_
      refine xx_get xx_c9 dX9_replies_33 wf_X9_84 (j := 0) (by decide) hbq1 rfl ?_
      refine xx_if_le (tgt := 41) dX9_replies_36 (by decide) (fun j36 => ?_) (fun h => absurd (by decide) h)
      refine xx_aload_n dX9_replies_41 rfl ?_
      refine xx_iload_n dX9_replies_42 rfl ?_
      refine xx_iload_n dX9_replies_43 rfl ?_
      refine xx_callV (N := mX9_best) (vs := [.int (nI w), .int (nI p)]) (b := b) (rest := []) (d2 := 4) (c2 := 0) (s2 := 0) (c3 := 0) (s3 := 0) dX9_replies_44 wm_X9_196 wi_X9_best wv_X9_best (k := 9) rfl (by decide) hbq1 nX9_best ⟨pX9_best, Nat.le_of_ble_eq_true rfl, by decide, Nat.le_of_ble_eq_true rfl, by decide, by decide⟩ (c_X9_best (p := p) hbq1 hP1 hm hn hw hw2 hL hX hNq1 hp c1) (fun v9 Eq2 hC => ?_) (fun E9 B9 hC => absurd hC.1 (by simp))
      obtain ⟨hv9, zq2, ⟨Nq2, hNq2, vq2, fq2⟩, oq2⟩ := hC
      cases hv9
      refine xx_cst (st2 := [.int (nI (ye_b (ye_v m n W X p) (yy_cn m n p - 1)))]) rfl ?_
      have hbq2 := (oq2 b (by omega) (by omega) (by omega) (by omega) (by omega)).trans hbq1
      have hL2 : xx_pl Nq2 w X t := hL.to (fun q9 a9 b9 => fq2 q9 (by omega) (by omega) (by omega) (by omega) (by omega))
      obtain ⟨bits, hbits⟩ : ∃ a, a = ye_b (ye_v m n W X p) (yy_cn m n p - 1) := ⟨_, rfl⟩
      rw [← hbits]
      refine xx_istore dX9_replies_47 (by decide) ?_
      refine xx_clv (lv2 := [(0, .ref b), (1, .int x), (2, .int (nI p)), (3, .int (nI w)), (4, .int (nI bits))]) rfl ?_
      refine xx_aload_n dX9_replies_49 rfl ?_
      refine xx_bipush (v := 24) dX9_replies_50 (by decide) ?_
      refine xx_iload_n dX9_replies_52 rfl ?_
      refine xx_bipush (v := 12) dX9_replies_53 (by decide) ?_
      refine xx_iadd dX9_replies_55 ?_
      refine xx_eqi (y := nI (w + 12)) (nI_add w 12) ?_
      refine xx_iload_n dX9_replies_56 rfl ?_
      refine xx_iadd dX9_replies_57 ?_
      refine xx_eqi (y := nI (w + 12 + p)) (nI_add (w + 12) p) ?_
      refine xx_bipush (v := 23) dX9_replies_58 (by decide) ?_
      have mb : (ye_m (ye_v m n W X p) (yy_cn m n p - 1)).natAbs < 2 ^ 224 := ye_m_b (fun k hk => ye_v_b hm hn hp (by omega) wo hX)
      have x4 : Nq2 (w + 12 + p) = t p := hL2.2 p hp
      refine xx_callV (N := mX9_times) (vs := [.int 24, .int (nI (w + 12 + p)), .int 23]) (b := b) (rest := []) (d2 := 1) (c2 := 0) (s2 := 0) (c3 := 0) (s3 := 0) dX9_replies_60 wm_X9_104 wi_X9_times wv_X9_times (k := 9) rfl (by decide) hbq2 nX9_times ⟨pX9_times, Nat.le_of_ble_eq_true rfl, by decide, Nat.le_of_ble_eq_true rfl, by decide, by decide⟩ (w_X9_times hbq2 hNq2 (x := 24) (y := w + 12 + p) (c := 23) (p := 15) (q := 25) (by omega) (by omega) (by omega) (by omega) (by omega) (by decide) (by rw [vq2]; exact yy_p15 mb) (by rw [x4]; exact yy_p25 (ht p hp).2)) (fun v9 Eq3 hC => ?_) (fun E9 B9 hC => absurd hC.1 (by simp))
      obtain ⟨hv9, zq3, ⟨Nq3, hNq3, vq3, fq3⟩, oq3⟩ := hC
      cases hv9
      refine xx_cst (st2 := []) rfl ?_
      have hbq3 := (oq3 b (by omega) (by omega) (by omega) (by omega) (by omega)).trans hbq2
      have x5 : Nq3 23 = ye_m (ye_v m n W X p) (yy_cn m n p - 1) * t p := by rw [vq3, vq2, x4]
      have hL3 : xx_pl Nq3 w X t := hL2.to (fun q9 a9 b9 => fq3 q9 (by omega))
      have hP3 : xx_rp Eq3 b m n W le mu := hP.to (((oq3 (b + 14) (by omega) (by omega) (by omega) (by omega) (by omega)).trans ((oq2 (b + 14) (by omega) (by omega) (by omega) (by omega) (by omega)).trans ((oq1 (b + 14) (by omega)).trans (oq0 (b + 14) (by omega) (by omega) (by omega) (by omega) (by omega)))))) (((oq3 (b + 15) (by omega) (by omega) (by omega) (by omega) (by omega)).trans ((oq2 (b + 15) (by omega) (by omega) (by omega) (by omega) (by omega)).trans ((oq1 (b + 15) (by omega)).trans (oq0 (b + 15) (by omega) (by omega) (by omega) (by omega) (by omega)))))) (((oq3 (b + 16) (by omega) (by omega) (by omega) (by omega) (by omega)).trans ((oq2 (b + 16) (by omega) (by omega) (by omega) (by omega) (by omega)).trans ((oq1 (b + 16) (by omega)).trans (oq0 (b + 16) (by omega) (by omega) (by omega) (by omega) (by omega))))))
      refine xx_aload_n dX9_replies_63 rfl ?_
      refine xx_iload_n dX9_replies_64 rfl ?_
      refine xx_iload_n dX9_replies_65 rfl ?_
      refine xx_bipush (v := 25) dX9_replies_66 (by decide) ?_
      refine xx_callV (N := mX9_ownGets) (vs := [.int (nI w), .int (nI p), .int 25]) (b := b) (rest := []) (d2 := 4) (c2 := 0) (s2 := 0) (c3 := 0) (s3 := 0) dX9_replies_68 wm_X9_193 wi_X9_ownGets wv_X9_ownGets (k := 9) rfl (by decide) hbq3 nX9_ownGets ⟨pX9_ownGets, Nat.le_of_ble_eq_true rfl, by decide, Nat.le_of_ble_eq_true rfl, by decide, by decide⟩ (c_X9_ownGets (p := p) (to9 := 25) hbq3 hP3 hm hn hw hw2 hL3 hX hNq3 hp (by decide) (by decide)) (fun v9 Eq4 hC => ?_) (fun E9 B9 hC => absurd hC.1 (by simp))
      obtain ⟨hv9, zq4, ⟨Nq4, hNq4, vq4, fq4⟩, oq4⟩ := hC
      cases hv9
      refine xx_cst (st2 := []) rfl ?_
      have hbq4 := (oq4 b (by omega) (by omega) (by omega) (by omega) (by omega)).trans hbq3
      have x6 : Nq4 23 = ye_m (ye_v m n W X p) (yy_cn m n p - 1) * t p := (fq4 _ (by decide) (by decide) (by decide) (by decide) (by decide) (by decide)).trans x5
      have hL4 : xx_pl Nq4 w X t := hL3.to (fun q9 a9 b9 => fq4 q9 (by omega) (by omega) (by omega) (by omega) (by omega) (by omega))
      refine xx_aload_n dX9_replies_71 rfl ?_
      refine xx_bipush (v := 23) dX9_replies_72 (by decide) ?_
      refine xx_bipush (v := 25) dX9_replies_74 (by decide) ?_
      refine xx_iconst (v := 1) dX9_replies_76 (by decide) ?_
      refine xx_bipush (v := 22) dX9_replies_77 (by decide) ?_
      have ob : (ye_o m n W X p (yy_cn m n p)).natAbs < 2 ^ 419 := ye_s_b c6 (fun k hk => ye_p_b (ye_v_b hm hn hp hk wo hX) (hX p hp k (by omega)))
      refine xx_cst (st2 := [.int 22, .int (if true then 1 else 0), .int 25, .int 23, .ref b]) rfl ?_
      refine xx_callV (N := mX9_add) (vs := [.int 23, .int 25, .int (if true then 1 else 0), .int 22]) (b := b) (rest := []) (d2 := 2) (c2 := 0) (s2 := 0) (c3 := 0) (s3 := 0) dX9_replies_79 wm_X9_108 wi_X9_add wv_X9_add (k := 9) rfl (by decide) hbq4 nX9_add ⟨pX9_add, Nat.le_of_ble_eq_true rfl, by decide, Nat.le_of_ble_eq_true rfl, by decide, by decide⟩ (w_X9_add hbq4 hNq4 (x := 23) (y := 25) (c := 22) (mn := true) (by omega) (by omega) (by omega) (by rw [x6]; exact yy_p39e (ye_w_b mb (ht p hp).2)) (by rw [vq4]; exact yy_p39d ob)) (fun v9 Eq5 hC => ?_) (fun E9 B9 hC => absurd hC.1 (by simp))
      obtain ⟨hv9, zq5, ⟨Nq5, hNq5, vq5, fq5⟩, oq5⟩ := hC
      cases hv9
      refine xx_cst (st2 := []) rfl ?_
      have hbq5 := (oq5 b (by omega) (by omega) (by omega) (by omega) (by omega)).trans hbq4
      have x7 : Nq5 22 = ye_m (ye_v m n W X p) (yy_cn m n p - 1) * t p - ye_o m n W X p (yy_cn m n p) := by rw [vq5, x6, vq4]; exact Int.sub_eq_add_neg.symm
      refine xx_aload_n dX9_replies_82 rfl ?_
      refine xx_bipush (v := 10) dX9_replies_83 (by decide) ?_
      refine xx_aload_n dX9_replies_85 rfl ?_
      refine xx_get xx_c9 dX9_replies_86 wf_X9_55 (j := 20) (by decide) hbq5 rfl ?_
      refine xx_iload_n dX9_replies_89 rfl ?_
      obtain ⟨_, _, ⟨mf9, m1, m2⟩, _⟩ := id hP
      obtain ⟨mu1, mu2⟩ := hmu p hp
      refine xx_lald dX9_replies_90 (((oq5 (b + 14) (by omega) (by omega) (by omega) (by omega) (by omega)).trans ((oq4 (b + 14) (by omega) (by omega) (by omega) (by omega) (by omega)).trans ((oq3 (b + 14) (by omega) (by omega) (by omega) (by omega) (by omega)).trans ((oq2 (b + 14) (by omega) (by omega) (by omega) (by omega) (by omega)).trans ((oq1 (b + 14) (by omega)).trans (oq0 (b + 14) (by omega) (by omega) (by omega) (by omega) (by omega))))))).trans m1) (vp_in_nI (by omega) (by decide)) ?_
      refine xx_eql (y := lz (mu p : Int)) (by rw [nI_clamp (by omega)]; exact m2 p hp) ?_
      refine xx_callV (N := mX9_set) (vs := [.int 10, .long (lz (mu p : Int))]) (b := b) (rest := []) (d2 := 0) (c2 := 0) (s2 := 0) (c3 := 0) (s3 := 0) dX9_replies_91 wm_X9_80 wi_X9_set wv_X9_set (k := 9) rfl (by decide) hbq5 nX9_set ⟨pX9_set, Nat.le_of_ble_eq_true rfl, by decide, Nat.le_of_ble_eq_true rfl, by decide, by decide⟩ (w_X9_set hbq5 hNq5 (a := 10) (v := (mu p : Int)) (by omega) (by omega) (by omega)) (fun v9 Eq6 hC => ?_) (fun E9 B9 hC => absurd hC.1 (by simp))
      obtain ⟨hv9, zq6, ⟨Nq6, hNq6, vq6, fq6⟩, oq6⟩ := hC
      cases hv9
      refine xx_cst (st2 := []) rfl ?_
      have hbq6 := (oq6 b (by omega) (by omega) (by omega) (by omega) (by omega)).trans hbq5
      refine xx_aload_n dX9_replies_94 rfl ?_
      refine xx_bipush (v := 10) dX9_replies_95 (by decide) ?_
      refine xx_iload_n dX9_replies_97 rfl ?_
      refine xx_bipush (v := 12) dX9_replies_98 (by decide) ?_
      refine xx_iadd dX9_replies_100 ?_
      refine xx_eqi (y := nI (w + 12)) (nI_add w 12) ?_
      refine xx_bipush (v := 20) dX9_replies_101 (by decide) ?_
      have t0 : Nq6 (w + 12 + 0) = t 0 := (fq6 _ (by omega)).trans ((fq5 _ (by omega)).trans (hL4.2 0 (by decide)))
      refine xx_callV (N := mX9_times) (vs := [.int 10, .int (nI (w + 12)), .int 20]) (b := b) (rest := []) (d2 := 1) (c2 := 0) (s2 := 0) (c3 := 0) (s3 := 0) dX9_replies_103 wm_X9_104 wi_X9_times wv_X9_times (k := 9) rfl (by decide) hbq6 nX9_times ⟨pX9_times, Nat.le_of_ble_eq_true rfl, by decide, Nat.le_of_ble_eq_true rfl, by decide, by decide⟩ (w_X9_times hbq6 hNq6 (x := 10) (y := w + 12) (c := 20) (p := 2) (q := 38) (by omega) (by omega) (by omega) (by omega) (by omega) (by decide) (by rw [vq6]; exact yy_p2m mu1) (by rw [show w + 12 = w + 12 + 0 from rfl, t0]; exact yy_p38t (ht 0 (by decide)).2)) (fun v9 Eq7 hC => ?_) (fun E9 B9 hC => absurd hC.1 (by simp))
      obtain ⟨hv9, zq7, ⟨Nq7, hNq7, vq7, fq7⟩, oq7⟩ := hC
      cases hv9
      refine xx_cst (st2 := []) rfl ?_
      have hbq7 := (oq7 b (by omega) (by omega) (by omega) (by omega) (by omega)).trans hbq6
      have x8 : Nq7 20 = (mu p : Int) * t 0 := by rw [vq7, vq6]; exact congrArg _ t0
      refine xx_aload_n dX9_replies_106 rfl ?_
      refine xx_bipush (v := 20) dX9_replies_107 (by decide) ?_
      refine xx_iload_n dX9_replies_109 rfl ?_
      refine xx_bipush (v := 13) dX9_replies_110 (by decide) ?_
      refine xx_iadd dX9_replies_112 ?_
      refine xx_eqi (y := nI (w + 13)) (nI_add w 13) ?_
      refine xx_bipush (v := 21) dX9_replies_113 (by decide) ?_
      have t1 : Nq7 (w + 13) = t 1 := (fq7 _ (by omega)).trans ((fq6 _ (by omega)).trans ((fq5 _ (by omega)).trans (hL4.2 1 (by decide))))
      refine xx_callV (N := mX9_times) (vs := [.int 20, .int (nI (w + 13)), .int 21]) (b := b) (rest := []) (d2 := 1) (c2 := 0) (s2 := 0) (c3 := 0) (s3 := 0) dX9_replies_115 wm_X9_104 wi_X9_times wv_X9_times (k := 9) rfl (by decide) hbq7 nX9_times ⟨pX9_times, Nat.le_of_ble_eq_true rfl, by decide, Nat.le_of_ble_eq_true rfl, by decide, by decide⟩ (w_X9_times hbq7 hNq7 (x := 20) (y := w + 13) (c := 21) (p := 15) (q := 25) (by omega) (by omega) (by omega) (by omega) (by omega) (by decide) (by rw [x8]; exact yy_p14 (yb_t1 mu1 (ht 0 (by decide)).2)) (by rw [t1]; exact yy_p25 (ht 1 (by decide)).2)) (fun v9 Eq8 hC => ?_) (fun E9 B9 hC => absurd hC.1 (by simp))
      obtain ⟨hv9, zq8, ⟨Nq8, hNq8, vq8, fq8⟩, oq8⟩ := hC
      cases hv9
      refine xx_cst (st2 := []) rfl ?_
      have hbq8 := (oq8 b (by omega) (by omega) (by omega) (by omega) (by omega)).trans hbq7
      have x9 : Nq8 21 = (mu p : Int) * t 0 * t 1 := by rw [vq8, x8, t1]
      have xa : Nq8 22 = ye_m (ye_v m n W X p) (yy_cn m n p - 1) * t p - ye_o m n W X p (yy_cn m n p) := (fq8 _ (by decide)).trans ((fq7 _ (by decide)).trans ((fq6 _ (by decide)).trans x7))
      refine xx_aload_n dX9_replies_118 rfl ?_
      refine xx_bipush (v := 22) dX9_replies_119 (by decide) ?_
      refine xx_bipush (v := 21) dX9_replies_121 (by decide) ?_
      refine xx_callV (N := mX9_toHand) (vs := [.int 22, .int 21]) (b := b) (rest := []) (d2 := 2) (c2 := 0) (s2 := 0) (c3 := 0) (s3 := 0) dX9_replies_123 wm_X9_187 wi_X9_toHand wv_X9_toHand (k := 9) rfl (by decide) hbq8 nX9_toHand ⟨pX9_toHand, Nat.le_of_ble_eq_true rfl, by decide, Nat.le_of_ble_eq_true rfl, by decide, by decide⟩ (c_X9_toHand hbq8 hNq8 (x := 22) (y := 21) (by omega) (by omega) (by omega) (by omega) (by rw [x9]; exact Int.mul_pos (Int.mul_pos (by omega) (ht 0 (by decide)).1) (ht 1 (by decide)).1)) (fun v9 Eq9 hC => ?_) (fun E9 B9 hC => absurd hC.1 (by simp))
      obtain ⟨hv9, zq9, ⟨Nq9, hNq9, v16, v17, fq9⟩, oq9⟩ := hC
      cases hv9
      refine xx_cst (st2 := [.int (iz (ye_m (ye_v m n W X p) (yy_cn m n p - 1) * t p - ye_o m n W X p (yy_cn m n p)).sign)]) (by rw [xa]; rfl) ?_
      rw [xa, x9] at v16 v17
      have hbq9 := (oq9 b (by omega) (by omega) (by omega) (by omega) (by omega)).trans hbq8
      refine xx_istore dX9_replies_126 (by decide) ?_
      refine xx_clv (lv2 := [(0, .ref b), (1, .int x), (2, .int (nI p)), (3, .int (nI w)), (4, .int (nI bits)), (5, .int (iz (ye_m (ye_v m n W X p) (yy_cn m n p - 1) * t p - ye_o m n W X p (yy_cn m n p)).sign))]) rfl ?_
      refine xx_iload dX9_replies_128 rfl ?_
      exact xx_iret dX9_replies_130 rfl ⟨by omega, (fun q a0 a1 a2 a3 a4 a5 => (oq9 q a1 a2 a3 a4 a5).trans ((oq8 q a1 a2 a3 a4 a5).trans ((oq7 q a1 a2 a3 a4 a5).trans ((oq6 q a1 a2 a3 a4 a5).trans ((oq5 q a1 a2 a3 a4 a5).trans ((oq4 q a1 a2 a3 a4 a5).trans ((oq3 q a1 a2 a3 a4 a5).trans ((oq2 q a1 a2 a3 a4 a5).trans ((oq1 q a0).trans (oq0 q a1 a2 a3 a4 a5)))))))))), Or.inl ⟨hS, ⟨p, hp, rfl, by rw [hbits], Nq9, hNq9, ns0.2.2.tr (fun q hq => (fq9 q (by omega) (by omega) (by omega)).trans ((fq8 q (by omega)).trans ((fq7 q (by omega)).trans ((fq6 q (by omega)).trans ((fq5 q (by omega)).trans ((fq4 q (by omega) (by omega) (by omega) (by omega) (by omega) (by omega)).trans ((fq3 q (by omega)).trans (fq2 q (by omega) (by omega) (by omega) (by omega) (by omega))))))))), v16, v17⟩, hbq9⟩⟩
    · have hin : xx_inn xp 0 1 = 0 := xx_inn0 (k := 1) (by decide) hPp
      refine xx_callS (N := mX9_in) (vs := [.int xp, .int 0, .int 1]) (rest := [.ref b]) (d2 := 0) (c2 := 0) (s2 := 0) (c3 := 0) (s3 := 0) dX9_replies_18 wm_X9_116 ws_X9_in wz_X9 (by decide) nX9_in ⟨pX9_in, Nat.le_of_ble_eq_true rfl, by decide, Nat.le_of_ble_eq_true rfl, by decide, by decide⟩ c_X9_in (fun v9 B9 hC => ?_) (fun E9 B9 hC => absurd hC.1 (by simp))
      obtain ⟨hv9, e9⟩ := hC
      cases hv9
      rw [e9]
      refine xx_cst (st2 := [.int 0, .ref b]) (by rw [hin]; rfl) ?_
      refine xx_if_ne (tgt := 28) dX9_replies_21 (by decide) (fun h => absurd rfl h) (fun j21 => ?_)
      refine xx_iconst (v := 2) dX9_replies_24 (by decide) ?_
      refine xx_goto (tgt := 29) dX9_replies_25 (by decide) ?_
      refine xx_put xx_c9 dX9_replies_29 wf_X9_84 (j := 0) (by decide) rfl rfl rfl hb0 (Nat.le_of_ble_eq_true rfl) (xx_gu fun Eq1 zq1 hbq1 oq1 => ?_)
      have hbq1 : Eq1.2 b = xx_o 9 (xx_mf b (.int 2) (.int (nI m)) (.int (nI n)) hr st hl en tu) := hbq1
      have hNq1 : xx_rw Eq1 b Nq0 := hNq0.to (oq1 _ (by omega)) (oq1 _ (by omega)) (oq1 _ (by omega)) (oq1 _ (by omega)) (oq1 _ (by omega))
      refine xx_aload_n dX9_replies_32 rfl ?_
      refine xx_get xx_c9 dX9_replies_33 wf_X9_84 (j := 0) (by decide) hbq1 rfl ?_
      refine xx_if_le (tgt := 41) dX9_replies_36 (by decide) (fun h => absurd h (by decide)) (fun j36 => ?_)
      refine xx_iconst (v := 0) dX9_replies_39 (by decide) ?_
      exact xx_iret dX9_replies_40 rfl ⟨by omega, (fun q a0 a1 a2 a3 a4 a5 => (oq1 q a0).trans (oq0 q a1 a2 a3 a4 a5)), Or.inr (Or.inr ⟨hS, hPp, rfl, ⟨Nq0, hNq1, ns0⟩, hbq1⟩)⟩
  · cases hv9
    refine xx_cst (st2 := [.int (-1)]) rfl ?_
    refine xx_istore_n dX9_replies_5 (by decide) ?_
    refine xx_clv (lv2 := [(0, .ref b), (1, .int x), (2, .int xp), (3, .int (-1))]) rfl ?_
    refine xx_aload_n dX9_replies_6 rfl ?_
    refine xx_iload_n dX9_replies_7 rfl ?_
    refine xx_if_ge (tgt := 15) dX9_replies_8 (by decide) (fun h => absurd h (by decide)) (fun j8 => ?_)
    refine xx_iconst (v := 1) dX9_replies_11 (by decide) ?_
    refine xx_goto (tgt := 29) dX9_replies_12 (by decide) ?_
    refine xx_put xx_c9 dX9_replies_29 wf_X9_84 (j := 0) (by decide) rfl rfl rfl hb0 (Nat.le_of_ble_eq_true rfl) (xx_gu fun Eq1 zq1 hbq1 oq1 => ?_)
    have hbq1 : Eq1.2 b = xx_o 9 (xx_mf b (.int 1) (.int (nI m)) (.int (nI n)) hr st hl en tu) := hbq1
    have hNq1 : xx_rw Eq1 b Nq0 := hNq0.to (oq1 _ (by omega)) (oq1 _ (by omega)) (oq1 _ (by omega)) (oq1 _ (by omega)) (oq1 _ (by omega))
    refine xx_aload_n dX9_replies_32 rfl ?_
    refine xx_get xx_c9 dX9_replies_33 wf_X9_84 (j := 0) (by decide) hbq1 rfl ?_
    refine xx_if_le (tgt := 41) dX9_replies_36 (by decide) (fun h => absurd h (by decide)) (fun j36 => ?_)
    refine xx_iconst (v := 0) dX9_replies_39 (by decide) ?_
    exact xx_iret dX9_replies_40 rfl ⟨by omega, (fun q a0 a1 a2 a3 a4 a5 => (oq1 q a0).trans (oq0 q a1 a2 a3 a4 a5)), Or.inr (Or.inl ⟨hS, rfl, ⟨Nq0, hNq1, ns0⟩, hbq1⟩)⟩
def ye_j (X : Nat → Int) (bits : Nat) (g : Bool) : Nat → Bool
  | 0 => g
  | i + 1 => ye_j X bits g i && (decide (¬ 0 < X i) || Nat.testBit bits i)
theorem ye_j_iff {X : Nat → Int} {bits : Nat} {g : Bool} : ∀ {i : Nat}, ye_j X bits g i = true ↔ (g = true ∧ ∀ k, k < i → 0 < X k → Nat.testBit bits k = true)
  | 0 => ⟨fun h => ⟨h, fun k hk => absurd hk (Nat.not_lt_zero k)⟩, fun h => h.1⟩
  | i + 1 => by
    show (ye_j X bits g i && (decide (¬ 0 < X i) || Nat.testBit bits i)) = true ↔ _
    rw [Bool.and_eq_true, Bool.or_eq_true, decide_eq_true_iff, ye_j_iff]
    constructor
    · rintro ⟨⟨h1, h2⟩, h3⟩
      refine ⟨h1, fun k hk h => ?_⟩
      by_cases e : k = i
      · subst e; exact h3.resolve_left (fun z => z h)
      · exact h2 k (by omega) h
    · rintro ⟨h1, h2⟩
      refine ⟨⟨h1, fun k hk h => h2 k (by omega) h⟩, ?_⟩
      by_cases z : 0 < X i
      · exact Or.inr (h2 i (by omega) z)
      · exact Or.inl z
theorem yy_sg0' {v : Int} (h : 0 ≤ v) : iz v.sign = 0 ↔ ¬ 0 < v := by
  rcases Int.lt_trichotomy v 0 with z | z | z
  · omega
  · rw [z]; exact ⟨fun _ => by omega, fun _ => by decide⟩
  · rw [Int.sign_eq_one_of_pos z]; exact ⟨fun q => absurd q (by decide), fun q => absurd z q⟩
set_option maxRecDepth 100000 in
theorem l_X9_ju {G : xx_G} {l : Launch} {A : xx_H} {b : Nat} {th hr st hl en tu : Value} {m n : Nat} {N : Nat → Int} {X : Nat → Nat → Int} {t : Nat → Int} {w p bits : Nat} {g : Bool} {Q : Option Value ⊕ String → xx_H → Prop} (hb : A.2 b = xx_o 9 (xx_mf b th (.int (nI m)) (.int (nI n)) hr st hl en tu)) (hN : xx_rw A b N) (hL : xx_pl N w X t) (hp : p < 2) (hw : 300 ≤ w) (hw2 : w + 14 ≤ 1740) (h64 : bits < 64) (hX0 : ∀ q, q < 2 → ∀ k, k < 6 → 0 ≤ X q k) (k : ∀ (B : xx_H), (B = A) → xx_X G l mX9_judge 6 0 0 103 [(0, .ref b), (2, .int (nI w)), (3, .int (if ye_j (X p) bits g 6 = true then 1 else 0)), (4, .int (nI p))] [] B Q) :
    ∀ (v i : Nat), i + v = 6 → ∀ (B : xx_H), (B = A) → xx_X G l mX9_judge 6 0 0 51 [(0, .ref b), (2, .int (nI w)), (3, .int (if ye_j (X p) bits g i = true then 1 else 0)), (4, .int (nI p)), (5, .int (nI bits)), (6, .int (nI i))] [] B Q := by
  obtain ⟨sg, sg1, sg2⟩ := hN.sg
  intro v
  induction v with
  | zero =>
    intro i h9i B y1
    have h9e : 6 = i := by omega
    subst h9e
    refine xx_clv (lv2 := [(0, .ref b), (2, .int (nI w)), (3, .int (if ye_j (X p) bits g 6 = true then 1 else 0)), (4, .int (nI p)), (5, .int (nI bits)), (6, .int 6)]) rfl ?_
    refine xx_iload dX9_judge_51 rfl ?_
    refine xx_bipush (v := 6) dX9_judge_53 (by decide) ?_
    refine xx_icmp_ge (tgt := 103) dX9_judge_55 (by decide) (fun j55 => ?_) (fun h => absurd (by decide) h)
    refine xx_less [0, 2, 3, 4] ?_
    refine xx_clv (lv2 := [(0, .ref b), (2, .int (nI w)), (3, .int (if ye_j (X p) bits g 6 = true then 1 else 0)), (4, .int (nI p))]) rfl ?_
    exact k B y1
  | succ v ih =>
    intro i h9i B y1
    rw [y1]
    refine xx_iload dX9_judge_51 rfl ?_
    refine xx_bipush (v := 6) dX9_judge_53 (by decide) ?_
    refine xx_icmp_ge (tgt := 103) dX9_judge_55 (by decide) (fun h => absurd h (nI_ge (a := i) (b := 6) (by omega) (by omega))) (fun j55 => ?_)
    by_cases gz : ye_j (X p) bits g i = true
    · refine xx_clv (lv2 := [(0, .ref b), (2, .int (nI w)), (3, .int 1), (4, .int (nI p)), (5, .int (nI bits)), (6, .int (nI i))]) (by rw [if_pos gz]) ?_
      refine xx_iload_n dX9_judge_58 rfl ?_
      refine xx_if_eq (tgt := 95) dX9_judge_59 (by decide) (fun h => absurd h (by decide)) (fun j59 => ?_)
      refine xx_aload_n dX9_judge_62 rfl ?_
      refine xx_get xx_c9 dX9_judge_63 wf_X9_17 (j := 3) (by decide) hb rfl ?_
      refine xx_iload_n dX9_judge_66 rfl ?_
      refine xx_bipush (v := 6) dX9_judge_67 (by decide) ?_
      refine xx_iload dX9_judge_69 rfl ?_
      refine xx_imul dX9_judge_71 ?_
      refine xx_eqi (y := nI (6 * p)) (pk_mul 6 p) ?_
      refine xx_iadd dX9_judge_72 ?_
      refine xx_eqi (y := nI (w + (6 * p))) (nI_add w (6 * p)) ?_
      refine xx_iload dX9_judge_73 rfl ?_
      refine xx_iadd dX9_judge_75 ?_
      refine xx_eqi (y := nI (w + (6 * p) + i)) (nI_add (w + (6 * p)) i) ?_
      refine xx_iald dX9_judge_76 sg1 (vp_in_nI (by omega) (by decide)) ?_
      refine xx_eqi (y := iz (X p i).sign) (by rw [nI_clamp (by omega), sg2 _ (by omega), hL.1 p hp i (by omega)]) ?_
      refine xx_if_eq (tgt := 91) dX9_judge_77 (by decide) (fun j77 => ?_) (fun j77 => ?_)
      · refine xx_iconst (v := 1) dX9_judge_91 (by decide) ?_
        refine xx_goto (tgt := 96) dX9_judge_92 (by decide) ?_
        refine xx_istore_n dX9_judge_96 (by decide) ?_
        refine xx_clv (lv2 := [(0, .ref b), (2, .int (nI w)), (3, .int 1), (4, .int (nI p)), (5, .int (nI bits)), (6, .int (nI i))]) rfl ?_
        refine xx_clv (lv2 := [(0, .ref b), (2, .int (nI w)), (3, .int (if ye_j (X p) bits g (i + 1) = true then 1 else 0)), (4, .int (nI p)), (5, .int (nI bits)), (6, .int (nI i))]) (by rw [if_pos (show ye_j (X p) bits g (i + 1) = true by show (ye_j (X p) bits g i && (decide (¬ 0 < X p i) || Nat.testBit bits i)) = true; rw [gz, decide_eq_true ((yy_sg0' (hX0 p hp i (by omega))).mp j77)]; rfl)]) ?_
        refine xx_iinc (v := nI (i + 1)) dX9_judge_97 rfl (nI_1 i) (by decide) ?_
        refine xx_clv (lv2 := [(0, .ref b), (2, .int (nI w)), (3, .int (if ye_j (X p) bits g (i + 1) = true then 1 else 0)), (4, .int (nI p)), (5, .int (nI bits)), (6, .int (nI (i + 1)))]) rfl ?_
        refine xx_goto (tgt := 51) dX9_judge_100 (by decide) ?_
        refine xx_less [0, 2, 3, 4, 5, 6] ?_
        refine xx_clv (lv2 := [(0, .ref b), (2, .int (nI w)), (3, .int (if ye_j (X p) bits g (i + 1) = true then 1 else 0)), (4, .int (nI p)), (5, .int (nI bits)), (6, .int (nI (i + 1)))]) rfl ?_
        refine ih (i + 1) (by omega) A rfl
      · refine xx_iload dX9_judge_80 rfl ?_
        refine xx_iload dX9_judge_82 rfl ?_
        refine xx_ishr dX9_judge_84 ?_
        refine xx_iconst (v := 1) dX9_judge_85 (by decide) ?_
        refine xx_iand dX9_judge_86 ?_
        refine xx_eqi (y := if Nat.testBit bits i then 1 else 0) (yb_sh h64 (by omega)) ?_
        refine xx_iconst (v := 1) dX9_judge_87 (by decide) ?_
        refine xx_icmp_ne (tgt := 95) dX9_judge_88 (by decide) (fun j88 => ?_) (fun j88 => ?_)
        · refine xx_iconst (v := 0) dX9_judge_95 (by decide) ?_
          refine xx_istore_n dX9_judge_96 (by decide) ?_
          refine xx_clv (lv2 := [(0, .ref b), (2, .int (nI w)), (3, .int 0), (4, .int (nI p)), (5, .int (nI bits)), (6, .int (nI i))]) rfl ?_
          have tb9 : Nat.testBit bits i = false := by cases hz : Nat.testBit bits i; rfl; exact absurd (by rw [if_pos hz]) j88
          refine xx_clv (lv2 := [(0, .ref b), (2, .int (nI w)), (3, .int (if ye_j (X p) bits g (i + 1) = true then 1 else 0)), (4, .int (nI p)), (5, .int (nI bits)), (6, .int (nI i))]) (by rw [if_neg (show ¬ ye_j (X p) bits g (i + 1) = true by show ¬ (ye_j (X p) bits g i && (decide (¬ 0 < X p i) || Nat.testBit bits i)) = true; rw [gz, tb9, decide_eq_false (fun z => j77 ((yy_sg0' (hX0 p hp i (by omega))).mpr z))]; decide)]) ?_
          refine xx_iinc (v := nI (i + 1)) dX9_judge_97 rfl (nI_1 i) (by decide) ?_
          refine xx_clv (lv2 := [(0, .ref b), (2, .int (nI w)), (3, .int (if ye_j (X p) bits g (i + 1) = true then 1 else 0)), (4, .int (nI p)), (5, .int (nI bits)), (6, .int (nI (i + 1)))]) rfl ?_
          refine xx_goto (tgt := 51) dX9_judge_100 (by decide) ?_
          refine xx_less [0, 2, 3, 4, 5, 6] ?_
          refine xx_clv (lv2 := [(0, .ref b), (2, .int (nI w)), (3, .int (if ye_j (X p) bits g (i + 1) = true then 1 else 0)), (4, .int (nI p)), (5, .int (nI bits)), (6, .int (nI (i + 1)))]) rfl ?_
          refine ih (i + 1) (by omega) A rfl
        · refine xx_iconst (v := 1) dX9_judge_91 (by decide) ?_
          refine xx_goto (tgt := 96) dX9_judge_92 (by decide) ?_
          refine xx_istore_n dX9_judge_96 (by decide) ?_
          refine xx_clv (lv2 := [(0, .ref b), (2, .int (nI w)), (3, .int 1), (4, .int (nI p)), (5, .int (nI bits)), (6, .int (nI i))]) rfl ?_
          have tb9 : Nat.testBit bits i = true := Classical.byContradiction (fun z => absurd j88 (by rw [if_neg z]; decide))
          refine xx_clv (lv2 := [(0, .ref b), (2, .int (nI w)), (3, .int (if ye_j (X p) bits g (i + 1) = true then 1 else 0)), (4, .int (nI p)), (5, .int (nI bits)), (6, .int (nI i))]) (by rw [if_pos (show ye_j (X p) bits g (i + 1) = true by show (ye_j (X p) bits g i && (decide (¬ 0 < X p i) || Nat.testBit bits i)) = true; rw [gz, tb9, Bool.or_true]; rfl)]) ?_
          refine xx_iinc (v := nI (i + 1)) dX9_judge_97 rfl (nI_1 i) (by decide) ?_
          refine xx_clv (lv2 := [(0, .ref b), (2, .int (nI w)), (3, .int (if ye_j (X p) bits g (i + 1) = true then 1 else 0)), (4, .int (nI p)), (5, .int (nI bits)), (6, .int (nI (i + 1)))]) rfl ?_
          refine xx_goto (tgt := 51) dX9_judge_100 (by decide) ?_
          refine xx_less [0, 2, 3, 4, 5, 6] ?_
          refine xx_clv (lv2 := [(0, .ref b), (2, .int (nI w)), (3, .int (if ye_j (X p) bits g (i + 1) = true then 1 else 0)), (4, .int (nI p)), (5, .int (nI bits)), (6, .int (nI (i + 1)))]) rfl ?_
          refine ih (i + 1) (by omega) A rfl
    · refine xx_clv (lv2 := [(0, .ref b), (2, .int (nI w)), (3, .int 0), (4, .int (nI p)), (5, .int (nI bits)), (6, .int (nI i))]) (by rw [if_neg gz]) ?_
      refine xx_iload_n dX9_judge_58 rfl ?_
      refine xx_if_eq (tgt := 95) dX9_judge_59 (by decide) (fun j59 => ?_) (fun h => absurd (by decide) h)
      refine xx_iconst (v := 0) dX9_judge_95 (by decide) ?_
      refine xx_istore_n dX9_judge_96 (by decide) ?_
      refine xx_clv (lv2 := [(0, .ref b), (2, .int (nI w)), (3, .int 0), (4, .int (nI p)), (5, .int (nI bits)), (6, .int (nI i))]) rfl ?_
      refine xx_clv (lv2 := [(0, .ref b), (2, .int (nI w)), (3, .int (if ye_j (X p) bits g (i + 1) = true then 1 else 0)), (4, .int (nI p)), (5, .int (nI bits)), (6, .int (nI i))]) (by rw [if_neg (fun h => gz (by have := (Bool.and_eq_true _ _ ▸ h : _ ∧ _); exact this.1))]) ?_
      refine xx_iinc (v := nI (i + 1)) dX9_judge_97 rfl (nI_1 i) (by decide) ?_
      refine xx_clv (lv2 := [(0, .ref b), (2, .int (nI w)), (3, .int (if ye_j (X p) bits g (i + 1) = true then 1 else 0)), (4, .int (nI p)), (5, .int (nI bits)), (6, .int (nI (i + 1)))]) rfl ?_
      refine xx_goto (tgt := 51) dX9_judge_100 (by decide) ?_
      refine xx_less [0, 2, 3, 4, 5, 6] ?_
      refine xx_clv (lv2 := [(0, .ref b), (2, .int (nI w)), (3, .int (if ye_j (X p) bits g (i + 1) = true then 1 else 0)), (4, .int (nI p)), (5, .int (nI bits)), (6, .int (nI (i + 1)))]) rfl ?_
      refine ih (i + 1) (by omega) A rfl
set_option maxRecDepth 100000 in
theorem c_X9_judge {G : xx_G} {l : Launch} {A : xx_H} {b : Nat} {th hr st hl en tu : Value} {m n : Nat} {S : Prop} {N : Nat → Int} {X : Nat → Nat → Int} {t : Nat → Int} {w : Nat} {x : Int32} {W : Nat → Nat → Nat → Int} {le : Nat → Int} {mu : Nat → Nat} (hb : A.2 b = xx_o 9 (xx_mf b th (.int (nI m)) (.int (nI n)) hr st hl en tu)) (hm1 : 1 ≤ m) (hm : m ≤ 6) (hn1 : 1 ≤ n) (hn : n ≤ 6)  (hplace : xx_X G l mX9_placeOf 5 0 0 0 (lv_args 0 [.ref b, .int x]) [] A (fun z B => B.1 = A.1 ∧ (∃ N2, xx_rw B b N2 ∧ xx_ns N2 N ∧ ((S ∧ z = .inl (some (.int (nI w))) ∧ xx_pl N2 w X t) ∨ (¬ S ∧ z = .inl (some (.int (-1)))))) ∧ ∀ q, q ≠ b + 1 → q ≠ b + 2 → q ≠ b + 3 → q ≠ b + 17 → q ≠ b + 18 → B.2 q = A.2 q)) (hw : 300 ≤ w) (hw2 : w + 14 ≤ 1740) (hP : xx_rp A b m n W le mu) (hmu : ∀ p, p < 2 → mu p ≤ 27720 ∧ 0 < mu p) (hX : ∀ q, q < 2 → ∀ k, k < 6 → (X q k).natAbs < 2 ^ 192) (hX0 : ∀ q, q < 2 → ∀ k, k < 6 → 0 ≤ X q k) : xx_X G l mX9_judge 6 0 0 0 (lv_args 0 [.ref b, .int x]) [] A (fun z B => B.1 = A.1 ∧ (∃ N2, xx_rw B b N2 ∧ xx_ns N2 N) ∧ (∀ q, q ≠ b → q ≠ b + 1 → q ≠ b + 2 → q ≠ b + 3 → q ≠ b + 17 → q ≠ b + 18 → B.2 q = A.2 q) ∧ ((S ∧ (((∀ p, p < 2 → ∀ k, k < 6 → 0 < X p k → Nat.testBit (ye_b (ye_v m n W X p) (yy_cn m n p - 1)) k = true) ∧ z = .inl (some (.int 1))) ∨ (¬ (∀ p, p < 2 → ∀ k, k < 6 → 0 < X p k → Nat.testBit (ye_b (ye_v m n W X p) (yy_cn m n p - 1)) k = true) ∧ z = .inl (some (.int 0)))) ∧ B.2 b = xx_o 9 (xx_mf b (.int 0) (.int (nI m)) (.int (nI n)) hr st hl en tu)) ∨ (¬ S ∧ z = .inl (some (.int 0)) ∧ B.2 b = xx_o 9 (xx_mf b (.int 1) (.int (nI m)) (.int (nI n)) hr st hl en tu)))) := by
  refine xx_clv (lv2 := [(0, .ref b), (1, .int x)]) rfl ?_
  refine xx_aload_n dX9_judge_0 rfl ?_
  refine xx_iload_n dX9_judge_1 rfl ?_
  refine xx_callV (N := mX9_placeOf) (vs := [.int x]) (b := b) (rest := []) (d2 := 5) (c2 := 0) (s2 := 0) (c3 := 0) (s3 := 0) dX9_judge_2 wm_X9_184 wi_X9_placeOf wv_X9_placeOf (k := 9) rfl (by decide) hb nX9_placeOf ⟨pX9_placeOf, Nat.le_of_ble_eq_true rfl, by decide, Nat.le_of_ble_eq_true rfl, by decide, by decide⟩ hplace (fun v9 Eq0 hC => ?_) (fun E9 B9 hC => by obtain ⟨_, ⟨_, _, _, ⟨_, h, _⟩ | ⟨_, h⟩⟩, _⟩ := hC <;> cases h)
  obtain ⟨zq0, ⟨Nq0, hNq0, ns0, hC⟩, oq0⟩ := hC
  have hb0 := (oq0 b (by omega) (by omega) (by omega) (by omega) (by omega)).trans hb
  rcases hC with ⟨hS, hv9, hL⟩ | ⟨hS, hv9⟩
  · cases hv9
    refine xx_cst (st2 := [.int (nI w)]) rfl ?_
    refine xx_istore_n dX9_judge_5 (by decide) ?_
    refine xx_clv (lv2 := [(0, .ref b), (1, .int x), (2, .int (nI w))]) rfl ?_
    refine xx_aload_n dX9_judge_6 rfl ?_
    refine xx_iload_n dX9_judge_7 rfl ?_
    refine xx_if_ge (tgt := 15) dX9_judge_8 (by decide) (fun j8 => ?_) (fun h => absurd ((nI_leI (a := 0) (b := w) (by decide) (by omega)).mpr (Nat.zero_le _)) h)
    refine xx_iconst (v := 0) dX9_judge_15 (by decide) ?_
    refine xx_put xx_c9 dX9_judge_16 wf_X9_84 (j := 0) (by decide) rfl rfl rfl hb0 (Nat.le_of_ble_eq_true rfl) (xx_gu fun Eq1 zq1 hbq1 oq1 => ?_)
    have hbq1 : Eq1.2 b = xx_o 9 (xx_mf b (.int 0) (.int (nI m)) (.int (nI n)) hr st hl en tu) := hbq1
    have hNq1 : xx_rw Eq1 b Nq0 := hNq0.to (oq1 _ (by omega)) (oq1 _ (by omega)) (oq1 _ (by omega)) (oq1 _ (by omega)) (oq1 _ (by omega))
    have c1 : ∀ p, 1 ≤ yy_cn m n p := fun p => by unfold yy_cn; split <;> assumption
    have c6 : ∀ p, yy_cn m n p ≤ 6 := fun p => yy_cn6 hm hn
    refine xx_aload_n dX9_judge_19 rfl ?_
    refine xx_get xx_c9 dX9_judge_20 wf_X9_84 (j := 0) (by decide) hbq1 rfl ?_
    refine xx_if_le (tgt := 28) dX9_judge_23 (by decide) (fun j23 => ?_) (fun h => absurd (by decide) h)
    refine xx_iconst (v := 1) dX9_judge_28 (by decide) ?_
    refine xx_istore_n dX9_judge_29 (by decide) ?_
    refine xx_clv (lv2 := [(0, .ref b), (1, .int x), (2, .int (nI w)), (3, .int 1)]) rfl ?_
    refine xx_iconst (v := 0) dX9_judge_30 (by decide) ?_
    refine xx_istore dX9_judge_31 (by decide) ?_
    refine xx_clv (lv2 := [(0, .ref b), (1, .int x), (2, .int (nI w)), (3, .int 1), (4, .int 0)]) rfl ?_
    refine xx_iload dX9_judge_33 rfl ?_
    refine xx_iconst (v := 2) dX9_judge_35 (by decide) ?_
    refine xx_icmp_ge (tgt := 109) dX9_judge_36 (by decide) (fun h => absurd h (by decide)) (fun j36 => ?_)
    refine xx_aload_n dX9_judge_39 rfl ?_
    refine xx_iload_n dX9_judge_40 rfl ?_
    refine xx_iload dX9_judge_41 rfl ?_
    have hP2 : xx_rp Eq1 b m n W le mu := hP.to (((oq1 (b + 14) (by omega)).trans (oq0 (b + 14) (by omega) (by omega) (by omega) (by omega) (by omega)))) (((oq1 (b + 15) (by omega)).trans (oq0 (b + 15) (by omega) (by omega) (by omega) (by omega) (by omega)))) (((oq1 (b + 16) (by omega)).trans (oq0 (b + 16) (by omega) (by omega) (by omega) (by omega) (by omega))))
    have hL2 : xx_pl Nq0 w X t := hL
    refine xx_callV (N := mX9_best) (vs := [.int (nI w), .int 0]) (b := b) (rest := []) (d2 := 4) (c2 := 0) (s2 := 0) (c3 := 0) (s3 := 0) dX9_judge_43 wm_X9_196 wi_X9_best wv_X9_best (k := 9) rfl (by decide) hbq1 nX9_best ⟨pX9_best, Nat.le_of_ble_eq_true rfl, by decide, Nat.le_of_ble_eq_true rfl, by decide, by decide⟩ (c_X9_best (p := 0) hbq1 hP2 hm hn hw hw2 hL2 hX hNq1 (by decide) (c1 0)) (fun v9 Eq2 hC => ?_) (fun E9 B9 hC => absurd hC.1 (by simp))
    obtain ⟨hv9, zq2, ⟨Nq2, hNq2, vq2, fq2⟩, oq2⟩ := hC
    cases hv9
    refine xx_cst (st2 := [.int (nI (ye_b (ye_v m n W X 0) (yy_cn m n 0 - 1)))]) rfl ?_
    have hbq2 := (oq2 b (by omega) (by omega) (by omega) (by omega) (by omega)).trans hbq1
    have d60 := c6 0
    have b640 := (ye_b_z (V := ye_v m n W X 0) (i := yy_cn m n 0 - 1) (by omega)).1
    refine xx_istore dX9_judge_46 (by decide) ?_
    refine xx_clv (lv2 := [(0, .ref b), (1, .int x), (2, .int (nI w)), (3, .int 1), (4, .int 0), (5, .int (nI (ye_b (ye_v m n W X 0) (yy_cn m n 0 - 1))))]) rfl ?_
    refine xx_iconst (v := 0) dX9_judge_48 (by decide) ?_
    refine xx_istore dX9_judge_49 (by decide) ?_
    refine xx_clv (lv2 := [(0, .ref b), (1, .int x), (2, .int (nI w)), (3, .int 1), (4, .int 0), (5, .int (nI (ye_b (ye_v m n W X 0) (yy_cn m n 0 - 1)))), (6, .int 0)]) rfl ?_
    have hLb0 : xx_pl Nq2 w X t := hL2.to (fun q9 a9 b9 => fq2 q9 (by omega) (by omega) (by omega) (by omega) (by omega))
    refine xx_clv (lv2 := [(0, .ref b), (1, .int x), (2, .int (nI w)), (3, .int (if ye_j (X 0) (ye_b (ye_v m n W X 0) (yy_cn m n 0 - 1)) true 0 = true then 1 else 0)), (4, .int (nI 0)), (5, .int (nI (ye_b (ye_v m n W X 0) (yy_cn m n 0 - 1)))), (6, .int (nI 0))]) rfl ?_
    refine xx_less [0, 2, 3, 4, 5, 6] ?_
    refine xx_clv (lv2 := [(0, .ref b), (2, .int (nI w)), (3, .int (if ye_j (X 0) (ye_b (ye_v m n W X 0) (yy_cn m n 0 - 1)) true 0 = true then 1 else 0)), (4, .int (nI 0)), (5, .int (nI (ye_b (ye_v m n W X 0) (yy_cn m n 0 - 1)))), (6, .int (nI 0))]) rfl ?_
    refine l_X9_ju (A := Eq2) (t := t) (p := 0) hbq2 hNq2 hLb0 (by decide) hw hw2 b640 hX0 (fun B y1 => ?_) 6 0 (by omega) Eq2 rfl
    rw [y1]
    refine xx_clv (lv2 := [(0, .ref b), (2, .int (nI w)), (3, .int (if ye_j (X 0) (ye_b (ye_v m n W X 0) (yy_cn m n 0 - 1)) true 6 = true then 1 else 0)), (4, .int 0)]) rfl ?_
    refine xx_iinc (v := 1) dX9_judge_103 rfl (by decide) (by decide) ?_
    refine xx_clv (lv2 := [(0, .ref b), (2, .int (nI w)), (3, .int (if ye_j (X 0) (ye_b (ye_v m n W X 0) (yy_cn m n 0 - 1)) true 6 = true then 1 else 0)), (4, .int 1)]) rfl ?_
    refine xx_goto (tgt := 33) dX9_judge_106 (by decide) ?_
    refine xx_iload dX9_judge_33 rfl ?_
    refine xx_iconst (v := 2) dX9_judge_35 (by decide) ?_
    refine xx_icmp_ge (tgt := 109) dX9_judge_36 (by decide) (fun h => absurd h (by decide)) (fun j36 => ?_)
    refine xx_aload_n dX9_judge_39 rfl ?_
    refine xx_iload_n dX9_judge_40 rfl ?_
    refine xx_iload dX9_judge_41 rfl ?_
    have hP3 : xx_rp Eq2 b m n W le mu := hP.to (((oq2 (b + 14) (by omega) (by omega) (by omega) (by omega) (by omega)).trans ((oq1 (b + 14) (by omega)).trans (oq0 (b + 14) (by omega) (by omega) (by omega) (by omega) (by omega))))) (((oq2 (b + 15) (by omega) (by omega) (by omega) (by omega) (by omega)).trans ((oq1 (b + 15) (by omega)).trans (oq0 (b + 15) (by omega) (by omega) (by omega) (by omega) (by omega))))) (((oq2 (b + 16) (by omega) (by omega) (by omega) (by omega) (by omega)).trans ((oq1 (b + 16) (by omega)).trans (oq0 (b + 16) (by omega) (by omega) (by omega) (by omega) (by omega)))))
    have hL3 : xx_pl Nq2 w X t := hL.to (fun q9 a9 b9 => fq2 q9 (by omega) (by omega) (by omega) (by omega) (by omega))
    refine xx_callV (N := mX9_best) (vs := [.int (nI w), .int 1]) (b := b) (rest := []) (d2 := 4) (c2 := 0) (s2 := 0) (c3 := 0) (s3 := 0) dX9_judge_43 wm_X9_196 wi_X9_best wv_X9_best (k := 9) rfl (by decide) hbq2 nX9_best ⟨pX9_best, Nat.le_of_ble_eq_true rfl, by decide, Nat.le_of_ble_eq_true rfl, by decide, by decide⟩ (c_X9_best (p := 1) hbq2 hP3 hm hn hw hw2 hL3 hX hNq2 (by decide) (c1 1)) (fun v9 Eq3 hC => ?_) (fun E9 B9 hC => absurd hC.1 (by simp))
    obtain ⟨hv9, zq3, ⟨Nq3, hNq3, vq3, fq3⟩, oq3⟩ := hC
    cases hv9
    refine xx_cst (st2 := [.int (nI (ye_b (ye_v m n W X 1) (yy_cn m n 1 - 1)))]) rfl ?_
    have hbq3 := (oq3 b (by omega) (by omega) (by omega) (by omega) (by omega)).trans hbq2
    have d61 := c6 1
    have b641 := (ye_b_z (V := ye_v m n W X 1) (i := yy_cn m n 1 - 1) (by omega)).1
    refine xx_istore dX9_judge_46 (by decide) ?_
    refine xx_clv (lv2 := [(0, .ref b), (2, .int (nI w)), (3, .int (if ye_j (X 0) (ye_b (ye_v m n W X 0) (yy_cn m n 0 - 1)) true 6 = true then 1 else 0)), (4, .int 1), (5, .int (nI (ye_b (ye_v m n W X 1) (yy_cn m n 1 - 1))))]) rfl ?_
    refine xx_iconst (v := 0) dX9_judge_48 (by decide) ?_
    refine xx_istore dX9_judge_49 (by decide) ?_
    refine xx_clv (lv2 := [(0, .ref b), (2, .int (nI w)), (3, .int (if ye_j (X 0) (ye_b (ye_v m n W X 0) (yy_cn m n 0 - 1)) true 6 = true then 1 else 0)), (4, .int 1), (5, .int (nI (ye_b (ye_v m n W X 1) (yy_cn m n 1 - 1)))), (6, .int 0)]) rfl ?_
    have hLb1 : xx_pl Nq3 w X t := hL3.to (fun q9 a9 b9 => fq3 q9 (by omega) (by omega) (by omega) (by omega) (by omega))
    refine xx_less [0, 2, 3, 4, 5, 6] ?_
    refine xx_clv (lv2 := [(0, .ref b), (2, .int (nI w)), (3, .int (if ye_j (X 1) (ye_b (ye_v m n W X 1) (yy_cn m n 1 - 1)) (ye_j (X 0) (ye_b (ye_v m n W X 0) (yy_cn m n 0 - 1)) true 6) 0 = true then 1 else 0)), (4, .int (nI 1)), (5, .int (nI (ye_b (ye_v m n W X 1) (yy_cn m n 1 - 1)))), (6, .int (nI 0))]) rfl ?_
    refine l_X9_ju (A := Eq3) (t := t) (p := 1) hbq3 hNq3 hLb1 (by decide) hw hw2 b641 hX0 (fun B y1 => ?_) 6 0 (by omega) Eq3 rfl
    rw [y1]
    refine xx_clv (lv2 := [(0, .ref b), (2, .int (nI w)), (3, .int (if ye_j (X 1) (ye_b (ye_v m n W X 1) (yy_cn m n 1 - 1)) (ye_j (X 0) (ye_b (ye_v m n W X 0) (yy_cn m n 0 - 1)) true 6) 6 = true then 1 else 0)), (4, .int 1)]) rfl ?_
    refine xx_iinc (v := 2) dX9_judge_103 rfl (by decide) (by decide) ?_
    refine xx_clv (lv2 := [(0, .ref b), (2, .int (nI w)), (3, .int (if ye_j (X 1) (ye_b (ye_v m n W X 1) (yy_cn m n 1 - 1)) (ye_j (X 0) (ye_b (ye_v m n W X 0) (yy_cn m n 0 - 1)) true 6) 6 = true then 1 else 0)), (4, .int 2)]) rfl ?_
    refine xx_goto (tgt := 33) dX9_judge_106 (by decide) ?_
    refine xx_iload dX9_judge_33 rfl ?_
    refine xx_iconst (v := 2) dX9_judge_35 (by decide) ?_
    refine xx_icmp_ge (tgt := 109) dX9_judge_36 (by decide) (fun j36 => ?_) (fun h => absurd (by decide) h)
    refine xx_iload_n dX9_judge_109 rfl ?_
    have jj : ye_j (X 1) (ye_b (ye_v m n W X 1) (yy_cn m n 1 - 1)) (ye_j (X 0) (ye_b (ye_v m n W X 0) (yy_cn m n 0 - 1)) true 6) 6 = true ↔ (∀ p, p < 2 → ∀ k, k < 6 → 0 < X p k → Nat.testBit (ye_b (ye_v m n W X p) (yy_cn m n p - 1)) k = true) := by
      rw [ye_j_iff, ye_j_iff]
      constructor
      · rintro ⟨⟨_, h0⟩, h1⟩ p hp
        rcases (show p = 0 ∨ p = 1 by omega) with z | z
        · rw [z]; exact h0
        · rw [z]; exact h1
      · intro h; exact ⟨⟨rfl, h 0 (by decide)⟩, h 1 (by decide)⟩
    refine xx_zret dX9_judge_110 rfl (by split <;> rfl) ⟨by omega, ⟨Nq3, hNq3, ns0.tr (fun q h1 h2 => (fq3 q (by omega) (by omega) (by omega) (by omega) (by omega)).trans (fq2 q (by omega) (by omega) (by omega) (by omega) (by omega)))⟩, (fun q a0 a1 a2 a3 a4 a5 => (oq3 q a1 a2 a3 a4 a5).trans ((oq2 q a1 a2 a3 a4 a5).trans ((oq1 q a0).trans (oq0 q a1 a2 a3 a4 a5)))), Or.inl ⟨hS, ?_, hbq3⟩⟩
    by_cases z : ye_j (X 1) (ye_b (ye_v m n W X 1) (yy_cn m n 1 - 1)) (ye_j (X 0) (ye_b (ye_v m n W X 0) (yy_cn m n 0 - 1)) true 6) 6 = true
    · exact Or.inl ⟨jj.mp z, by rw [if_pos z]⟩
    · exact Or.inr ⟨fun h => z (jj.mpr h), by rw [if_neg z]⟩
  · cases hv9
    refine xx_cst (st2 := [.int (-1)]) rfl ?_
    refine xx_istore_n dX9_judge_5 (by decide) ?_
    refine xx_clv (lv2 := [(0, .ref b), (1, .int x), (2, .int (-1))]) rfl ?_
    refine xx_aload_n dX9_judge_6 rfl ?_
    refine xx_iload_n dX9_judge_7 rfl ?_
    refine xx_if_ge (tgt := 15) dX9_judge_8 (by decide) (fun h => absurd h (by decide)) (fun j8 => ?_)
    refine xx_iconst (v := 1) dX9_judge_11 (by decide) ?_
    refine xx_goto (tgt := 16) dX9_judge_12 (by decide) ?_
    refine xx_put xx_c9 dX9_judge_16 wf_X9_84 (j := 0) (by decide) rfl rfl rfl hb0 (Nat.le_of_ble_eq_true rfl) (xx_gu fun Eq1 zq1 hbq1 oq1 => ?_)
    have hbq1 : Eq1.2 b = xx_o 9 (xx_mf b (.int 1) (.int (nI m)) (.int (nI n)) hr st hl en tu) := hbq1
    have hNq1 : xx_rw Eq1 b Nq0 := hNq0.to (oq1 _ (by omega)) (oq1 _ (by omega)) (oq1 _ (by omega)) (oq1 _ (by omega)) (oq1 _ (by omega))
    refine xx_aload_n dX9_judge_19 rfl ?_
    refine xx_get xx_c9 dX9_judge_20 wf_X9_84 (j := 0) (by decide) hbq1 rfl ?_
    refine xx_if_le (tgt := 28) dX9_judge_23 (by decide) (fun h => absurd h (by decide)) (fun j23 => ?_)
    refine xx_iconst (v := 0) dX9_judge_26 (by decide) ?_
    exact xx_zret dX9_judge_27 rfl rfl ⟨by omega, ⟨Nq0, hNq1, ns0⟩, (fun q a0 a1 a2 a3 a4 a5 => (oq1 q a0).trans (oq0 q a1 a2 a3 a4 a5)), Or.inr ⟨hS, rfl, hbq1⟩⟩

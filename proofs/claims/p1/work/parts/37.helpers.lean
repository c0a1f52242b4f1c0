/-! ===== the law's helpers, over what the class's method does ===== -/
theorem xx_cs_iae : Cond.castable R_iae R_iae ∈ xx_nest := List.mem_of_getElem? (i := 16) rfl
theorem xx_cs_ise : Cond.castable R_ise R_ise ∈ xx_nest := List.mem_of_getElem? (i := 17) rfl
theorem xx_cs_ioe : Cond.castable R_ioe R_ioe ∈ xx_nest := List.mem_of_getElem? (i := 18) rfl
theorem xx_nc_as : (R_iae, R_ise) ∈ xx_ncs := List.mem_of_getElem? (i := 0) rfl
theorem xx_nc_ao : (R_iae, R_ioe) ∈ xx_ncs := List.mem_of_getElem? (i := 1) rfl
theorem xx_nc_os : (R_ioe, R_ise) ∈ xx_ncs := List.mem_of_getElem? (i := 2) rfl
set_option maxRecDepth 100000 in
theorem h_L_game {G : xx_G} {l : Launch} {A : xx_H} {b d2 c2 s2 : Nat} {fs : List Value} {p0 p1 : Int32} {Q2 : Option Value ⊕ String → xx_H → Prop} {Q : Int32 → xx_H → Prop} (hb : A.2 b = xx_o 8 fs) (hX : xx_X G l mX8_game d2 c2 s2 0 (lv_args 0 [.ref b, .int p0, .int p1]) [] A Q2) (hQ : ∀ r B, Q2 r B → (r = .inl none ∧ Q 0 B) ∨ (r = .inr R_iae ∧ Q 1 B)) :
    xx_X G l mL_game (d2 + 1) c2 s2 0 (lv_args 0 [.ref b, .int p0, .int p1]) [] A (fun r B => ∃ k, r = .inl (some (.int k)) ∧ Q k B) := by
  refine xx_clv (lv2 := [(0, .ref b), (1, .int p0), (2, .int p1)]) rfl ?_
  refine xx_aload_n dL_game_0 rfl ?_
  refine xx_iload_n dL_game_1 rfl ?_
  refine xx_iload_n dL_game_2 rfl ?_
  refine xx_callV (N := mX8_game) (vs := [.int p0, .int p1]) (b := b) (rest := []) (d2 := d2) (c2 := c2) (s2 := s2) (c3 := 0) (s3 := 0) dL_game_3 wm_L_7 wi_X8_game wv_X8_game (k := 8) rfl (by decide) hb nX8_game ⟨pX8_game, Nat.le_of_ble_eq_true rfl, by omega, Nat.le_of_ble_eq_true rfl, by omega, by omega⟩ hX (fun v B hC => ?_) (fun E B hC => ?_)
  · rcases hQ _ _ hC with ⟨e, h⟩ | ⟨e, h⟩
    · cases e
      refine xx_cst (st2 := []) rfl ?_
      refine xx_goto (tgt := 12) dL_game_6 (by decide) ?_
      refine xx_iconst (v := 0) dL_game_12 (by decide) ?_
      exact xx_iret dL_game_13 rfl ⟨_, rfl, h⟩
    · exact absurd e (by simp)
  · rcases hQ _ _ hC with ⟨e, h⟩ | ⟨e, h⟩
    · exact absurd e (by simp)
    · cases e
      refine xx_catch (hpc := 9) (Or.inl ⟨⟨by decide, by decide⟩, by decide, rfl, wc_L_13, xx_cs_iae⟩) (fun q => ?_)
      refine xx_astore_n dL_game_9 (by decide) ?_
      refine xx_clv (lv2 := [(0, .ref b), (1, .int p0), (2, .int p1), (3, .ref q)]) rfl ?_
      refine xx_iconst (v := 1) dL_game_10 (by decide) ?_
      exact xx_iret dL_game_11 rfl ⟨_, rfl, h⟩
set_option maxRecDepth 100000 in
theorem h_L_pay {G : xx_G} {l : Launch} {A : xx_H} {b d2 c2 s2 : Nat} {fs : List Value} {p0 p1 p2 p3 p4 : Int32} {Q2 : Option Value ⊕ String → xx_H → Prop} {Q : Int32 → xx_H → Prop} (hb : A.2 b = xx_o 8 fs) (hX : xx_X G l mX8_pay d2 c2 s2 0 (lv_args 0 [.ref b, .int p0, .int p1, .int p2, .int p3, .int p4]) [] A Q2) (hQ : ∀ r B, Q2 r B → (r = .inl none ∧ Q 0 B) ∨ (r = .inr R_ise ∧ Q 1 B) ∨ (r = .inr R_iae ∧ Q 2 B)) :
    xx_X G l mL_pay (d2 + 1) c2 s2 0 (lv_args 0 [.ref b, .int p0, .int p1, .int p2, .int p3, .int p4]) [] A (fun r B => ∃ k, r = .inl (some (.int k)) ∧ Q k B) := by
  refine xx_clv (lv2 := [(0, .ref b), (1, .int p0), (2, .int p1), (3, .int p2), (4, .int p3), (5, .int p4)]) rfl ?_
  refine xx_aload_n dL_pay_0 rfl ?_
  refine xx_iload_n dL_pay_1 rfl ?_
  refine xx_iload_n dL_pay_2 rfl ?_
  refine xx_iload_n dL_pay_3 rfl ?_
  refine xx_iload dL_pay_4 rfl ?_
  refine xx_iload dL_pay_6 rfl ?_
  refine xx_callV (N := mX8_pay) (vs := [.int p0, .int p1, .int p2, .int p3, .int p4]) (b := b) (rest := []) (d2 := d2) (c2 := c2) (s2 := s2) (c3 := 0) (s3 := 0) dL_pay_8 wm_L_15 wi_X8_pay wv_X8_pay (k := 8) rfl (by decide) hb nX8_pay ⟨pX8_pay, Nat.le_of_ble_eq_true rfl, by omega, Nat.le_of_ble_eq_true rfl, by omega, by omega⟩ hX (fun v B hC => ?_) (fun E B hC => ?_)
  · rcases hQ _ _ hC with ⟨e, h⟩ | ⟨e, h⟩ | ⟨e, h⟩
    · cases e
      refine xx_cst (st2 := []) rfl ?_
      refine xx_goto (tgt := 22) dL_pay_11 (by decide) ?_
      refine xx_iconst (v := 0) dL_pay_22 (by decide) ?_
      exact xx_iret dL_pay_23 rfl ⟨_, rfl, h⟩
    · exact absurd e (by simp)
    · exact absurd e (by simp)
  · rcases hQ _ _ hC with ⟨e, h⟩ | ⟨e, h⟩ | ⟨e, h⟩
    · exact absurd e (by simp)
    · cases e
      refine xx_catch (hpc := 14) (Or.inl ⟨⟨by decide, by decide⟩, by decide, rfl, wc_L_19, xx_cs_ise⟩) (fun q => ?_)
      refine xx_astore dL_pay_14 (by decide) ?_
      refine xx_clv (lv2 := [(0, .ref b), (1, .int p0), (2, .int p1), (3, .int p2), (4, .int p3), (5, .int p4), (6, .ref q)]) rfl ?_
      refine xx_iconst (v := 1) dL_pay_16 (by decide) ?_
      exact xx_iret dL_pay_17 rfl ⟨_, rfl, h⟩
    · cases e
      refine xx_catch (hpc := 18) (Or.inr (Or.inr ⟨⟨by decide, by decide⟩, by decide, ⟨_, wc_L_19, xx_nc_as⟩, Or.inl ⟨⟨by decide, by decide⟩, by decide, rfl, wc_L_13, xx_cs_iae⟩⟩)) (fun q => ?_)
      refine xx_astore dL_pay_18 (by decide) ?_
      refine xx_clv (lv2 := [(0, .ref b), (1, .int p0), (2, .int p1), (3, .int p2), (4, .int p3), (5, .int p4), (6, .ref q)]) rfl ?_
      refine xx_iconst (v := 2) dL_pay_20 (by decide) ?_
      exact xx_iret dL_pay_21 rfl ⟨_, rfl, h⟩
set_option maxRecDepth 100000 in
theorem h_L_run {G : xx_G} {l : Launch} {A : xx_H} {b w d2 c2 s2 : Nat} {fs : List Value} {p0 : Int32} {Q2 : Option Value ⊕ String → xx_H → Prop} {Q : Int32 → xx_H → Prop} (hb : A.2 b = xx_o 8 fs) (hX : xx_X G l mX8_run d2 c2 s2 0 (lv_args 0 [.ref b, .int p0]) [] A Q2) (hQ : ∀ r B, Q2 r B → (∃ v, r = .inl (some (.int v)) ∧ ∃ g, B.2 w = xx_l 1 g ∧ ∀ C : xx_H, C.1 = B.1 → C.2 w = xx_l 1 (vp_updL g 0 v.toInt64) → (∀ q, q ≠ w → C.2 q = B.2 q) → Q 0 C) ∨ (r = .inr R_ise ∧ Q 1 B) ∨ (r = .inr R_iae ∧ Q 2 B)) :
    xx_X G l mL_run (d2 + 1) c2 s2 0 (lv_args 0 [.ref b, .int p0, .ref w]) [] A (fun r B => ∃ k, r = .inl (some (.int k)) ∧ Q k B) := by
  refine xx_clv (lv2 := [(0, .ref b), (1, .int p0), (2, .ref w)]) rfl ?_
  refine xx_aload_n dL_run_0 rfl ?_
  refine xx_iconst (v := 0) dL_run_1 (by decide) ?_
  refine xx_aload_n dL_run_2 rfl ?_
  refine xx_iload_n dL_run_3 rfl ?_
  refine xx_callV (N := mX8_run) (vs := [.int p0]) (b := b) (rest := [.int 0, .ref w]) (d2 := d2) (c2 := c2) (s2 := s2) (c3 := 0) (s3 := 0) dL_run_4 wm_L_21 wi_X8_run wv_X8_run (k := 8) rfl (by decide) hb nX8_run ⟨pX8_run, Nat.le_of_ble_eq_true rfl, by omega, Nat.le_of_ble_eq_true rfl, by omega, by omega⟩ hX (fun v B hC => ?_) (fun E B hC => ?_)
  · rcases hQ _ _ hC with ⟨v, e, g, hg, h⟩ | ⟨e, h⟩ | ⟨e, h⟩
    · cases e
      refine xx_cst (st2 := [.int v, .int 0, .ref w]) rfl ?_
      refine xx_i2l dL_run_7 ?_
      refine xx_last dL_run_8 hg (by unfold vp_in; decide) (xx_gu fun C z1 h1 o1 => ?_)
      refine xx_goto (tgt := 18) dL_run_9 (by decide) ?_
      refine xx_iconst (v := 0) dL_run_18 (by decide) ?_
      exact xx_iret dL_run_19 rfl ⟨_, rfl, h C z1 h1 o1⟩
    · exact absurd e (by simp)
    · exact absurd e (by simp)
  · rcases hQ _ _ hC with ⟨v, e, g, hg, h⟩ | ⟨e, h⟩ | ⟨e, h⟩
    · exact absurd e (by simp)
    · cases e
      refine xx_catch (hpc := 12) (Or.inl ⟨⟨by decide, by decide⟩, by decide, rfl, wc_L_19, xx_cs_ise⟩) (fun q => ?_)
      refine xx_astore_n dL_run_12 (by decide) ?_
      refine xx_clv (lv2 := [(0, .ref b), (1, .int p0), (2, .ref w), (3, .ref q)]) rfl ?_
      refine xx_iconst (v := 1) dL_run_13 (by decide) ?_
      exact xx_iret dL_run_14 rfl ⟨_, rfl, h⟩
    · cases e
      refine xx_catch (hpc := 15) (Or.inr (Or.inr ⟨⟨by decide, by decide⟩, by decide, ⟨_, wc_L_19, xx_nc_as⟩, Or.inl ⟨⟨by decide, by decide⟩, by decide, rfl, wc_L_13, xx_cs_iae⟩⟩)) (fun q => ?_)
      refine xx_astore_n dL_run_15 (by decide) ?_
      refine xx_clv (lv2 := [(0, .ref b), (1, .int p0), (2, .ref w), (3, .ref q)]) rfl ?_
      refine xx_iconst (v := 2) dL_run_16 (by decide) ?_
      exact xx_iret dL_run_17 rfl ⟨_, rfl, h⟩
set_option maxRecDepth 100000 in
theorem h_L_step {G : xx_G} {l : Launch} {A : xx_H} {b w d2 c2 s2 : Nat} {fs : List Value} {p0 p1 : Int32} {Q2 : Option Value ⊕ String → xx_H → Prop} {Q : Int32 → xx_H → Prop} (hb : A.2 b = xx_o 8 fs) (hX : xx_X G l mX8_step d2 c2 s2 0 (lv_args 0 [.ref b, .int p0, .int p1]) [] A Q2) (hQ : ∀ r B, Q2 r B → (∃ v, r = .inl (some (.int v)) ∧ ∃ g, B.2 w = xx_l 1 g ∧ ∀ C : xx_H, C.1 = B.1 → C.2 w = xx_l 1 (vp_updL g 0 v.toInt64) → (∀ q, q ≠ w → C.2 q = B.2 q) → Q 0 C) ∨ (r = .inr R_ise ∧ Q 1 B) ∨ (r = .inr R_ioe ∧ Q 2 B) ∨ (r = .inr R_iae ∧ Q 3 B)) :
    xx_X G l mL_step (d2 + 1) c2 s2 0 (lv_args 0 [.ref b, .int p0, .int p1, .ref w]) [] A (fun r B => ∃ k, r = .inl (some (.int k)) ∧ Q k B) := by
  refine xx_clv (lv2 := [(0, .ref b), (1, .int p0), (2, .int p1), (3, .ref w)]) rfl ?_
  refine xx_aload_n dL_step_0 rfl ?_
  refine xx_iconst (v := 0) dL_step_1 (by decide) ?_
  refine xx_aload_n dL_step_2 rfl ?_
  refine xx_iload_n dL_step_3 rfl ?_
  refine xx_iload_n dL_step_4 rfl ?_
  refine xx_callV (N := mX8_step) (vs := [.int p0, .int p1]) (b := b) (rest := [.int 0, .ref w]) (d2 := d2) (c2 := c2) (s2 := s2) (c3 := 0) (s3 := 0) dL_step_5 wm_L_25 wi_X8_step wv_X8_step (k := 8) rfl (by decide) hb nX8_step ⟨pX8_step, Nat.le_of_ble_eq_true rfl, by omega, Nat.le_of_ble_eq_true rfl, by omega, by omega⟩ hX (fun v B hC => ?_) (fun E B hC => ?_)
  · rcases hQ _ _ hC with ⟨v, e, g, hg, h⟩ | ⟨e, h⟩ | ⟨e, h⟩ | ⟨e, h⟩
    · cases e
      refine xx_cst (st2 := [.int v, .int 0, .ref w]) rfl ?_
      refine xx_i2l dL_step_8 ?_
      refine xx_last dL_step_9 hg (by unfold vp_in; decide) (xx_gu fun C z1 h1 o1 => ?_)
      refine xx_goto (tgt := 25) dL_step_10 (by decide) ?_
      refine xx_iconst (v := 0) dL_step_25 (by decide) ?_
      exact xx_iret dL_step_26 rfl ⟨_, rfl, h C z1 h1 o1⟩
    · exact absurd e (by simp)
    · exact absurd e (by simp)
    · exact absurd e (by simp)
  · rcases hQ _ _ hC with ⟨v, e, g, hg, h⟩ | ⟨e, h⟩ | ⟨e, h⟩ | ⟨e, h⟩
    · exact absurd e (by simp)
    · cases e
      refine xx_catch (hpc := 13) (Or.inl ⟨⟨by decide, by decide⟩, by decide, rfl, wc_L_19, xx_cs_ise⟩) (fun q => ?_)
      refine xx_astore dL_step_13 (by decide) ?_
      refine xx_clv (lv2 := [(0, .ref b), (1, .int p0), (2, .int p1), (3, .ref w), (4, .ref q)]) rfl ?_
      refine xx_iconst (v := 1) dL_step_15 (by decide) ?_
      exact xx_iret dL_step_16 rfl ⟨_, rfl, h⟩
    · cases e
      refine xx_catch (hpc := 17) (Or.inr (Or.inr ⟨⟨by decide, by decide⟩, by decide, ⟨_, wc_L_19, xx_nc_os⟩, Or.inl ⟨⟨by decide, by decide⟩, by decide, rfl, wc_L_29, xx_cs_ioe⟩⟩)) (fun q => ?_)
      refine xx_astore dL_step_17 (by decide) ?_
      refine xx_clv (lv2 := [(0, .ref b), (1, .int p0), (2, .int p1), (3, .ref w), (4, .ref q)]) rfl ?_
      refine xx_iconst (v := 2) dL_step_19 (by decide) ?_
      exact xx_iret dL_step_20 rfl ⟨_, rfl, h⟩
    · cases e
      refine xx_catch (hpc := 21) (Or.inr (Or.inr ⟨⟨by decide, by decide⟩, by decide, ⟨_, wc_L_19, xx_nc_as⟩, Or.inr (Or.inr ⟨⟨by decide, by decide⟩, by decide, ⟨_, wc_L_29, xx_nc_ao⟩, Or.inl ⟨⟨by decide, by decide⟩, by decide, rfl, wc_L_13, xx_cs_iae⟩⟩)⟩)) (fun q => ?_)
      refine xx_astore dL_step_21 (by decide) ?_
      refine xx_clv (lv2 := [(0, .ref b), (1, .int p0), (2, .int p1), (3, .ref w), (4, .ref q)]) rfl ?_
      refine xx_iconst (v := 3) dL_step_23 (by decide) ?_
      exact xx_iret dL_step_24 rfl ⟨_, rfl, h⟩
set_option maxRecDepth 100000 in
theorem h_L_weight {G : xx_G} {l : Launch} {A : xx_H} {b d2 c2 s2 : Nat} {fs : List Value} {p0 p1 p2 p3 : Int32} {Q2 : Option Value ⊕ String → xx_H → Prop} {Q : Int32 → xx_H → Prop} (hb : A.2 b = xx_o 8 fs) (hX : xx_X G l mX8_weight d2 c2 s2 0 (lv_args 0 [.ref b, .int p0, .int p1, .int p2, .int p3]) [] A Q2) (hQ : ∀ r B, Q2 r B → (r = .inl none ∧ Q 0 B) ∨ (r = .inr R_ise ∧ Q 1 B) ∨ (r = .inr R_iae ∧ Q 2 B)) :
    xx_X G l mL_weight (d2 + 1) c2 s2 0 (lv_args 0 [.ref b, .int p0, .int p1, .int p2, .int p3]) [] A (fun r B => ∃ k, r = .inl (some (.int k)) ∧ Q k B) := by
  refine xx_clv (lv2 := [(0, .ref b), (1, .int p0), (2, .int p1), (3, .int p2), (4, .int p3)]) rfl ?_
  refine xx_aload_n dL_weight_0 rfl ?_
  refine xx_iload_n dL_weight_1 rfl ?_
  refine xx_iload_n dL_weight_2 rfl ?_
  refine xx_iload_n dL_weight_3 rfl ?_
  refine xx_iload dL_weight_4 rfl ?_
  refine xx_callV (N := mX8_weight) (vs := [.int p0, .int p1, .int p2, .int p3]) (b := b) (rest := []) (d2 := d2) (c2 := c2) (s2 := s2) (c3 := 0) (s3 := 0) dL_weight_6 wm_L_31 wi_X8_weight wv_X8_weight (k := 8) rfl (by decide) hb nX8_weight ⟨pX8_weight, Nat.le_of_ble_eq_true rfl, by omega, Nat.le_of_ble_eq_true rfl, by omega, by omega⟩ hX (fun v B hC => ?_) (fun E B hC => ?_)
  · rcases hQ _ _ hC with ⟨e, h⟩ | ⟨e, h⟩ | ⟨e, h⟩
    · cases e
      refine xx_cst (st2 := []) rfl ?_
      refine xx_goto (tgt := 20) dL_weight_9 (by decide) ?_
      refine xx_iconst (v := 0) dL_weight_20 (by decide) ?_
      exact xx_iret dL_weight_21 rfl ⟨_, rfl, h⟩
    · exact absurd e (by simp)
    · exact absurd e (by simp)
  · rcases hQ _ _ hC with ⟨e, h⟩ | ⟨e, h⟩ | ⟨e, h⟩
    · exact absurd e (by simp)
    · cases e
      refine xx_catch (hpc := 12) (Or.inl ⟨⟨by decide, by decide⟩, by decide, rfl, wc_L_19, xx_cs_ise⟩) (fun q => ?_)
      refine xx_astore dL_weight_12 (by decide) ?_
      refine xx_clv (lv2 := [(0, .ref b), (1, .int p0), (2, .int p1), (3, .int p2), (4, .int p3), (5, .ref q)]) rfl ?_
      refine xx_iconst (v := 1) dL_weight_14 (by decide) ?_
      exact xx_iret dL_weight_15 rfl ⟨_, rfl, h⟩
    · cases e
      refine xx_catch (hpc := 16) (Or.inr (Or.inr ⟨⟨by decide, by decide⟩, by decide, ⟨_, wc_L_19, xx_nc_as⟩, Or.inl ⟨⟨by decide, by decide⟩, by decide, rfl, wc_L_13, xx_cs_iae⟩⟩)) (fun q => ?_)
      refine xx_astore dL_weight_16 (by decide) ?_
      refine xx_clv (lv2 := [(0, .ref b), (1, .int p0), (2, .int p1), (3, .int p2), (4, .int p3), (5, .ref q)]) rfl ?_
      refine xx_iconst (v := 2) dL_weight_18 (by decide) ?_
      exact xx_iret dL_weight_19 rfl ⟨_, rfl, h⟩
set_option maxRecDepth 100000 in
theorem h_L_list {G : xx_G} {l : Launch} {A : xx_H} {b w d2 c2 s2 : Nat} {fs : List Value} {Q2 : Option Value ⊕ String → xx_H → Prop} {Q : Int32 → xx_H → Prop} (hb : A.2 b = xx_o 8 fs) (hX : xx_X G l mX8_list d2 c2 s2 0 (lv_args 0 [.ref b]) [] A Q2) (hQ : ∀ r B, Q2 r B → (∃ v, r = .inl (some (.int v)) ∧ ∃ g, B.2 w = xx_l 1 g ∧ ∀ C : xx_H, C.1 = B.1 → C.2 w = xx_l 1 (vp_updL g 0 v.toInt64) → (∀ q, q ≠ w → C.2 q = B.2 q) → Q 0 C) ∨ (r = .inr R_ise ∧ Q 1 B)) :
    xx_X G l mL_list (d2 + 1) c2 s2 0 (lv_args 0 [.ref b, .ref w]) [] A (fun r B => ∃ k, r = .inl (some (.int k)) ∧ Q k B) := by
  refine xx_clv (lv2 := [(0, .ref b), (1, .ref w)]) rfl ?_
  refine xx_aload_n dL_list_0 rfl ?_
  refine xx_iconst (v := 0) dL_list_1 (by decide) ?_
  refine xx_aload_n dL_list_2 rfl ?_
  refine xx_callV (N := mX8_list) (vs := []) (b := b) (rest := [.int 0, .ref w]) (d2 := d2) (c2 := c2) (s2 := s2) (c3 := 0) (s3 := 0) dL_list_3 wm_L_35 wi_X8_list wv_X8_list (k := 8) rfl (by decide) hb nX8_list ⟨pX8_list, Nat.le_of_ble_eq_true rfl, by omega, Nat.le_of_ble_eq_true rfl, by omega, by omega⟩ hX (fun v B hC => ?_) (fun E B hC => ?_)
  · rcases hQ _ _ hC with ⟨v, e, g, hg, h⟩ | ⟨e, h⟩
    · cases e
      refine xx_cst (st2 := [.int v, .int 0, .ref w]) rfl ?_
      refine xx_i2l dL_list_6 ?_
      refine xx_last dL_list_7 hg (by unfold vp_in; decide) (xx_gu fun C z1 h1 o1 => ?_)
      refine xx_goto (tgt := 14) dL_list_8 (by decide) ?_
      refine xx_iconst (v := 0) dL_list_14 (by decide) ?_
      exact xx_iret dL_list_15 rfl ⟨_, rfl, h C z1 h1 o1⟩
    · exact absurd e (by simp)
  · rcases hQ _ _ hC with ⟨v, e, g, hg, h⟩ | ⟨e, h⟩
    · exact absurd e (by simp)
    · cases e
      refine xx_catch (hpc := 11) (Or.inl ⟨⟨by decide, by decide⟩, by decide, rfl, wc_L_19, xx_cs_ise⟩) (fun q => ?_)
      refine xx_astore_n dL_list_11 (by decide) ?_
      refine xx_clv (lv2 := [(0, .ref b), (1, .ref w), (2, .ref q)]) rfl ?_
      refine xx_iconst (v := 1) dL_list_12 (by decide) ?_
      exact xx_iret dL_list_13 rfl ⟨_, rfl, h⟩
set_option maxRecDepth 100000 in
theorem h_L_support {G : xx_G} {l : Launch} {A : xx_H} {b w d2 c2 s2 : Nat} {fs : List Value} {p0 p1 : Int32} {Q2 : Option Value ⊕ String → xx_H → Prop} {Q : Int32 → xx_H → Prop} (hb : A.2 b = xx_o 8 fs) (hX : xx_X G l mX8_support d2 c2 s2 0 (lv_args 0 [.ref b, .int p0, .int p1]) [] A Q2) (hQ : ∀ r B, Q2 r B → (∃ v, r = .inl (some (.int v)) ∧ ∃ g, B.2 w = xx_l 1 g ∧ ∀ C : xx_H, C.1 = B.1 → C.2 w = xx_l 1 (vp_updL g 0 v.toInt64) → (∀ q, q ≠ w → C.2 q = B.2 q) → Q 0 C) ∨ (r = .inr R_ise ∧ Q 1 B) ∨ (r = .inr R_iae ∧ Q 2 B)) :
    xx_X G l mL_support (d2 + 1) c2 s2 0 (lv_args 0 [.ref b, .int p0, .int p1, .ref w]) [] A (fun r B => ∃ k, r = .inl (some (.int k)) ∧ Q k B) := by
  refine xx_clv (lv2 := [(0, .ref b), (1, .int p0), (2, .int p1), (3, .ref w)]) rfl ?_
  refine xx_aload_n dL_support_0 rfl ?_
  refine xx_iconst (v := 0) dL_support_1 (by decide) ?_
  refine xx_aload_n dL_support_2 rfl ?_
  refine xx_iload_n dL_support_3 rfl ?_
  refine xx_iload_n dL_support_4 rfl ?_
  refine xx_callV (N := mX8_support) (vs := [.int p0, .int p1]) (b := b) (rest := [.int 0, .ref w]) (d2 := d2) (c2 := c2) (s2 := s2) (c3 := 0) (s3 := 0) dL_support_5 wm_L_39 wi_X8_support wv_X8_support (k := 8) rfl (by decide) hb nX8_support ⟨pX8_support, Nat.le_of_ble_eq_true rfl, by omega, Nat.le_of_ble_eq_true rfl, by omega, by omega⟩ hX (fun v B hC => ?_) (fun E B hC => ?_)
  · rcases hQ _ _ hC with ⟨v, e, g, hg, h⟩ | ⟨e, h⟩ | ⟨e, h⟩
    · cases e
      refine xx_cst (st2 := [.int v, .int 0, .ref w]) rfl ?_
      refine xx_i2l dL_support_8 ?_
      refine xx_last dL_support_9 hg (by unfold vp_in; decide) (xx_gu fun C z1 h1 o1 => ?_)
      refine xx_goto (tgt := 21) dL_support_10 (by decide) ?_
      refine xx_iconst (v := 0) dL_support_21 (by decide) ?_
      exact xx_iret dL_support_22 rfl ⟨_, rfl, h C z1 h1 o1⟩
    · exact absurd e (by simp)
    · exact absurd e (by simp)
  · rcases hQ _ _ hC with ⟨v, e, g, hg, h⟩ | ⟨e, h⟩ | ⟨e, h⟩
    · exact absurd e (by simp)
    · cases e
      refine xx_catch (hpc := 13) (Or.inl ⟨⟨by decide, by decide⟩, by decide, rfl, wc_L_19, xx_cs_ise⟩) (fun q => ?_)
      refine xx_astore dL_support_13 (by decide) ?_
      refine xx_clv (lv2 := [(0, .ref b), (1, .int p0), (2, .int p1), (3, .ref w), (4, .ref q)]) rfl ?_
      refine xx_iconst (v := 1) dL_support_15 (by decide) ?_
      exact xx_iret dL_support_16 rfl ⟨_, rfl, h⟩
    · cases e
      refine xx_catch (hpc := 17) (Or.inr (Or.inr ⟨⟨by decide, by decide⟩, by decide, ⟨_, wc_L_19, xx_nc_as⟩, Or.inl ⟨⟨by decide, by decide⟩, by decide, rfl, wc_L_13, xx_cs_iae⟩⟩)) (fun q => ?_)
      refine xx_astore dL_support_17 (by decide) ?_
      refine xx_clv (lv2 := [(0, .ref b), (1, .int p0), (2, .int p1), (3, .ref w), (4, .ref q)]) rfl ?_
      refine xx_iconst (v := 2) dL_support_19 (by decide) ?_
      exact xx_iret dL_support_20 rfl ⟨_, rfl, h⟩
set_option maxRecDepth 100000 in
theorem h_L_strategy {G : xx_G} {l : Launch} {A : xx_H} {b w d2 c2 s2 : Nat} {fs : List Value} {p0 p1 p2 : Int32} {Q2 : Option Value ⊕ String → xx_H → Prop} {Q : Int32 → xx_H → Prop} (hb : A.2 b = xx_o 8 fs) (hX : xx_X G l mX8_strategy d2 c2 s2 0 (lv_args 0 [.ref b, .int p0, .int p1, .int p2]) [] A Q2) (hQ : ∀ r B, Q2 r B → (∃ v, r = .inl (some (.int v)) ∧ ∃ g, B.2 w = xx_l 1 g ∧ ∀ C : xx_H, C.1 = B.1 → C.2 w = xx_l 1 (vp_updL g 0 v.toInt64) → (∀ q, q ≠ w → C.2 q = B.2 q) → Q 0 C) ∨ (r = .inr R_ise ∧ Q 1 B) ∨ (r = .inr R_iae ∧ Q 2 B)) :
    xx_X G l mL_strategy (d2 + 1) c2 s2 0 (lv_args 0 [.ref b, .int p0, .int p1, .int p2, .ref w]) [] A (fun r B => ∃ k, r = .inl (some (.int k)) ∧ Q k B) := by
  refine xx_clv (lv2 := [(0, .ref b), (1, .int p0), (2, .int p1), (3, .int p2), (4, .ref w)]) rfl ?_
  refine xx_aload dL_strategy_0 rfl ?_
  refine xx_iconst (v := 0) dL_strategy_2 (by decide) ?_
  refine xx_aload_n dL_strategy_3 rfl ?_
  refine xx_iload_n dL_strategy_4 rfl ?_
  refine xx_iload_n dL_strategy_5 rfl ?_
  refine xx_iload_n dL_strategy_6 rfl ?_
  refine xx_callV (N := mX8_strategy) (vs := [.int p0, .int p1, .int p2]) (b := b) (rest := [.int 0, .ref w]) (d2 := d2) (c2 := c2) (s2 := s2) (c3 := 0) (s3 := 0) dL_strategy_7 wm_L_42 wi_X8_strategy wv_X8_strategy (k := 8) rfl (by decide) hb nX8_strategy ⟨pX8_strategy, Nat.le_of_ble_eq_true rfl, by omega, Nat.le_of_ble_eq_true rfl, by omega, by omega⟩ hX (fun v B hC => ?_) (fun E B hC => ?_)
  · rcases hQ _ _ hC with ⟨v, e, g, hg, h⟩ | ⟨e, h⟩ | ⟨e, h⟩
    · cases e
      refine xx_cst (st2 := [.int v, .int 0, .ref w]) rfl ?_
      refine xx_i2l dL_strategy_10 ?_
      refine xx_last dL_strategy_11 hg (by unfold vp_in; decide) (xx_gu fun C z1 h1 o1 => ?_)
      refine xx_goto (tgt := 23) dL_strategy_12 (by decide) ?_
      refine xx_iconst (v := 0) dL_strategy_23 (by decide) ?_
      exact xx_iret dL_strategy_24 rfl ⟨_, rfl, h C z1 h1 o1⟩
    · exact absurd e (by simp)
    · exact absurd e (by simp)
  · rcases hQ _ _ hC with ⟨v, e, g, hg, h⟩ | ⟨e, h⟩ | ⟨e, h⟩
    · exact absurd e (by simp)
    · cases e
      refine xx_catch (hpc := 15) (Or.inl ⟨⟨by decide, by decide⟩, by decide, rfl, wc_L_19, xx_cs_ise⟩) (fun q => ?_)
      refine xx_astore dL_strategy_15 (by decide) ?_
      refine xx_clv (lv2 := [(0, .ref b), (1, .int p0), (2, .int p1), (3, .int p2), (4, .ref w), (5, .ref q)]) rfl ?_
      refine xx_iconst (v := 1) dL_strategy_17 (by decide) ?_
      exact xx_iret dL_strategy_18 rfl ⟨_, rfl, h⟩
    · cases e
      refine xx_catch (hpc := 19) (Or.inr (Or.inr ⟨⟨by decide, by decide⟩, by decide, ⟨_, wc_L_19, xx_nc_as⟩, Or.inl ⟨⟨by decide, by decide⟩, by decide, rfl, wc_L_13, xx_cs_iae⟩⟩)) (fun q => ?_)
      refine xx_astore dL_strategy_19 (by decide) ?_
      refine xx_clv (lv2 := [(0, .ref b), (1, .int p0), (2, .int p1), (3, .int p2), (4, .ref w), (5, .ref q)]) rfl ?_
      refine xx_iconst (v := 2) dL_strategy_21 (by decide) ?_
      exact xx_iret dL_strategy_22 rfl ⟨_, rfl, h⟩
set_option maxRecDepth 100000 in
theorem h_L_gets {G : xx_G} {l : Launch} {A : xx_H} {b w d2 c2 s2 : Nat} {fs : List Value} {p0 p1 p2 : Int32} {Q2 : Option Value ⊕ String → xx_H → Prop} {Q : Int32 → xx_H → Prop} (hb : A.2 b = xx_o 8 fs) (hX : xx_X G l mX8_gets d2 c2 s2 0 (lv_args 0 [.ref b, .int p0, .int p1, .int p2]) [] A Q2) (hQ : ∀ r B, Q2 r B → (∃ v, r = .inl (some (.int v)) ∧ ∃ g, B.2 w = xx_l 1 g ∧ ∀ C : xx_H, C.1 = B.1 → C.2 w = xx_l 1 (vp_updL g 0 v.toInt64) → (∀ q, q ≠ w → C.2 q = B.2 q) → Q 0 C) ∨ (r = .inr R_ise ∧ Q 1 B) ∨ (r = .inr R_iae ∧ Q 2 B)) :
    xx_X G l mL_gets (d2 + 1) c2 s2 0 (lv_args 0 [.ref b, .int p0, .int p1, .int p2, .ref w]) [] A (fun r B => ∃ k, r = .inl (some (.int k)) ∧ Q k B) := by
  refine xx_clv (lv2 := [(0, .ref b), (1, .int p0), (2, .int p1), (3, .int p2), (4, .ref w)]) rfl ?_
  refine xx_aload dL_gets_0 rfl ?_
  refine xx_iconst (v := 0) dL_gets_2 (by decide) ?_
  refine xx_aload_n dL_gets_3 rfl ?_
  refine xx_iload_n dL_gets_4 rfl ?_
  refine xx_iload_n dL_gets_5 rfl ?_
  refine xx_iload_n dL_gets_6 rfl ?_
  refine xx_callV (N := mX8_gets) (vs := [.int p0, .int p1, .int p2]) (b := b) (rest := [.int 0, .ref w]) (d2 := d2) (c2 := c2) (s2 := s2) (c3 := 0) (s3 := 0) dL_gets_7 wm_L_46 wi_X8_gets wv_X8_gets (k := 8) rfl (by decide) hb nX8_gets ⟨pX8_gets, Nat.le_of_ble_eq_true rfl, by omega, Nat.le_of_ble_eq_true rfl, by omega, by omega⟩ hX (fun v B hC => ?_) (fun E B hC => ?_)
  · rcases hQ _ _ hC with ⟨v, e, g, hg, h⟩ | ⟨e, h⟩ | ⟨e, h⟩
    · cases e
      refine xx_cst (st2 := [.int v, .int 0, .ref w]) rfl ?_
      refine xx_i2l dL_gets_10 ?_
      refine xx_last dL_gets_11 hg (by unfold vp_in; decide) (xx_gu fun C z1 h1 o1 => ?_)
      refine xx_goto (tgt := 23) dL_gets_12 (by decide) ?_
      refine xx_iconst (v := 0) dL_gets_23 (by decide) ?_
      exact xx_iret dL_gets_24 rfl ⟨_, rfl, h C z1 h1 o1⟩
    · exact absurd e (by simp)
    · exact absurd e (by simp)
  · rcases hQ _ _ hC with ⟨v, e, g, hg, h⟩ | ⟨e, h⟩ | ⟨e, h⟩
    · exact absurd e (by simp)
    · cases e
      refine xx_catch (hpc := 15) (Or.inl ⟨⟨by decide, by decide⟩, by decide, rfl, wc_L_19, xx_cs_ise⟩) (fun q => ?_)
      refine xx_astore dL_gets_15 (by decide) ?_
      refine xx_clv (lv2 := [(0, .ref b), (1, .int p0), (2, .int p1), (3, .int p2), (4, .ref w), (5, .ref q)]) rfl ?_
      refine xx_iconst (v := 1) dL_gets_17 (by decide) ?_
      exact xx_iret dL_gets_18 rfl ⟨_, rfl, h⟩
    · cases e
      refine xx_catch (hpc := 19) (Or.inr (Or.inr ⟨⟨by decide, by decide⟩, by decide, ⟨_, wc_L_19, xx_nc_as⟩, Or.inl ⟨⟨by decide, by decide⟩, by decide, rfl, wc_L_13, xx_cs_iae⟩⟩)) (fun q => ?_)
      refine xx_astore dL_gets_19 (by decide) ?_
      refine xx_clv (lv2 := [(0, .ref b), (1, .int p0), (2, .int p1), (3, .int p2), (4, .ref w), (5, .ref q)]) rfl ?_
      refine xx_iconst (v := 2) dL_gets_21 (by decide) ?_
      exact xx_iret dL_gets_22 rfl ⟨_, rfl, h⟩
set_option maxRecDepth 100000 in
theorem h_L_replies {G : xx_G} {l : Launch} {A : xx_H} {b w d2 c2 s2 : Nat} {fs : List Value} {p0 p1 : Int32} {Q2 : Option Value ⊕ String → xx_H → Prop} {Q : Int32 → xx_H → Prop} (hb : A.2 b = xx_o 8 fs) (hX : xx_X G l mX8_replies d2 c2 s2 0 (lv_args 0 [.ref b, .int p0, .int p1]) [] A Q2) (hQ : ∀ r B, Q2 r B → (∃ v, r = .inl (some (.int v)) ∧ ∃ g, B.2 w = xx_l 1 g ∧ ∀ C : xx_H, C.1 = B.1 → C.2 w = xx_l 1 (vp_updL g 0 v.toInt64) → (∀ q, q ≠ w → C.2 q = B.2 q) → Q 0 C) ∨ (r = .inr R_ise ∧ Q 1 B) ∨ (r = .inr R_iae ∧ Q 2 B)) :
    xx_X G l mL_replies (d2 + 1) c2 s2 0 (lv_args 0 [.ref b, .int p0, .int p1, .ref w]) [] A (fun r B => ∃ k, r = .inl (some (.int k)) ∧ Q k B) := by
  refine xx_clv (lv2 := [(0, .ref b), (1, .int p0), (2, .int p1), (3, .ref w)]) rfl ?_
  refine xx_aload_n dL_replies_0 rfl ?_
  refine xx_iconst (v := 0) dL_replies_1 (by decide) ?_
  refine xx_aload_n dL_replies_2 rfl ?_
  refine xx_iload_n dL_replies_3 rfl ?_
  refine xx_iload_n dL_replies_4 rfl ?_
  refine xx_callV (N := mX8_replies) (vs := [.int p0, .int p1]) (b := b) (rest := [.int 0, .ref w]) (d2 := d2) (c2 := c2) (s2 := s2) (c3 := 0) (s3 := 0) dL_replies_5 wm_L_49 wi_X8_replies wv_X8_replies (k := 8) rfl (by decide) hb nX8_replies ⟨pX8_replies, Nat.le_of_ble_eq_true rfl, by omega, Nat.le_of_ble_eq_true rfl, by omega, by omega⟩ hX (fun v B hC => ?_) (fun E B hC => ?_)
  · rcases hQ _ _ hC with ⟨v, e, g, hg, h⟩ | ⟨e, h⟩ | ⟨e, h⟩
    · cases e
      refine xx_cst (st2 := [.int v, .int 0, .ref w]) rfl ?_
      refine xx_i2l dL_replies_8 ?_
      refine xx_last dL_replies_9 hg (by unfold vp_in; decide) (xx_gu fun C z1 h1 o1 => ?_)
      refine xx_goto (tgt := 21) dL_replies_10 (by decide) ?_
      refine xx_iconst (v := 0) dL_replies_21 (by decide) ?_
      exact xx_iret dL_replies_22 rfl ⟨_, rfl, h C z1 h1 o1⟩
    · exact absurd e (by simp)
    · exact absurd e (by simp)
  · rcases hQ _ _ hC with ⟨v, e, g, hg, h⟩ | ⟨e, h⟩ | ⟨e, h⟩
    · exact absurd e (by simp)
    · cases e
      refine xx_catch (hpc := 13) (Or.inl ⟨⟨by decide, by decide⟩, by decide, rfl, wc_L_19, xx_cs_ise⟩) (fun q => ?_)
      refine xx_astore dL_replies_13 (by decide) ?_
      refine xx_clv (lv2 := [(0, .ref b), (1, .int p0), (2, .int p1), (3, .ref w), (4, .ref q)]) rfl ?_
      refine xx_iconst (v := 1) dL_replies_15 (by decide) ?_
      exact xx_iret dL_replies_16 rfl ⟨_, rfl, h⟩
    · cases e
      refine xx_catch (hpc := 17) (Or.inr (Or.inr ⟨⟨by decide, by decide⟩, by decide, ⟨_, wc_L_19, xx_nc_as⟩, Or.inl ⟨⟨by decide, by decide⟩, by decide, rfl, wc_L_13, xx_cs_iae⟩⟩)) (fun q => ?_)
      refine xx_astore dL_replies_17 (by decide) ?_
      refine xx_clv (lv2 := [(0, .ref b), (1, .int p0), (2, .int p1), (3, .ref w), (4, .ref q)]) rfl ?_
      refine xx_iconst (v := 2) dL_replies_19 (by decide) ?_
      exact xx_iret dL_replies_20 rfl ⟨_, rfl, h⟩
set_option maxRecDepth 100000 in
theorem h_L_judge {G : xx_G} {l : Launch} {A : xx_H} {b w d2 c2 s2 : Nat} {fs : List Value} {p0 : Int32} {Q2 : Option Value ⊕ String → xx_H → Prop} {Q : Int32 → xx_H → Prop} (hb : A.2 b = xx_o 8 fs) (hX : xx_X G l mX8_judge d2 c2 s2 0 (lv_args 0 [.ref b, .int p0]) [] A Q2) (hQ : ∀ r B, Q2 r B → (∃ v, r = .inl (some (.int v)) ∧ ∃ g, B.2 w = xx_l 1 g ∧ ∀ C : xx_H, C.1 = B.1 → C.2 w = xx_l 1 (vp_updL g 0 (if v = 0 then 0 else 1)) → (∀ q, q ≠ w → C.2 q = B.2 q) → Q 0 C) ∨ (r = .inr R_ise ∧ Q 1 B)) :
    xx_X G l mL_judge (d2 + 1) c2 s2 0 (lv_args 0 [.ref b, .int p0, .ref w]) [] A (fun r B => ∃ k, r = .inl (some (.int k)) ∧ Q k B) := by
  refine xx_clv (lv2 := [(0, .ref b), (1, .int p0), (2, .ref w)]) rfl ?_
  refine xx_aload_n dL_judge_0 rfl ?_
  refine xx_iconst (v := 0) dL_judge_1 (by decide) ?_
  refine xx_aload_n dL_judge_2 rfl ?_
  refine xx_iload_n dL_judge_3 rfl ?_
  refine xx_callV (N := mX8_judge) (vs := [.int p0]) (b := b) (rest := [.int 0, .ref w]) (d2 := d2) (c2 := c2) (s2 := s2) (c3 := 0) (s3 := 0) dL_judge_4 wm_L_52 wi_X8_judge wv_X8_judge (k := 8) rfl (by decide) hb nX8_judge ⟨pX8_judge, Nat.le_of_ble_eq_true rfl, by omega, Nat.le_of_ble_eq_true rfl, by omega, by omega⟩ hX (fun v B hC => ?_) (fun E B hC => ?_)
  · rcases hQ _ _ hC with ⟨v, e, g, hg, h⟩ | ⟨e, h⟩
    · cases e
      refine xx_cst (st2 := [.int v, .int 0, .ref w]) rfl ?_
      refine xx_if_eq (tgt := 14) dL_judge_7 (by decide) (fun j7 => ?_) (fun j7 => ?_)
      · refine xx_lconst (v := 0) dL_judge_14 (by decide) ?_
        refine xx_last dL_judge_15 hg (by unfold vp_in; decide) (xx_gu fun C z1 h1 o1 => ?_)
        refine xx_goto (tgt := 22) dL_judge_16 (by decide) ?_
        refine xx_iconst (v := 0) dL_judge_22 (by decide) ?_
        exact xx_iret dL_judge_23 rfl ⟨_, rfl, h C z1 (by rw [if_pos j7]; exact h1) o1⟩
      · refine xx_lconst (v := 1) dL_judge_10 (by decide) ?_
        refine xx_goto (tgt := 15) dL_judge_11 (by decide) ?_
        refine xx_last dL_judge_15 hg (by unfold vp_in; decide) (xx_gu fun C z1 h1 o1 => ?_)
        refine xx_goto (tgt := 22) dL_judge_16 (by decide) ?_
        refine xx_iconst (v := 0) dL_judge_22 (by decide) ?_
        exact xx_iret dL_judge_23 rfl ⟨_, rfl, h C z1 (by rw [if_neg j7]; exact h1) o1⟩
    · exact absurd e (by simp)
  · rcases hQ _ _ hC with ⟨v, e, g, hg, h⟩ | ⟨e, h⟩
    · exact absurd e (by simp)
    · cases e
      refine xx_catch (hpc := 19) (Or.inl ⟨⟨by decide, by decide⟩, by decide, rfl, wc_L_19, xx_cs_ise⟩) (fun q => ?_)
      refine xx_astore_n dL_judge_19 (by decide) ?_
      refine xx_clv (lv2 := [(0, .ref b), (1, .int p0), (2, .ref w), (3, .ref q)]) rfl ?_
      refine xx_iconst (v := 1) dL_judge_20 (by decide) ?_
      exact xx_iret dL_judge_21 rfl ⟨_, rfl, h⟩
set_option maxRecDepth 100000 in
theorem h_L_index {G : xx_G} {l : Launch} {A : xx_H} {b w d2 c2 s2 : Nat} {fs : List Value} {p0 : Int32} {Q2 : Option Value ⊕ String → xx_H → Prop} {Q : Int32 → xx_H → Prop} (hb : A.2 b = xx_o 8 fs) (hX : xx_X G l mX8_index d2 c2 s2 0 (lv_args 0 [.ref b, .int p0]) [] A Q2) (hQ : ∀ r B, Q2 r B → (∃ v, r = .inl (some (.int v)) ∧ ∃ g, B.2 w = xx_l 1 g ∧ ∀ C : xx_H, C.1 = B.1 → C.2 w = xx_l 1 (vp_updL g 0 v.toInt64) → (∀ q, q ≠ w → C.2 q = B.2 q) → Q 0 C) ∨ (r = .inr R_ise ∧ Q 1 B)) :
    xx_X G l mL_index (d2 + 1) c2 s2 0 (lv_args 0 [.ref b, .int p0, .ref w]) [] A (fun r B => ∃ k, r = .inl (some (.int k)) ∧ Q k B) := by
  refine xx_clv (lv2 := [(0, .ref b), (1, .int p0), (2, .ref w)]) rfl ?_
  refine xx_aload_n dL_index_0 rfl ?_
  refine xx_iconst (v := 0) dL_index_1 (by decide) ?_
  refine xx_aload_n dL_index_2 rfl ?_
  refine xx_iload_n dL_index_3 rfl ?_
  refine xx_callV (N := mX8_index) (vs := [.int p0]) (b := b) (rest := [.int 0, .ref w]) (d2 := d2) (c2 := c2) (s2 := s2) (c3 := 0) (s3 := 0) dL_index_4 wm_L_56 wi_X8_index wv_X8_index (k := 8) rfl (by decide) hb nX8_index ⟨pX8_index, Nat.le_of_ble_eq_true rfl, by omega, Nat.le_of_ble_eq_true rfl, by omega, by omega⟩ hX (fun v B hC => ?_) (fun E B hC => ?_)
  · rcases hQ _ _ hC with ⟨v, e, g, hg, h⟩ | ⟨e, h⟩
    · cases e
      refine xx_cst (st2 := [.int v, .int 0, .ref w]) rfl ?_
      refine xx_i2l dL_index_7 ?_
      refine xx_last dL_index_8 hg (by unfold vp_in; decide) (xx_gu fun C z1 h1 o1 => ?_)
      refine xx_goto (tgt := 15) dL_index_9 (by decide) ?_
      refine xx_iconst (v := 0) dL_index_15 (by decide) ?_
      exact xx_iret dL_index_16 rfl ⟨_, rfl, h C z1 h1 o1⟩
    · exact absurd e (by simp)
  · rcases hQ _ _ hC with ⟨v, e, g, hg, h⟩ | ⟨e, h⟩
    · exact absurd e (by simp)
    · cases e
      refine xx_catch (hpc := 12) (Or.inl ⟨⟨by decide, by decide⟩, by decide, rfl, wc_L_19, xx_cs_ise⟩) (fun q => ?_)
      refine xx_astore_n dL_index_12 (by decide) ?_
      refine xx_clv (lv2 := [(0, .ref b), (1, .int p0), (2, .ref w), (3, .ref q)]) rfl ?_
      refine xx_iconst (v := 1) dL_index_13 (by decide) ?_
      exact xx_iret dL_index_14 rfl ⟨_, rfl, h⟩
set_option maxRecDepth 100000 in
theorem h_L_round {G : xx_G} {l : Launch} {A : xx_H} {b w d2 c2 s2 : Nat} {fs : List Value} {Q2 : Option Value ⊕ String → xx_H → Prop} {Q : Int32 → xx_H → Prop} (hb : A.2 b = xx_o 8 fs) (hX : xx_X G l mX8_round d2 c2 s2 0 (lv_args 0 [.ref b]) [] A Q2) (hQ : ∀ r B, Q2 r B → (∃ v, r = .inl (some (.int v)) ∧ ∃ g, B.2 w = xx_l 1 g ∧ ∀ C : xx_H, C.1 = B.1 → C.2 w = xx_l 1 (vp_updL g 0 v.toInt64) → (∀ q, q ≠ w → C.2 q = B.2 q) → Q 0 C) ∨ (r = .inr R_ise ∧ Q 1 B)) :
    xx_X G l mL_round (d2 + 1) c2 s2 0 (lv_args 0 [.ref b, .ref w]) [] A (fun r B => ∃ k, r = .inl (some (.int k)) ∧ Q k B) := by
  refine xx_clv (lv2 := [(0, .ref b), (1, .ref w)]) rfl ?_
  refine xx_aload_n dL_round_0 rfl ?_
  refine xx_iconst (v := 0) dL_round_1 (by decide) ?_
  refine xx_aload_n dL_round_2 rfl ?_
  refine xx_callV (N := mX8_round) (vs := []) (b := b) (rest := [.int 0, .ref w]) (d2 := d2) (c2 := c2) (s2 := s2) (c3 := 0) (s3 := 0) dL_round_3 wm_L_59 wi_X8_round wv_X8_round (k := 8) rfl (by decide) hb nX8_round ⟨pX8_round, Nat.le_of_ble_eq_true rfl, by omega, Nat.le_of_ble_eq_true rfl, by omega, by omega⟩ hX (fun v B hC => ?_) (fun E B hC => ?_)
  · rcases hQ _ _ hC with ⟨v, e, g, hg, h⟩ | ⟨e, h⟩
    · cases e
      refine xx_cst (st2 := [.int v, .int 0, .ref w]) rfl ?_
      refine xx_i2l dL_round_6 ?_
      refine xx_last dL_round_7 hg (by unfold vp_in; decide) (xx_gu fun C z1 h1 o1 => ?_)
      refine xx_goto (tgt := 14) dL_round_8 (by decide) ?_
      refine xx_iconst (v := 0) dL_round_14 (by decide) ?_
      exact xx_iret dL_round_15 rfl ⟨_, rfl, h C z1 h1 o1⟩
    · exact absurd e (by simp)
  · rcases hQ _ _ hC with ⟨v, e, g, hg, h⟩ | ⟨e, h⟩
    · exact absurd e (by simp)
    · cases e
      refine xx_catch (hpc := 11) (Or.inl ⟨⟨by decide, by decide⟩, by decide, rfl, wc_L_19, xx_cs_ise⟩) (fun q => ?_)
      refine xx_astore_n dL_round_11 (by decide) ?_
      refine xx_clv (lv2 := [(0, .ref b), (1, .ref w), (2, .ref q)]) rfl ?_
      refine xx_iconst (v := 1) dL_round_12 (by decide) ?_
      exact xx_iret dL_round_13 rfl ⟨_, rfl, h⟩
set_option maxRecDepth 100000 in
theorem h_L_isThere {G : xx_G} {l : Launch} {A : xx_H} {b w d2 c2 s2 : Nat} {fs : List Value} {p0 p1 : Int32} {Q2 : Option Value ⊕ String → xx_H → Prop} {Q : Int32 → xx_H → Prop} (hb : A.2 b = xx_o 8 fs) (hX : xx_X G l mX8_isThere d2 c2 s2 0 (lv_args 0 [.ref b, .int p0, .int p1]) [] A Q2) (hQ : ∀ r B, Q2 r B → (∃ v, r = .inl (some (.int v)) ∧ ∃ g, B.2 w = xx_l 1 g ∧ ∀ C : xx_H, C.1 = B.1 → C.2 w = xx_l 1 (vp_updL g 0 (if v = 0 then 0 else 1)) → (∀ q, q ≠ w → C.2 q = B.2 q) → Q 0 C) ∨ (r = .inr R_ise ∧ Q 1 B) ∨ (r = .inr R_iae ∧ Q 2 B)) :
    xx_X G l mL_isThere (d2 + 1) c2 s2 0 (lv_args 0 [.ref b, .int p0, .int p1, .ref w]) [] A (fun r B => ∃ k, r = .inl (some (.int k)) ∧ Q k B) := by
  refine xx_clv (lv2 := [(0, .ref b), (1, .int p0), (2, .int p1), (3, .ref w)]) rfl ?_
  refine xx_aload_n dL_isThere_0 rfl ?_
  refine xx_iconst (v := 0) dL_isThere_1 (by decide) ?_
  refine xx_aload_n dL_isThere_2 rfl ?_
  refine xx_iload_n dL_isThere_3 rfl ?_
  refine xx_iload_n dL_isThere_4 rfl ?_
  refine xx_callV (N := mX8_isThere) (vs := [.int p0, .int p1]) (b := b) (rest := [.int 0, .ref w]) (d2 := d2) (c2 := c2) (s2 := s2) (c3 := 0) (s3 := 0) dL_isThere_5 wm_L_62 wi_X8_isThere wv_X8_isThere (k := 8) rfl (by decide) hb nX8_isThere ⟨pX8_isThere, Nat.le_of_ble_eq_true rfl, by omega, Nat.le_of_ble_eq_true rfl, by omega, by omega⟩ hX (fun v B hC => ?_) (fun E B hC => ?_)
  · rcases hQ _ _ hC with ⟨v, e, g, hg, h⟩ | ⟨e, h⟩ | ⟨e, h⟩
    · cases e
      refine xx_cst (st2 := [.int v, .int 0, .ref w]) rfl ?_
      refine xx_if_eq (tgt := 15) dL_isThere_8 (by decide) (fun j8 => ?_) (fun j8 => ?_)
      · refine xx_lconst (v := 0) dL_isThere_15 (by decide) ?_
        refine xx_last dL_isThere_16 hg (by unfold vp_in; decide) (xx_gu fun C z1 h1 o1 => ?_)
        refine xx_goto (tgt := 28) dL_isThere_17 (by decide) ?_
        refine xx_iconst (v := 0) dL_isThere_28 (by decide) ?_
        exact xx_iret dL_isThere_29 rfl ⟨_, rfl, h C z1 (by rw [if_pos j8]; exact h1) o1⟩
      · refine xx_lconst (v := 1) dL_isThere_11 (by decide) ?_
        refine xx_goto (tgt := 16) dL_isThere_12 (by decide) ?_
        refine xx_last dL_isThere_16 hg (by unfold vp_in; decide) (xx_gu fun C z1 h1 o1 => ?_)
        refine xx_goto (tgt := 28) dL_isThere_17 (by decide) ?_
        refine xx_iconst (v := 0) dL_isThere_28 (by decide) ?_
        exact xx_iret dL_isThere_29 rfl ⟨_, rfl, h C z1 (by rw [if_neg j8]; exact h1) o1⟩
    · exact absurd e (by simp)
    · exact absurd e (by simp)
  · rcases hQ _ _ hC with ⟨v, e, g, hg, h⟩ | ⟨e, h⟩ | ⟨e, h⟩
    · exact absurd e (by simp)
    · cases e
      refine xx_catch (hpc := 20) (Or.inl ⟨⟨by decide, by decide⟩, by decide, rfl, wc_L_19, xx_cs_ise⟩) (fun q => ?_)
      refine xx_astore dL_isThere_20 (by decide) ?_
      refine xx_clv (lv2 := [(0, .ref b), (1, .int p0), (2, .int p1), (3, .ref w), (4, .ref q)]) rfl ?_
      refine xx_iconst (v := 1) dL_isThere_22 (by decide) ?_
      exact xx_iret dL_isThere_23 rfl ⟨_, rfl, h⟩
    · cases e
      refine xx_catch (hpc := 24) (Or.inr (Or.inr ⟨⟨by decide, by decide⟩, by decide, ⟨_, wc_L_19, xx_nc_as⟩, Or.inl ⟨⟨by decide, by decide⟩, by decide, rfl, wc_L_13, xx_cs_iae⟩⟩)) (fun q => ?_)
      refine xx_astore dL_isThere_24 (by decide) ?_
      refine xx_clv (lv2 := [(0, .ref b), (1, .int p0), (2, .int p1), (3, .ref w), (4, .ref q)]) rfl ?_
      refine xx_iconst (v := 2) dL_isThere_26 (by decide) ?_
      exact xx_iret dL_isThere_27 rfl ⟨_, rfl, h⟩
set_option maxRecDepth 100000 in
theorem h_L_part {G : xx_G} {l : Launch} {A : xx_H} {b w d2 c2 s2 : Nat} {fs : List Value} {p0 p1 : Int32} {Q2 : Option Value ⊕ String → xx_H → Prop} {Q : Int32 → xx_H → Prop} (hb : A.2 b = xx_o 8 fs) (hX : xx_X G l mX8_part d2 c2 s2 0 (lv_args 0 [.ref b, .int p0, .int p1]) [] A Q2) (hQ : ∀ r B, Q2 r B → (∃ v, r = .inl (some (.long v)) ∧ ∃ g, B.2 w = xx_l 1 g ∧ ∀ C : xx_H, C.1 = B.1 → C.2 w = xx_l 1 (vp_updL g 0 v) → (∀ q, q ≠ w → C.2 q = B.2 q) → Q 0 C) ∨ (r = .inr R_ioe ∧ Q 1 B)) :
    xx_X G l mL_part (d2 + 1) c2 s2 0 (lv_args 0 [.ref b, .int p0, .int p1, .ref w]) [] A (fun r B => ∃ k, r = .inl (some (.int k)) ∧ Q k B) := by
  refine xx_clv (lv2 := [(0, .ref b), (1, .int p0), (2, .int p1), (3, .ref w)]) rfl ?_
  refine xx_aload_n dL_part_0 rfl ?_
  refine xx_iconst (v := 0) dL_part_1 (by decide) ?_
  refine xx_aload_n dL_part_2 rfl ?_
  refine xx_iload_n dL_part_3 rfl ?_
  refine xx_iload_n dL_part_4 rfl ?_
  refine xx_callV (N := mX8_part) (vs := [.int p0, .int p1]) (b := b) (rest := [.int 0, .ref w]) (d2 := d2) (c2 := c2) (s2 := s2) (c3 := 0) (s3 := 0) dL_part_5 wm_L_66 wi_X8_part wv_X8_part (k := 8) rfl (by decide) hb nX8_part ⟨pX8_part, Nat.le_of_ble_eq_true rfl, by omega, Nat.le_of_ble_eq_true rfl, by omega, by omega⟩ hX (fun v B hC => ?_) (fun E B hC => ?_)
  · rcases hQ _ _ hC with ⟨v, e, g, hg, h⟩ | ⟨e, h⟩
    · cases e
      refine xx_cst (st2 := [.long v, .int 0, .ref w]) rfl ?_
      refine xx_last dL_part_8 hg (by unfold vp_in; decide) (xx_gu fun C z1 h1 o1 => ?_)
      refine xx_goto (tgt := 16) dL_part_9 (by decide) ?_
      refine xx_iconst (v := 0) dL_part_16 (by decide) ?_
      exact xx_iret dL_part_17 rfl ⟨_, rfl, h C z1 h1 o1⟩
    · exact absurd e (by simp)
  · rcases hQ _ _ hC with ⟨v, e, g, hg, h⟩ | ⟨e, h⟩
    · exact absurd e (by simp)
    · cases e
      refine xx_catch (hpc := 12) (Or.inl ⟨⟨by decide, by decide⟩, by decide, rfl, wc_L_29, xx_cs_ioe⟩) (fun q => ?_)
      refine xx_astore dL_part_12 (by decide) ?_
      refine xx_clv (lv2 := [(0, .ref b), (1, .int p0), (2, .int p1), (3, .ref w), (4, .ref q)]) rfl ?_
      refine xx_iconst (v := 1) dL_part_14 (by decide) ?_
      exact xx_iret dL_part_15 rfl ⟨_, rfl, h⟩
set_option maxRecDepth 100000 in
theorem h_L_told {G : xx_G} {l : Launch} {A : xx_H} {b w d2 c2 s2 : Nat} {fs : List Value} {p0 : Int32} {Q2 : Option Value ⊕ String → xx_H → Prop} {Q : Int32 → xx_H → Prop} (hb : A.2 b = xx_o 8 fs) (hX : xx_X G l mX8_told d2 c2 s2 0 (lv_args 0 [.ref b, .int p0]) [] A Q2) (hQ : ∀ r B, Q2 r B → (∃ v, r = .inl (some (.int v)) ∧ ∃ g, B.2 w = xx_l 1 g ∧ ∀ C : xx_H, C.1 = B.1 → C.2 w = xx_l 1 (vp_updL g 0 v.toInt64) → (∀ q, q ≠ w → C.2 q = B.2 q) → Q 0 C) ∨ (r = .inr R_iae ∧ Q 1 B)) :
    xx_X G l mL_told (d2 + 1) c2 s2 0 (lv_args 0 [.ref b, .int p0, .ref w]) [] A (fun r B => ∃ k, r = .inl (some (.int k)) ∧ Q k B) := by
  refine xx_clv (lv2 := [(0, .ref b), (1, .int p0), (2, .ref w)]) rfl ?_
  refine xx_aload_n dL_told_0 rfl ?_
  refine xx_iconst (v := 0) dL_told_1 (by decide) ?_
  refine xx_aload_n dL_told_2 rfl ?_
  refine xx_iload_n dL_told_3 rfl ?_
  refine xx_callV (N := mX8_told) (vs := [.int p0]) (b := b) (rest := [.int 0, .ref w]) (d2 := d2) (c2 := c2) (s2 := s2) (c3 := 0) (s3 := 0) dL_told_4 wm_L_70 wi_X8_told wv_X8_told (k := 8) rfl (by decide) hb nX8_told ⟨pX8_told, Nat.le_of_ble_eq_true rfl, by omega, Nat.le_of_ble_eq_true rfl, by omega, by omega⟩ hX (fun v B hC => ?_) (fun E B hC => ?_)
  · rcases hQ _ _ hC with ⟨v, e, g, hg, h⟩ | ⟨e, h⟩
    · cases e
      refine xx_cst (st2 := [.int v, .int 0, .ref w]) rfl ?_
      refine xx_i2l dL_told_7 ?_
      refine xx_last dL_told_8 hg (by unfold vp_in; decide) (xx_gu fun C z1 h1 o1 => ?_)
      refine xx_goto (tgt := 15) dL_told_9 (by decide) ?_
      refine xx_iconst (v := 0) dL_told_15 (by decide) ?_
      exact xx_iret dL_told_16 rfl ⟨_, rfl, h C z1 h1 o1⟩
    · exact absurd e (by simp)
  · rcases hQ _ _ hC with ⟨v, e, g, hg, h⟩ | ⟨e, h⟩
    · exact absurd e (by simp)
    · cases e
      refine xx_catch (hpc := 12) (Or.inl ⟨⟨by decide, by decide⟩, by decide, rfl, wc_L_13, xx_cs_iae⟩) (fun q => ?_)
      refine xx_astore_n dL_told_12 (by decide) ?_
      refine xx_clv (lv2 := [(0, .ref b), (1, .int p0), (2, .ref w), (3, .ref q)]) rfl ?_
      refine xx_iconst (v := 1) dL_told_13 (by decide) ?_
      exact xx_iret dL_told_14 rfl ⟨_, rfl, h⟩

/-! ===== the law's cases, over what the two sides do ===== -/
abbrev mL_law : xx_M := (yL_law, cL_law, 8, some .boolean, [])
abbrev xx_lv5 (z b c w : Nat) (i : Nat) : List (Nat × Value) := [(0, .ref z), (1, .ref b), (2, .ref c), (3, .ref w), (4, .int (nI i))]
theorem xx_ik (i k : Nat) : nI i + nI k = nI (i + k) := nI_add i k
set_option maxRecDepth 100000 in
theorem t_X9_thrown {G : xx_G} {l : Launch} {A : xx_H} {c : Nat} {t : Int32} {fs : List Value} (hb : A.2 c = xx_o 9 (.int t :: fs)) : xx_X G l mX9_thrown 0 0 0 0 (lv_args 0 [.ref c]) [] A (fun r B => r = .inl (some (.int t)) ∧ B = A) := by
  refine xx_clv (lv2 := [(0, .ref c)]) rfl ?_
  refine xx_aload_n dX9_thrown_0 rfl ?_
  refine xx_get xx_c9 dX9_thrown_1 wf_X9_84 (j := 0) (by decide) hb rfl ?_
  exact xx_iret dX9_thrown_4 rfl ⟨rfl, rfl⟩
set_option maxRecDepth 100000 in
theorem k_game {G : xx_G} {l : Launch} {A : xx_H} {z b c w i L : Nat} {xs : Nat → Int32} {d d1 d2 c1 s1 c2 s2 c3 s3 : Nat} {P1 : Int32 → xx_H → Prop} {P2 : Int32 → xx_H → Prop} {Q : Option Value ⊕ String → xx_H → Prop} (hi : i + 6 ≤ L) (hL : L < 2 ^ 31) (hd1 : d1 + 1 ≤ d) (hd2 : d2 + 1 ≤ d) (hs : A.2 z = xx_s L xs)
    (hX : xx_X G l mL_game d1 c1 s1 0 (lv_args 0 [.ref b, .int (xs (i + 1)), .int (xs (i + 2))]) [] A (fun r B => ∃ k, r = .inl (some (.int k)) ∧ P1 k B))
    (hM : ∀ k B, P1 k B → B.2 z = xx_s L xs ∧ (∃ fs, B.2 c = xx_o 9 fs) ∧ xx_X G l mX9_game d2 c2 s2 0 (lv_args 0 [.ref c, .int (xs (i + 1)), .int (xs (i + 2))]) [] B (fun r C => r = .inl none ∧ P2 k C))
    (hK : ∀ k C, P2 k C → (∃ fs, C.2 c = xx_o 9 (.int k :: fs) ∧ fs.length = 28) ∧ xx_X G l mL_law d c3 s3 1182 (xx_lv5 z b c w i) [] C Q) : xx_X G l mL_law d (c1 + (c2 + c3)) (s1 + (s2 + s3)) 124 (xx_lv5 z b c w i) [] A Q := by
  refine xx_aload_n dL_law_124 rfl ?_
  refine xx_aload_n dL_law_125 rfl ?_
  refine xx_iload dL_law_126 rfl ?_
  refine xx_iconst (v := 1) dL_law_128 (by decide) ?_
  refine xx_iadd dL_law_129 ?_
  refine xx_eqi (y := nI (i + 1)) (xx_ik i 1) ?_
  refine xx_sald dL_law_130 hs (vp_in_nI (by omega) hL) ?_
  refine xx_eqi (y := xs (i + 1)) (by rw [nI_clamp (by omega)]) ?_
  refine xx_aload_n dL_law_131 rfl ?_
  refine xx_iload dL_law_132 rfl ?_
  refine xx_iconst (v := 2) dL_law_134 (by decide) ?_
  refine xx_iadd dL_law_135 ?_
  refine xx_eqi (y := nI (i + 2)) (xx_ik i 2) ?_
  refine xx_sald dL_law_136 hs (vp_in_nI (by omega) hL) ?_
  refine xx_eqi (y := xs (i + 2)) (by rw [nI_clamp (by omega)]) ?_
  refine xx_callS (N := mL_game) (vs := [.ref b, .int (xs (i + 1)), .int (xs (i + 2))]) (rest := []) (d2 := d1) (c2 := c1) (s2 := s1) (c3 := c2 + c3) (s3 := s2 + s3) dL_law_137 wm_L_77 ws_L_game wz_L (by decide) nL_game ⟨pL_game, Nat.le_of_ble_eq_true rfl, by omega, Nat.le_of_ble_eq_true rfl, by omega, by omega⟩ hX (fun v B hC => ?_) (fun E B hC => ?_)
  rotate_left
  · obtain ⟨k, e, _⟩ := hC; exact absurd e (by simp)
  obtain ⟨k, e, hp1⟩ := hC
  cases e
  obtain ⟨hs1, ⟨fs1, hc1⟩, hm⟩ := hM k B hp1
  refine xx_cst (st2 := [.int k]) rfl ?_
  refine xx_istore dL_law_140 (by decide) ?_
  refine xx_clv (lv2 := [(0, .ref z), (1, .ref b), (2, .ref c), (3, .ref w), (4, .int (nI i)), (5, .int k)]) rfl ?_
  refine xx_aload_n dL_law_142 rfl ?_
  refine xx_aload_n dL_law_143 rfl ?_
  refine xx_iload dL_law_144 rfl ?_
  refine xx_iconst (v := 1) dL_law_146 (by decide) ?_
  refine xx_iadd dL_law_147 ?_
  refine xx_eqi (y := nI (i + 1)) (xx_ik i 1) ?_
  refine xx_sald dL_law_148 hs1 (vp_in_nI (by omega) hL) ?_
  refine xx_eqi (y := xs (i + 1)) (by rw [nI_clamp (by omega)]) ?_
  refine xx_aload_n dL_law_149 rfl ?_
  refine xx_iload dL_law_150 rfl ?_
  refine xx_iconst (v := 2) dL_law_152 (by decide) ?_
  refine xx_iadd dL_law_153 ?_
  refine xx_eqi (y := nI (i + 2)) (xx_ik i 2) ?_
  refine xx_sald dL_law_154 hs1 (vp_in_nI (by omega) hL) ?_
  refine xx_eqi (y := xs (i + 2)) (by rw [nI_clamp (by omega)]) ?_
  refine xx_callV (N := mX9_game) (vs := [.int (xs (i + 1)), .int (xs (i + 2))]) (b := c) (rest := []) (d2 := d2) (c2 := c2) (s2 := s2) (c3 := c3) (s3 := s3) dL_law_155 wm_L_82 wi_X9_game wv_X9_game (k := 9) rfl (by decide) hc1 nX9_game ⟨pX9_game, Nat.le_of_ble_eq_true rfl, by omega, Nat.le_of_ble_eq_true rfl, by omega, by omega⟩ hm (fun v C hC => ?_) (fun E C hC => ?_)
  rotate_left
  · exact absurd hC.1 (by simp)
  obtain ⟨e, hp2⟩ := hC
  cases e
  obtain ⟨⟨fs2, hc2, _⟩, hk⟩ := hK k C hp2
  refine xx_cst (st2 := []) rfl ?_
  refine xx_aload_n dL_law_158 rfl ?_
  refine xx_callV (N := mX9_thrown) (vs := []) (b := c) (rest := []) (d2 := 0) (c2 := 0) (s2 := 0) (c3 := c3) (s3 := s3) dL_law_159 wm_L_83 wi_X9_thrown wv_X9_thrown (k := 9) rfl (by decide) hc2 nX9_thrown ⟨pX9_thrown, Nat.le_of_ble_eq_true rfl, by omega, Nat.le_of_ble_eq_true rfl, by omega, by omega⟩ (t_X9_thrown hc2) (fun v2 D hC => ?_) (fun E D hC => absurd hC.1 (by simp))
  obtain ⟨hv, rfl⟩ := hC
  cases hv
  refine xx_cst (st2 := [.int k]) rfl ?_
  refine xx_iload dL_law_162 rfl ?_
  refine xx_icmp_eq (tgt := 169) dL_law_164 (by decide) (fun _ => ?_) (fun h => absurd rfl h)
  refine xx_goto (tgt := 1182) dL_law_169 (by decide) ?_
  refine xx_less [0, 1, 2, 3, 4] ?_
  refine xx_clv (lv2 := xx_lv5 z b c w i) rfl ?_
  exact hk
set_option maxRecDepth 100000 in
theorem k_pay {G : xx_G} {l : Launch} {A : xx_H} {z b c w i L : Nat} {xs : Nat → Int32} {d d1 d2 c1 s1 c2 s2 c3 s3 : Nat} {P1 : Int32 → xx_H → Prop} {P2 : Int32 → xx_H → Prop} {Q : Option Value ⊕ String → xx_H → Prop} (hi : i + 6 ≤ L) (hL : L < 2 ^ 31) (hd1 : d1 + 1 ≤ d) (hd2 : d2 + 1 ≤ d) (hs : A.2 z = xx_s L xs)
    (hX : xx_X G l mL_pay d1 c1 s1 0 (lv_args 0 [.ref b, .int (xs (i + 1)), .int (xs (i + 2)), .int (xs (i + 3)), .int (xs (i + 4)), .int (xs (i + 5))]) [] A (fun r B => ∃ k, r = .inl (some (.int k)) ∧ P1 k B))
    (hM : ∀ k B, P1 k B → B.2 z = xx_s L xs ∧ (∃ fs, B.2 c = xx_o 9 fs) ∧ xx_X G l mX9_pay d2 c2 s2 0 (lv_args 0 [.ref c, .int (xs (i + 1)), .int (xs (i + 2)), .int (xs (i + 3)), .int (xs (i + 4)), .int (xs (i + 5))]) [] B (fun r C => r = .inl none ∧ P2 k C))
    (hK : ∀ k C, P2 k C → (∃ fs, C.2 c = xx_o 9 (.int k :: fs) ∧ fs.length = 28) ∧ xx_X G l mL_law d c3 s3 1182 (xx_lv5 z b c w i) [] C Q) : xx_X G l mL_law d (c1 + (c2 + c3)) (s1 + (s2 + s3)) 172 (xx_lv5 z b c w i) [] A Q := by
  refine xx_aload_n dL_law_172 rfl ?_
  refine xx_aload_n dL_law_173 rfl ?_
  refine xx_iload dL_law_174 rfl ?_
  refine xx_iconst (v := 1) dL_law_176 (by decide) ?_
  refine xx_iadd dL_law_177 ?_
  refine xx_eqi (y := nI (i + 1)) (xx_ik i 1) ?_
  refine xx_sald dL_law_178 hs (vp_in_nI (by omega) hL) ?_
  refine xx_eqi (y := xs (i + 1)) (by rw [nI_clamp (by omega)]) ?_
  refine xx_aload_n dL_law_179 rfl ?_
  refine xx_iload dL_law_180 rfl ?_
  refine xx_iconst (v := 2) dL_law_182 (by decide) ?_
  refine xx_iadd dL_law_183 ?_
  refine xx_eqi (y := nI (i + 2)) (xx_ik i 2) ?_
  refine xx_sald dL_law_184 hs (vp_in_nI (by omega) hL) ?_
  refine xx_eqi (y := xs (i + 2)) (by rw [nI_clamp (by omega)]) ?_
  refine xx_aload_n dL_law_185 rfl ?_
  refine xx_iload dL_law_186 rfl ?_
  refine xx_iconst (v := 3) dL_law_188 (by decide) ?_
  refine xx_iadd dL_law_189 ?_
  refine xx_eqi (y := nI (i + 3)) (xx_ik i 3) ?_
  refine xx_sald dL_law_190 hs (vp_in_nI (by omega) hL) ?_
  refine xx_eqi (y := xs (i + 3)) (by rw [nI_clamp (by omega)]) ?_
  refine xx_aload_n dL_law_191 rfl ?_
  refine xx_iload dL_law_192 rfl ?_
  refine xx_iconst (v := 4) dL_law_194 (by decide) ?_
  refine xx_iadd dL_law_195 ?_
  refine xx_eqi (y := nI (i + 4)) (xx_ik i 4) ?_
  refine xx_sald dL_law_196 hs (vp_in_nI (by omega) hL) ?_
  refine xx_eqi (y := xs (i + 4)) (by rw [nI_clamp (by omega)]) ?_
  refine xx_aload_n dL_law_197 rfl ?_
  refine xx_iload dL_law_198 rfl ?_
  refine xx_iconst (v := 5) dL_law_200 (by decide) ?_
  refine xx_iadd dL_law_201 ?_
  refine xx_eqi (y := nI (i + 5)) (xx_ik i 5) ?_
  refine xx_sald dL_law_202 hs (vp_in_nI (by omega) hL) ?_
  refine xx_eqi (y := xs (i + 5)) (by rw [nI_clamp (by omega)]) ?_
  refine xx_callS (N := mL_pay) (vs := [.ref b, .int (xs (i + 1)), .int (xs (i + 2)), .int (xs (i + 3)), .int (xs (i + 4)), .int (xs (i + 5))]) (rest := []) (d2 := d1) (c2 := c1) (s2 := s1) (c3 := c2 + c3) (s3 := s2 + s3) dL_law_203 wm_L_86 ws_L_pay wz_L (by decide) nL_pay ⟨pL_pay, Nat.le_of_ble_eq_true rfl, by omega, Nat.le_of_ble_eq_true rfl, by omega, by omega⟩ hX (fun v B hC => ?_) (fun E B hC => ?_)
  rotate_left
  · obtain ⟨k, e, _⟩ := hC; exact absurd e (by simp)
  obtain ⟨k, e, hp1⟩ := hC
  cases e
  obtain ⟨hs1, ⟨fs1, hc1⟩, hm⟩ := hM k B hp1
  refine xx_cst (st2 := [.int k]) rfl ?_
  refine xx_istore dL_law_206 (by decide) ?_
  refine xx_clv (lv2 := [(0, .ref z), (1, .ref b), (2, .ref c), (3, .ref w), (4, .int (nI i)), (5, .int k)]) rfl ?_
  refine xx_aload_n dL_law_208 rfl ?_
  refine xx_aload_n dL_law_209 rfl ?_
  refine xx_iload dL_law_210 rfl ?_
  refine xx_iconst (v := 1) dL_law_212 (by decide) ?_
  refine xx_iadd dL_law_213 ?_
  refine xx_eqi (y := nI (i + 1)) (xx_ik i 1) ?_
  refine xx_sald dL_law_214 hs1 (vp_in_nI (by omega) hL) ?_
  refine xx_eqi (y := xs (i + 1)) (by rw [nI_clamp (by omega)]) ?_
  refine xx_aload_n dL_law_215 rfl ?_
  refine xx_iload dL_law_216 rfl ?_
  refine xx_iconst (v := 2) dL_law_218 (by decide) ?_
  refine xx_iadd dL_law_219 ?_
  refine xx_eqi (y := nI (i + 2)) (xx_ik i 2) ?_
  refine xx_sald dL_law_220 hs1 (vp_in_nI (by omega) hL) ?_
  refine xx_eqi (y := xs (i + 2)) (by rw [nI_clamp (by omega)]) ?_
  refine xx_aload_n dL_law_221 rfl ?_
  refine xx_iload dL_law_222 rfl ?_
  refine xx_iconst (v := 3) dL_law_224 (by decide) ?_
  refine xx_iadd dL_law_225 ?_
  refine xx_eqi (y := nI (i + 3)) (xx_ik i 3) ?_
  refine xx_sald dL_law_226 hs1 (vp_in_nI (by omega) hL) ?_
  refine xx_eqi (y := xs (i + 3)) (by rw [nI_clamp (by omega)]) ?_
  refine xx_aload_n dL_law_227 rfl ?_
  refine xx_iload dL_law_228 rfl ?_
  refine xx_iconst (v := 4) dL_law_230 (by decide) ?_
  refine xx_iadd dL_law_231 ?_
  refine xx_eqi (y := nI (i + 4)) (xx_ik i 4) ?_
  refine xx_sald dL_law_232 hs1 (vp_in_nI (by omega) hL) ?_
  refine xx_eqi (y := xs (i + 4)) (by rw [nI_clamp (by omega)]) ?_
  refine xx_aload_n dL_law_233 rfl ?_
  refine xx_iload dL_law_234 rfl ?_
  refine xx_iconst (v := 5) dL_law_236 (by decide) ?_
  refine xx_iadd dL_law_237 ?_
  refine xx_eqi (y := nI (i + 5)) (xx_ik i 5) ?_
  refine xx_sald dL_law_238 hs1 (vp_in_nI (by omega) hL) ?_
  refine xx_eqi (y := xs (i + 5)) (by rw [nI_clamp (by omega)]) ?_
  refine xx_callV (N := mX9_pay) (vs := [.int (xs (i + 1)), .int (xs (i + 2)), .int (xs (i + 3)), .int (xs (i + 4)), .int (xs (i + 5))]) (b := c) (rest := []) (d2 := d2) (c2 := c2) (s2 := s2) (c3 := c3) (s3 := s3) dL_law_239 wm_L_89 wi_X9_pay wv_X9_pay (k := 9) rfl (by decide) hc1 nX9_pay ⟨pX9_pay, Nat.le_of_ble_eq_true rfl, by omega, Nat.le_of_ble_eq_true rfl, by omega, by omega⟩ hm (fun v C hC => ?_) (fun E C hC => ?_)
  rotate_left
  · exact absurd hC.1 (by simp)
  obtain ⟨e, hp2⟩ := hC
  cases e
  obtain ⟨⟨fs2, hc2, _⟩, hk⟩ := hK k C hp2
  refine xx_cst (st2 := []) rfl ?_
  refine xx_aload_n dL_law_242 rfl ?_
  refine xx_callV (N := mX9_thrown) (vs := []) (b := c) (rest := []) (d2 := 0) (c2 := 0) (s2 := 0) (c3 := c3) (s3 := s3) dL_law_243 wm_L_83 wi_X9_thrown wv_X9_thrown (k := 9) rfl (by decide) hc2 nX9_thrown ⟨pX9_thrown, Nat.le_of_ble_eq_true rfl, by omega, Nat.le_of_ble_eq_true rfl, by omega, by omega⟩ (t_X9_thrown hc2) (fun v2 D hC => ?_) (fun E D hC => absurd hC.1 (by simp))
  obtain ⟨hv, rfl⟩ := hC
  cases hv
  refine xx_cst (st2 := [.int k]) rfl ?_
  refine xx_iload dL_law_246 rfl ?_
  refine xx_icmp_eq (tgt := 253) dL_law_248 (by decide) (fun _ => ?_) (fun h => absurd rfl h)
  refine xx_goto (tgt := 1182) dL_law_253 (by decide) ?_
  refine xx_less [0, 1, 2, 3, 4] ?_
  refine xx_clv (lv2 := xx_lv5 z b c w i) rfl ?_
  exact hk
set_option maxRecDepth 100000 in
theorem k_run {G : xx_G} {l : Launch} {A : xx_H} {z b c w i L : Nat} {xs : Nat → Int32} {d d1 d2 c1 s1 c2 s2 c3 s3 : Nat} {P1 : Int32 → xx_H → Prop} {P2 : Int32 → Int32 → xx_H → Prop} {Q : Option Value ⊕ String → xx_H → Prop} (hi : i + 6 ≤ L) (hL : L < 2 ^ 31) (hd1 : d1 + 1 ≤ d) (hd2 : d2 + 1 ≤ d) (hs : A.2 z = xx_s L xs)
    (hX : xx_X G l mL_run d1 c1 s1 0 (lv_args 0 [.ref b, .int (xs (i + 1)), .ref w]) [] A (fun r B => ∃ k, r = .inl (some (.int k)) ∧ P1 k B))
    (hM : ∀ k B, P1 k B → B.2 z = xx_s L xs ∧ (∃ fs, B.2 c = xx_o 9 fs) ∧ xx_X G l mX9_run d2 c2 s2 0 (lv_args 0 [.ref c, .int (xs (i + 1))]) [] B (fun r C => ∃ v, r = .inl (some (.int v)) ∧ P2 k v C))
    (hK : ∀ k v C, P2 k v C → (∃ fs, C.2 c = xx_o 9 (.int k :: fs) ∧ fs.length = 28) ∧ (k = 0 → ∃ g, C.2 w = xx_l 1 g ∧ g 0 = v.toInt64) ∧ xx_X G l mL_law d c3 s3 1182 (xx_lv5 z b c w i) [] C Q) : xx_X G l mL_law d (c1 + (c2 + c3)) (s1 + (s2 + s3)) 256 (xx_lv5 z b c w i) [] A Q := by
  refine xx_aload_n dL_law_256 rfl ?_
  refine xx_aload_n dL_law_257 rfl ?_
  refine xx_iload dL_law_258 rfl ?_
  refine xx_iconst (v := 1) dL_law_260 (by decide) ?_
  refine xx_iadd dL_law_261 ?_
  refine xx_eqi (y := nI (i + 1)) (xx_ik i 1) ?_
  refine xx_sald dL_law_262 hs (vp_in_nI (by omega) hL) ?_
  refine xx_eqi (y := xs (i + 1)) (by rw [nI_clamp (by omega)]) ?_
  refine xx_aload_n dL_law_263 rfl ?_
  refine xx_callS (N := mL_run) (vs := [.ref b, .int (xs (i + 1)), .ref w]) (rest := []) (d2 := d1) (c2 := c1) (s2 := s1) (c3 := c2 + c3) (s3 := s2 + s3) dL_law_264 wm_L_90 ws_L_run wz_L (by decide) nL_run ⟨pL_run, Nat.le_of_ble_eq_true rfl, by omega, Nat.le_of_ble_eq_true rfl, by omega, by omega⟩ hX (fun v B hC => ?_) (fun E B hC => ?_)
  rotate_left
  · obtain ⟨k, e, _⟩ := hC; exact absurd e (by simp)
  obtain ⟨k, e, hp1⟩ := hC
  cases e
  obtain ⟨hs1, ⟨fs1, hc1⟩, hm⟩ := hM k B hp1
  refine xx_cst (st2 := [.int k]) rfl ?_
  refine xx_istore dL_law_267 (by decide) ?_
  refine xx_clv (lv2 := [(0, .ref z), (1, .ref b), (2, .ref c), (3, .ref w), (4, .int (nI i)), (5, .int k)]) rfl ?_
  refine xx_aload_n dL_law_269 rfl ?_
  refine xx_aload_n dL_law_270 rfl ?_
  refine xx_iload dL_law_271 rfl ?_
  refine xx_iconst (v := 1) dL_law_273 (by decide) ?_
  refine xx_iadd dL_law_274 ?_
  refine xx_eqi (y := nI (i + 1)) (xx_ik i 1) ?_
  refine xx_sald dL_law_275 hs1 (vp_in_nI (by omega) hL) ?_
  refine xx_eqi (y := xs (i + 1)) (by rw [nI_clamp (by omega)]) ?_
  refine xx_callV (N := mX9_run) (vs := [.int (xs (i + 1))]) (b := c) (rest := []) (d2 := d2) (c2 := c2) (s2 := s2) (c3 := c3) (s3 := s3) dL_law_276 wm_L_93 wi_X9_run wv_X9_run (k := 9) rfl (by decide) hc1 nX9_run ⟨pX9_run, Nat.le_of_ble_eq_true rfl, by omega, Nat.le_of_ble_eq_true rfl, by omega, by omega⟩ hm (fun v C hC => ?_) (fun E C hC => ?_)
  rotate_left
  · obtain ⟨v, e, _⟩ := hC; exact absurd e (by simp)
  obtain ⟨v, e, hp2⟩ := hC
  cases e
  obtain ⟨⟨fs2, hc2, _⟩, he, hk⟩ := hK k v C hp2
  refine xx_cst (st2 := [.int v]) rfl ?_
  refine xx_istore dL_law_279 (by decide) ?_
  refine xx_clv (lv2 := [(0, .ref z), (1, .ref b), (2, .ref c), (3, .ref w), (4, .int (nI i)), (5, .int k), (6, .int v)]) rfl ?_
  refine xx_aload_n dL_law_281 rfl ?_
  refine xx_callV (N := mX9_thrown) (vs := []) (b := c) (rest := []) (d2 := 0) (c2 := 0) (s2 := 0) (c3 := c3) (s3 := s3) dL_law_282 wm_L_83 wi_X9_thrown wv_X9_thrown (k := 9) rfl (by decide) hc2 nX9_thrown ⟨pX9_thrown, Nat.le_of_ble_eq_true rfl, by omega, Nat.le_of_ble_eq_true rfl, by omega, by omega⟩ (t_X9_thrown hc2) (fun v2 D hC => ?_) (fun E D hC => absurd hC.1 (by simp))
  obtain ⟨hv, rfl⟩ := hC
  cases hv
  refine xx_cst (st2 := [.int k]) rfl ?_
  refine xx_iload dL_law_285 rfl ?_
  refine xx_icmp_eq (tgt := 292) dL_law_287 (by decide) (fun _ => ?_) (fun h => absurd rfl h)
  refine xx_iload dL_law_292 rfl ?_
  refine xx_if_ne (tgt := 309) dL_law_294 (by decide) (fun _ => ?_) (fun k0 => ?_)
  · refine xx_goto (tgt := 1182) dL_law_309 (by decide) ?_
    refine xx_less [0, 1, 2, 3, 4] ?_
    refine xx_clv (lv2 := xx_lv5 z b c w i) rfl ?_
    exact hk
  · obtain ⟨g, hg, e0⟩ := he k0
    refine xx_aload_n dL_law_297 rfl ?_
    refine xx_iconst (v := 0) dL_law_298 (by decide) ?_
    refine xx_lald dL_law_299 hg (by unfold vp_in; decide) ?_
    refine xx_eql (y := v.toInt64) e0 ?_
    refine xx_iload dL_law_300 rfl ?_
    refine xx_i2l dL_law_302 ?_
    refine xx_lcmp dL_law_303 ?_
    refine xx_if_eq (tgt := 309) dL_law_304 (by decide) (fun _ => ?_) (fun h => absurd ((lg_cmp_eq _ _).mpr rfl) h)
    refine xx_goto (tgt := 1182) dL_law_309 (by decide) ?_
    refine xx_less [0, 1, 2, 3, 4] ?_
    refine xx_clv (lv2 := xx_lv5 z b c w i) rfl ?_
    exact hk
set_option maxRecDepth 100000 in
theorem k_step {G : xx_G} {l : Launch} {A : xx_H} {z b c w i L : Nat} {xs : Nat → Int32} {d d1 d2 c1 s1 c2 s2 c3 s3 : Nat} {P1 : Int32 → xx_H → Prop} {P2 : Int32 → Int32 → xx_H → Prop} {Q : Option Value ⊕ String → xx_H → Prop} (hi : i + 6 ≤ L) (hL : L < 2 ^ 31) (hd1 : d1 + 1 ≤ d) (hd2 : d2 + 1 ≤ d) (hs : A.2 z = xx_s L xs)
    (hX : xx_X G l mL_step d1 c1 s1 0 (lv_args 0 [.ref b, .int (xs (i + 1)), .int (xs (i + 2)), .ref w]) [] A (fun r B => ∃ k, r = .inl (some (.int k)) ∧ P1 k B))
    (hM : ∀ k B, P1 k B → B.2 z = xx_s L xs ∧ (∃ fs, B.2 c = xx_o 9 fs) ∧ xx_X G l mX9_step d2 c2 s2 0 (lv_args 0 [.ref c, .int (xs (i + 1)), .int (xs (i + 2))]) [] B (fun r C => ∃ v, r = .inl (some (.int v)) ∧ P2 k v C))
    (hK : ∀ k v C, P2 k v C → (∃ fs, C.2 c = xx_o 9 (.int k :: fs) ∧ fs.length = 28) ∧ (k = 0 → ∃ g, C.2 w = xx_l 1 g ∧ g 0 = v.toInt64) ∧ xx_X G l mL_law d c3 s3 1182 (xx_lv5 z b c w i) [] C Q) : xx_X G l mL_law d (c1 + (c2 + c3)) (s1 + (s2 + s3)) 312 (xx_lv5 z b c w i) [] A Q := by
  refine xx_aload_n dL_law_312 rfl ?_
  refine xx_aload_n dL_law_313 rfl ?_
  refine xx_iload dL_law_314 rfl ?_
  refine xx_iconst (v := 1) dL_law_316 (by decide) ?_
  refine xx_iadd dL_law_317 ?_
  refine xx_eqi (y := nI (i + 1)) (xx_ik i 1) ?_
  refine xx_sald dL_law_318 hs (vp_in_nI (by omega) hL) ?_
  refine xx_eqi (y := xs (i + 1)) (by rw [nI_clamp (by omega)]) ?_
  refine xx_aload_n dL_law_319 rfl ?_
  refine xx_iload dL_law_320 rfl ?_
  refine xx_iconst (v := 2) dL_law_322 (by decide) ?_
  refine xx_iadd dL_law_323 ?_
  refine xx_eqi (y := nI (i + 2)) (xx_ik i 2) ?_
  refine xx_sald dL_law_324 hs (vp_in_nI (by omega) hL) ?_
  refine xx_eqi (y := xs (i + 2)) (by rw [nI_clamp (by omega)]) ?_
  refine xx_aload_n dL_law_325 rfl ?_
  refine xx_callS (N := mL_step) (vs := [.ref b, .int (xs (i + 1)), .int (xs (i + 2)), .ref w]) (rest := []) (d2 := d1) (c2 := c1) (s2 := s1) (c3 := c2 + c3) (s3 := s2 + s3) dL_law_326 wm_L_94 ws_L_step wz_L (by decide) nL_step ⟨pL_step, Nat.le_of_ble_eq_true rfl, by omega, Nat.le_of_ble_eq_true rfl, by omega, by omega⟩ hX (fun v B hC => ?_) (fun E B hC => ?_)
  rotate_left
  · obtain ⟨k, e, _⟩ := hC; exact absurd e (by simp)
  obtain ⟨k, e, hp1⟩ := hC
  cases e
  obtain ⟨hs1, ⟨fs1, hc1⟩, hm⟩ := hM k B hp1
  refine xx_cst (st2 := [.int k]) rfl ?_
  refine xx_istore dL_law_329 (by decide) ?_
  refine xx_clv (lv2 := [(0, .ref z), (1, .ref b), (2, .ref c), (3, .ref w), (4, .int (nI i)), (5, .int k)]) rfl ?_
  refine xx_aload_n dL_law_331 rfl ?_
  refine xx_aload_n dL_law_332 rfl ?_
  refine xx_iload dL_law_333 rfl ?_
  refine xx_iconst (v := 1) dL_law_335 (by decide) ?_
  refine xx_iadd dL_law_336 ?_
  refine xx_eqi (y := nI (i + 1)) (xx_ik i 1) ?_
  refine xx_sald dL_law_337 hs1 (vp_in_nI (by omega) hL) ?_
  refine xx_eqi (y := xs (i + 1)) (by rw [nI_clamp (by omega)]) ?_
  refine xx_aload_n dL_law_338 rfl ?_
  refine xx_iload dL_law_339 rfl ?_
  refine xx_iconst (v := 2) dL_law_341 (by decide) ?_
  refine xx_iadd dL_law_342 ?_
  refine xx_eqi (y := nI (i + 2)) (xx_ik i 2) ?_
  refine xx_sald dL_law_343 hs1 (vp_in_nI (by omega) hL) ?_
  refine xx_eqi (y := xs (i + 2)) (by rw [nI_clamp (by omega)]) ?_
  refine xx_callV (N := mX9_step) (vs := [.int (xs (i + 1)), .int (xs (i + 2))]) (b := c) (rest := []) (d2 := d2) (c2 := c2) (s2 := s2) (c3 := c3) (s3 := s3) dL_law_344 wm_L_97 wi_X9_step wv_X9_step (k := 9) rfl (by decide) hc1 nX9_step ⟨pX9_step, Nat.le_of_ble_eq_true rfl, by omega, Nat.le_of_ble_eq_true rfl, by omega, by omega⟩ hm (fun v C hC => ?_) (fun E C hC => ?_)
  rotate_left
  · obtain ⟨v, e, _⟩ := hC; exact absurd e (by simp)
  obtain ⟨v, e, hp2⟩ := hC
  cases e
  obtain ⟨⟨fs2, hc2, _⟩, he, hk⟩ := hK k v C hp2
  refine xx_cst (st2 := [.int v]) rfl ?_
  refine xx_istore dL_law_347 (by decide) ?_
  refine xx_clv (lv2 := [(0, .ref z), (1, .ref b), (2, .ref c), (3, .ref w), (4, .int (nI i)), (5, .int k), (6, .int v)]) rfl ?_
  refine xx_aload_n dL_law_349 rfl ?_
  refine xx_callV (N := mX9_thrown) (vs := []) (b := c) (rest := []) (d2 := 0) (c2 := 0) (s2 := 0) (c3 := c3) (s3 := s3) dL_law_350 wm_L_83 wi_X9_thrown wv_X9_thrown (k := 9) rfl (by decide) hc2 nX9_thrown ⟨pX9_thrown, Nat.le_of_ble_eq_true rfl, by omega, Nat.le_of_ble_eq_true rfl, by omega, by omega⟩ (t_X9_thrown hc2) (fun v2 D hC => ?_) (fun E D hC => absurd hC.1 (by simp))
  obtain ⟨hv, rfl⟩ := hC
  cases hv
  refine xx_cst (st2 := [.int k]) rfl ?_
  refine xx_iload dL_law_353 rfl ?_
  refine xx_icmp_eq (tgt := 360) dL_law_355 (by decide) (fun _ => ?_) (fun h => absurd rfl h)
  refine xx_iload dL_law_360 rfl ?_
  refine xx_if_ne (tgt := 377) dL_law_362 (by decide) (fun _ => ?_) (fun k0 => ?_)
  · refine xx_goto (tgt := 1182) dL_law_377 (by decide) ?_
    refine xx_less [0, 1, 2, 3, 4] ?_
    refine xx_clv (lv2 := xx_lv5 z b c w i) rfl ?_
    exact hk
  · obtain ⟨g, hg, e0⟩ := he k0
    refine xx_aload_n dL_law_365 rfl ?_
    refine xx_iconst (v := 0) dL_law_366 (by decide) ?_
    refine xx_lald dL_law_367 hg (by unfold vp_in; decide) ?_
    refine xx_eql (y := v.toInt64) e0 ?_
    refine xx_iload dL_law_368 rfl ?_
    refine xx_i2l dL_law_370 ?_
    refine xx_lcmp dL_law_371 ?_
    refine xx_if_eq (tgt := 377) dL_law_372 (by decide) (fun _ => ?_) (fun h => absurd ((lg_cmp_eq _ _).mpr rfl) h)
    refine xx_goto (tgt := 1182) dL_law_377 (by decide) ?_
    refine xx_less [0, 1, 2, 3, 4] ?_
    refine xx_clv (lv2 := xx_lv5 z b c w i) rfl ?_
    exact hk
set_option maxRecDepth 100000 in
theorem k_weight {G : xx_G} {l : Launch} {A : xx_H} {z b c w i L : Nat} {xs : Nat → Int32} {d d1 d2 c1 s1 c2 s2 c3 s3 : Nat} {P1 : Int32 → xx_H → Prop} {P2 : Int32 → xx_H → Prop} {Q : Option Value ⊕ String → xx_H → Prop} (hi : i + 6 ≤ L) (hL : L < 2 ^ 31) (hd1 : d1 + 1 ≤ d) (hd2 : d2 + 1 ≤ d) (hs : A.2 z = xx_s L xs)
    (hX : xx_X G l mL_weight d1 c1 s1 0 (lv_args 0 [.ref b, .int (xs (i + 1)), .int (xs (i + 2)), .int (xs (i + 3)), .int (xs (i + 4))]) [] A (fun r B => ∃ k, r = .inl (some (.int k)) ∧ P1 k B))
    (hM : ∀ k B, P1 k B → B.2 z = xx_s L xs ∧ (∃ fs, B.2 c = xx_o 9 fs) ∧ xx_X G l mX9_weight d2 c2 s2 0 (lv_args 0 [.ref c, .int (xs (i + 1)), .int (xs (i + 2)), .int (xs (i + 3)), .int (xs (i + 4))]) [] B (fun r C => r = .inl none ∧ P2 k C))
    (hK : ∀ k C, P2 k C → (∃ fs, C.2 c = xx_o 9 (.int k :: fs) ∧ fs.length = 28) ∧ xx_X G l mL_law d c3 s3 1182 (xx_lv5 z b c w i) [] C Q) : xx_X G l mL_law d (c1 + (c2 + c3)) (s1 + (s2 + s3)) 380 (xx_lv5 z b c w i) [] A Q := by
  refine xx_aload_n dL_law_380 rfl ?_
  refine xx_aload_n dL_law_381 rfl ?_
  refine xx_iload dL_law_382 rfl ?_
  refine xx_iconst (v := 1) dL_law_384 (by decide) ?_
  refine xx_iadd dL_law_385 ?_
  refine xx_eqi (y := nI (i + 1)) (xx_ik i 1) ?_
  refine xx_sald dL_law_386 hs (vp_in_nI (by omega) hL) ?_
  refine xx_eqi (y := xs (i + 1)) (by rw [nI_clamp (by omega)]) ?_
  refine xx_aload_n dL_law_387 rfl ?_
  refine xx_iload dL_law_388 rfl ?_
  refine xx_iconst (v := 2) dL_law_390 (by decide) ?_
  refine xx_iadd dL_law_391 ?_
  refine xx_eqi (y := nI (i + 2)) (xx_ik i 2) ?_
  refine xx_sald dL_law_392 hs (vp_in_nI (by omega) hL) ?_
  refine xx_eqi (y := xs (i + 2)) (by rw [nI_clamp (by omega)]) ?_
  refine xx_aload_n dL_law_393 rfl ?_
  refine xx_iload dL_law_394 rfl ?_
  refine xx_iconst (v := 3) dL_law_396 (by decide) ?_
  refine xx_iadd dL_law_397 ?_
  refine xx_eqi (y := nI (i + 3)) (xx_ik i 3) ?_
  refine xx_sald dL_law_398 hs (vp_in_nI (by omega) hL) ?_
  refine xx_eqi (y := xs (i + 3)) (by rw [nI_clamp (by omega)]) ?_
  refine xx_aload_n dL_law_399 rfl ?_
  refine xx_iload dL_law_400 rfl ?_
  refine xx_iconst (v := 4) dL_law_402 (by decide) ?_
  refine xx_iadd dL_law_403 ?_
  refine xx_eqi (y := nI (i + 4)) (xx_ik i 4) ?_
  refine xx_sald dL_law_404 hs (vp_in_nI (by omega) hL) ?_
  refine xx_eqi (y := xs (i + 4)) (by rw [nI_clamp (by omega)]) ?_
  refine xx_callS (N := mL_weight) (vs := [.ref b, .int (xs (i + 1)), .int (xs (i + 2)), .int (xs (i + 3)), .int (xs (i + 4))]) (rest := []) (d2 := d1) (c2 := c1) (s2 := s1) (c3 := c2 + c3) (s3 := s2 + s3) dL_law_405 wm_L_98 ws_L_weight wz_L (by decide) nL_weight ⟨pL_weight, Nat.le_of_ble_eq_true rfl, by omega, Nat.le_of_ble_eq_true rfl, by omega, by omega⟩ hX (fun v B hC => ?_) (fun E B hC => ?_)
  rotate_left
  · obtain ⟨k, e, _⟩ := hC; exact absurd e (by simp)
  obtain ⟨k, e, hp1⟩ := hC
  cases e
  obtain ⟨hs1, ⟨fs1, hc1⟩, hm⟩ := hM k B hp1
  refine xx_cst (st2 := [.int k]) rfl ?_
  refine xx_istore dL_law_408 (by decide) ?_
  refine xx_clv (lv2 := [(0, .ref z), (1, .ref b), (2, .ref c), (3, .ref w), (4, .int (nI i)), (5, .int k)]) rfl ?_
  refine xx_aload_n dL_law_410 rfl ?_
  refine xx_aload_n dL_law_411 rfl ?_
  refine xx_iload dL_law_412 rfl ?_
  refine xx_iconst (v := 1) dL_law_414 (by decide) ?_
  refine xx_iadd dL_law_415 ?_
  refine xx_eqi (y := nI (i + 1)) (xx_ik i 1) ?_
  refine xx_sald dL_law_416 hs1 (vp_in_nI (by omega) hL) ?_
  refine xx_eqi (y := xs (i + 1)) (by rw [nI_clamp (by omega)]) ?_
  refine xx_aload_n dL_law_417 rfl ?_
  refine xx_iload dL_law_418 rfl ?_
  refine xx_iconst (v := 2) dL_law_420 (by decide) ?_
  refine xx_iadd dL_law_421 ?_
  refine xx_eqi (y := nI (i + 2)) (xx_ik i 2) ?_
  refine xx_sald dL_law_422 hs1 (vp_in_nI (by omega) hL) ?_
  refine xx_eqi (y := xs (i + 2)) (by rw [nI_clamp (by omega)]) ?_
  refine xx_aload_n dL_law_423 rfl ?_
  refine xx_iload dL_law_424 rfl ?_
  refine xx_iconst (v := 3) dL_law_426 (by decide) ?_
  refine xx_iadd dL_law_427 ?_
  refine xx_eqi (y := nI (i + 3)) (xx_ik i 3) ?_
  refine xx_sald dL_law_428 hs1 (vp_in_nI (by omega) hL) ?_
  refine xx_eqi (y := xs (i + 3)) (by rw [nI_clamp (by omega)]) ?_
  refine xx_aload_n dL_law_429 rfl ?_
  refine xx_iload dL_law_430 rfl ?_
  refine xx_iconst (v := 4) dL_law_432 (by decide) ?_
  refine xx_iadd dL_law_433 ?_
  refine xx_eqi (y := nI (i + 4)) (xx_ik i 4) ?_
  refine xx_sald dL_law_434 hs1 (vp_in_nI (by omega) hL) ?_
  refine xx_eqi (y := xs (i + 4)) (by rw [nI_clamp (by omega)]) ?_
  refine xx_callV (N := mX9_weight) (vs := [.int (xs (i + 1)), .int (xs (i + 2)), .int (xs (i + 3)), .int (xs (i + 4))]) (b := c) (rest := []) (d2 := d2) (c2 := c2) (s2 := s2) (c3 := c3) (s3 := s3) dL_law_435 wm_L_101 wi_X9_weight wv_X9_weight (k := 9) rfl (by decide) hc1 nX9_weight ⟨pX9_weight, Nat.le_of_ble_eq_true rfl, by omega, Nat.le_of_ble_eq_true rfl, by omega, by omega⟩ hm (fun v C hC => ?_) (fun E C hC => ?_)
  rotate_left
  · exact absurd hC.1 (by simp)
  obtain ⟨e, hp2⟩ := hC
  cases e
  obtain ⟨⟨fs2, hc2, _⟩, hk⟩ := hK k C hp2
  refine xx_cst (st2 := []) rfl ?_
  refine xx_aload_n dL_law_438 rfl ?_
  refine xx_callV (N := mX9_thrown) (vs := []) (b := c) (rest := []) (d2 := 0) (c2 := 0) (s2 := 0) (c3 := c3) (s3 := s3) dL_law_439 wm_L_83 wi_X9_thrown wv_X9_thrown (k := 9) rfl (by decide) hc2 nX9_thrown ⟨pX9_thrown, Nat.le_of_ble_eq_true rfl, by omega, Nat.le_of_ble_eq_true rfl, by omega, by omega⟩ (t_X9_thrown hc2) (fun v2 D hC => ?_) (fun E D hC => absurd hC.1 (by simp))
  obtain ⟨hv, rfl⟩ := hC
  cases hv
  refine xx_cst (st2 := [.int k]) rfl ?_
  refine xx_iload dL_law_442 rfl ?_
  refine xx_icmp_eq (tgt := 449) dL_law_444 (by decide) (fun _ => ?_) (fun h => absurd rfl h)
  refine xx_goto (tgt := 1182) dL_law_449 (by decide) ?_
  refine xx_less [0, 1, 2, 3, 4] ?_
  refine xx_clv (lv2 := xx_lv5 z b c w i) rfl ?_
  exact hk
set_option maxRecDepth 100000 in
theorem k_list {G : xx_G} {l : Launch} {A : xx_H} {z b c w i L : Nat} {xs : Nat → Int32} {d d1 d2 c1 s1 c2 s2 c3 s3 : Nat} {P1 : Int32 → xx_H → Prop} {P2 : Int32 → Int32 → xx_H → Prop} {Q : Option Value ⊕ String → xx_H → Prop} (hi : i + 6 ≤ L) (hL : L < 2 ^ 31) (hd1 : d1 + 1 ≤ d) (hd2 : d2 + 1 ≤ d) (hs : A.2 z = xx_s L xs)
    (hX : xx_X G l mL_list d1 c1 s1 0 (lv_args 0 [.ref b, .ref w]) [] A (fun r B => ∃ k, r = .inl (some (.int k)) ∧ P1 k B))
    (hM : ∀ k B, P1 k B → B.2 z = xx_s L xs ∧ (∃ fs, B.2 c = xx_o 9 fs) ∧ xx_X G l mX9_list d2 c2 s2 0 (lv_args 0 [.ref c]) [] B (fun r C => ∃ v, r = .inl (some (.int v)) ∧ P2 k v C))
    (hK : ∀ k v C, P2 k v C → (∃ fs, C.2 c = xx_o 9 (.int k :: fs) ∧ fs.length = 28) ∧ (k = 0 → ∃ g, C.2 w = xx_l 1 g ∧ g 0 = v.toInt64) ∧ xx_X G l mL_law d c3 s3 1182 (xx_lv5 z b c w i) [] C Q) : xx_X G l mL_law d (c1 + (c2 + c3)) (s1 + (s2 + s3)) 452 (xx_lv5 z b c w i) [] A Q := by
  refine xx_aload_n dL_law_452 rfl ?_
  refine xx_aload_n dL_law_453 rfl ?_
  refine xx_callS (N := mL_list) (vs := [.ref b, .ref w]) (rest := []) (d2 := d1) (c2 := c1) (s2 := s1) (c3 := c2 + c3) (s3 := s2 + s3) dL_law_454 wm_L_102 ws_L_list wz_L (by decide) nL_list ⟨pL_list, Nat.le_of_ble_eq_true rfl, by omega, Nat.le_of_ble_eq_true rfl, by omega, by omega⟩ hX (fun v B hC => ?_) (fun E B hC => ?_)
  rotate_left
  · obtain ⟨k, e, _⟩ := hC; exact absurd e (by simp)
  obtain ⟨k, e, hp1⟩ := hC
  cases e
  obtain ⟨hs1, ⟨fs1, hc1⟩, hm⟩ := hM k B hp1
  refine xx_cst (st2 := [.int k]) rfl ?_
  refine xx_istore dL_law_457 (by decide) ?_
  refine xx_clv (lv2 := [(0, .ref z), (1, .ref b), (2, .ref c), (3, .ref w), (4, .int (nI i)), (5, .int k)]) rfl ?_
  refine xx_aload_n dL_law_459 rfl ?_
  refine xx_callV (N := mX9_list) (vs := []) (b := c) (rest := []) (d2 := d2) (c2 := c2) (s2 := s2) (c3 := c3) (s3 := s3) dL_law_460 wm_L_105 wi_X9_list wv_X9_list (k := 9) rfl (by decide) hc1 nX9_list ⟨pX9_list, Nat.le_of_ble_eq_true rfl, by omega, Nat.le_of_ble_eq_true rfl, by omega, by omega⟩ hm (fun v C hC => ?_) (fun E C hC => ?_)
  rotate_left
  · obtain ⟨v, e, _⟩ := hC; exact absurd e (by simp)
  obtain ⟨v, e, hp2⟩ := hC
  cases e
  obtain ⟨⟨fs2, hc2, _⟩, he, hk⟩ := hK k v C hp2
  refine xx_cst (st2 := [.int v]) rfl ?_
  refine xx_istore dL_law_463 (by decide) ?_
  refine xx_clv (lv2 := [(0, .ref z), (1, .ref b), (2, .ref c), (3, .ref w), (4, .int (nI i)), (5, .int k), (6, .int v)]) rfl ?_
  refine xx_aload_n dL_law_465 rfl ?_
  refine xx_callV (N := mX9_thrown) (vs := []) (b := c) (rest := []) (d2 := 0) (c2 := 0) (s2 := 0) (c3 := c3) (s3 := s3) dL_law_466 wm_L_83 wi_X9_thrown wv_X9_thrown (k := 9) rfl (by decide) hc2 nX9_thrown ⟨pX9_thrown, Nat.le_of_ble_eq_true rfl, by omega, Nat.le_of_ble_eq_true rfl, by omega, by omega⟩ (t_X9_thrown hc2) (fun v2 D hC => ?_) (fun E D hC => absurd hC.1 (by simp))
  obtain ⟨hv, rfl⟩ := hC
  cases hv
  refine xx_cst (st2 := [.int k]) rfl ?_
  refine xx_iload dL_law_469 rfl ?_
  refine xx_icmp_eq (tgt := 476) dL_law_471 (by decide) (fun _ => ?_) (fun h => absurd rfl h)
  refine xx_iload dL_law_476 rfl ?_
  refine xx_if_ne (tgt := 493) dL_law_478 (by decide) (fun _ => ?_) (fun k0 => ?_)
  · refine xx_goto (tgt := 1182) dL_law_493 (by decide) ?_
    refine xx_less [0, 1, 2, 3, 4] ?_
    refine xx_clv (lv2 := xx_lv5 z b c w i) rfl ?_
    exact hk
  · obtain ⟨g, hg, e0⟩ := he k0
    refine xx_aload_n dL_law_481 rfl ?_
    refine xx_iconst (v := 0) dL_law_482 (by decide) ?_
    refine xx_lald dL_law_483 hg (by unfold vp_in; decide) ?_
    refine xx_eql (y := v.toInt64) e0 ?_
    refine xx_iload dL_law_484 rfl ?_
    refine xx_i2l dL_law_486 ?_
    refine xx_lcmp dL_law_487 ?_
    refine xx_if_eq (tgt := 493) dL_law_488 (by decide) (fun _ => ?_) (fun h => absurd ((lg_cmp_eq _ _).mpr rfl) h)
    refine xx_goto (tgt := 1182) dL_law_493 (by decide) ?_
    refine xx_less [0, 1, 2, 3, 4] ?_
    refine xx_clv (lv2 := xx_lv5 z b c w i) rfl ?_
    exact hk
set_option maxRecDepth 100000 in
theorem k_support {G : xx_G} {l : Launch} {A : xx_H} {z b c w i L : Nat} {xs : Nat → Int32} {d d1 d2 c1 s1 c2 s2 c3 s3 : Nat} {P1 : Int32 → xx_H → Prop} {P2 : Int32 → Int32 → xx_H → Prop} {Q : Option Value ⊕ String → xx_H → Prop} (hi : i + 6 ≤ L) (hL : L < 2 ^ 31) (hd1 : d1 + 1 ≤ d) (hd2 : d2 + 1 ≤ d) (hs : A.2 z = xx_s L xs)
    (hX : xx_X G l mL_support d1 c1 s1 0 (lv_args 0 [.ref b, .int (xs (i + 1)), .int (xs (i + 2)), .ref w]) [] A (fun r B => ∃ k, r = .inl (some (.int k)) ∧ P1 k B))
    (hM : ∀ k B, P1 k B → B.2 z = xx_s L xs ∧ (∃ fs, B.2 c = xx_o 9 fs) ∧ xx_X G l mX9_support d2 c2 s2 0 (lv_args 0 [.ref c, .int (xs (i + 1)), .int (xs (i + 2))]) [] B (fun r C => ∃ v, r = .inl (some (.int v)) ∧ P2 k v C))
    (hK : ∀ k v C, P2 k v C → (∃ fs, C.2 c = xx_o 9 (.int k :: fs) ∧ fs.length = 28) ∧ (k = 0 → ∃ g, C.2 w = xx_l 1 g ∧ g 0 = v.toInt64) ∧ xx_X G l mL_law d c3 s3 1182 (xx_lv5 z b c w i) [] C Q) : xx_X G l mL_law d (c1 + (c2 + c3)) (s1 + (s2 + s3)) 496 (xx_lv5 z b c w i) [] A Q := by
  refine xx_aload_n dL_law_496 rfl ?_
  refine xx_aload_n dL_law_497 rfl ?_
  refine xx_iload dL_law_498 rfl ?_
  refine xx_iconst (v := 1) dL_law_500 (by decide) ?_
  refine xx_iadd dL_law_501 ?_
  refine xx_eqi (y := nI (i + 1)) (xx_ik i 1) ?_
  refine xx_sald dL_law_502 hs (vp_in_nI (by omega) hL) ?_
  refine xx_eqi (y := xs (i + 1)) (by rw [nI_clamp (by omega)]) ?_
  refine xx_aload_n dL_law_503 rfl ?_
  refine xx_iload dL_law_504 rfl ?_
  refine xx_iconst (v := 2) dL_law_506 (by decide) ?_
  refine xx_iadd dL_law_507 ?_
  refine xx_eqi (y := nI (i + 2)) (xx_ik i 2) ?_
  refine xx_sald dL_law_508 hs (vp_in_nI (by omega) hL) ?_
  refine xx_eqi (y := xs (i + 2)) (by rw [nI_clamp (by omega)]) ?_
  refine xx_aload_n dL_law_509 rfl ?_
  refine xx_callS (N := mL_support) (vs := [.ref b, .int (xs (i + 1)), .int (xs (i + 2)), .ref w]) (rest := []) (d2 := d1) (c2 := c1) (s2 := s1) (c3 := c2 + c3) (s3 := s2 + s3) dL_law_510 wm_L_106 ws_L_support wz_L (by decide) nL_support ⟨pL_support, Nat.le_of_ble_eq_true rfl, by omega, Nat.le_of_ble_eq_true rfl, by omega, by omega⟩ hX (fun v B hC => ?_) (fun E B hC => ?_)
  rotate_left
  · obtain ⟨k, e, _⟩ := hC; exact absurd e (by simp)
  obtain ⟨k, e, hp1⟩ := hC
  cases e
  obtain ⟨hs1, ⟨fs1, hc1⟩, hm⟩ := hM k B hp1
  refine xx_cst (st2 := [.int k]) rfl ?_
  refine xx_istore dL_law_513 (by decide) ?_
  refine xx_clv (lv2 := [(0, .ref z), (1, .ref b), (2, .ref c), (3, .ref w), (4, .int (nI i)), (5, .int k)]) rfl ?_
  refine xx_aload_n dL_law_515 rfl ?_
  refine xx_aload_n dL_law_516 rfl ?_
  refine xx_iload dL_law_517 rfl ?_
  refine xx_iconst (v := 1) dL_law_519 (by decide) ?_
  refine xx_iadd dL_law_520 ?_
  refine xx_eqi (y := nI (i + 1)) (xx_ik i 1) ?_
  refine xx_sald dL_law_521 hs1 (vp_in_nI (by omega) hL) ?_
  refine xx_eqi (y := xs (i + 1)) (by rw [nI_clamp (by omega)]) ?_
  refine xx_aload_n dL_law_522 rfl ?_
  refine xx_iload dL_law_523 rfl ?_
  refine xx_iconst (v := 2) dL_law_525 (by decide) ?_
  refine xx_iadd dL_law_526 ?_
  refine xx_eqi (y := nI (i + 2)) (xx_ik i 2) ?_
  refine xx_sald dL_law_527 hs1 (vp_in_nI (by omega) hL) ?_
  refine xx_eqi (y := xs (i + 2)) (by rw [nI_clamp (by omega)]) ?_
  refine xx_callV (N := mX9_support) (vs := [.int (xs (i + 1)), .int (xs (i + 2))]) (b := c) (rest := []) (d2 := d2) (c2 := c2) (s2 := s2) (c3 := c3) (s3 := s3) dL_law_528 wm_L_108 wi_X9_support wv_X9_support (k := 9) rfl (by decide) hc1 nX9_support ⟨pX9_support, Nat.le_of_ble_eq_true rfl, by omega, Nat.le_of_ble_eq_true rfl, by omega, by omega⟩ hm (fun v C hC => ?_) (fun E C hC => ?_)
  rotate_left
  · obtain ⟨v, e, _⟩ := hC; exact absurd e (by simp)
  obtain ⟨v, e, hp2⟩ := hC
  cases e
  obtain ⟨⟨fs2, hc2, _⟩, he, hk⟩ := hK k v C hp2
  refine xx_cst (st2 := [.int v]) rfl ?_
  refine xx_istore dL_law_531 (by decide) ?_
  refine xx_clv (lv2 := [(0, .ref z), (1, .ref b), (2, .ref c), (3, .ref w), (4, .int (nI i)), (5, .int k), (6, .int v)]) rfl ?_
  refine xx_aload_n dL_law_533 rfl ?_
  refine xx_callV (N := mX9_thrown) (vs := []) (b := c) (rest := []) (d2 := 0) (c2 := 0) (s2 := 0) (c3 := c3) (s3 := s3) dL_law_534 wm_L_83 wi_X9_thrown wv_X9_thrown (k := 9) rfl (by decide) hc2 nX9_thrown ⟨pX9_thrown, Nat.le_of_ble_eq_true rfl, by omega, Nat.le_of_ble_eq_true rfl, by omega, by omega⟩ (t_X9_thrown hc2) (fun v2 D hC => ?_) (fun E D hC => absurd hC.1 (by simp))
  obtain ⟨hv, rfl⟩ := hC
  cases hv
  refine xx_cst (st2 := [.int k]) rfl ?_
  refine xx_iload dL_law_537 rfl ?_
  refine xx_icmp_eq (tgt := 544) dL_law_539 (by decide) (fun _ => ?_) (fun h => absurd rfl h)
  refine xx_iload dL_law_544 rfl ?_
  refine xx_if_ne (tgt := 561) dL_law_546 (by decide) (fun _ => ?_) (fun k0 => ?_)
  · refine xx_goto (tgt := 1182) dL_law_561 (by decide) ?_
    refine xx_less [0, 1, 2, 3, 4] ?_
    refine xx_clv (lv2 := xx_lv5 z b c w i) rfl ?_
    exact hk
  · obtain ⟨g, hg, e0⟩ := he k0
    refine xx_aload_n dL_law_549 rfl ?_
    refine xx_iconst (v := 0) dL_law_550 (by decide) ?_
    refine xx_lald dL_law_551 hg (by unfold vp_in; decide) ?_
    refine xx_eql (y := v.toInt64) e0 ?_
    refine xx_iload dL_law_552 rfl ?_
    refine xx_i2l dL_law_554 ?_
    refine xx_lcmp dL_law_555 ?_
    refine xx_if_eq (tgt := 561) dL_law_556 (by decide) (fun _ => ?_) (fun h => absurd ((lg_cmp_eq _ _).mpr rfl) h)
    refine xx_goto (tgt := 1182) dL_law_561 (by decide) ?_
    refine xx_less [0, 1, 2, 3, 4] ?_
    refine xx_clv (lv2 := xx_lv5 z b c w i) rfl ?_
    exact hk
set_option maxRecDepth 100000 in
theorem k_strategy {G : xx_G} {l : Launch} {A : xx_H} {z b c w i L : Nat} {xs : Nat → Int32} {d d1 d2 c1 s1 c2 s2 c3 s3 : Nat} {P1 : Int32 → xx_H → Prop} {P2 : Int32 → Int32 → xx_H → Prop} {Q : Option Value ⊕ String → xx_H → Prop} (hi : i + 6 ≤ L) (hL : L < 2 ^ 31) (hd1 : d1 + 1 ≤ d) (hd2 : d2 + 1 ≤ d) (hs : A.2 z = xx_s L xs)
    (hX : xx_X G l mL_strategy d1 c1 s1 0 (lv_args 0 [.ref b, .int (xs (i + 1)), .int (xs (i + 2)), .int (xs (i + 3)), .ref w]) [] A (fun r B => ∃ k, r = .inl (some (.int k)) ∧ P1 k B))
    (hM : ∀ k B, P1 k B → B.2 z = xx_s L xs ∧ (∃ fs, B.2 c = xx_o 9 fs) ∧ xx_X G l mX9_strategy d2 c2 s2 0 (lv_args 0 [.ref c, .int (xs (i + 1)), .int (xs (i + 2)), .int (xs (i + 3))]) [] B (fun r C => ∃ v, r = .inl (some (.int v)) ∧ P2 k v C))
    (hK : ∀ k v C, P2 k v C → (∃ fs, C.2 c = xx_o 9 (.int k :: fs) ∧ fs.length = 28) ∧ (k = 0 → ∃ g, C.2 w = xx_l 1 g ∧ g 0 = v.toInt64) ∧ xx_X G l mL_law d c3 s3 1182 (xx_lv5 z b c w i) [] C Q) : xx_X G l mL_law d (c1 + (c2 + c3)) (s1 + (s2 + s3)) 564 (xx_lv5 z b c w i) [] A Q := by
  refine xx_aload_n dL_law_564 rfl ?_
  refine xx_aload_n dL_law_565 rfl ?_
  refine xx_iload dL_law_566 rfl ?_
  refine xx_iconst (v := 1) dL_law_568 (by decide) ?_
  refine xx_iadd dL_law_569 ?_
  refine xx_eqi (y := nI (i + 1)) (xx_ik i 1) ?_
  refine xx_sald dL_law_570 hs (vp_in_nI (by omega) hL) ?_
  refine xx_eqi (y := xs (i + 1)) (by rw [nI_clamp (by omega)]) ?_
  refine xx_aload_n dL_law_571 rfl ?_
  refine xx_iload dL_law_572 rfl ?_
  refine xx_iconst (v := 2) dL_law_574 (by decide) ?_
  refine xx_iadd dL_law_575 ?_
  refine xx_eqi (y := nI (i + 2)) (xx_ik i 2) ?_
  refine xx_sald dL_law_576 hs (vp_in_nI (by omega) hL) ?_
  refine xx_eqi (y := xs (i + 2)) (by rw [nI_clamp (by omega)]) ?_
  refine xx_aload_n dL_law_577 rfl ?_
  refine xx_iload dL_law_578 rfl ?_
  refine xx_iconst (v := 3) dL_law_580 (by decide) ?_
  refine xx_iadd dL_law_581 ?_
  refine xx_eqi (y := nI (i + 3)) (xx_ik i 3) ?_
  refine xx_sald dL_law_582 hs (vp_in_nI (by omega) hL) ?_
  refine xx_eqi (y := xs (i + 3)) (by rw [nI_clamp (by omega)]) ?_
  refine xx_aload_n dL_law_583 rfl ?_
  refine xx_callS (N := mL_strategy) (vs := [.ref b, .int (xs (i + 1)), .int (xs (i + 2)), .int (xs (i + 3)), .ref w]) (rest := []) (d2 := d1) (c2 := c1) (s2 := s1) (c3 := c2 + c3) (s3 := s2 + s3) dL_law_584 wm_L_109 ws_L_strategy wz_L (by decide) nL_strategy ⟨pL_strategy, Nat.le_of_ble_eq_true rfl, by omega, Nat.le_of_ble_eq_true rfl, by omega, by omega⟩ hX (fun v B hC => ?_) (fun E B hC => ?_)
  rotate_left
  · obtain ⟨k, e, _⟩ := hC; exact absurd e (by simp)
  obtain ⟨k, e, hp1⟩ := hC
  cases e
  obtain ⟨hs1, ⟨fs1, hc1⟩, hm⟩ := hM k B hp1
  refine xx_cst (st2 := [.int k]) rfl ?_
  refine xx_istore dL_law_587 (by decide) ?_
  refine xx_clv (lv2 := [(0, .ref z), (1, .ref b), (2, .ref c), (3, .ref w), (4, .int (nI i)), (5, .int k)]) rfl ?_
  refine xx_aload_n dL_law_589 rfl ?_
  refine xx_aload_n dL_law_590 rfl ?_
  refine xx_iload dL_law_591 rfl ?_
  refine xx_iconst (v := 1) dL_law_593 (by decide) ?_
  refine xx_iadd dL_law_594 ?_
  refine xx_eqi (y := nI (i + 1)) (xx_ik i 1) ?_
  refine xx_sald dL_law_595 hs1 (vp_in_nI (by omega) hL) ?_
  refine xx_eqi (y := xs (i + 1)) (by rw [nI_clamp (by omega)]) ?_
  refine xx_aload_n dL_law_596 rfl ?_
  refine xx_iload dL_law_597 rfl ?_
  refine xx_iconst (v := 2) dL_law_599 (by decide) ?_
  refine xx_iadd dL_law_600 ?_
  refine xx_eqi (y := nI (i + 2)) (xx_ik i 2) ?_
  refine xx_sald dL_law_601 hs1 (vp_in_nI (by omega) hL) ?_
  refine xx_eqi (y := xs (i + 2)) (by rw [nI_clamp (by omega)]) ?_
  refine xx_aload_n dL_law_602 rfl ?_
  refine xx_iload dL_law_603 rfl ?_
  refine xx_iconst (v := 3) dL_law_605 (by decide) ?_
  refine xx_iadd dL_law_606 ?_
  refine xx_eqi (y := nI (i + 3)) (xx_ik i 3) ?_
  refine xx_sald dL_law_607 hs1 (vp_in_nI (by omega) hL) ?_
  refine xx_eqi (y := xs (i + 3)) (by rw [nI_clamp (by omega)]) ?_
  refine xx_callV (N := mX9_strategy) (vs := [.int (xs (i + 1)), .int (xs (i + 2)), .int (xs (i + 3))]) (b := c) (rest := []) (d2 := d2) (c2 := c2) (s2 := s2) (c3 := c3) (s3 := s3) dL_law_608 wm_L_112 wi_X9_strategy wv_X9_strategy (k := 9) rfl (by decide) hc1 nX9_strategy ⟨pX9_strategy, Nat.le_of_ble_eq_true rfl, by omega, Nat.le_of_ble_eq_true rfl, by omega, by omega⟩ hm (fun v C hC => ?_) (fun E C hC => ?_)
  rotate_left
  · obtain ⟨v, e, _⟩ := hC; exact absurd e (by simp)
  obtain ⟨v, e, hp2⟩ := hC
  cases e
  obtain ⟨⟨fs2, hc2, _⟩, he, hk⟩ := hK k v C hp2
  refine xx_cst (st2 := [.int v]) rfl ?_
  refine xx_istore dL_law_611 (by decide) ?_
  refine xx_clv (lv2 := [(0, .ref z), (1, .ref b), (2, .ref c), (3, .ref w), (4, .int (nI i)), (5, .int k), (6, .int v)]) rfl ?_
  refine xx_aload_n dL_law_613 rfl ?_
  refine xx_callV (N := mX9_thrown) (vs := []) (b := c) (rest := []) (d2 := 0) (c2 := 0) (s2 := 0) (c3 := c3) (s3 := s3) dL_law_614 wm_L_83 wi_X9_thrown wv_X9_thrown (k := 9) rfl (by decide) hc2 nX9_thrown ⟨pX9_thrown, Nat.le_of_ble_eq_true rfl, by omega, Nat.le_of_ble_eq_true rfl, by omega, by omega⟩ (t_X9_thrown hc2) (fun v2 D hC => ?_) (fun E D hC => absurd hC.1 (by simp))
  obtain ⟨hv, rfl⟩ := hC
  cases hv
  refine xx_cst (st2 := [.int k]) rfl ?_
  refine xx_iload dL_law_617 rfl ?_
  refine xx_icmp_eq (tgt := 624) dL_law_619 (by decide) (fun _ => ?_) (fun h => absurd rfl h)
  refine xx_iload dL_law_624 rfl ?_
  refine xx_if_ne (tgt := 641) dL_law_626 (by decide) (fun _ => ?_) (fun k0 => ?_)
  · refine xx_goto (tgt := 1182) dL_law_641 (by decide) ?_
    refine xx_less [0, 1, 2, 3, 4] ?_
    refine xx_clv (lv2 := xx_lv5 z b c w i) rfl ?_
    exact hk
  · obtain ⟨g, hg, e0⟩ := he k0
    refine xx_aload_n dL_law_629 rfl ?_
    refine xx_iconst (v := 0) dL_law_630 (by decide) ?_
    refine xx_lald dL_law_631 hg (by unfold vp_in; decide) ?_
    refine xx_eql (y := v.toInt64) e0 ?_
    refine xx_iload dL_law_632 rfl ?_
    refine xx_i2l dL_law_634 ?_
    refine xx_lcmp dL_law_635 ?_
    refine xx_if_eq (tgt := 641) dL_law_636 (by decide) (fun _ => ?_) (fun h => absurd ((lg_cmp_eq _ _).mpr rfl) h)
    refine xx_goto (tgt := 1182) dL_law_641 (by decide) ?_
    refine xx_less [0, 1, 2, 3, 4] ?_
    refine xx_clv (lv2 := xx_lv5 z b c w i) rfl ?_
    exact hk
set_option maxRecDepth 100000 in
theorem k_gets {G : xx_G} {l : Launch} {A : xx_H} {z b c w i L : Nat} {xs : Nat → Int32} {d d1 d2 c1 s1 c2 s2 c3 s3 : Nat} {P1 : Int32 → xx_H → Prop} {P2 : Int32 → Int32 → xx_H → Prop} {Q : Option Value ⊕ String → xx_H → Prop} (hi : i + 6 ≤ L) (hL : L < 2 ^ 31) (hd1 : d1 + 1 ≤ d) (hd2 : d2 + 1 ≤ d) (hs : A.2 z = xx_s L xs)
    (hX : xx_X G l mL_gets d1 c1 s1 0 (lv_args 0 [.ref b, .int (xs (i + 1)), .int (xs (i + 2)), .int (xs (i + 3)), .ref w]) [] A (fun r B => ∃ k, r = .inl (some (.int k)) ∧ P1 k B))
    (hM : ∀ k B, P1 k B → B.2 z = xx_s L xs ∧ (∃ fs, B.2 c = xx_o 9 fs) ∧ xx_X G l mX9_gets d2 c2 s2 0 (lv_args 0 [.ref c, .int (xs (i + 1)), .int (xs (i + 2)), .int (xs (i + 3))]) [] B (fun r C => ∃ v, r = .inl (some (.int v)) ∧ P2 k v C))
    (hK : ∀ k v C, P2 k v C → (∃ fs, C.2 c = xx_o 9 (.int k :: fs) ∧ fs.length = 28) ∧ (k = 0 → ∃ g, C.2 w = xx_l 1 g ∧ g 0 = v.toInt64) ∧ xx_X G l mL_law d c3 s3 1182 (xx_lv5 z b c w i) [] C Q) : xx_X G l mL_law d (c1 + (c2 + c3)) (s1 + (s2 + s3)) 644 (xx_lv5 z b c w i) [] A Q := by
  refine xx_aload_n dL_law_644 rfl ?_
  refine xx_aload_n dL_law_645 rfl ?_
  refine xx_iload dL_law_646 rfl ?_
  refine xx_iconst (v := 1) dL_law_648 (by decide) ?_
  refine xx_iadd dL_law_649 ?_
  refine xx_eqi (y := nI (i + 1)) (xx_ik i 1) ?_
  refine xx_sald dL_law_650 hs (vp_in_nI (by omega) hL) ?_
  refine xx_eqi (y := xs (i + 1)) (by rw [nI_clamp (by omega)]) ?_
  refine xx_aload_n dL_law_651 rfl ?_
  refine xx_iload dL_law_652 rfl ?_
  refine xx_iconst (v := 2) dL_law_654 (by decide) ?_
  refine xx_iadd dL_law_655 ?_
  refine xx_eqi (y := nI (i + 2)) (xx_ik i 2) ?_
  refine xx_sald dL_law_656 hs (vp_in_nI (by omega) hL) ?_
  refine xx_eqi (y := xs (i + 2)) (by rw [nI_clamp (by omega)]) ?_
  refine xx_aload_n dL_law_657 rfl ?_
  refine xx_iload dL_law_658 rfl ?_
  refine xx_iconst (v := 3) dL_law_660 (by decide) ?_
  refine xx_iadd dL_law_661 ?_
  refine xx_eqi (y := nI (i + 3)) (xx_ik i 3) ?_
  refine xx_sald dL_law_662 hs (vp_in_nI (by omega) hL) ?_
  refine xx_eqi (y := xs (i + 3)) (by rw [nI_clamp (by omega)]) ?_
  refine xx_aload_n dL_law_663 rfl ?_
  refine xx_callS (N := mL_gets) (vs := [.ref b, .int (xs (i + 1)), .int (xs (i + 2)), .int (xs (i + 3)), .ref w]) (rest := []) (d2 := d1) (c2 := c1) (s2 := s1) (c3 := c2 + c3) (s3 := s2 + s3) dL_law_664 wm_L_113 ws_L_gets wz_L (by decide) nL_gets ⟨pL_gets, Nat.le_of_ble_eq_true rfl, by omega, Nat.le_of_ble_eq_true rfl, by omega, by omega⟩ hX (fun v B hC => ?_) (fun E B hC => ?_)
  rotate_left
  · obtain ⟨k, e, _⟩ := hC; exact absurd e (by simp)
  obtain ⟨k, e, hp1⟩ := hC
  cases e
  obtain ⟨hs1, ⟨fs1, hc1⟩, hm⟩ := hM k B hp1
  refine xx_cst (st2 := [.int k]) rfl ?_
  refine xx_istore dL_law_667 (by decide) ?_
  refine xx_clv (lv2 := [(0, .ref z), (1, .ref b), (2, .ref c), (3, .ref w), (4, .int (nI i)), (5, .int k)]) rfl ?_
  refine xx_aload_n dL_law_669 rfl ?_
  refine xx_aload_n dL_law_670 rfl ?_
  refine xx_iload dL_law_671 rfl ?_
  refine xx_iconst (v := 1) dL_law_673 (by decide) ?_
  refine xx_iadd dL_law_674 ?_
  refine xx_eqi (y := nI (i + 1)) (xx_ik i 1) ?_
  refine xx_sald dL_law_675 hs1 (vp_in_nI (by omega) hL) ?_
  refine xx_eqi (y := xs (i + 1)) (by rw [nI_clamp (by omega)]) ?_
  refine xx_aload_n dL_law_676 rfl ?_
  refine xx_iload dL_law_677 rfl ?_
  refine xx_iconst (v := 2) dL_law_679 (by decide) ?_
  refine xx_iadd dL_law_680 ?_
  refine xx_eqi (y := nI (i + 2)) (xx_ik i 2) ?_
  refine xx_sald dL_law_681 hs1 (vp_in_nI (by omega) hL) ?_
  refine xx_eqi (y := xs (i + 2)) (by rw [nI_clamp (by omega)]) ?_
  refine xx_aload_n dL_law_682 rfl ?_
  refine xx_iload dL_law_683 rfl ?_
  refine xx_iconst (v := 3) dL_law_685 (by decide) ?_
  refine xx_iadd dL_law_686 ?_
  refine xx_eqi (y := nI (i + 3)) (xx_ik i 3) ?_
  refine xx_sald dL_law_687 hs1 (vp_in_nI (by omega) hL) ?_
  refine xx_eqi (y := xs (i + 3)) (by rw [nI_clamp (by omega)]) ?_
  refine xx_callV (N := mX9_gets) (vs := [.int (xs (i + 1)), .int (xs (i + 2)), .int (xs (i + 3))]) (b := c) (rest := []) (d2 := d2) (c2 := c2) (s2 := s2) (c3 := c3) (s3 := s3) dL_law_688 wm_L_115 wi_X9_gets wv_X9_gets (k := 9) rfl (by decide) hc1 nX9_gets ⟨pX9_gets, Nat.le_of_ble_eq_true rfl, by omega, Nat.le_of_ble_eq_true rfl, by omega, by omega⟩ hm (fun v C hC => ?_) (fun E C hC => ?_)
  rotate_left
  · obtain ⟨v, e, _⟩ := hC; exact absurd e (by simp)
  obtain ⟨v, e, hp2⟩ := hC
  cases e
  obtain ⟨⟨fs2, hc2, _⟩, he, hk⟩ := hK k v C hp2
  refine xx_cst (st2 := [.int v]) rfl ?_
  refine xx_istore dL_law_691 (by decide) ?_
  refine xx_clv (lv2 := [(0, .ref z), (1, .ref b), (2, .ref c), (3, .ref w), (4, .int (nI i)), (5, .int k), (6, .int v)]) rfl ?_
  refine xx_aload_n dL_law_693 rfl ?_
  refine xx_callV (N := mX9_thrown) (vs := []) (b := c) (rest := []) (d2 := 0) (c2 := 0) (s2 := 0) (c3 := c3) (s3 := s3) dL_law_694 wm_L_83 wi_X9_thrown wv_X9_thrown (k := 9) rfl (by decide) hc2 nX9_thrown ⟨pX9_thrown, Nat.le_of_ble_eq_true rfl, by omega, Nat.le_of_ble_eq_true rfl, by omega, by omega⟩ (t_X9_thrown hc2) (fun v2 D hC => ?_) (fun E D hC => absurd hC.1 (by simp))
  obtain ⟨hv, rfl⟩ := hC
  cases hv
  refine xx_cst (st2 := [.int k]) rfl ?_
  refine xx_iload dL_law_697 rfl ?_
  refine xx_icmp_eq (tgt := 704) dL_law_699 (by decide) (fun _ => ?_) (fun h => absurd rfl h)
  refine xx_iload dL_law_704 rfl ?_
  refine xx_if_ne (tgt := 721) dL_law_706 (by decide) (fun _ => ?_) (fun k0 => ?_)
  · refine xx_goto (tgt := 1182) dL_law_721 (by decide) ?_
    refine xx_less [0, 1, 2, 3, 4] ?_
    refine xx_clv (lv2 := xx_lv5 z b c w i) rfl ?_
    exact hk
  · obtain ⟨g, hg, e0⟩ := he k0
    refine xx_aload_n dL_law_709 rfl ?_
    refine xx_iconst (v := 0) dL_law_710 (by decide) ?_
    refine xx_lald dL_law_711 hg (by unfold vp_in; decide) ?_
    refine xx_eql (y := v.toInt64) e0 ?_
    refine xx_iload dL_law_712 rfl ?_
    refine xx_i2l dL_law_714 ?_
    refine xx_lcmp dL_law_715 ?_
    refine xx_if_eq (tgt := 721) dL_law_716 (by decide) (fun _ => ?_) (fun h => absurd ((lg_cmp_eq _ _).mpr rfl) h)
    refine xx_goto (tgt := 1182) dL_law_721 (by decide) ?_
    refine xx_less [0, 1, 2, 3, 4] ?_
    refine xx_clv (lv2 := xx_lv5 z b c w i) rfl ?_
    exact hk
set_option maxRecDepth 100000 in
theorem k_replies {G : xx_G} {l : Launch} {A : xx_H} {z b c w i L : Nat} {xs : Nat → Int32} {d d1 d2 c1 s1 c2 s2 c3 s3 : Nat} {P1 : Int32 → xx_H → Prop} {P2 : Int32 → Int32 → xx_H → Prop} {Q : Option Value ⊕ String → xx_H → Prop} (hi : i + 6 ≤ L) (hL : L < 2 ^ 31) (hd1 : d1 + 1 ≤ d) (hd2 : d2 + 1 ≤ d) (hs : A.2 z = xx_s L xs)
    (hX : xx_X G l mL_replies d1 c1 s1 0 (lv_args 0 [.ref b, .int (xs (i + 1)), .int (xs (i + 2)), .ref w]) [] A (fun r B => ∃ k, r = .inl (some (.int k)) ∧ P1 k B))
    (hM : ∀ k B, P1 k B → B.2 z = xx_s L xs ∧ (∃ fs, B.2 c = xx_o 9 fs) ∧ xx_X G l mX9_replies d2 c2 s2 0 (lv_args 0 [.ref c, .int (xs (i + 1)), .int (xs (i + 2))]) [] B (fun r C => ∃ v, r = .inl (some (.int v)) ∧ P2 k v C))
    (hK : ∀ k v C, P2 k v C → (∃ fs, C.2 c = xx_o 9 (.int k :: fs) ∧ fs.length = 28) ∧ (k = 0 → ∃ g, C.2 w = xx_l 1 g ∧ g 0 = v.toInt64) ∧ xx_X G l mL_law d c3 s3 1182 (xx_lv5 z b c w i) [] C Q) : xx_X G l mL_law d (c1 + (c2 + c3)) (s1 + (s2 + s3)) 724 (xx_lv5 z b c w i) [] A Q := by
  refine xx_aload_n dL_law_724 rfl ?_
  refine xx_aload_n dL_law_725 rfl ?_
  refine xx_iload dL_law_726 rfl ?_
  refine xx_iconst (v := 1) dL_law_728 (by decide) ?_
  refine xx_iadd dL_law_729 ?_
  refine xx_eqi (y := nI (i + 1)) (xx_ik i 1) ?_
  refine xx_sald dL_law_730 hs (vp_in_nI (by omega) hL) ?_
  refine xx_eqi (y := xs (i + 1)) (by rw [nI_clamp (by omega)]) ?_
  refine xx_aload_n dL_law_731 rfl ?_
  refine xx_iload dL_law_732 rfl ?_
  refine xx_iconst (v := 2) dL_law_734 (by decide) ?_
  refine xx_iadd dL_law_735 ?_
  refine xx_eqi (y := nI (i + 2)) (xx_ik i 2) ?_
  refine xx_sald dL_law_736 hs (vp_in_nI (by omega) hL) ?_
  refine xx_eqi (y := xs (i + 2)) (by rw [nI_clamp (by omega)]) ?_
  refine xx_aload_n dL_law_737 rfl ?_
  refine xx_callS (N := mL_replies) (vs := [.ref b, .int (xs (i + 1)), .int (xs (i + 2)), .ref w]) (rest := []) (d2 := d1) (c2 := c1) (s2 := s1) (c3 := c2 + c3) (s3 := s2 + s3) dL_law_738 wm_L_116 ws_L_replies wz_L (by decide) nL_replies ⟨pL_replies, Nat.le_of_ble_eq_true rfl, by omega, Nat.le_of_ble_eq_true rfl, by omega, by omega⟩ hX (fun v B hC => ?_) (fun E B hC => ?_)
  rotate_left
  · obtain ⟨k, e, _⟩ := hC; exact absurd e (by simp)
  obtain ⟨k, e, hp1⟩ := hC
  cases e
  obtain ⟨hs1, ⟨fs1, hc1⟩, hm⟩ := hM k B hp1
  refine xx_cst (st2 := [.int k]) rfl ?_
  refine xx_istore dL_law_741 (by decide) ?_
  refine xx_clv (lv2 := [(0, .ref z), (1, .ref b), (2, .ref c), (3, .ref w), (4, .int (nI i)), (5, .int k)]) rfl ?_
  refine xx_aload_n dL_law_743 rfl ?_
  refine xx_aload_n dL_law_744 rfl ?_
  refine xx_iload dL_law_745 rfl ?_
  refine xx_iconst (v := 1) dL_law_747 (by decide) ?_
  refine xx_iadd dL_law_748 ?_
  refine xx_eqi (y := nI (i + 1)) (xx_ik i 1) ?_
  refine xx_sald dL_law_749 hs1 (vp_in_nI (by omega) hL) ?_
  refine xx_eqi (y := xs (i + 1)) (by rw [nI_clamp (by omega)]) ?_
  refine xx_aload_n dL_law_750 rfl ?_
  refine xx_iload dL_law_751 rfl ?_
  refine xx_iconst (v := 2) dL_law_753 (by decide) ?_
  refine xx_iadd dL_law_754 ?_
  refine xx_eqi (y := nI (i + 2)) (xx_ik i 2) ?_
  refine xx_sald dL_law_755 hs1 (vp_in_nI (by omega) hL) ?_
  refine xx_eqi (y := xs (i + 2)) (by rw [nI_clamp (by omega)]) ?_
  refine xx_callV (N := mX9_replies) (vs := [.int (xs (i + 1)), .int (xs (i + 2))]) (b := c) (rest := []) (d2 := d2) (c2 := c2) (s2 := s2) (c3 := c3) (s3 := s3) dL_law_756 wm_L_118 wi_X9_replies wv_X9_replies (k := 9) rfl (by decide) hc1 nX9_replies ⟨pX9_replies, Nat.le_of_ble_eq_true rfl, by omega, Nat.le_of_ble_eq_true rfl, by omega, by omega⟩ hm (fun v C hC => ?_) (fun E C hC => ?_)
  rotate_left
  · obtain ⟨v, e, _⟩ := hC; exact absurd e (by simp)
  obtain ⟨v, e, hp2⟩ := hC
  cases e
  obtain ⟨⟨fs2, hc2, _⟩, he, hk⟩ := hK k v C hp2
  refine xx_cst (st2 := [.int v]) rfl ?_
  refine xx_istore dL_law_759 (by decide) ?_
  refine xx_clv (lv2 := [(0, .ref z), (1, .ref b), (2, .ref c), (3, .ref w), (4, .int (nI i)), (5, .int k), (6, .int v)]) rfl ?_
  refine xx_aload_n dL_law_761 rfl ?_
  refine xx_callV (N := mX9_thrown) (vs := []) (b := c) (rest := []) (d2 := 0) (c2 := 0) (s2 := 0) (c3 := c3) (s3 := s3) dL_law_762 wm_L_83 wi_X9_thrown wv_X9_thrown (k := 9) rfl (by decide) hc2 nX9_thrown ⟨pX9_thrown, Nat.le_of_ble_eq_true rfl, by omega, Nat.le_of_ble_eq_true rfl, by omega, by omega⟩ (t_X9_thrown hc2) (fun v2 D hC => ?_) (fun E D hC => absurd hC.1 (by simp))
  obtain ⟨hv, rfl⟩ := hC
  cases hv
  refine xx_cst (st2 := [.int k]) rfl ?_
  refine xx_iload dL_law_765 rfl ?_
  refine xx_icmp_eq (tgt := 772) dL_law_767 (by decide) (fun _ => ?_) (fun h => absurd rfl h)
  refine xx_iload dL_law_772 rfl ?_
  refine xx_if_ne (tgt := 789) dL_law_774 (by decide) (fun _ => ?_) (fun k0 => ?_)
  · refine xx_goto (tgt := 1182) dL_law_789 (by decide) ?_
    refine xx_less [0, 1, 2, 3, 4] ?_
    refine xx_clv (lv2 := xx_lv5 z b c w i) rfl ?_
    exact hk
  · obtain ⟨g, hg, e0⟩ := he k0
    refine xx_aload_n dL_law_777 rfl ?_
    refine xx_iconst (v := 0) dL_law_778 (by decide) ?_
    refine xx_lald dL_law_779 hg (by unfold vp_in; decide) ?_
    refine xx_eql (y := v.toInt64) e0 ?_
    refine xx_iload dL_law_780 rfl ?_
    refine xx_i2l dL_law_782 ?_
    refine xx_lcmp dL_law_783 ?_
    refine xx_if_eq (tgt := 789) dL_law_784 (by decide) (fun _ => ?_) (fun h => absurd ((lg_cmp_eq _ _).mpr rfl) h)
    refine xx_goto (tgt := 1182) dL_law_789 (by decide) ?_
    refine xx_less [0, 1, 2, 3, 4] ?_
    refine xx_clv (lv2 := xx_lv5 z b c w i) rfl ?_
    exact hk
set_option maxRecDepth 100000 in
theorem k_judge {G : xx_G} {l : Launch} {A : xx_H} {z b c w i L : Nat} {xs : Nat → Int32} {d d1 d2 c1 s1 c2 s2 c3 s3 : Nat} {P1 : Int32 → xx_H → Prop} {P2 : Int32 → Int32 → xx_H → Prop} {Q : Option Value ⊕ String → xx_H → Prop} (hi : i + 6 ≤ L) (hL : L < 2 ^ 31) (hd1 : d1 + 1 ≤ d) (hd2 : d2 + 1 ≤ d) (hs : A.2 z = xx_s L xs)
    (hX : xx_X G l mL_judge d1 c1 s1 0 (lv_args 0 [.ref b, .int (xs (i + 1)), .ref w]) [] A (fun r B => ∃ k, r = .inl (some (.int k)) ∧ P1 k B))
    (hM : ∀ k B, P1 k B → B.2 z = xx_s L xs ∧ (∃ fs, B.2 c = xx_o 9 fs) ∧ xx_X G l mX9_judge d2 c2 s2 0 (lv_args 0 [.ref c, .int (xs (i + 1))]) [] B (fun r C => ∃ v, r = .inl (some (.int v)) ∧ P2 k v C))
    (hK : ∀ k v C, P2 k v C → (∃ fs, C.2 c = xx_o 9 (.int k :: fs) ∧ fs.length = 28) ∧ (k = 0 → ∃ g, C.2 w = xx_l 1 g ∧ g 0 = (if v = 0 then 0 else 1)) ∧ xx_X G l mL_law d c3 s3 1182 (xx_lv5 z b c w i) [] C Q) : xx_X G l mL_law d (c1 + (c2 + c3)) (s1 + (s2 + s3)) 792 (xx_lv5 z b c w i) [] A Q := by
  refine xx_aload_n dL_law_792 rfl ?_
  refine xx_aload_n dL_law_793 rfl ?_
  refine xx_iload dL_law_794 rfl ?_
  refine xx_iconst (v := 1) dL_law_796 (by decide) ?_
  refine xx_iadd dL_law_797 ?_
  refine xx_eqi (y := nI (i + 1)) (xx_ik i 1) ?_
  refine xx_sald dL_law_798 hs (vp_in_nI (by omega) hL) ?_
  refine xx_eqi (y := xs (i + 1)) (by rw [nI_clamp (by omega)]) ?_
  refine xx_aload_n dL_law_799 rfl ?_
  refine xx_callS (N := mL_judge) (vs := [.ref b, .int (xs (i + 1)), .ref w]) (rest := []) (d2 := d1) (c2 := c1) (s2 := s1) (c3 := c2 + c3) (s3 := s2 + s3) dL_law_800 wm_L_119 ws_L_judge wz_L (by decide) nL_judge ⟨pL_judge, Nat.le_of_ble_eq_true rfl, by omega, Nat.le_of_ble_eq_true rfl, by omega, by omega⟩ hX (fun v B hC => ?_) (fun E B hC => ?_)
  rotate_left
  · obtain ⟨k, e, _⟩ := hC; exact absurd e (by simp)
  obtain ⟨k, e, hp1⟩ := hC
  cases e
  obtain ⟨hs1, ⟨fs1, hc1⟩, hm⟩ := hM k B hp1
  refine xx_cst (st2 := [.int k]) rfl ?_
  refine xx_istore dL_law_803 (by decide) ?_
  refine xx_clv (lv2 := [(0, .ref z), (1, .ref b), (2, .ref c), (3, .ref w), (4, .int (nI i)), (5, .int k)]) rfl ?_
  refine xx_aload_n dL_law_805 rfl ?_
  refine xx_aload_n dL_law_806 rfl ?_
  refine xx_iload dL_law_807 rfl ?_
  refine xx_iconst (v := 1) dL_law_809 (by decide) ?_
  refine xx_iadd dL_law_810 ?_
  refine xx_eqi (y := nI (i + 1)) (xx_ik i 1) ?_
  refine xx_sald dL_law_811 hs1 (vp_in_nI (by omega) hL) ?_
  refine xx_eqi (y := xs (i + 1)) (by rw [nI_clamp (by omega)]) ?_
  refine xx_callV (N := mX9_judge) (vs := [.int (xs (i + 1))]) (b := c) (rest := []) (d2 := d2) (c2 := c2) (s2 := s2) (c3 := c3) (s3 := s3) dL_law_812 wm_L_121 wi_X9_judge wv_X9_judge (k := 9) rfl (by decide) hc1 nX9_judge ⟨pX9_judge, Nat.le_of_ble_eq_true rfl, by omega, Nat.le_of_ble_eq_true rfl, by omega, by omega⟩ hm (fun v C hC => ?_) (fun E C hC => ?_)
  rotate_left
  · obtain ⟨v, e, _⟩ := hC; exact absurd e (by simp)
  obtain ⟨v, e, hp2⟩ := hC
  cases e
  obtain ⟨⟨fs2, hc2, _⟩, he, hk⟩ := hK k v C hp2
  refine xx_cst (st2 := [.int v]) rfl ?_
  refine xx_istore dL_law_815 (by decide) ?_
  refine xx_clv (lv2 := [(0, .ref z), (1, .ref b), (2, .ref c), (3, .ref w), (4, .int (nI i)), (5, .int k), (6, .int v)]) rfl ?_
  refine xx_aload_n dL_law_817 rfl ?_
  refine xx_callV (N := mX9_thrown) (vs := []) (b := c) (rest := []) (d2 := 0) (c2 := 0) (s2 := 0) (c3 := c3) (s3 := s3) dL_law_818 wm_L_83 wi_X9_thrown wv_X9_thrown (k := 9) rfl (by decide) hc2 nX9_thrown ⟨pX9_thrown, Nat.le_of_ble_eq_true rfl, by omega, Nat.le_of_ble_eq_true rfl, by omega, by omega⟩ (t_X9_thrown hc2) (fun v2 D hC => ?_) (fun E D hC => absurd hC.1 (by simp))
  obtain ⟨hv, rfl⟩ := hC
  cases hv
  refine xx_cst (st2 := [.int k]) rfl ?_
  refine xx_iload dL_law_821 rfl ?_
  refine xx_icmp_eq (tgt := 828) dL_law_823 (by decide) (fun _ => ?_) (fun h => absurd rfl h)
  refine xx_iload dL_law_828 rfl ?_
  refine xx_if_ne (tgt := 852) dL_law_830 (by decide) (fun _ => ?_) (fun k0 => ?_)
  · refine xx_goto (tgt := 1182) dL_law_852 (by decide) ?_
    refine xx_less [0, 1, 2, 3, 4] ?_
    refine xx_clv (lv2 := xx_lv5 z b c w i) rfl ?_
    exact hk
  · obtain ⟨g, hg, e0⟩ := he k0
    refine xx_aload_n dL_law_833 rfl ?_
    refine xx_iconst (v := 0) dL_law_834 (by decide) ?_
    refine xx_lald dL_law_835 hg (by unfold vp_in; decide) ?_
    refine xx_eql (y := (if v = 0 then 0 else 1)) e0 ?_
    refine xx_iload dL_law_836 rfl ?_
    refine xx_if_eq (tgt := 845) dL_law_838 (by decide) (fun v0 => ?_) (fun v0 => ?_)
    · refine xx_cst (st2 := [.long 0]) (by rw [if_pos v0]) ?_
      refine xx_lconst (v := 0) dL_law_845 (by decide) ?_
      refine xx_lcmp dL_law_846 ?_
      refine xx_if_eq (tgt := 852) dL_law_847 (by decide) (fun _ => ?_) (fun h => absurd (by decide) h)
      refine xx_goto (tgt := 1182) dL_law_852 (by decide) ?_
      refine xx_less [0, 1, 2, 3, 4] ?_
      refine xx_clv (lv2 := xx_lv5 z b c w i) rfl ?_
      exact hk
    · refine xx_cst (st2 := [.long 1]) (by rw [if_neg v0]) ?_
      refine xx_lconst (v := 1) dL_law_841 (by decide) ?_
      refine xx_goto (tgt := 846) dL_law_842 (by decide) ?_
      refine xx_lcmp dL_law_846 ?_
      refine xx_if_eq (tgt := 852) dL_law_847 (by decide) (fun _ => ?_) (fun h => absurd (by decide) h)
      refine xx_goto (tgt := 1182) dL_law_852 (by decide) ?_
      refine xx_less [0, 1, 2, 3, 4] ?_
      refine xx_clv (lv2 := xx_lv5 z b c w i) rfl ?_
      exact hk
set_option maxRecDepth 100000 in
theorem k_index {G : xx_G} {l : Launch} {A : xx_H} {z b c w i L : Nat} {xs : Nat → Int32} {d d1 d2 c1 s1 c2 s2 c3 s3 : Nat} {P1 : Int32 → xx_H → Prop} {P2 : Int32 → Int32 → xx_H → Prop} {Q : Option Value ⊕ String → xx_H → Prop} (hi : i + 6 ≤ L) (hL : L < 2 ^ 31) (hd1 : d1 + 1 ≤ d) (hd2 : d2 + 1 ≤ d) (hs : A.2 z = xx_s L xs)
    (hX : xx_X G l mL_index d1 c1 s1 0 (lv_args 0 [.ref b, .int (xs (i + 1)), .ref w]) [] A (fun r B => ∃ k, r = .inl (some (.int k)) ∧ P1 k B))
    (hM : ∀ k B, P1 k B → B.2 z = xx_s L xs ∧ (∃ fs, B.2 c = xx_o 9 fs) ∧ xx_X G l mX9_index d2 c2 s2 0 (lv_args 0 [.ref c, .int (xs (i + 1))]) [] B (fun r C => ∃ v, r = .inl (some (.int v)) ∧ P2 k v C))
    (hK : ∀ k v C, P2 k v C → (∃ fs, C.2 c = xx_o 9 (.int k :: fs) ∧ fs.length = 28) ∧ (k = 0 → ∃ g, C.2 w = xx_l 1 g ∧ g 0 = v.toInt64) ∧ xx_X G l mL_law d c3 s3 1182 (xx_lv5 z b c w i) [] C Q) : xx_X G l mL_law d (c1 + (c2 + c3)) (s1 + (s2 + s3)) 855 (xx_lv5 z b c w i) [] A Q := by
  refine xx_aload_n dL_law_855 rfl ?_
  refine xx_aload_n dL_law_856 rfl ?_
  refine xx_iload dL_law_857 rfl ?_
  refine xx_iconst (v := 1) dL_law_859 (by decide) ?_
  refine xx_iadd dL_law_860 ?_
  refine xx_eqi (y := nI (i + 1)) (xx_ik i 1) ?_
  refine xx_sald dL_law_861 hs (vp_in_nI (by omega) hL) ?_
  refine xx_eqi (y := xs (i + 1)) (by rw [nI_clamp (by omega)]) ?_
  refine xx_aload_n dL_law_862 rfl ?_
  refine xx_callS (N := mL_index) (vs := [.ref b, .int (xs (i + 1)), .ref w]) (rest := []) (d2 := d1) (c2 := c1) (s2 := s1) (c3 := c2 + c3) (s3 := s2 + s3) dL_law_863 wm_L_122 ws_L_index wz_L (by decide) nL_index ⟨pL_index, Nat.le_of_ble_eq_true rfl, by omega, Nat.le_of_ble_eq_true rfl, by omega, by omega⟩ hX (fun v B hC => ?_) (fun E B hC => ?_)
  rotate_left
  · obtain ⟨k, e, _⟩ := hC; exact absurd e (by simp)
  obtain ⟨k, e, hp1⟩ := hC
  cases e
  obtain ⟨hs1, ⟨fs1, hc1⟩, hm⟩ := hM k B hp1
  refine xx_cst (st2 := [.int k]) rfl ?_
  refine xx_istore dL_law_866 (by decide) ?_
  refine xx_clv (lv2 := [(0, .ref z), (1, .ref b), (2, .ref c), (3, .ref w), (4, .int (nI i)), (5, .int k)]) rfl ?_
  refine xx_aload_n dL_law_868 rfl ?_
  refine xx_aload_n dL_law_869 rfl ?_
  refine xx_iload dL_law_870 rfl ?_
  refine xx_iconst (v := 1) dL_law_872 (by decide) ?_
  refine xx_iadd dL_law_873 ?_
  refine xx_eqi (y := nI (i + 1)) (xx_ik i 1) ?_
  refine xx_sald dL_law_874 hs1 (vp_in_nI (by omega) hL) ?_
  refine xx_eqi (y := xs (i + 1)) (by rw [nI_clamp (by omega)]) ?_
  refine xx_callV (N := mX9_index) (vs := [.int (xs (i + 1))]) (b := c) (rest := []) (d2 := d2) (c2 := c2) (s2 := s2) (c3 := c3) (s3 := s3) dL_law_875 wm_L_124 wi_X9_index wv_X9_index (k := 9) rfl (by decide) hc1 nX9_index ⟨pX9_index, Nat.le_of_ble_eq_true rfl, by omega, Nat.le_of_ble_eq_true rfl, by omega, by omega⟩ hm (fun v C hC => ?_) (fun E C hC => ?_)
  rotate_left
  · obtain ⟨v, e, _⟩ := hC; exact absurd e (by simp)
  obtain ⟨v, e, hp2⟩ := hC
  cases e
  obtain ⟨⟨fs2, hc2, _⟩, he, hk⟩ := hK k v C hp2
  refine xx_cst (st2 := [.int v]) rfl ?_
  refine xx_istore dL_law_878 (by decide) ?_
  refine xx_clv (lv2 := [(0, .ref z), (1, .ref b), (2, .ref c), (3, .ref w), (4, .int (nI i)), (5, .int k), (6, .int v)]) rfl ?_
  refine xx_aload_n dL_law_880 rfl ?_
  refine xx_callV (N := mX9_thrown) (vs := []) (b := c) (rest := []) (d2 := 0) (c2 := 0) (s2 := 0) (c3 := c3) (s3 := s3) dL_law_881 wm_L_83 wi_X9_thrown wv_X9_thrown (k := 9) rfl (by decide) hc2 nX9_thrown ⟨pX9_thrown, Nat.le_of_ble_eq_true rfl, by omega, Nat.le_of_ble_eq_true rfl, by omega, by omega⟩ (t_X9_thrown hc2) (fun v2 D hC => ?_) (fun E D hC => absurd hC.1 (by simp))
  obtain ⟨hv, rfl⟩ := hC
  cases hv
  refine xx_cst (st2 := [.int k]) rfl ?_
  refine xx_iload dL_law_884 rfl ?_
  refine xx_icmp_eq (tgt := 891) dL_law_886 (by decide) (fun _ => ?_) (fun h => absurd rfl h)
  refine xx_iload dL_law_891 rfl ?_
  refine xx_if_ne (tgt := 908) dL_law_893 (by decide) (fun _ => ?_) (fun k0 => ?_)
  · refine xx_goto (tgt := 1182) dL_law_908 (by decide) ?_
    refine xx_less [0, 1, 2, 3, 4] ?_
    refine xx_clv (lv2 := xx_lv5 z b c w i) rfl ?_
    exact hk
  · obtain ⟨g, hg, e0⟩ := he k0
    refine xx_aload_n dL_law_896 rfl ?_
    refine xx_iconst (v := 0) dL_law_897 (by decide) ?_
    refine xx_lald dL_law_898 hg (by unfold vp_in; decide) ?_
    refine xx_eql (y := v.toInt64) e0 ?_
    refine xx_iload dL_law_899 rfl ?_
    refine xx_i2l dL_law_901 ?_
    refine xx_lcmp dL_law_902 ?_
    refine xx_if_eq (tgt := 908) dL_law_903 (by decide) (fun _ => ?_) (fun h => absurd ((lg_cmp_eq _ _).mpr rfl) h)
    refine xx_goto (tgt := 1182) dL_law_908 (by decide) ?_
    refine xx_less [0, 1, 2, 3, 4] ?_
    refine xx_clv (lv2 := xx_lv5 z b c w i) rfl ?_
    exact hk
set_option maxRecDepth 100000 in
theorem k_round {G : xx_G} {l : Launch} {A : xx_H} {z b c w i L : Nat} {xs : Nat → Int32} {d d1 d2 c1 s1 c2 s2 c3 s3 : Nat} {P1 : Int32 → xx_H → Prop} {P2 : Int32 → Int32 → xx_H → Prop} {Q : Option Value ⊕ String → xx_H → Prop} (hi : i + 6 ≤ L) (hL : L < 2 ^ 31) (hd1 : d1 + 1 ≤ d) (hd2 : d2 + 1 ≤ d) (hs : A.2 z = xx_s L xs)
    (hX : xx_X G l mL_round d1 c1 s1 0 (lv_args 0 [.ref b, .ref w]) [] A (fun r B => ∃ k, r = .inl (some (.int k)) ∧ P1 k B))
    (hM : ∀ k B, P1 k B → B.2 z = xx_s L xs ∧ (∃ fs, B.2 c = xx_o 9 fs) ∧ xx_X G l mX9_round d2 c2 s2 0 (lv_args 0 [.ref c]) [] B (fun r C => ∃ v, r = .inl (some (.int v)) ∧ P2 k v C))
    (hK : ∀ k v C, P2 k v C → (∃ fs, C.2 c = xx_o 9 (.int k :: fs) ∧ fs.length = 28) ∧ (k = 0 → ∃ g, C.2 w = xx_l 1 g ∧ g 0 = v.toInt64) ∧ xx_X G l mL_law d c3 s3 1182 (xx_lv5 z b c w i) [] C Q) : xx_X G l mL_law d (c1 + (c2 + c3)) (s1 + (s2 + s3)) 911 (xx_lv5 z b c w i) [] A Q := by
  refine xx_aload_n dL_law_911 rfl ?_
  refine xx_aload_n dL_law_912 rfl ?_
  refine xx_callS (N := mL_round) (vs := [.ref b, .ref w]) (rest := []) (d2 := d1) (c2 := c1) (s2 := s1) (c3 := c2 + c3) (s3 := s2 + s3) dL_law_913 wm_L_125 ws_L_round wz_L (by decide) nL_round ⟨pL_round, Nat.le_of_ble_eq_true rfl, by omega, Nat.le_of_ble_eq_true rfl, by omega, by omega⟩ hX (fun v B hC => ?_) (fun E B hC => ?_)
  rotate_left
  · obtain ⟨k, e, _⟩ := hC; exact absurd e (by simp)
  obtain ⟨k, e, hp1⟩ := hC
  cases e
  obtain ⟨hs1, ⟨fs1, hc1⟩, hm⟩ := hM k B hp1
  refine xx_cst (st2 := [.int k]) rfl ?_
  refine xx_istore dL_law_916 (by decide) ?_
  refine xx_clv (lv2 := [(0, .ref z), (1, .ref b), (2, .ref c), (3, .ref w), (4, .int (nI i)), (5, .int k)]) rfl ?_
  refine xx_aload_n dL_law_918 rfl ?_
  refine xx_callV (N := mX9_round) (vs := []) (b := c) (rest := []) (d2 := d2) (c2 := c2) (s2 := s2) (c3 := c3) (s3 := s3) dL_law_919 wm_L_127 wi_X9_round wv_X9_round (k := 9) rfl (by decide) hc1 nX9_round ⟨pX9_round, Nat.le_of_ble_eq_true rfl, by omega, Nat.le_of_ble_eq_true rfl, by omega, by omega⟩ hm (fun v C hC => ?_) (fun E C hC => ?_)
  rotate_left
  · obtain ⟨v, e, _⟩ := hC; exact absurd e (by simp)
  obtain ⟨v, e, hp2⟩ := hC
  cases e
  obtain ⟨⟨fs2, hc2, _⟩, he, hk⟩ := hK k v C hp2
  refine xx_cst (st2 := [.int v]) rfl ?_
  refine xx_istore dL_law_922 (by decide) ?_
  refine xx_clv (lv2 := [(0, .ref z), (1, .ref b), (2, .ref c), (3, .ref w), (4, .int (nI i)), (5, .int k), (6, .int v)]) rfl ?_
  refine xx_aload_n dL_law_924 rfl ?_
  refine xx_callV (N := mX9_thrown) (vs := []) (b := c) (rest := []) (d2 := 0) (c2 := 0) (s2 := 0) (c3 := c3) (s3 := s3) dL_law_925 wm_L_83 wi_X9_thrown wv_X9_thrown (k := 9) rfl (by decide) hc2 nX9_thrown ⟨pX9_thrown, Nat.le_of_ble_eq_true rfl, by omega, Nat.le_of_ble_eq_true rfl, by omega, by omega⟩ (t_X9_thrown hc2) (fun v2 D hC => ?_) (fun E D hC => absurd hC.1 (by simp))
  obtain ⟨hv, rfl⟩ := hC
  cases hv
  refine xx_cst (st2 := [.int k]) rfl ?_
  refine xx_iload dL_law_928 rfl ?_
  refine xx_icmp_eq (tgt := 935) dL_law_930 (by decide) (fun _ => ?_) (fun h => absurd rfl h)
  refine xx_iload dL_law_935 rfl ?_
  refine xx_if_ne (tgt := 952) dL_law_937 (by decide) (fun _ => ?_) (fun k0 => ?_)
  · refine xx_goto (tgt := 1182) dL_law_952 (by decide) ?_
    refine xx_less [0, 1, 2, 3, 4] ?_
    refine xx_clv (lv2 := xx_lv5 z b c w i) rfl ?_
    exact hk
  · obtain ⟨g, hg, e0⟩ := he k0
    refine xx_aload_n dL_law_940 rfl ?_
    refine xx_iconst (v := 0) dL_law_941 (by decide) ?_
    refine xx_lald dL_law_942 hg (by unfold vp_in; decide) ?_
    refine xx_eql (y := v.toInt64) e0 ?_
    refine xx_iload dL_law_943 rfl ?_
    refine xx_i2l dL_law_945 ?_
    refine xx_lcmp dL_law_946 ?_
    refine xx_if_eq (tgt := 952) dL_law_947 (by decide) (fun _ => ?_) (fun h => absurd ((lg_cmp_eq _ _).mpr rfl) h)
    refine xx_goto (tgt := 1182) dL_law_952 (by decide) ?_
    refine xx_less [0, 1, 2, 3, 4] ?_
    refine xx_clv (lv2 := xx_lv5 z b c w i) rfl ?_
    exact hk
set_option maxRecDepth 100000 in
theorem k_isThere {G : xx_G} {l : Launch} {A : xx_H} {z b c w i L : Nat} {xs : Nat → Int32} {d d1 d2 c1 s1 c2 s2 c3 s3 : Nat} {P1 : Int32 → xx_H → Prop} {P2 : Int32 → Int32 → xx_H → Prop} {Q : Option Value ⊕ String → xx_H → Prop} (hi : i + 6 ≤ L) (hL : L < 2 ^ 31) (hd1 : d1 + 1 ≤ d) (hd2 : d2 + 1 ≤ d) (hs : A.2 z = xx_s L xs)
    (hX : xx_X G l mL_isThere d1 c1 s1 0 (lv_args 0 [.ref b, .int (xs (i + 1)), .int (xs (i + 2)), .ref w]) [] A (fun r B => ∃ k, r = .inl (some (.int k)) ∧ P1 k B))
    (hM : ∀ k B, P1 k B → B.2 z = xx_s L xs ∧ (∃ fs, B.2 c = xx_o 9 fs) ∧ xx_X G l mX9_isThere d2 c2 s2 0 (lv_args 0 [.ref c, .int (xs (i + 1)), .int (xs (i + 2))]) [] B (fun r C => ∃ v, r = .inl (some (.int v)) ∧ P2 k v C))
    (hK : ∀ k v C, P2 k v C → (∃ fs, C.2 c = xx_o 9 (.int k :: fs) ∧ fs.length = 28) ∧ (k = 0 → ∃ g, C.2 w = xx_l 1 g ∧ g 0 = (if v = 0 then 0 else 1)) ∧ xx_X G l mL_law d c3 s3 1182 (xx_lv5 z b c w i) [] C Q) : xx_X G l mL_law d (c1 + (c2 + c3)) (s1 + (s2 + s3)) 955 (xx_lv5 z b c w i) [] A Q := by
  refine xx_aload_n dL_law_955 rfl ?_
  refine xx_aload_n dL_law_956 rfl ?_
  refine xx_iload dL_law_957 rfl ?_
  refine xx_iconst (v := 1) dL_law_959 (by decide) ?_
  refine xx_iadd dL_law_960 ?_
  refine xx_eqi (y := nI (i + 1)) (xx_ik i 1) ?_
  refine xx_sald dL_law_961 hs (vp_in_nI (by omega) hL) ?_
  refine xx_eqi (y := xs (i + 1)) (by rw [nI_clamp (by omega)]) ?_
  refine xx_aload_n dL_law_962 rfl ?_
  refine xx_iload dL_law_963 rfl ?_
  refine xx_iconst (v := 2) dL_law_965 (by decide) ?_
  refine xx_iadd dL_law_966 ?_
  refine xx_eqi (y := nI (i + 2)) (xx_ik i 2) ?_
  refine xx_sald dL_law_967 hs (vp_in_nI (by omega) hL) ?_
  refine xx_eqi (y := xs (i + 2)) (by rw [nI_clamp (by omega)]) ?_
  refine xx_aload_n dL_law_968 rfl ?_
  refine xx_callS (N := mL_isThere) (vs := [.ref b, .int (xs (i + 1)), .int (xs (i + 2)), .ref w]) (rest := []) (d2 := d1) (c2 := c1) (s2 := s1) (c3 := c2 + c3) (s3 := s2 + s3) dL_law_969 wm_L_128 ws_L_isThere wz_L (by decide) nL_isThere ⟨pL_isThere, Nat.le_of_ble_eq_true rfl, by omega, Nat.le_of_ble_eq_true rfl, by omega, by omega⟩ hX (fun v B hC => ?_) (fun E B hC => ?_)
  rotate_left
  · obtain ⟨k, e, _⟩ := hC; exact absurd e (by simp)
  obtain ⟨k, e, hp1⟩ := hC
  cases e
  obtain ⟨hs1, ⟨fs1, hc1⟩, hm⟩ := hM k B hp1
  refine xx_cst (st2 := [.int k]) rfl ?_
  refine xx_istore dL_law_972 (by decide) ?_
  refine xx_clv (lv2 := [(0, .ref z), (1, .ref b), (2, .ref c), (3, .ref w), (4, .int (nI i)), (5, .int k)]) rfl ?_
  refine xx_aload_n dL_law_974 rfl ?_
  refine xx_aload_n dL_law_975 rfl ?_
  refine xx_iload dL_law_976 rfl ?_
  refine xx_iconst (v := 1) dL_law_978 (by decide) ?_
  refine xx_iadd dL_law_979 ?_
  refine xx_eqi (y := nI (i + 1)) (xx_ik i 1) ?_
  refine xx_sald dL_law_980 hs1 (vp_in_nI (by omega) hL) ?_
  refine xx_eqi (y := xs (i + 1)) (by rw [nI_clamp (by omega)]) ?_
  refine xx_aload_n dL_law_981 rfl ?_
  refine xx_iload dL_law_982 rfl ?_
  refine xx_iconst (v := 2) dL_law_984 (by decide) ?_
  refine xx_iadd dL_law_985 ?_
  refine xx_eqi (y := nI (i + 2)) (xx_ik i 2) ?_
  refine xx_sald dL_law_986 hs1 (vp_in_nI (by omega) hL) ?_
  refine xx_eqi (y := xs (i + 2)) (by rw [nI_clamp (by omega)]) ?_
  refine xx_callV (N := mX9_isThere) (vs := [.int (xs (i + 1)), .int (xs (i + 2))]) (b := c) (rest := []) (d2 := d2) (c2 := c2) (s2 := s2) (c3 := c3) (s3 := s3) dL_law_987 wm_L_130 wi_X9_isThere wv_X9_isThere (k := 9) rfl (by decide) hc1 nX9_isThere ⟨pX9_isThere, Nat.le_of_ble_eq_true rfl, by omega, Nat.le_of_ble_eq_true rfl, by omega, by omega⟩ hm (fun v C hC => ?_) (fun E C hC => ?_)
  rotate_left
  · obtain ⟨v, e, _⟩ := hC; exact absurd e (by simp)
  obtain ⟨v, e, hp2⟩ := hC
  cases e
  obtain ⟨⟨fs2, hc2, _⟩, he, hk⟩ := hK k v C hp2
  refine xx_cst (st2 := [.int v]) rfl ?_
  refine xx_istore dL_law_990 (by decide) ?_
  refine xx_clv (lv2 := [(0, .ref z), (1, .ref b), (2, .ref c), (3, .ref w), (4, .int (nI i)), (5, .int k), (6, .int v)]) rfl ?_
  refine xx_aload_n dL_law_992 rfl ?_
  refine xx_callV (N := mX9_thrown) (vs := []) (b := c) (rest := []) (d2 := 0) (c2 := 0) (s2 := 0) (c3 := c3) (s3 := s3) dL_law_993 wm_L_83 wi_X9_thrown wv_X9_thrown (k := 9) rfl (by decide) hc2 nX9_thrown ⟨pX9_thrown, Nat.le_of_ble_eq_true rfl, by omega, Nat.le_of_ble_eq_true rfl, by omega, by omega⟩ (t_X9_thrown hc2) (fun v2 D hC => ?_) (fun E D hC => absurd hC.1 (by simp))
  obtain ⟨hv, rfl⟩ := hC
  cases hv
  refine xx_cst (st2 := [.int k]) rfl ?_
  refine xx_iload dL_law_996 rfl ?_
  refine xx_icmp_eq (tgt := 1003) dL_law_998 (by decide) (fun _ => ?_) (fun h => absurd rfl h)
  refine xx_iload dL_law_1003 rfl ?_
  refine xx_if_ne (tgt := 1027) dL_law_1005 (by decide) (fun _ => ?_) (fun k0 => ?_)
  · refine xx_goto (tgt := 1182) dL_law_1027 (by decide) ?_
    refine xx_less [0, 1, 2, 3, 4] ?_
    refine xx_clv (lv2 := xx_lv5 z b c w i) rfl ?_
    exact hk
  · obtain ⟨g, hg, e0⟩ := he k0
    refine xx_aload_n dL_law_1008 rfl ?_
    refine xx_iconst (v := 0) dL_law_1009 (by decide) ?_
    refine xx_lald dL_law_1010 hg (by unfold vp_in; decide) ?_
    refine xx_eql (y := (if v = 0 then 0 else 1)) e0 ?_
    refine xx_iload dL_law_1011 rfl ?_
    refine xx_if_eq (tgt := 1020) dL_law_1013 (by decide) (fun v0 => ?_) (fun v0 => ?_)
    · refine xx_cst (st2 := [.long 0]) (by rw [if_pos v0]) ?_
      refine xx_lconst (v := 0) dL_law_1020 (by decide) ?_
      refine xx_lcmp dL_law_1021 ?_
      refine xx_if_eq (tgt := 1027) dL_law_1022 (by decide) (fun _ => ?_) (fun h => absurd (by decide) h)
      refine xx_goto (tgt := 1182) dL_law_1027 (by decide) ?_
      refine xx_less [0, 1, 2, 3, 4] ?_
      refine xx_clv (lv2 := xx_lv5 z b c w i) rfl ?_
      exact hk
    · refine xx_cst (st2 := [.long 1]) (by rw [if_neg v0]) ?_
      refine xx_lconst (v := 1) dL_law_1016 (by decide) ?_
      refine xx_goto (tgt := 1021) dL_law_1017 (by decide) ?_
      refine xx_lcmp dL_law_1021 ?_
      refine xx_if_eq (tgt := 1027) dL_law_1022 (by decide) (fun _ => ?_) (fun h => absurd (by decide) h)
      refine xx_goto (tgt := 1182) dL_law_1027 (by decide) ?_
      refine xx_less [0, 1, 2, 3, 4] ?_
      refine xx_clv (lv2 := xx_lv5 z b c w i) rfl ?_
      exact hk
set_option maxRecDepth 100000 in
theorem k_part0 {G : xx_G} {l : Launch} {A : xx_H} {z b c w i L : Nat} {xs : Nat → Int32} {d d1 d2 c1 s1 c2 s2 c3 s3 : Nat} {P1 : Int32 → xx_H → Prop} {P2 : Int32 → Int64 → xx_H → Prop} {Q : Option Value ⊕ String → xx_H → Prop} (hi : i + 6 ≤ L) (hL : L < 2 ^ 31) (hd1 : d1 + 1 ≤ d) (hd2 : d2 + 1 ≤ d) (hs : A.2 z = xx_s L xs) (h0 : xs (i + 1) = 0)
    (hX : xx_X G l mL_part d1 c1 s1 0 (lv_args 0 [.ref b, .int 0, .int (xs (i + 2)), .ref w]) [] A (fun r B => ∃ k, r = .inl (some (.int k)) ∧ P1 k B))
    (hM : ∀ k B, P1 k B → B.2 z = xx_s L xs ∧ (∃ fs, B.2 c = xx_o 9 fs) ∧ xx_X G l mX9_part d2 c2 s2 0 (lv_args 0 [.ref c, .int 0, .int (xs (i + 2))]) [] B (fun r C => ∃ v, r = .inl (some (.long v)) ∧ P2 k v C))
    (hK : ∀ k v C, P2 k v C → (∃ fs, C.2 c = xx_o 9 (.int k :: fs) ∧ fs.length = 28) ∧ (k = 0 → ∃ g, C.2 w = xx_l 1 g ∧ g 0 = v) ∧ xx_X G l mL_law d c3 s3 1182 (xx_lv5 z b c w i) [] C Q) : xx_X G l mL_law d (c1 + (c2 + c3)) (s1 + (s2 + s3)) 1030 (xx_lv5 z b c w i) [] A Q := by
  refine xx_aload_n dL_law_1030 rfl ?_
  refine xx_aload_n dL_law_1031 rfl ?_
  refine xx_iload dL_law_1032 rfl ?_
  refine xx_iconst (v := 1) dL_law_1034 (by decide) ?_
  refine xx_iadd dL_law_1035 ?_
  refine xx_eqi (y := nI (i + 1)) (xx_ik i 1) ?_
  refine xx_sald dL_law_1036 hs (vp_in_nI (by omega) hL) ?_
  refine xx_eqi (y := xs (i + 1)) (by rw [nI_clamp (by omega)]) ?_
  refine xx_if_eq (tgt := 1044) dL_law_1037 (by decide) (fun _ => ?_) (fun h => absurd h0 h)
  refine xx_iconst (v := 0) dL_law_1044 (by decide) ?_
  refine xx_aload_n dL_law_1045 rfl ?_
  refine xx_iload dL_law_1046 rfl ?_
  refine xx_iconst (v := 2) dL_law_1048 (by decide) ?_
  refine xx_iadd dL_law_1049 ?_
  refine xx_eqi (y := nI (i + 2)) (xx_ik i 2) ?_
  refine xx_sald dL_law_1050 hs (vp_in_nI (by omega) hL) ?_
  refine xx_eqi (y := xs (i + 2)) (by rw [nI_clamp (by omega)]) ?_
  refine xx_aload_n dL_law_1051 rfl ?_
  refine xx_callS (N := mL_part) (vs := [.ref b, .int 0, .int (xs (i + 2)), .ref w]) (rest := []) (d2 := d1) (c2 := c1) (s2 := s1) (c3 := c2 + c3) (s3 := s2 + s3) dL_law_1052 wm_L_131 ws_L_part wz_L (by decide) nL_part ⟨pL_part, Nat.le_of_ble_eq_true rfl, by omega, Nat.le_of_ble_eq_true rfl, by omega, by omega⟩ hX (fun v B hC => ?_) (fun E B hC => ?_)
  rotate_left
  · obtain ⟨k, e, _⟩ := hC; exact absurd e (by simp)
  obtain ⟨k, e, hp1⟩ := hC
  cases e
  obtain ⟨hs1, ⟨fs1, hc1⟩, hm⟩ := hM k B hp1
  refine xx_cst (st2 := [.int k]) rfl ?_
  refine xx_istore dL_law_1055 (by decide) ?_
  refine xx_clv (lv2 := [(0, .ref z), (1, .ref b), (2, .ref c), (3, .ref w), (4, .int (nI i)), (5, .int k)]) rfl ?_
  refine xx_aload_n dL_law_1057 rfl ?_
  refine xx_aload_n dL_law_1058 rfl ?_
  refine xx_iload dL_law_1059 rfl ?_
  refine xx_iconst (v := 1) dL_law_1061 (by decide) ?_
  refine xx_iadd dL_law_1062 ?_
  refine xx_eqi (y := nI (i + 1)) (xx_ik i 1) ?_
  refine xx_sald dL_law_1063 hs1 (vp_in_nI (by omega) hL) ?_
  refine xx_eqi (y := xs (i + 1)) (by rw [nI_clamp (by omega)]) ?_
  refine xx_if_eq (tgt := 1071) dL_law_1064 (by decide) (fun _ => ?_) (fun h => absurd h0 h)
  refine xx_iconst (v := 0) dL_law_1071 (by decide) ?_
  refine xx_aload_n dL_law_1072 rfl ?_
  refine xx_iload dL_law_1073 rfl ?_
  refine xx_iconst (v := 2) dL_law_1075 (by decide) ?_
  refine xx_iadd dL_law_1076 ?_
  refine xx_eqi (y := nI (i + 2)) (xx_ik i 2) ?_
  refine xx_sald dL_law_1077 hs1 (vp_in_nI (by omega) hL) ?_
  refine xx_eqi (y := xs (i + 2)) (by rw [nI_clamp (by omega)]) ?_
  refine xx_callV (N := mX9_part) (vs := [.int 0, .int (xs (i + 2))]) (b := c) (rest := []) (d2 := d2) (c2 := c2) (s2 := s2) (c3 := c3) (s3 := s3) dL_law_1078 wm_L_134 wi_X9_part wv_X9_part (k := 9) rfl (by decide) hc1 nX9_part ⟨pX9_part, Nat.le_of_ble_eq_true rfl, by omega, Nat.le_of_ble_eq_true rfl, by omega, by omega⟩ hm (fun v C hC => ?_) (fun E C hC => ?_)
  rotate_left
  · obtain ⟨v, e, _⟩ := hC; exact absurd e (by simp)
  obtain ⟨v, e, hp2⟩ := hC
  cases e
  obtain ⟨⟨fs2, hc2, _⟩, he, hk⟩ := hK k v C hp2
  refine xx_cst (st2 := [.long v]) rfl ?_
  refine xx_lstore dL_law_1081 (by decide) ?_
  refine xx_clv (lv2 := [(0, .ref z), (1, .ref b), (2, .ref c), (3, .ref w), (4, .int (nI i)), (5, .int k), (6, .long v)]) rfl ?_
  refine xx_aload_n dL_law_1083 rfl ?_
  refine xx_callV (N := mX9_thrown) (vs := []) (b := c) (rest := []) (d2 := 0) (c2 := 0) (s2 := 0) (c3 := c3) (s3 := s3) dL_law_1084 wm_L_83 wi_X9_thrown wv_X9_thrown (k := 9) rfl (by decide) hc2 nX9_thrown ⟨pX9_thrown, Nat.le_of_ble_eq_true rfl, by omega, Nat.le_of_ble_eq_true rfl, by omega, by omega⟩ (t_X9_thrown hc2) (fun v2 D hC => ?_) (fun E D hC => absurd hC.1 (by simp))
  obtain ⟨hv, rfl⟩ := hC
  cases hv
  refine xx_cst (st2 := [.int k]) rfl ?_
  refine xx_iload dL_law_1087 rfl ?_
  refine xx_icmp_eq (tgt := 1094) dL_law_1089 (by decide) (fun _ => ?_) (fun h => absurd rfl h)
  refine xx_iload dL_law_1094 rfl ?_
  refine xx_if_ne (tgt := 1110) dL_law_1096 (by decide) (fun _ => ?_) (fun k0 => ?_)
  · refine xx_goto (tgt := 1182) dL_law_1110 (by decide) ?_
    refine xx_less [0, 1, 2, 3, 4] ?_
    refine xx_clv (lv2 := xx_lv5 z b c w i) rfl ?_
    exact hk
  · obtain ⟨g, hg, e0⟩ := he k0
    refine xx_aload_n dL_law_1099 rfl ?_
    refine xx_iconst (v := 0) dL_law_1100 (by decide) ?_
    refine xx_lald dL_law_1101 hg (by unfold vp_in; decide) ?_
    refine xx_eql (y := v) e0 ?_
    refine xx_lload dL_law_1102 rfl ?_
    refine xx_lcmp dL_law_1104 ?_
    refine xx_if_eq (tgt := 1110) dL_law_1105 (by decide) (fun _ => ?_) (fun h => absurd ((lg_cmp_eq _ _).mpr rfl) h)
    refine xx_goto (tgt := 1182) dL_law_1110 (by decide) ?_
    refine xx_less [0, 1, 2, 3, 4] ?_
    refine xx_clv (lv2 := xx_lv5 z b c w i) rfl ?_
    exact hk
set_option maxRecDepth 100000 in
theorem k_part1 {G : xx_G} {l : Launch} {A : xx_H} {z b c w i L : Nat} {xs : Nat → Int32} {d d1 d2 c1 s1 c2 s2 c3 s3 : Nat} {P1 : Int32 → xx_H → Prop} {P2 : Int32 → Int64 → xx_H → Prop} {Q : Option Value ⊕ String → xx_H → Prop} (hi : i + 6 ≤ L) (hL : L < 2 ^ 31) (hd1 : d1 + 1 ≤ d) (hd2 : d2 + 1 ≤ d) (hs : A.2 z = xx_s L xs) (h0 : ¬ xs (i + 1) = 0)
    (hX : xx_X G l mL_part d1 c1 s1 0 (lv_args 0 [.ref b, .int 1, .int (xs (i + 2)), .ref w]) [] A (fun r B => ∃ k, r = .inl (some (.int k)) ∧ P1 k B))
    (hM : ∀ k B, P1 k B → B.2 z = xx_s L xs ∧ (∃ fs, B.2 c = xx_o 9 fs) ∧ xx_X G l mX9_part d2 c2 s2 0 (lv_args 0 [.ref c, .int 1, .int (xs (i + 2))]) [] B (fun r C => ∃ v, r = .inl (some (.long v)) ∧ P2 k v C))
    (hK : ∀ k v C, P2 k v C → (∃ fs, C.2 c = xx_o 9 (.int k :: fs) ∧ fs.length = 28) ∧ (k = 0 → ∃ g, C.2 w = xx_l 1 g ∧ g 0 = v) ∧ xx_X G l mL_law d c3 s3 1182 (xx_lv5 z b c w i) [] C Q) : xx_X G l mL_law d (c1 + (c2 + c3)) (s1 + (s2 + s3)) 1030 (xx_lv5 z b c w i) [] A Q := by
  refine xx_aload_n dL_law_1030 rfl ?_
  refine xx_aload_n dL_law_1031 rfl ?_
  refine xx_iload dL_law_1032 rfl ?_
  refine xx_iconst (v := 1) dL_law_1034 (by decide) ?_
  refine xx_iadd dL_law_1035 ?_
  refine xx_eqi (y := nI (i + 1)) (xx_ik i 1) ?_
  refine xx_sald dL_law_1036 hs (vp_in_nI (by omega) hL) ?_
  refine xx_eqi (y := xs (i + 1)) (by rw [nI_clamp (by omega)]) ?_
  refine xx_if_eq (tgt := 1044) dL_law_1037 (by decide) (fun h => absurd h h0) (fun _ => ?_)
  refine xx_iconst (v := 1) dL_law_1040 (by decide) ?_
  refine xx_goto (tgt := 1045) dL_law_1041 (by decide) ?_
  refine xx_aload_n dL_law_1045 rfl ?_
  refine xx_iload dL_law_1046 rfl ?_
  refine xx_iconst (v := 2) dL_law_1048 (by decide) ?_
  refine xx_iadd dL_law_1049 ?_
  refine xx_eqi (y := nI (i + 2)) (xx_ik i 2) ?_
  refine xx_sald dL_law_1050 hs (vp_in_nI (by omega) hL) ?_
  refine xx_eqi (y := xs (i + 2)) (by rw [nI_clamp (by omega)]) ?_
  refine xx_aload_n dL_law_1051 rfl ?_
  refine xx_callS (N := mL_part) (vs := [.ref b, .int 1, .int (xs (i + 2)), .ref w]) (rest := []) (d2 := d1) (c2 := c1) (s2 := s1) (c3 := c2 + c3) (s3 := s2 + s3) dL_law_1052 wm_L_131 ws_L_part wz_L (by decide) nL_part ⟨pL_part, Nat.le_of_ble_eq_true rfl, by omega, Nat.le_of_ble_eq_true rfl, by omega, by omega⟩ hX (fun v B hC => ?_) (fun E B hC => ?_)
  rotate_left
  · obtain ⟨k, e, _⟩ := hC; exact absurd e (by simp)
  obtain ⟨k, e, hp1⟩ := hC
  cases e
  obtain ⟨hs1, ⟨fs1, hc1⟩, hm⟩ := hM k B hp1
  refine xx_cst (st2 := [.int k]) rfl ?_
  refine xx_istore dL_law_1055 (by decide) ?_
  refine xx_clv (lv2 := [(0, .ref z), (1, .ref b), (2, .ref c), (3, .ref w), (4, .int (nI i)), (5, .int k)]) rfl ?_
  refine xx_aload_n dL_law_1057 rfl ?_
  refine xx_aload_n dL_law_1058 rfl ?_
  refine xx_iload dL_law_1059 rfl ?_
  refine xx_iconst (v := 1) dL_law_1061 (by decide) ?_
  refine xx_iadd dL_law_1062 ?_
  refine xx_eqi (y := nI (i + 1)) (xx_ik i 1) ?_
  refine xx_sald dL_law_1063 hs1 (vp_in_nI (by omega) hL) ?_
  refine xx_eqi (y := xs (i + 1)) (by rw [nI_clamp (by omega)]) ?_
  refine xx_if_eq (tgt := 1071) dL_law_1064 (by decide) (fun h => absurd h h0) (fun _ => ?_)
  refine xx_iconst (v := 1) dL_law_1067 (by decide) ?_
  refine xx_goto (tgt := 1072) dL_law_1068 (by decide) ?_
  refine xx_aload_n dL_law_1072 rfl ?_
  refine xx_iload dL_law_1073 rfl ?_
  refine xx_iconst (v := 2) dL_law_1075 (by decide) ?_
  refine xx_iadd dL_law_1076 ?_
  refine xx_eqi (y := nI (i + 2)) (xx_ik i 2) ?_
  refine xx_sald dL_law_1077 hs1 (vp_in_nI (by omega) hL) ?_
  refine xx_eqi (y := xs (i + 2)) (by rw [nI_clamp (by omega)]) ?_
  refine xx_callV (N := mX9_part) (vs := [.int 1, .int (xs (i + 2))]) (b := c) (rest := []) (d2 := d2) (c2 := c2) (s2 := s2) (c3 := c3) (s3 := s3) dL_law_1078 wm_L_134 wi_X9_part wv_X9_part (k := 9) rfl (by decide) hc1 nX9_part ⟨pX9_part, Nat.le_of_ble_eq_true rfl, by omega, Nat.le_of_ble_eq_true rfl, by omega, by omega⟩ hm (fun v C hC => ?_) (fun E C hC => ?_)
  rotate_left
  · obtain ⟨v, e, _⟩ := hC; exact absurd e (by simp)
  obtain ⟨v, e, hp2⟩ := hC
  cases e
  obtain ⟨⟨fs2, hc2, _⟩, he, hk⟩ := hK k v C hp2
  refine xx_cst (st2 := [.long v]) rfl ?_
  refine xx_lstore dL_law_1081 (by decide) ?_
  refine xx_clv (lv2 := [(0, .ref z), (1, .ref b), (2, .ref c), (3, .ref w), (4, .int (nI i)), (5, .int k), (6, .long v)]) rfl ?_
  refine xx_aload_n dL_law_1083 rfl ?_
  refine xx_callV (N := mX9_thrown) (vs := []) (b := c) (rest := []) (d2 := 0) (c2 := 0) (s2 := 0) (c3 := c3) (s3 := s3) dL_law_1084 wm_L_83 wi_X9_thrown wv_X9_thrown (k := 9) rfl (by decide) hc2 nX9_thrown ⟨pX9_thrown, Nat.le_of_ble_eq_true rfl, by omega, Nat.le_of_ble_eq_true rfl, by omega, by omega⟩ (t_X9_thrown hc2) (fun v2 D hC => ?_) (fun E D hC => absurd hC.1 (by simp))
  obtain ⟨hv, rfl⟩ := hC
  cases hv
  refine xx_cst (st2 := [.int k]) rfl ?_
  refine xx_iload dL_law_1087 rfl ?_
  refine xx_icmp_eq (tgt := 1094) dL_law_1089 (by decide) (fun _ => ?_) (fun h => absurd rfl h)
  refine xx_iload dL_law_1094 rfl ?_
  refine xx_if_ne (tgt := 1110) dL_law_1096 (by decide) (fun _ => ?_) (fun k0 => ?_)
  · refine xx_goto (tgt := 1182) dL_law_1110 (by decide) ?_
    refine xx_less [0, 1, 2, 3, 4] ?_
    refine xx_clv (lv2 := xx_lv5 z b c w i) rfl ?_
    exact hk
  · obtain ⟨g, hg, e0⟩ := he k0
    refine xx_aload_n dL_law_1099 rfl ?_
    refine xx_iconst (v := 0) dL_law_1100 (by decide) ?_
    refine xx_lald dL_law_1101 hg (by unfold vp_in; decide) ?_
    refine xx_eql (y := v) e0 ?_
    refine xx_lload dL_law_1102 rfl ?_
    refine xx_lcmp dL_law_1104 ?_
    refine xx_if_eq (tgt := 1110) dL_law_1105 (by decide) (fun _ => ?_) (fun h => absurd ((lg_cmp_eq _ _).mpr rfl) h)
    refine xx_goto (tgt := 1182) dL_law_1110 (by decide) ?_
    refine xx_less [0, 1, 2, 3, 4] ?_
    refine xx_clv (lv2 := xx_lv5 z b c w i) rfl ?_
    exact hk
set_option maxRecDepth 100000 in
theorem k_told {G : xx_G} {l : Launch} {A : xx_H} {z b c w i L : Nat} {xs : Nat → Int32} {d d1 d2 c1 s1 c2 s2 c3 s3 : Nat} {P1 : Int32 → xx_H → Prop} {P2 : Int32 → Int32 → xx_H → Prop} {Q : Option Value ⊕ String → xx_H → Prop} (hi : i + 6 ≤ L) (hL : L < 2 ^ 31) (hd1 : d1 + 1 ≤ d) (hd2 : d2 + 1 ≤ d) (hs : A.2 z = xx_s L xs)
    (hX : xx_X G l mL_told d1 c1 s1 0 (lv_args 0 [.ref b, .int (xs (i + 1)), .ref w]) [] A (fun r B => ∃ k, r = .inl (some (.int k)) ∧ P1 k B))
    (hM : ∀ k B, P1 k B → B.2 z = xx_s L xs ∧ (∃ fs, B.2 c = xx_o 9 fs) ∧ xx_X G l mX9_told d2 c2 s2 0 (lv_args 0 [.ref c, .int (xs (i + 1))]) [] B (fun r C => ∃ v, r = .inl (some (.int v)) ∧ P2 k v C))
    (hK : ∀ k v C, P2 k v C → (∃ fs, C.2 c = xx_o 9 (.int k :: fs) ∧ fs.length = 28) ∧ (k = 0 → ∃ g, C.2 w = xx_l 1 g ∧ g 0 = v.toInt64) ∧ xx_X G l mL_law d c3 s3 1182 (xx_lv5 z b c w i) [] C Q) : xx_X G l mL_law d (c1 + (c2 + c3)) (s1 + (s2 + s3)) 1126 (xx_lv5 z b c w i) [] A Q := by
  refine xx_aload_n dL_law_1126 rfl ?_
  refine xx_aload_n dL_law_1127 rfl ?_
  refine xx_iload dL_law_1128 rfl ?_
  refine xx_iconst (v := 1) dL_law_1130 (by decide) ?_
  refine xx_iadd dL_law_1131 ?_
  refine xx_eqi (y := nI (i + 1)) (xx_ik i 1) ?_
  refine xx_sald dL_law_1132 hs (vp_in_nI (by omega) hL) ?_
  refine xx_eqi (y := xs (i + 1)) (by rw [nI_clamp (by omega)]) ?_
  refine xx_aload_n dL_law_1133 rfl ?_
  refine xx_callS (N := mL_told) (vs := [.ref b, .int (xs (i + 1)), .ref w]) (rest := []) (d2 := d1) (c2 := c1) (s2 := s1) (c3 := c2 + c3) (s3 := s2 + s3) dL_law_1134 wm_L_139 ws_L_told wz_L (by decide) nL_told ⟨pL_told, Nat.le_of_ble_eq_true rfl, by omega, Nat.le_of_ble_eq_true rfl, by omega, by omega⟩ hX (fun v B hC => ?_) (fun E B hC => ?_)
  rotate_left
  · obtain ⟨k, e, _⟩ := hC; exact absurd e (by simp)
  obtain ⟨k, e, hp1⟩ := hC
  cases e
  obtain ⟨hs1, ⟨fs1, hc1⟩, hm⟩ := hM k B hp1
  refine xx_cst (st2 := [.int k]) rfl ?_
  refine xx_istore dL_law_1137 (by decide) ?_
  refine xx_clv (lv2 := [(0, .ref z), (1, .ref b), (2, .ref c), (3, .ref w), (4, .int (nI i)), (5, .int k)]) rfl ?_
  refine xx_aload_n dL_law_1139 rfl ?_
  refine xx_aload_n dL_law_1140 rfl ?_
  refine xx_iload dL_law_1141 rfl ?_
  refine xx_iconst (v := 1) dL_law_1143 (by decide) ?_
  refine xx_iadd dL_law_1144 ?_
  refine xx_eqi (y := nI (i + 1)) (xx_ik i 1) ?_
  refine xx_sald dL_law_1145 hs1 (vp_in_nI (by omega) hL) ?_
  refine xx_eqi (y := xs (i + 1)) (by rw [nI_clamp (by omega)]) ?_
  refine xx_callV (N := mX9_told) (vs := [.int (xs (i + 1))]) (b := c) (rest := []) (d2 := d2) (c2 := c2) (s2 := s2) (c3 := c3) (s3 := s3) dL_law_1146 wm_L_141 wi_X9_told wv_X9_told (k := 9) rfl (by decide) hc1 nX9_told ⟨pX9_told, Nat.le_of_ble_eq_true rfl, by omega, Nat.le_of_ble_eq_true rfl, by omega, by omega⟩ hm (fun v C hC => ?_) (fun E C hC => ?_)
  rotate_left
  · obtain ⟨v, e, _⟩ := hC; exact absurd e (by simp)
  obtain ⟨v, e, hp2⟩ := hC
  cases e
  obtain ⟨⟨fs2, hc2, _⟩, he, hk⟩ := hK k v C hp2
  refine xx_cst (st2 := [.int v]) rfl ?_
  refine xx_istore dL_law_1149 (by decide) ?_
  refine xx_clv (lv2 := [(0, .ref z), (1, .ref b), (2, .ref c), (3, .ref w), (4, .int (nI i)), (5, .int k), (6, .int v)]) rfl ?_
  refine xx_aload_n dL_law_1151 rfl ?_
  refine xx_callV (N := mX9_thrown) (vs := []) (b := c) (rest := []) (d2 := 0) (c2 := 0) (s2 := 0) (c3 := c3) (s3 := s3) dL_law_1152 wm_L_83 wi_X9_thrown wv_X9_thrown (k := 9) rfl (by decide) hc2 nX9_thrown ⟨pX9_thrown, Nat.le_of_ble_eq_true rfl, by omega, Nat.le_of_ble_eq_true rfl, by omega, by omega⟩ (t_X9_thrown hc2) (fun v2 D hC => ?_) (fun E D hC => absurd hC.1 (by simp))
  obtain ⟨hv, rfl⟩ := hC
  cases hv
  refine xx_cst (st2 := [.int k]) rfl ?_
  refine xx_iload dL_law_1155 rfl ?_
  refine xx_icmp_eq (tgt := 1162) dL_law_1157 (by decide) (fun _ => ?_) (fun h => absurd rfl h)
  refine xx_iload dL_law_1162 rfl ?_
  refine xx_if_ne (tgt := 1179) dL_law_1164 (by decide) (fun _ => ?_) (fun k0 => ?_)
  · refine xx_goto (tgt := 1182) dL_law_1179 (by decide) ?_
    refine xx_less [0, 1, 2, 3, 4] ?_
    refine xx_clv (lv2 := xx_lv5 z b c w i) rfl ?_
    exact hk
  · obtain ⟨g, hg, e0⟩ := he k0
    refine xx_aload_n dL_law_1167 rfl ?_
    refine xx_iconst (v := 0) dL_law_1168 (by decide) ?_
    refine xx_lald dL_law_1169 hg (by unfold vp_in; decide) ?_
    refine xx_eql (y := v.toInt64) e0 ?_
    refine xx_iload dL_law_1170 rfl ?_
    refine xx_i2l dL_law_1172 ?_
    refine xx_lcmp dL_law_1173 ?_
    refine xx_if_eq (tgt := 1179) dL_law_1174 (by decide) (fun _ => ?_) (fun h => absurd ((lg_cmp_eq _ _).mpr rfl) h)
    refine xx_goto (tgt := 1182) dL_law_1179 (by decide) ?_
    refine xx_less [0, 1, 2, 3, 4] ?_
    refine xx_clv (lv2 := xx_lv5 z b c w i) rfl ?_
    exact hk
set_option maxRecDepth 100000 in
theorem k_sign {G : xx_G} {l : Launch} {A : xx_H} {z b c w i : Nat} {d d1 d2 c1 s1 c2 s2 c3 s3 : Nat} {fs : List Value} {P1 : Int32 → xx_H → Prop} {P2 : Int32 → xx_H → Prop} {Q : Option Value ⊕ String → xx_H → Prop} (hd1 : d1 + 1 ≤ d) (hd2 : d2 + 1 ≤ d) (hb : A.2 b = xx_o 8 fs)
    (hX : xx_X G l mX8_sign d1 c1 s1 0 (lv_args 0 [.ref b]) [] A (fun r B => ∃ v, r = .inl (some (.int v)) ∧ P1 v B))
    (hM : ∀ v B, P1 v B → (∃ fs, B.2 c = xx_o 9 fs) ∧ xx_X G l mX9_sign d2 c2 s2 0 (lv_args 0 [.ref c]) [] B (fun r C => r = .inl (some (.int v)) ∧ P2 v C))
    (hK : ∀ v C, P2 v C → xx_X G l mL_law d c3 s3 1182 (xx_lv5 z b c w i) [] C Q) : xx_X G l mL_law d (c1 + (c2 + c3)) (s1 + (s2 + s3)) 1113 (xx_lv5 z b c w i) [] A Q := by
  refine xx_aload_n dL_law_1113 rfl ?_
  refine xx_callV (N := mX8_sign) (vs := []) (b := b) (rest := []) (d2 := d1) (c2 := c1) (s2 := s1) (c3 := c2 + c3) (s3 := s2 + s3) dL_law_1114 wm_L_135 wi_X8_sign wv_X8_sign (k := 8) rfl (by decide) hb nX8_sign ⟨pX8_sign, Nat.le_of_ble_eq_true rfl, by omega, Nat.le_of_ble_eq_true rfl, by omega, by omega⟩ hX (fun v B hC => ?_) (fun E B hC => ?_)
  rotate_left
  · obtain ⟨v, e, _⟩ := hC; exact absurd e (by simp)
  obtain ⟨v, e, hp1⟩ := hC
  cases e
  obtain ⟨⟨fs1, hc1⟩, hm⟩ := hM v B hp1
  refine xx_cst (st2 := [.int v]) rfl ?_
  refine xx_aload_n dL_law_1117 rfl ?_
  refine xx_callV (N := mX9_sign) (vs := []) (b := c) (rest := [.int v]) (d2 := d2) (c2 := c2) (s2 := s2) (c3 := c3) (s3 := s3) dL_law_1118 wm_L_138 wi_X9_sign wv_X9_sign (k := 9) rfl (by decide) hc1 nX9_sign ⟨pX9_sign, Nat.le_of_ble_eq_true rfl, by omega, Nat.le_of_ble_eq_true rfl, by omega, by omega⟩ hm (fun v2 C hC => ?_) (fun E C hC => absurd hC.1 (by simp))
  obtain ⟨e, hp2⟩ := hC
  cases e
  refine xx_cst (st2 := [.int v, .int v]) rfl ?_
  refine xx_icmp_eq (tgt := 1182) dL_law_1121 (by decide) (fun _ => ?_) (fun h => absurd rfl h)
  exact hK v C hp2
set_option maxRecDepth 100000 in
/-- the loop's end -/
theorem k_end {G : xx_G} {l : Launch} {A : xx_H} {z b c w i L d c1 s1 : Nat} {xs : Nat → Int32} {Q : Option Value ⊕ String → xx_H → Prop} (hs : A.2 z = xx_s L xs) (hL : L ≤ 3072) (hi : i ≤ 3078) (h : L < i + 6) (hQ : Q (.inl (some (.int 1))) A) : xx_X G l mL_law d c1 s1 23 (xx_lv5 z b c w i) [] A Q := by
  refine xx_iload dL_law_23 rfl ?_
  refine xx_aload_n dL_law_25 rfl ?_
  refine xx_slen (v := nI L) dL_law_26 hs rfl ?_
  refine xx_bipush (v := 6) dL_law_27 (by decide) ?_
  refine xx_isub dL_law_29 ?_
  have e : nI L - 6 < nI i := by rw [Int32.lt_iff_toInt_lt, show (6 : Int32) = nI 6 from rfl, pk_sub_toInt (by omega) (by omega), nI_toInt (by omega)]; omega
  refine xx_icmp_gt (tgt := 1188) dL_law_30 (by decide) (fun _ => ?_) (fun h => absurd e h)
  refine xx_iconst (v := 1) dL_law_1188 (by decide) ?_
  exact xx_zret dL_law_1189 rfl rfl hQ
set_option maxRecDepth 100000 in
/-- a round: the case that the call's number names -/
theorem k_go {G : xx_G} {l : Launch} {A : xx_H} {z b c w i L d c1 s1 : Nat} {xs : Nat → Int32} {Q : Option Value ⊕ String → xx_H → Prop} (hs : A.2 z = xx_s L xs) (hL : L ≤ 3072) (h : i + 6 ≤ L) (hk : ∀ j, j < 17 → xx_X G l mL_law d c1 s1 ([124, 172, 256, 312, 380, 452, 496, 564, 644, 724, 792, 855, 911, 955, 1030, 1113, 1126].getD j 0) (xx_lv5 z b c w i) [] A Q) (hr : xx_X G l mL_law d c1 s1 1182 (xx_lv5 z b c w i) [] A Q) : xx_X G l mL_law d c1 s1 23 (xx_lv5 z b c w i) [] A Q := by
  refine xx_iload dL_law_23 rfl ?_
  refine xx_aload_n dL_law_25 rfl ?_
  refine xx_slen (v := nI L) dL_law_26 hs rfl ?_
  refine xx_bipush (v := 6) dL_law_27 (by decide) ?_
  refine xx_isub dL_law_29 ?_
  have e : ¬ nI L - 6 < nI i := by rw [Int32.lt_iff_toInt_lt, show (6 : Int32) = nI 6 from rfl, pk_sub_toInt (by omega) (by omega), nI_toInt (by omega)]; omega
  refine xx_icmp_gt (tgt := 1188) dL_law_30 (by decide) (fun h => absurd h e) (fun _ => ?_)
  refine xx_aload_n dL_law_33 rfl ?_
  refine xx_iload dL_law_34 rfl ?_
  refine xx_sald dL_law_36 hs (vp_in_nI (by omega) (by omega)) ?_
  refine xx_eqi (y := xs i) (by rw [nI_clamp (by omega)]) ?_
  refine xx_bipush (v := 31) dL_law_37 (by decide) ?_
  refine xx_iand dL_law_39 ?_
  obtain ⟨j, hj, ej⟩ := pk_andE (xs i) (m := 31) 5 rfl
  refine xx_eqi (y := nI j) ej ?_
  have hj2 : j = 0 ∨ j = 1 ∨ j = 2 ∨ j = 3 ∨ j = 4 ∨ j = 5 ∨ j = 6 ∨ j = 7 ∨ j = 8 ∨ j = 9 ∨ j = 10 ∨ j = 11 ∨ j = 12 ∨ j = 13 ∨ j = 14 ∨ j = 15 ∨ j = 16 ∨ 17 ≤ j := by omega
  rcases hj2 with rfl | rfl | rfl | rfl | rfl | rfl | rfl | rfl | rfl | rfl | rfl | rfl | rfl | rfl | rfl | rfl | rfl | h17
  · exact xx_tableIn (tgt := 124) dL_law_40 (by decide) (by decide) rfl (by decide) (hk 0 (by decide))
  · exact xx_tableIn (tgt := 172) dL_law_40 (by decide) (by decide) rfl (by decide) (hk 1 (by decide))
  · exact xx_tableIn (tgt := 256) dL_law_40 (by decide) (by decide) rfl (by decide) (hk 2 (by decide))
  · exact xx_tableIn (tgt := 312) dL_law_40 (by decide) (by decide) rfl (by decide) (hk 3 (by decide))
  · exact xx_tableIn (tgt := 380) dL_law_40 (by decide) (by decide) rfl (by decide) (hk 4 (by decide))
  · exact xx_tableIn (tgt := 452) dL_law_40 (by decide) (by decide) rfl (by decide) (hk 5 (by decide))
  · exact xx_tableIn (tgt := 496) dL_law_40 (by decide) (by decide) rfl (by decide) (hk 6 (by decide))
  · exact xx_tableIn (tgt := 564) dL_law_40 (by decide) (by decide) rfl (by decide) (hk 7 (by decide))
  · exact xx_tableIn (tgt := 644) dL_law_40 (by decide) (by decide) rfl (by decide) (hk 8 (by decide))
  · exact xx_tableIn (tgt := 724) dL_law_40 (by decide) (by decide) rfl (by decide) (hk 9 (by decide))
  · exact xx_tableIn (tgt := 792) dL_law_40 (by decide) (by decide) rfl (by decide) (hk 10 (by decide))
  · exact xx_tableIn (tgt := 855) dL_law_40 (by decide) (by decide) rfl (by decide) (hk 11 (by decide))
  · exact xx_tableIn (tgt := 911) dL_law_40 (by decide) (by decide) rfl (by decide) (hk 12 (by decide))
  · exact xx_tableIn (tgt := 955) dL_law_40 (by decide) (by decide) rfl (by decide) (hk 13 (by decide))
  · exact xx_tableIn (tgt := 1030) dL_law_40 (by decide) (by decide) rfl (by decide) (hk 14 (by decide))
  · exact xx_tableIn (tgt := 1113) dL_law_40 (by decide) (by decide) rfl (by decide) (hk 15 (by decide))
  · exact xx_tableIn (tgt := 1126) dL_law_40 (by decide) (by decide) rfl (by decide) (hk 16 (by decide))
  · exact xx_tableOut (tgt := 1182) dL_law_40 (Or.inr (by rw [nI_toInt (by omega)]; omega)) (by decide) hr
set_option maxRecDepth 100000 in
/-- on to the next call -/
theorem k_next {G : xx_G} {l : Launch} {A : xx_H} {z b c w i d c1 s1 : Nat} {Q : Option Value ⊕ String → xx_H → Prop} (k : xx_X G l mL_law d c1 s1 23 (xx_lv5 z b c w (i + 6)) [] A Q) : xx_X G l mL_law d c1 s1 1182 (xx_lv5 z b c w i) [] A Q := by
  refine xx_iinc (v := nI (i + 6)) dL_law_1182 rfl (nI_add i 6) (by decide) ?_
  refine xx_goto (tgt := 23) dL_law_1185 (by decide) ?_
  refine xx_clv (lv2 := xx_lv5 z b c w (i + 6)) rfl ?_
  exact k

/-! ===== the reference's run ===== -/
/-- a register changes -/
def xx_rop (A : xx_H) (b : Nat) (N : Nat → Int) (a : Nat) (v : Int) (z : Option Value ⊕ String) (B : xx_H) : Prop := z = .inl none ∧ B.1 = A.1 ∧ (∃ N2, xx_rw B b N2 ∧ N2 a = v ∧ ∀ r, r ≠ a → N2 r = N r) ∧ ∀ q, q ≠ b + 1 → q ≠ b + 2 → q ≠ b + 3 → q ≠ b + 17 → q ≠ b + 18 → B.2 q = A.2 q
theorem xx_rop.of {A B : xx_H} {b : Nat} {N : Nat → Int} {a : Nat} {v : Int} {z : Option Value ⊕ String} (hN : xx_rw A b N) (h : z = .inl none ∧ B.1 = A.1 ∧ xx_rg B b (yy_un N a v) ∧ ∀ q, q ≠ b + 1 → q ≠ b + 2 → q ≠ b + 3 → B.2 q = A.2 q) : xx_rop A b N a v z B := ⟨h.1, h.2.1, ⟨_, hN.set h.2.2.1 h.2.2.2, yy_un_s, fun _ hr => yy_un_n hr⟩, fun q a1 a2 a3 _ _ => h.2.2.2 q a1 a2 a3⟩
theorem w_X9_set {G : xx_G} {l : Launch} {A : xx_H} {b : Nat} {th hr st hl en tu : Value} {m n : Nat} {a : Nat} {N : Nat → Int} {v : Int} (hb : A.2 b = xx_o 9 (xx_mf b th (.int (nI m)) (.int (nI n)) hr st hl en tu)) (hN : xx_rw A b N) (ha : a < 1740) (h1 : -2 ^ 63 < v) (h2 : v < 2 ^ 63) : xx_X G l mX9_set 0 0 0 0 (lv_args 0 [.ref b, .int (nI a), .long (lz v)]) [] A (xx_rop A b N a v) := xx_mono (fun _ _ h => xx_rop.of hN h) (c_X9_set hb hN.1 ha h1 h2)
theorem w_X9_copy {G : xx_G} {l : Launch} {A : xx_H} {b : Nat} {th hr st hl en tu : Value} {m n : Nat} {x a : Nat} {N : Nat → Int} (hb : A.2 b = xx_o 9 (xx_mf b th (.int (nI m)) (.int (nI n)) hr st hl en tu)) (hN : xx_rw A b N) (hx : x < 1740) (ha : a < 1740) (hxa : x ≠ a) : xx_X G l mX9_copy 0 0 0 0 (lv_args 0 [.ref b, .int (nI x), .int (nI a)]) [] A (xx_rop A b N a (N x)) := xx_mono (fun _ _ h => xx_rop.of hN h) (c_X9_copy hb hN.1 hx ha hxa)
theorem w_X9_times {G : xx_G} {l : Launch} {A : xx_H} {b : Nat} {th hr st hl en tu : Value} {m n : Nat} {x y c p q : Nat} {N : Nat → Int} (hb : A.2 b = xx_o 9 (xx_mf b th (.int (nI m)) (.int (nI n)) hr st hl en tu)) (hN : xx_rw A b N) (hx : x < 1740) (hy : y < 1740) (hc : c < 1740) (hxc : x ≠ c) (hyc : y ≠ c) (hpq : p + q = 40) (h1 : (N x).natAbs < 65536 ^ p) (h2 : (N y).natAbs < 65536 ^ q) : xx_X G l mX9_times 1 0 0 0 (lv_args 0 [.ref b, .int (nI x), .int (nI y), .int (nI c)]) [] A (xx_rop A b N c (N x * N y)) := xx_mono (fun _ _ h => xx_rop.of hN h) (c_X9_times hb hN.1 hx hy hc hxc hyc ⟨p, q, hpq, h1, h2⟩)
theorem w_X9_add {G : xx_G} {l : Launch} {A : xx_H} {b : Nat} {th hr st hl en tu : Value} {m n : Nat} {x y c : Nat} {N : Nat → Int} {mn : Bool} (hb : A.2 b = xx_o 9 (xx_mf b th (.int (nI m)) (.int (nI n)) hr st hl en tu)) (hN : xx_rw A b N) (hx : x < 1740) (hy : y < 1740) (hc : c < 1740) (h1 : (N x).natAbs < 65536 ^ 39) (h2 : (N y).natAbs < 65536 ^ 39) : xx_X G l mX9_add 2 0 0 0 (lv_args 0 [.ref b, .int (nI x), .int (nI y), .int (if mn then 1 else 0), .int (nI c)]) [] A (xx_rop A b N c (N x + if mn then - N y else N y)) := xx_mono (fun _ _ h => xx_rop.of hN h) (c_X9_add hb hN.1 hx hy hc h1 h2)
theorem yy_q39 {v : Int} (h : v.natAbs < 2 ^ 600) : v.natAbs < 65536 ^ 39 := Nat.lt_trans h (by decide +kernel)
/-- whose label it is -/
def yw_o (m p c : Nat) : Bool := if p = 0 then decide (c < m) else decide (m ≤ c)
/-- a player's weight out of the first r rows of his table -/
def yw_x (m p : Nat) (bs : Nat → Nat) (T : Nat → Nat → Int) (sd r k : Nat) : Int := yd_s r (fun j => if yw_o m p (bs j) = true ∧ bs j = yq_fl m (1 - p) + k then T j sd else 0)
def yw_t (m p : Nat) (bs : Nat → Nat) (T : Nat → Nat → Int) (sd r : Nat) : Int := yd_s r (fun j => if yw_o m p (bs j) then T j sd else 0)
theorem yw_x_s {m p : Nat} {bs : Nat → Nat} {T : Nat → Nat → Int} {sd r k : Nat} (ho : yw_o m p (bs r) = true) (hk : bs r = yq_fl m (1 - p) + k) (hd : ∀ j, j < r → bs j ≠ bs r) : yw_x m p bs T sd (r + 1) k = T r sd := by
  show yd_s r _ + (if yw_o m p (bs r) = true ∧ bs r = yq_fl m (1 - p) + k then T r sd else 0) = _
  rw [if_pos ⟨ho, hk⟩, yd_s_zero (fun j hj => if_neg (fun e => hd j hj (e.2.trans hk.symm))), Int.zero_add]
theorem yw_x_n {m p : Nat} {bs : Nat → Nat} {T : Nat → Nat → Int} {sd r k : Nat} (hk : ¬ (yw_o m p (bs r) = true ∧ bs r = yq_fl m (1 - p) + k)) : yw_x m p bs T sd (r + 1) k = yw_x m p bs T sd r k := by
  show yd_s r _ + (if yw_o m p (bs r) = true ∧ bs r = yq_fl m (1 - p) + k then T r sd else 0) = _
  rw [if_neg hk, Int.add_zero]; rfl
theorem yw_t_s {m p : Nat} {bs : Nat → Nat} {T : Nat → Nat → Int} {sd r : Nat} (h : yw_o m p (bs r) = true) : yw_t m p bs T sd (r + 1) = yw_t m p bs T sd r + T r sd := by
  show yd_s r _ + (if yw_o m p (bs r) = true then T r sd else 0) = _
  rw [if_pos h]; rfl
theorem yw_t_n {m p : Nat} {bs : Nat → Nat} {T : Nat → Nat → Int} {sd r : Nat} (h : ¬ yw_o m p (bs r) = true) : yw_t m p bs T sd (r + 1) = yw_t m p bs T sd r := by
  show yd_s r _ + (if yw_o m p (bs r) = true then T r sd else 0) = _
  rw [if_neg h, Int.add_zero]; rfl
theorem yw_t_b {m p : Nat} {bs : Nat → Nat} {T : Nat → Nat → Int} {sd r K : Nat} (h : ∀ j, j < r → (T j sd).natAbs ≤ K) : (yw_t m p bs T sd r).natAbs ≤ r * K := yd_s_abs (fun j hj => by
  show (if yw_o m p (bs j) = true then T j sd else 0).natAbs ≤ K
  split
  · exact h j hj
  · exact Nat.zero_le _)
set_option maxRecDepth 100000 in
theorem l_X9_rz {G : xx_G} {l : Launch} {A : xx_H} {b : Nat} {th hr st hl en tu : Value} {m n : Nat} {N : Nat → Int} {Q : Option Value ⊕ String → xx_H → Prop} (hb : A.2 b = xx_o 9 (xx_mf b th (.int (nI m)) (.int (nI n)) hr st hl en tu)) (k : ∀ (B : xx_H) (N2 : Nat → Int), B.1 = A.1 → xx_rw B b N2 → (∀ j, j < 12 → N2 (300 + j) = 0) → (∀ q, (q < 300 ∨ 312 ≤ q) → N2 q = N q) → (∀ q, q ≠ b + 1 → q ≠ b + 2 → q ≠ b + 3 → q ≠ b + 17 → q ≠ b + 18 → B.2 q = A.2 q) → xx_X G l mX9_run 5 0 0 185 [(0, .ref b)] [] B Q) :
    ∀ (v i : Nat), i + v = 12 → ∀ (B : xx_H) (N2 : Nat → Int), B.1 = A.1 → xx_rw B b N2 → (∀ j, j < i → N2 (300 + j) = 0) → (∀ q, (q < 300 ∨ 312 ≤ q) → N2 q = N q) → (∀ q, q ≠ b + 1 → q ≠ b + 2 → q ≠ b + 3 → q ≠ b + 17 → q ≠ b + 18 → B.2 q = A.2 q) → xx_X G l mX9_run 5 0 0 161 [(0, .ref b), (5, .int (nI i))] [] B Q := by
  intro v
  induction v with
  | zero =>
    intro i hi B N2 y1 y2 y3 y4 y5
    have : i = 12 := by omega
    subst this
    refine xx_clv (lv2 := [(0, .ref b), (5, .int 12)]) rfl ?_
    refine xx_iload dX9_run_161 rfl ?_
    refine xx_bipush (v := 12) dX9_run_163 (by decide) ?_
    refine xx_icmp_ge (tgt := 185) dX9_run_165 (by decide) (fun j165 => ?_) (fun h => absurd (by decide) h)
    refine xx_less [0] ?_
    refine xx_clv (lv2 := [(0, .ref b)]) rfl ?_
    exact k B N2 y1 y2 y3 y4 y5
  | succ v ih =>
    intro i hi B N2 y1 y2 y3 y4 y5
    have hb2 := (y5 b (by omega) (by omega) (by omega) (by omega) (by omega)).trans hb
    refine xx_iload dX9_run_161 rfl ?_
    refine xx_bipush (v := 12) dX9_run_163 (by decide) ?_
    refine xx_icmp_ge (tgt := 185) dX9_run_165 (by decide) (fun h => absurd h (nI_ge (a := i) (b := 12) (by omega) (by decide))) (fun j165 => ?_)
    refine xx_aload_n dX9_run_168 rfl ?_
    refine xx_sipush (v := 300) dX9_run_169 (by decide) ?_
    refine xx_iload dX9_run_172 rfl ?_
    refine xx_iadd dX9_run_174 ?_
    refine xx_eqi (y := nI (300 + i)) (nI_add 300 i) ?_
    refine xx_lconst (v := 0) dX9_run_175 (by decide) ?_
    refine xx_eql (y := lz 0) (by decide) ?_
    refine xx_callV (N := mX9_set) (vs := [.int (nI (300 + i)), .long (lz 0)]) (b := b) (rest := []) (d2 := 0) (c2 := 0) (s2 := 0) (c3 := 0) (s3 := 0) dX9_run_176 wm_X9_80 wi_X9_set wv_X9_set (k := 9) rfl (by decide) hb2 nX9_set ⟨pX9_set, Nat.le_of_ble_eq_true rfl, by decide, Nat.le_of_ble_eq_true rfl, by decide, by decide⟩ (w_X9_set hb2 y2 (a := 300 + i) (v := 0) (by omega) (by decide) (by decide)) (fun v9 Eq1 hC => ?_) (fun E9 B9 hC => absurd hC.1 (by simp))
    obtain ⟨hv9, zq1, ⟨Nq1, hNq1, vq1, fq1⟩, oq1⟩ := hC
    cases hv9
    refine xx_cst (st2 := []) rfl ?_
    have hbq1 := (oq1 b (by omega) (by omega) (by omega) (by omega) (by omega)).trans hb2
    refine xx_iinc (v := nI (i + 1)) dX9_run_179 rfl (nI_add i 1) (by decide) ?_
    refine xx_clv (lv2 := [(0, .ref b), (5, .int (nI (i + 1)))]) rfl ?_
    refine xx_goto (tgt := 161) dX9_run_182 (by decide) ?_
    refine ih (i + 1) (by omega) Eq1 Nq1 (by omega) hNq1 (fun j hj => ?_) (fun q hq => (fq1 q (by omega)).trans (y4 q hq)) (fun q a1 a2 a3 a4 a5 => (oq1 q a1 a2 a3 a4 a5).trans (y5 q a1 a2 a3 a4 a5))
    by_cases z : j = i
    · rw [z]; exact vq1
    · rw [fq1 _ (by omega)]; exact y3 j (by omega)
set_option maxRecDepth 100000 in
theorem l_X9_rq {G : xx_G} {l : Launch} {A : xx_H} {b : Nat} {th hr st hl en tu : Value} {m n : Nat} {N : Nat → Int} {p : Nat} {bs : Nat → Nat} {T : Nat → Nat → Int} {fb : Nat → Int32} {Q : Option Value ⊕ String → xx_H → Prop} (hb : A.2 b = xx_o 9 (xx_mf b th (.int (nI m)) (.int (nI n)) hr st hl en tu)) (hbs : A.2 (b + 12) = xx_i 12 fb) (hp : p < 2) (hm : m ≤ 6) (hn : n ≤ 6) (hf : ∀ r, r < yy_rw m n p → fb (6 * p + r) = nI (bs r)) (hT : ∀ r, r < yy_rw m n p → N (yy_tb p + 13 * r + (m + n)) = T r (m + n)) (hB : ∀ r, r < yy_rw m n p → (T r (m + n)).natAbs < 2 ^ 200) (hi9 : ∀ i j, i < yy_rw m n p → j < yy_rw m n p → bs i = bs j → i = j) (hl9 : ∀ i, i < yy_rw m n p → bs i < m + n) (k : ∀ (B : xx_H) (N2 : Nat → Int), B.1 = A.1 → xx_rw B b N2 → (∀ j, j < 6 → N2 (300 + 6 * p + j) = yw_x m p bs T (m + n) (yy_rw m n p) j) → N2 (312 + p) = yw_t m p bs T (m + n) (yy_rw m n p) → (∀ q, (q < 300 + 6 * p ∨ 306 + 6 * p ≤ q) → q ≠ 312 + p → N2 q = N q) → (∀ q, q ≠ b + 1 → q ≠ b + 2 → q ≠ b + 3 → q ≠ b + 17 → q ≠ b + 18 → B.2 q = A.2 q) → xx_X G l mX9_run 5 0 0 365 [(0, .ref b), (5, .int (nI p))] [] B Q) :
    ∀ (v i : Nat), i + v = yy_rw m n p → ∀ (B : xx_H) (N2 : Nat → Int), B.1 = A.1 → xx_rw B b N2 → (∀ j, j < 6 → N2 (300 + 6 * p + j) = yw_x m p bs T (m + n) i j) → N2 (312 + p) = yw_t m p bs T (m + n) i → (∀ q, (q < 300 + 6 * p ∨ 306 + 6 * p ≤ q) → q ≠ 312 + p → N2 q = N q) → (∀ q, q ≠ b + 1 → q ≠ b + 2 → q ≠ b + 3 → q ≠ b + 17 → q ≠ b + 18 → B.2 q = A.2 q) → xx_X G l mX9_run 5 0 0 208 [(0, .ref b), (5, .int (nI p)), (6, .int (nI i))] [] B Q := by
  have r6 := yy_rw6 (t := p) hm hn
  have tb := yy_tb_b p
  intro v
  induction v with
  | zero =>
    intro i hi B N2 y1 y2 y3 y4 y5 y6
    have : i = yy_rw m n p := by omega
    subst this
    have hb2 := (y6 b (by omega) (by omega) (by omega) (by omega) (by omega)).trans hb
    refine xx_clv (lv2 := [(0, .ref b), (5, .int (nI p)), (6, .int (nI (yy_rw m n p)))]) rfl ?_
    refine xx_iload dX9_run_208 rfl ?_
    refine xx_aload_n dX9_run_210 rfl ?_
    refine xx_iload dX9_run_211 rfl ?_
    refine xx_callV (N := mX9_rowsOf) (vs := [.int (nI p)]) (b := b) (rest := [.int (nI (yy_rw m n p))]) (d2 := 0) (c2 := 0) (s2 := 0) (c3 := 0) (s3 := 0) dX9_run_213 wm_X9_147 wi_X9_rowsOf wv_X9_rowsOf (k := 9) rfl (by decide) hb2 nX9_rowsOf ⟨pX9_rowsOf, Nat.le_of_ble_eq_true rfl, by decide, Nat.le_of_ble_eq_true rfl, by decide, by decide⟩ (c_X9_rowsOf (tt := p) hb2 hp) (fun v9 B9 hC => ?_) (fun E9 B9 hC => absurd hC.1 (by simp))
    obtain ⟨hv9, e9⟩ := hC
    cases hv9
    refine xx_cst (st2 := [.int (nI (yy_rw m n p)), .int (nI (yy_rw m n p))]) rfl ?_
    rw [e9]
    refine xx_icmp_ge (tgt := 365) dX9_run_216 (by decide) (fun j216 => ?_) (fun h => absurd (Int32.le_refl _) h)
    refine xx_less [0, 5] ?_
    refine xx_clv (lv2 := [(0, .ref b), (5, .int (nI p))]) rfl ?_
    exact k B N2 y1 y2 y3 y4 y5 y6
  | succ v ih =>
    intro i hi B N2 y1 y2 y3 y4 y5 y6
    have hir : i < yy_rw m n p := by omega
    have hb2 := (y6 b (by omega) (by omega) (by omega) (by omega) (by omega)).trans hb
    have hbs2 := (y6 (b + 12) (by omega) (by omega) (by omega) (by omega) (by omega)).trans hbs
    have bl := hl9 i hir
    have eT : N2 (yy_tb p + 13 * i + (m + n)) = T i (m + n) := (y5 _ (by omega) (by omega)).trans (hT i hir)
    have bT := hB i hir
    have bt : (yw_t m p bs T (m + n) i).natAbs < 2 ^ 600 := Nat.lt_of_le_of_lt (yw_t_b (K := 2 ^ 200) (fun j hj => Nat.le_of_lt (hB j (by omega)))) (Nat.lt_of_le_of_lt (Nat.mul_le_mul_right _ (show i ≤ 6 by omega)) (by decide +kernel))
    have bT6 : (T i (m + n)).natAbs < 65536 ^ 39 := Nat.lt_trans bT (by decide +kernel)
    obtain ⟨c, hc9⟩ : ∃ c, c = bs i := ⟨_, rfl⟩
    rw [← hc9] at bl
    have ef : fb (6 * p + i) = nI c := by rw [hc9]; exact hf i hir
    have dist : ∀ j, j < i → bs j ≠ bs i := fun j hj e => by have := hi9 j i (by omega) hir e; omega
    have fl0 : p = 0 → yq_fl m (1 - p) = 0 := fun z => by rw [z]; rfl
    have fl1 : ¬ p = 0 → yq_fl m (1 - p) = m := fun z => by rw [show 1 - p = 0 by omega]; rfl
    refine xx_iload dX9_run_208 rfl ?_
    refine xx_aload_n dX9_run_210 rfl ?_
    refine xx_iload dX9_run_211 rfl ?_
    refine xx_callV (N := mX9_rowsOf) (vs := [.int (nI p)]) (b := b) (rest := [.int (nI i)]) (d2 := 0) (c2 := 0) (s2 := 0) (c3 := 0) (s3 := 0) dX9_run_213 wm_X9_147 wi_X9_rowsOf wv_X9_rowsOf (k := 9) rfl (by decide) hb2 nX9_rowsOf ⟨pX9_rowsOf, Nat.le_of_ble_eq_true rfl, by decide, Nat.le_of_ble_eq_true rfl, by decide, by decide⟩ (c_X9_rowsOf (tt := p) hb2 hp) (fun v9 B9 hC => ?_) (fun E9 B9 hC => absurd hC.1 (by simp))
    obtain ⟨hv9, e9⟩ := hC
    cases hv9
    refine xx_cst (st2 := [.int (nI (yy_rw m n p)), .int (nI i)]) rfl ?_
    rw [e9]
    refine xx_icmp_ge (tgt := 365) dX9_run_216 (by decide) (fun h => absurd h (nI_ge (a := i) (b := yy_rw m n p) (by omega) (by omega))) (fun j216 => ?_)
    refine xx_aload_n dX9_run_219 rfl ?_
    refine xx_get xx_c9 dX9_run_220 wf_X9_48 (j := 18) (by decide) hb2 rfl ?_
    refine xx_bipush (v := 6) dX9_run_223 (by decide) ?_
    refine xx_iload dX9_run_225 rfl ?_
    refine xx_imul dX9_run_227 ?_
    refine xx_eqi (y := nI (6 * p)) (pk_mul 6 p) ?_
    refine xx_iload dX9_run_228 rfl ?_
    refine xx_iadd dX9_run_230 ?_
    refine xx_eqi (y := nI (6 * p + i)) (nI_add (6 * p) i) ?_
    refine xx_iald dX9_run_231 hbs2 (vp_in_nI (by omega) (by decide)) ?_
    refine xx_eqi (y := nI c) (by rw [nI_clamp (by omega)]; exact ef) ?_
    refine xx_istore dX9_run_232 (by decide) ?_
    refine xx_clv (lv2 := [(0, .ref b), (5, .int (nI p)), (6, .int (nI i)), (7, .int (nI c))]) rfl ?_
    by_cases pz : p = 0
    · refine xx_iload dX9_run_234 rfl ?_
      refine xx_if_ne (tgt := 256) dX9_run_236 (by decide) (fun h => absurd (congrArg nI pz) h) (fun j236 => ?_)
      refine xx_iload dX9_run_239 rfl ?_
      refine xx_aload_n dX9_run_241 rfl ?_
      refine xx_get xx_c9 dX9_run_242 wf_X9_120 (j := 4) (by decide) hb2 rfl ?_
      refine xx_icmp_ge (tgt := 252) dX9_run_245 (by decide) (fun j245 => ?_) (fun j245 => ?_)
      · have j245 : m ≤ c := (nI_leI (a := m) (b := c) (by omega) (by omega)).mp j245
        refine xx_iconst (v := 0) dX9_run_252 (by decide) ?_
        refine xx_goto (tgt := 270) dX9_run_253 (by decide) ?_
        refine xx_istore dX9_run_270 (by decide) ?_
        refine xx_clv (lv2 := [(0, .ref b), (5, .int (nI p)), (6, .int (nI i)), (7, .int (nI c)), (8, .int 0)]) rfl ?_
        refine xx_iload dX9_run_272 rfl ?_
        refine xx_if_eq (tgt := 359) dX9_run_274 (by decide) (fun j274 => ?_) (fun h => absurd (by decide) h)
        refine xx_iinc (v := nI (i + 1)) dX9_run_359 rfl (nI_add i 1) (by decide) ?_
        refine xx_clv (lv2 := [(0, .ref b), (5, .int (nI p)), (6, .int (nI (i + 1))), (7, .int (nI c)), (8, .int 0)]) rfl ?_
        refine xx_goto (tgt := 208) dX9_run_362 (by decide) ?_
        refine xx_less [0, 5, 6] ?_
        refine xx_clv (lv2 := [(0, .ref b), (5, .int (nI p)), (6, .int (nI (i + 1)))]) rfl ?_
        have ow : ¬ yw_o m p (bs i) = true := by rw [← hc9]; unfold yw_o; rw [if_pos pz]; exact fun h => by have := of_decide_eq_true h; omega
        have flp := fl0 pz
        refine ih (i + 1) (by omega) B N2 y1 y2 (fun j hj => ?_) ?_ y5 y6
        · rw [y3 j hj, yw_x_n (fun h => ow h.1)]
        · rw [y4, yw_t_n ow]
      · have j245 : ¬ m ≤ c := fun hq9 => j245 ((nI_leI (a := m) (b := c) (by omega) (by omega)).mpr hq9)
        refine xx_iconst (v := 1) dX9_run_248 (by decide) ?_
        refine xx_goto (tgt := 270) dX9_run_249 (by decide) ?_
        refine xx_istore dX9_run_270 (by decide) ?_
        refine xx_clv (lv2 := [(0, .ref b), (5, .int (nI p)), (6, .int (nI i)), (7, .int (nI c)), (8, .int 1)]) rfl ?_
        refine xx_iload dX9_run_272 rfl ?_
        refine xx_if_eq (tgt := 359) dX9_run_274 (by decide) (fun h => absurd h (by decide)) (fun j274 => ?_)
        refine xx_aload_n dX9_run_277 rfl ?_
        refine xx_aload_n dX9_run_278 rfl ?_
        refine xx_iload dX9_run_279 rfl ?_
        refine xx_iload dX9_run_281 rfl ?_
        refine xx_aload_n dX9_run_283 rfl ?_
        refine xx_get xx_c9 dX9_run_284 wf_X9_120 (j := 4) (by decide) hb2 rfl ?_
        refine xx_aload_n dX9_run_287 rfl ?_
        refine xx_get xx_c9 dX9_run_288 wf_X9_123 (j := 5) (by decide) hb2 rfl ?_
        refine xx_iadd dX9_run_291 ?_
        refine xx_eqi (y := nI (m + n)) (nI_add m n) ?_
        refine xx_callV (N := mX9_cell) (vs := [.int (nI p), .int (nI i), .int (nI (m + n))]) (b := b) (rest := [.ref b]) (d2 := 0) (c2 := 0) (s2 := 0) (c3 := 0) (s3 := 0) dX9_run_292 wm_X9_151 wi_X9_cell wv_X9_cell (k := 9) rfl (by decide) hb2 nX9_cell ⟨pX9_cell, Nat.le_of_ble_eq_true rfl, by decide, Nat.le_of_ble_eq_true rfl, by decide, by decide⟩ (c_X9_cell (tt := p) (r := i) (c := m + n) hb2 (by omega) (by omega) (by omega)) (fun v9 B9 hC => ?_) (fun E9 B9 hC => absurd hC.1 (by simp))
        obtain ⟨hv9, e9⟩ := hC
        cases hv9
        refine xx_cst (st2 := [.int (nI (yy_tb p + 13 * i + (m + n))), .ref b]) rfl ?_
        rw [e9]
        refine xx_sipush (v := 300) dX9_run_295 (by decide) ?_
        refine xx_bipush (v := 6) dX9_run_298 (by decide) ?_
        refine xx_iload dX9_run_300 rfl ?_
        refine xx_imul dX9_run_302 ?_
        refine xx_eqi (y := nI (6 * p)) (pk_mul 6 p) ?_
        refine xx_iadd dX9_run_303 ?_
        refine xx_eqi (y := nI (300 + (6 * p))) (nI_add 300 (6 * p)) ?_
        refine xx_iload dX9_run_304 rfl ?_
        refine xx_if_ne (tgt := 314) dX9_run_306 (by decide) (fun h => absurd (congrArg nI pz) h) (fun j306 => ?_)
        refine xx_iload dX9_run_309 rfl ?_
        refine xx_goto (tgt := 321) dX9_run_311 (by decide) ?_
        refine xx_iadd dX9_run_321 ?_
        refine xx_eqi (y := nI (300 + (6 * p) + c)) (nI_add (300 + (6 * p)) c) ?_
        refine xx_callV (N := mX9_copy) (vs := [.int (nI (yy_tb p + 13 * i + (m + n))), .int (nI (300 + (6 * p) + c))]) (b := b) (rest := []) (d2 := 0) (c2 := 0) (s2 := 0) (c3 := 0) (s3 := 0) dX9_run_322 wm_X9_98 wi_X9_copy wv_X9_copy (k := 9) rfl (by decide) hb2 nX9_copy ⟨pX9_copy, Nat.le_of_ble_eq_true rfl, by decide, Nat.le_of_ble_eq_true rfl, by decide, by decide⟩ (w_X9_copy hb2 y2 (x := yy_tb p + 13 * i + (m + n)) (a := 300 + 6 * p + c) (by omega) (by omega) (by omega)) (fun v9 Eq1 hC => ?_) (fun E9 B9 hC => absurd hC.1 (by simp))
        obtain ⟨hv9, zq1, ⟨Nq1, hNq1, vq1, fq1⟩, oq1⟩ := hC
        cases hv9
        refine xx_cst (st2 := []) rfl ?_
        have hbq1 := (oq1 b (by omega) (by omega) (by omega) (by omega) (by omega)).trans hb2
        refine xx_aload_n dX9_run_325 rfl ?_
        refine xx_sipush (v := 312) dX9_run_326 (by decide) ?_
        refine xx_iload dX9_run_329 rfl ?_
        refine xx_iadd dX9_run_331 ?_
        refine xx_eqi (y := nI (312 + p)) (nI_add 312 p) ?_
        refine xx_aload_n dX9_run_332 rfl ?_
        refine xx_iload dX9_run_333 rfl ?_
        refine xx_iload dX9_run_335 rfl ?_
        refine xx_aload_n dX9_run_337 rfl ?_
        refine xx_get xx_c9 dX9_run_338 wf_X9_120 (j := 4) (by decide) hbq1 rfl ?_
        refine xx_aload_n dX9_run_341 rfl ?_
        refine xx_get xx_c9 dX9_run_342 wf_X9_123 (j := 5) (by decide) hbq1 rfl ?_
        refine xx_iadd dX9_run_345 ?_
        refine xx_eqi (y := nI (m + n)) (nI_add m n) ?_
        refine xx_callV (N := mX9_cell) (vs := [.int (nI p), .int (nI i), .int (nI (m + n))]) (b := b) (rest := [.int (nI (312 + p)), .ref b]) (d2 := 0) (c2 := 0) (s2 := 0) (c3 := 0) (s3 := 0) dX9_run_346 wm_X9_151 wi_X9_cell wv_X9_cell (k := 9) rfl (by decide) hbq1 nX9_cell ⟨pX9_cell, Nat.le_of_ble_eq_true rfl, by decide, Nat.le_of_ble_eq_true rfl, by decide, by decide⟩ (c_X9_cell (tt := p) (r := i) (c := m + n) hbq1 (by omega) (by omega) (by omega)) (fun v9 B9 hC => ?_) (fun E9 B9 hC => absurd hC.1 (by simp))
        obtain ⟨hv9, e9⟩ := hC
        cases hv9
        refine xx_cst (st2 := [.int (nI (yy_tb p + 13 * i + (m + n))), .int (nI (312 + p)), .ref b]) rfl ?_
        rw [e9]
        refine xx_iconst (v := 0) dX9_run_349 (by decide) ?_
        refine xx_sipush (v := 312) dX9_run_350 (by decide) ?_
        refine xx_iload dX9_run_353 rfl ?_
        refine xx_iadd dX9_run_355 ?_
        refine xx_eqi (y := nI (312 + p)) (nI_add 312 p) ?_
        have e1 : Nq1 (yy_tb p + 13 * i + (m + n)) = T i (m + n) := (fq1 _ (by omega)).trans eT
        have e2 : Nq1 (312 + p) = yw_t m p bs T (m + n) i := (fq1 _ (by omega)).trans y4
        refine xx_cst (st2 := [.int (nI (312 + p)), .int (if false then 1 else 0), .int (nI (yy_tb p + 13 * i + (m + n))), .int (nI (312 + p)), .ref b]) rfl ?_
        refine xx_callV (N := mX9_add) (vs := [.int (nI (312 + p)), .int (nI (yy_tb p + 13 * i + (m + n))), .int (if false then 1 else 0), .int (nI (312 + p))]) (b := b) (rest := []) (d2 := 2) (c2 := 0) (s2 := 0) (c3 := 0) (s3 := 0) dX9_run_356 wm_X9_108 wi_X9_add wv_X9_add (k := 9) rfl (by decide) hbq1 nX9_add ⟨pX9_add, Nat.le_of_ble_eq_true rfl, by decide, Nat.le_of_ble_eq_true rfl, by decide, by decide⟩ (w_X9_add hbq1 hNq1 (x := 312 + p) (y := yy_tb p + 13 * i + (m + n)) (c := 312 + p) (mn := false) (by omega) (by omega) (by omega) (by rw [e2]; exact yy_q39 bt) (by rw [e1]; exact bT6)) (fun v9 Eq2 hC => ?_) (fun E9 B9 hC => absurd hC.1 (by simp))
        obtain ⟨hv9, zq2, ⟨Nq2, hNq2, vq2, fq2⟩, oq2⟩ := hC
        cases hv9
        refine xx_cst (st2 := []) rfl ?_
        have hbq2 := (oq2 b (by omega) (by omega) (by omega) (by omega) (by omega)).trans hbq1
        refine xx_iinc (v := nI (i + 1)) dX9_run_359 rfl (nI_add i 1) (by decide) ?_
        refine xx_clv (lv2 := [(0, .ref b), (5, .int (nI p)), (6, .int (nI (i + 1))), (7, .int (nI c)), (8, .int 1)]) rfl ?_
        refine xx_goto (tgt := 208) dX9_run_362 (by decide) ?_
        refine xx_less [0, 5, 6] ?_
        refine xx_clv (lv2 := [(0, .ref b), (5, .int (nI p)), (6, .int (nI (i + 1)))]) rfl ?_
        have ow : yw_o m p (bs i) = true := by rw [← hc9]; unfold yw_o; rw [if_pos pz]; exact decide_eq_true (by omega)
        have flp := fl0 pz
        have key : bs i = yq_fl m (1 - p) + c := by rw [← hc9, flp]; omega
        refine ih (i + 1) (by omega) Eq2 Nq2 (by omega) hNq2 (fun j hj => ?_) ?_ (fun q a1 a2 => (fq2 q (by omega)).trans ((fq1 q (by omega)).trans (y5 q a1 a2))) (fun q a1 a2 a3 a4 a5 => (oq2 q a1 a2 a3 a4 a5).trans ((oq1 q a1 a2 a3 a4 a5).trans (y6 q a1 a2 a3 a4 a5)))
        · by_cases z : j = c
          · rw [fq2 _ (by omega), z, vq1, eT, yw_x_s ow key dist]
          · rw [fq2 _ (by omega), fq1 _ (by omega), yw_x_n (fun h => z (by omega))]; exact y3 j hj
        · rw [vq2, e2, e1, yw_t_s ow]; rfl
    · refine xx_iload dX9_run_234 rfl ?_
      refine xx_if_ne (tgt := 256) dX9_run_236 (by decide) (fun j236 => ?_) (fun h => absurd ((nI_eq (by omega) (by decide)).mp h) pz)
      refine xx_iload dX9_run_256 rfl ?_
      refine xx_aload_n dX9_run_258 rfl ?_
      refine xx_get xx_c9 dX9_run_259 wf_X9_120 (j := 4) (by decide) hb2 rfl ?_
      refine xx_icmp_lt (tgt := 269) dX9_run_262 (by decide) (fun j262 => ?_) (fun j262 => ?_)
      · have j262 : c < m := (nI_ltI (a := c) (b := m) (by omega) (by omega)).mp j262
        refine xx_iconst (v := 0) dX9_run_269 (by decide) ?_
        refine xx_istore dX9_run_270 (by decide) ?_
        refine xx_clv (lv2 := [(0, .ref b), (5, .int (nI p)), (6, .int (nI i)), (7, .int (nI c)), (8, .int 0)]) rfl ?_
        refine xx_iload dX9_run_272 rfl ?_
        refine xx_if_eq (tgt := 359) dX9_run_274 (by decide) (fun j274 => ?_) (fun h => absurd (by decide) h)
        refine xx_iinc (v := nI (i + 1)) dX9_run_359 rfl (nI_add i 1) (by decide) ?_
        refine xx_clv (lv2 := [(0, .ref b), (5, .int (nI p)), (6, .int (nI (i + 1))), (7, .int (nI c)), (8, .int 0)]) rfl ?_
        refine xx_goto (tgt := 208) dX9_run_362 (by decide) ?_
        refine xx_less [0, 5, 6] ?_
        refine xx_clv (lv2 := [(0, .ref b), (5, .int (nI p)), (6, .int (nI (i + 1)))]) rfl ?_
        have ow : ¬ yw_o m p (bs i) = true := by rw [← hc9]; unfold yw_o; rw [if_neg pz]; exact fun h => by have := of_decide_eq_true h; omega
        have flp := fl1 pz
        refine ih (i + 1) (by omega) B N2 y1 y2 (fun j hj => ?_) ?_ y5 y6
        · rw [y3 j hj, yw_x_n (fun h => ow h.1)]
        · rw [y4, yw_t_n ow]
      · have j262 : ¬ c < m := fun hq9 => j262 ((nI_ltI (a := c) (b := m) (by omega) (by omega)).mpr hq9)
        refine xx_iconst (v := 1) dX9_run_265 (by decide) ?_
        refine xx_goto (tgt := 270) dX9_run_266 (by decide) ?_
        refine xx_istore dX9_run_270 (by decide) ?_
        refine xx_clv (lv2 := [(0, .ref b), (5, .int (nI p)), (6, .int (nI i)), (7, .int (nI c)), (8, .int 1)]) rfl ?_
        refine xx_iload dX9_run_272 rfl ?_
        refine xx_if_eq (tgt := 359) dX9_run_274 (by decide) (fun h => absurd h (by decide)) (fun j274 => ?_)
        refine xx_aload_n dX9_run_277 rfl ?_
        refine xx_aload_n dX9_run_278 rfl ?_
        refine xx_iload dX9_run_279 rfl ?_
        refine xx_iload dX9_run_281 rfl ?_
        refine xx_aload_n dX9_run_283 rfl ?_
        refine xx_get xx_c9 dX9_run_284 wf_X9_120 (j := 4) (by decide) hb2 rfl ?_
        refine xx_aload_n dX9_run_287 rfl ?_
        refine xx_get xx_c9 dX9_run_288 wf_X9_123 (j := 5) (by decide) hb2 rfl ?_
        refine xx_iadd dX9_run_291 ?_
        refine xx_eqi (y := nI (m + n)) (nI_add m n) ?_
        refine xx_callV (N := mX9_cell) (vs := [.int (nI p), .int (nI i), .int (nI (m + n))]) (b := b) (rest := [.ref b]) (d2 := 0) (c2 := 0) (s2 := 0) (c3 := 0) (s3 := 0) dX9_run_292 wm_X9_151 wi_X9_cell wv_X9_cell (k := 9) rfl (by decide) hb2 nX9_cell ⟨pX9_cell, Nat.le_of_ble_eq_true rfl, by decide, Nat.le_of_ble_eq_true rfl, by decide, by decide⟩ (c_X9_cell (tt := p) (r := i) (c := m + n) hb2 (by omega) (by omega) (by omega)) (fun v9 B9 hC => ?_) (fun E9 B9 hC => absurd hC.1 (by simp))
        obtain ⟨hv9, e9⟩ := hC
        cases hv9
        refine xx_cst (st2 := [.int (nI (yy_tb p + 13 * i + (m + n))), .ref b]) rfl ?_
        rw [e9]
        refine xx_sipush (v := 300) dX9_run_295 (by decide) ?_
        refine xx_bipush (v := 6) dX9_run_298 (by decide) ?_
        refine xx_iload dX9_run_300 rfl ?_
        refine xx_imul dX9_run_302 ?_
        refine xx_eqi (y := nI (6 * p)) (pk_mul 6 p) ?_
        refine xx_iadd dX9_run_303 ?_
        refine xx_eqi (y := nI (300 + (6 * p))) (nI_add 300 (6 * p)) ?_
        refine xx_iload dX9_run_304 rfl ?_
        refine xx_if_ne (tgt := 314) dX9_run_306 (by decide) (fun j306 => ?_) (fun h => absurd ((nI_eq (by omega) (by decide)).mp h) pz)
        refine xx_iload dX9_run_314 rfl ?_
        refine xx_aload_n dX9_run_316 rfl ?_
        refine xx_get xx_c9 dX9_run_317 wf_X9_120 (j := 4) (by decide) hb2 rfl ?_
        refine xx_isub dX9_run_320 ?_
        refine xx_eqi (y := nI (c - m)) (pk_sub (a := c) (b := m) (by omega)) ?_
        refine xx_iadd dX9_run_321 ?_
        refine xx_eqi (y := nI (300 + (6 * p) + (c - m))) (nI_add (300 + (6 * p)) (c - m)) ?_
        refine xx_callV (N := mX9_copy) (vs := [.int (nI (yy_tb p + 13 * i + (m + n))), .int (nI (300 + (6 * p) + (c - m)))]) (b := b) (rest := []) (d2 := 0) (c2 := 0) (s2 := 0) (c3 := 0) (s3 := 0) dX9_run_322 wm_X9_98 wi_X9_copy wv_X9_copy (k := 9) rfl (by decide) hb2 nX9_copy ⟨pX9_copy, Nat.le_of_ble_eq_true rfl, by decide, Nat.le_of_ble_eq_true rfl, by decide, by decide⟩ (w_X9_copy hb2 y2 (x := yy_tb p + 13 * i + (m + n)) (a := 300 + 6 * p + (c - m)) (by omega) (by omega) (by omega)) (fun v9 Eq1 hC => ?_) (fun E9 B9 hC => absurd hC.1 (by simp))
        obtain ⟨hv9, zq1, ⟨Nq1, hNq1, vq1, fq1⟩, oq1⟩ := hC
        cases hv9
        refine xx_cst (st2 := []) rfl ?_
        have hbq1 := (oq1 b (by omega) (by omega) (by omega) (by omega) (by omega)).trans hb2
        refine xx_aload_n dX9_run_325 rfl ?_
        refine xx_sipush (v := 312) dX9_run_326 (by decide) ?_
        refine xx_iload dX9_run_329 rfl ?_
        refine xx_iadd dX9_run_331 ?_
        refine xx_eqi (y := nI (312 + p)) (nI_add 312 p) ?_
        refine xx_aload_n dX9_run_332 rfl ?_
        refine xx_iload dX9_run_333 rfl ?_
        refine xx_iload dX9_run_335 rfl ?_
        refine xx_aload_n dX9_run_337 rfl ?_
        refine xx_get xx_c9 dX9_run_338 wf_X9_120 (j := 4) (by decide) hbq1 rfl ?_
        refine xx_aload_n dX9_run_341 rfl ?_
        refine xx_get xx_c9 dX9_run_342 wf_X9_123 (j := 5) (by decide) hbq1 rfl ?_
        refine xx_iadd dX9_run_345 ?_
        refine xx_eqi (y := nI (m + n)) (nI_add m n) ?_
        refine xx_callV (N := mX9_cell) (vs := [.int (nI p), .int (nI i), .int (nI (m + n))]) (b := b) (rest := [.int (nI (312 + p)), .ref b]) (d2 := 0) (c2 := 0) (s2 := 0) (c3 := 0) (s3 := 0) dX9_run_346 wm_X9_151 wi_X9_cell wv_X9_cell (k := 9) rfl (by decide) hbq1 nX9_cell ⟨pX9_cell, Nat.le_of_ble_eq_true rfl, by decide, Nat.le_of_ble_eq_true rfl, by decide, by decide⟩ (c_X9_cell (tt := p) (r := i) (c := m + n) hbq1 (by omega) (by omega) (by omega)) (fun v9 B9 hC => ?_) (fun E9 B9 hC => absurd hC.1 (by simp))
        obtain ⟨hv9, e9⟩ := hC
        cases hv9
        refine xx_cst (st2 := [.int (nI (yy_tb p + 13 * i + (m + n))), .int (nI (312 + p)), .ref b]) rfl ?_
        rw [e9]
        refine xx_iconst (v := 0) dX9_run_349 (by decide) ?_
        refine xx_sipush (v := 312) dX9_run_350 (by decide) ?_
        refine xx_iload dX9_run_353 rfl ?_
        refine xx_iadd dX9_run_355 ?_
        refine xx_eqi (y := nI (312 + p)) (nI_add 312 p) ?_
        have e1 : Nq1 (yy_tb p + 13 * i + (m + n)) = T i (m + n) := (fq1 _ (by omega)).trans eT
        have e2 : Nq1 (312 + p) = yw_t m p bs T (m + n) i := (fq1 _ (by omega)).trans y4
        refine xx_cst (st2 := [.int (nI (312 + p)), .int (if false then 1 else 0), .int (nI (yy_tb p + 13 * i + (m + n))), .int (nI (312 + p)), .ref b]) rfl ?_
        refine xx_callV (N := mX9_add) (vs := [.int (nI (312 + p)), .int (nI (yy_tb p + 13 * i + (m + n))), .int (if false then 1 else 0), .int (nI (312 + p))]) (b := b) (rest := []) (d2 := 2) (c2 := 0) (s2 := 0) (c3 := 0) (s3 := 0) dX9_run_356 wm_X9_108 wi_X9_add wv_X9_add (k := 9) rfl (by decide) hbq1 nX9_add ⟨pX9_add, Nat.le_of_ble_eq_true rfl, by decide, Nat.le_of_ble_eq_true rfl, by decide, by decide⟩ (w_X9_add hbq1 hNq1 (x := 312 + p) (y := yy_tb p + 13 * i + (m + n)) (c := 312 + p) (mn := false) (by omega) (by omega) (by omega) (by rw [e2]; exact yy_q39 bt) (by rw [e1]; exact bT6)) (fun v9 Eq2 hC => ?_) (fun E9 B9 hC => absurd hC.1 (by simp))
        obtain ⟨hv9, zq2, ⟨Nq2, hNq2, vq2, fq2⟩, oq2⟩ := hC
        cases hv9
        refine xx_cst (st2 := []) rfl ?_
        have hbq2 := (oq2 b (by omega) (by omega) (by omega) (by omega) (by omega)).trans hbq1
        refine xx_iinc (v := nI (i + 1)) dX9_run_359 rfl (nI_add i 1) (by decide) ?_
        refine xx_clv (lv2 := [(0, .ref b), (5, .int (nI p)), (6, .int (nI (i + 1))), (7, .int (nI c)), (8, .int 1)]) rfl ?_
        refine xx_goto (tgt := 208) dX9_run_362 (by decide) ?_
        refine xx_less [0, 5, 6] ?_
        refine xx_clv (lv2 := [(0, .ref b), (5, .int (nI p)), (6, .int (nI (i + 1)))]) rfl ?_
        have ow : yw_o m p (bs i) = true := by rw [← hc9]; unfold yw_o; rw [if_neg pz]; exact decide_eq_true (by omega)
        have flp := fl1 pz
        have key : bs i = yq_fl m (1 - p) + (c - m) := by rw [← hc9, flp]; omega
        refine ih (i + 1) (by omega) Eq2 Nq2 (by omega) hNq2 (fun j hj => ?_) ?_ (fun q a1 a2 => (fq2 q (by omega)).trans ((fq1 q (by omega)).trans (y5 q a1 a2))) (fun q a1 a2 a3 a4 a5 => (oq2 q a1 a2 a3 a4 a5).trans ((oq1 q a1 a2 a3 a4 a5).trans (y6 q a1 a2 a3 a4 a5)))
        · by_cases z : j = (c - m)
          · rw [fq2 _ (by omega), z, vq1, eT, yw_x_s ow key dist]
          · rw [fq2 _ (by omega), fq1 _ (by omega), yw_x_n (fun h => z (by omega))]; exact y3 j hj
        · rw [vq2, e2, e1, yw_t_s ow]; rfl

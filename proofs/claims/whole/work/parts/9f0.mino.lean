/-! ===== static arrays ===== -/
section
variable {G : xx_G} {l : Launch} {M : xx_M} {d c1 s1 pc : Nat} {lv : List (Nat × Value)} {rest : List Value} {A : xx_H} {Q : Option Value ⊕ String → xx_H → Prop}
theorem xx_gst {index : Nat} {nm : String} {v : Value} (hdg : decode M.2.1 pc = .ok (.getstatic index, 3)) (hl : Cond.fieldLink M.1.cls index RX3 nm "[I" ∈ lw_tbl) (hz : ∀ s, xx_K G s → va_Z RX3 nm "[I" v (fun q => G.1.size ≤ q) s G.1) (kk : xx_X G l M d c1 s1 (pc + 3) lv (v :: rest) A Q) : xx_X G l M d c1 s1 pc lv rest A Q := by
  intro p e R s m args below meth c H locs cells slots ls ho
  obtain ⟨cf, kf, fi, f, a, cell, h1, h2, h3, h4, h5, h6, h7, h8⟩ := va_Z.kept (H1 := H) (hz s ho.2.1.2.1) (fun a ha _ => ho.2.2.2.1.2.2.1 a ha)
  exact W.gets ho.1.1 ho.1.2.1 ho.1.2.2.2.2.2.2.1 (ho.2.1.1 _ hl rfl) h1 h2 h3 h4 h5 (fun e => by rw [e] at h6; cases h6) h7 rfl hdg (kk p e R s m args below meth c H locs cells slots ls ho)
theorem xx_tald {t N : Nat} {f : Nat → Value} {i x : Int32} (hdg : decode M.2.1 pc = .ok (.iaload, 1)) (hT : ∀ s, xx_K G s → va_T .int t N f (fun q => G.1.size ≤ q) s G.1) (hin : vp_in i N) (hv : f i.toNatClampNeg = .int x) (kk : xx_X G l M d c1 s1 (pc + 1) lv (.int x :: rest) A Q) : xx_X G l M d c1 s1 pc lv (.int i :: .ref t :: rest) A Q := by
  intro p e R s m args below meth c H locs cells slots ls ho
  obtain ⟨cell, h1, h2, h3, h4, h5, h6, h7⟩ := va_T.kept (H1 := H) (hT s ho.2.1.2.1) (fun a ha _ => ho.2.2.2.1.2.2.1 a ha)
  have hlt : i.toNatClampNeg < N := Nat.not_le.mp fun q => hin (Or.inr q)
  have hin' : ¬ (i < 0 ∨ cell.slots.size ≤ i.toNatClampNeg) := by
    intro q
    rcases q with q | q
    · exact hin (Or.inl q)
    · omega
  exact W.iald (v := .int x) ho.1.1 ho.1.2.1 h1 h2 h3 hin' (by rw [h6 _ hlt, hv]) rfl rfl hdg (kk p e R s m args below meth c H locs cells slots ls ho)
end
theorem xx_K.st {G : xx_G} {s : State} (h : xx_K G s) : xx_KS G s := h.2.2.2.2.2.2.2.2.2.2
/-! ===== numbers of six digits that wrap around ===== -/
theorem xx_i_inj {n k : Nat} {f g : Nat → Int32} (h : xx_i n f = xx_i k g) : n = k ∧ f = g := by
  unfold xx_i at h
  injection h with _ h
  injection h with h1 h2
  exact ⟨h1, funext (fun j => by have := congrFun h2 j; injection this)⟩
def xx_mh (f : Nat → Int32) (p : Nat) (v : Int) : Prop := ∃ D : Nat → Nat, (∀ i, i < 6 → D i < yB ∧ f (p + i) = nI (D i)) ∧ ((yy_val yB D 6 : Nat) : Int) = v % 2 ^ 186
theorem xx_mh.to {f g : Nat → Int32} {p : Nat} {v : Int} (h : xx_mh f p v) (e : ∀ i, i < 6 → g (p + i) = f (p + i)) : xx_mh g p v := by
  obtain ⟨D, h1, h2⟩ := h
  exact ⟨D, fun i hi => ⟨(h1 i hi).1, (e i hi).trans (h1 i hi).2⟩, h2⟩
theorem xx_mh0 {f : Nat → Int32} {p : Nat} (h : ∀ i, i < 6 → f (p + i) = 0) : xx_mh f p 0 := ⟨fun _ => 0, fun i hi => ⟨by show 0 < yB; decide, h i hi⟩, by rw [yy_val0 (fun _ => rfl)]; rfl⟩
theorem yB6 : yB ^ 6 = 2 ^ 186 := by decide +kernel
theorem ym_mod {a v w : Int} {x : Nat} (h1 : ((x : Nat) : Int) = v % 2 ^ 186) (h2 : a = (x : Int) + w * 2 ^ 186) : a % 2 ^ 186 = v % 2 ^ 186 := by
  rw [h2, Int.add_mul_emod_self_right, h1, Int.emod_emod_of_dvd _ (Int.dvd_refl _)]
set_option maxRecDepth 100000 in
theorem l_X3_at {G : xx_G} {l : Launch} {A : xx_H} {x y nx ny s9 t9 : Nat} {f g : Nat → Int32} {t : Int} {D E : Nat → Nat} {Q : Option Value ⊕ String → xx_H → Prop} (hx : A.2 x = xx_i nx f) (hy : A.2 y = xx_i ny g) (hs : s9 + 6 ≤ nx) (h9 : t9 + 6 ≤ ny) (hnx : nx < 2 ^ 31) (hny : ny < 2 ^ 31) (dj : y ≠ x ∨ t9 + 6 ≤ s9 ∨ s9 + 6 ≤ t9) (hD : ∀ i, i < 6 → D i < yB ∧ f (s9 + i) = nI (D i)) (hE : ∀ i, i < 6 → E i < yB ∧ g (t9 + i) = nI (E i)) (ht : t.natAbs < 2147483648) (kC : ∀ (B : xx_H) (f1 g1 : Nat → Int32) (D1 : Nat → Nat) (c : Int), (B.1 = A.1) → (B.2 x = xx_i nx f1) → (B.2 y = xx_i ny g1) → (∀ j, j < 6 → g1 (t9 + j) = nI (E j)) → (∀ j, j < 6 → D1 j < yB ∧ f1 (s9 + j) = nI (D1 j)) → (∀ q, (q < s9 + 6 ∧ s9 ≤ q) ∨ f1 q = f q) → (((yy_val yB D1 6 : Nat) : Int) + c * ((yB ^ 6 : Nat) : Int) = ((yy_val yB D 6 : Nat) : Int) + t * ((yy_val yB E 6 : Nat) : Int)) → (c.natAbs ≤ 4294967296) → (∀ q, q ≠ x → B.2 q = A.2 q) → xx_X G l mX3_addTimes 0 0 0 63 [(0, .ref x)] [] B Q) :
    ∀ (v i : Nat), i + v = 6 → ∀ (B : xx_H) (f1 g1 : Nat → Int32) (D1 : Nat → Nat) (c : Int), (B.1 = A.1) → (B.2 x = xx_i nx f1) → (B.2 y = xx_i ny g1) → (∀ j, j < 6 → g1 (t9 + j) = nI (E j)) → (∀ j, j < i → D1 j < yB ∧ f1 (s9 + j) = nI (D1 j)) → (∀ q, (q < s9 + i ∧ s9 ≤ q) ∨ f1 q = f q) → (((yy_val yB D1 i : Nat) : Int) + c * ((yB ^ i : Nat) : Int) = ((yy_val yB D i : Nat) : Int) + t * ((yy_val yB E i : Nat) : Int)) → (c.natAbs ≤ 4294967296) → (∀ q, q ≠ x → B.2 q = A.2 q) → xx_X G l mX3_addTimes 0 0 0 6 [(0, .ref x), (1, .int (nI s9)), (2, .ref y), (3, .int (nI t9)), (4, .int (iz t)), (5, .long (lz c)), (7, .int (nI i))] [] B Q := by
  intro v
  induction v with
  | zero =>
    intro i h9i B f1 g1 D1 c y1 y2 y3 y4 y5 y6 y7 y8 y9
    have h9e : 6 = i := by omega
    subst h9e
    refine xx_clv (lv2 := [(0, .ref x), (1, .int (nI s9)), (2, .ref y), (3, .int (nI t9)), (4, .int (iz t)), (5, .long (lz c)), (7, .int 6)]) rfl ?_
    refine xx_iload dX3_addTimes_6 rfl ?_
    refine xx_bipush (v := 6) dX3_addTimes_8 (by decide) ?_
    refine xx_icmp_ge (tgt := 63) dX3_addTimes_10 (by decide) (fun j10 => ?_) (fun h => absurd (by decide) h)
    refine xx_less [0] ?_
    refine xx_clv (lv2 := [(0, .ref x)]) rfl ?_
    exact kC B f1 g1 D1 c y1 y2 y3 y4 y5 y6 y7 y8 y9
  | succ v ih =>
    intro i h9i B f1 g1 D1 c y1 y2 y3 y4 y5 y6 y7 y8 y9
    obtain ⟨d1, d2⟩ := hD i (by omega)
    obtain ⟨e1, e2⟩ := hE i (by omega)
    have d1 : D i < 2147483648 := d1
    have e1 : E i < 2147483648 := e1
    have tb : (t * (E i : Nat)).natAbs ≤ 2147483648 * 2147483648 := by
      rw [Int.natAbs_mul, Int.natAbs_natCast]
      exact Nat.mul_le_mul (Nat.le_of_lt ht) (Nat.le_of_lt e1)
    refine xx_iload dX3_addTimes_6 rfl ?_
    refine xx_bipush (v := 6) dX3_addTimes_8 (by decide) ?_
    refine xx_icmp_ge (tgt := 63) dX3_addTimes_10 (by decide) (fun h => absurd h (nI_ge (a := i) (b := 6) (by omega) (by omega))) (fun j10 => ?_)
    refine xx_lload dX3_addTimes_13 rfl ?_
    refine xx_aload_n dX3_addTimes_15 rfl ?_
    refine xx_iload_n dX3_addTimes_16 rfl ?_
    refine xx_iload dX3_addTimes_17 rfl ?_
    refine xx_iadd dX3_addTimes_19 ?_
    refine xx_eqi (y := nI (s9 + i)) (nI_add s9 i) ?_
    refine xx_iald dX3_addTimes_20 y2 (vp_in_nI (by omega) (by omega)) ?_
    refine xx_eqi (y := nI (D i)) (by rw [nI_clamp (by omega), (y6 (s9 + i)).resolve_left (by omega)]; exact d2) ?_
    refine xx_i2l dX3_addTimes_21 ?_
    refine xx_eql (y := lN (D i)) (nI_l (by omega)) ?_
    refine xx_iload dX3_addTimes_22 rfl ?_
    refine xx_i2l dX3_addTimes_24 ?_
    refine xx_eql (y := lz t) (iz_l (by omega) (by omega)) ?_
    refine xx_aload_n dX3_addTimes_25 rfl ?_
    refine xx_iload_n dX3_addTimes_26 rfl ?_
    refine xx_iload dX3_addTimes_27 rfl ?_
    refine xx_iadd dX3_addTimes_29 ?_
    refine xx_eqi (y := nI (t9 + i)) (nI_add t9 i) ?_
    refine xx_iald dX3_addTimes_30 y3 (vp_in_nI (by omega) (by omega)) ?_
    refine xx_eqi (y := nI (E i)) (by rw [nI_clamp (by omega)]; exact y4 i (by omega)) ?_
    refine xx_i2l dX3_addTimes_31 ?_
    refine xx_eql (y := lN (E i)) (nI_l (by omega)) ?_
    refine xx_lmul dX3_addTimes_32 ?_
    refine xx_eql (y := lz (t * (E i : Nat))) (by rw [lN_lz, lz_mul]) ?_
    refine xx_ladd dX3_addTimes_33 ?_
    refine xx_eql (y := lz ((D i : Nat) + t * (E i : Nat))) (by rw [lN_lz, lz_add]) ?_
    refine xx_ladd dX3_addTimes_34 ?_
    refine xx_eql (y := lz (c + ((D i : Nat) + t * (E i : Nat)))) (lz_add _ _) ?_
    refine xx_lstore dX3_addTimes_35 (by decide) ?_
    refine xx_clv (lv2 := [(0, .ref x), (1, .int (nI s9)), (2, .ref y), (3, .int (nI t9)), (4, .int (iz t)), (5, .long (lz (c + ((D i : Nat) + t * (E i : Nat))))), (7, .int (nI i))]) rfl ?_
    refine xx_aload_n dX3_addTimes_37 rfl ?_
    refine xx_iload_n dX3_addTimes_38 rfl ?_
    refine xx_iload dX3_addTimes_39 rfl ?_
    refine xx_iadd dX3_addTimes_41 ?_
    refine xx_eqi (y := nI (s9 + i)) (nI_add s9 i) ?_
    refine xx_lload dX3_addTimes_42 rfl ?_
    refine xx_ldc2 (v := 2147483647) dX3_addTimes_44 wk_X3_102 ?_
    refine xx_land dX3_addTimes_47 ?_
    refine xx_l2i dX3_addTimes_48 ?_
    refine xx_eqi (y := nI ((c + ((D i : Nat) + t * (E i : Nat))) % 2147483648).toNat) (lz_lo31 _) ?_
    refine xx_iast dX3_addTimes_49 y2 (vp_in_nI (by omega) (by omega)) (xx_gu fun Eq1 z1 h1 o1 => ?_)
    rw [nI_clamp (by omega)] at h1
    refine xx_lload dX3_addTimes_50 rfl ?_
    refine xx_bipush (v := 31) dX3_addTimes_52 (by decide) ?_
    refine xx_lshr dX3_addTimes_54 ?_
    refine xx_eql (y := lz ((c + ((D i : Nat) + t * (E i : Nat))) / 2147483648)) (lz_hi31 (by omega) (by omega)) ?_
    refine xx_lstore dX3_addTimes_55 (by decide) ?_
    refine xx_clv (lv2 := [(0, .ref x), (1, .int (nI s9)), (2, .ref y), (3, .int (nI t9)), (4, .int (iz t)), (5, .long (lz ((c + ((D i : Nat) + t * (E i : Nat))) / 2147483648))), (7, .int (nI i))]) rfl ?_
    have gk : ∃ g2, Eq1.2 y = xx_i ny g2 ∧ ∀ j, j < 6 → g2 (t9 + j) = nI (E j) := by
      by_cases e : y = x
      · subst e
        obtain ⟨q1, q2⟩ := xx_i_inj (y2.symm.trans y3)
        have dj2 := dj.resolve_left (fun z => z rfl)
        refine ⟨_, by rw [h1, q1], fun j hj => ?_⟩
        rw [pk_un (by omega), q2]
        exact y4 j hj
      · exact ⟨g1, (o1 y e).trans y3, y4⟩
    obtain ⟨g2, k1, k2⟩ := gk
    obtain ⟨u9, hu9⟩ : ∃ u : Int, u = (c + ((D i : Nat) + t * (E i : Nat))) := ⟨_, rfl⟩
    rw [← hu9] at h1 ⊢
    obtain ⟨r9, hr9⟩ : ∃ r : Nat, r = (u9 % 2147483648).toNat := ⟨_, rfl⟩
    rw [← hr9] at h1
    have e1 : u9 = u9 / 2147483648 * 2147483648 + (r9 : Int) := by omega
    have r1 : r9 < yB := by show r9 < 2147483648; omega
    refine xx_iinc (v := nI (i + 1)) dX3_addTimes_57 rfl (nI_1 i) (by decide) ?_
    refine xx_clv (lv2 := [(0, .ref x), (1, .int (nI s9)), (2, .ref y), (3, .int (nI t9)), (4, .int (iz t)), (5, .long (lz (u9 / 2147483648))), (7, .int (nI (i + 1)))]) rfl ?_
    refine xx_goto (tgt := 6) dX3_addTimes_60 (by decide) ?_
    refine xx_less [0, 1, 2, 3, 4, 5, 7] ?_
    refine xx_clv (lv2 := [(0, .ref x), (1, .int (nI s9)), (2, .ref y), (3, .int (nI t9)), (4, .int (iz t)), (5, .long (lz (u9 / 2147483648))), (7, .int (nI (i + 1)))]) rfl ?_
    refine ih (i + 1) (by omega) Eq1 _ g2 (fun j => if j = i then r9 else D1 j) (u9 / 2147483648) (by omega) h1 k1 k2 (fun j hj => ?_) (fun q => ?_) ?_ (by omega) (fun q hq => (o1 q hq).trans (y9 q hq))
    · by_cases z : j = i
      · rw [if_pos z, z, pk_us]; exact ⟨r1, rfl⟩
      · rw [if_neg z, pk_un (by omega)]; exact y5 j (by omega)
    · by_cases z : q = s9 + i
      · exact Or.inl (by omega)
      · rw [pk_un z]
        rcases y6 q with w | w
        · exact Or.inl (by omega)
        · exact Or.inr w
    · rw [yy_upd_eq]
      show (((yy_val yB D1 i + r9 * yB ^ i : Nat)) : Int) + _ * ((yB ^ i * yB : Nat) : Int) = (((yy_val yB D i + D i * yB ^ i : Nat)) : Int) + t * (((yy_val yB E i + E i * yB ^ i : Nat)) : Int)
      simp only [Int.natCast_add, Int.natCast_mul]
      rw [show ((yB : Nat) : Int) = 2147483648 from rfl]
      generalize ((yB ^ i : Nat) : Int) = P9 at y7 ⊢
      generalize ((yy_val yB D1 i : Nat) : Int) = V1 at y7 ⊢
      generalize ((yy_val yB D i : Nat) : Int) = V2 at y7 ⊢
      generalize ((yy_val yB E i : Nat) : Int) = V3 at y7 ⊢
      have e3 : u9 / 2147483648 * (P9 * 2147483648) + (r9 : Int) * P9 = u9 * P9 := by
        conv => rhs; rw [e1]
        rw [Int.add_mul, Int.mul_assoc, Int.mul_comm 2147483648 P9]
      rw [hu9] at e3
      rw [Int.add_mul, Int.add_mul] at e3
      rw [Int.mul_add, ← Int.mul_assoc t]
      rw [← hu9] at e3
      omega
set_option maxRecDepth 100000 in
theorem c_X3_addTimes {G : xx_G} {l : Launch} {A : xx_H} {x y nx ny s9 t9 : Nat} {f g : Nat → Int32} {t u v : Int} (hx : A.2 x = xx_i nx f) (hy : A.2 y = xx_i ny g) (hs : s9 + 6 ≤ nx) (h9 : t9 + 6 ≤ ny) (hnx : nx < 2 ^ 31) (hny : ny < 2 ^ 31) (dj : y ≠ x ∨ t9 + 6 ≤ s9 ∨ s9 + 6 ≤ t9) (hf : xx_mh f s9 u) (hg : xx_mh g t9 v) (ht : t.natAbs < 2147483648) : xx_X G l mX3_addTimes 0 0 0 0 (lv_args 0 [.ref x, .int (nI s9), .ref y, .int (nI t9), .int (iz t)]) [] A (fun z B => z = .inl none ∧ B.1 = A.1 ∧ (∃ f2, B.2 x = xx_i nx f2 ∧ xx_mh f2 s9 (u + t * v) ∧ ∀ q, (q < s9 ∨ s9 + 6 ≤ q) → f2 q = f q) ∧ ∀ q, q ≠ x → B.2 q = A.2 q) := by
  obtain ⟨D, hD, eD⟩ := hf
  obtain ⟨E, hE, eE⟩ := hg
  refine xx_clv (lv2 := [(0, .ref x), (1, .int (nI s9)), (2, .ref y), (3, .int (nI t9)), (4, .int (iz t))]) rfl ?_
  refine xx_lconst (v := 0) dX3_addTimes_0 (by decide) ?_
  refine xx_lstore dX3_addTimes_1 (by decide) ?_
  refine xx_clv (lv2 := [(0, .ref x), (1, .int (nI s9)), (2, .ref y), (3, .int (nI t9)), (4, .int (iz t)), (5, .long 0)]) rfl ?_
  refine xx_iconst (v := 0) dX3_addTimes_3 (by decide) ?_
  refine xx_istore dX3_addTimes_4 (by decide) ?_
  refine xx_clv (lv2 := [(0, .ref x), (1, .int (nI s9)), (2, .ref y), (3, .int (nI t9)), (4, .int (iz t)), (5, .long 0), (7, .int 0)]) rfl ?_
  refine xx_clv (lv2 := [(0, .ref x), (1, .int (nI s9)), (2, .ref y), (3, .int (nI t9)), (4, .int (iz t)), (5, .long (lz 0)), (7, .int (nI 0))]) rfl ?_
  refine l_X3_at hx hy hs h9 hnx hny dj hD hE ht (fun B f1 g1 D1 c y1 y2 y3 y4 y5 y6 y7 y8 y9 => ?_) 6 0 (by omega) A f g D 0 rfl hx hy (fun j hj => (hE j hj).2) (fun j hj => absurd hj (Nat.not_lt_zero j)) (fun q => Or.inr rfl) (by rw [Int.zero_mul]; show (((0 : Nat)) : Int) + 0 = ((0 : Nat) : Int) + t * ((0 : Nat) : Int); rw [Int.natCast_zero, Int.mul_zero]) (by decide) (fun q _ => rfl)
  refine xx_vret dX3_addTimes_63 rfl ⟨rfl, y1, ⟨f1, y2, ⟨D1, y5, ?_⟩, fun q hq => (y6 q).resolve_left (by omega)⟩, y9⟩
  have lt := yy_val_lt (β := yB) (D := D1) (n := 6) (fun i hi => (y5 i hi).1)
  rw [yB6] at lt y7
  have e1 : ((yy_val yB D1 6 : Nat) : Int) = ((yy_val yB D 6 : Nat) : Int) + t * ((yy_val yB E 6 : Nat) : Int) - c * ((2 ^ 186 : Nat) : Int) := by omega
  have e2 : ((yy_val yB D1 6 : Nat) : Int) % 2 ^ 186 = ((yy_val yB D1 6 : Nat) : Int) := Int.emod_eq_of_lt (by omega) (by exact_mod_cast lt)
  rw [← e2, e1, eD, eE, show ((2 ^ 186 : Nat) : Int) = 2 ^ 186 by rfl, Int.sub_eq_add_neg, ← Int.neg_mul, Int.add_mul_emod_self_right]
  rw [Int.add_emod, Int.emod_emod_of_dvd _ (Int.dvd_refl _), Int.mul_emod, Int.emod_emod_of_dvd _ (Int.dvd_refl _), ← Int.mul_emod, ← Int.add_emod]

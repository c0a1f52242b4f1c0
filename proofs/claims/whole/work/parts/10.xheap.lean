/-! ===== X: a walk over a pictured heap. A cell: its kind (0: nothing is said; 1 int[], 2 an int[] that is only read, 3 long[], 4 boolean[], 5 int[][], 10 + k an array of class k, 100 + k an object of class k), its length, its contents ===== -/
abbrev xx_C : Type := Nat × Nat × (Nat → Value)
/-- how many cells there are, and what each holds -/
abbrev xx_H : Type := Nat × (Nat → xx_C)
/-- the heap at the law's entry; the numbers of the classes and of their slots; the numbers of the array classes, by kind -/
abbrev xx_G : Type := Heap × va_G × (Nat → ClassId)
/-- the method that is walked: name, bytes, locals, answer, exception table -/
abbrev xx_M : Type := MethodName × ByteArray × Nat × Option FieldType × List (Nat × Nat × Nat × Nat)
def xx_up (A : xx_H) (a : Nat) (c : xx_C) : xx_H := (A.1, fun q => if q = a then c else A.2 q)
def xx_push (A : xx_H) (c : xx_C) : xx_H := (A.1 + 1, fun q => if q = A.1 then c else A.2 q)
def xx_o (k : Nat) (fs : List Value) : xx_C := (100 + k, fs.length, vp_V fs)
def xx_i (n : Nat) (f : Nat → Int32) : xx_C := (1, n, fun j => .int (f j))
def xx_s (n : Nat) (f : Nat → Int32) : xx_C := (2, n, fun j => .int (f j))
def xx_l (n : Nat) (f : Nat → Int64) : xx_C := (3, n, fun j => .long (f j))
def xx_z (n : Nat) (f : Nat → Int32) : xx_C := (4, n, fun j => .int (f j))
def xx_r (k n : Nat) (f : Nat → Option Nat) : xx_C := (k, n, fun j => va_rf (f j))
theorem xx_up_s (A : xx_H) (a : Nat) (c : xx_C) : (xx_up A a c).2 a = c := by simp [xx_up]
theorem xx_up_n {A : xx_H} {a b : Nat} {c : xx_C} (h : b ≠ a) : (xx_up A a c).2 b = A.2 b := by simp [xx_up, h]
theorem xx_push_s (A : xx_H) (c : xx_C) : (xx_push A c).2 A.1 = c := by simp [xx_push]
theorem xx_push_n {A : xx_H} {b : Nat} {c : xx_C} (h : b ≠ A.1) : (xx_push A c).2 b = A.2 b := by simp [xx_push, h]
def R_iae : String := "java/lang/IllegalArgumentException"
def R_ise : String := "java/lang/IllegalStateException"
def R_ioe : String := "java/lang/IndexOutOfBoundsException"
abbrev xx_cl : List vw_C := [(RX0, TX0, 3), (RX1, TX1, 6), (RX2, TX2, 2), (RX3, TX3, 5), (RX4, TX4, 7), (RX5, TX5, 10), (RX6, TX6, 2), (RX7, TX7, 2), (RX8, TX8, 18), (RX9, TX9, 29)]
/-- the kinds of arrays that are written -/
abbrev xx_ks : List Nat := [1, 3, 4, 5, 10, 13, 14, 15, 16, 17]
def xx_ty : Nat → FieldType := fun k => match k with
  | 3 => .long
  | 4 => .boolean
  | 5 => .array .int
  | 10 => .object RX0
  | 13 => .object RX3
  | 14 => .object RX4
  | 15 => .object RX5
  | 16 => .object RX6
  | 17 => .object RX7
  | _ => .int
def xx_at (G : xx_G) (a : Nat) (c : xx_C) (H : Heap) : Prop :=
  c.1 = 0 ∨
  (c.1 = 2 ∧ ∃ cell : Cell, H[a]? = some cell ∧ cell.cls = G.2.2 2 ∧ cell.vm ≠ .unknown ∧ (∀ q, cell.vm ≠ .statics q) ∧ cell.slots.size = c.2.1 ∧ ∀ j, j < c.2.1 → cell.slots[j]? = some (c.2.2 j)) ∨
  (c.1 ∈ xx_ks ∧ G.1.size ≤ a ∧ H[a]? = some (arrV (G.2.2 c.1) c.2.1 c.2.2)) ∨
  (100 ≤ c.1 ∧ G.1.size ≤ a ∧ ∃ r : vw_C, xx_cl[c.1 - 100]? = some r ∧ t_OB a (G.2.1.1 (c.1 - 100)) r.2.2 (G.2.1.2 (c.1 - 100)) H c.2.2)
theorem xx_at.kept {G : xx_G} {a : Nat} {c : xx_C} {H H1 : Heap} (h : xx_at G a c H) (e : H1[a]? = H[a]?) : xx_at G a c H1 := by
  rcases h with h | ⟨h, cell, h1, h2⟩ | ⟨h, h1, h2⟩ | ⟨h, h1, r, h2, h3⟩
  · exact Or.inl h
  · exact Or.inr (Or.inl ⟨h, cell, by rw [e]; exact h1, h2⟩)
  · exact Or.inr (Or.inr (Or.inl ⟨h, h1, by rw [e]; exact h2⟩))
  · exact Or.inr (Or.inr (Or.inr ⟨h, h1, r, h2, h3.kept e⟩))
theorem xx_at.lt {G : xx_G} {a : Nat} {c : xx_C} {H : Heap} (h : xx_at G a c H) (h0 : c.1 ≠ 0) : a < H.size := by
  rcases h with h | ⟨h, cell, h1, h2⟩ | ⟨h, h1, h2⟩ | ⟨h, h1, r, h2, cell, h3, h4⟩
  · exact absurd h h0
  · exact (Array.getElem?_eq_some_iff.mp h1).1
  · exact (Array.getElem?_eq_some_iff.mp h2).1
  · exact (Array.getElem?_eq_some_iff.mp h3).1
theorem xx_at.arr {G : xx_G} {a k n : Nat} {f : Nat → Value} {H : Heap} (h : xx_at G a (k, n, f) H) (hk : k ∈ xx_ks) : G.1.size ≤ a ∧ H[a]? = some (arrV (G.2.2 k) n f) := by
  have h2 : k ≠ 2 := by rintro rfl; exact absurd hk (by decide)
  have h0 : k ≠ 0 := by rintro rfl; exact absurd hk (by decide)
  have h9 : ¬ 100 ≤ k := fun q => by
    have hb : ∀ x ∈ xx_ks, x < 100 := by decide
    exact absurd (hb k hk) (Nat.not_lt.mpr q)
  rcases h with h | ⟨h, _⟩ | ⟨_, h1, h3⟩ | ⟨h, _⟩
  · exact absurd h h0
  · exact absurd h h2
  · exact ⟨h1, h3⟩
  · exact absurd h h9
theorem xx_at.obj {G : xx_G} {a k n : Nat} {f : Nat → Value} {H : Heap} (h : xx_at G a (100 + k, n, f) H) : G.1.size ≤ a ∧ ∃ r : vw_C, xx_cl[k]? = some r ∧ t_OB a (G.2.1.1 k) r.2.2 (G.2.1.2 k) H f := by
  rcases h with h | ⟨h, _⟩ | ⟨h, _⟩ | ⟨_, h1, h2⟩
  · exact absurd h (by show ¬ 100 + k = 0; omega)
  · exact absurd h (by show ¬ 100 + k = 2; omega)
  · have hb : ∀ x ∈ xx_ks, x < 100 := by decide
    have h9 : 100 + k < 100 := hb _ h
    omega
  · have e : 100 + k - 100 = k := by omega
    simp only [e] at h2
    exact ⟨h1, h2⟩
theorem xx_at.scr {G : xx_G} {a n : Nat} {f : Nat → Value} {H : Heap} (h : xx_at G a (2, n, f) H) : ∃ cell : Cell, H[a]? = some cell ∧ cell.cls = G.2.2 2 ∧ cell.vm ≠ .unknown ∧ (∀ q, cell.vm ≠ .statics q) ∧ cell.slots.size = n ∧ ∀ j, j < n → cell.slots[j]? = some (f j) := by
  rcases h with h | ⟨_, h⟩ | ⟨h, _⟩ | ⟨h, _⟩
  · exact absurd h (by show ¬ (2 : Nat) = 0; decide)
  · exact h
  · exact absurd h (by show ¬ (2 : Nat) ∈ xx_ks; decide)
  · exact absurd h (by show ¬ 100 ≤ (2 : Nat); decide)
/-- the heap is as it is pictured; what lay there at the law's entry is as it was -/
def xx_R (G : xx_G) (A : xx_H) (H : Heap) : Prop := H.size = A.1 ∧ G.1.size ≤ H.size ∧ (∀ q, q < G.1.size → H[q]? = G.1[q]?) ∧ ∀ a, xx_at G a (A.2 a) H
theorem xx_R.set {G : xx_G} {A : xx_H} {H H1 : Heap} {a : Nat} {c : xx_C} (h : xx_R G A H) (hb : G.1.size ≤ a) (z : H1.size = H.size) (o : ∀ q, q ≠ a → H1[q]? = H[q]?) (ha : xx_at G a c H1) : xx_R G (xx_up A a c) H1 := by
  refine ⟨z.trans h.1, by rw [z]; exact h.2.1, fun q hq => (o q (by omega)).trans (h.2.2.1 q hq), fun b => ?_⟩
  by_cases e : b = a
  · subst e
    rw [xx_up_s]; exact ha
  · rw [xx_up_n e]
    exact (h.2.2.2 b).kept (o b e)
theorem xx_R.new {G : xx_G} {A : xx_H} {H H1 : Heap} {c : xx_C} (h : xx_R G A H) (z : H1.size = A.1 + 1) (o : ∀ q, q < A.1 → H1[q]? = H[q]?) (ha : xx_at G A.1 c H1) : xx_R G (xx_push A c) H1 := by
  have hz := h.1
  have hb := h.2.1
  refine ⟨z, by omega, fun q hq => (o q (by omega)).trans (h.2.2.1 q hq), fun b => ?_⟩
  by_cases e : b = A.1
  · subst e
    rw [xx_push_s]; exact ha
  · rw [xx_push_n e]
    by_cases h0 : (A.2 b).1 = 0
    · exact Or.inl h0
    · exact (h.2.2.2 b).kept (o b (by have := (h.2.2.2 b).lt h0; omega))
theorem xx_R.base {G : xx_G} {A : xx_H} {H : Heap} (h : xx_R G A H) : G.1.size ≤ A.1 := by rw [← h.1]; exact h.2.1
theorem xx_R.free {G : xx_G} {A : xx_H} {H : Heap} (h : xx_R G A H) {a : Nat} (ha : (A.2 a).1 ≠ 0) : a < A.1 := by rw [← h.1]; exact (h.2.2.2 a).lt ha
/-- int[] has an array over it -/
def xx_AOA (U : State) : Prop := (Cond.arrayOver (.array .int)).before #[] U = true
theorem xx_AOA.moved {u U : State} (hvm : u.vm.Alike U.vm) (h : xx_AOA u) : xx_AOA U := by
  obtain ⟨comp, c, k, h1, h2, h3, h4, h5⟩ := arrayOverA_spec h
  obtain ⟨k2, hk2, he⟩ := hvm.2.2 _ _ h3
  have hi : (U.vm.classes.findIdx? fun (x : Class) => match x.kind with | .array component _ => component == comp | _ => false) = some c := by
    rw [hvm.findIdx?_eq _ (fun _ => rfl)]; exact h2
  have hkind : k2.kind = .array comp (.array .int) := by rw [he]; exact h4
  have f1 : U.vm.findClass (FieldType.array .int).toString = some comp := by rw [hvm.findClass]; exact h1
  have f2 : U.vm.findClass ("[" ++ (FieldType.array .int).toString) = some c := by rw [hvm.findClass]; exact h5
  unfold xx_AOA Cond.before Cond.holds
  simp only [Cond.value]
  rw [f1, Option.bind_some]
  refine (congrArg (fun o : Option Nat => (o.bind (fun c => (U.vm.classes[c]?).map fun (k : Class) => match k.kind with | .array _ ty => decide (ty = FieldType.array .int) && decide (U.vm.findClass ("[" ++ (FieldType.array .int).toString) = some c) | _ => false) == some true)) hi).trans ?_
  simp [hk2, hkind, f2]
/-- what a walk takes along beside the good words -/
theorem xx_cast_warm {a b : String} {s U : State} (hW : s.WarmedH U.vm) (h : va_Nw (.castable a b) s) : va_Nw (.castable a b) U := by
  unfold va_Nw Cond.before Cond.holds at h ⊢
  simp only [Cond.value] at h ⊢
  simp only [hW.alike.findClass, hW.alike.assignable]
  exact h
abbrev xx_nest : List Cond := [.methodLinkNest RX8 15 yX4_init RX8, .methodLinkNest RX8 22 yX6_init RX8, .methodLinkNest RX8 32 yX5_init RX8, .methodLinkNest RX5 28 yX8_bigs RX8, .methodLinkNest RX8 80 yX0_init RX8, .methodLinkNest RX5 38 yX0_init RX8, .methodLinkNest RX5 51 yX1_init RX8, .methodLinkNest RX1 18 yX0_init RX8, .methodLinkNest RX8 65 yX7_init RX8, .methodLinkNest RX7 9 yX8_bigs RX8, .methodLinkNest RX7 21 yX0_init RX8, .methodLinkNest RX2 9 yX0_init RX8, .methodLinkNest RX8 97 yX1_init RX8, .declares ⟨"java/lang/RuntimeException", "<init>", "(Ljava/lang/String;)V"⟩, .declares ⟨"java/lang/Exception", "<init>", "(Ljava/lang/String;)V"⟩, .declares ⟨"java/lang/Throwable", "<init>", "(Ljava/lang/String;)V"⟩, .castable R_iae R_iae, .castable R_ise R_ise, .castable R_ioe R_ioe]
abbrev xx_aos : List String := [RX4, RX6, RX5, RX0, RX7, RX3]
abbrev xx_strs : List (String × Nat × String) := [(RX8, 104, "rows and columns are 1 to 6"), (RX8, 258, "no game"), (RX8, 260, "no such player"), (RX8, 262, "no such row or column"), (RX8, 128, "no such payoff"), (RX8, 134, "no such label"), (RX8, 146, "no run"), (RX8, 151, "no such step"), (RX8, 154, "what is 0 to 2"), (RX8, 156, "no such weight"), (RX8, 268, "no such source"), (RX8, 236, "no such entry"), (RX8, 250, "no such part"), (RX8, 256, "what is 0 to 6")]
abbrev xx_ncs : List (String × String) := [(R_iae, R_ise), (R_iae, R_ioe), (R_ioe, R_ise)]
/-- what the static arrays of Minors hold -/
def yST : Nat → Value := fun k => .int (match k with | 0 => 0 | 1 => 1 | 2 => 37 | 3 => 262 | 4 => 662 | 5 => 887 | _ => 923)
def ySE : Nat → Value := fun k => .int (match k with | 0 => 1 | 1 => 6 | 2 => 15 | 3 => 20 | 4 => 15 | 5 => 6 | _ => 1)
def xx_KS (G : xx_G) (s : State) : Prop :=
  va_Z RX3 "STARTS" "[I" (.ref (G.2.1.2 10 0)) (fun q => G.1.size ≤ q) s G.1 ∧ va_T .int (G.2.1.2 10 0) 7 yST (fun q => G.1.size ≤ q) s G.1 ∧
  va_Z RX3 "SETS" "[I" (.ref (G.2.1.2 10 1)) (fun q => G.1.size ≤ q) s G.1 ∧ va_T .int (G.2.1.2 10 1) 7 ySE (fun q => G.1.size ≤ q) s G.1
theorem xx_KS.moved {G : xx_G} {s U : State} (ha : s.vm.Alike U.vm) (h : xx_KS G s) : xx_KS G U := ⟨va_Z.moved ha h.1, va_T.moved ha h.2.1, va_Z.moved ha h.2.2.1, va_T.moved ha h.2.2.2⟩
def xx_K (G : xx_G) (s : State) : Prop :=
  (∀ (c : Nat) (q : vw_C), xx_cl[c]? = some q → u_Kn s q.1 q.2.1 q.2.2 (G.2.1.1 c) (G.2.1.2 c)) ∧
  (∀ k ∈ xx_ks, ArrOfT s (G.2.2 k) (xx_ty k) ∧ va_RA s (G.2.2 k) (xx_ty k)) ∧ ArrOfT s (G.2.2 2) .int ∧
  (∀ w ∈ xx_nest, va_Nw w s) ∧ (∀ C ∈ xx_aos, va_AO C s) ∧ xx_AOA s ∧ (∀ q ∈ xx_strs, ∃ sa, vk_R q.1 q.2.1 q.2.2 sa s) ∧ (∀ q ∈ xx_ncs, va_Nc q.1 q.2 s) ∧
  vx_Zq Bundle.tN "UNASSIGNED_STACK" Bundle.steD (fun q => G.1.size ≤ q) s G.1 ∧ vx_Zq Bundle.tN "SUPPRESSED_SENTINEL" Bundle.listD (fun q => G.1.size ≤ q) s G.1 ∧ xx_KS G s
theorem xx_nest_warm {s U : State} (hW : s.WarmedH U.vm) : ∀ w ∈ xx_nest, va_Nw w s → va_Nw w U := by
  intro w hw h
  simp only [List.mem_cons, List.not_mem_nil, or_false] at hw
  rcases hw with rfl | rfl | rfl | rfl | rfl | rfl | rfl | rfl | rfl | rfl | rfl | rfl | rfl | rfl | rfl | rfl | rfl | rfl | rfl <;> first | exact va_Nw.warmM hW h | exact va_Nw.warmD hW h | exact xx_cast_warm hW h
theorem xx_nest_tab : ∀ w ∈ xx_nest, w.onTables = true := by decide +kernel
theorem xx_K.warm {G : xx_G} {s U : State} (hW : s.WarmedH U.vm) (h : xx_K G s) : xx_K G U := by
  obtain ⟨h1, h2, h3, h4, h5, h6, h7, h8, h9, h10, h11⟩ := h
  have ha := hW.alike
  exact ⟨fun c q hq => u_Kn_moved ha (h1 c q hq), fun k hk => ⟨arrOfT_moved ha (h2 k hk).1, (h2 k hk).2.moved ha⟩, arrOfT_moved ha h3, fun w hw => xx_nest_warm hW w hw (h4 w hw),
    fun C hC => va_AO.moved ha (h5 C hC), xx_AOA.moved ha h6, fun q hq => (h7 q hq).elim fun sa hs => ⟨sa, vk_R.warm hW hs⟩, fun q hq => va_Nc.moved ha (h8 q hq), vx_Zq.moved ha h9, vx_Zq.moved ha h10, h11.moved ha⟩

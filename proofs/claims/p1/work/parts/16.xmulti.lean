/-! ===== X: new int[n][k] ===== -/
theorem xx_arrV_congr {cA : ClassId} {N : Nat} {f g : Nat → Value} (h : ∀ j, j < N → f j = g j) : arrV cA N f = arrV cA N g := by
  have e : (Array.ofFn (n := N) fun j => f j.val) = Array.ofFn (n := N) fun j => g j.val := congrArg Array.ofFn (funext fun j => h j.val j.isLt)
  unfold arrV
  rw [e]
/-- the outer array, its first i places filled -/
def xx_mo (c0 : ClassId) (h N i : Nat) : Cell := arrV c0 N (fun j => if j < i then .ref (h + 1 + j) else .null)
def xx_ms (S : State) (c0 c2 : ClassId) (N K : Nat) : Nat → State
  | 0 => S.pushCell (xx_mo c0 S.heap.size N 0)
  | i + 1 => ((xx_ms S c0 c2 N K i).pushCell (arrV c2 K (fun _ => .int 0))).setCell S.heap.size (xx_mo c0 S.heap.size N (i + 1))
theorem xx_ms_vm (S : State) (c0 c2 : ClassId) (N K : Nat) : ∀ i, (xx_ms S c0 c2 N K i).vm = S.vm
  | 0 => rfl
  | i + 1 => by show (xx_ms S c0 c2 N K i).vm = S.vm; exact xx_ms_vm S c0 c2 N K i
theorem xx_mo_set (c0 : ClassId) (h N i : Nat) : (xx_mo c0 h N i).setSlot i (.ref (h + 1 + i)) = xx_mo c0 h N (i + 1) := by
  unfold xx_mo
  rw [arrV_store]
  refine congrArg (arrV c0 N) (funext fun j => ?_)
  by_cases e : j = i
  · subst e; simp [updV]
  · by_cases q : j < i
    · have : j < i + 1 := by omega
      simp [updV, e, q, this]
    · have : ¬ j < i + 1 := by omega
      simp [updV, e, q, this]
theorem xx_ms_heap (S : State) (c0 c2 : ClassId) (N K : Nat) : ∀ i, (xx_ms S c0 c2 N K i).heap.size = S.heap.size + 1 + i ∧ (xx_ms S c0 c2 N K i).heap[S.heap.size]? = some (xx_mo c0 S.heap.size N i) ∧
    (∀ j, j < i → (xx_ms S c0 c2 N K i).heap[S.heap.size + 1 + j]? = some (arrV c2 K (fun _ => .int 0))) ∧ ∀ q, q < S.heap.size → (xx_ms S c0 c2 N K i).heap[q]? = S.heap[q]?
  | 0 => by
    refine ⟨size_pushCell _ _, State.heap_pushCell_size _ _, fun j h => absurd h (Nat.not_lt_zero j), fun q hq => State.heap_pushCell_of_lt _ _ hq⟩
  | i + 1 => by
    obtain ⟨h1, h2, h3, h4⟩ := xx_ms_heap S c0 c2 N K i
    have eq : xx_ms S c0 c2 N K (i + 1) = ((xx_ms S c0 c2 N K i).pushCell (arrV c2 K (fun _ => .int 0))).setCell S.heap.size (xx_mo c0 S.heap.size N (i + 1)) := rfl
    have hz : ((xx_ms S c0 c2 N K i).pushCell (arrV c2 K (fun _ => .int 0))).heap.size = S.heap.size + 1 + i + 1 := by rw [size_pushCell, h1]
    have hlt : S.heap.size < ((xx_ms S c0 c2 N K i).pushCell (arrV c2 K (fun _ => .int 0))).heap.size := by rw [hz]; exact Nat.lt_of_lt_of_le (Nat.lt_succ_self _) (Nat.le_trans (Nat.le_add_right _ i) (Nat.le_succ _))
    rw [eq]
    refine ⟨?_, heapAt_setCell_self _ hlt, fun j hj => ?_, fun q hq => ?_⟩
    · rw [size_setCell, hz]; exact Nat.add_assoc _ i 1
    · have hne : S.heap.size ≠ S.heap.size + 1 + j := Nat.ne_of_lt (Nat.lt_of_lt_of_le (Nat.lt_succ_self _) (Nat.le_add_right _ j))
      rw [heapAt_setCell_ne _ hne]
      by_cases e : j = i
      · subst e
        rw [← h1]
        exact State.heap_pushCell_size _ _
      · have hl2 : S.heap.size + 1 + j < (xx_ms S c0 c2 N K i).heap.size := by rw [h1]; exact Nat.add_lt_add_left (Nat.lt_of_le_of_ne (Nat.le_of_lt_succ hj) e) _
        rw [State.heap_pushCell_of_lt _ _ hl2]
        exact h3 j (Nat.lt_of_le_of_ne (Nat.le_of_lt_succ hj) e)
    · have hne : S.heap.size ≠ q := (Nat.ne_of_lt hq).symm
      have hl2 : q < (xx_ms S c0 c2 N K i).heap.size := by rw [h1]; exact Nat.lt_of_lt_of_le hq (Nat.le_trans (Nat.le_succ _) (Nat.le_add_right _ i))
      rw [heapAt_setCell_ne _ hne, State.heap_pushCell_of_lt _ _ hl2]
      exact h4 q hq
theorem xx_ms_top (U : State) (g : JFrame) (c0 c2 : ClassId) (N K : Nat) : ∀ i, xx_ms (U.setTop g) c0 c2 N K i = (xx_ms U c0 c2 N K i).setTop g
  | 0 => rfl
  | i + 1 => by
    show ((xx_ms (U.setTop g) c0 c2 N K i).pushCell _).setCell _ _ = (((xx_ms U c0 c2 N K i).pushCell _).setCell _ _).setTop g
    rw [xx_ms_top U g c0 c2 N K i]
    rfl
theorem xx_ms_used (S : State) (c0 c2 : ClassId) (N K : Nat) : ∀ i, (xx_ms S c0 c2 N K i).slotsUsed = S.slotsUsed + N + i * K
  | 0 => by
    show S.slotsUsed + (xx_mo c0 S.heap.size N 0).slots.size = _
    unfold xx_mo
    rw [arrV_size]; omega
  | i + 1 => by
    show (xx_ms S c0 c2 N K i).slotsUsed + (arrV c2 K (fun _ => Value.int 0)).slots.size = _
    rw [arrV_size, xx_ms_used S c0 c2 N K i, Nat.add_mul]; omega
theorem xx_ml {e : Env} {S : State} {c0 c2 z : ClassId} {k0 k2 : Class} {k : Int32} {N K : Nat} {X : CtlPost} {Q : PUnit → Pre} (f : Nat → PUnit → Sem (ForInStep PUnit)) (hf : ∀ (i : Nat) (Q2 : ForInStep PUnit → Pre) (d : Bool) (acts : List Action) (S2 : State), wp (multianewarray.make c2 [k]) (fun x d acts S3 => wp (writeLoc S.heap.size i (.ref x)) (fun _ d acts S4 => Q2 (ForInStep.yield PUnit.unit) d acts S4) X e d acts S3) X e d acts S2 → wp (f i PUnit.unit) Q2 X e d acts S2) (hk0 : S.vm.classes[c0]? = some k0) (hkd0 : k0.kind = .array c2 (.array .int)) (hk2 : S.vm.classes[c2]? = some k2) (hkd2 : k2.kind = .array z .int) (hk : ¬ k < 0) (hK : k.toNatClampNeg = K)
    (hl2 : ¬ K > e.platform.arrayLengthLimit) (hh2 : ¬ K * componentBytes .int > e.platform.maxHeapBytes) (hc : S.heap.size + 1 + N ≤ e.platform.maxCells) (hs : S.slotsUsed + N + N * K ≤ e.platform.maxSlots)
    (hq : ∀ d acts, Q PUnit.unit d acts (xx_ms S c0 c2 N K N)) :
    ∀ (r i : Nat), i + r = N → ∀ d acts, wp (forIn (List.range' i r) PUnit.unit f) Q X e d acts (xx_ms S c0 c2 N K i) := by
  intro r
  induction r with
  | zero =>
    intro i hi d acts
    have : i = N := by omega
    subst this
    simp only [List.range'_zero, List.forIn_nil, wp_pure']
    exact hq d acts
  | succ r ih =>
    intro i hi d acts
    obtain ⟨z1, z2, z3, z4⟩ := xx_ms_heap S c0 c2 N K i
    have zu := xx_ms_used S c0 c2 N K i
    have zv := xx_ms_vm S c0 c2 N K i
    have hiK : i * K + K ≤ N * K := by
      have h9 : (i + 1) * K ≤ N * K := Nat.mul_le_mul_right K (by omega)
      rw [Nat.add_mul] at h9; omega
    rw [List.range'_succ, List.forIn_cons]
    simp only [wp_bind']
    refine hf i _ d acts _ ?_
    simp only [wp_bind', multianewarray.make, W.ite, hk, if_false, wp_pure', W.theClass, zv, hk2, Option.some.injEq, exists_eq_left', hkd2, hK]
    refine W.newArray_of (k := k2) (comp := z) (type := .int) (by rw [zv]; exact hk2) hkd2 hl2 hh2 (by omega) (by omega) rfl (fun acts2 => ?_)
    simp only [W.writeLoc]
    refine ⟨xx_mo c0 S.heap.size N i, ?_, (fun h => by cases h), ?_, ?_, ?_⟩
    · have hl9 : S.heap.size < (xx_ms S c0 c2 N K i).heap.size := by rw [z1]; omega
      rw [State.heap_pushCell_of_lt _ _ hl9]; exact z2
    · unfold xx_mo; rw [arrV_size]; omega
    · simp [State.fitsSlot, State.slotType?, xx_mo, arrV, State.pushCell, zv, hk0, hkd0, fits]
    · have e1 : ((xx_ms S c0 c2 N K i).pushCell { cls := c2, slots := Array.replicate K (defaultValue .int) }).setCell S.heap.size ((xx_mo c0 S.heap.size N i).setSlot i (.ref (xx_ms S c0 c2 N K i).heap.size)) = xx_ms S c0 c2 N K (i + 1) := by
        rw [z1, xx_mo_set]
        show _ = ((xx_ms S c0 c2 N K i).pushCell (arrV c2 K (fun _ => .int 0))).setCell _ _
        rw [← arrV_new]
        rfl
      have e2 := ih (i + 1) (by omega) true (writeActs ⟨S.heap.size, i⟩ .plain (.ref (xx_ms S c0 c2 N K i).heap.size) acts2)
      rw [← e1] at e2
      exact e2
theorem xx_mm {e : Env} {S : State} {c0 c2 z : ClassId} {k0 k2 : Class} {n k : Int32} {N K : Nat} {X : CtlPost} {Q : Addr → Pre} (hk0 : S.vm.classes[c0]? = some k0) (hkd0 : k0.kind = .array c2 (.array .int)) (hk2 : S.vm.classes[c2]? = some k2) (hkd2 : k2.kind = .array z .int) (hn : ¬ n < 0) (hN : n.toNatClampNeg = N) (hn0 : ¬ n = 0) (hk : ¬ k < 0) (hK : k.toNatClampNeg = K)
    (hl1 : ¬ N > e.platform.arrayLengthLimit) (hh1 : ¬ N * componentBytes (.array .int) > e.platform.maxHeapBytes) (hl2 : ¬ K > e.platform.arrayLengthLimit) (hh2 : ¬ K * componentBytes .int > e.platform.maxHeapBytes) (hc : S.heap.size + 1 + N ≤ e.platform.maxCells) (hs : S.slotsUsed + N + N * K ≤ e.platform.maxSlots)
    (hq : ∀ d acts, Q S.heap.size d acts (xx_ms S c0 c2 N K N)) (d : Bool) (acts : List Action) : wp (multianewarray.make c0 [n, k]) Q X e d acts S := by
  unfold multianewarray.make
  simp only [wp_bind', W.ite, hn, if_false, wp_pure', W.theClass, hk0, Option.some.injEq, exists_eq_left', hkd0, hN]
  refine W.newArray_of (k := k0) (comp := c2) (type := .array .int) hk0 hkd0 hl1 hh1 (by omega) (by omega) rfl (fun acts2 => ?_)
  have h0 : S.pushCell { cls := c0, slots := Array.replicate N .null } = xx_ms S c0 c2 N K 0 := by
    show _ = S.pushCell (xx_mo c0 S.heap.size N 0)
    unfold xx_mo
    have e9 : (fun j => if j < 0 then Value.ref (S.heap.size + 1 + j) else .null) = fun _ => Value.null := funext fun j => by simp
    rw [e9, ← arrV_new]
  rw [h0]
  have hb : (n == 0) = false := by simpa using hn0
  simp only [hb, Bool.false_eq_true, if_false, wp_pure', wp_bind', W.ite]
  rw [Std.Legacy.Range.forIn_eq_forIn_range']
  have hsz : List.range' (0 : Nat) (Std.Legacy.Range.size [:N]) 1 = List.range' 0 N := by simp [Std.Legacy.Range.size]
  show wp (forIn (List.range' (0 : Nat) (Std.Legacy.Range.size [:N]) 1) PUnit.unit _) _ _ _ _ _ _
  rw [hsz]
  refine xx_ml (k0 := k0) (k2 := k2) (z := z) (k := k) (N := N) (K := K) _ (fun i Q2 d acts S2 h => ?_) hk0 hkd0 hk2 hkd2 hk hK hl2 hh2 hc hs (fun d acts => ?_) N 0 (Nat.zero_add N) d acts2
  · rw [wp_bind']
    refine Eq.mp (congrArg (fun Z => wp (multianewarray.make c2 [k]) Z X e d acts S2) (funext fun x => funext fun d => funext fun acts => funext fun S3 => propext ?_)) h
    simp only [wp_bind']
    exact Iff.rfl
  · simp only [wp_pure']
    exact hq d acts
theorem xx_msS {p : Program} {l : Launch} {e : Env} {R : Room} {s : State} {m : MethodId} {args : Array Value} {below : List Frame} {meth : Method} {c : Code} {S : State} {locs : List Loc} {cells slots : Nat} (X : Stand p l e R s m args below meth c S locs cells slots) (c0 c2 : ClassId) (N K : Nat) :
    ∀ i, ∃ L : List Loc, (∀ q ∈ L, q.base = S.heap.size) ∧ Stand p l e R s m args below meth c (xx_ms S c0 c2 N K i) (locs ++ L) (cells + 1 + i) (slots + N + i * K)
  | 0 => by
    refine ⟨[], (fun q h => by cases h), ?_⟩
    have h := X.pushed (xx_mo c0 S.heap.size N 0)
    have e1 : (xx_mo c0 S.heap.size N 0).slots.size = N := by unfold xx_mo; exact arrV_size _ _ _
    rw [e1] at h
    rw [List.append_nil, Nat.zero_mul]
    exact h
  | i + 1 => by
    obtain ⟨L, hL, h⟩ := xx_msS X c0 c2 N K i
    have h2 := h.pushed (arrV c2 K (fun _ => .int 0))
    rw [arrV_size] at h2
    obtain ⟨z1, z2, -, -⟩ := xx_ms_heap S c0 c2 N K i
    have hl9 : S.heap.size < (xx_ms S c0 c2 N K i).heap.size := by rw [z1]; omega
    have hc9 : ((xx_ms S c0 c2 N K i).pushCell (arrV c2 K (fun _ => .int 0))).heap[S.heap.size]? = some (xx_mo c0 S.heap.size N i) := by rw [State.heap_pushCell_of_lt _ _ hl9]; exact z2
    have h3 := h2.stored hc9 i (.ref (S.heap.size + 1 + i))
    rw [xx_mo_set] at h3
    refine ⟨L ++ [⟨S.heap.size, i⟩], fun q hq => ?_, ?_⟩
    · rcases List.mem_append.mp hq with hq | hq
      · exact hL q hq
      · rw [List.mem_singleton.mp hq]
    · rw [← List.append_assoc, Nat.add_mul, Nat.one_mul, ← Nat.add_assoc, ← Nat.add_assoc]
      exact h3
section XM
variable {G : xx_G} {l : Launch} {M : xx_M} {d c1 s1 pc : Nat} {lv : List (Nat × Value)} {rest : List Value} {A : xx_H} {Q : Option Value ⊕ String → xx_H → Prop}
/-- the heap behind new int[N][K] -/
def xx_grid (A : xx_H) (N K : Nat) : xx_H := (A.1 + 1 + N, fun q => if q = A.1 then xx_r 5 N (fun j => some (A.1 + 1 + j)) else if A.1 < q ∧ q < A.1 + 1 + N then xx_i K (fun _ => 0) else A.2 q)
theorem xx_mna {index N K : Nat} {n k : Int32} (hdg : decode M.2.1 pc = .ok (.multianewarray index 2, 4)) (hw : Cond.classLink M.1.cls index "[[I" ∈ lw_tbl) (hn : ¬ n < 0) (hN : n.toNatClampNeg = N) (hn0 : ¬ n = 0) (hk : ¬ k < 0) (hK : k.toNatClampNeg = K) (hNs : N ≤ 100000) (hKs : K ≤ 100000)
    (kk : xx_X G l M d c1 s1 (pc + 4) lv (.ref A.1 :: rest) (xx_grid A N K) Q) : xx_X G l M d (c1 + (1 + N)) (s1 + (N + N * K)) pc lv (.int k :: .int n :: rest) A Q := by
  intro p e R s m args below meth c H locs cells slots ls ho T hT X
  obtain ⟨h1, h2, h3, h4, h5, h7⟩ := ho
  subst hT
  have hpl : e.platform.magicAccessors = ({} : Platform).magicAccessors := by rw [X.admits.platform]
  obtain ⟨c0, hc0, hl⟩ := Cond.classLink_spec h1.2.2.2.2.2.2.1 (h2.1 _ hw rfl) e.platform hpl
  obtain ⟨hg, hwm, hrd⟩ := State.classEntry (e := e) X.warmed hl
  generalize T.vm.noted m.cls index (.cls c0) = vm1 at hg hwm hrd
  have hr5 := (h2.2.1.2.1 5 (by decide)).2
  have hr1 := (h2.2.1.2.1 1 (by decide)).2
  have f5 : s.vm.findClass "[[I" = some (G.2.2 5) := hr5
  have f1 : s.vm.findClass "[I" = some (G.2.2 1) := hr1
  have hcc : c0 = G.2.2 5 := Option.some.inj (hc0.symm.trans f5)
  subst hcc
  obtain ⟨comp, c9, k9, g1, -, g3, g4, g5⟩ := arrayOverA_spec h2.2.1.2.2.2.2.2.1
  have g1 : s.vm.findClass "[I" = some comp := g1
  have g5 : s.vm.findClass "[[I" = some c9 := g5
  cases Option.some.inj (g5.symm.trans f5)
  cases Option.some.inj (g1.symm.trans f1)
  obtain ⟨-, k2, hk2, z, hkd2⟩ := (h2.2.1.2.1 1 (by decide)).1 0 (fun _ => .null)
  have hal := hwm.alike
  obtain ⟨k9', hk9', he9⟩ := hal.2.2 _ _ g3
  obtain ⟨k2', hk2', he2⟩ := hal.2.2 _ _ hk2
  have hkd9 : k9'.kind = .array (G.2.2 1) (.array .int) := by rw [he9]; exact g4
  have hkd2' : k2'.kind = .array z .int := by rw [he2]; exact hkd2
  have X1 := X.noted hwm
  obtain ⟨L, hL, X2⟩ := xx_msS X1 (G.2.2 5) (G.2.2 1) N K N
  obtain ⟨y1, y2, y3, y4⟩ := xx_ms_heap (T.setVm vm1) (G.2.2 5) (G.2.2 1) N K N
  have hz := h4.1
  have hR : xx_R G (xx_grid A N K) (xx_ms (T.setVm vm1) (G.2.2 5) (G.2.2 1) N K N).heap := by
    refine ⟨by rw [y1]; show T.heap.size + 1 + N = A.1 + 1 + N; rw [hz], by rw [y1]; exact Nat.le_trans h4.2.1 (Nat.le_trans (Nat.le_succ _) (Nat.le_add_right _ N)), fun q hq => (y4 q (Nat.lt_of_lt_of_le hq h4.2.1)).trans (h4.2.2.1 q hq), fun a => ?_⟩
    have hb := h4.base
    unfold xx_grid
    dsimp only
    by_cases e1 : a = A.1
    · rw [if_pos e1]
      refine xx_at_a (by decide) (by omega) ?_
      rw [e1, ← hz]
      refine y2.trans ?_
      unfold xx_mo
      refine congrArg some ?_
      refine xx_arrV_congr fun j hj => ?_
      rw [if_pos hj]
      rfl
    · rw [if_neg e1]
      by_cases e2 : A.1 < a ∧ a < A.1 + 1 + N
      · rw [if_pos e2]
        refine xx_at_a (by decide) (by omega) ?_
        have h9 := y3 (a - (A.1 + 1)) (by omega)
        have e3 : (T.setVm vm1).heap.size + 1 + (a - (A.1 + 1)) = a := by show T.heap.size + 1 + _ = a; rw [hz]; omega
        rw [e3] at h9
        exact h9
      · rw [if_neg e2]
        by_cases h0 : (A.2 a).1 = 0
        · exact Or.inl h0
        · have hlt := (h4.2.2.2 a).lt h0
          exact (h4.2.2.2 a).kept (y4 a hlt)
  obtain ⟨t, a1, b1⟩ := kk p e R s m args below meth c _ _ (cells + 1 + N) (slots + N + N * K) ls ⟨h1, h2, ⟨h3.1, h3.2.1, by omega, by omega⟩, hR, fun q hq => (List.mem_append.mp hq).elim (h5 q) (fun h => by rw [hL q h]; exact h4.2.1), h7⟩ _ rfl X2
  refine ⟨t, ?_, b1⟩
  have hd2 : decode c.code pc = .ok (.multianewarray index 2, 4) := by rw [h1.2.1]; exact hdg
  jvm_step X.here [h1.1, hd2]
  unfold multianewarray.sem
  rw [wp_bind', W.resolveClassAt_links (State.method?_setTop _ X.here.top) hg]
  rw [wp_bind', W.popN, if_neg (by decide)]
  refine ⟨F0 m pc ls (.int k :: .int n :: rest), State.topJava?_setTop' _ X.here.top, [.int n, .int k], rest, rfl, rfl, ?_⟩
  rw [wp_bind']
  simp only [List.mapM_cons, List.mapM_nil, wp_bind', wp_pure']
  have hS : ((T.setTop (F0 m pc ls (.int k :: .int n :: rest))).setVm vm1).setTop (F0 m pc ls rest) = (T.setVm vm1).setTop (F0 m pc ls rest) := State.setTop_setTop (T.setVm vm1) _ _
  show wp _ _ _ _ _ _ (((T.setTop (F0 m pc ls (.int k :: .int n :: rest))).setVm vm1).setTop (F0 m pc ls rest))
  rw [hS]
  have hlim : e.platform.arrayLengthLimit = 2147483645 := Launch.admits_arrayLengthLimit X.admits
  have hmax : e.platform.maxHeapBytes = 536870912 := Launch.admits_maxHeapBytes X.admits
  obtain ⟨q1, q2⟩ := X.heapHas (a := 1 + N) (b := N + N * K) (by omega) (by omega)
  refine xx_mm (k0 := k9') (k2 := k2') (z := z) hk9' hkd9 hk2' hkd2' hn hN hn0 hk hK (by rw [hlim]; omega) (by rw [hmax]; show ¬ N * 4 > _; omega) (by rw [hlim]; omega) (by rw [hmax]; show ¬ K * 4 > _; omega) (by show T.heap.size + 1 + N ≤ _; omega) (by show T.slotsUsed + N + N * K ≤ _; omega) (fun d acts => ?_) true []
  rw [xx_ms_top]
  simp only [wp_bind', W.mark, W.pushRef]
  refine ⟨F0 m pc ls rest, State.topJava?_setTop' _ X2.here.top, fun acts => ?_⟩
  rw [State.setTop_setTop, afterInstr_ok]
  rw [← hz] at a1
  exact a1
end XM

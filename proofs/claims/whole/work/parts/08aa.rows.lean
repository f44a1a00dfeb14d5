/-! ===== new int[6][3], out of the machine's own step ===== -/
section MN
variable {E : CtlPost} {e : Env} {d : Bool} {acts : List Action} {s : State}
/-- a new row of N times v -/
theorem mn_new {c comp : ClassId} {k : Class} {ty : FieldType} {N : Nat} {v : Value} {Q : Addr → Pre} (hk : s.vm.classes[c]? = some k) (hK : k.kind = .array comp ty) (hv : fits ty v = true) (h0 : v.isDefault = true) (hl : N ≤ e.platform.arrayLengthLimit) (hb : N * componentBytes ty ≤ e.platform.maxHeapBytes) (hc : s.heap.size < e.platform.maxCells) (hs : s.slotsUsed + N ≤ e.platform.maxSlots) (q : Q s.heap.size d acts (s.pushCell (arrV c N (fun _ => v)))) : wp (newArray c N v) Q E e d acts s := by
  rw [← arrV_new] at q
  have f0 : ∀ (i : Nat) (x : Value), (Array.replicate N v)[i]? = some x → s.fitsSlot c .none i x = true := fun i x hx => by
    have ex : x = v := (Array.mem_replicate.mp (Array.mem_of_getElem? hx)).2
    rw [ex]
    simp [State.fitsSlot, State.slotType?, hk, hK, hv]
  have a0 : allocActs (Array.replicate N v) s.heap.size acts = acts := if_pos (by
    rw [Array.all_replicate, h0]
    split <;> rfl)
  have n1 : ¬ N > e.platform.arrayLengthLimit := Nat.not_lt.mpr hl
  have n2 : ¬ N * componentBytes ty > e.platform.maxHeapBytes := Nat.not_lt.mpr hb
  unfold newArray arrayFits
  simp only [wp_bind', wp_pure', W.ask, W.ite, W.theClass, W.alloc, W.stop, n1, n2, if_false, hk, hK, Option.some.injEq, exists_eq_left', Array.size_replicate, a0]
  rw [if_neg (Nat.not_lt.mpr (by omega))]
  exact ⟨hc, hs, f0, q⟩
end MN
/-- what the outer row holds when i inner ones stand -/
def mn_O (h i : Nat) : Nat → Value := fun j => if j < i then .ref (h + 1 + j) else .null
theorem mn_O_0 (h : Nat) : mn_O h 0 = fun _ => .null := funext fun j => if_neg (Nat.not_lt_zero j)
theorem mn_O_up (c : ClassId) (h i : Nat) : (arrV c 6 (mn_O h i)).setSlot i (.ref (h + 1 + i)) = arrV c 6 (mn_O h (i + 1)) := by
  rw [arrV_store]
  refine congrArg (arrV c 6) (funext fun j => ?_)
  show (if j = i then Value.ref (h + 1 + i) else if j < i then Value.ref (h + 1 + j) else Value.null) = if j < i + 1 then Value.ref (h + 1 + j) else Value.null
  rcases Nat.lt_trichotomy j i with g | g | g
  · rw [if_neg (by omega), if_pos g, if_pos (by omega)]
  · rw [if_pos g, if_pos (by omega), g]
  · rw [if_neg (by omega), if_neg (by omega), if_neg (by omega)]
/-- the state when i inner rows stand -/
def mn_S (T : State) (c3 c0 : ClassId) : Nat → State
  | 0 => T.pushCell (arrV c3 6 (mn_O T.heap.size 0))
  | i + 1 => ((mn_S T c3 c0 i).pushCell (arrV c0 3 (fun _ => .int 0))).setCell T.heap.size (arrV c3 6 (mn_O T.heap.size (i + 1)))
/-- what its heap holds -/
def mn_I (c3 c0 : ClassId) (H : Heap) (i : Nat) (F : Heap) : Prop := F.size = H.size + 1 + i ∧ F[H.size]? = some (arrV c3 6 (mn_O H.size i)) ∧ (∀ x : Nat, x < H.size → F[x]? = H[x]?) ∧ ∀ j : Nat, j < i → F[H.size + 1 + j]? = some (arrV c0 3 (fun _ => .int 0))
theorem mn_size (c : ClassId) (N : Nat) (f : Nat → Value) : (arrV c N f).slots.size = N := Array.size_ofFn
theorem mn_facts (T : State) (c3 c0 : ClassId) : ∀ i : Nat, mn_I c3 c0 T.heap i (mn_S T c3 c0 i).heap ∧ (mn_S T c3 c0 i).vm = T.vm ∧ (mn_S T c3 c0 i).slotsUsed = T.slotsUsed + 6 + 3 * i
  | 0 => ⟨⟨State.heap_size_pushCell _ _, State.heap_pushCell_size _ _, fun x hx => State.heap_pushCell_of_lt _ _ hx, fun j hj => absurd hj (Nat.not_lt_zero j)⟩, rfl, by
    show T.slotsUsed + (arrV c3 6 _).slots.size = _
    rw [mn_size]⟩
  | i + 1 => by
    obtain ⟨⟨g1, g2, g3, g4⟩, gv, gs⟩ := mn_facts T c3 c0 i
    have old : ∀ x : Nat, x < T.heap.size + 1 + i → ((mn_S T c3 c0 i).pushCell (arrV c0 3 (fun _ => .int 0))).heap[x]? = (mn_S T c3 c0 i).heap[x]? := fun x hx => State.heap_pushCell_of_lt _ _ (by rw [g1]; exact hx)
    refine ⟨⟨?_, State.heap_setCell_self ((old T.heap.size (by omega)).trans g2), fun x hx => ?_, fun j hj => ?_⟩, gv, ?_⟩
    · show (((mn_S T c3 c0 i).pushCell _).setCell T.heap.size _).heap.size = _
      simp [State.setCell, g1]
      omega
    · exact (State.heap_setCell_other (Nat.ne_of_gt hx)).trans ((old x (by omega)).trans (g3 x hx))
    · refine (State.heap_setCell_other (show T.heap.size ≠ T.heap.size + 1 + j by omega)).trans ?_
      rcases Nat.lt_or_ge j i with g | g
      · exact (old _ (by omega)).trans (g4 j g)
      · rw [show T.heap.size + 1 + j = (mn_S T c3 c0 i).heap.size by rw [g1]; omega]
        exact State.heap_pushCell_size _ _
    · show (mn_S T c3 c0 i).slotsUsed + (arrV c0 3 _).slots.size = _
      rw [gs, mn_size]
      omega
theorem mn_top (T : State) (g : JFrame) (c3 c0 : ClassId) : ∀ i : Nat, mn_S (T.setTop g) c3 c0 i = (mn_S T c3 c0 i).setTop g
  | 0 => rfl
  | i + 1 => by
    unfold mn_S
    rw [mn_top T g c3 c0 i, State.pushCell_setTop, State.setCell_setTop]
    rfl
section MS
variable {p : Program} {l : Launch} {e : Env} {R : Room} {s : State} {m : MethodId} {args : Array Value} {below : List Frame} {meth : Method} {c : Code} {T : State} {locs : List Loc} {cells slots : Nat}
theorem mn_stand (X : Stand p l e R s m args below meth c T locs cells slots) (c3 c0 : ClassId) : ∀ i : Nat, Stand p l e R s m args below meth c (mn_S T c3 c0 i) locs (cells + 1 + i) (slots + 6 + 3 * i)
  | 0 => by
    have h := X.pushed (arrV c3 6 (mn_O T.heap.size 0))
    rw [mn_size] at h
    exact h
  | i + 1 => by
    obtain ⟨⟨g1, g2, -, -⟩, -, -⟩ := mn_facts T c3 c0 i
    have h := (mn_stand X c3 c0 i).pushed (arrV c0 3 (fun _ => .int 0))
    have hlt : T.heap.size < (mn_S T c3 c0 i).heap.size := by rw [g1]; omega
    have hc : ((mn_S T c3 c0 i).pushCell (arrV c0 3 (fun _ => .int 0))).heap[T.heap.size]? = some (arrV c3 6 (mn_O T.heap.size i)) := (State.heap_pushCell_of_lt _ _ hlt).trans g2
    have h2 := (h.stored hc i (.ref (T.heap.size + 1 + i))).dropFresh (fun x hx => by
      rw [List.mem_singleton.mp hx]
      exact X.heapGrown)
    rw [mn_O_up, mn_size] at h2
    rw [show cells + 1 + (i + 1) = cells + 1 + i + 1 by omega, show slots + 6 + 3 * (i + 1) = slots + 6 + 3 * i + 3 by omega]
    exact h2
end MS
section MW
variable {E : CtlPost} {e : Env} {d : Bool} {acts : List Action} {s : State}
theorem mn_make {c3 c0 cc : ClassId} {k3 k0 : Class} {Q : Addr → Pre} (h3 : s.vm.classes[c3]? = some k3) (e3 : k3.kind = .array c0 (.array .int)) (h0 : s.vm.classes[c0]? = some k0) (e0 : k0.kind = .array cc .int) (hl : 6 ≤ e.platform.arrayLengthLimit) (hb : 24 ≤ e.platform.maxHeapBytes) (hc : s.heap.size + 7 ≤ e.platform.maxCells) (hs : s.slotsUsed + 24 ≤ e.platform.maxSlots) (q : ∀ d' acts', Q s.heap.size d' acts' (mn_S s c3 c0 6)) : wp (multianewarray.make c3 [6, 3]) Q E e d acts s := by
  have n6 : ¬ (6 : Int32) < 0 := by decide
  have n3 : ¬ (3 : Int32) < 0 := by decide
  have t6 : (6 : Int32).toNatClampNeg = 6 := rfl
  have t3 : (3 : Int32).toNatClampNeg = 3 := rfl
  rw [multianewarray.make]
  simp only [wp_bind', wp_pure', W.ite, W.theClass, n6, if_false, h3, e3, Option.some.injEq, exists_eq_left', t6]
  refine mn_new h3 e3 rfl rfl hl hb (by omega) (by omega) ?_
  rw [if_neg (by decide), wp_bind', Std.Legacy.Range.forIn_eq_forIn_range']
  rw [← mn_O_0 s.heap.size]
  refine wp_forIn_inv (fun rest u => ∃ i : Nat, i ≤ 6 ∧ rest = List.range' i (6 - i) ∧ u = mn_S s c3 c0 i) _ _ ⟨0, Nat.zero_le 6, rfl, rfl⟩ (fun x rest u d' acts' Q' hI hn => ?_) (fun u d' acts' hI => ?_)
  · obtain ⟨i, hi, hr, rfl⟩ := hI
    have hi6 : i < 6 := by
      rcases Nat.lt_or_ge i 6 with h | h
      · exact h
      · rw [show 6 - i = 0 by omega] at hr
        exact absurd hr (by simp)
    rw [show 6 - i = (6 - (i + 1)) + 1 by omega, List.range'_succ] at hr
    obtain ⟨rfl, rfl⟩ := List.cons.inj hr
    obtain ⟨⟨g1, g2, -, -⟩, gv, gs⟩ := mn_facts s c3 c0 x
    rw [wp_bind', multianewarray.make]
    simp only [wp_bind', wp_pure', W.ite, W.theClass, n3, if_false, gv, h0, e0, Option.some.injEq, exists_eq_left', t3]
    refine mn_new (by rw [gv]; exact h0) e0 rfl rfl (by omega) (show 3 * 4 ≤ _ by omega) (by rw [g1]; omega) (by rw [gs]; omega) ?_
    simp only [wp_bind', wp_pure', W.writeLoc]
    have hlt : s.heap.size < (mn_S s c3 c0 x).heap.size := by rw [g1]; omega
    refine ⟨arrV c3 6 (mn_O s.heap.size x), (State.heap_pushCell_of_lt _ _ hlt).trans g2, (fun h => nomatch h), by rw [mn_size]; exact hi6, ?_, hn _ _ _ ⟨x + 1, hi6, rfl, ?_⟩⟩
    · simp [State.fitsSlot, State.slotType?, arrV, gv, h3, e3]
      rfl
    · rw [g1, mn_O_up]
      rfl
  · obtain ⟨i, hi, hr, rfl⟩ := hI
    have hi6 : i = 6 := by
      rcases Nat.lt_or_ge i 6 with h | h
      · rw [show 6 - i = (6 - (i + 1)) + 1 by omega, List.range'_succ] at hr
        exact absurd hr (by simp)
      · omega
    rw [hi6]
    simp only [wp_pure']
    exact q _ _
end MW
section MT
variable {p : Program} {l : Launch} {e : Env} {R : Room} {s : State} {m : MethodId} {args : Array Value} {below : List Frame} {meth : Method} {c : Code} {T : State} {locs : List Loc} {cells slots : Nat}
theorem mn_step (X : Stand p l e R s m args below meth c T locs cells slots) (hx : p.tables.exec = Jvm.exec) {own : String} {index : Nat} (hown : s.vm.findClass own = some m.cls) (hw : (Cond.classLink own index ("[" ++ (FieldType.array .int).toString)).before args s = true) (hA : aoA s) (hw2 : (Cond.arrayClass .int).before args s = true) {g : JFrame} (hg : g.method = m) (hdg : decode c.code g.pc = .ok (.multianewarray index 2, 4)) {st : List Value} (hst : g.stack = .int 3 :: .int 6 :: st) (hc : cells + 7 ≤ R.cells) (hs : slots + 24 ≤ R.slots) :
    ∃ (F : State) (c3 c0 : ClassId), s.vm.findClass ("[" ++ (FieldType.array .int).toString) = some c3 ∧ s.vm.findClass (FieldType.array .int).toString = some c0 ∧ mn_I c3 c0 T.heap 6 F.heap ∧ Stand p l e R s m args below meth c F locs (cells + 7) (slots + 24) ∧ ∀ t, Steps p.tables e below (F.setTop { g with pc := g.pc + 4, stack := .ref T.heap.size :: st }) t → Steps p.tables e below (T.setTop g) t := by
  subst hg
  obtain ⟨c0, c3, k3, f0, -, h3, e3, f3⟩ := aoA_spec hA
  obtain ⟨c0', k0, cc, f0', h0, e0⟩ := Cond.arrayClass_spec hw2
  obtain rfl : c0' = c0 := Option.some.inj (f0'.symm.trans f0)
  obtain ⟨c3', f3', hlk⟩ := Cond.classLink_spec hown hw e.platform (by rw [X.admits.platform])
  obtain rfl : c3' = c3 := Option.some.inj (f3'.symm.trans f3)
  obtain ⟨hgv, hwm, -⟩ := State.classEntry (e := e) X.warmed hlk
  generalize T.vm.noted g.method.cls index (.cls c3') = vm1 at hgv hwm
  obtain ⟨k3', h3', q3⟩ := hwm.alike.2.2 _ _ h3
  obtain ⟨k0', h0', q0⟩ := hwm.alike.2.2 _ _ h0
  obtain ⟨r1, r2⟩ := X.roomAbove hc hs
  have XF := mn_stand (X.noted hwm) c3' c0' 6
  refine ⟨_, c3', c0', f3, f0, (mn_facts (T.setVm vm1) c3' c0' 6).1, XF, fun t ht => ?_⟩
  jvm_step X.here [hx, hdg]
  simp only [multianewarray.sem, wp_bind', W.resolveClassAt_links (State.method?_setTop g X.here.top) hgv]
  rw [W.popN, if_neg (by decide)]
  refine ⟨g, State.topJava?_setTop' (s := T.setVm vm1) g X.here.top, [.int 6, .int 3], st, rfl, hst, ?_⟩
  simp only [List.mapM_cons, List.mapM_nil, wp_bind', wp_pure']
  refine mn_make (k3 := k3') (k0 := k0') (c0 := c0') (cc := cc) h3' (by rw [q3]; exact e3) h0' (by rw [q0]; exact e0) (by rw [Launch.admits_arrayLengthLimit X.admits]; decide) (by rw [Launch.admits_maxHeapBytes X.admits]; decide) r1 r2 (fun d' acts' => ?_)
  rw [show ((T.setTop g).setVm vm1).setTop { g with stack := st } = (T.setVm vm1).setTop { g with stack := st } from State.setTop_setTop (s := T.setVm vm1) .., mn_top]
  simp only [wp_bind', W.mark, W.pushRef, State.topJava?_setTop' _ XF.here.top, Option.some.injEq, exists_eq_left', State.setTop_setTop, State.heap_setTop]
  intro acts
  simp [jvm, XF.here.top]
  exact ht
end MT

/-! ===== making: the walk of a body that makes cells; the world is a list ===== -/
/-- an array of int rows can be made here -/
def aoA (U : State) : Prop := (Cond.arrayOver (.array .int)).before #[] U = true
theorem aoA_spec {s : State} (h : aoA s) : ∃ comp c k, s.vm.findClass (FieldType.array .int).toString = some comp ∧ (s.vm.classes.findIdx? fun (x : Class) => match x.kind with | .array component _ => component == comp | _ => false) = some c ∧ s.vm.classes[c]? = some k ∧ k.kind = .array comp (.array .int) ∧ s.vm.findClass ("[" ++ (FieldType.array .int).toString) = some c := by
  unfold aoA Cond.before at h
  simp only [Cond.holds, Cond.value, beq_iff_eq] at h
  cases hc : s.vm.findClass (FieldType.array .int).toString with
  | none => simp [hc] at h
  | some comp =>
    simp only [hc, Option.bind_some, Option.bind_eq_some_iff, Option.map_eq_some_iff] at h
    obtain ⟨c, hi, k, hk, hb⟩ := h
    obtain ⟨hlt, hp, -⟩ := Array.findIdx?_eq_some_iff_getElem.mp hi
    have hkk : s.vm.classes[c] = k := (Array.getElem?_eq_some_iff.mp hk).2
    rw [hkk] at hp
    cases hkind : k.kind with
    | array component ty =>
      rw [hkind] at hb hp
      simp at hb hp
      exact ⟨comp, c, k, rfl, hi, hk, by rw [hkind, hp, hb.1], hb.2⟩
    | _ => rw [hkind] at hb; simp at hb
theorem aoA_moved {u U : State} (hvm : u.vm.Alike U.vm) (h : aoA u) : aoA U := by
  obtain ⟨comp, c, k, h1, h2, h3, h4, h5⟩ := aoA_spec h
  obtain ⟨k', hk', he⟩ := hvm.2.2 _ _ h3
  have hi : (U.vm.classes.findIdx? fun (x : Class) => match x.kind with | .array component _ => component == comp | _ => false) = some c := by
    have a1 := va_idx_bare U.vm comp
    have a2 := va_idx_bare u.vm comp
    have a3 : U.vm.bare = u.vm.bare := by first | exact hvm.bare_eq | exact hvm.bare_eq.symm
    rw [a3] at a1
    exact a1.symm.trans (a2.trans h2)
  have hkind : k'.kind = .array comp (.array .int) := by rw [he]; exact h4
  have f1 : U.vm.findClass (FieldType.array .int).toString = some comp := by rw [hvm.findClass]; exact h1
  have f2 : U.vm.findClass ("[" ++ (FieldType.array .int).toString) = some c := by rw [hvm.findClass]; exact h5
  unfold aoA Cond.before Cond.holds
  simp only [Cond.value]
  rw [f1, Option.bind_some]
  refine (congrArg (fun o : Option Nat => (o.bind (fun c => (U.vm.classes[c]?).map fun (k : Class) => match k.kind with | .array _ ty => decide (ty = FieldType.array .int) && decide (U.vm.findClass ("[" ++ (FieldType.array .int).toString) = some c) | _ => false) == some true)) hi).trans ?_
  simp [hk', hkind, f2]
/-- what the tables say beside their words: arrays over, and nest mates' constructors -/
def cZ (U : State) : Prop := va_AO RX1 U ∧ aoA U ∧ va_Nw (.methodLinkNest RX4 9 yX2_init RX4) U ∧ va_Nw (.methodLinkNest RX4 18 yX3_init RX4) U ∧ va_Nw (.methodLinkNest RX4 28 yX1_init RX4) U ∧ va_Nw (.methodLinkNest RX0 17 yX1_init RX4) U
theorem cZ_warm {s U : State} (hW : s.WarmedH U.vm) (h : cZ s) : cZ U := ⟨va_AO.moved hW.alike h.1, aoA_moved hW.alike h.2.1, va_Nw.warmM hW h.2.2.1, va_Nw.warmM hW h.2.2.2.1, va_Nw.warmM hW h.2.2.2.2.1, va_Nw.warmM hW h.2.2.2.2.2⟩
theorem cZ_same {s U : State} (hv : s.vm = U.vm) (h : cZ s) : cZ U := ⟨va_AO.moved (by rw [hv]; exact Vm.Alike.refl _) h.1, aoA_moved (by rw [hv]; exact Vm.Alike.refl _) h.2.1, va_Nw.same rfl hv h.2.2.1, va_Nw.same rfl hv h.2.2.2.1, va_Nw.same rfl hv h.2.2.2.2.1, va_Nw.same rfl hv h.2.2.2.2.2⟩
def mkA (h0 sz : Nat) : Nat → Prop := fun q => q = h0 ∨ sz ≤ q
/-- a constructor's contract: from the new object alone to the cells of a side -/
def ctC (V : wd_V) (y : MethodName) (bytes : ByteArray) (maxL : Nat) (sd : wd_Side) (e0 : va_E) (σz : wd_S) (rm : Room) (mc ms : Nat) : Prop := ∀ (h0 sz : Nat), Met V.1 y (Cond.code y bytes maxL none :: wsL_law) rm (va_Pc [.ref h0] (fun U => U.heap.size = sz ∧ va_P V.2.1 vwCl [(h0, e0)] U.heap ∧ va_K V.2.1 vwCl (wd_tys V.2.2) U ∧ cZ U)) (va_Qv (fun _ : Nat → Nat => True) (fun r t => r 0 = h0 ∧ wd_inj sd r ∧ (∀ k, k < sd.1 → mkA h0 sz (r k)) ∧ va_P V.2.1 vwCl (wd_cells sd r V.2.2 σz) t.heap) (mkA h0 sz)) mc ms (mkA h0 sz)
def kx_Ok (V : wd_V) (K : wd_K) (A : Nat → Prop) (own : String) (cc : ByteArray) (nL : Nat) (rm : Room) : Prop := match K with
  | (p, _, R, s, m, args, _, _, c) => p.tables.exec = Jvm.exec ∧ c.code = cc ∧ c.maxLocals = nL ∧ s.vm.findClass own = some m.cls ∧ (∀ w ∈ wsL_law, w.before args s = true) ∧ va_K V.2.1 vwCl (wd_tys V.2.2) s ∧ cZ s ∧ R = rm ∧ ∀ q, s.heap.size ≤ q → A q
def kx_In (K : wd_K) : Prop := match K with
  | (_, _, _, _, _, _, _, meth, _) => meth.name = "<init>"
def kx_G (V : wd_V) (K : wd_K) (A : Nat → Prop) (nL : Nat) (Q : State → Prop) (n k pc : Nat) (lv : List (Option Value)) (st : List Value) (ws : va_W) : Prop := match K with
  | (p, e, R, s, m, args, below, meth, c) => ∀ (H : Heap) (locs : List Loc) (ls : Array Slot), va_P V.2.1 vwCl ws H → va_D A ws → va_S A s.heap H locs → wd_L ls nL lv → W p V.1 e R s m args below meth c H locs n k Q (F0 m pc ls st)
theorem va_P_m {D : va_G} {cl : List vw_C} {ws : va_W} {H : Heap} (h : va_P D cl ws H) {x : Nat × va_E} (hx : x ∈ ws) : va_at D cl x H := by
  obtain ⟨i, hi⟩ := List.getElem?_of_mem hx
  exact h i x hi
theorem va_P_of {D : va_G} {cl : List vw_C} {ws : va_W} {H : Heap} (h : ∀ x ∈ ws, va_at D cl x H) : va_P D cl ws H := fun k x hx => h x (List.mem_of_getElem? hx)
theorem va_D_m {A : Nat → Prop} {ws : va_W} (h : va_D A ws) {x : Nat × va_E} (hx : x ∈ ws) : A x.1 := by
  obtain ⟨i, hi⟩ := List.getElem?_of_mem hx
  exact h.2 i x hi
theorem va_D_sep {A : Nat → Prop} {w1 w2 : va_W} (h : va_D A (w1 ++ w2)) {x y : Nat × va_E} (hx : x ∈ w1) (hy : y ∈ w2) : x.1 ≠ y.1 := fun e => by
  obtain ⟨i, hi⟩ := List.getElem?_of_mem hx
  obtain ⟨j, hj⟩ := List.getElem?_of_mem hy
  have hil := (List.getElem?_eq_some_iff.mp hi).1
  have h1 : (w1 ++ w2)[i]? = some x := by rw [List.getElem?_append_left hil]; exact hi
  have h2 : (w1 ++ w2)[w1.length + j]? = some y := by rw [List.getElem?_append_right (by omega), Nat.add_sub_cancel_left]; exact hj
  have := h.1 _ _ _ _ h1 h2 e
  omega
theorem va_D_l {A : Nat → Prop} {w1 w2 : va_W} (h : va_D A (w1 ++ w2)) : va_D A w1 := by
  refine ⟨fun i j p q hp hq e => ?_, fun k q hq => ?_⟩
  · exact h.1 i j p q (by rw [List.getElem?_append_left (List.getElem?_eq_some_iff.mp hp).1]; exact hp) (by rw [List.getElem?_append_left (List.getElem?_eq_some_iff.mp hq).1]; exact hq) e
  · exact h.2 k q (by rw [List.getElem?_append_left (List.getElem?_eq_some_iff.mp hq).1]; exact hq)
theorem va_D_r {A : Nat → Prop} {w1 w2 : va_W} (h : va_D A (w1 ++ w2)) : va_D A w2 := by
  have e : ∀ (i : Nat) (p : Nat × va_E), w2[i]? = some p → (w1 ++ w2)[w1.length + i]? = some p := fun i p hp => by rw [List.getElem?_append_right (by omega), Nat.add_sub_cancel_left]; exact hp
  refine ⟨fun i j p q hp hq he => ?_, fun k q hq => h.2 _ q (e k q hq)⟩
  have := h.1 _ _ p q (e i p hp) (e j q hq) he
  omega
theorem va_D_app {A : Nat → Prop} {w1 w2 : va_W} (h1 : va_D A w1) (h2 : va_D A w2) (hs : ∀ x ∈ w1, ∀ y ∈ w2, x.1 ≠ y.1) : va_D A (w1 ++ w2) := by
  have sp : ∀ (i : Nat) (p : Nat × va_E), (w1 ++ w2)[i]? = some p → (i < w1.length ∧ w1[i]? = some p) ∨ (w1.length ≤ i ∧ w2[i - w1.length]? = some p) := fun i p hp => by
    by_cases c : i < w1.length
    · rw [List.getElem?_append_left c] at hp; exact Or.inl ⟨c, hp⟩
    · rw [List.getElem?_append_right (by omega)] at hp; exact Or.inr ⟨by omega, hp⟩
  refine ⟨fun i j p q hp hq e => ?_, fun k q hq => ?_⟩
  · rcases sp i p hp with ⟨a1, a2⟩ | ⟨a1, a2⟩ <;> rcases sp j q hq with ⟨b1, b2⟩ | ⟨b1, b2⟩
    · exact h1.1 i j p q a2 b2 e
    · exact absurd e (hs p (List.mem_of_getElem? a2) q (List.mem_of_getElem? b2))
    · exact absurd e.symm (hs q (List.mem_of_getElem? b2) p (List.mem_of_getElem? a2))
    · have := h2.1 _ _ p q a2 b2 e
      omega
  · rcases sp k q hq with ⟨a1, a2⟩ | ⟨a1, a2⟩
    · exact h1.2 k q a2
    · exact h2.2 _ q a2
theorem wd_in {sd : wd_Side} {r : Nat → Nat} {cy : Nat → ClassId} {σ : wd_S} {x : Nat × va_E} (h : x ∈ wd_cells sd r cy σ) : ∃ k, k < sd.1 ∧ x = (r k, sd.2 r cy σ.2 k (σ.1 k)) := by
  obtain ⟨i, hi⟩ := List.getElem?_of_mem h
  obtain ⟨h1, h2⟩ := wd_at' hi
  exact ⟨i, h1, h2⟩
theorem ty_0 {D : va_G} {cl : List vw_C} {cy : Nat → ClassId} {tys : List (ClassId × FieldType)} {s : State} {cA : ClassId} {ty : FieldType} {i : Nat} (h : va_K D cl (wd_tys cy) s) (hi : (wd_tys cy)[i]? = some (cy i, ty)) (hn : ∀ C, ty ≠ .object C) (h2 : va_K D cl (tys ++ [(cA, ty)]) s) : cA = cy i := by
  have e1 := (h.2 i _ hi).2
  have e2 := (h2.2 tys.length (cA, ty) (by simp)).2
  cases ty with
  | object C => exact absurd rfl (hn C)
  | _ => exact Option.some.inj (e2.symm.trans e1)
section KX
variable {V : wd_V} {K : wd_K} {A : Nat → Prop} {own : String} {cc : ByteArray} {nL : Nat} {rm : Room} {Q : State → Prop} {n k pc : Nat} {lv : List (Option Value)} {st : List Value} {ws : va_W}
theorem kx_re {ws' : va_W} (hP : ∀ H, va_P V.2.1 vwCl ws H → va_P V.2.1 vwCl ws' H) (hD : va_D A ws → va_D A ws') (kk : kx_G V K A nL Q n k pc lv st ws') : kx_G V K A nL Q n k pc lv st ws := by
  obtain ⟨p, e, R, s, m, args, below, meth, c⟩ := K
  intro H locs ls h1 h2 h3 h4
  exact kk H locs ls (hP H h1) (hD h2) h3 h4
theorem kx_ws {ws' : va_W} (h : ws = ws') (kk : kx_G V K A nL Q n k pc lv st ws') : kx_G V K A nL Q n k pc lv st ws := h ▸ kk
theorem kx_widen {n' k' : Nat} (h1 : n ≤ n') (h2 : k ≤ k') (kk : kx_G V K A nL Q n' k' pc lv st ws) : kx_G V K A nL Q n k pc lv st ws := by
  obtain ⟨p, e, R, s, m, args, below, meth, c⟩ := K
  intro H locs ls hP hD hS hl
  exact W.widen h1 h2 (kk H locs ls hP hD hS hl)
theorem kx_aload (hC : kx_Ok V K A own cc nL rm) {k0 : Fin 4} {i x : Nat} (hdg : decode cc pc = .ok (.aload_n k0, 1)) (hi : (k0 : Nat) = i) (hv : lv[i]? = some (some (.ref x))) (kk : kx_G V K A nL Q n k (pc + 1) lv (.ref x :: st) ws) : kx_G V K A nL Q n k pc lv st ws := by
  obtain ⟨p, e, R, s, m, args, below, meth, c⟩ := K
  obtain ⟨hx, hb, hml, hown, hts, hK, hZ, hR, hA⟩ := hC
  intro H locs ls hP hD hS hl
  exact lv_aload_n hx hb hdg hi (hl.2.2.2 i _ hv).1 (kk H locs ls hP hD hS hl)
theorem kx_iload (hC : kx_Ok V K A own cc nL rm) {k0 : Fin 4} {i : Nat} {x : Int32} (hdg : decode cc pc = .ok (.iload_n k0, 1)) (hi : (k0 : Nat) = i) (hv : lv[i]? = some (some (.int x))) (kk : kx_G V K A nL Q n k (pc + 1) lv (.int x :: st) ws) : kx_G V K A nL Q n k pc lv st ws := by
  obtain ⟨p, e, R, s, m, args, below, meth, c⟩ := K
  obtain ⟨hx, hb, hml, hown, hts, hK, hZ, hR, hA⟩ := hC
  intro H locs ls hP hD hS hl
  exact lv_iload_n hx hb hdg hi (hl.2.2.2 i _ hv).1 (kk H locs ls hP hD hS hl)
theorem kx_iconst (hC : kx_Ok V K A own cc nL rm) {i : Int} {v : Int32} (hdg : decode cc pc = .ok (.iconst i, 1)) (hv : Int32.ofInt i = v) (kk : kx_G V K A nL Q n k (pc + 1) lv (.int v :: st) ws) : kx_G V K A nL Q n k pc lv st ws := by
  obtain ⟨p, e, R, s, m, args, below, meth, c⟩ := K
  obtain ⟨hx, hb, hml, hown, hts, hK, hZ, hR, hA⟩ := hC
  intro H locs ls hP hD hS hl
  exact lv_iconst hx hb hdg hv (kk H locs ls hP hD hS hl)
theorem kx_bipush (hC : kx_Ok V K A own cc nL rm) {i : Int} {v : Int32} (hdg : decode cc pc = .ok (.bipush i, 2)) (hv : (Int8.ofInt i).toInt32 = v) (kk : kx_G V K A nL Q n k (pc + 2) lv (.int v :: st) ws) : kx_G V K A nL Q n k pc lv st ws := by
  obtain ⟨p, e, R, s, m, args, below, meth, c⟩ := K
  obtain ⟨hx, hb, hml, hown, hts, hK, hZ, hR, hA⟩ := hC
  intro H locs ls hP hD hS hl
  exact lv_bipush hx hb hdg hv (kk H locs ls hP hD hS hl)
theorem kx_sipush (hC : kx_Ok V K A own cc nL rm) {i : Int} {v : Int32} (hdg : decode cc pc = .ok (.sipush i, 3)) (hv : (Int16.ofInt i).toInt32 = v) (kk : kx_G V K A nL Q n k (pc + 3) lv (.int v :: st) ws) : kx_G V K A nL Q n k pc lv st ws := by
  obtain ⟨p, e, R, s, m, args, below, meth, c⟩ := K
  obtain ⟨hx, hb, hml, hown, hts, hK, hZ, hR, hA⟩ := hC
  intro H locs ls hP hD hS hl
  exact lv_sipush hx hb hdg hv (kk H locs ls hP hD hS hl)
theorem kx_dup (hC : kx_Ok V K A own cc nL rm) {v : Value} (hdg : decode cc pc = .ok (.dup, 1)) (hv : v.category = 1) (kk : kx_G V K A nL Q n k (pc + 1) lv (v :: v :: st) ws) : kx_G V K A nL Q n k pc lv (v :: st) ws := by
  obtain ⟨p, e, R, s, m, args, below, meth, c⟩ := K
  obtain ⟨hx, hb, hml, hown, hts, hK, hZ, hR, hA⟩ := hC
  intro H locs ls hP hD hS hl
  exact lv_dup hx hb hdg hv (kk H locs ls hP hD hS hl)
theorem kx_goto (hC : kx_Ok V K A own cc nL rm) {off : Int} {tgt : Nat} (hdg : decode cc pc = .ok (.goto off, 3)) (ht : (pc : Int) + off = (tgt : Int)) (kk : kx_G V K A nL Q n k tgt lv st ws) : kx_G V K A nL Q n k pc lv st ws := by
  obtain ⟨p, e, R, s, m, args, below, meth, c⟩ := K
  obtain ⟨hx, hb, hml, hown, hts, hK, hZ, hR, hA⟩ := hC
  intro H locs ls hP hD hS hl
  exact lv_goto hx hb hdg ht (kk H locs ls hP hD hS hl)
theorem kx_ge (hC : kx_Ok V K A own cc nL rm) {x y : Int32} {off : Int} {tgt : Nat} (hdg : decode cc pc = .ok (.if_icmp .ge off, 3)) (ht : (pc : Int) + off = (tgt : Int)) (kt : y ≤ x → kx_G V K A nL Q n k tgt lv st ws) (kf : ¬ y ≤ x → kx_G V K A nL Q n k (pc + 3) lv st ws) : kx_G V K A nL Q n k pc lv (.int y :: .int x :: st) ws := by
  obtain ⟨p, e, R, s, m, args, below, meth, c⟩ := K
  obtain ⟨hx, hb, hml, hown, hts, hK, hZ, hR, hA⟩ := hC
  intro H locs ls hP hD hS hl
  exact lv_icmp_ge hx hb hdg ht (fun h => kt h H locs ls hP hD hS hl) (fun h => kf h H locs ls hP hD hS hl)
theorem kx_istore (hC : kx_Ok V K A own cc nL rm) {k0 : Fin 4} {i : Nat} {x : Int32} {lv' : List (Option Value)} (hdg : decode cc pc = .ok (.istore_n k0, 1)) (hi : (k0 : Nat) = i) (hn : i < nL) (hl' : lv.set i (some (.int x)) = lv') (kk : kx_G V K A nL Q n k (pc + 1) lv' st ws) : kx_G V K A nL Q n k pc lv (.int x :: st) ws := by
  obtain ⟨p, e, R, s, m, args, below, meth, c⟩ := K
  obtain ⟨hx, hb, hml, hown, hts, hK, hZ, hR, hA⟩ := hC
  intro H locs ls hP hD hS hl
  exact lv_istore_n hx hb hdg hi hl.has hn rfl (fun ls' h' => kk H locs ls' hP hD hS (hl' ▸ hl.set rfl h'))
theorem kx_astore (hC : kx_Ok V K A own cc nL rm) {k0 : Fin 4} {i x : Nat} {lv' : List (Option Value)} (hdg : decode cc pc = .ok (.astore_n k0, 1)) (hi : (k0 : Nat) = i) (hn : i < nL) (hl' : lv.set i (some (.ref x)) = lv') (kk : kx_G V K A nL Q n k (pc + 1) lv' st ws) : kx_G V K A nL Q n k pc lv (.ref x :: st) ws := by
  obtain ⟨p, e, R, s, m, args, below, meth, c⟩ := K
  obtain ⟨hx, hb, hml, hown, hts, hK, hZ, hR, hA⟩ := hC
  intro H locs ls hP hD hS hl
  exact lv_astore_n hx hb hdg hi hl.has hn rfl (fun ls' h' => kk H locs ls' hP hD hS (hl' ▸ hl.set rfl h'))
theorem kx_iinc (hC : kx_Ok V K A own cc nL rm) {i : Nat} {a : Int} {x v : Int32} {lv' : List (Option Value)} (hdg : decode cc pc = .ok (.iinc i a, 3)) (hv : lv[i]? = some (some (.int x))) (hn : i < nL) (he : x + Int32.ofInt a = v) (hl' : lv.set i (some (.int v)) = lv') (kk : kx_G V K A nL Q n k (pc + 3) lv' st ws) : kx_G V K A nL Q n k pc lv st ws := by
  obtain ⟨p, e, R, s, m, args, below, meth, c⟩ := K
  obtain ⟨hx, hb, hml, hown, hts, hK, hZ, hR, hA⟩ := hC
  intro H locs ls hP hD hS hl
  obtain ⟨j, hj⟩ := List.getElem?_of_mem (wd_as_in (q := (i, .int x)).mpr hv)
  exact lv_iinc hx hb hdg hl.has hj he hn rfl (fun ls' h' => kk H locs ls' hP hD hS (hl' ▸ hl.set rfl h'))
theorem kx_obj (hC : kx_Ok V K A own cc nL rm) {idx a : Nat} (hw : Cond.methodLink own idx Lib.objectInit ∈ wsL_law) (hw2 : Cond.instanceMethod Lib.objectInit ∈ wsL_law) (hw3 : Cond.code Lib.objectInit ⟨#[0xb1]⟩ 1 none ∈ wsL_law) (hdg : decode cc pc = .ok (.invokespecial idx, 3)) (hf : 1 ≤ rm.frames) (hlo : 12 ≤ rm.locals) (kk : kx_G V K A nL Q n k (pc + 3) lv [] ws) : kx_G V K A nL Q n k pc lv [.ref a] ws := by
  obtain ⟨p, e, R, s, m, args, below, meth, c⟩ := K
  obtain ⟨hx, hb, hml, hown, hts, hK, hZ, hR, hA⟩ := hC
  subst hR
  intro H locs ls hP hD hS hl
  exact W.objInit hx hb hown (hts _ hw) (hts _ hw2) (hts _ hw3) rfl (by rw [hml]; exact hl.1) rfl hdg hf hlo (W.eq (g2 := F0 m (pc + 3) ls []) rfl (kk H locs ls hP hD hS hl))
theorem kx_newi (hC : kx_Ok V K A own cc nL rm) {x : Int32} (N : Nat) (hx0 : x = nI N) (hN : N < 2 ^ 20) (hc : n + 1 ≤ rm.cells) (hs : k + N ≤ rm.slots) (hw : Cond.arrayClass .int ∈ wsL_law) (hdg : decode cc pc = .ok (.newarray .int, 2)) (kk : ∀ q, kx_G V K A nL Q (n + 1) (k + N) (pc + 2) lv (.ref q :: st) (ws ++ [(q, .inl (V.2.2 0, N, .inl (fun _ => 0)))])) : kx_G V K A nL Q n k pc lv (.int x :: st) ws := by
  obtain ⟨p, e, R, s, m, args, below, meth, c⟩ := K
  obtain ⟨hx, hb, hml, hown, hts, hK, hZ, hR, hA⟩ := hC
  subst hR
  intro H locs ls hP hD hS hl
  subst hx0
  refine va_newa (atype := .int) (a0 := (N, .inl (fun _ => 0))) (ty := .int) hx hb (hts _ hw) rfl hK hP hD hS hA (fun cA => rfl) (by rw [Int32.not_lt]; exact nI_pos' (by omega)) (pk_cl N rfl (by omega)) (by show N * 4 ≤ _; omega) hc hs hdg (fun q cA H1 hK1 hP1 hD1 hS1 => ?_)
  have e0 : cA = V.2.2 0 := ty_0 (i := 0) hK rfl (fun C h => nomatch h) hK1
  subst e0
  exact kk q H1 locs ls hP1 hD1 hS1 hl
theorem kx_newz (hC : kx_Ok V K A own cc nL rm) {x : Int32} (N : Nat) (hx0 : x = nI N) (hN : N < 2 ^ 20) (hc : n + 1 ≤ rm.cells) (hs : k + N ≤ rm.slots) (hw : Cond.arrayClass .boolean ∈ wsL_law) (hdg : decode cc pc = .ok (.newarray .boolean, 2)) (kk : ∀ q, kx_G V K A nL Q (n + 1) (k + N) (pc + 2) lv (.ref q :: st) (ws ++ [(q, .inl (V.2.2 1, N, .inl (fun _ => 0)))])) : kx_G V K A nL Q n k pc lv (.int x :: st) ws := by
  obtain ⟨p, e, R, s, m, args, below, meth, c⟩ := K
  obtain ⟨hx, hb, hml, hown, hts, hK, hZ, hR, hA⟩ := hC
  subst hR
  intro H locs ls hP hD hS hl
  subst hx0
  refine va_newa (atype := .boolean) (a0 := (N, .inl (fun _ => 0))) (ty := .boolean) hx hb (hts _ hw) rfl hK hP hD hS hA (fun cA => rfl) (by rw [Int32.not_lt]; exact nI_pos' (by omega)) (pk_cl N rfl (by omega)) (by show N * 1 ≤ _; omega) hc hs hdg (fun q cA H1 hK1 hP1 hD1 hS1 => ?_)
  have e0 : cA = V.2.2 1 := ty_0 (i := 1) hK rfl (fun C h => nomatch h) hK1
  subst e0
  exact kk q H1 locs ls hP1 hD1 hS1 hl
theorem kx_newq (hC : kx_Ok V K A own cc nL rm) {x : Int32} (N : Nat) (hx0 : x = nI N) (hN : N < 2 ^ 20) {index : Nat} (hw : Cond.classLink own index RX1 ∈ wsL_law) (hc : n + 1 ≤ rm.cells) (hs : k + N ≤ rm.slots) (hdg : decode cc pc = .ok (.anewarray index, 3)) (kk : ∀ q, kx_G V K A nL Q (n + 1) (k + N) (pc + 3) lv (.ref q :: st) (ws ++ [(q, .inl (V.2.2 2, N, .inr (.inr (.inr (.inr (fun _ => none))))))])) : kx_G V K A nL Q n k pc lv (.int x :: st) ws := by
  obtain ⟨p, e, R, s, m, args, below, meth, c⟩ := K
  obtain ⟨hx, hb, hml, hown, hts, hK, hZ, hR, hA⟩ := hC
  subst hR
  intro H locs ls hP hD hS hl
  subst hx0
  refine va_newq hx hb hown (hts _ hw) hZ.1 hK hP hD hS hA (by rw [Int32.not_lt]; exact nI_pos' (by omega)) (pk_cl N rfl (by omega)) (by omega) hc hs hdg (fun q cA H1 hK1 hP1 hD1 hS1 => ?_)
  have e0 : cA = V.2.2 2 := by
    obtain ⟨_, _, _, _, _, e1⟩ := (hK.2 2 _ rfl).2
    obtain ⟨_, _, _, _, _, e2⟩ := (hK1.2 (wd_tys V.2.2).length (cA, .object RX1) (by simp)).2
    exact Option.some.inj (e2.symm.trans e1)
  subst e0
  exact kk q H1 locs ls hP1 hD1 hS1 hl
theorem kx_putF (hC : kx_Ok V K A own cc nL rm) (hI : kx_In K) {ci : Nat} {T : u_T} {N : Nat} (hcl : vwCl[ci]? = some (own, T, N)) (hin : ∀ w ∈ u_ws own T N, w ∈ wsL_law) (ty0 : Nat → FieldType) (hty : ∀ k, k < N → parseFieldDescriptor (T k).2.2.1 = some (ty0 k)) (hnm : ∀ a, a < N → ∀ b, b < N → a ≠ b → (T a).2.1 ≠ (T b).2.1) {fs : List Value} {a : Nat} {t : va_W} (j : Nat) (hj : j < N) {index : Nat} (hlink : Cond.fieldLink own index own (T j).2.1 (T j).2.2.1 ∈ wsL_law) (hdecl : (T j).1 = own) {v : Value} (hnr : narrow (ty0 j) v = v) (hft : fits (ty0 j) v = true) (hl : j < fs.length) (hdg : decode cc pc = .ok (.putfield index, 3)) (kk : kx_G V K A nL Q n k (pc + 3) lv st ((a, .inr (ci, fs.set j v)) :: t)) : kx_G V K A nL Q n k pc lv (v :: .ref a :: st) ((a, .inr (ci, fs)) :: t) := by
  obtain ⟨p, e, R, s, m, args, below, meth, c⟩ := K
  obtain ⟨hx, hb, hml, hown, hts, hK, hZ, hR, hA⟩ := hC
  subst hR
  intro H locs ls hP hD hS hL
  by_cases hfin : (T j).2.2.2 = true
  · exact va_putF (ref := own) hx hb hts hin ty0 hty hnm hown hK hP hD hS 0 rfl hcl j hj (hts _ hlink) (fun x h => by rw [← hdecl]; exact h) hfin hI hdecl (hty j hj) hnr hft hl hdg (fun H1 locs1 hP1 hD1 hS1 => kk H1 locs1 ls hP1 hD1 hS1 hL)
  · exact va_put (ref := own) hx hb hts hin ty0 hty hnm hown hK hP hD hS 0 rfl hcl j hj (hts _ hlink) (fun x h => by rw [← hdecl]; exact h) (by simpa using hfin) (hty j hj) hnr hft hl hdg (fun H1 locs1 hP1 hD1 hS1 => kk H1 locs1 ls hP1 hD1 hS1 hL)
theorem kx_get (hC : kx_Ok V K A own cc nL rm) {ci : Nat} {T : u_T} {N : Nat} (hcl : vwCl[ci]? = some (own, T, N)) (hin : ∀ w ∈ u_ws own T N, w ∈ wsL_law) {fs : List Value} {a : Nat} {t : va_W} (j : Nat) (hj : j < N) {index : Nat} (hlink : Cond.fieldLink own index own (T j).2.1 (T j).2.2.1 ∈ wsL_law) (hdecl : (T j).1 = own) {v : Value} (hv : fs[j]? = some v) (hdg : decode cc pc = .ok (.getfield index, 3)) (kk : kx_G V K A nL Q n k (pc + 3) lv (v :: st) ((a, .inr (ci, fs)) :: t)) : kx_G V K A nL Q n k pc lv (.ref a :: st) ((a, .inr (ci, fs)) :: t) := by
  obtain ⟨p, e, R, s, m, args, below, meth, c⟩ := K
  obtain ⟨hx, hb, hml, hown, hts, hK, hZ, hR, hA⟩ := hC
  intro H locs ls hP hD hS hL
  exact va_get (ref := own) hx hb hts hin hown hK hP 0 rfl hcl j hj (hts _ hlink) (fun x h => by rw [← hdecl]; exact h) hv hdg (kk H locs ls hP hD hS hL)
theorem kx_new (hC : kx_Ok V K A own cc nL rm) {C : String} {T : u_T} {N ci index : Nat} (hcl : vwCl[ci]? = some (C, T, N)) (hin : ∀ w ∈ u_ws C T N, w ∈ wsL_law) (ty : Nat → FieldType) (hty : ∀ k, k < N → parseFieldDescriptor (T k).2.2.1 = some (ty k)) (hw : Cond.classLink own index C ∈ wsL_law) (hw2 : Cond.instantiable C N ∈ wsL_law) (hw3 : Cond.initialized C ∈ wsL_law) {fs : List Value} (hfs : ∀ j, j < N → defaultValue (ty j) = vp_V fs j) (hc : n + 1 ≤ rm.cells) (hs : k + N ≤ rm.slots) (hdg : decode cc pc = .ok (.new index, 3)) (kk : ∀ q, kx_G V K A nL Q (n + 1) (k + N) (pc + 3) lv (.ref q :: st) (ws ++ [(q, .inr (ci, fs))])) : kx_G V K A nL Q n k pc lv st ws := by
  obtain ⟨p, e, R, s, m, args, below, meth, c⟩ := K
  obtain ⟨hx, hb, hml, hown, hts, hK, hZ, hR, hA⟩ := hC
  subst hR
  intro H locs ls hP hD hS hL
  exact va_new hx hb hts hin ty hty hown (hts _ hw) (hts _ hw2) (hts _ hw3) hK hP hD hS hA hcl hfs hc hs hdg (fun q H1 hP1 hD1 hS1 => kk q H1 locs ls hP1 hD1 hS1 hL)
theorem kx_after {sd : wd_Side} {e0 : va_E} {σz : wd_S} {q : Nat} {w0 : va_W} {r : Nat → Nat} {H H1 : Heap} (hP : va_P V.2.1 vwCl (w0 ++ [(q, e0)]) H) (hD : va_D A (w0 ++ [(q, e0)])) (hk1 : ∀ x : Nat, x < H.size → ¬ mkA q H.size x → H1[x]? = H[x]?) (hinj : wd_inj sd r) (hr : ∀ k, k < sd.1 → mkA q H.size (r k)) (hA : ∀ x, mkA q H.size x → A x) (hP1 : va_P V.2.1 vwCl (wd_cells sd r V.2.2 σz) H1) : va_P V.2.1 vwCl (w0 ++ wd_cells sd r V.2.2 σz) H1 ∧ va_D A (w0 ++ wd_cells sd r V.2.2 σz) := by
  have hlt : ∀ x ∈ w0, x.1 < H.size ∧ x.1 ≠ q := fun x hx => ⟨(va_P_m hP (List.mem_append_left _ hx)).lt, va_D_sep hD hx (y := (q, e0)) List.mem_cons_self⟩
  refine ⟨va_P_of (fun x hx => ?_), va_D_app (va_D_l hD) ⟨fun i j a b ha hb e => ?_, fun k x hx => ?_⟩ (fun x hx y hy e => ?_)⟩
  · rcases List.mem_append.mp hx with h | h
    · have := hlt x h
      exact (va_P_m hP (List.mem_append_left _ h)).kept (hk1 x.1 this.1 (fun z => z.elim this.2 (by omega)))
    · exact va_P_m hP1 h
  · obtain ⟨h1, rfl⟩ := wd_at' ha
    obtain ⟨h2, rfl⟩ := wd_at' hb
    exact hinj i j h1 h2 e
  · obtain ⟨h1, rfl⟩ := wd_at' hx
    exact hA _ (hr k h1)
  · obtain ⟨k, hk, rfl⟩ := wd_in hy
    have h1 := hlt x hx
    have h2 := hr k hk
    rw [← show x.1 = r k from e] at h2
    exact h2.elim h1.2 (by omega)
theorem kx_ctorN (hC : kx_Ok V K A own cc nL rm) {y : MethodName} {bytes : ByteArray} {maxL index mc ms : Nat} {host : String} {sd : wd_Side} {e0 : va_E} {σz : wd_S} {rmc : Room} {q : Nat} {w0 : va_W} (hM : ctC V y bytes maxL sd e0 σz rmc mc ms) (hnl : ∀ s : State, cZ s → va_Nw (.methodLinkNest own index y host) s) (hw1 : Cond.instanceMethod y ∈ wsL_law) (hw2 : Cond.initialized y.cls ∈ wsL_law) (hw3 : Cond.code y bytes maxL none ∈ wsL_law) (hd : y.name = "<init>" ∧ y.cls ≠ "java/lang/invoke/MethodHandle" ∧ y.cls ≠ "java/lang/invoke/VarHandle" ∧ (parseMethodDescriptor y.desc).map (fun d => d.parameters.length) = some 0) (hrc : rmc.cells = mc) (hrs : rmc.slots = ms) (hR : rmc.frames + 1 ≤ rm.frames ∧ 8 + (maxL + 11) + rmc.locals ≤ rm.locals) (hc : n + mc ≤ rm.cells) (hs : k + ms ≤ rm.slots) (hsum : (st.map fun v => v.category).sum ≤ 8) (hdg : decode cc pc = .ok (.invokespecial index, 3)) (kk : ∀ r : Nat → Nat, r 0 = q → kx_G V K A nL Q (n + mc) (k + ms) (pc + 3) lv st (w0 ++ wd_cells sd r V.2.2 σz)) : kx_G V K A nL Q n k pc lv (.ref q :: st) (w0 ++ [(q, e0)]) := by
  obtain ⟨p, e, R, s, m, args, below, meth, c⟩ := K
  obtain ⟨hx, hb, hml, hown, hts, hK, hZ, hR0, hA⟩ := hC
  subst hR0
  intro H locs ls hP hD hS hL
  have hPq : va_P V.2.1 vwCl [(q, e0)] H := va_P_of (fun x hx => va_P_m hP (List.mem_append_right _ hx))
  have hAq : A q := va_D_m hD (x := (q, e0)) (List.mem_append_right _ List.mem_cons_self)
  have hAm : ∀ x, mkA q H.size x → A x := fun x h => h.elim (fun h => h ▸ hAq) (fun h => hA x (Nat.le_trans hS.1 h))
  refine va_callv (va_runIN (As := []) (rest := st) ⟨hx, hb, hml, hown, hts⟩ (hM q H.size) ⟨va_cnB 0 hts (wd_good (fun _ h => h) (fun w hw => by
    rcases List.mem_cons.mp hw with rfl | hw
    · exact hw3
    · exact hw)) rfl hrc hrs (hnl s hZ) (hts _ hw2) hd.2 hR, hd.1, hts _ hw1⟩ ⟨fun a U g mk z => by
      obtain ⟨z0, z1, zP, zK, zZ⟩ := z
      exact ⟨z0, z1, zP, va_K.moved (u := U) (U := U.calling g mk a) (Vm.Alike.refl U.vm) zK, cZ_same rfl zZ⟩, fun U hU hW => ⟨rfl, by rw [hU], by rw [hU]; exact hPq, va_K.moved hW.alike hK, cZ_warm hW hZ⟩⟩ rfl rfl hL.1 rfl (lv_room hsum) hdg ⟨hc, hs⟩) hS (fun x _ h => hAm x h) hAm (fun r t H1 locs1 ht hvm _ hB hz1 hk1 hS1 => ?_)
  obtain ⟨b1, b2, b3, b4⟩ := hB
  rw [ht] at b4
  obtain ⟨c1, c2⟩ := kx_after hP hD hk1 b2 b3 hAm b4
  exact kk r b1 H1 locs1 ls c1 c2 hS1 hL
theorem kx_ctor (hC : kx_Ok V K A own cc nL rm) {y : MethodName} {bytes : ByteArray} {maxL index mc ms : Nat} {sd : wd_Side} {e0 : va_E} {σz : wd_S} {rmc : Room} {q : Nat} {w0 : va_W} (hM : ctC V y bytes maxL sd e0 σz rmc mc ms) (hw0 : Cond.methodLink own index y ∈ wsL_law) (hw1 : Cond.instanceMethod y ∈ wsL_law) (hw2 : Cond.initialized y.cls ∈ wsL_law) (hw3 : Cond.code y bytes maxL none ∈ wsL_law) (hd : y.name = "<init>" ∧ y.cls ≠ "java/lang/invoke/MethodHandle" ∧ y.cls ≠ "java/lang/invoke/VarHandle" ∧ (parseMethodDescriptor y.desc).map (fun d => d.parameters.length) = some 0) (hrc : rmc.cells = mc) (hrs : rmc.slots = ms) (hR : rmc.frames + 1 ≤ rm.frames ∧ 8 + (maxL + 11) + rmc.locals ≤ rm.locals) (hc : n + mc ≤ rm.cells) (hs : k + ms ≤ rm.slots) (hsum : (st.map fun v => v.category).sum ≤ 8) (hdg : decode cc pc = .ok (.invokespecial index, 3)) (kk : ∀ r : Nat → Nat, r 0 = q → kx_G V K A nL Q (n + mc) (k + ms) (pc + 3) lv st (w0 ++ wd_cells sd r V.2.2 σz)) : kx_G V K A nL Q n k pc lv (.ref q :: st) (w0 ++ [(q, e0)]) := by
  obtain ⟨p, e, R, s, m, args, below, meth, c⟩ := K
  obtain ⟨hx, hb, hml, hown, hts, hK, hZ, hR0, hA⟩ := hC
  subst hR0
  intro H locs ls hP hD hS hL
  have hPq : va_P V.2.1 vwCl [(q, e0)] H := va_P_of (fun x hx => va_P_m hP (List.mem_append_right _ hx))
  have hAq : A q := va_D_m hD (x := (q, e0)) (List.mem_append_right _ List.mem_cons_self)
  have hAm : ∀ x, mkA q H.size x → A x := fun x h => h.elim (fun h => h ▸ hAq) (fun h => hA x (Nat.le_trans hS.1 h))
  refine va_callv (va_runI (As := []) (rest := st) ⟨hx, hb, hml, hown, hts⟩ (hM q H.size) (cwI 0 hts (wd_good (fun _ h => h) (fun w hw => by
    rcases List.mem_cons.mp hw with rfl | hw
    · exact hw3
    · exact hw)) rfl hrc hrs (hts _ hw2) (hts _ hw0) (hts _ hw1) hd.1 hd.2 hR) ⟨fun a U g mk z => by
      obtain ⟨z0, z1, zP, zK, zZ⟩ := z
      exact ⟨z0, z1, zP, va_K.moved (u := U) (U := U.calling g mk a) (Vm.Alike.refl U.vm) zK, cZ_same rfl zZ⟩, fun U hU hW => ⟨rfl, by rw [hU], by rw [hU]; exact hPq, va_K.moved hW.alike hK, cZ_warm hW hZ⟩⟩ rfl rfl hL.1 rfl (lv_room hsum) hdg ⟨hc, hs⟩) hS (fun x _ h => hAm x h) hAm (fun r t H1 locs1 ht hvm _ hB hz1 hk1 hS1 => ?_)
  obtain ⟨b1, b2, b3, b4⟩ := hB
  rw [ht] at b4
  obtain ⟨c1, c2⟩ := kx_after hP hD hk1 b2 b3 hAm b4
  exact kk r b1 H1 locs1 ls c1 c2 hS1 hL
end KX

/-! ===== the one-sided world: cells whose contents are rows of ints; a context; the walk ===== -/
abbrev wd_S : Type := (Nat → Nat → Int32) × Int64 × Nat
abbrev wd_Side : Type := Nat × ((Nat → Nat) → (Nat → ClassId) → Int64 × Nat → Nat → (Nat → Int32) → va_E)
def wd_cells (sd : wd_Side) (ad : Nat → Nat) (cy : Nat → ClassId) (σ : wd_S) : va_W := (List.range sd.1).map (fun k => (ad k, sd.2 ad cy σ.2 k (σ.1 k)))
theorem wd_at {sd : wd_Side} {ad : Nat → Nat} {cy : Nat → ClassId} {σ : wd_S} {k : Nat} (h : k < sd.1) : (wd_cells sd ad cy σ)[k]? = some (ad k, sd.2 ad cy σ.2 k (σ.1 k)) := by
  simp [wd_cells, h]
theorem wd_at' {sd : wd_Side} {ad : Nat → Nat} {cy : Nat → ClassId} {σ : wd_S} {k : Nat} {q : Nat × va_E} (h : (wd_cells sd ad cy σ)[k]? = some q) : k < sd.1 ∧ q = (ad k, sd.2 ad cy σ.2 k (σ.1 k)) := by
  have hk : k < sd.1 := by
    have := (List.getElem?_eq_some_iff.mp h).1
    simpa [wd_cells] using this
  rw [wd_at hk] at h
  exact ⟨hk, (Option.some.inj h).symm⟩
theorem wd_set {sd : wd_Side} {ad : Nat → Nat} {cy : Nat → ClassId} {σ σ' : wd_S} {k : Nat} {e : va_E} (he : sd.2 ad cy σ'.2 k (σ'.1 k) = e) (ho : ∀ j, j < sd.1 → j ≠ k → sd.2 ad cy σ'.2 j (σ'.1 j) = sd.2 ad cy σ.2 j (σ.1 j)) : (wd_cells sd ad cy σ).set k (ad k, e) = wd_cells sd ad cy σ' := by
  apply List.ext_getElem?
  intro i
  rw [List.getElem?_set]
  by_cases hi : i < sd.1
  · by_cases hk : k = i
    · subst hk
      rw [if_pos rfl, wd_at hi, he]
      simp [wd_cells, hi]
    · rw [if_neg hk, wd_at hi, wd_at hi, ho i hi (fun h => hk h.symm)]
  · have h1 : ∀ τ : wd_S, (wd_cells sd ad cy τ)[i]? = none := fun τ => by simp [wd_cells]; omega
    by_cases hk : k = i
    · subst hk
      rw [if_pos rfl, h1]
      simp [wd_cells, hi]
    · rw [if_neg hk, h1, h1]
/-- one number changed -/
def wd_up (σ : wd_S) (k i : Nat) (v : Int32) : wd_S := (fun a b => if a = k ∧ b = i then v else σ.1 a b, σ.2)
theorem wd_up_k (σ : wd_S) (k i : Nat) (v : Int32) : (wd_up σ k i v).1 k = upd (σ.1 k) i v := by
  funext b
  simp [wd_up, upd]
theorem wd_up_n (σ : wd_S) (k i : Nat) (v : Int32) {j : Nat} (h : j ≠ k) : (wd_up σ k i v).1 j = σ.1 j := by
  funext b
  simp [wd_up, h]
/-- the first n numbers of cell k0 laid over those of cell k1 -/
def wd_cp (σ : wd_S) (k0 k1 n : Nat) : wd_S := (fun a b => if a = k1 ∧ b < n then σ.1 k0 b else σ.1 a b, σ.2)
theorem wd_cp_k (σ : wd_S) (k0 k1 n : Nat) : (wd_cp σ k0 k1 n).1 k1 = va_cpy (σ.1 k0) (σ.1 k1) 0 0 n := by
  funext b
  simp [wd_cp, va_cpy]
theorem wd_cp_n (σ : wd_S) (k0 k1 n : Nat) {j : Nat} (h : j ≠ k1) : (wd_cp σ k0 k1 n).1 j = σ.1 j := by
  funext b
  simp [wd_cp, h]
def wd_A (sd : wd_Side) (ad : Nat → Nat) (sz : Nat) : Nat → Prop := fun q => (∃ k, k < sd.1 ∧ q = ad k) ∨ sz ≤ q
def wd_inj (sd : wd_Side) (ad : Nat → Nat) : Prop := ∀ i j, i < sd.1 → j < sd.1 → ad i = ad j → i = j
theorem wd_D {sd : wd_Side} {ad : Nat → Nat} (h : wd_inj sd ad) (cy : Nat → ClassId) (σ : wd_S) (sz : Nat) : va_D (wd_A sd ad sz) (wd_cells sd ad cy σ) := by
  refine ⟨fun i j p q hp hq e => ?_, fun k q hq => ?_⟩
  · obtain ⟨h1, rfl⟩ := wd_at' hp
    obtain ⟨h2, rfl⟩ := wd_at' hq
    exact h i j h1 h2 e
  · obtain ⟨h1, rfl⟩ := wd_at' hq
    exact Or.inl ⟨k, h1, rfl⟩
abbrev wd_V : Type := Launch × va_G × (Nat → ClassId)
abbrev wd_K : Type := Program × Env × Room × State × MethodId × Array Value × List Frame × Method × Code
abbrev wd_tys (cy : Nat → ClassId) : List (ClassId × FieldType) := [(cy 0, .int), (cy 1, .boolean), (cy 2, .object "FacingFields$Moment"), (cy 3, .array .int)]
def wd_rm (d : Nat) : Room := { frames := d, cells := 0, slots := 0, locals := 48 * d }
/-- the locals: by their places, where they are known -/
def wd_L (ls : Array Slot) (nL : Nat) (lv : List (Option Value)) : Prop := ls.size = nL ∧ lv_wf ls ∧ lv.length = nL ∧ ∀ (i : Nat) (v : Value), lv[i]? = some (some v) → ls[i]? = some (.val v) ∧ v.category = 1
def wd_as (lv : List (Option Value)) : List (Nat × Value) := (List.range lv.length).filterMap (fun i => match lv[i]? with | some (some v) => some (i, v) | _ => none)
theorem wd_as_in {lv : List (Option Value)} {q : Nat × Value} : q ∈ wd_as lv ↔ lv[q.1]? = some (some q.2) := by
  constructor
  · intro h
    obtain ⟨i, h1, h2⟩ := List.mem_filterMap.mp h
    split at h2
    · rename_i v hv
      cases h2
      exact hv
    · cases h2
  · intro h
    refine List.mem_filterMap.mpr ⟨q.1, ?_, ?_⟩
    · have := (List.getElem?_eq_some_iff.mp h).1
      exact List.mem_range.mpr this
    · rw [h]
theorem wd_L.has {ls : Array Slot} {nL : Nat} {lv : List (Option Value)} (h : wd_L ls nL lv) : lv_has ls nL (wd_as lv) := ⟨h.1, h.2.1, fun q hq => (h.2.2.2 q.1 q.2 (wd_as_in.mp hq)).1⟩
theorem wd_L.set {ls ls' : Array Slot} {nL i : Nat} {lv : List (Option Value)} {v : Value} (h : wd_L ls nL lv) (hc : v.category = 1) (h' : lv_has ls' nL ((i, v) :: (wd_as lv).filter (fun q => !(q.1 == i) && !(q.1 + 1 == i && q.2.category == 2)))) : wd_L ls' nL (lv.set i (some v)) := by
  refine ⟨h'.1, h'.2.1, by rw [List.length_set]; exact h.2.2.1, fun j w hw => ?_⟩
  rw [List.getElem?_set] at hw
  by_cases hj : i = j
  · subst hj
    rw [if_pos rfl] at hw
    split at hw
    · cases hw
      exact ⟨h'.2.2 _ List.mem_cons_self, hc⟩
    · cases hw
  · rw [if_neg hj] at hw
    have hcw := (h.2.2.2 j w hw).2
    refine ⟨h'.2.2 (j, w) (List.mem_cons_of_mem _ (List.mem_filter.mpr ⟨wd_as_in.mpr hw, ?_⟩)), hcw⟩
    simp [hcw]
    exact fun e => hj e.symm
def wd_Pre (sd : wd_Side) (V : wd_V) (ad : Nat → Nat) (σ : wd_S) (args : List Value) (sz : Nat) : Array Value → State → Prop := va_Pc args (fun U => U.heap.size = sz ∧ va_P V.2.1 vwCl (wd_cells sd ad V.2.2 σ) U.heap ∧ va_K V.2.1 vwCl (wd_tys V.2.2) U)
abbrev wd_P : Type := Option Value → wd_S → Prop
/-- just this answer, just this world -/
def wd_eq (v : Option Value) (σ : wd_S) : wd_P := fun a b => a = v ∧ b = σ
/-- an int, or nothing, and a world of a kind -/
def wd_pi (p : Int32 → wd_S → Prop) : wd_P := fun a b => ∃ r, a = some (.int r) ∧ p r b
def wd_pv (p : wd_S → Prop) : wd_P := fun a b => a = none ∧ p b
def wd_Qc (sd : wd_Side) (V : wd_V) (ad : Nat → Nat) (P : wd_P) (sz : Nat) : Array Value → State → Outcome → State → Prop := fun _ st oc t => (∃ (v : Option Value) (σ' : wd_S), oc = .returned v ∧ P v σ' ∧ va_P V.2.1 vwCl (wd_cells sd ad V.2.2 σ') t.heap) ∧ va_F (wd_A sd ad sz) st t
/-- a method's contract: from the world σ it comes back with an answer and a world of P -/
def wd_C (sd : wd_Side) (V : wd_V) (ad : Nat → Nat) (d : Nat) (y : MethodName) (ws : List Cond) (σ : wd_S) (args : List Value) (P : wd_P) : Prop := ∀ sz : Nat, Met V.1 y ws (wd_rm d) (wd_Pre sd V ad σ args sz) (wd_Qc sd V ad P sz) 0 0 (wd_A sd ad sz)
def wd_Qm (sd : wd_Side) (V : wd_V) (ad : Nat → Nat) (K : wd_K) (P : wd_P) : State → Prop := match K with
  | (_, _, _, s, _, args, below, _, _) => MQ below (wd_Qc sd V ad P s.heap.size) args s 0 0 (wd_A sd ad s.heap.size)
/-- what stays as it is in a method's body -/
def wd_Ok (sd : wd_Side) (V : wd_V) (ad : Nat → Nat) (K : wd_K) (own : String) (cc : ByteArray) (nL d : Nat) (ret : Option FieldType) : Prop := match K with
  | (p, _, R, s, m, args, _, meth, c) => p.tables.exec = Jvm.exec ∧ c.code = cc ∧ c.maxLocals = nL ∧ s.vm.findClass own = some m.cls ∧ (∀ w ∈ wsL_law, w.before args s = true) ∧ va_K V.2.1 vwCl (wd_tys V.2.2) s ∧ meth.locks = false ∧ meth.sig.returnType = ret ∧ R = wd_rm d ∧ wd_inj sd ad
/-- the walk: from here, with the world σ, the machine comes to Q -/
def wd_G (sd : wd_Side) (V : wd_V) (ad : Nat → Nat) (K : wd_K) (nL : Nat) (Q : State → Prop) (pc : Nat) (lv : List (Option Value)) (st : List Value) (σ : wd_S) : Prop := match K with
  | (p, e, R, s, m, args, below, meth, c) => ∀ (H : Heap) (locs : List Loc) (ls : Array Slot), va_P V.2.1 vwCl (wd_cells sd ad V.2.2 σ) H → va_S (wd_A sd ad s.heap.size) s.heap H locs → wd_L ls nL lv → W p V.1 e R s m args below meth c H locs 0 0 Q (F0 m pc ls st)
theorem wd_blind {sd : wd_Side} {V : wd_V} {ad : Nat → Nat} {σ : wd_S} {args : List Value} {sz : Nat} : FrameBlind (wd_Pre sd V ad σ args sz) := fun a U g mk q => by
  obtain ⟨q0, q1, qP, qK⟩ := q
  exact ⟨q0, q1, qP, va_K.moved (u := U) (U := U.calling g mk a) (Vm.Alike.refl U.vm) qK⟩
theorem wd_args : ∀ (args : List Value) (i : Nat), (∀ v ∈ args, v.category = 1) → ∀ (j : Nat) (v : Value), args[j]? = some v → (i + j, v) ∈ lv_args i args
  | [], i, _, j, v, h => by simp at h
  | a :: as, i, hc, 0, v, h => by
    simp at h
    subst h
    simp [lv_args]
  | a :: as, i, hc, j + 1, v, h => by
    have ha : a.category = 1 := hc a List.mem_cons_self
    have h1 := wd_args as (i + 1) (fun w hw => hc w (List.mem_cons_of_mem _ hw)) j v (by simpa using h)
    simp only [lv_args, ha]
    refine List.mem_cons_of_mem _ ?_
    rw [show i + (j + 1) = i + 1 + j by omega]
    simpa using h1
theorem wd_intro {sd : wd_Side} {V : wd_V} {ad : Nat → Nat} {d : Nat} {y : MethodName} {σ : wd_S} {args : List Value} {P : wd_P} {cc : ByteArray} {nL : Nat} {ret : Option FieldType} {lv : List (Option Value)} (hinj : wd_inj sd ad) (hy : plainName y.cls = true) (hc : args.all (fun v => v.category == 1) = true) (hn : (lg_sl args).length ≤ nL) (hlv : lv = args.map some ++ List.replicate (nL - args.length) none) (hln : args.length ≤ nL)
    (body : ∀ K : wd_K, wd_Ok sd V ad K y.cls cc nL d ret → wd_G sd V ad K nL (wd_Qm sd V ad K P) 0 lv [] σ) : wd_C sd V ad d y (Cond.code y cc nL ret :: wsL_law) σ args P := by
  intro sz
  refine Met.ofW (cc := cc) (maxL := nL) (ret := ret) hy rfl ?_
  intro p e s m args0 below meth c s₁ B hml hv
  obtain ⟨rfl, hsz, hP, hK⟩ := hv
  subst hsz
  have hts := atoms_spec (ws := Cond.code y cc nL ret :: wsL_law) B.pre
  have hown : s.vm.findClass y.cls = some m.cls := findClass_of_methodNamed B.named
  have hC : wd_Ok sd V ad (p, e, wd_rm d, s, m, args.toArray, below, meth, c) y.cls cc nL d ret := ⟨B.exec, B.bytes, hml, hown, fun w hw => hts w (List.mem_cons_of_mem _ hw), hK, B.notSynchronized, B.returns, rfl, hinj⟩
  have hl := lv_entry args (n := nL) hn
  rw [lg_entry_eq]
  refine body _ hC s.heap [] _ hP va_S.rf ?_
  have hc' : ∀ v ∈ args, v.category = 1 := fun v hv => by simpa using List.all_eq_true.mp hc v hv
  refine ⟨hl.1, hl.2.1, by rw [hlv]; simp; omega, fun i w hw => ?_⟩
  rw [hlv] at hw
  by_cases hi : i < args.length
  · rw [List.getElem?_append_left (by simpa using hi), List.getElem?_map] at hw
    cases ha : args[i]? with
    | none => rw [ha] at hw; cases hw
    | some a =>
      rw [ha] at hw
      have hw' : a = w := by simpa using hw
      subst hw'
      refine ⟨?_, hc' a (List.mem_of_getElem? ha)⟩
      have := hl.2.2 _ (wd_args args 0 hc' i a ha)
      simpa using this
  · rw [List.getElem?_append_right (by simp; omega)] at hw
    have := List.mem_of_getElem? hw
    rw [List.mem_replicate] at this
    cases this.2
section WD
variable {sd : wd_Side} {V : wd_V} {ad : Nat → Nat} {K : wd_K} {own : String} {cc : ByteArray} {nL d : Nat} {ret : Option FieldType} {Q : State → Prop} {pc : Nat} {lv : List (Option Value)} {st : List Value} {σ : wd_S}
theorem wd_pc {pc' : Nat} (h : pc = pc') (k : wd_G sd V ad K nL Q pc' lv st σ) : wd_G sd V ad K nL Q pc lv st σ := h ▸ k

theorem wd_iconst (hC : wd_Ok sd V ad K own cc nL d ret) {n : Int} {v : Int32} (hdg : decode cc pc = .ok (.iconst n, 1)) (hv : Int32.ofInt n = v) (k : wd_G sd V ad K nL Q (pc + 1) lv (.int v :: st) σ) : wd_G sd V ad K nL Q pc lv st σ := by
  obtain ⟨p, e, R, s, m, args, below, meth, c⟩ := K
  obtain ⟨hx, hb, hml, hown, hts, hK, hlk, hrt, hR, hinj⟩ := hC
  subst hR
  intro H locs ls hP hS hl
  exact lv_iconst hx hb hdg hv (k H locs ls hP hS hl)

theorem wd_bipush (hC : wd_Ok sd V ad K own cc nL d ret) {n : Int} {v : Int32} (hdg : decode cc pc = .ok (.bipush n, 2)) (hv : (Int8.ofInt n).toInt32 = v) (k : wd_G sd V ad K nL Q (pc + 2) lv (.int v :: st) σ) : wd_G sd V ad K nL Q pc lv st σ := by
  obtain ⟨p, e, R, s, m, args, below, meth, c⟩ := K
  obtain ⟨hx, hb, hml, hown, hts, hK, hlk, hrt, hR, hinj⟩ := hC
  subst hR
  intro H locs ls hP hS hl
  exact lv_bipush hx hb hdg hv (k H locs ls hP hS hl)

theorem wd_sipush (hC : wd_Ok sd V ad K own cc nL d ret) {n : Int} {v : Int32} (hdg : decode cc pc = .ok (.sipush n, 3)) (hv : (Int16.ofInt n).toInt32 = v) (k : wd_G sd V ad K nL Q (pc + 3) lv (.int v :: st) σ) : wd_G sd V ad K nL Q pc lv st σ := by
  obtain ⟨p, e, R, s, m, args, below, meth, c⟩ := K
  obtain ⟨hx, hb, hml, hown, hts, hK, hlk, hrt, hR, hinj⟩ := hC
  subst hR
  intro H locs ls hP hS hl
  exact lv_sipush hx hb hdg hv (k H locs ls hP hS hl)

theorem wd_lconst (hC : wd_Ok sd V ad K own cc nL d ret) {n : Fin 2} {v : Int64} (hdg : decode cc pc = .ok (.lconst n, 1)) (hv : Int64.ofNat (n : Nat) = v) (k : wd_G sd V ad K nL Q (pc + 1) lv (.long v :: st) σ) : wd_G sd V ad K nL Q pc lv st σ := by
  obtain ⟨p, e, R, s, m, args, below, meth, c⟩ := K
  obtain ⟨hx, hb, hml, hown, hts, hK, hlk, hrt, hR, hinj⟩ := hC
  subst hR
  intro H locs ls hP hS hl
  exact lv_lconst hx hb hdg hv (k H locs ls hP hS hl)

theorem wd_ldc (hC : wd_Ok sd V ad K own cc nL d ret) {index : Nat} {v : Int32} (hdg : decode cc pc = .ok (.ldc index, 2)) (hw : Cond.constant own index v ∈ wsL_law) (k : wd_G sd V ad K nL Q (pc + 2) lv (.int v :: st) σ) : wd_G sd V ad K nL Q pc lv st σ := by
  obtain ⟨p, e, R, s, m, args, below, meth, c⟩ := K
  obtain ⟨hx, hb, hml, hown, hts, hK, hlk, hrt, hR, hinj⟩ := hC
  subst hR
  intro H locs ls hP hS hl
  exact lv_ldc hx hb hown (hts _ hw) hdg (k H locs ls hP hS hl)

theorem wd_ldc2 (hC : wd_Ok sd V ad K own cc nL d ret) {index : Nat} {v : Int64} (hdg : decode cc pc = .ok (.ldc2_w index, 3)) (hw : Cond.constantLong own index v ∈ wsL_law) (k : wd_G sd V ad K nL Q (pc + 3) lv (.long v :: st) σ) : wd_G sd V ad K nL Q pc lv st σ := by
  obtain ⟨p, e, R, s, m, args, below, meth, c⟩ := K
  obtain ⟨hx, hb, hml, hown, hts, hK, hlk, hrt, hR, hinj⟩ := hC
  subst hR
  intro H locs ls hP hS hl
  exact lv_ldc2 hx hb hown (hts _ hw) hdg (k H locs ls hP hS hl)

theorem wd_iadd (hC : wd_Ok sd V ad K own cc nL d ret) {x y : Int32} (hdg : decode cc pc = .ok (.iadd, 1))  (k : wd_G sd V ad K nL Q (pc + 1) lv (.int (x + y) :: st) σ) : wd_G sd V ad K nL Q pc lv (.int y :: .int x :: st) σ := by
  obtain ⟨p, e, R, s, m, args, below, meth, c⟩ := K
  obtain ⟨hx, hb, hml, hown, hts, hK, hlk, hrt, hR, hinj⟩ := hC
  subst hR
  intro H locs ls hP hS hl
  exact lv_iadd hx hb hdg (k H locs ls hP hS hl)

theorem wd_isub (hC : wd_Ok sd V ad K own cc nL d ret) {x y : Int32} (hdg : decode cc pc = .ok (.isub, 1))  (k : wd_G sd V ad K nL Q (pc + 1) lv (.int (x - y) :: st) σ) : wd_G sd V ad K nL Q pc lv (.int y :: .int x :: st) σ := by
  obtain ⟨p, e, R, s, m, args, below, meth, c⟩ := K
  obtain ⟨hx, hb, hml, hown, hts, hK, hlk, hrt, hR, hinj⟩ := hC
  subst hR
  intro H locs ls hP hS hl
  exact lv_isub hx hb hdg (k H locs ls hP hS hl)

theorem wd_imul (hC : wd_Ok sd V ad K own cc nL d ret) {x y : Int32} (hdg : decode cc pc = .ok (.imul, 1))  (k : wd_G sd V ad K nL Q (pc + 1) lv (.int (x * y) :: st) σ) : wd_G sd V ad K nL Q pc lv (.int y :: .int x :: st) σ := by
  obtain ⟨p, e, R, s, m, args, below, meth, c⟩ := K
  obtain ⟨hx, hb, hml, hown, hts, hK, hlk, hrt, hR, hinj⟩ := hC
  subst hR
  intro H locs ls hP hS hl
  exact lv_imul hx hb hdg (k H locs ls hP hS hl)

theorem wd_iand (hC : wd_Ok sd V ad K own cc nL d ret) {x y : Int32} (hdg : decode cc pc = .ok (.iand, 1))  (k : wd_G sd V ad K nL Q (pc + 1) lv (.int (x &&& y) :: st) σ) : wd_G sd V ad K nL Q pc lv (.int y :: .int x :: st) σ := by
  obtain ⟨p, e, R, s, m, args, below, meth, c⟩ := K
  obtain ⟨hx, hb, hml, hown, hts, hK, hlk, hrt, hR, hinj⟩ := hC
  subst hR
  intro H locs ls hP hS hl
  exact lv_iand hx hb hdg (k H locs ls hP hS hl)

theorem wd_ior (hC : wd_Ok sd V ad K own cc nL d ret) {x y : Int32} (hdg : decode cc pc = .ok (.ior, 1))  (k : wd_G sd V ad K nL Q (pc + 1) lv (.int (x ||| y) :: st) σ) : wd_G sd V ad K nL Q pc lv (.int y :: .int x :: st) σ := by
  obtain ⟨p, e, R, s, m, args, below, meth, c⟩ := K
  obtain ⟨hx, hb, hml, hown, hts, hK, hlk, hrt, hR, hinj⟩ := hC
  subst hR
  intro H locs ls hP hS hl
  exact lv_ior hx hb hdg (k H locs ls hP hS hl)

theorem wd_ishl (hC : wd_Ok sd V ad K own cc nL d ret) {x y : Int32} (hdg : decode cc pc = .ok (.ishl, 1))  (k : wd_G sd V ad K nL Q (pc + 1) lv (.int (x <<< (y &&& 31)) :: st) σ) : wd_G sd V ad K nL Q pc lv (.int y :: .int x :: st) σ := by
  obtain ⟨p, e, R, s, m, args, below, meth, c⟩ := K
  obtain ⟨hx, hb, hml, hown, hts, hK, hlk, hrt, hR, hinj⟩ := hC
  subst hR
  intro H locs ls hP hS hl
  exact lv_ishl hx hb hdg (k H locs ls hP hS hl)

theorem wd_ishr (hC : wd_Ok sd V ad K own cc nL d ret) {x y : Int32} (hdg : decode cc pc = .ok (.ishr, 1))  (k : wd_G sd V ad K nL Q (pc + 1) lv (.int (x >>> (y &&& 31)) :: st) σ) : wd_G sd V ad K nL Q pc lv (.int y :: .int x :: st) σ := by
  obtain ⟨p, e, R, s, m, args, below, meth, c⟩ := K
  obtain ⟨hx, hb, hml, hown, hts, hK, hlk, hrt, hR, hinj⟩ := hC
  subst hR
  intro H locs ls hP hS hl
  exact lv_ishr hx hb hdg (k H locs ls hP hS hl)

theorem wd_idiv (hC : wd_Ok sd V ad K own cc nL d ret) {x y : Int32} (hdg : decode cc pc = .ok (.idiv, 1)) (hne : ¬ y = 0) (k : wd_G sd V ad K nL Q (pc + 1) lv (.int (x / y) :: st) σ) : wd_G sd V ad K nL Q pc lv (.int y :: .int x :: st) σ := by
  obtain ⟨p, e, R, s, m, args, below, meth, c⟩ := K
  obtain ⟨hx, hb, hml, hown, hts, hK, hlk, hrt, hR, hinj⟩ := hC
  subst hR
  intro H locs ls hP hS hl
  exact lv_idiv hx hb hdg hne (k H locs ls hP hS hl)

theorem wd_irem (hC : wd_Ok sd V ad K own cc nL d ret) {x y : Int32} (hdg : decode cc pc = .ok (.irem, 1)) (hne : ¬ y = 0) (k : wd_G sd V ad K nL Q (pc + 1) lv (.int (x - x / y * y) :: st) σ) : wd_G sd V ad K nL Q pc lv (.int y :: .int x :: st) σ := by
  obtain ⟨p, e, R, s, m, args, below, meth, c⟩ := K
  obtain ⟨hx, hb, hml, hown, hts, hK, hlk, hrt, hR, hinj⟩ := hC
  subst hR
  intro H locs ls hP hS hl
  exact lv_irem hx hb hdg hne (k H locs ls hP hS hl)

theorem wd_ladd (hC : wd_Ok sd V ad K own cc nL d ret) {x y : Int64} (hdg : decode cc pc = .ok (.ladd, 1))  (k : wd_G sd V ad K nL Q (pc + 1) lv (.long (x + y) :: st) σ) : wd_G sd V ad K nL Q pc lv (.long y :: .long x :: st) σ := by
  obtain ⟨p, e, R, s, m, args, below, meth, c⟩ := K
  obtain ⟨hx, hb, hml, hown, hts, hK, hlk, hrt, hR, hinj⟩ := hC
  subst hR
  intro H locs ls hP hS hl
  exact lv_ladd hx hb hdg (k H locs ls hP hS hl)

theorem wd_dup (hC : wd_Ok sd V ad K own cc nL d ret) {v : Value} (hdg : decode cc pc = .ok (.dup, 1)) (hv : v.category = 1) (k : wd_G sd V ad K nL Q (pc + 1) lv (v :: v :: st) σ) : wd_G sd V ad K nL Q pc lv (v :: st) σ := by
  obtain ⟨p, e, R, s, m, args, below, meth, c⟩ := K
  obtain ⟨hx, hb, hml, hown, hts, hK, hlk, hrt, hR, hinj⟩ := hC
  subst hR
  intro H locs ls hP hS hl
  exact lv_dup hx hb hdg hv (k H locs ls hP hS hl)

theorem wd_pop (hC : wd_Ok sd V ad K own cc nL d ret) {v : Value} (hdg : decode cc pc = .ok (.pop, 1)) (hv : v.category = 1) (k : wd_G sd V ad K nL Q (pc + 1) lv st σ) : wd_G sd V ad K nL Q pc lv (v :: st) σ := by
  obtain ⟨p, e, R, s, m, args, below, meth, c⟩ := K
  obtain ⟨hx, hb, hml, hown, hts, hK, hlk, hrt, hR, hinj⟩ := hC
  subst hR
  intro H locs ls hP hS hl
  exact lv_pop hx hb hdg hv (k H locs ls hP hS hl)

theorem wd_goto (hC : wd_Ok sd V ad K own cc nL d ret) {off : Int} {tgt : Nat} (hdg : decode cc pc = .ok (.goto off, 3)) (ht : (pc : Int) + off = (tgt : Int)) (k : wd_G sd V ad K nL Q tgt lv st σ) : wd_G sd V ad K nL Q pc lv st σ := by
  obtain ⟨p, e, R, s, m, args, below, meth, c⟩ := K
  obtain ⟨hx, hb, hml, hown, hts, hK, hlk, hrt, hR, hinj⟩ := hC
  subst hR
  intro H locs ls hP hS hl
  exact lv_goto hx hb hdg ht (k H locs ls hP hS hl)

theorem wd_icmp_eq (hC : wd_Ok sd V ad K own cc nL d ret) {x y : Int32} {off : Int} {tgt : Nat} (hdg : decode cc pc = .ok (.if_icmp .eq off, 3)) (ht : (pc : Int) + off = (tgt : Int)) (kt : x = y → wd_G sd V ad K nL Q tgt lv st σ) (kf : ¬ x = y → wd_G sd V ad K nL Q (pc + 3) lv st σ) : wd_G sd V ad K nL Q pc lv (.int y :: .int x :: st) σ := by
  obtain ⟨p, e, R, s, m, args, below, meth, c⟩ := K
  obtain ⟨hx, hb, hml, hown, hts, hK, hlk, hrt, hR, hinj⟩ := hC
  subst hR
  intro H locs ls hP hS hl
  exact lv_icmp_eq hx hb hdg ht (fun h => kt h H locs ls hP hS hl) (fun h => kf h H locs ls hP hS hl)

theorem wd_icmp_ne (hC : wd_Ok sd V ad K own cc nL d ret) {x y : Int32} {off : Int} {tgt : Nat} (hdg : decode cc pc = .ok (.if_icmp .ne off, 3)) (ht : (pc : Int) + off = (tgt : Int)) (kt : ¬ x = y → wd_G sd V ad K nL Q tgt lv st σ) (kf : x = y → wd_G sd V ad K nL Q (pc + 3) lv st σ) : wd_G sd V ad K nL Q pc lv (.int y :: .int x :: st) σ := by
  obtain ⟨p, e, R, s, m, args, below, meth, c⟩ := K
  obtain ⟨hx, hb, hml, hown, hts, hK, hlk, hrt, hR, hinj⟩ := hC
  subst hR
  intro H locs ls hP hS hl
  exact lv_icmp_ne hx hb hdg ht (fun h => kt h H locs ls hP hS hl) (fun h => kf h H locs ls hP hS hl)

theorem wd_icmp_lt (hC : wd_Ok sd V ad K own cc nL d ret) {x y : Int32} {off : Int} {tgt : Nat} (hdg : decode cc pc = .ok (.if_icmp .lt off, 3)) (ht : (pc : Int) + off = (tgt : Int)) (kt : x < y → wd_G sd V ad K nL Q tgt lv st σ) (kf : ¬ x < y → wd_G sd V ad K nL Q (pc + 3) lv st σ) : wd_G sd V ad K nL Q pc lv (.int y :: .int x :: st) σ := by
  obtain ⟨p, e, R, s, m, args, below, meth, c⟩ := K
  obtain ⟨hx, hb, hml, hown, hts, hK, hlk, hrt, hR, hinj⟩ := hC
  subst hR
  intro H locs ls hP hS hl
  exact lv_icmp_lt hx hb hdg ht (fun h => kt h H locs ls hP hS hl) (fun h => kf h H locs ls hP hS hl)

theorem wd_icmp_ge (hC : wd_Ok sd V ad K own cc nL d ret) {x y : Int32} {off : Int} {tgt : Nat} (hdg : decode cc pc = .ok (.if_icmp .ge off, 3)) (ht : (pc : Int) + off = (tgt : Int)) (kt : y ≤ x → wd_G sd V ad K nL Q tgt lv st σ) (kf : ¬ y ≤ x → wd_G sd V ad K nL Q (pc + 3) lv st σ) : wd_G sd V ad K nL Q pc lv (.int y :: .int x :: st) σ := by
  obtain ⟨p, e, R, s, m, args, below, meth, c⟩ := K
  obtain ⟨hx, hb, hml, hown, hts, hK, hlk, hrt, hR, hinj⟩ := hC
  subst hR
  intro H locs ls hP hS hl
  exact lv_icmp_ge hx hb hdg ht (fun h => kt h H locs ls hP hS hl) (fun h => kf h H locs ls hP hS hl)

theorem wd_icmp_gt (hC : wd_Ok sd V ad K own cc nL d ret) {x y : Int32} {off : Int} {tgt : Nat} (hdg : decode cc pc = .ok (.if_icmp .gt off, 3)) (ht : (pc : Int) + off = (tgt : Int)) (kt : y < x → wd_G sd V ad K nL Q tgt lv st σ) (kf : ¬ y < x → wd_G sd V ad K nL Q (pc + 3) lv st σ) : wd_G sd V ad K nL Q pc lv (.int y :: .int x :: st) σ := by
  obtain ⟨p, e, R, s, m, args, below, meth, c⟩ := K
  obtain ⟨hx, hb, hml, hown, hts, hK, hlk, hrt, hR, hinj⟩ := hC
  subst hR
  intro H locs ls hP hS hl
  exact lv_icmp_gt hx hb hdg ht (fun h => kt h H locs ls hP hS hl) (fun h => kf h H locs ls hP hS hl)

theorem wd_icmp_le (hC : wd_Ok sd V ad K own cc nL d ret) {x y : Int32} {off : Int} {tgt : Nat} (hdg : decode cc pc = .ok (.if_icmp .le off, 3)) (ht : (pc : Int) + off = (tgt : Int)) (kt : x ≤ y → wd_G sd V ad K nL Q tgt lv st σ) (kf : ¬ x ≤ y → wd_G sd V ad K nL Q (pc + 3) lv st σ) : wd_G sd V ad K nL Q pc lv (.int y :: .int x :: st) σ := by
  obtain ⟨p, e, R, s, m, args, below, meth, c⟩ := K
  obtain ⟨hx, hb, hml, hown, hts, hK, hlk, hrt, hR, hinj⟩ := hC
  subst hR
  intro H locs ls hP hS hl
  exact lv_icmp_le hx hb hdg ht (fun h => kt h H locs ls hP hS hl) (fun h => kf h H locs ls hP hS hl)

theorem wd_if_eq (hC : wd_Ok sd V ad K own cc nL d ret) {x : Int32} {off : Int} {tgt : Nat} (hdg : decode cc pc = .ok (.ifCond .eq off, 3)) (ht : (pc : Int) + off = (tgt : Int)) (kt : x = 0 → wd_G sd V ad K nL Q tgt lv st σ) (kf : ¬ x = 0 → wd_G sd V ad K nL Q (pc + 3) lv st σ) : wd_G sd V ad K nL Q pc lv (.int x :: st) σ := by
  obtain ⟨p, e, R, s, m, args, below, meth, c⟩ := K
  obtain ⟨hx, hb, hml, hown, hts, hK, hlk, hrt, hR, hinj⟩ := hC
  subst hR
  intro H locs ls hP hS hl
  exact lv_if_eq hx hb hdg ht (fun h => kt h H locs ls hP hS hl) (fun h => kf h H locs ls hP hS hl)

theorem wd_if_ne (hC : wd_Ok sd V ad K own cc nL d ret) {x : Int32} {off : Int} {tgt : Nat} (hdg : decode cc pc = .ok (.ifCond .ne off, 3)) (ht : (pc : Int) + off = (tgt : Int)) (kt : ¬ x = 0 → wd_G sd V ad K nL Q tgt lv st σ) (kf : x = 0 → wd_G sd V ad K nL Q (pc + 3) lv st σ) : wd_G sd V ad K nL Q pc lv (.int x :: st) σ := by
  obtain ⟨p, e, R, s, m, args, below, meth, c⟩ := K
  obtain ⟨hx, hb, hml, hown, hts, hK, hlk, hrt, hR, hinj⟩ := hC
  subst hR
  intro H locs ls hP hS hl
  exact lv_if_ne hx hb hdg ht (fun h => kt h H locs ls hP hS hl) (fun h => kf h H locs ls hP hS hl)

theorem wd_if_lt (hC : wd_Ok sd V ad K own cc nL d ret) {x : Int32} {off : Int} {tgt : Nat} (hdg : decode cc pc = .ok (.ifCond .lt off, 3)) (ht : (pc : Int) + off = (tgt : Int)) (kt : x < 0 → wd_G sd V ad K nL Q tgt lv st σ) (kf : ¬ x < 0 → wd_G sd V ad K nL Q (pc + 3) lv st σ) : wd_G sd V ad K nL Q pc lv (.int x :: st) σ := by
  obtain ⟨p, e, R, s, m, args, below, meth, c⟩ := K
  obtain ⟨hx, hb, hml, hown, hts, hK, hlk, hrt, hR, hinj⟩ := hC
  subst hR
  intro H locs ls hP hS hl
  exact lv_if_lt hx hb hdg ht (fun h => kt h H locs ls hP hS hl) (fun h => kf h H locs ls hP hS hl)

theorem wd_if_ge (hC : wd_Ok sd V ad K own cc nL d ret) {x : Int32} {off : Int} {tgt : Nat} (hdg : decode cc pc = .ok (.ifCond .ge off, 3)) (ht : (pc : Int) + off = (tgt : Int)) (kt : 0 ≤ x → wd_G sd V ad K nL Q tgt lv st σ) (kf : ¬ 0 ≤ x → wd_G sd V ad K nL Q (pc + 3) lv st σ) : wd_G sd V ad K nL Q pc lv (.int x :: st) σ := by
  obtain ⟨p, e, R, s, m, args, below, meth, c⟩ := K
  obtain ⟨hx, hb, hml, hown, hts, hK, hlk, hrt, hR, hinj⟩ := hC
  subst hR
  intro H locs ls hP hS hl
  exact lv_if_ge hx hb hdg ht (fun h => kt h H locs ls hP hS hl) (fun h => kf h H locs ls hP hS hl)

theorem wd_if_gt (hC : wd_Ok sd V ad K own cc nL d ret) {x : Int32} {off : Int} {tgt : Nat} (hdg : decode cc pc = .ok (.ifCond .gt off, 3)) (ht : (pc : Int) + off = (tgt : Int)) (kt : 0 < x → wd_G sd V ad K nL Q tgt lv st σ) (kf : ¬ 0 < x → wd_G sd V ad K nL Q (pc + 3) lv st σ) : wd_G sd V ad K nL Q pc lv (.int x :: st) σ := by
  obtain ⟨p, e, R, s, m, args, below, meth, c⟩ := K
  obtain ⟨hx, hb, hml, hown, hts, hK, hlk, hrt, hR, hinj⟩ := hC
  subst hR
  intro H locs ls hP hS hl
  exact lv_if_gt hx hb hdg ht (fun h => kt h H locs ls hP hS hl) (fun h => kf h H locs ls hP hS hl)

theorem wd_if_le (hC : wd_Ok sd V ad K own cc nL d ret) {x : Int32} {off : Int} {tgt : Nat} (hdg : decode cc pc = .ok (.ifCond .le off, 3)) (ht : (pc : Int) + off = (tgt : Int)) (kt : x ≤ 0 → wd_G sd V ad K nL Q tgt lv st σ) (kf : ¬ x ≤ 0 → wd_G sd V ad K nL Q (pc + 3) lv st σ) : wd_G sd V ad K nL Q pc lv (.int x :: st) σ := by
  obtain ⟨p, e, R, s, m, args, below, meth, c⟩ := K
  obtain ⟨hx, hb, hml, hown, hts, hK, hlk, hrt, hR, hinj⟩ := hC
  subst hR
  intro H locs ls hP hS hl
  exact lv_if_le hx hb hdg ht (fun h => kt h H locs ls hP hS hl) (fun h => kf h H locs ls hP hS hl)

theorem wd_tableIn (hC : wd_Ok sd V ad K own cc nL d ret) {dflt lo hi : Int} {offs : Array Int} {len : Nat} {x : Int32} {off : Int} {tgt : Nat} (hdg : decode cc pc = .ok (.tableswitch dflt lo hi offs, len)) (h1 : ¬ x.toInt < lo) (h2 : ¬ hi < x.toInt) (ho : offs[(x.toInt - lo).toNat]? = some off) (ht : (pc : Int) + off = (tgt : Int)) (k : wd_G sd V ad K nL Q tgt lv st σ) : wd_G sd V ad K nL Q pc lv (.int x :: st) σ := by
  obtain ⟨p, e, R, s, m, args, below, meth, c⟩ := K
  obtain ⟨hx, hb, hml, hown, hts, hK, hlk, hrt, hR, hinj⟩ := hC
  subst hR
  intro H locs ls hP hS hl
  exact lv_tableIn hx hb hdg h1 h2 ho ht (k H locs ls hP hS hl)
theorem wd_tableOut (hC : wd_Ok sd V ad K own cc nL d ret) {dflt lo hi : Int} {offs : Array Int} {len : Nat} {x : Int32} {tgt : Nat} (hdg : decode cc pc = .ok (.tableswitch dflt lo hi offs, len)) (h : x.toInt < lo ∨ hi < x.toInt) (ht : (pc : Int) + dflt = (tgt : Int)) (k : wd_G sd V ad K nL Q tgt lv st σ) : wd_G sd V ad K nL Q pc lv (.int x :: st) σ := by
  obtain ⟨p, e, R, s, m, args, below, meth, c⟩ := K
  obtain ⟨hx, hb, hml, hown, hts, hK, hlk, hrt, hR, hinj⟩ := hC
  subst hR
  intro H locs ls hP hS hl
  exact lv_tableOut hx hb hdg h ht (k H locs ls hP hS hl)
theorem wd_lookup (hC : wd_Ok sd V ad K own cc nL d ret) {dflt : Int} {ps : Array (Int × Int)} {len : Nat} {x : Int32} {off : Int} {tgt : Nat} (hdg : decode cc pc = .ok (.lookupswitch dflt ps, len)) (hp : (ps.toList.zip (ps.toList.drop 1)).all (fun (a, next) => a.1 < next.1) = true) (ho : Op.lookupswitch.offset ps.toList dflt x.toInt = off) (ht : (pc : Int) + off = (tgt : Int)) (k : wd_G sd V ad K nL Q tgt lv st σ) : wd_G sd V ad K nL Q pc lv (.int x :: st) σ := by
  obtain ⟨p, e, R, s, m, args, below, meth, c⟩ := K
  obtain ⟨hx, hb, hml, hown, hts, hK, hlk, hrt, hR, hinj⟩ := hC
  subst hR
  intro H locs ls hP hS hl
  exact lv_lookup hx hb hdg hp ho ht (k H locs ls hP hS hl)

theorem wd_iload_n (hC : wd_Ok sd V ad K own cc nL d ret) {k0 : Fin 4} {i : Nat} {x : Int32} (hdg : decode cc pc = .ok (.iload_n k0, 1)) (hi : (k0 : Nat) = i) (hv : lv[i]? = some (some (.int x))) (k : wd_G sd V ad K nL Q (pc + 1) lv (.int x :: st) σ) : wd_G sd V ad K nL Q pc lv st σ := by
  obtain ⟨p, e, R, s, m, args, below, meth, c⟩ := K
  obtain ⟨hx, hb, hml, hown, hts, hK, hlk, hrt, hR, hinj⟩ := hC
  subst hR
  intro H locs ls hP hS hl
  exact lv_iload_n hx hb hdg hi (hl.2.2.2 i _ hv).1 (k H locs ls hP hS hl)
theorem wd_iload (hC : wd_Ok sd V ad K own cc nL d ret) {i : Nat} {x : Int32} (hdg : decode cc pc = .ok (.iload i, 2)) (hv : lv[i]? = some (some (.int x))) (k : wd_G sd V ad K nL Q (pc + 2) lv (.int x :: st) σ) : wd_G sd V ad K nL Q pc lv st σ := by
  obtain ⟨p, e, R, s, m, args, below, meth, c⟩ := K
  obtain ⟨hx, hb, hml, hown, hts, hK, hlk, hrt, hR, hinj⟩ := hC
  subst hR
  intro H locs ls hP hS hl
  exact lv_iload hx hb hdg (hl.2.2.2 i _ hv).1 (k H locs ls hP hS hl)
theorem wd_aload_n (hC : wd_Ok sd V ad K own cc nL d ret) {k0 : Fin 4} {i : Nat} {x : Nat} (hdg : decode cc pc = .ok (.aload_n k0, 1)) (hi : (k0 : Nat) = i) (hv : lv[i]? = some (some (.ref x))) (k : wd_G sd V ad K nL Q (pc + 1) lv (.ref x :: st) σ) : wd_G sd V ad K nL Q pc lv st σ := by
  obtain ⟨p, e, R, s, m, args, below, meth, c⟩ := K
  obtain ⟨hx, hb, hml, hown, hts, hK, hlk, hrt, hR, hinj⟩ := hC
  subst hR
  intro H locs ls hP hS hl
  exact lv_aload_n hx hb hdg hi (hl.2.2.2 i _ hv).1 (k H locs ls hP hS hl)
theorem wd_istore_n (hC : wd_Ok sd V ad K own cc nL d ret) {k0 : Fin 4} {i : Nat} {x : Int32} {lv' : List (Option Value)} (hdg : decode cc pc = .ok (.istore_n k0, 1)) (hi : (k0 : Nat) = i) (hn : i < nL) (hl' : lv.set i (some (.int x)) = lv') (k : wd_G sd V ad K nL Q (pc + 1) lv' st σ) : wd_G sd V ad K nL Q pc lv (.int x :: st) σ := by
  obtain ⟨p, e, R, s, m, args, below, meth, c⟩ := K
  obtain ⟨hx, hb, hml, hown, hts, hK, hlk, hrt, hR, hinj⟩ := hC
  subst hR
  intro H locs ls hP hS hl
  exact lv_istore_n hx hb hdg hi hl.has hn rfl (fun ls' h' => k H locs ls' hP hS (hl' ▸ hl.set rfl h'))
theorem wd_istore (hC : wd_Ok sd V ad K own cc nL d ret) {i : Nat} {x : Int32} {lv' : List (Option Value)} (hdg : decode cc pc = .ok (.istore i, 2)) (hn : i < nL) (hl' : lv.set i (some (.int x)) = lv') (k : wd_G sd V ad K nL Q (pc + 2) lv' st σ) : wd_G sd V ad K nL Q pc lv (.int x :: st) σ := by
  obtain ⟨p, e, R, s, m, args, below, meth, c⟩ := K
  obtain ⟨hx, hb, hml, hown, hts, hK, hlk, hrt, hR, hinj⟩ := hC
  subst hR
  intro H locs ls hP hS hl
  exact lv_istore hx hb hdg hl.has hn rfl (fun ls' h' => k H locs ls' hP hS (hl' ▸ hl.set rfl h'))
theorem wd_astore_n (hC : wd_Ok sd V ad K own cc nL d ret) {k0 : Fin 4} {i : Nat} {x : Nat} {lv' : List (Option Value)} (hdg : decode cc pc = .ok (.astore_n k0, 1)) (hi : (k0 : Nat) = i) (hn : i < nL) (hl' : lv.set i (some (.ref x)) = lv') (k : wd_G sd V ad K nL Q (pc + 1) lv' st σ) : wd_G sd V ad K nL Q pc lv (.ref x :: st) σ := by
  obtain ⟨p, e, R, s, m, args, below, meth, c⟩ := K
  obtain ⟨hx, hb, hml, hown, hts, hK, hlk, hrt, hR, hinj⟩ := hC
  subst hR
  intro H locs ls hP hS hl
  exact lv_astore_n hx hb hdg hi hl.has hn rfl (fun ls' h' => k H locs ls' hP hS (hl' ▸ hl.set rfl h'))
theorem wd_iinc (hC : wd_Ok sd V ad K own cc nL d ret) {i : Nat} {n : Int} {x v : Int32} {lv' : List (Option Value)} (hdg : decode cc pc = .ok (.iinc i n, 3)) (hv : lv[i]? = some (some (.int x))) (hn : i < nL) (he : x + Int32.ofInt n = v) (hl' : lv.set i (some (.int v)) = lv') (k : wd_G sd V ad K nL Q (pc + 3) lv' st σ) : wd_G sd V ad K nL Q pc lv st σ := by
  obtain ⟨p, e, R, s, m, args, below, meth, c⟩ := K
  obtain ⟨hx, hb, hml, hown, hts, hK, hlk, hrt, hR, hinj⟩ := hC
  subst hR
  intro H locs ls hP hS hl
  obtain ⟨j, hj⟩ := List.getElem?_of_mem (wd_as_in (q := (i, .int x)).mpr hv)
  exact lv_iinc hx hb hdg hl.has hj he hn rfl (fun ls' h' => k H locs ls' hP hS (hl' ▸ hl.set rfl h'))

theorem wd_get (hC : wd_Ok sd V ad K own cc nL d ret) {ci : Nat} {C : String} {T : u_T} {N : Nat} (hcl : vwCl[ci]? = some (C, T, N)) (hin : ∀ w ∈ u_ws C T N, w ∈ wsL_law) {q : Nat} (hq : q < sd.1) {fs : List Value} (hE : sd.2 ad V.2.2 σ.2 q (σ.1 q) = .inr (ci, fs)) (j : Nat) (hj : j < N) {index : Nat} (hlink : Cond.fieldLink own index (T j).1 (T j).2.1 (T j).2.2.1 ∈ wsL_law) {v : Value} (hv : fs[j]? = some v) (hdg : decode cc pc = .ok (.getfield index, 3)) (k : wd_G sd V ad K nL Q (pc + 3) lv (v :: st) σ) : wd_G sd V ad K nL Q pc lv (.ref (ad q) :: st) σ := by
  obtain ⟨p, e, R, s, m, args, below, meth, c⟩ := K
  obtain ⟨hx, hb, hml, hown, hts, hK, hlk, hrt, hR, hinj⟩ := hC
  subst hR
  intro H locs ls hP hS hl
  exact va_get hx hb hts hin hown hK hP q (by rw [wd_at hq, hE]) hcl j hj (hts _ hlink) (fun _ h9 => h9) hv hdg (k H locs ls hP hS hl)
theorem wd_put (hC : wd_Ok sd V ad K own cc nL d ret) {ci : Nat} {C : String} {T : u_T} {N : Nat} (hcl : vwCl[ci]? = some (C, T, N)) (hin : ∀ w ∈ u_ws C T N, w ∈ wsL_law) (ty0 : Nat → FieldType) (hty : ∀ k, k < N → parseFieldDescriptor (T k).2.2.1 = some (ty0 k)) (hnm : ∀ a, a < N → ∀ b, b < N → a ≠ b → (T a).2.1 ≠ (T b).2.1) {q : Nat} (hq : q < sd.1) {fs : List Value} (hE : sd.2 ad V.2.2 σ.2 q (σ.1 q) = .inr (ci, fs)) (j : Nat) (hj : j < N) {index : Nat} (hlink : Cond.fieldLink own index (T j).1 (T j).2.1 (T j).2.2.1 ∈ wsL_law) (hfin : (T j).2.2.2 = false) {v : Value} (hnr : narrow (ty0 j) v = v) (hft : fits (ty0 j) v = true) (hl : j < fs.length) {σ' : wd_S} (hE' : sd.2 ad V.2.2 σ'.2 q (σ'.1 q) = .inr (ci, fs.set j v)) (ho : ∀ a, a < sd.1 → a ≠ q → sd.2 ad V.2.2 σ'.2 a (σ'.1 a) = sd.2 ad V.2.2 σ.2 a (σ.1 a)) (hdg : decode cc pc = .ok (.putfield index, 3)) (k : wd_G sd V ad K nL Q (pc + 3) lv st σ') : wd_G sd V ad K nL Q pc lv (v :: .ref (ad q) :: st) σ := by
  obtain ⟨p, e, R, s, m, args, below, meth, c⟩ := K
  obtain ⟨hx, hb, hml, hown, hts, hK, hlk, hrt, hR, hinj⟩ := hC
  subst hR
  intro H locs ls hP hS hL
  refine va_put hx hb hts hin ty0 hty hnm hown hK hP (wd_D hinj V.2.2 σ s.heap.size) hS q (by rw [wd_at hq, hE]) hcl j hj (hts _ hlink) (fun _ h9 => h9) hfin (hty j hj) hnr hft hl hdg (fun H1 locs1 hP1 hD1 hS1 => ?_)
  rw [wd_set hE' ho] at hP1
  exact k H1 locs1 ls hP1 hS1 hL

theorem wd_ix {x : Int32} {i n : Nat} (hx : x = nI i) (hi : i < n) (hn : n < 2 ^ 31) : vp_in x n ∧ x.toNatClampNeg = i := by
  subst hx
  exact ⟨vp_in_nI hi hn, nI_clamp (by omega)⟩
theorem wd_iald (hC : wd_Ok sd V ad K own cc nL d ret) {q n : Nat} (hq : q < sd.1) (hE : ∀ r, sd.2 ad V.2.2 σ.2 q r = .inl (V.2.2 0, n, .inl r)) (hn : n < 2 ^ 31) {x : Int32} (i : Nat) (hx0 : x = nI i) (hi : i < n) (hdg : decode cc pc = .ok (.iaload, 1)) (k : wd_G sd V ad K nL Q (pc + 1) lv (.int (σ.1 q i) :: st) σ) : wd_G sd V ad K nL Q pc lv (.int x :: .ref (ad q) :: st) σ := by
  obtain ⟨p, e, R, s, m, args, below, meth, c⟩ := K
  obtain ⟨hx, hb, hml, hown, hts, hK, hlk, hrt, hR, hinj⟩ := hC
  subst hR
  intro H locs ls hP hS hl
  obtain ⟨h1, h2⟩ := wd_ix hx0 hi hn
  refine va_iald hx hb hK hP q 0 (by rw [wd_at hq, hE]) rfl h1 hdg ?_
  rw [h2]
  exact k H locs ls hP hS hl
theorem wd_zald (hC : wd_Ok sd V ad K own cc nL d ret) {q n : Nat} (hq : q < sd.1) (hE : ∀ r, sd.2 ad V.2.2 σ.2 q r = .inl (V.2.2 1, n, .inl r)) (hn : n < 2 ^ 31) {x : Int32} (i : Nat) (hx0 : x = nI i) (hi : i < n) (hdg : decode cc pc = .ok (.baload, 1)) (k : wd_G sd V ad K nL Q (pc + 1) lv (.int (σ.1 q i) :: st) σ) : wd_G sd V ad K nL Q pc lv (.int x :: .ref (ad q) :: st) σ := by
  obtain ⟨p, e, R, s, m, args, below, meth, c⟩ := K
  obtain ⟨hx, hb, hml, hown, hts, hK, hlk, hrt, hR, hinj⟩ := hC
  subst hR
  intro H locs ls hP hS hl
  obtain ⟨h1, h2⟩ := wd_ix hx0 hi hn
  refine va_zald hx hb hK hP q 1 (by rw [wd_at hq, hE]) rfl h1 hdg ?_
  rw [h2]
  exact k H locs ls hP hS hl
theorem wd_iast (hC : wd_Ok sd V ad K own cc nL d ret) {q n : Nat} (hq : q < sd.1) (hE : ∀ r, sd.2 ad V.2.2 σ.2 q r = .inl (V.2.2 0, n, .inl r)) (hn : n < 2 ^ 31) {x v : Int32} (i : Nat) (hx0 : x = nI i) (hi : i < n) (hdg : decode cc pc = .ok (.iastore, 1)) (k : wd_G sd V ad K nL Q (pc + 1) lv st (wd_up σ q i v)) : wd_G sd V ad K nL Q pc lv (.int v :: .int x :: .ref (ad q) :: st) σ := by
  obtain ⟨p, e, R, s, m, args, below, meth, c⟩ := K
  obtain ⟨hx, hb, hml, hown, hts, hK, hlk, hrt, hR, hinj⟩ := hC
  subst hR
  intro H locs ls hP hS hl
  obtain ⟨h1, h2⟩ := wd_ix hx0 hi hn
  refine va_iast hx hb hK hP (wd_D hinj V.2.2 σ s.heap.size) hS q 0 (by rw [wd_at hq, hE]) rfl h1 hdg (fun H1 locs1 hP1 hD1 hS1 => ?_)
  rw [h2, wd_set (σ' := wd_up σ q i v) (by rw [wd_up_k]; exact hE _) (fun j _ hj => by rw [wd_up_n _ _ _ _ hj]; rfl)] at hP1
  exact k H1 locs1 ls hP1 hS1 hl
theorem wd_zast (hC : wd_Ok sd V ad K own cc nL d ret) {q n : Nat} (hq : q < sd.1) (hE : ∀ r, sd.2 ad V.2.2 σ.2 q r = .inl (V.2.2 1, n, .inl r)) (hn : n < 2 ^ 31) {x v : Int32} (i : Nat) (hx0 : x = nI i) (hi : i < n) (hv : vp_nar .boolean v = v) (hdg : decode cc pc = .ok (.bastore, 1)) (k : wd_G sd V ad K nL Q (pc + 1) lv st (wd_up σ q i v)) : wd_G sd V ad K nL Q pc lv (.int v :: .int x :: .ref (ad q) :: st) σ := by
  obtain ⟨p, e, R, s, m, args, below, meth, c⟩ := K
  obtain ⟨hx, hb, hml, hown, hts, hK, hlk, hrt, hR, hinj⟩ := hC
  subst hR
  intro H locs ls hP hS hl
  obtain ⟨h1, h2⟩ := wd_ix hx0 hi hn
  refine va_zast hx hb hK hP (wd_D hinj V.2.2 σ s.heap.size) hS q 1 (by rw [wd_at hq, hE]) rfl h1 hdg (fun H1 locs1 hP1 hD1 hS1 => ?_)
  rw [hv, h2, wd_set (σ' := wd_up σ q i v) (by rw [wd_up_k]; exact hE _) (fun j _ hj => by rw [wd_up_n _ _ _ _ hj]; rfl)] at hP1
  exact k H1 locs1 ls hP1 hS1 hl
theorem wd_aald (hC : wd_Ok sd V ad K own cc nL d ret) {q n t0 : Nat} {cA : ClassId} {ty : FieldType} (hq : q < sd.1) {f : Nat → Option Nat} (hE : sd.2 ad V.2.2 σ.2 q (σ.1 q) = .inl (cA, n, .inr (.inr (.inr (.inr f))))) (ht : (wd_tys V.2.2)[t0]? = some (cA, ty)) (hty : ty.isReference = true) (hn : n < 2 ^ 31) {x : Int32} (i : Nat) (hx0 : x = nI i) (hi : i < n) {b : Nat} (hf : f i = some b) (hdg : decode cc pc = .ok (.aaload, 1)) (k : wd_G sd V ad K nL Q (pc + 1) lv (.ref b :: st) σ) : wd_G sd V ad K nL Q pc lv (.int x :: .ref (ad q) :: st) σ := by
  obtain ⟨p, e, R, s, m, args, below, meth, c⟩ := K
  obtain ⟨hx, hb, hml, hown, hts, hK, hlk, hrt, hR, hinj⟩ := hC
  subst hR
  intro H locs ls hP hS hl
  obtain ⟨h1, h2⟩ := wd_ix hx0 hi hn
  have hw : (wd_cells sd ad V.2.2 σ)[q]? = some (ad q, .inl (cA, n, .inr (.inr (.inr (.inr f))))) := by rw [wd_at hq, hE]
  refine W.aald (v := .ref b) (ty := ty) hx hb (hP q _ hw) ((hK.2 t0 _ ht).1 n (fun j => va_rf (f j))) hty (fun q => by cases q) (by show ¬ (x < 0 ∨ (arrV _ _ _).slots.size ≤ _); rw [arrV_size]; exact h1) (by show (arrV _ _ _).slots[_]? = _; rw [h2, arrV_read _ _ hi, hf]; rfl) rfl rfl hdg (k H locs ls hP hS hl)
theorem wd_copy (hC : wd_Ok sd V ad K own cc nL d ret) {q0 q1 n0 n1 : Nat} (hq0 : q0 < sd.1) (hq1 : q1 < sd.1) (hE0 : ∀ r, sd.2 ad V.2.2 σ.2 q0 r = .inl (V.2.2 0, n0, .inl r)) (hE1 : ∀ r, sd.2 ad V.2.2 σ.2 q1 r = .inl (V.2.2 0, n1, .inl r)) {x : Int32} (n : Nat) (hx0 : x = nI n) (hn : n < 2 ^ 31) (hn0 : n ≤ n0) (hn1 : n ≤ n1) {index : Nat} (hw1 : Cond.methodLink own index arraycopyName ∈ wsL_law) (hw2 : Cond.native arraycopyName ∈ wsL_law) (hw3 : Cond.static arraycopyName ∈ wsL_law) (hw4 : Cond.initialized "java/lang/System" ∈ wsL_law) (hd : 1 ≤ d) (hst : (st.map fun v => v.category).sum + (nativeFrameWords "java/lang/System" "arraycopy" 5 + 11) ≤ 48) (hdg : decode cc pc = .ok (.invokestatic index, 3)) (k : wd_G sd V ad K nL Q (pc + 3) lv st (wd_cp σ q0 q1 n)) : wd_G sd V ad K nL Q pc lv (.int x :: .int 0 :: .ref (ad q1) :: .int 0 :: .ref (ad q0) :: st) σ := by
  obtain ⟨p, e, R, s, m, args, below, meth, c⟩ := K
  obtain ⟨hx, hb, hml, hown, hts, hK, hlk, hrt, hR, hinj⟩ := hC
  subst hR
  intro H locs ls hP hS hl
  subst hx0
  have h0 : (0 : Int32).toNatClampNeg = 0 := rfl
  have h2 : (nI n).toNatClampNeg = n := nI_clamp hn
  refine va_copyi (ty := .int) (c0 := V.2.2 0) (c1 := V.2.2 0) (n0 := n0) (n1 := n1) (f := σ.1 q0) (g := σ.1 q1) hx hb (hml.trans hl.1.symm) hown (hts _ hw1) (hts _ hw2) (hts _ hw3) (hts _ hw4) hK hP (wd_D hinj V.2.2 σ s.heap.size) hS q0 q1 0 0 (by rw [wd_at hq0, hE0]) (by rw [wd_at hq1, hE1]) rfl rfl rfl (by decide) (by decide) (nI_pos hn) (by rw [h0, h2]; omega) (by rw [h0, h2]; omega) (fun i _ => rfl) hd (by show _ ≤ 48 * d; omega) hdg (fun H1 locs1 hP1 hD1 hS1 => ?_)
  rw [h0, h2, wd_set (σ' := wd_cp σ q0 q1 n) (by rw [wd_cp_k]; exact hE1 _) (fun j _ hj => by rw [wd_cp_n _ _ _ _ hj]; rfl)] at hP1
  exact k H1 locs1 ls hP1 hS1 hl

theorem wd_arr {c : ClassId} {n : Nat} {f g : Nat → Int32} (h : ∀ i, i < n → f i = g i) : vp_cell c (n, .inl f) = vp_cell c (n, .inl g) := by
  rw [vp_cell_i, vp_cell_i]
  unfold arrV
  congr 1
  apply Array.ext
  · simp
  · intro i h1 h2
    simp at h1
    simp [h i h1]
/-- worlds whose rows agree where they are looked at -/
theorem wd_eqv {σ' : wd_S} (h : ∀ k, k < sd.1 → sd.2 ad V.2.2 σ.2 k (σ.1 k) = sd.2 ad V.2.2 σ'.2 k (σ'.1 k) ∨ ∃ (c : ClassId) (n : Nat) (f g : Nat → Int32), sd.2 ad V.2.2 σ.2 k (σ.1 k) = .inl (c, n, .inl f) ∧ sd.2 ad V.2.2 σ'.2 k (σ'.1 k) = .inl (c, n, .inl g) ∧ ∀ i, i < n → f i = g i) (D : va_G) (H : Heap) (hP : va_P D vwCl (wd_cells sd ad V.2.2 σ) H) : va_P D vwCl (wd_cells sd ad V.2.2 σ') H := by
  intro k q hq
  obtain ⟨hk, rfl⟩ := wd_at' hq
  have h1 := hP k _ (wd_at hk)
  rcases h k hk with h2 | ⟨c, n, f, g, e1, e2, e3⟩
  · rw [← h2]
    exact h1
  · rw [e1] at h1
    rw [e2]
    show H[ad k]? = some (vp_cell c (n, .inl g))
    rw [← wd_arr e3]
    exact h1

theorem wd_mmax (hC : wd_Ok sd V ad K own cc nL d ret) {x y : Int32} {index : Nat} (hw1 : Cond.methodLink own index Lib.Math.max.name ∈ wsL_law) (hw2 : Cond.static Lib.Math.max.name ∈ wsL_law) (hw3 : Cond.initialized "java/lang/Math" ∈ wsL_law) (hw4 : Cond.code Lib.Math.max.name Lib.Math.max.code 2 (some .int) ∈ wsL_law) (hd : 1 ≤ d) (hst : (st.map fun v => v.category).sum + 13 ≤ 48) (hdg : decode cc pc = .ok (.invokestatic index, 3)) (k : wd_G sd V ad K nL Q (pc + 3) lv (.int (if x < y then y else x) :: st) σ) : wd_G sd V ad K nL Q pc lv (.int y :: .int x :: st) σ := by
  obtain ⟨p, e, R, s, m, args, below, meth, c⟩ := K
  obtain ⟨hx, hb, hml, hown, hts, hK, hlk, hrt, hR, hinj⟩ := hC
  subst hR
  intro H locs ls hP hS hl
  exact va_mmax hx hb (hml.trans hl.1.symm) hown (hts _ hw1) (hts _ hw2) (hts _ hw3) (hts _ hw4) hd (by show _ ≤ 48 * d; omega) (Nat.zero_le _) (Nat.zero_le _) hdg (k H locs ls hP hS hl)

theorem wd_mmin (hC : wd_Ok sd V ad K own cc nL d ret) {x y : Int32} {index : Nat} (hw1 : Cond.methodLink own index Lib.Math.min.name ∈ wsL_law) (hw2 : Cond.static Lib.Math.min.name ∈ wsL_law) (hw3 : Cond.initialized "java/lang/Math" ∈ wsL_law) (hw4 : Cond.code Lib.Math.min.name Lib.Math.min.code 2 (some .int) ∈ wsL_law) (hd : 1 ≤ d) (hst : (st.map fun v => v.category).sum + 13 ≤ 48) (hdg : decode cc pc = .ok (.invokestatic index, 3)) (k : wd_G sd V ad K nL Q (pc + 3) lv (.int (if y < x then y else x) :: st) σ) : wd_G sd V ad K nL Q pc lv (.int y :: .int x :: st) σ := by
  obtain ⟨p, e, R, s, m, args, below, meth, c⟩ := K
  obtain ⟨hx, hb, hml, hown, hts, hK, hlk, hrt, hR, hinj⟩ := hC
  subst hR
  intro H locs ls hP hS hl
  exact va_mmin hx hb (hml.trans hl.1.symm) hown (hts _ hw1) (hts _ hw2) (hts _ hw3) (hts _ hw4) hd (by show _ ≤ 48 * d; omega) (Nat.zero_le _) (Nat.zero_le _) hdg (k H locs ls hP hS hl)

theorem wd_iretP (hC : wd_Ok sd V ad K own cc nL d ret) (hr : ret = some .int) {v : Int32} {P : wd_P}  (hdg : decode cc pc = .ok (.ireturn, 1)) (h : P (some (.int v)) σ) : wd_G sd V ad K nL (wd_Qm sd V ad K P) pc lv [.int v] σ := by
  obtain ⟨p, e, R, s, m, args, below, meth, c⟩ := K
  obtain ⟨hx, hb, hml, hown, hts, hK, hlk, hrt, hR, hinj⟩ := hC
  subst hR
  intro H locs ls hP hS hl
  exact W.iret hx hb (hrt.trans hr)  (fun t ht hW => ⟨⟨_, _, rfl, h, by rw [ht]; exact hP⟩, hS.F ht⟩) hS.2.2 hdg hlk
theorem wd_iret (hC : wd_Ok sd V ad K own cc nL d ret) (hr : ret = some .int) {v v' : Int32} {σ' : wd_S}  (hdg : decode cc pc = .ok (.ireturn, 1)) (hv : v = v') (hs : σ = σ') : wd_G sd V ad K nL (wd_Qm sd V ad K (wd_eq (some (.int v')) σ')) pc lv [.int v] σ := wd_iretP hC hr  hdg ⟨by rw [hv], hs⟩

theorem wd_zretP (hC : wd_Ok sd V ad K own cc nL d ret) (hr : ret = some .boolean) {v : Int32} {P : wd_P} (hn : narrow .boolean (.int v) = .int v) (hdg : decode cc pc = .ok (.ireturn, 1)) (h : P (some (.int v)) σ) : wd_G sd V ad K nL (wd_Qm sd V ad K P) pc lv [.int v] σ := by
  obtain ⟨p, e, R, s, m, args, below, meth, c⟩ := K
  obtain ⟨hx, hb, hml, hown, hts, hK, hlk, hrt, hR, hinj⟩ := hC
  subst hR
  intro H locs ls hP hS hl
  exact W.zret hx hb (hrt.trans hr) hn (fun t ht hW => ⟨⟨_, _, rfl, h, by rw [ht]; exact hP⟩, hS.F ht⟩) hS.2.2 hdg hlk
theorem wd_zret (hC : wd_Ok sd V ad K own cc nL d ret) (hr : ret = some .boolean) {v v' : Int32} {σ' : wd_S} (hn : narrow .boolean (.int v) = .int v) (hdg : decode cc pc = .ok (.ireturn, 1)) (hv : v = v') (hs : σ = σ') : wd_G sd V ad K nL (wd_Qm sd V ad K (wd_eq (some (.int v')) σ')) pc lv [.int v] σ := wd_zretP hC hr hn hdg ⟨by rw [hv], hs⟩

theorem wd_lretP (hC : wd_Ok sd V ad K own cc nL d ret) (hr : ret = some .long) {v : Int64} {P : wd_P}  (hdg : decode cc pc = .ok (.lreturn, 1)) (h : P (some (.long v)) σ) : wd_G sd V ad K nL (wd_Qm sd V ad K P) pc lv [.long v] σ := by
  obtain ⟨p, e, R, s, m, args, below, meth, c⟩ := K
  obtain ⟨hx, hb, hml, hown, hts, hK, hlk, hrt, hR, hinj⟩ := hC
  subst hR
  intro H locs ls hP hS hl
  exact W.lret hx hb (hrt.trans hr)  (fun t ht hW => ⟨⟨_, _, rfl, h, by rw [ht]; exact hP⟩, hS.F ht⟩) hS.2.2 hdg hlk
theorem wd_lret (hC : wd_Ok sd V ad K own cc nL d ret) (hr : ret = some .long) {v v' : Int64} {σ' : wd_S}  (hdg : decode cc pc = .ok (.lreturn, 1)) (hv : v = v') (hs : σ = σ') : wd_G sd V ad K nL (wd_Qm sd V ad K (wd_eq (some (.long v')) σ')) pc lv [.long v] σ := wd_lretP hC hr  hdg ⟨by rw [hv], hs⟩

theorem wd_vretP (hC : wd_Ok sd V ad K own cc nL d ret) (hr : ret = none) {P : wd_P} (hdg : decode cc pc = .ok (.return_, 1)) (h : P none σ) : wd_G sd V ad K nL (wd_Qm sd V ad K P) pc lv [] σ := by
  obtain ⟨p, e, R, s, m, args, below, meth, c⟩ := K
  obtain ⟨hx, hb, hml, hown, hts, hK, hlk, hrt, hR, hinj⟩ := hC
  subst hR
  intro H locs ls hP hS hl
  exact W.vret hx hb (hrt.trans hr) (fun t ht hW => ⟨⟨_, _, rfl, h, by rw [ht]; exact hP⟩, hS.F ht⟩) hS.2.2 hdg hlk
theorem wd_vret (hC : wd_Ok sd V ad K own cc nL d ret) (hr : ret = none) {σ' : wd_S} (hdg : decode cc pc = .ok (.return_, 1)) (hs : σ = σ') : wd_G sd V ad K nL (wd_Qm sd V ad K (wd_eq none σ')) pc lv [] σ := wd_vretP hC hr hdg ⟨rfl, hs⟩
/-- another name of the same world -/
theorem wd_to {σ' : wd_S} (h : ∀ (D : va_G) (H : Heap), va_P D vwCl (wd_cells sd ad V.2.2 σ) H → va_P D vwCl (wd_cells sd ad V.2.2 σ') H) (k : wd_G sd V ad K nL Q pc lv st σ') : wd_G sd V ad K nL Q pc lv st σ := by
  obtain ⟨p, e, R, s, m, args, below, meth, c⟩ := K
  intro H locs ls hP hS hl
  exact k H locs ls (h _ H hP) hS hl

theorem wd_goodL : wsL_law.all goodWord = true := by decide +kernel
theorem wd_good {big : List Cond} (hb : ∀ w ∈ wsL_law, w ∈ big) {ws : List Cond} (h : ∀ w ∈ ws, w ∈ wsL_law) : GoodIn big ws := fun w hw => ⟨hb w (h w hw), good_of_word (List.all_eq_true.mp wd_goodL w (h w hw))⟩
def wd_wV (own : String) (index : Nat) (C : String) (y : MethodName) (bytes : ByteArray) (maxL : Nat) (rt : Option FieldType) (n : Nat) : Prop := Cond.methodLink own index y ∈ wsL_law ∧ Cond.instanceMethod y ∈ wsL_law ∧ Cond.selects C y y ∈ wsL_law ∧ Cond.initialized C ∈ wsL_law ∧ Cond.code y bytes maxL rt ∈ wsL_law ∧ (y.cls = C ∧ y.cls ≠ "java/lang/invoke/MethodHandle" ∧ y.cls ≠ "java/lang/invoke/VarHandle" ∧ (parseMethodDescriptor y.desc).map (fun d => d.parameters.length) = some n)
def wd_wS (own : String) (index : Nat) (y : MethodName) (bytes : ByteArray) (maxL : Nat) (rt : Option FieldType) (n : Nat) : Prop := Cond.methodLink own index y ∈ wsL_law ∧ Cond.static y ∈ wsL_law ∧ Cond.initialized y.cls ∈ wsL_law ∧ Cond.code y bytes maxL rt ∈ wsL_law ∧ (y.cls ≠ "java/lang/invoke/MethodHandle" ∧ y.cls ≠ "java/lang/invoke/VarHandle" ∧ (parseMethodDescriptor y.desc).map (fun d => d.parameters.length) = some n)
theorem wd_back {p : Program} {V : wd_V} {e : Env} {R : Room} {s : State} {m : MethodId} {args : Array Value} {below : List Frame} {meth : Method} {c : Code} {H : Heap} {locs : List Loc} {Q : State → Prop} {pc : Nat} {ls : Array Slot} {st0 rest : List Value} {sd : wd_Side} {ad : Nat → Nat} {P : wd_P} {a : Array Value} (hr : va_Run p V.1 e R s m args below meth c H locs 0 0 0 0 (F0 m pc ls st0) rest (wd_Qc sd V ad P H.size a) (wd_A sd ad H.size)) (hS : va_S (wd_A sd ad s.heap.size) s.heap H locs)
    (kk : ∀ (v : Option Value) (σ' : wd_S) (H1 : Heap) (locs1 : List Loc), P v σ' → va_P V.2.1 vwCl (wd_cells sd ad V.2.2 σ') H1 → va_S (wd_A sd ad s.heap.size) s.heap H1 locs1 → W p V.1 e R s m args below meth c H1 locs1 0 0 Q (F0 m (pc + 3) ls (v.toList ++ rest))) : W p V.1 e R s m args below meth c H locs 0 0 Q (F0 m pc ls st0) := by
  intro T hT X
  obtain ⟨v1, st₀, t, T', L, h0, X', hL, e1, e2, ⟨⟨v, σ', hv, hPv, hp⟩, hz, hk⟩, stp⟩ := hr T hT X
  cases hv
  rw [h0] at hz hk
  have hAA : ∀ q, q < H.size → wd_A sd ad H.size q → wd_A sd ad s.heap.size q := fun q hq h => by
    rcases h with h | h
    · exact Or.inl h
    · omega
  obtain ⟨t2, a1, b1⟩ := kk v1 σ' T'.heap (locs ++ L) hPv (by rw [e1]; exact hp)
    ⟨Nat.le_trans hS.1 (by rw [e1]; exact hz), fun q h1 h2 => by
      rw [e1, hk q (Nat.lt_of_lt_of_le h1 hS.1) (fun z => h2 (hAA q (Nat.lt_of_lt_of_le h1 hS.1) z))]
      exact hS.2.1 q h1 h2, fun q hq => by
      rcases List.mem_append.mp hq with h | h
      · exact hS.2.2 q h
      · rcases hL q h with h | h
        · exact Or.inl h
        · exact Or.inr (Nat.le_trans hS.1 h)⟩ T' rfl X'
  exact ⟨t2, stp t2 a1, b1⟩
theorem wd_callV (hC : wd_Ok sd V ad K own cc nL d ret) {y : MethodName} {bytes : ByteArray} {maxL n index d' : Nat} {rt : Option FieldType} {C : String} {P : wd_P} (hw : wd_wV own index C y bytes maxL rt n) (As : List Value) {q ci : Nat} {T : u_T} {N : Nat} {fs : List Value} (hq : q < sd.1) (hE : sd.2 ad V.2.2 σ.2 q (σ.1 q) = .inr (ci, fs)) (hcl : vwCl[ci]? = some (C, T, N)) (hM : wd_C sd V ad d' y (Cond.code y bytes maxL rt :: wsL_law) σ (.ref (ad q) :: As) P) (hd : d' < d) (hmx : maxL ≤ 29) (hn : As.length = n) {st0 : List Value} (hst : st0 = As.reverse ++ .ref (ad q) :: st) (hsum : (st.map fun v => v.category).sum ≤ 8) (hdg : decode cc pc = .ok (.invokevirtual index, 3)) (k : ∀ (v : Option Value) (σ' : wd_S), P v σ' → wd_G sd V ad K nL Q (pc + 3) lv (v.toList ++ st) σ') : wd_G sd V ad K nL Q pc lv st0 σ := by
  obtain ⟨p, e, R, s, m, args, below, meth, c⟩ := K
  obtain ⟨hx, hb, hml, hown, hts, hK, hlk, hrt, hR, hinj⟩ := hC
  subst hR
  obtain ⟨w1, w2, w3, w4, w5, hw6⟩ := hw
  intro H locs ls hP hS hl
  refine wd_back (va_runV (As := As) (rest := st) ⟨hx, hb, hml, hown, hts⟩ (hM H.size) (cwV n hts (wd_good (fun _ h => h) ?_) rfl rfl rfl hw6 ⟨?_, ?_⟩) ⟨wd_blind, va_recv hK hP hcl (q0 := q) (by rw [wd_at hq, hE]), fun U hU hW => ⟨rfl, by rw [hU], by rw [hU]; exact hP, va_K.moved hW.alike hK⟩⟩ rfl hn hl.1 hst (lv_room hsum) hdg ⟨Nat.zero_le _, Nat.zero_le _⟩) hS (fun v σ' H1 locs1 hPv hP1 hS1 => k v σ' hPv H1 locs1 ls hP1 hS1 hl)
  · intro w hw
    simp only [wsV, List.mem_append, List.mem_cons, List.not_mem_nil, or_false] at hw
    rcases hw with (rfl | rfl | rfl | rfl) | (rfl | hw)
    · exact w1
    · exact w2
    · exact w3
    · exact w4
    · exact w5
    · exact hw
  · show d' + 1 ≤ d
    omega
  · show 8 + (maxL + 11) + 48 * d' ≤ 48 * d
    omega
theorem wd_callS (hC : wd_Ok sd V ad K own cc nL d ret) {y : MethodName} {bytes : ByteArray} {maxL n index d' : Nat} {rt : Option FieldType} {P : wd_P} (hw : wd_wS own index y bytes maxL rt n) (As : List Value) (hM : wd_C sd V ad d' y (Cond.code y bytes maxL rt :: wsL_law) σ As P) (hd : d' < d) (hmx : maxL ≤ 29) (hn : As.length = n) {st0 : List Value} (hst : st0 = As.reverse ++ st) (hsum : (st.map fun v => v.category).sum ≤ 8) (hdg : decode cc pc = .ok (.invokestatic index, 3)) (k : ∀ (v : Option Value) (σ' : wd_S), P v σ' → wd_G sd V ad K nL Q (pc + 3) lv (v.toList ++ st) σ') : wd_G sd V ad K nL Q pc lv st0 σ := by
  obtain ⟨p, e, R, s, m, args, below, meth, c⟩ := K
  obtain ⟨hx, hb, hml, hown, hts, hK, hlk, hrt, hR, hinj⟩ := hC
  subst hR
  obtain ⟨w1, w2, w3, w4, hw6⟩ := hw
  intro H locs ls hP hS hl
  refine wd_back (va_runS (As := As) (rest := st) ⟨hx, hb, hml, hown, hts⟩ (hM H.size) (va_cwS n hts (wd_good (fun _ h => h) ?_) rfl rfl rfl hw6 ⟨?_, ?_⟩) ⟨wd_blind, fun U hU hW => ⟨rfl, by rw [hU], by rw [hU]; exact hP, va_K.moved hW.alike hK⟩⟩ rfl hn hl.1 hst (lv_room hsum) hdg ⟨Nat.zero_le _, Nat.zero_le _⟩) hS (fun v σ' H1 locs1 hPv hP1 hS1 => k v σ' hPv H1 locs1 ls hP1 hS1 hl)
  · intro w hw
    simp only [va_wsS, List.mem_append, List.mem_cons, List.not_mem_nil, or_false] at hw
    rcases hw with (rfl | rfl | rfl) | (rfl | hw)
    · exact w1
    · exact w2
    · exact w3
    · exact w4
    · exact hw
  · show d' + 1 ≤ d
    omega
  · show 8 + (maxL + 11) + 48 * d' ≤ 48 * d
    omega
end WD

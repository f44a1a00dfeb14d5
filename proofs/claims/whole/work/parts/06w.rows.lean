/-! ===== both: who should face whom ===== -/
def zct (d : Nat → Nat) (nm : Nat) : Nat := sm (fun k => if d k = 0 then 1 else 0) nm
def vld (nm : Nat) (d : Nat → Nat) : Prop := (∀ k, k < nm → d k ≠ k + 1) ∧ (∀ k, k < nm → d k = 0 ∨ d (d k - 1) = k + 1) ∧ zct d nm = nm % 2
theorem fold_sm (f : Nat → Nat) (n : Nat) : (List.range n).foldl (fun s k => s + f k) 0 = sm f n := by
  induction n with
  | zero => rfl
  | succ n ih => rw [List.range_succ, List.foldl_append, ih]; rfl
theorem vldB_e {nm : Nat} {q : List Nat} : vldB nm q = true ↔ vld nm (lgd q) := by
  unfold vldB vld zct
  rw [Bool.and_eq_true, List.all_eq_true, fold_sm, beq_iff_eq]
  constructor
  · intro h
    refine ⟨fun k hk => ?_, fun k hk => ?_, h.2⟩
    · have := h.1 k (List.mem_range.mpr hk)
      rw [Bool.and_eq_true] at this
      exact of_decide_eq_true this.1
    · have := h.1 k (List.mem_range.mpr hk)
      rw [Bool.and_eq_true, Bool.or_eq_true, beq_iff_eq, beq_iff_eq] at this
      exact this.2
  · intro h
    refine ⟨fun k hk => ?_, h.2.2⟩
    rw [Bool.and_eq_true, Bool.or_eq_true, beq_iff_eq, beq_iff_eq]
    exact ⟨decide_eq_true (h.1 k (List.mem_range.mp hk)), h.2.1 k (List.mem_range.mp hk)⟩
theorem vld_c {nm : Nat} {d e : Nat → Nat} (h : ∀ k, k < nm → d k = e k) (hd : ∀ k, k < nm → d k ≤ nm) (hv : vld nm d) : vld nm e := by
  obtain ⟨v1, v2, v3⟩ := hv
  refine ⟨fun k hk => by rw [← h k hk]; exact v1 k hk, fun k hk => ?_, ?_⟩
  · rw [← h k hk]
    rcases v2 k hk with q | q
    · exact Or.inl q
    · by_cases c : d k = 0
      · exact Or.inl c
      · have := hd k hk
        rw [← h (d k - 1) (by omega)]
        exact Or.inr q
  · rw [← v3]
    unfold zct
    exact sm_c (fun k hk => by rw [h k hk])
def lst (d : Nat → Nat) (n : Nat) : List Nat := (List.range n).map d
theorem lst_len (d : Nat → Nat) (n : Nat) : (lst d n).length = n := by simp [lst]
theorem lst_g (d : Nat → Nat) {n k : Nat} (h : k < n) : lgd (lst d n) k = d k := by
  unfold lgd lst
  rw [List.getD_eq_getElem?_getD, List.getElem?_map, List.getElem?_range h]
  rfl
theorem lst_s (d : Nat → Nat) (n : Nat) : lst d n ++ [d n] = lst d (n + 1) := by
  unfold lst
  rw [List.range_succ, List.map_append]
  rfl
theorem lst_e {q : List Nat} {n : Nat} (h : q.length = n) : lst (lgd q) n = q := by
  apply List.ext_getElem?
  intro i
  unfold lst lgd
  rw [List.getElem?_map]
  by_cases c : i < n
  · rw [List.getElem?_range c, Option.map_some, List.getD_eq_getElem?_getD, List.getElem?_eq_getElem (by omega)]
    rfl
  · rw [List.getElem?_eq_none (by rw [List.length_range]; omega), List.getElem?_eq_none (by omega)]
    rfl
theorem con_e {nm : Nat} {d : Nat → Nat} (hv : vld nm d) {n : Nat} (hn : n ≤ nm) : conB (lst d n) = true := by
  obtain ⟨v1, v2, _⟩ := hv
  unfold conB
  rw [lst_len, List.all_eq_true]
  intro k hk
  have hk := List.mem_range.mp hk
  rw [lst_g d hk, Bool.and_eq_true, Bool.or_eq_true, Bool.or_eq_true, beq_iff_eq, beq_iff_eq]
  refine ⟨decide_eq_true (v1 k (by omega)), ?_⟩
  rcases v2 k (by omega) with q | q
  · exact Or.inl (Or.inl q)
  · by_cases c : n ≤ d k - 1
    · exact Or.inl (Or.inr (decide_eq_true c))
    · rw [lst_g d (by omega)]
      exact Or.inr q
theorem chk_e {nm : Nat} {d : Nat → Nat} (hd : ∀ k, k < nm → d k ≤ nm) (hv : vld nm d) : ∀ (k n : Nat), n + k = nm → chk nm k (lst d n) = true → lst d nm ∈ FL nm := by
  intro k
  induction k with
  | zero =>
    intro n hn h
    have en : n = nm := by omega
    subst en
    rw [chk, Bool.or_eq_true, Bool.not_eq_true'] at h
    have hB : vldB n (lst d n) = true := vldB_e.mpr (vld_c (fun k hk => (lst_g d hk).symm) hd hv)
    rcases h with h | h
    · rw [hB] at h; exact absurd h (by decide)
    · exact List.contains_iff_mem.mp h
  | succ k ih =>
    intro n hn h
    rw [chk, List.all_eq_true] at h
    have := h (d n) (List.mem_range.mpr (by have := hd n (by omega); omega))
    rw [lst_s, Bool.or_eq_true, Bool.not_eq_true', con_e hv (by omega)] at this
    rcases this with q | q
    · exact absurd q (by decide)
    · exact ih (n + 1) (by omega) q
theorem FL_all {nm : Nat} (h6 : nm ≤ 6) {d : Nat → Nat} (hd : ∀ k, k < nm → d k ≤ nm) (hv : vld nm d) : lst d nm ∈ FL nm := by
  have h := FL_ok nm h6
  rw [Bool.and_eq_true, Bool.and_eq_true, Bool.and_eq_true] at h
  exact chk_e hd hv nm 0 (by omega) h.1.2
theorem FL_in {nm : Nat} (h6 : nm ≤ 6) {q : List Nat} (hq : q ∈ FL nm) : q.length = nm ∧ (∀ k, k < nm → lgd q k ≤ nm) ∧ vld nm (lgd q) := by
  have h := FL_ok nm h6
  rw [Bool.and_eq_true, Bool.and_eq_true, Bool.and_eq_true, List.all_eq_true] at h
  have := h.1.1.1 q hq
  unfold okB at this
  rw [Bool.and_eq_true, Bool.and_eq_true, beq_iff_eq, List.all_eq_true] at this
  exact ⟨this.1.1, fun k hk => of_decide_eq_true (this.1.2 k (List.mem_range.mpr hk)), vldB_e.mp this.2⟩
theorem FL_ne {nm : Nat} (h6 : nm ≤ 6) : FL nm ≠ [] := by
  have h := FL_ok nm h6
  rw [Bool.and_eq_true] at h
  intro e
  rw [e] at h
  exact absurd h.2 (by decide)
/-- the first of the best -/
def goodB (nm : Nat) (ls : List Nat → Int32) (fc : List Nat → Nat → Int32) (D : List Nat → Prop) (B : fB) : Prop := (B.1 = 0 ∧ ∀ q, ¬ D q) ∨ (¬ B.1 = 0 ∧ ∃ q0, D q0 ∧ B.2.1 = ls q0 ∧ (∀ i, i < nm → B.2.2 i = fc q0 i) ∧ ∀ q, D q → ls q ≤ ls q0 ∧ (ls q = ls q0 → numD (nm + 1) (lgd q0) nm ≤ numD (nm + 1) (lgd q) nm))
theorem good_fold {nm : Nat} {ls : List Nat → Int32} {fc : List Nat → Nat → Int32} {f : fB → List Nat → fB} (hf : ∀ B q, f B q = if B.1 = 0 then (1, ls q, fun i => if i < nm then fc q i else B.2.2 i) else if ls q ≤ B.2.1 then B else (1, ls q, fun i => if i < nm then fc q i else B.2.2 i)) : ∀ (l : List (List Nat)) (D : List Nat → Prop) (B : fB), srtB nm l = true → goodB nm ls fc D B → (∀ x, D x → ∀ q, q ∈ l → numD (nm + 1) (lgd x) nm < numD (nm + 1) (lgd q) nm) → goodB nm ls fc (fun q => D q ∨ q ∈ l) (l.foldl f B) := by
  intro l
  induction l with
  | nil =>
    intro D B _ h _
    have e : (fun q => D q ∨ q ∈ ([] : List (List Nat))) = D := funext fun q => propext ⟨fun z => z.elim id (fun z => absurd z List.not_mem_nil), Or.inl⟩
    rw [e]
    exact h
  | cons q l ih =>
    intro D B hs h hD
    rw [srtB, Bool.and_eq_true, List.all_eq_true] at hs
    rw [List.foldl_cons]
    have h1 : goodB nm ls fc (fun x => D x ∨ x = q) (f B q) := by
      rw [hf]
      have new : (∀ x, D x → ls x < ls q) → goodB nm ls fc (fun x => D x ∨ x = q) (1, ls q, fun i => if i < nm then fc q i else B.2.2 i) := fun hx => by
        refine Or.inr ⟨by show ¬ (1 : Int32) = 0; decide, q, Or.inr rfl, rfl, fun i hi => if_pos hi, fun x hx2 => ?_⟩
        rcases hx2 with z | z
        · have := hx x z
          exact ⟨Int32.le_of_lt this, fun e => by rw [e] at this; exact (Int32.lt_irrefl this).elim⟩
        · rw [z]; exact ⟨Int32.le_refl _, fun _ => Nat.le_refl _⟩
      rcases h with ⟨e, hn⟩ | ⟨e, q0, d0, e1, e2, hm⟩
      · rw [if_pos e]
        exact new (fun x hx => absurd hx (hn x))
      · rw [if_neg e]
        by_cases c : ls q ≤ B.2.1
        · rw [if_pos c]
          refine Or.inr ⟨e, q0, Or.inl d0, e1, e2, fun x hx => ?_⟩
          rcases hx with z | z
          · exact hm x z
          · rw [z, ← e1]
            exact ⟨c, fun _ => Nat.le_of_lt (hD q0 d0 q List.mem_cons_self)⟩
        · rw [if_neg c]
          rw [e1, Int32.not_le] at c
          exact new (fun x hx => Int32.lt_of_le_of_lt (hm x hx).1 c)
    have h2 := ih (fun x => D x ∨ x = q) (f B q) hs.2 h1 (fun x hx q' hq' => by
      rcases hx with z | z
      · exact hD x z q' (List.mem_cons_of_mem _ hq')
      · rw [z]; exact of_decide_eq_true (hs.1 q' hq'))
    have e : (fun x => (D x ∨ x = q) ∨ x ∈ l) = fun x => D x ∨ x ∈ q :: l := funext fun x => propext (by rw [List.mem_cons, or_assoc])
    rw [e] at h2
    exact h2
theorem rwL_e {b : Nat} : ∀ (t w : Nat) (p : Nat → Int32) (a : Nat) (z : Bool), (∀ k, k < t → (rwL b t w p (nI a) z).1 k = nI (dgt b t w k)) ∧ (t ≤ 6 → b ≤ 7 → 0 < b → (rwL b t w p (nI a) z).2.1 = nI (a + zct (dgt b t w) t)) ∧ (t ≤ 6 → b ≤ 7 → 0 < b → ((rwL b t w p (nI a) z).2.2 = true ↔ z = true ∧ ∀ k, k < t → dgt b t w k ≠ k + 1)) := by
  intro t
  induction t with
  | zero => intro w p a z; exact ⟨fun k hk => absurd hk (by omega), fun _ _ _ => rfl, fun _ _ _ => ⟨fun h => ⟨h, fun k hk => absurd hk (by omega)⟩, fun h => h.1⟩⟩
  | succ t ih =>
    intro w p a z
    have ed : ∀ k, k < t → dgt b (t + 1) w k = dgt b t (w / b) k := fun k hk => by
      unfold dgt
      rw [show t + 1 - 1 - k = t - 1 - k + 1 by omega, Nat.pow_succ, Nat.mul_comm, ← Nat.div_div_eq_div_mul]
    have et : dgt b (t + 1) w t = w % b := by
      unfold dgt
      rw [show t + 1 - 1 - t = 0 by omega, Nat.pow_zero, Nat.div_one]
    have e0 : (if nI (w % b) = 0 then nI a + 1 else nI a + 0) = nI (a + (if nI (w % b) = 0 then 1 else 0)) := by
      by_cases c : nI (w % b) = 0
      · rw [if_pos c, if_pos c]; exact nI_1 a
      · rw [if_neg c, if_neg c, Int32.add_zero, Nat.add_zero]
    rw [rwL, e0]
    obtain ⟨i1, i2, i3⟩ := ih (w / b) (upd p t (nI (w % b))) (a + (if nI (w % b) = 0 then 1 else 0)) (z && decide (¬ nI (w % b) = nI t + 1))
    refine ⟨fun k hk => ?_, fun ht hb hb0 => ?_, fun ht hb hb0 => ?_⟩
    · by_cases q : k = t
      · rw [q, rwL_k b t _ _ _ _ t (Nat.le_refl _), et]
        exact if_pos rfl
      · rw [i1 k (by omega), ed k (by omega)]
    · rw [i2 (by omega) hb hb0]
      unfold zct
      rw [sm_s, sm_c (f := fun k => if dgt b (t + 1) w k = 0 then 1 else 0) (g := fun k => if dgt b t (w / b) k = 0 then 1 else 0) (fun k hk => by rw [ed k hk]), et]
      have hz : (if nI (w % b) = 0 then 1 else 0) = if w % b = 0 then 1 else 0 := by
        by_cases c : w % b = 0
        · rw [if_pos c, c]; rfl
        · have hw := Nat.mod_lt w hb0
          rw [if_neg (nI_ne0 (by omega) (by omega)), if_neg c]
      rw [hz]
      congr 1
      omega
    · have hw := Nat.mod_lt w hb0
      have hd : (nI (w % b) = nI t + 1) ↔ w % b = t + 1 := by
        rw [show nI t + 1 = nI (t + 1) from nI_1 t]
        constructor
        · intro e
          have := congrArg Int32.toNatClampNeg e
          rw [pk_cl (w % b) rfl (by omega), pk_cl (t + 1) rfl (by omega)] at this
          exact this
        · intro e; rw [e]
      rw [i3 (by omega) hb hb0, and_d, hd]
      constructor
      · intro h
        refine ⟨h.1.1, fun k hk => ?_⟩
        by_cases q : k = t
        · rw [q, et]; exact h.1.2
        · rw [ed k (by omega)]; exact h.2 k (by omega)
      · intro h
        refine ⟨⟨h.1, ?_⟩, fun k hk => ?_⟩
        · have := h.2 t (by omega)
          rw [et] at this
          exact this
        · rw [← ed k hk]; exact h.2 k (by omega)

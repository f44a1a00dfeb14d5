/-! ===== both: hungry ===== -/
theorem imax_lt {a b x : Int32} : imax a b < x ↔ a < x ∧ b < x := by
  unfold imax
  by_cases h : a < b
  · rw [if_pos h]
    exact ⟨fun q => ⟨Int32.lt_trans h q, q⟩, fun q => q.2⟩
  · rw [if_neg h]
    exact ⟨fun q => ⟨q, Int32.lt_of_le_of_lt (Int32.not_lt.mp h) q⟩, fun q => q.1⟩
theorem most_lt {f : Nat → Int32} {a x : Int32} {n : Nat} : itr (fun c a => imax a (f c)) a n < x ↔ a < x ∧ ∀ c, c < n → f c < x := by
  induction n with
  | zero => exact ⟨fun h => ⟨h, fun c hc => absurd hc (by omega)⟩, fun h => h.1⟩
  | succ n ih =>
    rw [itr, imax_lt, ih]
    refine ⟨fun h => ⟨h.1.1, fun c hc => ?_⟩, fun h => ⟨⟨h.1, fun c hc => h.2 c (by omega)⟩, h.2 n (by omega)⟩⟩
    by_cases e : c = n
    · exact e ▸ h.2
    · exact h.1.2 c (by omega)
theorem itr_and {f : Nat → Bool → Bool} {P : Nat → Prop} {n : Nat} {z : Bool} (h : ∀ i z, i < n → (f i z = true ↔ z = true ∧ P i)) : itr f z n = true ↔ z = true ∧ ∀ i, i < n → P i := by
  induction n with
  | zero => exact ⟨fun h => ⟨h, fun c hc => absurd hc (by omega)⟩, fun h => h.1⟩
  | succ n ih =>
    rw [itr, h n _ (by omega), ih (fun i z hi => h i z (by omega))]
    refine ⟨fun q => ⟨q.1.1, fun c hc => ?_⟩, fun q => ⟨⟨q.1, fun c hc => q.2 c (by omega)⟩, q.2 n (by omega)⟩⟩
    by_cases e : c = n
    · exact e ▸ q.2
    · exact q.1.2 c (by omega)
theorem and_d {z : Bool} {p : Prop} [Decidable p] : (z && decide p) = true ↔ z = true ∧ p := by
  cases z
  · exact ⟨fun h => Bool.noConfusion (show false = true from h), fun h => Bool.noConfusion h.1⟩
  · exact ⟨fun h => ⟨rfl, of_decide_eq_true h⟩, fun h => decide_eq_true h.2⟩
theorem upd_comm (r : Nat → Int32) {m o : Nat} (h : m ≠ o) (a b : Int32) : upd (upd r m a) o b = upd (upd r o b) m a := by
  funext k
  unfold upd
  by_cases h1 : k = o
  · rw [if_pos h1, if_neg (by omega), if_pos h1]
  · simp only [if_neg h1]
theorem bool_iff {a b : Bool} (h : a = true ↔ b = true) : a = b := by
  cases a <;> cases b
  · rfl
  · exact absurd (h.mpr rfl) (by decide)
  · exact absurd (h.mp rfl) (by decide)
  · rfl
theorem hung_e {T : Nat → Nat → Int32} {τ : wd_S} {nm nc : Nat} (hT : cT T τ nm nc) {M : Nat → Nat → Int32} {r : Nat → Int32} (hM : cM M r nm nc) {m : Nat} (hm : m < nm) (hc0 : 0 < nc) : wHung T M m = vHung τ r m nc := by
  have h6 := hT.1.2.2.2.2.1
  have e5 := (hT.2.2.1 m hm).2.2.1
  apply bool_iff
  unfold wHung vHung
  rcases fac_e (hM.1 m hm).2.2.1 h6 hm with ⟨_, _, n1, n2⟩ | ⟨o, ho, hne, p1, p2, q1, q2, _⟩
  · rw [if_neg n1, if_neg n2, decide_eq_true_iff]
    unfold wMost
    rw [most_lt, cT_nc hT]
    rw [itr_and (P := fun a => ¬ τ.1 7 m ≤ vHas τ (upd r m (nI a)) m) (fun a z ha => by
      rw [itr_and (f := hgF τ r m a) (P := fun _ => ¬ τ.1 7 m ≤ vHas τ (upd r m (nI a)) m) (fun b z hb => and_d)]
      exact ⟨fun h => ⟨h.1, h.2 0 hc0⟩, fun h => ⟨h.1, fun _ _ => h.2⟩⟩)]
    have key : ∀ c, c < nc → (wHas T (u2 M 1 m (nI c)) m < T 5 m ↔ ¬ τ.1 7 m ≤ vHas τ (upd r m (nI c)) m) := fun c hc => by
      rw [has_e hT (cM_sow hM h6 hm hc) hm, e5, Int32.not_le]
    refine ⟨fun h => ⟨rfl, fun c hc => (key c hc).mp (h.2 c hc)⟩, fun h => ⟨?_, fun c hc => (key c hc).mpr (h.2 c hc)⟩⟩
    have q := (key 0 hc0).mpr (h.2 0 hc0)
    obtain ⟨k, w, hk, _, ek, _⟩ := has_N hT (cM_sow hM h6 hm hc0) hm
    rw [has_e hT (cM_sow hM h6 hm hc0) hm, ek] at q
    exact Int32.lt_of_le_of_lt (nI_pos' (n := k) (by omega)) q
  · rw [if_pos p1, if_pos p2, decide_eq_true_iff, q1, cT_nc hT]
    rw [itr_and (P := fun a => ∀ b, b < nc → ¬ τ.1 7 m ≤ vHas τ (upd (upd r m (nI a)) o (nI b)) m) (fun a z ha => itr_and (fun b z hb => by
      unfold hgT
      rw [q2]
      exact and_d))]
    have key : ∀ a b, a < nc → b < nc → (wHas T (u2 (u2 M 1 o (nI b)) 1 m (nI a)) m < T 5 m ↔ ¬ τ.1 7 m ≤ vHas τ (upd (upd r m (nI a)) o (nI b)) m) := fun a b ha hb => by
      rw [has_e hT (cM_sow (cM_sow hM h6 ho hb) h6 hm ha) hm, e5, Int32.not_le, upd_comm r (fun h => hne h.symm)]
    unfold wMost
    refine ⟨fun h => ⟨rfl, fun a ha b hb => ?_⟩, fun h b hb => ?_⟩
    · have q := h b hb
      rw [most_lt, cT_nc hT] at q
      exact (key a b ha hb).mp (q.2 a ha)
    · rw [most_lt, cT_nc hT]
      refine ⟨?_, fun a ha => (key a b ha hb).mpr (h.2 a ha b hb)⟩
      have q := (key 0 b hc0 hb).mpr (h.2 0 hc0 b hb)
      obtain ⟨k, w, hk, _, ek, _⟩ := has_N hT (cM_sow (cM_sow hM h6 ho hb) h6 hm hc0) hm
      rw [has_e hT (cM_sow (cM_sow hM h6 ho hb) h6 hm hc0) hm, ek] at q
      exact Int32.lt_of_le_of_lt (nI_pos' (n := k) (by omega)) q
theorem hungs_e {T : Nat → Nat → Int32} {τ : wd_S} {nm nc : Nat} (hT : cT T τ nm nc) {M : Nat → Nat → Int32} (hM : cM M (τ.1 9) nm nc) (hc0 : 0 < nc) : wHungs T M = vHungs τ nm nc := by
  unfold wHungs vHungs
  rw [cT_nm hT]
  exact itr_c (fun i x hi => by rw [hung_e hT hM hi hc0, Int32.or_zero])

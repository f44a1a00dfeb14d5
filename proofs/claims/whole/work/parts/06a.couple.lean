/-! ===== both: what was told, and a moment, on both sides ===== -/
/-- the class's told rows T and the reference's world τ tell the same valley -/
def cT (T : Nat → Nat → Int32) (τ : wd_S) (nm nc : Nat) : Prop :=
  (T 0 3 = nI nm ∧ T 0 0 = nI nc ∧ τ.1 2 1 = nI nm ∧ τ.1 2 0 = nI nc ∧ nm ≤ 6 ∧ nc ≤ 3) ∧
  (∀ c, c < nc → T 1 c = τ.1 3 c ∧ T 2 c = τ.1 4 c ∧ pIn (T 1 c) 1 9 ∧ pIn (T 2 c) 1 9) ∧
  (∀ m, m < nm → T 3 m = τ.1 5 m ∧ T 4 m = τ.1 6 m ∧ T 5 m = τ.1 7 m ∧ pIn (T 3 m) 1 20 ∧ pIn (T 4 m) 0 9 ∧ pIn (T 5 m) 0 99) ∧
  (∀ m c, m < nm → c < nc → T (7 + m) c = τ.1 8 (3 * m + c) ∧ pIn (T (7 + m) c) 0 40)
/-- whom a man faces, on both sides -/
def cF (M : Nat → Nat → Int32) (r : Nat → Int32) (nm m : Nat) : Prop := (r (6 + m) = 0 ∧ M 2 m = -9) ∨ ∃ o, o < nm ∧ o ≠ m ∧ r (6 + m) = nI (o + 1) ∧ M 2 m = nI o ∧ M 2 o = nI m ∧ r (6 + o) = nI (m + 1)
/-- the class's moment M and the reference's row r are the same moment -/
def cM (M : Nat → Nat → Int32) (r : Nat → Int32) (nm nc : Nat) : Prop :=
  (∀ m, m < nm → M 1 m = r m ∧ (∃ c, c < nc ∧ r m = nI c) ∧ cF M r nm m ∧ M 3 m = r (12 + m) ∧ pIn (r (12 + m)) 0 3 ∧ M 4 m = r (18 + m) ∧ (r (18 + m) = 0 ∨ r (18 + m) = 1) ∧ M 5 m = r (24 + m) ∧ pIn (r (24 + m)) (-9999) 9999) ∧
  M 0 5 = r 30 ∧ (r 30 = 0 ∨ r 30 = 1) ∧ M 0 6 = r 31
theorem cT_rOk {T : Nat → Nat → Int32} {τ : wd_S} {nm nc : Nat} (hT : cT T τ nm nc) {M : Nat → Nat → Int32} {r : Nat → Int32} (hM : cM M r nm nc) : rOk (τ.1 3) r nm nc := by
  obtain ⟨⟨_, _, _, _, h6, h3⟩, hc, _, _⟩ := hT
  refine ⟨h6, h3, fun m hm => ?_, fun c h => ?_, hM.2.2.1⟩
  · obtain ⟨_, ⟨c, hc, e⟩, hf, _⟩ := hM.1 m hm
    refine ⟨?_, ?_⟩
    · rw [e]; exact ⟨nI_pos' (by omega), nI_lt hc (by omega)⟩
    · rcases hf with ⟨e, _⟩ | ⟨o, ho, _, e, _⟩
      · rw [e]; exact ⟨by decide, nI_lt (a := 0) (by omega) (by omega)⟩
      · rw [e]; exact ⟨nI_pos' (by omega), nI_lt (by omega) (by omega)⟩
  · obtain ⟨e, _, h, _⟩ := hc c h
    rw [← e]; exact h
theorem imin_e (x y : Int32) : imin x y = if y ≤ x then y else x := by
  unfold imin
  by_cases h : y < x
  · rw [if_pos h, if_pos (Int32.le_of_lt h)]
  · rw [if_neg h]
    by_cases h2 : y ≤ x
    · rw [if_pos h2]
      exact Int32.le_antisymm (Int32.not_lt.mp h) h2
    · rw [if_neg h2]
theorem one_le {x y : Int32} (h : pIn x 1 9) (hy : y = 0 ∨ y = 1) : 1 ≤ x + y := by
  obtain ⟨e, hl⟩ := ix_of (x := x) (n := 10) (Int32.le_trans (by decide) h.1) (Int32.lt_of_le_of_lt h.2 (by decide)) (by decide)
  have h1 := h.1
  rw [e] at h1 ⊢
  have h2 : 1 ≤ x.toNatClampNeg := (nI_leI (a := 1) (by decide) (by omega)).mp h1
  rcases hy with rfl | rfl
  · rw [Int32.add_zero]; exact nI_le (a := 1) h2 (by omega)
  · rw [show nI x.toNatClampNeg + 1 = nI (x.toNatClampNeg + 1) from nI_add _ 1]; exact nI_le (a := 1) (by omega) (by omega)
theorem carry_e {T : Nat → Nat → Int32} {τ : wd_S} {nm nc : Nat} (hT : cT T τ nm nc) {M : Nat → Nat → Int32} {r : Nat → Int32} (hM : cM M r nm nc) {m c : Nat} (hm : m < nm) (hc : c < nc) : wCarry T M m c = vCarry τ r m c := by
  obtain ⟨e1, e2, h1, h2⟩ := hT.2.1 c hc
  obtain ⟨f1, f2, f3, _⟩ := hT.2.2.1 m hm
  obtain ⟨_, _, _, g3, _, g4, g5, _⟩ := hM.1 m hm
  have hr := hM.2.2.1
  unfold wCarry vCarry
  rw [hM.2.1, if_pos (one_le h1 hr), g4, f1, f2, g3, e1]
  rcases g5 with q | q
  · rw [q, if_neg (by decide), show (1 : Int32) + 0 = 1 by decide, Int32.mul_one]
  · rw [q, if_pos rfl, show (1 : Int32) + 1 = 2 by decide, Int32.mul_comm 2]

/-! ===== both: years on ===== -/
theorem go_24 (σ : wd_S) (r : Nat → Int32) {nm m : Nat} (h6 : nm ≤ 6) (hm : m < nm) : goR σ r nm (24 + m) = stor (r (24 + m)) (vMore σ r m) := by
  rw [stor_e]
  unfold goR upd grR
  rw [if_neg (by omega), if_pos (by omega), show 24 + m - 24 = m by omega]
theorem more_eq {σ : wd_S} {r r' : Nat → Int32} (h : rEq r r') {W : Nat → Int32} {nm nc m : Nat} (hr : rOk W r nm nc) (hm : m < nm) : vMore σ r m = vMore σ r' m := by
  unfold vMore
  rw [vHas_eq h hr hm]
theorem rich_l (σ : wd_S) {W : Nat → Int32} {nm nc m : Nat} (h6 : nm ≤ 6) (hm : m < nm) (v g : Int32) : ∀ (k y : Nat) (r : Nat → Int32), rOk W r nm nc → vMore σ r m = g → richL v g k y (r (24 + m)) = rrL σ nm m v k y r := by
  intro k
  induction k with
  | zero => intro y r _ _; rw [richL, rrL]
  | succ k ih =>
    intro y r hr hg
    rw [richL, rrL]
    by_cases c : r (24 + m) < v
    · rw [if_pos c, if_pos c, ← hg, ← go_24 σ r h6 hm, hg]
      exact ih (y + 1) _ (rOk_eq (goR_eq σ h6) hr) ((more_eq (goR_eq σ h6) hr hm).symm.trans hg)
    · rw [if_neg c, if_neg c]
theorem rich_e {T : Nat → Nat → Int32} {τ : wd_S} {nm nc : Nat} (hT : cT T τ nm nc) {M : Nat → Nat → Int32} {r : Nat → Int32} (hM : cM M r nm nc) {m : Nat} (hm : m < nm) (v : Int32) : richL v (wGain T M m) 401 0 (M 5 m) = rrL τ nm m v 401 0 r := by
  rw [gain_e hT hM hm, (hM.1 m hm).2.2.2.2.2.2.2.1]
  exact rich_l τ hT.1.2.2.2.2.1 hm v _ 401 0 r (cT_rOk hT hM) rfl
/-- the least of the years that are not -9 -/
def pMn (p s : Int32) : Int32 := if p = -9 then s else if s = -9 then p else if s ≤ p then s else p
theorem nI_n9 {k : Nat} (h : k < 2 ^ 31) : ¬ nI k = -9 := fun q => by
  have := nI_pos' h
  rw [q] at this
  exact absurd this (by decide)
theorem poorL_r (g : Int32) : ∀ (k y : Nat) (s : Int32), poorL g k y s = -9 ∨ ∃ z, y ≤ z ∧ z < y + k ∧ poorL g k y s = nI z := by
  intro k
  induction k with
  | zero => intro y s; exact Or.inl (by rw [poorL])
  | succ k ih =>
    intro y s
    rw [poorL]
    by_cases c : 0 ≤ s
    · rw [if_pos c]
      rcases ih (y + 1) (stor s g) with q | ⟨z, h1, h2, q⟩
      · exact Or.inl q
      · exact Or.inr ⟨z, by omega, by omega, q⟩
    · rw [if_neg c]
      exact Or.inr ⟨y, Nat.le_refl _, by omega, rfl⟩
theorem pMn_f {f : Nat → Int32} {y b : Nat} (hb : b < 2 ^ 30) : ∀ n, (∀ j, j < n → f j = -9 ∨ ∃ z, y ≤ z ∧ z < b ∧ f j = nI z) → ((itr (fun j s => pMn (f j) s) (-9) n = -9 ∨ ∃ z, y ≤ z ∧ z < b ∧ itr (fun j s => pMn (f j) s) (-9) n = nI z) ∧ ((∃ j, j < n ∧ f j = nI y) → itr (fun j s => pMn (f j) s) (-9) n = nI y)) := by
  intro n
  induction n with
  | zero => intro _; rw [itr]; exact ⟨Or.inl rfl, fun ⟨j, hj, _⟩ => absurd hj (by omega)⟩
  | succ n ih =>
    intro h
    obtain ⟨i1, i2⟩ := ih (fun j hj => h j (by omega))
    rw [itr]
    generalize itr (fun j s => pMn (f j) s) (-9) n = s at i1 i2
    have hn := h n (by omega)
    unfold pMn
    rcases hn with q | ⟨z, h1, h2, q⟩
    · rw [if_pos q]
      refine ⟨i1, fun ⟨j, hj, e⟩ => ?_⟩
      by_cases ej : j = n
      · rw [ej, q] at e
        by_cases hy : y < 2 ^ 31
        · exact absurd e.symm (nI_n9 hy)
        · rcases i1 with w | ⟨z, h1, h2, w⟩
          · rw [w]; exact e
          · omega
      · exact i2 ⟨j, by omega, e⟩
    · rw [if_neg (by rw [q]; exact nI_n9 (by omega)), q]
      rcases i1 with w | ⟨z2, g1, g2, w⟩
      · rw [if_pos w]
        refine ⟨Or.inr ⟨z, h1, h2, rfl⟩, fun ⟨j, hj, e⟩ => ?_⟩
        by_cases ej : j = n
        · rw [ej, q] at e; exact e
        · exact absurd ((i2 ⟨j, by omega, e⟩).symm.trans w) (nI_n9 (by omega))
      · rw [if_neg (by rw [w]; exact nI_n9 (by omega))]
        by_cases c : s ≤ nI z
        · rw [if_pos c]
          refine ⟨Or.inr ⟨z2, g1, g2, w⟩, fun ⟨j, hj, e⟩ => ?_⟩
          by_cases ej : j = n
          · rw [ej, q] at e
            rw [e, w, nI_leI (by omega) (by omega)] at c
            rw [w, show z2 = y by omega]
          · exact i2 ⟨j, by omega, e⟩
        · rw [if_neg c]
          refine ⟨Or.inr ⟨z, h1, h2, rfl⟩, fun ⟨j, hj, e⟩ => ?_⟩
          by_cases ej : j = n
          · rw [ej, q] at e; exact e
          · have e2 := i2 ⟨j, by omega, e⟩
            rw [e2, nI_leI (by omega) (by omega)] at c
            omega
theorem poor_l (σ : wd_S) {W : Nat → Int32} {nm nc : Nat} (h6 : nm ≤ 6) (g : Nat → Int32) : ∀ (k y : Nat) (r : Nat → Int32), y + k < 2 ^ 30 → rOk W r nm nc → (∀ j, j < nm → vMore σ r j = g j) → itr (fun j s => pMn (poorL (g j) k y (r (24 + j))) s) (-9) nm = prL σ nm k y r := by
  intro k
  induction k with
  | zero =>
    intro y r _ _ _
    rw [prL]
    have : ∀ n, itr (fun j s => pMn (poorL (g j) 0 y (r (24 + j))) s) (-9) n = -9 := by
      intro n
      induction n with
      | zero => rw [itr]
      | succ n ih => rw [itr, ih, pMn, poorL, if_pos rfl]
    exact this nm
  | succ k ih =>
    intro y r hk hr hg
    rw [prL]
    by_cases c : ∀ j, j < nm → 0 ≤ r (24 + j)
    · rw [if_pos c, ← ih (y + 1) _ (by omega) (rOk_eq (goR_eq σ h6) hr) (fun j hj => (more_eq (goR_eq σ h6) hr hj).symm.trans (hg j hj))]
      refine itr_c (fun j s hj => ?_)
      rw [poorL, if_pos (c j hj), go_24 σ r h6 hj, hg j hj]
    · rw [if_neg c]
      have hx : ∃ j, j < nm ∧ ¬ 0 ≤ r (24 + j) := Classical.byContradiction (fun q => c (fun j hj => Classical.byContradiction (fun w => q ⟨j, hj, w⟩)))
      obtain ⟨j, hj, hn⟩ := hx
      exact (pMn_f (b := y + (k + 1)) (by omega) nm (fun j _ => poorL_r (g j) (k + 1) y _)).2 ⟨j, hj, by rw [poorL, if_neg hn]⟩
theorem poor_e {T : Nat → Nat → Int32} {τ : wd_S} {nm nc : Nat} (hT : cT T τ nm nc) {M : Nat → Nat → Int32} {r : Nat → Int32} (hM : cM M r nm nc) : poorV T M = prL τ nm 401 0 r := by
  have h6 := hT.1.2.2.2.2.1
  rw [← poor_l τ h6 (fun j => vMore τ r j) 401 0 r (by decide) (cT_rOk hT hM) (fun _ _ => rfl)]
  unfold poorV
  rw [cT_nm hT]
  refine itr_c (fun j s hj => ?_)
  unfold poorS pMn
  rw [gain_e hT hM hj, (hM.1 j hj).2.2.2.2.2.2.2.1]

/-! ===== both: the first moment of a valley ===== -/
theorem oth_e {m : Nat} (hm : m < 2 ^ 30) : oth (nI m) = nI (pt m) := by
  unfold oth
  rw [show nI m - nI m / 2 * 2 = nI (m % 2) from pk_rem (a := m) (d := 2) (by omega) (by decide) (by decide)]
  by_cases c : nI (m % 2) = 0
  · rw [if_pos c]; exact par_0 c
  · rw [if_neg c]; exact par_1 c
theorem pt_pt (m : Nat) : pt (pt m) = m ∧ pt m ≠ m := by
  unfold pt
  by_cases c : m % 2 = 0
  · rw [if_pos c, if_neg (by omega)]; exact ⟨by omega, by omega⟩
  · rw [if_neg c, if_pos (by omega)]; exact ⟨by omega, by omega⟩
theorem beg_e {nm m : Nat} (h6 : nm ≤ 6) (hm : m < nm) : begV (nI nm) (nI m) = if pt m < nm then nI (pt m) else -9 := by
  have hp : pt m ≤ 7 := by
    unfold pt
    by_cases e : m % 2 = 0
    · rw [if_pos e]; omega
    · rw [if_neg e]; omega
  unfold begV
  rw [oth_e (by omega), if_neg (by rw [nI_leI (by omega) (by omega)]; omega)]
  by_cases c : pt m < nm
  · rw [if_pos c, if_neg (by rw [nI_leI (by omega) (by omega)]; omega)]
  · rw [if_neg c, if_pos (by rw [nI_leI (by omega) (by omega)]; omega)]
theorem cM_beg {r : Nat → Int32} {nm nc : Nat} (h6 : nm ≤ 6) (hc : 0 < nm → 0 < nc) (hz : ∀ k, k < 32 → ¬ (6 ≤ k ∧ k < 12) → r k = 0) (hf : ∀ m, m < 6 → r (6 + m) = pF nm m) : cM (begM (nI nm)) r nm nc := by
  refine ⟨fun m hm => ?_, ?_, ?_, ?_⟩
  · refine ⟨?_, ⟨0, hc (by omega), ?_⟩, ?_, ?_, ?_, ?_, ?_, ?_, ?_⟩
    · rw [hz m (by omega) (by omega)]; rfl
    · rw [hz m (by omega) (by omega)]; rfl
    · have e1 : begM (nI nm) 2 m = begV (nI nm) (nI m) := rfl
      have f1 := hf m (by omega)
      by_cases c : pt m < nm
      · refine Or.inr ⟨pt m, c, (pt_pt m).2, ?_, ?_, ?_, ?_⟩
        · rw [f1, pF, if_pos ⟨hm, c⟩]
        · rw [e1, beg_e h6 hm, if_pos c]
        · show begV (nI nm) (nI (pt m)) = _
          rw [beg_e h6 c, (pt_pt m).1, if_pos hm]
        · rw [hf (pt m) (by omega), pF, (pt_pt m).1, if_pos ⟨c, hm⟩]
      · refine Or.inl ⟨?_, ?_⟩
        · rw [f1, pF, if_neg (fun h => c h.2)]
        · rw [e1, beg_e h6 hm, if_neg c]
    · rw [hz (12 + m) (by omega) (by omega)]; rfl
    · rw [hz (12 + m) (by omega) (by omega)]; exact ⟨by decide, by decide⟩
    · rw [hz (18 + m) (by omega) (by omega)]; rfl
    · rw [hz (18 + m) (by omega) (by omega)]; exact Or.inl rfl
    · rw [hz (24 + m) (by omega) (by omega)]; rfl
    · rw [hz (24 + m) (by omega) (by omega)]; exact ⟨by decide, by decide⟩
  · rw [hz 30 (by decide) (by omega)]; rfl
  · rw [hz 30 (by decide) (by omega)]; exact Or.inl rfl
  · rw [hz 31 (by decide) (by omega)]; rfl

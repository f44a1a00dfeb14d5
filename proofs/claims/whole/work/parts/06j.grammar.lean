/-! ===== both: the grammar ===== -/
theorem numE_e {L : Nat → Int32} {n : Nat} {lo hi : Int32} {b f : Nat} (h : numP L n lo hi b = .error f) : numE L n lo hi (.ok b) = (0, .error f) := by
  unfold numE
  simp only [h]
theorem numE_o {L : Nat → Int32} {n : Nat} {lo hi v : Int32} {b b' : Nat} (h : numP L n lo hi b = .ok (v, b')) : numE L n lo hi (.ok b) = (v, .ok b') := by
  unfold numE
  simp only [h]
theorem crop_e (L : Nat → Int32) (n : Nat) (s : wd_S) (b : Nat) : (∃ f, cropP L n b = .error f ∧ stpE L n (crE L n s b).2 = .error f) ∨ ∃ w v b', cropP L n b = .ok (w, v, b') ∧ stpE L n (crE L n s b).2 = .ok b' ∧ (crE L n s b).1 = crW s (cN s) w v := by
  unfold crE nE19 cropP
  cases h1 : numP L n 1 9 b with
  | error f => exact Or.inl ⟨f, rfl, by rw [numE_e h1]; rfl⟩
  | ok p =>
    obtain ⟨w, b1⟩ := p
    rw [numE_o h1]
    simp only []
    cases h2 : numP L n 1 9 b1 with
    | error f => exact Or.inl ⟨f, rfl, by rw [numE_e h2]; rfl⟩
    | ok p =>
      obtain ⟨v, b2⟩ := p
      rw [numE_o h2]
      simp only []
      cases h3 : stopP L n b2 with
      | error f => exact Or.inl ⟨f, rfl, h3⟩
      | ok b3 => exact Or.inr ⟨w, v, b3, rfl, h3, rfl⟩

/-! ===== both: a man's grammar ===== -/
theorem man_e (L : Nat → Int32) (n : Nat) (s : wd_S) (c m : Nat) (row : Nat → Int32) (b : Nat) : (∃ f, manP L n c row b = .error f ∧ stpE L n (mnB L n s c m (.ok b)).2 = .error f) ∨ ∃ x l d row' b', manP L n c row b = .ok (x, l, d, row', b') ∧ stpE L n (mnB L n s c m (.ok b)).2 = .ok b' ∧ (mnB L n s c m (.ok b)).1 = yW (wd_up (wd_up (wd_up s 5 (6 + m) x) 6 (6 + m) l) 7 (6 + m) d) m 0 c row' ∧ (∀ j, c ≤ j → row' j = row j) := by
  have er : ∀ (t : wd_S) (f : Nat), (itr (yRs L n m) (t, .error f) c).2 = .error f := fun t f => yRs_er L n m f 0 t c
  unfold mnB mnA manP
  cases h1 : numP L n 1 20 b with
  | error f =>
    refine Or.inl ⟨f, rfl, ?_⟩
    rw [numE_e h1]
    show stpE L n (itr (yRs L n m) (_, .error f) c).2 = .error f
    rw [er]
    rfl
  | ok p =>
    obtain ⟨x, b1⟩ := p
    rw [numE_o h1]
    simp only []
    cases h2 : numP L n 0 9 b1 with
    | error f =>
      refine Or.inl ⟨f, rfl, ?_⟩
      rw [numE_e h2]
      show stpE L n (itr (yRs L n m) (_, .error f) c).2 = .error f
      rw [er]
      rfl
    | ok p =>
      obtain ⟨l, b2⟩ := p
      rw [numE_o h2]
      simp only []
      cases h3 : numP L n 0 99 b2 with
      | error f =>
        refine Or.inl ⟨f, rfl, ?_⟩
        rw [numE_e h3]
        show stpE L n (itr (yRs L n m) (_, .error f) c).2 = .error f
        rw [er]
        rfl
      | ok p =>
        obtain ⟨d, b3⟩ := p
        rw [numE_o h3]
        simp only []
        rcases yP_e L n m c 0 row b3 (wd_up (wd_up (wd_up s 5 (6 + m) x) 6 (6 + m) l) 7 (6 + m) d) with ⟨f, q1, q2⟩ | ⟨row', b4, q1, q2, q3, q4⟩
        · refine Or.inl ⟨f, by rw [q1], ?_⟩
          rw [show (itr (yRs L n m) _ c).2 = .error f from q2]
          rfl
        · rw [q1, show (itr (yRs L n m) _ c).2 = .ok b4 from q2]
          simp only []
          cases h5 : stopP L n b4 with
          | error f => exact Or.inl ⟨f, rfl, h5⟩
          | ok b5 => exact Or.inr ⟨x, l, d, row', b5, rfl, h5, q3, fun j hj => q4 j (Or.inr (by omega))⟩

/-! ===== both: a man's yields ===== -/
theorem yRs_er (L : Nat → Int32) (n m f c0 : Nat) (s : wd_S) : ∀ c, (itr (fun i => yRs L n m (i + c0)) (s, .error f) c).2 = .error f := by
  intro c
  induction c with
  | zero => rw [itr]
  | succ c ih =>
    rw [itr]
    show (numE L n 0 40 (itr (fun i => yRs L n m (i + c0)) (s, .error f) c).2).2 = .error f
    rw [ih]
    rfl
/-- an iteration's first step taken apart -/
theorem itr_f {α : Type} (f : Nat → α → α) (a : α) : ∀ n, itr f a (n + 1) = itr (fun i => f (i + 1)) (f 0 a) n := by
  intro n
  induction n with
  | zero => rw [itr, itr, itr]
  | succ n ih => rw [itr, ih, itr]
/-- the yields of man m from crop c on, k of them, written -/
def yW (s : wd_S) (m c k : Nat) (row : Nat → Int32) : wd_S := (fun a i => if a = 8 ∧ 3 * (6 + m) + c ≤ i ∧ i < 3 * (6 + m) + c + k then row (i - 3 * (6 + m)) else s.1 a i, s.2)
theorem yP_e (L : Nat → Int32) (n m : Nat) : ∀ (k c : Nat) (row : Nat → Int32) (b : Nat) (s : wd_S), (∃ f, yP L n k c row b = .error f ∧ (itr (fun i => yRs L n m (i + c)) (s, .ok b) k).2 = .error f) ∨ ∃ row' b', yP L n k c row b = .ok (row', b') ∧ (itr (fun i => yRs L n m (i + c)) (s, .ok b) k).2 = .ok b' ∧ (itr (fun i => yRs L n m (i + c)) (s, .ok b) k).1 = yW s m c k row' ∧ (∀ j, j < c ∨ c + k ≤ j → row' j = row j) := by
  intro k
  induction k with
  | zero =>
    intro c row b s
    refine Or.inr ⟨row, b, rfl, rfl, ?_, fun _ _ => rfl⟩
    rw [itr]
    exact wd_ext (fun a => funext fun i => (if_neg (by omega)).symm) rfl
  | succ k ih =>
    intro c row b s
    rw [itr_f]
    have ef : (fun i => yRs L n m (i + 1 + c)) = fun i => yRs L n m (i + (c + 1)) := by
      funext i
      rw [show i + 1 + c = i + (c + 1) by omega]
    rw [ef, yP]
    cases h : numP L n 0 40 b with
    | error f =>
      refine Or.inl ⟨f, rfl, ?_⟩
      have e : yRs L n m (0 + c) (s, .ok b) = (wd_up s 8 (3 * (6 + m) + (0 + c)) 0, .error f) := by
        unfold yRs
        simp only [numE_e h]
      rw [e]
      exact yRs_er L n m f (c + 1) _ k
    | ok p =>
      obtain ⟨v, b1⟩ := p
      have e : yRs L n m (0 + c) (s, .ok b) = (wd_up s 8 (3 * (6 + m) + (0 + c)) v, .ok b1) := by
        unfold yRs
        simp only [numE_o h]
      rw [e, Nat.zero_add]
      rcases ih (c + 1) (upd row c v) b1 (wd_up s 8 (3 * (6 + m) + c) v) with ⟨f, h1, h2⟩ | ⟨row', b', h1, h2, h3, h4⟩
      · exact Or.inl ⟨f, h1, h2⟩
      · refine Or.inr ⟨row', b', h1, h2, ?_, fun j hj => ?_⟩
        · rw [h3]
          have hv : row' c = v := by rw [h4 c (by omega)]; exact if_pos rfl
          refine wd_ext (fun a => funext fun i => ?_) rfl
          show (if a = 8 ∧ 3 * (6 + m) + (c + 1) ≤ i ∧ i < 3 * (6 + m) + (c + 1) + k then row' (i - 3 * (6 + m)) else if a = 8 ∧ i = 3 * (6 + m) + c then v else s.1 a i) = if a = 8 ∧ 3 * (6 + m) + c ≤ i ∧ i < 3 * (6 + m) + c + (k + 1) then row' (i - 3 * (6 + m)) else s.1 a i
          by_cases q : a = 8 ∧ i = 3 * (6 + m) + c
          · rw [if_neg (by omega), if_pos q, if_pos (by omega), q.2, show 3 * (6 + m) + c - 3 * (6 + m) = c by omega, hv]
          · rw [if_neg q]
            by_cases q2 : a = 8 ∧ 3 * (6 + m) + (c + 1) ≤ i ∧ i < 3 * (6 + m) + (c + 1) + k
            · rw [if_pos q2, if_pos (by omega)]
            · rw [if_neg q2, if_neg (by omega)]
        · rw [h4 j (by omega)]
          exact if_neg (by omega)

/-! ===== both: a man's yields ===== -/
theorem yRs_er (L : Nat → Int32) (n m f : Nat) (s : wd_S) : ∀ c, (itr (yRs L n m) (s, .error f) c).2 = .error f := by
  intro c
  induction c with
  | zero => rw [itr]
  | succ c ih =>
    rw [itr]
    unfold yRs
    show (numE L n 0 40 (itr (yRs L n m) (s, .error f) c).2).2 = .error f
    rw [ih]
    rfl
/-- an iteration's first step taken apart -/
theorem itr_f {α : Type} (f : Nat → α → α) (a : α) : ∀ n, itr f a (n + 1) = itr (fun i => f (i + 1)) (f 0 a) n := by
  intro n
  induction n with
  | zero => rw [itr, itr, itr]
  | succ n ih => rw [itr, ih, itr]

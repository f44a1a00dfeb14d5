/-! ===== sums and digits ===== -/
def sm (f : Nat → Nat) (n : Nat) : Nat := itr (fun k s => s + f k) 0 n
theorem sm_0 (f : Nat → Nat) : sm f 0 = 0 := rfl
theorem sm_s (f : Nat → Nat) (n : Nat) : sm f (n + 1) = sm f n + f n := rfl
theorem sm_c {f g : Nat → Nat} {n : Nat} (h : ∀ k, k < n → f k = g k) : sm f n = sm g n := by
  induction n with
  | zero => rw [sm_0, sm_0]
  | succ n ih => rw [sm_s, sm_s, ih (fun k hk => h k (by omega)), h n (by omega)]
theorem sm_le {f g : Nat → Nat} {n : Nat} (h : ∀ k, k < n → f k ≤ g k) : sm f n ≤ sm g n := by
  induction n with
  | zero => rw [sm_0, sm_0]; exact Nat.le_refl 0
  | succ n ih => rw [sm_s, sm_s]; exact Nat.add_le_add (ih (fun k hk => h k (by omega))) (h n (by omega))
theorem sm_eq {f g : Nat → Nat} {n : Nat} (h : ∀ k, k < n → f k ≤ g k) (e : sm f n = sm g n) : ∀ k, k < n → f k = g k := by
  induction n with
  | zero => intro k hk; exact absurd hk (by omega)
  | succ n ih =>
    rw [sm_s, sm_s] at e
    have h1 := sm_le (n := n) (fun k hk => h k (by omega))
    have h2 := h n (by omega)
    intro k hk
    by_cases q : k = n
    · subst q; omega
    · exact ih (fun k hk => h k (by omega)) (by omega) k (by omega)
theorem sm_add (f g : Nat → Nat) (n : Nat) : sm (fun k => f k + g k) n = sm f n + sm g n := by
  induction n with
  | zero => rw [sm_0, sm_0, sm_0]
  | succ n ih => rw [sm_s, sm_s, sm_s, ih]; omega
theorem sm_z (n : Nat) : sm (fun _ => 0) n = 0 := by
  induction n with
  | zero => rw [sm_0]
  | succ n ih => rw [sm_s, ih]
theorem sm_swap (f : Nat → Nat → Nat) (n k : Nat) : sm (fun i => sm (fun j => f i j) k) n = sm (fun j => sm (fun i => f i j) n) k := by
  induction n with
  | zero =>
    rw [sm_0]
    rw [sm_c (g := fun _ => 0) (fun j _ => sm_0 _), sm_z]
  | succ n ih =>
    rw [sm_s, ih, ← sm_add]
    rfl
theorem sm_pt (g : Nat → Nat) (o n : Nat) (h : o < n) : sm (fun j => if j = o then g j else 0) n = g o := by
  induction n with
  | zero => exact absurd h (by omega)
  | succ n ih =>
    rw [sm_s]
    by_cases q : o = n
    · rw [if_pos q.symm, sm_c (g := fun _ => 0) (fun k hk => if_neg (by omega)), sm_z, q, Nat.zero_add]
    · rw [ih (by omega), if_neg (by omega), Nat.add_zero]
/-- what a leader of two brings -/
def wt (p : Nat → Option Nat) (g : Nat → Nat) (j : Nat) : Nat := match p j with
  | none => g j
  | some o => if j < o then g j + g o else 0
theorem wt_sum {p : Nat → Option Nat} {nm : Nat} (h : ∀ m, m < nm → ∀ o, p m = some o → o < nm ∧ o ≠ m ∧ p o = some m) (g : Nat → Nat) : sm g nm = sm (wt p g) nm := by
  have e1 : ∀ j, j < nm → g j = (match p j with | none => g j | some o => if j < o then g j else 0) + sm (fun o => if p j = some o ∧ o < j then g j else 0) nm := fun j hj => by
    cases hp : p j with
    | none =>
      rw [sm_c (g := fun _ => 0) (fun k hk => if_neg (fun e => nomatch e.1)), sm_z]
      rfl
    | some o =>
      obtain ⟨q1, q2, q3⟩ := h j hj o hp
      show g j = (if j < o then g j else 0) + _
      by_cases c : j < o
      · rw [if_pos c, sm_c (g := fun _ => 0) (fun k hk => if_neg (fun e => by have e1 := e.1; injection e1 with e1; omega)), sm_z, Nat.add_zero]
      · rw [if_neg c, Nat.zero_add, sm_c (g := fun k => if k = o then (fun _ => g j) k else 0) (fun k hk => ?_), sm_pt (fun _ => g j) o nm q1]
        by_cases e : k = o
        · rw [if_pos e, if_pos ⟨by rw [e], by omega⟩]
        · rw [if_neg e, if_neg (fun z => e (by have e1 := z.1; injection e1 with e1; exact e1.symm))]
  have e2 : ∀ j, j < nm → wt p g j = (match p j with | none => g j | some o => if j < o then g j else 0) + sm (fun o => if p o = some j ∧ j < o then g o else 0) nm := fun j hj => by
    unfold wt
    cases hp : p j with
    | none =>
      rw [sm_c (g := fun _ => 0) (fun k hk => if_neg (fun e => by have := (h k hk j e.1).2.2; rw [hp] at this; exact nomatch this)), sm_z]
      rfl
    | some o =>
      obtain ⟨q1, q2, q3⟩ := h j hj o hp
      show (if j < o then g j + g o else 0) = (if j < o then g j else 0) + _
      by_cases c : j < o
      · rw [if_pos c, if_pos c, sm_c (g := fun k => if k = o then g k else 0) (fun k hk => ?_), sm_pt g o nm q1]
        by_cases e : k = o
        · rw [if_pos e, if_pos (by rw [e]; exact ⟨q3, c⟩)]
        · rw [if_neg e, if_neg (fun z => e (by have := (h k hk j z.1).2.2; rw [hp] at this; injection this with this; exact this.symm))]
      · rw [if_neg c, if_neg c, sm_c (g := fun _ => 0) (fun k hk => if_neg (fun z => by have := (h k hk j z.1).2.2; rw [hp] at this; injection this with this; omega)), sm_z]
  rw [sm_c e1, sm_c e2, sm_add, sm_add, sm_swap]
/-- the digits of a number by base B, the first of nm the highest -/
def dgt (B nm w k : Nat) : Nat := w / B ^ (nm - 1 - k) % B
theorem dgt_q {B nm k : Nat} (hB : 0 < B) (hk : k < nm) (w : Nat) : w / B ^ (nm - (k + 1)) = B * (w / B ^ (nm - k)) + dgt B nm w k := by
  unfold dgt
  rw [show nm - 1 - k = nm - (k + 1) by omega, show nm - k = nm - (k + 1) + 1 by omega, Nat.pow_succ, ← Nat.div_div_eq_div_mul]
  exact (Nat.div_add_mod _ B).symm
theorem dgt_lt {B : Nat} (hB : 0 < B) (nm w k : Nat) : dgt B nm w k < B := Nat.mod_lt _ hB
/-- the order of numbers is that of their digits -/
theorem dgt_lex {B nm x y : Nat} (hB : 0 < B) (hx : x < B ^ nm) (hy : y < B ^ nm) (h : ∀ k, k < nm → (∀ j, j < k → dgt B nm x j = dgt B nm y j) → dgt B nm x k ≤ dgt B nm y k) : x ≤ y := by
  have key : ∀ k, k ≤ nm → x / B ^ (nm - k) ≤ y / B ^ (nm - k) ∧ (x / B ^ (nm - k) = y / B ^ (nm - k) → ∀ j, j < k → dgt B nm x j = dgt B nm y j) := by
    intro k
    induction k with
    | zero =>
      intro _
      rw [Nat.sub_zero, Nat.div_eq_of_lt hx, Nat.div_eq_of_lt hy]
      exact ⟨Nat.le_refl _, fun _ j hj => absurd hj (by omega)⟩
    | succ k ih =>
      intro hk
      obtain ⟨i1, i2⟩ := ih (by omega)
      rw [dgt_q hB (by omega) x, dgt_q hB (by omega) y]
      have lx := dgt_lt hB nm x k
      have ly := dgt_lt hB nm y k
      rcases Nat.lt_or_ge (x / B ^ (nm - k)) (y / B ^ (nm - k)) with c | c
      · have m1 : B * (x / B ^ (nm - k) + 1) ≤ B * (y / B ^ (nm - k)) := Nat.mul_le_mul_left B c
        rw [Nat.mul_add, Nat.mul_one] at m1
        exact ⟨by omega, fun e => absurd e (by omega)⟩
      · have e := Nat.le_antisymm i1 c
        have hj := i2 e
        have hk2 := h k (by omega) hj
        rw [e]
        refine ⟨by omega, fun e2 j hj2 => ?_⟩
        by_cases q : j = k
        · subst q; omega
        · exact hj j (by omega)
  have := (key nm (Nat.le_refl _)).1
  rw [Nat.sub_self, Nat.pow_zero, Nat.div_one, Nat.div_one] at this
  exact this
theorem dgt_inj {B nm x y : Nat} (hB : 0 < B) (hx : x < B ^ nm) (hy : y < B ^ nm) (h : ∀ k, k < nm → dgt B nm x k = dgt B nm y k) : x = y :=
  Nat.le_antisymm (dgt_lex hB hx hy (fun k hk _ => Nat.le_of_eq (h k hk))) (dgt_lex hB hy hx (fun k hk _ => Nat.le_of_eq (h k hk).symm))
/-- the number of digits f -/
def numD (B : Nat) (f : Nat → Nat) (nm : Nat) : Nat := itr (fun k s => B * s + f k) 0 nm
theorem numD_lt {B : Nat} {f : Nat → Nat} {nm : Nat} (h : ∀ k, k < nm → f k < B) : numD B f nm < B ^ nm := by
  induction nm with
  | zero => exact Nat.zero_lt_one
  | succ n ih =>
    have h1 := ih (fun k hk => h k (by omega))
    have h2 := h n (by omega)
    show B * numD B f n + f n < B ^ (n + 1)
    have h3 : B * (numD B f n + 1) ≤ B * B ^ n := Nat.mul_le_mul_left B h1
    rw [Nat.mul_add, Nat.mul_one] at h3
    rw [Nat.pow_succ, Nat.mul_comm (B ^ n)]
    omega
theorem numD_d {B : Nat} {f : Nat → Nat} {nm : Nat} (hB : 0 < B) (h : ∀ k, k < nm → f k < B) : ∀ k, k < nm → dgt B nm (numD B f nm) k = f k := by
  have key : ∀ j, j ≤ nm → numD B f nm / B ^ (nm - j) = numD B f j := by
    intro j hj
    obtain ⟨d, hd⟩ : ∃ d, nm = j + d := ⟨nm - j, by omega⟩
    subst hd
    rw [Nat.add_sub_cancel_left]
    clear hj
    induction d with
    | zero => rw [Nat.pow_zero, Nat.div_one, Nat.add_zero]
    | succ d ih =>
      rw [Nat.pow_succ, Nat.mul_comm, ← Nat.div_div_eq_div_mul]
      have e : numD B f (j + (d + 1)) / B = numD B f (j + d) := by
        show (B * numD B f (j + d) + f (j + d)) / B = _
        rw [Nat.mul_add_div hB, Nat.div_eq_of_lt (h (j + d) (by omega)), Nat.add_zero]
      rw [e]
      exact ih (fun k hk => h k (by omega))
  intro k hk
  have h1 := dgt_q hB hk (numD B f nm)
  rw [key (k + 1) (by omega), key k (by omega)] at h1
  have h2 : numD B f (k + 1) = B * numD B f k + f k := rfl
  omega

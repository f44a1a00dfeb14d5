/-! ===== both: fractions ===== -/
theorem gcl_1 {k a b : Nat} (ha : a < 2 ^ 31) (hb : b < 2 ^ 31) (h0 : 0 < b) : gcl (k + 1) (nI a) (nI b) = gcl k (nI b) (nI (a % b)) := by
  rw [gcl, if_neg (nI_ne0 h0 hb), pk_rem ha h0 hb]
theorem gcl_0 {k a : Nat} : gcl k (nI a) (nI 0) = nI a := by
  cases k with
  | zero => rw [gcl]
  | succ k => rw [gcl, if_pos (show nI 0 = 0 from rfl)]
theorem gcl_N : ∀ (j k a b : Nat), a < 2 ^ 31 → b < 2 ^ 31 → b < 2 ^ j → 2 * j ≤ k → gcl k (nI a) (nI b) = nI (Nat.gcd b a) := by
  intro j
  induction j with
  | zero =>
    intro k a b ha hb h _
    have e : b = 0 := by omega
    rw [e, gcl_0, Nat.gcd_zero_left]
  | succ j ih =>
    intro k a b ha hb h hk
    rcases Nat.eq_zero_or_pos b with e | hb0
    · rw [e, gcl_0, Nat.gcd_zero_left]
    · obtain ⟨k1, rfl⟩ : ∃ k1, k = k1 + 1 + 1 := ⟨k - 2, by omega⟩
      have hx := Nat.mod_lt a hb0
      rw [gcl_1 ha hb hb0, Nat.gcd_rec b a]
      generalize a % b = x at hx
      rcases Nat.eq_zero_or_pos x with e | hx0
      · rw [e, gcl_0, Nat.gcd_zero_left]
      · have hy := Nat.mod_lt b hx0
        have hh : 2 * (b % x) < b := by
          have hd : 1 ≤ b / x := (Nat.le_div_iff_mul_le hx0).mpr (by omega)
          have hm := Nat.div_add_mod b x
          have : x ≤ x * (b / x) := Nat.le_mul_of_pos_right x hd
          omega
        rw [gcl_1 hb (by omega) hx0, Nat.gcd_rec x b]
        refine ih k1 x (b % x) (by omega) (by omega) ?_ (by omega)
        have : 2 ^ (j + 1) = 2 * 2 ^ j := by rw [Nat.pow_succ, Nat.mul_comm]
        omega
theorem least_e {A B : Nat} (hA : A < 2 ^ 31) (hB : B < 2 ^ 31) (h0 : 0 < B) (w : Int32) : leastV (nI A) (nI B) w = if w = 0 then nI A / nI (Nat.gcd A B) else nI B / nI (Nat.gcd A B) := by
  have e := gcl_N 31 64 B A hB hA hA (by decide)
  have hg0 : 0 < Nat.gcd A B := Nat.gcd_pos_of_pos_right A h0
  have hg2 : Nat.gcd A B < 2 ^ 31 := Nat.lt_of_le_of_lt (Nat.gcd_le_right A h0) hB
  unfold leastV
  rw [e, if_neg (nI_ne0 hg0 hg2)]
theorem all_N {T : Nat → Nat → Int32} {τ : wd_S} {nm nc : Nat} (hT : cT T τ nm nc) {M : Nat → Nat → Int32} (hM : cM M (τ.1 9) nm nc) : ∃ B, B ≤ 4320 ∧ vAll τ nm = nI B ∧ ∀ m, m < nm → ∃ A, A ≤ B ∧ vHas τ (τ.1 9) m = nI A := by
  have h6 := hT.1.2.2.2.2.1
  have key : ∀ n, n ≤ nm → ∃ B, B ≤ 720 * n ∧ itr (fun m a => a + vHas τ (τ.1 9) m) 0 n = nI B ∧ ∀ m, m < n → ∃ A, A ≤ B ∧ vHas τ (τ.1 9) m = nI A := by
    intro n
    induction n with
    | zero => intro _; exact ⟨0, by omega, by rw [itr]; rfl, fun m hm => absurd hm (by omega)⟩
    | succ n ih =>
      intro hn
      obtain ⟨B, hB, eB, hm⟩ := ih (by omega)
      obtain ⟨k, w, hk, _, ek, _⟩ := has_N hT hM (m := n) (by omega)
      refine ⟨B + k, by omega, by rw [itr, eB, ek, nI_add], fun m h => ?_⟩
      by_cases e : m = n
      · exact ⟨k, by omega, e ▸ ek⟩
      · obtain ⟨A, hA, eA⟩ := hm m (by omega)
        exact ⟨A, by omega, eA⟩
  obtain ⟨B, hB, eB, hm⟩ := key nm (Nat.le_refl _)
  exact ⟨B, by omega, eB, hm⟩
theorem oIn_N (σ : wd_S) (nm X w : Nat) (hX : X ≤ 10) (r : Nat → Int32) : ∀ n, ∃ p, p ≤ 10 ^ n ∧ (itr (oIn σ nm (nI X) w) (1, r) n).1 = nI p := by
  intro n
  induction n with
  | zero => rw [itr]; exact ⟨1, by decide, rfl⟩
  | succ n ih =>
    obtain ⟨p, hp, e⟩ := ih
    rw [itr]
    generalize itr (oIn σ nm (nI X) w) (1, r) n = s at e
    unfold oIn
    have h1 : p * X ≤ 10 ^ (n + 1) := by rw [Nat.pow_succ]; exact Nat.mul_le_mul hp hX
    have h2 : p * (10 - X) ≤ 10 ^ (n + 1) := by rw [Nat.pow_succ]; exact Nat.mul_le_mul hp (by omega)
    by_cases c : bit w n = 1
    · exact ⟨p * X, h1, by show (if bit w n = 1 then _ else _) = _; rw [if_pos c, e, pk_mul]⟩
    · exact ⟨p * (10 - X), h2, by show (if bit w n = 1 then _ else _) = _; rw [if_neg c, e, show (10 : Int32) - nI X = nI (10 - X) from pk_sub hX, pk_mul]⟩
theorem oV_N (σ : wd_S) (nm m X n : Nat) (hX : X ≤ 10) (v : Int32) : ∃ A, A ≤ 2 ^ n * 10 ^ n ∧ oV σ nm m (nI X) v n = nI A := by
  have key : ∀ k, ∃ A, A ≤ k * 10 ^ n ∧ itr (oOut σ nm m (nI X) v n) 0 k = nI A := by
    intro k
    induction k with
    | zero => rw [itr]; exact ⟨0, Nat.zero_le _, rfl⟩
    | succ k ih =>
      obtain ⟨A, hA, e⟩ := ih
      obtain ⟨p, hp, ep⟩ := oIn_N σ nm X k hX (σ.1 9) n
      rw [itr, e]
      unfold oOut
      have hs : A + p ≤ (k + 1) * 10 ^ n := by rw [Nat.succ_mul]; omega
      by_cases c : (itr (oIn σ nm (nI X) k) (1, σ.1 9) n).2 (24 + m) < v
      · rw [if_pos c, Int32.add_zero]; exact ⟨A, by omega, rfl⟩
      · rw [if_neg c, ep, nI_add]; exact ⟨A + p, hs, rfl⟩
  exact key (2 ^ n)
theorem pow10_N (n : Nat) : pow10 n = nI (10 ^ n) := by
  unfold pow10
  induction n with
  | zero => rw [itr]; rfl
  | succ n ih => rw [itr, ih, show (10 : Int32) = nI 10 from rfl, pk_mul, Nat.pow_succ]

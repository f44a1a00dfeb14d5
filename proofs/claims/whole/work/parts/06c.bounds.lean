/-! ===== both: bounds, what if ===== -/
theorem pin_N {x : Int32} {a b : Nat} (h : pIn x (nI a) (nI b)) (hb : b < 2 ^ 30) (hab : a ≤ b) : ∃ j, a ≤ j ∧ j ≤ b ∧ x = nI j := by
  have h0 : 0 ≤ x := Int32.le_trans (nI_pos' (n := a) (by omega)) h.1
  have h1 : x < nI (b + 1) := Int32.lt_of_le_of_lt h.2 (nI_lt (by omega) (by omega))
  obtain ⟨e, hl⟩ := ix_of h0 h1 (by omega)
  have h2 := h.1
  rw [e] at h2
  exact ⟨x.toNatClampNeg, (nI_leI (by omega) (by omega)).mp h2, by omega, e⟩
theorem carry_N {T : Nat → Nat → Int32} {τ : wd_S} {nm nc : Nat} (hT : cT T τ nm nc) {M : Nat → Nat → Int32} {r : Nat → Int32} (hM : cM M r nm nc) {m c : Nat} (hm : m < nm) (hc : c < nc) : ∃ k, k ≤ 522 ∧ vCarry τ r m c = nI k := by
  obtain ⟨e1, _, h1, _⟩ := hT.2.1 c hc
  obtain ⟨f1, f2, _, h2, h3, _⟩ := hT.2.2.1 m hm
  obtain ⟨_, _, _, _, h4, _, h5, _⟩ := hM.1 m hm
  rw [e1] at h1
  rw [f1] at h2
  rw [f2] at h3
  obtain ⟨w, w1, w9, ew⟩ := pin_N (a := 1) (b := 9) h1 (by decide) (by decide)
  obtain ⟨s, s1, s20, es⟩ := pin_N (a := 1) (b := 20) h2 (by decide) (by decide)
  obtain ⟨l, _, l9, el⟩ := pin_N (a := 0) (b := 9) h3 (by decide) (by decide)
  obtain ⟨p, _, p3, ep⟩ := pin_N (a := 0) (b := 3) h4 (by decide) (by decide)
  have hu : ∃ u, u ≤ 1 ∧ r (18 + m) = nI u := by
    rcases h5 with q | q
    · exact ⟨0, by decide, q⟩
    · exact ⟨1, by decide, q⟩
  have hv : ∃ v, v ≤ 1 ∧ r 30 = nI v := by
    rcases hM.2.2.1 with q | q
    · exact ⟨0, by decide, q⟩
    · exact ⟨1, by decide, q⟩
  obtain ⟨u, u1, eu⟩ := hu
  obtain ⟨v, v1, ev⟩ := hv
  unfold vCarry
  rw [ew, es, el, ep, eu, ev, show (1 : Int32) + nI u = nI (1 + u) from nI_add 1 u, show (3 : Int32) * nI p = nI (3 * p) from pk_mul 3 p, nI_add, nI_add, pk_mul, pk_div (by omega) (by omega) (by omega), pk_mul]
  refine ⟨_, ?_, rfl⟩
  have d1 : (s + 3 * p) / (w + v) ≤ 29 := Nat.le_trans (Nat.div_le_self _ _) (by omega)
  have d2 : l * (1 + u) ≤ 9 * 2 := Nat.mul_le_mul l9 (by omega)
  exact Nat.le_trans (Nat.mul_le_mul d2 d1) (by decide)
theorem tkI_N {T : Nat → Nat → Int32} {τ : wd_S} {nm nc : Nat} (hT : cT T τ nm nc) {M : Nat → Nat → Int32} {r : Nat → Int32} (hM : cM M r nm nc) {m o c : Nat} (hm : m < nm) (ho : o < nm) (hc : c < nc) : ∃ k y, k ≤ y ∧ y ≤ 40 ∧ vTkI τ r m o c = nI k ∧ τ.1 8 (3 * o + c) = nI y := by
  obtain ⟨k, hk, ek⟩ := carry_N hT hM hm hc
  obtain ⟨e, h⟩ := hT.2.2.2 o c ho hc
  rw [e] at h
  obtain ⟨y, _, hy, ey⟩ := pin_N (a := 0) (b := 40) h (by decide) (by decide)
  unfold vTkI
  rw [ek, ey]
  by_cases q : nI y ≤ nI k
  · rw [if_pos q]
    exact ⟨y, y, Nat.le_refl _, hy, rfl, rfl⟩
  · rw [if_neg q]
    rw [nI_leI (by omega) (by omega)] at q
    exact ⟨k, y, by omega, hy, rfl, rfl⟩
theorem takes_N {T : Nat → Nat → Int32} {τ : wd_S} {nm nc : Nat} (hT : cT T τ nm nc) {M : Nat → Nat → Int32} {r : Nat → Int32} (hM : cM M r nm nc) {m : Nat} (hm : m < nm) : ∃ k, k ≤ 40 ∧ vTakes τ r m = nI k := by
  have h6 := hT.1.2.2.2.2.1
  have h3 := hT.1.2.2.2.2.2
  unfold vTakes
  rcases fac_e (hM.1 m hm).2.2.1 h6 hm with ⟨_, _, n1, n2⟩ | ⟨o, ho, _, p1, p2, q1, q2, _⟩
  · rw [if_neg n2]; exact ⟨0, by decide, rfl⟩
  · rw [if_pos p2, q2]
    obtain ⟨k, y, h1, h2, e, _⟩ := tkI_N hT hM hm ho (sow_l hM h3 ho)
    exact ⟨k, by omega, e⟩
theorem kept_N {T : Nat → Nat → Int32} {τ : wd_S} {nm nc : Nat} (hT : cT T τ nm nc) {M : Nat → Nat → Int32} {r : Nat → Int32} (hM : cM M r nm nc) {m : Nat} (hm : m < nm) : ∃ k, k ≤ 40 ∧ vKept τ r m = nI k := by
  have h6 := hT.1.2.2.2.2.1
  have h3 := hT.1.2.2.2.2.2
  unfold vKept
  rcases fac_e (hM.1 m hm).2.2.1 h6 hm with ⟨_, _, n1, n2⟩ | ⟨o, ho, _, p1, p2, q1, q2, p3, p4, q3, q4⟩
  · rw [if_neg n2, Int32.sub_zero]
    obtain ⟨e, h⟩ := hT.2.2.2 m (sF r m) hm (sow_l hM h3 hm)
    rw [e] at h
    obtain ⟨y, _, hy, ey⟩ := pin_N (a := 0) (b := 40) h (by decide) (by decide)
    exact ⟨y, hy, ey⟩
  · rw [if_pos p2, q2]
    unfold vTakes
    rw [if_pos p4, q4]
    obtain ⟨k, y, h1, h2, e, ey⟩ := tkI_N hT hM ho hm (sow_l hM h3 hm)
    refine ⟨y - k, by omega, ?_⟩
    rw [ey, ← pk_sub h1]
    unfold vTkI at e
    rw [ey] at e
    exact congrArg (nI y - ·) e
theorem has_N {T : Nat → Nat → Int32} {τ : wd_S} {nm nc : Nat} (hT : cT T τ nm nc) {M : Nat → Nat → Int32} {r : Nat → Int32} (hM : cM M r nm nc) {m : Nat} (hm : m < nm) : ∃ k w, k ≤ 720 ∧ w ≤ 360 ∧ vHas τ r m = nI k ∧ vWorth τ r m = nI w := by
  have h6 := hT.1.2.2.2.2.1
  have h3 := hT.1.2.2.2.2.2
  have hw : ∀ c, c < nc → ∃ k, k ≤ 9 ∧ τ.1 4 c = nI k := fun c hc => by
    obtain ⟨_, e, _, h⟩ := hT.2.1 c hc
    rw [e] at h
    obtain ⟨k, _, hk, ek⟩ := pin_N (a := 1) (b := 9) h (by decide) (by decide)
    exact ⟨k, hk, ek⟩
  have hW : ∃ w, w ≤ 360 ∧ vWorth τ r m = nI w := by
    unfold vWorth
    rcases fac_e (hM.1 m hm).2.2.1 h6 hm with ⟨_, _, n1, n2⟩ | ⟨o, ho, _, p1, p2, q1, q2, _⟩
    · rw [if_neg n2]; exact ⟨0, by decide, rfl⟩
    · rw [if_pos p2, q2]
      obtain ⟨k, hk, ek⟩ := takes_N hT hM hm
      obtain ⟨v, hv, ev⟩ := hw _ (sow_l hM h3 ho)
      rw [ek, ev, pk_mul]
      exact ⟨_, Nat.le_trans (Nat.mul_le_mul hk hv) (by decide), rfl⟩
  obtain ⟨w, hw1, ew⟩ := hW
  obtain ⟨k, hk, ek⟩ := kept_N hT hM hm
  obtain ⟨v, hv, ev⟩ := hw _ (sow_l hM h3 hm)
  have hkv : k * v ≤ 40 * 9 := Nat.mul_le_mul hk hv
  refine ⟨w + k * v, w, by omega, hw1, ?_, ew⟩
  unfold vHas
  rw [ew, ek, ev, pk_mul, nI_add]
/-- another crop sown -/
theorem cM_sow {M : Nat → Nat → Int32} {r : Nat → Int32} {nm nc : Nat} (hM : cM M r nm nc) (h6 : nm ≤ 6) {a c : Nat} (ha : a < nm) (hc : c < nc) : cM (u2 M 1 a (nI c)) (upd r a (nI c)) nm nc := by
  have eo : ∀ k, nm ≤ k → upd r a (nI c) k = r k := fun k hk => if_neg (by omega)
  have e2 : ∀ k i, k ≠ 1 → u2 M 1 a (nI c) k i = M k i := fun k i hk => if_neg (fun h => hk h.1)
  refine ⟨fun m hm => ?_, ?_, ?_, ?_⟩
  · obtain ⟨h1, h2, h3, h4⟩ := hM.1 m hm
    refine ⟨?_, ?_, ?_, ?_⟩
    · unfold u2 upd
      by_cases q : m = a
      · rw [if_pos ⟨rfl, q⟩, if_pos q]
      · rw [if_neg (fun h => q h.2), if_neg q]; exact h1
    · unfold upd
      by_cases q : m = a
      · rw [if_pos q]; exact ⟨c, hc, rfl⟩
      · rw [if_neg q]; exact h2
    · rcases h3 with ⟨q1, q2⟩ | ⟨o, ho, hne, q1, q2, q3, q4⟩
      · exact Or.inl ⟨by rw [eo _ (by omega)]; exact q1, by rw [e2 _ _ (by decide)]; exact q2⟩
      · exact Or.inr ⟨o, ho, hne, by rw [eo _ (by omega)]; exact q1, by rw [e2 _ _ (by decide)]; exact q2, by rw [e2 _ _ (by decide)]; exact q3, by rw [eo _ (by omega)]; exact q4⟩
    · rw [e2 _ _ (by decide), e2 _ _ (by decide), e2 _ _ (by decide), eo (12 + m) (by omega), eo (18 + m) (by omega), eo (24 + m) (by omega)]
      exact h4
  · rw [e2 _ _ (by decide), eo _ (by omega)]; exact hM.2.1
  · rw [eo _ (by omega)]; exact hM.2.2.1
  · rw [e2 _ _ (by decide), eo _ (by omega)]; exact hM.2.2.2

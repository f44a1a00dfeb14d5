/-! ===== both: best, rest, year ===== -/
theorem sown_w {T : Nat → Nat → Int32} {τ : wd_S} {nm nc : Nat} (hT : cT T τ nm nc) {M : Nat → Nat → Int32} {r : Nat → Int32} (hM : cM M r nm nc) (h6 : nm ≤ 6) (h3 : nc ≤ 3) {m o c : Nat} (hm : m < nm) (hc : c < nc) (ho : o < nm) (p4 : 0 ≤ r (6 + o) - 1) (q4 : oF r o = m) : wTaken T (u2 M 1 m (nI c)) o * T 2 c = vWorth τ (upd r m (nI c)) o := by
  have e : upd r m (nI c) (6 + o) = r (6 + o) := if_neg (by omega)
  have eF : oF (upd r m (nI c)) o = m := by unfold oF; rw [e]; exact q4
  have eS : sF (upd r m (nI c)) m = c := pk_cl c (if_pos rfl) (by omega)
  unfold vWorth
  rw [e, if_pos p4, eF, eS, ← (hT.2.1 c hc).2.1, taken_e hT (cM_sow hM h6 hm hc) ho]
theorem neg_iff {x : Int32} : x < 0 ↔ ¬ 0 ≤ x := by rw [Int32.not_le]
theorem best_e {T : Nat → Nat → Int32} {τ : wd_S} {nm nc : Nat} (hT : cT T τ nm nc) {M : Nat → Nat → Int32} {r : Nat → Int32} (hM : cM M r nm nc) {m : Nat} (hm : m < nm) (y : Int32) : bestV T M m y = rbV τ r m y nc := by
  have h6 := hT.1.2.2.2.2.1
  have h3 := hT.1.2.2.2.2.2
  unfold bestV rbV
  rw [cT_nc hT]
  have key : ∀ n, n ≤ nc → itr (bestS T M m y) (-9, -9) n = itr (rbS τ r m y) (-9, -9) n ∧ (itr (rbS τ r m y) (-9, -9) n = (-9, -9) ∨ ∃ c k, c < nc ∧ itr (rbS τ r m y) (-9, -9) n = (nI c, k)) := by
    intro n
    induction n with
    | zero =>
      intro _
      rw [itr, itr]
      exact ⟨rfl, Or.inl rfl⟩
    | succ n ih =>
      intro hn
      obtain ⟨e, hs⟩ := ih (by omega)
      rw [itr, itr, e]
      generalize itr (rbS τ r m y) (-9, -9) n = s at hs
      have hh := has_e hT (cM_sow hM h6 hm (c := n) (by omega)) hm
      obtain ⟨k, w, hk, _, ek, _⟩ := has_N hT (cM_sow hM h6 hm (c := n) (by omega)) hm
      have hcond : (M 2 m < 0 ∨ ¬ wTaken T (u2 M 1 m (nI n)) (nFac M m) * T 2 n < y) ↔ (r (6 + m) - 1 < 0 ∨ ¬ vWorth τ (upd r m (nI n)) (oF r m) < y) := by
        rcases fac_e (hM.1 m hm).2.2.1 h6 hm with ⟨_, _, n1, n2⟩ | ⟨o, ho, hne, p1, p2, q1, q2, p3, p4, q3, q4⟩
        · exact ⟨fun _ => Or.inl (neg_iff.mpr n2), fun _ => Or.inl (neg_iff.mpr n1)⟩
        · rw [q1, q2, sown_w hT hM h6 h3 hm (by omega) ho p4 q4, neg_iff, neg_iff]
          exact ⟨fun h => h.elim (fun h => absurd p1 h) Or.inr, fun h => h.elim (fun h => absurd p2 h) Or.inr⟩
      unfold bestS rbS
      rw [hh]
      by_cases c1 : r (6 + m) - 1 < 0 ∨ ¬ vWorth τ (upd r m (nI n)) (oF r m) < y
      · rw [if_pos c1, if_pos (hcond.mpr c1)]
        rcases hs with rfl | ⟨c, k', hc, rfl⟩
        · have q : ¬ vHas τ (upd r m (nI n)) m ≤ -9 := by
            rw [ek]
            exact fun h => absurd (Int32.le_trans (nI_pos' (n := k) (by omega)) h) (by decide)
          have e1 : (if vHas τ (upd r m (nI n)) m ≤ ((-9, -9) : Int32 × Int32).2 then ((-9, -9) : Int32 × Int32) else (nI n, vHas τ (upd r m (nI n)) m)) = (nI n, vHas τ (upd r m (nI n)) m) := if_neg q
          rw [e1]
          exact ⟨if_pos rfl, Or.inr ⟨n, _, by omega, rfl⟩⟩
        · have q : ¬ nI c = -9 := fun h => by
            have := nI_pos' (n := c) (by omega)
            rw [h] at this
            exact absurd this (by decide)
          refine ⟨if_neg q, ?_⟩
          by_cases c2 : vHas τ (upd r m (nI n)) m ≤ ((nI c, k') : Int32 × Int32).2
          · rw [if_pos c2]; exact Or.inr ⟨c, k', hc, rfl⟩
          · rw [if_neg c2]; exact Or.inr ⟨n, _, by omega, rfl⟩
      · rw [if_neg c1, if_neg (fun h => c1 (hcond.mp h))]
        exact ⟨rfl, hs⟩
  exact (key nc (Nat.le_refl _)).1
theorem imax_le {a b x : Int32} : imax a b ≤ x ↔ a ≤ x ∧ b ≤ x := by
  unfold imax
  by_cases h : a < b
  · rw [if_pos h]
    exact ⟨fun q => ⟨Int32.le_trans (Int32.le_of_lt h) q, q⟩, fun q => q.2⟩
  · rw [if_neg h]
    exact ⟨fun q => ⟨q, Int32.le_trans (Int32.not_lt.mp h) q⟩, fun q => q.1⟩
theorem most_le {f : Nat → Int32} {a x : Int32} {n : Nat} : itr (fun c a => imax a (f c)) a n ≤ x ↔ a ≤ x ∧ ∀ c, c < n → f c ≤ x := by
  induction n with
  | zero => exact ⟨fun h => ⟨h, fun c hc => absurd hc (by omega)⟩, fun h => h.1⟩
  | succ n ih =>
    rw [itr, imax_le, ih]
    refine ⟨fun h => ⟨h.1.1, fun c hc => ?_⟩, fun h => ⟨⟨h.1, fun c hc => h.2 c (by omega)⟩, h.2 n (by omega)⟩⟩
    by_cases e : c = n
    · exact e ▸ h.2
    · exact h.1.2 c (by omega)
theorem nmost {T : Nat → Nat → Int32} {τ : wd_S} {nm nc : Nat} (hT : cT T τ nm nc) {M : Nat → Nat → Int32} {r : Nat → Int32} (hM : cM M r nm nc) {m : Nat} (hm : m < nm) : ¬ wHas T M m < wMost T M m ↔ ∀ c, c < nc → ¬ vHas τ r m < vHas τ (upd r m (nI c)) m := by
  have h6 := hT.1.2.2.2.2.1
  rw [Int32.not_lt]
  unfold wMost
  rw [most_le, cT_nc hT, has_e hT hM hm]
  obtain ⟨k, w, hk, _, ek, _⟩ := has_N hT hM hm
  refine ⟨fun h c hc => ?_, fun h => ⟨?_, fun c hc => ?_⟩⟩
  · rw [Int32.not_lt, ← has_e hT (cM_sow hM h6 hm hc) hm]; exact h.2 c hc
  · rw [ek]; exact nI_pos' (by omega)
  · have q := h c hc
    rw [Int32.not_lt, ← has_e hT (cM_sow hM h6 hm hc) hm] at q
    exact q
theorem restD_e {T : Nat → Nat → Int32} {τ : wd_S} {nm nc : Nat} (hT : cT T τ nm nc) {M : Nat → Nat → Int32} {r : Nat → Int32} (hM : cM M r nm nc) {m o a b : Nat} (hm : m < nm) (ho : o < nm) (hne : o ≠ m) (ha : a < nc) (hb : b < nc) : restD T (u2 (u2 M 1 m (nI a)) 1 o (nI b)) m o = rsD τ r m o a b nc := by
  have h6 := hT.1.2.2.2.2.1
  have hM' := cM_sow (cM_sow hM h6 hm ha) h6 ho hb
  apply bool_iff
  unfold restD rsD
  rw [decide_eq_true_iff, nmost hT hM' hm, nmost hT hM' ho]
  rw [itr_and (f := rsS τ r m o a b) (P := fun c => ¬ hW τ r m o a b < hW τ r m o c b ∧ ¬ hW τ r o m b a < hW τ r o m c a) (fun c z hc => and_d)]
  have e1 : ∀ c, upd (upd (upd r m (nI a)) o (nI b)) m (nI c) = upd (upd r m (nI c)) o (nI b) := fun c => by
    rw [upd_comm (upd r m (nI a)) (m := o) (o := m) hne, upd_upd, upd_comm r (m := m) (o := o) (fun h => hne h.symm)]
  have e2 : ∀ c, upd (upd (upd r m (nI a)) o (nI b)) o (nI c) = upd (upd r o (nI c)) m (nI a) := fun c => by
    rw [upd_upd, upd_comm r (m := m) (o := o) (fun h => hne h.symm)]
  have e3 : upd (upd r m (nI a)) o (nI b) = upd (upd r o (nI b)) m (nI a) := upd_comm r (m := m) (o := o) (fun h => hne h.symm) _ _
  refine ⟨fun h => ⟨rfl, fun c hc => ⟨?_, ?_⟩⟩, fun h => ⟨fun c hc => ?_, fun c hc => ?_⟩⟩
  · have q := h.1 c hc; rw [e1] at q; exact q
  · have q := h.2 c hc; rw [e2, e3] at q; exact q
  · rw [e1]; exact (h.2 c hc).1
  · rw [e2, e3]; exact (h.2 c hc).2
theorem rest_e {T : Nat → Nat → Int32} {τ : wd_S} {nm nc : Nat} (hT : cT T τ nm nc) {M : Nat → Nat → Int32} {r : Nat → Int32} (hM : cM M r nm nc) {m o : Nat} (hm : m < nm) (ho : o < nm) (hne : o ≠ m) : restV T M m o = rtV τ r m o nc := by
  unfold restV rtV
  rw [cT_nc hT]
  refine itr_c (fun a x ha => ?_)
  unfold restO rtO
  rw [cT_nc hT]
  refine itr_c (fun b x hb => ?_)
  unfold restS rtS
  rw [restD_e hT hM hm ho hne ha hb]
theorem stv_in (z : Int32) : pIn (stv z) (-9999) 9999 := by
  unfold stv
  by_cases h : (-9999 : Int32) ≤ z
  · rw [if_pos h]
    by_cases h2 : z ≤ 9999
    · rw [if_pos h2]; exact ⟨h, h2⟩
    · rw [if_neg h2]; exact ⟨by decide, by decide⟩
  · rw [if_neg h]; exact ⟨by decide, by decide⟩
theorem go_e {T : Nat → Nat → Int32} {τ : wd_S} {nm nc : Nat} (hT : cT T τ nm nc) {M : Nat → Nat → Int32} {r : Nat → Int32} (hM : cM M r nm nc) : cM (goM T M) (goR τ r nm) nm nc := by
  have h6 := hT.1.2.2.2.2.1
  have e2 : ∀ k i, k ≠ 5 → k ≠ 0 → goM T M k i = M k i := fun k i h5 h0 => by
    unfold goM u2 yrM ur
    rw [if_neg (fun h => h0 h.1), if_neg h5]
  have er : ∀ k, k < 24 ∨ k = 30 → goR τ r nm k = r k := fun k hk => (goR_eq τ h6 k hk).symm
  refine ⟨fun m hm => ?_, ?_, ?_, ?_⟩
  · obtain ⟨h1, h2, h3, h4, h5, h7, h8, h9, h10⟩ := hM.1 m hm
    rw [e2 _ _ (by decide) (by decide), e2 3 _ (by decide) (by decide), e2 4 _ (by decide) (by decide), er m (by omega), er (12 + m) (by omega), er (18 + m) (by omega)]
    have eg : goR τ r nm (24 + m) = stv (r (24 + m) + vMore τ r m) := by
      unfold goR upd grR
      rw [if_neg (by omega), if_pos (by omega), show 24 + m - 24 = m by omega]
    have eM : goM T M 5 m = stv (r (24 + m) + vMore τ r m) := by
      unfold goM u2 yrM ur
      rw [if_neg (by omega), if_pos rfl, cT_nm hT, if_pos hm, stor_e, h9, gain_e hT hM hm]
    refine ⟨h1, h2, ?_, h4, h5, h7, h8, eM.trans eg.symm, eg ▸ stv_in _⟩
    rcases h3 with ⟨q1, q2⟩ | ⟨o, ho, hne, q1, q2, q3, q4⟩
    · exact Or.inl ⟨by rw [er _ (by omega)]; exact q1, by rw [e2 _ _ (by decide) (by decide)]; exact q2⟩
    · exact Or.inr ⟨o, ho, hne, by rw [er _ (by omega)]; exact q1, by rw [e2 _ _ (by decide) (by decide)]; exact q2, by rw [e2 _ _ (by decide) (by decide)]; exact q3, by rw [er _ (by omega)]; exact q4⟩
  · rw [er 30 (Or.inr rfl), ← hM.2.1]
    unfold goM u2 yrM ur
    rw [if_neg (by omega), if_neg (by omega)]
  · rw [er 30 (Or.inr rfl)]; exact hM.2.2.1
  · rw [show goR τ r nm 31 = r 31 + 1 from (by unfold goR; exact pk_us), ← hM.2.2.2]
    unfold goM u2
    exact if_pos ⟨rfl, rfl⟩

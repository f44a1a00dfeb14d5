/-! ===== both: items of a text ===== -/
theorem numP_r {L : Nat → Int32} {n b b' : Nat} {lo hi v : Int32} (h : numP L n lo hi b = .ok (v, b')) : pIn v lo hi := by
  unfold numP at h
  by_cases c : (nextT L n b 0).1 = 3 ∧ lo ≤ (nextT L n b 0).2.2.2 ∧ (nextT L n b 0).2.2.2 ≤ hi
  · rw [if_pos c] at h
    injection h with h
    have h1 : (nextT L n b 0).2.2.2 = v := congrArg Prod.fst h
    rw [← h1]
    exact c.2
  · rw [if_neg c] at h
    exact nomatch h
theorem cropP_r {L : Nat → Int32} {n b b' : Nat} {w v : Int32} (h : cropP L n b = .ok (w, v, b')) : pIn w 1 9 ∧ pIn v 1 9 := by
  unfold cropP at h
  cases h1 : numP L n 1 9 b with
  | error f => rw [h1] at h; exact nomatch h
  | ok p =>
    obtain ⟨w1, b1⟩ := p
    rw [h1] at h
    simp only [] at h
    cases h2 : numP L n 1 9 b1 with
    | error f => rw [h2] at h; exact nomatch h
    | ok p =>
      obtain ⟨v1, b2⟩ := p
      rw [h2] at h
      simp only [] at h
      cases h3 : stopP L n b2 with
      | error f => rw [h3] at h; exact nomatch h
      | ok b3 =>
        rw [h3] at h
        injection h with h
        have e1 : w1 = w := congrArg Prod.fst h
        have e2 : v1 = v := congrArg (fun p => p.2.1) h
        exact ⟨e1 ▸ numP_r h1, e2 ▸ numP_r h2⟩
theorem yP_r {L : Nat → Int32} {n : Nat} : ∀ (k c : Nat) (row : Nat → Int32) (b : Nat) (row' : Nat → Int32) (b' : Nat), yP L n k c row b = .ok (row', b') → (∀ j, j < c → row' j = row j) ∧ ∀ j, c ≤ j → j < c + k → pIn (row' j) 0 40 := by
  intro k
  induction k with
  | zero =>
    intro c row b row' b' h
    rw [yP] at h
    injection h with h
    have e1 : row = row' := congrArg Prod.fst h
    exact ⟨fun j _ => by rw [e1], fun j h1 h2 => absurd h2 (by omega)⟩
  | succ k ih =>
    intro c row b row' b' h
    rw [yP] at h
    cases h1 : numP L n 0 40 b with
    | error f => rw [h1] at h; exact nomatch h
    | ok p =>
      obtain ⟨v, b1⟩ := p
      rw [h1] at h
      obtain ⟨i1, i2⟩ := ih (c + 1) (upd row c v) b1 row' b' h
      refine ⟨fun j hj => (i1 j (by omega)).trans (if_neg (by omega)), fun j hj hk => ?_⟩
      by_cases e : j = c
      · rw [e, i1 c (by omega), show upd row c v c = v from if_pos rfl]
        exact numP_r h1
      · exact i2 j (by omega) (by omega)
theorem manP_r {L : Nat → Int32} {n c b b' : Nat} {row row' : Nat → Int32} {x l d : Int32} (h : manP L n c row b = .ok (x, l, d, row', b')) : pIn x 1 20 ∧ pIn l 0 9 ∧ pIn d 0 99 ∧ ∀ j, j < c → pIn (row' j) 0 40 := by
  unfold manP at h
  cases h1 : numP L n 1 20 b with
  | error f => rw [h1] at h; exact nomatch h
  | ok p =>
    obtain ⟨x1, b1⟩ := p
    rw [h1] at h
    simp only [] at h
    cases h2 : numP L n 0 9 b1 with
    | error f => rw [h2] at h; exact nomatch h
    | ok p =>
      obtain ⟨l1, b2⟩ := p
      rw [h2] at h
      simp only [] at h
      cases h3 : numP L n 0 99 b2 with
      | error f => rw [h3] at h; exact nomatch h
      | ok p =>
        obtain ⟨d1, b3⟩ := p
        rw [h3] at h
        simp only [] at h
        cases h4 : yP L n c 0 row b3 with
        | error f => rw [h4] at h; exact nomatch h
        | ok p =>
          obtain ⟨r1, b4⟩ := p
          rw [h4] at h
          simp only [] at h
          cases h5 : stopP L n b4 with
          | error f => rw [h5] at h; exact nomatch h
          | ok b5 =>
            rw [h5] at h
            injection h with h
            have e1 : x1 = x := congrArg Prod.fst h
            have e2 : l1 = l := congrArg (fun p => p.2.1) h
            have e3 : d1 = d := congrArg (fun p => p.2.2.1) h
            have e4 : r1 = row' := congrArg (fun p => p.2.2.2.1) h
            refine ⟨e1 ▸ numP_r h1, e2 ▸ numP_r h2, e3 ▸ numP_r h3, fun j hj => ?_⟩
            have q := (yP_r c 0 row b3 r1 b4 h4).2 j (Nat.zero_le _) (by omega)
            have e4' : r1 = row' := e4
            rw [← e4']
            exact q
theorem nextT_0 {L : Nat → Int32} {n b : Nat} (h : ¬ (nextT L n b 0).1 = 0) : b < n := by
  have h1 := (skipB_le L (n - b) b).1
  unfold nextT at h
  by_cases c : skipB L (n - b) b < n
  · omega
  · rw [if_neg c] at h
    exact absurd rfl h
/-- the Told that the class reads into and the reference's upper halves hold the same -/
def pT (U : Nat → Nat → Int32) (s : wd_S) (c m : Nat) : Prop :=
  (U 0 0 = nI c ∧ U 0 3 = nI m ∧ s.1 2 2 = nI c ∧ s.1 2 3 = nI m ∧ c ≤ 3 ∧ m ≤ 6 ∧ (0 < m → 0 < c)) ∧
  (∀ j, j < c → U 1 j = s.1 3 (3 + j) ∧ U 2 j = s.1 4 (3 + j) ∧ pIn (U 1 j) 1 9 ∧ pIn (U 2 j) 1 9) ∧
  (∀ j, j < m → U 3 j = s.1 5 (6 + j) ∧ U 4 j = s.1 6 (6 + j) ∧ U 5 j = s.1 7 (6 + j) ∧ pIn (U 3 j) 1 20 ∧ pIn (U 4 j) 0 9 ∧ pIn (U 5 j) 0 99) ∧
  (∀ j k, j < m → k < c → U (7 + j) k = s.1 8 (3 * (6 + j) + k) ∧ pIn (U (7 + j) k) 0 40)
theorem ur_e (M : Nat → Nat → Int32) (c : Nat) (r : Nat → Int32) (k i : Nat) : ur M c r k i = if k = c then r i else M k i := by
  unfold ur
  by_cases h : k = c
  · rw [if_pos h, if_pos h]
  · rw [if_neg h, if_neg h]
theorem pT_cr {U : Nat → Nat → Int32} {s : wd_S} {c m : Nat} (h : pT U s c m) (hc : c < 3) (hm : m = 0) {w v : Int32} (hw : pIn w 1 9) (hv : pIn v 1 9) : pT (crU U c w v) (crW s c w v) (c + 1) m := by
  obtain ⟨⟨a1, a2, a3, a4, a5, a6, a7⟩, hC, hM, hY⟩ := h
  refine ⟨⟨?_, ?_, ?_, ?_, by omega, a6, fun _ => by omega⟩, fun j hj => ?_, fun j hj => absurd hj (by omega), fun j k hj => absurd hj (by omega)⟩
  · show U 0 0 + 1 = _
    rw [a1]; exact nI_1 c
  · exact a2
  · unfold crW; rw [wd_up_k]; exact if_pos rfl
  · exact a4
  · have q1 : crU U c w v 1 j = if j = c then w else U 1 j := by
      unfold crU u2
      by_cases e : j = c
      · rw [if_neg (by omega), if_neg (by omega), if_pos ⟨rfl, e⟩, if_pos e]
      · rw [if_neg (by omega), if_neg (by omega), if_neg (by omega), if_neg e]
    have q2 : crU U c w v 2 j = if j = c then v else U 2 j := by
      unfold crU u2
      by_cases e : j = c
      · rw [if_neg (by omega), if_pos ⟨rfl, e⟩, if_pos e]
      · rw [if_neg (by omega), if_neg (by omega), if_neg (by omega), if_neg e]
    have q3 : (crW s c w v).1 3 (3 + j) = if j = c then w else s.1 3 (3 + j) := by
      show (if 3 = 2 ∧ 3 + j = 2 then nI (c + 1) else if 3 = 4 ∧ 3 + j = 3 + c then v else if 3 = 3 ∧ 3 + j = 3 + c then w else s.1 3 (3 + j)) = _
      by_cases e : j = c
      · rw [if_neg (by omega), if_neg (by omega), if_pos ⟨rfl, by omega⟩, if_pos e]
      · rw [if_neg (by omega), if_neg (by omega), if_neg (by omega), if_neg e]
    have q4 : (crW s c w v).1 4 (3 + j) = if j = c then v else s.1 4 (3 + j) := by
      show (if 4 = 2 ∧ 3 + j = 2 then nI (c + 1) else if 4 = 4 ∧ 3 + j = 3 + c then v else if 4 = 3 ∧ 3 + j = 3 + c then w else s.1 4 (3 + j)) = _
      by_cases e : j = c
      · rw [if_neg (by omega), if_pos ⟨rfl, by omega⟩, if_pos e]
      · rw [if_neg (by omega), if_neg (by omega), if_neg (by omega), if_neg e]
    rw [q1, q2, q3, q4]
    by_cases e : j = c
    · simp only [if_pos e]; exact ⟨trivial, trivial, hw, hv⟩
    · simp only [if_neg e]; exact hC j (by omega)
theorem pT_mn {U : Nat → Nat → Int32} {s : wd_S} {c m : Nat} (h : pT U s c m) (hm : m < 6) (hc : 0 < c) {x l d : Int32} {row : Nat → Int32} (hx : pIn x 1 20) (hl : pIn l 0 9) (hd : pIn d 0 99) (hr : ∀ j, j < c → pIn (row j) 0 40) : pT (mnU U m x l d row) (wd_up (yW (wd_up (wd_up (wd_up s 5 (6 + m) x) 6 (6 + m) l) 7 (6 + m) d) m 0 c row) 2 3 (nI (m + 1))) c (m + 1) := by
  obtain ⟨⟨a1, a2, a3, a4, a5, a6, a7⟩, hC, hM, hY⟩ := h
  have eU : ∀ k i, mnU U m x l d row k i = if k = 0 ∧ i = 3 then U 0 3 + 1 else if k = 7 + m then row i else if k = 5 ∧ i = m then d else if k = 4 ∧ i = m then l else if k = 3 ∧ i = m then x else U k i := fun k i => by
    unfold mnU u2
    rw [ur_e]
  have eS : ∀ a i, (wd_up (yW (wd_up (wd_up (wd_up s 5 (6 + m) x) 6 (6 + m) l) 7 (6 + m) d) m 0 c row) 2 3 (nI (m + 1))).1 a i = if a = 2 ∧ i = 3 then nI (m + 1) else if a = 8 ∧ 3 * (6 + m) + 0 ≤ i ∧ i < 3 * (6 + m) + 0 + c then row (i - 3 * (6 + m)) else if a = 7 ∧ i = 6 + m then d else if a = 6 ∧ i = 6 + m then l else if a = 5 ∧ i = 6 + m then x else s.1 a i := fun a i => rfl
  refine ⟨⟨?_, ?_, ?_, ?_, a5, by omega, fun _ => hc⟩, fun j hj => ?_, fun j hj => ?_, fun j k hj hk => ?_⟩
  · rw [eU, if_neg (by omega), if_neg (by omega), if_neg (by omega), if_neg (by omega), if_neg (by omega)]; exact a1
  · rw [eU, if_pos ⟨rfl, rfl⟩, a2]; exact nI_1 m
  · rw [eS, if_neg (by omega), if_neg (by omega), if_neg (by omega), if_neg (by omega), if_neg (by omega)]; exact a3
  · rw [eS, if_pos ⟨rfl, rfl⟩]
  · rw [eU, eU, eS, eS]
    rw [if_neg (by omega), if_neg (by omega), if_neg (by omega), if_neg (by omega), if_neg (by omega)]
    rw [if_neg (by omega), if_neg (by omega), if_neg (by omega), if_neg (by omega), if_neg (by omega)]
    rw [if_neg (by omega), if_neg (by omega), if_neg (by omega), if_neg (by omega), if_neg (by omega)]
    rw [if_neg (by omega), if_neg (by omega), if_neg (by omega), if_neg (by omega), if_neg (by omega)]
    exact hC j hj
  · have q3 : mnU U m x l d row 3 j = if j = m then x else U 3 j := by
      rw [eU, if_neg (by omega), if_neg (by omega), if_neg (by omega), if_neg (by omega)]
      by_cases e : j = m
      · rw [if_pos ⟨rfl, e⟩, if_pos e]
      · rw [if_neg (by omega), if_neg e]
    have q4 : mnU U m x l d row 4 j = if j = m then l else U 4 j := by
      rw [eU, if_neg (by omega), if_neg (by omega), if_neg (by omega)]
      by_cases e : j = m
      · rw [if_pos ⟨rfl, e⟩, if_pos e]
      · rw [if_neg (by omega), if_neg (by omega), if_neg e]
    have q5 : mnU U m x l d row 5 j = if j = m then d else U 5 j := by
      rw [eU, if_neg (by omega), if_neg (by omega)]
      by_cases e : j = m
      · rw [if_pos ⟨rfl, e⟩, if_pos e]
      · rw [if_neg (by omega), if_neg (by omega), if_neg (by omega), if_neg e]
    rw [q3, q4, q5, eS, eS, eS]
    by_cases e : j = m
    · rw [if_pos e, if_pos e, if_pos e, if_neg (by omega), if_neg (by omega), if_neg (by omega), if_neg (by omega), if_pos ⟨rfl, by omega⟩]
      rw [if_neg (by omega), if_neg (by omega), if_neg (by omega), if_pos ⟨rfl, by omega⟩]
      rw [if_neg (by omega), if_neg (by omega), if_pos ⟨rfl, by omega⟩]
      exact ⟨rfl, rfl, rfl, hx, hl, hd⟩
    · rw [if_neg e, if_neg e, if_neg e]
      rw [if_neg (by omega), if_neg (by omega), if_neg (by omega), if_neg (by omega), if_neg (by omega)]
      rw [if_neg (by omega), if_neg (by omega), if_neg (by omega), if_neg (by omega), if_neg (by omega)]
      rw [if_neg (by omega), if_neg (by omega), if_neg (by omega), if_neg (by omega), if_neg (by omega)]
      exact hM j (by omega)
  · rw [eU, eS, if_neg (by omega), if_neg (show ¬ (8 = 2 ∧ 3 * (6 + j) + k = 3) by omega)]
    by_cases e : j = m
    · rw [if_pos (by omega), if_pos (by omega), show 3 * (6 + j) + k - 3 * (6 + m) = k by omega]
      exact ⟨rfl, hr k hk⟩
    · rw [if_neg (by omega), if_neg (by omega), if_neg (by omega), if_neg (by omega)]
      rw [if_neg (by omega), if_neg (by omega), if_neg (by omega), if_neg (by omega)]
      exact hY j k (by omega) hk
theorem pT_c {U : Nat → Nat → Int32} {s : wd_S} {c m : Nat} (h : pT U s c m) : nCrops U = c ∧ nMen U = m ∧ cN s = c ∧ mN s = m := by
  obtain ⟨⟨a1, a2, a3, a4, a5, a6, a7⟩, _⟩ := h
  exact ⟨pk_cl c a1 (by omega), pk_cl m a2 (by omega), pk_cl c a3 (by omega), pk_cl m a4 (by omega)⟩
/-- one item, on both sides -/
theorem item_e {L : Nat → Int32} {n : Nat} {U : Nat → Nat → Int32} {s : wd_S} {c m b : Nat} (h : pT U s c m) (h0 : ¬ (nextT L n b 0).1 = 0) : (∃ f s', itemP L n U (nextT L n b 0).2.1 (nextT L n b 0).2.2.1 (nextT L n b 0).1 = .error f ∧ vIt L n s b = some (s', .error f)) ∨ ∃ U' s' b' c' m', itemP L n U (nextT L n b 0).2.1 (nextT L n b 0).2.2.1 (nextT L n b 0).1 = .ok (U', b') ∧ vIt L n s b = some (s', .ok b') ∧ pT U' s' c' m' ∧ b < b' := by
  obtain ⟨k1, k2, k3, k4⟩ := pT_c h
  obtain ⟨⟨a1, a2, a3, a4, a5, a6, a7⟩, _⟩ := id h
  have hcr := crop_e L n s (nextT L n b 0).2.2.1
  have hmn := man_e L n s c m (U (7 + m)) (nextT L n b 0).2.2.1
  have hg1 := stpE_ge (L := L) (n := n) (crE_ge L n s (nextT L n b 0).2.2.1)
  have hg2 := stpE_ge (L := L) (n := n) (mnE_ge L n s (nextT L n b 0).2.2.1)
  have hgt := nextT_gt L (n := n) (b := b) (q := 0)
  unfold itemP vIt
  rw [if_neg h0]
  by_cases t1 : (nextT L n b 0).1 = 1
  · rw [if_pos t1]
    by_cases q : U 0 3 = 0 ∧ ¬ (3 : Int32) ≤ U 0 0
    · rw [if_pos q]
      have hc : cnC L n s b := ⟨t1, by rw [a3, ← a1]; exact q.2, by rw [a4, ← a2]; exact q.1⟩
      rw [if_pos hc, k1]
      have hm0 : m = 0 := by
        have e := q.1
        rw [a2] at e
        exact Classical.byContradiction (fun z => nI_ne0 (by omega) (by omega) e)
      have hc3 : c < 3 := by
        rcases Nat.lt_or_ge c 3 with z | z
        · exact z
        · exact absurd (by rw [a1]; exact nI_le (a := 3) z (by omega)) q.2
      rcases hcr with ⟨f, e1, e2⟩ | ⟨w, v, b', e1, e2, e3⟩
      · exact Or.inl ⟨f, _, by rw [e1], by rw [e2]⟩
      · obtain ⟨r1, r2⟩ := cropP_r e1
        refine Or.inr ⟨_, _, b', c + 1, m, by rw [e1], by rw [e2, e3, k3], pT_cr h hc3 hm0 r1 r2, ?_⟩
        have := hg1 b' e2
        have := hgt (Or.inl t1)
        omega
    · rw [if_neg q]
      have hc : ¬ cnC L n s b := fun z => q ⟨by rw [a2, ← a4]; exact z.2.2, by rw [a1, ← a3]; exact z.2.1⟩
      have hm : ¬ cnM L n s b := fun z => absurd (t1.symm.trans z.1) (by decide)
      rw [if_neg hc, if_neg hm]
      exact Or.inl ⟨_, _, rfl, rfl⟩
  · rw [if_neg t1, if_neg (show ¬ cnC L n s b from fun z => t1 z.1)]
    by_cases t2 : (nextT L n b 0).1 = 2
    · rw [if_pos t2]
      by_cases q : ¬ U 0 0 ≤ 0 ∧ ¬ (6 : Int32) ≤ U 0 3
      · rw [if_pos q]
        have hc : cnM L n s b := ⟨t2, by rw [a3, ← a1]; exact q.1, by rw [a4, ← a2]; exact q.2⟩
        rw [if_pos hc, k1, k2]
        have hm6 : m < 6 := by
          rcases Nat.lt_or_ge m 6 with z | z
          · exact z
          · exact absurd (by rw [a2]; exact nI_le (a := 6) z (by omega)) q.2
        have hc0 : 0 < c := by
          rcases Nat.eq_zero_or_pos c with z | z
          · exact absurd (by rw [a1, z]; exact (by decide : nI 0 ≤ 0)) q.1
          · exact z
        unfold mnE at hg2 ⊢
        rw [k3, k4] at hg2 ⊢
        rcases hmn with ⟨f, e1, e2⟩ | ⟨x, l, d, row', b', e1, e2, e3, e4⟩
        · exact Or.inl ⟨f, _, by rw [e1], by rw [e2]⟩
        · obtain ⟨r1, r2, r3, r4⟩ := manP_r e1
          refine Or.inr ⟨_, _, b', c, m + 1, by rw [e1], by rw [e2, e3], pT_mn h hm6 hc0 r1 r2 r3 r4, ?_⟩
          have := hg2 b' e2
          have := hgt (Or.inr t2)
          omega
      · rw [if_neg q]
        have hc : ¬ cnM L n s b := fun z => q ⟨by rw [a1, ← a3]; exact z.2.1, by rw [a2, ← a4]; exact z.2.2⟩
        rw [if_neg hc]
        exact Or.inl ⟨_, _, rfl, rfl⟩
    · rw [if_neg t2, if_neg (show ¬ cnM L n s b from fun z => t2 z.1)]
      exact Or.inl ⟨_, _, rfl, rfl⟩
theorem its_e {L : Nat → Int32} {n : Nat} : ∀ (k k' : Nat) (U : Nat → Nat → Int32) (s : wd_S) (b i c m : Nat), pT U s c m → n - b < k → n - b < k' → (∃ f s', itsL L n k U b i = .error f ∧ itR L n k' s b i = (.error f, s')) ∨ ∃ it U' s' c' m', itsL L n k U b i = .ok (it, U') ∧ itR L n k' s b i = (.ok it, s') ∧ pT U' s' c' m' := by
  intro k
  induction k with
  | zero => intro k' U s b i c m _ h1 _; exact absurd h1 (by omega)
  | succ k ih =>
    intro k' U s b i c m h h1 h2
    obtain ⟨j, rfl⟩ : ∃ j, k' = j + 1 := ⟨k' - 1, by omega⟩
    rw [itsL]
    by_cases h0 : (nextT L n b 0).1 = 0
    · rw [if_pos h0]
      have hv : vIt L n s b = none := if_pos h0
      exact Or.inr ⟨i, U, s, c, m, rfl, itR_n hv, h⟩
    · rw [if_neg h0]
      have hb := nextT_0 h0
      rcases item_e h h0 with ⟨f, s', e1, e2⟩ | ⟨U', s', b', c', m', e1, e2, h3, h4⟩
      · exact Or.inl ⟨f, s', by rw [e1], itR_e e2⟩
      · rw [e1, itR_k e2]
        exact ih j U' s' b' (i + 1) c' m' h3 (by omega) (by omega)

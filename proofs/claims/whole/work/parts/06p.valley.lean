/-! ===== both: a valley read anew ===== -/
/-- what the reference's reader may write -/
def sSc (a i : Nat) : Prop := (a = 2 ∧ 2 ≤ i) ∨ ((a = 3 ∨ a = 4) ∧ 3 ≤ i) ∨ ((a = 5 ∨ a = 6 ∨ a = 7) ∧ 6 ≤ i) ∨ (a = 8 ∧ 18 ≤ i)
def sK (s s' : wd_S) : Prop := s'.2 = s.2 ∧ ∀ a i, ¬ sSc a i → s'.1 a i = s.1 a i
theorem sK_rf (s : wd_S) : sK s s := ⟨rfl, fun _ _ _ => rfl⟩
theorem sK_tr {s t u : wd_S} (h : sK s t) (g : sK t u) : sK s u := ⟨g.1.trans h.1, fun a i q => (g.2 a i q).trans (h.2 a i q)⟩
theorem sK_up {s t : wd_S} (h : sK s t) {k i : Nat} (hk : sSc k i) (v : Int32) : sK s (wd_up t k i v) := ⟨h.1, fun a j q => (wd_up_o (fun e => q (by rw [e.1, e.2]; exact hk))).trans (h.2 a j q)⟩
theorem sK_yR {L : Nat → Int32} {n m : Nat} {s : wd_S} {p : wd_S × Except Nat Nat} (h : sK s p.1) (c : Nat) : sK s (itr (yRs L n m) p c).1 := by
  induction c with
  | zero => exact h
  | succ c ih => rw [itr]; exact sK_up ih (Or.inr (Or.inr (Or.inr ⟨rfl, by omega⟩))) _
theorem sK_it {L : Nat → Int32} {n : Nat} {s : wd_S} {b : Nat} {s' : wd_S} {e : Except Nat Nat} (h : vIt L n s b = some (s', e)) : sK s s' := by
  unfold vIt at h
  by_cases h0 : (nextT L n b 0).1 = 0
  · rw [if_pos h0] at h; exact nomatch h
  · rw [if_neg h0] at h
    by_cases h1 : cnC L n s b
    · rw [if_pos h1] at h
      injection h with h
      have e1 := congrArg Prod.fst h
      rw [← show _ = s' from e1]
      unfold crE crW
      exact sK_up (sK_up (sK_up (sK_rf s) (Or.inr (Or.inl ⟨Or.inl rfl, by omega⟩)) _) (Or.inr (Or.inl ⟨Or.inr rfl, by omega⟩)) _) (Or.inl ⟨rfl, by omega⟩) _
    · rw [if_neg h1] at h
      by_cases h2 : cnM L n s b
      · rw [if_pos h2] at h
        injection h with h
        have e1 := congrArg Prod.fst h
        rw [← show _ = s' from e1]
        unfold mnE mnB mnA
        exact sK_up (sK_yR (sK_up (sK_up (sK_up (sK_rf s) (Or.inr (Or.inr (Or.inl ⟨Or.inl rfl, by omega⟩))) _) (Or.inr (Or.inr (Or.inl ⟨Or.inr (Or.inl rfl), by omega⟩))) _) (Or.inr (Or.inr (Or.inl ⟨Or.inr (Or.inr rfl), by omega⟩))) _) _) (Or.inl ⟨rfl, by omega⟩) _
      · rw [if_neg h2] at h
        injection h with h
        have e1 := congrArg Prod.fst h
        rw [← show _ = s' from e1]
        exact sK_rf s
theorem sK_R {L : Nat → Int32} {n : Nat} : ∀ (k : Nat) (s : wd_S) (b i : Nat), sK s (itR L n k s b i).2 := by
  intro k
  induction k with
  | zero => intro s b i; rw [itR]; exact sK_rf s
  | succ k ih =>
    intro s b i
    cases hv : vIt L n s b with
    | none => rw [itR_n hv]; exact sK_rf s
    | some p =>
      obtain ⟨s', e⟩ := p
      cases e with
      | error f => rw [itR_e hv]; exact sK_it hv
      | ok b' => rw [itR_k hv]; exact sK_tr (sK_it hv) (ih s' b' (i + 1))
theorem aW_p (s : wd_S) (nx tk pl v f : Int32) {a i : Nat} (h : a = 0 → i < 4 ∨ 8 < i) : (aW s nx tk pl v f).1 a i = s.1 a i := by
  show (if a = 0 ∧ i = 4 then nx else if a = 0 ∧ i = 5 then tk else if a = 0 ∧ i = 6 then pl else if a = 0 ∧ i = 7 then v else if a = 0 ∧ i = 8 then f else s.1 a i) = s.1 a i
  rw [if_neg (by omega), if_neg (by omega), if_neg (by omega), if_neg (by omega), if_neg (by omega)]
/-- all that a faulty text leaves -/
theorem Inv_fault {σ τ σ' τ' : wd_S} {nm nc : Nat} (h : Inv σ τ nm nc) (e2 : σ'.2 = σ.2) (e0 : ∀ a, a < 10 → a ≠ 1 → σ'.1 a = σ.1 a) (e1 : σ'.1 1 1 = σ.1 1 1) (et : ∀ k, k < 13 → σ'.1 (ct σ.2.2 + k) = σ.1 (ct σ.2.2 + k)) (em : ∀ k, 36 ≤ k → σ'.1 k = σ.1 k) (f2 : τ'.2 = τ.2) (f : ∀ a i, ¬ sSc a i → (a = 0 → i < 4 ∨ 8 < i) → τ'.1 a i = τ.1 a i) : Inv σ' τ' nm nc := by
  have hm : ∀ j, mv σ' j = mv σ j := fun j => by
    funext k
    by_cases hk : k < 6
    · rw [mv_at σ' j hk, mv_at σ j hk, em _ (by unfold cm; omega)]
    · rw [mv_hi σ' j hk, mv_hi σ j hk]
  have ht : tv σ' = tv σ := by
    funext k i
    unfold tv
    rw [e2]
    by_cases hk : k < 13
    · rw [if_pos hk, if_pos hk, et k hk]
    · rw [if_neg hk, if_neg hk]
  have h1 : Inv σ' τ nm nc := Inv_c h e2 ht (fun j _ => hm j) (by rw [hm]; exact h.2.2.2.1 1 (by decide)) (by rw [e0 0 (by decide) (by decide)]) e1 (fun a ha => e0 a (by omega) (by omega))
  obtain ⟨h0, hT, hY, hO, hX, hS, ⟨nx, hh, hR⟩, hI⟩ := h1
  have g : ∀ a, 9 ≤ a ∨ a = 1 → τ'.1 a = τ.1 a := fun a ha => funext fun i => f a i (by unfold sSc; omega) (by omega)
  have g0 : ∀ i, i < 4 ∨ 8 < i → τ'.1 0 i = τ.1 0 i := fun i hi => f 0 i (by unfold sSc; omega) (fun _ => hi)
  refine ⟨?_, ?_, by rw [g 9 (by omega)]; exact hY, hO, ?_, ?_, ⟨nx, hh, ?_⟩, fun j hj => ?_⟩
  · rw [f2, g0 0 (by omega)]; exact h0
  · obtain ⟨⟨a1, a2, a3, a4, a5, a6⟩, hC, hM, hW⟩ := hT
    refine ⟨⟨a1, a2, by rw [f 2 1 (by unfold sSc; omega) (by omega)]; exact a3, by rw [f 2 0 (by unfold sSc; omega) (by omega)]; exact a4, a5, a6⟩, fun c hc => ?_, fun m hm => ?_, fun m c hm hc => ?_⟩
    · rw [f 3 c (by unfold sSc; omega) (by omega), f 4 c (by unfold sSc; omega) (by omega)]; exact hC c hc
    · rw [f 5 m (by unfold sSc; omega) (by omega), f 6 m (by unfold sSc; omega) (by omega), f 7 m (by unfold sSc; omega) (by omega)]; exact hM m hm
    · rw [f 8 (3 * m + c) (by unfold sSc; omega) (by omega)]; exact hW m c hm hc
  · unfold iTx; rw [g0 3 (by omega), g 1 (by omega)]; exact hX
  · unfold iSt; rw [g0 24 (by omega), g 14 (by omega), g 15 (by omega)]; exact hS
  · unfold iRg; rw [g0 21 (by omega), g 13 (by omega)]; exact hR
  · rw [g 12 (by omega), g 11 (by omega)]; exact hI j hj
/-- the reference's world behind settles, place by place -/
theorem seW_2 (s : wd_S) (nm : Nat) : (seW s nm).2 = s.2 := rfl
theorem seW_e (s : wd_S) (nm a i : Nat) : (seW s nm).1 a i =
    if a = 12 ∧ i < 2 then 0 else if a = 0 ∧ (i = 21 ∨ i = 24 ∨ i = 3) then 0 else if a = 8 ∧ i < 18 then s.1 8 (18 + i) else if a = 9 ∧ 6 ≤ i ∧ i < 12 then pF nm (i - 6) else if (a = 5 ∨ a = 6 ∨ a = 7) ∧ i < 6 then s.1 a (6 + i) else if (a = 3 ∨ a = 4) ∧ i < 3 then s.1 a (3 + i) else if a = 9 ∧ i < 32 then 0 else if a = 2 ∧ i = 1 then nI nm else if a = 2 ∧ i = 0 then s.1 2 2 else s.1 a i := by
  have e8 : ∀ (t : wd_S) (q o n a i : Nat), (mvW t q o n).1 a i = if a = q ∧ i < n then t.1 q (o + i) else t.1 a i := fun t q o n a i => by
    show (if a = q ∧ 0 ≤ i ∧ i < 0 + n then t.1 q (o + (i - 0)) else t.1 a i) = _
    by_cases h : a = q ∧ i < n
    · rw [if_pos h, if_pos (by omega), Nat.sub_zero]
    · rw [if_neg h, if_neg (by omega)]
  unfold seW seC seB seA
  by_cases c12 : a = 12 ∧ i < 2
  · rw [if_pos c12]
    show (if a = 12 ∧ i = 1 then (0 : Int32) else if a = 12 ∧ i = 0 then 0 else _) = 0
    by_cases q : i = 1
    · rw [if_pos ⟨c12.1, q⟩]
    · rw [if_neg (by omega), if_pos (by omega)]
  rw [if_neg c12, wd_up_o (by omega), wd_up_o (by omega)]
  by_cases c0 : a = 0 ∧ (i = 21 ∨ i = 24 ∨ i = 3)
  · rw [if_pos c0]
    show (if a = 0 ∧ i = 21 then (0 : Int32) else if a = 0 ∧ i = 24 then 0 else if a = 0 ∧ i = 3 then 0 else _) = 0
    rcases c0.2 with q | q | q
    · rw [if_pos ⟨c0.1, q⟩]
    · rw [if_neg (by omega), if_pos ⟨c0.1, q⟩]
    · rw [if_neg (by omega), if_neg (by omega), if_pos ⟨c0.1, q⟩]
  rw [if_neg c0, wd_up_o (by omega), wd_up_o (by omega), wd_up_o (by omega), e8]
  have eF : ∀ (t : wd_S) (a i : Nat), (fcW t nm 6).1 a i = if a = 9 ∧ 6 ≤ i ∧ i < 12 then pF nm (i - 6) else t.1 a i := fun t a i => rfl
  have eZ : ∀ (t : wd_S) (a i : Nat), (zS t 32).1 a i = if a = 9 ∧ i < 32 then 0 else t.1 a i := fun t a i => rfl
  have eB : ∀ a i, (wd_up (wd_up s 2 0 (s.1 2 2)) 2 1 (nI nm)).1 a i = if a = 2 ∧ i = 1 then nI nm else if a = 2 ∧ i = 0 then s.1 2 2 else s.1 a i := fun a i => rfl
  have eZ' : ∀ a i, (zS (wd_up (wd_up s 2 0 (s.1 2 2)) 2 1 (nI nm)) 32).1 a i = if a = 9 ∧ i < 32 then 0 else if a = 2 ∧ i = 1 then nI nm else if a = 2 ∧ i = 0 then s.1 2 2 else s.1 a i := fun a i => rfl
  generalize zS (wd_up (wd_up s 2 0 (s.1 2 2)) 2 1 (nI nm)) 32 = z at eZ' ⊢
  by_cases c8 : a = 8 ∧ i < 18
  · rw [if_pos c8, if_pos c8, eF, if_neg (by omega), e8, if_neg (by omega), e8, if_neg (by omega), e8, if_neg (by omega), e8, if_neg (by omega), e8, if_neg (by omega), eZ', if_neg (by omega), if_neg (by omega), if_neg (by omega)]
  rw [if_neg c8, if_neg c8, eF]
  by_cases c9 : a = 9 ∧ 6 ≤ i ∧ i < 12
  · rw [if_pos c9, if_pos c9]
  rw [if_neg c9, if_neg c9]
  by_cases c5 : (a = 5 ∨ a = 6 ∨ a = 7) ∧ i < 6
  · rw [if_pos c5]
    rcases c5 with ⟨rfl | rfl | rfl, hi⟩
    · rw [e8, if_neg (by omega), e8, if_neg (by omega), e8, if_pos ⟨rfl, hi⟩, e8, if_neg (by omega), e8, if_neg (by omega), eZ', if_neg (by omega), if_neg (by omega), if_neg (by omega)]
    · rw [e8, if_neg (by omega), e8, if_pos ⟨rfl, hi⟩, e8, if_neg (by omega), e8, if_neg (by omega), e8, if_neg (by omega), eZ', if_neg (by omega), if_neg (by omega), if_neg (by omega)]
    · rw [e8, if_pos ⟨rfl, hi⟩, e8, if_neg (by omega), e8, if_neg (by omega), e8, if_neg (by omega), e8, if_neg (by omega), eZ', if_neg (by omega), if_neg (by omega), if_neg (by omega)]
  rw [if_neg c5, e8, if_neg (by omega), e8, if_neg (by omega), e8, if_neg (by omega)]
  by_cases c3 : (a = 3 ∨ a = 4) ∧ i < 3
  · rw [if_pos c3]
    rcases c3 with ⟨rfl | rfl, hi⟩
    · rw [e8, if_neg (by omega), e8, if_pos ⟨rfl, hi⟩, eZ', if_neg (by omega), if_neg (by omega), if_neg (by omega)]
    · rw [e8, if_pos ⟨rfl, hi⟩, e8, if_neg (by omega), eZ', if_neg (by omega), if_neg (by omega), if_neg (by omega)]
  rw [if_neg c3, e8, if_neg (by omega), e8, if_neg (by omega), eZ']

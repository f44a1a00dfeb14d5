/-! ===== both: has ===== -/
theorem fac_e {M : Nat → Nat → Int32} {r : Nat → Int32} {nm m : Nat} (h : cF M r nm m) (h6 : nm ≤ 6) (hm : m < nm) : (M 2 m = -9 ∧ r (6 + m) = 0 ∧ ¬ 0 ≤ M 2 m ∧ ¬ 0 ≤ r (6 + m) - 1) ∨ ∃ o, o < nm ∧ o ≠ m ∧ 0 ≤ M 2 m ∧ 0 ≤ r (6 + m) - 1 ∧ nFac M m = o ∧ oF r m = o ∧ 0 ≤ M 2 o ∧ 0 ≤ r (6 + o) - 1 ∧ nFac M o = m ∧ oF r o = m := by
  rcases h with ⟨e1, e2⟩ | ⟨o, ho, hne, e1, e2, e3, e4⟩
  · refine Or.inl ⟨e2, e1, ?_, ?_⟩
    · rw [e2]; decide
    · rw [e1]; decide
  · have q1 : r (6 + m) - 1 = nI o := by rw [e1]; exact sub1_of (n := o + 1) (by omega)
    have q2 : r (6 + o) - 1 = nI m := by rw [e4]; exact sub1_of (n := m + 1) (by omega)
    refine Or.inr ⟨o, ho, hne, ?_, ?_, pk_cl o e2 (by omega), pk_cl o q1 (by omega), ?_, ?_, pk_cl m e3 (by omega), pk_cl m q2 (by omega)⟩
    · rw [e2]; exact nI_pos' (by omega)
    · rw [q1]; exact nI_pos' (by omega)
    · rw [e3]; exact nI_pos' (by omega)
    · rw [q2]; exact nI_pos' (by omega)
theorem sow_e {M : Nat → Nat → Int32} {r : Nat → Int32} {nm nc m : Nat} (hM : cM M r nm nc) (hm : m < nm) : nSown M m = sF r m := by
  unfold nSown sF
  rw [(hM.1 m hm).1]
theorem sow_l {M : Nat → Nat → Int32} {r : Nat → Int32} {nm nc m : Nat} (hM : cM M r nm nc) (h3 : nc ≤ 3) (hm : m < nm) : sF r m < nc := by
  obtain ⟨_, ⟨c, hc, e⟩, _⟩ := hM.1 m hm
  have : sF r m = c := pk_cl c e (by omega)
  omega
/-- what a man takes if his partner had sown c -/
def vTkI (τ : wd_S) (r : Nat → Int32) (m o c : Nat) : Int32 := if τ.1 8 (3 * o + c) ≤ vCarry τ r m c then τ.1 8 (3 * o + c) else vCarry τ r m c
theorem tkI_e {T : Nat → Nat → Int32} {τ : wd_S} {nm nc : Nat} (hT : cT T τ nm nc) {M : Nat → Nat → Int32} {r : Nat → Int32} (hM : cM M r nm nc) {m o c : Nat} (hm : m < nm) (ho : o < nm) (hc : c < nc) (hf : 0 ≤ M 2 m) (hn : nFac M m = o) : wTakenIf T M m c = vTkI τ r m o c := by
  unfold wTakenIf vTkI
  rw [if_pos hf, imin_e, hn, carry_e hT hM hm hc, (hT.2.2.2 o c ho hc).1]
theorem taken_e {T : Nat → Nat → Int32} {τ : wd_S} {nm nc : Nat} (hT : cT T τ nm nc) {M : Nat → Nat → Int32} {r : Nat → Int32} (hM : cM M r nm nc) {m : Nat} (hm : m < nm) : wTaken T M m = vTakes τ r m := by
  have h6 := hT.1.2.2.2.2.1
  have h3 := hT.1.2.2.2.2.2
  unfold wTaken vTakes
  rcases fac_e (hM.1 m hm).2.2.1 h6 hm with ⟨_, _, n1, n2⟩ | ⟨o, ho, _, p1, p2, q1, q2, _⟩
  · rw [if_neg n1, if_neg n2]
  · rw [if_pos p1, if_pos p2, q1, q2, sow_e hM ho, tkI_e hT hM hm ho (sow_l hM h3 ho) p1 q1]
    rfl
theorem kept_e {T : Nat → Nat → Int32} {τ : wd_S} {nm nc : Nat} (hT : cT T τ nm nc) {M : Nat → Nat → Int32} {r : Nat → Int32} (hM : cM M r nm nc) {m : Nat} (hm : m < nm) : wKept T M m = vKept τ r m := by
  have h6 := hT.1.2.2.2.2.1
  have h3 := hT.1.2.2.2.2.2
  unfold wKept vKept
  rw [sow_e hM hm, (hT.2.2.2 m (sF r m) hm (sow_l hM h3 hm)).1]
  rcases fac_e (hM.1 m hm).2.2.1 h6 hm with ⟨_, _, n1, n2⟩ | ⟨o, ho, _, p1, p2, q1, q2, p3, p4, q3, q4⟩
  · rw [if_neg n1, if_neg n2, Int32.sub_zero]
  · rw [if_pos p1, if_pos p2, q1, q2, tkI_e hT hM ho hm (sow_l hM h3 hm) p3 q3]
    unfold vTakes
    rw [if_pos p4, q4]
    rfl
theorem worth_e {T : Nat → Nat → Int32} {τ : wd_S} {nm nc : Nat} (hT : cT T τ nm nc) {M : Nat → Nat → Int32} {r : Nat → Int32} (hM : cM M r nm nc) {m o : Nat} (hm : m < nm) (ho : o < nm) (p1 : 0 ≤ M 2 m) (p2 : 0 ≤ r (6 + m) - 1) (q1 : nFac M m = o) (q2 : oF r m = o) : wTakenIf T M m (nSown M o) * T 2 (nSown M o) = vWorth τ r m := by
  have h3 := hT.1.2.2.2.2.2
  unfold vWorth
  rw [if_pos p2, ← taken_e hT hM hm, q2, sow_e hM ho, (hT.2.1 (sF r o) (sow_l hM h3 ho)).2.1]
  unfold wTaken
  rw [if_pos p1, q1, sow_e hM ho]
theorem has_e {T : Nat → Nat → Int32} {τ : wd_S} {nm nc : Nat} (hT : cT T τ nm nc) {M : Nat → Nat → Int32} {r : Nat → Int32} (hM : cM M r nm nc) {m : Nat} (hm : m < nm) : wHas T M m = vHas τ r m := by
  have h6 := hT.1.2.2.2.2.1
  have h3 := hT.1.2.2.2.2.2
  have hk := kept_e hT hM hm
  have hw := (hT.2.1 (sF r m) (sow_l hM h3 hm)).2.1
  unfold vHas
  unfold wKept at hk
  unfold wHas
  rcases fac_e (hM.1 m hm).2.2.1 h6 hm with ⟨_, _, n1, n2⟩ | ⟨o, ho, _, p1, p2, q1, q2, _⟩
  · rw [if_neg n1] at hk ⊢
    rw [hk, vWorth, if_neg n2, sow_e hM hm, hw, Int32.zero_add]
  · rw [if_pos p1] at hk ⊢
    rw [hk, q1, worth_e hT hM hm ho p1 p2 q1 q2, sow_e hM hm, hw, Int32.add_comm]
theorem gain_e {T : Nat → Nat → Int32} {τ : wd_S} {nm nc : Nat} (hT : cT T τ nm nc) {M : Nat → Nat → Int32} {r : Nat → Int32} (hM : cM M r nm nc) {m : Nat} (hm : m < nm) : wGain T M m = vMore τ r m := by
  unfold wGain vMore
  rw [has_e hT hM hm, (hT.2.2.1 m hm).2.2.1]
theorem itr_c {α : Type} {f g : Nat → α → α} {a : α} {n : Nat} (h : ∀ i x, i < n → f i x = g i x) : itr f a n = itr g a n := by
  induction n with
  | zero => rfl
  | succ n ih => rw [itr, itr, ih (fun i x hi => h i x (by omega)), h n _ (by omega)]
theorem cT_nm {T : Nat → Nat → Int32} {τ : wd_S} {nm nc : Nat} (hT : cT T τ nm nc) : nMen T = nm := pk_cl nm hT.1.1 (by have := hT.1.2.2.2.2.1; omega)
theorem cT_nc {T : Nat → Nat → Int32} {τ : wd_S} {nm nc : Nat} (hT : cT T τ nm nc) : nCrops T = nc := pk_cl nc hT.1.2.1 (by have := hT.1.2.2.2.2.2; omega)
theorem all_e {T : Nat → Nat → Int32} {τ : wd_S} {nm nc : Nat} (hT : cT T τ nm nc) {M : Nat → Nat → Int32} (hM : cM M (τ.1 9) nm nc) : wAll T M = vAll τ nm := by
  unfold wAll vAll
  rw [cT_nm hT]
  exact itr_c (fun i x hi => by rw [has_e hT hM hi])
theorem ropes_e {T : Nat → Nat → Int32} {τ : wd_S} {nm nc : Nat} (hT : cT T τ nm nc) {M : Nat → Nat → Int32} (hM : cM M (τ.1 9) nm nc) : wRopes T M = vRopes τ nm := by
  unfold wRopes vRopes
  rw [cT_nm hT]
  exact itr_c (fun i x hi => by rw [(hM.1 i hi).2.2.2.1])
theorem stor_e (x y : Int32) : stor x y = stv (x + y) := by
  unfold stor stv imax
  generalize x + y = z
  have e : imin 9999 z = if z ≤ 9999 then z else 9999 := imin_e 9999 z
  rw [e]
  by_cases h1 : z ≤ 9999
  · rw [if_pos h1]
    by_cases h2 : (-9999 : Int32) ≤ z
    · rw [if_pos h2]
      by_cases h3 : (-9999 : Int32) < z
      · rw [if_pos h3]
      · rw [if_neg h3]
        exact Int32.le_antisymm h2 (Int32.not_lt.mp h3)
    · rw [if_neg h2, if_neg (fun h => h2 (Int32.le_of_lt h))]
  · rw [if_neg h1, if_pos (by decide)]
    rw [if_pos (Int32.le_trans (show (-9999 : Int32) ≤ 9999 by decide) (Int32.le_of_lt (Int32.not_le.mp h1)))]
theorem fed_e {T : Nat → Nat → Int32} {τ : wd_S} {nm nc : Nat} (hT : cT T τ nm nc) {M : Nat → Nat → Int32} {r : Nat → Int32} (hM : cM M r nm nc) : fedV T M nm = vFed τ r nm := by
  unfold fedV vFed
  exact itr_c (fun i x hi => by rw [gain_e hT hM hi, Int32.add_zero])

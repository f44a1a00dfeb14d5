/-! ===== both: rain, ropes, mules; odds; cut ===== -/
theorem cM_rain {M : Nat → Nat → Int32} {r : Nat → Int32} {nm nc : Nat} (hM : cM M r nm nc) (h6 : nm ≤ 6) {v : Int32} (hv : v = 0 ∨ v = 1) : cM (u2 M 0 5 v) (upd r (30) v) nm nc := by
  have er : ∀ j, j ≠ 30 → upd r (30) v j = r j := fun j hj => if_neg hj
  have eM : ∀ p q, ¬ (p = 0 ∧ q = 5) → u2 M 0 5 v p q = M p q := fun p q h => if_neg h
  have es : upd r (30) v (30) = v := if_pos rfl
  have eT : u2 M 0 5 v 0 5 = v := if_pos ⟨rfl, rfl⟩
  refine ⟨fun m hm => ?_, ?_, ?_, ?_⟩
  · obtain ⟨h1, h2, h3, h4, h5, h7, h8, h9, h10⟩ := hM.1 m hm
    refine ⟨?_, ?_, ?_, ?_, ?_, ?_, ?_, ?_, ?_⟩
    · rw [eM _ _ (by omega), er _ (by omega)]; exact h1
    · rw [er _ (by omega)]; exact h2
    · rcases h3 with ⟨q1, q2⟩ | ⟨o, ho, hne, q1, q2, q3, q4⟩
      · exact Or.inl ⟨by rw [er _ (by omega)]; exact q1, by rw [eM _ _ (by omega)]; exact q2⟩
      · exact Or.inr ⟨o, ho, hne, by rw [er _ (by omega)]; exact q1, by rw [eM _ _ (by omega)]; exact q2, by rw [eM _ _ (by omega)]; exact q3, by rw [er _ (by omega)]; exact q4⟩
    · rw [eM _ _ (by omega), er _ (by omega)]; exact h4
    · rw [er _ (by omega)]; exact h5
    · rw [eM _ _ (by omega), er _ (by omega)]; exact h7
    · rw [er _ (by omega)]; exact h8
    · rw [eM _ _ (by omega), er _ (by omega)]; exact h9
    · rw [er _ (by omega)]; exact h10
  · rw [eT, es]
  · rw [es]; exact hv
  · rw [eM _ _ (by omega), er _ (by omega)]; exact hM.2.2.2
theorem cM_rope {M : Nat → Nat → Int32} {r : Nat → Int32} {nm nc : Nat} (hM : cM M r nm nc) (h6 : nm ≤ 6) {a : Nat} (ha : a < nm) {v : Int32} (hv : pIn v 0 3) : cM (u2 M 3 a v) (upd r (12 + a) v) nm nc := by
  have er : ∀ j, j ≠ 12 + a → upd r (12 + a) v j = r j := fun j hj => if_neg hj
  have eM : ∀ p q, ¬ (p = 3 ∧ q = a) → u2 M 3 a v p q = M p q := fun p q h => if_neg h
  have es : upd r (12 + a) v (12 + a) = v := if_pos rfl
  have eT : u2 M 3 a v 3 a = v := if_pos ⟨rfl, rfl⟩
  refine ⟨fun m hm => ?_, ?_, ?_, ?_⟩
  · obtain ⟨h1, h2, h3, h4, h5, h7, h8, h9, h10⟩ := hM.1 m hm
    refine ⟨?_, ?_, ?_, ?_, ?_, ?_, ?_, ?_, ?_⟩
    · rw [eM _ _ (by omega), er _ (by omega)]; exact h1
    · rw [er _ (by omega)]; exact h2
    · rcases h3 with ⟨q1, q2⟩ | ⟨o, ho, hne, q1, q2, q3, q4⟩
      · exact Or.inl ⟨by rw [er _ (by omega)]; exact q1, by rw [eM _ _ (by omega)]; exact q2⟩
      · exact Or.inr ⟨o, ho, hne, by rw [er _ (by omega)]; exact q1, by rw [eM _ _ (by omega)]; exact q2, by rw [eM _ _ (by omega)]; exact q3, by rw [er _ (by omega)]; exact q4⟩
    · by_cases q : m = a
      · rw [q, eT, es]
      · rw [eM _ _ (by omega), er _ (by omega)]; exact h4
    · by_cases q : m = a
      · rw [q, es]; exact hv
      · rw [er _ (by omega)]; exact h5
    · rw [eM _ _ (by omega), er _ (by omega)]; exact h7
    · rw [er _ (by omega)]; exact h8
    · rw [eM _ _ (by omega), er _ (by omega)]; exact h9
    · rw [er _ (by omega)]; exact h10
  · rw [eM _ _ (by omega), er _ (by omega)]; exact hM.2.1
  · rw [er _ (by omega)]; exact hM.2.2.1
  · rw [eM _ _ (by omega), er _ (by omega)]; exact hM.2.2.2
theorem cM_mule {M : Nat → Nat → Int32} {r : Nat → Int32} {nm nc : Nat} (hM : cM M r nm nc) (h6 : nm ≤ 6) {a : Nat} (ha : a < nm) {v : Int32} (hv : v = 0 ∨ v = 1) : cM (u2 M 4 a v) (upd r (18 + a) v) nm nc := by
  have er : ∀ j, j ≠ 18 + a → upd r (18 + a) v j = r j := fun j hj => if_neg hj
  have eM : ∀ p q, ¬ (p = 4 ∧ q = a) → u2 M 4 a v p q = M p q := fun p q h => if_neg h
  have es : upd r (18 + a) v (18 + a) = v := if_pos rfl
  have eT : u2 M 4 a v 4 a = v := if_pos ⟨rfl, rfl⟩
  refine ⟨fun m hm => ?_, ?_, ?_, ?_⟩
  · obtain ⟨h1, h2, h3, h4, h5, h7, h8, h9, h10⟩ := hM.1 m hm
    refine ⟨?_, ?_, ?_, ?_, ?_, ?_, ?_, ?_, ?_⟩
    · rw [eM _ _ (by omega), er _ (by omega)]; exact h1
    · rw [er _ (by omega)]; exact h2
    · rcases h3 with ⟨q1, q2⟩ | ⟨o, ho, hne, q1, q2, q3, q4⟩
      · exact Or.inl ⟨by rw [er _ (by omega)]; exact q1, by rw [eM _ _ (by omega)]; exact q2⟩
      · exact Or.inr ⟨o, ho, hne, by rw [er _ (by omega)]; exact q1, by rw [eM _ _ (by omega)]; exact q2, by rw [eM _ _ (by omega)]; exact q3, by rw [er _ (by omega)]; exact q4⟩
    · rw [eM _ _ (by omega), er _ (by omega)]; exact h4
    · rw [er _ (by omega)]; exact h5
    · by_cases q : m = a
      · rw [q, eT, es]
      · rw [eM _ _ (by omega), er _ (by omega)]; exact h7
    · by_cases q : m = a
      · rw [q, es]; exact hv
      · rw [er _ (by omega)]; exact h8
    · rw [eM _ _ (by omega), er _ (by omega)]; exact h9
    · rw [er _ (by omega)]; exact h10
  · rw [eM _ _ (by omega), er _ (by omega)]; exact hM.2.1
  · rw [er _ (by omega)]; exact hM.2.2.1
  · rw [eM _ _ (by omega), er _ (by omega)]; exact hM.2.2.2
theorem odds_i {T : Nat → Nat → Int32} {τ : wd_S} {nm nc : Nat} (hT : cT T τ nm nc) {M : Nat → Nat → Int32} {r : Nat → Int32} (hM : cM M r nm nc) {m : Nat} (hm : m < nm) (x : Int32) (w : Nat) : ∀ n, (itr (chI x (wGain T (u2 M 0 5 0) m) (wGain T (u2 M 0 5 1) m) w) (1, M 5 m) n).1 = (itr (oIn τ nm x w) (1, r) n).1 ∧ (itr (chI x (wGain T (u2 M 0 5 0) m) (wGain T (u2 M 0 5 1) m) w) (1, M 5 m) n).2 = (itr (oIn τ nm x w) (1, r) n).2 (24 + m) ∧ ∀ k, k < 24 → (itr (oIn τ nm x w) (1, r) n).2 k = r k := by
  have h6 := hT.1.2.2.2.2.1
  intro n
  induction n with
  | zero =>
    rw [itr, itr]
    exact ⟨rfl, (hM.1 m hm).2.2.2.2.2.2.2.1, fun _ _ => rfl⟩
  | succ n ih =>
    rw [itr, itr]
    generalize itr (chI x (wGain T (u2 M 0 5 0) m) (wGain T (u2 M 0 5 1) m) w) (1, M 5 m) n = s at ih
    generalize itr (oIn τ nm x w) (1, r) n = p at ih
    obtain ⟨e1, e2, e3⟩ := ih
    have hv := and1_01 (nI w >>> (nI n &&& 31))
    have hM' := cM_rain hM h6 hv
    have hq : rEq (upd r 30 (bit w n)) (upd p.2 30 (bit w n)) := fun k hk => by
      unfold upd
      by_cases q : k = 30
      · rw [if_pos q, if_pos q]
      · rw [if_neg q, if_neg q, e3 k (by omega)]
    have hg : vMore τ (upd p.2 30 (bit w n)) m = wGain T (u2 M 0 5 (bit w n)) m := by
      rw [gain_e hT hM' hm, more_eq hq (cT_rOk hT hM') hm]
    have h24 : upd p.2 30 (bit w n) (24 + m) = p.2 (24 + m) := if_neg (by omega)
    unfold chI oIn
    refine ⟨?_, ?_, fun k hk => ?_⟩
    · by_cases c : (nI w >>> (nI n &&& 31)) &&& 1 = 1
      · rw [if_pos c]; show s.1 * x = if bit w n = 1 then _ else _; rw [if_pos c, e1]
      · rw [if_neg c]; show s.1 * (10 - x) = if bit w n = 1 then _ else _; rw [if_neg c, e1]
    · show _ = goR τ (upd p.2 30 (bit w n)) nm (24 + m)
      rw [go_24 τ _ h6 hm, hg, h24, ← e2]
      by_cases c : (nI w >>> (nI n &&& 31)) &&& 1 = 1
      · rw [if_pos c, show bit w n = 1 from c]
      · rw [if_neg c, show bit w n = 0 from hv.elim id (fun h => absurd h c)]
    · show goR τ (upd p.2 30 (bit w n)) nm k = r k
      rw [← goR_eq τ h6 k (Or.inl hk)]
      exact (if_neg (by omega)).trans (e3 k hk)
theorem odds_e {T : Nat → Nat → Int32} {τ : wd_S} {nm nc : Nat} (hT : cT T τ nm nc) {M : Nat → Nat → Int32} (hM : cM M (τ.1 9) nm nc) {m : Nat} (hm : m < nm) (n : Nat) (x v : Int32) : chV T M m n x v = oV τ nm m x v n := by
  unfold chV oV
  refine itr_c (fun w a hw => ?_)
  unfold chO oOut
  obtain ⟨e1, e2, _⟩ := odds_i hT hM hm x w n
  rw [e1, e2, Int32.add_zero]
theorem cutI_e {T : Nat → Nat → Int32} {τ : wd_S} {nm nc : Nat} (hT : cT T τ nm nc) {M : Nat → Nat → Int32} {r : Nat → Int32} (hM : cM M r nm nc) {m o c : Nat} (hm : m < nm) (ho : o < nm) (hc : c < nc) (p1 : 0 ≤ M 2 m) (p2 : 0 ≤ r (6 + m) - 1) (q1 : nFac M m = o) (q2 : oF r m = o) : wTakenIf T M m c = vTakes τ (upd r o (nI c)) m := by
  have h6 := hT.1.2.2.2.2.1
  have h3 := hT.1.2.2.2.2.2
  have e : upd r o (nI c) (6 + m) = r (6 + m) := if_neg (by omega)
  have eF : oF (upd r o (nI c)) m = o := by unfold oF; rw [e]; exact q2
  have eS : sF (upd r o (nI c)) o = c := pk_cl c (if_pos rfl) (by omega)
  have eC : vCarry τ (upd r o (nI c)) m c = vCarry τ r m c := by
    unfold vCarry upd
    rw [if_neg (by omega), if_neg (by omega), if_neg (by omega)]
  rw [tkI_e hT hM hm ho hc p1 q1]
  unfold vTakes vTkI
  rw [e, if_pos p2, eF, eS, eC]
theorem cut_e {T : Nat → Nat → Int32} {τ : wd_S} {nm nc : Nat} (hT : cT T τ nm nc) {M : Nat → Nat → Int32} {r : Nat → Int32} (hM : cM M r nm nc) {m : Nat} (hm : m < nm) (σ : wd_S) (ns : Nat) (hns : σ.1 0 10 = nI ns) (h5 : ns ≤ 5) (hst : ∀ i, i < ns → σ.1 7 i = τ.1 14 i ∧ σ.1 8 i = τ.1 15 i) (hf : 0 ≤ M 2 m) (x : Int32) : cutV σ T M m x = rcV τ r m x ns nc := by
  have h6 := hT.1.2.2.2.2.1
  unfold cutV rcV
  rw [cT_nc hT]
  refine itr_c (fun c b hc => ?_)
  rcases fac_e (hM.1 m hm).2.2.1 h6 hm with ⟨_, _, n1, n2⟩ | ⟨o, ho, _, p1, p2, q1, q2, _⟩
  · exact absurd hf n1
  · rw [q2, ← cutI_e hT hM hm ho hc p1 p2 q1 q2, Int32.or_zero]
    have e : fitsB σ x (wTakenIf T M m c) = itr (rcS τ (wTakenIf T M m c) x) true ns := by
      apply bool_iff
      unfold fitsB
      rw [decide_eq_true_iff, show (σ.1 0 10).toNatClampNeg = ns from pk_cl ns hns (by omega)]
      rw [itr_and (f := rcS τ (wTakenIf T M m c) x) (P := fun i => ¬ τ.1 14 i = x ∨ wTakenIf T M m c = τ.1 15 i) (fun i z hi => and_d)]
      refine ⟨fun h => ⟨rfl, fun i hi => ?_⟩, fun h i hi => ?_⟩
      · rw [← (hst i hi).1, ← (hst i hi).2]; exact (h i hi).imp id Eq.symm
      · rw [(hst i hi).1, (hst i hi).2]; exact (h.2 i hi).imp id Eq.symm
    rw [e]

/-! ===== both: ropes of all ===== -/
def foF (τ : wd_S) (r : Nat → Int32) (nm j o a b : Nat) : Prop := fdG τ r nm (fun k => if k = j then a else if k = o then b else 0) j ∧ fdG τ r nm (fun k => if k = j then a else if k = o then b else 0) o
/-- the leaders below i have their first fewest ropes -/
def rpD (τ : wd_S) (r : Nat → Int32) (nm : Nat) (p : Nat → Option Nat) (g : Nat → Nat) (j : Nat) : Prop := (p j = none → g j = 0 ∧ fdG τ r nm g j) ∧ ∀ o, p j = some o → j < o → foF τ r nm j o (g j) (g o) ∧ ∀ a b, a < 4 → b < 4 → foF τ r nm j o a b → g j + g o ≤ a + b ∧ (a + b = g j + g o → g j ≤ a)
section RP
variable {T M0 : Nat → Nat → Int32} {τ : wd_S} {r : Nat → Int32} {nm nc : Nat} {p : Nat → Option Nat}
theorem foF_e (h6 : nm ≤ 6) (hp : cP M0 r nm p) {f : Nat → Nat} {j o : Nat} (hj : j < nm) (e : p j = some o) : (fdG τ r nm f j ∧ fdG τ r nm f o) ↔ foF τ r nm j o (f j) (f o) := by
  obtain ⟨_, _, a3⟩ := hp j hj
  obtain ⟨o1, o2, o3⟩ := a3 o e
  unfold foF
  have h1 := fdG_l (τ := τ) h6 hp (f := f) (g := fun k => if k = j then f j else if k = o then f o else 0) hj (fun o' e' => by
    rw [e] at e'
    injection e' with e'
    subst e'
    exact ⟨(if_pos rfl).symm, ((if_neg o2).trans (if_pos rfl)).symm⟩)
  have h2 := fdG_l (τ := τ) h6 hp (f := f) (g := fun k => if k = j then f j else if k = o then f o else 0) o1 (fun o' e' => by
    rw [o3] at e'
    injection e' with e'
    subst e'
    exact ⟨((if_neg o2).trans (if_pos rfl)).symm, (if_pos rfl).symm⟩)
  rw [h1, h2]
theorem rpD_c (h6 : nm ≤ 6) (hp : cP M0 r nm p) {g g' : Nat → Nat} {j : Nat} (hj : j < nm) (e1 : g' j = g j) (e2 : ∀ o, p j = some o → g' o = g o) (h : rpD τ r nm p g j) : rpD τ r nm p g' j ∧ wt p g' j = wt p g j := by
  refine ⟨⟨fun e => ⟨e1.trans (h.1 e).1, (fdG_l h6 hp hj (fun o q => by rw [e] at q; exact nomatch q)).mp (h.1 e).2⟩, fun o e hjo => ?_⟩, ?_⟩
  · rw [e1, e2 o e]; exact h.2 o e hjo
  · unfold wt
    cases hpj : p j with
    | none => exact e1
    | some o =>
      show (if j < o then g' j + g' o else 0) = if j < o then g j + g o else 0
      rw [e1, e2 o hpj]
theorem fac_p (hp : cP M0 r nm p) (h6 : nm ≤ 6) (hM0 : ∀ m, m < nm → cF M0 r nm m) {M : Nat → Nat → Int32} {g : Nat → Nat} (hM : cM M (rpR r nm g) nm nc) {m : Nat} (hm : m < nm) : M 2 m = eM (p m) := by
  rw [cF_v h6 (hM.1 m hm).2.2.1, rpR_o g (by omega), ← cF_v h6 (hM0 m hm)]
  exact (hp m hm).1
theorem cM_rp (h6 : nm ≤ 6) {M : Nat → Nat → Int32} {g : Nat → Nat} (hM : cM M (rpR r nm g) nm nc) {m v : Nat} (hm : m < nm) (hv : v ≤ 3) : cM (u2 M 3 m (nI v)) (rpR r nm (fun k => if k = m then v else g k)) nm nc := by
  rw [← rpR_up g hm v]
  exact cM_rope hM h6 hm ⟨nI_pos' (by omega), nI_le (b := 3) hv (by decide)⟩
theorem fed_F (hT : cT T τ nm nc) (hp : cP M0 r nm p) {M : Nat → Nat → Int32} {g : Nat → Nat} (hM : cM M (rpR r nm g) nm nc) {j o a b : Nat} (hj : j < nm) (e : p j = some o) (ha : a < 4) (hb : b < 4) : fedD T (u2 (u2 M 3 j (nI a)) 3 o (nI b)) j o = true ↔ foF τ r nm j o a b := by
  have h6 := hT.1.2.2.2.2.1
  obtain ⟨_, _, a3⟩ := hp j hj
  obtain ⟨o1, o2, o3⟩ := a3 o e
  have hM' := cM_rp h6 (cM_rp h6 hM hj (v := a) (by omega)) o1 (v := b) (by omega)
  unfold fedD
  rw [decide_eq_true_iff, gain_e hT hM' hj, gain_e hT hM' o1, more_neg hT hM' hj, more_neg hT hM' o1]
  have h := foF_e (τ := τ) (f := fun k => if k = o then b else if k = j then a else g k) h6 hp hj e
  rw [if_neg (fun q => o2 q.symm), if_pos rfl, if_pos rfl] at h
  exact h
theorem tr_e (hT : cT T τ nm nc) (hp : cP M0 r nm p) (hM0 : ∀ m, m < nm → cF M0 r nm m) : ∀ (k i S : Nat) (M : Nat → Nat → Int32) (g : Nat → Nat), i + k = nm → cM M (rpR r nm g) nm nc → (∀ j, j < nm → g j ≤ 3) → (∀ j, j < i → rpD τ r nm p g j) → S = sm (wt p g) i →
    ((trL T k i (nI S) M).1 = -9 ∧ ∀ f : Nat → Nat, (∀ j, j < nm → f j < 4) → ¬ ∀ j, j < nm → fdG τ r nm f j) ∨ ∃ g' : Nat → Nat, (∀ j, j < nm → g' j ≤ 3) ∧ (∀ j, j < nm → rpD τ r nm p g' j) ∧ (trL T k i (nI S) M).1 = nI (sm (wt p g') nm) ∧ ∀ j, j < nm → (trL T k i (nI S) M).2 3 j = nI (g' j) := by
  have h6 := hT.1.2.2.2.2.1
  intro k
  induction k with
  | zero =>
    intro i S M g hi hM hg hD hS
    have ei : i = nm := by omega
    subst ei
    rw [trL]
    refine Or.inr ⟨g, hg, hD, by rw [hS], fun j hj => ?_⟩
    show M 3 j = _
    rw [(hM.1 j hj).2.2.2.1, rpR_i g hj]
  | succ k ih =>
    intro i S M g hi hM hg hD hS
    have hin : i < nm := by omega
    have hf := fac_p hp h6 hM0 hM hin
    obtain ⟨_, _, a3⟩ := hp i hin
    rw [trL]
    cases hpi : p i with
    | none =>
      rw [hpi] at hf
      have hf9 : M 2 i = -9 := hf
      rw [if_neg (fun z => z.1 (by rw [hf9]; decide)), if_neg (by rw [hf9]; decide)]
      have hM' := cM_rp h6 hM hin (v := 0) (by omega)
      have hw : wGain T (u2 M 3 i 0) i < 0 ↔ ¬ fdG τ r nm g i := by
        rw [show (0 : Int32) = nI 0 from rfl, gain_e hT hM' hin]
        show vMore τ _ i < 0 ↔ _
        rw [more_neg hT hM' hin]
        have := fdG_l (τ := τ) h6 hp (f := g) (g := fun k => if k = i then 0 else g k) hin (fun o q => by rw [hpi] at q; exact nomatch q)
        rw [this]
        unfold fdG
        exact ⟨fun a b => b a, fun a => Classical.byContradiction a⟩
      unfold aloneV
      by_cases c : wGain T (u2 M 3 i 0) i < 0
      · rw [if_pos c, if_pos rfl]
        refine Or.inl ⟨rfl, fun f hf4 hall => ?_⟩
        exact hw.mp c ((fdG_l (τ := τ) h6 hp (f := f) (g := g) hin (fun o q => by rw [hpi] at q; exact nomatch q)).mp (hall i hin))
      · rw [if_neg c, if_neg (by decide), Int32.add_zero]
        have hc : ∀ j, j < i → rpD τ r nm p (fun k => if k = i then 0 else g k) j ∧ wt p (fun k => if k = i then 0 else g k) j = wt p g j := fun j hj => rpD_c h6 hp (by omega) (if_neg (by omega)) (fun o q => if_neg (fun e => by have := ((hp j (by omega)).2.2 o q).2.2; rw [e, hpi] at this; exact nomatch this)) (hD j hj)
        have hi0 : (fun k => if k = i then 0 else g k) i = 0 := if_pos rfl
        refine ih (i + 1) S _ (fun k => if k = i then 0 else g k) (by omega) hM' (fun j hj => ?_) (fun j hj => ?_) ?_
        · by_cases q : j = i
          · rw [if_pos q]; omega
          · rw [if_neg q]; exact hg j hj
        · by_cases q : j = i
          · subst q
            refine ⟨fun _ => ⟨hi0, ?_⟩, fun o q => by rw [hpi] at q; exact nomatch q⟩
            exact (fdG_l (τ := τ) h6 hp (f := g) (g := fun k => if k = j then 0 else g k) hin (fun o q => by rw [hpi] at q; exact nomatch q)).mp (Classical.byContradiction (fun z => c (hw.mpr z)))
          · exact (hc j (by omega)).1
        · rw [sm_s, sm_c (fun j hj => (hc j hj).2), ← hS]
          have : wt p (fun k => if k = i then 0 else g k) i = 0 := by
            unfold wt
            rw [hpi]
            exact hi0
          omega
    | some o =>
      rw [hpi] at hf
      have hfo : M 2 i = nI o := hf
      obtain ⟨o1, o2, o3⟩ := a3 o hpi
      have h0 : 0 ≤ M 2 i := by rw [hfo]; exact nI_pos' (by omega)
      by_cases c : o < i
      · rw [if_pos ⟨by rw [Int32.not_lt]; exact h0, by rw [hfo]; exact nI_lt c (by omega)⟩]
        refine ih (i + 1) S M g (by omega) hM hg (fun j hj => ?_) ?_
        · by_cases q : j = i
          · subst q
            refine ⟨fun e => (by rw [hpi] at e; exact absurd e (fun z => nomatch z)), fun o' e hlt => ?_⟩
            rw [hpi] at e
            injection e with e
            omega
          · exact hD j (by omega)
        · rw [sm_s, ← hS]
          have : wt p g i = 0 := by
            unfold wt
            rw [hpi]
            exact if_neg (by omega)
          omega
      · rw [if_neg (fun z => c ((nI_ltI (by omega) (by omega)).mp (by rw [← hfo]; exact z.2))), if_pos h0, show nFac M i = o from pk_cl o hfo (by omega)]
        have hio : i < o := by omega
        have hq := two_e (T := T) (M := M) (m := i) (o := o) (F := foF τ r nm i o) (fun a b ha hb => fed_F hT hp hM hin hpi ha hb)
        rcases hq with ⟨e, hn⟩ | ⟨a, b, ha, hb, _, hab, e, hm⟩
        · rw [if_pos e]
          refine Or.inl ⟨rfl, fun f hf4 hall => ?_⟩
          exact hn (f i) (f o) ⟨hf4 i hin, hf4 o o1⟩ ((foF_e h6 hp hin hpi).mp ⟨hall i hin, hall o o1⟩)
        · unfold twoM
          rw [e]
          show _ ∨ _
          have e9 : ¬ ((nI (a + b), nI a) : Int32 × Int32).1 = -9 := nI_n9 (by omega)
          rw [if_neg e9]
          show ((trL T k (i + 1) (nI S + nI (a + b)) (u2 (u2 M 3 i (nI a)) 3 o (nI (a + b) - nI a))).1 = -9 ∧ _) ∨ ∃ g' : Nat → Nat, _ ∧ _ ∧ (trL T k (i + 1) (nI S + nI (a + b)) (u2 (u2 M 3 i (nI a)) 3 o (nI (a + b) - nI a))).1 = _ ∧ ∀ j, j < nm → (trL T k (i + 1) (nI S + nI (a + b)) (u2 (u2 M 3 i (nI a)) 3 o (nI (a + b) - nI a))).2 3 j = _
          rw [show nI (a + b) - nI a = nI b from (pk_sub (by omega)).trans (by rw [show a + b - a = b by omega]), nI_add]
          have hM' := cM_rp h6 (cM_rp h6 hM hin (v := a) (by omega)) o1 (v := b) (by omega)
          generalize hg' : (fun k => if k = o then b else (fun k => if k = i then a else g k) k) = g' at hM'
          have gi : g' i = a := by rw [← hg']; exact (if_neg (fun q => o2 q.symm)).trans (if_pos rfl)
          have go : g' o = b := by rw [← hg']; exact if_pos rfl
          have gn : ∀ k, k ≠ o → k ≠ i → g' k = g k := fun k h1 h2 => by rw [← hg']; exact (if_neg h1).trans (if_neg h2)
          have hc : ∀ j, j < i → rpD τ r nm p g' j ∧ wt p g' j = wt p g j := fun j hj => rpD_c h6 hp (by omega) (gn j (by omega) (by omega)) (fun o' q => gn o' (fun e => by have := ((hp j (by omega)).2.2 o' q).2.2; rw [e, o3] at this; injection this with this; omega) (fun e => by have := ((hp j (by omega)).2.2 o' q).2.2; rw [e, hpi] at this; injection this with this; omega)) (hD j hj)
          refine ih (i + 1) (S + (a + b)) _ g' (by omega) hM' (fun j hj => ?_) (fun j hj => ?_) ?_
          · by_cases q1 : j = o
            · rw [q1, go]; omega
            · by_cases q2 : j = i
              · rw [q2, gi]; omega
              · rw [gn j q1 q2]; exact hg j hj
          · by_cases q : j = i
            · subst q
              refine ⟨fun e => (by rw [hpi] at e; exact absurd e (fun z => nomatch z)), fun o' e' hlt => ?_⟩
              rw [hpi] at e'
              injection e' with e'
              subst e'
              rw [gi, go]
              exact ⟨hab, fun a' b' ha' hb' h' => hm a' b' ⟨ha', hb'⟩ h'⟩
            · exact (hc j (by omega)).1
          · rw [sm_s, sm_c (fun j hj => (hc j hj).2), ← hS]
            have : wt p g' i = a + b := by
              unfold wt
              rw [hpi]
              show (if i < o then g' i + g' o else 0) = a + b
              rw [if_pos hio, gi, go]
            omega
theorem ndN_e (nm way : Nat) : ∀ n, ndN nm way n = nI (sm (dgt 4 nm way) n) := by
  intro n
  induction n with
  | zero => rfl
  | succ n ih =>
    unfold ndN at ih ⊢
    rw [itr, ih, sm_s, nI_add]
    rfl
theorem ndB_e {τ : wd_S} {nm way : Nat} {a : Int32} : ndB τ nm way a = true ↔ ¬ a ≤ nI (sm (dgt 4 nm way) nm) ∧ ∀ m, m < nm → fdG τ (τ.1 9) nm (dgt 4 nm way) m := by
  unfold ndB
  rw [itr_and (f := ndC τ (ndR τ nm way)) (P := fun m => ¬ vHas τ (ndR τ nm way) m < τ.1 7 m) (fun m z hm => and_d), decide_eq_true_iff, ndN_e]
  exact Iff.rfl
theorem sm_18 {nm way : Nat} (h6 : nm ≤ 6) : sm (dgt 4 nm way) nm ≤ 18 := by
  have h : ∀ n, sm (dgt 4 nm way) n ≤ 3 * n := by
    intro n
    induction n with
    | zero => rw [sm_0]; omega
    | succ n ih =>
      rw [sm_s]
      have := dgt_lt (B := 4) (by decide) nm way n
      omega
  have := h nm
  omega
theorem nd_none {τ : wd_S} {nm : Nat} (h : ∀ w, w < 4 ^ nm → ¬ ∀ m, m < nm → fdG τ (τ.1 9) nm (dgt 4 nm w) m) : (ndV τ nm).1 = 1000000 := by
  have key : ∀ n, n ≤ 4 ^ nm → itr (ndS τ nm) (1000000, τ.1 17) n = (1000000, τ.1 17) := by
    intro n
    induction n with
    | zero => intro _; rw [itr]
    | succ n ih =>
      intro hn
      rw [itr, ih (by omega)]
      unfold ndS
      exact if_neg (fun e => h n (by omega) (ndB_e.mp e).2)
  unfold ndV
  rw [key _ (Nat.le_refl _)]
theorem nd_first {τ : wd_S} {nm w0 : Nat} (h6 : nm ≤ 6) (hw : w0 < 4 ^ nm) (hf : ∀ m, m < nm → fdG τ (τ.1 9) nm (dgt 4 nm w0) m) (hmin : ∀ w, w < 4 ^ nm → (∀ m, m < nm → fdG τ (τ.1 9) nm (dgt 4 nm w) m) → sm (dgt 4 nm w0) nm ≤ sm (dgt 4 nm w) nm ∧ (sm (dgt 4 nm w) nm = sm (dgt 4 nm w0) nm → w0 ≤ w)) : (ndV τ nm).1 = nI (sm (dgt 4 nm w0) nm) ∧ ∀ k, k < nm → (ndV τ nm).2 k = nI (dgt 4 nm w0 k) := by
  have s18 := fun w => sm_18 (way := w) h6
  have key : ∀ n, n ≤ 4 ^ nm → (n ≤ w0 → ∃ c, c ≤ 1000000 ∧ sm (dgt 4 nm w0) nm < c ∧ (itr (ndS τ nm) (1000000, τ.1 17) n).1 = nI c) ∧ (w0 < n → (itr (ndS τ nm) (1000000, τ.1 17) n).1 = nI (sm (dgt 4 nm w0) nm) ∧ ∀ k, k < nm → (itr (ndS τ nm) (1000000, τ.1 17) n).2 k = nI (dgt 4 nm w0 k)) := by
    intro n
    induction n with
    | zero =>
      intro _
      rw [itr]
      refine ⟨fun _ => ⟨1000000, Nat.le_refl _, ?_, rfl⟩, fun h => absurd h (by omega)⟩
      have := s18 w0
      omega
    | succ n ih =>
      intro hn
      obtain ⟨i1, i2⟩ := ih (by omega)
      rw [itr]
      generalize itr (ndS τ nm) (1000000, τ.1 17) n = s at i1 i2
      unfold ndS
      refine ⟨fun h => ?_, fun h => ?_⟩
      · obtain ⟨c, hc, hc2, e⟩ := i1 (by omega)
        by_cases q : ndB τ nm n s.1 = true
        · rw [if_pos q]
          have hb := ndB_e.mp q
          have hm := hmin n (by omega) hb.2
          have := s18 n
          exact ⟨sm (dgt 4 nm n) nm, by omega, by omega, ndN_e nm n nm⟩
        · rw [if_neg q]
          exact ⟨c, hc, hc2, e⟩
      · by_cases q0 : n = w0
        · subst q0
          obtain ⟨c, hc, hc2, e⟩ := i1 (Nat.le_refl _)
          have hb : ndB τ nm n s.1 = true := ndB_e.mpr ⟨by rw [e, nI_leI (by omega) (by have := s18 n; omega)]; omega, hf⟩
          rw [if_pos hb]
          refine ⟨ndN_e nm n nm, fun k hk => ?_⟩
          show cpB s.2 (fun k => ndR τ nm n (12 + k)) nm k = _
          unfold cpB
          rw [if_pos hk]
          exact rpR_i (dgt 4 nm n) hk
        · obtain ⟨e1, e2⟩ := i2 (by omega)
          have hb : ¬ ndB τ nm n s.1 = true := fun z => by
            obtain ⟨z1, z2⟩ := ndB_e.mp z
            have hm := hmin n (by omega) z2
            rw [e1, nI_leI (by have := s18 w0; omega) (by have := s18 n; omega)] at z1
            omega
          rw [if_neg hb]
          exact ⟨e1, e2⟩
  exact (key _ (Nat.le_refl _)).2 hw
theorem need_e (hT : cT T τ nm nc) {M : Nat → Nat → Int32} (hM : cM M (τ.1 9) nm nc) : ((trV T M).1 = -9 ∧ (ndV τ nm).1 = 1000000) ∨ ∃ s, s ≤ 18 ∧ (trV T M).1 = nI s ∧ (ndV τ nm).1 = nI s ∧ ∀ m, m < nm → (trV T M).2 3 m = (ndV τ nm).2 m := by
  have h6 := hT.1.2.2.2.2.1
  have hF := fun m hm => (hM.1 m hm).2.2.1
  obtain ⟨p, hp⟩ := cF_p h6 hF
  have hr : ∀ m, m < nm → ∃ g, g ≤ 3 ∧ τ.1 9 (12 + m) = nI g := fun m hm => by
    obtain ⟨_, _, _, _, h4, _⟩ := hM.1 m hm
    obtain ⟨g, _, hg, e⟩ := pin_N (a := 0) (b := 3) h4 (by decide) (by decide)
    exact ⟨g, hg, e⟩
  have hg0 : ∀ m, m < nm → (τ.1 9 (12 + m)).toNatClampNeg ≤ 3 ∧ τ.1 9 (12 + m) = nI (τ.1 9 (12 + m)).toNatClampNeg := fun m hm => by
    obtain ⟨g, hg, e⟩ := hr m hm
    rw [pk_cl g e (by omega)]
    exact ⟨hg, e⟩
  have hM1 : cM M (rpR (τ.1 9) nm (fun m => (τ.1 9 (12 + m)).toNatClampNeg)) nm nc := by
    refine cM_r hM h6 (fun k hk => ?_)
    by_cases c : 12 ≤ k ∧ k < 12 + nm
    · obtain ⟨j, rfl⟩ : ∃ j, k = 12 + j := ⟨k - 12, by omega⟩
      rw [rpR_i _ (by omega)]
      exact (hg0 j (by omega)).2.symm
    · exact rpR_o _ c
  have htr := tr_e hT hp hF nm 0 0 M (fun m => (τ.1 9 (12 + m)).toNatClampNeg) (by omega) hM1 (fun j hj => (hg0 j hj).1) (fun j hj => absurd hj (by omega)) (sm_0 _).symm
  have hcp := fun m hm => (hp m hm).2.2
  unfold trV
  rw [cT_nm hT]
  rcases htr with ⟨e, hn⟩ | ⟨g, hg, hD, e, e2⟩
  · exact Or.inl ⟨e, nd_none (fun w hw hall => hn (dgt 4 nm w) (fun j hj => dgt_lt (by decide) nm w j) hall)⟩
  · have hg4 : ∀ k, k < nm → g k < 4 := fun k hk => by have := hg k hk; omega
    have hd := numD_d (B := 4) (by decide) hg4
    have hlt := numD_lt hg4
    have hfed : ∀ m, m < nm → fdG τ (τ.1 9) nm g m := fun m hm => by
      cases hpm : p m with
      | none => exact ((hD m hm).1 hpm).2
      | some o =>
        obtain ⟨o1, o2, o3⟩ := hcp m hm o hpm
        rcases Nat.lt_or_ge m o with c | c
        · exact ((foF_e h6 hp hm hpm).mpr ((hD m hm).2 o hpm c).1).1
        · exact ((foF_e h6 hp o1 o3).mpr ((hD o o1).2 m o3 (by omega)).1).2
    have hrw : ∀ f : Nat → Nat, (∀ k, k < nm → f k = g k) → ∀ m, fdG τ (τ.1 9) nm f m ↔ fdG τ (τ.1 9) nm g m := fun f hfg m => by
      unfold fdG
      rw [rpR_c hfg]
    have hsum := sm_c hd
    have hfirst := nd_first h6 hlt (fun m hm => (hrw _ hd m).mpr (hfed m hm)) (fun w hw hall => by
      have hle : ∀ j, j < nm → wt p g j ≤ wt p (dgt 4 nm w) j := fun j hj => by
        unfold wt
        cases hpj : p j with
        | none =>
          show g j ≤ dgt 4 nm w j
          rw [((hD j hj).1 hpj).1]; exact Nat.zero_le _
        | some o =>
          obtain ⟨o1, o2, o3⟩ := hcp j hj o hpj
          show (if j < o then g j + g o else 0) ≤ if j < o then dgt 4 nm w j + dgt 4 nm w o else 0
          by_cases c : j < o
          · rw [if_pos c, if_pos c]
            exact (((hD j hj).2 o hpj c).2 _ _ (dgt_lt (by decide) nm w j) (dgt_lt (by decide) nm w o) ((foF_e h6 hp hj hpj).mp ⟨hall j hj, hall o o1⟩)).1
          · rw [if_neg c, if_neg c]; exact Nat.le_refl _
      rw [hsum, wt_sum hcp g, wt_sum hcp (dgt 4 nm w)]
      refine ⟨sm_le hle, fun es => ?_⟩
      have heq := sm_eq hle es.symm
      refine dgt_lex (by decide) hlt hw (fun k hk hpre => ?_)
      rw [hd k hk]
      have hwk := heq k hk
      cases hpk : p k with
      | none => rw [((hD k hk).1 hpk).1]; exact Nat.zero_le _
      | some o =>
        obtain ⟨o1, o2, o3⟩ := hcp k hk o hpk
        rcases Nat.lt_or_ge k o with c | c
        · unfold wt at hwk
          rw [hpk] at hwk
          have hwk : (if k < o then g k + g o else 0) = if k < o then dgt 4 nm w k + dgt 4 nm w o else 0 := hwk
          rw [if_pos c, if_pos c] at hwk
          exact (((hD k hk).2 o hpk c).2 _ _ (dgt_lt (by decide) nm w k) (dgt_lt (by decide) nm w o) ((foF_e h6 hp hk hpk).mp ⟨hall k hk, hall o o1⟩)).2 hwk.symm
        · have hwo := heq o o1
          unfold wt at hwo
          rw [o3] at hwo
          have hwo : (if o < k then g o + g k else 0) = if o < k then dgt 4 nm w o + dgt 4 nm w k else 0 := hwo
          rw [if_pos (by omega), if_pos (by omega)] at hwo
          have hpo := hpre o (by omega)
          rw [hd o o1] at hpo
          omega)
    refine Or.inr ⟨sm (wt p g) nm, ?_, e, ?_, fun m hm => ?_⟩
    · rw [← wt_sum hcp g, ← hsum]; exact sm_18 h6
    · rw [hfirst.1, hsum, wt_sum hcp g]
    · exact (e2 m hm).trans (by rw [hfirst.2 m hm, hd m hm])
end RP

/-! ===== both: marriages ===== -/
def eM (p : Option Nat) : Int32 := match p with
  | none => -9
  | some o => nI o
def eR (p : Option Nat) : Int32 := match p with
  | none => 0
  | some o => nI (o + 1)
/-- the partners -/
def cP (M : Nat → Nat → Int32) (r : Nat → Int32) (nm : Nat) (p : Nat → Option Nat) : Prop := ∀ m, m < nm → M 2 m = eM (p m) ∧ r (6 + m) = eR (p m) ∧ ∀ o, p m = some o → o < nm ∧ o ≠ m ∧ p o = some m
theorem cF_p {M : Nat → Nat → Int32} {r : Nat → Int32} {nm : Nat} (h6 : nm ≤ 6) (h : ∀ m, m < nm → cF M r nm m) : ∃ p, cP M r nm p := by
  have e1 : ∀ m o, o < nm → M 2 m = nI o → (if M 2 m = -9 then none else some (nFac M m)) = some o := fun m o ho e => by
    rw [if_neg (by rw [e]; exact nI_n9 (by omega)), show nFac M m = o from pk_cl o e (by omega)]
  refine ⟨fun m => if M 2 m = -9 then none else some (nFac M m), fun m hm => ?_⟩
  rcases h m hm with ⟨q1, q2⟩ | ⟨o, ho, hne, q1, q2, q3, q4⟩
  · simp only [if_pos q2]
    exact ⟨q2, q1, fun o e => nomatch e⟩
  · simp only [e1 m o ho q2]
    refine ⟨q2, q1, fun o' e => ?_⟩
    injection e with e
    subst e
    exact ⟨ho, hne, e1 o m hm q3⟩
theorem p_cF {M : Nat → Nat → Int32} {r : Nat → Int32} {nm : Nat} {p : Nat → Option Nat} (h : cP M r nm p) : ∀ m, m < nm → cF M r nm m := by
  intro m hm
  obtain ⟨a1, a2, a3⟩ := h m hm
  cases hp : p m with
  | none => rw [hp] at a1 a2; exact Or.inl ⟨a2, a1⟩
  | some o =>
    rw [hp] at a1 a2
    obtain ⟨ho, hne, e⟩ := a3 o hp
    obtain ⟨b1, b2, _⟩ := h o ho
    rw [e] at b1 b2
    exact Or.inr ⟨o, ho, hne, a2, a1, b1, b2⟩
theorem cF_v {M : Nat → Nat → Int32} {r : Nat → Int32} {nm m : Nat} (h6 : nm ≤ 6) (h : cF M r nm m) : M 2 m = if r (6 + m) = 0 then -9 else r (6 + m) - 1 := by
  rcases h with ⟨q1, q2⟩ | ⟨o, ho, hne, q1, q2, q3, q4⟩
  · rw [if_pos q1]; exact q2
  · rw [if_neg (by rw [q1]; exact nI_ne0 (by omega) (by omega)), q1, q2]
    exact (sub1_of (n := o + 1) (by omega)).symm
def xP (p : Nat → Option Nat) (a b : Nat) : Nat → Option Nat := fun k => if p a = some k then some b else if p b = some k then some a else if k = b then p a else if k = a then p b else p k
theorem exch_row {σ : wd_S} {nm a b : Nat} {p : Nat → Option Nat} (h6 : nm ≤ 6) (hA : σ.1 (cm 0 + 2) a = eM (p a)) (hB : σ.1 (cm 0 + 2) b = eM (p b)) (lA : ∀ o, p a = some o → o < nm) (lB : ∀ o, p b = some o → o < nm) (hn : ¬ σ.1 (cm 0 + 2) a = nI b) (k : Nat) : (exch σ a b (nI a) (nI b)).1 (cm 0 + 2) k = if p a = some k then nI b else if p b = some k then nI a else if k = b then σ.1 (cm 0 + 2) a else if k = a then σ.1 (cm 0 + 2) b else σ.1 (cm 0 + 2) k := by
  have e0 : (ex0 σ a b).1 (cm 0 + 2) k = if k = b then σ.1 (cm 0 + 2) a else if k = a then σ.1 (cm 0 + 2) b else σ.1 (cm 0 + 2) k := by
    unfold ex0
    rw [wd_up_k, wd_up_k]
    rfl
  have mA : mv σ 0 2 a = σ.1 (cm 0 + 2) a := congrFun (mv_at σ 0 (by decide)) a
  have mB : mv σ 0 2 b = σ.1 (cm 0 + 2) b := congrFun (mv_at σ 0 (by decide)) b
  have e1 : (ex1 σ a b (nI a)).1 (cm 0 + 2) k = if p b = some k then nI a else if k = b then σ.1 (cm 0 + 2) a else if k = a then σ.1 (cm 0 + 2) b else σ.1 (cm 0 + 2) k := by
    unfold ex1
    cases hp : p b with
    | none =>
      rw [hp] at hB
      rw [if_pos (by rw [hB]; decide), e0, if_neg (show ¬ (none : Option Nat) = some k from fun e => nomatch e)]
    | some o =>
      rw [hp] at hB
      have ho := lB o hp
      have hf : nFac (mv σ 0) b = o := pk_cl o (mB.trans hB) (by omega)
      rw [if_neg (by rw [hB]; show ¬ nI o < 0; rw [Int32.not_lt]; exact nI_pos' (by omega)), hf, wd_up_k]
      unfold upd
      by_cases q : k = o
      · rw [if_pos q, if_pos (by rw [q])]
      · rw [if_neg q, if_neg (fun e => q (by injection e with e; exact e.symm)), e0]
  unfold exch
  rw [if_neg hn]
  unfold ex2
  cases hp : p a with
  | none =>
    rw [hp] at hA
    rw [if_pos (by rw [hA]; decide), e1, if_neg (show ¬ (none : Option Nat) = some k from fun e => nomatch e)]
  | some o =>
    rw [hp] at hA
    have ho := lA o hp
    have hf : nFac (mv σ 0) a = o := pk_cl o (mA.trans hA) (by omega)
    rw [if_neg (by rw [hA]; show ¬ nI o < 0; rw [Int32.not_lt]; exact nI_pos' (by omega)), hf, wd_up_k]
    unfold upd
    by_cases q : k = o
    · rw [if_pos q, if_pos (by rw [q])]
    · rw [if_neg q, if_neg (fun e => q (by injection e with e; exact e.symm)), e1]
theorem exch_o (σ : wd_S) (a b : Nat) (x y : Int32) {k : Nat} (hk : k ≠ cm 0 + 2) : (exch σ a b x y).1 k = σ.1 k ∧ (exch σ a b x y).2 = σ.2 := by
  have h0 : (ex0 σ a b).1 k = σ.1 k ∧ (ex0 σ a b).2 = σ.2 := ⟨by unfold ex0; rw [upW_o _ hk, upW_o _ hk], rfl⟩
  have h1 : (ex1 σ a b x).1 k = σ.1 k ∧ (ex1 σ a b x).2 = σ.2 := by
    unfold ex1
    by_cases c : σ.1 (cm 0 + 2) b < 0
    · rw [if_pos c]; exact h0
    · rw [if_neg c]; exact ⟨by rw [upW_o _ hk]; exact h0.1, h0.2⟩
  unfold exch
  by_cases c : σ.1 (cm 0 + 2) a = y
  · rw [if_pos c]; exact ⟨rfl, rfl⟩
  · rw [if_neg c]
    unfold ex2
    by_cases c : σ.1 (cm 0 + 2) a < 0
    · rw [if_pos c]; exact h1
    · rw [if_neg c]; exact ⟨by rw [upW_o _ hk]; exact h1.1, h1.2⟩
theorem exch_st (σ : wd_S) (a b : Nat) (x y : Int32) : exch σ a b x y = stM σ 0 (ur (mv σ 0) 2 ((exch σ a b x y).1 (cm 0 + 2))) := by
  refine wd_ext (fun k => ?_) (exch_o σ a b x y (k := 0) (by decide)).2
  by_cases q : k = cm 0 + 2
  · rw [q, stM_at σ 0 _ (by decide)]
    exact (if_pos rfl).symm
  · rw [(exch_o σ a b x y q).1]
    by_cases hk : cm 0 ≤ k ∧ k < cm 0 + 6
    · rw [stM_in σ 0 _ hk]
      have e : ur (mv σ 0) 2 ((exch σ a b x y).1 (cm 0 + 2)) (k - cm 0) = mv σ 0 (k - cm 0) := if_neg (by omega)
      rw [e, mv_at σ 0 (by omega), show cm 0 + (k - cm 0) = k by omega]
    · rw [stM_out σ 0 _ hk]
theorem put_row {r : Nat → Int32} {nm m : Nat} {x : Int32} {p : Option Nat} (h6 : nm ≤ 6) (lp : ∀ o, p = some o → o < nm) (k : Nat) : putR r m x (eR p) k = if (∃ o, p = some o ∧ k = 6 + o) then x + 1 else if k = 6 + m then eR p else r k := by
  unfold putR
  cases p with
  | none =>
    rw [if_pos (show eR none ≤ 0 by decide), if_neg (fun ⟨o, e, _⟩ => nomatch e)]
    rfl
  | some o =>
    have ho := lp o rfl
    have e : eR (some o) - 1 = nI o := sub1_of (n := o + 1) (by omega)
    have hn : ¬ eR (some o) ≤ 0 := by
      show ¬ nI (o + 1) ≤ 0
      rw [Int32.not_le]
      exact nI_lt (a := 0) (by omega) (by omega)
    rw [if_neg hn, e, pk_cl o rfl (by omega)]
    unfold upd
    by_cases q : k = 6 + o
    · rw [if_pos q, if_pos ⟨o, rfl, q⟩]
    · rw [if_neg q, if_neg (show ¬ ∃ o1, some o = some o1 ∧ k = 6 + o1 from fun ⟨o', e, e2⟩ => q (by injection e with e; rw [e2, e]))]
theorem mar_row {r : Nat → Int32} {nm a b : Nat} {p : Nat → Option Nat} (h6 : nm ≤ 6) (ha : a < nm) (hb : b < nm) (hA : r (6 + a) = eR (p a)) (hB : r (6 + b) = eR (p b)) (lA : ∀ o, p a = some o → o < nm) (lB : ∀ o, p b = some o → o < nm ∧ o ≠ b) (hn : ¬ r (6 + a) = nI b + 1) : (∀ k, k < nm → marR r a b (nI a) (nI b) (6 + k) = if p a = some k then nI (b + 1) else if p b = some k then nI (a + 1) else if k = b then r (6 + a) else if k = a then r (6 + b) else r (6 + k)) ∧ ∀ k, k < 6 ∨ 12 ≤ k → marR r a b (nI a) (nI b) k = r k := by
  unfold marR
  rw [if_neg hn, hA, hB]
  have hne : ∀ (q : Option Nat) (k : Nat), (∃ o, q = some o ∧ 6 + k = 6 + o) ↔ q = some k := fun q k => ⟨fun ⟨o, e, e2⟩ => by rw [e, show o = k by omega], fun e => ⟨k, e, rfl⟩⟩
  refine ⟨fun k hk => ?_, fun k hk => ?_⟩
  · rw [put_row h6 lA, put_row h6 (fun o e => (lB o e).1)]
    by_cases c1 : p a = some k
    · rw [if_pos ((hne _ _).mpr c1), if_pos c1]; exact nI_1 b
    · rw [if_neg (fun e => c1 ((hne _ _).mp e)), if_neg c1]
      by_cases c2 : p b = some k
      · have := (lB k c2).2
        rw [if_neg (by omega), if_pos ((hne _ _).mpr c2), if_pos c2]; exact nI_1 a
      · rw [if_neg c2]
        by_cases c3 : k = b
        · rw [if_pos (by omega), if_pos c3]
        · rw [if_neg (by omega), if_neg (fun e => c2 ((hne _ _).mp e)), if_neg c3]
          by_cases c4 : k = a
          · rw [if_pos (by omega), if_pos c4]
          · rw [if_neg (by omega), if_neg c4]
  · rw [put_row h6 lA, put_row h6 (fun o e => (lB o e).1)]
    rw [if_neg (fun ⟨o, e, e2⟩ => by have := lA o e; omega), if_neg (by omega), if_neg (fun ⟨o, e, e2⟩ => by have := (lB o e).1; omega), if_neg (by omega)]
theorem xP_ok {p : Nat → Option Nat} {nm a b : Nat} (h : ∀ m, m < nm → ∀ o, p m = some o → o < nm ∧ o ≠ m ∧ p o = some m) (ha : a < nm) (hb : b < nm) (hab : a ≠ b) (hn : p a ≠ some b) : ∀ m, m < nm → ∀ o, xP p a b m = some o → o < nm ∧ o ≠ m ∧ xP p a b o = some m := by
  have hn2 : p b ≠ some a := fun e => hn (h b hb a e).2.2
  have hA := fun o e => h a ha o e
  have hB := fun o e => h b hb o e
  have v1 : ∀ k, p a = some k → xP p a b k = some b := fun k e => if_pos e
  have v2 : ∀ k, p b = some k → xP p a b k = some a := fun k e => by
    unfold xP
    rw [if_neg (fun e2 => hab (by have q1 := (hA k e2).2.2; have q2 := (hB k e).2.2; rw [q1] at q2; injection q2)), if_pos e]
  have v3 : xP p a b b = p a := by
    unfold xP
    rw [if_neg hn, if_neg (fun e => (hB b e).2.1 rfl), if_pos rfl]
  have v4 : xP p a b a = p b := by
    unfold xP
    rw [if_neg (fun e => (hA a e).2.1 rfl), if_neg hn2, if_neg hab, if_pos rfl]
  intro m hm o e
  by_cases c1 : p a = some m
  · rw [v1 m c1] at e
    injection e with e
    subst e
    exact ⟨hb, fun e => hn (by rw [e]; exact c1), by rw [v3]; exact c1⟩
  · by_cases c2 : p b = some m
    · rw [v2 m c2] at e
      injection e with e
      subst e
      exact ⟨ha, fun e => hn2 (by rw [e]; exact c2), by rw [v4]; exact c2⟩
    · by_cases c3 : m = b
      · subst c3
        rw [v3] at e
        exact ⟨(hA o e).1, fun e2 => hn (by rw [← e2]; exact e), v1 o e⟩
      · by_cases c4 : m = a
        · subst c4
          rw [v4] at e
          exact ⟨(hB o e).1, fun e2 => hn2 (by rw [← e2]; exact e), v2 o e⟩
        · have em : xP p a b m = p m := by
            unfold xP
            rw [if_neg c1, if_neg c2, if_neg c3, if_neg c4]
          rw [em] at e
          obtain ⟨q1, q2, q3⟩ := h m hm o e
          refine ⟨q1, q2, ?_⟩
          unfold xP
          rw [if_neg (fun e2 => c4 (by have q := (hA o e2).2.2; rw [q3] at q; injection q)), if_neg (fun e2 => c3 (by have q := (hB o e2).2.2; rw [q3] at q; injection q))]
          rw [if_neg (fun e2 => c2 (by rw [← e2]; exact q3)), if_neg (fun e2 => c1 (by rw [← e2]; exact q3)), q3]
/-- the class's and the reference's exchange -/
theorem mar_e {σ : wd_S} {r : Nat → Int32} {nm nc a b : Nat} (h6 : nm ≤ 6) (hO : mOk (mv σ 0)) (hM : cM (mv σ 0) r nm nc) (ha : a < nm) (hb : b < nm) (hab : a ≠ b) : ∃ M', exch σ a b (nI a) (nI b) = stM σ 0 M' ∧ mz M' ∧ mOk M' ∧ cM M' (marR r a b (nI a) (nI b)) nm nc ∧ (exch σ a b (nI a) (nI b)).1 (cm 0 + 2) a = M' 2 a ∧ marR r a b (nI a) (nI b) 31 = r 31 := by
  obtain ⟨p, hp⟩ := cF_p h6 (fun m hm => (hM.1 m hm).2.2.1)
  have m2 : ∀ k, mv σ 0 2 k = σ.1 (cm 0 + 2) k := fun k => congrFun (mv_at σ 0 (by decide)) k
  obtain ⟨a1, a2, a3⟩ := hp a ha
  obtain ⟨b1, b2, b3⟩ := hp b hb
  rw [m2] at a1 b1
  have eb : p a = some b ↔ σ.1 (cm 0 + 2) a = nI b := by
    rw [a1]
    constructor
    · intro e; rw [e]; rfl
    · intro e
      cases hpa : p a with
      | none => rw [hpa] at e; exact absurd e.symm (nI_n9 (by omega))
      | some o =>
        rw [hpa] at e
        have e2 : nI o = nI b := e
        have ho := (a3 o hpa).1
        have := congrArg Int32.toNatClampNeg e2
        rw [pk_cl o rfl (by omega), pk_cl b rfl (by omega)] at this
        rw [this]
  have er : p a = some b ↔ r (6 + a) = nI b + 1 := by
    rw [a2, show nI b + 1 = nI (b + 1) from nI_1 b]
    constructor
    · intro e; rw [e]; rfl
    · intro e
      cases hpa : p a with
      | none => rw [hpa] at e; exact absurd e.symm (nI_ne0 (by omega) (by omega))
      | some o =>
        rw [hpa] at e
        have e2 : nI (o + 1) = nI (b + 1) := e
        have ho := (a3 o hpa).1
        have := congrArg Int32.toNatClampNeg e2
        rw [pk_cl (o + 1) rfl (by omega), pk_cl (b + 1) rfl (by omega)] at this
        rw [show o = b by omega]
  by_cases hn : p a = some b
  · have e1 : exch σ a b (nI a) (nI b) = σ := if_pos (eb.mp hn)
    have e2 : marR r a b (nI a) (nI b) = r := if_pos (er.mp hn)
    refine ⟨mv σ 0, ?_, mz_mv σ 0, hO, ?_, ?_, ?_⟩
    · rw [e1, stM_self]
    · rw [e2]; exact hM
    · rw [e1, m2]
    · rw [e2]
  · have hrow := exch_row (σ := σ) h6 a1 b1 (fun o e => (a3 o e).1) (fun o e => (b3 o e).1) (fun e => hn (eb.mpr e))
    obtain ⟨mr, mo⟩ := mar_row h6 ha hb a2 b2 (fun o e => (a3 o e).1) (fun o e => ⟨(b3 o e).1, (b3 o e).2.1⟩) (fun e => hn (er.mpr e))
    have hst := exch_st σ a b (nI a) (nI b)
    generalize hF : (exch σ a b (nI a) (nI b)).1 (cm 0 + 2) = F at hst hrow ⊢
    have eN : ∀ k i, k ≠ 2 → ur (mv σ 0) 2 F k i = mv σ 0 k i := fun k i hk => congrFun (if_neg hk) i
    have e2 : ∀ i, ur (mv σ 0) 2 F 2 i = F i := fun i => congrFun (if_pos rfl) i
    have hcp : cP (ur (mv σ 0) 2 F) (marR r a b (nI a) (nI b)) nm (xP p a b) := by
      intro m hm
      refine ⟨?_, ?_, xP_ok (fun m hm => (hp m hm).2.2) ha hb hab hn m hm⟩
      · rw [e2, hrow]
        unfold xP
        by_cases c1 : p a = some m
        · rw [if_pos c1, if_pos c1]; rfl
        · rw [if_neg c1, if_neg c1]
          by_cases c2 : p b = some m
          · rw [if_pos c2, if_pos c2]; rfl
          · rw [if_neg c2, if_neg c2]
            by_cases c3 : m = b
            · rw [if_pos c3, if_pos c3]; exact a1
            · rw [if_neg c3, if_neg c3]
              by_cases c4 : m = a
              · rw [if_pos c4, if_pos c4]; exact b1
              · rw [if_neg c4, if_neg c4, ← m2]; exact (hp m hm).1
      · rw [mr m hm]
        unfold xP
        by_cases c1 : p a = some m
        · rw [if_pos c1, if_pos c1]; rfl
        · rw [if_neg c1, if_neg c1]
          by_cases c2 : p b = some m
          · rw [if_pos c2, if_pos c2]; rfl
          · rw [if_neg c2, if_neg c2]
            by_cases c3 : m = b
            · rw [if_pos c3, if_pos c3]; exact a2
            · rw [if_neg c3, if_neg c3]
              by_cases c4 : m = a
              · rw [if_pos c4, if_pos c4]; exact b2
              · rw [if_neg c4, if_neg c4]; exact (hp m hm).2.1
    have hcf := p_cF hcp
    refine ⟨ur (mv σ 0) 2 F, hst, fun k hk => (if_neg (by omega)).trans (mv_hi σ 0 hk), fun m hm => ⟨?_, ?_⟩, ⟨fun m hm => ?_, ?_, ?_, ?_⟩, (e2 a).symm, mo 31 (by omega)⟩
    · rw [eN 1 m (by decide)]; exact (hO m hm).1
    · rw [e2]
      by_cases q : m < nm
      · have := hcf m q
        rcases this with ⟨_, z⟩ | ⟨o, ho, _, _, z, _⟩
        · rw [e2] at z; rw [z]; decide
        · rw [e2] at z; rw [z]; exact nI_lt (by omega) (by decide)
      · rw [hrow, if_neg (fun e => q (a3 m e).1), if_neg (fun e => q (b3 m e).1), if_neg (by omega), if_neg (by omega), ← m2]
        exact (hO m hm).2
    · obtain ⟨g1, g2, g3, g4⟩ := hM.1 m hm
      rw [eN 1 m (by decide), eN 3 m (by decide), eN 4 m (by decide), eN 5 m (by decide), mo m (by omega), mo (12 + m) (by omega), mo (18 + m) (by omega), mo (24 + m) (by omega)]
      exact ⟨g1, g2, hcf m hm, g4⟩
    · rw [eN 0 5 (by decide), mo 30 (by omega)]; exact hM.2.1
    · rw [mo 30 (by omega)]; exact hM.2.2.1
    · rw [eN 0 6 (by decide), mo 31 (by omega)]; exact hM.2.2.2

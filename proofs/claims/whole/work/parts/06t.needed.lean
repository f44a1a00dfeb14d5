/-! ===== both: ropes needed ===== -/
theorem more_neg {T : Nat → Nat → Int32} {τ : wd_S} {nm nc : Nat} (hT : cT T τ nm nc) {M : Nat → Nat → Int32} {r : Nat → Int32} (hM : cM M r nm nc) {m : Nat} (hm : m < nm) : vMore τ r m < 0 ↔ vHas τ r m < τ.1 7 m := by
  obtain ⟨k, w, hk, _, ek, _⟩ := has_N hT hM hm
  obtain ⟨_, _, e, _, _, h⟩ := hT.2.2.1 m hm
  rw [e] at h
  obtain ⟨d, _, hd, ed⟩ := pin_N (a := 0) (b := 99) h (by decide) (by decide)
  unfold vMore
  rw [ek, ed, nI_ltI (by omega) (by omega), Int32.lt_iff_toInt_lt, pk_sub_toInt (by omega) (by omega)]
  show (k : Int) - d < 0 ↔ _
  omega
/-- what a man has hangs on his own and his partner's ropes alone -/
theorem vHas_l {τ : wd_S} {r r' : Nat → Int32} {m : Nat} (hm : m < 6) (hb : ∀ k, k < 12 → r' k = r k) (hu : ∀ k, 18 ≤ k → r' k = r k) (ho : 0 ≤ r (6 + m) - 1 → oF r m < 6 ∧ (0 ≤ r (6 + oF r m) - 1 → oF r (oF r m) < 6) ∧ r' (12 + m) = r (12 + m) ∧ r' (12 + oF r m) = r (12 + oF r m)) : vHas τ r' m = vHas τ r m := by
  have hc : ∀ j c, r' (12 + j) = r (12 + j) → vCarry τ r' j c = vCarry τ r j c := fun j c e => by
    unfold vCarry
    rw [hu (18 + j) (by omega), e, hu 30 (by omega)]
  have ht : ∀ j, j < 6 → (0 ≤ r (6 + j) - 1 → oF r j < 6 ∧ r' (12 + j) = r (12 + j)) → vTakes τ r' j = vTakes τ r j := fun j hj e => by
    unfold vTakes oF sF
    rw [hb (6 + j) (by omega)]
    by_cases c : 0 ≤ r (6 + j) - 1
    · obtain ⟨e1, e2⟩ := e c
      unfold oF at e1
      rw [if_pos c, if_pos c, hb _ (by omega), hc j _ e2]
    · rw [if_neg c, if_neg c]
  unfold vHas vWorth vKept sF
  have eo : oF r' m = oF r m := by unfold oF; rw [hb (6 + m) (by omega)]
  rw [hb (6 + m) (by omega), hb m (by omega), eo]
  by_cases c : 0 ≤ r (6 + m) - 1
  · obtain ⟨o1, o2, o3, o4⟩ := ho c
    rw [if_pos c, if_pos c, if_pos c, if_pos c, hb _ (by omega), ht m hm (fun _ => ⟨o1, o3⟩), ht _ o1 (fun z => ⟨o2 z, o4⟩)]
  · rw [if_neg c, if_neg c, if_neg c, if_neg c]
/-- a row with other ropes -/
def rpR (r : Nat → Int32) (nm : Nat) (f : Nat → Nat) : Nat → Int32 := fun k => if 12 ≤ k ∧ k < 12 + nm then nI (f (k - 12)) else r k
theorem rpR_o {r : Nat → Int32} {nm : Nat} (f : Nat → Nat) {k : Nat} (h : ¬ (12 ≤ k ∧ k < 12 + nm)) : rpR r nm f k = r k := if_neg h
theorem rpR_i {r : Nat → Int32} {nm : Nat} (f : Nat → Nat) {k : Nat} (h : k < nm) : rpR r nm f (12 + k) = nI (f k) := by
  unfold rpR
  rw [if_pos (by omega), show 12 + k - 12 = k by omega]
theorem rpR_c {r : Nat → Int32} {nm : Nat} {f g : Nat → Nat} (h : ∀ k, k < nm → f k = g k) : rpR r nm f = rpR r nm g := by
  funext k
  unfold rpR
  by_cases c : 12 ≤ k ∧ k < 12 + nm
  · rw [if_pos c, if_pos c, h _ (by omega)]
  · rw [if_neg c, if_neg c]
theorem rpR_up {r : Nat → Int32} {nm : Nat} (f : Nat → Nat) {m : Nat} (hm : m < nm) (v : Nat) : upd (rpR r nm f) (12 + m) (nI v) = rpR r nm (fun k => if k = m then v else f k) := by
  funext k
  unfold upd rpR
  by_cases q : k = 12 + m
  · rw [if_pos q, if_pos (by omega)]
    exact congrArg nI (if_pos (by omega)).symm
  · rw [if_neg q]
    by_cases c : 12 ≤ k ∧ k < 12 + nm
    · rw [if_pos c, if_pos c]
      exact congrArg nI (if_neg (by omega)).symm
    · rw [if_neg c, if_neg c]
/-- fed with ropes f -/
def fdG (τ : wd_S) (r : Nat → Int32) (nm : Nat) (f : Nat → Nat) (m : Nat) : Prop := ¬ vHas τ (rpR r nm f) m < τ.1 7 m
theorem fdG_l {τ : wd_S} {M : Nat → Nat → Int32} {r : Nat → Int32} {nm : Nat} (h6 : nm ≤ 6) {p : Nat → Option Nat} (hp : cP M r nm p) {f g : Nat → Nat} {m : Nat} (hm : m < nm) (h : ∀ o, p m = some o → f m = g m ∧ f o = g o) : fdG τ r nm f m ↔ fdG τ r nm g m := by
  have e : vHas τ (rpR r nm f) m = vHas τ (rpR r nm g) m := by
    obtain ⟨a1, a2, a3⟩ := hp m hm
    refine vHas_l (by omega) (fun k hk => by rw [rpR_o f (by omega), rpR_o g (by omega)]) (fun k hk => by rw [rpR_o f (by omega), rpR_o g (by omega)]) (fun c => ?_)
    have hoF : ∀ j, j < 6 → oF (rpR r nm g) j = oF r j := fun j hj => by unfold oF; rw [rpR_o g (by omega)]
    rw [rpR_o g (by omega)] at c
    cases hpm : p m with
    | none => rw [hpm] at a2; rw [a2] at c; exact absurd c (by decide)
    | some o =>
      rw [hpm] at a2
      obtain ⟨o1, o2, o3⟩ := a3 o hpm
      obtain ⟨e1, e2⟩ := h o hpm
      have eo : oF r m = o := pk_cl o (by rw [a2]; exact sub1_of (n := o + 1) (by omega)) (by omega)
      obtain ⟨b1, b2, b3⟩ := hp o o1
      rw [o3] at b2
      have em : oF r o = m := pk_cl m (by rw [b2]; exact sub1_of (n := m + 1) (by omega)) (by omega)
      rw [hoF m (by omega), eo, hoF o (by omega), em, rpR_i f hm, rpR_i g hm, rpR_i f o1, rpR_i g o1, e1, e2]
      exact ⟨by omega, fun _ => by omega, rfl, rfl⟩
  unfold fdG
  rw [e]
/-- the first of the fewest among the pairs of ropes looked at -/
def twQ (F : Nat → Nat → Prop) (D : Nat → Nat → Prop) (s : Int32 × Int32) : Prop := (s.1 = -9 ∧ ∀ a b, D a b → ¬ F a b) ∨ ∃ a b, a < 4 ∧ b < 4 ∧ D a b ∧ F a b ∧ s = (nI (a + b), nI a) ∧ ∀ a' b', D a' b' → F a' b' → a + b ≤ a' + b' ∧ (a' + b' = a + b → a ≤ a')
theorem twQ_step {F D D' : Nat → Nat → Prop} {s : Int32 × Int32} {a b : Nat} (ha : a < 4) (hb : b < 4) (h : twQ F D s) (hD : ∀ x y, D' x y ↔ D x y ∨ (x = a ∧ y = b)) (hla : ∀ x y, D x y → x ≤ a) {z : Bool} (hz : z = true ↔ F a b) : twQ F D' (if z = true then (if s.1 = -9 then (nI a + nI b, nI a) else if s.1 ≤ nI a + nI b then s else (nI a + nI b, nI a)) else s) := by
  have new : (∀ x y, D x y → F x y → a + b < x + y) → F a b → twQ F D' (nI a + nI b, nI a) := fun hall hf => by
    refine Or.inr ⟨a, b, ha, hb, (hD a b).mpr (Or.inr ⟨rfl, rfl⟩), hf, by rw [nI_add], fun x y hd hxy => ?_⟩
    rcases (hD x y).mp hd with q | ⟨q1, q2⟩
    · have := hall x y q hxy
      exact ⟨by omega, fun e => absurd e (by omega)⟩
    · exact ⟨by omega, fun _ => by omega⟩
  by_cases c : z = true
  · rw [if_pos c]
    have hf := hz.mp c
    rcases h with ⟨e, hn⟩ | ⟨x, y, hx, hy, dx, hxy, e, hm⟩
    · rw [if_pos e]
      exact new (fun x y hd hxy => absurd hxy (hn x y hd)) hf
    · rw [e]
      show twQ F D' (if nI (x + y) = -9 then _ else if nI (x + y) ≤ nI a + nI b then _ else _)
      rw [if_neg (nI_n9 (by omega))]
      by_cases c2 : nI (x + y) ≤ nI a + nI b
      · rw [if_pos c2]
        rw [nI_add, nI_leI (by omega) (by omega)] at c2
        refine Or.inr ⟨x, y, hx, hy, (hD x y).mpr (Or.inl dx), hxy, rfl, fun x' y' hd hxy' => ?_⟩
        rcases (hD x' y').mp hd with q | ⟨q1, q2⟩
        · exact hm x' y' q hxy'
        · subst q1 q2
          exact ⟨c2, fun _ => hla x y dx⟩
      · rw [if_neg c2]
        rw [nI_add, nI_leI (by omega) (by omega)] at c2
        exact new (fun x' y' hd hxy' => by have := (hm x' y' hd hxy').1; omega) hf
  · rw [if_neg c]
    have hf : ¬ F a b := fun q => c (hz.mpr q)
    rcases h with ⟨e, hn⟩ | ⟨x, y, hx, hy, dx, hxy, e, hm⟩
    · refine Or.inl ⟨e, fun x y hd => ?_⟩
      rcases (hD x y).mp hd with q | ⟨q1, q2⟩
      · exact hn x y q
      · rw [q1, q2]; exact hf
    · refine Or.inr ⟨x, y, hx, hy, (hD x y).mpr (Or.inl dx), hxy, e, fun x' y' hd hxy' => ?_⟩
      rcases (hD x' y').mp hd with q | ⟨q1, q2⟩
      · exact hm x' y' q hxy'
      · rw [q1, q2] at hxy'; exact absurd hxy' hf
theorem twQ_c {F D D' : Nat → Nat → Prop} {s : Int32 × Int32} (h : twQ F D s) (hD : ∀ x y, D' x y ↔ D x y) : twQ F D' s := by
  rcases h with ⟨e, hn⟩ | ⟨x, y, hx, hy, dx, hxy, e, hm⟩
  · exact Or.inl ⟨e, fun a b hd => hn a b ((hD a b).mp hd)⟩
  · exact Or.inr ⟨x, y, hx, hy, (hD x y).mpr dx, hxy, e, fun a b hd => hm a b ((hD a b).mp hd)⟩
theorem two_e {T M : Nat → Nat → Int32} {m o : Nat} {F : Nat → Nat → Prop} (hF : ∀ a b, a < 4 → b < 4 → (fedD T (u2 (u2 M 3 m (nI a)) 3 o (nI b)) m o = true ↔ F a b)) : twQ F (fun a b => a < 4 ∧ b < 4) (twoV T M m o) := by
  have inner : ∀ a, a < 4 → ∀ s, twQ F (fun x y => x < a ∧ y < 4) s → ∀ n, n ≤ 4 → twQ F (fun x y => (x < a ∧ y < 4) ∨ (x = a ∧ y < n)) (itr (twoS T M m o a) s n) := by
    intro a ha s hs n
    induction n with
    | zero =>
      intro _
      rw [itr]
      exact twQ_c hs (fun x y => ⟨fun h => h.elim id (fun h => absurd h.2 (by omega)), Or.inl⟩)
    | succ n ih =>
      intro hn
      rw [itr]
      exact twQ_step ha (by omega) (ih (by omega)) (fun x y => by omega) (fun x y h => by omega) (hF a n ha (by omega))
  have outer : ∀ n, n ≤ 4 → twQ F (fun x y => x < n ∧ y < 4) (itr (twoO T M m o) (-9, 0) n) := by
    intro n
    induction n with
    | zero =>
      intro _
      rw [itr]
      exact Or.inl ⟨rfl, fun a b h => absurd h.1 (by omega)⟩
    | succ n ih =>
      intro hn
      rw [itr]
      exact twQ_c (inner n (by omega) _ (ih (by omega)) 4 (by omega)) (fun x y => by omega)
  exact outer 4 (by omega)

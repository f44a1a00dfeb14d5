/-! ===== both: all ways to face, as lists of digits (0 nobody, o + 1 the man o, 7 nothing chosen) ===== -/
def eC (d : Nat) : Int32 := if d = 7 then -10 else if d = 0 then -9 else nI (d - 1)
def faM (M : Nat → Nat → Int32) (q : List Nat) : Nat → Nat → Int32 := fun k a => if k = 2 ∧ a < q.length then eC (q.getD a 0) else M k a
def fsL (q : List Nat) : Nat → Nat → Option Nat
  | 0, _ => none
  | k + 1, i => if q.getD i 0 = 7 then some i else fsL q k (i + 1)
def lpL (rc : List Nat → List (List Nat)) (q : List Nat) (m : Nat) : Nat → Nat → List (List Nat)
  | 0, _ => []
  | k + 1, o => (if q.getD o 0 = 7 then rc ((q.set m (o + 1)).set o (m + 1)) else []) ++ lpL rc q m k (o + 1)
def cmL : Nat → Bool → List Nat → List (List Nat)
  | 0, _, q => match fsL q q.length 0 with
    | none => [q]
    | some _ => []
  | k + 1, y, q => match fsL q q.length 0 with
    | none => [q]
    | some m => (match y with | true => cmL k false (q.set m 0) | false => []) ++ lpL (cmL k y) q m (q.length - (m + 1)) (m + 1)
theorem eC_10 {d : Nat} (h : d ≤ 7) : eC d = -10 ↔ d = 7 := by
  rcases (show d = 0 ∨ d = 1 ∨ d = 2 ∨ d = 3 ∨ d = 4 ∨ d = 5 ∨ d = 6 ∨ d = 7 by omega) with rfl | rfl | rfl | rfl | rfl | rfl | rfl | rfl <;> decide
theorem fsL_e {M : Nat → Nat → Int32} {q : List Nat} (hq : ∀ a, q.getD a 0 ≤ 7) : ∀ (k i : Nat), i + k ≤ q.length → (match fsL q k i with | none => fuL (faM M q) k i = -9 | some m => fuL (faM M q) k i = nI m ∧ m < i + k ∧ i ≤ m ∧ q.getD m 0 = 7) := by
  intro k
  induction k with
  | zero => intro i _; rfl
  | succ k ih =>
    intro i hi
    have e : faM M q 2 i = eC (q.getD i 0) := if_pos ⟨rfl, by omega⟩
    rw [fsL, fuL, e]
    by_cases c : q.getD i 0 = 7
    · rw [if_pos c, if_pos ((eC_10 (hq i)).mpr c)]
      exact ⟨rfl, by omega, Nat.le_refl _, c⟩
    · rw [if_neg c, if_neg (fun z => c ((eC_10 (hq i)).mp z))]
      have := ih (i + 1) (by omega)
      cases hf : fsL q k (i + 1) with
      | none => rw [hf] at this; exact this
      | some m =>
        rw [hf] at this
        have this : fuL (faM M q) k (i + 1) = nI m ∧ m < i + 1 + k ∧ i + 1 ≤ m ∧ q.getD m 0 = 7 := this
        exact ⟨this.1, by omega, by omega, this.2.2.2⟩
theorem getD_set (q : List Nat) {m : Nat} (hm : m < q.length) (v a : Nat) : (q.set m v).getD a 0 = if a = m then v else q.getD a 0 := by
  rw [List.getD_eq_getElem?_getD, List.getD_eq_getElem?_getD, List.getElem?_set]
  by_cases c : m = a
  · rw [if_pos c, if_pos hm, if_pos c.symm]; rfl
  · rw [if_neg c, if_neg (fun z => c z.symm)]
theorem faM_set (M : Nat → Nat → Int32) (q : List Nat) {m : Nat} (hm : m < q.length) (v : Nat) : u2 (faM M q) 2 m (eC v) = faM M (q.set m v) := by
  funext k a
  unfold u2 faM
  rw [List.length_set, getD_set q hm]
  by_cases c : k = 2 ∧ a = m
  · rw [if_pos c, if_pos ⟨c.1, by omega⟩, if_pos c.2]
  · rw [if_neg c]
    by_cases c2 : k = 2 ∧ a < q.length
    · rw [if_pos c2, if_pos c2, if_neg (by omega)]
    · rw [if_neg c2, if_neg c2]
theorem try_e {T M : Nat → Nat → Int32} {nm : Nat} (h6 : nm ≤ 6) (hn : nMen T = nm) : ∀ (k : Nat) (y : Bool) (q : List Nat) (B : fB), q.length = nm → (∀ a, q.getD a 0 ≤ 7) → tryB T k (if y = true then 1 else 0) (faM M q) B = (cmL k y q).foldl (fun B q => weighB T (faM M q) B) B := by
  have hfu : ∀ q : List Nat, q.length = nm → (∀ a, q.getD a 0 ≤ 7) → (fsL q q.length 0 = none ∧ fuV T (faM M q) = -9) ∨ ∃ m, fsL q q.length 0 = some m ∧ fuV T (faM M q) = nI m ∧ m < nm ∧ q.getD m 0 = 7 := fun q hl hq => by
    have := fsL_e (M := M) hq q.length 0 (by omega)
    unfold fuV
    rw [hn, ← hl]
    cases hf : fsL q q.length 0 with
    | none => rw [hf] at this; exact Or.inl ⟨rfl, this⟩
    | some m =>
      rw [hf] at this
      have this : fuL (faM M q) q.length 0 = nI m ∧ m < 0 + q.length ∧ 0 ≤ m ∧ q.getD m 0 = 7 := this
      exact Or.inr ⟨m, rfl, this.1, by omega, this.2.2.2⟩
  intro k
  induction k with
  | zero =>
    intro y q B hl hq
    rw [tryB, cmL]
    rcases hfu q hl hq with ⟨e1, e2⟩ | ⟨m, e1, e2, hm, _⟩
    · rw [e1, e2, if_neg (by decide)]; rfl
    · rw [e1, e2, if_pos (nI_pos' (by omega))]; rfl
  | succ k ih =>
    intro y q B hl hq
    rw [tryB, cmL]
    rcases hfu q hl hq with ⟨e1, e2⟩ | ⟨m, e1, e2, hm, h7⟩
    · rw [e1, e2, if_neg (by decide)]; rfl
    · rw [e1, if_pos (by rw [e2]; exact nI_pos' (by omega)), show nFu T (faM M q) = m from pk_cl m e2 (by omega), hn]
      show _ = List.foldl _ B ((match y with | true => cmL k false (q.set m 0) | false => []) ++ lpL (cmL k y) q m (q.length - (m + 1)) (m + 1))
      rw [List.foldl_append, hl]
      have hset : ∀ v a, v ≤ 7 → (q.set m v).getD a 0 ≤ 7 := fun v a hv => by
        rw [getD_set q (by omega)]
        by_cases c : a = m
        · rw [if_pos c]; exact hv
        · rw [if_neg c]; exact hq a
      have hfst : (if (if y = true then (1 : Int32) else 0) = 0 then B else tryB T k 0 (u2 (faM M q) 2 m (-9)) B) = List.foldl (fun B q => weighB T (faM M q) B) B (match y with | true => cmL k false (q.set m 0) | false => []) := by
        cases y with
        | false => rfl
        | true =>
          rw [if_pos rfl, if_neg (by decide)]
          have e := ih false (q.set m 0) B (by rw [List.length_set]; exact hl) (fun a => hset 0 a (by omega))
          rw [← faM_set M q (by omega) 0] at e
          exact e
      rw [hfst]
      have loop : ∀ (j o : Nat) (B : fB), m < o → o + j = nm → tfLoop (tryB T k (if y = true then 1 else 0)) (faM M q) m j o B = List.foldl (fun B q => weighB T (faM M q) B) B (lpL (cmL k y) q m j o) := by
        intro j
        induction j with
        | zero => intro o B _ _; rfl
        | succ j ihj =>
          intro o B hmo ho
          rw [tfLoop, lpL, List.foldl_append]
          have e : faM M q 2 o = eC (q.getD o 0) := if_pos ⟨rfl, by omega⟩
          rw [e]
          by_cases c : q.getD o 0 = 7
          · rw [if_pos ((eC_10 (hq o)).mpr c), if_pos c]
            have e2 : u2 (u2 (faM M q) 2 m (nI o)) 2 o (nI m) = faM M ((q.set m (o + 1)).set o (m + 1)) := by
              rw [← faM_set M (q.set m (o + 1)) (by rw [List.length_set]; omega) (m + 1), ← faM_set M q (by omega) (o + 1)]
              have e3 : ∀ x, x < 6 → eC (x + 1) = nI x := fun x hx => by
                unfold eC
                rw [if_neg (by omega), if_neg (by omega)]
                rfl
              rw [e3 o (by omega), e3 m (by omega)]
            rw [e2, ih y _ B (by rw [List.length_set, List.length_set]; exact hl) (fun a => by
              rw [getD_set _ (by rw [List.length_set]; omega)]
              by_cases c : a = o
              · rw [if_pos c]; omega
              · rw [if_neg c]; exact hset (o + 1) a (by omega))]
            exact ihj (o + 1) _ (by omega) (by omega)
          · rw [if_neg (fun z => c ((eC_10 (hq o)).mp z)), if_neg c]
            exact ihj (o + 1) _ (by omega) (by omega)
      exact loop (nm - (m + 1)) (m + 1) _ (by omega) (by omega)
/-- all ways of nm men -/
def FL (nm : Nat) : List (List Nat) := cmL 6 (nm % 2 == 1) (List.replicate nm 7)
theorem unM_fa (M : Nat → Nat → Int32) (nm : Nat) : unM M nm = faM M (List.replicate nm 7) := by
  funext k a
  unfold unM faM
  rw [List.length_replicate]
  by_cases c : k = 2 ∧ a < nm
  · rw [if_pos c, if_pos c, List.getD_eq_getElem?_getD, List.getElem?_replicate, if_pos c.2]; rfl
  · rw [if_neg c, if_neg c]
def lgd (q : List Nat) (k : Nat) : Nat := q.getD k 0
/-- a way: everybody but at most one over against somebody -/
def vldB (nm : Nat) (q : List Nat) : Bool := (List.range nm).all (fun k => decide (lgd q k ≠ k + 1) && (lgd q k == 0 || lgd q (lgd q k - 1) == k + 1)) && ((List.range nm).foldl (fun s k => s + (if lgd q k = 0 then 1 else 0)) 0 == nm % 2)
def okB (nm : Nat) (q : List Nat) : Bool := q.length == nm && (List.range nm).all (fun k => decide (lgd q k ≤ nm)) && vldB nm q
def srtB (nm : Nat) : List (List Nat) → Bool
  | [] => true
  | q :: l => l.all (fun q' => decide (numD (nm + 1) (lgd q) nm < numD (nm + 1) (lgd q') nm)) && srtB nm l
def conB (q : List Nat) : Bool := (List.range q.length).all (fun i => decide (lgd q i ≠ i + 1) && (lgd q i == 0 || decide (q.length ≤ lgd q i - 1) || lgd q (lgd q i - 1) == i + 1))
def chk (nm : Nat) : Nat → List Nat → Bool
  | 0, q => !vldB nm q || (FL nm).contains q
  | k + 1, q => (List.range (nm + 1)).all (fun d => !conB (q ++ [d]) || chk nm k (q ++ [d]))
theorem FL_ok : ∀ nm, nm ≤ 6 → ((FL nm).all (okB nm) && srtB nm (FL nm) && chk nm nm [] && !(FL nm).isEmpty) = true := by
  intro nm h
  rcases (show nm = 0 ∨ nm = 1 ∨ nm = 2 ∨ nm = 3 ∨ nm = 4 ∨ nm = 5 ∨ nm = 6 by omega) with rfl | rfl | rfl | rfl | rfl | rfl | rfl <;> decide +kernel

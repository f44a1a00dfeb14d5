/-! ===== the reference: tokens ===== -/
/-- the reader's five numbers: next, token, place, value, fault -/
def aW (σ : wd_S) (nx tk pl v f : Int32) : wd_S := (fun k i => if k = 0 ∧ i = 4 then nx else if k = 0 ∧ i = 5 then tk else if k = 0 ∧ i = 6 then pl else if k = 0 ∧ i = 7 then v else if k = 0 ∧ i = 8 then f else σ.1 k i, σ.2)
theorem aW_o (σ : wd_S) (nx tk pl v f : Int32) {k : Nat} (h : k ≠ 0) : (aW σ nx tk pl v f).1 k = σ.1 k := by
  funext i
  show (if k = 0 ∧ i = 4 then nx else if k = 0 ∧ i = 5 then tk else if k = 0 ∧ i = 6 then pl else if k = 0 ∧ i = 7 then v else if k = 0 ∧ i = 8 then f else σ.1 k i) = _
  rw [if_neg (by omega), if_neg (by omega), if_neg (by omega), if_neg (by omega), if_neg (by omega)]
theorem aW_self (σ : wd_S) : σ = aW σ (σ.1 0 4) (σ.1 0 5) (σ.1 0 6) (σ.1 0 7) (σ.1 0 8) := by
  refine wd_ext (fun k => funext fun i => ?_) rfl
  show _ = (if k = 0 ∧ i = 4 then σ.1 0 4 else if k = 0 ∧ i = 5 then σ.1 0 5 else if k = 0 ∧ i = 6 then σ.1 0 6 else if k = 0 ∧ i = 7 then σ.1 0 7 else if k = 0 ∧ i = 8 then σ.1 0 8 else σ.1 k i)
  by_cases h0 : k = 0
  · subst h0
    by_cases h4 : i = 4
    · subst h4; rfl
    · by_cases h5 : i = 5
      · subst h5; rfl
      · by_cases h6 : i = 6
        · subst h6; rfl
        · by_cases h7 : i = 7
          · subst h7; rfl
          · by_cases h8 : i = 8
            · subst h8; rfl
            · rw [if_neg (by omega), if_neg (by omega), if_neg (by omega), if_neg (by omega), if_neg (by omega)]
  · rw [if_neg (by omega), if_neg (by omega), if_neg (by omega), if_neg (by omega), if_neg (by omega)]
theorem aW_4 (σ : wd_S) (nx tk pl v f z : Int32) : wd_up (aW σ nx tk pl v f) 0 4 z = aW σ z tk pl v f := by
  refine wd_ext (fun k => funext fun i => ?_) rfl
  show (if k = 0 ∧ i = 4 then z else if k = 0 ∧ i = 4 then nx else if k = 0 ∧ i = 5 then tk else if k = 0 ∧ i = 6 then pl else if k = 0 ∧ i = 7 then v else if k = 0 ∧ i = 8 then f else σ.1 k i) = (if k = 0 ∧ i = 4 then z else if k = 0 ∧ i = 5 then tk else if k = 0 ∧ i = 6 then pl else if k = 0 ∧ i = 7 then v else if k = 0 ∧ i = 8 then f else σ.1 k i)
  by_cases h1 : k = 0 ∧ i = 4
  · rw [if_pos h1, if_pos h1]
  · simp only [if_neg h1]
theorem aW_5 (σ : wd_S) (nx tk pl v f z : Int32) : wd_up (aW σ nx tk pl v f) 0 5 z = aW σ nx z pl v f := by
  refine wd_ext (fun k => funext fun i => ?_) rfl
  show (if k = 0 ∧ i = 5 then z else if k = 0 ∧ i = 4 then nx else if k = 0 ∧ i = 5 then tk else if k = 0 ∧ i = 6 then pl else if k = 0 ∧ i = 7 then v else if k = 0 ∧ i = 8 then f else σ.1 k i) = (if k = 0 ∧ i = 4 then nx else if k = 0 ∧ i = 5 then z else if k = 0 ∧ i = 6 then pl else if k = 0 ∧ i = 7 then v else if k = 0 ∧ i = 8 then f else σ.1 k i)
  by_cases h1 : k = 0 ∧ i = 5
  · rw [if_pos h1, if_neg (by omega), if_pos h1]
  · simp only [if_neg h1]
theorem aW_6 (σ : wd_S) (nx tk pl v f z : Int32) : wd_up (aW σ nx tk pl v f) 0 6 z = aW σ nx tk z v f := by
  refine wd_ext (fun k => funext fun i => ?_) rfl
  show (if k = 0 ∧ i = 6 then z else if k = 0 ∧ i = 4 then nx else if k = 0 ∧ i = 5 then tk else if k = 0 ∧ i = 6 then pl else if k = 0 ∧ i = 7 then v else if k = 0 ∧ i = 8 then f else σ.1 k i) = (if k = 0 ∧ i = 4 then nx else if k = 0 ∧ i = 5 then tk else if k = 0 ∧ i = 6 then z else if k = 0 ∧ i = 7 then v else if k = 0 ∧ i = 8 then f else σ.1 k i)
  by_cases h1 : k = 0 ∧ i = 6
  · rw [if_pos h1, if_neg (by omega), if_neg (by omega), if_pos h1]
  · simp only [if_neg h1]
theorem aW_7 (σ : wd_S) (nx tk pl v f z : Int32) : wd_up (aW σ nx tk pl v f) 0 7 z = aW σ nx tk pl z f := by
  refine wd_ext (fun k => funext fun i => ?_) rfl
  show (if k = 0 ∧ i = 7 then z else if k = 0 ∧ i = 4 then nx else if k = 0 ∧ i = 5 then tk else if k = 0 ∧ i = 6 then pl else if k = 0 ∧ i = 7 then v else if k = 0 ∧ i = 8 then f else σ.1 k i) = (if k = 0 ∧ i = 4 then nx else if k = 0 ∧ i = 5 then tk else if k = 0 ∧ i = 6 then pl else if k = 0 ∧ i = 7 then z else if k = 0 ∧ i = 8 then f else σ.1 k i)
  by_cases h1 : k = 0 ∧ i = 7
  · rw [if_pos h1, if_neg (by omega), if_neg (by omega), if_neg (by omega), if_pos h1]
  · simp only [if_neg h1]
theorem aW_8 (σ : wd_S) (nx tk pl v f z : Int32) : wd_up (aW σ nx tk pl v f) 0 8 z = aW σ nx tk pl v z := by
  refine wd_ext (fun k => funext fun i => ?_) rfl
  show (if k = 0 ∧ i = 8 then z else if k = 0 ∧ i = 4 then nx else if k = 0 ∧ i = 5 then tk else if k = 0 ∧ i = 6 then pl else if k = 0 ∧ i = 7 then v else if k = 0 ∧ i = 8 then f else σ.1 k i) = (if k = 0 ∧ i = 4 then nx else if k = 0 ∧ i = 5 then tk else if k = 0 ∧ i = 6 then pl else if k = 0 ∧ i = 7 then v else if k = 0 ∧ i = 8 then z else σ.1 k i)
  by_cases h1 : k = 0 ∧ i = 8
  · rw [if_pos h1, if_neg (by omega), if_neg (by omega), if_neg (by omega), if_neg (by omega), if_pos h1]
  · simp only [if_neg h1]
def laV (L : Nat → Int32) (n i : Nat) : Int32 := if i < n then L i else -1
theorem la_32 {L : Nat → Int32} {n b : Nat} (h : laV L n b = 32) : b < n ∧ L b = 32 := by
  unfold laV at h
  by_cases e : b < n
  · rw [if_pos e] at h; exact ⟨e, h⟩
  · rw [if_neg e] at h; exact absurd h (by decide)
theorem la_n32 {L : Nat → Int32} {n b : Nat} (hb : b ≤ n) (h : ¬ laV L n b = 32) : skipB L (n - b) b = b := by
  by_cases e : b < n
  · rw [laV, if_pos e] at h; rw [skipB_s L e, if_neg h]
  · rw [show n - b = 0 by omega]; rfl
theorem la_dig {L : Nat → Int32} {n b : Nat} (h : pDig (laV L n b)) : b < n ∧ laV L n b = L b := by
  unfold laV at h ⊢
  by_cases e : b < n
  · exact ⟨e, if_pos e⟩
  · rw [if_neg e] at h; exact absurd h.1 (by decide)
theorem la_ge {L : Nat → Int32} {n b : Nat} (h : 0 ≤ laV L n b) : b < n ∧ laV L n b = L b := by
  unfold laV at h ⊢
  by_cases e : b < n
  · exact ⟨e, if_pos e⟩
  · rw [if_neg e] at h; exact absurd h (by decide)
theorem la_lt {L : Nat → Int32} {n b : Nat} (hL : ∀ i, i < n → 0 ≤ L i) (h : ¬ 0 ≤ laV L n b) : ¬ b < n := fun e => h (by rw [laV, if_pos e]; exact hL b e)
theorem numL_e {L : Nat → Int32} {n b : Nat} {q : Int32} (h : ¬ pDig (laV L n b)) : numL L (n - b) b q = (b, q) := by
  by_cases e : b < n
  · rw [laV, if_pos e] at h; rw [numL_s L e, if_neg h]
  · rw [show n - b = 0 by omega]; rfl
theorem dig_c {x : Int32} (h : pDig x) : x = 48 ∨ x = 49 ∨ x = 50 ∨ x = 51 ∨ x = 52 ∨ x = 53 ∨ x = 54 ∨ x = 55 ∨ x = 56 ∨ x = 57 := by
  obtain ⟨e, hl⟩ := ix_of (x := x) (n := 58) (Int32.le_trans (by decide) h.1) (Int32.lt_of_le_of_lt h.2 (by decide)) (by decide)
  have h1 := h.1
  rw [e] at h1
  have h2 : 48 ≤ x.toNatClampNeg := (nI_leI (a := 48) (by decide) (by omega)).mp h1
  rw [e]
  generalize x.toNatClampNeg = k at *
  rcases (show k = 48 ∨ k = 49 ∨ k = 50 ∨ k = 51 ∨ k = 52 ∨ k = 53 ∨ k = 54 ∨ k = 55 ∨ k = 56 ∨ k = 57 by omega) with rfl | rfl | rfl | rfl | rfl | rfl | rfl | rfl | rfl | rfl <;> decide
theorem imin_le {v : Int32} (h : v ≤ 99) : imin v 100 = v := if_neg (fun h2 => absurd (Int32.lt_of_lt_of_le h2 h) (by decide))
theorem imin_gt {v : Int32} (h : ¬ v ≤ 99) : imin v 100 = 100 := by
  unfold imin
  by_cases e : (100 : Int32) < v
  · exact if_pos e
  · rw [if_neg e]
    apply Int32.toInt_inj.mp
    rw [Int32.lt_iff_toInt_lt] at e
    rw [Int32.le_iff_toInt_le] at h
    have e1 : (100 : Int32).toInt = 100 := rfl
    have e2 : (99 : Int32).toInt = 99 := rfl
    omega
theorem imin_st {v x : Int32} (h : ¬ v ≤ 99) (hx : pDig x) : imin (10 * imin v 100 + x - 48) 100 = imin v 100 := by
  rw [imin_gt h]
  rcases dig_c hx with rfl | rfl | rfl | rfl | rfl | rfl | rfl | rfl | rfl | rfl <;> decide
theorem nT_e {L : Nat → Int32} {n b0 S : Nat} {q : Int32} (h : skipB L (n - b0) b0 = S) (h1 : ¬ S < n) : nextT L n b0 q = (0, S, S, q) := by
  subst h; unfold nextT; rw [if_neg h1]
theorem nT_l {L : Nat → Int32} {n b0 S : Nat} {q : Int32} (h : skipB L (n - b0) b0 = S) (h1 : S < n) (h2 : ¬ pDig (L S)) : nextT L n b0 q = (tokL (L S), S, S + 1, q) := by
  subst h; unfold nextT; rw [if_pos h1, if_neg h2]
theorem nT_n {L : Nat → Int32} {n b0 S j : Nat} {q r : Int32} (h : skipB L (n - b0) b0 = S) (h1 : S < n) (h2 : pDig (L S)) (h3 : numL L (n - S) S 0 = (j, r)) : nextT L n b0 q = (tokN L S j r, S, j, r) := by
  subst h; unfold nextT; rw [if_pos h1, if_pos h2, h3]
def tkR (t : Int32) : Int32 := if t = 0 then 0 else if t = 1 then 1 else if t = 2 then 1 else if t = 3 then 2 else if t = 4 then 3 else 4
/-- what the reader holds, with the token before the place nx -/
def rdT (L : Nat → Int32) (n b : Nat) (σ σ' : wd_S) (f : Int32) : Prop := ∃ v, σ' = aW σ (nI (nextT L n b 0).2.2.1) (tkR (nextT L n b 0).1) (nI (nextT L n b 0).2.1) v f ∧ ((nextT L n b 0).1 = 3 → v = (nextT L n b 0).2.2.2) ∧ ((nextT L n b 0).1 = 1 → v = 99) ∧ ((nextT L n b 0).1 = 2 → v = 109)
theorem rd_e {L : Nat → Int32} {n b0 S : Nat} (h : skipB L (n - b0) b0 = S) (h1 : ¬ S < n) (σ : wd_S) (v f : Int32) : rdT L n b0 σ (aW σ (nI S) 0 (nI S) v f) f := by
  refine ⟨v, ?_⟩
  rw [nT_e h h1]
  exact ⟨rfl, fun h => absurd h (by decide : ¬ (0 : Int32) = 3), fun h => absurd h (by decide : ¬ (0 : Int32) = 1), fun h => absurd h (by decide : ¬ (0 : Int32) = 2)⟩
theorem rd_l {L : Nat → Int32} {n b0 S : Nat} (h : skipB L (n - b0) b0 = S) (h1 : S < n) (h2 : ¬ pDig (L S)) (σ : wd_S) (f : Int32) {x : Int32} (hx : x = if L S = 59 then 3 else if L S = 99 then 1 else if L S = 109 then 1 else 4) : rdT L n b0 σ (aW σ (nI (S + 1)) x (nI S) (L S) f) f := by
  refine ⟨L S, ?_⟩
  rw [nT_l h h1 h2, hx]
  unfold tokL
  by_cases e1 : L S = 59
  · simp only [if_pos e1]
    exact ⟨rfl, fun h => absurd h (by decide), fun h => absurd h (by decide), fun h => absurd h (by decide)⟩
  · simp only [if_neg e1]
    by_cases e2 : L S = 99
    · simp only [if_pos e2]
      exact ⟨rfl, fun h => absurd h (by decide), fun _ => e2, fun h => absurd h (by decide)⟩
    · simp only [if_neg e2]
      by_cases e3 : L S = 109
      · simp only [if_pos e3]
        exact ⟨rfl, fun h => absurd h (by decide), fun h => absurd h (by decide), fun _ => e3⟩
      · simp only [if_neg e3]
        exact ⟨rfl, fun h => absurd h (by decide), fun h => absurd h (by decide), fun h => absurd h (by decide)⟩
theorem rd_n {L : Nat → Int32} {n b0 S j : Nat} {v : Int32} (h : skipB L (n - b0) b0 = S) (h1 : S < n) (h2 : pDig (L S)) (h3 : numL L (n - S) S 0 = (j, imin v 100)) (σ : wd_S) (f : Int32) {x : Int32} (hx : x = if (L S = 48 ∧ ¬ nI j - nI S ≤ 1) ∨ ¬ v ≤ 99 then 4 else 2) : rdT L n b0 σ (aW σ (nI j) x (nI S) v f) f := by
  refine ⟨v, ?_⟩
  rw [nT_n h h1 h2 h3, hx]
  unfold tokN
  by_cases e : v ≤ 99
  · rw [imin_le e]
    by_cases e2 : (L S = 48 ∧ ¬ nI j - nI S ≤ 1) ∨ ¬ v ≤ 99
    · simp only [if_pos e2]
      exact ⟨rfl, fun h => absurd h (by decide), fun h => absurd h (by decide), fun h => absurd h (by decide)⟩
    · simp only [if_neg e2]
      exact ⟨rfl, by first | exact fun _ => rfl | exact fun _ => trivial, fun h => absurd h (by decide), fun h => absurd h (by decide)⟩
  · rw [imin_gt e]
    rw [if_pos (Or.inr e), if_pos (Or.inr (by decide))]
    exact ⟨rfl, fun h => absurd h (by decide : ¬ (5 : Int32) = 3), fun h => absurd h (by decide : ¬ (5 : Int32) = 1), fun h => absurd h (by decide : ¬ (5 : Int32) = 2)⟩

set_option maxRecDepth 100000 in
set_option maxHeartbeats 4000000 in
theorem r_letterAt {V : wd_V} {ad : Nat → Nat} (hinj : wd_inj rS ad) (σ : wd_S) (L : Nat → Int32) (hL : σ.1 1 = L) (n : Nat) (hn : σ.1 0 3 = nI n) (hn2 : n ≤ 200) (x : Int32) (i : Nat) (hx : x = nI i) (hi : i ≤ n) : wd_C rS V ad 0 yX5_letterAt (Cond.code yX5_letterAt cX5_letterAt 2 (some .int) :: wsL_law) σ [.ref (ad 0), .int x] (wd_eq (some (.int (laV L n i))) (σ)) := by
  refine wd_intro (lv := [some (.ref (ad 0)), some (.int x)]) hinj (by decide) rfl (Nat.le_of_ble_eq_true rfl) rfl (Nat.le_of_ble_eq_true rfl) (fun K hC => ?_)
  subst hx
  refine wd_iload_n hC dX5_letterAt_0 rfl rfl ?_
  refine wd_aload_n hC dX5_letterAt_1 rfl rfl ?_
  refine gf_X5_70 hC dX5_letterAt_2 ?_
  refine wd_icmp_ge (tgt := 17) hC dX5_letterAt_5 (by decide) (fun c_5 => ?_) (fun c_5 => ?_)
  · have hin : i = n := lp_ge hn c_5 hi (by omega)
    refine wd_iconst (v := -1) hC dX5_letterAt_17 rfl ?_
    exact wd_iret hC rfl dX5_letterAt_18 (if_neg (by omega)).symm rfl
  · have hin : i < n := lp_lt hn c_5 hi (by omega)
    refine wd_aload_n hC dX5_letterAt_8 rfl rfl ?_
    refine gf_X5_7 hC dX5_letterAt_9 ?_
    refine wd_iload_n hC dX5_letterAt_12 rfl rfl ?_
    refine rl_text hC dX5_letterAt_13 (i) rfl (by omega) ?_
    refine wd_goto (tgt := 18) hC dX5_letterAt_14 (by decide) ?_
    exact wd_iret hC rfl dX5_letterAt_18 (by rw [hL]; exact (if_pos hin).symm) rfl
theorem aW_3 (σ : wd_S) (nx tk pl v f : Int32) : (aW σ nx tk pl v f).1 0 3 = σ.1 0 3 := rfl
theorem r_letA {V : wd_V} {ad : Nat → Nat} (hinj : wd_inj rS ad) (σ : wd_S) (L : Nat → Int32) (hL : σ.1 1 = L) (n : Nat) (hn : σ.1 0 3 = nI n) (hn2 : n ≤ 200) (nx tk pl v f x : Int32) (i : Nat) (hx : x = nI i) (hi : i ≤ n) : wd_C rS V ad 0 yX5_letterAt (Cond.code yX5_letterAt cX5_letterAt 2 (some .int) :: wsL_law) (aW σ nx tk pl v f) [.ref (ad 0), .int x] (wd_eq (some (.int (laV L n i))) (aW σ nx tk pl v f)) := r_letterAt hinj (aW σ nx tk pl v f) L (by rw [aW_o _ _ _ _ _ _ (by decide)]; exact hL) n ((aW_3 σ nx tk pl v f).trans hn) hn2 x i hx hi
theorem gt_nle {a b : Int32} (h : b < a) : ¬ a ≤ b := fun h2 => Int32.lt_irrefl (Int32.lt_of_lt_of_le h h2)
theorem tkn_1 {A B C : Prop} (h : ¬ A) (hc : C) : ¬ ((A ∧ ¬ B) ∨ ¬ C) := fun q => q.elim (fun q => h q.1) (fun q => q hc)
theorem tkn_2 {A B C : Prop} (h : B) (hc : C) : ¬ ((A ∧ ¬ B) ∨ ¬ C) := fun q => q.elim (fun q => q.2 h) (fun q => q hc)
theorem ngt_le {a b : Int32} (h : ¬ b < a) : a ≤ b := Int32.not_lt.mp h
set_option maxRecDepth 100000 in
set_option maxHeartbeats 4000000 in
theorem r_advances {V : wd_V} {ad : Nat → Nat} (hinj : wd_inj rS ad) (σ : wd_S) (L : Nat → Int32) (hL : σ.1 1 = L) (n : Nat) (hn : σ.1 0 3 = nI n) (hn2 : n ≤ 200) (hL0 : ∀ i, i < n → 0 ≤ L i) (b0 : Nat) (hb0 : b0 ≤ n) (tk pl v f : Int32) : wd_C rS V ad 1 yX5_advances (Cond.code yX5_advances cX5_advances 2 none :: wsL_law) (aW σ (nI b0) tk pl v f) [.ref (ad 0)] (wd_pv (fun σ' => rdT L n b0 σ σ' f)) := by
  refine wd_intro (lv := [some (.ref (ad 0)), none]) hinj (by decide) rfl (Nat.le_of_ble_eq_true rfl) rfl (Nat.le_of_ble_eq_true rfl) (fun K hC => ?_)
  have loop : ∀ (k b : Nat), b ≤ n → n < b + k → skipB L (n - b0) b0 = skipB L (n - b) b → wd_G rS V ad K 2 (wd_Qm rS V ad K (wd_pv (fun σ' => rdT L n b0 σ σ' f))) 0 [some (.ref (ad 0)), none] [] (aW σ (nI b) tk pl v f) := by
    intro k
    induction k with
    | zero =>
      intro b  h1 h2 hS
      exact absurd h2 (by omega)
    | succ k ih =>
      intro b  h1 h2 hS
      refine wd_aload_n hC dX5_advances_0 rfl rfl ?_
      refine wd_aload_n hC dX5_advances_1 rfl rfl ?_
      refine gf_X5_73 hC dX5_advances_2 ?_
      refine wd_vi (show _ = nI b from rfl) ?_
      refine cv5i hC cw_X5_76 (r_letA hinj σ L hL n hn hn2 _ _ _ _ _ _ b rfl (by omega)) dX5_advances_5 (by first | decide | omega) (by decide) rfl rfl (Nat.le_of_ble_eq_true rfl) ?_
      refine wd_bipush (v := 32) hC dX5_advances_8 rfl ?_
      refine wd_icmp_ne (tgt := 26) hC dX5_advances_10 (by decide) (fun c_10 => ?_) (fun c_10 => ?_)
      · rw [la_n32 h1 c_10] at hS
        refine wd_aload_n hC dX5_advances_26 rfl rfl ?_
        refine wd_aload_n hC dX5_advances_27 rfl rfl ?_
        refine gf_X5_73 hC dX5_advances_28 ?_
        refine wd_vi (show _ = nI b from rfl) ?_
        refine pf_X5_80 hC dX5_advances_31 ?_
        refine wd_ts (aW_6 _ _ _ _ _ _ _) ?_
        refine wd_aload_n hC dX5_advances_34 rfl rfl ?_
        refine wd_aload_n hC dX5_advances_35 rfl rfl ?_
        refine gf_X5_73 hC dX5_advances_36 ?_
        refine wd_vi (show _ = nI b from rfl) ?_
        refine cv5i hC cw_X5_76 (r_letA hinj σ L hL n hn hn2 _ _ _ _ _ _ b rfl (by omega)) dX5_advances_39 (by first | decide | omega) (by decide) rfl rfl (Nat.le_of_ble_eq_true rfl) ?_
        refine wd_istore_n_2_1 hC dX5_advances_42 ?_
        refine wd_iload_n hC dX5_advances_43 rfl rfl ?_
        refine wd_if_ge (tgt := 55) hC dX5_advances_44 (by decide) (fun c_44 => ?_) (fun c_44 => ?_)
        · obtain ⟨hbn, hla⟩ := la_ge c_44
          refine wd_iload_n hC dX5_advances_55 rfl rfl ?_
          refine wd_bipush (v := 48) hC dX5_advances_56 rfl ?_
          refine wd_bipush (v := 57) hC dX5_advances_58 rfl ?_
          refine cvsi hC cw_X5_66 (r_in hinj _ _ _ _) dX5_advances_60 (by first | decide | omega) (by decide) rfl rfl (Nat.le_of_ble_eq_true rfl) ?_
          refine wd_if_eq (tgt := 181) hC dX5_advances_63 (by decide) (fun c_63 => ?_) (fun c_63 => ?_)
          · replace c_63 := bI_0.mp c_63
            refine wd_aload_n hC dX5_advances_181 rfl rfl ?_
            refine wd_dup hC dX5_advances_182 rfl ?_
            refine gf_X5_73 hC dX5_advances_183 ?_
            refine wd_vi (show _ = nI b from rfl) ?_
            refine wd_iconst (v := 1) hC dX5_advances_186 rfl ?_
            refine wd_iadd hC dX5_advances_187 ?_
            refine wd_vi (nI_add b 1) ?_
            refine pf_X5_73 hC dX5_advances_188 ?_
            refine wd_ts (aW_4 _ _ _ _ _ _ _) ?_
            refine wd_aload_n hC dX5_advances_191 rfl rfl ?_
            refine wd_iload_n hC dX5_advances_192 rfl rfl ?_
            refine wd_vi hla ?_
            refine pf_X5_86 hC dX5_advances_193 ?_
            refine wd_ts (aW_7 _ _ _ _ _ _ _) ?_
            refine wd_aload_n hC dX5_advances_196 rfl rfl ?_
            refine wd_iload_n hC dX5_advances_197 rfl rfl ?_
            refine wd_vi hla ?_
            refine wd_bipush (v := 59) hC dX5_advances_198 rfl ?_
            refine wd_icmp_ne (tgt := 207) hC dX5_advances_200 (by decide) (fun c_200 => ?_) (fun c_200 => ?_)
            · refine wd_iload_n hC dX5_advances_207 rfl rfl ?_
              refine wd_vi hla ?_
              refine wd_bipush (v := 99) hC dX5_advances_208 rfl ?_
              refine wd_icmp_eq (tgt := 219) hC dX5_advances_210 (by decide) (fun c_210 => ?_) (fun c_210 => ?_)
              · refine wd_iconst (v := 1) hC dX5_advances_219 rfl ?_
                refine wd_goto (tgt := 224) hC dX5_advances_220 (by decide) ?_
                refine pf_X5_83 hC dX5_advances_224 ?_
                refine wd_ts (aW_5 _ _ _ _ _ _ _) ?_
                exact wd_vretP hC rfl dX5_advances_227 (⟨rfl, (by first | exact rd_e hS hbn σ _ f | exact rd_l hS hbn (hla ▸ c_63) σ f (by first | exact (if_pos c_200).symm | exact ((if_neg c_200).trans (if_pos c_210)).symm | exact ((if_neg c_200).trans ((if_neg c_210).trans (if_pos c_216))).symm | exact ((if_neg c_200).trans ((if_neg c_210).trans (if_neg c_216))).symm))⟩)
              · refine wd_iload_n hC dX5_advances_213 rfl rfl ?_
                refine wd_vi hla ?_
                refine wd_bipush (v := 109) hC dX5_advances_214 rfl ?_
                refine wd_icmp_ne (tgt := 223) hC dX5_advances_216 (by decide) (fun c_216 => ?_) (fun c_216 => ?_)
                · refine wd_iconst (v := 4) hC dX5_advances_223 rfl ?_
                  refine pf_X5_83 hC dX5_advances_224 ?_
                  refine wd_ts (aW_5 _ _ _ _ _ _ _) ?_
                  exact wd_vretP hC rfl dX5_advances_227 (⟨rfl, (by first | exact rd_e hS hbn σ _ f | exact rd_l hS hbn (hla ▸ c_63) σ f (by first | exact (if_pos c_200).symm | exact ((if_neg c_200).trans (if_pos c_210)).symm | exact ((if_neg c_200).trans ((if_neg c_210).trans (if_pos c_216))).symm | exact ((if_neg c_200).trans ((if_neg c_210).trans (if_neg c_216))).symm))⟩)
                · refine wd_iconst (v := 1) hC dX5_advances_219 rfl ?_
                  refine wd_goto (tgt := 224) hC dX5_advances_220 (by decide) ?_
                  refine pf_X5_83 hC dX5_advances_224 ?_
                  refine wd_ts (aW_5 _ _ _ _ _ _ _) ?_
                  exact wd_vretP hC rfl dX5_advances_227 (⟨rfl, (by first | exact rd_e hS hbn σ _ f | exact rd_l hS hbn (hla ▸ c_63) σ f (by first | exact (if_pos c_200).symm | exact ((if_neg c_200).trans (if_pos c_210)).symm | exact ((if_neg c_200).trans ((if_neg c_210).trans (if_pos c_216))).symm | exact ((if_neg c_200).trans ((if_neg c_210).trans (if_neg c_216))).symm))⟩)
            · refine wd_iconst (v := 3) hC dX5_advances_203 rfl ?_
              refine wd_goto (tgt := 224) hC dX5_advances_204 (by decide) ?_
              refine pf_X5_83 hC dX5_advances_224 ?_
              refine wd_ts (aW_5 _ _ _ _ _ _ _) ?_
              exact wd_vretP hC rfl dX5_advances_227 (⟨rfl, (by first | exact rd_e hS hbn σ _ f | exact rd_l hS hbn (hla ▸ c_63) σ f (by first | exact (if_pos c_200).symm | exact ((if_neg c_200).trans (if_pos c_210)).symm | exact ((if_neg c_200).trans ((if_neg c_210).trans (if_pos c_216))).symm | exact ((if_neg c_200).trans ((if_neg c_210).trans (if_neg c_216))).symm))⟩)
          · replace c_63 := bI_1.mp c_63
            refine wd_aload_n hC dX5_advances_66 rfl rfl ?_
            refine wd_iconst (v := 0) hC dX5_advances_67 rfl ?_
            refine pf_X5_86 hC dX5_advances_68 ?_
            refine wd_ts (aW_7 _ _ _ _ _ _ _) ?_
            have hdg : pDig (L b) := hla ▸ c_63
            have inner : ∀ (k j : Nat) (v : Int32), j ≤ n → n < j + k → numL L (n - b) b 0 = numL L (n - j) j (imin v 100) → wd_G rS V ad K 2 (wd_Qm rS V ad K (wd_pv (fun σ' => rdT L n b0 σ σ' f))) 71 [some (.ref (ad 0)), some (.int (laV L n b))] [] (aW σ (nI j) tk (nI b) v f) := by
              intro k
              induction k with
              | zero =>
                intro j v h1b h2b hst
                exact absurd h2b (by omega)
              | succ k ih2 =>
                intro j v h1b h2b hst
                refine wd_aload_n hC dX5_advances_71 rfl rfl ?_
                refine wd_aload_n hC dX5_advances_72 rfl rfl ?_
                refine gf_X5_73 hC dX5_advances_73 ?_
                refine wd_vi (show _ = nI j from rfl) ?_
                refine cv5i hC cw_X5_76 (r_letA hinj σ L hL n hn hn2 _ _ _ _ _ _ j rfl (by omega)) dX5_advances_76 (by first | decide | omega) (by decide) rfl rfl (Nat.le_of_ble_eq_true rfl) ?_
                refine wd_bipush (v := 48) hC dX5_advances_79 rfl ?_
                refine wd_bipush (v := 57) hC dX5_advances_81 rfl ?_
                refine cvsi hC cw_X5_66 (r_in hinj _ _ _ _) dX5_advances_83 (by first | decide | omega) (by decide) rfl rfl (Nat.le_of_ble_eq_true rfl) ?_
                refine wd_if_eq (tgt := 141) hC dX5_advances_86 (by decide) (fun c_86 => ?_) (fun c_86 => ?_)
                · replace c_86 := bI_0.mp c_86
                  rw [numL_e c_86] at hst
                  refine wd_aload_n hC dX5_advances_141 rfl rfl ?_
                  refine wd_aload_n hC dX5_advances_142 rfl rfl ?_
                  refine gf_X5_86 hC dX5_advances_143 ?_
                  refine wd_vi (show _ = v from rfl) ?_
                  refine wd_bipush (v := 99) hC dX5_advances_146 rfl ?_
                  refine wd_icmp_gt (tgt := 170) hC dX5_advances_148 (by decide) (fun c_148 => ?_) (fun c_148 => ?_)
                  · refine wd_iconst (v := 4) hC dX5_advances_170 rfl ?_
                    refine wd_goto (tgt := 175) hC dX5_advances_171 (by decide) ?_
                    refine pf_X5_83 hC dX5_advances_175 ?_
                    refine wd_ts (aW_5 _ _ _ _ _ _ _) ?_
                    refine wd_goto (tgt := 227) hC dX5_advances_178 (by decide) ?_
                    exact wd_vretP hC rfl dX5_advances_227 (⟨rfl, rd_n hS hbn hdg hst σ f (by first | exact (if_pos (Or.inr (gt_nle c_148))).symm | exact (if_pos (Or.inl ⟨c_154, c_167⟩)).symm | exact (if_neg (tkn_1 c_154 (ngt_le c_148))).symm | exact (if_neg (tkn_2 c_167 (ngt_le c_148))).symm)⟩)
                  · refine wd_iload_n hC dX5_advances_151 rfl rfl ?_
                    refine wd_vi hla ?_
                    refine wd_bipush (v := 48) hC dX5_advances_152 rfl ?_
                    refine wd_icmp_ne (tgt := 174) hC dX5_advances_154 (by decide) (fun c_154 => ?_) (fun c_154 => ?_)
                    · refine wd_iconst (v := 2) hC dX5_advances_174 rfl ?_
                      refine pf_X5_83 hC dX5_advances_175 ?_
                      refine wd_ts (aW_5 _ _ _ _ _ _ _) ?_
                      refine wd_goto (tgt := 227) hC dX5_advances_178 (by decide) ?_
                      exact wd_vretP hC rfl dX5_advances_227 (⟨rfl, rd_n hS hbn hdg hst σ f (by first | exact (if_pos (Or.inr (gt_nle c_148))).symm | exact (if_pos (Or.inl ⟨c_154, c_167⟩)).symm | exact (if_neg (tkn_1 c_154 (ngt_le c_148))).symm | exact (if_neg (tkn_2 c_167 (ngt_le c_148))).symm)⟩)
                    · refine wd_aload_n hC dX5_advances_157 rfl rfl ?_
                      refine gf_X5_73 hC dX5_advances_158 ?_
                      refine wd_vi (show _ = nI j from rfl) ?_
                      refine wd_aload_n hC dX5_advances_161 rfl rfl ?_
                      refine gf_X5_80 hC dX5_advances_162 ?_
                      refine wd_vi (show _ = nI b from rfl) ?_
                      refine wd_isub hC dX5_advances_165 ?_
                      refine wd_iconst (v := 1) hC dX5_advances_166 rfl ?_
                      refine wd_icmp_le (tgt := 174) hC dX5_advances_167 (by decide) (fun c_167 => ?_) (fun c_167 => ?_)
                      · refine wd_iconst (v := 2) hC dX5_advances_174 rfl ?_
                        refine pf_X5_83 hC dX5_advances_175 ?_
                        refine wd_ts (aW_5 _ _ _ _ _ _ _) ?_
                        refine wd_goto (tgt := 227) hC dX5_advances_178 (by decide) ?_
                        exact wd_vretP hC rfl dX5_advances_227 (⟨rfl, rd_n hS hbn hdg hst σ f (by first | exact (if_pos (Or.inr (gt_nle c_148))).symm | exact (if_pos (Or.inl ⟨c_154, c_167⟩)).symm | exact (if_neg (tkn_1 c_154 (ngt_le c_148))).symm | exact (if_neg (tkn_2 c_167 (ngt_le c_148))).symm)⟩)
                      · refine wd_iconst (v := 4) hC dX5_advances_170 rfl ?_
                        refine wd_goto (tgt := 175) hC dX5_advances_171 (by decide) ?_
                        refine pf_X5_83 hC dX5_advances_175 ?_
                        refine wd_ts (aW_5 _ _ _ _ _ _ _) ?_
                        refine wd_goto (tgt := 227) hC dX5_advances_178 (by decide) ?_
                        exact wd_vretP hC rfl dX5_advances_227 (⟨rfl, rd_n hS hbn hdg hst σ f (by first | exact (if_pos (Or.inr (gt_nle c_148))).symm | exact (if_pos (Or.inl ⟨c_154, c_167⟩)).symm | exact (if_neg (tkn_1 c_154 (ngt_le c_148))).symm | exact (if_neg (tkn_2 c_167 (ngt_le c_148))).symm)⟩)
                · replace c_86 := bI_1.mp c_86
                  obtain ⟨hjn, hlj⟩ := la_dig c_86
                  rw [numL_s L hjn, if_pos (hlj ▸ c_86)] at hst
                  refine wd_aload_n hC dX5_advances_89 rfl rfl ?_
                  refine wd_aload_n hC dX5_advances_90 rfl rfl ?_
                  refine gf_X5_86 hC dX5_advances_91 ?_
                  refine wd_vi (show _ = v from rfl) ?_
                  refine wd_bipush (v := 99) hC dX5_advances_94 rfl ?_
                  refine wd_icmp_le (tgt := 106) hC dX5_advances_96 (by decide) (fun c_96 => ?_) (fun c_96 => ?_)
                  · refine wd_bipush (v := 10) hC dX5_advances_106 rfl ?_
                    refine wd_aload_n hC dX5_advances_108 rfl rfl ?_
                    refine gf_X5_86 hC dX5_advances_109 ?_
                    refine wd_vi (show _ = v from rfl) ?_
                    refine wd_imul hC dX5_advances_112 ?_
                    refine wd_aload_n hC dX5_advances_113 rfl rfl ?_
                    refine wd_aload_n hC dX5_advances_114 rfl rfl ?_
                    refine gf_X5_73 hC dX5_advances_115 ?_
                    refine wd_vi (show _ = nI j from rfl) ?_
                    refine cv5i hC cw_X5_76 (r_letA hinj σ L hL n hn hn2 _ _ _ _ _ _ j rfl (by omega)) dX5_advances_118 (by first | decide | omega) (by decide) rfl rfl (Nat.le_of_ble_eq_true rfl) ?_
                    refine wd_vi hlj ?_
                    refine wd_iadd hC dX5_advances_121 ?_
                    refine wd_bipush (v := 48) hC dX5_advances_122 rfl ?_
                    refine wd_isub hC dX5_advances_124 ?_
                    refine pf_X5_86 hC dX5_advances_125 ?_
                    refine wd_ts (aW_7 _ _ _ _ _ _ _) ?_
                    refine wd_aload_n hC dX5_advances_128 rfl rfl ?_
                    refine wd_dup hC dX5_advances_129 rfl ?_
                    refine gf_X5_73 hC dX5_advances_130 ?_
                    refine wd_vi (show _ = nI j from rfl) ?_
                    refine wd_iconst (v := 1) hC dX5_advances_133 rfl ?_
                    refine wd_iadd hC dX5_advances_134 ?_
                    refine wd_vi (nI_add j 1) ?_
                    refine pf_X5_73 hC dX5_advances_135 ?_
                    refine wd_ts (aW_4 _ _ _ _ _ _ _) ?_
                    refine wd_goto (tgt := 71) hC dX5_advances_138 (by decide) ?_
                    exact ih2 (j + 1) _ (by omega) (by omega) (by first | (rw [imin_le c_96] at hst; exact hst) | (rw [imin_st c_96 (hlj ▸ c_86)] at hst; exact hst))
                  · refine wd_aload_n hC dX5_advances_99 rfl rfl ?_
                    refine gf_X5_86 hC dX5_advances_100 ?_
                    refine wd_vi (show _ = v from rfl) ?_
                    refine wd_goto (tgt := 125) hC dX5_advances_103 (by decide) ?_
                    refine pf_X5_86 hC dX5_advances_125 ?_
                    refine wd_ts (aW_7 _ _ _ _ _ _ _) ?_
                    refine wd_aload_n hC dX5_advances_128 rfl rfl ?_
                    refine wd_dup hC dX5_advances_129 rfl ?_
                    refine gf_X5_73 hC dX5_advances_130 ?_
                    refine wd_vi (show _ = nI j from rfl) ?_
                    refine wd_iconst (v := 1) hC dX5_advances_133 rfl ?_
                    refine wd_iadd hC dX5_advances_134 ?_
                    refine wd_vi (nI_add j 1) ?_
                    refine pf_X5_73 hC dX5_advances_135 ?_
                    refine wd_ts (aW_4 _ _ _ _ _ _ _) ?_
                    refine wd_goto (tgt := 71) hC dX5_advances_138 (by decide) ?_
                    exact ih2 (j + 1) _ (by omega) (by omega) (by first | (rw [imin_le c_96] at hst; exact hst) | (rw [imin_st c_96 (hlj ▸ c_86)] at hst; exact hst))
            exact inner (n + 1) b _ h1 (by omega) rfl
        · have hbn := la_lt hL0 c_44
          refine wd_aload_n hC dX5_advances_47 rfl rfl ?_
          refine wd_iconst (v := 0) hC dX5_advances_48 rfl ?_
          refine pf_X5_83 hC dX5_advances_49 ?_
          refine wd_ts (aW_5 _ _ _ _ _ _ _) ?_
          refine wd_goto (tgt := 227) hC dX5_advances_52 (by decide) ?_
          exact wd_vretP hC rfl dX5_advances_227 (⟨rfl, (by first | exact rd_e hS hbn σ _ f | exact rd_l hS hbn (hla ▸ c_63) σ f (by first | exact (if_pos c_200).symm | exact ((if_neg c_200).trans (if_pos c_210)).symm | exact ((if_neg c_200).trans ((if_neg c_210).trans (if_pos c_216))).symm | exact ((if_neg c_200).trans ((if_neg c_210).trans (if_neg c_216))).symm))⟩)
      · obtain ⟨hbn, hl32⟩ := la_32 c_10
        rw [skipB_s L hbn, if_pos hl32] at hS
        refine wd_aload_n hC dX5_advances_13 rfl rfl ?_
        refine wd_dup hC dX5_advances_14 rfl ?_
        refine gf_X5_73 hC dX5_advances_15 ?_
        refine wd_vi (show _ = nI b from rfl) ?_
        refine wd_iconst (v := 1) hC dX5_advances_18 rfl ?_
        refine wd_iadd hC dX5_advances_19 ?_
        refine wd_vi (nI_add b 1) ?_
        refine pf_X5_73 hC dX5_advances_20 ?_
        refine wd_ts (aW_4 _ _ _ _ _ _ _) ?_
        refine wd_goto (tgt := 0) hC dX5_advances_23 (by decide) ?_
        exact ih (b + 1) (by omega) (by omega) hS
  exact loop (n + 1) b0 hb0 (by omega) rfl

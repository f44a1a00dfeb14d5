/-! ===== moments as a whole ===== -/
def u2 (M : Nat → Nat → Int32) (k i : Nat) (v : Int32) : Nat → Nat → Int32 := fun a b => if a = k ∧ b = i then v else M a b
def ur (M : Nat → Nat → Int32) (c : Nat) (r : Nat → Int32) : Nat → Nat → Int32 := fun k => if k = c then r else M k
/-- moment j becomes M -/
def stM (σ : wd_S) (j : Nat) (M : Nat → Nat → Int32) : wd_S := (fun k => if cm j ≤ k ∧ k < cm j + 6 then M (k - cm j) else σ.1 k, σ.2)
theorem stM_at (σ : wd_S) (j : Nat) (M : Nat → Nat → Int32) {c : Nat} (hc : c < 6) : (stM σ j M).1 (cm j + c) = M c := by
  show (if cm j ≤ cm j + c ∧ cm j + c < cm j + 6 then M (cm j + c - cm j) else σ.1 (cm j + c)) = M c
  rw [if_pos ⟨by omega, by omega⟩, Nat.add_sub_cancel_left]
theorem stM_out (σ : wd_S) (j : Nat) (M : Nat → Nat → Int32) {k : Nat} (h : ¬ (cm j ≤ k ∧ k < cm j + 6)) : (stM σ j M).1 k = σ.1 k := if_neg h
theorem stM_lo (σ : wd_S) (j : Nat) (M : Nat → Nat → Int32) {k : Nat} (h : k < 36) : (stM σ j M).1 k = σ.1 k := stM_out σ j M (by unfold cm; omega)
theorem stM_n (σ : wd_S) {j j' : Nat} (hj : j ≠ j') (M : Nat → Nat → Int32) {c : Nat} (hc : c < 6) : (stM σ j M).1 (cm j' + c) = σ.1 (cm j' + c) := stM_out σ j M (by unfold cm; omega)
theorem stM_n0 (σ : wd_S) {j j' : Nat} (hj : j ≠ j') (M : Nat → Nat → Int32) : (stM σ j M).1 (cm j') = σ.1 (cm j') := stM_out σ j M (by unfold cm; omega)
theorem mv_at (σ : wd_S) (j : Nat) {c : Nat} (hc : c < 6) : mv σ j c = σ.1 (cm j + c) := funext fun i => if_pos hc
theorem mv_hi (σ : wd_S) (j : Nat) {c : Nat} (hc : ¬ c < 6) : mv σ j c = fun _ => 0 := funext fun i => if_neg hc
def mz (M : Nat → Nat → Int32) : Prop := ∀ k, ¬ k < 6 → M k = fun _ => 0
theorem mz_mv (σ : wd_S) (j : Nat) : mz (mv σ j) := fun _ h => mv_hi σ j h
theorem mz_u2 {M : Nat → Nat → Int32} (h : mz M) {k : Nat} (hk : k < 6) (i : Nat) (v : Int32) : mz (u2 M k i v) := fun a ha => by
  funext b
  show (if a = k ∧ b = i then v else M a b) = 0
  rw [if_neg (by omega), h a ha]
theorem wd_ext {σ σ' : wd_S} (h : ∀ k, σ.1 k = σ'.1 k) (h2 : σ.2 = σ'.2) : σ = σ' := Prod.ext (funext h) h2
theorem stM_self (σ : wd_S) (j : Nat) : stM σ j (mv σ j) = σ := by
  refine wd_ext (fun k => ?_) rfl
  by_cases h : cm j ≤ k ∧ k < cm j + 6
  · obtain ⟨c, rfl⟩ : ∃ c, k = cm j + c := ⟨k - cm j, by omega⟩
    rw [stM_at _ _ _ (by omega), mv_at _ _ (by omega)]
  · exact stM_out _ _ _ h
theorem stM_st (σ : wd_S) (j : Nat) (M M' : Nat → Nat → Int32) : stM (stM σ j M) j M' = stM σ j M' := by
  refine wd_ext (fun k => ?_) rfl
  by_cases h : cm j ≤ k ∧ k < cm j + 6
  · show (if _ then _ else _) = (if _ then _ else _)
    rw [if_pos h, if_pos h]
  · rw [stM_out _ _ _ h, stM_out _ _ _ h, stM_out _ _ _ h]
theorem stM_up (σ : wd_S) (j : Nat) (M : Nat → Nat → Int32) {c : Nat} (hc : c < 6) (i : Nat) (v : Int32) : wd_up (stM σ j M) (cm j + c) i v = stM σ j (u2 M c i v) := by
  refine wd_ext (fun k => ?_) rfl
  by_cases h : cm j ≤ k ∧ k < cm j + 6
  · obtain ⟨e, rfl⟩ : ∃ e, k = cm j + e := ⟨k - cm j, by omega⟩
    rw [stM_at _ _ _ (by omega)]
    funext b
    show (if cm j + e = cm j + c ∧ b = i then v else (stM σ j M).1 (cm j + e) b) = (if e = c ∧ b = i then v else M e b)
    rw [stM_at _ _ _ (by omega)]
    by_cases h1 : e = c ∧ b = i
    · rw [if_pos h1, if_pos ⟨by omega, h1.2⟩]
    · rw [if_neg h1, if_neg (fun h2 => h1 ⟨by omega, h2.2⟩)]
  · rw [stM_out _ _ _ h, wd_up_n _ _ _ _ (by omega), stM_out _ _ _ h]
theorem stM_up0 (σ : wd_S) (j : Nat) (M : Nat → Nat → Int32) (i : Nat) (v : Int32) : wd_up (stM σ j M) (cm j) i v = stM σ j (u2 M 0 i v) := stM_up σ j M (c := 0) (by decide) i v
theorem tv_st (σ : wd_S) (j : Nat) (M : Nat → Nat → Int32) (ht : σ.2.2 < 2) : tv (stM σ j M) = tv σ := by
  funext k i
  unfold tv
  by_cases h : k < 13
  · rw [if_pos h, if_pos h]
    show (stM σ j M).1 (ct σ.2.2 + k) i = _
    rw [stM_lo _ _ _ (by unfold ct; omega)]
  · rw [if_neg h, if_neg h]
theorem mv_st (σ : wd_S) (j : Nat) {M : Nat → Nat → Int32} (hM : mz M) : mv (stM σ j M) j = M := by
  funext k
  by_cases h : k < 6
  · rw [mv_at _ _ h, stM_at _ _ _ h]
  · rw [mv_hi _ _ h, hM k h]
theorem mv_st_n (σ : wd_S) {j j' : Nat} (hj : j ≠ j') (M : Nat → Nat → Int32) : mv (stM σ j M) j' = mv σ j' := by
  funext k
  by_cases h : k < 6
  · rw [mv_at _ _ h, mv_at _ _ h, stM_n _ hj _ h]
  · rw [mv_hi _ _ h, mv_hi _ _ h]
theorem wd_ts {sd : wd_Side} {V : wd_V} {ad : Nat → Nat} {K : wd_K} {nL : Nat} {Q : State → Prop} {pc : Nat} {lv : List (Option Value)} {st : List Value} {σ σ' : wd_S} (h : σ = σ') (k : wd_G sd V ad K nL Q pc lv st σ') : wd_G sd V ad K nL Q pc lv st σ := h ▸ k
theorem cm_lt {j c : Nat} (hj : j < 14) (hc : c < 6) : cm j + c < 120 := by unfold cm; omega
/-- behind an arraycopy: the row is the other moment's -/
theorem cp_step {V : wd_V} {ad : Nat → Nat} (σ : wd_S) {a b : Nat} (hab : b ≠ a) (M : Nat → Nat → Int32) {c : Nat} (h1 : 1 ≤ c) (h5 : c ≤ 5) : ∀ (D : va_G) (H : Heap), va_P D vwCl (wd_cells cS ad V.2.2 (wd_cp (stM σ b M) (cm a + c) (cm b + c) 6)) H → va_P D vwCl (wd_cells cS ad V.2.2 (stM σ b (ur M c (mv σ a c)))) H := by
  refine wd_eqv (fun k _ => ?_)
  by_cases hk : k = cm b + c
  · subst hk
    right
    refine ⟨_, _, _, _, cE_ma b c h1 h5, cE_ma b c h1 h5, fun i hi => ?_⟩
    show (if cm b + c = cm b + c ∧ i < 6 then (stM σ b M).1 (cm a + c) i else _) = _
    rw [if_pos ⟨rfl, hi⟩, stM_n _ hab _ (by omega), stM_at _ _ _ (by omega)]
    show _ = (if c = c then mv σ a c else M c) i
    rw [if_pos rfl, mv_at _ _ (by omega)]
  · left
    have e : (wd_cp (stM σ b M) (cm a + c) (cm b + c) 6).1 k = (stM σ b (ur M c (mv σ a c))).1 k := by
      rw [wd_cp_n _ _ _ _ hk]
      by_cases h : cm b ≤ k ∧ k < cm b + 6
      · obtain ⟨e, rfl⟩ : ∃ e, k = cm b + e := ⟨k - cm b, by omega⟩
        rw [stM_at _ _ _ (by omega), stM_at _ _ _ (by omega)]
        show _ = (if e = c then _ else M e)
        rw [if_neg (by omega)]
      · rw [stM_out _ _ _ h, stM_out _ _ _ h]
    show cS.2 ad V.2.2 σ.2 k _ = cS.2 ad V.2.2 σ.2 k _
    rw [e]
/-- a moment's own two numbers are the places 5 and 6 of its row 0 -/
theorem cp_fin {V : wd_V} {ad : Nat → Nat} (σ : wd_S) (b : Nat) (M M' : Nat → Nat → Int32) (h5 : M 0 5 = M' 0 5) (h6 : M 0 6 = M' 0 6) (h : ∀ k, 1 ≤ k → k < 6 → ∀ i, i < 6 → M k i = M' k i) : ∀ (D : va_G) (H : Heap), va_P D vwCl (wd_cells cS ad V.2.2 (stM σ b M)) H → va_P D vwCl (wd_cells cS ad V.2.2 (stM σ b M')) H := by
  refine wd_eqv (fun k _ => ?_)
  by_cases hk : cm b ≤ k ∧ k < cm b + 6
  · obtain ⟨e, rfl⟩ : ∃ e, k = cm b + e := ⟨k - cm b, by omega⟩
    by_cases he : e = 0
    · subst he
      left
      show cE ad V.2.2 σ.2 _ _ = cE ad V.2.2 σ.2 _ _
      rw [stM_at _ _ _ (by omega), stM_at _ _ _ (by omega), Nat.add_zero, cE_m, cE_m, h5, h6]
    · right
      refine ⟨_, _, _, _, cE_ma b e (by omega) (by omega), cE_ma b e (by omega) (by omega), fun i hi => ?_⟩
      rw [stM_at _ _ _ (by omega), stM_at _ _ _ (by omega)]
      exact h e (by omega) (by omega) i hi
  · left
    show cE ad V.2.2 σ.2 k _ = cE ad V.2.2 σ.2 k _
    rw [stM_out _ _ _ hk, stM_out _ _ _ hk]

set_option maxRecDepth 100000 in
set_option maxHeartbeats 4000000 in
theorem c_copyFrom {V : wd_V} {ad : Nat → Nat} (hinj : wd_inj cS ad) (σ : wd_S) (a b : Nat) (ha : a < 14) (hb : b < 14) (hab : b ≠ a) : wd_C cS V ad 1 yX1_copyFrom (Cond.code yX1_copyFrom cX1_copyFrom 2 none :: wsL_law) σ [.ref (ad (cm b)), .ref (ad (cm a))] (wd_eq none (stM σ b (mv σ a))) := by
  refine wd_intro (lv := [some (.ref (ad (cm b))), some (.ref (ad (cm a)))]) hinj (by decide) rfl (Nat.le_of_ble_eq_true rfl) rfl (Nat.le_of_ble_eq_true rfl) (fun K hC => ?_)
  refine wd_ts (stM_self σ b).symm ?_
  refine wd_aload_n hC dX1_copyFrom_0 rfl rfl ?_
  refine gf_X1_9 hC dX1_copyFrom_1 ?_
  refine wd_iconst (v := 0) hC dX1_copyFrom_4 rfl ?_
  refine wd_aload_n hC dX1_copyFrom_5 rfl rfl ?_
  refine gf_X1_9 hC dX1_copyFrom_6 ?_
  refine wd_iconst (v := 0) hC dX1_copyFrom_9 rfl ?_
  refine wd_bipush (v := 6) hC dX1_copyFrom_10 rfl ?_
  refine wd_copy hC (q0 := cm a + 1) (q1 := cm b + 1) (cm_lt ha (by decide)) (cm_lt hb (by decide)) (fun _ => cE_ma a 1 (by decide) (by decide)) (fun _ => cE_ma b 1 (by decide) (by decide)) 6 rfl (by decide) (Nat.le_refl 6) (Nat.le_refl 6) (wL_14 _ (List.mem_of_getElem? (i := 20) rfl)) (wL_14 _ (List.mem_of_getElem? (i := 21) rfl)) (wL_14 _ (List.mem_of_getElem? (i := 22) rfl)) (wL_14 _ (List.mem_of_getElem? (i := 23) rfl)) (by decide) (by decide) dX1_copyFrom_12 ?_
  refine wd_to (cp_step σ hab _ (c := 1) (by decide) (by decide)) ?_
  refine wd_aload_n hC dX1_copyFrom_15 rfl rfl ?_
  refine gf_X1_15 hC dX1_copyFrom_16 ?_
  refine wd_iconst (v := 0) hC dX1_copyFrom_19 rfl ?_
  refine wd_aload_n hC dX1_copyFrom_20 rfl rfl ?_
  refine gf_X1_15 hC dX1_copyFrom_21 ?_
  refine wd_iconst (v := 0) hC dX1_copyFrom_24 rfl ?_
  refine wd_bipush (v := 6) hC dX1_copyFrom_25 rfl ?_
  refine wd_copy hC (q0 := cm a + 2) (q1 := cm b + 2) (cm_lt ha (by decide)) (cm_lt hb (by decide)) (fun _ => cE_ma a 2 (by decide) (by decide)) (fun _ => cE_ma b 2 (by decide) (by decide)) 6 rfl (by decide) (Nat.le_refl 6) (Nat.le_refl 6) (wL_14 _ (List.mem_of_getElem? (i := 20) rfl)) (wL_14 _ (List.mem_of_getElem? (i := 21) rfl)) (wL_14 _ (List.mem_of_getElem? (i := 22) rfl)) (wL_14 _ (List.mem_of_getElem? (i := 23) rfl)) (by decide) (by decide) dX1_copyFrom_27 ?_
  refine wd_to (cp_step σ hab _ (c := 2) (by decide) (by decide)) ?_
  refine wd_aload_n hC dX1_copyFrom_30 rfl rfl ?_
  refine gf_X1_18 hC dX1_copyFrom_31 ?_
  refine wd_iconst (v := 0) hC dX1_copyFrom_34 rfl ?_
  refine wd_aload_n hC dX1_copyFrom_35 rfl rfl ?_
  refine gf_X1_18 hC dX1_copyFrom_36 ?_
  refine wd_iconst (v := 0) hC dX1_copyFrom_39 rfl ?_
  refine wd_bipush (v := 6) hC dX1_copyFrom_40 rfl ?_
  refine wd_copy hC (q0 := cm a + 3) (q1 := cm b + 3) (cm_lt ha (by decide)) (cm_lt hb (by decide)) (fun _ => cE_ma a 3 (by decide) (by decide)) (fun _ => cE_ma b 3 (by decide) (by decide)) 6 rfl (by decide) (Nat.le_refl 6) (Nat.le_refl 6) (wL_14 _ (List.mem_of_getElem? (i := 20) rfl)) (wL_14 _ (List.mem_of_getElem? (i := 21) rfl)) (wL_14 _ (List.mem_of_getElem? (i := 22) rfl)) (wL_14 _ (List.mem_of_getElem? (i := 23) rfl)) (by decide) (by decide) dX1_copyFrom_42 ?_
  refine wd_to (cp_step σ hab _ (c := 3) (by decide) (by decide)) ?_
  refine wd_aload_n hC dX1_copyFrom_45 rfl rfl ?_
  refine gf_X1_21 hC dX1_copyFrom_46 ?_
  refine wd_iconst (v := 0) hC dX1_copyFrom_49 rfl ?_
  refine wd_aload_n hC dX1_copyFrom_50 rfl rfl ?_
  refine gf_X1_21 hC dX1_copyFrom_51 ?_
  refine wd_iconst (v := 0) hC dX1_copyFrom_54 rfl ?_
  refine wd_bipush (v := 6) hC dX1_copyFrom_55 rfl ?_
  refine wd_copy hC (q0 := cm a + 4) (q1 := cm b + 4) (cm_lt ha (by decide)) (cm_lt hb (by decide)) (fun _ => cE_ma a 4 (by decide) (by decide)) (fun _ => cE_ma b 4 (by decide) (by decide)) 6 rfl (by decide) (Nat.le_refl 6) (Nat.le_refl 6) (wL_14 _ (List.mem_of_getElem? (i := 20) rfl)) (wL_14 _ (List.mem_of_getElem? (i := 21) rfl)) (wL_14 _ (List.mem_of_getElem? (i := 22) rfl)) (wL_14 _ (List.mem_of_getElem? (i := 23) rfl)) (by decide) (by decide) dX1_copyFrom_57 ?_
  refine wd_to (cp_step σ hab _ (c := 4) (by decide) (by decide)) ?_
  refine wd_aload_n hC dX1_copyFrom_60 rfl rfl ?_
  refine gf_X1_24 hC dX1_copyFrom_61 ?_
  refine wd_iconst (v := 0) hC dX1_copyFrom_64 rfl ?_
  refine wd_aload_n hC dX1_copyFrom_65 rfl rfl ?_
  refine gf_X1_24 hC dX1_copyFrom_66 ?_
  refine wd_iconst (v := 0) hC dX1_copyFrom_69 rfl ?_
  refine wd_bipush (v := 6) hC dX1_copyFrom_70 rfl ?_
  refine wd_copy hC (q0 := cm a + 5) (q1 := cm b + 5) (cm_lt ha (by decide)) (cm_lt hb (by decide)) (fun _ => cE_ma a 5 (by decide) (by decide)) (fun _ => cE_ma b 5 (by decide) (by decide)) 6 rfl (by decide) (Nat.le_refl 6) (Nat.le_refl 6) (wL_14 _ (List.mem_of_getElem? (i := 20) rfl)) (wL_14 _ (List.mem_of_getElem? (i := 21) rfl)) (wL_14 _ (List.mem_of_getElem? (i := 22) rfl)) (wL_14 _ (List.mem_of_getElem? (i := 23) rfl)) (by decide) (by decide) dX1_copyFrom_72 ?_
  refine wd_to (cp_step σ hab _ (c := 5) (by decide) (by decide)) ?_
  refine wd_aload_n hC dX1_copyFrom_75 rfl rfl ?_
  refine wd_aload_n hC dX1_copyFrom_76 rfl rfl ?_
  refine gf_X1_27 hC dX1_copyFrom_77 ?_
  refine pf_X1_27 hC dX1_copyFrom_80 ?_
  refine wd_ts (stM_up0 _ _ _ _ _) ?_
  refine wd_aload_n hC dX1_copyFrom_83 rfl rfl ?_
  refine wd_aload_n hC dX1_copyFrom_84 rfl rfl ?_
  refine gf_X1_31 hC dX1_copyFrom_85 ?_
  refine pf_X1_31 hC dX1_copyFrom_88 ?_
  refine wd_ts (stM_up0 _ _ _ _ _) ?_
  refine wd_to (cp_fin σ b _ (mv σ a) (by simp only [stM_n0 _ hab]; rfl) (by simp only [stM_n0 _ hab]; rfl) (fun k h1 h2 i _ => ?_)) ?_
  · rcases (show k = 1 ∨ k = 2 ∨ k = 3 ∨ k = 4 ∨ k = 5 by omega) with rfl | rfl | rfl | rfl | rfl <;> rfl
  exact wd_vret hC rfl dX1_copyFrom_91 rfl
/-! ===== begin ===== -/
def oth (y : Int32) : Int32 := if y - y / 2 * 2 = 0 then y + 1 else y - 1
def begV (x y : Int32) : Int32 := if x ≤ y then -9 else if x ≤ oth y then -9 else oth y
def begM (x : Int32) : Nat → Nat → Int32 := fun k i => if k = 2 then begV x (nI i) else 0
def bgI (x : Int32) (M : Nat → Nat → Int32) (n : Nat) : Nat → Nat → Int32 := fun k i => if 1 ≤ k ∧ k < 6 ∧ i < n then begM x k i else M k i
theorem bg_step (σ : wd_S) (j : Nat) (x v : Int32) (M : Nat → Nat → Int32) (i : Nat) (hv : v = begV x (nI i)) : wd_up (wd_up (wd_up (wd_up (wd_up (stM σ j (bgI x M i)) (cm j + 2) i v) (cm j + 1) i 0) (cm j + 3) i 0) (cm j + 4) i 0) (cm j + 5) i 0 = stM σ j (bgI x M (i + 1)) := by
  rw [stM_up _ _ _ (by decide), stM_up _ _ _ (by decide), stM_up _ _ _ (by decide), stM_up _ _ _ (by decide), stM_up _ _ _ (by decide)]
  congr 1
  funext k a
  subst hv
  by_cases ha : a = i
  · subst ha
    by_cases hk : 1 ≤ k ∧ k < 6
    · rcases (show k = 1 ∨ k = 2 ∨ k = 3 ∨ k = 4 ∨ k = 5 by omega) with rfl | rfl | rfl | rfl | rfl <;> simp [u2, bgI, begM]
    · have h1 : ¬ (1 ≤ k ∧ k < 6 ∧ a < a) := fun h => hk ⟨h.1, h.2.1⟩
      have h2 : ¬ (1 ≤ k ∧ k < 6 ∧ a < a + 1) := fun h => hk ⟨h.1, h.2.1⟩
      have e1 : ¬ k = 5 := by omega
      have e2 : ¬ k = 4 := by omega
      have e3 : ¬ k = 3 := by omega
      have e4 : ¬ k = 1 := by omega
      have e5 : ¬ k = 2 := by omega
      simp only [u2, bgI, if_neg h1, if_neg h2, e1, e2, e3, e4, e5, false_and, if_false]
  · have h : (1 ≤ k ∧ k < 6 ∧ a < i) ↔ (1 ≤ k ∧ k < 6 ∧ a < i + 1) := by omega
    simp only [u2, ha, and_false, if_false]
    unfold bgI
    simp only [h]

theorem mz_out {M : Nat → Nat → Int32} {k i : Nat} {v : Int32} (h : ¬ k = 0) : u2 M 0 i v k = M k := funext fun b => if_neg (fun h2 => h h2.1)

set_option maxRecDepth 100000 in
set_option maxHeartbeats 4000000 in
theorem c_begin {V : wd_V} {ad : Nat → Nat} (hinj : wd_inj cS ad) (σ : wd_S) (j : Nat) (hj : j < 14) (x : Int32) : wd_C cS V ad 0 yX1_begin (Cond.code yX1_begin cX1_begin 4 none :: wsL_law) σ [.ref (ad (cm j)), .int x] (wd_eq none (stM σ j (begM x))) := by
  refine wd_intro (lv := [some (.ref (ad (cm j))), some (.int x), none, none]) hinj (by decide) rfl (Nat.le_of_ble_eq_true rfl) rfl (Nat.le_of_ble_eq_true rfl) (fun K hC => ?_)
  have loop : ∀ (k i : Nat) (o : Option Value), i ≤ 6 → 6 < i + k → wd_G cS V ad K 4 (wd_Qm cS V ad K (wd_eq none (stM σ j (begM x)))) 2 [some (.ref (ad (cm j))), some (.int x), some (.int (nI i)), o] [] (stM σ j (bgI x (mv σ j) i)) := by
    intro k
    induction k with
    | zero =>
      intro i o h1 h2 
      exact absurd h2 (by omega)
    | succ k ih =>
      intro i o h1 h2 
      refine wd_iload_n hC dX1_begin_2 rfl rfl ?_
      refine wd_bipush (v := 6) hC dX1_begin_3 rfl ?_
      refine wd_icmp_ge (tgt := 80) hC dX1_begin_5 (by decide) (fun c_5 => ?_) (fun c_5 => ?_)
      · have hin : i = 6 := lp_ge (x := 6) (n := 6) rfl c_5 h1 (by decide)
        subst hin
        refine wd_aload_n hC dX1_begin_80 rfl rfl ?_
        refine wd_iconst (v := 0) hC dX1_begin_81 rfl ?_
        refine pf_X1_27 hC dX1_begin_82 ?_
        refine wd_ts (stM_up0 _ _ _ _ _) ?_
        refine wd_aload_n hC dX1_begin_85 rfl rfl ?_
        refine wd_iconst (v := 0) hC dX1_begin_86 rfl ?_
        refine pf_X1_31 hC dX1_begin_87 ?_
        refine wd_ts (stM_up0 _ _ _ _ _) ?_
        refine wd_to (cp_fin σ j _ (begM x) rfl rfl (fun k h1 h2 i hi => ?_)) ?_
        · rw [mz_out (show ¬ k = 0 by omega), mz_out (show ¬ k = 0 by omega)]
          exact if_pos ⟨h1, h2, hi⟩
        exact wd_vret hC rfl dX1_begin_90 rfl
      · have hin : i < 6 := lp_lt (x := 6) (n := 6) rfl c_5 h1 (by decide)
        refine wd_iload_n hC dX1_begin_8 rfl rfl ?_
        refine wd_iconst (v := 2) hC dX1_begin_9 rfl ?_
        refine wd_irem hC dX1_begin_10 (by decide) ?_
        refine wd_if_ne (tgt := 20) hC dX1_begin_11 (by decide) (fun c_11 => ?_) (fun c_11 => ?_)
        · refine wd_iload_n hC dX1_begin_20 rfl rfl ?_
          refine wd_iconst (v := 1) hC dX1_begin_21 rfl ?_
          refine wd_isub hC dX1_begin_22 ?_
          refine wd_istore_n_4_3 hC dX1_begin_23 ?_
          refine wd_aload_n hC dX1_begin_24 rfl rfl ?_
          refine gf_X1_15 hC dX1_begin_25 ?_
          refine wd_iload_n hC dX1_begin_28 rfl rfl ?_
          refine wd_iload_n hC dX1_begin_29 rfl rfl ?_
          refine wd_iload_n hC dX1_begin_30 rfl rfl ?_
          refine wd_icmp_ge (tgt := 43) hC dX1_begin_31 (by decide) (fun c_31 => ?_) (fun c_31 => ?_)
          · refine wd_bipush (v := -9) hC dX1_begin_43 rfl ?_
            refine st_m hC dX1_begin_45 (i) rfl (by omega) ?_
            refine wd_aload_n hC dX1_begin_46 rfl rfl ?_
            refine gf_X1_9 hC dX1_begin_47 ?_
            refine wd_iload_n hC dX1_begin_50 rfl rfl ?_
            refine wd_iconst (v := 0) hC dX1_begin_51 rfl ?_
            refine st_m hC dX1_begin_52 (i) rfl (by omega) ?_
            refine wd_aload_n hC dX1_begin_53 rfl rfl ?_
            refine gf_X1_18 hC dX1_begin_54 ?_
            refine wd_iload_n hC dX1_begin_57 rfl rfl ?_
            refine wd_iconst (v := 0) hC dX1_begin_58 rfl ?_
            refine st_m hC dX1_begin_59 (i) rfl (by omega) ?_
            refine wd_aload_n hC dX1_begin_60 rfl rfl ?_
            refine gf_X1_21 hC dX1_begin_61 ?_
            refine wd_iload_n hC dX1_begin_64 rfl rfl ?_
            refine wd_iconst (v := 0) hC dX1_begin_65 rfl ?_
            refine st_m hC dX1_begin_66 (i) rfl (by omega) ?_
            refine wd_aload_n hC dX1_begin_67 rfl rfl ?_
            refine gf_X1_24 hC dX1_begin_68 ?_
            refine wd_iload_n hC dX1_begin_71 rfl rfl ?_
            refine wd_iconst (v := 0) hC dX1_begin_72 rfl ?_
            refine st_m hC dX1_begin_73 (i) rfl (by omega) ?_
            refine wd_iincN_4_2 hC dX1_begin_74 ?_
            refine wd_goto (tgt := 2) hC dX1_begin_77 (by decide) ?_
            exact wd_ts (bg_step σ j x _ (mv σ j) i (by unfold begV oth; first | (rw [if_pos c_31]; done) | (rw [if_neg c_31, if_pos c_11]; first | (rw [if_pos c_36]; done) | (rw [if_neg c_36]; done)) | (rw [if_neg c_31, if_neg c_11]; first | (rw [if_pos c_36]; done) | (rw [if_neg c_36]; done)))) (ih (i + 1) _ (by omega) (by omega))
          · refine wd_iload_n hC dX1_begin_34 rfl rfl ?_
            refine wd_iload_n hC dX1_begin_35 rfl rfl ?_
            refine wd_icmp_ge (tgt := 43) hC dX1_begin_36 (by decide) (fun c_36 => ?_) (fun c_36 => ?_)
            · refine wd_bipush (v := -9) hC dX1_begin_43 rfl ?_
              refine st_m hC dX1_begin_45 (i) rfl (by omega) ?_
              refine wd_aload_n hC dX1_begin_46 rfl rfl ?_
              refine gf_X1_9 hC dX1_begin_47 ?_
              refine wd_iload_n hC dX1_begin_50 rfl rfl ?_
              refine wd_iconst (v := 0) hC dX1_begin_51 rfl ?_
              refine st_m hC dX1_begin_52 (i) rfl (by omega) ?_
              refine wd_aload_n hC dX1_begin_53 rfl rfl ?_
              refine gf_X1_18 hC dX1_begin_54 ?_
              refine wd_iload_n hC dX1_begin_57 rfl rfl ?_
              refine wd_iconst (v := 0) hC dX1_begin_58 rfl ?_
              refine st_m hC dX1_begin_59 (i) rfl (by omega) ?_
              refine wd_aload_n hC dX1_begin_60 rfl rfl ?_
              refine gf_X1_21 hC dX1_begin_61 ?_
              refine wd_iload_n hC dX1_begin_64 rfl rfl ?_
              refine wd_iconst (v := 0) hC dX1_begin_65 rfl ?_
              refine st_m hC dX1_begin_66 (i) rfl (by omega) ?_
              refine wd_aload_n hC dX1_begin_67 rfl rfl ?_
              refine gf_X1_24 hC dX1_begin_68 ?_
              refine wd_iload_n hC dX1_begin_71 rfl rfl ?_
              refine wd_iconst (v := 0) hC dX1_begin_72 rfl ?_
              refine st_m hC dX1_begin_73 (i) rfl (by omega) ?_
              refine wd_iincN_4_2 hC dX1_begin_74 ?_
              refine wd_goto (tgt := 2) hC dX1_begin_77 (by decide) ?_
              exact wd_ts (bg_step σ j x _ (mv σ j) i (by unfold begV oth; first | (rw [if_pos c_31]; done) | (rw [if_neg c_31, if_pos c_11]; first | (rw [if_pos c_36]; done) | (rw [if_neg c_36]; done)) | (rw [if_neg c_31, if_neg c_11]; first | (rw [if_pos c_36]; done) | (rw [if_neg c_36]; done)))) (ih (i + 1) _ (by omega) (by omega))
            · refine wd_iload_n hC dX1_begin_39 rfl rfl ?_
              refine wd_goto (tgt := 45) hC dX1_begin_40 (by decide) ?_
              refine st_m hC dX1_begin_45 (i) rfl (by omega) ?_
              refine wd_aload_n hC dX1_begin_46 rfl rfl ?_
              refine gf_X1_9 hC dX1_begin_47 ?_
              refine wd_iload_n hC dX1_begin_50 rfl rfl ?_
              refine wd_iconst (v := 0) hC dX1_begin_51 rfl ?_
              refine st_m hC dX1_begin_52 (i) rfl (by omega) ?_
              refine wd_aload_n hC dX1_begin_53 rfl rfl ?_
              refine gf_X1_18 hC dX1_begin_54 ?_
              refine wd_iload_n hC dX1_begin_57 rfl rfl ?_
              refine wd_iconst (v := 0) hC dX1_begin_58 rfl ?_
              refine st_m hC dX1_begin_59 (i) rfl (by omega) ?_
              refine wd_aload_n hC dX1_begin_60 rfl rfl ?_
              refine gf_X1_21 hC dX1_begin_61 ?_
              refine wd_iload_n hC dX1_begin_64 rfl rfl ?_
              refine wd_iconst (v := 0) hC dX1_begin_65 rfl ?_
              refine st_m hC dX1_begin_66 (i) rfl (by omega) ?_
              refine wd_aload_n hC dX1_begin_67 rfl rfl ?_
              refine gf_X1_24 hC dX1_begin_68 ?_
              refine wd_iload_n hC dX1_begin_71 rfl rfl ?_
              refine wd_iconst (v := 0) hC dX1_begin_72 rfl ?_
              refine st_m hC dX1_begin_73 (i) rfl (by omega) ?_
              refine wd_iincN_4_2 hC dX1_begin_74 ?_
              refine wd_goto (tgt := 2) hC dX1_begin_77 (by decide) ?_
              exact wd_ts (bg_step σ j x _ (mv σ j) i (by unfold begV oth; first | (rw [if_pos c_31]; done) | (rw [if_neg c_31, if_pos c_11]; first | (rw [if_pos c_36]; done) | (rw [if_neg c_36]; done)) | (rw [if_neg c_31, if_neg c_11]; first | (rw [if_pos c_36]; done) | (rw [if_neg c_36]; done)))) (ih (i + 1) _ (by omega) (by omega))
        · refine wd_iload_n hC dX1_begin_14 rfl rfl ?_
          refine wd_iconst (v := 1) hC dX1_begin_15 rfl ?_
          refine wd_iadd hC dX1_begin_16 ?_
          refine wd_goto (tgt := 23) hC dX1_begin_17 (by decide) ?_
          refine wd_istore_n_4_3 hC dX1_begin_23 ?_
          refine wd_aload_n hC dX1_begin_24 rfl rfl ?_
          refine gf_X1_15 hC dX1_begin_25 ?_
          refine wd_iload_n hC dX1_begin_28 rfl rfl ?_
          refine wd_iload_n hC dX1_begin_29 rfl rfl ?_
          refine wd_iload_n hC dX1_begin_30 rfl rfl ?_
          refine wd_icmp_ge (tgt := 43) hC dX1_begin_31 (by decide) (fun c_31 => ?_) (fun c_31 => ?_)
          · refine wd_bipush (v := -9) hC dX1_begin_43 rfl ?_
            refine st_m hC dX1_begin_45 (i) rfl (by omega) ?_
            refine wd_aload_n hC dX1_begin_46 rfl rfl ?_
            refine gf_X1_9 hC dX1_begin_47 ?_
            refine wd_iload_n hC dX1_begin_50 rfl rfl ?_
            refine wd_iconst (v := 0) hC dX1_begin_51 rfl ?_
            refine st_m hC dX1_begin_52 (i) rfl (by omega) ?_
            refine wd_aload_n hC dX1_begin_53 rfl rfl ?_
            refine gf_X1_18 hC dX1_begin_54 ?_
            refine wd_iload_n hC dX1_begin_57 rfl rfl ?_
            refine wd_iconst (v := 0) hC dX1_begin_58 rfl ?_
            refine st_m hC dX1_begin_59 (i) rfl (by omega) ?_
            refine wd_aload_n hC dX1_begin_60 rfl rfl ?_
            refine gf_X1_21 hC dX1_begin_61 ?_
            refine wd_iload_n hC dX1_begin_64 rfl rfl ?_
            refine wd_iconst (v := 0) hC dX1_begin_65 rfl ?_
            refine st_m hC dX1_begin_66 (i) rfl (by omega) ?_
            refine wd_aload_n hC dX1_begin_67 rfl rfl ?_
            refine gf_X1_24 hC dX1_begin_68 ?_
            refine wd_iload_n hC dX1_begin_71 rfl rfl ?_
            refine wd_iconst (v := 0) hC dX1_begin_72 rfl ?_
            refine st_m hC dX1_begin_73 (i) rfl (by omega) ?_
            refine wd_iincN_4_2 hC dX1_begin_74 ?_
            refine wd_goto (tgt := 2) hC dX1_begin_77 (by decide) ?_
            exact wd_ts (bg_step σ j x _ (mv σ j) i (by unfold begV oth; first | (rw [if_pos c_31]; done) | (rw [if_neg c_31, if_pos c_11]; first | (rw [if_pos c_36]; done) | (rw [if_neg c_36]; done)) | (rw [if_neg c_31, if_neg c_11]; first | (rw [if_pos c_36]; done) | (rw [if_neg c_36]; done)))) (ih (i + 1) _ (by omega) (by omega))
          · refine wd_iload_n hC dX1_begin_34 rfl rfl ?_
            refine wd_iload_n hC dX1_begin_35 rfl rfl ?_
            refine wd_icmp_ge (tgt := 43) hC dX1_begin_36 (by decide) (fun c_36 => ?_) (fun c_36 => ?_)
            · refine wd_bipush (v := -9) hC dX1_begin_43 rfl ?_
              refine st_m hC dX1_begin_45 (i) rfl (by omega) ?_
              refine wd_aload_n hC dX1_begin_46 rfl rfl ?_
              refine gf_X1_9 hC dX1_begin_47 ?_
              refine wd_iload_n hC dX1_begin_50 rfl rfl ?_
              refine wd_iconst (v := 0) hC dX1_begin_51 rfl ?_
              refine st_m hC dX1_begin_52 (i) rfl (by omega) ?_
              refine wd_aload_n hC dX1_begin_53 rfl rfl ?_
              refine gf_X1_18 hC dX1_begin_54 ?_
              refine wd_iload_n hC dX1_begin_57 rfl rfl ?_
              refine wd_iconst (v := 0) hC dX1_begin_58 rfl ?_
              refine st_m hC dX1_begin_59 (i) rfl (by omega) ?_
              refine wd_aload_n hC dX1_begin_60 rfl rfl ?_
              refine gf_X1_21 hC dX1_begin_61 ?_
              refine wd_iload_n hC dX1_begin_64 rfl rfl ?_
              refine wd_iconst (v := 0) hC dX1_begin_65 rfl ?_
              refine st_m hC dX1_begin_66 (i) rfl (by omega) ?_
              refine wd_aload_n hC dX1_begin_67 rfl rfl ?_
              refine gf_X1_24 hC dX1_begin_68 ?_
              refine wd_iload_n hC dX1_begin_71 rfl rfl ?_
              refine wd_iconst (v := 0) hC dX1_begin_72 rfl ?_
              refine st_m hC dX1_begin_73 (i) rfl (by omega) ?_
              refine wd_iincN_4_2 hC dX1_begin_74 ?_
              refine wd_goto (tgt := 2) hC dX1_begin_77 (by decide) ?_
              exact wd_ts (bg_step σ j x _ (mv σ j) i (by unfold begV oth; first | (rw [if_pos c_31]; done) | (rw [if_neg c_31, if_pos c_11]; first | (rw [if_pos c_36]; done) | (rw [if_neg c_36]; done)) | (rw [if_neg c_31, if_neg c_11]; first | (rw [if_pos c_36]; done) | (rw [if_neg c_36]; done)))) (ih (i + 1) _ (by omega) (by omega))
            · refine wd_iload_n hC dX1_begin_39 rfl rfl ?_
              refine wd_goto (tgt := 45) hC dX1_begin_40 (by decide) ?_
              refine st_m hC dX1_begin_45 (i) rfl (by omega) ?_
              refine wd_aload_n hC dX1_begin_46 rfl rfl ?_
              refine gf_X1_9 hC dX1_begin_47 ?_
              refine wd_iload_n hC dX1_begin_50 rfl rfl ?_
              refine wd_iconst (v := 0) hC dX1_begin_51 rfl ?_
              refine st_m hC dX1_begin_52 (i) rfl (by omega) ?_
              refine wd_aload_n hC dX1_begin_53 rfl rfl ?_
              refine gf_X1_18 hC dX1_begin_54 ?_
              refine wd_iload_n hC dX1_begin_57 rfl rfl ?_
              refine wd_iconst (v := 0) hC dX1_begin_58 rfl ?_
              refine st_m hC dX1_begin_59 (i) rfl (by omega) ?_
              refine wd_aload_n hC dX1_begin_60 rfl rfl ?_
              refine gf_X1_21 hC dX1_begin_61 ?_
              refine wd_iload_n hC dX1_begin_64 rfl rfl ?_
              refine wd_iconst (v := 0) hC dX1_begin_65 rfl ?_
              refine st_m hC dX1_begin_66 (i) rfl (by omega) ?_
              refine wd_aload_n hC dX1_begin_67 rfl rfl ?_
              refine gf_X1_24 hC dX1_begin_68 ?_
              refine wd_iload_n hC dX1_begin_71 rfl rfl ?_
              refine wd_iconst (v := 0) hC dX1_begin_72 rfl ?_
              refine st_m hC dX1_begin_73 (i) rfl (by omega) ?_
              refine wd_iincN_4_2 hC dX1_begin_74 ?_
              refine wd_goto (tgt := 2) hC dX1_begin_77 (by decide) ?_
              exact wd_ts (bg_step σ j x _ (mv σ j) i (by unfold begV oth; first | (rw [if_pos c_31]; done) | (rw [if_neg c_31, if_pos c_11]; first | (rw [if_pos c_36]; done) | (rw [if_neg c_36]; done)) | (rw [if_neg c_31, if_neg c_11]; first | (rw [if_pos c_36]; done) | (rw [if_neg c_36]; done)))) (ih (i + 1) _ (by omega) (by omega))
  refine wd_ts (show σ = stM σ j (bgI x (mv σ j) 0) from (by rw [show bgI x (mv σ j) 0 = mv σ j from (funext fun k => funext fun i => if_neg (by omega)), stM_self])) ?_
  refine wd_iconst (v := 0) hC dX1_begin_0 rfl ?_
  refine wd_istore_n_4_2 hC dX1_begin_1 ?_
  exact loop 7 0 _ (by decide) (by decide)
/-! ===== the log ===== -/
abbrev lNext (σ : wd_S) : Int32 := σ.1 3 1
abbrev lHeld (σ : wd_S) : Int32 := σ.1 3 2
def lOk (σ : wd_S) : Prop := 0 ≤ lNext σ ∧ lNext σ < nI 10
theorem lOk.n {σ : wd_S} (h : lOk σ) : lNext σ = nI (lNext σ).toNatClampNeg := (ix_of h.1 h.2 (by decide)).1
theorem lOk.n10 {σ : wd_S} (h : lOk σ) : (lNext σ).toNatClampNeg < 10 := (ix_of h.1 h.2 (by decide)).2
def lgAdd (σ : wd_S) : wd_S := wd_up (wd_up (stM σ (4 + (lNext σ).toNatClampNeg) (mv σ 0)) 3 1 (lNext σ + 1 - (lNext σ + 1) / 10 * 10)) 3 2 (imin (lHeld σ + 1) 10)
abbrev lPrev (σ : wd_S) : Int32 := lNext σ + 10 - 1 - (lNext σ + 10 - 1) / 10 * 10
def lgTake (σ : wd_S) : wd_S := stM (wd_up (wd_up σ 3 1 (lPrev σ)) 3 2 (lHeld σ - 1)) 0 (mv σ (4 + (lPrev σ).toNatClampNeg))
theorem wd_up_o {τ : wd_S} {k i a b : Nat} {v : Int32} (h : ¬ (a = k ∧ b = i)) : (wd_up τ k i v).1 a b = τ.1 a b := if_neg h
theorem mv_up_lo (σ : wd_S) (j : Nat) {k : Nat} (hk : k < 36) (i : Nat) (v : Int32) : mv (wd_up σ k i v) j = mv σ j := by
  funext c b
  unfold mv
  by_cases h : c < 6
  · rw [if_pos h, if_pos h, wd_up_n _ _ _ _ (by unfold cm; omega)]
  · rw [if_neg h, if_neg h]
theorem lPrev_ok {σ : wd_S} (h : lOk σ) : lPrev σ = nI (lPrev σ).toNatClampNeg ∧ (lPrev σ).toNatClampNeg < 10 := by
  obtain ⟨n, hn, e⟩ : ∃ n, n < 10 ∧ lNext σ = nI n := ⟨_, h.n10, h.n⟩
  have e2 : lPrev σ = nI ((n + 9) % 10) := by
    unfold lPrev
    rw [e, show (10 : Int32) = nI 10 from rfl, show (1 : Int32) = nI 1 from rfl, nI_add, pk_sub (by omega), pk_rem (by omega) (by decide) (by decide)]
    rfl
  rw [e2, nI_clamp (by omega)]
  exact ⟨rfl, by omega⟩

set_option maxRecDepth 100000 in
set_option maxHeartbeats 4000000 in
theorem c_add {V : wd_V} {ad : Nat → Nat} (hinj : wd_inj cS ad) (σ : wd_S) (hL : lOk σ) : wd_C cS V ad 2 yX0_add (Cond.code yX0_add cX0_add 2 none :: wsL_law) σ [.ref (ad 3), .ref (ad (cm 0))] (wd_eq none (lgAdd σ)) := by
  refine wd_intro (lv := [some (.ref (ad 3)), some (.ref (ad (cm 0)))]) hinj (by decide) rfl (Nat.le_of_ble_eq_true rfl) rfl (Nat.le_of_ble_eq_true rfl) (fun K hC => ?_)
  refine wd_aload_n hC dX0_add_0 rfl rfl ?_
  refine gf_X0_11 hC dX0_add_1 ?_
  refine wd_aload_n hC dX0_add_4 rfl rfl ?_
  refine gf_X0_18 hC dX0_add_5 ?_
  refine ld_g hC dX0_add_8 ((lNext σ).toNatClampNeg) hL.n hL.n10 ?_
  refine wd_aload_n hC dX0_add_9 rfl rfl ?_
  have h10 := hL.n10
  refine cv1v hC cw_X0_22 (c_copyFrom hinj _ 0 (4 + (lNext σ).toNatClampNeg) (by decide) (by omega) (by omega)) dX0_add_10 (by first | decide | omega) (by decide) rfl rfl (Nat.le_of_ble_eq_true rfl) ?_
  refine wd_aload_n hC dX0_add_13 rfl rfl ?_
  refine wd_aload_n hC dX0_add_14 rfl rfl ?_
  refine gf_X0_18 hC dX0_add_15 ?_
  refine wd_iconst (v := 1) hC dX0_add_18 rfl ?_
  refine wd_iadd hC dX0_add_19 ?_
  refine wd_bipush (v := 10) hC dX0_add_20 rfl ?_
  refine wd_irem hC dX0_add_22 (by decide) ?_
  refine pf_X0_18 hC dX0_add_23 ?_
  refine wd_aload_n hC dX0_add_26 rfl rfl ?_
  refine wd_aload_n hC dX0_add_27 rfl rfl ?_
  refine gf_X0_26 hC dX0_add_28 ?_
  refine wd_iconst (v := 1) hC dX0_add_31 rfl ?_
  refine wd_iadd hC dX0_add_32 ?_
  refine wd_bipush (v := 10) hC dX0_add_33 rfl ?_
  refine wd_mmin hC (wL_16 _ (List.mem_of_getElem? (i := 17) rfl)) (wL_7 _ (List.mem_of_getElem? (i := 0) rfl)) (wL_7 _ (List.mem_of_getElem? (i := 1) rfl)) (wL_7 _ (List.mem_of_getElem? (i := 2) rfl)) (by decide) (Nat.le_of_ble_eq_true rfl) dX0_add_35 ?_
  refine pf_X0_26 hC dX0_add_38 ?_
  exact wd_vret hC rfl dX0_add_41 (by simp only [wd_up_o (show ¬ (3 = 3 ∧ 2 = 1) by decide), stM_lo _ _ _ (show 3 < 36 by decide)]; rfl)
set_option maxRecDepth 100000 in
set_option maxHeartbeats 4000000 in
theorem c_takeLatest {V : wd_V} {ad : Nat → Nat} (hinj : wd_inj cS ad) (σ : wd_S) (hL : lOk σ) (hh : ¬ lHeld σ = 0) : wd_C cS V ad 2 yX0_takeLatest (Cond.code yX0_takeLatest cX0_takeLatest 2 none :: wsL_law) σ [.ref (ad 3), .ref (ad (cm 0))] (wd_eq none (lgTake σ)) := by
  refine wd_intro (lv := [some (.ref (ad 3)), some (.ref (ad (cm 0)))]) hinj (by decide) rfl (Nat.le_of_ble_eq_true rfl) rfl (Nat.le_of_ble_eq_true rfl) (fun K hC => ?_)
  refine wd_aload_n hC dX0_takeLatest_0 rfl rfl ?_
  refine gf_X0_26 hC dX0_takeLatest_1 ?_
  refine wd_if_ne (tgt := 8) hC dX0_takeLatest_4 (by decide) (fun c_4 => ?_) (fun c_4 => absurd c_4 hh)
  refine wd_aload_n hC dX0_takeLatest_8 rfl rfl ?_
  refine wd_aload_n hC dX0_takeLatest_9 rfl rfl ?_
  refine gf_X0_18 hC dX0_takeLatest_10 ?_
  refine wd_bipush (v := 10) hC dX0_takeLatest_13 rfl ?_
  refine wd_iadd hC dX0_takeLatest_15 ?_
  refine wd_iconst (v := 1) hC dX0_takeLatest_16 rfl ?_
  refine wd_isub hC dX0_takeLatest_17 ?_
  refine wd_bipush (v := 10) hC dX0_takeLatest_18 rfl ?_
  refine wd_irem hC dX0_takeLatest_20 (by decide) ?_
  refine pf_X0_18 hC dX0_takeLatest_21 ?_
  refine wd_aload_n hC dX0_takeLatest_24 rfl rfl ?_
  refine wd_dup hC dX0_takeLatest_25 rfl ?_
  refine gf_X0_26 hC dX0_takeLatest_26 ?_
  refine wd_iconst (v := 1) hC dX0_takeLatest_29 rfl ?_
  refine wd_isub hC dX0_takeLatest_30 ?_
  refine pf_X0_26 hC dX0_takeLatest_31 ?_
  refine wd_aload_n hC dX0_takeLatest_34 rfl rfl ?_
  refine wd_aload_n hC dX0_takeLatest_35 rfl rfl ?_
  refine gf_X0_11 hC dX0_takeLatest_36 ?_
  refine wd_aload_n hC dX0_takeLatest_39 rfl rfl ?_
  refine gf_X0_18 hC dX0_takeLatest_40 ?_
  refine ld_g hC dX0_takeLatest_43 ((lPrev σ).toNatClampNeg) (lPrev_ok hL).1 (lPrev_ok hL).2 ?_
  have h10 := (lPrev_ok hL).2
  refine cv1v hC cw_X0_22 (c_copyFrom hinj _ (4 + (lPrev σ).toNatClampNeg) 0 (by omega) (by decide) (by omega)) dX0_takeLatest_44 (by first | decide | omega) (by decide) rfl rfl (Nat.le_of_ble_eq_true rfl) ?_
  exact wd_vret hC rfl dX0_takeLatest_47 (by rw [mv_up_lo _ _ (by decide), mv_up_lo _ _ (by decide)]; rfl)

/-! ===== the class: who faces whom ===== -/
theorem stM_in (σ : wd_S) (j : Nat) (M : Nat → Nat → Int32) {k : Nat} (h : cm j ≤ k ∧ k < cm j + 6) : (stM σ j M).1 k = M (k - cm j) := if_pos h
abbrev fB : Type := Int32 × Int32 × (Nat → Int32)
/-- what is best so far: found, how much, whom each faces -/
def stB (σ : wd_S) (B : fB) : wd_S := (fun k i => if k = 9 then B.2.2 i else if k = 0 ∧ i = 12 then B.2.1 else if k = 0 ∧ i = 13 then B.1 else σ.1 k i, σ.2)
theorem stB_self (σ : wd_S) : stB σ (σ.1 0 13, σ.1 0 12, σ.1 9) = σ := by
  refine wd_ext (fun k => funext fun i => ?_) rfl
  show (if k = 9 then σ.1 9 i else if k = 0 ∧ i = 12 then σ.1 0 12 else if k = 0 ∧ i = 13 then σ.1 0 13 else σ.1 k i) = σ.1 k i
  by_cases h1 : k = 9
  · rw [if_pos h1, h1]
  · rw [if_neg h1]
    by_cases h2 : k = 0 ∧ i = 12
    · rw [if_pos h2, h2.1, h2.2]
    · rw [if_neg h2]
      by_cases h3 : k = 0 ∧ i = 13
      · rw [if_pos h3, h3.1, h3.2]
      · rw [if_neg h3]
theorem stB_hi (σ : wd_S) (B : fB) {k : Nat} (h : 10 ≤ k) : (stB σ B).1 k = σ.1 k := by
  funext i
  show (if k = 9 then _ else if k = 0 ∧ i = 12 then _ else if k = 0 ∧ i = 13 then _ else σ.1 k i) = _
  rw [if_neg (by omega), if_neg (by omega), if_neg (by omega)]
theorem tv_stB (σ : wd_S) (B : fB) : tv (stB σ B) = tv σ := by
  funext k i
  unfold tv
  by_cases h : k < 13
  · rw [if_pos h, if_pos h]
    show (stB σ B).1 (ct σ.2.2 + k) i = _
    rw [stB_hi _ _ (by unfold ct; omega)]
  · rw [if_neg h, if_neg h]
theorem mv_stB (σ : wd_S) (B : fB) (j : Nat) : mv (stB σ B) j = mv σ j := by
  funext k
  by_cases h : k < 6
  · rw [mv_at _ _ h, mv_at _ _ h, stB_hi _ _ (by unfold cm; omega)]
  · rw [mv_hi _ _ h, mv_hi _ _ h]
/-- the whole scratch: the trial and what is best so far -/
def stW (σ : wd_S) (B : fB) (M : Nat → Nat → Int32) : wd_S := stM (stB σ B) 1 M
theorem stW_13 (σ : wd_S) (B : fB) (M : Nat → Nat → Int32) : (stW σ B M).1 0 13 = B.1 := by
  unfold stW
  rw [stM_lo _ _ _ (by decide)]
  rfl
theorem stW_12 (σ : wd_S) (B : fB) (M : Nat → Nat → Int32) : (stW σ B M).1 0 12 = B.2.1 := by
  unfold stW
  rw [stM_lo _ _ _ (by decide)]
  rfl
theorem stW_9 (σ : wd_S) (B : fB) (M : Nat → Nat → Int32) : (stW σ B M).1 9 = B.2.2 := by
  unfold stW
  rw [stM_lo _ _ _ (by decide)]
  rfl
theorem stW_u13 (σ : wd_S) (B : fB) (M : Nat → Nat → Int32) (v : Int32) : wd_up (stW σ B M) 0 13 v = stW σ (v, B.2) M := by
  refine wd_ext (fun k => funext fun i => ?_) rfl
  unfold stW
  by_cases h : k < 36
  · rw [stM_lo _ _ _ h]
    show (if k = 0 ∧ i = 13 then v else (stM (stB σ B) 1 M).1 k i) = _
    rw [stM_lo _ _ _ h]
    show (if k = 0 ∧ i = 13 then v else if k = 9 then B.2.2 i else if k = 0 ∧ i = 12 then B.2.1 else if k = 0 ∧ i = 13 then B.1 else σ.1 k i) = (if k = 9 then B.2.2 i else if k = 0 ∧ i = 12 then B.2.1 else if k = 0 ∧ i = 13 then v else σ.1 k i)
    by_cases h1 : k = 0 ∧ i = 13
    · rw [if_pos h1, if_neg (by omega), if_neg (by omega), if_pos h1]
    · simp only [if_neg h1]
  · rw [wd_up_n _ _ _ _ (by omega)]
    by_cases hh : cm 1 ≤ k ∧ k < cm 1 + 6
    · rw [stM_in _ _ _ hh, stM_in _ _ _ hh]
    · rw [stM_out _ _ _ hh, stM_out _ _ _ hh, stB_hi _ _ (by omega), stB_hi _ _ (by omega)]
theorem stW_u12 (σ : wd_S) (B : fB) (M : Nat → Nat → Int32) (v : Int32) : wd_up (stW σ B M) 0 12 v = stW σ (B.1, v, B.2.2) M := by
  refine wd_ext (fun k => funext fun i => ?_) rfl
  unfold stW
  by_cases h : k < 36
  · rw [stM_lo _ _ _ h]
    show (if k = 0 ∧ i = 12 then v else (stM (stB σ B) 1 M).1 k i) = _
    rw [stM_lo _ _ _ h]
    show (if k = 0 ∧ i = 12 then v else if k = 9 then B.2.2 i else if k = 0 ∧ i = 12 then B.2.1 else if k = 0 ∧ i = 13 then B.1 else σ.1 k i) = (if k = 9 then B.2.2 i else if k = 0 ∧ i = 12 then v else if k = 0 ∧ i = 13 then B.1 else σ.1 k i)
    by_cases h1 : k = 0 ∧ i = 12
    · rw [if_pos h1, if_neg (by omega), if_pos h1]
    · simp only [if_neg h1]
  · rw [wd_up_n _ _ _ _ (by omega)]
    by_cases hh : cm 1 ≤ k ∧ k < cm 1 + 6
    · rw [stM_in _ _ _ hh, stM_in _ _ _ hh]
    · rw [stM_out _ _ _ hh, stM_out _ _ _ hh, stB_hi _ _ (by omega), stB_hi _ _ (by omega)]
theorem stW_cp (σ : wd_S) (B : fB) (M : Nat → Nat → Int32) (n : Nat) : wd_cp (stW σ B M) (cm 1 + 2) 9 n = stW σ (B.1, B.2.1, fun i => if i < n then M 2 i else B.2.2 i) M := by
  refine wd_ext (fun k => funext fun i => ?_) rfl
  by_cases h : k = 9
  · subst h
    rw [stW_9]
    show (if 9 = 9 ∧ i < n then (stW σ B M).1 (cm 1 + 2) i else (stW σ B M).1 9 i) = (if i < n then M 2 i else B.2.2 i)
    rw [stW_9]
    unfold stW
    rw [stM_at _ _ _ (by decide)]
    by_cases hi : i < n
    · rw [if_pos ⟨rfl, hi⟩, if_pos hi]
    · rw [if_neg (fun h => hi h.2), if_neg hi]
  · rw [wd_cp_n _ _ _ _ h]
    unfold stW
    by_cases hh : cm 1 ≤ k ∧ k < cm 1 + 6
    · rw [stM_in _ _ _ hh, stM_in _ _ _ hh]
    · rw [stM_out _ _ _ hh, stM_out _ _ _ hh]
      show (if k = 9 then _ else _) = (if k = 9 then _ else _)
      rw [if_neg h, if_neg h]
theorem stW_c (σ : wd_S) (B : fB) (M : Nat → Nat → Int32) {c : Nat} (hc : c < 6) {i : Nat} : (stW σ B M).1 (cm 1 + c) i = M c i := stM_c _ _ _ hc
theorem stW_up (σ : wd_S) (B : fB) (M : Nat → Nat → Int32) {c : Nat} (hc : c < 6) (i : Nat) (v : Int32) : wd_up (stW σ B M) (cm 1 + c) i v = stW σ B (u2 M c i v) := stM_up _ _ _ hc i v
theorem men_W {σ : wd_S} {B : fB} {M : Nat → Nat → Int32} (ht : σ.2.2 < 2) (hT : tOk (tv σ)) : (stW σ B M).1 (ct σ.2.2) 3 = nI (nMen (tv σ)) := by
  unfold stW
  rw [stM_lo _ _ _ (by unfold ct; omega), stB_hi _ _ (by unfold ct; omega)]
  exact hT.m
theorem c_gainW {V : wd_V} {ad : Nat → Nat} (hinj : wd_inj cS ad) (σ : wd_S) (ht : σ.2.2 < 2) (B : fB) (M : Nat → Nat → Int32) (hz : mz M) (hM : mOk M) (x : Int32) (m : Nat) (hx : x = nI m) (hm : m < 6) : wd_C cS V ad 3 yX4_gainOf (Cond.code yX4_gainOf cX4_gainOf 3 (some .int) :: wsL_law) (stW σ B M) [.ref (ad 0), .ref (ad (cm 1)), .int x] (wd_eq (some (.int (wGain (tv σ) M m))) (stW σ B M)) := by
  have h := c_gainV (V := V) hinj (stB σ B) ht 1 (by decide) M hz hM x m hx hm
  rw [tv_stB] at h
  exact h
/-- the first man for whom nothing is chosen -/
def fuL (M : Nat → Nat → Int32) : Nat → Nat → Int32
  | 0, _ => -9
  | k + 1, i => if M 2 i = -10 then nI i else fuL M k (i + 1)
def fuV (T M : Nat → Nat → Int32) : Int32 := fuL M (nMen T) 0
theorem fuL_s (M : Nat → Nat → Int32) {n i : Nat} (h : i < n) : fuL M (n - i) i = if M 2 i = -10 then nI i else fuL M (n - (i + 1)) (i + 1) := by
  rw [show n - i = (n - (i + 1)) + 1 by omega]
  rfl
def leastM (T M : Nat → Nat → Int32) : Int32 := itr (fun m a => imin a (wGain T M (m + 1))) (wGain T M 0) (nMen T - 1)
def weighB (T M : Nat → Nat → Int32) (B : fB) : fB := if B.1 = 0 then (1, leastM T M, fun i => if i < nMen T then M 2 i else B.2.2 i) else if leastM T M ≤ B.2.1 then B else (1, leastM T M, fun i => if i < nMen T then M 2 i else B.2.2 i)

set_option maxRecDepth 100000 in
set_option maxHeartbeats 4000000 in
theorem c_firstUnchosen {V : wd_V} {ad : Nat → Nat} (hinj : wd_inj cS ad) (σ : wd_S) (ht : σ.2.2 < 2) (hT : tOk (tv σ)) (B : fB) (M : Nat → Nat → Int32) (hz : mz M) (hM : mOk M)  : wd_C cS V ad 0 yX4_firstUnchosen (Cond.code yX4_firstUnchosen cX4_firstUnchosen 2 (some .int) :: wsL_law) (stW σ B M) [.ref (ad 0)] (wd_eq (some (.int (fuV (tv σ) M))) (stW σ B M)) := by
  refine wd_intro (lv := [some (.ref (ad 0)), none]) hinj (by decide) rfl (Nat.le_of_ble_eq_true rfl) rfl (Nat.le_of_ble_eq_true rfl) (fun K hC => ?_)
  have h6 := hT.m6
  have h3 := hT.c3
  have loop : ∀ (k i : Nat), i ≤ (nMen (tv σ)) → (nMen (tv σ)) < i + k → fuL M (nMen (tv σ) - i) i = fuV (tv σ) M → wd_G cS V ad K 2 (wd_Qm cS V ad K (wd_eq (some (.int (fuV (tv σ) M))) (stW σ B M))) 2 [some (.ref (ad 0)), some (.int (nI i))] [] (stW σ B M) := by
    intro k
    induction k with
    | zero =>
      intro i  h1 h2 hst
      exact absurd h2 (by omega)
    | succ k ih =>
      intro i  h1 h2 hst
      refine wd_iload_n hC dX4_firstUnchosen_2 rfl rfl ?_
      refine wd_aload_n hC dX4_firstUnchosen_3 rfl rfl ?_
      refine gf_X4_19 hC dX4_firstUnchosen_4 ?_
      refine gf_X4_76 hC dX4_firstUnchosen_7 ?_
      refine wd_icmp_ge (tgt := 35) hC dX4_firstUnchosen_10 (by decide) (fun c_10 => ?_) (fun c_10 => ?_)
      · have hin : i = _ := lp_ge (men_W ht hT) c_10 h1 (by omega)
        subst hin
        replace hst : -9 = fuV (tv σ) M := by rw [← hst, Nat.sub_self]; rfl
        refine wd_bipush (v := -9) hC dX4_firstUnchosen_35 rfl ?_
        exact wd_iret hC rfl dX4_firstUnchosen_37 hst rfl
      · have hin : i < _ := lp_lt (men_W ht hT) c_10 h1 (by omega)
        rw [fuL_s _ hin] at hst
        refine wd_aload_n hC dX4_firstUnchosen_13 rfl rfl ?_
        refine gf_X4_33 hC dX4_firstUnchosen_14 ?_
        refine gf_X4_101 hC dX4_firstUnchosen_17 ?_
        refine wd_iload_n hC dX4_firstUnchosen_20 rfl rfl ?_
        refine ld_m hC dX4_firstUnchosen_21 (i) rfl (by omega) ?_
        refine wd_vi (stW_c _ _ _ (by decide)) ?_
        refine wd_bipush (v := -10) hC dX4_firstUnchosen_22 rfl ?_
        refine wd_icmp_ne (tgt := 29) hC dX4_firstUnchosen_24 (by decide) (fun c_24 => ?_) (fun c_24 => ?_)
        · replace hst := (if_neg c_24).symm.trans hst
          refine wd_iincN_2_1 hC dX4_firstUnchosen_29 ?_
          refine wd_goto (tgt := 2) hC dX4_firstUnchosen_32 (by decide) ?_
          exact ih (i + 1) (by omega) (by omega) hst
        · replace hst := (if_pos c_24).symm.trans hst
          refine wd_iload_n hC dX4_firstUnchosen_27 rfl rfl ?_
          exact wd_iret hC rfl dX4_firstUnchosen_28 hst rfl
  refine wd_iconst (v := 0) hC dX4_firstUnchosen_0 rfl ?_
  refine wd_istore_n_2_1 hC dX4_firstUnchosen_1 ?_
  exact loop (nMen (tv σ) + 1) 0 (Nat.zero_le _) (by omega) rfl
set_option maxRecDepth 100000 in
set_option maxHeartbeats 4000000 in
theorem c_weighFacing {V : wd_V} {ad : Nat → Nat} (hinj : wd_inj cS ad) (σ : wd_S) (ht : σ.2.2 < 2) (hT : tOk (tv σ)) (B : fB) (M : Nat → Nat → Int32) (hz : mz M) (hM : mOk M) (hn1 : 1 ≤ nMen (tv σ)) : wd_C cS V ad 4 yX4_weighFacing (Cond.code yX4_weighFacing cX4_weighFacing 3 none :: wsL_law) (stW σ B M) [.ref (ad 0)] (wd_eq none (stW σ (weighB (tv σ) M B) M)) := by
  refine wd_intro (lv := [some (.ref (ad 0)), none, none]) hinj (by decide) rfl (Nat.le_of_ble_eq_true rfl) rfl (Nat.le_of_ble_eq_true rfl) (fun K hC => ?_)
  have h6 := hT.m6
  have h3 := hT.c3
  have loop : ∀ (k i : Nat) (l : Int32), i ≤ (nMen (tv σ)) → (nMen (tv σ)) < i + k → 1 ≤ i → itr (fun m a => imin a (wGain (tv σ) M (m + 1))) (wGain (tv σ) M 0) (i - 1) = l → wd_G cS V ad K 3 (wd_Qm cS V ad K (wd_eq none (stW σ (weighB (tv σ) M B) M))) 12 [some (.ref (ad 0)), some (.int l), some (.int (nI i))] [] (stW σ B M) := by
    intro k
    induction k with
    | zero =>
      intro i l h1 h2 hi1 hst
      exact absurd h2 (by omega)
    | succ k ih =>
      intro i l h1 h2 hi1 hst
      refine wd_iload_n hC dX4_weighFacing_12 rfl rfl ?_
      refine wd_aload_n hC dX4_weighFacing_13 rfl rfl ?_
      refine gf_X4_19 hC dX4_weighFacing_14 ?_
      refine gf_X4_76 hC dX4_weighFacing_17 ?_
      refine wd_icmp_ge (tgt := 43) hC dX4_weighFacing_20 (by decide) (fun c_20 => ?_) (fun c_20 => ?_)
      · have hin : i = _ := lp_ge (men_W ht hT) c_20 h1 (by omega)
        subst hin
        replace hst : l = leastM (tv σ) M := hst.symm
        refine wd_aload_n hC dX4_weighFacing_43 rfl rfl ?_
        refine gf_X4_188 hC dX4_weighFacing_44 ?_
        refine wd_vi (stW_13 _ _ _) ?_
        refine wd_if_eq (tgt := 58) hC dX4_weighFacing_47 (by decide) (fun c_47 => ?_) (fun c_47 => ?_)
        · refine wd_aload_n hC dX4_weighFacing_58 rfl rfl ?_
          refine wd_iconst (v := 1) hC dX4_weighFacing_59 rfl ?_
          refine pf_X4_188 hC dX4_weighFacing_60 rfl rfl ?_
          refine wd_ts (stW_u13 _ _ _ _) ?_
          refine wd_aload_n hC dX4_weighFacing_63 rfl rfl ?_
          refine wd_iload_n hC dX4_weighFacing_64 rfl rfl ?_
          refine pf_X4_196 hC dX4_weighFacing_65 ?_
          refine wd_ts (stW_u12 _ _ _ _) ?_
          refine wd_aload_n hC dX4_weighFacing_68 rfl rfl ?_
          refine gf_X4_33 hC dX4_weighFacing_69 ?_
          refine gf_X4_101 hC dX4_weighFacing_72 ?_
          refine wd_iconst (v := 0) hC dX4_weighFacing_75 rfl ?_
          refine wd_aload_n hC dX4_weighFacing_76 rfl rfl ?_
          refine gf_X4_58 hC dX4_weighFacing_77 ?_
          refine wd_iconst (v := 0) hC dX4_weighFacing_80 rfl ?_
          refine wd_aload_n hC dX4_weighFacing_81 rfl rfl ?_
          refine gf_X4_19 hC dX4_weighFacing_82 ?_
          refine gf_X4_76 hC dX4_weighFacing_85 ?_
          refine wd_copy hC (q0 := cm 1 + 2) (q1 := 9) (cm_lt (by decide) (by decide)) (by decide) (fun _ => cE_ma (ad := ad) (x := σ.2) 1 2 (by decide) (by decide)) (fun _ => rfl) (nMen (tv σ)) (men_W ht hT) (by omega) h6 h6 (wL_22 _ (List.mem_of_getElem? (i := 12) rfl)) (wL_14 _ (List.mem_of_getElem? (i := 21) rfl)) (wL_14 _ (List.mem_of_getElem? (i := 22) rfl)) (wL_14 _ (List.mem_of_getElem? (i := 23) rfl)) (by decide) (by decide) dX4_weighFacing_88 ?_
          refine wd_ts (stW_cp _ _ _ _) ?_
          exact wd_vret hC rfl dX4_weighFacing_91 (by subst hst; rw [weighB]; first | (rw [if_pos c_47]; done) | (rw [if_neg c_47, if_pos c_55]; done) | (rw [if_neg c_47, if_neg c_55]; done))
        · refine wd_iload_n hC dX4_weighFacing_50 rfl rfl ?_
          refine wd_aload_n hC dX4_weighFacing_51 rfl rfl ?_
          refine gf_X4_196 hC dX4_weighFacing_52 ?_
          refine wd_vi (stW_12 _ _ _) ?_
          refine wd_icmp_le (tgt := 91) hC dX4_weighFacing_55 (by decide) (fun c_55 => ?_) (fun c_55 => ?_)
          · exact wd_vret hC rfl dX4_weighFacing_91 (by subst hst; rw [weighB]; first | (rw [if_pos c_47]; done) | (rw [if_neg c_47, if_pos c_55]; done) | (rw [if_neg c_47, if_neg c_55]; done))
          · refine wd_aload_n hC dX4_weighFacing_58 rfl rfl ?_
            refine wd_iconst (v := 1) hC dX4_weighFacing_59 rfl ?_
            refine pf_X4_188 hC dX4_weighFacing_60 rfl rfl ?_
            refine wd_ts (stW_u13 _ _ _ _) ?_
            refine wd_aload_n hC dX4_weighFacing_63 rfl rfl ?_
            refine wd_iload_n hC dX4_weighFacing_64 rfl rfl ?_
            refine pf_X4_196 hC dX4_weighFacing_65 ?_
            refine wd_ts (stW_u12 _ _ _ _) ?_
            refine wd_aload_n hC dX4_weighFacing_68 rfl rfl ?_
            refine gf_X4_33 hC dX4_weighFacing_69 ?_
            refine gf_X4_101 hC dX4_weighFacing_72 ?_
            refine wd_iconst (v := 0) hC dX4_weighFacing_75 rfl ?_
            refine wd_aload_n hC dX4_weighFacing_76 rfl rfl ?_
            refine gf_X4_58 hC dX4_weighFacing_77 ?_
            refine wd_iconst (v := 0) hC dX4_weighFacing_80 rfl ?_
            refine wd_aload_n hC dX4_weighFacing_81 rfl rfl ?_
            refine gf_X4_19 hC dX4_weighFacing_82 ?_
            refine gf_X4_76 hC dX4_weighFacing_85 ?_
            refine wd_copy hC (q0 := cm 1 + 2) (q1 := 9) (cm_lt (by decide) (by decide)) (by decide) (fun _ => cE_ma (ad := ad) (x := σ.2) 1 2 (by decide) (by decide)) (fun _ => rfl) (nMen (tv σ)) (men_W ht hT) (by omega) h6 h6 (wL_22 _ (List.mem_of_getElem? (i := 12) rfl)) (wL_14 _ (List.mem_of_getElem? (i := 21) rfl)) (wL_14 _ (List.mem_of_getElem? (i := 22) rfl)) (wL_14 _ (List.mem_of_getElem? (i := 23) rfl)) (by decide) (by decide) dX4_weighFacing_88 ?_
            refine wd_ts (stW_cp _ _ _ _) ?_
            exact wd_vret hC rfl dX4_weighFacing_91 (by subst hst; rw [weighB]; first | (rw [if_pos c_47]; done) | (rw [if_neg c_47, if_pos c_55]; done) | (rw [if_neg c_47, if_neg c_55]; done))
      · have hin : i < _ := lp_lt (men_W ht hT) c_20 h1 (by omega)
        refine wd_iload_n hC dX4_weighFacing_23 rfl rfl ?_
        refine wd_aload_n hC dX4_weighFacing_24 rfl rfl ?_
        refine wd_aload_n hC dX4_weighFacing_25 rfl rfl ?_
        refine gf_X4_33 hC dX4_weighFacing_26 ?_
        refine wd_iload_n hC dX4_weighFacing_29 rfl rfl ?_
        refine cv4i hC cw_X4_163 (c_gainW hinj σ ht B M hz hM _ i rfl (by omega)) dX4_weighFacing_30 (by first | decide | omega) (by decide) rfl rfl (Nat.le_of_ble_eq_true rfl) ?_
        refine wd_mmin hC (wL_12 _ (List.mem_of_getElem? (i := 16) rfl)) (wL_7 _ (List.mem_of_getElem? (i := 0) rfl)) (wL_7 _ (List.mem_of_getElem? (i := 1) rfl)) (wL_7 _ (List.mem_of_getElem? (i := 2) rfl)) (by decide) (Nat.le_of_ble_eq_true rfl) dX4_weighFacing_33 ?_
        refine wd_istore_n_3_1 hC dX4_weighFacing_36 ?_
        refine wd_iincN_3_2 hC dX4_weighFacing_37 ?_
        refine wd_goto (tgt := 12) hC dX4_weighFacing_40 (by decide) ?_
        exact ih (i + 1) _ (by omega) (by omega) (by omega) (by obtain ⟨e, rfl⟩ : ∃ e, i = e + 1 := ⟨i - 1, by omega⟩; rw [Nat.add_sub_cancel] at hst ⊢; rw [itr, hst]; rfl)
  refine wd_aload_n hC dX4_weighFacing_0 rfl rfl ?_
  refine wd_aload_n hC dX4_weighFacing_1 rfl rfl ?_
  refine gf_X4_33 hC dX4_weighFacing_2 ?_
  refine wd_iconst (v := 0) hC dX4_weighFacing_5 rfl ?_
  refine cv4i hC cw_X4_163 (c_gainW hinj σ ht B M hz hM _ 0 rfl (by decide)) dX4_weighFacing_6 (by first | decide | omega) (by decide) rfl rfl (Nat.le_of_ble_eq_true rfl) ?_
  refine wd_istore_n_3_1 hC dX4_weighFacing_9 ?_
  refine wd_iconst (v := 1) hC dX4_weighFacing_10 rfl ?_
  refine wd_istore_n_3_2 hC dX4_weighFacing_11 ?_
  exact loop (nMen (tv σ) + 1) 1 _ hn1 (by omega) (by decide) rfl

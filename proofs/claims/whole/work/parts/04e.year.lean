/-! ===== the class: marriages, a year ===== -/
def ex0 (σ : wd_S) (a b : Nat) : wd_S := wd_up (wd_up σ (cm 0 + 2) a (σ.1 (cm 0 + 2) b)) (cm 0 + 2) b (σ.1 (cm 0 + 2) a)
def ex1 (σ : wd_S) (a b : Nat) (x : Int32) : wd_S := if σ.1 (cm 0 + 2) b < 0 then ex0 σ a b else wd_up (ex0 σ a b) (cm 0 + 2) (nFac (mv σ 0) b) x
def ex2 (σ : wd_S) (a b : Nat) (x y : Int32) : wd_S := if σ.1 (cm 0 + 2) a < 0 then ex1 σ a b x else wd_up (ex1 σ a b x) (cm 0 + 2) (nFac (mv σ 0) a) y
def exch (σ : wd_S) (a b : Nat) (x y : Int32) : wd_S := if σ.1 (cm 0 + 2) a = y then σ else ex2 σ a b x y

set_option maxRecDepth 100000 in
set_option maxHeartbeats 4000000 in
theorem c_exchange {V : wd_V} {ad : Nat → Nat} (hinj : wd_inj cS ad) (σ : wd_S) (x y : Int32) (a b : Nat) (hx : x = nI a) (hy : y = nI b) (ha : a < 6) (hb : b < 6) (hM : mOk (mv σ 0)) : wd_C cS V ad 0 yX4_exchange (Cond.code yX4_exchange cX4_exchange 5 none :: wsL_law) σ [.ref (ad 0), .int x, .int y] (wd_eq none (exch σ a b x y)) := by
  refine wd_intro (lv := [some (.ref (ad 0)), some (.int x), some (.int y), none, none]) hinj (by decide) rfl (Nat.le_of_ble_eq_true rfl) rfl (Nat.le_of_ble_eq_true rfl) (fun K hC => ?_)
  refine wd_aload_n hC dX4_exchange_0 rfl rfl ?_
  refine gf_X4_29 hC dX4_exchange_1 ?_
  refine gf_X4_101 hC dX4_exchange_4 ?_
  refine wd_iload_n hC dX4_exchange_7 rfl rfl ?_
  refine ld_m hC dX4_exchange_8 (a) hx (by omega) ?_
  refine wd_istore_n_5_3 hC dX4_exchange_9 ?_
  refine wd_aload_n hC dX4_exchange_10 rfl rfl ?_
  refine gf_X4_29 hC dX4_exchange_11 ?_
  refine gf_X4_101 hC dX4_exchange_14 ?_
  refine wd_iload_n hC dX4_exchange_17 rfl rfl ?_
  refine ld_m hC dX4_exchange_18 (b) hy (by omega) ?_
  refine wd_istore_5_4 hC dX4_exchange_19 ?_
  refine wd_iload_n hC dX4_exchange_21 rfl rfl ?_
  refine wd_iload_n hC dX4_exchange_22 rfl rfl ?_
  refine wd_icmp_ne (tgt := 27) hC dX4_exchange_23 (by decide) (fun c_23 => ?_) (fun c_23 => ?_)
  · refine wd_aload_n hC dX4_exchange_27 rfl rfl ?_
    refine gf_X4_29 hC dX4_exchange_28 ?_
    refine gf_X4_101 hC dX4_exchange_31 ?_
    refine wd_iload_n hC dX4_exchange_34 rfl rfl ?_
    refine wd_iload hC dX4_exchange_35 rfl ?_
    refine st_m hC dX4_exchange_37 (a) hx (by omega) ?_
    refine wd_aload_n hC dX4_exchange_38 rfl rfl ?_
    refine gf_X4_29 hC dX4_exchange_39 ?_
    refine gf_X4_101 hC dX4_exchange_42 ?_
    refine wd_iload_n hC dX4_exchange_45 rfl rfl ?_
    refine wd_iload_n hC dX4_exchange_46 rfl rfl ?_
    refine st_m hC dX4_exchange_47 (b) hy (by omega) ?_
    refine wd_iload hC dX4_exchange_48 rfl ?_
    refine wd_if_lt (tgt := 64) hC dX4_exchange_50 (by decide) (fun c_50 => ?_) (fun c_50 => ?_)
    · refine wd_iload_n hC dX4_exchange_64 rfl rfl ?_
      refine wd_if_lt (tgt := 78) hC dX4_exchange_65 (by decide) (fun c_65 => ?_) (fun c_65 => ?_)
      · exact wd_vret hC rfl dX4_exchange_78 (by rw [exch, if_neg c_23, ex2, ex1]; first | (rw [if_pos c_50, if_pos c_65]; rfl) | (rw [if_pos c_50, if_neg c_65]; rfl) | (rw [if_neg c_50, if_pos c_65]; rfl) | (rw [if_neg c_50, if_neg c_65]; rfl))
      · refine wd_aload_n hC dX4_exchange_68 rfl rfl ?_
        refine gf_X4_29 hC dX4_exchange_69 ?_
        refine gf_X4_101 hC dX4_exchange_72 ?_
        refine wd_iload_n hC dX4_exchange_75 rfl rfl ?_
        refine wd_iload_n hC dX4_exchange_76 rfl rfl ?_
        refine st_m hC dX4_exchange_77 (nFac (mv σ 0) a) (hM.f ha (i_le c_65)) (hM.f6 ha (i_le c_65)) ?_
        exact wd_vret hC rfl dX4_exchange_78 (by rw [exch, if_neg c_23, ex2, ex1]; first | (rw [if_pos c_50, if_pos c_65]; rfl) | (rw [if_pos c_50, if_neg c_65]; rfl) | (rw [if_neg c_50, if_pos c_65]; rfl) | (rw [if_neg c_50, if_neg c_65]; rfl))
    · refine wd_aload_n hC dX4_exchange_53 rfl rfl ?_
      refine gf_X4_29 hC dX4_exchange_54 ?_
      refine gf_X4_101 hC dX4_exchange_57 ?_
      refine wd_iload hC dX4_exchange_60 rfl ?_
      refine wd_iload_n hC dX4_exchange_62 rfl rfl ?_
      refine st_m hC dX4_exchange_63 (nFac (mv σ 0) b) (hM.f hb (i_le c_50)) (hM.f6 hb (i_le c_50)) ?_
      refine wd_iload_n hC dX4_exchange_64 rfl rfl ?_
      refine wd_if_lt (tgt := 78) hC dX4_exchange_65 (by decide) (fun c_65 => ?_) (fun c_65 => ?_)
      · exact wd_vret hC rfl dX4_exchange_78 (by rw [exch, if_neg c_23, ex2, ex1]; first | (rw [if_pos c_50, if_pos c_65]; rfl) | (rw [if_pos c_50, if_neg c_65]; rfl) | (rw [if_neg c_50, if_pos c_65]; rfl) | (rw [if_neg c_50, if_neg c_65]; rfl))
      · refine wd_aload_n hC dX4_exchange_68 rfl rfl ?_
        refine gf_X4_29 hC dX4_exchange_69 ?_
        refine gf_X4_101 hC dX4_exchange_72 ?_
        refine wd_iload_n hC dX4_exchange_75 rfl rfl ?_
        refine wd_iload_n hC dX4_exchange_76 rfl rfl ?_
        refine st_m hC dX4_exchange_77 (nFac (mv σ 0) a) (hM.f ha (i_le c_65)) (hM.f6 ha (i_le c_65)) ?_
        exact wd_vret hC rfl dX4_exchange_78 (by rw [exch, if_neg c_23, ex2, ex1]; first | (rw [if_pos c_50, if_pos c_65]; rfl) | (rw [if_pos c_50, if_neg c_65]; rfl) | (rw [if_neg c_50, if_pos c_65]; rfl) | (rw [if_neg c_50, if_neg c_65]; rfl))
  · exact wd_vret hC rfl dX4_exchange_26 (if_pos c_23).symm
theorem mv_lgAdd (σ : wd_S) (h : lOk σ) : mv (lgAdd σ) 0 = mv σ 0 := by
  funext k
  by_cases hk : k < 6
  · rw [mv_at _ _ hk, mv_at _ _ hk, lgAdd_m σ h hk]
  · rw [mv_hi _ _ hk, mv_hi _ _ hk]
theorem tv_up (σ : wd_S) (ht : σ.2.2 < 2) {k : Nat} (hk : k < 10 ∨ 36 ≤ k) (i : Nat) (v : Int32) : tv (wd_up σ k i v) = tv σ := by
  funext c b
  unfold tv
  by_cases h : c < 13
  · rw [if_pos h, if_pos h]
    show (wd_up σ k i v).1 (ct σ.2.2 + c) b = _
    rw [wd_up_n _ _ _ _ (by unfold ct; omega)]
  · rw [if_neg h, if_neg h]
theorem tv_lgAdd (σ : wd_S) (ht : σ.2.2 < 2) : tv (lgAdd σ) = tv σ := by
  exact (tv_up (wd_up (stM σ _ _) 3 1 _) ht (by decide) 2 _).trans ((tv_up (stM σ _ _) ht (by decide) 1 _).trans (tv_st _ _ _ ht))

set_option maxRecDepth 100000 in
set_option maxHeartbeats 4000000 in
theorem c_marries_bad {V : wd_V} {ad : Nat → Nat} (hinj : wd_inj cS ad) (σ : wd_S) (ht : σ.2.2 < 2) (x y : Int32) (hB : ¬ (pMan (tv σ) x ∧ pMan (tv σ) y ∧ ¬ x = y)) : wd_C cS V ad 2 yX4_marries (Cond.code yX4_marries cX4_marries 3 (some .int) :: wsL_law) σ [.ref (ad 0), .int x, .int y] (wd_eq (some (.int (-1))) (σ)) := by
  refine wd_intro (lv := [some (.ref (ad 0)), some (.int x), some (.int y)]) hinj (by decide) rfl (Nat.le_of_ble_eq_true rfl) rfl (Nat.le_of_ble_eq_true rfl) (fun K hC => ?_)
  refine wd_aload_n hC dX4_marries_0 rfl rfl ?_
  refine wd_iload_n hC dX4_marries_1 rfl rfl ?_
  refine cv4i hC cw_X4_85 (c_isMan hinj _ ht _) dX4_marries_2 (by first | decide | omega) (by decide) rfl rfl (Nat.le_of_ble_eq_true rfl) ?_
  refine wd_if_eq (tgt := 21) hC dX4_marries_5 (by decide) (fun c_5 => ?_) (fun c_5 => ?_)
  · replace c_5 := bI_0.mp c_5
    refine wd_iconst (v := -1) hC dX4_marries_21 rfl ?_
    exact wd_iret hC rfl dX4_marries_22 rfl rfl
  · replace c_5 := bI_1.mp c_5
    refine wd_aload_n hC dX4_marries_8 rfl rfl ?_
    refine wd_iload_n hC dX4_marries_9 rfl rfl ?_
    refine cv4i hC cw_X4_85 (c_isMan hinj _ ht _) dX4_marries_10 (by first | decide | omega) (by decide) rfl rfl (Nat.le_of_ble_eq_true rfl) ?_
    refine wd_if_eq (tgt := 21) hC dX4_marries_13 (by decide) (fun c_13 => ?_) (fun c_13 => ?_)
    · replace c_13 := bI_0.mp c_13
      refine wd_iconst (v := -1) hC dX4_marries_21 rfl ?_
      exact wd_iret hC rfl dX4_marries_22 rfl rfl
    · replace c_13 := bI_1.mp c_13
      refine wd_iload_n hC dX4_marries_16 rfl rfl ?_
      refine wd_iload_n hC dX4_marries_17 rfl rfl ?_
      refine wd_icmp_ne (tgt := 23) hC dX4_marries_18 (by decide) (fun c_18 => ?_) (fun c_18 => ?_)
      · exact absurd ⟨c_5, c_13, c_18⟩ hB
      · refine wd_iconst (v := -1) hC dX4_marries_21 rfl ?_
        exact wd_iret hC rfl dX4_marries_22 rfl rfl
set_option maxRecDepth 100000 in
set_option maxHeartbeats 4000000 in
theorem c_marries {V : wd_V} {ad : Nat → Nat} (hinj : wd_inj cS ad) (σ : wd_S) (ht : σ.2.2 < 2) (hT : tOk (tv σ)) (hL : lOk σ) (hM : mOk (mv σ 0)) (x y : Int32) (a b : Nat) (hx : x = nI a) (hy : y = nI b) (ha : a < nMen (tv σ)) (hb : b < nMen (tv σ)) (hne : ¬ x = y) : wd_C cS V ad 3 yX4_marries (Cond.code yX4_marries cX4_marries 3 (some .int) :: wsL_law) σ [.ref (ad 0), .int x, .int y] (wd_eq (some (.int ((exch (lgAdd σ) a b x y).1 (cm 0 + 2) a))) (exch (lgAdd σ) a b x y)) := by
  refine wd_intro (lv := [some (.ref (ad 0)), some (.int x), some (.int y)]) hinj (by decide) rfl (Nat.le_of_ble_eq_true rfl) rfl (Nat.le_of_ble_eq_true rfl) (fun K hC => ?_)
  have h6 := hT.m6
  have h3 := hT.c3
  refine wd_aload_n hC dX4_marries_0 rfl rfl ?_
  refine wd_iload_n hC dX4_marries_1 rfl rfl ?_
  refine cv4i hC cw_X4_85 (c_isMan hinj _ ht _) dX4_marries_2 (by first | decide | omega) (by decide) rfl rfl (Nat.le_of_ble_eq_true rfl) ?_
  refine wd_if_eq (tgt := 21) hC dX4_marries_5 (by decide) (fun c_5 => absurd c_5 (bIm (pm_of hT hx ha))) (fun c_5 => ?_)
  refine wd_aload_n hC dX4_marries_8 rfl rfl ?_
  refine wd_iload_n hC dX4_marries_9 rfl rfl ?_
  refine cv4i hC cw_X4_85 (c_isMan hinj _ ht _) dX4_marries_10 (by first | decide | omega) (by decide) rfl rfl (Nat.le_of_ble_eq_true rfl) ?_
  refine wd_if_eq (tgt := 21) hC dX4_marries_13 (by decide) (fun c_13 => absurd c_13 (bIm (pm_of hT hy hb))) (fun c_13 => ?_)
  refine wd_iload_n hC dX4_marries_16 rfl rfl ?_
  refine wd_iload_n hC dX4_marries_17 rfl rfl ?_
  refine wd_icmp_ne (tgt := 23) hC dX4_marries_18 (by decide) (fun c_18 => ?_) (fun c_18 => absurd c_18 hne)
  refine wd_aload_n hC dX4_marries_23 rfl rfl ?_
  refine gf_X4_39 hC dX4_marries_24 ?_
  refine wd_aload_n hC dX4_marries_27 rfl rfl ?_
  refine gf_X4_29 hC dX4_marries_28 ?_
  refine cv0v hC cw_X4_151 (c_add hinj _ hL) dX4_marries_31 (by first | decide | omega) (by decide) rfl rfl (Nat.le_of_ble_eq_true rfl) ?_
  refine wd_aload_n hC dX4_marries_34 rfl rfl ?_
  refine wd_iload_n hC dX4_marries_35 rfl rfl ?_
  refine wd_iload_n hC dX4_marries_36 rfl rfl ?_
  refine cv4v hC cw_X4_159 (c_exchange hinj _ x y a b hx hy (by omega) (by omega) (by rw [mv_lgAdd σ hL]; exact hM)) dX4_marries_37 (by first | decide | omega) (by decide) rfl rfl (Nat.le_of_ble_eq_true rfl) ?_
  refine wd_aload_n hC dX4_marries_40 rfl rfl ?_
  refine gf_X4_29 hC dX4_marries_41 ?_
  refine gf_X4_101 hC dX4_marries_44 ?_
  refine wd_iload_n hC dX4_marries_47 rfl rfl ?_
  refine ld_m hC dX4_marries_48 (a) hx (by omega) ?_
  exact wd_iret hC rfl dX4_marries_49 rfl rfl
/-- a year of the first n men; a year -/
def yrM (T M : Nat → Nat → Int32) (n : Nat) : Nat → Nat → Int32 := ur M 5 (fun m => if m < n then stor (M 5 m) (wGain T M m) else M 5 m)
def goM (T M : Nat → Nat → Int32) : Nat → Nat → Int32 := u2 (yrM T M (nMen T)) 0 6 (M 0 6 + 1)
def fedV (T M : Nat → Nat → Int32) (n : Nat) : Int32 := itr (fun m f => if wGain T M m < 0 then f else f + 1) 0 n
theorem yrM_0 (T M : Nat → Nat → Int32) : yrM T M 0 = M := by
  funext k i
  unfold yrM ur
  by_cases h : k = 5
  · rw [if_pos h, h]
    rfl
  · rw [if_neg h]
theorem yrM_s (T M : Nat → Nat → Int32) (n : Nat) : u2 (yrM T M n) 5 n (stor (M 5 n) (wGain T M n)) = yrM T M (n + 1) := by
  funext k i
  unfold u2 yrM ur
  by_cases h : k = 5
  · subst h
    by_cases hi : i = n
    · subst hi
      simp
    · simp only [hi, and_false, if_false, if_true]
      by_cases h2 : i < n
      · rw [if_pos h2, if_pos (by omega)]
      · rw [if_neg h2, if_neg (by omega)]
  · simp [h]
theorem yrM_5 (T M : Nat → Nat → Int32) (n : Nat) : yrM T M n 5 n = M 5 n := if_neg (Nat.lt_irrefl n)
theorem stM_c (σ : wd_S) (j : Nat) (N : Nat → Nat → Int32) {c : Nat} (hc : c < 6) {i : Nat} : (stM σ j N).1 (cm j + c) i = N c i := congrFun (stM_at σ j N hc) i
theorem stM_00 (σ : wd_S) (j : Nat) (N : Nat → Nat → Int32) {i : Nat} : (stM σ j N).1 (cm j) i = N 0 i := congrFun (stM_at σ j N (c := 0) (by decide)) i
theorem mz_yrM {T M : Nat → Nat → Int32} (h : mz M) (n : Nat) : mz (yrM T M n) := fun k hk => by
  unfold yrM ur
  rw [if_neg (by omega)]
  exact h k hk
theorem men_st {σ : wd_S} {j : Nat} {M : Nat → Nat → Int32} (ht : σ.2.2 < 2) (hT : tOk (tv σ)) : (stM σ j M).1 (ct σ.2.2) 3 = nI (nMen (tv σ)) := by
  rw [stM_lo _ _ _ (by unfold ct; omega)]
  exact hT.m
theorem crops_st {σ : wd_S} {j : Nat} {M : Nat → Nat → Int32} (ht : σ.2.2 < 2) (hT : tOk (tv σ)) : (stM σ j M).1 (ct σ.2.2) 0 = nI (nCrops (tv σ)) := by
  rw [stM_lo _ _ _ (by unfold ct; omega)]
  exact hT.c

theorem c_wealthV {V : wd_V} {ad : Nat → Nat} (hinj : wd_inj cS ad) (σ : wd_S) (ht : σ.2.2 < 2) (j : Nat) (hj : j < 14) (M : Nat → Nat → Int32) (hz : mz M) (hM : mOk M) (x : Int32) (m : Nat) (hx : x = nI m) (hm : m < 6) : wd_C cS V ad 2 yX4_wealthOf (Cond.code yX4_wealthOf cX4_wealthOf 7 (some .int) :: wsL_law) (stM σ j M) [.ref (ad 0), .ref (ad (cm j)), .int x] (wd_eq (some (.int (wHas (tv σ) M m))) (stM σ j M)) := by
  have h := c_wealthOf (V := V) hinj (stM σ j M) ht j hj x m hx hm (by rw [mv_st _ _ hz]; exact hM)
  rw [mv_st _ _ hz, tv_st _ _ _ ht] at h
  exact h
theorem c_gainV {V : wd_V} {ad : Nat → Nat} (hinj : wd_inj cS ad) (σ : wd_S) (ht : σ.2.2 < 2) (j : Nat) (hj : j < 14) (M : Nat → Nat → Int32) (hz : mz M) (hM : mOk M) (x : Int32) (m : Nat) (hx : x = nI m) (hm : m < 6) : wd_C cS V ad 3 yX4_gainOf (Cond.code yX4_gainOf cX4_gainOf 3 (some .int) :: wsL_law) (stM σ j M) [.ref (ad 0), .ref (ad (cm j)), .int x] (wd_eq (some (.int (wGain (tv σ) M m))) (stM σ j M)) := by
  have h := c_gainOf (V := V) hinj (stM σ j M) ht j hj x m hx hm (by rw [mv_st _ _ hz]; exact hM)
  rw [mv_st _ _ hz, tv_st _ _ _ ht] at h
  exact h
theorem c_takenV {V : wd_V} {ad : Nat → Nat} (hinj : wd_inj cS ad) (σ : wd_S) (ht : σ.2.2 < 2) (j : Nat) (hj : j < 14) (M : Nat → Nat → Int32) (hz : mz M) (hM : mOk M) (x : Int32) (m : Nat) (hx : x = nI m) (hm : m < 6) : wd_C cS V ad 2 yX4_takenBy (Cond.code yX4_takenBy cX4_takenBy 4 (some .int) :: wsL_law) (stM σ j M) [.ref (ad 0), .ref (ad (cm j)), .int x] (wd_eq (some (.int (wTaken (tv σ) M m))) (stM σ j M)) := by
  have h := c_takenBy (V := V) hinj (stM σ j M) ht j hj x m hx hm (by rw [mv_st _ _ hz]; exact hM)
  rw [mv_st _ _ hz, tv_st _ _ _ ht] at h
  exact h
set_option maxRecDepth 100000 in
set_option maxHeartbeats 4000000 in
theorem c_year_state {V : wd_V} {ad : Nat → Nat} (hinj : wd_inj cS ad) (σ : wd_S) (hF : 999 ≤ mv σ 0 0 6) : wd_C cS V ad 0 yX4_year (Cond.code yX4_year cX4_year 4 (some .int) :: wsL_law) σ [.ref (ad 0)] (wd_eq (some (.int (-2))) (σ)) := by
  refine wd_intro (lv := [some (.ref (ad 0)), none, none, none]) hinj (by decide) rfl (Nat.le_of_ble_eq_true rfl) rfl (Nat.le_of_ble_eq_true rfl) (fun K hC => ?_)
  refine wd_aload_n hC dX4_year_0 rfl rfl ?_
  refine gf_X4_29 hC dX4_year_1 ?_
  refine gf_X4_135 hC dX4_year_4 ?_
  refine wd_sipush (v := 999) hC dX4_year_7 rfl ?_
  refine wd_icmp_lt (tgt := 16) hC dX4_year_10 (by decide) (fun c_10 => absurd c_10 (Int32.not_lt.mpr hF)) (fun c_10 => ?_)
  refine wd_bipush (v := -2) hC dX4_year_13 rfl ?_
  exact wd_iret hC rfl dX4_year_15 rfl rfl
theorem wd_lv {sd : wd_Side} {V : wd_V} {ad : Nat → Nat} {K : wd_K} {nL : Nat} {Q : State → Prop} {pc : Nat} {a0 a2 a3 : Option Value} {st : List Value} {σ : wd_S} {x y : Int32} (h : x = y) (k : wd_G sd V ad K nL Q pc [a0, some (.int y), a2, a3] st σ) : wd_G sd V ad K nL Q pc [a0, some (.int x), a2, a3] st σ := h ▸ k

set_option maxRecDepth 100000 in
set_option maxHeartbeats 4000000 in
theorem c_year {V : wd_V} {ad : Nat → Nat} (hinj : wd_inj cS ad) (σ : wd_S) (ht : σ.2.2 < 2) (hT : tOk (tv σ)) (hL : lOk σ) (hM : mOk (mv σ 0)) (hF : mv σ 0 0 6 < 999) : wd_C cS V ad 4 yX4_year (Cond.code yX4_year cX4_year 4 (some .int) :: wsL_law) σ [.ref (ad 0)] (wd_eq (some (.int (fedV (tv σ) (mv σ 0) (nMen (tv σ))))) (stM (lgAdd σ) 0 (goM (tv σ) (mv σ 0)))) := by
  refine wd_intro (lv := [some (.ref (ad 0)), none, none, none]) hinj (by decide) rfl (Nat.le_of_ble_eq_true rfl) rfl (Nat.le_of_ble_eq_true rfl) (fun K hC => ?_)
  have h6 := hT.m6
  have h3 := hT.c3
  have hmen : ∀ {i : Nat}, (stM (lgAdd σ) 0 (yrM (tv σ) (mv σ 0) i)).1 (ct σ.2.2) 3 = nI (nMen (tv σ)) := fun {i} => by rw [stM_lo _ _ _ (by unfold ct; omega)]; exact (congrFun (congrFun (tv_lgAdd σ ht) 0) 3).trans hT.m
  have yg : ∀ i, i < 6 → wd_C cS V ad 3 yX4_gainOf (Cond.code yX4_gainOf cX4_gainOf 3 (some .int) :: wsL_law) (stM (lgAdd σ) 0 (yrM (tv σ) (mv σ 0) i)) [.ref (ad 0), .ref (ad (cm 0)), .int (nI i)] (wd_eq (some (.int (wGain (tv σ) (mv σ 0) i))) (stM (lgAdd σ) 0 (yrM (tv σ) (mv σ 0) i))) := fun i hi => by
    have h := c_gainV (V := V) hinj (lgAdd σ) ht 0 (by decide) (yrM (tv σ) (mv σ 0) i) (mz_yrM (mz_mv σ 0) i) (fun a ha => hM a ha) (nI i) i rfl hi
    rw [tv_lgAdd σ ht] at h
    exact h
  have loop : ∀ (k i : Nat) (o : Option Value), i ≤ (nMen (tv σ)) → (nMen (tv σ)) < i + k → wd_G cS V ad K 4 (wd_Qm cS V ad K (wd_eq (some (.int (fedV (tv σ) (mv σ 0) (nMen (tv σ))))) (stM (lgAdd σ) 0 (goM (tv σ) (mv σ 0))))) 31 [some (.ref (ad 0)), some (.int (fedV (tv σ) (mv σ 0) i)), some (.int (nI i)), o] [] (stM (lgAdd σ) 0 (yrM (tv σ) (mv σ 0) i)) := by
    intro k
    induction k with
    | zero =>
      intro i o h1 h2 
      exact absurd h2 (by omega)
    | succ k ih =>
      intro i o h1 h2 
      refine wd_iload_n hC dX4_year_31 rfl rfl ?_
      refine wd_aload_n hC dX4_year_32 rfl rfl ?_
      refine gf_X4_19 hC dX4_year_33 ?_
      refine gf_X4_76 hC dX4_year_36 ?_
      refine wd_icmp_ge (tgt := 87) hC dX4_year_39 (by decide) (fun c_39 => ?_) (fun c_39 => ?_)
      · have hin : i = _ := lp_ge hmen c_39 h1 (by omega)
        subst hin
        refine wd_aload_n hC dX4_year_87 rfl rfl ?_
        refine gf_X4_29 hC dX4_year_88 ?_
        refine wd_dup hC dX4_year_91 rfl ?_
        refine gf_X4_135 hC dX4_year_92 ?_
        refine wd_iconst (v := 1) hC dX4_year_95 rfl ?_
        refine wd_iadd hC dX4_year_96 ?_
        refine pf_X4_135 hC dX4_year_97 ?_
        refine wd_iload_n hC dX4_year_100 rfl rfl ?_
        exact wd_iret hC rfl dX4_year_101 rfl (by rw [stM_up0, stM_00]; rfl)
      · have hin : i < _ := lp_lt hmen c_39 h1 (by omega)
        refine wd_aload_n hC dX4_year_42 rfl rfl ?_
        refine wd_aload_n hC dX4_year_43 rfl rfl ?_
        refine gf_X4_29 hC dX4_year_44 ?_
        refine wd_iload_n hC dX4_year_47 rfl rfl ?_
        refine cv4i hC cw_X4_163 (yg i (by omega)) dX4_year_48 (by first | decide | omega) (by decide) rfl rfl (Nat.le_of_ble_eq_true rfl) ?_
        refine wd_istore_n_4_3 hC dX4_year_51 ?_
        refine wd_iload_n hC dX4_year_52 rfl rfl ?_
        refine wd_if_lt (tgt := 59) hC dX4_year_53 (by decide) (fun c_53 => ?_) (fun c_53 => ?_)
        · refine wd_aload_n hC dX4_year_59 rfl rfl ?_
          refine gf_X4_29 hC dX4_year_60 ?_
          refine gf_X4_132 hC dX4_year_63 ?_
          refine wd_iload_n hC dX4_year_66 rfl rfl ?_
          refine wd_aload_n hC dX4_year_67 rfl rfl ?_
          refine gf_X4_29 hC dX4_year_68 ?_
          refine gf_X4_132 hC dX4_year_71 ?_
          refine wd_iload_n hC dX4_year_74 rfl rfl ?_
          refine ld_m hC dX4_year_75 (i) rfl (by omega) ?_
          refine wd_iload_n hC dX4_year_76 rfl rfl ?_
          refine cvsi hC cw_X4_166 (c_storedBehind hinj _ _ _) dX4_year_77 (by first | decide | omega) (by decide) rfl rfl (Nat.le_of_ble_eq_true rfl) ?_
          refine st_m hC dX4_year_80 (i) rfl (by omega) ?_
          refine wd_ts (show _ = stM (lgAdd σ) 0 (yrM (tv σ) (mv σ 0) (i + 1)) from (by rw [stM_up _ _ _ (by decide), stM_c _ _ _ (by decide), yrM_5, yrM_s])) ?_
          refine wd_iincN_4_2 hC dX4_year_81 ?_
          refine wd_goto (tgt := 31) hC dX4_year_84 (by decide) ?_
          exact wd_lv (by rw [fedV, fedV, itr]; first | rw [if_pos c_53] | rw [if_neg c_53]; rfl) (ih (i + 1) _ (by omega) (by omega))
        · refine wd_iinc_4_1 hC dX4_year_56 rfl ?_
          refine wd_aload_n hC dX4_year_59 rfl rfl ?_
          refine gf_X4_29 hC dX4_year_60 ?_
          refine gf_X4_132 hC dX4_year_63 ?_
          refine wd_iload_n hC dX4_year_66 rfl rfl ?_
          refine wd_aload_n hC dX4_year_67 rfl rfl ?_
          refine gf_X4_29 hC dX4_year_68 ?_
          refine gf_X4_132 hC dX4_year_71 ?_
          refine wd_iload_n hC dX4_year_74 rfl rfl ?_
          refine ld_m hC dX4_year_75 (i) rfl (by omega) ?_
          refine wd_iload_n hC dX4_year_76 rfl rfl ?_
          refine cvsi hC cw_X4_166 (c_storedBehind hinj _ _ _) dX4_year_77 (by first | decide | omega) (by decide) rfl rfl (Nat.le_of_ble_eq_true rfl) ?_
          refine st_m hC dX4_year_80 (i) rfl (by omega) ?_
          refine wd_ts (show _ = stM (lgAdd σ) 0 (yrM (tv σ) (mv σ 0) (i + 1)) from (by rw [stM_up _ _ _ (by decide), stM_c _ _ _ (by decide), yrM_5, yrM_s])) ?_
          refine wd_iincN_4_2 hC dX4_year_81 ?_
          refine wd_goto (tgt := 31) hC dX4_year_84 (by decide) ?_
          exact wd_lv (by rw [fedV, fedV, itr]; first | rw [if_pos c_53] | rw [if_neg c_53]; rfl) (ih (i + 1) _ (by omega) (by omega))
  refine wd_aload_n hC dX4_year_0 rfl rfl ?_
  refine gf_X4_29 hC dX4_year_1 ?_
  refine gf_X4_135 hC dX4_year_4 ?_
  refine wd_sipush (v := 999) hC dX4_year_7 rfl ?_
  refine wd_icmp_lt (tgt := 16) hC dX4_year_10 (by decide) (fun c_10 => ?_) (fun c_10 => absurd hF c_10)
  refine wd_aload_n hC dX4_year_16 rfl rfl ?_
  refine gf_X4_39 hC dX4_year_17 ?_
  refine wd_aload_n hC dX4_year_20 rfl rfl ?_
  refine gf_X4_29 hC dX4_year_21 ?_
  refine cv0v hC cw_X4_151 (c_add hinj _ hL) dX4_year_24 (by first | decide | omega) (by decide) rfl rfl (Nat.le_of_ble_eq_true rfl) ?_
  refine wd_ts (show lgAdd σ = stM (lgAdd σ) 0 (yrM (tv σ) (mv σ 0) 0) from (by rw [yrM_0, ← mv_lgAdd σ hL, stM_self])) ?_
  refine wd_iconst (v := 0) hC dX4_year_27 rfl ?_
  refine wd_istore_n_4_1 hC dX4_year_28 ?_
  refine wd_iconst (v := 0) hC dX4_year_29 rfl ?_
  refine wd_istore_n_4_2 hC dX4_year_30 ?_
  exact loop (nMen (tv σ) + 1) 0 _ (Nat.zero_le _) (by omega)

/-! ===== the class: what if ===== -/
theorem tv_c {σ : wd_S} {j : Nat} {M : Nat → Nat → Int32} (ht : σ.2.2 < 2) {k : Nat} (hk : k < 13) {i : Nat} : (stM σ j M).1 (ct σ.2.2 + k) i = tv σ k i := by
  rw [stM_lo _ _ _ (by unfold ct; omega)]
  exact (if_pos hk).symm
theorem u2_self (M : Nat → Nat → Int32) (k i : Nat) : u2 M k i (M k i) = M := by
  funext a b
  unfold u2
  by_cases h : a = k ∧ b = i
  · rw [if_pos h, h.1, h.2]
  · rw [if_neg h]
theorem u2_u2 (M : Nat → Nat → Int32) (k i : Nat) (v w : Int32) : u2 (u2 M k i v) k i w = u2 M k i w := by
  funext a b
  unfold u2
  by_cases h : a = k ∧ b = i
  · rw [if_pos h, if_pos h]
  · rw [if_neg h, if_neg h, if_neg h]
theorem mOk_s {M : Nat → Nat → Int32} (h : mOk M) (i : Nat) {c : Nat} (hc : c < 3) : mOk (u2 M 1 i (nI c)) := by
  intro m hm
  refine ⟨?_, ?_⟩
  · show (0 ≤ (if 1 = 1 ∧ m = i then nI c else M 1 m)) ∧ (if 1 = 1 ∧ m = i then nI c else M 1 m) < nI 3
    by_cases e : 1 = 1 ∧ m = i
    · rw [if_pos e]
      exact ⟨nI_pos' (by omega), nI_lt hc (by decide)⟩
    · rw [if_neg e]
      exact (h m hm).1
  · show (if 2 = 1 ∧ m = i then nI c else M 2 m) < nI 6
    rw [if_neg (by omega)]
    exact (h m hm).2
def wMost (T M : Nat → Nat → Int32) (m : Nat) : Int32 := itr (fun c a => imax a (wHas T (u2 M 1 m (nI c)) m)) 0 (nCrops T)
def wHung (T M : Nat → Nat → Int32) (m : Nat) : Bool := if 0 ≤ M 2 m then decide (∀ c, c < nCrops T → wMost T (u2 M 1 (nFac M m) (nI c)) m < T 5 m) else decide (wMost T M m < T 5 m)
/-- only the trial has changed -/
def scr (σ σ' : wd_S) : Prop := ∃ M, mz M ∧ mOk M ∧ σ' = stM σ 1 M
theorem scr_rf {σ : wd_S} (h : mOk (mv σ 1)) : scr σ σ := ⟨mv σ 1, mz_mv σ 1, h, (stM_self σ 1).symm⟩
theorem st_cp (σ : wd_S) (M : Nat → Nat → Int32) : stM (stM σ 1 M) 1 (mv (stM σ 1 M) 0) = stM σ 1 (mv σ 0) := by rw [stM_st, mv_st_n _ (by decide)]

set_option maxRecDepth 100000 in
set_option maxHeartbeats 4000000 in
theorem c_mostBySowing {V : wd_V} {ad : Nat → Nat} (hinj : wd_inj cS ad) (σ : wd_S) (ht : σ.2.2 < 2) (hT : tOk (tv σ)) (M : Nat → Nat → Int32) (hz : mz M) (hM : mOk M) (x : Int32) (m : Nat) (hx : x = nI m) (hm : m < 6) : wd_C cS V ad 3 yX4_mostBySowing (Cond.code yX4_mostBySowing cX4_mostBySowing 5 (some .int) :: wsL_law) (stM σ 1 M) [.ref (ad 0), .int x] (wd_eq (some (.int (wMost (tv σ) M m))) (stM σ 1 M)) := by
  refine wd_intro (lv := [some (.ref (ad 0)), some (.int x), none, none, none]) hinj (by decide) rfl (Nat.le_of_ble_eq_true rfl) rfl (Nat.le_of_ble_eq_true rfl) (fun K hC => ?_)
  have h6 := hT.m6
  have h3 := hT.c3
  have loop : ∀ (k i : Nat) (v : Int32), i ≤ (nCrops (tv σ)) → (nCrops (tv σ)) < i + k → wd_G cS V ad K 5 (wd_Qm cS V ad K (wd_eq (some (.int (wMost (tv σ) M m))) (stM σ 1 M))) 15 [some (.ref (ad 0)), some (.int x), some (.int (M 1 m)), some (.int (itr (fun c a => imax a (wHas (tv σ) (u2 M 1 m (nI c)) m)) 0 i)), some (.int (nI i))] [] (stM σ 1 (u2 M 1 m v)) := by
    intro k
    induction k with
    | zero =>
      intro i v h1 h2 
      exact absurd h2 (by omega)
    | succ k ih =>
      intro i v h1 h2 
      refine wd_iload hC dX4_mostBySowing_15 rfl ?_
      refine wd_aload_n hC dX4_mostBySowing_17 rfl rfl ?_
      refine gf_X4_19 hC dX4_mostBySowing_18 ?_
      refine gf_X4_176 hC dX4_mostBySowing_21 ?_
      refine wd_icmp_ge (tgt := 58) hC dX4_mostBySowing_24 (by decide) (fun c_24 => ?_) (fun c_24 => ?_)
      · have hin : i = _ := lp_ge (crops_st ht hT) c_24 h1 (by omega)
        subst hin
        refine wd_aload_n hC dX4_mostBySowing_58 rfl rfl ?_
        refine gf_X4_33 hC dX4_mostBySowing_59 ?_
        refine gf_X4_98 hC dX4_mostBySowing_62 ?_
        refine wd_iload_n hC dX4_mostBySowing_65 rfl rfl ?_
        refine wd_iload_n hC dX4_mostBySowing_66 rfl rfl ?_
        refine st_m hC dX4_mostBySowing_67 (m) hx (by omega) ?_
        refine wd_iload_n hC dX4_mostBySowing_68 rfl rfl ?_
        exact wd_iret hC rfl dX4_mostBySowing_69 rfl (by rw [stM_up _ _ _ (by decide), u2_u2, u2_self])
      · have hin : i < _ := lp_lt (crops_st ht hT) c_24 h1 (by omega)
        refine wd_aload_n hC dX4_mostBySowing_27 rfl rfl ?_
        refine gf_X4_33 hC dX4_mostBySowing_28 ?_
        refine gf_X4_98 hC dX4_mostBySowing_31 ?_
        refine wd_iload_n hC dX4_mostBySowing_34 rfl rfl ?_
        refine wd_iload hC dX4_mostBySowing_35 rfl ?_
        refine st_m hC dX4_mostBySowing_37 (m) hx (by omega) ?_
        refine wd_ts (show _ = stM σ 1 (u2 M 1 m (nI i)) from (by rw [stM_up _ _ _ (by decide), u2_u2])) ?_
        refine wd_iload_n hC dX4_mostBySowing_38 rfl rfl ?_
        refine wd_aload_n hC dX4_mostBySowing_39 rfl rfl ?_
        refine wd_aload_n hC dX4_mostBySowing_40 rfl rfl ?_
        refine gf_X4_33 hC dX4_mostBySowing_41 ?_
        refine wd_iload_n hC dX4_mostBySowing_44 rfl rfl ?_
        refine cv4i hC cw_X4_129 (c_wealthV hinj σ ht 1 (by decide) _ (mz_u2 hz (by decide) _ _) (mOk_s hM m (by omega)) x m hx hm) dX4_mostBySowing_45 (by first | decide | omega) (by decide) rfl rfl (Nat.le_of_ble_eq_true rfl) ?_
        refine wd_mmax hC (wL_15 _ (List.mem_of_getElem? (i := 4) rfl)) (wL_15 _ (List.mem_of_getElem? (i := 5) rfl)) (wL_7 _ (List.mem_of_getElem? (i := 1) rfl)) (wL_15 _ (List.mem_of_getElem? (i := 6) rfl)) (by decide) (Nat.le_of_ble_eq_true rfl) dX4_mostBySowing_48 ?_
        refine wd_istore_n_5_3 hC dX4_mostBySowing_51 ?_
        refine wd_iincN_5_4 hC dX4_mostBySowing_52 ?_
        refine wd_goto (tgt := 15) hC dX4_mostBySowing_55 (by decide) ?_
        exact ih (i + 1) _ (by omega) (by omega)
  refine wd_ts (show stM σ 1 M = stM σ 1 (u2 M 1 m (M 1 m)) from (by rw [u2_self])) ?_
  refine wd_aload_n hC dX4_mostBySowing_0 rfl rfl ?_
  refine gf_X4_33 hC dX4_mostBySowing_1 ?_
  refine gf_X4_98 hC dX4_mostBySowing_4 ?_
  refine wd_iload_n hC dX4_mostBySowing_7 rfl rfl ?_
  refine ld_m hC dX4_mostBySowing_8 (m) hx (by omega) ?_
  refine wd_vi (show _ = M 1 m from (by rw [u2_self]; exact stM_c _ _ _ (by decide))) ?_
  refine wd_istore_n_5_2 hC dX4_mostBySowing_9 ?_
  refine wd_iconst (v := 0) hC dX4_mostBySowing_10 rfl ?_
  refine wd_istore_n_5_3 hC dX4_mostBySowing_11 ?_
  refine wd_iconst (v := 0) hC dX4_mostBySowing_12 rfl ?_
  refine wd_istore_5_4 hC dX4_mostBySowing_13 ?_
  exact loop (nCrops (tv σ) + 1) 0 (M 1 m) (Nat.zero_le _) (by omega)
set_option maxRecDepth 100000 in
set_option maxHeartbeats 4000000 in
theorem c_isContent {V : wd_V} {ad : Nat → Nat} (hinj : wd_inj cS ad) (σ : wd_S) (ht : σ.2.2 < 2) (hT : tOk (tv σ)) (M : Nat → Nat → Int32) (hz : mz M) (hM : mOk M) (x : Int32) (m : Nat) (hx : x = nI m) (hm : m < 6) : wd_C cS V ad 4 yX4_isContent (Cond.code yX4_isContent cX4_isContent 2 (some .boolean) :: wsL_law) (stM σ 1 M) [.ref (ad 0), .int x] (wd_eq (some (.int (bI (¬ wHas (tv σ) M m < wMost (tv σ) M m)))) (stM σ 1 M)) := by
  refine wd_intro (lv := [some (.ref (ad 0)), some (.int x)]) hinj (by decide) rfl (Nat.le_of_ble_eq_true rfl) rfl (Nat.le_of_ble_eq_true rfl) (fun K hC => ?_)
  refine wd_aload_n hC dX4_isContent_0 rfl rfl ?_
  refine wd_aload_n hC dX4_isContent_1 rfl rfl ?_
  refine gf_X4_33 hC dX4_isContent_2 ?_
  refine wd_iload_n hC dX4_isContent_5 rfl rfl ?_
  refine cv4i hC cw_X4_129 (c_wealthV hinj σ ht 1 (by decide) M hz hM x m hx hm) dX4_isContent_6 (by first | decide | omega) (by decide) rfl rfl (Nat.le_of_ble_eq_true rfl) ?_
  refine wd_aload_n hC dX4_isContent_9 rfl rfl ?_
  refine wd_iload_n hC dX4_isContent_10 rfl rfl ?_
  refine cv4i hC cw_X4_256 (c_mostBySowing hinj σ ht hT M hz hM x m hx hm) dX4_isContent_11 (by first | decide | omega) (by decide) rfl rfl (Nat.le_of_ble_eq_true rfl) ?_
  refine wd_icmp_lt (tgt := 21) hC dX4_isContent_14 (by decide) (fun c_14 => ?_) (fun c_14 => ?_)
  · refine wd_iconst (v := 0) hC dX4_isContent_21 rfl ?_
    exact wd_zret hC rfl rfl dX4_isContent_22 (by first | exact bI_t c_14 | exact bI_f (fun h => h c_14)) rfl
  · refine wd_iconst (v := 1) hC dX4_isContent_17 rfl ?_
    refine wd_goto (tgt := 22) hC dX4_isContent_18 (by decide) ?_
    exact wd_zret hC rfl rfl dX4_isContent_22 (by first | exact bI_t c_14 | exact bI_f (fun h => h c_14)) rfl
set_option maxRecDepth 100000 in
set_option maxHeartbeats 4000000 in
theorem c_isHungry {V : wd_V} {ad : Nat → Nat} (hinj : wd_inj cS ad) (σ : wd_S) (ht : σ.2.2 < 2) (hT : tOk (tv σ)) (M0 : Nat → Nat → Int32) (hM : mOk (mv σ 0)) (x : Int32) (m : Nat) (hx : x = nI m) (hm : m < 6) : wd_C cS V ad 4 yX4_isHungry (Cond.code yX4_isHungry cX4_isHungry 4 (some .boolean) :: wsL_law) (stM σ 1 M0) [.ref (ad 0), .int x] (wd_pi (fun r σ' => r = bI (wHung (tv σ) (mv σ 0) m = true) ∧ scr σ σ')) := by
  refine wd_intro (lv := [some (.ref (ad 0)), some (.int x), none, none]) hinj (by decide) rfl (Nat.le_of_ble_eq_true rfl) rfl (Nat.le_of_ble_eq_true rfl) (fun K hC => ?_)
  have h6 := hT.m6
  have h3 := hT.c3
  refine wd_aload_n hC dX4_isHungry_0 rfl rfl ?_
  refine gf_X4_33 hC dX4_isHungry_1 ?_
  refine wd_aload_n hC dX4_isHungry_4 rfl rfl ?_
  refine gf_X4_29 hC dX4_isHungry_5 ?_
  refine cv1v hC cw_X4_173 (c_copyFrom hinj _ 0 1 (by decide) (by decide) (by decide)) dX4_isHungry_8 (by first | decide | omega) (by decide) rfl rfl (Nat.le_of_ble_eq_true rfl) ?_
  refine wd_ts (st_cp σ M0) ?_
  refine wd_aload_n hC dX4_isHungry_11 rfl rfl ?_
  refine gf_X4_33 hC dX4_isHungry_12 ?_
  refine gf_X4_101 hC dX4_isHungry_15 ?_
  refine wd_iload_n hC dX4_isHungry_18 rfl rfl ?_
  refine ld_m hC dX4_isHungry_19 (m) hx (by omega) ?_
  refine wd_vi (show _ = mv σ 0 2 m from stM_c _ _ _ (by decide)) ?_
  refine wd_istore_n_4_2 hC dX4_isHungry_20 ?_
  refine wd_iload_n hC dX4_isHungry_21 rfl rfl ?_
  refine wd_if_ge (tgt := 48) hC dX4_isHungry_22 (by decide) (fun c_22 => ?_) (fun c_22 => ?_)
  · have hf := hM.f hm c_22
    have hf6 := hM.f6 hm c_22
    have loop : ∀ (k i : Nat) (v : Int32), i ≤ (nCrops (tv σ)) → (nCrops (tv σ)) < i + k → mOk (u2 (mv σ 0) 1 (nFac (mv σ 0) m) v) → (∀ c, c < i → wMost (tv σ) (u2 (mv σ 0) 1 (nFac (mv σ 0) m) (nI c)) m < tv σ 5 m) → wd_G cS V ad K 4 (wd_Qm cS V ad K (wd_pi (fun r σ' => r = bI (wHung (tv σ) (mv σ 0) m = true) ∧ scr σ σ'))) 50 [some (.ref (ad 0)), some (.int x), some (.int (mv σ 0 2 m)), some (.int (nI i))] [] (stM σ 1 (u2 (mv σ 0) 1 (nFac (mv σ 0) m) v)) := by
      intro k
      induction k with
      | zero =>
        intro i v h1 h2 hv hall
        exact absurd h2 (by omega)
      | succ k ih =>
        intro i v h1 h2 hv hall
        refine wd_iload_n hC dX4_isHungry_50 rfl rfl ?_
        refine wd_aload_n hC dX4_isHungry_51 rfl rfl ?_
        refine gf_X4_19 hC dX4_isHungry_52 ?_
        refine gf_X4_176 hC dX4_isHungry_55 ?_
        refine wd_icmp_ge (tgt := 96) hC dX4_isHungry_58 (by decide) (fun c_58 => ?_) (fun c_58 => ?_)
        · have hin : i = _ := lp_ge (crops_st ht hT) c_58 h1 (by omega)
          subst hin
          refine wd_iconst (v := 1) hC dX4_isHungry_96 rfl ?_
          exact wd_zretP hC rfl rfl dX4_isHungry_97 (⟨_, rfl, bI_t (by rw [wHung, if_pos c_22]; exact decide_eq_true hall), _, mz_u2 (mz_mv σ 0) (by decide) _ _, hv, rfl⟩)
        · have hin : i < _ := lp_lt (crops_st ht hT) c_58 h1 (by omega)
          refine wd_aload_n hC dX4_isHungry_61 rfl rfl ?_
          refine gf_X4_33 hC dX4_isHungry_62 ?_
          refine gf_X4_98 hC dX4_isHungry_65 ?_
          refine wd_iload_n hC dX4_isHungry_68 rfl rfl ?_
          refine wd_iload_n hC dX4_isHungry_69 rfl rfl ?_
          refine st_m hC dX4_isHungry_70 (nFac (mv σ 0) m) hf hf6 ?_
          refine wd_ts (show _ = stM σ 1 (u2 (mv σ 0) 1 (nFac (mv σ 0) m) (nI i)) from (by rw [stM_up _ _ _ (by decide), u2_u2])) ?_
          refine wd_aload_n hC dX4_isHungry_71 rfl rfl ?_
          refine wd_iload_n hC dX4_isHungry_72 rfl rfl ?_
          refine cv4i hC cw_X4_256 (c_mostBySowing hinj σ ht hT _ (mz_u2 (mz_mv σ 0) (by decide) _ _) (mOk_s hM _ (by omega)) x m hx hm) dX4_isHungry_73 (by first | decide | omega) (by decide) rfl rfl (Nat.le_of_ble_eq_true rfl) ?_
          refine wd_aload_n hC dX4_isHungry_76 rfl rfl ?_
          refine gf_X4_19 hC dX4_isHungry_77 ?_
          refine gf_X4_95 hC dX4_isHungry_80 ?_
          refine wd_iload_n hC dX4_isHungry_83 rfl rfl ?_
          refine ld_s hC dX4_isHungry_84 (m) hx (by omega) ?_
          refine wd_vi (tv_c ht (by decide)) ?_
          refine wd_icmp_lt (tgt := 90) hC dX4_isHungry_85 (by decide) (fun c_85 => ?_) (fun c_85 => ?_)
          · refine wd_iincN_4_3 hC dX4_isHungry_90 ?_
            refine wd_goto (tgt := 50) hC dX4_isHungry_93 (by decide) ?_
            exact ih (i + 1) _ (by omega) (by omega) (mOk_s hM _ (by omega)) (fun c hc => by rcases (show c < i ∨ c = i by omega) with h | rfl; exact hall c h; exact c_85)
          · refine wd_iconst (v := 0) hC dX4_isHungry_88 rfl ?_
            exact wd_zretP hC rfl rfl dX4_isHungry_89 (⟨_, rfl, bI_f (by rw [wHung, if_pos c_22]; exact fun h => c_85 (of_decide_eq_true h i hin)), _, mz_u2 (mz_mv σ 0) (by decide) _ _, mOk_s hM _ (by omega), rfl⟩)
    refine wd_iconst (v := 0) hC dX4_isHungry_48 rfl ?_
    refine wd_istore_n_4_3 hC dX4_isHungry_49 ?_
    refine wd_ts (show stM σ 1 (mv σ 0) = stM σ 1 (u2 (mv σ 0) 1 (nFac (mv σ 0) m) (mv σ 0 1 (nFac (mv σ 0) m))) from (by rw [u2_self])) ?_
    exact loop (nCrops (tv σ) + 1) 0 _ (Nat.zero_le _) (by omega) (by rw [u2_self]; exact hM) (fun c hc => absurd hc (by omega))
  · refine wd_aload_n hC dX4_isHungry_25 rfl rfl ?_
    refine wd_iload_n hC dX4_isHungry_26 rfl rfl ?_
    refine cv4i hC cw_X4_256 (c_mostBySowing hinj σ ht hT (mv σ 0) (mz_mv σ 0) hM x m hx hm) dX4_isHungry_27 (by first | decide | omega) (by decide) rfl rfl (Nat.le_of_ble_eq_true rfl) ?_
    refine wd_aload_n hC dX4_isHungry_30 rfl rfl ?_
    refine gf_X4_19 hC dX4_isHungry_31 ?_
    refine gf_X4_95 hC dX4_isHungry_34 ?_
    refine wd_iload_n hC dX4_isHungry_37 rfl rfl ?_
    refine ld_s hC dX4_isHungry_38 (m) hx (by omega) ?_
    refine wd_vi (tv_c ht (by decide)) ?_
    refine wd_icmp_ge (tgt := 46) hC dX4_isHungry_39 (by decide) (fun c_39 => ?_) (fun c_39 => ?_)
    · refine wd_iconst (v := 0) hC dX4_isHungry_46 rfl ?_
      exact wd_zretP hC rfl rfl dX4_isHungry_47 (⟨_, rfl, (by first | exact bI_t (by rw [wHung, if_neg c_22]; exact decide_eq_true (i_nle c_39)) | exact bI_f (by rw [wHung, if_neg c_22]; exact fun h => i_nlt (of_decide_eq_true h) c_39)), mv σ 0, mz_mv σ 0, hM, rfl⟩)
    · refine wd_iconst (v := 1) hC dX4_isHungry_42 rfl ?_
      refine wd_goto (tgt := 47) hC dX4_isHungry_43 (by decide) ?_
      exact wd_zretP hC rfl rfl dX4_isHungry_47 (⟨_, rfl, (by first | exact bI_t (by rw [wHung, if_neg c_22]; exact decide_eq_true (i_nle c_39)) | exact bI_f (by rw [wHung, if_neg c_22]; exact fun h => i_nlt (of_decide_eq_true h) c_39)), mv σ 0, mz_mv σ 0, hM, rfl⟩)

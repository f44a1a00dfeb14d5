/-! ===== the class: kinds ===== -/
theorem c_wealthT {V : wd_V} {ad : Nat → Nat} (hinj : wd_inj cS ad) (σ : wd_S) (t : Int64) (ht : σ.2.2 < 2) (hM : mOk (mv σ 0)) (x : Int32) (m : Nat) (hx : x = nI m) (hm : m < 6) : wd_C cS V ad 2 yX4_wealthOf (Cond.code yX4_wealthOf cX4_wealthOf 7 (some .int) :: wsL_law) (σ.1, t, σ.2.2) [.ref (ad 0), .ref (ad (cm 0)), .int x] (wd_eq (some (.int (wHas (tv σ) (mv σ 0) m))) (σ.1, t, σ.2.2)) := c_wealthOf hinj (σ.1, t, σ.2.2) ht 0 (by decide) x m hx hm hM
set_option maxRecDepth 100000 in
set_option maxHeartbeats 4000000 in
theorem c_rateMan {V : wd_V} {ad : Nat → Nat} (hinj : wd_inj cS ad) (σ : wd_S) (t : Int64) (ht : σ.2.2 < 2) (hM : mOk (mv σ 0)) (x : Int32) (m : Nat) (hx : x = nI m) (hm : m < 6) : wd_C cS V ad 3 yX4_rateMan (Cond.code yX4_rateMan cX4_rateMan 2 (some .int) :: wsL_law) (σ.1, t, σ.2.2) [.ref (ad 0), .int x] (wd_eq (some (.int (wHas (tv σ) (mv σ 0) m))) ((σ.1, t + 1, σ.2.2))) := by
  refine wd_intro (lv := [some (.ref (ad 0)), some (.int x)]) hinj (by decide) rfl (Nat.le_of_ble_eq_true rfl) rfl (Nat.le_of_ble_eq_true rfl) (fun K hC => ?_)
  refine wd_aload_n hC dX4_rateMan_0 rfl rfl ?_
  refine wd_dup hC dX4_rateMan_1 rfl ?_
  refine gf_X4_241 hC dX4_rateMan_2 ?_
  refine wd_lconst (v := 1) hC dX4_rateMan_5 rfl ?_
  refine wd_ladd hC dX4_rateMan_6 ?_
  refine pf_X4_241 hC dX4_rateMan_7 ?_
  refine wd_aload_n hC dX4_rateMan_10 rfl rfl ?_
  refine wd_aload_n hC dX4_rateMan_11 rfl rfl ?_
  refine gf_X4_29 hC dX4_rateMan_12 ?_
  refine wd_iload_n hC dX4_rateMan_15 rfl rfl ?_
  refine cv4i hC cw_X4_129 (c_wealthT hinj σ _ ht hM x m hx hm) dX4_rateMan_16 (by first | decide | omega) (by decide) rfl rfl (Nat.le_of_ble_eq_true rfl) ?_
  exact wd_iret hC rfl dX4_rateMan_19 rfl rfl
set_option maxRecDepth 100000 in
set_option maxHeartbeats 4000000 in
theorem c_rateGiant {V : wd_V} {ad : Nat → Nat} (hinj : wd_inj cS ad) (σ : wd_S) (t : Int64) (ht : σ.2.2 < 2) (hM : mOk (mv σ 0)) (x : Int32) (m : Nat) (hx : x = nI m) (hm : m < 6) : wd_C cS V ad 4 yX4_rateGiant (Cond.code yX4_rateGiant cX4_rateGiant 2 (some .int) :: wsL_law) (σ.1, t, σ.2.2) [.ref (ad 0), .int x] (wd_eq (some (.int (wHas (tv σ) (mv σ 0) m + tv σ 3 m))) ((σ.1, t + 10 + 1, σ.2.2))) := by
  refine wd_intro (lv := [some (.ref (ad 0)), some (.int x)]) hinj (by decide) rfl (Nat.le_of_ble_eq_true rfl) rfl (Nat.le_of_ble_eq_true rfl) (fun K hC => ?_)
  refine wd_aload_n hC dX4_rateGiant_0 rfl rfl ?_
  refine wd_dup hC dX4_rateGiant_1 rfl ?_
  refine gf_X4_241 hC dX4_rateGiant_2 ?_
  refine wd_ldc2 (v := (10)) hC dX4_rateGiant_5 (wL_27 _ (List.mem_of_getElem? (i := 19) rfl)) ?_
  refine wd_ladd hC dX4_rateGiant_8 ?_
  refine pf_X4_241 hC dX4_rateGiant_9 ?_
  refine wd_aload_n hC dX4_rateGiant_12 rfl rfl ?_
  refine wd_iload_n hC dX4_rateGiant_13 rfl rfl ?_
  refine cv4i hC cw_X4_223 (c_rateMan hinj σ _ ht hM x m hx hm) dX4_rateGiant_14 (by first | decide | omega) (by decide) rfl rfl (Nat.le_of_ble_eq_true rfl) ?_
  refine wd_aload_n hC dX4_rateGiant_17 rfl rfl ?_
  refine gf_X4_19 hC dX4_rateGiant_18 ?_
  refine gf_X4_89 hC dX4_rateGiant_21 ?_
  refine wd_iload_n hC dX4_rateGiant_24 rfl rfl ?_
  refine ld_s hC dX4_rateGiant_25 (m) hx (by omega) ?_
  refine wd_iadd hC dX4_rateGiant_26 ?_
  exact wd_iret hC rfl dX4_rateGiant_27 rfl rfl
set_option maxRecDepth 100000 in
set_option maxHeartbeats 4000000 in
theorem c_rateWidow {V : wd_V} {ad : Nat → Nat} (hinj : wd_inj cS ad) (σ : wd_S) (t : Int64) (ht : σ.2.2 < 2) (hM : mOk (mv σ 0)) (x : Int32) (m : Nat) (hx : x = nI m) (hm : m < 6) : wd_C cS V ad 4 yX4_rateWidow (Cond.code yX4_rateWidow cX4_rateWidow 2 (some .int) :: wsL_law) (σ.1, t, σ.2.2) [.ref (ad 0), .int x] (wd_eq (some (.int (wHas (tv σ) (mv σ 0) m - tv σ 5 m))) ((σ.1, t + 100 + 1, σ.2.2))) := by
  refine wd_intro (lv := [some (.ref (ad 0)), some (.int x)]) hinj (by decide) rfl (Nat.le_of_ble_eq_true rfl) rfl (Nat.le_of_ble_eq_true rfl) (fun K hC => ?_)
  refine wd_aload_n hC dX4_rateWidow_0 rfl rfl ?_
  refine wd_dup hC dX4_rateWidow_1 rfl ?_
  refine gf_X4_241 hC dX4_rateWidow_2 ?_
  refine wd_ldc2 (v := (100)) hC dX4_rateWidow_5 (wL_28 _ (List.mem_of_getElem? (i := 0) rfl)) ?_
  refine wd_ladd hC dX4_rateWidow_8 ?_
  refine pf_X4_241 hC dX4_rateWidow_9 ?_
  refine wd_aload_n hC dX4_rateWidow_12 rfl rfl ?_
  refine wd_iload_n hC dX4_rateWidow_13 rfl rfl ?_
  refine cv4i hC cw_X4_223 (c_rateMan hinj σ _ ht hM x m hx hm) dX4_rateWidow_14 (by first | decide | omega) (by decide) rfl rfl (Nat.le_of_ble_eq_true rfl) ?_
  refine wd_aload_n hC dX4_rateWidow_17 rfl rfl ?_
  refine gf_X4_19 hC dX4_rateWidow_18 ?_
  refine gf_X4_95 hC dX4_rateWidow_21 ?_
  refine wd_iload_n hC dX4_rateWidow_24 rfl rfl ?_
  refine ld_s hC dX4_rateWidow_25 (m) hx (by omega) ?_
  refine wd_isub hC dX4_rateWidow_26 ?_
  exact wd_iret hC rfl dX4_rateWidow_27 rfl rfl
set_option maxRecDepth 100000 in
set_option maxHeartbeats 4000000 in
theorem c_rateBrother {V : wd_V} {ad : Nat → Nat} (hinj : wd_inj cS ad) (σ : wd_S) (t : Int64) (ht : σ.2.2 < 2) (hM : mOk (mv σ 0)) (x : Int32) (m : Nat) (hx : x = nI m) (hm : m < 6) : wd_C cS V ad 5 yX4_rateBrother (Cond.code yX4_rateBrother cX4_rateBrother 2 (some .int) :: wsL_law) (σ.1, t, σ.2.2) [.ref (ad 0), .int x] (wd_eq (some (.int (2 * (wHas (tv σ) (mv σ 0) m + tv σ 3 m)))) ((σ.1, t + 1000 + 10 + 1, σ.2.2))) := by
  refine wd_intro (lv := [some (.ref (ad 0)), some (.int x)]) hinj (by decide) rfl (Nat.le_of_ble_eq_true rfl) rfl (Nat.le_of_ble_eq_true rfl) (fun K hC => ?_)
  refine wd_aload_n hC dX4_rateBrother_0 rfl rfl ?_
  refine wd_dup hC dX4_rateBrother_1 rfl ?_
  refine gf_X4_241 hC dX4_rateBrother_2 ?_
  refine wd_ldc2 (v := (1000)) hC dX4_rateBrother_5 (wL_28 _ (List.mem_of_getElem? (i := 5) rfl)) ?_
  refine wd_ladd hC dX4_rateBrother_8 ?_
  refine pf_X4_241 hC dX4_rateBrother_9 ?_
  refine wd_iconst (v := 2) hC dX4_rateBrother_12 rfl ?_
  refine wd_aload_n hC dX4_rateBrother_13 rfl rfl ?_
  refine wd_iload_n hC dX4_rateBrother_14 rfl rfl ?_
  refine cv4i hC cw_X4_226 (c_rateGiant hinj σ _ ht hM x m hx hm) dX4_rateBrother_15 (by first | decide | omega) (by decide) rfl rfl (Nat.le_of_ble_eq_true rfl) ?_
  refine wd_imul hC dX4_rateBrother_18 ?_
  exact wd_iret hC rfl dX4_rateBrother_19 rfl rfl
set_option maxRecDepth 100000 in
set_option maxHeartbeats 4000000 in
theorem c_rateGleaner {V : wd_V} {ad : Nat → Nat} (hinj : wd_inj cS ad) (σ : wd_S) (t : Int64) (ht : σ.2.2 < 2) (hM : mOk (mv σ 0)) (x : Int32) (m : Nat) (hx : x = nI m) (hm : m < 6) : wd_C cS V ad 5 yX4_rateGleaner (Cond.code yX4_rateGleaner cX4_rateGleaner 2 (some .int) :: wsL_law) (σ.1, t, σ.2.2) [.ref (ad 0), .int x] (wd_eq (some (.int (wHas (tv σ) (mv σ 0) m - tv σ 5 m + x))) ((σ.1, t + 10000 + 100 + 1, σ.2.2))) := by
  refine wd_intro (lv := [some (.ref (ad 0)), some (.int x)]) hinj (by decide) rfl (Nat.le_of_ble_eq_true rfl) rfl (Nat.le_of_ble_eq_true rfl) (fun K hC => ?_)
  refine wd_aload_n hC dX4_rateGleaner_0 rfl rfl ?_
  refine wd_dup hC dX4_rateGleaner_1 rfl ?_
  refine gf_X4_241 hC dX4_rateGleaner_2 ?_
  refine wd_ldc2 (v := (10000)) hC dX4_rateGleaner_5 (wL_28 _ (List.mem_of_getElem? (i := 10) rfl)) ?_
  refine wd_ladd hC dX4_rateGleaner_8 ?_
  refine pf_X4_241 hC dX4_rateGleaner_9 ?_
  refine wd_aload_n hC dX4_rateGleaner_12 rfl rfl ?_
  refine wd_iload_n hC dX4_rateGleaner_13 rfl rfl ?_
  refine cv4i hC cw_X4_229 (c_rateWidow hinj σ _ ht hM x m hx hm) dX4_rateGleaner_14 (by first | decide | omega) (by decide) rfl rfl (Nat.le_of_ble_eq_true rfl) ?_
  refine wd_iload_n hC dX4_rateGleaner_17 rfl rfl ?_
  refine wd_iadd hC dX4_rateGleaner_18 ?_
  exact wd_iret hC rfl dX4_rateGleaner_19 rfl rfl
set_option maxRecDepth 100000 in
set_option maxHeartbeats 4000000 in
theorem c_rateGuest {V : wd_V} {ad : Nat → Nat} (hinj : wd_inj cS ad) (σ : wd_S) (t : Int64) (ht : σ.2.2 < 2) (hM : mOk (mv σ 0)) (x : Int32) (m : Nat) (hx : x = nI m) (hm : m < 6) : wd_C cS V ad 4 yX4_rateGuest (Cond.code yX4_rateGuest cX4_rateGuest 2 (some .int) :: wsL_law) (σ.1, t, σ.2.2) [.ref (ad 0), .int x] (wd_eq (some (.int (wHas (tv σ) (mv σ 0) m + mv σ 0 0 6))) ((σ.1, t + 100000 + 1, σ.2.2))) := by
  refine wd_intro (lv := [some (.ref (ad 0)), some (.int x)]) hinj (by decide) rfl (Nat.le_of_ble_eq_true rfl) rfl (Nat.le_of_ble_eq_true rfl) (fun K hC => ?_)
  refine wd_aload_n hC dX4_rateGuest_0 rfl rfl ?_
  refine wd_dup hC dX4_rateGuest_1 rfl ?_
  refine gf_X4_241 hC dX4_rateGuest_2 ?_
  refine wd_ldc2 (v := (100000)) hC dX4_rateGuest_5 (wL_28 _ (List.mem_of_getElem? (i := 15) rfl)) ?_
  refine wd_ladd hC dX4_rateGuest_8 ?_
  refine pf_X4_241 hC dX4_rateGuest_9 ?_
  refine wd_aload_n hC dX4_rateGuest_12 rfl rfl ?_
  refine wd_iload_n hC dX4_rateGuest_13 rfl rfl ?_
  refine cv4i hC cw_X4_223 (c_rateMan hinj σ _ ht hM x m hx hm) dX4_rateGuest_14 (by first | decide | omega) (by decide) rfl rfl (Nat.le_of_ble_eq_true rfl) ?_
  refine wd_aload_n hC dX4_rateGuest_17 rfl rfl ?_
  refine gf_X4_29 hC dX4_rateGuest_18 ?_
  refine gf_X4_135 hC dX4_rateGuest_21 ?_
  refine wd_iadd hC dX4_rateGuest_24 ?_
  exact wd_iret hC rfl dX4_rateGuest_25 rfl rfl
def rateV (T M : Nat → Nat → Int32) (m : Nat) (y k : Int32) : Int32 := if k = 0 then wHas T M m else if k = 1 then wHas T M m + T 3 m else if k = 2 then wHas T M m - T 5 m else if k = 3 then 2 * (wHas T M m + T 3 m) else if k = 4 then wHas T M m - T 5 m + y else if k = 5 then wHas T M m + M 0 6 else -1000000
def rateT (t : Int64) (k : Int32) : Int64 := if k = 0 then t + 1 else if k = 1 then t + 10 + 1 else if k = 2 then t + 100 + 1 else if k = 3 then t + 1000 + 10 + 1 else if k = 4 then t + 10000 + 100 + 1 else if k = 5 then t + 100000 + 1 else t
set_option maxRecDepth 100000 in
set_option maxHeartbeats 4000000 in
theorem c_rate_bad {V : wd_V} {ad : Nat → Nat} (hinj : wd_inj cS ad) (σ : wd_S) (ht : σ.2.2 < 2) (x y : Int32) (hB : ¬ pMan (tv σ) y) : wd_C cS V ad 2 yX4_rate (Cond.code yX4_rate cX4_rate 3 (some .int) :: wsL_law) σ [.ref (ad 0), .int x, .int y] (wd_eq (some (.int (-1000000))) (σ)) := by
  refine wd_intro (lv := [some (.ref (ad 0)), some (.int x), some (.int y)]) hinj (by decide) rfl (Nat.le_of_ble_eq_true rfl) rfl (Nat.le_of_ble_eq_true rfl) (fun K hC => ?_)
  refine wd_aload_n hC dX4_rate_0 rfl rfl ?_
  refine wd_iload_n hC dX4_rate_1 rfl rfl ?_
  refine cv4i hC cw_X4_85 (c_isMan hinj _ ht _) dX4_rate_2 (by first | decide | omega) (by decide) rfl rfl (Nat.le_of_ble_eq_true rfl) ?_
  refine wd_if_ne (tgt := 11) hC dX4_rate_5 (by decide) (fun c_5 => ?_) (fun c_5 => ?_)
  · replace c_5 := bI_1.mp c_5
    exact absurd c_5 hB
  · replace c_5 := bI_0.mp c_5
    refine wd_ldc (v := (-1000000)) hC dX4_rate_8 (wL_12 _ (List.mem_of_getElem? (i := 6) rfl)) ?_
    exact wd_iret hC rfl dX4_rate_10 rfl rfl
set_option maxRecDepth 100000 in
set_option maxHeartbeats 4000000 in
theorem c_rate {V : wd_V} {ad : Nat → Nat} (hinj : wd_inj cS ad) (σ : wd_S) (ht : σ.2.2 < 2) (hT : tOk (tv σ)) (hM : mOk (mv σ 0)) (x y : Int32) (m : Nat) (hy : y = nI m) (hm : m < nMen (tv σ)) : wd_C cS V ad 6 yX4_rate (Cond.code yX4_rate cX4_rate 3 (some .int) :: wsL_law) σ [.ref (ad 0), .int x, .int y] (wd_eq (some (.int (rateV (tv σ) (mv σ 0) m y x))) ((σ.1, rateT σ.2.1 x, σ.2.2))) := by
  refine wd_intro (lv := [some (.ref (ad 0)), some (.int x), some (.int y)]) hinj (by decide) rfl (Nat.le_of_ble_eq_true rfl) rfl (Nat.le_of_ble_eq_true rfl) (fun K hC => ?_)
  have h6 := hT.m6
  have h3 := hT.c3
  refine wd_aload_n hC dX4_rate_0 rfl rfl ?_
  refine wd_iload_n hC dX4_rate_1 rfl rfl ?_
  refine cv4i hC cw_X4_85 (c_isMan hinj _ ht _) dX4_rate_2 (by first | decide | omega) (by decide) rfl rfl (Nat.le_of_ble_eq_true rfl) ?_
  refine wd_if_ne (tgt := 11) hC dX4_rate_5 (by decide) (fun c_5 => ?_) (fun c_5 => absurd c_5 (bIm (pm_of hT hy hm)))
  refine wd_iload_n hC dX4_rate_11 rfl rfl ?_
  by_cases e_0 : x = 0
  · refine wd_vi e_0 ?_
    refine wd_tableIn (off := 40) (tgt := 52) hC dX4_rate_12 (by decide) (by decide) rfl (by decide) ?_
    refine wd_aload_n hC dX4_rate_52 rfl rfl ?_
    refine wd_iload_n hC dX4_rate_53 rfl rfl ?_
    refine cv4i hC cw_X4_223 (c_rateMan hinj σ _ ht hM y m hy (by omega)) dX4_rate_54 (by first | decide | omega) (by decide) rfl rfl (Nat.le_of_ble_eq_true rfl) ?_
    exact wd_iret hC rfl dX4_rate_57 (by rw [rateV, if_pos e_0]; try rfl) (by rw [rateT, if_pos e_0]; try rfl)
  · skip
    by_cases e_1 : x = 1
    · refine wd_vi e_1 ?_
      refine wd_tableIn (off := 46) (tgt := 58) hC dX4_rate_12 (by decide) (by decide) rfl (by decide) ?_
      refine wd_aload_n hC dX4_rate_58 rfl rfl ?_
      refine wd_iload_n hC dX4_rate_59 rfl rfl ?_
      refine cv4i hC cw_X4_226 (c_rateGiant hinj σ _ ht hM y m hy (by omega)) dX4_rate_60 (by first | decide | omega) (by decide) rfl rfl (Nat.le_of_ble_eq_true rfl) ?_
      exact wd_iret hC rfl dX4_rate_63 (by rw [rateV, if_neg e_0, if_pos e_1]; try rfl) (by rw [rateT, if_neg e_0, if_pos e_1]; try rfl)
    · skip
      by_cases e_2 : x = 2
      · refine wd_vi e_2 ?_
        refine wd_tableIn (off := 52) (tgt := 64) hC dX4_rate_12 (by decide) (by decide) rfl (by decide) ?_
        refine wd_aload_n hC dX4_rate_64 rfl rfl ?_
        refine wd_iload_n hC dX4_rate_65 rfl rfl ?_
        refine cv4i hC cw_X4_229 (c_rateWidow hinj σ _ ht hM y m hy (by omega)) dX4_rate_66 (by first | decide | omega) (by decide) rfl rfl (Nat.le_of_ble_eq_true rfl) ?_
        exact wd_iret hC rfl dX4_rate_69 (by rw [rateV, if_neg e_0, if_neg e_1, if_pos e_2]; try rfl) (by rw [rateT, if_neg e_0, if_neg e_1, if_pos e_2]; try rfl)
      · skip
        by_cases e_3 : x = 3
        · refine wd_vi e_3 ?_
          refine wd_tableIn (off := 58) (tgt := 70) hC dX4_rate_12 (by decide) (by decide) rfl (by decide) ?_
          refine wd_aload_n hC dX4_rate_70 rfl rfl ?_
          refine wd_iload_n hC dX4_rate_71 rfl rfl ?_
          refine cv4i hC cw_X4_232 (c_rateBrother hinj σ _ ht hM y m hy (by omega)) dX4_rate_72 (by first | decide | omega) (by decide) rfl rfl (Nat.le_of_ble_eq_true rfl) ?_
          exact wd_iret hC rfl dX4_rate_75 (by rw [rateV, if_neg e_0, if_neg e_1, if_neg e_2, if_pos e_3]; try rfl) (by rw [rateT, if_neg e_0, if_neg e_1, if_neg e_2, if_pos e_3]; try rfl)
        · skip
          by_cases e_4 : x = 4
          · refine wd_vi e_4 ?_
            refine wd_tableIn (off := 64) (tgt := 76) hC dX4_rate_12 (by decide) (by decide) rfl (by decide) ?_
            refine wd_aload_n hC dX4_rate_76 rfl rfl ?_
            refine wd_iload_n hC dX4_rate_77 rfl rfl ?_
            refine cv4i hC cw_X4_235 (c_rateGleaner hinj σ _ ht hM y m hy (by omega)) dX4_rate_78 (by first | decide | omega) (by decide) rfl rfl (Nat.le_of_ble_eq_true rfl) ?_
            exact wd_iret hC rfl dX4_rate_81 (by rw [rateV, if_neg e_0, if_neg e_1, if_neg e_2, if_neg e_3, if_pos e_4]; try rfl) (by rw [rateT, if_neg e_0, if_neg e_1, if_neg e_2, if_neg e_3, if_pos e_4]; try rfl)
          · skip
            by_cases e_5 : x = 5
            · refine wd_vi e_5 ?_
              refine wd_tableIn (off := 70) (tgt := 82) hC dX4_rate_12 (by decide) (by decide) rfl (by decide) ?_
              refine wd_aload_n hC dX4_rate_82 rfl rfl ?_
              refine wd_iload_n hC dX4_rate_83 rfl rfl ?_
              refine cv4i hC cw_X4_238 (c_rateGuest hinj σ _ ht hM y m hy (by omega)) dX4_rate_84 (by first | decide | omega) (by decide) rfl rfl (Nat.le_of_ble_eq_true rfl) ?_
              exact wd_iret hC rfl dX4_rate_87 (by rw [rateV, if_neg e_0, if_neg e_1, if_neg e_2, if_neg e_3, if_neg e_4, if_pos e_5]; try rfl) (by rw [rateT, if_neg e_0, if_neg e_1, if_neg e_2, if_neg e_3, if_neg e_4, if_pos e_5]; try rfl)
            · skip
              refine wd_tableOut (tgt := 88) hC dX4_rate_12 (sw_out 5 (fun k hk => by rcases (show k = 0 ∨ k = 1 ∨ k = 2 ∨ k = 3 ∨ k = 4 ∨ k = 5 by omega) with rfl | rfl | rfl | rfl | rfl | rfl <;> assumption)) (by decide) ?_
              refine wd_ldc (v := (-1000000)) hC dX4_rate_88 (wL_12 _ (List.mem_of_getElem? (i := 6) rfl)) ?_
              exact wd_iret hC rfl dX4_rate_90 (by rw [rateV, if_neg e_0, if_neg e_1, if_neg e_2, if_neg e_3, if_neg e_4, if_neg e_5]; try rfl) (by rw [rateT, if_neg e_0, if_neg e_1, if_neg e_2, if_neg e_3, if_neg e_4, if_neg e_5]; try rfl)
/-! ===== the class: fractions ===== -/
def gcl : Nat → Int32 → Int32 → Int32
  | 0, a, _ => a
  | k + 1, a, b => if b = 0 then a else gcl k b (a - a / b * b)
def leastV (u l w : Int32) : Int32 := if gcl 64 l u = 0 then w else if w = 0 then u / gcl 64 l u else l / gcl 64 l u
theorem gcl_s {i : Nat} (h : i < 64) (a b : Int32) : gcl (64 - i) a b = if b = 0 then a else gcl (64 - (i + 1)) b (a - a / b * b) := by
  rw [show 64 - i = (64 - (i + 1)) + 1 by omega]
  rfl

set_option maxRecDepth 100000 in
set_option maxHeartbeats 4000000 in
theorem c_inLeastTerms {V : wd_V} {ad : Nat → Nat} (hinj : wd_inj cS ad) (σ : wd_S) (x y z : Int32) : wd_C cS V ad 0 yX4_inLeastTerms (Cond.code yX4_inLeastTerms cX4_inLeastTerms 7 (some .int) :: wsL_law) σ [.int x, .int y, .int z] (wd_eq (some (.int (leastV x y z))) (σ)) := by
  refine wd_intro (lv := [some (.int x), some (.int y), some (.int z), none, none, none, none]) hinj (by decide) rfl (Nat.le_of_ble_eq_true rfl) rfl (Nat.le_of_ble_eq_true rfl) (fun K hC => ?_)
  have loop : ∀ (k i : Nat) (a b : Int32) (o : Option Value), i ≤ 64 → 64 < i + k → gcl (64 - i) a b = gcl 64 y x → wd_G cS V ad K 7 (wd_Qm cS V ad K (wd_eq (some (.int (leastV x y z))) σ)) 8 [some (.int x), some (.int y), some (.int z), some (.int a), some (.int b), some (.int (nI i)), o] [] σ := by
    intro k
    induction k with
    | zero =>
      intro i a b o h1 h2 hg
      exact absurd h2 (by omega)
    | succ k ih =>
      intro i a b o h1 h2 hg
      refine wd_iload hC dX4_inLeastTerms_8 rfl ?_
      refine wd_bipush (v := 64) hC dX4_inLeastTerms_10 rfl ?_
      refine wd_icmp_ge (tgt := 39) hC dX4_inLeastTerms_12 (by decide) (fun c_12 => ?_) (fun c_12 => ?_)
      · have hin : i = 64 := lp_ge (x := 64) (n := 64) rfl c_12 h1 (by decide)
        subst hin
        replace hg : a = gcl 64 y x := hg
        refine wd_iload_n hC dX4_inLeastTerms_39 rfl rfl ?_
        refine wd_if_ne (tgt := 45) hC dX4_inLeastTerms_40 (by decide) (fun c_40 => ?_) (fun c_40 => ?_)
        · refine wd_iload_n hC dX4_inLeastTerms_45 rfl rfl ?_
          refine wd_if_ne (tgt := 55) hC dX4_inLeastTerms_46 (by decide) (fun c_46 => ?_) (fun c_46 => ?_)
          · refine wd_iload_n hC dX4_inLeastTerms_55 rfl rfl ?_
            refine wd_iload_n hC dX4_inLeastTerms_56 rfl rfl ?_
            refine wd_idiv hC dX4_inLeastTerms_57 c_40 ?_
            exact wd_iret hC rfl dX4_inLeastTerms_58 (by rw [leastV, ← hg]; first | (rw [if_pos c_40]) | (rw [if_neg c_40, if_pos c_46]) | (rw [if_neg c_40, if_neg c_46])) rfl
          · refine wd_iload_n hC dX4_inLeastTerms_49 rfl rfl ?_
            refine wd_iload_n hC dX4_inLeastTerms_50 rfl rfl ?_
            refine wd_idiv hC dX4_inLeastTerms_51 c_40 ?_
            refine wd_goto (tgt := 58) hC dX4_inLeastTerms_52 (by decide) ?_
            exact wd_iret hC rfl dX4_inLeastTerms_58 (by rw [leastV, ← hg]; first | (rw [if_pos c_40]) | (rw [if_neg c_40, if_pos c_46]) | (rw [if_neg c_40, if_neg c_46])) rfl
        · refine wd_iload_n hC dX4_inLeastTerms_43 rfl rfl ?_
          exact wd_iret hC rfl dX4_inLeastTerms_44 (by rw [leastV, ← hg]; first | (rw [if_pos c_40]) | (rw [if_neg c_40, if_pos c_46]) | (rw [if_neg c_40, if_neg c_46])) rfl
      · have hin : i < 64 := lp_lt (x := 64) (n := 64) rfl c_12 h1 (by decide)
        rw [gcl_s hin] at hg
        refine wd_iload hC dX4_inLeastTerms_15 rfl ?_
        refine wd_if_eq (tgt := 39) hC dX4_inLeastTerms_17 (by decide) (fun c_17 => ?_) (fun c_17 => ?_)
        · replace hg : a = gcl 64 y x := (if_pos c_17).symm.trans hg
          refine wd_iload_n hC dX4_inLeastTerms_39 rfl rfl ?_
          refine wd_if_ne (tgt := 45) hC dX4_inLeastTerms_40 (by decide) (fun c_40 => ?_) (fun c_40 => ?_)
          · refine wd_iload_n hC dX4_inLeastTerms_45 rfl rfl ?_
            refine wd_if_ne (tgt := 55) hC dX4_inLeastTerms_46 (by decide) (fun c_46 => ?_) (fun c_46 => ?_)
            · refine wd_iload_n hC dX4_inLeastTerms_55 rfl rfl ?_
              refine wd_iload_n hC dX4_inLeastTerms_56 rfl rfl ?_
              refine wd_idiv hC dX4_inLeastTerms_57 c_40 ?_
              exact wd_iret hC rfl dX4_inLeastTerms_58 (by rw [leastV, ← hg]; first | (rw [if_pos c_40]) | (rw [if_neg c_40, if_pos c_46]) | (rw [if_neg c_40, if_neg c_46])) rfl
            · refine wd_iload_n hC dX4_inLeastTerms_49 rfl rfl ?_
              refine wd_iload_n hC dX4_inLeastTerms_50 rfl rfl ?_
              refine wd_idiv hC dX4_inLeastTerms_51 c_40 ?_
              refine wd_goto (tgt := 58) hC dX4_inLeastTerms_52 (by decide) ?_
              exact wd_iret hC rfl dX4_inLeastTerms_58 (by rw [leastV, ← hg]; first | (rw [if_pos c_40]) | (rw [if_neg c_40, if_pos c_46]) | (rw [if_neg c_40, if_neg c_46])) rfl
          · refine wd_iload_n hC dX4_inLeastTerms_43 rfl rfl ?_
            exact wd_iret hC rfl dX4_inLeastTerms_44 (by rw [leastV, ← hg]; first | (rw [if_pos c_40]) | (rw [if_neg c_40, if_pos c_46]) | (rw [if_neg c_40, if_neg c_46])) rfl
        · replace hg := (if_neg c_17).symm.trans hg
          refine wd_iload_n hC dX4_inLeastTerms_20 rfl rfl ?_
          refine wd_iload hC dX4_inLeastTerms_21 rfl ?_
          refine wd_irem hC dX4_inLeastTerms_23 c_17 ?_
          refine wd_istore_7_6 hC dX4_inLeastTerms_24 ?_
          refine wd_iload hC dX4_inLeastTerms_26 rfl ?_
          refine wd_istore_n_7_3 hC dX4_inLeastTerms_28 ?_
          refine wd_iload hC dX4_inLeastTerms_29 rfl ?_
          refine wd_istore_7_4 hC dX4_inLeastTerms_31 ?_
          refine wd_iincN_7_5 hC dX4_inLeastTerms_33 ?_
          refine wd_goto (tgt := 8) hC dX4_inLeastTerms_36 (by decide) ?_
          exact ih (i + 1) _ _ _ (by omega) (by omega) hg
  refine wd_iload_n hC dX4_inLeastTerms_0 rfl rfl ?_
  refine wd_istore_n_7_3 hC dX4_inLeastTerms_1 ?_
  refine wd_iload_n hC dX4_inLeastTerms_2 rfl rfl ?_
  refine wd_istore_7_4 hC dX4_inLeastTerms_3 ?_
  refine wd_iconst (v := 0) hC dX4_inLeastTerms_5 rfl ?_
  refine wd_istore_7_5 hC dX4_inLeastTerms_6 ?_
  exact loop 65 0 _ _ _ (by decide) (by decide) rfl
set_option maxRecDepth 100000 in
set_option maxHeartbeats 4000000 in
theorem c_share_bad {V : wd_V} {ad : Nat → Nat} (hinj : wd_inj cS ad) (σ : wd_S) (ht : σ.2.2 < 2) (x y : Int32) (hB : ¬ (pMan (tv σ) x ∧ pBelow y 2)) : wd_C cS V ad 2 yX4_share (Cond.code yX4_share cX4_share 3 (some .int) :: wsL_law) σ [.ref (ad 0), .int x, .int y] (wd_eq (some (.int (-1))) (σ)) := by
  refine wd_intro (lv := [some (.ref (ad 0)), some (.int x), some (.int y)]) hinj (by decide) rfl (Nat.le_of_ble_eq_true rfl) rfl (Nat.le_of_ble_eq_true rfl) (fun K hC => ?_)
  refine wd_aload_n hC dX4_share_0 rfl rfl ?_
  refine wd_iload_n hC dX4_share_1 rfl rfl ?_
  refine cv4i hC cw_X4_85 (c_isMan hinj _ ht _) dX4_share_2 (by first | decide | omega) (by decide) rfl rfl (Nat.le_of_ble_eq_true rfl) ?_
  refine wd_if_eq (tgt := 16) hC dX4_share_5 (by decide) (fun c_5 => ?_) (fun c_5 => ?_)
  · replace c_5 := bI_0.mp c_5
    refine wd_iconst (v := -1) hC dX4_share_16 rfl ?_
    exact wd_iret hC rfl dX4_share_17 rfl rfl
  · replace c_5 := bI_1.mp c_5
    refine wd_iload_n hC dX4_share_8 rfl rfl ?_
    refine wd_iconst (v := 2) hC dX4_share_9 rfl ?_
    refine cvsi hC cw_X4_155 (c_isBelow hinj _ _ _) dX4_share_10 (by first | decide | omega) (by decide) rfl rfl (Nat.le_of_ble_eq_true rfl) ?_
    refine wd_if_ne (tgt := 18) hC dX4_share_13 (by decide) (fun c_13 => ?_) (fun c_13 => ?_)
    · replace c_13 := bI_1.mp c_13
      exact absurd ⟨c_5, c_13⟩ hB
    · replace c_13 := bI_0.mp c_13
      refine wd_iconst (v := -1) hC dX4_share_16 rfl ?_
      exact wd_iret hC rfl dX4_share_17 rfl rfl
set_option maxRecDepth 100000 in
set_option maxHeartbeats 4000000 in
theorem c_share {V : wd_V} {ad : Nat → Nat} (hinj : wd_inj cS ad) (σ : wd_S) (ht : σ.2.2 < 2) (hT : tOk (tv σ)) (x : Int32) (m : Nat) (hx : x = nI m) (hm : m < nMen (tv σ)) (hM : mOk (mv σ 0)) (y : Int32) (hp : pBelow y 2) : wd_C cS V ad 4 yX4_share (Cond.code yX4_share cX4_share 3 (some .int) :: wsL_law) σ [.ref (ad 0), .int x, .int y] (wd_eq (some (.int (leastV (wHas (tv σ) (mv σ 0) m) (wAll (tv σ) (mv σ 0)) y))) (σ)) := by
  refine wd_intro (lv := [some (.ref (ad 0)), some (.int x), some (.int y)]) hinj (by decide) rfl (Nat.le_of_ble_eq_true rfl) rfl (Nat.le_of_ble_eq_true rfl) (fun K hC => ?_)
  have h6 := hT.m6
  have h3 := hT.c3
  refine wd_aload_n hC dX4_share_0 rfl rfl ?_
  refine wd_iload_n hC dX4_share_1 rfl rfl ?_
  refine cv4i hC cw_X4_85 (c_isMan hinj _ ht _) dX4_share_2 (by first | decide | omega) (by decide) rfl rfl (Nat.le_of_ble_eq_true rfl) ?_
  refine wd_if_eq (tgt := 16) hC dX4_share_5 (by decide) (fun c_5 => absurd c_5 (bIm (pm_of hT hx hm))) (fun c_5 => ?_)
  refine wd_iload_n hC dX4_share_8 rfl rfl ?_
  refine wd_iconst (v := 2) hC dX4_share_9 rfl ?_
  refine cvsi hC cw_X4_155 (c_isBelow hinj _ _ _) dX4_share_10 (by first | decide | omega) (by decide) rfl rfl (Nat.le_of_ble_eq_true rfl) ?_
  refine wd_if_ne (tgt := 18) hC dX4_share_13 (by decide) (fun c_13 => ?_) (fun c_13 => absurd c_13 (bIm hp))
  refine wd_aload_n hC dX4_share_18 rfl rfl ?_
  refine wd_aload_n hC dX4_share_19 rfl rfl ?_
  refine gf_X4_29 hC dX4_share_20 ?_
  refine wd_iload_n hC dX4_share_23 rfl rfl ?_
  refine cv4i hC cw_X4_129 (c_wealthOf hinj _ ht 0 (by decide) x m hx (by omega) hM) dX4_share_24 (by first | decide | omega) (by decide) rfl rfl (Nat.le_of_ble_eq_true rfl) ?_
  refine wd_aload_n hC dX4_share_27 rfl rfl ?_
  refine cv4i hC cw_X4_148 (c_wealthOfAll hinj _ ht hT hM) dX4_share_28 (by first | decide | omega) (by decide) rfl rfl (Nat.le_of_ble_eq_true rfl) ?_
  refine wd_iload_n hC dX4_share_31 rfl rfl ?_
  refine cvsi hC cw_X4_215 (c_inLeastTerms hinj _ _ _ _) dX4_share_32 (by first | decide | omega) (by decide) rfl rfl (Nat.le_of_ble_eq_true rfl) ?_
  exact wd_iret hC rfl dX4_share_35 rfl rfl
/-! ===== the class: years ===== -/
def richL (v g : Int32) : Nat → Nat → Int32 → Int32
  | 0, _, _ => -9
  | k + 1, y, s => if s < v then richL v g k (y + 1) (stor s g) else nI y
def poorL (g : Int32) : Nat → Nat → Int32 → Int32
  | 0, _, _ => -9
  | k + 1, y, s => if 0 ≤ s then poorL g k (y + 1) (stor s g) else nI y
theorem richL_s (v g : Int32) {i : Nat} (h : i < 401) (s : Int32) : richL v g (401 - i) i s = if s < v then richL v g (401 - (i + 1)) (i + 1) (stor s g) else nI i := by
  rw [show 401 - i = (401 - (i + 1)) + 1 by omega]
  rfl
theorem poorL_s (g : Int32) {i : Nat} (h : i < 401) (s : Int32) : poorL g (401 - i) i s = if 0 ≤ s then poorL g (401 - (i + 1)) (i + 1) (stor s g) else nI i := by
  rw [show 401 - i = (401 - (i + 1)) + 1 by omega]
  rfl
theorem lp_gt {i : Nat} (c : (400 : Int32) < nI i) (h : i ≤ 401) : i = 401 := by
  have := (nI_ltI (a := 400) (b := i) (by decide) (by omega)).mp c
  omega
theorem lp_le {i : Nat} (c : ¬ (400 : Int32) < nI i) : i < 401 ∨ 2 ^ 31 ≤ i := by
  rcases Nat.lt_or_ge i (2 ^ 31) with h | h
  · left
    rcases Nat.lt_or_ge i 401 with h2 | h2
    · exact h2
    · exact absurd (nI_lt (a := 400) (b := i) (by omega) h) c
  · exact Or.inr h

set_option maxRecDepth 100000 in
set_option maxHeartbeats 4000000 in
theorem c_rich_bad {V : wd_V} {ad : Nat → Nat} (hinj : wd_inj cS ad) (σ : wd_S) (ht : σ.2.2 < 2) (x y : Int32) (hB : ¬ (pMan (tv σ) x ∧ pStor y)) : wd_C cS V ad 2 yX4_rich (Cond.code yX4_rich cX4_rich 6 (some .int) :: wsL_law) σ [.ref (ad 0), .int x, .int y] (wd_eq (some (.int (-1))) (σ)) := by
  refine wd_intro (lv := [some (.ref (ad 0)), some (.int x), some (.int y), none, none, none]) hinj (by decide) rfl (Nat.le_of_ble_eq_true rfl) rfl (Nat.le_of_ble_eq_true rfl) (fun K hC => ?_)
  refine wd_aload_n hC dX4_rich_0 rfl rfl ?_
  refine wd_iload_n hC dX4_rich_1 rfl rfl ?_
  refine cv4i hC cw_X4_85 (c_isMan hinj _ ht _) dX4_rich_2 (by first | decide | omega) (by decide) rfl rfl (Nat.le_of_ble_eq_true rfl) ?_
  refine wd_if_eq (tgt := 15) hC dX4_rich_5 (by decide) (fun c_5 => ?_) (fun c_5 => ?_)
  · replace c_5 := bI_0.mp c_5
    refine wd_iconst (v := -1) hC dX4_rich_15 rfl ?_
    exact wd_iret hC rfl dX4_rich_16 rfl rfl
  · replace c_5 := bI_1.mp c_5
    refine wd_iload_n hC dX4_rich_8 rfl rfl ?_
    refine cvsi hC cw_X4_208 (c_isStorable hinj _ _) dX4_rich_9 (by first | decide | omega) (by decide) rfl rfl (Nat.le_of_ble_eq_true rfl) ?_
    refine wd_if_ne (tgt := 17) hC dX4_rich_12 (by decide) (fun c_12 => ?_) (fun c_12 => ?_)
    · replace c_12 := bI_1.mp c_12
      exact absurd ⟨c_5, c_12⟩ hB
    · replace c_12 := bI_0.mp c_12
      refine wd_iconst (v := -1) hC dX4_rich_15 rfl ?_
      exact wd_iret hC rfl dX4_rich_16 rfl rfl
set_option maxRecDepth 100000 in
set_option maxHeartbeats 4000000 in
theorem c_rich {V : wd_V} {ad : Nat → Nat} (hinj : wd_inj cS ad) (σ : wd_S) (ht : σ.2.2 < 2) (hT : tOk (tv σ)) (x : Int32) (m : Nat) (hx : x = nI m) (hm : m < nMen (tv σ)) (hM : mOk (mv σ 0)) (y : Int32) (hp : pStor y) : wd_C cS V ad 4 yX4_rich (Cond.code yX4_rich cX4_rich 6 (some .int) :: wsL_law) σ [.ref (ad 0), .int x, .int y] (wd_eq (some (.int (richL y (wGain (tv σ) (mv σ 0) m) 401 0 (mv σ 0 5 m)))) (σ)) := by
  refine wd_intro (lv := [some (.ref (ad 0)), some (.int x), some (.int y), none, none, none]) hinj (by decide) rfl (Nat.le_of_ble_eq_true rfl) rfl (Nat.le_of_ble_eq_true rfl) (fun K hC => ?_)
  have h6 := hT.m6
  have h3 := hT.c3
  have loop : ∀ (k i : Nat) (s : Int32), i ≤ 401 → 401 < i + k → richL y (wGain (tv σ) (mv σ 0) m) (401 - i) i s = richL y (wGain (tv σ) (mv σ 0) m) 401 0 (mv σ 0 5 m) → wd_G cS V ad K 6 (wd_Qm cS V ad K (wd_eq (some (.int (richL y (wGain (tv σ) (mv σ 0) m) 401 0 (mv σ 0 5 m)))) σ)) 41 [some (.ref (ad 0)), some (.int x), some (.int y), some (.int (wGain (tv σ) (mv σ 0) m)), some (.int s), some (.int (nI i))] [] σ := by
    intro k
    induction k with
    | zero =>
      intro i s h1 h2 hg
      exact absurd h2 (by omega)
    | succ k ih =>
      intro i s h1 h2 hg
      refine wd_iload hC dX4_rich_41 rfl ?_
      refine wd_sipush (v := 400) hC dX4_rich_43 rfl ?_
      refine wd_icmp_gt (tgt := 72) hC dX4_rich_46 (by decide) (fun c_46 => ?_) (fun c_46 => ?_)
      · have hin : i = 401 := lp_gt c_46 h1
        subst hin
        refine wd_bipush (v := -9) hC dX4_rich_72 rfl ?_
        exact wd_iret hC rfl dX4_rich_74 hg rfl
      · have hin : i < 401 := by rcases lp_le c_46 with h | h <;> omega
        rw [richL_s _ _ hin] at hg
        refine wd_iload hC dX4_rich_49 rfl ?_
        refine wd_iload_n hC dX4_rich_51 rfl rfl ?_
        refine wd_icmp_lt (tgt := 58) hC dX4_rich_52 (by decide) (fun c_52 => ?_) (fun c_52 => ?_)
        · replace hg := (if_pos c_52).symm.trans hg
          refine wd_iload hC dX4_rich_58 rfl ?_
          refine wd_iload_n hC dX4_rich_60 rfl rfl ?_
          refine cvsi hC cw_X4_166 (c_storedBehind hinj _ _ _) dX4_rich_61 (by first | decide | omega) (by decide) rfl rfl (Nat.le_of_ble_eq_true rfl) ?_
          refine wd_istore_6_4 hC dX4_rich_64 ?_
          refine wd_iincN_6_5 hC dX4_rich_66 ?_
          refine wd_goto (tgt := 41) hC dX4_rich_69 (by decide) ?_
          exact ih (i + 1) _ (by omega) (by omega) hg
        · replace hg := (if_neg c_52).symm.trans hg
          refine wd_iload hC dX4_rich_55 rfl ?_
          exact wd_iret hC rfl dX4_rich_57 hg rfl
  refine wd_aload_n hC dX4_rich_0 rfl rfl ?_
  refine wd_iload_n hC dX4_rich_1 rfl rfl ?_
  refine cv4i hC cw_X4_85 (c_isMan hinj _ ht _) dX4_rich_2 (by first | decide | omega) (by decide) rfl rfl (Nat.le_of_ble_eq_true rfl) ?_
  refine wd_if_eq (tgt := 15) hC dX4_rich_5 (by decide) (fun c_5 => absurd c_5 (bIm (pm_of hT hx hm))) (fun c_5 => ?_)
  refine wd_iload_n hC dX4_rich_8 rfl rfl ?_
  refine cvsi hC cw_X4_208 (c_isStorable hinj _ _) dX4_rich_9 (by first | decide | omega) (by decide) rfl rfl (Nat.le_of_ble_eq_true rfl) ?_
  refine wd_if_ne (tgt := 17) hC dX4_rich_12 (by decide) (fun c_12 => ?_) (fun c_12 => absurd c_12 (bIm hp))
  refine wd_aload_n hC dX4_rich_17 rfl rfl ?_
  refine wd_aload_n hC dX4_rich_18 rfl rfl ?_
  refine gf_X4_29 hC dX4_rich_19 ?_
  refine wd_iload_n hC dX4_rich_22 rfl rfl ?_
  refine cv4i hC cw_X4_163 (c_gainOf hinj _ ht 0 (by decide) x m hx (by omega) hM) dX4_rich_23 (by first | decide | omega) (by decide) rfl rfl (Nat.le_of_ble_eq_true rfl) ?_
  refine wd_istore_n_6_3 hC dX4_rich_26 ?_
  refine wd_aload_n hC dX4_rich_27 rfl rfl ?_
  refine gf_X4_29 hC dX4_rich_28 ?_
  refine gf_X4_132 hC dX4_rich_31 ?_
  refine wd_iload_n hC dX4_rich_34 rfl rfl ?_
  refine ld_m hC dX4_rich_35 (m) hx (by omega) ?_
  refine wd_istore_6_4 hC dX4_rich_36 ?_
  refine wd_iconst (v := 0) hC dX4_rich_38 rfl ?_
  refine wd_istore_6_5 hC dX4_rich_39 ?_
  exact loop 402 0 _ (by decide) (by decide) rfl
set_option maxRecDepth 100000 in
set_option maxHeartbeats 4000000 in
theorem c_yearsTillPoor {V : wd_V} {ad : Nat → Nat} (hinj : wd_inj cS ad) (σ : wd_S) (ht : σ.2.2 < 2) (hM : mOk (mv σ 0)) (x : Int32) (m : Nat) (hx : x = nI m) (hm : m < 6) : wd_C cS V ad 4 yX4_yearsTillPoor (Cond.code yX4_yearsTillPoor cX4_yearsTillPoor 5 (some .int) :: wsL_law) σ [.ref (ad 0), .int x] (wd_eq (some (.int (poorL (wGain (tv σ) (mv σ 0) m) 401 0 (mv σ 0 5 m)))) (σ)) := by
  refine wd_intro (lv := [some (.ref (ad 0)), some (.int x), none, none, none]) hinj (by decide) rfl (Nat.le_of_ble_eq_true rfl) rfl (Nat.le_of_ble_eq_true rfl) (fun K hC => ?_)
  have loop : ∀ (k i : Nat) (s : Int32), i ≤ 401 → 401 < i + k → poorL (wGain (tv σ) (mv σ 0) m) (401 - i) i s = poorL (wGain (tv σ) (mv σ 0) m) 401 0 (mv σ 0 5 m) → wd_G cS V ad K 5 (wd_Qm cS V ad K (wd_eq (some (.int (poorL (wGain (tv σ) (mv σ 0) m) 401 0 (mv σ 0 5 m)))) σ)) 23 [some (.ref (ad 0)), some (.int x), some (.int (wGain (tv σ) (mv σ 0) m)), some (.int s), some (.int (nI i))] [] σ := by
    intro k
    induction k with
    | zero =>
      intro i s h1 h2 hg
      exact absurd h2 (by omega)
    | succ k ih =>
      intro i s h1 h2 hg
      refine wd_iload hC dX4_yearsTillPoor_23 rfl ?_
      refine wd_sipush (v := 400) hC dX4_yearsTillPoor_25 rfl ?_
      refine wd_icmp_gt (tgt := 50) hC dX4_yearsTillPoor_28 (by decide) (fun c_28 => ?_) (fun c_28 => ?_)
      · have hin : i = 401 := lp_gt c_28 h1
        subst hin
        refine wd_bipush (v := -9) hC dX4_yearsTillPoor_50 rfl ?_
        exact wd_iret hC rfl dX4_yearsTillPoor_52 hg rfl
      · have hin : i < 401 := by rcases lp_le c_28 with h | h <;> omega
        rw [poorL_s _ hin] at hg
        refine wd_iload_n hC dX4_yearsTillPoor_31 rfl rfl ?_
        refine wd_if_ge (tgt := 38) hC dX4_yearsTillPoor_32 (by decide) (fun c_32 => ?_) (fun c_32 => ?_)
        · replace hg := (if_pos c_32).symm.trans hg
          refine wd_iload_n hC dX4_yearsTillPoor_38 rfl rfl ?_
          refine wd_iload_n hC dX4_yearsTillPoor_39 rfl rfl ?_
          refine cvsi hC cw_X4_166 (c_storedBehind hinj _ _ _) dX4_yearsTillPoor_40 (by first | decide | omega) (by decide) rfl rfl (Nat.le_of_ble_eq_true rfl) ?_
          refine wd_istore_n_5_3 hC dX4_yearsTillPoor_43 ?_
          refine wd_iincN_5_4 hC dX4_yearsTillPoor_44 ?_
          refine wd_goto (tgt := 23) hC dX4_yearsTillPoor_47 (by decide) ?_
          exact ih (i + 1) _ (by omega) (by omega) hg
        · replace hg := (if_neg c_32).symm.trans hg
          refine wd_iload hC dX4_yearsTillPoor_35 rfl ?_
          exact wd_iret hC rfl dX4_yearsTillPoor_37 hg rfl
  refine wd_aload_n hC dX4_yearsTillPoor_0 rfl rfl ?_
  refine wd_aload_n hC dX4_yearsTillPoor_1 rfl rfl ?_
  refine gf_X4_29 hC dX4_yearsTillPoor_2 ?_
  refine wd_iload_n hC dX4_yearsTillPoor_5 rfl rfl ?_
  refine cv4i hC cw_X4_163 (c_gainOf hinj _ ht 0 (by decide) x m hx hm hM) dX4_yearsTillPoor_6 (by first | decide | omega) (by decide) rfl rfl (Nat.le_of_ble_eq_true rfl) ?_
  refine wd_istore_n_5_2 hC dX4_yearsTillPoor_9 ?_
  refine wd_aload_n hC dX4_yearsTillPoor_10 rfl rfl ?_
  refine gf_X4_29 hC dX4_yearsTillPoor_11 ?_
  refine gf_X4_132 hC dX4_yearsTillPoor_14 ?_
  refine wd_iload_n hC dX4_yearsTillPoor_17 rfl rfl ?_
  refine ld_m hC dX4_yearsTillPoor_18 (m) hx (by omega) ?_
  refine wd_istore_n_5_3 hC dX4_yearsTillPoor_19 ?_
  refine wd_iconst (v := 0) hC dX4_yearsTillPoor_20 rfl ?_
  refine wd_istore_5_4 hC dX4_yearsTillPoor_21 ?_
  exact loop 402 0 _ (by decide) (by decide) rfl
def poorS (T M : Nat → Nat → Int32) (m : Nat) (s : Int32) : Int32 := if poorL (wGain T M m) 401 0 (M 5 m) = -9 then s else if s = -9 then poorL (wGain T M m) 401 0 (M 5 m) else if s ≤ poorL (wGain T M m) 401 0 (M 5 m) then s else poorL (wGain T M m) 401 0 (M 5 m)
def poorV (T M : Nat → Nat → Int32) : Int32 := itr (poorS T M) (-9) (nMen T)

set_option maxRecDepth 100000 in
set_option maxHeartbeats 4000000 in
theorem c_poor {V : wd_V} {ad : Nat → Nat} (hinj : wd_inj cS ad) (σ : wd_S) (ht : σ.2.2 < 2) (hT : tOk (tv σ)) (hM : mOk (mv σ 0))  : wd_C cS V ad 5 yX4_poor (Cond.code yX4_poor cX4_poor 4 (some .int) :: wsL_law) σ [.ref (ad 0)] (wd_eq (some (.int (poorV (tv σ) (mv σ 0)))) (σ)) := by
  refine wd_intro (lv := [some (.ref (ad 0)), none, none, none]) hinj (by decide) rfl (Nat.le_of_ble_eq_true rfl) rfl (Nat.le_of_ble_eq_true rfl) (fun K hC => ?_)
  have h6 := hT.m6
  have h3 := hT.c3
  have loop : ∀ (k i : Nat) (s : Int32) (o : Option Value), i ≤ (nMen (tv σ)) → (nMen (tv σ)) < i + k → itr (poorS (tv σ) (mv σ 0)) (-9) i = s → wd_G cS V ad K 4 (wd_Qm cS V ad K (wd_eq (some (.int (poorV (tv σ) (mv σ 0)))) σ)) 5 [some (.ref (ad 0)), some (.int s), some (.int (nI i)), o] [] σ := by
    intro k
    induction k with
    | zero =>
      intro i s o h1 h2 hs
      exact absurd h2 (by omega)
    | succ k ih =>
      intro i s o h1 h2 hs
      refine wd_iload_n hC dX4_poor_5 rfl rfl ?_
      refine wd_aload_n hC dX4_poor_6 rfl rfl ?_
      refine gf_X4_19 hC dX4_poor_7 ?_
      refine gf_X4_76 hC dX4_poor_10 ?_
      refine wd_icmp_ge (tgt := 47) hC dX4_poor_13 (by decide) (fun c_13 => ?_) (fun c_13 => ?_)
      · have hin : i = _ := lp_ge hT.m c_13 h1 (by omega)
        subst hin
        refine wd_iload_n hC dX4_poor_47 rfl rfl ?_
        exact wd_iret hC rfl dX4_poor_48 hs.symm rfl
      · have hin : i < _ := lp_lt hT.m c_13 h1 (by omega)
        refine wd_aload_n hC dX4_poor_16 rfl rfl ?_
        refine wd_iload_n hC dX4_poor_17 rfl rfl ?_
        refine cv4i hC cw_X4_219 (c_yearsTillPoor hinj _ ht hM _ i rfl (by omega)) dX4_poor_18 (by first | decide | omega) (by decide) rfl rfl (Nat.le_of_ble_eq_true rfl) ?_
        refine wd_istore_n_4_3 hC dX4_poor_21 ?_
        refine wd_iload_n hC dX4_poor_22 rfl rfl ?_
        refine wd_bipush (v := -9) hC dX4_poor_23 rfl ?_
        refine wd_icmp_eq (tgt := 41) hC dX4_poor_25 (by decide) (fun c_25 => ?_) (fun c_25 => ?_)
        · refine wd_iincN_4_2 hC dX4_poor_41 ?_
          refine wd_goto (tgt := 5) hC dX4_poor_44 (by decide) ?_
          exact ih (i + 1) _ _ (by omega) (by omega) (by rw [itr, hs, poorS]; first | rw [if_pos c_25] | (rw [if_neg c_25]; first | rw [if_pos c_31] | (rw [if_neg c_31]; first | rw [if_pos c_36] | rw [if_neg c_36])))
        · refine wd_iload_n hC dX4_poor_28 rfl rfl ?_
          refine wd_bipush (v := -9) hC dX4_poor_29 rfl ?_
          refine wd_icmp_eq (tgt := 39) hC dX4_poor_31 (by decide) (fun c_31 => ?_) (fun c_31 => ?_)
          · refine wd_iload_n hC dX4_poor_39 rfl rfl ?_
            refine wd_istore_n_4_1 hC dX4_poor_40 ?_
            refine wd_iincN_4_2 hC dX4_poor_41 ?_
            refine wd_goto (tgt := 5) hC dX4_poor_44 (by decide) ?_
            exact ih (i + 1) _ _ (by omega) (by omega) (by rw [itr, hs, poorS]; first | rw [if_pos c_25] | (rw [if_neg c_25]; first | rw [if_pos c_31] | (rw [if_neg c_31]; first | rw [if_pos c_36] | rw [if_neg c_36])))
          · refine wd_iload_n hC dX4_poor_34 rfl rfl ?_
            refine wd_iload_n hC dX4_poor_35 rfl rfl ?_
            refine wd_icmp_ge (tgt := 41) hC dX4_poor_36 (by decide) (fun c_36 => ?_) (fun c_36 => ?_)
            · refine wd_iincN_4_2 hC dX4_poor_41 ?_
              refine wd_goto (tgt := 5) hC dX4_poor_44 (by decide) ?_
              exact ih (i + 1) _ _ (by omega) (by omega) (by rw [itr, hs, poorS]; first | rw [if_pos c_25] | (rw [if_neg c_25]; first | rw [if_pos c_31] | (rw [if_neg c_31]; first | rw [if_pos c_36] | rw [if_neg c_36])))
            · refine wd_iload_n hC dX4_poor_39 rfl rfl ?_
              refine wd_istore_n_4_1 hC dX4_poor_40 ?_
              refine wd_iincN_4_2 hC dX4_poor_41 ?_
              refine wd_goto (tgt := 5) hC dX4_poor_44 (by decide) ?_
              exact ih (i + 1) _ _ (by omega) (by omega) (by rw [itr, hs, poorS]; first | rw [if_pos c_25] | (rw [if_neg c_25]; first | rw [if_pos c_31] | (rw [if_neg c_31]; first | rw [if_pos c_36] | rw [if_neg c_36])))
  refine wd_bipush (v := -9) hC dX4_poor_0 rfl ?_
  refine wd_istore_n_4_1 hC dX4_poor_2 ?_
  refine wd_iconst (v := 0) hC dX4_poor_3 rfl ?_
  refine wd_istore_n_4_2 hC dX4_poor_4 ?_
  exact loop (nMen (tv σ) + 1) 0 _ _ (Nat.zero_le _) (by omega) rfl
/-! ===== the class: stubble ===== -/
def sOk (σ : wd_S) : Prop := 0 ≤ σ.1 0 10 ∧ σ.1 0 10 < nI 6
theorem sOk.n {σ : wd_S} (h : sOk σ) : σ.1 0 10 = nI (σ.1 0 10).toNatClampNeg := (ix_of h.1 h.2 (by decide)).1
theorem sOk.n5 {σ : wd_S} (h : sOk σ) : (σ.1 0 10).toNatClampNeg ≤ 5 := Nat.le_of_lt_succ (ix_of h.1 h.2 (by decide)).2
def fitsB (σ : wd_S) (x s : Int32) : Bool := decide (∀ i, i < (σ.1 0 10).toNatClampNeg → ¬ σ.1 7 i = x ∨ σ.1 8 i = s)
def cutV (σ : wd_S) (T M : Nat → Nat → Int32) (m : Nat) (x : Int32) : Int32 := itr (fun c b => if fitsB σ x (wTakenIf T M m c) = true then b ||| ((1 : Int32) <<< (nI c &&& 31)) else b) 0 (nCrops T)

set_option maxRecDepth 100000 in
set_option maxHeartbeats 4000000 in
theorem c_fitsStubble {V : wd_V} {ad : Nat → Nat} (hinj : wd_inj cS ad) (σ : wd_S) (hS : sOk σ) (x y : Int32) : wd_C cS V ad 0 yX4_fitsStubble (Cond.code yX4_fitsStubble cX4_fitsStubble 4 (some .boolean) :: wsL_law) σ [.ref (ad 0), .int x, .int y] (wd_eq (some (.int (bI (fitsB σ x y = true)))) (σ)) := by
  refine wd_intro (lv := [some (.ref (ad 0)), some (.int x), some (.int y), none]) hinj (by decide) rfl (Nat.le_of_ble_eq_true rfl) rfl (Nat.le_of_ble_eq_true rfl) (fun K hC => ?_)
  have h5 := hS.n5
  have loop : ∀ (k i : Nat), i ≤ (σ.1 0 10).toNatClampNeg → (σ.1 0 10).toNatClampNeg < i + k → (∀ c, c < i → ¬ σ.1 7 c = x ∨ σ.1 8 c = y) → wd_G cS V ad K 4 (wd_Qm cS V ad K (wd_eq (some (.int (bI (fitsB σ x y = true)))) σ)) 2 [some (.ref (ad 0)), some (.int x), some (.int y), some (.int (nI i))] [] σ := by
    intro k
    induction k with
    | zero =>
      intro i  h1 h2 hall
      exact absurd h2 (by omega)
    | succ k ih =>
      intro i  h1 h2 hall
      refine wd_iload_n hC dX4_fitsStubble_2 rfl rfl ?_
      refine wd_aload_n hC dX4_fitsStubble_3 rfl rfl ?_
      refine gf_X4_82 hC dX4_fitsStubble_4 ?_
      refine wd_icmp_ge (tgt := 38) hC dX4_fitsStubble_7 (by decide) (fun c_7 => ?_) (fun c_7 => ?_)
      · have hin : i = _ := lp_ge hS.n c_7 h1 (by omega)
        subst hin
        refine wd_iconst (v := 1) hC dX4_fitsStubble_38 rfl ?_
        exact wd_zret hC rfl rfl dX4_fitsStubble_39 (bI_t (decide_eq_true hall)) rfl
      · have hin : i < _ := lp_lt hS.n c_7 h1 (by omega)
        refine wd_aload_n hC dX4_fitsStubble_10 rfl rfl ?_
        refine gf_X4_51 hC dX4_fitsStubble_11 ?_
        refine wd_iload_n hC dX4_fitsStubble_14 rfl rfl ?_
        refine ld_b7 hC dX4_fitsStubble_15 (i) rfl (by omega) ?_
        refine wd_iload_n hC dX4_fitsStubble_16 rfl rfl ?_
        refine wd_icmp_ne (tgt := 32) hC dX4_fitsStubble_17 (by decide) (fun c_17 => ?_) (fun c_17 => ?_)
        · refine wd_iincN_4_3 hC dX4_fitsStubble_32 ?_
          refine wd_goto (tgt := 2) hC dX4_fitsStubble_35 (by decide) ?_
          exact ih (i + 1) (by omega) (by omega) (fun c hc => by rcases (show c < i ∨ c = i by omega) with h | rfl; exact hall c h; first | exact Or.inl c_17 | exact Or.inr c_27)
        · refine wd_aload_n hC dX4_fitsStubble_20 rfl rfl ?_
          refine gf_X4_55 hC dX4_fitsStubble_21 ?_
          refine wd_iload_n hC dX4_fitsStubble_24 rfl rfl ?_
          refine ld_b8 hC dX4_fitsStubble_25 (i) rfl (by omega) ?_
          refine wd_iload_n hC dX4_fitsStubble_26 rfl rfl ?_
          refine wd_icmp_eq (tgt := 32) hC dX4_fitsStubble_27 (by decide) (fun c_27 => ?_) (fun c_27 => ?_)
          · refine wd_iincN_4_3 hC dX4_fitsStubble_32 ?_
            refine wd_goto (tgt := 2) hC dX4_fitsStubble_35 (by decide) ?_
            exact ih (i + 1) (by omega) (by omega) (fun c hc => by rcases (show c < i ∨ c = i by omega) with h | rfl; exact hall c h; first | exact Or.inl c_17 | exact Or.inr c_27)
          · refine wd_iconst (v := 0) hC dX4_fitsStubble_30 rfl ?_
            exact wd_zret hC rfl rfl dX4_fitsStubble_31 (bI_f (fun h => (of_decide_eq_true h i hin).elim (fun h2 => h2 c_17) c_27)) rfl
  refine wd_iconst (v := 0) hC dX4_fitsStubble_0 rfl ?_
  refine wd_istore_n_4_3 hC dX4_fitsStubble_1 ?_
  exact loop ((σ.1 0 10).toNatClampNeg + 1) 0 (Nat.zero_le _) (by omega) (fun c hc => absurd hc (by omega))
set_option maxRecDepth 100000 in
set_option maxHeartbeats 4000000 in
theorem c_cut_bad {V : wd_V} {ad : Nat → Nat} (hinj : wd_inj cS ad) (σ : wd_S) (ht : σ.2.2 < 2) (x : Int32) (hB : ¬ pMan (tv σ) x) : wd_C cS V ad 2 yX4_cut (Cond.code yX4_cut cX4_cut 4 (some .int) :: wsL_law) σ [.ref (ad 0), .int x] (wd_eq (some (.int (-1))) (σ)) := by
  refine wd_intro (lv := [some (.ref (ad 0)), some (.int x), none, none]) hinj (by decide) rfl (Nat.le_of_ble_eq_true rfl) rfl (Nat.le_of_ble_eq_true rfl) (fun K hC => ?_)
  refine wd_aload_n hC dX4_cut_0 rfl rfl ?_
  refine wd_iload_n hC dX4_cut_1 rfl rfl ?_
  refine cv4i hC cw_X4_85 (c_isMan hinj _ ht _) dX4_cut_2 (by first | decide | omega) (by decide) rfl rfl (Nat.le_of_ble_eq_true rfl) ?_
  refine wd_if_ne (tgt := 10) hC dX4_cut_5 (by decide) (fun c_5 => ?_) (fun c_5 => ?_)
  · replace c_5 := bI_1.mp c_5
    exact absurd c_5 hB
  · replace c_5 := bI_0.mp c_5
    refine wd_iconst (v := -1) hC dX4_cut_8 rfl ?_
    exact wd_iret hC rfl dX4_cut_9 rfl rfl
set_option maxRecDepth 100000 in
set_option maxHeartbeats 4000000 in
theorem c_cut_alone {V : wd_V} {ad : Nat → Nat} (hinj : wd_inj cS ad) (σ : wd_S) (ht : σ.2.2 < 2) (hT : tOk (tv σ)) (x : Int32) (m : Nat) (hx : x = nI m) (hm : m < nMen (tv σ)) (hf : mv σ 0 2 m < 0) : wd_C cS V ad 2 yX4_cut (Cond.code yX4_cut cX4_cut 4 (some .int) :: wsL_law) σ [.ref (ad 0), .int x] (wd_eq (some (.int (0))) (σ)) := by
  refine wd_intro (lv := [some (.ref (ad 0)), some (.int x), none, none]) hinj (by decide) rfl (Nat.le_of_ble_eq_true rfl) rfl (Nat.le_of_ble_eq_true rfl) (fun K hC => ?_)
  have h6 := hT.m6
  have h3 := hT.c3
  refine wd_aload_n hC dX4_cut_0 rfl rfl ?_
  refine wd_iload_n hC dX4_cut_1 rfl rfl ?_
  refine cv4i hC cw_X4_85 (c_isMan hinj _ ht _) dX4_cut_2 (by first | decide | omega) (by decide) rfl rfl (Nat.le_of_ble_eq_true rfl) ?_
  refine wd_if_ne (tgt := 10) hC dX4_cut_5 (by decide) (fun c_5 => ?_) (fun c_5 => absurd c_5 (bIm (pm_of hT hx hm)))
  refine wd_aload_n hC dX4_cut_10 rfl rfl ?_
  refine gf_X4_29 hC dX4_cut_11 ?_
  refine gf_X4_101 hC dX4_cut_14 ?_
  refine wd_iload_n hC dX4_cut_17 rfl rfl ?_
  refine ld_m hC dX4_cut_18 (m) hx (by omega) ?_
  refine wd_if_ge (tgt := 24) hC dX4_cut_19 (by decide) (fun c_19 => absurd c_19 (Int32.not_le.mpr hf)) (fun c_19 => ?_)
  refine wd_iconst (v := 0) hC dX4_cut_22 rfl ?_
  exact wd_iret hC rfl dX4_cut_23 rfl rfl
set_option maxRecDepth 100000 in
set_option maxHeartbeats 4000000 in
theorem c_cut {V : wd_V} {ad : Nat → Nat} (hinj : wd_inj cS ad) (σ : wd_S) (ht : σ.2.2 < 2) (hT : tOk (tv σ)) (x : Int32) (m : Nat) (hx : x = nI m) (hm : m < nMen (tv σ)) (hM : mOk (mv σ 0)) (hS : sOk σ) (hf : 0 ≤ mv σ 0 2 m) : wd_C cS V ad 3 yX4_cut (Cond.code yX4_cut cX4_cut 4 (some .int) :: wsL_law) σ [.ref (ad 0), .int x] (wd_eq (some (.int (cutV σ (tv σ) (mv σ 0) m x))) (σ)) := by
  refine wd_intro (lv := [some (.ref (ad 0)), some (.int x), none, none]) hinj (by decide) rfl (Nat.le_of_ble_eq_true rfl) rfl (Nat.le_of_ble_eq_true rfl) (fun K hC => ?_)
  have h6 := hT.m6
  have h3 := hT.c3
  have loop : ∀ (k i : Nat) (b : Int32), i ≤ (nCrops (tv σ)) → (nCrops (tv σ)) < i + k → itr (fun c b => if fitsB σ x (wTakenIf (tv σ) (mv σ 0) m c) = true then b ||| ((1 : Int32) <<< (nI c &&& 31)) else b) 0 i = b → wd_G cS V ad K 4 (wd_Qm cS V ad K (wd_eq (some (.int (cutV σ (tv σ) (mv σ 0) m x))) σ)) 28 [some (.ref (ad 0)), some (.int x), some (.int b), some (.int (nI i))] [] σ := by
    intro k
    induction k with
    | zero =>
      intro i b h1 h2 hb
      exact absurd h2 (by omega)
    | succ k ih =>
      intro i b h1 h2 hb
      refine wd_iload_n hC dX4_cut_28 rfl rfl ?_
      refine wd_aload_n hC dX4_cut_29 rfl rfl ?_
      refine gf_X4_19 hC dX4_cut_30 ?_
      refine gf_X4_176 hC dX4_cut_33 ?_
      refine wd_icmp_ge (tgt := 69) hC dX4_cut_36 (by decide) (fun c_36 => ?_) (fun c_36 => ?_)
      · have hin : i = _ := lp_ge hT.c c_36 h1 (by omega)
        subst hin
        refine wd_iload_n hC dX4_cut_69 rfl rfl ?_
        exact wd_iret hC rfl dX4_cut_70 hb.symm rfl
      · have hin : i < _ := lp_lt hT.c c_36 h1 (by omega)
        refine wd_aload_n hC dX4_cut_39 rfl rfl ?_
        refine wd_iload_n hC dX4_cut_40 rfl rfl ?_
        refine wd_aload_n hC dX4_cut_41 rfl rfl ?_
        refine wd_aload_n hC dX4_cut_42 rfl rfl ?_
        refine gf_X4_29 hC dX4_cut_43 ?_
        refine wd_iload_n hC dX4_cut_46 rfl rfl ?_
        refine wd_iload_n hC dX4_cut_47 rfl rfl ?_
        refine cv4i hC cw_X4_202 (c_takenIf hinj _ ht 0 (by decide) x _ m i hx rfl (by omega) (by omega) hM) dX4_cut_48 (by first | decide | omega) (by decide) rfl rfl (Nat.le_of_ble_eq_true rfl) ?_
        refine cv4i hC cw_X4_205 (c_fitsStubble hinj _ hS _ _) dX4_cut_51 (by first | decide | omega) (by decide) rfl rfl (Nat.le_of_ble_eq_true rfl) ?_
        refine wd_if_eq (tgt := 63) hC dX4_cut_54 (by decide) (fun c_54 => ?_) (fun c_54 => ?_)
        · replace c_54 := bI_0.mp c_54
          refine wd_iincN_4_3 hC dX4_cut_63 ?_
          refine wd_goto (tgt := 28) hC dX4_cut_66 (by decide) ?_
          exact ih (i + 1) _ (by omega) (by omega) (by rw [itr, hb]; first | rw [if_pos c_54] | rw [if_neg c_54])
        · replace c_54 := bI_1.mp c_54
          refine wd_iload_n hC dX4_cut_57 rfl rfl ?_
          refine wd_iconst (v := 1) hC dX4_cut_58 rfl ?_
          refine wd_iload_n hC dX4_cut_59 rfl rfl ?_
          refine wd_ishl hC dX4_cut_60 ?_
          refine wd_ior hC dX4_cut_61 ?_
          refine wd_istore_n_4_2 hC dX4_cut_62 ?_
          refine wd_iincN_4_3 hC dX4_cut_63 ?_
          refine wd_goto (tgt := 28) hC dX4_cut_66 (by decide) ?_
          exact ih (i + 1) _ (by omega) (by omega) (by rw [itr, hb]; first | rw [if_pos c_54] | rw [if_neg c_54])
  refine wd_aload_n hC dX4_cut_0 rfl rfl ?_
  refine wd_iload_n hC dX4_cut_1 rfl rfl ?_
  refine cv4i hC cw_X4_85 (c_isMan hinj _ ht _) dX4_cut_2 (by first | decide | omega) (by decide) rfl rfl (Nat.le_of_ble_eq_true rfl) ?_
  refine wd_if_ne (tgt := 10) hC dX4_cut_5 (by decide) (fun c_5 => ?_) (fun c_5 => absurd c_5 (bIm (pm_of hT hx hm)))
  refine wd_aload_n hC dX4_cut_10 rfl rfl ?_
  refine gf_X4_29 hC dX4_cut_11 ?_
  refine gf_X4_101 hC dX4_cut_14 ?_
  refine wd_iload_n hC dX4_cut_17 rfl rfl ?_
  refine ld_m hC dX4_cut_18 (m) hx (by omega) ?_
  refine wd_if_ge (tgt := 24) hC dX4_cut_19 (by decide) (fun c_19 => ?_) (fun c_19 => absurd hf c_19)
  refine wd_iconst (v := 0) hC dX4_cut_24 rfl ?_
  refine wd_istore_n_4_2 hC dX4_cut_25 ?_
  refine wd_iconst (v := 0) hC dX4_cut_26 rfl ?_
  refine wd_istore_n_4_3 hC dX4_cut_27 ?_
  exact loop (nCrops (tv σ) + 1) 0 _ (Nat.zero_le _) (by omega) rfl

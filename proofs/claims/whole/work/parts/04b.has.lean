/-! ===== the class: what one takes, keeps, has ===== -/
set_option maxRecDepth 100000 in
set_option maxHeartbeats 4000000 in
theorem c_takenIf {V : wd_V} {ad : Nat → Nat} (hinj : wd_inj cS ad) (σ : wd_S) (ht : σ.2.2 < 2) (j : Nat) (hj : j < 14) (x y : Int32) (m c : Nat) (hx : x = nI m) (hy : y = nI c) (hm : m < 6) (hc : c < 3) (hM : mOk (mv σ j)) : wd_C cS V ad 1 yX4_takenIf (Cond.code yX4_takenIf cX4_takenIf 5 (some .int) :: wsL_law) σ [.ref (ad 0), .ref (ad (cm j)), .int x, .int y] (wd_eq (some (.int (wTakenIf (tv σ) (mv σ j) m c))) (σ)) := by
  refine wd_intro (lv := [some (.ref (ad 0)), some (.ref (ad (cm j))), some (.int x), some (.int y), none]) hinj (by decide) rfl (Nat.le_of_ble_eq_true rfl) rfl (Nat.le_of_ble_eq_true rfl) (fun K hC => ?_)
  refine wd_aload_n hC dX4_takenIf_0 rfl rfl ?_
  refine gf_X4_101 hC dX4_takenIf_1 ?_
  refine wd_iload_n hC dX4_takenIf_4 rfl rfl ?_
  refine ld_m hC dX4_takenIf_5 (m) hx (by omega) ?_
  refine wd_istore_5_4 hC dX4_takenIf_6 ?_
  refine wd_iload hC dX4_takenIf_8 rfl ?_
  refine wd_if_ge (tgt := 15) hC dX4_takenIf_10 (by decide) (fun c_10 => ?_) (fun c_10 => ?_)
  · refine wd_aload_n hC dX4_takenIf_15 rfl rfl ?_
    refine wd_aload_n hC dX4_takenIf_16 rfl rfl ?_
    refine wd_iload_n hC dX4_takenIf_17 rfl rfl ?_
    refine wd_iload_n hC dX4_takenIf_18 rfl rfl ?_
    refine cv4i hC cw_X4_117 (c_carriedBy hinj _ ht j hj x y m c hx hy hm hc) dX4_takenIf_19 (by first | decide | omega) (by decide) rfl rfl (Nat.le_of_ble_eq_true rfl) ?_
    refine wd_aload_n hC dX4_takenIf_22 rfl rfl ?_
    refine gf_X4_19 hC dX4_takenIf_23 ?_
    refine gf_X4_113 hC dX4_takenIf_26 ?_
    refine wd_iload hC dX4_takenIf_29 rfl ?_
    refine ld_y hC dX4_takenIf_31 (nFac (mv σ j) m) (hM.f hm c_10) (hM.f6 hm c_10) ?_
    refine wd_iload_n hC dX4_takenIf_32 rfl rfl ?_
    have h6 := hM.f6 hm c_10
    refine ld_r hC dX4_takenIf_33 (c) hy (by omega) ?_
    refine wd_mmin hC (wL_12 _ (List.mem_of_getElem? (i := 16) rfl)) (wL_7 _ (List.mem_of_getElem? (i := 0) rfl)) (wL_7 _ (List.mem_of_getElem? (i := 1) rfl)) (wL_7 _ (List.mem_of_getElem? (i := 2) rfl)) (by decide) (Nat.le_of_ble_eq_true rfl) dX4_takenIf_34 ?_
    exact wd_iret hC rfl dX4_takenIf_37 (by refine Eq.trans ?_ (if_pos c_10).symm; rw [tv_y _ (hM.f6 hm c_10)]; rfl) rfl
  · refine wd_iconst (v := 0) hC dX4_takenIf_13 rfl ?_
    exact wd_iret hC rfl dX4_takenIf_14 (if_neg c_10).symm rfl
set_option maxRecDepth 100000 in
set_option maxHeartbeats 4000000 in
theorem c_takenBy {V : wd_V} {ad : Nat → Nat} (hinj : wd_inj cS ad) (σ : wd_S) (ht : σ.2.2 < 2) (j : Nat) (hj : j < 14) (x : Int32) (m : Nat) (hx : x = nI m) (hm : m < 6) (hM : mOk (mv σ j)) : wd_C cS V ad 2 yX4_takenBy (Cond.code yX4_takenBy cX4_takenBy 4 (some .int) :: wsL_law) σ [.ref (ad 0), .ref (ad (cm j)), .int x] (wd_eq (some (.int (wTaken (tv σ) (mv σ j) m))) (σ)) := by
  refine wd_intro (lv := [some (.ref (ad 0)), some (.ref (ad (cm j))), some (.int x), none]) hinj (by decide) rfl (Nat.le_of_ble_eq_true rfl) rfl (Nat.le_of_ble_eq_true rfl) (fun K hC => ?_)
  refine wd_aload_n hC dX4_takenBy_0 rfl rfl ?_
  refine gf_X4_101 hC dX4_takenBy_1 ?_
  refine wd_iload_n hC dX4_takenBy_4 rfl rfl ?_
  refine ld_m hC dX4_takenBy_5 (m) hx (by omega) ?_
  refine wd_istore_n_4_3 hC dX4_takenBy_6 ?_
  refine wd_iload_n hC dX4_takenBy_7 rfl rfl ?_
  refine wd_if_ge (tgt := 15) hC dX4_takenBy_8 (by decide) (fun c_8 => ?_) (fun c_8 => ?_)
  · refine wd_aload_n hC dX4_takenBy_15 rfl rfl ?_
    refine wd_aload_n hC dX4_takenBy_16 rfl rfl ?_
    refine wd_iload_n hC dX4_takenBy_17 rfl rfl ?_
    refine wd_aload_n hC dX4_takenBy_18 rfl rfl ?_
    refine gf_X4_98 hC dX4_takenBy_19 ?_
    refine wd_iload_n hC dX4_takenBy_22 rfl rfl ?_
    refine ld_m hC dX4_takenBy_23 (nFac (mv σ j) m) (hM.f hm c_8) (hM.f6 hm c_8) ?_
    refine cv4i hC cw_X4_202 (c_takenIf hinj _ ht j hj x _ m _ hx (hM.s (hM.f6 hm c_8)) hm (hM.s3 (hM.f6 hm c_8)) hM) dX4_takenBy_24 (by first | decide | omega) (by decide) rfl rfl (Nat.le_of_ble_eq_true rfl) ?_
    exact wd_iret hC rfl dX4_takenBy_27 (by first | exact (if_pos c_8).symm | exact (if_neg c_8).symm) rfl
  · refine wd_iconst (v := 0) hC dX4_takenBy_11 rfl ?_
    refine wd_goto (tgt := 27) hC dX4_takenBy_12 (by decide) ?_
    exact wd_iret hC rfl dX4_takenBy_27 (by first | exact (if_pos c_8).symm | exact (if_neg c_8).symm) rfl
set_option maxRecDepth 100000 in
set_option maxHeartbeats 4000000 in
theorem c_keptBy {V : wd_V} {ad : Nat → Nat} (hinj : wd_inj cS ad) (σ : wd_S) (ht : σ.2.2 < 2) (j : Nat) (hj : j < 14) (x : Int32) (m : Nat) (hx : x = nI m) (hm : m < 6) (hM : mOk (mv σ j)) : wd_C cS V ad 2 yX4_keptBy (Cond.code yX4_keptBy cX4_keptBy 5 (some .int) :: wsL_law) σ [.ref (ad 0), .ref (ad (cm j)), .int x] (wd_eq (some (.int (wKept (tv σ) (mv σ j) m))) (σ)) := by
  refine wd_intro (lv := [some (.ref (ad 0)), some (.ref (ad (cm j))), some (.int x), none, none]) hinj (by decide) rfl (Nat.le_of_ble_eq_true rfl) rfl (Nat.le_of_ble_eq_true rfl) (fun K hC => ?_)
  refine wd_aload_n hC dX4_keptBy_0 rfl rfl ?_
  refine gf_X4_101 hC dX4_keptBy_1 ?_
  refine wd_iload_n hC dX4_keptBy_4 rfl rfl ?_
  refine ld_m hC dX4_keptBy_5 (m) hx (by omega) ?_
  refine wd_istore_n_5_3 hC dX4_keptBy_6 ?_
  refine wd_aload_n hC dX4_keptBy_7 rfl rfl ?_
  refine gf_X4_19 hC dX4_keptBy_8 ?_
  refine gf_X4_113 hC dX4_keptBy_11 ?_
  refine wd_iload_n hC dX4_keptBy_14 rfl rfl ?_
  refine ld_y hC dX4_keptBy_15 (m) hx (by omega) ?_
  refine wd_aload_n hC dX4_keptBy_16 rfl rfl ?_
  refine gf_X4_98 hC dX4_keptBy_17 ?_
  refine wd_iload_n hC dX4_keptBy_20 rfl rfl ?_
  refine ld_m hC dX4_keptBy_21 (m) hx (by omega) ?_
  refine ld_r hC dX4_keptBy_22 (nSown (mv σ j) m) (hM.s hm) (hM.s3 hm) ?_
  refine wd_istore_5_4 hC dX4_keptBy_23 ?_
  refine wd_iload_n hC dX4_keptBy_25 rfl rfl ?_
  refine wd_if_ge (tgt := 34) hC dX4_keptBy_26 (by decide) (fun c_26 => ?_) (fun c_26 => ?_)
  · refine wd_iload hC dX4_keptBy_34 rfl ?_
    refine wd_aload_n hC dX4_keptBy_36 rfl rfl ?_
    refine wd_aload_n hC dX4_keptBy_37 rfl rfl ?_
    refine wd_iload_n hC dX4_keptBy_38 rfl rfl ?_
    refine wd_aload_n hC dX4_keptBy_39 rfl rfl ?_
    refine gf_X4_98 hC dX4_keptBy_40 ?_
    refine wd_iload_n hC dX4_keptBy_43 rfl rfl ?_
    refine ld_m hC dX4_keptBy_44 (m) hx (by omega) ?_
    refine cv4i hC cw_X4_202 (c_takenIf hinj _ ht j hj _ _ _ _ (hM.f hm c_26) (hM.s hm) (hM.f6 hm c_26) (hM.s3 hm) hM) dX4_keptBy_45 (by first | decide | omega) (by decide) rfl rfl (Nat.le_of_ble_eq_true rfl) ?_
    refine wd_isub hC dX4_keptBy_48 ?_
    exact wd_iret hC rfl dX4_keptBy_49 (by first | (refine Eq.trans ?_ (if_pos c_26).symm; rw [tv_y _ hm]; done) | (refine Eq.trans ?_ (if_neg c_26).symm; rw [tv_y _ hm])) rfl
  · refine wd_iload hC dX4_keptBy_29 rfl ?_
    refine wd_goto (tgt := 49) hC dX4_keptBy_31 (by decide) ?_
    exact wd_iret hC rfl dX4_keptBy_49 (by first | (refine Eq.trans ?_ (if_pos c_26).symm; rw [tv_y _ hm]; done) | (refine Eq.trans ?_ (if_neg c_26).symm; rw [tv_y _ hm])) rfl
set_option maxRecDepth 100000 in
set_option maxHeartbeats 4000000 in
theorem c_wealthOf {V : wd_V} {ad : Nat → Nat} (hinj : wd_inj cS ad) (σ : wd_S) (ht : σ.2.2 < 2) (j : Nat) (hj : j < 14) (x : Int32) (m : Nat) (hx : x = nI m) (hm : m < 6) (hM : mOk (mv σ j)) : wd_C cS V ad 2 yX4_wealthOf (Cond.code yX4_wealthOf cX4_wealthOf 7 (some .int) :: wsL_law) σ [.ref (ad 0), .ref (ad (cm j)), .int x] (wd_eq (some (.int (wHas (tv σ) (mv σ j) m))) (σ)) := by
  refine wd_intro (lv := [some (.ref (ad 0)), some (.ref (ad (cm j))), some (.int x), none, none, none, none]) hinj (by decide) rfl (Nat.le_of_ble_eq_true rfl) rfl (Nat.le_of_ble_eq_true rfl) (fun K hC => ?_)
  refine wd_aload_n hC dX4_wealthOf_0 rfl rfl ?_
  refine gf_X4_101 hC dX4_wealthOf_1 ?_
  refine wd_iload_n hC dX4_wealthOf_4 rfl rfl ?_
  refine ld_m hC dX4_wealthOf_5 (m) hx (by omega) ?_
  refine wd_istore_n_7_3 hC dX4_wealthOf_6 ?_
  refine wd_aload_n hC dX4_wealthOf_7 rfl rfl ?_
  refine gf_X4_98 hC dX4_wealthOf_8 ?_
  refine wd_iload_n hC dX4_wealthOf_11 rfl rfl ?_
  refine ld_m hC dX4_wealthOf_12 (m) hx (by omega) ?_
  refine wd_istore_7_4 hC dX4_wealthOf_13 ?_
  refine wd_iload_n hC dX4_wealthOf_15 rfl rfl ?_
  refine wd_if_ge (tgt := 43) hC dX4_wealthOf_16 (by decide) (fun c_16 => ?_) (fun c_16 => ?_)
  · refine wd_aload_n hC dX4_wealthOf_43 rfl rfl ?_
    refine gf_X4_98 hC dX4_wealthOf_44 ?_
    refine wd_iload_n hC dX4_wealthOf_47 rfl rfl ?_
    refine ld_m hC dX4_wealthOf_48 (nFac (mv σ j) m) (hM.f hm c_16) (hM.f6 hm c_16) ?_
    refine wd_istore_7_5 hC dX4_wealthOf_49 ?_
    refine wd_aload_n hC dX4_wealthOf_51 rfl rfl ?_
    refine gf_X4_19 hC dX4_wealthOf_52 ?_
    refine gf_X4_113 hC dX4_wealthOf_55 ?_
    refine wd_iload_n hC dX4_wealthOf_58 rfl rfl ?_
    refine ld_y hC dX4_wealthOf_59 (m) hx (by omega) ?_
    refine wd_iload hC dX4_wealthOf_60 rfl ?_
    refine ld_r hC dX4_wealthOf_62 (nSown (mv σ j) m) (hM.s hm) (hM.s3 hm) ?_
    refine wd_aload_n hC dX4_wealthOf_63 rfl rfl ?_
    refine wd_aload_n hC dX4_wealthOf_64 rfl rfl ?_
    refine wd_iload_n hC dX4_wealthOf_65 rfl rfl ?_
    refine wd_iload hC dX4_wealthOf_66 rfl ?_
    refine cv4i hC cw_X4_202 (c_takenIf hinj _ ht j hj _ _ _ _ (hM.f hm c_16) (hM.s hm) (hM.f6 hm c_16) (hM.s3 hm) hM) dX4_wealthOf_68 (by first | decide | omega) (by decide) rfl rfl (Nat.le_of_ble_eq_true rfl) ?_
    refine wd_isub hC dX4_wealthOf_71 ?_
    refine wd_istore_7_6 hC dX4_wealthOf_72 ?_
    refine wd_iload hC dX4_wealthOf_74 rfl ?_
    refine wd_aload_n hC dX4_wealthOf_76 rfl rfl ?_
    refine gf_X4_19 hC dX4_wealthOf_77 ?_
    refine gf_X4_179 hC dX4_wealthOf_80 ?_
    refine wd_iload hC dX4_wealthOf_83 rfl ?_
    refine ld_w hC dX4_wealthOf_85 (nSown (mv σ j) m) (hM.s hm) (hM.s3 hm) ?_
    refine wd_imul hC dX4_wealthOf_86 ?_
    refine wd_aload_n hC dX4_wealthOf_87 rfl rfl ?_
    refine wd_aload_n hC dX4_wealthOf_88 rfl rfl ?_
    refine wd_iload_n hC dX4_wealthOf_89 rfl rfl ?_
    refine wd_iload hC dX4_wealthOf_90 rfl ?_
    refine cv4i hC cw_X4_202 (c_takenIf hinj _ ht j hj _ _ _ _ hx (hM.s (hM.f6 hm c_16)) hm (hM.s3 (hM.f6 hm c_16)) hM) dX4_wealthOf_92 (by first | decide | omega) (by decide) rfl rfl (Nat.le_of_ble_eq_true rfl) ?_
    refine wd_aload_n hC dX4_wealthOf_95 rfl rfl ?_
    refine gf_X4_19 hC dX4_wealthOf_96 ?_
    refine gf_X4_179 hC dX4_wealthOf_99 ?_
    refine wd_iload hC dX4_wealthOf_102 rfl ?_
    refine ld_w hC dX4_wealthOf_104 (nSown (mv σ j) (nFac (mv σ j) m)) (hM.s (hM.f6 hm c_16)) (hM.s3 (hM.f6 hm c_16)) ?_
    refine wd_imul hC dX4_wealthOf_105 ?_
    refine wd_iadd hC dX4_wealthOf_106 ?_
    exact wd_iret hC rfl dX4_wealthOf_107 (by refine Eq.trans ?_ (if_pos c_16).symm; rw [tv_y _ hm]; rfl) rfl
  · refine wd_aload_n hC dX4_wealthOf_19 rfl rfl ?_
    refine gf_X4_19 hC dX4_wealthOf_20 ?_
    refine gf_X4_113 hC dX4_wealthOf_23 ?_
    refine wd_iload_n hC dX4_wealthOf_26 rfl rfl ?_
    refine ld_y hC dX4_wealthOf_27 (m) hx (by omega) ?_
    refine wd_iload hC dX4_wealthOf_28 rfl ?_
    refine ld_r hC dX4_wealthOf_30 (nSown (mv σ j) m) (hM.s hm) (hM.s3 hm) ?_
    refine wd_aload_n hC dX4_wealthOf_31 rfl rfl ?_
    refine gf_X4_19 hC dX4_wealthOf_32 ?_
    refine gf_X4_179 hC dX4_wealthOf_35 ?_
    refine wd_iload hC dX4_wealthOf_38 rfl ?_
    refine ld_w hC dX4_wealthOf_40 (nSown (mv σ j) m) (hM.s hm) (hM.s3 hm) ?_
    refine wd_imul hC dX4_wealthOf_41 ?_
    exact wd_iret hC rfl dX4_wealthOf_42 (by refine Eq.trans ?_ (if_neg c_16).symm; rw [tv_y _ hm]; rfl) rfl
set_option maxRecDepth 100000 in
set_option maxHeartbeats 4000000 in
theorem c_gainOf {V : wd_V} {ad : Nat → Nat} (hinj : wd_inj cS ad) (σ : wd_S) (ht : σ.2.2 < 2) (j : Nat) (hj : j < 14) (x : Int32) (m : Nat) (hx : x = nI m) (hm : m < 6) (hM : mOk (mv σ j)) : wd_C cS V ad 3 yX4_gainOf (Cond.code yX4_gainOf cX4_gainOf 3 (some .int) :: wsL_law) σ [.ref (ad 0), .ref (ad (cm j)), .int x] (wd_eq (some (.int (wGain (tv σ) (mv σ j) m))) (σ)) := by
  refine wd_intro (lv := [some (.ref (ad 0)), some (.ref (ad (cm j))), some (.int x)]) hinj (by decide) rfl (Nat.le_of_ble_eq_true rfl) rfl (Nat.le_of_ble_eq_true rfl) (fun K hC => ?_)
  refine wd_aload_n hC dX4_gainOf_0 rfl rfl ?_
  refine wd_aload_n hC dX4_gainOf_1 rfl rfl ?_
  refine wd_iload_n hC dX4_gainOf_2 rfl rfl ?_
  refine cv4i hC cw_X4_129 (c_wealthOf hinj _ ht j hj x m hx hm hM) dX4_gainOf_3 (by first | decide | omega) (by decide) rfl rfl (Nat.le_of_ble_eq_true rfl) ?_
  refine wd_aload_n hC dX4_gainOf_6 rfl rfl ?_
  refine gf_X4_19 hC dX4_gainOf_7 ?_
  refine gf_X4_95 hC dX4_gainOf_10 ?_
  refine wd_iload_n hC dX4_gainOf_13 rfl rfl ?_
  refine ld_s hC dX4_gainOf_14 (m) hx (by omega) ?_
  refine wd_isub hC dX4_gainOf_15 ?_
  exact wd_iret hC rfl dX4_gainOf_16 rfl rfl
/-! ===== loops ===== -/
def itr {α : Type} (f : Nat → α → α) (a : α) : Nat → α
  | 0 => a
  | n + 1 => f n (itr f a n)
abbrev nMen (T : Nat → Nat → Int32) : Nat := (T 0 3).toNatClampNeg
abbrev nCrops (T : Nat → Nat → Int32) : Nat := (T 0 0).toNatClampNeg
def tOk (T : Nat → Nat → Int32) : Prop := (0 ≤ T 0 3 ∧ T 0 3 < nI 7) ∧ 0 ≤ T 0 0 ∧ T 0 0 < nI 4
theorem tOk.m {T : Nat → Nat → Int32} (h : tOk T) : T 0 3 = nI (nMen T) := (ix_of h.1.1 h.1.2 (by decide)).1
theorem tOk.m6 {T : Nat → Nat → Int32} (h : tOk T) : nMen T ≤ 6 := Nat.le_of_lt_succ (ix_of h.1.1 h.1.2 (by decide)).2
theorem tOk.c {T : Nat → Nat → Int32} (h : tOk T) : T 0 0 = nI (nCrops T) := (ix_of h.2.1 h.2.2 (by decide)).1
theorem tOk.c3 {T : Nat → Nat → Int32} (h : tOk T) : nCrops T ≤ 3 := Nat.le_of_lt_succ (ix_of h.2.1 h.2.2 (by decide)).2
theorem lp_ge {x : Int32} {n i : Nat} (hx : x = nI n) (c : x ≤ nI i) (h : i ≤ n) (hn : n < 2 ^ 31) : i = n := by
  rw [hx] at c
  have := (nI_leI hn (by omega)).mp c
  omega
theorem lp_lt {x : Int32} {n i : Nat} (hx : x = nI n) (c : ¬ x ≤ nI i) (h : i ≤ n) (hn : n < 2 ^ 31) : i < n := by
  rw [hx] at c
  rcases Nat.lt_or_ge i n with h1 | h1
  · exact h1
  · exact absurd (nI_le h1 (by omega)) c
def wAll (T M : Nat → Nat → Int32) : Int32 := itr (fun m a => a + wHas T M m) 0 (nMen T)
def wRopes (T M : Nat → Nat → Int32) : Int32 := itr (fun m a => a + M 3 m) 0 (nMen T)

set_option maxRecDepth 100000 in
set_option maxHeartbeats 4000000 in
theorem c_wealthOfAll {V : wd_V} {ad : Nat → Nat} (hinj : wd_inj cS ad) (σ : wd_S) (ht : σ.2.2 < 2) (hT : tOk (tv σ)) (hM : mOk (mv σ 0)) : wd_C cS V ad 3 yX4_wealthOfAll (Cond.code yX4_wealthOfAll cX4_wealthOfAll 3 (some .int) :: wsL_law) σ [.ref (ad 0)] (wd_eq (some (.int (wAll (tv σ) (mv σ 0)))) (σ)) := by
  refine wd_intro (lv := [some (.ref (ad 0)), none, none]) hinj (by decide) rfl (Nat.le_of_ble_eq_true rfl) rfl (Nat.le_of_ble_eq_true rfl) (fun K hC => ?_)
  have h6 := hT.m6
  have loop : ∀ (k i : Nat), i ≤ (nMen (tv σ)) → (nMen (tv σ)) < i + k → wd_G cS V ad K 3 (wd_Qm cS V ad K (wd_eq (some (.int (wAll (tv σ) (mv σ 0)))) σ)) 4 [some (.ref (ad 0)), some (.int (itr (fun m a => a + wHas (tv σ) (mv σ 0) m) 0 i)), some (.int (nI i))] [] σ := by
    intro k
    induction k with
    | zero =>
      intro i  h1 h2 
      exact absurd h2 (by omega)
    | succ k ih =>
      intro i  h1 h2 
      refine wd_iload_n hC dX4_wealthOfAll_4 rfl rfl ?_
      refine wd_aload_n hC dX4_wealthOfAll_5 rfl rfl ?_
      refine gf_X4_19 hC dX4_wealthOfAll_6 ?_
      refine gf_X4_76 hC dX4_wealthOfAll_9 ?_
      refine wd_icmp_ge (tgt := 33) hC dX4_wealthOfAll_12 (by decide) (fun c_12 => ?_) (fun c_12 => ?_)
      · have hin := lp_ge hT.m c_12 h1 (by omega)
        subst hin
        refine wd_iload_n hC dX4_wealthOfAll_33 rfl rfl ?_
        exact wd_iret hC rfl dX4_wealthOfAll_34 rfl rfl
      · have hin := lp_lt hT.m c_12 h1 (by omega)
        refine wd_iload_n hC dX4_wealthOfAll_15 rfl rfl ?_
        refine wd_aload_n hC dX4_wealthOfAll_16 rfl rfl ?_
        refine wd_aload_n hC dX4_wealthOfAll_17 rfl rfl ?_
        refine gf_X4_29 hC dX4_wealthOfAll_18 ?_
        refine wd_iload_n hC dX4_wealthOfAll_21 rfl rfl ?_
        refine cv4i hC cw_X4_129 (c_wealthOf hinj _ ht 0 (by decide) _ i rfl (by omega) hM) dX4_wealthOfAll_22 (by first | decide | omega) (by decide) rfl rfl (Nat.le_of_ble_eq_true rfl) ?_
        refine wd_iadd hC dX4_wealthOfAll_25 ?_
        refine wd_istore_n_3_1 hC dX4_wealthOfAll_26 ?_
        refine wd_iincN_3_2 hC dX4_wealthOfAll_27 ?_
        refine wd_goto (tgt := 4) hC dX4_wealthOfAll_30 (by decide) ?_
        exact ih (i + 1) (by omega) (by omega)
  refine wd_iconst (v := 0) hC dX4_wealthOfAll_0 rfl ?_
  refine wd_istore_n_3_1 hC dX4_wealthOfAll_1 ?_
  refine wd_iconst (v := 0) hC dX4_wealthOfAll_2 rfl ?_
  refine wd_istore_n_3_2 hC dX4_wealthOfAll_3 ?_
  exact loop (nMen (tv σ) + 1) 0 (Nat.zero_le _) (by omega)
set_option maxRecDepth 100000 in
set_option maxHeartbeats 4000000 in
theorem c_ropesOfAll {V : wd_V} {ad : Nat → Nat} (hinj : wd_inj cS ad) (σ : wd_S) (ht : σ.2.2 < 2) (hT : tOk (tv σ)) : wd_C cS V ad 0 yX4_ropesOfAll (Cond.code yX4_ropesOfAll cX4_ropesOfAll 3 (some .int) :: wsL_law) σ [.ref (ad 0)] (wd_eq (some (.int (wRopes (tv σ) (mv σ 0)))) (σ)) := by
  refine wd_intro (lv := [some (.ref (ad 0)), none, none]) hinj (by decide) rfl (Nat.le_of_ble_eq_true rfl) rfl (Nat.le_of_ble_eq_true rfl) (fun K hC => ?_)
  have h6 := hT.m6
  have loop : ∀ (k i : Nat), i ≤ (nMen (tv σ)) → (nMen (tv σ)) < i + k → wd_G cS V ad K 3 (wd_Qm cS V ad K (wd_eq (some (.int (wRopes (tv σ) (mv σ 0)))) σ)) 4 [some (.ref (ad 0)), some (.int (itr (fun m a => a + mv σ 0 3 m) 0 i)), some (.int (nI i))] [] σ := by
    intro k
    induction k with
    | zero =>
      intro i  h1 h2 
      exact absurd h2 (by omega)
    | succ k ih =>
      intro i  h1 h2 
      refine wd_iload_n hC dX4_ropesOfAll_4 rfl rfl ?_
      refine wd_aload_n hC dX4_ropesOfAll_5 rfl rfl ?_
      refine gf_X4_19 hC dX4_ropesOfAll_6 ?_
      refine gf_X4_76 hC dX4_ropesOfAll_9 ?_
      refine wd_icmp_ge (tgt := 33) hC dX4_ropesOfAll_12 (by decide) (fun c_12 => ?_) (fun c_12 => ?_)
      · have hin := lp_ge hT.m c_12 h1 (by omega)
        subst hin
        refine wd_iload_n hC dX4_ropesOfAll_33 rfl rfl ?_
        exact wd_iret hC rfl dX4_ropesOfAll_34 rfl rfl
      · have hin := lp_lt hT.m c_12 h1 (by omega)
        refine wd_iload_n hC dX4_ropesOfAll_15 rfl rfl ?_
        refine wd_aload_n hC dX4_ropesOfAll_16 rfl rfl ?_
        refine gf_X4_29 hC dX4_ropesOfAll_17 ?_
        refine gf_X4_104 hC dX4_ropesOfAll_20 ?_
        refine wd_iload_n hC dX4_ropesOfAll_23 rfl rfl ?_
        refine ld_m hC dX4_ropesOfAll_24 (i) rfl (by omega) ?_
        refine wd_iadd hC dX4_ropesOfAll_25 ?_
        refine wd_istore_n_3_1 hC dX4_ropesOfAll_26 ?_
        refine wd_iincN_3_2 hC dX4_ropesOfAll_27 ?_
        refine wd_goto (tgt := 4) hC dX4_ropesOfAll_30 (by decide) ?_
        exact ih (i + 1) (by omega) (by omega)
  refine wd_iconst (v := 0) hC dX4_ropesOfAll_0 rfl ?_
  refine wd_istore_n_3_1 hC dX4_ropesOfAll_1 ?_
  refine wd_iconst (v := 0) hC dX4_ropesOfAll_2 rfl ?_
  refine wd_istore_n_3_2 hC dX4_ropesOfAll_3 ?_
  exact loop (nMen (tv σ) + 1) 0 (Nat.zero_le _) (by omega)

/-! ===== the reference: undo, images ===== -/
set_option maxRecDepth 100000 in
set_option maxHeartbeats 4000000 in
theorem r_undo_none {V : wd_V} {ad : Nat → Nat} (hinj : wd_inj rS ad) (σ : wd_S) (h0 : σ.1 0 0 = 0) (hz : σ.1 0 21 = 0) : wd_C rS V ad 0 yX5_undo (Cond.code yX5_undo cX5_undo 2 (some .int) :: wsL_law) σ [.ref (ad 0)] (wd_eq (some (.int (-2))) (σ)) := by
  refine wd_intro (lv := [some (.ref (ad 0)), none]) hinj (by decide) rfl (Nat.le_of_ble_eq_true rfl) rfl (Nat.le_of_ble_eq_true rfl) (fun K hC => ?_)
  refine wd_aload_n hC dX5_undo_0 rfl rfl ?_
  refine wd_iconst (v := 0) hC dX5_undo_1 rfl ?_
  refine pf_X5_62 hC dX5_undo_2 ?_
  refine wd_ts (up_00 h0) ?_
  refine wd_aload_n hC dX5_undo_5 rfl rfl ?_
  refine gf_X5_117 hC dX5_undo_6 ?_
  refine wd_if_ne (tgt := 15) hC dX5_undo_9 (by decide) (fun c_9 => absurd hz c_9) (fun c_9 => ?_)
  refine wd_bipush (v := -2) hC dX5_undo_12 rfl ?_
  exact wd_iret hC rfl dX5_undo_14 rfl rfl
set_option maxRecDepth 100000 in
set_option maxHeartbeats 4000000 in
theorem r_undo {V : wd_V} {ad : Nat → Nat} (hinj : wd_inj rS ad) (σ : wd_S) (h0 : σ.1 0 0 = 0) (u : Nat) (hu : σ.1 0 21 = nI (u + 1)) (hu2 : u < 10) : wd_C rS V ad 0 yX5_undo (Cond.code yX5_undo cX5_undo 2 (some .int) :: wsL_law) σ [.ref (ad 0)] (wd_eq (some (.int (nI u))) (setR (wd_up σ 0 21 (nI u)) 9 (fun i => σ.1 13 (32 * u + i)))) := by
  refine wd_intro (lv := [some (.ref (ad 0)), none]) hinj (by decide) rfl (Nat.le_of_ble_eq_true rfl) rfl (Nat.le_of_ble_eq_true rfl) (fun K hC => ?_)
  have loop : ∀ (k i : Nat), i ≤ 32 → 32 < i + k → wd_G rS V ad K 2 (wd_Qm rS V ad K (wd_eq (some (.int (nI u))) (setR (wd_up σ 0 21 (nI u)) 9 (fun i => σ.1 13 (32 * u + i))))) 27 [some (.ref (ad 0)), some (.int (nI i))] [] (cpyW (wd_up σ 0 21 (nI u)) 13 (32 * u) 9 0 i) := by
    intro k
    induction k with
    | zero =>
      intro i  h1 h2 
      exact absurd h2 (by omega)
    | succ k ih =>
      intro i  h1 h2 
      refine wd_iload_n hC dX5_undo_27 rfl rfl ?_
      refine wd_bipush (v := 32) hC dX5_undo_28 rfl ?_
      refine wd_icmp_ge (tgt := 59) hC dX5_undo_30 (by decide) (fun c_30 => ?_) (fun c_30 => ?_)
      · have hin : i = 32 := lp_ge (x := 32) (n := 32) rfl c_30 h1 (by decide)
        subst hin
        refine wd_to (cpy_set (wd_up σ 0 21 (nI u)) (Or.inl rfl)) ?_
        refine wd_aload_n hC dX5_undo_59 rfl rfl ?_
        refine gf_X5_117 hC dX5_undo_60 ?_
        exact wd_iret hC rfl dX5_undo_63 (by rw [setR_n _ _ _ (by decide)]; rfl) rfl
      · have hin : i < 32 := lp_lt (x := 32) (n := 32) rfl c_30 h1 (by decide)
        refine wd_aload_n hC dX5_undo_33 rfl rfl ?_
        refine gf_X5_34 hC dX5_undo_34 ?_
        refine wd_iload_n hC dX5_undo_37 rfl rfl ?_
        refine wd_aload_n hC dX5_undo_38 rfl rfl ?_
        refine gf_X5_47 hC dX5_undo_39 ?_
        refine wd_bipush (v := 32) hC dX5_undo_42 rfl ?_
        refine wd_aload_n hC dX5_undo_44 rfl rfl ?_
        refine gf_X5_117 hC dX5_undo_45 ?_
        refine wd_imul hC dX5_undo_48 ?_
        refine wd_iload_n hC dX5_undo_49 rfl rfl ?_
        refine wd_iadd hC dX5_undo_50 ?_
        refine rl_undos hC dX5_undo_51 (32 * u + i) (by rw [cpyW_o _ _ _ _ _ _ (by omega)]; exact addN (mulI (show (wd_up σ 0 21 (nI u)).1 0 21 = nI u from rfl) 32) rfl) (by omega) ?_
        refine wd_vi (show _ = (wd_up σ 0 21 (nI u)).1 13 (32 * u + i) from (by rw [cpyW_o _ _ _ _ _ _ (by omega)])) ?_
        refine rs_s hC dX5_undo_52 (i) rfl (by omega) ?_
        refine wd_ts (show _ = cpyW (wd_up σ 0 21 (nI u)) 13 (32 * u) 9 0 (i + 1) from (by rw [← cpyW_s, Nat.zero_add])) ?_
        refine wd_iincN_2_1 hC dX5_undo_53 ?_
        refine wd_goto (tgt := 27) hC dX5_undo_56 (by decide) ?_
        exact ih (i + 1) (by omega) (by omega)
  refine wd_aload_n hC dX5_undo_0 rfl rfl ?_
  refine wd_iconst (v := 0) hC dX5_undo_1 rfl ?_
  refine pf_X5_62 hC dX5_undo_2 ?_
  refine wd_ts (up_00 h0) ?_
  refine wd_aload_n hC dX5_undo_5 rfl rfl ?_
  refine gf_X5_117 hC dX5_undo_6 ?_
  refine wd_if_ne (tgt := 15) hC dX5_undo_9 (by decide) (fun c_9 => ?_) (fun c_9 => absurd c_9 (by rw [hu]; exact nI_ne0 (by omega) (by omega)))
  refine wd_aload_n hC dX5_undo_15 rfl rfl ?_
  refine wd_dup hC dX5_undo_16 rfl ?_
  refine gf_X5_117 hC dX5_undo_17 ?_
  refine wd_iconst (v := 1) hC dX5_undo_20 rfl ?_
  refine wd_isub hC dX5_undo_21 ?_
  refine pf_X5_117 hC dX5_undo_22 ?_
  refine wd_ts (show _ = (wd_up σ 0 21 (nI u)) from (by rw [hu, nI_pred])) ?_
  refine wd_iconst (v := 0) hC dX5_undo_25 rfl ?_
  refine wd_istore_n_2_1 hC dX5_undo_26 ?_
  exact wd_ts (cpyW_0 (wd_up σ 0 21 (nI u)) 13 (32 * u) 9 0).symm (loop 33 0 (by decide) (by decide))
set_option maxRecDepth 100000 in
set_option maxHeartbeats 4000000 in
theorem r_keep_bad {V : wd_V} {ad : Nat → Nat} (hinj : wd_inj rS ad) (σ : wd_S) (h0 : σ.1 0 0 = 0) (x : Int32) (hB : ¬ pIn x 0 1) : wd_C rS V ad 1 yX5_keep (Cond.code yX5_keep cX5_keep 3 (some .int) :: wsL_law) σ [.ref (ad 0), .int x] (wd_eq (some (.int (-1))) (σ)) := by
  refine wd_intro (lv := [some (.ref (ad 0)), some (.int x), none]) hinj (by decide) rfl (Nat.le_of_ble_eq_true rfl) rfl (Nat.le_of_ble_eq_true rfl) (fun K hC => ?_)
  refine wd_aload_n hC dX5_keep_0 rfl rfl ?_
  refine wd_iconst (v := 0) hC dX5_keep_1 rfl ?_
  refine pf_X5_62 hC dX5_keep_2 ?_
  refine wd_ts (up_00 h0) ?_
  refine wd_iload_n hC dX5_keep_5 rfl rfl ?_
  refine wd_iconst (v := 0) hC dX5_keep_6 rfl ?_
  refine wd_iconst (v := 1) hC dX5_keep_7 rfl ?_
  refine cvsi hC cw_X5_66 (r_in hinj _ _ _ _) dX5_keep_8 (by first | decide | omega) (by decide) rfl rfl (Nat.le_of_ble_eq_true rfl) ?_
  refine wd_if_ne (tgt := 16) hC dX5_keep_11 (by decide) (fun c_11 => ?_) (fun c_11 => ?_)
  · replace c_11 := bI_1.mp c_11
    exact absurd c_11 hB
  · replace c_11 := bI_0.mp c_11
    refine wd_iconst (v := -1) hC dX5_keep_14 rfl ?_
    exact wd_iret hC rfl dX5_keep_15 rfl rfl
set_option maxRecDepth 100000 in
set_option maxHeartbeats 4000000 in
theorem r_keep {V : wd_V} {ad : Nat → Nat} (hinj : wd_inj rS ad) (σ : wd_S) (h0 : σ.1 0 0 = 0) (x : Int32) (m : Nat) (hx : x = nI m) (hm : m < 2)  : wd_C rS V ad 1 yX5_keep (Cond.code yX5_keep cX5_keep 3 (some .int) :: wsL_law) σ [.ref (ad 0), .int x] (wd_eq (some (.int (σ.1 9 31))) (wd_up (cpyW σ 9 0 11 (32 * m) 32) 12 m 1)) := by
  refine wd_intro (lv := [some (.ref (ad 0)), some (.int x), none]) hinj (by decide) rfl (Nat.le_of_ble_eq_true rfl) rfl (Nat.le_of_ble_eq_true rfl) (fun K hC => ?_)
  have loop : ∀ (k i : Nat), i ≤ 32 → 32 < i + k → wd_G rS V ad K 3 (wd_Qm rS V ad K (wd_eq (some (.int (σ.1 9 31))) (wd_up (cpyW σ 9 0 11 (32 * m) 32) 12 m 1))) 18 [some (.ref (ad 0)), some (.int x), some (.int (nI i))] [] (cpyW σ 9 0 11 (32 * m) i) := by
    intro k
    induction k with
    | zero =>
      intro i  h1 h2 
      exact absurd h2 (by omega)
    | succ k ih =>
      intro i  h1 h2 
      refine wd_iload_n hC dX5_keep_18 rfl rfl ?_
      refine wd_bipush (v := 32) hC dX5_keep_19 rfl ?_
      refine wd_icmp_ge (tgt := 47) hC dX5_keep_21 (by decide) (fun c_21 => ?_) (fun c_21 => ?_)
      · have hin : i = 32 := lp_ge (x := 32) (n := 32) rfl c_21 h1 (by decide)
        subst hin
        refine wd_aload_n hC dX5_keep_47 rfl rfl ?_
        refine gf_X5_43 hC dX5_keep_48 ?_
        refine wd_iload_n hC dX5_keep_51 rfl rfl ?_
        refine wd_iconst (v := 1) hC dX5_keep_52 rfl ?_
        refine rs_isKept hC dX5_keep_53 (m) hx (by omega) rfl ?_
        refine wd_aload_n hC dX5_keep_54 rfl rfl ?_
        refine gf_X5_34 hC dX5_keep_55 ?_
        refine wd_bipush (v := 31) hC dX5_keep_58 rfl ?_
        refine rl_s hC dX5_keep_60 31 rfl (by decide) ?_
        exact wd_iret hC rfl dX5_keep_61 (by rw [wd_up_o (by omega), cpyW_o _ _ _ _ _ _ (by omega)]) rfl
      · have hin : i < 32 := lp_lt (x := 32) (n := 32) rfl c_21 h1 (by decide)
        refine wd_aload_n hC dX5_keep_24 rfl rfl ?_
        refine gf_X5_40 hC dX5_keep_25 ?_
        refine wd_bipush (v := 32) hC dX5_keep_28 rfl ?_
        refine wd_iload_n hC dX5_keep_30 rfl rfl ?_
        refine wd_imul hC dX5_keep_31 ?_
        refine wd_iload_n hC dX5_keep_32 rfl rfl ?_
        refine wd_iadd hC dX5_keep_33 ?_
        refine wd_aload_n hC dX5_keep_34 rfl rfl ?_
        refine gf_X5_34 hC dX5_keep_35 ?_
        refine wd_iload_n hC dX5_keep_38 rfl rfl ?_
        refine rl_s hC dX5_keep_39 (i) rfl (by omega) ?_
        refine wd_vi (show _ = σ.1 9 (0 + i) from (by rw [cpyW_o _ _ _ _ _ _ (by omega), Nat.zero_add])) ?_
        refine rs_kept hC dX5_keep_40 ((32 * m) + i) (addN (mulI hx 32) rfl) (by omega) ?_
        refine wd_ts (cpyW_s σ 9 0 11 (32 * m) i) ?_
        refine wd_iincN_3_2 hC dX5_keep_41 ?_
        refine wd_goto (tgt := 18) hC dX5_keep_44 (by decide) ?_
        exact ih (i + 1) (by omega) (by omega)
  refine wd_aload_n hC dX5_keep_0 rfl rfl ?_
  refine wd_iconst (v := 0) hC dX5_keep_1 rfl ?_
  refine pf_X5_62 hC dX5_keep_2 ?_
  refine wd_ts (up_00 h0) ?_
  refine wd_iload_n hC dX5_keep_5 rfl rfl ?_
  refine wd_iconst (v := 0) hC dX5_keep_6 rfl ?_
  refine wd_iconst (v := 1) hC dX5_keep_7 rfl ?_
  refine cvsi hC cw_X5_66 (r_in hinj _ _ _ _) dX5_keep_8 (by first | decide | omega) (by decide) rfl rfl (Nat.le_of_ble_eq_true rfl) ?_
  refine wd_if_ne (tgt := 16) hC dX5_keep_11 (by decide) (fun c_11 => ?_) (fun c_11 => absurd c_11 (bIm (pin_of (k := 1) hx (by omega) (by decide))))
  refine wd_iconst (v := 0) hC dX5_keep_16 rfl ?_
  refine wd_istore_n_3_2 hC dX5_keep_17 ?_
  exact wd_ts (cpyW_0 σ 9 0 11 (32 * m)).symm (loop 33 0 (by decide) (by decide))
set_option maxRecDepth 100000 in
set_option maxHeartbeats 4000000 in
theorem r_back_bad {V : wd_V} {ad : Nat → Nat} (hinj : wd_inj rS ad) (σ : wd_S) (h0 : σ.1 0 0 = 0) (x : Int32) (hB : ¬ pIn x 0 1) : wd_C rS V ad 1 yX5_back (Cond.code yX5_back cX5_back 3 (some .int) :: wsL_law) σ [.ref (ad 0), .int x] (wd_eq (some (.int (-1))) (σ)) := by
  refine wd_intro (lv := [some (.ref (ad 0)), some (.int x), none]) hinj (by decide) rfl (Nat.le_of_ble_eq_true rfl) rfl (Nat.le_of_ble_eq_true rfl) (fun K hC => ?_)
  refine wd_aload_n hC dX5_back_0 rfl rfl ?_
  refine wd_iconst (v := 0) hC dX5_back_1 rfl ?_
  refine pf_X5_62 hC dX5_back_2 ?_
  refine wd_ts (up_00 h0) ?_
  refine wd_iload_n hC dX5_back_5 rfl rfl ?_
  refine wd_iconst (v := 0) hC dX5_back_6 rfl ?_
  refine wd_iconst (v := 1) hC dX5_back_7 rfl ?_
  refine cvsi hC cw_X5_66 (r_in hinj _ _ _ _) dX5_back_8 (by first | decide | omega) (by decide) rfl rfl (Nat.le_of_ble_eq_true rfl) ?_
  refine wd_if_ne (tgt := 16) hC dX5_back_11 (by decide) (fun c_11 => ?_) (fun c_11 => ?_)
  · replace c_11 := bI_1.mp c_11
    exact absurd c_11 hB
  · replace c_11 := bI_0.mp c_11
    refine wd_iconst (v := -1) hC dX5_back_14 rfl ?_
    exact wd_iret hC rfl dX5_back_15 rfl rfl
set_option maxRecDepth 100000 in
set_option maxHeartbeats 4000000 in
theorem r_back_none {V : wd_V} {ad : Nat → Nat} (hinj : wd_inj rS ad) (σ : wd_S) (h0 : σ.1 0 0 = 0) (x : Int32) (m : Nat) (hx : x = nI m) (hm : m < 2) (hk : σ.1 12 m = 0) : wd_C rS V ad 1 yX5_back (Cond.code yX5_back cX5_back 3 (some .int) :: wsL_law) σ [.ref (ad 0), .int x] (wd_eq (some (.int (-2))) (σ)) := by
  refine wd_intro (lv := [some (.ref (ad 0)), some (.int x), none]) hinj (by decide) rfl (Nat.le_of_ble_eq_true rfl) rfl (Nat.le_of_ble_eq_true rfl) (fun K hC => ?_)
  refine wd_aload_n hC dX5_back_0 rfl rfl ?_
  refine wd_iconst (v := 0) hC dX5_back_1 rfl ?_
  refine pf_X5_62 hC dX5_back_2 ?_
  refine wd_ts (up_00 h0) ?_
  refine wd_iload_n hC dX5_back_5 rfl rfl ?_
  refine wd_iconst (v := 0) hC dX5_back_6 rfl ?_
  refine wd_iconst (v := 1) hC dX5_back_7 rfl ?_
  refine cvsi hC cw_X5_66 (r_in hinj _ _ _ _) dX5_back_8 (by first | decide | omega) (by decide) rfl rfl (Nat.le_of_ble_eq_true rfl) ?_
  refine wd_if_ne (tgt := 16) hC dX5_back_11 (by decide) (fun c_11 => ?_) (fun c_11 => absurd c_11 (bIm (pin_of (k := 1) hx (by omega) (by decide))))
  refine wd_aload_n hC dX5_back_16 rfl rfl ?_
  refine gf_X5_43 hC dX5_back_17 ?_
  refine wd_iload_n hC dX5_back_20 rfl rfl ?_
  refine rl_isKept hC dX5_back_21 (m) hx (by omega) ?_
  refine wd_if_ne (tgt := 28) hC dX5_back_22 (by decide) (fun c_22 => absurd hk c_22) (fun c_22 => ?_)
  refine wd_bipush (v := -2) hC dX5_back_25 rfl ?_
  exact wd_iret hC rfl dX5_back_27 rfl rfl
set_option maxRecDepth 100000 in
set_option maxHeartbeats 4000000 in
theorem r_back {V : wd_V} {ad : Nat → Nat} (hinj : wd_inj rS ad) (σ : wd_S) (h0 : σ.1 0 0 = 0) (x : Int32) (m : Nat) (hx : x = nI m) (hm : m < 2) (hk : ¬ σ.1 12 m = 0) : wd_C rS V ad 1 yX5_back (Cond.code yX5_back cX5_back 3 (some .int) :: wsL_law) σ [.ref (ad 0), .int x] (wd_eq (some (.int (σ.1 11 (32 * m + 31)))) (wd_up (setR σ 9 (fun i => σ.1 11 (32 * m + i))) 0 21 0)) := by
  refine wd_intro (lv := [some (.ref (ad 0)), some (.int x), none]) hinj (by decide) rfl (Nat.le_of_ble_eq_true rfl) rfl (Nat.le_of_ble_eq_true rfl) (fun K hC => ?_)
  have loop : ∀ (k i : Nat), i ≤ 32 → 32 < i + k → wd_G rS V ad K 3 (wd_Qm rS V ad K (wd_eq (some (.int (σ.1 11 (32 * m + 31)))) (wd_up (setR σ 9 (fun i => σ.1 11 (32 * m + i))) 0 21 0))) 30 [some (.ref (ad 0)), some (.int x), some (.int (nI i))] [] (cpyW σ 11 (32 * m) 9 0 i) := by
    intro k
    induction k with
    | zero =>
      intro i  h1 h2 
      exact absurd h2 (by omega)
    | succ k ih =>
      intro i  h1 h2 
      refine wd_iload_n hC dX5_back_30 rfl rfl ?_
      refine wd_bipush (v := 32) hC dX5_back_31 rfl ?_
      refine wd_icmp_ge (tgt := 59) hC dX5_back_33 (by decide) (fun c_33 => ?_) (fun c_33 => ?_)
      · have hin : i = 32 := lp_ge (x := 32) (n := 32) rfl c_33 h1 (by decide)
        subst hin
        refine wd_to (cpy_set σ (Or.inl rfl)) ?_
        refine wd_aload_n hC dX5_back_59 rfl rfl ?_
        refine wd_iconst (v := 0) hC dX5_back_60 rfl ?_
        refine pf_X5_117 hC dX5_back_61 ?_
        refine wd_aload_n hC dX5_back_64 rfl rfl ?_
        refine gf_X5_34 hC dX5_back_65 ?_
        refine wd_bipush (v := 31) hC dX5_back_68 rfl ?_
        refine rl_s hC dX5_back_70 31 rfl (by decide) ?_
        exact wd_iret hC rfl dX5_back_71 (by rw [wd_up_o (by omega), setR_k]) rfl
      · have hin : i < 32 := lp_lt (x := 32) (n := 32) rfl c_33 h1 (by decide)
        refine wd_aload_n hC dX5_back_36 rfl rfl ?_
        refine gf_X5_34 hC dX5_back_37 ?_
        refine wd_iload_n hC dX5_back_40 rfl rfl ?_
        refine wd_aload_n hC dX5_back_41 rfl rfl ?_
        refine gf_X5_40 hC dX5_back_42 ?_
        refine wd_bipush (v := 32) hC dX5_back_45 rfl ?_
        refine wd_iload_n hC dX5_back_47 rfl rfl ?_
        refine wd_imul hC dX5_back_48 ?_
        refine wd_iload_n hC dX5_back_49 rfl rfl ?_
        refine wd_iadd hC dX5_back_50 ?_
        refine rl_kept hC dX5_back_51 ((32 * m) + i) (addN (mulI hx 32) rfl) (by omega) ?_
        refine wd_vi (show _ = σ.1 11 (32 * m + i) from (by rw [cpyW_o _ _ _ _ _ _ (by omega)])) ?_
        refine rs_s hC dX5_back_52 (i) rfl (by omega) ?_
        refine wd_ts (show _ = cpyW σ 11 (32 * m) 9 0 (i + 1) from (by rw [← cpyW_s, Nat.zero_add])) ?_
        refine wd_iincN_3_2 hC dX5_back_53 ?_
        refine wd_goto (tgt := 30) hC dX5_back_56 (by decide) ?_
        exact ih (i + 1) (by omega) (by omega)
  refine wd_aload_n hC dX5_back_0 rfl rfl ?_
  refine wd_iconst (v := 0) hC dX5_back_1 rfl ?_
  refine pf_X5_62 hC dX5_back_2 ?_
  refine wd_ts (up_00 h0) ?_
  refine wd_iload_n hC dX5_back_5 rfl rfl ?_
  refine wd_iconst (v := 0) hC dX5_back_6 rfl ?_
  refine wd_iconst (v := 1) hC dX5_back_7 rfl ?_
  refine cvsi hC cw_X5_66 (r_in hinj _ _ _ _) dX5_back_8 (by first | decide | omega) (by decide) rfl rfl (Nat.le_of_ble_eq_true rfl) ?_
  refine wd_if_ne (tgt := 16) hC dX5_back_11 (by decide) (fun c_11 => ?_) (fun c_11 => absurd c_11 (bIm (pin_of (k := 1) hx (by omega) (by decide))))
  refine wd_aload_n hC dX5_back_16 rfl rfl ?_
  refine gf_X5_43 hC dX5_back_17 ?_
  refine wd_iload_n hC dX5_back_20 rfl rfl ?_
  refine rl_isKept hC dX5_back_21 (m) hx (by omega) ?_
  refine wd_if_ne (tgt := 28) hC dX5_back_22 (by decide) (fun c_22 => ?_) (fun c_22 => absurd c_22 hk)
  refine wd_iconst (v := 0) hC dX5_back_28 rfl ?_
  refine wd_istore_n_3_2 hC dX5_back_29 ?_
  exact wd_ts (cpyW_0 σ 11 (32 * m) 9 0).symm (loop 33 0 (by decide) (by decide))
set_option maxRecDepth 100000 in
set_option maxHeartbeats 4000000 in
theorem r_rate_bad {V : wd_V} {ad : Nat → Nat} (hinj : wd_inj rS ad) (σ : wd_S) (h0 : σ.1 0 0 = 0) (x y : Int32) (hB : ¬ (pIn x 0 5 ∧ qMan σ y)) : wd_C rS V ad 2 yX5_rate (Cond.code yX5_rate cX5_rate 4 (some .int) :: wsL_law) σ [.ref (ad 0), .int x, .int y] (wd_eq (some (.int (-1000000))) (σ)) := by
  refine wd_intro (lv := [some (.ref (ad 0)), some (.int x), some (.int y), none]) hinj (by decide) rfl (Nat.le_of_ble_eq_true rfl) rfl (Nat.le_of_ble_eq_true rfl) (fun K hC => ?_)
  refine wd_aload_n hC dX5_rate_0 rfl rfl ?_
  refine wd_iconst (v := 0) hC dX5_rate_1 rfl ?_
  refine pf_X5_62 hC dX5_rate_2 ?_
  refine wd_ts (up_00 h0) ?_
  refine wd_iload_n hC dX5_rate_5 rfl rfl ?_
  refine wd_iconst (v := 0) hC dX5_rate_6 rfl ?_
  refine wd_iconst (v := 5) hC dX5_rate_7 rfl ?_
  refine cvsi hC cw_X5_66 (r_in hinj _ _ _ _) dX5_rate_8 (by first | decide | omega) (by decide) rfl rfl (Nat.le_of_ble_eq_true rfl) ?_
  refine wd_if_eq (tgt := 22) hC dX5_rate_11 (by decide) (fun c_11 => ?_) (fun c_11 => ?_)
  · replace c_11 := bI_0.mp c_11
    refine wd_ldc (v := (-1000000)) hC dX5_rate_22 (wL_13 _ (List.mem_of_getElem? (i := 6) rfl)) ?_
    exact wd_iret hC rfl dX5_rate_24 rfl rfl
  · replace c_11 := bI_1.mp c_11
    refine wd_aload_n hC dX5_rate_14 rfl rfl ?_
    refine wd_iload_n hC dX5_rate_15 rfl rfl ?_
    refine cv5i hC cw_X5_134 (r_isMan hinj _ _) dX5_rate_16 (by first | decide | omega) (by decide) rfl rfl (Nat.le_of_ble_eq_true rfl) ?_
    refine wd_if_ne (tgt := 25) hC dX5_rate_19 (by decide) (fun c_19 => ?_) (fun c_19 => ?_)
    · replace c_19 := bI_1.mp c_19
      exact absurd ⟨c_11, c_19⟩ hB
    · replace c_19 := bI_0.mp c_19
      refine wd_ldc (v := (-1000000)) hC dX5_rate_22 (wL_13 _ (List.mem_of_getElem? (i := 6) rfl)) ?_
      exact wd_iret hC rfl dX5_rate_24 rfl rfl
set_option maxRecDepth 100000 in
set_option maxHeartbeats 4000000 in
theorem r_rate_0 {V : wd_V} {ad : Nat → Nat} (hinj : wd_inj rS ad) (σ : wd_S) (h0 : σ.1 0 0 = 0) (nm nc : Nat) (hnm : σ.1 2 1 = nI nm) (hnc : σ.1 2 0 = nI nc) (h6 : nm ≤ 6) (h3 : nc ≤ 3) (hr : rOk (σ.1 3) (σ.1 9) nm nc) (y : Int32) (m : Nat) (hy : y = nI m) (hm : m < nm) : wd_C rS V ad 4 yX5_rate (Cond.code yX5_rate cX5_rate 4 (some .int) :: wsL_law) σ [.ref (ad 0), .int 0, .int y] (wd_eq (some (.int (vHas σ (σ.1 9) m))) ((σ.1, σ.2.1 + 1, σ.2.2))) := by
  refine wd_intro (lv := [some (.ref (ad 0)), some (.int 0), some (.int y), none]) hinj (by decide) rfl (Nat.le_of_ble_eq_true rfl) rfl (Nat.le_of_ble_eq_true rfl) (fun K hC => ?_)
  refine wd_aload_n hC dX5_rate_0 rfl rfl ?_
  refine wd_iconst (v := 0) hC dX5_rate_1 rfl ?_
  refine pf_X5_62 hC dX5_rate_2 ?_
  refine wd_ts (up_00 h0) ?_
  refine wd_iload_n hC dX5_rate_5 rfl rfl ?_
  refine wd_iconst (v := 0) hC dX5_rate_6 rfl ?_
  refine wd_iconst (v := 5) hC dX5_rate_7 rfl ?_
  refine cvsi hC cw_X5_66 (r_in hinj _ _ _ _) dX5_rate_8 (by first | decide | omega) (by decide) rfl rfl (Nat.le_of_ble_eq_true rfl) ?_
  refine wd_if_eq (tgt := 22) hC dX5_rate_11 (by decide) (fun c_11 => absurd c_11 (bIm (by decide))) (fun c_11 => ?_)
  refine wd_aload_n hC dX5_rate_14 rfl rfl ?_
  refine wd_iload_n hC dX5_rate_15 rfl rfl ?_
  refine cv5i hC cw_X5_134 (r_isMan hinj _ _) dX5_rate_16 (by first | decide | omega) (by decide) rfl rfl (Nat.le_of_ble_eq_true rfl) ?_
  refine wd_if_ne (tgt := 25) hC dX5_rate_19 (by decide) (fun c_19 => ?_) (fun c_19 => absurd c_19 (bIm (qm_of hnm hy hm h6)))
  refine wd_aload_n hC dX5_rate_25 rfl rfl ?_
  refine wd_aload_n hC dX5_rate_26 rfl rfl ?_
  refine gf_X5_34 hC dX5_rate_27 ?_
  refine wd_iload_n hC dX5_rate_30 rfl rfl ?_
  refine cv5i hC cw_X5_142 (r_hasBy hinj _ 9 (Or.inl rfl) nm nc hr _ _ hy hm) dX5_rate_31 (by first | decide | omega) (by decide) rfl rfl (Nat.le_of_ble_eq_true rfl) ?_
  refine wd_istore_n_4_3 hC dX5_rate_34 ?_
  refine wd_aload_n hC dX5_rate_35 rfl rfl ?_
  refine wd_dup hC dX5_rate_36 rfl ?_
  refine gf_X5_193 hC dX5_rate_37 ?_
  refine wd_iload_n hC dX5_rate_40 rfl rfl ?_
  refine wd_if_ne (tgt := 48) hC dX5_rate_41 (by decide) (fun c_41 => absurd (by decide) c_41) (fun c_41 => ?_)
  refine wd_lconst (v := 1) hC dX5_rate_44 rfl ?_
  refine wd_goto (tgt := 95) hC dX5_rate_45 (by decide) ?_
  refine wd_ladd hC dX5_rate_95 ?_
  refine pf_X5_193 hC dX5_rate_96 ?_
  refine wd_iload_n hC dX5_rate_99 rfl rfl ?_
  refine wd_if_ne (tgt := 107) hC dX5_rate_100 (by decide) (fun c_100 => absurd (by decide) c_100) (fun c_100 => ?_)
  refine wd_iload_n hC dX5_rate_103 rfl rfl ?_
  refine wd_goto (tgt := 184) hC dX5_rate_104 (by decide) ?_
  exact wd_iret hC rfl dX5_rate_184 rfl rfl
set_option maxRecDepth 100000 in
set_option maxHeartbeats 4000000 in
theorem r_rate_1 {V : wd_V} {ad : Nat → Nat} (hinj : wd_inj rS ad) (σ : wd_S) (h0 : σ.1 0 0 = 0) (nm nc : Nat) (hnm : σ.1 2 1 = nI nm) (hnc : σ.1 2 0 = nI nc) (h6 : nm ≤ 6) (h3 : nc ≤ 3) (hr : rOk (σ.1 3) (σ.1 9) nm nc) (y : Int32) (m : Nat) (hy : y = nI m) (hm : m < nm) : wd_C rS V ad 4 yX5_rate (Cond.code yX5_rate cX5_rate 4 (some .int) :: wsL_law) σ [.ref (ad 0), .int 1, .int y] (wd_eq (some (.int (vHas σ (σ.1 9) m + σ.1 5 m))) ((σ.1, σ.2.1 + 11, σ.2.2))) := by
  refine wd_intro (lv := [some (.ref (ad 0)), some (.int 1), some (.int y), none]) hinj (by decide) rfl (Nat.le_of_ble_eq_true rfl) rfl (Nat.le_of_ble_eq_true rfl) (fun K hC => ?_)
  refine wd_aload_n hC dX5_rate_0 rfl rfl ?_
  refine wd_iconst (v := 0) hC dX5_rate_1 rfl ?_
  refine pf_X5_62 hC dX5_rate_2 ?_
  refine wd_ts (up_00 h0) ?_
  refine wd_iload_n hC dX5_rate_5 rfl rfl ?_
  refine wd_iconst (v := 0) hC dX5_rate_6 rfl ?_
  refine wd_iconst (v := 5) hC dX5_rate_7 rfl ?_
  refine cvsi hC cw_X5_66 (r_in hinj _ _ _ _) dX5_rate_8 (by first | decide | omega) (by decide) rfl rfl (Nat.le_of_ble_eq_true rfl) ?_
  refine wd_if_eq (tgt := 22) hC dX5_rate_11 (by decide) (fun c_11 => absurd c_11 (bIm (by decide))) (fun c_11 => ?_)
  refine wd_aload_n hC dX5_rate_14 rfl rfl ?_
  refine wd_iload_n hC dX5_rate_15 rfl rfl ?_
  refine cv5i hC cw_X5_134 (r_isMan hinj _ _) dX5_rate_16 (by first | decide | omega) (by decide) rfl rfl (Nat.le_of_ble_eq_true rfl) ?_
  refine wd_if_ne (tgt := 25) hC dX5_rate_19 (by decide) (fun c_19 => ?_) (fun c_19 => absurd c_19 (bIm (qm_of hnm hy hm h6)))
  refine wd_aload_n hC dX5_rate_25 rfl rfl ?_
  refine wd_aload_n hC dX5_rate_26 rfl rfl ?_
  refine gf_X5_34 hC dX5_rate_27 ?_
  refine wd_iload_n hC dX5_rate_30 rfl rfl ?_
  refine cv5i hC cw_X5_142 (r_hasBy hinj _ 9 (Or.inl rfl) nm nc hr _ _ hy hm) dX5_rate_31 (by first | decide | omega) (by decide) rfl rfl (Nat.le_of_ble_eq_true rfl) ?_
  refine wd_istore_n_4_3 hC dX5_rate_34 ?_
  refine wd_aload_n hC dX5_rate_35 rfl rfl ?_
  refine wd_dup hC dX5_rate_36 rfl ?_
  refine gf_X5_193 hC dX5_rate_37 ?_
  refine wd_iload_n hC dX5_rate_40 rfl rfl ?_
  refine wd_if_ne (tgt := 48) hC dX5_rate_41 (by decide) (fun c_41 => ?_) (fun c_41 => absurd c_41 (by decide))
  refine wd_iload_n hC dX5_rate_48 rfl rfl ?_
  refine wd_iconst (v := 1) hC dX5_rate_49 rfl ?_
  refine wd_icmp_ne (tgt := 59) hC dX5_rate_50 (by decide) (fun c_50 => absurd (by decide) c_50) (fun c_50 => ?_)
  refine wd_ldc2 (v := (11)) hC dX5_rate_53 (wL_28 _ (List.mem_of_getElem? (i := 21) rfl)) ?_
  refine wd_goto (tgt := 95) hC dX5_rate_56 (by decide) ?_
  refine wd_ladd hC dX5_rate_95 ?_
  refine pf_X5_193 hC dX5_rate_96 ?_
  refine wd_iload_n hC dX5_rate_99 rfl rfl ?_
  refine wd_if_ne (tgt := 107) hC dX5_rate_100 (by decide) (fun c_100 => ?_) (fun c_100 => absurd c_100 (by decide))
  refine wd_iload_n hC dX5_rate_107 rfl rfl ?_
  refine wd_iconst (v := 1) hC dX5_rate_108 rfl ?_
  refine wd_icmp_ne (tgt := 123) hC dX5_rate_109 (by decide) (fun c_109 => absurd (by decide) c_109) (fun c_109 => ?_)
  refine wd_iload_n hC dX5_rate_112 rfl rfl ?_
  refine wd_aload_n hC dX5_rate_113 rfl rfl ?_
  refine gf_X5_22 hC dX5_rate_114 ?_
  refine wd_iload_n hC dX5_rate_117 rfl rfl ?_
  refine rl_strong hC dX5_rate_118 (m) hy (by omega) ?_
  refine wd_iadd hC dX5_rate_119 ?_
  refine wd_goto (tgt := 184) hC dX5_rate_120 (by decide) ?_
  exact wd_iret hC rfl dX5_rate_184 rfl rfl
set_option maxRecDepth 100000 in
set_option maxHeartbeats 4000000 in
theorem r_rate_2 {V : wd_V} {ad : Nat → Nat} (hinj : wd_inj rS ad) (σ : wd_S) (h0 : σ.1 0 0 = 0) (nm nc : Nat) (hnm : σ.1 2 1 = nI nm) (hnc : σ.1 2 0 = nI nc) (h6 : nm ≤ 6) (h3 : nc ≤ 3) (hr : rOk (σ.1 3) (σ.1 9) nm nc) (y : Int32) (m : Nat) (hy : y = nI m) (hm : m < nm) : wd_C rS V ad 4 yX5_rate (Cond.code yX5_rate cX5_rate 4 (some .int) :: wsL_law) σ [.ref (ad 0), .int 2, .int y] (wd_eq (some (.int (vHas σ (σ.1 9) m - σ.1 7 m))) ((σ.1, σ.2.1 + 101, σ.2.2))) := by
  refine wd_intro (lv := [some (.ref (ad 0)), some (.int 2), some (.int y), none]) hinj (by decide) rfl (Nat.le_of_ble_eq_true rfl) rfl (Nat.le_of_ble_eq_true rfl) (fun K hC => ?_)
  refine wd_aload_n hC dX5_rate_0 rfl rfl ?_
  refine wd_iconst (v := 0) hC dX5_rate_1 rfl ?_
  refine pf_X5_62 hC dX5_rate_2 ?_
  refine wd_ts (up_00 h0) ?_
  refine wd_iload_n hC dX5_rate_5 rfl rfl ?_
  refine wd_iconst (v := 0) hC dX5_rate_6 rfl ?_
  refine wd_iconst (v := 5) hC dX5_rate_7 rfl ?_
  refine cvsi hC cw_X5_66 (r_in hinj _ _ _ _) dX5_rate_8 (by first | decide | omega) (by decide) rfl rfl (Nat.le_of_ble_eq_true rfl) ?_
  refine wd_if_eq (tgt := 22) hC dX5_rate_11 (by decide) (fun c_11 => absurd c_11 (bIm (by decide))) (fun c_11 => ?_)
  refine wd_aload_n hC dX5_rate_14 rfl rfl ?_
  refine wd_iload_n hC dX5_rate_15 rfl rfl ?_
  refine cv5i hC cw_X5_134 (r_isMan hinj _ _) dX5_rate_16 (by first | decide | omega) (by decide) rfl rfl (Nat.le_of_ble_eq_true rfl) ?_
  refine wd_if_ne (tgt := 25) hC dX5_rate_19 (by decide) (fun c_19 => ?_) (fun c_19 => absurd c_19 (bIm (qm_of hnm hy hm h6)))
  refine wd_aload_n hC dX5_rate_25 rfl rfl ?_
  refine wd_aload_n hC dX5_rate_26 rfl rfl ?_
  refine gf_X5_34 hC dX5_rate_27 ?_
  refine wd_iload_n hC dX5_rate_30 rfl rfl ?_
  refine cv5i hC cw_X5_142 (r_hasBy hinj _ 9 (Or.inl rfl) nm nc hr _ _ hy hm) dX5_rate_31 (by first | decide | omega) (by decide) rfl rfl (Nat.le_of_ble_eq_true rfl) ?_
  refine wd_istore_n_4_3 hC dX5_rate_34 ?_
  refine wd_aload_n hC dX5_rate_35 rfl rfl ?_
  refine wd_dup hC dX5_rate_36 rfl ?_
  refine gf_X5_193 hC dX5_rate_37 ?_
  refine wd_iload_n hC dX5_rate_40 rfl rfl ?_
  refine wd_if_ne (tgt := 48) hC dX5_rate_41 (by decide) (fun c_41 => ?_) (fun c_41 => absurd c_41 (by decide))
  refine wd_iload_n hC dX5_rate_48 rfl rfl ?_
  refine wd_iconst (v := 1) hC dX5_rate_49 rfl ?_
  refine wd_icmp_ne (tgt := 59) hC dX5_rate_50 (by decide) (fun c_50 => ?_) (fun c_50 => absurd c_50 (by decide))
  refine wd_iload_n hC dX5_rate_59 rfl rfl ?_
  refine wd_iconst (v := 2) hC dX5_rate_60 rfl ?_
  refine wd_icmp_ne (tgt := 70) hC dX5_rate_61 (by decide) (fun c_61 => absurd (by decide) c_61) (fun c_61 => ?_)
  refine wd_ldc2 (v := (101)) hC dX5_rate_64 (wL_28 _ (List.mem_of_getElem? (i := 22) rfl)) ?_
  refine wd_goto (tgt := 95) hC dX5_rate_67 (by decide) ?_
  refine wd_ladd hC dX5_rate_95 ?_
  refine pf_X5_193 hC dX5_rate_96 ?_
  refine wd_iload_n hC dX5_rate_99 rfl rfl ?_
  refine wd_if_ne (tgt := 107) hC dX5_rate_100 (by decide) (fun c_100 => ?_) (fun c_100 => absurd c_100 (by decide))
  refine wd_iload_n hC dX5_rate_107 rfl rfl ?_
  refine wd_iconst (v := 1) hC dX5_rate_108 rfl ?_
  refine wd_icmp_ne (tgt := 123) hC dX5_rate_109 (by decide) (fun c_109 => ?_) (fun c_109 => absurd c_109 (by decide))
  refine wd_iload_n hC dX5_rate_123 rfl rfl ?_
  refine wd_iconst (v := 2) hC dX5_rate_124 rfl ?_
  refine wd_icmp_ne (tgt := 139) hC dX5_rate_125 (by decide) (fun c_125 => absurd (by decide) c_125) (fun c_125 => ?_)
  refine wd_iload_n hC dX5_rate_128 rfl rfl ?_
  refine wd_aload_n hC dX5_rate_129 rfl rfl ?_
  refine gf_X5_28 hC dX5_rate_130 ?_
  refine wd_iload_n hC dX5_rate_133 rfl rfl ?_
  refine rl_needs hC dX5_rate_134 (m) hy (by omega) ?_
  refine wd_isub hC dX5_rate_135 ?_
  refine wd_goto (tgt := 184) hC dX5_rate_136 (by decide) ?_
  exact wd_iret hC rfl dX5_rate_184 rfl rfl
set_option maxRecDepth 100000 in
set_option maxHeartbeats 4000000 in
theorem r_rate_3 {V : wd_V} {ad : Nat → Nat} (hinj : wd_inj rS ad) (σ : wd_S) (h0 : σ.1 0 0 = 0) (nm nc : Nat) (hnm : σ.1 2 1 = nI nm) (hnc : σ.1 2 0 = nI nc) (h6 : nm ≤ 6) (h3 : nc ≤ 3) (hr : rOk (σ.1 3) (σ.1 9) nm nc) (y : Int32) (m : Nat) (hy : y = nI m) (hm : m < nm) : wd_C rS V ad 4 yX5_rate (Cond.code yX5_rate cX5_rate 4 (some .int) :: wsL_law) σ [.ref (ad 0), .int 3, .int y] (wd_eq (some (.int (2 * (vHas σ (σ.1 9) m + σ.1 5 m)))) ((σ.1, σ.2.1 + 1011, σ.2.2))) := by
  refine wd_intro (lv := [some (.ref (ad 0)), some (.int 3), some (.int y), none]) hinj (by decide) rfl (Nat.le_of_ble_eq_true rfl) rfl (Nat.le_of_ble_eq_true rfl) (fun K hC => ?_)
  refine wd_aload_n hC dX5_rate_0 rfl rfl ?_
  refine wd_iconst (v := 0) hC dX5_rate_1 rfl ?_
  refine pf_X5_62 hC dX5_rate_2 ?_
  refine wd_ts (up_00 h0) ?_
  refine wd_iload_n hC dX5_rate_5 rfl rfl ?_
  refine wd_iconst (v := 0) hC dX5_rate_6 rfl ?_
  refine wd_iconst (v := 5) hC dX5_rate_7 rfl ?_
  refine cvsi hC cw_X5_66 (r_in hinj _ _ _ _) dX5_rate_8 (by first | decide | omega) (by decide) rfl rfl (Nat.le_of_ble_eq_true rfl) ?_
  refine wd_if_eq (tgt := 22) hC dX5_rate_11 (by decide) (fun c_11 => absurd c_11 (bIm (by decide))) (fun c_11 => ?_)
  refine wd_aload_n hC dX5_rate_14 rfl rfl ?_
  refine wd_iload_n hC dX5_rate_15 rfl rfl ?_
  refine cv5i hC cw_X5_134 (r_isMan hinj _ _) dX5_rate_16 (by first | decide | omega) (by decide) rfl rfl (Nat.le_of_ble_eq_true rfl) ?_
  refine wd_if_ne (tgt := 25) hC dX5_rate_19 (by decide) (fun c_19 => ?_) (fun c_19 => absurd c_19 (bIm (qm_of hnm hy hm h6)))
  refine wd_aload_n hC dX5_rate_25 rfl rfl ?_
  refine wd_aload_n hC dX5_rate_26 rfl rfl ?_
  refine gf_X5_34 hC dX5_rate_27 ?_
  refine wd_iload_n hC dX5_rate_30 rfl rfl ?_
  refine cv5i hC cw_X5_142 (r_hasBy hinj _ 9 (Or.inl rfl) nm nc hr _ _ hy hm) dX5_rate_31 (by first | decide | omega) (by decide) rfl rfl (Nat.le_of_ble_eq_true rfl) ?_
  refine wd_istore_n_4_3 hC dX5_rate_34 ?_
  refine wd_aload_n hC dX5_rate_35 rfl rfl ?_
  refine wd_dup hC dX5_rate_36 rfl ?_
  refine gf_X5_193 hC dX5_rate_37 ?_
  refine wd_iload_n hC dX5_rate_40 rfl rfl ?_
  refine wd_if_ne (tgt := 48) hC dX5_rate_41 (by decide) (fun c_41 => ?_) (fun c_41 => absurd c_41 (by decide))
  refine wd_iload_n hC dX5_rate_48 rfl rfl ?_
  refine wd_iconst (v := 1) hC dX5_rate_49 rfl ?_
  refine wd_icmp_ne (tgt := 59) hC dX5_rate_50 (by decide) (fun c_50 => ?_) (fun c_50 => absurd c_50 (by decide))
  refine wd_iload_n hC dX5_rate_59 rfl rfl ?_
  refine wd_iconst (v := 2) hC dX5_rate_60 rfl ?_
  refine wd_icmp_ne (tgt := 70) hC dX5_rate_61 (by decide) (fun c_61 => ?_) (fun c_61 => absurd c_61 (by decide))
  refine wd_iload_n hC dX5_rate_70 rfl rfl ?_
  refine wd_iconst (v := 3) hC dX5_rate_71 rfl ?_
  refine wd_icmp_ne (tgt := 81) hC dX5_rate_72 (by decide) (fun c_72 => absurd (by decide) c_72) (fun c_72 => ?_)
  refine wd_ldc2 (v := (1011)) hC dX5_rate_75 (wL_28 _ (List.mem_of_getElem? (i := 23) rfl)) ?_
  refine wd_goto (tgt := 95) hC dX5_rate_78 (by decide) ?_
  refine wd_ladd hC dX5_rate_95 ?_
  refine pf_X5_193 hC dX5_rate_96 ?_
  refine wd_iload_n hC dX5_rate_99 rfl rfl ?_
  refine wd_if_ne (tgt := 107) hC dX5_rate_100 (by decide) (fun c_100 => ?_) (fun c_100 => absurd c_100 (by decide))
  refine wd_iload_n hC dX5_rate_107 rfl rfl ?_
  refine wd_iconst (v := 1) hC dX5_rate_108 rfl ?_
  refine wd_icmp_ne (tgt := 123) hC dX5_rate_109 (by decide) (fun c_109 => ?_) (fun c_109 => absurd c_109 (by decide))
  refine wd_iload_n hC dX5_rate_123 rfl rfl ?_
  refine wd_iconst (v := 2) hC dX5_rate_124 rfl ?_
  refine wd_icmp_ne (tgt := 139) hC dX5_rate_125 (by decide) (fun c_125 => ?_) (fun c_125 => absurd c_125 (by decide))
  refine wd_iload_n hC dX5_rate_139 rfl rfl ?_
  refine wd_iconst (v := 3) hC dX5_rate_140 rfl ?_
  refine wd_icmp_ne (tgt := 157) hC dX5_rate_141 (by decide) (fun c_141 => absurd (by decide) c_141) (fun c_141 => ?_)
  refine wd_iconst (v := 2) hC dX5_rate_144 rfl ?_
  refine wd_iload_n hC dX5_rate_145 rfl rfl ?_
  refine wd_aload_n hC dX5_rate_146 rfl rfl ?_
  refine gf_X5_22 hC dX5_rate_147 ?_
  refine wd_iload_n hC dX5_rate_150 rfl rfl ?_
  refine rl_strong hC dX5_rate_151 (m) hy (by omega) ?_
  refine wd_iadd hC dX5_rate_152 ?_
  refine wd_imul hC dX5_rate_153 ?_
  refine wd_goto (tgt := 184) hC dX5_rate_154 (by decide) ?_
  exact wd_iret hC rfl dX5_rate_184 rfl rfl
set_option maxRecDepth 100000 in
set_option maxHeartbeats 4000000 in
theorem r_rate_4 {V : wd_V} {ad : Nat → Nat} (hinj : wd_inj rS ad) (σ : wd_S) (h0 : σ.1 0 0 = 0) (nm nc : Nat) (hnm : σ.1 2 1 = nI nm) (hnc : σ.1 2 0 = nI nc) (h6 : nm ≤ 6) (h3 : nc ≤ 3) (hr : rOk (σ.1 3) (σ.1 9) nm nc) (y : Int32) (m : Nat) (hy : y = nI m) (hm : m < nm) : wd_C rS V ad 4 yX5_rate (Cond.code yX5_rate cX5_rate 4 (some .int) :: wsL_law) σ [.ref (ad 0), .int 4, .int y] (wd_eq (some (.int (vHas σ (σ.1 9) m - σ.1 7 m + y))) ((σ.1, σ.2.1 + 10101, σ.2.2))) := by
  refine wd_intro (lv := [some (.ref (ad 0)), some (.int 4), some (.int y), none]) hinj (by decide) rfl (Nat.le_of_ble_eq_true rfl) rfl (Nat.le_of_ble_eq_true rfl) (fun K hC => ?_)
  refine wd_aload_n hC dX5_rate_0 rfl rfl ?_
  refine wd_iconst (v := 0) hC dX5_rate_1 rfl ?_
  refine pf_X5_62 hC dX5_rate_2 ?_
  refine wd_ts (up_00 h0) ?_
  refine wd_iload_n hC dX5_rate_5 rfl rfl ?_
  refine wd_iconst (v := 0) hC dX5_rate_6 rfl ?_
  refine wd_iconst (v := 5) hC dX5_rate_7 rfl ?_
  refine cvsi hC cw_X5_66 (r_in hinj _ _ _ _) dX5_rate_8 (by first | decide | omega) (by decide) rfl rfl (Nat.le_of_ble_eq_true rfl) ?_
  refine wd_if_eq (tgt := 22) hC dX5_rate_11 (by decide) (fun c_11 => absurd c_11 (bIm (by decide))) (fun c_11 => ?_)
  refine wd_aload_n hC dX5_rate_14 rfl rfl ?_
  refine wd_iload_n hC dX5_rate_15 rfl rfl ?_
  refine cv5i hC cw_X5_134 (r_isMan hinj _ _) dX5_rate_16 (by first | decide | omega) (by decide) rfl rfl (Nat.le_of_ble_eq_true rfl) ?_
  refine wd_if_ne (tgt := 25) hC dX5_rate_19 (by decide) (fun c_19 => ?_) (fun c_19 => absurd c_19 (bIm (qm_of hnm hy hm h6)))
  refine wd_aload_n hC dX5_rate_25 rfl rfl ?_
  refine wd_aload_n hC dX5_rate_26 rfl rfl ?_
  refine gf_X5_34 hC dX5_rate_27 ?_
  refine wd_iload_n hC dX5_rate_30 rfl rfl ?_
  refine cv5i hC cw_X5_142 (r_hasBy hinj _ 9 (Or.inl rfl) nm nc hr _ _ hy hm) dX5_rate_31 (by first | decide | omega) (by decide) rfl rfl (Nat.le_of_ble_eq_true rfl) ?_
  refine wd_istore_n_4_3 hC dX5_rate_34 ?_
  refine wd_aload_n hC dX5_rate_35 rfl rfl ?_
  refine wd_dup hC dX5_rate_36 rfl ?_
  refine gf_X5_193 hC dX5_rate_37 ?_
  refine wd_iload_n hC dX5_rate_40 rfl rfl ?_
  refine wd_if_ne (tgt := 48) hC dX5_rate_41 (by decide) (fun c_41 => ?_) (fun c_41 => absurd c_41 (by decide))
  refine wd_iload_n hC dX5_rate_48 rfl rfl ?_
  refine wd_iconst (v := 1) hC dX5_rate_49 rfl ?_
  refine wd_icmp_ne (tgt := 59) hC dX5_rate_50 (by decide) (fun c_50 => ?_) (fun c_50 => absurd c_50 (by decide))
  refine wd_iload_n hC dX5_rate_59 rfl rfl ?_
  refine wd_iconst (v := 2) hC dX5_rate_60 rfl ?_
  refine wd_icmp_ne (tgt := 70) hC dX5_rate_61 (by decide) (fun c_61 => ?_) (fun c_61 => absurd c_61 (by decide))
  refine wd_iload_n hC dX5_rate_70 rfl rfl ?_
  refine wd_iconst (v := 3) hC dX5_rate_71 rfl ?_
  refine wd_icmp_ne (tgt := 81) hC dX5_rate_72 (by decide) (fun c_72 => ?_) (fun c_72 => absurd c_72 (by decide))
  refine wd_iload_n hC dX5_rate_81 rfl rfl ?_
  refine wd_iconst (v := 4) hC dX5_rate_82 rfl ?_
  refine wd_icmp_ne (tgt := 92) hC dX5_rate_83 (by decide) (fun c_83 => absurd (by decide) c_83) (fun c_83 => ?_)
  refine wd_ldc2 (v := (10101)) hC dX5_rate_86 (wL_29 _ (List.mem_of_getElem? (i := 0) rfl)) ?_
  refine wd_goto (tgt := 95) hC dX5_rate_89 (by decide) ?_
  refine wd_ladd hC dX5_rate_95 ?_
  refine pf_X5_193 hC dX5_rate_96 ?_
  refine wd_iload_n hC dX5_rate_99 rfl rfl ?_
  refine wd_if_ne (tgt := 107) hC dX5_rate_100 (by decide) (fun c_100 => ?_) (fun c_100 => absurd c_100 (by decide))
  refine wd_iload_n hC dX5_rate_107 rfl rfl ?_
  refine wd_iconst (v := 1) hC dX5_rate_108 rfl ?_
  refine wd_icmp_ne (tgt := 123) hC dX5_rate_109 (by decide) (fun c_109 => ?_) (fun c_109 => absurd c_109 (by decide))
  refine wd_iload_n hC dX5_rate_123 rfl rfl ?_
  refine wd_iconst (v := 2) hC dX5_rate_124 rfl ?_
  refine wd_icmp_ne (tgt := 139) hC dX5_rate_125 (by decide) (fun c_125 => ?_) (fun c_125 => absurd c_125 (by decide))
  refine wd_iload_n hC dX5_rate_139 rfl rfl ?_
  refine wd_iconst (v := 3) hC dX5_rate_140 rfl ?_
  refine wd_icmp_ne (tgt := 157) hC dX5_rate_141 (by decide) (fun c_141 => ?_) (fun c_141 => absurd c_141 (by decide))
  refine wd_iload_n hC dX5_rate_157 rfl rfl ?_
  refine wd_iconst (v := 4) hC dX5_rate_158 rfl ?_
  refine wd_icmp_ne (tgt := 175) hC dX5_rate_159 (by decide) (fun c_159 => absurd (by decide) c_159) (fun c_159 => ?_)
  refine wd_iload_n hC dX5_rate_162 rfl rfl ?_
  refine wd_aload_n hC dX5_rate_163 rfl rfl ?_
  refine gf_X5_28 hC dX5_rate_164 ?_
  refine wd_iload_n hC dX5_rate_167 rfl rfl ?_
  refine rl_needs hC dX5_rate_168 (m) hy (by omega) ?_
  refine wd_isub hC dX5_rate_169 ?_
  refine wd_iload_n hC dX5_rate_170 rfl rfl ?_
  refine wd_iadd hC dX5_rate_171 ?_
  refine wd_goto (tgt := 184) hC dX5_rate_172 (by decide) ?_
  exact wd_iret hC rfl dX5_rate_184 rfl rfl
set_option maxRecDepth 100000 in
set_option maxHeartbeats 4000000 in
theorem r_rate_5 {V : wd_V} {ad : Nat → Nat} (hinj : wd_inj rS ad) (σ : wd_S) (h0 : σ.1 0 0 = 0) (nm nc : Nat) (hnm : σ.1 2 1 = nI nm) (hnc : σ.1 2 0 = nI nc) (h6 : nm ≤ 6) (h3 : nc ≤ 3) (hr : rOk (σ.1 3) (σ.1 9) nm nc) (y : Int32) (m : Nat) (hy : y = nI m) (hm : m < nm) : wd_C rS V ad 4 yX5_rate (Cond.code yX5_rate cX5_rate 4 (some .int) :: wsL_law) σ [.ref (ad 0), .int 5, .int y] (wd_eq (some (.int (vHas σ (σ.1 9) m + σ.1 9 31))) ((σ.1, σ.2.1 + 100001, σ.2.2))) := by
  refine wd_intro (lv := [some (.ref (ad 0)), some (.int 5), some (.int y), none]) hinj (by decide) rfl (Nat.le_of_ble_eq_true rfl) rfl (Nat.le_of_ble_eq_true rfl) (fun K hC => ?_)
  refine wd_aload_n hC dX5_rate_0 rfl rfl ?_
  refine wd_iconst (v := 0) hC dX5_rate_1 rfl ?_
  refine pf_X5_62 hC dX5_rate_2 ?_
  refine wd_ts (up_00 h0) ?_
  refine wd_iload_n hC dX5_rate_5 rfl rfl ?_
  refine wd_iconst (v := 0) hC dX5_rate_6 rfl ?_
  refine wd_iconst (v := 5) hC dX5_rate_7 rfl ?_
  refine cvsi hC cw_X5_66 (r_in hinj _ _ _ _) dX5_rate_8 (by first | decide | omega) (by decide) rfl rfl (Nat.le_of_ble_eq_true rfl) ?_
  refine wd_if_eq (tgt := 22) hC dX5_rate_11 (by decide) (fun c_11 => absurd c_11 (bIm (by decide))) (fun c_11 => ?_)
  refine wd_aload_n hC dX5_rate_14 rfl rfl ?_
  refine wd_iload_n hC dX5_rate_15 rfl rfl ?_
  refine cv5i hC cw_X5_134 (r_isMan hinj _ _) dX5_rate_16 (by first | decide | omega) (by decide) rfl rfl (Nat.le_of_ble_eq_true rfl) ?_
  refine wd_if_ne (tgt := 25) hC dX5_rate_19 (by decide) (fun c_19 => ?_) (fun c_19 => absurd c_19 (bIm (qm_of hnm hy hm h6)))
  refine wd_aload_n hC dX5_rate_25 rfl rfl ?_
  refine wd_aload_n hC dX5_rate_26 rfl rfl ?_
  refine gf_X5_34 hC dX5_rate_27 ?_
  refine wd_iload_n hC dX5_rate_30 rfl rfl ?_
  refine cv5i hC cw_X5_142 (r_hasBy hinj _ 9 (Or.inl rfl) nm nc hr _ _ hy hm) dX5_rate_31 (by first | decide | omega) (by decide) rfl rfl (Nat.le_of_ble_eq_true rfl) ?_
  refine wd_istore_n_4_3 hC dX5_rate_34 ?_
  refine wd_aload_n hC dX5_rate_35 rfl rfl ?_
  refine wd_dup hC dX5_rate_36 rfl ?_
  refine gf_X5_193 hC dX5_rate_37 ?_
  refine wd_iload_n hC dX5_rate_40 rfl rfl ?_
  refine wd_if_ne (tgt := 48) hC dX5_rate_41 (by decide) (fun c_41 => ?_) (fun c_41 => absurd c_41 (by decide))
  refine wd_iload_n hC dX5_rate_48 rfl rfl ?_
  refine wd_iconst (v := 1) hC dX5_rate_49 rfl ?_
  refine wd_icmp_ne (tgt := 59) hC dX5_rate_50 (by decide) (fun c_50 => ?_) (fun c_50 => absurd c_50 (by decide))
  refine wd_iload_n hC dX5_rate_59 rfl rfl ?_
  refine wd_iconst (v := 2) hC dX5_rate_60 rfl ?_
  refine wd_icmp_ne (tgt := 70) hC dX5_rate_61 (by decide) (fun c_61 => ?_) (fun c_61 => absurd c_61 (by decide))
  refine wd_iload_n hC dX5_rate_70 rfl rfl ?_
  refine wd_iconst (v := 3) hC dX5_rate_71 rfl ?_
  refine wd_icmp_ne (tgt := 81) hC dX5_rate_72 (by decide) (fun c_72 => ?_) (fun c_72 => absurd c_72 (by decide))
  refine wd_iload_n hC dX5_rate_81 rfl rfl ?_
  refine wd_iconst (v := 4) hC dX5_rate_82 rfl ?_
  refine wd_icmp_ne (tgt := 92) hC dX5_rate_83 (by decide) (fun c_83 => ?_) (fun c_83 => absurd c_83 (by decide))
  refine wd_ldc2 (v := (100001)) hC dX5_rate_92 (wL_29 _ (List.mem_of_getElem? (i := 1) rfl)) ?_
  refine wd_ladd hC dX5_rate_95 ?_
  refine pf_X5_193 hC dX5_rate_96 ?_
  refine wd_iload_n hC dX5_rate_99 rfl rfl ?_
  refine wd_if_ne (tgt := 107) hC dX5_rate_100 (by decide) (fun c_100 => ?_) (fun c_100 => absurd c_100 (by decide))
  refine wd_iload_n hC dX5_rate_107 rfl rfl ?_
  refine wd_iconst (v := 1) hC dX5_rate_108 rfl ?_
  refine wd_icmp_ne (tgt := 123) hC dX5_rate_109 (by decide) (fun c_109 => ?_) (fun c_109 => absurd c_109 (by decide))
  refine wd_iload_n hC dX5_rate_123 rfl rfl ?_
  refine wd_iconst (v := 2) hC dX5_rate_124 rfl ?_
  refine wd_icmp_ne (tgt := 139) hC dX5_rate_125 (by decide) (fun c_125 => ?_) (fun c_125 => absurd c_125 (by decide))
  refine wd_iload_n hC dX5_rate_139 rfl rfl ?_
  refine wd_iconst (v := 3) hC dX5_rate_140 rfl ?_
  refine wd_icmp_ne (tgt := 157) hC dX5_rate_141 (by decide) (fun c_141 => ?_) (fun c_141 => absurd c_141 (by decide))
  refine wd_iload_n hC dX5_rate_157 rfl rfl ?_
  refine wd_iconst (v := 4) hC dX5_rate_158 rfl ?_
  refine wd_icmp_ne (tgt := 175) hC dX5_rate_159 (by decide) (fun c_159 => ?_) (fun c_159 => absurd c_159 (by decide))
  refine wd_iload_n hC dX5_rate_175 rfl rfl ?_
  refine wd_aload_n hC dX5_rate_176 rfl rfl ?_
  refine gf_X5_34 hC dX5_rate_177 ?_
  refine wd_bipush (v := 31) hC dX5_rate_180 rfl ?_
  refine rl_s hC dX5_rate_182 31 rfl (by decide) ?_
  refine wd_iadd hC dX5_rate_183 ?_
  exact wd_iret hC rfl dX5_rate_184 rfl rfl

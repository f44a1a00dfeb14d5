/-! ===== the reference: its simple calls ===== -/
theorem sub1_of {n : Nat} (h : 0 < n) : nI n - 1 = nI (n - 1) := by
  obtain ⟨k, rfl⟩ : ∃ k, n = k + 1 := ⟨n - 1, by omega⟩
  exact nI_pred k
theorem qm_of {σ : wd_S} {nm m : Nat} {x : Int32} (hnm : σ.1 2 1 = nI nm) (hx : x = nI m) (hm : m < nm) (h6 : nm ≤ 6) : qMan σ x := by
  rw [hx]
  refine ⟨nI_pos' (by omega), ?_⟩
  show _ ≤ σ.1 2 1 - 1
  rw [hnm, sub1_of (by omega)]
  exact nI_le (by omega) (by omega)
theorem qc_of {σ : wd_S} {nc m : Nat} {x : Int32} (hnc : σ.1 2 0 = nI nc) (hx : x = nI m) (hm : m < nc) (h6 : nc ≤ 3) : qCrop σ x := by
  rw [hx]
  refine ⟨nI_pos' (by omega), ?_⟩
  show _ ≤ σ.1 2 0 - 1
  rw [hnc, sub1_of (by omega)]
  exact nI_le (by omega) (by omega)
theorem pin_of {x : Int32} {m k : Nat} (hx : x = nI m) (hm : m ≤ k) (hk : k < 2 ^ 31) : pIn x 0 (nI k) := by
  rw [hx]
  exact ⟨nI_pos' (by omega), nI_le hm hk⟩

set_option maxRecDepth 100000 in
set_option maxHeartbeats 4000000 in
theorem r_type_bad {V : wd_V} {ad : Nat → Nat} (hinj : wd_inj rS ad) (σ : wd_S) (h0 : σ.1 0 0 = 0) (x : Int32) (hB : ¬ pIn x 0 255) : wd_C rS V ad 1 yX5_type (Cond.code yX5_type cX5_type 2 (some .int) :: wsL_law) σ [.ref (ad 0), .int x] (wd_eq (some (.int (-1))) (σ)) := by
  refine wd_intro (lv := [some (.ref (ad 0)), some (.int x)]) hinj (by decide) rfl (Nat.le_of_ble_eq_true rfl) rfl (Nat.le_of_ble_eq_true rfl) (fun K hC => ?_)
  refine wd_aload_n hC dX5_type_0 rfl rfl ?_
  refine wd_iconst (v := 0) hC dX5_type_1 rfl ?_
  refine pf_X5_62 hC dX5_type_2 ?_
  refine wd_ts (up_00 h0) ?_
  refine wd_iload_n hC dX5_type_5 rfl rfl ?_
  refine wd_iconst (v := 0) hC dX5_type_6 rfl ?_
  refine wd_sipush (v := 255) hC dX5_type_7 rfl ?_
  refine cvsi hC cw_X5_66 (r_in hinj _ _ _ _) dX5_type_10 (by first | decide | omega) (by decide) rfl rfl (Nat.le_of_ble_eq_true rfl) ?_
  refine wd_if_ne (tgt := 18) hC dX5_type_13 (by decide) (fun c_13 => ?_) (fun c_13 => ?_)
  · replace c_13 := bI_1.mp c_13
    exact absurd c_13 hB
  · replace c_13 := bI_0.mp c_13
    refine wd_iconst (v := -1) hC dX5_type_16 rfl ?_
    exact wd_iret hC rfl dX5_type_17 rfl rfl
set_option maxRecDepth 100000 in
set_option maxHeartbeats 4000000 in
theorem r_type_full {V : wd_V} {ad : Nat → Nat} (hinj : wd_inj rS ad) (σ : wd_S) (h0 : σ.1 0 0 = 0) (x : Int32) (hp : pIn x 0 255) (hF : σ.1 0 3 = 200) : wd_C rS V ad 1 yX5_type (Cond.code yX5_type cX5_type 2 (some .int) :: wsL_law) σ [.ref (ad 0), .int x] (wd_eq (some (.int (-3))) (σ)) := by
  refine wd_intro (lv := [some (.ref (ad 0)), some (.int x)]) hinj (by decide) rfl (Nat.le_of_ble_eq_true rfl) rfl (Nat.le_of_ble_eq_true rfl) (fun K hC => ?_)
  refine wd_aload_n hC dX5_type_0 rfl rfl ?_
  refine wd_iconst (v := 0) hC dX5_type_1 rfl ?_
  refine pf_X5_62 hC dX5_type_2 ?_
  refine wd_ts (up_00 h0) ?_
  refine wd_iload_n hC dX5_type_5 rfl rfl ?_
  refine wd_iconst (v := 0) hC dX5_type_6 rfl ?_
  refine wd_sipush (v := 255) hC dX5_type_7 rfl ?_
  refine cvsi hC cw_X5_66 (r_in hinj _ _ _ _) dX5_type_10 (by first | decide | omega) (by decide) rfl rfl (Nat.le_of_ble_eq_true rfl) ?_
  refine wd_if_ne (tgt := 18) hC dX5_type_13 (by decide) (fun c_13 => ?_) (fun c_13 => absurd c_13 (bIm hp))
  refine wd_aload_n hC dX5_type_18 rfl rfl ?_
  refine gf_X5_70 hC dX5_type_19 ?_
  refine wd_sipush (v := 200) hC dX5_type_22 rfl ?_
  refine wd_icmp_ne (tgt := 31) hC dX5_type_25 (by decide) (fun c_25 => absurd hF c_25) (fun c_25 => ?_)
  refine wd_bipush (v := -3) hC dX5_type_28 rfl ?_
  exact wd_iret hC rfl dX5_type_30 rfl rfl
set_option maxRecDepth 100000 in
set_option maxHeartbeats 4000000 in
theorem r_type {V : wd_V} {ad : Nat → Nat} (hinj : wd_inj rS ad) (σ : wd_S) (h0 : σ.1 0 0 = 0) (x : Int32) (hp : pIn x 0 255) (n : Nat) (hn : σ.1 0 3 = nI n) (hn2 : n < 200) : wd_C rS V ad 1 yX5_type (Cond.code yX5_type cX5_type 2 (some .int) :: wsL_law) σ [.ref (ad 0), .int x] (wd_eq (some (.int (σ.1 0 3 + 1))) (wd_up (wd_up σ 1 n x) 0 3 (σ.1 0 3 + 1))) := by
  refine wd_intro (lv := [some (.ref (ad 0)), some (.int x)]) hinj (by decide) rfl (Nat.le_of_ble_eq_true rfl) rfl (Nat.le_of_ble_eq_true rfl) (fun K hC => ?_)
  refine wd_aload_n hC dX5_type_0 rfl rfl ?_
  refine wd_iconst (v := 0) hC dX5_type_1 rfl ?_
  refine pf_X5_62 hC dX5_type_2 ?_
  refine wd_ts (up_00 h0) ?_
  refine wd_iload_n hC dX5_type_5 rfl rfl ?_
  refine wd_iconst (v := 0) hC dX5_type_6 rfl ?_
  refine wd_sipush (v := 255) hC dX5_type_7 rfl ?_
  refine cvsi hC cw_X5_66 (r_in hinj _ _ _ _) dX5_type_10 (by first | decide | omega) (by decide) rfl rfl (Nat.le_of_ble_eq_true rfl) ?_
  refine wd_if_ne (tgt := 18) hC dX5_type_13 (by decide) (fun c_13 => ?_) (fun c_13 => absurd c_13 (bIm hp))
  refine wd_aload_n hC dX5_type_18 rfl rfl ?_
  refine gf_X5_70 hC dX5_type_19 ?_
  refine wd_sipush (v := 200) hC dX5_type_22 rfl ?_
  refine wd_icmp_ne (tgt := 31) hC dX5_type_25 (by decide) (fun c_25 => ?_) (fun c_25 => absurd c_25 (by rw [hn]; exact fun h => absurd ((nI_eq (b := 200) (by omega) (by decide)).mp h) (by omega)))
  refine wd_aload_n hC dX5_type_31 rfl rfl ?_
  refine gf_X5_7 hC dX5_type_32 ?_
  refine wd_aload_n hC dX5_type_35 rfl rfl ?_
  refine gf_X5_70 hC dX5_type_36 ?_
  refine wd_iload_n hC dX5_type_39 rfl rfl ?_
  refine rs_text hC dX5_type_40 n hn hn2 ?_
  refine wd_aload_n hC dX5_type_41 rfl rfl ?_
  refine wd_dup hC dX5_type_42 rfl ?_
  refine gf_X5_70 hC dX5_type_43 ?_
  refine wd_iconst (v := 1) hC dX5_type_46 rfl ?_
  refine wd_iadd hC dX5_type_47 ?_
  refine pf_X5_70 hC dX5_type_48 ?_
  refine wd_aload_n hC dX5_type_51 rfl rfl ?_
  refine gf_X5_70 hC dX5_type_52 ?_
  exact wd_iret hC rfl dX5_type_55 rfl rfl
set_option maxRecDepth 100000 in
set_option maxHeartbeats 4000000 in
theorem r_clear {V : wd_V} {ad : Nat → Nat} (hinj : wd_inj rS ad) (σ : wd_S) (h0 : σ.1 0 0 = 0)  : wd_C rS V ad 0 yX5_clear (Cond.code yX5_clear cX5_clear 2 (some .int) :: wsL_law) σ [.ref (ad 0)] (wd_eq (some (.int (σ.1 0 3))) (wd_up σ 0 3 0)) := by
  refine wd_intro (lv := [some (.ref (ad 0)), none]) hinj (by decide) rfl (Nat.le_of_ble_eq_true rfl) rfl (Nat.le_of_ble_eq_true rfl) (fun K hC => ?_)
  refine wd_aload_n hC dX5_clear_0 rfl rfl ?_
  refine wd_iconst (v := 0) hC dX5_clear_1 rfl ?_
  refine pf_X5_62 hC dX5_clear_2 ?_
  refine wd_ts (up_00 h0) ?_
  refine wd_aload_n hC dX5_clear_5 rfl rfl ?_
  refine gf_X5_70 hC dX5_clear_6 ?_
  refine wd_istore_n_2_1 hC dX5_clear_9 ?_
  refine wd_aload_n hC dX5_clear_10 rfl rfl ?_
  refine wd_iconst (v := 0) hC dX5_clear_11 rfl ?_
  refine pf_X5_70 hC dX5_clear_12 ?_
  refine wd_iload_n hC dX5_clear_15 rfl rfl ?_
  exact wd_iret hC rfl dX5_clear_16 rfl rfl
set_option maxRecDepth 100000 in
set_option maxHeartbeats 4000000 in
theorem r_man_bad {V : wd_V} {ad : Nat → Nat} (hinj : wd_inj rS ad) (σ : wd_S) (h0 : σ.1 0 0 = 0) (x y : Int32) (hB : ¬ (qMan σ x ∧ pIn y 0 6)) : wd_C rS V ad 2 yX5_man (Cond.code yX5_man cX5_man 3 (some .int) :: wsL_law) σ [.ref (ad 0), .int x, .int y] (wd_eq (some (.int (-1))) (σ)) := by
  refine wd_intro (lv := [some (.ref (ad 0)), some (.int x), some (.int y)]) hinj (by decide) rfl (Nat.le_of_ble_eq_true rfl) rfl (Nat.le_of_ble_eq_true rfl) (fun K hC => ?_)
  refine wd_aload_n hC dX5_man_0 rfl rfl ?_
  refine wd_iconst (v := 0) hC dX5_man_1 rfl ?_
  refine pf_X5_62 hC dX5_man_2 ?_
  refine wd_ts (up_00 h0) ?_
  refine wd_aload_n hC dX5_man_5 rfl rfl ?_
  refine wd_iload_n hC dX5_man_6 rfl rfl ?_
  refine cv5i hC cw_X5_134 (r_isMan hinj _ _) dX5_man_7 (by first | decide | omega) (by decide) rfl rfl (Nat.le_of_ble_eq_true rfl) ?_
  refine wd_if_eq (tgt := 23) hC dX5_man_10 (by decide) (fun c_10 => ?_) (fun c_10 => ?_)
  · replace c_10 := bI_0.mp c_10
    refine wd_iconst (v := -1) hC dX5_man_23 rfl ?_
    exact wd_iret hC rfl dX5_man_24 rfl rfl
  · replace c_10 := bI_1.mp c_10
    refine wd_iload_n hC dX5_man_13 rfl rfl ?_
    refine wd_iconst (v := 0) hC dX5_man_14 rfl ?_
    refine wd_bipush (v := 6) hC dX5_man_15 rfl ?_
    refine cvsi hC cw_X5_66 (r_in hinj _ _ _ _) dX5_man_17 (by first | decide | omega) (by decide) rfl rfl (Nat.le_of_ble_eq_true rfl) ?_
    refine wd_if_ne (tgt := 25) hC dX5_man_20 (by decide) (fun c_20 => ?_) (fun c_20 => ?_)
    · replace c_20 := bI_1.mp c_20
      exact absurd ⟨c_10, c_20⟩ hB
    · replace c_20 := bI_0.mp c_20
      refine wd_iconst (v := -1) hC dX5_man_23 rfl ?_
      exact wd_iret hC rfl dX5_man_24 rfl rfl
set_option maxRecDepth 100000 in
set_option maxHeartbeats 4000000 in
theorem r_man_0 {V : wd_V} {ad : Nat → Nat} (hinj : wd_inj rS ad) (σ : wd_S) (h0 : σ.1 0 0 = 0) (nm nc : Nat) (hnm : σ.1 2 1 = nI nm) (hnc : σ.1 2 0 = nI nc) (h6 : nm ≤ 6) (h3 : nc ≤ 3) (x : Int32) (m : Nat) (hx : x = nI m) (hm : m < nm)  : wd_C rS V ad 2 yX5_man (Cond.code yX5_man cX5_man 3 (some .int) :: wsL_law) σ [.ref (ad 0), .int x, .int 0] (wd_eq (some (.int (σ.1 5 m))) (σ)) := by
  refine wd_intro (lv := [some (.ref (ad 0)), some (.int x), some (.int 0)]) hinj (by decide) rfl (Nat.le_of_ble_eq_true rfl) rfl (Nat.le_of_ble_eq_true rfl) (fun K hC => ?_)
  refine wd_aload_n hC dX5_man_0 rfl rfl ?_
  refine wd_iconst (v := 0) hC dX5_man_1 rfl ?_
  refine pf_X5_62 hC dX5_man_2 ?_
  refine wd_ts (up_00 h0) ?_
  refine wd_aload_n hC dX5_man_5 rfl rfl ?_
  refine wd_iload_n hC dX5_man_6 rfl rfl ?_
  refine cv5i hC cw_X5_134 (r_isMan hinj _ _) dX5_man_7 (by first | decide | omega) (by decide) rfl rfl (Nat.le_of_ble_eq_true rfl) ?_
  refine wd_if_eq (tgt := 23) hC dX5_man_10 (by decide) (fun c_10 => absurd c_10 (bIm (qm_of hnm hx hm h6))) (fun c_10 => ?_)
  refine wd_iload_n hC dX5_man_13 rfl rfl ?_
  refine wd_iconst (v := 0) hC dX5_man_14 rfl ?_
  refine wd_bipush (v := 6) hC dX5_man_15 rfl ?_
  refine cvsi hC cw_X5_66 (r_in hinj _ _ _ _) dX5_man_17 (by first | decide | omega) (by decide) rfl rfl (Nat.le_of_ble_eq_true rfl) ?_
  refine wd_if_ne (tgt := 25) hC dX5_man_20 (by decide) (fun c_20 => ?_) (fun c_20 => absurd c_20 (bIm (by decide)))
  refine wd_iload_n hC dX5_man_25 rfl rfl ?_
  refine wd_iconst (v := 3) hC dX5_man_26 rfl ?_
  refine wd_icmp_ge (tgt := 64) hC dX5_man_27 (by decide) (fun c_27 => absurd c_27 (by decide)) (fun c_27 => ?_)
  refine wd_iload_n hC dX5_man_30 rfl rfl ?_
  refine wd_if_ne (tgt := 43) hC dX5_man_31 (by decide) (fun c_31 => absurd (by decide) c_31) (fun c_31 => ?_)
  refine wd_aload_n hC dX5_man_34 rfl rfl ?_
  refine gf_X5_22 hC dX5_man_35 ?_
  refine wd_iload_n hC dX5_man_38 rfl rfl ?_
  refine rl_strong hC dX5_man_39 (m) hx (by omega) ?_
  refine wd_goto (tgt := 63) hC dX5_man_40 (by decide) ?_
  exact wd_iret hC rfl dX5_man_63 rfl rfl
set_option maxRecDepth 100000 in
set_option maxHeartbeats 4000000 in
theorem r_man_1 {V : wd_V} {ad : Nat → Nat} (hinj : wd_inj rS ad) (σ : wd_S) (h0 : σ.1 0 0 = 0) (nm nc : Nat) (hnm : σ.1 2 1 = nI nm) (hnc : σ.1 2 0 = nI nc) (h6 : nm ≤ 6) (h3 : nc ≤ 3) (x : Int32) (m : Nat) (hx : x = nI m) (hm : m < nm)  : wd_C rS V ad 2 yX5_man (Cond.code yX5_man cX5_man 3 (some .int) :: wsL_law) σ [.ref (ad 0), .int x, .int 1] (wd_eq (some (.int (σ.1 6 m))) (σ)) := by
  refine wd_intro (lv := [some (.ref (ad 0)), some (.int x), some (.int 1)]) hinj (by decide) rfl (Nat.le_of_ble_eq_true rfl) rfl (Nat.le_of_ble_eq_true rfl) (fun K hC => ?_)
  refine wd_aload_n hC dX5_man_0 rfl rfl ?_
  refine wd_iconst (v := 0) hC dX5_man_1 rfl ?_
  refine pf_X5_62 hC dX5_man_2 ?_
  refine wd_ts (up_00 h0) ?_
  refine wd_aload_n hC dX5_man_5 rfl rfl ?_
  refine wd_iload_n hC dX5_man_6 rfl rfl ?_
  refine cv5i hC cw_X5_134 (r_isMan hinj _ _) dX5_man_7 (by first | decide | omega) (by decide) rfl rfl (Nat.le_of_ble_eq_true rfl) ?_
  refine wd_if_eq (tgt := 23) hC dX5_man_10 (by decide) (fun c_10 => absurd c_10 (bIm (qm_of hnm hx hm h6))) (fun c_10 => ?_)
  refine wd_iload_n hC dX5_man_13 rfl rfl ?_
  refine wd_iconst (v := 0) hC dX5_man_14 rfl ?_
  refine wd_bipush (v := 6) hC dX5_man_15 rfl ?_
  refine cvsi hC cw_X5_66 (r_in hinj _ _ _ _) dX5_man_17 (by first | decide | omega) (by decide) rfl rfl (Nat.le_of_ble_eq_true rfl) ?_
  refine wd_if_ne (tgt := 25) hC dX5_man_20 (by decide) (fun c_20 => ?_) (fun c_20 => absurd c_20 (bIm (by decide)))
  refine wd_iload_n hC dX5_man_25 rfl rfl ?_
  refine wd_iconst (v := 3) hC dX5_man_26 rfl ?_
  refine wd_icmp_ge (tgt := 64) hC dX5_man_27 (by decide) (fun c_27 => absurd c_27 (by decide)) (fun c_27 => ?_)
  refine wd_iload_n hC dX5_man_30 rfl rfl ?_
  refine wd_if_ne (tgt := 43) hC dX5_man_31 (by decide) (fun c_31 => ?_) (fun c_31 => absurd c_31 (by decide))
  refine wd_iload_n hC dX5_man_43 rfl rfl ?_
  refine wd_iconst (v := 1) hC dX5_man_44 rfl ?_
  refine wd_icmp_ne (tgt := 57) hC dX5_man_45 (by decide) (fun c_45 => absurd (by decide) c_45) (fun c_45 => ?_)
  refine wd_aload_n hC dX5_man_48 rfl rfl ?_
  refine gf_X5_25 hC dX5_man_49 ?_
  refine wd_iload_n hC dX5_man_52 rfl rfl ?_
  refine rl_legs hC dX5_man_53 (m) hx (by omega) ?_
  refine wd_goto (tgt := 63) hC dX5_man_54 (by decide) ?_
  exact wd_iret hC rfl dX5_man_63 rfl rfl
set_option maxRecDepth 100000 in
set_option maxHeartbeats 4000000 in
theorem r_man_2 {V : wd_V} {ad : Nat → Nat} (hinj : wd_inj rS ad) (σ : wd_S) (h0 : σ.1 0 0 = 0) (nm nc : Nat) (hnm : σ.1 2 1 = nI nm) (hnc : σ.1 2 0 = nI nc) (h6 : nm ≤ 6) (h3 : nc ≤ 3) (x : Int32) (m : Nat) (hx : x = nI m) (hm : m < nm)  : wd_C rS V ad 2 yX5_man (Cond.code yX5_man cX5_man 3 (some .int) :: wsL_law) σ [.ref (ad 0), .int x, .int 2] (wd_eq (some (.int (σ.1 7 m))) (σ)) := by
  refine wd_intro (lv := [some (.ref (ad 0)), some (.int x), some (.int 2)]) hinj (by decide) rfl (Nat.le_of_ble_eq_true rfl) rfl (Nat.le_of_ble_eq_true rfl) (fun K hC => ?_)
  refine wd_aload_n hC dX5_man_0 rfl rfl ?_
  refine wd_iconst (v := 0) hC dX5_man_1 rfl ?_
  refine pf_X5_62 hC dX5_man_2 ?_
  refine wd_ts (up_00 h0) ?_
  refine wd_aload_n hC dX5_man_5 rfl rfl ?_
  refine wd_iload_n hC dX5_man_6 rfl rfl ?_
  refine cv5i hC cw_X5_134 (r_isMan hinj _ _) dX5_man_7 (by first | decide | omega) (by decide) rfl rfl (Nat.le_of_ble_eq_true rfl) ?_
  refine wd_if_eq (tgt := 23) hC dX5_man_10 (by decide) (fun c_10 => absurd c_10 (bIm (qm_of hnm hx hm h6))) (fun c_10 => ?_)
  refine wd_iload_n hC dX5_man_13 rfl rfl ?_
  refine wd_iconst (v := 0) hC dX5_man_14 rfl ?_
  refine wd_bipush (v := 6) hC dX5_man_15 rfl ?_
  refine cvsi hC cw_X5_66 (r_in hinj _ _ _ _) dX5_man_17 (by first | decide | omega) (by decide) rfl rfl (Nat.le_of_ble_eq_true rfl) ?_
  refine wd_if_ne (tgt := 25) hC dX5_man_20 (by decide) (fun c_20 => ?_) (fun c_20 => absurd c_20 (bIm (by decide)))
  refine wd_iload_n hC dX5_man_25 rfl rfl ?_
  refine wd_iconst (v := 3) hC dX5_man_26 rfl ?_
  refine wd_icmp_ge (tgt := 64) hC dX5_man_27 (by decide) (fun c_27 => absurd c_27 (by decide)) (fun c_27 => ?_)
  refine wd_iload_n hC dX5_man_30 rfl rfl ?_
  refine wd_if_ne (tgt := 43) hC dX5_man_31 (by decide) (fun c_31 => ?_) (fun c_31 => absurd c_31 (by decide))
  refine wd_iload_n hC dX5_man_43 rfl rfl ?_
  refine wd_iconst (v := 1) hC dX5_man_44 rfl ?_
  refine wd_icmp_ne (tgt := 57) hC dX5_man_45 (by decide) (fun c_45 => ?_) (fun c_45 => absurd c_45 (by decide))
  refine wd_aload_n hC dX5_man_57 rfl rfl ?_
  refine gf_X5_28 hC dX5_man_58 ?_
  refine wd_iload_n hC dX5_man_61 rfl rfl ?_
  refine rl_needs hC dX5_man_62 (m) hx (by omega) ?_
  exact wd_iret hC rfl dX5_man_63 rfl rfl
set_option maxRecDepth 100000 in
set_option maxHeartbeats 4000000 in
theorem r_man_3 {V : wd_V} {ad : Nat → Nat} (hinj : wd_inj rS ad) (σ : wd_S) (h0 : σ.1 0 0 = 0) (nm nc : Nat) (hnm : σ.1 2 1 = nI nm) (hnc : σ.1 2 0 = nI nc) (h6 : nm ≤ 6) (h3 : nc ≤ 3) (x : Int32) (m : Nat) (hx : x = nI m) (hm : m < nm)  : wd_C rS V ad 2 yX5_man (Cond.code yX5_man cX5_man 3 (some .int) :: wsL_law) σ [.ref (ad 0), .int x, .int 3] (wd_eq (some (.int (σ.1 9 m))) (σ)) := by
  refine wd_intro (lv := [some (.ref (ad 0)), some (.int x), some (.int 3)]) hinj (by decide) rfl (Nat.le_of_ble_eq_true rfl) rfl (Nat.le_of_ble_eq_true rfl) (fun K hC => ?_)
  refine wd_aload_n hC dX5_man_0 rfl rfl ?_
  refine wd_iconst (v := 0) hC dX5_man_1 rfl ?_
  refine pf_X5_62 hC dX5_man_2 ?_
  refine wd_ts (up_00 h0) ?_
  refine wd_aload_n hC dX5_man_5 rfl rfl ?_
  refine wd_iload_n hC dX5_man_6 rfl rfl ?_
  refine cv5i hC cw_X5_134 (r_isMan hinj _ _) dX5_man_7 (by first | decide | omega) (by decide) rfl rfl (Nat.le_of_ble_eq_true rfl) ?_
  refine wd_if_eq (tgt := 23) hC dX5_man_10 (by decide) (fun c_10 => absurd c_10 (bIm (qm_of hnm hx hm h6))) (fun c_10 => ?_)
  refine wd_iload_n hC dX5_man_13 rfl rfl ?_
  refine wd_iconst (v := 0) hC dX5_man_14 rfl ?_
  refine wd_bipush (v := 6) hC dX5_man_15 rfl ?_
  refine cvsi hC cw_X5_66 (r_in hinj _ _ _ _) dX5_man_17 (by first | decide | omega) (by decide) rfl rfl (Nat.le_of_ble_eq_true rfl) ?_
  refine wd_if_ne (tgt := 25) hC dX5_man_20 (by decide) (fun c_20 => ?_) (fun c_20 => absurd c_20 (bIm (by decide)))
  refine wd_iload_n hC dX5_man_25 rfl rfl ?_
  refine wd_iconst (v := 3) hC dX5_man_26 rfl ?_
  refine wd_icmp_ge (tgt := 64) hC dX5_man_27 (by decide) (fun c_27 => ?_) (fun c_27 => absurd (by decide) c_27)
  refine wd_iload_n hC dX5_man_64 rfl rfl ?_
  refine wd_iconst (v := 3) hC dX5_man_65 rfl ?_
  refine wd_icmp_ne (tgt := 80) hC dX5_man_66 (by decide) (fun c_66 => absurd (by decide) c_66) (fun c_66 => ?_)
  refine wd_aload_n hC dX5_man_69 rfl rfl ?_
  refine gf_X5_34 hC dX5_man_70 ?_
  refine wd_iconst (v := 0) hC dX5_man_73 rfl ?_
  refine wd_iload_n hC dX5_man_74 rfl rfl ?_
  refine wd_iadd hC dX5_man_75 ?_
  refine rl_s hC dX5_man_76 (m) (add0 hx) (by omega) ?_
  refine wd_goto (tgt := 142) hC dX5_man_77 (by decide) ?_
  exact wd_iret hC rfl dX5_man_142 rfl rfl
set_option maxRecDepth 100000 in
set_option maxHeartbeats 4000000 in
theorem r_man_4 {V : wd_V} {ad : Nat → Nat} (hinj : wd_inj rS ad) (σ : wd_S) (h0 : σ.1 0 0 = 0) (nm nc : Nat) (hnm : σ.1 2 1 = nI nm) (hnc : σ.1 2 0 = nI nc) (h6 : nm ≤ 6) (h3 : nc ≤ 3) (x : Int32) (m : Nat) (hx : x = nI m) (hm : m < nm)  : wd_C rS V ad 2 yX5_man (Cond.code yX5_man cX5_man 3 (some .int) :: wsL_law) σ [.ref (ad 0), .int x, .int 4] (wd_eq (some (.int (if σ.1 9 (6 + m) = 0 then -9 else σ.1 9 (6 + m) - 1))) (σ)) := by
  refine wd_intro (lv := [some (.ref (ad 0)), some (.int x), some (.int 4)]) hinj (by decide) rfl (Nat.le_of_ble_eq_true rfl) rfl (Nat.le_of_ble_eq_true rfl) (fun K hC => ?_)
  refine wd_aload_n hC dX5_man_0 rfl rfl ?_
  refine wd_iconst (v := 0) hC dX5_man_1 rfl ?_
  refine pf_X5_62 hC dX5_man_2 ?_
  refine wd_ts (up_00 h0) ?_
  refine wd_aload_n hC dX5_man_5 rfl rfl ?_
  refine wd_iload_n hC dX5_man_6 rfl rfl ?_
  refine cv5i hC cw_X5_134 (r_isMan hinj _ _) dX5_man_7 (by first | decide | omega) (by decide) rfl rfl (Nat.le_of_ble_eq_true rfl) ?_
  refine wd_if_eq (tgt := 23) hC dX5_man_10 (by decide) (fun c_10 => absurd c_10 (bIm (qm_of hnm hx hm h6))) (fun c_10 => ?_)
  refine wd_iload_n hC dX5_man_13 rfl rfl ?_
  refine wd_iconst (v := 0) hC dX5_man_14 rfl ?_
  refine wd_bipush (v := 6) hC dX5_man_15 rfl ?_
  refine cvsi hC cw_X5_66 (r_in hinj _ _ _ _) dX5_man_17 (by first | decide | omega) (by decide) rfl rfl (Nat.le_of_ble_eq_true rfl) ?_
  refine wd_if_ne (tgt := 25) hC dX5_man_20 (by decide) (fun c_20 => ?_) (fun c_20 => absurd c_20 (bIm (by decide)))
  refine wd_iload_n hC dX5_man_25 rfl rfl ?_
  refine wd_iconst (v := 3) hC dX5_man_26 rfl ?_
  refine wd_icmp_ge (tgt := 64) hC dX5_man_27 (by decide) (fun c_27 => ?_) (fun c_27 => absurd (by decide) c_27)
  refine wd_iload_n hC dX5_man_64 rfl rfl ?_
  refine wd_iconst (v := 3) hC dX5_man_65 rfl ?_
  refine wd_icmp_ne (tgt := 80) hC dX5_man_66 (by decide) (fun c_66 => ?_) (fun c_66 => absurd c_66 (by decide))
  refine wd_iload_n hC dX5_man_80 rfl rfl ?_
  refine wd_iconst (v := 4) hC dX5_man_81 rfl ?_
  refine wd_icmp_ne (tgt := 116) hC dX5_man_82 (by decide) (fun c_82 => absurd (by decide) c_82) (fun c_82 => ?_)
  refine wd_aload_n hC dX5_man_85 rfl rfl ?_
  refine gf_X5_34 hC dX5_man_86 ?_
  refine wd_bipush (v := 6) hC dX5_man_89 rfl ?_
  refine wd_iload_n hC dX5_man_91 rfl rfl ?_
  refine wd_iadd hC dX5_man_92 ?_
  refine rl_s hC dX5_man_93 (6 + m) (addI hx 6) (by omega) ?_
  refine wd_if_ne (tgt := 102) hC dX5_man_94 (by decide) (fun c_94 => ?_) (fun c_94 => ?_)
  · refine wd_aload_n hC dX5_man_102 rfl rfl ?_
    refine gf_X5_34 hC dX5_man_103 ?_
    refine wd_bipush (v := 6) hC dX5_man_106 rfl ?_
    refine wd_iload_n hC dX5_man_108 rfl rfl ?_
    refine wd_iadd hC dX5_man_109 ?_
    refine rl_s hC dX5_man_110 (6 + m) (addI hx 6) (by omega) ?_
    refine wd_iconst (v := 1) hC dX5_man_111 rfl ?_
    refine wd_isub hC dX5_man_112 ?_
    refine wd_goto (tgt := 142) hC dX5_man_113 (by decide) ?_
    exact wd_iret hC rfl dX5_man_142 (by first | exact (if_pos c_94).symm | exact (if_neg c_94).symm) rfl
  · refine wd_bipush (v := -9) hC dX5_man_97 rfl ?_
    refine wd_goto (tgt := 142) hC dX5_man_99 (by decide) ?_
    exact wd_iret hC rfl dX5_man_142 (by first | exact (if_pos c_94).symm | exact (if_neg c_94).symm) rfl
set_option maxRecDepth 100000 in
set_option maxHeartbeats 4000000 in
theorem r_man_5 {V : wd_V} {ad : Nat → Nat} (hinj : wd_inj rS ad) (σ : wd_S) (h0 : σ.1 0 0 = 0) (nm nc : Nat) (hnm : σ.1 2 1 = nI nm) (hnc : σ.1 2 0 = nI nc) (h6 : nm ≤ 6) (h3 : nc ≤ 3) (x : Int32) (m : Nat) (hx : x = nI m) (hm : m < nm)  : wd_C rS V ad 2 yX5_man (Cond.code yX5_man cX5_man 3 (some .int) :: wsL_law) σ [.ref (ad 0), .int x, .int 5] (wd_eq (some (.int (σ.1 9 (12 + m)))) (σ)) := by
  refine wd_intro (lv := [some (.ref (ad 0)), some (.int x), some (.int 5)]) hinj (by decide) rfl (Nat.le_of_ble_eq_true rfl) rfl (Nat.le_of_ble_eq_true rfl) (fun K hC => ?_)
  refine wd_aload_n hC dX5_man_0 rfl rfl ?_
  refine wd_iconst (v := 0) hC dX5_man_1 rfl ?_
  refine pf_X5_62 hC dX5_man_2 ?_
  refine wd_ts (up_00 h0) ?_
  refine wd_aload_n hC dX5_man_5 rfl rfl ?_
  refine wd_iload_n hC dX5_man_6 rfl rfl ?_
  refine cv5i hC cw_X5_134 (r_isMan hinj _ _) dX5_man_7 (by first | decide | omega) (by decide) rfl rfl (Nat.le_of_ble_eq_true rfl) ?_
  refine wd_if_eq (tgt := 23) hC dX5_man_10 (by decide) (fun c_10 => absurd c_10 (bIm (qm_of hnm hx hm h6))) (fun c_10 => ?_)
  refine wd_iload_n hC dX5_man_13 rfl rfl ?_
  refine wd_iconst (v := 0) hC dX5_man_14 rfl ?_
  refine wd_bipush (v := 6) hC dX5_man_15 rfl ?_
  refine cvsi hC cw_X5_66 (r_in hinj _ _ _ _) dX5_man_17 (by first | decide | omega) (by decide) rfl rfl (Nat.le_of_ble_eq_true rfl) ?_
  refine wd_if_ne (tgt := 25) hC dX5_man_20 (by decide) (fun c_20 => ?_) (fun c_20 => absurd c_20 (bIm (by decide)))
  refine wd_iload_n hC dX5_man_25 rfl rfl ?_
  refine wd_iconst (v := 3) hC dX5_man_26 rfl ?_
  refine wd_icmp_ge (tgt := 64) hC dX5_man_27 (by decide) (fun c_27 => ?_) (fun c_27 => absurd (by decide) c_27)
  refine wd_iload_n hC dX5_man_64 rfl rfl ?_
  refine wd_iconst (v := 3) hC dX5_man_65 rfl ?_
  refine wd_icmp_ne (tgt := 80) hC dX5_man_66 (by decide) (fun c_66 => ?_) (fun c_66 => absurd c_66 (by decide))
  refine wd_iload_n hC dX5_man_80 rfl rfl ?_
  refine wd_iconst (v := 4) hC dX5_man_81 rfl ?_
  refine wd_icmp_ne (tgt := 116) hC dX5_man_82 (by decide) (fun c_82 => ?_) (fun c_82 => absurd c_82 (by decide))
  refine wd_iload_n hC dX5_man_116 rfl rfl ?_
  refine wd_iconst (v := 5) hC dX5_man_117 rfl ?_
  refine wd_icmp_ne (tgt := 133) hC dX5_man_118 (by decide) (fun c_118 => absurd (by decide) c_118) (fun c_118 => ?_)
  refine wd_aload_n hC dX5_man_121 rfl rfl ?_
  refine gf_X5_34 hC dX5_man_122 ?_
  refine wd_bipush (v := 12) hC dX5_man_125 rfl ?_
  refine wd_iload_n hC dX5_man_127 rfl rfl ?_
  refine wd_iadd hC dX5_man_128 ?_
  refine rl_s hC dX5_man_129 (12 + m) (addI hx 12) (by omega) ?_
  refine wd_goto (tgt := 142) hC dX5_man_130 (by decide) ?_
  exact wd_iret hC rfl dX5_man_142 rfl rfl
set_option maxRecDepth 100000 in
set_option maxHeartbeats 4000000 in
theorem r_man_6 {V : wd_V} {ad : Nat → Nat} (hinj : wd_inj rS ad) (σ : wd_S) (h0 : σ.1 0 0 = 0) (nm nc : Nat) (hnm : σ.1 2 1 = nI nm) (hnc : σ.1 2 0 = nI nc) (h6 : nm ≤ 6) (h3 : nc ≤ 3) (x : Int32) (m : Nat) (hx : x = nI m) (hm : m < nm)  : wd_C rS V ad 2 yX5_man (Cond.code yX5_man cX5_man 3 (some .int) :: wsL_law) σ [.ref (ad 0), .int x, .int 6] (wd_eq (some (.int (σ.1 9 (18 + m)))) (σ)) := by
  refine wd_intro (lv := [some (.ref (ad 0)), some (.int x), some (.int 6)]) hinj (by decide) rfl (Nat.le_of_ble_eq_true rfl) rfl (Nat.le_of_ble_eq_true rfl) (fun K hC => ?_)
  refine wd_aload_n hC dX5_man_0 rfl rfl ?_
  refine wd_iconst (v := 0) hC dX5_man_1 rfl ?_
  refine pf_X5_62 hC dX5_man_2 ?_
  refine wd_ts (up_00 h0) ?_
  refine wd_aload_n hC dX5_man_5 rfl rfl ?_
  refine wd_iload_n hC dX5_man_6 rfl rfl ?_
  refine cv5i hC cw_X5_134 (r_isMan hinj _ _) dX5_man_7 (by first | decide | omega) (by decide) rfl rfl (Nat.le_of_ble_eq_true rfl) ?_
  refine wd_if_eq (tgt := 23) hC dX5_man_10 (by decide) (fun c_10 => absurd c_10 (bIm (qm_of hnm hx hm h6))) (fun c_10 => ?_)
  refine wd_iload_n hC dX5_man_13 rfl rfl ?_
  refine wd_iconst (v := 0) hC dX5_man_14 rfl ?_
  refine wd_bipush (v := 6) hC dX5_man_15 rfl ?_
  refine cvsi hC cw_X5_66 (r_in hinj _ _ _ _) dX5_man_17 (by first | decide | omega) (by decide) rfl rfl (Nat.le_of_ble_eq_true rfl) ?_
  refine wd_if_ne (tgt := 25) hC dX5_man_20 (by decide) (fun c_20 => ?_) (fun c_20 => absurd c_20 (bIm (by decide)))
  refine wd_iload_n hC dX5_man_25 rfl rfl ?_
  refine wd_iconst (v := 3) hC dX5_man_26 rfl ?_
  refine wd_icmp_ge (tgt := 64) hC dX5_man_27 (by decide) (fun c_27 => ?_) (fun c_27 => absurd (by decide) c_27)
  refine wd_iload_n hC dX5_man_64 rfl rfl ?_
  refine wd_iconst (v := 3) hC dX5_man_65 rfl ?_
  refine wd_icmp_ne (tgt := 80) hC dX5_man_66 (by decide) (fun c_66 => ?_) (fun c_66 => absurd c_66 (by decide))
  refine wd_iload_n hC dX5_man_80 rfl rfl ?_
  refine wd_iconst (v := 4) hC dX5_man_81 rfl ?_
  refine wd_icmp_ne (tgt := 116) hC dX5_man_82 (by decide) (fun c_82 => ?_) (fun c_82 => absurd c_82 (by decide))
  refine wd_iload_n hC dX5_man_116 rfl rfl ?_
  refine wd_iconst (v := 5) hC dX5_man_117 rfl ?_
  refine wd_icmp_ne (tgt := 133) hC dX5_man_118 (by decide) (fun c_118 => ?_) (fun c_118 => absurd c_118 (by decide))
  refine wd_aload_n hC dX5_man_133 rfl rfl ?_
  refine gf_X5_34 hC dX5_man_134 ?_
  refine wd_bipush (v := 18) hC dX5_man_137 rfl ?_
  refine wd_iload_n hC dX5_man_139 rfl rfl ?_
  refine wd_iadd hC dX5_man_140 ?_
  refine rl_s hC dX5_man_141 (18 + m) (addI hx 18) (by omega) ?_
  exact wd_iret hC rfl dX5_man_142 rfl rfl
set_option maxRecDepth 100000 in
set_option maxHeartbeats 4000000 in
theorem r_yieldOf_bad {V : wd_V} {ad : Nat → Nat} (hinj : wd_inj rS ad) (σ : wd_S) (h0 : σ.1 0 0 = 0) (x y : Int32) (hB : ¬ (qMan σ x ∧ qCrop σ y)) : wd_C rS V ad 2 yX5_yieldOf (Cond.code yX5_yieldOf cX5_yieldOf 3 (some .int) :: wsL_law) σ [.ref (ad 0), .int x, .int y] (wd_eq (some (.int (-1))) (σ)) := by
  refine wd_intro (lv := [some (.ref (ad 0)), some (.int x), some (.int y)]) hinj (by decide) rfl (Nat.le_of_ble_eq_true rfl) rfl (Nat.le_of_ble_eq_true rfl) (fun K hC => ?_)
  refine wd_aload_n hC dX5_yieldOf_0 rfl rfl ?_
  refine wd_iconst (v := 0) hC dX5_yieldOf_1 rfl ?_
  refine pf_X5_62 hC dX5_yieldOf_2 ?_
  refine wd_ts (up_00 h0) ?_
  refine wd_aload_n hC dX5_yieldOf_5 rfl rfl ?_
  refine wd_iload_n hC dX5_yieldOf_6 rfl rfl ?_
  refine cv5i hC cw_X5_134 (r_isMan hinj _ _) dX5_yieldOf_7 (by first | decide | omega) (by decide) rfl rfl (Nat.le_of_ble_eq_true rfl) ?_
  refine wd_if_eq (tgt := 34) hC dX5_yieldOf_10 (by decide) (fun c_10 => ?_) (fun c_10 => ?_)
  · replace c_10 := bI_0.mp c_10
    refine wd_iconst (v := -1) hC dX5_yieldOf_34 rfl ?_
    exact wd_iret hC rfl dX5_yieldOf_35 rfl rfl
  · replace c_10 := bI_1.mp c_10
    refine wd_aload_n hC dX5_yieldOf_13 rfl rfl ?_
    refine wd_iload_n hC dX5_yieldOf_14 rfl rfl ?_
    refine cv5i hC cw_X5_138 (r_isCrop hinj _ _) dX5_yieldOf_15 (by first | decide | omega) (by decide) rfl rfl (Nat.le_of_ble_eq_true rfl) ?_
    refine wd_if_eq (tgt := 34) hC dX5_yieldOf_18 (by decide) (fun c_18 => ?_) (fun c_18 => ?_)
    · replace c_18 := bI_0.mp c_18
      refine wd_iconst (v := -1) hC dX5_yieldOf_34 rfl ?_
      exact wd_iret hC rfl dX5_yieldOf_35 rfl rfl
    · replace c_18 := bI_1.mp c_18
      exact absurd ⟨c_10, c_18⟩ hB
set_option maxRecDepth 100000 in
set_option maxHeartbeats 4000000 in
theorem r_yieldOf {V : wd_V} {ad : Nat → Nat} (hinj : wd_inj rS ad) (σ : wd_S) (h0 : σ.1 0 0 = 0) (nm nc : Nat) (hnm : σ.1 2 1 = nI nm) (hnc : σ.1 2 0 = nI nc) (h6 : nm ≤ 6) (h3 : nc ≤ 3) (x : Int32) (m : Nat) (hx : x = nI m) (hm : m < nm) (y : Int32) (c : Nat) (hy : y = nI c) (hc : c < nc)  : wd_C rS V ad 2 yX5_yieldOf (Cond.code yX5_yieldOf cX5_yieldOf 3 (some .int) :: wsL_law) σ [.ref (ad 0), .int x, .int y] (wd_eq (some (.int (σ.1 8 (3 * m + c)))) (σ)) := by
  refine wd_intro (lv := [some (.ref (ad 0)), some (.int x), some (.int y)]) hinj (by decide) rfl (Nat.le_of_ble_eq_true rfl) rfl (Nat.le_of_ble_eq_true rfl) (fun K hC => ?_)
  refine wd_aload_n hC dX5_yieldOf_0 rfl rfl ?_
  refine wd_iconst (v := 0) hC dX5_yieldOf_1 rfl ?_
  refine pf_X5_62 hC dX5_yieldOf_2 ?_
  refine wd_ts (up_00 h0) ?_
  refine wd_aload_n hC dX5_yieldOf_5 rfl rfl ?_
  refine wd_iload_n hC dX5_yieldOf_6 rfl rfl ?_
  refine cv5i hC cw_X5_134 (r_isMan hinj _ _) dX5_yieldOf_7 (by first | decide | omega) (by decide) rfl rfl (Nat.le_of_ble_eq_true rfl) ?_
  refine wd_if_eq (tgt := 34) hC dX5_yieldOf_10 (by decide) (fun c_10 => absurd c_10 (bIm (qm_of hnm hx hm h6))) (fun c_10 => ?_)
  refine wd_aload_n hC dX5_yieldOf_13 rfl rfl ?_
  refine wd_iload_n hC dX5_yieldOf_14 rfl rfl ?_
  refine cv5i hC cw_X5_138 (r_isCrop hinj _ _) dX5_yieldOf_15 (by first | decide | omega) (by decide) rfl rfl (Nat.le_of_ble_eq_true rfl) ?_
  refine wd_if_eq (tgt := 34) hC dX5_yieldOf_18 (by decide) (fun c_18 => absurd c_18 (bIm (qc_of hnc hy hc h3))) (fun c_18 => ?_)
  refine wd_aload_n hC dX5_yieldOf_21 rfl rfl ?_
  refine gf_X5_31 hC dX5_yieldOf_22 ?_
  refine wd_iconst (v := 3) hC dX5_yieldOf_25 rfl ?_
  refine wd_iload_n hC dX5_yieldOf_26 rfl rfl ?_
  refine wd_imul hC dX5_yieldOf_27 ?_
  refine wd_iload_n hC dX5_yieldOf_28 rfl rfl ?_
  refine wd_iadd hC dX5_yieldOf_29 ?_
  refine rl_yields hC dX5_yieldOf_30 ((3 * m) + c) (addN (mulI hx 3) hy) (by omega) ?_
  refine wd_goto (tgt := 35) hC dX5_yieldOf_31 (by decide) ?_
  exact wd_iret hC rfl dX5_yieldOf_35 rfl rfl
set_option maxRecDepth 100000 in
set_option maxHeartbeats 4000000 in
theorem r_carries_bad {V : wd_V} {ad : Nat → Nat} (hinj : wd_inj rS ad) (σ : wd_S) (h0 : σ.1 0 0 = 0) (x y : Int32) (hB : ¬ (qMan σ x ∧ qCrop σ y)) : wd_C rS V ad 2 yX5_carries (Cond.code yX5_carries cX5_carries 3 (some .int) :: wsL_law) σ [.ref (ad 0), .int x, .int y] (wd_eq (some (.int (-1))) (σ)) := by
  refine wd_intro (lv := [some (.ref (ad 0)), some (.int x), some (.int y)]) hinj (by decide) rfl (Nat.le_of_ble_eq_true rfl) rfl (Nat.le_of_ble_eq_true rfl) (fun K hC => ?_)
  refine wd_aload_n hC dX5_carries_0 rfl rfl ?_
  refine wd_iconst (v := 0) hC dX5_carries_1 rfl ?_
  refine pf_X5_62 hC dX5_carries_2 ?_
  refine wd_ts (up_00 h0) ?_
  refine wd_aload_n hC dX5_carries_5 rfl rfl ?_
  refine wd_iload_n hC dX5_carries_6 rfl rfl ?_
  refine cv5i hC cw_X5_134 (r_isMan hinj _ _) dX5_carries_7 (by first | decide | omega) (by decide) rfl rfl (Nat.le_of_ble_eq_true rfl) ?_
  refine wd_if_eq (tgt := 34) hC dX5_carries_10 (by decide) (fun c_10 => ?_) (fun c_10 => ?_)
  · replace c_10 := bI_0.mp c_10
    refine wd_iconst (v := -1) hC dX5_carries_34 rfl ?_
    exact wd_iret hC rfl dX5_carries_35 rfl rfl
  · replace c_10 := bI_1.mp c_10
    refine wd_aload_n hC dX5_carries_13 rfl rfl ?_
    refine wd_iload_n hC dX5_carries_14 rfl rfl ?_
    refine cv5i hC cw_X5_138 (r_isCrop hinj _ _) dX5_carries_15 (by first | decide | omega) (by decide) rfl rfl (Nat.le_of_ble_eq_true rfl) ?_
    refine wd_if_eq (tgt := 34) hC dX5_carries_18 (by decide) (fun c_18 => ?_) (fun c_18 => ?_)
    · replace c_18 := bI_0.mp c_18
      refine wd_iconst (v := -1) hC dX5_carries_34 rfl ?_
      exact wd_iret hC rfl dX5_carries_35 rfl rfl
    · replace c_18 := bI_1.mp c_18
      exact absurd ⟨c_10, c_18⟩ hB
set_option maxRecDepth 100000 in
set_option maxHeartbeats 4000000 in
theorem r_carries {V : wd_V} {ad : Nat → Nat} (hinj : wd_inj rS ad) (σ : wd_S) (h0 : σ.1 0 0 = 0) (nm nc : Nat) (hnm : σ.1 2 1 = nI nm) (hnc : σ.1 2 0 = nI nc) (h6 : nm ≤ 6) (h3 : nc ≤ 3) (hr : rOk (σ.1 3) (σ.1 9) nm nc) (x : Int32) (m : Nat) (hx : x = nI m) (hm : m < nm) (y : Int32) (c : Nat) (hy : y = nI c) (hc : c < nc)  : wd_C rS V ad 2 yX5_carries (Cond.code yX5_carries cX5_carries 3 (some .int) :: wsL_law) σ [.ref (ad 0), .int x, .int y] (wd_eq (some (.int (vCarry σ (σ.1 9) m c))) (σ)) := by
  refine wd_intro (lv := [some (.ref (ad 0)), some (.int x), some (.int y)]) hinj (by decide) rfl (Nat.le_of_ble_eq_true rfl) rfl (Nat.le_of_ble_eq_true rfl) (fun K hC => ?_)
  refine wd_aload_n hC dX5_carries_0 rfl rfl ?_
  refine wd_iconst (v := 0) hC dX5_carries_1 rfl ?_
  refine pf_X5_62 hC dX5_carries_2 ?_
  refine wd_ts (up_00 h0) ?_
  refine wd_aload_n hC dX5_carries_5 rfl rfl ?_
  refine wd_iload_n hC dX5_carries_6 rfl rfl ?_
  refine cv5i hC cw_X5_134 (r_isMan hinj _ _) dX5_carries_7 (by first | decide | omega) (by decide) rfl rfl (Nat.le_of_ble_eq_true rfl) ?_
  refine wd_if_eq (tgt := 34) hC dX5_carries_10 (by decide) (fun c_10 => absurd c_10 (bIm (qm_of hnm hx hm h6))) (fun c_10 => ?_)
  refine wd_aload_n hC dX5_carries_13 rfl rfl ?_
  refine wd_iload_n hC dX5_carries_14 rfl rfl ?_
  refine cv5i hC cw_X5_138 (r_isCrop hinj _ _) dX5_carries_15 (by first | decide | omega) (by decide) rfl rfl (Nat.le_of_ble_eq_true rfl) ?_
  refine wd_if_eq (tgt := 34) hC dX5_carries_18 (by decide) (fun c_18 => absurd c_18 (bIm (qc_of hnc hy hc h3))) (fun c_18 => ?_)
  refine wd_aload_n hC dX5_carries_21 rfl rfl ?_
  refine wd_aload_n hC dX5_carries_22 rfl rfl ?_
  refine gf_X5_34 hC dX5_carries_23 ?_
  refine wd_iload_n hC dX5_carries_26 rfl rfl ?_
  refine wd_iload_n hC dX5_carries_27 rfl rfl ?_
  refine cv5i hC cw_X5_120 (r_carriesBy hinj _ 9 (Or.inl rfl) nm nc hr _ _ hx hm _ _ hy hc) dX5_carries_28 (by first | decide | omega) (by decide) rfl rfl (Nat.le_of_ble_eq_true rfl) ?_
  refine wd_goto (tgt := 35) hC dX5_carries_31 (by decide) ?_
  exact wd_iret hC rfl dX5_carries_35 rfl rfl
set_option maxRecDepth 100000 in
set_option maxHeartbeats 4000000 in
theorem r_has_bad {V : wd_V} {ad : Nat → Nat} (hinj : wd_inj rS ad) (σ : wd_S) (h0 : σ.1 0 0 = 0) (x y : Int32) (hB : ¬ (qMan σ x ∧ pIn y 0 3)) : wd_C rS V ad 2 yX5_has (Cond.code yX5_has cX5_has 3 (some .int) :: wsL_law) σ [.ref (ad 0), .int x, .int y] (wd_eq (some (.int (-1000000))) (σ)) := by
  refine wd_intro (lv := [some (.ref (ad 0)), some (.int x), some (.int y)]) hinj (by decide) rfl (Nat.le_of_ble_eq_true rfl) rfl (Nat.le_of_ble_eq_true rfl) (fun K hC => ?_)
  refine wd_aload_n hC dX5_has_0 rfl rfl ?_
  refine wd_iconst (v := 0) hC dX5_has_1 rfl ?_
  refine pf_X5_62 hC dX5_has_2 ?_
  refine wd_ts (up_00 h0) ?_
  refine wd_aload_n hC dX5_has_5 rfl rfl ?_
  refine wd_iload_n hC dX5_has_6 rfl rfl ?_
  refine cv5i hC cw_X5_134 (r_isMan hinj _ _) dX5_has_7 (by first | decide | omega) (by decide) rfl rfl (Nat.le_of_ble_eq_true rfl) ?_
  refine wd_if_eq (tgt := 22) hC dX5_has_10 (by decide) (fun c_10 => ?_) (fun c_10 => ?_)
  · replace c_10 := bI_0.mp c_10
    refine wd_ldc (v := (-1000000)) hC dX5_has_22 (wL_13 _ (List.mem_of_getElem? (i := 6) rfl)) ?_
    exact wd_iret hC rfl dX5_has_24 rfl rfl
  · replace c_10 := bI_1.mp c_10
    refine wd_iload_n hC dX5_has_13 rfl rfl ?_
    refine wd_iconst (v := 0) hC dX5_has_14 rfl ?_
    refine wd_iconst (v := 3) hC dX5_has_15 rfl ?_
    refine cvsi hC cw_X5_66 (r_in hinj _ _ _ _) dX5_has_16 (by first | decide | omega) (by decide) rfl rfl (Nat.le_of_ble_eq_true rfl) ?_
    refine wd_if_ne (tgt := 25) hC dX5_has_19 (by decide) (fun c_19 => ?_) (fun c_19 => ?_)
    · replace c_19 := bI_1.mp c_19
      exact absurd ⟨c_10, c_19⟩ hB
    · replace c_19 := bI_0.mp c_19
      refine wd_ldc (v := (-1000000)) hC dX5_has_22 (wL_13 _ (List.mem_of_getElem? (i := 6) rfl)) ?_
      exact wd_iret hC rfl dX5_has_24 rfl rfl
set_option maxRecDepth 100000 in
set_option maxHeartbeats 4000000 in
theorem r_has_0 {V : wd_V} {ad : Nat → Nat} (hinj : wd_inj rS ad) (σ : wd_S) (h0 : σ.1 0 0 = 0) (nm nc : Nat) (hnm : σ.1 2 1 = nI nm) (hnc : σ.1 2 0 = nI nc) (h6 : nm ≤ 6) (h3 : nc ≤ 3) (hr : rOk (σ.1 3) (σ.1 9) nm nc) (x : Int32) (m : Nat) (hx : x = nI m) (hm : m < nm)  : wd_C rS V ad 4 yX5_has (Cond.code yX5_has cX5_has 3 (some .int) :: wsL_law) σ [.ref (ad 0), .int x, .int 0] (wd_eq (some (.int (vTakes σ (σ.1 9) m))) (σ)) := by
  refine wd_intro (lv := [some (.ref (ad 0)), some (.int x), some (.int 0)]) hinj (by decide) rfl (Nat.le_of_ble_eq_true rfl) rfl (Nat.le_of_ble_eq_true rfl) (fun K hC => ?_)
  refine wd_aload_n hC dX5_has_0 rfl rfl ?_
  refine wd_iconst (v := 0) hC dX5_has_1 rfl ?_
  refine pf_X5_62 hC dX5_has_2 ?_
  refine wd_ts (up_00 h0) ?_
  refine wd_aload_n hC dX5_has_5 rfl rfl ?_
  refine wd_iload_n hC dX5_has_6 rfl rfl ?_
  refine cv5i hC cw_X5_134 (r_isMan hinj _ _) dX5_has_7 (by first | decide | omega) (by decide) rfl rfl (Nat.le_of_ble_eq_true rfl) ?_
  refine wd_if_eq (tgt := 22) hC dX5_has_10 (by decide) (fun c_10 => absurd c_10 (bIm (qm_of hnm hx hm h6))) (fun c_10 => ?_)
  refine wd_iload_n hC dX5_has_13 rfl rfl ?_
  refine wd_iconst (v := 0) hC dX5_has_14 rfl ?_
  refine wd_iconst (v := 3) hC dX5_has_15 rfl ?_
  refine cvsi hC cw_X5_66 (r_in hinj _ _ _ _) dX5_has_16 (by first | decide | omega) (by decide) rfl rfl (Nat.le_of_ble_eq_true rfl) ?_
  refine wd_if_ne (tgt := 25) hC dX5_has_19 (by decide) (fun c_19 => ?_) (fun c_19 => absurd c_19 (bIm (by decide)))
  refine wd_iload_n hC dX5_has_25 rfl rfl ?_
  refine wd_if_ne (tgt := 41) hC dX5_has_26 (by decide) (fun c_26 => absurd (by decide) c_26) (fun c_26 => ?_)
  refine wd_aload_n hC dX5_has_29 rfl rfl ?_
  refine wd_aload_n hC dX5_has_30 rfl rfl ?_
  refine gf_X5_34 hC dX5_has_31 ?_
  refine wd_iload_n hC dX5_has_34 rfl rfl ?_
  refine cv5i hC cw_X5_124 (r_takesBy hinj _ 9 (Or.inl rfl) nm nc hr _ _ hx hm) dX5_has_35 (by first | decide | omega) (by decide) rfl rfl (Nat.le_of_ble_eq_true rfl) ?_
  refine wd_goto (tgt := 84) hC dX5_has_38 (by decide) ?_
  exact wd_iret hC rfl dX5_has_84 rfl rfl
set_option maxRecDepth 100000 in
set_option maxHeartbeats 4000000 in
theorem r_has_1 {V : wd_V} {ad : Nat → Nat} (hinj : wd_inj rS ad) (σ : wd_S) (h0 : σ.1 0 0 = 0) (nm nc : Nat) (hnm : σ.1 2 1 = nI nm) (hnc : σ.1 2 0 = nI nc) (h6 : nm ≤ 6) (h3 : nc ≤ 3) (hr : rOk (σ.1 3) (σ.1 9) nm nc) (x : Int32) (m : Nat) (hx : x = nI m) (hm : m < nm)  : wd_C rS V ad 4 yX5_has (Cond.code yX5_has cX5_has 3 (some .int) :: wsL_law) σ [.ref (ad 0), .int x, .int 1] (wd_eq (some (.int (vKept σ (σ.1 9) m))) (σ)) := by
  refine wd_intro (lv := [some (.ref (ad 0)), some (.int x), some (.int 1)]) hinj (by decide) rfl (Nat.le_of_ble_eq_true rfl) rfl (Nat.le_of_ble_eq_true rfl) (fun K hC => ?_)
  refine wd_aload_n hC dX5_has_0 rfl rfl ?_
  refine wd_iconst (v := 0) hC dX5_has_1 rfl ?_
  refine pf_X5_62 hC dX5_has_2 ?_
  refine wd_ts (up_00 h0) ?_
  refine wd_aload_n hC dX5_has_5 rfl rfl ?_
  refine wd_iload_n hC dX5_has_6 rfl rfl ?_
  refine cv5i hC cw_X5_134 (r_isMan hinj _ _) dX5_has_7 (by first | decide | omega) (by decide) rfl rfl (Nat.le_of_ble_eq_true rfl) ?_
  refine wd_if_eq (tgt := 22) hC dX5_has_10 (by decide) (fun c_10 => absurd c_10 (bIm (qm_of hnm hx hm h6))) (fun c_10 => ?_)
  refine wd_iload_n hC dX5_has_13 rfl rfl ?_
  refine wd_iconst (v := 0) hC dX5_has_14 rfl ?_
  refine wd_iconst (v := 3) hC dX5_has_15 rfl ?_
  refine cvsi hC cw_X5_66 (r_in hinj _ _ _ _) dX5_has_16 (by first | decide | omega) (by decide) rfl rfl (Nat.le_of_ble_eq_true rfl) ?_
  refine wd_if_ne (tgt := 25) hC dX5_has_19 (by decide) (fun c_19 => ?_) (fun c_19 => absurd c_19 (bIm (by decide)))
  refine wd_iload_n hC dX5_has_25 rfl rfl ?_
  refine wd_if_ne (tgt := 41) hC dX5_has_26 (by decide) (fun c_26 => ?_) (fun c_26 => absurd c_26 (by decide))
  refine wd_iload_n hC dX5_has_41 rfl rfl ?_
  refine wd_iconst (v := 1) hC dX5_has_42 rfl ?_
  refine wd_icmp_ne (tgt := 58) hC dX5_has_43 (by decide) (fun c_43 => absurd (by decide) c_43) (fun c_43 => ?_)
  refine wd_aload_n hC dX5_has_46 rfl rfl ?_
  refine wd_aload_n hC dX5_has_47 rfl rfl ?_
  refine gf_X5_34 hC dX5_has_48 ?_
  refine wd_iload_n hC dX5_has_51 rfl rfl ?_
  refine cv5i hC cw_X5_131 (r_keptBy hinj _ 9 (Or.inl rfl) nm nc hr _ _ hx hm) dX5_has_52 (by first | decide | omega) (by decide) rfl rfl (Nat.le_of_ble_eq_true rfl) ?_
  refine wd_goto (tgt := 84) hC dX5_has_55 (by decide) ?_
  exact wd_iret hC rfl dX5_has_84 rfl rfl
set_option maxRecDepth 100000 in
set_option maxHeartbeats 4000000 in
theorem r_has_2 {V : wd_V} {ad : Nat → Nat} (hinj : wd_inj rS ad) (σ : wd_S) (h0 : σ.1 0 0 = 0) (nm nc : Nat) (hnm : σ.1 2 1 = nI nm) (hnc : σ.1 2 0 = nI nc) (h6 : nm ≤ 6) (h3 : nc ≤ 3) (hr : rOk (σ.1 3) (σ.1 9) nm nc) (x : Int32) (m : Nat) (hx : x = nI m) (hm : m < nm)  : wd_C rS V ad 4 yX5_has (Cond.code yX5_has cX5_has 3 (some .int) :: wsL_law) σ [.ref (ad 0), .int x, .int 2] (wd_eq (some (.int (vHas σ (σ.1 9) m))) (σ)) := by
  refine wd_intro (lv := [some (.ref (ad 0)), some (.int x), some (.int 2)]) hinj (by decide) rfl (Nat.le_of_ble_eq_true rfl) rfl (Nat.le_of_ble_eq_true rfl) (fun K hC => ?_)
  refine wd_aload_n hC dX5_has_0 rfl rfl ?_
  refine wd_iconst (v := 0) hC dX5_has_1 rfl ?_
  refine pf_X5_62 hC dX5_has_2 ?_
  refine wd_ts (up_00 h0) ?_
  refine wd_aload_n hC dX5_has_5 rfl rfl ?_
  refine wd_iload_n hC dX5_has_6 rfl rfl ?_
  refine cv5i hC cw_X5_134 (r_isMan hinj _ _) dX5_has_7 (by first | decide | omega) (by decide) rfl rfl (Nat.le_of_ble_eq_true rfl) ?_
  refine wd_if_eq (tgt := 22) hC dX5_has_10 (by decide) (fun c_10 => absurd c_10 (bIm (qm_of hnm hx hm h6))) (fun c_10 => ?_)
  refine wd_iload_n hC dX5_has_13 rfl rfl ?_
  refine wd_iconst (v := 0) hC dX5_has_14 rfl ?_
  refine wd_iconst (v := 3) hC dX5_has_15 rfl ?_
  refine cvsi hC cw_X5_66 (r_in hinj _ _ _ _) dX5_has_16 (by first | decide | omega) (by decide) rfl rfl (Nat.le_of_ble_eq_true rfl) ?_
  refine wd_if_ne (tgt := 25) hC dX5_has_19 (by decide) (fun c_19 => ?_) (fun c_19 => absurd c_19 (bIm (by decide)))
  refine wd_iload_n hC dX5_has_25 rfl rfl ?_
  refine wd_if_ne (tgt := 41) hC dX5_has_26 (by decide) (fun c_26 => ?_) (fun c_26 => absurd c_26 (by decide))
  refine wd_iload_n hC dX5_has_41 rfl rfl ?_
  refine wd_iconst (v := 1) hC dX5_has_42 rfl ?_
  refine wd_icmp_ne (tgt := 58) hC dX5_has_43 (by decide) (fun c_43 => ?_) (fun c_43 => absurd c_43 (by decide))
  refine wd_iload_n hC dX5_has_58 rfl rfl ?_
  refine wd_iconst (v := 2) hC dX5_has_59 rfl ?_
  refine wd_icmp_ne (tgt := 75) hC dX5_has_60 (by decide) (fun c_60 => absurd (by decide) c_60) (fun c_60 => ?_)
  refine wd_aload_n hC dX5_has_63 rfl rfl ?_
  refine wd_aload_n hC dX5_has_64 rfl rfl ?_
  refine gf_X5_34 hC dX5_has_65 ?_
  refine wd_iload_n hC dX5_has_68 rfl rfl ?_
  refine cv5i hC cw_X5_142 (r_hasBy hinj _ 9 (Or.inl rfl) nm nc hr _ _ hx hm) dX5_has_69 (by first | decide | omega) (by decide) rfl rfl (Nat.le_of_ble_eq_true rfl) ?_
  refine wd_goto (tgt := 84) hC dX5_has_72 (by decide) ?_
  exact wd_iret hC rfl dX5_has_84 rfl rfl
set_option maxRecDepth 100000 in
set_option maxHeartbeats 4000000 in
theorem r_has_3 {V : wd_V} {ad : Nat → Nat} (hinj : wd_inj rS ad) (σ : wd_S) (h0 : σ.1 0 0 = 0) (nm nc : Nat) (hnm : σ.1 2 1 = nI nm) (hnc : σ.1 2 0 = nI nc) (h6 : nm ≤ 6) (h3 : nc ≤ 3) (hr : rOk (σ.1 3) (σ.1 9) nm nc) (x : Int32) (m : Nat) (hx : x = nI m) (hm : m < nm)  : wd_C rS V ad 4 yX5_has (Cond.code yX5_has cX5_has 3 (some .int) :: wsL_law) σ [.ref (ad 0), .int x, .int 3] (wd_eq (some (.int (σ.1 9 (24 + m)))) (σ)) := by
  refine wd_intro (lv := [some (.ref (ad 0)), some (.int x), some (.int 3)]) hinj (by decide) rfl (Nat.le_of_ble_eq_true rfl) rfl (Nat.le_of_ble_eq_true rfl) (fun K hC => ?_)
  refine wd_aload_n hC dX5_has_0 rfl rfl ?_
  refine wd_iconst (v := 0) hC dX5_has_1 rfl ?_
  refine pf_X5_62 hC dX5_has_2 ?_
  refine wd_ts (up_00 h0) ?_
  refine wd_aload_n hC dX5_has_5 rfl rfl ?_
  refine wd_iload_n hC dX5_has_6 rfl rfl ?_
  refine cv5i hC cw_X5_134 (r_isMan hinj _ _) dX5_has_7 (by first | decide | omega) (by decide) rfl rfl (Nat.le_of_ble_eq_true rfl) ?_
  refine wd_if_eq (tgt := 22) hC dX5_has_10 (by decide) (fun c_10 => absurd c_10 (bIm (qm_of hnm hx hm h6))) (fun c_10 => ?_)
  refine wd_iload_n hC dX5_has_13 rfl rfl ?_
  refine wd_iconst (v := 0) hC dX5_has_14 rfl ?_
  refine wd_iconst (v := 3) hC dX5_has_15 rfl ?_
  refine cvsi hC cw_X5_66 (r_in hinj _ _ _ _) dX5_has_16 (by first | decide | omega) (by decide) rfl rfl (Nat.le_of_ble_eq_true rfl) ?_
  refine wd_if_ne (tgt := 25) hC dX5_has_19 (by decide) (fun c_19 => ?_) (fun c_19 => absurd c_19 (bIm (by decide)))
  refine wd_iload_n hC dX5_has_25 rfl rfl ?_
  refine wd_if_ne (tgt := 41) hC dX5_has_26 (by decide) (fun c_26 => ?_) (fun c_26 => absurd c_26 (by decide))
  refine wd_iload_n hC dX5_has_41 rfl rfl ?_
  refine wd_iconst (v := 1) hC dX5_has_42 rfl ?_
  refine wd_icmp_ne (tgt := 58) hC dX5_has_43 (by decide) (fun c_43 => ?_) (fun c_43 => absurd c_43 (by decide))
  refine wd_iload_n hC dX5_has_58 rfl rfl ?_
  refine wd_iconst (v := 2) hC dX5_has_59 rfl ?_
  refine wd_icmp_ne (tgt := 75) hC dX5_has_60 (by decide) (fun c_60 => ?_) (fun c_60 => absurd c_60 (by decide))
  refine wd_aload_n hC dX5_has_75 rfl rfl ?_
  refine gf_X5_34 hC dX5_has_76 ?_
  refine wd_bipush (v := 24) hC dX5_has_79 rfl ?_
  refine wd_iload_n hC dX5_has_81 rfl rfl ?_
  refine wd_iadd hC dX5_has_82 ?_
  refine rl_s hC dX5_has_83 (24 + m) (addI hx 24) (by omega) ?_
  exact wd_iret hC rfl dX5_has_84 rfl rfl
set_option maxRecDepth 100000 in
set_option maxHeartbeats 4000000 in
theorem r_count_0 {V : wd_V} {ad : Nat → Nat} (hinj : wd_inj rS ad) (σ : wd_S) (h0 : σ.1 0 0 = 0)  : wd_C rS V ad 1 yX5_count (Cond.code yX5_count cX5_count 2 (some .int) :: wsL_law) σ [.ref (ad 0), .int 0] (wd_eq (some (.int (σ.1 2 0))) (σ)) := by
  refine wd_intro (lv := [some (.ref (ad 0)), some (.int 0)]) hinj (by decide) rfl (Nat.le_of_ble_eq_true rfl) rfl (Nat.le_of_ble_eq_true rfl) (fun K hC => ?_)
  refine wd_aload_n hC dX5_count_0 rfl rfl ?_
  refine wd_iconst (v := 0) hC dX5_count_1 rfl ?_
  refine pf_X5_62 hC dX5_count_2 ?_
  refine wd_ts (up_00 h0) ?_
  refine wd_iload_n hC dX5_count_5 rfl rfl ?_
  refine wd_iconst (v := 0) hC dX5_count_6 rfl ?_
  refine wd_iconst (v := 1) hC dX5_count_7 rfl ?_
  refine cvsi hC cw_X5_66 (r_in hinj _ _ _ _) dX5_count_8 (by first | decide | omega) (by decide) rfl rfl (Nat.le_of_ble_eq_true rfl) ?_
  refine wd_if_eq (tgt := 23) hC dX5_count_11 (by decide) (fun c_11 => absurd c_11 (bIm (by decide))) (fun c_11 => ?_)
  refine wd_aload_n hC dX5_count_14 rfl rfl ?_
  refine gf_X5_13 hC dX5_count_15 ?_
  refine wd_iload_n hC dX5_count_18 rfl rfl ?_
  refine rl_many hC dX5_count_19 0 rfl (by decide) ?_
  refine wd_goto (tgt := 48) hC dX5_count_20 (by decide) ?_
  exact wd_iret hC rfl dX5_count_48 rfl rfl
set_option maxRecDepth 100000 in
set_option maxHeartbeats 4000000 in
theorem r_count_1 {V : wd_V} {ad : Nat → Nat} (hinj : wd_inj rS ad) (σ : wd_S) (h0 : σ.1 0 0 = 0)  : wd_C rS V ad 1 yX5_count (Cond.code yX5_count cX5_count 2 (some .int) :: wsL_law) σ [.ref (ad 0), .int 1] (wd_eq (some (.int (σ.1 2 1))) (σ)) := by
  refine wd_intro (lv := [some (.ref (ad 0)), some (.int 1)]) hinj (by decide) rfl (Nat.le_of_ble_eq_true rfl) rfl (Nat.le_of_ble_eq_true rfl) (fun K hC => ?_)
  refine wd_aload_n hC dX5_count_0 rfl rfl ?_
  refine wd_iconst (v := 0) hC dX5_count_1 rfl ?_
  refine pf_X5_62 hC dX5_count_2 ?_
  refine wd_ts (up_00 h0) ?_
  refine wd_iload_n hC dX5_count_5 rfl rfl ?_
  refine wd_iconst (v := 0) hC dX5_count_6 rfl ?_
  refine wd_iconst (v := 1) hC dX5_count_7 rfl ?_
  refine cvsi hC cw_X5_66 (r_in hinj _ _ _ _) dX5_count_8 (by first | decide | omega) (by decide) rfl rfl (Nat.le_of_ble_eq_true rfl) ?_
  refine wd_if_eq (tgt := 23) hC dX5_count_11 (by decide) (fun c_11 => absurd c_11 (bIm (by decide))) (fun c_11 => ?_)
  refine wd_aload_n hC dX5_count_14 rfl rfl ?_
  refine gf_X5_13 hC dX5_count_15 ?_
  refine wd_iload_n hC dX5_count_18 rfl rfl ?_
  refine rl_many hC dX5_count_19 1 rfl (by decide) ?_
  refine wd_goto (tgt := 48) hC dX5_count_20 (by decide) ?_
  exact wd_iret hC rfl dX5_count_48 rfl rfl
set_option maxRecDepth 100000 in
set_option maxHeartbeats 4000000 in
theorem r_count_2 {V : wd_V} {ad : Nat → Nat} (hinj : wd_inj rS ad) (σ : wd_S) (h0 : σ.1 0 0 = 0)  : wd_C rS V ad 1 yX5_count (Cond.code yX5_count cX5_count 2 (some .int) :: wsL_law) σ [.ref (ad 0), .int 2] (wd_eq (some (.int (σ.1 0 24))) (σ)) := by
  refine wd_intro (lv := [some (.ref (ad 0)), some (.int 2)]) hinj (by decide) rfl (Nat.le_of_ble_eq_true rfl) rfl (Nat.le_of_ble_eq_true rfl) (fun K hC => ?_)
  refine wd_aload_n hC dX5_count_0 rfl rfl ?_
  refine wd_iconst (v := 0) hC dX5_count_1 rfl ?_
  refine pf_X5_62 hC dX5_count_2 ?_
  refine wd_ts (up_00 h0) ?_
  refine wd_iload_n hC dX5_count_5 rfl rfl ?_
  refine wd_iconst (v := 0) hC dX5_count_6 rfl ?_
  refine wd_iconst (v := 1) hC dX5_count_7 rfl ?_
  refine cvsi hC cw_X5_66 (r_in hinj _ _ _ _) dX5_count_8 (by first | decide | omega) (by decide) rfl rfl (Nat.le_of_ble_eq_true rfl) ?_
  refine wd_if_eq (tgt := 23) hC dX5_count_11 (by decide) (fun c_11 => ?_) (fun c_11 => absurd (bI_0.mpr (by decide)) c_11)
  refine wd_iload_n hC dX5_count_23 rfl rfl ?_
  refine wd_iconst (v := 2) hC dX5_count_24 rfl ?_
  refine wd_icmp_ne (tgt := 35) hC dX5_count_25 (by decide) (fun c_25 => absurd (by decide) c_25) (fun c_25 => ?_)
  refine wd_aload_n hC dX5_count_28 rfl rfl ?_
  refine gf_X5_114 hC dX5_count_29 ?_
  refine wd_goto (tgt := 48) hC dX5_count_32 (by decide) ?_
  exact wd_iret hC rfl dX5_count_48 rfl rfl
set_option maxRecDepth 100000 in
set_option maxHeartbeats 4000000 in
theorem r_count_3 {V : wd_V} {ad : Nat → Nat} (hinj : wd_inj rS ad) (σ : wd_S) (h0 : σ.1 0 0 = 0)  : wd_C rS V ad 1 yX5_count (Cond.code yX5_count cX5_count 2 (some .int) :: wsL_law) σ [.ref (ad 0), .int 3] (wd_eq (some (.int (σ.1 0 3))) (σ)) := by
  refine wd_intro (lv := [some (.ref (ad 0)), some (.int 3)]) hinj (by decide) rfl (Nat.le_of_ble_eq_true rfl) rfl (Nat.le_of_ble_eq_true rfl) (fun K hC => ?_)
  refine wd_aload_n hC dX5_count_0 rfl rfl ?_
  refine wd_iconst (v := 0) hC dX5_count_1 rfl ?_
  refine pf_X5_62 hC dX5_count_2 ?_
  refine wd_ts (up_00 h0) ?_
  refine wd_iload_n hC dX5_count_5 rfl rfl ?_
  refine wd_iconst (v := 0) hC dX5_count_6 rfl ?_
  refine wd_iconst (v := 1) hC dX5_count_7 rfl ?_
  refine cvsi hC cw_X5_66 (r_in hinj _ _ _ _) dX5_count_8 (by first | decide | omega) (by decide) rfl rfl (Nat.le_of_ble_eq_true rfl) ?_
  refine wd_if_eq (tgt := 23) hC dX5_count_11 (by decide) (fun c_11 => ?_) (fun c_11 => absurd (bI_0.mpr (by decide)) c_11)
  refine wd_iload_n hC dX5_count_23 rfl rfl ?_
  refine wd_iconst (v := 2) hC dX5_count_24 rfl ?_
  refine wd_icmp_ne (tgt := 35) hC dX5_count_25 (by decide) (fun c_25 => ?_) (fun c_25 => absurd c_25 (by decide))
  refine wd_iload_n hC dX5_count_35 rfl rfl ?_
  refine wd_iconst (v := 3) hC dX5_count_36 rfl ?_
  refine wd_icmp_ne (tgt := 47) hC dX5_count_37 (by decide) (fun c_37 => absurd (by decide) c_37) (fun c_37 => ?_)
  refine wd_aload_n hC dX5_count_40 rfl rfl ?_
  refine gf_X5_70 hC dX5_count_41 ?_
  refine wd_goto (tgt := 48) hC dX5_count_44 (by decide) ?_
  exact wd_iret hC rfl dX5_count_48 rfl rfl
theorem pin3 {x : Int32} (h : pIn x 0 1) : pIn x 0 3 := ⟨h.1, Int32.le_trans h.2 (by decide)⟩
set_option maxRecDepth 100000 in
set_option maxHeartbeats 4000000 in
theorem r_count_bad {V : wd_V} {ad : Nat → Nat} (hinj : wd_inj rS ad) (σ : wd_S) (h0 : σ.1 0 0 = 0) (x : Int32) (hB : ¬ pIn x 0 3) : wd_C rS V ad 1 yX5_count (Cond.code yX5_count cX5_count 2 (some .int) :: wsL_law) σ [.ref (ad 0), .int x] (wd_eq (some (.int (-1))) (σ)) := by
  refine wd_intro (lv := [some (.ref (ad 0)), some (.int x)]) hinj (by decide) rfl (Nat.le_of_ble_eq_true rfl) rfl (Nat.le_of_ble_eq_true rfl) (fun K hC => ?_)
  refine wd_aload_n hC dX5_count_0 rfl rfl ?_
  refine wd_iconst (v := 0) hC dX5_count_1 rfl ?_
  refine pf_X5_62 hC dX5_count_2 ?_
  refine wd_ts (up_00 h0) ?_
  refine wd_iload_n hC dX5_count_5 rfl rfl ?_
  refine wd_iconst (v := 0) hC dX5_count_6 rfl ?_
  refine wd_iconst (v := 1) hC dX5_count_7 rfl ?_
  refine cvsi hC cw_X5_66 (r_in hinj _ _ _ _) dX5_count_8 (by first | decide | omega) (by decide) rfl rfl (Nat.le_of_ble_eq_true rfl) ?_
  refine wd_if_eq (tgt := 23) hC dX5_count_11 (by decide) (fun c_11 => ?_) (fun c_11 => absurd (bI_0.mpr (fun h => hB (pin3 h))) c_11)
  refine wd_iload_n hC dX5_count_23 rfl rfl ?_
  refine wd_iconst (v := 2) hC dX5_count_24 rfl ?_
  refine wd_icmp_ne (tgt := 35) hC dX5_count_25 (by decide) (fun c_25 => ?_) (fun c_25 => absurd c_25 (fun h => hB (by rw [h]; decide)))
  refine wd_iload_n hC dX5_count_35 rfl rfl ?_
  refine wd_iconst (v := 3) hC dX5_count_36 rfl ?_
  refine wd_icmp_ne (tgt := 47) hC dX5_count_37 (by decide) (fun c_37 => ?_) (fun c_37 => absurd c_37 (fun h => hB (by rw [h]; decide)))
  refine wd_iconst (v := -1) hC dX5_count_47 rfl ?_
  exact wd_iret hC rfl dX5_count_48 rfl rfl
set_option maxRecDepth 100000 in
set_option maxHeartbeats 4000000 in
theorem r_trace {V : wd_V} {ad : Nat → Nat} (hinj : wd_inj rS ad) (σ : wd_S) (h0 : σ.1 0 0 = 0)  : wd_C rS V ad 0 yX5_trace (Cond.code yX5_trace cX5_trace 1 (some .long) :: wsL_law) σ [.ref (ad 0)] (wd_eq (some (.long (σ.2.1))) (σ)) := by
  refine wd_intro (lv := [some (.ref (ad 0))]) hinj (by decide) rfl (Nat.le_of_ble_eq_true rfl) rfl (Nat.le_of_ble_eq_true rfl) (fun K hC => ?_)
  refine wd_aload_n hC dX5_trace_0 rfl rfl ?_
  refine wd_iconst (v := 0) hC dX5_trace_1 rfl ?_
  refine pf_X5_62 hC dX5_trace_2 ?_
  refine wd_ts (up_00 h0) ?_
  refine wd_aload_n hC dX5_trace_5 rfl rfl ?_
  refine gf_X5_193 hC dX5_trace_6 ?_
  exact wd_lret hC rfl dX5_trace_9 rfl rfl
set_option maxRecDepth 100000 in
set_option maxHeartbeats 4000000 in
theorem r_stubble_bad {V : wd_V} {ad : Nat → Nat} (hinj : wd_inj rS ad) (σ : wd_S) (h0 : σ.1 0 0 = 0) (x y : Int32) (hB : ¬ (qMan σ x ∧ pIn y 0 180)) : wd_C rS V ad 2 yX5_stubble (Cond.code yX5_stubble cX5_stubble 3 (some .int) :: wsL_law) σ [.ref (ad 0), .int x, .int y] (wd_eq (some (.int (-1))) (σ)) := by
  refine wd_intro (lv := [some (.ref (ad 0)), some (.int x), some (.int y)]) hinj (by decide) rfl (Nat.le_of_ble_eq_true rfl) rfl (Nat.le_of_ble_eq_true rfl) (fun K hC => ?_)
  refine wd_aload_n hC dX5_stubble_0 rfl rfl ?_
  refine wd_iconst (v := 0) hC dX5_stubble_1 rfl ?_
  refine pf_X5_62 hC dX5_stubble_2 ?_
  refine wd_ts (up_00 h0) ?_
  refine wd_aload_n hC dX5_stubble_5 rfl rfl ?_
  refine wd_iload_n hC dX5_stubble_6 rfl rfl ?_
  refine cv5i hC cw_X5_134 (r_isMan hinj _ _) dX5_stubble_7 (by first | decide | omega) (by decide) rfl rfl (Nat.le_of_ble_eq_true rfl) ?_
  refine wd_if_eq (tgt := 24) hC dX5_stubble_10 (by decide) (fun c_10 => ?_) (fun c_10 => ?_)
  · replace c_10 := bI_0.mp c_10
    refine wd_iconst (v := -1) hC dX5_stubble_24 rfl ?_
    exact wd_iret hC rfl dX5_stubble_25 rfl rfl
  · replace c_10 := bI_1.mp c_10
    refine wd_iload_n hC dX5_stubble_13 rfl rfl ?_
    refine wd_iconst (v := 0) hC dX5_stubble_14 rfl ?_
    refine wd_sipush (v := 180) hC dX5_stubble_15 rfl ?_
    refine cvsi hC cw_X5_66 (r_in hinj _ _ _ _) dX5_stubble_18 (by first | decide | omega) (by decide) rfl rfl (Nat.le_of_ble_eq_true rfl) ?_
    refine wd_if_ne (tgt := 26) hC dX5_stubble_21 (by decide) (fun c_21 => ?_) (fun c_21 => ?_)
    · replace c_21 := bI_1.mp c_21
      exact absurd ⟨c_10, c_21⟩ hB
    · replace c_21 := bI_0.mp c_21
      refine wd_iconst (v := -1) hC dX5_stubble_24 rfl ?_
      exact wd_iret hC rfl dX5_stubble_25 rfl rfl
set_option maxRecDepth 100000 in
set_option maxHeartbeats 4000000 in
theorem r_stubble_full {V : wd_V} {ad : Nat → Nat} (hinj : wd_inj rS ad) (σ : wd_S) (h0 : σ.1 0 0 = 0) (x y : Int32) (hq : qMan σ x) (hp : pIn y 0 180) (hF : σ.1 0 24 = 5) : wd_C rS V ad 2 yX5_stubble (Cond.code yX5_stubble cX5_stubble 3 (some .int) :: wsL_law) σ [.ref (ad 0), .int x, .int y] (wd_eq (some (.int (-3))) (σ)) := by
  refine wd_intro (lv := [some (.ref (ad 0)), some (.int x), some (.int y)]) hinj (by decide) rfl (Nat.le_of_ble_eq_true rfl) rfl (Nat.le_of_ble_eq_true rfl) (fun K hC => ?_)
  refine wd_aload_n hC dX5_stubble_0 rfl rfl ?_
  refine wd_iconst (v := 0) hC dX5_stubble_1 rfl ?_
  refine pf_X5_62 hC dX5_stubble_2 ?_
  refine wd_ts (up_00 h0) ?_
  refine wd_aload_n hC dX5_stubble_5 rfl rfl ?_
  refine wd_iload_n hC dX5_stubble_6 rfl rfl ?_
  refine cv5i hC cw_X5_134 (r_isMan hinj _ _) dX5_stubble_7 (by first | decide | omega) (by decide) rfl rfl (Nat.le_of_ble_eq_true rfl) ?_
  refine wd_if_eq (tgt := 24) hC dX5_stubble_10 (by decide) (fun c_10 => absurd c_10 (bIm hq)) (fun c_10 => ?_)
  refine wd_iload_n hC dX5_stubble_13 rfl rfl ?_
  refine wd_iconst (v := 0) hC dX5_stubble_14 rfl ?_
  refine wd_sipush (v := 180) hC dX5_stubble_15 rfl ?_
  refine cvsi hC cw_X5_66 (r_in hinj _ _ _ _) dX5_stubble_18 (by first | decide | omega) (by decide) rfl rfl (Nat.le_of_ble_eq_true rfl) ?_
  refine wd_if_ne (tgt := 26) hC dX5_stubble_21 (by decide) (fun c_21 => ?_) (fun c_21 => absurd c_21 (bIm hp))
  refine wd_aload_n hC dX5_stubble_26 rfl rfl ?_
  refine gf_X5_114 hC dX5_stubble_27 ?_
  refine wd_iconst (v := 5) hC dX5_stubble_30 rfl ?_
  refine wd_icmp_ne (tgt := 37) hC dX5_stubble_31 (by decide) (fun c_31 => absurd hF c_31) (fun c_31 => ?_)
  refine wd_bipush (v := -3) hC dX5_stubble_34 rfl ?_
  exact wd_iret hC rfl dX5_stubble_36 rfl rfl
set_option maxRecDepth 100000 in
set_option maxHeartbeats 4000000 in
theorem r_stubble {V : wd_V} {ad : Nat → Nat} (hinj : wd_inj rS ad) (σ : wd_S) (h0 : σ.1 0 0 = 0) (x y : Int32) (hq : qMan σ x) (hp : pIn y 0 180) (n : Nat) (hn : σ.1 0 24 = nI n) (hn2 : n < 5) : wd_C rS V ad 2 yX5_stubble (Cond.code yX5_stubble cX5_stubble 3 (some .int) :: wsL_law) σ [.ref (ad 0), .int x, .int y] (wd_eq (some (.int (σ.1 0 24 + 1))) (wd_up (wd_up (wd_up σ 14 n x) 15 n y) 0 24 (σ.1 0 24 + 1))) := by
  refine wd_intro (lv := [some (.ref (ad 0)), some (.int x), some (.int y)]) hinj (by decide) rfl (Nat.le_of_ble_eq_true rfl) rfl (Nat.le_of_ble_eq_true rfl) (fun K hC => ?_)
  refine wd_aload_n hC dX5_stubble_0 rfl rfl ?_
  refine wd_iconst (v := 0) hC dX5_stubble_1 rfl ?_
  refine pf_X5_62 hC dX5_stubble_2 ?_
  refine wd_ts (up_00 h0) ?_
  refine wd_aload_n hC dX5_stubble_5 rfl rfl ?_
  refine wd_iload_n hC dX5_stubble_6 rfl rfl ?_
  refine cv5i hC cw_X5_134 (r_isMan hinj _ _) dX5_stubble_7 (by first | decide | omega) (by decide) rfl rfl (Nat.le_of_ble_eq_true rfl) ?_
  refine wd_if_eq (tgt := 24) hC dX5_stubble_10 (by decide) (fun c_10 => absurd c_10 (bIm hq)) (fun c_10 => ?_)
  refine wd_iload_n hC dX5_stubble_13 rfl rfl ?_
  refine wd_iconst (v := 0) hC dX5_stubble_14 rfl ?_
  refine wd_sipush (v := 180) hC dX5_stubble_15 rfl ?_
  refine cvsi hC cw_X5_66 (r_in hinj _ _ _ _) dX5_stubble_18 (by first | decide | omega) (by decide) rfl rfl (Nat.le_of_ble_eq_true rfl) ?_
  refine wd_if_ne (tgt := 26) hC dX5_stubble_21 (by decide) (fun c_21 => ?_) (fun c_21 => absurd c_21 (bIm hp))
  refine wd_aload_n hC dX5_stubble_26 rfl rfl ?_
  refine gf_X5_114 hC dX5_stubble_27 ?_
  refine wd_iconst (v := 5) hC dX5_stubble_30 rfl ?_
  refine wd_icmp_ne (tgt := 37) hC dX5_stubble_31 (by decide) (fun c_31 => ?_) (fun c_31 => absurd c_31 (by rw [hn]; exact fun h => absurd ((nI_eq (b := 5) (by omega) (by decide)).mp h) (by omega)))
  refine wd_aload_n hC dX5_stubble_37 rfl rfl ?_
  refine gf_X5_50 hC dX5_stubble_38 ?_
  refine wd_aload_n hC dX5_stubble_41 rfl rfl ?_
  refine gf_X5_114 hC dX5_stubble_42 ?_
  refine wd_iload_n hC dX5_stubble_45 rfl rfl ?_
  refine rs_stubbleOf hC dX5_stubble_46 n hn hn2 ?_
  refine wd_aload_n hC dX5_stubble_47 rfl rfl ?_
  refine gf_X5_53 hC dX5_stubble_48 ?_
  refine wd_aload_n hC dX5_stubble_51 rfl rfl ?_
  refine gf_X5_114 hC dX5_stubble_52 ?_
  refine wd_iload_n hC dX5_stubble_55 rfl rfl ?_
  refine rs_stubbleMany hC dX5_stubble_56 n hn hn2 ?_
  refine wd_aload_n hC dX5_stubble_57 rfl rfl ?_
  refine wd_dup hC dX5_stubble_58 rfl ?_
  refine gf_X5_114 hC dX5_stubble_59 ?_
  refine wd_iconst (v := 1) hC dX5_stubble_62 rfl ?_
  refine wd_iadd hC dX5_stubble_63 ?_
  refine pf_X5_114 hC dX5_stubble_64 ?_
  refine wd_aload_n hC dX5_stubble_67 rfl rfl ?_
  refine gf_X5_114 hC dX5_stubble_68 ?_
  exact wd_iret hC rfl dX5_stubble_71 rfl rfl
set_option maxRecDepth 100000 in
set_option maxHeartbeats 4000000 in
theorem r_forget {V : wd_V} {ad : Nat → Nat} (hinj : wd_inj rS ad) (σ : wd_S) (h0 : σ.1 0 0 = 0)  : wd_C rS V ad 0 yX5_forget (Cond.code yX5_forget cX5_forget 2 (some .int) :: wsL_law) σ [.ref (ad 0)] (wd_eq (some (.int (σ.1 0 24))) (wd_up σ 0 24 0)) := by
  refine wd_intro (lv := [some (.ref (ad 0)), none]) hinj (by decide) rfl (Nat.le_of_ble_eq_true rfl) rfl (Nat.le_of_ble_eq_true rfl) (fun K hC => ?_)
  refine wd_aload_n hC dX5_forget_0 rfl rfl ?_
  refine wd_iconst (v := 0) hC dX5_forget_1 rfl ?_
  refine pf_X5_62 hC dX5_forget_2 ?_
  refine wd_ts (up_00 h0) ?_
  refine wd_aload_n hC dX5_forget_5 rfl rfl ?_
  refine gf_X5_114 hC dX5_forget_6 ?_
  refine wd_istore_n_2_1 hC dX5_forget_9 ?_
  refine wd_aload_n hC dX5_forget_10 rfl rfl ?_
  refine wd_iconst (v := 0) hC dX5_forget_11 rfl ?_
  refine pf_X5_114 hC dX5_forget_12 ?_
  refine wd_iload_n hC dX5_forget_15 rfl rfl ?_
  exact wd_iret hC rfl dX5_forget_16 rfl rfl
theorem note_9 (σ : wd_S) (u : Nat) : (noteW σ u).1 9 = σ.1 9 := by
  unfold noteW
  by_cases h : u = 10
  · rw [if_pos h]
    funext b
    unfold noteA
    rw [wd_up_o (by omega), cpyW_o _ _ _ _ _ _ (by omega), wd_up_o (by omega), cpyW_o _ _ _ _ _ _ (by omega)]
  · rw [if_neg h]
    funext b
    unfold noteA
    rw [wd_up_o (by omega), cpyW_o _ _ _ _ _ _ (by omega)]
theorem note_lo (σ : wd_S) (u : Nat) {a : Nat} (ha : a ≠ 13) (h0 : a ≠ 0) : (noteW σ u).1 a = σ.1 a := by
  unfold noteW
  by_cases h : u = 10
  · rw [if_pos h]
    funext b
    unfold noteA
    rw [wd_up_o (by omega), cpyW_o _ _ _ _ _ _ (by omega), wd_up_o (by omega), cpyW_o _ _ _ _ _ _ (by omega)]
  · rw [if_neg h]
    funext b
    unfold noteA
    rw [wd_up_o (by omega), cpyW_o _ _ _ _ _ _ (by omega)]

set_option maxRecDepth 100000 in
set_option maxHeartbeats 4000000 in
theorem r_becomes {V : wd_V} {ad : Nat → Nat} (hinj : wd_inj rS ad) (σ : wd_S) (u : Nat) (hu : σ.1 0 21 = nI u) (hu2 : u ≤ 10) (x y : Int32) (i : Nat) (hx : x = nI i) (hi : i < 32) : wd_C rS V ad 1 yX5_becomes (Cond.code yX5_becomes cX5_becomes 4 (some .int) :: wsL_law) σ [.ref (ad 0), .int x, .int y] (wd_eq (some (.int (σ.1 9 i))) (wd_up (noteW σ u) 9 i y)) := by
  refine wd_intro (lv := [some (.ref (ad 0)), some (.int x), some (.int y), none]) hinj (by decide) rfl (Nat.le_of_ble_eq_true rfl) rfl (Nat.le_of_ble_eq_true rfl) (fun K hC => ?_)
  refine wd_aload_n hC dX5_becomes_0 rfl rfl ?_
  refine cv5v hC cw_X5_155 (r_notes hinj _ u hu hu2) dX5_becomes_1 (by first | decide | omega) (by decide) rfl rfl (Nat.le_of_ble_eq_true rfl) ?_
  refine wd_aload_n hC dX5_becomes_4 rfl rfl ?_
  refine gf_X5_34 hC dX5_becomes_5 ?_
  refine wd_iload_n hC dX5_becomes_8 rfl rfl ?_
  refine rl_s hC dX5_becomes_9 (i) hx (by omega) ?_
  refine wd_istore_n_4_3 hC dX5_becomes_10 ?_
  refine wd_aload_n hC dX5_becomes_11 rfl rfl ?_
  refine gf_X5_34 hC dX5_becomes_12 ?_
  refine wd_iload_n hC dX5_becomes_15 rfl rfl ?_
  refine wd_iload_n hC dX5_becomes_16 rfl rfl ?_
  refine rs_s hC dX5_becomes_17 (i) hx (by omega) ?_
  refine wd_iload_n hC dX5_becomes_18 rfl rfl ?_
  exact wd_iret hC rfl dX5_becomes_19 (by rw [note_9]) rfl
set_option maxRecDepth 100000 in
set_option maxHeartbeats 4000000 in
theorem r_sows_bad {V : wd_V} {ad : Nat → Nat} (hinj : wd_inj rS ad) (σ : wd_S) (h0 : σ.1 0 0 = 0) (x y : Int32) (hB : ¬ (qMan σ x ∧ qCrop σ y)) : wd_C rS V ad 2 yX5_sows (Cond.code yX5_sows cX5_sows 3 (some .int) :: wsL_law) σ [.ref (ad 0), .int x, .int y] (wd_eq (some (.int (-1))) (σ)) := by
  refine wd_intro (lv := [some (.ref (ad 0)), some (.int x), some (.int y)]) hinj (by decide) rfl (Nat.le_of_ble_eq_true rfl) rfl (Nat.le_of_ble_eq_true rfl) (fun K hC => ?_)
  refine wd_aload_n hC dX5_sows_0 rfl rfl ?_
  refine wd_iconst (v := 0) hC dX5_sows_1 rfl ?_
  refine pf_X5_62 hC dX5_sows_2 ?_
  refine wd_ts (up_00 h0) ?_
  refine wd_aload_n hC dX5_sows_5 rfl rfl ?_
  refine wd_iload_n hC dX5_sows_6 rfl rfl ?_
  refine cv5i hC cw_X5_134 (r_isMan hinj _ _) dX5_sows_7 (by first | decide | omega) (by decide) rfl rfl (Nat.le_of_ble_eq_true rfl) ?_
  refine wd_if_eq (tgt := 32) hC dX5_sows_10 (by decide) (fun c_10 => ?_) (fun c_10 => ?_)
  · replace c_10 := bI_0.mp c_10
    refine wd_iconst (v := -1) hC dX5_sows_32 rfl ?_
    exact wd_iret hC rfl dX5_sows_33 rfl rfl
  · replace c_10 := bI_1.mp c_10
    refine wd_aload_n hC dX5_sows_13 rfl rfl ?_
    refine wd_iload_n hC dX5_sows_14 rfl rfl ?_
    refine cv5i hC cw_X5_138 (r_isCrop hinj _ _) dX5_sows_15 (by first | decide | omega) (by decide) rfl rfl (Nat.le_of_ble_eq_true rfl) ?_
    refine wd_if_eq (tgt := 32) hC dX5_sows_18 (by decide) (fun c_18 => ?_) (fun c_18 => ?_)
    · replace c_18 := bI_0.mp c_18
      refine wd_iconst (v := -1) hC dX5_sows_32 rfl ?_
      exact wd_iret hC rfl dX5_sows_33 rfl rfl
    · replace c_18 := bI_1.mp c_18
      exact absurd ⟨c_10, c_18⟩ hB
set_option maxRecDepth 100000 in
set_option maxHeartbeats 4000000 in
theorem r_sows {V : wd_V} {ad : Nat → Nat} (hinj : wd_inj rS ad) (σ : wd_S) (h0 : σ.1 0 0 = 0) (nm nc : Nat) (hnm : σ.1 2 1 = nI nm) (hnc : σ.1 2 0 = nI nc) (h6 : nm ≤ 6) (h3 : nc ≤ 3) (u : Nat) (hu : σ.1 0 21 = nI u) (hu2 : u ≤ 10) (x : Int32) (m : Nat) (hx : x = nI m) (hm : m < nm) (y : Int32) (c : Nat) (hy : y = nI c) (hc : c < nc)  : wd_C rS V ad 2 yX5_sows (Cond.code yX5_sows cX5_sows 3 (some .int) :: wsL_law) σ [.ref (ad 0), .int x, .int y] (wd_eq (some (.int (σ.1 9 m))) (wd_up (noteW σ u) 9 m y)) := by
  refine wd_intro (lv := [some (.ref (ad 0)), some (.int x), some (.int y)]) hinj (by decide) rfl (Nat.le_of_ble_eq_true rfl) rfl (Nat.le_of_ble_eq_true rfl) (fun K hC => ?_)
  refine wd_aload_n hC dX5_sows_0 rfl rfl ?_
  refine wd_iconst (v := 0) hC dX5_sows_1 rfl ?_
  refine pf_X5_62 hC dX5_sows_2 ?_
  refine wd_ts (up_00 h0) ?_
  refine wd_aload_n hC dX5_sows_5 rfl rfl ?_
  refine wd_iload_n hC dX5_sows_6 rfl rfl ?_
  refine cv5i hC cw_X5_134 (r_isMan hinj _ _) dX5_sows_7 (by first | decide | omega) (by decide) rfl rfl (Nat.le_of_ble_eq_true rfl) ?_
  refine wd_if_eq (tgt := 32) hC dX5_sows_10 (by decide) (fun c_10 => absurd c_10 (bIm (qm_of hnm hx hm h6))) (fun c_10 => ?_)
  refine wd_aload_n hC dX5_sows_13 rfl rfl ?_
  refine wd_iload_n hC dX5_sows_14 rfl rfl ?_
  refine cv5i hC cw_X5_138 (r_isCrop hinj _ _) dX5_sows_15 (by first | decide | omega) (by decide) rfl rfl (Nat.le_of_ble_eq_true rfl) ?_
  refine wd_if_eq (tgt := 32) hC dX5_sows_18 (by decide) (fun c_18 => absurd c_18 (bIm (qc_of hnc hy hc h3))) (fun c_18 => ?_)
  refine wd_aload_n hC dX5_sows_21 rfl rfl ?_
  refine wd_iconst (v := 0) hC dX5_sows_22 rfl ?_
  refine wd_iload_n hC dX5_sows_23 rfl rfl ?_
  refine wd_iadd hC dX5_sows_24 ?_
  refine wd_iload_n hC dX5_sows_25 rfl rfl ?_
  refine cv5i hC cw_X5_158 (r_becomes hinj _ u hu hu2 _ _ _ (add0 hx) (by omega)) dX5_sows_26 (by first | decide | omega) (by decide) rfl rfl (Nat.le_of_ble_eq_true rfl) ?_
  refine wd_goto (tgt := 33) hC dX5_sows_29 (by decide) ?_
  exact wd_iret hC rfl dX5_sows_33 rfl rfl
set_option maxRecDepth 100000 in
set_option maxHeartbeats 4000000 in
theorem r_rains_bad {V : wd_V} {ad : Nat → Nat} (hinj : wd_inj rS ad) (σ : wd_S) (h0 : σ.1 0 0 = 0) (x : Int32) (hB : ¬ pIn x 0 1) : wd_C rS V ad 2 yX5_rains (Cond.code yX5_rains cX5_rains 2 (some .int) :: wsL_law) σ [.ref (ad 0), .int x] (wd_eq (some (.int (-1))) (σ)) := by
  refine wd_intro (lv := [some (.ref (ad 0)), some (.int x)]) hinj (by decide) rfl (Nat.le_of_ble_eq_true rfl) rfl (Nat.le_of_ble_eq_true rfl) (fun K hC => ?_)
  refine wd_aload_n hC dX5_rains_0 rfl rfl ?_
  refine wd_iconst (v := 0) hC dX5_rains_1 rfl ?_
  refine pf_X5_62 hC dX5_rains_2 ?_
  refine wd_ts (up_00 h0) ?_
  refine wd_iload_n hC dX5_rains_5 rfl rfl ?_
  refine wd_iconst (v := 0) hC dX5_rains_6 rfl ?_
  refine wd_iconst (v := 1) hC dX5_rains_7 rfl ?_
  refine cvsi hC cw_X5_66 (r_in hinj _ _ _ _) dX5_rains_8 (by first | decide | omega) (by decide) rfl rfl (Nat.le_of_ble_eq_true rfl) ?_
  refine wd_if_eq (tgt := 24) hC dX5_rains_11 (by decide) (fun c_11 => ?_) (fun c_11 => ?_)
  · replace c_11 := bI_0.mp c_11
    refine wd_iconst (v := -1) hC dX5_rains_24 rfl ?_
    exact wd_iret hC rfl dX5_rains_25 rfl rfl
  · replace c_11 := bI_1.mp c_11
    exact absurd c_11 hB
set_option maxRecDepth 100000 in
set_option maxHeartbeats 4000000 in
theorem r_rains {V : wd_V} {ad : Nat → Nat} (hinj : wd_inj rS ad) (σ : wd_S) (h0 : σ.1 0 0 = 0) (u : Nat) (hu : σ.1 0 21 = nI u) (hu2 : u ≤ 10) (x : Int32) (hp : pIn x 0 1) : wd_C rS V ad 2 yX5_rains (Cond.code yX5_rains cX5_rains 2 (some .int) :: wsL_law) σ [.ref (ad 0), .int x] (wd_eq (some (.int (σ.1 9 30))) (wd_up (noteW σ u) 9 30 x)) := by
  refine wd_intro (lv := [some (.ref (ad 0)), some (.int x)]) hinj (by decide) rfl (Nat.le_of_ble_eq_true rfl) rfl (Nat.le_of_ble_eq_true rfl) (fun K hC => ?_)
  refine wd_aload_n hC dX5_rains_0 rfl rfl ?_
  refine wd_iconst (v := 0) hC dX5_rains_1 rfl ?_
  refine pf_X5_62 hC dX5_rains_2 ?_
  refine wd_ts (up_00 h0) ?_
  refine wd_iload_n hC dX5_rains_5 rfl rfl ?_
  refine wd_iconst (v := 0) hC dX5_rains_6 rfl ?_
  refine wd_iconst (v := 1) hC dX5_rains_7 rfl ?_
  refine cvsi hC cw_X5_66 (r_in hinj _ _ _ _) dX5_rains_8 (by first | decide | omega) (by decide) rfl rfl (Nat.le_of_ble_eq_true rfl) ?_
  refine wd_if_eq (tgt := 24) hC dX5_rains_11 (by decide) (fun c_11 => absurd c_11 (bIm hp)) (fun c_11 => ?_)
  refine wd_aload_n hC dX5_rains_14 rfl rfl ?_
  refine wd_bipush (v := 30) hC dX5_rains_15 rfl ?_
  refine wd_iload_n hC dX5_rains_17 rfl rfl ?_
  refine cv5i hC cw_X5_158 (r_becomes hinj _ u hu hu2 _ _ _ (show (30 : Int32) = nI 30 from rfl) (by omega)) dX5_rains_18 (by first | decide | omega) (by decide) rfl rfl (Nat.le_of_ble_eq_true rfl) ?_
  refine wd_goto (tgt := 25) hC dX5_rains_21 (by decide) ?_
  exact wd_iret hC rfl dX5_rains_25 rfl rfl
set_option maxRecDepth 100000 in
set_option maxHeartbeats 4000000 in
theorem r_ropes_bad {V : wd_V} {ad : Nat → Nat} (hinj : wd_inj rS ad) (σ : wd_S) (h0 : σ.1 0 0 = 0) (x y : Int32) (hB : ¬ (qMan σ x ∧ pIn y 0 3)) : wd_C rS V ad 2 yX5_ropes (Cond.code yX5_ropes cX5_ropes 3 (some .int) :: wsL_law) σ [.ref (ad 0), .int x, .int y] (wd_eq (some (.int (-1))) (σ)) := by
  refine wd_intro (lv := [some (.ref (ad 0)), some (.int x), some (.int y)]) hinj (by decide) rfl (Nat.le_of_ble_eq_true rfl) rfl (Nat.le_of_ble_eq_true rfl) (fun K hC => ?_)
  refine wd_aload_n hC dX5_ropes_0 rfl rfl ?_
  refine wd_iconst (v := 0) hC dX5_ropes_1 rfl ?_
  refine pf_X5_62 hC dX5_ropes_2 ?_
  refine wd_ts (up_00 h0) ?_
  refine wd_aload_n hC dX5_ropes_5 rfl rfl ?_
  refine wd_iload_n hC dX5_ropes_6 rfl rfl ?_
  refine cv5i hC cw_X5_134 (r_isMan hinj _ _) dX5_ropes_7 (by first | decide | omega) (by decide) rfl rfl (Nat.le_of_ble_eq_true rfl) ?_
  refine wd_if_eq (tgt := 34) hC dX5_ropes_10 (by decide) (fun c_10 => ?_) (fun c_10 => ?_)
  · replace c_10 := bI_0.mp c_10
    refine wd_iconst (v := -1) hC dX5_ropes_34 rfl ?_
    exact wd_iret hC rfl dX5_ropes_35 rfl rfl
  · replace c_10 := bI_1.mp c_10
    refine wd_iload_n hC dX5_ropes_13 rfl rfl ?_
    refine wd_iconst (v := 0) hC dX5_ropes_14 rfl ?_
    refine wd_iconst (v := 3) hC dX5_ropes_15 rfl ?_
    refine cvsi hC cw_X5_66 (r_in hinj _ _ _ _) dX5_ropes_16 (by first | decide | omega) (by decide) rfl rfl (Nat.le_of_ble_eq_true rfl) ?_
    refine wd_if_eq (tgt := 34) hC dX5_ropes_19 (by decide) (fun c_19 => ?_) (fun c_19 => ?_)
    · replace c_19 := bI_0.mp c_19
      refine wd_iconst (v := -1) hC dX5_ropes_34 rfl ?_
      exact wd_iret hC rfl dX5_ropes_35 rfl rfl
    · replace c_19 := bI_1.mp c_19
      exact absurd ⟨c_10, c_19⟩ hB
set_option maxRecDepth 100000 in
set_option maxHeartbeats 4000000 in
theorem r_ropes {V : wd_V} {ad : Nat → Nat} (hinj : wd_inj rS ad) (σ : wd_S) (h0 : σ.1 0 0 = 0) (nm nc : Nat) (hnm : σ.1 2 1 = nI nm) (hnc : σ.1 2 0 = nI nc) (h6 : nm ≤ 6) (h3 : nc ≤ 3) (u : Nat) (hu : σ.1 0 21 = nI u) (hu2 : u ≤ 10) (x : Int32) (m : Nat) (hx : x = nI m) (hm : m < nm) (y : Int32) (hp : pIn y 0 3) : wd_C rS V ad 2 yX5_ropes (Cond.code yX5_ropes cX5_ropes 3 (some .int) :: wsL_law) σ [.ref (ad 0), .int x, .int y] (wd_eq (some (.int (σ.1 9 (12 + m)))) (wd_up (noteW σ u) 9 (12 + m) y)) := by
  refine wd_intro (lv := [some (.ref (ad 0)), some (.int x), some (.int y)]) hinj (by decide) rfl (Nat.le_of_ble_eq_true rfl) rfl (Nat.le_of_ble_eq_true rfl) (fun K hC => ?_)
  refine wd_aload_n hC dX5_ropes_0 rfl rfl ?_
  refine wd_iconst (v := 0) hC dX5_ropes_1 rfl ?_
  refine pf_X5_62 hC dX5_ropes_2 ?_
  refine wd_ts (up_00 h0) ?_
  refine wd_aload_n hC dX5_ropes_5 rfl rfl ?_
  refine wd_iload_n hC dX5_ropes_6 rfl rfl ?_
  refine cv5i hC cw_X5_134 (r_isMan hinj _ _) dX5_ropes_7 (by first | decide | omega) (by decide) rfl rfl (Nat.le_of_ble_eq_true rfl) ?_
  refine wd_if_eq (tgt := 34) hC dX5_ropes_10 (by decide) (fun c_10 => absurd c_10 (bIm (qm_of hnm hx hm h6))) (fun c_10 => ?_)
  refine wd_iload_n hC dX5_ropes_13 rfl rfl ?_
  refine wd_iconst (v := 0) hC dX5_ropes_14 rfl ?_
  refine wd_iconst (v := 3) hC dX5_ropes_15 rfl ?_
  refine cvsi hC cw_X5_66 (r_in hinj _ _ _ _) dX5_ropes_16 (by first | decide | omega) (by decide) rfl rfl (Nat.le_of_ble_eq_true rfl) ?_
  refine wd_if_eq (tgt := 34) hC dX5_ropes_19 (by decide) (fun c_19 => absurd c_19 (bIm hp)) (fun c_19 => ?_)
  refine wd_aload_n hC dX5_ropes_22 rfl rfl ?_
  refine wd_bipush (v := 12) hC dX5_ropes_23 rfl ?_
  refine wd_iload_n hC dX5_ropes_25 rfl rfl ?_
  refine wd_iadd hC dX5_ropes_26 ?_
  refine wd_iload_n hC dX5_ropes_27 rfl rfl ?_
  refine cv5i hC cw_X5_158 (r_becomes hinj _ u hu hu2 _ _ _ (addI hx 12) (by omega)) dX5_ropes_28 (by first | decide | omega) (by decide) rfl rfl (Nat.le_of_ble_eq_true rfl) ?_
  refine wd_goto (tgt := 35) hC dX5_ropes_31 (by decide) ?_
  exact wd_iret hC rfl dX5_ropes_35 rfl rfl
set_option maxRecDepth 100000 in
set_option maxHeartbeats 4000000 in
theorem r_mules_bad {V : wd_V} {ad : Nat → Nat} (hinj : wd_inj rS ad) (σ : wd_S) (h0 : σ.1 0 0 = 0) (x y : Int32) (hB : ¬ (qMan σ x ∧ pIn y 0 1)) : wd_C rS V ad 2 yX5_mules (Cond.code yX5_mules cX5_mules 3 (some .int) :: wsL_law) σ [.ref (ad 0), .int x, .int y] (wd_eq (some (.int (-1))) (σ)) := by
  refine wd_intro (lv := [some (.ref (ad 0)), some (.int x), some (.int y)]) hinj (by decide) rfl (Nat.le_of_ble_eq_true rfl) rfl (Nat.le_of_ble_eq_true rfl) (fun K hC => ?_)
  refine wd_aload_n hC dX5_mules_0 rfl rfl ?_
  refine wd_iconst (v := 0) hC dX5_mules_1 rfl ?_
  refine pf_X5_62 hC dX5_mules_2 ?_
  refine wd_ts (up_00 h0) ?_
  refine wd_aload_n hC dX5_mules_5 rfl rfl ?_
  refine wd_iload_n hC dX5_mules_6 rfl rfl ?_
  refine cv5i hC cw_X5_134 (r_isMan hinj _ _) dX5_mules_7 (by first | decide | omega) (by decide) rfl rfl (Nat.le_of_ble_eq_true rfl) ?_
  refine wd_if_eq (tgt := 34) hC dX5_mules_10 (by decide) (fun c_10 => ?_) (fun c_10 => ?_)
  · replace c_10 := bI_0.mp c_10
    refine wd_iconst (v := -1) hC dX5_mules_34 rfl ?_
    exact wd_iret hC rfl dX5_mules_35 rfl rfl
  · replace c_10 := bI_1.mp c_10
    refine wd_iload_n hC dX5_mules_13 rfl rfl ?_
    refine wd_iconst (v := 0) hC dX5_mules_14 rfl ?_
    refine wd_iconst (v := 1) hC dX5_mules_15 rfl ?_
    refine cvsi hC cw_X5_66 (r_in hinj _ _ _ _) dX5_mules_16 (by first | decide | omega) (by decide) rfl rfl (Nat.le_of_ble_eq_true rfl) ?_
    refine wd_if_eq (tgt := 34) hC dX5_mules_19 (by decide) (fun c_19 => ?_) (fun c_19 => ?_)
    · replace c_19 := bI_0.mp c_19
      refine wd_iconst (v := -1) hC dX5_mules_34 rfl ?_
      exact wd_iret hC rfl dX5_mules_35 rfl rfl
    · replace c_19 := bI_1.mp c_19
      exact absurd ⟨c_10, c_19⟩ hB
set_option maxRecDepth 100000 in
set_option maxHeartbeats 4000000 in
theorem r_mules {V : wd_V} {ad : Nat → Nat} (hinj : wd_inj rS ad) (σ : wd_S) (h0 : σ.1 0 0 = 0) (nm nc : Nat) (hnm : σ.1 2 1 = nI nm) (hnc : σ.1 2 0 = nI nc) (h6 : nm ≤ 6) (h3 : nc ≤ 3) (u : Nat) (hu : σ.1 0 21 = nI u) (hu2 : u ≤ 10) (x : Int32) (m : Nat) (hx : x = nI m) (hm : m < nm) (y : Int32) (hp : pIn y 0 1) : wd_C rS V ad 2 yX5_mules (Cond.code yX5_mules cX5_mules 3 (some .int) :: wsL_law) σ [.ref (ad 0), .int x, .int y] (wd_eq (some (.int (σ.1 9 (18 + m)))) (wd_up (noteW σ u) 9 (18 + m) y)) := by
  refine wd_intro (lv := [some (.ref (ad 0)), some (.int x), some (.int y)]) hinj (by decide) rfl (Nat.le_of_ble_eq_true rfl) rfl (Nat.le_of_ble_eq_true rfl) (fun K hC => ?_)
  refine wd_aload_n hC dX5_mules_0 rfl rfl ?_
  refine wd_iconst (v := 0) hC dX5_mules_1 rfl ?_
  refine pf_X5_62 hC dX5_mules_2 ?_
  refine wd_ts (up_00 h0) ?_
  refine wd_aload_n hC dX5_mules_5 rfl rfl ?_
  refine wd_iload_n hC dX5_mules_6 rfl rfl ?_
  refine cv5i hC cw_X5_134 (r_isMan hinj _ _) dX5_mules_7 (by first | decide | omega) (by decide) rfl rfl (Nat.le_of_ble_eq_true rfl) ?_
  refine wd_if_eq (tgt := 34) hC dX5_mules_10 (by decide) (fun c_10 => absurd c_10 (bIm (qm_of hnm hx hm h6))) (fun c_10 => ?_)
  refine wd_iload_n hC dX5_mules_13 rfl rfl ?_
  refine wd_iconst (v := 0) hC dX5_mules_14 rfl ?_
  refine wd_iconst (v := 1) hC dX5_mules_15 rfl ?_
  refine cvsi hC cw_X5_66 (r_in hinj _ _ _ _) dX5_mules_16 (by first | decide | omega) (by decide) rfl rfl (Nat.le_of_ble_eq_true rfl) ?_
  refine wd_if_eq (tgt := 34) hC dX5_mules_19 (by decide) (fun c_19 => absurd c_19 (bIm hp)) (fun c_19 => ?_)
  refine wd_aload_n hC dX5_mules_22 rfl rfl ?_
  refine wd_bipush (v := 18) hC dX5_mules_23 rfl ?_
  refine wd_iload_n hC dX5_mules_25 rfl rfl ?_
  refine wd_iadd hC dX5_mules_26 ?_
  refine wd_iload_n hC dX5_mules_27 rfl rfl ?_
  refine cv5i hC cw_X5_158 (r_becomes hinj _ u hu hu2 _ _ _ (addI hx 18) (by omega)) dX5_mules_28 (by first | decide | omega) (by decide) rfl rfl (Nat.le_of_ble_eq_true rfl) ?_
  refine wd_goto (tgt := 35) hC dX5_mules_31 (by decide) ?_
  exact wd_iret hC rfl dX5_mules_35 rfl rfl
def putR (r : Nat → Int32) (m : Nat) (x o : Int32) : Nat → Int32 := if o ≤ 0 then upd r (6 + m) o else upd (upd r (6 + m) o) (6 + (o - 1).toNatClampNeg) (x + 1)
theorem pos_of {o : Int32} {k : Nat} (h : ¬ o ≤ 0) (e : o = nI k) : 1 ≤ k := by
  rcases Nat.lt_or_ge k 1 with h2 | h2
  · rw [e, show k = 0 by omega] at h
    exact absurd (by decide) h
  · exact h2
theorem ixo_of {o : Int32} {k : Nat} (h : ¬ o ≤ 0) (e : o = nI k) (hk : k ≤ 6) : 6 + o - 1 = nI (6 + (o - 1).toNatClampNeg) ∧ (o - 1).toNatClampNeg < 6 := by
  have h1 := pos_of h e
  subst e
  rw [show (6 : Int32) + nI k = nI (6 + k) from nI_add 6 k, sub1_of (by omega), sub1_of (by omega), nI_clamp (by omega)]
  exact ⟨by rw [show 6 + k - 1 = 6 + (k - 1) by omega], by omega⟩

set_option maxRecDepth 100000 in
set_option maxHeartbeats 4000000 in
theorem r_puts {V : wd_V} {ad : Nat → Nat} (hinj : wd_inj rS ad) (σ : wd_S) (r : Nat → Int32) (x z : Int32) (m k : Nat) (hx : x = nI m) (hm : m < 6) (hz : z = nI k) (hk : k ≤ 6) : wd_C rS V ad 0 yX5_puts (Cond.code yX5_puts cX5_puts 4 none :: wsL_law) (setR σ 9 r) [.ref (ad 0), .ref (ad 9), .int x, .int z] (wd_eq none (setR σ 9 (putR r m x z))) := by
  refine wd_intro (lv := [some (.ref (ad 0)), some (.ref (ad 9)), some (.int x), some (.int z)]) hinj (by decide) rfl (Nat.le_of_ble_eq_true rfl) rfl (Nat.le_of_ble_eq_true rfl) (fun K hC => ?_)
  have hq : 9 = 9 ∨ 9 = 10 := Or.inl rfl
  refine wd_aload_n hC dX5_puts_0 rfl rfl ?_
  refine wd_bipush (v := 6) hC dX5_puts_1 rfl ?_
  refine wd_iload_n hC dX5_puts_3 rfl rfl ?_
  refine wd_iadd hC dX5_puts_4 ?_
  refine wd_iload_n hC dX5_puts_5 rfl rfl ?_
  refine rs_r hC dX5_puts_6 (6 + m) (addI hx 6) (by omega) ?_
  refine wd_ts (setR_up _ _ _ _ _) ?_
  refine wd_iload_n hC dX5_puts_7 rfl rfl ?_
  refine wd_if_le (tgt := 22) hC dX5_puts_8 (by decide) (fun c_8 => ?_) (fun c_8 => ?_)
  · exact wd_vret hC rfl dX5_puts_22 (by rw [putR]; first | rw [if_pos c_8] | rw [if_neg c_8])
  · refine wd_aload_n hC dX5_puts_11 rfl rfl ?_
    refine wd_bipush (v := 6) hC dX5_puts_12 rfl ?_
    refine wd_iload_n hC dX5_puts_14 rfl rfl ?_
    refine wd_iadd hC dX5_puts_15 ?_
    refine wd_iconst (v := 1) hC dX5_puts_16 rfl ?_
    refine wd_isub hC dX5_puts_17 ?_
    refine wd_iload_n hC dX5_puts_18 rfl rfl ?_
    refine wd_iconst (v := 1) hC dX5_puts_19 rfl ?_
    refine wd_iadd hC dX5_puts_20 ?_
    refine rs_r hC dX5_puts_21 (6 + (z - 1).toNatClampNeg) (ixo_of c_8 hz hk).1 (by have := (ixo_of c_8 hz hk).2; omega) ?_
    refine wd_ts (setR_up _ _ _ _ _) ?_
    exact wd_vret hC rfl dX5_puts_22 (by rw [putR]; first | rw [if_pos c_8] | rw [if_neg c_8])
set_option maxRecDepth 100000 in
set_option maxHeartbeats 4000000 in
theorem r_marries_bad {V : wd_V} {ad : Nat → Nat} (hinj : wd_inj rS ad) (σ : wd_S) (h0 : σ.1 0 0 = 0) (x y : Int32) (hB : ¬ (qMan σ x ∧ qMan σ y ∧ ¬ x = y)) : wd_C rS V ad 2 yX5_marries (Cond.code yX5_marries cX5_marries 5 (some .int) :: wsL_law) σ [.ref (ad 0), .int x, .int y] (wd_eq (some (.int (-1))) (σ)) := by
  refine wd_intro (lv := [some (.ref (ad 0)), some (.int x), some (.int y), none, none]) hinj (by decide) rfl (Nat.le_of_ble_eq_true rfl) rfl (Nat.le_of_ble_eq_true rfl) (fun K hC => ?_)
  refine wd_aload_n hC dX5_marries_0 rfl rfl ?_
  refine wd_iconst (v := 0) hC dX5_marries_1 rfl ?_
  refine pf_X5_62 hC dX5_marries_2 ?_
  refine wd_ts (up_00 h0) ?_
  refine wd_aload_n hC dX5_marries_5 rfl rfl ?_
  refine wd_iload_n hC dX5_marries_6 rfl rfl ?_
  refine cv5i hC cw_X5_134 (r_isMan hinj _ _) dX5_marries_7 (by first | decide | omega) (by decide) rfl rfl (Nat.le_of_ble_eq_true rfl) ?_
  refine wd_if_eq (tgt := 26) hC dX5_marries_10 (by decide) (fun c_10 => ?_) (fun c_10 => ?_)
  · replace c_10 := bI_0.mp c_10
    refine wd_iconst (v := -1) hC dX5_marries_26 rfl ?_
    exact wd_iret hC rfl dX5_marries_27 rfl rfl
  · replace c_10 := bI_1.mp c_10
    refine wd_aload_n hC dX5_marries_13 rfl rfl ?_
    refine wd_iload_n hC dX5_marries_14 rfl rfl ?_
    refine cv5i hC cw_X5_134 (r_isMan hinj _ _) dX5_marries_15 (by first | decide | omega) (by decide) rfl rfl (Nat.le_of_ble_eq_true rfl) ?_
    refine wd_if_eq (tgt := 26) hC dX5_marries_18 (by decide) (fun c_18 => ?_) (fun c_18 => ?_)
    · replace c_18 := bI_0.mp c_18
      refine wd_iconst (v := -1) hC dX5_marries_26 rfl ?_
      exact wd_iret hC rfl dX5_marries_27 rfl rfl
    · replace c_18 := bI_1.mp c_18
      refine wd_iload_n hC dX5_marries_21 rfl rfl ?_
      refine wd_iload_n hC dX5_marries_22 rfl rfl ?_
      refine wd_icmp_ne (tgt := 28) hC dX5_marries_23 (by decide) (fun c_23 => ?_) (fun c_23 => ?_)
      · exact absurd ⟨c_10, c_18, c_23⟩ hB
      · refine wd_iconst (v := -1) hC dX5_marries_26 rfl ?_
        exact wd_iret hC rfl dX5_marries_27 rfl rfl
def marR (r : Nat → Int32) (a b : Nat) (x y : Int32) : Nat → Int32 := if r (6 + a) = y + 1 then r else putR (putR r a x (r (6 + b))) b y (r (6 + a))
theorem rOk.ox {W r : Nat → Int32} {nm nc m : Nat} (h : rOk W r nm nc) (hm : m < nm) : r (6 + m) = nI (r (6 + m)).toNatClampNeg ∧ (r (6 + m)).toNatClampNeg ≤ 6 := by
  have h6 := h.1
  obtain ⟨e, hk⟩ := ix_of (h.2.2.1 m hm).2.1 (h.2.2.1 m hm).2.2 (by omega)
  exact ⟨e, by omega⟩

set_option maxRecDepth 100000 in
set_option maxHeartbeats 4000000 in
theorem r_marries {V : wd_V} {ad : Nat → Nat} (hinj : wd_inj rS ad) (σ : wd_S) (h0 : σ.1 0 0 = 0) (nm nc : Nat) (hnm : σ.1 2 1 = nI nm) (hnc : σ.1 2 0 = nI nc) (h6 : nm ≤ 6) (h3 : nc ≤ 3) (hr : rOk (σ.1 3) (σ.1 9) nm nc) (u : Nat) (hu : σ.1 0 21 = nI u) (hu2 : u ≤ 10) (x y : Int32) (a b : Nat) (hx : x = nI a) (hy : y = nI b) (ha : a < nm) (hb : b < nm) (hne : ¬ x = y) : wd_C rS V ad 2 yX5_marries (Cond.code yX5_marries cX5_marries 5 (some .int) :: wsL_law) σ [.ref (ad 0), .int x, .int y] (wd_eq (some (.int (if marR (σ.1 9) a b x y (6 + a) = 0 then -9 else marR (σ.1 9) a b x y (6 + a) - 1))) (setR (noteW σ u) 9 (marR (σ.1 9) a b x y))) := by
  refine wd_intro (lv := [some (.ref (ad 0)), some (.int x), some (.int y), none, none]) hinj (by decide) rfl (Nat.le_of_ble_eq_true rfl) rfl (Nat.le_of_ble_eq_true rfl) (fun K hC => ?_)
  refine wd_aload_n hC dX5_marries_0 rfl rfl ?_
  refine wd_iconst (v := 0) hC dX5_marries_1 rfl ?_
  refine pf_X5_62 hC dX5_marries_2 ?_
  refine wd_ts (up_00 h0) ?_
  refine wd_aload_n hC dX5_marries_5 rfl rfl ?_
  refine wd_iload_n hC dX5_marries_6 rfl rfl ?_
  refine cv5i hC cw_X5_134 (r_isMan hinj _ _) dX5_marries_7 (by first | decide | omega) (by decide) rfl rfl (Nat.le_of_ble_eq_true rfl) ?_
  refine wd_if_eq (tgt := 26) hC dX5_marries_10 (by decide) (fun c_10 => absurd c_10 (bIm (qm_of hnm hx ha h6))) (fun c_10 => ?_)
  refine wd_aload_n hC dX5_marries_13 rfl rfl ?_
  refine wd_iload_n hC dX5_marries_14 rfl rfl ?_
  refine cv5i hC cw_X5_134 (r_isMan hinj _ _) dX5_marries_15 (by first | decide | omega) (by decide) rfl rfl (Nat.le_of_ble_eq_true rfl) ?_
  refine wd_if_eq (tgt := 26) hC dX5_marries_18 (by decide) (fun c_18 => absurd c_18 (bIm (qm_of hnm hy hb h6))) (fun c_18 => ?_)
  refine wd_iload_n hC dX5_marries_21 rfl rfl ?_
  refine wd_iload_n hC dX5_marries_22 rfl rfl ?_
  refine wd_icmp_ne (tgt := 28) hC dX5_marries_23 (by decide) (fun c_23 => ?_) (fun c_23 => absurd c_23 hne)
  refine wd_aload_n hC dX5_marries_28 rfl rfl ?_
  refine cv5v hC cw_X5_155 (r_notes hinj _ u hu hu2) dX5_marries_29 (by first | decide | omega) (by decide) rfl rfl (Nat.le_of_ble_eq_true rfl) ?_
  refine wd_ts (show noteW σ u = setR (noteW σ u) 9 (σ.1 9) from (by rw [← note_9 σ u, setR_self])) ?_
  refine wd_aload_n hC dX5_marries_32 rfl rfl ?_
  refine gf_X5_34 hC dX5_marries_33 ?_
  refine wd_bipush (v := 6) hC dX5_marries_36 rfl ?_
  refine wd_iload_n hC dX5_marries_38 rfl rfl ?_
  refine wd_iadd hC dX5_marries_39 ?_
  refine rl_s hC dX5_marries_40 (6 + a) (addI hx 6) (by omega) ?_
  refine wd_vi (show _ = (σ.1 9) (6 + a) from (by rw [setR_k])) ?_
  refine wd_istore_n_5_3 hC dX5_marries_41 ?_
  refine wd_aload_n hC dX5_marries_42 rfl rfl ?_
  refine gf_X5_34 hC dX5_marries_43 ?_
  refine wd_bipush (v := 6) hC dX5_marries_46 rfl ?_
  refine wd_iload_n hC dX5_marries_48 rfl rfl ?_
  refine wd_iadd hC dX5_marries_49 ?_
  refine rl_s hC dX5_marries_50 (6 + b) (addI hy 6) (by omega) ?_
  refine wd_vi (show _ = (σ.1 9) (6 + b) from (by rw [setR_k])) ?_
  refine wd_istore_5_4 hC dX5_marries_51 ?_
  refine wd_iload_n hC dX5_marries_53 rfl rfl ?_
  refine wd_iload_n hC dX5_marries_54 rfl rfl ?_
  refine wd_iconst (v := 1) hC dX5_marries_55 rfl ?_
  refine wd_iadd hC dX5_marries_56 ?_
  refine wd_icmp_eq (tgt := 81) hC dX5_marries_57 (by decide) (fun c_57 => ?_) (fun c_57 => ?_)
  · have hmr : marR (σ.1 9) a b x y = (σ.1 9) := if_pos c_57
    refine wd_aload_n hC dX5_marries_81 rfl rfl ?_
    refine gf_X5_34 hC dX5_marries_82 ?_
    refine wd_bipush (v := 6) hC dX5_marries_85 rfl ?_
    refine wd_iload_n hC dX5_marries_87 rfl rfl ?_
    refine wd_iadd hC dX5_marries_88 ?_
    refine rl_s hC dX5_marries_89 (6 + a) (addI hx 6) (by omega) ?_
    refine wd_vi (show _ = marR (σ.1 9) a b x y (6 + a) from (by rw [setR_k, hmr])) ?_
    refine wd_if_ne (tgt := 98) hC dX5_marries_90 (by decide) (fun c_90 => ?_) (fun c_90 => ?_)
    · refine wd_aload_n hC dX5_marries_98 rfl rfl ?_
      refine gf_X5_34 hC dX5_marries_99 ?_
      refine wd_bipush (v := 6) hC dX5_marries_102 rfl ?_
      refine wd_iload_n hC dX5_marries_104 rfl rfl ?_
      refine wd_iadd hC dX5_marries_105 ?_
      refine rl_s hC dX5_marries_106 (6 + a) (addI hx 6) (by omega) ?_
      refine wd_vi (show _ = marR (σ.1 9) a b x y (6 + a) from (by rw [setR_k, hmr])) ?_
      refine wd_iconst (v := 1) hC dX5_marries_107 rfl ?_
      refine wd_isub hC dX5_marries_108 ?_
      exact wd_iret hC rfl dX5_marries_109 (by first | exact (if_pos c_90).symm | exact (if_neg c_90).symm) (by rw [hmr])
    · refine wd_bipush (v := -9) hC dX5_marries_93 rfl ?_
      refine wd_goto (tgt := 109) hC dX5_marries_95 (by decide) ?_
      exact wd_iret hC rfl dX5_marries_109 (by first | exact (if_pos c_90).symm | exact (if_neg c_90).symm) (by rw [hmr])
  · have hmr : marR (σ.1 9) a b x y = putR (putR (σ.1 9) a x ((σ.1 9) (6 + b))) b y ((σ.1 9) (6 + a)) := if_neg c_57
    refine wd_aload_n hC dX5_marries_60 rfl rfl ?_
    refine wd_aload_n hC dX5_marries_61 rfl rfl ?_
    refine gf_X5_34 hC dX5_marries_62 ?_
    refine wd_iload_n hC dX5_marries_65 rfl rfl ?_
    refine wd_iload hC dX5_marries_66 rfl ?_
    refine cv5v hC cw_X5_161 (r_puts hinj (noteW σ u) (σ.1 9) x _ a _ hx (by omega) (hr.ox hb).1 (hr.ox hb).2) dX5_marries_68 (by first | decide | omega) (by decide) rfl rfl (Nat.le_of_ble_eq_true rfl) ?_
    refine wd_aload_n hC dX5_marries_71 rfl rfl ?_
    refine wd_aload_n hC dX5_marries_72 rfl rfl ?_
    refine gf_X5_34 hC dX5_marries_73 ?_
    refine wd_iload_n hC dX5_marries_76 rfl rfl ?_
    refine wd_iload_n hC dX5_marries_77 rfl rfl ?_
    refine cv5v hC cw_X5_161 (r_puts hinj (noteW σ u) (putR (σ.1 9) a x ((σ.1 9) (6 + b))) y _ b _ hy (by omega) (hr.ox ha).1 (hr.ox ha).2) dX5_marries_78 (by first | decide | omega) (by decide) rfl rfl (Nat.le_of_ble_eq_true rfl) ?_
    refine wd_aload_n hC dX5_marries_81 rfl rfl ?_
    refine gf_X5_34 hC dX5_marries_82 ?_
    refine wd_bipush (v := 6) hC dX5_marries_85 rfl ?_
    refine wd_iload_n hC dX5_marries_87 rfl rfl ?_
    refine wd_iadd hC dX5_marries_88 ?_
    refine rl_s hC dX5_marries_89 (6 + a) (addI hx 6) (by omega) ?_
    refine wd_vi (show _ = marR (σ.1 9) a b x y (6 + a) from (by rw [setR_k, hmr])) ?_
    refine wd_if_ne (tgt := 98) hC dX5_marries_90 (by decide) (fun c_90 => ?_) (fun c_90 => ?_)
    · refine wd_aload_n hC dX5_marries_98 rfl rfl ?_
      refine gf_X5_34 hC dX5_marries_99 ?_
      refine wd_bipush (v := 6) hC dX5_marries_102 rfl ?_
      refine wd_iload_n hC dX5_marries_104 rfl rfl ?_
      refine wd_iadd hC dX5_marries_105 ?_
      refine rl_s hC dX5_marries_106 (6 + a) (addI hx 6) (by omega) ?_
      refine wd_vi (show _ = marR (σ.1 9) a b x y (6 + a) from (by rw [setR_k, hmr])) ?_
      refine wd_iconst (v := 1) hC dX5_marries_107 rfl ?_
      refine wd_isub hC dX5_marries_108 ?_
      exact wd_iret hC rfl dX5_marries_109 (by first | exact (if_pos c_90).symm | exact (if_neg c_90).symm) (by rw [hmr])
    · refine wd_bipush (v := -9) hC dX5_marries_93 rfl ?_
      refine wd_goto (tgt := 109) hC dX5_marries_95 (by decide) ?_
      exact wd_iret hC rfl dX5_marries_109 (by first | exact (if_pos c_90).symm | exact (if_neg c_90).symm) (by rw [hmr])

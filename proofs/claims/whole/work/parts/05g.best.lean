/-! ===== the reference: hungry, now, best, rest ===== -/
theorem r_isHungry {V : wd_V} {ad : Nat → Nat} (hinj : wd_inj rS ad) (σ : wd_S) (r0 : Nat → Int32) (nm nc : Nat) (hnm : σ.1 2 1 = nI nm) (hnc : σ.1 2 0 = nI nc) (h6 : nm ≤ 6) (h3 : nc ≤ 3) (hr : rOk (σ.1 3) (σ.1 9) nm nc) (x : Int32) (m : Nat) (hx : x = nI m) (hm : m < nm) : wd_C rS V ad 4 yX5_isHungry (Cond.code yX5_isHungry cX5_isHungry 6 (some .boolean) :: wsL_law) (setR σ 10 r0) [.ref (ad 0), .int x] (wd_pi (fun r σ' => r = bI (vHung σ (σ.1 9) m nc = true) ∧ scrR σ σ')) := by
  by_cases hf : 0 ≤ σ.1 9 (6 + m) - 1
  · exact r_isHungry_t hinj σ r0 nm nc hnm hnc h6 h3 hr x m hx hm hf
  · exact r_isHungry_f hinj σ r0 nm nc hnm hnc h6 h3 hr x m hx hm hf
def vHungs (σ : wd_S) (nm nc : Nat) : Int32 := itr (fun m b => if vHung σ (σ.1 9) m nc = true then b ||| ((1 : Int32) <<< (nI m &&& 31)) else b ||| 0) 0 nm

set_option maxRecDepth 100000 in
set_option maxHeartbeats 4000000 in
theorem r_hungries {V : wd_V} {ad : Nat → Nat} (hinj : wd_inj rS ad) (σ : wd_S) (r0 : Nat → Int32) (nm nc : Nat) (hnm : σ.1 2 1 = nI nm) (hnc : σ.1 2 0 = nI nc) (h6 : nm ≤ 6) (h3 : nc ≤ 3) (hr : rOk (σ.1 3) (σ.1 9) nm nc)  : wd_C rS V ad 5 yX5_hungries (Cond.code yX5_hungries cX5_hungries 3 (some .int) :: wsL_law) (setR σ 10 r0) [.ref (ad 0)] (wd_pi (fun r σ' => r = vHungs σ nm nc ∧ scrR σ σ')) := by
  refine wd_intro (lv := [some (.ref (ad 0)), none, none]) hinj (by decide) rfl (Nat.le_of_ble_eq_true rfl) rfl (Nat.le_of_ble_eq_true rfl) (fun K hC => ?_)
  have loop : ∀ (k i : Nat) (ri : Nat → Int32) (b : Int32), i ≤ nm → nm < i + k → itr (fun m b => if vHung σ (σ.1 9) m nc = true then b ||| ((1 : Int32) <<< (nI m &&& 31)) else b ||| 0) 0 i = b → wd_G rS V ad K 3 (wd_Qm rS V ad K (wd_pi (fun r σ' => r = vHungs σ nm nc ∧ scrR σ σ'))) 4 [some (.ref (ad 0)), some (.int b), some (.int (nI i))] [] (setR σ 10 ri) := by
    intro k
    induction k with
    | zero =>
      intro i ri b h1 h2 hb
      exact absurd h2 (by omega)
    | succ k ih =>
      intro i ri b h1 h2 hb
      refine wd_iload_n hC dX5_hungries_4 rfl rfl ?_
      refine wd_aload_n hC dX5_hungries_5 rfl rfl ?_
      refine gf_X5_13 hC dX5_hungries_6 ?_
      refine wd_iconst (v := 1) hC dX5_hungries_9 rfl ?_
      refine rl_many hC dX5_hungries_10 1 rfl (by decide) ?_
      refine wd_vi (show _ = nI nm from (by rw [many_set (by decide)]; exact hnm)) ?_
      refine wd_icmp_ge (tgt := 38) hC dX5_hungries_11 (by decide) (fun c_11 => ?_) (fun c_11 => ?_)
      · have hin : _ = i := (lp_ge (n := nm) rfl c_11 h1 (by omega)).symm
        subst hin
        refine wd_iload_n hC dX5_hungries_38 rfl rfl ?_
        exact wd_iretP hC rfl dX5_hungries_39 (⟨_, rfl, hb.symm, ri, rfl⟩)
      · have hin : i < nm := lp_lt (n := nm) rfl c_11 h1 (by omega)
        refine wd_iload_n hC dX5_hungries_14 rfl rfl ?_
        refine wd_aload_n hC dX5_hungries_15 rfl rfl ?_
        refine wd_iload_n hC dX5_hungries_16 rfl rfl ?_
        refine cv5iP hC cw_X5_145 (r_isHungry hinj σ ri nm nc hnm hnc h6 h3 hr _ i rfl hin) dX5_hungries_17 (by first | decide | omega) (by decide) rfl rfl (Nat.le_of_ble_eq_true rfl) (fun r_17 σ_17 h_17 => ?_)
        obtain ⟨rfl, r2, rfl⟩ := h_17
        refine wd_if_eq (tgt := 29) hC dX5_hungries_20 (by decide) (fun c_20 => ?_) (fun c_20 => ?_)
        · replace c_20 := bI_0.mp c_20
          refine wd_iconst (v := 0) hC dX5_hungries_29 rfl ?_
          refine wd_ior hC dX5_hungries_30 ?_
          refine wd_istore_n_3_1 hC dX5_hungries_31 ?_
          refine wd_iincN_3_2 hC dX5_hungries_32 ?_
          refine wd_goto (tgt := 4) hC dX5_hungries_35 (by decide) ?_
          exact ih (i + 1) _ _ (by omega) (by omega) (by rw [itr, hb]; first | rw [if_pos c_20] | rw [if_neg c_20])
        · replace c_20 := bI_1.mp c_20
          refine wd_iconst (v := 1) hC dX5_hungries_23 rfl ?_
          refine wd_iload_n hC dX5_hungries_24 rfl rfl ?_
          refine wd_ishl hC dX5_hungries_25 ?_
          refine wd_goto (tgt := 30) hC dX5_hungries_26 (by decide) ?_
          refine wd_ior hC dX5_hungries_30 ?_
          refine wd_istore_n_3_1 hC dX5_hungries_31 ?_
          refine wd_iincN_3_2 hC dX5_hungries_32 ?_
          refine wd_goto (tgt := 4) hC dX5_hungries_35 (by decide) ?_
          exact ih (i + 1) _ _ (by omega) (by omega) (by rw [itr, hb]; first | rw [if_pos c_20] | rw [if_neg c_20])
  refine wd_iconst (v := 0) hC dX5_hungries_0 rfl ?_
  refine wd_istore_n_3_1 hC dX5_hungries_1 ?_
  refine wd_iconst (v := 0) hC dX5_hungries_2 rfl ?_
  refine wd_istore_n_3_2 hC dX5_hungries_3 ?_
  exact loop (nm + 1) 0 _ _ (Nat.zero_le _) (by omega) rfl
set_option maxRecDepth 100000 in
set_option maxHeartbeats 4000000 in
theorem r_hungry_bad {V : wd_V} {ad : Nat → Nat} (hinj : wd_inj rS ad) (σ : wd_S) (h0 : σ.1 0 0 = 0) (x : Int32) (hB : ¬ qMan σ x) : wd_C rS V ad 2 yX5_hungry (Cond.code yX5_hungry cX5_hungry 2 (some .int) :: wsL_law) σ [.ref (ad 0), .int x] (wd_eq (some (.int (-1))) (σ)) := by
  refine wd_intro (lv := [some (.ref (ad 0)), some (.int x)]) hinj (by decide) rfl (Nat.le_of_ble_eq_true rfl) rfl (Nat.le_of_ble_eq_true rfl) (fun K hC => ?_)
  refine wd_aload_n hC dX5_hungry_0 rfl rfl ?_
  refine wd_iconst (v := 0) hC dX5_hungry_1 rfl ?_
  refine pf_X5_62 hC dX5_hungry_2 ?_
  refine wd_ts (up_00 h0) ?_
  refine wd_aload_n hC dX5_hungry_5 rfl rfl ?_
  refine wd_iload_n hC dX5_hungry_6 rfl rfl ?_
  refine cv5i hC cw_X5_134 (r_isMan hinj _ _) dX5_hungry_7 (by first | decide | omega) (by decide) rfl rfl (Nat.le_of_ble_eq_true rfl) ?_
  refine wd_if_eq (tgt := 29) hC dX5_hungry_10 (by decide) (fun c_10 => ?_) (fun c_10 => ?_)
  · replace c_10 := bI_0.mp c_10
    refine wd_iconst (v := -1) hC dX5_hungry_29 rfl ?_
    exact wd_iret hC rfl dX5_hungry_30 rfl rfl
  · replace c_10 := bI_1.mp c_10
    exact absurd c_10 hB
set_option maxRecDepth 100000 in
set_option maxHeartbeats 4000000 in
theorem r_hungry {V : wd_V} {ad : Nat → Nat} (hinj : wd_inj rS ad) (σ : wd_S) (h0 : σ.1 0 0 = 0) (nm nc : Nat) (hnm : σ.1 2 1 = nI nm) (hnc : σ.1 2 0 = nI nc) (h6 : nm ≤ 6) (h3 : nc ≤ 3) (hr : rOk (σ.1 3) (σ.1 9) nm nc) (x : Int32) (m : Nat) (hx : x = nI m) (hm : m < nm)  : wd_C rS V ad 5 yX5_hungry (Cond.code yX5_hungry cX5_hungry 2 (some .int) :: wsL_law) σ [.ref (ad 0), .int x] (wd_pi (fun r σ' => r = bI (vHung σ (σ.1 9) m nc = true) ∧ scrR σ σ')) := by
  refine wd_intro (lv := [some (.ref (ad 0)), some (.int x)]) hinj (by decide) rfl (Nat.le_of_ble_eq_true rfl) rfl (Nat.le_of_ble_eq_true rfl) (fun K hC => ?_)
  refine wd_aload_n hC dX5_hungry_0 rfl rfl ?_
  refine wd_iconst (v := 0) hC dX5_hungry_1 rfl ?_
  refine pf_X5_62 hC dX5_hungry_2 ?_
  refine wd_ts (up_00 h0) ?_
  refine wd_aload_n hC dX5_hungry_5 rfl rfl ?_
  refine wd_iload_n hC dX5_hungry_6 rfl rfl ?_
  refine cv5i hC cw_X5_134 (r_isMan hinj _ _) dX5_hungry_7 (by first | decide | omega) (by decide) rfl rfl (Nat.le_of_ble_eq_true rfl) ?_
  refine wd_if_eq (tgt := 29) hC dX5_hungry_10 (by decide) (fun c_10 => absurd c_10 (bIm (qm_of hnm hx hm h6))) (fun c_10 => ?_)
  refine wd_ts (setR_self σ 10).symm ?_
  refine wd_aload_n hC dX5_hungry_13 rfl rfl ?_
  refine wd_iload_n hC dX5_hungry_14 rfl rfl ?_
  refine cv5iP hC cw_X5_145 (r_isHungry hinj σ (σ.1 10) nm nc hnm hnc h6 h3 hr _ m hx hm) dX5_hungry_15 (by first | decide | omega) (by decide) rfl rfl (Nat.le_of_ble_eq_true rfl) (fun r_15 σ_15 h_15 => ?_)
  obtain ⟨rfl, hs⟩ := h_15
  refine wd_if_eq (tgt := 25) hC dX5_hungry_18 (by decide) (fun c_18 => ?_) (fun c_18 => ?_)
  · replace c_18 := bI_0.mp c_18
    refine wd_iconst (v := 0) hC dX5_hungry_25 rfl ?_
    refine wd_goto (tgt := 30) hC dX5_hungry_26 (by decide) ?_
    exact wd_iretP hC rfl dX5_hungry_30 ((by first | exact ⟨_, rfl, bI_t c_18, hs⟩ | exact ⟨_, rfl, bI_f c_18, hs⟩))
  · replace c_18 := bI_1.mp c_18
    refine wd_iconst (v := 1) hC dX5_hungry_21 rfl ?_
    refine wd_goto (tgt := 30) hC dX5_hungry_22 (by decide) ?_
    exact wd_iretP hC rfl dX5_hungry_30 ((by first | exact ⟨_, rfl, bI_t c_18, hs⟩ | exact ⟨_, rfl, bI_f c_18, hs⟩))
set_option maxRecDepth 100000 in
set_option maxHeartbeats 4000000 in
theorem r_now_bad {V : wd_V} {ad : Nat → Nat} (hinj : wd_inj rS ad) (σ : wd_S) (h0 : σ.1 0 0 = 0) (x : Int32) (hB : ¬ pIn x 0 5) : wd_C rS V ad 1 yX5_now (Cond.code yX5_now cX5_now 4 (some .int) :: wsL_law) σ [.ref (ad 0), .int x] (wd_eq (some (.int (-1))) (σ)) := by
  refine wd_intro (lv := [some (.ref (ad 0)), some (.int x), none, none]) hinj (by decide) rfl (Nat.le_of_ble_eq_true rfl) rfl (Nat.le_of_ble_eq_true rfl) (fun K hC => ?_)
  refine wd_aload_n hC dX5_now_0 rfl rfl ?_
  refine wd_iconst (v := 0) hC dX5_now_1 rfl ?_
  refine pf_X5_62 hC dX5_now_2 ?_
  refine wd_ts (up_00 h0) ?_
  refine wd_iload_n hC dX5_now_5 rfl rfl ?_
  refine wd_iconst (v := 0) hC dX5_now_6 rfl ?_
  refine wd_iconst (v := 5) hC dX5_now_7 rfl ?_
  refine cvsi hC cw_X5_66 (r_in hinj _ _ _ _) dX5_now_8 (by first | decide | omega) (by decide) rfl rfl (Nat.le_of_ble_eq_true rfl) ?_
  refine wd_if_ne (tgt := 16) hC dX5_now_11 (by decide) (fun c_11 => ?_) (fun c_11 => ?_)
  · replace c_11 := bI_1.mp c_11
    exact absurd c_11 hB
  · replace c_11 := bI_0.mp c_11
    refine wd_iconst (v := -1) hC dX5_now_14 rfl ?_
    exact wd_iret hC rfl dX5_now_15 rfl rfl
def vRopes (σ : wd_S) (nm : Nat) : Int32 := itr (fun m a => a + σ.1 9 (12 + m)) 0 nm
set_option maxRecDepth 100000 in
set_option maxHeartbeats 4000000 in
theorem r_now_0 {V : wd_V} {ad : Nat → Nat} (hinj : wd_inj rS ad) (σ : wd_S) (h0 : σ.1 0 0 = 0) (nm nc : Nat) (hnm : σ.1 2 1 = nI nm) (hnc : σ.1 2 0 = nI nc) (h6 : nm ≤ 6) (h3 : nc ≤ 3) (hr : rOk (σ.1 3) (σ.1 9) nm nc)  : wd_C rS V ad 6 yX5_now (Cond.code yX5_now cX5_now 4 (some .int) :: wsL_law) σ [.ref (ad 0), .int 0] (wd_eq (some (.int (σ.1 9 31))) (σ)) := by
  refine wd_intro (lv := [some (.ref (ad 0)), some (.int 0), none, none]) hinj (by decide) rfl (Nat.le_of_ble_eq_true rfl) rfl (Nat.le_of_ble_eq_true rfl) (fun K hC => ?_)
  have loop : ∀ (k i : Nat), i ≤ nm → nm < i + k → wd_G rS V ad K 4 (wd_Qm rS V ad K (wd_eq (some (.int (σ.1 9 31))) σ)) 20 [some (.ref (ad 0)), some (.int 0), some (.int (itr (fun m a => a + σ.1 9 (12 + m)) 0 i)), some (.int (nI i))] [] σ := by
    intro k
    induction k with
    | zero =>
      intro i  h1 h2 
      exact absurd h2 (by omega)
    | succ k ih =>
      intro i  h1 h2 
      refine wd_iload_n hC dX5_now_20 rfl rfl ?_
      refine wd_aload_n hC dX5_now_21 rfl rfl ?_
      refine gf_X5_13 hC dX5_now_22 ?_
      refine wd_iconst (v := 1) hC dX5_now_25 rfl ?_
      refine rl_many hC dX5_now_26 1 rfl (by decide) ?_
      refine wd_icmp_ge (tgt := 48) hC dX5_now_27 (by decide) (fun c_27 => ?_) (fun c_27 => ?_)
      · have hin : _ = i := (lp_ge hnm c_27 h1 (by omega)).symm
        subst hin
        refine wd_iload_n hC dX5_now_48 rfl rfl ?_
        refine wd_if_ne (tgt := 62) hC dX5_now_49 (by decide) (fun c_49 => absurd (by decide) c_49) (fun c_49 => ?_)
        refine wd_aload_n hC dX5_now_52 rfl rfl ?_
        refine gf_X5_34 hC dX5_now_53 ?_
        refine wd_bipush (v := 31) hC dX5_now_56 rfl ?_
        refine rl_s hC dX5_now_58 31 rfl (by decide) ?_
        refine wd_goto (tgt := 114) hC dX5_now_59 (by decide) ?_
        exact wd_iret hC rfl dX5_now_114 rfl rfl
      · have hin : i < nm := lp_lt hnm c_27 h1 (by omega)
        refine wd_iload_n hC dX5_now_30 rfl rfl ?_
        refine wd_aload_n hC dX5_now_31 rfl rfl ?_
        refine gf_X5_34 hC dX5_now_32 ?_
        refine wd_bipush (v := 12) hC dX5_now_35 rfl ?_
        refine wd_iload_n hC dX5_now_37 rfl rfl ?_
        refine wd_iadd hC dX5_now_38 ?_
        refine rl_s hC dX5_now_39 (12 + i) (addI rfl 12) (by omega) ?_
        refine wd_iadd hC dX5_now_40 ?_
        refine wd_istore_n_4_2 hC dX5_now_41 ?_
        refine wd_iincN_4_3 hC dX5_now_42 ?_
        refine wd_goto (tgt := 20) hC dX5_now_45 (by decide) ?_
        exact ih (i + 1) (by omega) (by omega)
  refine wd_aload_n hC dX5_now_0 rfl rfl ?_
  refine wd_iconst (v := 0) hC dX5_now_1 rfl ?_
  refine pf_X5_62 hC dX5_now_2 ?_
  refine wd_ts (up_00 h0) ?_
  refine wd_iload_n hC dX5_now_5 rfl rfl ?_
  refine wd_iconst (v := 0) hC dX5_now_6 rfl ?_
  refine wd_iconst (v := 5) hC dX5_now_7 rfl ?_
  refine cvsi hC cw_X5_66 (r_in hinj _ _ _ _) dX5_now_8 (by first | decide | omega) (by decide) rfl rfl (Nat.le_of_ble_eq_true rfl) ?_
  refine wd_if_ne (tgt := 16) hC dX5_now_11 (by decide) (fun c_11 => ?_) (fun c_11 => absurd c_11 (bIm (by decide)))
  refine wd_iconst (v := 0) hC dX5_now_16 rfl ?_
  refine wd_istore_n_4_2 hC dX5_now_17 ?_
  refine wd_iconst (v := 0) hC dX5_now_18 rfl ?_
  refine wd_istore_n_4_3 hC dX5_now_19 ?_
  exact loop (nm + 1) 0 (Nat.zero_le _) (by omega)
set_option maxRecDepth 100000 in
set_option maxHeartbeats 4000000 in
theorem r_now_1 {V : wd_V} {ad : Nat → Nat} (hinj : wd_inj rS ad) (σ : wd_S) (h0 : σ.1 0 0 = 0) (nm nc : Nat) (hnm : σ.1 2 1 = nI nm) (hnc : σ.1 2 0 = nI nc) (h6 : nm ≤ 6) (h3 : nc ≤ 3) (hr : rOk (σ.1 3) (σ.1 9) nm nc)  : wd_C rS V ad 6 yX5_now (Cond.code yX5_now cX5_now 4 (some .int) :: wsL_law) σ [.ref (ad 0), .int 1] (wd_eq (some (.int (σ.1 9 30))) (σ)) := by
  refine wd_intro (lv := [some (.ref (ad 0)), some (.int 1), none, none]) hinj (by decide) rfl (Nat.le_of_ble_eq_true rfl) rfl (Nat.le_of_ble_eq_true rfl) (fun K hC => ?_)
  have loop : ∀ (k i : Nat), i ≤ nm → nm < i + k → wd_G rS V ad K 4 (wd_Qm rS V ad K (wd_eq (some (.int (σ.1 9 30))) σ)) 20 [some (.ref (ad 0)), some (.int 1), some (.int (itr (fun m a => a + σ.1 9 (12 + m)) 0 i)), some (.int (nI i))] [] σ := by
    intro k
    induction k with
    | zero =>
      intro i  h1 h2 
      exact absurd h2 (by omega)
    | succ k ih =>
      intro i  h1 h2 
      refine wd_iload_n hC dX5_now_20 rfl rfl ?_
      refine wd_aload_n hC dX5_now_21 rfl rfl ?_
      refine gf_X5_13 hC dX5_now_22 ?_
      refine wd_iconst (v := 1) hC dX5_now_25 rfl ?_
      refine rl_many hC dX5_now_26 1 rfl (by decide) ?_
      refine wd_icmp_ge (tgt := 48) hC dX5_now_27 (by decide) (fun c_27 => ?_) (fun c_27 => ?_)
      · have hin : _ = i := (lp_ge hnm c_27 h1 (by omega)).symm
        subst hin
        refine wd_iload_n hC dX5_now_48 rfl rfl ?_
        refine wd_if_ne (tgt := 62) hC dX5_now_49 (by decide) (fun c_49 => ?_) (fun c_49 => absurd c_49 (by decide))
        refine wd_iload_n hC dX5_now_62 rfl rfl ?_
        refine wd_iconst (v := 1) hC dX5_now_63 rfl ?_
        refine wd_icmp_ne (tgt := 77) hC dX5_now_64 (by decide) (fun c_64 => absurd (by decide) c_64) (fun c_64 => ?_)
        refine wd_aload_n hC dX5_now_67 rfl rfl ?_
        refine gf_X5_34 hC dX5_now_68 ?_
        refine wd_bipush (v := 30) hC dX5_now_71 rfl ?_
        refine rl_s hC dX5_now_73 30 rfl (by decide) ?_
        refine wd_goto (tgt := 114) hC dX5_now_74 (by decide) ?_
        exact wd_iret hC rfl dX5_now_114 rfl rfl
      · have hin : i < nm := lp_lt hnm c_27 h1 (by omega)
        refine wd_iload_n hC dX5_now_30 rfl rfl ?_
        refine wd_aload_n hC dX5_now_31 rfl rfl ?_
        refine gf_X5_34 hC dX5_now_32 ?_
        refine wd_bipush (v := 12) hC dX5_now_35 rfl ?_
        refine wd_iload_n hC dX5_now_37 rfl rfl ?_
        refine wd_iadd hC dX5_now_38 ?_
        refine rl_s hC dX5_now_39 (12 + i) (addI rfl 12) (by omega) ?_
        refine wd_iadd hC dX5_now_40 ?_
        refine wd_istore_n_4_2 hC dX5_now_41 ?_
        refine wd_iincN_4_3 hC dX5_now_42 ?_
        refine wd_goto (tgt := 20) hC dX5_now_45 (by decide) ?_
        exact ih (i + 1) (by omega) (by omega)
  refine wd_aload_n hC dX5_now_0 rfl rfl ?_
  refine wd_iconst (v := 0) hC dX5_now_1 rfl ?_
  refine pf_X5_62 hC dX5_now_2 ?_
  refine wd_ts (up_00 h0) ?_
  refine wd_iload_n hC dX5_now_5 rfl rfl ?_
  refine wd_iconst (v := 0) hC dX5_now_6 rfl ?_
  refine wd_iconst (v := 5) hC dX5_now_7 rfl ?_
  refine cvsi hC cw_X5_66 (r_in hinj _ _ _ _) dX5_now_8 (by first | decide | omega) (by decide) rfl rfl (Nat.le_of_ble_eq_true rfl) ?_
  refine wd_if_ne (tgt := 16) hC dX5_now_11 (by decide) (fun c_11 => ?_) (fun c_11 => absurd c_11 (bIm (by decide)))
  refine wd_iconst (v := 0) hC dX5_now_16 rfl ?_
  refine wd_istore_n_4_2 hC dX5_now_17 ?_
  refine wd_iconst (v := 0) hC dX5_now_18 rfl ?_
  refine wd_istore_n_4_3 hC dX5_now_19 ?_
  exact loop (nm + 1) 0 (Nat.zero_le _) (by omega)
set_option maxRecDepth 100000 in
set_option maxHeartbeats 4000000 in
theorem r_now_2 {V : wd_V} {ad : Nat → Nat} (hinj : wd_inj rS ad) (σ : wd_S) (h0 : σ.1 0 0 = 0) (nm nc : Nat) (hnm : σ.1 2 1 = nI nm) (hnc : σ.1 2 0 = nI nc) (h6 : nm ≤ 6) (h3 : nc ≤ 3) (hr : rOk (σ.1 3) (σ.1 9) nm nc)  : wd_C rS V ad 6 yX5_now (Cond.code yX5_now cX5_now 4 (some .int) :: wsL_law) σ [.ref (ad 0), .int 2] (wd_eq (some (.int (vRopes σ nm))) (σ)) := by
  refine wd_intro (lv := [some (.ref (ad 0)), some (.int 2), none, none]) hinj (by decide) rfl (Nat.le_of_ble_eq_true rfl) rfl (Nat.le_of_ble_eq_true rfl) (fun K hC => ?_)
  have loop : ∀ (k i : Nat), i ≤ nm → nm < i + k → wd_G rS V ad K 4 (wd_Qm rS V ad K (wd_eq (some (.int (vRopes σ nm))) σ)) 20 [some (.ref (ad 0)), some (.int 2), some (.int (itr (fun m a => a + σ.1 9 (12 + m)) 0 i)), some (.int (nI i))] [] σ := by
    intro k
    induction k with
    | zero =>
      intro i  h1 h2 
      exact absurd h2 (by omega)
    | succ k ih =>
      intro i  h1 h2 
      refine wd_iload_n hC dX5_now_20 rfl rfl ?_
      refine wd_aload_n hC dX5_now_21 rfl rfl ?_
      refine gf_X5_13 hC dX5_now_22 ?_
      refine wd_iconst (v := 1) hC dX5_now_25 rfl ?_
      refine rl_many hC dX5_now_26 1 rfl (by decide) ?_
      refine wd_icmp_ge (tgt := 48) hC dX5_now_27 (by decide) (fun c_27 => ?_) (fun c_27 => ?_)
      · have hin : _ = i := (lp_ge hnm c_27 h1 (by omega)).symm
        subst hin
        refine wd_iload_n hC dX5_now_48 rfl rfl ?_
        refine wd_if_ne (tgt := 62) hC dX5_now_49 (by decide) (fun c_49 => ?_) (fun c_49 => absurd c_49 (by decide))
        refine wd_iload_n hC dX5_now_62 rfl rfl ?_
        refine wd_iconst (v := 1) hC dX5_now_63 rfl ?_
        refine wd_icmp_ne (tgt := 77) hC dX5_now_64 (by decide) (fun c_64 => ?_) (fun c_64 => absurd c_64 (by decide))
        refine wd_iload_n hC dX5_now_77 rfl rfl ?_
        refine wd_iconst (v := 2) hC dX5_now_78 rfl ?_
        refine wd_icmp_ne (tgt := 86) hC dX5_now_79 (by decide) (fun c_79 => absurd (by decide) c_79) (fun c_79 => ?_)
        refine wd_iload_n hC dX5_now_82 rfl rfl ?_
        refine wd_goto (tgt := 114) hC dX5_now_83 (by decide) ?_
        exact wd_iret hC rfl dX5_now_114 rfl rfl
      · have hin : i < nm := lp_lt hnm c_27 h1 (by omega)
        refine wd_iload_n hC dX5_now_30 rfl rfl ?_
        refine wd_aload_n hC dX5_now_31 rfl rfl ?_
        refine gf_X5_34 hC dX5_now_32 ?_
        refine wd_bipush (v := 12) hC dX5_now_35 rfl ?_
        refine wd_iload_n hC dX5_now_37 rfl rfl ?_
        refine wd_iadd hC dX5_now_38 ?_
        refine rl_s hC dX5_now_39 (12 + i) (addI rfl 12) (by omega) ?_
        refine wd_iadd hC dX5_now_40 ?_
        refine wd_istore_n_4_2 hC dX5_now_41 ?_
        refine wd_iincN_4_3 hC dX5_now_42 ?_
        refine wd_goto (tgt := 20) hC dX5_now_45 (by decide) ?_
        exact ih (i + 1) (by omega) (by omega)
  refine wd_aload_n hC dX5_now_0 rfl rfl ?_
  refine wd_iconst (v := 0) hC dX5_now_1 rfl ?_
  refine pf_X5_62 hC dX5_now_2 ?_
  refine wd_ts (up_00 h0) ?_
  refine wd_iload_n hC dX5_now_5 rfl rfl ?_
  refine wd_iconst (v := 0) hC dX5_now_6 rfl ?_
  refine wd_iconst (v := 5) hC dX5_now_7 rfl ?_
  refine cvsi hC cw_X5_66 (r_in hinj _ _ _ _) dX5_now_8 (by first | decide | omega) (by decide) rfl rfl (Nat.le_of_ble_eq_true rfl) ?_
  refine wd_if_ne (tgt := 16) hC dX5_now_11 (by decide) (fun c_11 => ?_) (fun c_11 => absurd c_11 (bIm (by decide)))
  refine wd_iconst (v := 0) hC dX5_now_16 rfl ?_
  refine wd_istore_n_4_2 hC dX5_now_17 ?_
  refine wd_iconst (v := 0) hC dX5_now_18 rfl ?_
  refine wd_istore_n_4_3 hC dX5_now_19 ?_
  exact loop (nm + 1) 0 (Nat.zero_le _) (by omega)
set_option maxRecDepth 100000 in
set_option maxHeartbeats 4000000 in
theorem r_now_3 {V : wd_V} {ad : Nat → Nat} (hinj : wd_inj rS ad) (σ : wd_S) (h0 : σ.1 0 0 = 0) (nm nc : Nat) (hnm : σ.1 2 1 = nI nm) (hnc : σ.1 2 0 = nI nc) (h6 : nm ≤ 6) (h3 : nc ≤ 3) (hr : rOk (σ.1 3) (σ.1 9) nm nc)  : wd_C rS V ad 6 yX5_now (Cond.code yX5_now cX5_now 4 (some .int) :: wsL_law) σ [.ref (ad 0), .int 3] (wd_pi (fun r σ' => r = vHungs σ nm nc ∧ scrR σ σ')) := by
  refine wd_intro (lv := [some (.ref (ad 0)), some (.int 3), none, none]) hinj (by decide) rfl (Nat.le_of_ble_eq_true rfl) rfl (Nat.le_of_ble_eq_true rfl) (fun K hC => ?_)
  have loop : ∀ (k i : Nat), i ≤ nm → nm < i + k → wd_G rS V ad K 4 (wd_Qm rS V ad K (wd_pi (fun r σ' => r = vHungs σ nm nc ∧ scrR σ σ'))) 20 [some (.ref (ad 0)), some (.int 3), some (.int (itr (fun m a => a + σ.1 9 (12 + m)) 0 i)), some (.int (nI i))] [] σ := by
    intro k
    induction k with
    | zero =>
      intro i  h1 h2 
      exact absurd h2 (by omega)
    | succ k ih =>
      intro i  h1 h2 
      refine wd_iload_n hC dX5_now_20 rfl rfl ?_
      refine wd_aload_n hC dX5_now_21 rfl rfl ?_
      refine gf_X5_13 hC dX5_now_22 ?_
      refine wd_iconst (v := 1) hC dX5_now_25 rfl ?_
      refine rl_many hC dX5_now_26 1 rfl (by decide) ?_
      refine wd_icmp_ge (tgt := 48) hC dX5_now_27 (by decide) (fun c_27 => ?_) (fun c_27 => ?_)
      · have hin : _ = i := (lp_ge hnm c_27 h1 (by omega)).symm
        subst hin
        refine wd_ts (setR_self σ 10).symm ?_
        refine wd_iload_n hC dX5_now_48 rfl rfl ?_
        refine wd_if_ne (tgt := 62) hC dX5_now_49 (by decide) (fun c_49 => ?_) (fun c_49 => absurd c_49 (by decide))
        refine wd_iload_n hC dX5_now_62 rfl rfl ?_
        refine wd_iconst (v := 1) hC dX5_now_63 rfl ?_
        refine wd_icmp_ne (tgt := 77) hC dX5_now_64 (by decide) (fun c_64 => ?_) (fun c_64 => absurd c_64 (by decide))
        refine wd_iload_n hC dX5_now_77 rfl rfl ?_
        refine wd_iconst (v := 2) hC dX5_now_78 rfl ?_
        refine wd_icmp_ne (tgt := 86) hC dX5_now_79 (by decide) (fun c_79 => ?_) (fun c_79 => absurd c_79 (by decide))
        refine wd_iload_n hC dX5_now_86 rfl rfl ?_
        refine wd_iconst (v := 3) hC dX5_now_87 rfl ?_
        refine wd_icmp_ne (tgt := 98) hC dX5_now_88 (by decide) (fun c_88 => absurd (by decide) c_88) (fun c_88 => ?_)
        refine wd_aload_n hC dX5_now_91 rfl rfl ?_
        refine cv5iP hC cw_X5_148 (r_hungries hinj σ (σ.1 10) nm nc hnm hnc h6 h3 hr) dX5_now_92 (by first | decide | omega) (by decide) rfl rfl (Nat.le_of_ble_eq_true rfl) (fun r_92 σ_92 h_92 => ?_)
        obtain ⟨rfl, hs⟩ := h_92
        refine wd_goto (tgt := 114) hC dX5_now_95 (by decide) ?_
        exact wd_iretP hC rfl dX5_now_114 (⟨_, rfl, rfl, hs⟩)
      · have hin : i < nm := lp_lt hnm c_27 h1 (by omega)
        refine wd_iload_n hC dX5_now_30 rfl rfl ?_
        refine wd_aload_n hC dX5_now_31 rfl rfl ?_
        refine gf_X5_34 hC dX5_now_32 ?_
        refine wd_bipush (v := 12) hC dX5_now_35 rfl ?_
        refine wd_iload_n hC dX5_now_37 rfl rfl ?_
        refine wd_iadd hC dX5_now_38 ?_
        refine rl_s hC dX5_now_39 (12 + i) (addI rfl 12) (by omega) ?_
        refine wd_iadd hC dX5_now_40 ?_
        refine wd_istore_n_4_2 hC dX5_now_41 ?_
        refine wd_iincN_4_3 hC dX5_now_42 ?_
        refine wd_goto (tgt := 20) hC dX5_now_45 (by decide) ?_
        exact ih (i + 1) (by omega) (by omega)
  refine wd_aload_n hC dX5_now_0 rfl rfl ?_
  refine wd_iconst (v := 0) hC dX5_now_1 rfl ?_
  refine pf_X5_62 hC dX5_now_2 ?_
  refine wd_ts (up_00 h0) ?_
  refine wd_iload_n hC dX5_now_5 rfl rfl ?_
  refine wd_iconst (v := 0) hC dX5_now_6 rfl ?_
  refine wd_iconst (v := 5) hC dX5_now_7 rfl ?_
  refine cvsi hC cw_X5_66 (r_in hinj _ _ _ _) dX5_now_8 (by first | decide | omega) (by decide) rfl rfl (Nat.le_of_ble_eq_true rfl) ?_
  refine wd_if_ne (tgt := 16) hC dX5_now_11 (by decide) (fun c_11 => ?_) (fun c_11 => absurd c_11 (bIm (by decide)))
  refine wd_iconst (v := 0) hC dX5_now_16 rfl ?_
  refine wd_istore_n_4_2 hC dX5_now_17 ?_
  refine wd_iconst (v := 0) hC dX5_now_18 rfl ?_
  refine wd_istore_n_4_3 hC dX5_now_19 ?_
  exact loop (nm + 1) 0 (Nat.zero_le _) (by omega)
set_option maxRecDepth 100000 in
set_option maxHeartbeats 4000000 in
theorem r_now_4 {V : wd_V} {ad : Nat → Nat} (hinj : wd_inj rS ad) (σ : wd_S) (h0 : σ.1 0 0 = 0) (nm nc : Nat) (hnm : σ.1 2 1 = nI nm) (hnc : σ.1 2 0 = nI nc) (h6 : nm ≤ 6) (h3 : nc ≤ 3) (hr : rOk (σ.1 3) (σ.1 9) nm nc)  : wd_C rS V ad 6 yX5_now (Cond.code yX5_now cX5_now 4 (some .int) :: wsL_law) σ [.ref (ad 0), .int 4] (wd_eq (some (.int (vAll σ nm))) (σ)) := by
  refine wd_intro (lv := [some (.ref (ad 0)), some (.int 4), none, none]) hinj (by decide) rfl (Nat.le_of_ble_eq_true rfl) rfl (Nat.le_of_ble_eq_true rfl) (fun K hC => ?_)
  have loop : ∀ (k i : Nat), i ≤ nm → nm < i + k → wd_G rS V ad K 4 (wd_Qm rS V ad K (wd_eq (some (.int (vAll σ nm))) σ)) 20 [some (.ref (ad 0)), some (.int 4), some (.int (itr (fun m a => a + σ.1 9 (12 + m)) 0 i)), some (.int (nI i))] [] σ := by
    intro k
    induction k with
    | zero =>
      intro i  h1 h2 
      exact absurd h2 (by omega)
    | succ k ih =>
      intro i  h1 h2 
      refine wd_iload_n hC dX5_now_20 rfl rfl ?_
      refine wd_aload_n hC dX5_now_21 rfl rfl ?_
      refine gf_X5_13 hC dX5_now_22 ?_
      refine wd_iconst (v := 1) hC dX5_now_25 rfl ?_
      refine rl_many hC dX5_now_26 1 rfl (by decide) ?_
      refine wd_icmp_ge (tgt := 48) hC dX5_now_27 (by decide) (fun c_27 => ?_) (fun c_27 => ?_)
      · have hin : _ = i := (lp_ge hnm c_27 h1 (by omega)).symm
        subst hin
        refine wd_iload_n hC dX5_now_48 rfl rfl ?_
        refine wd_if_ne (tgt := 62) hC dX5_now_49 (by decide) (fun c_49 => ?_) (fun c_49 => absurd c_49 (by decide))
        refine wd_iload_n hC dX5_now_62 rfl rfl ?_
        refine wd_iconst (v := 1) hC dX5_now_63 rfl ?_
        refine wd_icmp_ne (tgt := 77) hC dX5_now_64 (by decide) (fun c_64 => ?_) (fun c_64 => absurd c_64 (by decide))
        refine wd_iload_n hC dX5_now_77 rfl rfl ?_
        refine wd_iconst (v := 2) hC dX5_now_78 rfl ?_
        refine wd_icmp_ne (tgt := 86) hC dX5_now_79 (by decide) (fun c_79 => ?_) (fun c_79 => absurd c_79 (by decide))
        refine wd_iload_n hC dX5_now_86 rfl rfl ?_
        refine wd_iconst (v := 3) hC dX5_now_87 rfl ?_
        refine wd_icmp_ne (tgt := 98) hC dX5_now_88 (by decide) (fun c_88 => ?_) (fun c_88 => absurd c_88 (by decide))
        refine wd_iload_n hC dX5_now_98 rfl rfl ?_
        refine wd_iconst (v := 4) hC dX5_now_99 rfl ?_
        refine wd_icmp_ne (tgt := 110) hC dX5_now_100 (by decide) (fun c_100 => absurd (by decide) c_100) (fun c_100 => ?_)
        refine wd_aload_n hC dX5_now_103 rfl rfl ?_
        refine cv5i hC cw_X5_152 (r_hasAll hinj _ nm nc hr hnm) dX5_now_104 (by first | decide | omega) (by decide) rfl rfl (Nat.le_of_ble_eq_true rfl) ?_
        refine wd_goto (tgt := 114) hC dX5_now_107 (by decide) ?_
        exact wd_iret hC rfl dX5_now_114 rfl rfl
      · have hin : i < nm := lp_lt hnm c_27 h1 (by omega)
        refine wd_iload_n hC dX5_now_30 rfl rfl ?_
        refine wd_aload_n hC dX5_now_31 rfl rfl ?_
        refine gf_X5_34 hC dX5_now_32 ?_
        refine wd_bipush (v := 12) hC dX5_now_35 rfl ?_
        refine wd_iload_n hC dX5_now_37 rfl rfl ?_
        refine wd_iadd hC dX5_now_38 ?_
        refine rl_s hC dX5_now_39 (12 + i) (addI rfl 12) (by omega) ?_
        refine wd_iadd hC dX5_now_40 ?_
        refine wd_istore_n_4_2 hC dX5_now_41 ?_
        refine wd_iincN_4_3 hC dX5_now_42 ?_
        refine wd_goto (tgt := 20) hC dX5_now_45 (by decide) ?_
        exact ih (i + 1) (by omega) (by omega)
  refine wd_aload_n hC dX5_now_0 rfl rfl ?_
  refine wd_iconst (v := 0) hC dX5_now_1 rfl ?_
  refine pf_X5_62 hC dX5_now_2 ?_
  refine wd_ts (up_00 h0) ?_
  refine wd_iload_n hC dX5_now_5 rfl rfl ?_
  refine wd_iconst (v := 0) hC dX5_now_6 rfl ?_
  refine wd_iconst (v := 5) hC dX5_now_7 rfl ?_
  refine cvsi hC cw_X5_66 (r_in hinj _ _ _ _) dX5_now_8 (by first | decide | omega) (by decide) rfl rfl (Nat.le_of_ble_eq_true rfl) ?_
  refine wd_if_ne (tgt := 16) hC dX5_now_11 (by decide) (fun c_11 => ?_) (fun c_11 => absurd c_11 (bIm (by decide)))
  refine wd_iconst (v := 0) hC dX5_now_16 rfl ?_
  refine wd_istore_n_4_2 hC dX5_now_17 ?_
  refine wd_iconst (v := 0) hC dX5_now_18 rfl ?_
  refine wd_istore_n_4_3 hC dX5_now_19 ?_
  exact loop (nm + 1) 0 (Nat.zero_le _) (by omega)
set_option maxRecDepth 100000 in
set_option maxHeartbeats 4000000 in
theorem r_now_5 {V : wd_V} {ad : Nat → Nat} (hinj : wd_inj rS ad) (σ : wd_S) (h0 : σ.1 0 0 = 0) (nm nc : Nat) (hnm : σ.1 2 1 = nI nm) (hnc : σ.1 2 0 = nI nc) (h6 : nm ≤ 6) (h3 : nc ≤ 3) (hr : rOk (σ.1 3) (σ.1 9) nm nc)  : wd_C rS V ad 6 yX5_now (Cond.code yX5_now cX5_now 4 (some .int) :: wsL_law) σ [.ref (ad 0), .int 5] (wd_eq (some (.int (σ.1 0 21))) (σ)) := by
  refine wd_intro (lv := [some (.ref (ad 0)), some (.int 5), none, none]) hinj (by decide) rfl (Nat.le_of_ble_eq_true rfl) rfl (Nat.le_of_ble_eq_true rfl) (fun K hC => ?_)
  have loop : ∀ (k i : Nat), i ≤ nm → nm < i + k → wd_G rS V ad K 4 (wd_Qm rS V ad K (wd_eq (some (.int (σ.1 0 21))) σ)) 20 [some (.ref (ad 0)), some (.int 5), some (.int (itr (fun m a => a + σ.1 9 (12 + m)) 0 i)), some (.int (nI i))] [] σ := by
    intro k
    induction k with
    | zero =>
      intro i  h1 h2 
      exact absurd h2 (by omega)
    | succ k ih =>
      intro i  h1 h2 
      refine wd_iload_n hC dX5_now_20 rfl rfl ?_
      refine wd_aload_n hC dX5_now_21 rfl rfl ?_
      refine gf_X5_13 hC dX5_now_22 ?_
      refine wd_iconst (v := 1) hC dX5_now_25 rfl ?_
      refine rl_many hC dX5_now_26 1 rfl (by decide) ?_
      refine wd_icmp_ge (tgt := 48) hC dX5_now_27 (by decide) (fun c_27 => ?_) (fun c_27 => ?_)
      · have hin : _ = i := (lp_ge hnm c_27 h1 (by omega)).symm
        subst hin
        refine wd_iload_n hC dX5_now_48 rfl rfl ?_
        refine wd_if_ne (tgt := 62) hC dX5_now_49 (by decide) (fun c_49 => ?_) (fun c_49 => absurd c_49 (by decide))
        refine wd_iload_n hC dX5_now_62 rfl rfl ?_
        refine wd_iconst (v := 1) hC dX5_now_63 rfl ?_
        refine wd_icmp_ne (tgt := 77) hC dX5_now_64 (by decide) (fun c_64 => ?_) (fun c_64 => absurd c_64 (by decide))
        refine wd_iload_n hC dX5_now_77 rfl rfl ?_
        refine wd_iconst (v := 2) hC dX5_now_78 rfl ?_
        refine wd_icmp_ne (tgt := 86) hC dX5_now_79 (by decide) (fun c_79 => ?_) (fun c_79 => absurd c_79 (by decide))
        refine wd_iload_n hC dX5_now_86 rfl rfl ?_
        refine wd_iconst (v := 3) hC dX5_now_87 rfl ?_
        refine wd_icmp_ne (tgt := 98) hC dX5_now_88 (by decide) (fun c_88 => ?_) (fun c_88 => absurd c_88 (by decide))
        refine wd_iload_n hC dX5_now_98 rfl rfl ?_
        refine wd_iconst (v := 4) hC dX5_now_99 rfl ?_
        refine wd_icmp_ne (tgt := 110) hC dX5_now_100 (by decide) (fun c_100 => ?_) (fun c_100 => absurd c_100 (by decide))
        refine wd_aload_n hC dX5_now_110 rfl rfl ?_
        refine gf_X5_117 hC dX5_now_111 ?_
        exact wd_iret hC rfl dX5_now_114 rfl rfl
      · have hin : i < nm := lp_lt hnm c_27 h1 (by omega)
        refine wd_iload_n hC dX5_now_30 rfl rfl ?_
        refine wd_aload_n hC dX5_now_31 rfl rfl ?_
        refine gf_X5_34 hC dX5_now_32 ?_
        refine wd_bipush (v := 12) hC dX5_now_35 rfl ?_
        refine wd_iload_n hC dX5_now_37 rfl rfl ?_
        refine wd_iadd hC dX5_now_38 ?_
        refine rl_s hC dX5_now_39 (12 + i) (addI rfl 12) (by omega) ?_
        refine wd_iadd hC dX5_now_40 ?_
        refine wd_istore_n_4_2 hC dX5_now_41 ?_
        refine wd_iincN_4_3 hC dX5_now_42 ?_
        refine wd_goto (tgt := 20) hC dX5_now_45 (by decide) ?_
        exact ih (i + 1) (by omega) (by omega)
  refine wd_aload_n hC dX5_now_0 rfl rfl ?_
  refine wd_iconst (v := 0) hC dX5_now_1 rfl ?_
  refine pf_X5_62 hC dX5_now_2 ?_
  refine wd_ts (up_00 h0) ?_
  refine wd_iload_n hC dX5_now_5 rfl rfl ?_
  refine wd_iconst (v := 0) hC dX5_now_6 rfl ?_
  refine wd_iconst (v := 5) hC dX5_now_7 rfl ?_
  refine cvsi hC cw_X5_66 (r_in hinj _ _ _ _) dX5_now_8 (by first | decide | omega) (by decide) rfl rfl (Nat.le_of_ble_eq_true rfl) ?_
  refine wd_if_ne (tgt := 16) hC dX5_now_11 (by decide) (fun c_11 => ?_) (fun c_11 => absurd c_11 (bIm (by decide)))
  refine wd_iconst (v := 0) hC dX5_now_16 rfl ?_
  refine wd_istore_n_4_2 hC dX5_now_17 ?_
  refine wd_iconst (v := 0) hC dX5_now_18 rfl ?_
  refine wd_istore_n_4_3 hC dX5_now_19 ?_
  exact loop (nm + 1) 0 (Nat.zero_le _) (by omega)
def rbS (σ : wd_S) (r : Nat → Int32) (m : Nat) (y : Int32) (c : Nat) (p : Int32 × Int32) : Int32 × Int32 := if r (6 + m) - 1 < 0 ∨ ¬ vWorth σ (upd r m (nI c)) (oF r m) < y then (if vHas σ (upd r m (nI c)) m ≤ p.2 then p else (nI c, vHas σ (upd r m (nI c)) m)) else p
def rbV (σ : wd_S) (r : Nat → Int32) (m : Nat) (y : Int32) (nc : Nat) : Int32 × Int32 := itr (rbS σ r m y) (-9, -9) nc

set_option maxRecDepth 100000 in
set_option maxHeartbeats 4000000 in
theorem r_best_bad {V : wd_V} {ad : Nat → Nat} (hinj : wd_inj rS ad) (σ : wd_S) (h0 : σ.1 0 0 = 0) (x y z : Int32) (hB : ¬ (qMan σ x ∧ pIn y 0 999 ∧ pIn z 0 1)) : wd_C rS V ad 2 yX5_best (Cond.code yX5_best cX5_best 9 (some .int) :: wsL_law) σ [.ref (ad 0), .int x, .int y, .int z] (wd_eq (some (.int (-1))) (σ)) := by
  refine wd_intro (lv := [some (.ref (ad 0)), some (.int x), some (.int y), some (.int z), none, none, none, none, none]) hinj (by decide) rfl (Nat.le_of_ble_eq_true rfl) rfl (Nat.le_of_ble_eq_true rfl) (fun K hC => ?_)
  refine wd_aload_n hC dX5_best_0 rfl rfl ?_
  refine wd_iconst (v := 0) hC dX5_best_1 rfl ?_
  refine pf_X5_62 hC dX5_best_2 ?_
  refine wd_ts (up_00 h0) ?_
  refine wd_aload_n hC dX5_best_5 rfl rfl ?_
  refine wd_iload_n hC dX5_best_6 rfl rfl ?_
  refine cv5i hC cw_X5_134 (r_isMan hinj _ _) dX5_best_7 (by first | decide | omega) (by decide) rfl rfl (Nat.le_of_ble_eq_true rfl) ?_
  refine wd_if_eq (tgt := 33) hC dX5_best_10 (by decide) (fun c_10 => ?_) (fun c_10 => ?_)
  · replace c_10 := bI_0.mp c_10
    refine wd_iconst (v := -1) hC dX5_best_33 rfl ?_
    exact wd_iret hC rfl dX5_best_34 rfl rfl
  · replace c_10 := bI_1.mp c_10
    refine wd_iload_n hC dX5_best_13 rfl rfl ?_
    refine wd_iconst (v := 0) hC dX5_best_14 rfl ?_
    refine wd_sipush (v := 999) hC dX5_best_15 rfl ?_
    refine cvsi hC cw_X5_66 (r_in hinj _ _ _ _) dX5_best_18 (by first | decide | omega) (by decide) rfl rfl (Nat.le_of_ble_eq_true rfl) ?_
    refine wd_if_eq (tgt := 33) hC dX5_best_21 (by decide) (fun c_21 => ?_) (fun c_21 => ?_)
    · replace c_21 := bI_0.mp c_21
      refine wd_iconst (v := -1) hC dX5_best_33 rfl ?_
      exact wd_iret hC rfl dX5_best_34 rfl rfl
    · replace c_21 := bI_1.mp c_21
      refine wd_iload_n hC dX5_best_24 rfl rfl ?_
      refine wd_iconst (v := 0) hC dX5_best_25 rfl ?_
      refine wd_iconst (v := 1) hC dX5_best_26 rfl ?_
      refine cvsi hC cw_X5_66 (r_in hinj _ _ _ _) dX5_best_27 (by first | decide | omega) (by decide) rfl rfl (Nat.le_of_ble_eq_true rfl) ?_
      refine wd_if_ne (tgt := 35) hC dX5_best_30 (by decide) (fun c_30 => ?_) (fun c_30 => ?_)
      · replace c_30 := bI_1.mp c_30
        exact absurd ⟨c_10, c_21, c_30⟩ hB
      · replace c_30 := bI_0.mp c_30
        refine wd_iconst (v := -1) hC dX5_best_33 rfl ?_
        exact wd_iret hC rfl dX5_best_34 rfl rfl
set_option maxRecDepth 100000 in
set_option maxHeartbeats 4000000 in
theorem r_best {V : wd_V} {ad : Nat → Nat} (hinj : wd_inj rS ad) (σ : wd_S) (h0 : σ.1 0 0 = 0) (nm nc : Nat) (hnm : σ.1 2 1 = nI nm) (hnc : σ.1 2 0 = nI nc) (h6 : nm ≤ 6) (h3 : nc ≤ 3) (hr : rOk (σ.1 3) (σ.1 9) nm nc) (x : Int32) (m : Nat) (hx : x = nI m) (hm : m < nm) (y z : Int32) (hp : pIn y 0 999) (hz : pIn z 0 1) : wd_C rS V ad 5 yX5_best (Cond.code yX5_best cX5_best 9 (some .int) :: wsL_law) σ [.ref (ad 0), .int x, .int y, .int z] (wd_pi (fun r σ' => r = (if z = 0 then (rbV σ (σ.1 9) m y nc).1 else (rbV σ (σ.1 9) m y nc).2) ∧ scrR σ σ')) := by
  refine wd_intro (lv := [some (.ref (ad 0)), some (.int x), some (.int y), some (.int z), none, none, none, none, none]) hinj (by decide) rfl (Nat.le_of_ble_eq_true rfl) rfl (Nat.le_of_ble_eq_true rfl) (fun K hC => ?_)
  have loop : ∀ (k i : Nat) (v b g : Int32) (o8 : Option Value), i ≤ nc → nc < i + k → itr (rbS σ (σ.1 9) m y) (-9, -9) i = (b, g) → wd_G rS V ad K 9 (wd_Qm rS V ad K (wd_pi (fun r σ' => r = (if z = 0 then (rbV σ (σ.1 9) m y nc).1 else (rbV σ (σ.1 9) m y nc).2) ∧ scrR σ σ'))) 63 [some (.ref (ad 0)), some (.int x), some (.int y), some (.int z), some (.int b), some (.int g), some (.int ((σ.1 9) (6 + m) - 1)), some (.int (nI i)), o8] [] (setR σ 10 (upd (σ.1 9) m v)) := by
    intro k
    induction k with
    | zero =>
      intro i v b g o8 h1 h2 hst
      exact absurd h2 (by omega)
    | succ k ih =>
      intro i v b g o8 h1 h2 hst
      refine wd_iload hC dX5_best_63 rfl ?_
      refine wd_aload_n hC dX5_best_65 rfl rfl ?_
      refine gf_X5_13 hC dX5_best_66 ?_
      refine wd_iconst (v := 0) hC dX5_best_69 rfl ?_
      refine rl_many hC dX5_best_70 0 rfl (by decide) ?_
      refine wd_vi (show _ = nI nc from (by rw [many_set (by decide)]; exact hnc)) ?_
      refine wd_icmp_ge (tgt := 150) hC dX5_best_71 (by decide) (fun c_71 => ?_) (fun c_71 => ?_)
      · have hin : _ = i := (lp_ge (n := nc) rfl c_71 h1 (by omega)).symm
        subst hin
        refine wd_iload_n hC dX5_best_150 rfl rfl ?_
        refine wd_if_ne (tgt := 159) hC dX5_best_151 (by decide) (fun c_151 => ?_) (fun c_151 => ?_)
        · refine wd_iload hC dX5_best_159 rfl ?_
          exact wd_iretP hC rfl dX5_best_161 (⟨_, rfl, (by rw [rbV, hst]; first | rw [if_pos c_151] | rw [if_neg c_151]), _, rfl⟩)
        · refine wd_iload hC dX5_best_154 rfl ?_
          refine wd_goto (tgt := 161) hC dX5_best_156 (by decide) ?_
          exact wd_iretP hC rfl dX5_best_161 (⟨_, rfl, (by rw [rbV, hst]; first | rw [if_pos c_151] | rw [if_neg c_151]), _, rfl⟩)
      · have hin : i < nc := lp_lt (n := nc) rfl c_71 h1 (by omega)
        refine wd_aload_n hC dX5_best_74 rfl rfl ?_
        refine gf_X5_37 hC dX5_best_75 ?_
        refine wd_iconst (v := 0) hC dX5_best_78 rfl ?_
        refine wd_iload_n hC dX5_best_79 rfl rfl ?_
        refine wd_iadd hC dX5_best_80 ?_
        refine wd_iload hC dX5_best_81 rfl ?_
        refine rs_w hC dX5_best_83 (m) (add0 hx) (by omega) ?_
        refine wd_ts (show _ = setR σ 10 (upd (σ.1 9) m (nI i)) from (by rw [setR_up, upd_upd])) ?_
        refine wd_iload hC dX5_best_84 rfl ?_
        refine wd_if_lt (tgt := 103) hC dX5_best_86 (by decide) (fun c_86 => ?_) (fun c_86 => ?_)
        · refine wd_iconst (v := 1) hC dX5_best_103 rfl ?_
          refine wd_goto (tgt := 108) hC dX5_best_104 (by decide) ?_
          refine wd_istore_9_8 hC dX5_best_108 ?_
          refine wd_iload hC dX5_best_110 rfl ?_
          refine wd_if_eq (tgt := 144) hC dX5_best_112 (by decide) (fun c_112 => absurd c_112 (by decide)) (fun c_112 => ?_)
          refine wd_aload_n hC dX5_best_115 rfl rfl ?_
          refine wd_aload_n hC dX5_best_116 rfl rfl ?_
          refine gf_X5_37 hC dX5_best_117 ?_
          refine wd_iload_n hC dX5_best_120 rfl rfl ?_
          refine cv5i hC cw_X5_142 (r_hasR hinj σ 10 (Or.inr rfl) nm nc _ (rOk_upd hr hm (by omega)) x m hx hm) dX5_best_121 (by first | decide | omega) (by decide) rfl rfl (Nat.le_of_ble_eq_true rfl) ?_
          refine wd_iload hC dX5_best_124 rfl ?_
          refine wd_icmp_le (tgt := 144) hC dX5_best_126 (by decide) (fun c_126 => ?_) (fun c_126 => ?_)
          · refine wd_iincN_9_7 hC dX5_best_144 ?_
            refine wd_goto (tgt := 63) hC dX5_best_147 (by decide) ?_
            exact ih (i + 1) _ _ _ _ (by omega) (by omega) (by rw [itr, hst, rbS]; (first | rw [if_pos (Or.inl c_86)] | rw [if_pos (Or.inr c_100)] | rw [if_neg (fun h => h.elim c_86 (fun h => h c_100))]); (first | rw [if_pos c_126] | rw [if_neg c_126] | skip))
          · refine wd_iload hC dX5_best_129 rfl ?_
            refine wd_istore_9_4 hC dX5_best_131 ?_
            refine wd_aload_n hC dX5_best_133 rfl rfl ?_
            refine wd_aload_n hC dX5_best_134 rfl rfl ?_
            refine gf_X5_37 hC dX5_best_135 ?_
            refine wd_iload_n hC dX5_best_138 rfl rfl ?_
            refine cv5i hC cw_X5_142 (r_hasR hinj σ 10 (Or.inr rfl) nm nc _ (rOk_upd hr hm (by omega)) x m hx hm) dX5_best_139 (by first | decide | omega) (by decide) rfl rfl (Nat.le_of_ble_eq_true rfl) ?_
            refine wd_istore_9_5 hC dX5_best_142 ?_
            refine wd_iincN_9_7 hC dX5_best_144 ?_
            refine wd_goto (tgt := 63) hC dX5_best_147 (by decide) ?_
            exact ih (i + 1) _ _ _ _ (by omega) (by omega) (by rw [itr, hst, rbS]; (first | rw [if_pos (Or.inl c_86)] | rw [if_pos (Or.inr c_100)] | rw [if_neg (fun h => h.elim c_86 (fun h => h c_100))]); (first | rw [if_pos c_126] | rw [if_neg c_126] | skip))
        · refine wd_aload_n hC dX5_best_89 rfl rfl ?_
          refine wd_aload_n hC dX5_best_90 rfl rfl ?_
          refine gf_X5_37 hC dX5_best_91 ?_
          refine wd_iload hC dX5_best_94 rfl ?_
          refine cv5i hC cw_X5_128 (r_worthR hinj σ 10 (Or.inr rfl) nm nc _ (rOk_upd hr hm (by omega)) _ _ (hr.o hm (i_le c_86)) (hr.ol hm (i_le c_86))) dX5_best_96 (by first | decide | omega) (by decide) rfl rfl (Nat.le_of_ble_eq_true rfl) ?_
          refine wd_iload_n hC dX5_best_99 rfl rfl ?_
          refine wd_icmp_lt (tgt := 107) hC dX5_best_100 (by decide) (fun c_100 => ?_) (fun c_100 => ?_)
          · refine wd_iconst (v := 0) hC dX5_best_107 rfl ?_
            refine wd_istore_9_8 hC dX5_best_108 ?_
            refine wd_iload hC dX5_best_110 rfl ?_
            refine wd_if_eq (tgt := 144) hC dX5_best_112 (by decide) (fun c_112 => ?_) (fun c_112 => absurd (by decide) c_112)
            refine wd_iincN_9_7 hC dX5_best_144 ?_
            refine wd_goto (tgt := 63) hC dX5_best_147 (by decide) ?_
            exact ih (i + 1) _ _ _ _ (by omega) (by omega) (by rw [itr, hst, rbS]; (first | rw [if_pos (Or.inl c_86)] | rw [if_pos (Or.inr c_100)] | rw [if_neg (fun h => h.elim c_86 (fun h => h c_100))]); (first | rw [if_pos c_126] | rw [if_neg c_126] | skip))
          · refine wd_iconst (v := 1) hC dX5_best_103 rfl ?_
            refine wd_goto (tgt := 108) hC dX5_best_104 (by decide) ?_
            refine wd_istore_9_8 hC dX5_best_108 ?_
            refine wd_iload hC dX5_best_110 rfl ?_
            refine wd_if_eq (tgt := 144) hC dX5_best_112 (by decide) (fun c_112 => absurd c_112 (by decide)) (fun c_112 => ?_)
            refine wd_aload_n hC dX5_best_115 rfl rfl ?_
            refine wd_aload_n hC dX5_best_116 rfl rfl ?_
            refine gf_X5_37 hC dX5_best_117 ?_
            refine wd_iload_n hC dX5_best_120 rfl rfl ?_
            refine cv5i hC cw_X5_142 (r_hasR hinj σ 10 (Or.inr rfl) nm nc _ (rOk_upd hr hm (by omega)) x m hx hm) dX5_best_121 (by first | decide | omega) (by decide) rfl rfl (Nat.le_of_ble_eq_true rfl) ?_
            refine wd_iload hC dX5_best_124 rfl ?_
            refine wd_icmp_le (tgt := 144) hC dX5_best_126 (by decide) (fun c_126 => ?_) (fun c_126 => ?_)
            · refine wd_iincN_9_7 hC dX5_best_144 ?_
              refine wd_goto (tgt := 63) hC dX5_best_147 (by decide) ?_
              exact ih (i + 1) _ _ _ _ (by omega) (by omega) (by rw [itr, hst, rbS]; (first | rw [if_pos (Or.inl c_86)] | rw [if_pos (Or.inr c_100)] | rw [if_neg (fun h => h.elim c_86 (fun h => h c_100))]); (first | rw [if_pos c_126] | rw [if_neg c_126] | skip))
            · refine wd_iload hC dX5_best_129 rfl ?_
              refine wd_istore_9_4 hC dX5_best_131 ?_
              refine wd_aload_n hC dX5_best_133 rfl rfl ?_
              refine wd_aload_n hC dX5_best_134 rfl rfl ?_
              refine gf_X5_37 hC dX5_best_135 ?_
              refine wd_iload_n hC dX5_best_138 rfl rfl ?_
              refine cv5i hC cw_X5_142 (r_hasR hinj σ 10 (Or.inr rfl) nm nc _ (rOk_upd hr hm (by omega)) x m hx hm) dX5_best_139 (by first | decide | omega) (by decide) rfl rfl (Nat.le_of_ble_eq_true rfl) ?_
              refine wd_istore_9_5 hC dX5_best_142 ?_
              refine wd_iincN_9_7 hC dX5_best_144 ?_
              refine wd_goto (tgt := 63) hC dX5_best_147 (by decide) ?_
              exact ih (i + 1) _ _ _ _ (by omega) (by omega) (by rw [itr, hst, rbS]; (first | rw [if_pos (Or.inl c_86)] | rw [if_pos (Or.inr c_100)] | rw [if_neg (fun h => h.elim c_86 (fun h => h c_100))]); (first | rw [if_pos c_126] | rw [if_neg c_126] | skip))
  refine wd_aload_n hC dX5_best_0 rfl rfl ?_
  refine wd_iconst (v := 0) hC dX5_best_1 rfl ?_
  refine pf_X5_62 hC dX5_best_2 ?_
  refine wd_ts (up_00 h0) ?_
  refine wd_aload_n hC dX5_best_5 rfl rfl ?_
  refine wd_iload_n hC dX5_best_6 rfl rfl ?_
  refine cv5i hC cw_X5_134 (r_isMan hinj _ _) dX5_best_7 (by first | decide | omega) (by decide) rfl rfl (Nat.le_of_ble_eq_true rfl) ?_
  refine wd_if_eq (tgt := 33) hC dX5_best_10 (by decide) (fun c_10 => absurd c_10 (bIm (qm_of hnm hx hm h6))) (fun c_10 => ?_)
  refine wd_iload_n hC dX5_best_13 rfl rfl ?_
  refine wd_iconst (v := 0) hC dX5_best_14 rfl ?_
  refine wd_sipush (v := 999) hC dX5_best_15 rfl ?_
  refine cvsi hC cw_X5_66 (r_in hinj _ _ _ _) dX5_best_18 (by first | decide | omega) (by decide) rfl rfl (Nat.le_of_ble_eq_true rfl) ?_
  refine wd_if_eq (tgt := 33) hC dX5_best_21 (by decide) (fun c_21 => absurd c_21 (bIm hp)) (fun c_21 => ?_)
  refine wd_iload_n hC dX5_best_24 rfl rfl ?_
  refine wd_iconst (v := 0) hC dX5_best_25 rfl ?_
  refine wd_iconst (v := 1) hC dX5_best_26 rfl ?_
  refine cvsi hC cw_X5_66 (r_in hinj _ _ _ _) dX5_best_27 (by first | decide | omega) (by decide) rfl rfl (Nat.le_of_ble_eq_true rfl) ?_
  refine wd_if_ne (tgt := 35) hC dX5_best_30 (by decide) (fun c_30 => ?_) (fun c_30 => absurd c_30 (bIm hz))
  refine wd_bipush (v := -9) hC dX5_best_35 rfl ?_
  refine wd_istore_9_4 hC dX5_best_37 ?_
  refine wd_bipush (v := -9) hC dX5_best_39 rfl ?_
  refine wd_istore_9_5 hC dX5_best_41 ?_
  refine wd_aload_n hC dX5_best_43 rfl rfl ?_
  refine gf_X5_34 hC dX5_best_44 ?_
  refine wd_bipush (v := 6) hC dX5_best_47 rfl ?_
  refine wd_iload_n hC dX5_best_49 rfl rfl ?_
  refine wd_iadd hC dX5_best_50 ?_
  refine rl_s hC dX5_best_51 (6 + m) (addI hx 6) (by omega) ?_
  refine wd_iconst (v := 1) hC dX5_best_52 rfl ?_
  refine wd_isub hC dX5_best_53 ?_
  refine wd_istore_9_6 hC dX5_best_54 ?_
  refine wd_aload_n hC dX5_best_56 rfl rfl ?_
  refine cv5v hC cw_X5_169 (r_asNow hinj _) dX5_best_57 (by first | decide | omega) (by decide) rfl rfl (Nat.le_of_ble_eq_true rfl) ?_
  refine wd_iconst (v := 0) hC dX5_best_60 rfl ?_
  refine wd_istore_9_7 hC dX5_best_61 ?_
  refine wd_ts (show setR σ 10 (σ.1 9) = setR σ 10 (upd (σ.1 9) m ((σ.1 9) m)) from (by rw [upd_self])) ?_
  exact loop (nc + 1) 0 _ _ _ _ (Nat.zero_le _) (by omega) rfl
/-- rows that agree but for two places -/
def agr (r w : Nat → Int32) (m o : Nat) : Prop := ∀ k, k ≠ m → k ≠ o → w k = r k
theorem agr_1 {r w : Nat → Int32} {m o : Nat} (h : agr r w m o) (a b : Int32) : upd (upd w m a) o b = upd (upd r m a) o b := by
  funext k
  unfold upd
  by_cases h1 : k = o
  · simp only [if_pos h1]
  · simp only [if_neg h1]
    by_cases h2 : k = m
    · simp only [if_pos h2]
    · simp only [if_neg h2, h k h2 h1]
theorem agr_2 {r w : Nat → Int32} {m o : Nat} (h : agr r w m o) (a b : Int32) : upd (upd w o a) m b = upd (upd r o a) m b := agr_1 (fun k h1 h2 => h k h2 h1) a b
theorem agr_r (r : Nat → Int32) (m o : Nat) : agr r r m o := fun _ _ _ => rfl
theorem agr_u {r : Nat → Int32} {m o : Nat} (a b : Int32) : agr r (upd (upd r m a) o b) m o := fun k h1 h2 => by
  unfold upd
  rw [if_neg h2, if_neg h1]
theorem agr_v {r : Nat → Int32} {m o : Nat} (a b : Int32) : agr r (upd (upd r o a) m b) m o := fun k h1 h2 => by
  unfold upd
  rw [if_neg h1, if_neg h2]
abbrev hW (σ : wd_S) (r : Nat → Int32) (m o a b : Nat) : Int32 := vHas σ (upd (upd r m (nI a)) o (nI b)) m
def rsS (σ : wd_S) (r : Nat → Int32) (m o a b c : Nat) (z : Bool) : Bool := z && decide (¬ hW σ r m o a b < hW σ r m o c b ∧ ¬ hW σ r o m b a < hW σ r o m c a)
def rsD (σ : wd_S) (r : Nat → Int32) (m o a b nc : Nat) : Bool := itr (rsS σ r m o a b) true nc

set_option maxRecDepth 100000 in
set_option maxHeartbeats 4000000 in
theorem r_hasWith {V : wd_V} {ad : Nat → Nat} (hinj : wd_inj rS ad) (σ : wd_S) (nm nc : Nat) (h6 : nm ≤ 6) (h3 : nc ≤ 3) (r : Nat → Int32) (hr : rOk (σ.1 3) r nm nc) (w : Nat → Int32) (x z : Int32) (m o : Nat) (hx : x = nI m) (hz : z = nI o) (hm : m < nm) (ho : o < nm) (a b : Nat) (xa xb : Int32) (ha : xa = nI a) (hb : xb = nI b) (hac : a < nc) (hbc : b < nc) (hw : agr r w m o) : wd_C rS V ad 4 yX5_hasWith (Cond.code yX5_hasWith cX5_hasWith 5 (some .int) :: wsL_law) (setR σ 10 w) [.ref (ad 0), .int x, .int z, .int xa, .int xb] (wd_eq (some (.int (hW σ r m o a b))) (setR σ 10 (upd (upd r m (nI a)) o (nI b)))) := by
  refine wd_intro (lv := [some (.ref (ad 0)), some (.int x), some (.int z), some (.int xa), some (.int xb)]) hinj (by decide) rfl (Nat.le_of_ble_eq_true rfl) rfl (Nat.le_of_ble_eq_true rfl) (fun K hC => ?_)
  refine wd_aload_n hC dX5_hasWith_0 rfl rfl ?_
  refine gf_X5_37 hC dX5_hasWith_1 ?_
  refine wd_iconst (v := 0) hC dX5_hasWith_4 rfl ?_
  refine wd_iload_n hC dX5_hasWith_5 rfl rfl ?_
  refine wd_iadd hC dX5_hasWith_6 ?_
  refine wd_iload_n hC dX5_hasWith_7 rfl rfl ?_
  refine rs_w hC dX5_hasWith_8 (m) (add0 hx) (by omega) ?_
  refine wd_ts (setR_up _ _ _ _ _) ?_
  refine wd_aload_n hC dX5_hasWith_9 rfl rfl ?_
  refine gf_X5_37 hC dX5_hasWith_10 ?_
  refine wd_iconst (v := 0) hC dX5_hasWith_13 rfl ?_
  refine wd_iload_n hC dX5_hasWith_14 rfl rfl ?_
  refine wd_iadd hC dX5_hasWith_15 ?_
  refine wd_iload hC dX5_hasWith_16 rfl ?_
  refine rs_w hC dX5_hasWith_18 (o) (add0 hz) (by omega) ?_
  refine wd_ts (show _ = setR σ 10 (upd (upd r m (nI a)) o (nI b)) from (by rw [setR_up, agr_1 hw, ha, hb])) ?_
  refine wd_aload_n hC dX5_hasWith_19 rfl rfl ?_
  refine wd_aload_n hC dX5_hasWith_20 rfl rfl ?_
  refine gf_X5_37 hC dX5_hasWith_21 ?_
  refine wd_iload_n hC dX5_hasWith_24 rfl rfl ?_
  refine cv5i hC cw_X5_142 (r_hasR hinj σ 10 (Or.inr rfl) nm nc _ (rOk_upd (rOk_upd hr hm hac) ho hbc) x m hx hm) dX5_hasWith_25 (by first | decide | omega) (by decide) rfl rfl (Nat.le_of_ble_eq_true rfl) ?_
  exact wd_iret hC rfl dX5_hasWith_28 rfl rfl
theorem wd_is7 {sd : wd_Side} {V : wd_V} {ad : Nat → Nat} {K : wd_K} {nL : Nat} {Q : State → Prop} {pc : Nat} {a0 a1 a2 a3 a4 a6 : Option Value} {st : List Value} {σ : wd_S} {x : Int32} {z : Bool} (h : x = bI (z = true)) (k : wd_G sd V ad K nL Q pc [a0, a1, a2, a3, a4, some (.int (bI (z = true))), a6] st σ) : wd_G sd V ad K nL Q pc [a0, a1, a2, a3, a4, some (.int x), a6] st σ := h ▸ k

set_option maxRecDepth 100000 in
set_option maxHeartbeats 4000000 in
theorem r_isRest {V : wd_V} {ad : Nat → Nat} (hinj : wd_inj rS ad) (σ : wd_S) (nm nc : Nat) (h6 : nm ≤ 6) (h3 : nc ≤ 3) (r : Nat → Int32) (hr : rOk (σ.1 3) r nm nc) (w : Nat → Int32) (hnc : σ.1 2 0 = nI nc) (x z : Int32) (m o : Nat) (hx : x = nI m) (hz : z = nI o) (hm : m < nm) (ho : o < nm) (a b : Nat) (xa xb : Int32) (ha : xa = nI a) (hb : xb = nI b) (hac : a < nc) (hbc : b < nc) (hw : agr r w m o) : wd_C rS V ad 5 yX5_isRest (Cond.code yX5_isRest cX5_isRest 7 (some .boolean) :: wsL_law) (setR σ 10 w) [.ref (ad 0), .int x, .int z, .int xa, .int xb] (wd_pi (fun v σ' => v = bI (rsD σ r m o a b nc = true) ∧ ∃ w', agr r w' m o ∧ σ' = setR σ 10 w')) := by
  refine wd_intro (lv := [some (.ref (ad 0)), some (.int x), some (.int z), some (.int xa), some (.int xb), none, none]) hinj (by decide) rfl (Nat.le_of_ble_eq_true rfl) rfl (Nat.le_of_ble_eq_true rfl) (fun K hC => ?_)
  have loop : ∀ (k i : Nat) (wi : Nat → Int32) (q : Bool), i ≤ nc → nc < i + k → agr r wi m o → itr (rsS σ r m o a b) true i = q → wd_G rS V ad K 7 (wd_Qm rS V ad K (wd_pi (fun v σ' => v = bI (rsD σ r m o a b nc = true) ∧ ∃ w', agr r w' m o ∧ σ' = setR σ 10 w'))) 6 [some (.ref (ad 0)), some (.int x), some (.int z), some (.int xa), some (.int xb), some (.int (bI (q = true))), some (.int (nI i))] [] (setR σ 10 wi) := by
    intro k
    induction k with
    | zero =>
      intro i wi q h1 h2 hwi hst
      exact absurd h2 (by omega)
    | succ k ih =>
      intro i wi q h1 h2 hwi hst
      refine wd_iload hC dX5_isRest_6 rfl ?_
      refine wd_aload_n hC dX5_isRest_8 rfl rfl ?_
      refine gf_X5_13 hC dX5_isRest_9 ?_
      refine wd_iconst (v := 0) hC dX5_isRest_12 rfl ?_
      refine rl_many hC dX5_isRest_13 0 rfl (by decide) ?_
      refine wd_vi (show _ = nI nc from (by rw [many_set (by decide)]; exact hnc)) ?_
      refine wd_icmp_ge (tgt := 78) hC dX5_isRest_14 (by decide) (fun c_14 => ?_) (fun c_14 => ?_)
      · have hin : _ = i := (lp_ge (n := nc) rfl c_14 h1 (by omega)).symm
        subst hin
        refine wd_iload hC dX5_isRest_78 rfl ?_
        exact wd_zretP hC rfl bI_n dX5_isRest_80 (⟨_, rfl, (by rw [rsD, hst]), _, hwi, rfl⟩)
      · have hin : i < nc := lp_lt (n := nc) rfl c_14 h1 (by omega)
        refine wd_iload hC dX5_isRest_17 rfl ?_
        refine wd_if_eq (tgt := 69) hC dX5_isRest_19 (by decide) (fun c_19 => ?_) (fun c_19 => ?_)
        · replace c_19 := bI_0.mp c_19
          refine wd_iconst (v := 0) hC dX5_isRest_69 rfl ?_
          refine wd_istore_7_5 hC dX5_isRest_70 ?_
          refine wd_iincN_7_6 hC dX5_isRest_72 ?_
          refine wd_goto (tgt := 6) hC dX5_isRest_75 (by decide) ?_
          refine wd_is7 (show _ = bI (rsS σ r m o a b i q = true) from (by first | exact hg_0 c_19 | exact hg_1 c_19 (fun h => h.1 c_41) | exact hg_1 c_19 (fun h => h.2 c_62) | exact hg_2 c_19 ⟨c_41, c_62⟩)) ?_
          exact ih (i + 1) _ _ (by omega) (by omega) (by first | exact hwi | exact agr_u _ _ | exact agr_v _ _) (by rw [itr, hst])
        · replace c_19 := bI_1.mp c_19
          refine wd_aload_n hC dX5_isRest_22 rfl rfl ?_
          refine wd_iload_n hC dX5_isRest_23 rfl rfl ?_
          refine wd_iload_n hC dX5_isRest_24 rfl rfl ?_
          refine wd_iload hC dX5_isRest_25 rfl ?_
          refine wd_iload hC dX5_isRest_27 rfl ?_
          refine cv5i hC cw_X5_172 (r_hasWith hinj σ nm nc h6 h3 r hr _ x z m o hx hz hm ho i b _ xb rfl hb (by omega) hbc hwi) dX5_isRest_29 (by first | decide | omega) (by decide) rfl rfl (Nat.le_of_ble_eq_true rfl) ?_
          refine wd_aload_n hC dX5_isRest_32 rfl rfl ?_
          refine wd_iload_n hC dX5_isRest_33 rfl rfl ?_
          refine wd_iload_n hC dX5_isRest_34 rfl rfl ?_
          refine wd_iload_n hC dX5_isRest_35 rfl rfl ?_
          refine wd_iload hC dX5_isRest_36 rfl ?_
          refine cv5i hC cw_X5_172 (r_hasWith hinj σ nm nc h6 h3 r hr _ x z m o hx hz hm ho a b xa xb ha hb hac hbc (agr_u _ _)) dX5_isRest_38 (by first | decide | omega) (by decide) rfl rfl (Nat.le_of_ble_eq_true rfl) ?_
          refine wd_icmp_gt (tgt := 69) hC dX5_isRest_41 (by decide) (fun c_41 => ?_) (fun c_41 => ?_)
          · refine wd_iconst (v := 0) hC dX5_isRest_69 rfl ?_
            refine wd_istore_7_5 hC dX5_isRest_70 ?_
            refine wd_iincN_7_6 hC dX5_isRest_72 ?_
            refine wd_goto (tgt := 6) hC dX5_isRest_75 (by decide) ?_
            refine wd_is7 (show _ = bI (rsS σ r m o a b i q = true) from (by first | exact hg_0 c_19 | exact hg_1 c_19 (fun h => h.1 c_41) | exact hg_1 c_19 (fun h => h.2 c_62) | exact hg_2 c_19 ⟨c_41, c_62⟩)) ?_
            exact ih (i + 1) _ _ (by omega) (by omega) (by first | exact hwi | exact agr_u _ _ | exact agr_v _ _) (by rw [itr, hst])
          · refine wd_aload_n hC dX5_isRest_44 rfl rfl ?_
            refine wd_iload_n hC dX5_isRest_45 rfl rfl ?_
            refine wd_iload_n hC dX5_isRest_46 rfl rfl ?_
            refine wd_iload hC dX5_isRest_47 rfl ?_
            refine wd_iload_n hC dX5_isRest_49 rfl rfl ?_
            refine cv5i hC cw_X5_172 (r_hasWith hinj σ nm nc h6 h3 r hr _ z x o m hz hx ho hm i a _ xa rfl ha (by omega) hac (agr_v _ _)) dX5_isRest_50 (by first | decide | omega) (by decide) rfl rfl (Nat.le_of_ble_eq_true rfl) ?_
            refine wd_aload_n hC dX5_isRest_53 rfl rfl ?_
            refine wd_iload_n hC dX5_isRest_54 rfl rfl ?_
            refine wd_iload_n hC dX5_isRest_55 rfl rfl ?_
            refine wd_iload hC dX5_isRest_56 rfl ?_
            refine wd_iload_n hC dX5_isRest_58 rfl rfl ?_
            refine cv5i hC cw_X5_172 (r_hasWith hinj σ nm nc h6 h3 r hr _ z x o m hz hx ho hm b a xb xa hb ha hbc hac (agr_u _ _)) dX5_isRest_59 (by first | decide | omega) (by decide) rfl rfl (Nat.le_of_ble_eq_true rfl) ?_
            refine wd_icmp_gt (tgt := 69) hC dX5_isRest_62 (by decide) (fun c_62 => ?_) (fun c_62 => ?_)
            · refine wd_iconst (v := 0) hC dX5_isRest_69 rfl ?_
              refine wd_istore_7_5 hC dX5_isRest_70 ?_
              refine wd_iincN_7_6 hC dX5_isRest_72 ?_
              refine wd_goto (tgt := 6) hC dX5_isRest_75 (by decide) ?_
              refine wd_is7 (show _ = bI (rsS σ r m o a b i q = true) from (by first | exact hg_0 c_19 | exact hg_1 c_19 (fun h => h.1 c_41) | exact hg_1 c_19 (fun h => h.2 c_62) | exact hg_2 c_19 ⟨c_41, c_62⟩)) ?_
              exact ih (i + 1) _ _ (by omega) (by omega) (by first | exact hwi | exact agr_u _ _ | exact agr_v _ _) (by rw [itr, hst])
            · refine wd_iconst (v := 1) hC dX5_isRest_65 rfl ?_
              refine wd_goto (tgt := 70) hC dX5_isRest_66 (by decide) ?_
              refine wd_istore_7_5 hC dX5_isRest_70 ?_
              refine wd_iincN_7_6 hC dX5_isRest_72 ?_
              refine wd_goto (tgt := 6) hC dX5_isRest_75 (by decide) ?_
              refine wd_is7 (show _ = bI (rsS σ r m o a b i q = true) from (by first | exact hg_0 c_19 | exact hg_1 c_19 (fun h => h.1 c_41) | exact hg_1 c_19 (fun h => h.2 c_62) | exact hg_2 c_19 ⟨c_41, c_62⟩)) ?_
              exact ih (i + 1) _ _ (by omega) (by omega) (by first | exact hwi | exact agr_u _ _ | exact agr_v _ _) (by rw [itr, hst])
  refine wd_iconst (v := 1) hC dX5_isRest_0 rfl ?_
  refine wd_istore_7_5 hC dX5_isRest_1 ?_
  refine wd_iconst (v := 0) hC dX5_isRest_3 rfl ?_
  refine wd_istore_7_6 hC dX5_isRest_4 ?_
  exact loop (nc + 1) 0 w true (Nat.zero_le _) (by omega) hw rfl
def rtS (σ : wd_S) (r : Nat → Int32) (m o nc a b : Nat) (p : Int32 × Int32) : Int32 × Int32 := if rsD σ r m o a b nc = true then (p.1 + 1, if p.1 = 0 then 10 * nI a + nI b else p.2) else p
def rtO (σ : wd_S) (r : Nat → Int32) (m o nc a : Nat) (p : Int32 × Int32) : Int32 × Int32 := itr (rtS σ r m o nc a) p nc
def rtV (σ : wd_S) (r : Nat → Int32) (m o nc : Nat) : Int32 × Int32 := itr (rtO σ r m o nc) (0, -9) nc

set_option maxRecDepth 100000 in
set_option maxHeartbeats 4000000 in
theorem r_rest_bad {V : wd_V} {ad : Nat → Nat} (hinj : wd_inj rS ad) (σ : wd_S) (h0 : σ.1 0 0 = 0) (x y : Int32) (hB : ¬ (qMan σ x ∧ pIn y 0 1)) : wd_C rS V ad 2 yX5_rest (Cond.code yX5_rest cX5_rest 8 (some .int) :: wsL_law) σ [.ref (ad 0), .int x, .int y] (wd_eq (some (.int (-1))) (σ)) := by
  refine wd_intro (lv := [some (.ref (ad 0)), some (.int x), some (.int y), none, none, none, none, none]) hinj (by decide) rfl (Nat.le_of_ble_eq_true rfl) rfl (Nat.le_of_ble_eq_true rfl) (fun K hC => ?_)
  refine wd_aload_n hC dX5_rest_0 rfl rfl ?_
  refine wd_iconst (v := 0) hC dX5_rest_1 rfl ?_
  refine pf_X5_62 hC dX5_rest_2 ?_
  refine wd_ts (up_00 h0) ?_
  refine wd_aload_n hC dX5_rest_5 rfl rfl ?_
  refine wd_iload_n hC dX5_rest_6 rfl rfl ?_
  refine cv5i hC cw_X5_134 (r_isMan hinj _ _) dX5_rest_7 (by first | decide | omega) (by decide) rfl rfl (Nat.le_of_ble_eq_true rfl) ?_
  refine wd_if_eq (tgt := 22) hC dX5_rest_10 (by decide) (fun c_10 => ?_) (fun c_10 => ?_)
  · replace c_10 := bI_0.mp c_10
    refine wd_iconst (v := -1) hC dX5_rest_22 rfl ?_
    exact wd_iret hC rfl dX5_rest_23 rfl rfl
  · replace c_10 := bI_1.mp c_10
    refine wd_iload_n hC dX5_rest_13 rfl rfl ?_
    refine wd_iconst (v := 0) hC dX5_rest_14 rfl ?_
    refine wd_iconst (v := 1) hC dX5_rest_15 rfl ?_
    refine cvsi hC cw_X5_66 (r_in hinj _ _ _ _) dX5_rest_16 (by first | decide | omega) (by decide) rfl rfl (Nat.le_of_ble_eq_true rfl) ?_
    refine wd_if_ne (tgt := 24) hC dX5_rest_19 (by decide) (fun c_19 => ?_) (fun c_19 => ?_)
    · replace c_19 := bI_1.mp c_19
      exact absurd ⟨c_10, c_19⟩ hB
    · replace c_19 := bI_0.mp c_19
      refine wd_iconst (v := -1) hC dX5_rest_22 rfl ?_
      exact wd_iret hC rfl dX5_rest_23 rfl rfl
set_option maxRecDepth 100000 in
set_option maxHeartbeats 4000000 in
theorem r_rest_state {V : wd_V} {ad : Nat → Nat} (hinj : wd_inj rS ad) (σ : wd_S) (h0 : σ.1 0 0 = 0) (nm nc : Nat) (hnm : σ.1 2 1 = nI nm) (hnc : σ.1 2 0 = nI nc) (h6 : nm ≤ 6) (h3 : nc ≤ 3) (x : Int32) (m : Nat) (hx : x = nI m) (hm : m < nm) (y : Int32) (hp : pIn y 0 1) (hf : ¬ 0 ≤ σ.1 9 (6 + m) - 1) : wd_C rS V ad 2 yX5_rest (Cond.code yX5_rest cX5_rest 8 (some .int) :: wsL_law) σ [.ref (ad 0), .int x, .int y] (wd_eq (some (.int (-2))) (σ)) := by
  refine wd_intro (lv := [some (.ref (ad 0)), some (.int x), some (.int y), none, none, none, none, none]) hinj (by decide) rfl (Nat.le_of_ble_eq_true rfl) rfl (Nat.le_of_ble_eq_true rfl) (fun K hC => ?_)
  refine wd_aload_n hC dX5_rest_0 rfl rfl ?_
  refine wd_iconst (v := 0) hC dX5_rest_1 rfl ?_
  refine pf_X5_62 hC dX5_rest_2 ?_
  refine wd_ts (up_00 h0) ?_
  refine wd_aload_n hC dX5_rest_5 rfl rfl ?_
  refine wd_iload_n hC dX5_rest_6 rfl rfl ?_
  refine cv5i hC cw_X5_134 (r_isMan hinj _ _) dX5_rest_7 (by first | decide | omega) (by decide) rfl rfl (Nat.le_of_ble_eq_true rfl) ?_
  refine wd_if_eq (tgt := 22) hC dX5_rest_10 (by decide) (fun c_10 => absurd c_10 (bIm (qm_of hnm hx hm h6))) (fun c_10 => ?_)
  refine wd_iload_n hC dX5_rest_13 rfl rfl ?_
  refine wd_iconst (v := 0) hC dX5_rest_14 rfl ?_
  refine wd_iconst (v := 1) hC dX5_rest_15 rfl ?_
  refine cvsi hC cw_X5_66 (r_in hinj _ _ _ _) dX5_rest_16 (by first | decide | omega) (by decide) rfl rfl (Nat.le_of_ble_eq_true rfl) ?_
  refine wd_if_ne (tgt := 24) hC dX5_rest_19 (by decide) (fun c_19 => ?_) (fun c_19 => absurd c_19 (bIm hp))
  refine wd_aload_n hC dX5_rest_24 rfl rfl ?_
  refine gf_X5_34 hC dX5_rest_25 ?_
  refine wd_bipush (v := 6) hC dX5_rest_28 rfl ?_
  refine wd_iload_n hC dX5_rest_30 rfl rfl ?_
  refine wd_iadd hC dX5_rest_31 ?_
  refine rl_s hC dX5_rest_32 (6 + m) (addI hx 6) (by omega) ?_
  refine wd_iconst (v := 1) hC dX5_rest_33 rfl ?_
  refine wd_isub hC dX5_rest_34 ?_
  refine wd_istore_n_8_3 hC dX5_rest_35 ?_
  refine wd_iload_n hC dX5_rest_36 rfl rfl ?_
  refine wd_if_ge (tgt := 43) hC dX5_rest_37 (by decide) (fun c_37 => absurd c_37 hf) (fun c_37 => ?_)
  refine wd_bipush (v := -2) hC dX5_rest_40 rfl ?_
  exact wd_iret hC rfl dX5_rest_42 rfl rfl
set_option maxRecDepth 100000 in
set_option maxHeartbeats 4000000 in
theorem r_rest {V : wd_V} {ad : Nat → Nat} (hinj : wd_inj rS ad) (σ : wd_S) (h0 : σ.1 0 0 = 0) (nm nc : Nat) (hnm : σ.1 2 1 = nI nm) (hnc : σ.1 2 0 = nI nc) (h6 : nm ≤ 6) (h3 : nc ≤ 3) (hr : rOk (σ.1 3) (σ.1 9) nm nc) (x : Int32) (m : Nat) (hx : x = nI m) (hm : m < nm) (y : Int32) (hp : pIn y 0 1) (hf : 0 ≤ σ.1 9 (6 + m) - 1) : wd_C rS V ad 6 yX5_rest (Cond.code yX5_rest cX5_rest 8 (some .int) :: wsL_law) σ [.ref (ad 0), .int x, .int y] (wd_pi (fun r σ' => r = (if y = 0 then (rtV σ (σ.1 9) m (oF (σ.1 9) m) nc).1 else (rtV σ (σ.1 9) m (oF (σ.1 9) m) nc).2) ∧ scrR σ σ')) := by
  refine wd_intro (lv := [some (.ref (ad 0)), some (.int x), some (.int y), none, none, none, none, none]) hinj (by decide) rfl (Nat.le_of_ble_eq_true rfl) rfl (Nat.le_of_ble_eq_true rfl) (fun K hC => ?_)
  have loop : ∀ (k i : Nat) (w0 : Nat → Int32) (n0 f0 : Int32) (o7 : Option Value), i ≤ nc → nc < i + k → agr (σ.1 9) w0 m (oF (σ.1 9) m) → itr (rtO σ (σ.1 9) m (oF (σ.1 9) m) nc) (0, -9) i = (n0, f0) → wd_G rS V ad K 8 (wd_Qm rS V ad K (wd_pi (fun r σ' => r = (if y = 0 then (rtV σ (σ.1 9) m (oF (σ.1 9) m) nc).1 else (rtV σ (σ.1 9) m (oF (σ.1 9) m) nc).2) ∧ scrR σ σ'))) 57 [some (.ref (ad 0)), some (.int x), some (.int y), some (.int ((σ.1 9) (6 + m) - 1)), some (.int n0), some (.int f0), some (.int (nI i)), o7] [] (setR σ 10 w0) := by
    intro k
    induction k with
    | zero =>
      intro i w0 n0 f0 o7 h1 h2 hw0 hst
      exact absurd h2 (by omega)
    | succ k ih =>
      intro i w0 n0 f0 o7 h1 h2 hw0 hst
      refine wd_iload hC dX5_rest_57 rfl ?_
      refine wd_aload_n hC dX5_rest_59 rfl rfl ?_
      refine gf_X5_13 hC dX5_rest_60 ?_
      refine wd_iconst (v := 0) hC dX5_rest_63 rfl ?_
      refine rl_many hC dX5_rest_64 0 rfl (by decide) ?_
      refine wd_vi (show _ = nI nc from (by rw [many_set (by decide)]; exact hnc)) ?_
      refine wd_icmp_ge (tgt := 130) hC dX5_rest_65 (by decide) (fun c_65 => ?_) (fun c_65 => ?_)
      · have hin : _ = i := (lp_ge (n := nc) rfl c_65 h1 (by omega)).symm
        subst hin
        refine wd_iload_n hC dX5_rest_130 rfl rfl ?_
        refine wd_if_ne (tgt := 139) hC dX5_rest_131 (by decide) (fun c_131 => ?_) (fun c_131 => ?_)
        · refine wd_iload hC dX5_rest_139 rfl ?_
          exact wd_iretP hC rfl dX5_rest_141 (⟨_, rfl, (by rw [rtV, hst]; first | rw [if_pos c_131] | rw [if_neg c_131]), _, rfl⟩)
        · refine wd_iload hC dX5_rest_134 rfl ?_
          refine wd_goto (tgt := 141) hC dX5_rest_136 (by decide) ?_
          exact wd_iretP hC rfl dX5_rest_141 (⟨_, rfl, (by rw [rtV, hst]; first | rw [if_pos c_131] | rw [if_neg c_131]), _, rfl⟩)
      · have hin : i < nc := lp_lt (n := nc) rfl c_65 h1 (by omega)
        refine wd_iconst (v := 0) hC dX5_rest_68 rfl ?_
        refine wd_istore_8_7 hC dX5_rest_69 ?_
        have inner : ∀ (k b : Nat) (wi : Nat → Int32) (n f : Int32), b ≤ nc → nc < b + k → agr (σ.1 9) wi m (oF (σ.1 9) m) → itr (rtS σ (σ.1 9) m (oF (σ.1 9) m) nc i) (n0, f0) b = (n, f) → wd_G rS V ad K 8 (wd_Qm rS V ad K (wd_pi (fun r σ' => r = (if y = 0 then (rtV σ (σ.1 9) m (oF (σ.1 9) m) nc).1 else (rtV σ (σ.1 9) m (oF (σ.1 9) m) nc).2) ∧ scrR σ σ'))) 71 [some (.ref (ad 0)), some (.int x), some (.int y), some (.int ((σ.1 9) (6 + m) - 1)), some (.int n), some (.int f), some (.int (nI i)), some (.int (nI b))] [] (setR σ 10 wi) := by
          intro k
          induction k with
          | zero =>
            intro b wi n f h1b h2b hwi hst2
            exact absurd h2b (by omega)
          | succ k ih2 =>
            intro b wi n f h1b h2b hwi hst2
            refine wd_iload hC dX5_rest_71 rfl ?_
            refine wd_aload_n hC dX5_rest_73 rfl rfl ?_
            refine gf_X5_13 hC dX5_rest_74 ?_
            refine wd_iconst (v := 0) hC dX5_rest_77 rfl ?_
            refine rl_many hC dX5_rest_78 0 rfl (by decide) ?_
            refine wd_vi (show _ = nI nc from (by rw [many_set (by decide)]; exact hnc)) ?_
            refine wd_icmp_ge (tgt := 124) hC dX5_rest_79 (by decide) (fun c_79 => ?_) (fun c_79 => ?_)
            · have hbn : _ = b := (lp_ge (n := nc) rfl c_79 h1b (by omega)).symm
              subst hbn
              refine wd_iincN_8_6 hC dX5_rest_124 ?_
              refine wd_goto (tgt := 57) hC dX5_rest_127 (by decide) ?_
              exact ih (i + 1) _ _ _ _ (by omega) (by omega) hwi (by rw [itr, hst]; exact hst2)
            · have hbn : b < nc := lp_lt (n := nc) rfl c_79 h1b (by omega)
              refine wd_aload_n hC dX5_rest_82 rfl rfl ?_
              refine wd_iload_n hC dX5_rest_83 rfl rfl ?_
              refine wd_iload_n hC dX5_rest_84 rfl rfl ?_
              refine wd_iload hC dX5_rest_85 rfl ?_
              refine wd_iload hC dX5_rest_87 rfl ?_
              refine cv5iP hC cw_X5_176 (r_isRest hinj σ nm nc h6 h3 (σ.1 9) hr _ hnc x _ m (oF (σ.1 9) m) hx (hr.o hm hf) hm (hr.ol hm hf) i b _ _ rfl rfl (by omega) (by omega) hwi) dX5_rest_89 (by first | decide | omega) (by decide) rfl rfl (Nat.le_of_ble_eq_true rfl) (fun r_89 σ_89 h_89 => ?_)
              obtain ⟨rfl, w2, hw2, rfl⟩ := h_89
              refine wd_if_eq (tgt := 118) hC dX5_rest_92 (by decide) (fun c_92 => ?_) (fun c_92 => ?_)
              · replace c_92 := bI_0.mp c_92
                refine wd_iincN_8_7 hC dX5_rest_118 ?_
                refine wd_goto (tgt := 71) hC dX5_rest_121 (by decide) ?_
                exact ih2 (b + 1) _ _ _ (by omega) (by omega) hw2 (by rw [itr, hst2, rtS]; first | (rw [if_pos c_92]; first | rw [if_pos c_97]; rfl | rw [if_neg c_97]; rfl) | rw [if_neg c_92])
              · replace c_92 := bI_1.mp c_92
                refine wd_iload hC dX5_rest_95 rfl ?_
                refine wd_if_ne (tgt := 111) hC dX5_rest_97 (by decide) (fun c_97 => ?_) (fun c_97 => ?_)
                · refine wd_iload hC dX5_rest_111 rfl ?_
                  refine wd_istore_8_5 hC dX5_rest_113 ?_
                  refine wd_iinc_8_4 hC dX5_rest_115 rfl ?_
                  refine wd_iincN_8_7 hC dX5_rest_118 ?_
                  refine wd_goto (tgt := 71) hC dX5_rest_121 (by decide) ?_
                  exact ih2 (b + 1) _ _ _ (by omega) (by omega) hw2 (by rw [itr, hst2, rtS]; first | (rw [if_pos c_92]; first | rw [if_pos c_97]; rfl | rw [if_neg c_97]; rfl) | rw [if_neg c_92])
                · refine wd_bipush (v := 10) hC dX5_rest_100 rfl ?_
                  refine wd_iload hC dX5_rest_102 rfl ?_
                  refine wd_imul hC dX5_rest_104 ?_
                  refine wd_iload hC dX5_rest_105 rfl ?_
                  refine wd_iadd hC dX5_rest_107 ?_
                  refine wd_goto (tgt := 113) hC dX5_rest_108 (by decide) ?_
                  refine wd_istore_8_5 hC dX5_rest_113 ?_
                  refine wd_iinc_8_4 hC dX5_rest_115 rfl ?_
                  refine wd_iincN_8_7 hC dX5_rest_118 ?_
                  refine wd_goto (tgt := 71) hC dX5_rest_121 (by decide) ?_
                  exact ih2 (b + 1) _ _ _ (by omega) (by omega) hw2 (by rw [itr, hst2, rtS]; first | (rw [if_pos c_92]; first | rw [if_pos c_97]; rfl | rw [if_neg c_97]; rfl) | rw [if_neg c_92])
        exact inner (nc + 1) 0 _ _ _ (Nat.zero_le _) (by omega) hw0 rfl
  refine wd_aload_n hC dX5_rest_0 rfl rfl ?_
  refine wd_iconst (v := 0) hC dX5_rest_1 rfl ?_
  refine pf_X5_62 hC dX5_rest_2 ?_
  refine wd_ts (up_00 h0) ?_
  refine wd_aload_n hC dX5_rest_5 rfl rfl ?_
  refine wd_iload_n hC dX5_rest_6 rfl rfl ?_
  refine cv5i hC cw_X5_134 (r_isMan hinj _ _) dX5_rest_7 (by first | decide | omega) (by decide) rfl rfl (Nat.le_of_ble_eq_true rfl) ?_
  refine wd_if_eq (tgt := 22) hC dX5_rest_10 (by decide) (fun c_10 => absurd c_10 (bIm (qm_of hnm hx hm h6))) (fun c_10 => ?_)
  refine wd_iload_n hC dX5_rest_13 rfl rfl ?_
  refine wd_iconst (v := 0) hC dX5_rest_14 rfl ?_
  refine wd_iconst (v := 1) hC dX5_rest_15 rfl ?_
  refine cvsi hC cw_X5_66 (r_in hinj _ _ _ _) dX5_rest_16 (by first | decide | omega) (by decide) rfl rfl (Nat.le_of_ble_eq_true rfl) ?_
  refine wd_if_ne (tgt := 24) hC dX5_rest_19 (by decide) (fun c_19 => ?_) (fun c_19 => absurd c_19 (bIm hp))
  refine wd_aload_n hC dX5_rest_24 rfl rfl ?_
  refine gf_X5_34 hC dX5_rest_25 ?_
  refine wd_bipush (v := 6) hC dX5_rest_28 rfl ?_
  refine wd_iload_n hC dX5_rest_30 rfl rfl ?_
  refine wd_iadd hC dX5_rest_31 ?_
  refine rl_s hC dX5_rest_32 (6 + m) (addI hx 6) (by omega) ?_
  refine wd_iconst (v := 1) hC dX5_rest_33 rfl ?_
  refine wd_isub hC dX5_rest_34 ?_
  refine wd_istore_n_8_3 hC dX5_rest_35 ?_
  refine wd_iload_n hC dX5_rest_36 rfl rfl ?_
  refine wd_if_ge (tgt := 43) hC dX5_rest_37 (by decide) (fun c_37 => ?_) (fun c_37 => absurd hf c_37)
  refine wd_aload_n hC dX5_rest_43 rfl rfl ?_
  refine cv5v hC cw_X5_169 (r_asNow hinj _) dX5_rest_44 (by first | decide | omega) (by decide) rfl rfl (Nat.le_of_ble_eq_true rfl) ?_
  refine wd_iconst (v := 0) hC dX5_rest_47 rfl ?_
  refine wd_istore_8_4 hC dX5_rest_48 ?_
  refine wd_bipush (v := -9) hC dX5_rest_50 rfl ?_
  refine wd_istore_8_5 hC dX5_rest_52 ?_
  refine wd_iconst (v := 0) hC dX5_rest_54 rfl ?_
  refine wd_istore_8_6 hC dX5_rest_55 ?_
  exact loop (nc + 1) 0 _ _ _ _ (Nat.zero_le _) (by omega) (agr_r _ _ _) rfl

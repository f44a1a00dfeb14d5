/-! ===== the class: hungry, now ===== -/
def wHungs (T M : Nat → Nat → Int32) : Int32 := itr (fun m b => if wHung T M m = true then b ||| ((1 : Int32) <<< (nI m &&& 31)) else b) 0 (nMen T)

theorem c_isManV {V : wd_V} {ad : Nat → Nat} (hinj : wd_inj cS ad) (σ : wd_S) (ht : σ.2.2 < 2) (M : Nat → Nat → Int32) (x : Int32) : wd_C cS V ad 1 yX4_isMan (Cond.code yX4_isMan cX4_isMan 2 (some .boolean) :: wsL_law) (stM σ 1 M) [.ref (ad 0), .int x] (wd_eq (some (.int (bI (pMan (tv σ) x)))) (stM σ 1 M)) := by
  have h := c_isMan (V := V) hinj (stM σ 1 M) ht x
  rw [tv_st _ _ _ ht] at h
  exact h

set_option maxRecDepth 100000 in
set_option maxHeartbeats 4000000 in
theorem c_hungryBits {V : wd_V} {ad : Nat → Nat} (hinj : wd_inj cS ad) (σ : wd_S) (ht : σ.2.2 < 2) (hT : tOk (tv σ)) (M0 : Nat → Nat → Int32) (hz0 : mz M0) (hM0 : mOk M0) (hM : mOk (mv σ 0))  : wd_C cS V ad 5 yX4_hungryBits (Cond.code yX4_hungryBits cX4_hungryBits 3 (some .int) :: wsL_law) (stM σ 1 M0) [.ref (ad 0)] (wd_pi (fun r σ' => r = wHungs (tv σ) (mv σ 0) ∧ scr σ σ')) := by
  refine wd_intro (lv := [some (.ref (ad 0)), none, none]) hinj (by decide) rfl (Nat.le_of_ble_eq_true rfl) rfl (Nat.le_of_ble_eq_true rfl) (fun K hC => ?_)
  have h6 := hT.m6
  have h3 := hT.c3
  have loop : ∀ (k i : Nat) (Mi : Nat → Nat → Int32) (b : Int32), i ≤ (nMen (tv σ)) → (nMen (tv σ)) < i + k → mz Mi → mOk Mi → itr (fun m b => if wHung (tv σ) (mv σ 0) m = true then b ||| ((1 : Int32) <<< (nI m &&& 31)) else b) 0 i = b → wd_G cS V ad K 3 (wd_Qm cS V ad K (wd_pi (fun r σ' => r = wHungs (tv σ) (mv σ 0) ∧ scr σ σ'))) 4 [some (.ref (ad 0)), some (.int b), some (.int (nI i))] [] (stM σ 1 Mi) := by
    intro k
    induction k with
    | zero =>
      intro i Mi b h1 h2 hzi hMi hb
      exact absurd h2 (by omega)
    | succ k ih =>
      intro i Mi b h1 h2 hzi hMi hb
      refine wd_iload_n hC dX4_hungryBits_4 rfl rfl ?_
      refine wd_aload_n hC dX4_hungryBits_5 rfl rfl ?_
      refine gf_X4_19 hC dX4_hungryBits_6 ?_
      refine gf_X4_76 hC dX4_hungryBits_9 ?_
      refine wd_icmp_ge (tgt := 35) hC dX4_hungryBits_12 (by decide) (fun c_12 => ?_) (fun c_12 => ?_)
      · have hin : i = _ := lp_ge (men_st ht hT) c_12 h1 (by omega)
        subst hin
        refine wd_iload_n hC dX4_hungryBits_35 rfl rfl ?_
        exact wd_iretP hC rfl dX4_hungryBits_36 (⟨_, rfl, hb.symm, Mi, hzi, hMi, rfl⟩)
      · have hin : i < _ := lp_lt (men_st ht hT) c_12 h1 (by omega)
        refine wd_aload_n hC dX4_hungryBits_15 rfl rfl ?_
        refine wd_iload_n hC dX4_hungryBits_16 rfl rfl ?_
        refine cv4iP hC cw_X4_185 (c_isHungry hinj σ ht hT Mi hM _ i rfl (by omega)) dX4_hungryBits_17 (by first | decide | omega) (by decide) rfl rfl (Nat.le_of_ble_eq_true rfl) (fun r_17 σ_17 h_17 => ?_)
        obtain ⟨rfl, M2, hz2, hM2, rfl⟩ := h_17
        refine wd_if_eq (tgt := 29) hC dX4_hungryBits_20 (by decide) (fun c_20 => ?_) (fun c_20 => ?_)
        · replace c_20 := bI_0.mp c_20
          refine wd_iincN_3_2 hC dX4_hungryBits_29 ?_
          refine wd_goto (tgt := 4) hC dX4_hungryBits_32 (by decide) ?_
          exact ih (i + 1) _ _ (by omega) (by omega) hz2 hM2 (by rw [itr, hb]; first | rw [if_pos c_20] | rw [if_neg c_20])
        · replace c_20 := bI_1.mp c_20
          refine wd_iload_n hC dX4_hungryBits_23 rfl rfl ?_
          refine wd_iconst (v := 1) hC dX4_hungryBits_24 rfl ?_
          refine wd_iload_n hC dX4_hungryBits_25 rfl rfl ?_
          refine wd_ishl hC dX4_hungryBits_26 ?_
          refine wd_ior hC dX4_hungryBits_27 ?_
          refine wd_istore_n_3_1 hC dX4_hungryBits_28 ?_
          refine wd_iincN_3_2 hC dX4_hungryBits_29 ?_
          refine wd_goto (tgt := 4) hC dX4_hungryBits_32 (by decide) ?_
          exact ih (i + 1) _ _ (by omega) (by omega) hz2 hM2 (by rw [itr, hb]; first | rw [if_pos c_20] | rw [if_neg c_20])
  refine wd_iconst (v := 0) hC dX4_hungryBits_0 rfl ?_
  refine wd_istore_n_3_1 hC dX4_hungryBits_1 ?_
  refine wd_iconst (v := 0) hC dX4_hungryBits_2 rfl ?_
  refine wd_istore_n_3_2 hC dX4_hungryBits_3 ?_
  exact loop (nMen (tv σ) + 1) 0 M0 0 (Nat.zero_le _) (by omega) hz0 hM0 rfl
set_option maxRecDepth 100000 in
set_option maxHeartbeats 4000000 in
theorem c_hungry_bad {V : wd_V} {ad : Nat → Nat} (hinj : wd_inj cS ad) (σ : wd_S) (ht : σ.2.2 < 2) (x : Int32) (hB : ¬ pMan (tv σ) x) : wd_C cS V ad 2 yX4_hungry (Cond.code yX4_hungry cX4_hungry 2 (some .int) :: wsL_law) σ [.ref (ad 0), .int x] (wd_eq (some (.int (-1))) (σ)) := by
  refine wd_intro (lv := [some (.ref (ad 0)), some (.int x)]) hinj (by decide) rfl (Nat.le_of_ble_eq_true rfl) rfl (Nat.le_of_ble_eq_true rfl) (fun K hC => ?_)
  refine wd_aload_n hC dX4_hungry_0 rfl rfl ?_
  refine wd_iload_n hC dX4_hungry_1 rfl rfl ?_
  refine cv4i hC cw_X4_85 (c_isMan hinj _ ht _) dX4_hungry_2 (by first | decide | omega) (by decide) rfl rfl (Nat.le_of_ble_eq_true rfl) ?_
  refine wd_if_ne (tgt := 10) hC dX4_hungry_5 (by decide) (fun c_5 => ?_) (fun c_5 => ?_)
  · replace c_5 := bI_1.mp c_5
    exact absurd c_5 hB
  · replace c_5 := bI_0.mp c_5
    refine wd_iconst (v := -1) hC dX4_hungry_8 rfl ?_
    exact wd_iret hC rfl dX4_hungry_9 rfl rfl
theorem wd_self {P : wd_S → Prop} (σ : wd_S) (h : P (stM σ 1 (mv σ 1))) : P σ := (stM_self σ 1) ▸ h
set_option maxRecDepth 100000 in
set_option maxHeartbeats 4000000 in
theorem c_hungry {V : wd_V} {ad : Nat → Nat} (hinj : wd_inj cS ad) (σ : wd_S) (ht : σ.2.2 < 2) (hT : tOk (tv σ)) (x : Int32) (m : Nat) (hx : x = nI m) (hm : m < nMen (tv σ)) (hM : mOk (mv σ 0)) (hM1 : mOk (mv σ 1))  : wd_C cS V ad 5 yX4_hungry (Cond.code yX4_hungry cX4_hungry 2 (some .int) :: wsL_law) σ [.ref (ad 0), .int x] (wd_pi (fun r σ' => r = bI (wHung (tv σ) (mv σ 0) m = true) ∧ scr σ σ')) := by
  refine wd_intro (lv := [some (.ref (ad 0)), some (.int x)]) hinj (by decide) rfl (Nat.le_of_ble_eq_true rfl) rfl (Nat.le_of_ble_eq_true rfl) (fun K hC => ?_)
  have h6 := hT.m6
  have h3 := hT.c3
  have hT1 : tOk (tv σ) := hT
  refine wd_ts (stM_self σ 1).symm ?_
  refine wd_aload_n hC dX4_hungry_0 rfl rfl ?_
  refine wd_iload_n hC dX4_hungry_1 rfl rfl ?_
  refine cv4i hC cw_X4_85 (c_isManV hinj σ ht _ _) dX4_hungry_2 (by first | decide | omega) (by decide) rfl rfl (Nat.le_of_ble_eq_true rfl) ?_
  refine wd_if_ne (tgt := 10) hC dX4_hungry_5 (by decide) (fun c_5 => ?_) (fun c_5 => absurd c_5 (bIm (pm_of hT1 hx hm)))
  refine wd_aload_n hC dX4_hungry_10 rfl rfl ?_
  refine wd_iload_n hC dX4_hungry_11 rfl rfl ?_
  refine cv4iP hC cw_X4_185 (c_isHungry hinj σ ht hT (mv σ 1) hM _ m hx (by omega)) dX4_hungry_12 (by first | decide | omega) (by decide) rfl rfl (Nat.le_of_ble_eq_true rfl) (fun r_12 σ_12 h_12 => ?_)
  obtain ⟨rfl, hs⟩ := h_12
  refine wd_if_eq (tgt := 22) hC dX4_hungry_15 (by decide) (fun c_15 => ?_) (fun c_15 => ?_)
  · replace c_15 := bI_0.mp c_15
    refine wd_iconst (v := 0) hC dX4_hungry_22 rfl ?_
    exact wd_iretP hC rfl dX4_hungry_23 ((by first | exact ⟨_, rfl, bI_t c_15, hs⟩ | exact ⟨_, rfl, bI_f c_15, hs⟩))
  · replace c_15 := bI_1.mp c_15
    refine wd_iconst (v := 1) hC dX4_hungry_18 rfl ?_
    refine wd_goto (tgt := 23) hC dX4_hungry_19 (by decide) ?_
    exact wd_iretP hC rfl dX4_hungry_23 ((by first | exact ⟨_, rfl, bI_t c_15, hs⟩ | exact ⟨_, rfl, bI_f c_15, hs⟩))
def nowV (T M : Nat → Nat → Int32) (h w : Int32) : Int32 := if w = 0 then M 0 6 else if w = 1 then M 0 5 else if w = 2 then wRopes T M else if w = 3 then wHungs T M else if w = 4 then wAll T M else if w = 5 then h else -1
set_option maxRecDepth 100000 in
set_option maxHeartbeats 4000000 in
theorem c_now {V : wd_V} {ad : Nat → Nat} (hinj : wd_inj cS ad) (σ : wd_S) (ht : σ.2.2 < 2) (hT : tOk (tv σ)) (hM : mOk (mv σ 0)) (hM1 : mOk (mv σ 1)) (x : Int32) : wd_C cS V ad 6 yX4_now (Cond.code yX4_now cX4_now 2 (some .int) :: wsL_law) σ [.ref (ad 0), .int x] (wd_pi (fun r σ' => r = nowV (tv σ) (mv σ 0) (lHeld σ) x ∧ scr σ σ')) := by
  refine wd_intro (lv := [some (.ref (ad 0)), some (.int x)]) hinj (by decide) rfl (Nat.le_of_ble_eq_true rfl) rfl (Nat.le_of_ble_eq_true rfl) (fun K hC => ?_)
  refine wd_iload_n hC dX4_now_0 rfl rfl ?_
  by_cases e_0 : x = 0
  · refine wd_vi e_0 ?_
    refine wd_tableIn (off := 39) (tgt := 40) hC dX4_now_1 (by decide) (by decide) rfl (by decide) ?_
    refine wd_aload_n hC dX4_now_40 rfl rfl ?_
    refine gf_X4_29 hC dX4_now_41 ?_
    refine gf_X4_135 hC dX4_now_44 ?_
    exact wd_iretP hC rfl dX4_now_47 (⟨_, rfl, (by rw [nowV, if_pos e_0]; try rfl), scr_rf hM1⟩)
  · skip
    by_cases e_1 : x = 1
    · refine wd_vi e_1 ?_
      refine wd_tableIn (off := 47) (tgt := 48) hC dX4_now_1 (by decide) (by decide) rfl (by decide) ?_
      refine wd_aload_n hC dX4_now_48 rfl rfl ?_
      refine gf_X4_29 hC dX4_now_49 ?_
      refine gf_X4_138 hC dX4_now_52 ?_
      exact wd_iretP hC rfl dX4_now_55 (⟨_, rfl, (by rw [nowV, if_neg e_0, if_pos e_1]; try rfl), scr_rf hM1⟩)
    · skip
      by_cases e_2 : x = 2
      · refine wd_vi e_2 ?_
        refine wd_tableIn (off := 55) (tgt := 56) hC dX4_now_1 (by decide) (by decide) rfl (by decide) ?_
        refine wd_aload_n hC dX4_now_56 rfl rfl ?_
        refine cv4i hC cw_X4_141 (c_ropesOfAll hinj σ ht hT) dX4_now_57 (by first | decide | omega) (by decide) rfl rfl (Nat.le_of_ble_eq_true rfl) ?_
        exact wd_iretP hC rfl dX4_now_60 (⟨_, rfl, (by rw [nowV, if_neg e_0, if_neg e_1, if_pos e_2]; try rfl), scr_rf hM1⟩)
      · skip
        by_cases e_3 : x = 3
        · refine wd_vi e_3 ?_
          refine wd_tableIn (off := 60) (tgt := 61) hC dX4_now_1 (by decide) (by decide) rfl (by decide) ?_
          refine wd_ts (stM_self σ 1).symm ?_
          refine wd_aload_n hC dX4_now_61 rfl rfl ?_
          refine cv4iP hC cw_X4_145 (c_hungryBits hinj σ ht hT (mv σ 1) (mz_mv σ 1) hM1 hM) dX4_now_62 (by first | decide | omega) (by decide) rfl rfl (Nat.le_of_ble_eq_true rfl) (fun r_62 σ_62 h_62 => ?_)
          obtain ⟨rfl, hs⟩ := h_62
          exact wd_iretP hC rfl dX4_now_65 (⟨_, rfl, (by rw [nowV, if_neg e_0, if_neg e_1, if_neg e_2, if_pos e_3]; try rfl), hs⟩)
        · skip
          by_cases e_4 : x = 4
          · refine wd_vi e_4 ?_
            refine wd_tableIn (off := 65) (tgt := 66) hC dX4_now_1 (by decide) (by decide) rfl (by decide) ?_
            refine wd_aload_n hC dX4_now_66 rfl rfl ?_
            refine cv4i hC cw_X4_148 (c_wealthOfAll hinj σ ht hT hM) dX4_now_67 (by first | decide | omega) (by decide) rfl rfl (Nat.le_of_ble_eq_true rfl) ?_
            exact wd_iretP hC rfl dX4_now_70 (⟨_, rfl, (by rw [nowV, if_neg e_0, if_neg e_1, if_neg e_2, if_neg e_3, if_pos e_4]; try rfl), scr_rf hM1⟩)
          · skip
            by_cases e_5 : x = 5
            · refine wd_vi e_5 ?_
              refine wd_tableIn (off := 70) (tgt := 71) hC dX4_now_1 (by decide) (by decide) rfl (by decide) ?_
              refine wd_aload_n hC dX4_now_71 rfl rfl ?_
              refine gf_X4_39 hC dX4_now_72 ?_
              refine gf_X4_79 hC dX4_now_75 ?_
              exact wd_iretP hC rfl dX4_now_78 (⟨_, rfl, (by rw [nowV, if_neg e_0, if_neg e_1, if_neg e_2, if_neg e_3, if_neg e_4, if_pos e_5]; try rfl), scr_rf hM1⟩)
            · skip
              refine wd_tableOut (tgt := 79) hC dX4_now_1 (sw_out 5 (fun k hk => by rcases (show k = 0 ∨ k = 1 ∨ k = 2 ∨ k = 3 ∨ k = 4 ∨ k = 5 by omega) with rfl | rfl | rfl | rfl | rfl | rfl <;> assumption)) (by decide) ?_
              refine wd_iconst (v := -1) hC dX4_now_79 rfl ?_
              exact wd_iretP hC rfl dX4_now_80 (⟨_, rfl, (by rw [nowV, if_neg e_0, if_neg e_1, if_neg e_2, if_neg e_3, if_neg e_4, if_neg e_5]; try rfl), scr_rf hM1⟩)
/-! ===== the class: best, rest ===== -/
def bestS (T M : Nat → Nat → Int32) (m : Nat) (y : Int32) (c : Nat) (s : Int32 × Int32) : Int32 × Int32 :=
  if M 2 m < 0 ∨ ¬ wTaken T (u2 M 1 m (nI c)) (nFac M m) * T 2 c < y then (if s.1 = -9 then (nI c, wHas T (u2 M 1 m (nI c)) m) else if wHas T (u2 M 1 m (nI c)) m ≤ s.2 then s else (nI c, wHas T (u2 M 1 m (nI c)) m)) else s
def bestV (T M : Nat → Nat → Int32) (m : Nat) (y : Int32) : Int32 × Int32 := itr (bestS T M m y) (-9, -9) (nCrops T)

set_option maxRecDepth 100000 in
set_option maxHeartbeats 4000000 in
theorem c_best_bad {V : wd_V} {ad : Nat → Nat} (hinj : wd_inj cS ad) (σ : wd_S) (ht : σ.2.2 < 2) (x y z : Int32) (hB : ¬ (pMan (tv σ) x ∧ 0 ≤ y ∧ y ≤ 999 ∧ pBelow z 2)) : wd_C cS V ad 2 yX4_best (Cond.code yX4_best cX4_best 10 (some .int) :: wsL_law) σ [.ref (ad 0), .int x, .int y, .int z] (wd_eq (some (.int (-1))) (σ)) := by
  refine wd_intro (lv := [some (.ref (ad 0)), some (.int x), some (.int y), some (.int z), none, none, none, none, none, none]) hinj (by decide) rfl (Nat.le_of_ble_eq_true rfl) rfl (Nat.le_of_ble_eq_true rfl) (fun K hC => ?_)
  refine wd_aload_n hC dX4_best_0 rfl rfl ?_
  refine wd_iload_n hC dX4_best_1 rfl rfl ?_
  refine cv4i hC cw_X4_85 (c_isMan hinj _ ht _) dX4_best_2 (by first | decide | omega) (by decide) rfl rfl (Nat.le_of_ble_eq_true rfl) ?_
  refine wd_if_eq (tgt := 27) hC dX4_best_5 (by decide) (fun c_5 => ?_) (fun c_5 => ?_)
  · replace c_5 := bI_0.mp c_5
    refine wd_iconst (v := -1) hC dX4_best_27 rfl ?_
    exact wd_iret hC rfl dX4_best_28 rfl rfl
  · replace c_5 := bI_1.mp c_5
    refine wd_iload_n hC dX4_best_8 rfl rfl ?_
    refine wd_if_lt (tgt := 27) hC dX4_best_9 (by decide) (fun c_9 => ?_) (fun c_9 => ?_)
    · refine wd_iconst (v := -1) hC dX4_best_27 rfl ?_
      exact wd_iret hC rfl dX4_best_28 rfl rfl
    · refine wd_iload_n hC dX4_best_12 rfl rfl ?_
      refine wd_sipush (v := 999) hC dX4_best_13 rfl ?_
      refine wd_icmp_gt (tgt := 27) hC dX4_best_16 (by decide) (fun c_16 => ?_) (fun c_16 => ?_)
      · refine wd_iconst (v := -1) hC dX4_best_27 rfl ?_
        exact wd_iret hC rfl dX4_best_28 rfl rfl
      · refine wd_iload_n hC dX4_best_19 rfl rfl ?_
        refine wd_iconst (v := 2) hC dX4_best_20 rfl ?_
        refine cvsi hC cw_X4_155 (c_isBelow hinj _ _ _) dX4_best_21 (by first | decide | omega) (by decide) rfl rfl (Nat.le_of_ble_eq_true rfl) ?_
        refine wd_if_ne (tgt := 29) hC dX4_best_24 (by decide) (fun c_24 => ?_) (fun c_24 => ?_)
        · replace c_24 := bI_1.mp c_24
          exact absurd ⟨c_5, i_le c_9, i_le c_16, c_24⟩ hB
        · replace c_24 := bI_0.mp c_24
          refine wd_iconst (v := -1) hC dX4_best_27 rfl ?_
          exact wd_iret hC rfl dX4_best_28 rfl rfl
set_option maxRecDepth 100000 in
set_option maxHeartbeats 4000000 in
theorem c_best {V : wd_V} {ad : Nat → Nat} (hinj : wd_inj cS ad) (σ : wd_S) (ht : σ.2.2 < 2) (hT : tOk (tv σ)) (x : Int32) (m : Nat) (hx : x = nI m) (hm : m < nMen (tv σ)) (hM : mOk (mv σ 0)) (y z : Int32) (h0 : 0 ≤ y) (h9 : y ≤ 999) (hp : pBelow z 2) : wd_C cS V ad 4 yX4_best (Cond.code yX4_best cX4_best 10 (some .int) :: wsL_law) σ [.ref (ad 0), .int x, .int y, .int z] (wd_pi (fun r σ' => r = (if z = 0 then (bestV (tv σ) (mv σ 0) m y).1 else (bestV (tv σ) (mv σ 0) m y).2) ∧ scr σ σ')) := by
  refine wd_intro (lv := [some (.ref (ad 0)), some (.int x), some (.int y), some (.int z), none, none, none, none, none, none]) hinj (by decide) rfl (Nat.le_of_ble_eq_true rfl) rfl (Nat.le_of_ble_eq_true rfl) (fun K hC => ?_)
  have h6 := hT.m6
  have h3 := hT.c3
  have loop : ∀ (k i : Nat) (v b g : Int32) (o8 o9 : Option Value), i ≤ (nCrops (tv σ)) → (nCrops (tv σ)) < i + k → mOk (u2 (mv σ 0) 1 m v) → itr (bestS (tv σ) (mv σ 0) m y) (-9, -9) i = (b, g) → wd_G cS V ad K 10 (wd_Qm cS V ad K (wd_pi (fun r σ' => r = (if z = 0 then (bestV (tv σ) (mv σ 0) m y).1 else (bestV (tv σ) (mv σ 0) m y).2) ∧ scr σ σ'))) 62 [some (.ref (ad 0)), some (.int x), some (.int y), some (.int z), some (.int (mv σ 0 2 m)), some (.int b), some (.int g), some (.int (nI i)), o8, o9] [] (stM σ 1 (u2 (mv σ 0) 1 m v)) := by
    intro k
    induction k with
    | zero =>
      intro i v b g o8 o9 h1 h2 hv hst
      exact absurd h2 (by omega)
    | succ k ih =>
      intro i v b g o8 o9 h1 h2 hv hst
      refine wd_iload hC dX4_best_62 rfl ?_
      refine wd_aload_n hC dX4_best_64 rfl rfl ?_
      refine gf_X4_19 hC dX4_best_65 ?_
      refine gf_X4_176 hC dX4_best_68 ?_
      refine wd_icmp_ge (tgt := 166) hC dX4_best_71 (by decide) (fun c_71 => ?_) (fun c_71 => ?_)
      · have hin : i = _ := lp_ge (crops_st ht hT) c_71 h1 (by omega)
        subst hin
        refine wd_iload_n hC dX4_best_166 rfl rfl ?_
        refine wd_if_ne (tgt := 175) hC dX4_best_167 (by decide) (fun c_167 => ?_) (fun c_167 => ?_)
        · refine wd_iload hC dX4_best_175 rfl ?_
          exact wd_iretP hC rfl dX4_best_177 (⟨_, rfl, (by rw [bestV, hst]; first | rw [if_pos c_167] | rw [if_neg c_167]), _, mz_u2 (mz_mv σ 0) (by decide) _ _, hv, rfl⟩)
        · refine wd_iload hC dX4_best_170 rfl ?_
          refine wd_goto (tgt := 177) hC dX4_best_172 (by decide) ?_
          exact wd_iretP hC rfl dX4_best_177 (⟨_, rfl, (by rw [bestV, hst]; first | rw [if_pos c_167] | rw [if_neg c_167]), _, mz_u2 (mz_mv σ 0) (by decide) _ _, hv, rfl⟩)
      · have hin : i < _ := lp_lt (crops_st ht hT) c_71 h1 (by omega)
        refine wd_aload_n hC dX4_best_74 rfl rfl ?_
        refine gf_X4_33 hC dX4_best_75 ?_
        refine gf_X4_98 hC dX4_best_78 ?_
        refine wd_iload_n hC dX4_best_81 rfl rfl ?_
        refine wd_iload hC dX4_best_82 rfl ?_
        refine st_m hC dX4_best_84 (m) hx (by omega) ?_
        refine wd_ts (show _ = stM σ 1 (u2 (mv σ 0) 1 m (nI i)) from (by rw [stM_up _ _ _ (by decide), u2_u2])) ?_
        refine wd_iload hC dX4_best_85 rfl ?_
        refine wd_if_lt (tgt := 115) hC dX4_best_87 (by decide) (fun c_87 => ?_) (fun c_87 => ?_)
        · refine wd_iconst (v := 1) hC dX4_best_115 rfl ?_
          refine wd_goto (tgt := 120) hC dX4_best_116 (by decide) ?_
          refine wd_istore_10_8 hC dX4_best_120 ?_
          refine wd_aload_n hC dX4_best_122 rfl rfl ?_
          refine wd_aload_n hC dX4_best_123 rfl rfl ?_
          refine gf_X4_33 hC dX4_best_124 ?_
          refine wd_iload_n hC dX4_best_127 rfl rfl ?_
          refine cv4i hC cw_X4_129 (c_wealthV hinj σ ht 1 (by decide) _ (mz_u2 (mz_mv σ 0) (by decide) _ _) (mOk_s hM m (by omega)) x m hx (by omega)) dX4_best_128 (by first | decide | omega) (by decide) rfl rfl (Nat.le_of_ble_eq_true rfl) ?_
          refine wd_istore_10_9 hC dX4_best_131 ?_
          refine wd_iload hC dX4_best_133 rfl ?_
          refine wd_if_eq (tgt := 160) hC dX4_best_135 (by decide) (fun c_135 => absurd c_135 (by decide)) (fun c_135 => ?_)
          refine wd_iload hC dX4_best_138 rfl ?_
          refine wd_bipush (v := -9) hC dX4_best_140 rfl ?_
          refine wd_icmp_eq (tgt := 152) hC dX4_best_142 (by decide) (fun c_142 => ?_) (fun c_142 => ?_)
          · refine wd_iload hC dX4_best_152 rfl ?_
            refine wd_istore_10_5 hC dX4_best_154 ?_
            refine wd_iload hC dX4_best_156 rfl ?_
            refine wd_istore_10_6 hC dX4_best_158 ?_
            refine wd_iincN_10_7 hC dX4_best_160 ?_
            refine wd_goto (tgt := 62) hC dX4_best_163 (by decide) ?_
            exact ih (i + 1) _ _ _ _ _ (by omega) (by omega) (mOk_s hM m (by omega)) (by rw [itr, hst, bestS]; (first | rw [if_pos (Or.inl c_87)] | rw [if_pos (Or.inr c_112)] | rw [if_neg (fun h => h.elim c_87 (fun h => h c_112))]); (first | rw [if_pos c_142] | rw [if_neg c_142, if_pos c_149] | rw [if_neg c_142, if_neg c_149] | skip))
          · refine wd_iload hC dX4_best_145 rfl ?_
            refine wd_iload hC dX4_best_147 rfl ?_
            refine wd_icmp_le (tgt := 160) hC dX4_best_149 (by decide) (fun c_149 => ?_) (fun c_149 => ?_)
            · refine wd_iincN_10_7 hC dX4_best_160 ?_
              refine wd_goto (tgt := 62) hC dX4_best_163 (by decide) ?_
              exact ih (i + 1) _ _ _ _ _ (by omega) (by omega) (mOk_s hM m (by omega)) (by rw [itr, hst, bestS]; (first | rw [if_pos (Or.inl c_87)] | rw [if_pos (Or.inr c_112)] | rw [if_neg (fun h => h.elim c_87 (fun h => h c_112))]); (first | rw [if_pos c_142] | rw [if_neg c_142, if_pos c_149] | rw [if_neg c_142, if_neg c_149] | skip))
            · refine wd_iload hC dX4_best_152 rfl ?_
              refine wd_istore_10_5 hC dX4_best_154 ?_
              refine wd_iload hC dX4_best_156 rfl ?_
              refine wd_istore_10_6 hC dX4_best_158 ?_
              refine wd_iincN_10_7 hC dX4_best_160 ?_
              refine wd_goto (tgt := 62) hC dX4_best_163 (by decide) ?_
              exact ih (i + 1) _ _ _ _ _ (by omega) (by omega) (mOk_s hM m (by omega)) (by rw [itr, hst, bestS]; (first | rw [if_pos (Or.inl c_87)] | rw [if_pos (Or.inr c_112)] | rw [if_neg (fun h => h.elim c_87 (fun h => h c_112))]); (first | rw [if_pos c_142] | rw [if_neg c_142, if_pos c_149] | rw [if_neg c_142, if_neg c_149] | skip))
        · refine wd_aload_n hC dX4_best_90 rfl rfl ?_
          refine wd_aload_n hC dX4_best_91 rfl rfl ?_
          refine gf_X4_33 hC dX4_best_92 ?_
          refine wd_iload hC dX4_best_95 rfl ?_
          refine cv4i hC cw_X4_122 (c_takenV hinj σ ht 1 (by decide) _ (mz_u2 (mz_mv σ 0) (by decide) _ _) (mOk_s hM m (by omega)) _ _ (hM.f (by omega) (i_le c_87)) (hM.f6 (by omega) (i_le c_87))) dX4_best_97 (by first | decide | omega) (by decide) rfl rfl (Nat.le_of_ble_eq_true rfl) ?_
          refine wd_aload_n hC dX4_best_100 rfl rfl ?_
          refine gf_X4_19 hC dX4_best_101 ?_
          refine gf_X4_179 hC dX4_best_104 ?_
          refine wd_iload hC dX4_best_107 rfl ?_
          refine ld_w hC dX4_best_109 (i) rfl (by omega) ?_
          refine wd_vi (tv_c ht (by decide)) ?_
          refine wd_imul hC dX4_best_110 ?_
          refine wd_iload_n hC dX4_best_111 rfl rfl ?_
          refine wd_icmp_lt (tgt := 119) hC dX4_best_112 (by decide) (fun c_112 => ?_) (fun c_112 => ?_)
          · refine wd_iconst (v := 0) hC dX4_best_119 rfl ?_
            refine wd_istore_10_8 hC dX4_best_120 ?_
            refine wd_aload_n hC dX4_best_122 rfl rfl ?_
            refine wd_aload_n hC dX4_best_123 rfl rfl ?_
            refine gf_X4_33 hC dX4_best_124 ?_
            refine wd_iload_n hC dX4_best_127 rfl rfl ?_
            refine cv4i hC cw_X4_129 (c_wealthV hinj σ ht 1 (by decide) _ (mz_u2 (mz_mv σ 0) (by decide) _ _) (mOk_s hM m (by omega)) x m hx (by omega)) dX4_best_128 (by first | decide | omega) (by decide) rfl rfl (Nat.le_of_ble_eq_true rfl) ?_
            refine wd_istore_10_9 hC dX4_best_131 ?_
            refine wd_iload hC dX4_best_133 rfl ?_
            refine wd_if_eq (tgt := 160) hC dX4_best_135 (by decide) (fun c_135 => ?_) (fun c_135 => absurd (by decide) c_135)
            refine wd_iincN_10_7 hC dX4_best_160 ?_
            refine wd_goto (tgt := 62) hC dX4_best_163 (by decide) ?_
            exact ih (i + 1) _ _ _ _ _ (by omega) (by omega) (mOk_s hM m (by omega)) (by rw [itr, hst, bestS]; (first | rw [if_pos (Or.inl c_87)] | rw [if_pos (Or.inr c_112)] | rw [if_neg (fun h => h.elim c_87 (fun h => h c_112))]); (first | rw [if_pos c_142] | rw [if_neg c_142, if_pos c_149] | rw [if_neg c_142, if_neg c_149] | skip))
          · refine wd_iconst (v := 1) hC dX4_best_115 rfl ?_
            refine wd_goto (tgt := 120) hC dX4_best_116 (by decide) ?_
            refine wd_istore_10_8 hC dX4_best_120 ?_
            refine wd_aload_n hC dX4_best_122 rfl rfl ?_
            refine wd_aload_n hC dX4_best_123 rfl rfl ?_
            refine gf_X4_33 hC dX4_best_124 ?_
            refine wd_iload_n hC dX4_best_127 rfl rfl ?_
            refine cv4i hC cw_X4_129 (c_wealthV hinj σ ht 1 (by decide) _ (mz_u2 (mz_mv σ 0) (by decide) _ _) (mOk_s hM m (by omega)) x m hx (by omega)) dX4_best_128 (by first | decide | omega) (by decide) rfl rfl (Nat.le_of_ble_eq_true rfl) ?_
            refine wd_istore_10_9 hC dX4_best_131 ?_
            refine wd_iload hC dX4_best_133 rfl ?_
            refine wd_if_eq (tgt := 160) hC dX4_best_135 (by decide) (fun c_135 => absurd c_135 (by decide)) (fun c_135 => ?_)
            refine wd_iload hC dX4_best_138 rfl ?_
            refine wd_bipush (v := -9) hC dX4_best_140 rfl ?_
            refine wd_icmp_eq (tgt := 152) hC dX4_best_142 (by decide) (fun c_142 => ?_) (fun c_142 => ?_)
            · refine wd_iload hC dX4_best_152 rfl ?_
              refine wd_istore_10_5 hC dX4_best_154 ?_
              refine wd_iload hC dX4_best_156 rfl ?_
              refine wd_istore_10_6 hC dX4_best_158 ?_
              refine wd_iincN_10_7 hC dX4_best_160 ?_
              refine wd_goto (tgt := 62) hC dX4_best_163 (by decide) ?_
              exact ih (i + 1) _ _ _ _ _ (by omega) (by omega) (mOk_s hM m (by omega)) (by rw [itr, hst, bestS]; (first | rw [if_pos (Or.inl c_87)] | rw [if_pos (Or.inr c_112)] | rw [if_neg (fun h => h.elim c_87 (fun h => h c_112))]); (first | rw [if_pos c_142] | rw [if_neg c_142, if_pos c_149] | rw [if_neg c_142, if_neg c_149] | skip))
            · refine wd_iload hC dX4_best_145 rfl ?_
              refine wd_iload hC dX4_best_147 rfl ?_
              refine wd_icmp_le (tgt := 160) hC dX4_best_149 (by decide) (fun c_149 => ?_) (fun c_149 => ?_)
              · refine wd_iincN_10_7 hC dX4_best_160 ?_
                refine wd_goto (tgt := 62) hC dX4_best_163 (by decide) ?_
                exact ih (i + 1) _ _ _ _ _ (by omega) (by omega) (mOk_s hM m (by omega)) (by rw [itr, hst, bestS]; (first | rw [if_pos (Or.inl c_87)] | rw [if_pos (Or.inr c_112)] | rw [if_neg (fun h => h.elim c_87 (fun h => h c_112))]); (first | rw [if_pos c_142] | rw [if_neg c_142, if_pos c_149] | rw [if_neg c_142, if_neg c_149] | skip))
              · refine wd_iload hC dX4_best_152 rfl ?_
                refine wd_istore_10_5 hC dX4_best_154 ?_
                refine wd_iload hC dX4_best_156 rfl ?_
                refine wd_istore_10_6 hC dX4_best_158 ?_
                refine wd_iincN_10_7 hC dX4_best_160 ?_
                refine wd_goto (tgt := 62) hC dX4_best_163 (by decide) ?_
                exact ih (i + 1) _ _ _ _ _ (by omega) (by omega) (mOk_s hM m (by omega)) (by rw [itr, hst, bestS]; (first | rw [if_pos (Or.inl c_87)] | rw [if_pos (Or.inr c_112)] | rw [if_neg (fun h => h.elim c_87 (fun h => h c_112))]); (first | rw [if_pos c_142] | rw [if_neg c_142, if_pos c_149] | rw [if_neg c_142, if_neg c_149] | skip))
  refine wd_aload_n hC dX4_best_0 rfl rfl ?_
  refine wd_iload_n hC dX4_best_1 rfl rfl ?_
  refine cv4i hC cw_X4_85 (c_isMan hinj _ ht _) dX4_best_2 (by first | decide | omega) (by decide) rfl rfl (Nat.le_of_ble_eq_true rfl) ?_
  refine wd_if_eq (tgt := 27) hC dX4_best_5 (by decide) (fun c_5 => absurd c_5 (bIm (pm_of hT hx hm))) (fun c_5 => ?_)
  refine wd_iload_n hC dX4_best_8 rfl rfl ?_
  refine wd_if_lt (tgt := 27) hC dX4_best_9 (by decide) (fun c_9 => absurd c_9 (Int32.not_lt.mpr h0)) (fun c_9 => ?_)
  refine wd_iload_n hC dX4_best_12 rfl rfl ?_
  refine wd_sipush (v := 999) hC dX4_best_13 rfl ?_
  refine wd_icmp_gt (tgt := 27) hC dX4_best_16 (by decide) (fun c_16 => absurd c_16 (Int32.not_lt.mpr h9)) (fun c_16 => ?_)
  refine wd_iload_n hC dX4_best_19 rfl rfl ?_
  refine wd_iconst (v := 2) hC dX4_best_20 rfl ?_
  refine cvsi hC cw_X4_155 (c_isBelow hinj _ _ _) dX4_best_21 (by first | decide | omega) (by decide) rfl rfl (Nat.le_of_ble_eq_true rfl) ?_
  refine wd_if_ne (tgt := 29) hC dX4_best_24 (by decide) (fun c_24 => ?_) (fun c_24 => absurd c_24 (bIm hp))
  refine wd_aload_n hC dX4_best_29 rfl rfl ?_
  refine gf_X4_29 hC dX4_best_30 ?_
  refine gf_X4_101 hC dX4_best_33 ?_
  refine wd_iload_n hC dX4_best_36 rfl rfl ?_
  refine ld_m hC dX4_best_37 (m) hx (by omega) ?_
  refine wd_vi (show _ = mv σ 0 2 m from rfl) ?_
  refine wd_istore_10_4 hC dX4_best_38 ?_
  refine wd_bipush (v := -9) hC dX4_best_40 rfl ?_
  refine wd_istore_10_5 hC dX4_best_42 ?_
  refine wd_bipush (v := -9) hC dX4_best_44 rfl ?_
  refine wd_istore_10_6 hC dX4_best_46 ?_
  refine wd_aload_n hC dX4_best_48 rfl rfl ?_
  refine gf_X4_33 hC dX4_best_49 ?_
  refine wd_aload_n hC dX4_best_52 rfl rfl ?_
  refine gf_X4_29 hC dX4_best_53 ?_
  refine cv1v hC cw_X4_173 (c_copyFrom hinj _ 0 1 (by decide) (by decide) (by decide)) dX4_best_56 (by first | decide | omega) (by decide) rfl rfl (Nat.le_of_ble_eq_true rfl) ?_
  refine wd_iconst (v := 0) hC dX4_best_59 rfl ?_
  refine wd_istore_10_7 hC dX4_best_60 ?_
  refine wd_ts (show stM σ 1 (mv σ 0) = stM σ 1 (u2 (mv σ 0) 1 m ((mv σ 0) 1 m)) from (by rw [u2_self])) ?_
  exact loop (nCrops (tv σ) + 1) 0 _ _ _ _ _ (Nat.zero_le _) (by omega) (by rw [u2_self]; exact hM) rfl
def restP (T M : Nat → Nat → Int32) (m o : Nat) : Prop := ¬ wHas T M m < wMost T M m ∧ ¬ wHas T M o < wMost T M o
def restD (T M : Nat → Nat → Int32) (m o : Nat) : Bool := decide (¬ wHas T M m < wMost T M m ∧ ¬ wHas T M o < wMost T M o)
def restS (T M : Nat → Nat → Int32) (m o a b : Nat) (s : Int32 × Int32) : Int32 × Int32 :=
  if restD T (u2 (u2 M 1 m (nI a)) 1 o (nI b)) m o = true then (s.1 + 1, if s.1 = 0 then 10 * nI a + nI b else s.2) else s
def restO (T M : Nat → Nat → Int32) (m o a : Nat) (s : Int32 × Int32) : Int32 × Int32 := itr (restS T M m o a) s (nCrops T)
def restV (T M : Nat → Nat → Int32) (m o : Nat) : Int32 × Int32 := itr (restO T M m o) (0, -9) (nCrops T)
theorem u2_4 (M : Nat → Nat → Int32) (k m o : Nat) (v w a b : Int32) : u2 (u2 (u2 (u2 M k m v) k o w) k m a) k o b = u2 (u2 M k m a) k o b := by
  funext c d
  unfold u2
  by_cases h1 : c = k ∧ d = o
  · rw [if_pos h1, if_pos h1]
  · simp only [if_neg h1]
    by_cases h2 : c = k ∧ d = m
    · simp only [if_pos h2]
    · simp only [if_neg h2]

set_option maxRecDepth 100000 in
set_option maxHeartbeats 4000000 in
theorem c_rest_bad {V : wd_V} {ad : Nat → Nat} (hinj : wd_inj cS ad) (σ : wd_S) (ht : σ.2.2 < 2) (x y : Int32) (hB : ¬ (pMan (tv σ) x ∧ pBelow y 2)) : wd_C cS V ad 2 yX4_rest (Cond.code yX4_rest cX4_rest 8 (some .int) :: wsL_law) σ [.ref (ad 0), .int x, .int y] (wd_eq (some (.int (-1))) (σ)) := by
  refine wd_intro (lv := [some (.ref (ad 0)), some (.int x), some (.int y), none, none, none, none, none]) hinj (by decide) rfl (Nat.le_of_ble_eq_true rfl) rfl (Nat.le_of_ble_eq_true rfl) (fun K hC => ?_)
  refine wd_aload_n hC dX4_rest_0 rfl rfl ?_
  refine wd_iload_n hC dX4_rest_1 rfl rfl ?_
  refine cv4i hC cw_X4_85 (c_isMan hinj _ ht _) dX4_rest_2 (by first | decide | omega) (by decide) rfl rfl (Nat.le_of_ble_eq_true rfl) ?_
  refine wd_if_eq (tgt := 16) hC dX4_rest_5 (by decide) (fun c_5 => ?_) (fun c_5 => ?_)
  · replace c_5 := bI_0.mp c_5
    refine wd_iconst (v := -1) hC dX4_rest_16 rfl ?_
    exact wd_iret hC rfl dX4_rest_17 rfl rfl
  · replace c_5 := bI_1.mp c_5
    refine wd_iload_n hC dX4_rest_8 rfl rfl ?_
    refine wd_iconst (v := 2) hC dX4_rest_9 rfl ?_
    refine cvsi hC cw_X4_155 (c_isBelow hinj _ _ _) dX4_rest_10 (by first | decide | omega) (by decide) rfl rfl (Nat.le_of_ble_eq_true rfl) ?_
    refine wd_if_ne (tgt := 18) hC dX4_rest_13 (by decide) (fun c_13 => ?_) (fun c_13 => ?_)
    · replace c_13 := bI_1.mp c_13
      exact absurd ⟨c_5, c_13⟩ hB
    · replace c_13 := bI_0.mp c_13
      refine wd_iconst (v := -1) hC dX4_rest_16 rfl ?_
      exact wd_iret hC rfl dX4_rest_17 rfl rfl
set_option maxRecDepth 100000 in
set_option maxHeartbeats 4000000 in
theorem c_rest_state {V : wd_V} {ad : Nat → Nat} (hinj : wd_inj cS ad) (σ : wd_S) (ht : σ.2.2 < 2) (hT : tOk (tv σ)) (x : Int32) (m : Nat) (hx : x = nI m) (hm : m < nMen (tv σ)) (y : Int32) (hp : pBelow y 2) (hf : mv σ 0 2 m < 0) : wd_C cS V ad 2 yX4_rest (Cond.code yX4_rest cX4_rest 8 (some .int) :: wsL_law) σ [.ref (ad 0), .int x, .int y] (wd_eq (some (.int (-2))) (σ)) := by
  refine wd_intro (lv := [some (.ref (ad 0)), some (.int x), some (.int y), none, none, none, none, none]) hinj (by decide) rfl (Nat.le_of_ble_eq_true rfl) rfl (Nat.le_of_ble_eq_true rfl) (fun K hC => ?_)
  have h6 := hT.m6
  have h3 := hT.c3
  refine wd_aload_n hC dX4_rest_0 rfl rfl ?_
  refine wd_iload_n hC dX4_rest_1 rfl rfl ?_
  refine cv4i hC cw_X4_85 (c_isMan hinj _ ht _) dX4_rest_2 (by first | decide | omega) (by decide) rfl rfl (Nat.le_of_ble_eq_true rfl) ?_
  refine wd_if_eq (tgt := 16) hC dX4_rest_5 (by decide) (fun c_5 => absurd c_5 (bIm (pm_of hT hx hm))) (fun c_5 => ?_)
  refine wd_iload_n hC dX4_rest_8 rfl rfl ?_
  refine wd_iconst (v := 2) hC dX4_rest_9 rfl ?_
  refine cvsi hC cw_X4_155 (c_isBelow hinj _ _ _) dX4_rest_10 (by first | decide | omega) (by decide) rfl rfl (Nat.le_of_ble_eq_true rfl) ?_
  refine wd_if_ne (tgt := 18) hC dX4_rest_13 (by decide) (fun c_13 => ?_) (fun c_13 => absurd c_13 (bIm hp))
  refine wd_aload_n hC dX4_rest_18 rfl rfl ?_
  refine gf_X4_29 hC dX4_rest_19 ?_
  refine gf_X4_101 hC dX4_rest_22 ?_
  refine wd_iload_n hC dX4_rest_25 rfl rfl ?_
  refine ld_m hC dX4_rest_26 (m) hx (by omega) ?_
  refine wd_istore_n_8_3 hC dX4_rest_27 ?_
  refine wd_iload_n hC dX4_rest_28 rfl rfl ?_
  refine wd_if_ge (tgt := 35) hC dX4_rest_29 (by decide) (fun c_29 => absurd c_29 (Int32.not_le.mpr hf)) (fun c_29 => ?_)
  refine wd_bipush (v := -2) hC dX4_rest_32 rfl ?_
  exact wd_iret hC rfl dX4_rest_34 rfl rfl
set_option maxRecDepth 100000 in
set_option maxHeartbeats 4000000 in
theorem c_rest {V : wd_V} {ad : Nat → Nat} (hinj : wd_inj cS ad) (σ : wd_S) (ht : σ.2.2 < 2) (hT : tOk (tv σ)) (x : Int32) (m : Nat) (hx : x = nI m) (hm : m < nMen (tv σ)) (hM : mOk (mv σ 0)) (y : Int32) (hp : pBelow y 2) (hf : 0 ≤ mv σ 0 2 m) : wd_C cS V ad 5 yX4_rest (Cond.code yX4_rest cX4_rest 8 (some .int) :: wsL_law) σ [.ref (ad 0), .int x, .int y] (wd_pi (fun r σ' => r = (if y = 0 then (restV (tv σ) (mv σ 0) m (nFac (mv σ 0) m)).1 else (restV (tv σ) (mv σ 0) m (nFac (mv σ 0) m)).2) ∧ scr σ σ')) := by
  refine wd_intro (lv := [some (.ref (ad 0)), some (.int x), some (.int y), none, none, none, none, none]) hinj (by decide) rfl (Nat.le_of_ble_eq_true rfl) rfl (Nat.le_of_ble_eq_true rfl) (fun K hC => ?_)
  have h6 := hT.m6
  have h3 := hT.c3
  have loop : ∀ (k i : Nat) (v0 w0 n0 f0 : Int32) (o7 : Option Value), i ≤ (nCrops (tv σ)) → (nCrops (tv σ)) < i + k → mOk (u2 (u2 (mv σ 0) 1 m v0) 1 (nFac (mv σ 0) m) w0) → itr (restO (tv σ) (mv σ 0) m (nFac (mv σ 0) m)) (0, -9) i = (n0, f0) → wd_G cS V ad K 8 (wd_Qm cS V ad K (wd_pi (fun r σ' => r = (if y = 0 then (restV (tv σ) (mv σ 0) m (nFac (mv σ 0) m)).1 else (restV (tv σ) (mv σ 0) m (nFac (mv σ 0) m)).2) ∧ scr σ σ'))) 56 [some (.ref (ad 0)), some (.int x), some (.int y), some (.int (mv σ 0 2 m)), some (.int n0), some (.int f0), some (.int (nI i)), o7] [] (stM σ 1 (u2 (u2 (mv σ 0) 1 m v0) 1 (nFac (mv σ 0) m) w0)) := by
    intro k
    induction k with
    | zero =>
      intro i v0 w0 n0 f0 o7 h1 h2 hv hst
      exact absurd h2 (by omega)
    | succ k ih =>
      intro i v0 w0 n0 f0 o7 h1 h2 hv hst
      refine wd_iload hC dX4_rest_56 rfl ?_
      refine wd_aload_n hC dX4_rest_58 rfl rfl ?_
      refine gf_X4_19 hC dX4_rest_59 ?_
      refine gf_X4_176 hC dX4_rest_62 ?_
      refine wd_icmp_ge (tgt := 156) hC dX4_rest_65 (by decide) (fun c_65 => ?_) (fun c_65 => ?_)
      · have hin : i = _ := lp_ge (crops_st ht hT) c_65 h1 (by omega)
        subst hin
        refine wd_iload_n hC dX4_rest_156 rfl rfl ?_
        refine wd_if_ne (tgt := 165) hC dX4_rest_157 (by decide) (fun c_157 => ?_) (fun c_157 => ?_)
        · refine wd_iload hC dX4_rest_165 rfl ?_
          exact wd_iretP hC rfl dX4_rest_167 (⟨_, rfl, (by rw [restV, hst]; first | rw [if_pos c_157] | rw [if_neg c_157]), _, mz_u2 (mz_u2 (mz_mv σ 0) (by decide) _ _) (by decide) _ _, hv, rfl⟩)
        · refine wd_iload hC dX4_rest_160 rfl ?_
          refine wd_goto (tgt := 167) hC dX4_rest_162 (by decide) ?_
          exact wd_iretP hC rfl dX4_rest_167 (⟨_, rfl, (by rw [restV, hst]; first | rw [if_pos c_157] | rw [if_neg c_157]), _, mz_u2 (mz_u2 (mz_mv σ 0) (by decide) _ _) (by decide) _ _, hv, rfl⟩)
      · have hin : i < _ := lp_lt (crops_st ht hT) c_65 h1 (by omega)
        refine wd_iconst (v := 0) hC dX4_rest_68 rfl ?_
        refine wd_istore_8_7 hC dX4_rest_69 ?_
        have inner : ∀ (k b : Nat) (v w n f : Int32), b ≤ (nCrops (tv σ)) → (nCrops (tv σ)) < b + k → mOk (u2 (u2 (mv σ 0) 1 m v) 1 (nFac (mv σ 0) m) w) → itr (restS (tv σ) (mv σ 0) m (nFac (mv σ 0) m) i) (n0, f0) b = (n, f) → wd_G cS V ad K 8 (wd_Qm cS V ad K (wd_pi (fun r σ' => r = (if y = 0 then (restV (tv σ) (mv σ 0) m (nFac (mv σ 0) m)).1 else (restV (tv σ) (mv σ 0) m (nFac (mv σ 0) m)).2) ∧ scr σ σ'))) 71 [some (.ref (ad 0)), some (.int x), some (.int y), some (.int (mv σ 0 2 m)), some (.int n), some (.int f), some (.int (nI i)), some (.int (nI b))] [] (stM σ 1 (u2 (u2 (mv σ 0) 1 m v) 1 (nFac (mv σ 0) m) w)) := by
          intro k
          induction k with
          | zero =>
            intro b v w n f h1b h2b hv2 hst2
            exact absurd h2b (by omega)
          | succ k ih2 =>
            intro b v w n f h1b h2b hv2 hst2
            refine wd_iload hC dX4_rest_71 rfl ?_
            refine wd_aload_n hC dX4_rest_73 rfl rfl ?_
            refine gf_X4_19 hC dX4_rest_74 ?_
            refine gf_X4_176 hC dX4_rest_77 ?_
            refine wd_icmp_ge (tgt := 150) hC dX4_rest_80 (by decide) (fun c_80 => ?_) (fun c_80 => ?_)
            · have hbn : b = _ := lp_ge (crops_st ht hT) c_80 h1b (by omega)
              subst hbn
              refine wd_iincN_8_6 hC dX4_rest_150 ?_
              refine wd_goto (tgt := 56) hC dX4_rest_153 (by decide) ?_
              exact ih (i + 1) _ _ _ _ _ (by omega) (by omega) hv2 (by rw [itr, hst]; exact hst2)
            · have hbn : b < _ := lp_lt (crops_st ht hT) c_80 h1b (by omega)
              refine wd_aload_n hC dX4_rest_83 rfl rfl ?_
              refine gf_X4_33 hC dX4_rest_84 ?_
              refine gf_X4_98 hC dX4_rest_87 ?_
              refine wd_iload_n hC dX4_rest_90 rfl rfl ?_
              refine wd_iload hC dX4_rest_91 rfl ?_
              refine st_m hC dX4_rest_93 (m) hx (by omega) ?_
              refine wd_aload_n hC dX4_rest_94 rfl rfl ?_
              refine gf_X4_33 hC dX4_rest_95 ?_
              refine gf_X4_98 hC dX4_rest_98 ?_
              refine wd_iload_n hC dX4_rest_101 rfl rfl ?_
              refine wd_iload hC dX4_rest_102 rfl ?_
              refine st_m hC dX4_rest_104 (nFac (mv σ 0) m) (hM.f (by omega) hf) (hM.f6 (by omega) hf) ?_
              refine wd_ts (show _ = stM σ 1 (u2 (u2 (mv σ 0) 1 m (nI i)) 1 (nFac (mv σ 0) m) (nI b)) from (by rw [stM_up _ _ _ (by decide), stM_up _ _ _ (by decide), u2_4])) ?_
              refine wd_aload_n hC dX4_rest_105 rfl rfl ?_
              refine wd_iload_n hC dX4_rest_106 rfl rfl ?_
              refine cv4i hC cw_X4_182 (c_isContent hinj σ ht hT (u2 (u2 (mv σ 0) 1 m (nI i)) 1 (nFac (mv σ 0) m) (nI b)) (mz_u2 (mz_u2 (mz_mv σ 0) (by decide) _ _) (by decide) _ _) (mOk_s (mOk_s hM _ (by omega)) _ (by omega)) x m hx (by omega)) dX4_rest_107 (by first | decide | omega) (by decide) rfl rfl (Nat.le_of_ble_eq_true rfl) ?_
              refine wd_if_eq (tgt := 144) hC dX4_rest_110 (by decide) (fun c_110 => ?_) (fun c_110 => ?_)
              · replace c_110 := bI_0.mp c_110
                refine wd_iincN_8_7 hC dX4_rest_144 ?_
                refine wd_goto (tgt := 71) hC dX4_rest_147 (by decide) ?_
                exact ih2 (b + 1) _ _ _ _ (by omega) (by omega) (mOk_s (mOk_s hM _ (by omega)) _ (by omega)) (by rw [itr, hst2, restS]; first | (rw [if_pos (show restD _ _ _ _ = true from decide_eq_true ⟨c_110, c_118⟩)]; first | rw [if_pos c_123]; rfl | rw [if_neg c_123]; rfl) | rw [if_neg (show ¬ restD _ _ _ _ = true from fun h => c_110 (of_decide_eq_true h).1)] | rw [if_neg (show ¬ restD _ _ _ _ = true from fun h => c_118 (of_decide_eq_true h).2)])
              · replace c_110 := bI_1.mp c_110
                refine wd_aload_n hC dX4_rest_113 rfl rfl ?_
                refine wd_iload_n hC dX4_rest_114 rfl rfl ?_
                refine cv4i hC cw_X4_182 (c_isContent hinj σ ht hT (u2 (u2 (mv σ 0) 1 m (nI i)) 1 (nFac (mv σ 0) m) (nI b)) (mz_u2 (mz_u2 (mz_mv σ 0) (by decide) _ _) (by decide) _ _) (mOk_s (mOk_s hM _ (by omega)) _ (by omega)) _ _ (hM.f (by omega) hf) (hM.f6 (by omega) hf)) dX4_rest_115 (by first | decide | omega) (by decide) rfl rfl (Nat.le_of_ble_eq_true rfl) ?_
                refine wd_if_eq (tgt := 144) hC dX4_rest_118 (by decide) (fun c_118 => ?_) (fun c_118 => ?_)
                · replace c_118 := bI_0.mp c_118
                  refine wd_iincN_8_7 hC dX4_rest_144 ?_
                  refine wd_goto (tgt := 71) hC dX4_rest_147 (by decide) ?_
                  exact ih2 (b + 1) _ _ _ _ (by omega) (by omega) (mOk_s (mOk_s hM _ (by omega)) _ (by omega)) (by rw [itr, hst2, restS]; first | (rw [if_pos (show restD _ _ _ _ = true from decide_eq_true ⟨c_110, c_118⟩)]; first | rw [if_pos c_123]; rfl | rw [if_neg c_123]; rfl) | rw [if_neg (show ¬ restD _ _ _ _ = true from fun h => c_110 (of_decide_eq_true h).1)] | rw [if_neg (show ¬ restD _ _ _ _ = true from fun h => c_118 (of_decide_eq_true h).2)])
                · replace c_118 := bI_1.mp c_118
                  refine wd_iload hC dX4_rest_121 rfl ?_
                  refine wd_if_ne (tgt := 137) hC dX4_rest_123 (by decide) (fun c_123 => ?_) (fun c_123 => ?_)
                  · refine wd_iload hC dX4_rest_137 rfl ?_
                    refine wd_istore_8_5 hC dX4_rest_139 ?_
                    refine wd_iinc_8_4 hC dX4_rest_141 rfl ?_
                    refine wd_iincN_8_7 hC dX4_rest_144 ?_
                    refine wd_goto (tgt := 71) hC dX4_rest_147 (by decide) ?_
                    exact ih2 (b + 1) _ _ _ _ (by omega) (by omega) (mOk_s (mOk_s hM _ (by omega)) _ (by omega)) (by rw [itr, hst2, restS]; first | (rw [if_pos (show restD _ _ _ _ = true from decide_eq_true ⟨c_110, c_118⟩)]; first | rw [if_pos c_123]; rfl | rw [if_neg c_123]; rfl) | rw [if_neg (show ¬ restD _ _ _ _ = true from fun h => c_110 (of_decide_eq_true h).1)] | rw [if_neg (show ¬ restD _ _ _ _ = true from fun h => c_118 (of_decide_eq_true h).2)])
                  · refine wd_bipush (v := 10) hC dX4_rest_126 rfl ?_
                    refine wd_iload hC dX4_rest_128 rfl ?_
                    refine wd_imul hC dX4_rest_130 ?_
                    refine wd_iload hC dX4_rest_131 rfl ?_
                    refine wd_iadd hC dX4_rest_133 ?_
                    refine wd_goto (tgt := 139) hC dX4_rest_134 (by decide) ?_
                    refine wd_istore_8_5 hC dX4_rest_139 ?_
                    refine wd_iinc_8_4 hC dX4_rest_141 rfl ?_
                    refine wd_iincN_8_7 hC dX4_rest_144 ?_
                    refine wd_goto (tgt := 71) hC dX4_rest_147 (by decide) ?_
                    exact ih2 (b + 1) _ _ _ _ (by omega) (by omega) (mOk_s (mOk_s hM _ (by omega)) _ (by omega)) (by rw [itr, hst2, restS]; first | (rw [if_pos (show restD _ _ _ _ = true from decide_eq_true ⟨c_110, c_118⟩)]; first | rw [if_pos c_123]; rfl | rw [if_neg c_123]; rfl) | rw [if_neg (show ¬ restD _ _ _ _ = true from fun h => c_110 (of_decide_eq_true h).1)] | rw [if_neg (show ¬ restD _ _ _ _ = true from fun h => c_118 (of_decide_eq_true h).2)])
        exact inner (nCrops (tv σ) + 1) 0 _ _ _ _ (Nat.zero_le _) (by omega) hv rfl
  refine wd_aload_n hC dX4_rest_0 rfl rfl ?_
  refine wd_iload_n hC dX4_rest_1 rfl rfl ?_
  refine cv4i hC cw_X4_85 (c_isMan hinj _ ht _) dX4_rest_2 (by first | decide | omega) (by decide) rfl rfl (Nat.le_of_ble_eq_true rfl) ?_
  refine wd_if_eq (tgt := 16) hC dX4_rest_5 (by decide) (fun c_5 => absurd c_5 (bIm (pm_of hT hx hm))) (fun c_5 => ?_)
  refine wd_iload_n hC dX4_rest_8 rfl rfl ?_
  refine wd_iconst (v := 2) hC dX4_rest_9 rfl ?_
  refine cvsi hC cw_X4_155 (c_isBelow hinj _ _ _) dX4_rest_10 (by first | decide | omega) (by decide) rfl rfl (Nat.le_of_ble_eq_true rfl) ?_
  refine wd_if_ne (tgt := 18) hC dX4_rest_13 (by decide) (fun c_13 => ?_) (fun c_13 => absurd c_13 (bIm hp))
  refine wd_aload_n hC dX4_rest_18 rfl rfl ?_
  refine gf_X4_29 hC dX4_rest_19 ?_
  refine gf_X4_101 hC dX4_rest_22 ?_
  refine wd_iload_n hC dX4_rest_25 rfl rfl ?_
  refine ld_m hC dX4_rest_26 (m) hx (by omega) ?_
  refine wd_vi (show _ = mv σ 0 2 m from rfl) ?_
  refine wd_istore_n_8_3 hC dX4_rest_27 ?_
  refine wd_iload_n hC dX4_rest_28 rfl rfl ?_
  refine wd_if_ge (tgt := 35) hC dX4_rest_29 (by decide) (fun c_29 => ?_) (fun c_29 => absurd hf c_29)
  refine wd_iconst (v := 0) hC dX4_rest_35 rfl ?_
  refine wd_istore_8_4 hC dX4_rest_36 ?_
  refine wd_bipush (v := -9) hC dX4_rest_38 rfl ?_
  refine wd_istore_8_5 hC dX4_rest_40 ?_
  refine wd_aload_n hC dX4_rest_42 rfl rfl ?_
  refine gf_X4_33 hC dX4_rest_43 ?_
  refine wd_aload_n hC dX4_rest_46 rfl rfl ?_
  refine gf_X4_29 hC dX4_rest_47 ?_
  refine cv1v hC cw_X4_173 (c_copyFrom hinj _ 0 1 (by decide) (by decide) (by decide)) dX4_rest_50 (by first | decide | omega) (by decide) rfl rfl (Nat.le_of_ble_eq_true rfl) ?_
  refine wd_iconst (v := 0) hC dX4_rest_53 rfl ?_
  refine wd_istore_8_6 hC dX4_rest_54 ?_
  refine wd_ts (show stM σ 1 (mv σ 0) = stM σ 1 (u2 (u2 (mv σ 0) 1 m ((mv σ 0) 1 m)) 1 (nFac (mv σ 0) m) ((mv σ 0) 1 (nFac (mv σ 0) m))) from (by rw [u2_self, u2_self])) ?_
  exact loop (nCrops (tv σ) + 1) 0 _ _ _ _ _ (Nat.zero_le _) (by omega) (by rw [u2_self, u2_self]; exact hM) rfl

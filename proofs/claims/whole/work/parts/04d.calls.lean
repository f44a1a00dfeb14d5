/-! ===== the class: its simple calls ===== -/
theorem wd_vi {sd : wd_Side} {V : wd_V} {ad : Nat → Nat} {K : wd_K} {nL : Nat} {Q : State → Prop} {pc : Nat} {lv : List (Option Value)} {st : List Value} {σ : wd_S} {x y : Int32} (h : x = y) (k : wd_G sd V ad K nL Q pc lv (.int y :: st) σ) : wd_G sd V ad K nL Q pc lv (.int x :: st) σ := h ▸ k
theorem sw_out {x : Int32} (n : Nat) (h : ∀ k : Nat, k ≤ n → ¬ x = nI k) (hn : n < 2 ^ 30 := by decide) : x.toInt < 0 ∨ (n : Int) < x.toInt := by
  rcases pk_ix x (n := n + 1) (by omega) with h1 | h1 | ⟨j, hj, rfl⟩
  · left
    have := Int32.lt_iff_toInt_lt.mp h1
    simpa using this
  · right
    have := Int32.le_iff_toInt_le.mp h1
    rw [nI_toInt (by omega)] at this
    omega
  · exact absurd rfl (h j (by omega))
theorem pm_of {T : Nat → Nat → Int32} (hT : tOk T) {x : Int32} {a : Nat} (hx : x = nI a) (ha : a < nMen T) : pMan T x := by
  have h6 := hT.m6
  rw [hx]
  refine ⟨nI_pos' (by omega), ?_⟩
  show _ < T 0 3
  rw [hT.m]
  exact nI_lt ha (by omega)
theorem pc_of {T : Nat → Nat → Int32} (hT : tOk T) {x : Int32} {a : Nat} (hx : x = nI a) (ha : a < nCrops T) : pCrop T x := by
  have h6 := hT.c3
  rw [hx]
  refine ⟨nI_pos' (by omega), ?_⟩
  show _ < T 0 0
  rw [hT.c]
  exact nI_lt ha (by omega)
theorem pb_of {x : Int32} {a n : Nat} (hx : x = nI a) (ha : a < n) (hn : n < 2 ^ 31) : pBelow x (nI n) := by
  rw [hx]
  exact ⟨nI_pos' (by omega), nI_lt ha hn⟩
theorem pm_ix {T : Nat → Nat → Int32} (hT : tOk T) {x : Int32} (h : pMan T x) : x = nI x.toNatClampNeg ∧ x.toNatClampNeg < nMen T := by
  have h6 := hT.m6
  refine ix_of h.1 ?_ (by omega)
  rw [← hT.m]
  exact h.2
theorem pc_ix {T : Nat → Nat → Int32} (hT : tOk T) {x : Int32} (h : pCrop T x) : x = nI x.toNatClampNeg ∧ x.toNatClampNeg < nCrops T := by
  have h6 := hT.c3
  refine ix_of h.1 ?_ (by omega)
  rw [← hT.c]
  exact h.2
theorem bIm {p : Prop} [Decidable p] (h : p) : ¬ bI p = 0 := bI_1.mpr h

set_option maxRecDepth 100000 in
set_option maxHeartbeats 4000000 in
theorem c_type_bad {V : wd_V} {ad : Nat → Nat} (hinj : wd_inj cS ad) (σ : wd_S) (x : Int32) (hB : ¬ (0 ≤ x ∧ x ≤ 255)) : wd_C cS V ad 0 yX4_type (Cond.code yX4_type cX4_type 2 (some .int) :: wsL_law) σ [.ref (ad 0), .int x] (wd_eq (some (.int (-1))) (σ)) := by
  refine wd_intro (lv := [some (.ref (ad 0)), some (.int x)]) hinj (by decide) rfl (Nat.le_of_ble_eq_true rfl) rfl (Nat.le_of_ble_eq_true rfl) (fun K hC => ?_)
  refine wd_iload_n hC dX4_type_0 rfl rfl ?_
  refine wd_if_lt (tgt := 11) hC dX4_type_1 (by decide) (fun c_1 => ?_) (fun c_1 => ?_)
  · refine wd_iconst (v := -1) hC dX4_type_11 rfl ?_
    exact wd_iret hC rfl dX4_type_12 rfl rfl
  · refine wd_iload_n hC dX4_type_4 rfl rfl ?_
    refine wd_sipush (v := 255) hC dX4_type_5 rfl ?_
    refine wd_icmp_le (tgt := 13) hC dX4_type_8 (by decide) (fun c_8 => ?_) (fun c_8 => ?_)
    · exact absurd ⟨i_le c_1, c_8⟩ hB
    · refine wd_iconst (v := -1) hC dX4_type_11 rfl ?_
      exact wd_iret hC rfl dX4_type_12 rfl rfl
set_option maxRecDepth 100000 in
set_option maxHeartbeats 4000000 in
theorem c_type_full {V : wd_V} {ad : Nat → Nat} (hinj : wd_inj cS ad) (σ : wd_S) (x : Int32) (h0 : 0 ≤ x) (h255 : x ≤ 255) (hF : 200 ≤ σ.1 1 1) : wd_C cS V ad 0 yX4_type (Cond.code yX4_type cX4_type 2 (some .int) :: wsL_law) σ [.ref (ad 0), .int x] (wd_eq (some (.int (-3))) (σ)) := by
  refine wd_intro (lv := [some (.ref (ad 0)), some (.int x)]) hinj (by decide) rfl (Nat.le_of_ble_eq_true rfl) rfl (Nat.le_of_ble_eq_true rfl) (fun K hC => ?_)
  refine wd_iload_n hC dX4_type_0 rfl rfl ?_
  refine wd_if_lt (tgt := 11) hC dX4_type_1 (by decide) (fun c_1 => absurd c_1 (Int32.not_lt.mpr h0)) (fun c_1 => ?_)
  refine wd_iload_n hC dX4_type_4 rfl rfl ?_
  refine wd_sipush (v := 255) hC dX4_type_5 rfl ?_
  refine wd_icmp_le (tgt := 13) hC dX4_type_8 (by decide) (fun c_8 => ?_) (fun c_8 => absurd h255 c_8)
  refine wd_aload_n hC dX4_type_13 rfl rfl ?_
  refine gf_X4_10 hC dX4_type_14 ?_
  refine gf_X4_65 hC dX4_type_17 ?_
  refine wd_sipush (v := 200) hC dX4_type_20 rfl ?_
  refine wd_icmp_lt (tgt := 29) hC dX4_type_23 (by decide) (fun c_23 => absurd c_23 (Int32.not_lt.mpr hF)) (fun c_23 => ?_)
  refine wd_bipush (v := -3) hC dX4_type_26 rfl ?_
  exact wd_iret hC rfl dX4_type_28 rfl rfl
set_option maxRecDepth 100000 in
set_option maxHeartbeats 4000000 in
theorem c_type {V : wd_V} {ad : Nat → Nat} (hinj : wd_inj cS ad) (σ : wd_S) (x : Int32) (h0 : 0 ≤ x) (h255 : x ≤ 255) (n : Nat) (hn : σ.1 1 1 = nI n) (hn2 : n < 200) : wd_C cS V ad 0 yX4_type (Cond.code yX4_type cX4_type 2 (some .int) :: wsL_law) σ [.ref (ad 0), .int x] (wd_eq (some (.int (σ.1 1 1 + 1))) (wd_up (wd_up σ 2 n x) 1 1 (σ.1 1 1 + 1))) := by
  refine wd_intro (lv := [some (.ref (ad 0)), some (.int x)]) hinj (by decide) rfl (Nat.le_of_ble_eq_true rfl) rfl (Nat.le_of_ble_eq_true rfl) (fun K hC => ?_)
  refine wd_iload_n hC dX4_type_0 rfl rfl ?_
  refine wd_if_lt (tgt := 11) hC dX4_type_1 (by decide) (fun c_1 => absurd c_1 (Int32.not_lt.mpr h0)) (fun c_1 => ?_)
  refine wd_iload_n hC dX4_type_4 rfl rfl ?_
  refine wd_sipush (v := 255) hC dX4_type_5 rfl ?_
  refine wd_icmp_le (tgt := 13) hC dX4_type_8 (by decide) (fun c_8 => ?_) (fun c_8 => absurd h255 c_8)
  refine wd_aload_n hC dX4_type_13 rfl rfl ?_
  refine gf_X4_10 hC dX4_type_14 ?_
  refine gf_X4_65 hC dX4_type_17 ?_
  refine wd_sipush (v := 200) hC dX4_type_20 rfl ?_
  refine wd_icmp_lt (tgt := 29) hC dX4_type_23 (by decide) (fun c_23 => ?_) (fun c_23 => absurd (by rw [hn]; exact nI_lt hn2 (by decide)) c_23)
  refine wd_aload_n hC dX4_type_29 rfl rfl ?_
  refine gf_X4_10 hC dX4_type_30 ?_
  refine gf_X4_69 hC dX4_type_33 ?_
  refine wd_aload_n hC dX4_type_36 rfl rfl ?_
  refine gf_X4_10 hC dX4_type_37 ?_
  refine gf_X4_65 hC dX4_type_40 ?_
  refine wd_iload_n hC dX4_type_43 rfl rfl ?_
  refine st_l hC dX4_type_44 n hn hn2 ?_
  refine wd_aload_n hC dX4_type_45 rfl rfl ?_
  refine gf_X4_10 hC dX4_type_46 ?_
  refine wd_dup hC dX4_type_49 rfl ?_
  refine gf_X4_65 hC dX4_type_50 ?_
  refine wd_iconst (v := 1) hC dX4_type_53 rfl ?_
  refine wd_iadd hC dX4_type_54 ?_
  refine pf_X4_65 hC dX4_type_55 ?_
  refine wd_aload_n hC dX4_type_58 rfl rfl ?_
  refine gf_X4_10 hC dX4_type_59 ?_
  refine gf_X4_65 hC dX4_type_62 ?_
  exact wd_iret hC rfl dX4_type_65 rfl rfl
set_option maxRecDepth 100000 in
set_option maxHeartbeats 4000000 in
theorem c_clear {V : wd_V} {ad : Nat → Nat} (hinj : wd_inj cS ad) (σ : wd_S)  : wd_C cS V ad 0 yX4_clear (Cond.code yX4_clear cX4_clear 2 (some .int) :: wsL_law) σ [.ref (ad 0)] (wd_eq (some (.int (σ.1 1 1))) (wd_up σ 1 1 0)) := by
  refine wd_intro (lv := [some (.ref (ad 0)), none]) hinj (by decide) rfl (Nat.le_of_ble_eq_true rfl) rfl (Nat.le_of_ble_eq_true rfl) (fun K hC => ?_)
  refine wd_aload_n hC dX4_clear_0 rfl rfl ?_
  refine gf_X4_10 hC dX4_clear_1 ?_
  refine gf_X4_65 hC dX4_clear_4 ?_
  refine wd_istore_n_2_1 hC dX4_clear_7 ?_
  refine wd_aload_n hC dX4_clear_8 rfl rfl ?_
  refine gf_X4_10 hC dX4_clear_9 ?_
  refine wd_iconst (v := 0) hC dX4_clear_12 rfl ?_
  refine pf_X4_65 hC dX4_clear_13 ?_
  refine wd_iload_n hC dX4_clear_16 rfl rfl ?_
  exact wd_iret hC rfl dX4_clear_17 rfl rfl
set_option maxRecDepth 100000 in
set_option maxHeartbeats 4000000 in
theorem c_man_bad {V : wd_V} {ad : Nat → Nat} (hinj : wd_inj cS ad) (σ : wd_S) (ht : σ.2.2 < 2) (x y : Int32) (hB : ¬ pMan (tv σ) x) : wd_C cS V ad 2 yX4_man (Cond.code yX4_man cX4_man 3 (some .int) :: wsL_law) σ [.ref (ad 0), .int x, .int y] (wd_eq (some (.int (-1))) (σ)) := by
  refine wd_intro (lv := [some (.ref (ad 0)), some (.int x), some (.int y)]) hinj (by decide) rfl (Nat.le_of_ble_eq_true rfl) rfl (Nat.le_of_ble_eq_true rfl) (fun K hC => ?_)
  refine wd_aload_n hC dX4_man_0 rfl rfl ?_
  refine wd_iload_n hC dX4_man_1 rfl rfl ?_
  refine cv4i hC cw_X4_85 (c_isMan hinj _ ht _) dX4_man_2 (by first | decide | omega) (by decide) rfl rfl (Nat.le_of_ble_eq_true rfl) ?_
  refine wd_if_ne (tgt := 10) hC dX4_man_5 (by decide) (fun c_5 => ?_) (fun c_5 => ?_)
  · replace c_5 := bI_1.mp c_5
    exact absurd c_5 hB
  · replace c_5 := bI_0.mp c_5
    refine wd_iconst (v := -1) hC dX4_man_8 rfl ?_
    exact wd_iret hC rfl dX4_man_9 rfl rfl
def manV (T M : Nat → Nat → Int32) (m : Nat) (w : Int32) : Int32 := if w = 0 then T 3 m else if w = 1 then T 4 m else if w = 2 then T 5 m else if w = 3 then M 1 m else if w = 4 then M 2 m else if w = 5 then M 3 m else if w = 6 then M 4 m else -1
set_option maxRecDepth 100000 in
set_option maxHeartbeats 4000000 in
theorem c_man {V : wd_V} {ad : Nat → Nat} (hinj : wd_inj cS ad) (σ : wd_S) (ht : σ.2.2 < 2) (hT : tOk (tv σ)) (x : Int32) (m : Nat) (hx : x = nI m) (hm : m < nMen (tv σ)) (y : Int32) : wd_C cS V ad 2 yX4_man (Cond.code yX4_man cX4_man 3 (some .int) :: wsL_law) σ [.ref (ad 0), .int x, .int y] (wd_eq (some (.int (manV (tv σ) (mv σ 0) m y))) (σ)) := by
  refine wd_intro (lv := [some (.ref (ad 0)), some (.int x), some (.int y)]) hinj (by decide) rfl (Nat.le_of_ble_eq_true rfl) rfl (Nat.le_of_ble_eq_true rfl) (fun K hC => ?_)
  have h6 := hT.m6
  have h3 := hT.c3
  refine wd_aload_n hC dX4_man_0 rfl rfl ?_
  refine wd_iload_n hC dX4_man_1 rfl rfl ?_
  refine cv4i hC cw_X4_85 (c_isMan hinj _ ht _) dX4_man_2 (by first | decide | omega) (by decide) rfl rfl (Nat.le_of_ble_eq_true rfl) ?_
  refine wd_if_ne (tgt := 10) hC dX4_man_5 (by decide) (fun c_5 => ?_) (fun c_5 => absurd c_5 (bIm (pm_of hT hx hm)))
  refine wd_iload_n hC dX4_man_10 rfl rfl ?_
  by_cases e_0 : y = 0
  · refine wd_vi e_0 ?_
    refine wd_tableIn (off := 41) (tgt := 52) hC dX4_man_11 (by decide) (by decide) rfl (by decide) ?_
    refine wd_aload_n hC dX4_man_52 rfl rfl ?_
    refine gf_X4_19 hC dX4_man_53 ?_
    refine gf_X4_89 hC dX4_man_56 ?_
    refine wd_iload_n hC dX4_man_59 rfl rfl ?_
    refine ld_s hC dX4_man_60 (m) hx (by omega) ?_
    exact wd_iret hC rfl dX4_man_61 (by rw [manV, if_pos e_0]; try rfl) rfl
  · skip
    by_cases e_1 : y = 1
    · refine wd_vi e_1 ?_
      refine wd_tableIn (off := 51) (tgt := 62) hC dX4_man_11 (by decide) (by decide) rfl (by decide) ?_
      refine wd_aload_n hC dX4_man_62 rfl rfl ?_
      refine gf_X4_19 hC dX4_man_63 ?_
      refine gf_X4_92 hC dX4_man_66 ?_
      refine wd_iload_n hC dX4_man_69 rfl rfl ?_
      refine ld_s hC dX4_man_70 (m) hx (by omega) ?_
      exact wd_iret hC rfl dX4_man_71 (by rw [manV, if_neg e_0, if_pos e_1]; try rfl) rfl
    · skip
      by_cases e_2 : y = 2
      · refine wd_vi e_2 ?_
        refine wd_tableIn (off := 61) (tgt := 72) hC dX4_man_11 (by decide) (by decide) rfl (by decide) ?_
        refine wd_aload_n hC dX4_man_72 rfl rfl ?_
        refine gf_X4_19 hC dX4_man_73 ?_
        refine gf_X4_95 hC dX4_man_76 ?_
        refine wd_iload_n hC dX4_man_79 rfl rfl ?_
        refine ld_s hC dX4_man_80 (m) hx (by omega) ?_
        exact wd_iret hC rfl dX4_man_81 (by rw [manV, if_neg e_0, if_neg e_1, if_pos e_2]; try rfl) rfl
      · skip
        by_cases e_3 : y = 3
        · refine wd_vi e_3 ?_
          refine wd_tableIn (off := 71) (tgt := 82) hC dX4_man_11 (by decide) (by decide) rfl (by decide) ?_
          refine wd_aload_n hC dX4_man_82 rfl rfl ?_
          refine gf_X4_29 hC dX4_man_83 ?_
          refine gf_X4_98 hC dX4_man_86 ?_
          refine wd_iload_n hC dX4_man_89 rfl rfl ?_
          refine ld_m hC dX4_man_90 (m) hx (by omega) ?_
          exact wd_iret hC rfl dX4_man_91 (by rw [manV, if_neg e_0, if_neg e_1, if_neg e_2, if_pos e_3]; try rfl) rfl
        · skip
          by_cases e_4 : y = 4
          · refine wd_vi e_4 ?_
            refine wd_tableIn (off := 81) (tgt := 92) hC dX4_man_11 (by decide) (by decide) rfl (by decide) ?_
            refine wd_aload_n hC dX4_man_92 rfl rfl ?_
            refine gf_X4_29 hC dX4_man_93 ?_
            refine gf_X4_101 hC dX4_man_96 ?_
            refine wd_iload_n hC dX4_man_99 rfl rfl ?_
            refine ld_m hC dX4_man_100 (m) hx (by omega) ?_
            exact wd_iret hC rfl dX4_man_101 (by rw [manV, if_neg e_0, if_neg e_1, if_neg e_2, if_neg e_3, if_pos e_4]; try rfl) rfl
          · skip
            by_cases e_5 : y = 5
            · refine wd_vi e_5 ?_
              refine wd_tableIn (off := 91) (tgt := 102) hC dX4_man_11 (by decide) (by decide) rfl (by decide) ?_
              refine wd_aload_n hC dX4_man_102 rfl rfl ?_
              refine gf_X4_29 hC dX4_man_103 ?_
              refine gf_X4_104 hC dX4_man_106 ?_
              refine wd_iload_n hC dX4_man_109 rfl rfl ?_
              refine ld_m hC dX4_man_110 (m) hx (by omega) ?_
              exact wd_iret hC rfl dX4_man_111 (by rw [manV, if_neg e_0, if_neg e_1, if_neg e_2, if_neg e_3, if_neg e_4, if_pos e_5]; try rfl) rfl
            · skip
              by_cases e_6 : y = 6
              · refine wd_vi e_6 ?_
                refine wd_tableIn (off := 101) (tgt := 112) hC dX4_man_11 (by decide) (by decide) rfl (by decide) ?_
                refine wd_aload_n hC dX4_man_112 rfl rfl ?_
                refine gf_X4_29 hC dX4_man_113 ?_
                refine gf_X4_107 hC dX4_man_116 ?_
                refine wd_iload_n hC dX4_man_119 rfl rfl ?_
                refine ld_m hC dX4_man_120 (m) hx (by omega) ?_
                exact wd_iret hC rfl dX4_man_121 (by rw [manV, if_neg e_0, if_neg e_1, if_neg e_2, if_neg e_3, if_neg e_4, if_neg e_5, if_pos e_6]; try rfl) rfl
              · skip
                refine wd_tableOut (tgt := 122) hC dX4_man_11 (sw_out 6 (fun k hk => by rcases (show k = 0 ∨ k = 1 ∨ k = 2 ∨ k = 3 ∨ k = 4 ∨ k = 5 ∨ k = 6 by omega) with rfl | rfl | rfl | rfl | rfl | rfl | rfl <;> assumption)) (by decide) ?_
                refine wd_iconst (v := -1) hC dX4_man_122 rfl ?_
                exact wd_iret hC rfl dX4_man_123 (by rw [manV, if_neg e_0, if_neg e_1, if_neg e_2, if_neg e_3, if_neg e_4, if_neg e_5, if_neg e_6]; try rfl) rfl
set_option maxRecDepth 100000 in
set_option maxHeartbeats 4000000 in
theorem c_yieldOf_bad {V : wd_V} {ad : Nat → Nat} (hinj : wd_inj cS ad) (σ : wd_S) (ht : σ.2.2 < 2) (x y : Int32) (hB : ¬ (pMan (tv σ) x ∧ pCrop (tv σ) y)) : wd_C cS V ad 2 yX4_yieldOf (Cond.code yX4_yieldOf cX4_yieldOf 3 (some .int) :: wsL_law) σ [.ref (ad 0), .int x, .int y] (wd_eq (some (.int (-1))) (σ)) := by
  refine wd_intro (lv := [some (.ref (ad 0)), some (.int x), some (.int y)]) hinj (by decide) rfl (Nat.le_of_ble_eq_true rfl) rfl (Nat.le_of_ble_eq_true rfl) (fun K hC => ?_)
  refine wd_aload_n hC dX4_yieldOf_0 rfl rfl ?_
  refine wd_iload_n hC dX4_yieldOf_1 rfl rfl ?_
  refine cv4i hC cw_X4_85 (c_isMan hinj _ ht _) dX4_yieldOf_2 (by first | decide | omega) (by decide) rfl rfl (Nat.le_of_ble_eq_true rfl) ?_
  refine wd_if_eq (tgt := 16) hC dX4_yieldOf_5 (by decide) (fun c_5 => ?_) (fun c_5 => ?_)
  · replace c_5 := bI_0.mp c_5
    refine wd_iconst (v := -1) hC dX4_yieldOf_16 rfl ?_
    exact wd_iret hC rfl dX4_yieldOf_17 rfl rfl
  · replace c_5 := bI_1.mp c_5
    refine wd_aload_n hC dX4_yieldOf_8 rfl rfl ?_
    refine wd_iload_n hC dX4_yieldOf_9 rfl rfl ?_
    refine cv4i hC cw_X4_110 (c_isCrop hinj _ ht _) dX4_yieldOf_10 (by first | decide | omega) (by decide) rfl rfl (Nat.le_of_ble_eq_true rfl) ?_
    refine wd_if_ne (tgt := 18) hC dX4_yieldOf_13 (by decide) (fun c_13 => ?_) (fun c_13 => ?_)
    · replace c_13 := bI_1.mp c_13
      exact absurd ⟨c_5, c_13⟩ hB
    · replace c_13 := bI_0.mp c_13
      refine wd_iconst (v := -1) hC dX4_yieldOf_16 rfl ?_
      exact wd_iret hC rfl dX4_yieldOf_17 rfl rfl
set_option maxRecDepth 100000 in
set_option maxHeartbeats 4000000 in
theorem c_carries_bad {V : wd_V} {ad : Nat → Nat} (hinj : wd_inj cS ad) (σ : wd_S) (ht : σ.2.2 < 2) (x y : Int32) (hB : ¬ (pMan (tv σ) x ∧ pCrop (tv σ) y)) : wd_C cS V ad 2 yX4_carries (Cond.code yX4_carries cX4_carries 3 (some .int) :: wsL_law) σ [.ref (ad 0), .int x, .int y] (wd_eq (some (.int (-1))) (σ)) := by
  refine wd_intro (lv := [some (.ref (ad 0)), some (.int x), some (.int y)]) hinj (by decide) rfl (Nat.le_of_ble_eq_true rfl) rfl (Nat.le_of_ble_eq_true rfl) (fun K hC => ?_)
  refine wd_aload_n hC dX4_carries_0 rfl rfl ?_
  refine wd_iload_n hC dX4_carries_1 rfl rfl ?_
  refine cv4i hC cw_X4_85 (c_isMan hinj _ ht _) dX4_carries_2 (by first | decide | omega) (by decide) rfl rfl (Nat.le_of_ble_eq_true rfl) ?_
  refine wd_if_eq (tgt := 16) hC dX4_carries_5 (by decide) (fun c_5 => ?_) (fun c_5 => ?_)
  · replace c_5 := bI_0.mp c_5
    refine wd_iconst (v := -1) hC dX4_carries_16 rfl ?_
    exact wd_iret hC rfl dX4_carries_17 rfl rfl
  · replace c_5 := bI_1.mp c_5
    refine wd_aload_n hC dX4_carries_8 rfl rfl ?_
    refine wd_iload_n hC dX4_carries_9 rfl rfl ?_
    refine cv4i hC cw_X4_110 (c_isCrop hinj _ ht _) dX4_carries_10 (by first | decide | omega) (by decide) rfl rfl (Nat.le_of_ble_eq_true rfl) ?_
    refine wd_if_ne (tgt := 18) hC dX4_carries_13 (by decide) (fun c_13 => ?_) (fun c_13 => ?_)
    · replace c_13 := bI_1.mp c_13
      exact absurd ⟨c_5, c_13⟩ hB
    · replace c_13 := bI_0.mp c_13
      refine wd_iconst (v := -1) hC dX4_carries_16 rfl ?_
      exact wd_iret hC rfl dX4_carries_17 rfl rfl
set_option maxRecDepth 100000 in
set_option maxHeartbeats 4000000 in
theorem c_sows_bad {V : wd_V} {ad : Nat → Nat} (hinj : wd_inj cS ad) (σ : wd_S) (ht : σ.2.2 < 2) (x y : Int32) (hB : ¬ (pMan (tv σ) x ∧ pCrop (tv σ) y)) : wd_C cS V ad 2 yX4_sows (Cond.code yX4_sows cX4_sows 4 (some .int) :: wsL_law) σ [.ref (ad 0), .int x, .int y] (wd_eq (some (.int (-1))) (σ)) := by
  refine wd_intro (lv := [some (.ref (ad 0)), some (.int x), some (.int y), none]) hinj (by decide) rfl (Nat.le_of_ble_eq_true rfl) rfl (Nat.le_of_ble_eq_true rfl) (fun K hC => ?_)
  refine wd_aload_n hC dX4_sows_0 rfl rfl ?_
  refine wd_iload_n hC dX4_sows_1 rfl rfl ?_
  refine cv4i hC cw_X4_85 (c_isMan hinj _ ht _) dX4_sows_2 (by first | decide | omega) (by decide) rfl rfl (Nat.le_of_ble_eq_true rfl) ?_
  refine wd_if_eq (tgt := 16) hC dX4_sows_5 (by decide) (fun c_5 => ?_) (fun c_5 => ?_)
  · replace c_5 := bI_0.mp c_5
    refine wd_iconst (v := -1) hC dX4_sows_16 rfl ?_
    exact wd_iret hC rfl dX4_sows_17 rfl rfl
  · replace c_5 := bI_1.mp c_5
    refine wd_aload_n hC dX4_sows_8 rfl rfl ?_
    refine wd_iload_n hC dX4_sows_9 rfl rfl ?_
    refine cv4i hC cw_X4_110 (c_isCrop hinj _ ht _) dX4_sows_10 (by first | decide | omega) (by decide) rfl rfl (Nat.le_of_ble_eq_true rfl) ?_
    refine wd_if_ne (tgt := 18) hC dX4_sows_13 (by decide) (fun c_13 => ?_) (fun c_13 => ?_)
    · replace c_13 := bI_1.mp c_13
      exact absurd ⟨c_5, c_13⟩ hB
    · replace c_13 := bI_0.mp c_13
      refine wd_iconst (v := -1) hC dX4_sows_16 rfl ?_
      exact wd_iret hC rfl dX4_sows_17 rfl rfl
set_option maxRecDepth 100000 in
set_option maxHeartbeats 4000000 in
theorem c_yieldOf {V : wd_V} {ad : Nat → Nat} (hinj : wd_inj cS ad) (σ : wd_S) (ht : σ.2.2 < 2) (hT : tOk (tv σ)) (x : Int32) (m : Nat) (hx : x = nI m) (hm : m < nMen (tv σ)) (y : Int32) (c : Nat) (hy : y = nI c) (hc : c < nCrops (tv σ))  : wd_C cS V ad 2 yX4_yieldOf (Cond.code yX4_yieldOf cX4_yieldOf 3 (some .int) :: wsL_law) σ [.ref (ad 0), .int x, .int y] (wd_eq (some (.int (tv σ (7 + m) c))) (σ)) := by
  refine wd_intro (lv := [some (.ref (ad 0)), some (.int x), some (.int y)]) hinj (by decide) rfl (Nat.le_of_ble_eq_true rfl) rfl (Nat.le_of_ble_eq_true rfl) (fun K hC => ?_)
  have h6 := hT.m6
  have h3 := hT.c3
  refine wd_aload_n hC dX4_yieldOf_0 rfl rfl ?_
  refine wd_iload_n hC dX4_yieldOf_1 rfl rfl ?_
  refine cv4i hC cw_X4_85 (c_isMan hinj _ ht _) dX4_yieldOf_2 (by first | decide | omega) (by decide) rfl rfl (Nat.le_of_ble_eq_true rfl) ?_
  refine wd_if_eq (tgt := 16) hC dX4_yieldOf_5 (by decide) (fun c_5 => absurd c_5 (bIm (pm_of hT hx hm))) (fun c_5 => ?_)
  refine wd_aload_n hC dX4_yieldOf_8 rfl rfl ?_
  refine wd_iload_n hC dX4_yieldOf_9 rfl rfl ?_
  refine cv4i hC cw_X4_110 (c_isCrop hinj _ ht _) dX4_yieldOf_10 (by first | decide | omega) (by decide) rfl rfl (Nat.le_of_ble_eq_true rfl) ?_
  refine wd_if_ne (tgt := 18) hC dX4_yieldOf_13 (by decide) (fun c_13 => ?_) (fun c_13 => absurd c_13 (bIm (pc_of hT hy hc)))
  refine wd_aload_n hC dX4_yieldOf_18 rfl rfl ?_
  refine gf_X4_19 hC dX4_yieldOf_19 ?_
  refine gf_X4_113 hC dX4_yieldOf_22 ?_
  refine wd_iload_n hC dX4_yieldOf_25 rfl rfl ?_
  refine ld_y hC dX4_yieldOf_26 (m) hx (by omega) ?_
  refine wd_iload_n hC dX4_yieldOf_27 rfl rfl ?_
  refine ld_r hC dX4_yieldOf_28 (c) hy (by omega) ?_
  exact wd_iret hC rfl dX4_yieldOf_29 (tv_y σ (by omega) c).symm rfl
set_option maxRecDepth 100000 in
set_option maxHeartbeats 4000000 in
theorem c_carries {V : wd_V} {ad : Nat → Nat} (hinj : wd_inj cS ad) (σ : wd_S) (ht : σ.2.2 < 2) (hT : tOk (tv σ)) (x : Int32) (m : Nat) (hx : x = nI m) (hm : m < nMen (tv σ)) (y : Int32) (c : Nat) (hy : y = nI c) (hc : c < nCrops (tv σ))  : wd_C cS V ad 2 yX4_carries (Cond.code yX4_carries cX4_carries 3 (some .int) :: wsL_law) σ [.ref (ad 0), .int x, .int y] (wd_eq (some (.int (wCarry (tv σ) (mv σ 0) m c))) (σ)) := by
  refine wd_intro (lv := [some (.ref (ad 0)), some (.int x), some (.int y)]) hinj (by decide) rfl (Nat.le_of_ble_eq_true rfl) rfl (Nat.le_of_ble_eq_true rfl) (fun K hC => ?_)
  have h6 := hT.m6
  have h3 := hT.c3
  refine wd_aload_n hC dX4_carries_0 rfl rfl ?_
  refine wd_iload_n hC dX4_carries_1 rfl rfl ?_
  refine cv4i hC cw_X4_85 (c_isMan hinj _ ht _) dX4_carries_2 (by first | decide | omega) (by decide) rfl rfl (Nat.le_of_ble_eq_true rfl) ?_
  refine wd_if_eq (tgt := 16) hC dX4_carries_5 (by decide) (fun c_5 => absurd c_5 (bIm (pm_of hT hx hm))) (fun c_5 => ?_)
  refine wd_aload_n hC dX4_carries_8 rfl rfl ?_
  refine wd_iload_n hC dX4_carries_9 rfl rfl ?_
  refine cv4i hC cw_X4_110 (c_isCrop hinj _ ht _) dX4_carries_10 (by first | decide | omega) (by decide) rfl rfl (Nat.le_of_ble_eq_true rfl) ?_
  refine wd_if_ne (tgt := 18) hC dX4_carries_13 (by decide) (fun c_13 => ?_) (fun c_13 => absurd c_13 (bIm (pc_of hT hy hc)))
  refine wd_aload_n hC dX4_carries_18 rfl rfl ?_
  refine wd_aload_n hC dX4_carries_19 rfl rfl ?_
  refine gf_X4_29 hC dX4_carries_20 ?_
  refine wd_iload_n hC dX4_carries_23 rfl rfl ?_
  refine wd_iload_n hC dX4_carries_24 rfl rfl ?_
  refine cv4i hC cw_X4_117 (c_carriedBy hinj _ ht 0 (by decide) x y m c hx hy (by omega) (by omega)) dX4_carries_25 (by first | decide | omega) (by decide) rfl rfl (Nat.le_of_ble_eq_true rfl) ?_
  exact wd_iret hC rfl dX4_carries_28 rfl rfl
set_option maxRecDepth 100000 in
set_option maxHeartbeats 4000000 in
theorem c_has_bad {V : wd_V} {ad : Nat → Nat} (hinj : wd_inj cS ad) (σ : wd_S) (ht : σ.2.2 < 2) (x y : Int32) (hB : ¬ pMan (tv σ) x) : wd_C cS V ad 2 yX4_has (Cond.code yX4_has cX4_has 3 (some .int) :: wsL_law) σ [.ref (ad 0), .int x, .int y] (wd_eq (some (.int (-1000000))) (σ)) := by
  refine wd_intro (lv := [some (.ref (ad 0)), some (.int x), some (.int y)]) hinj (by decide) rfl (Nat.le_of_ble_eq_true rfl) rfl (Nat.le_of_ble_eq_true rfl) (fun K hC => ?_)
  refine wd_aload_n hC dX4_has_0 rfl rfl ?_
  refine wd_iload_n hC dX4_has_1 rfl rfl ?_
  refine cv4i hC cw_X4_85 (c_isMan hinj _ ht _) dX4_has_2 (by first | decide | omega) (by decide) rfl rfl (Nat.le_of_ble_eq_true rfl) ?_
  refine wd_if_ne (tgt := 11) hC dX4_has_5 (by decide) (fun c_5 => ?_) (fun c_5 => ?_)
  · replace c_5 := bI_1.mp c_5
    exact absurd c_5 hB
  · replace c_5 := bI_0.mp c_5
    refine wd_ldc (v := (-1000000)) hC dX4_has_8 (wL_12 _ (List.mem_of_getElem? (i := 6) rfl)) ?_
    exact wd_iret hC rfl dX4_has_10 rfl rfl
def hasV (T M : Nat → Nat → Int32) (m : Nat) (w : Int32) : Int32 := if w = 0 then wTaken T M m else if w = 1 then wKept T M m else if w = 2 then wHas T M m else if w = 3 then M 5 m else -1000000
set_option maxRecDepth 100000 in
set_option maxHeartbeats 4000000 in
theorem c_has {V : wd_V} {ad : Nat → Nat} (hinj : wd_inj cS ad) (σ : wd_S) (ht : σ.2.2 < 2) (hT : tOk (tv σ)) (x : Int32) (m : Nat) (hx : x = nI m) (hm : m < nMen (tv σ)) (hM : mOk (mv σ 0)) (y : Int32) : wd_C cS V ad 3 yX4_has (Cond.code yX4_has cX4_has 3 (some .int) :: wsL_law) σ [.ref (ad 0), .int x, .int y] (wd_eq (some (.int (hasV (tv σ) (mv σ 0) m y))) (σ)) := by
  refine wd_intro (lv := [some (.ref (ad 0)), some (.int x), some (.int y)]) hinj (by decide) rfl (Nat.le_of_ble_eq_true rfl) rfl (Nat.le_of_ble_eq_true rfl) (fun K hC => ?_)
  have h6 := hT.m6
  have h3 := hT.c3
  refine wd_aload_n hC dX4_has_0 rfl rfl ?_
  refine wd_iload_n hC dX4_has_1 rfl rfl ?_
  refine cv4i hC cw_X4_85 (c_isMan hinj _ ht _) dX4_has_2 (by first | decide | omega) (by decide) rfl rfl (Nat.le_of_ble_eq_true rfl) ?_
  refine wd_if_ne (tgt := 11) hC dX4_has_5 (by decide) (fun c_5 => ?_) (fun c_5 => absurd c_5 (bIm (pm_of hT hx hm)))
  refine wd_iload_n hC dX4_has_11 rfl rfl ?_
  by_cases e_0 : y = 0
  · refine wd_vi e_0 ?_
    refine wd_tableIn (off := 32) (tgt := 44) hC dX4_has_12 (by decide) (by decide) rfl (by decide) ?_
    refine wd_aload_n hC dX4_has_44 rfl rfl ?_
    refine wd_aload_n hC dX4_has_45 rfl rfl ?_
    refine gf_X4_29 hC dX4_has_46 ?_
    refine wd_iload_n hC dX4_has_49 rfl rfl ?_
    refine cv4i hC cw_X4_122 (c_takenBy hinj _ ht 0 (by decide) x m hx (by omega) hM) dX4_has_50 (by first | decide | omega) (by decide) rfl rfl (Nat.le_of_ble_eq_true rfl) ?_
    exact wd_iret hC rfl dX4_has_53 (by rw [hasV, if_pos e_0]; try rfl) rfl
  · skip
    by_cases e_1 : y = 1
    · refine wd_vi e_1 ?_
      refine wd_tableIn (off := 42) (tgt := 54) hC dX4_has_12 (by decide) (by decide) rfl (by decide) ?_
      refine wd_aload_n hC dX4_has_54 rfl rfl ?_
      refine wd_aload_n hC dX4_has_55 rfl rfl ?_
      refine gf_X4_29 hC dX4_has_56 ?_
      refine wd_iload_n hC dX4_has_59 rfl rfl ?_
      refine cv4i hC cw_X4_126 (c_keptBy hinj _ ht 0 (by decide) x m hx (by omega) hM) dX4_has_60 (by first | decide | omega) (by decide) rfl rfl (Nat.le_of_ble_eq_true rfl) ?_
      exact wd_iret hC rfl dX4_has_63 (by rw [hasV, if_neg e_0, if_pos e_1]; try rfl) rfl
    · skip
      by_cases e_2 : y = 2
      · refine wd_vi e_2 ?_
        refine wd_tableIn (off := 52) (tgt := 64) hC dX4_has_12 (by decide) (by decide) rfl (by decide) ?_
        refine wd_aload_n hC dX4_has_64 rfl rfl ?_
        refine wd_aload_n hC dX4_has_65 rfl rfl ?_
        refine gf_X4_29 hC dX4_has_66 ?_
        refine wd_iload_n hC dX4_has_69 rfl rfl ?_
        refine cv4i hC cw_X4_129 (c_wealthOf hinj _ ht 0 (by decide) x m hx (by omega) hM) dX4_has_70 (by first | decide | omega) (by decide) rfl rfl (Nat.le_of_ble_eq_true rfl) ?_
        exact wd_iret hC rfl dX4_has_73 (by rw [hasV, if_neg e_0, if_neg e_1, if_pos e_2]; try rfl) rfl
      · skip
        by_cases e_3 : y = 3
        · refine wd_vi e_3 ?_
          refine wd_tableIn (off := 62) (tgt := 74) hC dX4_has_12 (by decide) (by decide) rfl (by decide) ?_
          refine wd_aload_n hC dX4_has_74 rfl rfl ?_
          refine gf_X4_29 hC dX4_has_75 ?_
          refine gf_X4_132 hC dX4_has_78 ?_
          refine wd_iload_n hC dX4_has_81 rfl rfl ?_
          refine ld_m hC dX4_has_82 (m) hx (by omega) ?_
          exact wd_iret hC rfl dX4_has_83 (by rw [hasV, if_neg e_0, if_neg e_1, if_neg e_2, if_pos e_3]; try rfl) rfl
        · skip
          refine wd_tableOut (tgt := 84) hC dX4_has_12 (sw_out 3 (fun k hk => by rcases (show k = 0 ∨ k = 1 ∨ k = 2 ∨ k = 3 by omega) with rfl | rfl | rfl | rfl <;> assumption)) (by decide) ?_
          refine wd_ldc (v := (-1000000)) hC dX4_has_84 (wL_12 _ (List.mem_of_getElem? (i := 6) rfl)) ?_
          exact wd_iret hC rfl dX4_has_86 (by rw [hasV, if_neg e_0, if_neg e_1, if_neg e_2, if_neg e_3]; try rfl) rfl
def countV (T : Nat → Nat → Int32) (s n w : Int32) : Int32 := if w = 0 then T 0 0 else if w = 1 then T 0 3 else if w = 2 then s else if w = 3 then n else -1
set_option maxRecDepth 100000 in
set_option maxHeartbeats 4000000 in
theorem c_count {V : wd_V} {ad : Nat → Nat} (hinj : wd_inj cS ad) (σ : wd_S) (ht : σ.2.2 < 2) (x : Int32) : wd_C cS V ad 0 yX4_count (Cond.code yX4_count cX4_count 2 (some .int) :: wsL_law) σ [.ref (ad 0), .int x] (wd_eq (some (.int (countV (tv σ) (σ.1 0 10) (σ.1 1 1) x))) (σ)) := by
  refine wd_intro (lv := [some (.ref (ad 0)), some (.int x)]) hinj (by decide) rfl (Nat.le_of_ble_eq_true rfl) rfl (Nat.le_of_ble_eq_true rfl) (fun K hC => ?_)
  refine wd_iload_n hC dX4_count_0 rfl rfl ?_
  by_cases e_0 : x = 0
  · refine wd_vi e_0 ?_
    refine wd_tableIn (off := 31) (tgt := 32) hC dX4_count_1 (by decide) (by decide) rfl (by decide) ?_
    refine wd_aload_n hC dX4_count_32 rfl rfl ?_
    refine gf_X4_19 hC dX4_count_33 ?_
    refine gf_X4_176 hC dX4_count_36 ?_
    exact wd_iret hC rfl dX4_count_39 (by rw [countV, if_pos e_0]; try rfl) rfl
  · skip
    by_cases e_1 : x = 1
    · refine wd_vi e_1 ?_
      refine wd_tableIn (off := 39) (tgt := 40) hC dX4_count_1 (by decide) (by decide) rfl (by decide) ?_
      refine wd_aload_n hC dX4_count_40 rfl rfl ?_
      refine gf_X4_19 hC dX4_count_41 ?_
      refine gf_X4_76 hC dX4_count_44 ?_
      exact wd_iret hC rfl dX4_count_47 (by rw [countV, if_neg e_0, if_pos e_1]; try rfl) rfl
    · skip
      by_cases e_2 : x = 2
      · refine wd_vi e_2 ?_
        refine wd_tableIn (off := 47) (tgt := 48) hC dX4_count_1 (by decide) (by decide) rfl (by decide) ?_
        refine wd_aload_n hC dX4_count_48 rfl rfl ?_
        refine gf_X4_82 hC dX4_count_49 ?_
        exact wd_iret hC rfl dX4_count_52 (by rw [countV, if_neg e_0, if_neg e_1, if_pos e_2]; try rfl) rfl
      · skip
        by_cases e_3 : x = 3
        · refine wd_vi e_3 ?_
          refine wd_tableIn (off := 52) (tgt := 53) hC dX4_count_1 (by decide) (by decide) rfl (by decide) ?_
          refine wd_aload_n hC dX4_count_53 rfl rfl ?_
          refine gf_X4_10 hC dX4_count_54 ?_
          refine gf_X4_65 hC dX4_count_57 ?_
          exact wd_iret hC rfl dX4_count_60 (by rw [countV, if_neg e_0, if_neg e_1, if_neg e_2, if_pos e_3]; try rfl) rfl
        · skip
          refine wd_tableOut (tgt := 61) hC dX4_count_1 (sw_out 3 (fun k hk => by rcases (show k = 0 ∨ k = 1 ∨ k = 2 ∨ k = 3 by omega) with rfl | rfl | rfl | rfl <;> assumption)) (by decide) ?_
          refine wd_iconst (v := -1) hC dX4_count_61 rfl ?_
          exact wd_iret hC rfl dX4_count_62 (by rw [countV, if_neg e_0, if_neg e_1, if_neg e_2, if_neg e_3]; try rfl) rfl
set_option maxRecDepth 100000 in
set_option maxHeartbeats 4000000 in
theorem c_trace {V : wd_V} {ad : Nat → Nat} (hinj : wd_inj cS ad) (σ : wd_S)  : wd_C cS V ad 0 yX4_trace (Cond.code yX4_trace cX4_trace 1 (some .long) :: wsL_law) σ [.ref (ad 0)] (wd_eq (some (.long (σ.2.1))) (σ)) := by
  refine wd_intro (lv := [some (.ref (ad 0))]) hinj (by decide) rfl (Nat.le_of_ble_eq_true rfl) rfl (Nat.le_of_ble_eq_true rfl) (fun K hC => ?_)
  refine wd_aload_n hC dX4_trace_0 rfl rfl ?_
  refine gf_X4_241 hC dX4_trace_1 ?_
  exact wd_lret hC rfl dX4_trace_4 rfl rfl
theorem lgAdd_m (σ : wd_S) (h : lOk σ) {c : Nat} (hc : c < 6) : (lgAdd σ).1 (cm 0 + c) = σ.1 (cm 0 + c) := by
  have h10 := h.n10
  unfold lgAdd
  rw [wd_up_n _ _ _ _ (by unfold cm; omega), wd_up_n _ _ _ _ (by unfold cm; omega), stM_n _ (by omega) _ hc]
theorem lgAdd_m0 (σ : wd_S) (h : lOk σ) : (lgAdd σ).1 (cm 0) = σ.1 (cm 0) := lgAdd_m σ h (c := 0) (by decide)

set_option maxRecDepth 100000 in
set_option maxHeartbeats 4000000 in
theorem c_sows {V : wd_V} {ad : Nat → Nat} (hinj : wd_inj cS ad) (σ : wd_S) (ht : σ.2.2 < 2) (hT : tOk (tv σ)) (hL : lOk σ) (x : Int32) (m : Nat) (hx : x = nI m) (hm : m < nMen (tv σ)) (y : Int32) (c : Nat) (hy : y = nI c) (hc : c < nCrops (tv σ))  : wd_C cS V ad 3 yX4_sows (Cond.code yX4_sows cX4_sows 4 (some .int) :: wsL_law) σ [.ref (ad 0), .int x, .int y] (wd_eq (some (.int (mv σ 0 1 m))) (wd_up (lgAdd σ) (cm 0 + 1) m y)) := by
  refine wd_intro (lv := [some (.ref (ad 0)), some (.int x), some (.int y), none]) hinj (by decide) rfl (Nat.le_of_ble_eq_true rfl) rfl (Nat.le_of_ble_eq_true rfl) (fun K hC => ?_)
  have h6 := hT.m6
  have h3 := hT.c3
  refine wd_aload_n hC dX4_sows_0 rfl rfl ?_
  refine wd_iload_n hC dX4_sows_1 rfl rfl ?_
  refine cv4i hC cw_X4_85 (c_isMan hinj _ ht _) dX4_sows_2 (by first | decide | omega) (by decide) rfl rfl (Nat.le_of_ble_eq_true rfl) ?_
  refine wd_if_eq (tgt := 16) hC dX4_sows_5 (by decide) (fun c_5 => absurd c_5 (bIm (pm_of hT hx hm))) (fun c_5 => ?_)
  refine wd_aload_n hC dX4_sows_8 rfl rfl ?_
  refine wd_iload_n hC dX4_sows_9 rfl rfl ?_
  refine cv4i hC cw_X4_110 (c_isCrop hinj _ ht _) dX4_sows_10 (by first | decide | omega) (by decide) rfl rfl (Nat.le_of_ble_eq_true rfl) ?_
  refine wd_if_ne (tgt := 18) hC dX4_sows_13 (by decide) (fun c_13 => ?_) (fun c_13 => absurd c_13 (bIm (pc_of hT hy hc)))
  refine wd_aload_n hC dX4_sows_18 rfl rfl ?_
  refine gf_X4_39 hC dX4_sows_19 ?_
  refine wd_aload_n hC dX4_sows_22 rfl rfl ?_
  refine gf_X4_29 hC dX4_sows_23 ?_
  refine cv0v hC cw_X4_151 (c_add hinj _ hL) dX4_sows_26 (by first | decide | omega) (by decide) rfl rfl (Nat.le_of_ble_eq_true rfl) ?_
  refine wd_aload_n hC dX4_sows_29 rfl rfl ?_
  refine gf_X4_29 hC dX4_sows_30 ?_
  refine gf_X4_98 hC dX4_sows_33 ?_
  refine wd_iload_n hC dX4_sows_36 rfl rfl ?_
  refine ld_m hC dX4_sows_37 (m) hx (by omega) ?_
  refine wd_istore_n_4_3 hC dX4_sows_38 ?_
  refine wd_aload_n hC dX4_sows_39 rfl rfl ?_
  refine gf_X4_29 hC dX4_sows_40 ?_
  refine gf_X4_98 hC dX4_sows_43 ?_
  refine wd_iload_n hC dX4_sows_46 rfl rfl ?_
  refine wd_iload_n hC dX4_sows_47 rfl rfl ?_
  refine st_m hC dX4_sows_48 (m) hx (by omega) ?_
  refine wd_iload_n hC dX4_sows_49 rfl rfl ?_
  exact wd_iret hC rfl dX4_sows_50 (by rw [lgAdd_m σ hL (by decide)]; rfl) rfl
set_option maxRecDepth 100000 in
set_option maxHeartbeats 4000000 in
theorem c_rains_bad {V : wd_V} {ad : Nat → Nat} (hinj : wd_inj cS ad) (σ : wd_S) (x : Int32) (hB : ¬ pBelow x 2) : wd_C cS V ad 2 yX4_rains (Cond.code yX4_rains cX4_rains 3 (some .int) :: wsL_law) σ [.ref (ad 0), .int x] (wd_eq (some (.int (-1))) (σ)) := by
  refine wd_intro (lv := [some (.ref (ad 0)), some (.int x), none]) hinj (by decide) rfl (Nat.le_of_ble_eq_true rfl) rfl (Nat.le_of_ble_eq_true rfl) (fun K hC => ?_)
  refine wd_iload_n hC dX4_rains_0 rfl rfl ?_
  refine wd_iconst (v := 2) hC dX4_rains_1 rfl ?_
  refine cvsi hC cw_X4_155 (c_isBelow hinj _ _ _) dX4_rains_2 (by first | decide | omega) (by decide) rfl rfl (Nat.le_of_ble_eq_true rfl) ?_
  refine wd_if_ne (tgt := 10) hC dX4_rains_5 (by decide) (fun c_5 => ?_) (fun c_5 => ?_)
  · replace c_5 := bI_1.mp c_5
    exact absurd c_5 hB
  · replace c_5 := bI_0.mp c_5
    refine wd_iconst (v := -1) hC dX4_rains_8 rfl ?_
    exact wd_iret hC rfl dX4_rains_9 rfl rfl
set_option maxRecDepth 100000 in
set_option maxHeartbeats 4000000 in
theorem c_rains {V : wd_V} {ad : Nat → Nat} (hinj : wd_inj cS ad) (σ : wd_S) (hL : lOk σ) (x : Int32) (hp : pBelow x 2) : wd_C cS V ad 3 yX4_rains (Cond.code yX4_rains cX4_rains 3 (some .int) :: wsL_law) σ [.ref (ad 0), .int x] (wd_eq (some (.int (mv σ 0 0 5))) (wd_up (lgAdd σ) (cm 0) 5 x)) := by
  refine wd_intro (lv := [some (.ref (ad 0)), some (.int x), none]) hinj (by decide) rfl (Nat.le_of_ble_eq_true rfl) rfl (Nat.le_of_ble_eq_true rfl) (fun K hC => ?_)
  refine wd_iload_n hC dX4_rains_0 rfl rfl ?_
  refine wd_iconst (v := 2) hC dX4_rains_1 rfl ?_
  refine cvsi hC cw_X4_155 (c_isBelow hinj _ _ _) dX4_rains_2 (by first | decide | omega) (by decide) rfl rfl (Nat.le_of_ble_eq_true rfl) ?_
  refine wd_if_ne (tgt := 10) hC dX4_rains_5 (by decide) (fun c_5 => ?_) (fun c_5 => absurd c_5 (bIm hp))
  refine wd_aload_n hC dX4_rains_10 rfl rfl ?_
  refine gf_X4_39 hC dX4_rains_11 ?_
  refine wd_aload_n hC dX4_rains_14 rfl rfl ?_
  refine gf_X4_29 hC dX4_rains_15 ?_
  refine cv0v hC cw_X4_151 (c_add hinj _ hL) dX4_rains_18 (by first | decide | omega) (by decide) rfl rfl (Nat.le_of_ble_eq_true rfl) ?_
  refine wd_aload_n hC dX4_rains_21 rfl rfl ?_
  refine gf_X4_29 hC dX4_rains_22 ?_
  refine gf_X4_138 hC dX4_rains_25 ?_
  refine wd_istore_n_3_2 hC dX4_rains_28 ?_
  refine wd_aload_n hC dX4_rains_29 rfl rfl ?_
  refine gf_X4_29 hC dX4_rains_30 ?_
  refine wd_iload_n hC dX4_rains_33 rfl rfl ?_
  refine pf_X4_138 hC dX4_rains_34 ?_
  refine wd_iload_n hC dX4_rains_37 rfl rfl ?_
  exact wd_iret hC rfl dX4_rains_38 (by rw [lgAdd_m0 σ hL]; rfl) rfl
set_option maxRecDepth 100000 in
set_option maxHeartbeats 4000000 in
theorem c_ropes_bad {V : wd_V} {ad : Nat → Nat} (hinj : wd_inj cS ad) (σ : wd_S) (ht : σ.2.2 < 2) (x y : Int32) (hB : ¬ (pMan (tv σ) x ∧ 0 ≤ y ∧ y ≤ 3)) : wd_C cS V ad 2 yX4_ropes (Cond.code yX4_ropes cX4_ropes 4 (some .int) :: wsL_law) σ [.ref (ad 0), .int x, .int y] (wd_eq (some (.int (-1))) (σ)) := by
  refine wd_intro (lv := [some (.ref (ad 0)), some (.int x), some (.int y), none]) hinj (by decide) rfl (Nat.le_of_ble_eq_true rfl) rfl (Nat.le_of_ble_eq_true rfl) (fun K hC => ?_)
  refine wd_aload_n hC dX4_ropes_0 rfl rfl ?_
  refine wd_iload_n hC dX4_ropes_1 rfl rfl ?_
  refine cv4i hC cw_X4_85 (c_isMan hinj _ ht _) dX4_ropes_2 (by first | decide | omega) (by decide) rfl rfl (Nat.le_of_ble_eq_true rfl) ?_
  refine wd_if_eq (tgt := 17) hC dX4_ropes_5 (by decide) (fun c_5 => ?_) (fun c_5 => ?_)
  · replace c_5 := bI_0.mp c_5
    refine wd_iconst (v := -1) hC dX4_ropes_17 rfl ?_
    exact wd_iret hC rfl dX4_ropes_18 rfl rfl
  · replace c_5 := bI_1.mp c_5
    refine wd_iload_n hC dX4_ropes_8 rfl rfl ?_
    refine wd_if_lt (tgt := 17) hC dX4_ropes_9 (by decide) (fun c_9 => ?_) (fun c_9 => ?_)
    · refine wd_iconst (v := -1) hC dX4_ropes_17 rfl ?_
      exact wd_iret hC rfl dX4_ropes_18 rfl rfl
    · refine wd_iload_n hC dX4_ropes_12 rfl rfl ?_
      refine wd_iconst (v := 3) hC dX4_ropes_13 rfl ?_
      refine wd_icmp_le (tgt := 19) hC dX4_ropes_14 (by decide) (fun c_14 => ?_) (fun c_14 => ?_)
      · exact absurd ⟨c_5, i_le c_9, c_14⟩ hB
      · refine wd_iconst (v := -1) hC dX4_ropes_17 rfl ?_
        exact wd_iret hC rfl dX4_ropes_18 rfl rfl
set_option maxRecDepth 100000 in
set_option maxHeartbeats 4000000 in
theorem c_ropes {V : wd_V} {ad : Nat → Nat} (hinj : wd_inj cS ad) (σ : wd_S) (ht : σ.2.2 < 2) (hT : tOk (tv σ)) (hL : lOk σ) (x : Int32) (m : Nat) (hx : x = nI m) (hm : m < nMen (tv σ)) (y : Int32) (h0 : 0 ≤ y) (h3 : y ≤ 3) : wd_C cS V ad 3 yX4_ropes (Cond.code yX4_ropes cX4_ropes 4 (some .int) :: wsL_law) σ [.ref (ad 0), .int x, .int y] (wd_eq (some (.int (mv σ 0 3 m))) (wd_up (lgAdd σ) (cm 0 + 3) m y)) := by
  refine wd_intro (lv := [some (.ref (ad 0)), some (.int x), some (.int y), none]) hinj (by decide) rfl (Nat.le_of_ble_eq_true rfl) rfl (Nat.le_of_ble_eq_true rfl) (fun K hC => ?_)
  have h6 := hT.m6
  refine wd_aload_n hC dX4_ropes_0 rfl rfl ?_
  refine wd_iload_n hC dX4_ropes_1 rfl rfl ?_
  refine cv4i hC cw_X4_85 (c_isMan hinj _ ht _) dX4_ropes_2 (by first | decide | omega) (by decide) rfl rfl (Nat.le_of_ble_eq_true rfl) ?_
  refine wd_if_eq (tgt := 17) hC dX4_ropes_5 (by decide) (fun c_5 => absurd c_5 (bIm (pm_of hT hx hm))) (fun c_5 => ?_)
  refine wd_iload_n hC dX4_ropes_8 rfl rfl ?_
  refine wd_if_lt (tgt := 17) hC dX4_ropes_9 (by decide) (fun c_9 => absurd c_9 (Int32.not_lt.mpr h0)) (fun c_9 => ?_)
  refine wd_iload_n hC dX4_ropes_12 rfl rfl ?_
  refine wd_iconst (v := 3) hC dX4_ropes_13 rfl ?_
  refine wd_icmp_le (tgt := 19) hC dX4_ropes_14 (by decide) (fun c_14 => ?_) (fun c_14 => absurd h3 c_14)
  refine wd_aload_n hC dX4_ropes_19 rfl rfl ?_
  refine gf_X4_39 hC dX4_ropes_20 ?_
  refine wd_aload_n hC dX4_ropes_23 rfl rfl ?_
  refine gf_X4_29 hC dX4_ropes_24 ?_
  refine cv0v hC cw_X4_151 (c_add hinj _ hL) dX4_ropes_27 (by first | decide | omega) (by decide) rfl rfl (Nat.le_of_ble_eq_true rfl) ?_
  refine wd_aload_n hC dX4_ropes_30 rfl rfl ?_
  refine gf_X4_29 hC dX4_ropes_31 ?_
  refine gf_X4_104 hC dX4_ropes_34 ?_
  refine wd_iload_n hC dX4_ropes_37 rfl rfl ?_
  refine ld_m hC dX4_ropes_38 (m) hx (by omega) ?_
  refine wd_istore_n_4_3 hC dX4_ropes_39 ?_
  refine wd_aload_n hC dX4_ropes_40 rfl rfl ?_
  refine gf_X4_29 hC dX4_ropes_41 ?_
  refine gf_X4_104 hC dX4_ropes_44 ?_
  refine wd_iload_n hC dX4_ropes_47 rfl rfl ?_
  refine wd_iload_n hC dX4_ropes_48 rfl rfl ?_
  refine st_m hC dX4_ropes_49 (m) hx (by omega) ?_
  refine wd_iload_n hC dX4_ropes_50 rfl rfl ?_
  exact wd_iret hC rfl dX4_ropes_51 (by rw [lgAdd_m σ hL (by decide)]; rfl) rfl
set_option maxRecDepth 100000 in
set_option maxHeartbeats 4000000 in
theorem c_mules_bad {V : wd_V} {ad : Nat → Nat} (hinj : wd_inj cS ad) (σ : wd_S) (ht : σ.2.2 < 2) (x y : Int32) (hB : ¬ (pMan (tv σ) x ∧ pBelow y 2)) : wd_C cS V ad 2 yX4_mules (Cond.code yX4_mules cX4_mules 4 (some .int) :: wsL_law) σ [.ref (ad 0), .int x, .int y] (wd_eq (some (.int (-1))) (σ)) := by
  refine wd_intro (lv := [some (.ref (ad 0)), some (.int x), some (.int y), none]) hinj (by decide) rfl (Nat.le_of_ble_eq_true rfl) rfl (Nat.le_of_ble_eq_true rfl) (fun K hC => ?_)
  refine wd_aload_n hC dX4_mules_0 rfl rfl ?_
  refine wd_iload_n hC dX4_mules_1 rfl rfl ?_
  refine cv4i hC cw_X4_85 (c_isMan hinj _ ht _) dX4_mules_2 (by first | decide | omega) (by decide) rfl rfl (Nat.le_of_ble_eq_true rfl) ?_
  refine wd_if_eq (tgt := 16) hC dX4_mules_5 (by decide) (fun c_5 => ?_) (fun c_5 => ?_)
  · replace c_5 := bI_0.mp c_5
    refine wd_iconst (v := -1) hC dX4_mules_16 rfl ?_
    exact wd_iret hC rfl dX4_mules_17 rfl rfl
  · replace c_5 := bI_1.mp c_5
    refine wd_iload_n hC dX4_mules_8 rfl rfl ?_
    refine wd_iconst (v := 2) hC dX4_mules_9 rfl ?_
    refine cvsi hC cw_X4_155 (c_isBelow hinj _ _ _) dX4_mules_10 (by first | decide | omega) (by decide) rfl rfl (Nat.le_of_ble_eq_true rfl) ?_
    refine wd_if_ne (tgt := 18) hC dX4_mules_13 (by decide) (fun c_13 => ?_) (fun c_13 => ?_)
    · replace c_13 := bI_1.mp c_13
      exact absurd ⟨c_5, c_13⟩ hB
    · replace c_13 := bI_0.mp c_13
      refine wd_iconst (v := -1) hC dX4_mules_16 rfl ?_
      exact wd_iret hC rfl dX4_mules_17 rfl rfl
set_option maxRecDepth 100000 in
set_option maxHeartbeats 4000000 in
theorem c_mules {V : wd_V} {ad : Nat → Nat} (hinj : wd_inj cS ad) (σ : wd_S) (ht : σ.2.2 < 2) (hT : tOk (tv σ)) (hL : lOk σ) (x : Int32) (m : Nat) (hx : x = nI m) (hm : m < nMen (tv σ)) (y : Int32) (hp : pBelow y 2) : wd_C cS V ad 3 yX4_mules (Cond.code yX4_mules cX4_mules 4 (some .int) :: wsL_law) σ [.ref (ad 0), .int x, .int y] (wd_eq (some (.int (mv σ 0 4 m))) (wd_up (lgAdd σ) (cm 0 + 4) m y)) := by
  refine wd_intro (lv := [some (.ref (ad 0)), some (.int x), some (.int y), none]) hinj (by decide) rfl (Nat.le_of_ble_eq_true rfl) rfl (Nat.le_of_ble_eq_true rfl) (fun K hC => ?_)
  have h6 := hT.m6
  have h3 := hT.c3
  refine wd_aload_n hC dX4_mules_0 rfl rfl ?_
  refine wd_iload_n hC dX4_mules_1 rfl rfl ?_
  refine cv4i hC cw_X4_85 (c_isMan hinj _ ht _) dX4_mules_2 (by first | decide | omega) (by decide) rfl rfl (Nat.le_of_ble_eq_true rfl) ?_
  refine wd_if_eq (tgt := 16) hC dX4_mules_5 (by decide) (fun c_5 => absurd c_5 (bIm (pm_of hT hx hm))) (fun c_5 => ?_)
  refine wd_iload_n hC dX4_mules_8 rfl rfl ?_
  refine wd_iconst (v := 2) hC dX4_mules_9 rfl ?_
  refine cvsi hC cw_X4_155 (c_isBelow hinj _ _ _) dX4_mules_10 (by first | decide | omega) (by decide) rfl rfl (Nat.le_of_ble_eq_true rfl) ?_
  refine wd_if_ne (tgt := 18) hC dX4_mules_13 (by decide) (fun c_13 => ?_) (fun c_13 => absurd c_13 (bIm hp))
  refine wd_aload_n hC dX4_mules_18 rfl rfl ?_
  refine gf_X4_39 hC dX4_mules_19 ?_
  refine wd_aload_n hC dX4_mules_22 rfl rfl ?_
  refine gf_X4_29 hC dX4_mules_23 ?_
  refine cv0v hC cw_X4_151 (c_add hinj _ hL) dX4_mules_26 (by first | decide | omega) (by decide) rfl rfl (Nat.le_of_ble_eq_true rfl) ?_
  refine wd_aload_n hC dX4_mules_29 rfl rfl ?_
  refine gf_X4_29 hC dX4_mules_30 ?_
  refine gf_X4_107 hC dX4_mules_33 ?_
  refine wd_iload_n hC dX4_mules_36 rfl rfl ?_
  refine ld_m hC dX4_mules_37 (m) hx (by omega) ?_
  refine wd_istore_n_4_3 hC dX4_mules_38 ?_
  refine wd_aload_n hC dX4_mules_39 rfl rfl ?_
  refine gf_X4_29 hC dX4_mules_40 ?_
  refine gf_X4_107 hC dX4_mules_43 ?_
  refine wd_iload_n hC dX4_mules_46 rfl rfl ?_
  refine wd_iload_n hC dX4_mules_47 rfl rfl ?_
  refine st_m hC dX4_mules_48 (m) hx (by omega) ?_
  refine wd_iload_n hC dX4_mules_49 rfl rfl ?_
  exact wd_iret hC rfl dX4_mules_50 (by rw [lgAdd_m σ hL (by decide)]; rfl) rfl
set_option maxRecDepth 100000 in
set_option maxHeartbeats 4000000 in
theorem c_undo_none {V : wd_V} {ad : Nat → Nat} (hinj : wd_inj cS ad) (σ : wd_S) (hh : lHeld σ = 0) : wd_C cS V ad 0 yX4_undo (Cond.code yX4_undo cX4_undo 1 (some .int) :: wsL_law) σ [.ref (ad 0)] (wd_eq (some (.int (-2))) (σ)) := by
  refine wd_intro (lv := [some (.ref (ad 0))]) hinj (by decide) rfl (Nat.le_of_ble_eq_true rfl) rfl (Nat.le_of_ble_eq_true rfl) (fun K hC => ?_)
  refine wd_aload_n hC dX4_undo_0 rfl rfl ?_
  refine gf_X4_39 hC dX4_undo_1 ?_
  refine gf_X4_79 hC dX4_undo_4 ?_
  refine wd_if_ne (tgt := 13) hC dX4_undo_7 (by decide) (fun c_7 => absurd hh c_7) (fun c_7 => ?_)
  refine wd_bipush (v := -2) hC dX4_undo_10 rfl ?_
  exact wd_iret hC rfl dX4_undo_12 rfl rfl
set_option maxRecDepth 100000 in
set_option maxHeartbeats 4000000 in
theorem c_undo {V : wd_V} {ad : Nat → Nat} (hinj : wd_inj cS ad) (σ : wd_S) (hL : lOk σ) (hh : ¬ lHeld σ = 0) : wd_C cS V ad 3 yX4_undo (Cond.code yX4_undo cX4_undo 1 (some .int) :: wsL_law) σ [.ref (ad 0)] (wd_eq (some (.int (lHeld σ - 1))) (lgTake σ)) := by
  refine wd_intro (lv := [some (.ref (ad 0))]) hinj (by decide) rfl (Nat.le_of_ble_eq_true rfl) rfl (Nat.le_of_ble_eq_true rfl) (fun K hC => ?_)
  refine wd_aload_n hC dX4_undo_0 rfl rfl ?_
  refine gf_X4_39 hC dX4_undo_1 ?_
  refine gf_X4_79 hC dX4_undo_4 ?_
  refine wd_if_ne (tgt := 13) hC dX4_undo_7 (by decide) (fun c_7 => ?_) (fun c_7 => absurd c_7 hh)
  refine wd_aload_n hC dX4_undo_13 rfl rfl ?_
  refine gf_X4_39 hC dX4_undo_14 ?_
  refine wd_aload_n hC dX4_undo_17 rfl rfl ?_
  refine gf_X4_29 hC dX4_undo_18 ?_
  refine cv0v hC cw_X4_170 (c_takeLatest hinj _ hL hh) dX4_undo_21 (by first | decide | omega) (by decide) rfl rfl (Nat.le_of_ble_eq_true rfl) ?_
  refine wd_aload_n hC dX4_undo_24 rfl rfl ?_
  refine gf_X4_39 hC dX4_undo_25 ?_
  refine gf_X4_79 hC dX4_undo_28 ?_
  exact wd_iret hC rfl dX4_undo_31 (by unfold lgTake; rw [stM_lo _ _ _ (by decide)]; rfl) rfl
set_option maxRecDepth 100000 in
set_option maxHeartbeats 4000000 in
theorem c_stubble_bad {V : wd_V} {ad : Nat → Nat} (hinj : wd_inj cS ad) (σ : wd_S) (ht : σ.2.2 < 2) (x y : Int32) (hB : ¬ (pMan (tv σ) x ∧ 0 ≤ y ∧ y ≤ 180)) : wd_C cS V ad 2 yX4_stubble (Cond.code yX4_stubble cX4_stubble 3 (some .int) :: wsL_law) σ [.ref (ad 0), .int x, .int y] (wd_eq (some (.int (-1))) (σ)) := by
  refine wd_intro (lv := [some (.ref (ad 0)), some (.int x), some (.int y)]) hinj (by decide) rfl (Nat.le_of_ble_eq_true rfl) rfl (Nat.le_of_ble_eq_true rfl) (fun K hC => ?_)
  refine wd_aload_n hC dX4_stubble_0 rfl rfl ?_
  refine wd_iload_n hC dX4_stubble_1 rfl rfl ?_
  refine cv4i hC cw_X4_85 (c_isMan hinj _ ht _) dX4_stubble_2 (by first | decide | omega) (by decide) rfl rfl (Nat.le_of_ble_eq_true rfl) ?_
  refine wd_if_eq (tgt := 19) hC dX4_stubble_5 (by decide) (fun c_5 => ?_) (fun c_5 => ?_)
  · replace c_5 := bI_0.mp c_5
    refine wd_iconst (v := -1) hC dX4_stubble_19 rfl ?_
    exact wd_iret hC rfl dX4_stubble_20 rfl rfl
  · replace c_5 := bI_1.mp c_5
    refine wd_iload_n hC dX4_stubble_8 rfl rfl ?_
    refine wd_if_lt (tgt := 19) hC dX4_stubble_9 (by decide) (fun c_9 => ?_) (fun c_9 => ?_)
    · refine wd_iconst (v := -1) hC dX4_stubble_19 rfl ?_
      exact wd_iret hC rfl dX4_stubble_20 rfl rfl
    · refine wd_iload_n hC dX4_stubble_12 rfl rfl ?_
      refine wd_sipush (v := 180) hC dX4_stubble_13 rfl ?_
      refine wd_icmp_le (tgt := 21) hC dX4_stubble_16 (by decide) (fun c_16 => ?_) (fun c_16 => ?_)
      · exact absurd ⟨c_5, i_le c_9, c_16⟩ hB
      · refine wd_iconst (v := -1) hC dX4_stubble_19 rfl ?_
        exact wd_iret hC rfl dX4_stubble_20 rfl rfl
set_option maxRecDepth 100000 in
set_option maxHeartbeats 4000000 in
theorem c_stubble_full {V : wd_V} {ad : Nat → Nat} (hinj : wd_inj cS ad) (σ : wd_S) (ht : σ.2.2 < 2) (x y : Int32) (hp : pMan (tv σ) x) (h0 : 0 ≤ y) (h3 : y ≤ 180) (hF : 5 ≤ σ.1 0 10) : wd_C cS V ad 2 yX4_stubble (Cond.code yX4_stubble cX4_stubble 3 (some .int) :: wsL_law) σ [.ref (ad 0), .int x, .int y] (wd_eq (some (.int (-3))) (σ)) := by
  refine wd_intro (lv := [some (.ref (ad 0)), some (.int x), some (.int y)]) hinj (by decide) rfl (Nat.le_of_ble_eq_true rfl) rfl (Nat.le_of_ble_eq_true rfl) (fun K hC => ?_)
  refine wd_aload_n hC dX4_stubble_0 rfl rfl ?_
  refine wd_iload_n hC dX4_stubble_1 rfl rfl ?_
  refine cv4i hC cw_X4_85 (c_isMan hinj _ ht _) dX4_stubble_2 (by first | decide | omega) (by decide) rfl rfl (Nat.le_of_ble_eq_true rfl) ?_
  refine wd_if_eq (tgt := 19) hC dX4_stubble_5 (by decide) (fun c_5 => absurd c_5 (bIm hp)) (fun c_5 => ?_)
  refine wd_iload_n hC dX4_stubble_8 rfl rfl ?_
  refine wd_if_lt (tgt := 19) hC dX4_stubble_9 (by decide) (fun c_9 => absurd c_9 (Int32.not_lt.mpr h0)) (fun c_9 => ?_)
  refine wd_iload_n hC dX4_stubble_12 rfl rfl ?_
  refine wd_sipush (v := 180) hC dX4_stubble_13 rfl ?_
  refine wd_icmp_le (tgt := 21) hC dX4_stubble_16 (by decide) (fun c_16 => ?_) (fun c_16 => absurd h3 c_16)
  refine wd_aload_n hC dX4_stubble_21 rfl rfl ?_
  refine gf_X4_82 hC dX4_stubble_22 ?_
  refine wd_iconst (v := 5) hC dX4_stubble_25 rfl ?_
  refine wd_icmp_lt (tgt := 32) hC dX4_stubble_26 (by decide) (fun c_26 => absurd c_26 (Int32.not_lt.mpr hF)) (fun c_26 => ?_)
  refine wd_bipush (v := -3) hC dX4_stubble_29 rfl ?_
  exact wd_iret hC rfl dX4_stubble_31 rfl rfl
set_option maxRecDepth 100000 in
set_option maxHeartbeats 4000000 in
theorem c_stubble {V : wd_V} {ad : Nat → Nat} (hinj : wd_inj cS ad) (σ : wd_S) (ht : σ.2.2 < 2) (x y : Int32) (hp : pMan (tv σ) x) (h0 : 0 ≤ y) (h3 : y ≤ 180) (n : Nat) (hn : σ.1 0 10 = nI n) (hn2 : n < 5) : wd_C cS V ad 2 yX4_stubble (Cond.code yX4_stubble cX4_stubble 3 (some .int) :: wsL_law) σ [.ref (ad 0), .int x, .int y] (wd_eq (some (.int (σ.1 0 10 + 1))) (wd_up (wd_up (wd_up σ 7 n x) 8 n y) 0 10 (σ.1 0 10 + 1))) := by
  refine wd_intro (lv := [some (.ref (ad 0)), some (.int x), some (.int y)]) hinj (by decide) rfl (Nat.le_of_ble_eq_true rfl) rfl (Nat.le_of_ble_eq_true rfl) (fun K hC => ?_)
  refine wd_aload_n hC dX4_stubble_0 rfl rfl ?_
  refine wd_iload_n hC dX4_stubble_1 rfl rfl ?_
  refine cv4i hC cw_X4_85 (c_isMan hinj _ ht _) dX4_stubble_2 (by first | decide | omega) (by decide) rfl rfl (Nat.le_of_ble_eq_true rfl) ?_
  refine wd_if_eq (tgt := 19) hC dX4_stubble_5 (by decide) (fun c_5 => absurd c_5 (bIm hp)) (fun c_5 => ?_)
  refine wd_iload_n hC dX4_stubble_8 rfl rfl ?_
  refine wd_if_lt (tgt := 19) hC dX4_stubble_9 (by decide) (fun c_9 => absurd c_9 (Int32.not_lt.mpr h0)) (fun c_9 => ?_)
  refine wd_iload_n hC dX4_stubble_12 rfl rfl ?_
  refine wd_sipush (v := 180) hC dX4_stubble_13 rfl ?_
  refine wd_icmp_le (tgt := 21) hC dX4_stubble_16 (by decide) (fun c_16 => ?_) (fun c_16 => absurd h3 c_16)
  refine wd_aload_n hC dX4_stubble_21 rfl rfl ?_
  refine gf_X4_82 hC dX4_stubble_22 ?_
  refine wd_iconst (v := 5) hC dX4_stubble_25 rfl ?_
  refine wd_icmp_lt (tgt := 32) hC dX4_stubble_26 (by decide) (fun c_26 => ?_) (fun c_26 => absurd (by rw [hn]; exact nI_lt hn2 (by decide)) c_26)
  refine wd_aload_n hC dX4_stubble_32 rfl rfl ?_
  refine gf_X4_51 hC dX4_stubble_33 ?_
  refine wd_aload_n hC dX4_stubble_36 rfl rfl ?_
  refine gf_X4_82 hC dX4_stubble_37 ?_
  refine wd_iload_n hC dX4_stubble_40 rfl rfl ?_
  refine st_b7 hC dX4_stubble_41 n hn hn2 ?_
  refine wd_aload_n hC dX4_stubble_42 rfl rfl ?_
  refine gf_X4_55 hC dX4_stubble_43 ?_
  refine wd_aload_n hC dX4_stubble_46 rfl rfl ?_
  refine gf_X4_82 hC dX4_stubble_47 ?_
  refine wd_iload_n hC dX4_stubble_50 rfl rfl ?_
  refine st_b8 hC dX4_stubble_51 n hn hn2 ?_
  refine wd_aload_n hC dX4_stubble_52 rfl rfl ?_
  refine wd_dup hC dX4_stubble_53 rfl ?_
  refine gf_X4_82 hC dX4_stubble_54 ?_
  refine wd_iconst (v := 1) hC dX4_stubble_57 rfl ?_
  refine wd_iadd hC dX4_stubble_58 ?_
  refine pf_X4_82 hC dX4_stubble_59 ?_
  refine wd_aload_n hC dX4_stubble_62 rfl rfl ?_
  refine gf_X4_82 hC dX4_stubble_63 ?_
  exact wd_iret hC rfl dX4_stubble_66 rfl rfl
set_option maxRecDepth 100000 in
set_option maxHeartbeats 4000000 in
theorem c_forget {V : wd_V} {ad : Nat → Nat} (hinj : wd_inj cS ad) (σ : wd_S)  : wd_C cS V ad 0 yX4_forget (Cond.code yX4_forget cX4_forget 2 (some .int) :: wsL_law) σ [.ref (ad 0)] (wd_eq (some (.int (σ.1 0 10))) (wd_up σ 0 10 0)) := by
  refine wd_intro (lv := [some (.ref (ad 0)), none]) hinj (by decide) rfl (Nat.le_of_ble_eq_true rfl) rfl (Nat.le_of_ble_eq_true rfl) (fun K hC => ?_)
  refine wd_aload_n hC dX4_forget_0 rfl rfl ?_
  refine gf_X4_82 hC dX4_forget_1 ?_
  refine wd_istore_n_2_1 hC dX4_forget_4 ?_
  refine wd_aload_n hC dX4_forget_5 rfl rfl ?_
  refine wd_iconst (v := 0) hC dX4_forget_6 rfl ?_
  refine pf_X4_82 hC dX4_forget_7 ?_
  refine wd_iload_n hC dX4_forget_10 rfl rfl ?_
  exact wd_iret hC rfl dX4_forget_11 rfl rfl
set_option maxRecDepth 100000 in
set_option maxHeartbeats 4000000 in
theorem c_keep_bad {V : wd_V} {ad : Nat → Nat} (hinj : wd_inj cS ad) (σ : wd_S) (x : Int32) (hB : ¬ pBelow x 2) : wd_C cS V ad 2 yX4_keep (Cond.code yX4_keep cX4_keep 2 (some .int) :: wsL_law) σ [.ref (ad 0), .int x] (wd_eq (some (.int (-1))) (σ)) := by
  refine wd_intro (lv := [some (.ref (ad 0)), some (.int x)]) hinj (by decide) rfl (Nat.le_of_ble_eq_true rfl) rfl (Nat.le_of_ble_eq_true rfl) (fun K hC => ?_)
  refine wd_iload_n hC dX4_keep_0 rfl rfl ?_
  refine wd_iconst (v := 2) hC dX4_keep_1 rfl ?_
  refine cvsi hC cw_X4_155 (c_isBelow hinj _ _ _) dX4_keep_2 (by first | decide | omega) (by decide) rfl rfl (Nat.le_of_ble_eq_true rfl) ?_
  refine wd_if_ne (tgt := 10) hC dX4_keep_5 (by decide) (fun c_5 => ?_) (fun c_5 => ?_)
  · replace c_5 := bI_1.mp c_5
    exact absurd c_5 hB
  · replace c_5 := bI_0.mp c_5
    refine wd_iconst (v := -1) hC dX4_keep_8 rfl ?_
    exact wd_iret hC rfl dX4_keep_9 rfl rfl
set_option maxRecDepth 100000 in
set_option maxHeartbeats 4000000 in
theorem c_keep {V : wd_V} {ad : Nat → Nat} (hinj : wd_inj cS ad) (σ : wd_S) (x : Int32) (m : Nat) (hx : x = nI m) (hm : m < 2)  : wd_C cS V ad 2 yX4_keep (Cond.code yX4_keep cX4_keep 2 (some .int) :: wsL_law) σ [.ref (ad 0), .int x] (wd_eq (some (.int (mv σ 0 0 6))) (wd_up (stM σ (2 + m) (mv σ 0)) 6 m 1)) := by
  refine wd_intro (lv := [some (.ref (ad 0)), some (.int x)]) hinj (by decide) rfl (Nat.le_of_ble_eq_true rfl) rfl (Nat.le_of_ble_eq_true rfl) (fun K hC => ?_)
  refine wd_iload_n hC dX4_keep_0 rfl rfl ?_
  refine wd_iconst (v := 2) hC dX4_keep_1 rfl ?_
  refine cvsi hC cw_X4_155 (c_isBelow hinj _ _ _) dX4_keep_2 (by first | decide | omega) (by decide) rfl rfl (Nat.le_of_ble_eq_true rfl) ?_
  refine wd_if_ne (tgt := 10) hC dX4_keep_5 (by decide) (fun c_5 => ?_) (fun c_5 => absurd c_5 (bIm (pb_of (n := 2) hx hm (by decide))))
  refine wd_aload_n hC dX4_keep_10 rfl rfl ?_
  refine gf_X4_43 hC dX4_keep_11 ?_
  refine wd_iload_n hC dX4_keep_14 rfl rfl ?_
  refine ld_i hC dX4_keep_15 (m) hx (by omega) ?_
  refine wd_aload_n hC dX4_keep_16 rfl rfl ?_
  refine gf_X4_29 hC dX4_keep_17 ?_
  refine cv1v hC cw_X4_173 (c_copyFrom hinj _ 0 (2 + m) (by decide) (by omega) (by omega)) dX4_keep_20 (by first | decide | omega) (by decide) rfl rfl (Nat.le_of_ble_eq_true rfl) ?_
  refine wd_aload_n hC dX4_keep_23 rfl rfl ?_
  refine gf_X4_47 hC dX4_keep_24 ?_
  refine wd_iload_n hC dX4_keep_27 rfl rfl ?_
  refine wd_iconst (v := 1) hC dX4_keep_28 rfl ?_
  refine st_z hC dX4_keep_29 (m) hx (by omega) rfl ?_
  refine wd_aload_n hC dX4_keep_30 rfl rfl ?_
  refine gf_X4_29 hC dX4_keep_31 ?_
  refine gf_X4_135 hC dX4_keep_34 ?_
  exact wd_iret hC rfl dX4_keep_37 (by rw [wd_up_n _ _ _ _ (by decide), stM_n0 _ (by omega)]; rfl) rfl
set_option maxRecDepth 100000 in
set_option maxHeartbeats 4000000 in
theorem c_back_bad {V : wd_V} {ad : Nat → Nat} (hinj : wd_inj cS ad) (σ : wd_S) (x : Int32) (hB : ¬ pBelow x 2) : wd_C cS V ad 2 yX4_back (Cond.code yX4_back cX4_back 2 (some .int) :: wsL_law) σ [.ref (ad 0), .int x] (wd_eq (some (.int (-1))) (σ)) := by
  refine wd_intro (lv := [some (.ref (ad 0)), some (.int x)]) hinj (by decide) rfl (Nat.le_of_ble_eq_true rfl) rfl (Nat.le_of_ble_eq_true rfl) (fun K hC => ?_)
  refine wd_iload_n hC dX4_back_0 rfl rfl ?_
  refine wd_iconst (v := 2) hC dX4_back_1 rfl ?_
  refine cvsi hC cw_X4_155 (c_isBelow hinj _ _ _) dX4_back_2 (by first | decide | omega) (by decide) rfl rfl (Nat.le_of_ble_eq_true rfl) ?_
  refine wd_if_ne (tgt := 10) hC dX4_back_5 (by decide) (fun c_5 => ?_) (fun c_5 => ?_)
  · replace c_5 := bI_1.mp c_5
    exact absurd c_5 hB
  · replace c_5 := bI_0.mp c_5
    refine wd_iconst (v := -1) hC dX4_back_8 rfl ?_
    exact wd_iret hC rfl dX4_back_9 rfl rfl
set_option maxRecDepth 100000 in
set_option maxHeartbeats 4000000 in
theorem c_back_none {V : wd_V} {ad : Nat → Nat} (hinj : wd_inj cS ad) (σ : wd_S) (x : Int32) (m : Nat) (hx : x = nI m) (hm : m < 2) (hk : σ.1 6 m = 0) : wd_C cS V ad 2 yX4_back (Cond.code yX4_back cX4_back 2 (some .int) :: wsL_law) σ [.ref (ad 0), .int x] (wd_eq (some (.int (-2))) (σ)) := by
  refine wd_intro (lv := [some (.ref (ad 0)), some (.int x)]) hinj (by decide) rfl (Nat.le_of_ble_eq_true rfl) rfl (Nat.le_of_ble_eq_true rfl) (fun K hC => ?_)
  refine wd_iload_n hC dX4_back_0 rfl rfl ?_
  refine wd_iconst (v := 2) hC dX4_back_1 rfl ?_
  refine cvsi hC cw_X4_155 (c_isBelow hinj _ _ _) dX4_back_2 (by first | decide | omega) (by decide) rfl rfl (Nat.le_of_ble_eq_true rfl) ?_
  refine wd_if_ne (tgt := 10) hC dX4_back_5 (by decide) (fun c_5 => ?_) (fun c_5 => absurd c_5 (bIm (pb_of (n := 2) hx hm (by decide))))
  refine wd_aload_n hC dX4_back_10 rfl rfl ?_
  refine gf_X4_47 hC dX4_back_11 ?_
  refine wd_iload_n hC dX4_back_14 rfl rfl ?_
  refine ld_z hC dX4_back_15 (m) hx (by omega) ?_
  refine wd_if_ne (tgt := 22) hC dX4_back_16 (by decide) (fun c_16 => absurd hk c_16) (fun c_16 => ?_)
  refine wd_bipush (v := -2) hC dX4_back_19 rfl ?_
  exact wd_iret hC rfl dX4_back_21 rfl rfl
set_option maxRecDepth 100000 in
set_option maxHeartbeats 4000000 in
theorem c_back {V : wd_V} {ad : Nat → Nat} (hinj : wd_inj cS ad) (σ : wd_S) (x : Int32) (m : Nat) (hx : x = nI m) (hm : m < 2) (hk : ¬ σ.1 6 m = 0) : wd_C cS V ad 2 yX4_back (Cond.code yX4_back cX4_back 2 (some .int) :: wsL_law) σ [.ref (ad 0), .int x] (wd_eq (some (.int (mv σ (2 + m) 0 6))) (wd_up (stM σ 0 (mv σ (2 + m))) 3 2 0)) := by
  refine wd_intro (lv := [some (.ref (ad 0)), some (.int x)]) hinj (by decide) rfl (Nat.le_of_ble_eq_true rfl) rfl (Nat.le_of_ble_eq_true rfl) (fun K hC => ?_)
  refine wd_iload_n hC dX4_back_0 rfl rfl ?_
  refine wd_iconst (v := 2) hC dX4_back_1 rfl ?_
  refine cvsi hC cw_X4_155 (c_isBelow hinj _ _ _) dX4_back_2 (by first | decide | omega) (by decide) rfl rfl (Nat.le_of_ble_eq_true rfl) ?_
  refine wd_if_ne (tgt := 10) hC dX4_back_5 (by decide) (fun c_5 => ?_) (fun c_5 => absurd c_5 (bIm (pb_of (n := 2) hx hm (by decide))))
  refine wd_aload_n hC dX4_back_10 rfl rfl ?_
  refine gf_X4_47 hC dX4_back_11 ?_
  refine wd_iload_n hC dX4_back_14 rfl rfl ?_
  refine ld_z hC dX4_back_15 (m) hx (by omega) ?_
  refine wd_if_ne (tgt := 22) hC dX4_back_16 (by decide) (fun c_16 => ?_) (fun c_16 => absurd c_16 hk)
  refine wd_aload_n hC dX4_back_22 rfl rfl ?_
  refine gf_X4_29 hC dX4_back_23 ?_
  refine wd_aload_n hC dX4_back_26 rfl rfl ?_
  refine gf_X4_43 hC dX4_back_27 ?_
  refine wd_iload_n hC dX4_back_30 rfl rfl ?_
  refine ld_i hC dX4_back_31 (m) hx (by omega) ?_
  refine cv1v hC cw_X4_173 (c_copyFrom hinj _ (2 + m) 0 (by omega) (by decide) (by omega)) dX4_back_32 (by first | decide | omega) (by decide) rfl rfl (Nat.le_of_ble_eq_true rfl) ?_
  refine wd_aload_n hC dX4_back_35 rfl rfl ?_
  refine gf_X4_39 hC dX4_back_36 ?_
  refine wd_iconst (v := 0) hC dX4_back_39 rfl ?_
  refine pf_X4_79 hC dX4_back_40 ?_
  refine wd_aload_n hC dX4_back_43 rfl rfl ?_
  refine gf_X4_29 hC dX4_back_44 ?_
  refine gf_X4_135 hC dX4_back_47 ?_
  exact wd_iret hC rfl dX4_back_50 (by rw [wd_up_n _ _ _ _ (by decide)]; exact congrFun (stM_at σ 0 (mv σ (2 + m)) (c := 0) (by decide)) 6) rfl
def stor (x y : Int32) : Int32 := imax (-9999) (imin 9999 (x + y))
set_option maxRecDepth 100000 in
set_option maxHeartbeats 4000000 in
theorem c_storedBehind {V : wd_V} {ad : Nat → Nat} (hinj : wd_inj cS ad) (σ : wd_S) (x y : Int32) : wd_C cS V ad 1 yX4_storedBehind (Cond.code yX4_storedBehind cX4_storedBehind 2 (some .int) :: wsL_law) σ [.int x, .int y] (wd_eq (some (.int (stor x y))) (σ)) := by
  refine wd_intro (lv := [some (.int x), some (.int y)]) hinj (by decide) rfl (Nat.le_of_ble_eq_true rfl) rfl (Nat.le_of_ble_eq_true rfl) (fun K hC => ?_)
  refine wd_sipush (v := -9999) hC dX4_storedBehind_0 rfl ?_
  refine wd_sipush (v := 9999) hC dX4_storedBehind_3 rfl ?_
  refine wd_iload_n hC dX4_storedBehind_6 rfl rfl ?_
  refine wd_iload_n hC dX4_storedBehind_7 rfl rfl ?_
  refine wd_iadd hC dX4_storedBehind_8 ?_
  refine wd_mmin hC (wL_12 _ (List.mem_of_getElem? (i := 16) rfl)) (wL_7 _ (List.mem_of_getElem? (i := 0) rfl)) (wL_7 _ (List.mem_of_getElem? (i := 1) rfl)) (wL_7 _ (List.mem_of_getElem? (i := 2) rfl)) (by decide) (Nat.le_of_ble_eq_true rfl) dX4_storedBehind_9 ?_
  refine wd_mmax hC (wL_15 _ (List.mem_of_getElem? (i := 4) rfl)) (wL_15 _ (List.mem_of_getElem? (i := 5) rfl)) (wL_7 _ (List.mem_of_getElem? (i := 1) rfl)) (wL_15 _ (List.mem_of_getElem? (i := 6) rfl)) (by decide) (Nat.le_of_ble_eq_true rfl) dX4_storedBehind_12 ?_
  exact wd_iret hC rfl dX4_storedBehind_15 rfl rfl

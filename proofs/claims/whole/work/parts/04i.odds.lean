/-! ===== the class: odds ===== -/
theorem shl_ok {y : Int32} {n : Nat} (hy : y = nI n) (hn : n ≤ 6) : (1 : Int32) <<< (y &&& 31) = nI (2 ^ n) := by
  subst hy
  rcases (show n = 0 ∨ n = 1 ∨ n = 2 ∨ n = 3 ∨ n = 4 ∨ n = 5 ∨ n = 6 by omega) with rfl | rfl | rfl | rfl | rfl | rfl | rfl <;> decide
theorem pow_6 {n : Nat} (hn : n ≤ 6) : 2 ^ n ≤ 64 := by
  have := Nat.pow_le_pow_right (n := 2) (by decide) hn
  simpa using this
theorem mOk_0 {M : Nat → Nat → Int32} (h : mOk M) (i : Nat) (v : Int32) : mOk (u2 M 0 i v) := fun m hm => h m hm
theorem stM_nc (σ : wd_S) {j j' : Nat} (hj : j ≠ j') (M : Nat → Nat → Int32) {c : Nat} (hc : c < 6) {i : Nat} : (stM σ j M).1 (cm j' + c) i = mv σ j' c i := by
  rw [stM_n σ hj M hc, mv_at σ j' hc]
def chI (x d w : Int32) (row i : Nat) (s : Int32 × Int32) : Int32 × Int32 := if (nI row >>> (nI i &&& 31)) &&& 1 = 1 then (s.1 * x, stor s.2 w) else (s.1 * (10 - x), stor s.2 d)
def chO (x d w st v : Int32) (n row : Nat) (a : Int32) : Int32 := if (itr (chI x d w row) (1, st) n).2 < v then a else a + (itr (chI x d w row) (1, st) n).1
def chV (T M : Nat → Nat → Int32) (m n : Nat) (x v : Int32) : Int32 := itr (chO x (wGain T (u2 M 0 5 0) m) (wGain T (u2 M 0 5 1) m) (M 5 m) v n) 0 (2 ^ n)

set_option maxRecDepth 100000 in
set_option maxHeartbeats 4000000 in
theorem c_chancesOf {V : wd_V} {ad : Nat → Nat} (hinj : wd_inj cS ad) (σ : wd_S) (ht : σ.2.2 < 2) (hT : tOk (tv σ)) (M0 : Nat → Nat → Int32) (hM : mOk (mv σ 0)) (x y z v : Int32) (n m : Nat) (hy : y = nI n) (hn : n ≤ 6) (hz : z = nI m) (hm : m < 6) : wd_C cS V ad 4 yX4_chancesOf (Cond.code yX4_chancesOf cX4_chancesOf 13 (some .int) :: wsL_law) (stM σ 1 M0) [.ref (ad 0), .int x, .int y, .int z, .int v] (wd_pi (fun r σ' => r = chV (tv σ) (mv σ 0) m n x v ∧ scr σ σ')) := by
  refine wd_intro (lv := [some (.ref (ad 0)), some (.int x), some (.int y), some (.int z), some (.int v), none, none, none, none, none, none, none, none]) hinj (by decide) rfl (Nat.le_of_ble_eq_true rfl) rfl (Nat.le_of_ble_eq_true rfl) (fun K hC => ?_)
  have h64 := pow_6 hn
  have loop : ∀ (k i : Nat) (a : Int32) (o9 o10 o11 o12 : Option Value), i ≤ (2 ^ n) → (2 ^ n) < i + k → itr (chO x (wGain (tv σ) (u2 (mv σ 0) 0 5 0) m) (wGain (tv σ) (u2 (mv σ 0) 0 5 1) m) (mv σ 0 5 m) v n) 0 i = a → wd_G cS V ad K 13 (wd_Qm cS V ad K (wd_pi (fun r σ' => r = chV (tv σ) (mv σ 0) m n x v ∧ scr σ σ'))) 55 [some (.ref (ad 0)), some (.int x), some (.int y), some (.int z), some (.int v), some (.int (wGain (tv σ) (u2 (mv σ 0) 0 5 0) m)), some (.int (wGain (tv σ) (u2 (mv σ 0) 0 5 1) m)), some (.int a), some (.int (nI i)), o9, o10, o11, o12] [] (stM σ 1 (u2 (mv σ 0) 0 5 1)) := by
    intro k
    induction k with
    | zero =>
      intro i a o9 o10 o11 o12 h1 h2 hst
      exact absurd h2 (by omega)
    | succ k ih =>
      intro i a o9 o10 o11 o12 h1 h2 hst
      refine wd_iload hC dX4_chancesOf_55 rfl ?_
      refine wd_iconst (v := 1) hC dX4_chancesOf_57 rfl ?_
      refine wd_iload_n hC dX4_chancesOf_58 rfl rfl ?_
      refine wd_ishl hC dX4_chancesOf_59 ?_
      refine wd_icmp_ge (tgt := 167) hC dX4_chancesOf_60 (by decide) (fun c_60 => ?_) (fun c_60 => ?_)
      · have hin : i = _ := lp_ge (shl_ok hy hn) c_60 h1 (by omega)
        subst hin
        refine wd_iload hC dX4_chancesOf_167 rfl ?_
        exact wd_iretP hC rfl dX4_chancesOf_169 (⟨_, rfl, hst.symm, _, mz_u2 (mz_mv σ 0) (by decide) _ _, mOk_0 hM _ _, rfl⟩)
      · have hin : i < _ := lp_lt (shl_ok hy hn) c_60 h1 (by omega)
        refine wd_iconst (v := 1) hC dX4_chancesOf_63 rfl ?_
        refine wd_istore_13_9 hC dX4_chancesOf_64 ?_
        refine wd_aload_n hC dX4_chancesOf_66 rfl rfl ?_
        refine gf_X4_29 hC dX4_chancesOf_67 ?_
        refine gf_X4_132 hC dX4_chancesOf_70 ?_
        refine wd_iload_n hC dX4_chancesOf_73 rfl rfl ?_
        refine ld_m hC dX4_chancesOf_74 (m) hz (by omega) ?_
        refine wd_vi (stM_nc σ (by decide) _ (by decide)) ?_
        refine wd_istore_13_10 hC dX4_chancesOf_75 ?_
        refine wd_iconst (v := 0) hC dX4_chancesOf_77 rfl ?_
        refine wd_istore_13_11 hC dX4_chancesOf_78 ?_
        have inner : ∀ (k b : Nat) (ch st : Int32) (o12 : Option Value), b ≤ n → n < b + k → itr (chI x (wGain (tv σ) (u2 (mv σ 0) 0 5 0) m) (wGain (tv σ) (u2 (mv σ 0) 0 5 1) m) i) (1, mv σ 0 5 m) b = (ch, st) → wd_G cS V ad K 13 (wd_Qm cS V ad K (wd_pi (fun r σ' => r = chV (tv σ) (mv σ 0) m n x v ∧ scr σ σ'))) 80 [some (.ref (ad 0)), some (.int x), some (.int y), some (.int z), some (.int v), some (.int (wGain (tv σ) (u2 (mv σ 0) 0 5 0) m)), some (.int (wGain (tv σ) (u2 (mv σ 0) 0 5 1) m)), some (.int a), some (.int (nI i)), some (.int ch), some (.int st), some (.int (nI b)), o12] [] (stM σ 1 (u2 (mv σ 0) 0 5 1)) := by
          intro k
          induction k with
          | zero =>
            intro b ch st o12 h1b h2b hst2
            exact absurd h2b (by omega)
          | succ k ih2 =>
            intro b ch st o12 h1b h2b hst2
            refine wd_iload hC dX4_chancesOf_80 rfl ?_
            refine wd_iload_n hC dX4_chancesOf_82 rfl rfl ?_
            refine wd_icmp_ge (tgt := 147) hC dX4_chancesOf_83 (by decide) (fun c_83 => ?_) (fun c_83 => ?_)
            · have hbn : b = _ := lp_ge hy c_83 h1b (by omega)
              subst hbn
              refine wd_iload hC dX4_chancesOf_147 rfl ?_
              refine wd_iload hC dX4_chancesOf_149 rfl ?_
              refine wd_icmp_lt (tgt := 161) hC dX4_chancesOf_151 (by decide) (fun c_151 => ?_) (fun c_151 => ?_)
              · refine wd_iincN_13_8 hC dX4_chancesOf_161 ?_
                refine wd_goto (tgt := 55) hC dX4_chancesOf_164 (by decide) ?_
                exact ih (i + 1) _ _ _ _ _ (by omega) (by omega) (by rw [itr, hst, chO, hst2]; first | rw [if_pos c_151] | rw [if_neg c_151])
              · refine wd_iload hC dX4_chancesOf_154 rfl ?_
                refine wd_iload hC dX4_chancesOf_156 rfl ?_
                refine wd_iadd hC dX4_chancesOf_158 ?_
                refine wd_istore_13_7 hC dX4_chancesOf_159 ?_
                refine wd_iincN_13_8 hC dX4_chancesOf_161 ?_
                refine wd_goto (tgt := 55) hC dX4_chancesOf_164 (by decide) ?_
                exact ih (i + 1) _ _ _ _ _ (by omega) (by omega) (by rw [itr, hst, chO, hst2]; first | rw [if_pos c_151] | rw [if_neg c_151])
            · have hbn : b < _ := lp_lt hy c_83 h1b (by omega)
              refine wd_iload hC dX4_chancesOf_86 rfl ?_
              refine wd_iload hC dX4_chancesOf_88 rfl ?_
              refine wd_ishr hC dX4_chancesOf_90 ?_
              refine wd_iconst (v := 1) hC dX4_chancesOf_91 rfl ?_
              refine wd_iand hC dX4_chancesOf_92 ?_
              refine wd_iconst (v := 1) hC dX4_chancesOf_93 rfl ?_
              refine wd_icmp_ne (tgt := 101) hC dX4_chancesOf_94 (by decide) (fun c_94 => ?_) (fun c_94 => ?_)
              · refine wd_iconst (v := 0) hC dX4_chancesOf_101 rfl ?_
                refine wd_istore_13_12 hC dX4_chancesOf_102 ?_
                refine wd_iload hC dX4_chancesOf_104 rfl ?_
                refine wd_iload hC dX4_chancesOf_106 rfl ?_
                refine wd_if_eq (tgt := 115) hC dX4_chancesOf_108 (by decide) (fun c_108 => ?_) (fun c_108 => absurd (by decide) c_108)
                refine wd_bipush (v := 10) hC dX4_chancesOf_115 rfl ?_
                refine wd_iload_n hC dX4_chancesOf_117 rfl rfl ?_
                refine wd_isub hC dX4_chancesOf_118 ?_
                refine wd_imul hC dX4_chancesOf_119 ?_
                refine wd_istore_13_9 hC dX4_chancesOf_120 ?_
                refine wd_iload hC dX4_chancesOf_122 rfl ?_
                refine wd_iload hC dX4_chancesOf_124 rfl ?_
                refine wd_if_eq (tgt := 134) hC dX4_chancesOf_126 (by decide) (fun c_126 => ?_) (fun c_126 => absurd (by decide) c_126)
                refine wd_iload hC dX4_chancesOf_134 rfl ?_
                refine cvsi hC cw_X4_166 (c_storedBehind hinj _ _ _) dX4_chancesOf_136 (by first | decide | omega) (by decide) rfl rfl (Nat.le_of_ble_eq_true rfl) ?_
                refine wd_istore_13_10 hC dX4_chancesOf_139 ?_
                refine wd_iincN_13_11 hC dX4_chancesOf_141 ?_
                refine wd_goto (tgt := 80) hC dX4_chancesOf_144 (by decide) ?_
                exact ih2 (b + 1) _ _ _ (by omega) (by omega) (by rw [itr, hst2, chI]; first | rw [if_pos c_94] | rw [if_neg c_94])
              · refine wd_iconst (v := 1) hC dX4_chancesOf_97 rfl ?_
                refine wd_goto (tgt := 102) hC dX4_chancesOf_98 (by decide) ?_
                refine wd_istore_13_12 hC dX4_chancesOf_102 ?_
                refine wd_iload hC dX4_chancesOf_104 rfl ?_
                refine wd_iload hC dX4_chancesOf_106 rfl ?_
                refine wd_if_eq (tgt := 115) hC dX4_chancesOf_108 (by decide) (fun c_108 => absurd c_108 (by decide)) (fun c_108 => ?_)
                refine wd_iload_n hC dX4_chancesOf_111 rfl rfl ?_
                refine wd_goto (tgt := 119) hC dX4_chancesOf_112 (by decide) ?_
                refine wd_imul hC dX4_chancesOf_119 ?_
                refine wd_istore_13_9 hC dX4_chancesOf_120 ?_
                refine wd_iload hC dX4_chancesOf_122 rfl ?_
                refine wd_iload hC dX4_chancesOf_124 rfl ?_
                refine wd_if_eq (tgt := 134) hC dX4_chancesOf_126 (by decide) (fun c_126 => absurd c_126 (by decide)) (fun c_126 => ?_)
                refine wd_iload hC dX4_chancesOf_129 rfl ?_
                refine wd_goto (tgt := 136) hC dX4_chancesOf_131 (by decide) ?_
                refine cvsi hC cw_X4_166 (c_storedBehind hinj _ _ _) dX4_chancesOf_136 (by first | decide | omega) (by decide) rfl rfl (Nat.le_of_ble_eq_true rfl) ?_
                refine wd_istore_13_10 hC dX4_chancesOf_139 ?_
                refine wd_iincN_13_11 hC dX4_chancesOf_141 ?_
                refine wd_goto (tgt := 80) hC dX4_chancesOf_144 (by decide) ?_
                exact ih2 (b + 1) _ _ _ (by omega) (by omega) (by rw [itr, hst2, chI]; first | rw [if_pos c_94] | rw [if_neg c_94])
        exact inner (n + 1) 0 _ _ _ (Nat.zero_le _) (by omega) rfl
  refine wd_aload_n hC dX4_chancesOf_0 rfl rfl ?_
  refine gf_X4_33 hC dX4_chancesOf_1 ?_
  refine wd_aload_n hC dX4_chancesOf_4 rfl rfl ?_
  refine gf_X4_29 hC dX4_chancesOf_5 ?_
  refine cv1v hC cw_X4_173 (c_copyFrom hinj _ 0 1 (by decide) (by decide) (by decide)) dX4_chancesOf_8 (by first | decide | omega) (by decide) rfl rfl (Nat.le_of_ble_eq_true rfl) ?_
  refine wd_ts (st_cp σ M0) ?_
  refine wd_aload_n hC dX4_chancesOf_11 rfl rfl ?_
  refine gf_X4_33 hC dX4_chancesOf_12 ?_
  refine wd_iconst (v := 0) hC dX4_chancesOf_15 rfl ?_
  refine pf_X4_138 hC dX4_chancesOf_16 ?_
  refine wd_ts (stM_up0 _ _ _ _ _) ?_
  refine wd_aload_n hC dX4_chancesOf_19 rfl rfl ?_
  refine wd_aload_n hC dX4_chancesOf_20 rfl rfl ?_
  refine gf_X4_33 hC dX4_chancesOf_21 ?_
  refine wd_iload_n hC dX4_chancesOf_24 rfl rfl ?_
  refine cv4i hC cw_X4_163 (c_gainV hinj σ ht 1 (by decide) (u2 (mv σ 0) 0 5 0) (mz_u2 (mz_mv σ 0) (by decide) _ _) (mOk_0 hM _ _) z m hz hm) dX4_chancesOf_25 (by first | decide | omega) (by decide) rfl rfl (Nat.le_of_ble_eq_true rfl) ?_
  refine wd_istore_13_5 hC dX4_chancesOf_28 ?_
  refine wd_aload_n hC dX4_chancesOf_30 rfl rfl ?_
  refine gf_X4_33 hC dX4_chancesOf_31 ?_
  refine wd_iconst (v := 1) hC dX4_chancesOf_34 rfl ?_
  refine pf_X4_138 hC dX4_chancesOf_35 ?_
  refine wd_ts (show _ = stM σ 1 (u2 (mv σ 0) 0 5 1) from (by rw [stM_up0, u2_u2])) ?_
  refine wd_aload_n hC dX4_chancesOf_38 rfl rfl ?_
  refine wd_aload_n hC dX4_chancesOf_39 rfl rfl ?_
  refine gf_X4_33 hC dX4_chancesOf_40 ?_
  refine wd_iload_n hC dX4_chancesOf_43 rfl rfl ?_
  refine cv4i hC cw_X4_163 (c_gainV hinj σ ht 1 (by decide) (u2 (mv σ 0) 0 5 1) (mz_u2 (mz_mv σ 0) (by decide) _ _) (mOk_0 hM _ _) z m hz hm) dX4_chancesOf_44 (by first | decide | omega) (by decide) rfl rfl (Nat.le_of_ble_eq_true rfl) ?_
  refine wd_istore_13_6 hC dX4_chancesOf_47 ?_
  refine wd_iconst (v := 0) hC dX4_chancesOf_49 rfl ?_
  refine wd_istore_13_7 hC dX4_chancesOf_50 ?_
  refine wd_iconst (v := 0) hC dX4_chancesOf_52 rfl ?_
  refine wd_istore_13_8 hC dX4_chancesOf_53 ?_
  exact loop (2 ^ n + 1) 0 _ _ _ _ _ (Nat.zero_le _) (by omega) rfl
set_option maxRecDepth 100000 in
set_option maxHeartbeats 4000000 in
theorem c_odds_bad {V : wd_V} {ad : Nat → Nat} (hinj : wd_inj cS ad) (σ : wd_S) (ht : σ.2.2 < 2) (x y z v w : Int32) (hB : ¬ ((0 ≤ x ∧ x ≤ 10) ∧ (0 ≤ y ∧ y ≤ 6) ∧ pMan (tv σ) z ∧ pStor v ∧ pBelow w 2)) : wd_C cS V ad 2 yX4_odds (Cond.code yX4_odds cX4_odds 8 (some .int) :: wsL_law) σ [.ref (ad 0), .int x, .int y, .int z, .int v, .int w] (wd_eq (some (.int (-1))) (σ)) := by
  refine wd_intro (lv := [some (.ref (ad 0)), some (.int x), some (.int y), some (.int z), some (.int v), some (.int w), none, none]) hinj (by decide) rfl (Nat.le_of_ble_eq_true rfl) rfl (Nat.le_of_ble_eq_true rfl) (fun K hC => ?_)
  refine wd_iload_n hC dX4_odds_0 rfl rfl ?_
  refine wd_if_lt (tgt := 28) hC dX4_odds_1 (by decide) (fun c_1 => ?_) (fun c_1 => ?_)
  · refine wd_iconst (v := -1) hC dX4_odds_28 rfl ?_
    exact wd_iret hC rfl dX4_odds_29 rfl rfl
  · refine wd_iload_n hC dX4_odds_4 rfl rfl ?_
    refine wd_bipush (v := 10) hC dX4_odds_5 rfl ?_
    refine wd_icmp_gt (tgt := 28) hC dX4_odds_7 (by decide) (fun c_7 => ?_) (fun c_7 => ?_)
    · refine wd_iconst (v := -1) hC dX4_odds_28 rfl ?_
      exact wd_iret hC rfl dX4_odds_29 rfl rfl
    · refine wd_iload_n hC dX4_odds_10 rfl rfl ?_
      refine wd_if_lt (tgt := 28) hC dX4_odds_11 (by decide) (fun c_11 => ?_) (fun c_11 => ?_)
      · refine wd_iconst (v := -1) hC dX4_odds_28 rfl ?_
        exact wd_iret hC rfl dX4_odds_29 rfl rfl
      · refine wd_iload_n hC dX4_odds_14 rfl rfl ?_
        refine wd_bipush (v := 6) hC dX4_odds_15 rfl ?_
        refine wd_icmp_gt (tgt := 28) hC dX4_odds_17 (by decide) (fun c_17 => ?_) (fun c_17 => ?_)
        · refine wd_iconst (v := -1) hC dX4_odds_28 rfl ?_
          exact wd_iret hC rfl dX4_odds_29 rfl rfl
        · refine wd_aload_n hC dX4_odds_20 rfl rfl ?_
          refine wd_iload_n hC dX4_odds_21 rfl rfl ?_
          refine cv4i hC cw_X4_85 (c_isMan hinj _ ht _) dX4_odds_22 (by first | decide | omega) (by decide) rfl rfl (Nat.le_of_ble_eq_true rfl) ?_
          refine wd_if_ne (tgt := 30) hC dX4_odds_25 (by decide) (fun c_25 => ?_) (fun c_25 => ?_)
          · replace c_25 := bI_1.mp c_25
            refine wd_iload hC dX4_odds_30 rfl ?_
            refine cvsi hC cw_X4_208 (c_isStorable hinj _ _) dX4_odds_32 (by first | decide | omega) (by decide) rfl rfl (Nat.le_of_ble_eq_true rfl) ?_
            refine wd_if_eq (tgt := 47) hC dX4_odds_35 (by decide) (fun c_35 => ?_) (fun c_35 => ?_)
            · replace c_35 := bI_0.mp c_35
              refine wd_iconst (v := -1) hC dX4_odds_47 rfl ?_
              exact wd_iret hC rfl dX4_odds_48 rfl rfl
            · replace c_35 := bI_1.mp c_35
              refine wd_iload hC dX4_odds_38 rfl ?_
              refine wd_iconst (v := 2) hC dX4_odds_40 rfl ?_
              refine cvsi hC cw_X4_155 (c_isBelow hinj _ _ _) dX4_odds_41 (by first | decide | omega) (by decide) rfl rfl (Nat.le_of_ble_eq_true rfl) ?_
              refine wd_if_ne (tgt := 49) hC dX4_odds_44 (by decide) (fun c_44 => ?_) (fun c_44 => ?_)
              · replace c_44 := bI_1.mp c_44
                exact absurd ⟨⟨i_le c_1, i_le c_7⟩, ⟨i_le c_11, i_le c_17⟩, c_25, c_35, c_44⟩ hB
              · replace c_44 := bI_0.mp c_44
                refine wd_iconst (v := -1) hC dX4_odds_47 rfl ?_
                exact wd_iret hC rfl dX4_odds_48 rfl rfl
          · replace c_25 := bI_0.mp c_25
            refine wd_iconst (v := -1) hC dX4_odds_28 rfl ?_
            exact wd_iret hC rfl dX4_odds_29 rfl rfl
def pow10 (n : Nat) : Int32 := itr (fun _ a => a * 10) 1 n
set_option maxRecDepth 100000 in
set_option maxHeartbeats 4000000 in
theorem c_odds {V : wd_V} {ad : Nat → Nat} (hinj : wd_inj cS ad) (σ : wd_S) (ht : σ.2.2 < 2) (hT : tOk (tv σ)) (hM : mOk (mv σ 0)) (x y z v w : Int32) (n m : Nat) (hx0 : 0 ≤ x) (hx10 : x ≤ 10) (hy : y = nI n) (hn : n ≤ 6) (hz : z = nI m) (hm : m < nMen (tv σ)) (hv : pStor v) (hw : pBelow w 2) : wd_C cS V ad 5 yX4_odds (Cond.code yX4_odds cX4_odds 8 (some .int) :: wsL_law) σ [.ref (ad 0), .int x, .int y, .int z, .int v, .int w] (wd_pi (fun r σ' => r = leastV (chV (tv σ) (mv σ 0) m n x v) (pow10 n) w ∧ scr σ σ')) := by
  refine wd_intro (lv := [some (.ref (ad 0)), some (.int x), some (.int y), some (.int z), some (.int v), some (.int w), none, none]) hinj (by decide) rfl (Nat.le_of_ble_eq_true rfl) rfl (Nat.le_of_ble_eq_true rfl) (fun K hC => ?_)
  have h6 := hT.m6
  have h3 := hT.c3
  have loop : ∀ (k i : Nat), i ≤ n → n < i + k → wd_G cS V ad K 8 (wd_Qm cS V ad K (wd_pi (fun r σ' => r = leastV (chV (tv σ) (mv σ 0) m n x v) (pow10 n) w ∧ scr σ σ'))) 55 [some (.ref (ad 0)), some (.int x), some (.int y), some (.int z), some (.int v), some (.int w), some (.int (pow10 i)), some (.int (nI i))] [] (stM σ 1 (mv σ 1)) := by
    intro k
    induction k with
    | zero =>
      intro i  h1 h2 
      exact absurd h2 (by omega)
    | succ k ih =>
      intro i  h1 h2 
      refine wd_iload hC dX4_odds_55 rfl ?_
      refine wd_iload_n hC dX4_odds_57 rfl rfl ?_
      refine wd_icmp_ge (tgt := 74) hC dX4_odds_58 (by decide) (fun c_58 => ?_) (fun c_58 => ?_)
      · have hin : _ = i := (lp_ge hy c_58 h1 (by omega)).symm
        subst hin
        refine wd_aload_n hC dX4_odds_74 rfl rfl ?_
        refine wd_iload_n hC dX4_odds_75 rfl rfl ?_
        refine wd_iload_n hC dX4_odds_76 rfl rfl ?_
        refine wd_iload_n hC dX4_odds_77 rfl rfl ?_
        refine wd_iload hC dX4_odds_78 rfl ?_
        refine cv4iP hC cw_X4_211 (c_chancesOf hinj σ ht hT (mv σ 1) hM x y z v n m hy hn hz (by omega)) dX4_odds_80 (by first | decide | omega) (by decide) rfl rfl (Nat.le_of_ble_eq_true rfl) (fun r_80 σ_80 h_80 => ?_)
        obtain ⟨rfl, hs⟩ := h_80
        refine wd_iload hC dX4_odds_83 rfl ?_
        refine wd_iload hC dX4_odds_85 rfl ?_
        refine cvsi hC cw_X4_215 (c_inLeastTerms hinj _ _ _ _) dX4_odds_87 (by first | decide | omega) (by decide) rfl rfl (Nat.le_of_ble_eq_true rfl) ?_
        exact wd_iretP hC rfl dX4_odds_90 (⟨_, rfl, rfl, hs⟩)
      · have hin : i < _ := lp_lt hy c_58 h1 (by omega)
        refine wd_iload hC dX4_odds_61 rfl ?_
        refine wd_bipush (v := 10) hC dX4_odds_63 rfl ?_
        refine wd_imul hC dX4_odds_65 ?_
        refine wd_istore_8_6 hC dX4_odds_66 ?_
        refine wd_iincN_8_7 hC dX4_odds_68 ?_
        refine wd_goto (tgt := 55) hC dX4_odds_71 (by decide) ?_
        exact ih (i + 1) (by omega) (by omega)
  refine wd_iload_n hC dX4_odds_0 rfl rfl ?_
  refine wd_if_lt (tgt := 28) hC dX4_odds_1 (by decide) (fun c_1 => absurd c_1 (Int32.not_lt.mpr hx0)) (fun c_1 => ?_)
  refine wd_iload_n hC dX4_odds_4 rfl rfl ?_
  refine wd_bipush (v := 10) hC dX4_odds_5 rfl ?_
  refine wd_icmp_gt (tgt := 28) hC dX4_odds_7 (by decide) (fun c_7 => absurd c_7 (Int32.not_lt.mpr hx10)) (fun c_7 => ?_)
  refine wd_iload_n hC dX4_odds_10 rfl rfl ?_
  refine wd_if_lt (tgt := 28) hC dX4_odds_11 (by decide) (fun c_11 => absurd c_11 (Int32.not_lt.mpr (by rw [hy]; exact nI_pos' (by omega)))) (fun c_11 => ?_)
  refine wd_iload_n hC dX4_odds_14 rfl rfl ?_
  refine wd_bipush (v := 6) hC dX4_odds_15 rfl ?_
  refine wd_icmp_gt (tgt := 28) hC dX4_odds_17 (by decide) (fun c_17 => absurd c_17 (Int32.not_lt.mpr (by rw [hy]; exact nI_le (b := 6) hn (by decide)))) (fun c_17 => ?_)
  refine wd_aload_n hC dX4_odds_20 rfl rfl ?_
  refine wd_iload_n hC dX4_odds_21 rfl rfl ?_
  refine cv4i hC cw_X4_85 (c_isMan hinj _ ht _) dX4_odds_22 (by first | decide | omega) (by decide) rfl rfl (Nat.le_of_ble_eq_true rfl) ?_
  refine wd_if_ne (tgt := 30) hC dX4_odds_25 (by decide) (fun c_25 => ?_) (fun c_25 => absurd c_25 (bIm (pm_of hT hz hm)))
  refine wd_iload hC dX4_odds_30 rfl ?_
  refine cvsi hC cw_X4_208 (c_isStorable hinj _ _) dX4_odds_32 (by first | decide | omega) (by decide) rfl rfl (Nat.le_of_ble_eq_true rfl) ?_
  refine wd_if_eq (tgt := 47) hC dX4_odds_35 (by decide) (fun c_35 => absurd c_35 (bIm hv)) (fun c_35 => ?_)
  refine wd_iload hC dX4_odds_38 rfl ?_
  refine wd_iconst (v := 2) hC dX4_odds_40 rfl ?_
  refine cvsi hC cw_X4_155 (c_isBelow hinj _ _ _) dX4_odds_41 (by first | decide | omega) (by decide) rfl rfl (Nat.le_of_ble_eq_true rfl) ?_
  refine wd_if_ne (tgt := 49) hC dX4_odds_44 (by decide) (fun c_44 => ?_) (fun c_44 => absurd c_44 (bIm hw))
  refine wd_iconst (v := 1) hC dX4_odds_49 rfl ?_
  refine wd_istore_8_6 hC dX4_odds_50 ?_
  refine wd_iconst (v := 0) hC dX4_odds_52 rfl ?_
  refine wd_istore_8_7 hC dX4_odds_53 ?_
  refine wd_ts (stM_self σ 1).symm ?_
  exact loop (n + 1) 0 (Nat.zero_le _) (by omega)

/-! ===== the class: ropes ===== -/
theorem mOk_3 {M : Nat → Nat → Int32} (h : mOk M) (i : Nat) (v : Int32) : mOk (u2 M 3 i v) := fun m hm => h m hm
theorem lp3_gt {i : Nat} (c : (3 : Int32) < nI i) (h : i ≤ 4) : i = 4 := by
  have := (nI_ltI (a := 3) (b := i) (by decide) (by omega)).mp c
  omega
theorem lp3_le {i : Nat} (c : ¬ (3 : Int32) < nI i) (h : i ≤ 4) : i < 4 := by
  rcases Nat.lt_or_ge i 4 with h2 | h2
  · exact h2
  · exact absurd (nI_lt (a := 3) (b := i) (by omega) (by omega)) c
def aloneV (T M : Nat → Nat → Int32) (m : Nat) : Int32 := if wGain T (u2 M 3 m 0) m < 0 then -9 else 0
def fedD (T M : Nat → Nat → Int32) (m o : Nat) : Bool := decide (¬ wGain T M m < 0 ∧ ¬ wGain T M o < 0)
def twoS (T M : Nat → Nat → Int32) (m o a b : Nat) (s : Int32 × Int32) : Int32 × Int32 :=
  if fedD T (u2 (u2 M 3 m (nI a)) 3 o (nI b)) m o = true then (if s.1 = -9 then (nI a + nI b, nI a) else if s.1 ≤ nI a + nI b then s else (nI a + nI b, nI a)) else s
def twoO (T M : Nat → Nat → Int32) (m o a : Nat) (s : Int32 × Int32) : Int32 × Int32 := itr (twoS T M m o a) s 4
def twoV (T M : Nat → Nat → Int32) (m o : Nat) : Int32 × Int32 := itr (twoO T M m o) (-9, 0) 4
/-- the two's ropes as they are found -/
def twoM (T M : Nat → Nat → Int32) (m o : Nat) : Nat → Nat → Int32 := u2 (u2 M 3 m (twoV T M m o).2) 3 o ((twoV T M m o).1 - (twoV T M m o).2)

set_option maxRecDepth 100000 in
set_option maxHeartbeats 4000000 in
theorem c_ropesAlone {V : wd_V} {ad : Nat → Nat} (hinj : wd_inj cS ad) (σ : wd_S) (ht : σ.2.2 < 2) (hT : tOk (tv σ)) (M : Nat → Nat → Int32) (hz : mz M) (hM : mOk M) (x : Int32) (m : Nat) (hx : x = nI m) (hm : m < 6) : wd_C cS V ad 4 yX4_ropesAlone (Cond.code yX4_ropesAlone cX4_ropesAlone 2 (some .int) :: wsL_law) (stM σ 1 M) [.ref (ad 0), .int x] (wd_eq (some (.int (aloneV (tv σ) M m))) (stM σ 1 (u2 M 3 m 0))) := by
  refine wd_intro (lv := [some (.ref (ad 0)), some (.int x)]) hinj (by decide) rfl (Nat.le_of_ble_eq_true rfl) rfl (Nat.le_of_ble_eq_true rfl) (fun K hC => ?_)
  refine wd_aload_n hC dX4_ropesAlone_0 rfl rfl ?_
  refine gf_X4_33 hC dX4_ropesAlone_1 ?_
  refine gf_X4_104 hC dX4_ropesAlone_4 ?_
  refine wd_iload_n hC dX4_ropesAlone_7 rfl rfl ?_
  refine wd_iconst (v := 0) hC dX4_ropesAlone_8 rfl ?_
  refine st_m hC dX4_ropesAlone_9 (m) hx (by omega) ?_
  refine wd_ts (stM_up _ _ _ (by decide) _ _) ?_
  refine wd_aload_n hC dX4_ropesAlone_10 rfl rfl ?_
  refine wd_aload_n hC dX4_ropesAlone_11 rfl rfl ?_
  refine gf_X4_33 hC dX4_ropesAlone_12 ?_
  refine wd_iload_n hC dX4_ropesAlone_15 rfl rfl ?_
  refine cv4i hC cw_X4_163 (c_gainV hinj σ ht 1 (by decide) _ (mz_u2 hz (by decide) _ _) (mOk_3 hM _ _) x m hx hm) dX4_ropesAlone_16 (by first | decide | omega) (by decide) rfl rfl (Nat.le_of_ble_eq_true rfl) ?_
  refine wd_if_lt (tgt := 26) hC dX4_ropesAlone_19 (by decide) (fun c_19 => ?_) (fun c_19 => ?_)
  · refine wd_bipush (v := -9) hC dX4_ropesAlone_26 rfl ?_
    exact wd_iret hC rfl dX4_ropesAlone_28 (by first | exact (if_pos c_19).symm | exact (if_neg c_19).symm) rfl
  · refine wd_iconst (v := 0) hC dX4_ropesAlone_22 rfl ?_
    refine wd_goto (tgt := 28) hC dX4_ropesAlone_23 (by decide) ?_
    exact wd_iret hC rfl dX4_ropesAlone_28 (by first | exact (if_pos c_19).symm | exact (if_neg c_19).symm) rfl
set_option maxRecDepth 100000 in
set_option maxHeartbeats 4000000 in
theorem c_ropesOfTwo {V : wd_V} {ad : Nat → Nat} (hinj : wd_inj cS ad) (σ : wd_S) (ht : σ.2.2 < 2) (hT : tOk (tv σ)) (M : Nat → Nat → Int32) (hz : mz M) (hM : mOk M) (x y : Int32) (m o : Nat) (hx : x = nI m) (hy : y = nI o) (hm : m < 6) (ho : o < 6) : wd_C cS V ad 4 yX4_ropesOfTwo (Cond.code yX4_ropesOfTwo cX4_ropesOfTwo 8 (some .int) :: wsL_law) (stM σ 1 M) [.ref (ad 0), .int x, .int y] (wd_pi (fun r σ' => r = (twoV (tv σ) M m o).1 ∧ ∃ M', mz M' ∧ mOk M' ∧ σ' = stM σ 1 M' ∧ (¬ r = -9 → M' = twoM (tv σ) M m o))) := by
  refine wd_intro (lv := [some (.ref (ad 0)), some (.int x), some (.int y), none, none, none, none, none]) hinj (by decide) rfl (Nat.le_of_ble_eq_true rfl) rfl (Nat.le_of_ble_eq_true rfl) (fun K hC => ?_)
  have loop : ∀ (k i : Nat) (v0 w0 f0 g0 : Int32) (o6 o7 : Option Value), i ≤ 4 → 4 < i + k → itr (twoO (tv σ) M m o) (-9, 0) i = (f0, g0) → wd_G cS V ad K 8 (wd_Qm cS V ad K (wd_pi (fun r σ' => r = (twoV (tv σ) M m o).1 ∧ ∃ M', mz M' ∧ mOk M' ∧ σ' = stM σ 1 M' ∧ (¬ r = -9 → M' = twoM (tv σ) M m o)))) 9 [some (.ref (ad 0)), some (.int x), some (.int y), some (.int f0), some (.int g0), some (.int (nI i)), o6, o7] [] (stM σ 1 (u2 (u2 M 3 m v0) 3 o w0)) := by
    intro k
    induction k with
    | zero =>
      intro i v0 w0 f0 g0 o6 o7 h1 h2 hst
      exact absurd h2 (by omega)
    | succ k ih =>
      intro i v0 w0 f0 g0 o6 o7 h1 h2 hst
      refine wd_iload hC dX4_ropesOfTwo_9 rfl ?_
      refine wd_iconst (v := 3) hC dX4_ropesOfTwo_11 rfl ?_
      refine wd_icmp_gt (tgt := 119) hC dX4_ropesOfTwo_12 (by decide) (fun c_12 => ?_) (fun c_12 => ?_)
      · have hin : i = 4 := lp3_gt c_12 h1
        subst hin
        refine wd_iload_n hC dX4_ropesOfTwo_119 rfl rfl ?_
        refine wd_bipush (v := -9) hC dX4_ropesOfTwo_120 rfl ?_
        refine wd_icmp_eq (tgt := 149) hC dX4_ropesOfTwo_122 (by decide) (fun c_122 => ?_) (fun c_122 => ?_)
        · refine wd_iload_n hC dX4_ropesOfTwo_149 rfl rfl ?_
          exact wd_iretP hC rfl dX4_ropesOfTwo_150 ((by first | exact ⟨_, rfl, (congrArg Prod.fst hst).symm, _, (mz_u2 (mz_u2 hz (by decide) _ _) (by decide) _ _), (mOk_3 (mOk_3 hM _ _) _ _), rfl, fun h => absurd c_122 h⟩ | exact ⟨_, rfl, (congrArg Prod.fst hst).symm, _, mz_u2 (mz_u2 hz (by decide) _ _) (by decide) _ _, mOk_3 (mOk_3 hM _ _) _ _, rfl, fun _ => rfl⟩))
        · refine wd_aload_n hC dX4_ropesOfTwo_125 rfl rfl ?_
          refine gf_X4_33 hC dX4_ropesOfTwo_126 ?_
          refine gf_X4_104 hC dX4_ropesOfTwo_129 ?_
          refine wd_iload_n hC dX4_ropesOfTwo_132 rfl rfl ?_
          refine wd_iload hC dX4_ropesOfTwo_133 rfl ?_
          refine st_m hC dX4_ropesOfTwo_135 (m) hx (by omega) ?_
          refine wd_ts (stM_up _ _ _ (by decide) _ _) ?_
          refine wd_aload_n hC dX4_ropesOfTwo_136 rfl rfl ?_
          refine gf_X4_33 hC dX4_ropesOfTwo_137 ?_
          refine gf_X4_104 hC dX4_ropesOfTwo_140 ?_
          refine wd_iload_n hC dX4_ropesOfTwo_143 rfl rfl ?_
          refine wd_iload_n hC dX4_ropesOfTwo_144 rfl rfl ?_
          refine wd_iload hC dX4_ropesOfTwo_145 rfl ?_
          refine wd_isub hC dX4_ropesOfTwo_147 ?_
          refine st_m hC dX4_ropesOfTwo_148 (o) hy (by omega) ?_
          refine wd_ts (show _ = stM σ 1 (twoM (tv σ) M m o) from (by rw [stM_up _ _ _ (by decide), u2_4, twoM, twoV, hst])) ?_
          refine wd_iload_n hC dX4_ropesOfTwo_149 rfl rfl ?_
          exact wd_iretP hC rfl dX4_ropesOfTwo_150 ((by first | exact ⟨_, rfl, (congrArg Prod.fst hst).symm, _, (mz_u2 (mz_u2 hz (by decide) _ _) (by decide) _ _), (mOk_3 (mOk_3 hM _ _) _ _), rfl, fun h => absurd c_122 h⟩ | exact ⟨_, rfl, (congrArg Prod.fst hst).symm, _, mz_u2 (mz_u2 hz (by decide) _ _) (by decide) _ _, mOk_3 (mOk_3 hM _ _) _ _, rfl, fun _ => rfl⟩))
      · have hin : i < 4 := lp3_le c_12 h1
        refine wd_iconst (v := 0) hC dX4_ropesOfTwo_15 rfl ?_
        refine wd_istore_8_6 hC dX4_ropesOfTwo_16 ?_
        have inner : ∀ (k b : Nat) (v w f g : Int32) (o7 : Option Value), b ≤ 4 → 4 < b + k → itr (twoS (tv σ) M m o i) (f0, g0) b = (f, g) → wd_G cS V ad K 8 (wd_Qm cS V ad K (wd_pi (fun r σ' => r = (twoV (tv σ) M m o).1 ∧ ∃ M', mz M' ∧ mOk M' ∧ σ' = stM σ 1 M' ∧ (¬ r = -9 → M' = twoM (tv σ) M m o)))) 18 [some (.ref (ad 0)), some (.int x), some (.int y), some (.int f), some (.int g), some (.int (nI i)), some (.int (nI b)), o7] [] (stM σ 1 (u2 (u2 M 3 m v) 3 o w)) := by
          intro k
          induction k with
          | zero =>
            intro b v w f g o7 h1b h2b hst2
            exact absurd h2b (by omega)
          | succ k ih2 =>
            intro b v w f g o7 h1b h2b hst2
            refine wd_iload hC dX4_ropesOfTwo_18 rfl ?_
            refine wd_iconst (v := 3) hC dX4_ropesOfTwo_20 rfl ?_
            refine wd_icmp_gt (tgt := 113) hC dX4_ropesOfTwo_21 (by decide) (fun c_21 => ?_) (fun c_21 => ?_)
            · have hbn : b = 4 := lp3_gt c_21 h1b
              subst hbn
              refine wd_iincN_8_5 hC dX4_ropesOfTwo_113 ?_
              refine wd_goto (tgt := 9) hC dX4_ropesOfTwo_116 (by decide) ?_
              exact ih (i + 1) _ _ _ _ _ _ (by omega) (by omega) (by rw [itr, hst]; exact hst2)
            · have hbn : b < 4 := lp3_le c_21 h1b
              refine wd_aload_n hC dX4_ropesOfTwo_24 rfl rfl ?_
              refine gf_X4_33 hC dX4_ropesOfTwo_25 ?_
              refine gf_X4_104 hC dX4_ropesOfTwo_28 ?_
              refine wd_iload_n hC dX4_ropesOfTwo_31 rfl rfl ?_
              refine wd_iload hC dX4_ropesOfTwo_32 rfl ?_
              refine st_m hC dX4_ropesOfTwo_34 (m) hx (by omega) ?_
              refine wd_aload_n hC dX4_ropesOfTwo_35 rfl rfl ?_
              refine gf_X4_33 hC dX4_ropesOfTwo_36 ?_
              refine gf_X4_104 hC dX4_ropesOfTwo_39 ?_
              refine wd_iload_n hC dX4_ropesOfTwo_42 rfl rfl ?_
              refine wd_iload hC dX4_ropesOfTwo_43 rfl ?_
              refine st_m hC dX4_ropesOfTwo_45 (o) hy (by omega) ?_
              refine wd_ts (show _ = stM σ 1 (u2 (u2 M 3 m (nI i)) 3 o (nI b)) from (by rw [stM_up _ _ _ (by decide), stM_up _ _ _ (by decide), u2_4])) ?_
              refine wd_aload_n hC dX4_ropesOfTwo_46 rfl rfl ?_
              refine wd_aload_n hC dX4_ropesOfTwo_47 rfl rfl ?_
              refine gf_X4_33 hC dX4_ropesOfTwo_48 ?_
              refine wd_iload_n hC dX4_ropesOfTwo_51 rfl rfl ?_
              refine cv4i hC cw_X4_163 (c_gainV hinj σ ht 1 (by decide) _ (mz_u2 (mz_u2 hz (by decide) _ _) (by decide) _ _) (mOk_3 (mOk_3 hM _ _) _ _) x m hx hm) dX4_ropesOfTwo_52 (by first | decide | omega) (by decide) rfl rfl (Nat.le_of_ble_eq_true rfl) ?_
              refine wd_if_lt (tgt := 74) hC dX4_ropesOfTwo_55 (by decide) (fun c_55 => ?_) (fun c_55 => ?_)
              · refine wd_iconst (v := 0) hC dX4_ropesOfTwo_74 rfl ?_
                refine wd_istore_8_7 hC dX4_ropesOfTwo_75 ?_
                refine wd_iload hC dX4_ropesOfTwo_77 rfl ?_
                refine wd_if_eq (tgt := 107) hC dX4_ropesOfTwo_79 (by decide) (fun c_79 => ?_) (fun c_79 => absurd (by decide) c_79)
                refine wd_iincN_8_6 hC dX4_ropesOfTwo_107 ?_
                refine wd_goto (tgt := 18) hC dX4_ropesOfTwo_110 (by decide) ?_
                exact ih2 (b + 1) _ _ _ _ _ (by omega) (by omega) (by rw [itr, hst2, twoS]; (first | rw [if_pos (show fedD _ _ _ _ = true from decide_eq_true ⟨c_55, c_67⟩)] | rw [if_neg (show ¬ fedD _ _ _ _ = true from fun h => (of_decide_eq_true h).1 c_55)] | rw [if_neg (show ¬ fedD _ _ _ _ = true from fun h => (of_decide_eq_true h).2 c_67)]); (first | rw [if_pos c_85] | rw [if_neg c_85, if_pos c_94] | rw [if_neg c_85, if_neg c_94] | skip))
              · refine wd_aload_n hC dX4_ropesOfTwo_58 rfl rfl ?_
                refine wd_aload_n hC dX4_ropesOfTwo_59 rfl rfl ?_
                refine gf_X4_33 hC dX4_ropesOfTwo_60 ?_
                refine wd_iload_n hC dX4_ropesOfTwo_63 rfl rfl ?_
                refine cv4i hC cw_X4_163 (c_gainV hinj σ ht 1 (by decide) _ (mz_u2 (mz_u2 hz (by decide) _ _) (by decide) _ _) (mOk_3 (mOk_3 hM _ _) _ _) y o hy ho) dX4_ropesOfTwo_64 (by first | decide | omega) (by decide) rfl rfl (Nat.le_of_ble_eq_true rfl) ?_
                refine wd_if_lt (tgt := 74) hC dX4_ropesOfTwo_67 (by decide) (fun c_67 => ?_) (fun c_67 => ?_)
                · refine wd_iconst (v := 0) hC dX4_ropesOfTwo_74 rfl ?_
                  refine wd_istore_8_7 hC dX4_ropesOfTwo_75 ?_
                  refine wd_iload hC dX4_ropesOfTwo_77 rfl ?_
                  refine wd_if_eq (tgt := 107) hC dX4_ropesOfTwo_79 (by decide) (fun c_79 => ?_) (fun c_79 => absurd (by decide) c_79)
                  refine wd_iincN_8_6 hC dX4_ropesOfTwo_107 ?_
                  refine wd_goto (tgt := 18) hC dX4_ropesOfTwo_110 (by decide) ?_
                  exact ih2 (b + 1) _ _ _ _ _ (by omega) (by omega) (by rw [itr, hst2, twoS]; (first | rw [if_pos (show fedD _ _ _ _ = true from decide_eq_true ⟨c_55, c_67⟩)] | rw [if_neg (show ¬ fedD _ _ _ _ = true from fun h => (of_decide_eq_true h).1 c_55)] | rw [if_neg (show ¬ fedD _ _ _ _ = true from fun h => (of_decide_eq_true h).2 c_67)]); (first | rw [if_pos c_85] | rw [if_neg c_85, if_pos c_94] | rw [if_neg c_85, if_neg c_94] | skip))
                · refine wd_iconst (v := 1) hC dX4_ropesOfTwo_70 rfl ?_
                  refine wd_goto (tgt := 75) hC dX4_ropesOfTwo_71 (by decide) ?_
                  refine wd_istore_8_7 hC dX4_ropesOfTwo_75 ?_
                  refine wd_iload hC dX4_ropesOfTwo_77 rfl ?_
                  refine wd_if_eq (tgt := 107) hC dX4_ropesOfTwo_79 (by decide) (fun c_79 => absurd c_79 (by decide)) (fun c_79 => ?_)
                  refine wd_iload_n hC dX4_ropesOfTwo_82 rfl rfl ?_
                  refine wd_bipush (v := -9) hC dX4_ropesOfTwo_83 rfl ?_
                  refine wd_icmp_eq (tgt := 97) hC dX4_ropesOfTwo_85 (by decide) (fun c_85 => ?_) (fun c_85 => ?_)
                  · refine wd_iload hC dX4_ropesOfTwo_97 rfl ?_
                    refine wd_iload hC dX4_ropesOfTwo_99 rfl ?_
                    refine wd_iadd hC dX4_ropesOfTwo_101 ?_
                    refine wd_istore_n_8_3 hC dX4_ropesOfTwo_102 ?_
                    refine wd_iload hC dX4_ropesOfTwo_103 rfl ?_
                    refine wd_istore_8_4 hC dX4_ropesOfTwo_105 ?_
                    refine wd_iincN_8_6 hC dX4_ropesOfTwo_107 ?_
                    refine wd_goto (tgt := 18) hC dX4_ropesOfTwo_110 (by decide) ?_
                    exact ih2 (b + 1) _ _ _ _ _ (by omega) (by omega) (by rw [itr, hst2, twoS]; (first | rw [if_pos (show fedD _ _ _ _ = true from decide_eq_true ⟨c_55, c_67⟩)] | rw [if_neg (show ¬ fedD _ _ _ _ = true from fun h => (of_decide_eq_true h).1 c_55)] | rw [if_neg (show ¬ fedD _ _ _ _ = true from fun h => (of_decide_eq_true h).2 c_67)]); (first | rw [if_pos c_85] | rw [if_neg c_85, if_pos c_94] | rw [if_neg c_85, if_neg c_94] | skip))
                  · refine wd_iload hC dX4_ropesOfTwo_88 rfl ?_
                    refine wd_iload hC dX4_ropesOfTwo_90 rfl ?_
                    refine wd_iadd hC dX4_ropesOfTwo_92 ?_
                    refine wd_iload_n hC dX4_ropesOfTwo_93 rfl rfl ?_
                    refine wd_icmp_ge (tgt := 107) hC dX4_ropesOfTwo_94 (by decide) (fun c_94 => ?_) (fun c_94 => ?_)
                    · refine wd_iincN_8_6 hC dX4_ropesOfTwo_107 ?_
                      refine wd_goto (tgt := 18) hC dX4_ropesOfTwo_110 (by decide) ?_
                      exact ih2 (b + 1) _ _ _ _ _ (by omega) (by omega) (by rw [itr, hst2, twoS]; (first | rw [if_pos (show fedD _ _ _ _ = true from decide_eq_true ⟨c_55, c_67⟩)] | rw [if_neg (show ¬ fedD _ _ _ _ = true from fun h => (of_decide_eq_true h).1 c_55)] | rw [if_neg (show ¬ fedD _ _ _ _ = true from fun h => (of_decide_eq_true h).2 c_67)]); (first | rw [if_pos c_85] | rw [if_neg c_85, if_pos c_94] | rw [if_neg c_85, if_neg c_94] | skip))
                    · refine wd_iload hC dX4_ropesOfTwo_97 rfl ?_
                      refine wd_iload hC dX4_ropesOfTwo_99 rfl ?_
                      refine wd_iadd hC dX4_ropesOfTwo_101 ?_
                      refine wd_istore_n_8_3 hC dX4_ropesOfTwo_102 ?_
                      refine wd_iload hC dX4_ropesOfTwo_103 rfl ?_
                      refine wd_istore_8_4 hC dX4_ropesOfTwo_105 ?_
                      refine wd_iincN_8_6 hC dX4_ropesOfTwo_107 ?_
                      refine wd_goto (tgt := 18) hC dX4_ropesOfTwo_110 (by decide) ?_
                      exact ih2 (b + 1) _ _ _ _ _ (by omega) (by omega) (by rw [itr, hst2, twoS]; (first | rw [if_pos (show fedD _ _ _ _ = true from decide_eq_true ⟨c_55, c_67⟩)] | rw [if_neg (show ¬ fedD _ _ _ _ = true from fun h => (of_decide_eq_true h).1 c_55)] | rw [if_neg (show ¬ fedD _ _ _ _ = true from fun h => (of_decide_eq_true h).2 c_67)]); (first | rw [if_pos c_85] | rw [if_neg c_85, if_pos c_94] | rw [if_neg c_85, if_neg c_94] | skip))
        exact inner 5 0 _ _ _ _ _ (by decide) (by decide) rfl
  refine wd_bipush (v := -9) hC dX4_ropesOfTwo_0 rfl ?_
  refine wd_istore_n_8_3 hC dX4_ropesOfTwo_2 ?_
  refine wd_iconst (v := 0) hC dX4_ropesOfTwo_3 rfl ?_
  refine wd_istore_8_4 hC dX4_ropesOfTwo_4 ?_
  refine wd_iconst (v := 0) hC dX4_ropesOfTwo_6 rfl ?_
  refine wd_istore_8_5 hC dX4_ropesOfTwo_7 ?_
  refine wd_ts (show stM σ 1 M = stM σ 1 (u2 (u2 M 3 m (M 3 m)) 3 o (M 3 o)) from (by rw [u2_self, u2_self])) ?_
  exact loop 5 0 _ _ _ _ _ _ (by decide) (by decide) rfl
def trL (T : Nat → Nat → Int32) : Nat → Nat → Int32 → (Nat → Nat → Int32) → Int32 × (Nat → Nat → Int32)
  | 0, _, a, M => (a, M)
  | k + 1, m, a, M =>
    if ¬ M 2 m < 0 ∧ M 2 m < nI m then trL T k (m + 1) a M
    else if 0 ≤ M 2 m then (if (twoV T M m (nFac M m)).1 = -9 then (-9, M) else trL T k (m + 1) (a + (twoV T M m (nFac M m)).1) (twoM T M m (nFac M m)))
    else (if aloneV T M m = -9 then (-9, M) else trL T k (m + 1) (a + aloneV T M m) (u2 M 3 m 0))
def trV (T M : Nat → Nat → Int32) : Int32 × (Nat → Nat → Int32) := trL T (nMen T) 0 0 M
theorem trL_s (T : Nat → Nat → Int32) {n i : Nat} (h : i < n) (a : Int32) (M : Nat → Nat → Int32) : trL T (n - i) i a M = trL T ((n - (i + 1)) + 1) i a M := by
  rw [show n - i = (n - (i + 1)) + 1 by omega]

set_option maxRecDepth 100000 in
set_option maxHeartbeats 4000000 in
theorem c_tryRopes {V : wd_V} {ad : Nat → Nat} (hinj : wd_inj cS ad) (σ : wd_S) (ht : σ.2.2 < 2) (hT : tOk (tv σ)) (M0 : Nat → Nat → Int32) (hM : mOk (mv σ 0))  : wd_C cS V ad 5 yX4_tryRopes (Cond.code yX4_tryRopes cX4_tryRopes 5 (some .int) :: wsL_law) (stM σ 1 M0) [.ref (ad 0)] (wd_pi (fun r σ' => r = (trV (tv σ) (mv σ 0)).1 ∧ ∃ M', mz M' ∧ mOk M' ∧ σ' = stM σ 1 M' ∧ (¬ r = -9 → M' = (trV (tv σ) (mv σ 0)).2))) := by
  refine wd_intro (lv := [some (.ref (ad 0)), none, none, none, none]) hinj (by decide) rfl (Nat.le_of_ble_eq_true rfl) rfl (Nat.le_of_ble_eq_true rfl) (fun K hC => ?_)
  have h6 := hT.m6
  have h3 := hT.c3
  have loop : ∀ (k i : Nat) (Mi : Nat → Nat → Int32) (a : Int32) (o3 o4 : Option Value), i ≤ (nMen (tv σ)) → (nMen (tv σ)) < i + k → mz Mi → mOk Mi → trL (tv σ) (nMen (tv σ) - i) i a Mi = trV (tv σ) (mv σ 0) → wd_G cS V ad K 5 (wd_Qm cS V ad K (wd_pi (fun r σ' => r = (trV (tv σ) (mv σ 0)).1 ∧ ∃ M', mz M' ∧ mOk M' ∧ σ' = stM σ 1 M' ∧ (¬ r = -9 → M' = (trV (tv σ) (mv σ 0)).2)))) 15 [some (.ref (ad 0)), some (.int a), some (.int (nI i)), o3, o4] [] (stM σ 1 Mi) := by
    intro k
    induction k with
    | zero =>
      intro i Mi a o3 o4 h1 h2 hzi hMi hst
      exact absurd h2 (by omega)
    | succ k ih =>
      intro i Mi a o3 o4 h1 h2 hzi hMi hst
      refine wd_iload_n hC dX4_tryRopes_15 rfl rfl ?_
      refine wd_aload_n hC dX4_tryRopes_16 rfl rfl ?_
      refine gf_X4_19 hC dX4_tryRopes_17 ?_
      refine gf_X4_76 hC dX4_tryRopes_20 ?_
      refine wd_icmp_ge (tgt := 89) hC dX4_tryRopes_23 (by decide) (fun c_23 => ?_) (fun c_23 => ?_)
      · have hin : i = _ := lp_ge (men_st ht hT) c_23 h1 (by omega)
        subst hin
        replace hst : (a, Mi) = trV (tv σ) (mv σ 0) := by rw [← hst, Nat.sub_self]; rfl
        refine wd_iload_n hC dX4_tryRopes_89 rfl rfl ?_
        exact wd_iretP hC rfl dX4_tryRopes_90 (⟨_, rfl, congrArg Prod.fst hst, _, hzi, hMi, rfl, fun _ => congrArg Prod.snd hst⟩)
      · have hin : i < _ := lp_lt (men_st ht hT) c_23 h1 (by omega)
        rw [trL_s _ hin, trL] at hst
        refine wd_aload_n hC dX4_tryRopes_26 rfl rfl ?_
        refine gf_X4_33 hC dX4_tryRopes_27 ?_
        refine gf_X4_101 hC dX4_tryRopes_30 ?_
        refine wd_iload_n hC dX4_tryRopes_33 rfl rfl ?_
        refine ld_m hC dX4_tryRopes_34 (i) rfl (by omega) ?_
        refine wd_vi (stM_c _ _ _ (by decide)) ?_
        refine wd_istore_n_5_3 hC dX4_tryRopes_35 ?_
        refine wd_iload_n hC dX4_tryRopes_36 rfl rfl ?_
        refine wd_if_lt (tgt := 48) hC dX4_tryRopes_37 (by decide) (fun c_37 => ?_) (fun c_37 => ?_)
        · replace hst := (if_neg (fun h => h.1 c_37)).symm.trans hst
          refine wd_iload_n hC dX4_tryRopes_48 rfl rfl ?_
          refine wd_if_ge (tgt := 60) hC dX4_tryRopes_49 (by decide) (fun c_49 => ?_) (fun c_49 => ?_)
          · replace hst := (if_pos c_49).symm.trans hst
            refine wd_aload_n hC dX4_tryRopes_60 rfl rfl ?_
            refine wd_iload_n hC dX4_tryRopes_61 rfl rfl ?_
            refine wd_iload_n hC dX4_tryRopes_62 rfl rfl ?_
            refine cv4iP hC cw_X4_274 (c_ropesOfTwo hinj σ ht hT Mi hzi hMi _ _ i _ rfl (hMi.f (by omega) c_49) (by omega) (hMi.f6 (by omega) c_49)) dX4_tryRopes_63 (by first | decide | omega) (by decide) rfl rfl (Nat.le_of_ble_eq_true rfl) (fun r_63 σ_63 h_63 => ?_)
            obtain ⟨rfl, M2, hz2, hM2, rfl, hM3⟩ := h_63
            refine wd_istore_5_4 hC dX4_tryRopes_66 ?_
            refine wd_iload hC dX4_tryRopes_68 rfl ?_
            refine wd_bipush (v := -9) hC dX4_tryRopes_70 rfl ?_
            refine wd_icmp_ne (tgt := 78) hC dX4_tryRopes_72 (by decide) (fun c_72 => ?_) (fun c_72 => ?_)
            · replace hst := (if_neg c_72).symm.trans hst
              refine wd_iload_n hC dX4_tryRopes_78 rfl rfl ?_
              refine wd_iload hC dX4_tryRopes_79 rfl ?_
              refine wd_iadd hC dX4_tryRopes_81 ?_
              refine wd_istore_n_5_1 hC dX4_tryRopes_82 ?_
              refine wd_iincN_5_2 hC dX4_tryRopes_83 ?_
              refine wd_goto (tgt := 15) hC dX4_tryRopes_86 (by decide) ?_
              first | (obtain rfl := hM3 c_72; exact ih (i + 1) _ _ _ _ (by omega) (by omega) hz2 hM2 hst) | exact ih (i + 1) _ _ _ _ (by omega) (by omega) (mz_u2 hzi (by decide) _ _) (mOk_3 hMi _ _) hst | exact ih (i + 1) _ _ _ _ (by omega) (by omega) hzi hMi hst
            · replace hst := (if_pos c_72).symm.trans hst
              refine wd_bipush (v := -9) hC dX4_tryRopes_75 rfl ?_
              exact wd_iretP hC rfl dX4_tryRopes_77 (⟨_, rfl, congrArg Prod.fst hst, _, (by first | exact hz2 | exact mz_u2 hzi (by decide) _ _), (by first | exact hM2 | exact mOk_3 hMi _ _), rfl, fun h => absurd rfl h⟩)
          · replace hst := (if_neg c_49).symm.trans hst
            refine wd_aload_n hC dX4_tryRopes_52 rfl rfl ?_
            refine wd_iload_n hC dX4_tryRopes_53 rfl rfl ?_
            refine cv4i hC cw_X4_271 (c_ropesAlone hinj σ ht hT Mi hzi hMi _ i rfl (by omega)) dX4_tryRopes_54 (by first | decide | omega) (by decide) rfl rfl (Nat.le_of_ble_eq_true rfl) ?_
            refine wd_goto (tgt := 66) hC dX4_tryRopes_57 (by decide) ?_
            refine wd_istore_5_4 hC dX4_tryRopes_66 ?_
            refine wd_iload hC dX4_tryRopes_68 rfl ?_
            refine wd_bipush (v := -9) hC dX4_tryRopes_70 rfl ?_
            refine wd_icmp_ne (tgt := 78) hC dX4_tryRopes_72 (by decide) (fun c_72 => ?_) (fun c_72 => ?_)
            · replace hst := (if_neg c_72).symm.trans hst
              refine wd_iload_n hC dX4_tryRopes_78 rfl rfl ?_
              refine wd_iload hC dX4_tryRopes_79 rfl ?_
              refine wd_iadd hC dX4_tryRopes_81 ?_
              refine wd_istore_n_5_1 hC dX4_tryRopes_82 ?_
              refine wd_iincN_5_2 hC dX4_tryRopes_83 ?_
              refine wd_goto (tgt := 15) hC dX4_tryRopes_86 (by decide) ?_
              first | (obtain rfl := hM3 c_72; exact ih (i + 1) _ _ _ _ (by omega) (by omega) hz2 hM2 hst) | exact ih (i + 1) _ _ _ _ (by omega) (by omega) (mz_u2 hzi (by decide) _ _) (mOk_3 hMi _ _) hst | exact ih (i + 1) _ _ _ _ (by omega) (by omega) hzi hMi hst
            · replace hst := (if_pos c_72).symm.trans hst
              refine wd_bipush (v := -9) hC dX4_tryRopes_75 rfl ?_
              exact wd_iretP hC rfl dX4_tryRopes_77 (⟨_, rfl, congrArg Prod.fst hst, _, (by first | exact hz2 | exact mz_u2 hzi (by decide) _ _), (by first | exact hM2 | exact mOk_3 hMi _ _), rfl, fun h => absurd rfl h⟩)
        · refine wd_iload_n hC dX4_tryRopes_40 rfl rfl ?_
          refine wd_iload_n hC dX4_tryRopes_41 rfl rfl ?_
          refine wd_icmp_ge (tgt := 48) hC dX4_tryRopes_42 (by decide) (fun c_42 => ?_) (fun c_42 => ?_)
          · replace hst := (if_neg (fun h => i_nlt h.2 c_42)).symm.trans hst
            refine wd_iload_n hC dX4_tryRopes_48 rfl rfl ?_
            refine wd_if_ge (tgt := 60) hC dX4_tryRopes_49 (by decide) (fun c_49 => ?_) (fun c_49 => ?_)
            · replace hst := (if_pos c_49).symm.trans hst
              refine wd_aload_n hC dX4_tryRopes_60 rfl rfl ?_
              refine wd_iload_n hC dX4_tryRopes_61 rfl rfl ?_
              refine wd_iload_n hC dX4_tryRopes_62 rfl rfl ?_
              refine cv4iP hC cw_X4_274 (c_ropesOfTwo hinj σ ht hT Mi hzi hMi _ _ i _ rfl (hMi.f (by omega) c_49) (by omega) (hMi.f6 (by omega) c_49)) dX4_tryRopes_63 (by first | decide | omega) (by decide) rfl rfl (Nat.le_of_ble_eq_true rfl) (fun r_63 σ_63 h_63 => ?_)
              obtain ⟨rfl, M2, hz2, hM2, rfl, hM3⟩ := h_63
              refine wd_istore_5_4 hC dX4_tryRopes_66 ?_
              refine wd_iload hC dX4_tryRopes_68 rfl ?_
              refine wd_bipush (v := -9) hC dX4_tryRopes_70 rfl ?_
              refine wd_icmp_ne (tgt := 78) hC dX4_tryRopes_72 (by decide) (fun c_72 => ?_) (fun c_72 => ?_)
              · replace hst := (if_neg c_72).symm.trans hst
                refine wd_iload_n hC dX4_tryRopes_78 rfl rfl ?_
                refine wd_iload hC dX4_tryRopes_79 rfl ?_
                refine wd_iadd hC dX4_tryRopes_81 ?_
                refine wd_istore_n_5_1 hC dX4_tryRopes_82 ?_
                refine wd_iincN_5_2 hC dX4_tryRopes_83 ?_
                refine wd_goto (tgt := 15) hC dX4_tryRopes_86 (by decide) ?_
                first | (obtain rfl := hM3 c_72; exact ih (i + 1) _ _ _ _ (by omega) (by omega) hz2 hM2 hst) | exact ih (i + 1) _ _ _ _ (by omega) (by omega) (mz_u2 hzi (by decide) _ _) (mOk_3 hMi _ _) hst | exact ih (i + 1) _ _ _ _ (by omega) (by omega) hzi hMi hst
              · replace hst := (if_pos c_72).symm.trans hst
                refine wd_bipush (v := -9) hC dX4_tryRopes_75 rfl ?_
                exact wd_iretP hC rfl dX4_tryRopes_77 (⟨_, rfl, congrArg Prod.fst hst, _, (by first | exact hz2 | exact mz_u2 hzi (by decide) _ _), (by first | exact hM2 | exact mOk_3 hMi _ _), rfl, fun h => absurd rfl h⟩)
            · replace hst := (if_neg c_49).symm.trans hst
              refine wd_aload_n hC dX4_tryRopes_52 rfl rfl ?_
              refine wd_iload_n hC dX4_tryRopes_53 rfl rfl ?_
              refine cv4i hC cw_X4_271 (c_ropesAlone hinj σ ht hT Mi hzi hMi _ i rfl (by omega)) dX4_tryRopes_54 (by first | decide | omega) (by decide) rfl rfl (Nat.le_of_ble_eq_true rfl) ?_
              refine wd_goto (tgt := 66) hC dX4_tryRopes_57 (by decide) ?_
              refine wd_istore_5_4 hC dX4_tryRopes_66 ?_
              refine wd_iload hC dX4_tryRopes_68 rfl ?_
              refine wd_bipush (v := -9) hC dX4_tryRopes_70 rfl ?_
              refine wd_icmp_ne (tgt := 78) hC dX4_tryRopes_72 (by decide) (fun c_72 => ?_) (fun c_72 => ?_)
              · replace hst := (if_neg c_72).symm.trans hst
                refine wd_iload_n hC dX4_tryRopes_78 rfl rfl ?_
                refine wd_iload hC dX4_tryRopes_79 rfl ?_
                refine wd_iadd hC dX4_tryRopes_81 ?_
                refine wd_istore_n_5_1 hC dX4_tryRopes_82 ?_
                refine wd_iincN_5_2 hC dX4_tryRopes_83 ?_
                refine wd_goto (tgt := 15) hC dX4_tryRopes_86 (by decide) ?_
                first | (obtain rfl := hM3 c_72; exact ih (i + 1) _ _ _ _ (by omega) (by omega) hz2 hM2 hst) | exact ih (i + 1) _ _ _ _ (by omega) (by omega) (mz_u2 hzi (by decide) _ _) (mOk_3 hMi _ _) hst | exact ih (i + 1) _ _ _ _ (by omega) (by omega) hzi hMi hst
              · replace hst := (if_pos c_72).symm.trans hst
                refine wd_bipush (v := -9) hC dX4_tryRopes_75 rfl ?_
                exact wd_iretP hC rfl dX4_tryRopes_77 (⟨_, rfl, congrArg Prod.fst hst, _, (by first | exact hz2 | exact mz_u2 hzi (by decide) _ _), (by first | exact hM2 | exact mOk_3 hMi _ _), rfl, fun h => absurd rfl h⟩)
          · replace hst := (if_pos ⟨c_37, i_nle c_42⟩).symm.trans hst
            refine wd_goto (tgt := 83) hC dX4_tryRopes_45 (by decide) ?_
            refine wd_iincN_5_2 hC dX4_tryRopes_83 ?_
            refine wd_goto (tgt := 15) hC dX4_tryRopes_86 (by decide) ?_
            first | (obtain rfl := hM3 c_72; exact ih (i + 1) _ _ _ _ (by omega) (by omega) hz2 hM2 hst) | exact ih (i + 1) _ _ _ _ (by omega) (by omega) (mz_u2 hzi (by decide) _ _) (mOk_3 hMi _ _) hst | exact ih (i + 1) _ _ _ _ (by omega) (by omega) hzi hMi hst
  refine wd_aload_n hC dX4_tryRopes_0 rfl rfl ?_
  refine gf_X4_33 hC dX4_tryRopes_1 ?_
  refine wd_aload_n hC dX4_tryRopes_4 rfl rfl ?_
  refine gf_X4_29 hC dX4_tryRopes_5 ?_
  refine cv1v hC cw_X4_173 (c_copyFrom hinj _ 0 1 (by decide) (by decide) (by decide)) dX4_tryRopes_8 (by first | decide | omega) (by decide) rfl rfl (Nat.le_of_ble_eq_true rfl) ?_
  refine wd_ts (st_cp σ M0) ?_
  refine wd_iconst (v := 0) hC dX4_tryRopes_11 rfl ?_
  refine wd_istore_n_5_1 hC dX4_tryRopes_12 ?_
  refine wd_iconst (v := 0) hC dX4_tryRopes_13 rfl ?_
  refine wd_istore_n_5_2 hC dX4_tryRopes_14 ?_
  exact loop (nMen (tv σ) + 1) 0 _ _ _ _ (Nat.zero_le _) (by omega) (mz_mv σ 0) hM rfl
set_option maxRecDepth 100000 in
set_option maxHeartbeats 4000000 in
theorem c_needed_bad {V : wd_V} {ad : Nat → Nat} (hinj : wd_inj cS ad) (σ : wd_S) (ht : σ.2.2 < 2) (x : Int32) (hB : ¬ (x = -1 ∨ pMan (tv σ) x)) : wd_C cS V ad 2 yX4_needed (Cond.code yX4_needed cX4_needed 3 (some .int) :: wsL_law) σ [.ref (ad 0), .int x] (wd_eq (some (.int (-1))) (σ)) := by
  refine wd_intro (lv := [some (.ref (ad 0)), some (.int x), none]) hinj (by decide) rfl (Nat.le_of_ble_eq_true rfl) rfl (Nat.le_of_ble_eq_true rfl) (fun K hC => ?_)
  refine wd_iload_n hC dX4_needed_0 rfl rfl ?_
  refine wd_iconst (v := -1) hC dX4_needed_1 rfl ?_
  refine wd_icmp_eq (tgt := 15) hC dX4_needed_2 (by decide) (fun c_2 => ?_) (fun c_2 => ?_)
  · exact absurd (by first | exact Or.inl c_2 | exact Or.inr c_10) hB
  · refine wd_aload_n hC dX4_needed_5 rfl rfl ?_
    refine wd_iload_n hC dX4_needed_6 rfl rfl ?_
    refine cv4i hC cw_X4_85 (c_isMan hinj _ ht _) dX4_needed_7 (by first | decide | omega) (by decide) rfl rfl (Nat.le_of_ble_eq_true rfl) ?_
    refine wd_if_ne (tgt := 15) hC dX4_needed_10 (by decide) (fun c_10 => ?_) (fun c_10 => ?_)
    · replace c_10 := bI_1.mp c_10
      exact absurd (by first | exact Or.inl c_2 | exact Or.inr c_10) hB
    · replace c_10 := bI_0.mp c_10
      refine wd_iconst (v := -1) hC dX4_needed_13 rfl ?_
      exact wd_iret hC rfl dX4_needed_14 rfl rfl
set_option maxRecDepth 100000 in
set_option maxHeartbeats 4000000 in
theorem c_needed {V : wd_V} {ad : Nat → Nat} (hinj : wd_inj cS ad) (σ : wd_S) (ht : σ.2.2 < 2) (hT : tOk (tv σ)) (hM : mOk (mv σ 0)) (x : Int32) (hp : x = -1 ∨ pMan (tv σ) x) : wd_C cS V ad 6 yX4_needed (Cond.code yX4_needed cX4_needed 3 (some .int) :: wsL_law) σ [.ref (ad 0), .int x] (wd_pi (fun r σ' => r = (if (trV (tv σ) (mv σ 0)).1 = -9 ∨ x = -1 then (trV (tv σ) (mv σ 0)).1 else (trV (tv σ) (mv σ 0)).2 3 x.toNatClampNeg) ∧ scr σ σ')) := by
  refine wd_intro (lv := [some (.ref (ad 0)), some (.int x), none]) hinj (by decide) rfl (Nat.le_of_ble_eq_true rfl) rfl (Nat.le_of_ble_eq_true rfl) (fun K hC => ?_)
  have h6 := hT.m6
  have h3 := hT.c3
  refine wd_ts (stM_self σ 1).symm ?_
  refine wd_iload_n hC dX4_needed_0 rfl rfl ?_
  refine wd_iconst (v := -1) hC dX4_needed_1 rfl ?_
  refine wd_icmp_eq (tgt := 15) hC dX4_needed_2 (by decide) (fun c_2 => ?_) (fun c_2 => ?_)
  · refine wd_aload_n hC dX4_needed_15 rfl rfl ?_
    refine cv4iP hC cw_X4_199 (c_tryRopes hinj σ ht hT (mv σ 1) hM) dX4_needed_16 (by first | decide | omega) (by decide) rfl rfl (Nat.le_of_ble_eq_true rfl) (fun r_16 σ_16 h_16 => ?_)
    obtain ⟨rfl, M2, hz2, hM2, rfl, hM3⟩ := h_16
    refine wd_istore_n_3_2 hC dX4_needed_19 ?_
    refine wd_iload_n hC dX4_needed_20 rfl rfl ?_
    refine wd_bipush (v := -9) hC dX4_needed_21 rfl ?_
    refine wd_icmp_eq (tgt := 31) hC dX4_needed_23 (by decide) (fun c_23 => ?_) (fun c_23 => ?_)
    · refine wd_iload_n hC dX4_needed_31 rfl rfl ?_
      exact wd_iretP hC rfl dX4_needed_32 (⟨_, rfl, (by first | exact (if_pos (Or.inl c_23)).symm | exact (if_pos (Or.inr c_28)).symm), M2, hz2, hM2, rfl⟩)
    · refine wd_iload_n hC dX4_needed_26 rfl rfl ?_
      refine wd_iconst (v := -1) hC dX4_needed_27 rfl ?_
      refine wd_icmp_ne (tgt := 33) hC dX4_needed_28 (by decide) (fun c_28 => ?_) (fun c_28 => ?_)
      · have hx := pm_ix hT (hp.elim (fun h => absurd h c_28) id)
        refine wd_aload_n hC dX4_needed_33 rfl rfl ?_
        refine gf_X4_33 hC dX4_needed_34 ?_
        refine gf_X4_104 hC dX4_needed_37 ?_
        refine wd_iload_n hC dX4_needed_40 rfl rfl ?_
        refine ld_m hC dX4_needed_41 x.toNatClampNeg hx.1 (by omega) ?_
        exact wd_iretP hC rfl dX4_needed_42 (⟨_, rfl, (by rw [if_neg (fun h => h.elim c_23 c_28), stM_c _ _ _ (by decide), hM3 c_23]), M2, hz2, hM2, rfl⟩)
      · refine wd_iload_n hC dX4_needed_31 rfl rfl ?_
        exact wd_iretP hC rfl dX4_needed_32 (⟨_, rfl, (by first | exact (if_pos (Or.inl c_23)).symm | exact (if_pos (Or.inr c_28)).symm), M2, hz2, hM2, rfl⟩)
  · refine wd_aload_n hC dX4_needed_5 rfl rfl ?_
    refine wd_iload_n hC dX4_needed_6 rfl rfl ?_
    refine cv4i hC cw_X4_85 (c_isManV hinj σ ht _ _) dX4_needed_7 (by first | decide | omega) (by decide) rfl rfl (Nat.le_of_ble_eq_true rfl) ?_
    refine wd_if_ne (tgt := 15) hC dX4_needed_10 (by decide) (fun c_10 => ?_) (fun c_10 => ?_)
    · replace c_10 := bI_1.mp c_10
      refine wd_aload_n hC dX4_needed_15 rfl rfl ?_
      refine cv4iP hC cw_X4_199 (c_tryRopes hinj σ ht hT (mv σ 1) hM) dX4_needed_16 (by first | decide | omega) (by decide) rfl rfl (Nat.le_of_ble_eq_true rfl) (fun r_16 σ_16 h_16 => ?_)
      obtain ⟨rfl, M2, hz2, hM2, rfl, hM3⟩ := h_16
      refine wd_istore_n_3_2 hC dX4_needed_19 ?_
      refine wd_iload_n hC dX4_needed_20 rfl rfl ?_
      refine wd_bipush (v := -9) hC dX4_needed_21 rfl ?_
      refine wd_icmp_eq (tgt := 31) hC dX4_needed_23 (by decide) (fun c_23 => ?_) (fun c_23 => ?_)
      · refine wd_iload_n hC dX4_needed_31 rfl rfl ?_
        exact wd_iretP hC rfl dX4_needed_32 (⟨_, rfl, (by first | exact (if_pos (Or.inl c_23)).symm | exact (if_pos (Or.inr c_28)).symm), M2, hz2, hM2, rfl⟩)
      · refine wd_iload_n hC dX4_needed_26 rfl rfl ?_
        refine wd_iconst (v := -1) hC dX4_needed_27 rfl ?_
        refine wd_icmp_ne (tgt := 33) hC dX4_needed_28 (by decide) (fun c_28 => ?_) (fun c_28 => ?_)
        · have hx := pm_ix hT (hp.elim (fun h => absurd h c_28) id)
          refine wd_aload_n hC dX4_needed_33 rfl rfl ?_
          refine gf_X4_33 hC dX4_needed_34 ?_
          refine gf_X4_104 hC dX4_needed_37 ?_
          refine wd_iload_n hC dX4_needed_40 rfl rfl ?_
          refine ld_m hC dX4_needed_41 x.toNatClampNeg hx.1 (by omega) ?_
          exact wd_iretP hC rfl dX4_needed_42 (⟨_, rfl, (by rw [if_neg (fun h => h.elim c_23 c_28), stM_c _ _ _ (by decide), hM3 c_23]), M2, hz2, hM2, rfl⟩)
        · refine wd_iload_n hC dX4_needed_31 rfl rfl ?_
          exact wd_iretP hC rfl dX4_needed_32 (⟨_, rfl, (by first | exact (if_pos (Or.inl c_23)).symm | exact (if_pos (Or.inr c_28)).symm), M2, hz2, hM2, rfl⟩)
    · replace c_10 := bI_0.mp c_10
      exact absurd (hp.elim (fun h => absurd h c_2) id) c_10

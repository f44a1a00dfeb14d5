/-! ===== the reference: odds ===== -/
theorem and1_01 (x : Int32) : x &&& 1 = 0 ∨ x &&& 1 = 1 := by
  obtain ⟨j, hj, e⟩ := pk_andE x (m := 1) 1 rfl
  rw [e]
  rcases (show j = 0 ∨ j = 1 by omega) with rfl | rfl
  · exact Or.inl rfl
  · exact Or.inr rfl
theorem rOk_30 {W r : Nat → Int32} {nm nc : Nat} (h : rOk W r nm nc) {v : Int32} (hv : v = 0 ∨ v = 1) : rOk W (upd r 30 v) nm nc := by
  have h6 := h.1
  refine ⟨h.1, h.2.1, fun a ha => ?_, h.2.2.2.1, ?_⟩
  · unfold upd
    rw [if_neg (by omega), if_neg (by omega)]
    exact h.2.2.1 a ha
  · unfold upd
    rw [if_pos rfl]
    exact hv
abbrev bit (w k : Nat) : Int32 := (nI w >>> (nI k &&& 31)) &&& 1
def oIn (σ : wd_S) (nm : Nat) (x : Int32) (w k : Nat) (p : Int32 × (Nat → Int32)) : Int32 × (Nat → Int32) := (if bit w k = 1 then p.1 * x else p.1 * (10 - x), goR σ (upd p.2 30 (bit w k)) nm)
def oOut (σ : wd_S) (nm m : Nat) (x v : Int32) (n w : Nat) (a : Int32) : Int32 := if (itr (oIn σ nm x w) (1, σ.1 9) n).2 (24 + m) < v then a + 0 else a + (itr (oIn σ nm x w) (1, σ.1 9) n).1
def oV (σ : wd_S) (nm m : Nat) (x v : Int32) (n : Nat) : Int32 := itr (oOut σ nm m x v n) 0 (2 ^ n)

set_option maxRecDepth 100000 in
set_option maxHeartbeats 4000000 in
theorem r_odds_bad {V : wd_V} {ad : Nat → Nat} (hinj : wd_inj rS ad) (σ : wd_S) (h0 : σ.1 0 0 = 0) (x y z v w : Int32) (hB : ¬ (pIn x 0 10 ∧ pIn y 0 6 ∧ qMan σ z ∧ pIn v (-9999) 9999 ∧ pIn w 0 1)) : wd_C rS V ad 2 yX5_odds (Cond.code yX5_odds cX5_odds 10 (some .int) :: wsL_law) σ [.ref (ad 0), .int x, .int y, .int z, .int v, .int w] (wd_eq (some (.int (-1))) (σ)) := by
  refine wd_intro (lv := [some (.ref (ad 0)), some (.int x), some (.int y), some (.int z), some (.int v), some (.int w), none, none, none, none]) hinj (by decide) rfl (Nat.le_of_ble_eq_true rfl) rfl (Nat.le_of_ble_eq_true rfl) (fun K hC => ?_)
  refine wd_aload_n hC dX5_odds_0 rfl rfl ?_
  refine wd_iconst (v := 0) hC dX5_odds_1 rfl ?_
  refine pf_X5_62 hC dX5_odds_2 ?_
  refine wd_ts (up_00 h0) ?_
  refine wd_iload_n hC dX5_odds_5 rfl rfl ?_
  refine wd_iconst (v := 0) hC dX5_odds_6 rfl ?_
  refine wd_bipush (v := 10) hC dX5_odds_7 rfl ?_
  refine cvsi hC cw_X5_66 (r_in hinj _ _ _ _) dX5_odds_9 (by first | decide | omega) (by decide) rfl rfl (Nat.le_of_ble_eq_true rfl) ?_
  refine wd_if_eq (tgt := 57) hC dX5_odds_12 (by decide) (fun c_12 => ?_) (fun c_12 => ?_)
  · replace c_12 := bI_0.mp c_12
    refine wd_iconst (v := -1) hC dX5_odds_57 rfl ?_
    exact wd_iret hC rfl dX5_odds_58 rfl rfl
  · replace c_12 := bI_1.mp c_12
    refine wd_iload_n hC dX5_odds_15 rfl rfl ?_
    refine wd_iconst (v := 0) hC dX5_odds_16 rfl ?_
    refine wd_bipush (v := 6) hC dX5_odds_17 rfl ?_
    refine cvsi hC cw_X5_66 (r_in hinj _ _ _ _) dX5_odds_19 (by first | decide | omega) (by decide) rfl rfl (Nat.le_of_ble_eq_true rfl) ?_
    refine wd_if_eq (tgt := 57) hC dX5_odds_22 (by decide) (fun c_22 => ?_) (fun c_22 => ?_)
    · replace c_22 := bI_0.mp c_22
      refine wd_iconst (v := -1) hC dX5_odds_57 rfl ?_
      exact wd_iret hC rfl dX5_odds_58 rfl rfl
    · replace c_22 := bI_1.mp c_22
      refine wd_aload_n hC dX5_odds_25 rfl rfl ?_
      refine wd_iload_n hC dX5_odds_26 rfl rfl ?_
      refine cv5i hC cw_X5_134 (r_isMan hinj _ _) dX5_odds_27 (by first | decide | omega) (by decide) rfl rfl (Nat.le_of_ble_eq_true rfl) ?_
      refine wd_if_eq (tgt := 57) hC dX5_odds_30 (by decide) (fun c_30 => ?_) (fun c_30 => ?_)
      · replace c_30 := bI_0.mp c_30
        refine wd_iconst (v := -1) hC dX5_odds_57 rfl ?_
        exact wd_iret hC rfl dX5_odds_58 rfl rfl
      · replace c_30 := bI_1.mp c_30
        refine wd_iload hC dX5_odds_33 rfl ?_
        refine wd_sipush (v := -9999) hC dX5_odds_35 rfl ?_
        refine wd_sipush (v := 9999) hC dX5_odds_38 rfl ?_
        refine cvsi hC cw_X5_66 (r_in hinj _ _ _ _) dX5_odds_41 (by first | decide | omega) (by decide) rfl rfl (Nat.le_of_ble_eq_true rfl) ?_
        refine wd_if_eq (tgt := 57) hC dX5_odds_44 (by decide) (fun c_44 => ?_) (fun c_44 => ?_)
        · replace c_44 := bI_0.mp c_44
          refine wd_iconst (v := -1) hC dX5_odds_57 rfl ?_
          exact wd_iret hC rfl dX5_odds_58 rfl rfl
        · replace c_44 := bI_1.mp c_44
          refine wd_iload hC dX5_odds_47 rfl ?_
          refine wd_iconst (v := 0) hC dX5_odds_49 rfl ?_
          refine wd_iconst (v := 1) hC dX5_odds_50 rfl ?_
          refine cvsi hC cw_X5_66 (r_in hinj _ _ _ _) dX5_odds_51 (by first | decide | omega) (by decide) rfl rfl (Nat.le_of_ble_eq_true rfl) ?_
          refine wd_if_ne (tgt := 59) hC dX5_odds_54 (by decide) (fun c_54 => ?_) (fun c_54 => ?_)
          · replace c_54 := bI_1.mp c_54
            exact absurd ⟨c_12, c_22, c_30, c_44, c_54⟩ hB
          · replace c_54 := bI_0.mp c_54
            refine wd_iconst (v := -1) hC dX5_odds_57 rfl ?_
            exact wd_iret hC rfl dX5_odds_58 rfl rfl
set_option maxRecDepth 100000 in
set_option maxHeartbeats 4000000 in
theorem r_odds {V : wd_V} {ad : Nat → Nat} (hinj : wd_inj rS ad) (σ : wd_S) (h0 : σ.1 0 0 = 0) (nm nc : Nat) (hnm : σ.1 2 1 = nI nm) (hnc : σ.1 2 0 = nI nc) (h6 : nm ≤ 6) (h3 : nc ≤ 3) (hr : rOk (σ.1 3) (σ.1 9) nm nc) (x y z v w : Int32) (n m : Nat) (hpx : pIn x 0 10) (hy : y = nI n) (hn : n ≤ 6) (hz : z = nI m) (hm : m < nm) (hpv : pIn v (-9999) 9999) (hpw : pIn w 0 1) (A B : Nat) (hA : oV σ nm m x v n = nI A) (hB : pow10 n = nI B) (hA2 : A < 2 ^ 31) (hB2 : B < 2 ^ 31) (hB0 : 0 < B) : wd_C rS V ad 5 yX5_odds (Cond.code yX5_odds cX5_odds 10 (some .int) :: wsL_law) σ [.ref (ad 0), .int x, .int y, .int z, .int v, .int w] (wd_pi (fun r σ' => r = (if w = 0 then oV σ nm m x v n / nI (Nat.gcd A B) else pow10 n / nI (Nat.gcd A B)) ∧ scrR σ σ')) := by
  refine wd_intro (lv := [some (.ref (ad 0)), some (.int x), some (.int y), some (.int z), some (.int v), some (.int w), none, none, none, none]) hinj (by decide) rfl (Nat.le_of_ble_eq_true rfl) rfl (Nat.le_of_ble_eq_true rfl) (fun K hC => ?_)
  have h64 := pow_6 hn
  have hg0 : 0 < Nat.gcd A B := Nat.gcd_pos_of_pos_right A hB0
  have hg2 : Nat.gcd A B < 2 ^ 31 := Nat.lt_of_le_of_lt (Nat.gcd_le_right A hB0) hB2
  have loop : ∀ (k i : Nat) (a : Int32) (r0 : Nat → Int32) (o8 o9 : Option Value), i ≤ (2 ^ n) → (2 ^ n) < i + k → itr (oOut σ nm m x v n) 0 i = a → wd_G rS V ad K 10 (wd_Qm rS V ad K (wd_pi (fun r σ' => r = (if w = 0 then oV σ nm m x v n / nI (Nat.gcd A B) else pow10 n / nI (Nat.gcd A B)) ∧ scrR σ σ'))) 65 [some (.ref (ad 0)), some (.int x), some (.int y), some (.int z), some (.int v), some (.int w), some (.int a), some (.int (nI i)), o8, o9] [] (setR σ 10 r0) := by
    intro k
    induction k with
    | zero =>
      intro i a r0 o8 o9 h1 h2 hst
      exact absurd h2 (by omega)
    | succ k ih =>
      intro i a r0 o8 o9 h1 h2 hst
      refine wd_iload hC dX5_odds_65 rfl ?_
      refine wd_iconst (v := 1) hC dX5_odds_67 rfl ?_
      refine wd_iload_n hC dX5_odds_68 rfl rfl ?_
      refine wd_ishl hC dX5_odds_69 ?_
      refine wd_icmp_ge (tgt := 173) hC dX5_odds_70 (by decide) (fun c_70 => ?_) (fun c_70 => ?_)
      · have hin : i = _ := lp_ge (shl_ok hy hn) c_70 h1 (by omega)
        rw [hin] at hst
        replace hst : oV σ nm m x v n = a := hst
        refine wd_bipush (v := 10) hC dX5_odds_173 rfl ?_
        refine wd_iload_n hC dX5_odds_175 rfl rfl ?_
        refine cvsi hC cw_X5_187 (r_power hinj _ _ _ n hy (by omega)) dX5_odds_176 (by first | decide | omega) (by decide) rfl rfl (Nat.le_of_ble_eq_true rfl) ?_
        refine wd_istore_10_7 hC dX5_odds_179 ?_
        refine wd_iload hC dX5_odds_181 rfl ?_
        refine wd_iload hC dX5_odds_183 rfl ?_
        refine cvsi hC cw_X5_190 (r_gcd hinj _ _ _ A B (hst.symm.trans hA) hB hA2 hB2) dX5_odds_185 (by first | decide | omega) (by decide) rfl rfl (Nat.le_of_ble_eq_true rfl) ?_
        refine wd_istore_10_8 hC dX5_odds_188 ?_
        refine wd_iload hC dX5_odds_190 rfl ?_
        refine wd_if_ne (tgt := 203) hC dX5_odds_192 (by decide) (fun c_192 => ?_) (fun c_192 => ?_)
        · refine wd_iload hC dX5_odds_203 rfl ?_
          refine wd_iload hC dX5_odds_205 rfl ?_
          refine wd_idiv hC dX5_odds_207 (nI_ne0 hg0 hg2) ?_
          exact wd_iretP hC rfl dX5_odds_208 ((by first | exact ⟨_, rfl, (by rw [if_pos c_192, hst]), _, rfl⟩ | exact ⟨_, rfl, (by rw [if_neg c_192]; rfl), _, rfl⟩))
        · refine wd_iload hC dX5_odds_195 rfl ?_
          refine wd_iload hC dX5_odds_197 rfl ?_
          refine wd_idiv hC dX5_odds_199 (nI_ne0 hg0 hg2) ?_
          refine wd_goto (tgt := 208) hC dX5_odds_200 (by decide) ?_
          exact wd_iretP hC rfl dX5_odds_208 ((by first | exact ⟨_, rfl, (by rw [if_pos c_192, hst]), _, rfl⟩ | exact ⟨_, rfl, (by rw [if_neg c_192]; rfl), _, rfl⟩))
      · have hin : i < _ := lp_lt (shl_ok hy hn) c_70 h1 (by omega)
        refine wd_iconst (v := 1) hC dX5_odds_73 rfl ?_
        refine wd_istore_10_8 hC dX5_odds_74 ?_
        refine wd_aload_n hC dX5_odds_76 rfl rfl ?_
        refine cv5v hC cw_X5_169 (r_asNow hinj _) dX5_odds_77 (by first | decide | omega) (by decide) rfl rfl (Nat.le_of_ble_eq_true rfl) ?_
        refine wd_ts (set_cp σ _) ?_
        refine wd_iconst (v := 0) hC dX5_odds_80 rfl ?_
        refine wd_istore_10_9 hC dX5_odds_81 ?_
        have inner : ∀ (k b : Nat) (ch : Int32) (ri : Nat → Int32), b ≤ n → n < b + k → rOk (σ.1 3) ri nm nc → itr (oIn σ nm x i) (1, (σ.1 9)) b = (ch, ri) → wd_G rS V ad K 10 (wd_Qm rS V ad K (wd_pi (fun r σ' => r = (if w = 0 then oV σ nm m x v n / nI (Nat.gcd A B) else pow10 n / nI (Nat.gcd A B)) ∧ scrR σ σ'))) 83 [some (.ref (ad 0)), some (.int x), some (.int y), some (.int z), some (.int v), some (.int w), some (.int a), some (.int (nI i)), some (.int ch), some (.int (nI b))] [] (setR σ 10 ri) := by
          intro k
          induction k with
          | zero =>
            intro b ch ri h1b h2b hri hst2
            exact absurd h2b (by omega)
          | succ k ih2 =>
            intro b ch ri h1b h2b hri hst2
            refine wd_iload hC dX5_odds_83 rfl ?_
            refine wd_iload_n hC dX5_odds_85 rfl rfl ?_
            refine wd_icmp_ge (tgt := 142) hC dX5_odds_86 (by decide) (fun c_86 => ?_) (fun c_86 => ?_)
            · have hbn : b = _ := lp_ge hy c_86 h1b (by omega)
              subst hbn
              refine wd_iload hC dX5_odds_142 rfl ?_
              refine wd_aload_n hC dX5_odds_144 rfl rfl ?_
              refine gf_X5_37 hC dX5_odds_145 ?_
              refine wd_bipush (v := 24) hC dX5_odds_148 rfl ?_
              refine wd_iload_n hC dX5_odds_150 rfl rfl ?_
              refine wd_iadd hC dX5_odds_151 ?_
              refine rl_w hC dX5_odds_152 (24 + m) (addI hz 24) (by omega) ?_
              refine wd_vi (show _ = ri (24 + m) from (by rw [setR_k])) ?_
              refine wd_iload hC dX5_odds_153 rfl ?_
              refine wd_icmp_lt (tgt := 163) hC dX5_odds_155 (by decide) (fun c_155 => ?_) (fun c_155 => ?_)
              · refine wd_iconst (v := 0) hC dX5_odds_163 rfl ?_
                refine wd_iadd hC dX5_odds_164 ?_
                refine wd_istore_10_6 hC dX5_odds_165 ?_
                refine wd_iincN_10_7 hC dX5_odds_167 ?_
                refine wd_goto (tgt := 65) hC dX5_odds_170 (by decide) ?_
                exact ih (i + 1) _ _ _ _ (by omega) (by omega) (by rw [itr, hst, oOut, hst2]; first | exact if_pos c_155 | exact if_neg c_155)
              · refine wd_iload hC dX5_odds_158 rfl ?_
                refine wd_goto (tgt := 164) hC dX5_odds_160 (by decide) ?_
                refine wd_iadd hC dX5_odds_164 ?_
                refine wd_istore_10_6 hC dX5_odds_165 ?_
                refine wd_iincN_10_7 hC dX5_odds_167 ?_
                refine wd_goto (tgt := 65) hC dX5_odds_170 (by decide) ?_
                exact ih (i + 1) _ _ _ _ (by omega) (by omega) (by rw [itr, hst, oOut, hst2]; first | exact if_pos c_155 | exact if_neg c_155)
            · have hbn : b < _ := lp_lt hy c_86 h1b (by omega)
              refine wd_aload_n hC dX5_odds_89 rfl rfl ?_
              refine gf_X5_37 hC dX5_odds_90 ?_
              refine wd_bipush (v := 30) hC dX5_odds_93 rfl ?_
              refine wd_iload hC dX5_odds_95 rfl ?_
              refine wd_iload hC dX5_odds_97 rfl ?_
              refine wd_ishr hC dX5_odds_99 ?_
              refine wd_iconst (v := 1) hC dX5_odds_100 rfl ?_
              refine wd_iand hC dX5_odds_101 ?_
              refine rs_w hC dX5_odds_102 30 rfl (by decide) ?_
              refine wd_ts (setR_up _ _ _ _ _) ?_
              refine wd_iload hC dX5_odds_103 rfl ?_
              refine wd_aload_n hC dX5_odds_105 rfl rfl ?_
              refine gf_X5_37 hC dX5_odds_106 ?_
              refine wd_bipush (v := 30) hC dX5_odds_109 rfl ?_
              refine rl_w hC dX5_odds_111 30 rfl (by decide) ?_
              refine wd_vi (show _ = bit i b from (by rw [setR_k]; exact if_pos rfl)) ?_
              refine wd_iconst (v := 1) hC dX5_odds_112 rfl ?_
              refine wd_icmp_ne (tgt := 120) hC dX5_odds_113 (by decide) (fun c_113 => ?_) (fun c_113 => ?_)
              · refine wd_bipush (v := 10) hC dX5_odds_120 rfl ?_
                refine wd_iload_n hC dX5_odds_122 rfl rfl ?_
                refine wd_isub hC dX5_odds_123 ?_
                refine wd_imul hC dX5_odds_124 ?_
                refine wd_istore_10_8 hC dX5_odds_125 ?_
                refine wd_aload_n hC dX5_odds_127 rfl rfl ?_
                refine wd_aload_n hC dX5_odds_128 rfl rfl ?_
                refine gf_X5_37 hC dX5_odds_129 ?_
                refine cv5i hC cw_X5_165 (r_goes hinj σ 10 (Or.inr rfl) nm nc _ (rOk_30 hri (and1_01 _)) hnm) dX5_odds_132 (by first | decide | omega) (by decide) rfl rfl (Nat.le_of_ble_eq_true rfl) ?_
                refine wd_pop hC dX5_odds_135 rfl ?_
                refine wd_iincN_10_9 hC dX5_odds_136 ?_
                refine wd_goto (tgt := 83) hC dX5_odds_139 (by decide) ?_
                exact ih2 (b + 1) _ _ (by omega) (by omega) (rOk_eq (goR_eq σ h6) (rOk_30 hri (and1_01 _))) (by rw [itr, hst2, oIn]; first | rw [if_pos c_113] | rw [if_neg c_113])
              · refine wd_iload_n hC dX5_odds_116 rfl rfl ?_
                refine wd_goto (tgt := 124) hC dX5_odds_117 (by decide) ?_
                refine wd_imul hC dX5_odds_124 ?_
                refine wd_istore_10_8 hC dX5_odds_125 ?_
                refine wd_aload_n hC dX5_odds_127 rfl rfl ?_
                refine wd_aload_n hC dX5_odds_128 rfl rfl ?_
                refine gf_X5_37 hC dX5_odds_129 ?_
                refine cv5i hC cw_X5_165 (r_goes hinj σ 10 (Or.inr rfl) nm nc _ (rOk_30 hri (and1_01 _)) hnm) dX5_odds_132 (by first | decide | omega) (by decide) rfl rfl (Nat.le_of_ble_eq_true rfl) ?_
                refine wd_pop hC dX5_odds_135 rfl ?_
                refine wd_iincN_10_9 hC dX5_odds_136 ?_
                refine wd_goto (tgt := 83) hC dX5_odds_139 (by decide) ?_
                exact ih2 (b + 1) _ _ (by omega) (by omega) (rOk_eq (goR_eq σ h6) (rOk_30 hri (and1_01 _))) (by rw [itr, hst2, oIn]; first | rw [if_pos c_113] | rw [if_neg c_113])
        exact inner (n + 1) 0 _ _ (Nat.zero_le _) (by omega) hr rfl
  refine wd_aload_n hC dX5_odds_0 rfl rfl ?_
  refine wd_iconst (v := 0) hC dX5_odds_1 rfl ?_
  refine pf_X5_62 hC dX5_odds_2 ?_
  refine wd_ts (up_00 h0) ?_
  refine wd_iload_n hC dX5_odds_5 rfl rfl ?_
  refine wd_iconst (v := 0) hC dX5_odds_6 rfl ?_
  refine wd_bipush (v := 10) hC dX5_odds_7 rfl ?_
  refine cvsi hC cw_X5_66 (r_in hinj _ _ _ _) dX5_odds_9 (by first | decide | omega) (by decide) rfl rfl (Nat.le_of_ble_eq_true rfl) ?_
  refine wd_if_eq (tgt := 57) hC dX5_odds_12 (by decide) (fun c_12 => absurd c_12 (bIm hpx)) (fun c_12 => ?_)
  refine wd_iload_n hC dX5_odds_15 rfl rfl ?_
  refine wd_iconst (v := 0) hC dX5_odds_16 rfl ?_
  refine wd_bipush (v := 6) hC dX5_odds_17 rfl ?_
  refine cvsi hC cw_X5_66 (r_in hinj _ _ _ _) dX5_odds_19 (by first | decide | omega) (by decide) rfl rfl (Nat.le_of_ble_eq_true rfl) ?_
  refine wd_if_eq (tgt := 57) hC dX5_odds_22 (by decide) (fun c_22 => absurd c_22 (bIm (pin_of (k := 6) hy hn (by decide)))) (fun c_22 => ?_)
  refine wd_aload_n hC dX5_odds_25 rfl rfl ?_
  refine wd_iload_n hC dX5_odds_26 rfl rfl ?_
  refine cv5i hC cw_X5_134 (r_isMan hinj _ _) dX5_odds_27 (by first | decide | omega) (by decide) rfl rfl (Nat.le_of_ble_eq_true rfl) ?_
  refine wd_if_eq (tgt := 57) hC dX5_odds_30 (by decide) (fun c_30 => absurd c_30 (bIm (qm_of hnm hz hm h6))) (fun c_30 => ?_)
  refine wd_iload hC dX5_odds_33 rfl ?_
  refine wd_sipush (v := -9999) hC dX5_odds_35 rfl ?_
  refine wd_sipush (v := 9999) hC dX5_odds_38 rfl ?_
  refine cvsi hC cw_X5_66 (r_in hinj _ _ _ _) dX5_odds_41 (by first | decide | omega) (by decide) rfl rfl (Nat.le_of_ble_eq_true rfl) ?_
  refine wd_if_eq (tgt := 57) hC dX5_odds_44 (by decide) (fun c_44 => absurd c_44 (bIm hpv)) (fun c_44 => ?_)
  refine wd_iload hC dX5_odds_47 rfl ?_
  refine wd_iconst (v := 0) hC dX5_odds_49 rfl ?_
  refine wd_iconst (v := 1) hC dX5_odds_50 rfl ?_
  refine cvsi hC cw_X5_66 (r_in hinj _ _ _ _) dX5_odds_51 (by first | decide | omega) (by decide) rfl rfl (Nat.le_of_ble_eq_true rfl) ?_
  refine wd_if_ne (tgt := 59) hC dX5_odds_54 (by decide) (fun c_54 => ?_) (fun c_54 => absurd c_54 (bIm hpw))
  refine wd_iconst (v := 0) hC dX5_odds_59 rfl ?_
  refine wd_istore_10_6 hC dX5_odds_60 ?_
  refine wd_iconst (v := 0) hC dX5_odds_62 rfl ?_
  refine wd_istore_10_7 hC dX5_odds_63 ?_
  refine wd_ts (setR_self σ 10).symm ?_
  exact loop (2 ^ n + 1) 0 _ _ _ _ (Nat.zero_le _) (by omega) rfl

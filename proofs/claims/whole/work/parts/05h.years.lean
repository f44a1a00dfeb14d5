/-! ===== the reference: cut, fractions, years ===== -/
def rcS (σ : wd_S) (v x : Int32) (e : Nat) (z : Bool) : Bool := z && decide (¬ σ.1 14 e = x ∨ v = σ.1 15 e)
def rcV (σ : wd_S) (r : Nat → Int32) (m : Nat) (x : Int32) (ns nc : Nat) : Int32 := itr (fun c b => if itr (rcS σ (vTakes σ (upd r (oF r m) (nI c)) m) x) true ns = true then b ||| ((1 : Int32) <<< (nI c &&& 31)) else b ||| 0) 0 nc
theorem wd_is7a {sd : wd_Side} {V : wd_V} {ad : Nat → Nat} {K : wd_K} {nL : Nat} {Q : State → Prop} {pc : Nat} {a0 a1 a2 a3 a4 a6 : Option Value} {st : List Value} {σ : wd_S} {x : Int32} {z : Bool} (h : x = bI (z = true)) (k : wd_G sd V ad K nL Q pc [a0, a1, a2, a3, a4, some (.int (bI (z = true))), a6] st σ) : wd_G sd V ad K nL Q pc [a0, a1, a2, a3, a4, some (.int x), a6] st σ := h ▸ k

set_option maxRecDepth 100000 in
set_option maxHeartbeats 4000000 in
theorem r_cut_bad {V : wd_V} {ad : Nat → Nat} (hinj : wd_inj rS ad) (σ : wd_S) (h0 : σ.1 0 0 = 0) (x : Int32) (hB : ¬ qMan σ x) : wd_C rS V ad 2 yX5_cut (Cond.code yX5_cut cX5_cut 7 (some .int) :: wsL_law) σ [.ref (ad 0), .int x] (wd_eq (some (.int (-1))) (σ)) := by
  refine wd_intro (lv := [some (.ref (ad 0)), some (.int x), none, none, none, none, none]) hinj (by decide) rfl (Nat.le_of_ble_eq_true rfl) rfl (Nat.le_of_ble_eq_true rfl) (fun K hC => ?_)
  refine wd_aload_n hC dX5_cut_0 rfl rfl ?_
  refine wd_iconst (v := 0) hC dX5_cut_1 rfl ?_
  refine pf_X5_62 hC dX5_cut_2 ?_
  refine wd_ts (up_00 h0) ?_
  refine wd_aload_n hC dX5_cut_5 rfl rfl ?_
  refine wd_iload_n hC dX5_cut_6 rfl rfl ?_
  refine cv5i hC cw_X5_134 (r_isMan hinj _ _) dX5_cut_7 (by first | decide | omega) (by decide) rfl rfl (Nat.le_of_ble_eq_true rfl) ?_
  refine wd_if_ne (tgt := 15) hC dX5_cut_10 (by decide) (fun c_10 => ?_) (fun c_10 => ?_)
  · replace c_10 := bI_1.mp c_10
    exact absurd c_10 hB
  · replace c_10 := bI_0.mp c_10
    refine wd_iconst (v := -1) hC dX5_cut_13 rfl ?_
    exact wd_iret hC rfl dX5_cut_14 rfl rfl
set_option maxRecDepth 100000 in
set_option maxHeartbeats 4000000 in
theorem r_cut_alone {V : wd_V} {ad : Nat → Nat} (hinj : wd_inj rS ad) (σ : wd_S) (h0 : σ.1 0 0 = 0) (nm nc : Nat) (hnm : σ.1 2 1 = nI nm) (hnc : σ.1 2 0 = nI nc) (h6 : nm ≤ 6) (h3 : nc ≤ 3) (x : Int32) (m : Nat) (hx : x = nI m) (hm : m < nm) (hf : ¬ 0 ≤ σ.1 9 (6 + m) - 1) : wd_C rS V ad 2 yX5_cut (Cond.code yX5_cut cX5_cut 7 (some .int) :: wsL_law) σ [.ref (ad 0), .int x] (wd_eq (some (.int (0))) (setR σ 10 (σ.1 9))) := by
  refine wd_intro (lv := [some (.ref (ad 0)), some (.int x), none, none, none, none, none]) hinj (by decide) rfl (Nat.le_of_ble_eq_true rfl) rfl (Nat.le_of_ble_eq_true rfl) (fun K hC => ?_)
  refine wd_aload_n hC dX5_cut_0 rfl rfl ?_
  refine wd_iconst (v := 0) hC dX5_cut_1 rfl ?_
  refine pf_X5_62 hC dX5_cut_2 ?_
  refine wd_ts (up_00 h0) ?_
  refine wd_aload_n hC dX5_cut_5 rfl rfl ?_
  refine wd_iload_n hC dX5_cut_6 rfl rfl ?_
  refine cv5i hC cw_X5_134 (r_isMan hinj _ _) dX5_cut_7 (by first | decide | omega) (by decide) rfl rfl (Nat.le_of_ble_eq_true rfl) ?_
  refine wd_if_ne (tgt := 15) hC dX5_cut_10 (by decide) (fun c_10 => ?_) (fun c_10 => absurd c_10 (bIm (qm_of hnm hx hm h6)))
  refine wd_aload_n hC dX5_cut_15 rfl rfl ?_
  refine gf_X5_34 hC dX5_cut_16 ?_
  refine wd_bipush (v := 6) hC dX5_cut_19 rfl ?_
  refine wd_iload_n hC dX5_cut_21 rfl rfl ?_
  refine wd_iadd hC dX5_cut_22 ?_
  refine rl_s hC dX5_cut_23 (6 + m) (addI hx 6) (by omega) ?_
  refine wd_iconst (v := 1) hC dX5_cut_24 rfl ?_
  refine wd_isub hC dX5_cut_25 ?_
  refine wd_istore_n_7_2 hC dX5_cut_26 ?_
  refine wd_iconst (v := 0) hC dX5_cut_27 rfl ?_
  refine wd_istore_n_7_3 hC dX5_cut_28 ?_
  refine wd_aload_n hC dX5_cut_29 rfl rfl ?_
  refine cv5v hC cw_X5_169 (r_asNow hinj _) dX5_cut_30 (by first | decide | omega) (by decide) rfl rfl (Nat.le_of_ble_eq_true rfl) ?_
  refine wd_iconst (v := 0) hC dX5_cut_33 rfl ?_
  refine wd_istore_7_4 hC dX5_cut_34 ?_
  refine wd_iload hC dX5_cut_36 rfl ?_
  refine wd_aload_n hC dX5_cut_38 rfl rfl ?_
  refine gf_X5_13 hC dX5_cut_39 ?_
  refine wd_iconst (v := 0) hC dX5_cut_42 rfl ?_
  refine rl_many hC dX5_cut_43 0 rfl (by decide) ?_
  refine wd_icmp_ge (tgt := 146) hC dX5_cut_44 (by decide) (fun c_44 => ?_) (fun c_44 => ?_)
  · refine wd_iload_n hC dX5_cut_146 rfl rfl ?_
    exact wd_iret hC rfl dX5_cut_147 rfl rfl
  · refine wd_iload_n hC dX5_cut_47 rfl rfl ?_
    refine wd_if_lt (tgt := 146) hC dX5_cut_48 (by decide) (fun c_48 => ?_) (fun c_48 => absurd (i_nle hf) c_48)
    refine wd_iload_n hC dX5_cut_146 rfl rfl ?_
    exact wd_iret hC rfl dX5_cut_147 rfl rfl
set_option maxRecDepth 100000 in
set_option maxHeartbeats 4000000 in
theorem r_cut {V : wd_V} {ad : Nat → Nat} (hinj : wd_inj rS ad) (σ : wd_S) (h0 : σ.1 0 0 = 0) (nm nc : Nat) (hnm : σ.1 2 1 = nI nm) (hnc : σ.1 2 0 = nI nc) (h6 : nm ≤ 6) (h3 : nc ≤ 3) (hr : rOk (σ.1 3) (σ.1 9) nm nc) (x : Int32) (m : Nat) (hx : x = nI m) (hm : m < nm) (ns : Nat) (hns : σ.1 0 24 = nI ns) (hs5 : ns ≤ 5) (hf : 0 ≤ σ.1 9 (6 + m) - 1) : wd_C rS V ad 3 yX5_cut (Cond.code yX5_cut cX5_cut 7 (some .int) :: wsL_law) σ [.ref (ad 0), .int x] (wd_pi (fun r σ' => r = rcV σ (σ.1 9) m x ns nc ∧ scrR σ σ')) := by
  refine wd_intro (lv := [some (.ref (ad 0)), some (.int x), none, none, none, none, none]) hinj (by decide) rfl (Nat.le_of_ble_eq_true rfl) rfl (Nat.le_of_ble_eq_true rfl) (fun K hC => ?_)
  have loop : ∀ (k i : Nat) (v b : Int32) (o5 o6 : Option Value), i ≤ nc → nc < i + k → itr (fun c b => if itr (rcS σ (vTakes σ (upd (σ.1 9) (oF (σ.1 9) m) (nI c)) m) x) true ns = true then b ||| ((1 : Int32) <<< (nI c &&& 31)) else b ||| 0) 0 i = b → wd_G rS V ad K 7 (wd_Qm rS V ad K (wd_pi (fun r σ' => r = rcV σ (σ.1 9) m x ns nc ∧ scrR σ σ'))) 36 [some (.ref (ad 0)), some (.int x), some (.int ((σ.1 9) (6 + m) - 1)), some (.int b), some (.int (nI i)), o5, o6] [] (setR σ 10 (upd (σ.1 9) (oF (σ.1 9) m) v)) := by
    intro k
    induction k with
    | zero =>
      intro i v b o5 o6 h1 h2 hst
      exact absurd h2 (by omega)
    | succ k ih =>
      intro i v b o5 o6 h1 h2 hst
      refine wd_iload hC dX5_cut_36 rfl ?_
      refine wd_aload_n hC dX5_cut_38 rfl rfl ?_
      refine gf_X5_13 hC dX5_cut_39 ?_
      refine wd_iconst (v := 0) hC dX5_cut_42 rfl ?_
      refine rl_many hC dX5_cut_43 0 rfl (by decide) ?_
      refine wd_vi (show _ = nI nc from (by rw [many_set (by decide)]; exact hnc)) ?_
      refine wd_icmp_ge (tgt := 146) hC dX5_cut_44 (by decide) (fun c_44 => ?_) (fun c_44 => ?_)
      · have hin : _ = i := (lp_ge (n := nc) rfl c_44 h1 (by omega)).symm
        subst hin
        refine wd_iload_n hC dX5_cut_146 rfl rfl ?_
        exact wd_iretP hC rfl dX5_cut_147 (⟨_, rfl, hst.symm, _, rfl⟩)
      · have hin : i < nc := lp_lt (n := nc) rfl c_44 h1 (by omega)
        refine wd_iload_n hC dX5_cut_47 rfl rfl ?_
        refine wd_if_lt (tgt := 146) hC dX5_cut_48 (by decide) (fun c_48 => absurd c_48 (Int32.not_lt.mpr hf)) (fun c_48 => ?_)
        refine wd_aload_n hC dX5_cut_51 rfl rfl ?_
        refine gf_X5_37 hC dX5_cut_52 ?_
        refine wd_iconst (v := 0) hC dX5_cut_55 rfl ?_
        refine wd_iload_n hC dX5_cut_56 rfl rfl ?_
        refine wd_iadd hC dX5_cut_57 ?_
        refine wd_iload hC dX5_cut_58 rfl ?_
        refine rs_w hC dX5_cut_60 (oF (σ.1 9) m) (add0 (hr.o hm hf)) (by have := hr.ol hm hf; omega) ?_
        refine wd_ts (show _ = setR σ 10 (upd (σ.1 9) (oF (σ.1 9) m) (nI i)) from (by rw [setR_up, upd_upd])) ?_
        refine wd_iconst (v := 1) hC dX5_cut_61 rfl ?_
        refine wd_istore_7_5 hC dX5_cut_62 ?_
        refine wd_iconst (v := 0) hC dX5_cut_64 rfl ?_
        refine wd_istore_7_6 hC dX5_cut_65 ?_
        have inner : ∀ (k e : Nat) (z : Bool), e ≤ ns → ns < e + k → itr (rcS σ (vTakes σ (upd (σ.1 9) (oF (σ.1 9) m) (nI i)) m) x) true e = z → wd_G rS V ad K 7 (wd_Qm rS V ad K (wd_pi (fun r σ' => r = rcV σ (σ.1 9) m x ns nc ∧ scrR σ σ'))) 67 [some (.ref (ad 0)), some (.int x), some (.int ((σ.1 9) (6 + m) - 1)), some (.int b), some (.int (nI i)), some (.int (bI (z = true))), some (.int (nI e))] [] (setR σ 10 (upd (σ.1 9) (oF (σ.1 9) m) (nI i))) := by
          intro k
          induction k with
          | zero =>
            intro e z h1b h2b hst2
            exact absurd h2b (by omega)
          | succ k ih2 =>
            intro e z h1b h2b hst2
            refine wd_iload hC dX5_cut_67 rfl ?_
            refine wd_aload_n hC dX5_cut_69 rfl rfl ?_
            refine gf_X5_114 hC dX5_cut_70 ?_
            refine wd_vi (show _ = nI ns from (by rw [setR_n _ _ _ (by decide)]; exact hns)) ?_
            refine wd_icmp_ge (tgt := 124) hC dX5_cut_73 (by decide) (fun c_73 => ?_) (fun c_73 => ?_)
            · have hen : _ = e := (lp_ge (n := ns) rfl c_73 h1b (by omega)).symm
              subst hen
              refine wd_iload_n hC dX5_cut_124 rfl rfl ?_
              refine wd_iload hC dX5_cut_125 rfl ?_
              refine wd_if_eq (tgt := 137) hC dX5_cut_127 (by decide) (fun c_127 => ?_) (fun c_127 => ?_)
              · replace c_127 := bI_0.mp c_127
                refine wd_iconst (v := 0) hC dX5_cut_137 rfl ?_
                refine wd_ior hC dX5_cut_138 ?_
                refine wd_istore_n_7_3 hC dX5_cut_139 ?_
                refine wd_iincN_7_4 hC dX5_cut_140 ?_
                refine wd_goto (tgt := 36) hC dX5_cut_143 (by decide) ?_
                exact ih (i + 1) _ _ _ _ (by omega) (by omega) (by rw [itr, hst]; first | rw [if_pos (show itr _ true ns = true from hst2.trans c_127)] | rw [if_neg (show ¬ itr _ true ns = true from fun h => c_127 (hst2.symm.trans h))])
              · replace c_127 := bI_1.mp c_127
                refine wd_iconst (v := 1) hC dX5_cut_130 rfl ?_
                refine wd_iload hC dX5_cut_131 rfl ?_
                refine wd_ishl hC dX5_cut_133 ?_
                refine wd_goto (tgt := 138) hC dX5_cut_134 (by decide) ?_
                refine wd_ior hC dX5_cut_138 ?_
                refine wd_istore_n_7_3 hC dX5_cut_139 ?_
                refine wd_iincN_7_4 hC dX5_cut_140 ?_
                refine wd_goto (tgt := 36) hC dX5_cut_143 (by decide) ?_
                exact ih (i + 1) _ _ _ _ (by omega) (by omega) (by rw [itr, hst]; first | rw [if_pos (show itr _ true ns = true from hst2.trans c_127)] | rw [if_neg (show ¬ itr _ true ns = true from fun h => c_127 (hst2.symm.trans h))])
            · have hen : e < ns := lp_lt (n := ns) rfl c_73 h1b (by omega)
              refine wd_iload hC dX5_cut_76 rfl ?_
              refine wd_if_eq (tgt := 115) hC dX5_cut_78 (by decide) (fun c_78 => ?_) (fun c_78 => ?_)
              · replace c_78 := bI_0.mp c_78
                refine wd_iconst (v := 0) hC dX5_cut_115 rfl ?_
                refine wd_istore_7_5 hC dX5_cut_116 ?_
                refine wd_iincN_7_6 hC dX5_cut_118 ?_
                refine wd_goto (tgt := 67) hC dX5_cut_121 (by decide) ?_
                refine wd_is7a (show _ = bI (rcS σ (vTakes σ (upd (σ.1 9) (oF (σ.1 9) m) (nI i)) m) x e z = true) from (by first | exact hg_0 c_78 | exact hg_2 c_78 (Or.inl c_89) | exact hg_2 c_78 (Or.inr c_108) | exact hg_1 c_78 (fun h => h.elim (fun h => h c_89) (fun h => c_108 h)))) ?_
                exact ih2 (e + 1) _ (by omega) (by omega) (by rw [itr, hst2])
              · replace c_78 := bI_1.mp c_78
                refine wd_aload_n hC dX5_cut_81 rfl rfl ?_
                refine gf_X5_50 hC dX5_cut_82 ?_
                refine wd_iload hC dX5_cut_85 rfl ?_
                refine rl_stubbleOf hC dX5_cut_87 (e) rfl (by omega) ?_
                refine wd_vi (show _ = σ.1 14 e from (by rw [setR_n _ _ _ (by decide)])) ?_
                refine wd_iload_n hC dX5_cut_88 rfl rfl ?_
                refine wd_icmp_ne (tgt := 111) hC dX5_cut_89 (by decide) (fun c_89 => ?_) (fun c_89 => ?_)
                · refine wd_iconst (v := 1) hC dX5_cut_111 rfl ?_
                  refine wd_goto (tgt := 116) hC dX5_cut_112 (by decide) ?_
                  refine wd_istore_7_5 hC dX5_cut_116 ?_
                  refine wd_iincN_7_6 hC dX5_cut_118 ?_
                  refine wd_goto (tgt := 67) hC dX5_cut_121 (by decide) ?_
                  refine wd_is7a (show _ = bI (rcS σ (vTakes σ (upd (σ.1 9) (oF (σ.1 9) m) (nI i)) m) x e z = true) from (by first | exact hg_0 c_78 | exact hg_2 c_78 (Or.inl c_89) | exact hg_2 c_78 (Or.inr c_108) | exact hg_1 c_78 (fun h => h.elim (fun h => h c_89) (fun h => c_108 h)))) ?_
                  exact ih2 (e + 1) _ (by omega) (by omega) (by rw [itr, hst2])
                · refine wd_aload_n hC dX5_cut_92 rfl rfl ?_
                  refine wd_aload_n hC dX5_cut_93 rfl rfl ?_
                  refine gf_X5_37 hC dX5_cut_94 ?_
                  refine wd_iload_n hC dX5_cut_97 rfl rfl ?_
                  refine cv5i hC cw_X5_124 (r_takesR hinj σ 10 (Or.inr rfl) nm nc _ (rOk_upd hr (hr.ol hm hf) (by omega)) x m hx hm) dX5_cut_98 (by first | decide | omega) (by decide) rfl rfl (Nat.le_of_ble_eq_true rfl) ?_
                  refine wd_aload_n hC dX5_cut_101 rfl rfl ?_
                  refine gf_X5_53 hC dX5_cut_102 ?_
                  refine wd_iload hC dX5_cut_105 rfl ?_
                  refine rl_stubbleMany hC dX5_cut_107 (e) rfl (by omega) ?_
                  refine wd_vi (show _ = σ.1 15 e from (by rw [setR_n _ _ _ (by decide)])) ?_
                  refine wd_icmp_ne (tgt := 115) hC dX5_cut_108 (by decide) (fun c_108 => ?_) (fun c_108 => ?_)
                  · refine wd_iconst (v := 0) hC dX5_cut_115 rfl ?_
                    refine wd_istore_7_5 hC dX5_cut_116 ?_
                    refine wd_iincN_7_6 hC dX5_cut_118 ?_
                    refine wd_goto (tgt := 67) hC dX5_cut_121 (by decide) ?_
                    refine wd_is7a (show _ = bI (rcS σ (vTakes σ (upd (σ.1 9) (oF (σ.1 9) m) (nI i)) m) x e z = true) from (by first | exact hg_0 c_78 | exact hg_2 c_78 (Or.inl c_89) | exact hg_2 c_78 (Or.inr c_108) | exact hg_1 c_78 (fun h => h.elim (fun h => h c_89) (fun h => c_108 h)))) ?_
                    exact ih2 (e + 1) _ (by omega) (by omega) (by rw [itr, hst2])
                  · refine wd_iconst (v := 1) hC dX5_cut_111 rfl ?_
                    refine wd_goto (tgt := 116) hC dX5_cut_112 (by decide) ?_
                    refine wd_istore_7_5 hC dX5_cut_116 ?_
                    refine wd_iincN_7_6 hC dX5_cut_118 ?_
                    refine wd_goto (tgt := 67) hC dX5_cut_121 (by decide) ?_
                    refine wd_is7a (show _ = bI (rcS σ (vTakes σ (upd (σ.1 9) (oF (σ.1 9) m) (nI i)) m) x e z = true) from (by first | exact hg_0 c_78 | exact hg_2 c_78 (Or.inl c_89) | exact hg_2 c_78 (Or.inr c_108) | exact hg_1 c_78 (fun h => h.elim (fun h => h c_89) (fun h => c_108 h)))) ?_
                    exact ih2 (e + 1) _ (by omega) (by omega) (by rw [itr, hst2])
        exact inner (ns + 1) 0 true (Nat.zero_le _) (by omega) rfl
  refine wd_aload_n hC dX5_cut_0 rfl rfl ?_
  refine wd_iconst (v := 0) hC dX5_cut_1 rfl ?_
  refine pf_X5_62 hC dX5_cut_2 ?_
  refine wd_ts (up_00 h0) ?_
  refine wd_aload_n hC dX5_cut_5 rfl rfl ?_
  refine wd_iload_n hC dX5_cut_6 rfl rfl ?_
  refine cv5i hC cw_X5_134 (r_isMan hinj _ _) dX5_cut_7 (by first | decide | omega) (by decide) rfl rfl (Nat.le_of_ble_eq_true rfl) ?_
  refine wd_if_ne (tgt := 15) hC dX5_cut_10 (by decide) (fun c_10 => ?_) (fun c_10 => absurd c_10 (bIm (qm_of hnm hx hm h6)))
  refine wd_aload_n hC dX5_cut_15 rfl rfl ?_
  refine gf_X5_34 hC dX5_cut_16 ?_
  refine wd_bipush (v := 6) hC dX5_cut_19 rfl ?_
  refine wd_iload_n hC dX5_cut_21 rfl rfl ?_
  refine wd_iadd hC dX5_cut_22 ?_
  refine rl_s hC dX5_cut_23 (6 + m) (addI hx 6) (by omega) ?_
  refine wd_iconst (v := 1) hC dX5_cut_24 rfl ?_
  refine wd_isub hC dX5_cut_25 ?_
  refine wd_istore_n_7_2 hC dX5_cut_26 ?_
  refine wd_iconst (v := 0) hC dX5_cut_27 rfl ?_
  refine wd_istore_n_7_3 hC dX5_cut_28 ?_
  refine wd_aload_n hC dX5_cut_29 rfl rfl ?_
  refine cv5v hC cw_X5_169 (r_asNow hinj _) dX5_cut_30 (by first | decide | omega) (by decide) rfl rfl (Nat.le_of_ble_eq_true rfl) ?_
  refine wd_iconst (v := 0) hC dX5_cut_33 rfl ?_
  refine wd_istore_7_4 hC dX5_cut_34 ?_
  refine wd_ts (show setR σ 10 (σ.1 9) = setR σ 10 (upd (σ.1 9) (oF (σ.1 9) m) ((σ.1 9) (oF (σ.1 9) m))) from (by rw [upd_self])) ?_
  exact loop (nc + 1) 0 _ _ _ _ (Nat.zero_le _) (by omega) rfl
set_option maxRecDepth 100000 in
set_option maxHeartbeats 4000000 in
theorem r_power {V : wd_V} {ad : Nat → Nat} (hinj : wd_inj rS ad) (σ : wd_S) (x y : Int32) (n : Nat) (hy : y = nI n) (hn : n < 2 ^ 30) : wd_C rS V ad 0 yX5_power (Cond.code yX5_power cX5_power 4 (some .int) :: wsL_law) σ [.int x, .int y] (wd_eq (some (.int (itr (fun _ a => a * x) 1 n))) (σ)) := by
  refine wd_intro (lv := [some (.int x), some (.int y), none, none]) hinj (by decide) rfl (Nat.le_of_ble_eq_true rfl) rfl (Nat.le_of_ble_eq_true rfl) (fun K hC => ?_)
  have loop : ∀ (k i : Nat), i ≤ n → n < i + k → wd_G rS V ad K 4 (wd_Qm rS V ad K (wd_eq (some (.int (itr (fun _ a => a * x) 1 n))) σ)) 4 [some (.int x), some (.int y), some (.int (itr (fun _ a => a * x) 1 i)), some (.int (nI i))] [] σ := by
    intro k
    induction k with
    | zero =>
      intro i  h1 h2 
      exact absurd h2 (by omega)
    | succ k ih =>
      intro i  h1 h2 
      refine wd_iload_n hC dX5_power_4 rfl rfl ?_
      refine wd_iload_n hC dX5_power_5 rfl rfl ?_
      refine wd_icmp_ge (tgt := 19) hC dX5_power_6 (by decide) (fun c_6 => ?_) (fun c_6 => ?_)
      · have hin : _ = i := (lp_ge hy c_6 h1 (by omega)).symm
        subst hin
        refine wd_iload_n hC dX5_power_19 rfl rfl ?_
        exact wd_iret hC rfl dX5_power_20 rfl rfl
      · have hin : i < n := lp_lt hy c_6 h1 (by omega)
        refine wd_iload_n hC dX5_power_9 rfl rfl ?_
        refine wd_iload_n hC dX5_power_10 rfl rfl ?_
        refine wd_imul hC dX5_power_11 ?_
        refine wd_istore_n_4_2 hC dX5_power_12 ?_
        refine wd_iincN_4_3 hC dX5_power_13 ?_
        refine wd_goto (tgt := 4) hC dX5_power_16 (by decide) ?_
        exact ih (i + 1) (by omega) (by omega)
  refine wd_iconst (v := 1) hC dX5_power_0 rfl ?_
  refine wd_istore_n_4_2 hC dX5_power_1 ?_
  refine wd_iconst (v := 0) hC dX5_power_2 rfl ?_
  refine wd_istore_n_4_3 hC dX5_power_3 ?_
  exact loop (n + 1) 0 (Nat.zero_le _) (by omega)
set_option maxRecDepth 100000 in
set_option maxHeartbeats 4000000 in
theorem r_gcd {V : wd_V} {ad : Nat → Nat} (hinj : wd_inj rS ad) (σ : wd_S) (x y : Int32) (A B : Nat) (hx : x = nI A) (hy : y = nI B) (hA : A < 2 ^ 31) (hB : B < 2 ^ 31) : wd_C rS V ad 0 yX5_gcd (Cond.code yX5_gcd cX5_gcd 5 (some .int) :: wsL_law) σ [.int x, .int y] (wd_eq (some (.int (nI (Nat.gcd A B)))) (σ)) := by
  refine wd_intro (lv := [some (.int x), some (.int y), none, none, none]) hinj (by decide) rfl (Nat.le_of_ble_eq_true rfl) rfl (Nat.le_of_ble_eq_true rfl) (fun K hC => ?_)
  have loop : ∀ (b a : Nat) (o : Option Value), a < 2 ^ 31 → b < 2 ^ 31 → Nat.gcd a b = Nat.gcd A B → wd_G rS V ad K 5 (wd_Qm rS V ad K (wd_eq (some (.int (nI (Nat.gcd A B)))) σ)) 4 [some (.int x), some (.int y), some (.int (nI a)), some (.int (nI b)), o] [] σ := by
    intro b
    induction b using Nat.strongRecOn with
    | ind b ih =>
      intro a o ha hb hg
      refine wd_iload_n hC dX5_gcd_4 rfl rfl ?_
      refine wd_if_eq (tgt := 21) hC dX5_gcd_5 (by decide) (fun c_5 => ?_) (fun c_5 => ?_)
      · have e : b = 0 := by rcases Nat.eq_zero_or_pos b with h | h; exact h; exact absurd c_5 (nI_ne0 h hb)
        subst e
        refine wd_iload_n hC dX5_gcd_21 rfl rfl ?_
        exact wd_iret hC rfl dX5_gcd_22 (by rw [← hg, Nat.gcd_zero_right]) rfl
      · have hb0 : 0 < b := by rcases Nat.eq_zero_or_pos b with h | h; exact absurd (by rw [h]; rfl) c_5; exact h
        refine wd_iload_n hC dX5_gcd_8 rfl rfl ?_
        refine wd_iload_n hC dX5_gcd_9 rfl rfl ?_
        refine wd_irem hC dX5_gcd_10 (by exact c_5) ?_
        refine wd_vi (pk_rem ha hb0 hb) ?_
        refine wd_istore_5_4 hC dX5_gcd_11 ?_
        refine wd_iload_n hC dX5_gcd_13 rfl rfl ?_
        refine wd_istore_n_5_2 hC dX5_gcd_14 ?_
        refine wd_iload hC dX5_gcd_15 rfl ?_
        refine wd_istore_n_5_3 hC dX5_gcd_17 ?_
        refine wd_goto (tgt := 4) hC dX5_gcd_18 (by decide) ?_
        exact ih _ (Nat.mod_lt a hb0) b _ hb (by have := Nat.mod_lt a hb0; omega) (by rw [← hg, Nat.gcd_comm b (a % b), ← Nat.gcd_rec, Nat.gcd_comm])
  refine wd_iload_n hC dX5_gcd_0 rfl rfl ?_
  refine wd_vi hx ?_
  refine wd_istore_n_5_2 hC dX5_gcd_1 ?_
  refine wd_iload_n hC dX5_gcd_2 rfl rfl ?_
  refine wd_vi hy ?_
  refine wd_istore_n_5_3 hC dX5_gcd_3 ?_
  exact loop B A _ hA hB rfl
set_option maxRecDepth 100000 in
set_option maxHeartbeats 4000000 in
theorem r_share_bad {V : wd_V} {ad : Nat → Nat} (hinj : wd_inj rS ad) (σ : wd_S) (h0 : σ.1 0 0 = 0) (x y : Int32) (hB : ¬ (qMan σ x ∧ pIn y 0 1)) : wd_C rS V ad 2 yX5_share (Cond.code yX5_share cX5_share 4 (some .int) :: wsL_law) σ [.ref (ad 0), .int x, .int y] (wd_eq (some (.int (-1))) (σ)) := by
  refine wd_intro (lv := [some (.ref (ad 0)), some (.int x), some (.int y), none]) hinj (by decide) rfl (Nat.le_of_ble_eq_true rfl) rfl (Nat.le_of_ble_eq_true rfl) (fun K hC => ?_)
  refine wd_aload_n hC dX5_share_0 rfl rfl ?_
  refine wd_iconst (v := 0) hC dX5_share_1 rfl ?_
  refine pf_X5_62 hC dX5_share_2 ?_
  refine wd_ts (up_00 h0) ?_
  refine wd_aload_n hC dX5_share_5 rfl rfl ?_
  refine wd_iload_n hC dX5_share_6 rfl rfl ?_
  refine cv5i hC cw_X5_134 (r_isMan hinj _ _) dX5_share_7 (by first | decide | omega) (by decide) rfl rfl (Nat.le_of_ble_eq_true rfl) ?_
  refine wd_if_eq (tgt := 22) hC dX5_share_10 (by decide) (fun c_10 => ?_) (fun c_10 => ?_)
  · replace c_10 := bI_0.mp c_10
    refine wd_iconst (v := -1) hC dX5_share_22 rfl ?_
    exact wd_iret hC rfl dX5_share_23 rfl rfl
  · replace c_10 := bI_1.mp c_10
    refine wd_iload_n hC dX5_share_13 rfl rfl ?_
    refine wd_iconst (v := 0) hC dX5_share_14 rfl ?_
    refine wd_iconst (v := 1) hC dX5_share_15 rfl ?_
    refine cvsi hC cw_X5_66 (r_in hinj _ _ _ _) dX5_share_16 (by first | decide | omega) (by decide) rfl rfl (Nat.le_of_ble_eq_true rfl) ?_
    refine wd_if_ne (tgt := 24) hC dX5_share_19 (by decide) (fun c_19 => ?_) (fun c_19 => ?_)
    · replace c_19 := bI_1.mp c_19
      exact absurd ⟨c_10, c_19⟩ hB
    · replace c_19 := bI_0.mp c_19
      refine wd_iconst (v := -1) hC dX5_share_22 rfl ?_
      exact wd_iret hC rfl dX5_share_23 rfl rfl
set_option maxRecDepth 100000 in
set_option maxHeartbeats 4000000 in
theorem r_share_0 {V : wd_V} {ad : Nat → Nat} (hinj : wd_inj rS ad) (σ : wd_S) (h0 : σ.1 0 0 = 0) (nm nc : Nat) (hnm : σ.1 2 1 = nI nm) (hnc : σ.1 2 0 = nI nc) (h6 : nm ≤ 6) (h3 : nc ≤ 3) (hr : rOk (σ.1 3) (σ.1 9) nm nc) (x : Int32) (m : Nat) (hx : x = nI m) (hm : m < nm) (y : Int32) (hp : pIn y 0 1) (hz : vAll σ nm = 0) : wd_C rS V ad 5 yX5_share (Cond.code yX5_share cX5_share 4 (some .int) :: wsL_law) σ [.ref (ad 0), .int x, .int y] (wd_eq (some (.int (y))) (σ)) := by
  refine wd_intro (lv := [some (.ref (ad 0)), some (.int x), some (.int y), none]) hinj (by decide) rfl (Nat.le_of_ble_eq_true rfl) rfl (Nat.le_of_ble_eq_true rfl) (fun K hC => ?_)
  refine wd_aload_n hC dX5_share_0 rfl rfl ?_
  refine wd_iconst (v := 0) hC dX5_share_1 rfl ?_
  refine pf_X5_62 hC dX5_share_2 ?_
  refine wd_ts (up_00 h0) ?_
  refine wd_aload_n hC dX5_share_5 rfl rfl ?_
  refine wd_iload_n hC dX5_share_6 rfl rfl ?_
  refine cv5i hC cw_X5_134 (r_isMan hinj _ _) dX5_share_7 (by first | decide | omega) (by decide) rfl rfl (Nat.le_of_ble_eq_true rfl) ?_
  refine wd_if_eq (tgt := 22) hC dX5_share_10 (by decide) (fun c_10 => absurd c_10 (bIm (qm_of hnm hx hm h6))) (fun c_10 => ?_)
  refine wd_iload_n hC dX5_share_13 rfl rfl ?_
  refine wd_iconst (v := 0) hC dX5_share_14 rfl ?_
  refine wd_iconst (v := 1) hC dX5_share_15 rfl ?_
  refine cvsi hC cw_X5_66 (r_in hinj _ _ _ _) dX5_share_16 (by first | decide | omega) (by decide) rfl rfl (Nat.le_of_ble_eq_true rfl) ?_
  refine wd_if_ne (tgt := 24) hC dX5_share_19 (by decide) (fun c_19 => ?_) (fun c_19 => absurd c_19 (bIm hp))
  refine wd_aload_n hC dX5_share_24 rfl rfl ?_
  refine cv5i hC cw_X5_152 (r_hasAll hinj _ nm nc hr hnm) dX5_share_25 (by first | decide | omega) (by decide) rfl rfl (Nat.le_of_ble_eq_true rfl) ?_
  refine wd_if_ne (tgt := 33) hC dX5_share_28 (by decide) (fun c_28 => absurd hz c_28) (fun c_28 => ?_)
  refine wd_iload_n hC dX5_share_31 rfl rfl ?_
  exact wd_iret hC rfl dX5_share_32 rfl rfl
set_option maxRecDepth 100000 in
set_option maxHeartbeats 4000000 in
theorem r_share {V : wd_V} {ad : Nat → Nat} (hinj : wd_inj rS ad) (σ : wd_S) (h0 : σ.1 0 0 = 0) (nm nc : Nat) (hnm : σ.1 2 1 = nI nm) (hnc : σ.1 2 0 = nI nc) (h6 : nm ≤ 6) (h3 : nc ≤ 3) (hr : rOk (σ.1 3) (σ.1 9) nm nc) (x : Int32) (m : Nat) (hx : x = nI m) (hm : m < nm) (y : Int32) (hp : pIn y 0 1) (A B : Nat) (hA : vHas σ (σ.1 9) m = nI A) (hB : vAll σ nm = nI B) (hA2 : A < 2 ^ 31) (hB2 : B < 2 ^ 31) (hB0 : 0 < B) : wd_C rS V ad 5 yX5_share (Cond.code yX5_share cX5_share 4 (some .int) :: wsL_law) σ [.ref (ad 0), .int x, .int y] (wd_eq (some (.int (if y = 0 then vHas σ (σ.1 9) m / nI (Nat.gcd A B) else vAll σ nm / nI (Nat.gcd A B)))) (σ)) := by
  refine wd_intro (lv := [some (.ref (ad 0)), some (.int x), some (.int y), none]) hinj (by decide) rfl (Nat.le_of_ble_eq_true rfl) rfl (Nat.le_of_ble_eq_true rfl) (fun K hC => ?_)
  have hg0 : 0 < Nat.gcd A B := Nat.gcd_pos_of_pos_right A hB0
  have hg2 : Nat.gcd A B < 2 ^ 31 := Nat.lt_of_le_of_lt (Nat.gcd_le_right A hB0) hB2
  refine wd_aload_n hC dX5_share_0 rfl rfl ?_
  refine wd_iconst (v := 0) hC dX5_share_1 rfl ?_
  refine pf_X5_62 hC dX5_share_2 ?_
  refine wd_ts (up_00 h0) ?_
  refine wd_aload_n hC dX5_share_5 rfl rfl ?_
  refine wd_iload_n hC dX5_share_6 rfl rfl ?_
  refine cv5i hC cw_X5_134 (r_isMan hinj _ _) dX5_share_7 (by first | decide | omega) (by decide) rfl rfl (Nat.le_of_ble_eq_true rfl) ?_
  refine wd_if_eq (tgt := 22) hC dX5_share_10 (by decide) (fun c_10 => absurd c_10 (bIm (qm_of hnm hx hm h6))) (fun c_10 => ?_)
  refine wd_iload_n hC dX5_share_13 rfl rfl ?_
  refine wd_iconst (v := 0) hC dX5_share_14 rfl ?_
  refine wd_iconst (v := 1) hC dX5_share_15 rfl ?_
  refine cvsi hC cw_X5_66 (r_in hinj _ _ _ _) dX5_share_16 (by first | decide | omega) (by decide) rfl rfl (Nat.le_of_ble_eq_true rfl) ?_
  refine wd_if_ne (tgt := 24) hC dX5_share_19 (by decide) (fun c_19 => ?_) (fun c_19 => absurd c_19 (bIm hp))
  refine wd_aload_n hC dX5_share_24 rfl rfl ?_
  refine cv5i hC cw_X5_152 (r_hasAll hinj _ nm nc hr hnm) dX5_share_25 (by first | decide | omega) (by decide) rfl rfl (Nat.le_of_ble_eq_true rfl) ?_
  refine wd_if_ne (tgt := 33) hC dX5_share_28 (by decide) (fun c_28 => ?_) (fun c_28 => absurd c_28 (by rw [hB]; exact nI_ne0 hB0 hB2))
  refine wd_aload_n hC dX5_share_33 rfl rfl ?_
  refine wd_aload_n hC dX5_share_34 rfl rfl ?_
  refine gf_X5_34 hC dX5_share_35 ?_
  refine wd_iload_n hC dX5_share_38 rfl rfl ?_
  refine cv5i hC cw_X5_142 (r_hasBy hinj _ 9 (Or.inl rfl) nm nc hr x m hx hm) dX5_share_39 (by first | decide | omega) (by decide) rfl rfl (Nat.le_of_ble_eq_true rfl) ?_
  refine wd_aload_n hC dX5_share_42 rfl rfl ?_
  refine cv5i hC cw_X5_152 (r_hasAll hinj _ nm nc hr hnm) dX5_share_43 (by first | decide | omega) (by decide) rfl rfl (Nat.le_of_ble_eq_true rfl) ?_
  refine cvsi hC cw_X5_190 (r_gcd hinj _ _ _ A B hA hB hA2 hB2) dX5_share_46 (by first | decide | omega) (by decide) rfl rfl (Nat.le_of_ble_eq_true rfl) ?_
  refine wd_istore_n_4_3 hC dX5_share_49 ?_
  refine wd_iload_n hC dX5_share_50 rfl rfl ?_
  refine wd_if_ne (tgt := 68) hC dX5_share_51 (by decide) (fun c_51 => ?_) (fun c_51 => ?_)
  · refine wd_aload_n hC dX5_share_68 rfl rfl ?_
    refine cv5i hC cw_X5_152 (r_hasAll hinj _ nm nc hr hnm) dX5_share_69 (by first | decide | omega) (by decide) rfl rfl (Nat.le_of_ble_eq_true rfl) ?_
    refine wd_iload_n hC dX5_share_72 rfl rfl ?_
    refine wd_idiv hC dX5_share_73 (nI_ne0 hg0 hg2) ?_
    exact wd_iret hC rfl dX5_share_74 (by first | exact (if_pos c_51).symm | exact (if_neg c_51).symm) rfl
  · refine wd_aload_n hC dX5_share_54 rfl rfl ?_
    refine wd_aload_n hC dX5_share_55 rfl rfl ?_
    refine gf_X5_34 hC dX5_share_56 ?_
    refine wd_iload_n hC dX5_share_59 rfl rfl ?_
    refine cv5i hC cw_X5_142 (r_hasBy hinj _ 9 (Or.inl rfl) nm nc hr x m hx hm) dX5_share_60 (by first | decide | omega) (by decide) rfl rfl (Nat.le_of_ble_eq_true rfl) ?_
    refine wd_iload_n hC dX5_share_63 rfl rfl ?_
    refine wd_idiv hC dX5_share_64 (nI_ne0 hg0 hg2) ?_
    refine wd_goto (tgt := 74) hC dX5_share_65 (by decide) ?_
    exact wd_iret hC rfl dX5_share_74 (by first | exact (if_pos c_51).symm | exact (if_neg c_51).symm) rfl
theorem goR_eq (σ : wd_S) {r : Nat → Int32} {nm : Nat} (h6 : nm ≤ 6) : rEq r (goR σ r nm) := fun k hk => by
  unfold goR upd
  rw [if_neg (by omega)]
  exact grR_eq σ r nm h6 k hk
def rrL (σ : wd_S) (nm m : Nat) (v : Int32) : Nat → Nat → (Nat → Int32) → Int32
  | 0, _, _ => -9
  | k + 1, y, r => if r (24 + m) < v then rrL σ nm m v k (y + 1) (goR σ r nm) else nI y
def prL (σ : wd_S) (nm : Nat) : Nat → Nat → (Nat → Int32) → Int32
  | 0, _, _ => -9
  | k + 1, y, r => if ∀ j, j < nm → 0 ≤ r (24 + j) then prL σ nm k (y + 1) (goR σ r nm) else nI y
theorem rrL_s (σ : wd_S) (nm m : Nat) (v : Int32) {i : Nat} (h : i < 401) (r : Nat → Int32) : rrL σ nm m v (401 - i) i r = if r (24 + m) < v then rrL σ nm m v (401 - (i + 1)) (i + 1) (goR σ r nm) else nI i := by
  rw [show 401 - i = (401 - (i + 1)) + 1 by omega]
  rfl
theorem prL_s (σ : wd_S) (nm : Nat) {i : Nat} (h : i < 401) (r : Nat → Int32) : prL σ nm (401 - i) i r = if ∀ j, j < nm → 0 ≤ r (24 + j) then prL σ nm (401 - (i + 1)) (i + 1) (goR σ r nm) else nI i := by
  rw [show 401 - i = (401 - (i + 1)) + 1 by omega]
  rfl

set_option maxRecDepth 100000 in
set_option maxHeartbeats 4000000 in
theorem r_rich_bad {V : wd_V} {ad : Nat → Nat} (hinj : wd_inj rS ad) (σ : wd_S) (h0 : σ.1 0 0 = 0) (x y : Int32) (hB : ¬ (qMan σ x ∧ pIn y (-9999) 9999)) : wd_C rS V ad 2 yX5_rich (Cond.code yX5_rich cX5_rich 4 (some .int) :: wsL_law) σ [.ref (ad 0), .int x, .int y] (wd_eq (some (.int (-1))) (σ)) := by
  refine wd_intro (lv := [some (.ref (ad 0)), some (.int x), some (.int y), none]) hinj (by decide) rfl (Nat.le_of_ble_eq_true rfl) rfl (Nat.le_of_ble_eq_true rfl) (fun K hC => ?_)
  refine wd_aload_n hC dX5_rich_0 rfl rfl ?_
  refine wd_iconst (v := 0) hC dX5_rich_1 rfl ?_
  refine pf_X5_62 hC dX5_rich_2 ?_
  refine wd_ts (up_00 h0) ?_
  refine wd_aload_n hC dX5_rich_5 rfl rfl ?_
  refine wd_iload_n hC dX5_rich_6 rfl rfl ?_
  refine cv5i hC cw_X5_134 (r_isMan hinj _ _) dX5_rich_7 (by first | decide | omega) (by decide) rfl rfl (Nat.le_of_ble_eq_true rfl) ?_
  refine wd_if_eq (tgt := 26) hC dX5_rich_10 (by decide) (fun c_10 => ?_) (fun c_10 => ?_)
  · replace c_10 := bI_0.mp c_10
    refine wd_iconst (v := -1) hC dX5_rich_26 rfl ?_
    exact wd_iret hC rfl dX5_rich_27 rfl rfl
  · replace c_10 := bI_1.mp c_10
    refine wd_iload_n hC dX5_rich_13 rfl rfl ?_
    refine wd_sipush (v := -9999) hC dX5_rich_14 rfl ?_
    refine wd_sipush (v := 9999) hC dX5_rich_17 rfl ?_
    refine cvsi hC cw_X5_66 (r_in hinj _ _ _ _) dX5_rich_20 (by first | decide | omega) (by decide) rfl rfl (Nat.le_of_ble_eq_true rfl) ?_
    refine wd_if_ne (tgt := 28) hC dX5_rich_23 (by decide) (fun c_23 => ?_) (fun c_23 => ?_)
    · replace c_23 := bI_1.mp c_23
      exact absurd ⟨c_10, c_23⟩ hB
    · replace c_23 := bI_0.mp c_23
      refine wd_iconst (v := -1) hC dX5_rich_26 rfl ?_
      exact wd_iret hC rfl dX5_rich_27 rfl rfl
set_option maxRecDepth 100000 in
set_option maxHeartbeats 4000000 in
theorem r_rich {V : wd_V} {ad : Nat → Nat} (hinj : wd_inj rS ad) (σ : wd_S) (h0 : σ.1 0 0 = 0) (nm nc : Nat) (hnm : σ.1 2 1 = nI nm) (hnc : σ.1 2 0 = nI nc) (h6 : nm ≤ 6) (h3 : nc ≤ 3) (hr : rOk (σ.1 3) (σ.1 9) nm nc) (x : Int32) (m : Nat) (hx : x = nI m) (hm : m < nm) (y : Int32) (hp : pIn y (-9999) 9999) : wd_C rS V ad 5 yX5_rich (Cond.code yX5_rich cX5_rich 4 (some .int) :: wsL_law) σ [.ref (ad 0), .int x, .int y] (wd_pi (fun r σ' => r = rrL σ nm m y 401 0 (σ.1 9) ∧ scrR σ σ')) := by
  refine wd_intro (lv := [some (.ref (ad 0)), some (.int x), some (.int y), none]) hinj (by decide) rfl (Nat.le_of_ble_eq_true rfl) rfl (Nat.le_of_ble_eq_true rfl) (fun K hC => ?_)
  have loop : ∀ (k i : Nat) (ri : Nat → Int32), i ≤ 401 → 401 < i + k → rOk (σ.1 3) ri nm nc → rrL σ nm m y (401 - i) i ri = rrL σ nm m y 401 0 (σ.1 9) → wd_G rS V ad K 4 (wd_Qm rS V ad K (wd_pi (fun r σ' => r = rrL σ nm m y 401 0 (σ.1 9) ∧ scrR σ σ'))) 34 [some (.ref (ad 0)), some (.int x), some (.int y), some (.int (nI i))] [] (setR σ 10 ri) := by
    intro k
    induction k with
    | zero =>
      intro i ri h1 h2 hri hg
      exact absurd h2 (by omega)
    | succ k ih =>
      intro i ri h1 h2 hri hg
      refine wd_iload_n hC dX5_rich_34 rfl rfl ?_
      refine wd_sipush (v := 400) hC dX5_rich_35 rfl ?_
      refine wd_icmp_gt (tgt := 71) hC dX5_rich_38 (by decide) (fun c_38 => ?_) (fun c_38 => ?_)
      · have hin : i = 401 := lp_gt c_38 h1
        subst hin
        refine wd_bipush (v := -9) hC dX5_rich_71 rfl ?_
        exact wd_iretP hC rfl dX5_rich_73 (⟨_, rfl, hg, _, rfl⟩)
      · have hin : i < 401 := by rcases lp_le c_38 with h | h <;> omega
        rw [rrL_s _ _ _ _ hin] at hg
        refine wd_aload_n hC dX5_rich_41 rfl rfl ?_
        refine gf_X5_37 hC dX5_rich_42 ?_
        refine wd_bipush (v := 24) hC dX5_rich_45 rfl ?_
        refine wd_iload_n hC dX5_rich_47 rfl rfl ?_
        refine wd_iadd hC dX5_rich_48 ?_
        refine rl_w hC dX5_rich_49 (24 + m) (addI hx 24) (by omega) ?_
        refine wd_vi (show _ = ri (24 + m) from (by rw [setR_k])) ?_
        refine wd_iload_n hC dX5_rich_50 rfl rfl ?_
        refine wd_icmp_lt (tgt := 56) hC dX5_rich_51 (by decide) (fun c_51 => ?_) (fun c_51 => ?_)
        · replace hg := (if_pos c_51).symm.trans hg
          refine wd_aload_n hC dX5_rich_56 rfl rfl ?_
          refine wd_aload_n hC dX5_rich_57 rfl rfl ?_
          refine gf_X5_37 hC dX5_rich_58 ?_
          refine cv5i hC cw_X5_165 (r_goes hinj σ 10 (Or.inr rfl) nm nc ri hri hnm) dX5_rich_61 (by first | decide | omega) (by decide) rfl rfl (Nat.le_of_ble_eq_true rfl) ?_
          refine wd_pop hC dX5_rich_64 rfl ?_
          refine wd_iincN_4_3 hC dX5_rich_65 ?_
          refine wd_goto (tgt := 34) hC dX5_rich_68 (by decide) ?_
          exact ih (i + 1) _ (by omega) (by omega) (rOk_eq (goR_eq σ h6) hri) hg
        · replace hg := (if_neg c_51).symm.trans hg
          refine wd_iload_n hC dX5_rich_54 rfl rfl ?_
          exact wd_iretP hC rfl dX5_rich_55 (⟨_, rfl, hg, _, rfl⟩)
  refine wd_aload_n hC dX5_rich_0 rfl rfl ?_
  refine wd_iconst (v := 0) hC dX5_rich_1 rfl ?_
  refine pf_X5_62 hC dX5_rich_2 ?_
  refine wd_ts (up_00 h0) ?_
  refine wd_aload_n hC dX5_rich_5 rfl rfl ?_
  refine wd_iload_n hC dX5_rich_6 rfl rfl ?_
  refine cv5i hC cw_X5_134 (r_isMan hinj _ _) dX5_rich_7 (by first | decide | omega) (by decide) rfl rfl (Nat.le_of_ble_eq_true rfl) ?_
  refine wd_if_eq (tgt := 26) hC dX5_rich_10 (by decide) (fun c_10 => absurd c_10 (bIm (qm_of hnm hx hm h6))) (fun c_10 => ?_)
  refine wd_iload_n hC dX5_rich_13 rfl rfl ?_
  refine wd_sipush (v := -9999) hC dX5_rich_14 rfl ?_
  refine wd_sipush (v := 9999) hC dX5_rich_17 rfl ?_
  refine cvsi hC cw_X5_66 (r_in hinj _ _ _ _) dX5_rich_20 (by first | decide | omega) (by decide) rfl rfl (Nat.le_of_ble_eq_true rfl) ?_
  refine wd_if_ne (tgt := 28) hC dX5_rich_23 (by decide) (fun c_23 => ?_) (fun c_23 => absurd c_23 (bIm hp))
  refine wd_aload_n hC dX5_rich_28 rfl rfl ?_
  refine cv5v hC cw_X5_169 (r_asNow hinj _) dX5_rich_29 (by first | decide | omega) (by decide) rfl rfl (Nat.le_of_ble_eq_true rfl) ?_
  refine wd_iconst (v := 0) hC dX5_rich_32 rfl ?_
  refine wd_istore_n_4_3 hC dX5_rich_33 ?_
  exact loop 402 0 _ (by decide) (by decide) hr rfl
set_option maxRecDepth 100000 in
set_option maxHeartbeats 4000000 in
theorem r_poor {V : wd_V} {ad : Nat → Nat} (hinj : wd_inj rS ad) (σ : wd_S) (h0 : σ.1 0 0 = 0) (nm nc : Nat) (hnm : σ.1 2 1 = nI nm) (hnc : σ.1 2 0 = nI nc) (h6 : nm ≤ 6) (h3 : nc ≤ 3) (hr : rOk (σ.1 3) (σ.1 9) nm nc)  : wd_C rS V ad 5 yX5_poor (Cond.code yX5_poor cX5_poor 3 (some .int) :: wsL_law) σ [.ref (ad 0)] (wd_pi (fun r σ' => r = prL σ nm 401 0 (σ.1 9) ∧ scrR σ σ')) := by
  refine wd_intro (lv := [some (.ref (ad 0)), none, none]) hinj (by decide) rfl (Nat.le_of_ble_eq_true rfl) rfl (Nat.le_of_ble_eq_true rfl) (fun K hC => ?_)
  have loop : ∀ (k i : Nat) (ri : Nat → Int32) (o2 : Option Value), i ≤ 401 → 401 < i + k → rOk (σ.1 3) ri nm nc → prL σ nm (401 - i) i ri = prL σ nm 401 0 (σ.1 9) → wd_G rS V ad K 3 (wd_Qm rS V ad K (wd_pi (fun r σ' => r = prL σ nm 401 0 (σ.1 9) ∧ scrR σ σ'))) 11 [some (.ref (ad 0)), some (.int (nI i)), o2] [] (setR σ 10 ri) := by
    intro k
    induction k with
    | zero =>
      intro i ri o2 h1 h2 hri hg
      exact absurd h2 (by omega)
    | succ k ih =>
      intro i ri o2 h1 h2 hri hg
      refine wd_iload_n hC dX5_poor_11 rfl rfl ?_
      refine wd_sipush (v := 400) hC dX5_poor_12 rfl ?_
      refine wd_icmp_gt (tgt := 65) hC dX5_poor_15 (by decide) (fun c_15 => ?_) (fun c_15 => ?_)
      · have hin : i = 401 := lp_gt c_15 h1
        subst hin
        refine wd_bipush (v := -9) hC dX5_poor_65 rfl ?_
        exact wd_iretP hC rfl dX5_poor_67 (⟨_, rfl, hg, _, rfl⟩)
      · have hin : i < 401 := by rcases lp_le c_15 with h | h <;> omega
        rw [prL_s _ _ hin] at hg
        refine wd_iconst (v := 0) hC dX5_poor_18 rfl ?_
        refine wd_istore_n_3_2 hC dX5_poor_19 ?_
        have inner : ∀ (k j : Nat), j ≤ nm → nm < j + k → (∀ c, c < j → 0 ≤ ri (24 + c)) → wd_G rS V ad K 3 (wd_Qm rS V ad K (wd_pi (fun r σ' => r = prL σ nm 401 0 (σ.1 9) ∧ scrR σ σ'))) 20 [some (.ref (ad 0)), some (.int (nI i)), some (.int (nI j))] [] (setR σ 10 ri) := by
          intro k
          induction k with
          | zero =>
            intro j h1b h2b hall
            exact absurd h2b (by omega)
          | succ k ih2 =>
            intro j h1b h2b hall
            refine wd_iload_n hC dX5_poor_20 rfl rfl ?_
            refine wd_aload_n hC dX5_poor_21 rfl rfl ?_
            refine gf_X5_13 hC dX5_poor_22 ?_
            refine wd_iconst (v := 1) hC dX5_poor_25 rfl ?_
            refine rl_many hC dX5_poor_26 1 rfl (by decide) ?_
            refine wd_vi (show _ = nI nm from (by rw [many_set (by decide)]; exact hnm)) ?_
            refine wd_icmp_ge (tgt := 50) hC dX5_poor_27 (by decide) (fun c_27 => ?_) (fun c_27 => ?_)
            · have hjn : _ = j := (lp_ge (n := nm) rfl c_27 h1b (by omega)).symm
              subst hjn
              replace hg := (if_pos hall).symm.trans hg
              refine wd_aload_n hC dX5_poor_50 rfl rfl ?_
              refine wd_aload_n hC dX5_poor_51 rfl rfl ?_
              refine gf_X5_37 hC dX5_poor_52 ?_
              refine cv5i hC cw_X5_165 (r_goes hinj σ 10 (Or.inr rfl) nm nc ri hri hnm) dX5_poor_55 (by first | decide | omega) (by decide) rfl rfl (Nat.le_of_ble_eq_true rfl) ?_
              refine wd_pop hC dX5_poor_58 rfl ?_
              refine wd_iincN_3_1 hC dX5_poor_59 ?_
              refine wd_goto (tgt := 11) hC dX5_poor_62 (by decide) ?_
              exact ih (i + 1) _ _ (by omega) (by omega) (rOk_eq (goR_eq σ h6) hri) hg
            · have hjn : j < nm := lp_lt (n := nm) rfl c_27 h1b (by omega)
              refine wd_aload_n hC dX5_poor_30 rfl rfl ?_
              refine gf_X5_37 hC dX5_poor_31 ?_
              refine wd_bipush (v := 24) hC dX5_poor_34 rfl ?_
              refine wd_iload_n hC dX5_poor_36 rfl rfl ?_
              refine wd_iadd hC dX5_poor_37 ?_
              refine rl_w hC dX5_poor_38 (24 + j) (addI rfl 24) (by omega) ?_
              refine wd_vi (show _ = ri (24 + j) from (by rw [setR_k])) ?_
              refine wd_if_ge (tgt := 44) hC dX5_poor_39 (by decide) (fun c_39 => ?_) (fun c_39 => ?_)
              · refine wd_iincN_3_2 hC dX5_poor_44 ?_
                refine wd_goto (tgt := 20) hC dX5_poor_47 (by decide) ?_
                exact ih2 (j + 1) (by omega) (by omega) (fun c hc => by rcases (show c < j ∨ c = j by omega) with h | rfl; exact hall c h; exact c_39)
              · replace hg := (if_neg (fun h => c_39 (h j hjn))).symm.trans hg
                refine wd_iload_n hC dX5_poor_42 rfl rfl ?_
                exact wd_iretP hC rfl dX5_poor_43 (⟨_, rfl, hg, _, rfl⟩)
        exact inner (nm + 1) 0 (Nat.zero_le _) (by omega) (fun c hc => absurd hc (by omega))
  refine wd_aload_n hC dX5_poor_0 rfl rfl ?_
  refine wd_iconst (v := 0) hC dX5_poor_1 rfl ?_
  refine pf_X5_62 hC dX5_poor_2 ?_
  refine wd_ts (up_00 h0) ?_
  refine wd_aload_n hC dX5_poor_5 rfl rfl ?_
  refine cv5v hC cw_X5_169 (r_asNow hinj _) dX5_poor_6 (by first | decide | omega) (by decide) rfl rfl (Nat.le_of_ble_eq_true rfl) ?_
  refine wd_iconst (v := 0) hC dX5_poor_9 rfl ?_
  refine wd_istore_n_3_1 hC dX5_poor_10 ?_
  exact loop 402 0 _ _ (by decide) (by decide) hr rfl

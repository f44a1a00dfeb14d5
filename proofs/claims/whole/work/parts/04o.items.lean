/-! ===== items ===== -/
def itemP (L : Nat → Int32) (n : Nat) (U : Nat → Nat → Int32) (s b : Nat) (x : Int32) : Except Nat ((Nat → Nat → Int32) × Nat) :=
  if x = 1 then (if U 0 3 = 0 ∧ ¬ (3 : Int32) ≤ U 0 0 then (match cropP L n b with | .error f => .error f | .ok (w, v, b') => .ok (crU U (nCrops U) w v, b')) else .error s)
  else if x = 2 then (if ¬ U 0 0 ≤ 0 ∧ ¬ (6 : Int32) ≤ U 0 3 then (match manP L n (nCrops U) (U (7 + nMen U)) b with | .error f => .error f | .ok (s', l, d, r, b') => .ok (mnU U (nMen U) s' l d r, b')) else .error s)
  else .error s
def itsL (L : Nat → Int32) (n : Nat) : Nat → (Nat → Nat → Int32) → Nat → Nat → Except Nat (Nat × (Nat → Nat → Int32))
  | 0, U, _, i => .ok (i, U)
  | k + 1, U, b, i => if (nextT L n b 0).1 = 0 then .ok (i, U) else match itemP L n U (nextT L n b 0).2.1 (nextT L n b 0).2.2.1 (nextT L n b 0).1 with
    | .error f => .error f
    | .ok (U', b') => itsL L n k U' b' (i + 1)
theorem tOk_00 (U : Nat → Nat → Int32) : tOk (u2 (u2 U 0 0 0) 0 3 0) := ⟨⟨show (0 : Int32) ≤ 0 by decide, show (0 : Int32) < nI 7 by decide⟩, show (0 : Int32) ≤ 0 by decide, show (0 : Int32) < nI 4 by decide⟩
theorem tOk_cr {U : Nat → Nat → Int32} (h : tOk U) (hc : ¬ (3 : Int32) ≤ U 0 0) (c : Nat) (w v : Int32) : tOk (crU U c w v) := by
  refine ⟨h.1, ?_⟩
  show 0 ≤ U 0 0 + 1 ∧ U 0 0 + 1 < nI 4
  have h3 : nCrops U < 3 := by
    rcases Nat.lt_or_ge (nCrops U) 3 with h3 | h3
    · exact h3
    · exact absurd (by rw [h.c]; exact nI_le (a := 3) h3 (by have := h.c3; omega)) hc
  rw [h.c, show nI (nCrops U) + 1 = nI (nCrops U + 1) from nI_1 _]
  exact ⟨nI_pos' (by omega), nI_lt (by omega) (by decide)⟩
theorem tOk_mn {U : Nat → Nat → Int32} (h : tOk U) (hc : ¬ (6 : Int32) ≤ U 0 3) (m : Nat) (s l d : Int32) (r : Nat → Int32) : tOk (mnU U m s l d r) := by
  have e : ∀ i, ur (u2 (u2 (u2 U 3 m s) 4 m l) 5 m d) (7 + m) r 0 i = U 0 i := fun i => congrFun (if_neg (by omega)) i
  have h6 : nMen U < 6 := by
    rcases Nat.lt_or_ge (nMen U) 6 with h3 | h3
    · exact h3
    · exact absurd (by rw [h.m]; exact nI_le (a := 6) h3 (by have := h.m6; omega)) hc
  refine ⟨?_, ?_⟩
  · show 0 ≤ U 0 3 + 1 ∧ U 0 3 + 1 < nI 7
    rw [h.m, show nI (nMen U) + 1 = nI (nMen U + 1) from nI_1 _]
    exact ⟨nI_pos' (by omega), nI_lt (by omega) (by decide)⟩
  · show 0 ≤ ur (u2 (u2 (u2 U 3 m s) 4 m l) 5 m d) (7 + m) r 0 0 ∧ ur (u2 (u2 (u2 U 3 m s) 4 m l) 5 m d) (7 + m) r 0 0 < nI 4
    rw [e]
    exact h.2
theorem lt3_of {U : Nat → Nat → Int32} (h : tOk U) (hc : ¬ (3 : Int32) ≤ U 0 0) : nCrops U < 3 := by
  rcases Nat.lt_or_ge (nCrops U) 3 with h3 | h3
  · exact h3
  · exact absurd (by rw [h.c]; exact nI_le (a := 3) h3 (by have := h.c3; omega)) hc
theorem lt6_of {U : Nat → Nat → Int32} (h : tOk U) (hc : ¬ (6 : Int32) ≤ U 0 3) : nMen U < 6 := by
  rcases Nat.lt_or_ge (nMen U) 6 with h3 | h3
  · exact h3
  · exact absurd (by rw [h.m]; exact nI_le (a := 6) h3 (by have := h.m6; omega)) hc

theorem lp2_gt {i : Nat} (c : (200 : Int32) < nI i) (h : i ≤ 201) : i = 201 := by
  have := (nI_ltI (a := 200) (b := i) (by decide) (by omega)).mp c
  omega
theorem lp2_le {i : Nat} (c : ¬ (200 : Int32) < nI i) (h : i ≤ 201) : i < 201 := by
  rcases Nat.lt_or_ge i 201 with h2 | h2
  · exact h2
  · exact absurd (nI_lt (a := 200) (b := i) (by omega) (by omega)) c

set_option maxRecDepth 100000 in
set_option maxHeartbeats 4000000 in
theorem c_readInto {V : wd_V} {ad : Nat → Nat} (hinj : wd_inj cS ad) (σ : wd_S) (u : Nat) (hu : u < 2) (L : Nat → Int32) (hL : σ.1 2 = L) (n : Nat) (hn : σ.1 1 1 = nI n) (hn2 : n ≤ 200) (U : Nat → Nat → Int32) (s0 b0 q : Int32) : wd_C cS V ad 6 yX2_readInto (Cond.code yX2_readInto cX2_readInto 7 (some .int) :: wsL_law) (stQ σ u U s0 b0 q) [.ref (ad 1), .ref (ad (ct u))] (wd_pi (fun r σ' => (∃ it U' s' b' q', itsL L n 201 (u2 (u2 U 0 0 0) 0 3 0) 0 0 = .ok (it, U') ∧ it ≤ 201 ∧ tOk U' ∧ r = nI it ∧ σ' = stQ σ u U' s' b' q') ∨ (∃ f U' b' q', itsL L n 201 (u2 (u2 U 0 0 0) 0 3 0) 0 0 = .error f ∧ f ≤ n ∧ r = -10 - nI f ∧ σ' = stQ σ u U' (nI f) b' q'))) := by
  refine wd_intro (lv := [some (.ref (ad 1)), some (.ref (ad (ct u))), none, none, none, none, none]) hinj (by decide) rfl (Nat.le_of_ble_eq_true rfl) rfl (Nat.le_of_ble_eq_true rfl) (fun K hC => ?_)
  have hLU : ∀ W : Nat → Nat → Int32, (stU σ u W).1 2 = L := fun W => by rw [stU_lo _ _ _ (by decide), hL]
  have hnU : ∀ W : Nat → Nat → Int32, (stU σ u W).1 1 1 = nI n := fun W => by rw [stU_lo _ _ _ (by decide), hn]
  have loop : ∀ (k i : Nat) (Ui : Nat → Nat → Int32) (bi : Nat) (s1 q1 : Int32) (o4 o5 o6 : Option Value), i ≤ 201 → 201 < i + k → bi ≤ n → tOk Ui → itsL L n (201 - i) Ui bi i = itsL L n 201 (u2 (u2 U 0 0 0) 0 3 0) 0 0 → wd_G cS V ad K 7 (wd_Qm cS V ad K (wd_pi (fun r σ' => (∃ it U' s' b' q', itsL L n 201 (u2 (u2 U 0 0 0) 0 3 0) 0 0 = .ok (it, U') ∧ it ≤ 201 ∧ tOk U' ∧ r = nI it ∧ σ' = stQ σ u U' s' b' q') ∨ (∃ f U' b' q', itsL L n 201 (u2 (u2 U 0 0 0) 0 3 0) 0 0 = .error f ∧ f ≤ n ∧ r = -10 - nI f ∧ σ' = stQ σ u U' (nI f) b' q')))) 19 [some (.ref (ad 1)), some (.ref (ad (ct u))), some (.int (nI i)), some (.int (nI i)), o4, o5, o6] [] (stQ σ u Ui s1 (nI bi) q1) := by
    intro k
    induction k with
    | zero =>
      intro i Ui bi s1 q1 o4 o5 o6 h1 h2 hbi hTi hst
      exact absurd h2 (by omega)
    | succ k ih =>
      intro i Ui bi s1 q1 o4 o5 o6 h1 h2 hbi hTi hst
      refine wd_iload_n hC dX2_readInto_19 rfl rfl ?_
      refine wd_sipush (v := 200) hC dX2_readInto_20 rfl ?_
      refine wd_icmp_gt (tgt := 140) hC dX2_readInto_23 (by decide) (fun c_23 => ?_) (fun c_23 => ?_)
      · have hin : i = 201 := lp2_gt c_23 h1
        replace hst : Except.ok (i, Ui) = itsL L n 201 (u2 (u2 U 0 0 0) 0 3 0) 0 0 := by rw [← hst, hin]; rfl
        refine wd_iload_n hC dX2_readInto_140 rfl rfl ?_
        exact wd_iretP hC rfl dX2_readInto_141 (⟨_, rfl, Or.inl ⟨i, Ui, _, _, _, hst.symm, (by omega), hTi, rfl, rfl⟩⟩)
      · have hin : i < 201 := lp2_le c_23 h1
        rw [show 201 - i = (201 - (i + 1)) + 1 by omega, itsL, ← (nextT_q L n bi q1).1, ← (nextT_q L n bi q1).2.1, ← (nextT_q L n bi q1).2.2.1] at hst
        refine wd_aload_n hC dX2_readInto_26 rfl rfl ?_
        refine cv2i hC cw_X2_27 (c_nextToken hinj (stU σ u _) L (hLU _) n (hnU _) hn2 _ hbi _ _) dX2_readInto_27 (by first | decide | omega) (by decide) rfl rfl (Nat.le_of_ble_eq_true rfl) ?_
        refine wd_ts (show _ = stQ σ u Ui (nI (nextT L n bi q1).2.1) (nI (nextT L n bi q1).2.2.1) (nextT L n bi q1).2.2.2 from rfl) ?_
        refine wd_istore_7_4 hC dX2_readInto_30 ?_
        refine wd_iload hC dX2_readInto_32 rfl ?_
        refine wd_if_ne (tgt := 40) hC dX2_readInto_34 (by decide) (fun c_34 => ?_) (fun c_34 => ?_)
        · rw [if_neg c_34] at hst
          refine wd_iload hC dX2_readInto_40 rfl ?_
          refine wd_iconst (v := 1) hC dX2_readInto_42 rfl ?_
          refine wd_icmp_ne (tgt := 65) hC dX2_readInto_43 (by decide) (fun c_43 => ?_) (fun c_43 => ?_)
          · refine wd_iconst (v := 0) hC dX2_readInto_65 rfl ?_
            refine wd_istore_7_5 hC dX2_readInto_66 ?_
            refine wd_iload hC dX2_readInto_68 rfl ?_
            refine wd_iconst (v := 2) hC dX2_readInto_70 rfl ?_
            refine wd_icmp_ne (tgt := 94) hC dX2_readInto_71 (by decide) (fun c_71 => ?_) (fun c_71 => ?_)
            · refine wd_iconst (v := 0) hC dX2_readInto_94 rfl ?_
              refine wd_istore_7_6 hC dX2_readInto_95 ?_
              refine wd_iload hC dX2_readInto_97 rfl ?_
              refine wd_if_eq (tgt := 110) hC dX2_readInto_99 (by decide) (fun c_99 => ?_) (fun c_99 => absurd (by decide) c_99)
              refine wd_iload hC dX2_readInto_110 rfl ?_
              refine wd_if_eq (tgt := 123) hC dX2_readInto_112 (by decide) (fun c_112 => ?_) (fun c_112 => absurd (by decide) c_112)
              have he : itemP L n Ui (nextT L n bi q1).2.1 (nextT L n bi q1).2.2.1 (nextT L n bi q1).1 = .error (nextT L n bi q1).2.1 := by simp only [itemP, if_neg c_43, if_neg c_71]
              rw [he] at hst
              refine wd_bipush (v := -10) hC dX2_readInto_123 rfl ?_
              refine wd_aload_n hC dX2_readInto_125 rfl rfl ?_
              refine gf_X2_38 hC dX2_readInto_126 ?_
              refine wd_isub hC dX2_readInto_129 ?_
              exact wd_iretP hC rfl dX2_readInto_130 (⟨_, rfl, Or.inr ⟨_, Ui, _, _, hst.symm, (nextT_le L hbi _).1, rfl, rfl⟩⟩)
            · refine wd_aload_n hC dX2_readInto_74 rfl rfl ?_
              refine gf_X2_15 hC dX2_readInto_75 ?_
              refine wd_vi (stQ_0 _ _ _ _ _ _) ?_
              refine wd_if_le (tgt := 94) hC dX2_readInto_78 (by decide) (fun c_78 => ?_) (fun c_78 => ?_)
              · refine wd_iconst (v := 0) hC dX2_readInto_94 rfl ?_
                refine wd_istore_7_6 hC dX2_readInto_95 ?_
                refine wd_iload hC dX2_readInto_97 rfl ?_
                refine wd_if_eq (tgt := 110) hC dX2_readInto_99 (by decide) (fun c_99 => ?_) (fun c_99 => absurd (by decide) c_99)
                refine wd_iload hC dX2_readInto_110 rfl ?_
                refine wd_if_eq (tgt := 123) hC dX2_readInto_112 (by decide) (fun c_112 => ?_) (fun c_112 => absurd (by decide) c_112)
                have he : itemP L n Ui (nextT L n bi q1).2.1 (nextT L n bi q1).2.2.1 (nextT L n bi q1).1 = .error (nextT L n bi q1).2.1 := by simp only [itemP, if_neg c_43, if_pos c_71, if_neg (show ¬ (¬ Ui 0 0 ≤ 0 ∧ ¬ (6 : Int32) ≤ Ui 0 3) from fun h => h.1 c_78)]
                rw [he] at hst
                refine wd_bipush (v := -10) hC dX2_readInto_123 rfl ?_
                refine wd_aload_n hC dX2_readInto_125 rfl rfl ?_
                refine gf_X2_38 hC dX2_readInto_126 ?_
                refine wd_isub hC dX2_readInto_129 ?_
                exact wd_iretP hC rfl dX2_readInto_130 (⟨_, rfl, Or.inr ⟨_, Ui, _, _, hst.symm, (nextT_le L hbi _).1, rfl, rfl⟩⟩)
              · refine wd_aload_n hC dX2_readInto_81 rfl rfl ?_
                refine gf_X2_21 hC dX2_readInto_82 ?_
                refine wd_vi (stQ_0 _ _ _ _ _ _) ?_
                refine wd_bipush (v := 6) hC dX2_readInto_85 rfl ?_
                refine wd_icmp_ge (tgt := 94) hC dX2_readInto_87 (by decide) (fun c_87 => ?_) (fun c_87 => ?_)
                · refine wd_iconst (v := 0) hC dX2_readInto_94 rfl ?_
                  refine wd_istore_7_6 hC dX2_readInto_95 ?_
                  refine wd_iload hC dX2_readInto_97 rfl ?_
                  refine wd_if_eq (tgt := 110) hC dX2_readInto_99 (by decide) (fun c_99 => ?_) (fun c_99 => absurd (by decide) c_99)
                  refine wd_iload hC dX2_readInto_110 rfl ?_
                  refine wd_if_eq (tgt := 123) hC dX2_readInto_112 (by decide) (fun c_112 => ?_) (fun c_112 => absurd (by decide) c_112)
                  have he : itemP L n Ui (nextT L n bi q1).2.1 (nextT L n bi q1).2.2.1 (nextT L n bi q1).1 = .error (nextT L n bi q1).2.1 := by simp only [itemP, if_neg c_43, if_pos c_71, if_neg (show ¬ (¬ Ui 0 0 ≤ 0 ∧ ¬ (6 : Int32) ≤ Ui 0 3) from fun h => h.2 c_87)]
                  rw [he] at hst
                  refine wd_bipush (v := -10) hC dX2_readInto_123 rfl ?_
                  refine wd_aload_n hC dX2_readInto_125 rfl rfl ?_
                  refine gf_X2_38 hC dX2_readInto_126 ?_
                  refine wd_isub hC dX2_readInto_129 ?_
                  exact wd_iretP hC rfl dX2_readInto_130 (⟨_, rfl, Or.inr ⟨_, Ui, _, _, hst.symm, (nextT_le L hbi _).1, rfl, rfl⟩⟩)
                · refine wd_iconst (v := 1) hC dX2_readInto_90 rfl ?_
                  refine wd_goto (tgt := 95) hC dX2_readInto_91 (by decide) ?_
                  refine wd_istore_7_6 hC dX2_readInto_95 ?_
                  refine wd_iload hC dX2_readInto_97 rfl ?_
                  refine wd_if_eq (tgt := 110) hC dX2_readInto_99 (by decide) (fun c_99 => ?_) (fun c_99 => absurd (by decide) c_99)
                  refine wd_iload hC dX2_readInto_110 rfl ?_
                  refine wd_if_eq (tgt := 123) hC dX2_readInto_112 (by decide) (fun c_112 => absurd c_112 (by decide)) (fun c_112 => ?_)
                  refine wd_aload_n hC dX2_readInto_115 rfl rfl ?_
                  refine wd_aload_n hC dX2_readInto_116 rfl rfl ?_
                  refine cv2iP hC cw_X2_35 (c_readMan hinj σ u hu L hL n hn hn2 Ui _ (nextT_le L hbi _).2 _ _ (nCrops Ui) (nMen Ui) hTi.c hTi.c3 hTi.m (lt6_of hTi c_87)) dX2_readInto_117 (by first | decide | omega) (by decide) rfl rfl (Nat.le_of_ble_eq_true rfl) (fun r_117 σ_117 h_117 => ?_)
                  refine wd_if_ne (tgt := 131) hC dX2_readInto_120 (by decide) (fun c_120 => ?_) (fun c_120 => ?_)
                  · obtain ⟨s3, l, d, row, b2, s2, q2, he0, hr, hb2, rfl⟩ := h_117.resolve_right (fun ⟨_, _, _, _, _, _, hr, _⟩ => c_120 hr)
                    have he : itemP L n Ui (nextT L n bi q1).2.1 (nextT L n bi q1).2.2.1 (nextT L n bi q1).1 = .ok (mnU Ui (nMen Ui) s3 l d row, b2) := by simp only [itemP, if_neg c_43, if_pos c_71, if_pos (show ¬ Ui 0 0 ≤ 0 ∧ ¬ (6 : Int32) ≤ Ui 0 3 from ⟨c_78, c_87⟩), he0]
                    rw [he] at hst
                    have hT2 := tOk_mn hTi c_87 (nMen Ui) s3 l d row
                    refine wd_iincN_7_2 hC dX2_readInto_131 ?_
                    refine wd_iincN_7_3 hC dX2_readInto_134 ?_
                    refine wd_goto (tgt := 19) hC dX2_readInto_137 (by decide) ?_
                    exact ih (i + 1) _ _ _ _ _ _ _ (by omega) (by omega) hb2 hT2 hst
                  · obtain ⟨f, U2, b2, q2, he0, hf, hr, rfl⟩ := h_117.resolve_left (fun ⟨_, _, _, _, _, _, _, _, hr, _⟩ => absurd (hr.symm.trans c_120) (by decide))
                    have he : itemP L n Ui (nextT L n bi q1).2.1 (nextT L n bi q1).2.2.1 (nextT L n bi q1).1 = .error f := by simp only [itemP, if_neg c_43, if_pos c_71, if_pos (show ¬ Ui 0 0 ≤ 0 ∧ ¬ (6 : Int32) ≤ Ui 0 3 from ⟨c_78, c_87⟩), he0]
                    rw [he] at hst
                    refine wd_bipush (v := -10) hC dX2_readInto_123 rfl ?_
                    refine wd_aload_n hC dX2_readInto_125 rfl rfl ?_
                    refine gf_X2_38 hC dX2_readInto_126 ?_
                    refine wd_isub hC dX2_readInto_129 ?_
                    exact wd_iretP hC rfl dX2_readInto_130 (⟨_, rfl, Or.inr ⟨f, U2, _, _, hst.symm, hf, rfl, rfl⟩⟩)
          · refine wd_aload_n hC dX2_readInto_46 rfl rfl ?_
            refine gf_X2_21 hC dX2_readInto_47 ?_
            refine wd_vi (stQ_0 _ _ _ _ _ _) ?_
            refine wd_if_ne (tgt := 65) hC dX2_readInto_50 (by decide) (fun c_50 => ?_) (fun c_50 => ?_)
            · refine wd_iconst (v := 0) hC dX2_readInto_65 rfl ?_
              refine wd_istore_7_5 hC dX2_readInto_66 ?_
              refine wd_iload hC dX2_readInto_68 rfl ?_
              refine wd_iconst (v := 2) hC dX2_readInto_70 rfl ?_
              refine wd_icmp_ne (tgt := 94) hC dX2_readInto_71 (by decide) (fun c_71 => ?_) (fun c_71 => ?_)
              · refine wd_iconst (v := 0) hC dX2_readInto_94 rfl ?_
                refine wd_istore_7_6 hC dX2_readInto_95 ?_
                refine wd_iload hC dX2_readInto_97 rfl ?_
                refine wd_if_eq (tgt := 110) hC dX2_readInto_99 (by decide) (fun c_99 => ?_) (fun c_99 => absurd (by decide) c_99)
                refine wd_iload hC dX2_readInto_110 rfl ?_
                refine wd_if_eq (tgt := 123) hC dX2_readInto_112 (by decide) (fun c_112 => ?_) (fun c_112 => absurd (by decide) c_112)
                have he : itemP L n Ui (nextT L n bi q1).2.1 (nextT L n bi q1).2.2.1 (nextT L n bi q1).1 = .error (nextT L n bi q1).2.1 := by simp only [itemP, if_pos c_43, if_neg (show ¬ (Ui 0 3 = 0 ∧ ¬ (3 : Int32) ≤ Ui 0 0) from fun h => c_50 h.1)]
                rw [he] at hst
                refine wd_bipush (v := -10) hC dX2_readInto_123 rfl ?_
                refine wd_aload_n hC dX2_readInto_125 rfl rfl ?_
                refine gf_X2_38 hC dX2_readInto_126 ?_
                refine wd_isub hC dX2_readInto_129 ?_
                exact wd_iretP hC rfl dX2_readInto_130 (⟨_, rfl, Or.inr ⟨_, Ui, _, _, hst.symm, (nextT_le L hbi _).1, rfl, rfl⟩⟩)
              · exact absurd (c_43.symm.trans c_71) (by decide)
            · refine wd_aload_n hC dX2_readInto_53 rfl rfl ?_
              refine gf_X2_15 hC dX2_readInto_54 ?_
              refine wd_vi (stQ_0 _ _ _ _ _ _) ?_
              refine wd_iconst (v := 3) hC dX2_readInto_57 rfl ?_
              refine wd_icmp_ge (tgt := 65) hC dX2_readInto_58 (by decide) (fun c_58 => ?_) (fun c_58 => ?_)
              · refine wd_iconst (v := 0) hC dX2_readInto_65 rfl ?_
                refine wd_istore_7_5 hC dX2_readInto_66 ?_
                refine wd_iload hC dX2_readInto_68 rfl ?_
                refine wd_iconst (v := 2) hC dX2_readInto_70 rfl ?_
                refine wd_icmp_ne (tgt := 94) hC dX2_readInto_71 (by decide) (fun c_71 => ?_) (fun c_71 => ?_)
                · refine wd_iconst (v := 0) hC dX2_readInto_94 rfl ?_
                  refine wd_istore_7_6 hC dX2_readInto_95 ?_
                  refine wd_iload hC dX2_readInto_97 rfl ?_
                  refine wd_if_eq (tgt := 110) hC dX2_readInto_99 (by decide) (fun c_99 => ?_) (fun c_99 => absurd (by decide) c_99)
                  refine wd_iload hC dX2_readInto_110 rfl ?_
                  refine wd_if_eq (tgt := 123) hC dX2_readInto_112 (by decide) (fun c_112 => ?_) (fun c_112 => absurd (by decide) c_112)
                  have he : itemP L n Ui (nextT L n bi q1).2.1 (nextT L n bi q1).2.2.1 (nextT L n bi q1).1 = .error (nextT L n bi q1).2.1 := by simp only [itemP, if_pos c_43, if_neg (show ¬ (Ui 0 3 = 0 ∧ ¬ (3 : Int32) ≤ Ui 0 0) from fun h => h.2 c_58)]
                  rw [he] at hst
                  refine wd_bipush (v := -10) hC dX2_readInto_123 rfl ?_
                  refine wd_aload_n hC dX2_readInto_125 rfl rfl ?_
                  refine gf_X2_38 hC dX2_readInto_126 ?_
                  refine wd_isub hC dX2_readInto_129 ?_
                  exact wd_iretP hC rfl dX2_readInto_130 (⟨_, rfl, Or.inr ⟨_, Ui, _, _, hst.symm, (nextT_le L hbi _).1, rfl, rfl⟩⟩)
                · exact absurd (c_43.symm.trans c_71) (by decide)
              · refine wd_iconst (v := 1) hC dX2_readInto_61 rfl ?_
                refine wd_goto (tgt := 66) hC dX2_readInto_62 (by decide) ?_
                refine wd_istore_7_5 hC dX2_readInto_66 ?_
                refine wd_iload hC dX2_readInto_68 rfl ?_
                refine wd_iconst (v := 2) hC dX2_readInto_70 rfl ?_
                refine wd_icmp_ne (tgt := 94) hC dX2_readInto_71 (by decide) (fun c_71 => ?_) (fun c_71 => ?_)
                · refine wd_iconst (v := 0) hC dX2_readInto_94 rfl ?_
                  refine wd_istore_7_6 hC dX2_readInto_95 ?_
                  refine wd_iload hC dX2_readInto_97 rfl ?_
                  refine wd_if_eq (tgt := 110) hC dX2_readInto_99 (by decide) (fun c_99 => absurd c_99 (by decide)) (fun c_99 => ?_)
                  refine wd_aload_n hC dX2_readInto_102 rfl rfl ?_
                  refine wd_aload_n hC dX2_readInto_103 rfl rfl ?_
                  refine cv2iP hC cw_X2_31 (c_readCrop hinj σ u hu L hL n hn hn2 Ui _ (nextT_le L hbi _).2 _ _ (nCrops Ui) hTi.c (lt3_of hTi c_58)) dX2_readInto_104 (by first | decide | omega) (by decide) rfl rfl (Nat.le_of_ble_eq_true rfl) (fun r_104 σ_104 h_104 => ?_)
                  refine wd_if_ne (tgt := 131) hC dX2_readInto_107 (by decide) (fun c_107 => ?_) (fun c_107 => ?_)
                  · obtain ⟨w, v, b2, s2, q2, he0, hr, hb2, rfl⟩ := h_104.resolve_right (fun ⟨_, _, _, _, _, _, hr, _⟩ => c_107 hr)
                    have he : itemP L n Ui (nextT L n bi q1).2.1 (nextT L n bi q1).2.2.1 (nextT L n bi q1).1 = .ok (crU Ui (nCrops Ui) w v, b2) := by simp only [itemP, if_pos c_43, if_pos (show Ui 0 3 = 0 ∧ ¬ (3 : Int32) ≤ Ui 0 0 from ⟨c_50, c_58⟩), he0]
                    rw [he] at hst
                    have hT2 := tOk_cr hTi c_58 (nCrops Ui) w v
                    refine wd_iincN_7_2 hC dX2_readInto_131 ?_
                    refine wd_iincN_7_3 hC dX2_readInto_134 ?_
                    refine wd_goto (tgt := 19) hC dX2_readInto_137 (by decide) ?_
                    exact ih (i + 1) _ _ _ _ _ _ _ (by omega) (by omega) hb2 hT2 hst
                  · refine wd_iload hC dX2_readInto_110 rfl ?_
                    refine wd_if_eq (tgt := 123) hC dX2_readInto_112 (by decide) (fun c_112 => ?_) (fun c_112 => absurd (by decide) c_112)
                    obtain ⟨f, U2, b2, q2, he0, hf, hr, rfl⟩ := h_104.resolve_left (fun ⟨_, _, _, _, _, _, hr, _⟩ => absurd (hr.symm.trans c_107) (by decide))
                    have he : itemP L n Ui (nextT L n bi q1).2.1 (nextT L n bi q1).2.2.1 (nextT L n bi q1).1 = .error f := by simp only [itemP, if_pos c_43, if_pos (show Ui 0 3 = 0 ∧ ¬ (3 : Int32) ≤ Ui 0 0 from ⟨c_50, c_58⟩), he0]
                    rw [he] at hst
                    refine wd_bipush (v := -10) hC dX2_readInto_123 rfl ?_
                    refine wd_aload_n hC dX2_readInto_125 rfl rfl ?_
                    refine gf_X2_38 hC dX2_readInto_126 ?_
                    refine wd_isub hC dX2_readInto_129 ?_
                    exact wd_iretP hC rfl dX2_readInto_130 (⟨_, rfl, Or.inr ⟨f, U2, _, _, hst.symm, hf, rfl, rfl⟩⟩)
                · exact absurd (c_43.symm.trans c_71) (by decide)
        · rw [if_pos c_34] at hst
          refine wd_goto (tgt := 140) hC dX2_readInto_37 (by decide) ?_
          refine wd_iload_n hC dX2_readInto_140 rfl rfl ?_
          exact wd_iretP hC rfl dX2_readInto_141 (⟨_, rfl, Or.inl ⟨i, Ui, _, _, _, hst.symm, (by omega), hTi, rfl, rfl⟩⟩)
  refine wd_aload_n hC dX2_readInto_0 rfl rfl ?_
  refine wd_iconst (v := 0) hC dX2_readInto_1 rfl ?_
  refine pf_X2_15 hC dX2_readInto_2 ?_
  refine wd_ts (stQ_w0 _ _ _ _ _ _ _ _) ?_
  refine wd_aload_n hC dX2_readInto_5 rfl rfl ?_
  refine wd_iconst (v := 0) hC dX2_readInto_6 rfl ?_
  refine pf_X2_21 hC dX2_readInto_7 ?_
  refine wd_ts (stQ_w0 _ _ _ _ _ _ _ _) ?_
  refine wd_aload_n hC dX2_readInto_10 rfl rfl ?_
  refine wd_iconst (v := 0) hC dX2_readInto_11 rfl ?_
  refine pf_X2_24 hC dX2_readInto_12 ?_
  refine wd_ts (stP_3 _ _ _ _ _) ?_
  refine wd_iconst (v := 0) hC dX2_readInto_15 rfl ?_
  refine wd_istore_n_7_2 hC dX2_readInto_16 ?_
  refine wd_iconst (v := 0) hC dX2_readInto_17 rfl ?_
  refine wd_istore_n_7_3 hC dX2_readInto_18 ?_
  exact loop 202 0 _ 0 _ _ _ _ _ (by decide) (by decide) (Nat.zero_le _) (tOk_00 U) rfl

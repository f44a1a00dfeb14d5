/-! ===== items ===== -/
def itemP (L : Nat → Int32) (n : Nat) (U : Nat → Nat → Int32) (s b : Nat) (x : Int32) : Except Nat ((Nat → Nat → Int32) × Nat) :=
  if x = 1 then (if U 0 3 = 0 ∧ ¬ (3 : Int32) ≤ U 0 0 then (match cropP L n b with | .error f => .error f | .ok (w, v, b') => .ok (crU U (nCrops U) w v, b')) else .error s)
  else if x = 2 then (if ¬ U 0 0 ≤ 0 ∧ ¬ (6 : Int32) ≤ U 0 3 then (match manP L n (nCrops U) (U (7 + nMen U)) b with | .error f => .error f | .ok (s', l, d, r, b') => .ok (mnU U (nMen U) s' l d r, b')) else .error s)
  else .error s
def itsL (L : Nat → Int32) (n : Nat) : Nat → (Nat → Nat → Int32) → Nat → Nat → Except Nat (Nat × (Nat → Nat → Int32))
  | 0, U, _, i => .ok (i, U)
  | k + 1, U, b, i => if (nextT L n b 0).1 = 0 then .ok (i, U) else match itemP L n U (nextT L n b 0).2.1 (nextT L n b 0).2.2.1 (nextT L n b 0).1 with
    | .error f => .error f
    | .ok (U', b') => itsL L n k U' b' (i + 1)
theorem tOk_00 (U : Nat → Nat → Int32) : tOk (u2 (u2 U 0 0 0) 0 3 0) := ⟨⟨show (0 : Int32) ≤ 0 by decide, show (0 : Int32) < nI 7 by decide⟩, show (0 : Int32) ≤ 0 by decide, show (0 : Int32) < nI 4 by decide⟩
theorem tOk_cr {U : Nat → Nat → Int32} (h : tOk U) (hc : ¬ (3 : Int32) ≤ U 0 0) (c : Nat) (w v : Int32) : tOk (crU U c w v) := by
  refine ⟨h.1, ?_⟩
  show 0 ≤ U 0 0 + 1 ∧ U 0 0 + 1 < nI 4
  have h3 : nCrops U < 3 := by
    rcases Nat.lt_or_ge (nCrops U) 3 with h3 | h3
    · exact h3
    · exact absurd (by rw [h.c]; exact nI_le (a := 3) h3 (by have := h.c3; omega)) hc
  rw [h.c, show nI (nCrops U) + 1 = nI (nCrops U + 1) from nI_1 _]
  exact ⟨nI_pos' (by omega), nI_lt (by omega) (by decide)⟩
theorem tOk_mn {U : Nat → Nat → Int32} (h : tOk U) (hc : ¬ (6 : Int32) ≤ U 0 3) (m : Nat) (s l d : Int32) (r : Nat → Int32) : tOk (mnU U m s l d r) := by
  have e : ∀ i, ur (u2 (u2 (u2 U 3 m s) 4 m l) 5 m d) (7 + m) r 0 i = U 0 i := fun i => congrFun (if_neg (by omega)) i
  have h6 : nMen U < 6 := by
    rcases Nat.lt_or_ge (nMen U) 6 with h3 | h3
    · exact h3
    · exact absurd (by rw [h.m]; exact nI_le (a := 6) h3 (by have := h.m6; omega)) hc
  refine ⟨?_, ?_⟩
  · show 0 ≤ U 0 3 + 1 ∧ U 0 3 + 1 < nI 7
    rw [h.m, show nI (nMen U) + 1 = nI (nMen U + 1) from nI_1 _]
    exact ⟨nI_pos' (by omega), nI_lt (by omega) (by decide)⟩
  · show 0 ≤ ur (u2 (u2 (u2 U 3 m s) 4 m l) 5 m d) (7 + m) r 0 0 ∧ ur (u2 (u2 (u2 U 3 m s) 4 m l) 5 m d) (7 + m) r 0 0 < nI 4
    rw [e]
    exact h.2
theorem lt3_of {U : Nat → Nat → Int32} (h : tOk U) (hc : ¬ (3 : Int32) ≤ U 0 0) : nCrops U < 3 := by
  rcases Nat.lt_or_ge (nCrops U) 3 with h3 | h3
  · exact h3
  · exact absurd (by rw [h.c]; exact nI_le (a := 3) h3 (by have := h.c3; omega)) hc
theorem lt6_of {U : Nat → Nat → Int32} (h : tOk U) (hc : ¬ (6 : Int32) ≤ U 0 3) : nMen U < 6 := by
  rcases Nat.lt_or_ge (nMen U) 6 with h3 | h3
  · exact h3
  · exact absurd (by rw [h.m]; exact nI_le (a := 6) h3 (by have := h.m6; omega)) hc

set_option maxRecDepth 100000 in
set_option maxHeartbeats 4000000 in
theorem c_readItem {V : wd_V} {ad : Nat → Nat} (hinj : wd_inj cS ad) (σ : wd_S) (u : Nat) (hu : u < 2) (L : Nat → Int32) (hL : σ.1 2 = L) (n : Nat) (hn : σ.1 1 1 = nI n) (hn2 : n ≤ 200) (U : Nat → Nat → Int32) (hT : tOk U) (s b : Nat) (hs : s ≤ n) (hb : b ≤ n) (q x : Int32) : wd_C cS V ad 5 yX2_readItem (Cond.code yX2_readItem cX2_readItem 3 (some .boolean) :: wsL_law) (stQ σ u U (nI s) (nI b) q) [.ref (ad 1), .int x, .ref (ad (ct u))] (wd_pi (fun r σ' => (∃ U' b' s' q', itemP L n U s b x = .ok (U', b') ∧ tOk U' ∧ r = 1 ∧ b' ≤ n ∧ σ' = stQ σ u U' s' (nI b') q') ∨ (∃ f U' b' q', itemP L n U s b x = .error f ∧ f ≤ n ∧ r = 0 ∧ σ' = stQ σ u U' (nI f) b' q'))) := by
  refine wd_intro (lv := [some (.ref (ad 1)), some (.int x), some (.ref (ad (ct u)))]) hinj (by decide) rfl (Nat.le_of_ble_eq_true rfl) rfl (Nat.le_of_ble_eq_true rfl) (fun K hC => ?_)
  refine wd_iload_n hC dX2_readItem_0 rfl rfl ?_
  refine wd_iconst (v := 1) hC dX2_readItem_1 rfl ?_
  refine wd_icmp_ne (tgt := 34) hC dX2_readItem_2 (by decide) (fun c_2 => ?_) (fun c_2 => ?_)
  · refine wd_iload_n hC dX2_readItem_34 rfl rfl ?_
    refine wd_iconst (v := 2) hC dX2_readItem_35 rfl ?_
    refine wd_icmp_ne (tgt := 69) hC dX2_readItem_36 (by decide) (fun c_36 => ?_) (fun c_36 => ?_)
    · refine wd_iconst (v := 0) hC dX2_readItem_69 rfl ?_
      exact wd_zretP hC rfl rfl dX2_readItem_70 (⟨_, rfl, Or.inr ⟨_, _, _, _, (by simp only [itemP, if_neg c_2, if_neg c_36]), hs, rfl, rfl⟩⟩)
    · refine wd_aload_n hC dX2_readItem_39 rfl rfl ?_
      refine gf_X2_15 hC dX2_readItem_40 ?_
      refine wd_vi (stQ_0 _ _ _ _ _ _) ?_
      refine wd_if_le (tgt := 67) hC dX2_readItem_43 (by decide) (fun c_43 => ?_) (fun c_43 => ?_)
      · refine wd_iconst (v := 0) hC dX2_readItem_67 rfl ?_
        exact wd_zretP hC rfl rfl dX2_readItem_68 (⟨_, rfl, Or.inr ⟨_, _, _, _, (by simp only [itemP, if_neg c_2, if_pos c_36, if_neg (show ¬ (¬ U 0 0 ≤ 0 ∧ ¬ (6 : Int32) ≤ U 0 3) from fun h => h.1 c_43)]), hs, rfl, rfl⟩⟩)
      · refine wd_aload_n hC dX2_readItem_46 rfl rfl ?_
        refine gf_X2_21 hC dX2_readItem_47 ?_
        refine wd_vi (stQ_0 _ _ _ _ _ _) ?_
        refine wd_bipush (v := 6) hC dX2_readItem_50 rfl ?_
        refine wd_icmp_ge (tgt := 67) hC dX2_readItem_52 (by decide) (fun c_52 => ?_) (fun c_52 => ?_)
        · refine wd_iconst (v := 0) hC dX2_readItem_67 rfl ?_
          exact wd_zretP hC rfl rfl dX2_readItem_68 (⟨_, rfl, Or.inr ⟨_, _, _, _, (by simp only [itemP, if_neg c_2, if_pos c_36, if_neg (show ¬ (¬ U 0 0 ≤ 0 ∧ ¬ (6 : Int32) ≤ U 0 3) from fun h => h.2 c_52)]), hs, rfl, rfl⟩⟩)
        · refine wd_aload_n hC dX2_readItem_55 rfl rfl ?_
          refine wd_aload_n hC dX2_readItem_56 rfl rfl ?_
          refine cv2iP hC cw_X2_42 (c_readMan hinj σ u hu L hL n hn hn2 U b hb _ q (nCrops U) (nMen U) hT.c hT.c3 hT.m (lt6_of hT c_52)) dX2_readItem_57 (by first | decide | omega) (by decide) rfl rfl (Nat.le_of_ble_eq_true rfl) (fun r_57 σ_57 h_57 => ?_)
          refine wd_if_eq (tgt := 67) hC dX2_readItem_60 (by decide) (fun c_60 => ?_) (fun c_60 => ?_)
          · refine wd_iconst (v := 0) hC dX2_readItem_67 rfl ?_
            exact wd_zretP hC rfl rfl dX2_readItem_68 ((by rcases h_57 with ⟨s2, l, d, row, b1, s1, q1, he, hr, hb1, hσ⟩ | ⟨f, U1, b1, q1, he, hf, hr, hσ⟩; exact absurd (hr.symm.trans c_60) (by decide); exact ⟨_, rfl, Or.inr ⟨f, U1, b1, q1, (by simp only [itemP, if_neg c_2, if_pos c_36, if_pos (show ¬ U 0 0 ≤ 0 ∧ ¬ (6 : Int32) ≤ U 0 3 from ⟨c_43, c_52⟩), he]), hf, rfl, hσ⟩⟩))
          · refine wd_iconst (v := 1) hC dX2_readItem_63 rfl ?_
            refine wd_goto (tgt := 68) hC dX2_readItem_64 (by decide) ?_
            exact wd_zretP hC rfl rfl dX2_readItem_68 ((by rcases h_57 with ⟨s2, l, d, row, b1, s1, q1, he, hr, hb1, hσ⟩ | ⟨f, U1, b1, q1, he, hf, hr, hσ⟩; exact ⟨_, rfl, Or.inl ⟨_, b1, s1, q1, (by simp only [itemP, if_neg c_2, if_pos c_36, if_pos (show ¬ U 0 0 ≤ 0 ∧ ¬ (6 : Int32) ≤ U 0 3 from ⟨c_43, c_52⟩), he]), tOk_mn hT c_52 _ _ _ _ _, rfl, hb1, hσ⟩⟩; exact absurd hr c_60))
  · refine wd_aload_n hC dX2_readItem_5 rfl rfl ?_
    refine gf_X2_21 hC dX2_readItem_6 ?_
    refine wd_vi (stQ_0 _ _ _ _ _ _) ?_
    refine wd_if_ne (tgt := 32) hC dX2_readItem_9 (by decide) (fun c_9 => ?_) (fun c_9 => ?_)
    · refine wd_iconst (v := 0) hC dX2_readItem_32 rfl ?_
      exact wd_zretP hC rfl rfl dX2_readItem_33 (⟨_, rfl, Or.inr ⟨_, _, _, _, (by simp only [itemP, if_pos c_2, if_neg (show ¬ (U 0 3 = 0 ∧ ¬ (3 : Int32) ≤ U 0 0) from fun h => c_9 h.1)]), hs, rfl, rfl⟩⟩)
    · refine wd_aload_n hC dX2_readItem_12 rfl rfl ?_
      refine gf_X2_15 hC dX2_readItem_13 ?_
      refine wd_vi (stQ_0 _ _ _ _ _ _) ?_
      refine wd_iconst (v := 3) hC dX2_readItem_16 rfl ?_
      refine wd_icmp_ge (tgt := 32) hC dX2_readItem_17 (by decide) (fun c_17 => ?_) (fun c_17 => ?_)
      · refine wd_iconst (v := 0) hC dX2_readItem_32 rfl ?_
        exact wd_zretP hC rfl rfl dX2_readItem_33 (⟨_, rfl, Or.inr ⟨_, _, _, _, (by simp only [itemP, if_pos c_2, if_neg (show ¬ (U 0 3 = 0 ∧ ¬ (3 : Int32) ≤ U 0 0) from fun h => h.2 c_17)]), hs, rfl, rfl⟩⟩)
      · refine wd_aload_n hC dX2_readItem_20 rfl rfl ?_
        refine wd_aload_n hC dX2_readItem_21 rfl rfl ?_
        refine cv2iP hC cw_X2_38 (c_readCrop hinj σ u hu L hL n hn hn2 U b hb _ q (nCrops U) hT.c (lt3_of hT c_17)) dX2_readItem_22 (by first | decide | omega) (by decide) rfl rfl (Nat.le_of_ble_eq_true rfl) (fun r_22 σ_22 h_22 => ?_)
        refine wd_if_eq (tgt := 32) hC dX2_readItem_25 (by decide) (fun c_25 => ?_) (fun c_25 => ?_)
        · refine wd_iconst (v := 0) hC dX2_readItem_32 rfl ?_
          exact wd_zretP hC rfl rfl dX2_readItem_33 ((by rcases h_22 with ⟨w, v, b1, s1, q1, he, hr, hb1, hσ⟩ | ⟨f, U1, b1, q1, he, hf, hr, hσ⟩; exact absurd (hr.symm.trans c_25) (by decide); exact ⟨_, rfl, Or.inr ⟨f, U1, b1, q1, (by simp only [itemP, if_pos c_2, if_pos (show U 0 3 = 0 ∧ ¬ (3 : Int32) ≤ U 0 0 from ⟨c_9, c_17⟩), he]), hf, rfl, hσ⟩⟩))
        · refine wd_iconst (v := 1) hC dX2_readItem_28 rfl ?_
          refine wd_goto (tgt := 33) hC dX2_readItem_29 (by decide) ?_
          exact wd_zretP hC rfl rfl dX2_readItem_33 ((by rcases h_22 with ⟨w, v, b1, s1, q1, he, hr, hb1, hσ⟩ | ⟨f, U1, b1, q1, he, hf, hr, hσ⟩; exact ⟨_, rfl, Or.inl ⟨_, b1, s1, q1, (by simp only [itemP, if_pos c_2, if_pos (show U 0 3 = 0 ∧ ¬ (3 : Int32) ≤ U 0 0 from ⟨c_9, c_17⟩), he]), tOk_cr hT c_17 _ _ _, rfl, hb1, hσ⟩⟩; exact absurd hr c_25))
theorem lp2_gt {i : Nat} (c : (200 : Int32) < nI i) (h : i ≤ 201) : i = 201 := by
  have := (nI_ltI (a := 200) (b := i) (by decide) (by omega)).mp c
  omega
theorem lp2_le {i : Nat} (c : ¬ (200 : Int32) < nI i) (h : i ≤ 201) : i < 201 := by
  rcases Nat.lt_or_ge i 201 with h2 | h2
  · exact h2
  · exact absurd (nI_lt (a := 200) (b := i) (by omega) (by omega)) c

set_option maxRecDepth 100000 in
set_option maxHeartbeats 4000000 in
theorem c_readInto {V : wd_V} {ad : Nat → Nat} (hinj : wd_inj cS ad) (σ : wd_S) (u : Nat) (hu : u < 2) (L : Nat → Int32) (hL : σ.1 2 = L) (n : Nat) (hn : σ.1 1 1 = nI n) (hn2 : n ≤ 200) (U : Nat → Nat → Int32) (s0 b0 q : Int32) : wd_C cS V ad 6 yX2_readInto (Cond.code yX2_readInto cX2_readInto 5 (some .int) :: wsL_law) (stQ σ u U s0 b0 q) [.ref (ad 1), .ref (ad (ct u))] (wd_pi (fun r σ' => (∃ it U' s' b' q', itsL L n 201 (u2 (u2 U 0 0 0) 0 3 0) 0 0 = .ok (it, U') ∧ it ≤ 201 ∧ tOk U' ∧ r = nI it ∧ σ' = stQ σ u U' s' b' q') ∨ (∃ f U' b' q', itsL L n 201 (u2 (u2 U 0 0 0) 0 3 0) 0 0 = .error f ∧ f ≤ n ∧ r = -10 - nI f ∧ σ' = stQ σ u U' (nI f) b' q'))) := by
  refine wd_intro (lv := [some (.ref (ad 1)), some (.ref (ad (ct u))), none, none, none]) hinj (by decide) rfl (Nat.le_of_ble_eq_true rfl) rfl (Nat.le_of_ble_eq_true rfl) (fun K hC => ?_)
  have hLU : ∀ W : Nat → Nat → Int32, (stU σ u W).1 2 = L := fun W => by rw [stU_lo _ _ _ (by decide), hL]
  have hnU : ∀ W : Nat → Nat → Int32, (stU σ u W).1 1 1 = nI n := fun W => by rw [stU_lo _ _ _ (by decide), hn]
  have loop : ∀ (k i : Nat) (Ui : Nat → Nat → Int32) (bi : Nat) (s1 q1 : Int32) (o4 : Option Value), i ≤ 201 → 201 < i + k → bi ≤ n → tOk Ui → itsL L n (201 - i) Ui bi i = itsL L n 201 (u2 (u2 U 0 0 0) 0 3 0) 0 0 → wd_G cS V ad K 5 (wd_Qm cS V ad K (wd_pi (fun r σ' => (∃ it U' s' b' q', itsL L n 201 (u2 (u2 U 0 0 0) 0 3 0) 0 0 = .ok (it, U') ∧ it ≤ 201 ∧ tOk U' ∧ r = nI it ∧ σ' = stQ σ u U' s' b' q') ∨ (∃ f U' b' q', itsL L n 201 (u2 (u2 U 0 0 0) 0 3 0) 0 0 = .error f ∧ f ≤ n ∧ r = -10 - nI f ∧ σ' = stQ σ u U' (nI f) b' q')))) 19 [some (.ref (ad 1)), some (.ref (ad (ct u))), some (.int (nI i)), some (.int (nI i)), o4] [] (stQ σ u Ui s1 (nI bi) q1) := by
    intro k
    induction k with
    | zero =>
      intro i Ui bi s1 q1 o4 h1 h2 hbi hTi hst
      exact absurd h2 (by omega)
    | succ k ih =>
      intro i Ui bi s1 q1 o4 h1 h2 hbi hTi hst
      refine wd_iload_n hC dX2_readInto_19 rfl rfl ?_
      refine wd_sipush (v := 200) hC dX2_readInto_20 rfl ?_
      refine wd_icmp_gt (tgt := 67) hC dX2_readInto_23 (by decide) (fun c_23 => ?_) (fun c_23 => ?_)
      · have hin : i = 201 := lp2_gt c_23 h1
        replace hst : Except.ok (i, Ui) = itsL L n 201 (u2 (u2 U 0 0 0) 0 3 0) 0 0 := by rw [← hst, hin]; rfl
        refine wd_iload_n hC dX2_readInto_67 rfl rfl ?_
        exact wd_iretP hC rfl dX2_readInto_68 (⟨_, rfl, Or.inl ⟨i, Ui, _, _, _, hst.symm, (by omega), hTi, rfl, rfl⟩⟩)
      · have hin : i < 201 := lp2_le c_23 h1
        rw [show 201 - i = (201 - (i + 1)) + 1 by omega, itsL, ← (nextT_q L n bi q1).1, ← (nextT_q L n bi q1).2.1, ← (nextT_q L n bi q1).2.2.1] at hst
        refine wd_aload_n hC dX2_readInto_26 rfl rfl ?_
        refine cv2i hC cw_X2_27 (c_nextToken hinj (stU σ u _) L (hLU _) n (hnU _) hn2 _ hbi _ _) dX2_readInto_27 (by first | decide | omega) (by decide) rfl rfl (Nat.le_of_ble_eq_true rfl) ?_
        refine wd_istore_5_4 hC dX2_readInto_30 ?_
        refine wd_iload hC dX2_readInto_32 rfl ?_
        refine wd_if_ne (tgt := 40) hC dX2_readInto_34 (by decide) (fun c_34 => ?_) (fun c_34 => ?_)
        · rw [if_neg c_34] at hst
          refine wd_aload_n hC dX2_readInto_40 rfl rfl ?_
          refine wd_iload hC dX2_readInto_41 rfl ?_
          refine wd_aload_n hC dX2_readInto_43 rfl rfl ?_
          refine cv2iP hC cw_X2_31 (c_readItem hinj σ u hu L hL n hn hn2 Ui hTi _ _ (nextT_le L hbi _).1 (nextT_le L hbi _).2 _ _) dX2_readInto_44 (by first | decide | omega) (by decide) rfl rfl (Nat.le_of_ble_eq_true rfl) (fun r_44 σ_44 h_44 => ?_)
          refine wd_if_ne (tgt := 58) hC dX2_readInto_47 (by decide) (fun c_47 => ?_) (fun c_47 => ?_)
          · obtain ⟨U2, b2, s2, q2, he, hT2, hr, hb2, rfl⟩ := h_44.resolve_right (fun ⟨_, _, _, _, _, _, hr, _⟩ => c_47 hr)
            rw [he] at hst
            refine wd_iincN_5_2 hC dX2_readInto_58 ?_
            refine wd_iincN_5_3 hC dX2_readInto_61 ?_
            refine wd_goto (tgt := 19) hC dX2_readInto_64 (by decide) ?_
            exact ih (i + 1) _ _ _ _ _ (by omega) (by omega) hb2 hT2 hst
          · obtain ⟨f, U2, b2, q2, he, hf, hr, rfl⟩ := h_44.resolve_left (fun ⟨_, _, _, _, _, _, hr, _⟩ => absurd (hr.symm.trans c_47) (by decide))
            rw [he] at hst
            refine wd_bipush (v := -10) hC dX2_readInto_50 rfl ?_
            refine wd_aload_n hC dX2_readInto_52 rfl rfl ?_
            refine gf_X2_35 hC dX2_readInto_53 ?_
            refine wd_isub hC dX2_readInto_56 ?_
            exact wd_iretP hC rfl dX2_readInto_57 (⟨_, rfl, Or.inr ⟨f, U2, _, _, hst.symm, hf, rfl, rfl⟩⟩)
        · rw [if_pos c_34] at hst
          refine wd_goto (tgt := 67) hC dX2_readInto_37 (by decide) ?_
          refine wd_iload_n hC dX2_readInto_67 rfl rfl ?_
          exact wd_iretP hC rfl dX2_readInto_68 (⟨_, rfl, Or.inl ⟨i, Ui, _, _, _, hst.symm, (by omega), hTi, rfl, rfl⟩⟩)
  refine wd_aload_n hC dX2_readInto_0 rfl rfl ?_
  refine wd_iconst (v := 0) hC dX2_readInto_1 rfl ?_
  refine pf_X2_15 hC dX2_readInto_2 ?_
  refine wd_ts (stQ_w0 _ _ _ _ _ _ _ _) ?_
  refine wd_aload_n hC dX2_readInto_5 rfl rfl ?_
  refine wd_iconst (v := 0) hC dX2_readInto_6 rfl ?_
  refine pf_X2_21 hC dX2_readInto_7 ?_
  refine wd_ts (stQ_w0 _ _ _ _ _ _ _ _) ?_
  refine wd_aload_n hC dX2_readInto_10 rfl rfl ?_
  refine wd_iconst (v := 0) hC dX2_readInto_11 rfl ?_
  refine pf_X2_24 hC dX2_readInto_12 ?_
  refine wd_ts (stP_3 _ _ _ _ _) ?_
  refine wd_iconst (v := 0) hC dX2_readInto_15 rfl ?_
  refine wd_istore_n_5_2 hC dX2_readInto_16 ?_
  refine wd_iconst (v := 0) hC dX2_readInto_17 rfl ?_
  refine wd_istore_n_5_3 hC dX2_readInto_18 ?_
  exact loop 202 0 _ 0 _ _ _ (by decide) (by decide) (Nat.zero_le _) (tOk_00 U) rfl

/-! ===== the reference: faces ===== -/
def fW (σ : wd_S) (b p w : Nat → Int32) : wd_S := setR (setR (setR σ 17 b) 16 p) 10 w
theorem fW_self (σ : wd_S) : fW σ (σ.1 17) (σ.1 16) (σ.1 10) = σ := by
  unfold fW
  rw [setR_self σ 17, setR_self σ 16, setR_self σ 10]
theorem fW_n (σ : wd_S) (b p w : Nat → Int32) {a : Nat} (h : a < 10) : (fW σ b p w).1 a = σ.1 a := by
  unfold fW
  rw [setR_n _ _ _ (by omega), setR_n _ _ _ (by omega), setR_n _ _ _ (by omega)]
theorem fW_16 (σ : wd_S) (b p w p' : Nat → Int32) : setR (fW σ b p w) 16 p' = fW σ b p' w := by
  refine wd_ext (fun a => ?_) rfl
  show (if a = 16 then p' else if a = 10 then w else if a = 16 then p else if a = 17 then b else σ.1 a) = (if a = 10 then w else if a = 16 then p' else if a = 17 then b else σ.1 a)
  by_cases e : a = 16
  · rw [if_pos e, if_neg (by omega), if_pos e]
  · simp only [if_neg e]
theorem fW_10 (σ : wd_S) (b p w w' : Nat → Int32) : setR (fW σ b p w) 10 w' = fW σ b p w' := setR_set _ _ _ _
theorem fW_17 (σ : wd_S) (b p w b' : Nat → Int32) : setR (fW σ b p w) 17 b' = fW σ b' p w := by
  refine wd_ext (fun a => ?_) rfl
  show (if a = 17 then b' else if a = 10 then w else if a = 16 then p else if a = 17 then b else σ.1 a) = (if a = 10 then w else if a = 16 then p else if a = 17 then b' else σ.1 a)
  by_cases e : a = 17
  · rw [if_pos e, if_neg (by omega), if_neg (by omega), if_pos e]
  · simp only [if_neg e]
theorem fW_r16 (σ : wd_S) (b p w : Nat → Int32) : (fW σ b p w).1 16 = p := rfl
theorem fW_r17 (σ : wd_S) (b p w : Nat → Int32) : (fW σ b p w).1 17 = b := rfl
theorem fW_r10 (σ : wd_S) (b p w : Nat → Int32) : (fW σ b p w).1 10 = w := rfl
theorem fW_up17 (σ : wd_S) (b p w : Nat → Int32) (i : Nat) (v : Int32) : wd_up (fW σ b p w) 17 i v = fW σ (upd b i v) p w := by
  rw [← fW_17 σ b p w b, setR_up, fW_17]
theorem fW_up10 (σ : wd_S) (b p w : Nat → Int32) (i : Nat) (v : Int32) : wd_up (fW σ b p w) 10 i v = fW σ b p (upd w i v) := setR_up _ _ _ _ _
theorem lbV_fW (σ : wd_S) (b p w r : Nat → Int32) (nm : Nat) : lbV (fW σ b p w) r nm = lbV σ r nm := by
  unfold fW
  rw [lbV_set _ (by decide), lbV_set _ (by decide), lbV_set _ (by decide)]
theorem vHas_fW (σ : wd_S) (b p w r : Nat → Int32) (m : Nat) : vHas (fW σ b p w) r m = vHas σ r m := by
  unfold fW
  rw [vHas_set _ (by decide), vHas_set _ (by decide), vHas_set _ (by decide)]
def cpB (b p : Nat → Int32) (n : Nat) : Nat → Int32 := fun k => if k < n then p k else b k
theorem cpB_0 (b p : Nat → Int32) : cpB b p 0 = b := funext fun k => if_neg (by omega)
theorem cpB_s (b p : Nat → Int32) (n : Nat) : upd (cpB b p n) n (p n) = cpB b p (n + 1) := by
  funext k
  unfold upd cpB
  by_cases h : k = n
  · rw [if_pos h, if_pos (by omega), h]
  · rw [if_neg h]
    by_cases h2 : k < n
    · rw [if_pos h2, if_pos (by omega)]
    · rw [if_neg h2, if_neg (by omega)]
/-- one way of the enumeration: the least so far, the best row, the pairs -/
abbrev fcL (nm w : Nat) (p : Nat → Int32) : (Nat → Int32) × Int32 × Bool := rwL (nm + 1) nm w p 0 true
def fcS (σ : wd_S) (nm w : Nat) (s : Int32 × (Nat → Int32) × (Nat → Int32)) : Int32 × (Nat → Int32) × (Nat → Int32) :=
  if rwD nm (fcL nm w s.2.2) = true then (if lbV σ (lbW (σ.1 9) (fcL nm w s.2.2).1 nm) nm ≤ s.1 then (s.1, s.2.1, (fcL nm w s.2.2).1) else (lbV σ (lbW (σ.1 9) (fcL nm w s.2.2).1 nm) nm, cpB s.2.1 (fcL nm w s.2.2).1 nm, (fcL nm w s.2.2).1)) else (s.1, s.2.1, (fcL nm w s.2.2).1)
def fcV (σ : wd_S) (nm : Nat) : Int32 × (Nat → Int32) × (Nat → Int32) := itr (fcS σ nm) (-1000000, σ.1 17, σ.1 16) ((nm + 1) ^ nm)
/-- only w, pair, best have changed -/
def scrF (σ σ' : wd_S) : Prop := ∃ b p w, σ' = fW σ b p w
theorem pow_nm {nm : Nat} (h6 : nm ≤ 6) : (nm + 1) ^ nm < 2 ^ 20 := by
  rcases (show nm = 0 ∨ nm = 1 ∨ nm = 2 ∨ nm = 3 ∨ nm = 4 ∨ nm = 5 ∨ nm = 6 by omega) with rfl | rfl | rfl | rfl | rfl | rfl | rfl <;> decide

set_option maxRecDepth 100000 in
set_option maxHeartbeats 4000000 in
theorem r_faces_bad {V : wd_V} {ad : Nat → Nat} (hinj : wd_inj rS ad) (σ : wd_S) (h0 : σ.1 0 0 = 0) (x : Int32) (hB : ¬ (x = -1 ∨ qMan σ x) ∨ σ.1 2 1 = 0) : wd_C rS V ad 2 yX5_faces (Cond.code yX5_faces cX5_faces 6 (some .int) :: wsL_law) σ [.ref (ad 0), .int x] (wd_eq (some (.int (-1000000))) (σ)) := by
  refine wd_intro (lv := [some (.ref (ad 0)), some (.int x), none, none, none, none]) hinj (by decide) rfl (Nat.le_of_ble_eq_true rfl) rfl (Nat.le_of_ble_eq_true rfl) (fun K hC => ?_)
  refine wd_aload_n hC dX5_faces_0 rfl rfl ?_
  refine wd_iconst (v := 0) hC dX5_faces_1 rfl ?_
  refine pf_X5_62 hC dX5_faces_2 ?_
  refine wd_ts (up_00 h0) ?_
  refine wd_iload_n hC dX5_faces_5 rfl rfl ?_
  refine wd_iconst (v := -1) hC dX5_faces_6 rfl ?_
  refine wd_icmp_eq (tgt := 18) hC dX5_faces_7 (by decide) (fun c_7 => ?_) (fun c_7 => ?_)
  · refine wd_aload_n hC dX5_faces_18 rfl rfl ?_
    refine gf_X5_13 hC dX5_faces_19 ?_
    refine wd_iconst (v := 1) hC dX5_faces_22 rfl ?_
    refine rl_many hC dX5_faces_23 1 rfl (by decide) ?_
    refine wd_if_ne (tgt := 30) hC dX5_faces_24 (by decide) (fun c_24 => ?_) (fun c_24 => ?_)
    · exact absurd hB (by first | exact fun h => h.elim (fun h => h (Or.inl c_7)) c_24 | exact fun h => h.elim (fun h => h (Or.inr c_15)) c_24)
    · refine wd_ldc (v := (-1000000)) hC dX5_faces_27 (wL_13 _ (List.mem_of_getElem? (i := 6) rfl)) ?_
      exact wd_iret hC rfl dX5_faces_29 rfl rfl
  · refine wd_aload_n hC dX5_faces_10 rfl rfl ?_
    refine wd_iload_n hC dX5_faces_11 rfl rfl ?_
    refine cv5i hC cw_X5_134 (r_isMan hinj _ _) dX5_faces_12 (by first | decide | omega) (by decide) rfl rfl (Nat.le_of_ble_eq_true rfl) ?_
    refine wd_if_eq (tgt := 27) hC dX5_faces_15 (by decide) (fun c_15 => ?_) (fun c_15 => ?_)
    · replace c_15 := bI_0.mp c_15
      refine wd_ldc (v := (-1000000)) hC dX5_faces_27 (wL_13 _ (List.mem_of_getElem? (i := 6) rfl)) ?_
      exact wd_iret hC rfl dX5_faces_29 rfl rfl
    · replace c_15 := bI_1.mp c_15
      refine wd_aload_n hC dX5_faces_18 rfl rfl ?_
      refine gf_X5_13 hC dX5_faces_19 ?_
      refine wd_iconst (v := 1) hC dX5_faces_22 rfl ?_
      refine rl_many hC dX5_faces_23 1 rfl (by decide) ?_
      refine wd_if_ne (tgt := 30) hC dX5_faces_24 (by decide) (fun c_24 => ?_) (fun c_24 => ?_)
      · exact absurd hB (by first | exact fun h => h.elim (fun h => h (Or.inl c_7)) c_24 | exact fun h => h.elim (fun h => h (Or.inr c_15)) c_24)
      · refine wd_ldc (v := (-1000000)) hC dX5_faces_27 (wL_13 _ (List.mem_of_getElem? (i := 6) rfl)) ?_
        exact wd_iret hC rfl dX5_faces_29 rfl rfl
set_option maxRecDepth 100000 in
set_option maxHeartbeats 4000000 in
theorem r_faces {V : wd_V} {ad : Nat → Nat} (hinj : wd_inj rS ad) (σ : wd_S) (h0 : σ.1 0 0 = 0) (nm nc : Nat) (hnm : σ.1 2 1 = nI nm) (hnc : σ.1 2 0 = nI nc) (h6 : nm ≤ 6) (h3 : nc ≤ 3) (hr : rOk (σ.1 3) (σ.1 9) nm nc) (hn0 : 0 < nm) (x : Int32) (m : Nat) (hxm : ¬ x = -1 → x = nI m) (hm : ¬ x = -1 → m < nm) : wd_C rS V ad 5 yX5_faces (Cond.code yX5_faces cX5_faces 6 (some .int) :: wsL_law) σ [.ref (ad 0), .int x] (wd_pi (fun r σ' => r = (if x = -1 then (fcV σ nm).1 else if (fcV σ nm).2.1 m = 0 then -9 else (fcV σ nm).2.1 m - 1) ∧ scrF σ σ')) := by
  refine wd_intro (lv := [some (.ref (ad 0)), some (.int x), none, none, none, none]) hinj (by decide) rfl (Nat.le_of_ble_eq_true rfl) rfl (Nat.le_of_ble_eq_true rfl) (fun K hC => ?_)
  have hpw := pow_nm h6
  have hq : ¬ x = -1 → qMan σ x := fun h => qm_of hnm (hxm h) (hm h) h6
  have loop : ∀ (k i : Nat) (a : Int32) (bb p w0 : Nat → Int32) (o5 : Option Value), i ≤ ((nm + 1) ^ nm) → ((nm + 1) ^ nm) < i + k → itr (fcS σ nm) (-1000000, σ.1 17, σ.1 16) i = (a, bb, p) → wd_G rS V ad K 6 (wd_Qm rS V ad K (wd_pi (fun r σ' => r = (if x = -1 then (fcV σ nm).1 else if (fcV σ nm).2.1 m = 0 then -9 else (fcV σ nm).2.1 m - 1) ∧ scrF σ σ'))) 67 [some (.ref (ad 0)), some (.int x), some (.int (nI ((nm + 1) ^ nm))), some (.int a), some (.int (nI i)), o5] [] (fW σ bb p w0) := by
    intro k
    induction k with
    | zero =>
      intro i a bb p w0 o5 h1 h2 hst
      exact absurd h2 (by omega)
    | succ k ih =>
      intro i a bb p w0 o5 h1 h2 hst
      refine wd_iload hC dX5_faces_67 rfl ?_
      refine wd_iload_n hC dX5_faces_69 rfl rfl ?_
      refine wd_icmp_ge (tgt := 135) hC dX5_faces_70 (by decide) (fun c_70 => ?_) (fun c_70 => ?_)
      · have hin : _ = i := (lp_ge (n := (nm + 1) ^ nm) rfl c_70 h1 (by omega)).symm
        subst hin
        have hV : fcV σ nm = (a, bb, p) := hst
        refine wd_iload_n hC dX5_faces_135 rfl rfl ?_
        refine wd_iconst (v := -1) hC dX5_faces_136 rfl ?_
        refine wd_icmp_ne (tgt := 144) hC dX5_faces_137 (by decide) (fun c_137 => ?_) (fun c_137 => ?_)
        · have hx2 := hxm c_137
          have hm6 : m < 6 := by have := hm c_137; omega
          refine wd_aload_n hC dX5_faces_144 rfl rfl ?_
          refine gf_X5_59 hC dX5_faces_145 ?_
          refine wd_iload_n hC dX5_faces_148 rfl rfl ?_
          refine rl_best hC dX5_faces_149 m hx2 (by omega) ?_
          refine wd_if_ne (tgt := 158) hC dX5_faces_150 (by decide) (fun c_150 => ?_) (fun c_150 => ?_)
          · refine wd_aload_n hC dX5_faces_158 rfl rfl ?_
            refine gf_X5_59 hC dX5_faces_159 ?_
            refine wd_iload_n hC dX5_faces_162 rfl rfl ?_
            refine rl_best hC dX5_faces_163 m hx2 (by omega) ?_
            refine wd_iconst (v := 1) hC dX5_faces_164 rfl ?_
            refine wd_isub hC dX5_faces_165 ?_
            exact wd_iretP hC rfl dX5_faces_166 (⟨_, rfl, (by rw [hV]; first | exact (if_pos c_137).symm | exact ((if_neg c_137).trans (if_pos c_150)).symm | exact ((if_neg c_137).trans (if_neg c_150)).symm), _, _, _, rfl⟩)
          · refine wd_bipush (v := -9) hC dX5_faces_153 rfl ?_
            refine wd_goto (tgt := 166) hC dX5_faces_155 (by decide) ?_
            exact wd_iretP hC rfl dX5_faces_166 (⟨_, rfl, (by rw [hV]; first | exact (if_pos c_137).symm | exact ((if_neg c_137).trans (if_pos c_150)).symm | exact ((if_neg c_137).trans (if_neg c_150)).symm), _, _, _, rfl⟩)
        · refine wd_iload_n hC dX5_faces_140 rfl rfl ?_
          refine wd_goto (tgt := 166) hC dX5_faces_141 (by decide) ?_
          exact wd_iretP hC rfl dX5_faces_166 (⟨_, rfl, (by rw [hV]; first | exact (if_pos c_137).symm | exact ((if_neg c_137).trans (if_pos c_150)).symm | exact ((if_neg c_137).trans (if_neg c_150)).symm), _, _, _, rfl⟩)
      · have hin : i < (nm + 1) ^ nm := lp_lt (n := (nm + 1) ^ nm) rfl c_70 h1 (by omega)
        refine wd_aload_n hC dX5_faces_73 rfl rfl ?_
        refine wd_iload hC dX5_faces_74 rfl ?_
        refine cv5i hC cw_X5_181 (r_isRow hinj _ nm (by rw [fW_n _ _ _ _ (by decide)]; exact hnm) h6 _ i rfl (by omega)) dX5_faces_76 (by first | decide | omega) (by decide) rfl rfl (Nat.le_of_ble_eq_true rfl) ?_
        refine wd_ts (fW_16 _ _ _ _ _) ?_
        refine wd_vi (show _ = bI (rwD nm (fcL nm i p) = true) from rfl) ?_
        refine wd_ts (show _ = fW σ bb (fcL nm i p).1 w0 from rfl) ?_
        have hok : pOk (fcL nm i p).1 nm := rwL_ok h6 i p _ _
        generalize hp1 : (fcL nm i p).1 = p1 at hok
        refine wd_if_eq (tgt := 129) hC dX5_faces_79 (by decide) (fun c_79 => ?_) (fun c_79 => ?_)
        · replace c_79 := bI_0.mp c_79
          refine wd_iincN_6_4 hC dX5_faces_129 ?_
          refine wd_goto (tgt := 67) hC dX5_faces_132 (by decide) ?_
          exact ih (i + 1) _ _ _ _ _ (by omega) (by omega) (by rw [itr, hst]; unfold fcS; simp only []; first | rw [if_neg c_79, hp1] | rw [if_pos c_79, hp1, if_pos c_87])
        · replace c_79 := bI_1.mp c_79
          refine wd_aload_n hC dX5_faces_82 rfl rfl ?_
          refine cv5i hC cw_X5_184 (r_leastBy hinj _ nm nc (by rw [fW_n _ _ _ _ (by decide)]; exact hnm) (by rw [fW_n _ _ _ _ (by decide)]; exact hnc) h6 h3 (by rw [fW_n _ _ _ _ (by decide), fW_n _ _ _ _ (by decide)]; exact hr) hok) dX5_faces_83 (by first | decide | omega) (by decide) rfl rfl (Nat.le_of_ble_eq_true rfl) ?_
          refine wd_ts (show _ = fW σ bb p1 (lbW (σ.1 9) p1 nm) from (by rw [fW_10, fW_n _ _ _ _ (by decide)]; rfl)) ?_
          refine wd_vi (show _ = lbV σ (lbW (σ.1 9) p1 nm) nm from (by rw [lbV_fW, fW_n _ _ _ _ (by decide)]; rfl)) ?_
          refine wd_iload_n hC dX5_faces_86 rfl rfl ?_
          refine wd_icmp_le (tgt := 129) hC dX5_faces_87 (by decide) (fun c_87 => ?_) (fun c_87 => ?_)
          · refine wd_iincN_6_4 hC dX5_faces_129 ?_
            refine wd_goto (tgt := 67) hC dX5_faces_132 (by decide) ?_
            exact ih (i + 1) _ _ _ _ _ (by omega) (by omega) (by rw [itr, hst]; unfold fcS; simp only []; first | rw [if_neg c_79, hp1] | rw [if_pos c_79, hp1, if_pos c_87])
          · refine wd_aload_n hC dX5_faces_90 rfl rfl ?_
            refine cv5i hC cw_X5_184 (r_leastBy hinj _ nm nc (by rw [fW_n _ _ _ _ (by decide)]; exact hnm) (by rw [fW_n _ _ _ _ (by decide)]; exact hnc) h6 h3 (by rw [fW_n _ _ _ _ (by decide), fW_n _ _ _ _ (by decide)]; exact hr) hok) dX5_faces_91 (by first | decide | omega) (by decide) rfl rfl (Nat.le_of_ble_eq_true rfl) ?_
            refine wd_ts (show _ = fW σ bb p1 (lbW (σ.1 9) p1 nm) from (by rw [fW_10, fW_n _ _ _ _ (by decide)]; rfl)) ?_
            refine wd_vi (show _ = lbV σ (lbW (σ.1 9) p1 nm) nm from (by rw [lbV_fW, fW_n _ _ _ _ (by decide)]; rfl)) ?_
            refine wd_istore_n_6_3 hC dX5_faces_94 ?_
            refine wd_iconst (v := 0) hC dX5_faces_95 rfl ?_
            refine wd_istore_6_5 hC dX5_faces_96 ?_
            have hstep : fcS σ nm i (a, bb, p) = (lbV σ (lbW (σ.1 9) p1 nm) nm, cpB bb p1 nm, p1) := (by unfold fcS; simp only []; rw [if_pos c_79, hp1, if_neg c_87])
            have inner : ∀ (k j : Nat) (w1 : Nat → Int32), j ≤ nm → nm < j + k → wd_G rS V ad K 6 (wd_Qm rS V ad K (wd_pi (fun r σ' => r = (if x = -1 then (fcV σ nm).1 else if (fcV σ nm).2.1 m = 0 then -9 else (fcV σ nm).2.1 m - 1) ∧ scrF σ σ'))) 98 [some (.ref (ad 0)), some (.int x), some (.int (nI ((nm + 1) ^ nm))), some (.int (lbV σ (lbW (σ.1 9) p1 nm) nm)), some (.int (nI i)), some (.int (nI j))] [] (fW σ (cpB bb p1 j) p1 w1) := by
              intro k
              induction k with
              | zero =>
                intro j w1 h1b h2b 
                exact absurd h2b (by omega)
              | succ k ih2 =>
                intro j w1 h1b h2b 
                refine wd_iload hC dX5_faces_98 rfl ?_
                refine wd_aload_n hC dX5_faces_100 rfl rfl ?_
                refine gf_X5_13 hC dX5_faces_101 ?_
                refine wd_iconst (v := 1) hC dX5_faces_104 rfl ?_
                refine rl_many hC dX5_faces_105 1 rfl (by decide) ?_
                refine wd_vi (show _ = nI nm from (by rw [fW_n _ _ _ _ (by decide)]; exact hnm)) ?_
                refine wd_icmp_ge (tgt := 129) hC dX5_faces_106 (by decide) (fun c_106 => ?_) (fun c_106 => ?_)
                · have hin : _ = j := (lp_ge (n := nm) rfl c_106 h1b (by omega)).symm
                  subst hin
                  refine wd_iincN_6_4 hC dX5_faces_129 ?_
                  refine wd_goto (tgt := 67) hC dX5_faces_132 (by decide) ?_
                  exact ih (i + 1) _ _ _ _ _ (by omega) (by omega) (by rw [itr, hst]; exact hstep)
                · have hin : j < nm := lp_lt (n := nm) rfl c_106 h1b (by omega)
                  refine wd_aload_n hC dX5_faces_109 rfl rfl ?_
                  refine gf_X5_59 hC dX5_faces_110 ?_
                  refine wd_iload hC dX5_faces_113 rfl ?_
                  refine wd_aload_n hC dX5_faces_115 rfl rfl ?_
                  refine gf_X5_56 hC dX5_faces_116 ?_
                  refine wd_iload hC dX5_faces_119 rfl ?_
                  refine rl_pair hC dX5_faces_121 (j) rfl (by omega) ?_
                  refine wd_vi (show _ = p1 j from rfl) ?_
                  refine rs_best hC dX5_faces_122 (j) rfl (by omega) ?_
                  refine wd_ts (fW_up17 _ _ _ _ _ _) ?_
                  refine wd_ts (congrArg (fun b => fW σ b p1 w1) (cpB_s bb p1 j)) ?_
                  refine wd_iincN_6_5 hC dX5_faces_123 ?_
                  refine wd_goto (tgt := 98) hC dX5_faces_126 (by decide) ?_
                  exact ih2 (j + 1) _ (by omega) (by omega)
            refine wd_ts (congrArg (fun b => fW σ b p1 _) (cpB_0 bb p1).symm) ?_
            exact inner (nm + 1) 0 _ (Nat.zero_le _) (by omega)
  have loop1 : ∀ (k i : Nat), i ≤ nm → nm < i + k → wd_G rS V ad K 6 (wd_Qm rS V ad K (wd_pi (fun r σ' => r = (if x = -1 then (fcV σ nm).1 else if (fcV σ nm).2.1 m = 0 then -9 else (fcV σ nm).2.1 m - 1) ∧ scrF σ σ'))) 34 [some (.ref (ad 0)), some (.int x), some (.int (nI ((nm + 1) ^ i))), some (.int (nI i)), none, none] [] σ := by
    intro k
    induction k with
    | zero =>
      intro i  h1 h2 
      exact absurd h2 (by omega)
    | succ k ih =>
      intro i  h1 h2 
      refine wd_iload_n hC dX5_faces_34 rfl rfl ?_
      refine wd_aload_n hC dX5_faces_35 rfl rfl ?_
      refine gf_X5_13 hC dX5_faces_36 ?_
      refine wd_iconst (v := 1) hC dX5_faces_39 rfl ?_
      refine rl_many hC dX5_faces_40 1 rfl (by decide) ?_
      refine wd_vi hnm ?_
      refine wd_icmp_ge (tgt := 61) hC dX5_faces_41 (by decide) (fun c_41 => ?_) (fun c_41 => ?_)
      · have hin : _ = i := (lp_ge (n := nm) rfl c_41 h1 (by omega)).symm
        subst hin
        refine wd_ldc (v := (-1000000)) hC dX5_faces_61 (wL_13 _ (List.mem_of_getElem? (i := 6) rfl)) ?_
        refine wd_istore_n_6_3 hC dX5_faces_63 ?_
        refine wd_iconst (v := 0) hC dX5_faces_64 rfl ?_
        refine wd_istore_6_4 hC dX5_faces_65 ?_
        refine wd_ts (fW_self σ).symm ?_
        exact loop ((nm + 1) ^ nm + 1) 0 _ _ _ _ _ (Nat.zero_le _) (by omega) rfl
      · have hin : i < nm := lp_lt (n := nm) rfl c_41 h1 (by omega)
        refine wd_iload_n hC dX5_faces_44 rfl rfl ?_
        refine wd_aload_n hC dX5_faces_45 rfl rfl ?_
        refine gf_X5_13 hC dX5_faces_46 ?_
        refine wd_iconst (v := 1) hC dX5_faces_49 rfl ?_
        refine rl_many hC dX5_faces_50 1 rfl (by decide) ?_
        refine wd_vi hnm ?_
        refine wd_iconst (v := 1) hC dX5_faces_51 rfl ?_
        refine wd_iadd hC dX5_faces_52 ?_
        refine wd_vi (show _ = nI (nm + 1) from nI_add nm 1) ?_
        refine wd_imul hC dX5_faces_53 ?_
        refine wd_vi (show _ = nI ((nm + 1) ^ (i + 1)) from (pk_mul _ _).trans (by rw [Nat.pow_succ])) ?_
        refine wd_istore_n_6_2 hC dX5_faces_54 ?_
        refine wd_iincN_6_3 hC dX5_faces_55 ?_
        refine wd_goto (tgt := 34) hC dX5_faces_58 (by decide) ?_
        exact ih (i + 1) (by omega) (by omega)
  refine wd_aload_n hC dX5_faces_0 rfl rfl ?_
  refine wd_iconst (v := 0) hC dX5_faces_1 rfl ?_
  refine pf_X5_62 hC dX5_faces_2 ?_
  refine wd_ts (up_00 h0) ?_
  refine wd_iload_n hC dX5_faces_5 rfl rfl ?_
  refine wd_iconst (v := -1) hC dX5_faces_6 rfl ?_
  refine wd_icmp_eq (tgt := 18) hC dX5_faces_7 (by decide) (fun c_7 => ?_) (fun c_7 => ?_)
  · refine wd_aload_n hC dX5_faces_18 rfl rfl ?_
    refine gf_X5_13 hC dX5_faces_19 ?_
    refine wd_iconst (v := 1) hC dX5_faces_22 rfl ?_
    refine rl_many hC dX5_faces_23 1 rfl (by decide) ?_
    refine wd_if_ne (tgt := 30) hC dX5_faces_24 (by decide) (fun c_24 => ?_) (fun c_24 => absurd c_24 (by rw [hnm]; exact nI_ne0 (by omega) (by omega)))
    refine wd_iconst (v := 1) hC dX5_faces_30 rfl ?_
    refine wd_istore_n_6_2 hC dX5_faces_31 ?_
    refine wd_iconst (v := 0) hC dX5_faces_32 rfl ?_
    refine wd_istore_n_6_3 hC dX5_faces_33 ?_
    exact loop1 (nm + 1) 0 (Nat.zero_le _) (by omega)
  · refine wd_aload_n hC dX5_faces_10 rfl rfl ?_
    refine wd_iload_n hC dX5_faces_11 rfl rfl ?_
    refine cv5i hC cw_X5_134 (r_isMan hinj _ _) dX5_faces_12 (by first | decide | omega) (by decide) rfl rfl (Nat.le_of_ble_eq_true rfl) ?_
    refine wd_if_eq (tgt := 27) hC dX5_faces_15 (by decide) (fun c_15 => ?_) (fun c_15 => ?_)
    · replace c_15 := bI_0.mp c_15
      exact absurd (hq c_7) c_15
    · replace c_15 := bI_1.mp c_15
      refine wd_aload_n hC dX5_faces_18 rfl rfl ?_
      refine gf_X5_13 hC dX5_faces_19 ?_
      refine wd_iconst (v := 1) hC dX5_faces_22 rfl ?_
      refine rl_many hC dX5_faces_23 1 rfl (by decide) ?_
      refine wd_if_ne (tgt := 30) hC dX5_faces_24 (by decide) (fun c_24 => ?_) (fun c_24 => absurd c_24 (by rw [hnm]; exact nI_ne0 (by omega) (by omega)))
      refine wd_iconst (v := 1) hC dX5_faces_30 rfl ?_
      refine wd_istore_n_6_2 hC dX5_faces_31 ?_
      refine wd_iconst (v := 0) hC dX5_faces_32 rfl ?_
      refine wd_istore_n_6_3 hC dX5_faces_33 ?_
      exact loop1 (nm + 1) 0 (Nat.zero_le _) (by omega)

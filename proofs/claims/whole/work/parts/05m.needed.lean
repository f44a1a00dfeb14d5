/-! ===== the reference: needed ===== -/
theorem shl12 {nm : Nat} (h6 : nm ≤ 6) : (1 : Int32) <<< ((2 * nI nm) &&& 31) = nI (4 ^ nm) := by
  rcases (show nm = 0 ∨ nm = 1 ∨ nm = 2 ∨ nm = 3 ∨ nm = 4 ∨ nm = 5 ∨ nm = 6 by omega) with rfl | rfl | rfl | rfl | rfl | rfl | rfl <;> decide
theorem p4_6 {nm : Nat} (h6 : nm ≤ 6) : 4 ^ nm < 2 ^ 13 := by
  rcases (show nm = 0 ∨ nm = 1 ∨ nm = 2 ∨ nm = 3 ∨ nm = 4 ∨ nm = 5 ∨ nm = 6 by omega) with rfl | rfl | rfl | rfl | rfl | rfl | rfl <;> decide
abbrev nDg (nm way k : Nat) : Nat := way / 4 ^ (nm - 1 - k) % 4
theorem nDg_eq {nm way k : Nat} (h6 : nm ≤ 6) (hk : k < nm) (hw : way < 2 ^ 13) : (nI way >>> ((2 * (nI nm - 1 - nI k)) &&& 31)) &&& 3 = nI (nDg nm way k) := by
  have e : nI nm - 1 - nI k = nI (nm - 1 - k) := by rw [sub1_of (by omega), pk_sub (by omega)]
  rw [e]
  unfold nDg
  rcases (show nm - 1 - k = 0 ∨ nm - 1 - k = 1 ∨ nm - 1 - k = 2 ∨ nm - 1 - k = 3 ∨ nm - 1 - k = 4 ∨ nm - 1 - k = 5 by omega) with q | q | q | q | q | q <;> rw [q]
  · rw [pk_shrN (by omega) _ 0 (by decide), pk_andN (by omega) 2 (by decide)]
  · rw [pk_shrN (by omega) _ 2 (by decide), pk_andN (by omega) 2 (by decide)]
  · rw [pk_shrN (by omega) _ 4 (by decide), pk_andN (by omega) 2 (by decide)]
  · rw [pk_shrN (by omega) _ 6 (by decide), pk_andN (by omega) 2 (by decide)]
  · rw [pk_shrN (by omega) _ 8 (by decide), pk_andN (by omega) 2 (by decide)]
  · rw [pk_shrN (by omega) _ 10 (by decide), pk_andN (by omega) 2 (by decide)]
def ndW (nm way : Nat) (r : Nat → Int32) (n : Nat) : Nat → Int32 := fun k => if 12 ≤ k ∧ k < 12 + n then nI (nDg nm way (k - 12)) else r k
theorem ndW_0 (nm way : Nat) (r : Nat → Int32) : ndW nm way r 0 = r := funext fun k => if_neg (by omega)
theorem ndW_s (nm way : Nat) (r : Nat → Int32) (n : Nat) : upd (ndW nm way r n) (12 + n) (nI (nDg nm way n)) = ndW nm way r (n + 1) := by
  funext k
  unfold upd ndW
  by_cases h : k = 12 + n
  · rw [if_pos h, if_pos (by omega), h, show 12 + n - 12 = n by omega]
  · rw [if_neg h]
    by_cases h2 : 12 ≤ k ∧ k < 12 + n
    · rw [if_pos h2, if_pos (by omega)]
    · rw [if_neg h2, if_neg (by omega)]
def aw (nm : Nat) (r w : Nat → Int32) : Prop := ∀ k, ¬ (12 ≤ k ∧ k < 12 + nm) → w k = r k
theorem ndW_aw {nm : Nat} {r w : Nat → Int32} (h : aw nm r w) (way : Nat) : ndW nm way w nm = ndW nm way r nm := by
  funext k
  unfold ndW
  by_cases h2 : 12 ≤ k ∧ k < 12 + nm
  · rw [if_pos h2, if_pos h2]
  · rw [if_neg h2, if_neg h2, h k h2]
theorem aw_nd (nm way : Nat) (r : Nat → Int32) : aw nm r (ndW nm way r nm) := fun k hk => if_neg hk
theorem rOk_nd {W r : Nat → Int32} {nm nc : Nat} (h : rOk W r nm nc) (way : Nat) : rOk W (ndW nm way r nm) nm nc := by
  have h6 := h.1
  have e : ∀ k, k < 12 ∨ k = 30 → ndW nm way r nm k = r k := fun k hk => if_neg (by omega)
  refine ⟨h.1, h.2.1, fun m hm => ?_, h.2.2.2.1, ?_⟩
  · rw [e m (by omega), e (6 + m) (by omega)]
    exact h.2.2.1 m hm
  · rw [e 30 (by omega)]
    exact h.2.2.2.2
def ndN (nm way n : Nat) : Int32 := itr (fun k a => a + nI (nDg nm way k)) 0 n
def ndC (σ : wd_S) (w : Nat → Int32) (m : Nat) (z : Bool) : Bool := z && decide (¬ vHas σ w m < σ.1 7 m)
abbrev ndR (σ : wd_S) (nm way : Nat) : Nat → Int32 := ndW nm way (σ.1 9) nm
def ndB (σ : wd_S) (nm way : Nat) (a : Int32) : Bool := itr (ndC σ (ndR σ nm way)) (decide (¬ a ≤ ndN nm way nm)) nm
def ndS (σ : wd_S) (nm way : Nat) (s : Int32 × (Nat → Int32)) : Int32 × (Nat → Int32) := if ndB σ nm way s.1 = true then (ndN nm way nm, cpB s.2 (fun k => ndR σ nm way (12 + k)) nm) else s
def ndV (σ : wd_S) (nm : Nat) : Int32 × (Nat → Int32) := itr (ndS σ nm) (1000000, σ.1 17) (4 ^ nm)
theorem bI_d {p : Prop} [Decidable p] {x : Int32} (h : x = bI p) : x = bI (decide p = true) := by
  rw [h]
  by_cases q : p
  · rw [← bI_t q, ← bI_t (decide_eq_true q)]
  · rw [← bI_f q, ← bI_f (by simp [q])]

set_option maxRecDepth 100000 in
set_option maxHeartbeats 4000000 in
theorem r_needed_bad {V : wd_V} {ad : Nat → Nat} (hinj : wd_inj rS ad) (σ : wd_S) (h0 : σ.1 0 0 = 0) (x : Int32) (hB : ¬ (x = -1 ∨ qMan σ x)) : wd_C rS V ad 2 yX5_needed (Cond.code yX5_needed cX5_needed 7 (some .int) :: wsL_law) σ [.ref (ad 0), .int x] (wd_eq (some (.int (-1))) (σ)) := by
  refine wd_intro (lv := [some (.ref (ad 0)), some (.int x), none, none, none, none, none]) hinj (by decide) rfl (Nat.le_of_ble_eq_true rfl) rfl (Nat.le_of_ble_eq_true rfl) (fun K hC => ?_)
  refine wd_aload_n hC dX5_needed_0 rfl rfl ?_
  refine wd_iconst (v := 0) hC dX5_needed_1 rfl ?_
  refine pf_X5_62 hC dX5_needed_2 ?_
  refine wd_ts (up_00 h0) ?_
  refine wd_iload_n hC dX5_needed_5 rfl rfl ?_
  refine wd_iconst (v := -1) hC dX5_needed_6 rfl ?_
  refine wd_icmp_eq (tgt := 20) hC dX5_needed_7 (by decide) (fun c_7 => ?_) (fun c_7 => ?_)
  · exact absurd (by first | exact Or.inl c_7 | exact Or.inr c_15) hB
  · refine wd_aload_n hC dX5_needed_10 rfl rfl ?_
    refine wd_iload_n hC dX5_needed_11 rfl rfl ?_
    refine cv5i hC cw_X5_134 (r_isMan hinj _ _) dX5_needed_12 (by first | decide | omega) (by decide) rfl rfl (Nat.le_of_ble_eq_true rfl) ?_
    refine wd_if_ne (tgt := 20) hC dX5_needed_15 (by decide) (fun c_15 => ?_) (fun c_15 => ?_)
    · replace c_15 := bI_1.mp c_15
      exact absurd (by first | exact Or.inl c_7 | exact Or.inr c_15) hB
    · replace c_15 := bI_0.mp c_15
      refine wd_iconst (v := -1) hC dX5_needed_18 rfl ?_
      exact wd_iret hC rfl dX5_needed_19 rfl rfl
set_option maxRecDepth 100000 in
set_option maxHeartbeats 4000000 in
theorem r_needed {V : wd_V} {ad : Nat → Nat} (hinj : wd_inj rS ad) (σ : wd_S) (h0 : σ.1 0 0 = 0) (nm nc : Nat) (hnm : σ.1 2 1 = nI nm) (hnc : σ.1 2 0 = nI nc) (h6 : nm ≤ 6) (h3 : nc ≤ 3) (hr : rOk (σ.1 3) (σ.1 9) nm nc) (x : Int32) (m : Nat) (hxm : ¬ x = -1 → x = nI m) (hm : ¬ x = -1 → m < nm) : wd_C rS V ad 4 yX5_needed (Cond.code yX5_needed cX5_needed 7 (some .int) :: wsL_law) σ [.ref (ad 0), .int x] (wd_pi (fun r σ' => r = (if (ndV σ nm).1 = 1000000 then -9 else if x = -1 then (ndV σ nm).1 else (ndV σ nm).2 m) ∧ scrF σ σ')) := by
  refine wd_intro (lv := [some (.ref (ad 0)), some (.int x), none, none, none, none, none]) hinj (by decide) rfl (Nat.le_of_ble_eq_true rfl) rfl (Nat.le_of_ble_eq_true rfl) (fun K hC => ?_)
  have hpw := p4_6 h6
  have hq : ¬ x = -1 → qMan σ x := fun h => qm_of hnm (hxm h) (hm h) h6
  have loop : ∀ (k i : Nat) (a : Int32) (bb w0 : Nat → Int32) (o4 o5 o6 : Option Value), i ≤ (4 ^ nm) → (4 ^ nm) < i + k → aw nm (σ.1 9) w0 → itr (ndS σ nm) (1000000, σ.1 17) i = (a, bb) → wd_G rS V ad K 7 (wd_Qm rS V ad K (wd_pi (fun r σ' => r = (if (ndV σ nm).1 = 1000000 then -9 else if x = -1 then (ndV σ nm).1 else (ndV σ nm).2 m) ∧ scrF σ σ'))) 29 [some (.ref (ad 0)), some (.int x), some (.int a), some (.int (nI i)), o4, o5, o6] [] (fW σ bb (σ.1 16) w0) := by
    intro k
    induction k with
    | zero =>
      intro i a bb w0 o4 o5 o6 h1 h2 haw hst
      exact absurd h2 (by omega)
    | succ k ih =>
      intro i a bb w0 o4 o5 o6 h1 h2 haw hst
      refine wd_iload_n hC dX5_needed_29 rfl rfl ?_
      refine wd_iconst (v := 1) hC dX5_needed_30 rfl ?_
      refine wd_iconst (v := 2) hC dX5_needed_31 rfl ?_
      refine wd_aload_n hC dX5_needed_32 rfl rfl ?_
      refine gf_X5_13 hC dX5_needed_33 ?_
      refine wd_iconst (v := 1) hC dX5_needed_36 rfl ?_
      refine rl_many hC dX5_needed_37 1 rfl (by decide) ?_
      refine wd_vi (show _ = nI nm from (by rw [fW_n _ _ _ _ (by decide)]; exact hnm)) ?_
      refine wd_imul hC dX5_needed_38 ?_
      refine wd_ishl hC dX5_needed_39 ?_
      refine wd_vi (shl12 h6) ?_
      refine wd_icmp_ge (tgt := 233) hC dX5_needed_40 (by decide) (fun c_40 => ?_) (fun c_40 => ?_)
      · have hin : _ = i := (lp_ge (n := 4 ^ nm) rfl c_40 h1 (by omega)).symm
        subst hin
        have hV : ndV σ nm = (a, bb) := hst
        refine wd_iload_n hC dX5_needed_233 rfl rfl ?_
        refine wd_ldc (v := (1000000)) hC dX5_needed_234 (wL_23 _ (List.mem_of_getElem? (i := 1) rfl)) ?_
        refine wd_icmp_ne (tgt := 244) hC dX5_needed_236 (by decide) (fun c_236 => ?_) (fun c_236 => ?_)
        · refine wd_iload_n hC dX5_needed_244 rfl rfl ?_
          refine wd_iconst (v := -1) hC dX5_needed_245 rfl ?_
          refine wd_icmp_ne (tgt := 253) hC dX5_needed_246 (by decide) (fun c_246 => ?_) (fun c_246 => ?_)
          · refine wd_aload_n hC dX5_needed_253 rfl rfl ?_
            refine gf_X5_59 hC dX5_needed_254 ?_
            refine wd_iload_n hC dX5_needed_257 rfl rfl ?_
            refine rl_best hC dX5_needed_258 m (hxm c_246) (by have := hm c_246; omega) ?_
            exact wd_iretP hC rfl dX5_needed_259 (⟨_, rfl, (by rw [hV]; first | exact (if_pos c_236).symm | exact ((if_neg c_236).trans (if_pos c_246)).symm | exact ((if_neg c_236).trans (if_neg c_246)).symm), _, _, _, rfl⟩)
          · refine wd_iload_n hC dX5_needed_249 rfl rfl ?_
            refine wd_goto (tgt := 259) hC dX5_needed_250 (by decide) ?_
            exact wd_iretP hC rfl dX5_needed_259 (⟨_, rfl, (by rw [hV]; first | exact (if_pos c_236).symm | exact ((if_neg c_236).trans (if_pos c_246)).symm | exact ((if_neg c_236).trans (if_neg c_246)).symm), _, _, _, rfl⟩)
        · refine wd_bipush (v := -9) hC dX5_needed_239 rfl ?_
          refine wd_goto (tgt := 259) hC dX5_needed_241 (by decide) ?_
          exact wd_iretP hC rfl dX5_needed_259 (⟨_, rfl, (by rw [hV]; first | exact (if_pos c_236).symm | exact ((if_neg c_236).trans (if_pos c_246)).symm | exact ((if_neg c_236).trans (if_neg c_246)).symm), _, _, _, rfl⟩)
      · have hin : i < 4 ^ nm := lp_lt (n := 4 ^ nm) rfl c_40 h1 (by omega)
        refine wd_iconst (v := 0) hC dX5_needed_43 rfl ?_
        refine wd_istore_7_4 hC dX5_needed_44 ?_
        refine wd_iconst (v := 0) hC dX5_needed_46 rfl ?_
        refine wd_istore_7_5 hC dX5_needed_47 ?_
        have inner : ∀ (k j : Nat) (s : Int32), j ≤ nm → nm < j + k → ndN nm i j = s → wd_G rS V ad K 7 (wd_Qm rS V ad K (wd_pi (fun r σ' => r = (if (ndV σ nm).1 = 1000000 then -9 else if x = -1 then (ndV σ nm).1 else (ndV σ nm).2 m) ∧ scrF σ σ'))) 49 [some (.ref (ad 0)), some (.int x), some (.int a), some (.int (nI i)), some (.int s), some (.int (nI j)), o6] [] (fW σ bb (σ.1 16) (ndW nm i w0 j)) := by
          intro k
          induction k with
          | zero =>
            intro j s h1b h2b hsum
            exact absurd h2b (by omega)
          | succ k ih2 =>
            intro j s h1b h2b hsum
            refine wd_iload hC dX5_needed_49 rfl ?_
            refine wd_aload_n hC dX5_needed_51 rfl rfl ?_
            refine gf_X5_13 hC dX5_needed_52 ?_
            refine wd_iconst (v := 1) hC dX5_needed_55 rfl ?_
            refine rl_many hC dX5_needed_56 1 rfl (by decide) ?_
            refine wd_vi (show _ = nI nm from (by rw [fW_n _ _ _ _ (by decide)]; exact hnm)) ?_
            refine wd_icmp_ge (tgt := 108) hC dX5_needed_57 (by decide) (fun c_57 => ?_) (fun c_57 => ?_)
            · have hin : _ = j := (lp_ge (n := nm) rfl c_57 h1b (by omega)).symm
              subst hin
              have hN : ndN nm i nm = s := hsum
              subst hN
              refine wd_iload hC dX5_needed_108 rfl ?_
              refine wd_iload_n hC dX5_needed_110 rfl rfl ?_
              refine wd_icmp_ge (tgt := 118) hC dX5_needed_111 (by decide) (fun c_111 => ?_) (fun c_111 => ?_)
              · refine wd_iconst (v := 0) hC dX5_needed_118 rfl ?_
                refine wd_istore_7_5 hC dX5_needed_119 ?_
                refine wd_iconst (v := 0) hC dX5_needed_121 rfl ?_
                refine wd_istore_7_6 hC dX5_needed_122 ?_
                refine wd_ts (congrArg (fun w => fW σ bb (σ.1 16) w) (ndW_aw haw i)) ?_
                have inner2 : ∀ (k j : Nat) (z : Bool), j ≤ nm → nm < j + k → itr (ndC σ (ndR σ nm i)) (decide (¬ a ≤ ndN nm i nm)) j = z → wd_G rS V ad K 7 (wd_Qm rS V ad K (wd_pi (fun r σ' => r = (if (ndV σ nm).1 = 1000000 then -9 else if x = -1 then (ndV σ nm).1 else (ndV σ nm).2 m) ∧ scrF σ σ'))) 124 [some (.ref (ad 0)), some (.int x), some (.int a), some (.int (nI i)), some (.int (ndN nm i nm)), some (.int (bI (z = true))), some (.int (nI j))] [] (fW σ bb (σ.1 16) (ndR σ nm i)) := by
                  intro k
                  induction k with
                  | zero =>
                    intro j z h1b h2b hstj
                    exact absurd h2b (by omega)
                  | succ k ih2 =>
                    intro j z h1b h2b hstj
                    refine wd_iload hC dX5_needed_124 rfl ?_
                    refine wd_aload_n hC dX5_needed_126 rfl rfl ?_
                    refine gf_X5_13 hC dX5_needed_127 ?_
                    refine wd_iconst (v := 1) hC dX5_needed_130 rfl ?_
                    refine rl_many hC dX5_needed_131 1 rfl (by decide) ?_
                    refine wd_vi (show _ = nI nm from (by rw [fW_n _ _ _ _ (by decide)]; exact hnm)) ?_
                    refine wd_icmp_ge (tgt := 173) hC dX5_needed_132 (by decide) (fun c_132 => ?_) (fun c_132 => ?_)
                    · have hin : _ = j := (lp_ge (n := nm) rfl c_132 h1b (by omega)).symm
                      subst hin
                      have hZ : itr (ndC σ (ndR σ nm i)) (decide (¬ a ≤ ndN nm i nm)) nm = z := hstj
                      refine wd_iconst (v := 0) hC dX5_needed_173 rfl ?_
                      refine wd_istore_7_6 hC dX5_needed_174 ?_
                      have hzB : ndB σ nm i a = z := hZ
                      by_cases hz : z = true
                      · have inner3 : ∀ (k j : Nat), j ≤ nm → nm < j + k → wd_G rS V ad K 7 (wd_Qm rS V ad K (wd_pi (fun r σ' => r = (if (ndV σ nm).1 = 1000000 then -9 else if x = -1 then (ndV σ nm).1 else (ndV σ nm).2 m) ∧ scrF σ σ'))) 176 [some (.ref (ad 0)), some (.int x), some (.int a), some (.int (nI i)), some (.int (ndN nm i nm)), some (.int (bI (z = true))), some (.int (nI j))] [] (fW σ (cpB bb (fun k => ndR σ nm i (12 + k)) j) (σ.1 16) (ndR σ nm i)) := by
                          intro k
                          induction k with
                          | zero =>
                            intro j  h1b h2b 
                            exact absurd h2b (by omega)
                          | succ k ih2 =>
                            intro j  h1b h2b 
                            refine wd_iload hC dX5_needed_176 rfl ?_
                            refine wd_aload_n hC dX5_needed_178 rfl rfl ?_
                            refine gf_X5_13 hC dX5_needed_179 ?_
                            refine wd_iconst (v := 1) hC dX5_needed_182 rfl ?_
                            refine rl_many hC dX5_needed_183 1 rfl (by decide) ?_
                            refine wd_vi (show _ = nI nm from (by rw [fW_n _ _ _ _ (by decide)]; exact hnm)) ?_
                            refine wd_icmp_ge (tgt := 215) hC dX5_needed_184 (by decide) (fun c_184 => ?_) (fun c_184 => ?_)
                            · have hin : _ = j := (lp_ge (n := nm) rfl c_184 h1b (by omega)).symm
                              subst hin
                              refine wd_iload hC dX5_needed_215 rfl ?_
                              refine wd_if_eq (tgt := 225) hC dX5_needed_217 (by decide) (fun c_217 => ?_) (fun c_217 => ?_)
                              · replace c_217 := bI_0.mp c_217
                                exact absurd hz c_217
                              · replace c_217 := bI_1.mp c_217
                                refine wd_iload hC dX5_needed_220 rfl ?_
                                refine wd_goto (tgt := 226) hC dX5_needed_222 (by decide) ?_
                                refine wd_istore_n_7_2 hC dX5_needed_226 ?_
                                refine wd_iincN_7_3 hC dX5_needed_227 ?_
                                refine wd_goto (tgt := 29) hC dX5_needed_230 (by decide) ?_
                                exact ih (i + 1) _ _ _ _ _ _ (by omega) (by omega) (aw_nd _ _ _) (by rw [itr, hst, ndS, if_pos (hzB.trans hz)])
                            · have hin : j < nm := lp_lt (n := nm) rfl c_184 h1b (by omega)
                              refine wd_iload hC dX5_needed_187 rfl ?_
                              refine wd_if_eq (tgt := 215) hC dX5_needed_189 (by decide) (fun c_189 => ?_) (fun c_189 => ?_)
                              · replace c_189 := bI_0.mp c_189
                                exact absurd hz c_189
                              · replace c_189 := bI_1.mp c_189
                                refine wd_aload_n hC dX5_needed_192 rfl rfl ?_
                                refine gf_X5_59 hC dX5_needed_193 ?_
                                refine wd_iload hC dX5_needed_196 rfl ?_
                                refine wd_aload_n hC dX5_needed_198 rfl rfl ?_
                                refine gf_X5_37 hC dX5_needed_199 ?_
                                refine wd_bipush (v := 12) hC dX5_needed_202 rfl ?_
                                refine wd_iload hC dX5_needed_204 rfl ?_
                                refine wd_iadd hC dX5_needed_206 ?_
                                refine rl_w hC dX5_needed_207 (12 + j) (addI rfl 12) (by omega) ?_
                                refine wd_vi (show _ = (ndR σ nm i) (12 + j) from rfl) ?_
                                refine rs_best hC dX5_needed_208 (j) rfl (by omega) ?_
                                refine wd_ts (fW_up17 _ _ _ _ _ _) ?_
                                refine wd_ts (congrArg (fun b => fW σ b (σ.1 16) (ndR σ nm i)) (cpB_s bb (fun k => ndR σ nm i (12 + k)) j)) ?_
                                refine wd_iincN_7_6 hC dX5_needed_209 ?_
                                refine wd_goto (tgt := 176) hC dX5_needed_212 (by decide) ?_
                                exact ih2 (j + 1) (by omega) (by omega)
                        refine wd_ts (congrArg (fun b => fW σ b (σ.1 16) _) (cpB_0 bb (fun k => ndR σ nm i (12 + k))).symm) ?_
                        exact inner3 (nm + 1) 0 (Nat.zero_le _) (by omega)
                      · refine wd_iload hC dX5_needed_176 rfl ?_
                        refine wd_aload_n hC dX5_needed_178 rfl rfl ?_
                        refine gf_X5_13 hC dX5_needed_179 ?_
                        refine wd_iconst (v := 1) hC dX5_needed_182 rfl ?_
                        refine rl_many hC dX5_needed_183 1 rfl (by decide) ?_
                        refine wd_vi (show _ = nI nm from (by rw [fW_n _ _ _ _ (by decide)]; exact hnm)) ?_
                        refine wd_icmp_ge (tgt := 215) hC dX5_needed_184 (by decide) (fun c_184 => ?_) (fun c_184 => ?_)
                        · refine wd_iload hC dX5_needed_215 rfl ?_
                          refine wd_if_eq (tgt := 225) hC dX5_needed_217 (by decide) (fun c_217 => ?_) (fun c_217 => ?_)
                          · replace c_217 := bI_0.mp c_217
                            refine wd_iload_n hC dX5_needed_225 rfl rfl ?_
                            refine wd_istore_n_7_2 hC dX5_needed_226 ?_
                            refine wd_iincN_7_3 hC dX5_needed_227 ?_
                            refine wd_goto (tgt := 29) hC dX5_needed_230 (by decide) ?_
                            exact ih (i + 1) _ _ _ _ _ _ (by omega) (by omega) (aw_nd _ _ _) (by rw [itr, hst, ndS, if_neg (fun h => hz (hzB.symm.trans h))])
                          · replace c_217 := bI_1.mp c_217
                            exact absurd c_217 hz
                        · refine wd_iload hC dX5_needed_187 rfl ?_
                          refine wd_if_eq (tgt := 215) hC dX5_needed_189 (by decide) (fun c_189 => ?_) (fun c_189 => ?_)
                          · replace c_189 := bI_0.mp c_189
                            refine wd_iload hC dX5_needed_215 rfl ?_
                            refine wd_if_eq (tgt := 225) hC dX5_needed_217 (by decide) (fun c_217 => ?_) (fun c_217 => ?_)
                            · replace c_217 := bI_0.mp c_217
                              refine wd_iload_n hC dX5_needed_225 rfl rfl ?_
                              refine wd_istore_n_7_2 hC dX5_needed_226 ?_
                              refine wd_iincN_7_3 hC dX5_needed_227 ?_
                              refine wd_goto (tgt := 29) hC dX5_needed_230 (by decide) ?_
                              exact ih (i + 1) _ _ _ _ _ _ (by omega) (by omega) (aw_nd _ _ _) (by rw [itr, hst, ndS, if_neg (fun h => hz (hzB.symm.trans h))])
                            · replace c_217 := bI_1.mp c_217
                              exact absurd c_217 hz
                          · replace c_189 := bI_1.mp c_189
                            exact absurd c_189 hz
                    · have hin : j < nm := lp_lt (n := nm) rfl c_132 h1b (by omega)
                      refine wd_iload hC dX5_needed_135 rfl ?_
                      refine wd_if_eq (tgt := 173) hC dX5_needed_137 (by decide) (fun c_137 => ?_) (fun c_137 => ?_)
                      · replace c_137 := bI_0.mp c_137
                        have hzf : z = false := by cases z; rfl; exact absurd rfl c_137
                        have hZ : itr (ndC σ (ndR σ nm i)) (decide (¬ a ≤ ndN nm i nm)) nm = z := by rw [hzf] at hstj; rw [hzf]; exact itr_stop (fun _ => rfl) hstj nm h1b
                        refine wd_iconst (v := 0) hC dX5_needed_173 rfl ?_
                        refine wd_istore_7_6 hC dX5_needed_174 ?_
                        have hzB : ndB σ nm i a = z := hZ
                        by_cases hz : z = true
                        · have inner3 : ∀ (k j : Nat), j ≤ nm → nm < j + k → wd_G rS V ad K 7 (wd_Qm rS V ad K (wd_pi (fun r σ' => r = (if (ndV σ nm).1 = 1000000 then -9 else if x = -1 then (ndV σ nm).1 else (ndV σ nm).2 m) ∧ scrF σ σ'))) 176 [some (.ref (ad 0)), some (.int x), some (.int a), some (.int (nI i)), some (.int (ndN nm i nm)), some (.int (bI (z = true))), some (.int (nI j))] [] (fW σ (cpB bb (fun k => ndR σ nm i (12 + k)) j) (σ.1 16) (ndR σ nm i)) := by
                            intro k
                            induction k with
                            | zero =>
                              intro j  h1b h2b 
                              exact absurd h2b (by omega)
                            | succ k ih2 =>
                              intro j  h1b h2b 
                              refine wd_iload hC dX5_needed_176 rfl ?_
                              refine wd_aload_n hC dX5_needed_178 rfl rfl ?_
                              refine gf_X5_13 hC dX5_needed_179 ?_
                              refine wd_iconst (v := 1) hC dX5_needed_182 rfl ?_
                              refine rl_many hC dX5_needed_183 1 rfl (by decide) ?_
                              refine wd_vi (show _ = nI nm from (by rw [fW_n _ _ _ _ (by decide)]; exact hnm)) ?_
                              refine wd_icmp_ge (tgt := 215) hC dX5_needed_184 (by decide) (fun c_184 => ?_) (fun c_184 => ?_)
                              · have hin : _ = j := (lp_ge (n := nm) rfl c_184 h1b (by omega)).symm
                                subst hin
                                refine wd_iload hC dX5_needed_215 rfl ?_
                                refine wd_if_eq (tgt := 225) hC dX5_needed_217 (by decide) (fun c_217 => ?_) (fun c_217 => ?_)
                                · replace c_217 := bI_0.mp c_217
                                  exact absurd hz c_217
                                · replace c_217 := bI_1.mp c_217
                                  refine wd_iload hC dX5_needed_220 rfl ?_
                                  refine wd_goto (tgt := 226) hC dX5_needed_222 (by decide) ?_
                                  refine wd_istore_n_7_2 hC dX5_needed_226 ?_
                                  refine wd_iincN_7_3 hC dX5_needed_227 ?_
                                  refine wd_goto (tgt := 29) hC dX5_needed_230 (by decide) ?_
                                  exact ih (i + 1) _ _ _ _ _ _ (by omega) (by omega) (aw_nd _ _ _) (by rw [itr, hst, ndS, if_pos (hzB.trans hz)])
                              · have hin : j < nm := lp_lt (n := nm) rfl c_184 h1b (by omega)
                                refine wd_iload hC dX5_needed_187 rfl ?_
                                refine wd_if_eq (tgt := 215) hC dX5_needed_189 (by decide) (fun c_189 => ?_) (fun c_189 => ?_)
                                · replace c_189 := bI_0.mp c_189
                                  exact absurd hz c_189
                                · replace c_189 := bI_1.mp c_189
                                  refine wd_aload_n hC dX5_needed_192 rfl rfl ?_
                                  refine gf_X5_59 hC dX5_needed_193 ?_
                                  refine wd_iload hC dX5_needed_196 rfl ?_
                                  refine wd_aload_n hC dX5_needed_198 rfl rfl ?_
                                  refine gf_X5_37 hC dX5_needed_199 ?_
                                  refine wd_bipush (v := 12) hC dX5_needed_202 rfl ?_
                                  refine wd_iload hC dX5_needed_204 rfl ?_
                                  refine wd_iadd hC dX5_needed_206 ?_
                                  refine rl_w hC dX5_needed_207 (12 + j) (addI rfl 12) (by omega) ?_
                                  refine wd_vi (show _ = (ndR σ nm i) (12 + j) from rfl) ?_
                                  refine rs_best hC dX5_needed_208 (j) rfl (by omega) ?_
                                  refine wd_ts (fW_up17 _ _ _ _ _ _) ?_
                                  refine wd_ts (congrArg (fun b => fW σ b (σ.1 16) (ndR σ nm i)) (cpB_s bb (fun k => ndR σ nm i (12 + k)) j)) ?_
                                  refine wd_iincN_7_6 hC dX5_needed_209 ?_
                                  refine wd_goto (tgt := 176) hC dX5_needed_212 (by decide) ?_
                                  exact ih2 (j + 1) (by omega) (by omega)
                          refine wd_ts (congrArg (fun b => fW σ b (σ.1 16) _) (cpB_0 bb (fun k => ndR σ nm i (12 + k))).symm) ?_
                          exact inner3 (nm + 1) 0 (Nat.zero_le _) (by omega)
                        · refine wd_iload hC dX5_needed_176 rfl ?_
                          refine wd_aload_n hC dX5_needed_178 rfl rfl ?_
                          refine gf_X5_13 hC dX5_needed_179 ?_
                          refine wd_iconst (v := 1) hC dX5_needed_182 rfl ?_
                          refine rl_many hC dX5_needed_183 1 rfl (by decide) ?_
                          refine wd_vi (show _ = nI nm from (by rw [fW_n _ _ _ _ (by decide)]; exact hnm)) ?_
                          refine wd_icmp_ge (tgt := 215) hC dX5_needed_184 (by decide) (fun c_184 => ?_) (fun c_184 => ?_)
                          · refine wd_iload hC dX5_needed_215 rfl ?_
                            refine wd_if_eq (tgt := 225) hC dX5_needed_217 (by decide) (fun c_217 => ?_) (fun c_217 => ?_)
                            · replace c_217 := bI_0.mp c_217
                              refine wd_iload_n hC dX5_needed_225 rfl rfl ?_
                              refine wd_istore_n_7_2 hC dX5_needed_226 ?_
                              refine wd_iincN_7_3 hC dX5_needed_227 ?_
                              refine wd_goto (tgt := 29) hC dX5_needed_230 (by decide) ?_
                              exact ih (i + 1) _ _ _ _ _ _ (by omega) (by omega) (aw_nd _ _ _) (by rw [itr, hst, ndS, if_neg (fun h => hz (hzB.symm.trans h))])
                            · replace c_217 := bI_1.mp c_217
                              exact absurd c_217 hz
                          · refine wd_iload hC dX5_needed_187 rfl ?_
                            refine wd_if_eq (tgt := 215) hC dX5_needed_189 (by decide) (fun c_189 => ?_) (fun c_189 => ?_)
                            · replace c_189 := bI_0.mp c_189
                              refine wd_iload hC dX5_needed_215 rfl ?_
                              refine wd_if_eq (tgt := 225) hC dX5_needed_217 (by decide) (fun c_217 => ?_) (fun c_217 => ?_)
                              · replace c_217 := bI_0.mp c_217
                                refine wd_iload_n hC dX5_needed_225 rfl rfl ?_
                                refine wd_istore_n_7_2 hC dX5_needed_226 ?_
                                refine wd_iincN_7_3 hC dX5_needed_227 ?_
                                refine wd_goto (tgt := 29) hC dX5_needed_230 (by decide) ?_
                                exact ih (i + 1) _ _ _ _ _ _ (by omega) (by omega) (aw_nd _ _ _) (by rw [itr, hst, ndS, if_neg (fun h => hz (hzB.symm.trans h))])
                              · replace c_217 := bI_1.mp c_217
                                exact absurd c_217 hz
                            · replace c_189 := bI_1.mp c_189
                              exact absurd c_189 hz
                      · replace c_137 := bI_1.mp c_137
                        refine wd_aload_n hC dX5_needed_140 rfl rfl ?_
                        refine wd_aload_n hC dX5_needed_141 rfl rfl ?_
                        refine gf_X5_37 hC dX5_needed_142 ?_
                        refine wd_iload hC dX5_needed_145 rfl ?_
                        refine cv5i hC cw_X5_142 (r_hasBy hinj _ 10 (Or.inr rfl) nm nc (by rw [fW_n _ _ _ _ (by decide)]; exact rOk_nd hr i) _ j rfl hin) dX5_needed_147 (by first | decide | omega) (by decide) rfl rfl (Nat.le_of_ble_eq_true rfl) ?_
                        refine wd_vi (show _ = vHas σ (ndR σ nm i) j from (by rw [vHas_fW]; rfl)) ?_
                        refine wd_aload_n hC dX5_needed_150 rfl rfl ?_
                        refine gf_X5_28 hC dX5_needed_151 ?_
                        refine wd_iload hC dX5_needed_154 rfl ?_
                        refine rl_needs hC dX5_needed_156 (j) rfl (by omega) ?_
                        refine wd_vi (show _ = σ.1 7 j from (by rw [fW_n _ _ _ _ (by decide)])) ?_
                        refine wd_icmp_lt (tgt := 164) hC dX5_needed_157 (by decide) (fun c_157 => ?_) (fun c_157 => ?_)
                        · refine wd_iconst (v := 0) hC dX5_needed_164 rfl ?_
                          refine wd_istore_7_5 hC dX5_needed_165 ?_
                          refine wd_iincN_7_6 hC dX5_needed_167 ?_
                          refine wd_goto (tgt := 124) hC dX5_needed_170 (by decide) ?_
                          refine wd_is7 (show _ = bI (ndC σ (ndR σ nm i) j z = true) from (by first | exact hg_2 c_137 c_157 | exact hg_1 c_137 (fun h => h c_157))) ?_
                          exact ih2 (j + 1) _ (by omega) (by omega) (by rw [itr, hstj])
                        · refine wd_iconst (v := 1) hC dX5_needed_160 rfl ?_
                          refine wd_goto (tgt := 165) hC dX5_needed_161 (by decide) ?_
                          refine wd_istore_7_5 hC dX5_needed_165 ?_
                          refine wd_iincN_7_6 hC dX5_needed_167 ?_
                          refine wd_goto (tgt := 124) hC dX5_needed_170 (by decide) ?_
                          refine wd_is7 (show _ = bI (ndC σ (ndR σ nm i) j z = true) from (by first | exact hg_2 c_137 c_157 | exact hg_1 c_137 (fun h => h c_157))) ?_
                          exact ih2 (j + 1) _ (by omega) (by omega) (by rw [itr, hstj])
                refine wd_is7 (show _ = bI (decide (¬ a ≤ ndN nm i nm) = true) from bI_d (by first | exact bI_f (fun h => h c_111) | exact bI_t c_111)) ?_
                exact inner2 (nm + 1) 0 _ (Nat.zero_le _) (by omega) rfl
              · refine wd_iconst (v := 1) hC dX5_needed_114 rfl ?_
                refine wd_goto (tgt := 119) hC dX5_needed_115 (by decide) ?_
                refine wd_istore_7_5 hC dX5_needed_119 ?_
                refine wd_iconst (v := 0) hC dX5_needed_121 rfl ?_
                refine wd_istore_7_6 hC dX5_needed_122 ?_
                refine wd_ts (congrArg (fun w => fW σ bb (σ.1 16) w) (ndW_aw haw i)) ?_
                have inner2 : ∀ (k j : Nat) (z : Bool), j ≤ nm → nm < j + k → itr (ndC σ (ndR σ nm i)) (decide (¬ a ≤ ndN nm i nm)) j = z → wd_G rS V ad K 7 (wd_Qm rS V ad K (wd_pi (fun r σ' => r = (if (ndV σ nm).1 = 1000000 then -9 else if x = -1 then (ndV σ nm).1 else (ndV σ nm).2 m) ∧ scrF σ σ'))) 124 [some (.ref (ad 0)), some (.int x), some (.int a), some (.int (nI i)), some (.int (ndN nm i nm)), some (.int (bI (z = true))), some (.int (nI j))] [] (fW σ bb (σ.1 16) (ndR σ nm i)) := by
                  intro k
                  induction k with
                  | zero =>
                    intro j z h1b h2b hstj
                    exact absurd h2b (by omega)
                  | succ k ih2 =>
                    intro j z h1b h2b hstj
                    refine wd_iload hC dX5_needed_124 rfl ?_
                    refine wd_aload_n hC dX5_needed_126 rfl rfl ?_
                    refine gf_X5_13 hC dX5_needed_127 ?_
                    refine wd_iconst (v := 1) hC dX5_needed_130 rfl ?_
                    refine rl_many hC dX5_needed_131 1 rfl (by decide) ?_
                    refine wd_vi (show _ = nI nm from (by rw [fW_n _ _ _ _ (by decide)]; exact hnm)) ?_
                    refine wd_icmp_ge (tgt := 173) hC dX5_needed_132 (by decide) (fun c_132 => ?_) (fun c_132 => ?_)
                    · have hin : _ = j := (lp_ge (n := nm) rfl c_132 h1b (by omega)).symm
                      subst hin
                      have hZ : itr (ndC σ (ndR σ nm i)) (decide (¬ a ≤ ndN nm i nm)) nm = z := hstj
                      refine wd_iconst (v := 0) hC dX5_needed_173 rfl ?_
                      refine wd_istore_7_6 hC dX5_needed_174 ?_
                      have hzB : ndB σ nm i a = z := hZ
                      by_cases hz : z = true
                      · have inner3 : ∀ (k j : Nat), j ≤ nm → nm < j + k → wd_G rS V ad K 7 (wd_Qm rS V ad K (wd_pi (fun r σ' => r = (if (ndV σ nm).1 = 1000000 then -9 else if x = -1 then (ndV σ nm).1 else (ndV σ nm).2 m) ∧ scrF σ σ'))) 176 [some (.ref (ad 0)), some (.int x), some (.int a), some (.int (nI i)), some (.int (ndN nm i nm)), some (.int (bI (z = true))), some (.int (nI j))] [] (fW σ (cpB bb (fun k => ndR σ nm i (12 + k)) j) (σ.1 16) (ndR σ nm i)) := by
                          intro k
                          induction k with
                          | zero =>
                            intro j  h1b h2b 
                            exact absurd h2b (by omega)
                          | succ k ih2 =>
                            intro j  h1b h2b 
                            refine wd_iload hC dX5_needed_176 rfl ?_
                            refine wd_aload_n hC dX5_needed_178 rfl rfl ?_
                            refine gf_X5_13 hC dX5_needed_179 ?_
                            refine wd_iconst (v := 1) hC dX5_needed_182 rfl ?_
                            refine rl_many hC dX5_needed_183 1 rfl (by decide) ?_
                            refine wd_vi (show _ = nI nm from (by rw [fW_n _ _ _ _ (by decide)]; exact hnm)) ?_
                            refine wd_icmp_ge (tgt := 215) hC dX5_needed_184 (by decide) (fun c_184 => ?_) (fun c_184 => ?_)
                            · have hin : _ = j := (lp_ge (n := nm) rfl c_184 h1b (by omega)).symm
                              subst hin
                              refine wd_iload hC dX5_needed_215 rfl ?_
                              refine wd_if_eq (tgt := 225) hC dX5_needed_217 (by decide) (fun c_217 => ?_) (fun c_217 => ?_)
                              · replace c_217 := bI_0.mp c_217
                                exact absurd hz c_217
                              · replace c_217 := bI_1.mp c_217
                                refine wd_iload hC dX5_needed_220 rfl ?_
                                refine wd_goto (tgt := 226) hC dX5_needed_222 (by decide) ?_
                                refine wd_istore_n_7_2 hC dX5_needed_226 ?_
                                refine wd_iincN_7_3 hC dX5_needed_227 ?_
                                refine wd_goto (tgt := 29) hC dX5_needed_230 (by decide) ?_
                                exact ih (i + 1) _ _ _ _ _ _ (by omega) (by omega) (aw_nd _ _ _) (by rw [itr, hst, ndS, if_pos (hzB.trans hz)])
                            · have hin : j < nm := lp_lt (n := nm) rfl c_184 h1b (by omega)
                              refine wd_iload hC dX5_needed_187 rfl ?_
                              refine wd_if_eq (tgt := 215) hC dX5_needed_189 (by decide) (fun c_189 => ?_) (fun c_189 => ?_)
                              · replace c_189 := bI_0.mp c_189
                                exact absurd hz c_189
                              · replace c_189 := bI_1.mp c_189
                                refine wd_aload_n hC dX5_needed_192 rfl rfl ?_
                                refine gf_X5_59 hC dX5_needed_193 ?_
                                refine wd_iload hC dX5_needed_196 rfl ?_
                                refine wd_aload_n hC dX5_needed_198 rfl rfl ?_
                                refine gf_X5_37 hC dX5_needed_199 ?_
                                refine wd_bipush (v := 12) hC dX5_needed_202 rfl ?_
                                refine wd_iload hC dX5_needed_204 rfl ?_
                                refine wd_iadd hC dX5_needed_206 ?_
                                refine rl_w hC dX5_needed_207 (12 + j) (addI rfl 12) (by omega) ?_
                                refine wd_vi (show _ = (ndR σ nm i) (12 + j) from rfl) ?_
                                refine rs_best hC dX5_needed_208 (j) rfl (by omega) ?_
                                refine wd_ts (fW_up17 _ _ _ _ _ _) ?_
                                refine wd_ts (congrArg (fun b => fW σ b (σ.1 16) (ndR σ nm i)) (cpB_s bb (fun k => ndR σ nm i (12 + k)) j)) ?_
                                refine wd_iincN_7_6 hC dX5_needed_209 ?_
                                refine wd_goto (tgt := 176) hC dX5_needed_212 (by decide) ?_
                                exact ih2 (j + 1) (by omega) (by omega)
                        refine wd_ts (congrArg (fun b => fW σ b (σ.1 16) _) (cpB_0 bb (fun k => ndR σ nm i (12 + k))).symm) ?_
                        exact inner3 (nm + 1) 0 (Nat.zero_le _) (by omega)
                      · refine wd_iload hC dX5_needed_176 rfl ?_
                        refine wd_aload_n hC dX5_needed_178 rfl rfl ?_
                        refine gf_X5_13 hC dX5_needed_179 ?_
                        refine wd_iconst (v := 1) hC dX5_needed_182 rfl ?_
                        refine rl_many hC dX5_needed_183 1 rfl (by decide) ?_
                        refine wd_vi (show _ = nI nm from (by rw [fW_n _ _ _ _ (by decide)]; exact hnm)) ?_
                        refine wd_icmp_ge (tgt := 215) hC dX5_needed_184 (by decide) (fun c_184 => ?_) (fun c_184 => ?_)
                        · refine wd_iload hC dX5_needed_215 rfl ?_
                          refine wd_if_eq (tgt := 225) hC dX5_needed_217 (by decide) (fun c_217 => ?_) (fun c_217 => ?_)
                          · replace c_217 := bI_0.mp c_217
                            refine wd_iload_n hC dX5_needed_225 rfl rfl ?_
                            refine wd_istore_n_7_2 hC dX5_needed_226 ?_
                            refine wd_iincN_7_3 hC dX5_needed_227 ?_
                            refine wd_goto (tgt := 29) hC dX5_needed_230 (by decide) ?_
                            exact ih (i + 1) _ _ _ _ _ _ (by omega) (by omega) (aw_nd _ _ _) (by rw [itr, hst, ndS, if_neg (fun h => hz (hzB.symm.trans h))])
                          · replace c_217 := bI_1.mp c_217
                            exact absurd c_217 hz
                        · refine wd_iload hC dX5_needed_187 rfl ?_
                          refine wd_if_eq (tgt := 215) hC dX5_needed_189 (by decide) (fun c_189 => ?_) (fun c_189 => ?_)
                          · replace c_189 := bI_0.mp c_189
                            refine wd_iload hC dX5_needed_215 rfl ?_
                            refine wd_if_eq (tgt := 225) hC dX5_needed_217 (by decide) (fun c_217 => ?_) (fun c_217 => ?_)
                            · replace c_217 := bI_0.mp c_217
                              refine wd_iload_n hC dX5_needed_225 rfl rfl ?_
                              refine wd_istore_n_7_2 hC dX5_needed_226 ?_
                              refine wd_iincN_7_3 hC dX5_needed_227 ?_
                              refine wd_goto (tgt := 29) hC dX5_needed_230 (by decide) ?_
                              exact ih (i + 1) _ _ _ _ _ _ (by omega) (by omega) (aw_nd _ _ _) (by rw [itr, hst, ndS, if_neg (fun h => hz (hzB.symm.trans h))])
                            · replace c_217 := bI_1.mp c_217
                              exact absurd c_217 hz
                          · replace c_189 := bI_1.mp c_189
                            exact absurd c_189 hz
                    · have hin : j < nm := lp_lt (n := nm) rfl c_132 h1b (by omega)
                      refine wd_iload hC dX5_needed_135 rfl ?_
                      refine wd_if_eq (tgt := 173) hC dX5_needed_137 (by decide) (fun c_137 => ?_) (fun c_137 => ?_)
                      · replace c_137 := bI_0.mp c_137
                        have hzf : z = false := by cases z; rfl; exact absurd rfl c_137
                        have hZ : itr (ndC σ (ndR σ nm i)) (decide (¬ a ≤ ndN nm i nm)) nm = z := by rw [hzf] at hstj; rw [hzf]; exact itr_stop (fun _ => rfl) hstj nm h1b
                        refine wd_iconst (v := 0) hC dX5_needed_173 rfl ?_
                        refine wd_istore_7_6 hC dX5_needed_174 ?_
                        have hzB : ndB σ nm i a = z := hZ
                        by_cases hz : z = true
                        · have inner3 : ∀ (k j : Nat), j ≤ nm → nm < j + k → wd_G rS V ad K 7 (wd_Qm rS V ad K (wd_pi (fun r σ' => r = (if (ndV σ nm).1 = 1000000 then -9 else if x = -1 then (ndV σ nm).1 else (ndV σ nm).2 m) ∧ scrF σ σ'))) 176 [some (.ref (ad 0)), some (.int x), some (.int a), some (.int (nI i)), some (.int (ndN nm i nm)), some (.int (bI (z = true))), some (.int (nI j))] [] (fW σ (cpB bb (fun k => ndR σ nm i (12 + k)) j) (σ.1 16) (ndR σ nm i)) := by
                            intro k
                            induction k with
                            | zero =>
                              intro j  h1b h2b 
                              exact absurd h2b (by omega)
                            | succ k ih2 =>
                              intro j  h1b h2b 
                              refine wd_iload hC dX5_needed_176 rfl ?_
                              refine wd_aload_n hC dX5_needed_178 rfl rfl ?_
                              refine gf_X5_13 hC dX5_needed_179 ?_
                              refine wd_iconst (v := 1) hC dX5_needed_182 rfl ?_
                              refine rl_many hC dX5_needed_183 1 rfl (by decide) ?_
                              refine wd_vi (show _ = nI nm from (by rw [fW_n _ _ _ _ (by decide)]; exact hnm)) ?_
                              refine wd_icmp_ge (tgt := 215) hC dX5_needed_184 (by decide) (fun c_184 => ?_) (fun c_184 => ?_)
                              · have hin : _ = j := (lp_ge (n := nm) rfl c_184 h1b (by omega)).symm
                                subst hin
                                refine wd_iload hC dX5_needed_215 rfl ?_
                                refine wd_if_eq (tgt := 225) hC dX5_needed_217 (by decide) (fun c_217 => ?_) (fun c_217 => ?_)
                                · replace c_217 := bI_0.mp c_217
                                  exact absurd hz c_217
                                · replace c_217 := bI_1.mp c_217
                                  refine wd_iload hC dX5_needed_220 rfl ?_
                                  refine wd_goto (tgt := 226) hC dX5_needed_222 (by decide) ?_
                                  refine wd_istore_n_7_2 hC dX5_needed_226 ?_
                                  refine wd_iincN_7_3 hC dX5_needed_227 ?_
                                  refine wd_goto (tgt := 29) hC dX5_needed_230 (by decide) ?_
                                  exact ih (i + 1) _ _ _ _ _ _ (by omega) (by omega) (aw_nd _ _ _) (by rw [itr, hst, ndS, if_pos (hzB.trans hz)])
                              · have hin : j < nm := lp_lt (n := nm) rfl c_184 h1b (by omega)
                                refine wd_iload hC dX5_needed_187 rfl ?_
                                refine wd_if_eq (tgt := 215) hC dX5_needed_189 (by decide) (fun c_189 => ?_) (fun c_189 => ?_)
                                · replace c_189 := bI_0.mp c_189
                                  exact absurd hz c_189
                                · replace c_189 := bI_1.mp c_189
                                  refine wd_aload_n hC dX5_needed_192 rfl rfl ?_
                                  refine gf_X5_59 hC dX5_needed_193 ?_
                                  refine wd_iload hC dX5_needed_196 rfl ?_
                                  refine wd_aload_n hC dX5_needed_198 rfl rfl ?_
                                  refine gf_X5_37 hC dX5_needed_199 ?_
                                  refine wd_bipush (v := 12) hC dX5_needed_202 rfl ?_
                                  refine wd_iload hC dX5_needed_204 rfl ?_
                                  refine wd_iadd hC dX5_needed_206 ?_
                                  refine rl_w hC dX5_needed_207 (12 + j) (addI rfl 12) (by omega) ?_
                                  refine wd_vi (show _ = (ndR σ nm i) (12 + j) from rfl) ?_
                                  refine rs_best hC dX5_needed_208 (j) rfl (by omega) ?_
                                  refine wd_ts (fW_up17 _ _ _ _ _ _) ?_
                                  refine wd_ts (congrArg (fun b => fW σ b (σ.1 16) (ndR σ nm i)) (cpB_s bb (fun k => ndR σ nm i (12 + k)) j)) ?_
                                  refine wd_iincN_7_6 hC dX5_needed_209 ?_
                                  refine wd_goto (tgt := 176) hC dX5_needed_212 (by decide) ?_
                                  exact ih2 (j + 1) (by omega) (by omega)
                          refine wd_ts (congrArg (fun b => fW σ b (σ.1 16) _) (cpB_0 bb (fun k => ndR σ nm i (12 + k))).symm) ?_
                          exact inner3 (nm + 1) 0 (Nat.zero_le _) (by omega)
                        · refine wd_iload hC dX5_needed_176 rfl ?_
                          refine wd_aload_n hC dX5_needed_178 rfl rfl ?_
                          refine gf_X5_13 hC dX5_needed_179 ?_
                          refine wd_iconst (v := 1) hC dX5_needed_182 rfl ?_
                          refine rl_many hC dX5_needed_183 1 rfl (by decide) ?_
                          refine wd_vi (show _ = nI nm from (by rw [fW_n _ _ _ _ (by decide)]; exact hnm)) ?_
                          refine wd_icmp_ge (tgt := 215) hC dX5_needed_184 (by decide) (fun c_184 => ?_) (fun c_184 => ?_)
                          · refine wd_iload hC dX5_needed_215 rfl ?_
                            refine wd_if_eq (tgt := 225) hC dX5_needed_217 (by decide) (fun c_217 => ?_) (fun c_217 => ?_)
                            · replace c_217 := bI_0.mp c_217
                              refine wd_iload_n hC dX5_needed_225 rfl rfl ?_
                              refine wd_istore_n_7_2 hC dX5_needed_226 ?_
                              refine wd_iincN_7_3 hC dX5_needed_227 ?_
                              refine wd_goto (tgt := 29) hC dX5_needed_230 (by decide) ?_
                              exact ih (i + 1) _ _ _ _ _ _ (by omega) (by omega) (aw_nd _ _ _) (by rw [itr, hst, ndS, if_neg (fun h => hz (hzB.symm.trans h))])
                            · replace c_217 := bI_1.mp c_217
                              exact absurd c_217 hz
                          · refine wd_iload hC dX5_needed_187 rfl ?_
                            refine wd_if_eq (tgt := 215) hC dX5_needed_189 (by decide) (fun c_189 => ?_) (fun c_189 => ?_)
                            · replace c_189 := bI_0.mp c_189
                              refine wd_iload hC dX5_needed_215 rfl ?_
                              refine wd_if_eq (tgt := 225) hC dX5_needed_217 (by decide) (fun c_217 => ?_) (fun c_217 => ?_)
                              · replace c_217 := bI_0.mp c_217
                                refine wd_iload_n hC dX5_needed_225 rfl rfl ?_
                                refine wd_istore_n_7_2 hC dX5_needed_226 ?_
                                refine wd_iincN_7_3 hC dX5_needed_227 ?_
                                refine wd_goto (tgt := 29) hC dX5_needed_230 (by decide) ?_
                                exact ih (i + 1) _ _ _ _ _ _ (by omega) (by omega) (aw_nd _ _ _) (by rw [itr, hst, ndS, if_neg (fun h => hz (hzB.symm.trans h))])
                              · replace c_217 := bI_1.mp c_217
                                exact absurd c_217 hz
                            · replace c_189 := bI_1.mp c_189
                              exact absurd c_189 hz
                      · replace c_137 := bI_1.mp c_137
                        refine wd_aload_n hC dX5_needed_140 rfl rfl ?_
                        refine wd_aload_n hC dX5_needed_141 rfl rfl ?_
                        refine gf_X5_37 hC dX5_needed_142 ?_
                        refine wd_iload hC dX5_needed_145 rfl ?_
                        refine cv5i hC cw_X5_142 (r_hasBy hinj _ 10 (Or.inr rfl) nm nc (by rw [fW_n _ _ _ _ (by decide)]; exact rOk_nd hr i) _ j rfl hin) dX5_needed_147 (by first | decide | omega) (by decide) rfl rfl (Nat.le_of_ble_eq_true rfl) ?_
                        refine wd_vi (show _ = vHas σ (ndR σ nm i) j from (by rw [vHas_fW]; rfl)) ?_
                        refine wd_aload_n hC dX5_needed_150 rfl rfl ?_
                        refine gf_X5_28 hC dX5_needed_151 ?_
                        refine wd_iload hC dX5_needed_154 rfl ?_
                        refine rl_needs hC dX5_needed_156 (j) rfl (by omega) ?_
                        refine wd_vi (show _ = σ.1 7 j from (by rw [fW_n _ _ _ _ (by decide)])) ?_
                        refine wd_icmp_lt (tgt := 164) hC dX5_needed_157 (by decide) (fun c_157 => ?_) (fun c_157 => ?_)
                        · refine wd_iconst (v := 0) hC dX5_needed_164 rfl ?_
                          refine wd_istore_7_5 hC dX5_needed_165 ?_
                          refine wd_iincN_7_6 hC dX5_needed_167 ?_
                          refine wd_goto (tgt := 124) hC dX5_needed_170 (by decide) ?_
                          refine wd_is7 (show _ = bI (ndC σ (ndR σ nm i) j z = true) from (by first | exact hg_2 c_137 c_157 | exact hg_1 c_137 (fun h => h c_157))) ?_
                          exact ih2 (j + 1) _ (by omega) (by omega) (by rw [itr, hstj])
                        · refine wd_iconst (v := 1) hC dX5_needed_160 rfl ?_
                          refine wd_goto (tgt := 165) hC dX5_needed_161 (by decide) ?_
                          refine wd_istore_7_5 hC dX5_needed_165 ?_
                          refine wd_iincN_7_6 hC dX5_needed_167 ?_
                          refine wd_goto (tgt := 124) hC dX5_needed_170 (by decide) ?_
                          refine wd_is7 (show _ = bI (ndC σ (ndR σ nm i) j z = true) from (by first | exact hg_2 c_137 c_157 | exact hg_1 c_137 (fun h => h c_157))) ?_
                          exact ih2 (j + 1) _ (by omega) (by omega) (by rw [itr, hstj])
                refine wd_is7 (show _ = bI (decide (¬ a ≤ ndN nm i nm) = true) from bI_d (by first | exact bI_f (fun h => h c_111) | exact bI_t c_111)) ?_
                exact inner2 (nm + 1) 0 _ (Nat.zero_le _) (by omega) rfl
            · have hin : j < nm := lp_lt (n := nm) rfl c_57 h1b (by omega)
              refine wd_aload_n hC dX5_needed_60 rfl rfl ?_
              refine gf_X5_37 hC dX5_needed_61 ?_
              refine wd_bipush (v := 12) hC dX5_needed_64 rfl ?_
              refine wd_iload hC dX5_needed_66 rfl ?_
              refine wd_iadd hC dX5_needed_68 ?_
              refine wd_iload_n hC dX5_needed_69 rfl rfl ?_
              refine wd_iconst (v := 2) hC dX5_needed_70 rfl ?_
              refine wd_aload_n hC dX5_needed_71 rfl rfl ?_
              refine gf_X5_13 hC dX5_needed_72 ?_
              refine wd_iconst (v := 1) hC dX5_needed_75 rfl ?_
              refine rl_many hC dX5_needed_76 1 rfl (by decide) ?_
              refine wd_vi (show _ = nI nm from (by rw [fW_n _ _ _ _ (by decide)]; exact hnm)) ?_
              refine wd_iconst (v := 1) hC dX5_needed_77 rfl ?_
              refine wd_isub hC dX5_needed_78 ?_
              refine wd_iload hC dX5_needed_79 rfl ?_
              refine wd_isub hC dX5_needed_81 ?_
              refine wd_imul hC dX5_needed_82 ?_
              refine wd_ishr hC dX5_needed_83 ?_
              refine wd_iconst (v := 3) hC dX5_needed_84 rfl ?_
              refine wd_iand hC dX5_needed_85 ?_
              refine wd_vi (nDg_eq h6 hin (by omega)) ?_
              refine rs_w hC dX5_needed_86 (12 + j) (addI rfl 12) (by omega) ?_
              refine wd_ts (fW_up10 _ _ _ _ _ _) ?_
              refine wd_ts (congrArg (fun w => fW σ bb (σ.1 16) w) (ndW_s nm i w0 j)) ?_
              refine wd_iload hC dX5_needed_87 rfl ?_
              refine wd_aload_n hC dX5_needed_89 rfl rfl ?_
              refine gf_X5_37 hC dX5_needed_90 ?_
              refine wd_bipush (v := 12) hC dX5_needed_93 rfl ?_
              refine wd_iload hC dX5_needed_95 rfl ?_
              refine wd_iadd hC dX5_needed_97 ?_
              refine rl_w hC dX5_needed_98 (12 + j) (addI rfl 12) (by omega) ?_
              refine wd_vi (show _ = nI (nDg nm i j) from (by rw [fW_r10, ndW, if_pos (by omega), show 12 + j - 12 = j by omega])) ?_
              refine wd_iadd hC dX5_needed_99 ?_
              refine wd_istore_7_4 hC dX5_needed_100 ?_
              refine wd_iincN_7_5 hC dX5_needed_102 ?_
              refine wd_goto (tgt := 49) hC dX5_needed_105 (by decide) ?_
              exact ih2 (j + 1) _ (by omega) (by omega) (by rw [ndN, itr]; exact congrArg (· + _) hsum)
        refine wd_ts (congrArg (fun w => fW σ bb (σ.1 16) w) (ndW_0 nm i w0).symm) ?_
        exact inner (nm + 1) 0 _ (Nat.zero_le _) (by omega) rfl
  refine wd_aload_n hC dX5_needed_0 rfl rfl ?_
  refine wd_iconst (v := 0) hC dX5_needed_1 rfl ?_
  refine pf_X5_62 hC dX5_needed_2 ?_
  refine wd_ts (up_00 h0) ?_
  refine wd_iload_n hC dX5_needed_5 rfl rfl ?_
  refine wd_iconst (v := -1) hC dX5_needed_6 rfl ?_
  refine wd_icmp_eq (tgt := 20) hC dX5_needed_7 (by decide) (fun c_7 => ?_) (fun c_7 => ?_)
  · refine wd_aload_n hC dX5_needed_20 rfl rfl ?_
    refine cv5v hC cw_X5_169 (r_asNow hinj _) dX5_needed_21 (by first | decide | omega) (by decide) rfl rfl (Nat.le_of_ble_eq_true rfl) ?_
    refine wd_ts (show _ = fW σ (σ.1 17) (σ.1 16) (σ.1 9) from (by rw [← fW_10 σ (σ.1 17) (σ.1 16) (σ.1 10), fW_self])) ?_
    refine wd_ldc (v := (1000000)) hC dX5_needed_24 (wL_23 _ (List.mem_of_getElem? (i := 1) rfl)) ?_
    refine wd_istore_n_7_2 hC dX5_needed_26 ?_
    refine wd_iconst (v := 0) hC dX5_needed_27 rfl ?_
    refine wd_istore_n_7_3 hC dX5_needed_28 ?_
    exact loop (4 ^ nm + 1) 0 _ _ _ _ _ _ (Nat.zero_le _) (by omega) (fun _ _ => rfl) rfl
  · refine wd_aload_n hC dX5_needed_10 rfl rfl ?_
    refine wd_iload_n hC dX5_needed_11 rfl rfl ?_
    refine cv5i hC cw_X5_134 (r_isMan hinj _ _) dX5_needed_12 (by first | decide | omega) (by decide) rfl rfl (Nat.le_of_ble_eq_true rfl) ?_
    refine wd_if_ne (tgt := 20) hC dX5_needed_15 (by decide) (fun c_15 => ?_) (fun c_15 => ?_)
    · replace c_15 := bI_1.mp c_15
      refine wd_aload_n hC dX5_needed_20 rfl rfl ?_
      refine cv5v hC cw_X5_169 (r_asNow hinj _) dX5_needed_21 (by first | decide | omega) (by decide) rfl rfl (Nat.le_of_ble_eq_true rfl) ?_
      refine wd_ts (show _ = fW σ (σ.1 17) (σ.1 16) (σ.1 9) from (by rw [← fW_10 σ (σ.1 17) (σ.1 16) (σ.1 10), fW_self])) ?_
      refine wd_ldc (v := (1000000)) hC dX5_needed_24 (wL_23 _ (List.mem_of_getElem? (i := 1) rfl)) ?_
      refine wd_istore_n_7_2 hC dX5_needed_26 ?_
      refine wd_iconst (v := 0) hC dX5_needed_27 rfl ?_
      refine wd_istore_n_7_3 hC dX5_needed_28 ?_
      exact loop (4 ^ nm + 1) 0 _ _ _ _ _ _ (Nat.zero_le _) (by omega) (fun _ _ => rfl) rfl
    · replace c_15 := bI_0.mp c_15
      exact absurd (hq c_7) c_15

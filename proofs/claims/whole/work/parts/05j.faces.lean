/-! ===== the reference: leastBy, isRow, faces ===== -/
def lbW (r p : Nat → Int32) (n : Nat) : Nat → Int32 := fun k => if 6 ≤ k ∧ k < 6 + n then p (k - 6) else r k
theorem lbW_0 (r p : Nat → Int32) : lbW r p 0 = r := funext fun k => if_neg (by omega)
theorem lbW_s (r p : Nat → Int32) (n : Nat) : upd (lbW r p n) (6 + n) (p n) = lbW r p (n + 1) := by
  funext k
  unfold upd lbW
  by_cases h : k = 6 + n
  · rw [if_pos h, if_pos (by omega), h]
    exact congrArg p (by omega)
  · rw [if_neg h]
    by_cases h2 : 6 ≤ k ∧ k < 6 + n
    · rw [if_pos h2, if_pos (by omega)]
    · rw [if_neg h2, if_neg (by omega)]
def pOk (p : Nat → Int32) (nm : Nat) : Prop := ∀ m, m < nm → 0 ≤ p m ∧ p m < nI (nm + 1)
theorem rOk_lb {W r p : Nat → Int32} {nm nc : Nat} (h : rOk W r nm nc) (hp : pOk p nm) : rOk W (lbW r p nm) nm nc := by
  have h6 := h.1
  refine ⟨h.1, h.2.1, fun m hm => ⟨?_, ?_⟩, h.2.2.2.1, ?_⟩
  · unfold lbW
    rw [if_neg (by omega)]
    exact (h.2.2.1 m hm).1
  · unfold lbW
    rw [if_pos (by omega), show 6 + m - 6 = m by omega]
    exact hp m hm
  · unfold lbW
    rw [if_neg (by omega)]
    exact h.2.2.2.2
def lbS (σ : wd_S) (r : Nat → Int32) (m : Nat) (a : Int32) : Int32 := if a ≤ vMore σ r m then a else vMore σ r m
def lbV (σ : wd_S) (r : Nat → Int32) (nm : Nat) : Int32 := itr (lbS σ r) 1000000 nm
theorem lbV_set (σ : wd_S) {q : Nat} (hq : 9 ≤ q) (r' r : Nat → Int32) (nm : Nat) : lbV (setR σ q r') r nm = lbV σ r nm := by
  unfold lbV
  have e : lbS (setR σ q r') r = lbS σ r := by
    funext m a
    unfold lbS vMore
    rw [vHas_set σ hq, setR_n _ _ _ (by omega)]
  rw [e]

set_option maxRecDepth 100000 in
set_option maxHeartbeats 4000000 in
theorem r_leastBy {V : wd_V} {ad : Nat → Nat} (hinj : wd_inj rS ad) (σ : wd_S) (nm nc : Nat) (hnm : σ.1 2 1 = nI nm) (hnc : σ.1 2 0 = nI nc) (h6 : nm ≤ 6) (h3 : nc ≤ 3) (hr : rOk (σ.1 3) (σ.1 9) nm nc) (hp : pOk (σ.1 16) nm) : wd_C rS V ad 4 yX5_leastBy (Cond.code yX5_leastBy cX5_leastBy 4 (some .int) :: wsL_law) σ [.ref (ad 0)] (wd_eq (some (.int (lbV σ (lbW (σ.1 9) (σ.1 16) nm) nm))) ((setR σ 10 (lbW (σ.1 9) (σ.1 16) nm)))) := by
  refine wd_intro (lv := [some (.ref (ad 0)), none, none, none]) hinj (by decide) rfl (Nat.le_of_ble_eq_true rfl) rfl (Nat.le_of_ble_eq_true rfl) (fun K hC => ?_)
  have loop2 : ∀ (k i : Nat) (b : Int32) (o3 : Option Value), i ≤ nm → nm < i + k → itr (lbS σ (lbW (σ.1 9) (σ.1 16) nm)) 1000000 i = b → wd_G rS V ad K 4 (wd_Qm rS V ad K (wd_eq (some (.int (lbV σ (lbW (σ.1 9) (σ.1 16) nm) nm))) (setR σ 10 (lbW (σ.1 9) (σ.1 16) nm)))) 42 [some (.ref (ad 0)), some (.int b), some (.int (nI i)), o3] [] (setR σ 10 (lbW (σ.1 9) (σ.1 16) nm)) := by
    intro k
    induction k with
    | zero =>
      intro i b o3 h1 h2 hb
      exact absurd h2 (by omega)
    | succ k ih =>
      intro i b o3 h1 h2 hb
      refine wd_iload_n hC dX5_leastBy_42 rfl rfl ?_
      refine wd_aload_n hC dX5_leastBy_43 rfl rfl ?_
      refine gf_X5_13 hC dX5_leastBy_44 ?_
      refine wd_iconst (v := 1) hC dX5_leastBy_47 rfl ?_
      refine rl_many hC dX5_leastBy_48 1 rfl (by decide) ?_
      refine wd_vi (show _ = nI nm from (by rw [many_set (by decide)]; exact hnm)) ?_
      refine wd_icmp_ge (tgt := 86) hC dX5_leastBy_49 (by decide) (fun c_49 => ?_) (fun c_49 => ?_)
      · have hin : _ = i := (lp_ge (n := nm) rfl c_49 h1 (by omega)).symm
        subst hin
        refine wd_iload_n hC dX5_leastBy_86 rfl rfl ?_
        exact wd_iret hC rfl dX5_leastBy_87 hb.symm rfl
      · have hin : i < nm := lp_lt (n := nm) rfl c_49 h1 (by omega)
        refine wd_aload_n hC dX5_leastBy_52 rfl rfl ?_
        refine wd_aload_n hC dX5_leastBy_53 rfl rfl ?_
        refine gf_X5_37 hC dX5_leastBy_54 ?_
        refine wd_iload_n hC dX5_leastBy_57 rfl rfl ?_
        refine cv5i hC cw_X5_142 (r_hasBy hinj _ 10 (Or.inr rfl) nm nc (by rw [setR_k, setR_n _ _ _ (by decide)]; exact rOk_lb hr hp) _ i rfl hin) dX5_leastBy_58 (by first | decide | omega) (by decide) rfl rfl (Nat.le_of_ble_eq_true rfl) ?_
        refine wd_vi (show _ = vHas σ (lbW (σ.1 9) (σ.1 16) nm) i from (by rw [setR_k, vHas_set σ (by decide)])) ?_
        refine wd_aload_n hC dX5_leastBy_61 rfl rfl ?_
        refine gf_X5_28 hC dX5_leastBy_62 ?_
        refine wd_iload_n hC dX5_leastBy_65 rfl rfl ?_
        refine rl_needs hC dX5_leastBy_66 (i) rfl (by omega) ?_
        refine wd_vi (show _ = σ.1 7 i from (by rw [setR_n _ _ _ (by decide)])) ?_
        refine wd_isub hC dX5_leastBy_67 ?_
        refine wd_istore_n_4_3 hC dX5_leastBy_68 ?_
        refine wd_iload_n hC dX5_leastBy_69 rfl rfl ?_
        refine wd_iload_n hC dX5_leastBy_70 rfl rfl ?_
        refine wd_icmp_ge (tgt := 78) hC dX5_leastBy_71 (by decide) (fun c_71 => ?_) (fun c_71 => ?_)
        · refine wd_iload_n hC dX5_leastBy_78 rfl rfl ?_
          refine wd_istore_n_4_1 hC dX5_leastBy_79 ?_
          refine wd_iincN_4_2 hC dX5_leastBy_80 ?_
          refine wd_goto (tgt := 42) hC dX5_leastBy_83 (by decide) ?_
          exact ih (i + 1) _ _ (by omega) (by omega) (by rw [itr, hb, lbS]; first | rw [if_pos c_71] | rw [if_neg c_71])
        · refine wd_iload_n hC dX5_leastBy_74 rfl rfl ?_
          refine wd_goto (tgt := 79) hC dX5_leastBy_75 (by decide) ?_
          refine wd_istore_n_4_1 hC dX5_leastBy_79 ?_
          refine wd_iincN_4_2 hC dX5_leastBy_80 ?_
          refine wd_goto (tgt := 42) hC dX5_leastBy_83 (by decide) ?_
          exact ih (i + 1) _ _ (by omega) (by omega) (by rw [itr, hb, lbS]; first | rw [if_pos c_71] | rw [if_neg c_71])
  have loop : ∀ (k i : Nat), i ≤ nm → nm < i + k → wd_G rS V ad K 4 (wd_Qm rS V ad K (wd_eq (some (.int (lbV σ (lbW (σ.1 9) (σ.1 16) nm) nm))) (setR σ 10 (lbW (σ.1 9) (σ.1 16) nm)))) 6 [some (.ref (ad 0)), some (.int (nI i)), none, none] [] (setR σ 10 (lbW (σ.1 9) (σ.1 16) i)) := by
    intro k
    induction k with
    | zero =>
      intro i  h1 h2 
      exact absurd h2 (by omega)
    | succ k ih =>
      intro i  h1 h2 
      refine wd_iload_n hC dX5_leastBy_6 rfl rfl ?_
      refine wd_aload_n hC dX5_leastBy_7 rfl rfl ?_
      refine gf_X5_13 hC dX5_leastBy_8 ?_
      refine wd_iconst (v := 1) hC dX5_leastBy_11 rfl ?_
      refine rl_many hC dX5_leastBy_12 1 rfl (by decide) ?_
      refine wd_vi (show _ = nI nm from (by rw [many_set (by decide)]; exact hnm)) ?_
      refine wd_icmp_ge (tgt := 37) hC dX5_leastBy_13 (by decide) (fun c_13 => ?_) (fun c_13 => ?_)
      · have hin : _ = i := (lp_ge (n := nm) rfl c_13 h1 (by omega)).symm
        subst hin
        refine wd_ldc (v := (1000000)) hC dX5_leastBy_37 (wL_23 _ (List.mem_of_getElem? (i := 1) rfl)) ?_
        refine wd_istore_n_4_1 hC dX5_leastBy_39 ?_
        refine wd_iconst (v := 0) hC dX5_leastBy_40 rfl ?_
        refine wd_istore_n_4_2 hC dX5_leastBy_41 ?_
        exact loop2 (nm + 1) 0 _ _ (Nat.zero_le _) (by omega) rfl
      · have hin : i < nm := lp_lt (n := nm) rfl c_13 h1 (by omega)
        refine wd_aload_n hC dX5_leastBy_16 rfl rfl ?_
        refine gf_X5_37 hC dX5_leastBy_17 ?_
        refine wd_bipush (v := 6) hC dX5_leastBy_20 rfl ?_
        refine wd_iload_n hC dX5_leastBy_22 rfl rfl ?_
        refine wd_iadd hC dX5_leastBy_23 ?_
        refine wd_aload_n hC dX5_leastBy_24 rfl rfl ?_
        refine gf_X5_56 hC dX5_leastBy_25 ?_
        refine wd_iload_n hC dX5_leastBy_28 rfl rfl ?_
        refine rl_pair hC dX5_leastBy_29 (i) rfl (by omega) ?_
        refine wd_vi (show _ = σ.1 16 i from (by rw [setR_n _ _ _ (by decide)])) ?_
        refine rs_w hC dX5_leastBy_30 (6 + i) (addI rfl 6) (by omega) ?_
        refine wd_ts (setR_up _ _ _ _ _) ?_
        refine wd_ts (congrArg (setR σ 10) (lbW_s (σ.1 9) (σ.1 16) i)) ?_
        refine wd_iincN_4_1 hC dX5_leastBy_31 ?_
        refine wd_goto (tgt := 6) hC dX5_leastBy_34 (by decide) ?_
        exact ih (i + 1) (by omega) (by omega)
  refine wd_aload_n hC dX5_leastBy_0 rfl rfl ?_
  refine cv5v hC cw_X5_169 (r_asNow hinj _) dX5_leastBy_1 (by first | decide | omega) (by decide) rfl rfl (Nat.le_of_ble_eq_true rfl) ?_
  refine wd_iconst (v := 0) hC dX5_leastBy_4 rfl ?_
  refine wd_istore_n_4_1 hC dX5_leastBy_5 ?_
  refine wd_ts (congrArg (setR σ 10) (lbW_0 (σ.1 9) (σ.1 16)).symm) ?_
  exact loop (nm + 1) 0 (Nat.zero_le _) (by omega)

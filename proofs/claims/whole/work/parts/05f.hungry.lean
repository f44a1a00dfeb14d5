/-! ===== the reference: what if ===== -/
theorem rOk_upd {W r : Nat → Int32} {nm nc m c : Nat} (h : rOk W r nm nc) (hm : m < nm) (hc : c < nc) : rOk W (upd r m (nI c)) nm nc := by
  have h6 := h.1
  have h3 := h.2.1
  refine ⟨h.1, h.2.1, fun a ha => ⟨?_, ?_⟩, h.2.2.2.1, ?_⟩
  · unfold upd
    by_cases e : a = m
    · rw [if_pos e]
      exact ⟨nI_pos' (by omega), nI_lt hc (by omega)⟩
    · rw [if_neg e]
      exact (h.2.2.1 a ha).1
  · unfold upd
    rw [if_neg (by omega)]
    exact (h.2.2.1 a ha).2
  · unfold upd
    rw [if_neg (by omega)]
    exact h.2.2.2.2
theorem upd_self (r : Nat → Int32) (m : Nat) : upd r m (r m) = r := by
  funext k
  unfold upd
  by_cases h : k = m
  · rw [if_pos h, h]
  · rw [if_neg h]
theorem upd_upd (r : Nat → Int32) (m : Nat) (v w : Int32) : upd (upd r m v) m w = upd r m w := by
  funext k
  unfold upd
  by_cases h : k = m
  · rw [if_pos h, if_pos h]
  · rw [if_neg h, if_neg h, if_neg h]
theorem upd_4 (r : Nat → Int32) (m o : Nat) (v w a b : Int32) : upd (upd (upd (upd r m v) o w) m a) o b = upd (upd r m a) o b := by
  funext k
  unfold upd
  by_cases h1 : k = o
  · simp only [if_pos h1]
  · simp only [if_neg h1]
    by_cases h2 : k = m
    · simp only [if_pos h2]
    · simp only [if_neg h2]
/-- only the row w has changed -/
def scrR (σ σ' : wd_S) : Prop := ∃ r, σ' = setR σ 10 r
theorem scrR_rf (σ : wd_S) : scrR σ σ := ⟨σ.1 10, (setR_self σ 10).symm⟩
theorem set_cp (σ : wd_S) (r : Nat → Int32) : setR (setR σ 10 r) 10 ((setR σ 10 r).1 9) = setR σ 10 (σ.1 9) := by rw [setR_set, setR_n _ _ _ (by decide)]
def hgT (σ : wd_S) (r : Nat → Int32) (m a b : Nat) (z : Bool) : Bool := z && decide (¬ σ.1 7 m ≤ vHas σ (upd (upd r m (nI a)) (oF r m) (nI b)) m)
def hgF (σ : wd_S) (r : Nat → Int32) (m a _b : Nat) (z : Bool) : Bool := z && decide (¬ σ.1 7 m ≤ vHas σ (upd r m (nI a)) m)
def vHung (σ : wd_S) (r : Nat → Int32) (m nc : Nat) : Bool := if 0 ≤ r (6 + m) - 1 then itr (fun a z => itr (hgT σ r m a) z nc) true nc else itr (fun a z => itr (hgF σ r m a) z nc) true nc
theorem many_set {σ : wd_S} {q : Nat} {r : Nat → Int32} (hq : q ≠ 2) {i : Nat} : (setR σ q r).1 2 i = σ.1 2 i := by rw [setR_n _ _ _ (fun h => hq h.symm)]

theorem wd_is {sd : wd_Side} {V : wd_V} {ad : Nat → Nat} {K : wd_K} {nL : Nat} {Q : State → Prop} {pc : Nat} {a0 a1 a2 a4 a5 : Option Value} {st : List Value} {σ : wd_S} {x : Int32} {z : Bool} (h : x = bI (z = true)) (k : wd_G sd V ad K nL Q pc [a0, a1, a2, some (.int (bI (z = true))), a4, a5] st σ) : wd_G sd V ad K nL Q pc [a0, a1, a2, some (.int x), a4, a5] st σ := h ▸ k
theorem hg_0 {z : Bool} {p : Prop} [Decidable p] (h : ¬ z = true) : (0 : Int32) = bI ((z && decide p) = true) := bI_f (fun h2 => h (by simp at h2; exact h2.1))
theorem hg_1 {z : Bool} {p : Prop} [Decidable p] (h : z = true) (hp : ¬ p) : (0 : Int32) = bI ((z && decide p) = true) := bI_f (fun h2 => hp (by simp at h2; exact h2.2))
theorem hg_2 {z : Bool} {p : Prop} [Decidable p] (h : z = true) (hp : p) : (1 : Int32) = bI ((z && decide p) = true) := bI_t (by simp [h, hp])

set_option maxRecDepth 100000 in
set_option maxHeartbeats 4000000 in
theorem r_isHungry_t {V : wd_V} {ad : Nat → Nat} (hinj : wd_inj rS ad) (σ : wd_S) (r0 : Nat → Int32) (nm nc : Nat) (hnm : σ.1 2 1 = nI nm) (hnc : σ.1 2 0 = nI nc) (h6 : nm ≤ 6) (h3 : nc ≤ 3) (hr : rOk (σ.1 3) (σ.1 9) nm nc) (x : Int32) (m : Nat) (hx : x = nI m) (hm : m < nm) (hf : 0 ≤ σ.1 9 (6 + m) - 1) : wd_C rS V ad 4 yX5_isHungry (Cond.code yX5_isHungry cX5_isHungry 6 (some .boolean) :: wsL_law) (setR σ 10 r0) [.ref (ad 0), .int x] (wd_pi (fun r σ' => r = bI (vHung σ (σ.1 9) m nc = true) ∧ scrR σ σ')) := by
  refine wd_intro (lv := [some (.ref (ad 0)), some (.int x), none, none, none, none]) hinj (by decide) rfl (Nat.le_of_ble_eq_true rfl) rfl (Nat.le_of_ble_eq_true rfl) (fun K hC => ?_)
  have loop : ∀ (k i : Nat) (v0 w0 : Int32) (z0 : Bool) (o5 : Option Value), i ≤ nc → nc < i + k → itr (fun a z => itr (hgT σ (σ.1 9) m a) z nc) true i = z0 → wd_G rS V ad K 6 (wd_Qm rS V ad K (wd_pi (fun r σ' => r = bI (vHung σ (σ.1 9) m nc = true) ∧ scrR σ σ'))) 21 [some (.ref (ad 0)), some (.int x), some (.int ((σ.1 9) (6 + m) - 1)), some (.int (bI (z0 = true))), some (.int (nI i)), o5] [] (setR σ 10 (upd (upd (σ.1 9) m v0) (oF (σ.1 9) m) w0)) := by
    intro k
    induction k with
    | zero =>
      intro i v0 w0 z0 o5 h1 h2 hst
      exact absurd h2 (by omega)
    | succ k ih =>
      intro i v0 w0 z0 o5 h1 h2 hst
      refine wd_iload hC dX5_isHungry_21 rfl ?_
      refine wd_aload_n hC dX5_isHungry_23 rfl rfl ?_
      refine gf_X5_13 hC dX5_isHungry_24 ?_
      refine wd_iconst (v := 0) hC dX5_isHungry_27 rfl ?_
      refine rl_many hC dX5_isHungry_28 0 rfl (by decide) ?_
      refine wd_vi (show _ = nI nc from (by rw [many_set (by decide)]; exact hnc)) ?_
      refine wd_icmp_ge (tgt := 110) hC dX5_isHungry_29 (by decide) (fun c_29 => ?_) (fun c_29 => ?_)
      · have hin : _ = i := (lp_ge (n := nc) rfl c_29 h1 (by omega)).symm
        subst hin
        refine wd_iload_n hC dX5_isHungry_110 rfl rfl ?_
        exact wd_zretP hC rfl bI_n dX5_isHungry_111 (⟨_, rfl, (by rw [vHung, if_pos hf, hst]), _, rfl⟩)
      · have hin : i < nc := lp_lt (n := nc) rfl c_29 h1 (by omega)
        refine wd_iconst (v := 0) hC dX5_isHungry_32 rfl ?_
        refine wd_istore_6_5 hC dX5_isHungry_33 ?_
        have inner : ∀ (k b : Nat) (v w : Int32) (z : Bool), b ≤ nc → nc < b + k → itr (hgT σ (σ.1 9) m i) z0 b = z → wd_G rS V ad K 6 (wd_Qm rS V ad K (wd_pi (fun r σ' => r = bI (vHung σ (σ.1 9) m nc = true) ∧ scrR σ σ'))) 35 [some (.ref (ad 0)), some (.int x), some (.int ((σ.1 9) (6 + m) - 1)), some (.int (bI (z = true))), some (.int (nI i)), some (.int (nI b))] [] (setR σ 10 (upd (upd (σ.1 9) m v) (oF (σ.1 9) m) w)) := by
          intro k
          induction k with
          | zero =>
            intro b v w z h1b h2b hst2
            exact absurd h2b (by omega)
          | succ k ih2 =>
            intro b v w z h1b h2b hst2
            refine wd_iload hC dX5_isHungry_35 rfl ?_
            refine wd_aload_n hC dX5_isHungry_37 rfl rfl ?_
            refine gf_X5_13 hC dX5_isHungry_38 ?_
            refine wd_iconst (v := 0) hC dX5_isHungry_41 rfl ?_
            refine rl_many hC dX5_isHungry_42 0 rfl (by decide) ?_
            refine wd_vi (show _ = nI nc from (by rw [many_set (by decide)]; exact hnc)) ?_
            refine wd_icmp_ge (tgt := 104) hC dX5_isHungry_43 (by decide) (fun c_43 => ?_) (fun c_43 => ?_)
            · have hbn : _ = b := (lp_ge (n := nc) rfl c_43 h1b (by omega)).symm
              subst hbn
              refine wd_iincN_6_4 hC dX5_isHungry_104 ?_
              refine wd_goto (tgt := 21) hC dX5_isHungry_107 (by decide) ?_
              exact ih (i + 1) _ _ _ _ (by omega) (by omega) (by rw [itr, hst]; exact hst2)
            · have hbn : b < nc := lp_lt (n := nc) rfl c_43 h1b (by omega)
              refine wd_aload_n hC dX5_isHungry_46 rfl rfl ?_
              refine gf_X5_37 hC dX5_isHungry_47 ?_
              refine wd_iconst (v := 0) hC dX5_isHungry_50 rfl ?_
              refine wd_iload_n hC dX5_isHungry_51 rfl rfl ?_
              refine wd_iadd hC dX5_isHungry_52 ?_
              refine wd_iload hC dX5_isHungry_53 rfl ?_
              refine rs_w hC dX5_isHungry_55 (m) (add0 hx) (by omega) ?_
              refine wd_ts (setR_up _ _ _ _ _) ?_
              refine wd_iload_n hC dX5_isHungry_56 rfl rfl ?_
              refine wd_if_lt (tgt := 70) hC dX5_isHungry_57 (by decide) (fun c_57 => absurd c_57 (Int32.not_lt.mpr hf)) (fun c_57 => ?_)
              refine wd_aload_n hC dX5_isHungry_60 rfl rfl ?_
              refine gf_X5_37 hC dX5_isHungry_61 ?_
              refine wd_iconst (v := 0) hC dX5_isHungry_64 rfl ?_
              refine wd_iload_n hC dX5_isHungry_65 rfl rfl ?_
              refine wd_iadd hC dX5_isHungry_66 ?_
              refine wd_iload hC dX5_isHungry_67 rfl ?_
              refine rs_w hC dX5_isHungry_69 (oF (σ.1 9) m) (add0 (hr.o hm hf)) (by have := hr.ol hm hf; omega) ?_
              refine wd_ts (show _ = setR σ 10 (upd (upd (σ.1 9) m (nI i)) (oF (σ.1 9) m) (nI b)) from (by rw [setR_up, upd_4])) ?_
              refine wd_iload_n hC dX5_isHungry_70 rfl rfl ?_
              refine wd_if_eq (tgt := 96) hC dX5_isHungry_71 (by decide) (fun c_71 => ?_) (fun c_71 => ?_)
              · replace c_71 := bI_0.mp c_71
                refine wd_iconst (v := 0) hC dX5_isHungry_96 rfl ?_
                refine wd_istore_n_6_3 hC dX5_isHungry_97 ?_
                refine wd_iincN_6_5 hC dX5_isHungry_98 ?_
                refine wd_goto (tgt := 35) hC dX5_isHungry_101 (by decide) ?_
                refine wd_is (show _ = bI ((hgT σ (σ.1 9) m i b z) = true) from (by first | exact hg_0 c_71 | exact hg_1 c_71 (fun h => h c_89) | exact hg_2 c_71 c_89)) ?_
                exact ih2 (b + 1) _ _ _ (by omega) (by omega) (by rw [itr, hst2])
              · replace c_71 := bI_1.mp c_71
                refine wd_aload_n hC dX5_isHungry_74 rfl rfl ?_
                refine wd_aload_n hC dX5_isHungry_75 rfl rfl ?_
                refine gf_X5_37 hC dX5_isHungry_76 ?_
                refine wd_iload_n hC dX5_isHungry_79 rfl rfl ?_
                refine cv5i hC cw_X5_142 (r_hasR hinj σ 10 (Or.inr rfl) nm nc _ (rOk_upd (rOk_upd hr hm (by omega)) (hr.ol hm hf) (by omega)) x m hx hm) dX5_isHungry_80 (by first | decide | omega) (by decide) rfl rfl (Nat.le_of_ble_eq_true rfl) ?_
                refine wd_aload_n hC dX5_isHungry_83 rfl rfl ?_
                refine gf_X5_28 hC dX5_isHungry_84 ?_
                refine wd_iload_n hC dX5_isHungry_87 rfl rfl ?_
                refine rl_needs hC dX5_isHungry_88 (m) hx (by omega) ?_
                refine wd_vi (show _ = σ.1 7 m from (by rw [setR_n _ _ _ (by decide)])) ?_
                refine wd_icmp_ge (tgt := 96) hC dX5_isHungry_89 (by decide) (fun c_89 => ?_) (fun c_89 => ?_)
                · refine wd_iconst (v := 0) hC dX5_isHungry_96 rfl ?_
                  refine wd_istore_n_6_3 hC dX5_isHungry_97 ?_
                  refine wd_iincN_6_5 hC dX5_isHungry_98 ?_
                  refine wd_goto (tgt := 35) hC dX5_isHungry_101 (by decide) ?_
                  refine wd_is (show _ = bI ((hgT σ (σ.1 9) m i b z) = true) from (by first | exact hg_0 c_71 | exact hg_1 c_71 (fun h => h c_89) | exact hg_2 c_71 c_89)) ?_
                  exact ih2 (b + 1) _ _ _ (by omega) (by omega) (by rw [itr, hst2])
                · refine wd_iconst (v := 1) hC dX5_isHungry_92 rfl ?_
                  refine wd_goto (tgt := 97) hC dX5_isHungry_93 (by decide) ?_
                  refine wd_istore_n_6_3 hC dX5_isHungry_97 ?_
                  refine wd_iincN_6_5 hC dX5_isHungry_98 ?_
                  refine wd_goto (tgt := 35) hC dX5_isHungry_101 (by decide) ?_
                  refine wd_is (show _ = bI ((hgT σ (σ.1 9) m i b z) = true) from (by first | exact hg_0 c_71 | exact hg_1 c_71 (fun h => h c_89) | exact hg_2 c_71 c_89)) ?_
                  exact ih2 (b + 1) _ _ _ (by omega) (by omega) (by rw [itr, hst2])
        exact inner (nc + 1) 0 _ _ _ (Nat.zero_le _) (by omega) rfl
  refine wd_aload_n hC dX5_isHungry_0 rfl rfl ?_
  refine gf_X5_34 hC dX5_isHungry_1 ?_
  refine wd_bipush (v := 6) hC dX5_isHungry_4 rfl ?_
  refine wd_iload_n hC dX5_isHungry_6 rfl rfl ?_
  refine wd_iadd hC dX5_isHungry_7 ?_
  refine rl_s hC dX5_isHungry_8 (6 + m) (addI hx 6) (by omega) ?_
  refine wd_vi (show _ = (σ.1 9) (6 + m) from (by rw [setR_n _ _ _ (by decide)])) ?_
  refine wd_iconst (v := 1) hC dX5_isHungry_9 rfl ?_
  refine wd_isub hC dX5_isHungry_10 ?_
  refine wd_istore_n_6_2 hC dX5_isHungry_11 ?_
  refine wd_iconst (v := 1) hC dX5_isHungry_12 rfl ?_
  refine wd_istore_n_6_3 hC dX5_isHungry_13 ?_
  refine wd_aload_n hC dX5_isHungry_14 rfl rfl ?_
  refine cv5v hC cw_X5_169 (r_asNow hinj _) dX5_isHungry_15 (by first | decide | omega) (by decide) rfl rfl (Nat.le_of_ble_eq_true rfl) ?_
  refine wd_ts (set_cp σ r0) ?_
  refine wd_iconst (v := 0) hC dX5_isHungry_18 rfl ?_
  refine wd_istore_6_4 hC dX5_isHungry_19 ?_
  refine wd_ts (show setR σ 10 (σ.1 9) = setR σ 10 (upd (upd (σ.1 9) m ((σ.1 9) m)) (oF (σ.1 9) m) ((σ.1 9) (oF (σ.1 9) m))) from (by rw [upd_self, upd_self])) ?_
  exact loop (nc + 1) 0 _ _ true _ (Nat.zero_le _) (by omega) rfl
set_option maxRecDepth 100000 in
set_option maxHeartbeats 4000000 in
theorem r_isHungry_f {V : wd_V} {ad : Nat → Nat} (hinj : wd_inj rS ad) (σ : wd_S) (r0 : Nat → Int32) (nm nc : Nat) (hnm : σ.1 2 1 = nI nm) (hnc : σ.1 2 0 = nI nc) (h6 : nm ≤ 6) (h3 : nc ≤ 3) (hr : rOk (σ.1 3) (σ.1 9) nm nc) (x : Int32) (m : Nat) (hx : x = nI m) (hm : m < nm) (hf : ¬ 0 ≤ σ.1 9 (6 + m) - 1) : wd_C rS V ad 4 yX5_isHungry (Cond.code yX5_isHungry cX5_isHungry 6 (some .boolean) :: wsL_law) (setR σ 10 r0) [.ref (ad 0), .int x] (wd_pi (fun r σ' => r = bI (vHung σ (σ.1 9) m nc = true) ∧ scrR σ σ')) := by
  refine wd_intro (lv := [some (.ref (ad 0)), some (.int x), none, none, none, none]) hinj (by decide) rfl (Nat.le_of_ble_eq_true rfl) rfl (Nat.le_of_ble_eq_true rfl) (fun K hC => ?_)
  have loop : ∀ (k i : Nat) (v0 w0 : Int32) (z0 : Bool) (o5 : Option Value), i ≤ nc → nc < i + k → itr (fun a z => itr (hgF σ (σ.1 9) m a) z nc) true i = z0 → wd_G rS V ad K 6 (wd_Qm rS V ad K (wd_pi (fun r σ' => r = bI (vHung σ (σ.1 9) m nc = true) ∧ scrR σ σ'))) 21 [some (.ref (ad 0)), some (.int x), some (.int ((σ.1 9) (6 + m) - 1)), some (.int (bI (z0 = true))), some (.int (nI i)), o5] [] (setR σ 10 (upd (σ.1 9) m v0)) := by
    intro k
    induction k with
    | zero =>
      intro i v0 w0 z0 o5 h1 h2 hst
      exact absurd h2 (by omega)
    | succ k ih =>
      intro i v0 w0 z0 o5 h1 h2 hst
      refine wd_iload hC dX5_isHungry_21 rfl ?_
      refine wd_aload_n hC dX5_isHungry_23 rfl rfl ?_
      refine gf_X5_13 hC dX5_isHungry_24 ?_
      refine wd_iconst (v := 0) hC dX5_isHungry_27 rfl ?_
      refine rl_many hC dX5_isHungry_28 0 rfl (by decide) ?_
      refine wd_vi (show _ = nI nc from (by rw [many_set (by decide)]; exact hnc)) ?_
      refine wd_icmp_ge (tgt := 110) hC dX5_isHungry_29 (by decide) (fun c_29 => ?_) (fun c_29 => ?_)
      · have hin : _ = i := (lp_ge (n := nc) rfl c_29 h1 (by omega)).symm
        subst hin
        refine wd_iload_n hC dX5_isHungry_110 rfl rfl ?_
        exact wd_zretP hC rfl bI_n dX5_isHungry_111 (⟨_, rfl, (by rw [vHung, if_neg hf, hst]), _, rfl⟩)
      · have hin : i < nc := lp_lt (n := nc) rfl c_29 h1 (by omega)
        refine wd_iconst (v := 0) hC dX5_isHungry_32 rfl ?_
        refine wd_istore_6_5 hC dX5_isHungry_33 ?_
        have inner : ∀ (k b : Nat) (v w : Int32) (z : Bool), b ≤ nc → nc < b + k → itr (hgF σ (σ.1 9) m i) z0 b = z → wd_G rS V ad K 6 (wd_Qm rS V ad K (wd_pi (fun r σ' => r = bI (vHung σ (σ.1 9) m nc = true) ∧ scrR σ σ'))) 35 [some (.ref (ad 0)), some (.int x), some (.int ((σ.1 9) (6 + m) - 1)), some (.int (bI (z = true))), some (.int (nI i)), some (.int (nI b))] [] (setR σ 10 (upd (σ.1 9) m v)) := by
          intro k
          induction k with
          | zero =>
            intro b v w z h1b h2b hst2
            exact absurd h2b (by omega)
          | succ k ih2 =>
            intro b v w z h1b h2b hst2
            refine wd_iload hC dX5_isHungry_35 rfl ?_
            refine wd_aload_n hC dX5_isHungry_37 rfl rfl ?_
            refine gf_X5_13 hC dX5_isHungry_38 ?_
            refine wd_iconst (v := 0) hC dX5_isHungry_41 rfl ?_
            refine rl_many hC dX5_isHungry_42 0 rfl (by decide) ?_
            refine wd_vi (show _ = nI nc from (by rw [many_set (by decide)]; exact hnc)) ?_
            refine wd_icmp_ge (tgt := 104) hC dX5_isHungry_43 (by decide) (fun c_43 => ?_) (fun c_43 => ?_)
            · have hbn : _ = b := (lp_ge (n := nc) rfl c_43 h1b (by omega)).symm
              subst hbn
              refine wd_iincN_6_4 hC dX5_isHungry_104 ?_
              refine wd_goto (tgt := 21) hC dX5_isHungry_107 (by decide) ?_
              exact ih (i + 1) _ 0 _ _ (by omega) (by omega) (by rw [itr, hst]; exact hst2)
            · have hbn : b < nc := lp_lt (n := nc) rfl c_43 h1b (by omega)
              refine wd_aload_n hC dX5_isHungry_46 rfl rfl ?_
              refine gf_X5_37 hC dX5_isHungry_47 ?_
              refine wd_iconst (v := 0) hC dX5_isHungry_50 rfl ?_
              refine wd_iload_n hC dX5_isHungry_51 rfl rfl ?_
              refine wd_iadd hC dX5_isHungry_52 ?_
              refine wd_iload hC dX5_isHungry_53 rfl ?_
              refine rs_w hC dX5_isHungry_55 (m) (add0 hx) (by omega) ?_
              refine wd_ts (show _ = setR σ 10 (upd (σ.1 9) m (nI i)) from (by rw [setR_up, upd_upd])) ?_
              refine wd_iload_n hC dX5_isHungry_56 rfl rfl ?_
              refine wd_if_lt (tgt := 70) hC dX5_isHungry_57 (by decide) (fun c_57 => ?_) (fun c_57 => absurd (i_nle hf) c_57)
              refine wd_iload_n hC dX5_isHungry_70 rfl rfl ?_
              refine wd_if_eq (tgt := 96) hC dX5_isHungry_71 (by decide) (fun c_71 => ?_) (fun c_71 => ?_)
              · replace c_71 := bI_0.mp c_71
                refine wd_iconst (v := 0) hC dX5_isHungry_96 rfl ?_
                refine wd_istore_n_6_3 hC dX5_isHungry_97 ?_
                refine wd_iincN_6_5 hC dX5_isHungry_98 ?_
                refine wd_goto (tgt := 35) hC dX5_isHungry_101 (by decide) ?_
                refine wd_is (show _ = bI ((hgF σ (σ.1 9) m i b z) = true) from (by first | exact hg_0 c_71 | exact hg_1 c_71 (fun h => h c_89) | exact hg_2 c_71 c_89)) ?_
                exact ih2 (b + 1) _ 0 _ (by omega) (by omega) (by rw [itr, hst2])
              · replace c_71 := bI_1.mp c_71
                refine wd_aload_n hC dX5_isHungry_74 rfl rfl ?_
                refine wd_aload_n hC dX5_isHungry_75 rfl rfl ?_
                refine gf_X5_37 hC dX5_isHungry_76 ?_
                refine wd_iload_n hC dX5_isHungry_79 rfl rfl ?_
                refine cv5i hC cw_X5_142 (r_hasR hinj σ 10 (Or.inr rfl) nm nc _ (rOk_upd hr hm (by omega)) x m hx hm) dX5_isHungry_80 (by first | decide | omega) (by decide) rfl rfl (Nat.le_of_ble_eq_true rfl) ?_
                refine wd_aload_n hC dX5_isHungry_83 rfl rfl ?_
                refine gf_X5_28 hC dX5_isHungry_84 ?_
                refine wd_iload_n hC dX5_isHungry_87 rfl rfl ?_
                refine rl_needs hC dX5_isHungry_88 (m) hx (by omega) ?_
                refine wd_vi (show _ = σ.1 7 m from (by rw [setR_n _ _ _ (by decide)])) ?_
                refine wd_icmp_ge (tgt := 96) hC dX5_isHungry_89 (by decide) (fun c_89 => ?_) (fun c_89 => ?_)
                · refine wd_iconst (v := 0) hC dX5_isHungry_96 rfl ?_
                  refine wd_istore_n_6_3 hC dX5_isHungry_97 ?_
                  refine wd_iincN_6_5 hC dX5_isHungry_98 ?_
                  refine wd_goto (tgt := 35) hC dX5_isHungry_101 (by decide) ?_
                  refine wd_is (show _ = bI ((hgF σ (σ.1 9) m i b z) = true) from (by first | exact hg_0 c_71 | exact hg_1 c_71 (fun h => h c_89) | exact hg_2 c_71 c_89)) ?_
                  exact ih2 (b + 1) _ 0 _ (by omega) (by omega) (by rw [itr, hst2])
                · refine wd_iconst (v := 1) hC dX5_isHungry_92 rfl ?_
                  refine wd_goto (tgt := 97) hC dX5_isHungry_93 (by decide) ?_
                  refine wd_istore_n_6_3 hC dX5_isHungry_97 ?_
                  refine wd_iincN_6_5 hC dX5_isHungry_98 ?_
                  refine wd_goto (tgt := 35) hC dX5_isHungry_101 (by decide) ?_
                  refine wd_is (show _ = bI ((hgF σ (σ.1 9) m i b z) = true) from (by first | exact hg_0 c_71 | exact hg_1 c_71 (fun h => h c_89) | exact hg_2 c_71 c_89)) ?_
                  exact ih2 (b + 1) _ 0 _ (by omega) (by omega) (by rw [itr, hst2])
        exact inner (nc + 1) 0 _ 0 _ (Nat.zero_le _) (by omega) rfl
  refine wd_aload_n hC dX5_isHungry_0 rfl rfl ?_
  refine gf_X5_34 hC dX5_isHungry_1 ?_
  refine wd_bipush (v := 6) hC dX5_isHungry_4 rfl ?_
  refine wd_iload_n hC dX5_isHungry_6 rfl rfl ?_
  refine wd_iadd hC dX5_isHungry_7 ?_
  refine rl_s hC dX5_isHungry_8 (6 + m) (addI hx 6) (by omega) ?_
  refine wd_vi (show _ = (σ.1 9) (6 + m) from (by rw [setR_n _ _ _ (by decide)])) ?_
  refine wd_iconst (v := 1) hC dX5_isHungry_9 rfl ?_
  refine wd_isub hC dX5_isHungry_10 ?_
  refine wd_istore_n_6_2 hC dX5_isHungry_11 ?_
  refine wd_iconst (v := 1) hC dX5_isHungry_12 rfl ?_
  refine wd_istore_n_6_3 hC dX5_isHungry_13 ?_
  refine wd_aload_n hC dX5_isHungry_14 rfl rfl ?_
  refine cv5v hC cw_X5_169 (r_asNow hinj _) dX5_isHungry_15 (by first | decide | omega) (by decide) rfl rfl (Nat.le_of_ble_eq_true rfl) ?_
  refine wd_ts (set_cp σ r0) ?_
  refine wd_iconst (v := 0) hC dX5_isHungry_18 rfl ?_
  refine wd_istore_6_4 hC dX5_isHungry_19 ?_
  refine wd_ts (show setR σ 10 (σ.1 9) = setR σ 10 (upd (σ.1 9) m ((σ.1 9) m)) from (by rw [upd_self])) ?_
  exact loop (nc + 1) 0 _ 0 true _ (Nat.zero_le _) (by omega) rfl

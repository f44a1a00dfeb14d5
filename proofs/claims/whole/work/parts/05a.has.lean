/-! ===== the reference: its numbers ===== -/
theorem add0 {x : Int32} {m : Nat} (hx : x = nI m) : 0 + x = nI m := by rw [hx]; exact (nI_add 0 m).trans (by rw [Nat.zero_add])
theorem addI {x : Int32} {m : Nat} (hx : x = nI m) (k : Nat) : nI k + x = nI (k + m) := by rw [hx]; exact nI_add k m
theorem mulI {x : Int32} {m : Nat} (hx : x = nI m) (k : Nat) : nI k * x = nI (k * m) := by rw [hx]; exact pk_mul k m
theorem addN {x y : Int32} {a b : Nat} (hx : x = nI a) (hy : y = nI b) : x + y = nI (a + b) := by rw [hx, hy]; exact nI_add a b
theorem up_00 {σ : wd_S} (h : σ.1 0 0 = 0) : wd_up σ 0 0 0 = σ := by
  refine wd_ext (fun k => funext fun i => ?_) rfl
  show (if k = 0 ∧ i = 0 then 0 else σ.1 k i) = σ.1 k i
  by_cases e : k = 0 ∧ i = 0
  · rw [if_pos e, e.1, e.2, h]
  · rw [if_neg e]
abbrev pIn (x a b : Int32) : Prop := a ≤ x ∧ x ≤ b
abbrev qMan (σ : wd_S) (x : Int32) : Prop := pIn x 0 (σ.1 2 1 - 1)
abbrev qCrop (σ : wd_S) (x : Int32) : Prop := pIn x 0 (σ.1 2 0 - 1)
abbrev sF (r : Nat → Int32) (m : Nat) : Nat := (r m).toNatClampNeg
abbrev oF (r : Nat → Int32) (m : Nat) : Nat := (r (6 + m) - 1).toNatClampNeg
/-- a row (0 sown, 6 other + 1, 12 ropes, 18 mule, 24 stored, 30 rain, 31 years) whose indices stay in their rows; W the weights -/
def rOk (W r : Nat → Int32) (nm nc : Nat) : Prop := nm ≤ 6 ∧ nc ≤ 3 ∧ (∀ m, m < nm → (0 ≤ r m ∧ r m < nI nc) ∧ 0 ≤ r (6 + m) ∧ r (6 + m) < nI (nm + 1)) ∧ (∀ c, c < nc → 1 ≤ W c ∧ W c ≤ 9) ∧ (r 30 = 0 ∨ r 30 = 1)
theorem rOk.s {W r : Nat → Int32} {nm nc m : Nat} (h : rOk W r nm nc) (hm : m < nm) : r m = nI (sF r m) := (ix_of (h.2.2.1 m hm).1.1 (h.2.2.1 m hm).1.2 (by have := h.2.1; omega)).1
theorem rOk.sl {W r : Nat → Int32} {nm nc m : Nat} (h : rOk W r nm nc) (hm : m < nm) : sF r m < nc := (ix_of (h.2.2.1 m hm).1.1 (h.2.2.1 m hm).1.2 (by have := h.2.1; omega)).2
theorem rOk.o2 {W r : Nat → Int32} {nm nc m : Nat} (h : rOk W r nm nc) (hm : m < nm) (h0 : 0 ≤ r (6 + m) - 1) : r (6 + m) - 1 = nI (oF r m) ∧ oF r m < nm := by
  have h6 := h.1
  obtain ⟨e, hk⟩ := ix_of (h.2.2.1 m hm).2.1 (h.2.2.1 m hm).2.2 (by omega)
  generalize (r (6 + m)).toNatClampNeg = k at e hk
  unfold oF
  cases k with
  | zero =>
    rw [e] at h0
    exact absurd h0 (by decide)
  | succ k =>
    rw [e, nI_pred, nI_clamp (by omega)]
    exact ⟨rfl, by omega⟩
theorem rOk.o {W r : Nat → Int32} {nm nc m : Nat} (h : rOk W r nm nc) (hm : m < nm) (h0 : 0 ≤ r (6 + m) - 1) : r (6 + m) - 1 = nI (oF r m) := (h.o2 hm h0).1
theorem rOk.ol {W r : Nat → Int32} {nm nc m : Nat} (h : rOk W r nm nc) (hm : m < nm) (h0 : 0 ≤ r (6 + m) - 1) : oF r m < nm := (h.o2 hm h0).2
theorem nz_of {x y : Int32} (h1 : 1 ≤ x) (h9 : x ≤ 9) (hy : y = 0 ∨ y = 1) : ¬ x + y = 0 := by
  have h0 : (0 : Int32) ≤ x := Int32.le_trans (by decide) h1
  obtain ⟨e, hk⟩ := ix_of (n := 10) h0 (Int32.lt_of_le_of_lt h9 (by decide)) (by decide)
  generalize x.toNatClampNeg = k at e hk
  have hk1 : 1 ≤ k := by
    rcases Nat.lt_or_ge k 1 with h | h
    · rw [e, show k = 0 by omega] at h1
      exact absurd h1 (by decide)
    · exact h
  rw [e]
  rcases hy with rfl | rfl
  · rw [show nI k + 0 = nI (k + 0) from nI_add k 0]
    exact nI_ne0 (by omega) (by omega)
  · rw [nI_1]
    exact nI_ne0 (by omega) (by omega)
theorem rOk.z {W r : Nat → Int32} {nm nc c : Nat} (h : rOk W r nm nc) (hc : c < nc) : ¬ W c + r 30 = 0 := nz_of (h.2.2.2.1 c hc).1 (h.2.2.2.1 c hc).2 h.2.2.2.2
/-- what one carries, takes, keeps, has, by a row -/
def vCarry (σ : wd_S) (r : Nat → Int32) (m c : Nat) : Int32 := σ.1 6 m * (1 + r (18 + m)) * ((σ.1 5 m + 3 * r (12 + m)) / (σ.1 3 c + r 30))
def vTakes (σ : wd_S) (r : Nat → Int32) (m : Nat) : Int32 := if 0 ≤ r (6 + m) - 1 then (if σ.1 8 (3 * oF r m + sF r (oF r m)) ≤ vCarry σ r m (sF r (oF r m)) then σ.1 8 (3 * oF r m + sF r (oF r m)) else vCarry σ r m (sF r (oF r m))) else 0
def vKept (σ : wd_S) (r : Nat → Int32) (m : Nat) : Int32 := σ.1 8 (3 * m + sF r m) - (if 0 ≤ r (6 + m) - 1 then vTakes σ r (oF r m) else 0)
def vWorth (σ : wd_S) (r : Nat → Int32) (m : Nat) : Int32 := if 0 ≤ r (6 + m) - 1 then vTakes σ r m * σ.1 4 (sF r (oF r m)) else 0
def vHas (σ : wd_S) (r : Nat → Int32) (m : Nat) : Int32 := vWorth σ r m + vKept σ r m * σ.1 4 (sF r m)
def vAll (σ : wd_S) (nm : Nat) : Int32 := itr (fun m a => a + vHas σ (σ.1 9) m) 0 nm

set_option maxRecDepth 100000 in
set_option maxHeartbeats 4000000 in
theorem r_in {V : wd_V} {ad : Nat → Nat} (hinj : wd_inj rS ad) (σ : wd_S) (x y z : Int32) : wd_C rS V ad 0 yX5_in (Cond.code yX5_in cX5_in 3 (some .boolean) :: wsL_law) σ [.int x, .int y, .int z] (wd_eq (some (.int (bI (pIn x y z)))) (σ)) := by
  refine wd_intro (lv := [some (.int x), some (.int y), some (.int z)]) hinj (by decide) rfl (Nat.le_of_ble_eq_true rfl) rfl (Nat.le_of_ble_eq_true rfl) (fun K hC => ?_)
  refine wd_iload_n hC dX5_in_0 rfl rfl ?_
  refine wd_iload_n hC dX5_in_1 rfl rfl ?_
  refine wd_icmp_lt (tgt := 14) hC dX5_in_2 (by decide) (fun c_2 => ?_) (fun c_2 => ?_)
  · refine wd_iconst (v := 0) hC dX5_in_14 rfl ?_
    exact wd_zret hC rfl rfl dX5_in_15 (by first | exact bI_t ⟨i_le c_2, i_le c_7⟩ | exact bI_f (fun h => i_nlt c_2 h.1) | exact bI_f (fun h => i_nlt c_7 h.2)) rfl
  · refine wd_iload_n hC dX5_in_5 rfl rfl ?_
    refine wd_iload_n hC dX5_in_6 rfl rfl ?_
    refine wd_icmp_gt (tgt := 14) hC dX5_in_7 (by decide) (fun c_7 => ?_) (fun c_7 => ?_)
    · refine wd_iconst (v := 0) hC dX5_in_14 rfl ?_
      exact wd_zret hC rfl rfl dX5_in_15 (by first | exact bI_t ⟨i_le c_2, i_le c_7⟩ | exact bI_f (fun h => i_nlt c_2 h.1) | exact bI_f (fun h => i_nlt c_7 h.2)) rfl
    · refine wd_iconst (v := 1) hC dX5_in_10 rfl ?_
      refine wd_goto (tgt := 15) hC dX5_in_11 (by decide) ?_
      exact wd_zret hC rfl rfl dX5_in_15 (by first | exact bI_t ⟨i_le c_2, i_le c_7⟩ | exact bI_f (fun h => i_nlt c_2 h.1) | exact bI_f (fun h => i_nlt c_7 h.2)) rfl
set_option maxRecDepth 100000 in
set_option maxHeartbeats 4000000 in
theorem r_isMan {V : wd_V} {ad : Nat → Nat} (hinj : wd_inj rS ad) (σ : wd_S) (x : Int32) : wd_C rS V ad 1 yX5_isMan (Cond.code yX5_isMan cX5_isMan 2 (some .boolean) :: wsL_law) σ [.ref (ad 0), .int x] (wd_eq (some (.int (bI (qMan σ x)))) (σ)) := by
  refine wd_intro (lv := [some (.ref (ad 0)), some (.int x)]) hinj (by decide) rfl (Nat.le_of_ble_eq_true rfl) rfl (Nat.le_of_ble_eq_true rfl) (fun K hC => ?_)
  refine wd_iload_n hC dX5_isMan_0 rfl rfl ?_
  refine wd_iconst (v := 0) hC dX5_isMan_1 rfl ?_
  refine wd_aload_n hC dX5_isMan_2 rfl rfl ?_
  refine gf_X5_13 hC dX5_isMan_3 ?_
  refine wd_iconst (v := 1) hC dX5_isMan_6 rfl ?_
  refine rl_many hC dX5_isMan_7 1 rfl (by decide) ?_
  refine wd_iconst (v := 1) hC dX5_isMan_8 rfl ?_
  refine wd_isub hC dX5_isMan_9 ?_
  refine cvsi hC cw_X5_66 (r_in hinj _ _ _ _) dX5_isMan_10 (by first | decide | omega) (by decide) rfl rfl (Nat.le_of_ble_eq_true rfl) ?_
  exact wd_zret hC rfl bI_n dX5_isMan_13 rfl rfl
set_option maxRecDepth 100000 in
set_option maxHeartbeats 4000000 in
theorem r_isCrop {V : wd_V} {ad : Nat → Nat} (hinj : wd_inj rS ad) (σ : wd_S) (x : Int32) : wd_C rS V ad 1 yX5_isCrop (Cond.code yX5_isCrop cX5_isCrop 2 (some .boolean) :: wsL_law) σ [.ref (ad 0), .int x] (wd_eq (some (.int (bI (qCrop σ x)))) (σ)) := by
  refine wd_intro (lv := [some (.ref (ad 0)), some (.int x)]) hinj (by decide) rfl (Nat.le_of_ble_eq_true rfl) rfl (Nat.le_of_ble_eq_true rfl) (fun K hC => ?_)
  refine wd_iload_n hC dX5_isCrop_0 rfl rfl ?_
  refine wd_iconst (v := 0) hC dX5_isCrop_1 rfl ?_
  refine wd_aload_n hC dX5_isCrop_2 rfl rfl ?_
  refine gf_X5_13 hC dX5_isCrop_3 ?_
  refine wd_iconst (v := 0) hC dX5_isCrop_6 rfl ?_
  refine rl_many hC dX5_isCrop_7 0 rfl (by decide) ?_
  refine wd_iconst (v := 1) hC dX5_isCrop_8 rfl ?_
  refine wd_isub hC dX5_isCrop_9 ?_
  refine cvsi hC cw_X5_66 (r_in hinj _ _ _ _) dX5_isCrop_10 (by first | decide | omega) (by decide) rfl rfl (Nat.le_of_ble_eq_true rfl) ?_
  exact wd_zret hC rfl bI_n dX5_isCrop_13 rfl rfl
set_option maxRecDepth 100000 in
set_option maxHeartbeats 4000000 in
theorem r_carriesBy {V : wd_V} {ad : Nat → Nat} (hinj : wd_inj rS ad) (σ : wd_S) (q : Nat) (hq : q = 9 ∨ q = 10) (nm nc : Nat) (hr : rOk (σ.1 3) (σ.1 q) nm nc) (x : Int32) (m : Nat) (hx : x = nI m) (hm : m < nm) (y : Int32) (c : Nat) (hy : y = nI c) (hc : c < nc)  : wd_C rS V ad 0 yX5_carriesBy (Cond.code yX5_carriesBy cX5_carriesBy 5 (some .int) :: wsL_law) σ [.ref (ad 0), .ref (ad q), .int x, .int y] (wd_eq (some (.int (vCarry σ (σ.1 q) m c))) (σ)) := by
  refine wd_intro (lv := [some (.ref (ad 0)), some (.ref (ad q)), some (.int x), some (.int y), none]) hinj (by decide) rfl (Nat.le_of_ble_eq_true rfl) rfl (Nat.le_of_ble_eq_true rfl) (fun K hC => ?_)
  have h6 := hr.1
  have h3 := hr.2.1
  refine wd_aload_n hC dX5_carriesBy_0 rfl rfl ?_
  refine gf_X5_22 hC dX5_carriesBy_1 ?_
  refine wd_iload_n hC dX5_carriesBy_4 rfl rfl ?_
  refine rl_strong hC dX5_carriesBy_5 (m) hx (by omega) ?_
  refine wd_iconst (v := 3) hC dX5_carriesBy_6 rfl ?_
  refine wd_aload_n hC dX5_carriesBy_7 rfl rfl ?_
  refine wd_bipush (v := 12) hC dX5_carriesBy_8 rfl ?_
  refine wd_iload_n hC dX5_carriesBy_10 rfl rfl ?_
  refine wd_iadd hC dX5_carriesBy_11 ?_
  refine rl_r hC dX5_carriesBy_12 (12 + m) (addI hx 12) (by omega) ?_
  refine wd_imul hC dX5_carriesBy_13 ?_
  refine wd_iadd hC dX5_carriesBy_14 ?_
  refine wd_aload_n hC dX5_carriesBy_15 rfl rfl ?_
  refine gf_X5_16 hC dX5_carriesBy_16 ?_
  refine wd_iload_n hC dX5_carriesBy_19 rfl rfl ?_
  refine rl_weight hC dX5_carriesBy_20 (c) hy (by omega) ?_
  refine wd_aload_n hC dX5_carriesBy_21 rfl rfl ?_
  refine wd_bipush (v := 30) hC dX5_carriesBy_22 rfl ?_
  refine rl_r hC dX5_carriesBy_24 30 rfl (by decide) ?_
  refine wd_iadd hC dX5_carriesBy_25 ?_
  refine wd_idiv hC dX5_carriesBy_26 (hr.z hc) ?_
  refine wd_istore_5_4 hC dX5_carriesBy_27 ?_
  refine wd_aload_n hC dX5_carriesBy_29 rfl rfl ?_
  refine gf_X5_25 hC dX5_carriesBy_30 ?_
  refine wd_iload_n hC dX5_carriesBy_33 rfl rfl ?_
  refine rl_legs hC dX5_carriesBy_34 (m) hx (by omega) ?_
  refine wd_iconst (v := 1) hC dX5_carriesBy_35 rfl ?_
  refine wd_aload_n hC dX5_carriesBy_36 rfl rfl ?_
  refine wd_bipush (v := 18) hC dX5_carriesBy_37 rfl ?_
  refine wd_iload_n hC dX5_carriesBy_39 rfl rfl ?_
  refine wd_iadd hC dX5_carriesBy_40 ?_
  refine rl_r hC dX5_carriesBy_41 (18 + m) (addI hx 18) (by omega) ?_
  refine wd_iadd hC dX5_carriesBy_42 ?_
  refine wd_imul hC dX5_carriesBy_43 ?_
  refine wd_iload hC dX5_carriesBy_44 rfl ?_
  refine wd_imul hC dX5_carriesBy_46 ?_
  exact wd_iret hC rfl dX5_carriesBy_47 rfl rfl
set_option maxRecDepth 100000 in
set_option maxHeartbeats 4000000 in
theorem r_takesBy {V : wd_V} {ad : Nat → Nat} (hinj : wd_inj rS ad) (σ : wd_S) (q : Nat) (hq : q = 9 ∨ q = 10) (nm nc : Nat) (hr : rOk (σ.1 3) (σ.1 q) nm nc) (x : Int32) (m : Nat) (hx : x = nI m) (hm : m < nm)  : wd_C rS V ad 1 yX5_takesBy (Cond.code yX5_takesBy cX5_takesBy 7 (some .int) :: wsL_law) σ [.ref (ad 0), .ref (ad q), .int x] (wd_eq (some (.int (vTakes σ (σ.1 q) m))) (σ)) := by
  refine wd_intro (lv := [some (.ref (ad 0)), some (.ref (ad q)), some (.int x), none, none, none, none]) hinj (by decide) rfl (Nat.le_of_ble_eq_true rfl) rfl (Nat.le_of_ble_eq_true rfl) (fun K hC => ?_)
  have h6 := hr.1
  have h3 := hr.2.1
  refine wd_aload_n hC dX5_takesBy_0 rfl rfl ?_
  refine wd_bipush (v := 6) hC dX5_takesBy_1 rfl ?_
  refine wd_iload_n hC dX5_takesBy_3 rfl rfl ?_
  refine wd_iadd hC dX5_takesBy_4 ?_
  refine rl_r hC dX5_takesBy_5 (6 + m) (addI hx 6) (by omega) ?_
  refine wd_iconst (v := 1) hC dX5_takesBy_6 rfl ?_
  refine wd_isub hC dX5_takesBy_7 ?_
  refine wd_istore_n_7_3 hC dX5_takesBy_8 ?_
  refine wd_iload_n hC dX5_takesBy_9 rfl rfl ?_
  refine wd_if_ge (tgt := 15) hC dX5_takesBy_10 (by decide) (fun c_10 => ?_) (fun c_10 => ?_)
  · have ho := hr.ol hm c_10
    have hs := hr.sl ho
    refine wd_aload_n hC dX5_takesBy_15 rfl rfl ?_
    refine wd_iconst (v := 0) hC dX5_takesBy_16 rfl ?_
    refine wd_iload_n hC dX5_takesBy_17 rfl rfl ?_
    refine wd_iadd hC dX5_takesBy_18 ?_
    refine rl_r hC dX5_takesBy_19 (oF (σ.1 q) m) (add0 (hr.o hm c_10)) (by omega) ?_
    refine wd_istore_7_4 hC dX5_takesBy_20 ?_
    refine wd_aload_n hC dX5_takesBy_22 rfl rfl ?_
    refine wd_aload_n hC dX5_takesBy_23 rfl rfl ?_
    refine wd_iload_n hC dX5_takesBy_24 rfl rfl ?_
    refine wd_iload hC dX5_takesBy_25 rfl ?_
    refine cv5i hC cw_X5_120 (r_carriesBy hinj _ q hq nm nc hr x m hx hm _ _ (hr.s (hr.ol hm c_10)) (hr.sl (hr.ol hm c_10))) dX5_takesBy_27 (by first | decide | omega) (by decide) rfl rfl (Nat.le_of_ble_eq_true rfl) ?_
    refine wd_istore_7_5 hC dX5_takesBy_30 ?_
    refine wd_aload_n hC dX5_takesBy_32 rfl rfl ?_
    refine gf_X5_31 hC dX5_takesBy_33 ?_
    refine wd_iconst (v := 3) hC dX5_takesBy_36 rfl ?_
    refine wd_iload_n hC dX5_takesBy_37 rfl rfl ?_
    refine wd_imul hC dX5_takesBy_38 ?_
    refine wd_iload hC dX5_takesBy_39 rfl ?_
    refine wd_iadd hC dX5_takesBy_41 ?_
    refine rl_yields hC dX5_takesBy_42 ((3 * (oF (σ.1 q) m)) + (sF (σ.1 q) (oF (σ.1 q) m))) (addN (mulI (hr.o hm c_10) 3) (hr.s (hr.ol hm c_10))) (by omega) ?_
    refine wd_istore_7_6 hC dX5_takesBy_43 ?_
    refine wd_iload hC dX5_takesBy_45 rfl ?_
    refine wd_iload hC dX5_takesBy_47 rfl ?_
    refine wd_icmp_ge (tgt := 57) hC dX5_takesBy_49 (by decide) (fun c_49 => ?_) (fun c_49 => ?_)
    · refine wd_iload hC dX5_takesBy_57 rfl ?_
      exact wd_iret hC rfl dX5_takesBy_59 (by refine Eq.trans ?_ (if_pos c_10).symm; first | exact (if_pos c_49).symm | exact (if_neg c_49).symm) rfl
    · refine wd_iload hC dX5_takesBy_52 rfl ?_
      refine wd_goto (tgt := 59) hC dX5_takesBy_54 (by decide) ?_
      exact wd_iret hC rfl dX5_takesBy_59 (by refine Eq.trans ?_ (if_pos c_10).symm; first | exact (if_pos c_49).symm | exact (if_neg c_49).symm) rfl
  · refine wd_iconst (v := 0) hC dX5_takesBy_13 rfl ?_
    exact wd_iret hC rfl dX5_takesBy_14 (if_neg c_10).symm rfl
set_option maxRecDepth 100000 in
set_option maxHeartbeats 4000000 in
theorem r_keptBy {V : wd_V} {ad : Nat → Nat} (hinj : wd_inj rS ad) (σ : wd_S) (q : Nat) (hq : q = 9 ∨ q = 10) (nm nc : Nat) (hr : rOk (σ.1 3) (σ.1 q) nm nc) (x : Int32) (m : Nat) (hx : x = nI m) (hm : m < nm)  : wd_C rS V ad 2 yX5_keptBy (Cond.code yX5_keptBy cX5_keptBy 4 (some .int) :: wsL_law) σ [.ref (ad 0), .ref (ad q), .int x] (wd_eq (some (.int (vKept σ (σ.1 q) m))) (σ)) := by
  refine wd_intro (lv := [some (.ref (ad 0)), some (.ref (ad q)), some (.int x), none]) hinj (by decide) rfl (Nat.le_of_ble_eq_true rfl) rfl (Nat.le_of_ble_eq_true rfl) (fun K hC => ?_)
  have h6 := hr.1
  have h3 := hr.2.1
  refine wd_aload_n hC dX5_keptBy_0 rfl rfl ?_
  refine wd_bipush (v := 6) hC dX5_keptBy_1 rfl ?_
  refine wd_iload_n hC dX5_keptBy_3 rfl rfl ?_
  refine wd_iadd hC dX5_keptBy_4 ?_
  refine rl_r hC dX5_keptBy_5 (6 + m) (addI hx 6) (by omega) ?_
  refine wd_iconst (v := 1) hC dX5_keptBy_6 rfl ?_
  refine wd_isub hC dX5_keptBy_7 ?_
  refine wd_istore_n_4_3 hC dX5_keptBy_8 ?_
  refine wd_aload_n hC dX5_keptBy_9 rfl rfl ?_
  refine gf_X5_31 hC dX5_keptBy_10 ?_
  refine wd_iconst (v := 3) hC dX5_keptBy_13 rfl ?_
  refine wd_iload_n hC dX5_keptBy_14 rfl rfl ?_
  refine wd_imul hC dX5_keptBy_15 ?_
  refine wd_aload_n hC dX5_keptBy_16 rfl rfl ?_
  refine wd_iconst (v := 0) hC dX5_keptBy_17 rfl ?_
  refine wd_iload_n hC dX5_keptBy_18 rfl rfl ?_
  refine wd_iadd hC dX5_keptBy_19 ?_
  refine rl_r hC dX5_keptBy_20 (m) (add0 hx) (by omega) ?_
  refine wd_iadd hC dX5_keptBy_21 ?_
  have hs := hr.sl hm
  refine rl_yields hC dX5_keptBy_22 ((3 * m) + (sF (σ.1 q) m)) (addN (mulI hx 3) (hr.s hm)) (by omega) ?_
  refine wd_iload_n hC dX5_keptBy_23 rfl rfl ?_
  refine wd_if_ge (tgt := 31) hC dX5_keptBy_24 (by decide) (fun c_24 => ?_) (fun c_24 => ?_)
  · refine wd_aload_n hC dX5_keptBy_31 rfl rfl ?_
    refine wd_aload_n hC dX5_keptBy_32 rfl rfl ?_
    refine wd_iload_n hC dX5_keptBy_33 rfl rfl ?_
    refine cv5i hC cw_X5_124 (r_takesBy hinj _ q hq nm nc hr _ _ (hr.o hm c_24) (hr.ol hm c_24)) dX5_keptBy_34 (by first | decide | omega) (by decide) rfl rfl (Nat.le_of_ble_eq_true rfl) ?_
    refine wd_isub hC dX5_keptBy_37 ?_
    exact wd_iret hC rfl dX5_keptBy_38 (by rw [vKept]; first | exact congrArg (_ - ·) (if_pos c_24).symm | exact congrArg (_ - ·) (if_neg c_24).symm) rfl
  · refine wd_iconst (v := 0) hC dX5_keptBy_27 rfl ?_
    refine wd_goto (tgt := 37) hC dX5_keptBy_28 (by decide) ?_
    refine wd_isub hC dX5_keptBy_37 ?_
    exact wd_iret hC rfl dX5_keptBy_38 (by rw [vKept]; first | exact congrArg (_ - ·) (if_pos c_24).symm | exact congrArg (_ - ·) (if_neg c_24).symm) rfl
set_option maxRecDepth 100000 in
set_option maxHeartbeats 4000000 in
theorem r_takenWorth {V : wd_V} {ad : Nat → Nat} (hinj : wd_inj rS ad) (σ : wd_S) (q : Nat) (hq : q = 9 ∨ q = 10) (nm nc : Nat) (hr : rOk (σ.1 3) (σ.1 q) nm nc) (x : Int32) (m : Nat) (hx : x = nI m) (hm : m < nm)  : wd_C rS V ad 2 yX5_takenWorth (Cond.code yX5_takenWorth cX5_takenWorth 4 (some .int) :: wsL_law) σ [.ref (ad 0), .ref (ad q), .int x] (wd_eq (some (.int (vWorth σ (σ.1 q) m))) (σ)) := by
  refine wd_intro (lv := [some (.ref (ad 0)), some (.ref (ad q)), some (.int x), none]) hinj (by decide) rfl (Nat.le_of_ble_eq_true rfl) rfl (Nat.le_of_ble_eq_true rfl) (fun K hC => ?_)
  have h6 := hr.1
  have h3 := hr.2.1
  refine wd_aload_n hC dX5_takenWorth_0 rfl rfl ?_
  refine wd_bipush (v := 6) hC dX5_takenWorth_1 rfl ?_
  refine wd_iload_n hC dX5_takenWorth_3 rfl rfl ?_
  refine wd_iadd hC dX5_takenWorth_4 ?_
  refine rl_r hC dX5_takenWorth_5 (6 + m) (addI hx 6) (by omega) ?_
  refine wd_iconst (v := 1) hC dX5_takenWorth_6 rfl ?_
  refine wd_isub hC dX5_takenWorth_7 ?_
  refine wd_istore_n_4_3 hC dX5_takenWorth_8 ?_
  refine wd_iload_n hC dX5_takenWorth_9 rfl rfl ?_
  refine wd_if_ge (tgt := 17) hC dX5_takenWorth_10 (by decide) (fun c_10 => ?_) (fun c_10 => ?_)
  · have ho := hr.ol hm c_10
    have hs := hr.sl ho
    refine wd_aload_n hC dX5_takenWorth_17 rfl rfl ?_
    refine wd_aload_n hC dX5_takenWorth_18 rfl rfl ?_
    refine wd_iload_n hC dX5_takenWorth_19 rfl rfl ?_
    refine cv5i hC cw_X5_124 (r_takesBy hinj _ q hq nm nc hr _ _ hx hm) dX5_takenWorth_20 (by first | decide | omega) (by decide) rfl rfl (Nat.le_of_ble_eq_true rfl) ?_
    refine wd_aload_n hC dX5_takenWorth_23 rfl rfl ?_
    refine gf_X5_19 hC dX5_takenWorth_24 ?_
    refine wd_aload_n hC dX5_takenWorth_27 rfl rfl ?_
    refine wd_iconst (v := 0) hC dX5_takenWorth_28 rfl ?_
    refine wd_iload_n hC dX5_takenWorth_29 rfl rfl ?_
    refine wd_iadd hC dX5_takenWorth_30 ?_
    refine rl_r hC dX5_takenWorth_31 (oF (σ.1 q) m) (add0 (hr.o hm c_10)) (by omega) ?_
    refine rl_worth hC dX5_takenWorth_32 (sF (σ.1 q) (oF (σ.1 q) m)) (hr.s (hr.ol hm c_10)) (by omega) ?_
    refine wd_imul hC dX5_takenWorth_33 ?_
    exact wd_iret hC rfl dX5_takenWorth_34 (by first | exact (if_pos c_10).symm | exact (if_neg c_10).symm) rfl
  · refine wd_iconst (v := 0) hC dX5_takenWorth_13 rfl ?_
    refine wd_goto (tgt := 34) hC dX5_takenWorth_14 (by decide) ?_
    exact wd_iret hC rfl dX5_takenWorth_34 (by first | exact (if_pos c_10).symm | exact (if_neg c_10).symm) rfl
set_option maxRecDepth 100000 in
set_option maxHeartbeats 4000000 in
theorem r_hasBy {V : wd_V} {ad : Nat → Nat} (hinj : wd_inj rS ad) (σ : wd_S) (q : Nat) (hq : q = 9 ∨ q = 10) (nm nc : Nat) (hr : rOk (σ.1 3) (σ.1 q) nm nc) (x : Int32) (m : Nat) (hx : x = nI m) (hm : m < nm)  : wd_C rS V ad 3 yX5_hasBy (Cond.code yX5_hasBy cX5_hasBy 3 (some .int) :: wsL_law) σ [.ref (ad 0), .ref (ad q), .int x] (wd_eq (some (.int (vHas σ (σ.1 q) m))) (σ)) := by
  refine wd_intro (lv := [some (.ref (ad 0)), some (.ref (ad q)), some (.int x)]) hinj (by decide) rfl (Nat.le_of_ble_eq_true rfl) rfl (Nat.le_of_ble_eq_true rfl) (fun K hC => ?_)
  have h6 := hr.1
  have h3 := hr.2.1
  refine wd_aload_n hC dX5_hasBy_0 rfl rfl ?_
  refine wd_aload_n hC dX5_hasBy_1 rfl rfl ?_
  refine wd_iload_n hC dX5_hasBy_2 rfl rfl ?_
  refine cv5i hC cw_X5_128 (r_takenWorth hinj _ q hq nm nc hr _ _ hx hm) dX5_hasBy_3 (by first | decide | omega) (by decide) rfl rfl (Nat.le_of_ble_eq_true rfl) ?_
  refine wd_aload_n hC dX5_hasBy_6 rfl rfl ?_
  refine wd_aload_n hC dX5_hasBy_7 rfl rfl ?_
  refine wd_iload_n hC dX5_hasBy_8 rfl rfl ?_
  refine cv5i hC cw_X5_131 (r_keptBy hinj _ q hq nm nc hr _ _ hx hm) dX5_hasBy_9 (by first | decide | omega) (by decide) rfl rfl (Nat.le_of_ble_eq_true rfl) ?_
  refine wd_aload_n hC dX5_hasBy_12 rfl rfl ?_
  refine gf_X5_19 hC dX5_hasBy_13 ?_
  refine wd_aload_n hC dX5_hasBy_16 rfl rfl ?_
  refine wd_iconst (v := 0) hC dX5_hasBy_17 rfl ?_
  refine wd_iload_n hC dX5_hasBy_18 rfl rfl ?_
  refine wd_iadd hC dX5_hasBy_19 ?_
  refine rl_r hC dX5_hasBy_20 (m) (add0 hx) (by omega) ?_
  have hs := hr.sl hm
  refine rl_worth hC dX5_hasBy_21 (sF (σ.1 q) m) (hr.s hm) (by omega) ?_
  refine wd_imul hC dX5_hasBy_22 ?_
  refine wd_iadd hC dX5_hasBy_23 ?_
  exact wd_iret hC rfl dX5_hasBy_24 rfl rfl
set_option maxRecDepth 100000 in
set_option maxHeartbeats 4000000 in
theorem r_hasAll {V : wd_V} {ad : Nat → Nat} (hinj : wd_inj rS ad) (σ : wd_S) (nm nc : Nat) (hr : rOk (σ.1 3) (σ.1 9) nm nc) (hnm : σ.1 2 1 = nI nm)  : wd_C rS V ad 4 yX5_hasAll (Cond.code yX5_hasAll cX5_hasAll 3 (some .int) :: wsL_law) σ [.ref (ad 0)] (wd_eq (some (.int (vAll σ nm))) (σ)) := by
  refine wd_intro (lv := [some (.ref (ad 0)), none, none]) hinj (by decide) rfl (Nat.le_of_ble_eq_true rfl) rfl (Nat.le_of_ble_eq_true rfl) (fun K hC => ?_)
  have h6 := hr.1
  have h3 := hr.2.1
  have loop : ∀ (k i : Nat), i ≤ nm → nm < i + k → wd_G rS V ad K 3 (wd_Qm rS V ad K (wd_eq (some (.int (vAll σ nm))) σ)) 4 [some (.ref (ad 0)), some (.int (itr (fun m a => a + vHas σ (σ.1 9) m) 0 i)), some (.int (nI i))] [] σ := by
    intro k
    induction k with
    | zero =>
      intro i  h1 h2 
      exact absurd h2 (by omega)
    | succ k ih =>
      intro i  h1 h2 
      refine wd_iload_n hC dX5_hasAll_4 rfl rfl ?_
      refine wd_aload_n hC dX5_hasAll_5 rfl rfl ?_
      refine gf_X5_13 hC dX5_hasAll_6 ?_
      refine wd_iconst (v := 1) hC dX5_hasAll_9 rfl ?_
      refine rl_many hC dX5_hasAll_10 1 rfl (by decide) ?_
      refine wd_icmp_ge (tgt := 32) hC dX5_hasAll_11 (by decide) (fun c_11 => ?_) (fun c_11 => ?_)
      · have hin : _ = i := (lp_ge hnm c_11 h1 (by omega)).symm
        subst hin
        refine wd_iload_n hC dX5_hasAll_32 rfl rfl ?_
        exact wd_iret hC rfl dX5_hasAll_33 rfl rfl
      · have hin : i < _ := lp_lt hnm c_11 h1 (by omega)
        refine wd_iload_n hC dX5_hasAll_14 rfl rfl ?_
        refine wd_aload_n hC dX5_hasAll_15 rfl rfl ?_
        refine wd_aload_n hC dX5_hasAll_16 rfl rfl ?_
        refine gf_X5_34 hC dX5_hasAll_17 ?_
        refine wd_iload_n hC dX5_hasAll_20 rfl rfl ?_
        refine cv5i hC cw_X5_142 (r_hasBy hinj _ 9 (Or.inl rfl) nm nc hr _ _ rfl hin) dX5_hasAll_21 (by first | decide | omega) (by decide) rfl rfl (Nat.le_of_ble_eq_true rfl) ?_
        refine wd_iadd hC dX5_hasAll_24 ?_
        refine wd_istore_n_3_1 hC dX5_hasAll_25 ?_
        refine wd_iincN_3_2 hC dX5_hasAll_26 ?_
        refine wd_goto (tgt := 4) hC dX5_hasAll_29 (by decide) ?_
        exact ih (i + 1) (by omega) (by omega)
  refine wd_iconst (v := 0) hC dX5_hasAll_0 rfl ?_
  refine wd_istore_n_3_1 hC dX5_hasAll_1 ?_
  refine wd_iconst (v := 0) hC dX5_hasAll_2 rfl ?_
  refine wd_istore_n_3_2 hC dX5_hasAll_3 ?_
  exact loop (nm + 1) 0 (Nat.zero_le _) (by omega)

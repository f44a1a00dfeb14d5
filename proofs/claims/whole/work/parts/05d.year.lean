/-! ===== the reference: a year ===== -/
theorem vCarry_set (σ : wd_S) {q : Nat} (hq : 9 ≤ q) (r' r : Nat → Int32) : vCarry (setR σ q r') r = vCarry σ r := by
  funext m c
  unfold vCarry
  rw [setR_n _ _ _ (by omega), setR_n _ _ _ (by omega), setR_n _ _ _ (by omega)]
theorem vTakes_set (σ : wd_S) {q : Nat} (hq : 9 ≤ q) (r' r : Nat → Int32) : vTakes (setR σ q r') r = vTakes σ r := by
  funext m
  unfold vTakes
  rw [vCarry_set σ hq, setR_n _ _ _ (by omega)]
theorem vKept_set (σ : wd_S) {q : Nat} (hq : 9 ≤ q) (r' r : Nat → Int32) : vKept (setR σ q r') r = vKept σ r := by
  funext m
  unfold vKept
  rw [vTakes_set σ hq, setR_n _ _ _ (by omega)]
theorem vWorth_set (σ : wd_S) {q : Nat} (hq : 9 ≤ q) (r' r : Nat → Int32) : vWorth (setR σ q r') r = vWorth σ r := by
  funext m
  unfold vWorth
  rw [vTakes_set σ hq, setR_n _ _ _ (by omega)]
theorem vHas_set (σ : wd_S) {q : Nat} (hq : 9 ≤ q) (r' r : Nat → Int32) : vHas (setR σ q r') r = vHas σ r := by
  funext m
  unfold vHas
  rw [vWorth_set σ hq, vKept_set σ hq, setR_n _ _ _ (by omega)]
/-- rows that agree on what having hangs on -/
def rEq (r r' : Nat → Int32) : Prop := ∀ k, k < 24 ∨ k = 30 → r k = r' k
theorem vCarry_eq {σ : wd_S} {r r' : Nat → Int32} (h : rEq r r') {m : Nat} (hm : m < 6) (c : Nat) : vCarry σ r m c = vCarry σ r' m c := by
  unfold vCarry
  rw [h (18 + m) (by omega), h (12 + m) (by omega), h 30 (by omega)]
theorem vTakes_eq {σ : wd_S} {r r' : Nat → Int32} (h : rEq r r') {W : Nat → Int32} {nm nc m : Nat} (hr : rOk W r nm nc) (hm : m < nm) : vTakes σ r m = vTakes σ r' m := by
  have h6 := hr.1
  unfold vTakes oF sF
  rw [← h (6 + m) (by omega)]
  by_cases c : 0 ≤ r (6 + m) - 1
  · have ho := hr.ol hm c
    unfold oF at ho
    rw [if_pos c, if_pos c, ← h _ (by omega), vCarry_eq h (by omega)]
  · rw [if_neg c, if_neg c]
theorem vKept_eq {σ : wd_S} {r r' : Nat → Int32} (h : rEq r r') {W : Nat → Int32} {nm nc m : Nat} (hr : rOk W r nm nc) (hm : m < nm) : vKept σ r m = vKept σ r' m := by
  have h6 := hr.1
  unfold vKept oF sF
  rw [← h (6 + m) (by omega), ← h m (by omega)]
  by_cases c : 0 ≤ r (6 + m) - 1
  · rw [if_pos c, if_pos c, vTakes_eq h hr (hr.ol hm c)]
  · rw [if_neg c, if_neg c]
theorem vWorth_eq {σ : wd_S} {r r' : Nat → Int32} (h : rEq r r') {W : Nat → Int32} {nm nc m : Nat} (hr : rOk W r nm nc) (hm : m < nm) : vWorth σ r m = vWorth σ r' m := by
  have h6 := hr.1
  unfold vWorth oF sF
  rw [← h (6 + m) (by omega)]
  by_cases c : 0 ≤ r (6 + m) - 1
  · have ho := hr.ol hm c
    unfold oF at ho
    rw [if_pos c, if_pos c, ← h _ (by omega), vTakes_eq h hr hm]
  · rw [if_neg c, if_neg c]
theorem vHas_eq {σ : wd_S} {r r' : Nat → Int32} (h : rEq r r') {W : Nat → Int32} {nm nc m : Nat} (hr : rOk W r nm nc) (hm : m < nm) : vHas σ r m = vHas σ r' m := by
  have h6 := hr.1
  unfold vHas sF
  rw [vWorth_eq h hr hm, vKept_eq h hr hm, h m (by omega)]
theorem rOk_eq {r r' : Nat → Int32} (h : rEq r r') {W : Nat → Int32} {nm nc : Nat} (hr : rOk W r nm nc) : rOk W r' nm nc := by
  have h6 := hr.1
  refine ⟨hr.1, hr.2.1, fun m hm => ?_, hr.2.2.2.1, ?_⟩
  · rw [← h m (by omega), ← h (6 + m) (by omega)]
    exact hr.2.2.1 m hm
  · rw [← h 30 (by omega)]
    exact hr.2.2.2.2
def stv (z : Int32) : Int32 := if (-9999) ≤ z then (if z ≤ 9999 then z else 9999) else -9999
abbrev vMore (σ : wd_S) (r : Nat → Int32) (m : Nat) : Int32 := vHas σ r m - σ.1 7 m
def grR (σ : wd_S) (r : Nat → Int32) (n : Nat) : Nat → Int32 := fun k => if 24 ≤ k ∧ k < 24 + n then stv (r k + vMore σ r (k - 24)) else r k
def goR (σ : wd_S) (r : Nat → Int32) (nm : Nat) : Nat → Int32 := upd (grR σ r nm) 31 (r 31 + 1)
def vFed (σ : wd_S) (r : Nat → Int32) (n : Nat) : Int32 := itr (fun m f => if vMore σ r m < 0 then f + 0 else f + 1) 0 n
theorem grR_eq (σ : wd_S) (r : Nat → Int32) (n : Nat) (hn : n ≤ 6) : rEq r (grR σ r n) := fun k hk => (if_neg (by omega)).symm
theorem grR_0 (σ : wd_S) (r : Nat → Int32) : grR σ r 0 = r := funext fun k => if_neg (by omega)
theorem grR_s (σ : wd_S) (r : Nat → Int32) (n : Nat) : upd (grR σ r n) (24 + n) (stv (r (24 + n) + vMore σ r n)) = grR σ r (n + 1) := by
  funext k
  unfold upd grR
  by_cases h : k = 24 + n
  · subst h
    rw [if_pos rfl, if_pos ⟨by omega, by omega⟩, Nat.add_sub_cancel_left]
  · rw [if_neg h]
    by_cases h2 : 24 ≤ k ∧ k < 24 + n
    · rw [if_pos h2, if_pos ⟨h2.1, by omega⟩]
    · rw [if_neg h2, if_neg (by omega)]

theorem r_hasR {V : wd_V} {ad : Nat → Nat} (hinj : wd_inj rS ad) (σ : wd_S) (q : Nat) (hq : q = 9 ∨ q = 10) (nm nc : Nat) (r : Nat → Int32) (hr : rOk (σ.1 3) r nm nc) (x : Int32) (m : Nat) (hx : x = nI m) (hm : m < nm) : wd_C rS V ad 3 yX5_hasBy (Cond.code yX5_hasBy cX5_hasBy 3 (some .int) :: wsL_law) (setR σ q r) [.ref (ad 0), .ref (ad q), .int x] (wd_eq (some (.int (vHas σ r m))) (setR σ q r)) := by
  have h := r_hasBy (V := V) hinj (setR σ q r) q hq nm nc (by rw [setR_k, setR_n _ _ _ (by omega)]; exact hr) x m hx hm
  rw [setR_k, vHas_set σ (by omega)] at h
  exact h
theorem r_worthR {V : wd_V} {ad : Nat → Nat} (hinj : wd_inj rS ad) (σ : wd_S) (q : Nat) (hq : q = 9 ∨ q = 10) (nm nc : Nat) (r : Nat → Int32) (hr : rOk (σ.1 3) r nm nc) (x : Int32) (m : Nat) (hx : x = nI m) (hm : m < nm) : wd_C rS V ad 2 yX5_takenWorth (Cond.code yX5_takenWorth cX5_takenWorth 4 (some .int) :: wsL_law) (setR σ q r) [.ref (ad 0), .ref (ad q), .int x] (wd_eq (some (.int (vWorth σ r m))) (setR σ q r)) := by
  have h := r_takenWorth (V := V) hinj (setR σ q r) q hq nm nc (by rw [setR_k, setR_n _ _ _ (by omega)]; exact hr) x m hx hm
  rw [setR_k, vWorth_set σ (by omega)] at h
  exact h
theorem r_takesR {V : wd_V} {ad : Nat → Nat} (hinj : wd_inj rS ad) (σ : wd_S) (q : Nat) (hq : q = 9 ∨ q = 10) (nm nc : Nat) (r : Nat → Int32) (hr : rOk (σ.1 3) r nm nc) (x : Int32) (m : Nat) (hx : x = nI m) (hm : m < nm) : wd_C rS V ad 1 yX5_takesBy (Cond.code yX5_takesBy cX5_takesBy 7 (some .int) :: wsL_law) (setR σ q r) [.ref (ad 0), .ref (ad q), .int x] (wd_eq (some (.int (vTakes σ r m))) (setR σ q r)) := by
  have h := r_takesBy (V := V) hinj (setR σ q r) q hq nm nc (by rw [setR_k, setR_n _ _ _ (by omega)]; exact hr) x m hx hm
  rw [setR_k, vTakes_set σ (by omega)] at h
  exact h
set_option maxRecDepth 100000 in
set_option maxHeartbeats 4000000 in
theorem r_goes {V : wd_V} {ad : Nat → Nat} (hinj : wd_inj rS ad) (σ : wd_S) (q : Nat) (hq : q = 9 ∨ q = 10) (nm nc : Nat) (r : Nat → Int32) (hr : rOk (σ.1 3) r nm nc) (hnm : σ.1 2 1 = nI nm) : wd_C rS V ad 4 yX5_goes (Cond.code yX5_goes cX5_goes 6 (some .int) :: wsL_law) (setR σ q r) [.ref (ad 0), .ref (ad q)] (wd_eq (some (.int (vFed σ r nm))) (setR σ q (goR σ r nm))) := by
  refine wd_intro (lv := [some (.ref (ad 0)), some (.ref (ad q)), none, none, none, none]) hinj (by decide) rfl (Nat.le_of_ble_eq_true rfl) rfl (Nat.le_of_ble_eq_true rfl) (fun K hC => ?_)
  have h6 := hr.1
  have ghas : ∀ i, i < nm → wd_C rS V ad 3 yX5_hasBy (Cond.code yX5_hasBy cX5_hasBy 3 (some .int) :: wsL_law) (setR σ q (grR σ r i)) [.ref (ad 0), .ref (ad q), .int (nI i)] (wd_eq (some (.int (vHas σ r i))) (setR σ q (grR σ r i))) := fun i hi => by
    have h := r_hasR (V := V) hinj σ q hq nm nc (grR σ r i) (rOk_eq (grR_eq σ r i (by omega)) hr) (nI i) i rfl hi
    rw [← vHas_eq (grR_eq σ r i (by omega)) hr hi] at h
    exact h
  have loop : ∀ (k i : Nat) (f : Int32) (o4 o5 : Option Value), i ≤ nm → nm < i + k → vFed σ r i = f → wd_G rS V ad K 6 (wd_Qm rS V ad K (wd_eq (some (.int (vFed σ r nm))) (setR σ q (goR σ r nm)))) 4 [some (.ref (ad 0)), some (.ref (ad q)), some (.int f), some (.int (nI i)), o4, o5] [] (setR σ q (grR σ r i)) := by
    intro k
    induction k with
    | zero =>
      intro i f o4 o5 h1 h2 hst
      exact absurd h2 (by omega)
    | succ k ih =>
      intro i f o4 o5 h1 h2 hst
      refine wd_iload_n hC dX5_goes_4 rfl rfl ?_
      refine wd_aload_n hC dX5_goes_5 rfl rfl ?_
      refine gf_X5_13 hC dX5_goes_6 ?_
      refine wd_iconst (v := 1) hC dX5_goes_9 rfl ?_
      refine rl_many hC dX5_goes_10 1 rfl (by decide) ?_
      refine wd_vi (show _ = nI nm from (by rw [setR_n _ _ _ (by omega)]; exact hnm)) ?_
      refine wd_icmp_ge (tgt := 95) hC dX5_goes_11 (by decide) (fun c_11 => ?_) (fun c_11 => ?_)
      · have hin : _ = i := (lp_ge (n := nm) rfl c_11 h1 (by omega)).symm
        subst hin
        refine wd_aload_n hC dX5_goes_95 rfl rfl ?_
        refine wd_bipush (v := 31) hC dX5_goes_96 rfl ?_
        refine wd_dup2 hC dX5_goes_98 rfl rfl ?_
        refine rl_r hC dX5_goes_99 31 rfl (by decide) ?_
        refine wd_vi (show _ = r 31 from (by rw [setR_k]; exact if_neg (by omega))) ?_
        refine wd_iconst (v := 1) hC dX5_goes_100 rfl ?_
        refine wd_iadd hC dX5_goes_101 ?_
        refine rs_r hC dX5_goes_102 31 rfl (by decide) ?_
        refine wd_ts (setR_up _ _ _ _ _) ?_
        refine wd_iload_n hC dX5_goes_103 rfl rfl ?_
        exact wd_iret hC rfl dX5_goes_104 hst.symm rfl
      · have hin : i < nm := lp_lt (n := nm) rfl c_11 h1 (by omega)
        refine wd_aload_n hC dX5_goes_14 rfl rfl ?_
        refine wd_aload_n hC dX5_goes_15 rfl rfl ?_
        refine wd_iload_n hC dX5_goes_16 rfl rfl ?_
        refine cv5i hC cw_X5_142 (ghas i hin) dX5_goes_17 (by first | decide | omega) (by decide) rfl rfl (Nat.le_of_ble_eq_true rfl) ?_
        refine wd_aload_n hC dX5_goes_20 rfl rfl ?_
        refine gf_X5_28 hC dX5_goes_21 ?_
        refine wd_iload_n hC dX5_goes_24 rfl rfl ?_
        refine rl_needs hC dX5_goes_25 (i) rfl (by omega) ?_
        refine wd_vi (show _ = σ.1 7 i from (by rw [setR_n _ _ _ (by omega)])) ?_
        refine wd_isub hC dX5_goes_26 ?_
        refine wd_istore_6_4 hC dX5_goes_27 ?_
        refine wd_aload_n hC dX5_goes_29 rfl rfl ?_
        refine wd_bipush (v := 24) hC dX5_goes_30 rfl ?_
        refine wd_iload_n hC dX5_goes_32 rfl rfl ?_
        refine wd_iadd hC dX5_goes_33 ?_
        refine rl_r hC dX5_goes_34 (24 + i) (addI rfl 24) (by omega) ?_
        refine wd_vi (show _ = r (24 + i) from (by rw [setR_k]; exact if_neg (by omega))) ?_
        refine wd_iload hC dX5_goes_35 rfl ?_
        refine wd_iadd hC dX5_goes_37 ?_
        refine wd_istore_6_5 hC dX5_goes_38 ?_
        refine wd_aload_n hC dX5_goes_40 rfl rfl ?_
        refine wd_bipush (v := 24) hC dX5_goes_41 rfl ?_
        refine wd_iload_n hC dX5_goes_43 rfl rfl ?_
        refine wd_iadd hC dX5_goes_44 ?_
        refine wd_iload hC dX5_goes_45 rfl ?_
        refine wd_sipush (v := -9999) hC dX5_goes_47 rfl ?_
        refine wd_icmp_ge (tgt := 59) hC dX5_goes_50 (by decide) (fun c_50 => ?_) (fun c_50 => ?_)
        · refine wd_iload hC dX5_goes_59 rfl ?_
          refine wd_sipush (v := 9999) hC dX5_goes_61 rfl ?_
          refine wd_icmp_le (tgt := 73) hC dX5_goes_64 (by decide) (fun c_64 => ?_) (fun c_64 => ?_)
          · refine wd_iload hC dX5_goes_73 rfl ?_
            refine rs_r hC dX5_goes_75 (24 + i) (addI rfl 24) (by omega) ?_
            refine wd_ts (show _ = setR σ q (grR σ r (i + 1)) from (by rw [setR_up, ← grR_s, show stv (r (24 + i) + vMore σ r i) = _ from ((if_pos c_50).trans (if_pos c_64))])) ?_
            refine wd_iload_n hC dX5_goes_76 rfl rfl ?_
            refine wd_iload hC dX5_goes_77 rfl ?_
            refine wd_if_lt (tgt := 86) hC dX5_goes_79 (by decide) (fun c_79 => ?_) (fun c_79 => ?_)
            · refine wd_iconst (v := 0) hC dX5_goes_86 rfl ?_
              refine wd_iadd hC dX5_goes_87 ?_
              refine wd_istore_n_6_2 hC dX5_goes_88 ?_
              refine wd_iincN_6_3 hC dX5_goes_89 ?_
              refine wd_goto (tgt := 4) hC dX5_goes_92 (by decide) ?_
              exact ih (i + 1) _ _ _ (by omega) (by omega) (by show (if vMore σ r i < 0 then vFed σ r i + 0 else vFed σ r i + 1) = _; rw [hst]; first | exact if_pos c_79 | exact if_neg c_79)
            · refine wd_iconst (v := 1) hC dX5_goes_82 rfl ?_
              refine wd_goto (tgt := 87) hC dX5_goes_83 (by decide) ?_
              refine wd_iadd hC dX5_goes_87 ?_
              refine wd_istore_n_6_2 hC dX5_goes_88 ?_
              refine wd_iincN_6_3 hC dX5_goes_89 ?_
              refine wd_goto (tgt := 4) hC dX5_goes_92 (by decide) ?_
              exact ih (i + 1) _ _ _ (by omega) (by omega) (by show (if vMore σ r i < 0 then vFed σ r i + 0 else vFed σ r i + 1) = _; rw [hst]; first | exact if_pos c_79 | exact if_neg c_79)
          · refine wd_sipush (v := 9999) hC dX5_goes_67 rfl ?_
            refine wd_goto (tgt := 75) hC dX5_goes_70 (by decide) ?_
            refine rs_r hC dX5_goes_75 (24 + i) (addI rfl 24) (by omega) ?_
            refine wd_ts (show _ = setR σ q (grR σ r (i + 1)) from (by rw [setR_up, ← grR_s, show stv (r (24 + i) + vMore σ r i) = _ from ((if_pos c_50).trans (if_neg c_64))])) ?_
            refine wd_iload_n hC dX5_goes_76 rfl rfl ?_
            refine wd_iload hC dX5_goes_77 rfl ?_
            refine wd_if_lt (tgt := 86) hC dX5_goes_79 (by decide) (fun c_79 => ?_) (fun c_79 => ?_)
            · refine wd_iconst (v := 0) hC dX5_goes_86 rfl ?_
              refine wd_iadd hC dX5_goes_87 ?_
              refine wd_istore_n_6_2 hC dX5_goes_88 ?_
              refine wd_iincN_6_3 hC dX5_goes_89 ?_
              refine wd_goto (tgt := 4) hC dX5_goes_92 (by decide) ?_
              exact ih (i + 1) _ _ _ (by omega) (by omega) (by show (if vMore σ r i < 0 then vFed σ r i + 0 else vFed σ r i + 1) = _; rw [hst]; first | exact if_pos c_79 | exact if_neg c_79)
            · refine wd_iconst (v := 1) hC dX5_goes_82 rfl ?_
              refine wd_goto (tgt := 87) hC dX5_goes_83 (by decide) ?_
              refine wd_iadd hC dX5_goes_87 ?_
              refine wd_istore_n_6_2 hC dX5_goes_88 ?_
              refine wd_iincN_6_3 hC dX5_goes_89 ?_
              refine wd_goto (tgt := 4) hC dX5_goes_92 (by decide) ?_
              exact ih (i + 1) _ _ _ (by omega) (by omega) (by show (if vMore σ r i < 0 then vFed σ r i + 0 else vFed σ r i + 1) = _; rw [hst]; first | exact if_pos c_79 | exact if_neg c_79)
        · refine wd_sipush (v := -9999) hC dX5_goes_53 rfl ?_
          refine wd_goto (tgt := 75) hC dX5_goes_56 (by decide) ?_
          refine rs_r hC dX5_goes_75 (24 + i) (addI rfl 24) (by omega) ?_
          refine wd_ts (show _ = setR σ q (grR σ r (i + 1)) from (by rw [setR_up, ← grR_s, show stv (r (24 + i) + vMore σ r i) = _ from (if_neg c_50)])) ?_
          refine wd_iload_n hC dX5_goes_76 rfl rfl ?_
          refine wd_iload hC dX5_goes_77 rfl ?_
          refine wd_if_lt (tgt := 86) hC dX5_goes_79 (by decide) (fun c_79 => ?_) (fun c_79 => ?_)
          · refine wd_iconst (v := 0) hC dX5_goes_86 rfl ?_
            refine wd_iadd hC dX5_goes_87 ?_
            refine wd_istore_n_6_2 hC dX5_goes_88 ?_
            refine wd_iincN_6_3 hC dX5_goes_89 ?_
            refine wd_goto (tgt := 4) hC dX5_goes_92 (by decide) ?_
            exact ih (i + 1) _ _ _ (by omega) (by omega) (by show (if vMore σ r i < 0 then vFed σ r i + 0 else vFed σ r i + 1) = _; rw [hst]; first | exact if_pos c_79 | exact if_neg c_79)
          · refine wd_iconst (v := 1) hC dX5_goes_82 rfl ?_
            refine wd_goto (tgt := 87) hC dX5_goes_83 (by decide) ?_
            refine wd_iadd hC dX5_goes_87 ?_
            refine wd_istore_n_6_2 hC dX5_goes_88 ?_
            refine wd_iincN_6_3 hC dX5_goes_89 ?_
            refine wd_goto (tgt := 4) hC dX5_goes_92 (by decide) ?_
            exact ih (i + 1) _ _ _ (by omega) (by omega) (by show (if vMore σ r i < 0 then vFed σ r i + 0 else vFed σ r i + 1) = _; rw [hst]; first | exact if_pos c_79 | exact if_neg c_79)
  refine wd_iconst (v := 0) hC dX5_goes_0 rfl ?_
  refine wd_istore_n_6_2 hC dX5_goes_1 ?_
  refine wd_iconst (v := 0) hC dX5_goes_2 rfl ?_
  refine wd_istore_n_6_3 hC dX5_goes_3 ?_
  exact wd_ts (show setR σ q r = setR σ q (grR σ r 0) from (by rw [grR_0])) (loop (nm + 1) 0 _ _ _ (Nat.zero_le _) (by omega) rfl)
set_option maxRecDepth 100000 in
set_option maxHeartbeats 4000000 in
theorem r_year_state {V : wd_V} {ad : Nat → Nat} (hinj : wd_inj rS ad) (σ : wd_S) (h0 : σ.1 0 0 = 0) (hF : σ.1 9 31 = 999) : wd_C rS V ad 0 yX5_year (Cond.code yX5_year cX5_year 1 (some .int) :: wsL_law) σ [.ref (ad 0)] (wd_eq (some (.int (-2))) (σ)) := by
  refine wd_intro (lv := [some (.ref (ad 0))]) hinj (by decide) rfl (Nat.le_of_ble_eq_true rfl) rfl (Nat.le_of_ble_eq_true rfl) (fun K hC => ?_)
  refine wd_aload_n hC dX5_year_0 rfl rfl ?_
  refine wd_iconst (v := 0) hC dX5_year_1 rfl ?_
  refine pf_X5_62 hC dX5_year_2 ?_
  refine wd_ts (up_00 h0) ?_
  refine wd_aload_n hC dX5_year_5 rfl rfl ?_
  refine gf_X5_34 hC dX5_year_6 ?_
  refine wd_bipush (v := 31) hC dX5_year_9 rfl ?_
  refine rl_s hC dX5_year_11 31 rfl (by decide) ?_
  refine wd_sipush (v := 999) hC dX5_year_12 rfl ?_
  refine wd_icmp_ne (tgt := 21) hC dX5_year_15 (by decide) (fun c_15 => absurd hF c_15) (fun c_15 => ?_)
  refine wd_bipush (v := -2) hC dX5_year_18 rfl ?_
  exact wd_iret hC rfl dX5_year_20 rfl rfl
theorem vHas_note (σ : wd_S) (u : Nat) (r : Nat → Int32) : vHas (noteW σ u) r = vHas σ r := by
  have e : ∀ a, a ≠ 13 → a ≠ 0 → (noteW σ u).1 a = σ.1 a := fun a h1 h2 => note_lo σ u h1 h2
  have h1 : vCarry (noteW σ u) r = vCarry σ r := by funext m c; unfold vCarry; rw [e 6 (by decide) (by decide), e 5 (by decide) (by decide), e 3 (by decide) (by decide)]
  have h2 : vTakes (noteW σ u) r = vTakes σ r := by funext m; unfold vTakes; rw [h1, e 8 (by decide) (by decide)]
  funext m
  unfold vHas vWorth vKept
  rw [h2, e 4 (by decide) (by decide), e 8 (by decide) (by decide)]
theorem goR_note (σ : wd_S) (u : Nat) (r : Nat → Int32) (nm : Nat) : goR (noteW σ u) r nm = goR σ r nm := by
  unfold goR grR vMore
  rw [vHas_note, note_lo σ u (by decide) (by decide)]
theorem vFed_note (σ : wd_S) (u : Nat) (r : Nat → Int32) (n : Nat) : vFed (noteW σ u) r n = vFed σ r n := by
  unfold vFed vMore
  rw [vHas_note, note_lo σ u (by decide) (by decide)]

set_option maxRecDepth 100000 in
set_option maxHeartbeats 4000000 in
theorem r_year {V : wd_V} {ad : Nat → Nat} (hinj : wd_inj rS ad) (σ : wd_S) (h0 : σ.1 0 0 = 0) (nm nc : Nat) (hnm : σ.1 2 1 = nI nm) (hnc : σ.1 2 0 = nI nc) (h6 : nm ≤ 6) (h3 : nc ≤ 3) (hr : rOk (σ.1 3) (σ.1 9) nm nc) (u : Nat) (hu : σ.1 0 21 = nI u) (hu2 : u ≤ 10) (hF : ¬ σ.1 9 31 = 999) : wd_C rS V ad 5 yX5_year (Cond.code yX5_year cX5_year 1 (some .int) :: wsL_law) σ [.ref (ad 0)] (wd_eq (some (.int (vFed σ (σ.1 9) nm))) (setR (noteW σ u) 9 (goR σ (σ.1 9) nm))) := by
  refine wd_intro (lv := [some (.ref (ad 0))]) hinj (by decide) rfl (Nat.le_of_ble_eq_true rfl) rfl (Nat.le_of_ble_eq_true rfl) (fun K hC => ?_)
  refine wd_aload_n hC dX5_year_0 rfl rfl ?_
  refine wd_iconst (v := 0) hC dX5_year_1 rfl ?_
  refine pf_X5_62 hC dX5_year_2 ?_
  refine wd_ts (up_00 h0) ?_
  refine wd_aload_n hC dX5_year_5 rfl rfl ?_
  refine gf_X5_34 hC dX5_year_6 ?_
  refine wd_bipush (v := 31) hC dX5_year_9 rfl ?_
  refine rl_s hC dX5_year_11 31 rfl (by decide) ?_
  refine wd_sipush (v := 999) hC dX5_year_12 rfl ?_
  refine wd_icmp_ne (tgt := 21) hC dX5_year_15 (by decide) (fun c_15 => ?_) (fun c_15 => absurd c_15 hF)
  refine wd_aload_n hC dX5_year_21 rfl rfl ?_
  refine cv5v hC cw_X5_155 (r_notes hinj _ u hu hu2) dX5_year_22 (by first | decide | omega) (by decide) rfl rfl (Nat.le_of_ble_eq_true rfl) ?_
  refine wd_ts (show noteW σ u = setR (noteW σ u) 9 (σ.1 9) from (by rw [← note_9 σ u, setR_self])) ?_
  refine wd_aload_n hC dX5_year_25 rfl rfl ?_
  refine wd_aload_n hC dX5_year_26 rfl rfl ?_
  refine gf_X5_34 hC dX5_year_27 ?_
  refine cv5i hC cw_X5_165 (r_goes hinj (noteW σ u) 9 (Or.inl rfl) nm nc (σ.1 9) (by rw [note_lo σ u (by decide) (by decide)]; exact hr) (by rw [note_lo σ u (by decide) (by decide)]; exact hnm)) dX5_year_30 (by first | decide | omega) (by decide) rfl rfl (Nat.le_of_ble_eq_true rfl) ?_
  exact wd_iret hC rfl dX5_year_33 (vFed_note _ _ _ _) (by rw [goR_note])

/-! ===== the reference: rows copied ===== -/
theorem wd_dup2 {sd : wd_Side} {V : wd_V} {ad : Nat → Nat} {K : wd_K} {own : String} {cc : ByteArray} {nL d : Nat} {ret : Option FieldType} {Q : State → Prop} {pc : Nat} {lv : List (Option Value)} {st : List Value} {σ : wd_S} (hC : wd_Ok sd V ad K own cc nL d ret) {v w : Value} (hdg : decode cc pc = .ok (.dup2, 1)) (hv : v.category = 1) (hw : w.category = 1) (k : wd_G sd V ad K nL Q (pc + 1) lv (v :: w :: v :: w :: st) σ) : wd_G sd V ad K nL Q pc lv (v :: w :: st) σ := by
  obtain ⟨p, e, R, s, m, args, below, meth, c⟩ := K
  obtain ⟨hx, hb, hml, hown, hts, hK, hlk, hrt, hR, hinj⟩ := hC
  subst hR
  intro H locs ls hP hS hl
  exact lv_dup2_11 hx hb hdg hv hw (k H locs ls hP hS hl)
/-- n numbers of cell q0 from o0 on laid into cell q1 from o1 on -/
def cpyW (σ : wd_S) (q0 o0 q1 o1 n : Nat) : wd_S := (fun a b => if a = q1 ∧ o1 ≤ b ∧ b < o1 + n then σ.1 q0 (o0 + (b - o1)) else σ.1 a b, σ.2)
theorem cpyW_0 (σ : wd_S) (q0 o0 q1 o1 : Nat) : cpyW σ q0 o0 q1 o1 0 = σ := wd_ext (fun a => funext fun b => if_neg (by omega)) rfl
theorem cpyW_s (σ : wd_S) (q0 o0 q1 o1 n : Nat) : wd_up (cpyW σ q0 o0 q1 o1 n) q1 (o1 + n) (σ.1 q0 (o0 + n)) = cpyW σ q0 o0 q1 o1 (n + 1) := by
  refine wd_ext (fun a => funext fun b => ?_) rfl
  show (if a = q1 ∧ b = o1 + n then σ.1 q0 (o0 + n) else if a = q1 ∧ o1 ≤ b ∧ b < o1 + n then σ.1 q0 (o0 + (b - o1)) else σ.1 a b) = (if a = q1 ∧ o1 ≤ b ∧ b < o1 + (n + 1) then σ.1 q0 (o0 + (b - o1)) else σ.1 a b)
  by_cases h : a = q1 ∧ b = o1 + n
  · rw [if_pos h, if_pos ⟨h.1, by omega, by omega⟩, h.2, Nat.add_sub_cancel_left]
  · rw [if_neg h]
    by_cases h2 : a = q1 ∧ o1 ≤ b ∧ b < o1 + n
    · rw [if_pos h2, if_pos ⟨h2.1, h2.2.1, by omega⟩]
    · rw [if_neg h2, if_neg (by omega)]
theorem cpyW_o (σ : wd_S) (q0 o0 q1 o1 n : Nat) {a b : Nat} (h : ¬ (a = q1 ∧ o1 ≤ b ∧ b < o1 + n)) : (cpyW σ q0 o0 q1 o1 n).1 a b = σ.1 a b := if_neg h
/-- a whole row changed -/
def setR (σ : wd_S) (q : Nat) (r : Nat → Int32) : wd_S := (fun a => if a = q then r else σ.1 a, σ.2)
theorem setR_k (σ : wd_S) (q : Nat) (r : Nat → Int32) : (setR σ q r).1 q = r := if_pos rfl
theorem setR_n (σ : wd_S) (q : Nat) (r : Nat → Int32) {a : Nat} (h : a ≠ q) : (setR σ q r).1 a = σ.1 a := if_neg h
theorem setR_up (σ : wd_S) (q : Nat) (r : Nat → Int32) (i : Nat) (v : Int32) : wd_up (setR σ q r) q i v = setR σ q (upd r i v) := by
  refine wd_ext (fun a => ?_) rfl
  by_cases h : a = q
  · subst h
    rw [wd_up_k, setR_k, setR_k]
  · rw [wd_up_n _ _ _ _ h, setR_n _ _ _ h, setR_n _ _ _ h]
theorem setR_self (σ : wd_S) (q : Nat) : setR σ q (σ.1 q) = σ := by
  refine wd_ext (fun a => ?_) rfl
  by_cases h : a = q
  · subst h
    rw [setR_k]
  · rw [setR_n _ _ _ h]
theorem setR_set (σ : wd_S) (q : Nat) (r r' : Nat → Int32) : setR (setR σ q r) q r' = setR σ q r' := by
  refine wd_ext (fun a => ?_) rfl
  by_cases h : a = q
  · subst h
    rw [setR_k, setR_k]
  · rw [setR_n _ _ _ h, setR_n _ _ _ h, setR_n _ _ _ h]
/-- rows s and w have 32 places -/
theorem rS_32 {V : wd_V} {ad : Nat → Nat} (σ : wd_S) {q : Nat} (hq : q = 9 ∨ q = 10) (r : Nat → Int32) (h : ∀ i, i < 32 → σ.1 q i = r i) : ∀ (D : va_G) (H : Heap), va_P D vwCl (wd_cells rS ad V.2.2 σ) H → va_P D vwCl (wd_cells rS ad V.2.2 (setR σ q r)) H := by
  refine wd_eqv (fun k _ => ?_)
  by_cases hk : k = q
  · subst hk
    right
    exact ⟨_, _, _, _, rq_E hq _, rq_E hq _, fun i hi => by rw [setR_k]; exact h i hi⟩
  · left
    show rE ad V.2.2 σ.2 k _ = rE ad V.2.2 σ.2 k _
    rw [setR_n _ _ _ hk]
theorem cpy_set {V : wd_V} {ad : Nat → Nat} (σ : wd_S) {q q0 o0 : Nat} (hq : q = 9 ∨ q = 10) : ∀ (D : va_G) (H : Heap), va_P D vwCl (wd_cells rS ad V.2.2 (cpyW σ q0 o0 q 0 32)) H → va_P D vwCl (wd_cells rS ad V.2.2 (setR σ q (fun i => σ.1 q0 (o0 + i)))) H := by
  have h := rS_32 (V := V) (ad := ad) (cpyW σ q0 o0 q 0 32) hq (fun i => σ.1 q0 (o0 + i)) (fun i hi => by
    show (if q = q ∧ 0 ≤ i ∧ i < 0 + 32 then σ.1 q0 (o0 + (i - 0)) else _) = _
    rw [if_pos ⟨rfl, Nat.zero_le _, by omega⟩, Nat.sub_zero])
  have e : setR (cpyW σ q0 o0 q 0 32) q (fun i => σ.1 q0 (o0 + i)) = setR σ q (fun i => σ.1 q0 (o0 + i)) := by
    refine wd_ext (fun a => ?_) rfl
    by_cases h : a = q
    · subst h
      rw [setR_k, setR_k]
    · rw [setR_n _ _ _ h, setR_n _ _ _ h]
      funext b
      exact cpyW_o _ _ _ _ _ _ (by omega)
  rw [e] at h
  exact h

/-! ===== asNow ===== -/
set_option maxRecDepth 100000 in
set_option maxHeartbeats 4000000 in
theorem r_asNow {V : wd_V} {ad : Nat → Nat} (hinj : wd_inj rS ad) (σ : wd_S)  : wd_C rS V ad 0 yX5_asNow (Cond.code yX5_asNow cX5_asNow 2 none :: wsL_law) σ [.ref (ad 0)] (wd_eq none (setR σ 10 (σ.1 9))) := by
  refine wd_intro (lv := [some (.ref (ad 0)), none]) hinj (by decide) rfl (Nat.le_of_ble_eq_true rfl) rfl (Nat.le_of_ble_eq_true rfl) (fun K hC => ?_)
  have loop : ∀ (k i : Nat), i ≤ 32 → 32 < i + k → wd_G rS V ad K 2 (wd_Qm rS V ad K (wd_eq none (setR σ 10 (σ.1 9)))) 2 [some (.ref (ad 0)), some (.int (nI i))] [] (cpyW σ 9 0 10 0 i) := by
    intro k
    induction k with
    | zero =>
      intro i  h1 h2 
      exact absurd h2 (by omega)
    | succ k ih =>
      intro i  h1 h2 
      refine wd_iload_n hC dX5_asNow_2 rfl rfl ?_
      refine wd_bipush (v := 32) hC dX5_asNow_3 rfl ?_
      refine wd_icmp_ge (tgt := 26) hC dX5_asNow_5 (by decide) (fun c_5 => ?_) (fun c_5 => ?_)
      · have hin : i = 32 := lp_ge (x := 32) (n := 32) rfl c_5 h1 (by decide)
        subst hin
        refine wd_to (cpy_set σ (Or.inr rfl)) ?_
        exact wd_vret hC rfl dX5_asNow_26 (by congr 1; funext i; rw [Nat.zero_add])
      · have hin : i < 32 := lp_lt (x := 32) (n := 32) rfl c_5 h1 (by decide)
        refine wd_aload_n hC dX5_asNow_8 rfl rfl ?_
        refine gf_X5_37 hC dX5_asNow_9 ?_
        refine wd_iload_n hC dX5_asNow_12 rfl rfl ?_
        refine wd_aload_n hC dX5_asNow_13 rfl rfl ?_
        refine gf_X5_34 hC dX5_asNow_14 ?_
        refine wd_iload_n hC dX5_asNow_17 rfl rfl ?_
        refine rl_s hC dX5_asNow_18 (i) rfl (by omega) ?_
        refine wd_vi (show _ = σ.1 9 (0 + i) from (by rw [cpyW_o _ _ _ _ _ _ (by omega), Nat.zero_add])) ?_
        refine rs_w hC dX5_asNow_19 (i) rfl (by omega) ?_
        refine wd_ts (show _ = cpyW σ 9 0 10 0 (i + 1) from (by rw [← cpyW_s, Nat.zero_add])) ?_
        refine wd_iincN_2_1 hC dX5_asNow_20 ?_
        refine wd_goto (tgt := 2) hC dX5_asNow_23 (by decide) ?_
        exact ih (i + 1) (by omega) (by omega)
  refine wd_iconst (v := 0) hC dX5_asNow_0 rfl ?_
  refine wd_istore_n_2_1 hC dX5_asNow_1 ?_
  exact wd_ts (cpyW_0 σ 9 0 10 0).symm (loop 33 0 (by decide) (by decide))
/-! ===== notes ===== -/
def noteA (σ : wd_S) (u : Nat) : wd_S := wd_up (cpyW σ 9 0 13 (32 * u) 32) 0 21 (nI (u + 1))
def noteW (σ : wd_S) (u : Nat) : wd_S := if u = 10 then noteA (wd_up (cpyW σ 13 32 13 0 288) 0 21 9) 9 else noteA σ u

set_option maxRecDepth 100000 in
set_option maxHeartbeats 4000000 in
theorem r_notes {V : wd_V} {ad : Nat → Nat} (hinj : wd_inj rS ad) (σ : wd_S) (u : Nat) (hu : σ.1 0 21 = nI u) (hu2 : u ≤ 10) : wd_C rS V ad 0 yX5_notes (Cond.code yX5_notes cX5_notes 2 none :: wsL_law) σ [.ref (ad 0)] (wd_eq none (noteW σ u)) := by
  refine wd_intro (lv := [some (.ref (ad 0)), none]) hinj (by decide) rfl (Nat.le_of_ble_eq_true rfl) rfl (Nat.le_of_ble_eq_true rfl) (fun K hC => ?_)
  have loop2 : ∀ (k i : Nat) (τ : wd_S) (z : Nat), i ≤ 32 → 32 < i + k → τ.1 0 21 = nI z → z < 10 → noteA τ z = noteW σ u → wd_G rS V ad K 2 (wd_Qm rS V ad K (wd_eq none (noteW σ u))) 47 [some (.ref (ad 0)), some (.int (nI i))] [] (cpyW τ 9 0 13 (32 * z) i) := by
    intro k
    induction k with
    | zero =>
      intro i τ z h1 h2 hz hz10 hfin
      exact absurd h2 (by omega)
    | succ k ih =>
      intro i τ z h1 h2 hz hz10 hfin
      refine wd_iload_n hC dX5_notes_47 rfl rfl ?_
      refine wd_bipush (v := 32) hC dX5_notes_48 rfl ?_
      refine wd_icmp_ge (tgt := 79) hC dX5_notes_50 (by decide) (fun c_50 => ?_) (fun c_50 => ?_)
      · have hin : i = 32 := lp_ge (x := 32) (n := 32) rfl c_50 h1 (by decide)
        subst hin
        refine wd_aload_n hC dX5_notes_79 rfl rfl ?_
        refine wd_dup hC dX5_notes_80 rfl ?_
        refine gf_X5_117 hC dX5_notes_81 ?_
        refine wd_iconst (v := 1) hC dX5_notes_84 rfl ?_
        refine wd_iadd hC dX5_notes_85 ?_
        refine pf_X5_117 hC dX5_notes_86 ?_
        exact wd_vret hC rfl dX5_notes_89 (by rw [← hfin]; unfold noteA; rw [show (cpyW τ 9 0 13 (32 * z) 32).1 0 21 = nI z from (by rw [cpyW_o _ _ _ _ _ _ (by omega)]; exact hz), nI_1])
      · have hin : i < 32 := lp_lt (x := 32) (n := 32) rfl c_50 h1 (by decide)
        refine wd_aload_n hC dX5_notes_53 rfl rfl ?_
        refine gf_X5_47 hC dX5_notes_54 ?_
        refine wd_bipush (v := 32) hC dX5_notes_57 rfl ?_
        refine wd_aload_n hC dX5_notes_59 rfl rfl ?_
        refine gf_X5_117 hC dX5_notes_60 ?_
        refine wd_imul hC dX5_notes_63 ?_
        refine wd_iload_n hC dX5_notes_64 rfl rfl ?_
        refine wd_iadd hC dX5_notes_65 ?_
        refine wd_aload_n hC dX5_notes_66 rfl rfl ?_
        refine gf_X5_34 hC dX5_notes_67 ?_
        refine wd_iload_n hC dX5_notes_70 rfl rfl ?_
        refine rl_s hC dX5_notes_71 (i) rfl (by omega) ?_
        refine wd_vi (show _ = τ.1 9 (0 + i) from (by rw [cpyW_o _ _ _ _ _ _ (by omega), Nat.zero_add])) ?_
        refine rs_undos hC dX5_notes_72 (32 * z + i) (by rw [show (cpyW τ 9 0 13 (32 * z) i).1 0 21 = nI z from (by rw [cpyW_o _ _ _ _ _ _ (by omega)]; exact hz)]; exact addN (mulI rfl 32) rfl) (by omega) ?_
        refine wd_ts (cpyW_s τ 9 0 13 (32 * z) i) ?_
        refine wd_iincN_2_1 hC dX5_notes_73 ?_
        refine wd_goto (tgt := 47) hC dX5_notes_76 (by decide) ?_
        exact ih (i + 1) _ _ (by omega) (by omega) hz hz10 hfin
  refine wd_aload_n hC dX5_notes_0 rfl rfl ?_
  refine gf_X5_117 hC dX5_notes_1 ?_
  refine wd_bipush (v := 10) hC dX5_notes_4 rfl ?_
  refine wd_icmp_ne (tgt := 45) hC dX5_notes_6 (by decide) (fun c_6 => ?_) (fun c_6 => ?_)
  · have hun : ¬ u = 10 := fun h => c_6 (by rw [hu, h]; rfl)
    refine wd_iconst (v := 0) hC dX5_notes_45 rfl ?_
    refine wd_istore_n_2_1 hC dX5_notes_46 ?_
    exact wd_ts (cpyW_0 σ 9 0 13 (32 * u)).symm (loop2 33 0 _ u (by decide) (by decide) hu (by omega) (by rw [noteW, if_neg hun]))
  · have hu10 : u = 10 := (nI_eq (by omega) (by decide)).mp (show nI u = nI 10 from hu.symm.trans c_6)
    have loop1 : ∀ (k i : Nat), i ≤ 288 → 288 < i + k → wd_G rS V ad K 2 (wd_Qm rS V ad K (wd_eq none (noteW σ u))) 11 [some (.ref (ad 0)), some (.int (nI i))] [] (cpyW σ 13 32 13 0 i) := by
      intro k
      induction k with
      | zero =>
        intro i  h1 h2 
        exact absurd h2 (by omega)
      | succ k ih =>
        intro i  h1 h2 
        refine wd_iload_n hC dX5_notes_11 rfl rfl ?_
        refine wd_sipush (v := 288) hC dX5_notes_12 rfl ?_
        refine wd_icmp_ge (tgt := 39) hC dX5_notes_15 (by decide) (fun c_15 => ?_) (fun c_15 => ?_)
        · have hin : i = 288 := lp_ge (x := 288) (n := 288) rfl c_15 h1 (by decide)
          subst hin
          refine wd_aload_n hC dX5_notes_39 rfl rfl ?_
          refine wd_bipush (v := 9) hC dX5_notes_40 rfl ?_
          refine pf_X5_117 hC dX5_notes_42 ?_
          refine wd_iconst (v := 0) hC dX5_notes_45 rfl ?_
          refine wd_istore_n_2_1 hC dX5_notes_46 ?_
          exact wd_ts (cpyW_0 _ 9 0 13 (32 * 9)).symm (loop2 33 0 _ 9 (by decide) (by decide) rfl (by decide) (by rw [noteW, if_pos hu10]))
        · have hin : i < 288 := lp_lt (x := 288) (n := 288) rfl c_15 h1 (by decide)
          refine wd_aload_n hC dX5_notes_18 rfl rfl ?_
          refine gf_X5_47 hC dX5_notes_19 ?_
          refine wd_iload_n hC dX5_notes_22 rfl rfl ?_
          refine wd_aload_n hC dX5_notes_23 rfl rfl ?_
          refine gf_X5_47 hC dX5_notes_24 ?_
          refine wd_iload_n hC dX5_notes_27 rfl rfl ?_
          refine wd_bipush (v := 32) hC dX5_notes_28 rfl ?_
          refine wd_iadd hC dX5_notes_30 ?_
          refine rl_undos hC dX5_notes_31 (i + 32) (addN rfl rfl) (by omega) ?_
          refine wd_vi (show _ = σ.1 13 (32 + i) from (by rw [cpyW_o _ _ _ _ _ _ (by omega), Nat.add_comm])) ?_
          refine rs_undos hC dX5_notes_32 (i) rfl (by omega) ?_
          refine wd_ts (show _ = cpyW σ 13 32 13 0 (i + 1) from (by rw [← cpyW_s, Nat.zero_add])) ?_
          refine wd_iincN_2_1 hC dX5_notes_33 ?_
          refine wd_goto (tgt := 11) hC dX5_notes_36 (by decide) ?_
          exact ih (i + 1) (by omega) (by omega)
    refine wd_iconst (v := 0) hC dX5_notes_9 rfl ?_
    refine wd_istore_n_2_1 hC dX5_notes_10 ?_
    exact wd_ts (cpyW_0 σ 13 32 13 0).symm (loop1 289 0 (by decide) (by decide))

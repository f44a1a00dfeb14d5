/-! ===== the class: all ways to face ===== -/
def tfLoop (rc : (Nat → Nat → Int32) → fB → fB) (M : Nat → Nat → Int32) (m : Nat) : Nat → Nat → fB → fB
  | 0, _, B => B
  | k + 1, o, B => tfLoop rc M m k (o + 1) (if M 2 o = -10 then rc (u2 (u2 M 2 m (nI o)) 2 o (nI m)) B else B)
abbrev nFu (T M : Nat → Nat → Int32) : Nat := (fuV T M).toNatClampNeg
def tryB (T : Nat → Nat → Int32) : Nat → Int32 → (Nat → Nat → Int32) → fB → fB
  | 0, _, M, B => if 0 ≤ fuV T M then B else weighB T M B
  | k + 1, y, M, B => if 0 ≤ fuV T M then tfLoop (tryB T k y) M (nFu T M) (nMen T - (nFu T M + 1)) (nFu T M + 1) (if y = 0 then B else tryB T k 0 (u2 M 2 (nFu T M) (-9)) B) else weighB T M B
theorem tfLoop_s (rc : (Nat → Nat → Int32) → fB → fB) (M : Nat → Nat → Int32) (m : Nat) {n o : Nat} (h : o < n) (B : fB) : tfLoop rc M m (n - o) o B = tfLoop rc M m (n - (o + 1)) (o + 1) (if M 2 o = -10 then rc (u2 (u2 M 2 m (nI o)) 2 o (nI m)) B else B) := by
  rw [show n - o = (n - (o + 1)) + 1 by omega]
  rfl
theorem fuL_ok (M : Nat → Nat → Int32) : ∀ (k i : Nat), i + k < 2 ^ 31 → 0 ≤ fuL M k i → ∃ m, m < i + k ∧ fuL M k i = nI m ∧ M 2 m = -10
  | 0, i, _, h => absurd h (show ¬ (0 : Int32) ≤ -9 by decide)
  | k + 1, i, hk, h => by
    unfold fuL at h ⊢
    by_cases e : M 2 i = -10
    · rw [if_pos e] at h ⊢
      exact ⟨i, by omega, rfl, e⟩
    · rw [if_neg e] at h ⊢
      obtain ⟨m, h1, h2⟩ := fuL_ok M k (i + 1) (by omega) h
      exact ⟨m, by omega, h2⟩
theorem fuV_ok {T M : Nat → Nat → Int32} (hT : tOk T) (h : 0 ≤ fuV T M) : fuV T M = nI (nFu T M) ∧ nFu T M < nMen T ∧ M 2 (nFu T M) = -10 := by
  have h6 := hT.m6
  obtain ⟨m, h1, h2, h3⟩ := fuL_ok M (nMen T) 0 (by omega) h
  have e : nFu T M = m := by
    unfold nFu fuV
    rw [h2, nI_clamp (by omega)]
  rw [e]
  exact ⟨h2, by omega, h3⟩
theorem mOk_2 {M : Nat → Nat → Int32} (h : mOk M) (i : Nat) {v : Int32} (hv : v < nI 6) : mOk (u2 M 2 i v) := by
  intro m hm
  refine ⟨(h m hm).1, ?_⟩
  show (if 2 = 2 ∧ m = i then v else M 2 m) < nI 6
  by_cases e : 2 = 2 ∧ m = i
  · rw [if_pos e]
    exact hv
  · rw [if_neg e]
    exact (h m hm).2
theorem u2_nc {M : Nat → Nat → Int32} {k i : Nat} {v : Int32} {a b : Nat} (h : ¬ (a = k ∧ b = i)) : u2 M k i v a b = M a b := if_neg h
theorem u2_r {M : Nat → Nat → Int32} {k i : Nat} {v w : Int32} (h : M k i = w) : u2 (u2 M k i v) k i w = M := by rw [u2_u2, ← h, u2_self]
theorem u2_r2 {M : Nat → Nat → Int32} {m o : Nat} {v w z : Int32} (hmo : o ≠ m) (h : M 2 o = z) : u2 (u2 (u2 M 2 m v) 2 o w) 2 o z = u2 M 2 m v := u2_r (by rw [u2_nc (by omega)]; exact h)
theorem u2_3 {M : Nat → Nat → Int32} {m o : Nat} {v w z : Int32} : u2 (u2 (u2 M 2 m v) 2 m w) 2 o z = u2 (u2 M 2 m w) 2 o z := by rw [u2_u2]

set_option maxRecDepth 100000 in
set_option maxHeartbeats 4000000 in
theorem c_tryFacing {V : wd_V} {ad : Nat → Nat} (hinj : wd_inj cS ad) (σ : wd_S) (ht : σ.2.2 < 2) (hT : tOk (tv σ)) (hn1 : 1 ≤ nMen (tv σ)) : ∀ (k dd : Nat) (x y : Int32) (B : fB) (M : Nat → Nat → Int32), x = nI dd → dd + k = 6 → mz M → mOk M → wd_C cS V ad (5 + k) yX4_tryFacing (Cond.code yX4_tryFacing cX4_tryFacing 5 none :: wsL_law) (stW σ B M) [.ref (ad 0), .int x, .int y] (wd_eq none (stW σ (tryB (tv σ) k y M B) M)) := by
  have h6 := hT.m6
  have h3 := hT.c3
  intro k
  induction k with
  | zero =>
    intro dd x y B M hx hk hz hM
    refine wd_intro (lv := [some (.ref (ad 0)), some (.int x), some (.int y), none, none]) hinj (by decide) rfl (Nat.le_of_ble_eq_true rfl) rfl (Nat.le_of_ble_eq_true rfl) (fun K hC => ?_)
    refine wd_aload_n hC dX4_tryFacing_0 rfl rfl ?_
    refine cv4i hC cw_X4_259 (c_firstUnchosen hinj σ ht hT B M hz hM) dX4_tryFacing_1 (by first | decide | omega) (by decide) rfl rfl (Nat.le_of_ble_eq_true rfl) ?_
    refine wd_istore_n_5_3 hC dX4_tryFacing_4 ?_
    refine wd_iload_n hC dX4_tryFacing_5 rfl rfl ?_
    refine wd_if_ge (tgt := 14) hC dX4_tryFacing_6 (by decide) (fun c_6 => ?_) (fun c_6 => ?_)
    · refine wd_iload_n hC dX4_tryFacing_14 rfl rfl ?_
      refine wd_bipush (v := 6) hC dX4_tryFacing_15 rfl ?_
      refine wd_icmp_lt (tgt := 21) hC dX4_tryFacing_17 (by decide) (fun c_17 => absurd c_17 (by rw [hx, show dd = 6 by omega]; decide)) (fun c_17 => ?_)
      exact wd_vret hC rfl dX4_tryFacing_20 (by rw [tryB, if_pos c_6])
    · refine wd_aload_n hC dX4_tryFacing_9 rfl rfl ?_
      refine cv4v hC cw_X4_262 (c_weighFacing hinj σ ht hT B M hz hM hn1) dX4_tryFacing_10 (by first | decide | omega) (by decide) rfl rfl (Nat.le_of_ble_eq_true rfl) ?_
      exact wd_vret hC rfl dX4_tryFacing_13 (by rw [tryB, if_neg c_6])
  | succ k ihk =>
    intro dd x y B M hx hk hz hM
    refine wd_intro (lv := [some (.ref (ad 0)), some (.int x), some (.int y), none, none]) hinj (by decide) rfl (Nat.le_of_ble_eq_true rfl) rfl (Nat.le_of_ble_eq_true rfl) (fun K hC => ?_)
    refine wd_aload_n hC dX4_tryFacing_0 rfl rfl ?_
    refine cv4i hC cw_X4_259 (c_firstUnchosen hinj σ ht hT B M hz hM) dX4_tryFacing_1 (by first | decide | omega) (by decide) rfl rfl (Nat.le_of_ble_eq_true rfl) ?_
    refine wd_istore_n_5_3 hC dX4_tryFacing_4 ?_
    refine wd_iload_n hC dX4_tryFacing_5 rfl rfl ?_
    refine wd_if_ge (tgt := 14) hC dX4_tryFacing_6 (by decide) (fun c_6 => ?_) (fun c_6 => ?_)
    · have hfu := fuV_ok hT c_6
      have loop : ∀ (q o : Nat) (Bi : fB) (v : Int32), o ≤ (nMen (tv σ)) → (nMen (tv σ)) < o + q → (nFu (tv σ) M) < o → tfLoop (tryB (tv σ) k y) M (nFu (tv σ) M) (nMen (tv σ) - o) o Bi = tryB (tv σ) (k + 1) y M B → wd_G cS V ad K 5 (wd_Qm cS V ad K (wd_eq none (stW σ (tryB (tv σ) (k + 1) y M B) M))) 49 [some (.ref (ad 0)), some (.int x), some (.int y), some (.int (fuV (tv σ) M)), some (.int (nI o))] [] (stW σ Bi (u2 M 2 (nFu (tv σ) M) v)) := by
        intro q
        induction q with
        | zero =>
          intro o Bi v h1 h2 hmo hst
          exact absurd h2 (by omega)
        | succ q ih =>
          intro o Bi v h1 h2 hmo hst
          refine wd_iload hC dX4_tryFacing_49 rfl ?_
          refine wd_aload_n hC dX4_tryFacing_51 rfl rfl ?_
          refine gf_X4_19 hC dX4_tryFacing_52 ?_
          refine gf_X4_76 hC dX4_tryFacing_55 ?_
          refine wd_icmp_ge (tgt := 124) hC dX4_tryFacing_58 (by decide) (fun c_58 => ?_) (fun c_58 => ?_)
          · have hin : o = _ := lp_ge (men_W ht hT) c_58 h1 (by omega)
            subst hin
            replace hst : Bi = tryB (tv σ) (k + 1) y M B := by rw [← hst, Nat.sub_self]; rfl
            refine wd_aload_n hC dX4_tryFacing_124 rfl rfl ?_
            refine gf_X4_33 hC dX4_tryFacing_125 ?_
            refine gf_X4_101 hC dX4_tryFacing_128 ?_
            refine wd_iload_n hC dX4_tryFacing_131 rfl rfl ?_
            refine wd_bipush (v := -10) hC dX4_tryFacing_132 rfl ?_
            refine st_m hC dX4_tryFacing_134 (nFu (tv σ) M) hfu.1 (by omega) ?_
            refine wd_ts (show _ = stW σ Bi M from (by rw [stW_up _ _ _ (by decide), u2_r hfu.2.2])) ?_
            exact wd_vret hC rfl dX4_tryFacing_135 (by rw [hst])
          · have hin : o < _ := lp_lt (men_W ht hT) c_58 h1 (by omega)
            rw [tfLoop_s _ _ _ hin] at hst
            refine wd_aload_n hC dX4_tryFacing_61 rfl rfl ?_
            refine gf_X4_33 hC dX4_tryFacing_62 ?_
            refine gf_X4_101 hC dX4_tryFacing_65 ?_
            refine wd_iload hC dX4_tryFacing_68 rfl ?_
            refine ld_m hC dX4_tryFacing_70 (o) rfl (by omega) ?_
            refine wd_vi (show _ = M 2 o from (by rw [stW_c _ _ _ (by decide), u2_nc (by omega)])) ?_
            refine wd_bipush (v := -10) hC dX4_tryFacing_71 rfl ?_
            refine wd_icmp_ne (tgt := 118) hC dX4_tryFacing_73 (by decide) (fun c_73 => ?_) (fun c_73 => ?_)
            · replace hst := (congrArg (tfLoop _ _ _ _ _) (if_neg c_73)).symm.trans hst
              refine wd_iincN_5_4 hC dX4_tryFacing_118 ?_
              refine wd_goto (tgt := 49) hC dX4_tryFacing_121 (by decide) ?_
              exact ih (o + 1) _ _ (by omega) (by omega) (by omega) hst
            · replace hst := (congrArg (tfLoop _ _ _ _ _) (if_pos c_73)).symm.trans hst
              refine wd_aload_n hC dX4_tryFacing_76 rfl rfl ?_
              refine gf_X4_33 hC dX4_tryFacing_77 ?_
              refine gf_X4_101 hC dX4_tryFacing_80 ?_
              refine wd_iload_n hC dX4_tryFacing_83 rfl rfl ?_
              refine wd_iload hC dX4_tryFacing_84 rfl ?_
              refine st_m hC dX4_tryFacing_86 (nFu (tv σ) M) hfu.1 (by omega) ?_
              refine wd_ts (stW_up _ _ _ (by decide) _ _) ?_
              refine wd_aload_n hC dX4_tryFacing_87 rfl rfl ?_
              refine gf_X4_33 hC dX4_tryFacing_88 ?_
              refine gf_X4_101 hC dX4_tryFacing_91 ?_
              refine wd_iload hC dX4_tryFacing_94 rfl ?_
              refine wd_iload_n hC dX4_tryFacing_96 rfl rfl ?_
              refine st_m hC dX4_tryFacing_97 (o) rfl (by omega) ?_
              refine wd_ts (show _ = stW σ Bi (u2 (u2 M 2 (nFu (tv σ) M) (nI o)) 2 o (nI (nFu (tv σ) M))) from (by rw [stW_up _ _ _ (by decide), u2_3, hfu.1])) ?_
              refine wd_aload_n hC dX4_tryFacing_98 rfl rfl ?_
              refine wd_iload_n hC dX4_tryFacing_99 rfl rfl ?_
              refine wd_iconst (v := 1) hC dX4_tryFacing_100 rfl ?_
              refine wd_iadd hC dX4_tryFacing_101 ?_
              refine wd_iload_n hC dX4_tryFacing_102 rfl rfl ?_
              refine cv4v hC cw_X4_192 (ihk (dd + 1) _ y Bi (u2 (u2 M 2 (nFu (tv σ) M) (nI o)) 2 o (nI (nFu (tv σ) M))) (by rw [hx]; exact nI_1 dd) (by omega) (mz_u2 (mz_u2 hz (by decide) _ _) (by decide) _ _) (mOk_2 (mOk_2 hM _ (nI_lt (by omega) (by decide))) _ (nI_lt (by omega) (by decide)))) dX4_tryFacing_103 (by first | decide | omega) (by decide) rfl rfl (Nat.le_of_ble_eq_true rfl) ?_
              refine wd_aload_n hC dX4_tryFacing_106 rfl rfl ?_
              refine gf_X4_33 hC dX4_tryFacing_107 ?_
              refine gf_X4_101 hC dX4_tryFacing_110 ?_
              refine wd_iload hC dX4_tryFacing_113 rfl ?_
              refine wd_bipush (v := -10) hC dX4_tryFacing_115 rfl ?_
              refine st_m hC dX4_tryFacing_117 (o) rfl (by omega) ?_
              refine wd_ts (show _ = stW σ _ (u2 M 2 (nFu (tv σ) M) (nI o)) from (by rw [stW_up _ _ _ (by decide), u2_r2 (by omega) c_73])) ?_
              refine wd_iincN_5_4 hC dX4_tryFacing_118 ?_
              refine wd_goto (tgt := 49) hC dX4_tryFacing_121 (by decide) ?_
              exact ih (o + 1) _ _ (by omega) (by omega) (by omega) hst
      refine wd_iload_n hC dX4_tryFacing_14 rfl rfl ?_
      refine wd_bipush (v := 6) hC dX4_tryFacing_15 rfl ?_
      refine wd_icmp_lt (tgt := 21) hC dX4_tryFacing_17 (by decide) (fun c_17 => ?_) (fun c_17 => absurd (by rw [hx]; exact nI_lt (b := 6) (by omega) (by decide)) c_17)
      refine wd_iload_n hC dX4_tryFacing_21 rfl rfl ?_
      refine wd_if_eq (tgt := 44) hC dX4_tryFacing_22 (by decide) (fun c_22 => ?_) (fun c_22 => ?_)
      · refine wd_ts (show stW σ B M = stW σ B (u2 M 2 (nFu (tv σ) M) (-10)) from (by rw [← hfu.2.2, u2_self])) ?_
        refine wd_iload_n hC dX4_tryFacing_44 rfl rfl ?_
        refine wd_iconst (v := 1) hC dX4_tryFacing_45 rfl ?_
        refine wd_iadd hC dX4_tryFacing_46 ?_
        refine wd_vi (show _ = nI ((nFu (tv σ) M) + 1) from (by rw [hfu.1]; exact nI_1 _)) ?_
        refine wd_istore_5_4 hC dX4_tryFacing_47 ?_
        exact loop (nMen (tv σ) + 1) ((nFu (tv σ) M) + 1) _ _ (by omega) (by omega) (by omega) (by rw [tryB, if_pos c_6]; first | rw [if_pos c_22] | rw [if_neg c_22])
      · refine wd_aload_n hC dX4_tryFacing_25 rfl rfl ?_
        refine gf_X4_33 hC dX4_tryFacing_26 ?_
        refine gf_X4_101 hC dX4_tryFacing_29 ?_
        refine wd_iload_n hC dX4_tryFacing_32 rfl rfl ?_
        refine wd_bipush (v := -9) hC dX4_tryFacing_33 rfl ?_
        refine st_m hC dX4_tryFacing_35 (nFu (tv σ) M) hfu.1 (by omega) ?_
        refine wd_ts (stW_up _ _ _ (by decide) _ _) ?_
        refine wd_aload_n hC dX4_tryFacing_36 rfl rfl ?_
        refine wd_iload_n hC dX4_tryFacing_37 rfl rfl ?_
        refine wd_iconst (v := 1) hC dX4_tryFacing_38 rfl ?_
        refine wd_iadd hC dX4_tryFacing_39 ?_
        refine wd_iconst (v := 0) hC dX4_tryFacing_40 rfl ?_
        refine cv4v hC cw_X4_192 (ihk (dd + 1) _ 0 B (u2 M 2 (nFu (tv σ) M) (-9)) (by rw [hx]; exact nI_1 dd) (by omega) (mz_u2 hz (by decide) _ _) (mOk_2 hM _ (by decide))) dX4_tryFacing_41 (by first | decide | omega) (by decide) rfl rfl (Nat.le_of_ble_eq_true rfl) ?_
        refine wd_iload_n hC dX4_tryFacing_44 rfl rfl ?_
        refine wd_iconst (v := 1) hC dX4_tryFacing_45 rfl ?_
        refine wd_iadd hC dX4_tryFacing_46 ?_
        refine wd_vi (show _ = nI ((nFu (tv σ) M) + 1) from (by rw [hfu.1]; exact nI_1 _)) ?_
        refine wd_istore_5_4 hC dX4_tryFacing_47 ?_
        exact loop (nMen (tv σ) + 1) ((nFu (tv σ) M) + 1) _ _ (by omega) (by omega) (by omega) (by rw [tryB, if_pos c_6]; first | rw [if_pos c_22] | rw [if_neg c_22])
    · refine wd_aload_n hC dX4_tryFacing_9 rfl rfl ?_
      refine cv4v hC cw_X4_262 (c_weighFacing hinj σ ht hT B M hz hM hn1) dX4_tryFacing_10 (by first | decide | omega) (by decide) rfl rfl (Nat.le_of_ble_eq_true rfl) ?_
      exact wd_vret hC rfl dX4_tryFacing_13 (by rw [tryB, if_neg c_6])
def unM (M : Nat → Nat → Int32) (n : Nat) : Nat → Nat → Int32 := fun k a => if k = 2 ∧ a < n then -10 else M k a
theorem unM_0 (M : Nat → Nat → Int32) : unM M 0 = M := funext fun k => funext fun a => if_neg (by omega)
theorem unM_s (M : Nat → Nat → Int32) (n : Nat) : u2 (unM M n) 2 n (-10) = unM M (n + 1) := by
  funext k a
  unfold u2 unM
  by_cases h : k = 2 ∧ a = n
  · rw [if_pos h, if_pos ⟨h.1, by omega⟩]
  · rw [if_neg h]
    by_cases h2 : k = 2 ∧ a < n
    · rw [if_pos h2, if_pos ⟨h2.1, by omega⟩]
    · rw [if_neg h2, if_neg (by omega)]
theorem mz_unM {M : Nat → Nat → Int32} (h : mz M) (n : Nat) : mz (unM M n) := fun k hk => by
  funext a
  show (if k = 2 ∧ a < n then (-10 : Int32) else M k a) = 0
  rw [if_neg (by omega), h k hk]
theorem mOk_unM {M : Nat → Nat → Int32} (h : mOk M) (n : Nat) : mOk (unM M n) := by
  intro m hm
  refine ⟨(h m hm).1, ?_⟩
  show (if 2 = 2 ∧ m < n then (-10 : Int32) else M 2 m) < nI 6
  by_cases e : 2 = 2 ∧ m < n
  · rw [if_pos e]
    decide
  · rw [if_neg e]
    exact (h m hm).2
def facB (σ : wd_S) : fB := tryB (tv σ) 6 (bI (tv σ 0 3 - tv σ 0 3 / 2 * 2 = 1)) (unM (mv σ 0) (nMen (tv σ))) (0, σ.1 0 12, σ.1 9)
/-- only the scratch has changed -/
def scW (σ σ' : wd_S) : Prop := ∃ B M, mz M ∧ mOk M ∧ σ' = stW σ B M
theorem stW_self (σ : wd_S) : σ = stW σ (σ.1 0 13, σ.1 0 12, σ.1 9) (mv σ 1) := by
  unfold stW
  rw [stB_self, stM_self]
theorem stW_cpy (σ : wd_S) (B : fB) (M : Nat → Nat → Int32) : stM (stW σ B M) 1 (mv (stW σ B M) 0) = stW σ B (mv σ 0) := by
  unfold stW
  rw [stM_st, mv_st_n _ (by decide), mv_stB]
theorem scr_W {σ σ' : wd_S} (h : scr σ σ') : scW σ σ' := by
  obtain ⟨M, h1, h2, rfl⟩ := h
  exact ⟨(σ.1 0 13, σ.1 0 12, σ.1 9), M, h1, h2, by unfold stW; rw [stB_self]⟩
theorem c_isManW {V : wd_V} {ad : Nat → Nat} (hinj : wd_inj cS ad) (σ : wd_S) (ht : σ.2.2 < 2) (B : fB) (M : Nat → Nat → Int32) (x : Int32) : wd_C cS V ad 1 yX4_isMan (Cond.code yX4_isMan cX4_isMan 2 (some .boolean) :: wsL_law) (stW σ B M) [.ref (ad 0), .int x] (wd_eq (some (.int (bI (pMan (tv σ) x)))) (stW σ B M)) := by
  have h := c_isManV (V := V) hinj (stB σ B) ht M x
  rw [tv_stB] at h
  exact h

set_option maxRecDepth 100000 in
set_option maxHeartbeats 4000000 in
theorem c_faces_bad {V : wd_V} {ad : Nat → Nat} (hinj : wd_inj cS ad) (σ : wd_S) (ht : σ.2.2 < 2) (x : Int32) (hB : ¬ (¬ tv σ 0 3 = 0 ∧ (x = -1 ∨ pMan (tv σ) x))) : wd_C cS V ad 2 yX4_faces (Cond.code yX4_faces cX4_faces 3 (some .int) :: wsL_law) σ [.ref (ad 0), .int x] (wd_eq (some (.int (-1000000))) (σ)) := by
  refine wd_intro (lv := [some (.ref (ad 0)), some (.int x), none]) hinj (by decide) rfl (Nat.le_of_ble_eq_true rfl) rfl (Nat.le_of_ble_eq_true rfl) (fun K hC => ?_)
  refine wd_aload_n hC dX4_faces_0 rfl rfl ?_
  refine gf_X4_19 hC dX4_faces_1 ?_
  refine gf_X4_76 hC dX4_faces_4 ?_
  refine wd_if_eq (tgt := 23) hC dX4_faces_7 (by decide) (fun c_7 => ?_) (fun c_7 => ?_)
  · refine wd_ldc (v := (-1000000)) hC dX4_faces_23 (wL_12 _ (List.mem_of_getElem? (i := 6) rfl)) ?_
    exact wd_iret hC rfl dX4_faces_25 rfl rfl
  · refine wd_iload_n hC dX4_faces_10 rfl rfl ?_
    refine wd_iconst (v := -1) hC dX4_faces_11 rfl ?_
    refine wd_icmp_eq (tgt := 26) hC dX4_faces_12 (by decide) (fun c_12 => ?_) (fun c_12 => ?_)
    · exact absurd ⟨c_7, by first | exact Or.inl c_12 | exact Or.inr c_20⟩ hB
    · refine wd_aload_n hC dX4_faces_15 rfl rfl ?_
      refine wd_iload_n hC dX4_faces_16 rfl rfl ?_
      refine cv4i hC cw_X4_85 (c_isMan hinj _ ht _) dX4_faces_17 (by first | decide | omega) (by decide) rfl rfl (Nat.le_of_ble_eq_true rfl) ?_
      refine wd_if_ne (tgt := 26) hC dX4_faces_20 (by decide) (fun c_20 => ?_) (fun c_20 => ?_)
      · replace c_20 := bI_1.mp c_20
        exact absurd ⟨c_7, by first | exact Or.inl c_12 | exact Or.inr c_20⟩ hB
      · replace c_20 := bI_0.mp c_20
        refine wd_ldc (v := (-1000000)) hC dX4_faces_23 (wL_12 _ (List.mem_of_getElem? (i := 6) rfl)) ?_
        exact wd_iret hC rfl dX4_faces_25 rfl rfl
set_option maxRecDepth 100000 in
set_option maxHeartbeats 4000000 in
theorem c_faces {V : wd_V} {ad : Nat → Nat} (hinj : wd_inj cS ad) (σ : wd_S) (ht : σ.2.2 < 2) (hT : tOk (tv σ)) (hM : mOk (mv σ 0)) (hn1 : 1 ≤ nMen (tv σ)) (x : Int32) (hp : x = -1 ∨ pMan (tv σ) x) : wd_C cS V ad 12 yX4_faces (Cond.code yX4_faces cX4_faces 3 (some .int) :: wsL_law) σ [.ref (ad 0), .int x] (wd_pi (fun r σ' => r = (if x = -1 then (facB σ).2.1 else (facB σ).2.2 x.toNatClampNeg) ∧ scW σ σ')) := by
  refine wd_intro (lv := [some (.ref (ad 0)), some (.int x), none]) hinj (by decide) rfl (Nat.le_of_ble_eq_true rfl) rfl (Nat.le_of_ble_eq_true rfl) (fun K hC => ?_)
  have h6 := hT.m6
  have h3 := hT.c3
  have loop : ∀ (k i : Nat), i ≤ (nMen (tv σ)) → (nMen (tv σ)) < i + k → wd_G cS V ad K 3 (wd_Qm cS V ad K (wd_pi (fun r σ' => r = (if x = -1 then (facB σ).2.1 else (facB σ).2.2 x.toNatClampNeg) ∧ scW σ σ'))) 39 [some (.ref (ad 0)), some (.int x), some (.int (nI i))] [] (stW σ (σ.1 0 13, σ.1 0 12, σ.1 9) (unM (mv σ 0) i)) := by
    intro k
    induction k with
    | zero =>
      intro i  h1 h2 
      exact absurd h2 (by omega)
    | succ k ih =>
      intro i  h1 h2 
      refine wd_iload_n hC dX4_faces_39 rfl rfl ?_
      refine wd_aload_n hC dX4_faces_40 rfl rfl ?_
      refine gf_X4_19 hC dX4_faces_41 ?_
      refine gf_X4_76 hC dX4_faces_44 ?_
      refine wd_icmp_ge (tgt := 67) hC dX4_faces_47 (by decide) (fun c_47 => ?_) (fun c_47 => ?_)
      · have hin : i = _ := lp_ge (men_W ht hT) c_47 h1 (by omega)
        subst hin
        refine wd_aload_n hC dX4_faces_67 rfl rfl ?_
        refine wd_iconst (v := 0) hC dX4_faces_68 rfl ?_
        refine pf_X4_188 hC dX4_faces_69 rfl rfl ?_
        refine wd_ts (stW_u13 _ _ _ _) ?_
        refine wd_aload_n hC dX4_faces_72 rfl rfl ?_
        refine wd_iconst (v := 0) hC dX4_faces_73 rfl ?_
        refine wd_aload_n hC dX4_faces_74 rfl rfl ?_
        refine gf_X4_19 hC dX4_faces_75 ?_
        refine gf_X4_76 hC dX4_faces_78 ?_
        refine wd_vi (show _ = tv σ 0 3 from (by rw [hT.m]; exact men_W ht hT)) ?_
        refine wd_iconst (v := 2) hC dX4_faces_81 rfl ?_
        refine wd_irem hC dX4_faces_82 (by decide) ?_
        refine wd_iconst (v := 1) hC dX4_faces_83 rfl ?_
        refine wd_icmp_ne (tgt := 91) hC dX4_faces_84 (by decide) (fun c_84 => ?_) (fun c_84 => ?_)
        · have hfb : tryB (tv σ) 6 0 (unM (mv σ 0) (nMen (tv σ))) (0, σ.1 0 12, σ.1 9) = facB σ := by unfold facB; rw [← bI_f c_84]
          refine wd_iconst (v := 0) hC dX4_faces_91 rfl ?_
          refine cv4v hC cw_X4_192 (c_tryFacing hinj σ ht hT hn1 6 0 _ _ _ _ rfl rfl (mz_unM (mz_mv σ 0) _) (mOk_unM hM _)) dX4_faces_92 (by first | decide | omega) (by decide) rfl rfl (Nat.le_of_ble_eq_true rfl) ?_
          refine wd_ts (show _ = stW σ (facB σ) (unM (mv σ 0) (nMen (tv σ))) from (by rw [← hfb])) ?_
          refine wd_iload_n hC dX4_faces_95 rfl rfl ?_
          refine wd_iconst (v := -1) hC dX4_faces_96 rfl ?_
          refine wd_icmp_ne (tgt := 107) hC dX4_faces_97 (by decide) (fun c_97 => ?_) (fun c_97 => ?_)
          · have hx := pm_ix hT (hp.elim (fun h => absurd h c_97) id)
            refine wd_aload_n hC dX4_faces_107 rfl rfl ?_
            refine gf_X4_58 hC dX4_faces_108 ?_
            refine wd_iload_n hC dX4_faces_111 rfl rfl ?_
            refine ld_f hC dX4_faces_112 x.toNatClampNeg hx.1 (by omega) ?_
            exact wd_iretP hC rfl dX4_faces_113 ((by first | exact ⟨_, rfl, (by rw [if_pos c_97]; exact stW_12 _ _ _), _, _, mz_unM (mz_mv σ 0) _, mOk_unM hM _, rfl⟩ | exact ⟨_, rfl, (by rw [if_neg c_97, stW_9]), _, _, mz_unM (mz_mv σ 0) _, mOk_unM hM _, rfl⟩))
          · refine wd_aload_n hC dX4_faces_100 rfl rfl ?_
            refine gf_X4_196 hC dX4_faces_101 ?_
            refine wd_goto (tgt := 113) hC dX4_faces_104 (by decide) ?_
            exact wd_iretP hC rfl dX4_faces_113 ((by first | exact ⟨_, rfl, (by rw [if_pos c_97]; exact stW_12 _ _ _), _, _, mz_unM (mz_mv σ 0) _, mOk_unM hM _, rfl⟩ | exact ⟨_, rfl, (by rw [if_neg c_97, stW_9]), _, _, mz_unM (mz_mv σ 0) _, mOk_unM hM _, rfl⟩))
        · have hfb : tryB (tv σ) 6 1 (unM (mv σ 0) (nMen (tv σ))) (0, σ.1 0 12, σ.1 9) = facB σ := by unfold facB; rw [← bI_t c_84]
          refine wd_iconst (v := 1) hC dX4_faces_87 rfl ?_
          refine wd_goto (tgt := 92) hC dX4_faces_88 (by decide) ?_
          refine cv4v hC cw_X4_192 (c_tryFacing hinj σ ht hT hn1 6 0 _ _ _ _ rfl rfl (mz_unM (mz_mv σ 0) _) (mOk_unM hM _)) dX4_faces_92 (by first | decide | omega) (by decide) rfl rfl (Nat.le_of_ble_eq_true rfl) ?_
          refine wd_ts (show _ = stW σ (facB σ) (unM (mv σ 0) (nMen (tv σ))) from (by rw [← hfb])) ?_
          refine wd_iload_n hC dX4_faces_95 rfl rfl ?_
          refine wd_iconst (v := -1) hC dX4_faces_96 rfl ?_
          refine wd_icmp_ne (tgt := 107) hC dX4_faces_97 (by decide) (fun c_97 => ?_) (fun c_97 => ?_)
          · have hx := pm_ix hT (hp.elim (fun h => absurd h c_97) id)
            refine wd_aload_n hC dX4_faces_107 rfl rfl ?_
            refine gf_X4_58 hC dX4_faces_108 ?_
            refine wd_iload_n hC dX4_faces_111 rfl rfl ?_
            refine ld_f hC dX4_faces_112 x.toNatClampNeg hx.1 (by omega) ?_
            exact wd_iretP hC rfl dX4_faces_113 ((by first | exact ⟨_, rfl, (by rw [if_pos c_97]; exact stW_12 _ _ _), _, _, mz_unM (mz_mv σ 0) _, mOk_unM hM _, rfl⟩ | exact ⟨_, rfl, (by rw [if_neg c_97, stW_9]), _, _, mz_unM (mz_mv σ 0) _, mOk_unM hM _, rfl⟩))
          · refine wd_aload_n hC dX4_faces_100 rfl rfl ?_
            refine gf_X4_196 hC dX4_faces_101 ?_
            refine wd_goto (tgt := 113) hC dX4_faces_104 (by decide) ?_
            exact wd_iretP hC rfl dX4_faces_113 ((by first | exact ⟨_, rfl, (by rw [if_pos c_97]; exact stW_12 _ _ _), _, _, mz_unM (mz_mv σ 0) _, mOk_unM hM _, rfl⟩ | exact ⟨_, rfl, (by rw [if_neg c_97, stW_9]), _, _, mz_unM (mz_mv σ 0) _, mOk_unM hM _, rfl⟩))
      · have hin : i < _ := lp_lt (men_W ht hT) c_47 h1 (by omega)
        refine wd_aload_n hC dX4_faces_50 rfl rfl ?_
        refine gf_X4_33 hC dX4_faces_51 ?_
        refine gf_X4_101 hC dX4_faces_54 ?_
        refine wd_iload_n hC dX4_faces_57 rfl rfl ?_
        refine wd_bipush (v := -10) hC dX4_faces_58 rfl ?_
        refine st_m hC dX4_faces_60 (i) rfl (by omega) ?_
        refine wd_ts (show _ = stW σ _ (unM (mv σ 0) (i + 1)) from (by rw [stW_up _ _ _ (by decide), unM_s])) ?_
        refine wd_iincN_3_2 hC dX4_faces_61 ?_
        refine wd_goto (tgt := 39) hC dX4_faces_64 (by decide) ?_
        exact ih (i + 1) (by omega) (by omega)
  refine wd_ts (stW_self σ) ?_
  refine wd_aload_n hC dX4_faces_0 rfl rfl ?_
  refine gf_X4_19 hC dX4_faces_1 ?_
  refine gf_X4_76 hC dX4_faces_4 ?_
  refine wd_if_eq (tgt := 23) hC dX4_faces_7 (by decide) (fun c_7 => absurd c_7 (fun h => nI_ne0 (n := nMen (tv σ)) (by omega) (by omega) ((men_W ht hT).symm.trans h))) (fun c_7 => ?_)
  refine wd_iload_n hC dX4_faces_10 rfl rfl ?_
  refine wd_iconst (v := -1) hC dX4_faces_11 rfl ?_
  refine wd_icmp_eq (tgt := 26) hC dX4_faces_12 (by decide) (fun c_12 => ?_) (fun c_12 => ?_)
  · refine wd_aload_n hC dX4_faces_26 rfl rfl ?_
    refine gf_X4_33 hC dX4_faces_27 ?_
    refine wd_aload_n hC dX4_faces_30 rfl rfl ?_
    refine gf_X4_29 hC dX4_faces_31 ?_
    refine cv1v hC cw_X4_173 (c_copyFrom hinj _ 0 1 (by decide) (by decide) (by decide)) dX4_faces_34 (by first | decide | omega) (by decide) rfl rfl (Nat.le_of_ble_eq_true rfl) ?_
    refine wd_ts (stW_cpy σ _ _) ?_
    refine wd_iconst (v := 0) hC dX4_faces_37 rfl ?_
    refine wd_istore_n_3_2 hC dX4_faces_38 ?_
    exact wd_ts (by rw [unM_0]) (loop (nMen (tv σ) + 1) 0 (Nat.zero_le _) (by omega))
  · refine wd_aload_n hC dX4_faces_15 rfl rfl ?_
    refine wd_iload_n hC dX4_faces_16 rfl rfl ?_
    refine cv4i hC cw_X4_85 (c_isManW hinj σ ht _ _ _) dX4_faces_17 (by first | decide | omega) (by decide) rfl rfl (Nat.le_of_ble_eq_true rfl) ?_
    refine wd_if_ne (tgt := 26) hC dX4_faces_20 (by decide) (fun c_20 => ?_) (fun c_20 => ?_)
    · replace c_20 := bI_1.mp c_20
      refine wd_aload_n hC dX4_faces_26 rfl rfl ?_
      refine gf_X4_33 hC dX4_faces_27 ?_
      refine wd_aload_n hC dX4_faces_30 rfl rfl ?_
      refine gf_X4_29 hC dX4_faces_31 ?_
      refine cv1v hC cw_X4_173 (c_copyFrom hinj _ 0 1 (by decide) (by decide) (by decide)) dX4_faces_34 (by first | decide | omega) (by decide) rfl rfl (Nat.le_of_ble_eq_true rfl) ?_
      refine wd_ts (stW_cpy σ _ _) ?_
      refine wd_iconst (v := 0) hC dX4_faces_37 rfl ?_
      refine wd_istore_n_3_2 hC dX4_faces_38 ?_
      exact wd_ts (by rw [unM_0]) (loop (nMen (tv σ) + 1) 0 (Nat.zero_le _) (by omega))
    · replace c_20 := bI_0.mp c_20
      exact absurd (hp.elim (fun h => absurd h c_12) id) c_20

/-! ===== the class's numbers ===== -/
/-- what is told, a moment: as rows -/
def tv (σ : wd_S) : Nat → Nat → Int32 := fun k i => if k < 13 then σ.1 (ct σ.2.2 + k) i else 0
def mv (σ : wd_S) (j : Nat) : Nat → Nat → Int32 := fun k i => if k < 6 then σ.1 (cm j + k) i else 0
abbrev tMen (T : Nat → Nat → Int32) : Int32 := T 0 3
abbrev tCrops (T : Nat → Nat → Int32) : Int32 := T 0 0
abbrev nSown (M : Nat → Nat → Int32) (m : Nat) : Nat := (M 1 m).toNatClampNeg
abbrev nFac (M : Nat → Nat → Int32) (m : Nat) : Nat := (M 2 m).toNatClampNeg
def imin (x y : Int32) : Int32 := if y < x then y else x
def imax (x y : Int32) : Int32 := if x < y then y else x
theorem ne0_of {x : Int32} (h : 1 ≤ x) : ¬ x = 0 := by
  rintro rfl
  exact absurd h (by decide)
theorem ix_of {x : Int32} {n : Nat} (h0 : 0 ≤ x) (h : x < nI n) (hn : n < 2 ^ 31) : x = nI x.toNatClampNeg ∧ x.toNatClampNeg < n := by
  rcases pk_ix x hn with h1 | h1 | ⟨j, hj, rfl⟩
  · exact absurd h0 (Int32.not_le.mpr h1)
  · exact absurd h (Int32.not_lt.mpr h1)
  · rw [nI_clamp (by omega)]
    exact ⟨rfl, hj⟩
theorem i_nlt {x y : Int32} (h : x < y) : ¬ y ≤ x := Int32.not_le.mpr h
theorem i_nle {x y : Int32} (h : ¬ x ≤ y) : y < x := Int32.not_le.mp h
theorem i_le {x y : Int32} (h : ¬ x < y) : y ≤ x := Int32.not_lt.mp h
abbrev pMan (T : Nat → Nat → Int32) (m : Int32) : Prop := 0 ≤ m ∧ m < tMen T
abbrev pCrop (T : Nat → Nat → Int32) (c : Int32) : Prop := 0 ≤ c ∧ c < tCrops T
abbrev pBelow (x y : Int32) : Prop := 0 ≤ x ∧ x < y
abbrev pStor (v : Int32) : Prop := (-9999) ≤ v ∧ v ≤ 9999
/-- a moment whose indices stay in their rows -/
def mOk (M : Nat → Nat → Int32) : Prop := ∀ m, m < 6 → (0 ≤ M 1 m ∧ M 1 m < nI 3) ∧ M 2 m < nI 6
theorem mOk.s {M : Nat → Nat → Int32} {m : Nat} (h : mOk M) (hm : m < 6) : M 1 m = nI (nSown M m) := (ix_of (h m hm).1.1 (h m hm).1.2 (by decide)).1
theorem mOk.s3 {M : Nat → Nat → Int32} {m : Nat} (h : mOk M) (hm : m < 6) : nSown M m < 3 := (ix_of (h m hm).1.1 (h m hm).1.2 (by decide)).2
theorem mOk.f {M : Nat → Nat → Int32} {m : Nat} (h : mOk M) (hm : m < 6) (h0 : 0 ≤ M 2 m) : M 2 m = nI (nFac M m) := (ix_of h0 (h m hm).2 (by decide)).1
theorem mOk.f6 {M : Nat → Nat → Int32} {m : Nat} (h : mOk M) (hm : m < 6) (h0 : 0 ≤ M 2 m) : nFac M m < 6 := (ix_of h0 (h m hm).2 (by decide)).2
/-- what one carries, takes, keeps, has: by what is told (T: 0 counts, 1 weight, 2 worth, 3 strong, 4 legs, 5 needs, 7 + m yields) and a moment (M: 1 sown, 2 facing, 3 ropes, 4 mules, 5 stored, 0 rain and years) -/
def wCarry (T M : Nat → Nat → Int32) (m c : Nat) : Int32 := if 1 ≤ T 1 c + M 0 5 then (if M 4 m = 1 then 2 * T 4 m else T 4 m) * ((T 3 m + 3 * M 3 m) / (T 1 c + M 0 5)) else 0
def wTakenIf (T M : Nat → Nat → Int32) (m c : Nat) : Int32 := if 0 ≤ M 2 m then imin (wCarry T M m c) (T (7 + nFac M m) c) else 0
def wTaken (T M : Nat → Nat → Int32) (m : Nat) : Int32 := if 0 ≤ M 2 m then wTakenIf T M m (nSown M (nFac M m)) else 0
def wKept (T M : Nat → Nat → Int32) (m : Nat) : Int32 := if 0 ≤ M 2 m then T (7 + m) (nSown M m) - wTakenIf T M (nFac M m) (nSown M m) else T (7 + m) (nSown M m)
def wHas (T M : Nat → Nat → Int32) (m : Nat) : Int32 := if 0 ≤ M 2 m then (T (7 + m) (nSown M m) - wTakenIf T M (nFac M m) (nSown M m)) * T 2 (nSown M m) + wTakenIf T M m (nSown M (nFac M m)) * T 2 (nSown M (nFac M m)) else T (7 + m) (nSown M m) * T 2 (nSown M m)
def wGain (T M : Nat → Nat → Int32) (m : Nat) : Int32 := wHas T M m - T 5 m
theorem tv_y (σ : wd_S) {m : Nat} (hm : m < 6) (c : Nat) : tv σ (7 + m) c = σ.1 (ct σ.2.2 + (7 + m)) c := if_pos (by omega)

set_option maxRecDepth 100000 in
set_option maxHeartbeats 4000000 in
theorem c_isBelow {V : wd_V} {ad : Nat → Nat} (hinj : wd_inj cS ad) (σ : wd_S) (x y : Int32) : wd_C cS V ad 0 yX4_isBelow (Cond.code yX4_isBelow cX4_isBelow 2 (some .boolean) :: wsL_law) σ [.int x, .int y] (wd_eq (some (.int (bI (pBelow x y)))) (σ)) := by
  refine wd_intro (lv := [some (.int x), some (.int y)]) hinj (by decide) rfl (Nat.le_of_ble_eq_true rfl) rfl (Nat.le_of_ble_eq_true rfl) (fun K hC => ?_)
  refine wd_iload_n hC dX4_isBelow_0 rfl rfl ?_
  refine wd_if_lt (tgt := 13) hC dX4_isBelow_1 (by decide) (fun c_1 => ?_) (fun c_1 => ?_)
  · refine wd_iconst (v := 0) hC dX4_isBelow_13 rfl ?_
    exact wd_zret hC rfl rfl dX4_isBelow_14 (by first | exact bI_t ⟨i_le c_1, i_nle c_6⟩ | exact bI_f (fun h => i_nlt c_1 h.1) | exact bI_f (fun h => i_nlt h.2 c_6)) rfl
  · refine wd_iload_n hC dX4_isBelow_4 rfl rfl ?_
    refine wd_iload_n hC dX4_isBelow_5 rfl rfl ?_
    refine wd_icmp_ge (tgt := 13) hC dX4_isBelow_6 (by decide) (fun c_6 => ?_) (fun c_6 => ?_)
    · refine wd_iconst (v := 0) hC dX4_isBelow_13 rfl ?_
      exact wd_zret hC rfl rfl dX4_isBelow_14 (by first | exact bI_t ⟨i_le c_1, i_nle c_6⟩ | exact bI_f (fun h => i_nlt c_1 h.1) | exact bI_f (fun h => i_nlt h.2 c_6)) rfl
    · refine wd_iconst (v := 1) hC dX4_isBelow_9 rfl ?_
      refine wd_goto (tgt := 14) hC dX4_isBelow_10 (by decide) ?_
      exact wd_zret hC rfl rfl dX4_isBelow_14 (by first | exact bI_t ⟨i_le c_1, i_nle c_6⟩ | exact bI_f (fun h => i_nlt c_1 h.1) | exact bI_f (fun h => i_nlt h.2 c_6)) rfl
set_option maxRecDepth 100000 in
set_option maxHeartbeats 4000000 in
theorem c_isMan {V : wd_V} {ad : Nat → Nat} (hinj : wd_inj cS ad) (σ : wd_S) (ht : σ.2.2 < 2) (x : Int32) : wd_C cS V ad 1 yX4_isMan (Cond.code yX4_isMan cX4_isMan 2 (some .boolean) :: wsL_law) σ [.ref (ad 0), .int x] (wd_eq (some (.int (bI (pMan (tv σ) x)))) (σ)) := by
  refine wd_intro (lv := [some (.ref (ad 0)), some (.int x)]) hinj (by decide) rfl (Nat.le_of_ble_eq_true rfl) rfl (Nat.le_of_ble_eq_true rfl) (fun K hC => ?_)
  refine wd_iload_n hC dX4_isMan_0 rfl rfl ?_
  refine wd_aload_n hC dX4_isMan_1 rfl rfl ?_
  refine gf_X4_19 hC dX4_isMan_2 ?_
  refine gf_X4_76 hC dX4_isMan_5 ?_
  refine cvsi hC cw_X4_155 (c_isBelow hinj _ _ _) dX4_isMan_8 (by first | decide | omega) (by decide) rfl rfl (Nat.le_of_ble_eq_true rfl) ?_
  exact wd_zret hC rfl bI_n dX4_isMan_11 rfl rfl
set_option maxRecDepth 100000 in
set_option maxHeartbeats 4000000 in
theorem c_isCrop {V : wd_V} {ad : Nat → Nat} (hinj : wd_inj cS ad) (σ : wd_S) (ht : σ.2.2 < 2) (x : Int32) : wd_C cS V ad 1 yX4_isCrop (Cond.code yX4_isCrop cX4_isCrop 2 (some .boolean) :: wsL_law) σ [.ref (ad 0), .int x] (wd_eq (some (.int (bI (pCrop (tv σ) x)))) (σ)) := by
  refine wd_intro (lv := [some (.ref (ad 0)), some (.int x)]) hinj (by decide) rfl (Nat.le_of_ble_eq_true rfl) rfl (Nat.le_of_ble_eq_true rfl) (fun K hC => ?_)
  refine wd_iload_n hC dX4_isCrop_0 rfl rfl ?_
  refine wd_aload_n hC dX4_isCrop_1 rfl rfl ?_
  refine gf_X4_19 hC dX4_isCrop_2 ?_
  refine gf_X4_176 hC dX4_isCrop_5 ?_
  refine cvsi hC cw_X4_155 (c_isBelow hinj _ _ _) dX4_isCrop_8 (by first | decide | omega) (by decide) rfl rfl (Nat.le_of_ble_eq_true rfl) ?_
  exact wd_zret hC rfl bI_n dX4_isCrop_11 rfl rfl
set_option maxRecDepth 100000 in
set_option maxHeartbeats 4000000 in
theorem c_isStorable {V : wd_V} {ad : Nat → Nat} (hinj : wd_inj cS ad) (σ : wd_S) (x : Int32) : wd_C cS V ad 0 yX4_isStorable (Cond.code yX4_isStorable cX4_isStorable 1 (some .boolean) :: wsL_law) σ [.int x] (wd_eq (some (.int (bI (pStor x)))) (σ)) := by
  refine wd_intro (lv := [some (.int x)]) hinj (by decide) rfl (Nat.le_of_ble_eq_true rfl) rfl (Nat.le_of_ble_eq_true rfl) (fun K hC => ?_)
  refine wd_iload_n hC dX4_isStorable_0 rfl rfl ?_
  refine wd_sipush (v := -9999) hC dX4_isStorable_1 rfl ?_
  refine wd_icmp_lt (tgt := 18) hC dX4_isStorable_4 (by decide) (fun c_4 => ?_) (fun c_4 => ?_)
  · refine wd_iconst (v := 0) hC dX4_isStorable_18 rfl ?_
    exact wd_zret hC rfl rfl dX4_isStorable_19 (by first | exact bI_t ⟨i_le c_4, i_le c_11⟩ | exact bI_f (fun h => i_nlt c_4 h.1) | exact bI_f (fun h => i_nlt c_11 h.2)) rfl
  · refine wd_iload_n hC dX4_isStorable_7 rfl rfl ?_
    refine wd_sipush (v := 9999) hC dX4_isStorable_8 rfl ?_
    refine wd_icmp_gt (tgt := 18) hC dX4_isStorable_11 (by decide) (fun c_11 => ?_) (fun c_11 => ?_)
    · refine wd_iconst (v := 0) hC dX4_isStorable_18 rfl ?_
      exact wd_zret hC rfl rfl dX4_isStorable_19 (by first | exact bI_t ⟨i_le c_4, i_le c_11⟩ | exact bI_f (fun h => i_nlt c_4 h.1) | exact bI_f (fun h => i_nlt c_11 h.2)) rfl
    · refine wd_iconst (v := 1) hC dX4_isStorable_14 rfl ?_
      refine wd_goto (tgt := 19) hC dX4_isStorable_15 (by decide) ?_
      exact wd_zret hC rfl rfl dX4_isStorable_19 (by first | exact bI_t ⟨i_le c_4, i_le c_11⟩ | exact bI_f (fun h => i_nlt c_4 h.1) | exact bI_f (fun h => i_nlt c_11 h.2)) rfl
set_option maxRecDepth 100000 in
set_option maxHeartbeats 4000000 in
theorem c_carriedBy {V : wd_V} {ad : Nat → Nat} (hinj : wd_inj cS ad) (σ : wd_S) (ht : σ.2.2 < 2) (j : Nat) (hj : j < 14) (x y : Int32) (m c : Nat) (hx : x = nI m) (hy : y = nI c) (hm : m < 6) (hc : c < 3) : wd_C cS V ad 0 yX4_carriedBy (Cond.code yX4_carriedBy cX4_carriedBy 7 (some .int) :: wsL_law) σ [.ref (ad 0), .ref (ad (cm j)), .int x, .int y] (wd_eq (some (.int (wCarry (tv σ) (mv σ j) m c))) (σ)) := by
  refine wd_intro (lv := [some (.ref (ad 0)), some (.ref (ad (cm j))), some (.int x), some (.int y), none, none, none]) hinj (by decide) rfl (Nat.le_of_ble_eq_true rfl) rfl (Nat.le_of_ble_eq_true rfl) (fun K hC => ?_)
  refine wd_aload_n hC dX4_carriedBy_0 rfl rfl ?_
  refine gf_X4_19 hC dX4_carriedBy_1 ?_
  refine gf_X4_245 hC dX4_carriedBy_4 ?_
  refine wd_iload_n hC dX4_carriedBy_7 rfl rfl ?_
  refine ld_w hC dX4_carriedBy_8 (c) hy (by omega) ?_
  refine wd_aload_n hC dX4_carriedBy_9 rfl rfl ?_
  refine gf_X4_138 hC dX4_carriedBy_10 ?_
  refine wd_iadd hC dX4_carriedBy_13 ?_
  refine wd_istore_7_4 hC dX4_carriedBy_14 ?_
  refine wd_iload hC dX4_carriedBy_16 rfl ?_
  refine wd_iconst (v := 1) hC dX4_carriedBy_18 rfl ?_
  refine wd_icmp_ge (tgt := 24) hC dX4_carriedBy_19 (by decide) (fun c_19 => ?_) (fun c_19 => ?_)
  · refine wd_aload_n hC dX4_carriedBy_24 rfl rfl ?_
    refine gf_X4_107 hC dX4_carriedBy_25 ?_
    refine wd_iload_n hC dX4_carriedBy_28 rfl rfl ?_
    refine ld_m hC dX4_carriedBy_29 (m) hx (by omega) ?_
    refine wd_iconst (v := 1) hC dX4_carriedBy_30 rfl ?_
    refine wd_icmp_ne (tgt := 48) hC dX4_carriedBy_31 (by decide) (fun c_31 => ?_) (fun c_31 => ?_)
    · refine wd_aload_n hC dX4_carriedBy_48 rfl rfl ?_
      refine gf_X4_19 hC dX4_carriedBy_49 ?_
      refine gf_X4_92 hC dX4_carriedBy_52 ?_
      refine wd_iload_n hC dX4_carriedBy_55 rfl rfl ?_
      refine ld_s hC dX4_carriedBy_56 (m) hx (by omega) ?_
      refine wd_istore_7_5 hC dX4_carriedBy_57 ?_
      refine wd_aload_n hC dX4_carriedBy_59 rfl rfl ?_
      refine gf_X4_19 hC dX4_carriedBy_60 ?_
      refine gf_X4_89 hC dX4_carriedBy_63 ?_
      refine wd_iload_n hC dX4_carriedBy_66 rfl rfl ?_
      refine ld_s hC dX4_carriedBy_67 (m) hx (by omega) ?_
      refine wd_iconst (v := 3) hC dX4_carriedBy_68 rfl ?_
      refine wd_aload_n hC dX4_carriedBy_69 rfl rfl ?_
      refine gf_X4_104 hC dX4_carriedBy_70 ?_
      refine wd_iload_n hC dX4_carriedBy_73 rfl rfl ?_
      refine ld_m hC dX4_carriedBy_74 (m) hx (by omega) ?_
      refine wd_imul hC dX4_carriedBy_75 ?_
      refine wd_iadd hC dX4_carriedBy_76 ?_
      refine wd_istore_7_6 hC dX4_carriedBy_77 ?_
      refine wd_iload hC dX4_carriedBy_79 rfl ?_
      refine wd_iload hC dX4_carriedBy_81 rfl ?_
      refine wd_iload hC dX4_carriedBy_83 rfl ?_
      refine wd_idiv hC dX4_carriedBy_85 (ne0_of c_19) ?_
      refine wd_imul hC dX4_carriedBy_86 ?_
      exact wd_iret hC rfl dX4_carriedBy_87 (by rw [wCarry]; refine Eq.trans ?_ (if_pos c_19).symm; first | exact congrArg (· * _) (if_pos c_31).symm | exact congrArg (· * _) (if_neg c_31).symm) rfl
    · refine wd_iconst (v := 2) hC dX4_carriedBy_34 rfl ?_
      refine wd_aload_n hC dX4_carriedBy_35 rfl rfl ?_
      refine gf_X4_19 hC dX4_carriedBy_36 ?_
      refine gf_X4_92 hC dX4_carriedBy_39 ?_
      refine wd_iload_n hC dX4_carriedBy_42 rfl rfl ?_
      refine ld_s hC dX4_carriedBy_43 (m) hx (by omega) ?_
      refine wd_imul hC dX4_carriedBy_44 ?_
      refine wd_goto (tgt := 57) hC dX4_carriedBy_45 (by decide) ?_
      refine wd_istore_7_5 hC dX4_carriedBy_57 ?_
      refine wd_aload_n hC dX4_carriedBy_59 rfl rfl ?_
      refine gf_X4_19 hC dX4_carriedBy_60 ?_
      refine gf_X4_89 hC dX4_carriedBy_63 ?_
      refine wd_iload_n hC dX4_carriedBy_66 rfl rfl ?_
      refine ld_s hC dX4_carriedBy_67 (m) hx (by omega) ?_
      refine wd_iconst (v := 3) hC dX4_carriedBy_68 rfl ?_
      refine wd_aload_n hC dX4_carriedBy_69 rfl rfl ?_
      refine gf_X4_104 hC dX4_carriedBy_70 ?_
      refine wd_iload_n hC dX4_carriedBy_73 rfl rfl ?_
      refine ld_m hC dX4_carriedBy_74 (m) hx (by omega) ?_
      refine wd_imul hC dX4_carriedBy_75 ?_
      refine wd_iadd hC dX4_carriedBy_76 ?_
      refine wd_istore_7_6 hC dX4_carriedBy_77 ?_
      refine wd_iload hC dX4_carriedBy_79 rfl ?_
      refine wd_iload hC dX4_carriedBy_81 rfl ?_
      refine wd_iload hC dX4_carriedBy_83 rfl ?_
      refine wd_idiv hC dX4_carriedBy_85 (ne0_of c_19) ?_
      refine wd_imul hC dX4_carriedBy_86 ?_
      exact wd_iret hC rfl dX4_carriedBy_87 (by rw [wCarry]; refine Eq.trans ?_ (if_pos c_19).symm; first | exact congrArg (· * _) (if_pos c_31).symm | exact congrArg (· * _) (if_neg c_31).symm) rfl
  · refine wd_iconst (v := 0) hC dX4_carriedBy_22 rfl ?_
    exact wd_iret hC rfl dX4_carriedBy_23 (if_neg c_19).symm rfl

/-! ===== the class: tokens ===== -/
/-- the text's three numbers: start, behind, number -/
def stP (σ : wd_S) (s b q : Int32) : wd_S := (fun k i => if k = 1 ∧ i = 2 then s else if k = 1 ∧ i = 3 then b else if k = 1 ∧ i = 4 then q else σ.1 k i, σ.2)
theorem stP_o (σ : wd_S) (s b q : Int32) {k : Nat} (h : k ≠ 1) : (stP σ s b q).1 k = σ.1 k := by
  funext i
  show (if k = 1 ∧ i = 2 then s else if k = 1 ∧ i = 3 then b else if k = 1 ∧ i = 4 then q else σ.1 k i) = _
  rw [if_neg (by omega), if_neg (by omega), if_neg (by omega)]
theorem stP_self (σ : wd_S) : σ = stP σ (σ.1 1 2) (σ.1 1 3) (σ.1 1 4) := by
  refine wd_ext (fun k => funext fun i => ?_) rfl
  show _ = (if k = 1 ∧ i = 2 then σ.1 1 2 else if k = 1 ∧ i = 3 then σ.1 1 3 else if k = 1 ∧ i = 4 then σ.1 1 4 else σ.1 k i)
  by_cases h1 : k = 1 ∧ i = 2
  · rw [if_pos h1, h1.1, h1.2]
  · rw [if_neg h1]
    by_cases h2 : k = 1 ∧ i = 3
    · rw [if_pos h2, h2.1, h2.2]
    · rw [if_neg h2]
      by_cases h3 : k = 1 ∧ i = 4
      · rw [if_pos h3, h3.1, h3.2]
      · rw [if_neg h3]
theorem stP_2 (σ : wd_S) (s b q v : Int32) : wd_up (stP σ s b q) 1 2 v = stP σ v b q := by
  refine wd_ext (fun k => funext fun i => ?_) rfl
  show (if k = 1 ∧ i = 2 then v else if k = 1 ∧ i = 2 then s else if k = 1 ∧ i = 3 then b else if k = 1 ∧ i = 4 then q else σ.1 k i) = (if k = 1 ∧ i = 2 then v else if k = 1 ∧ i = 3 then b else if k = 1 ∧ i = 4 then q else σ.1 k i)
  by_cases h1 : k = 1 ∧ i = 2
  · simp only [if_pos h1]
  · simp only [if_neg h1]
theorem stP_3 (σ : wd_S) (s b q v : Int32) : wd_up (stP σ s b q) 1 3 v = stP σ s v q := by
  refine wd_ext (fun k => funext fun i => ?_) rfl
  show (if k = 1 ∧ i = 3 then v else if k = 1 ∧ i = 2 then s else if k = 1 ∧ i = 3 then b else if k = 1 ∧ i = 4 then q else σ.1 k i) = (if k = 1 ∧ i = 2 then s else if k = 1 ∧ i = 3 then v else if k = 1 ∧ i = 4 then q else σ.1 k i)
  by_cases h1 : k = 1 ∧ i = 3
  · rw [if_pos h1, if_neg (by omega), if_pos h1]
  · simp only [if_neg h1]
theorem stP_4 (σ : wd_S) (s b q v : Int32) : wd_up (stP σ s b q) 1 4 v = stP σ s b v := by
  refine wd_ext (fun k => funext fun i => ?_) rfl
  show (if k = 1 ∧ i = 4 then v else if k = 1 ∧ i = 2 then s else if k = 1 ∧ i = 3 then b else if k = 1 ∧ i = 4 then q else σ.1 k i) = (if k = 1 ∧ i = 2 then s else if k = 1 ∧ i = 3 then b else if k = 1 ∧ i = 4 then v else σ.1 k i)
  by_cases h1 : k = 1 ∧ i = 4
  · rw [if_pos h1, if_neg (by omega), if_neg (by omega), if_pos h1]
  · simp only [if_neg h1]
abbrev pDig (x : Int32) : Prop := 48 ≤ x ∧ x ≤ 57
def skipB (L : Nat → Int32) : Nat → Nat → Nat
  | 0, b => b
  | k + 1, b => if L b = 32 then skipB L k (b + 1) else b
def numL (L : Nat → Int32) : Nat → Nat → Int32 → Nat × Int32
  | 0, b, q => (b, q)
  | k + 1, b, q => if pDig (L b) then numL L k (b + 1) (imin (10 * q + L b - 48) 100) else (b, q)
theorem skipB_s (L : Nat → Int32) {n b : Nat} (h : b < n) : skipB L (n - b) b = if L b = 32 then skipB L (n - (b + 1)) (b + 1) else b := by
  rw [show n - b = (n - (b + 1)) + 1 by omega]
  rfl
theorem numL_s (L : Nat → Int32) {n b : Nat} (h : b < n) (q : Int32) : numL L (n - b) b q = if pDig (L b) then numL L (n - (b + 1)) (b + 1) (imin (10 * q + L b - 48) 100) else (b, q) := by
  rw [show n - b = (n - (b + 1)) + 1 by omega]
  rfl
theorem skipB_le (L : Nat → Int32) : ∀ (k b : Nat), b ≤ skipB L k b ∧ skipB L k b ≤ b + k
  | 0, b => ⟨Nat.le_refl b, Nat.le_refl b⟩
  | k + 1, b => by
    unfold skipB
    by_cases h : L b = 32
    · rw [if_pos h]
      have := skipB_le L k (b + 1)
      omega
    · rw [if_neg h]
      omega
theorem numL_le (L : Nat → Int32) : ∀ (k b : Nat) (q : Int32), b ≤ (numL L k b q).1 ∧ (numL L k b q).1 ≤ b + k
  | 0, b, q => ⟨Nat.le_refl b, Nat.le_refl b⟩
  | k + 1, b, q => by
    unfold numL
    by_cases h : pDig (L b)
    · rw [if_pos h]
      have := numL_le L k (b + 1) (imin (10 * q + L b - 48) 100)
      omega
    · rw [if_neg h]
      exact ⟨Nat.le_refl b, by omega⟩
def tokN (L : Nat → Int32) (s b : Nat) (q : Int32) : Int32 := if (L s = 48 ∧ ¬ nI b - nI s ≤ 1) ∨ ¬ q ≤ 99 then 5 else 3
def tokL (x : Int32) : Int32 := if x = 59 then 4 else if x = 99 then 1 else if x = 109 then 2 else 5
/-- a token: what it is, where it starts, where it ends, its number -/
def nextT (L : Nat → Int32) (n b : Nat) (q : Int32) : Int32 × Nat × Nat × Int32 :=
  if skipB L (n - b) b < n then (if pDig (L (skipB L (n - b) b)) then (tokN L (skipB L (n - b) b) (numL L (n - skipB L (n - b) b) (skipB L (n - b) b) 0).1 (numL L (n - skipB L (n - b) b) (skipB L (n - b) b) 0).2, skipB L (n - b) b, (numL L (n - skipB L (n - b) b) (skipB L (n - b) b) 0).1, (numL L (n - skipB L (n - b) b) (skipB L (n - b) b) 0).2) else (tokL (L (skipB L (n - b) b)), skipB L (n - b) b, skipB L (n - b) b + 1, q)) else (0, skipB L (n - b) b, skipB L (n - b) b, q)
theorem nextT_le (L : Nat → Int32) {n b : Nat} (hb : b ≤ n) (q : Int32) : (nextT L n b q).2.1 ≤ n ∧ (nextT L n b q).2.2.1 ≤ n := by
  have h := skipB_le L (n - b) b
  unfold nextT
  by_cases h1 : skipB L (n - b) b < n
  · rw [if_pos h1]
    by_cases h2 : pDig (L (skipB L (n - b) b))
    · rw [if_pos h2]
      have := numL_le L (n - skipB L (n - b) b) (skipB L (n - b) b) 0
      exact ⟨by show skipB L (n - b) b ≤ n; omega, by show (numL L (n - skipB L (n - b) b) (skipB L (n - b) b) 0).1 ≤ n; omega⟩
    · rw [if_neg h2]
      exact ⟨by show skipB L (n - b) b ≤ n; omega, by show skipB L (n - b) b + 1 ≤ n; omega⟩
  · rw [if_neg h1]
    exact ⟨by show skipB L (n - b) b ≤ n; omega, by show skipB L (n - b) b ≤ n; omega⟩

set_option maxRecDepth 100000 in
set_option maxHeartbeats 4000000 in
theorem c_isDigit {V : wd_V} {ad : Nat → Nat} (hinj : wd_inj cS ad) (σ : wd_S) (x : Int32) : wd_C cS V ad 0 yX2_isDigit (Cond.code yX2_isDigit cX2_isDigit 1 (some .boolean) :: wsL_law) σ [.int x] (wd_eq (some (.int (bI (pDig x)))) (σ)) := by
  refine wd_intro (lv := [some (.int x)]) hinj (by decide) rfl (Nat.le_of_ble_eq_true rfl) rfl (Nat.le_of_ble_eq_true rfl) (fun K hC => ?_)
  refine wd_iload_n hC dX2_isDigit_0 rfl rfl ?_
  refine wd_bipush (v := 48) hC dX2_isDigit_1 rfl ?_
  refine wd_icmp_lt (tgt := 16) hC dX2_isDigit_3 (by decide) (fun c_3 => ?_) (fun c_3 => ?_)
  · refine wd_iconst (v := 0) hC dX2_isDigit_16 rfl ?_
    exact wd_zret hC rfl rfl dX2_isDigit_17 (by first | exact bI_t ⟨i_le c_3, i_le c_9⟩ | exact bI_f (fun h => i_nlt c_3 h.1) | exact bI_f (fun h => i_nlt c_9 h.2)) rfl
  · refine wd_iload_n hC dX2_isDigit_6 rfl rfl ?_
    refine wd_bipush (v := 57) hC dX2_isDigit_7 rfl ?_
    refine wd_icmp_gt (tgt := 16) hC dX2_isDigit_9 (by decide) (fun c_9 => ?_) (fun c_9 => ?_)
    · refine wd_iconst (v := 0) hC dX2_isDigit_16 rfl ?_
      exact wd_zret hC rfl rfl dX2_isDigit_17 (by first | exact bI_t ⟨i_le c_3, i_le c_9⟩ | exact bI_f (fun h => i_nlt c_3 h.1) | exact bI_f (fun h => i_nlt c_9 h.2)) rfl
    · refine wd_iconst (v := 1) hC dX2_isDigit_12 rfl ?_
      refine wd_goto (tgt := 17) hC dX2_isDigit_13 (by decide) ?_
      exact wd_zret hC rfl rfl dX2_isDigit_17 (by first | exact bI_t ⟨i_le c_3, i_le c_9⟩ | exact bI_f (fun h => i_nlt c_3 h.1) | exact bI_f (fun h => i_nlt c_9 h.2)) rfl
set_option maxRecDepth 100000 in
set_option maxHeartbeats 4000000 in
theorem c_numberToken {V : wd_V} {ad : Nat → Nat} (hinj : wd_inj cS ad) (σ : wd_S) (L : Nat → Int32) (hL : σ.1 2 = L) (n : Nat) (hn : σ.1 1 1 = nI n) (hn2 : n ≤ 200) (s : Nat) (hs : s < n) (q0 : Int32) : wd_C cS V ad 1 yX2_numberToken (Cond.code yX2_numberToken cX2_numberToken 2 (some .int) :: wsL_law) (stP σ (nI s) (nI s) q0) [.ref (ad 1)] (wd_eq (some (.int (tokN L s (numL L (n - s) s 0).1 (numL L (n - s) s 0).2))) (stP σ (nI s) (nI (numL L (n - s) s 0).1) (numL L (n - s) s 0).2)) := by
  refine wd_intro (lv := [some (.ref (ad 1)), none]) hinj (by decide) rfl (Nat.le_of_ble_eq_true rfl) rfl (Nat.le_of_ble_eq_true rfl) (fun K hC => ?_)
  have loop : ∀ (k b : Nat) (q : Int32), b ≤ n → n < b + k → s ≤ b → numL L (n - b) b q = numL L (n - s) s 0 → wd_G cS V ad K 2 (wd_Qm cS V ad K (wd_eq (some (.int (tokN L s (numL L (n - s) s 0).1 (numL L (n - s) s 0).2))) (stP σ (nI s) (nI (numL L (n - s) s 0).1) (numL L (n - s) s 0).2))) 5 [some (.ref (ad 1)), none] [] (stP σ (nI s) (nI b) q) := by
    intro k
    induction k with
    | zero =>
      intro b q h1 h2 hsb hst
      exact absurd h2 (by omega)
    | succ k ih =>
      intro b q h1 h2 hsb hst
      refine wd_aload_n hC dX2_numberToken_5 rfl rfl ?_
      refine gf_X2_24 hC dX2_numberToken_6 ?_
      refine wd_aload_n hC dX2_numberToken_9 rfl rfl ?_
      refine gf_X2_67 hC dX2_numberToken_10 ?_
      refine wd_icmp_ge (tgt := 73) hC dX2_numberToken_13 (by decide) (fun c_13 => ?_) (fun c_13 => ?_)
      · have hin : _ = b := (lp_ge hn c_13 h1 (by omega)).symm
        subst hin
        replace hst : (n, q) = numL L (n - s) s 0 := by rw [← hst, Nat.sub_self]; rfl
        rw [← hst] at ⊢
        refine wd_aload_n hC dX2_numberToken_73 rfl rfl ?_
        refine gf_X2_9 hC dX2_numberToken_74 ?_
        refine wd_aload_n hC dX2_numberToken_77 rfl rfl ?_
        refine gf_X2_38 hC dX2_numberToken_78 ?_
        refine ld_l hC dX2_numberToken_81 s rfl (by omega) ?_
        refine wd_vi (show _ = L s from (by rw [stP_o _ _ _ _ (by decide), hL])) ?_
        refine wd_bipush (v := 48) hC dX2_numberToken_82 rfl ?_
        refine wd_icmp_ne (tgt := 104) hC dX2_numberToken_84 (by decide) (fun c_84 => ?_) (fun c_84 => ?_)
        · refine wd_iconst (v := 0) hC dX2_numberToken_104 rfl ?_
          refine wd_istore_n_2_1 hC dX2_numberToken_105 ?_
          refine wd_iload_n hC dX2_numberToken_106 rfl rfl ?_
          refine wd_if_ne (tgt := 119) hC dX2_numberToken_107 (by decide) (fun c_107 => absurd (by decide) c_107) (fun c_107 => ?_)
          refine wd_aload_n hC dX2_numberToken_110 rfl rfl ?_
          refine gf_X2_48 hC dX2_numberToken_111 ?_
          refine wd_bipush (v := 99) hC dX2_numberToken_114 rfl ?_
          refine wd_icmp_le (tgt := 123) hC dX2_numberToken_116 (by decide) (fun c_116 => ?_) (fun c_116 => ?_)
          · refine wd_iconst (v := 3) hC dX2_numberToken_123 rfl ?_
            exact wd_iret hC rfl dX2_numberToken_124 (Eq.symm (if_neg (fun h => h.elim (fun h => c_84 h.1) (fun h => h c_116)))) rfl
          · refine wd_iconst (v := 5) hC dX2_numberToken_119 rfl ?_
            refine wd_goto (tgt := 124) hC dX2_numberToken_120 (by decide) ?_
            exact wd_iret hC rfl dX2_numberToken_124 (Eq.symm (if_pos (Or.inr c_116))) rfl
        · refine wd_aload_n hC dX2_numberToken_87 rfl rfl ?_
          refine gf_X2_24 hC dX2_numberToken_88 ?_
          refine wd_aload_n hC dX2_numberToken_91 rfl rfl ?_
          refine gf_X2_38 hC dX2_numberToken_92 ?_
          refine wd_isub hC dX2_numberToken_95 ?_
          refine wd_iconst (v := 1) hC dX2_numberToken_96 rfl ?_
          refine wd_icmp_le (tgt := 104) hC dX2_numberToken_97 (by decide) (fun c_97 => ?_) (fun c_97 => ?_)
          · refine wd_iconst (v := 0) hC dX2_numberToken_104 rfl ?_
            refine wd_istore_n_2_1 hC dX2_numberToken_105 ?_
            refine wd_iload_n hC dX2_numberToken_106 rfl rfl ?_
            refine wd_if_ne (tgt := 119) hC dX2_numberToken_107 (by decide) (fun c_107 => absurd (by decide) c_107) (fun c_107 => ?_)
            refine wd_aload_n hC dX2_numberToken_110 rfl rfl ?_
            refine gf_X2_48 hC dX2_numberToken_111 ?_
            refine wd_bipush (v := 99) hC dX2_numberToken_114 rfl ?_
            refine wd_icmp_le (tgt := 123) hC dX2_numberToken_116 (by decide) (fun c_116 => ?_) (fun c_116 => ?_)
            · refine wd_iconst (v := 3) hC dX2_numberToken_123 rfl ?_
              exact wd_iret hC rfl dX2_numberToken_124 (Eq.symm (if_neg (fun h => h.elim (fun h => h.2 c_97) (fun h => h c_116)))) rfl
            · refine wd_iconst (v := 5) hC dX2_numberToken_119 rfl ?_
              refine wd_goto (tgt := 124) hC dX2_numberToken_120 (by decide) ?_
              exact wd_iret hC rfl dX2_numberToken_124 (Eq.symm (if_pos (Or.inr c_116))) rfl
          · refine wd_iconst (v := 1) hC dX2_numberToken_100 rfl ?_
            refine wd_goto (tgt := 105) hC dX2_numberToken_101 (by decide) ?_
            refine wd_istore_n_2_1 hC dX2_numberToken_105 ?_
            refine wd_iload_n hC dX2_numberToken_106 rfl rfl ?_
            refine wd_if_ne (tgt := 119) hC dX2_numberToken_107 (by decide) (fun c_107 => ?_) (fun c_107 => absurd c_107 (by decide))
            refine wd_iconst (v := 5) hC dX2_numberToken_119 rfl ?_
            refine wd_goto (tgt := 124) hC dX2_numberToken_120 (by decide) ?_
            exact wd_iret hC rfl dX2_numberToken_124 (Eq.symm (if_pos (Or.inl ⟨c_84, c_97⟩))) rfl
      · have hin : b < _ := lp_lt hn c_13 h1 (by omega)
        rw [numL_s _ hin] at hst
        refine wd_aload_n hC dX2_numberToken_16 rfl rfl ?_
        refine gf_X2_9 hC dX2_numberToken_17 ?_
        refine wd_aload_n hC dX2_numberToken_20 rfl rfl ?_
        refine gf_X2_24 hC dX2_numberToken_21 ?_
        refine ld_l hC dX2_numberToken_24 b rfl (by omega) ?_
        refine wd_vi (show _ = L b from (by rw [stP_o _ _ _ _ (by decide), hL])) ?_
        refine cvsi hC cw_X2_70 (c_isDigit hinj _ _) dX2_numberToken_25 (by first | decide | omega) (by decide) rfl rfl (Nat.le_of_ble_eq_true rfl) ?_
        refine wd_if_eq (tgt := 73) hC dX2_numberToken_28 (by decide) (fun c_28 => ?_) (fun c_28 => ?_)
        · replace c_28 := bI_0.mp c_28
          replace hst := (if_neg c_28).symm.trans hst
          rw [← hst] at ⊢
          refine wd_aload_n hC dX2_numberToken_73 rfl rfl ?_
          refine gf_X2_9 hC dX2_numberToken_74 ?_
          refine wd_aload_n hC dX2_numberToken_77 rfl rfl ?_
          refine gf_X2_38 hC dX2_numberToken_78 ?_
          refine ld_l hC dX2_numberToken_81 s rfl (by omega) ?_
          refine wd_vi (show _ = L s from (by rw [stP_o _ _ _ _ (by decide), hL])) ?_
          refine wd_bipush (v := 48) hC dX2_numberToken_82 rfl ?_
          refine wd_icmp_ne (tgt := 104) hC dX2_numberToken_84 (by decide) (fun c_84 => ?_) (fun c_84 => ?_)
          · refine wd_iconst (v := 0) hC dX2_numberToken_104 rfl ?_
            refine wd_istore_n_2_1 hC dX2_numberToken_105 ?_
            refine wd_iload_n hC dX2_numberToken_106 rfl rfl ?_
            refine wd_if_ne (tgt := 119) hC dX2_numberToken_107 (by decide) (fun c_107 => absurd (by decide) c_107) (fun c_107 => ?_)
            refine wd_aload_n hC dX2_numberToken_110 rfl rfl ?_
            refine gf_X2_48 hC dX2_numberToken_111 ?_
            refine wd_bipush (v := 99) hC dX2_numberToken_114 rfl ?_
            refine wd_icmp_le (tgt := 123) hC dX2_numberToken_116 (by decide) (fun c_116 => ?_) (fun c_116 => ?_)
            · refine wd_iconst (v := 3) hC dX2_numberToken_123 rfl ?_
              exact wd_iret hC rfl dX2_numberToken_124 (Eq.symm (if_neg (fun h => h.elim (fun h => c_84 h.1) (fun h => h c_116)))) rfl
            · refine wd_iconst (v := 5) hC dX2_numberToken_119 rfl ?_
              refine wd_goto (tgt := 124) hC dX2_numberToken_120 (by decide) ?_
              exact wd_iret hC rfl dX2_numberToken_124 (Eq.symm (if_pos (Or.inr c_116))) rfl
          · refine wd_aload_n hC dX2_numberToken_87 rfl rfl ?_
            refine gf_X2_24 hC dX2_numberToken_88 ?_
            refine wd_aload_n hC dX2_numberToken_91 rfl rfl ?_
            refine gf_X2_38 hC dX2_numberToken_92 ?_
            refine wd_isub hC dX2_numberToken_95 ?_
            refine wd_iconst (v := 1) hC dX2_numberToken_96 rfl ?_
            refine wd_icmp_le (tgt := 104) hC dX2_numberToken_97 (by decide) (fun c_97 => ?_) (fun c_97 => ?_)
            · refine wd_iconst (v := 0) hC dX2_numberToken_104 rfl ?_
              refine wd_istore_n_2_1 hC dX2_numberToken_105 ?_
              refine wd_iload_n hC dX2_numberToken_106 rfl rfl ?_
              refine wd_if_ne (tgt := 119) hC dX2_numberToken_107 (by decide) (fun c_107 => absurd (by decide) c_107) (fun c_107 => ?_)
              refine wd_aload_n hC dX2_numberToken_110 rfl rfl ?_
              refine gf_X2_48 hC dX2_numberToken_111 ?_
              refine wd_bipush (v := 99) hC dX2_numberToken_114 rfl ?_
              refine wd_icmp_le (tgt := 123) hC dX2_numberToken_116 (by decide) (fun c_116 => ?_) (fun c_116 => ?_)
              · refine wd_iconst (v := 3) hC dX2_numberToken_123 rfl ?_
                exact wd_iret hC rfl dX2_numberToken_124 (Eq.symm (if_neg (fun h => h.elim (fun h => h.2 c_97) (fun h => h c_116)))) rfl
              · refine wd_iconst (v := 5) hC dX2_numberToken_119 rfl ?_
                refine wd_goto (tgt := 124) hC dX2_numberToken_120 (by decide) ?_
                exact wd_iret hC rfl dX2_numberToken_124 (Eq.symm (if_pos (Or.inr c_116))) rfl
            · refine wd_iconst (v := 1) hC dX2_numberToken_100 rfl ?_
              refine wd_goto (tgt := 105) hC dX2_numberToken_101 (by decide) ?_
              refine wd_istore_n_2_1 hC dX2_numberToken_105 ?_
              refine wd_iload_n hC dX2_numberToken_106 rfl rfl ?_
              refine wd_if_ne (tgt := 119) hC dX2_numberToken_107 (by decide) (fun c_107 => ?_) (fun c_107 => absurd c_107 (by decide))
              refine wd_iconst (v := 5) hC dX2_numberToken_119 rfl ?_
              refine wd_goto (tgt := 124) hC dX2_numberToken_120 (by decide) ?_
              exact wd_iret hC rfl dX2_numberToken_124 (Eq.symm (if_pos (Or.inl ⟨c_84, c_97⟩))) rfl
        · replace c_28 := bI_1.mp c_28
          replace hst := (if_pos c_28).symm.trans hst
          refine wd_aload_n hC dX2_numberToken_31 rfl rfl ?_
          refine wd_bipush (v := 10) hC dX2_numberToken_32 rfl ?_
          refine wd_aload_n hC dX2_numberToken_34 rfl rfl ?_
          refine gf_X2_48 hC dX2_numberToken_35 ?_
          refine wd_imul hC dX2_numberToken_38 ?_
          refine wd_aload_n hC dX2_numberToken_39 rfl rfl ?_
          refine gf_X2_9 hC dX2_numberToken_40 ?_
          refine wd_aload_n hC dX2_numberToken_43 rfl rfl ?_
          refine gf_X2_24 hC dX2_numberToken_44 ?_
          refine ld_l hC dX2_numberToken_47 b rfl (by omega) ?_
          refine wd_vi (show _ = L b from (by rw [stP_o _ _ _ _ (by decide), hL])) ?_
          refine wd_iadd hC dX2_numberToken_48 ?_
          refine wd_bipush (v := 48) hC dX2_numberToken_49 rfl ?_
          refine wd_isub hC dX2_numberToken_51 ?_
          refine wd_bipush (v := 100) hC dX2_numberToken_52 rfl ?_
          refine wd_mmin hC (wL_6 _ (List.mem_of_getElem? (i := 23) rfl)) (wL_7 _ (List.mem_of_getElem? (i := 0) rfl)) (wL_7 _ (List.mem_of_getElem? (i := 1) rfl)) (wL_7 _ (List.mem_of_getElem? (i := 2) rfl)) (by decide) (Nat.le_of_ble_eq_true rfl) dX2_numberToken_54 ?_
          refine pf_X2_48 hC dX2_numberToken_57 ?_
          refine wd_ts (stP_4 _ _ _ _ _) ?_
          refine wd_aload_n hC dX2_numberToken_60 rfl rfl ?_
          refine wd_dup hC dX2_numberToken_61 rfl ?_
          refine gf_X2_24 hC dX2_numberToken_62 ?_
          refine wd_iconst (v := 1) hC dX2_numberToken_65 rfl ?_
          refine wd_iadd hC dX2_numberToken_66 ?_
          refine pf_X2_24 hC dX2_numberToken_67 ?_
          refine wd_ts (show _ = stP σ (nI s) (nI (b + 1)) _ from (stP_3 _ _ _ _ _).trans (congrArg (fun z => stP σ (nI s) z _) (nI_1 b))) ?_
          refine wd_goto (tgt := 5) hC dX2_numberToken_70 (by decide) ?_
          exact ih (b + 1) _ (by omega) (by omega) (by omega) hst
  refine wd_aload_n hC dX2_numberToken_0 rfl rfl ?_
  refine wd_iconst (v := 0) hC dX2_numberToken_1 rfl ?_
  refine pf_X2_48 hC dX2_numberToken_2 ?_
  refine wd_ts (stP_4 _ _ _ _ _) ?_
  exact loop (n + 1) s _ (by omega) (by omega) (Nat.le_refl s) rfl
set_option maxRecDepth 100000 in
set_option maxHeartbeats 4000000 in
theorem c_nextToken {V : wd_V} {ad : Nat → Nat} (hinj : wd_inj cS ad) (σ : wd_S) (L : Nat → Int32) (hL : σ.1 2 = L) (n : Nat) (hn : σ.1 1 1 = nI n) (hn2 : n ≤ 200) (b0 : Nat) (hb0 : b0 ≤ n) (s0 q : Int32) : wd_C cS V ad 2 yX2_nextToken (Cond.code yX2_nextToken cX2_nextToken 1 (some .int) :: wsL_law) (stP σ s0 (nI b0) q) [.ref (ad 1)] (wd_eq (some (.int ((nextT L n b0 q).1))) (stP σ (nI (nextT L n b0 q).2.1) (nI (nextT L n b0 q).2.2.1) (nextT L n b0 q).2.2.2)) := by
  refine wd_intro (lv := [some (.ref (ad 1))]) hinj (by decide) rfl (Nat.le_of_ble_eq_true rfl) rfl (Nat.le_of_ble_eq_true rfl) (fun K hC => ?_)
  have loop : ∀ (k b : Nat), b ≤ n → n < b + k → skipB L (n - b) b = skipB L (n - b0) b0 → wd_G cS V ad K 1 (wd_Qm cS V ad K (wd_eq (some (.int (nextT L n b0 q).1)) (stP σ (nI (nextT L n b0 q).2.1) (nI (nextT L n b0 q).2.2.1) (nextT L n b0 q).2.2.2))) 0 [some (.ref (ad 1))] [] (stP σ s0 (nI b) q) := by
    intro k
    induction k with
    | zero =>
      intro b  h1 h2 hst
      exact absurd h2 (by omega)
    | succ k ih =>
      intro b  h1 h2 hst
      refine wd_aload_n hC dX2_nextToken_0 rfl rfl ?_
      refine gf_X2_24 hC dX2_nextToken_1 ?_
      refine wd_aload_n hC dX2_nextToken_4 rfl rfl ?_
      refine gf_X2_67 hC dX2_nextToken_5 ?_
      refine wd_icmp_ge (tgt := 38) hC dX2_nextToken_8 (by decide) (fun c_8 => ?_) (fun c_8 => ?_)
      · have hin : b = n := lp_ge hn c_8 h1 (by omega)
        replace hst : b = skipB L (n - b0) b0 := by rw [← hst, hin, Nat.sub_self]; rfl
        refine wd_aload_n hC dX2_nextToken_38 rfl rfl ?_
        refine wd_aload_n hC dX2_nextToken_39 rfl rfl ?_
        refine gf_X2_24 hC dX2_nextToken_40 ?_
        refine pf_X2_38 hC dX2_nextToken_43 ?_
        refine wd_ts (show _ = stP σ (nI b) (nI b) q from stP_2 _ _ _ _ _) ?_
        refine wd_aload_n hC dX2_nextToken_46 rfl rfl ?_
        refine gf_X2_38 hC dX2_nextToken_47 ?_
        refine wd_aload_n hC dX2_nextToken_50 rfl rfl ?_
        refine gf_X2_67 hC dX2_nextToken_51 ?_
        refine wd_icmp_lt (tgt := 59) hC dX2_nextToken_54 (by decide) (fun c_54 => ?_) (fun c_54 => ?_)
        · have hlt : b < n := by have c9 : nI b < σ.1 1 1 := c_54; rw [hn] at c9; exact (nI_ltI (by omega) (by omega)).mp c9
          have hN1 : pDig (L b) → nextT L n b0 q = (tokN L b (numL L (n - b) b 0).1 (numL L (n - b) b 0).2, b, (numL L (n - b) b 0).1, (numL L (n - b) b 0).2) := fun h => by rw [nextT, ← hst, if_pos hlt, if_pos h]
          have hN2 : ¬ pDig (L b) → nextT L n b0 q = (tokL (L b), b, b + 1, q) := fun h => by rw [nextT, ← hst, if_pos hlt, if_neg h]
          refine wd_aload_n hC dX2_nextToken_59 rfl rfl ?_
          refine gf_X2_9 hC dX2_nextToken_60 ?_
          refine wd_aload_n hC dX2_nextToken_63 rfl rfl ?_
          refine gf_X2_38 hC dX2_nextToken_64 ?_
          refine ld_l hC dX2_nextToken_67 b rfl (by omega) ?_
          refine wd_vi (show _ = L b from (by rw [stP_o _ _ _ _ (by decide), hL])) ?_
          refine cvsi hC cw_X2_70 (c_isDigit hinj _ _) dX2_nextToken_68 (by first | decide | omega) (by decide) rfl rfl (Nat.le_of_ble_eq_true rfl) ?_
          refine wd_if_eq (tgt := 79) hC dX2_nextToken_71 (by decide) (fun c_71 => ?_) (fun c_71 => ?_)
          · replace c_71 := bI_0.mp c_71
            refine wd_aload_n hC dX2_nextToken_79 rfl rfl ?_
            refine wd_dup hC dX2_nextToken_80 rfl ?_
            refine gf_X2_24 hC dX2_nextToken_81 ?_
            refine wd_iconst (v := 1) hC dX2_nextToken_84 rfl ?_
            refine wd_iadd hC dX2_nextToken_85 ?_
            refine pf_X2_24 hC dX2_nextToken_86 ?_
            refine wd_ts (show _ = stP σ _ (nI (b + 1)) _ from (stP_3 _ _ _ _ _).trans (congrArg (fun z => stP σ _ z _) (nI_1 b))) ?_
            refine wd_aload_n hC dX2_nextToken_89 rfl rfl ?_
            refine gf_X2_9 hC dX2_nextToken_90 ?_
            refine wd_aload_n hC dX2_nextToken_93 rfl rfl ?_
            refine gf_X2_38 hC dX2_nextToken_94 ?_
            refine ld_l hC dX2_nextToken_97 b rfl (by omega) ?_
            refine wd_vi (show _ = L b from (by rw [stP_o _ _ _ _ (by decide), hL])) ?_
            by_cases e_0 : L b = 59
            · refine wd_vi e_0 ?_
              refine wd_lookup (off := 38) (tgt := 136) hC dX2_nextToken_98 (by decide) (by decide) (by decide) ?_
              refine wd_iconst (v := 4) hC dX2_nextToken_136 rfl ?_
              exact wd_iret hC rfl dX2_nextToken_137 (by rw [hN2 c_71]; show _ = tokL (L b); rw [tokL, if_pos e_0]) (by rw [hN2 c_71])
            · skip
              by_cases e_1 : L b = 99
              · refine wd_vi e_1 ?_
                refine wd_lookup (off := 34) (tgt := 132) hC dX2_nextToken_98 (by decide) (by decide) (by decide) ?_
                refine wd_iconst (v := 1) hC dX2_nextToken_132 rfl ?_
                exact wd_iret hC rfl dX2_nextToken_133 (by rw [hN2 c_71]; show _ = tokL (L b); rw [tokL, if_neg e_0, if_pos e_1]) (by rw [hN2 c_71])
              · skip
                by_cases e_2 : L b = 109
                · refine wd_vi e_2 ?_
                  refine wd_lookup (off := 36) (tgt := 134) hC dX2_nextToken_98 (by decide) (by decide) (by decide) ?_
                  refine wd_iconst (v := 2) hC dX2_nextToken_134 rfl ?_
                  exact wd_iret hC rfl dX2_nextToken_135 (by rw [hN2 c_71]; show _ = tokL (L b); rw [tokL, if_neg e_0, if_neg e_1, if_pos e_2]) (by rw [hN2 c_71])
                · skip
                  refine wd_lookup (off := 40) (tgt := 138) hC dX2_nextToken_98 (by decide) (show Op.lookupswitch.offset [(59, 38), (99, 34), (109, 36)] 40 _ = 40 from (by rw [lv_osw e_0 (k := 59) (a := 59) (by decide), lv_osw e_1 (k := 99) (a := 99) (by decide), lv_osw e_2 (k := 109) (a := 109) (by decide)]; rfl)) (by decide) ?_
                  refine wd_iconst (v := 5) hC dX2_nextToken_138 rfl ?_
                  exact wd_iret hC rfl dX2_nextToken_139 (by rw [hN2 c_71]; show _ = tokL (L b); rw [tokL, if_neg e_0, if_neg e_1, if_neg e_2]) (by rw [hN2 c_71])
          · replace c_71 := bI_1.mp c_71
            refine wd_aload_n hC dX2_nextToken_74 rfl rfl ?_
            refine cv2i hC cw_X2_74 (c_numberToken hinj σ L hL n hn hn2 b hlt q) dX2_nextToken_75 (by first | decide | omega) (by decide) rfl rfl (Nat.le_of_ble_eq_true rfl) ?_
            exact wd_iret hC rfl dX2_nextToken_78 (by rw [hN1 c_71]) (by rw [hN1 c_71])
        · have hnl : ¬ b < n := fun h => c_54 (by show nI b < σ.1 1 1; rw [hn]; exact nI_lt h (by omega))
          have hN0 : nextT L n b0 q = (0, b, b, q) := by rw [nextT, ← hst, if_neg hnl]
          refine wd_iconst (v := 0) hC dX2_nextToken_57 rfl ?_
          exact wd_iret hC rfl dX2_nextToken_58 (by rw [hN0]) (by rw [hN0])
      · have hin : b < _ := lp_lt hn c_8 h1 (by omega)
        rw [skipB_s _ hin] at hst
        refine wd_aload_n hC dX2_nextToken_11 rfl rfl ?_
        refine gf_X2_9 hC dX2_nextToken_12 ?_
        refine wd_aload_n hC dX2_nextToken_15 rfl rfl ?_
        refine gf_X2_24 hC dX2_nextToken_16 ?_
        refine ld_l hC dX2_nextToken_19 b rfl (by omega) ?_
        refine wd_vi (show _ = L b from (by rw [stP_o _ _ _ _ (by decide), hL])) ?_
        refine wd_bipush (v := 32) hC dX2_nextToken_20 rfl ?_
        refine wd_icmp_ne (tgt := 38) hC dX2_nextToken_22 (by decide) (fun c_22 => ?_) (fun c_22 => ?_)
        · replace hst := (if_neg c_22).symm.trans hst
          refine wd_aload_n hC dX2_nextToken_38 rfl rfl ?_
          refine wd_aload_n hC dX2_nextToken_39 rfl rfl ?_
          refine gf_X2_24 hC dX2_nextToken_40 ?_
          refine pf_X2_38 hC dX2_nextToken_43 ?_
          refine wd_ts (show _ = stP σ (nI b) (nI b) q from stP_2 _ _ _ _ _) ?_
          refine wd_aload_n hC dX2_nextToken_46 rfl rfl ?_
          refine gf_X2_38 hC dX2_nextToken_47 ?_
          refine wd_aload_n hC dX2_nextToken_50 rfl rfl ?_
          refine gf_X2_67 hC dX2_nextToken_51 ?_
          refine wd_icmp_lt (tgt := 59) hC dX2_nextToken_54 (by decide) (fun c_54 => ?_) (fun c_54 => ?_)
          · have hlt : b < n := by have c9 : nI b < σ.1 1 1 := c_54; rw [hn] at c9; exact (nI_ltI (by omega) (by omega)).mp c9
            have hN1 : pDig (L b) → nextT L n b0 q = (tokN L b (numL L (n - b) b 0).1 (numL L (n - b) b 0).2, b, (numL L (n - b) b 0).1, (numL L (n - b) b 0).2) := fun h => by rw [nextT, ← hst, if_pos hlt, if_pos h]
            have hN2 : ¬ pDig (L b) → nextT L n b0 q = (tokL (L b), b, b + 1, q) := fun h => by rw [nextT, ← hst, if_pos hlt, if_neg h]
            refine wd_aload_n hC dX2_nextToken_59 rfl rfl ?_
            refine gf_X2_9 hC dX2_nextToken_60 ?_
            refine wd_aload_n hC dX2_nextToken_63 rfl rfl ?_
            refine gf_X2_38 hC dX2_nextToken_64 ?_
            refine ld_l hC dX2_nextToken_67 b rfl (by omega) ?_
            refine wd_vi (show _ = L b from (by rw [stP_o _ _ _ _ (by decide), hL])) ?_
            refine cvsi hC cw_X2_70 (c_isDigit hinj _ _) dX2_nextToken_68 (by first | decide | omega) (by decide) rfl rfl (Nat.le_of_ble_eq_true rfl) ?_
            refine wd_if_eq (tgt := 79) hC dX2_nextToken_71 (by decide) (fun c_71 => ?_) (fun c_71 => ?_)
            · replace c_71 := bI_0.mp c_71
              refine wd_aload_n hC dX2_nextToken_79 rfl rfl ?_
              refine wd_dup hC dX2_nextToken_80 rfl ?_
              refine gf_X2_24 hC dX2_nextToken_81 ?_
              refine wd_iconst (v := 1) hC dX2_nextToken_84 rfl ?_
              refine wd_iadd hC dX2_nextToken_85 ?_
              refine pf_X2_24 hC dX2_nextToken_86 ?_
              refine wd_ts (show _ = stP σ _ (nI (b + 1)) _ from (stP_3 _ _ _ _ _).trans (congrArg (fun z => stP σ _ z _) (nI_1 b))) ?_
              refine wd_aload_n hC dX2_nextToken_89 rfl rfl ?_
              refine gf_X2_9 hC dX2_nextToken_90 ?_
              refine wd_aload_n hC dX2_nextToken_93 rfl rfl ?_
              refine gf_X2_38 hC dX2_nextToken_94 ?_
              refine ld_l hC dX2_nextToken_97 b rfl (by omega) ?_
              refine wd_vi (show _ = L b from (by rw [stP_o _ _ _ _ (by decide), hL])) ?_
              by_cases e_0 : L b = 59
              · refine wd_vi e_0 ?_
                refine wd_lookup (off := 38) (tgt := 136) hC dX2_nextToken_98 (by decide) (by decide) (by decide) ?_
                refine wd_iconst (v := 4) hC dX2_nextToken_136 rfl ?_
                exact wd_iret hC rfl dX2_nextToken_137 (by rw [hN2 c_71]; show _ = tokL (L b); rw [tokL, if_pos e_0]) (by rw [hN2 c_71])
              · skip
                by_cases e_1 : L b = 99
                · refine wd_vi e_1 ?_
                  refine wd_lookup (off := 34) (tgt := 132) hC dX2_nextToken_98 (by decide) (by decide) (by decide) ?_
                  refine wd_iconst (v := 1) hC dX2_nextToken_132 rfl ?_
                  exact wd_iret hC rfl dX2_nextToken_133 (by rw [hN2 c_71]; show _ = tokL (L b); rw [tokL, if_neg e_0, if_pos e_1]) (by rw [hN2 c_71])
                · skip
                  by_cases e_2 : L b = 109
                  · refine wd_vi e_2 ?_
                    refine wd_lookup (off := 36) (tgt := 134) hC dX2_nextToken_98 (by decide) (by decide) (by decide) ?_
                    refine wd_iconst (v := 2) hC dX2_nextToken_134 rfl ?_
                    exact wd_iret hC rfl dX2_nextToken_135 (by rw [hN2 c_71]; show _ = tokL (L b); rw [tokL, if_neg e_0, if_neg e_1, if_pos e_2]) (by rw [hN2 c_71])
                  · skip
                    refine wd_lookup (off := 40) (tgt := 138) hC dX2_nextToken_98 (by decide) (show Op.lookupswitch.offset [(59, 38), (99, 34), (109, 36)] 40 _ = 40 from (by rw [lv_osw e_0 (k := 59) (a := 59) (by decide), lv_osw e_1 (k := 99) (a := 99) (by decide), lv_osw e_2 (k := 109) (a := 109) (by decide)]; rfl)) (by decide) ?_
                    refine wd_iconst (v := 5) hC dX2_nextToken_138 rfl ?_
                    exact wd_iret hC rfl dX2_nextToken_139 (by rw [hN2 c_71]; show _ = tokL (L b); rw [tokL, if_neg e_0, if_neg e_1, if_neg e_2]) (by rw [hN2 c_71])
            · replace c_71 := bI_1.mp c_71
              refine wd_aload_n hC dX2_nextToken_74 rfl rfl ?_
              refine cv2i hC cw_X2_74 (c_numberToken hinj σ L hL n hn hn2 b hlt q) dX2_nextToken_75 (by first | decide | omega) (by decide) rfl rfl (Nat.le_of_ble_eq_true rfl) ?_
              exact wd_iret hC rfl dX2_nextToken_78 (by rw [hN1 c_71]) (by rw [hN1 c_71])
          · have hnl : ¬ b < n := fun h => c_54 (by show nI b < σ.1 1 1; rw [hn]; exact nI_lt h (by omega))
            have hN0 : nextT L n b0 q = (0, b, b, q) := by rw [nextT, ← hst, if_neg hnl]
            refine wd_iconst (v := 0) hC dX2_nextToken_57 rfl ?_
            exact wd_iret hC rfl dX2_nextToken_58 (by rw [hN0]) (by rw [hN0])
        · replace hst := (if_pos c_22).symm.trans hst
          refine wd_aload_n hC dX2_nextToken_25 rfl rfl ?_
          refine wd_dup hC dX2_nextToken_26 rfl ?_
          refine gf_X2_24 hC dX2_nextToken_27 ?_
          refine wd_iconst (v := 1) hC dX2_nextToken_30 rfl ?_
          refine wd_iadd hC dX2_nextToken_31 ?_
          refine pf_X2_24 hC dX2_nextToken_32 ?_
          refine wd_ts (show _ = stP σ _ (nI (b + 1)) _ from (stP_3 _ _ _ _ _).trans (congrArg (fun z => stP σ _ z _) (nI_1 b))) ?_
          refine wd_goto (tgt := 0) hC dX2_nextToken_35 (by decide) ?_
          exact ih (b + 1) (by omega) (by omega) hst
  exact loop (n + 1) b0 hb0 (by omega) rfl
set_option maxRecDepth 100000 in
set_option maxHeartbeats 4000000 in
theorem c_readNumber {V : wd_V} {ad : Nat → Nat} (hinj : wd_inj cS ad) (σ : wd_S) (L : Nat → Int32) (hL : σ.1 2 = L) (n : Nat) (hn : σ.1 1 1 = nI n) (hn2 : n ≤ 200) (b0 : Nat) (hb0 : b0 ≤ n) (s0 q x y : Int32) : wd_C cS V ad 3 yX2_readNumber (Cond.code yX2_readNumber cX2_readNumber 3 (some .boolean) :: wsL_law) (stP σ s0 (nI b0) q) [.ref (ad 1), .int x, .int y] (wd_eq (some (.int (bI ((nextT L n b0 q).1 = 3 ∧ x ≤ (nextT L n b0 q).2.2.2 ∧ (nextT L n b0 q).2.2.2 ≤ y)))) (stP σ (nI (nextT L n b0 q).2.1) (nI (nextT L n b0 q).2.2.1) (nextT L n b0 q).2.2.2)) := by
  refine wd_intro (lv := [some (.ref (ad 1)), some (.int x), some (.int y)]) hinj (by decide) rfl (Nat.le_of_ble_eq_true rfl) rfl (Nat.le_of_ble_eq_true rfl) (fun K hC => ?_)
  refine wd_aload_n hC dX2_readNumber_0 rfl rfl ?_
  refine cv2i hC cw_X2_27 (c_nextToken hinj σ L hL n hn hn2 b0 hb0 s0 q) dX2_readNumber_1 (by first | decide | omega) (by decide) rfl rfl (Nat.le_of_ble_eq_true rfl) ?_
  refine wd_iconst (v := 3) hC dX2_readNumber_4 rfl ?_
  refine wd_icmp_ne (tgt := 28) hC dX2_readNumber_5 (by decide) (fun c_5 => ?_) (fun c_5 => ?_)
  · refine wd_iconst (v := 0) hC dX2_readNumber_28 rfl ?_
    exact wd_zret hC rfl rfl dX2_readNumber_29 (by first | exact bI_t ⟨c_5, i_le c_13, i_le c_21⟩ | exact bI_f (fun h => c_5 h.1) | exact bI_f (fun h => i_nlt c_13 h.2.1) | exact bI_f (fun h => i_nlt c_21 h.2.2)) rfl
  · refine wd_aload_n hC dX2_readNumber_8 rfl rfl ?_
    refine gf_X2_48 hC dX2_readNumber_9 ?_
    refine wd_iload_n hC dX2_readNumber_12 rfl rfl ?_
    refine wd_icmp_lt (tgt := 28) hC dX2_readNumber_13 (by decide) (fun c_13 => ?_) (fun c_13 => ?_)
    · refine wd_iconst (v := 0) hC dX2_readNumber_28 rfl ?_
      exact wd_zret hC rfl rfl dX2_readNumber_29 (by first | exact bI_t ⟨c_5, i_le c_13, i_le c_21⟩ | exact bI_f (fun h => c_5 h.1) | exact bI_f (fun h => i_nlt c_13 h.2.1) | exact bI_f (fun h => i_nlt c_21 h.2.2)) rfl
    · refine wd_aload_n hC dX2_readNumber_16 rfl rfl ?_
      refine gf_X2_48 hC dX2_readNumber_17 ?_
      refine wd_iload_n hC dX2_readNumber_20 rfl rfl ?_
      refine wd_icmp_gt (tgt := 28) hC dX2_readNumber_21 (by decide) (fun c_21 => ?_) (fun c_21 => ?_)
      · refine wd_iconst (v := 0) hC dX2_readNumber_28 rfl ?_
        exact wd_zret hC rfl rfl dX2_readNumber_29 (by first | exact bI_t ⟨c_5, i_le c_13, i_le c_21⟩ | exact bI_f (fun h => c_5 h.1) | exact bI_f (fun h => i_nlt c_13 h.2.1) | exact bI_f (fun h => i_nlt c_21 h.2.2)) rfl
      · refine wd_iconst (v := 1) hC dX2_readNumber_24 rfl ?_
        refine wd_goto (tgt := 29) hC dX2_readNumber_25 (by decide) ?_
        exact wd_zret hC rfl rfl dX2_readNumber_29 (by first | exact bI_t ⟨c_5, i_le c_13, i_le c_21⟩ | exact bI_f (fun h => c_5 h.1) | exact bI_f (fun h => i_nlt c_13 h.2.1) | exact bI_f (fun h => i_nlt c_21 h.2.2)) rfl

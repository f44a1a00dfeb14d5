/-! ===== the reference: isRow ===== -/
/-- the digits of a way, from the last man down -/
def rwL (b : Nat) : Nat → Nat → (Nat → Int32) → Int32 → Bool → (Nat → Int32) × Int32 × Bool
  | 0, _, p, a, z => (p, a, z)
  | t + 1, w, p, a, z => rwL b t (w / b) (upd p t (nI (w % b))) (if nI (w % b) = 0 then a + 1 else a + 0) (z && decide (¬ nI (w % b) = nI t + 1))
theorem rwL_k (b : Nat) : ∀ (t w : Nat) (p : Nat → Int32) (a : Int32) (z : Bool) (k : Nat), t ≤ k → (rwL b t w p a z).1 k = p k := by
  intro t
  induction t with
  | zero => intro w p a z k _; rfl
  | succ t ih =>
    intro w p a z k hk
    rw [rwL, ih _ _ _ _ _ (by omega)]
    exact if_neg (by omega)
theorem rwL_d {b : Nat} (hb : 0 < b) : ∀ (t w : Nat) (p : Nat → Int32) (a : Int32) (z : Bool) (k : Nat), k < t → ∃ d, d < b ∧ (rwL b t w p a z).1 k = nI d := by
  intro t
  induction t with
  | zero => intro w p a z k hk; exact absurd hk (by omega)
  | succ t ih =>
    intro w p a z k hk
    rw [rwL]
    by_cases h : k < t
    · exact ih _ _ _ _ _ h
    · refine ⟨w % b, Nat.mod_lt _ hb, ?_⟩
      rw [rwL_k _ _ _ _ _ _ _ (by omega)]
      exact if_pos (by omega)
theorem rwL_ok {nm : Nat} (h6 : nm ≤ 6) (w : Nat) (p : Nat → Int32) (a : Int32) (z : Bool) : pOk (rwL (nm + 1) nm w p a z).1 nm := fun m hm => by
  obtain ⟨d, hd, e⟩ := rwL_d (b := nm + 1) (by omega) nm w p a z m hm
  rw [e]
  exact ⟨nI_pos' (by omega), nI_lt hd (by omega)⟩
def rwC (p : Nat → Int32) (m : Nat) (z : Bool) : Bool := z && decide (p m = 0 ∨ p (p m - 1).toNatClampNeg = nI m + 1)
def rwD (nm : Nat) (F : (Nat → Int32) × Int32 × Bool) : Bool := itr (rwC F.1) F.2.2 nm && decide (F.2.1 = nI (nm % 2))
theorem itr_stop {f : Nat → Bool → Bool} (hf : ∀ i, f i false = false) {z : Bool} {i : Nat} (h : itr f z i = false) : ∀ n, i ≤ n → itr f z n = false := by
  intro n hn
  induction n with
  | zero => rw [← h, show i = 0 by omega]
  | succ n ih =>
    by_cases e : i = n + 1
    · rw [← e]; exact h
    · rw [itr, ih (by omega), hf]
theorem pOk.ix {p : Nat → Int32} {nm m : Nat} (h : pOk p nm) (h6 : nm ≤ 6) (hm : m < nm) (h0 : ¬ p m = 0) : p m - 1 = nI (p m - 1).toNatClampNeg ∧ (p m - 1).toNatClampNeg < nm := by
  obtain ⟨h1, h2⟩ := h m hm
  obtain ⟨e, hl⟩ := ix_of h1 h2 (by omega)
  have hd : 0 < (p m).toNatClampNeg := by
    rcases Nat.eq_zero_or_pos (p m).toNatClampNeg with q | q
    · rw [q] at e; exact absurd e h0
    · exact q
  have e2 : p m - 1 = nI ((p m).toNatClampNeg - 1) := by
    rw [← sub1_of hd, ← e]
  have e3 : (p m - 1).toNatClampNeg = (p m).toNatClampNeg - 1 := pk_cl _ e2 (by omega)
  rw [e3]
  exact ⟨e2, by omega⟩
theorem wd_is64 {sd : wd_Side} {V : wd_V} {ad : Nat → Nat} {K : wd_K} {nL : Nat} {Q : State → Prop} {pc : Nat} {a0 a1 a2 a3 a5 : Option Value} {st : List Value} {σ : wd_S} {x : Int32} {z : Bool} (h : x = bI (z = true)) (k : wd_G sd V ad K nL Q pc [a0, a1, a2, a3, some (.int (bI (z = true))), a5] st σ) : wd_G sd V ad K nL Q pc [a0, a1, a2, a3, some (.int x), a5] st σ := h ▸ k
theorem wd_is65 {sd : wd_Side} {V : wd_V} {ad : Nat → Nat} {K : wd_K} {nL : Nat} {Q : State → Prop} {pc : Nat} {a0 a1 a2 a3 a4 : Option Value} {st : List Value} {σ : wd_S} {x y : Int32} (h : x = y) (k : wd_G sd V ad K nL Q pc [a0, a1, a2, a3, a4, some (.int y)] st σ) : wd_G sd V ad K nL Q pc [a0, a1, a2, a3, a4, some (.int x)] st σ := h ▸ k
theorem m1_of (x : Int32) : x + Int32.ofInt (-1) = x - 1 := by rw [Int32.sub_eq_add_neg]; rfl


set_option maxRecDepth 100000 in
set_option maxHeartbeats 4000000 in
theorem r_isRow {V : wd_V} {ad : Nat → Nat} (hinj : wd_inj rS ad) (σ : wd_S) (nm : Nat) (hnm : σ.1 2 1 = nI nm) (h6 : nm ≤ 6) (x : Int32) (wy : Nat) (hx : x = nI wy) (hwy : wy < 2 ^ 31) : wd_C rS V ad 0 yX5_isRow (Cond.code yX5_isRow cX5_isRow 6 (some .boolean) :: wsL_law) σ [.ref (ad 0), .int x] (wd_eq (some (.int (bI (rwD nm (rwL (nm + 1) nm wy (σ.1 16) 0 true) = true)))) ((setR σ 16 (rwL (nm + 1) nm wy (σ.1 16) 0 true).1))) := by
  refine wd_intro (lv := [some (.ref (ad 0)), some (.int x), none, none, none, none]) hinj (by decide) rfl (Nat.le_of_ble_eq_true rfl) rfl (Nat.le_of_ble_eq_true rfl) (fun K hC => ?_)
  generalize hF : (rwL (nm + 1) nm wy (σ.1 16) 0 true) = F
  have hok : pOk F.1 nm := hF ▸ rwL_ok h6 wy _ _ _
  have loop2 : ∀ (k i : Nat) (o2 : Option Value) (z : Bool), i ≤ nm → nm < i + k → itr (rwC F.1) F.2.2 i = z → wd_G rS V ad K 6 (wd_Qm rS V ad K (wd_eq (some (.int (bI (rwD nm F = true)))) (setR σ 16 F.1))) 103 [some (.ref (ad 0)), some (.int x), o2, some (.int F.2.1), some (.int (bI (z = true))), some (.int (nI i))] [] (setR σ 16 F.1) := by
    intro k
    induction k with
    | zero =>
      intro i o2 z h1 h2 hst
      exact absurd h2 (by omega)
    | succ k ih =>
      intro i o2 z h1 h2 hst
      refine wd_iload hC dX5_isRow_103 rfl ?_
      refine wd_aload_n hC dX5_isRow_105 rfl rfl ?_
      refine gf_X5_13 hC dX5_isRow_106 ?_
      refine wd_iconst (v := 1) hC dX5_isRow_109 rfl ?_
      refine rl_many hC dX5_isRow_110 1 rfl (by decide) ?_
      refine wd_vi (show _ = nI nm from (by rw [many_set (by decide)]; exact hnm)) ?_
      refine wd_icmp_ge (tgt := 163) hC dX5_isRow_111 (by decide) (fun c_111 => ?_) (fun c_111 => ?_)
      · have hin : _ = i := (lp_ge (n := nm) rfl c_111 h1 (by omega)).symm
        subst hin
        have hZ : itr (rwC F.1) F.2.2 nm = z := hst
        refine wd_iload hC dX5_isRow_163 rfl ?_
        refine wd_if_eq (tgt := 184) hC dX5_isRow_165 (by decide) (fun c_165 => ?_) (fun c_165 => ?_)
        · replace c_165 := bI_0.mp c_165
          refine wd_iconst (v := 0) hC dX5_isRow_184 rfl ?_
          exact wd_zret hC rfl (by decide) dX5_isRow_185 (by rw [rwD, hZ]; first | exact hg_0 c_165 | exact hg_1 c_165 c_177 | exact hg_2 c_165 c_177) rfl
        · replace c_165 := bI_1.mp c_165
          refine wd_iload_n hC dX5_isRow_168 rfl rfl ?_
          refine wd_aload_n hC dX5_isRow_169 rfl rfl ?_
          refine gf_X5_13 hC dX5_isRow_170 ?_
          refine wd_iconst (v := 1) hC dX5_isRow_173 rfl ?_
          refine rl_many hC dX5_isRow_174 1 rfl (by decide) ?_
          refine wd_vi (show _ = nI nm from (by rw [many_set (by decide)]; exact hnm)) ?_
          refine wd_iconst (v := 2) hC dX5_isRow_175 rfl ?_
          refine wd_irem hC dX5_isRow_176 (by decide) ?_
          refine wd_vi (show _ = nI (nm % 2) from pk_rem (a := nm) (d := 2) (by omega) (by decide) (by decide)) ?_
          refine wd_icmp_ne (tgt := 184) hC dX5_isRow_177 (by decide) (fun c_177 => ?_) (fun c_177 => ?_)
          · refine wd_iconst (v := 0) hC dX5_isRow_184 rfl ?_
            exact wd_zret hC rfl (by decide) dX5_isRow_185 (by rw [rwD, hZ]; first | exact hg_0 c_165 | exact hg_1 c_165 c_177 | exact hg_2 c_165 c_177) rfl
          · refine wd_iconst (v := 1) hC dX5_isRow_180 rfl ?_
            refine wd_goto (tgt := 185) hC dX5_isRow_181 (by decide) ?_
            exact wd_zret hC rfl (by decide) dX5_isRow_185 (by rw [rwD, hZ]; first | exact hg_0 c_165 | exact hg_1 c_165 c_177 | exact hg_2 c_165 c_177) rfl
      · have hin : i < nm := lp_lt (n := nm) rfl c_111 h1 (by omega)
        refine wd_iload hC dX5_isRow_114 rfl ?_
        refine wd_if_eq (tgt := 163) hC dX5_isRow_116 (by decide) (fun c_116 => ?_) (fun c_116 => ?_)
        · replace c_116 := bI_0.mp c_116
          have hz : z = false := by cases z; rfl; exact absurd rfl c_116
          have hZ : itr (rwC F.1) F.2.2 nm = z := by rw [hz] at hst; rw [hz]; exact itr_stop (fun _ => rfl) hst nm h1
          refine wd_iload hC dX5_isRow_163 rfl ?_
          refine wd_if_eq (tgt := 184) hC dX5_isRow_165 (by decide) (fun c_165 => ?_) (fun c_165 => ?_)
          · replace c_165 := bI_0.mp c_165
            refine wd_iconst (v := 0) hC dX5_isRow_184 rfl ?_
            exact wd_zret hC rfl (by decide) dX5_isRow_185 (by rw [rwD, hZ]; first | exact hg_0 c_165 | exact hg_1 c_165 c_177 | exact hg_2 c_165 c_177) rfl
          · replace c_165 := bI_1.mp c_165
            refine wd_iload_n hC dX5_isRow_168 rfl rfl ?_
            refine wd_aload_n hC dX5_isRow_169 rfl rfl ?_
            refine gf_X5_13 hC dX5_isRow_170 ?_
            refine wd_iconst (v := 1) hC dX5_isRow_173 rfl ?_
            refine rl_many hC dX5_isRow_174 1 rfl (by decide) ?_
            refine wd_vi (show _ = nI nm from (by rw [many_set (by decide)]; exact hnm)) ?_
            refine wd_iconst (v := 2) hC dX5_isRow_175 rfl ?_
            refine wd_irem hC dX5_isRow_176 (by decide) ?_
            refine wd_vi (show _ = nI (nm % 2) from pk_rem (a := nm) (d := 2) (by omega) (by decide) (by decide)) ?_
            refine wd_icmp_ne (tgt := 184) hC dX5_isRow_177 (by decide) (fun c_177 => ?_) (fun c_177 => ?_)
            · refine wd_iconst (v := 0) hC dX5_isRow_184 rfl ?_
              exact wd_zret hC rfl (by decide) dX5_isRow_185 (by rw [rwD, hZ]; first | exact hg_0 c_165 | exact hg_1 c_165 c_177 | exact hg_2 c_165 c_177) rfl
            · refine wd_iconst (v := 1) hC dX5_isRow_180 rfl ?_
              refine wd_goto (tgt := 185) hC dX5_isRow_181 (by decide) ?_
              exact wd_zret hC rfl (by decide) dX5_isRow_185 (by rw [rwD, hZ]; first | exact hg_0 c_165 | exact hg_1 c_165 c_177 | exact hg_2 c_165 c_177) rfl
        · replace c_116 := bI_1.mp c_116
          refine wd_aload_n hC dX5_isRow_119 rfl rfl ?_
          refine gf_X5_56 hC dX5_isRow_120 ?_
          refine wd_iload hC dX5_isRow_123 rfl ?_
          refine rl_pair hC dX5_isRow_125 (i) rfl (by omega) ?_
          refine wd_vi (show _ = F.1 i from (by rw [setR_k])) ?_
          refine wd_if_eq (tgt := 150) hC dX5_isRow_126 (by decide) (fun c_126 => ?_) (fun c_126 => ?_)
          · refine wd_iconst (v := 1) hC dX5_isRow_150 rfl ?_
            refine wd_goto (tgt := 155) hC dX5_isRow_151 (by decide) ?_
            refine wd_istore_6_4 hC dX5_isRow_155 ?_
            refine wd_iincN_6_5 hC dX5_isRow_157 ?_
            refine wd_goto (tgt := 103) hC dX5_isRow_160 (by decide) ?_
            refine wd_is64 (show _ = bI (rwC F.1 i z = true) from (by first | exact hg_2 c_116 (Or.inl c_126) | exact hg_2 c_116 (Or.inr c_147) | exact hg_1 c_116 (fun h => h.elim c_126 c_147))) ?_
            exact ih (i + 1) _ _ (by omega) (by omega) (by rw [itr, hst])
          · refine wd_aload_n hC dX5_isRow_129 rfl rfl ?_
            refine gf_X5_56 hC dX5_isRow_130 ?_
            refine wd_aload_n hC dX5_isRow_133 rfl rfl ?_
            refine gf_X5_56 hC dX5_isRow_134 ?_
            refine wd_iload hC dX5_isRow_137 rfl ?_
            refine rl_pair hC dX5_isRow_139 (i) rfl (by omega) ?_
            refine wd_vi (show _ = F.1 i from (by rw [setR_k])) ?_
            refine wd_iconst (v := 1) hC dX5_isRow_140 rfl ?_
            refine wd_isub hC dX5_isRow_141 ?_
            refine rl_pair hC dX5_isRow_142 (F.1 i - 1).toNatClampNeg (hok.ix h6 hin c_126).1 (by have := (hok.ix h6 hin c_126).2; omega) ?_
            refine wd_vi (show _ = F.1 (F.1 i - 1).toNatClampNeg from (by rw [setR_k])) ?_
            refine wd_iload hC dX5_isRow_143 rfl ?_
            refine wd_iconst (v := 1) hC dX5_isRow_145 rfl ?_
            refine wd_iadd hC dX5_isRow_146 ?_
            refine wd_icmp_ne (tgt := 154) hC dX5_isRow_147 (by decide) (fun c_147 => ?_) (fun c_147 => ?_)
            · refine wd_iconst (v := 0) hC dX5_isRow_154 rfl ?_
              refine wd_istore_6_4 hC dX5_isRow_155 ?_
              refine wd_iincN_6_5 hC dX5_isRow_157 ?_
              refine wd_goto (tgt := 103) hC dX5_isRow_160 (by decide) ?_
              refine wd_is64 (show _ = bI (rwC F.1 i z = true) from (by first | exact hg_2 c_116 (Or.inl c_126) | exact hg_2 c_116 (Or.inr c_147) | exact hg_1 c_116 (fun h => h.elim c_126 c_147))) ?_
              exact ih (i + 1) _ _ (by omega) (by omega) (by rw [itr, hst])
            · refine wd_iconst (v := 1) hC dX5_isRow_150 rfl ?_
              refine wd_goto (tgt := 155) hC dX5_isRow_151 (by decide) ?_
              refine wd_istore_6_4 hC dX5_isRow_155 ?_
              refine wd_iincN_6_5 hC dX5_isRow_157 ?_
              refine wd_goto (tgt := 103) hC dX5_isRow_160 (by decide) ?_
              refine wd_is64 (show _ = bI (rwC F.1 i z = true) from (by first | exact hg_2 c_116 (Or.inl c_126) | exact hg_2 c_116 (Or.inr c_147) | exact hg_1 c_116 (fun h => h.elim c_126 c_147))) ?_
              exact ih (i + 1) _ _ (by omega) (by omega) (by rw [itr, hst])
  have loop : ∀ (t w : Nat) (p : Nat → Int32) (a : Int32) (z : Bool), t ≤ nm → w < 2 ^ 31 → rwL (nm + 1) t w p a z = F → wd_G rS V ad K 6 (wd_Qm rS V ad K (wd_eq (some (.int (bI (rwD nm F = true)))) (setR σ 16 F.1))) 17 [some (.ref (ad 0)), some (.int x), some (.int (nI w)), some (.int a), some (.int (bI (z = true))), some (.int (nI t - 1))] [] (setR σ 16 p) := by
    intro t
    induction t with
    | zero =>
      intro w p a z ht hw hf
      refine wd_iload hC dX5_isRow_17 rfl ?_
      refine wd_if_lt (tgt := 100) hC dX5_isRow_19 (by decide) (fun c_19 => ?_) (fun c_19 => absurd (by decide) c_19)
      refine wd_iconst (v := 0) hC dX5_isRow_100 rfl ?_
      refine wd_istore_6_5 hC dX5_isRow_101 ?_
      rw [rwL] at hf
      subst hf
      exact loop2 (nm + 1) 0 _ _ (Nat.zero_le _) (by omega) rfl
    | succ t ih =>
      intro w p a z ht hw hf
      refine wd_is65 (sub1_of (n := t + 1) (by omega)) ?_
      refine wd_iload hC dX5_isRow_17 rfl ?_
      refine wd_if_lt (tgt := 100) hC dX5_isRow_19 (by decide) (fun c_19 => absurd c_19 (nI_pos (n := t) (by omega))) (fun c_19 => ?_)
      refine wd_aload_n hC dX5_isRow_22 rfl rfl ?_
      refine gf_X5_56 hC dX5_isRow_23 ?_
      refine wd_iload hC dX5_isRow_26 rfl ?_
      refine wd_iload_n hC dX5_isRow_28 rfl rfl ?_
      refine wd_aload_n hC dX5_isRow_29 rfl rfl ?_
      refine gf_X5_13 hC dX5_isRow_30 ?_
      refine wd_iconst (v := 1) hC dX5_isRow_33 rfl ?_
      refine rl_many hC dX5_isRow_34 1 rfl (by decide) ?_
      refine wd_vi (show _ = nI nm from (by rw [many_set (by decide)]; exact hnm)) ?_
      refine wd_iconst (v := 1) hC dX5_isRow_35 rfl ?_
      refine wd_iadd hC dX5_isRow_36 ?_
      refine wd_vi (show _ = nI (nm + 1) from nI_add nm 1) ?_
      refine wd_irem hC dX5_isRow_37 (nI_ne0 (by omega) (by omega)) ?_
      refine wd_vi (pk_rem hw (by omega) (by omega)) ?_
      refine rs_pair hC dX5_isRow_38 (t) rfl (by omega) ?_
      refine wd_ts (setR_up _ _ _ _ _) ?_
      refine wd_iload_n hC dX5_isRow_39 rfl rfl ?_
      refine wd_aload_n hC dX5_isRow_40 rfl rfl ?_
      refine gf_X5_13 hC dX5_isRow_41 ?_
      refine wd_iconst (v := 1) hC dX5_isRow_44 rfl ?_
      refine rl_many hC dX5_isRow_45 1 rfl (by decide) ?_
      refine wd_vi (show _ = nI nm from (by rw [many_set (by decide)]; exact hnm)) ?_
      refine wd_iconst (v := 1) hC dX5_isRow_46 rfl ?_
      refine wd_iadd hC dX5_isRow_47 ?_
      refine wd_vi (show _ = nI (nm + 1) from nI_add nm 1) ?_
      refine wd_idiv hC dX5_isRow_48 (nI_ne0 (by omega) (by omega)) ?_
      refine wd_vi (pk_div hw (by omega) (by omega)) ?_
      refine wd_istore_n_6_2 hC dX5_isRow_49 ?_
      refine wd_iload_n hC dX5_isRow_50 rfl rfl ?_
      refine wd_aload_n hC dX5_isRow_51 rfl rfl ?_
      refine gf_X5_56 hC dX5_isRow_52 ?_
      refine wd_iload hC dX5_isRow_55 rfl ?_
      refine rl_pair hC dX5_isRow_57 (t) rfl (by omega) ?_
      refine wd_vi (show _ = nI (w % (nm + 1)) from (by rw [setR_k]; exact if_pos rfl)) ?_
      refine wd_if_ne (tgt := 65) hC dX5_isRow_58 (by decide) (fun c_58 => ?_) (fun c_58 => ?_)
      · refine wd_iconst (v := 0) hC dX5_isRow_65 rfl ?_
        refine wd_iadd hC dX5_isRow_66 ?_
        refine wd_istore_n_6_3 hC dX5_isRow_67 ?_
        refine wd_iload hC dX5_isRow_68 rfl ?_
        refine wd_if_eq (tgt := 91) hC dX5_isRow_70 (by decide) (fun c_70 => ?_) (fun c_70 => ?_)
        · replace c_70 := bI_0.mp c_70
          refine wd_iconst (v := 0) hC dX5_isRow_91 rfl ?_
          refine wd_istore_6_4 hC dX5_isRow_92 ?_
          refine wd_iinc_6_5 hC dX5_isRow_94 (m1_of _) ?_
          refine wd_goto (tgt := 17) hC dX5_isRow_97 (by decide) ?_
          refine wd_is64 (show _ = bI ((z && decide (¬ nI (w % (nm + 1)) = nI t + 1)) = true) from (by first | exact hg_0 c_70 | exact hg_1 c_70 (fun h => h c_84) | exact hg_2 c_70 c_84)) ?_
          exact ih _ _ _ _ (by omega) (Nat.lt_of_le_of_lt (Nat.div_le_self _ _) hw) (by rw [← hf, rwL]; first | rw [if_pos c_58] | rw [if_neg c_58])
        · replace c_70 := bI_1.mp c_70
          refine wd_aload_n hC dX5_isRow_73 rfl rfl ?_
          refine gf_X5_56 hC dX5_isRow_74 ?_
          refine wd_iload hC dX5_isRow_77 rfl ?_
          refine rl_pair hC dX5_isRow_79 (t) rfl (by omega) ?_
          refine wd_vi (show _ = nI (w % (nm + 1)) from (by rw [setR_k]; exact if_pos rfl)) ?_
          refine wd_iload hC dX5_isRow_80 rfl ?_
          refine wd_iconst (v := 1) hC dX5_isRow_82 rfl ?_
          refine wd_iadd hC dX5_isRow_83 ?_
          refine wd_icmp_eq (tgt := 91) hC dX5_isRow_84 (by decide) (fun c_84 => ?_) (fun c_84 => ?_)
          · refine wd_iconst (v := 0) hC dX5_isRow_91 rfl ?_
            refine wd_istore_6_4 hC dX5_isRow_92 ?_
            refine wd_iinc_6_5 hC dX5_isRow_94 (m1_of _) ?_
            refine wd_goto (tgt := 17) hC dX5_isRow_97 (by decide) ?_
            refine wd_is64 (show _ = bI ((z && decide (¬ nI (w % (nm + 1)) = nI t + 1)) = true) from (by first | exact hg_0 c_70 | exact hg_1 c_70 (fun h => h c_84) | exact hg_2 c_70 c_84)) ?_
            exact ih _ _ _ _ (by omega) (Nat.lt_of_le_of_lt (Nat.div_le_self _ _) hw) (by rw [← hf, rwL]; first | rw [if_pos c_58] | rw [if_neg c_58])
          · refine wd_iconst (v := 1) hC dX5_isRow_87 rfl ?_
            refine wd_goto (tgt := 92) hC dX5_isRow_88 (by decide) ?_
            refine wd_istore_6_4 hC dX5_isRow_92 ?_
            refine wd_iinc_6_5 hC dX5_isRow_94 (m1_of _) ?_
            refine wd_goto (tgt := 17) hC dX5_isRow_97 (by decide) ?_
            refine wd_is64 (show _ = bI ((z && decide (¬ nI (w % (nm + 1)) = nI t + 1)) = true) from (by first | exact hg_0 c_70 | exact hg_1 c_70 (fun h => h c_84) | exact hg_2 c_70 c_84)) ?_
            exact ih _ _ _ _ (by omega) (Nat.lt_of_le_of_lt (Nat.div_le_self _ _) hw) (by rw [← hf, rwL]; first | rw [if_pos c_58] | rw [if_neg c_58])
      · refine wd_iconst (v := 1) hC dX5_isRow_61 rfl ?_
        refine wd_goto (tgt := 66) hC dX5_isRow_62 (by decide) ?_
        refine wd_iadd hC dX5_isRow_66 ?_
        refine wd_istore_n_6_3 hC dX5_isRow_67 ?_
        refine wd_iload hC dX5_isRow_68 rfl ?_
        refine wd_if_eq (tgt := 91) hC dX5_isRow_70 (by decide) (fun c_70 => ?_) (fun c_70 => ?_)
        · replace c_70 := bI_0.mp c_70
          refine wd_iconst (v := 0) hC dX5_isRow_91 rfl ?_
          refine wd_istore_6_4 hC dX5_isRow_92 ?_
          refine wd_iinc_6_5 hC dX5_isRow_94 (m1_of _) ?_
          refine wd_goto (tgt := 17) hC dX5_isRow_97 (by decide) ?_
          refine wd_is64 (show _ = bI ((z && decide (¬ nI (w % (nm + 1)) = nI t + 1)) = true) from (by first | exact hg_0 c_70 | exact hg_1 c_70 (fun h => h c_84) | exact hg_2 c_70 c_84)) ?_
          exact ih _ _ _ _ (by omega) (Nat.lt_of_le_of_lt (Nat.div_le_self _ _) hw) (by rw [← hf, rwL]; first | rw [if_pos c_58] | rw [if_neg c_58])
        · replace c_70 := bI_1.mp c_70
          refine wd_aload_n hC dX5_isRow_73 rfl rfl ?_
          refine gf_X5_56 hC dX5_isRow_74 ?_
          refine wd_iload hC dX5_isRow_77 rfl ?_
          refine rl_pair hC dX5_isRow_79 (t) rfl (by omega) ?_
          refine wd_vi (show _ = nI (w % (nm + 1)) from (by rw [setR_k]; exact if_pos rfl)) ?_
          refine wd_iload hC dX5_isRow_80 rfl ?_
          refine wd_iconst (v := 1) hC dX5_isRow_82 rfl ?_
          refine wd_iadd hC dX5_isRow_83 ?_
          refine wd_icmp_eq (tgt := 91) hC dX5_isRow_84 (by decide) (fun c_84 => ?_) (fun c_84 => ?_)
          · refine wd_iconst (v := 0) hC dX5_isRow_91 rfl ?_
            refine wd_istore_6_4 hC dX5_isRow_92 ?_
            refine wd_iinc_6_5 hC dX5_isRow_94 (m1_of _) ?_
            refine wd_goto (tgt := 17) hC dX5_isRow_97 (by decide) ?_
            refine wd_is64 (show _ = bI ((z && decide (¬ nI (w % (nm + 1)) = nI t + 1)) = true) from (by first | exact hg_0 c_70 | exact hg_1 c_70 (fun h => h c_84) | exact hg_2 c_70 c_84)) ?_
            exact ih _ _ _ _ (by omega) (Nat.lt_of_le_of_lt (Nat.div_le_self _ _) hw) (by rw [← hf, rwL]; first | rw [if_pos c_58] | rw [if_neg c_58])
          · refine wd_iconst (v := 1) hC dX5_isRow_87 rfl ?_
            refine wd_goto (tgt := 92) hC dX5_isRow_88 (by decide) ?_
            refine wd_istore_6_4 hC dX5_isRow_92 ?_
            refine wd_iinc_6_5 hC dX5_isRow_94 (m1_of _) ?_
            refine wd_goto (tgt := 17) hC dX5_isRow_97 (by decide) ?_
            refine wd_is64 (show _ = bI ((z && decide (¬ nI (w % (nm + 1)) = nI t + 1)) = true) from (by first | exact hg_0 c_70 | exact hg_1 c_70 (fun h => h c_84) | exact hg_2 c_70 c_84)) ?_
            exact ih _ _ _ _ (by omega) (Nat.lt_of_le_of_lt (Nat.div_le_self _ _) hw) (by rw [← hf, rwL]; first | rw [if_pos c_58] | rw [if_neg c_58])
  refine wd_iload_n hC dX5_isRow_0 rfl rfl ?_
  refine wd_istore_n_6_2 hC dX5_isRow_1 ?_
  refine wd_iconst (v := 0) hC dX5_isRow_2 rfl ?_
  refine wd_istore_n_6_3 hC dX5_isRow_3 ?_
  refine wd_iconst (v := 1) hC dX5_isRow_4 rfl ?_
  refine wd_istore_6_4 hC dX5_isRow_5 ?_
  refine wd_aload_n hC dX5_isRow_7 rfl rfl ?_
  refine gf_X5_13 hC dX5_isRow_8 ?_
  refine wd_iconst (v := 1) hC dX5_isRow_11 rfl ?_
  refine rl_many hC dX5_isRow_12 1 rfl (by decide) ?_
  refine wd_vi hnm ?_
  refine wd_iconst (v := 1) hC dX5_isRow_13 rfl ?_
  refine wd_isub hC dX5_isRow_14 ?_
  refine wd_istore_6_5 hC dX5_isRow_15 ?_
  refine wd_ts (setR_self σ 16).symm ?_
  refine wd_is64 (bI_t (p := true = true) rfl) ?_
  subst hx
  exact loop nm wy _ _ _ (Nat.le_refl _) hwy hF

/-! ===== the reference: items ===== -/
theorem upW_o (σ : wd_S) {k a : Nat} (h : a ≠ k) (i : Nat) (v : Int32) : (wd_up σ k i v).1 a = σ.1 a := by
  funext j
  show (if a = k ∧ j = i then v else σ.1 a j) = _
  exact if_neg (fun q => h q.1)
/-- the object, the text and the counts are as they were -/
def kpR (σ σ' : wd_S) : Prop := ∀ a, a ≤ 2 → σ'.1 a = σ.1 a
theorem kpR_rf (σ : wd_S) : kpR σ σ := fun _ _ => rfl
theorem kpR_up {σ σ' : wd_S} (h : kpR σ σ') {k : Nat} (hk : 2 < k) (i : Nat) (v : Int32) : kpR σ (wd_up σ' k i v) := fun a ha => by rw [upW_o σ' (by omega), h a ha]
def crW (σ : wd_S) (c : Nat) (w v : Int32) : wd_S := wd_up (wd_up (wd_up σ 3 (3 + c) w) 4 (3 + c) v) 2 2 (nI (c + 1))
abbrev nE19 (L : Nat → Int32) (n : Nat) (e : Except Nat Nat) : Int32 × Except Nat Nat := numE L n 1 9 e
def yRs (L : Nat → Int32) (n m j : Nat) (s : wd_S × Except Nat Nat) : wd_S × Except Nat Nat := (wd_up s.1 8 (3 * (6 + m) + j) (numE L n 0 40 s.2).1, (numE L n 0 40 s.2).2)
def mnA (L : Nat → Int32) (n : Nat) (σ : wd_S) (m : Nat) (e : Except Nat Nat) : wd_S × Except Nat Nat := (wd_up (wd_up (wd_up σ 5 (6 + m) (numE L n 1 20 e).1) 6 (6 + m) (numE L n 0 9 (numE L n 1 20 e).2).1) 7 (6 + m) (numE L n 0 99 (numE L n 0 9 (numE L n 1 20 e).2).2).1, (numE L n 0 99 (numE L n 0 9 (numE L n 1 20 e).2).2).2)
def mnB (L : Nat → Int32) (n : Nat) (σ : wd_S) (c m : Nat) (e : Except Nat Nat) : wd_S × Except Nat Nat := itr (yRs L n m) (mnA L n σ m e) c

set_option maxRecDepth 100000 in
set_option maxHeartbeats 4000000 in
theorem r_item_c {V : wd_V} {ad : Nat → Nat} (hinj : wd_inj rS ad) (σ : wd_S) (L : Nat → Int32) (hL : σ.1 1 = L) (n : Nat) (hn : σ.1 0 3 = nI n) (hn2 : n ≤ 200) (hL0 : ∀ i, i < n → 0 ≤ L i) (e : Except Nat Nat) (τ : wd_S) (hτ : rSt L n σ e τ) (c : Nat) (hc : σ.1 2 2 = nI c) (hc3 : c < 3) : wd_C rS V ad 4 yX5_readsItem (Cond.code yX5_readsItem cX5_readsItem 4 none :: wsL_law) τ [.ref (ad 0), .int 99] (wd_pv (fun σ' => rSt L n (crW σ c (nE19 L n e).1 (nE19 L n (nE19 L n e).2).1) (nE19 L n (nE19 L n e).2).2 σ')) := by
  refine wd_intro (lv := [some (.ref (ad 0)), some (.int 99), none, none]) hinj (by decide) rfl (Nat.le_of_ble_eq_true rfl) rfl (Nat.le_of_ble_eq_true rfl) (fun K hC => ?_)
  refine wd_iload_n hC dX5_readsItem_0 rfl rfl ?_
  refine wd_bipush (v := 99) hC dX5_readsItem_1 rfl ?_
  refine wd_icmp_ne (tgt := 59) hC dX5_readsItem_3 (by decide) (fun c_3 => absurd rfl c_3) (fun c_3 => ?_)
  refine wd_aload_n hC dX5_readsItem_6 rfl rfl ?_
  refine gf_X5_16 hC dX5_readsItem_7 ?_
  refine wd_iconst (v := 3) hC dX5_readsItem_10 rfl ?_
  refine wd_aload_n hC dX5_readsItem_11 rfl rfl ?_
  refine gf_X5_13 hC dX5_readsItem_12 ?_
  refine wd_iconst (v := 2) hC dX5_readsItem_15 rfl ?_
  refine rl_many hC dX5_readsItem_16 2 rfl (by decide) ?_
  refine wd_vi (show _ = nI c from (by rw [rSt_o hτ (by decide)]; exact hc)) ?_
  refine wd_iadd hC dX5_readsItem_17 ?_
  refine wd_aload_n hC dX5_readsItem_18 rfl rfl ?_
  refine wd_iconst (v := 1) hC dX5_readsItem_19 rfl ?_
  refine wd_bipush (v := 9) hC dX5_readsItem_20 rfl ?_
  refine cv5iP hC cw_X5_103 (r_number hinj (σ) L (by rw [(kpR_rf σ) 1 (by decide)]; exact hL) n (by rw [(kpR_rf σ) 0 (by decide)]; exact hn) hn2 hL0 e _ hτ _ _) dX5_readsItem_22 (by first | decide | omega) (by decide) rfl rfl (Nat.le_of_ble_eq_true rfl) (fun r_22 σ_22 h_22 => ?_)
  obtain ⟨rfl, q1⟩ := h_22
  refine rs_weight hC dX5_readsItem_25 (3 + c) (addI rfl 3) (by omega) ?_
  have q2 : rSt L n (wd_up σ 3 (3 + c) (nE19 L n e).1) (nE19 L n e).2 _ := rSt_up q1 (k := 3) (by decide) (3 + c) _
  refine wd_aload_n hC dX5_readsItem_26 rfl rfl ?_
  refine gf_X5_19 hC dX5_readsItem_27 ?_
  refine wd_iconst (v := 3) hC dX5_readsItem_30 rfl ?_
  refine wd_aload_n hC dX5_readsItem_31 rfl rfl ?_
  refine gf_X5_13 hC dX5_readsItem_32 ?_
  refine wd_iconst (v := 2) hC dX5_readsItem_35 rfl ?_
  refine rl_many hC dX5_readsItem_36 2 rfl (by decide) ?_
  refine wd_vi (show _ = nI c from (by rw [rSt_o q2 (by decide)]; exact hc)) ?_
  refine wd_iadd hC dX5_readsItem_37 ?_
  refine wd_aload_n hC dX5_readsItem_38 rfl rfl ?_
  refine wd_iconst (v := 1) hC dX5_readsItem_39 rfl ?_
  refine wd_bipush (v := 9) hC dX5_readsItem_40 rfl ?_
  refine cv5iP hC cw_X5_103 (r_number hinj ((wd_up σ 3 (3 + c) (nE19 L n e).1)) L (by rw [(kpR_up (kpR_rf σ) (by decide) _ _ : kpR σ (wd_up σ 3 (3 + c) (nE19 L n e).1)) 1 (by decide)]; exact hL) n (by rw [(kpR_up (kpR_rf σ) (by decide) _ _ : kpR σ (wd_up σ 3 (3 + c) (nE19 L n e).1)) 0 (by decide)]; exact hn) hn2 hL0 (nE19 L n e).2 _ q2 _ _) dX5_readsItem_42 (by first | decide | omega) (by decide) rfl rfl (Nat.le_of_ble_eq_true rfl) (fun r_42 σ_42 h_42 => ?_)
  obtain ⟨rfl, q3⟩ := h_42
  refine rs_worth hC dX5_readsItem_45 (3 + c) (addI rfl 3) (by omega) ?_
  have q4 : rSt L n (wd_up (wd_up σ 3 (3 + c) (nE19 L n e).1) 4 (3 + c) (nE19 L n (nE19 L n e).2).1) (nE19 L n (nE19 L n e).2).2 _ := rSt_up q3 (k := 4) (by decide) (3 + c) _
  refine wd_aload_n hC dX5_readsItem_46 rfl rfl ?_
  refine gf_X5_13 hC dX5_readsItem_47 ?_
  refine wd_iconst (v := 2) hC dX5_readsItem_50 rfl ?_
  refine wd_dup2 hC dX5_readsItem_51 rfl rfl ?_
  refine rl_many hC dX5_readsItem_52 2 rfl (by decide) ?_
  refine wd_vi (show _ = nI c from (by rw [rSt_o q4 (by decide)]; exact hc)) ?_
  refine wd_iconst (v := 1) hC dX5_readsItem_53 rfl ?_
  refine wd_iadd hC dX5_readsItem_54 ?_
  refine wd_vi (nI_add c 1) ?_
  refine rs_many hC dX5_readsItem_55 2 rfl (by decide) ?_
  refine wd_goto (tgt := 153) hC dX5_readsItem_56 (by decide) ?_
  exact wd_vretP hC rfl dX5_readsItem_153 (⟨rfl, rSt_up q4 (k := 2) (by decide) 2 _⟩)
set_option maxRecDepth 100000 in
set_option maxHeartbeats 4000000 in
theorem r_item_m {V : wd_V} {ad : Nat → Nat} (hinj : wd_inj rS ad) (σ : wd_S) (L : Nat → Int32) (hL : σ.1 1 = L) (n : Nat) (hn : σ.1 0 3 = nI n) (hn2 : n ≤ 200) (hL0 : ∀ i, i < n → 0 ≤ L i) (e : Except Nat Nat) (τ : wd_S) (hτ : rSt L n σ e τ) (c m : Nat) (hc : σ.1 2 2 = nI c) (hc3 : c ≤ 3) (hm : σ.1 2 3 = nI m) (hm6 : m < 6) (x : Int32) (hx : ¬ x = 99) : wd_C rS V ad 4 yX5_readsItem (Cond.code yX5_readsItem cX5_readsItem 4 none :: wsL_law) τ [.ref (ad 0), .int x] (wd_pv (fun σ' => rSt L n (wd_up (mnB L n σ c m e).1 2 3 (nI (m + 1))) (mnB L n σ c m e).2 σ')) := by
  refine wd_intro (lv := [some (.ref (ad 0)), some (.int x), none, none]) hinj (by decide) rfl (Nat.le_of_ble_eq_true rfl) rfl (Nat.le_of_ble_eq_true rfl) (fun K hC => ?_)
  have loop : ∀ (k j : Nat) (sj tj : wd_S) (ej : Except Nat Nat), j ≤ c → c < j + k → kpR σ sj → rSt L n sj ej tj → itr (yRs L n m) (mnA L n σ m e) j = (sj, ej) → wd_G rS V ad K 4 (wd_Qm rS V ad K (wd_pv (fun σ' => rSt L n (wd_up (mnB L n σ c m e).1 2 3 (nI (m + 1))) (mnB L n σ c m e).2 σ'))) 110 [some (.ref (ad 0)), some (.int x), some (.int (nI (6 + m))), some (.int (nI j))] [] tj := by
    intro k
    induction k with
    | zero =>
      intro j sj tj ej h1 h2 hkp hτj hst
      exact absurd h2 (by omega)
    | succ k ih =>
      intro j sj tj ej h1 h2 hkp hτj hst
      refine wd_iload_n hC dX5_readsItem_110 rfl rfl ?_
      refine wd_aload_n hC dX5_readsItem_111 rfl rfl ?_
      refine gf_X5_13 hC dX5_readsItem_112 ?_
      refine wd_iconst (v := 2) hC dX5_readsItem_115 rfl ?_
      refine rl_many hC dX5_readsItem_116 2 rfl (by decide) ?_
      refine wd_vi (show _ = nI c from (by rw [rSt_o hτj (by decide), hkp 2 (by decide)]; exact hc)) ?_
      refine wd_icmp_ge (tgt := 143) hC dX5_readsItem_117 (by decide) (fun c_117 => ?_) (fun c_117 => ?_)
      · have hin : _ = j := (lp_ge (n := c) rfl c_117 h1 (by omega)).symm
        subst hin
        have hB : (mnB L n σ c m e) = (sj, ej) := hst
        refine wd_aload_n hC dX5_readsItem_143 rfl rfl ?_
        refine gf_X5_13 hC dX5_readsItem_144 ?_
        refine wd_iconst (v := 3) hC dX5_readsItem_147 rfl ?_
        refine wd_dup2 hC dX5_readsItem_148 rfl rfl ?_
        refine rl_many hC dX5_readsItem_149 3 rfl (by decide) ?_
        refine wd_vi (show _ = nI m from (by rw [rSt_o hτj (by decide), hkp 2 (by decide)]; exact hm)) ?_
        refine wd_iconst (v := 1) hC dX5_readsItem_150 rfl ?_
        refine wd_iadd hC dX5_readsItem_151 ?_
        refine wd_vi (nI_add m 1) ?_
        refine rs_many hC dX5_readsItem_152 3 rfl (by decide) ?_
        exact wd_vretP hC rfl dX5_readsItem_153 (⟨rfl, (by rw [hB]; exact rSt_up hτj (k := 2) (by decide) 3 _)⟩)
      · have hin : j < c := lp_lt (n := c) rfl c_117 h1 (by omega)
        refine wd_aload_n hC dX5_readsItem_120 rfl rfl ?_
        refine gf_X5_31 hC dX5_readsItem_121 ?_
        refine wd_iconst (v := 3) hC dX5_readsItem_124 rfl ?_
        refine wd_iload_n hC dX5_readsItem_125 rfl rfl ?_
        refine wd_imul hC dX5_readsItem_126 ?_
        refine wd_iload_n hC dX5_readsItem_127 rfl rfl ?_
        refine wd_iadd hC dX5_readsItem_128 ?_
        refine wd_aload_n hC dX5_readsItem_129 rfl rfl ?_
        refine wd_iconst (v := 0) hC dX5_readsItem_130 rfl ?_
        refine wd_bipush (v := 40) hC dX5_readsItem_131 rfl ?_
        refine cv5iP hC cw_X5_103 (r_number hinj sj L (by rw [hkp 1 (by decide)]; exact hL) n (by rw [hkp 0 (by decide)]; exact hn) hn2 hL0 ej _ hτj _ _) dX5_readsItem_133 (by first | decide | omega) (by decide) rfl rfl (Nat.le_of_ble_eq_true rfl) (fun r_133 σ_133 h_133 => ?_)
        obtain ⟨rfl, q1⟩ := h_133
        refine rs_yields hC dX5_readsItem_136 ((3 * (6 + m)) + j) (addN (mulI rfl 3) rfl) (by omega) ?_
        refine wd_iincN_4_3 hC dX5_readsItem_137 ?_
        refine wd_goto (tgt := 110) hC dX5_readsItem_140 (by decide) ?_
        exact ih (j + 1) _ _ _ (by omega) (by omega) (kpR_up hkp (k := 8) (by decide) (3 * (6 + m) + j) _) (rSt_up q1 (k := 8) (by decide) (3 * (6 + m) + j) _) (by rw [itr, hst]; rfl)
  refine wd_iload_n hC dX5_readsItem_0 rfl rfl ?_
  refine wd_bipush (v := 99) hC dX5_readsItem_1 rfl ?_
  refine wd_icmp_ne (tgt := 59) hC dX5_readsItem_3 (by decide) (fun c_3 => ?_) (fun c_3 => absurd c_3 hx)
  refine wd_bipush (v := 6) hC dX5_readsItem_59 rfl ?_
  refine wd_aload_n hC dX5_readsItem_61 rfl rfl ?_
  refine gf_X5_13 hC dX5_readsItem_62 ?_
  refine wd_iconst (v := 3) hC dX5_readsItem_65 rfl ?_
  refine rl_many hC dX5_readsItem_66 3 rfl (by decide) ?_
  refine wd_vi (show _ = nI m from (by rw [rSt_o hτ (by decide)]; exact hm)) ?_
  refine wd_iadd hC dX5_readsItem_67 ?_
  refine wd_vi (show _ = nI (6 + m) from nI_add 6 m) ?_
  refine wd_istore_n_4_2 hC dX5_readsItem_68 ?_
  refine wd_aload_n hC dX5_readsItem_69 rfl rfl ?_
  refine gf_X5_22 hC dX5_readsItem_70 ?_
  refine wd_iload_n hC dX5_readsItem_73 rfl rfl ?_
  refine wd_aload_n hC dX5_readsItem_74 rfl rfl ?_
  refine wd_iconst (v := 1) hC dX5_readsItem_75 rfl ?_
  refine wd_bipush (v := 20) hC dX5_readsItem_76 rfl ?_
  refine cv5iP hC cw_X5_103 (r_number hinj (σ) L (by rw [(kpR_rf σ) 1 (by decide)]; exact hL) n (by rw [(kpR_rf σ) 0 (by decide)]; exact hn) hn2 hL0 e _ hτ _ _) dX5_readsItem_78 (by first | decide | omega) (by decide) rfl rfl (Nat.le_of_ble_eq_true rfl) (fun r_78 σ_78 h_78 => ?_)
  obtain ⟨rfl, q1⟩ := h_78
  refine rs_strong hC dX5_readsItem_81 (6 + m) rfl (by omega) ?_
  have q2 : rSt L n (wd_up σ 5 (6 + m) (numE L n 1 20 e).1) (numE L n 1 20 e).2 _ := rSt_up q1 (k := 5) (by decide) (6 + m) _
  refine wd_aload_n hC dX5_readsItem_82 rfl rfl ?_
  refine gf_X5_25 hC dX5_readsItem_83 ?_
  refine wd_iload_n hC dX5_readsItem_86 rfl rfl ?_
  refine wd_aload_n hC dX5_readsItem_87 rfl rfl ?_
  refine wd_iconst (v := 0) hC dX5_readsItem_88 rfl ?_
  refine wd_bipush (v := 9) hC dX5_readsItem_89 rfl ?_
  refine cv5iP hC cw_X5_103 (r_number hinj ((wd_up σ 5 (6 + m) (numE L n 1 20 e).1)) L (by rw [(kpR_up (kpR_rf σ) (by decide) _ _ : kpR σ (wd_up σ 5 (6 + m) (numE L n 1 20 e).1)) 1 (by decide)]; exact hL) n (by rw [(kpR_up (kpR_rf σ) (by decide) _ _ : kpR σ (wd_up σ 5 (6 + m) (numE L n 1 20 e).1)) 0 (by decide)]; exact hn) hn2 hL0 (numE L n 1 20 e).2 _ q2 _ _) dX5_readsItem_91 (by first | decide | omega) (by decide) rfl rfl (Nat.le_of_ble_eq_true rfl) (fun r_91 σ_91 h_91 => ?_)
  obtain ⟨rfl, q3⟩ := h_91
  refine rs_legs hC dX5_readsItem_94 (6 + m) rfl (by omega) ?_
  have q4 : rSt L n (wd_up (wd_up σ 5 (6 + m) (numE L n 1 20 e).1) 6 (6 + m) (numE L n 0 9 (numE L n 1 20 e).2).1) (numE L n 0 9 (numE L n 1 20 e).2).2 _ := rSt_up q3 (k := 6) (by decide) (6 + m) _
  refine wd_aload_n hC dX5_readsItem_95 rfl rfl ?_
  refine gf_X5_28 hC dX5_readsItem_96 ?_
  refine wd_iload_n hC dX5_readsItem_99 rfl rfl ?_
  refine wd_aload_n hC dX5_readsItem_100 rfl rfl ?_
  refine wd_iconst (v := 0) hC dX5_readsItem_101 rfl ?_
  refine wd_bipush (v := 99) hC dX5_readsItem_102 rfl ?_
  refine cv5iP hC cw_X5_103 (r_number hinj ((wd_up (wd_up σ 5 (6 + m) (numE L n 1 20 e).1) 6 (6 + m) (numE L n 0 9 (numE L n 1 20 e).2).1)) L (by rw [(kpR_up (kpR_up (kpR_rf σ) (by decide) _ _ : kpR σ (wd_up σ 5 (6 + m) (numE L n 1 20 e).1)) (by decide) _ _ : kpR σ (wd_up (wd_up σ 5 (6 + m) (numE L n 1 20 e).1) 6 (6 + m) (numE L n 0 9 (numE L n 1 20 e).2).1)) 1 (by decide)]; exact hL) n (by rw [(kpR_up (kpR_up (kpR_rf σ) (by decide) _ _ : kpR σ (wd_up σ 5 (6 + m) (numE L n 1 20 e).1)) (by decide) _ _ : kpR σ (wd_up (wd_up σ 5 (6 + m) (numE L n 1 20 e).1) 6 (6 + m) (numE L n 0 9 (numE L n 1 20 e).2).1)) 0 (by decide)]; exact hn) hn2 hL0 (numE L n 0 9 (numE L n 1 20 e).2).2 _ q4 _ _) dX5_readsItem_104 (by first | decide | omega) (by decide) rfl rfl (Nat.le_of_ble_eq_true rfl) (fun r_104 σ_104 h_104 => ?_)
  obtain ⟨rfl, q5⟩ := h_104
  refine rs_needs hC dX5_readsItem_107 (6 + m) rfl (by omega) ?_
  have q6 : rSt L n (wd_up (wd_up (wd_up σ 5 (6 + m) (numE L n 1 20 e).1) 6 (6 + m) (numE L n 0 9 (numE L n 1 20 e).2).1) 7 (6 + m) (numE L n 0 99 (numE L n 0 9 (numE L n 1 20 e).2).2).1) (numE L n 0 99 (numE L n 0 9 (numE L n 1 20 e).2).2).2 _ := rSt_up q5 (k := 7) (by decide) (6 + m) _
  refine wd_iconst (v := 0) hC dX5_readsItem_108 rfl ?_
  refine wd_istore_n_4_3 hC dX5_readsItem_109 ?_
  exact loop (c + 1) 0 (wd_up (wd_up (wd_up σ 5 (6 + m) (numE L n 1 20 e).1) 6 (6 + m) (numE L n 0 9 (numE L n 1 20 e).2).1) 7 (6 + m) (numE L n 0 99 (numE L n 0 9 (numE L n 1 20 e).2).2).1) _ (numE L n 0 99 (numE L n 0 9 (numE L n 1 20 e).2).2).2 (Nat.zero_le _) (by omega) (kpR_up (kpR_up (kpR_up (kpR_rf σ) (by decide) _ _ : kpR σ (wd_up σ 5 (6 + m) (numE L n 1 20 e).1)) (by decide) _ _ : kpR σ (wd_up (wd_up σ 5 (6 + m) (numE L n 1 20 e).1) 6 (6 + m) (numE L n 0 9 (numE L n 1 20 e).2).1)) (by decide) _ _ : kpR σ (wd_up (wd_up (wd_up σ 5 (6 + m) (numE L n 1 20 e).1) 6 (6 + m) (numE L n 0 9 (numE L n 1 20 e).2).1) 7 (6 + m) (numE L n 0 99 (numE L n 0 9 (numE L n 1 20 e).2).2).1)) q6 rfl

/-! ===== the reference: valley ===== -/
abbrev cN (s : wd_S) : Nat := (s.1 2 2).toNatClampNeg
abbrev mN (s : wd_S) : Nat := (s.1 2 3).toNatClampNeg
def crE (L : Nat → Int32) (n : Nat) (s : wd_S) (b : Nat) : wd_S × Except Nat Nat := (crW s (cN s) (nE19 L n (.ok b)).1 (nE19 L n (nE19 L n (.ok b)).2).1, (nE19 L n (nE19 L n (.ok b)).2).2)
def mnE (L : Nat → Int32) (n : Nat) (s : wd_S) (b : Nat) : wd_S × Except Nat Nat := (wd_up (mnB L n s (cN s) (mN s) (.ok b)).1 2 3 (nI (mN s + 1)), (mnB L n s (cN s) (mN s) (.ok b)).2)
abbrev cnC (L : Nat → Int32) (n : Nat) (s : wd_S) (b : Nat) : Prop := (nextT L n b 0).1 = 1 ∧ ¬ (3 : Int32) ≤ s.1 2 2 ∧ s.1 2 3 = 0
abbrev cnM (L : Nat → Int32) (n : Nat) (s : wd_S) (b : Nat) : Prop := (nextT L n b 0).1 = 2 ∧ ¬ s.1 2 2 ≤ 0 ∧ ¬ (6 : Int32) ≤ s.1 2 3
def vIt (L : Nat → Int32) (n : Nat) (s : wd_S) (b : Nat) : Option (wd_S × Except Nat Nat) :=
  if (nextT L n b 0).1 = 0 then none
  else if cnC L n s b then some ((crE L n s (nextT L n b 0).2.2.1).1, stpE L n (crE L n s (nextT L n b 0).2.2.1).2)
  else if cnM L n s b then some ((mnE L n s (nextT L n b 0).2.2.1).1, stpE L n (mnE L n s (nextT L n b 0).2.2.1).2)
  else some (s, .error (nextT L n b 0).2.1)
def itR (L : Nat → Int32) (n : Nat) : Nat → wd_S → Nat → Nat → Except Nat Nat × wd_S
  | 0, s, _, i => (.ok i, s)
  | k + 1, s, b, i => match vIt L n s b with
    | none => (.ok i, s)
    | some (s', .ok b') => itR L n k s' b' (i + 1)
    | some (s', .error f) => (.error f, s')
theorem itR_n {L : Nat → Int32} {n k : Nat} {s : wd_S} {b i : Nat} (h : vIt L n s b = none) : itR L n (k + 1) s b i = (.ok i, s) := by rw [itR, h]
theorem itR_k {L : Nat → Int32} {n k : Nat} {s s' : wd_S} {b i b' : Nat} (h : vIt L n s b = some (s', .ok b')) : itR L n (k + 1) s b i = itR L n k s' b' (i + 1) := by rw [itR, h]
theorem itR_e {L : Nat → Int32} {n k : Nat} {s s' : wd_S} {b i f : Nat} (h : vIt L n s b = some (s', .error f)) : itR L n (k + 1) s b i = (.error f, s') := by rw [itR, h]
def geE (b : Nat) (e : Except Nat Nat) : Prop := ∀ b', e = .ok b' → b ≤ b'
theorem nextT_ge (L : Nat → Int32) (n b : Nat) (q : Int32) : b ≤ (nextT L n b q).2.2.1 := by
  have h := (skipB_le L (n - b) b).1
  unfold nextT
  by_cases h1 : skipB L (n - b) b < n
  · rw [if_pos h1]
    by_cases h2 : pDig (L (skipB L (n - b) b))
    · rw [if_pos h2]
      have := (numL_le L (n - skipB L (n - b) b) (skipB L (n - b) b) 0).1
      exact Nat.le_trans h this
    · rw [if_neg h2]
      exact Nat.le_succ_of_le h
  · rw [if_neg h1]
    exact h
theorem nextT_gt (L : Nat → Int32) {n b : Nat} {q : Int32} (h0 : (nextT L n b q).1 = 1 ∨ (nextT L n b q).1 = 2) : b < (nextT L n b q).2.2.1 := by
  have h := (skipB_le L (n - b) b).1
  unfold nextT at h0 ⊢
  by_cases h1 : skipB L (n - b) b < n
  · rw [if_pos h1] at h0 ⊢
    by_cases h2 : pDig (L (skipB L (n - b) b))
    · rw [if_pos h2] at h0
      exfalso
      revert h0
      show tokN _ _ _ _ = 1 ∨ tokN _ _ _ _ = 2 → False
      unfold tokN
      split
      · decide
      · decide
    · rw [if_neg h2]
      exact Nat.lt_succ_of_le h
  · rw [if_neg h1] at h0
    exact absurd h0 (by show ¬ ((0 : Int32) = 1 ∨ (0 : Int32) = 2); decide)
theorem numE_ge {L : Nat → Int32} {n b : Nat} {lo hi : Int32} {e : Except Nat Nat} (h : geE b e) : geE b (numE L n lo hi e).2 := by
  cases e with
  | error f => exact fun b' q => nomatch q
  | ok a =>
    have ha := h a rfl
    intro b' q
    unfold numE numP at q
    by_cases c : (nextT L n a 0).1 = 3 ∧ lo ≤ (nextT L n a 0).2.2.2 ∧ (nextT L n a 0).2.2.2 ≤ hi
    · simp only [if_pos c] at q
      injection q with q
      exact q ▸ Nat.le_trans ha (nextT_ge L n a 0)
    · simp only [if_neg c] at q
      exact nomatch q
theorem stpE_ge {L : Nat → Int32} {n b : Nat} {e : Except Nat Nat} (h : geE b e) : geE b (stpE L n e) := by
  cases e with
  | error f => exact fun b' q => nomatch q
  | ok a =>
    have ha := h a rfl
    intro b' q
    unfold stpE stopP at q
    by_cases c : (nextT L n a 0).1 = 4
    · simp only [if_pos c] at q
      injection q with q
      exact q ▸ Nat.le_trans ha (nextT_ge L n a 0)
    · simp only [if_neg c] at q
      exact nomatch q
theorem crE_ge (L : Nat → Int32) (n : Nat) (s : wd_S) (b : Nat) : geE b (crE L n s b).2 := numE_ge (numE_ge (fun _ q => by injection q with q; exact Nat.le_of_eq q))
theorem yRs_ge {L : Nat → Int32} {n m b : Nat} {p : wd_S × Except Nat Nat} (h : geE b p.2) (c : Nat) : geE b (itr (yRs L n m) p c).2 := by
  induction c with
  | zero => exact h
  | succ c ih => rw [itr]; exact numE_ge ih
theorem mnE_ge (L : Nat → Int32) (n : Nat) (s : wd_S) (b : Nat) : geE b (mnE L n s b).2 := yRs_ge (numE_ge (numE_ge (numE_ge (fun _ q => by injection q with q; exact Nat.le_of_eq q)))) _
theorem mnB_kp (L : Nat → Int32) (n : Nat) (s : wd_S) (c m : Nat) (e : Except Nat Nat) : kpR s (mnB L n s c m e).1 := by
  unfold mnB
  induction c with
  | zero => exact kpR_up (kpR_up (kpR_up (kpR_rf s) (by decide) _ _) (by decide) _ _) (by decide) _ _
  | succ c ih => rw [itr]; exact kpR_up ih (by decide) _ _
/-- the base of the reader: the object and the text as before, the counts in their bounds -/
def bOk (σ : wd_S) (L : Nat → Int32) (s : wd_S) (c m : Nat) : Prop := s.1 0 = σ.1 0 ∧ s.1 1 = L ∧ s.1 2 2 = nI c ∧ s.1 2 3 = nI m ∧ c ≤ 3 ∧ m ≤ 6
theorem bOk_c {σ : wd_S} {L : Nat → Int32} {s : wd_S} {c m : Nat} (h : bOk σ L s c m) : cN s = c := pk_cl c h.2.2.1 (by have := h.2.2.2.2.1; omega)
theorem bOk_m {σ : wd_S} {L : Nat → Int32} {s : wd_S} {c m : Nat} (h : bOk σ L s c m) : mN s = m := pk_cl m h.2.2.2.1 (by have := h.2.2.2.2.2; omega)
theorem bOk_cr {σ : wd_S} {L : Nat → Int32} {s : wd_S} {c m : Nat} (h : bOk σ L s c m) (hc : c < 3) (w v : Int32) : bOk σ L (crW s c w v) (c + 1) m := by
  unfold crW
  refine ⟨?_, ?_, ?_, ?_, by omega, h.2.2.2.2.2⟩
  · rw [upW_o _ (by decide), upW_o _ (by decide), upW_o _ (by decide)]; exact h.1
  · rw [upW_o _ (by decide), upW_o _ (by decide), upW_o _ (by decide)]; exact h.2.1
  · rw [wd_up_k]; exact if_pos rfl
  · rw [wd_up_o (by decide), upW_o _ (by decide), upW_o _ (by decide)]; exact h.2.2.2.1
theorem bOk_mn {σ : wd_S} {L : Nat → Int32} {s s' : wd_S} {c m : Nat} (h : bOk σ L s c m) (hk : kpR s s') (hm : m < 6) : bOk σ L (wd_up s' 2 3 (nI (m + 1))) c (m + 1) := by
  refine ⟨?_, ?_, ?_, ?_, h.2.2.2.2.1, by omega⟩
  · rw [upW_o _ (by decide), hk 0 (by decide)]; exact h.1
  · rw [upW_o _ (by decide), hk 1 (by decide)]; exact h.2.1
  · rw [wd_up_o (by decide), hk 2 (by decide)]; exact h.2.2.1
  · rw [wd_up_k]; exact if_pos rfl

set_option maxRecDepth 100000 in
set_option maxHeartbeats 4000000 in
theorem r_valley {V : wd_V} {ad : Nat → Nat} (hinj : wd_inj rS ad) (σ : wd_S) (h0 : σ.1 0 0 = 0) (L : Nat → Int32) (hL : σ.1 1 = L) (n : Nat) (hn : σ.1 0 3 = nI n) (hn2 : n ≤ 200) (hL0 : ∀ i, i < n → 0 ≤ L i)  : wd_C rS V ad 5 yX5_valley (Cond.code yX5_valley cX5_valley 3 (some .int) :: wsL_law) σ [.ref (ad 0)] (wd_pi (fun r σ' => (∃ it s' nx tk pl v m, itR L n (n + 1) (wd_up (wd_up σ 2 2 0) 2 3 0) 0 0 = (.ok it, s') ∧ r = nI it ∧ s'.1 2 3 = nI m ∧ m ≤ 6 ∧ σ' = seW (aW s' nx tk pl v (-1)) m) ∨ (∃ f s' nx tk pl v, itR L n (n + 1) (wd_up (wd_up σ 2 2 0) 2 3 0) 0 0 = (.error f, s') ∧ f ≤ n ∧ r = -10 - nI f ∧ σ' = aW s' nx tk pl v (nI f)))) := by
  refine wd_intro (lv := [some (.ref (ad 0)), none, none]) hinj (by decide) rfl (Nat.le_of_ble_eq_true rfl) rfl (Nat.le_of_ble_eq_true rfl) (fun K hC => ?_)
  have exitF : ∀ (i : Nat) (o2 : Option Value) (s : wd_S) (nx tk pl v : Int32) (g : Nat), g ≤ n → itR L n (n + 1) (wd_up (wd_up σ 2 2 0) 2 3 0) 0 0 = (.error g, s) → wd_G rS V ad K 3 (wd_Qm rS V ad K (wd_pi (fun r σ' => (∃ it s' nx tk pl v m, itR L n (n + 1) (wd_up (wd_up σ 2 2 0) 2 3 0) 0 0 = (.ok it, s') ∧ r = nI it ∧ s'.1 2 3 = nI m ∧ m ≤ 6 ∧ σ' = seW (aW s' nx tk pl v (-1)) m) ∨ (∃ f s' nx tk pl v, itR L n (n + 1) (wd_up (wd_up σ 2 2 0) 2 3 0) 0 0 = (.error f, s') ∧ f ≤ n ∧ r = -10 - nI f ∧ σ' = aW s' nx tk pl v (nI f))))) 35 [some (.ref (ad 0)), some (.int (nI i)), o2] [] (aW s nx tk pl v (nI g)) := by
    intro i o2 s nx tk pl v g hg hR
    refine wd_aload_n hC dX5_valley_35 rfl rfl ?_
    refine cv5i hC cw_X5_92 (r_isWell hinj _) dX5_valley_36 (by first | decide | omega) (by decide) rfl rfl (Nat.le_of_ble_eq_true rfl) ?_
    refine wd_vi (show _ = 0 from (bI_f (fun h => h (nI_pos' (n := g) (by omega)))).symm) ?_
    refine wd_if_eq (tgt := 154) hC dX5_valley_39 (by decide) (fun c_39 => ?_) (fun c_39 => absurd (by decide) c_39)
    refine wd_aload_n hC dX5_valley_154 rfl rfl ?_
    refine cv5i hC cw_X5_92 (r_isWell hinj _) dX5_valley_155 (by first | decide | omega) (by decide) rfl rfl (Nat.le_of_ble_eq_true rfl) ?_
    refine wd_vi (show _ = 0 from (bI_f (fun h => h (nI_pos' (n := g) (by omega)))).symm) ?_
    refine wd_if_ne (tgt := 169) hC dX5_valley_158 (by decide) (fun c_158 => absurd (by decide) c_158) (fun c_158 => ?_)
    refine wd_bipush (v := -10) hC dX5_valley_161 rfl ?_
    refine wd_aload_n hC dX5_valley_163 rfl rfl ?_
    refine gf_X5_89 hC dX5_valley_164 ?_
    refine wd_vi (show _ = nI g from rfl) ?_
    refine wd_isub hC dX5_valley_167 ?_
    exact wd_iretP hC rfl dX5_valley_168 (⟨_, rfl, Or.inr ⟨g, s, _, _, _, _, hR, hg, rfl, rfl⟩⟩)
  have tail : ∀ (i : Nat) (o2 : Option Value) (s : wd_S) (c m : Nat) (e : Except Nat Nat) (τ : wd_S), bOk σ L s c m → rSt L n s e τ → (∀ τ3, rSt L n s (stpE L n e) τ3 → wd_G rS V ad K 3 (wd_Qm rS V ad K (wd_pi (fun r σ' => (∃ it s' nx tk pl v m, itR L n (n + 1) (wd_up (wd_up σ 2 2 0) 2 3 0) 0 0 = (.ok it, s') ∧ r = nI it ∧ s'.1 2 3 = nI m ∧ m ≤ 6 ∧ σ' = seW (aW s' nx tk pl v (-1)) m) ∨ (∃ f s' nx tk pl v, itR L n (n + 1) (wd_up (wd_up σ 2 2 0) 2 3 0) 0 0 = (.error f, s') ∧ f ≤ n ∧ r = -10 - nI f ∧ σ' = aW s' nx tk pl v (nI f))))) 35 [some (.ref (ad 0)), some (.int (nI (i + 1))), o2] [] τ3) → wd_G rS V ad K 3 (wd_Qm rS V ad K (wd_pi (fun r σ' => (∃ it s' nx tk pl v m, itR L n (n + 1) (wd_up (wd_up σ 2 2 0) 2 3 0) 0 0 = (.ok it, s') ∧ r = nI it ∧ s'.1 2 3 = nI m ∧ m ≤ 6 ∧ σ' = seW (aW s' nx tk pl v (-1)) m) ∨ (∃ f s' nx tk pl v, itR L n (n + 1) (wd_up (wd_up σ 2 2 0) 2 3 0) 0 0 = (.error f, s') ∧ f ≤ n ∧ r = -10 - nI f ∧ σ' = aW s' nx tk pl v (nI f))))) 130 [some (.ref (ad 0)), some (.int (nI i)), o2] [] τ := by
    intro i o2 s c m e τ hb hτ hk
    cases e with
    | error g =>
      obtain ⟨hg, nx, tk, pl, v, rfl⟩ := hτ
      refine wd_aload_n hC dX5_valley_130 rfl rfl ?_
      refine wd_aload_n hC dX5_valley_131 rfl rfl ?_
      refine gf_X5_83 hC dX5_valley_132 ?_
      refine wd_iconst (v := 3) hC dX5_valley_135 rfl ?_
      refine wd_icmp_ne (tgt := 143) hC dX5_valley_136 (by decide) (fun c_136 => ?_) (fun c_136 => ?_)
      · refine wd_iconst (v := 0) hC dX5_valley_143 rfl ?_
        refine cv5i hC cw_X5_99 (r_takes_f hinj s nx tk pl v g (by omega) _) dX5_valley_144 (by first | decide | omega) (by decide) rfl rfl (Nat.le_of_ble_eq_true rfl) ?_
        refine wd_pop hC dX5_valley_147 rfl ?_
        refine wd_iincN_3_1 hC dX5_valley_148 ?_
        refine wd_goto (tgt := 35) hC dX5_valley_151 (by decide) ?_
        exact hk _ ⟨hg, _, _, _, _, rfl⟩
      · refine wd_iconst (v := 1) hC dX5_valley_139 rfl ?_
        refine wd_goto (tgt := 144) hC dX5_valley_140 (by decide) ?_
        refine cv5i hC cw_X5_99 (r_takes_f hinj s nx tk pl v g (by omega) _) dX5_valley_144 (by first | decide | omega) (by decide) rfl rfl (Nat.le_of_ble_eq_true rfl) ?_
        refine wd_pop hC dX5_valley_147 rfl ?_
        refine wd_iincN_3_1 hC dX5_valley_148 ?_
        refine wd_goto (tgt := 35) hC dX5_valley_151 (by decide) ?_
        exact hk _ ⟨hg, _, _, _, _, rfl⟩
    | ok b =>
      obtain ⟨hbn, v, rfl, hv⟩ := hτ
      refine wd_aload_n hC dX5_valley_130 rfl rfl ?_
      refine wd_aload_n hC dX5_valley_131 rfl rfl ?_
      refine gf_X5_83 hC dX5_valley_132 ?_
      refine wd_vi (show _ = tkR (nextT L n b 0).1 from rfl) ?_
      refine wd_iconst (v := 3) hC dX5_valley_135 rfl ?_
      refine wd_icmp_ne (tgt := 143) hC dX5_valley_136 (by decide) (fun c_136 => ?_) (fun c_136 => ?_)
      · refine wd_iconst (v := 0) hC dX5_valley_143 rfl ?_
        have h4 := fun h => c_136 ((tkR_i3 _).mpr h)
        refine cv5i hC cw_X5_99 (r_takes_0 hinj s _ _ _ v) dX5_valley_144 (by first | decide | omega) (by decide) rfl rfl (Nat.le_of_ble_eq_true rfl) ?_
        have eS : stpE L n (.ok b) = .error (nextT L n b 0).2.1 := (if_neg h4)
        refine wd_pop hC dX5_valley_147 rfl ?_
        refine wd_iincN_3_1 hC dX5_valley_148 ?_
        refine wd_goto (tgt := 35) hC dX5_valley_151 (by decide) ?_
        exact hk _ (by rw [eS]; exact ⟨(nextT_le L hbn 0).1, _, _, _, _, rfl⟩)
      · refine wd_iconst (v := 1) hC dX5_valley_139 rfl ?_
        refine wd_goto (tgt := 144) hC dX5_valley_140 (by decide) ?_
        have h4 := (tkR_i3 _).mp c_136
        refine cv5iP hC cw_X5_99 (r_takes_1 hinj s L hb.2.1 n (by rw [hb.1]; exact hn) hn2 hL0 (nextT L n b 0).2.2.1 (nextT_le L hbn 0).2 _ _ v) dX5_valley_144 (by first | decide | omega) (by decide) rfl rfl (Nat.le_of_ble_eq_true rfl) (fun r_144 σ_144 h_144 => ?_)
        have eS : stpE L n (.ok b) = .ok (nextT L n b 0).2.2.1 := (if_pos h4)
        refine wd_pop hC dX5_valley_147 rfl ?_
        refine wd_iincN_3_1 hC dX5_valley_148 ?_
        refine wd_goto (tgt := 35) hC dX5_valley_151 (by decide) ?_
        exact hk _ (by rw [eS]; exact ⟨(nextT_le L hbn 0).2, h_144.2⟩)
  have loop : ∀ (k b i : Nat) (o2 : Option Value) (s : wd_S) (c m : Nat) (τ : wd_S), n < b + k → bOk σ L s c m → rSt L n s (.ok b) τ → itR L n (n + 1) (wd_up (wd_up σ 2 2 0) 2 3 0) 0 0 = itR L n k s b i → wd_G rS V ad K 3 (wd_Qm rS V ad K (wd_pi (fun r σ' => (∃ it s' nx tk pl v m, itR L n (n + 1) (wd_up (wd_up σ 2 2 0) 2 3 0) 0 0 = (.ok it, s') ∧ r = nI it ∧ s'.1 2 3 = nI m ∧ m ≤ 6 ∧ σ' = seW (aW s' nx tk pl v (-1)) m) ∨ (∃ f s' nx tk pl v, itR L n (n + 1) (wd_up (wd_up σ 2 2 0) 2 3 0) 0 0 = (.error f, s') ∧ f ≤ n ∧ r = -10 - nI f ∧ σ' = aW s' nx tk pl v (nI f))))) 35 [some (.ref (ad 0)), some (.int (nI i)), o2] [] τ := by
    intro k
    induction k with
    | zero =>
      intro b i o2 s c m τ hk hb hτ hR
      exact absurd hτ.1 (by omega)
    | succ k ih =>
      intro b i o2 s c m τ hk hb hτ hR
      obtain ⟨hbn, v, rfl, hv3, hv1, hv2⟩ := hτ
      have hbc := bOk_c hb
      have hbm := bOk_m hb
      obtain ⟨hb0, hb1, hb2, hb3, hbc3, hbm6⟩ := id hb
      refine wd_aload_n hC dX5_valley_35 rfl rfl ?_
      refine cv5i hC cw_X5_92 (r_isWell hinj _) dX5_valley_36 (by first | decide | omega) (by decide) rfl rfl (Nat.le_of_ble_eq_true rfl) ?_
      refine wd_vi (show _ = 1 from (bI_t (show ¬ (0 : Int32) ≤ -1 by decide)).symm) ?_
      refine wd_if_eq (tgt := 154) hC dX5_valley_39 (by decide) (fun c_39 => absurd c_39 (by decide)) (fun c_39 => ?_)
      refine wd_aload_n hC dX5_valley_42 rfl rfl ?_
      refine gf_X5_83 hC dX5_valley_43 ?_
      refine wd_vi (show _ = tkR (nextT L n b 0).1 from rfl) ?_
      refine wd_if_eq (tgt := 154) hC dX5_valley_46 (by decide) (fun c_46 => ?_) (fun c_46 => ?_)
      · have h0 := (tkR_i0 _).mp c_46
        have hI : vIt L n s b = none := if_pos h0
        replace hR := hR.trans (itR_n hI)
        refine wd_aload_n hC dX5_valley_154 rfl rfl ?_
        refine cv5i hC cw_X5_92 (r_isWell hinj _) dX5_valley_155 (by first | decide | omega) (by decide) rfl rfl (Nat.le_of_ble_eq_true rfl) ?_
        refine wd_vi (show _ = 1 from (bI_t (show ¬ (0 : Int32) ≤ -1 by decide)).symm) ?_
        refine wd_if_ne (tgt := 169) hC dX5_valley_158 (by decide) (fun c_158 => ?_) (fun c_158 => absurd c_158 (by decide))
        refine wd_aload_n hC dX5_valley_169 rfl rfl ?_
        refine cv5v hC cw_X5_111 (r_settles hinj _ m (by rw [aW_o _ _ _ _ _ _ (by decide)]; exact hb3) hbm6) dX5_valley_170 (by first | decide | omega) (by decide) rfl rfl (Nat.le_of_ble_eq_true rfl) ?_
        refine wd_iload_n hC dX5_valley_173 rfl rfl ?_
        exact wd_iretP hC rfl dX5_valley_174 (⟨_, rfl, Or.inl ⟨i, s, _, _, _, _, m, hR, rfl, hb3, hbm6, rfl⟩⟩)
      · have h0 := fun h => c_46 ((tkR_i0 _).mpr h)
        refine wd_aload_n hC dX5_valley_49 rfl rfl ?_
        refine wd_aload_n hC dX5_valley_50 rfl rfl ?_
        refine gf_X5_83 hC dX5_valley_51 ?_
        refine wd_vi (show _ = tkR (nextT L n b 0).1 from rfl) ?_
        refine wd_iconst (v := 1) hC dX5_valley_54 rfl ?_
        refine wd_icmp_ne (tgt := 113) hC dX5_valley_55 (by decide) (fun c_55 => ?_) (fun c_55 => ?_)
        · have hC0 : ¬ cnC L n s b := fun h => c_55 ((tkR_i1 _).mpr (Or.inl h.1))
          have hM0 : ¬ cnM L n s b := fun h => c_55 ((tkR_i1 _).mpr (Or.inr h.1))
          refine wd_iconst (v := 0) hC dX5_valley_113 rfl ?_
          refine cv5i hC cw_X5_99 (r_takes_0 hinj s _ _ _ v) dX5_valley_114 (by first | decide | omega) (by decide) rfl rfl (Nat.le_of_ble_eq_true rfl) ?_
          have hI : vIt L n s b = some (s, .error (nextT L n b 0).2.1) := (if_neg h0).trans ((if_neg hC0).trans (if_neg hM0))
          replace hR := hR.trans (itR_e hI)
          have hgl := (nextT_le L hbn 0).1
          refine wd_istore_n_3_2 hC dX5_valley_117 ?_
          refine wd_aload_n hC dX5_valley_118 rfl rfl ?_
          refine cv5i hC cw_X5_92 (r_isWell hinj _) dX5_valley_119 (by first | decide | omega) (by decide) rfl rfl (Nat.le_of_ble_eq_true rfl) ?_
          refine wd_vi (show _ = 0 from (bI_f (fun h => h (nI_pos' (n := (nextT L n b 0).2.1) (by omega)))).symm) ?_
          refine wd_if_eq (tgt := 130) hC dX5_valley_122 (by decide) (fun c_122 => ?_) (fun c_122 => absurd (by decide) c_122)
          exact tail i _ s c m (.error (nextT L n b 0).2.1) _ hb ⟨hgl, _, _, _, _, rfl⟩ (fun τ3 h3 => (by
            obtain ⟨hg, nx, tk, pl, v, rfl⟩ := h3
            exact exitF _ _ _ _ _ _ _ _ hg hR))
        · have h12 := (tkR_i1 _).mp c_55
          refine wd_aload_n hC dX5_valley_58 rfl rfl ?_
          refine gf_X5_86 hC dX5_valley_59 ?_
          refine wd_vi (show _ = v from rfl) ?_
          refine wd_bipush (v := 99) hC dX5_valley_62 rfl ?_
          refine wd_icmp_ne (tgt := 89) hC dX5_valley_64 (by decide) (fun c_64 => ?_) (fun c_64 => ?_)
          · have hT : (nextT L n b 0).1 = 2 := h12.elim (fun h => absurd (hv1 h) c_64) id
            have hC0 : ¬ cnC L n s b := fun h => absurd (hT.symm.trans h.1) (by decide)
            refine wd_aload_n hC dX5_valley_89 rfl rfl ?_
            refine gf_X5_13 hC dX5_valley_90 ?_
            refine wd_iconst (v := 2) hC dX5_valley_93 rfl ?_
            refine rl_many hC dX5_valley_94 2 rfl (by decide) ?_
            refine wd_vi (show _ = s.1 2 2 from (by rw [aW_o _ _ _ _ _ _ (by decide)])) ?_
            refine wd_if_le (tgt := 113) hC dX5_valley_95 (by decide) (fun c_95 => ?_) (fun c_95 => ?_)
            · have hM0 : ¬ cnM L n s b := fun h => h.2.1 c_95
              refine wd_iconst (v := 0) hC dX5_valley_113 rfl ?_
              refine cv5i hC cw_X5_99 (r_takes_0 hinj s _ _ _ v) dX5_valley_114 (by first | decide | omega) (by decide) rfl rfl (Nat.le_of_ble_eq_true rfl) ?_
              have hI : vIt L n s b = some (s, .error (nextT L n b 0).2.1) := (if_neg h0).trans ((if_neg hC0).trans (if_neg hM0))
              replace hR := hR.trans (itR_e hI)
              have hgl := (nextT_le L hbn 0).1
              refine wd_istore_n_3_2 hC dX5_valley_117 ?_
              refine wd_aload_n hC dX5_valley_118 rfl rfl ?_
              refine cv5i hC cw_X5_92 (r_isWell hinj _) dX5_valley_119 (by first | decide | omega) (by decide) rfl rfl (Nat.le_of_ble_eq_true rfl) ?_
              refine wd_vi (show _ = 0 from (bI_f (fun h => h (nI_pos' (n := (nextT L n b 0).2.1) (by omega)))).symm) ?_
              refine wd_if_eq (tgt := 130) hC dX5_valley_122 (by decide) (fun c_122 => ?_) (fun c_122 => absurd (by decide) c_122)
              exact tail i _ s c m (.error (nextT L n b 0).2.1) _ hb ⟨hgl, _, _, _, _, rfl⟩ (fun τ3 h3 => (by
                obtain ⟨hg, nx, tk, pl, v, rfl⟩ := h3
                exact exitF _ _ _ _ _ _ _ _ hg hR))
            · refine wd_aload_n hC dX5_valley_98 rfl rfl ?_
              refine gf_X5_13 hC dX5_valley_99 ?_
              refine wd_iconst (v := 3) hC dX5_valley_102 rfl ?_
              refine rl_many hC dX5_valley_103 3 rfl (by decide) ?_
              refine wd_vi (show _ = s.1 2 3 from (by rw [aW_o _ _ _ _ _ _ (by decide)])) ?_
              refine wd_bipush (v := 6) hC dX5_valley_104 rfl ?_
              refine wd_icmp_ge (tgt := 113) hC dX5_valley_106 (by decide) (fun c_106 => ?_) (fun c_106 => ?_)
              · have hM0 : ¬ cnM L n s b := fun h => h.2.2 c_106
                refine wd_iconst (v := 0) hC dX5_valley_113 rfl ?_
                refine cv5i hC cw_X5_99 (r_takes_0 hinj s _ _ _ v) dX5_valley_114 (by first | decide | omega) (by decide) rfl rfl (Nat.le_of_ble_eq_true rfl) ?_
                have hI : vIt L n s b = some (s, .error (nextT L n b 0).2.1) := (if_neg h0).trans ((if_neg hC0).trans (if_neg hM0))
                replace hR := hR.trans (itR_e hI)
                have hgl := (nextT_le L hbn 0).1
                refine wd_istore_n_3_2 hC dX5_valley_117 ?_
                refine wd_aload_n hC dX5_valley_118 rfl rfl ?_
                refine cv5i hC cw_X5_92 (r_isWell hinj _) dX5_valley_119 (by first | decide | omega) (by decide) rfl rfl (Nat.le_of_ble_eq_true rfl) ?_
                refine wd_vi (show _ = 0 from (bI_f (fun h => h (nI_pos' (n := (nextT L n b 0).2.1) (by omega)))).symm) ?_
                refine wd_if_eq (tgt := 130) hC dX5_valley_122 (by decide) (fun c_122 => ?_) (fun c_122 => absurd (by decide) c_122)
                exact tail i _ s c m (.error (nextT L n b 0).2.1) _ hb ⟨hgl, _, _, _, _, rfl⟩ (fun τ3 h3 => (by
                  obtain ⟨hg, nx, tk, pl, v, rfl⟩ := h3
                  exact exitF _ _ _ _ _ _ _ _ hg hR))
              · have hM1 : cnM L n s b := ⟨hT, c_95, c_106⟩
                refine wd_iconst (v := 1) hC dX5_valley_109 rfl ?_
                refine wd_goto (tgt := 114) hC dX5_valley_110 (by decide) ?_
                have hTl : b < (nextT L n b 0).2.2.1 := nextT_gt L h12
                refine cv5iP hC cw_X5_99 (r_takes_1 hinj s L hb1 n (by rw [hb0]; exact hn) hn2 hL0 (nextT L n b 0).2.2.1 (nextT_le L hbn 0).2 _ _ v) dX5_valley_114 (by first | decide | omega) (by decide) rfl rfl (Nat.le_of_ble_eq_true rfl) (fun r_114 σ_114 h_114 => ?_)
                obtain ⟨rfl, hrd⟩ := h_114
                obtain ⟨v2, rfl, hv4⟩ := hrd
                have hq : rSt L n s (.ok (nextT L n b 0).2.2.1) _ := ⟨(nextT_le L hbn 0).2, v2, rfl, hv4⟩
                have hI : vIt L n s b = some ((mnE L n s (nextT L n b 0).2.2.1).1, stpE L n (mnE L n s (nextT L n b 0).2.2.1).2) := (if_neg h0).trans ((if_neg hC0).trans (if_pos hM1))
                have hm6 : m < 6 := by have q := c_106; rw [hb3] at q; have q2 := mt (nI_leI (a := 6) (b := m) (by decide) (by omega)).mpr q; omega
                have hge := stpE_ge (L := L) (n := n) (mnE_ge L n s (nextT L n b 0).2.2.1)
                rw [mnE, hbc, hbm] at hI hge
                refine wd_istore_n_3_2 hC dX5_valley_117 ?_
                refine wd_aload_n hC dX5_valley_118 rfl rfl ?_
                refine cv5i hC cw_X5_92 (r_isWell hinj _) dX5_valley_119 (by first | decide | omega) (by decide) rfl rfl (Nat.le_of_ble_eq_true rfl) ?_
                refine wd_vi (show _ = 1 from (bI_t (show ¬ (0 : Int32) ≤ -1 by decide)).symm) ?_
                refine wd_if_eq (tgt := 130) hC dX5_valley_122 (by decide) (fun c_122 => absurd c_122 (by decide)) (fun c_122 => ?_)
                refine wd_aload_n hC dX5_valley_125 rfl rfl ?_
                refine wd_iload_n hC dX5_valley_126 rfl rfl ?_
                refine cv5vP hC cw_X5_107 (r_item_m hinj s L hb1 n (by rw [hb0]; exact hn) hn2 hL0 _ _ hq c m hb2 hbc3 hb3 hm6 _ c_64) dX5_valley_127 (by first | decide | omega) (by decide) rfl rfl (Nat.le_of_ble_eq_true rfl) (fun σ_127 h_127 => ?_)
                refine tail i _ _ c (m + 1) _ _ (bOk_mn hb (mnB_kp L n s c m _) hm6) h_127 (fun τ3 h3 => ?_)
                generalize hE : stpE L n _ = ee at hI hge h3
                cases ee with
                | ok b2 =>
                  replace hR := hR.trans (itR_k hI)
                  have hb2l := hge b2 rfl
                  exact ih b2 (i + 1) _ _ c (m + 1) _ (by omega) (bOk_mn hb (mnB_kp L n s c m _) hm6) h3 hR
                | error g =>
                  replace hR := hR.trans (itR_e hI)
                  obtain ⟨hg, nx, tk, pl, v5, rfl⟩ := h3
                  exact exitF _ _ _ _ _ _ _ _ hg hR
          · have hT : (nextT L n b 0).1 = 1 := h12.elim id (fun h => absurd ((hv2 h).symm.trans c_64) (by decide))
            have hM0 : ¬ cnM L n s b := fun h => absurd (hT.symm.trans h.1) (by decide)
            refine wd_aload_n hC dX5_valley_67 rfl rfl ?_
            refine gf_X5_13 hC dX5_valley_68 ?_
            refine wd_iconst (v := 2) hC dX5_valley_71 rfl ?_
            refine rl_many hC dX5_valley_72 2 rfl (by decide) ?_
            refine wd_vi (show _ = s.1 2 2 from (by rw [aW_o _ _ _ _ _ _ (by decide)])) ?_
            refine wd_iconst (v := 3) hC dX5_valley_73 rfl ?_
            refine wd_icmp_ge (tgt := 113) hC dX5_valley_74 (by decide) (fun c_74 => ?_) (fun c_74 => ?_)
            · have hC0 : ¬ cnC L n s b := fun h => h.2.1 c_74
              refine wd_iconst (v := 0) hC dX5_valley_113 rfl ?_
              refine cv5i hC cw_X5_99 (r_takes_0 hinj s _ _ _ v) dX5_valley_114 (by first | decide | omega) (by decide) rfl rfl (Nat.le_of_ble_eq_true rfl) ?_
              have hI : vIt L n s b = some (s, .error (nextT L n b 0).2.1) := (if_neg h0).trans ((if_neg hC0).trans (if_neg hM0))
              replace hR := hR.trans (itR_e hI)
              have hgl := (nextT_le L hbn 0).1
              refine wd_istore_n_3_2 hC dX5_valley_117 ?_
              refine wd_aload_n hC dX5_valley_118 rfl rfl ?_
              refine cv5i hC cw_X5_92 (r_isWell hinj _) dX5_valley_119 (by first | decide | omega) (by decide) rfl rfl (Nat.le_of_ble_eq_true rfl) ?_
              refine wd_vi (show _ = 0 from (bI_f (fun h => h (nI_pos' (n := (nextT L n b 0).2.1) (by omega)))).symm) ?_
              refine wd_if_eq (tgt := 130) hC dX5_valley_122 (by decide) (fun c_122 => ?_) (fun c_122 => absurd (by decide) c_122)
              exact tail i _ s c m (.error (nextT L n b 0).2.1) _ hb ⟨hgl, _, _, _, _, rfl⟩ (fun τ3 h3 => (by
                obtain ⟨hg, nx, tk, pl, v, rfl⟩ := h3
                exact exitF _ _ _ _ _ _ _ _ hg hR))
            · refine wd_aload_n hC dX5_valley_77 rfl rfl ?_
              refine gf_X5_13 hC dX5_valley_78 ?_
              refine wd_iconst (v := 3) hC dX5_valley_81 rfl ?_
              refine rl_many hC dX5_valley_82 3 rfl (by decide) ?_
              refine wd_vi (show _ = s.1 2 3 from (by rw [aW_o _ _ _ _ _ _ (by decide)])) ?_
              refine wd_if_ne (tgt := 113) hC dX5_valley_83 (by decide) (fun c_83 => ?_) (fun c_83 => ?_)
              · have hC0 : ¬ cnC L n s b := fun h => c_83 h.2.2
                refine wd_iconst (v := 0) hC dX5_valley_113 rfl ?_
                refine cv5i hC cw_X5_99 (r_takes_0 hinj s _ _ _ v) dX5_valley_114 (by first | decide | omega) (by decide) rfl rfl (Nat.le_of_ble_eq_true rfl) ?_
                have hI : vIt L n s b = some (s, .error (nextT L n b 0).2.1) := (if_neg h0).trans ((if_neg hC0).trans (if_neg hM0))
                replace hR := hR.trans (itR_e hI)
                have hgl := (nextT_le L hbn 0).1
                refine wd_istore_n_3_2 hC dX5_valley_117 ?_
                refine wd_aload_n hC dX5_valley_118 rfl rfl ?_
                refine cv5i hC cw_X5_92 (r_isWell hinj _) dX5_valley_119 (by first | decide | omega) (by decide) rfl rfl (Nat.le_of_ble_eq_true rfl) ?_
                refine wd_vi (show _ = 0 from (bI_f (fun h => h (nI_pos' (n := (nextT L n b 0).2.1) (by omega)))).symm) ?_
                refine wd_if_eq (tgt := 130) hC dX5_valley_122 (by decide) (fun c_122 => ?_) (fun c_122 => absurd (by decide) c_122)
                exact tail i _ s c m (.error (nextT L n b 0).2.1) _ hb ⟨hgl, _, _, _, _, rfl⟩ (fun τ3 h3 => (by
                  obtain ⟨hg, nx, tk, pl, v, rfl⟩ := h3
                  exact exitF _ _ _ _ _ _ _ _ hg hR))
              · have hC1 : cnC L n s b := ⟨hT, c_74, c_83⟩
                refine wd_goto (tgt := 109) hC dX5_valley_86 (by decide) ?_
                refine wd_iconst (v := 1) hC dX5_valley_109 rfl ?_
                refine wd_goto (tgt := 114) hC dX5_valley_110 (by decide) ?_
                have hTl : b < (nextT L n b 0).2.2.1 := nextT_gt L h12
                refine cv5iP hC cw_X5_99 (r_takes_1 hinj s L hb1 n (by rw [hb0]; exact hn) hn2 hL0 (nextT L n b 0).2.2.1 (nextT_le L hbn 0).2 _ _ v) dX5_valley_114 (by first | decide | omega) (by decide) rfl rfl (Nat.le_of_ble_eq_true rfl) (fun r_114 σ_114 h_114 => ?_)
                obtain ⟨rfl, hrd⟩ := h_114
                obtain ⟨v2, rfl, hv4⟩ := hrd
                have hq : rSt L n s (.ok (nextT L n b 0).2.2.1) _ := ⟨(nextT_le L hbn 0).2, v2, rfl, hv4⟩
                have hI : vIt L n s b = some ((crE L n s (nextT L n b 0).2.2.1).1, stpE L n (crE L n s (nextT L n b 0).2.2.1).2) := (if_neg h0).trans (if_pos hC1)
                have hc3 : c < 3 := by have q := c_74; rw [hb2] at q; have q2 := mt (nI_leI (a := 3) (b := c) (by decide) (by omega)).mpr q; omega
                have hge := stpE_ge (L := L) (n := n) (crE_ge L n s (nextT L n b 0).2.2.1)
                rw [crE, hbc] at hI hge
                subst c_64
                refine wd_istore_n_3_2 hC dX5_valley_117 ?_
                refine wd_aload_n hC dX5_valley_118 rfl rfl ?_
                refine cv5i hC cw_X5_92 (r_isWell hinj _) dX5_valley_119 (by first | decide | omega) (by decide) rfl rfl (Nat.le_of_ble_eq_true rfl) ?_
                refine wd_vi (show _ = 1 from (bI_t (show ¬ (0 : Int32) ≤ -1 by decide)).symm) ?_
                refine wd_if_eq (tgt := 130) hC dX5_valley_122 (by decide) (fun c_122 => absurd c_122 (by decide)) (fun c_122 => ?_)
                refine wd_aload_n hC dX5_valley_125 rfl rfl ?_
                refine wd_iload_n hC dX5_valley_126 rfl rfl ?_
                refine cv5vP hC cw_X5_107 (r_item_c hinj s L hb1 n (by rw [hb0]; exact hn) hn2 hL0 _ _ hq c hb2 hc3) dX5_valley_127 (by first | decide | omega) (by decide) rfl rfl (Nat.le_of_ble_eq_true rfl) (fun σ_127 h_127 => ?_)
                refine tail i _ _ (c + 1) m _ _ (bOk_cr hb hc3 _ _) h_127 (fun τ3 h3 => ?_)
                generalize hE : stpE L n _ = ee at hI hge h3
                cases ee with
                | ok b2 =>
                  replace hR := hR.trans (itR_k hI)
                  have hb2l := hge b2 rfl
                  exact ih b2 (i + 1) _ _ (c + 1) m _ (by omega) (bOk_cr hb hc3 _ _) h3 hR
                | error g =>
                  replace hR := hR.trans (itR_e hI)
                  obtain ⟨hg, nx, tk, pl, v5, rfl⟩ := h3
                  exact exitF _ _ _ _ _ _ _ _ hg hR
  refine wd_aload_n hC dX5_valley_0 rfl rfl ?_
  refine wd_iconst (v := 0) hC dX5_valley_1 rfl ?_
  refine pf_X5_62 hC dX5_valley_2 ?_
  refine wd_ts (up_00 h0) ?_
  refine wd_ts (aW_self σ) ?_
  refine wd_aload_n hC dX5_valley_5 rfl rfl ?_
  refine wd_iconst (v := -1) hC dX5_valley_6 rfl ?_
  refine pf_X5_89 hC dX5_valley_7 ?_
  refine wd_ts (aW_8 _ _ _ _ _ _ _) ?_
  refine wd_aload_n hC dX5_valley_10 rfl rfl ?_
  refine wd_iconst (v := 0) hC dX5_valley_11 rfl ?_
  refine pf_X5_73 hC dX5_valley_12 ?_
  refine wd_ts (aW_4 _ _ _ _ _ _ _) ?_
  refine wd_iconst (v := 0) hC dX5_valley_15 rfl ?_
  refine wd_istore_n_3_1 hC dX5_valley_16 ?_
  refine wd_aload_n hC dX5_valley_17 rfl rfl ?_
  refine gf_X5_13 hC dX5_valley_18 ?_
  refine wd_iconst (v := 2) hC dX5_valley_21 rfl ?_
  refine wd_iconst (v := 0) hC dX5_valley_22 rfl ?_
  refine rs_many hC dX5_valley_23 2 rfl (by decide) ?_
  refine wd_ts (aW_c _ _ _ _ _ _ (by decide) _ _) ?_
  refine wd_aload_n hC dX5_valley_24 rfl rfl ?_
  refine gf_X5_13 hC dX5_valley_25 ?_
  refine wd_iconst (v := 3) hC dX5_valley_28 rfl ?_
  refine wd_iconst (v := 0) hC dX5_valley_29 rfl ?_
  refine rs_many hC dX5_valley_30 3 rfl (by decide) ?_
  refine wd_ts (aW_c _ _ _ _ _ _ (by decide) _ _) ?_
  refine wd_aload_n hC dX5_valley_31 rfl rfl ?_
  refine cv5vP hC cw_X5_96 (r_advances hinj (wd_up (wd_up σ 2 2 0) 2 3 0) L (by rw [upW_o _ (by decide), upW_o _ (by decide)]; exact hL) n (by rw [upW_o _ (by decide), upW_o _ (by decide)]; exact hn) hn2 hL0 0 (Nat.zero_le _) _ _ _ (-1)) dX5_valley_32 (by first | decide | omega) (by decide) rfl rfl (Nat.le_of_ble_eq_true rfl) (fun σ_32 h_32 => ?_)
  exact loop (n + 1) 0 0 _ (wd_up (wd_up σ 2 2 0) 2 3 0) 0 0 _ (by omega) ⟨by rw [upW_o _ (by decide), upW_o _ (by decide)], by rw [upW_o _ (by decide), upW_o _ (by decide)]; exact hL, rfl, rfl, by decide, by decide⟩ ⟨Nat.zero_le _, h_32⟩ rfl

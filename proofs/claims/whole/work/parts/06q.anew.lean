/-! ===== both: a valley anew; letters, stubble; marriages ===== -/
theorem stQ_o (σ : wd_S) (u : Nat) (U : Nat → Nat → Int32) (s b q : Int32) {k : Nat} (h1 : k ≠ 1) (h : ¬ (ct u ≤ k ∧ k < ct u + 13)) : (stQ σ u U s b q).1 k = σ.1 k := by
  rw [stP_o _ _ _ _ h1, stU_out _ _ _ h]
theorem stQ_1 (σ : wd_S) (u : Nat) (U : Nat → Nat → Int32) (s b q : Int32) : (stQ σ u U s b q).1 1 1 = σ.1 1 1 := by
  show (if 1 = 1 ∧ 1 = 2 then s else if 1 = 1 ∧ 1 = 3 then b else if 1 = 1 ∧ 1 = 4 then q else (stU σ u U).1 1 1) = _
  rw [if_neg (by decide), if_neg (by decide), if_neg (by decide), stU_lo _ _ _ (by decide)]
theorem Inv_vfault {σ τ : wd_S} {nm nc : Nat} (h : Inv σ τ nm nc) {U : Nat → Nat → Int32} {a b q : Int32} {s : wd_S} (hs : sK (wd_up (wd_up τ 2 2 0) 2 3 0) s) (nx tk pl v f : Int32) : Inv (stQ σ (1 - σ.2.2) U a b q) (aW s nx tk pl v f) nm nc := by
  have ht := h.1.1
  refine Inv_fault h rfl (fun k h1 h2 => stQ_o σ _ U a b q h2 (by unfold ct; omega)) (stQ_1 σ _ U a b q) (fun k hk => stQ_o σ _ U a b q (by unfold ct; omega) (by unfold ct; omega)) (fun k hk => stQ_o σ _ U a b q (by omega) (by unfold ct; omega)) hs.1 (fun k i h1 h2 => ?_)
  rw [aW_p s nx tk pl v f h2, hs.2 k i h1, wd_up_o (fun e => h1 (Or.inl ⟨e.1, by omega⟩)), wd_up_o (fun e => h1 (Or.inl ⟨e.1, by omega⟩))]
theorem begM_mz (x : Int32) : mz (begM x) := fun k hk => funext fun i => if_neg (by omega)
theorem begM_ok {nm : Nat} (h6 : nm ≤ 6) : mOk (begM (nI nm)) := by
  intro m hm
  refine ⟨⟨show (0 : Int32) ≤ 0 by decide, show (0 : Int32) < nI 3 by decide⟩, ?_⟩
  show begV (nI nm) (nI m) < nI 6
  by_cases q : m < nm
  · rw [beg_e h6 q]
    by_cases c : pt m < nm
    · rw [if_pos c]; exact nI_lt (by omega) (by decide)
    · rw [if_neg c]; decide
  · unfold begV
    rw [if_pos (nI_le (by omega) (by omega))]
    decide
theorem Inv_valley {σ τ : wd_S} {nm nc : Nat} (h : Inv σ τ nm nc) {U : Nat → Nat → Int32} {a b q : Int32} {s : wd_S} {c m : Nat} (hs : sK (wd_up (wd_up τ 2 2 0) 2 3 0) s) (hp : pT U s c m) (nx tk pl v : Int32) : Inv (vaW (stQ σ (1 - σ.2.2) U a b q)) (seW (aW s nx tk pl v (-1)) m) m c := by
  obtain ⟨⟨a1, a2, a3, a4, a5, a6, a7⟩, hC, hM, hW⟩ := hp
  obtain ⟨h0, hT, hY, hO, hX, hS, ⟨nx0, hh, hR⟩, hI⟩ := h
  have ht := h0.1
  have es : ∀ k i, ¬ sSc k i → s.1 k i = τ.1 k i := fun k i h1 => by
    rw [hs.2 k i h1, wd_up_o (fun e => h1 (Or.inl ⟨e.1, by omega⟩)), wd_up_o (fun e => h1 (Or.inl ⟨e.1, by omega⟩))]
  have eU : (stQ σ (1 - σ.2.2) U a b q).1 (ct (1 - (stQ σ (1 - σ.2.2) U a b q).2.2)) 3 = nI m := (stQ_0 σ (1 - σ.2.2) U a b q).trans a2
  unfold vaW
  rw [eU]
  generalize hρ : stQ σ (1 - σ.2.2) U a b q = ρ
  have r2 : ρ.2 = σ.2 := by rw [← hρ]; rfl
  have rT : ∀ k, k < 13 → ∀ i, ρ.1 (ct (1 - σ.2.2) + k) i = U k i := fun k hk i => by rw [← hρ]; exact stQ_r σ _ U a b q hk
  have rL : ∀ k, k < 10 → k ≠ 1 → ρ.1 k = σ.1 k := fun k h1 h2 => by rw [← hρ]; exact stQ_o σ _ U a b q h2 (by unfold ct; omega)
  have rH : ∀ k, 36 ≤ k → ρ.1 k = σ.1 k := fun k h1 => by rw [← hρ]; exact stQ_o σ _ U a b q (by omega) (by unfold ct; omega)
  have eW : ∀ k i, (kpW (wd_up (wd_up (stM (wd_up (swT ρ) 1 1 0) 0 (begM (nI m))) 3 2 0) 0 10 0) 2).1 k i = if k = 6 ∧ i < 2 then 0 else if k = 0 ∧ i = 10 then 0 else if k = 3 ∧ i = 2 then 0 else if 36 ≤ k ∧ k < 42 then begM (nI m) (k - 36) i else if k = 1 ∧ i = 1 then 0 else ρ.1 k i := fun k i => by
    show (if k = 6 ∧ i = 1 then (0 : Int32) else if k = 6 ∧ i = 0 then 0 else if k = 0 ∧ i = 10 then 0 else if k = 3 ∧ i = 2 then 0 else (if cm 0 ≤ k ∧ k < cm 0 + 6 then begM (nI m) (k - cm 0) else fun b => if k = 1 ∧ b = 1 then 0 else ρ.1 k b) i) = _
    by_cases q6 : k = 6 ∧ i < 2
    · rw [if_pos q6]
      by_cases q1 : i = 1
      · rw [if_pos ⟨q6.1, q1⟩]
      · rw [if_neg (by omega), if_pos (by omega)]
    · rw [if_neg q6, if_neg (by omega), if_neg (by omega)]
      by_cases q0 : k = 0 ∧ i = 10
      · rw [if_pos q0, if_pos q0]
      · rw [if_neg q0, if_neg q0]
        by_cases q3 : k = 3 ∧ i = 2
        · rw [if_pos q3, if_pos q3]
        · rw [if_neg q3, if_neg q3]
          show (if 36 ≤ k ∧ k < 36 + 6 then begM (nI m) (k - 36) else fun b => if k = 1 ∧ b = 1 then 0 else ρ.1 k b) i = _
          by_cases qm : 36 ≤ k ∧ k < 42
          · rw [if_pos (by omega), if_pos qm]
          · rw [if_neg (by omega), if_neg qm]
  have e22 : (kpW (wd_up (wd_up (stM (wd_up (swT ρ) 1 1 0) 0 (begM (nI m))) 3 2 0) 0 10 0) 2).2 = (σ.2.1, 1 - σ.2.2) := by
    show (ρ.2.1, 1 - ρ.2.2) = _
    rw [r2]
  generalize kpW (wd_up (wd_up (stM (wd_up (swT ρ) 1 1 0) 0 (begM (nI m))) 3 2 0) 0 10 0) 2 = σ' at eW e22
  have em : ∀ j, mv σ' j = if j = 0 then begM (nI m) else mv σ j := fun j => by
    funext k
    by_cases hk : k < 6
    · rw [mv_at σ' j hk]
      by_cases q : j = 0
      · rw [if_pos q]
        funext i
        subst q
        rw [eW]
        unfold cm
        rw [if_neg (by omega), if_neg (by omega), if_neg (by omega), if_pos (by omega)]
        rw [show 36 + 6 * 0 + k - 36 = k by omega]
      · rw [if_neg q, mv_at σ j hk]
        funext i
        rw [eW, if_neg (by unfold cm; omega), if_neg (by unfold cm; omega), if_neg (by unfold cm; omega), if_neg (by unfold cm; omega), if_neg (by unfold cm; omega), rH _ (by unfold cm; omega)]
    · rw [mv_hi σ' j hk]
      by_cases q : j = 0
      · rw [if_pos q]; exact (begM_mz _ k hk).symm
      · rw [if_neg q]; exact (mv_hi σ j hk).symm
  have et : ∀ k, k < 13 → ∀ i, tv σ' k i = U k i := fun k hk i => by
    have hct : 10 ≤ ct (1 - σ.2.2) ∧ ct (1 - σ.2.2) + 13 ≤ 36 := by unfold ct; omega
    unfold tv
    rw [if_pos hk, e22]
    show σ'.1 (ct (1 - σ.2.2) + k) i = _
    rw [eW, if_neg (by omega), if_neg (by omega), if_neg (by omega), if_neg (by omega), if_neg (by omega)]
    exact rT k hk i
  have fW : ∀ k i, (k = 0 → i < 4 ∨ 8 < i) → (aW s nx tk pl v (-1)).1 k i = s.1 k i := fun k i hk => aW_p s nx tk pl v (-1) hk
  have gW := seW_e (aW s nx tk pl v (-1)) m
  have g2 : (seW (aW s nx tk pl v (-1)) m).2 = τ.2 := hs.1
  generalize seW (aW s nx tk pl v (-1)) m = τ' at gW g2
  refine ⟨⟨?_, ?_, ?_, a7⟩, ?_, ?_, fun j hj => ?_, ?_, ?_, ⟨nx0, 0, hR.1, by decide, ?_, ?_, ?_, fun i hi => absurd hi (by omega)⟩, fun j hj => Or.inl ⟨?_, ?_⟩⟩
  · rw [e22]; show 1 - σ.2.2 < 2; omega
  · rw [e22, g2]; exact h0.2.1
  · rw [gW, if_neg (by omega), if_neg (by omega), if_neg (by omega), if_neg (by omega), if_neg (by omega), if_neg (by omega), if_neg (by omega), if_neg (by omega), if_neg (by omega), fW 0 0 (by omega), es 0 0 (by unfold sSc; omega)]
    exact h0.2.2.1
  · refine ⟨⟨?_, ?_, ?_, ?_, a6, a5⟩, fun k hk => ?_, fun k hk => ?_, fun k j hk hj => ?_⟩
    · rw [et 0 (by decide)]; exact a2
    · rw [et 0 (by decide)]; exact a1
    · rw [gW, if_neg (by omega), if_neg (by omega), if_neg (by omega), if_neg (by omega), if_neg (by omega), if_neg (by omega), if_neg (by omega), if_pos (by omega)]
    · rw [gW, if_neg (by omega), if_neg (by omega), if_neg (by omega), if_neg (by omega), if_neg (by omega), if_neg (by omega), if_neg (by omega), if_neg (by omega), if_pos (by omega), fW 2 2 (by omega)]
      exact a3
    · rw [et 1 (by decide), et 2 (by decide), gW 3 k, gW 4 k]
      rw [if_neg (by omega), if_neg (by omega), if_neg (by omega), if_neg (by omega), if_neg (by omega), if_pos (by omega), fW 3 (3 + k) (by omega)]
      rw [if_neg (by omega), if_neg (by omega), if_neg (by omega), if_neg (by omega), if_neg (by omega), if_pos (by omega), fW 4 (3 + k) (by omega)]
      exact hC k hk
    · rw [et 3 (by decide), et 4 (by decide), et 5 (by decide), gW 5 k, gW 6 k, gW 7 k]
      rw [if_neg (by omega), if_neg (by omega), if_neg (by omega), if_neg (by omega), if_pos (by omega), fW 5 (6 + k) (by omega)]
      rw [if_neg (by omega), if_neg (by omega), if_neg (by omega), if_neg (by omega), if_pos (by omega), fW 6 (6 + k) (by omega)]
      rw [if_neg (by omega), if_neg (by omega), if_neg (by omega), if_neg (by omega), if_pos (by omega), fW 7 (6 + k) (by omega)]
      exact hM k hk
    · rw [et (7 + k) (by omega), gW 8 (3 * k + j), if_neg (by omega), if_neg (by omega), if_pos (by omega), fW 8 (18 + (3 * k + j)) (by omega), show 18 + (3 * k + j) = 3 * (6 + k) + j by omega]
      exact hW k j hk hj
  · rw [em, if_pos rfl]
    refine ⟨cM_beg a6 a7 (fun k h1 h2 => ?_) (fun k hk => ?_), 0, by decide, ?_⟩
    · rw [gW, if_neg (by omega), if_neg (by omega), if_neg (by omega), if_neg (by omega), if_neg (by omega), if_neg (by omega), if_pos ⟨rfl, h1⟩]
    · rw [gW, if_neg (by omega), if_neg (by omega), if_neg (by omega), if_pos (by omega), show 6 + k - 6 = k by omega]
    · rw [gW, if_neg (by omega), if_neg (by omega), if_neg (by omega), if_neg (by omega), if_neg (by omega), if_neg (by omega), if_pos (by omega)]; rfl
  · rw [em]
    by_cases z : j = 0
    · rw [if_pos z]; exact begM_ok a6
    · rw [if_neg z]; exact hO j hj
  · obtain ⟨n, hn, e1, e2, e3, e4⟩ := hX
    refine ⟨0, by decide, ?_, ?_, ?_, fun i hi => absurd hi (by omega)⟩
    · rw [eW, if_neg (by omega), if_neg (by omega), if_neg (by omega), if_neg (by omega), if_pos (by omega)]; rfl
    · rw [gW, if_neg (by omega), if_pos (by omega)]; rfl
    · funext i
      rw [eW, if_neg (by omega), if_neg (by omega), if_neg (by omega), if_neg (by omega), if_neg (by omega), rL 2 (by decide) (by decide), e3]
      rw [gW, if_neg (by omega), if_neg (by omega), if_neg (by omega), if_neg (by omega), if_neg (by omega), if_neg (by omega), if_neg (by omega), if_neg (by omega), if_neg (by omega), fW 1 i (by omega), es 1 i (by unfold sSc; omega)]
  · refine ⟨0, by decide, ?_, ?_, fun i hi => absurd hi (by omega)⟩
    · rw [eW, if_neg (by omega), if_pos (by omega)]; rfl
    · rw [gW, if_neg (by omega), if_pos (by omega)]; rfl
  · show σ'.1 3 1 = _
    rw [eW, if_neg (by omega), if_neg (by omega), if_neg (by omega), if_neg (by omega), if_neg (by omega), rL 3 (by decide) (by decide)]
    exact hR.2.2.1
  · show σ'.1 3 2 = _
    rw [eW, if_neg (by omega), if_neg (by omega), if_pos (by omega)]; rfl
  · rw [gW, if_neg (by omega), if_pos (by omega)]; rfl
  · rw [eW, if_pos ⟨rfl, hj⟩]
  · rw [gW, if_pos ⟨rfl, hj⟩]
theorem Inv_lo {σ τ σ' τ' : wd_S} {nm nc : Nat} (h : Inv σ τ nm nc) (e2 : σ'.2 = σ.2) (et : tv σ' = tv σ) (em : ∀ j, mv σ' j = mv σ j) (e3 : σ'.1 3 = σ.1 3) (e6 : σ'.1 6 = σ.1 6) (f2 : τ'.2 = τ.2) (f0 : τ'.1 0 0 = τ.1 0 0) (f21 : τ'.1 0 21 = τ.1 0 21) (fa : ∀ a, 2 ≤ a → a ≠ 14 → a ≠ 15 → τ'.1 a = τ.1 a) (hX : iTx σ' τ') (hS : iSt σ' τ') : Inv σ' τ' nm nc := by
  obtain ⟨h0, hT, hY, hO, _, _, ⟨nx, hh, hR⟩, hI⟩ := h
  refine ⟨by rw [e2, f2, f0]; exact h0, by rw [et]; exact cT_c hT (fun a h1 h2 => fa a h1 (by omega) (by omega)), by rw [em, fa 9 (by decide) (by decide) (by decide)]; exact hY, fun j hj => by rw [em]; exact hO j hj, hX, hS, ⟨nx, hh, ?_⟩, fun j hj => ?_⟩
  · unfold iRg lNext lHeld
    rw [e3, f21, fa 13 (by decide) (by decide) (by decide)]
    refine ⟨hR.1, hR.2.1, hR.2.2.1, hR.2.2.2.1, hR.2.2.2.2.1, fun i hi => ?_⟩
    rw [em]
    exact hR.2.2.2.2.2 i hi
  · rw [e6, em, fa 12 (by decide) (by decide) (by decide), fa 11 (by decide) (by decide) (by decide)]; exact hI j hj
theorem iTx_c {σ σ' τ τ' : wd_S} (h : iTx σ τ) (a : σ'.1 1 1 = σ.1 1 1) (b : τ'.1 0 3 = τ.1 0 3) (c : σ'.1 2 = σ.1 2) (d : τ'.1 1 = τ.1 1) : iTx σ' τ' := by
  unfold iTx
  rw [a, b, c, d]
  exact h
theorem iSt_c {σ σ' τ τ' : wd_S} (h : iSt σ τ) (a : σ'.1 0 10 = σ.1 0 10) (b : τ'.1 0 24 = τ.1 0 24) (c : σ'.1 7 = σ.1 7) (d : σ'.1 8 = σ.1 8) (e : τ'.1 14 = τ.1 14) (f : τ'.1 15 = τ.1 15) : iSt σ' τ' := by
  unfold iSt
  rw [a, b, c, d, e, f]
  exact h
theorem iTx_type {σ τ : wd_S} {n : Nat} {x : Int32} (h0 : 0 ≤ x) (hn : n < 200) (e1 : σ.1 1 1 = nI n) (e2 : τ.1 0 3 = nI n) (e3 : σ.1 2 = τ.1 1) (e4 : ∀ i, i < n → 0 ≤ τ.1 1 i) : iTx (wd_up (wd_up σ 2 n x) 1 1 (σ.1 1 1 + 1)) (wd_up (wd_up τ 1 n x) 0 3 (τ.1 0 3 + 1)) := by
  refine ⟨n + 1, by omega, ?_, ?_, ?_, fun i hi => ?_⟩
  · rw [wd_up_k, e1]; exact (if_pos rfl).trans (nI_1 n)
  · rw [wd_up_k, e2]; exact (if_pos rfl).trans (nI_1 n)
  · rw [upW_o _ (by decide), wd_up_k, upW_o _ (by decide), wd_up_k, e3]
  · rw [upW_o _ (by decide), wd_up_k]
    unfold upd
    by_cases q : i = n
    · rw [if_pos q]; exact h0
    · rw [if_neg q]; exact e4 i (by omega)
theorem Inv_type {σ τ : wd_S} {nm nc n : Nat} (h : Inv σ τ nm nc) {x : Int32} (h0 : 0 ≤ x) (hn : n < 200) (e1 : σ.1 1 1 = nI n) (e2 : τ.1 0 3 = nI n) (e3 : σ.1 2 = τ.1 1) (e4 : ∀ i, i < n → 0 ≤ τ.1 1 i) : Inv (wd_up (wd_up σ 2 n x) 1 1 (σ.1 1 1 + 1)) (wd_up (wd_up τ 1 n x) 0 3 (τ.1 0 3 + 1)) nm nc := by
  have ht := h.1.1
  have hS := h.2.2.2.2.2.1
  refine Inv_lo h rfl ((tv_up (wd_up σ 2 n x) ht (by decide) 1 _).trans (tv_up σ ht (by decide) n x)) (fun j => (mv_up_lo _ j (by decide) 1 _).trans (mv_up_lo σ j (by decide) n x)) (by rw [upW_o _ (by decide), upW_o _ (by decide)]) (by rw [upW_o _ (by decide), upW_o _ (by decide)]) rfl (by rw [wd_up_o (by omega), upW_o _ (by decide)]) (by rw [wd_up_o (by omega), upW_o _ (by decide)]) (fun a h1 h2 h3 => by rw [upW_o _ (by omega), upW_o _ (by omega)]) (iTx_type h0 hn e1 e2 e3 e4) (iSt_c hS ?_ ?_ ?_ ?_ ?_ ?_)
  · rw [upW_o _ (by decide), upW_o _ (by decide)]
  · rw [wd_up_o (by omega), upW_o _ (by decide)]
  · rw [upW_o _ (by decide), upW_o _ (by decide)]
  · rw [upW_o _ (by decide), upW_o _ (by decide)]
  · rw [upW_o _ (by decide), upW_o _ (by decide)]
  · rw [upW_o _ (by decide), upW_o _ (by decide)]
theorem Inv_clear {σ τ : wd_S} {nm nc : Nat} (h : Inv σ τ nm nc) : Inv (wd_up σ 1 1 0) (wd_up τ 0 3 0) nm nc := by
  have ht := h.1.1
  have hS := h.2.2.2.2.2.1
  obtain ⟨n, hn, e1, e2, e3, e4⟩ := h.2.2.2.2.1
  refine Inv_lo h rfl (tv_up σ ht (by decide) 1 _) (fun j => mv_up_lo _ j (by decide) 1 _) (upW_o _ (by decide) _ _) (upW_o _ (by decide) _ _) rfl (wd_up_o (by omega)) (wd_up_o (by omega)) (fun a h1 h2 h3 => upW_o _ (by omega) _ _) ⟨0, by decide, ?_, ?_, ?_, fun i hi => absurd hi (by omega)⟩ ?_
  · rw [wd_up_k]; exact if_pos rfl
  · rw [wd_up_k]; exact if_pos rfl
  · rw [upW_o _ (by decide), upW_o _ (by decide)]; exact e3
  · exact iSt_c hS (by rw [upW_o _ (by decide)]) (wd_up_o (by omega)) (upW_o _ (by decide) _ _) (upW_o _ (by decide) _ _) (upW_o _ (by decide) _ _) (upW_o _ (by decide) _ _)
theorem Inv_forget {σ τ : wd_S} {nm nc : Nat} (h : Inv σ τ nm nc) : Inv (wd_up σ 0 10 0) (wd_up τ 0 24 0) nm nc := by
  have ht := h.1.1
  have hX := h.2.2.2.2.1
  refine Inv_lo h rfl (tv_up σ ht (by decide) 10 _) (fun j => mv_up_lo _ j (by decide) 10 _) (upW_o _ (by decide) _ _) (upW_o _ (by decide) _ _) rfl (wd_up_o (by omega)) (wd_up_o (by omega)) (fun a h1 h2 h3 => upW_o _ (by omega) _ _) ?_ ⟨0, by decide, ?_, ?_, fun i hi => absurd hi (by omega)⟩
  · exact iTx_c hX (by rw [upW_o _ (by decide)]) (wd_up_o (by omega)) (upW_o _ (by decide) _ _) (upW_o _ (by decide) _ _)
  · rw [wd_up_k]; exact if_pos rfl
  · rw [wd_up_k]; exact if_pos rfl
theorem Inv_stub {σ τ : wd_S} {nm nc n : Nat} (h : Inv σ τ nm nc) (x y : Int32) (hn : n < 5) (e1 : σ.1 0 10 = nI n) (e2 : τ.1 0 24 = nI n) (e3 : ∀ i, i < n → σ.1 7 i = τ.1 14 i ∧ σ.1 8 i = τ.1 15 i) : Inv (wd_up (wd_up (wd_up σ 7 n x) 8 n y) 0 10 (σ.1 0 10 + 1)) (wd_up (wd_up (wd_up τ 14 n x) 15 n y) 0 24 (τ.1 0 24 + 1)) nm nc := by
  have ht := h.1.1
  have hX := h.2.2.2.2.1
  refine Inv_lo h rfl ((tv_up (wd_up (wd_up σ 7 n x) 8 n y) ht (by decide) 10 _).trans ((tv_up (wd_up σ 7 n x) ht (by decide) n y).trans (tv_up σ ht (by decide) n x))) (fun j => (mv_up_lo _ j (by decide) 10 _).trans ((mv_up_lo _ j (by decide) n y).trans (mv_up_lo σ j (by decide) n x))) (by rw [upW_o _ (by decide), upW_o _ (by decide), upW_o _ (by decide)]) (by rw [upW_o _ (by decide), upW_o _ (by decide), upW_o _ (by decide)]) rfl (by rw [wd_up_o (by omega), upW_o _ (by decide), upW_o _ (by decide)]) (by rw [wd_up_o (by omega), upW_o _ (by decide), upW_o _ (by decide)]) (fun a h1 h2 h3 => by rw [upW_o _ (by omega), upW_o _ (by omega), upW_o _ (by omega)]) ?_ ⟨n + 1, by omega, ?_, ?_, fun i hi => ?_⟩
  · exact iTx_c hX (by rw [upW_o _ (by decide), upW_o _ (by decide), upW_o _ (by decide)]) (by rw [wd_up_o (by omega), upW_o _ (by decide), upW_o _ (by decide)]) (by rw [upW_o _ (by decide), upW_o _ (by decide), upW_o _ (by decide)]) (by rw [upW_o _ (by decide), upW_o _ (by decide), upW_o _ (by decide)])
  · rw [wd_up_k, e1]; exact (if_pos rfl).trans (nI_1 n)
  · rw [wd_up_k, e2]; exact (if_pos rfl).trans (nI_1 n)
  · rw [show (wd_up (wd_up (wd_up σ 7 n x) 8 n y) 0 10 (σ.1 0 10 + 1)).1 7 = upd (σ.1 7) n x by rw [upW_o _ (by decide), upW_o _ (by decide), wd_up_k]]
    rw [show (wd_up (wd_up (wd_up σ 7 n x) 8 n y) 0 10 (σ.1 0 10 + 1)).1 8 = upd (σ.1 8) n y by rw [upW_o _ (by decide), wd_up_k, upW_o _ (by decide)]]
    rw [show (wd_up (wd_up (wd_up τ 14 n x) 15 n y) 0 24 (τ.1 0 24 + 1)).1 14 = upd (τ.1 14) n x by rw [upW_o _ (by decide), upW_o _ (by decide), wd_up_k]]
    rw [show (wd_up (wd_up (wd_up τ 14 n x) 15 n y) 0 24 (τ.1 0 24 + 1)).1 15 = upd (τ.1 15) n y by rw [upW_o _ (by decide), wd_up_k, upW_o _ (by decide)]]
    unfold upd
    by_cases q : i = n
    · simp only [if_pos q]; exact ⟨trivial, trivial⟩
    · simp only [if_neg q]; exact e3 i (by omega)

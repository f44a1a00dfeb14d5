/-! ===== both: deeds, undone, images ===== -/
theorem noteA_9 (τ : wd_S) (u : Nat) {a : Nat} (h : a ≠ 13) (h0 : a ≠ 0) : (noteA τ u).1 a = τ.1 a := by
  unfold noteA
  rw [upW_o _ h0]
  funext b
  exact cpyW_o τ 9 0 13 (32 * u) 32 (by omega)
theorem noteA_0 (τ : wd_S) (u : Nat) {i : Nat} (h : i ≠ 21) : (noteA τ u).1 0 i = τ.1 0 i := by
  unfold noteA
  rw [wd_up_o (by omega)]
  exact cpyW_o τ 9 0 13 (32 * u) 32 (by omega)
theorem noteW_9 (τ : wd_S) (u : Nat) {a : Nat} (h : a ≠ 13) (h0 : a ≠ 0) : (noteW τ u).1 a = τ.1 a := by
  unfold noteW
  by_cases q : u = 10
  · rw [if_pos q, noteA_9 _ _ h h0, upW_o _ h0]
    funext b
    exact cpyW_o τ 13 32 13 0 288 (by omega)
  · rw [if_neg q, noteA_9 _ _ h h0]
theorem noteW_0 (τ : wd_S) (u : Nat) {i : Nat} (h : i ≠ 21) : (noteW τ u).1 0 i = τ.1 0 i := by
  unfold noteW
  by_cases q : u = 10
  · rw [if_pos q, noteA_0 _ _ h, wd_up_o (by omega)]
    exact cpyW_o τ 13 32 13 0 288 (by omega)
  · rw [if_neg q, noteA_0 _ _ h]
theorem noteW_2 (τ : wd_S) (u : Nat) : (noteW τ u).2 = τ.2 := by
  unfold noteW
  by_cases q : u = 10
  · rw [if_pos q]; rfl
  · rw [if_neg q]; rfl
theorem noteW_u (τ : wd_S) (u : Nat) : (noteW τ u).1 0 21 = nI (if u = 10 then 10 else u + 1) := by
  unfold noteW
  by_cases q : u = 10
  · rw [if_pos q, if_pos q, noteA, wd_up_k]; exact if_pos rfl
  · rw [if_neg q, if_neg q, noteA, wd_up_k]; exact if_pos rfl
/-- the kept rows behind a note -/
theorem noteW_13 (τ : wd_S) {u : Nat} (hu : u ≤ 10) {i k : Nat} (hi : i < (if u = 10 then 10 else u + 1)) (hk : k < 32) : (noteW τ u).1 13 (32 * i + k) = if i + 1 = (if u = 10 then 10 else u + 1) then τ.1 9 k else if u = 10 then τ.1 13 (32 * (i + 1) + k) else τ.1 13 (32 * i + k) := by
  unfold noteW
  by_cases q : u = 10
  · rw [if_pos q] at hi
    rw [if_pos q, if_pos q, if_pos q]
    show (if 13 = 0 ∧ 32 * i + k = 21 then nI (9 + 1) else if 13 = 13 ∧ 32 * 9 ≤ 32 * i + k ∧ 32 * i + k < 32 * 9 + 32 then (if 9 = 0 ∧ 0 + (32 * i + k - 32 * 9) = 21 then 9 else if 9 = 13 ∧ 0 ≤ 0 + (32 * i + k - 32 * 9) ∧ 0 + (32 * i + k - 32 * 9) < 0 + 288 then τ.1 13 (32 + (0 + (32 * i + k - 32 * 9) - 0)) else τ.1 9 (0 + (32 * i + k - 32 * 9))) else (if 13 = 0 ∧ 32 * i + k = 21 then 9 else if 13 = 13 ∧ 0 ≤ 32 * i + k ∧ 32 * i + k < 0 + 288 then τ.1 13 (32 + (32 * i + k - 0)) else τ.1 13 (32 * i + k))) = _
    rw [if_neg (by omega)]
    by_cases e : i + 1 = 10
    · rw [if_pos e, if_pos (by omega), if_neg (by omega), if_neg (by omega), show 0 + (32 * i + k - 32 * 9) = k by omega]
    · rw [if_neg e, if_neg (by omega), if_neg (by omega), if_pos (by omega), show 32 + (32 * i + k - 0) = 32 * (i + 1) + k by omega]
  · rw [if_neg q] at hi
    rw [if_neg q, if_neg q, if_neg q]
    show (if 13 = 0 ∧ 32 * i + k = 21 then nI (u + 1) else if 13 = 13 ∧ 32 * u ≤ 32 * i + k ∧ 32 * i + k < 32 * u + 32 then τ.1 9 (0 + (32 * i + k - 32 * u)) else τ.1 13 (32 * i + k)) = _
    rw [if_neg (by omega)]
    by_cases e : i + 1 = u + 1
    · rw [if_pos e, if_pos (by omega), show 0 + (32 * i + k - 32 * u) = k by omega]
    · rw [if_neg e, if_neg (by omega)]
theorem rgJ_add {nx h i : Nat} (hn : nx < 10) (hh : h ≤ 10) (hi : i < (if h = 10 then 10 else h + 1)) : rgJ ((nx + 1) % 10) (if h = 10 then 10 else h + 1) i = if i + 1 = (if h = 10 then 10 else h + 1) then 4 + nx else if h = 10 then rgJ nx h (i + 1) else rgJ nx h i := by
  unfold rgJ
  by_cases q : h = 10
  · rw [if_pos q] at hi
    rw [if_pos q, if_pos q]
    by_cases e : i + 1 = 10
    · rw [if_pos e]; omega
    · rw [if_neg e]; omega
  · rw [if_neg q] at hi
    rw [if_neg q, if_neg q]
    by_cases e : i + 1 = h + 1
    · rw [if_pos e]; omega
    · rw [if_neg e]; omega
theorem rgJ_ne {nx h i : Nat} (hn : nx < 10) (hh : h < 10) (hi : i < h) : rgJ nx h i ≠ 4 + nx := by unfold rgJ; omega
theorem rgJ_ne2 {nx i : Nat} (hn : nx < 10) (hi : i + 1 < 10) : rgJ nx 10 (i + 1) ≠ 4 + nx := by unfold rgJ; omega
/-- the ring behind a note, whatever is present then -/
theorem iRg_add {σ τ : wd_S} {nm nc nx h : Nat} (h6 : nm ≤ 6) (hY : cY (mv σ 0) (τ.1 9) nm nc) (hR : iRg σ τ nm nc nx h) {σ' τ' : wd_S} (e3 : σ'.1 3 = (lgAdd σ).1 3) (em : ∀ j, j ≠ 0 → mv σ' j = mv (lgAdd σ) j) (e0 : τ'.1 0 21 = (noteW τ h).1 0 21) (e13 : τ'.1 13 = (noteW τ h).1 13) : iRg σ' τ' nm nc ((nx + 1) % 10) (if h = 10 then 10 else h + 1) := by
  obtain ⟨hn, hh, e1, e2, e4, hr⟩ := hR
  obtain ⟨a1, a2⟩ := u_add σ hn hh e1 e2
  refine ⟨by omega, by by_cases q : h = 10 <;> simp [q]; omega, ?_, ?_, ?_, fun i hi => ?_⟩
  · show σ'.1 3 1 = _
    rw [e3]; exact a1
  · show σ'.1 3 2 = _
    rw [e3]; exact a2
  · rw [e0]; exact noteW_u τ h
  · rw [em _ (by have := rgJ_r ((nx + 1) % 10) (if h = 10 then 10 else h + 1) i; omega), e13, mv_add σ hn e1, rgJ_add hn hh hi]
    by_cases e : i + 1 = (if h = 10 then 10 else h + 1)
    · rw [if_pos e, if_pos rfl]
      exact cY_r hY h6 (fun k hk => by rw [noteW_13 τ hh hi hk, if_pos e])
    · rw [if_neg e]
      by_cases q : h = 10
      · rw [if_pos q]
        rw [if_pos q] at hi e
        rw [if_neg (by rw [q]; exact rgJ_ne2 hn (by omega))]
        refine cY_r (hr (i + 1) (by omega)) h6 (fun k hk => ?_)
        rw [noteW_13 τ hh (by rw [if_pos q]; exact hi) hk, if_neg (by rw [if_pos q]; exact e), if_pos q]
      · rw [if_neg q]
        rw [if_neg q] at hi e
        rw [if_neg (rgJ_ne hn (by omega) (by omega))]
        refine cY_r (hr i (by omega)) h6 (fun k hk => ?_)
        rw [noteW_13 τ hh (by rw [if_neg q]; exact hi) hk, if_neg (by rw [if_neg q]; exact e), if_neg q]
theorem lgAdd_lo (σ : wd_S) {a : Nat} (h : a < 36) (h3 : a ≠ 3) : (lgAdd σ).1 a = σ.1 a := by
  unfold lgAdd
  rw [upW_o _ h3, upW_o _ h3, stM_lo _ _ _ h]
theorem lgAdd_2 (σ : wd_S) : (lgAdd σ).2 = σ.2 := rfl
/-- a deed -/
theorem Inv_do {σ τ : wd_S} {nm nc u : Nat} (h : Inv σ τ nm nc) (hu : τ.1 0 21 = nI u) (hu2 : u ≤ 10) {M : Nat → Nat → Int32} {r : Nat → Int32} (hz : mz M) (ho : mOk M) (hM : cY M r nm nc) : Inv (stM (lgAdd σ) 0 M) (setR (noteW τ u) 9 r) nm nc := by
  obtain ⟨h0, hT, hY, hO, hX, hS, ⟨nx, hh, hR⟩, hI⟩ := h
  have h6 := hT.1.2.2.2.2.1
  have euh : hh = u := by
    have e := hR.2.2.2.2.1
    rw [hu] at e
    have := congrArg Int32.toNatClampNeg e
    rw [pk_cl u rfl (by omega), pk_cl hh rfl (by have := hR.2.1; omega)] at this
    exact this.symm
  subst euh
  have hn := hR.1
  have e1 := hR.2.2.1
  have eτ : ∀ a, a ≠ 13 → a ≠ 0 → a ≠ 9 → (setR (noteW τ hh) 9 r).1 a = τ.1 a := fun a h1 h2 h3 => by rw [setR_n _ _ _ h3, noteW_9 τ hh h1 h2]
  have eτ0 : ∀ i, i ≠ 21 → (setR (noteW τ hh) 9 r).1 0 i = τ.1 0 i := fun i h1 => by rw [setR_n _ _ _ (by decide), noteW_0 τ hh h1]
  have eσ : ∀ a, a < 36 → a ≠ 3 → (stM (lgAdd σ) 0 M).1 a = σ.1 a := fun a h1 h3 => by rw [stM_lo _ _ _ h1, lgAdd_lo σ h1 h3]
  have em : ∀ j, j ≠ 0 → mv (stM (lgAdd σ) 0 M) j = if j = 4 + nx then mv σ 0 else mv σ j := fun j hj => by rw [mv_st_n _ (Ne.symm hj), mv_add σ hn e1]
  refine ⟨⟨h0.1, ?_, ?_, h0.2.2.2⟩, ?_, ?_, fun j hj => ?_, ?_, ?_, ⟨(nx + 1) % 10, if hh = 10 then 10 else hh + 1, ?_⟩, fun j hj => ?_⟩
  · show σ.2.1 = (noteW τ hh).2.1
    rw [noteW_2]; exact h0.2.1
  · rw [eτ0 0 (by decide)]; exact h0.2.2.1
  · rw [show tv (stM (lgAdd σ) 0 M) = tv σ from (tv_st (lgAdd σ) 0 M h0.1).trans (tv_lgAdd σ h0.1)]
    exact cT_c hT (fun a h1 h2 => eτ a (by omega) (by omega) (by omega))
  · rw [mv_st _ 0 hz, setR_k]; exact hM
  · by_cases q : j = 0
    · rw [q, mv_st _ 0 hz]; exact ho
    · rw [em j q]
      by_cases q2 : j = 4 + nx
      · rw [if_pos q2]; exact hO 0 (by decide)
      · rw [if_neg q2]; exact hO j hj
  · unfold iTx
    rw [eσ 1 (by decide) (by decide), eσ 2 (by decide) (by decide), eτ0 3 (by decide), eτ 1 (by decide) (by decide) (by decide)]
    exact hX
  · unfold iSt
    rw [eσ 0 (by decide) (by decide), eσ 7 (by decide) (by decide), eσ 8 (by decide) (by decide), eτ0 24 (by decide), eτ 14 (by decide) (by decide) (by decide), eτ 15 (by decide) (by decide) (by decide)]
    exact hS
  · exact iRg_add h6 hY hR (stM_lo _ _ _ (by decide)) (fun j hj => mv_st_n _ (Ne.symm hj) _) (by rw [setR_n _ _ _ (by decide)]) (setR_n _ _ _ (by decide))
  · rw [eσ 6 (by decide) (by decide), eτ 12 (by decide) (by decide) (by decide), eτ 11 (by decide) (by decide) (by decide), em _ (by omega), if_neg (by omega)]
    exact hI j hj
theorem lPrev_e {σ : wd_S} {nx : Nat} (hn : nx < 10) (e : lNext σ = nI nx) : lPrev σ = nI ((nx + 9) % 10) := by
  unfold lPrev
  rw [e, show nI nx + 10 - 1 = nI (nx + 9) from (by rw [show (10 : Int32) = nI 10 from rfl, nI_add, show (1 : Int32) = nI 1 from rfl, pk_sub (by omega)]; rfl)]
  exact pk_rem (a := nx + 9) (d := 10) (by omega) (by decide) (by decide)
/-- undone -/
theorem Inv_undo {σ τ : wd_S} {nm nc u : Nat} (h : Inv σ τ nm nc) (hu : τ.1 0 21 = nI (u + 1)) (hu2 : u < 10) : Inv (lgTake σ) (setR (wd_up τ 0 21 (nI u)) 9 (fun i => τ.1 13 (32 * u + i))) nm nc := by
  obtain ⟨h0, hT, hY, hO, hX, hS, ⟨nx, hh, hR⟩, hI⟩ := h
  have h6 := hT.1.2.2.2.2.1
  have euh : hh = u + 1 := by
    have e := hR.2.2.2.2.1
    rw [hu] at e
    have := congrArg Int32.toNatClampNeg e
    rw [pk_cl (u + 1) rfl (by omega), pk_cl hh rfl (by have := hR.2.1; omega)] at this
    exact this.symm
  subst euh
  obtain ⟨hn, hh, e1, e2, e4, hr⟩ := hR
  have ep := lPrev_e hn e1
  have ej : 4 + (lPrev σ).toNatClampNeg = rgJ nx (u + 1) u := by
    rw [pk_cl _ ep (by omega)]
    unfold rgJ
    omega
  unfold lgTake
  rw [ej]
  have hJ := rgJ_r nx (u + 1) u
  have eσ : ∀ a, a < 36 → a ≠ 3 → (stM (wd_up (wd_up σ 3 1 (lPrev σ)) 3 2 (lHeld σ - 1)) 0 (mv σ (rgJ nx (u + 1) u))).1 a = σ.1 a := fun a h1 h3 => by rw [stM_lo _ _ _ h1, upW_o _ h3, upW_o _ h3]
  have em : ∀ j, j ≠ 0 → mv (stM (wd_up (wd_up σ 3 1 (lPrev σ)) 3 2 (lHeld σ - 1)) 0 (mv σ (rgJ nx (u + 1) u))) j = mv σ j := fun j hj => by rw [mv_st_n _ (Ne.symm hj), mv_up_lo _ _ (by decide), mv_up_lo _ _ (by decide)]
  have em0 : mv (stM (wd_up (wd_up σ 3 1 (lPrev σ)) 3 2 (lHeld σ - 1)) 0 (mv σ (rgJ nx (u + 1) u))) 0 = mv σ (rgJ nx (u + 1) u) := mv_st _ 0 (fun k hk => mv_hi σ _ hk)
  have eτ : ∀ a, a ≠ 0 → a ≠ 9 → (setR (wd_up τ 0 21 (nI u)) 9 (fun i => τ.1 13 (32 * u + i))).1 a = τ.1 a := fun a h2 h3 => by rw [setR_n _ _ _ h3, upW_o _ h2]
  have eτ0 : ∀ i, i ≠ 21 → (setR (wd_up τ 0 21 (nI u)) 9 (fun i => τ.1 13 (32 * u + i))).1 0 i = τ.1 0 i := fun i h1 => by rw [setR_n _ _ _ (by decide), wd_up_o (by omega)]
  refine ⟨⟨h0.1, h0.2.1, ?_, h0.2.2.2⟩, ?_, ?_, fun j hj => ?_, ?_, ?_, ⟨(nx + 9) % 10, u, by omega, by omega, ?_, ?_, ?_, fun i hi => ?_⟩, fun j hj => ?_⟩
  · rw [eτ0 0 (by decide)]; exact h0.2.2.1
  · rw [show tv (stM (wd_up (wd_up σ 3 1 (lPrev σ)) 3 2 (lHeld σ - 1)) 0 (mv σ (rgJ nx (u + 1) u))) = tv σ from (tv_st (wd_up (wd_up σ 3 1 (lPrev σ)) 3 2 (lHeld σ - 1)) 0 _ h0.1).trans ((tv_up (wd_up σ 3 1 (lPrev σ)) h0.1 (by decide) 2 _).trans (tv_up σ h0.1 (by decide) 1 _))]
    exact cT_c hT (fun a h1 h2 => eτ a (by omega) (by omega))
  · rw [em0, setR_k]
    exact hr u (by omega)
  · by_cases q : j = 0
    · rw [q, em0]; exact hO _ hJ.2
    · rw [em j q]; exact hO j hj
  · unfold iTx
    rw [eσ 1 (by decide) (by decide), eσ 2 (by decide) (by decide), eτ0 3 (by decide), eτ 1 (by decide) (by decide)]
    exact hX
  · unfold iSt
    rw [eσ 0 (by decide) (by decide), eσ 7 (by decide) (by decide), eσ 8 (by decide) (by decide), eτ0 24 (by decide), eτ 14 (by decide) (by decide), eτ 15 (by decide) (by decide)]
    exact hS
  · show (stM _ 0 _).1 3 1 = _
    rw [stM_lo _ _ _ (by decide), wd_up_o (by omega), wd_up_k]
    exact (if_pos rfl).trans ep
  · show (stM _ 0 _).1 3 2 = _
    rw [stM_lo _ _ _ (by decide), wd_up_k]
    refine (if_pos rfl).trans ?_
    rw [e2]; exact sub1_of (n := u + 1) (by omega)
  · rw [setR_n _ _ _ (by decide), wd_up_k]; exact if_pos rfl
  · rw [em _ (by have := rgJ_r ((nx + 9) % 10) u i; omega), eτ 13 (by decide) (by decide)]
    rw [show rgJ ((nx + 9) % 10) u i = rgJ nx (u + 1) i by unfold rgJ; omega]
    exact hr i (by omega)
  · rw [eσ 6 (by decide) (by decide), eτ 12 (by decide) (by decide), eτ 11 (by decide) (by decide), em _ (by omega)]
    exact hI j hj
/-- an image is kept -/
theorem Inv_keep {σ τ : wd_S} {nm nc m : Nat} (h : Inv σ τ nm nc) (hm : m < 2) : Inv (wd_up (stM σ (2 + m) (mv σ 0)) 6 m 1) (wd_up (cpyW τ 9 0 11 (32 * m) 32) 12 m 1) nm nc := by
  obtain ⟨h0, hT, hY, hO, hX, hS, ⟨nx, hh, hR⟩, hI⟩ := h
  have h6 := hT.1.2.2.2.2.1
  have eσ : ∀ a, a < 36 → a ≠ 6 → (wd_up (stM σ (2 + m) (mv σ 0)) 6 m 1).1 a = σ.1 a := fun a h1 h3 => by rw [upW_o _ h3, stM_lo _ _ _ h1]
  have em : ∀ j, mv (wd_up (stM σ (2 + m) (mv σ 0)) 6 m 1) j = if j = 2 + m then mv σ 0 else mv σ j := fun j => by
    rw [mv_up_lo _ _ (by decide)]
    by_cases q : j = 2 + m
    · rw [if_pos q, q]; exact mv_st _ _ (fun k hk => mv_hi σ _ hk)
    · rw [if_neg q]; exact mv_st_n _ (Ne.symm q) _
  have eτ : ∀ a, a ≠ 11 → a ≠ 12 → (wd_up (cpyW τ 9 0 11 (32 * m) 32) 12 m 1).1 a = τ.1 a := fun a h2 h3 => by
    rw [upW_o _ h3]
    funext b
    exact cpyW_o _ _ _ _ _ _ (by omega)
  refine ⟨⟨h0.1, h0.2.1, ?_, h0.2.2.2⟩, ?_, ?_, fun j hj => ?_, ?_, ?_, ⟨nx, hh, hR.1, hR.2.1, ?_, ?_, ?_, fun i hi => ?_⟩, fun j hj => ?_⟩
  · rw [eτ 0 (by decide) (by decide)]; exact h0.2.2.1
  · rw [show tv (wd_up (stM σ (2 + m) (mv σ 0)) 6 m 1) = tv σ from (tv_up (stM σ (2 + m) (mv σ 0)) h0.1 (by decide) m 1).trans (tv_st σ (2 + m) _ h0.1)]
    exact cT_c hT (fun a h1 h2 => eτ a (by omega) (by omega))
  · rw [em, if_neg (by omega), eτ 9 (by decide) (by decide)]; exact hY
  · rw [em]
    by_cases q : j = 2 + m
    · rw [if_pos q]; exact hO 0 (by decide)
    · rw [if_neg q]; exact hO j hj
  · unfold iTx
    rw [eσ 1 (by decide) (by decide), eσ 2 (by decide) (by decide), eτ 0 (by decide) (by decide), eτ 1 (by decide) (by decide)]
    exact hX
  · unfold iSt
    rw [eσ 0 (by decide) (by decide), eσ 7 (by decide) (by decide), eσ 8 (by decide) (by decide), eτ 0 (by decide) (by decide), eτ 14 (by decide) (by decide), eτ 15 (by decide) (by decide)]
    exact hS
  · show (wd_up _ 6 m 1).1 3 1 = _
    rw [eσ 3 (by decide) (by decide)]; exact hR.2.2.1
  · show (wd_up _ 6 m 1).1 3 2 = _
    rw [eσ 3 (by decide) (by decide)]; exact hR.2.2.2.1
  · rw [eτ 0 (by decide) (by decide)]; exact hR.2.2.2.2.1
  · rw [em, if_neg (by have := rgJ_r nx hh i; omega), eτ 13 (by decide) (by decide)]
    exact hR.2.2.2.2.2 i hi
  · by_cases q : j = m
    · refine Or.inr ⟨?_, ?_, ?_⟩
      · rw [wd_up_k]; exact if_pos q
      · rw [wd_up_k]; exact if_pos q
      · rw [em, if_pos (by omega)]
        refine cY_r hY h6 (fun k hk => ?_)
        rw [upW_o _ (by decide)]
        show (if 11 = 11 ∧ 32 * m ≤ 32 * j + k ∧ 32 * j + k < 32 * m + 32 then τ.1 9 (0 + (32 * j + k - 32 * m)) else τ.1 11 (32 * j + k)) = τ.1 9 k
        rw [if_pos (by omega), show 0 + (32 * j + k - 32 * m) = k by omega]
    · rw [em, if_neg (by omega), wd_up_o (by omega), wd_up_o (by omega), stM_lo _ _ _ (by decide)]
      rw [show (cpyW τ 9 0 11 (32 * m) 32).1 12 j = τ.1 12 j from cpyW_o _ _ _ _ _ _ (by omega)]
      refine (hI j hj).imp id (fun q2 => ⟨q2.1, q2.2.1, cY_r q2.2.2 h6 (fun k hk => ?_)⟩)
      rw [upW_o _ (by decide)]
      exact cpyW_o _ _ _ _ _ _ (by omega)
/-- back to an image -/
theorem Inv_back {σ τ : wd_S} {nm nc m : Nat} (h : Inv σ τ nm nc) (hm : m < 2) (hk : ¬ σ.1 6 m = 0) : Inv (wd_up (stM σ 0 (mv σ (2 + m))) 3 2 0) (wd_up (setR τ 9 (fun i => τ.1 11 (32 * m + i))) 0 21 0) nm nc := by
  obtain ⟨h0, hT, hY, hO, hX, hS, ⟨nx, hh, hR⟩, hI⟩ := h
  have h6 := hT.1.2.2.2.2.1
  have eσ : ∀ a, a < 36 → a ≠ 3 → (wd_up (stM σ 0 (mv σ (2 + m))) 3 2 0).1 a = σ.1 a := fun a h1 h3 => by rw [upW_o _ h3, stM_lo _ _ _ h1]
  have em : ∀ j, mv (wd_up (stM σ 0 (mv σ (2 + m))) 3 2 0) j = if j = 0 then mv σ (2 + m) else mv σ j := fun j => by
    rw [mv_up_lo _ _ (by decide)]
    by_cases q : j = 0
    · rw [if_pos q, q]; exact mv_st _ _ (fun k hk => mv_hi σ _ hk)
    · rw [if_neg q]; exact mv_st_n _ (Ne.symm q) _
  have eτ : ∀ a, a ≠ 0 → a ≠ 9 → (wd_up (setR τ 9 (fun i => τ.1 11 (32 * m + i))) 0 21 0).1 a = τ.1 a := fun a h2 h3 => by rw [upW_o _ h2, setR_n _ _ _ h3]
  have eτ0 : ∀ i, i ≠ 21 → (wd_up (setR τ 9 (fun i => τ.1 11 (32 * m + i))) 0 21 0).1 0 i = τ.1 0 i := fun i h1 => by rw [wd_up_o (by omega), setR_n _ _ _ (by decide)]
  refine ⟨⟨h0.1, h0.2.1, ?_, h0.2.2.2⟩, ?_, ?_, fun j hj => ?_, ?_, ?_, ⟨nx, 0, hR.1, by decide, ?_, ?_, ?_, fun i hi => absurd hi (by omega)⟩, fun j hj => ?_⟩
  · rw [eτ0 0 (by decide)]; exact h0.2.2.1
  · rw [show tv (wd_up (stM σ 0 (mv σ (2 + m))) 3 2 0) = tv σ from (tv_up (stM σ 0 (mv σ (2 + m))) h0.1 (by decide) 2 0).trans (tv_st σ 0 _ h0.1)]
    exact cT_c hT (fun a h1 h2 => eτ a (by omega) (by omega))
  · rw [em, if_pos rfl, upW_o _ (by decide), setR_k]
    rcases hI m hm with q | q
    · exact absurd q.1 hk
    · exact q.2.2
  · rw [em]
    by_cases q : j = 0
    · rw [if_pos q]; exact hO _ (by omega)
    · rw [if_neg q]; exact hO j hj
  · unfold iTx
    rw [eσ 1 (by decide) (by decide), eσ 2 (by decide) (by decide), eτ0 3 (by decide), eτ 1 (by decide) (by decide)]
    exact hX
  · unfold iSt
    rw [eσ 0 (by decide) (by decide), eσ 7 (by decide) (by decide), eσ 8 (by decide) (by decide), eτ0 24 (by decide), eτ 14 (by decide) (by decide), eτ 15 (by decide) (by decide)]
    exact hS
  · show (wd_up _ 3 2 0).1 3 1 = _
    rw [wd_up_o (by omega), stM_lo _ _ _ (by decide)]; exact hR.2.2.1
  · show (wd_up _ 3 2 0).1 3 2 = _
    rw [wd_up_k]; exact if_pos rfl
  · rw [wd_up_k]; exact if_pos rfl
  · rw [em, if_neg (by omega), eσ 6 (by decide) (by decide), eτ 12 (by decide) (by decide), eτ 11 (by decide) (by decide)]
    exact hI j hj

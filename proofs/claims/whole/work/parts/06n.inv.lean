/-! ===== both: the coupling of the two worlds ===== -/
def cY (M : Nat → Nat → Int32) (r : Nat → Int32) (nm nc : Nat) : Prop := cM M r nm nc ∧ ∃ y, y ≤ 999 ∧ r 31 = nI y
/-- the ring: the i-th of h kept moments, the oldest first -/
def rgJ (nx h i : Nat) : Nat := 4 + (nx + 10 - h + i) % 10
def iTx (σ τ : wd_S) : Prop := ∃ n, n ≤ 200 ∧ σ.1 1 1 = nI n ∧ τ.1 0 3 = nI n ∧ σ.1 2 = τ.1 1 ∧ ∀ i, i < n → 0 ≤ τ.1 1 i
def iSt (σ τ : wd_S) : Prop := ∃ n, n ≤ 5 ∧ σ.1 0 10 = nI n ∧ τ.1 0 24 = nI n ∧ ∀ i, i < n → σ.1 7 i = τ.1 14 i ∧ σ.1 8 i = τ.1 15 i
def iRg (σ τ : wd_S) (nm nc nx h : Nat) : Prop := nx < 10 ∧ h ≤ 10 ∧ lNext σ = nI nx ∧ lHeld σ = nI h ∧ τ.1 0 21 = nI h ∧ ∀ i, i < h → cY (mv σ (rgJ nx h i)) (fun k => τ.1 13 (32 * i + k)) nm nc
def iIm (σ τ : wd_S) (nm nc : Nat) : Prop := ∀ j, j < 2 → (σ.1 6 j = 0 ∧ τ.1 12 j = 0) ∨ (σ.1 6 j = 1 ∧ τ.1 12 j = 1 ∧ cY (mv σ (2 + j)) (fun k => τ.1 11 (32 * j + k)) nm nc)
def Inv (σ τ : wd_S) (nm nc : Nat) : Prop :=
  (σ.2.2 < 2 ∧ σ.2.1 = τ.2.1 ∧ τ.1 0 0 = 0 ∧ (0 < nm → 0 < nc)) ∧ cT (tv σ) τ nm nc ∧ cY (mv σ 0) (τ.1 9) nm nc ∧ (∀ j, j < 14 → mOk (mv σ j)) ∧ iTx σ τ ∧ iSt σ τ ∧ (∃ nx h, iRg σ τ nm nc nx h) ∧ iIm σ τ nm nc
theorem rgJ_r (nx h i : Nat) : 4 ≤ rgJ nx h i ∧ rgJ nx h i < 14 := by unfold rgJ; omega
theorem cM_r {M : Nat → Nat → Int32} {r r' : Nat → Int32} {nm nc : Nat} (h : cM M r nm nc) (h6 : nm ≤ 6) (hr : ∀ k, k < 32 → r' k = r k) : cM M r' nm nc := by
  refine ⟨fun m hm => ?_, ?_, ?_, ?_⟩
  · obtain ⟨h1, h2, h3, h4⟩ := h.1 m hm
    rw [hr m (by omega), hr (12 + m) (by omega), hr (18 + m) (by omega), hr (24 + m) (by omega)]
    refine ⟨h1, h2, ?_, h4⟩
    rcases h3 with ⟨q1, q2⟩ | ⟨o, ho, hne, q1, q2, q3, q4⟩
    · exact Or.inl ⟨by rw [hr (6 + m) (by omega)]; exact q1, q2⟩
    · exact Or.inr ⟨o, ho, hne, by rw [hr (6 + m) (by omega)]; exact q1, q2, q3, by rw [hr (6 + o) (by omega)]; exact q4⟩
  · rw [hr 30 (by decide)]; exact h.2.1
  · rw [hr 30 (by decide)]; exact h.2.2.1
  · rw [hr 31 (by decide)]; exact h.2.2.2
theorem cY_r {M : Nat → Nat → Int32} {r r' : Nat → Int32} {nm nc : Nat} (h : cY M r nm nc) (h6 : nm ≤ 6) (hr : ∀ k, k < 32 → r' k = r k) : cY M r' nm nc := by
  obtain ⟨h1, y, hy, e⟩ := h
  exact ⟨cM_r h1 h6 hr, y, hy, by rw [hr 31 (by decide)]; exact e⟩
theorem cT_c {T : Nat → Nat → Int32} {τ τ' : wd_S} {nm nc : Nat} (h : cT T τ nm nc) (e : ∀ a, 2 ≤ a → a ≤ 8 → τ'.1 a = τ.1 a) : cT T τ' nm nc := by
  obtain ⟨⟨a1, a2, a3, a4, a5, a6⟩, hC, hM, hY⟩ := h
  refine ⟨⟨a1, a2, by rw [e 2 (by decide) (by decide)]; exact a3, by rw [e 2 (by decide) (by decide)]; exact a4, a5, a6⟩, fun c hc => ?_, fun m hm => ?_, fun m c hm hc => ?_⟩
  · rw [e 3 (by decide) (by decide), e 4 (by decide) (by decide)]; exact hC c hc
  · rw [e 5 (by decide) (by decide), e 6 (by decide) (by decide), e 7 (by decide) (by decide)]; exact hM m hm
  · rw [e 8 (by decide) (by decide)]; exact hY m c hm hc
theorem cT_tOk {T : Nat → Nat → Int32} {τ : wd_S} {nm nc : Nat} (h : cT T τ nm nc) : tOk T := by
  obtain ⟨⟨a1, a2, a3, a4, a5, a6⟩, _⟩ := h
  refine ⟨⟨?_, ?_⟩, ?_, ?_⟩
  · rw [a1]; exact nI_pos' (by omega)
  · rw [a1]; exact nI_lt (by omega) (by decide)
  · rw [a2]; exact nI_pos' (by omega)
  · rw [a2]; exact nI_lt (by omega) (by decide)
/-- another class's world that shows the same -/
theorem Inv_c {σ σ' τ : wd_S} {nm nc : Nat} (h : Inv σ τ nm nc) (e2 : σ'.2 = σ.2) (et : tv σ' = tv σ) (em : ∀ j, j ≠ 1 → mv σ' j = mv σ j) (e1 : mOk (mv σ' 1)) (ea : σ'.1 0 10 = σ.1 0 10) (eb : σ'.1 1 1 = σ.1 1 1) (ec : ∀ a, a = 2 ∨ a = 3 ∨ a = 6 ∨ a = 7 ∨ a = 8 → σ'.1 a = σ.1 a) : Inv σ' τ nm nc := by
  obtain ⟨h0, hT, hY, hO, hX, hS, ⟨nx, hh, hR⟩, hI⟩ := h
  refine ⟨by rw [e2]; exact h0, by rw [et]; exact hT, by rw [em 0 (by decide)]; exact hY, fun j hj => ?_, ?_, ?_, ⟨nx, hh, ?_⟩, fun j hj => ?_⟩
  · by_cases q : j = 1
    · rw [q]; exact e1
    · rw [em j q]; exact hO j hj
  · unfold iTx; rw [eb, ec 2 (by omega)]; exact hX
  · unfold iSt; rw [ea, ec 7 (by omega), ec 8 (by omega)]; exact hS
  · unfold iRg lNext lHeld
    rw [ec 3 (by omega)]
    refine ⟨hR.1, hR.2.1, hR.2.2.1, hR.2.2.2.1, hR.2.2.2.2.1, fun i hi => ?_⟩
    rw [em _ (by have := rgJ_r nx hh i; omega)]
    exact hR.2.2.2.2.2 i hi
  · rw [ec 6 (by omega), em _ (by omega)]; exact hI j hj
/-- another world of the reference that shows the same -/
theorem Inv_r {σ τ τ' : wd_S} {nm nc : Nat} (h : Inv σ τ nm nc) (e2 : τ'.2 = τ.2) (e : ∀ a, a ≠ 10 → a ≠ 16 → a ≠ 17 → τ'.1 a = τ.1 a) : Inv σ τ' nm nc := by
  obtain ⟨h0, hT, hY, hO, hX, hS, ⟨nx, hh, hR⟩, hI⟩ := h
  refine ⟨?_, cT_c hT (fun a _ _ => e a (by omega) (by omega) (by omega)), by rw [e 9 (by decide) (by decide) (by decide)]; exact hY, hO, ?_, ?_, ⟨nx, hh, ?_⟩, fun j hj => ?_⟩
  · rw [e2, e 0 (by decide) (by decide) (by decide)]; exact h0
  · unfold iTx; rw [e 0 (by decide) (by decide) (by decide), e 1 (by decide) (by decide) (by decide)]; exact hX
  · unfold iSt; rw [e 0 (by decide) (by decide) (by decide), e 14 (by decide) (by decide) (by decide), e 15 (by decide) (by decide) (by decide)]; exact hS
  · unfold iRg; rw [e 0 (by decide) (by decide) (by decide), e 13 (by decide) (by decide) (by decide)]; exact hR
  · rw [e 12 (by decide) (by decide) (by decide), e 11 (by decide) (by decide) (by decide)]; exact hI j hj
theorem Inv_scr {σ σ' τ : wd_S} {nm nc : Nat} (h : Inv σ τ nm nc) (hs : scr σ σ') : Inv σ' τ nm nc := by
  obtain ⟨M, hz, ho, rfl⟩ := hs
  refine Inv_c h rfl (tv_st σ 1 M h.1.1) (fun j hj => mv_st_n σ (Ne.symm hj) M) (by rw [mv_st σ 1 hz]; exact ho) ?_ ?_ (fun a ha => stM_lo σ 1 M (by omega))
  · rw [stM_lo σ 1 M (by decide)]
  · rw [stM_lo σ 1 M (by decide)]
theorem Inv_scW {σ σ' τ : wd_S} {nm nc : Nat} (h : Inv σ τ nm nc) (hs : scW σ σ') : Inv σ' τ nm nc := by
  obtain ⟨B, M, hz, ho, rfl⟩ := hs
  unfold stW
  have eB : ∀ a, a ≠ 9 → a ≠ 0 → (stB σ B).1 a = σ.1 a := fun a h9 h0 => by
    funext i
    show (if a = 9 then B.2.2 i else if a = 0 ∧ i = 12 then B.2.1 else if a = 0 ∧ i = 13 then B.1 else σ.1 a i) = σ.1 a i
    rw [if_neg h9, if_neg (by omega), if_neg (by omega)]
  refine Inv_c h rfl ((tv_st (stB σ B) 1 M h.1.1).trans (tv_stB σ B)) (fun j hj => (mv_st_n (stB σ B) (Ne.symm hj) M).trans (mv_stB σ B j)) (by rw [mv_st (stB σ B) 1 hz]; exact ho) ?_ ?_ (fun a ha => (stM_lo (stB σ B) 1 M (by omega)).trans (eB a (by omega) (by omega)))
  · rw [stM_lo (stB σ B) 1 M (by decide)]
    show (if 0 = 9 then B.2.2 10 else if 0 = 0 ∧ 10 = 12 then B.2.1 else if 0 = 0 ∧ 10 = 13 then B.1 else σ.1 0 10) = σ.1 0 10
    rw [if_neg (by decide), if_neg (by decide), if_neg (by decide)]
  · rw [stM_lo (stB σ B) 1 M (by decide), eB 1 (by decide) (by decide)]
theorem Inv_scrR {σ τ τ' : wd_S} {nm nc : Nat} (h : Inv σ τ nm nc) (hs : scrR τ τ') : Inv σ τ' nm nc := by
  obtain ⟨r, rfl⟩ := hs
  exact Inv_r h rfl (fun a h1 _ _ => setR_n τ 10 r h1)
theorem Inv_scrF {σ τ τ' : wd_S} {nm nc : Nat} (h : Inv σ τ nm nc) (hs : scrF τ τ') : Inv σ τ' nm nc := by
  obtain ⟨b, p, w, rfl⟩ := hs
  unfold fW
  exact Inv_r h rfl (fun a h1 h2 h3 => by rw [setR_n _ _ _ h1, setR_n _ _ _ h2, setR_n _ _ _ h3])
/-- a deed: the moment ahead of it is noted on both sides, then another one is present -/
theorem u_add (σ : wd_S) {nx h : Nat} (hn : nx < 10) (hh : h ≤ 10) (e1 : lNext σ = nI nx) (e2 : lHeld σ = nI h) : lNext (lgAdd σ) = nI ((nx + 1) % 10) ∧ lHeld (lgAdd σ) = nI (if h = 10 then 10 else h + 1) := by
  constructor
  · show lNext σ + 1 - (lNext σ + 1) / 10 * 10 = _
    rw [e1, show nI nx + 1 = nI (nx + 1) from nI_1 nx]
    exact pk_rem (a := nx + 1) (d := 10) (by omega) (by decide) (by decide)
  · show imin (lHeld σ + 1) 10 = _
    rw [e2, show nI h + 1 = nI (h + 1) from nI_1 h]
    unfold imin
    by_cases q : h = 10
    · rw [if_pos q, q]; decide
    · rw [if_neg q, if_neg]
      rw [show (10 : Int32) = nI 10 from rfl, nI_ltI (by decide) (by omega)]
      omega
theorem mv_add (σ : wd_S) {nx : Nat} (hn : nx < 10) (e1 : lNext σ = nI nx) (j : Nat) : mv (lgAdd σ) j = if j = 4 + nx then mv σ 0 else mv σ j := by
  unfold lgAdd
  rw [mv_up_lo _ _ (by decide), mv_up_lo _ _ (by decide), pk_cl nx e1 (by omega)]
  by_cases q : j = 4 + nx
  · rw [if_pos q, q]
    exact mv_st σ (4 + nx) (fun k hk => mv_hi σ 0 hk)
  · rw [if_neg q]
    exact mv_st_n σ (Ne.symm q) _

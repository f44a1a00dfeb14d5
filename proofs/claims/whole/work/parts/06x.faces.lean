/-! ===== both: faces ===== -/
theorem row_e {nm w : Nat} (h6 : nm ≤ 6) (p : Nat → Int32) : rwD nm (fcL nm w p) = true ↔ vld nm (dgt (nm + 1) nm w) := by
  obtain ⟨i1, i2, i3⟩ := rwL_e (b := nm + 1) nm w p 0 true
  have i2 := i2 h6 (by omega) (by omega)
  have i3 := i3 h6 (by omega) (by omega)
  unfold rwD
  rw [Bool.and_eq_true, decide_eq_true_iff]
  show itr (rwC (rwL (nm + 1) nm w p (nI 0) true).1) (rwL (nm + 1) nm w p (nI 0) true).2.2 nm = true ∧ (rwL (nm + 1) nm w p (nI 0) true).2.1 = nI (nm % 2) ↔ _
  generalize rwL (nm + 1) nm w p (nI 0) true = F at i1 i2 i3
  have hz : zct (dgt (nm + 1) nm w) nm ≤ nm := by
    unfold zct
    have : ∀ n, sm (fun k => if dgt (nm + 1) nm w k = 0 then 1 else 0) n ≤ n := by
      intro n
      induction n with
      | zero => rw [sm_0]; exact Nat.le_refl _
      | succ n ih =>
        rw [sm_s]
        by_cases c : dgt (nm + 1) nm w n = 0
        · rw [if_pos c]; omega
        · rw [if_neg c]; omega
    exact this nm
  rw [itr_and (f := rwC F.1) (P := fun m => F.1 m = 0 ∨ F.1 (F.1 m - 1).toNatClampNeg = nI m + 1) (fun m z hm => and_d), i3, i2]
  have ez : nI (0 + zct (dgt (nm + 1) nm w) nm) = nI (nm % 2) ↔ zct (dgt (nm + 1) nm w) nm = nm % 2 := by
    constructor
    · intro e
      have := congrArg Int32.toNatClampNeg e
      rw [pk_cl (0 + zct (dgt (nm + 1) nm w) nm) rfl (by omega), pk_cl (nm % 2) rfl (by omega)] at this
      omega
    · intro e; rw [Nat.zero_add, e]
  have ec : ∀ m, m < nm → ((F.1 m = 0 ∨ F.1 (F.1 m - 1).toNatClampNeg = nI m + 1) ↔ (dgt (nm + 1) nm w m = 0 ∨ dgt (nm + 1) nm w (dgt (nm + 1) nm w m - 1) = m + 1)) := fun m hm => by
    have hl := dgt_lt (B := nm + 1) (by omega) nm w m
    rw [i1 m hm]
    by_cases c : dgt (nm + 1) nm w m = 0
    · exact ⟨fun _ => Or.inl c, fun _ => Or.inl (by rw [c]; rfl)⟩
    · have hl2 := dgt_lt (B := nm + 1) (by omega) nm w (dgt (nm + 1) nm w m - 1)
      rw [show (nI (dgt (nm + 1) nm w m) - 1).toNatClampNeg = dgt (nm + 1) nm w m - 1 from pk_cl _ (sub1_of (by omega)) (by omega), i1 _ (by omega), show nI m + 1 = nI (m + 1) from nI_1 m]
      constructor
      · intro h
        rcases h with h | h
        · exact absurd h (nI_ne0 (by omega) (by omega))
        · have := congrArg Int32.toNatClampNeg h
          rw [pk_cl (dgt (nm + 1) nm w (dgt (nm + 1) nm w m - 1)) rfl (by omega), pk_cl (m + 1) rfl (by omega)] at this
          exact Or.inr this
      · intro h
        rcases h with h | h
        · exact absurd h c
        · exact Or.inr (by rw [h])
  rw [ez]
  unfold vld
  constructor
  · intro h
    exact ⟨h.1.1.2, fun k hk => (ec k hk).mp (h.1.2 k hk), h.2⟩
  · intro h
    exact ⟨⟨⟨rfl, h.1⟩, fun k hk => (ec k hk).mpr (h.2.1 k hk)⟩, h.2.2⟩
/-- the reference's row of a way -/
def wyR (r : Nat → Int32) (nm : Nat) (d : Nat → Nat) : Nat → Int32 := lbW r (fun k => nI (d k)) nm
theorem wyR_c {r : Nat → Int32} {nm : Nat} {d e : Nat → Nat} (h : ∀ k, k < nm → d k = e k) : wyR r nm d = wyR r nm e := by
  funext k
  unfold wyR lbW
  by_cases c : 6 ≤ k ∧ k < 6 + nm
  · rw [if_pos c, if_pos c]
    exact congrArg nI (h _ (by omega))
  · rw [if_neg c, if_neg c]
theorem lbW_e {r : Nat → Int32} {nm w : Nat} (p : Nat → Int32) : lbW r (fcL nm w p).1 nm = wyR r nm (dgt (nm + 1) nm w) := by
  have i1 := (rwL_e (b := nm + 1) nm w p 0 true).1
  funext k
  unfold wyR lbW
  by_cases c : 6 ≤ k ∧ k < 6 + nm
  · rw [if_pos c, if_pos c]; exact i1 _ (by omega)
  · rw [if_neg c, if_neg c]
theorem fc_first {τ : wd_S} {nm w0 : Nat} (h6 : nm ≤ 6) (hw : w0 < (nm + 1) ^ nm) (hv : vld nm (dgt (nm + 1) nm w0)) (hmax : ∀ w, w < (nm + 1) ^ nm → vld nm (dgt (nm + 1) nm w) → lbV τ (wyR (τ.1 9) nm (dgt (nm + 1) nm w)) nm ≤ lbV τ (wyR (τ.1 9) nm (dgt (nm + 1) nm w0)) nm ∧ (lbV τ (wyR (τ.1 9) nm (dgt (nm + 1) nm w)) nm = lbV τ (wyR (τ.1 9) nm (dgt (nm + 1) nm w0)) nm → w0 ≤ w)) (hlo : (-1000000 : Int32) < lbV τ (wyR (τ.1 9) nm (dgt (nm + 1) nm w0)) nm) : (fcV τ nm).1 = lbV τ (wyR (τ.1 9) nm (dgt (nm + 1) nm w0)) nm ∧ ∀ k, k < nm → (fcV τ nm).2.1 k = nI (dgt (nm + 1) nm w0 k) := by
  have key : ∀ n, n ≤ (nm + 1) ^ nm → (n ≤ w0 → (itr (fcS τ nm) (-1000000, τ.1 17, τ.1 16) n).1 < lbV τ (wyR (τ.1 9) nm (dgt (nm + 1) nm w0)) nm) ∧ (w0 < n → (itr (fcS τ nm) (-1000000, τ.1 17, τ.1 16) n).1 = lbV τ (wyR (τ.1 9) nm (dgt (nm + 1) nm w0)) nm ∧ ∀ k, k < nm → (itr (fcS τ nm) (-1000000, τ.1 17, τ.1 16) n).2.1 k = nI (dgt (nm + 1) nm w0 k)) := by
    intro n
    induction n with
    | zero =>
      intro _
      rw [itr]
      exact ⟨fun _ => hlo, fun h => absurd h (by omega)⟩
    | succ n ih =>
      intro hn
      obtain ⟨i1, i2⟩ := ih (by omega)
      rw [itr]
      generalize itr (fcS τ nm) (-1000000, τ.1 17, τ.1 16) n = s at i1 i2
      unfold fcS
      rw [lbW_e]
      refine ⟨fun h => ?_, fun h => ?_⟩
      · have hs := i1 (by omega)
        by_cases q : rwD nm (fcL nm n s.2.2) = true
        · rw [if_pos q]
          have hm := hmax n (by omega) ((row_e h6 _).mp q)
          by_cases c : lbV τ (wyR (τ.1 9) nm (dgt (nm + 1) nm n)) nm ≤ s.1
          · rw [if_pos c]; exact hs
          · rw [if_neg c]
            refine Classical.byContradiction (fun z => ?_)
            have z2 : lbV τ (wyR (τ.1 9) nm (dgt (nm + 1) nm n)) nm = lbV τ (wyR (τ.1 9) nm (dgt (nm + 1) nm w0)) nm := Int32.le_antisymm hm.1 (Int32.not_lt.mp z)
            have := hm.2 z2
            omega
        · rw [if_neg q]; exact hs
      · by_cases q0 : n = w0
        · subst q0
          have hs := i1 (Nat.le_refl _)
          rw [if_pos ((row_e h6 _).mpr hv), if_neg (by rw [Int32.not_le]; exact hs)]
          refine ⟨rfl, fun k hk => ?_⟩
          show cpB s.2.1 (fcL nm n s.2.2).1 nm k = _
          unfold cpB
          rw [if_pos hk]
          exact (rwL_e (b := nm + 1) nm n s.2.2 0 true).1 k hk
        · obtain ⟨e1, e2⟩ := i2 (by omega)
          by_cases q : rwD nm (fcL nm n s.2.2) = true
          · rw [if_pos q]
            have hm := hmax n (by omega) ((row_e h6 _).mp q)
            rw [if_pos (by rw [e1]; exact hm.1)]
            exact ⟨e1, e2⟩
          · rw [if_neg q]
            exact ⟨e1, e2⟩
  exact (key _ (Nat.le_refl _)).2 hw
/-- a way's moment on both sides -/
theorem cM_way {M : Nat → Nat → Int32} {r : Nat → Int32} {nm nc : Nat} (h6 : nm ≤ 6) (hM : cM M r nm nc) {q : List Nat} (hl : q.length = nm) (hd : ∀ k, k < nm → lgd q k ≤ nm) (hv : vld nm (lgd q)) : cM (faM M q) (wyR r nm (lgd q)) nm nc := by
  have e2 : ∀ m, m < nm → faM M q 2 m = eM (if lgd q m = 0 then none else some (lgd q m - 1)) := fun m hm => by
    have := hd m hm
    unfold faM
    rw [if_pos ⟨rfl, by omega⟩]
    show eC (lgd q m) = _
    unfold eC
    rw [if_neg (by omega)]
    by_cases c : lgd q m = 0
    · rw [if_pos c, if_pos c]; rfl
    · rw [if_neg c, if_neg c]; rfl
  have er : ∀ m, m < nm → wyR r nm (lgd q) (6 + m) = eR (if lgd q m = 0 then none else some (lgd q m - 1)) := fun m hm => by
    unfold wyR lbW
    rw [if_pos (by omega), show 6 + m - 6 = m by omega]
    show nI (lgd q m) = _
    by_cases c : lgd q m = 0
    · rw [if_pos c, c]; rfl
    · rw [if_neg c]
      show nI (lgd q m) = nI (lgd q m - 1 + 1)
      rw [show lgd q m - 1 + 1 = lgd q m by omega]
  have hcp : cP (faM M q) (wyR r nm (lgd q)) nm (fun m => if lgd q m = 0 then none else some (lgd q m - 1)) := by
    intro m hm
    refine ⟨e2 m hm, er m hm, fun o e => ?_⟩
    have e : (if lgd q m = 0 then none else some (lgd q m - 1)) = some o := e
    show o < nm ∧ o ≠ m ∧ (if lgd q o = 0 then none else some (lgd q o - 1)) = some m
    have h1 := hd m hm
    have h2 := hv.1 m hm
    by_cases c : lgd q m = 0
    · rw [if_pos c] at e; exact nomatch e
    · rw [if_neg c] at e
      injection e with e
      have h3 := (hv.2.1 m hm).resolve_left c
      rw [e] at h3
      refine ⟨by omega, by omega, ?_⟩
      rw [if_neg (by omega), h3]
      rfl
  have hcf := p_cF hcp
  have eo : ∀ k, k < 6 ∨ 12 ≤ k → wyR r nm (lgd q) k = r k := fun k hk => if_neg (by omega)
  have eN : ∀ k i, k ≠ 2 → faM M q k i = M k i := fun k i hk => if_neg (fun z => hk z.1)
  refine ⟨fun m hm => ?_, ?_, ?_, ?_⟩
  · obtain ⟨g1, g2, g3, g4⟩ := hM.1 m hm
    rw [eN 1 m (by decide), eN 3 m (by decide), eN 4 m (by decide), eN 5 m (by decide), eo m (by omega), eo (12 + m) (by omega), eo (18 + m) (by omega), eo (24 + m) (by omega)]
    exact ⟨g1, g2, hcf m hm, g4⟩
  · rw [eN 0 5 (by decide), eo 30 (by omega)]; exact hM.2.1
  · rw [eo 30 (by omega)]; exact hM.2.2.1
  · rw [eN 0 6 (by decide), eo 31 (by omega)]; exact hM.2.2.2
theorem more_b {T : Nat → Nat → Int32} {τ : wd_S} {nm nc : Nat} (hT : cT T τ nm nc) {M : Nat → Nat → Int32} {r : Nat → Int32} (hM : cM M r nm nc) {m : Nat} (hm : m < nm) : (-1000000 : Int32) < vMore τ r m ∧ vMore τ r m < 1000000 := by
  obtain ⟨k, w, hk, _, ek, _⟩ := has_N hT hM hm
  obtain ⟨_, _, e, _, _, h⟩ := hT.2.2.1 m hm
  rw [e] at h
  obtain ⟨d, _, hd, ed⟩ := pin_N (a := 0) (b := 99) h (by decide) (by decide)
  unfold vMore
  rw [ek, ed, Int32.lt_iff_toInt_lt, Int32.lt_iff_toInt_lt, pk_sub_toInt (by omega) (by omega)]
  show (-1000000 : Int) < (k : Int) - d ∧ (k : Int) - d < 1000000
  omega
theorem lb_e {T : Nat → Nat → Int32} {τ : wd_S} {nm nc : Nat} (hT : cT T τ nm nc) {M : Nat → Nat → Int32} {r : Nat → Int32} (hM : cM M r nm nc) (h0 : 0 < nm) : leastM T M = lbV τ r nm ∧ (-1000000 : Int32) < lbV τ r nm := by
  obtain ⟨n, rfl⟩ : ∃ n, nm = n + 1 := ⟨nm - 1, by omega⟩
  have eS : ∀ m a, lbS τ r m a = imin a (vMore τ r m) := fun m a => by
    unfold lbS imin
    by_cases c : a ≤ vMore τ r m
    · rw [if_pos c, if_neg (Int32.not_lt.mpr c)]
    · rw [if_neg c, if_pos (Int32.not_le.mp c)]
  have e0 : lbS τ r 0 1000000 = vMore τ r 0 := by
    rw [eS]
    exact if_pos (more_b hT hM (by omega)).2
  have e1 : lbV τ r (n + 1) = itr (fun m a => imin a (vMore τ r (m + 1))) (vMore τ r 0) n := by
    unfold lbV
    rw [itr_f, e0]
    exact itr_c (fun i x _ => eS (i + 1) x)
  refine ⟨?_, ?_⟩
  · rw [e1]
    unfold leastM
    rw [cT_nm hT, show n + 1 - 1 = n by omega, gain_e hT hM (by omega)]
    exact itr_c (fun i x hi => by rw [gain_e hT hM (by omega)])
  · rw [e1]
    have : ∀ k, k ≤ n → (-1000000 : Int32) < itr (fun m a => imin a (vMore τ r (m + 1))) (vMore τ r 0) k := by
      intro k
      induction k with
      | zero => intro _; rw [itr]; exact (more_b hT hM (by omega)).1
      | succ k ih =>
        intro hk
        rw [itr]
        unfold imin
        by_cases c : vMore τ r (k + 1) < itr (fun m a => imin a (vMore τ r (m + 1))) (vMore τ r 0) k
        · unfold imin at c
          rw [if_pos c]; exact (more_b hT hM (by omega)).1
        · unfold imin at c
          rw [if_neg c]; exact ih (by omega)
    exact this n (Nat.le_refl _)
theorem faces_e {σ τ : wd_S} {nm nc : Nat} (hT : cT (tv σ) τ nm nc) (hM : cM (mv σ 0) (τ.1 9) nm nc) (h0 : 0 < nm) : (facB σ).2.1 = (fcV τ nm).1 ∧ ∀ m, m < nm → (facB σ).2.2 m = if (fcV τ nm).2.1 m = 0 then -9 else (fcV τ nm).2.1 m - 1 := by
  have h6 := hT.1.2.2.2.2.1
  have hn := cT_nm hT
  have eB : facB σ = (FL nm).foldl (fun B q => weighB (tv σ) (faM (mv σ 0) q) B) (0, σ.1 0 12, σ.1 9) := by
    unfold facB FL
    rw [hn, unM_fa, ← try_e h6 hn 6 (nm % 2 == 1) (List.replicate nm 7) _ List.length_replicate (fun a => ?_)]
    · congr 1
      rw [hT.1.1, show nI nm - nI nm / 2 * 2 = nI (nm % 2) from pk_rem (a := nm) (d := 2) (by omega) (by decide) (by decide)]
      rcases (show nm % 2 = 0 ∨ nm % 2 = 1 by omega) with q | q <;> rw [q] <;> decide
    · rw [List.getD_eq_getElem?_getD, List.getElem?_replicate]
      by_cases c : a < nm
      · rw [if_pos c]; exact Nat.le_refl 7
      · rw [if_neg c]; exact Nat.zero_le 7
  have hs : srtB nm (FL nm) = true := by
    have h := FL_ok nm h6
    rw [Bool.and_eq_true, Bool.and_eq_true, Bool.and_eq_true] at h
    exact h.1.1.2
  have hg := good_fold (nm := nm) (ls := fun q => leastM (tv σ) (faM (mv σ 0) q)) (fc := fun q i => faM (mv σ 0) q 2 i) (f := fun B q => weighB (tv σ) (faM (mv σ 0) q) B) (fun B q => by
    show weighB (tv σ) (faM (mv σ 0) q) B = _
    unfold weighB
    rw [hn]) (FL nm) (fun _ => False) (0, σ.1 0 12, σ.1 9) hs (Or.inl ⟨rfl, fun _ h => h⟩) (fun _ h => h.elim)
  rw [← eB] at hg
  rcases hg with ⟨_, hno⟩ | ⟨_, q0, d0, e1, e2, hm⟩
  · exfalso
    cases hF : FL nm with
    | nil => exact FL_ne h6 hF
    | cons x l => exact hno x (Or.inr (by rw [hF]; exact List.mem_cons_self))
  · have hq0 : q0 ∈ FL nm := d0.resolve_left id
    obtain ⟨l0, b0, v0⟩ := FL_in h6 hq0
    have hb0 : ∀ k, k < nm → lgd q0 k < nm + 1 := fun k hk => Nat.lt_succ_of_le (b0 k hk)
    have hd := numD_d (B := nm + 1) (by omega) hb0
    have hlt := numD_lt hb0
    have cM0 := cM_way h6 hM l0 b0 v0
    have hls : ∀ q, q ∈ FL nm → leastM (tv σ) (faM (mv σ 0) q) = lbV τ (wyR (τ.1 9) nm (lgd q)) nm := fun q hq => by
      obtain ⟨l1, b1, v1⟩ := FL_in h6 hq
      exact (lb_e hT (cM_way h6 hM l1 b1 v1) h0).1
    have hfirst := fc_first (τ := τ) h6 hlt (vld_c (fun k hk => (hd k hk).symm) b0 v0) (fun w hw hv => by
      have hdl : ∀ k, k < nm → dgt (nm + 1) nm w k ≤ nm := fun k _ => Nat.le_of_lt_succ (dgt_lt (by omega) nm w k)
      have hin := FL_all h6 hdl hv
      have hgd : ∀ k, k < nm → lgd (lst (dgt (nm + 1) nm w) nm) k = dgt (nm + 1) nm w k := fun k hk => lst_g _ hk
      have hmm := hm _ (Or.inr hin)
      simp only [] at hmm
      rw [hls _ hin, hls _ hq0, wyR_c hgd] at hmm
      rw [wyR_c hd]
      refine ⟨hmm.1, fun e => ?_⟩
      have h1 := hmm.2 e
      have h2 : numD (nm + 1) (lgd (lst (dgt (nm + 1) nm w) nm)) nm = w := by
        have hlb : ∀ k, k < nm → lgd (lst (dgt (nm + 1) nm w) nm) k < nm + 1 := fun k hk => by rw [hgd k hk]; exact dgt_lt (by omega) nm w k
        exact dgt_inj (by omega) (numD_lt hlb) hw (fun k hk => by rw [numD_d (by omega) hlb k hk, hgd k hk])
      rw [h2] at h1
      exact h1) (by rw [wyR_c hd]; exact (lb_e hT cM0 h0).2)
    refine ⟨?_, fun m hm => ?_⟩
    · rw [e1, hfirst.1, wyR_c hd]
      exact hls q0 hq0
    · rw [e2 m hm, hfirst.2 m hm, hd m hm]
      have h1 := cF_v h6 (cM0.1 m hm).2.2.1
      have h2 : wyR (τ.1 9) nm (lgd q0) (6 + m) = nI (lgd q0 m) := by
        unfold wyR lbW
        rw [if_pos (by omega), show 6 + m - 6 = m by omega]
      rw [h2] at h1
      exact h1

/-! ===== both: a call, step by step ===== -/
def Eqv (V : wd_V) (ad1 ad2 : Nat → Nat) (σ τ : wd_S) (y1 : MethodName) (b1 : ByteArray) (L1 : Nat) (y2 : MethodName) (b2 : ByteArray) (L2 : Nat) (args : List Value) : Prop :=
  ∃ (d1 d2 : Nat) (P1 P2 : wd_P), d1 ≤ 12 ∧ d2 ≤ 12 ∧ wd_C cS V ad1 d1 y1 (Cond.code y1 b1 L1 (some .int) :: wsL_law) σ (.ref (ad1 0) :: args) P1 ∧ wd_C rS V ad2 d2 y2 (Cond.code y2 b2 L2 (some .int) :: wsL_law) τ (.ref (ad2 0) :: args) P2 ∧ ∀ (v1 v2 : Option Value) (s1 s2 : wd_S), P1 v1 s1 → P2 v2 s2 → (∃ r : Int32, v1 = some (.int r) ∧ v2 = some (.int r)) ∧ ∃ nm nc, Inv s1 s2 nm nc
theorem eqv_ee {V : wd_V} {ad1 ad2 : Nat → Nat} {σ τ : wd_S} {y1 : MethodName} {b1 : ByteArray} {L1 : Nat} {y2 : MethodName} {b2 : ByteArray} {L2 : Nat} {args : List Value} {d1 d2 : Nat} {r1 r2 : Int32} {s1 s2 : wd_S} {nm nc : Nat} (h1 : wd_C cS V ad1 d1 y1 (Cond.code y1 b1 L1 (some .int) :: wsL_law) σ (.ref (ad1 0) :: args) (wd_eq (some (.int r1)) s1)) (h2 : wd_C rS V ad2 d2 y2 (Cond.code y2 b2 L2 (some .int) :: wsL_law) τ (.ref (ad2 0) :: args) (wd_eq (some (.int r2)) s2)) (hd1 : d1 ≤ 12) (hd2 : d2 ≤ 12) (e : r1 = r2) (hI : Inv s1 s2 nm nc) : Eqv V ad1 ad2 σ τ y1 b1 L1 y2 b2 L2 args :=
  ⟨d1, d2, _, _, hd1, hd2, h1, h2, fun v1 v2 t1 t2 q1 q2 => ⟨⟨r1, q1.1, by rw [e]; exact q2.1⟩, nm, nc, by rw [q1.2, q2.2]; exact hI⟩⟩
theorem eqv_ep {V : wd_V} {ad1 ad2 : Nat → Nat} {σ τ : wd_S} {y1 : MethodName} {b1 : ByteArray} {L1 : Nat} {y2 : MethodName} {b2 : ByteArray} {L2 : Nat} {args : List Value} {d1 d2 : Nat} {r1 r2 : Int32} {s1 : wd_S} {p2 : Int32 → wd_S → Prop} (h1 : wd_C cS V ad1 d1 y1 (Cond.code y1 b1 L1 (some .int) :: wsL_law) σ (.ref (ad1 0) :: args) (wd_eq (some (.int r1)) s1)) (h2 : wd_C rS V ad2 d2 y2 (Cond.code y2 b2 L2 (some .int) :: wsL_law) τ (.ref (ad2 0) :: args) (wd_pi p2)) (hd1 : d1 ≤ 12) (hd2 : d2 ≤ 12) (k : ∀ r s, p2 r s → r1 = r ∧ ∃ nm nc, Inv s1 s nm nc) : Eqv V ad1 ad2 σ τ y1 b1 L1 y2 b2 L2 args :=
  ⟨d1, d2, _, _, hd1, hd2, h1, h2, fun v1 v2 t1 t2 q1 ⟨r, e, q2⟩ => ⟨⟨r1, q1.1, by rw [(k r t2 q2).1]; exact e⟩, by rw [q1.2]; exact (k r t2 q2).2⟩⟩
theorem eqv_pe {V : wd_V} {ad1 ad2 : Nat → Nat} {σ τ : wd_S} {y1 : MethodName} {b1 : ByteArray} {L1 : Nat} {y2 : MethodName} {b2 : ByteArray} {L2 : Nat} {args : List Value} {d1 d2 : Nat} {r1 r2 : Int32} {s2 : wd_S} {p1 : Int32 → wd_S → Prop} (h1 : wd_C cS V ad1 d1 y1 (Cond.code y1 b1 L1 (some .int) :: wsL_law) σ (.ref (ad1 0) :: args) (wd_pi p1)) (h2 : wd_C rS V ad2 d2 y2 (Cond.code y2 b2 L2 (some .int) :: wsL_law) τ (.ref (ad2 0) :: args) (wd_eq (some (.int r2)) s2)) (hd1 : d1 ≤ 12) (hd2 : d2 ≤ 12) (k : ∀ r s, p1 r s → r = r2 ∧ ∃ nm nc, Inv s s2 nm nc) : Eqv V ad1 ad2 σ τ y1 b1 L1 y2 b2 L2 args :=
  ⟨d1, d2, _, _, hd1, hd2, h1, h2, fun v1 v2 t1 t2 ⟨r, e, q1⟩ q2 => ⟨⟨r2, by rw [e, (k r t1 q1).1], q2.1⟩, by rw [q2.2]; exact (k r t1 q1).2⟩⟩
theorem eqv_pp {V : wd_V} {ad1 ad2 : Nat → Nat} {σ τ : wd_S} {y1 : MethodName} {b1 : ByteArray} {L1 : Nat} {y2 : MethodName} {b2 : ByteArray} {L2 : Nat} {args : List Value} {d1 d2 : Nat} {p1 p2 : Int32 → wd_S → Prop} (h1 : wd_C cS V ad1 d1 y1 (Cond.code y1 b1 L1 (some .int) :: wsL_law) σ (.ref (ad1 0) :: args) (wd_pi p1)) (h2 : wd_C rS V ad2 d2 y2 (Cond.code y2 b2 L2 (some .int) :: wsL_law) τ (.ref (ad2 0) :: args) (wd_pi p2)) (hd1 : d1 ≤ 12) (hd2 : d2 ≤ 12) (k : ∀ r s r' s', p1 r s → p2 r' s' → r = r' ∧ ∃ nm nc, Inv s s' nm nc) : Eqv V ad1 ad2 σ τ y1 b1 L1 y2 b2 L2 args :=
  ⟨d1, d2, _, _, hd1, hd2, h1, h2, fun v1 v2 t1 t2 ⟨r, e, q1⟩ ⟨r', e', q2⟩ => ⟨⟨r', by rw [e, (k r t1 r' t2 q1 q2).1], e'⟩, (k r t1 r' t2 q1 q2).2⟩⟩
theorem Inv_f {σ τ : wd_S} {nm nc : Nat} (h : Inv σ τ nm nc) : σ.2.2 < 2 ∧ τ.1 0 0 = 0 ∧ cT (tv σ) τ nm nc ∧ tOk (tv σ) ∧ nMen (tv σ) = nm ∧ nCrops (tv σ) = nc ∧ τ.1 2 1 = nI nm ∧ τ.1 2 0 = nI nc ∧ nm ≤ 6 ∧ nc ≤ 3 ∧ cM (mv σ 0) (τ.1 9) nm nc ∧ rOk (τ.1 3) (τ.1 9) nm nc ∧ mOk (mv σ 0) ∧ mOk (mv σ 1) :=
  ⟨h.1.1, h.1.2.2.1, h.2.1, cT_tOk h.2.1, cT_nm h.2.1, cT_nc h.2.1, h.2.1.1.2.2.1, h.2.1.1.2.2.2.1, h.2.1.1.2.2.2.2.1, h.2.1.1.2.2.2.2.2, h.2.2.1.1, cT_rOk h.2.1 h.2.2.1.1, h.2.2.2.1 0 (by decide), h.2.2.2.1 1 (by decide)⟩
theorem Inv_u {σ τ : wd_S} {nm nc : Nat} (h : Inv σ τ nm nc) : ∃ u, u ≤ 10 ∧ τ.1 0 21 = nI u ∧ lHeld σ = nI u ∧ lOk σ := by
  obtain ⟨nx, u, h1, h2, h3, h4, h5, _⟩ := h.2.2.2.2.2.2.1
  exact ⟨u, h2, h5, h4, by unfold lOk; rw [h3]; exact ⟨nI_pos' (by omega), nI_lt h1 (by decide)⟩⟩
theorem pMan_e {T : Nat → Nat → Int32} {τ : wd_S} {nm nc : Nat} (hT : cT T τ nm nc) (x : Int32) : pMan T x ↔ ∃ m, m < nm ∧ x = nI m := by
  have h6 := hT.1.2.2.2.2.1
  unfold pMan tMen
  rw [hT.1.1]
  constructor
  · intro h
    obtain ⟨e, hl⟩ := ix_of h.1 h.2 (by omega)
    exact ⟨_, hl, e⟩
  · rintro ⟨m, hm, rfl⟩
    exact ⟨nI_pos' (by omega), nI_lt hm (by omega)⟩
theorem pCrop_e {T : Nat → Nat → Int32} {τ : wd_S} {nm nc : Nat} (hT : cT T τ nm nc) (x : Int32) : pCrop T x ↔ ∃ m, m < nc ∧ x = nI m := by
  have h3 := hT.1.2.2.2.2.2
  unfold pCrop tCrops
  rw [hT.1.2.1]
  constructor
  · intro h
    obtain ⟨e, hl⟩ := ix_of h.1 h.2 (by omega)
    exact ⟨_, hl, e⟩
  · rintro ⟨m, hm, rfl⟩
    exact ⟨nI_pos' (by omega), nI_lt hm (by omega)⟩
theorem le_pred {x : Int32} {n : Nat} (hn : n ≤ 6) : (0 ≤ x ∧ x ≤ nI n - 1) ↔ ∃ m, m < n ∧ x = nI m := by
  constructor
  · intro h
    rcases Nat.eq_zero_or_pos n with z | z
    · subst z
      exact absurd (Int32.le_trans h.1 h.2) (by decide)
    · rw [sub1_of z] at h
      obtain ⟨e, hl⟩ := ix_of h.1 (Int32.lt_of_le_of_lt h.2 (nI_lt (a := n - 1) (b := n) (by omega) (by omega))) (by omega)
      exact ⟨_, hl, e⟩
  · rintro ⟨m, hm, rfl⟩
    rw [sub1_of (by omega)]
    exact ⟨nI_pos' (by omega), nI_le (by omega) (by omega)⟩
theorem qMan_e {T : Nat → Nat → Int32} {τ : wd_S} {nm nc : Nat} (hT : cT T τ nm nc) (x : Int32) : qMan τ x ↔ ∃ m, m < nm ∧ x = nI m := by
  unfold qMan
  rw [hT.1.2.2.1]
  exact le_pred hT.1.2.2.2.2.1
theorem qCrop_e {T : Nat → Nat → Int32} {τ : wd_S} {nm nc : Nat} (hT : cT T τ nm nc) (x : Int32) : qCrop τ x ↔ ∃ m, m < nc ∧ x = nI m := by
  unfold qCrop
  rw [hT.1.2.2.2.1]
  exact le_pred (by have := hT.1.2.2.2.2.2; omega)
theorem bel_e (x : Int32) : pBelow x 2 ↔ pIn x 0 1 := by
  unfold pBelow pIn
  rw [Int32.le_iff_toInt_le, Int32.lt_iff_toInt_lt, Int32.le_iff_toInt_le]
  show (0 : Int) ≤ x.toInt ∧ x.toInt < 2 ↔ (0 : Int) ≤ x.toInt ∧ x.toInt ≤ 1
  omega
theorem bel_i {x : Int32} (h : pIn x 0 1) : ∃ m, m < 2 ∧ x = nI m := by
  obtain ⟨m, _, hm, e⟩ := pin_N (a := 0) (b := 1) h (by decide) (by decide)
  exact ⟨m, by omega, e⟩
theorem bel_z {x : Int32} (h : pIn x 0 1) : x = 0 ∨ x = 1 := by
  obtain ⟨m, hm, e⟩ := bel_i h
  rcases (show m = 0 ∨ m = 1 by omega) with rfl | rfl
  · exact Or.inl e
  · exact Or.inr e
theorem in_ex {x : Int32} {b : Nat} (hb : b < 2 ^ 30) (h : pIn x 0 (nI b)) : ∃ m, m ≤ b ∧ x = nI m := by
  obtain ⟨m, _, hm, e⟩ := pin_N (a := 0) (b := b) h hb (Nat.zero_le _)
  exact ⟨m, hm, e⟩
theorem note_up (τ : wd_S) (u i : Nat) (v : Int32) : wd_up (noteW τ u) 9 i v = setR (noteW τ u) 9 (upd (τ.1 9) i v) := by
  have e := setR_up (noteW τ u) 9 ((noteW τ u).1 9) i v
  rw [setR_self, noteW_9 τ u (by decide) (by decide)] at e
  exact e
theorem add_up {σ : wd_S} (h : lOk σ) {c : Nat} (hc : c < 6) (i : Nat) (v : Int32) : wd_up (lgAdd σ) (cm 0 + c) i v = stM (lgAdd σ) 0 (u2 (mv σ 0) c i v) := by
  have e := stM_up (lgAdd σ) 0 (mv (lgAdd σ) 0) hc i v
  rw [stM_self, mv_lgAdd σ h] at e
  exact e
theorem cY_up {M M' : Nat → Nat → Int32} {r : Nat → Int32} {nm nc : Nat} (h : cY M r nm nc) {i : Nat} {v : Int32} (hi : i ≠ 31) (hM : cM M' (upd r i v) nm nc) : cY M' (upd r i v) nm nc := by
  obtain ⟨_, y, hy, e⟩ := h
  exact ⟨hM, y, hy, by rw [← e]; exact if_neg (Ne.symm hi)⟩
theorem Inv_tr {σ τ : wd_S} {nm nc : Nat} (h : Inv σ τ nm nc) {t t' : Int64} (e : t = t') : Inv (σ.1, t, σ.2.2) (τ.1, t', τ.2.2) nm nc := by
  obtain ⟨h0, hT, hY, hO, hX, hS, hR, hI⟩ := h
  exact ⟨⟨h0.1, e, h0.2.2⟩, hT, hY, hO, hX, hS, hR, hI⟩

/-! ===== making: a call of a side's method; the class's own object ===== -/
theorem va_D_fst {A : Nat → Prop} {ws ws' : va_W} (he : ws.map Prod.fst = ws'.map Prod.fst) (h : va_D A ws) : va_D A ws' := by
  have key : ∀ (i : Nat) (p : Nat × va_E), ws'[i]? = some p → ∃ q : Nat × va_E, ws[i]? = some q ∧ q.1 = p.1 := fun i p hp => by
    have h1 : (ws'.map Prod.fst)[i]? = some p.1 := by rw [List.getElem?_map, hp]; rfl
    rw [← he, List.getElem?_map] at h1
    obtain ⟨q, hq, e⟩ := Option.map_eq_some_iff.mp h1
    exact ⟨q, hq, e⟩
  refine ⟨fun i j p q hp hq e => ?_, fun k p hp => ?_⟩
  · obtain ⟨p', hp', e1⟩ := key i p hp
    obtain ⟨q', hq', e2⟩ := key j q hq
    exact h.1 i j p' q' hp' hq' (by rw [e1, e2]; exact e)
  · obtain ⟨p', hp', e1⟩ := key k p hp
    rw [← e1]
    exact h.2 k p' hp'
theorem wd_fst (sd : wd_Side) (r : Nat → Nat) (cy : Nat → ClassId) (σ σ' : wd_S) : (wd_cells sd r cy σ).map Prod.fst = (wd_cells sd r cy σ').map Prod.fst := by
  unfold wd_cells
  rw [List.map_map, List.map_map]
  rfl
theorem va_D_mv {A : Nat → Prop} {w1 w2 w3 w4 : va_W} (h : va_D A (w1 ++ (w2 ++ (w3 ++ w4)))) : va_D A (w1 ++ (w3 ++ (w2 ++ w4))) := by
  have h' := va_D_r h
  have h'' := va_D_r h'
  have s1 := fun x hx y hy => va_D_sep h (x := x) (y := y) hx hy
  have s2 := fun x hx y hy => va_D_sep h' (x := x) (y := y) hx hy
  have s3 := fun x hx y hy => va_D_sep h'' (x := x) (y := y) hx hy
  refine va_D_app (va_D_l h) (va_D_app (va_D_l h'') (va_D_app (va_D_l h') (va_D_r h'') (fun x hx y hy => s2 x hx y (List.mem_append_right _ hy))) (fun x hx y hy => ?_)) (fun x hx y hy => ?_)
  · rcases List.mem_append.mp hy with hy | hy
    · exact fun e => s2 y hy x (List.mem_append_left _ hx) e.symm
    · exact s3 x hx y hy
  · refine s1 x hx y ?_
    rcases List.mem_append.mp hy with hy | hy
    · exact List.mem_append_right _ (List.mem_append_left _ hy)
    · rcases List.mem_append.mp hy with hy | hy
      · exact List.mem_append_left _ hy
      · exact List.mem_append_right _ (List.mem_append_right _ hy)
theorem kx_mv {V : wd_V} {K : wd_K} {A : Nat → Prop} {nL : Nat} {Q : State → Prop} {n k pc : Nat} {lv : List (Option Value)} {st : List Value} {w1 w2 w3 w4 : va_W} (kk : kx_G V K A nL Q n k pc lv st (w1 ++ (w3 ++ (w2 ++ w4)))) : kx_G V K A nL Q n k pc lv st (w1 ++ (w2 ++ (w3 ++ w4))) :=
  kx_re (fun H hP => va_P_of (fun x hx => va_P_m hP (by
    simp only [List.mem_append] at hx ⊢
    rcases hx with h | h | h | h
    · exact Or.inl h
    · exact Or.inr (Or.inr (Or.inl h))
    · exact Or.inr (Or.inl h)
    · exact Or.inr (Or.inr (Or.inr h))))) va_D_mv kk
theorem kx_callV {V : wd_V} {K : wd_K} {A : Nat → Prop} {own : String} {cc : ByteArray} {nL : Nat} {rm : Room} {Q : State → Prop} {n k pc : Nat} {lv : List (Option Value)} {st : List Value} {w0 w1 : va_W} (hC : kx_Ok V K A own cc nL rm) {sd : wd_Side} {ad : Nat → Nat} {σ : wd_S} {y : MethodName} {bytes : ByteArray} {maxL n' index d' : Nat} {rt : Option FieldType} {C : String} {P : wd_P} (hw : wd_wV own index C y bytes maxL rt n') (As : List Value) {q ci : Nat} {T : u_T} {N : Nat} {fs : List Value} (hq : q < sd.1) (hE : sd.2 ad V.2.2 σ.2 q (σ.1 q) = .inr (ci, fs)) (hcl : vwCl[ci]? = some (C, T, N)) (hM : wd_inj sd ad → wd_C sd V ad d' y (Cond.code y bytes maxL rt :: wsL_law) σ (.ref (ad q) :: As) P) (hd : d' + 1 ≤ rm.frames) (hlo : 8 + (maxL + 11) + 48 * d' ≤ rm.locals) (hcs : n ≤ rm.cells ∧ k ≤ rm.slots) (hn : As.length = n') {st0 : List Value} (hst : st0 = As.reverse ++ .ref (ad q) :: st) (hsum : (st.map fun v => v.category).sum ≤ 8) (hdg : decode cc pc = .ok (.invokevirtual index, 3)) (kk : ∀ (v : Option Value) (σ' : wd_S), P v σ' → kx_G V K A nL Q n k (pc + 3) lv (v.toList ++ st) (w0 ++ (wd_cells sd ad V.2.2 σ' ++ w1))) : kx_G V K A nL Q n k pc lv st0 (w0 ++ (wd_cells sd ad V.2.2 σ ++ w1)) := by
  obtain ⟨p, e, R, s, m, args, below, meth, c⟩ := K
  obtain ⟨hx, hb, hml, hown, hts, hK, hZ, hR, hA⟩ := hC
  subst hR
  obtain ⟨w1', w2', w3', w4', w5', hw6⟩ := hw
  intro H locs ls hP hD hS hl
  have hPm : va_P V.2.1 vwCl (wd_cells sd ad V.2.2 σ) H := va_P_of (fun x hx => va_P_m hP (List.mem_append_right _ (List.mem_append_left _ hx)))
  have hDm := D_inj (va_D_l (va_D_r hD))
  have hAm : ∀ x, wd_A sd ad H.size x → A x := fun x h => h.elim (fun ⟨j, hj, e⟩ => e ▸ hDm.2 j hj) (fun h => hA x (Nat.le_trans hS.1 h))
  have hr : va_Run p V.1 e R s m args below meth c H locs n k 0 0 (F0 m pc ls st0) st (wd_Qc sd V ad P H.size (Value.ref (ad q) :: As).toArray) (wd_A sd ad H.size) := va_runV (As := As) (rest := st) ⟨hx, hb, hml, hown, hts⟩ (hM hDm.1 H.size) (cwV n' hts (wd_good (fun _ h => h) (fun w hw => by
    simp only [wsV, List.mem_append, List.mem_cons, List.not_mem_nil, or_false] at hw
    rcases hw with (rfl | rfl | rfl | rfl) | (rfl | hw)
    · exact w1'
    · exact w2'
    · exact w3'
    · exact w4'
    · exact w5'
    · exact hw)) rfl rfl rfl hw6 ⟨hd, hlo⟩) ⟨wd_blind, va_recv hK hPm hcl (q0 := q) (by rw [wd_at hq, hE]), fun U hU hW => ⟨rfl, by rw [hU], by rw [hU]; exact hPm, va_K.moved hW.alike hK⟩⟩ rfl hn hl.1 hst (lv_room hsum) hdg ⟨by show n + 0 ≤ _; exact hcs.1, by show k + 0 ≤ _; exact hcs.2⟩
  intro T0 hT X
  obtain ⟨v1, st₀, t, T', L, h0, X', hL, e1, e2, ⟨⟨v, σ', hv, hPv, hp⟩, hz, hk⟩, stp⟩ := hr T0 hT X
  cases hv
  rw [h0] at hz hk
  have hsep : ∀ x ∈ w0 ++ w1, x.1 < H.size ∧ ¬ wd_A sd ad H.size x.1 := fun x hx => by
    have hin : x ∈ w0 ++ (wd_cells sd ad V.2.2 σ ++ w1) := by
      rcases List.mem_append.mp hx with h | h
      · exact List.mem_append_left _ h
      · exact List.mem_append_right _ (List.mem_append_right _ h)
    have hlt := (va_P_m hP hin).lt
    refine ⟨hlt, fun z => z.elim (fun ⟨j, hj, e⟩ => ?_) (by omega)⟩
    have hj' : (ad j, sd.2 ad V.2.2 σ.2 j (σ.1 j)) ∈ wd_cells sd ad V.2.2 σ := List.mem_of_getElem? (wd_at hj)
    rcases List.mem_append.mp hx with h | h
    · exact va_D_sep hD h (List.mem_append_left _ hj') e
    · exact va_D_sep (va_D_r hD) hj' h e.symm
  obtain ⟨t2, a1, b1⟩ := kk v1 σ' hPv T'.heap (locs ++ L) ls (va_P_of (fun x hx => by
      rw [e1]
      rcases List.mem_append.mp hx with h | h
      · have := hsep x (List.mem_append_left _ h)
        exact (va_P_m hP (List.mem_append_left _ h)).kept (hk x.1 this.1 this.2)
      · rcases List.mem_append.mp h with h | h
        · exact va_P_m hp h
        · have := hsep x (List.mem_append_right _ h)
          exact (va_P_m hP (List.mem_append_right _ (List.mem_append_right _ h))).kept (hk x.1 this.1 this.2))) (va_D_fst (by
      rw [List.map_append, List.map_append, List.map_append, List.map_append, wd_fst sd ad V.2.2 σ σ']) hD)
    ⟨Nat.le_trans hS.1 (by rw [e1]; exact hz), fun q h1 h2 => by
      rw [e1, hk q (Nat.lt_of_lt_of_le h1 hS.1) (fun z => h2 (hAm q z))]
      exact hS.2.1 q h1 h2, fun q hq => by
      rcases List.mem_append.mp hq with h | h
      · exact hS.2.2 q h
      · exact hAm _ (hL q h)⟩ hl T' rfl X'
  exact ⟨t2, stp t2 a1, b1⟩
/-! the class's first world, and where its cells lie -/
def s0W : wd_S := (fun k i => if k = 38 ∧ i < 6 then -9 else 0, 0, 0)
def adF (h0 qi qk q7 q8 q9 : Nat) (rx ra rb rp rt r rl : Nat → Nat) : Nat → Nat := fun k => if k < 10 then (match k with | 0 => h0 | 1 => rx 0 | 2 => rx 1 | 3 => rl 0 | 4 => rl 1 | 5 => qi | 6 => qk | 7 => q7 | 8 => q8 | _ => q9) else if k < 23 then ra (k - 10) else if k < 36 then rb (k - 23) else if k < 42 then rp (k - 36) else if k < 48 then rt (k - 42) else if k < 60 then r (k - 48) else rl (k - 58)
theorem cE1_c {r r' : Nat → Nat} {cy : Nat → ClassId} {k k' c : Nat} {x : Nat → Int32} (h : c = 0 → ∀ j, 1 ≤ j → j ≤ 6 → r (k + j) = r' (k' + j)) (h6 : c = 6 → ∀ i, i < 6 → r (k + 1 + i) = r' (k' + 1 + i)) : cE1 r cy k c x = cE1 r' cy k' c x := by
  by_cases c0 : c = 0
  · subst c0
    show Sum.inr (3, [Value.int (x 0), .ref (r (k + 1)), .ref (r (k + 2)), .int (x 3), .ref (r (k + 3)), .ref (r (k + 4)), .ref (r (k + 5)), .ref (r (k + 6))]) = Sum.inr (3, [Value.int (x 0), .ref (r' (k' + 1)), .ref (r' (k' + 2)), .int (x 3), .ref (r' (k' + 3)), .ref (r' (k' + 4)), .ref (r' (k' + 5)), .ref (r' (k' + 6))])
    rw [h rfl 1 (by decide) (by decide), h rfl 2 (by decide) (by decide), h rfl 3 (by decide) (by decide), h rfl 4 (by decide) (by decide), h rfl 5 (by decide) (by decide), h rfl 6 (by decide) (by decide)]
  · by_cases c6 : c = 6
    · subst c6
      show Sum.inl (cy 3, 6, Sum.inr (Sum.inr (Sum.inr (Sum.inr (fun i => if i < 6 then some (r (k + 1 + i)) else none))))) = Sum.inl (cy 3, 6, Sum.inr (Sum.inr (Sum.inr (Sum.inr (fun i => if i < 6 then some (r' (k' + 1 + i)) else none)))))
      have e : (fun i => if i < 6 then some (r (k + 1 + i)) else none) = (fun i => if i < 6 then some (r' (k' + 1 + i)) else none) := funext fun i => by
        by_cases q : i < 6
        · rw [if_pos q, if_pos q, h6 rfl i q]
        · rw [if_neg q, if_neg q]
      rw [e]
    · match c, c0, c6 with
      | 1, _, _ => rfl
      | 2, _, _ => rfl
      | 3, _, _ => rfl
      | 4, _, _ => rfl
      | 5, _, _ => rfl
      | c + 7, _, _ => rfl
def piL : List Nat := 0 :: 5 :: (([1, 2] ++ ((List.range 13).map (10 + ·) ++ ((List.range 13).map (23 + ·) ++ ((List.range 6).map (36 + ·) ++ ((List.range 6).map (42 + ·) ++ ((3 :: 4 :: (List.range 60).map (60 + ·)) ++ ([6] ++ ([7] ++ ([8] ++ [9]))))))))) ++ (List.range 12).map (48 + ·))
theorem piL_all : ∀ k : Fin 120, ∃ i : Fin 120, piL[i.val]? = some k.val := by decide +kernel
theorem piL_in : ∀ i : Fin 120, ∀ j : Fin 120, piL[i.val]? = piL[j.val]? → i = j := by decide +kernel
theorem adP {A : Nat → Prop} {D : va_G} {ad : Nat → Nat} {cy : Nat → ClassId} {σ : wd_S} {ws : va_W} {H : Heap} (hws : ws = piL.map (fun k => (ad k, cE ad cy σ.2 k (σ.1 k)))) (hP : va_P D vwCl ws H) (hD : va_D A ws) : wd_inj cS ad ∧ (∀ k, k < cS.1 → A (ad k)) ∧ va_P D vwCl (wd_cells cS ad cy σ) H := by
  have hat : ∀ k, k < 120 → ∃ i, i < 120 ∧ piL[i]? = some k ∧ ws[i]? = some (ad k, cE ad cy σ.2 k (σ.1 k)) := fun k hk => by
    obtain ⟨i, hi⟩ := piL_all ⟨k, hk⟩
    refine ⟨i.val, i.isLt, hi, ?_⟩
    rw [hws, List.getElem?_map, hi]
    rfl
  refine ⟨fun a b ha hb e => ?_, fun k hk => ?_, fun k x hx => ?_⟩
  · obtain ⟨i, hi, pi, wi⟩ := hat a ha
    obtain ⟨j, hj, pj, wj⟩ := hat b hb
    have := hD.1 i j _ _ wi wj e
    subst this
    exact Option.some.inj (pi.symm.trans pj)
  · obtain ⟨i, hi, pi, wi⟩ := hat k hk
    exact hD.2 i _ wi
  · obtain ⟨hk, rfl⟩ := wd_at' hx
    obtain ⟨i, hi, pi, wi⟩ := hat k hk
    exact hP i _ wi
section AD
variable {h0 qi qk q7 q8 q9 : Nat} {rx ra rb rp rt r rl : Nat → Nat} {cy : Nat → ClassId}
theorem ad_a {c : Nat} (h : c < 13) : adF h0 qi qk q7 q8 q9 rx ra rb rp rt r rl (10 + c) = ra c := by
  unfold adF
  rw [if_neg (by omega), if_pos (by omega), show 10 + c - 10 = c by omega]
theorem ad_b {c : Nat} (h : c < 13) : adF h0 qi qk q7 q8 q9 rx ra rb rp rt r rl (23 + c) = rb c := by
  unfold adF
  rw [if_neg (by omega), if_neg (by omega), if_pos (by omega), show 23 + c - 23 = c by omega]
theorem ad_p {c : Nat} (h : c < 6) : adF h0 qi qk q7 q8 q9 rx ra rb rp rt r rl (36 + c) = rp c := by
  unfold adF
  rw [if_neg (by omega), if_neg (by omega), if_neg (by omega), if_pos (by omega), show 36 + c - 36 = c by omega]
theorem ad_t {c : Nat} (h : c < 6) : adF h0 qi qk q7 q8 q9 rx ra rb rp rt r rl (42 + c) = rt c := by
  unfold adF
  rw [if_neg (by omega), if_neg (by omega), if_neg (by omega), if_neg (by omega), if_pos (by omega), show 42 + c - 42 = c by omega]
theorem ad_i {c : Nat} (h : c < 12) : adF h0 qi qk q7 q8 q9 rx ra rb rp rt r rl (48 + c) = r c := by
  unfold adF
  rw [if_neg (by omega), if_neg (by omega), if_neg (by omega), if_neg (by omega), if_neg (by omega), if_pos (by omega), show 48 + c - 48 = c by omega]
theorem ad_l {c : Nat} : adF h0 qi qk q7 q8 q9 rx ra rb rp rt r rl (60 + c) = rl (c + 2) := by
  unfold adF
  rw [if_neg (by omega), if_neg (by omega), if_neg (by omega), if_neg (by omega), if_neg (by omega), if_neg (by omega), show 60 + c - 58 = c + 2 by omega]
theorem row0 {k : Nat} (h : k ≠ 38) : s0W.1 k = fun _ => 0 := funext fun i => if_neg (fun z => h z.1)
theorem cE_told {ad : Nat → Nat} {x : Int64 × Nat} {k c : Nat} {w : Nat → Int32} (h1 : 10 ≤ k) (h2 : k < 36) (hc : (k - 10) % 13 = c) : cE ad cy x k w = cE1 ad cy k c w := by
  unfold cE
  rw [if_neg (by omega), if_pos h2, hc]
theorem cE_mom {ad : Nat → Nat} {x : Int64 × Nat} {k c : Nat} {w : Nat → Int32} (h1 : 36 ≤ k) (hc : (k - 36) % 6 = c) : cE ad cy x k w = cE2 ad cy k c w := by
  unfold cE
  rw [if_neg (by omega), if_neg (by omega), hc]
theorem seg_a (ad : Nat → Nat) (o : Nat) (ho : o = 10 ∨ o = 23) (ra : Nat → Nat) (h : ∀ c, c < 13 → ad (o + c) = ra c) : wd_cells tS ra cy zW = ((List.range 13).map (o + ·)).map (fun k => (ad k, cE ad cy s0W.2 k (s0W.1 k))) := by
  unfold wd_cells
  rw [List.map_map]
  refine List.map_congr_left (fun c hc => ?_)
  have hc : c < 13 := List.mem_range.mp hc
  have e : cE ad cy s0W.2 (o + c) (s0W.1 (o + c)) = cE1 ra cy c c (fun _ => 0) := by
    rw [row0 (by omega), cE_told (c := c) (by omega) (by omega) (by omega)]
    exact cE1_c (fun q j h1 h2 => by rw [show o + c + j = o + (c + j) by omega, h (c + j) (by omega)]) (fun q i hi => by rw [show o + c + 1 + i = o + (c + 1 + i) by omega, h (c + 1 + i) (by omega)])
  exact (Prod.ext (h c hc) e).symm
theorem seg_m (ad : Nat → Nat) (o : Nat) (ho : 36 ≤ o ∧ o % 6 = 0) (ra : Nat → Nat) (w : wd_S) (hw : ∀ c, c < 6 → s0W.1 (o + c) = w.1 c) (h : ∀ c, c < 6 → ad (o + c) = ra c) : wd_cells mS ra cy w = ((List.range 6).map (o + ·)).map (fun k => (ad k, cE ad cy s0W.2 k (s0W.1 k))) := by
  unfold wd_cells
  rw [List.map_map]
  refine List.map_congr_left (fun c hc => ?_)
  have hc : c < 6 := List.mem_range.mp hc
  have e : cE ad cy s0W.2 (o + c) (s0W.1 (o + c)) = cE2 ra cy c c (w.1 c) := by
    rw [hw c hc, cE_mom (c := c) (by omega) (by omega)]
    exact cE2_c (fun q j h1 h2 => by rw [show o + c + j = o + (c + j) by omega, h (c + j) (by omega)])
  exact (Prod.ext (h c hc) e).symm
theorem seg_g (ad : Nat → Nat) (o n : Nat) (ho : 48 ≤ o ∧ o % 6 = 0) (ra : Nat → Nat) (h : ∀ c, c < 6 * n → ad (o + c) = ra c) : gW cy ra n = ((List.range (6 * n)).map (o + ·)).map (fun k => (ad k, cE ad cy s0W.2 k (s0W.1 k))) := by
  unfold gW
  rw [List.map_map]
  refine List.map_congr_left (fun c hc => ?_)
  have hc : c < 6 * n := List.mem_range.mp hc
  have e : cE ad cy s0W.2 (o + c) (s0W.1 (o + c)) = cE2 ra cy c (c % 6) (fun _ => 0) := by
    rw [row0 (by omega), cE_mom (c := c % 6) (by omega) (by omega)]
    exact cE2_c (fun q j h1 h2 => by rw [show o + c + j = o + (c + j) by omega, h (c + j) (by omega)])
  exact (Prod.ext (h c hc) e).symm
theorem seg_l (ad : Nat → Nat) (rl : Nat → Nat) (h3 : ad 3 = rl 0) (h4 : ad 4 = rl 1) (h : ∀ c, ad (60 + c) = rl (c + 2)) : wd_cells lS rl cy zW = (3 :: 4 :: (List.range 60).map (60 + ·)).map (fun k => (ad k, cE ad cy s0W.2 k (s0W.1 k))) := by
  have ef : (fun i => if i < 10 then some (rl (2 + 6 * i)) else none) = (fun i => if i < 10 then some (ad (cm (4 + i))) else none) := funext fun i => by
    rw [show cm (4 + i) = 60 + 6 * i by unfold cm; omega, h, show 6 * i + 2 = 2 + 6 * i by omega]
  apply List.ext_getElem?
  intro i
  match i with
  | 0 =>
    show some (rl 0, Sum.inr (0, [Value.ref (rl 1), .int 0, .int 0])) = some (ad 3, Sum.inr (0, [Value.ref (ad 4), .int 0, .int 0]))
    rw [h3, h4]
  | 1 =>
    show some (rl 1, Sum.inl (cy 2, 10, Sum.inr (Sum.inr (Sum.inr (Sum.inr (fun i => if i < 10 then some (rl (2 + 6 * i)) else none)))))) = some (ad 4, Sum.inl (cy 2, 10, Sum.inr (Sum.inr (Sum.inr (Sum.inr (fun i => if i < 10 then some (ad (cm (4 + i))) else none))))))
    rw [ef, h4]
  | c + 2 =>
    rw [List.map_cons, List.map_cons, List.getElem?_cons_succ, List.getElem?_cons_succ, List.map_map, List.getElem?_map]
    by_cases q : c < 60
    · rw [wd_at (sd := lS) (show c + 2 < 62 by omega), List.getElem?_range q]
      have e : cE ad cy s0W.2 (60 + c) (s0W.1 (60 + c)) = cE2 rl cy (c + 2) (c % 6) (fun _ => 0) := by
        rw [row0 (by omega), cE_mom (c := c % 6) (by omega) (by omega)]
        exact cE2_c (fun q j h1 h2 => by rw [show 60 + c + j = 60 + (c + j) by omega, h (c + j), show c + j + 2 = c + 2 + j by omega])
      exact congrArg some (Prod.ext (h c) e).symm
    · rw [List.getElem?_eq_none (l := wd_cells lS rl cy zW) (by simp [wd_cells, lS]; omega), List.getElem?_eq_none (l := List.range 60) (by rw [List.length_range]; omega)]
      rfl
end AD

set_option maxRecDepth 100000 in
set_option maxHeartbeats 8000000 in
theorem ct_class (V : wd_V) : ctC V yX4_init cX4_init 2 cS (.inr (4, [.null, .null, .null, .null, .null, .null, .null, .null, .null, .null, .int 0, .null, .int 0, .int 0, .long 0])) s0W { frames := 3, cells := 119, slots := 868, locals := 192 } 119 868 := by
  refine ct_intro (by decide) rfl (by decide) (fun K h0 hC hI hV => ?_)
  refine kx_aload hC dX4_init_0 rfl rfl ?_
  refine kx_obj hC (wL_1 _ (List.mem_of_getElem? (i := 9) rfl)) (wL_1 _ (List.mem_of_getElem? (i := 10) rfl)) (wL_1 _ (List.mem_of_getElem? (i := 11) rfl)) dX4_init_1 (by decide) (by decide) ?_
  refine kx_ws (show _ = ((h0, .inr (4, [.null, .null, .null, .null, .null, .null, .null, .null, .null, .null, .int 0, .null, .int 0, .int 0, .long 0])) :: ([] : va_W) : va_W) from rfl) ?_
  refine kx_aload hC dX4_init_4 rfl rfl ?_
  refine kx_new hC (ci := 2) (fs := [.null, .int 0, .int 0, .int 0, .int 0]) rfl inlX2 tyX2 tyX2_ok (wL_1 _ (List.mem_of_getElem? (i := 12) rfl)) (wL_1 _ (List.mem_of_getElem? (i := 13) rfl)) (wL_1 _ (List.mem_of_getElem? (i := 14) rfl)) (fun j hj => by rcases (show j = 0 ∨ j = 1 ∨ j = 2 ∨ j = 3 ∨ j = 4 by omega) with rfl | rfl | rfl | rfl | rfl <;> rfl) (by decide) (by decide) dX4_init_5 (fun q => ?_)
  refine kx_dup hC dX4_init_8 rfl ?_
  refine kx_ws (show _ = (((h0, .inr (4, [.null, .null, .null, .null, .null, .null, .null, .null, .null, .null, .int 0, .null, .int 0, .int 0, .long 0])) :: ([] : va_W)) ++ [(q, .inr (2, [.null, .int 0, .int 0, .int 0, .int 0]))] : va_W) from rfl) ?_
  refine kx_ctorN hC (ct_text V) (fun s hZ => hZ.2.2.1) (wL_2 _ (List.mem_of_getElem? (i := 13) rfl)) (wL_1 _ (List.mem_of_getElem? (i := 14) rfl)) (wL_2 _ (List.mem_of_getElem? (i := 14) rfl)) ⟨rfl, by decide, by decide, by decide⟩ rfl rfl ⟨by decide, by decide⟩ (by decide) (by decide) (Nat.le_of_ble_eq_true rfl) dX4_init_9 (fun rx hrx => ?_)
  subst hrx
  refine kx_ws (show _ = ((h0, .inr (4, [.null, .null, .null, .null, .null, .null, .null, .null, .null, .null, .int 0, .null, .int 0, .int 0, .long 0])) :: (wd_cells xS rx V.2.2 zW) : va_W) from rfl) ?_
  refine kx_putF hC hI (ci := 4) rfl inlX4 tyX4 tyX4_ok nmX4 0 (by decide) (wL_1 _ (List.mem_of_getElem? (i := 15) rfl)) rfl rfl rfl (Nat.le_of_ble_eq_true rfl) dX4_init_12 ?_
  refine kx_ws (show _ = ((h0, .inr (4, [.ref (rx 0), .null, .null, .null, .null, .null, .null, .null, .null, .null, .int 0, .null, .int 0, .int 0, .long 0])) :: (wd_cells xS rx V.2.2 zW) : va_W) from rfl) ?_
  refine kx_aload hC dX4_init_15 rfl rfl ?_
  refine kx_new hC (ci := 3) (fs := [.int 0, .null, .null, .int 0, .null, .null, .null, .null]) rfl inlX3 tyX3 tyX3_ok (wL_1 _ (List.mem_of_getElem? (i := 16) rfl)) (wL_1 _ (List.mem_of_getElem? (i := 17) rfl)) (wL_1 _ (List.mem_of_getElem? (i := 18) rfl)) (fun j hj => by rcases (show j = 0 ∨ j = 1 ∨ j = 2 ∨ j = 3 ∨ j = 4 ∨ j = 5 ∨ j = 6 ∨ j = 7 by omega) with rfl | rfl | rfl | rfl | rfl | rfl | rfl | rfl <;> rfl) (by decide) (by decide) dX4_init_16 (fun q => ?_)
  refine kx_dup hC dX4_init_19 rfl ?_
  refine kx_ws (show _ = (((h0, .inr (4, [.ref (rx 0), .null, .null, .null, .null, .null, .null, .null, .null, .null, .int 0, .null, .int 0, .int 0, .long 0])) :: (wd_cells xS rx V.2.2 zW)) ++ [(q, .inr (3, [.int 0, .null, .null, .int 0, .null, .null, .null, .null]))] : va_W) from rfl) ?_
  refine kx_ctorN hC (ct_told V) (fun s hZ => hZ.2.2.2.1) (wL_2 _ (List.mem_of_getElem? (i := 17) rfl)) (wL_1 _ (List.mem_of_getElem? (i := 18) rfl)) (wL_2 _ (List.mem_of_getElem? (i := 18) rfl)) ⟨rfl, by decide, by decide, by decide⟩ rfl rfl ⟨by decide, by decide⟩ (by decide) (by decide) (Nat.le_of_ble_eq_true rfl) dX4_init_20 (fun ra hra => ?_)
  subst hra
  refine kx_ws (show _ = ((h0, .inr (4, [.ref (rx 0), .null, .null, .null, .null, .null, .null, .null, .null, .null, .int 0, .null, .int 0, .int 0, .long 0])) :: ((wd_cells xS rx V.2.2 zW) ++ wd_cells tS ra V.2.2 zW) : va_W) from rfl) ?_
  refine kx_putF hC hI (ci := 4) rfl inlX4 tyX4 tyX4_ok nmX4 1 (by decide) (wL_1 _ (List.mem_of_getElem? (i := 19) rfl)) rfl rfl rfl (Nat.le_of_ble_eq_true rfl) dX4_init_23 ?_
  refine kx_ws (show _ = ((h0, .inr (4, [.ref (rx 0), .ref (ra 0), .null, .null, .null, .null, .null, .null, .null, .null, .int 0, .null, .int 0, .int 0, .long 0])) :: ((wd_cells xS rx V.2.2 zW) ++ wd_cells tS ra V.2.2 zW) : va_W) from rfl) ?_
  refine kx_aload hC dX4_init_26 rfl rfl ?_
  refine kx_new hC (ci := 3) (fs := [.int 0, .null, .null, .int 0, .null, .null, .null, .null]) rfl inlX3 tyX3 tyX3_ok (wL_1 _ (List.mem_of_getElem? (i := 16) rfl)) (wL_1 _ (List.mem_of_getElem? (i := 17) rfl)) (wL_1 _ (List.mem_of_getElem? (i := 18) rfl)) (fun j hj => by rcases (show j = 0 ∨ j = 1 ∨ j = 2 ∨ j = 3 ∨ j = 4 ∨ j = 5 ∨ j = 6 ∨ j = 7 by omega) with rfl | rfl | rfl | rfl | rfl | rfl | rfl | rfl <;> rfl) (by decide) (by decide) dX4_init_27 (fun q => ?_)
  refine kx_dup hC dX4_init_30 rfl ?_
  refine kx_ws (show _ = (((h0, .inr (4, [.ref (rx 0), .ref (ra 0), .null, .null, .null, .null, .null, .null, .null, .null, .int 0, .null, .int 0, .int 0, .long 0])) :: ((wd_cells xS rx V.2.2 zW) ++ wd_cells tS ra V.2.2 zW)) ++ [(q, .inr (3, [.int 0, .null, .null, .int 0, .null, .null, .null, .null]))] : va_W) from rfl) ?_
  refine kx_ctorN hC (ct_told V) (fun s hZ => hZ.2.2.2.1) (wL_2 _ (List.mem_of_getElem? (i := 17) rfl)) (wL_1 _ (List.mem_of_getElem? (i := 18) rfl)) (wL_2 _ (List.mem_of_getElem? (i := 18) rfl)) ⟨rfl, by decide, by decide, by decide⟩ rfl rfl ⟨by decide, by decide⟩ (by decide) (by decide) (Nat.le_of_ble_eq_true rfl) dX4_init_31 (fun rb hrb => ?_)
  subst hrb
  refine kx_ws (show _ = ((h0, .inr (4, [.ref (rx 0), .ref (ra 0), .null, .null, .null, .null, .null, .null, .null, .null, .int 0, .null, .int 0, .int 0, .long 0])) :: (((wd_cells xS rx V.2.2 zW) ++ wd_cells tS ra V.2.2 zW) ++ wd_cells tS rb V.2.2 zW) : va_W) from rfl) ?_
  refine kx_putF hC hI (ci := 4) rfl inlX4 tyX4 tyX4_ok nmX4 2 (by decide) (wL_1 _ (List.mem_of_getElem? (i := 20) rfl)) rfl rfl rfl (Nat.le_of_ble_eq_true rfl) dX4_init_34 ?_
  refine kx_ws (show _ = ((h0, .inr (4, [.ref (rx 0), .ref (ra 0), .ref (rb 0), .null, .null, .null, .null, .null, .null, .null, .int 0, .null, .int 0, .int 0, .long 0])) :: (((wd_cells xS rx V.2.2 zW) ++ wd_cells tS ra V.2.2 zW) ++ wd_cells tS rb V.2.2 zW) : va_W) from rfl) ?_
  refine kx_aload hC dX4_init_37 rfl rfl ?_
  refine kx_new hC (ci := 1) (fs := [.null, .null, .null, .null, .null, .int 0, .int 0]) rfl inlX1 tyX1 tyX1_ok (wL_1 _ (List.mem_of_getElem? (i := 21) rfl)) (wL_1 _ (List.mem_of_getElem? (i := 22) rfl)) (wL_1 _ (List.mem_of_getElem? (i := 23) rfl)) (fun j hj => by rcases (show j = 0 ∨ j = 1 ∨ j = 2 ∨ j = 3 ∨ j = 4 ∨ j = 5 ∨ j = 6 by omega) with rfl | rfl | rfl | rfl | rfl | rfl | rfl <;> rfl) (by decide) (by decide) dX4_init_38 (fun q => ?_)
  refine kx_dup hC dX4_init_41 rfl ?_
  refine kx_ws (show _ = (((h0, .inr (4, [.ref (rx 0), .ref (ra 0), .ref (rb 0), .null, .null, .null, .null, .null, .null, .null, .int 0, .null, .int 0, .int 0, .long 0])) :: (((wd_cells xS rx V.2.2 zW) ++ wd_cells tS ra V.2.2 zW) ++ wd_cells tS rb V.2.2 zW)) ++ [(q, .inr (1, [.null, .null, .null, .null, .null, .int 0, .int 0]))] : va_W) from rfl) ?_
  refine kx_ctorN hC (ct_moment V) (fun s hZ => hZ.2.2.2.2.1) (wL_3 _ (List.mem_of_getElem? (i := 3) rfl)) (wL_1 _ (List.mem_of_getElem? (i := 23) rfl)) (wL_3 _ (List.mem_of_getElem? (i := 4) rfl)) ⟨rfl, by decide, by decide, by decide⟩ rfl rfl ⟨by decide, by decide⟩ (by decide) (by decide) (Nat.le_of_ble_eq_true rfl) dX4_init_42 (fun rp hrp => ?_)
  subst hrp
  refine kx_ws (show _ = ((h0, .inr (4, [.ref (rx 0), .ref (ra 0), .ref (rb 0), .null, .null, .null, .null, .null, .null, .null, .int 0, .null, .int 0, .int 0, .long 0])) :: ((((wd_cells xS rx V.2.2 zW) ++ wd_cells tS ra V.2.2 zW) ++ wd_cells tS rb V.2.2 zW) ++ wd_cells mS rp V.2.2 zW) : va_W) from rfl) ?_
  refine kx_putF hC hI (ci := 4) rfl inlX4 tyX4 tyX4_ok nmX4 3 (by decide) (wL_2 _ (List.mem_of_getElem? (i := 0) rfl)) rfl rfl rfl (Nat.le_of_ble_eq_true rfl) dX4_init_45 ?_
  refine kx_ws (show _ = ((h0, .inr (4, [.ref (rx 0), .ref (ra 0), .ref (rb 0), .ref (rp 0), .null, .null, .null, .null, .null, .null, .int 0, .null, .int 0, .int 0, .long 0])) :: ((((wd_cells xS rx V.2.2 zW) ++ wd_cells tS ra V.2.2 zW) ++ wd_cells tS rb V.2.2 zW) ++ wd_cells mS rp V.2.2 zW) : va_W) from rfl) ?_
  refine kx_aload hC dX4_init_48 rfl rfl ?_
  refine kx_new hC (ci := 1) (fs := [.null, .null, .null, .null, .null, .int 0, .int 0]) rfl inlX1 tyX1 tyX1_ok (wL_1 _ (List.mem_of_getElem? (i := 21) rfl)) (wL_1 _ (List.mem_of_getElem? (i := 22) rfl)) (wL_1 _ (List.mem_of_getElem? (i := 23) rfl)) (fun j hj => by rcases (show j = 0 ∨ j = 1 ∨ j = 2 ∨ j = 3 ∨ j = 4 ∨ j = 5 ∨ j = 6 by omega) with rfl | rfl | rfl | rfl | rfl | rfl | rfl <;> rfl) (by decide) (by decide) dX4_init_49 (fun q => ?_)
  refine kx_dup hC dX4_init_52 rfl ?_
  refine kx_ws (show _ = (((h0, .inr (4, [.ref (rx 0), .ref (ra 0), .ref (rb 0), .ref (rp 0), .null, .null, .null, .null, .null, .null, .int 0, .null, .int 0, .int 0, .long 0])) :: ((((wd_cells xS rx V.2.2 zW) ++ wd_cells tS ra V.2.2 zW) ++ wd_cells tS rb V.2.2 zW) ++ wd_cells mS rp V.2.2 zW)) ++ [(q, .inr (1, [.null, .null, .null, .null, .null, .int 0, .int 0]))] : va_W) from rfl) ?_
  refine kx_ctorN hC (ct_moment V) (fun s hZ => hZ.2.2.2.2.1) (wL_3 _ (List.mem_of_getElem? (i := 3) rfl)) (wL_1 _ (List.mem_of_getElem? (i := 23) rfl)) (wL_3 _ (List.mem_of_getElem? (i := 4) rfl)) ⟨rfl, by decide, by decide, by decide⟩ rfl rfl ⟨by decide, by decide⟩ (by decide) (by decide) (Nat.le_of_ble_eq_true rfl) dX4_init_53 (fun rt hrt => ?_)
  subst hrt
  refine kx_ws (show _ = ((h0, .inr (4, [.ref (rx 0), .ref (ra 0), .ref (rb 0), .ref (rp 0), .null, .null, .null, .null, .null, .null, .int 0, .null, .int 0, .int 0, .long 0])) :: (((((wd_cells xS rx V.2.2 zW) ++ wd_cells tS ra V.2.2 zW) ++ wd_cells tS rb V.2.2 zW) ++ wd_cells mS rp V.2.2 zW) ++ wd_cells mS rt V.2.2 zW) : va_W) from rfl) ?_
  refine kx_putF hC hI (ci := 4) rfl inlX4 tyX4 tyX4_ok nmX4 4 (by decide) (wL_2 _ (List.mem_of_getElem? (i := 1) rfl)) rfl rfl rfl (Nat.le_of_ble_eq_true rfl) dX4_init_56 ?_
  refine kx_ws (show _ = ((h0, .inr (4, [.ref (rx 0), .ref (ra 0), .ref (rb 0), .ref (rp 0), .ref (rt 0), .null, .null, .null, .null, .null, .int 0, .null, .int 0, .int 0, .long 0])) :: (((((wd_cells xS rx V.2.2 zW) ++ wd_cells tS ra V.2.2 zW) ++ wd_cells tS rb V.2.2 zW) ++ wd_cells mS rp V.2.2 zW) ++ wd_cells mS rt V.2.2 zW) : va_W) from rfl) ?_
  refine kx_aload hC dX4_init_59 rfl rfl ?_
  refine kx_new hC (ci := 0) (fs := [.null, .int 0, .int 0]) rfl inlX0 tyX0 tyX0_ok (wL_2 _ (List.mem_of_getElem? (i := 2) rfl)) (wL_2 _ (List.mem_of_getElem? (i := 3) rfl)) (wL_2 _ (List.mem_of_getElem? (i := 4) rfl)) (fun j hj => by rcases (show j = 0 ∨ j = 1 ∨ j = 2 by omega) with rfl | rfl | rfl <;> rfl) (by decide) (by decide) dX4_init_60 (fun q => ?_)
  refine kx_dup hC dX4_init_63 rfl ?_
  refine kx_ws (show _ = (((h0, .inr (4, [.ref (rx 0), .ref (ra 0), .ref (rb 0), .ref (rp 0), .ref (rt 0), .null, .null, .null, .null, .null, .int 0, .null, .int 0, .int 0, .long 0])) :: (((((wd_cells xS rx V.2.2 zW) ++ wd_cells tS ra V.2.2 zW) ++ wd_cells tS rb V.2.2 zW) ++ wd_cells mS rp V.2.2 zW) ++ wd_cells mS rt V.2.2 zW)) ++ [(q, .inr (0, [.null, .int 0, .int 0]))] : va_W) from rfl) ?_
  refine kx_ctor hC (ct_log V) (wL_3 _ (List.mem_of_getElem? (i := 11) rfl)) (wL_3 _ (List.mem_of_getElem? (i := 12) rfl)) (wL_2 _ (List.mem_of_getElem? (i := 4) rfl)) (wL_3 _ (List.mem_of_getElem? (i := 13) rfl)) ⟨rfl, by decide, by decide, by decide⟩ rfl rfl ⟨by decide, by decide⟩ (by decide) (by decide) (Nat.le_of_ble_eq_true rfl) dX4_init_64 (fun rl hrl => ?_)
  subst hrl
  refine kx_ws (show _ = ((h0, .inr (4, [.ref (rx 0), .ref (ra 0), .ref (rb 0), .ref (rp 0), .ref (rt 0), .null, .null, .null, .null, .null, .int 0, .null, .int 0, .int 0, .long 0])) :: ((((((wd_cells xS rx V.2.2 zW) ++ wd_cells tS ra V.2.2 zW) ++ wd_cells tS rb V.2.2 zW) ++ wd_cells mS rp V.2.2 zW) ++ wd_cells mS rt V.2.2 zW) ++ wd_cells lS rl V.2.2 zW) : va_W) from rfl) ?_
  refine kx_putF hC hI (ci := 4) rfl inlX4 tyX4 tyX4_ok nmX4 5 (by decide) (wL_2 _ (List.mem_of_getElem? (i := 5) rfl)) rfl rfl rfl (Nat.le_of_ble_eq_true rfl) dX4_init_67 ?_
  refine kx_ws (show _ = ((h0, .inr (4, [.ref (rx 0), .ref (ra 0), .ref (rb 0), .ref (rp 0), .ref (rt 0), .ref (rl 0), .null, .null, .null, .null, .int 0, .null, .int 0, .int 0, .long 0])) :: ((((((wd_cells xS rx V.2.2 zW) ++ wd_cells tS ra V.2.2 zW) ++ wd_cells tS rb V.2.2 zW) ++ wd_cells mS rp V.2.2 zW) ++ wd_cells mS rt V.2.2 zW) ++ wd_cells lS rl V.2.2 zW) : va_W) from rfl) ?_
  refine kx_aload hC dX4_init_70 rfl rfl ?_
  refine kx_iconst (v := 2) hC dX4_init_71 rfl ?_
  refine kx_newq hC 2 rfl (by decide) (wL_1 _ (List.mem_of_getElem? (i := 21) rfl)) (by decide) (by decide) dX4_init_72 (fun qi => ?_)
  refine kx_ws (show _ = ((h0, .inr (4, [.ref (rx 0), .ref (ra 0), .ref (rb 0), .ref (rp 0), .ref (rt 0), .ref (rl 0), .null, .null, .null, .null, .int 0, .null, .int 0, .int 0, .long 0])) :: (((((((wd_cells xS rx V.2.2 zW) ++ wd_cells tS ra V.2.2 zW) ++ wd_cells tS rb V.2.2 zW) ++ wd_cells mS rp V.2.2 zW) ++ wd_cells mS rt V.2.2 zW) ++ wd_cells lS rl V.2.2 zW) ++ [(qi, .inl (V.2.2 2, 2, .inr (.inr (.inr (.inr (fun _ => none))))))]) : va_W) from rfl) ?_
  refine kx_putF hC hI (ci := 4) rfl inlX4 tyX4 tyX4_ok nmX4 6 (by decide) (wL_2 _ (List.mem_of_getElem? (i := 6) rfl)) rfl rfl rfl (Nat.le_of_ble_eq_true rfl) dX4_init_75 ?_
  refine kx_ws (show _ = ((h0, .inr (4, [.ref (rx 0), .ref (ra 0), .ref (rb 0), .ref (rp 0), .ref (rt 0), .ref (rl 0), .ref qi, .null, .null, .null, .int 0, .null, .int 0, .int 0, .long 0])) :: (((((((wd_cells xS rx V.2.2 zW) ++ wd_cells tS ra V.2.2 zW) ++ wd_cells tS rb V.2.2 zW) ++ wd_cells mS rp V.2.2 zW) ++ wd_cells mS rt V.2.2 zW) ++ wd_cells lS rl V.2.2 zW) ++ [(qi, .inl (V.2.2 2, 2, .inr (.inr (.inr (.inr (fun _ => none))))))]) : va_W) from rfl) ?_
  refine kx_aload hC dX4_init_78 rfl rfl ?_
  refine kx_iconst (v := 2) hC dX4_init_79 rfl ?_
  refine kx_newz hC 2 rfl (by decide) (by decide) (by decide) (wL_2 _ (List.mem_of_getElem? (i := 7) rfl)) dX4_init_80 (fun qk => ?_)
  refine kx_ws (show _ = ((h0, .inr (4, [.ref (rx 0), .ref (ra 0), .ref (rb 0), .ref (rp 0), .ref (rt 0), .ref (rl 0), .ref qi, .null, .null, .null, .int 0, .null, .int 0, .int 0, .long 0])) :: ((((((((wd_cells xS rx V.2.2 zW) ++ wd_cells tS ra V.2.2 zW) ++ wd_cells tS rb V.2.2 zW) ++ wd_cells mS rp V.2.2 zW) ++ wd_cells mS rt V.2.2 zW) ++ wd_cells lS rl V.2.2 zW) ++ [(qi, .inl (V.2.2 2, 2, .inr (.inr (.inr (.inr (fun _ => none))))))]) ++ [(qk, .inl (V.2.2 1, 2, .inl (fun _ => 0)))]) : va_W) from rfl) ?_
  refine kx_putF hC hI (ci := 4) rfl inlX4 tyX4 tyX4_ok nmX4 7 (by decide) (wL_2 _ (List.mem_of_getElem? (i := 8) rfl)) rfl rfl rfl (Nat.le_of_ble_eq_true rfl) dX4_init_82 ?_
  refine kx_ws (show _ = ((h0, .inr (4, [.ref (rx 0), .ref (ra 0), .ref (rb 0), .ref (rp 0), .ref (rt 0), .ref (rl 0), .ref qi, .ref qk, .null, .null, .int 0, .null, .int 0, .int 0, .long 0])) :: ((((((((wd_cells xS rx V.2.2 zW) ++ wd_cells tS ra V.2.2 zW) ++ wd_cells tS rb V.2.2 zW) ++ wd_cells mS rp V.2.2 zW) ++ wd_cells mS rt V.2.2 zW) ++ wd_cells lS rl V.2.2 zW) ++ [(qi, .inl (V.2.2 2, 2, .inr (.inr (.inr (.inr (fun _ => none))))))]) ++ [(qk, .inl (V.2.2 1, 2, .inl (fun _ => 0)))]) : va_W) from rfl) ?_
  refine kx_aload hC dX4_init_85 rfl rfl ?_
  refine kx_iconst (v := 5) hC dX4_init_86 rfl ?_
  refine kx_newi hC 5 rfl (by decide) (by decide) (by decide) (wL_2 _ (List.mem_of_getElem? (i := 9) rfl)) dX4_init_87 (fun q7 => ?_)
  refine kx_ws (show _ = ((h0, .inr (4, [.ref (rx 0), .ref (ra 0), .ref (rb 0), .ref (rp 0), .ref (rt 0), .ref (rl 0), .ref qi, .ref qk, .null, .null, .int 0, .null, .int 0, .int 0, .long 0])) :: (((((((((wd_cells xS rx V.2.2 zW) ++ wd_cells tS ra V.2.2 zW) ++ wd_cells tS rb V.2.2 zW) ++ wd_cells mS rp V.2.2 zW) ++ wd_cells mS rt V.2.2 zW) ++ wd_cells lS rl V.2.2 zW) ++ [(qi, .inl (V.2.2 2, 2, .inr (.inr (.inr (.inr (fun _ => none))))))]) ++ [(qk, .inl (V.2.2 1, 2, .inl (fun _ => 0)))]) ++ [(q7, .inl (V.2.2 0, 5, .inl (fun _ => 0)))]) : va_W) from rfl) ?_
  refine kx_putF hC hI (ci := 4) rfl inlX4 tyX4 tyX4_ok nmX4 8 (by decide) (wL_2 _ (List.mem_of_getElem? (i := 10) rfl)) rfl rfl rfl (Nat.le_of_ble_eq_true rfl) dX4_init_89 ?_
  refine kx_ws (show _ = ((h0, .inr (4, [.ref (rx 0), .ref (ra 0), .ref (rb 0), .ref (rp 0), .ref (rt 0), .ref (rl 0), .ref qi, .ref qk, .ref q7, .null, .int 0, .null, .int 0, .int 0, .long 0])) :: (((((((((wd_cells xS rx V.2.2 zW) ++ wd_cells tS ra V.2.2 zW) ++ wd_cells tS rb V.2.2 zW) ++ wd_cells mS rp V.2.2 zW) ++ wd_cells mS rt V.2.2 zW) ++ wd_cells lS rl V.2.2 zW) ++ [(qi, .inl (V.2.2 2, 2, .inr (.inr (.inr (.inr (fun _ => none))))))]) ++ [(qk, .inl (V.2.2 1, 2, .inl (fun _ => 0)))]) ++ [(q7, .inl (V.2.2 0, 5, .inl (fun _ => 0)))]) : va_W) from rfl) ?_
  refine kx_aload hC dX4_init_92 rfl rfl ?_
  refine kx_iconst (v := 5) hC dX4_init_93 rfl ?_
  refine kx_newi hC 5 rfl (by decide) (by decide) (by decide) (wL_2 _ (List.mem_of_getElem? (i := 9) rfl)) dX4_init_94 (fun q8 => ?_)
  refine kx_ws (show _ = ((h0, .inr (4, [.ref (rx 0), .ref (ra 0), .ref (rb 0), .ref (rp 0), .ref (rt 0), .ref (rl 0), .ref qi, .ref qk, .ref q7, .null, .int 0, .null, .int 0, .int 0, .long 0])) :: ((((((((((wd_cells xS rx V.2.2 zW) ++ wd_cells tS ra V.2.2 zW) ++ wd_cells tS rb V.2.2 zW) ++ wd_cells mS rp V.2.2 zW) ++ wd_cells mS rt V.2.2 zW) ++ wd_cells lS rl V.2.2 zW) ++ [(qi, .inl (V.2.2 2, 2, .inr (.inr (.inr (.inr (fun _ => none))))))]) ++ [(qk, .inl (V.2.2 1, 2, .inl (fun _ => 0)))]) ++ [(q7, .inl (V.2.2 0, 5, .inl (fun _ => 0)))]) ++ [(q8, .inl (V.2.2 0, 5, .inl (fun _ => 0)))]) : va_W) from rfl) ?_
  refine kx_putF hC hI (ci := 4) rfl inlX4 tyX4 tyX4_ok nmX4 9 (by decide) (wL_2 _ (List.mem_of_getElem? (i := 11) rfl)) rfl rfl rfl (Nat.le_of_ble_eq_true rfl) dX4_init_96 ?_
  refine kx_ws (show _ = ((h0, .inr (4, [.ref (rx 0), .ref (ra 0), .ref (rb 0), .ref (rp 0), .ref (rt 0), .ref (rl 0), .ref qi, .ref qk, .ref q7, .ref q8, .int 0, .null, .int 0, .int 0, .long 0])) :: ((((((((((wd_cells xS rx V.2.2 zW) ++ wd_cells tS ra V.2.2 zW) ++ wd_cells tS rb V.2.2 zW) ++ wd_cells mS rp V.2.2 zW) ++ wd_cells mS rt V.2.2 zW) ++ wd_cells lS rl V.2.2 zW) ++ [(qi, .inl (V.2.2 2, 2, .inr (.inr (.inr (.inr (fun _ => none))))))]) ++ [(qk, .inl (V.2.2 1, 2, .inl (fun _ => 0)))]) ++ [(q7, .inl (V.2.2 0, 5, .inl (fun _ => 0)))]) ++ [(q8, .inl (V.2.2 0, 5, .inl (fun _ => 0)))]) : va_W) from rfl) ?_
  refine kx_aload hC dX4_init_99 rfl rfl ?_
  refine kx_bipush (v := 6) hC dX4_init_100 rfl ?_
  refine kx_newi hC 6 rfl (by decide) (by decide) (by decide) (wL_2 _ (List.mem_of_getElem? (i := 9) rfl)) dX4_init_102 (fun q9 => ?_)
  refine kx_ws (show _ = ((h0, .inr (4, [.ref (rx 0), .ref (ra 0), .ref (rb 0), .ref (rp 0), .ref (rt 0), .ref (rl 0), .ref qi, .ref qk, .ref q7, .ref q8, .int 0, .null, .int 0, .int 0, .long 0])) :: (((((((((((wd_cells xS rx V.2.2 zW) ++ wd_cells tS ra V.2.2 zW) ++ wd_cells tS rb V.2.2 zW) ++ wd_cells mS rp V.2.2 zW) ++ wd_cells mS rt V.2.2 zW) ++ wd_cells lS rl V.2.2 zW) ++ [(qi, .inl (V.2.2 2, 2, .inr (.inr (.inr (.inr (fun _ => none))))))]) ++ [(qk, .inl (V.2.2 1, 2, .inl (fun _ => 0)))]) ++ [(q7, .inl (V.2.2 0, 5, .inl (fun _ => 0)))]) ++ [(q8, .inl (V.2.2 0, 5, .inl (fun _ => 0)))]) ++ [(q9, .inl (V.2.2 0, 6, .inl (fun _ => 0)))]) : va_W) from rfl) ?_
  refine kx_putF hC hI (ci := 4) rfl inlX4 tyX4 tyX4_ok nmX4 11 (by decide) (wL_2 _ (List.mem_of_getElem? (i := 12) rfl)) rfl rfl rfl (Nat.le_of_ble_eq_true rfl) dX4_init_104 ?_
  refine kx_ws (show _ = ((h0, .inr (4, [.ref (rx 0), .ref (ra 0), .ref (rb 0), .ref (rp 0), .ref (rt 0), .ref (rl 0), .ref qi, .ref qk, .ref q7, .ref q8, .int 0, .ref q9, .int 0, .int 0, .long 0])) :: (((((((((((wd_cells xS rx V.2.2 zW) ++ wd_cells tS ra V.2.2 zW) ++ wd_cells tS rb V.2.2 zW) ++ wd_cells mS rp V.2.2 zW) ++ wd_cells mS rt V.2.2 zW) ++ wd_cells lS rl V.2.2 zW) ++ [(qi, .inl (V.2.2 2, 2, .inr (.inr (.inr (.inr (fun _ => none))))))]) ++ [(qk, .inl (V.2.2 1, 2, .inl (fun _ => 0)))]) ++ [(q7, .inl (V.2.2 0, 5, .inl (fun _ => 0)))]) ++ [(q8, .inl (V.2.2 0, 5, .inl (fun _ => 0)))]) ++ [(q9, .inl (V.2.2 0, 6, .inl (fun _ => 0)))]) : va_W) from rfl) ?_
  refine kx_aload hC dX4_init_107 rfl rfl ?_
  refine kx_get hC (ci := 4) rfl inlX4 3 (by decide) (wL_2 _ (List.mem_of_getElem? (i := 0) rfl)) rfl rfl dX4_init_108 ?_
  refine kx_iconst (v := 0) hC dX4_init_111 rfl ?_
  refine kx_ws (show _ = (((h0, .inr (4, [.ref (rx 0), .ref (ra 0), .ref (rb 0), .ref (rp 0), .ref (rt 0), .ref (rl 0), .ref qi, .ref qk, .ref q7, .ref q8, .int 0, .ref q9, .int 0, .int 0, .long 0])) :: (wd_cells xS rx V.2.2 zW ++ (wd_cells tS ra V.2.2 zW ++ wd_cells tS rb V.2.2 zW))) ++ (wd_cells mS rp V.2.2 zW ++ (wd_cells mS rt V.2.2 zW ++ (wd_cells lS rl V.2.2 zW ++ ([(qi, .inl (V.2.2 2, 2, .inr (.inr (.inr (.inr (fun _ => none))))))] ++ ([(qk, .inl (V.2.2 1, 2, .inl (fun _ => 0)))] ++ ([(q7, .inl (V.2.2 0, 5, .inl (fun _ => 0)))] ++ ([(q8, .inl (V.2.2 0, 5, .inl (fun _ => 0)))] ++ [(q9, .inl (V.2.2 0, 6, .inl (fun _ => 0)))]))))))) : va_W) from by simp only [List.append_assoc, List.cons_append, List.nil_append]) ?_
  refine kx_callV hC cw_X4_61 [.int 0] (sd := mS) (ad := rp) (q := 0) (by decide) rfl rfl (fun hinj => m_begin hinj) (by decide) (by decide) ⟨by decide, by decide⟩ rfl rfl (Nat.le_of_ble_eq_true rfl) dX4_init_112 (fun v σ1 hv => ?_)
  obtain ⟨rfl, rfl⟩ := hv
  refine kx_ws (show _ = ([(h0, .inr (4, [.ref (rx 0), .ref (ra 0), .ref (rb 0), .ref (rp 0), .ref (rt 0), .ref (rl 0), .ref qi, .ref qk, .ref q7, .ref q8, .int 0, .ref q9, .int 0, .int 0, .long 0]))] ++ ((wd_cells xS rx V.2.2 zW ++ (wd_cells tS ra V.2.2 zW ++ (wd_cells tS rb V.2.2 zW ++ (wd_cells mS rp V.2.2 (bgW 6) ++ (wd_cells mS rt V.2.2 zW ++ wd_cells lS rl V.2.2 zW))))) ++ ([(qi, .inl (V.2.2 2, 2, .inr (.inr (.inr (.inr (fun _ => none))))))] ++ ([(qk, .inl (V.2.2 1, 2, .inl (fun _ => 0)))] ++ ([(q7, .inl (V.2.2 0, 5, .inl (fun _ => 0)))] ++ ([(q8, .inl (V.2.2 0, 5, .inl (fun _ => 0)))] ++ [(q9, .inl (V.2.2 0, 6, .inl (fun _ => 0)))]))))) : va_W) from by simp only [List.append_assoc, List.cons_append, List.nil_append]) ?_
  refine kx_mv ?_
  have e0 : (fun _ : Nat => (none : Option Nat)) = (fun j => if j < 0 then some ((fun _ => 0) (6 * j)) else none) := funext fun j => (if_neg (by omega)).symm
  refine kx_ws (show _ = ((h0, .inr (4, [.ref (rx 0), .ref (ra 0), .ref (rb 0), .ref (rp 0), .ref (rt 0), .ref (rl 0), .ref qi, .ref qk, .ref q7, .ref q8, .int 0, .ref q9, .int 0, .int 0, .long 0])) :: (qi, .inl (V.2.2 2, 2, .inr (.inr (.inr (.inr (fun j => if j < 0 then some ((fun _ => 0) (6 * j)) else none)))))) :: ((wd_cells xS rx V.2.2 zW ++ (wd_cells tS ra V.2.2 zW ++ (wd_cells tS rb V.2.2 zW ++ (wd_cells mS rp V.2.2 (bgW 6) ++ (wd_cells mS rt V.2.2 zW ++ (wd_cells lS rl V.2.2 zW ++ ([(qk, .inl (V.2.2 1, 2, .inl (fun _ => 0)))] ++ ([(q7, .inl (V.2.2 0, 5, .inl (fun _ => 0)))] ++ ([(q8, .inl (V.2.2 0, 5, .inl (fun _ => 0)))] ++ [(q9, .inl (V.2.2 0, 6, .inl (fun _ => 0)))]))))))))) ++ gW V.2.2 (fun _ => 0) 0) : va_W) from by rw [e0]; simp only [List.append_assoc, List.cons_append, List.nil_append, gW, Nat.mul_zero, List.range_zero, List.map_nil, List.append_nil]) ?_
  refine kx_iconst (v := 0) hC dX4_init_115 rfl ?_
  refine kx_istore hC dX4_init_116 rfl (by decide) rfl ?_
  refine kx_widen (n' := 107 + 6 * 0) (k' := 794 + 37 * 0) (by decide) (by decide) ?_
  have loop : ∀ (j i : Nat) (r : Nat → Nat), i ≤ 2 → 2 < i + j → kx_G V K (mkA h0 (kx_sz K)) 2 (kx_Q V K cS s0W h0 119 868) (107 + 6 * i) (794 + 37 * i) 117 [some (.ref h0), some (.int (nI i))] [] ((h0, .inr (4, [.ref (rx 0), .ref (ra 0), .ref (rb 0), .ref (rp 0), .ref (rt 0), .ref (rl 0), .ref qi, .ref qk, .ref q7, .ref q8, .int 0, .ref q9, .int 0, .int 0, .long 0])) :: (qi, .inl (V.2.2 2, 2, .inr (.inr (.inr (.inr (fun j => if j < i then some (r (6 * j)) else none)))))) :: ((wd_cells xS rx V.2.2 zW ++ (wd_cells tS ra V.2.2 zW ++ (wd_cells tS rb V.2.2 zW ++ (wd_cells mS rp V.2.2 (bgW 6) ++ (wd_cells mS rt V.2.2 zW ++ (wd_cells lS rl V.2.2 zW ++ ([(qk, .inl (V.2.2 1, 2, .inl (fun _ => 0)))] ++ ([(q7, .inl (V.2.2 0, 5, .inl (fun _ => 0)))] ++ ([(q8, .inl (V.2.2 0, 5, .inl (fun _ => 0)))] ++ [(q9, .inl (V.2.2 0, 6, .inl (fun _ => 0)))]))))))))) ++ gW V.2.2 r i)) := by
    intro j
    induction j with
    | zero => intro i r h1 h2; exact absurd h2 (by omega)
    | succ j ih =>
      intro i r h1 h2
      refine kx_iload hC dX4_init_117 rfl rfl ?_
      refine kx_iconst (v := 2) hC dX4_init_118 rfl ?_
      refine kx_ge (tgt := 141) hC dX4_init_119 (by decide) (fun c => ?_) (fun c => ?_)
      · have hin : i = 2 := lp_ge (x := 2) (n := 2) rfl c h1 (by decide)
        subst hin
        refine kx_vret hC hV dX4_init_141 (fun H hP hD => ⟨adF h0 qi qk q7 q8 q9 rx ra rb rp rt r rl, rfl, ?_⟩)
        refine adP ?_ hP hD
        have ei : (fun j => if j < 2 then some (r (6 * j)) else none) = (fun i => if i < 2 then some (adF h0 qi qk q7 q8 q9 rx ra rb rp rt r rl (cm (2 + i))) else none) := funext fun i => by
          by_cases q : i < 2
          · rw [if_pos q, if_pos q, show cm (2 + i) = 48 + 6 * i by unfold cm; omega, ad_i (by omega)]
          · rw [if_neg q, if_neg q]
        have hP6 : ∀ c, c < 6 → s0W.1 (36 + c) = (bgW 6).1 c := fun c hc => funext fun i => by
          show (if 36 + c = 38 ∧ i < 6 then (-9 : Int32) else 0) = if c = 2 ∧ i < 6 then -9 else 0
          by_cases q : c = 2 ∧ i < 6
          · rw [if_pos q, if_pos (by omega)]
          · rw [if_neg q, if_neg (by omega)]
        rw [seg_a (adF h0 qi qk q7 q8 q9 rx ra rb rp rt r rl) 10 (Or.inl rfl) ra (fun c hc => ad_a hc), seg_a (adF h0 qi qk q7 q8 q9 rx ra rb rp rt r rl) 23 (Or.inr rfl) rb (fun c hc => ad_b hc), seg_m (adF h0 qi qk q7 q8 q9 rx ra rb rp rt r rl) 36 ⟨by decide, by decide⟩ rp (bgW 6) hP6 (fun c hc => ad_p hc), seg_m (adF h0 qi qk q7 q8 q9 rx ra rb rp rt r rl) 42 ⟨by decide, by decide⟩ rt zW (fun c hc => row0 (by omega)) (fun c hc => ad_t hc), seg_g (adF h0 qi qk q7 q8 q9 rx ra rb rp rt r rl) 48 2 ⟨by decide, by decide⟩ r (fun c hc => ad_i hc), seg_l (adF h0 qi qk q7 q8 q9 rx ra rb rp rt r rl) rl rfl rfl (fun c => ad_l), ei]
        unfold piL
        simp only [List.map_append, List.map_cons, List.map_nil]
        rfl
      · have hin : i < 2 := lp_lt (x := 2) (n := 2) rfl c h1 (by decide)
        refine kx_aload hC dX4_init_122 rfl rfl ?_
        refine kx_get hC (ci := 4) rfl inlX4 6 (by decide) (wL_2 _ (List.mem_of_getElem? (i := 6) rfl)) rfl rfl dX4_init_123 ?_
        refine kx_iload hC dX4_init_126 rfl rfl ?_
        refine kx_new hC (ci := 1) (fs := [.null, .null, .null, .null, .null, .int 0, .int 0]) rfl inlX1 tyX1 tyX1_ok (wL_1 _ (List.mem_of_getElem? (i := 21) rfl)) (wL_1 _ (List.mem_of_getElem? (i := 22) rfl)) (wL_1 _ (List.mem_of_getElem? (i := 23) rfl)) (fun j hj => by rcases (show j = 0 ∨ j = 1 ∨ j = 2 ∨ j = 3 ∨ j = 4 ∨ j = 5 ∨ j = 6 by omega) with rfl | rfl | rfl | rfl | rfl | rfl | rfl <;> rfl) (by show _ ≤ 119; omega) (by show _ ≤ 868; omega) dX4_init_127 (fun q => ?_)
        refine kx_dup hC dX4_init_130 rfl ?_
        refine kx_ctorN hC (ct_moment V) (fun s hZ => hZ.2.2.2.2.1) (wL_3 _ (List.mem_of_getElem? (i := 3) rfl)) (wL_1 _ (List.mem_of_getElem? (i := 23) rfl)) (wL_3 _ (List.mem_of_getElem? (i := 4) rfl)) ⟨rfl, by decide, by decide, by decide⟩ rfl rfl ⟨by decide, by decide⟩ (by show _ ≤ 119; omega) (by show _ ≤ 868; omega) (Nat.le_of_ble_eq_true rfl) dX4_init_131 (fun r' hr' => ?_)
        refine kx_ws (show _ = ((h0, .inr (4, [.ref (rx 0), .ref (ra 0), .ref (rb 0), .ref (rp 0), .ref (rt 0), .ref (rl 0), .ref qi, .ref qk, .ref q7, .ref q8, .int 0, .ref q9, .int 0, .int 0, .long 0])) :: (qi, .inl (V.2.2 2, 2, .inr (.inr (.inr (.inr (fun j => if j < i then some (r (6 * j)) else none)))))) :: (((wd_cells xS rx V.2.2 zW ++ (wd_cells tS ra V.2.2 zW ++ (wd_cells tS rb V.2.2 zW ++ (wd_cells mS rp V.2.2 (bgW 6) ++ (wd_cells mS rt V.2.2 zW ++ (wd_cells lS rl V.2.2 zW ++ ([(qk, .inl (V.2.2 1, 2, .inl (fun _ => 0)))] ++ ([(q7, .inl (V.2.2 0, 5, .inl (fun _ => 0)))] ++ ([(q8, .inl (V.2.2 0, 5, .inl (fun _ => 0)))] ++ [(q9, .inl (V.2.2 0, 6, .inl (fun _ => 0)))]))))))))) ++ gW V.2.2 r i) ++ wd_cells mS r' V.2.2 zW) : va_W) from rfl) ?_
        refine kx_ast hC i rfl hin (by decide) (v := q) (vs := [.ref (r' 1), .ref (r' 2), .ref (r' 3), .ref (r' 4), .ref (r' 5), .int 0, .int 0]) (by
          rw [← hr']
          exact List.mem_cons_of_mem _ (List.mem_cons_of_mem _ (List.mem_append_right _ (List.mem_cons_self)))) dX4_init_134 ?_
        refine kx_iinc hC dX4_init_135 rfl (by decide) (nI_1 i) rfl ?_
        refine kx_goto (tgt := 117) hC dX4_init_138 (by decide) ?_
        rw [List.append_assoc, gW_s, ← hr']
        have ef : (fun j => if j = i then some (r' 0) else if j < i then some (r (6 * j)) else none) = (fun j => if j < i + 1 then some ((fun k => if k < 6 * i then r k else r' (k - 6 * i)) (6 * j)) else none) := funext fun j => by
          show _ = if j < i + 1 then some (if 6 * j < 6 * i then r (6 * j) else r' (6 * j - 6 * i)) else none
          by_cases a : j = i
          · rw [if_pos a, if_pos (by omega), if_neg (by omega), show 6 * j - 6 * i = 0 by omega]
          · rw [if_neg a]
            by_cases b : j < i
            · rw [if_pos b, if_pos (by omega), if_pos (by omega)]
            · rw [if_neg b, if_neg (by omega)]
        rw [ef]
        exact kx_widen (n' := 107 + 6 * (i + 1)) (k' := 794 + 37 * (i + 1)) (by omega) (by omega) (ih (i + 1) (fun k => if k < 6 * i then r k else r' (k - 6 * i)) (by omega) (by omega))
  exact loop 3 0 (fun _ => 0) (by decide) (by decide)

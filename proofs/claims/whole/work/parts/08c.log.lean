/-! ===== making: the log; a moment alone begins ===== -/
theorem kx_ast {V : wd_V} {K : wd_K} {A : Nat → Prop} {own : String} {cc : ByteArray} {nL : Nat} {rm : Room} {Q : State → Prop} {n k pc : Nat} {lv : List (Option Value)} {st : List Value} (hC : kx_Ok V K A own cc nL rm) {h : Nat × va_E} {a N : Nat} {f : Nat → Option Nat} {t : va_W} {x : Int32} (i : Nat) (hx0 : x = nI i) (hi : i < N) (hN : N < 2 ^ 20) {v : Nat} {vs : List Value} (hv : (v, .inr (1, vs)) ∈ (h :: (a, .inl (V.2.2 2, N, .inr (.inr (.inr (.inr f))))) :: t : va_W)) (hdg : decode cc pc = .ok (.aastore, 1)) (kk : kx_G V K A nL Q n k (pc + 1) lv st (h :: (a, .inl (V.2.2 2, N, .inr (.inr (.inr (.inr (fun j => if j = i then some v else f j)))))) :: t)) : kx_G V K A nL Q n k pc lv (.ref v :: .int x :: .ref a :: st) (h :: (a, .inl (V.2.2 2, N, .inr (.inr (.inr (.inr f))))) :: t) := by
  obtain ⟨p, e, R, s, m, args, below, meth, c⟩ := K
  obtain ⟨hx, hb, hml, hown, hts, hK, hZ, hR, hA⟩ := hC
  intro H locs ls hP hD hS hl
  obtain ⟨qk, hqk⟩ := List.getElem?_of_mem hv
  subst hx0
  refine va_astq (r := (RX1, TX1, 7)) hx hb hK hP hD hS 1 2 qk 1 rfl rfl hqk rfl (vp_in_nI hi (by omega)) hdg (fun H1 locs1 hP1 hD1 hS1 => ?_)
  rw [nI_clamp (by omega)] at hP1 hD1
  exact kk H1 locs1 ls hP1 hD1 hS1 hl
theorem cE2_c {r r' : Nat → Nat} {cy : Nat → ClassId} {k k' c : Nat} {x : Nat → Int32} (h : c = 0 → ∀ j, 1 ≤ j → j ≤ 5 → r (k + j) = r' (k' + j)) : cE2 r cy k c x = cE2 r' cy k' c x := by
  cases c with
  | succ c => rfl
  | zero =>
    show Sum.inr (1, [Value.ref (r (k + 1)), .ref (r (k + 2)), .ref (r (k + 3)), .ref (r (k + 4)), .ref (r (k + 5)), .int (x 5), .int (x 6)]) = Sum.inr (1, [.ref (r' (k' + 1)), .ref (r' (k' + 2)), .ref (r' (k' + 3)), .ref (r' (k' + 4)), .ref (r' (k' + 5)), .int (x 5), .int (x 6)])
    rw [h rfl 1 (by decide) (by decide), h rfl 2 (by decide) (by decide), h rfl 3 (by decide) (by decide), h rfl 4 (by decide) (by decide), h rfl 5 (by decide) (by decide)]
/-- the moments of a row, one behind the other -/
def gE (cy : Nat → ClassId) (r : Nat → Nat) (k : Nat) : va_E := cE2 r cy k (k % 6) (fun _ => 0)
def gW (cy : Nat → ClassId) (r : Nat → Nat) (n : Nat) : va_W := (List.range (6 * n)).map (fun k => (r k, gE cy r k))
theorem gW_s (cy : Nat → ClassId) (r r' : Nat → Nat) (n : Nat) : gW cy r n ++ wd_cells mS r' cy zW = gW cy (fun k => if k < 6 * n then r k else r' (k - 6 * n)) (n + 1) := by
  unfold gW wd_cells
  rw [show 6 * (n + 1) = 6 * n + 6 by omega, List.range_add, List.map_append, List.map_map]
  congr 1
  · refine List.map_congr_left (fun k hk => ?_)
    have hk := List.mem_range.mp hk
    have e : ∀ j, k + j < 6 * n → (fun k => if k < 6 * n then r k else r' (k - 6 * n)) (k + j) = r (k + j) := fun j hj => if_pos hj
    refine Prod.ext (if_pos hk).symm ?_
    show cE2 r cy k (k % 6) (fun _ => 0) = cE2 (fun k => if k < 6 * n then r k else r' (k - 6 * n)) cy k (k % 6) (fun _ => 0)
    exact cE2_c (fun q j h1 h2 => (e j (by omega)).symm)
  · refine List.map_congr_left (fun k hk => ?_)
    have hk : k < 6 := List.mem_range.mp hk
    have e : ∀ j, (fun k => if k < 6 * n then r k else r' (k - 6 * n)) (6 * n + k + j) = r' (k + j) := fun j => by
      show (if 6 * n + k + j < 6 * n then r (6 * n + k + j) else r' (6 * n + k + j - 6 * n)) = _
      rw [if_neg (by omega), show 6 * n + k + j - 6 * n = k + j by omega]
    refine Prod.ext (e 0).symm ?_
    show cE2 r' cy k k (fun _ => 0) = cE2 (fun k => if k < 6 * n then r k else r' (k - 6 * n)) cy (6 * n + k) ((6 * n + k) % 6) (fun _ => 0)
    rw [show (6 * n + k) % 6 = k by omega]
    exact cE2_c (fun q j h1 h2 => (e j).symm)
def lS : wd_Side := (62, fun ad cy _ k r => match k with | 0 => .inr (0, [.ref (ad 1), .int (r 1), .int (r 2)]) | 1 => .inl (cy 2, 10, .inr (.inr (.inr (.inr (fun i => if i < 10 then some (ad (2 + 6 * i)) else none))))) | k + 2 => cE2 ad cy (k + 2) (k % 6) r)
theorem lS_e (cy : Nat → ClassId) (h0 q1 : Nat) (r : Nat → Nat) : ((h0, .inr (0, [.ref q1, .int 0, .int 0])) :: (q1, .inl (cy 2, 10, .inr (.inr (.inr (.inr (fun i => if i < 10 then some (r (6 * i)) else none)))))) :: gW cy r 10 : va_W) = wd_cells lS (fun k => if k = 0 then h0 else if k = 1 then q1 else r (k - 2)) cy zW := by
  have e : ∀ k, (fun k => if k = 0 then h0 else if k = 1 then q1 else r (k - 2)) (k + 2) = r k := fun k => by
    show (if k + 2 = 0 then h0 else if k + 2 = 1 then q1 else r (k + 2 - 2)) = r k
    rw [if_neg (by omega), if_neg (by omega), show k + 2 - 2 = k by omega]
  have e1 : (fun i => if i < 10 then some (r (6 * i)) else none) = (fun i => if i < 10 then some ((fun k => if k = 0 then h0 else if k = 1 then q1 else r (k - 2)) (2 + 6 * i)) else none) := funext fun i => by
    rw [show 2 + 6 * i = 6 * i + 2 by omega, e]
  apply List.ext_getElem?
  intro i
  match i with
  | 0 => rfl
  | 1 =>
    rw [e1]
    rfl
  | i + 2 =>
    rw [List.getElem?_cons_succ, List.getElem?_cons_succ]
    unfold gW wd_cells
    by_cases c : i < 60
    · rw [List.getElem?_map, List.getElem?_range (by omega), List.getElem?_map, List.getElem?_range (show i + 2 < lS.1 by show i + 2 < 62; omega)]
      show some (r i, gE cy r i) = some ((fun k => if k = 0 then h0 else if k = 1 then q1 else r (k - 2)) (i + 2), cE2 (fun k => if k = 0 then h0 else if k = 1 then q1 else r (k - 2)) cy (i + 2) (i % 6) (fun _ => 0))
      rw [e i]
      have hc : gE cy r i = cE2 (fun k => if k = 0 then h0 else if k = 1 then q1 else r (k - 2)) cy (i + 2) (i % 6) (fun _ => 0) := cE2_c (fun q j h1 h2 => by
        rw [show i + 2 + j = i + j + 2 by omega]
        exact (e (i + j)).symm)
      rw [hc]
    · rw [List.getElem?_eq_none (by rw [List.length_map, List.length_range]; omega), List.getElem?_eq_none (by rw [List.length_map, List.length_range]; show 62 ≤ i + 2; omega)]

set_option maxRecDepth 100000 in
set_option maxHeartbeats 4000000 in
theorem ct_log (V : wd_V) : ctC V yX0_init cX0_init 2 lS (.inr (0, [.null, .int 0, .int 0])) zW { frames := 2, cells := 61, slots := 380, locals := 96 } 61 380 := by
  refine ct_intro (by decide) rfl (by decide) (fun K h0 hC hI hV => ?_)
  have loop : ∀ (q1 j i : Nat) (r : Nat → Nat), i ≤ 10 → 10 < i + j → kx_G V K (mkA h0 (kx_sz K)) 2 (kx_Q V K lS zW h0 61 380) (1 + 6 * i) (10 + 37 * i) 15 [some (.ref h0), some (.int (nI i))] [] ((h0, .inr (0, [.ref q1, .int 0, .int 0])) :: (q1, .inl (V.2.2 2, 10, .inr (.inr (.inr (.inr (fun j => if j < i then some (r (6 * j)) else none)))))) :: gW V.2.2 r i) := by
    intro q1 j
    induction j with
    | zero => intro i r h1 h2; exact absurd h2 (by omega)
    | succ j ih =>
      intro i r h1 h2
      refine kx_iload hC dX0_init_15 rfl rfl ?_
      refine kx_bipush (v := 10) hC dX0_init_16 rfl ?_
      refine kx_ge (tgt := 40) hC dX0_init_18 (by decide) (fun c => ?_) (fun c => ?_)
      · have hin : i = 10 := lp_ge (x := 10) (n := 10) rfl c h1 (by decide)
        subst hin
        exact kx_vretE hC hV dX0_init_40 _ rfl (lS_e V.2.2 h0 q1 r)
      · have hin : i < 10 := lp_lt (x := 10) (n := 10) rfl c h1 (by decide)
        refine kx_aload hC dX0_init_21 rfl rfl ?_
        refine kx_get hC (ci := 0) rfl inlX0 0 (by decide) (wL_3 _ (List.mem_of_getElem? (i := 16) rfl)) rfl rfl dX0_init_22 ?_
        refine kx_iload hC dX0_init_25 rfl rfl ?_
        refine kx_new hC (ci := 1) (fs := [.null, .null, .null, .null, .null, .int 0, .int 0]) rfl inlX1 tyX1 tyX1_ok (wL_3 _ (List.mem_of_getElem? (i := 15) rfl)) (wL_1 _ (List.mem_of_getElem? (i := 22) rfl)) (wL_1 _ (List.mem_of_getElem? (i := 23) rfl)) (fun j hj => by rcases (show j = 0 ∨ j = 1 ∨ j = 2 ∨ j = 3 ∨ j = 4 ∨ j = 5 ∨ j = 6 by omega) with rfl | rfl | rfl | rfl | rfl | rfl | rfl <;> rfl) (by show _ ≤ 61; omega) (by show _ ≤ 380; omega) dX0_init_26 (fun q => ?_)
        refine kx_dup hC dX0_init_29 rfl ?_
        refine kx_ctorN hC (ct_moment V) (fun s hZ => hZ.2.2.2.2.2) (wL_3 _ (List.mem_of_getElem? (i := 3) rfl)) (wL_1 _ (List.mem_of_getElem? (i := 23) rfl)) (wL_3 _ (List.mem_of_getElem? (i := 4) rfl)) ⟨rfl, by decide, by decide, by decide⟩ rfl rfl ⟨by decide, by decide⟩ (by show _ ≤ 61; omega) (by show _ ≤ 380; omega) (Nat.le_of_ble_eq_true rfl) dX0_init_30 (fun r' hr' => ?_)
        refine kx_ws (show _ = ((h0, .inr (0, [.ref q1, .int 0, .int 0])) :: (q1, .inl (V.2.2 2, 10, .inr (.inr (.inr (.inr (fun j => if j < i then some (r (6 * j)) else none)))))) :: (gW V.2.2 r i ++ wd_cells mS r' V.2.2 zW) : va_W) from rfl) ?_
        refine kx_ast hC i rfl hin (by decide) (v := q) (vs := [.ref (r' 1), .ref (r' 2), .ref (r' 3), .ref (r' 4), .ref (r' 5), .int 0, .int 0]) (by
          rw [← hr']
          exact List.mem_cons_of_mem _ (List.mem_cons_of_mem _ (List.mem_append_right _ (List.mem_cons_self)))) dX0_init_33 ?_
        refine kx_iinc hC dX0_init_34 rfl (by decide) (nI_1 i) rfl ?_
        refine kx_goto (tgt := 15) hC dX0_init_37 (by decide) ?_
        rw [gW_s, ← hr']
        have ef : (fun j => if j = i then some (r' 0) else if j < i then some (r (6 * j)) else none) = (fun j => if j < i + 1 then some ((fun k => if k < 6 * i then r k else r' (k - 6 * i)) (6 * j)) else none) := funext fun j => by
          show _ = if j < i + 1 then some (if 6 * j < 6 * i then r (6 * j) else r' (6 * j - 6 * i)) else none
          by_cases a : j = i
          · rw [if_pos a, if_pos (by omega), if_neg (by omega), show 6 * j - 6 * i = 0 by omega]
          · rw [if_neg a]
            by_cases b : j < i
            · rw [if_pos b, if_pos (by omega), if_pos (by omega)]
            · rw [if_neg b, if_neg (by omega)]
        rw [ef]
        exact kx_widen (n' := 1 + 6 * (i + 1)) (k' := 10 + 37 * (i + 1)) (by omega) (by omega) (ih (i + 1) (fun k => if k < 6 * i then r k else r' (k - 6 * i)) (by omega) (by omega))
  refine kx_aload hC dX0_init_0 rfl rfl ?_
  refine kx_obj hC (wL_3 _ (List.mem_of_getElem? (i := 14) rfl)) (wL_1 _ (List.mem_of_getElem? (i := 10) rfl)) (wL_1 _ (List.mem_of_getElem? (i := 11) rfl)) dX0_init_1 (by decide) (by decide) ?_
  refine kx_aload hC dX0_init_4 rfl rfl ?_
  refine kx_bipush (v := 10) hC dX0_init_5 rfl ?_
  refine kx_newq hC 10 rfl (by decide) (wL_3 _ (List.mem_of_getElem? (i := 15) rfl)) (by decide) (by decide) dX0_init_7 (fun q1 => ?_)
  refine kx_ws (show _ = ([(h0, .inr (0, [.null, .int 0, .int 0])), (q1, .inl (V.2.2 2, 10, .inr (.inr (.inr (.inr (fun _ => none))))))] : va_W) from rfl) ?_
  refine kx_putF hC hI (ci := 0) rfl inlX0 tyX0 tyX0_ok nmX0 0 (by decide) (wL_3 _ (List.mem_of_getElem? (i := 16) rfl)) rfl rfl rfl (Nat.le_of_ble_eq_true rfl) dX0_init_10 ?_
  refine kx_iconst (v := 0) hC dX0_init_13 rfl ?_
  refine kx_istore hC dX0_init_14 rfl (by decide) rfl ?_
  have e0 : (fun _ : Nat => (none : Option Nat)) = (fun j => if j < 0 then some ((fun _ => 0) (6 * j)) else none) := funext fun j => (if_neg (by omega)).symm
  rw [e0]
  exact loop q1 11 0 (fun _ => 0) (by decide) (by decide)

/-- the world of a moment whose first n face nobody -/
def bgW (n : Nat) : wd_S := (fun k i => if k = 2 ∧ i < n then -9 else 0, 0, 0)
theorem bgW_s (n : Nat) : wd_up (wd_up (wd_up (wd_up (wd_up (bgW n) 2 n (-9)) 1 n 0) 3 n 0) 4 n 0) 5 n 0 = bgW (n + 1) := by
  refine wd_ext (fun k => funext fun i => ?_) rfl
  show (if k = 5 ∧ i = n then (0 : Int32) else if k = 4 ∧ i = n then 0 else if k = 3 ∧ i = n then 0 else if k = 1 ∧ i = n then 0 else if k = 2 ∧ i = n then -9 else if k = 2 ∧ i < n then -9 else 0) = if k = 2 ∧ i < n + 1 then -9 else 0
  by_cases q : k = 2
  · rw [if_neg (by omega), if_neg (by omega), if_neg (by omega), if_neg (by omega)]
    by_cases e : i = n
    · rw [if_pos ⟨q, e⟩, if_pos (by omega)]
    · rw [if_neg (by omega)]
      by_cases e2 : i < n
      · rw [if_pos ⟨q, e2⟩, if_pos (by omega)]
      · rw [if_neg (by omega), if_neg (by omega)]
  · have z : ∀ (p : Prop) [Decidable p] (x : Int32), x = 0 → (if p then (0 : Int32) else x) = 0 := fun p _ x h => by
      by_cases hp : p
      · rw [if_pos hp]
      · rw [if_neg hp]; exact h
    rw [if_neg (show ¬ (k = 2 ∧ i < n + 1) by omega)]
    exact z _ _ (z _ _ (z _ _ (z _ _ ((if_neg (by omega)).trans (if_neg (by omega))))))
theorem bgW_0 (n i : Nat) : wd_up (bgW n) 0 i 0 = bgW n := by
  refine wd_ext (fun k => funext fun j => ?_) rfl
  show (if k = 0 ∧ j = i then (0 : Int32) else if k = 2 ∧ j < n then -9 else 0) = if k = 2 ∧ j < n then -9 else 0
  by_cases q : k = 0 ∧ j = i
  · rw [if_pos q, if_neg (by omega)]
  · rw [if_neg q]
set_option maxRecDepth 100000 in
set_option maxHeartbeats 4000000 in
theorem m_begin {V : wd_V} {ad : Nat → Nat} (hinj : wd_inj mS ad) : wd_C mS V ad 0 yX1_begin (Cond.code yX1_begin cX1_begin 4 none :: wsL_law) zW [.ref (ad 0), .int 0] (wd_eq none (bgW 6)) := by
  refine wd_intro (lv := [some (.ref (ad 0)), some (.int 0), none, none]) hinj (by decide) rfl (Nat.le_of_ble_eq_true rfl) rfl (Nat.le_of_ble_eq_true rfl) (fun K hC => ?_)
  have loop : ∀ (k i : Nat) (o : Option Value), i ≤ 6 → 6 < i + k → wd_G mS V ad K 4 (wd_Qm mS V ad K (wd_eq none (bgW 6))) 2 [some (.ref (ad 0)), some (.int 0), some (.int (nI i)), o] [] (bgW i) := by
    intro k
    induction k with
    | zero => intro i o h1 h2; exact absurd h2 (by omega)
    | succ k ih =>
      intro i o h1 h2
      refine wd_iload_n hC dX1_begin_2 rfl rfl ?_
      refine wd_bipush (v := 6) hC dX1_begin_3 rfl ?_
      refine wd_icmp_ge (tgt := 80) hC dX1_begin_5 (by decide) (fun c_5 => ?_) (fun c_5 => ?_)
      · have hin : i = 6 := lp_ge (x := 6) (n := 6) rfl c_5 h1 (by decide)
        subst hin
        refine wd_aload_n hC dX1_begin_80 rfl rfl ?_
        refine wd_iconst (v := 0) hC dX1_begin_81 rfl ?_
        refine wd_put (sd := mS) hC (ci := 1) (q := 0) (σ' := wd_up (bgW 6) 0 5 0) rfl inlX1 tyX1 tyX1_ok nmX1 (by decide) rfl 5 (by decide) (wL_3 _ (List.mem_of_getElem? (i := 21) rfl)) rfl rfl rfl (Nat.le_of_ble_eq_true rfl) rfl (fun a _ h => by rw [wd_up_n _ _ _ _ h]; rfl) dX1_begin_82 ?_
        rw [bgW_0]
        refine wd_aload_n hC dX1_begin_85 rfl rfl ?_
        refine wd_iconst (v := 0) hC dX1_begin_86 rfl ?_
        refine wd_put (sd := mS) hC (ci := 1) (q := 0) (σ' := wd_up (bgW 6) 0 6 0) rfl inlX1 tyX1 tyX1_ok nmX1 (by decide) rfl 6 (by decide) (wL_3 _ (List.mem_of_getElem? (i := 22) rfl)) rfl rfl rfl (Nat.le_of_ble_eq_true rfl) rfl (fun a _ h => by rw [wd_up_n _ _ _ _ h]; rfl) dX1_begin_87 ?_
        rw [bgW_0]
        exact wd_vret hC rfl dX1_begin_90 rfl
      · have hin : i < 6 := lp_lt (x := 6) (n := 6) rfl c_5 h1 (by decide)
        have rest : ∀ o : Option Value, wd_G mS V ad K 4 (wd_Qm mS V ad K (wd_eq none (bgW 6))) 24 [some (.ref (ad 0)), some (.int 0), some (.int (nI i)), o] [] (bgW i) := by
          intro o
          refine wd_aload_n hC dX1_begin_24 rfl rfl ?_
          refine wd_get (sd := mS) hC (ci := 1) (q := 0) rfl inlX1 (by decide) rfl 1 (by decide) (wL_3 _ (List.mem_of_getElem? (i := 7) rfl)) rfl dX1_begin_25 ?_
          refine wd_iload_n hC dX1_begin_28 rfl rfl ?_
          refine wd_iload_n hC dX1_begin_29 rfl rfl ?_
          refine wd_iload_n hC dX1_begin_30 rfl rfl ?_
          refine wd_icmp_ge (tgt := 43) hC dX1_begin_31 (by decide) (fun c_31 => ?_) (fun c_31 => absurd (nI_pos' (n := i) (by omega)) c_31)
          refine wd_bipush (v := -9) hC dX1_begin_43 rfl ?_
          refine wd_iast (sd := mS) hC (q := 2) (n := 6) (by decide) (fun _ => rfl) (by decide) i rfl hin dX1_begin_45 ?_
          refine wd_aload_n hC dX1_begin_46 rfl rfl ?_
          refine wd_get (sd := mS) hC (ci := 1) (q := 0) rfl inlX1 (by decide) rfl 0 (by decide) (wL_3 _ (List.mem_of_getElem? (i := 6) rfl)) rfl dX1_begin_47 ?_
          refine wd_iload_n hC dX1_begin_50 rfl rfl ?_
          refine wd_iconst (v := 0) hC dX1_begin_51 rfl ?_
          refine wd_iast (sd := mS) hC (q := 1) (n := 6) (by decide) (fun _ => rfl) (by decide) i rfl hin dX1_begin_52 ?_
          refine wd_aload_n hC dX1_begin_53 rfl rfl ?_
          refine wd_get (sd := mS) hC (ci := 1) (q := 0) rfl inlX1 (by decide) rfl 2 (by decide) (wL_3 _ (List.mem_of_getElem? (i := 8) rfl)) rfl dX1_begin_54 ?_
          refine wd_iload_n hC dX1_begin_57 rfl rfl ?_
          refine wd_iconst (v := 0) hC dX1_begin_58 rfl ?_
          refine wd_iast (sd := mS) hC (q := 3) (n := 6) (by decide) (fun _ => rfl) (by decide) i rfl hin dX1_begin_59 ?_
          refine wd_aload_n hC dX1_begin_60 rfl rfl ?_
          refine wd_get (sd := mS) hC (ci := 1) (q := 0) rfl inlX1 (by decide) rfl 3 (by decide) (wL_3 _ (List.mem_of_getElem? (i := 9) rfl)) rfl dX1_begin_61 ?_
          refine wd_iload_n hC dX1_begin_64 rfl rfl ?_
          refine wd_iconst (v := 0) hC dX1_begin_65 rfl ?_
          refine wd_iast (sd := mS) hC (q := 4) (n := 6) (by decide) (fun _ => rfl) (by decide) i rfl hin dX1_begin_66 ?_
          refine wd_aload_n hC dX1_begin_67 rfl rfl ?_
          refine wd_get (sd := mS) hC (ci := 1) (q := 0) rfl inlX1 (by decide) rfl 4 (by decide) (wL_3 _ (List.mem_of_getElem? (i := 10) rfl)) rfl dX1_begin_68 ?_
          refine wd_iload_n hC dX1_begin_71 rfl rfl ?_
          refine wd_iconst (v := 0) hC dX1_begin_72 rfl ?_
          refine wd_iast (sd := mS) hC (q := 5) (n := 6) (by decide) (fun _ => rfl) (by decide) i rfl hin dX1_begin_73 ?_
          refine wd_iinc (v := nI (i + 1)) hC dX1_begin_74 rfl (by decide) (nI_1 i) rfl ?_
          refine wd_goto (tgt := 2) hC dX1_begin_77 (by decide) ?_
          rw [bgW_s]
          exact ih (i + 1) _ (by omega) (by omega)
        refine wd_iload_n hC dX1_begin_8 rfl rfl ?_
        refine wd_iconst (v := 2) hC dX1_begin_9 rfl ?_
        refine wd_irem hC dX1_begin_10 (by decide) ?_
        refine wd_if_ne (tgt := 20) hC dX1_begin_11 (by decide) (fun c_11 => ?_) (fun c_11 => ?_)
        · refine wd_iload_n hC dX1_begin_20 rfl rfl ?_
          refine wd_iconst (v := 1) hC dX1_begin_21 rfl ?_
          refine wd_isub hC dX1_begin_22 ?_
          refine wd_istore_n hC dX1_begin_23 rfl (by decide) rfl ?_
          exact rest _
        · refine wd_iload_n hC dX1_begin_14 rfl rfl ?_
          refine wd_iconst (v := 1) hC dX1_begin_15 rfl ?_
          refine wd_iadd hC dX1_begin_16 ?_
          refine wd_goto (tgt := 23) hC dX1_begin_17 (by decide) ?_
          refine wd_istore_n hC dX1_begin_23 rfl (by decide) rfl ?_
          exact rest _
  refine wd_iconst (v := 0) hC dX1_begin_0 rfl ?_
  refine wd_istore_n hC dX1_begin_1 rfl (by decide) rfl ?_
  have e0 : zW = bgW 0 := wd_ext (fun k => funext fun i => (if_neg (by omega)).symm) rfl
  rw [e0]
  exact loop 7 0 none (by decide) (by decide)

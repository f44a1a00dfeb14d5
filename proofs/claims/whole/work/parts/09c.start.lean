/-! ===== the law: its loop and its start ===== -/
def R_law : String := "FacingFieldsLaw"
def lw_P (b : Addr) (xs : List Int32) (args : Array Value) (s : State) : Prop := args = #[.ref b] ∧ s.IntsAt b xs ∧ xs.length ≤ 384 ∧ (Jvm.Cond.and given_1 narrow_1).before args s = true
def lw_Q (_ : Array Value) (s : State) (o : Outcome) (t : State) : Prop := o = .returned (some (.int 1)) ∧ Framed s o t [] 600000 7302250
def lw_Z (below : List Frame) (a : Array Value) (s : State) : State → Prop := fun t => ∃ o, t.status = .running ∧ Ended t below o ∧ lw_Q a s o t
/-- the law's own end, with 1 on the stack, nothing written that was there before, its room as the claim has it -/
theorem lw_ret {p : Program} {l : Launch} {e : Env} {s : State} {m : MethodId} {below : List Frame} {meth : Method} {c : Code} {b : Nat} (hx : p.tables.exec = Jvm.exec) (hb : c.code = code) (hr : meth.sig.returnType = ret) (hlocks : meth.locks = false) {pc : Nat} {H : Heap} {ls : Array Slot} (hdg : decode code pc = .ok (.ireturn, 1)) : W p l e room_1 s m #[Value.ref b] below meth c H [] 600000 7302250 (lw_Z below #[Value.ref b] s) (F0 m pc ls [.int 1]) := by
  intro T hT X
  obtain ⟨fs, hret, hrun, hended, hW, hframe⟩ := X.leave (v := some (.int 1)) (hlocks := hlocks) (fun h => by rw [hr] at h; cases h)
  have hmeth' : T.vm.method? m = some meth := X.method'
  refine ⟨T.setFrames fs, ?_, .returned (some (.int 1)), hrun, hended, rfl, ⟨_, rfl⟩, hW, hframe⟩
  jvm_step X.here [X.here.top, hx, hb, hdg, hmeth', hr, ret, narrow_b1]
  (try refine ⟨rfl, ?_⟩); (try refine ⟨rfl, ?_⟩)
  first | (intro acts; rw [hret _ acts rfl rfl rfl]) | rw [hret _ _ rfl rfl rfl]
  exact Steps.refl _
/-- what holds at the law's entry: the machine, the code, the tables' words (any of lw_tbl by 'hts w (by decide +kernel)'), the script of L ints xs at the cell b, what the Statement gives of the start (any of its parts by flat_of_before) -/
def lw_At (p : Program) (s : State) (m : MethodId) (meth : Method) (c : Code) (b L : Nat) (xs : Nat → Int32) : Prop :=
  p.tables.exec = Jvm.exec ∧ c.code = code ∧ meth.sig.returnType = ret ∧ c.maxLocals = 4 ∧ s.vm.findClass R_law = some m.cls ∧ (∀ w ∈ lw_tbl, w.before #[Value.ref b] s = true) ∧ va_X b L xs s s.heap ∧ b < s.heap.size ∧ meth.locks = false ∧ (Jvm.Cond.and given_1 narrow_1).before #[Value.ref b] s = true
theorem kx_end {V : wd_V} {p : Program} {e : Env} {s : State} {m : MethodId} {below : List Frame} {meth : Method} {c : Code} {b pc : Nat} {lv : List (Option Value)} {ws : va_W} (hx : p.tables.exec = Jvm.exec) (hb : c.code = code) (hr : meth.sig.returnType = ret) (hlocks : meth.locks = false) (hdg : decode code pc = .ok (.ireturn, 1)) : kx_G V (p, e, room_1, s, m, #[Value.ref b], below, meth, c) (fun q => s.heap.size ≤ q) 4 (lw_Z below #[Value.ref b] s) 600000 7302250 pc lv [.int 1] ws := fun _ _ _ _ _ hS _ => va_forget hS.2.2 (lw_ret hx hb hr hlocks hdg)
set_option maxRecDepth 100000 in
set_option maxHeartbeats 4000000 in
theorem law_loop {V : wd_V} {K : wd_K} {A : Nat → Prop} {Q : State → Prop} {b L : Nat} {xs : Nat → Int32} {ad1 ad2 : Nat → Nat} (hi1 : wd_inj cS ad1) (hi2 : wd_inj rS ad2) (hC : kx_Ok V K A RL cL_law 4 room_1) (hX : kx_X K A b L xs) (hL : L ≤ 384) (hend : ∀ (lv : List (Option Value)) (ws : va_W), kx_G V K A 4 Q 600000 7302250 1040 lv [.int 1] ws) : ∀ (k i : Nat) (σ τ : wd_S) (nm nc : Nat), i ≤ L → L < i + k → Inv σ τ nm nc → kx_G V K A 4 Q 600000 7302250 18 [some (.ref b), some (.ref (ad1 0)), some (.ref (ad2 0)), some (.int (nI i))] [] (wd_cells cS ad1 V.2.2 σ ++ wd_cells rS ad2 V.2.2 τ) := by
  intro k
  induction k with
  | zero => intro i σ τ nm nc h1 h2; exact absurd h2 (by omega)
  | succ k ih =>
    intro i σ τ nm nc h1 h2 hI
    refine kx_iload hC dL_law_18 rfl rfl ?_
    refine kx_aload hC dL_law_19 rfl rfl ?_
    refine kx_slen hC hX dL_law_20 ?_
    refine kx_bipush (v := nI 6) hC dL_law_21 rfl ?_
    refine kx_isub hC dL_law_23 ?_
    refine kx_gt (tgt := 1039) hC dL_law_24 (by decide) (fun c => ?_) (fun c => ?_)
    · refine kx_iconst (v := 1) hC dL_law_1039 rfl ?_
      exact hend _ _
    · have hi : i + 6 ≤ L := by
        rw [Int32.lt_iff_toInt_lt, pk_sub_toInt (by omega) (by decide)] at c
        have e : (nI i).toInt = (i : Int) := by
          have := pk_sub_toInt (a := i) (b := 0) (by omega) (by decide)
          rw [show nI 0 = 0 from rfl, Int32.sub_zero] at this
          simpa using this
        rw [e] at c
        omega
      have kk : ∀ σ1 τ1 nm nc, Inv σ1 τ1 nm nc → kx_G V K A 4 Q 600000 7302250 1033 [some (.ref b), some (.ref (ad1 0)), some (.ref (ad2 0)), some (.int (nI i))] [] (wd_cells cS ad1 V.2.2 σ1 ++ wd_cells rS ad2 V.2.2 τ1) := fun σ1 τ1 nm1 nc1 hI1 => by
        refine kx_iinc (v := nI (i + 6)) hC dL_law_1033 rfl (by decide) (nI_add i 6) rfl ?_
        refine kx_goto (tgt := 18) hC dL_law_1036 (by decide) ?_
        exact ih (i + 6) σ1 τ1 nm1 nc1 (by omega) (by omega) hI1
      refine kx_aload hC dL_law_27 rfl rfl ?_
      refine kx_iload hC dL_law_28 rfl rfl ?_
      refine kx_sld hC hX i rfl (by omega) hL dL_law_29 ?_
      refine kx_bipush (v := 31) hC dL_law_30 rfl ?_
      refine kx_iand hC dL_law_32 ?_
      obtain ⟨j, hj, ej⟩ := and31 (xs i)
      rw [ej]
      rcases (show j = 0 ∨ j = 1 ∨ j = 2 ∨ j = 3 ∨ j = 4 ∨ j = 5 ∨ j = 6 ∨ j = 7 ∨ j = 8 ∨ j = 9 ∨ j = 10 ∨ j = 11 ∨ j = 12 ∨ j = 13 ∨ j = 14 ∨ j = 15 ∨ j = 16 ∨ j = 17 ∨ j = 18 ∨ j = 19 ∨ j = 20 ∨ j = 21 ∨ j = 22 ∨ j = 23 ∨ j = 24 ∨ j = 25 ∨ j = 26 ∨ j = 27 ∨ j = 28 ∨ j = 29 ∨ j = 30 ∨ j = 31 by omega) with rfl | rfl | rfl | rfl | rfl | rfl | rfl | rfl | rfl | rfl | rfl | rfl | rfl | rfl | rfl | rfl | rfl | rfl | rfl | rfl | rfl | rfl | rfl | rfl | rfl | rfl | rfl | rfl | rfl | rfl | rfl | rfl
      · exact kx_table (tgt := 176) hC dL_law_33 (by decide) (by decide) rfl (by decide) (law_type hi1 hi2 hC hX hL hi hI kk)
      · exact kx_table (tgt := 199) hC dL_law_33 (by decide) (by decide) rfl (by decide) (law_clear hi1 hi2 hC hX hL hi hI kk)
      · exact kx_table (tgt := 212) hC dL_law_33 (by decide) (by decide) rfl (by decide) (law_valley hi1 hi2 hC hX hL hi hI kk)
      · exact kx_table (tgt := 225) hC dL_law_33 (by decide) (by decide) rfl (by decide) (law_man hi1 hi2 hC hX hL hi hI kk)
      · exact kx_table (tgt := 258) hC dL_law_33 (by decide) (by decide) rfl (by decide) (law_yieldOf hi1 hi2 hC hX hL hi hI kk)
      · exact kx_table (tgt := 291) hC dL_law_33 (by decide) (by decide) rfl (by decide) (law_carries hi1 hi2 hC hX hL hi hI kk)
      · exact kx_table (tgt := 324) hC dL_law_33 (by decide) (by decide) rfl (by decide) (law_has hi1 hi2 hC hX hL hi hI kk)
      · exact kx_table (tgt := 357) hC dL_law_33 (by decide) (by decide) rfl (by decide) (law_now hi1 hi2 hC hX hL hi hI kk)
      · exact kx_table (tgt := 380) hC dL_law_33 (by decide) (by decide) rfl (by decide) (law_sows hi1 hi2 hC hX hL hi hI kk)
      · exact kx_table (tgt := 413) hC dL_law_33 (by decide) (by decide) rfl (by decide) (law_rains hi1 hi2 hC hX hL hi hI kk)
      · exact kx_table (tgt := 436) hC dL_law_33 (by decide) (by decide) rfl (by decide) (law_ropes hi1 hi2 hC hX hL hi hI kk)
      · exact kx_table (tgt := 469) hC dL_law_33 (by decide) (by decide) rfl (by decide) (law_mules hi1 hi2 hC hX hL hi hI kk)
      · exact kx_table (tgt := 502) hC dL_law_33 (by decide) (by decide) rfl (by decide) (law_marries hi1 hi2 hC hX hL hi hI kk)
      · exact kx_table (tgt := 535) hC dL_law_33 (by decide) (by decide) rfl (by decide) (law_year hi1 hi2 hC hX hL hi hI kk)
      · exact kx_table (tgt := 548) hC dL_law_33 (by decide) (by decide) rfl (by decide) (law_undo hi1 hi2 hC hX hL hi hI kk)
      · exact kx_table (tgt := 561) hC dL_law_33 (by decide) (by decide) rfl (by decide) (law_best hi1 hi2 hC hX hL hi hI kk)
      · exact kx_table (tgt := 604) hC dL_law_33 (by decide) (by decide) rfl (by decide) (law_rest hi1 hi2 hC hX hL hi hI kk)
      · exact kx_table (tgt := 637) hC dL_law_33 (by decide) (by decide) rfl (by decide) (law_hungry hi1 hi2 hC hX hL hi hI kk)
      · exact kx_table (tgt := 660) hC dL_law_33 (by decide) (by decide) rfl (by decide) (law_faces hi1 hi2 hC hX hL hi hI kk)
      · exact kx_table (tgt := 683) hC dL_law_33 (by decide) (by decide) rfl (by decide) (law_needed hi1 hi2 hC hX hL hi hI kk)
      · exact kx_table (tgt := 706) hC dL_law_33 (by decide) (by decide) rfl (by decide) (law_stubble hi1 hi2 hC hX hL hi hI kk)
      · exact kx_table (tgt := 739) hC dL_law_33 (by decide) (by decide) rfl (by decide) (law_forget hi1 hi2 hC hX hL hi hI kk)
      · exact kx_table (tgt := 752) hC dL_law_33 (by decide) (by decide) rfl (by decide) (law_cut hi1 hi2 hC hX hL hi hI kk)
      · exact kx_table (tgt := 775) hC dL_law_33 (by decide) (by decide) rfl (by decide) (law_odds hi1 hi2 hC hX hL hi hI kk)
      · exact kx_table (tgt := 838) hC dL_law_33 (by decide) (by decide) rfl (by decide) (law_rich hi1 hi2 hC hX hL hi hI kk)
      · exact kx_table (tgt := 871) hC dL_law_33 (by decide) (by decide) rfl (by decide) (law_poor hi1 hi2 hC hX hL hi hI kk)
      · exact kx_table (tgt := 884) hC dL_law_33 (by decide) (by decide) rfl (by decide) (law_share hi1 hi2 hC hX hL hi hI kk)
      · exact kx_table (tgt := 917) hC dL_law_33 (by decide) (by decide) rfl (by decide) (law_rate hi1 hi2 hC hX hL hi hI kk)
      · exact kx_table (tgt := 950) hC dL_law_33 (by decide) (by decide) rfl (by decide) (law_keep hi1 hi2 hC hX hL hi hI kk)
      · exact kx_table (tgt := 973) hC dL_law_33 (by decide) (by decide) rfl (by decide) (law_back hi1 hi2 hC hX hL hi hI kk)
      · exact kx_table (tgt := 996) hC dL_law_33 (by decide) (by decide) rfl (by decide) (law_count hi1 hi2 hC hX hL hi hI kk)
      · exact kx_table (tgt := 1019) hC dL_law_33 (by decide) (by decide) rfl (by decide) (law_trace hi1 hi2 hC hX hL hi hI kk)
set_option maxRecDepth 100000 in
set_option maxHeartbeats 4000000 in
theorem arr_K {s : State} {args : Array Value} {ty : FieldType} (hn : ∀ C, ty ≠ .object C) (h : (Cond.arrayClass ty).before args s = true) : ∃ c, ArrOfT s c ty ∧ va_RA s c ty := by
  obtain ⟨c, kA, comp, h1, h2, h3⟩ := Cond.arrayClass_spec h
  refine ⟨c, fun n z => ⟨fun k h => (by cases h), kA, h2, comp, h3⟩, ?_⟩
  cases ty with
  | object C => exact absurd rfl (hn C)
  | _ => exact h1
set_option maxRecDepth 100000 in
theorem tb_1 : (Cond.arrayOver (.object "FacingFields$Moment")) ∈ lw_tbl := List.mem_of_getElem? (i := 192) rfl
set_option maxRecDepth 100000 in
theorem tb_2 : (Cond.arrayOver (.array .int)) ∈ lw_tbl := List.mem_of_getElem? (i := 110) rfl
set_option maxRecDepth 100000 in
theorem tb_3 : (Cond.methodLinkNest RX4 9 yX2_init RX4) ∈ lw_tbl := List.mem_of_getElem? (i := 80) rfl
set_option maxRecDepth 100000 in
theorem tb_4 : (Cond.methodLinkNest RX4 18 yX3_init RX4) ∈ lw_tbl := List.mem_of_getElem? (i := 105) rfl
set_option maxRecDepth 100000 in
theorem tb_5 : (Cond.methodLinkNest RX4 28 yX1_init RX4) ∈ lw_tbl := List.mem_of_getElem? (i := 152) rfl
set_option maxRecDepth 100000 in
theorem tb_6 : (Cond.methodLinkNest RX0 17 yX1_init RX4) ∈ lw_tbl := List.mem_of_getElem? (i := 193) rfl
set_option maxRecDepth 100000 in
set_option maxHeartbeats 4000000 in
theorem whole_start {p : Program} {e : Env} {s : State} {m : MethodId} {below : List Frame} {meth : Method} {c : Code} (l : Launch) {b L : Nat} {xs : Nat → Int32} (hL : L ≤ 384) (C0 : lw_At p s m meth c b L xs) : W p l e room_1 s m #[Value.ref b] below meth c s.heap [] 0 0 (lw_Z below #[Value.ref b] s) (entryFrame m ([Value.ref b] : List Value).toArray 4) := by
  obtain ⟨hx, hb, hr, hml, hown, hts, hX, hbl, hlocks, hgv⟩ := id C0
  have htl : ∀ w ∈ wsL_law, w.before #[Value.ref b] s = true := fun w hw => hts w (wsL_law_in w hw)
  obtain ⟨k0, iS0, hKn0⟩ := u_known (C := RX0) (T := TX0) (N := 3) (n := 3) htl inlX0 (htl _ (wL_2 _ (List.mem_of_getElem? (i := 3) rfl)))
  obtain ⟨k1, iS1, hKn1⟩ := u_known (C := RX1) (T := TX1) (N := 7) (n := 7) htl inlX1 (htl _ (wL_1 _ (List.mem_of_getElem? (i := 22) rfl)))
  obtain ⟨k2, iS2, hKn2⟩ := u_known (C := RX2) (T := TX2) (N := 5) (n := 5) htl inlX2 (htl _ (wL_1 _ (List.mem_of_getElem? (i := 13) rfl)))
  obtain ⟨k3, iS3, hKn3⟩ := u_known (C := RX3) (T := TX3) (N := 8) (n := 8) htl inlX3 (htl _ (wL_1 _ (List.mem_of_getElem? (i := 17) rfl)))
  obtain ⟨k4, iS4, hKn4⟩ := u_known (C := RX4) (T := TX4) (N := 15) (n := 15) htl inlX4 (htl _ (wL_1 _ (List.mem_of_getElem? (i := 1) rfl)))
  obtain ⟨k5, iS5, hKn5⟩ := u_known (C := RX5) (T := TX5) (N := 27) (n := 27) htl inlX5 (htl _ (wL_1 _ (List.mem_of_getElem? (i := 4) rfl)))
  have hZ : cZ s := ⟨va_AO.of (hts _ tb_1), hts _ tb_2, va_Nw.of rfl (hts _ tb_3), va_Nw.of rfl (hts _ tb_4), va_Nw.of rfl (hts _ tb_5), va_Nw.of rfl (hts _ tb_6)⟩
  obtain ⟨y0, ya0, yb0⟩ := arr_K (ty := .int) (fun C h => nomatch h) (htl _ (wL_2 _ (List.mem_of_getElem? (i := 9) rfl)))
  obtain ⟨y1, ya1, yb1⟩ := arr_K (ty := .boolean) (fun C h => nomatch h) (htl _ (wL_2 _ (List.mem_of_getElem? (i := 7) rfl)))
  obtain ⟨comp2, y2, kA2, f1, f2, f3, f4, f5⟩ := Cond.arrayOver_spec (hts _ tb_1)
  obtain ⟨comp3, y3, kA3, g1, g2, g3, g4, g5⟩ := aoA_spec hZ.2.1
  obtain ⟨dC, dI, hKc⟩ : ∃ (dC : Nat → ClassId) (dI : Nat → Nat → Nat), ∀ (k : Nat) (q : vw_C), vwCl[k]? = some q → u_Kn s q.1 q.2.1 q.2.2 (dC k) (dI k) := by
    refine ⟨fun k => match k with | 0 => k0 | 1 => k1 | 2 => k2 | 3 => k3 | 4 => k4 | _ => k5, fun k => match k with | 0 => iS0 | 1 => iS1 | 2 => iS2 | 3 => iS3 | 4 => iS4 | _ => iS5, ?_⟩
    intro k q hq
    match k, hq with
    | 0, hq => cases hq; exact hKn0
    | 1, hq => cases hq; exact hKn1
    | 2, hq => cases hq; exact hKn2
    | 3, hq => cases hq; exact hKn3
    | 4, hq => cases hq; exact hKn4
    | 5, hq => cases hq; exact hKn5
    | k + 6, hq => simp [vwCl] at hq
  obtain ⟨cy, e0, e1, e2, e3⟩ : ∃ cy : Nat → ClassId, cy 0 = y0 ∧ cy 1 = y1 ∧ cy 2 = y2 ∧ cy 3 = y3 := ⟨fun k => match k with | 0 => y0 | 1 => y1 | 2 => y2 | _ => y3, rfl, rfl, rfl, rfl⟩
  have hK : va_K (dC, dI) vwCl (wd_tys cy) s := by
    refine ⟨hKc, fun k q hq => ?_⟩
    match k, hq with
    | 0, hq => cases hq; rw [e0]; exact ⟨ya0, yb0⟩
    | 1, hq => cases hq; rw [e1]; exact ⟨ya1, yb1⟩
    | 2, hq => cases hq; rw [e2]; exact ⟨fun n z => ⟨fun k h => (by cases h), kA2, f3, comp2, f4⟩, kA2, comp2, f3, f4, f1, f5⟩
    | 3, hq => cases hq; rw [e3]; exact ⟨fun n z => ⟨fun k h => (by cases h), kA3, g3, comp3, g4⟩, g5⟩
    | k + 4, hq => simp [wd_tys] at hq
  have hC : kx_Ok (l, (dC, dI), cy) (p, e, room_1, s, m, #[Value.ref b], below, meth, c) (fun q => s.heap.size ≤ q) RL cL_law 4 room_1 := ⟨hx, hb, hml, hown, htl, hK, hZ, rfl, fun q h => h⟩
  have hXk : kx_X (p, e, room_1, s, m, #[Value.ref b], below, meth, c) (fun q => s.heap.size ≤ q) b L xs := ⟨hX, hbl, Nat.not_le.mpr hbl⟩
  have hl := lv_entry ([.ref b]) (n := 4) (Nat.le_of_ble_eq_true rfl)
  have hlL : wd_L ((lg_sl ([.ref b]) ++ List.replicate (4 - (lg_sl ([.ref b])).length) Slot.unset).toArray) 4 [some (.ref b), none, none, none] := by
    refine ⟨hl.1, hl.2.1, rfl, fun i w hw => ?_⟩
    match i, hw with
    | 0, hw => cases hw; exact ⟨hl.2.2 (0, .ref b) (by simp [lv_args]), rfl⟩
    | 1, hw => cases hw
    | 2, hw => cases hw
    | 3, hw => cases hw
    | i + 4, hw => cases hw
  have main : kx_G (l, (dC, dI), cy) (p, e, room_1, s, m, #[Value.ref b], below, meth, c) (fun q => s.heap.size ≤ q) 4 (lw_Z below #[Value.ref b] s) 0 0 0 [some (.ref b), none, none, none] [] [] := by
    refine kx_new hC (ci := 4) (fs := [.null, .null, .null, .null, .null, .null, .null, .null, .null, .null, .int 0, .null, .int 0, .int 0, .long 0]) rfl inlX4 tyX4 tyX4_ok (wL_1 _ (List.mem_of_getElem? (i := 0) rfl)) (wL_1 _ (List.mem_of_getElem? (i := 1) rfl)) (wL_1 _ (List.mem_of_getElem? (i := 2) rfl)) (fun j hj => by rcases (show j = 0 ∨ j = 1 ∨ j = 2 ∨ j = 3 ∨ j = 4 ∨ j = 5 ∨ j = 6 ∨ j = 7 ∨ j = 8 ∨ j = 9 ∨ j = 10 ∨ j = 11 ∨ j = 12 ∨ j = 13 ∨ j = 14 by omega) with rfl | rfl | rfl | rfl | rfl | rfl | rfl | rfl | rfl | rfl | rfl | rfl | rfl | rfl | rfl <;> rfl) (by decide) (by decide) dL_law_0 (fun q => ?_)
    refine kx_dup hC dL_law_3 rfl ?_
    refine kx_ctor hC (ct_class (l, (dC, dI), cy)) (wL_1 _ (List.mem_of_getElem? (i := 6) rfl)) (wL_1 _ (List.mem_of_getElem? (i := 7) rfl)) (wL_1 _ (List.mem_of_getElem? (i := 2) rfl)) (wL_1 _ (List.mem_of_getElem? (i := 8) rfl)) ⟨rfl, by decide, by decide, by decide⟩ rfl rfl ⟨by decide, by decide⟩ (by decide) (by decide) (Nat.le_of_ble_eq_true rfl) dL_law_4 (fun ad1 h1 => ?_)
    subst h1
    refine kx_astore hC dL_law_7 rfl (by decide) rfl ?_
    refine kx_new hC (ci := 5) (fs := [.int 0, .long 0, .null, .int 0, .int 0, .int 0, .int 0, .int 0, .int 0, .null, .null, .null, .null, .null, .null, .null, .null, .null, .null, .null, .null, .int 0, .null, .null, .int 0, .null, .null]) rfl inlX5 tyX5 tyX5_ok (wL_1 _ (List.mem_of_getElem? (i := 3) rfl)) (wL_1 _ (List.mem_of_getElem? (i := 4) rfl)) (wL_1 _ (List.mem_of_getElem? (i := 5) rfl)) (fun j hj => by rcases (show j = 0 ∨ j = 1 ∨ j = 2 ∨ j = 3 ∨ j = 4 ∨ j = 5 ∨ j = 6 ∨ j = 7 ∨ j = 8 ∨ j = 9 ∨ j = 10 ∨ j = 11 ∨ j = 12 ∨ j = 13 ∨ j = 14 ∨ j = 15 ∨ j = 16 ∨ j = 17 ∨ j = 18 ∨ j = 19 ∨ j = 20 ∨ j = 21 ∨ j = 22 ∨ j = 23 ∨ j = 24 ∨ j = 25 ∨ j = 26 by omega) with rfl | rfl | rfl | rfl | rfl | rfl | rfl | rfl | rfl | rfl | rfl | rfl | rfl | rfl | rfl | rfl | rfl | rfl | rfl | rfl | rfl | rfl | rfl | rfl | rfl | rfl | rfl <;> rfl) (by decide) (by decide) dL_law_8 (fun q => ?_)
    refine kx_dup hC dL_law_11 rfl ?_
    refine kx_ctor hC (ct_ref (l, (dC, dI), cy)) (wL_3 _ (List.mem_of_getElem? (i := 23) rfl)) (wL_4 _ (List.mem_of_getElem? (i := 0) rfl)) (wL_1 _ (List.mem_of_getElem? (i := 5) rfl)) (wL_4 _ (List.mem_of_getElem? (i := 1) rfl)) ⟨rfl, by decide, by decide, by decide⟩ rfl rfl ⟨by decide, by decide⟩ (by decide) (by decide) (Nat.le_of_ble_eq_true rfl) dL_law_12 (fun ad2 h2 => ?_)
    subst h2
    refine kx_astore hC dL_law_15 rfl (by decide) rfl ?_
    refine kx_iconst (v := nI 0) hC dL_law_16 rfl ?_
    refine kx_istore hC dL_law_17 rfl (by decide) rfl ?_
    refine kx_widen (n' := 600000) (k' := 7302250) (by decide) (by decide) ?_
    refine kx_ws (show _ = ([] ++ (wd_cells cS ad1 cy s0W ++ wd_cells rS ad2 cy zW) : va_W) from rfl) ?_
    refine kx_inj (sd := cS) (ad := ad1) (σ := s0W) (fun hi1 => ?_)
    refine kx_ws (show _ = (wd_cells cS ad1 cy s0W ++ (wd_cells rS ad2 cy zW ++ []) : va_W) from by rw [List.append_nil, List.nil_append]) ?_
    refine kx_inj (sd := rS) (ad := ad2) (σ := zW) (fun hi2 => ?_)
    refine kx_ws (show _ = (wd_cells cS ad1 cy s0W ++ wd_cells rS ad2 cy zW : va_W) from by rw [List.append_nil]) ?_
    exact law_loop hi1 hi2 hC hXk hL (fun lv ws => kx_end hx hb hr hlocks dL_law_1040) (L + 1) 0 s0W zW 0 0 (Nat.zero_le _) (by omega) Inv_0
  rw [lg_entry_eq]
  exact main s.heap [] _ (fun k q h => by simp at h) ⟨fun i j p q h => by simp at h, fun k q h => by simp at h⟩ va_S.rf hlL

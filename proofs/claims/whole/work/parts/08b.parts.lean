/-! ===== making: constructors ===== -/
def kx_sz (K : wd_K) : Nat := match K with
  | (_, _, _, s, _, _, _, _, _) => s.heap.size
def kx_Rv (K : wd_K) : Prop := match K with
  | (_, _, _, _, _, _, _, meth, _) => meth.locks = false ∧ meth.sig.returnType = none
def kx_Q (V : wd_V) (K : wd_K) (sd : wd_Side) (σz : wd_S) (h0 mc ms : Nat) : State → Prop := match K with
  | (_, _, _, s, _, args, below, _, _) => MQ below (va_Qv (fun _ : Nat → Nat => True) (fun r t => r 0 = h0 ∧ wd_inj sd r ∧ (∀ k, k < sd.1 → mkA h0 s.heap.size (r k)) ∧ va_P V.2.1 vwCl (wd_cells sd r V.2.2 σz) t.heap) (mkA h0 s.heap.size)) args s mc ms (mkA h0 s.heap.size)
theorem ct_intro {V : wd_V} {y : MethodName} {bytes : ByteArray} {maxL : Nat} {sd : wd_Side} {e0 : va_E} {σz : wd_S} {rm : Room} {mc ms : Nat} (hy : plainName y.cls = true) (hy1 : y.name = "<init>") (hm : 1 ≤ maxL)
    (body : ∀ (K : wd_K) (h0 : Nat), kx_Ok V K (mkA h0 (kx_sz K)) y.cls bytes maxL rm → kx_In K → kx_Rv K → kx_G V K (mkA h0 (kx_sz K)) maxL (kx_Q V K sd σz h0 mc ms) 0 0 0 (some (.ref h0) :: List.replicate (maxL - 1) none) [] [(h0, e0)]) : ctC V y bytes maxL sd e0 σz rm mc ms := by
  intro h0 sz
  refine Met.ofW (cc := bytes) (maxL := maxL) (ret := none) hy rfl ?_
  intro p e s m args below meth c s₁ B hml hv
  obtain ⟨rfl, hsz, hP, hK, hZ⟩ := hv
  subst hsz
  have hts := atoms_spec (ws := Cond.code y bytes maxL none :: wsL_law) B.pre
  have hown : s.vm.findClass y.cls = some m.cls := findClass_of_methodNamed B.named
  have hin : meth.name = y.name := (name_of_methodNamed B.named B.method).1
  have hl := lv_entry [.ref h0] (n := maxL) (show 1 ≤ maxL from hm)
  rw [lg_entry_eq]
  refine body (p, e, rm, s, m, [Value.ref h0].toArray, below, meth, c) h0 ⟨B.exec, B.bytes, hml, hown, fun w hw => hts w (List.mem_cons_of_mem _ hw), hK, hZ, rfl, fun q h => Or.inr h⟩ (hin.trans hy1) ⟨B.notSynchronized, B.returns⟩ s.heap [] _ hP ⟨fun i j a b ha hb _ => ?_, fun k q hq => ?_⟩ va_S.rf ?_
  · have h1 := (List.getElem?_eq_some_iff.mp ha).1
    have h2 := (List.getElem?_eq_some_iff.mp hb).1
    simp at h1 h2
    omega
  · have h1 : q = (h0, e0) := by
      have := List.mem_of_getElem? hq
      simpa using this
    exact Or.inl (by rw [h1])
  · refine ⟨hl.1, hl.2.1, by simp; omega, fun i w hw => ?_⟩
    cases i with
    | zero =>
      have e1 : Value.ref h0 = w := by simpa using hw
      subst e1
      refine ⟨hl.2.2 (0, .ref h0) (by simp [lv_args]), rfl⟩
    | succ i =>
      rw [List.getElem?_cons_succ] at hw
      have := List.mem_of_getElem? hw
      rw [List.mem_replicate] at this
      cases this.2
theorem D_inj {A : Nat → Prop} {sd : wd_Side} {r : Nat → Nat} {cy : Nat → ClassId} {σ : wd_S} (h : va_D A (wd_cells sd r cy σ)) : wd_inj sd r ∧ ∀ k, k < sd.1 → A (r k) := ⟨fun i j hi hj e => h.1 i j _ _ (wd_at hi) (wd_at hj) e, fun k hk => h.2 k _ (wd_at hk)⟩
section KV
variable {V : wd_V} {K : wd_K} {own : String} {cc : ByteArray} {nL : Nat} {rm : Room} {n k pc : Nat} {lv : List (Option Value)} {ws : va_W} {sd : wd_Side} {σz : wd_S} {h0 : Nat}
theorem kx_vret (hC : kx_Ok V K (mkA h0 (kx_sz K)) own cc nL rm) (hV : kx_Rv K) (hdg : decode cc pc = .ok (.return_, 1)) (h : ∀ H, va_P V.2.1 vwCl ws H → va_D (mkA h0 (kx_sz K)) ws → ∃ r : Nat → Nat, r 0 = h0 ∧ wd_inj sd r ∧ (∀ k, k < sd.1 → mkA h0 (kx_sz K) (r k)) ∧ va_P V.2.1 vwCl (wd_cells sd r V.2.2 σz) H) : kx_G V K (mkA h0 (kx_sz K)) nL (kx_Q V K sd σz h0 n k) n k pc lv [] ws := by
  obtain ⟨p, e, R, s, m, args, below, meth, c⟩ := K
  obtain ⟨hx, hb, hml, hown, hts, hK, hZ, hR, hA⟩ := hC
  obtain ⟨hlk, hrt⟩ := hV
  intro H locs ls hP hD hS hl
  obtain ⟨r, h1, h2, h3, h4⟩ := h H hP hD
  exact W.vret hx hb hrt (fun t ht hW => ⟨⟨r, rfl, trivial, h1, h2, h3, by rw [ht]; exact h4⟩, hS.F ht⟩) hS.2.2 hdg hlk
theorem kx_vretE (hC : kx_Ok V K (mkA h0 (kx_sz K)) own cc nL rm) (hV : kx_Rv K) (hdg : decode cc pc = .ok (.return_, 1)) (r : Nat → Nat) (hr : r 0 = h0) (hws : ws = wd_cells sd r V.2.2 σz) : kx_G V K (mkA h0 (kx_sz K)) nL (kx_Q V K sd σz h0 n k) n k pc lv [] ws := kx_vret hC hV hdg (fun H hP hD => by
  rw [hws] at hP hD
  exact ⟨r, hr, (D_inj hD).1, (D_inj hD).2, hP⟩)
end KV
theorem kx_mna {V : wd_V} {K : wd_K} {A : Nat → Prop} {own : String} {cc : ByteArray} {nL : Nat} {rm : Room} {Q : State → Prop} {n k pc : Nat} {lv : List (Option Value)} {st : List Value} {ws : va_W} (hC : kx_Ok V K A own cc nL rm) {index : Nat} (hw : Cond.classLink own index ("[" ++ (FieldType.array .int).toString) ∈ wsL_law) (hw2 : Cond.arrayClass .int ∈ wsL_law) (hc : n + 7 ≤ rm.cells) (hs : k + 24 ≤ rm.slots) (hdg : decode cc pc = .ok (.multianewarray index 2, 4)) (kk : ∀ (q : Nat) (r : Nat → Nat), kx_G V K A nL Q (n + 7) (k + 24) (pc + 4) lv (.ref q :: st) (ws ++ ((q, .inl (V.2.2 3, 6, .inr (.inr (.inr (.inr (fun i => if i < 6 then some (r i) else none)))))) :: (List.range 6).map (fun i => (r i, .inl (V.2.2 0, 3, .inl (fun _ => 0))))))) : kx_G V K A nL Q n k pc lv (.int 3 :: .int 6 :: st) ws := by
  obtain ⟨p, e, R, s, m, args, below, meth, c⟩ := K
  obtain ⟨hx, hb, hml, hown, hts, hK, hZ, hR, hA⟩ := hC
  subst hR
  intro H locs ls hP hD hS hl
  intro T hT X
  obtain ⟨F, cA, comp, fA, fC, ⟨f1, f2, fo, fi⟩, X', step⟩ := mn_step X hx hown (hts _ hw) hZ.2.1 (hts _ hw2) (g := F0 m pc ls (.int 3 :: .int 6 :: st)) rfl (by rw [hb]; exact hdg) rfl hc hs
  have c3 : cA = V.2.2 3 := Option.some.inj (fA.symm.trans (hK.2 3 _ rfl).2)
  have c0 : comp = V.2.2 0 := Option.some.inj (fC.symm.trans (hK.2 0 _ rfl).2)
  subst c3 c0
  rw [hT] at f1 f2 fo fi
  have hF2 : F.heap[H.size]? = some (vp_cell (V.2.2 3) (6, .inr (.inr (.inr (.inr (fun i => if i < 6 then some (H.size + 1 + i) else none)))))) := by
    rw [f2, vp_cell_q]
    refine congrArg some (congrArg (arrV _ 6) (funext fun j => ?_))
    show (if j < 6 then Value.ref (H.size + 1 + j) else Value.null) = _
    by_cases q : j < 6
    · rw [if_pos q, if_pos q]; rfl
    · rw [if_neg q, if_neg q]; rfl
  have hnew : ∀ x ∈ ((H.size, .inl (V.2.2 3, 6, .inr (.inr (.inr (.inr (fun i => if i < 6 then some ((fun i => H.size + 1 + i) i) else none)))))) :: (List.range 6).map (fun i => ((fun i => H.size + 1 + i) i, .inl (V.2.2 0, 3, .inl (fun _ => 0)))) : va_W), va_at V.2.1 vwCl x F.heap ∧ H.size ≤ x.1 := fun x hx => by
    rcases List.mem_cons.mp hx with h | h
    · subst h
      exact ⟨hF2, Nat.le_refl _⟩
    · obtain ⟨i, hi, rfl⟩ := List.mem_map.mp h
      exact ⟨fi i (List.mem_range.mp hi), by show H.size ≤ H.size + 1 + i; omega⟩
  have hlt : ∀ x ∈ ws, x.1 < H.size := fun x hx => (va_P_m hP hx).lt
  obtain ⟨t, a1, b1⟩ := kk H.size (fun i => H.size + 1 + i) F.heap locs ls (va_P_of (fun x hx => by
    rcases List.mem_append.mp hx with h | h
    · exact (va_P_m hP h).kept (fo x.1 (hlt x h))
    · exact (hnew x h).1)) (va_D_app hD ⟨fun i j a b ha hb he => by
      have key : ∀ (i : Nat) (a : Nat × va_E), ((H.size, .inl (V.2.2 3, 6, .inr (.inr (.inr (.inr (fun i => if i < 6 then some ((fun i => H.size + 1 + i) i) else none)))))) :: (List.range 6).map (fun i => ((fun i => H.size + 1 + i) i, .inl (V.2.2 0, 3, .inl (fun _ => 0)))) : va_W)[i]? = some a → a.1 = H.size + i := fun i a ha => by
        cases i with
        | zero =>
          have := Option.some.inj ha
          rw [← this]
          rfl
        | succ i =>
          rw [List.getElem?_cons_succ, List.getElem?_map] at ha
          obtain ⟨w, hw1, hw2⟩ := Option.map_eq_some_iff.mp ha
          have hwi : i = w := by
            have hlt : i < 6 := by
              have := (List.getElem?_eq_some_iff.mp hw1).1
              simpa using this
            rw [List.getElem?_range hlt] at hw1
            exact Option.some.inj hw1
          subst hwi
          rw [← hw2]
          show H.size + 1 + i = H.size + (i + 1)
          omega
      have h1 := key i a ha
      have h2 := key j b hb
      omega, fun j x hx => hA _ (Nat.le_trans hS.1 (hnew x (List.mem_of_getElem? hx)).2)⟩ (fun x hx y hy => by
      have h1 := hlt x hx
      have h2 := (hnew y hy).2
      omega)) ⟨Nat.le_trans hS.1 (by rw [f1]; omega), fun q h1 h2 => (fo q (Nat.lt_of_lt_of_le h1 hS.1)).trans (hS.2.1 q h1 h2), hS.2.2⟩ hl F rfl X'
  refine ⟨t, step t ?_, b1⟩
  show Steps p.tables e below (F.setTop (F0 m (pc + 4) ls (.ref T.heap.size :: st))) t
  rw [show T.heap.size = H.size by rw [hT]]
  exact a1

/-! the sides of the parts -/
def zW : wd_S := (fun _ _ => 0, 0, 0)
def mS : wd_Side := (6, fun ad cy _ k r => cE2 ad cy k k r)
def xS : wd_Side := (2, fun ad cy _ k r => match k with | 0 => .inr (2, [.ref (ad 1), .int (r 1), .int (r 2), .int (r 3), .int (r 4)]) | _ => .inl (cy 0, 200, .inl r))
def tS : wd_Side := (13, fun ad cy _ k r => cE1 ad cy k k r)
set_option maxRecDepth 100000 in
set_option maxHeartbeats 4000000 in
theorem ct_moment (V : wd_V) : ctC V yX1_init cX1_init 1 mS (.inr (1, [.null, .null, .null, .null, .null, .int 0, .int 0])) zW { frames := 1, cells := 5, slots := 30, locals := 48 } 5 30 := by
  refine ct_intro (by decide) rfl (by decide) (fun K h0 hC hI hV => ?_)
  refine kx_aload hC dX1_init_0 rfl rfl ?_
  refine kx_obj hC (wL_3 _ (List.mem_of_getElem? (i := 5) rfl)) (wL_1 _ (List.mem_of_getElem? (i := 10) rfl)) (wL_1 _ (List.mem_of_getElem? (i := 11) rfl)) dX1_init_1 (by decide) (by decide) ?_
  refine kx_aload hC dX1_init_4 rfl rfl ?_
  refine kx_bipush (v := 6) hC dX1_init_5 rfl ?_
  refine kx_newi hC 6 rfl (by decide) (by decide) (by decide) (wL_2 _ (List.mem_of_getElem? (i := 9) rfl)) dX1_init_7 (fun q1 => ?_)
  refine kx_ws (show _ = ([(h0, .inr (1, [.null, .null, .null, .null, .null, .int 0, .int 0])), (q1, .inl (V.2.2 0, 6, .inl (fun _ => 0)))] : va_W) from rfl) ?_
  refine kx_putF hC hI (ci := 1) rfl inlX1 tyX1 tyX1_ok nmX1 0 (by decide) (wL_3 _ (List.mem_of_getElem? (i := 6) rfl)) rfl rfl rfl (Nat.le_of_ble_eq_true rfl) dX1_init_9 ?_
  refine kx_ws (show _ = ([(h0, .inr (1, [.ref q1, .null, .null, .null, .null, .int 0, .int 0])), (q1, .inl (V.2.2 0, 6, .inl (fun _ => 0)))] : va_W) from rfl) ?_
  refine kx_aload hC dX1_init_12 rfl rfl ?_
  refine kx_bipush (v := 6) hC dX1_init_13 rfl ?_
  refine kx_newi hC 6 rfl (by decide) (by decide) (by decide) (wL_2 _ (List.mem_of_getElem? (i := 9) rfl)) dX1_init_15 (fun q2 => ?_)
  refine kx_ws (show _ = ([(h0, .inr (1, [.ref q1, .null, .null, .null, .null, .int 0, .int 0])), (q1, .inl (V.2.2 0, 6, .inl (fun _ => 0))), (q2, .inl (V.2.2 0, 6, .inl (fun _ => 0)))] : va_W) from rfl) ?_
  refine kx_putF hC hI (ci := 1) rfl inlX1 tyX1 tyX1_ok nmX1 1 (by decide) (wL_3 _ (List.mem_of_getElem? (i := 7) rfl)) rfl rfl rfl (Nat.le_of_ble_eq_true rfl) dX1_init_17 ?_
  refine kx_ws (show _ = ([(h0, .inr (1, [.ref q1, .ref q2, .null, .null, .null, .int 0, .int 0])), (q1, .inl (V.2.2 0, 6, .inl (fun _ => 0))), (q2, .inl (V.2.2 0, 6, .inl (fun _ => 0)))] : va_W) from rfl) ?_
  refine kx_aload hC dX1_init_20 rfl rfl ?_
  refine kx_bipush (v := 6) hC dX1_init_21 rfl ?_
  refine kx_newi hC 6 rfl (by decide) (by decide) (by decide) (wL_2 _ (List.mem_of_getElem? (i := 9) rfl)) dX1_init_23 (fun q3 => ?_)
  refine kx_ws (show _ = ([(h0, .inr (1, [.ref q1, .ref q2, .null, .null, .null, .int 0, .int 0])), (q1, .inl (V.2.2 0, 6, .inl (fun _ => 0))), (q2, .inl (V.2.2 0, 6, .inl (fun _ => 0))), (q3, .inl (V.2.2 0, 6, .inl (fun _ => 0)))] : va_W) from rfl) ?_
  refine kx_putF hC hI (ci := 1) rfl inlX1 tyX1 tyX1_ok nmX1 2 (by decide) (wL_3 _ (List.mem_of_getElem? (i := 8) rfl)) rfl rfl rfl (Nat.le_of_ble_eq_true rfl) dX1_init_25 ?_
  refine kx_ws (show _ = ([(h0, .inr (1, [.ref q1, .ref q2, .ref q3, .null, .null, .int 0, .int 0])), (q1, .inl (V.2.2 0, 6, .inl (fun _ => 0))), (q2, .inl (V.2.2 0, 6, .inl (fun _ => 0))), (q3, .inl (V.2.2 0, 6, .inl (fun _ => 0)))] : va_W) from rfl) ?_
  refine kx_aload hC dX1_init_28 rfl rfl ?_
  refine kx_bipush (v := 6) hC dX1_init_29 rfl ?_
  refine kx_newi hC 6 rfl (by decide) (by decide) (by decide) (wL_2 _ (List.mem_of_getElem? (i := 9) rfl)) dX1_init_31 (fun q4 => ?_)
  refine kx_ws (show _ = ([(h0, .inr (1, [.ref q1, .ref q2, .ref q3, .null, .null, .int 0, .int 0])), (q1, .inl (V.2.2 0, 6, .inl (fun _ => 0))), (q2, .inl (V.2.2 0, 6, .inl (fun _ => 0))), (q3, .inl (V.2.2 0, 6, .inl (fun _ => 0))), (q4, .inl (V.2.2 0, 6, .inl (fun _ => 0)))] : va_W) from rfl) ?_
  refine kx_putF hC hI (ci := 1) rfl inlX1 tyX1 tyX1_ok nmX1 3 (by decide) (wL_3 _ (List.mem_of_getElem? (i := 9) rfl)) rfl rfl rfl (Nat.le_of_ble_eq_true rfl) dX1_init_33 ?_
  refine kx_ws (show _ = ([(h0, .inr (1, [.ref q1, .ref q2, .ref q3, .ref q4, .null, .int 0, .int 0])), (q1, .inl (V.2.2 0, 6, .inl (fun _ => 0))), (q2, .inl (V.2.2 0, 6, .inl (fun _ => 0))), (q3, .inl (V.2.2 0, 6, .inl (fun _ => 0))), (q4, .inl (V.2.2 0, 6, .inl (fun _ => 0)))] : va_W) from rfl) ?_
  refine kx_aload hC dX1_init_36 rfl rfl ?_
  refine kx_bipush (v := 6) hC dX1_init_37 rfl ?_
  refine kx_newi hC 6 rfl (by decide) (by decide) (by decide) (wL_2 _ (List.mem_of_getElem? (i := 9) rfl)) dX1_init_39 (fun q5 => ?_)
  refine kx_ws (show _ = ([(h0, .inr (1, [.ref q1, .ref q2, .ref q3, .ref q4, .null, .int 0, .int 0])), (q1, .inl (V.2.2 0, 6, .inl (fun _ => 0))), (q2, .inl (V.2.2 0, 6, .inl (fun _ => 0))), (q3, .inl (V.2.2 0, 6, .inl (fun _ => 0))), (q4, .inl (V.2.2 0, 6, .inl (fun _ => 0))), (q5, .inl (V.2.2 0, 6, .inl (fun _ => 0)))] : va_W) from rfl) ?_
  refine kx_putF hC hI (ci := 1) rfl inlX1 tyX1 tyX1_ok nmX1 4 (by decide) (wL_3 _ (List.mem_of_getElem? (i := 10) rfl)) rfl rfl rfl (Nat.le_of_ble_eq_true rfl) dX1_init_41 ?_
  refine kx_ws (show _ = ([(h0, .inr (1, [.ref q1, .ref q2, .ref q3, .ref q4, .ref q5, .int 0, .int 0])), (q1, .inl (V.2.2 0, 6, .inl (fun _ => 0))), (q2, .inl (V.2.2 0, 6, .inl (fun _ => 0))), (q3, .inl (V.2.2 0, 6, .inl (fun _ => 0))), (q4, .inl (V.2.2 0, 6, .inl (fun _ => 0))), (q5, .inl (V.2.2 0, 6, .inl (fun _ => 0)))] : va_W) from rfl) ?_
  exact kx_vretE hC hV dX1_init_44 (fun k => match k with | 0 => h0 | 1 => q1 | 2 => q2 | 3 => q3 | 4 => q4 | _ => q5) rfl rfl
set_option maxRecDepth 100000 in
set_option maxHeartbeats 4000000 in
theorem ct_text (V : wd_V) : ctC V yX2_init cX2_init 1 xS (.inr (2, [.null, .int 0, .int 0, .int 0, .int 0])) zW { frames := 1, cells := 1, slots := 200, locals := 48 } 1 200 := by
  refine ct_intro (by decide) rfl (by decide) (fun K h0 hC hI hV => ?_)
  refine kx_aload hC dX2_init_0 rfl rfl ?_
  refine kx_obj hC (wL_2 _ (List.mem_of_getElem? (i := 15) rfl)) (wL_1 _ (List.mem_of_getElem? (i := 10) rfl)) (wL_1 _ (List.mem_of_getElem? (i := 11) rfl)) dX2_init_1 (by decide) (by decide) ?_
  refine kx_aload hC dX2_init_4 rfl rfl ?_
  refine kx_sipush (v := 200) hC dX2_init_5 rfl ?_
  refine kx_newi hC 200 rfl (by decide) (by decide) (by decide) (wL_2 _ (List.mem_of_getElem? (i := 9) rfl)) dX2_init_8 (fun q1 => ?_)
  refine kx_ws (show _ = ([(h0, .inr (2, [.null, .int 0, .int 0, .int 0, .int 0])), (q1, .inl (V.2.2 0, 200, .inl (fun _ => 0)))] : va_W) from rfl) ?_
  refine kx_putF hC hI (ci := 2) rfl inlX2 tyX2 tyX2_ok nmX2 0 (by decide) (wL_2 _ (List.mem_of_getElem? (i := 16) rfl)) rfl rfl rfl (Nat.le_of_ble_eq_true rfl) dX2_init_10 ?_
  refine kx_ws (show _ = ([(h0, .inr (2, [.ref q1, .int 0, .int 0, .int 0, .int 0])), (q1, .inl (V.2.2 0, 200, .inl (fun _ => 0)))] : va_W) from rfl) ?_
  exact kx_vretE hC hV dX2_init_13 (fun k => match k with | 0 => h0 | _ => q1) rfl rfl
set_option maxRecDepth 100000 in
set_option maxHeartbeats 4000000 in
theorem ct_told (V : wd_V) : ctC V yX3_init cX3_init 1 tS (.inr (3, [.int 0, .null, .null, .int 0, .null, .null, .null, .null])) zW { frames := 1, cells := 12, slots := 48, locals := 48 } 12 48 := by
  refine ct_intro (by decide) rfl (by decide) (fun K h0 hC hI hV => ?_)
  refine kx_aload hC dX3_init_0 rfl rfl ?_
  refine kx_obj hC (wL_2 _ (List.mem_of_getElem? (i := 19) rfl)) (wL_1 _ (List.mem_of_getElem? (i := 10) rfl)) (wL_1 _ (List.mem_of_getElem? (i := 11) rfl)) dX3_init_1 (by decide) (by decide) ?_
  refine kx_aload hC dX3_init_4 rfl rfl ?_
  refine kx_iconst (v := 3) hC dX3_init_5 rfl ?_
  refine kx_newi hC 3 rfl (by decide) (by decide) (by decide) (wL_2 _ (List.mem_of_getElem? (i := 9) rfl)) dX3_init_6 (fun q1 => ?_)
  refine kx_ws (show _ = ([(h0, .inr (3, [.int 0, .null, .null, .int 0, .null, .null, .null, .null])), (q1, .inl (V.2.2 0, 3, .inl (fun _ => 0)))] : va_W) from rfl) ?_
  refine kx_putF hC hI (ci := 3) rfl inlX3 tyX3 tyX3_ok nmX3 1 (by decide) (wL_2 _ (List.mem_of_getElem? (i := 20) rfl)) rfl rfl rfl (Nat.le_of_ble_eq_true rfl) dX3_init_8 ?_
  refine kx_ws (show _ = ([(h0, .inr (3, [.int 0, .ref q1, .null, .int 0, .null, .null, .null, .null])), (q1, .inl (V.2.2 0, 3, .inl (fun _ => 0)))] : va_W) from rfl) ?_
  refine kx_aload hC dX3_init_11 rfl rfl ?_
  refine kx_iconst (v := 3) hC dX3_init_12 rfl ?_
  refine kx_newi hC 3 rfl (by decide) (by decide) (by decide) (wL_2 _ (List.mem_of_getElem? (i := 9) rfl)) dX3_init_13 (fun q2 => ?_)
  refine kx_ws (show _ = ([(h0, .inr (3, [.int 0, .ref q1, .null, .int 0, .null, .null, .null, .null])), (q1, .inl (V.2.2 0, 3, .inl (fun _ => 0))), (q2, .inl (V.2.2 0, 3, .inl (fun _ => 0)))] : va_W) from rfl) ?_
  refine kx_putF hC hI (ci := 3) rfl inlX3 tyX3 tyX3_ok nmX3 2 (by decide) (wL_2 _ (List.mem_of_getElem? (i := 21) rfl)) rfl rfl rfl (Nat.le_of_ble_eq_true rfl) dX3_init_15 ?_
  refine kx_ws (show _ = ([(h0, .inr (3, [.int 0, .ref q1, .ref q2, .int 0, .null, .null, .null, .null])), (q1, .inl (V.2.2 0, 3, .inl (fun _ => 0))), (q2, .inl (V.2.2 0, 3, .inl (fun _ => 0)))] : va_W) from rfl) ?_
  refine kx_aload hC dX3_init_18 rfl rfl ?_
  refine kx_bipush (v := 6) hC dX3_init_19 rfl ?_
  refine kx_newi hC 6 rfl (by decide) (by decide) (by decide) (wL_2 _ (List.mem_of_getElem? (i := 9) rfl)) dX3_init_21 (fun q3 => ?_)
  refine kx_ws (show _ = ([(h0, .inr (3, [.int 0, .ref q1, .ref q2, .int 0, .null, .null, .null, .null])), (q1, .inl (V.2.2 0, 3, .inl (fun _ => 0))), (q2, .inl (V.2.2 0, 3, .inl (fun _ => 0))), (q3, .inl (V.2.2 0, 6, .inl (fun _ => 0)))] : va_W) from rfl) ?_
  refine kx_putF hC hI (ci := 3) rfl inlX3 tyX3 tyX3_ok nmX3 4 (by decide) (wL_2 _ (List.mem_of_getElem? (i := 22) rfl)) rfl rfl rfl (Nat.le_of_ble_eq_true rfl) dX3_init_23 ?_
  refine kx_ws (show _ = ([(h0, .inr (3, [.int 0, .ref q1, .ref q2, .int 0, .ref q3, .null, .null, .null])), (q1, .inl (V.2.2 0, 3, .inl (fun _ => 0))), (q2, .inl (V.2.2 0, 3, .inl (fun _ => 0))), (q3, .inl (V.2.2 0, 6, .inl (fun _ => 0)))] : va_W) from rfl) ?_
  refine kx_aload hC dX3_init_26 rfl rfl ?_
  refine kx_bipush (v := 6) hC dX3_init_27 rfl ?_
  refine kx_newi hC 6 rfl (by decide) (by decide) (by decide) (wL_2 _ (List.mem_of_getElem? (i := 9) rfl)) dX3_init_29 (fun q4 => ?_)
  refine kx_ws (show _ = ([(h0, .inr (3, [.int 0, .ref q1, .ref q2, .int 0, .ref q3, .null, .null, .null])), (q1, .inl (V.2.2 0, 3, .inl (fun _ => 0))), (q2, .inl (V.2.2 0, 3, .inl (fun _ => 0))), (q3, .inl (V.2.2 0, 6, .inl (fun _ => 0))), (q4, .inl (V.2.2 0, 6, .inl (fun _ => 0)))] : va_W) from rfl) ?_
  refine kx_putF hC hI (ci := 3) rfl inlX3 tyX3 tyX3_ok nmX3 5 (by decide) (wL_2 _ (List.mem_of_getElem? (i := 23) rfl)) rfl rfl rfl (Nat.le_of_ble_eq_true rfl) dX3_init_31 ?_
  refine kx_ws (show _ = ([(h0, .inr (3, [.int 0, .ref q1, .ref q2, .int 0, .ref q3, .ref q4, .null, .null])), (q1, .inl (V.2.2 0, 3, .inl (fun _ => 0))), (q2, .inl (V.2.2 0, 3, .inl (fun _ => 0))), (q3, .inl (V.2.2 0, 6, .inl (fun _ => 0))), (q4, .inl (V.2.2 0, 6, .inl (fun _ => 0)))] : va_W) from rfl) ?_
  refine kx_aload hC dX3_init_34 rfl rfl ?_
  refine kx_bipush (v := 6) hC dX3_init_35 rfl ?_
  refine kx_newi hC 6 rfl (by decide) (by decide) (by decide) (wL_2 _ (List.mem_of_getElem? (i := 9) rfl)) dX3_init_37 (fun q5 => ?_)
  refine kx_ws (show _ = ([(h0, .inr (3, [.int 0, .ref q1, .ref q2, .int 0, .ref q3, .ref q4, .null, .null])), (q1, .inl (V.2.2 0, 3, .inl (fun _ => 0))), (q2, .inl (V.2.2 0, 3, .inl (fun _ => 0))), (q3, .inl (V.2.2 0, 6, .inl (fun _ => 0))), (q4, .inl (V.2.2 0, 6, .inl (fun _ => 0))), (q5, .inl (V.2.2 0, 6, .inl (fun _ => 0)))] : va_W) from rfl) ?_
  refine kx_putF hC hI (ci := 3) rfl inlX3 tyX3 tyX3_ok nmX3 6 (by decide) (wL_3 _ (List.mem_of_getElem? (i := 0) rfl)) rfl rfl rfl (Nat.le_of_ble_eq_true rfl) dX3_init_39 ?_
  refine kx_ws (show _ = ([(h0, .inr (3, [.int 0, .ref q1, .ref q2, .int 0, .ref q3, .ref q4, .ref q5, .null])), (q1, .inl (V.2.2 0, 3, .inl (fun _ => 0))), (q2, .inl (V.2.2 0, 3, .inl (fun _ => 0))), (q3, .inl (V.2.2 0, 6, .inl (fun _ => 0))), (q4, .inl (V.2.2 0, 6, .inl (fun _ => 0))), (q5, .inl (V.2.2 0, 6, .inl (fun _ => 0)))] : va_W) from rfl) ?_
  refine kx_aload hC dX3_init_42 rfl rfl ?_
  refine kx_bipush (v := 6) hC dX3_init_43 rfl ?_
  refine kx_iconst (v := 3) hC dX3_init_45 rfl ?_
  refine kx_mna hC (wL_3 _ (List.mem_of_getElem? (i := 1) rfl)) (wL_2 _ (List.mem_of_getElem? (i := 9) rfl)) (by decide) (by decide) dX3_init_46 (fun q6 rr => ?_)
  refine kx_ws (show _ = ([(h0, .inr (3, [.int 0, .ref q1, .ref q2, .int 0, .ref q3, .ref q4, .ref q5, .null])), (q1, .inl (V.2.2 0, 3, .inl (fun _ => 0))), (q2, .inl (V.2.2 0, 3, .inl (fun _ => 0))), (q3, .inl (V.2.2 0, 6, .inl (fun _ => 0))), (q4, .inl (V.2.2 0, 6, .inl (fun _ => 0))), (q5, .inl (V.2.2 0, 6, .inl (fun _ => 0))), (q6, .inl (V.2.2 3, 6, .inr (.inr (.inr (.inr (fun i => if i < 6 then some (rr i) else none)))))), (rr 0, .inl (V.2.2 0, 3, .inl (fun _ => 0))), (rr 1, .inl (V.2.2 0, 3, .inl (fun _ => 0))), (rr 2, .inl (V.2.2 0, 3, .inl (fun _ => 0))), (rr 3, .inl (V.2.2 0, 3, .inl (fun _ => 0))), (rr 4, .inl (V.2.2 0, 3, .inl (fun _ => 0))), (rr 5, .inl (V.2.2 0, 3, .inl (fun _ => 0)))] : va_W) from rfl) ?_
  refine kx_putF hC hI (ci := 3) rfl inlX3 tyX3 tyX3_ok nmX3 7 (by decide) (wL_3 _ (List.mem_of_getElem? (i := 2) rfl)) rfl rfl rfl (Nat.le_of_ble_eq_true rfl) dX3_init_50 ?_
  refine kx_ws (show _ = ([(h0, .inr (3, [.int 0, .ref q1, .ref q2, .int 0, .ref q3, .ref q4, .ref q5, .ref q6])), (q1, .inl (V.2.2 0, 3, .inl (fun _ => 0))), (q2, .inl (V.2.2 0, 3, .inl (fun _ => 0))), (q3, .inl (V.2.2 0, 6, .inl (fun _ => 0))), (q4, .inl (V.2.2 0, 6, .inl (fun _ => 0))), (q5, .inl (V.2.2 0, 6, .inl (fun _ => 0))), (q6, .inl (V.2.2 3, 6, .inr (.inr (.inr (.inr (fun i => if i < 6 then some (rr i) else none)))))), (rr 0, .inl (V.2.2 0, 3, .inl (fun _ => 0))), (rr 1, .inl (V.2.2 0, 3, .inl (fun _ => 0))), (rr 2, .inl (V.2.2 0, 3, .inl (fun _ => 0))), (rr 3, .inl (V.2.2 0, 3, .inl (fun _ => 0))), (rr 4, .inl (V.2.2 0, 3, .inl (fun _ => 0))), (rr 5, .inl (V.2.2 0, 3, .inl (fun _ => 0)))] : va_W) from rfl) ?_
  have er : (fun i => if i < 6 then some (rr i) else none) = (fun i => if i < 6 then some ((fun k => if k < 7 then (match k with | 0 => h0 | 1 => q1 | 2 => q2 | 3 => q3 | 4 => q4 | 5 => q5 | _ => q6) else rr (k - 7)) (6 + 1 + i)) else none) := funext fun i => by
    show (if i < 6 then some (rr i) else none) = if i < 6 then some (if 6 + 1 + i < 7 then _ else rr (6 + 1 + i - 7)) else none
    rw [if_neg (show ¬ 6 + 1 + i < 7 by omega), show 6 + 1 + i - 7 = i by omega]
  rw [er]
  exact kx_vretE hC hV dX3_init_53 (fun k => if k < 7 then (match k with | 0 => h0 | 1 => q1 | 2 => q2 | 3 => q3 | 4 => q4 | 5 => q5 | _ => q6) else rr (k - 7)) rfl rfl
set_option maxRecDepth 100000 in
set_option maxHeartbeats 4000000 in
theorem ct_ref (V : wd_V) : ctC V yX5_init cX5_init 1 rS (.inr (5, [.int 0, .long 0, .null, .int 0, .int 0, .int 0, .int 0, .int 0, .int 0, .null, .null, .null, .null, .null, .null, .null, .null, .null, .null, .null, .null, .int 0, .null, .null, .int 0, .null, .null])) zW { frames := 1, cells := 17, slots := 760, locals := 48 } 17 760 := by
  refine ct_intro (by decide) rfl (by decide) (fun K h0 hC hI hV => ?_)
  refine kx_aload hC dX5_init_0 rfl rfl ?_
  refine kx_obj hC (wL_4 _ (List.mem_of_getElem? (i := 2) rfl)) (wL_1 _ (List.mem_of_getElem? (i := 10) rfl)) (wL_1 _ (List.mem_of_getElem? (i := 11) rfl)) dX5_init_1 (by decide) (by decide) ?_
  refine kx_aload hC dX5_init_4 rfl rfl ?_
  refine kx_sipush (v := 200) hC dX5_init_5 rfl ?_
  refine kx_newi hC 200 rfl (by decide) (by decide) (by decide) (wL_2 _ (List.mem_of_getElem? (i := 9) rfl)) dX5_init_8 (fun q1 => ?_)
  refine kx_ws (show _ = ([(h0, .inr (5, [.int 0, .long 0, .null, .int 0, .int 0, .int 0, .int 0, .int 0, .int 0, .null, .null, .null, .null, .null, .null, .null, .null, .null, .null, .null, .null, .int 0, .null, .null, .int 0, .null, .null])), (q1, .inl (V.2.2 0, 200, .inl (fun _ => 0)))] : va_W) from rfl) ?_
  refine kx_putF hC hI (ci := 5) rfl inlX5 tyX5 tyX5_ok nmX5 2 (by decide) (wL_4 _ (List.mem_of_getElem? (i := 3) rfl)) rfl rfl rfl (Nat.le_of_ble_eq_true rfl) dX5_init_10 ?_
  refine kx_ws (show _ = ([(h0, .inr (5, [.int 0, .long 0, .ref q1, .int 0, .int 0, .int 0, .int 0, .int 0, .int 0, .null, .null, .null, .null, .null, .null, .null, .null, .null, .null, .null, .null, .int 0, .null, .null, .int 0, .null, .null])), (q1, .inl (V.2.2 0, 200, .inl (fun _ => 0)))] : va_W) from rfl) ?_
  refine kx_aload hC dX5_init_13 rfl rfl ?_
  refine kx_iconst (v := 4) hC dX5_init_14 rfl ?_
  refine kx_newi hC 4 rfl (by decide) (by decide) (by decide) (wL_2 _ (List.mem_of_getElem? (i := 9) rfl)) dX5_init_15 (fun q2 => ?_)
  refine kx_ws (show _ = ([(h0, .inr (5, [.int 0, .long 0, .ref q1, .int 0, .int 0, .int 0, .int 0, .int 0, .int 0, .null, .null, .null, .null, .null, .null, .null, .null, .null, .null, .null, .null, .int 0, .null, .null, .int 0, .null, .null])), (q1, .inl (V.2.2 0, 200, .inl (fun _ => 0))), (q2, .inl (V.2.2 0, 4, .inl (fun _ => 0)))] : va_W) from rfl) ?_
  refine kx_putF hC hI (ci := 5) rfl inlX5 tyX5 tyX5_ok nmX5 9 (by decide) (wL_4 _ (List.mem_of_getElem? (i := 4) rfl)) rfl rfl rfl (Nat.le_of_ble_eq_true rfl) dX5_init_17 ?_
  refine kx_ws (show _ = ([(h0, .inr (5, [.int 0, .long 0, .ref q1, .int 0, .int 0, .int 0, .int 0, .int 0, .int 0, .ref q2, .null, .null, .null, .null, .null, .null, .null, .null, .null, .null, .null, .int 0, .null, .null, .int 0, .null, .null])), (q1, .inl (V.2.2 0, 200, .inl (fun _ => 0))), (q2, .inl (V.2.2 0, 4, .inl (fun _ => 0)))] : va_W) from rfl) ?_
  refine kx_aload hC dX5_init_20 rfl rfl ?_
  refine kx_bipush (v := 6) hC dX5_init_21 rfl ?_
  refine kx_newi hC 6 rfl (by decide) (by decide) (by decide) (wL_2 _ (List.mem_of_getElem? (i := 9) rfl)) dX5_init_23 (fun q3 => ?_)
  refine kx_ws (show _ = ([(h0, .inr (5, [.int 0, .long 0, .ref q1, .int 0, .int 0, .int 0, .int 0, .int 0, .int 0, .ref q2, .null, .null, .null, .null, .null, .null, .null, .null, .null, .null, .null, .int 0, .null, .null, .int 0, .null, .null])), (q1, .inl (V.2.2 0, 200, .inl (fun _ => 0))), (q2, .inl (V.2.2 0, 4, .inl (fun _ => 0))), (q3, .inl (V.2.2 0, 6, .inl (fun _ => 0)))] : va_W) from rfl) ?_
  refine kx_putF hC hI (ci := 5) rfl inlX5 tyX5 tyX5_ok nmX5 10 (by decide) (wL_4 _ (List.mem_of_getElem? (i := 5) rfl)) rfl rfl rfl (Nat.le_of_ble_eq_true rfl) dX5_init_25 ?_
  refine kx_ws (show _ = ([(h0, .inr (5, [.int 0, .long 0, .ref q1, .int 0, .int 0, .int 0, .int 0, .int 0, .int 0, .ref q2, .ref q3, .null, .null, .null, .null, .null, .null, .null, .null, .null, .null, .int 0, .null, .null, .int 0, .null, .null])), (q1, .inl (V.2.2 0, 200, .inl (fun _ => 0))), (q2, .inl (V.2.2 0, 4, .inl (fun _ => 0))), (q3, .inl (V.2.2 0, 6, .inl (fun _ => 0)))] : va_W) from rfl) ?_
  refine kx_aload hC dX5_init_28 rfl rfl ?_
  refine kx_bipush (v := 6) hC dX5_init_29 rfl ?_
  refine kx_newi hC 6 rfl (by decide) (by decide) (by decide) (wL_2 _ (List.mem_of_getElem? (i := 9) rfl)) dX5_init_31 (fun q4 => ?_)
  refine kx_ws (show _ = ([(h0, .inr (5, [.int 0, .long 0, .ref q1, .int 0, .int 0, .int 0, .int 0, .int 0, .int 0, .ref q2, .ref q3, .null, .null, .null, .null, .null, .null, .null, .null, .null, .null, .int 0, .null, .null, .int 0, .null, .null])), (q1, .inl (V.2.2 0, 200, .inl (fun _ => 0))), (q2, .inl (V.2.2 0, 4, .inl (fun _ => 0))), (q3, .inl (V.2.2 0, 6, .inl (fun _ => 0))), (q4, .inl (V.2.2 0, 6, .inl (fun _ => 0)))] : va_W) from rfl) ?_
  refine kx_putF hC hI (ci := 5) rfl inlX5 tyX5 tyX5_ok nmX5 11 (by decide) (wL_4 _ (List.mem_of_getElem? (i := 6) rfl)) rfl rfl rfl (Nat.le_of_ble_eq_true rfl) dX5_init_33 ?_
  refine kx_ws (show _ = ([(h0, .inr (5, [.int 0, .long 0, .ref q1, .int 0, .int 0, .int 0, .int 0, .int 0, .int 0, .ref q2, .ref q3, .ref q4, .null, .null, .null, .null, .null, .null, .null, .null, .null, .int 0, .null, .null, .int 0, .null, .null])), (q1, .inl (V.2.2 0, 200, .inl (fun _ => 0))), (q2, .inl (V.2.2 0, 4, .inl (fun _ => 0))), (q3, .inl (V.2.2 0, 6, .inl (fun _ => 0))), (q4, .inl (V.2.2 0, 6, .inl (fun _ => 0)))] : va_W) from rfl) ?_
  refine kx_aload hC dX5_init_36 rfl rfl ?_
  refine kx_bipush (v := 12) hC dX5_init_37 rfl ?_
  refine kx_newi hC 12 rfl (by decide) (by decide) (by decide) (wL_2 _ (List.mem_of_getElem? (i := 9) rfl)) dX5_init_39 (fun q5 => ?_)
  refine kx_ws (show _ = ([(h0, .inr (5, [.int 0, .long 0, .ref q1, .int 0, .int 0, .int 0, .int 0, .int 0, .int 0, .ref q2, .ref q3, .ref q4, .null, .null, .null, .null, .null, .null, .null, .null, .null, .int 0, .null, .null, .int 0, .null, .null])), (q1, .inl (V.2.2 0, 200, .inl (fun _ => 0))), (q2, .inl (V.2.2 0, 4, .inl (fun _ => 0))), (q3, .inl (V.2.2 0, 6, .inl (fun _ => 0))), (q4, .inl (V.2.2 0, 6, .inl (fun _ => 0))), (q5, .inl (V.2.2 0, 12, .inl (fun _ => 0)))] : va_W) from rfl) ?_
  refine kx_putF hC hI (ci := 5) rfl inlX5 tyX5 tyX5_ok nmX5 12 (by decide) (wL_4 _ (List.mem_of_getElem? (i := 7) rfl)) rfl rfl rfl (Nat.le_of_ble_eq_true rfl) dX5_init_41 ?_
  refine kx_ws (show _ = ([(h0, .inr (5, [.int 0, .long 0, .ref q1, .int 0, .int 0, .int 0, .int 0, .int 0, .int 0, .ref q2, .ref q3, .ref q4, .ref q5, .null, .null, .null, .null, .null, .null, .null, .null, .int 0, .null, .null, .int 0, .null, .null])), (q1, .inl (V.2.2 0, 200, .inl (fun _ => 0))), (q2, .inl (V.2.2 0, 4, .inl (fun _ => 0))), (q3, .inl (V.2.2 0, 6, .inl (fun _ => 0))), (q4, .inl (V.2.2 0, 6, .inl (fun _ => 0))), (q5, .inl (V.2.2 0, 12, .inl (fun _ => 0)))] : va_W) from rfl) ?_
  refine kx_aload hC dX5_init_44 rfl rfl ?_
  refine kx_bipush (v := 12) hC dX5_init_45 rfl ?_
  refine kx_newi hC 12 rfl (by decide) (by decide) (by decide) (wL_2 _ (List.mem_of_getElem? (i := 9) rfl)) dX5_init_47 (fun q6 => ?_)
  refine kx_ws (show _ = ([(h0, .inr (5, [.int 0, .long 0, .ref q1, .int 0, .int 0, .int 0, .int 0, .int 0, .int 0, .ref q2, .ref q3, .ref q4, .ref q5, .null, .null, .null, .null, .null, .null, .null, .null, .int 0, .null, .null, .int 0, .null, .null])), (q1, .inl (V.2.2 0, 200, .inl (fun _ => 0))), (q2, .inl (V.2.2 0, 4, .inl (fun _ => 0))), (q3, .inl (V.2.2 0, 6, .inl (fun _ => 0))), (q4, .inl (V.2.2 0, 6, .inl (fun _ => 0))), (q5, .inl (V.2.2 0, 12, .inl (fun _ => 0))), (q6, .inl (V.2.2 0, 12, .inl (fun _ => 0)))] : va_W) from rfl) ?_
  refine kx_putF hC hI (ci := 5) rfl inlX5 tyX5 tyX5_ok nmX5 13 (by decide) (wL_4 _ (List.mem_of_getElem? (i := 8) rfl)) rfl rfl rfl (Nat.le_of_ble_eq_true rfl) dX5_init_49 ?_
  refine kx_ws (show _ = ([(h0, .inr (5, [.int 0, .long 0, .ref q1, .int 0, .int 0, .int 0, .int 0, .int 0, .int 0, .ref q2, .ref q3, .ref q4, .ref q5, .ref q6, .null, .null, .null, .null, .null, .null, .null, .int 0, .null, .null, .int 0, .null, .null])), (q1, .inl (V.2.2 0, 200, .inl (fun _ => 0))), (q2, .inl (V.2.2 0, 4, .inl (fun _ => 0))), (q3, .inl (V.2.2 0, 6, .inl (fun _ => 0))), (q4, .inl (V.2.2 0, 6, .inl (fun _ => 0))), (q5, .inl (V.2.2 0, 12, .inl (fun _ => 0))), (q6, .inl (V.2.2 0, 12, .inl (fun _ => 0)))] : va_W) from rfl) ?_
  refine kx_aload hC dX5_init_52 rfl rfl ?_
  refine kx_bipush (v := 12) hC dX5_init_53 rfl ?_
  refine kx_newi hC 12 rfl (by decide) (by decide) (by decide) (wL_2 _ (List.mem_of_getElem? (i := 9) rfl)) dX5_init_55 (fun q7 => ?_)
  refine kx_ws (show _ = ([(h0, .inr (5, [.int 0, .long 0, .ref q1, .int 0, .int 0, .int 0, .int 0, .int 0, .int 0, .ref q2, .ref q3, .ref q4, .ref q5, .ref q6, .null, .null, .null, .null, .null, .null, .null, .int 0, .null, .null, .int 0, .null, .null])), (q1, .inl (V.2.2 0, 200, .inl (fun _ => 0))), (q2, .inl (V.2.2 0, 4, .inl (fun _ => 0))), (q3, .inl (V.2.2 0, 6, .inl (fun _ => 0))), (q4, .inl (V.2.2 0, 6, .inl (fun _ => 0))), (q5, .inl (V.2.2 0, 12, .inl (fun _ => 0))), (q6, .inl (V.2.2 0, 12, .inl (fun _ => 0))), (q7, .inl (V.2.2 0, 12, .inl (fun _ => 0)))] : va_W) from rfl) ?_
  refine kx_putF hC hI (ci := 5) rfl inlX5 tyX5 tyX5_ok nmX5 14 (by decide) (wL_4 _ (List.mem_of_getElem? (i := 9) rfl)) rfl rfl rfl (Nat.le_of_ble_eq_true rfl) dX5_init_57 ?_
  refine kx_ws (show _ = ([(h0, .inr (5, [.int 0, .long 0, .ref q1, .int 0, .int 0, .int 0, .int 0, .int 0, .int 0, .ref q2, .ref q3, .ref q4, .ref q5, .ref q6, .ref q7, .null, .null, .null, .null, .null, .null, .int 0, .null, .null, .int 0, .null, .null])), (q1, .inl (V.2.2 0, 200, .inl (fun _ => 0))), (q2, .inl (V.2.2 0, 4, .inl (fun _ => 0))), (q3, .inl (V.2.2 0, 6, .inl (fun _ => 0))), (q4, .inl (V.2.2 0, 6, .inl (fun _ => 0))), (q5, .inl (V.2.2 0, 12, .inl (fun _ => 0))), (q6, .inl (V.2.2 0, 12, .inl (fun _ => 0))), (q7, .inl (V.2.2 0, 12, .inl (fun _ => 0)))] : va_W) from rfl) ?_
  refine kx_aload hC dX5_init_60 rfl rfl ?_
  refine kx_bipush (v := 36) hC dX5_init_61 rfl ?_
  refine kx_newi hC 36 rfl (by decide) (by decide) (by decide) (wL_2 _ (List.mem_of_getElem? (i := 9) rfl)) dX5_init_63 (fun q8 => ?_)
  refine kx_ws (show _ = ([(h0, .inr (5, [.int 0, .long 0, .ref q1, .int 0, .int 0, .int 0, .int 0, .int 0, .int 0, .ref q2, .ref q3, .ref q4, .ref q5, .ref q6, .ref q7, .null, .null, .null, .null, .null, .null, .int 0, .null, .null, .int 0, .null, .null])), (q1, .inl (V.2.2 0, 200, .inl (fun _ => 0))), (q2, .inl (V.2.2 0, 4, .inl (fun _ => 0))), (q3, .inl (V.2.2 0, 6, .inl (fun _ => 0))), (q4, .inl (V.2.2 0, 6, .inl (fun _ => 0))), (q5, .inl (V.2.2 0, 12, .inl (fun _ => 0))), (q6, .inl (V.2.2 0, 12, .inl (fun _ => 0))), (q7, .inl (V.2.2 0, 12, .inl (fun _ => 0))), (q8, .inl (V.2.2 0, 36, .inl (fun _ => 0)))] : va_W) from rfl) ?_
  refine kx_putF hC hI (ci := 5) rfl inlX5 tyX5 tyX5_ok nmX5 15 (by decide) (wL_4 _ (List.mem_of_getElem? (i := 10) rfl)) rfl rfl rfl (Nat.le_of_ble_eq_true rfl) dX5_init_65 ?_
  refine kx_ws (show _ = ([(h0, .inr (5, [.int 0, .long 0, .ref q1, .int 0, .int 0, .int 0, .int 0, .int 0, .int 0, .ref q2, .ref q3, .ref q4, .ref q5, .ref q6, .ref q7, .ref q8, .null, .null, .null, .null, .null, .int 0, .null, .null, .int 0, .null, .null])), (q1, .inl (V.2.2 0, 200, .inl (fun _ => 0))), (q2, .inl (V.2.2 0, 4, .inl (fun _ => 0))), (q3, .inl (V.2.2 0, 6, .inl (fun _ => 0))), (q4, .inl (V.2.2 0, 6, .inl (fun _ => 0))), (q5, .inl (V.2.2 0, 12, .inl (fun _ => 0))), (q6, .inl (V.2.2 0, 12, .inl (fun _ => 0))), (q7, .inl (V.2.2 0, 12, .inl (fun _ => 0))), (q8, .inl (V.2.2 0, 36, .inl (fun _ => 0)))] : va_W) from rfl) ?_
  refine kx_aload hC dX5_init_68 rfl rfl ?_
  refine kx_bipush (v := 32) hC dX5_init_69 rfl ?_
  refine kx_newi hC 32 rfl (by decide) (by decide) (by decide) (wL_2 _ (List.mem_of_getElem? (i := 9) rfl)) dX5_init_71 (fun q9 => ?_)
  refine kx_ws (show _ = ([(h0, .inr (5, [.int 0, .long 0, .ref q1, .int 0, .int 0, .int 0, .int 0, .int 0, .int 0, .ref q2, .ref q3, .ref q4, .ref q5, .ref q6, .ref q7, .ref q8, .null, .null, .null, .null, .null, .int 0, .null, .null, .int 0, .null, .null])), (q1, .inl (V.2.2 0, 200, .inl (fun _ => 0))), (q2, .inl (V.2.2 0, 4, .inl (fun _ => 0))), (q3, .inl (V.2.2 0, 6, .inl (fun _ => 0))), (q4, .inl (V.2.2 0, 6, .inl (fun _ => 0))), (q5, .inl (V.2.2 0, 12, .inl (fun _ => 0))), (q6, .inl (V.2.2 0, 12, .inl (fun _ => 0))), (q7, .inl (V.2.2 0, 12, .inl (fun _ => 0))), (q8, .inl (V.2.2 0, 36, .inl (fun _ => 0))), (q9, .inl (V.2.2 0, 32, .inl (fun _ => 0)))] : va_W) from rfl) ?_
  refine kx_putF hC hI (ci := 5) rfl inlX5 tyX5 tyX5_ok nmX5 16 (by decide) (wL_4 _ (List.mem_of_getElem? (i := 11) rfl)) rfl rfl rfl (Nat.le_of_ble_eq_true rfl) dX5_init_73 ?_
  refine kx_ws (show _ = ([(h0, .inr (5, [.int 0, .long 0, .ref q1, .int 0, .int 0, .int 0, .int 0, .int 0, .int 0, .ref q2, .ref q3, .ref q4, .ref q5, .ref q6, .ref q7, .ref q8, .ref q9, .null, .null, .null, .null, .int 0, .null, .null, .int 0, .null, .null])), (q1, .inl (V.2.2 0, 200, .inl (fun _ => 0))), (q2, .inl (V.2.2 0, 4, .inl (fun _ => 0))), (q3, .inl (V.2.2 0, 6, .inl (fun _ => 0))), (q4, .inl (V.2.2 0, 6, .inl (fun _ => 0))), (q5, .inl (V.2.2 0, 12, .inl (fun _ => 0))), (q6, .inl (V.2.2 0, 12, .inl (fun _ => 0))), (q7, .inl (V.2.2 0, 12, .inl (fun _ => 0))), (q8, .inl (V.2.2 0, 36, .inl (fun _ => 0))), (q9, .inl (V.2.2 0, 32, .inl (fun _ => 0)))] : va_W) from rfl) ?_
  refine kx_aload hC dX5_init_76 rfl rfl ?_
  refine kx_bipush (v := 32) hC dX5_init_77 rfl ?_
  refine kx_newi hC 32 rfl (by decide) (by decide) (by decide) (wL_2 _ (List.mem_of_getElem? (i := 9) rfl)) dX5_init_79 (fun q10 => ?_)
  refine kx_ws (show _ = ([(h0, .inr (5, [.int 0, .long 0, .ref q1, .int 0, .int 0, .int 0, .int 0, .int 0, .int 0, .ref q2, .ref q3, .ref q4, .ref q5, .ref q6, .ref q7, .ref q8, .ref q9, .null, .null, .null, .null, .int 0, .null, .null, .int 0, .null, .null])), (q1, .inl (V.2.2 0, 200, .inl (fun _ => 0))), (q2, .inl (V.2.2 0, 4, .inl (fun _ => 0))), (q3, .inl (V.2.2 0, 6, .inl (fun _ => 0))), (q4, .inl (V.2.2 0, 6, .inl (fun _ => 0))), (q5, .inl (V.2.2 0, 12, .inl (fun _ => 0))), (q6, .inl (V.2.2 0, 12, .inl (fun _ => 0))), (q7, .inl (V.2.2 0, 12, .inl (fun _ => 0))), (q8, .inl (V.2.2 0, 36, .inl (fun _ => 0))), (q9, .inl (V.2.2 0, 32, .inl (fun _ => 0))), (q10, .inl (V.2.2 0, 32, .inl (fun _ => 0)))] : va_W) from rfl) ?_
  refine kx_putF hC hI (ci := 5) rfl inlX5 tyX5 tyX5_ok nmX5 17 (by decide) (wL_4 _ (List.mem_of_getElem? (i := 12) rfl)) rfl rfl rfl (Nat.le_of_ble_eq_true rfl) dX5_init_81 ?_
  refine kx_ws (show _ = ([(h0, .inr (5, [.int 0, .long 0, .ref q1, .int 0, .int 0, .int 0, .int 0, .int 0, .int 0, .ref q2, .ref q3, .ref q4, .ref q5, .ref q6, .ref q7, .ref q8, .ref q9, .ref q10, .null, .null, .null, .int 0, .null, .null, .int 0, .null, .null])), (q1, .inl (V.2.2 0, 200, .inl (fun _ => 0))), (q2, .inl (V.2.2 0, 4, .inl (fun _ => 0))), (q3, .inl (V.2.2 0, 6, .inl (fun _ => 0))), (q4, .inl (V.2.2 0, 6, .inl (fun _ => 0))), (q5, .inl (V.2.2 0, 12, .inl (fun _ => 0))), (q6, .inl (V.2.2 0, 12, .inl (fun _ => 0))), (q7, .inl (V.2.2 0, 12, .inl (fun _ => 0))), (q8, .inl (V.2.2 0, 36, .inl (fun _ => 0))), (q9, .inl (V.2.2 0, 32, .inl (fun _ => 0))), (q10, .inl (V.2.2 0, 32, .inl (fun _ => 0)))] : va_W) from rfl) ?_
  refine kx_aload hC dX5_init_84 rfl rfl ?_
  refine kx_bipush (v := 64) hC dX5_init_85 rfl ?_
  refine kx_newi hC 64 rfl (by decide) (by decide) (by decide) (wL_2 _ (List.mem_of_getElem? (i := 9) rfl)) dX5_init_87 (fun q11 => ?_)
  refine kx_ws (show _ = ([(h0, .inr (5, [.int 0, .long 0, .ref q1, .int 0, .int 0, .int 0, .int 0, .int 0, .int 0, .ref q2, .ref q3, .ref q4, .ref q5, .ref q6, .ref q7, .ref q8, .ref q9, .ref q10, .null, .null, .null, .int 0, .null, .null, .int 0, .null, .null])), (q1, .inl (V.2.2 0, 200, .inl (fun _ => 0))), (q2, .inl (V.2.2 0, 4, .inl (fun _ => 0))), (q3, .inl (V.2.2 0, 6, .inl (fun _ => 0))), (q4, .inl (V.2.2 0, 6, .inl (fun _ => 0))), (q5, .inl (V.2.2 0, 12, .inl (fun _ => 0))), (q6, .inl (V.2.2 0, 12, .inl (fun _ => 0))), (q7, .inl (V.2.2 0, 12, .inl (fun _ => 0))), (q8, .inl (V.2.2 0, 36, .inl (fun _ => 0))), (q9, .inl (V.2.2 0, 32, .inl (fun _ => 0))), (q10, .inl (V.2.2 0, 32, .inl (fun _ => 0))), (q11, .inl (V.2.2 0, 64, .inl (fun _ => 0)))] : va_W) from rfl) ?_
  refine kx_putF hC hI (ci := 5) rfl inlX5 tyX5 tyX5_ok nmX5 18 (by decide) (wL_4 _ (List.mem_of_getElem? (i := 13) rfl)) rfl rfl rfl (Nat.le_of_ble_eq_true rfl) dX5_init_89 ?_
  refine kx_ws (show _ = ([(h0, .inr (5, [.int 0, .long 0, .ref q1, .int 0, .int 0, .int 0, .int 0, .int 0, .int 0, .ref q2, .ref q3, .ref q4, .ref q5, .ref q6, .ref q7, .ref q8, .ref q9, .ref q10, .ref q11, .null, .null, .int 0, .null, .null, .int 0, .null, .null])), (q1, .inl (V.2.2 0, 200, .inl (fun _ => 0))), (q2, .inl (V.2.2 0, 4, .inl (fun _ => 0))), (q3, .inl (V.2.2 0, 6, .inl (fun _ => 0))), (q4, .inl (V.2.2 0, 6, .inl (fun _ => 0))), (q5, .inl (V.2.2 0, 12, .inl (fun _ => 0))), (q6, .inl (V.2.2 0, 12, .inl (fun _ => 0))), (q7, .inl (V.2.2 0, 12, .inl (fun _ => 0))), (q8, .inl (V.2.2 0, 36, .inl (fun _ => 0))), (q9, .inl (V.2.2 0, 32, .inl (fun _ => 0))), (q10, .inl (V.2.2 0, 32, .inl (fun _ => 0))), (q11, .inl (V.2.2 0, 64, .inl (fun _ => 0)))] : va_W) from rfl) ?_
  refine kx_aload hC dX5_init_92 rfl rfl ?_
  refine kx_iconst (v := 2) hC dX5_init_93 rfl ?_
  refine kx_newz hC 2 rfl (by decide) (by decide) (by decide) (wL_2 _ (List.mem_of_getElem? (i := 7) rfl)) dX5_init_94 (fun q12 => ?_)
  refine kx_ws (show _ = ([(h0, .inr (5, [.int 0, .long 0, .ref q1, .int 0, .int 0, .int 0, .int 0, .int 0, .int 0, .ref q2, .ref q3, .ref q4, .ref q5, .ref q6, .ref q7, .ref q8, .ref q9, .ref q10, .ref q11, .null, .null, .int 0, .null, .null, .int 0, .null, .null])), (q1, .inl (V.2.2 0, 200, .inl (fun _ => 0))), (q2, .inl (V.2.2 0, 4, .inl (fun _ => 0))), (q3, .inl (V.2.2 0, 6, .inl (fun _ => 0))), (q4, .inl (V.2.2 0, 6, .inl (fun _ => 0))), (q5, .inl (V.2.2 0, 12, .inl (fun _ => 0))), (q6, .inl (V.2.2 0, 12, .inl (fun _ => 0))), (q7, .inl (V.2.2 0, 12, .inl (fun _ => 0))), (q8, .inl (V.2.2 0, 36, .inl (fun _ => 0))), (q9, .inl (V.2.2 0, 32, .inl (fun _ => 0))), (q10, .inl (V.2.2 0, 32, .inl (fun _ => 0))), (q11, .inl (V.2.2 0, 64, .inl (fun _ => 0))), (q12, .inl (V.2.2 1, 2, .inl (fun _ => 0)))] : va_W) from rfl) ?_
  refine kx_putF hC hI (ci := 5) rfl inlX5 tyX5 tyX5_ok nmX5 19 (by decide) (wL_4 _ (List.mem_of_getElem? (i := 14) rfl)) rfl rfl rfl (Nat.le_of_ble_eq_true rfl) dX5_init_96 ?_
  refine kx_ws (show _ = ([(h0, .inr (5, [.int 0, .long 0, .ref q1, .int 0, .int 0, .int 0, .int 0, .int 0, .int 0, .ref q2, .ref q3, .ref q4, .ref q5, .ref q6, .ref q7, .ref q8, .ref q9, .ref q10, .ref q11, .ref q12, .null, .int 0, .null, .null, .int 0, .null, .null])), (q1, .inl (V.2.2 0, 200, .inl (fun _ => 0))), (q2, .inl (V.2.2 0, 4, .inl (fun _ => 0))), (q3, .inl (V.2.2 0, 6, .inl (fun _ => 0))), (q4, .inl (V.2.2 0, 6, .inl (fun _ => 0))), (q5, .inl (V.2.2 0, 12, .inl (fun _ => 0))), (q6, .inl (V.2.2 0, 12, .inl (fun _ => 0))), (q7, .inl (V.2.2 0, 12, .inl (fun _ => 0))), (q8, .inl (V.2.2 0, 36, .inl (fun _ => 0))), (q9, .inl (V.2.2 0, 32, .inl (fun _ => 0))), (q10, .inl (V.2.2 0, 32, .inl (fun _ => 0))), (q11, .inl (V.2.2 0, 64, .inl (fun _ => 0))), (q12, .inl (V.2.2 1, 2, .inl (fun _ => 0)))] : va_W) from rfl) ?_
  refine kx_aload hC dX5_init_99 rfl rfl ?_
  refine kx_sipush (v := 320) hC dX5_init_100 rfl ?_
  refine kx_newi hC 320 rfl (by decide) (by decide) (by decide) (wL_2 _ (List.mem_of_getElem? (i := 9) rfl)) dX5_init_103 (fun q13 => ?_)
  refine kx_ws (show _ = ([(h0, .inr (5, [.int 0, .long 0, .ref q1, .int 0, .int 0, .int 0, .int 0, .int 0, .int 0, .ref q2, .ref q3, .ref q4, .ref q5, .ref q6, .ref q7, .ref q8, .ref q9, .ref q10, .ref q11, .ref q12, .null, .int 0, .null, .null, .int 0, .null, .null])), (q1, .inl (V.2.2 0, 200, .inl (fun _ => 0))), (q2, .inl (V.2.2 0, 4, .inl (fun _ => 0))), (q3, .inl (V.2.2 0, 6, .inl (fun _ => 0))), (q4, .inl (V.2.2 0, 6, .inl (fun _ => 0))), (q5, .inl (V.2.2 0, 12, .inl (fun _ => 0))), (q6, .inl (V.2.2 0, 12, .inl (fun _ => 0))), (q7, .inl (V.2.2 0, 12, .inl (fun _ => 0))), (q8, .inl (V.2.2 0, 36, .inl (fun _ => 0))), (q9, .inl (V.2.2 0, 32, .inl (fun _ => 0))), (q10, .inl (V.2.2 0, 32, .inl (fun _ => 0))), (q11, .inl (V.2.2 0, 64, .inl (fun _ => 0))), (q12, .inl (V.2.2 1, 2, .inl (fun _ => 0))), (q13, .inl (V.2.2 0, 320, .inl (fun _ => 0)))] : va_W) from rfl) ?_
  refine kx_putF hC hI (ci := 5) rfl inlX5 tyX5 tyX5_ok nmX5 20 (by decide) (wL_4 _ (List.mem_of_getElem? (i := 15) rfl)) rfl rfl rfl (Nat.le_of_ble_eq_true rfl) dX5_init_105 ?_
  refine kx_ws (show _ = ([(h0, .inr (5, [.int 0, .long 0, .ref q1, .int 0, .int 0, .int 0, .int 0, .int 0, .int 0, .ref q2, .ref q3, .ref q4, .ref q5, .ref q6, .ref q7, .ref q8, .ref q9, .ref q10, .ref q11, .ref q12, .ref q13, .int 0, .null, .null, .int 0, .null, .null])), (q1, .inl (V.2.2 0, 200, .inl (fun _ => 0))), (q2, .inl (V.2.2 0, 4, .inl (fun _ => 0))), (q3, .inl (V.2.2 0, 6, .inl (fun _ => 0))), (q4, .inl (V.2.2 0, 6, .inl (fun _ => 0))), (q5, .inl (V.2.2 0, 12, .inl (fun _ => 0))), (q6, .inl (V.2.2 0, 12, .inl (fun _ => 0))), (q7, .inl (V.2.2 0, 12, .inl (fun _ => 0))), (q8, .inl (V.2.2 0, 36, .inl (fun _ => 0))), (q9, .inl (V.2.2 0, 32, .inl (fun _ => 0))), (q10, .inl (V.2.2 0, 32, .inl (fun _ => 0))), (q11, .inl (V.2.2 0, 64, .inl (fun _ => 0))), (q12, .inl (V.2.2 1, 2, .inl (fun _ => 0))), (q13, .inl (V.2.2 0, 320, .inl (fun _ => 0)))] : va_W) from rfl) ?_
  refine kx_aload hC dX5_init_108 rfl rfl ?_
  refine kx_iconst (v := 5) hC dX5_init_109 rfl ?_
  refine kx_newi hC 5 rfl (by decide) (by decide) (by decide) (wL_2 _ (List.mem_of_getElem? (i := 9) rfl)) dX5_init_110 (fun q14 => ?_)
  refine kx_ws (show _ = ([(h0, .inr (5, [.int 0, .long 0, .ref q1, .int 0, .int 0, .int 0, .int 0, .int 0, .int 0, .ref q2, .ref q3, .ref q4, .ref q5, .ref q6, .ref q7, .ref q8, .ref q9, .ref q10, .ref q11, .ref q12, .ref q13, .int 0, .null, .null, .int 0, .null, .null])), (q1, .inl (V.2.2 0, 200, .inl (fun _ => 0))), (q2, .inl (V.2.2 0, 4, .inl (fun _ => 0))), (q3, .inl (V.2.2 0, 6, .inl (fun _ => 0))), (q4, .inl (V.2.2 0, 6, .inl (fun _ => 0))), (q5, .inl (V.2.2 0, 12, .inl (fun _ => 0))), (q6, .inl (V.2.2 0, 12, .inl (fun _ => 0))), (q7, .inl (V.2.2 0, 12, .inl (fun _ => 0))), (q8, .inl (V.2.2 0, 36, .inl (fun _ => 0))), (q9, .inl (V.2.2 0, 32, .inl (fun _ => 0))), (q10, .inl (V.2.2 0, 32, .inl (fun _ => 0))), (q11, .inl (V.2.2 0, 64, .inl (fun _ => 0))), (q12, .inl (V.2.2 1, 2, .inl (fun _ => 0))), (q13, .inl (V.2.2 0, 320, .inl (fun _ => 0))), (q14, .inl (V.2.2 0, 5, .inl (fun _ => 0)))] : va_W) from rfl) ?_
  refine kx_putF hC hI (ci := 5) rfl inlX5 tyX5 tyX5_ok nmX5 22 (by decide) (wL_4 _ (List.mem_of_getElem? (i := 16) rfl)) rfl rfl rfl (Nat.le_of_ble_eq_true rfl) dX5_init_112 ?_
  refine kx_ws (show _ = ([(h0, .inr (5, [.int 0, .long 0, .ref q1, .int 0, .int 0, .int 0, .int 0, .int 0, .int 0, .ref q2, .ref q3, .ref q4, .ref q5, .ref q6, .ref q7, .ref q8, .ref q9, .ref q10, .ref q11, .ref q12, .ref q13, .int 0, .ref q14, .null, .int 0, .null, .null])), (q1, .inl (V.2.2 0, 200, .inl (fun _ => 0))), (q2, .inl (V.2.2 0, 4, .inl (fun _ => 0))), (q3, .inl (V.2.2 0, 6, .inl (fun _ => 0))), (q4, .inl (V.2.2 0, 6, .inl (fun _ => 0))), (q5, .inl (V.2.2 0, 12, .inl (fun _ => 0))), (q6, .inl (V.2.2 0, 12, .inl (fun _ => 0))), (q7, .inl (V.2.2 0, 12, .inl (fun _ => 0))), (q8, .inl (V.2.2 0, 36, .inl (fun _ => 0))), (q9, .inl (V.2.2 0, 32, .inl (fun _ => 0))), (q10, .inl (V.2.2 0, 32, .inl (fun _ => 0))), (q11, .inl (V.2.2 0, 64, .inl (fun _ => 0))), (q12, .inl (V.2.2 1, 2, .inl (fun _ => 0))), (q13, .inl (V.2.2 0, 320, .inl (fun _ => 0))), (q14, .inl (V.2.2 0, 5, .inl (fun _ => 0)))] : va_W) from rfl) ?_
  refine kx_aload hC dX5_init_115 rfl rfl ?_
  refine kx_iconst (v := 5) hC dX5_init_116 rfl ?_
  refine kx_newi hC 5 rfl (by decide) (by decide) (by decide) (wL_2 _ (List.mem_of_getElem? (i := 9) rfl)) dX5_init_117 (fun q15 => ?_)
  refine kx_ws (show _ = ([(h0, .inr (5, [.int 0, .long 0, .ref q1, .int 0, .int 0, .int 0, .int 0, .int 0, .int 0, .ref q2, .ref q3, .ref q4, .ref q5, .ref q6, .ref q7, .ref q8, .ref q9, .ref q10, .ref q11, .ref q12, .ref q13, .int 0, .ref q14, .null, .int 0, .null, .null])), (q1, .inl (V.2.2 0, 200, .inl (fun _ => 0))), (q2, .inl (V.2.2 0, 4, .inl (fun _ => 0))), (q3, .inl (V.2.2 0, 6, .inl (fun _ => 0))), (q4, .inl (V.2.2 0, 6, .inl (fun _ => 0))), (q5, .inl (V.2.2 0, 12, .inl (fun _ => 0))), (q6, .inl (V.2.2 0, 12, .inl (fun _ => 0))), (q7, .inl (V.2.2 0, 12, .inl (fun _ => 0))), (q8, .inl (V.2.2 0, 36, .inl (fun _ => 0))), (q9, .inl (V.2.2 0, 32, .inl (fun _ => 0))), (q10, .inl (V.2.2 0, 32, .inl (fun _ => 0))), (q11, .inl (V.2.2 0, 64, .inl (fun _ => 0))), (q12, .inl (V.2.2 1, 2, .inl (fun _ => 0))), (q13, .inl (V.2.2 0, 320, .inl (fun _ => 0))), (q14, .inl (V.2.2 0, 5, .inl (fun _ => 0))), (q15, .inl (V.2.2 0, 5, .inl (fun _ => 0)))] : va_W) from rfl) ?_
  refine kx_putF hC hI (ci := 5) rfl inlX5 tyX5 tyX5_ok nmX5 23 (by decide) (wL_4 _ (List.mem_of_getElem? (i := 17) rfl)) rfl rfl rfl (Nat.le_of_ble_eq_true rfl) dX5_init_119 ?_
  refine kx_ws (show _ = ([(h0, .inr (5, [.int 0, .long 0, .ref q1, .int 0, .int 0, .int 0, .int 0, .int 0, .int 0, .ref q2, .ref q3, .ref q4, .ref q5, .ref q6, .ref q7, .ref q8, .ref q9, .ref q10, .ref q11, .ref q12, .ref q13, .int 0, .ref q14, .ref q15, .int 0, .null, .null])), (q1, .inl (V.2.2 0, 200, .inl (fun _ => 0))), (q2, .inl (V.2.2 0, 4, .inl (fun _ => 0))), (q3, .inl (V.2.2 0, 6, .inl (fun _ => 0))), (q4, .inl (V.2.2 0, 6, .inl (fun _ => 0))), (q5, .inl (V.2.2 0, 12, .inl (fun _ => 0))), (q6, .inl (V.2.2 0, 12, .inl (fun _ => 0))), (q7, .inl (V.2.2 0, 12, .inl (fun _ => 0))), (q8, .inl (V.2.2 0, 36, .inl (fun _ => 0))), (q9, .inl (V.2.2 0, 32, .inl (fun _ => 0))), (q10, .inl (V.2.2 0, 32, .inl (fun _ => 0))), (q11, .inl (V.2.2 0, 64, .inl (fun _ => 0))), (q12, .inl (V.2.2 1, 2, .inl (fun _ => 0))), (q13, .inl (V.2.2 0, 320, .inl (fun _ => 0))), (q14, .inl (V.2.2 0, 5, .inl (fun _ => 0))), (q15, .inl (V.2.2 0, 5, .inl (fun _ => 0)))] : va_W) from rfl) ?_
  refine kx_aload hC dX5_init_122 rfl rfl ?_
  refine kx_bipush (v := 6) hC dX5_init_123 rfl ?_
  refine kx_newi hC 6 rfl (by decide) (by decide) (by decide) (wL_2 _ (List.mem_of_getElem? (i := 9) rfl)) dX5_init_125 (fun q16 => ?_)
  refine kx_ws (show _ = ([(h0, .inr (5, [.int 0, .long 0, .ref q1, .int 0, .int 0, .int 0, .int 0, .int 0, .int 0, .ref q2, .ref q3, .ref q4, .ref q5, .ref q6, .ref q7, .ref q8, .ref q9, .ref q10, .ref q11, .ref q12, .ref q13, .int 0, .ref q14, .ref q15, .int 0, .null, .null])), (q1, .inl (V.2.2 0, 200, .inl (fun _ => 0))), (q2, .inl (V.2.2 0, 4, .inl (fun _ => 0))), (q3, .inl (V.2.2 0, 6, .inl (fun _ => 0))), (q4, .inl (V.2.2 0, 6, .inl (fun _ => 0))), (q5, .inl (V.2.2 0, 12, .inl (fun _ => 0))), (q6, .inl (V.2.2 0, 12, .inl (fun _ => 0))), (q7, .inl (V.2.2 0, 12, .inl (fun _ => 0))), (q8, .inl (V.2.2 0, 36, .inl (fun _ => 0))), (q9, .inl (V.2.2 0, 32, .inl (fun _ => 0))), (q10, .inl (V.2.2 0, 32, .inl (fun _ => 0))), (q11, .inl (V.2.2 0, 64, .inl (fun _ => 0))), (q12, .inl (V.2.2 1, 2, .inl (fun _ => 0))), (q13, .inl (V.2.2 0, 320, .inl (fun _ => 0))), (q14, .inl (V.2.2 0, 5, .inl (fun _ => 0))), (q15, .inl (V.2.2 0, 5, .inl (fun _ => 0))), (q16, .inl (V.2.2 0, 6, .inl (fun _ => 0)))] : va_W) from rfl) ?_
  refine kx_putF hC hI (ci := 5) rfl inlX5 tyX5 tyX5_ok nmX5 25 (by decide) (wL_4 _ (List.mem_of_getElem? (i := 18) rfl)) rfl rfl rfl (Nat.le_of_ble_eq_true rfl) dX5_init_127 ?_
  refine kx_ws (show _ = ([(h0, .inr (5, [.int 0, .long 0, .ref q1, .int 0, .int 0, .int 0, .int 0, .int 0, .int 0, .ref q2, .ref q3, .ref q4, .ref q5, .ref q6, .ref q7, .ref q8, .ref q9, .ref q10, .ref q11, .ref q12, .ref q13, .int 0, .ref q14, .ref q15, .int 0, .ref q16, .null])), (q1, .inl (V.2.2 0, 200, .inl (fun _ => 0))), (q2, .inl (V.2.2 0, 4, .inl (fun _ => 0))), (q3, .inl (V.2.2 0, 6, .inl (fun _ => 0))), (q4, .inl (V.2.2 0, 6, .inl (fun _ => 0))), (q5, .inl (V.2.2 0, 12, .inl (fun _ => 0))), (q6, .inl (V.2.2 0, 12, .inl (fun _ => 0))), (q7, .inl (V.2.2 0, 12, .inl (fun _ => 0))), (q8, .inl (V.2.2 0, 36, .inl (fun _ => 0))), (q9, .inl (V.2.2 0, 32, .inl (fun _ => 0))), (q10, .inl (V.2.2 0, 32, .inl (fun _ => 0))), (q11, .inl (V.2.2 0, 64, .inl (fun _ => 0))), (q12, .inl (V.2.2 1, 2, .inl (fun _ => 0))), (q13, .inl (V.2.2 0, 320, .inl (fun _ => 0))), (q14, .inl (V.2.2 0, 5, .inl (fun _ => 0))), (q15, .inl (V.2.2 0, 5, .inl (fun _ => 0))), (q16, .inl (V.2.2 0, 6, .inl (fun _ => 0)))] : va_W) from rfl) ?_
  refine kx_aload hC dX5_init_130 rfl rfl ?_
  refine kx_bipush (v := 6) hC dX5_init_131 rfl ?_
  refine kx_newi hC 6 rfl (by decide) (by decide) (by decide) (wL_2 _ (List.mem_of_getElem? (i := 9) rfl)) dX5_init_133 (fun q17 => ?_)
  refine kx_ws (show _ = ([(h0, .inr (5, [.int 0, .long 0, .ref q1, .int 0, .int 0, .int 0, .int 0, .int 0, .int 0, .ref q2, .ref q3, .ref q4, .ref q5, .ref q6, .ref q7, .ref q8, .ref q9, .ref q10, .ref q11, .ref q12, .ref q13, .int 0, .ref q14, .ref q15, .int 0, .ref q16, .null])), (q1, .inl (V.2.2 0, 200, .inl (fun _ => 0))), (q2, .inl (V.2.2 0, 4, .inl (fun _ => 0))), (q3, .inl (V.2.2 0, 6, .inl (fun _ => 0))), (q4, .inl (V.2.2 0, 6, .inl (fun _ => 0))), (q5, .inl (V.2.2 0, 12, .inl (fun _ => 0))), (q6, .inl (V.2.2 0, 12, .inl (fun _ => 0))), (q7, .inl (V.2.2 0, 12, .inl (fun _ => 0))), (q8, .inl (V.2.2 0, 36, .inl (fun _ => 0))), (q9, .inl (V.2.2 0, 32, .inl (fun _ => 0))), (q10, .inl (V.2.2 0, 32, .inl (fun _ => 0))), (q11, .inl (V.2.2 0, 64, .inl (fun _ => 0))), (q12, .inl (V.2.2 1, 2, .inl (fun _ => 0))), (q13, .inl (V.2.2 0, 320, .inl (fun _ => 0))), (q14, .inl (V.2.2 0, 5, .inl (fun _ => 0))), (q15, .inl (V.2.2 0, 5, .inl (fun _ => 0))), (q16, .inl (V.2.2 0, 6, .inl (fun _ => 0))), (q17, .inl (V.2.2 0, 6, .inl (fun _ => 0)))] : va_W) from rfl) ?_
  refine kx_putF hC hI (ci := 5) rfl inlX5 tyX5 tyX5_ok nmX5 26 (by decide) (wL_4 _ (List.mem_of_getElem? (i := 19) rfl)) rfl rfl rfl (Nat.le_of_ble_eq_true rfl) dX5_init_135 ?_
  refine kx_ws (show _ = ([(h0, .inr (5, [.int 0, .long 0, .ref q1, .int 0, .int 0, .int 0, .int 0, .int 0, .int 0, .ref q2, .ref q3, .ref q4, .ref q5, .ref q6, .ref q7, .ref q8, .ref q9, .ref q10, .ref q11, .ref q12, .ref q13, .int 0, .ref q14, .ref q15, .int 0, .ref q16, .ref q17])), (q1, .inl (V.2.2 0, 200, .inl (fun _ => 0))), (q2, .inl (V.2.2 0, 4, .inl (fun _ => 0))), (q3, .inl (V.2.2 0, 6, .inl (fun _ => 0))), (q4, .inl (V.2.2 0, 6, .inl (fun _ => 0))), (q5, .inl (V.2.2 0, 12, .inl (fun _ => 0))), (q6, .inl (V.2.2 0, 12, .inl (fun _ => 0))), (q7, .inl (V.2.2 0, 12, .inl (fun _ => 0))), (q8, .inl (V.2.2 0, 36, .inl (fun _ => 0))), (q9, .inl (V.2.2 0, 32, .inl (fun _ => 0))), (q10, .inl (V.2.2 0, 32, .inl (fun _ => 0))), (q11, .inl (V.2.2 0, 64, .inl (fun _ => 0))), (q12, .inl (V.2.2 1, 2, .inl (fun _ => 0))), (q13, .inl (V.2.2 0, 320, .inl (fun _ => 0))), (q14, .inl (V.2.2 0, 5, .inl (fun _ => 0))), (q15, .inl (V.2.2 0, 5, .inl (fun _ => 0))), (q16, .inl (V.2.2 0, 6, .inl (fun _ => 0))), (q17, .inl (V.2.2 0, 6, .inl (fun _ => 0)))] : va_W) from rfl) ?_
  exact kx_vretE hC hV dX5_init_138 (fun k => match k with | 0 => h0 | 1 => q1 | 2 => q2 | 3 => q3 | 4 => q4 | 5 => q5 | 6 => q6 | 7 => q7 | 8 => q8 | 9 => q9 | 10 => q10 | 11 => q11 | 12 => q12 | 13 => q13 | 14 => q14 | 15 => q15 | 16 => q16 | _ => q17) rfl rfl

/-! ===== both: the calls ===== -/
theorem e_type {V : wd_V} {ad1 ad2 : Nat → Nat} (hi1 : wd_inj cS ad1) (hi2 : wd_inj rS ad2) {σ τ : wd_S} {nm nc : Nat} (h : Inv σ τ nm nc) (x : Int32) : Eqv V ad1 ad2 σ τ yX4_type cX4_type 2 yX5_type cX5_type 2 [.int x] := by
  obtain ⟨ht, h00, hT, hTO, hme, hce, hnm, hnc, h6, h3, hM, hr, hO0, hO1⟩ := Inv_f h
  obtain ⟨n, hn, e1, e2, e3, e4⟩ := h.2.2.2.2.1
  by_cases c : 0 ≤ x ∧ x ≤ 255
  · by_cases f : n = 200
    · exact eqv_ee (c_type_full hi1 σ x c.1 c.2 (by rw [e1, f]; decide)) (r_type_full hi2 τ h00 x c (by rw [e2, f]; rfl)) (by decide) (by decide) rfl h
    · exact eqv_ee (c_type hi1 σ x c.1 c.2 n e1 (by omega)) (r_type hi2 τ h00 x c n e2 (by omega)) (by decide) (by decide) (by rw [e1, e2]) (Inv_type h c.1 (by omega) e1 e2 e3 e4)
  · exact eqv_ee (c_type_bad hi1 σ x c) (r_type_bad hi2 τ h00 x c) (by decide) (by decide) rfl h
theorem e_clear {V : wd_V} {ad1 ad2 : Nat → Nat} (hi1 : wd_inj cS ad1) (hi2 : wd_inj rS ad2) {σ τ : wd_S} {nm nc : Nat} (h : Inv σ τ nm nc) : Eqv V ad1 ad2 σ τ yX4_clear cX4_clear 2 yX5_clear cX5_clear 2 [] := by
  obtain ⟨ht, h00, hT, hTO, hme, hce, hnm, hnc, h6, h3, hM, hr, hO0, hO1⟩ := Inv_f h
  obtain ⟨n, hn, e1, e2, e3, e4⟩ := h.2.2.2.2.1
  exact eqv_ee (c_clear hi1 σ) (r_clear hi2 τ h00) (by decide) (by decide) (by rw [e1, e2]) (Inv_clear h)
theorem e_valley {V : wd_V} {ad1 ad2 : Nat → Nat} (hi1 : wd_inj cS ad1) (hi2 : wd_inj rS ad2) {σ τ : wd_S} {nm nc : Nat} (h : Inv σ τ nm nc) : Eqv V ad1 ad2 σ τ yX4_valley cX4_valley 4 yX5_valley cX5_valley 3 [] := by
  obtain ⟨ht, h00, hT, hTO, hme, hce, hnm, hnc, h6, h3, hM, hr, hO0, hO1⟩ := Inv_f h
  obtain ⟨n, hn, e1, e2, e3, e4⟩ := h.2.2.2.2.1
  have hp : pT (u2 (u2 (fun k => σ.1 (ct (1 - σ.2.2) + k)) 0 0 0) 0 3 0) (wd_up (wd_up τ 2 2 0) 2 3 0) 0 0 := ⟨⟨rfl, rfl, rfl, rfl, by omega, by omega, fun z => z⟩, fun j hj => absurd hj (by omega), fun j hj => absurd hj (by omega), fun j k hj => absurd hj (by omega)⟩
  have hit := its_e (L := τ.1 1) (n := n) 201 (n + 1) _ _ 0 0 0 0 hp (by omega) (by omega)
  have hs := sK_R (L := τ.1 1) (n := n) (n + 1) (wd_up (wd_up τ 2 2 0) 2 3 0) 0 0
  refine eqv_pp (c_valley hi1 σ ht n e1 hn) (r_valley hi2 τ h00 (τ.1 1) rfl n e2 hn e4) (by decide) (by decide) (fun r s r' s' q1 q2 => ?_)
  rw [e3] at q1
  rcases hit with ⟨f, t, i1, i2⟩ | ⟨it, U, t, c, m, i1, i2, i3⟩
  · rw [i1] at q1
    rw [i2] at q2 hs
    rcases q1 with ⟨it', U', _, _, _, z, _⟩ | ⟨f', U', b', q', z, _, er, es⟩
    · exact nomatch z
    · rcases q2 with ⟨_, _, _, _, _, _, _, z2, _⟩ | ⟨f2, t2, nx, tk, pl, v, z2, _, er2, es2⟩
      · exact nomatch (show (Except.error f : Except Nat Nat) = .ok _ from congrArg Prod.fst z2)
      · injection z with z
        have z3 : (Except.error f : Except Nat Nat) = .error f2 := congrArg Prod.fst z2
        injection z3 with z3
        have z4 : t = t2 := congrArg Prod.snd z2
        subst z z3 z4
        refine ⟨by rw [er, er2], nm, nc, ?_⟩
        rw [es, es2]
        exact Inv_vfault h hs nx tk pl v (nI f)
  · rw [i1] at q1
    rw [i2] at q2 hs
    rcases q1 with ⟨it', U', s0, b', q', z, _, er, es⟩ | ⟨f', _, _, _, z, _⟩
    · rcases q2 with ⟨it2, t2, nx, tk, pl, v, m2, z2, er2, em, hm6, es2⟩ | ⟨f2, _, _, _, _, _, z2, _⟩
      · injection z with z
        have za : it = it' := congrArg Prod.fst z
        have zb : U = U' := congrArg Prod.snd z
        have z3 : (Except.ok it : Except Nat Nat) = .ok it2 := congrArg Prod.fst z2
        injection z3 with z3
        have z4 : t = t2 := congrArg Prod.snd z2
        subst za zb z3 z4
        have emm : m = m2 := by
          have e := i3.1.2.2.2.1
          rw [em] at e
          have := congrArg Int32.toNatClampNeg e
          rw [pk_cl m2 rfl (by omega), pk_cl m rfl (by have := i3.1.2.2.2.2.2.1; omega)] at this
          exact this.symm
        subst emm
        refine ⟨by rw [er, er2], m, c, ?_⟩
        rw [es, es2]
        exact Inv_valley h hs i3 nx tk pl v
      · exact nomatch (show (Except.ok it : Except Nat Nat) = .error _ from congrArg Prod.fst z2)
    · exact nomatch z
theorem e_man {V : wd_V} {ad1 ad2 : Nat → Nat} (hi1 : wd_inj cS ad1) (hi2 : wd_inj rS ad2) {σ τ : wd_S} {nm nc : Nat} (h : Inv σ τ nm nc) (x y : Int32) : Eqv V ad1 ad2 σ τ yX4_man cX4_man 3 yX5_man cX5_man 3 [.int x, .int y] := by
  obtain ⟨ht, h00, hT, hTO, hme, hce, hnm, hnc, h6, h3, hM, hr, hO0, hO1⟩ := Inv_f h
  by_cases c : ∃ m, m < nm ∧ x = nI m
  · obtain ⟨m, hm, rfl⟩ := c
    have hc := c_man (V := V) hi1 σ ht hTO (nI m) m rfl (by rw [hme]; exact hm) y
    by_cases y0 : y = 0
    · subst y0
      exact eqv_ee hc (r_man_0 hi2 τ h00 nm nc hnm hnc h6 h3 (nI m) m rfl hm) (by decide) (by decide) (show manV (tv σ) (mv σ 0) m 0 = _ from (hT.2.2.1 m hm).1) h
    by_cases y1 : y = 1
    · subst y1
      exact eqv_ee hc (r_man_1 hi2 τ h00 nm nc hnm hnc h6 h3 (nI m) m rfl hm) (by decide) (by decide) (show manV (tv σ) (mv σ 0) m 1 = _ from (hT.2.2.1 m hm).2.1) h
    by_cases y2 : y = 2
    · subst y2
      exact eqv_ee hc (r_man_2 hi2 τ h00 nm nc hnm hnc h6 h3 (nI m) m rfl hm) (by decide) (by decide) (show manV (tv σ) (mv σ 0) m 2 = _ from (hT.2.2.1 m hm).2.2.1) h
    by_cases y3 : y = 3
    · subst y3
      exact eqv_ee hc (r_man_3 hi2 τ h00 nm nc hnm hnc h6 h3 (nI m) m rfl hm) (by decide) (by decide) (show manV (tv σ) (mv σ 0) m 3 = _ from (hM.1 m hm).1) h
    by_cases y4 : y = 4
    · subst y4
      exact eqv_ee hc (r_man_4 hi2 τ h00 nm nc hnm hnc h6 h3 (nI m) m rfl hm) (by decide) (by decide) (show manV (tv σ) (mv σ 0) m 4 = _ from cF_v h6 (hM.1 m hm).2.2.1) h
    by_cases y5 : y = 5
    · subst y5
      exact eqv_ee hc (r_man_5 hi2 τ h00 nm nc hnm hnc h6 h3 (nI m) m rfl hm) (by decide) (by decide) (show manV (tv σ) (mv σ 0) m 5 = _ from (hM.1 m hm).2.2.2.1) h
    by_cases y6 : y = 6
    · subst y6
      exact eqv_ee hc (r_man_6 hi2 τ h00 nm nc hnm hnc h6 h3 (nI m) m rfl hm) (by decide) (by decide) (show manV (tv σ) (mv σ 0) m 6 = _ from (hM.1 m hm).2.2.2.2.2.1) h
    exact eqv_ee hc (r_man_bad hi2 τ h00 (nI m) y (fun z => absurd z.2 (fun z => by obtain ⟨k, hk, rfl⟩ := in_ex (b := 6) (by decide) z; rcases (show k = 0 ∨ k = 1 ∨ k = 2 ∨ k = 3 ∨ k = 4 ∨ k = 5 ∨ k = 6 by omega) with rfl | rfl | rfl | rfl | rfl | rfl | rfl <;> contradiction))) (by decide) (by decide) (by unfold manV; rw [if_neg y0, if_neg y1, if_neg y2, if_neg y3, if_neg y4, if_neg y5, if_neg y6]) h
  · exact eqv_ee (c_man_bad hi1 σ ht x y (fun z => c ((pMan_e hT x).mp z))) (r_man_bad hi2 τ h00 x y (fun z => c ((qMan_e hT x).mp z.1))) (by decide) (by decide) rfl h
theorem e_yieldOf {V : wd_V} {ad1 ad2 : Nat → Nat} (hi1 : wd_inj cS ad1) (hi2 : wd_inj rS ad2) {σ τ : wd_S} {nm nc : Nat} (h : Inv σ τ nm nc) (x y : Int32) : Eqv V ad1 ad2 σ τ yX4_yieldOf cX4_yieldOf 3 yX5_yieldOf cX5_yieldOf 3 [.int x, .int y] := by
  obtain ⟨ht, h00, hT, hTO, hme, hce, hnm, hnc, h6, h3, hM, hr, hO0, hO1⟩ := Inv_f h
  by_cases c : (∃ m, m < nm ∧ x = nI m) ∧ ∃ m, m < nc ∧ y = nI m
  · obtain ⟨⟨m, hm, rfl⟩, k, hk, rfl⟩ := c
    exact eqv_ee (c_yieldOf hi1 σ ht hTO (nI m) m rfl (by rw [hme]; exact hm) (nI k) k rfl (by rw [hce]; exact hk)) (r_yieldOf hi2 τ h00 nm nc hnm hnc h6 h3 (nI m) m rfl hm (nI k) k rfl hk) (by decide) (by decide) ((hT.2.2.2 m k hm hk).1) h
  · exact eqv_ee (c_yieldOf_bad hi1 σ ht x y (fun z => c ⟨(pMan_e hT x).mp z.1, (pCrop_e hT y).mp z.2⟩)) (r_yieldOf_bad hi2 τ h00 x y (fun z => c ⟨(qMan_e hT x).mp z.1, (qCrop_e hT y).mp z.2⟩)) (by decide) (by decide) rfl h
theorem e_carries {V : wd_V} {ad1 ad2 : Nat → Nat} (hi1 : wd_inj cS ad1) (hi2 : wd_inj rS ad2) {σ τ : wd_S} {nm nc : Nat} (h : Inv σ τ nm nc) (x y : Int32) : Eqv V ad1 ad2 σ τ yX4_carries cX4_carries 3 yX5_carries cX5_carries 3 [.int x, .int y] := by
  obtain ⟨ht, h00, hT, hTO, hme, hce, hnm, hnc, h6, h3, hM, hr, hO0, hO1⟩ := Inv_f h
  by_cases c : (∃ m, m < nm ∧ x = nI m) ∧ ∃ m, m < nc ∧ y = nI m
  · obtain ⟨⟨m, hm, rfl⟩, k, hk, rfl⟩ := c
    exact eqv_ee (c_carries hi1 σ ht hTO (nI m) m rfl (by rw [hme]; exact hm) (nI k) k rfl (by rw [hce]; exact hk)) (r_carries hi2 τ h00 nm nc hnm hnc h6 h3 hr (nI m) m rfl hm (nI k) k rfl hk) (by decide) (by decide) (carry_e hT hM hm hk) h
  · exact eqv_ee (c_carries_bad hi1 σ ht x y (fun z => c ⟨(pMan_e hT x).mp z.1, (pCrop_e hT y).mp z.2⟩)) (r_carries_bad hi2 τ h00 x y (fun z => c ⟨(qMan_e hT x).mp z.1, (qCrop_e hT y).mp z.2⟩)) (by decide) (by decide) rfl h
theorem e_has {V : wd_V} {ad1 ad2 : Nat → Nat} (hi1 : wd_inj cS ad1) (hi2 : wd_inj rS ad2) {σ τ : wd_S} {nm nc : Nat} (h : Inv σ τ nm nc) (x y : Int32) : Eqv V ad1 ad2 σ τ yX4_has cX4_has 3 yX5_has cX5_has 3 [.int x, .int y] := by
  obtain ⟨ht, h00, hT, hTO, hme, hce, hnm, hnc, h6, h3, hM, hr, hO0, hO1⟩ := Inv_f h
  by_cases c : ∃ m, m < nm ∧ x = nI m
  · obtain ⟨m, hm, rfl⟩ := c
    have hc := c_has (V := V) hi1 σ ht hTO (nI m) m rfl (by rw [hme]; exact hm) hO0 y
    by_cases y0 : y = 0
    · subst y0
      exact eqv_ee hc (r_has_0 hi2 τ h00 nm nc hnm hnc h6 h3 hr (nI m) m rfl hm) (by decide) (by decide) (show hasV (tv σ) (mv σ 0) m 0 = _ from taken_e hT hM hm) h
    by_cases y1 : y = 1
    · subst y1
      exact eqv_ee hc (r_has_1 hi2 τ h00 nm nc hnm hnc h6 h3 hr (nI m) m rfl hm) (by decide) (by decide) (show hasV (tv σ) (mv σ 0) m 1 = _ from kept_e hT hM hm) h
    by_cases y2 : y = 2
    · subst y2
      exact eqv_ee hc (r_has_2 hi2 τ h00 nm nc hnm hnc h6 h3 hr (nI m) m rfl hm) (by decide) (by decide) (show hasV (tv σ) (mv σ 0) m 2 = _ from has_e hT hM hm) h
    by_cases y3 : y = 3
    · subst y3
      exact eqv_ee hc (r_has_3 hi2 τ h00 nm nc hnm hnc h6 h3 hr (nI m) m rfl hm) (by decide) (by decide) (show hasV (tv σ) (mv σ 0) m 3 = _ from (hM.1 m hm).2.2.2.2.2.2.2.1) h
    exact eqv_ee hc (r_has_bad hi2 τ h00 (nI m) y (fun z => absurd z.2 (fun z => by obtain ⟨k, hk, rfl⟩ := in_ex (b := 3) (by decide) z; rcases (show k = 0 ∨ k = 1 ∨ k = 2 ∨ k = 3 by omega) with rfl | rfl | rfl | rfl <;> contradiction))) (by decide) (by decide) (by unfold hasV; rw [if_neg y0, if_neg y1, if_neg y2, if_neg y3]) h
  · exact eqv_ee (c_has_bad hi1 σ ht x y (fun z => c ((pMan_e hT x).mp z))) (r_has_bad hi2 τ h00 x y (fun z => c ((qMan_e hT x).mp z.1))) (by decide) (by decide) rfl h
theorem hungs_z {T : Nat → Nat → Int32} {τ : wd_S} {nm nc : Nat} (hT : cT T τ nm nc) {M : Nat → Nat → Int32} (hM : cM M (τ.1 9) nm nc) (h0 : 0 < nm → 0 < nc) : wHungs T M = vHungs τ nm nc := by
  rcases Nat.eq_zero_or_pos nm with z | z
  · unfold wHungs vHungs
    rw [cT_nm hT, z, itr, itr]
  · exact hungs_e hT hM (h0 z)
theorem e_now {V : wd_V} {ad1 ad2 : Nat → Nat} (hi1 : wd_inj cS ad1) (hi2 : wd_inj rS ad2) {σ τ : wd_S} {nm nc : Nat} (h : Inv σ τ nm nc) (y : Int32) : Eqv V ad1 ad2 σ τ yX4_now cX4_now 2 yX5_now cX5_now 4 [.int y] := by
  obtain ⟨ht, h00, hT, hTO, hme, hce, hnm, hnc, h6, h3, hM, hr, hO0, hO1⟩ := Inv_f h
  obtain ⟨u, hu2, hu, hul, hL⟩ := Inv_u h
  have hc := c_now (V := V) hi1 σ ht hTO hO0 hO1 y
  by_cases y0 : y = 0
  · subst y0
    exact eqv_pe (r1 := 0) hc (r_now_0 hi2 τ h00 nm nc hnm hnc h6 h3 hr) (by decide) (by decide) (fun r s q1 => ⟨by rw [q1.1]; exact (show nowV (tv σ) (mv σ 0) (lHeld σ) 0 = _ from hM.2.2.2), nm, nc, Inv_scr h q1.2⟩)
  by_cases y1 : y = 1
  · subst y1
    exact eqv_pe (r1 := 0) hc (r_now_1 hi2 τ h00 nm nc hnm hnc h6 h3 hr) (by decide) (by decide) (fun r s q1 => ⟨by rw [q1.1]; exact (show nowV (tv σ) (mv σ 0) (lHeld σ) 1 = _ from hM.2.1), nm, nc, Inv_scr h q1.2⟩)
  by_cases y2 : y = 2
  · subst y2
    exact eqv_pe (r1 := 0) hc (r_now_2 hi2 τ h00 nm nc hnm hnc h6 h3 hr) (by decide) (by decide) (fun r s q1 => ⟨by rw [q1.1]; exact (show nowV (tv σ) (mv σ 0) (lHeld σ) 2 = _ from ropes_e hT hM), nm, nc, Inv_scr h q1.2⟩)
  by_cases y3 : y = 3
  · subst y3
    exact eqv_pp hc (r_now_3 hi2 τ h00 nm nc hnm hnc h6 h3 hr) (by decide) (by decide) (fun r s r' s' q1 q2 => ⟨by rw [q1.1, q2.1]; exact (show nowV (tv σ) (mv σ 0) (lHeld σ) 3 = _ from hungs_z hT hM h.1.2.2.2), nm, nc, Inv_scrR (Inv_scr h q1.2) q2.2⟩)
  by_cases y4 : y = 4
  · subst y4
    exact eqv_pe (r1 := 0) hc (r_now_4 hi2 τ h00 nm nc hnm hnc h6 h3 hr) (by decide) (by decide) (fun r s q1 => ⟨by rw [q1.1]; exact (show nowV (tv σ) (mv σ 0) (lHeld σ) 4 = _ from all_e hT hM), nm, nc, Inv_scr h q1.2⟩)
  by_cases y5 : y = 5
  · subst y5
    exact eqv_pe (r1 := 0) hc (r_now_5 hi2 τ h00 nm nc hnm hnc h6 h3 hr) (by decide) (by decide) (fun r s q1 => ⟨by rw [q1.1]; exact (show nowV (tv σ) (mv σ 0) (lHeld σ) 5 = _ from hul.trans hu.symm), nm, nc, Inv_scr h q1.2⟩)
  exact eqv_pe (r1 := 0) hc (r_now_bad hi2 τ h00 y (fun z => by obtain ⟨k, hk, rfl⟩ := in_ex (b := 5) (by decide) z; rcases (show k = 0 ∨ k = 1 ∨ k = 2 ∨ k = 3 ∨ k = 4 ∨ k = 5 by omega) with rfl | rfl | rfl | rfl | rfl | rfl <;> contradiction)) (by decide) (by decide) (fun r s q1 => ⟨by rw [q1.1]; unfold nowV; rw [if_neg y0, if_neg y1, if_neg y2, if_neg y3, if_neg y4, if_neg y5], nm, nc, Inv_scr h q1.2⟩)
theorem e_sows {V : wd_V} {ad1 ad2 : Nat → Nat} (hi1 : wd_inj cS ad1) (hi2 : wd_inj rS ad2) {σ τ : wd_S} {nm nc : Nat} (h : Inv σ τ nm nc) (x y : Int32) : Eqv V ad1 ad2 σ τ yX4_sows cX4_sows 4 yX5_sows cX5_sows 3 [.int x, .int y] := by
  obtain ⟨ht, h00, hT, hTO, hme, hce, hnm, hnc, h6, h3, hM, hr, hO0, hO1⟩ := Inv_f h
  obtain ⟨u, hu2, hu, hul, hL⟩ := Inv_u h
  by_cases c : (∃ m, m < nm ∧ x = nI m) ∧ ∃ m, m < nc ∧ y = nI m
  · obtain ⟨⟨m, hm, rfl⟩, k, hk, rfl⟩ := c
    refine eqv_ee (c_sows hi1 σ ht hTO hL (nI m) m rfl (by rw [hme]; exact hm) (nI k) k rfl (by rw [hce]; exact hk)) (r_sows hi2 τ h00 nm nc hnm hnc h6 h3 u hu hu2 (nI m) m rfl hm (nI k) k rfl hk) (by decide) (by decide) (hM.1 m hm).1 (nm := nm) (nc := nc) ?_
    rw [note_up, add_up hL (by decide)]
    exact Inv_do h hu hu2 (mz_u2 (mz_mv σ 0) (by decide) _ _) (mOk_s hO0 m (by omega)) (cY_up h.2.2.1 (by omega) (cM_sow hM h6 hm hk))
  · exact eqv_ee (c_sows_bad hi1 σ ht x y (fun z => c ⟨(pMan_e hT x).mp z.1, (pCrop_e hT y).mp z.2⟩)) (r_sows_bad hi2 τ h00 x y (fun z => c ⟨(qMan_e hT x).mp z.1, (qCrop_e hT y).mp z.2⟩)) (by decide) (by decide) rfl h
theorem e_rains {V : wd_V} {ad1 ad2 : Nat → Nat} (hi1 : wd_inj cS ad1) (hi2 : wd_inj rS ad2) {σ τ : wd_S} {nm nc : Nat} (h : Inv σ τ nm nc) (x : Int32) : Eqv V ad1 ad2 σ τ yX4_rains cX4_rains 3 yX5_rains cX5_rains 2 [.int x] := by
  obtain ⟨ht, h00, hT, hTO, hme, hce, hnm, hnc, h6, h3, hM, hr, hO0, hO1⟩ := Inv_f h
  obtain ⟨u, hu2, hu, hul, hL⟩ := Inv_u h
  by_cases c : pIn x 0 1
  · refine eqv_ee (c_rains hi1 σ hL x ((bel_e x).mpr c)) (r_rains hi2 τ h00 u hu hu2 x c) (by decide) (by decide) hM.2.1 (nm := nm) (nc := nc) ?_
    rw [note_up, show wd_up (lgAdd σ) (cm 0) 5 x = _ from add_up hL (c := 0) (by decide) 5 x]
    exact Inv_do h hu hu2 (mz_u2 (mz_mv σ 0) (by decide) _ _) (mOk_0 hO0 _ _) (cY_up h.2.2.1 (by decide) (cM_rain hM h6 (bel_z c)))
  · exact eqv_ee (c_rains_bad hi1 σ x (fun z => c ((bel_e x).mp z))) (r_rains_bad hi2 τ h00 x c) (by decide) (by decide) rfl h
theorem e_ropes {V : wd_V} {ad1 ad2 : Nat → Nat} (hi1 : wd_inj cS ad1) (hi2 : wd_inj rS ad2) {σ τ : wd_S} {nm nc : Nat} (h : Inv σ τ nm nc) (x y : Int32) : Eqv V ad1 ad2 σ τ yX4_ropes cX4_ropes 4 yX5_ropes cX5_ropes 3 [.int x, .int y] := by
  obtain ⟨ht, h00, hT, hTO, hme, hce, hnm, hnc, h6, h3, hM, hr, hO0, hO1⟩ := Inv_f h
  obtain ⟨u, hu2, hu, hul, hL⟩ := Inv_u h
  by_cases c : (∃ m, m < nm ∧ x = nI m) ∧ pIn y 0 3
  · obtain ⟨⟨m, hm, rfl⟩, hy⟩ := c
    refine eqv_ee (c_ropes hi1 σ ht hTO hL (nI m) m rfl (by rw [hme]; exact hm) y hy.1 hy.2) (r_ropes hi2 τ h00 nm nc hnm hnc h6 h3 u hu hu2 (nI m) m rfl hm y hy) (by decide) (by decide) (hM.1 m hm).2.2.2.1 (nm := nm) (nc := nc) ?_
    rw [note_up, add_up hL (by decide)]
    exact Inv_do h hu hu2 (mz_u2 (mz_mv σ 0) (by decide) _ _) (mOk_3 hO0 _ _) (cY_up h.2.2.1 (by omega) (cM_rope hM h6 hm hy))
  · exact eqv_ee (c_ropes_bad hi1 σ ht x y (fun z => c ⟨(pMan_e hT x).mp z.1, z.2⟩)) (r_ropes_bad hi2 τ h00 x y (fun z => c ⟨(qMan_e hT x).mp z.1, z.2⟩)) (by decide) (by decide) rfl h
theorem mOk_4 {M : Nat → Nat → Int32} (h : mOk M) (i : Nat) (v : Int32) : mOk (u2 M 4 i v) := fun m hm => h m hm
theorem e_mules {V : wd_V} {ad1 ad2 : Nat → Nat} (hi1 : wd_inj cS ad1) (hi2 : wd_inj rS ad2) {σ τ : wd_S} {nm nc : Nat} (h : Inv σ τ nm nc) (x y : Int32) : Eqv V ad1 ad2 σ τ yX4_mules cX4_mules 4 yX5_mules cX5_mules 3 [.int x, .int y] := by
  obtain ⟨ht, h00, hT, hTO, hme, hce, hnm, hnc, h6, h3, hM, hr, hO0, hO1⟩ := Inv_f h
  obtain ⟨u, hu2, hu, hul, hL⟩ := Inv_u h
  by_cases c : (∃ m, m < nm ∧ x = nI m) ∧ pIn y 0 1
  · obtain ⟨⟨m, hm, rfl⟩, hy⟩ := c
    refine eqv_ee (c_mules hi1 σ ht hTO hL (nI m) m rfl (by rw [hme]; exact hm) y ((bel_e y).mpr hy)) (r_mules hi2 τ h00 nm nc hnm hnc h6 h3 u hu hu2 (nI m) m rfl hm y hy) (by decide) (by decide) (hM.1 m hm).2.2.2.2.2.1 (nm := nm) (nc := nc) ?_
    rw [note_up, add_up hL (by decide)]
    exact Inv_do h hu hu2 (mz_u2 (mz_mv σ 0) (by decide) _ _) (mOk_4 hO0 _ _) (cY_up h.2.2.1 (by omega) (cM_mule hM h6 hm (bel_z hy)))
  · exact eqv_ee (c_mules_bad hi1 σ ht x y (fun z => c ⟨(pMan_e hT x).mp z.1, (bel_e y).mp z.2⟩)) (r_mules_bad hi2 τ h00 x y (fun z => c ⟨(qMan_e hT x).mp z.1, z.2⟩)) (by decide) (by decide) rfl h
theorem e_marries {V : wd_V} {ad1 ad2 : Nat → Nat} (hi1 : wd_inj cS ad1) (hi2 : wd_inj rS ad2) {σ τ : wd_S} {nm nc : Nat} (h : Inv σ τ nm nc) (x y : Int32) : Eqv V ad1 ad2 σ τ yX4_marries cX4_marries 3 yX5_marries cX5_marries 5 [.int x, .int y] := by
  obtain ⟨ht, h00, hT, hTO, hme, hce, hnm, hnc, h6, h3, hM, hr, hO0, hO1⟩ := Inv_f h
  obtain ⟨u, hu2, hu, hul, hL⟩ := Inv_u h
  by_cases c : (∃ m, m < nm ∧ x = nI m) ∧ (∃ m, m < nm ∧ y = nI m) ∧ ¬ x = y
  · obtain ⟨⟨a, ha, rfl⟩, ⟨b, hb, rfl⟩, hne⟩ := c
    have hab : a ≠ b := fun e => hne (by rw [e])
    have eM := mv_lgAdd σ hL
    obtain ⟨M', e1, hz, hO, hM', e2, e3⟩ := mar_e (σ := lgAdd σ) (r := τ.1 9) (nc := nc) h6 (by rw [eM]; exact hO0) (by rw [eM]; exact hM) ha hb hab
    refine eqv_ee (c_marries hi1 σ ht hTO hL hO0 (nI a) (nI b) a b rfl rfl (by rw [hme]; exact ha) (by rw [hme]; exact hb) hne) (r_marries hi2 τ h00 nm nc hnm hnc h6 h3 hr u hu hu2 (nI a) (nI b) a b rfl rfl ha hb hne) (by decide) (by decide) ?_ (nm := nm) (nc := nc) ?_
    · rw [e2]; exact cF_v h6 (hM'.1 a ha).2.2.1
    · rw [e1]
      obtain ⟨_, y, hy, ey⟩ := h.2.2.1
      exact Inv_do h hu hu2 hz hO ⟨hM', y, hy, by rw [e3]; exact ey⟩
  · exact eqv_ee (c_marries_bad hi1 σ ht x y (fun z => c ⟨(pMan_e hT x).mp z.1, (pMan_e hT y).mp z.2.1, z.2.2⟩)) (r_marries_bad hi2 τ h00 x y (fun z => c ⟨(qMan_e hT x).mp z.1, (qMan_e hT y).mp z.2.1, z.2.2⟩)) (by decide) (by decide) rfl h
theorem mz_goM {T M : Nat → Nat → Int32} (h : mz M) : mz (goM T M) := mz_u2 (mz_yrM h _) (by decide) _ _
theorem mOk_goM {T M : Nat → Nat → Int32} (h : mOk M) : mOk (goM T M) := fun m hm => by
  have e : ∀ k, k ≠ 5 → k ≠ 0 → goM T M k m = M k m := fun k h5 h0 => by
    unfold goM u2 yrM ur
    rw [if_neg (fun h => h0 h.1), if_neg h5]
  rw [e 1 (by decide) (by decide), e 2 (by decide) (by decide)]
  exact h m hm
theorem e_year {V : wd_V} {ad1 ad2 : Nat → Nat} (hi1 : wd_inj cS ad1) (hi2 : wd_inj rS ad2) {σ τ : wd_S} {nm nc : Nat} (h : Inv σ τ nm nc) : Eqv V ad1 ad2 σ τ yX4_year cX4_year 4 yX5_year cX5_year 1 [] := by
  obtain ⟨ht, h00, hT, hTO, hme, hce, hnm, hnc, h6, h3, hM, hr, hO0, hO1⟩ := Inv_f h
  obtain ⟨u, hu2, hu, hul, hL⟩ := Inv_u h
  obtain ⟨_, y, hy, ey⟩ := h.2.2.1
  have e6 : mv σ 0 0 6 = nI y := hM.2.2.2.trans ey
  by_cases c : y = 999
  · exact eqv_ee (c_year_state hi1 σ (by rw [e6, c]; decide)) (r_year_state hi2 τ h00 (by rw [ey, c]; rfl)) (by decide) (by decide) rfl h
  · have hF : mv σ 0 0 6 < 999 := by rw [e6]; exact nI_lt (b := 999) (by omega) (by decide)
    refine eqv_ee (c_year hi1 σ ht hTO hL hO0 hF) (r_year hi2 τ h00 nm nc hnm hnc h6 h3 hr u hu hu2 (fun z => ?_)) (by decide) (by decide) (by rw [hme]; exact fed_e hT hM) (nm := nm) (nc := nc) (Inv_do h hu hu2 (mz_goM (mz_mv σ 0)) (mOk_goM hO0) ⟨go_e hT hM, y + 1, by omega, ?_⟩)
    · rw [ey] at z
      have := congrArg Int32.toNatClampNeg (show nI y = nI 999 from z)
      rw [pk_cl y rfl (by omega), pk_cl 999 rfl (by decide)] at this
      exact c this
    · show goR τ (τ.1 9) nm 31 = _
      unfold goR
      rw [show upd (grR τ (τ.1 9) nm) 31 (τ.1 9 31 + 1) 31 = τ.1 9 31 + 1 from if_pos rfl, ey]
      exact nI_1 y
theorem e_undo {V : wd_V} {ad1 ad2 : Nat → Nat} (hi1 : wd_inj cS ad1) (hi2 : wd_inj rS ad2) {σ τ : wd_S} {nm nc : Nat} (h : Inv σ τ nm nc) : Eqv V ad1 ad2 σ τ yX4_undo cX4_undo 1 yX5_undo cX5_undo 2 [] := by
  obtain ⟨ht, h00, hT, hTO, hme, hce, hnm, hnc, h6, h3, hM, hr, hO0, hO1⟩ := Inv_f h
  obtain ⟨u, hu2, hu, hul, hL⟩ := Inv_u h
  rcases Nat.eq_zero_or_pos u with z | z
  · subst z
    exact eqv_ee (c_undo_none hi1 σ hul) (r_undo_none hi2 τ h00 hu) (by decide) (by decide) rfl h
  · obtain ⟨k, rfl⟩ : ∃ k, u = k + 1 := ⟨u - 1, by omega⟩
    exact eqv_ee (c_undo hi1 σ hL (by rw [hul]; exact nI_ne0 (by omega) (by omega))) (r_undo hi2 τ h00 k hu (by omega)) (by decide) (by decide) (by rw [hul]; exact sub1_of (n := k + 1) (by omega)) (Inv_undo h hu (by omega))
theorem e_best {V : wd_V} {ad1 ad2 : Nat → Nat} (hi1 : wd_inj cS ad1) (hi2 : wd_inj rS ad2) {σ τ : wd_S} {nm nc : Nat} (h : Inv σ τ nm nc) (x y z : Int32) : Eqv V ad1 ad2 σ τ yX4_best cX4_best 10 yX5_best cX5_best 9 [.int x, .int y, .int z] := by
  obtain ⟨ht, h00, hT, hTO, hme, hce, hnm, hnc, h6, h3, hM, hr, hO0, hO1⟩ := Inv_f h
  by_cases c : (∃ m, m < nm ∧ x = nI m) ∧ pIn y 0 999 ∧ pIn z 0 1
  · obtain ⟨⟨m, hm, rfl⟩, hy, hz⟩ := c
    refine eqv_pp (c_best hi1 σ ht hTO (nI m) m rfl (by rw [hme]; exact hm) hO0 y z hy.1 hy.2 ((bel_e z).mpr hz)) (r_best hi2 τ h00 nm nc hnm hnc h6 h3 hr (nI m) m rfl hm y z hy hz) (by decide) (by decide) (fun r s r' s' q1 q2 => ⟨?_, nm, nc, Inv_scrR (Inv_scr h q1.2) q2.2⟩)
    rw [q1.1, q2.1, best_e hT hM hm y]
  · exact eqv_ee (c_best_bad hi1 σ ht x y z (fun q => c ⟨(pMan_e hT x).mp q.1, ⟨q.2.1, q.2.2.1⟩, (bel_e z).mp q.2.2.2⟩)) (r_best_bad hi2 τ h00 x y z (fun q => c ⟨(qMan_e hT x).mp q.1, q.2⟩)) (by decide) (by decide) rfl h
theorem e_rest {V : wd_V} {ad1 ad2 : Nat → Nat} (hi1 : wd_inj cS ad1) (hi2 : wd_inj rS ad2) {σ τ : wd_S} {nm nc : Nat} (h : Inv σ τ nm nc) (x y : Int32) : Eqv V ad1 ad2 σ τ yX4_rest cX4_rest 8 yX5_rest cX5_rest 8 [.int x, .int y] := by
  obtain ⟨ht, h00, hT, hTO, hme, hce, hnm, hnc, h6, h3, hM, hr, hO0, hO1⟩ := Inv_f h
  by_cases c : (∃ m, m < nm ∧ x = nI m) ∧ pIn y 0 1
  · obtain ⟨⟨m, hm, rfl⟩, hy⟩ := c
    rcases fac_e (hM.1 m hm).2.2.1 h6 hm with ⟨_, _, n1, n2⟩ | ⟨o, ho, hne, p1, p2, q1, q2, _⟩
    · exact eqv_ee (c_rest_state hi1 σ ht hTO (nI m) m rfl (by rw [hme]; exact hm) y ((bel_e y).mpr hy) (neg_iff.mpr n1)) (r_rest_state hi2 τ h00 nm nc hnm hnc h6 h3 (nI m) m rfl hm y hy n2) (by decide) (by decide) rfl h
    · refine eqv_pp (c_rest hi1 σ ht hTO (nI m) m rfl (by rw [hme]; exact hm) hO0 y ((bel_e y).mpr hy) p1) (r_rest hi2 τ h00 nm nc hnm hnc h6 h3 hr (nI m) m rfl hm y hy p2) (by decide) (by decide) (fun r s r' s' w1 w2 => ⟨?_, nm, nc, Inv_scrR (Inv_scr h w1.2) w2.2⟩)
      rw [w1.1, w2.1, q1, q2, rest_e hT hM hm ho hne]
  · exact eqv_ee (c_rest_bad hi1 σ ht x y (fun z => c ⟨(pMan_e hT x).mp z.1, (bel_e y).mp z.2⟩)) (r_rest_bad hi2 τ h00 x y (fun z => c ⟨(qMan_e hT x).mp z.1, z.2⟩)) (by decide) (by decide) rfl h
theorem e_hungry {V : wd_V} {ad1 ad2 : Nat → Nat} (hi1 : wd_inj cS ad1) (hi2 : wd_inj rS ad2) {σ τ : wd_S} {nm nc : Nat} (h : Inv σ τ nm nc) (x : Int32) : Eqv V ad1 ad2 σ τ yX4_hungry cX4_hungry 2 yX5_hungry cX5_hungry 2 [.int x] := by
  obtain ⟨ht, h00, hT, hTO, hme, hce, hnm, hnc, h6, h3, hM, hr, hO0, hO1⟩ := Inv_f h
  by_cases c : ∃ m, m < nm ∧ x = nI m
  · obtain ⟨m, hm, rfl⟩ := c
    refine eqv_pp (c_hungry hi1 σ ht hTO (nI m) m rfl (by rw [hme]; exact hm) hO0 hO1) (r_hungry hi2 τ h00 nm nc hnm hnc h6 h3 hr (nI m) m rfl hm) (by decide) (by decide) (fun r s r' s' q1 q2 => ⟨?_, nm, nc, Inv_scrR (Inv_scr h q1.2) q2.2⟩)
    rw [q1.1, q2.1, hung_e hT hM hm (h.1.2.2.2 (by omega))]
  · exact eqv_ee (c_hungry_bad hi1 σ ht x (fun z => c ((pMan_e hT x).mp z))) (r_hungry_bad hi2 τ h00 x (fun z => c ((qMan_e hT x).mp z))) (by decide) (by decide) rfl h
theorem e_faces {V : wd_V} {ad1 ad2 : Nat → Nat} (hi1 : wd_inj cS ad1) (hi2 : wd_inj rS ad2) {σ τ : wd_S} {nm nc : Nat} (h : Inv σ τ nm nc) (x : Int32) : Eqv V ad1 ad2 σ τ yX4_faces cX4_faces 3 yX5_faces cX5_faces 6 [.int x] := by
  obtain ⟨ht, h00, hT, hTO, hme, hce, hnm, hnc, h6, h3, hM, hr, hO0, hO1⟩ := Inv_f h
  by_cases c : 0 < nm ∧ (x = -1 ∨ ∃ m, m < nm ∧ x = nI m)
  · obtain ⟨h0, hx⟩ := c
    have hfe := faces_e hT hM h0
    have hmx : ∃ m, (¬ x = -1 → x = nI m) ∧ (¬ x = -1 → m < nm) := by
      rcases hx with e | ⟨m, hm, e⟩
      · exact ⟨0, fun z => absurd e z, fun z => absurd e z⟩
      · exact ⟨m, fun _ => e, fun _ => hm⟩
    obtain ⟨m, hx1, hx2⟩ := hmx
    refine eqv_pp (c_faces hi1 σ ht hTO hO0 (by rw [hme]; exact h0) x (hx.imp id (fun z => (pMan_e hT x).mpr z))) (r_faces hi2 τ h00 nm nc hnm hnc h6 h3 hr h0 x m hx1 hx2) (by decide) (by decide) (fun r s r' s' q1 q2 => ⟨?_, nm, nc, Inv_scrF (Inv_scW h q1.2) q2.2⟩)
    rw [q1.1, q2.1]
    by_cases e : x = -1
    · rw [if_pos e, if_pos e]; exact hfe.1
    · have hm := hx2 e
      rw [if_neg e, if_neg e, show x.toNatClampNeg = m from pk_cl m (hx1 e) (by omega)]
      exact hfe.2 m hm
  · refine eqv_ee (c_faces_bad hi1 σ ht x (fun z => c ⟨?_, z.2.imp id (fun q => (pMan_e hT x).mp q)⟩)) (r_faces_bad hi2 τ h00 x ?_) (by decide) (by decide) rfl h
    · have z1 := z.1
      rw [hT.1.1] at z1
      rcases Nat.eq_zero_or_pos nm with q | q
      · rw [q] at z1; exact absurd rfl z1
      · exact q
    · rcases Nat.eq_zero_or_pos nm with q | q
      · exact Or.inr (by rw [hnm, q]; rfl)
      · exact Or.inl (fun z => c ⟨q, z.imp id (fun w => (qMan_e hT x).mp w)⟩)
theorem e_needed {V : wd_V} {ad1 ad2 : Nat → Nat} (hi1 : wd_inj cS ad1) (hi2 : wd_inj rS ad2) {σ τ : wd_S} {nm nc : Nat} (h : Inv σ τ nm nc) (x : Int32) : Eqv V ad1 ad2 σ τ yX4_needed cX4_needed 3 yX5_needed cX5_needed 7 [.int x] := by
  obtain ⟨ht, h00, hT, hTO, hme, hce, hnm, hnc, h6, h3, hM, hr, hO0, hO1⟩ := Inv_f h
  by_cases hx : x = -1 ∨ ∃ m, m < nm ∧ x = nI m
  · have hne := need_e hT hM
    have hmx : ∃ m, (¬ x = -1 → x = nI m) ∧ (¬ x = -1 → m < nm) := by
      rcases hx with e | ⟨m, hm, e⟩
      · exact ⟨0, fun z => absurd e z, fun z => absurd e z⟩
      · exact ⟨m, fun _ => e, fun _ => hm⟩
    obtain ⟨m, hx1, hx2⟩ := hmx
    refine eqv_pp (c_needed hi1 σ ht hTO hO0 x (hx.imp id (fun z => (pMan_e hT x).mpr z))) (r_needed hi2 τ h00 nm nc hnm hnc h6 h3 hr x m hx1 hx2) (by decide) (by decide) (fun r s r' s' q1 q2 => ⟨?_, nm, nc, Inv_scrF (Inv_scr h q1.2) q2.2⟩)
    rw [q1.1, q2.1]
    rcases hne with ⟨e1, e2⟩ | ⟨k, hk, e1, e2, e3⟩
    · rw [if_pos (Or.inl e1), if_pos e2, e1]
    · have n9 := nI_n9 (k := k) (by omega)
      have nF : ¬ nI k = 1000000 := fun z => by
        have := congrArg Int32.toNatClampNeg (show nI k = nI 1000000 from z)
        rw [pk_cl k rfl (by omega), pk_cl 1000000 rfl (by decide)] at this
        omega
      rw [e2, if_neg nF]
      by_cases e : x = -1
      · rw [if_pos (Or.inr e), if_pos e, e1]
      · rw [if_neg (fun z => z.elim (fun z => n9 (e1.symm.trans z)) e), if_neg e, show x.toNatClampNeg = m from pk_cl m (hx1 e) (by have := hx2 e; omega)]
        exact e3 m (hx2 e)
  · exact eqv_ee (c_needed_bad hi1 σ ht x (fun z => hx (z.imp id (fun q => (pMan_e hT x).mp q)))) (r_needed_bad hi2 τ h00 x (fun z => hx (z.imp id (fun q => (qMan_e hT x).mp q)))) (by decide) (by decide) rfl h
theorem e_stubble {V : wd_V} {ad1 ad2 : Nat → Nat} (hi1 : wd_inj cS ad1) (hi2 : wd_inj rS ad2) {σ τ : wd_S} {nm nc : Nat} (h : Inv σ τ nm nc) (x y : Int32) : Eqv V ad1 ad2 σ τ yX4_stubble cX4_stubble 3 yX5_stubble cX5_stubble 3 [.int x, .int y] := by
  obtain ⟨ht, h00, hT, hTO, hme, hce, hnm, hnc, h6, h3, hM, hr, hO0, hO1⟩ := Inv_f h
  obtain ⟨n, hn, e1, e2, e3⟩ := h.2.2.2.2.2.1
  by_cases c : (∃ m, m < nm ∧ x = nI m) ∧ pIn y 0 180
  · obtain ⟨hx, hy⟩ := c
    by_cases f : n = 5
    · exact eqv_ee (c_stubble_full hi1 σ ht x y ((pMan_e hT x).mpr hx) hy.1 hy.2 (by rw [e1, f]; decide)) (r_stubble_full hi2 τ h00 x y ((qMan_e hT x).mpr hx) hy (by rw [e2, f]; rfl)) (by decide) (by decide) rfl h
    · exact eqv_ee (c_stubble hi1 σ ht x y ((pMan_e hT x).mpr hx) hy.1 hy.2 n e1 (by omega)) (r_stubble hi2 τ h00 x y ((qMan_e hT x).mpr hx) hy n e2 (by omega)) (by decide) (by decide) (by rw [e1, e2]) (Inv_stub h x y (by omega) e1 e2 e3)
  · exact eqv_ee (c_stubble_bad hi1 σ ht x y (fun z => c ⟨(pMan_e hT x).mp z.1, z.2⟩)) (r_stubble_bad hi2 τ h00 x y (fun z => c ⟨(qMan_e hT x).mp z.1, z.2⟩)) (by decide) (by decide) rfl h
theorem e_forget {V : wd_V} {ad1 ad2 : Nat → Nat} (hi1 : wd_inj cS ad1) (hi2 : wd_inj rS ad2) {σ τ : wd_S} {nm nc : Nat} (h : Inv σ τ nm nc) : Eqv V ad1 ad2 σ τ yX4_forget cX4_forget 2 yX5_forget cX5_forget 2 [] := by
  obtain ⟨ht, h00, hT, hTO, hme, hce, hnm, hnc, h6, h3, hM, hr, hO0, hO1⟩ := Inv_f h
  obtain ⟨n, hn, e1, e2, e3⟩ := h.2.2.2.2.2.1
  exact eqv_ee (c_forget hi1 σ) (r_forget hi2 τ h00) (by decide) (by decide) (by rw [e1, e2]) (Inv_forget h)
theorem e_cut {V : wd_V} {ad1 ad2 : Nat → Nat} (hi1 : wd_inj cS ad1) (hi2 : wd_inj rS ad2) {σ τ : wd_S} {nm nc : Nat} (h : Inv σ τ nm nc) (x : Int32) : Eqv V ad1 ad2 σ τ yX4_cut cX4_cut 4 yX5_cut cX5_cut 7 [.int x] := by
  obtain ⟨ht, h00, hT, hTO, hme, hce, hnm, hnc, h6, h3, hM, hr, hO0, hO1⟩ := Inv_f h
  obtain ⟨n, hn, e1, e2, e3⟩ := h.2.2.2.2.2.1
  by_cases c : ∃ m, m < nm ∧ x = nI m
  · obtain ⟨m, hm, rfl⟩ := c
    rcases fac_e (hM.1 m hm).2.2.1 h6 hm with ⟨_, _, n1, n2⟩ | ⟨o, ho, hne, p1, p2, q1, q2, _⟩
    · exact eqv_ee (c_cut_alone hi1 σ ht hTO (nI m) m rfl (by rw [hme]; exact hm) (neg_iff.mpr n1)) (r_cut_alone hi2 τ h00 nm nc hnm hnc h6 h3 (nI m) m rfl hm n2) (by decide) (by decide) rfl (Inv_scrR h ⟨_, rfl⟩)
    · refine eqv_ep (r2 := 0) (c_cut hi1 σ ht hTO (nI m) m rfl (by rw [hme]; exact hm) hO0 ⟨by rw [e1]; exact nI_pos' (by omega), by rw [e1]; exact nI_lt (by omega) (by decide)⟩ p1) (r_cut hi2 τ h00 nm nc hnm hnc h6 h3 hr (nI m) m rfl hm n e2 hn p2) (by decide) (by decide) (fun r s q => ⟨?_, nm, nc, Inv_scrR h q.2⟩)
      rw [q.1]
      exact cut_e hT hM hm σ n e1 hn e3 p1 (nI m)
  · exact eqv_ee (c_cut_bad hi1 σ ht x (fun z => c ((pMan_e hT x).mp z))) (r_cut_bad hi2 τ h00 x (fun z => c ((qMan_e hT x).mp z))) (by decide) (by decide) rfl h
theorem e_odds {V : wd_V} {ad1 ad2 : Nat → Nat} (hi1 : wd_inj cS ad1) (hi2 : wd_inj rS ad2) {σ τ : wd_S} {nm nc : Nat} (h : Inv σ τ nm nc) (x y z v w : Int32) : Eqv V ad1 ad2 σ τ yX4_odds cX4_odds 8 yX5_odds cX5_odds 10 [.int x, .int y, .int z, .int v, .int w] := by
  obtain ⟨ht, h00, hT, hTO, hme, hce, hnm, hnc, h6, h3, hM, hr, hO0, hO1⟩ := Inv_f h
  by_cases c : pIn x 0 10 ∧ pIn y 0 6 ∧ (∃ m, m < nm ∧ z = nI m) ∧ pIn v (-9999) 9999 ∧ pIn w 0 1
  · obtain ⟨hx, hy, ⟨m, hm, rfl⟩, hv, hw⟩ := c
    obtain ⟨X, hX, rfl⟩ := in_ex (b := 10) (by decide) hx
    obtain ⟨n, hn, rfl⟩ := in_ex (b := 6) (by decide) hy
    obtain ⟨A, hA, eA⟩ := oV_N τ nm m X n hX v
    have hp : 10 ^ n ≤ 10 ^ 6 := Nat.pow_le_pow_right (by decide) hn
    have hq : 2 ^ n ≤ 2 ^ 6 := Nat.pow_le_pow_right (by decide) hn
    have hA2 : A < 2 ^ 31 := Nat.lt_of_le_of_lt hA (Nat.lt_of_le_of_lt (Nat.mul_le_mul hq hp) (by decide))
    have hB2 : 10 ^ n < 2 ^ 31 := Nat.lt_of_le_of_lt hp (by decide)
    have hB0 : 0 < 10 ^ n := Nat.pow_pos (by decide)
    refine eqv_pp (c_odds hi1 σ ht hTO hO0 (nI X) (nI n) (nI m) v w n m hx.1 hx.2 rfl hn rfl (by rw [hme]; exact hm) hv ((bel_e w).mpr hw)) (r_odds hi2 τ h00 nm nc hnm hnc h6 h3 hr (nI X) (nI n) (nI m) v w n m hx rfl hn rfl hm hv hw A (10 ^ n) eA (pow10_N n) hA2 hB2 hB0) (by decide) (by decide) (fun r s r' s' q1 q2 => ⟨?_, nm, nc, Inv_scrR (Inv_scr h q1.2) q2.2⟩)
    rw [q1.1, q2.1, odds_e hT hM hm, eA, pow10_N, least_e hA2 hB2 hB0]
  · exact eqv_ee (c_odds_bad hi1 σ ht x y z v w (fun q => c ⟨q.1, q.2.1, (pMan_e hT z).mp q.2.2.1, q.2.2.2.1, (bel_e w).mp q.2.2.2.2⟩)) (r_odds_bad hi2 τ h00 x y z v w (fun q => c ⟨q.1, q.2.1, (qMan_e hT z).mp q.2.2.1, q.2.2.2.1, q.2.2.2.2⟩)) (by decide) (by decide) rfl h
theorem e_rich {V : wd_V} {ad1 ad2 : Nat → Nat} (hi1 : wd_inj cS ad1) (hi2 : wd_inj rS ad2) {σ τ : wd_S} {nm nc : Nat} (h : Inv σ τ nm nc) (x y : Int32) : Eqv V ad1 ad2 σ τ yX4_rich cX4_rich 6 yX5_rich cX5_rich 4 [.int x, .int y] := by
  obtain ⟨ht, h00, hT, hTO, hme, hce, hnm, hnc, h6, h3, hM, hr, hO0, hO1⟩ := Inv_f h
  by_cases c : (∃ m, m < nm ∧ x = nI m) ∧ pIn y (-9999) 9999
  · obtain ⟨⟨m, hm, rfl⟩, hy⟩ := c
    refine eqv_ep (r2 := 0) (c_rich hi1 σ ht hTO (nI m) m rfl (by rw [hme]; exact hm) hO0 y hy) (r_rich hi2 τ h00 nm nc hnm hnc h6 h3 hr (nI m) m rfl hm y hy) (by decide) (by decide) (fun r s q => ⟨?_, nm, nc, Inv_scrR h q.2⟩)
    rw [q.1]
    exact rich_e hT hM hm y
  · exact eqv_ee (c_rich_bad hi1 σ ht x y (fun z => c ⟨(pMan_e hT x).mp z.1, z.2⟩)) (r_rich_bad hi2 τ h00 x y (fun z => c ⟨(qMan_e hT x).mp z.1, z.2⟩)) (by decide) (by decide) rfl h
theorem e_poor {V : wd_V} {ad1 ad2 : Nat → Nat} (hi1 : wd_inj cS ad1) (hi2 : wd_inj rS ad2) {σ τ : wd_S} {nm nc : Nat} (h : Inv σ τ nm nc) : Eqv V ad1 ad2 σ τ yX4_poor cX4_poor 4 yX5_poor cX5_poor 3 [] := by
  obtain ⟨ht, h00, hT, hTO, hme, hce, hnm, hnc, h6, h3, hM, hr, hO0, hO1⟩ := Inv_f h
  refine eqv_ep (r2 := 0) (c_poor hi1 σ ht hTO hO0) (r_poor hi2 τ h00 nm nc hnm hnc h6 h3 hr) (by decide) (by decide) (fun r s q => ⟨?_, nm, nc, Inv_scrR h q.2⟩)
  rw [q.1]
  exact poor_e hT hM
theorem e_share {V : wd_V} {ad1 ad2 : Nat → Nat} (hi1 : wd_inj cS ad1) (hi2 : wd_inj rS ad2) {σ τ : wd_S} {nm nc : Nat} (h : Inv σ τ nm nc) (x y : Int32) : Eqv V ad1 ad2 σ τ yX4_share cX4_share 3 yX5_share cX5_share 4 [.int x, .int y] := by
  obtain ⟨ht, h00, hT, hTO, hme, hce, hnm, hnc, h6, h3, hM, hr, hO0, hO1⟩ := Inv_f h
  by_cases c : (∃ m, m < nm ∧ x = nI m) ∧ pIn y 0 1
  · obtain ⟨⟨m, hm, rfl⟩, hy⟩ := c
    have hc := c_share (V := V) hi1 σ ht hTO (nI m) m rfl (by rw [hme]; exact hm) hO0 y ((bel_e y).mpr hy)
    rw [has_e hT hM hm, all_e hT hM] at hc
    obtain ⟨B, hB, eB, hA⟩ := all_N hT hM
    obtain ⟨A, hA1, eA⟩ := hA m hm
    rcases Nat.eq_zero_or_pos B with z | z
    · subst z
      refine eqv_ee hc (r_share_0 hi2 τ h00 nm nc hnm hnc h6 h3 hr (nI m) m rfl hm y hy eB) (by decide) (by decide) ?_ h
      rw [eA, eB, show A = 0 by omega]
      rfl
    · refine eqv_ee hc (r_share hi2 τ h00 nm nc hnm hnc h6 h3 hr (nI m) m rfl hm y hy A B eA eB (by omega) (by omega) z) (by decide) (by decide) ?_ h
      rw [eA, eB]
      exact least_e (by omega) (by omega) z y
  · exact eqv_ee (c_share_bad hi1 σ ht x y (fun z => c ⟨(pMan_e hT x).mp z.1, (bel_e y).mp z.2⟩)) (r_share_bad hi2 τ h00 x y (fun z => c ⟨(qMan_e hT x).mp z.1, z.2⟩)) (by decide) (by decide) rfl h
theorem rt_1 (t : Int64) : t + 10 + 1 = t + 11 := by rw [Int64.add_assoc]; exact congrArg (fun z => t + z) (by decide)
theorem rt_2 (t : Int64) : t + 100 + 1 = t + 101 := by rw [Int64.add_assoc]; exact congrArg (fun z => t + z) (by decide)
theorem rt_3 (t : Int64) : t + 1000 + 10 + 1 = t + 1011 := by rw [Int64.add_assoc, Int64.add_assoc]; exact congrArg (fun z => t + z) (by decide)
theorem rt_4 (t : Int64) : t + 10000 + 100 + 1 = t + 10101 := by rw [Int64.add_assoc, Int64.add_assoc]; exact congrArg (fun z => t + z) (by decide)
theorem rt_5 (t : Int64) : t + 100000 + 1 = t + 100001 := by rw [Int64.add_assoc]; exact congrArg (fun z => t + z) (by decide)
theorem rT_0 (t : Int64) : rateT t 0 = t + 1 := by unfold rateT; exact if_pos rfl
theorem rT_1 (t : Int64) : rateT t 1 = t + 10 + 1 := by unfold rateT; rw [if_neg (by decide)]; exact if_pos rfl
theorem rT_2 (t : Int64) : rateT t 2 = t + 100 + 1 := by unfold rateT; rw [if_neg (by decide), if_neg (by decide)]; exact if_pos rfl
theorem rT_3 (t : Int64) : rateT t 3 = t + 1000 + 10 + 1 := by unfold rateT; rw [if_neg (by decide), if_neg (by decide), if_neg (by decide)]; exact if_pos rfl
theorem rT_4 (t : Int64) : rateT t 4 = t + 10000 + 100 + 1 := by unfold rateT; rw [if_neg (by decide), if_neg (by decide), if_neg (by decide), if_neg (by decide)]; exact if_pos rfl
theorem rT_5 (t : Int64) : rateT t 5 = t + 100000 + 1 := by unfold rateT; rw [if_neg (by decide), if_neg (by decide), if_neg (by decide), if_neg (by decide), if_neg (by decide)]; exact if_pos rfl
theorem rV_0 (T M : Nat → Nat → Int32) (m : Nat) (y : Int32) : rateV T M m y 0 = wHas T M m := by unfold rateV; exact if_pos rfl
theorem rV_1 (T M : Nat → Nat → Int32) (m : Nat) (y : Int32) : rateV T M m y 1 = wHas T M m + T 3 m := by unfold rateV; rw [if_neg (by decide)]; exact if_pos rfl
theorem rV_2 (T M : Nat → Nat → Int32) (m : Nat) (y : Int32) : rateV T M m y 2 = wHas T M m - T 5 m := by unfold rateV; rw [if_neg (by decide), if_neg (by decide)]; exact if_pos rfl
theorem rV_3 (T M : Nat → Nat → Int32) (m : Nat) (y : Int32) : rateV T M m y 3 = 2 * (wHas T M m + T 3 m) := by unfold rateV; rw [if_neg (by decide), if_neg (by decide), if_neg (by decide)]; exact if_pos rfl
theorem rV_4 (T M : Nat → Nat → Int32) (m : Nat) (y : Int32) : rateV T M m y 4 = wHas T M m - T 5 m + y := by unfold rateV; rw [if_neg (by decide), if_neg (by decide), if_neg (by decide), if_neg (by decide)]; exact if_pos rfl
theorem rV_5 (T M : Nat → Nat → Int32) (m : Nat) (y : Int32) : rateV T M m y 5 = wHas T M m + M 0 6 := by unfold rateV; rw [if_neg (by decide), if_neg (by decide), if_neg (by decide), if_neg (by decide), if_neg (by decide)]; exact if_pos rfl
theorem e_rate_0 {V : wd_V} {ad1 ad2 : Nat → Nat} (hi1 : wd_inj cS ad1) (hi2 : wd_inj rS ad2) {σ τ : wd_S} {nm nc : Nat} (h : Inv σ τ nm nc) {m : Nat} (hm : m < nm) : Eqv V ad1 ad2 σ τ yX4_rate cX4_rate 3 yX5_rate cX5_rate 4 [.int 0, .int (nI m)] := by
  obtain ⟨ht, h00, hT, hTO, hme, hce, hnm, hnc, h6, h3, hM, hr, hO0, hO1⟩ := Inv_f h
  have htr := h.1.2.1
  have hc := c_rate (V := V) hi1 σ ht hTO hO0 0 (nI m) m rfl (by rw [hme]; exact hm)
  have h2 := r_rate_0 (V := V) hi2 τ h00 nm nc hnm hnc h6 h3 hr (nI m) m rfl hm
  have hI : Inv (σ.1, rateT σ.2.1 0, σ.2.2) (τ.1, τ.2.1 + 1, τ.2.2) nm nc := Inv_tr h (by rw [rT_0, htr])
  have hA : rateV (tv σ) (mv σ 0) m (nI m) 0 = vHas τ (τ.1 9) m := by rw [rV_0, has_e hT hM hm]
  exact eqv_ee hc h2 (by decide) (by decide) hA hI
theorem e_rate_1 {V : wd_V} {ad1 ad2 : Nat → Nat} (hi1 : wd_inj cS ad1) (hi2 : wd_inj rS ad2) {σ τ : wd_S} {nm nc : Nat} (h : Inv σ τ nm nc) {m : Nat} (hm : m < nm) : Eqv V ad1 ad2 σ τ yX4_rate cX4_rate 3 yX5_rate cX5_rate 4 [.int 1, .int (nI m)] := by
  obtain ⟨ht, h00, hT, hTO, hme, hce, hnm, hnc, h6, h3, hM, hr, hO0, hO1⟩ := Inv_f h
  have htr := h.1.2.1
  have hc := c_rate (V := V) hi1 σ ht hTO hO0 1 (nI m) m rfl (by rw [hme]; exact hm)
  have h2 := r_rate_1 (V := V) hi2 τ h00 nm nc hnm hnc h6 h3 hr (nI m) m rfl hm
  have hI : Inv (σ.1, rateT σ.2.1 1, σ.2.2) (τ.1, τ.2.1 + 11, τ.2.2) nm nc := Inv_tr h (by rw [rT_1, htr, rt_1])
  have hA : rateV (tv σ) (mv σ 0) m (nI m) 1 = vHas τ (τ.1 9) m + τ.1 5 m := by rw [rV_1, has_e hT hM hm, (hT.2.2.1 m hm).1]
  exact eqv_ee hc h2 (by decide) (by decide) hA hI
theorem e_rate_2 {V : wd_V} {ad1 ad2 : Nat → Nat} (hi1 : wd_inj cS ad1) (hi2 : wd_inj rS ad2) {σ τ : wd_S} {nm nc : Nat} (h : Inv σ τ nm nc) {m : Nat} (hm : m < nm) : Eqv V ad1 ad2 σ τ yX4_rate cX4_rate 3 yX5_rate cX5_rate 4 [.int 2, .int (nI m)] := by
  obtain ⟨ht, h00, hT, hTO, hme, hce, hnm, hnc, h6, h3, hM, hr, hO0, hO1⟩ := Inv_f h
  have htr := h.1.2.1
  have hc := c_rate (V := V) hi1 σ ht hTO hO0 2 (nI m) m rfl (by rw [hme]; exact hm)
  have h2 := r_rate_2 (V := V) hi2 τ h00 nm nc hnm hnc h6 h3 hr (nI m) m rfl hm
  have hI : Inv (σ.1, rateT σ.2.1 2, σ.2.2) (τ.1, τ.2.1 + 101, τ.2.2) nm nc := Inv_tr h (by rw [rT_2, htr, rt_2])
  have hA : rateV (tv σ) (mv σ 0) m (nI m) 2 = vHas τ (τ.1 9) m - τ.1 7 m := by rw [rV_2, has_e hT hM hm, (hT.2.2.1 m hm).2.2.1]
  exact eqv_ee hc h2 (by decide) (by decide) hA hI
theorem e_rate_3 {V : wd_V} {ad1 ad2 : Nat → Nat} (hi1 : wd_inj cS ad1) (hi2 : wd_inj rS ad2) {σ τ : wd_S} {nm nc : Nat} (h : Inv σ τ nm nc) {m : Nat} (hm : m < nm) : Eqv V ad1 ad2 σ τ yX4_rate cX4_rate 3 yX5_rate cX5_rate 4 [.int 3, .int (nI m)] := by
  obtain ⟨ht, h00, hT, hTO, hme, hce, hnm, hnc, h6, h3, hM, hr, hO0, hO1⟩ := Inv_f h
  have htr := h.1.2.1
  have hc := c_rate (V := V) hi1 σ ht hTO hO0 3 (nI m) m rfl (by rw [hme]; exact hm)
  have h2 := r_rate_3 (V := V) hi2 τ h00 nm nc hnm hnc h6 h3 hr (nI m) m rfl hm
  have hI : Inv (σ.1, rateT σ.2.1 3, σ.2.2) (τ.1, τ.2.1 + 1011, τ.2.2) nm nc := Inv_tr h (by rw [rT_3, htr, rt_3])
  have hA : rateV (tv σ) (mv σ 0) m (nI m) 3 = 2 * (vHas τ (τ.1 9) m + τ.1 5 m) := by rw [rV_3, has_e hT hM hm, (hT.2.2.1 m hm).1]
  exact eqv_ee hc h2 (by decide) (by decide) hA hI
theorem e_rate_4 {V : wd_V} {ad1 ad2 : Nat → Nat} (hi1 : wd_inj cS ad1) (hi2 : wd_inj rS ad2) {σ τ : wd_S} {nm nc : Nat} (h : Inv σ τ nm nc) {m : Nat} (hm : m < nm) : Eqv V ad1 ad2 σ τ yX4_rate cX4_rate 3 yX5_rate cX5_rate 4 [.int 4, .int (nI m)] := by
  obtain ⟨ht, h00, hT, hTO, hme, hce, hnm, hnc, h6, h3, hM, hr, hO0, hO1⟩ := Inv_f h
  have htr := h.1.2.1
  have hc := c_rate (V := V) hi1 σ ht hTO hO0 4 (nI m) m rfl (by rw [hme]; exact hm)
  have h2 := r_rate_4 (V := V) hi2 τ h00 nm nc hnm hnc h6 h3 hr (nI m) m rfl hm
  have hI : Inv (σ.1, rateT σ.2.1 4, σ.2.2) (τ.1, τ.2.1 + 10101, τ.2.2) nm nc := Inv_tr h (by rw [rT_4, htr, rt_4])
  have hA : rateV (tv σ) (mv σ 0) m (nI m) 4 = vHas τ (τ.1 9) m - τ.1 7 m + nI m := by rw [rV_4, has_e hT hM hm, (hT.2.2.1 m hm).2.2.1]
  exact eqv_ee hc h2 (by decide) (by decide) hA hI
theorem e_rate_5 {V : wd_V} {ad1 ad2 : Nat → Nat} (hi1 : wd_inj cS ad1) (hi2 : wd_inj rS ad2) {σ τ : wd_S} {nm nc : Nat} (h : Inv σ τ nm nc) {m : Nat} (hm : m < nm) : Eqv V ad1 ad2 σ τ yX4_rate cX4_rate 3 yX5_rate cX5_rate 4 [.int 5, .int (nI m)] := by
  obtain ⟨ht, h00, hT, hTO, hme, hce, hnm, hnc, h6, h3, hM, hr, hO0, hO1⟩ := Inv_f h
  have htr := h.1.2.1
  have hc := c_rate (V := V) hi1 σ ht hTO hO0 5 (nI m) m rfl (by rw [hme]; exact hm)
  have h2 := r_rate_5 (V := V) hi2 τ h00 nm nc hnm hnc h6 h3 hr (nI m) m rfl hm
  have hI : Inv (σ.1, rateT σ.2.1 5, σ.2.2) (τ.1, τ.2.1 + 100001, τ.2.2) nm nc := Inv_tr h (by rw [rT_5, htr, rt_5])
  have hA : rateV (tv σ) (mv σ 0) m (nI m) 5 = vHas τ (τ.1 9) m + τ.1 9 31 := by rw [rV_5, has_e hT hM hm, hM.2.2.2]
  exact eqv_ee hc h2 (by decide) (by decide) hA hI
theorem e_rate {V : wd_V} {ad1 ad2 : Nat → Nat} (hi1 : wd_inj cS ad1) (hi2 : wd_inj rS ad2) {σ τ : wd_S} {nm nc : Nat} (h : Inv σ τ nm nc) (y x : Int32) : Eqv V ad1 ad2 σ τ yX4_rate cX4_rate 3 yX5_rate cX5_rate 4 [.int y, .int x] := by
  obtain ⟨ht, h00, hT, hTO, hme, hce, hnm, hnc, h6, h3, hM, hr, hO0, hO1⟩ := Inv_f h
  by_cases c : ∃ m, m < nm ∧ x = nI m
  · obtain ⟨m, hm, rfl⟩ := c
    by_cases y0 : y = 0
    · subst y0
      exact e_rate_0 hi1 hi2 h hm
    by_cases y1 : y = 1
    · subst y1
      exact e_rate_1 hi1 hi2 h hm
    by_cases y2 : y = 2
    · subst y2
      exact e_rate_2 hi1 hi2 h hm
    by_cases y3 : y = 3
    · subst y3
      exact e_rate_3 hi1 hi2 h hm
    by_cases y4 : y = 4
    · subst y4
      exact e_rate_4 hi1 hi2 h hm
    by_cases y5 : y = 5
    · subst y5
      exact e_rate_5 hi1 hi2 h hm
    have hc := c_rate (V := V) hi1 σ ht hTO hO0 y (nI m) m rfl (by rw [hme]; exact hm)
    have eT : rateT σ.2.1 y = σ.2.1 := by unfold rateT; rw [if_neg y0, if_neg y1, if_neg y2, if_neg y3, if_neg y4, if_neg y5]
    have eV : rateV (tv σ) (mv σ 0) m (nI m) y = -1000000 := by unfold rateV; rw [if_neg y0, if_neg y1, if_neg y2, if_neg y3, if_neg y4, if_neg y5]
    rw [eT, eV] at hc
    exact eqv_ee hc (r_rate_bad hi2 τ h00 y (nI m) (fun z => absurd z.1 (fun z => by obtain ⟨k, hk, rfl⟩ := in_ex (b := 5) (by decide) z; rcases (show k = 0 ∨ k = 1 ∨ k = 2 ∨ k = 3 ∨ k = 4 ∨ k = 5 by omega) with rfl | rfl | rfl | rfl | rfl | rfl <;> contradiction))) (by decide) (by decide) rfl h
  · exact eqv_ee (c_rate_bad hi1 σ ht y x (fun z => c ((pMan_e hT x).mp z))) (r_rate_bad hi2 τ h00 y x (fun z => c ((qMan_e hT x).mp z.2))) (by decide) (by decide) rfl h
theorem e_keep {V : wd_V} {ad1 ad2 : Nat → Nat} (hi1 : wd_inj cS ad1) (hi2 : wd_inj rS ad2) {σ τ : wd_S} {nm nc : Nat} (h : Inv σ τ nm nc) (x : Int32) : Eqv V ad1 ad2 σ τ yX4_keep cX4_keep 2 yX5_keep cX5_keep 3 [.int x] := by
  obtain ⟨ht, h00, hT, hTO, hme, hce, hnm, hnc, h6, h3, hM, hr, hO0, hO1⟩ := Inv_f h
  by_cases c : pIn x 0 1
  · obtain ⟨m, hm, rfl⟩ := bel_i c
    exact eqv_ee (c_keep hi1 σ (nI m) m rfl hm) (r_keep hi2 τ h00 (nI m) m rfl hm) (by decide) (by decide) hM.2.2.2 (Inv_keep h hm)
  · exact eqv_ee (c_keep_bad hi1 σ x (fun z => c ((bel_e x).mp z))) (r_keep_bad hi2 τ h00 x c) (by decide) (by decide) rfl h
theorem e_back {V : wd_V} {ad1 ad2 : Nat → Nat} (hi1 : wd_inj cS ad1) (hi2 : wd_inj rS ad2) {σ τ : wd_S} {nm nc : Nat} (h : Inv σ τ nm nc) (x : Int32) : Eqv V ad1 ad2 σ τ yX4_back cX4_back 2 yX5_back cX5_back 3 [.int x] := by
  obtain ⟨ht, h00, hT, hTO, hme, hce, hnm, hnc, h6, h3, hM, hr, hO0, hO1⟩ := Inv_f h
  by_cases c : pIn x 0 1
  · obtain ⟨m, hm, rfl⟩ := bel_i c
    rcases h.2.2.2.2.2.2.2 m hm with ⟨k1, k2⟩ | ⟨k1, k2, k3⟩
    · exact eqv_ee (c_back_none hi1 σ (nI m) m rfl hm k1) (r_back_none hi2 τ h00 (nI m) m rfl hm k2) (by decide) (by decide) rfl h
    · have n1 : ¬ σ.1 6 m = 0 := by rw [k1]; decide
      exact eqv_ee (c_back hi1 σ (nI m) m rfl hm n1) (r_back hi2 τ h00 (nI m) m rfl hm (by rw [k2]; decide)) (by decide) (by decide) k3.1.2.2.2 (Inv_back h hm n1)
  · exact eqv_ee (c_back_bad hi1 σ x (fun z => c ((bel_e x).mp z))) (r_back_bad hi2 τ h00 x c) (by decide) (by decide) rfl h
theorem e_count {V : wd_V} {ad1 ad2 : Nat → Nat} (hi1 : wd_inj cS ad1) (hi2 : wd_inj rS ad2) {σ τ : wd_S} {nm nc : Nat} (h : Inv σ τ nm nc) (y : Int32) : Eqv V ad1 ad2 σ τ yX4_count cX4_count 2 yX5_count cX5_count 2 [.int y] := by
  obtain ⟨ht, h00, hT, hTO, hme, hce, hnm, hnc, h6, h3, hM, hr, hO0, hO1⟩ := Inv_f h
  obtain ⟨n, hn, t1, t2, _⟩ := h.2.2.2.2.1
  obtain ⟨k, hk, s1, s2, _⟩ := h.2.2.2.2.2.1
  have hc := c_count (V := V) hi1 σ ht y
  by_cases y0 : y = 0
  · subst y0
    exact eqv_ee hc (r_count_0 hi2 τ h00) (by decide) (by decide) (show countV (tv σ) (σ.1 0 10) (σ.1 1 1) 0 = _ from hT.1.2.1.trans hnc.symm) h
  by_cases y1 : y = 1
  · subst y1
    exact eqv_ee hc (r_count_1 hi2 τ h00) (by decide) (by decide) (show countV (tv σ) (σ.1 0 10) (σ.1 1 1) 1 = _ from hT.1.1.trans hnm.symm) h
  by_cases y2 : y = 2
  · subst y2
    exact eqv_ee hc (r_count_2 hi2 τ h00) (by decide) (by decide) (show countV (tv σ) (σ.1 0 10) (σ.1 1 1) 2 = _ from s1.trans s2.symm) h
  by_cases y3 : y = 3
  · subst y3
    exact eqv_ee hc (r_count_3 hi2 τ h00) (by decide) (by decide) (show countV (tv σ) (σ.1 0 10) (σ.1 1 1) 3 = _ from t1.trans t2.symm) h
  exact eqv_ee hc (r_count_bad hi2 τ h00 y (fun z => by obtain ⟨k, hk, rfl⟩ := in_ex (b := 3) (by decide) z; rcases (show k = 0 ∨ k = 1 ∨ k = 2 ∨ k = 3 by omega) with rfl | rfl | rfl | rfl <;> contradiction)) (by decide) (by decide) (by unfold countV; rw [if_neg y0, if_neg y1, if_neg y2, if_neg y3]) h

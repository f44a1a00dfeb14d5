/-! ===== valley ===== -/
/-- the two Tolds change places -/
def swT (σ : wd_S) : wd_S := (σ.1, σ.2.1, 1 - σ.2.2)
theorem wd_swap {V : wd_V} {ad : Nat → Nat} {K : wd_K} {cc : ByteArray} {nL d : Nat} {ret : Option FieldType} {Q : State → Prop} {pc : Nat} {lv : List (Option Value)} {st : List Value} {σ : wd_S} (hC : wd_Ok cS V ad K RX4 cc nL d ret) (ht : σ.2.2 < 2) (d1 : decode cc pc = .ok (.putfield 19, 3)) (d2 : decode cc (pc + 3) = .ok (.aload_n 0, 1)) (d3 : decode cc (pc + 3 + 1) = .ok (.aload_n 2, 1)) (d4 : decode cc (pc + 3 + 1 + 1) = .ok (.putfield 23, 3)) (h0 : lv[0]? = some (some (.ref (ad 0)))) (h2 : lv[2]? = some (some (.ref (ad (ct σ.2.2))))) (k : wd_G cS V ad K nL Q (pc + 3 + 1 + 1 + 3) lv st (swT σ)) : wd_G cS V ad K nL Q pc lv (.ref (ad (ct (1 - σ.2.2))) :: .ref (ad 0) :: st) σ := by
  obtain ⟨p, e, R, s, m, args, below, meth, c⟩ := K
  obtain ⟨hx, hb, hml, hown, hts, hK, hlk, hrt, hR, hinj⟩ := hC
  subst hR
  intro H locs ls hP hS hl
  have hc4 : vwCl[4]? = some (RX4, TX4, 15) := rfl
  refine va_put hx hb hts inlX4 tyX4 tyX4_ok nmX4 hown hK hP (wd_D hinj V.2.2 σ s.heap.size) hS 0 (wd_at (sd := cS) (by decide)) hc4 1 (by decide) (hts _ (wL_1 _ (List.mem_of_getElem? (i := 19) rfl))) (fun _ h9 => h9) rfl (tyX4_ok 1 (by decide)) rfl rfl (Nat.le_of_ble_eq_true rfl) d1 (fun H1 locs1 hP1 hD1 hS1 => ?_)
  refine lv_aload_n hx hb d2 rfl (hl.2.2.2 0 _ h0).1 ?_
  refine lv_aload_n hx hb d3 rfl (hl.2.2.2 2 _ h2).1 ?_
  have hlen : (wd_cells cS ad V.2.2 σ).length = 120 := by simp [wd_cells, cS]
  refine va_put hx hb hts inlX4 tyX4 tyX4_ok nmX4 hown hK hP1 hD1 hS1 0 (List.getElem?_set_self (by rw [hlen]; decide)) hc4 2 (by decide) (hts _ (wL_1 _ (List.mem_of_getElem? (i := 20) rfl))) (fun _ h9 => h9) rfl (tyX4_ok 2 (by decide)) rfl rfl (Nat.le_of_ble_eq_true rfl) d4 (fun H2 locs2 hP2 hD2 hS2 => ?_)
  rw [List.set_set, wd_set (σ' := swT σ) (show cE ad V.2.2 (swT σ).2 0 _ = _ from (by
    show Sum.inr _ = Sum.inr _
    rcases (show σ.2.2 = 0 ∨ σ.2.2 = 1 by omega) with h | h
    · simp only [swT, h]
      rfl
    · simp only [swT, h]
      rfl)) (fun j _ hj => cE_x hj)] at hP2
  exact k H2 locs2 ls hP2 hS2 hl
def kpW (σ : wd_S) : Nat → wd_S
  | 0 => σ
  | n + 1 => wd_up (kpW σ n) 6 n 0
/-- all anew: from the world behind readInto -/
def vaW (σ : wd_S) : wd_S := kpW (wd_up (wd_up (stM (wd_up (swT σ) 1 1 0) 0 (begM (σ.1 (ct (1 - σ.2.2)) 3))) 3 2 0) 0 10 0) 2

theorem neg_of {f : Nat} (h : f ≤ 200) : ¬ (0 : Int32) ≤ -10 - nI f := by
  have key : ∀ g : Fin 201, ¬ (0 : Int32) ≤ -10 - nI g.val := by decide +kernel
  exact key ⟨f, by omega⟩

set_option maxRecDepth 100000 in
set_option maxHeartbeats 4000000 in
theorem c_valley {V : wd_V} {ad : Nat → Nat} (hinj : wd_inj cS ad) (σ : wd_S) (ht : σ.2.2 < 2) (n : Nat) (hn : σ.1 1 1 = nI n) (hn2 : n ≤ 200) : wd_C cS V ad 7 yX4_valley (Cond.code yX4_valley cX4_valley 4 (some .int) :: wsL_law) σ [.ref (ad 0)] (wd_pi (fun r σ' => (∃ it U' s' b' q', itsL (σ.1 2) n 201 (u2 (u2 (fun k => σ.1 (ct (1 - σ.2.2) + k)) 0 0 0) 0 3 0) 0 0 = .ok (it, U') ∧ tOk U' ∧ r = nI it ∧ σ' = vaW (stQ σ (1 - σ.2.2) U' s' b' q')) ∨ (∃ f U' b' q', itsL (σ.1 2) n 201 (u2 (u2 (fun k => σ.1 (ct (1 - σ.2.2) + k)) 0 0 0) 0 3 0) 0 0 = .error f ∧ f ≤ n ∧ r = -10 - nI f ∧ σ' = stQ σ (1 - σ.2.2) U' (nI f) b' q'))) := by
  refine wd_intro (lv := [some (.ref (ad 0)), none, none, none]) hinj (by decide) rfl (Nat.le_of_ble_eq_true rfl) rfl (Nat.le_of_ble_eq_true rfl) (fun K hC => ?_)
  refine wd_ts (stQ_self σ (1 - σ.2.2)) ?_
  refine wd_aload_n hC dX4_valley_0 rfl rfl ?_
  refine gf_X4_10 hC dX4_valley_1 ?_
  refine wd_aload_n hC dX4_valley_4 rfl rfl ?_
  refine gf_X4_23 hC dX4_valley_5 ?_
  refine cv2iP hC cw_X4_72 (c_readInto hinj σ (1 - σ.2.2) (by omega) (σ.1 2) rfl n hn hn2 (fun k => σ.1 (ct (1 - σ.2.2) + k)) _ _ _) dX4_valley_8 (by first | decide | omega) (by decide) rfl rfl (Nat.le_of_ble_eq_true rfl) (fun r_8 σ_8 h_8 => ?_)
  refine wd_istore_n_4_1 hC dX4_valley_11 ?_
  refine wd_iload_n hC dX4_valley_12 rfl rfl ?_
  refine wd_if_ge (tgt := 18) hC dX4_valley_13 (by decide) (fun c_13 => ?_) (fun c_13 => ?_)
  · obtain ⟨it, U2, s2, b2, q2, he, h201, hT2, rfl, rfl⟩ := h_8.resolve_right (fun ⟨f, _, _, _, _, hf, hr, _⟩ => neg_of (show f ≤ 200 by omega) (by rw [← hr]; exact c_13))
    refine wd_aload_n hC dX4_valley_18 rfl rfl ?_
    refine gf_X4_19 hC dX4_valley_19 ?_
    refine wd_astore_n_4_2 hC dX4_valley_22 ?_
    refine wd_aload_n hC dX4_valley_23 rfl rfl ?_
    refine wd_aload_n hC dX4_valley_24 rfl rfl ?_
    refine gf_X4_23 hC dX4_valley_25 ?_
    refine wd_swap hC ht dX4_valley_28 dX4_valley_31 dX4_valley_32 dX4_valley_33 rfl rfl ?_
    have ht2 : 1 - σ.2.2 < 2 := by omega
    have loop : ∀ (k i : Nat), i ≤ 2 → 2 < i + k → wd_G cS V ad K 4 (wd_Qm cS V ad K (wd_pi (fun r σ' => (∃ it U' s' b' q', itsL (σ.1 2) n 201 (u2 (u2 (fun k => σ.1 (ct (1 - σ.2.2) + k)) 0 0 0) 0 3 0) 0 0 = .ok (it, U') ∧ tOk U' ∧ r = nI it ∧ σ' = vaW (stQ σ (1 - σ.2.2) U' s' b' q')) ∨ (∃ f U' b' q', itsL (σ.1 2) n 201 (u2 (u2 (fun k => σ.1 (ct (1 - σ.2.2) + k)) 0 0 0) 0 3 0) 0 0 = .error f ∧ f ≤ n ∧ r = -10 - nI f ∧ σ' = stQ σ (1 - σ.2.2) U' (nI f) b' q')))) 73 [some (.ref (ad 0)), some (.int (nI it)), some (.ref (ad (ct σ.2.2))), some (.int (nI i))] [] (kpW (wd_up (wd_up (stM (wd_up (swT (stQ σ (1 - σ.2.2) U2 s2 b2 q2)) 1 1 0) 0 (begM ((stQ σ (1 - σ.2.2) U2 s2 b2 q2).1 (ct (1 - σ.2.2)) 3))) 3 2 0) 0 10 0) i) := by
      intro k
      induction k with
      | zero =>
        intro i  h1 h2 
        exact absurd h2 (by omega)
      | succ k ih =>
        intro i  h1 h2 
        refine wd_iload_n hC dX4_valley_73 rfl rfl ?_
        refine wd_iconst (v := 2) hC dX4_valley_74 rfl ?_
        refine wd_icmp_ge (tgt := 91) hC dX4_valley_75 (by decide) (fun c_75 => ?_) (fun c_75 => ?_)
        · have hin : i = 2 := lp_ge (x := 2) (n := 2) rfl c_75 h1 (by decide)
          subst hin
          refine wd_iload_n hC dX4_valley_91 rfl rfl ?_
          exact wd_iretP hC rfl dX4_valley_92 (⟨_, rfl, Or.inl ⟨it, U2, s2, b2, q2, he, hT2, rfl, rfl⟩⟩)
        · have hin : i < 2 := lp_lt (x := 2) (n := 2) rfl c_75 h1 (by decide)
          refine wd_aload_n hC dX4_valley_78 rfl rfl ?_
          refine gf_X4_47 hC dX4_valley_79 ?_
          refine wd_iload_n hC dX4_valley_82 rfl rfl ?_
          refine wd_iconst (v := 0) hC dX4_valley_83 rfl ?_
          refine st_z hC dX4_valley_84 (i) rfl (by omega) rfl ?_
          refine wd_iincN_4_3 hC dX4_valley_85 ?_
          refine wd_goto (tgt := 73) hC dX4_valley_88 (by decide) ?_
          exact ih (i + 1) (by omega) (by omega)
    refine wd_aload_n hC dX4_valley_36 rfl rfl ?_
    refine gf_X4_10 hC dX4_valley_37 ?_
    refine wd_iconst (v := 0) hC dX4_valley_40 rfl ?_
    refine pf_X4_65 hC dX4_valley_41 ?_
    refine wd_aload_n hC dX4_valley_44 rfl rfl ?_
    refine gf_X4_29 hC dX4_valley_45 ?_
    refine wd_aload_n hC dX4_valley_48 rfl rfl ?_
    refine gf_X4_19 hC dX4_valley_49 ?_
    refine gf_X4_76 hC dX4_valley_52 ?_
    refine wd_vi (show _ = (stQ σ (1 - σ.2.2) U2 s2 b2 q2).1 (ct (1 - σ.2.2)) 3 from congrFun (wd_up_n (swT (stQ σ (1 - σ.2.2) U2 s2 b2 q2)) 1 1 0 (j := ct (1 - σ.2.2)) (by unfold ct; omega)) 3) ?_
    refine cv1v hC cw_X4_61 (c_begin hinj _ 0 (by decide) _) dX4_valley_55 (by first | decide | omega) (by decide) rfl rfl (Nat.le_of_ble_eq_true rfl) ?_
    refine wd_aload_n hC dX4_valley_58 rfl rfl ?_
    refine gf_X4_39 hC dX4_valley_59 ?_
    refine wd_iconst (v := 0) hC dX4_valley_62 rfl ?_
    refine pf_X4_79 hC dX4_valley_63 ?_
    refine wd_aload_n hC dX4_valley_66 rfl rfl ?_
    refine wd_iconst (v := 0) hC dX4_valley_67 rfl ?_
    refine pf_X4_82 hC dX4_valley_68 ?_
    refine wd_iconst (v := 0) hC dX4_valley_71 rfl ?_
    refine wd_istore_n_4_3 hC dX4_valley_72 ?_
    exact loop 3 0 (by decide) (by decide)
  · obtain ⟨f, U2, b2, q2, he, hf, hr, hσ⟩ := h_8.resolve_left (fun ⟨it, _, _, _, _, _, h201, _, hr, _⟩ => c_13 (by rw [hr]; exact nI_pos' (by omega)))
    refine wd_iload_n hC dX4_valley_16 rfl rfl ?_
    exact wd_iretP hC rfl dX4_valley_17 (⟨_, rfl, Or.inr ⟨f, U2, b2, q2, he, hf, hr, hσ⟩⟩)

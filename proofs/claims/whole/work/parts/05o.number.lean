/-! ===== the reference: numbers ===== -/
theorem tkR_5 {t : Int32} (h0 : ¬ t = 0) (h1 : ¬ t = 1) (h2 : ¬ t = 2) (h3 : ¬ t = 3) (h4 : ¬ t = 4) : tkR t = 4 := by
  unfold tkR
  rw [if_neg h0, if_neg h1, if_neg h2, if_neg h3, if_neg h4]
theorem tkR_i2 (t : Int32) : tkR t = 2 ↔ t = 3 := by
  by_cases h0 : t = 0
  · subst h0; decide
  by_cases h1 : t = 1
  · subst h1; decide
  by_cases h2 : t = 2
  · subst h2; decide
  by_cases h3 : t = 3
  · subst h3; decide
  by_cases h4 : t = 4
  · subst h4; decide
  rw [tkR_5 h0 h1 h2 h3 h4]
  exact ⟨fun h => absurd h (by decide), fun h => absurd h h3⟩
theorem tkR_i3 (t : Int32) : tkR t = 3 ↔ t = 4 := by
  by_cases h0 : t = 0
  · subst h0; decide
  by_cases h1 : t = 1
  · subst h1; decide
  by_cases h2 : t = 2
  · subst h2; decide
  by_cases h3 : t = 3
  · subst h3; decide
  by_cases h4 : t = 4
  · subst h4; decide
  rw [tkR_5 h0 h1 h2 h3 h4]
  exact ⟨fun h => absurd h (by decide), fun h => absurd h h4⟩
theorem tkR_i0 (t : Int32) : tkR t = 0 ↔ t = 0 := by
  by_cases h0 : t = 0
  · subst h0; decide
  by_cases h1 : t = 1
  · subst h1; decide
  by_cases h2 : t = 2
  · subst h2; decide
  by_cases h3 : t = 3
  · subst h3; decide
  by_cases h4 : t = 4
  · subst h4; decide
  rw [tkR_5 h0 h1 h2 h3 h4]
  exact ⟨fun h => absurd h (by decide), fun h => absurd h h0⟩
theorem tkR_i1 (t : Int32) : tkR t = 1 ↔ t = 1 ∨ t = 2 := by
  by_cases h0 : t = 0
  · subst h0; decide
  by_cases h1 : t = 1
  · subst h1; decide
  by_cases h2 : t = 2
  · subst h2; decide
  by_cases h3 : t = 3
  · subst h3; decide
  by_cases h4 : t = 4
  · subst h4; decide
  rw [tkR_5 h0 h1 h2 h3 h4]
  exact ⟨fun h => absurd h (by decide), fun h => h.elim (fun h => absurd h h1) (fun h => absurd h h2)⟩
set_option maxRecDepth 100000 in
set_option maxHeartbeats 4000000 in
theorem r_isWell {V : wd_V} {ad : Nat → Nat} (hinj : wd_inj rS ad) (σ : wd_S)  : wd_C rS V ad 0 yX5_isWell (Cond.code yX5_isWell cX5_isWell 1 (some .boolean) :: wsL_law) σ [.ref (ad 0)] (wd_eq (some (.int (bI (¬ 0 ≤ σ.1 0 8)))) (σ)) := by
  refine wd_intro (lv := [some (.ref (ad 0))]) hinj (by decide) rfl (Nat.le_of_ble_eq_true rfl) rfl (Nat.le_of_ble_eq_true rfl) (fun K hC => ?_)
  refine wd_aload_n hC dX5_isWell_0 rfl rfl ?_
  refine gf_X5_89 hC dX5_isWell_1 ?_
  refine wd_if_ge (tgt := 11) hC dX5_isWell_4 (by decide) (fun c_4 => ?_) (fun c_4 => ?_)
  · refine wd_iconst (v := 0) hC dX5_isWell_11 rfl ?_
    exact wd_zret hC rfl (by decide) dX5_isWell_12 (bI_f (fun h => h c_4)) rfl
  · refine wd_iconst (v := 1) hC dX5_isWell_7 rfl ?_
    refine wd_goto (tgt := 12) hC dX5_isWell_8 (by decide) ?_
    exact wd_zret hC rfl (by decide) dX5_isWell_12 (bI_t c_4) rfl
set_option maxRecDepth 100000 in
set_option maxHeartbeats 4000000 in
theorem r_takes_f {V : wd_V} {ad : Nat → Nat} (hinj : wd_inj rS ad) (σ : wd_S) (nx tk pl v : Int32) (g : Nat) (hg : g ≤ 200) (x : Int32) : wd_C rS V ad 2 yX5_takesToken (Cond.code yX5_takesToken cX5_takesToken 3 (some .int) :: wsL_law) (aW σ nx tk pl v (nI g)) [.ref (ad 0), .int x] (wd_eq (some (.int (0))) (aW σ nx tk pl v (nI g))) := by
  refine wd_intro (lv := [some (.ref (ad 0)), some (.int x), none]) hinj (by decide) rfl (Nat.le_of_ble_eq_true rfl) rfl (Nat.le_of_ble_eq_true rfl) (fun K hC => ?_)
  refine wd_aload_n hC dX5_takesToken_0 rfl rfl ?_
  refine cv5i hC cw_X5_92 (r_isWell hinj _) dX5_takesToken_1 (by first | decide | omega) (by decide) rfl rfl (Nat.le_of_ble_eq_true rfl) ?_
  refine wd_vi (show _ = 0 from (bI_f (fun h => h (nI_pos' (n := g) (by omega)))).symm) ?_
  refine wd_if_ne (tgt := 9) hC dX5_takesToken_4 (by decide) (fun c_4 => absurd (by decide) c_4) (fun c_4 => ?_)
  refine wd_iconst (v := 0) hC dX5_takesToken_7 rfl ?_
  exact wd_iret hC rfl dX5_takesToken_8 rfl rfl
set_option maxRecDepth 100000 in
set_option maxHeartbeats 4000000 in
theorem r_takes_0 {V : wd_V} {ad : Nat → Nat} (hinj : wd_inj rS ad) (σ : wd_S) (nx tk pl v : Int32) : wd_C rS V ad 2 yX5_takesToken (Cond.code yX5_takesToken cX5_takesToken 3 (some .int) :: wsL_law) (aW σ nx tk pl v (-1)) [.ref (ad 0), .int 0] (wd_eq (some (.int (0))) (aW σ nx tk pl v pl)) := by
  refine wd_intro (lv := [some (.ref (ad 0)), some (.int 0), none]) hinj (by decide) rfl (Nat.le_of_ble_eq_true rfl) rfl (Nat.le_of_ble_eq_true rfl) (fun K hC => ?_)
  refine wd_aload_n hC dX5_takesToken_0 rfl rfl ?_
  refine cv5i hC cw_X5_92 (r_isWell hinj _) dX5_takesToken_1 (by first | decide | omega) (by decide) rfl rfl (Nat.le_of_ble_eq_true rfl) ?_
  refine wd_vi (show _ = 1 from (bI_t (show ¬ (0 : Int32) ≤ -1 by decide)).symm) ?_
  refine wd_if_ne (tgt := 9) hC dX5_takesToken_4 (by decide) (fun c_4 => ?_) (fun c_4 => absurd c_4 (by decide))
  refine wd_iload_n hC dX5_takesToken_9 rfl rfl ?_
  refine wd_if_ne (tgt := 23) hC dX5_takesToken_10 (by decide) (fun c_10 => absurd (by decide) c_10) (fun c_10 => ?_)
  refine wd_aload_n hC dX5_takesToken_13 rfl rfl ?_
  refine wd_aload_n hC dX5_takesToken_14 rfl rfl ?_
  refine gf_X5_80 hC dX5_takesToken_15 ?_
  refine wd_vi (show _ = pl from rfl) ?_
  refine pf_X5_89 hC dX5_takesToken_18 ?_
  refine wd_ts (aW_8 _ _ _ _ _ _ _) ?_
  refine wd_iconst (v := 0) hC dX5_takesToken_21 rfl ?_
  exact wd_iret hC rfl dX5_takesToken_22 rfl rfl
set_option maxRecDepth 100000 in
set_option maxHeartbeats 4000000 in
theorem r_takes_1 {V : wd_V} {ad : Nat → Nat} (hinj : wd_inj rS ad) (σ : wd_S) (L : Nat → Int32) (hL : σ.1 1 = L) (n : Nat) (hn : σ.1 0 3 = nI n) (hn2 : n ≤ 200) (hL0 : ∀ i, i < n → 0 ≤ L i) (b : Nat) (hb : b ≤ n) (tk pl v : Int32) : wd_C rS V ad 2 yX5_takesToken (Cond.code yX5_takesToken cX5_takesToken 3 (some .int) :: wsL_law) (aW σ (nI b) tk pl v (-1)) [.ref (ad 0), .int 1] (wd_pi (fun r σ' => r = v ∧ rdT L n b σ σ' (-1))) := by
  refine wd_intro (lv := [some (.ref (ad 0)), some (.int 1), none]) hinj (by decide) rfl (Nat.le_of_ble_eq_true rfl) rfl (Nat.le_of_ble_eq_true rfl) (fun K hC => ?_)
  refine wd_aload_n hC dX5_takesToken_0 rfl rfl ?_
  refine cv5i hC cw_X5_92 (r_isWell hinj _) dX5_takesToken_1 (by first | decide | omega) (by decide) rfl rfl (Nat.le_of_ble_eq_true rfl) ?_
  refine wd_vi (show _ = 1 from (bI_t (show ¬ (0 : Int32) ≤ -1 by decide)).symm) ?_
  refine wd_if_ne (tgt := 9) hC dX5_takesToken_4 (by decide) (fun c_4 => ?_) (fun c_4 => absurd c_4 (by decide))
  refine wd_iload_n hC dX5_takesToken_9 rfl rfl ?_
  refine wd_if_ne (tgt := 23) hC dX5_takesToken_10 (by decide) (fun c_10 => ?_) (fun c_10 => absurd c_10 (by decide))
  refine wd_aload_n hC dX5_takesToken_23 rfl rfl ?_
  refine gf_X5_86 hC dX5_takesToken_24 ?_
  refine wd_vi (show _ = v from rfl) ?_
  refine wd_istore_n_3_2 hC dX5_takesToken_27 ?_
  refine wd_aload_n hC dX5_takesToken_28 rfl rfl ?_
  refine cv5vP hC cw_X5_96 (r_advances hinj σ L hL n hn hn2 hL0 b hb tk pl v (-1)) dX5_takesToken_29 (by first | decide | omega) (by decide) rfl rfl (Nat.le_of_ble_eq_true rfl) (fun σ_29 h_29 => ?_)
  refine wd_iload_n hC dX5_takesToken_32 rfl rfl ?_
  exact wd_iretP hC rfl dX5_takesToken_33 (⟨_, rfl, rfl, h_29⟩)
/-- the reader: well, before the token at b, or with its fault -/
def rSt (L : Nat → Int32) (n : Nat) (σ : wd_S) (e : Except Nat Nat) (τ : wd_S) : Prop := match e with
  | .ok b => b ≤ n ∧ rdT L n b σ τ (-1)
  | .error f => f ≤ n ∧ ∃ nx tk pl v, τ = aW σ nx tk pl v (nI f)
def numE (L : Nat → Int32) (n : Nat) (lo hi : Int32) (e : Except Nat Nat) : Int32 × Except Nat Nat := match e with
  | .error f => (0, .error f)
  | .ok b => match numP L n lo hi b with
    | .error f => (0, .error f)
    | .ok (v, b') => (v, .ok b')
def stpE (L : Nat → Int32) (n : Nat) (e : Except Nat Nat) : Except Nat Nat := match e with
  | .error f => .error f
  | .ok b => stopP L n b
theorem aW_c (σ : wd_S) (nx tk pl v f : Int32) {k : Nat} (hk : k ≠ 0) (i : Nat) (z : Int32) : wd_up (aW σ nx tk pl v f) k i z = aW (wd_up σ k i z) nx tk pl v f := by
  refine wd_ext (fun a => funext fun j => ?_) rfl
  show (if a = k ∧ j = i then z else if a = 0 ∧ j = 4 then nx else if a = 0 ∧ j = 5 then tk else if a = 0 ∧ j = 6 then pl else if a = 0 ∧ j = 7 then v else if a = 0 ∧ j = 8 then f else σ.1 a j) = (if a = 0 ∧ j = 4 then nx else if a = 0 ∧ j = 5 then tk else if a = 0 ∧ j = 6 then pl else if a = 0 ∧ j = 7 then v else if a = 0 ∧ j = 8 then f else if a = k ∧ j = i then z else σ.1 a j)
  by_cases h : a = k ∧ j = i
  · rw [if_pos h, if_neg (by omega), if_neg (by omega), if_neg (by omega), if_neg (by omega), if_neg (by omega), if_pos h]
  · simp only [if_neg h]
theorem rSt_up {L : Nat → Int32} {n : Nat} {σ τ : wd_S} {e : Except Nat Nat} (h : rSt L n σ e τ) {k : Nat} (hk : k ≠ 0) (i : Nat) (z : Int32) : rSt L n (wd_up σ k i z) e (wd_up τ k i z) := by
  cases e with
  | ok b =>
    obtain ⟨hb, v, rfl, h3⟩ := h
    exact ⟨hb, v, aW_c σ _ _ _ _ _ hk i z, h3⟩
  | error f =>
    obtain ⟨hf, nx, tk, pl, v, rfl⟩ := h
    exact ⟨hf, nx, tk, pl, v, aW_c σ _ _ _ _ _ hk i z⟩
theorem rSt_o {L : Nat → Int32} {n : Nat} {σ τ : wd_S} {e : Except Nat Nat} (h : rSt L n σ e τ) {k : Nat} (hk : k ≠ 0) : τ.1 k = σ.1 k := by
  cases e with
  | ok b =>
    obtain ⟨hb, v, rfl, h3⟩ := h
    exact aW_o σ _ _ _ _ _ hk
  | error f =>
    obtain ⟨hf, nx, tk, pl, v, rfl⟩ := h
    exact aW_o σ _ _ _ _ _ hk

set_option maxRecDepth 100000 in
set_option maxHeartbeats 4000000 in
theorem r_number_f {V : wd_V} {ad : Nat → Nat} (hinj : wd_inj rS ad) (σ : wd_S) (L : Nat → Int32) (n : Nat) (hn2 : n ≤ 200) (nx tk pl v : Int32) (g : Nat) (hg : g ≤ n) (x y : Int32) : wd_C rS V ad 3 yX5_number (Cond.code yX5_number cX5_number 3 (some .int) :: wsL_law) (aW σ nx tk pl v (nI g)) [.ref (ad 0), .int x, .int y] (wd_pi (fun r σ' => r = (numE L n x y (.error g)).1 ∧ rSt L n σ (numE L n x y (.error g)).2 σ')) := by
  refine wd_intro (lv := [some (.ref (ad 0)), some (.int x), some (.int y)]) hinj (by decide) rfl (Nat.le_of_ble_eq_true rfl) rfl (Nat.le_of_ble_eq_true rfl) (fun K hC => ?_)
  refine wd_aload_n hC dX5_number_0 rfl rfl ?_
  refine wd_aload_n hC dX5_number_1 rfl rfl ?_
  refine gf_X5_83 hC dX5_number_2 ?_
  refine wd_iconst (v := 2) hC dX5_number_5 rfl ?_
  refine wd_icmp_ne (tgt := 25) hC dX5_number_6 (by decide) (fun c_6 => ?_) (fun c_6 => ?_)
  · refine wd_iconst (v := 0) hC dX5_number_25 rfl ?_
    refine cv5i hC cw_X5_99 (r_takes_f hinj σ nx tk pl v g (by omega) _) dX5_number_26 (by first | decide | omega) (by decide) rfl rfl (Nat.le_of_ble_eq_true rfl) ?_
    exact wd_iretP hC rfl dX5_number_29 (⟨_, rfl, rfl, hg, _, _, _, _, rfl⟩)
  · refine wd_aload_n hC dX5_number_9 rfl rfl ?_
    refine gf_X5_86 hC dX5_number_10 ?_
    refine wd_iload_n hC dX5_number_13 rfl rfl ?_
    refine wd_iload_n hC dX5_number_14 rfl rfl ?_
    refine cvsi hC cw_X5_66 (r_in hinj _ _ _ _) dX5_number_15 (by first | decide | omega) (by decide) rfl rfl (Nat.le_of_ble_eq_true rfl) ?_
    refine wd_if_eq (tgt := 25) hC dX5_number_18 (by decide) (fun c_18 => ?_) (fun c_18 => ?_)
    · replace c_18 := bI_0.mp c_18
      refine wd_iconst (v := 0) hC dX5_number_25 rfl ?_
      refine cv5i hC cw_X5_99 (r_takes_f hinj σ nx tk pl v g (by omega) _) dX5_number_26 (by first | decide | omega) (by decide) rfl rfl (Nat.le_of_ble_eq_true rfl) ?_
      exact wd_iretP hC rfl dX5_number_29 (⟨_, rfl, rfl, hg, _, _, _, _, rfl⟩)
    · replace c_18 := bI_1.mp c_18
      refine wd_iconst (v := 1) hC dX5_number_21 rfl ?_
      refine wd_goto (tgt := 26) hC dX5_number_22 (by decide) ?_
      refine cv5i hC cw_X5_99 (r_takes_f hinj σ nx tk pl v g (by omega) _) dX5_number_26 (by first | decide | omega) (by decide) rfl rfl (Nat.le_of_ble_eq_true rfl) ?_
      exact wd_iretP hC rfl dX5_number_29 (⟨_, rfl, rfl, hg, _, _, _, _, rfl⟩)
set_option maxRecDepth 100000 in
set_option maxHeartbeats 4000000 in
theorem r_number_w {V : wd_V} {ad : Nat → Nat} (hinj : wd_inj rS ad) (σ : wd_S) (L : Nat → Int32) (hL : σ.1 1 = L) (n : Nat) (hn : σ.1 0 3 = nI n) (hn2 : n ≤ 200) (hL0 : ∀ i, i < n → 0 ≤ L i) (b : Nat) (hb : b ≤ n) (v : Int32) (hv3 : (nextT L n b 0).1 = 3 → v = (nextT L n b 0).2.2.2) (x y : Int32) : wd_C rS V ad 3 yX5_number (Cond.code yX5_number cX5_number 3 (some .int) :: wsL_law) (aW σ (nI (nextT L n b 0).2.2.1) (tkR (nextT L n b 0).1) (nI (nextT L n b 0).2.1) v (-1)) [.ref (ad 0), .int x, .int y] (wd_pi (fun r σ' => r = (numE L n x y (.ok b)).1 ∧ rSt L n σ (numE L n x y (.ok b)).2 σ')) := by
  refine wd_intro (lv := [some (.ref (ad 0)), some (.int x), some (.int y)]) hinj (by decide) rfl (Nat.le_of_ble_eq_true rfl) rfl (Nat.le_of_ble_eq_true rfl) (fun K hC => ?_)
  refine wd_aload_n hC dX5_number_0 rfl rfl ?_
  refine wd_aload_n hC dX5_number_1 rfl rfl ?_
  refine gf_X5_83 hC dX5_number_2 ?_
  refine wd_vi (show _ = tkR (nextT L n b 0).1 from rfl) ?_
  refine wd_iconst (v := 2) hC dX5_number_5 rfl ?_
  refine wd_icmp_ne (tgt := 25) hC dX5_number_6 (by decide) (fun c_6 => ?_) (fun c_6 => ?_)
  · have hN : ¬ ((nextT L n b 0).1 = 3 ∧ x ≤ (nextT L n b 0).2.2.2 ∧ (nextT L n b 0).2.2.2 ≤ y) := fun h => c_6 ((tkR_i2 _).mpr h.1)
    refine wd_iconst (v := 0) hC dX5_number_25 rfl ?_
    refine cv5i hC cw_X5_99 (r_takes_0 hinj σ _ _ _ v) dX5_number_26 (by first | decide | omega) (by decide) rfl rfl (Nat.le_of_ble_eq_true rfl) ?_
    have eN : numE L n x y (.ok b) = (0, .error (nextT L n b 0).2.1) := (by simp only [numE, numP, if_neg hN])
    exact wd_iretP hC rfl dX5_number_29 (⟨_, rfl, (by rw [eN]), (by rw [eN]; exact ⟨(nextT_le L hb 0).1, _, _, _, _, rfl⟩)⟩)
  · have h3 := (tkR_i2 _).mp c_6
    refine wd_aload_n hC dX5_number_9 rfl rfl ?_
    refine gf_X5_86 hC dX5_number_10 ?_
    refine wd_vi (show _ = v from rfl) ?_
    refine wd_iload_n hC dX5_number_13 rfl rfl ?_
    refine wd_iload_n hC dX5_number_14 rfl rfl ?_
    refine cvsi hC cw_X5_66 (r_in hinj _ _ _ _) dX5_number_15 (by first | decide | omega) (by decide) rfl rfl (Nat.le_of_ble_eq_true rfl) ?_
    refine wd_if_eq (tgt := 25) hC dX5_number_18 (by decide) (fun c_18 => ?_) (fun c_18 => ?_)
    · replace c_18 := bI_0.mp c_18
      have hN : ¬ ((nextT L n b 0).1 = 3 ∧ x ≤ (nextT L n b 0).2.2.2 ∧ (nextT L n b 0).2.2.2 ≤ y) := fun h => c_18 (by rw [hv3 h3]; exact h.2)
      refine wd_iconst (v := 0) hC dX5_number_25 rfl ?_
      refine cv5i hC cw_X5_99 (r_takes_0 hinj σ _ _ _ v) dX5_number_26 (by first | decide | omega) (by decide) rfl rfl (Nat.le_of_ble_eq_true rfl) ?_
      have eN : numE L n x y (.ok b) = (0, .error (nextT L n b 0).2.1) := (by simp only [numE, numP, if_neg hN])
      exact wd_iretP hC rfl dX5_number_29 (⟨_, rfl, (by rw [eN]), (by rw [eN]; exact ⟨(nextT_le L hb 0).1, _, _, _, _, rfl⟩)⟩)
    · replace c_18 := bI_1.mp c_18
      have hN : (nextT L n b 0).1 = 3 ∧ x ≤ (nextT L n b 0).2.2.2 ∧ (nextT L n b 0).2.2.2 ≤ y := ⟨h3, (hv3 h3) ▸ c_18.1, (hv3 h3) ▸ c_18.2⟩
      refine wd_iconst (v := 1) hC dX5_number_21 rfl ?_
      refine wd_goto (tgt := 26) hC dX5_number_22 (by decide) ?_
      refine cv5iP hC cw_X5_99 (r_takes_1 hinj σ L hL n hn hn2 hL0 (nextT L n b 0).2.2.1 (nextT_le L hb 0).2 _ _ v) dX5_number_26 (by first | decide | omega) (by decide) rfl rfl (Nat.le_of_ble_eq_true rfl) (fun r_26 σ_26 h_26 => ?_)
      have eN : numE L n x y (.ok b) = (v, .ok (nextT L n b 0).2.2.1) := (by simp only [numE, numP, if_pos hN]; rw [hv3 h3])
      exact wd_iretP hC rfl dX5_number_29 (⟨_, rfl, (by rw [eN]; exact h_26.1), (by rw [eN]; exact ⟨(nextT_le L hb 0).2, h_26.2⟩)⟩)
theorem r_number {V : wd_V} {ad : Nat → Nat} (hinj : wd_inj rS ad) (σ : wd_S) (L : Nat → Int32) (hL : σ.1 1 = L) (n : Nat) (hn : σ.1 0 3 = nI n) (hn2 : n ≤ 200) (hL0 : ∀ i, i < n → 0 ≤ L i) (e : Except Nat Nat) (τ : wd_S) (hτ : rSt L n σ e τ) (x y : Int32) : wd_C rS V ad 3 yX5_number (Cond.code yX5_number cX5_number 3 (some .int) :: wsL_law) τ [.ref (ad 0), .int x, .int y] (wd_pi (fun r σ' => r = (numE L n x y e).1 ∧ rSt L n σ (numE L n x y e).2 σ')) := by
  cases e with
  | ok b =>
    obtain ⟨hb, v, rfl, h3, _⟩ := hτ
    exact r_number_w hinj σ L hL n hn hn2 hL0 b hb v h3 x y
  | error f =>
    obtain ⟨hf, nx, tk, pl, v, rfl⟩ := hτ
    exact r_number_f hinj σ L n hn2 nx tk pl v f hf x y

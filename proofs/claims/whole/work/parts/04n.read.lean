/-! ===== the text's grammar ===== -/
theorem nextT_q (L : Nat → Int32) (n b : Nat) (q : Int32) : (nextT L n b q).1 = (nextT L n b 0).1 ∧ (nextT L n b q).2.1 = (nextT L n b 0).2.1 ∧ (nextT L n b q).2.2.1 = (nextT L n b 0).2.2.1 ∧ ((nextT L n b q).1 = 3 → (nextT L n b q).2.2.2 = (nextT L n b 0).2.2.2) := by
  unfold nextT
  by_cases h1 : skipB L (n - b) b < n
  · simp only [if_pos h1]
    by_cases h2 : pDig (L (skipB L (n - b) b))
    · simp only [if_pos h2]
      exact ⟨trivial, trivial, trivial, fun _ => trivial⟩
    · simp only [if_neg h2]
      refine ⟨trivial, trivial, trivial, fun h => ?_⟩
      exfalso
      revert h
      unfold tokL
      split
      · decide
      · split
        · decide
        · split <;> decide
  · simp only [if_neg h1]
    exact ⟨trivial, trivial, trivial, fun h => absurd h (by decide)⟩
def numP (L : Nat → Int32) (n : Nat) (lo hi : Int32) (b : Nat) : Except Nat (Int32 × Nat) := if (nextT L n b 0).1 = 3 ∧ lo ≤ (nextT L n b 0).2.2.2 ∧ (nextT L n b 0).2.2.2 ≤ hi then .ok ((nextT L n b 0).2.2.2, (nextT L n b 0).2.2.1) else .error (nextT L n b 0).2.1
def stopP (L : Nat → Int32) (n b : Nat) : Except Nat Nat := if (nextT L n b 0).1 = 4 then .ok (nextT L n b 0).2.2.1 else .error (nextT L n b 0).2.1
theorem numP_ok {L : Nat → Int32} {n b : Nat} {q lo hi : Int32} (h : (nextT L n b q).1 = 3 ∧ lo ≤ (nextT L n b q).2.2.2 ∧ (nextT L n b q).2.2.2 ≤ hi) : numP L n lo hi b = .ok ((nextT L n b q).2.2.2, (nextT L n b q).2.2.1) := by
  obtain ⟨e1, e2, e3, e4⟩ := nextT_q L n b q
  rw [e4 h.1, e3]
  rw [e4 h.1, e1] at h
  exact if_pos h
theorem numP_err {L : Nat → Int32} {n b : Nat} {q lo hi : Int32} (h : ¬ ((nextT L n b q).1 = 3 ∧ lo ≤ (nextT L n b q).2.2.2 ∧ (nextT L n b q).2.2.2 ≤ hi)) : numP L n lo hi b = .error (nextT L n b q).2.1 := by
  obtain ⟨e1, e2, e3, e4⟩ := nextT_q L n b q
  rw [e2]
  refine if_neg (fun h2 => h ?_)
  rw [← e1] at h2
  rw [← e4 h2.1] at h2
  exact h2
theorem stopP_ok {L : Nat → Int32} {n b : Nat} {q : Int32} (h : (nextT L n b q).1 = 4) : stopP L n b = .ok (nextT L n b q).2.2.1 := by
  obtain ⟨e1, e2, e3, e4⟩ := nextT_q L n b q
  rw [e3]
  exact if_pos (by rw [← e1]; exact h)
theorem stopP_err {L : Nat → Int32} {n b : Nat} {q : Int32} (h : ¬ (nextT L n b q).1 = 4) : stopP L n b = .error (nextT L n b q).2.1 := by
  obtain ⟨e1, e2, e3, e4⟩ := nextT_q L n b q
  rw [e2]
  exact if_neg (by rw [← e1]; exact h)
def cropP (L : Nat → Int32) (n b : Nat) : Except Nat (Int32 × Int32 × Nat) := match numP L n 1 9 b with
  | .error f => .error f
  | .ok (w, b1) => match numP L n 1 9 b1 with
    | .error f => .error f
    | .ok (v, b2) => match stopP L n b2 with
      | .error f => .error f
      | .ok b3 => .ok (w, v, b3)
def yP (L : Nat → Int32) (n : Nat) : Nat → Nat → (Nat → Int32) → Nat → Except Nat ((Nat → Int32) × Nat)
  | 0, _, row, b => .ok (row, b)
  | k + 1, c, row, b => match numP L n 0 40 b with
    | .error f => .error f
    | .ok (v, b1) => yP L n k (c + 1) (upd row c v) b1
def manP (L : Nat → Int32) (n nc : Nat) (row : Nat → Int32) (b : Nat) : Except Nat (Int32 × Int32 × Int32 × (Nat → Int32) × Nat) := match numP L n 1 20 b with
  | .error f => .error f
  | .ok (s, b1) => match numP L n 0 9 b1 with
    | .error f => .error f
    | .ok (l, b2) => match numP L n 0 99 b2 with
      | .error f => .error f
      | .ok (d, b3) => match yP L n nc 0 row b3 with
        | .error f => .error f
        | .ok (r, b4) => match stopP L n b4 with
          | .error f => .error f
          | .ok b5 => .ok (s, l, d, r, b5)
/-! ===== the Told that is read into ===== -/
def stU (σ : wd_S) (u : Nat) (U : Nat → Nat → Int32) : wd_S := (fun k => if ct u ≤ k ∧ k < ct u + 13 then U (k - ct u) else σ.1 k, σ.2)
abbrev stQ (σ : wd_S) (u : Nat) (U : Nat → Nat → Int32) (s b q : Int32) : wd_S := stP (stU σ u U) s b q
theorem stU_at (σ : wd_S) (u : Nat) (U : Nat → Nat → Int32) {k : Nat} (h : k < 13) : (stU σ u U).1 (ct u + k) = U k := by
  show (if ct u ≤ ct u + k ∧ ct u + k < ct u + 13 then U (ct u + k - ct u) else _) = U k
  rw [if_pos ⟨by omega, by omega⟩, Nat.add_sub_cancel_left]
theorem stU_out (σ : wd_S) (u : Nat) (U : Nat → Nat → Int32) {k : Nat} (h : ¬ (ct u ≤ k ∧ k < ct u + 13)) : (stU σ u U).1 k = σ.1 k := if_neg h
theorem stU_lo (σ : wd_S) (u : Nat) (U : Nat → Nat → Int32) {k : Nat} (h : k < 10) : (stU σ u U).1 k = σ.1 k := stU_out σ u U (by unfold ct; omega)
theorem stQ_r (σ : wd_S) (u : Nat) (U : Nat → Nat → Int32) (s b q : Int32) {k : Nat} (h : k < 13) {i : Nat} : (stQ σ u U s b q).1 (ct u + k) i = U k i := by
  rw [stP_o _ _ _ _ (by unfold ct; omega), stU_at _ _ _ h]
theorem stQ_0 (σ : wd_S) (u : Nat) (U : Nat → Nat → Int32) (s b q : Int32) {i : Nat} : (stQ σ u U s b q).1 (ct u) i = U 0 i := stQ_r σ u U s b q (k := 0) (by decide)
theorem stQ_w (σ : wd_S) (u : Nat) (U : Nat → Nat → Int32) (s b q : Int32) {k : Nat} (hk : k < 13) (i : Nat) (v : Int32) : wd_up (stQ σ u U s b q) (ct u + k) i v = stQ σ u (u2 U k i v) s b q := by
  refine wd_ext (fun a => ?_) rfl
  by_cases h1 : a = 1
  · subst h1
    rw [wd_up_n _ _ _ _ (by unfold ct; omega)]
    funext c
    show (if 1 = 1 ∧ c = 2 then s else if 1 = 1 ∧ c = 3 then b else if 1 = 1 ∧ c = 4 then q else (stU σ u U).1 1 c) = (if 1 = 1 ∧ c = 2 then s else if 1 = 1 ∧ c = 3 then b else if 1 = 1 ∧ c = 4 then q else (stU σ u (u2 U k i v)).1 1 c)
    rw [stU_lo _ _ _ (by decide), stU_lo _ _ _ (by decide)]
  · rw [stP_o _ _ _ _ h1]
    by_cases h : ct u ≤ a ∧ a < ct u + 13
    · obtain ⟨e, rfl⟩ : ∃ e, a = ct u + e := ⟨a - ct u, by omega⟩
      rw [stU_at _ _ _ (by omega)]
      funext c
      show (if ct u + e = ct u + k ∧ c = i then v else (stQ σ u U s b q).1 (ct u + e) c) = (if e = k ∧ c = i then v else U e c)
      rw [stQ_r _ _ _ _ _ _ (by omega)]
      by_cases h2 : e = k ∧ c = i
      · rw [if_pos h2, if_pos ⟨by omega, h2.2⟩]
      · rw [if_neg h2, if_neg (fun h3 => h2 ⟨by omega, h3.2⟩)]
    · rw [stU_out _ _ _ h, wd_up_n _ _ _ _ (by omega), stP_o _ _ _ _ h1, stU_out _ _ _ h]
theorem stQ_w0 (σ : wd_S) (u : Nat) (U : Nat → Nat → Int32) (s b q : Int32) (i : Nat) (v : Int32) : wd_up (stQ σ u U s b q) (ct u) i v = stQ σ u (u2 U 0 i v) s b q := stQ_w σ u U s b q (k := 0) (by decide) i v
theorem stQ_self (σ : wd_S) (u : Nat) : σ = stQ σ u (fun k => σ.1 (ct u + k)) (σ.1 1 2) (σ.1 1 3) (σ.1 1 4) := by
  have h : stU σ u (fun k => σ.1 (ct u + k)) = σ := by
    refine wd_ext (fun a => ?_) rfl
    by_cases h : ct u ≤ a ∧ a < ct u + 13
    · obtain ⟨e, rfl⟩ : ∃ e, a = ct u + e := ⟨a - ct u, by omega⟩
      rw [stU_at _ _ _ (by omega)]
    · rw [stU_out _ _ _ h]
  unfold stQ
  rw [h]
  exact stP_self σ
theorem ur_u2 (U : Nat → Nat → Int32) (k : Nat) (r : Nat → Int32) (i : Nat) (v : Int32) : u2 (ur U k r) k i v = ur U k (upd r i v) := by
  funext a b
  unfold u2 ur upd
  by_cases h : a = k
  · subst h
    simp
  · simp [h]
theorem ur_self (U : Nat → Nat → Int32) (k : Nat) : ur U k (U k) = U := by
  funext a
  unfold ur
  by_cases h : a = k
  · rw [if_pos h, h]
  · rw [if_neg h]
theorem u3_7 (U : Nat → Nat → Int32) (m : Nat) (x1 x2 x3 : Int32) : ur (u2 (u2 (u2 U 3 m x1) 4 m x2) 5 m x3) (7 + m) (U (7 + m)) = u2 (u2 (u2 U 3 m x1) 4 m x2) 5 m x3 := by
  have e : U (7 + m) = (u2 (u2 (u2 U 3 m x1) 4 m x2) 5 m x3) (7 + m) := by
    funext z
    unfold u2
    rw [if_neg (by omega), if_neg (by omega), if_neg (by omega)]
  rw [e, ur_self]
def crU (U : Nat → Nat → Int32) (c : Nat) (w v : Int32) : Nat → Nat → Int32 := u2 (u2 (u2 U 1 c w) 2 c v) 0 0 (U 0 0 + 1)
def mnU (U : Nat → Nat → Int32) (m : Nat) (s l d : Int32) (r : Nat → Int32) : Nat → Nat → Int32 := u2 (ur (u2 (u2 (u2 U 3 m s) 4 m l) 5 m d) (7 + m) r) 0 3 (U 0 3 + 1)

set_option maxRecDepth 100000 in
set_option maxHeartbeats 4000000 in
theorem c_readCrop {V : wd_V} {ad : Nat → Nat} (hinj : wd_inj cS ad) (σ : wd_S) (u : Nat) (hu : u < 2) (L : Nat → Int32) (hL : σ.1 2 = L) (n : Nat) (hn : σ.1 1 1 = nI n) (hn2 : n ≤ 200) (U : Nat → Nat → Int32) (b : Nat) (hb : b ≤ n) (s0 q : Int32) (c : Nat) (hc : U 0 0 = nI c) (hc3 : c < 3) : wd_C cS V ad 4 yX2_readCrop (Cond.code yX2_readCrop cX2_readCrop 3 (some .boolean) :: wsL_law) (stQ σ u U s0 (nI b) q) [.ref (ad 1), .ref (ad (ct u))] (wd_pi (fun r σ' => (∃ w v b' s' q', cropP L n b = .ok (w, v, b') ∧ r = 1 ∧ b' ≤ n ∧ σ' = stQ σ u (crU U c w v) s' (nI b') q') ∨ (∃ f U' b' q', cropP L n b = .error f ∧ f ≤ n ∧ r = 0 ∧ σ' = stQ σ u U' (nI f) b' q'))) := by
  refine wd_intro (lv := [some (.ref (ad 1)), some (.ref (ad (ct u))), none]) hinj (by decide) rfl (Nat.le_of_ble_eq_true rfl) rfl (Nat.le_of_ble_eq_true rfl) (fun K hC => ?_)
  have hLU : ∀ W : Nat → Nat → Int32, (stU σ u W).1 2 = L := fun W => by rw [stU_lo _ _ _ (by decide), hL]
  have hnU : ∀ W : Nat → Nat → Int32, (stU σ u W).1 1 1 = nI n := fun W => by rw [stU_lo _ _ _ (by decide), hn]
  have hle : ∀ {b : Nat} {q : Int32}, b ≤ n → (nextT L n b q).2.2.1 ≤ n := fun h => (nextT_le L h _).2
  have hls : ∀ {b : Nat} {q : Int32}, b ≤ n → (nextT L n b q).2.1 ≤ n := fun h => (nextT_le L h _).1
  refine wd_aload_n hC dX2_readCrop_0 rfl rfl ?_
  refine gf_X2_15 hC dX2_readCrop_1 ?_
  refine wd_vi (show _ = nI c from (by rw [stQ_0, hc])) ?_
  refine wd_istore_n_3_2 hC dX2_readCrop_4 ?_
  refine wd_aload_n hC dX2_readCrop_5 rfl rfl ?_
  refine wd_iconst (v := 1) hC dX2_readCrop_6 rfl ?_
  refine wd_bipush (v := 9) hC dX2_readCrop_7 rfl ?_
  refine cv2i hC cw_X2_41 (c_readNumber hinj (stU σ u _) L (hLU _) n (hnU _) hn2 _ hb _ _ _ _) dX2_readCrop_9 (by first | decide | omega) (by decide) rfl rfl (Nat.le_of_ble_eq_true rfl) ?_
  refine wd_if_ne (tgt := 17) hC dX2_readCrop_12 (by decide) (fun c_12 => ?_) (fun c_12 => ?_)
  · replace c_12 := bI_1.mp c_12
    refine wd_aload_n hC dX2_readCrop_17 rfl rfl ?_
    refine gf_X2_45 hC dX2_readCrop_18 ?_
    refine wd_iload_n hC dX2_readCrop_21 rfl rfl ?_
    refine wd_aload_n hC dX2_readCrop_22 rfl rfl ?_
    refine gf_X2_48 hC dX2_readCrop_23 ?_
    refine st_w hC dX2_readCrop_26 c rfl (by omega) ?_
    refine wd_ts (stQ_w _ _ _ _ _ _ (by decide) _ _) ?_
    refine wd_aload_n hC dX2_readCrop_27 rfl rfl ?_
    refine wd_iconst (v := 1) hC dX2_readCrop_28 rfl ?_
    refine wd_bipush (v := 9) hC dX2_readCrop_29 rfl ?_
    refine cv2i hC cw_X2_41 (c_readNumber hinj (stU σ u _) L (hLU _) n (hnU _) hn2 _ (hle hb) _ _ _ _) dX2_readCrop_31 (by first | decide | omega) (by decide) rfl rfl (Nat.le_of_ble_eq_true rfl) ?_
    refine wd_if_ne (tgt := 39) hC dX2_readCrop_34 (by decide) (fun c_34 => ?_) (fun c_34 => ?_)
    · replace c_34 := bI_1.mp c_34
      refine wd_aload_n hC dX2_readCrop_39 rfl rfl ?_
      refine gf_X2_51 hC dX2_readCrop_40 ?_
      refine wd_iload_n hC dX2_readCrop_43 rfl rfl ?_
      refine wd_aload_n hC dX2_readCrop_44 rfl rfl ?_
      refine gf_X2_48 hC dX2_readCrop_45 ?_
      refine st_w hC dX2_readCrop_48 c rfl (by omega) ?_
      refine wd_ts (stQ_w _ _ _ _ _ _ (by decide) _ _) ?_
      refine wd_aload_n hC dX2_readCrop_49 rfl rfl ?_
      refine wd_dup hC dX2_readCrop_50 rfl ?_
      refine gf_X2_15 hC dX2_readCrop_51 ?_
      refine wd_vi (show _ = U 0 0 from (by rw [stQ_0]; rfl)) ?_
      refine wd_iconst (v := 1) hC dX2_readCrop_54 rfl ?_
      refine wd_iadd hC dX2_readCrop_55 ?_
      refine pf_X2_15 hC dX2_readCrop_56 ?_
      refine wd_ts (stQ_w0 _ _ _ _ _ _ _ _) ?_
      refine wd_aload_n hC dX2_readCrop_59 rfl rfl ?_
      refine cv2i hC cw_X2_27 (c_nextToken hinj (stU σ u _) L (hLU _) n (hnU _) hn2 _ (hle (hle hb)) _ _) dX2_readCrop_60 (by first | decide | omega) (by decide) rfl rfl (Nat.le_of_ble_eq_true rfl) ?_
      refine wd_iconst (v := 4) hC dX2_readCrop_63 rfl ?_
      refine wd_icmp_ne (tgt := 71) hC dX2_readCrop_64 (by decide) (fun c_64 => ?_) (fun c_64 => ?_)
      · refine wd_iconst (v := 0) hC dX2_readCrop_71 rfl ?_
        exact wd_zretP hC rfl rfl dX2_readCrop_72 (⟨_, rfl, Or.inr ⟨_, _, _, _, (by simp only [cropP, numP_ok c_12, numP_ok c_34, stopP_err c_64]; first | done | rfl), hls (hle (hle hb)), rfl, rfl⟩⟩)
      · refine wd_iconst (v := 1) hC dX2_readCrop_67 rfl ?_
        refine wd_goto (tgt := 72) hC dX2_readCrop_68 (by decide) ?_
        exact wd_zretP hC rfl rfl dX2_readCrop_72 (⟨_, rfl, Or.inl ⟨_, _, _, _, _, (by simp only [cropP, numP_ok c_12, numP_ok c_34, stopP_ok c_64]; first | done | rfl), rfl, hle (hle (hle hb)), rfl⟩⟩)
    · replace c_34 := bI_0.mp c_34
      refine wd_iconst (v := 0) hC dX2_readCrop_37 rfl ?_
      exact wd_zretP hC rfl rfl dX2_readCrop_38 (⟨_, rfl, Or.inr ⟨_, _, _, _, (by simp only [cropP, numP_ok c_12, numP_err c_34]; first | done | rfl), hls (hle hb), rfl, rfl⟩⟩)
  · replace c_12 := bI_0.mp c_12
    refine wd_iconst (v := 0) hC dX2_readCrop_15 rfl ?_
    exact wd_zretP hC rfl rfl dX2_readCrop_16 (⟨_, rfl, Or.inr ⟨_, _, _, _, (by simp only [cropP, numP_err c_12]; first | done | rfl), hls hb, rfl, rfl⟩⟩)
set_option maxRecDepth 100000 in
set_option maxHeartbeats 4000000 in
theorem c_readMan {V : wd_V} {ad : Nat → Nat} (hinj : wd_inj cS ad) (σ : wd_S) (u : Nat) (hu : u < 2) (L : Nat → Int32) (hL : σ.1 2 = L) (n : Nat) (hn : σ.1 1 1 = nI n) (hn2 : n ≤ 200) (U : Nat → Nat → Int32) (b : Nat) (hb : b ≤ n) (s0 q : Int32) (c m : Nat) (hc : U 0 0 = nI c) (hc3 : c ≤ 3) (hm : U 0 3 = nI m) (hm6 : m < 6) : wd_C cS V ad 4 yX2_readMan (Cond.code yX2_readMan cX2_readMan 4 (some .boolean) :: wsL_law) (stQ σ u U s0 (nI b) q) [.ref (ad 1), .ref (ad (ct u))] (wd_pi (fun r σ' => (∃ s l d row b' s' q', manP L n c (U (7 + m)) b = .ok (s, l, d, row, b') ∧ r = 1 ∧ b' ≤ n ∧ σ' = stQ σ u (mnU U m s l d row) s' (nI b') q') ∨ (∃ f U' b' q', manP L n c (U (7 + m)) b = .error f ∧ f ≤ n ∧ r = 0 ∧ σ' = stQ σ u U' (nI f) b' q'))) := by
  refine wd_intro (lv := [some (.ref (ad 1)), some (.ref (ad (ct u))), none, none]) hinj (by decide) rfl (Nat.le_of_ble_eq_true rfl) rfl (Nat.le_of_ble_eq_true rfl) (fun K hC => ?_)
  have hLU : ∀ W : Nat → Nat → Int32, (stU σ u W).1 2 = L := fun W => by rw [stU_lo _ _ _ (by decide), hL]
  have hnU : ∀ W : Nat → Nat → Int32, (stU σ u W).1 1 1 = nI n := fun W => by rw [stU_lo _ _ _ (by decide), hn]
  have hle : ∀ {b : Nat} {q : Int32}, b ≤ n → (nextT L n b q).2.2.1 ≤ n := fun h => (nextT_le L h _).2
  have hls : ∀ {b : Nat} {q : Int32}, b ≤ n → (nextT L n b q).2.1 ≤ n := fun h => (nextT_le L h _).1
  refine wd_aload_n hC dX2_readMan_0 rfl rfl ?_
  refine gf_X2_21 hC dX2_readMan_1 ?_
  refine wd_vi (show _ = nI m from (by rw [stQ_0, hm])) ?_
  refine wd_istore_n_4_2 hC dX2_readMan_4 ?_
  refine wd_aload_n hC dX2_readMan_5 rfl rfl ?_
  refine wd_iconst (v := 1) hC dX2_readMan_6 rfl ?_
  refine wd_bipush (v := 20) hC dX2_readMan_7 rfl ?_
  refine cv2i hC cw_X2_41 (c_readNumber hinj (stU σ u _) L (hLU _) n (hnU _) hn2 _ hb _ _ _ _) dX2_readMan_9 (by first | decide | omega) (by decide) rfl rfl (Nat.le_of_ble_eq_true rfl) ?_
  refine wd_if_ne (tgt := 17) hC dX2_readMan_12 (by decide) (fun c_12 => ?_) (fun c_12 => ?_)
  · replace c_12 := bI_1.mp c_12
    refine wd_aload_n hC dX2_readMan_17 rfl rfl ?_
    refine gf_X2_54 hC dX2_readMan_18 ?_
    refine wd_iload_n hC dX2_readMan_21 rfl rfl ?_
    refine wd_aload_n hC dX2_readMan_22 rfl rfl ?_
    refine gf_X2_48 hC dX2_readMan_23 ?_
    refine st_s hC dX2_readMan_26 m rfl (by omega) ?_
    refine wd_ts (stQ_w _ _ _ _ _ _ (by decide) _ _) ?_
    refine wd_aload_n hC dX2_readMan_27 rfl rfl ?_
    refine wd_iconst (v := 0) hC dX2_readMan_28 rfl ?_
    refine wd_bipush (v := 9) hC dX2_readMan_29 rfl ?_
    refine cv2i hC cw_X2_41 (c_readNumber hinj (stU σ u _) L (hLU _) n (hnU _) hn2 _ (hle hb) _ _ _ _) dX2_readMan_31 (by first | decide | omega) (by decide) rfl rfl (Nat.le_of_ble_eq_true rfl) ?_
    refine wd_if_ne (tgt := 39) hC dX2_readMan_34 (by decide) (fun c_34 => ?_) (fun c_34 => ?_)
    · replace c_34 := bI_1.mp c_34
      refine wd_aload_n hC dX2_readMan_39 rfl rfl ?_
      refine gf_X2_57 hC dX2_readMan_40 ?_
      refine wd_iload_n hC dX2_readMan_43 rfl rfl ?_
      refine wd_aload_n hC dX2_readMan_44 rfl rfl ?_
      refine gf_X2_48 hC dX2_readMan_45 ?_
      refine st_s hC dX2_readMan_48 m rfl (by omega) ?_
      refine wd_ts (stQ_w _ _ _ _ _ _ (by decide) _ _) ?_
      refine wd_aload_n hC dX2_readMan_49 rfl rfl ?_
      refine wd_iconst (v := 0) hC dX2_readMan_50 rfl ?_
      refine wd_bipush (v := 99) hC dX2_readMan_51 rfl ?_
      refine cv2i hC cw_X2_41 (c_readNumber hinj (stU σ u _) L (hLU _) n (hnU _) hn2 _ (hle (hle hb)) _ _ _ _) dX2_readMan_53 (by first | decide | omega) (by decide) rfl rfl (Nat.le_of_ble_eq_true rfl) ?_
      refine wd_if_ne (tgt := 61) hC dX2_readMan_56 (by decide) (fun c_56 => ?_) (fun c_56 => ?_)
      · replace c_56 := bI_1.mp c_56
        refine wd_aload_n hC dX2_readMan_61 rfl rfl ?_
        refine gf_X2_60 hC dX2_readMan_62 ?_
        refine wd_iload_n hC dX2_readMan_65 rfl rfl ?_
        refine wd_aload_n hC dX2_readMan_66 rfl rfl ?_
        refine gf_X2_48 hC dX2_readMan_67 ?_
        refine st_s hC dX2_readMan_70 m rfl (by omega) ?_
        refine wd_ts (stQ_w _ _ _ _ _ _ (by decide) _ _) ?_
        refine wd_iconst (v := 0) hC dX2_readMan_71 rfl ?_
        refine wd_istore_n_4_3 hC dX2_readMan_72 ?_
        have h20 := numP_ok c_12
        have h9 := numP_ok c_34
        have h99 := numP_ok c_56
        obtain ⟨b3, hb3⟩ : ∃ z, z = (nextT L n (nextT L n (nextT L n b q).2.2.1 (nextT L n b q).2.2.2).2.2.1 (nextT L n (nextT L n b q).2.2.1 (nextT L n b q).2.2.2).2.2.2).2.2.1 := ⟨_, rfl⟩
        obtain ⟨x3, hx3⟩ : ∃ z, z = (nextT L n (nextT L n (nextT L n b q).2.2.1 (nextT L n b q).2.2.2).2.2.1 (nextT L n (nextT L n b q).2.2.1 (nextT L n b q).2.2.2).2.2.2).2.2.2 := ⟨_, rfl⟩
        obtain ⟨x2, hx2⟩ : ∃ z, z = (nextT L n (nextT L n b q).2.2.1 (nextT L n b q).2.2.2).2.2.2 := ⟨_, rfl⟩
        obtain ⟨x1, hx1⟩ : ∃ z, z = (nextT L n b q).2.2.2 := ⟨_, rfl⟩
        have hb3n : b3 ≤ n := by rw [hb3]; exact hle (hle (hle hb))
        rw [← hx3, ← hb3] at h99
        rw [← hx2] at h9
        rw [← hx1] at h20
        have loop : ∀ (k i : Nat) (row : Nat → Int32) (bi : Nat) (s1 q1 : Int32), i ≤ c → c < i + k → bi ≤ n → yP L n c 0 (U (7 + m)) b3 = yP L n (c - i) i row bi → wd_G cS V ad K 4 (wd_Qm cS V ad K (wd_pi (fun r σ' => (∃ s l d row b' s' q', manP L n c (U (7 + m)) b = .ok (s, l, d, row, b') ∧ r = 1 ∧ b' ≤ n ∧ σ' = stQ σ u (mnU U m s l d row) s' (nI b') q') ∨ (∃ f U' b' q', manP L n c (U (7 + m)) b = .error f ∧ f ≤ n ∧ r = 0 ∧ σ' = stQ σ u U' (nI f) b' q')))) 73 [some (.ref (ad 1)), some (.ref (ad (ct u))), some (.int (nI m)), some (.int (nI i))] [] (stQ σ u (ur (u2 (u2 (u2 U 3 m x1) 4 m x2) 5 m x3) (7 + m) row) s1 (nI bi) q1) := by
          intro k
          induction k with
          | zero =>
            intro i row bi s1 q1 h1 h2 hbi hy
            exact absurd h2 (by omega)
          | succ k ih =>
            intro i row bi s1 q1 h1 h2 hbi hy
            refine wd_iload_n hC dX2_readMan_73 rfl rfl ?_
            refine wd_aload_n hC dX2_readMan_74 rfl rfl ?_
            refine gf_X2_15 hC dX2_readMan_75 ?_
            refine wd_icmp_ge (tgt := 111) hC dX2_readMan_78 (by decide) (fun c_78 => ?_) (fun c_78 => ?_)
            · have hin : i = _ := lp_ge (show _ = nI c from (by rw [stQ_0]; exact (congrFun (if_neg (by omega)) 0).trans hc)) c_78 h1 (by omega)
              rw [hin, Nat.sub_self] at hy
              refine wd_aload_n hC dX2_readMan_111 rfl rfl ?_
              refine wd_dup hC dX2_readMan_112 rfl ?_
              refine gf_X2_21 hC dX2_readMan_113 ?_
              refine wd_vi (show _ = U 0 3 from (by rw [stQ_0]; exact congrFun (if_neg (by omega)) 3)) ?_
              refine wd_iconst (v := 1) hC dX2_readMan_116 rfl ?_
              refine wd_iadd hC dX2_readMan_117 ?_
              refine pf_X2_21 hC dX2_readMan_118 ?_
              refine wd_ts (stQ_w0 _ _ _ _ _ _ _ _) ?_
              refine wd_aload_n hC dX2_readMan_121 rfl rfl ?_
              refine cv2i hC cw_X2_27 (c_nextToken hinj (stU σ u _) L (hLU _) n (hnU _) hn2 _ hbi _ _) dX2_readMan_122 (by first | decide | omega) (by decide) rfl rfl (Nat.le_of_ble_eq_true rfl) ?_
              refine wd_iconst (v := 4) hC dX2_readMan_125 rfl ?_
              refine wd_icmp_ne (tgt := 133) hC dX2_readMan_126 (by decide) (fun c_126 => ?_) (fun c_126 => ?_)
              · refine wd_iconst (v := 0) hC dX2_readMan_133 rfl ?_
                exact wd_zretP hC rfl rfl dX2_readMan_134 (⟨_, rfl, Or.inr ⟨_, _, _, _, (by simp only [manP, h20, h9, h99, hy, yP, stopP_err c_126]; first | done | rfl), hls hbi, rfl, rfl⟩⟩)
              · refine wd_iconst (v := 1) hC dX2_readMan_129 rfl ?_
                refine wd_goto (tgt := 134) hC dX2_readMan_130 (by decide) ?_
                exact wd_zretP hC rfl rfl dX2_readMan_134 (⟨_, rfl, Or.inl ⟨_, _, _, _, _, _, _, (by simp only [manP, h20, h9, h99, hy, yP, stopP_ok c_126]; first | done | rfl), rfl, hle hbi, rfl⟩⟩)
            · have hin : i < _ := lp_lt (show _ = nI c from (by rw [stQ_0]; exact (congrFun (if_neg (by omega)) 0).trans hc)) c_78 h1 (by omega)
              rw [show c - i = (c - (i + 1)) + 1 by omega, yP] at hy
              refine wd_aload_n hC dX2_readMan_81 rfl rfl ?_
              refine wd_iconst (v := 0) hC dX2_readMan_82 rfl ?_
              refine wd_bipush (v := 40) hC dX2_readMan_83 rfl ?_
              refine cv2i hC cw_X2_41 (c_readNumber hinj (stU σ u _) L (hLU _) n (hnU _) hn2 _ hbi _ _ _ _) dX2_readMan_85 (by first | decide | omega) (by decide) rfl rfl (Nat.le_of_ble_eq_true rfl) ?_
              refine wd_if_ne (tgt := 93) hC dX2_readMan_88 (by decide) (fun c_88 => ?_) (fun c_88 => ?_)
              · replace c_88 := bI_1.mp c_88
                refine wd_aload_n hC dX2_readMan_93 rfl rfl ?_
                refine gf_X2_63 hC dX2_readMan_94 ?_
                refine wd_iload_n hC dX2_readMan_97 rfl rfl ?_
                refine ld_y hC dX2_readMan_98 m rfl (by omega) ?_
                refine wd_iload_n hC dX2_readMan_99 rfl rfl ?_
                refine wd_aload_n hC dX2_readMan_100 rfl rfl ?_
                refine gf_X2_48 hC dX2_readMan_101 ?_
                refine st_r hC dX2_readMan_104 (i) rfl (by omega) ?_
                refine wd_ts (show _ = _ from (stQ_w _ _ _ _ _ _ (by omega) _ _).trans (by rw [ur_u2])) ?_
                refine wd_iincN_4_3 hC dX2_readMan_105 ?_
                refine wd_goto (tgt := 73) hC dX2_readMan_108 (by decide) ?_
                exact ih (i + 1) _ _ _ _ (by omega) (by omega) (hle hbi) (by rw [hy]; simp only [numP_ok c_88]; rfl)
              · replace c_88 := bI_0.mp c_88
                refine wd_iconst (v := 0) hC dX2_readMan_91 rfl ?_
                exact wd_zretP hC rfl rfl dX2_readMan_92 (⟨_, rfl, Or.inr ⟨_, _, _, _, (by simp only [manP, h20, h9, h99, hy, numP_err c_88]; first | done | rfl), hls hbi, rfl, rfl⟩⟩)
        refine wd_ts (show _ = stQ σ u (ur (u2 (u2 (u2 U 3 m x1) 4 m x2) 5 m x3) (7 + m) (U (7 + m))) _ (nI b3) x3 from (by rw [u3_7, hx3, hb3, hx2, hx1]; first | done | rfl)) ?_
        exact loop (c + 1) 0 _ _ _ _ (Nat.zero_le _) (by omega) hb3n rfl
      · replace c_56 := bI_0.mp c_56
        refine wd_iconst (v := 0) hC dX2_readMan_59 rfl ?_
        exact wd_zretP hC rfl rfl dX2_readMan_60 (⟨_, rfl, Or.inr ⟨_, _, _, _, (by simp only [manP, numP_ok c_12, numP_ok c_34, numP_err c_56]; first | done | rfl), hls (hle (hle hb)), rfl, rfl⟩⟩)
    · replace c_34 := bI_0.mp c_34
      refine wd_iconst (v := 0) hC dX2_readMan_37 rfl ?_
      exact wd_zretP hC rfl rfl dX2_readMan_38 (⟨_, rfl, Or.inr ⟨_, _, _, _, (by simp only [manP, numP_ok c_12, numP_err c_34]; first | done | rfl), hls (hle hb), rfl, rfl⟩⟩)
  · replace c_12 := bI_0.mp c_12
    refine wd_iconst (v := 0) hC dX2_readMan_15 rfl ?_
    exact wd_zretP hC rfl rfl dX2_readMan_16 (⟨_, rfl, Or.inr ⟨_, _, _, _, (by simp only [manP, numP_err c_12]; first | done | rfl), hls hb, rfl, rfl⟩⟩)

/-! ===== the law: rows ===== -/
def kx_X (K : wd_K) (A : Nat → Prop) (b L : Nat) (xs : Nat → Int32) : Prop := match K with
  | (_, _, _, s, _, _, _, _, _) => va_X b L xs s s.heap ∧ b < s.heap.size ∧ ¬ A b
section KL
variable {V : wd_V} {K : wd_K} {A : Nat → Prop} {own : String} {cc : ByteArray} {nL : Nat} {rm : Room} {Q : State → Prop} {n k pc : Nat} {lv : List (Option Value)} {st : List Value} {ws : va_W} {b L : Nat} {xs : Nat → Int32}
theorem kx_slen (hC : kx_Ok V K A own cc nL rm) (hX : kx_X K A b L xs) (hdg : decode cc pc = .ok (.arraylength, 1)) (kk : kx_G V K A nL Q n k (pc + 1) lv (.int (nI L) :: st) ws) : kx_G V K A nL Q n k pc lv (.ref b :: st) ws := by
  obtain ⟨p, e, R, s, m, args, below, meth, c⟩ := K
  obtain ⟨hx, hb, hml, hown, hts, hK, hZ, hR, hA⟩ := hC
  obtain ⟨h1, h2, h3⟩ := hX
  intro H locs ls hP hD hS hl
  exact va_slen hx hb h1 h2 h3 hS hdg (kk H locs ls hP hD hS hl)
theorem kx_sld (hC : kx_Ok V K A own cc nL rm) (hX : kx_X K A b L xs) {x : Int32} (j : Nat) (hx0 : x = nI j) (hj : j < L) (hL : L ≤ 384) (hdg : decode cc pc = .ok (.iaload, 1)) (kk : kx_G V K A nL Q n k (pc + 1) lv (.int (xs j) :: st) ws) : kx_G V K A nL Q n k pc lv (.int x :: .ref b :: st) ws := by
  obtain ⟨p, e, R, s, m, args, below, meth, c⟩ := K
  obtain ⟨hx, hb, hml, hown, hts, hK, hZ, hR, hA⟩ := hC
  obtain ⟨h1, h2, h3⟩ := hX
  intro H locs ls hP hD hS hl
  subst hx0
  refine va_sld hx hb h1 h2 h3 hS (vp_in_nI hj (by omega)) hdg ?_
  rw [nI_clamp (by omega)]
  exact kk H locs ls hP hD hS hl
theorem kx_isub (hC : kx_Ok V K A own cc nL rm) {x y : Int32} (hdg : decode cc pc = .ok (.isub, 1)) (kk : kx_G V K A nL Q n k (pc + 1) lv (.int (x - y) :: st) ws) : kx_G V K A nL Q n k pc lv (.int y :: .int x :: st) ws := by
  obtain ⟨p, e, R, s, m, args, below, meth, c⟩ := K
  obtain ⟨hx, hb, hml, hown, hts, hK, hZ, hR, hA⟩ := hC
  intro H locs ls hP hD hS hl
  exact lv_isub hx hb hdg (kk H locs ls hP hD hS hl)
theorem kx_iadd (hC : kx_Ok V K A own cc nL rm) {x y : Int32} (hdg : decode cc pc = .ok (.iadd, 1)) (kk : kx_G V K A nL Q n k (pc + 1) lv (.int (x + y) :: st) ws) : kx_G V K A nL Q n k pc lv (.int y :: .int x :: st) ws := by
  obtain ⟨p, e, R, s, m, args, below, meth, c⟩ := K
  obtain ⟨hx, hb, hml, hown, hts, hK, hZ, hR, hA⟩ := hC
  intro H locs ls hP hD hS hl
  exact lv_iadd hx hb hdg (kk H locs ls hP hD hS hl)
theorem kx_iand (hC : kx_Ok V K A own cc nL rm) {x y : Int32} (hdg : decode cc pc = .ok (.iand, 1)) (kk : kx_G V K A nL Q n k (pc + 1) lv (.int (x &&& y) :: st) ws) : kx_G V K A nL Q n k pc lv (.int y :: .int x :: st) ws := by
  obtain ⟨p, e, R, s, m, args, below, meth, c⟩ := K
  obtain ⟨hx, hb, hml, hown, hts, hK, hZ, hR, hA⟩ := hC
  intro H locs ls hP hD hS hl
  exact lv_iand hx hb hdg (kk H locs ls hP hD hS hl)
theorem kx_lcmp (hC : kx_Ok V K A own cc nL rm) {x y : Int64} (hdg : decode cc pc = .ok (.lcmp, 1)) (kk : kx_G V K A nL Q n k (pc + 1) lv (.int (lg_cmp x y) :: st) ws) : kx_G V K A nL Q n k pc lv (.long y :: .long x :: st) ws := by
  obtain ⟨p, e, R, s, m, args, below, meth, c⟩ := K
  obtain ⟨hx, hb, hml, hown, hts, hK, hZ, hR, hA⟩ := hC
  intro H locs ls hP hD hS hl
  exact W.lcmp hx hb hdg (kk H locs ls hP hD hS hl)
theorem kx_if_eq (hC : kx_Ok V K A own cc nL rm) {x : Int32} {off : Int} {tgt : Nat} (hdg : decode cc pc = .ok (.ifCond .eq off, 3)) (ht : (pc : Int) + off = (tgt : Int)) (kt : x = 0 → kx_G V K A nL Q n k tgt lv st ws) (kf : ¬ x = 0 → kx_G V K A nL Q n k (pc + 3) lv st ws) : kx_G V K A nL Q n k pc lv (.int x :: st) ws := by
  obtain ⟨p, e, R, s, m, args, below, meth, c⟩ := K
  obtain ⟨hx, hb, hml, hown, hts, hK, hZ, hR, hA⟩ := hC
  intro H locs ls hP hD hS hl
  exact lv_if_eq hx hb hdg ht (fun h => kt h H locs ls hP hD hS hl) (fun h => kf h H locs ls hP hD hS hl)
theorem kx_eq (hC : kx_Ok V K A own cc nL rm) {x y : Int32} {off : Int} {tgt : Nat} (hdg : decode cc pc = .ok (.if_icmp .eq off, 3)) (ht : (pc : Int) + off = (tgt : Int)) (kt : x = y → kx_G V K A nL Q n k tgt lv st ws) (kf : ¬ x = y → kx_G V K A nL Q n k (pc + 3) lv st ws) : kx_G V K A nL Q n k pc lv (.int y :: .int x :: st) ws := by
  obtain ⟨p, e, R, s, m, args, below, meth, c⟩ := K
  obtain ⟨hx, hb, hml, hown, hts, hK, hZ, hR, hA⟩ := hC
  intro H locs ls hP hD hS hl
  exact lv_icmp_eq hx hb hdg ht (fun h => kt h H locs ls hP hD hS hl) (fun h => kf h H locs ls hP hD hS hl)
theorem kx_gt (hC : kx_Ok V K A own cc nL rm) {x y : Int32} {off : Int} {tgt : Nat} (hdg : decode cc pc = .ok (.if_icmp .gt off, 3)) (ht : (pc : Int) + off = (tgt : Int)) (kt : y < x → kx_G V K A nL Q n k tgt lv st ws) (kf : ¬ y < x → kx_G V K A nL Q n k (pc + 3) lv st ws) : kx_G V K A nL Q n k pc lv (.int y :: .int x :: st) ws := by
  obtain ⟨p, e, R, s, m, args, below, meth, c⟩ := K
  obtain ⟨hx, hb, hml, hown, hts, hK, hZ, hR, hA⟩ := hC
  intro H locs ls hP hD hS hl
  exact lv_icmp_gt hx hb hdg ht (fun h => kt h H locs ls hP hD hS hl) (fun h => kf h H locs ls hP hD hS hl)
theorem kx_table (hC : kx_Ok V K A own cc nL rm) {dflt lo hi : Int} {offs : Array Int} {len : Nat} {x : Int32} {off : Int} {tgt : Nat} (hdg : decode cc pc = .ok (.tableswitch dflt lo hi offs, len)) (h1 : ¬ x.toInt < lo) (h2 : ¬ hi < x.toInt) (ho : offs[(x.toInt - lo).toNat]? = some off) (ht : (pc : Int) + off = (tgt : Int)) (kk : kx_G V K A nL Q n k tgt lv st ws) : kx_G V K A nL Q n k pc lv (.int x :: st) ws := by
  obtain ⟨p, e, R, s, m, args, below, meth, c⟩ := K
  obtain ⟨hx, hb, hml, hown, hts, hK, hZ, hR, hA⟩ := hC
  intro H locs ls hP hD hS hl
  exact lv_tableIn hx hb hdg h1 h2 ho ht (kk H locs ls hP hD hS hl)
theorem kx_inj {sd : wd_Side} {ad : Nat → Nat} {σ : wd_S} {w0 w1 : va_W} (kk : wd_inj sd ad → kx_G V K A nL Q n k pc lv st (w0 ++ (wd_cells sd ad V.2.2 σ ++ w1))) : kx_G V K A nL Q n k pc lv st (w0 ++ (wd_cells sd ad V.2.2 σ ++ w1)) := by
  obtain ⟨p, e, R, s, m, args, below, meth, c⟩ := K
  intro H locs ls hP hD hS hl
  exact kk (D_inj (va_D_l (va_D_r hD))).1 H locs ls hP hD hS hl
end KL
theorem cat_2 (v : Option Value) : (v.toList.map fun v => v.category).sum ≤ 8 := by
  cases v with
  | none => exact Nat.zero_le _
  | some v => cases v <;> simp [Value.category]
theorem and31 (x : Int32) : ∃ j, j < 32 ∧ x &&& 31 = nI j := by
  refine ⟨x.toBitVec.toNat % 32, Nat.mod_lt _ (by decide), ?_⟩
  apply Int32.toBitVec_inj.mp
  apply BitVec.eq_of_toNat_eq
  rw [Int32.toBitVec_and, BitVec.toNat_and]
  have e1 : (31 : Int32).toBitVec.toNat = 2 ^ 5 - 1 := by decide
  have e2 : (nI (x.toBitVec.toNat % 32)).toBitVec.toNat = x.toBitVec.toNat % 32 := by
    show (Int32.ofNat (x.toBitVec.toNat % 32)).toBitVec.toNat = _
    have := Nat.mod_lt x.toBitVec.toNat (show 0 < 32 by decide)
    show (BitVec.ofNat 32 (x.toBitVec.toNat % 32)).toNat = _
    rw [BitVec.toNat_ofNat]
    exact Nat.mod_eq_of_lt (by omega)
  rw [e1, e2, Nat.and_two_pow_sub_one_eq_mod]
/-- the first worlds go together -/
theorem Inv_0 : Inv s0W zW 0 0 := by
  have hz : ∀ k, k ≠ 38 → s0W.1 k = fun _ => 0 := fun k h => row0 h
  refine ⟨⟨by decide, rfl, rfl, fun h => h⟩, ⟨⟨?_, ?_, rfl, rfl, by decide, by decide⟩, fun c h => absurd h (by omega), fun c h => absurd h (by omega), fun m c h => absurd h (by omega)⟩, ⟨⟨fun m h => absurd h (by omega), ?_, Or.inl rfl, ?_⟩, 0, by decide, rfl⟩, fun j hj m hm => ⟨?_, ?_⟩, ⟨0, by decide, ?_, rfl, ?_, fun i h => absurd h (by omega)⟩, ⟨0, by decide, ?_, rfl, fun i h => absurd h (by omega)⟩, ⟨0, 0, by decide, by decide, ?_, ?_, rfl, fun i h => absurd h (by omega)⟩, fun j hj => Or.inl ⟨?_, rfl⟩⟩
  · show (if 0 < 13 then s0W.1 (ct 0 + 0) 3 else 0) = _
    rw [if_pos (by decide), hz _ (by decide)]; rfl
  · show (if 0 < 13 then s0W.1 (ct 0 + 0) 0 else 0) = _
    rw [if_pos (by decide), hz _ (by decide)]; rfl
  · rw [mv_at s0W 0 (by decide), hz _ (by decide)]; rfl
  · rw [mv_at s0W 0 (by decide), hz _ (by decide)]; rfl
  · rw [mv_at s0W j (by decide), hz _ (by unfold cm; omega)]
    exact ⟨show (0:Int32) ≤ 0 by decide, show (0:Int32) < nI 3 by decide⟩
  · rw [mv_at s0W j (by decide)]
    show (if cm j + 2 = 38 ∧ m < 6 then (-9 : Int32) else 0) < nI 6
    by_cases q : cm j + 2 = 38 ∧ m < 6
    · rw [if_pos q]; decide
    · rw [if_neg q]; decide
  · rw [hz _ (by decide)]; rfl
  · rw [hz _ (by decide)]; rfl
  · rw [hz _ (by decide)]; rfl
  · show s0W.1 3 1 = _
    rw [hz _ (by decide)]; rfl
  · show s0W.1 3 2 = _
    rw [hz _ (by decide)]; rfl
  · rw [hz _ (by decide)]


/-! ===== the law: its cases ===== -/
theorem cwL_13 : wd_wV RL 13 RX4 yX4_type cX4_type 2 (some .int) 1 := ⟨(wL_4 _ (List.mem_of_getElem? (i := 20) rfl)), (wL_4 _ (List.mem_of_getElem? (i := 21) rfl)), (wL_4 _ (List.mem_of_getElem? (i := 22) rfl)), (wL_1 _ (List.mem_of_getElem? (i := 2) rfl)), (wL_4 _ (List.mem_of_getElem? (i := 23) rfl)), by decide +kernel⟩
theorem cwL_17 : wd_wV RL 17 RX5 yX5_type cX5_type 2 (some .int) 1 := ⟨(wL_5 _ (List.mem_of_getElem? (i := 2) rfl)), (wL_5 _ (List.mem_of_getElem? (i := 3) rfl)), (wL_5 _ (List.mem_of_getElem? (i := 4) rfl)), (wL_1 _ (List.mem_of_getElem? (i := 5) rfl)), (wL_5 _ (List.mem_of_getElem? (i := 5) rfl)), by decide +kernel⟩
set_option maxRecDepth 100000 in
set_option maxHeartbeats 4000000 in
theorem law_type {V : wd_V} {K : wd_K} {A : Nat → Prop} {Q : State → Prop} {b L i : Nat} {xs : Nat → Int32} {ad1 ad2 : Nat → Nat} (hi1 : wd_inj cS ad1) (hi2 : wd_inj rS ad2) (hC : kx_Ok V K A RL cL_law 4 room_1) (hX : kx_X K A b L xs) (hL : L ≤ 384) (hi : i + 6 ≤ L) {σ τ : wd_S} {nm nc : Nat} (hI : Inv σ τ nm nc) (kk : ∀ σ1 τ1 nm nc, Inv σ1 τ1 nm nc → kx_G V K A 4 Q 600000 7302250 1033 [some (.ref b), some (.ref (ad1 0)), some (.ref (ad2 0)), some (.int (nI i))] [] (wd_cells cS ad1 V.2.2 σ1 ++ wd_cells rS ad2 V.2.2 τ1)) : kx_G V K A 4 Q 600000 7302250 176 [some (.ref b), some (.ref (ad1 0)), some (.ref (ad2 0)), some (.int (nI i))] [] (wd_cells cS ad1 V.2.2 σ ++ wd_cells rS ad2 V.2.2 τ) := by
  obtain ⟨d1, d2, P1, P2, hd1, hd2, c1, c2, hfin⟩ := e_type (V := V) hi1 hi2 hI (xs (i + 1))
  refine kx_aload hC dL_law_176 rfl rfl ?_
  refine kx_aload hC dL_law_177 rfl rfl ?_
  refine kx_iload hC dL_law_178 rfl rfl ?_
  refine kx_iconst (v := nI 1) hC dL_law_179 rfl ?_
  refine kx_iadd hC dL_law_180 ?_
  refine kx_sld hC hX (i + 1) (nI_add i 1) (by omega) hL dL_law_181 ?_
  refine kx_ws (show _ = ([] ++ (wd_cells cS ad1 V.2.2 σ ++ wd_cells rS ad2 V.2.2 τ) : va_W) from rfl) ?_
  refine kx_callV hC cwL_13 [.int (xs (i + 1))] (sd := cS) (ad := ad1) (q := 0) (by decide) rfl rfl (fun _ => c1) (by show d1 + 1 ≤ 2048; omega) (by show _ ≤ 84000; omega) ⟨by decide, by decide⟩ rfl rfl (Nat.le_of_ble_eq_true rfl) dL_law_182 (fun v1 σ1 p1 => ?_)
  refine kx_aload hC dL_law_185 rfl rfl ?_
  refine kx_aload hC dL_law_186 rfl rfl ?_
  refine kx_iload hC dL_law_187 rfl rfl ?_
  refine kx_iconst (v := nI 1) hC dL_law_188 rfl ?_
  refine kx_iadd hC dL_law_189 ?_
  refine kx_sld hC hX (i + 1) (nI_add i 1) (by omega) hL dL_law_190 ?_
  refine kx_ws (show _ = (wd_cells cS ad1 V.2.2 σ1 ++ (wd_cells rS ad2 V.2.2 τ ++ []) : va_W) from by rw [List.append_nil, List.nil_append]) ?_
  refine kx_callV hC cwL_17 [.int (xs (i + 1))] (sd := rS) (ad := ad2) (q := 0) (st := v1.toList ++ []) (by decide) rfl rfl (fun _ => c2) (by show d2 + 1 ≤ 2048; omega) (by show _ ≤ 84000; omega) ⟨by decide, by decide⟩ rfl rfl (by rw [List.append_nil]; exact cat_2 v1) dL_law_191 (fun v2 τ1 p2 => ?_)
  refine kx_ws (show _ = (wd_cells cS ad1 V.2.2 σ1 ++ wd_cells rS ad2 V.2.2 τ1 : va_W) from by rw [List.append_nil]) ?_
  obtain ⟨⟨r, e1, e2⟩, nm1, nc1, hI1⟩ := hfin v1 v2 σ1 τ1 p1 p2
  subst e1 e2
  exact kx_eq (tgt := 1033) hC dL_law_194 (by decide) (fun _ => kk σ1 τ1 nm1 nc1 hI1) (fun z => absurd rfl z)
theorem cwL_18 : wd_wV RL 18 RX4 yX4_clear cX4_clear 2 (some .int) 0 := ⟨(wL_5 _ (List.mem_of_getElem? (i := 11) rfl)), (wL_5 _ (List.mem_of_getElem? (i := 12) rfl)), (wL_5 _ (List.mem_of_getElem? (i := 13) rfl)), (wL_1 _ (List.mem_of_getElem? (i := 2) rfl)), (wL_5 _ (List.mem_of_getElem? (i := 14) rfl)), by decide +kernel⟩
theorem cwL_22 : wd_wV RL 22 RX5 yX5_clear cX5_clear 2 (some .int) 0 := ⟨(wL_5 _ (List.mem_of_getElem? (i := 15) rfl)), (wL_5 _ (List.mem_of_getElem? (i := 16) rfl)), (wL_5 _ (List.mem_of_getElem? (i := 17) rfl)), (wL_1 _ (List.mem_of_getElem? (i := 5) rfl)), (wL_5 _ (List.mem_of_getElem? (i := 18) rfl)), by decide +kernel⟩
set_option maxRecDepth 100000 in
set_option maxHeartbeats 4000000 in
theorem law_clear {V : wd_V} {K : wd_K} {A : Nat → Prop} {Q : State → Prop} {b L i : Nat} {xs : Nat → Int32} {ad1 ad2 : Nat → Nat} (hi1 : wd_inj cS ad1) (hi2 : wd_inj rS ad2) (hC : kx_Ok V K A RL cL_law 4 room_1) (hX : kx_X K A b L xs) (hL : L ≤ 384) (hi : i + 6 ≤ L) {σ τ : wd_S} {nm nc : Nat} (hI : Inv σ τ nm nc) (kk : ∀ σ1 τ1 nm nc, Inv σ1 τ1 nm nc → kx_G V K A 4 Q 600000 7302250 1033 [some (.ref b), some (.ref (ad1 0)), some (.ref (ad2 0)), some (.int (nI i))] [] (wd_cells cS ad1 V.2.2 σ1 ++ wd_cells rS ad2 V.2.2 τ1)) : kx_G V K A 4 Q 600000 7302250 199 [some (.ref b), some (.ref (ad1 0)), some (.ref (ad2 0)), some (.int (nI i))] [] (wd_cells cS ad1 V.2.2 σ ++ wd_cells rS ad2 V.2.2 τ) := by
  obtain ⟨d1, d2, P1, P2, hd1, hd2, c1, c2, hfin⟩ := e_clear (V := V) hi1 hi2 hI 
  refine kx_aload hC dL_law_199 rfl rfl ?_
  refine kx_ws (show _ = ([] ++ (wd_cells cS ad1 V.2.2 σ ++ wd_cells rS ad2 V.2.2 τ) : va_W) from rfl) ?_
  refine kx_callV hC cwL_18 [] (sd := cS) (ad := ad1) (q := 0) (by decide) rfl rfl (fun _ => c1) (by show d1 + 1 ≤ 2048; omega) (by show _ ≤ 84000; omega) ⟨by decide, by decide⟩ rfl rfl (Nat.le_of_ble_eq_true rfl) dL_law_200 (fun v1 σ1 p1 => ?_)
  refine kx_aload hC dL_law_203 rfl rfl ?_
  refine kx_ws (show _ = (wd_cells cS ad1 V.2.2 σ1 ++ (wd_cells rS ad2 V.2.2 τ ++ []) : va_W) from by rw [List.append_nil, List.nil_append]) ?_
  refine kx_callV hC cwL_22 [] (sd := rS) (ad := ad2) (q := 0) (st := v1.toList ++ []) (by decide) rfl rfl (fun _ => c2) (by show d2 + 1 ≤ 2048; omega) (by show _ ≤ 84000; omega) ⟨by decide, by decide⟩ rfl rfl (by rw [List.append_nil]; exact cat_2 v1) dL_law_204 (fun v2 τ1 p2 => ?_)
  refine kx_ws (show _ = (wd_cells cS ad1 V.2.2 σ1 ++ wd_cells rS ad2 V.2.2 τ1 : va_W) from by rw [List.append_nil]) ?_
  obtain ⟨⟨r, e1, e2⟩, nm1, nc1, hI1⟩ := hfin v1 v2 σ1 τ1 p1 p2
  subst e1 e2
  exact kx_eq (tgt := 1033) hC dL_law_207 (by decide) (fun _ => kk σ1 τ1 nm1 nc1 hI1) (fun z => absurd rfl z)
theorem cwL_23 : wd_wV RL 23 RX4 yX4_valley cX4_valley 4 (some .int) 0 := ⟨(wL_5 _ (List.mem_of_getElem? (i := 19) rfl)), (wL_5 _ (List.mem_of_getElem? (i := 20) rfl)), (wL_5 _ (List.mem_of_getElem? (i := 21) rfl)), (wL_1 _ (List.mem_of_getElem? (i := 2) rfl)), (wL_5 _ (List.mem_of_getElem? (i := 22) rfl)), by decide +kernel⟩
theorem cwL_26 : wd_wV RL 26 RX5 yX5_valley cX5_valley 3 (some .int) 0 := ⟨(wL_7 _ (List.mem_of_getElem? (i := 21) rfl)), (wL_7 _ (List.mem_of_getElem? (i := 22) rfl)), (wL_7 _ (List.mem_of_getElem? (i := 23) rfl)), (wL_1 _ (List.mem_of_getElem? (i := 5) rfl)), (wL_8 _ (List.mem_of_getElem? (i := 0) rfl)), by decide +kernel⟩
set_option maxRecDepth 100000 in
set_option maxHeartbeats 4000000 in
theorem law_valley {V : wd_V} {K : wd_K} {A : Nat → Prop} {Q : State → Prop} {b L i : Nat} {xs : Nat → Int32} {ad1 ad2 : Nat → Nat} (hi1 : wd_inj cS ad1) (hi2 : wd_inj rS ad2) (hC : kx_Ok V K A RL cL_law 4 room_1) (hX : kx_X K A b L xs) (hL : L ≤ 384) (hi : i + 6 ≤ L) {σ τ : wd_S} {nm nc : Nat} (hI : Inv σ τ nm nc) (kk : ∀ σ1 τ1 nm nc, Inv σ1 τ1 nm nc → kx_G V K A 4 Q 600000 7302250 1033 [some (.ref b), some (.ref (ad1 0)), some (.ref (ad2 0)), some (.int (nI i))] [] (wd_cells cS ad1 V.2.2 σ1 ++ wd_cells rS ad2 V.2.2 τ1)) : kx_G V K A 4 Q 600000 7302250 212 [some (.ref b), some (.ref (ad1 0)), some (.ref (ad2 0)), some (.int (nI i))] [] (wd_cells cS ad1 V.2.2 σ ++ wd_cells rS ad2 V.2.2 τ) := by
  obtain ⟨d1, d2, P1, P2, hd1, hd2, c1, c2, hfin⟩ := e_valley (V := V) hi1 hi2 hI 
  refine kx_aload hC dL_law_212 rfl rfl ?_
  refine kx_ws (show _ = ([] ++ (wd_cells cS ad1 V.2.2 σ ++ wd_cells rS ad2 V.2.2 τ) : va_W) from rfl) ?_
  refine kx_callV hC cwL_23 [] (sd := cS) (ad := ad1) (q := 0) (by decide) rfl rfl (fun _ => c1) (by show d1 + 1 ≤ 2048; omega) (by show _ ≤ 84000; omega) ⟨by decide, by decide⟩ rfl rfl (Nat.le_of_ble_eq_true rfl) dL_law_213 (fun v1 σ1 p1 => ?_)
  refine kx_aload hC dL_law_216 rfl rfl ?_
  refine kx_ws (show _ = (wd_cells cS ad1 V.2.2 σ1 ++ (wd_cells rS ad2 V.2.2 τ ++ []) : va_W) from by rw [List.append_nil, List.nil_append]) ?_
  refine kx_callV hC cwL_26 [] (sd := rS) (ad := ad2) (q := 0) (st := v1.toList ++ []) (by decide) rfl rfl (fun _ => c2) (by show d2 + 1 ≤ 2048; omega) (by show _ ≤ 84000; omega) ⟨by decide, by decide⟩ rfl rfl (by rw [List.append_nil]; exact cat_2 v1) dL_law_217 (fun v2 τ1 p2 => ?_)
  refine kx_ws (show _ = (wd_cells cS ad1 V.2.2 σ1 ++ wd_cells rS ad2 V.2.2 τ1 : va_W) from by rw [List.append_nil]) ?_
  obtain ⟨⟨r, e1, e2⟩, nm1, nc1, hI1⟩ := hfin v1 v2 σ1 τ1 p1 p2
  subst e1 e2
  exact kx_eq (tgt := 1033) hC dL_law_220 (by decide) (fun _ => kk σ1 τ1 nm1 nc1 hI1) (fun z => absurd rfl z)
theorem cwL_27 : wd_wV RL 27 RX4 yX4_man cX4_man 3 (some .int) 2 := ⟨(wL_9 _ (List.mem_of_getElem? (i := 12) rfl)), (wL_9 _ (List.mem_of_getElem? (i := 13) rfl)), (wL_9 _ (List.mem_of_getElem? (i := 14) rfl)), (wL_1 _ (List.mem_of_getElem? (i := 2) rfl)), (wL_9 _ (List.mem_of_getElem? (i := 15) rfl)), by decide +kernel⟩
theorem cwL_31 : wd_wV RL 31 RX5 yX5_man cX5_man 3 (some .int) 2 := ⟨(wL_10 _ (List.mem_of_getElem? (i := 6) rfl)), (wL_10 _ (List.mem_of_getElem? (i := 7) rfl)), (wL_10 _ (List.mem_of_getElem? (i := 8) rfl)), (wL_1 _ (List.mem_of_getElem? (i := 5) rfl)), (wL_10 _ (List.mem_of_getElem? (i := 9) rfl)), by decide +kernel⟩
set_option maxRecDepth 100000 in
set_option maxHeartbeats 4000000 in
theorem law_man {V : wd_V} {K : wd_K} {A : Nat → Prop} {Q : State → Prop} {b L i : Nat} {xs : Nat → Int32} {ad1 ad2 : Nat → Nat} (hi1 : wd_inj cS ad1) (hi2 : wd_inj rS ad2) (hC : kx_Ok V K A RL cL_law 4 room_1) (hX : kx_X K A b L xs) (hL : L ≤ 384) (hi : i + 6 ≤ L) {σ τ : wd_S} {nm nc : Nat} (hI : Inv σ τ nm nc) (kk : ∀ σ1 τ1 nm nc, Inv σ1 τ1 nm nc → kx_G V K A 4 Q 600000 7302250 1033 [some (.ref b), some (.ref (ad1 0)), some (.ref (ad2 0)), some (.int (nI i))] [] (wd_cells cS ad1 V.2.2 σ1 ++ wd_cells rS ad2 V.2.2 τ1)) : kx_G V K A 4 Q 600000 7302250 225 [some (.ref b), some (.ref (ad1 0)), some (.ref (ad2 0)), some (.int (nI i))] [] (wd_cells cS ad1 V.2.2 σ ++ wd_cells rS ad2 V.2.2 τ) := by
  obtain ⟨d1, d2, P1, P2, hd1, hd2, c1, c2, hfin⟩ := e_man (V := V) hi1 hi2 hI (xs (i + 1)) (xs (i + 2))
  refine kx_aload hC dL_law_225 rfl rfl ?_
  refine kx_aload hC dL_law_226 rfl rfl ?_
  refine kx_iload hC dL_law_227 rfl rfl ?_
  refine kx_iconst (v := nI 1) hC dL_law_228 rfl ?_
  refine kx_iadd hC dL_law_229 ?_
  refine kx_sld hC hX (i + 1) (nI_add i 1) (by omega) hL dL_law_230 ?_
  refine kx_aload hC dL_law_231 rfl rfl ?_
  refine kx_iload hC dL_law_232 rfl rfl ?_
  refine kx_iconst (v := nI 2) hC dL_law_233 rfl ?_
  refine kx_iadd hC dL_law_234 ?_
  refine kx_sld hC hX (i + 2) (nI_add i 2) (by omega) hL dL_law_235 ?_
  refine kx_ws (show _ = ([] ++ (wd_cells cS ad1 V.2.2 σ ++ wd_cells rS ad2 V.2.2 τ) : va_W) from rfl) ?_
  refine kx_callV hC cwL_27 [.int (xs (i + 1)), .int (xs (i + 2))] (sd := cS) (ad := ad1) (q := 0) (by decide) rfl rfl (fun _ => c1) (by show d1 + 1 ≤ 2048; omega) (by show _ ≤ 84000; omega) ⟨by decide, by decide⟩ rfl rfl (Nat.le_of_ble_eq_true rfl) dL_law_236 (fun v1 σ1 p1 => ?_)
  refine kx_aload hC dL_law_239 rfl rfl ?_
  refine kx_aload hC dL_law_240 rfl rfl ?_
  refine kx_iload hC dL_law_241 rfl rfl ?_
  refine kx_iconst (v := nI 1) hC dL_law_242 rfl ?_
  refine kx_iadd hC dL_law_243 ?_
  refine kx_sld hC hX (i + 1) (nI_add i 1) (by omega) hL dL_law_244 ?_
  refine kx_aload hC dL_law_245 rfl rfl ?_
  refine kx_iload hC dL_law_246 rfl rfl ?_
  refine kx_iconst (v := nI 2) hC dL_law_247 rfl ?_
  refine kx_iadd hC dL_law_248 ?_
  refine kx_sld hC hX (i + 2) (nI_add i 2) (by omega) hL dL_law_249 ?_
  refine kx_ws (show _ = (wd_cells cS ad1 V.2.2 σ1 ++ (wd_cells rS ad2 V.2.2 τ ++ []) : va_W) from by rw [List.append_nil, List.nil_append]) ?_
  refine kx_callV hC cwL_31 [.int (xs (i + 1)), .int (xs (i + 2))] (sd := rS) (ad := ad2) (q := 0) (st := v1.toList ++ []) (by decide) rfl rfl (fun _ => c2) (by show d2 + 1 ≤ 2048; omega) (by show _ ≤ 84000; omega) ⟨by decide, by decide⟩ rfl rfl (by rw [List.append_nil]; exact cat_2 v1) dL_law_250 (fun v2 τ1 p2 => ?_)
  refine kx_ws (show _ = (wd_cells cS ad1 V.2.2 σ1 ++ wd_cells rS ad2 V.2.2 τ1 : va_W) from by rw [List.append_nil]) ?_
  obtain ⟨⟨r, e1, e2⟩, nm1, nc1, hI1⟩ := hfin v1 v2 σ1 τ1 p1 p2
  subst e1 e2
  exact kx_eq (tgt := 1033) hC dL_law_253 (by decide) (fun _ => kk σ1 τ1 nm1 nc1 hI1) (fun z => absurd rfl z)
theorem cwL_32 : wd_wV RL 32 RX4 yX4_yieldOf cX4_yieldOf 3 (some .int) 2 := ⟨(wL_10 _ (List.mem_of_getElem? (i := 14) rfl)), (wL_10 _ (List.mem_of_getElem? (i := 15) rfl)), (wL_10 _ (List.mem_of_getElem? (i := 16) rfl)), (wL_1 _ (List.mem_of_getElem? (i := 2) rfl)), (wL_10 _ (List.mem_of_getElem? (i := 17) rfl)), by decide +kernel⟩
theorem cwL_35 : wd_wV RL 35 RX5 yX5_yieldOf cX5_yieldOf 3 (some .int) 2 := ⟨(wL_11 _ (List.mem_of_getElem? (i := 0) rfl)), (wL_11 _ (List.mem_of_getElem? (i := 1) rfl)), (wL_11 _ (List.mem_of_getElem? (i := 2) rfl)), (wL_1 _ (List.mem_of_getElem? (i := 5) rfl)), (wL_11 _ (List.mem_of_getElem? (i := 3) rfl)), by decide +kernel⟩
set_option maxRecDepth 100000 in
set_option maxHeartbeats 4000000 in
theorem law_yieldOf {V : wd_V} {K : wd_K} {A : Nat → Prop} {Q : State → Prop} {b L i : Nat} {xs : Nat → Int32} {ad1 ad2 : Nat → Nat} (hi1 : wd_inj cS ad1) (hi2 : wd_inj rS ad2) (hC : kx_Ok V K A RL cL_law 4 room_1) (hX : kx_X K A b L xs) (hL : L ≤ 384) (hi : i + 6 ≤ L) {σ τ : wd_S} {nm nc : Nat} (hI : Inv σ τ nm nc) (kk : ∀ σ1 τ1 nm nc, Inv σ1 τ1 nm nc → kx_G V K A 4 Q 600000 7302250 1033 [some (.ref b), some (.ref (ad1 0)), some (.ref (ad2 0)), some (.int (nI i))] [] (wd_cells cS ad1 V.2.2 σ1 ++ wd_cells rS ad2 V.2.2 τ1)) : kx_G V K A 4 Q 600000 7302250 258 [some (.ref b), some (.ref (ad1 0)), some (.ref (ad2 0)), some (.int (nI i))] [] (wd_cells cS ad1 V.2.2 σ ++ wd_cells rS ad2 V.2.2 τ) := by
  obtain ⟨d1, d2, P1, P2, hd1, hd2, c1, c2, hfin⟩ := e_yieldOf (V := V) hi1 hi2 hI (xs (i + 1)) (xs (i + 2))
  refine kx_aload hC dL_law_258 rfl rfl ?_
  refine kx_aload hC dL_law_259 rfl rfl ?_
  refine kx_iload hC dL_law_260 rfl rfl ?_
  refine kx_iconst (v := nI 1) hC dL_law_261 rfl ?_
  refine kx_iadd hC dL_law_262 ?_
  refine kx_sld hC hX (i + 1) (nI_add i 1) (by omega) hL dL_law_263 ?_
  refine kx_aload hC dL_law_264 rfl rfl ?_
  refine kx_iload hC dL_law_265 rfl rfl ?_
  refine kx_iconst (v := nI 2) hC dL_law_266 rfl ?_
  refine kx_iadd hC dL_law_267 ?_
  refine kx_sld hC hX (i + 2) (nI_add i 2) (by omega) hL dL_law_268 ?_
  refine kx_ws (show _ = ([] ++ (wd_cells cS ad1 V.2.2 σ ++ wd_cells rS ad2 V.2.2 τ) : va_W) from rfl) ?_
  refine kx_callV hC cwL_32 [.int (xs (i + 1)), .int (xs (i + 2))] (sd := cS) (ad := ad1) (q := 0) (by decide) rfl rfl (fun _ => c1) (by show d1 + 1 ≤ 2048; omega) (by show _ ≤ 84000; omega) ⟨by decide, by decide⟩ rfl rfl (Nat.le_of_ble_eq_true rfl) dL_law_269 (fun v1 σ1 p1 => ?_)
  refine kx_aload hC dL_law_272 rfl rfl ?_
  refine kx_aload hC dL_law_273 rfl rfl ?_
  refine kx_iload hC dL_law_274 rfl rfl ?_
  refine kx_iconst (v := nI 1) hC dL_law_275 rfl ?_
  refine kx_iadd hC dL_law_276 ?_
  refine kx_sld hC hX (i + 1) (nI_add i 1) (by omega) hL dL_law_277 ?_
  refine kx_aload hC dL_law_278 rfl rfl ?_
  refine kx_iload hC dL_law_279 rfl rfl ?_
  refine kx_iconst (v := nI 2) hC dL_law_280 rfl ?_
  refine kx_iadd hC dL_law_281 ?_
  refine kx_sld hC hX (i + 2) (nI_add i 2) (by omega) hL dL_law_282 ?_
  refine kx_ws (show _ = (wd_cells cS ad1 V.2.2 σ1 ++ (wd_cells rS ad2 V.2.2 τ ++ []) : va_W) from by rw [List.append_nil, List.nil_append]) ?_
  refine kx_callV hC cwL_35 [.int (xs (i + 1)), .int (xs (i + 2))] (sd := rS) (ad := ad2) (q := 0) (st := v1.toList ++ []) (by decide) rfl rfl (fun _ => c2) (by show d2 + 1 ≤ 2048; omega) (by show _ ≤ 84000; omega) ⟨by decide, by decide⟩ rfl rfl (by rw [List.append_nil]; exact cat_2 v1) dL_law_283 (fun v2 τ1 p2 => ?_)
  refine kx_ws (show _ = (wd_cells cS ad1 V.2.2 σ1 ++ wd_cells rS ad2 V.2.2 τ1 : va_W) from by rw [List.append_nil]) ?_
  obtain ⟨⟨r, e1, e2⟩, nm1, nc1, hI1⟩ := hfin v1 v2 σ1 τ1 p1 p2
  subst e1 e2
  exact kx_eq (tgt := 1033) hC dL_law_286 (by decide) (fun _ => kk σ1 τ1 nm1 nc1 hI1) (fun z => absurd rfl z)
theorem cwL_36 : wd_wV RL 36 RX4 yX4_carries cX4_carries 3 (some .int) 2 := ⟨(wL_11 _ (List.mem_of_getElem? (i := 8) rfl)), (wL_11 _ (List.mem_of_getElem? (i := 9) rfl)), (wL_11 _ (List.mem_of_getElem? (i := 10) rfl)), (wL_1 _ (List.mem_of_getElem? (i := 2) rfl)), (wL_11 _ (List.mem_of_getElem? (i := 11) rfl)), by decide +kernel⟩
theorem cwL_39 : wd_wV RL 39 RX5 yX5_carries cX5_carries 3 (some .int) 2 := ⟨(wL_11 _ (List.mem_of_getElem? (i := 18) rfl)), (wL_11 _ (List.mem_of_getElem? (i := 19) rfl)), (wL_11 _ (List.mem_of_getElem? (i := 20) rfl)), (wL_1 _ (List.mem_of_getElem? (i := 5) rfl)), (wL_11 _ (List.mem_of_getElem? (i := 21) rfl)), by decide +kernel⟩
set_option maxRecDepth 100000 in
set_option maxHeartbeats 4000000 in
theorem law_carries {V : wd_V} {K : wd_K} {A : Nat → Prop} {Q : State → Prop} {b L i : Nat} {xs : Nat → Int32} {ad1 ad2 : Nat → Nat} (hi1 : wd_inj cS ad1) (hi2 : wd_inj rS ad2) (hC : kx_Ok V K A RL cL_law 4 room_1) (hX : kx_X K A b L xs) (hL : L ≤ 384) (hi : i + 6 ≤ L) {σ τ : wd_S} {nm nc : Nat} (hI : Inv σ τ nm nc) (kk : ∀ σ1 τ1 nm nc, Inv σ1 τ1 nm nc → kx_G V K A 4 Q 600000 7302250 1033 [some (.ref b), some (.ref (ad1 0)), some (.ref (ad2 0)), some (.int (nI i))] [] (wd_cells cS ad1 V.2.2 σ1 ++ wd_cells rS ad2 V.2.2 τ1)) : kx_G V K A 4 Q 600000 7302250 291 [some (.ref b), some (.ref (ad1 0)), some (.ref (ad2 0)), some (.int (nI i))] [] (wd_cells cS ad1 V.2.2 σ ++ wd_cells rS ad2 V.2.2 τ) := by
  obtain ⟨d1, d2, P1, P2, hd1, hd2, c1, c2, hfin⟩ := e_carries (V := V) hi1 hi2 hI (xs (i + 1)) (xs (i + 2))
  refine kx_aload hC dL_law_291 rfl rfl ?_
  refine kx_aload hC dL_law_292 rfl rfl ?_
  refine kx_iload hC dL_law_293 rfl rfl ?_
  refine kx_iconst (v := nI 1) hC dL_law_294 rfl ?_
  refine kx_iadd hC dL_law_295 ?_
  refine kx_sld hC hX (i + 1) (nI_add i 1) (by omega) hL dL_law_296 ?_
  refine kx_aload hC dL_law_297 rfl rfl ?_
  refine kx_iload hC dL_law_298 rfl rfl ?_
  refine kx_iconst (v := nI 2) hC dL_law_299 rfl ?_
  refine kx_iadd hC dL_law_300 ?_
  refine kx_sld hC hX (i + 2) (nI_add i 2) (by omega) hL dL_law_301 ?_
  refine kx_ws (show _ = ([] ++ (wd_cells cS ad1 V.2.2 σ ++ wd_cells rS ad2 V.2.2 τ) : va_W) from rfl) ?_
  refine kx_callV hC cwL_36 [.int (xs (i + 1)), .int (xs (i + 2))] (sd := cS) (ad := ad1) (q := 0) (by decide) rfl rfl (fun _ => c1) (by show d1 + 1 ≤ 2048; omega) (by show _ ≤ 84000; omega) ⟨by decide, by decide⟩ rfl rfl (Nat.le_of_ble_eq_true rfl) dL_law_302 (fun v1 σ1 p1 => ?_)
  refine kx_aload hC dL_law_305 rfl rfl ?_
  refine kx_aload hC dL_law_306 rfl rfl ?_
  refine kx_iload hC dL_law_307 rfl rfl ?_
  refine kx_iconst (v := nI 1) hC dL_law_308 rfl ?_
  refine kx_iadd hC dL_law_309 ?_
  refine kx_sld hC hX (i + 1) (nI_add i 1) (by omega) hL dL_law_310 ?_
  refine kx_aload hC dL_law_311 rfl rfl ?_
  refine kx_iload hC dL_law_312 rfl rfl ?_
  refine kx_iconst (v := nI 2) hC dL_law_313 rfl ?_
  refine kx_iadd hC dL_law_314 ?_
  refine kx_sld hC hX (i + 2) (nI_add i 2) (by omega) hL dL_law_315 ?_
  refine kx_ws (show _ = (wd_cells cS ad1 V.2.2 σ1 ++ (wd_cells rS ad2 V.2.2 τ ++ []) : va_W) from by rw [List.append_nil, List.nil_append]) ?_
  refine kx_callV hC cwL_39 [.int (xs (i + 1)), .int (xs (i + 2))] (sd := rS) (ad := ad2) (q := 0) (st := v1.toList ++ []) (by decide) rfl rfl (fun _ => c2) (by show d2 + 1 ≤ 2048; omega) (by show _ ≤ 84000; omega) ⟨by decide, by decide⟩ rfl rfl (by rw [List.append_nil]; exact cat_2 v1) dL_law_316 (fun v2 τ1 p2 => ?_)
  refine kx_ws (show _ = (wd_cells cS ad1 V.2.2 σ1 ++ wd_cells rS ad2 V.2.2 τ1 : va_W) from by rw [List.append_nil]) ?_
  obtain ⟨⟨r, e1, e2⟩, nm1, nc1, hI1⟩ := hfin v1 v2 σ1 τ1 p1 p2
  subst e1 e2
  exact kx_eq (tgt := 1033) hC dL_law_319 (by decide) (fun _ => kk σ1 τ1 nm1 nc1 hI1) (fun z => absurd rfl z)
theorem cwL_40 : wd_wV RL 40 RX4 yX4_has cX4_has 3 (some .int) 2 := ⟨(wL_12 _ (List.mem_of_getElem? (i := 2) rfl)), (wL_12 _ (List.mem_of_getElem? (i := 3) rfl)), (wL_12 _ (List.mem_of_getElem? (i := 4) rfl)), (wL_1 _ (List.mem_of_getElem? (i := 2) rfl)), (wL_12 _ (List.mem_of_getElem? (i := 5) rfl)), by decide +kernel⟩
theorem cwL_43 : wd_wV RL 43 RX5 yX5_has cX5_has 3 (some .int) 2 := ⟨(wL_13 _ (List.mem_of_getElem? (i := 2) rfl)), (wL_13 _ (List.mem_of_getElem? (i := 3) rfl)), (wL_13 _ (List.mem_of_getElem? (i := 4) rfl)), (wL_1 _ (List.mem_of_getElem? (i := 5) rfl)), (wL_13 _ (List.mem_of_getElem? (i := 5) rfl)), by decide +kernel⟩
set_option maxRecDepth 100000 in
set_option maxHeartbeats 4000000 in
theorem law_has {V : wd_V} {K : wd_K} {A : Nat → Prop} {Q : State → Prop} {b L i : Nat} {xs : Nat → Int32} {ad1 ad2 : Nat → Nat} (hi1 : wd_inj cS ad1) (hi2 : wd_inj rS ad2) (hC : kx_Ok V K A RL cL_law 4 room_1) (hX : kx_X K A b L xs) (hL : L ≤ 384) (hi : i + 6 ≤ L) {σ τ : wd_S} {nm nc : Nat} (hI : Inv σ τ nm nc) (kk : ∀ σ1 τ1 nm nc, Inv σ1 τ1 nm nc → kx_G V K A 4 Q 600000 7302250 1033 [some (.ref b), some (.ref (ad1 0)), some (.ref (ad2 0)), some (.int (nI i))] [] (wd_cells cS ad1 V.2.2 σ1 ++ wd_cells rS ad2 V.2.2 τ1)) : kx_G V K A 4 Q 600000 7302250 324 [some (.ref b), some (.ref (ad1 0)), some (.ref (ad2 0)), some (.int (nI i))] [] (wd_cells cS ad1 V.2.2 σ ++ wd_cells rS ad2 V.2.2 τ) := by
  obtain ⟨d1, d2, P1, P2, hd1, hd2, c1, c2, hfin⟩ := e_has (V := V) hi1 hi2 hI (xs (i + 1)) (xs (i + 2))
  refine kx_aload hC dL_law_324 rfl rfl ?_
  refine kx_aload hC dL_law_325 rfl rfl ?_
  refine kx_iload hC dL_law_326 rfl rfl ?_
  refine kx_iconst (v := nI 1) hC dL_law_327 rfl ?_
  refine kx_iadd hC dL_law_328 ?_
  refine kx_sld hC hX (i + 1) (nI_add i 1) (by omega) hL dL_law_329 ?_
  refine kx_aload hC dL_law_330 rfl rfl ?_
  refine kx_iload hC dL_law_331 rfl rfl ?_
  refine kx_iconst (v := nI 2) hC dL_law_332 rfl ?_
  refine kx_iadd hC dL_law_333 ?_
  refine kx_sld hC hX (i + 2) (nI_add i 2) (by omega) hL dL_law_334 ?_
  refine kx_ws (show _ = ([] ++ (wd_cells cS ad1 V.2.2 σ ++ wd_cells rS ad2 V.2.2 τ) : va_W) from rfl) ?_
  refine kx_callV hC cwL_40 [.int (xs (i + 1)), .int (xs (i + 2))] (sd := cS) (ad := ad1) (q := 0) (by decide) rfl rfl (fun _ => c1) (by show d1 + 1 ≤ 2048; omega) (by show _ ≤ 84000; omega) ⟨by decide, by decide⟩ rfl rfl (Nat.le_of_ble_eq_true rfl) dL_law_335 (fun v1 σ1 p1 => ?_)
  refine kx_aload hC dL_law_338 rfl rfl ?_
  refine kx_aload hC dL_law_339 rfl rfl ?_
  refine kx_iload hC dL_law_340 rfl rfl ?_
  refine kx_iconst (v := nI 1) hC dL_law_341 rfl ?_
  refine kx_iadd hC dL_law_342 ?_
  refine kx_sld hC hX (i + 1) (nI_add i 1) (by omega) hL dL_law_343 ?_
  refine kx_aload hC dL_law_344 rfl rfl ?_
  refine kx_iload hC dL_law_345 rfl rfl ?_
  refine kx_iconst (v := nI 2) hC dL_law_346 rfl ?_
  refine kx_iadd hC dL_law_347 ?_
  refine kx_sld hC hX (i + 2) (nI_add i 2) (by omega) hL dL_law_348 ?_
  refine kx_ws (show _ = (wd_cells cS ad1 V.2.2 σ1 ++ (wd_cells rS ad2 V.2.2 τ ++ []) : va_W) from by rw [List.append_nil, List.nil_append]) ?_
  refine kx_callV hC cwL_43 [.int (xs (i + 1)), .int (xs (i + 2))] (sd := rS) (ad := ad2) (q := 0) (st := v1.toList ++ []) (by decide) rfl rfl (fun _ => c2) (by show d2 + 1 ≤ 2048; omega) (by show _ ≤ 84000; omega) ⟨by decide, by decide⟩ rfl rfl (by rw [List.append_nil]; exact cat_2 v1) dL_law_349 (fun v2 τ1 p2 => ?_)
  refine kx_ws (show _ = (wd_cells cS ad1 V.2.2 σ1 ++ wd_cells rS ad2 V.2.2 τ1 : va_W) from by rw [List.append_nil]) ?_
  obtain ⟨⟨r, e1, e2⟩, nm1, nc1, hI1⟩ := hfin v1 v2 σ1 τ1 p1 p2
  subst e1 e2
  exact kx_eq (tgt := 1033) hC dL_law_352 (by decide) (fun _ => kk σ1 τ1 nm1 nc1 hI1) (fun z => absurd rfl z)
theorem cwL_44 : wd_wV RL 44 RX4 yX4_now cX4_now 2 (some .int) 1 := ⟨(wL_13 _ (List.mem_of_getElem? (i := 23) rfl)), (wL_14 _ (List.mem_of_getElem? (i := 0) rfl)), (wL_14 _ (List.mem_of_getElem? (i := 1) rfl)), (wL_1 _ (List.mem_of_getElem? (i := 2) rfl)), (wL_14 _ (List.mem_of_getElem? (i := 2) rfl)), by decide +kernel⟩
theorem cwL_47 : wd_wV RL 47 RX5 yX5_now cX5_now 4 (some .int) 1 := ⟨(wL_15 _ (List.mem_of_getElem? (i := 11) rfl)), (wL_15 _ (List.mem_of_getElem? (i := 12) rfl)), (wL_15 _ (List.mem_of_getElem? (i := 13) rfl)), (wL_1 _ (List.mem_of_getElem? (i := 5) rfl)), (wL_15 _ (List.mem_of_getElem? (i := 14) rfl)), by decide +kernel⟩
set_option maxRecDepth 100000 in
set_option maxHeartbeats 4000000 in
theorem law_now {V : wd_V} {K : wd_K} {A : Nat → Prop} {Q : State → Prop} {b L i : Nat} {xs : Nat → Int32} {ad1 ad2 : Nat → Nat} (hi1 : wd_inj cS ad1) (hi2 : wd_inj rS ad2) (hC : kx_Ok V K A RL cL_law 4 room_1) (hX : kx_X K A b L xs) (hL : L ≤ 384) (hi : i + 6 ≤ L) {σ τ : wd_S} {nm nc : Nat} (hI : Inv σ τ nm nc) (kk : ∀ σ1 τ1 nm nc, Inv σ1 τ1 nm nc → kx_G V K A 4 Q 600000 7302250 1033 [some (.ref b), some (.ref (ad1 0)), some (.ref (ad2 0)), some (.int (nI i))] [] (wd_cells cS ad1 V.2.2 σ1 ++ wd_cells rS ad2 V.2.2 τ1)) : kx_G V K A 4 Q 600000 7302250 357 [some (.ref b), some (.ref (ad1 0)), some (.ref (ad2 0)), some (.int (nI i))] [] (wd_cells cS ad1 V.2.2 σ ++ wd_cells rS ad2 V.2.2 τ) := by
  obtain ⟨d1, d2, P1, P2, hd1, hd2, c1, c2, hfin⟩ := e_now (V := V) hi1 hi2 hI (xs (i + 1))
  refine kx_aload hC dL_law_357 rfl rfl ?_
  refine kx_aload hC dL_law_358 rfl rfl ?_
  refine kx_iload hC dL_law_359 rfl rfl ?_
  refine kx_iconst (v := nI 1) hC dL_law_360 rfl ?_
  refine kx_iadd hC dL_law_361 ?_
  refine kx_sld hC hX (i + 1) (nI_add i 1) (by omega) hL dL_law_362 ?_
  refine kx_ws (show _ = ([] ++ (wd_cells cS ad1 V.2.2 σ ++ wd_cells rS ad2 V.2.2 τ) : va_W) from rfl) ?_
  refine kx_callV hC cwL_44 [.int (xs (i + 1))] (sd := cS) (ad := ad1) (q := 0) (by decide) rfl rfl (fun _ => c1) (by show d1 + 1 ≤ 2048; omega) (by show _ ≤ 84000; omega) ⟨by decide, by decide⟩ rfl rfl (Nat.le_of_ble_eq_true rfl) dL_law_363 (fun v1 σ1 p1 => ?_)
  refine kx_aload hC dL_law_366 rfl rfl ?_
  refine kx_aload hC dL_law_367 rfl rfl ?_
  refine kx_iload hC dL_law_368 rfl rfl ?_
  refine kx_iconst (v := nI 1) hC dL_law_369 rfl ?_
  refine kx_iadd hC dL_law_370 ?_
  refine kx_sld hC hX (i + 1) (nI_add i 1) (by omega) hL dL_law_371 ?_
  refine kx_ws (show _ = (wd_cells cS ad1 V.2.2 σ1 ++ (wd_cells rS ad2 V.2.2 τ ++ []) : va_W) from by rw [List.append_nil, List.nil_append]) ?_
  refine kx_callV hC cwL_47 [.int (xs (i + 1))] (sd := rS) (ad := ad2) (q := 0) (st := v1.toList ++ []) (by decide) rfl rfl (fun _ => c2) (by show d2 + 1 ≤ 2048; omega) (by show _ ≤ 84000; omega) ⟨by decide, by decide⟩ rfl rfl (by rw [List.append_nil]; exact cat_2 v1) dL_law_372 (fun v2 τ1 p2 => ?_)
  refine kx_ws (show _ = (wd_cells cS ad1 V.2.2 σ1 ++ wd_cells rS ad2 V.2.2 τ1 : va_W) from by rw [List.append_nil]) ?_
  obtain ⟨⟨r, e1, e2⟩, nm1, nc1, hI1⟩ := hfin v1 v2 σ1 τ1 p1 p2
  subst e1 e2
  exact kx_eq (tgt := 1033) hC dL_law_375 (by decide) (fun _ => kk σ1 τ1 nm1 nc1 hI1) (fun z => absurd rfl z)
theorem cwL_48 : wd_wV RL 48 RX4 yX4_sows cX4_sows 4 (some .int) 2 := ⟨(wL_16 _ (List.mem_of_getElem? (i := 7) rfl)), (wL_16 _ (List.mem_of_getElem? (i := 8) rfl)), (wL_16 _ (List.mem_of_getElem? (i := 9) rfl)), (wL_1 _ (List.mem_of_getElem? (i := 2) rfl)), (wL_16 _ (List.mem_of_getElem? (i := 10) rfl)), by decide +kernel⟩
theorem cwL_51 : wd_wV RL 51 RX5 yX5_sows cX5_sows 3 (some .int) 2 := ⟨(wL_16 _ (List.mem_of_getElem? (i := 19) rfl)), (wL_16 _ (List.mem_of_getElem? (i := 20) rfl)), (wL_16 _ (List.mem_of_getElem? (i := 21) rfl)), (wL_1 _ (List.mem_of_getElem? (i := 5) rfl)), (wL_16 _ (List.mem_of_getElem? (i := 22) rfl)), by decide +kernel⟩
set_option maxRecDepth 100000 in
set_option maxHeartbeats 4000000 in
theorem law_sows {V : wd_V} {K : wd_K} {A : Nat → Prop} {Q : State → Prop} {b L i : Nat} {xs : Nat → Int32} {ad1 ad2 : Nat → Nat} (hi1 : wd_inj cS ad1) (hi2 : wd_inj rS ad2) (hC : kx_Ok V K A RL cL_law 4 room_1) (hX : kx_X K A b L xs) (hL : L ≤ 384) (hi : i + 6 ≤ L) {σ τ : wd_S} {nm nc : Nat} (hI : Inv σ τ nm nc) (kk : ∀ σ1 τ1 nm nc, Inv σ1 τ1 nm nc → kx_G V K A 4 Q 600000 7302250 1033 [some (.ref b), some (.ref (ad1 0)), some (.ref (ad2 0)), some (.int (nI i))] [] (wd_cells cS ad1 V.2.2 σ1 ++ wd_cells rS ad2 V.2.2 τ1)) : kx_G V K A 4 Q 600000 7302250 380 [some (.ref b), some (.ref (ad1 0)), some (.ref (ad2 0)), some (.int (nI i))] [] (wd_cells cS ad1 V.2.2 σ ++ wd_cells rS ad2 V.2.2 τ) := by
  obtain ⟨d1, d2, P1, P2, hd1, hd2, c1, c2, hfin⟩ := e_sows (V := V) hi1 hi2 hI (xs (i + 1)) (xs (i + 2))
  refine kx_aload hC dL_law_380 rfl rfl ?_
  refine kx_aload hC dL_law_381 rfl rfl ?_
  refine kx_iload hC dL_law_382 rfl rfl ?_
  refine kx_iconst (v := nI 1) hC dL_law_383 rfl ?_
  refine kx_iadd hC dL_law_384 ?_
  refine kx_sld hC hX (i + 1) (nI_add i 1) (by omega) hL dL_law_385 ?_
  refine kx_aload hC dL_law_386 rfl rfl ?_
  refine kx_iload hC dL_law_387 rfl rfl ?_
  refine kx_iconst (v := nI 2) hC dL_law_388 rfl ?_
  refine kx_iadd hC dL_law_389 ?_
  refine kx_sld hC hX (i + 2) (nI_add i 2) (by omega) hL dL_law_390 ?_
  refine kx_ws (show _ = ([] ++ (wd_cells cS ad1 V.2.2 σ ++ wd_cells rS ad2 V.2.2 τ) : va_W) from rfl) ?_
  refine kx_callV hC cwL_48 [.int (xs (i + 1)), .int (xs (i + 2))] (sd := cS) (ad := ad1) (q := 0) (by decide) rfl rfl (fun _ => c1) (by show d1 + 1 ≤ 2048; omega) (by show _ ≤ 84000; omega) ⟨by decide, by decide⟩ rfl rfl (Nat.le_of_ble_eq_true rfl) dL_law_391 (fun v1 σ1 p1 => ?_)
  refine kx_aload hC dL_law_394 rfl rfl ?_
  refine kx_aload hC dL_law_395 rfl rfl ?_
  refine kx_iload hC dL_law_396 rfl rfl ?_
  refine kx_iconst (v := nI 1) hC dL_law_397 rfl ?_
  refine kx_iadd hC dL_law_398 ?_
  refine kx_sld hC hX (i + 1) (nI_add i 1) (by omega) hL dL_law_399 ?_
  refine kx_aload hC dL_law_400 rfl rfl ?_
  refine kx_iload hC dL_law_401 rfl rfl ?_
  refine kx_iconst (v := nI 2) hC dL_law_402 rfl ?_
  refine kx_iadd hC dL_law_403 ?_
  refine kx_sld hC hX (i + 2) (nI_add i 2) (by omega) hL dL_law_404 ?_
  refine kx_ws (show _ = (wd_cells cS ad1 V.2.2 σ1 ++ (wd_cells rS ad2 V.2.2 τ ++ []) : va_W) from by rw [List.append_nil, List.nil_append]) ?_
  refine kx_callV hC cwL_51 [.int (xs (i + 1)), .int (xs (i + 2))] (sd := rS) (ad := ad2) (q := 0) (st := v1.toList ++ []) (by decide) rfl rfl (fun _ => c2) (by show d2 + 1 ≤ 2048; omega) (by show _ ≤ 84000; omega) ⟨by decide, by decide⟩ rfl rfl (by rw [List.append_nil]; exact cat_2 v1) dL_law_405 (fun v2 τ1 p2 => ?_)
  refine kx_ws (show _ = (wd_cells cS ad1 V.2.2 σ1 ++ wd_cells rS ad2 V.2.2 τ1 : va_W) from by rw [List.append_nil]) ?_
  obtain ⟨⟨r, e1, e2⟩, nm1, nc1, hI1⟩ := hfin v1 v2 σ1 τ1 p1 p2
  subst e1 e2
  exact kx_eq (tgt := 1033) hC dL_law_408 (by decide) (fun _ => kk σ1 τ1 nm1 nc1 hI1) (fun z => absurd rfl z)
theorem cwL_52 : wd_wV RL 52 RX4 yX4_rains cX4_rains 3 (some .int) 1 := ⟨(wL_17 _ (List.mem_of_getElem? (i := 7) rfl)), (wL_17 _ (List.mem_of_getElem? (i := 8) rfl)), (wL_17 _ (List.mem_of_getElem? (i := 9) rfl)), (wL_1 _ (List.mem_of_getElem? (i := 2) rfl)), (wL_17 _ (List.mem_of_getElem? (i := 10) rfl)), by decide +kernel⟩
theorem cwL_55 : wd_wV RL 55 RX5 yX5_rains cX5_rains 2 (some .int) 1 := ⟨(wL_17 _ (List.mem_of_getElem? (i := 11) rfl)), (wL_17 _ (List.mem_of_getElem? (i := 12) rfl)), (wL_17 _ (List.mem_of_getElem? (i := 13) rfl)), (wL_1 _ (List.mem_of_getElem? (i := 5) rfl)), (wL_17 _ (List.mem_of_getElem? (i := 14) rfl)), by decide +kernel⟩
set_option maxRecDepth 100000 in
set_option maxHeartbeats 4000000 in
theorem law_rains {V : wd_V} {K : wd_K} {A : Nat → Prop} {Q : State → Prop} {b L i : Nat} {xs : Nat → Int32} {ad1 ad2 : Nat → Nat} (hi1 : wd_inj cS ad1) (hi2 : wd_inj rS ad2) (hC : kx_Ok V K A RL cL_law 4 room_1) (hX : kx_X K A b L xs) (hL : L ≤ 384) (hi : i + 6 ≤ L) {σ τ : wd_S} {nm nc : Nat} (hI : Inv σ τ nm nc) (kk : ∀ σ1 τ1 nm nc, Inv σ1 τ1 nm nc → kx_G V K A 4 Q 600000 7302250 1033 [some (.ref b), some (.ref (ad1 0)), some (.ref (ad2 0)), some (.int (nI i))] [] (wd_cells cS ad1 V.2.2 σ1 ++ wd_cells rS ad2 V.2.2 τ1)) : kx_G V K A 4 Q 600000 7302250 413 [some (.ref b), some (.ref (ad1 0)), some (.ref (ad2 0)), some (.int (nI i))] [] (wd_cells cS ad1 V.2.2 σ ++ wd_cells rS ad2 V.2.2 τ) := by
  obtain ⟨d1, d2, P1, P2, hd1, hd2, c1, c2, hfin⟩ := e_rains (V := V) hi1 hi2 hI (xs (i + 1))
  refine kx_aload hC dL_law_413 rfl rfl ?_
  refine kx_aload hC dL_law_414 rfl rfl ?_
  refine kx_iload hC dL_law_415 rfl rfl ?_
  refine kx_iconst (v := nI 1) hC dL_law_416 rfl ?_
  refine kx_iadd hC dL_law_417 ?_
  refine kx_sld hC hX (i + 1) (nI_add i 1) (by omega) hL dL_law_418 ?_
  refine kx_ws (show _ = ([] ++ (wd_cells cS ad1 V.2.2 σ ++ wd_cells rS ad2 V.2.2 τ) : va_W) from rfl) ?_
  refine kx_callV hC cwL_52 [.int (xs (i + 1))] (sd := cS) (ad := ad1) (q := 0) (by decide) rfl rfl (fun _ => c1) (by show d1 + 1 ≤ 2048; omega) (by show _ ≤ 84000; omega) ⟨by decide, by decide⟩ rfl rfl (Nat.le_of_ble_eq_true rfl) dL_law_419 (fun v1 σ1 p1 => ?_)
  refine kx_aload hC dL_law_422 rfl rfl ?_
  refine kx_aload hC dL_law_423 rfl rfl ?_
  refine kx_iload hC dL_law_424 rfl rfl ?_
  refine kx_iconst (v := nI 1) hC dL_law_425 rfl ?_
  refine kx_iadd hC dL_law_426 ?_
  refine kx_sld hC hX (i + 1) (nI_add i 1) (by omega) hL dL_law_427 ?_
  refine kx_ws (show _ = (wd_cells cS ad1 V.2.2 σ1 ++ (wd_cells rS ad2 V.2.2 τ ++ []) : va_W) from by rw [List.append_nil, List.nil_append]) ?_
  refine kx_callV hC cwL_55 [.int (xs (i + 1))] (sd := rS) (ad := ad2) (q := 0) (st := v1.toList ++ []) (by decide) rfl rfl (fun _ => c2) (by show d2 + 1 ≤ 2048; omega) (by show _ ≤ 84000; omega) ⟨by decide, by decide⟩ rfl rfl (by rw [List.append_nil]; exact cat_2 v1) dL_law_428 (fun v2 τ1 p2 => ?_)
  refine kx_ws (show _ = (wd_cells cS ad1 V.2.2 σ1 ++ wd_cells rS ad2 V.2.2 τ1 : va_W) from by rw [List.append_nil]) ?_
  obtain ⟨⟨r, e1, e2⟩, nm1, nc1, hI1⟩ := hfin v1 v2 σ1 τ1 p1 p2
  subst e1 e2
  exact kx_eq (tgt := 1033) hC dL_law_431 (by decide) (fun _ => kk σ1 τ1 nm1 nc1 hI1) (fun z => absurd rfl z)
theorem cwL_56 : wd_wV RL 56 RX4 yX4_ropes cX4_ropes 4 (some .int) 2 := ⟨(wL_17 _ (List.mem_of_getElem? (i := 15) rfl)), (wL_17 _ (List.mem_of_getElem? (i := 16) rfl)), (wL_17 _ (List.mem_of_getElem? (i := 17) rfl)), (wL_1 _ (List.mem_of_getElem? (i := 2) rfl)), (wL_17 _ (List.mem_of_getElem? (i := 18) rfl)), by decide +kernel⟩
theorem cwL_59 : wd_wV RL 59 RX5 yX5_ropes cX5_ropes 3 (some .int) 2 := ⟨(wL_17 _ (List.mem_of_getElem? (i := 19) rfl)), (wL_17 _ (List.mem_of_getElem? (i := 20) rfl)), (wL_17 _ (List.mem_of_getElem? (i := 21) rfl)), (wL_1 _ (List.mem_of_getElem? (i := 5) rfl)), (wL_17 _ (List.mem_of_getElem? (i := 22) rfl)), by decide +kernel⟩
set_option maxRecDepth 100000 in
set_option maxHeartbeats 4000000 in
theorem law_ropes {V : wd_V} {K : wd_K} {A : Nat → Prop} {Q : State → Prop} {b L i : Nat} {xs : Nat → Int32} {ad1 ad2 : Nat → Nat} (hi1 : wd_inj cS ad1) (hi2 : wd_inj rS ad2) (hC : kx_Ok V K A RL cL_law 4 room_1) (hX : kx_X K A b L xs) (hL : L ≤ 384) (hi : i + 6 ≤ L) {σ τ : wd_S} {nm nc : Nat} (hI : Inv σ τ nm nc) (kk : ∀ σ1 τ1 nm nc, Inv σ1 τ1 nm nc → kx_G V K A 4 Q 600000 7302250 1033 [some (.ref b), some (.ref (ad1 0)), some (.ref (ad2 0)), some (.int (nI i))] [] (wd_cells cS ad1 V.2.2 σ1 ++ wd_cells rS ad2 V.2.2 τ1)) : kx_G V K A 4 Q 600000 7302250 436 [some (.ref b), some (.ref (ad1 0)), some (.ref (ad2 0)), some (.int (nI i))] [] (wd_cells cS ad1 V.2.2 σ ++ wd_cells rS ad2 V.2.2 τ) := by
  obtain ⟨d1, d2, P1, P2, hd1, hd2, c1, c2, hfin⟩ := e_ropes (V := V) hi1 hi2 hI (xs (i + 1)) (xs (i + 2))
  refine kx_aload hC dL_law_436 rfl rfl ?_
  refine kx_aload hC dL_law_437 rfl rfl ?_
  refine kx_iload hC dL_law_438 rfl rfl ?_
  refine kx_iconst (v := nI 1) hC dL_law_439 rfl ?_
  refine kx_iadd hC dL_law_440 ?_
  refine kx_sld hC hX (i + 1) (nI_add i 1) (by omega) hL dL_law_441 ?_
  refine kx_aload hC dL_law_442 rfl rfl ?_
  refine kx_iload hC dL_law_443 rfl rfl ?_
  refine kx_iconst (v := nI 2) hC dL_law_444 rfl ?_
  refine kx_iadd hC dL_law_445 ?_
  refine kx_sld hC hX (i + 2) (nI_add i 2) (by omega) hL dL_law_446 ?_
  refine kx_ws (show _ = ([] ++ (wd_cells cS ad1 V.2.2 σ ++ wd_cells rS ad2 V.2.2 τ) : va_W) from rfl) ?_
  refine kx_callV hC cwL_56 [.int (xs (i + 1)), .int (xs (i + 2))] (sd := cS) (ad := ad1) (q := 0) (by decide) rfl rfl (fun _ => c1) (by show d1 + 1 ≤ 2048; omega) (by show _ ≤ 84000; omega) ⟨by decide, by decide⟩ rfl rfl (Nat.le_of_ble_eq_true rfl) dL_law_447 (fun v1 σ1 p1 => ?_)
  refine kx_aload hC dL_law_450 rfl rfl ?_
  refine kx_aload hC dL_law_451 rfl rfl ?_
  refine kx_iload hC dL_law_452 rfl rfl ?_
  refine kx_iconst (v := nI 1) hC dL_law_453 rfl ?_
  refine kx_iadd hC dL_law_454 ?_
  refine kx_sld hC hX (i + 1) (nI_add i 1) (by omega) hL dL_law_455 ?_
  refine kx_aload hC dL_law_456 rfl rfl ?_
  refine kx_iload hC dL_law_457 rfl rfl ?_
  refine kx_iconst (v := nI 2) hC dL_law_458 rfl ?_
  refine kx_iadd hC dL_law_459 ?_
  refine kx_sld hC hX (i + 2) (nI_add i 2) (by omega) hL dL_law_460 ?_
  refine kx_ws (show _ = (wd_cells cS ad1 V.2.2 σ1 ++ (wd_cells rS ad2 V.2.2 τ ++ []) : va_W) from by rw [List.append_nil, List.nil_append]) ?_
  refine kx_callV hC cwL_59 [.int (xs (i + 1)), .int (xs (i + 2))] (sd := rS) (ad := ad2) (q := 0) (st := v1.toList ++ []) (by decide) rfl rfl (fun _ => c2) (by show d2 + 1 ≤ 2048; omega) (by show _ ≤ 84000; omega) ⟨by decide, by decide⟩ rfl rfl (by rw [List.append_nil]; exact cat_2 v1) dL_law_461 (fun v2 τ1 p2 => ?_)
  refine kx_ws (show _ = (wd_cells cS ad1 V.2.2 σ1 ++ wd_cells rS ad2 V.2.2 τ1 : va_W) from by rw [List.append_nil]) ?_
  obtain ⟨⟨r, e1, e2⟩, nm1, nc1, hI1⟩ := hfin v1 v2 σ1 τ1 p1 p2
  subst e1 e2
  exact kx_eq (tgt := 1033) hC dL_law_464 (by decide) (fun _ => kk σ1 τ1 nm1 nc1 hI1) (fun z => absurd rfl z)
theorem cwL_60 : wd_wV RL 60 RX4 yX4_mules cX4_mules 4 (some .int) 2 := ⟨(wL_17 _ (List.mem_of_getElem? (i := 23) rfl)), (wL_18 _ (List.mem_of_getElem? (i := 0) rfl)), (wL_18 _ (List.mem_of_getElem? (i := 1) rfl)), (wL_1 _ (List.mem_of_getElem? (i := 2) rfl)), (wL_18 _ (List.mem_of_getElem? (i := 2) rfl)), by decide +kernel⟩
theorem cwL_63 : wd_wV RL 63 RX5 yX5_mules cX5_mules 3 (some .int) 2 := ⟨(wL_18 _ (List.mem_of_getElem? (i := 3) rfl)), (wL_18 _ (List.mem_of_getElem? (i := 4) rfl)), (wL_18 _ (List.mem_of_getElem? (i := 5) rfl)), (wL_1 _ (List.mem_of_getElem? (i := 5) rfl)), (wL_18 _ (List.mem_of_getElem? (i := 6) rfl)), by decide +kernel⟩
set_option maxRecDepth 100000 in
set_option maxHeartbeats 4000000 in
theorem law_mules {V : wd_V} {K : wd_K} {A : Nat → Prop} {Q : State → Prop} {b L i : Nat} {xs : Nat → Int32} {ad1 ad2 : Nat → Nat} (hi1 : wd_inj cS ad1) (hi2 : wd_inj rS ad2) (hC : kx_Ok V K A RL cL_law 4 room_1) (hX : kx_X K A b L xs) (hL : L ≤ 384) (hi : i + 6 ≤ L) {σ τ : wd_S} {nm nc : Nat} (hI : Inv σ τ nm nc) (kk : ∀ σ1 τ1 nm nc, Inv σ1 τ1 nm nc → kx_G V K A 4 Q 600000 7302250 1033 [some (.ref b), some (.ref (ad1 0)), some (.ref (ad2 0)), some (.int (nI i))] [] (wd_cells cS ad1 V.2.2 σ1 ++ wd_cells rS ad2 V.2.2 τ1)) : kx_G V K A 4 Q 600000 7302250 469 [some (.ref b), some (.ref (ad1 0)), some (.ref (ad2 0)), some (.int (nI i))] [] (wd_cells cS ad1 V.2.2 σ ++ wd_cells rS ad2 V.2.2 τ) := by
  obtain ⟨d1, d2, P1, P2, hd1, hd2, c1, c2, hfin⟩ := e_mules (V := V) hi1 hi2 hI (xs (i + 1)) (xs (i + 2))
  refine kx_aload hC dL_law_469 rfl rfl ?_
  refine kx_aload hC dL_law_470 rfl rfl ?_
  refine kx_iload hC dL_law_471 rfl rfl ?_
  refine kx_iconst (v := nI 1) hC dL_law_472 rfl ?_
  refine kx_iadd hC dL_law_473 ?_
  refine kx_sld hC hX (i + 1) (nI_add i 1) (by omega) hL dL_law_474 ?_
  refine kx_aload hC dL_law_475 rfl rfl ?_
  refine kx_iload hC dL_law_476 rfl rfl ?_
  refine kx_iconst (v := nI 2) hC dL_law_477 rfl ?_
  refine kx_iadd hC dL_law_478 ?_
  refine kx_sld hC hX (i + 2) (nI_add i 2) (by omega) hL dL_law_479 ?_
  refine kx_ws (show _ = ([] ++ (wd_cells cS ad1 V.2.2 σ ++ wd_cells rS ad2 V.2.2 τ) : va_W) from rfl) ?_
  refine kx_callV hC cwL_60 [.int (xs (i + 1)), .int (xs (i + 2))] (sd := cS) (ad := ad1) (q := 0) (by decide) rfl rfl (fun _ => c1) (by show d1 + 1 ≤ 2048; omega) (by show _ ≤ 84000; omega) ⟨by decide, by decide⟩ rfl rfl (Nat.le_of_ble_eq_true rfl) dL_law_480 (fun v1 σ1 p1 => ?_)
  refine kx_aload hC dL_law_483 rfl rfl ?_
  refine kx_aload hC dL_law_484 rfl rfl ?_
  refine kx_iload hC dL_law_485 rfl rfl ?_
  refine kx_iconst (v := nI 1) hC dL_law_486 rfl ?_
  refine kx_iadd hC dL_law_487 ?_
  refine kx_sld hC hX (i + 1) (nI_add i 1) (by omega) hL dL_law_488 ?_
  refine kx_aload hC dL_law_489 rfl rfl ?_
  refine kx_iload hC dL_law_490 rfl rfl ?_
  refine kx_iconst (v := nI 2) hC dL_law_491 rfl ?_
  refine kx_iadd hC dL_law_492 ?_
  refine kx_sld hC hX (i + 2) (nI_add i 2) (by omega) hL dL_law_493 ?_
  refine kx_ws (show _ = (wd_cells cS ad1 V.2.2 σ1 ++ (wd_cells rS ad2 V.2.2 τ ++ []) : va_W) from by rw [List.append_nil, List.nil_append]) ?_
  refine kx_callV hC cwL_63 [.int (xs (i + 1)), .int (xs (i + 2))] (sd := rS) (ad := ad2) (q := 0) (st := v1.toList ++ []) (by decide) rfl rfl (fun _ => c2) (by show d2 + 1 ≤ 2048; omega) (by show _ ≤ 84000; omega) ⟨by decide, by decide⟩ rfl rfl (by rw [List.append_nil]; exact cat_2 v1) dL_law_494 (fun v2 τ1 p2 => ?_)
  refine kx_ws (show _ = (wd_cells cS ad1 V.2.2 σ1 ++ wd_cells rS ad2 V.2.2 τ1 : va_W) from by rw [List.append_nil]) ?_
  obtain ⟨⟨r, e1, e2⟩, nm1, nc1, hI1⟩ := hfin v1 v2 σ1 τ1 p1 p2
  subst e1 e2
  exact kx_eq (tgt := 1033) hC dL_law_497 (by decide) (fun _ => kk σ1 τ1 nm1 nc1 hI1) (fun z => absurd rfl z)
theorem cwL_64 : wd_wV RL 64 RX4 yX4_marries cX4_marries 3 (some .int) 2 := ⟨(wL_18 _ (List.mem_of_getElem? (i := 7) rfl)), (wL_18 _ (List.mem_of_getElem? (i := 8) rfl)), (wL_18 _ (List.mem_of_getElem? (i := 9) rfl)), (wL_1 _ (List.mem_of_getElem? (i := 2) rfl)), (wL_18 _ (List.mem_of_getElem? (i := 10) rfl)), by decide +kernel⟩
theorem cwL_67 : wd_wV RL 67 RX5 yX5_marries cX5_marries 5 (some .int) 2 := ⟨(wL_18 _ (List.mem_of_getElem? (i := 15) rfl)), (wL_18 _ (List.mem_of_getElem? (i := 16) rfl)), (wL_18 _ (List.mem_of_getElem? (i := 17) rfl)), (wL_1 _ (List.mem_of_getElem? (i := 5) rfl)), (wL_18 _ (List.mem_of_getElem? (i := 18) rfl)), by decide +kernel⟩
set_option maxRecDepth 100000 in
set_option maxHeartbeats 4000000 in
theorem law_marries {V : wd_V} {K : wd_K} {A : Nat → Prop} {Q : State → Prop} {b L i : Nat} {xs : Nat → Int32} {ad1 ad2 : Nat → Nat} (hi1 : wd_inj cS ad1) (hi2 : wd_inj rS ad2) (hC : kx_Ok V K A RL cL_law 4 room_1) (hX : kx_X K A b L xs) (hL : L ≤ 384) (hi : i + 6 ≤ L) {σ τ : wd_S} {nm nc : Nat} (hI : Inv σ τ nm nc) (kk : ∀ σ1 τ1 nm nc, Inv σ1 τ1 nm nc → kx_G V K A 4 Q 600000 7302250 1033 [some (.ref b), some (.ref (ad1 0)), some (.ref (ad2 0)), some (.int (nI i))] [] (wd_cells cS ad1 V.2.2 σ1 ++ wd_cells rS ad2 V.2.2 τ1)) : kx_G V K A 4 Q 600000 7302250 502 [some (.ref b), some (.ref (ad1 0)), some (.ref (ad2 0)), some (.int (nI i))] [] (wd_cells cS ad1 V.2.2 σ ++ wd_cells rS ad2 V.2.2 τ) := by
  obtain ⟨d1, d2, P1, P2, hd1, hd2, c1, c2, hfin⟩ := e_marries (V := V) hi1 hi2 hI (xs (i + 1)) (xs (i + 2))
  refine kx_aload hC dL_law_502 rfl rfl ?_
  refine kx_aload hC dL_law_503 rfl rfl ?_
  refine kx_iload hC dL_law_504 rfl rfl ?_
  refine kx_iconst (v := nI 1) hC dL_law_505 rfl ?_
  refine kx_iadd hC dL_law_506 ?_
  refine kx_sld hC hX (i + 1) (nI_add i 1) (by omega) hL dL_law_507 ?_
  refine kx_aload hC dL_law_508 rfl rfl ?_
  refine kx_iload hC dL_law_509 rfl rfl ?_
  refine kx_iconst (v := nI 2) hC dL_law_510 rfl ?_
  refine kx_iadd hC dL_law_511 ?_
  refine kx_sld hC hX (i + 2) (nI_add i 2) (by omega) hL dL_law_512 ?_
  refine kx_ws (show _ = ([] ++ (wd_cells cS ad1 V.2.2 σ ++ wd_cells rS ad2 V.2.2 τ) : va_W) from rfl) ?_
  refine kx_callV hC cwL_64 [.int (xs (i + 1)), .int (xs (i + 2))] (sd := cS) (ad := ad1) (q := 0) (by decide) rfl rfl (fun _ => c1) (by show d1 + 1 ≤ 2048; omega) (by show _ ≤ 84000; omega) ⟨by decide, by decide⟩ rfl rfl (Nat.le_of_ble_eq_true rfl) dL_law_513 (fun v1 σ1 p1 => ?_)
  refine kx_aload hC dL_law_516 rfl rfl ?_
  refine kx_aload hC dL_law_517 rfl rfl ?_
  refine kx_iload hC dL_law_518 rfl rfl ?_
  refine kx_iconst (v := nI 1) hC dL_law_519 rfl ?_
  refine kx_iadd hC dL_law_520 ?_
  refine kx_sld hC hX (i + 1) (nI_add i 1) (by omega) hL dL_law_521 ?_
  refine kx_aload hC dL_law_522 rfl rfl ?_
  refine kx_iload hC dL_law_523 rfl rfl ?_
  refine kx_iconst (v := nI 2) hC dL_law_524 rfl ?_
  refine kx_iadd hC dL_law_525 ?_
  refine kx_sld hC hX (i + 2) (nI_add i 2) (by omega) hL dL_law_526 ?_
  refine kx_ws (show _ = (wd_cells cS ad1 V.2.2 σ1 ++ (wd_cells rS ad2 V.2.2 τ ++ []) : va_W) from by rw [List.append_nil, List.nil_append]) ?_
  refine kx_callV hC cwL_67 [.int (xs (i + 1)), .int (xs (i + 2))] (sd := rS) (ad := ad2) (q := 0) (st := v1.toList ++ []) (by decide) rfl rfl (fun _ => c2) (by show d2 + 1 ≤ 2048; omega) (by show _ ≤ 84000; omega) ⟨by decide, by decide⟩ rfl rfl (by rw [List.append_nil]; exact cat_2 v1) dL_law_527 (fun v2 τ1 p2 => ?_)
  refine kx_ws (show _ = (wd_cells cS ad1 V.2.2 σ1 ++ wd_cells rS ad2 V.2.2 τ1 : va_W) from by rw [List.append_nil]) ?_
  obtain ⟨⟨r, e1, e2⟩, nm1, nc1, hI1⟩ := hfin v1 v2 σ1 τ1 p1 p2
  subst e1 e2
  exact kx_eq (tgt := 1033) hC dL_law_530 (by decide) (fun _ => kk σ1 τ1 nm1 nc1 hI1) (fun z => absurd rfl z)
theorem cwL_68 : wd_wV RL 68 RX4 yX4_year cX4_year 4 (some .int) 0 := ⟨(wL_18 _ (List.mem_of_getElem? (i := 23) rfl)), (wL_19 _ (List.mem_of_getElem? (i := 0) rfl)), (wL_19 _ (List.mem_of_getElem? (i := 1) rfl)), (wL_1 _ (List.mem_of_getElem? (i := 2) rfl)), (wL_19 _ (List.mem_of_getElem? (i := 2) rfl)), by decide +kernel⟩
theorem cwL_71 : wd_wV RL 71 RX5 yX5_year cX5_year 1 (some .int) 0 := ⟨(wL_19 _ (List.mem_of_getElem? (i := 10) rfl)), (wL_19 _ (List.mem_of_getElem? (i := 11) rfl)), (wL_19 _ (List.mem_of_getElem? (i := 12) rfl)), (wL_1 _ (List.mem_of_getElem? (i := 5) rfl)), (wL_19 _ (List.mem_of_getElem? (i := 13) rfl)), by decide +kernel⟩
set_option maxRecDepth 100000 in
set_option maxHeartbeats 4000000 in
theorem law_year {V : wd_V} {K : wd_K} {A : Nat → Prop} {Q : State → Prop} {b L i : Nat} {xs : Nat → Int32} {ad1 ad2 : Nat → Nat} (hi1 : wd_inj cS ad1) (hi2 : wd_inj rS ad2) (hC : kx_Ok V K A RL cL_law 4 room_1) (hX : kx_X K A b L xs) (hL : L ≤ 384) (hi : i + 6 ≤ L) {σ τ : wd_S} {nm nc : Nat} (hI : Inv σ τ nm nc) (kk : ∀ σ1 τ1 nm nc, Inv σ1 τ1 nm nc → kx_G V K A 4 Q 600000 7302250 1033 [some (.ref b), some (.ref (ad1 0)), some (.ref (ad2 0)), some (.int (nI i))] [] (wd_cells cS ad1 V.2.2 σ1 ++ wd_cells rS ad2 V.2.2 τ1)) : kx_G V K A 4 Q 600000 7302250 535 [some (.ref b), some (.ref (ad1 0)), some (.ref (ad2 0)), some (.int (nI i))] [] (wd_cells cS ad1 V.2.2 σ ++ wd_cells rS ad2 V.2.2 τ) := by
  obtain ⟨d1, d2, P1, P2, hd1, hd2, c1, c2, hfin⟩ := e_year (V := V) hi1 hi2 hI 
  refine kx_aload hC dL_law_535 rfl rfl ?_
  refine kx_ws (show _ = ([] ++ (wd_cells cS ad1 V.2.2 σ ++ wd_cells rS ad2 V.2.2 τ) : va_W) from rfl) ?_
  refine kx_callV hC cwL_68 [] (sd := cS) (ad := ad1) (q := 0) (by decide) rfl rfl (fun _ => c1) (by show d1 + 1 ≤ 2048; omega) (by show _ ≤ 84000; omega) ⟨by decide, by decide⟩ rfl rfl (Nat.le_of_ble_eq_true rfl) dL_law_536 (fun v1 σ1 p1 => ?_)
  refine kx_aload hC dL_law_539 rfl rfl ?_
  refine kx_ws (show _ = (wd_cells cS ad1 V.2.2 σ1 ++ (wd_cells rS ad2 V.2.2 τ ++ []) : va_W) from by rw [List.append_nil, List.nil_append]) ?_
  refine kx_callV hC cwL_71 [] (sd := rS) (ad := ad2) (q := 0) (st := v1.toList ++ []) (by decide) rfl rfl (fun _ => c2) (by show d2 + 1 ≤ 2048; omega) (by show _ ≤ 84000; omega) ⟨by decide, by decide⟩ rfl rfl (by rw [List.append_nil]; exact cat_2 v1) dL_law_540 (fun v2 τ1 p2 => ?_)
  refine kx_ws (show _ = (wd_cells cS ad1 V.2.2 σ1 ++ wd_cells rS ad2 V.2.2 τ1 : va_W) from by rw [List.append_nil]) ?_
  obtain ⟨⟨r, e1, e2⟩, nm1, nc1, hI1⟩ := hfin v1 v2 σ1 τ1 p1 p2
  subst e1 e2
  exact kx_eq (tgt := 1033) hC dL_law_543 (by decide) (fun _ => kk σ1 τ1 nm1 nc1 hI1) (fun z => absurd rfl z)
theorem cwL_72 : wd_wV RL 72 RX4 yX4_undo cX4_undo 1 (some .int) 0 := ⟨(wL_19 _ (List.mem_of_getElem? (i := 18) rfl)), (wL_19 _ (List.mem_of_getElem? (i := 19) rfl)), (wL_19 _ (List.mem_of_getElem? (i := 20) rfl)), (wL_1 _ (List.mem_of_getElem? (i := 2) rfl)), (wL_19 _ (List.mem_of_getElem? (i := 21) rfl)), by decide +kernel⟩
theorem cwL_75 : wd_wV RL 75 RX5 yX5_undo cX5_undo 2 (some .int) 0 := ⟨(wL_20 _ (List.mem_of_getElem? (i := 2) rfl)), (wL_20 _ (List.mem_of_getElem? (i := 3) rfl)), (wL_20 _ (List.mem_of_getElem? (i := 4) rfl)), (wL_1 _ (List.mem_of_getElem? (i := 5) rfl)), (wL_20 _ (List.mem_of_getElem? (i := 5) rfl)), by decide +kernel⟩
set_option maxRecDepth 100000 in
set_option maxHeartbeats 4000000 in
theorem law_undo {V : wd_V} {K : wd_K} {A : Nat → Prop} {Q : State → Prop} {b L i : Nat} {xs : Nat → Int32} {ad1 ad2 : Nat → Nat} (hi1 : wd_inj cS ad1) (hi2 : wd_inj rS ad2) (hC : kx_Ok V K A RL cL_law 4 room_1) (hX : kx_X K A b L xs) (hL : L ≤ 384) (hi : i + 6 ≤ L) {σ τ : wd_S} {nm nc : Nat} (hI : Inv σ τ nm nc) (kk : ∀ σ1 τ1 nm nc, Inv σ1 τ1 nm nc → kx_G V K A 4 Q 600000 7302250 1033 [some (.ref b), some (.ref (ad1 0)), some (.ref (ad2 0)), some (.int (nI i))] [] (wd_cells cS ad1 V.2.2 σ1 ++ wd_cells rS ad2 V.2.2 τ1)) : kx_G V K A 4 Q 600000 7302250 548 [some (.ref b), some (.ref (ad1 0)), some (.ref (ad2 0)), some (.int (nI i))] [] (wd_cells cS ad1 V.2.2 σ ++ wd_cells rS ad2 V.2.2 τ) := by
  obtain ⟨d1, d2, P1, P2, hd1, hd2, c1, c2, hfin⟩ := e_undo (V := V) hi1 hi2 hI 
  refine kx_aload hC dL_law_548 rfl rfl ?_
  refine kx_ws (show _ = ([] ++ (wd_cells cS ad1 V.2.2 σ ++ wd_cells rS ad2 V.2.2 τ) : va_W) from rfl) ?_
  refine kx_callV hC cwL_72 [] (sd := cS) (ad := ad1) (q := 0) (by decide) rfl rfl (fun _ => c1) (by show d1 + 1 ≤ 2048; omega) (by show _ ≤ 84000; omega) ⟨by decide, by decide⟩ rfl rfl (Nat.le_of_ble_eq_true rfl) dL_law_549 (fun v1 σ1 p1 => ?_)
  refine kx_aload hC dL_law_552 rfl rfl ?_
  refine kx_ws (show _ = (wd_cells cS ad1 V.2.2 σ1 ++ (wd_cells rS ad2 V.2.2 τ ++ []) : va_W) from by rw [List.append_nil, List.nil_append]) ?_
  refine kx_callV hC cwL_75 [] (sd := rS) (ad := ad2) (q := 0) (st := v1.toList ++ []) (by decide) rfl rfl (fun _ => c2) (by show d2 + 1 ≤ 2048; omega) (by show _ ≤ 84000; omega) ⟨by decide, by decide⟩ rfl rfl (by rw [List.append_nil]; exact cat_2 v1) dL_law_553 (fun v2 τ1 p2 => ?_)
  refine kx_ws (show _ = (wd_cells cS ad1 V.2.2 σ1 ++ wd_cells rS ad2 V.2.2 τ1 : va_W) from by rw [List.append_nil]) ?_
  obtain ⟨⟨r, e1, e2⟩, nm1, nc1, hI1⟩ := hfin v1 v2 σ1 τ1 p1 p2
  subst e1 e2
  exact kx_eq (tgt := 1033) hC dL_law_556 (by decide) (fun _ => kk σ1 τ1 nm1 nc1 hI1) (fun z => absurd rfl z)
theorem cwL_76 : wd_wV RL 76 RX4 yX4_best cX4_best 10 (some .int) 3 := ⟨(wL_20 _ (List.mem_of_getElem? (i := 6) rfl)), (wL_20 _ (List.mem_of_getElem? (i := 7) rfl)), (wL_20 _ (List.mem_of_getElem? (i := 8) rfl)), (wL_1 _ (List.mem_of_getElem? (i := 2) rfl)), (wL_20 _ (List.mem_of_getElem? (i := 9) rfl)), by decide +kernel⟩
theorem cwL_80 : wd_wV RL 80 RX5 yX5_best cX5_best 9 (some .int) 3 := ⟨(wL_20 _ (List.mem_of_getElem? (i := 10) rfl)), (wL_20 _ (List.mem_of_getElem? (i := 11) rfl)), (wL_20 _ (List.mem_of_getElem? (i := 12) rfl)), (wL_1 _ (List.mem_of_getElem? (i := 5) rfl)), (wL_20 _ (List.mem_of_getElem? (i := 13) rfl)), by decide +kernel⟩
set_option maxRecDepth 100000 in
set_option maxHeartbeats 4000000 in
theorem law_best {V : wd_V} {K : wd_K} {A : Nat → Prop} {Q : State → Prop} {b L i : Nat} {xs : Nat → Int32} {ad1 ad2 : Nat → Nat} (hi1 : wd_inj cS ad1) (hi2 : wd_inj rS ad2) (hC : kx_Ok V K A RL cL_law 4 room_1) (hX : kx_X K A b L xs) (hL : L ≤ 384) (hi : i + 6 ≤ L) {σ τ : wd_S} {nm nc : Nat} (hI : Inv σ τ nm nc) (kk : ∀ σ1 τ1 nm nc, Inv σ1 τ1 nm nc → kx_G V K A 4 Q 600000 7302250 1033 [some (.ref b), some (.ref (ad1 0)), some (.ref (ad2 0)), some (.int (nI i))] [] (wd_cells cS ad1 V.2.2 σ1 ++ wd_cells rS ad2 V.2.2 τ1)) : kx_G V K A 4 Q 600000 7302250 561 [some (.ref b), some (.ref (ad1 0)), some (.ref (ad2 0)), some (.int (nI i))] [] (wd_cells cS ad1 V.2.2 σ ++ wd_cells rS ad2 V.2.2 τ) := by
  obtain ⟨d1, d2, P1, P2, hd1, hd2, c1, c2, hfin⟩ := e_best (V := V) hi1 hi2 hI (xs (i + 1)) (xs (i + 2)) (xs (i + 3))
  refine kx_aload hC dL_law_561 rfl rfl ?_
  refine kx_aload hC dL_law_562 rfl rfl ?_
  refine kx_iload hC dL_law_563 rfl rfl ?_
  refine kx_iconst (v := nI 1) hC dL_law_564 rfl ?_
  refine kx_iadd hC dL_law_565 ?_
  refine kx_sld hC hX (i + 1) (nI_add i 1) (by omega) hL dL_law_566 ?_
  refine kx_aload hC dL_law_567 rfl rfl ?_
  refine kx_iload hC dL_law_568 rfl rfl ?_
  refine kx_iconst (v := nI 2) hC dL_law_569 rfl ?_
  refine kx_iadd hC dL_law_570 ?_
  refine kx_sld hC hX (i + 2) (nI_add i 2) (by omega) hL dL_law_571 ?_
  refine kx_aload hC dL_law_572 rfl rfl ?_
  refine kx_iload hC dL_law_573 rfl rfl ?_
  refine kx_iconst (v := nI 3) hC dL_law_574 rfl ?_
  refine kx_iadd hC dL_law_575 ?_
  refine kx_sld hC hX (i + 3) (nI_add i 3) (by omega) hL dL_law_576 ?_
  refine kx_ws (show _ = ([] ++ (wd_cells cS ad1 V.2.2 σ ++ wd_cells rS ad2 V.2.2 τ) : va_W) from rfl) ?_
  refine kx_callV hC cwL_76 [.int (xs (i + 1)), .int (xs (i + 2)), .int (xs (i + 3))] (sd := cS) (ad := ad1) (q := 0) (by decide) rfl rfl (fun _ => c1) (by show d1 + 1 ≤ 2048; omega) (by show _ ≤ 84000; omega) ⟨by decide, by decide⟩ rfl rfl (Nat.le_of_ble_eq_true rfl) dL_law_577 (fun v1 σ1 p1 => ?_)
  refine kx_aload hC dL_law_580 rfl rfl ?_
  refine kx_aload hC dL_law_581 rfl rfl ?_
  refine kx_iload hC dL_law_582 rfl rfl ?_
  refine kx_iconst (v := nI 1) hC dL_law_583 rfl ?_
  refine kx_iadd hC dL_law_584 ?_
  refine kx_sld hC hX (i + 1) (nI_add i 1) (by omega) hL dL_law_585 ?_
  refine kx_aload hC dL_law_586 rfl rfl ?_
  refine kx_iload hC dL_law_587 rfl rfl ?_
  refine kx_iconst (v := nI 2) hC dL_law_588 rfl ?_
  refine kx_iadd hC dL_law_589 ?_
  refine kx_sld hC hX (i + 2) (nI_add i 2) (by omega) hL dL_law_590 ?_
  refine kx_aload hC dL_law_591 rfl rfl ?_
  refine kx_iload hC dL_law_592 rfl rfl ?_
  refine kx_iconst (v := nI 3) hC dL_law_593 rfl ?_
  refine kx_iadd hC dL_law_594 ?_
  refine kx_sld hC hX (i + 3) (nI_add i 3) (by omega) hL dL_law_595 ?_
  refine kx_ws (show _ = (wd_cells cS ad1 V.2.2 σ1 ++ (wd_cells rS ad2 V.2.2 τ ++ []) : va_W) from by rw [List.append_nil, List.nil_append]) ?_
  refine kx_callV hC cwL_80 [.int (xs (i + 1)), .int (xs (i + 2)), .int (xs (i + 3))] (sd := rS) (ad := ad2) (q := 0) (st := v1.toList ++ []) (by decide) rfl rfl (fun _ => c2) (by show d2 + 1 ≤ 2048; omega) (by show _ ≤ 84000; omega) ⟨by decide, by decide⟩ rfl rfl (by rw [List.append_nil]; exact cat_2 v1) dL_law_596 (fun v2 τ1 p2 => ?_)
  refine kx_ws (show _ = (wd_cells cS ad1 V.2.2 σ1 ++ wd_cells rS ad2 V.2.2 τ1 : va_W) from by rw [List.append_nil]) ?_
  obtain ⟨⟨r, e1, e2⟩, nm1, nc1, hI1⟩ := hfin v1 v2 σ1 τ1 p1 p2
  subst e1 e2
  exact kx_eq (tgt := 1033) hC dL_law_599 (by decide) (fun _ => kk σ1 τ1 nm1 nc1 hI1) (fun z => absurd rfl z)
theorem cwL_81 : wd_wV RL 81 RX4 yX4_rest cX4_rest 8 (some .int) 2 := ⟨(wL_20 _ (List.mem_of_getElem? (i := 14) rfl)), (wL_20 _ (List.mem_of_getElem? (i := 15) rfl)), (wL_20 _ (List.mem_of_getElem? (i := 16) rfl)), (wL_1 _ (List.mem_of_getElem? (i := 2) rfl)), (wL_20 _ (List.mem_of_getElem? (i := 17) rfl)), by decide +kernel⟩
theorem cwL_84 : wd_wV RL 84 RX5 yX5_rest cX5_rest 8 (some .int) 2 := ⟨(wL_20 _ (List.mem_of_getElem? (i := 22) rfl)), (wL_20 _ (List.mem_of_getElem? (i := 23) rfl)), (wL_21 _ (List.mem_of_getElem? (i := 0) rfl)), (wL_1 _ (List.mem_of_getElem? (i := 5) rfl)), (wL_21 _ (List.mem_of_getElem? (i := 1) rfl)), by decide +kernel⟩
set_option maxRecDepth 100000 in
set_option maxHeartbeats 4000000 in
theorem law_rest {V : wd_V} {K : wd_K} {A : Nat → Prop} {Q : State → Prop} {b L i : Nat} {xs : Nat → Int32} {ad1 ad2 : Nat → Nat} (hi1 : wd_inj cS ad1) (hi2 : wd_inj rS ad2) (hC : kx_Ok V K A RL cL_law 4 room_1) (hX : kx_X K A b L xs) (hL : L ≤ 384) (hi : i + 6 ≤ L) {σ τ : wd_S} {nm nc : Nat} (hI : Inv σ τ nm nc) (kk : ∀ σ1 τ1 nm nc, Inv σ1 τ1 nm nc → kx_G V K A 4 Q 600000 7302250 1033 [some (.ref b), some (.ref (ad1 0)), some (.ref (ad2 0)), some (.int (nI i))] [] (wd_cells cS ad1 V.2.2 σ1 ++ wd_cells rS ad2 V.2.2 τ1)) : kx_G V K A 4 Q 600000 7302250 604 [some (.ref b), some (.ref (ad1 0)), some (.ref (ad2 0)), some (.int (nI i))] [] (wd_cells cS ad1 V.2.2 σ ++ wd_cells rS ad2 V.2.2 τ) := by
  obtain ⟨d1, d2, P1, P2, hd1, hd2, c1, c2, hfin⟩ := e_rest (V := V) hi1 hi2 hI (xs (i + 1)) (xs (i + 2))
  refine kx_aload hC dL_law_604 rfl rfl ?_
  refine kx_aload hC dL_law_605 rfl rfl ?_
  refine kx_iload hC dL_law_606 rfl rfl ?_
  refine kx_iconst (v := nI 1) hC dL_law_607 rfl ?_
  refine kx_iadd hC dL_law_608 ?_
  refine kx_sld hC hX (i + 1) (nI_add i 1) (by omega) hL dL_law_609 ?_
  refine kx_aload hC dL_law_610 rfl rfl ?_
  refine kx_iload hC dL_law_611 rfl rfl ?_
  refine kx_iconst (v := nI 2) hC dL_law_612 rfl ?_
  refine kx_iadd hC dL_law_613 ?_
  refine kx_sld hC hX (i + 2) (nI_add i 2) (by omega) hL dL_law_614 ?_
  refine kx_ws (show _ = ([] ++ (wd_cells cS ad1 V.2.2 σ ++ wd_cells rS ad2 V.2.2 τ) : va_W) from rfl) ?_
  refine kx_callV hC cwL_81 [.int (xs (i + 1)), .int (xs (i + 2))] (sd := cS) (ad := ad1) (q := 0) (by decide) rfl rfl (fun _ => c1) (by show d1 + 1 ≤ 2048; omega) (by show _ ≤ 84000; omega) ⟨by decide, by decide⟩ rfl rfl (Nat.le_of_ble_eq_true rfl) dL_law_615 (fun v1 σ1 p1 => ?_)
  refine kx_aload hC dL_law_618 rfl rfl ?_
  refine kx_aload hC dL_law_619 rfl rfl ?_
  refine kx_iload hC dL_law_620 rfl rfl ?_
  refine kx_iconst (v := nI 1) hC dL_law_621 rfl ?_
  refine kx_iadd hC dL_law_622 ?_
  refine kx_sld hC hX (i + 1) (nI_add i 1) (by omega) hL dL_law_623 ?_
  refine kx_aload hC dL_law_624 rfl rfl ?_
  refine kx_iload hC dL_law_625 rfl rfl ?_
  refine kx_iconst (v := nI 2) hC dL_law_626 rfl ?_
  refine kx_iadd hC dL_law_627 ?_
  refine kx_sld hC hX (i + 2) (nI_add i 2) (by omega) hL dL_law_628 ?_
  refine kx_ws (show _ = (wd_cells cS ad1 V.2.2 σ1 ++ (wd_cells rS ad2 V.2.2 τ ++ []) : va_W) from by rw [List.append_nil, List.nil_append]) ?_
  refine kx_callV hC cwL_84 [.int (xs (i + 1)), .int (xs (i + 2))] (sd := rS) (ad := ad2) (q := 0) (st := v1.toList ++ []) (by decide) rfl rfl (fun _ => c2) (by show d2 + 1 ≤ 2048; omega) (by show _ ≤ 84000; omega) ⟨by decide, by decide⟩ rfl rfl (by rw [List.append_nil]; exact cat_2 v1) dL_law_629 (fun v2 τ1 p2 => ?_)
  refine kx_ws (show _ = (wd_cells cS ad1 V.2.2 σ1 ++ wd_cells rS ad2 V.2.2 τ1 : va_W) from by rw [List.append_nil]) ?_
  obtain ⟨⟨r, e1, e2⟩, nm1, nc1, hI1⟩ := hfin v1 v2 σ1 τ1 p1 p2
  subst e1 e2
  exact kx_eq (tgt := 1033) hC dL_law_632 (by decide) (fun _ => kk σ1 τ1 nm1 nc1 hI1) (fun z => absurd rfl z)
theorem cwL_85 : wd_wV RL 85 RX4 yX4_hungry cX4_hungry 2 (some .int) 1 := ⟨(wL_21 _ (List.mem_of_getElem? (i := 10) rfl)), (wL_21 _ (List.mem_of_getElem? (i := 11) rfl)), (wL_21 _ (List.mem_of_getElem? (i := 12) rfl)), (wL_1 _ (List.mem_of_getElem? (i := 2) rfl)), (wL_21 _ (List.mem_of_getElem? (i := 13) rfl)), by decide +kernel⟩
theorem cwL_88 : wd_wV RL 88 RX5 yX5_hungry cX5_hungry 2 (some .int) 1 := ⟨(wL_21 _ (List.mem_of_getElem? (i := 14) rfl)), (wL_21 _ (List.mem_of_getElem? (i := 15) rfl)), (wL_21 _ (List.mem_of_getElem? (i := 16) rfl)), (wL_1 _ (List.mem_of_getElem? (i := 5) rfl)), (wL_21 _ (List.mem_of_getElem? (i := 17) rfl)), by decide +kernel⟩
set_option maxRecDepth 100000 in
set_option maxHeartbeats 4000000 in
theorem law_hungry {V : wd_V} {K : wd_K} {A : Nat → Prop} {Q : State → Prop} {b L i : Nat} {xs : Nat → Int32} {ad1 ad2 : Nat → Nat} (hi1 : wd_inj cS ad1) (hi2 : wd_inj rS ad2) (hC : kx_Ok V K A RL cL_law 4 room_1) (hX : kx_X K A b L xs) (hL : L ≤ 384) (hi : i + 6 ≤ L) {σ τ : wd_S} {nm nc : Nat} (hI : Inv σ τ nm nc) (kk : ∀ σ1 τ1 nm nc, Inv σ1 τ1 nm nc → kx_G V K A 4 Q 600000 7302250 1033 [some (.ref b), some (.ref (ad1 0)), some (.ref (ad2 0)), some (.int (nI i))] [] (wd_cells cS ad1 V.2.2 σ1 ++ wd_cells rS ad2 V.2.2 τ1)) : kx_G V K A 4 Q 600000 7302250 637 [some (.ref b), some (.ref (ad1 0)), some (.ref (ad2 0)), some (.int (nI i))] [] (wd_cells cS ad1 V.2.2 σ ++ wd_cells rS ad2 V.2.2 τ) := by
  obtain ⟨d1, d2, P1, P2, hd1, hd2, c1, c2, hfin⟩ := e_hungry (V := V) hi1 hi2 hI (xs (i + 1))
  refine kx_aload hC dL_law_637 rfl rfl ?_
  refine kx_aload hC dL_law_638 rfl rfl ?_
  refine kx_iload hC dL_law_639 rfl rfl ?_
  refine kx_iconst (v := nI 1) hC dL_law_640 rfl ?_
  refine kx_iadd hC dL_law_641 ?_
  refine kx_sld hC hX (i + 1) (nI_add i 1) (by omega) hL dL_law_642 ?_
  refine kx_ws (show _ = ([] ++ (wd_cells cS ad1 V.2.2 σ ++ wd_cells rS ad2 V.2.2 τ) : va_W) from rfl) ?_
  refine kx_callV hC cwL_85 [.int (xs (i + 1))] (sd := cS) (ad := ad1) (q := 0) (by decide) rfl rfl (fun _ => c1) (by show d1 + 1 ≤ 2048; omega) (by show _ ≤ 84000; omega) ⟨by decide, by decide⟩ rfl rfl (Nat.le_of_ble_eq_true rfl) dL_law_643 (fun v1 σ1 p1 => ?_)
  refine kx_aload hC dL_law_646 rfl rfl ?_
  refine kx_aload hC dL_law_647 rfl rfl ?_
  refine kx_iload hC dL_law_648 rfl rfl ?_
  refine kx_iconst (v := nI 1) hC dL_law_649 rfl ?_
  refine kx_iadd hC dL_law_650 ?_
  refine kx_sld hC hX (i + 1) (nI_add i 1) (by omega) hL dL_law_651 ?_
  refine kx_ws (show _ = (wd_cells cS ad1 V.2.2 σ1 ++ (wd_cells rS ad2 V.2.2 τ ++ []) : va_W) from by rw [List.append_nil, List.nil_append]) ?_
  refine kx_callV hC cwL_88 [.int (xs (i + 1))] (sd := rS) (ad := ad2) (q := 0) (st := v1.toList ++ []) (by decide) rfl rfl (fun _ => c2) (by show d2 + 1 ≤ 2048; omega) (by show _ ≤ 84000; omega) ⟨by decide, by decide⟩ rfl rfl (by rw [List.append_nil]; exact cat_2 v1) dL_law_652 (fun v2 τ1 p2 => ?_)
  refine kx_ws (show _ = (wd_cells cS ad1 V.2.2 σ1 ++ wd_cells rS ad2 V.2.2 τ1 : va_W) from by rw [List.append_nil]) ?_
  obtain ⟨⟨r, e1, e2⟩, nm1, nc1, hI1⟩ := hfin v1 v2 σ1 τ1 p1 p2
  subst e1 e2
  exact kx_eq (tgt := 1033) hC dL_law_655 (by decide) (fun _ => kk σ1 τ1 nm1 nc1 hI1) (fun z => absurd rfl z)
theorem cwL_89 : wd_wV RL 89 RX4 yX4_faces cX4_faces 3 (some .int) 1 := ⟨(wL_21 _ (List.mem_of_getElem? (i := 18) rfl)), (wL_21 _ (List.mem_of_getElem? (i := 19) rfl)), (wL_21 _ (List.mem_of_getElem? (i := 20) rfl)), (wL_1 _ (List.mem_of_getElem? (i := 2) rfl)), (wL_21 _ (List.mem_of_getElem? (i := 21) rfl)), by decide +kernel⟩
theorem cwL_92 : wd_wV RL 92 RX5 yX5_faces cX5_faces 6 (some .int) 1 := ⟨(wL_22 _ (List.mem_of_getElem? (i := 13) rfl)), (wL_22 _ (List.mem_of_getElem? (i := 14) rfl)), (wL_22 _ (List.mem_of_getElem? (i := 15) rfl)), (wL_1 _ (List.mem_of_getElem? (i := 5) rfl)), (wL_22 _ (List.mem_of_getElem? (i := 16) rfl)), by decide +kernel⟩
set_option maxRecDepth 100000 in
set_option maxHeartbeats 4000000 in
theorem law_faces {V : wd_V} {K : wd_K} {A : Nat → Prop} {Q : State → Prop} {b L i : Nat} {xs : Nat → Int32} {ad1 ad2 : Nat → Nat} (hi1 : wd_inj cS ad1) (hi2 : wd_inj rS ad2) (hC : kx_Ok V K A RL cL_law 4 room_1) (hX : kx_X K A b L xs) (hL : L ≤ 384) (hi : i + 6 ≤ L) {σ τ : wd_S} {nm nc : Nat} (hI : Inv σ τ nm nc) (kk : ∀ σ1 τ1 nm nc, Inv σ1 τ1 nm nc → kx_G V K A 4 Q 600000 7302250 1033 [some (.ref b), some (.ref (ad1 0)), some (.ref (ad2 0)), some (.int (nI i))] [] (wd_cells cS ad1 V.2.2 σ1 ++ wd_cells rS ad2 V.2.2 τ1)) : kx_G V K A 4 Q 600000 7302250 660 [some (.ref b), some (.ref (ad1 0)), some (.ref (ad2 0)), some (.int (nI i))] [] (wd_cells cS ad1 V.2.2 σ ++ wd_cells rS ad2 V.2.2 τ) := by
  obtain ⟨d1, d2, P1, P2, hd1, hd2, c1, c2, hfin⟩ := e_faces (V := V) hi1 hi2 hI (xs (i + 1))
  refine kx_aload hC dL_law_660 rfl rfl ?_
  refine kx_aload hC dL_law_661 rfl rfl ?_
  refine kx_iload hC dL_law_662 rfl rfl ?_
  refine kx_iconst (v := nI 1) hC dL_law_663 rfl ?_
  refine kx_iadd hC dL_law_664 ?_
  refine kx_sld hC hX (i + 1) (nI_add i 1) (by omega) hL dL_law_665 ?_
  refine kx_ws (show _ = ([] ++ (wd_cells cS ad1 V.2.2 σ ++ wd_cells rS ad2 V.2.2 τ) : va_W) from rfl) ?_
  refine kx_callV hC cwL_89 [.int (xs (i + 1))] (sd := cS) (ad := ad1) (q := 0) (by decide) rfl rfl (fun _ => c1) (by show d1 + 1 ≤ 2048; omega) (by show _ ≤ 84000; omega) ⟨by decide, by decide⟩ rfl rfl (Nat.le_of_ble_eq_true rfl) dL_law_666 (fun v1 σ1 p1 => ?_)
  refine kx_aload hC dL_law_669 rfl rfl ?_
  refine kx_aload hC dL_law_670 rfl rfl ?_
  refine kx_iload hC dL_law_671 rfl rfl ?_
  refine kx_iconst (v := nI 1) hC dL_law_672 rfl ?_
  refine kx_iadd hC dL_law_673 ?_
  refine kx_sld hC hX (i + 1) (nI_add i 1) (by omega) hL dL_law_674 ?_
  refine kx_ws (show _ = (wd_cells cS ad1 V.2.2 σ1 ++ (wd_cells rS ad2 V.2.2 τ ++ []) : va_W) from by rw [List.append_nil, List.nil_append]) ?_
  refine kx_callV hC cwL_92 [.int (xs (i + 1))] (sd := rS) (ad := ad2) (q := 0) (st := v1.toList ++ []) (by decide) rfl rfl (fun _ => c2) (by show d2 + 1 ≤ 2048; omega) (by show _ ≤ 84000; omega) ⟨by decide, by decide⟩ rfl rfl (by rw [List.append_nil]; exact cat_2 v1) dL_law_675 (fun v2 τ1 p2 => ?_)
  refine kx_ws (show _ = (wd_cells cS ad1 V.2.2 σ1 ++ wd_cells rS ad2 V.2.2 τ1 : va_W) from by rw [List.append_nil]) ?_
  obtain ⟨⟨r, e1, e2⟩, nm1, nc1, hI1⟩ := hfin v1 v2 σ1 τ1 p1 p2
  subst e1 e2
  exact kx_eq (tgt := 1033) hC dL_law_678 (by decide) (fun _ => kk σ1 τ1 nm1 nc1 hI1) (fun z => absurd rfl z)
theorem cwL_93 : wd_wV RL 93 RX4 yX4_needed cX4_needed 3 (some .int) 1 := ⟨(wL_23 _ (List.mem_of_getElem? (i := 2) rfl)), (wL_23 _ (List.mem_of_getElem? (i := 3) rfl)), (wL_23 _ (List.mem_of_getElem? (i := 4) rfl)), (wL_1 _ (List.mem_of_getElem? (i := 2) rfl)), (wL_23 _ (List.mem_of_getElem? (i := 5) rfl)), by decide +kernel⟩
theorem cwL_96 : wd_wV RL 96 RX5 yX5_needed cX5_needed 7 (some .int) 1 := ⟨(wL_23 _ (List.mem_of_getElem? (i := 18) rfl)), (wL_23 _ (List.mem_of_getElem? (i := 19) rfl)), (wL_23 _ (List.mem_of_getElem? (i := 20) rfl)), (wL_1 _ (List.mem_of_getElem? (i := 5) rfl)), (wL_23 _ (List.mem_of_getElem? (i := 21) rfl)), by decide +kernel⟩
set_option maxRecDepth 100000 in
set_option maxHeartbeats 4000000 in
theorem law_needed {V : wd_V} {K : wd_K} {A : Nat → Prop} {Q : State → Prop} {b L i : Nat} {xs : Nat → Int32} {ad1 ad2 : Nat → Nat} (hi1 : wd_inj cS ad1) (hi2 : wd_inj rS ad2) (hC : kx_Ok V K A RL cL_law 4 room_1) (hX : kx_X K A b L xs) (hL : L ≤ 384) (hi : i + 6 ≤ L) {σ τ : wd_S} {nm nc : Nat} (hI : Inv σ τ nm nc) (kk : ∀ σ1 τ1 nm nc, Inv σ1 τ1 nm nc → kx_G V K A 4 Q 600000 7302250 1033 [some (.ref b), some (.ref (ad1 0)), some (.ref (ad2 0)), some (.int (nI i))] [] (wd_cells cS ad1 V.2.2 σ1 ++ wd_cells rS ad2 V.2.2 τ1)) : kx_G V K A 4 Q 600000 7302250 683 [some (.ref b), some (.ref (ad1 0)), some (.ref (ad2 0)), some (.int (nI i))] [] (wd_cells cS ad1 V.2.2 σ ++ wd_cells rS ad2 V.2.2 τ) := by
  obtain ⟨d1, d2, P1, P2, hd1, hd2, c1, c2, hfin⟩ := e_needed (V := V) hi1 hi2 hI (xs (i + 1))
  refine kx_aload hC dL_law_683 rfl rfl ?_
  refine kx_aload hC dL_law_684 rfl rfl ?_
  refine kx_iload hC dL_law_685 rfl rfl ?_
  refine kx_iconst (v := nI 1) hC dL_law_686 rfl ?_
  refine kx_iadd hC dL_law_687 ?_
  refine kx_sld hC hX (i + 1) (nI_add i 1) (by omega) hL dL_law_688 ?_
  refine kx_ws (show _ = ([] ++ (wd_cells cS ad1 V.2.2 σ ++ wd_cells rS ad2 V.2.2 τ) : va_W) from rfl) ?_
  refine kx_callV hC cwL_93 [.int (xs (i + 1))] (sd := cS) (ad := ad1) (q := 0) (by decide) rfl rfl (fun _ => c1) (by show d1 + 1 ≤ 2048; omega) (by show _ ≤ 84000; omega) ⟨by decide, by decide⟩ rfl rfl (Nat.le_of_ble_eq_true rfl) dL_law_689 (fun v1 σ1 p1 => ?_)
  refine kx_aload hC dL_law_692 rfl rfl ?_
  refine kx_aload hC dL_law_693 rfl rfl ?_
  refine kx_iload hC dL_law_694 rfl rfl ?_
  refine kx_iconst (v := nI 1) hC dL_law_695 rfl ?_
  refine kx_iadd hC dL_law_696 ?_
  refine kx_sld hC hX (i + 1) (nI_add i 1) (by omega) hL dL_law_697 ?_
  refine kx_ws (show _ = (wd_cells cS ad1 V.2.2 σ1 ++ (wd_cells rS ad2 V.2.2 τ ++ []) : va_W) from by rw [List.append_nil, List.nil_append]) ?_
  refine kx_callV hC cwL_96 [.int (xs (i + 1))] (sd := rS) (ad := ad2) (q := 0) (st := v1.toList ++ []) (by decide) rfl rfl (fun _ => c2) (by show d2 + 1 ≤ 2048; omega) (by show _ ≤ 84000; omega) ⟨by decide, by decide⟩ rfl rfl (by rw [List.append_nil]; exact cat_2 v1) dL_law_698 (fun v2 τ1 p2 => ?_)
  refine kx_ws (show _ = (wd_cells cS ad1 V.2.2 σ1 ++ wd_cells rS ad2 V.2.2 τ1 : va_W) from by rw [List.append_nil]) ?_
  obtain ⟨⟨r, e1, e2⟩, nm1, nc1, hI1⟩ := hfin v1 v2 σ1 τ1 p1 p2
  subst e1 e2
  exact kx_eq (tgt := 1033) hC dL_law_701 (by decide) (fun _ => kk σ1 τ1 nm1 nc1 hI1) (fun z => absurd rfl z)
theorem cwL_97 : wd_wV RL 97 RX4 yX4_stubble cX4_stubble 3 (some .int) 2 := ⟨(wL_23 _ (List.mem_of_getElem? (i := 22) rfl)), (wL_23 _ (List.mem_of_getElem? (i := 23) rfl)), (wL_24 _ (List.mem_of_getElem? (i := 0) rfl)), (wL_1 _ (List.mem_of_getElem? (i := 2) rfl)), (wL_24 _ (List.mem_of_getElem? (i := 1) rfl)), by decide +kernel⟩
theorem cwL_100 : wd_wV RL 100 RX5 yX5_stubble cX5_stubble 3 (some .int) 2 := ⟨(wL_24 _ (List.mem_of_getElem? (i := 2) rfl)), (wL_24 _ (List.mem_of_getElem? (i := 3) rfl)), (wL_24 _ (List.mem_of_getElem? (i := 4) rfl)), (wL_1 _ (List.mem_of_getElem? (i := 5) rfl)), (wL_24 _ (List.mem_of_getElem? (i := 5) rfl)), by decide +kernel⟩
set_option maxRecDepth 100000 in
set_option maxHeartbeats 4000000 in
theorem law_stubble {V : wd_V} {K : wd_K} {A : Nat → Prop} {Q : State → Prop} {b L i : Nat} {xs : Nat → Int32} {ad1 ad2 : Nat → Nat} (hi1 : wd_inj cS ad1) (hi2 : wd_inj rS ad2) (hC : kx_Ok V K A RL cL_law 4 room_1) (hX : kx_X K A b L xs) (hL : L ≤ 384) (hi : i + 6 ≤ L) {σ τ : wd_S} {nm nc : Nat} (hI : Inv σ τ nm nc) (kk : ∀ σ1 τ1 nm nc, Inv σ1 τ1 nm nc → kx_G V K A 4 Q 600000 7302250 1033 [some (.ref b), some (.ref (ad1 0)), some (.ref (ad2 0)), some (.int (nI i))] [] (wd_cells cS ad1 V.2.2 σ1 ++ wd_cells rS ad2 V.2.2 τ1)) : kx_G V K A 4 Q 600000 7302250 706 [some (.ref b), some (.ref (ad1 0)), some (.ref (ad2 0)), some (.int (nI i))] [] (wd_cells cS ad1 V.2.2 σ ++ wd_cells rS ad2 V.2.2 τ) := by
  obtain ⟨d1, d2, P1, P2, hd1, hd2, c1, c2, hfin⟩ := e_stubble (V := V) hi1 hi2 hI (xs (i + 1)) (xs (i + 2))
  refine kx_aload hC dL_law_706 rfl rfl ?_
  refine kx_aload hC dL_law_707 rfl rfl ?_
  refine kx_iload hC dL_law_708 rfl rfl ?_
  refine kx_iconst (v := nI 1) hC dL_law_709 rfl ?_
  refine kx_iadd hC dL_law_710 ?_
  refine kx_sld hC hX (i + 1) (nI_add i 1) (by omega) hL dL_law_711 ?_
  refine kx_aload hC dL_law_712 rfl rfl ?_
  refine kx_iload hC dL_law_713 rfl rfl ?_
  refine kx_iconst (v := nI 2) hC dL_law_714 rfl ?_
  refine kx_iadd hC dL_law_715 ?_
  refine kx_sld hC hX (i + 2) (nI_add i 2) (by omega) hL dL_law_716 ?_
  refine kx_ws (show _ = ([] ++ (wd_cells cS ad1 V.2.2 σ ++ wd_cells rS ad2 V.2.2 τ) : va_W) from rfl) ?_
  refine kx_callV hC cwL_97 [.int (xs (i + 1)), .int (xs (i + 2))] (sd := cS) (ad := ad1) (q := 0) (by decide) rfl rfl (fun _ => c1) (by show d1 + 1 ≤ 2048; omega) (by show _ ≤ 84000; omega) ⟨by decide, by decide⟩ rfl rfl (Nat.le_of_ble_eq_true rfl) dL_law_717 (fun v1 σ1 p1 => ?_)
  refine kx_aload hC dL_law_720 rfl rfl ?_
  refine kx_aload hC dL_law_721 rfl rfl ?_
  refine kx_iload hC dL_law_722 rfl rfl ?_
  refine kx_iconst (v := nI 1) hC dL_law_723 rfl ?_
  refine kx_iadd hC dL_law_724 ?_
  refine kx_sld hC hX (i + 1) (nI_add i 1) (by omega) hL dL_law_725 ?_
  refine kx_aload hC dL_law_726 rfl rfl ?_
  refine kx_iload hC dL_law_727 rfl rfl ?_
  refine kx_iconst (v := nI 2) hC dL_law_728 rfl ?_
  refine kx_iadd hC dL_law_729 ?_
  refine kx_sld hC hX (i + 2) (nI_add i 2) (by omega) hL dL_law_730 ?_
  refine kx_ws (show _ = (wd_cells cS ad1 V.2.2 σ1 ++ (wd_cells rS ad2 V.2.2 τ ++ []) : va_W) from by rw [List.append_nil, List.nil_append]) ?_
  refine kx_callV hC cwL_100 [.int (xs (i + 1)), .int (xs (i + 2))] (sd := rS) (ad := ad2) (q := 0) (st := v1.toList ++ []) (by decide) rfl rfl (fun _ => c2) (by show d2 + 1 ≤ 2048; omega) (by show _ ≤ 84000; omega) ⟨by decide, by decide⟩ rfl rfl (by rw [List.append_nil]; exact cat_2 v1) dL_law_731 (fun v2 τ1 p2 => ?_)
  refine kx_ws (show _ = (wd_cells cS ad1 V.2.2 σ1 ++ wd_cells rS ad2 V.2.2 τ1 : va_W) from by rw [List.append_nil]) ?_
  obtain ⟨⟨r, e1, e2⟩, nm1, nc1, hI1⟩ := hfin v1 v2 σ1 τ1 p1 p2
  subst e1 e2
  exact kx_eq (tgt := 1033) hC dL_law_734 (by decide) (fun _ => kk σ1 τ1 nm1 nc1 hI1) (fun z => absurd rfl z)
theorem cwL_101 : wd_wV RL 101 RX4 yX4_forget cX4_forget 2 (some .int) 0 := ⟨(wL_24 _ (List.mem_of_getElem? (i := 6) rfl)), (wL_24 _ (List.mem_of_getElem? (i := 7) rfl)), (wL_24 _ (List.mem_of_getElem? (i := 8) rfl)), (wL_1 _ (List.mem_of_getElem? (i := 2) rfl)), (wL_24 _ (List.mem_of_getElem? (i := 9) rfl)), by decide +kernel⟩
theorem cwL_104 : wd_wV RL 104 RX5 yX5_forget cX5_forget 2 (some .int) 0 := ⟨(wL_24 _ (List.mem_of_getElem? (i := 10) rfl)), (wL_24 _ (List.mem_of_getElem? (i := 11) rfl)), (wL_24 _ (List.mem_of_getElem? (i := 12) rfl)), (wL_1 _ (List.mem_of_getElem? (i := 5) rfl)), (wL_24 _ (List.mem_of_getElem? (i := 13) rfl)), by decide +kernel⟩
set_option maxRecDepth 100000 in
set_option maxHeartbeats 4000000 in
theorem law_forget {V : wd_V} {K : wd_K} {A : Nat → Prop} {Q : State → Prop} {b L i : Nat} {xs : Nat → Int32} {ad1 ad2 : Nat → Nat} (hi1 : wd_inj cS ad1) (hi2 : wd_inj rS ad2) (hC : kx_Ok V K A RL cL_law 4 room_1) (hX : kx_X K A b L xs) (hL : L ≤ 384) (hi : i + 6 ≤ L) {σ τ : wd_S} {nm nc : Nat} (hI : Inv σ τ nm nc) (kk : ∀ σ1 τ1 nm nc, Inv σ1 τ1 nm nc → kx_G V K A 4 Q 600000 7302250 1033 [some (.ref b), some (.ref (ad1 0)), some (.ref (ad2 0)), some (.int (nI i))] [] (wd_cells cS ad1 V.2.2 σ1 ++ wd_cells rS ad2 V.2.2 τ1)) : kx_G V K A 4 Q 600000 7302250 739 [some (.ref b), some (.ref (ad1 0)), some (.ref (ad2 0)), some (.int (nI i))] [] (wd_cells cS ad1 V.2.2 σ ++ wd_cells rS ad2 V.2.2 τ) := by
  obtain ⟨d1, d2, P1, P2, hd1, hd2, c1, c2, hfin⟩ := e_forget (V := V) hi1 hi2 hI 
  refine kx_aload hC dL_law_739 rfl rfl ?_
  refine kx_ws (show _ = ([] ++ (wd_cells cS ad1 V.2.2 σ ++ wd_cells rS ad2 V.2.2 τ) : va_W) from rfl) ?_
  refine kx_callV hC cwL_101 [] (sd := cS) (ad := ad1) (q := 0) (by decide) rfl rfl (fun _ => c1) (by show d1 + 1 ≤ 2048; omega) (by show _ ≤ 84000; omega) ⟨by decide, by decide⟩ rfl rfl (Nat.le_of_ble_eq_true rfl) dL_law_740 (fun v1 σ1 p1 => ?_)
  refine kx_aload hC dL_law_743 rfl rfl ?_
  refine kx_ws (show _ = (wd_cells cS ad1 V.2.2 σ1 ++ (wd_cells rS ad2 V.2.2 τ ++ []) : va_W) from by rw [List.append_nil, List.nil_append]) ?_
  refine kx_callV hC cwL_104 [] (sd := rS) (ad := ad2) (q := 0) (st := v1.toList ++ []) (by decide) rfl rfl (fun _ => c2) (by show d2 + 1 ≤ 2048; omega) (by show _ ≤ 84000; omega) ⟨by decide, by decide⟩ rfl rfl (by rw [List.append_nil]; exact cat_2 v1) dL_law_744 (fun v2 τ1 p2 => ?_)
  refine kx_ws (show _ = (wd_cells cS ad1 V.2.2 σ1 ++ wd_cells rS ad2 V.2.2 τ1 : va_W) from by rw [List.append_nil]) ?_
  obtain ⟨⟨r, e1, e2⟩, nm1, nc1, hI1⟩ := hfin v1 v2 σ1 τ1 p1 p2
  subst e1 e2
  exact kx_eq (tgt := 1033) hC dL_law_747 (by decide) (fun _ => kk σ1 τ1 nm1 nc1 hI1) (fun z => absurd rfl z)
theorem cwL_105 : wd_wV RL 105 RX4 yX4_cut cX4_cut 4 (some .int) 1 := ⟨(wL_24 _ (List.mem_of_getElem? (i := 14) rfl)), (wL_24 _ (List.mem_of_getElem? (i := 15) rfl)), (wL_24 _ (List.mem_of_getElem? (i := 16) rfl)), (wL_1 _ (List.mem_of_getElem? (i := 2) rfl)), (wL_24 _ (List.mem_of_getElem? (i := 17) rfl)), by decide +kernel⟩
theorem cwL_108 : wd_wV RL 108 RX5 yX5_cut cX5_cut 7 (some .int) 1 := ⟨(wL_24 _ (List.mem_of_getElem? (i := 22) rfl)), (wL_24 _ (List.mem_of_getElem? (i := 23) rfl)), (wL_25 _ (List.mem_of_getElem? (i := 0) rfl)), (wL_1 _ (List.mem_of_getElem? (i := 5) rfl)), (wL_25 _ (List.mem_of_getElem? (i := 1) rfl)), by decide +kernel⟩
set_option maxRecDepth 100000 in
set_option maxHeartbeats 4000000 in
theorem law_cut {V : wd_V} {K : wd_K} {A : Nat → Prop} {Q : State → Prop} {b L i : Nat} {xs : Nat → Int32} {ad1 ad2 : Nat → Nat} (hi1 : wd_inj cS ad1) (hi2 : wd_inj rS ad2) (hC : kx_Ok V K A RL cL_law 4 room_1) (hX : kx_X K A b L xs) (hL : L ≤ 384) (hi : i + 6 ≤ L) {σ τ : wd_S} {nm nc : Nat} (hI : Inv σ τ nm nc) (kk : ∀ σ1 τ1 nm nc, Inv σ1 τ1 nm nc → kx_G V K A 4 Q 600000 7302250 1033 [some (.ref b), some (.ref (ad1 0)), some (.ref (ad2 0)), some (.int (nI i))] [] (wd_cells cS ad1 V.2.2 σ1 ++ wd_cells rS ad2 V.2.2 τ1)) : kx_G V K A 4 Q 600000 7302250 752 [some (.ref b), some (.ref (ad1 0)), some (.ref (ad2 0)), some (.int (nI i))] [] (wd_cells cS ad1 V.2.2 σ ++ wd_cells rS ad2 V.2.2 τ) := by
  obtain ⟨d1, d2, P1, P2, hd1, hd2, c1, c2, hfin⟩ := e_cut (V := V) hi1 hi2 hI (xs (i + 1))
  refine kx_aload hC dL_law_752 rfl rfl ?_
  refine kx_aload hC dL_law_753 rfl rfl ?_
  refine kx_iload hC dL_law_754 rfl rfl ?_
  refine kx_iconst (v := nI 1) hC dL_law_755 rfl ?_
  refine kx_iadd hC dL_law_756 ?_
  refine kx_sld hC hX (i + 1) (nI_add i 1) (by omega) hL dL_law_757 ?_
  refine kx_ws (show _ = ([] ++ (wd_cells cS ad1 V.2.2 σ ++ wd_cells rS ad2 V.2.2 τ) : va_W) from rfl) ?_
  refine kx_callV hC cwL_105 [.int (xs (i + 1))] (sd := cS) (ad := ad1) (q := 0) (by decide) rfl rfl (fun _ => c1) (by show d1 + 1 ≤ 2048; omega) (by show _ ≤ 84000; omega) ⟨by decide, by decide⟩ rfl rfl (Nat.le_of_ble_eq_true rfl) dL_law_758 (fun v1 σ1 p1 => ?_)
  refine kx_aload hC dL_law_761 rfl rfl ?_
  refine kx_aload hC dL_law_762 rfl rfl ?_
  refine kx_iload hC dL_law_763 rfl rfl ?_
  refine kx_iconst (v := nI 1) hC dL_law_764 rfl ?_
  refine kx_iadd hC dL_law_765 ?_
  refine kx_sld hC hX (i + 1) (nI_add i 1) (by omega) hL dL_law_766 ?_
  refine kx_ws (show _ = (wd_cells cS ad1 V.2.2 σ1 ++ (wd_cells rS ad2 V.2.2 τ ++ []) : va_W) from by rw [List.append_nil, List.nil_append]) ?_
  refine kx_callV hC cwL_108 [.int (xs (i + 1))] (sd := rS) (ad := ad2) (q := 0) (st := v1.toList ++ []) (by decide) rfl rfl (fun _ => c2) (by show d2 + 1 ≤ 2048; omega) (by show _ ≤ 84000; omega) ⟨by decide, by decide⟩ rfl rfl (by rw [List.append_nil]; exact cat_2 v1) dL_law_767 (fun v2 τ1 p2 => ?_)
  refine kx_ws (show _ = (wd_cells cS ad1 V.2.2 σ1 ++ wd_cells rS ad2 V.2.2 τ1 : va_W) from by rw [List.append_nil]) ?_
  obtain ⟨⟨r, e1, e2⟩, nm1, nc1, hI1⟩ := hfin v1 v2 σ1 τ1 p1 p2
  subst e1 e2
  exact kx_eq (tgt := 1033) hC dL_law_770 (by decide) (fun _ => kk σ1 τ1 nm1 nc1 hI1) (fun z => absurd rfl z)
theorem cwL_109 : wd_wV RL 109 RX4 yX4_odds cX4_odds 8 (some .int) 5 := ⟨(wL_25 _ (List.mem_of_getElem? (i := 2) rfl)), (wL_25 _ (List.mem_of_getElem? (i := 3) rfl)), (wL_25 _ (List.mem_of_getElem? (i := 4) rfl)), (wL_1 _ (List.mem_of_getElem? (i := 2) rfl)), (wL_25 _ (List.mem_of_getElem? (i := 5) rfl)), by decide +kernel⟩
theorem cwL_113 : wd_wV RL 113 RX5 yX5_odds cX5_odds 10 (some .int) 5 := ⟨(wL_25 _ (List.mem_of_getElem? (i := 16) rfl)), (wL_25 _ (List.mem_of_getElem? (i := 17) rfl)), (wL_25 _ (List.mem_of_getElem? (i := 18) rfl)), (wL_1 _ (List.mem_of_getElem? (i := 5) rfl)), (wL_25 _ (List.mem_of_getElem? (i := 19) rfl)), by decide +kernel⟩
set_option maxRecDepth 100000 in
set_option maxHeartbeats 4000000 in
theorem law_odds {V : wd_V} {K : wd_K} {A : Nat → Prop} {Q : State → Prop} {b L i : Nat} {xs : Nat → Int32} {ad1 ad2 : Nat → Nat} (hi1 : wd_inj cS ad1) (hi2 : wd_inj rS ad2) (hC : kx_Ok V K A RL cL_law 4 room_1) (hX : kx_X K A b L xs) (hL : L ≤ 384) (hi : i + 6 ≤ L) {σ τ : wd_S} {nm nc : Nat} (hI : Inv σ τ nm nc) (kk : ∀ σ1 τ1 nm nc, Inv σ1 τ1 nm nc → kx_G V K A 4 Q 600000 7302250 1033 [some (.ref b), some (.ref (ad1 0)), some (.ref (ad2 0)), some (.int (nI i))] [] (wd_cells cS ad1 V.2.2 σ1 ++ wd_cells rS ad2 V.2.2 τ1)) : kx_G V K A 4 Q 600000 7302250 775 [some (.ref b), some (.ref (ad1 0)), some (.ref (ad2 0)), some (.int (nI i))] [] (wd_cells cS ad1 V.2.2 σ ++ wd_cells rS ad2 V.2.2 τ) := by
  obtain ⟨d1, d2, P1, P2, hd1, hd2, c1, c2, hfin⟩ := e_odds (V := V) hi1 hi2 hI (xs (i + 1)) (xs (i + 2)) (xs (i + 3)) (xs (i + 4)) (xs (i + 5))
  refine kx_aload hC dL_law_775 rfl rfl ?_
  refine kx_aload hC dL_law_776 rfl rfl ?_
  refine kx_iload hC dL_law_777 rfl rfl ?_
  refine kx_iconst (v := nI 1) hC dL_law_778 rfl ?_
  refine kx_iadd hC dL_law_779 ?_
  refine kx_sld hC hX (i + 1) (nI_add i 1) (by omega) hL dL_law_780 ?_
  refine kx_aload hC dL_law_781 rfl rfl ?_
  refine kx_iload hC dL_law_782 rfl rfl ?_
  refine kx_iconst (v := nI 2) hC dL_law_783 rfl ?_
  refine kx_iadd hC dL_law_784 ?_
  refine kx_sld hC hX (i + 2) (nI_add i 2) (by omega) hL dL_law_785 ?_
  refine kx_aload hC dL_law_786 rfl rfl ?_
  refine kx_iload hC dL_law_787 rfl rfl ?_
  refine kx_iconst (v := nI 3) hC dL_law_788 rfl ?_
  refine kx_iadd hC dL_law_789 ?_
  refine kx_sld hC hX (i + 3) (nI_add i 3) (by omega) hL dL_law_790 ?_
  refine kx_aload hC dL_law_791 rfl rfl ?_
  refine kx_iload hC dL_law_792 rfl rfl ?_
  refine kx_iconst (v := nI 4) hC dL_law_793 rfl ?_
  refine kx_iadd hC dL_law_794 ?_
  refine kx_sld hC hX (i + 4) (nI_add i 4) (by omega) hL dL_law_795 ?_
  refine kx_aload hC dL_law_796 rfl rfl ?_
  refine kx_iload hC dL_law_797 rfl rfl ?_
  refine kx_iconst (v := nI 5) hC dL_law_798 rfl ?_
  refine kx_iadd hC dL_law_799 ?_
  refine kx_sld hC hX (i + 5) (nI_add i 5) (by omega) hL dL_law_800 ?_
  refine kx_ws (show _ = ([] ++ (wd_cells cS ad1 V.2.2 σ ++ wd_cells rS ad2 V.2.2 τ) : va_W) from rfl) ?_
  refine kx_callV hC cwL_109 [.int (xs (i + 1)), .int (xs (i + 2)), .int (xs (i + 3)), .int (xs (i + 4)), .int (xs (i + 5))] (sd := cS) (ad := ad1) (q := 0) (by decide) rfl rfl (fun _ => c1) (by show d1 + 1 ≤ 2048; omega) (by show _ ≤ 84000; omega) ⟨by decide, by decide⟩ rfl rfl (Nat.le_of_ble_eq_true rfl) dL_law_801 (fun v1 σ1 p1 => ?_)
  refine kx_aload hC dL_law_804 rfl rfl ?_
  refine kx_aload hC dL_law_805 rfl rfl ?_
  refine kx_iload hC dL_law_806 rfl rfl ?_
  refine kx_iconst (v := nI 1) hC dL_law_807 rfl ?_
  refine kx_iadd hC dL_law_808 ?_
  refine kx_sld hC hX (i + 1) (nI_add i 1) (by omega) hL dL_law_809 ?_
  refine kx_aload hC dL_law_810 rfl rfl ?_
  refine kx_iload hC dL_law_811 rfl rfl ?_
  refine kx_iconst (v := nI 2) hC dL_law_812 rfl ?_
  refine kx_iadd hC dL_law_813 ?_
  refine kx_sld hC hX (i + 2) (nI_add i 2) (by omega) hL dL_law_814 ?_
  refine kx_aload hC dL_law_815 rfl rfl ?_
  refine kx_iload hC dL_law_816 rfl rfl ?_
  refine kx_iconst (v := nI 3) hC dL_law_817 rfl ?_
  refine kx_iadd hC dL_law_818 ?_
  refine kx_sld hC hX (i + 3) (nI_add i 3) (by omega) hL dL_law_819 ?_
  refine kx_aload hC dL_law_820 rfl rfl ?_
  refine kx_iload hC dL_law_821 rfl rfl ?_
  refine kx_iconst (v := nI 4) hC dL_law_822 rfl ?_
  refine kx_iadd hC dL_law_823 ?_
  refine kx_sld hC hX (i + 4) (nI_add i 4) (by omega) hL dL_law_824 ?_
  refine kx_aload hC dL_law_825 rfl rfl ?_
  refine kx_iload hC dL_law_826 rfl rfl ?_
  refine kx_iconst (v := nI 5) hC dL_law_827 rfl ?_
  refine kx_iadd hC dL_law_828 ?_
  refine kx_sld hC hX (i + 5) (nI_add i 5) (by omega) hL dL_law_829 ?_
  refine kx_ws (show _ = (wd_cells cS ad1 V.2.2 σ1 ++ (wd_cells rS ad2 V.2.2 τ ++ []) : va_W) from by rw [List.append_nil, List.nil_append]) ?_
  refine kx_callV hC cwL_113 [.int (xs (i + 1)), .int (xs (i + 2)), .int (xs (i + 3)), .int (xs (i + 4)), .int (xs (i + 5))] (sd := rS) (ad := ad2) (q := 0) (st := v1.toList ++ []) (by decide) rfl rfl (fun _ => c2) (by show d2 + 1 ≤ 2048; omega) (by show _ ≤ 84000; omega) ⟨by decide, by decide⟩ rfl rfl (by rw [List.append_nil]; exact cat_2 v1) dL_law_830 (fun v2 τ1 p2 => ?_)
  refine kx_ws (show _ = (wd_cells cS ad1 V.2.2 σ1 ++ wd_cells rS ad2 V.2.2 τ1 : va_W) from by rw [List.append_nil]) ?_
  obtain ⟨⟨r, e1, e2⟩, nm1, nc1, hI1⟩ := hfin v1 v2 σ1 τ1 p1 p2
  subst e1 e2
  exact kx_eq (tgt := 1033) hC dL_law_833 (by decide) (fun _ => kk σ1 τ1 nm1 nc1 hI1) (fun z => absurd rfl z)
theorem cwL_114 : wd_wV RL 114 RX4 yX4_rich cX4_rich 6 (some .int) 2 := ⟨(wL_26 _ (List.mem_of_getElem? (i := 2) rfl)), (wL_26 _ (List.mem_of_getElem? (i := 3) rfl)), (wL_26 _ (List.mem_of_getElem? (i := 4) rfl)), (wL_1 _ (List.mem_of_getElem? (i := 2) rfl)), (wL_26 _ (List.mem_of_getElem? (i := 5) rfl)), by decide +kernel⟩
theorem cwL_117 : wd_wV RL 117 RX5 yX5_rich cX5_rich 4 (some .int) 2 := ⟨(wL_26 _ (List.mem_of_getElem? (i := 6) rfl)), (wL_26 _ (List.mem_of_getElem? (i := 7) rfl)), (wL_26 _ (List.mem_of_getElem? (i := 8) rfl)), (wL_1 _ (List.mem_of_getElem? (i := 5) rfl)), (wL_26 _ (List.mem_of_getElem? (i := 9) rfl)), by decide +kernel⟩
set_option maxRecDepth 100000 in
set_option maxHeartbeats 4000000 in
theorem law_rich {V : wd_V} {K : wd_K} {A : Nat → Prop} {Q : State → Prop} {b L i : Nat} {xs : Nat → Int32} {ad1 ad2 : Nat → Nat} (hi1 : wd_inj cS ad1) (hi2 : wd_inj rS ad2) (hC : kx_Ok V K A RL cL_law 4 room_1) (hX : kx_X K A b L xs) (hL : L ≤ 384) (hi : i + 6 ≤ L) {σ τ : wd_S} {nm nc : Nat} (hI : Inv σ τ nm nc) (kk : ∀ σ1 τ1 nm nc, Inv σ1 τ1 nm nc → kx_G V K A 4 Q 600000 7302250 1033 [some (.ref b), some (.ref (ad1 0)), some (.ref (ad2 0)), some (.int (nI i))] [] (wd_cells cS ad1 V.2.2 σ1 ++ wd_cells rS ad2 V.2.2 τ1)) : kx_G V K A 4 Q 600000 7302250 838 [some (.ref b), some (.ref (ad1 0)), some (.ref (ad2 0)), some (.int (nI i))] [] (wd_cells cS ad1 V.2.2 σ ++ wd_cells rS ad2 V.2.2 τ) := by
  obtain ⟨d1, d2, P1, P2, hd1, hd2, c1, c2, hfin⟩ := e_rich (V := V) hi1 hi2 hI (xs (i + 1)) (xs (i + 2))
  refine kx_aload hC dL_law_838 rfl rfl ?_
  refine kx_aload hC dL_law_839 rfl rfl ?_
  refine kx_iload hC dL_law_840 rfl rfl ?_
  refine kx_iconst (v := nI 1) hC dL_law_841 rfl ?_
  refine kx_iadd hC dL_law_842 ?_
  refine kx_sld hC hX (i + 1) (nI_add i 1) (by omega) hL dL_law_843 ?_
  refine kx_aload hC dL_law_844 rfl rfl ?_
  refine kx_iload hC dL_law_845 rfl rfl ?_
  refine kx_iconst (v := nI 2) hC dL_law_846 rfl ?_
  refine kx_iadd hC dL_law_847 ?_
  refine kx_sld hC hX (i + 2) (nI_add i 2) (by omega) hL dL_law_848 ?_
  refine kx_ws (show _ = ([] ++ (wd_cells cS ad1 V.2.2 σ ++ wd_cells rS ad2 V.2.2 τ) : va_W) from rfl) ?_
  refine kx_callV hC cwL_114 [.int (xs (i + 1)), .int (xs (i + 2))] (sd := cS) (ad := ad1) (q := 0) (by decide) rfl rfl (fun _ => c1) (by show d1 + 1 ≤ 2048; omega) (by show _ ≤ 84000; omega) ⟨by decide, by decide⟩ rfl rfl (Nat.le_of_ble_eq_true rfl) dL_law_849 (fun v1 σ1 p1 => ?_)
  refine kx_aload hC dL_law_852 rfl rfl ?_
  refine kx_aload hC dL_law_853 rfl rfl ?_
  refine kx_iload hC dL_law_854 rfl rfl ?_
  refine kx_iconst (v := nI 1) hC dL_law_855 rfl ?_
  refine kx_iadd hC dL_law_856 ?_
  refine kx_sld hC hX (i + 1) (nI_add i 1) (by omega) hL dL_law_857 ?_
  refine kx_aload hC dL_law_858 rfl rfl ?_
  refine kx_iload hC dL_law_859 rfl rfl ?_
  refine kx_iconst (v := nI 2) hC dL_law_860 rfl ?_
  refine kx_iadd hC dL_law_861 ?_
  refine kx_sld hC hX (i + 2) (nI_add i 2) (by omega) hL dL_law_862 ?_
  refine kx_ws (show _ = (wd_cells cS ad1 V.2.2 σ1 ++ (wd_cells rS ad2 V.2.2 τ ++ []) : va_W) from by rw [List.append_nil, List.nil_append]) ?_
  refine kx_callV hC cwL_117 [.int (xs (i + 1)), .int (xs (i + 2))] (sd := rS) (ad := ad2) (q := 0) (st := v1.toList ++ []) (by decide) rfl rfl (fun _ => c2) (by show d2 + 1 ≤ 2048; omega) (by show _ ≤ 84000; omega) ⟨by decide, by decide⟩ rfl rfl (by rw [List.append_nil]; exact cat_2 v1) dL_law_863 (fun v2 τ1 p2 => ?_)
  refine kx_ws (show _ = (wd_cells cS ad1 V.2.2 σ1 ++ wd_cells rS ad2 V.2.2 τ1 : va_W) from by rw [List.append_nil]) ?_
  obtain ⟨⟨r, e1, e2⟩, nm1, nc1, hI1⟩ := hfin v1 v2 σ1 τ1 p1 p2
  subst e1 e2
  exact kx_eq (tgt := 1033) hC dL_law_866 (by decide) (fun _ => kk σ1 τ1 nm1 nc1 hI1) (fun z => absurd rfl z)
theorem cwL_118 : wd_wV RL 118 RX4 yX4_poor cX4_poor 4 (some .int) 0 := ⟨(wL_26 _ (List.mem_of_getElem? (i := 10) rfl)), (wL_26 _ (List.mem_of_getElem? (i := 11) rfl)), (wL_26 _ (List.mem_of_getElem? (i := 12) rfl)), (wL_1 _ (List.mem_of_getElem? (i := 2) rfl)), (wL_26 _ (List.mem_of_getElem? (i := 13) rfl)), by decide +kernel⟩
theorem cwL_121 : wd_wV RL 121 RX5 yX5_poor cX5_poor 3 (some .int) 0 := ⟨(wL_26 _ (List.mem_of_getElem? (i := 18) rfl)), (wL_26 _ (List.mem_of_getElem? (i := 19) rfl)), (wL_26 _ (List.mem_of_getElem? (i := 20) rfl)), (wL_1 _ (List.mem_of_getElem? (i := 5) rfl)), (wL_26 _ (List.mem_of_getElem? (i := 21) rfl)), by decide +kernel⟩
set_option maxRecDepth 100000 in
set_option maxHeartbeats 4000000 in
theorem law_poor {V : wd_V} {K : wd_K} {A : Nat → Prop} {Q : State → Prop} {b L i : Nat} {xs : Nat → Int32} {ad1 ad2 : Nat → Nat} (hi1 : wd_inj cS ad1) (hi2 : wd_inj rS ad2) (hC : kx_Ok V K A RL cL_law 4 room_1) (hX : kx_X K A b L xs) (hL : L ≤ 384) (hi : i + 6 ≤ L) {σ τ : wd_S} {nm nc : Nat} (hI : Inv σ τ nm nc) (kk : ∀ σ1 τ1 nm nc, Inv σ1 τ1 nm nc → kx_G V K A 4 Q 600000 7302250 1033 [some (.ref b), some (.ref (ad1 0)), some (.ref (ad2 0)), some (.int (nI i))] [] (wd_cells cS ad1 V.2.2 σ1 ++ wd_cells rS ad2 V.2.2 τ1)) : kx_G V K A 4 Q 600000 7302250 871 [some (.ref b), some (.ref (ad1 0)), some (.ref (ad2 0)), some (.int (nI i))] [] (wd_cells cS ad1 V.2.2 σ ++ wd_cells rS ad2 V.2.2 τ) := by
  obtain ⟨d1, d2, P1, P2, hd1, hd2, c1, c2, hfin⟩ := e_poor (V := V) hi1 hi2 hI 
  refine kx_aload hC dL_law_871 rfl rfl ?_
  refine kx_ws (show _ = ([] ++ (wd_cells cS ad1 V.2.2 σ ++ wd_cells rS ad2 V.2.2 τ) : va_W) from rfl) ?_
  refine kx_callV hC cwL_118 [] (sd := cS) (ad := ad1) (q := 0) (by decide) rfl rfl (fun _ => c1) (by show d1 + 1 ≤ 2048; omega) (by show _ ≤ 84000; omega) ⟨by decide, by decide⟩ rfl rfl (Nat.le_of_ble_eq_true rfl) dL_law_872 (fun v1 σ1 p1 => ?_)
  refine kx_aload hC dL_law_875 rfl rfl ?_
  refine kx_ws (show _ = (wd_cells cS ad1 V.2.2 σ1 ++ (wd_cells rS ad2 V.2.2 τ ++ []) : va_W) from by rw [List.append_nil, List.nil_append]) ?_
  refine kx_callV hC cwL_121 [] (sd := rS) (ad := ad2) (q := 0) (st := v1.toList ++ []) (by decide) rfl rfl (fun _ => c2) (by show d2 + 1 ≤ 2048; omega) (by show _ ≤ 84000; omega) ⟨by decide, by decide⟩ rfl rfl (by rw [List.append_nil]; exact cat_2 v1) dL_law_876 (fun v2 τ1 p2 => ?_)
  refine kx_ws (show _ = (wd_cells cS ad1 V.2.2 σ1 ++ wd_cells rS ad2 V.2.2 τ1 : va_W) from by rw [List.append_nil]) ?_
  obtain ⟨⟨r, e1, e2⟩, nm1, nc1, hI1⟩ := hfin v1 v2 σ1 τ1 p1 p2
  subst e1 e2
  exact kx_eq (tgt := 1033) hC dL_law_879 (by decide) (fun _ => kk σ1 τ1 nm1 nc1 hI1) (fun z => absurd rfl z)
theorem cwL_122 : wd_wV RL 122 RX4 yX4_share cX4_share 3 (some .int) 2 := ⟨(wL_26 _ (List.mem_of_getElem? (i := 22) rfl)), (wL_26 _ (List.mem_of_getElem? (i := 23) rfl)), (wL_27 _ (List.mem_of_getElem? (i := 0) rfl)), (wL_1 _ (List.mem_of_getElem? (i := 2) rfl)), (wL_27 _ (List.mem_of_getElem? (i := 1) rfl)), by decide +kernel⟩
theorem cwL_125 : wd_wV RL 125 RX5 yX5_share cX5_share 4 (some .int) 2 := ⟨(wL_27 _ (List.mem_of_getElem? (i := 2) rfl)), (wL_27 _ (List.mem_of_getElem? (i := 3) rfl)), (wL_27 _ (List.mem_of_getElem? (i := 4) rfl)), (wL_1 _ (List.mem_of_getElem? (i := 5) rfl)), (wL_27 _ (List.mem_of_getElem? (i := 5) rfl)), by decide +kernel⟩
set_option maxRecDepth 100000 in
set_option maxHeartbeats 4000000 in
theorem law_share {V : wd_V} {K : wd_K} {A : Nat → Prop} {Q : State → Prop} {b L i : Nat} {xs : Nat → Int32} {ad1 ad2 : Nat → Nat} (hi1 : wd_inj cS ad1) (hi2 : wd_inj rS ad2) (hC : kx_Ok V K A RL cL_law 4 room_1) (hX : kx_X K A b L xs) (hL : L ≤ 384) (hi : i + 6 ≤ L) {σ τ : wd_S} {nm nc : Nat} (hI : Inv σ τ nm nc) (kk : ∀ σ1 τ1 nm nc, Inv σ1 τ1 nm nc → kx_G V K A 4 Q 600000 7302250 1033 [some (.ref b), some (.ref (ad1 0)), some (.ref (ad2 0)), some (.int (nI i))] [] (wd_cells cS ad1 V.2.2 σ1 ++ wd_cells rS ad2 V.2.2 τ1)) : kx_G V K A 4 Q 600000 7302250 884 [some (.ref b), some (.ref (ad1 0)), some (.ref (ad2 0)), some (.int (nI i))] [] (wd_cells cS ad1 V.2.2 σ ++ wd_cells rS ad2 V.2.2 τ) := by
  obtain ⟨d1, d2, P1, P2, hd1, hd2, c1, c2, hfin⟩ := e_share (V := V) hi1 hi2 hI (xs (i + 1)) (xs (i + 2))
  refine kx_aload hC dL_law_884 rfl rfl ?_
  refine kx_aload hC dL_law_885 rfl rfl ?_
  refine kx_iload hC dL_law_886 rfl rfl ?_
  refine kx_iconst (v := nI 1) hC dL_law_887 rfl ?_
  refine kx_iadd hC dL_law_888 ?_
  refine kx_sld hC hX (i + 1) (nI_add i 1) (by omega) hL dL_law_889 ?_
  refine kx_aload hC dL_law_890 rfl rfl ?_
  refine kx_iload hC dL_law_891 rfl rfl ?_
  refine kx_iconst (v := nI 2) hC dL_law_892 rfl ?_
  refine kx_iadd hC dL_law_893 ?_
  refine kx_sld hC hX (i + 2) (nI_add i 2) (by omega) hL dL_law_894 ?_
  refine kx_ws (show _ = ([] ++ (wd_cells cS ad1 V.2.2 σ ++ wd_cells rS ad2 V.2.2 τ) : va_W) from rfl) ?_
  refine kx_callV hC cwL_122 [.int (xs (i + 1)), .int (xs (i + 2))] (sd := cS) (ad := ad1) (q := 0) (by decide) rfl rfl (fun _ => c1) (by show d1 + 1 ≤ 2048; omega) (by show _ ≤ 84000; omega) ⟨by decide, by decide⟩ rfl rfl (Nat.le_of_ble_eq_true rfl) dL_law_895 (fun v1 σ1 p1 => ?_)
  refine kx_aload hC dL_law_898 rfl rfl ?_
  refine kx_aload hC dL_law_899 rfl rfl ?_
  refine kx_iload hC dL_law_900 rfl rfl ?_
  refine kx_iconst (v := nI 1) hC dL_law_901 rfl ?_
  refine kx_iadd hC dL_law_902 ?_
  refine kx_sld hC hX (i + 1) (nI_add i 1) (by omega) hL dL_law_903 ?_
  refine kx_aload hC dL_law_904 rfl rfl ?_
  refine kx_iload hC dL_law_905 rfl rfl ?_
  refine kx_iconst (v := nI 2) hC dL_law_906 rfl ?_
  refine kx_iadd hC dL_law_907 ?_
  refine kx_sld hC hX (i + 2) (nI_add i 2) (by omega) hL dL_law_908 ?_
  refine kx_ws (show _ = (wd_cells cS ad1 V.2.2 σ1 ++ (wd_cells rS ad2 V.2.2 τ ++ []) : va_W) from by rw [List.append_nil, List.nil_append]) ?_
  refine kx_callV hC cwL_125 [.int (xs (i + 1)), .int (xs (i + 2))] (sd := rS) (ad := ad2) (q := 0) (st := v1.toList ++ []) (by decide) rfl rfl (fun _ => c2) (by show d2 + 1 ≤ 2048; omega) (by show _ ≤ 84000; omega) ⟨by decide, by decide⟩ rfl rfl (by rw [List.append_nil]; exact cat_2 v1) dL_law_909 (fun v2 τ1 p2 => ?_)
  refine kx_ws (show _ = (wd_cells cS ad1 V.2.2 σ1 ++ wd_cells rS ad2 V.2.2 τ1 : va_W) from by rw [List.append_nil]) ?_
  obtain ⟨⟨r, e1, e2⟩, nm1, nc1, hI1⟩ := hfin v1 v2 σ1 τ1 p1 p2
  subst e1 e2
  exact kx_eq (tgt := 1033) hC dL_law_912 (by decide) (fun _ => kk σ1 τ1 nm1 nc1 hI1) (fun z => absurd rfl z)
theorem cwL_126 : wd_wV RL 126 RX4 yX4_rate cX4_rate 3 (some .int) 2 := ⟨(wL_27 _ (List.mem_of_getElem? (i := 6) rfl)), (wL_27 _ (List.mem_of_getElem? (i := 7) rfl)), (wL_27 _ (List.mem_of_getElem? (i := 8) rfl)), (wL_1 _ (List.mem_of_getElem? (i := 2) rfl)), (wL_27 _ (List.mem_of_getElem? (i := 9) rfl)), by decide +kernel⟩
theorem cwL_129 : wd_wV RL 129 RX5 yX5_rate cX5_rate 4 (some .int) 2 := ⟨(wL_28 _ (List.mem_of_getElem? (i := 16) rfl)), (wL_28 _ (List.mem_of_getElem? (i := 17) rfl)), (wL_28 _ (List.mem_of_getElem? (i := 18) rfl)), (wL_1 _ (List.mem_of_getElem? (i := 5) rfl)), (wL_28 _ (List.mem_of_getElem? (i := 19) rfl)), by decide +kernel⟩
set_option maxRecDepth 100000 in
set_option maxHeartbeats 4000000 in
theorem law_rate {V : wd_V} {K : wd_K} {A : Nat → Prop} {Q : State → Prop} {b L i : Nat} {xs : Nat → Int32} {ad1 ad2 : Nat → Nat} (hi1 : wd_inj cS ad1) (hi2 : wd_inj rS ad2) (hC : kx_Ok V K A RL cL_law 4 room_1) (hX : kx_X K A b L xs) (hL : L ≤ 384) (hi : i + 6 ≤ L) {σ τ : wd_S} {nm nc : Nat} (hI : Inv σ τ nm nc) (kk : ∀ σ1 τ1 nm nc, Inv σ1 τ1 nm nc → kx_G V K A 4 Q 600000 7302250 1033 [some (.ref b), some (.ref (ad1 0)), some (.ref (ad2 0)), some (.int (nI i))] [] (wd_cells cS ad1 V.2.2 σ1 ++ wd_cells rS ad2 V.2.2 τ1)) : kx_G V K A 4 Q 600000 7302250 917 [some (.ref b), some (.ref (ad1 0)), some (.ref (ad2 0)), some (.int (nI i))] [] (wd_cells cS ad1 V.2.2 σ ++ wd_cells rS ad2 V.2.2 τ) := by
  obtain ⟨d1, d2, P1, P2, hd1, hd2, c1, c2, hfin⟩ := e_rate (V := V) hi1 hi2 hI (xs (i + 1)) (xs (i + 2))
  refine kx_aload hC dL_law_917 rfl rfl ?_
  refine kx_aload hC dL_law_918 rfl rfl ?_
  refine kx_iload hC dL_law_919 rfl rfl ?_
  refine kx_iconst (v := nI 1) hC dL_law_920 rfl ?_
  refine kx_iadd hC dL_law_921 ?_
  refine kx_sld hC hX (i + 1) (nI_add i 1) (by omega) hL dL_law_922 ?_
  refine kx_aload hC dL_law_923 rfl rfl ?_
  refine kx_iload hC dL_law_924 rfl rfl ?_
  refine kx_iconst (v := nI 2) hC dL_law_925 rfl ?_
  refine kx_iadd hC dL_law_926 ?_
  refine kx_sld hC hX (i + 2) (nI_add i 2) (by omega) hL dL_law_927 ?_
  refine kx_ws (show _ = ([] ++ (wd_cells cS ad1 V.2.2 σ ++ wd_cells rS ad2 V.2.2 τ) : va_W) from rfl) ?_
  refine kx_callV hC cwL_126 [.int (xs (i + 1)), .int (xs (i + 2))] (sd := cS) (ad := ad1) (q := 0) (by decide) rfl rfl (fun _ => c1) (by show d1 + 1 ≤ 2048; omega) (by show _ ≤ 84000; omega) ⟨by decide, by decide⟩ rfl rfl (Nat.le_of_ble_eq_true rfl) dL_law_928 (fun v1 σ1 p1 => ?_)
  refine kx_aload hC dL_law_931 rfl rfl ?_
  refine kx_aload hC dL_law_932 rfl rfl ?_
  refine kx_iload hC dL_law_933 rfl rfl ?_
  refine kx_iconst (v := nI 1) hC dL_law_934 rfl ?_
  refine kx_iadd hC dL_law_935 ?_
  refine kx_sld hC hX (i + 1) (nI_add i 1) (by omega) hL dL_law_936 ?_
  refine kx_aload hC dL_law_937 rfl rfl ?_
  refine kx_iload hC dL_law_938 rfl rfl ?_
  refine kx_iconst (v := nI 2) hC dL_law_939 rfl ?_
  refine kx_iadd hC dL_law_940 ?_
  refine kx_sld hC hX (i + 2) (nI_add i 2) (by omega) hL dL_law_941 ?_
  refine kx_ws (show _ = (wd_cells cS ad1 V.2.2 σ1 ++ (wd_cells rS ad2 V.2.2 τ ++ []) : va_W) from by rw [List.append_nil, List.nil_append]) ?_
  refine kx_callV hC cwL_129 [.int (xs (i + 1)), .int (xs (i + 2))] (sd := rS) (ad := ad2) (q := 0) (st := v1.toList ++ []) (by decide) rfl rfl (fun _ => c2) (by show d2 + 1 ≤ 2048; omega) (by show _ ≤ 84000; omega) ⟨by decide, by decide⟩ rfl rfl (by rw [List.append_nil]; exact cat_2 v1) dL_law_942 (fun v2 τ1 p2 => ?_)
  refine kx_ws (show _ = (wd_cells cS ad1 V.2.2 σ1 ++ wd_cells rS ad2 V.2.2 τ1 : va_W) from by rw [List.append_nil]) ?_
  obtain ⟨⟨r, e1, e2⟩, nm1, nc1, hI1⟩ := hfin v1 v2 σ1 τ1 p1 p2
  subst e1 e2
  exact kx_eq (tgt := 1033) hC dL_law_945 (by decide) (fun _ => kk σ1 τ1 nm1 nc1 hI1) (fun z => absurd rfl z)
theorem cwL_130 : wd_wV RL 130 RX4 yX4_keep cX4_keep 2 (some .int) 1 := ⟨(wL_29 _ (List.mem_of_getElem? (i := 2) rfl)), (wL_29 _ (List.mem_of_getElem? (i := 3) rfl)), (wL_29 _ (List.mem_of_getElem? (i := 4) rfl)), (wL_1 _ (List.mem_of_getElem? (i := 2) rfl)), (wL_29 _ (List.mem_of_getElem? (i := 5) rfl)), by decide +kernel⟩
theorem cwL_133 : wd_wV RL 133 RX5 yX5_keep cX5_keep 3 (some .int) 1 := ⟨(wL_29 _ (List.mem_of_getElem? (i := 6) rfl)), (wL_29 _ (List.mem_of_getElem? (i := 7) rfl)), (wL_29 _ (List.mem_of_getElem? (i := 8) rfl)), (wL_1 _ (List.mem_of_getElem? (i := 5) rfl)), (wL_29 _ (List.mem_of_getElem? (i := 9) rfl)), by decide +kernel⟩
set_option maxRecDepth 100000 in
set_option maxHeartbeats 4000000 in
theorem law_keep {V : wd_V} {K : wd_K} {A : Nat → Prop} {Q : State → Prop} {b L i : Nat} {xs : Nat → Int32} {ad1 ad2 : Nat → Nat} (hi1 : wd_inj cS ad1) (hi2 : wd_inj rS ad2) (hC : kx_Ok V K A RL cL_law 4 room_1) (hX : kx_X K A b L xs) (hL : L ≤ 384) (hi : i + 6 ≤ L) {σ τ : wd_S} {nm nc : Nat} (hI : Inv σ τ nm nc) (kk : ∀ σ1 τ1 nm nc, Inv σ1 τ1 nm nc → kx_G V K A 4 Q 600000 7302250 1033 [some (.ref b), some (.ref (ad1 0)), some (.ref (ad2 0)), some (.int (nI i))] [] (wd_cells cS ad1 V.2.2 σ1 ++ wd_cells rS ad2 V.2.2 τ1)) : kx_G V K A 4 Q 600000 7302250 950 [some (.ref b), some (.ref (ad1 0)), some (.ref (ad2 0)), some (.int (nI i))] [] (wd_cells cS ad1 V.2.2 σ ++ wd_cells rS ad2 V.2.2 τ) := by
  obtain ⟨d1, d2, P1, P2, hd1, hd2, c1, c2, hfin⟩ := e_keep (V := V) hi1 hi2 hI (xs (i + 1))
  refine kx_aload hC dL_law_950 rfl rfl ?_
  refine kx_aload hC dL_law_951 rfl rfl ?_
  refine kx_iload hC dL_law_952 rfl rfl ?_
  refine kx_iconst (v := nI 1) hC dL_law_953 rfl ?_
  refine kx_iadd hC dL_law_954 ?_
  refine kx_sld hC hX (i + 1) (nI_add i 1) (by omega) hL dL_law_955 ?_
  refine kx_ws (show _ = ([] ++ (wd_cells cS ad1 V.2.2 σ ++ wd_cells rS ad2 V.2.2 τ) : va_W) from rfl) ?_
  refine kx_callV hC cwL_130 [.int (xs (i + 1))] (sd := cS) (ad := ad1) (q := 0) (by decide) rfl rfl (fun _ => c1) (by show d1 + 1 ≤ 2048; omega) (by show _ ≤ 84000; omega) ⟨by decide, by decide⟩ rfl rfl (Nat.le_of_ble_eq_true rfl) dL_law_956 (fun v1 σ1 p1 => ?_)
  refine kx_aload hC dL_law_959 rfl rfl ?_
  refine kx_aload hC dL_law_960 rfl rfl ?_
  refine kx_iload hC dL_law_961 rfl rfl ?_
  refine kx_iconst (v := nI 1) hC dL_law_962 rfl ?_
  refine kx_iadd hC dL_law_963 ?_
  refine kx_sld hC hX (i + 1) (nI_add i 1) (by omega) hL dL_law_964 ?_
  refine kx_ws (show _ = (wd_cells cS ad1 V.2.2 σ1 ++ (wd_cells rS ad2 V.2.2 τ ++ []) : va_W) from by rw [List.append_nil, List.nil_append]) ?_
  refine kx_callV hC cwL_133 [.int (xs (i + 1))] (sd := rS) (ad := ad2) (q := 0) (st := v1.toList ++ []) (by decide) rfl rfl (fun _ => c2) (by show d2 + 1 ≤ 2048; omega) (by show _ ≤ 84000; omega) ⟨by decide, by decide⟩ rfl rfl (by rw [List.append_nil]; exact cat_2 v1) dL_law_965 (fun v2 τ1 p2 => ?_)
  refine kx_ws (show _ = (wd_cells cS ad1 V.2.2 σ1 ++ wd_cells rS ad2 V.2.2 τ1 : va_W) from by rw [List.append_nil]) ?_
  obtain ⟨⟨r, e1, e2⟩, nm1, nc1, hI1⟩ := hfin v1 v2 σ1 τ1 p1 p2
  subst e1 e2
  exact kx_eq (tgt := 1033) hC dL_law_968 (by decide) (fun _ => kk σ1 τ1 nm1 nc1 hI1) (fun z => absurd rfl z)
theorem cwL_134 : wd_wV RL 134 RX4 yX4_back cX4_back 2 (some .int) 1 := ⟨(wL_29 _ (List.mem_of_getElem? (i := 10) rfl)), (wL_29 _ (List.mem_of_getElem? (i := 11) rfl)), (wL_29 _ (List.mem_of_getElem? (i := 12) rfl)), (wL_1 _ (List.mem_of_getElem? (i := 2) rfl)), (wL_29 _ (List.mem_of_getElem? (i := 13) rfl)), by decide +kernel⟩
theorem cwL_137 : wd_wV RL 137 RX5 yX5_back cX5_back 3 (some .int) 1 := ⟨(wL_29 _ (List.mem_of_getElem? (i := 14) rfl)), (wL_29 _ (List.mem_of_getElem? (i := 15) rfl)), (wL_29 _ (List.mem_of_getElem? (i := 16) rfl)), (wL_1 _ (List.mem_of_getElem? (i := 5) rfl)), (wL_29 _ (List.mem_of_getElem? (i := 17) rfl)), by decide +kernel⟩
set_option maxRecDepth 100000 in
set_option maxHeartbeats 4000000 in
theorem law_back {V : wd_V} {K : wd_K} {A : Nat → Prop} {Q : State → Prop} {b L i : Nat} {xs : Nat → Int32} {ad1 ad2 : Nat → Nat} (hi1 : wd_inj cS ad1) (hi2 : wd_inj rS ad2) (hC : kx_Ok V K A RL cL_law 4 room_1) (hX : kx_X K A b L xs) (hL : L ≤ 384) (hi : i + 6 ≤ L) {σ τ : wd_S} {nm nc : Nat} (hI : Inv σ τ nm nc) (kk : ∀ σ1 τ1 nm nc, Inv σ1 τ1 nm nc → kx_G V K A 4 Q 600000 7302250 1033 [some (.ref b), some (.ref (ad1 0)), some (.ref (ad2 0)), some (.int (nI i))] [] (wd_cells cS ad1 V.2.2 σ1 ++ wd_cells rS ad2 V.2.2 τ1)) : kx_G V K A 4 Q 600000 7302250 973 [some (.ref b), some (.ref (ad1 0)), some (.ref (ad2 0)), some (.int (nI i))] [] (wd_cells cS ad1 V.2.2 σ ++ wd_cells rS ad2 V.2.2 τ) := by
  obtain ⟨d1, d2, P1, P2, hd1, hd2, c1, c2, hfin⟩ := e_back (V := V) hi1 hi2 hI (xs (i + 1))
  refine kx_aload hC dL_law_973 rfl rfl ?_
  refine kx_aload hC dL_law_974 rfl rfl ?_
  refine kx_iload hC dL_law_975 rfl rfl ?_
  refine kx_iconst (v := nI 1) hC dL_law_976 rfl ?_
  refine kx_iadd hC dL_law_977 ?_
  refine kx_sld hC hX (i + 1) (nI_add i 1) (by omega) hL dL_law_978 ?_
  refine kx_ws (show _ = ([] ++ (wd_cells cS ad1 V.2.2 σ ++ wd_cells rS ad2 V.2.2 τ) : va_W) from rfl) ?_
  refine kx_callV hC cwL_134 [.int (xs (i + 1))] (sd := cS) (ad := ad1) (q := 0) (by decide) rfl rfl (fun _ => c1) (by show d1 + 1 ≤ 2048; omega) (by show _ ≤ 84000; omega) ⟨by decide, by decide⟩ rfl rfl (Nat.le_of_ble_eq_true rfl) dL_law_979 (fun v1 σ1 p1 => ?_)
  refine kx_aload hC dL_law_982 rfl rfl ?_
  refine kx_aload hC dL_law_983 rfl rfl ?_
  refine kx_iload hC dL_law_984 rfl rfl ?_
  refine kx_iconst (v := nI 1) hC dL_law_985 rfl ?_
  refine kx_iadd hC dL_law_986 ?_
  refine kx_sld hC hX (i + 1) (nI_add i 1) (by omega) hL dL_law_987 ?_
  refine kx_ws (show _ = (wd_cells cS ad1 V.2.2 σ1 ++ (wd_cells rS ad2 V.2.2 τ ++ []) : va_W) from by rw [List.append_nil, List.nil_append]) ?_
  refine kx_callV hC cwL_137 [.int (xs (i + 1))] (sd := rS) (ad := ad2) (q := 0) (st := v1.toList ++ []) (by decide) rfl rfl (fun _ => c2) (by show d2 + 1 ≤ 2048; omega) (by show _ ≤ 84000; omega) ⟨by decide, by decide⟩ rfl rfl (by rw [List.append_nil]; exact cat_2 v1) dL_law_988 (fun v2 τ1 p2 => ?_)
  refine kx_ws (show _ = (wd_cells cS ad1 V.2.2 σ1 ++ wd_cells rS ad2 V.2.2 τ1 : va_W) from by rw [List.append_nil]) ?_
  obtain ⟨⟨r, e1, e2⟩, nm1, nc1, hI1⟩ := hfin v1 v2 σ1 τ1 p1 p2
  subst e1 e2
  exact kx_eq (tgt := 1033) hC dL_law_991 (by decide) (fun _ => kk σ1 τ1 nm1 nc1 hI1) (fun z => absurd rfl z)
theorem cwL_138 : wd_wV RL 138 RX4 yX4_count cX4_count 2 (some .int) 1 := ⟨(wL_29 _ (List.mem_of_getElem? (i := 18) rfl)), (wL_29 _ (List.mem_of_getElem? (i := 19) rfl)), (wL_29 _ (List.mem_of_getElem? (i := 20) rfl)), (wL_1 _ (List.mem_of_getElem? (i := 2) rfl)), (wL_29 _ (List.mem_of_getElem? (i := 21) rfl)), by decide +kernel⟩
theorem cwL_141 : wd_wV RL 141 RX5 yX5_count cX5_count 2 (some .int) 1 := ⟨(wL_29 _ (List.mem_of_getElem? (i := 22) rfl)), (wL_29 _ (List.mem_of_getElem? (i := 23) rfl)), (wL_30 _ (List.mem_of_getElem? (i := 0) rfl)), (wL_1 _ (List.mem_of_getElem? (i := 5) rfl)), (wL_30 _ (List.mem_of_getElem? (i := 1) rfl)), by decide +kernel⟩
set_option maxRecDepth 100000 in
set_option maxHeartbeats 4000000 in
theorem law_count {V : wd_V} {K : wd_K} {A : Nat → Prop} {Q : State → Prop} {b L i : Nat} {xs : Nat → Int32} {ad1 ad2 : Nat → Nat} (hi1 : wd_inj cS ad1) (hi2 : wd_inj rS ad2) (hC : kx_Ok V K A RL cL_law 4 room_1) (hX : kx_X K A b L xs) (hL : L ≤ 384) (hi : i + 6 ≤ L) {σ τ : wd_S} {nm nc : Nat} (hI : Inv σ τ nm nc) (kk : ∀ σ1 τ1 nm nc, Inv σ1 τ1 nm nc → kx_G V K A 4 Q 600000 7302250 1033 [some (.ref b), some (.ref (ad1 0)), some (.ref (ad2 0)), some (.int (nI i))] [] (wd_cells cS ad1 V.2.2 σ1 ++ wd_cells rS ad2 V.2.2 τ1)) : kx_G V K A 4 Q 600000 7302250 996 [some (.ref b), some (.ref (ad1 0)), some (.ref (ad2 0)), some (.int (nI i))] [] (wd_cells cS ad1 V.2.2 σ ++ wd_cells rS ad2 V.2.2 τ) := by
  obtain ⟨d1, d2, P1, P2, hd1, hd2, c1, c2, hfin⟩ := e_count (V := V) hi1 hi2 hI (xs (i + 1))
  refine kx_aload hC dL_law_996 rfl rfl ?_
  refine kx_aload hC dL_law_997 rfl rfl ?_
  refine kx_iload hC dL_law_998 rfl rfl ?_
  refine kx_iconst (v := nI 1) hC dL_law_999 rfl ?_
  refine kx_iadd hC dL_law_1000 ?_
  refine kx_sld hC hX (i + 1) (nI_add i 1) (by omega) hL dL_law_1001 ?_
  refine kx_ws (show _ = ([] ++ (wd_cells cS ad1 V.2.2 σ ++ wd_cells rS ad2 V.2.2 τ) : va_W) from rfl) ?_
  refine kx_callV hC cwL_138 [.int (xs (i + 1))] (sd := cS) (ad := ad1) (q := 0) (by decide) rfl rfl (fun _ => c1) (by show d1 + 1 ≤ 2048; omega) (by show _ ≤ 84000; omega) ⟨by decide, by decide⟩ rfl rfl (Nat.le_of_ble_eq_true rfl) dL_law_1002 (fun v1 σ1 p1 => ?_)
  refine kx_aload hC dL_law_1005 rfl rfl ?_
  refine kx_aload hC dL_law_1006 rfl rfl ?_
  refine kx_iload hC dL_law_1007 rfl rfl ?_
  refine kx_iconst (v := nI 1) hC dL_law_1008 rfl ?_
  refine kx_iadd hC dL_law_1009 ?_
  refine kx_sld hC hX (i + 1) (nI_add i 1) (by omega) hL dL_law_1010 ?_
  refine kx_ws (show _ = (wd_cells cS ad1 V.2.2 σ1 ++ (wd_cells rS ad2 V.2.2 τ ++ []) : va_W) from by rw [List.append_nil, List.nil_append]) ?_
  refine kx_callV hC cwL_141 [.int (xs (i + 1))] (sd := rS) (ad := ad2) (q := 0) (st := v1.toList ++ []) (by decide) rfl rfl (fun _ => c2) (by show d2 + 1 ≤ 2048; omega) (by show _ ≤ 84000; omega) ⟨by decide, by decide⟩ rfl rfl (by rw [List.append_nil]; exact cat_2 v1) dL_law_1011 (fun v2 τ1 p2 => ?_)
  refine kx_ws (show _ = (wd_cells cS ad1 V.2.2 σ1 ++ wd_cells rS ad2 V.2.2 τ1 : va_W) from by rw [List.append_nil]) ?_
  obtain ⟨⟨r, e1, e2⟩, nm1, nc1, hI1⟩ := hfin v1 v2 σ1 τ1 p1 p2
  subst e1 e2
  exact kx_eq (tgt := 1033) hC dL_law_1014 (by decide) (fun _ => kk σ1 τ1 nm1 nc1 hI1) (fun z => absurd rfl z)
theorem cwL_142 : wd_wV RL 142 RX4 yX4_trace cX4_trace 1 (some .long) 0 := ⟨(wL_30 _ (List.mem_of_getElem? (i := 2) rfl)), (wL_30 _ (List.mem_of_getElem? (i := 3) rfl)), (wL_30 _ (List.mem_of_getElem? (i := 4) rfl)), (wL_1 _ (List.mem_of_getElem? (i := 2) rfl)), (wL_30 _ (List.mem_of_getElem? (i := 5) rfl)), by decide +kernel⟩
theorem cwL_146 : wd_wV RL 146 RX5 yX5_trace cX5_trace 1 (some .long) 0 := ⟨(wL_30 _ (List.mem_of_getElem? (i := 6) rfl)), (wL_30 _ (List.mem_of_getElem? (i := 7) rfl)), (wL_30 _ (List.mem_of_getElem? (i := 8) rfl)), (wL_1 _ (List.mem_of_getElem? (i := 5) rfl)), (wL_30 _ (List.mem_of_getElem? (i := 9) rfl)), by decide +kernel⟩
set_option maxRecDepth 100000 in
set_option maxHeartbeats 4000000 in
theorem law_trace {V : wd_V} {K : wd_K} {A : Nat → Prop} {Q : State → Prop} {b L i : Nat} {xs : Nat → Int32} {ad1 ad2 : Nat → Nat} (hi1 : wd_inj cS ad1) (hi2 : wd_inj rS ad2) (hC : kx_Ok V K A RL cL_law 4 room_1) (hX : kx_X K A b L xs) (hL : L ≤ 384) (hi : i + 6 ≤ L) {σ τ : wd_S} {nm nc : Nat} (hI : Inv σ τ nm nc) (kk : ∀ σ1 τ1 nm nc, Inv σ1 τ1 nm nc → kx_G V K A 4 Q 600000 7302250 1033 [some (.ref b), some (.ref (ad1 0)), some (.ref (ad2 0)), some (.int (nI i))] [] (wd_cells cS ad1 V.2.2 σ1 ++ wd_cells rS ad2 V.2.2 τ1)) : kx_G V K A 4 Q 600000 7302250 1019 [some (.ref b), some (.ref (ad1 0)), some (.ref (ad2 0)), some (.int (nI i))] [] (wd_cells cS ad1 V.2.2 σ ++ wd_cells rS ad2 V.2.2 τ) := by
  refine kx_aload hC dL_law_1019 rfl rfl ?_
  refine kx_ws (show _ = ([] ++ (wd_cells cS ad1 V.2.2 σ ++ wd_cells rS ad2 V.2.2 τ) : va_W) from rfl) ?_
  refine kx_callV hC cwL_142 [] (sd := cS) (ad := ad1) (q := 0) (by decide) rfl rfl (fun h1 => c_trace h1 σ) (by decide) (by decide) ⟨by decide, by decide⟩ rfl rfl (Nat.le_of_ble_eq_true rfl) dL_law_1020 (fun v1 σ1 p1 => ?_)
  refine kx_aload hC dL_law_1023 rfl rfl ?_
  refine kx_ws (show _ = (wd_cells cS ad1 V.2.2 σ1 ++ (wd_cells rS ad2 V.2.2 τ ++ []) : va_W) from by rw [List.append_nil, List.nil_append]) ?_
  refine kx_callV hC cwL_146 [] (sd := rS) (ad := ad2) (q := 0) (st := v1.toList ++ []) (by decide) rfl rfl (fun h2 => r_trace h2 τ hI.1.2.2.1) (by decide) (by decide) ⟨by decide, by decide⟩ rfl rfl (by rw [List.append_nil]; exact cat_2 v1) dL_law_1024 (fun v2 τ1 p2 => ?_)
  refine kx_ws (show _ = (wd_cells cS ad1 V.2.2 σ1 ++ wd_cells rS ad2 V.2.2 τ1 : va_W) from by rw [List.append_nil]) ?_
  obtain ⟨rfl, rfl⟩ := p1
  obtain ⟨rfl, rfl⟩ := p2
  refine kx_lcmp hC dL_law_1027 ?_
  have e : lg_cmp σ1.2.1 τ1.2.1 = 0 := by rw [hI.1.2.1]; simp [lg_cmp, Int64.lt_irrefl]
  exact kx_if_eq (tgt := 1033) hC dL_law_1028 (by decide) (fun _ => kk σ1 τ1 nm nc hI) (fun z => absurd e z)

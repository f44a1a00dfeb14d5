/-! ===== the reference: settles ===== -/
def zS (σ : wd_S) (n : Nat) : wd_S := (fun a b => if a = 9 ∧ b < n then 0 else σ.1 a b, σ.2)
theorem zS_0 (σ : wd_S) : σ = zS σ 0 := wd_ext (fun a => funext fun b => (if_neg (by omega)).symm) rfl
theorem zS_s (σ : wd_S) (n : Nat) : wd_up (zS σ n) 9 n 0 = zS σ (n + 1) := by
  refine wd_ext (fun a => funext fun b => ?_) rfl
  show (if a = 9 ∧ b = n then (0 : Int32) else if a = 9 ∧ b < n then 0 else σ.1 a b) = if a = 9 ∧ b < n + 1 then 0 else σ.1 a b
  by_cases h : a = 9 ∧ b = n
  · rw [if_pos h, if_pos (by omega)]
  · rw [if_neg h]
    by_cases h2 : a = 9 ∧ b < n
    · rw [if_pos h2, if_pos (by omega)]
    · rw [if_neg h2, if_neg (by omega)]
theorem zS_n (σ : wd_S) (n : Nat) {a : Nat} (h : a ≠ 9) : (zS σ n).1 a = σ.1 a := funext fun b => if_neg (by omega)
/-- some cells' first places are taken from the later ones -/
def mvW (σ : wd_S) (q o n : Nat) : wd_S := cpyW σ q o q 0 n
theorem mvW_0 (σ : wd_S) (q o : Nat) : σ = mvW σ q o 0 := (cpyW_0 σ q o q 0).symm
theorem mvW_n (σ : wd_S) (q o n : Nat) {a : Nat} (h : a ≠ q) : (mvW σ q o n).1 a = σ.1 a := funext fun b => cpyW_o σ q o q 0 n (by omega)
theorem mvW_r (σ : wd_S) (q o n b : Nat) (h : n ≤ b) : (mvW σ q o n).1 q b = σ.1 q b := cpyW_o σ q o q 0 n (by omega)
theorem mvW_s (σ : wd_S) (q o n : Nat) : wd_up (mvW σ q o n) q n (σ.1 q (o + n)) = mvW σ q o (n + 1) := by
  have h := cpyW_s σ q o q 0 n
  rw [Nat.zero_add] at h
  exact h
theorem mvW_c (σ : wd_S) (q o n : Nat) {k : Nat} (hk : k ≠ q) (i : Nat) (v : Int32) : wd_up (mvW σ q o n) k i v = mvW (wd_up σ k i v) q o n := by
  refine wd_ext (fun a => funext fun b => ?_) rfl
  show (if a = k ∧ b = i then v else if a = q ∧ 0 ≤ b ∧ b < 0 + n then σ.1 q (o + (b - 0)) else σ.1 a b) = if a = q ∧ 0 ≤ b ∧ b < 0 + n then (if q = k ∧ o + (b - 0) = i then v else σ.1 q (o + (b - 0))) else (if a = k ∧ b = i then v else σ.1 a b)
  rw [if_neg (show ¬ (q = k ∧ o + (b - 0) = i) by omega)]
  by_cases h : a = k ∧ b = i
  · rw [if_pos h, if_neg (by omega), if_pos h]
  · simp only [if_neg h]
def pt (k : Nat) : Nat := if k % 2 = 0 then k + 1 else k - 1
def pF (nm k : Nat) : Int32 := if k < nm ∧ pt k < nm then nI (pt k + 1) else 0
def fcW (σ : wd_S) (nm n : Nat) : wd_S := (fun a b => if a = 9 ∧ 6 ≤ b ∧ b < 6 + n then pF nm (b - 6) else σ.1 a b, σ.2)
theorem fcW_0 (σ : wd_S) (nm : Nat) : σ = fcW σ nm 0 := wd_ext (fun a => funext fun b => (if_neg (by omega)).symm) rfl
theorem fcW_n (σ : wd_S) (nm n : Nat) {a : Nat} (h : a ≠ 9) : (fcW σ nm n).1 a = σ.1 a := funext fun b => if_neg (by omega)
theorem fcW_s (σ : wd_S) (nm n : Nat) : wd_up (fcW σ nm n) 9 (6 + n) (pF nm n) = fcW σ nm (n + 1) := by
  refine wd_ext (fun a => funext fun b => ?_) rfl
  show (if a = 9 ∧ b = 6 + n then pF nm n else if a = 9 ∧ 6 ≤ b ∧ b < 6 + n then pF nm (b - 6) else σ.1 a b) = if a = 9 ∧ 6 ≤ b ∧ b < 6 + (n + 1) then pF nm (b - 6) else σ.1 a b
  by_cases h : a = 9 ∧ b = 6 + n
  · rw [if_pos h, if_pos (by omega), h.2, show 6 + n - 6 = n by omega]
  · rw [if_neg h]
    by_cases h2 : a = 9 ∧ 6 ≤ b ∧ b < 6 + n
    · rw [if_pos h2, if_pos (by omega)]
    · rw [if_neg h2, if_neg (by omega)]
theorem fcW_c (σ : wd_S) (nm n : Nat) {k : Nat} (hk : k ≠ 9) (i : Nat) (v : Int32) : wd_up (fcW σ nm n) k i v = fcW (wd_up σ k i v) nm n := by
  refine wd_ext (fun a => funext fun b => ?_) rfl
  show (if a = k ∧ b = i then v else if a = 9 ∧ 6 ≤ b ∧ b < 6 + n then pF nm (b - 6) else σ.1 a b) = if a = 9 ∧ 6 ≤ b ∧ b < 6 + n then pF nm (b - 6) else (if a = k ∧ b = i then v else σ.1 a b)
  by_cases h : a = k ∧ b = i
  · rw [if_pos h, if_neg (by omega), if_pos h]
  · simp only [if_neg h]
/-- weight and worth -/
def seA (σ : wd_S) (n : Nat) : wd_S := mvW (mvW σ 3 3 n) 4 3 n
/-- strong, legs, needs, facing -/
def seB (σ : wd_S) (nm n : Nat) : wd_S := fcW (mvW (mvW (mvW σ 5 6 n) 6 6 n) 7 6 n) nm n
def seC (σ : wd_S) : wd_S := wd_up (wd_up (wd_up (wd_up (wd_up (mvW σ 8 18 18) 0 3 0) 0 24 0) 0 21 0) 12 0 0) 12 1 0
def seW (σ : wd_S) (nm : Nat) : wd_S := seC (seB (seA (zS (wd_up (wd_up σ 2 0 (σ.1 2 2)) 2 1 (nI nm)) 32) 3) nm 6)
theorem par_0 {i : Nat} (h : nI (i % 2) = 0) : nI i + 1 = nI (pt i) := by
  have e : i % 2 = 0 := by
    rcases (show i % 2 = 0 ∨ i % 2 = 1 by omega) with q | q
    · exact q
    · rw [q] at h; exact absurd h (by decide)
  rw [pt, if_pos e]
  exact nI_add i 1
theorem par_1 {i : Nat} (h : ¬ nI (i % 2) = 0) : nI i - 1 = nI (pt i) := by
  have e : ¬ i % 2 = 0 := fun q => h (by rw [q]; rfl)
  rw [pt, if_neg e]
  exact sub1_of (by omega)
theorem pt_le {i : Nat} (h : i < 6) : pt i < 6 := by
  unfold pt
  by_cases e : i % 2 = 0
  · rw [if_pos e]; omega
  · rw [if_neg e]; omega
theorem pF_1 {nm i : Nat} (h6 : nm ≤ 6) (hi : i < 6) (h1 : ¬ nI nm ≤ nI i) (h2 : ¬ nI nm ≤ nI (pt i)) : nI (pt i) + 1 = pF nm i := by
  have hp := pt_le hi
  rw [nI_leI (by omega) (by omega)] at h1 h2
  rw [pF, if_pos ⟨by omega, by omega⟩]
  exact nI_add _ 1
theorem pF_2 {nm i : Nat} (h6 : nm ≤ 6) (hi : i < 6) (h : nI nm ≤ nI i) : 0 = pF nm i := by
  rw [nI_leI (by omega) (by omega)] at h
  exact (if_neg (by omega)).symm
theorem pF_3 {nm i : Nat} (h6 : nm ≤ 6) (hi : i < 6) (h : nI nm ≤ nI (pt i)) : 0 = pF nm i := by
  have hp := pt_le hi
  rw [nI_leI (by omega) (by omega)] at h
  exact (if_neg (by omega)).symm

set_option maxRecDepth 100000 in
set_option maxHeartbeats 4000000 in
theorem r_settles {V : wd_V} {ad : Nat → Nat} (hinj : wd_inj rS ad) (σ : wd_S) (nm : Nat) (hnm : σ.1 2 3 = nI nm) (h6 : nm ≤ 6) : wd_C rS V ad 0 yX5_settles (Cond.code yX5_settles cX5_settles 3 none :: wsL_law) σ [.ref (ad 0)] (wd_eq none (seW σ nm)) := by
  refine wd_intro (lv := [some (.ref (ad 0)), none, none]) hinj (by decide) rfl (Nat.le_of_ble_eq_true rfl) rfl (Nat.le_of_ble_eq_true rfl) (fun K hC => ?_)
  have loopC : ∀ (k i : Nat) (σ1 : wd_S) (o2 : Option Value), i ≤ 18 → 18 < i + k → seC σ1 = (seW σ nm) → wd_G rS V ad K 3 (wd_Qm rS V ad K (wd_eq none (seW σ nm))) 199 [some (.ref (ad 0)), some (.int (nI i)), o2] [] (mvW σ1 8 18 i) := by
    intro k
    induction k with
    | zero =>
      intro i σ1 o2 h1 h2 hF
      exact absurd h2 (by omega)
    | succ k ih =>
      intro i σ1 o2 h1 h2 hF
      refine wd_iload_n hC dX5_settles_199 rfl rfl ?_
      refine wd_bipush (v := 18) hC dX5_settles_200 rfl ?_
      refine wd_icmp_ge (tgt := 226) hC dX5_settles_202 (by decide) (fun c_202 => ?_) (fun c_202 => ?_)
      · have hin : _ = i := (lp_ge (n := 18) rfl c_202 h1 (by omega)).symm
        subst hin
        refine wd_aload_n hC dX5_settles_226 rfl rfl ?_
        refine wd_iconst (v := 0) hC dX5_settles_227 rfl ?_
        refine pf_X5_70 hC dX5_settles_228 ?_
        refine wd_aload_n hC dX5_settles_231 rfl rfl ?_
        refine wd_iconst (v := 0) hC dX5_settles_232 rfl ?_
        refine pf_X5_114 hC dX5_settles_233 ?_
        refine wd_aload_n hC dX5_settles_236 rfl rfl ?_
        refine wd_iconst (v := 0) hC dX5_settles_237 rfl ?_
        refine pf_X5_117 hC dX5_settles_238 ?_
        refine wd_aload_n hC dX5_settles_241 rfl rfl ?_
        refine gf_X5_43 hC dX5_settles_242 ?_
        refine wd_iconst (v := 0) hC dX5_settles_245 rfl ?_
        refine wd_iconst (v := 0) hC dX5_settles_246 rfl ?_
        refine rs_isKept hC dX5_settles_247 0 rfl (by decide) rfl ?_
        refine wd_aload_n hC dX5_settles_248 rfl rfl ?_
        refine gf_X5_43 hC dX5_settles_249 ?_
        refine wd_iconst (v := 1) hC dX5_settles_252 rfl ?_
        refine wd_iconst (v := 0) hC dX5_settles_253 rfl ?_
        refine rs_isKept hC dX5_settles_254 1 rfl (by decide) rfl ?_
        exact wd_vret hC rfl dX5_settles_255 hF
      · have hin : i < 18 := lp_lt (n := 18) rfl c_202 h1 (by omega)
        refine wd_aload_n hC dX5_settles_205 rfl rfl ?_
        refine gf_X5_31 hC dX5_settles_206 ?_
        refine wd_iload_n hC dX5_settles_209 rfl rfl ?_
        refine wd_aload_n hC dX5_settles_210 rfl rfl ?_
        refine gf_X5_31 hC dX5_settles_211 ?_
        refine wd_bipush (v := 18) hC dX5_settles_214 rfl ?_
        refine wd_iload_n hC dX5_settles_216 rfl rfl ?_
        refine wd_iadd hC dX5_settles_217 ?_
        refine rl_yields hC dX5_settles_218 (18 + i) (addI rfl 18) (by omega) ?_
        refine wd_vi (mvW_r σ1 8 18 i (18 + i) (by omega)) ?_
        refine rs_yields hC dX5_settles_219 (i) rfl (by omega) ?_
        refine wd_ts (mvW_s σ1 8 18 i) ?_
        refine wd_iincN_3_1 hC dX5_settles_220 ?_
        refine wd_goto (tgt := 199) hC dX5_settles_223 (by decide) ?_
        exact ih (i + 1) _ _ (by omega) (by omega) hF
  have loopB : ∀ (k i : Nat) (σ1 : wd_S) (o2 : Option Value), i ≤ 6 → 6 < i + k → σ1.1 2 1 = nI nm → seC (seB σ1 nm 6) = (seW σ nm) → wd_G rS V ad K 3 (wd_Qm rS V ad K (wd_eq none (seW σ nm))) 88 [some (.ref (ad 0)), some (.int (nI i)), o2] [] (seB σ1 nm i) := by
    intro k
    induction k with
    | zero =>
      intro i σ1 o2 h1 h2 h21 hF
      exact absurd h2 (by omega)
    | succ k ih =>
      intro i σ1 o2 h1 h2 h21 hF
      refine wd_iload_n hC dX5_settles_88 rfl rfl ?_
      refine wd_bipush (v := 6) hC dX5_settles_89 rfl ?_
      refine wd_icmp_ge (tgt := 197) hC dX5_settles_91 (by decide) (fun c_91 => ?_) (fun c_91 => ?_)
      · have hin : _ = i := (lp_ge (n := 6) rfl c_91 h1 (by omega)).symm
        subst hin
        refine wd_iconst (v := 0) hC dX5_settles_197 rfl ?_
        refine wd_istore_n_3_1 hC dX5_settles_198 ?_
        refine wd_ts (mvW_0 _ 8 18) ?_
        exact loopC 19 0 _ _ (by omega) (by omega) hF
      · have hin : i < 6 := lp_lt (n := 6) rfl c_91 h1 (by omega)
        refine wd_aload_n hC dX5_settles_94 rfl rfl ?_
        refine gf_X5_22 hC dX5_settles_95 ?_
        refine wd_iload_n hC dX5_settles_98 rfl rfl ?_
        refine wd_aload_n hC dX5_settles_99 rfl rfl ?_
        refine gf_X5_22 hC dX5_settles_100 ?_
        refine wd_bipush (v := 6) hC dX5_settles_103 rfl ?_
        refine wd_iload_n hC dX5_settles_105 rfl rfl ?_
        refine wd_iadd hC dX5_settles_106 ?_
        refine rl_strong hC dX5_settles_107 (6 + i) (addI rfl 6) (by omega) ?_
        refine wd_vi (show _ = σ1.1 5 (6 + i) from (by rw [seB, fcW_n _ _ _ (by decide), mvW_n _ _ _ _ (by decide), mvW_n _ _ _ _ (by decide), mvW_r _ _ _ _ _ (by omega)])) ?_
        refine rs_strong hC dX5_settles_108 (i) rfl (by omega) ?_
        refine wd_ts (show _ = fcW (mvW (mvW (mvW σ1 5 6 (i + 1)) 6 6 i) 7 6 i) nm i from (by rw [seB, fcW_c _ _ _ (by decide), mvW_c _ _ _ _ (by decide), mvW_c _ _ _ _ (by decide), mvW_s])) ?_
        refine wd_aload_n hC dX5_settles_109 rfl rfl ?_
        refine gf_X5_25 hC dX5_settles_110 ?_
        refine wd_iload_n hC dX5_settles_113 rfl rfl ?_
        refine wd_aload_n hC dX5_settles_114 rfl rfl ?_
        refine gf_X5_25 hC dX5_settles_115 ?_
        refine wd_bipush (v := 6) hC dX5_settles_118 rfl ?_
        refine wd_iload_n hC dX5_settles_120 rfl rfl ?_
        refine wd_iadd hC dX5_settles_121 ?_
        refine rl_legs hC dX5_settles_122 (6 + i) (addI rfl 6) (by omega) ?_
        refine wd_vi (show _ = (mvW σ1 5 6 (i + 1)).1 6 (6 + i) from (by rw [fcW_n _ _ _ (by decide), mvW_n _ _ _ _ (by decide), mvW_r _ _ _ _ _ (by omega)])) ?_
        refine rs_legs hC dX5_settles_123 (i) rfl (by omega) ?_
        refine wd_ts (show _ = fcW (mvW (mvW (mvW σ1 5 6 (i + 1)) 6 6 (i + 1)) 7 6 i) nm i from (by rw [fcW_c _ _ _ (by decide), mvW_c _ _ _ _ (by decide), mvW_s])) ?_
        refine wd_aload_n hC dX5_settles_124 rfl rfl ?_
        refine gf_X5_28 hC dX5_settles_125 ?_
        refine wd_iload_n hC dX5_settles_128 rfl rfl ?_
        refine wd_aload_n hC dX5_settles_129 rfl rfl ?_
        refine gf_X5_28 hC dX5_settles_130 ?_
        refine wd_bipush (v := 6) hC dX5_settles_133 rfl ?_
        refine wd_iload_n hC dX5_settles_135 rfl rfl ?_
        refine wd_iadd hC dX5_settles_136 ?_
        refine rl_needs hC dX5_settles_137 (6 + i) (addI rfl 6) (by omega) ?_
        refine wd_vi (show _ = (mvW (mvW σ1 5 6 (i + 1)) 6 6 (i + 1)).1 7 (6 + i) from (by rw [fcW_n _ _ _ (by decide), mvW_r _ _ _ _ _ (by omega)])) ?_
        refine rs_needs hC dX5_settles_138 (i) rfl (by omega) ?_
        refine wd_ts (show _ = fcW (mvW (mvW (mvW σ1 5 6 (i + 1)) 6 6 (i + 1)) 7 6 (i + 1)) nm i from (by rw [fcW_c _ _ _ (by decide), mvW_s])) ?_
        refine wd_iload_n hC dX5_settles_139 rfl rfl ?_
        refine wd_iconst (v := 2) hC dX5_settles_140 rfl ?_
        refine wd_irem hC dX5_settles_141 (by decide) ?_
        refine wd_vi (pk_rem (a := i) (d := 2) (by omega) (by decide) (by decide)) ?_
        refine wd_if_ne (tgt := 151) hC dX5_settles_142 (by decide) (fun c_142 => ?_) (fun c_142 => ?_)
        · refine wd_iload_n hC dX5_settles_151 rfl rfl ?_
          refine wd_iconst (v := 1) hC dX5_settles_152 rfl ?_
          refine wd_isub hC dX5_settles_153 ?_
          refine wd_vi (par_1 c_142) ?_
          refine wd_istore_n_3_2 hC dX5_settles_154 ?_
          refine wd_aload_n hC dX5_settles_155 rfl rfl ?_
          refine gf_X5_34 hC dX5_settles_156 ?_
          refine wd_bipush (v := 6) hC dX5_settles_159 rfl ?_
          refine wd_iload_n hC dX5_settles_161 rfl rfl ?_
          refine wd_iadd hC dX5_settles_162 ?_
          refine wd_iload_n hC dX5_settles_163 rfl rfl ?_
          refine wd_aload_n hC dX5_settles_164 rfl rfl ?_
          refine gf_X5_13 hC dX5_settles_165 ?_
          refine wd_iconst (v := 1) hC dX5_settles_168 rfl ?_
          refine rl_many hC dX5_settles_169 1 rfl (by decide) ?_
          refine wd_vi (show _ = nI nm from (by rw [fcW_n _ _ _ (by decide), mvW_n _ _ _ _ (by decide), mvW_n _ _ _ _ (by decide), mvW_n _ _ _ _ (by decide)]; exact h21)) ?_
          refine wd_icmp_ge (tgt := 189) hC dX5_settles_170 (by decide) (fun c_170 => ?_) (fun c_170 => ?_)
          · refine wd_iconst (v := 0) hC dX5_settles_189 rfl ?_
            refine rs_s hC dX5_settles_190 (6 + i) (addI rfl 6) (by omega) ?_
            refine wd_ts (show _ = seB σ1 nm (i + 1) from (by rw [show wd_up _ _ _ _ = wd_up _ 9 (6 + i) (pF nm i) from congrArg _ (by first | exact pF_1 h6 hin c_170 c_180 | exact pF_2 h6 hin c_170 | exact pF_3 h6 hin c_180), fcW_s]; rfl)) ?_
            refine wd_iincN_3_1 hC dX5_settles_191 ?_
            refine wd_goto (tgt := 88) hC dX5_settles_194 (by decide) ?_
            exact ih (i + 1) _ _ (by omega) (by omega) h21 hF
          · refine wd_iload_n hC dX5_settles_173 rfl rfl ?_
            refine wd_aload_n hC dX5_settles_174 rfl rfl ?_
            refine gf_X5_13 hC dX5_settles_175 ?_
            refine wd_iconst (v := 1) hC dX5_settles_178 rfl ?_
            refine rl_many hC dX5_settles_179 1 rfl (by decide) ?_
            refine wd_vi (show _ = nI nm from (by rw [fcW_n _ _ _ (by decide), mvW_n _ _ _ _ (by decide), mvW_n _ _ _ _ (by decide), mvW_n _ _ _ _ (by decide)]; exact h21)) ?_
            refine wd_icmp_ge (tgt := 189) hC dX5_settles_180 (by decide) (fun c_180 => ?_) (fun c_180 => ?_)
            · refine wd_iconst (v := 0) hC dX5_settles_189 rfl ?_
              refine rs_s hC dX5_settles_190 (6 + i) (addI rfl 6) (by omega) ?_
              refine wd_ts (show _ = seB σ1 nm (i + 1) from (by rw [show wd_up _ _ _ _ = wd_up _ 9 (6 + i) (pF nm i) from congrArg _ (by first | exact pF_1 h6 hin c_170 c_180 | exact pF_2 h6 hin c_170 | exact pF_3 h6 hin c_180), fcW_s]; rfl)) ?_
              refine wd_iincN_3_1 hC dX5_settles_191 ?_
              refine wd_goto (tgt := 88) hC dX5_settles_194 (by decide) ?_
              exact ih (i + 1) _ _ (by omega) (by omega) h21 hF
            · refine wd_iload_n hC dX5_settles_183 rfl rfl ?_
              refine wd_iconst (v := 1) hC dX5_settles_184 rfl ?_
              refine wd_iadd hC dX5_settles_185 ?_
              refine wd_goto (tgt := 190) hC dX5_settles_186 (by decide) ?_
              refine rs_s hC dX5_settles_190 (6 + i) (addI rfl 6) (by omega) ?_
              refine wd_ts (show _ = seB σ1 nm (i + 1) from (by rw [show wd_up _ _ _ _ = wd_up _ 9 (6 + i) (pF nm i) from congrArg _ (by first | exact pF_1 h6 hin c_170 c_180 | exact pF_2 h6 hin c_170 | exact pF_3 h6 hin c_180), fcW_s]; rfl)) ?_
              refine wd_iincN_3_1 hC dX5_settles_191 ?_
              refine wd_goto (tgt := 88) hC dX5_settles_194 (by decide) ?_
              exact ih (i + 1) _ _ (by omega) (by omega) h21 hF
        · refine wd_iload_n hC dX5_settles_145 rfl rfl ?_
          refine wd_iconst (v := 1) hC dX5_settles_146 rfl ?_
          refine wd_iadd hC dX5_settles_147 ?_
          refine wd_vi (par_0 c_142) ?_
          refine wd_goto (tgt := 154) hC dX5_settles_148 (by decide) ?_
          refine wd_istore_n_3_2 hC dX5_settles_154 ?_
          refine wd_aload_n hC dX5_settles_155 rfl rfl ?_
          refine gf_X5_34 hC dX5_settles_156 ?_
          refine wd_bipush (v := 6) hC dX5_settles_159 rfl ?_
          refine wd_iload_n hC dX5_settles_161 rfl rfl ?_
          refine wd_iadd hC dX5_settles_162 ?_
          refine wd_iload_n hC dX5_settles_163 rfl rfl ?_
          refine wd_aload_n hC dX5_settles_164 rfl rfl ?_
          refine gf_X5_13 hC dX5_settles_165 ?_
          refine wd_iconst (v := 1) hC dX5_settles_168 rfl ?_
          refine rl_many hC dX5_settles_169 1 rfl (by decide) ?_
          refine wd_vi (show _ = nI nm from (by rw [fcW_n _ _ _ (by decide), mvW_n _ _ _ _ (by decide), mvW_n _ _ _ _ (by decide), mvW_n _ _ _ _ (by decide)]; exact h21)) ?_
          refine wd_icmp_ge (tgt := 189) hC dX5_settles_170 (by decide) (fun c_170 => ?_) (fun c_170 => ?_)
          · refine wd_iconst (v := 0) hC dX5_settles_189 rfl ?_
            refine rs_s hC dX5_settles_190 (6 + i) (addI rfl 6) (by omega) ?_
            refine wd_ts (show _ = seB σ1 nm (i + 1) from (by rw [show wd_up _ _ _ _ = wd_up _ 9 (6 + i) (pF nm i) from congrArg _ (by first | exact pF_1 h6 hin c_170 c_180 | exact pF_2 h6 hin c_170 | exact pF_3 h6 hin c_180), fcW_s]; rfl)) ?_
            refine wd_iincN_3_1 hC dX5_settles_191 ?_
            refine wd_goto (tgt := 88) hC dX5_settles_194 (by decide) ?_
            exact ih (i + 1) _ _ (by omega) (by omega) h21 hF
          · refine wd_iload_n hC dX5_settles_173 rfl rfl ?_
            refine wd_aload_n hC dX5_settles_174 rfl rfl ?_
            refine gf_X5_13 hC dX5_settles_175 ?_
            refine wd_iconst (v := 1) hC dX5_settles_178 rfl ?_
            refine rl_many hC dX5_settles_179 1 rfl (by decide) ?_
            refine wd_vi (show _ = nI nm from (by rw [fcW_n _ _ _ (by decide), mvW_n _ _ _ _ (by decide), mvW_n _ _ _ _ (by decide), mvW_n _ _ _ _ (by decide)]; exact h21)) ?_
            refine wd_icmp_ge (tgt := 189) hC dX5_settles_180 (by decide) (fun c_180 => ?_) (fun c_180 => ?_)
            · refine wd_iconst (v := 0) hC dX5_settles_189 rfl ?_
              refine rs_s hC dX5_settles_190 (6 + i) (addI rfl 6) (by omega) ?_
              refine wd_ts (show _ = seB σ1 nm (i + 1) from (by rw [show wd_up _ _ _ _ = wd_up _ 9 (6 + i) (pF nm i) from congrArg _ (by first | exact pF_1 h6 hin c_170 c_180 | exact pF_2 h6 hin c_170 | exact pF_3 h6 hin c_180), fcW_s]; rfl)) ?_
              refine wd_iincN_3_1 hC dX5_settles_191 ?_
              refine wd_goto (tgt := 88) hC dX5_settles_194 (by decide) ?_
              exact ih (i + 1) _ _ (by omega) (by omega) h21 hF
            · refine wd_iload_n hC dX5_settles_183 rfl rfl ?_
              refine wd_iconst (v := 1) hC dX5_settles_184 rfl ?_
              refine wd_iadd hC dX5_settles_185 ?_
              refine wd_goto (tgt := 190) hC dX5_settles_186 (by decide) ?_
              refine rs_s hC dX5_settles_190 (6 + i) (addI rfl 6) (by omega) ?_
              refine wd_ts (show _ = seB σ1 nm (i + 1) from (by rw [show wd_up _ _ _ _ = wd_up _ 9 (6 + i) (pF nm i) from congrArg _ (by first | exact pF_1 h6 hin c_170 c_180 | exact pF_2 h6 hin c_170 | exact pF_3 h6 hin c_180), fcW_s]; rfl)) ?_
              refine wd_iincN_3_1 hC dX5_settles_191 ?_
              refine wd_goto (tgt := 88) hC dX5_settles_194 (by decide) ?_
              exact ih (i + 1) _ _ (by omega) (by omega) h21 hF
  have loopA : ∀ (k i : Nat) (σ1 : wd_S) (o2 : Option Value), i ≤ 3 → 3 < i + k → σ1.1 2 1 = nI nm → seC (seB (seA σ1 3) nm 6) = (seW σ nm) → wd_G rS V ad K 3 (wd_Qm rS V ad K (wd_eq none (seW σ nm))) 47 [some (.ref (ad 0)), some (.int (nI i)), o2] [] (seA σ1 i) := by
    intro k
    induction k with
    | zero =>
      intro i σ1 o2 h1 h2 h21 hF
      exact absurd h2 (by omega)
    | succ k ih =>
      intro i σ1 o2 h1 h2 h21 hF
      refine wd_iload_n hC dX5_settles_47 rfl rfl ?_
      refine wd_iconst (v := 3) hC dX5_settles_48 rfl ?_
      refine wd_icmp_ge (tgt := 86) hC dX5_settles_49 (by decide) (fun c_49 => ?_) (fun c_49 => ?_)
      · have hin : _ = i := (lp_ge (n := 3) rfl c_49 h1 (by omega)).symm
        subst hin
        refine wd_iconst (v := 0) hC dX5_settles_86 rfl ?_
        refine wd_istore_n_3_1 hC dX5_settles_87 ?_
        refine wd_ts (show _ = seB _ nm 0 from (by unfold seB; rw [← fcW_0, ← mvW_0, ← mvW_0, ← mvW_0])) ?_
        exact loopB 7 0 _ _ (by omega) (by omega) (by rw [seA, mvW_n _ _ _ _ (by decide), mvW_n _ _ _ _ (by decide)]; exact h21) hF
      · have hin : i < 3 := lp_lt (n := 3) rfl c_49 h1 (by omega)
        refine wd_aload_n hC dX5_settles_52 rfl rfl ?_
        refine gf_X5_16 hC dX5_settles_53 ?_
        refine wd_iload_n hC dX5_settles_56 rfl rfl ?_
        refine wd_aload_n hC dX5_settles_57 rfl rfl ?_
        refine gf_X5_16 hC dX5_settles_58 ?_
        refine wd_iconst (v := 3) hC dX5_settles_61 rfl ?_
        refine wd_iload_n hC dX5_settles_62 rfl rfl ?_
        refine wd_iadd hC dX5_settles_63 ?_
        refine rl_weight hC dX5_settles_64 (3 + i) (addI rfl 3) (by omega) ?_
        refine wd_vi (show _ = σ1.1 3 (3 + i) from (by rw [seA, mvW_n _ _ _ _ (by decide), mvW_r _ _ _ _ _ (by omega)])) ?_
        refine rs_weight hC dX5_settles_65 (i) rfl (by omega) ?_
        refine wd_ts (show _ = mvW (mvW σ1 3 3 (i + 1)) 4 3 i from (by rw [seA, mvW_c _ _ _ _ (by decide), mvW_s])) ?_
        refine wd_aload_n hC dX5_settles_66 rfl rfl ?_
        refine gf_X5_19 hC dX5_settles_67 ?_
        refine wd_iload_n hC dX5_settles_70 rfl rfl ?_
        refine wd_aload_n hC dX5_settles_71 rfl rfl ?_
        refine gf_X5_19 hC dX5_settles_72 ?_
        refine wd_iconst (v := 3) hC dX5_settles_75 rfl ?_
        refine wd_iload_n hC dX5_settles_76 rfl rfl ?_
        refine wd_iadd hC dX5_settles_77 ?_
        refine rl_worth hC dX5_settles_78 (3 + i) (addI rfl 3) (by omega) ?_
        refine wd_vi (show _ = (mvW σ1 3 3 (i + 1)).1 4 (3 + i) from (by rw [mvW_r _ _ _ _ _ (by omega)])) ?_
        refine rs_worth hC dX5_settles_79 (i) rfl (by omega) ?_
        refine wd_ts (show _ = seA σ1 (i + 1) from (by rw [mvW_s]; rfl)) ?_
        refine wd_iincN_3_1 hC dX5_settles_80 ?_
        refine wd_goto (tgt := 47) hC dX5_settles_83 (by decide) ?_
        exact ih (i + 1) _ _ (by omega) (by omega) h21 hF
  have loopZ : ∀ (k i : Nat) (σ1 : wd_S) (o2 : Option Value), i ≤ 32 → 32 < i + k → σ1.1 2 1 = nI nm → seC (seB (seA (zS σ1 32) 3) nm 6) = (seW σ nm) → wd_G rS V ad K 3 (wd_Qm rS V ad K (wd_eq none (seW σ nm))) 26 [some (.ref (ad 0)), some (.int (nI i)), o2] [] (zS σ1 i) := by
    intro k
    induction k with
    | zero =>
      intro i σ1 o2 h1 h2 h21 hF
      exact absurd h2 (by omega)
    | succ k ih =>
      intro i σ1 o2 h1 h2 h21 hF
      refine wd_iload_n hC dX5_settles_26 rfl rfl ?_
      refine wd_bipush (v := 32) hC dX5_settles_27 rfl ?_
      refine wd_icmp_ge (tgt := 45) hC dX5_settles_29 (by decide) (fun c_29 => ?_) (fun c_29 => ?_)
      · have hin : _ = i := (lp_ge (n := 32) rfl c_29 h1 (by omega)).symm
        subst hin
        refine wd_iconst (v := 0) hC dX5_settles_45 rfl ?_
        refine wd_istore_n_3_1 hC dX5_settles_46 ?_
        refine wd_ts (show _ = seA _ 0 from (by unfold seA; rw [← mvW_0, ← mvW_0])) ?_
        exact loopA 4 0 _ _ (by omega) (by omega) (by rw [zS_n _ _ (by decide)]; exact h21) hF
      · have hin : i < 32 := lp_lt (n := 32) rfl c_29 h1 (by omega)
        refine wd_aload_n hC dX5_settles_32 rfl rfl ?_
        refine gf_X5_34 hC dX5_settles_33 ?_
        refine wd_iload_n hC dX5_settles_36 rfl rfl ?_
        refine wd_iconst (v := 0) hC dX5_settles_37 rfl ?_
        refine rs_s hC dX5_settles_38 (i) rfl (by omega) ?_
        refine wd_ts (zS_s σ1 i) ?_
        refine wd_iincN_3_1 hC dX5_settles_39 ?_
        refine wd_goto (tgt := 26) hC dX5_settles_42 (by decide) ?_
        exact ih (i + 1) _ _ (by omega) (by omega) h21 hF
  refine wd_aload_n hC dX5_settles_0 rfl rfl ?_
  refine gf_X5_13 hC dX5_settles_1 ?_
  refine wd_iconst (v := 0) hC dX5_settles_4 rfl ?_
  refine wd_aload_n hC dX5_settles_5 rfl rfl ?_
  refine gf_X5_13 hC dX5_settles_6 ?_
  refine wd_iconst (v := 2) hC dX5_settles_9 rfl ?_
  refine rl_many hC dX5_settles_10 2 rfl (by decide) ?_
  refine rs_many hC dX5_settles_11 0 rfl (by decide) ?_
  refine wd_aload_n hC dX5_settles_12 rfl rfl ?_
  refine gf_X5_13 hC dX5_settles_13 ?_
  refine wd_iconst (v := 1) hC dX5_settles_16 rfl ?_
  refine wd_aload_n hC dX5_settles_17 rfl rfl ?_
  refine gf_X5_13 hC dX5_settles_18 ?_
  refine wd_iconst (v := 3) hC dX5_settles_21 rfl ?_
  refine rl_many hC dX5_settles_22 3 rfl (by decide) ?_
  refine wd_vi (show _ = nI nm from hnm) ?_
  refine rs_many hC dX5_settles_23 1 rfl (by decide) ?_
  refine wd_iconst (v := 0) hC dX5_settles_24 rfl ?_
  refine wd_istore_n_3_1 hC dX5_settles_25 ?_
  refine wd_ts (zS_0 _) ?_
  exact loopZ 33 0 _ _ (by omega) (by omega) rfl rfl

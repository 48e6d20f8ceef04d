/-! THE CALLS THAT LOOK AT ALL BLOCKS OR NUMBERS OF A FRESH OBJECT -/
section VALT
variable {n : Nat} {z zm : x_St}
theorem v_get (hx : x_fr n z) (hn : n ≤ 40) {b i : Nat} (hb : b < n) (hi : i < 64) : f_B_get n (nI b) (nI i) z = some (0, z) := by
  unfold f_B_get
  have e : nI b * (64 : Int32) + nI i = nI (b * 64 + i) := by
    rw [show (64 : Int32) = nI 64 from rfl, pk_mul, nI_add]
  have h : vp_in (nI (b * 64 + i)) (x_ln n 2) := vp_in_nI (show b * 64 + i < n * 64 by omega) (show n * 64 < 2 ^ 31 by omega)
  rw [e, v_ck h, hx.2.2.2.2.1]
theorem v_blank_2 (hx : x_fr n z) (hn : n ≤ 40) {b : Nat} (hb : b < n) : ∀ (d i fu : Nat), i + d = 64 → d < fu → f_B_isBlank_2 n fu (nI b) (nI i) z = some (1, z) := by
  intro d
  induction d with
  | zero =>
    intro i fu hi hf
    obtain ⟨f, rfl, -⟩ := v_fu hf
    rw [f_B_isBlank_2, if_pos (show (64 : Int32) ≤ nI i from nI_le (show 64 ≤ i by omega) (by omega))]
  | succ d ih =>
    intro i fu hi hf
    obtain ⟨f, rfl, hf2⟩ := v_fu hf
    rw [f_B_isBlank_2, if_neg (show ¬ (64 : Int32) ≤ nI i from nI_ge (show i < 64 by omega) (by decide)), v_cl (v_get hx hn hb (show i < 64 by omega)), if_pos rfl, nI_1]
    exact ih (i + 1) f (by omega) (by omega)
theorem v_blank (hx : x_fr n z) (hn : n ≤ 40) {b : Nat} (hb : b < n) : f_B_isBlank n (nI b) z = some (1, z) := v_blank_2 hx hn hb 64 0 x_FU (by decide) (by decide)
theorem v_wfb (hx : x_fr n z) (hn : n ≤ 40) : ∀ (d i fu : Nat), i + d = n → d < fu → f_X_wipeFreeBlocks_4 n fu (-1) 0 (nI i) z = some (0, z) := by
  intro d
  induction d with
  | zero =>
    intro i fu hi hf
    obtain ⟨f, rfl, -⟩ := v_fu hf
    rw [f_X_wipeFreeBlocks_4, hx.1, if_pos (nI_le (show n ≤ i by omega) (by omega))]
    rfl
  | succ d ih =>
    intro i fu hi hf
    obtain ⟨f, rfl, hf2⟩ := v_fu hf
    rw [f_X_wipeFreeBlocks_4, hx.1, if_neg (nI_ge (show i < n by omega) (by omega)), if_pos rfl, v_ck (vp_in_nI (show i < n by omega) (by omega)), if_pos (hx.2.2.2.2.2.1 _), v_cl (v_blank hx hn (show i < n by omega)), if_neg (by decide), nI_1]
    exact ih (i + 1) f (by omega) (by omega)
theorem v_L_sweep (hx : x_fr n z) (hn : n ≤ 40) : ∃ z1, f_L_sweep n z = some (0, z1) ∧ z1.2 110 0 = ((0 : Int32)).toInt64 := by
  have h : f_X_sweep n z = some (Sum.inr 0, z) := by
    unfold f_X_sweep
    have hw : f_X_wipeFreeBlocks n (-1) z = some (0, z) := v_wfb hx hn n 0 x_FU (by omega) (show n < 1000000 by omega)
    rw [v_clr (v_rwc hx), v_cl hw, if_neg (by decide)]
  refine ⟨_, ?_, v_out z ((0 : Int32)).toInt64⟩
  unfold f_L_sweep
  rw [v_tryr h, v_ck (v_d (by decide))]
theorem v_X_badAt (hx : x_fr n z) (hn : n ≤ 40) : f_X_badAt n z = some (-1, z) := by
  have h : ∀ (d i fu : Nat), i + d = n → d < fu → f_X_badAt_2 n fu (nI i) z = some (-1, z) := by
    intro d
    induction d with
    | zero =>
      intro i fu hi hf
      obtain ⟨f, rfl, -⟩ := v_fu hf
      rw [f_X_badAt_2, hx.1, if_pos (nI_le (show n ≤ i by omega) (by omega))]
    | succ d ih =>
      intro i fu hi hf
      obtain ⟨f, rfl, hf2⟩ := v_fu hf
      rw [f_X_badAt_2, hx.1, if_neg (nI_ge (show i < n by omega) (by omega)), v_cl (v_blank hx hn (show i < n by omega)), if_neg (by decide), nI_1]
      exact ih (i + 1) f (by omega) (by omega)
  exact h n 0 x_FU (by omega) (show n < 1000000 by omega)
theorem v_X_onlyGood (hx : x_fr n z) (hn : n ≤ 40) (p : Int32) : f_B_onlyGood n 3 p (-1) z = some (-1, z) := by
  have h : ∀ (d i fu : Nat), i + d = n → d < fu → f_B_onlyGood_6 n fu 3 p (-1) (-1) (nI i) z = some (-1, z) := by
    intro d
    induction d with
    | zero =>
      intro i fu hi hf
      obtain ⟨f, rfl, -⟩ := v_fu hf
      rw [f_B_onlyGood_6, hx.1, if_pos (nI_le (show n ≤ i by omega) (by omega))]
      rfl
    | succ d ih =>
      intro i fu hi hf
      obtain ⟨f, rfl, hf2⟩ := v_fu hf
      have hg : f_B_get n (nI i) (4 : Int32) z = some (0, z) := v_get hx hn (b := i) (i := 4) (by omega) (by decide)
      rw [f_B_onlyGood_6, hx.1, if_neg (nI_ge (show i < n by omega) (by omega)), v_cl hg, if_neg (by decide), nI_1]
      exact ih (i + 1) f (by omega) (by omega)
  exact h n 0 x_FU (by omega) (show n < 1000000 by omega)
theorem v_X_countKept (hx : x_fr n z) : f_X_countKept n z = some (0, z) := by
  have h : ∀ (d i fu : Nat), i + d = 16 → d < fu → f_X_countKept_4 n fu 0 (nI i) z = some (0, z) := by
    intro d
    induction d with
    | zero =>
      intro i fu hi hf
      obtain ⟨f, rfl, -⟩ := v_fu hf
      rw [f_X_countKept_4, if_pos (show (16 : Int32) ≤ nI i from nI_le (show 16 ≤ i by omega) (by omega))]
      rfl
    | succ d ih =>
      intro i fu hi hf
      obtain ⟨f, rfl, hf2⟩ := v_fu hf
      rw [f_X_countKept_4, if_neg (show ¬ (16 : Int32) ≤ nI i from nI_ge (show i < 16 by omega) (by decide)), v_ck (vp_in_nI (show i < 16 by omega) (by decide)), nI_clamp (show i < 2 ^ 31 by omega), if_pos (hx.2.2.2.2.2.2.2 i (by omega)), nI_1, show (0 : Int32) + 0 = 0 from rfl]
      exact ih (i + 1) f (by omega) (by omega)
  exact h 16 0 x_FU (by decide) (by decide)
theorem v_X_countMade (hx : x_fr n z) : f_X_countMade n z = some (0, z) := by
  have h : ∀ (d i fu : Nat), i + d = 8 → d < fu → f_X_countMade_4 n fu 0 (nI i) z = some (0, z) := by
    intro d
    induction d with
    | zero =>
      intro i fu hi hf
      obtain ⟨f, rfl, -⟩ := v_fu hf
      rw [f_X_countMade_4, if_pos (show (8 : Int32) ≤ nI i from nI_le (show 8 ≤ i by omega) (by omega))]
      rfl
    | succ d ih =>
      intro i fu hi hf
      obtain ⟨f, rfl, hf2⟩ := v_fu hf
      rw [f_X_countMade_4, if_neg (show ¬ (8 : Int32) ≤ nI i from nI_ge (show i < 8 by omega) (by decide)), v_ck (vp_in_nI (show i < 8 by omega) (by decide)), nI_clamp (show i < 2 ^ 31 by omega), if_pos (hx.2.2.2.2.2.2.1 i (by omega)), nI_1, show (0 : Int32) + 0 = 0 from rfl]
      exact ih (i + 1) f (by omega) (by omega)
  exact h 8 0 x_FU (by decide) (by decide)
theorem v_X_countFree (hx : x_fr n z) (hn : n ≤ 40) : f_X_countFreeBlocks n z = some (nI n, z) := by
  have h : ∀ (d i fu : Nat), i + d = n → d < fu → f_X_countFreeBlocks_4 n fu (nI i) (nI i) z = some (nI n, z) := by
    intro d
    induction d with
    | zero =>
      intro i fu hi hf
      obtain ⟨f, rfl, -⟩ := v_fu hf
      have e : i = n := by omega
      rw [f_X_countFreeBlocks_4, hx.1, e, if_pos (nI_le (Nat.le_refl n) (by omega))]
      rfl
    | succ d ih =>
      intro i fu hi hf
      obtain ⟨f, rfl, hf2⟩ := v_fu hf
      rw [f_X_countFreeBlocks_4, hx.1, if_neg (nI_ge (show i < n by omega) (by omega)), v_ck (vp_in_nI (show i < n by omega) (by omega)), if_pos (hx.2.2.2.2.2.1 _), nI_1]
      exact ih (i + 1) f (by omega) (by omega)
  exact h n 0 x_FU (by omega) (show n < 1000000 by omega)
theorem v_X_forget (hx : x_fr n z) (hn : n ≤ 40) : f_X_forget n z = some ((), z) := by
  have h3 : ∀ (d i fu : Nat), i + d = n → d < fu → f_X_forget_50 n fu (nI i) z = some ((), z) := by
    intro d
    induction d with
    | zero =>
      intro i fu hi hf
      obtain ⟨f, rfl, -⟩ := v_fu hf
      rw [f_X_forget_50, hx.1, if_pos (nI_le (show n ≤ i by omega) (by omega)), f_X_forget_74, x_put_id z hx.2.2.2.1]
    | succ d ih =>
      intro i fu hi hf
      obtain ⟨f, rfl, hf2⟩ := v_fu hf
      rw [f_X_forget_50, hx.1, if_neg (nI_ge (show i < n by omega) (by omega)), v_ck (vp_in_nI (show i < n by omega) (by omega)), x_put_id z ((hx.2.2.2.2.2.1 _).trans (by decide)), nI_1]
      exact ih (i + 1) f (by omega) (by omega)
  have h2 : ∀ (d i fu : Nat), i + d = 16 → d < fu → f_X_forget_26 n fu (nI i) z = some ((), z) := by
    intro d
    induction d with
    | zero =>
      intro i fu hi hf
      obtain ⟨f, rfl, -⟩ := v_fu hf
      rw [f_X_forget_26, if_pos (show (16 : Int32) ≤ nI i from nI_le (show 16 ≤ i by omega) (by omega)), f_X_forget_48]
      exact h3 n 0 x_FU (by omega) (show n < 1000000 by omega)
    | succ d ih =>
      intro i fu hi hf
      obtain ⟨f, rfl, hf2⟩ := v_fu hf
      rw [f_X_forget_26, if_neg (show ¬ (16 : Int32) ≤ nI i from nI_ge (show i < 16 by omega) (by decide)), v_ck (vp_in_nI (show i < 16 by omega) (by decide)), nI_clamp (show i < 2 ^ 31 by omega), x_put_id z (hx.2.2.2.2.2.2.2 i (by omega)), nI_1]
      exact ih (i + 1) f (by omega) (by omega)
  have h1 : ∀ (d i fu : Nat), i + d = 8 → d < fu → f_X_forget_2 n fu (nI i) z = some ((), z) := by
    intro d
    induction d with
    | zero =>
      intro i fu hi hf
      obtain ⟨f, rfl, -⟩ := v_fu hf
      rw [f_X_forget_2, if_pos (show (8 : Int32) ≤ nI i from nI_le (show 8 ≤ i by omega) (by omega)), f_X_forget_24]
      exact h2 16 0 x_FU (by decide) (by decide)
    | succ d ih =>
      intro i fu hi hf
      obtain ⟨f, rfl, hf2⟩ := v_fu hf
      rw [f_X_forget_2, if_neg (show ¬ (8 : Int32) ≤ nI i from nI_ge (show i < 8 by omega) (by decide)), v_ck (vp_in_nI (show i < 8 by omega) (by decide)), nI_clamp (show i < 2 ^ 31 by omega), x_put_id z (hx.2.2.2.2.2.2.1 i (by omega)), nI_1]
      exact ih (i + 1) f (by omega) (by omega)
  exact h1 8 0 x_FU (by decide) (by decide)
theorem v_X_reopen (hx : x_fr n z) (hn : n ≤ 40) : f_X_reopen n z = some (0, z) := by
  have h : ∀ (d i fu : Nat), i + d = 16 → d < fu → f_X_reopen_22 n fu (nI i) z = some (0, z) := by
    intro d
    induction d with
    | zero =>
      intro i fu hi hf
      obtain ⟨f, rfl, -⟩ := v_fu hf
      rw [f_X_reopen_22, if_pos (show (16 : Int32) ≤ nI i from nI_le (show 16 ≤ i by omega) (by omega)), f_X_reopen_39, v_cl (v_X_countKept hx)]
    | succ d ih =>
      intro i fu hi hf
      obtain ⟨f, rfl, hf2⟩ := v_fu hf
      have ho : f_X_openNumber n (nI i) z = some ((), z) := by
        unfold f_X_openNumber
        rw [v_ck (vp_in_nI (show i < 16 by omega) (by decide)), v_cl (v_X_onlyGood hx hn (nI i)), if_pos rfl]
      rw [f_X_reopen_22, if_neg (show ¬ (16 : Int32) ≤ nI i from nI_ge (show i < 16 by omega) (by decide)), v_cl ho, nI_1]
      exact ih (i + 1) f (by omega) (by omega)
  unfold f_X_reopen
  rw [x_put_id z hx.2.1, x_put_id z hx.2.2.1, v_cl (v_X_forget hx hn)]
  exact h 16 0 x_FU (by decide) (by decide)
/-! the reference -/
theorem v_noth (hm : m_fr n zm) {b : Nat} (hb : b < 40) : f_M_isNothing n (nI b) zm = some (1, zm) := by
  have e : (64 : Int32) * nI b + (64 : Int32) = nI (64 * b + 64) := by
    rw [show (64 : Int32) = nI 64 from rfl, pk_mul, nI_add]
  have h : ∀ (d i fu : Nat), i + d = 64 * b + 64 → d < fu → f_M_isNothing_7 n fu (nI b) 1 (nI i) zm = some (1, zm) := by
    intro d
    induction d with
    | zero =>
      intro i fu hi hf
      obtain ⟨f, rfl, -⟩ := v_fu hf
      rw [f_M_isNothing_7, e, if_pos (nI_le (show 64 * b + 64 ≤ i by omega) (by omega)), f_M_isNothing_43, x_ckb, if_pos (Or.inr rfl)]
    | succ d ih =>
      intro i fu hi hf
      obtain ⟨f, rfl, hf2⟩ := v_fu hf
      rw [f_M_isNothing_7, e, if_neg (nI_ge (show i < 64 * b + 64 by omega) (by omega)), if_neg (by decide), v_ckm 2560 (vp_in_nI (show i < 2560 by omega) (by decide)) (by rfl), if_pos (hm.2.2.2.2.2.1 _), nI_1]
      exact ih (i + 1) f (by omega) (by omega)
  unfold f_M_isNothing
  rw [show (64 : Int32) * nI b = nI (64 * b) by rw [show (64 : Int32) = nI 64 from rfl, pk_mul]]
  exact h 64 (64 * b) x_FU (by omega) (by decide)
theorem v_M_gone (hm : m_fr n zm) : f_M_isGone n zm = some (0, zm) := by
  unfold f_M_isGone
  rw [if_pos hm.2.2.1, f_M_isGone_11, hm.2.2.1, x_ckb, if_pos (Or.inl rfl)]
theorem v_M_sweep (hm : m_fr n zm) (hn : n ≤ 40) : f_M_sweep n zm = some (0, zm) := by
  have h : ∀ (d i fu : Nat), i + d = n → d < fu → f_M_sweep_29 n fu 0 (nI i) zm = some (0, zm) := by
    intro d
    induction d with
    | zero =>
      intro i fu hi hf
      obtain ⟨f, rfl, -⟩ := v_fu hf
      rw [f_M_sweep_29, hm.2.1, if_pos (nI_le (show n ≤ i by omega) (by omega)), f_M_sweep_76, v_cl (v_M_gone hm), if_pos rfl]
    | succ d ih =>
      intro i fu hi hf
      obtain ⟨f, rfl, hf2⟩ := v_fu hf
      rw [f_M_sweep_29, hm.2.1, if_neg (nI_ge (show i < n by omega) (by omega)), if_pos hm.2.2.1, v_ckm 40 (vp_in_nI (show i < 40 by omega) (by decide)) (by rfl), nI_clamp (show i < 2 ^ 31 by omega), if_pos (hm.2.2.2.2.2.2.2.2 i (by omega)), v_cl (v_noth hm (show i < 40 by omega)), if_neg (by decide), nI_1]
      exact ih (i + 1) f (by omega) (by omega)
  unfold f_M_sweep
  rw [if_pos hm.2.2.1, x_put_id zm hm.1, hm.1, if_pos (by decide)]
  exact h n 0 x_FU (by omega) (show n < 1000000 by omega)
theorem v_M_badAt (hm : m_fr n zm) (hn : n ≤ 40) : f_M_badAt n zm = some (-1, zm) := by
  have h : ∀ (d i fu : Nat), i + d = n → d < fu → f_M_badAt_7 n fu (nI i) zm = some (-1, zm) := by
    intro d
    induction d with
    | zero =>
      intro i fu hi hf
      obtain ⟨f, rfl, -⟩ := v_fu hf
      rw [f_M_badAt_7, hm.2.1, if_pos (nI_le (show n ≤ i by omega) (by omega))]
    | succ d ih =>
      intro i fu hi hf
      obtain ⟨f, rfl, hf2⟩ := v_fu hf
      rw [f_M_badAt_7, hm.2.1, if_neg (nI_ge (show i < n by omega) (by omega)), v_cl (v_noth hm (show i < 40 by omega)), if_neg (by decide), nI_1]
      exact ih (i + 1) f (by omega) (by omega)
  unfold f_M_badAt
  rw [x_put_id zm hm.1]
  exact h n 0 x_FU (by omega) (show n < 1000000 by omega)
theorem v_M_free (hm : m_fr n zm) (hn : n ≤ 40) : f_M_freeBlocks n zm = some (nI n, zm) := by
  have h : ∀ (d i fu : Nat), i + d = n → d < fu → f_M_freeBlocks_4 n fu (nI i) (nI i) zm = some (nI n, zm) := by
    intro d
    induction d with
    | zero =>
      intro i fu hi hf
      obtain ⟨f, rfl, -⟩ := v_fu hf
      have e : i = n := by omega
      rw [f_M_freeBlocks_4, hm.2.1, e, if_pos (nI_le (Nat.le_refl n) (by omega))]
      rfl
    | succ d ih =>
      intro i fu hi hf
      obtain ⟨f, rfl, hf2⟩ := v_fu hf
      rw [f_M_freeBlocks_4, hm.2.1, if_neg (nI_ge (show i < n by omega) (by omega)), v_ckm 40 (vp_in_nI (show i < 40 by omega) (by decide)) (by rfl), nI_clamp (show i < 2 ^ 31 by omega), if_pos (hm.2.2.2.2.2.2.2.2 i (by omega)), nI_1]
      exact ih (i + 1) f (by omega) (by omega)
  exact h n 0 x_FU (by omega) (show n < 1000000 by omega)
theorem v_M_forget (hm : m_fr n zm) : f_M_forget n zm = some ((), zm) := by
  have h3 : ∀ (d i fu : Nat), i + d = 8 → d < fu → f_M_forget_44 n fu (nI i) zm = some ((), zm) := by
    intro d
    induction d with
    | zero =>
      intro i fu hi hf
      obtain ⟨f, rfl, -⟩ := v_fu hf
      rw [f_M_forget_44, if_pos (show (8 : Int32) ≤ nI i from nI_le (show 8 ≤ i by omega) (by omega)), f_M_forget_63, x_put_id zm hm.2.2.2.2.1]
    | succ d ih =>
      intro i fu hi hf
      obtain ⟨f, rfl, hf2⟩ := v_fu hf
      rw [f_M_forget_44, if_neg (show ¬ (8 : Int32) ≤ nI i from nI_ge (show i < 8 by omega) (by decide)), v_ckm 8 (vp_in_nI (show i < 8 by omega) (by decide)) (by rfl), x_put_id zm ((hm.2.2.2.2.2.2.1 _).trans (by decide)), nI_1]
      exact ih (i + 1) f (by omega) (by omega)
  have h2 : ∀ (d i fu : Nat), i + d = 40 → d < fu → f_M_forget_23 n fu (nI i) zm = some ((), zm) := by
    intro d
    induction d with
    | zero =>
      intro i fu hi hf
      obtain ⟨f, rfl, -⟩ := v_fu hf
      rw [f_M_forget_23, if_pos (show (40 : Int32) ≤ nI i from nI_le (show 40 ≤ i by omega) (by omega)), f_M_forget_42]
      exact h3 8 0 x_FU (by decide) (by decide)
    | succ d ih =>
      intro i fu hi hf
      obtain ⟨f, rfl, hf2⟩ := v_fu hf
      rw [f_M_forget_23, if_neg (show ¬ (40 : Int32) ≤ nI i from nI_ge (show i < 40 by omega) (by decide)), v_ckm 40 (vp_in_nI (show i < 40 by omega) (by decide)) (by rfl), nI_clamp (show i < 2 ^ 31 by omega), x_put_id zm (hm.2.2.2.2.2.2.2.2 i (by omega)), nI_1]
      exact ih (i + 1) f (by omega) (by omega)
  have h1 : ∀ (d i fu : Nat), i + d = 16 → d < fu → f_M_forget_2 n fu (nI i) zm = some ((), zm) := by
    intro d
    induction d with
    | zero =>
      intro i fu hi hf
      obtain ⟨f, rfl, -⟩ := v_fu hf
      rw [f_M_forget_2, if_pos (show (16 : Int32) ≤ nI i from nI_le (show 16 ≤ i by omega) (by omega)), f_M_forget_21]
      exact h2 40 0 x_FU (by decide) (by decide)
    | succ d ih =>
      intro i fu hi hf
      obtain ⟨f, rfl, hf2⟩ := v_fu hf
      rw [f_M_forget_2, if_neg (show ¬ (16 : Int32) ≤ nI i from nI_ge (show i < 16 by omega) (by decide)), v_ckm 16 (vp_in_nI (show i < 16 by omega) (by decide)) (by rfl), x_put_id zm ((hm.2.2.2.2.2.2.2.1 _).trans (by decide)), nI_1]
      exact ih (i + 1) f (by omega) (by omega)
  exact h1 16 0 x_FU (by decide) (by decide)
theorem v_M_only (hm : m_fr n zm) (hn : n ≤ 40) (p : Int32) : f_M_only n 3 p 0 zm = some (-1, zm) := by
  have h : ∀ (d i fu : Nat), i + d = n → d < fu → f_M_only_9 n fu 3 p 0 (-1) 0 (nI i) zm = some (-1, zm) := by
    intro d
    induction d with
    | zero =>
      intro i fu hi hf
      obtain ⟨f, rfl, -⟩ := v_fu hf
      rw [f_M_only_9, hm.2.1, if_pos (nI_le (show n ≤ i by omega) (by omega)), f_M_only_92, if_neg (by decide)]
    | succ d ih =>
      intro i fu hi hf
      obtain ⟨f, rfl, hf2⟩ := v_fu hf
      have e : (64 : Int32) * nI i + (4 : Int32) = nI (64 * i + 4) := by
        rw [show (64 : Int32) = nI 64 from rfl, show (4 : Int32) = nI 4 from rfl, pk_mul, nI_add]
      rw [f_M_only_9, hm.2.1, if_neg (nI_ge (show i < n by omega) (by omega)), e, v_ckm 2560 (vp_in_nI (show 64 * i + 4 < 2560 by omega) (by decide)) (by rfl), hm.2.2.2.2.2.1, if_neg (by decide), nI_1]
      exact ih (i + 1) f (by omega) (by omega)
  exact h n 0 x_FU (by omega) (show n < 1000000 by omega)
theorem v_M_reopen (hm : m_fr n zm) (hn : n ≤ 40) : f_M_reopen n zm = some (0, zm) := by
  have h : ∀ (d i fu : Nat), i + d = 16 → d < fu → f_M_reopen_23 n fu 0 (nI i) zm = some (0, zm) := by
    intro d
    induction d with
    | zero =>
      intro i fu hi hf
      obtain ⟨f, rfl, -⟩ := v_fu hf
      rw [f_M_reopen_23, if_pos (show (16 : Int32) ≤ nI i from nI_le (show 16 ≤ i by omega) (by omega))]
      rfl
    | succ d ih =>
      intro i fu hi hf
      obtain ⟨f, rfl, hf2⟩ := v_fu hf
      have ho : f_M_openNumber n (nI i) zm = some ((), zm) := by
        unfold f_M_openNumber
        rw [v_cl (v_M_only hm hn (nI i)), if_pos rfl]
      rw [f_M_reopen_23, if_neg (show ¬ (16 : Int32) ≤ nI i from nI_ge (show i < 16 by omega) (by decide)), v_cl ho, v_ckm 16 (vp_in_nI (show i < 16 by omega) (by decide)) (by rfl), if_pos (hm.2.2.2.2.2.2.2.1 _), nI_1, show (0 : Int32) + 0 = 0 from rfl]
      exact ih (i + 1) f (by omega) (by omega)
  unfold f_M_reopen
  rw [x_put_id zm hm.1, x_put_id zm hm.2.2.1, x_put_id zm hm.2.2.2.1, v_cl (v_M_forget hm)]
  exact h 16 0 x_FU (by decide) (by decide)
theorem v_M_kept (hm : m_fr n zm) : f_M_told_75 n x_FU 0 0 zm = some (0, zm) := by
  have h : ∀ (d i fu : Nat), i + d = 16 → d < fu → f_M_told_75 n fu 0 (nI i) zm = some (0, zm) := by
    intro d
    induction d with
    | zero =>
      intro i fu hi hf
      obtain ⟨f, rfl, -⟩ := v_fu hf
      rw [f_M_told_75, if_pos (show (16 : Int32) ≤ nI i from nI_le (show 16 ≤ i by omega) (by omega))]
      rfl
    | succ d ih =>
      intro i fu hi hf
      obtain ⟨f, rfl, hf2⟩ := v_fu hf
      rw [f_M_told_75, if_neg (show ¬ (16 : Int32) ≤ nI i from nI_ge (show i < 16 by omega) (by decide)), v_ckm 16 (vp_in_nI (show i < 16 by omega) (by decide)) (by rfl), if_pos (hm.2.2.2.2.2.2.2.1 _), nI_1, show (0 : Int32) + 0 = 0 from rfl]
      exact ih (i + 1) f (by omega) (by omega)
  exact h 16 0 x_FU (by decide) (by decide)
theorem v_M_mades (hm : m_fr n zm) : f_M_told_108 n x_FU 0 0 zm = some (0, zm) := by
  have h : ∀ (d i fu : Nat), i + d = 8 → d < fu → f_M_told_108 n fu 0 (nI i) zm = some (0, zm) := by
    intro d
    induction d with
    | zero =>
      intro i fu hi hf
      obtain ⟨f, rfl, -⟩ := v_fu hf
      rw [f_M_told_108, if_pos (show (8 : Int32) ≤ nI i from nI_le (show 8 ≤ i by omega) (by omega))]
      rfl
    | succ d ih =>
      intro i fu hi hf
      obtain ⟨f, rfl, hf2⟩ := v_fu hf
      rw [f_M_told_108, if_neg (show ¬ (8 : Int32) ≤ nI i from nI_ge (show i < 8 by omega) (by decide)), v_ckm 8 (vp_in_nI (show i < 8 by omega) (by decide)) (by rfl), if_pos (hm.2.2.2.2.2.2.1 _), nI_1, show (0 : Int32) + 0 = 0 from rfl]
      exact ih (i + 1) f (by omega) (by omega)
  exact h 8 0 x_FU (by decide) (by decide)
/-! both -/
theorem v_sweep (hx : x_fr n z) (hm : m_fr n zm) (hn : n ≤ 40) : v_same (f_L_sweep n z) (f_M_sweep n zm) := by
  obtain ⟨z1, h1, h2⟩ := v_L_sweep hx hn
  exact ⟨_, z1, _, zm, h1, v_M_sweep hm hn, hm.1, fun _ => h2⟩
/-- of the three calls that the class answers without a throw: the same answer -/
def v_eq (oX oM : Option (Int32 × x_St)) : Prop := ∃ (r : Int32) (z1 zm1 : x_St), oX = some (r, z1) ∧ oM = some (r, zm1)
theorem v_reopen (hx : x_fr n z) (hm : m_fr n zm) (hn : n ≤ 40) : v_eq (f_X_reopen n z) (f_M_reopen n zm) := ⟨_, _, _, v_X_reopen hx hn, v_M_reopen hm hn⟩
theorem v_badAt (hx : x_fr n z) (hm : m_fr n zm) (hn : n ≤ 40) : v_eq (f_X_badAt n z) (f_M_badAt n zm) := ⟨_, _, _, v_X_badAt hx hn, v_M_badAt hm hn⟩
theorem v_told (hx : x_fr n z) (hm : m_fr n zm) (hn : n ≤ 40) (p : Int32) : v_eq (f_X_told n p z) (f_M_told n p zm) := by
  unfold f_X_told f_M_told
  rw [x_put_id zm hm.1]
  by_cases h0 : p = 0
  · rw [if_pos h0, if_pos h0, hx.1, hm.2.1]
    exact ⟨_, _, _, rfl, rfl⟩
  rw [if_neg h0, if_neg h0]
  by_cases h1 : p = 1
  · rw [if_pos h1, if_pos h1, if_pos hx.2.2.1, if_pos hm.2.2.1, v_cl (v_X_countFree hx hn), v_cl (v_M_free hm hn)]
    exact ⟨_, _, _, rfl, rfl⟩
  rw [if_neg h1, if_neg h1]
  by_cases h2 : p = 2
  · rw [if_pos h2, if_pos h2, v_cl (v_X_countKept hx), v_M_kept hm]
    exact ⟨_, _, _, rfl, rfl⟩
  rw [if_neg h2, if_neg h2]
  by_cases h3 : p = 3
  · rw [if_pos h3, if_pos h3, v_cl (v_X_countMade hx), v_M_mades hm]
    exact ⟨_, _, _, rfl, rfl⟩
  rw [if_neg h3, if_neg h3]
  by_cases h4 : p = 4
  · rw [if_pos h4, if_pos h4, hx.2.2.2.1, hm.2.2.2.2.1]
    exact ⟨_, _, _, rfl, rfl⟩
  rw [if_neg h4, if_neg h4]
  by_cases h5 : p = 5
  · rw [if_pos h5, if_pos h5, if_pos hx.2.2.1, if_pos hm.2.2.1]
    exact ⟨_, _, _, rfl, rfl⟩
  rw [if_neg h5, if_neg h5]
  by_cases h6 : p = 6
  · rw [if_pos h6, if_pos h6, hx.2.1, hm.2.2.2.1]
    exact ⟨_, _, _, rfl, rfl⟩
  rw [if_neg h6, if_neg h6]
  exact ⟨_, _, _, rfl, rfl⟩
/-! a byte: there is none, or it is the i-th of block b -/
def v_noByte (n : Nat) (p1 p2 : Int32) : Prop := p1 < 0 ∨ nI n ≤ p1 ∨ p2 < 0 ∨ (64 : Int32) ≤ p2
theorem v_byte (n : Nat) (hn : n ≤ 40) (p1 p2 : Int32) : v_noByte n p1 p2 ∨ ∃ b i : Nat, b < n ∧ i < 64 ∧ p1 = nI b ∧ p2 = nI i := by
  rcases pk_ix p1 (n := n) (by omega) with h | h | ⟨b, hb, eb⟩
  · exact Or.inl (Or.inl h)
  · exact Or.inl (Or.inr (Or.inl h))
  rcases pk_ix p2 (n := 64) (by decide) with h | h | ⟨i, hi, ei⟩
  · exact Or.inl (Or.inr (Or.inr (Or.inl h)))
  · exact Or.inl (Or.inr (Or.inr (Or.inr h)))
  exact Or.inr ⟨b, i, hb, hi, eb, ei⟩
theorem v_X_noByte (hx : x_fr n z) {p1 p2 : Int32} (h : v_noByte n p1 p2) : f_X_refuseUnlessByte n p1 p2 z = some (Sum.inl "java/lang/IndexOutOfBoundsException", z) := by
  unfold f_X_refuseUnlessByte
  rw [hx.1]
  by_cases h1 : p1 < 0
  · rw [if_pos h1]
  rw [if_neg h1]
  by_cases h2 : nI n ≤ p1
  · rw [if_pos h2]
  rw [if_neg h2]
  by_cases h3 : p2 < 0
  · rw [if_pos h3]
  rw [if_neg h3]
  have h4 : (64 : Int32) ≤ p2 := by
    rcases h with h | h | h | h
    · exact absurd h h1
    · exact absurd h h2
    · exact absurd h h3
    · exact h
  rw [if_neg (Int32.not_lt.mpr h4)]
theorem v_X_aByte (hx : x_fr n z) (hn : n ≤ 40) {b i : Nat} (hb : b < n) (hi : i < 64) : f_X_refuseUnlessByte n (nI b) (nI i) z = some (Sum.inr (), z) := by
  unfold f_X_refuseUnlessByte
  rw [hx.1, if_neg (nI_pos (by omega)), if_neg (nI_ge hb (by omega)), if_neg (nI_pos (by omega)), if_pos (show nI i < (64 : Int32) from nI_lt hi (by decide))]
theorem v_M_byteNo (hm : m_fr n zm) {p1 p2 : Int32} (h : v_noByte n p1 p2) : f_M_byteAt n p1 p2 zm = some (0, x_put zm 0 0 1) := by
  unfold f_M_byteAt
  rw [hm.2.1]
  by_cases h1 : p1 < 0
  · rw [if_pos h1, v_00, if_neg (by decide)]
  rw [if_neg h1]
  by_cases h2 : nI n ≤ p1
  · rw [if_pos h2, v_00, if_neg (by decide)]
  rw [if_neg h2]
  by_cases h3 : p2 < 0
  · rw [if_pos h3, v_00, if_neg (by decide)]
  rw [if_neg h3]
  have h4 : (64 : Int32) ≤ p2 := by
    rcases h with h | h | h | h
    · exact absurd h h1
    · exact absurd h h2
    · exact absurd h h3
    · exact h
  rw [if_neg (Int32.not_lt.mpr h4), v_00, if_neg (by decide)]
theorem v_M_pokeNo (hm : m_fr n zm) {p1 p2 : Int32} (p3 : Int32) (h : v_noByte n p1 p2) : f_M_poke n p1 p2 p3 zm = some (0, x_put zm 0 0 1) := by
  unfold f_M_poke
  rw [hm.2.1]
  by_cases h1 : p1 < 0
  · rw [if_pos h1, v_00, if_neg (by decide)]
  rw [if_neg h1]
  by_cases h2 : nI n ≤ p1
  · rw [if_pos h2, v_00, if_neg (by decide)]
  rw [if_neg h2]
  by_cases h3 : p2 < 0
  · rw [if_pos h3, v_00, if_neg (by decide)]
  rw [if_neg h3]
  have h4 : (64 : Int32) ≤ p2 := by
    rcases h with h | h | h | h
    · exact absurd h h1
    · exact absurd h h2
    · exact absurd h h3
    · exact h
  rw [if_neg (Int32.not_lt.mpr h4), v_00, if_neg (by decide)]
theorem v_byteAt (hx : x_fr n z) (hm : m_fr n zm) (hn : n ≤ 40) (p1 p2 : Int32) : v_same (f_L_byteAt n p1 p2 z) (f_M_byteAt n p1 p2 zm) := by
  rcases v_byte n hn p1 p2 with h | ⟨b, i, hb, hi, rfl, rfl⟩
  · refine v_thr (r := 1) (z1 := z) ?_ (v_M_byteNo hm h) (by decide)
    have e : f_X_byteAt n p1 p2 z = some (Sum.inl "java/lang/IndexOutOfBoundsException", z) := by
      unfold f_X_byteAt
      rw [v_clt (v_X_noByte hx h)]
    unfold f_L_byteAt
    rw [v_tryt e, if_pos rfl]
  · have e : f_X_byteAt n (nI b) (nI i) z = some (Sum.inr 0, z) := by
      unfold f_X_byteAt
      rw [v_clr (v_X_aByte hx hn hb hi), v_cl (v_get hx hn hb hi)]
    have e2 : f_M_byteAt n (nI b) (nI i) zm = some (0, zm) := by
      unfold f_M_byteAt
      have ei : (64 : Int32) * nI b + nI i = nI (64 * b + i) := by
        rw [show (64 : Int32) = nI 64 from rfl, pk_mul, nI_add]
      rw [hm.2.1, if_neg (nI_pos (by omega)), if_neg (nI_ge hb (by omega)), if_neg (nI_pos (by omega)), if_pos (show nI i < (64 : Int32) from nI_lt hi (by decide)), x_put_id zm hm.1, hm.1, if_pos (by decide), ei, v_ckm 2560 (vp_in_nI (show 64 * b + i < 2560 by omega) (by decide)) (by rfl), hm.2.2.2.2.2.1]
    refine ⟨0, _, 0, zm, ?_, e2, hm.1, fun _ => v_out z ((0 : Int32)).toInt64⟩
    unfold f_L_byteAt
    rw [v_tryr e, v_ck (v_d (by decide))]
theorem v_poke (hx : x_fr n z) (hm : m_fr n zm) (hn : n ≤ 40) (p1 p2 p3 : Int32) : v_same (f_L_poke n p1 p2 p3 z) (f_M_poke n p1 p2 p3 zm) := by
  rcases v_byte n hn p1 p2 with h | ⟨b, i, hb, hi, rfl, rfl⟩
  · refine v_thr (r := 1) (z1 := z) ?_ (v_M_pokeNo hm p3 h) (by decide)
    have e : f_X_poke n p1 p2 p3 z = some (Sum.inl "java/lang/IndexOutOfBoundsException", z) := by
      unfold f_X_poke
      rw [v_clt (v_X_noByte hx h)]
    unfold f_L_poke
    rw [v_tryt e, if_pos rfl]
  · have ei : (64 : Int32) * nI b + nI i = nI (64 * b + i) := by
      rw [show (64 : Int32) = nI 64 from rfl, pk_mul, nI_add]
    have ex : nI b * (64 : Int32) + nI i = nI (b * 64 + i) := by
      rw [show (64 : Int32) = nI 64 from rfl, pk_mul, nI_add]
    by_cases hb3 : p3 < 0 ∨ ¬ p3 ≤ (255 : Int32)
    · have e : f_X_poke n (nI b) (nI i) p3 z = some (Sum.inl "java/lang/IllegalArgumentException", z) := by
        unfold f_X_poke
        rw [v_clr (v_X_aByte hx hn hb hi)]
        by_cases h5 : p3 < 0
        · rw [if_pos h5]
        · rw [if_neg h5, if_neg (hb3.resolve_left h5)]
      have e2 : f_M_poke n (nI b) (nI i) p3 zm = some (0, x_put zm 0 0 2) := by
        unfold f_M_poke
        rw [hm.2.1, if_neg (nI_pos (by omega)), if_neg (nI_ge hb (by omega)), if_neg (nI_pos (by omega)), if_pos (show nI i < (64 : Int32) from nI_lt hi (by decide))]
        by_cases h5 : p3 < 0
        · rw [if_pos h5, v_00, if_neg (by decide)]
        · rw [if_neg h5, if_neg (hb3.resolve_left h5), v_00, if_neg (by decide)]
      refine v_thr (r := 2) (z1 := z) ?_ e2 (by decide)
      unfold f_L_poke
      rw [v_tryt e, if_neg (by decide +kernel), if_pos rfl]
    · have h5 : ¬ p3 < 0 := fun q => hb3 (Or.inl q)
      have h6 : p3 ≤ (255 : Int32) := by
        rcases Decidable.em (p3 ≤ (255 : Int32)) with q | q
        · exact q
        · exact absurd (Or.inr q) hb3
      have hv : vp_in (nI (b * 64 + i)) (x_ln n 2) := vp_in_nI (show b * 64 + i < n * 64 by omega) (show n * 64 < 2 ^ 31 by omega)
      have e : ∃ z1, f_X_poke n (nI b) (nI i) p3 z = some (Sum.inr (0 ^^^ p3), z1) := by
        unfold f_X_poke
        rw [v_clr (v_X_aByte hx hn hb hi), if_neg h5, if_pos h6]
        have ht : ∃ z1, f_B_turn n (nI b) (nI i) p3 z = some (0 ^^^ p3, z1) := by
          unfold f_B_turn
          rw [ex, v_ck hv, v_ck hv, hx.2.2.2.2.1]
          unfold f_B_get
          rw [ex, v_ck hv, x_put_self, pk_us]
          exact ⟨_, rfl⟩
        obtain ⟨z1, ht⟩ := ht
        exact ⟨z1, v_cl ht⟩
      have e2 : ∃ zm1, f_M_poke n (nI b) (nI i) p3 zm = some (0 ^^^ p3, zm1) ∧ zm1.1 0 0 = 0 := by
        have hw : vp_in (nI (64 * b + i)) (m_ln n 1) := vp_in_nI (N := 2560) (show 64 * b + i < 2560 by omega) (by decide)
        unfold f_M_poke
        rw [hm.2.1, if_neg (nI_pos (by omega)), if_neg (nI_ge hb (by omega)), if_neg (nI_pos (by omega)), if_pos (show nI i < (64 : Int32) from nI_lt hi (by decide)), if_neg h5, if_pos h6, x_put_id zm hm.1, hm.1, if_pos (by decide), ei, v_ck hw, v_ck hw, v_ck hw, x_put_self, pk_us, hm.2.2.2.2.2.1]
        refine ⟨_, rfl, ?_⟩
        rw [v_k _ (by decide)]; exact hm.1
      obtain ⟨z1, e⟩ := e
      obtain ⟨zm1, e2, e3⟩ := e2
      refine ⟨0, _, _, zm1, ?_, e2, e3, fun _ => v_out z1 (0 ^^^ p3).toInt64⟩
      unfold f_L_poke
      rw [v_tryr e, v_ck (v_d (by decide))]
end VALT

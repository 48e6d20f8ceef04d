/-! WHAT THE FIRST CALL ON A FRESH OBJECT ANSWERS, in the class and in the reference -/
theorem v_ck {β : Type} {i : Int32} {n : Nat} {K : Option β} (h : vp_in i n) : x_ck i n K = K := if_neg h
theorem v_d {i : Int32} {n : Nat} (h : decide (¬ (i < 0 ∨ n ≤ i.toNatClampNeg)) = true) : vp_in i n := show ¬ (i < 0 ∨ n ≤ i.toNatClampNeg) from of_decide_eq_true h
theorem v_ckm {β : Type} {i : Int32} {n k : Nat} {K : Option β} (m : Nat) (h : vp_in i m) (e : m_ln n k = m) : x_ck i (m_ln n k) K = K := by rw [e]; exact v_ck h
theorem v_cl {α β : Type} {o : Option (α × x_St)} {r : α} {z : x_St} {K : α → x_St → Option β} (h : o = some (r, z)) : x_cl o K = K r z := by subst h; rfl
theorem v_clr {α β : Type} {o : Option ((String ⊕ α) × x_St)} {r : α} {z : x_St} {K : α → x_St → Option ((String ⊕ β) × x_St)} (h : o = some (.inr r, z)) : x_clx o K = K r z := by subst h; rfl
theorem v_clt {α β : Type} {o : Option ((String ⊕ α) × x_St)} {E : String} {z : x_St} {K : α → x_St → Option ((String ⊕ β) × x_St)} (h : o = some (.inl E, z)) : x_clx o K = some (.inl E, z) := by subst h; rfl
theorem v_tryr {α β : Type} {o : Option ((String ⊕ α) × x_St)} {r : α} {z : x_St} {K : α → x_St → Option β} {C : String → x_St → Option β} (h : o = some (.inr r, z)) : x_try o K C = K r z := by subst h; rfl
theorem v_tryt {α β : Type} {o : Option ((String ⊕ α) × x_St)} {E : String} {z : x_St} {K : α → x_St → Option β} {C : String → x_St → Option β} (h : o = some (.inl E, z)) : x_try o K C = C E z := by subst h; rfl
theorem v_in {p : Int32} {k : Nat} (q : Int32) (hq : q.toInt = k) (h0 : ¬ p < 0) (h1 : ¬ q ≤ p) : vp_in p k := by
  rw [Int32.lt_iff_toInt_lt] at h0
  rw [Int32.le_iff_toInt_le] at h1
  rw [vp_in_iff]
  have e0 : (0 : Int32).toInt = 0 := by decide
  omega
theorem x_put_id (z : x_St) {k j : Nat} {v : Int32} (h : z.1 k j = v) : x_put z k j v = z := by
  refine Prod.ext ?_ rfl
  show va_up z.1 k (upd (z.1 k) j v) = z.1
  funext a b
  by_cases ha : a = k
  · subst ha
    rw [va_up_self]
    by_cases hb : b = j
    · subst hb
      rw [pk_us]; exact h.symm
    · rw [pk_un hb]
  · rw [va_up_ne _ _ ha]
theorem v_00 (z : x_St) (v : Int32) : (x_put z 0 0 v).1 0 0 = v := by rw [x_put_self, pk_us]
theorem v_0j (z : x_St) (v : Int32) {j : Nat} (h : j ≠ 0) : (x_put z 0 0 v).1 0 j = z.1 0 j := by rw [x_put_self, pk_un h]
theorem v_k {z : x_St} {k j i : Nat} {v : Int32} (q : Nat) (h : i ≠ k) : (x_put z k j v).1 i q = z.1 i q := by rw [x_put_ne z j v h]
theorem v_fu {d : Nat} {fu : Nat} (h : d < fu) : ∃ f, fu = f + 1 ∧ d ≤ f := ⟨fu - 1, by omega, by omega⟩
/-- a fresh library, a fresh reference -/
def x_fr (n : Nat) (z : x_St) : Prop := z.1 1 0 = nI n ∧ z.1 1 1 = -1 ∧ z.1 1 2 = 0 ∧ z.1 0 8 = 0 ∧ (∀ j, z.1 2 j = 0) ∧ (∀ j, z.1 4 j = 0) ∧ (∀ i, i < 8 → z.1 (6 + 2 * i) 0 = 0) ∧ (∀ i, i < 16 → z.1 (23 + 5 * i) 0 = 0)
def m_fr (n : Nat) (z : x_St) : Prop := z.1 0 0 = 0 ∧ z.1 0 1 = nI n ∧ z.1 0 3 = 0 ∧ z.1 0 4 = -1 ∧ z.1 0 19 = 0 ∧ (∀ j, z.1 1 j = 0) ∧ (∀ j, z.1 2 j = 0) ∧ (∀ j, z.1 7 j = 0) ∧ (∀ j, j < 40 → z.1 15 j = -1)
theorem x_fr0 (n : Nat) : x_fr n (x_z0 n) := by
  refine ⟨?_, ?_, ?_, congrFun (x_z0_ne n (by decide)) _, fun j => congrFun (x_z0_ne n (by decide)) _, fun j => congrFun (x_z0_ne n (by decide)) _, fun i _ => congrFun (x_z0_ne n (by omega)) _, fun i _ => congrFun (x_z0_ne n (by omega)) _⟩
  · show (if (1 : Nat) = 1 ∧ (0 : Nat) = 0 then nI n else if (1 : Nat) = 1 ∧ (0 : Nat) = 1 then (-1 : Int32) else 0) = nI n
    rw [if_pos ⟨rfl, rfl⟩]
  · show (if (1 : Nat) = 1 ∧ (1 : Nat) = 0 then nI n else if (1 : Nat) = 1 ∧ (1 : Nat) = 1 then (-1 : Int32) else 0) = -1
    rw [if_neg (by decide), if_pos ⟨rfl, rfl⟩]
  · show (if (1 : Nat) = 1 ∧ (2 : Nat) = 0 then nI n else if (1 : Nat) = 1 ∧ (2 : Nat) = 1 then (-1 : Int32) else 0) = 0
    rw [if_neg (by decide), if_neg (by decide)]
/-- what is compared: the class's throw and answer against the reference's -/
def v_same (oL oM : Option (Int32 × x_St)) : Prop := ∃ (r : Int32) (z1 : x_St) (b : Int32) (zm1 : x_St), oL = some (r, z1) ∧ oM = some (b, zm1) ∧ zm1.1 0 0 = r ∧ (r = 0 → z1.2 110 0 = b.toInt64)
def v_sameL (oL : Option (Int32 × x_St)) (oM : Option (Int64 × x_St)) : Prop := ∃ (r : Int32) (z1 : x_St) (b : Int64) (zm1 : x_St), oL = some (r, z1) ∧ oM = some (b, zm1) ∧ zm1.1 0 0 = r ∧ (r = 0 → z1.2 110 0 = b)
theorem v_thr {oL oM : Option (Int32 × x_St)} {r b : Int32} {z1 zm : x_St} (h1 : oL = some (r, z1)) (h2 : oM = some (b, x_put zm 0 0 r)) (h0 : r ≠ 0) : v_same oL oM := ⟨r, z1, b, _, h1, h2, v_00 _ _, fun h => absurd h h0⟩
theorem v_out (z : x_St) (v : Int64) : (x_putL z 110 ((0 : Int32)).toNatClampNeg v).2 110 0 = v := by rw [x_putL_self]; exact pk_uLs
section VALS
variable {n : Nat} {z zm : x_St}
/-! the class -/
theorem v_rwc (hx : x_fr n z) : f_X_refuseWhenCut n z = some (Sum.inr (), z) := by
  unfold f_X_refuseWhenCut
  rw [if_pos hx.2.2.1]
theorem v_pbm (hx : x_fr n z) (p : Int32) : f_X_pictureBeingMade n p z = some (Sum.inl "java/lang/IndexOutOfBoundsException", z) := by
  obtain ⟨a1, a2, a3, a4, a5, a6, a7, a8⟩ := hx
  unfold f_X_pictureBeingMade
  by_cases h1 : p < 0
  · rw [if_pos h1]
  · rw [if_neg h1]
    by_cases h2 : (8 : Int32) ≤ p
    · rw [if_pos h2]
    · have hi : vp_in p 8 := v_in 8 (by decide) h1 h2
      rw [if_neg h2, v_ck hi, if_pos (a7 _ (x_in_lt hi))]
theorem v_kat (hx : x_fr n z) (p : Int32) : f_X_keptAt n p z = some (Sum.inl "java/lang/IndexOutOfBoundsException", z) := by
  obtain ⟨a1, a2, a3, a4, a5, a6, a7, a8⟩ := hx
  unfold f_X_keptAt
  by_cases h1 : p < 0
  · rw [if_pos h1]
  · rw [if_neg h1]
    by_cases h2 : (16 : Int32) ≤ p
    · rw [if_pos h2]
    · have hi : vp_in p 16 := v_in 16 (by decide) h1 h2
      rw [if_neg h2, v_ck hi, if_pos (a8 _ (x_in_lt hi))]
theorem v_L_samples (hx : x_fr n z) (p1 p2 p3 p4 : Int32) : f_L_samples n p1 p2 p3 p4 z = some (2, z) := by
  have h : f_X_samples n p1 p2 p3 p4 z = some (Sum.inl "java/lang/IndexOutOfBoundsException", z) := by
    unfold f_X_samples
    rw [v_clr (v_rwc hx), v_clt (v_pbm hx p1)]
  unfold f_L_samples
  rw [v_tryt h, if_neg (by decide +kernel), if_pos rfl]
theorem v_L_keep (hx : x_fr n z) (p1 : Int32) : f_L_keep n p1 z = some (2, z) := by
  have h : f_X_keep n p1 z = some (Sum.inl "java/lang/IndexOutOfBoundsException", z) := by
    unfold f_X_keep
    rw [v_clr (v_rwc hx), v_clt (v_pbm hx p1)]
  unfold f_L_keep
  rw [v_tryt h, if_neg (by decide +kernel), if_pos rfl]
theorem v_L_digest (hx : x_fr n z) (p1 p2 : Int32) : f_L_digest n p1 p2 z = some (2, z) := by
  have h : f_X_digest n p1 p2 z = some (Sum.inl "java/lang/IndexOutOfBoundsException", z) := by
    unfold f_X_digest
    rw [v_clr (v_rwc hx), v_clt (v_kat hx p1)]
  unfold f_L_digest
  rw [v_tryt h, if_neg (by decide +kernel), if_pos rfl]
theorem v_L_print (hx : x_fr n z) (p1 : Int32) : f_L_print n p1 z = some (2, z) := by
  have h : f_X_print n p1 z = some (Sum.inl "java/lang/IndexOutOfBoundsException", z) := by
    unfold f_X_print
    rw [v_clr (v_rwc hx), v_clt (v_kat hx p1)]
  unfold f_L_print
  rw [v_tryt h, if_neg (by decide +kernel), if_pos rfl]
theorem v_L_sample (hx : x_fr n z) (p1 p2 p3 : Int32) : f_L_sample n p1 p2 p3 z = some (2, z) := by
  have h : f_X_sample n p1 p2 p3 z = some (Sum.inl "java/lang/IndexOutOfBoundsException", z) := by
    unfold f_X_sample
    rw [v_clr (v_rwc hx), v_clt (v_kat hx p1)]
  unfold f_L_sample
  rw [v_tryt h, if_neg (by decide +kernel), if_pos rfl]
theorem v_L_near (hx : x_fr n z) (p1 p2 : Int32) : f_L_near n p1 p2 z = some (2, z) := by
  have h : f_X_near n p1 p2 z = some (Sum.inl "java/lang/IndexOutOfBoundsException", z) := by
    unfold f_X_near
    rw [v_clr (v_rwc hx), v_clt (v_pbm hx p1)]
  unfold f_L_near
  rw [v_tryt h, if_neg (by decide +kernel), if_pos rfl]
theorem v_L_drop (hx : x_fr n z) (p1 : Int32) : f_L_drop n p1 z = some (2, z) := by
  have h : f_X_drop n p1 z = some (Sum.inl "java/lang/IndexOutOfBoundsException", z) := by
    unfold f_X_drop
    rw [v_clr (v_rwc hx), v_clt (v_kat hx p1)]
  unfold f_L_drop
  rw [v_tryt h, if_neg (by decide +kernel), if_pos rfl]
theorem v_L_found (hx : x_fr n z) (p1 p2 : Int32) : f_L_found n p1 p2 z = some (2, z) := by
  have h : f_X_found n p1 p2 z = some (Sum.inl "java/lang/IndexOutOfBoundsException", z) := by
    unfold f_X_found
    rw [v_clr (v_rwc hx)]
    by_cases h1 : p1 < 0
    · rw [if_pos h1]
    · rw [if_neg h1, if_neg (by rw [hx.2.2.2.1]; exact h1)]
  unfold f_L_found
  rw [v_tryt h, if_neg (by decide +kernel), if_pos rfl]
theorem v_L_fuse (hx : x_fr n z) (p1 : Int32) : (p1 < -1 ∧ f_L_fuse n p1 z = some (2, z)) ∨ (-1 ≤ p1 ∧ ∃ z1, f_L_fuse n p1 z = some (0, z1) ∧ z1.2 110 0 = ((-1 : Int32)).toInt64) := by
  by_cases h1 : (-1 : Int32) ≤ p1
  · refine Or.inr ⟨h1, x_putL (x_put z 1 1 p1) 110 ((0 : Int32)).toNatClampNeg ((-1 : Int32)).toInt64, ?_, v_out _ _⟩
    have h : f_X_fuse n p1 z = some (Sum.inr (-1), x_put z 1 1 p1) := by
      unfold f_X_fuse
      rw [v_clr (v_rwc hx), if_pos h1, hx.2.1]
    unfold f_L_fuse
    rw [v_tryr h, v_ck (v_d (by decide))]
  · refine Or.inl ⟨Int32.not_le.mp h1, ?_⟩
    have h : f_X_fuse n p1 z = some (Sum.inl "java/lang/IllegalArgumentException", z) := by
      unfold f_X_fuse
      rw [v_clr (v_rwc hx), if_neg h1]
    unfold f_L_fuse
    rw [v_tryt h, if_neg (by decide +kernel), if_pos rfl]
/-! the reference -/
theorem v_made (hm : m_fr n zm) (p : Int32) : f_M_isMade n p zm = some (0, zm) := by
  obtain ⟨b0, b1, b3, b4, b19, c1, c2, c7, c15⟩ := hm
  unfold f_M_isMade
  by_cases h1 : p < 0
  · rw [if_pos h1]
  · rw [if_neg h1]
    by_cases h2 : (8 : Int32) ≤ p
    · rw [if_pos h2]
    · rw [if_neg h2, v_ckm 8 (v_in 8 (by decide) h1 h2) (by rfl), if_pos (c2 _)]
theorem v_there (hm : m_fr n zm) (p : Int32) : f_M_isThere n p zm = some (0, zm) := by
  obtain ⟨b0, b1, b3, b4, b19, c1, c2, c7, c15⟩ := hm
  unfold f_M_isThere
  by_cases h1 : p < 0
  · rw [if_pos h1]
  · rw [if_neg h1]
    by_cases h2 : (16 : Int32) ≤ p
    · rw [if_pos h2]
    · rw [if_neg h2, v_ckm 16 (v_in 16 (by decide) h1 h2) (by rfl), if_pos (c7 _)]
theorem v_M_samples (hm : m_fr n zm) (p1 p2 p3 p4 : Int32) : f_M_samples n p1 p2 p3 p4 zm = some (0, x_put zm 0 0 2) := by
  unfold f_M_samples
  rw [if_pos hm.2.2.1, v_cl (v_made hm p1), if_pos rfl, v_00, if_neg (by decide)]
theorem v_M_keep (hm : m_fr n zm) (p1 : Int32) : f_M_keep n p1 zm = some (0, x_put zm 0 0 2) := by
  unfold f_M_keep
  rw [if_pos hm.2.2.1, v_cl (v_made hm p1), if_pos rfl, v_00, if_neg (by decide)]
theorem v_M_digest (hm : m_fr n zm) (p1 p2 : Int32) : f_M_digest n p1 p2 zm = some (0, x_put zm 0 0 2) := by
  unfold f_M_digest
  rw [if_pos hm.2.2.1, v_cl (v_there hm p1), if_pos rfl, v_00, if_neg (by decide)]
theorem v_M_print (hm : m_fr n zm) (p1 : Int32) : f_M_print n p1 zm = some (0, x_put zm 0 0 2) := by
  unfold f_M_print
  rw [if_pos hm.2.2.1, v_cl (v_there hm p1), if_pos rfl, v_00, if_neg (by decide)]
theorem v_M_sample (hm : m_fr n zm) (p1 p2 p3 : Int32) : f_M_sample n p1 p2 p3 zm = some (0, x_put zm 0 0 2) := by
  unfold f_M_sample
  rw [if_pos hm.2.2.1, v_cl (v_there hm p1), if_pos rfl, v_00, if_neg (by decide)]
theorem v_M_near (hm : m_fr n zm) (p1 p2 : Int32) : f_M_near n p1 p2 zm = some (0, x_put zm 0 0 2) := by
  unfold f_M_near
  rw [if_pos hm.2.2.1, v_cl (v_made hm p1), if_pos rfl, v_00, if_neg (by decide)]
theorem v_M_drop (hm : m_fr n zm) (p1 : Int32) : f_M_drop n p1 zm = some (0, x_put zm 0 0 2) := by
  unfold f_M_drop
  rw [if_pos hm.2.2.1, v_cl (v_there hm p1), if_pos rfl, v_00, if_neg (by decide)]
theorem v_M_found (hm : m_fr n zm) (p1 p2 : Int32) : f_M_found n p1 p2 zm = some (0, x_put zm 0 0 2) := by
  unfold f_M_found
  rw [if_pos hm.2.2.1]
  by_cases h1 : p1 < 0
  · rw [if_pos h1, v_00, if_neg (by decide)]
  · rw [if_neg h1, if_neg (by rw [hm.2.2.2.2.1]; exact h1), v_00, if_neg (by decide)]
theorem v_M_fuse2 (hm : m_fr n zm) (p1 : Int32) (h : p1 < -1) : f_M_fuse n p1 zm = some (0, x_put zm 0 0 2) := by
  unfold f_M_fuse
  rw [if_pos hm.2.2.1, if_neg (Int32.not_le.mpr h), v_00, if_neg (by decide)]
theorem v_M_fuse0 (hm : m_fr n zm) (p1 : Int32) (h : -1 ≤ p1) : f_M_fuse n p1 zm = some (-1, x_put zm 0 4 p1) := by
  unfold f_M_fuse
  rw [if_pos hm.2.2.1, if_pos h, v_00, if_pos (by decide), x_put_id zm hm.1, hm.2.2.2.1]
/-! both: what throws -/
theorem v_samples (hx : x_fr n z) (hm : m_fr n zm) (p1 p2 p3 p4 : Int32) : v_same (f_L_samples n p1 p2 p3 p4 z) (f_M_samples n p1 p2 p3 p4 zm) := v_thr (v_L_samples hx p1 p2 p3 p4) (v_M_samples hm p1 p2 p3 p4) (by decide)
theorem v_keep (hx : x_fr n z) (hm : m_fr n zm) (p1 : Int32) : v_same (f_L_keep n p1 z) (f_M_keep n p1 zm) := v_thr (v_L_keep hx p1) (v_M_keep hm p1) (by decide)
theorem v_digest (hx : x_fr n z) (hm : m_fr n zm) (p1 p2 : Int32) : v_same (f_L_digest n p1 p2 z) (f_M_digest n p1 p2 zm) := v_thr (v_L_digest hx p1 p2) (v_M_digest hm p1 p2) (by decide)
theorem v_print (hx : x_fr n z) (hm : m_fr n zm) (p1 : Int32) : v_sameL (f_L_print n p1 z) (f_M_print n p1 zm) := ⟨_, _, _, _, v_L_print hx p1, v_M_print hm p1, v_00 _ _, fun h => absurd h (by decide)⟩
theorem v_sample (hx : x_fr n z) (hm : m_fr n zm) (p1 p2 p3 : Int32) : v_same (f_L_sample n p1 p2 p3 z) (f_M_sample n p1 p2 p3 zm) := v_thr (v_L_sample hx p1 p2 p3) (v_M_sample hm p1 p2 p3) (by decide)
theorem v_near (hx : x_fr n z) (hm : m_fr n zm) (p1 p2 : Int32) : v_same (f_L_near n p1 p2 z) (f_M_near n p1 p2 zm) := v_thr (v_L_near hx p1 p2) (v_M_near hm p1 p2) (by decide)
theorem v_found (hx : x_fr n z) (hm : m_fr n zm) (p1 p2 : Int32) : v_same (f_L_found n p1 p2 z) (f_M_found n p1 p2 zm) := v_thr (v_L_found hx p1 p2) (v_M_found hm p1 p2) (by decide)
theorem v_drop (hx : x_fr n z) (hm : m_fr n zm) (p1 : Int32) : v_same (f_L_drop n p1 z) (f_M_drop n p1 zm) := v_thr (v_L_drop hx p1) (v_M_drop hm p1) (by decide)
theorem v_fuse (hx : x_fr n z) (hm : m_fr n zm) (p1 : Int32) : v_same (f_L_fuse n p1 z) (f_M_fuse n p1 zm) := by
  rcases v_L_fuse hx p1 with ⟨h, h1⟩ | ⟨h, z1, h1, h2⟩
  · exact v_thr h1 (v_M_fuse2 hm p1 h) (by decide)
  · refine ⟨_, _, _, _, h1, v_M_fuse0 hm p1 h, ?_, fun _ => h2⟩
    rw [x_put_self, pk_un (by decide)]; exact hm.1
/-! picture -/
theorem v_X_picture_ok (hx : x_fr n z) (p1 p2 : Int32) (h1 : ¬ p1 < 1) (h2 : ¬ (8 : Int32) < p1) (h3 : ¬ p2 < 1) (h4 : ¬ (8 : Int32) < p2) : ∃ z1, f_X_picture n p1 p2 z = some (Sum.inr 0, z1) := by
  have i1 : f_P_isSide n p1 z = some (1, z) := by unfold f_P_isSide; rw [if_neg h1, if_neg h2]
  have i2 : f_P_isSide n p2 z = some (1, z) := by unfold f_P_isSide; rw [if_neg h3, if_neg h4]
  have e : ((0 : Int32)).toNatClampNeg = 0 := by decide
  have e7 : x_ln n (6 + 2 * 0 + 1) = 66 := rfl
  have h : ∃ z1, f_X_picture_48 n p1 p2 0 z = some (Sum.inr 0, z1) := by
    unfold f_X_picture_48
    rw [v_ck (v_d (by decide)), e]
    have hb : ∃ z1, f_P_begin n (6 + 2 * 0) p1 p2 z = some ((), z1) := by
      unfold f_P_begin
      rw [e7, v_ck (v_d (by decide)), v_ck (v_d (by decide))]
      exact ⟨_, rfl⟩
    obtain ⟨z1, hb⟩ := hb
    exact ⟨z1, v_cl hb⟩
  obtain ⟨z1, h⟩ := h
  refine ⟨z1, ?_⟩
  unfold f_X_picture
  rw [v_clr (v_rwc hx), v_cl i1, if_neg (by decide), v_cl i2, if_neg (by decide)]
  obtain ⟨f, hf, -⟩ := v_fu (show 0 < x_FU by decide)
  rw [hf, f_X_picture_30, if_neg (by decide), v_ck (v_d (by decide)), e, if_pos (hx.2.2.2.2.2.2.1 0 (by decide)), h]
theorem v_X_picture_bad (hx : x_fr n z) (p1 p2 : Int32) (h : p1 < 1 ∨ (8 : Int32) < p1 ∨ p2 < 1 ∨ (8 : Int32) < p2) : f_X_picture n p1 p2 z = some (Sum.inl "java/lang/IllegalArgumentException", z) := by
  unfold f_X_picture
  rw [v_clr (v_rwc hx)]
  by_cases h1 : p1 < 1
  · rw [v_cl (show f_P_isSide n p1 z = some (0, z) by unfold f_P_isSide; rw [if_pos h1]), if_pos rfl]
  · by_cases h2 : (8 : Int32) < p1
    · rw [v_cl (show f_P_isSide n p1 z = some (0, z) by unfold f_P_isSide; rw [if_neg h1, if_pos h2]), if_pos rfl]
    · rw [v_cl (show f_P_isSide n p1 z = some (1, z) by unfold f_P_isSide; rw [if_neg h1, if_neg h2]), if_neg (by decide)]
      by_cases h3 : p2 < 1
      · rw [v_cl (show f_P_isSide n p2 z = some (0, z) by unfold f_P_isSide; rw [if_pos h3]), if_pos rfl]
      · have h4 : (8 : Int32) < p2 := by
          rcases h with h | h | h | h
          · exact absurd h h1
          · exact absurd h h2
          · exact absurd h h3
          · exact h
        rw [v_cl (show f_P_isSide n p2 z = some (0, z) by unfold f_P_isSide; rw [if_neg h3, if_pos h4]), if_pos rfl]
theorem v_M_pict_6 (hm : m_fr n zm) (p1 p2 : Int32) : ∀ (j : Nat) (a : Int32) (fu : Nat), j ≤ 8 → j < fu → (j = 0 → a = 0) → f_M_picture_6 n fu p1 p2 a (nI j + (-1)) zm = f_M_picture_34 n p1 p2 0 zm := by
  intro j
  induction j with
  | zero =>
    intro a fu hj hf ha
    obtain ⟨f, rfl, -⟩ := v_fu hf
    rw [f_M_picture_6, if_pos (by decide), ha rfl]
  | succ j ih =>
    intro a fu hj hf ha
    obtain ⟨f, rfl, hf2⟩ := v_fu hf
    rw [pk_m1]
    rw [f_M_picture_6, if_neg (nI_pos (by omega)), v_ckm 8 (vp_in_nI (show j < 8 by omega) (by decide)) (by rfl), if_pos (hm.2.2.2.2.2.2.1 _)]
    exact ih (nI j) f (by omega) (by omega) (fun e => by subst e; exact nI_0)
theorem v_M_picture (hm : m_fr n zm) (p1 p2 : Int32) : f_M_picture n p1 p2 zm = f_M_picture_34 n p1 p2 0 zm := by
  unfold f_M_picture
  exact v_M_pict_6 hm p1 p2 8 (-1) x_FU (by decide) (by decide) (fun h => absurd h (by decide))
theorem v_M_picture_bad (hm : m_fr n zm) (p1 p2 : Int32) (h : p1 < 1 ∨ (8 : Int32) < p1 ∨ p2 < 1 ∨ (8 : Int32) < p2) : f_M_picture n p1 p2 zm = some (0, x_put zm 0 0 2) := by
  rw [v_M_picture hm]
  unfold f_M_picture_34
  rw [if_pos hm.2.2.1]
  by_cases h1 : p1 < 1
  · rw [if_pos h1, v_00, if_neg (by decide)]
  · rw [if_neg h1]
    by_cases h2 : (8 : Int32) < p1
    · rw [if_pos h2, v_00, if_neg (by decide)]
    · rw [if_neg h2]
      by_cases h3 : p2 < 1
      · rw [if_pos h3, v_00, if_neg (by decide)]
      · have h4 : (8 : Int32) < p2 := by
          rcases h with h | h | h | h
          · exact absurd h h1
          · exact absurd h h2
          · exact absurd h h3
          · exact h
        rw [if_neg h3, if_neg (Int32.not_le.mpr h4), v_00, if_neg (by decide)]
theorem v_M_picture_ok (hm : m_fr n zm) (p1 p2 : Int32) (h1 : ¬ p1 < 1) (h2 : ¬ (8 : Int32) < p1) (h3 : ¬ p2 < 1) (h4 : ¬ (8 : Int32) < p2) : ∃ zm1, f_M_picture n p1 p2 zm = some (0, zm1) ∧ zm1.1 0 0 = 0 := by
  rw [v_M_picture hm]
  unfold f_M_picture_34
  rw [if_pos hm.2.2.1, if_neg h1, if_neg h2, if_neg h3, if_pos (Int32.not_lt.mp h4), if_neg (by decide), v_00, if_pos (by decide), v_ckm 8 (v_d (by decide)) (by rfl), v_ckm 8 (v_d (by decide)) (by rfl), v_ckm 8 (v_d (by decide)) (by rfl), v_ckm 8 (v_d (by decide)) (by rfl)]
  refine ⟨_, rfl, ?_⟩
  rw [v_k _ (by decide), v_k _ (by decide), v_k _ (by decide), v_k _ (by decide), v_00]
theorem v_picture (hx : x_fr n z) (hm : m_fr n zm) (p1 p2 : Int32) : v_same (f_L_picture n p1 p2 z) (f_M_picture n p1 p2 zm) := by
  by_cases h : p1 < 1 ∨ (8 : Int32) < p1 ∨ p2 < 1 ∨ (8 : Int32) < p2
  · refine v_thr (r := 2) (z1 := z) ?_ (v_M_picture_bad hm p1 p2 h) (by decide)
    unfold f_L_picture
    rw [v_tryt (v_X_picture_bad hx p1 p2 h), if_neg (by decide +kernel), if_pos rfl]
  · have h1 : ¬ p1 < 1 := fun q => h (Or.inl q)
    have h2 : ¬ (8 : Int32) < p1 := fun q => h (Or.inr (Or.inl q))
    have h3 : ¬ p2 < 1 := fun q => h (Or.inr (Or.inr (Or.inl q)))
    have h4 : ¬ (8 : Int32) < p2 := fun q => h (Or.inr (Or.inr (Or.inr q)))
    obtain ⟨z1, e1⟩ := v_X_picture_ok hx p1 p2 h1 h2 h3 h4
    obtain ⟨zm1, e2, e3⟩ := v_M_picture_ok hm p1 p2 h1 h2 h3 h4
    refine ⟨0, _, 0, zm1, ?_, e2, e3, fun _ => v_out z1 ((0 : Int32)).toInt64⟩
    unfold f_L_picture
    rw [v_tryr e1, v_ck (v_d (by decide))]
end VALS

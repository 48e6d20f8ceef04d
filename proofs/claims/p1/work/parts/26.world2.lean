/-! THE LAW'S WORLD: the library's cells and the law's own row of one long; the reference's cells; either side may stand in front -/
theorem x_cell_rs (G : x_G) (ad : Nat → Nat) (n : Nat) (rs rs' : va_W) (k : Nat) (f : Nat → Int32) (g : Nat → Int64) : x_cell (x_mk G ad n rs) k f g = x_cell (x_mk G ad n rs') k f g := rfl
theorem m_cell_rs (G : x_G) (ad : Nat → Nat) (n : Nat) (rs rs' : va_W) (k : Nat) (f : Nat → Int32) (g : Nat → Int64) : m_cell (x_mk G ad n rs) k f g = m_cell (x_mk G ad n rs') k f g := rfl
def l_X (G : x_G) (ad : Nat → Nat) (n : Nat) (z : x_St) : va_W := (List.range 111).map (fun k => (ad k, x_cell (x_mk G ad n []) k (z.1 k) (z.2 k)))
def l_M (G : x_G) (ad : Nat → Nat) (n : Nat) (z : x_St) : va_W := (List.range 26).map (fun k => (ad k, m_cell (x_mk G ad n []) k (z.1 k) (z.2 k)))
theorem x_Wd_app (G : x_G) (ad : Nat → Nat) (n : Nat) (rs : va_W) (z : x_St) : x_Wd (x_mk G ad n rs) z = l_X G ad n z ++ rs := rfl
theorem m_Wd_app (G : x_G) (ad : Nat → Nat) (n : Nat) (rs : va_W) (z : x_St) : m_Wd (x_mk G ad n rs) z = l_M G ad n z ++ rs := rfl
theorem l_swapP {D : va_G} {cl : List vw_C} {a b : va_W} {H : Heap} (h : va_P D cl (a ++ b) H) : va_P D cl (b ++ a) H := va_P.swap (a := []) (b := a) (c := b) h
theorem l_swapD {A : Nat → Prop} {a b : va_W} (h : va_D A (a ++ b)) : va_D A (b ++ a) := va_D.swap (a := []) (b := a) (c := b) h
abbrev g_X (G : x_G) (ax am : Nat → Nat) (n : Nat) (zm : x_St) : x_G := x_mk G ax n (l_M G am n zm)
abbrev g_M (G : x_G) (ax am : Nat → Nat) (n : Nat) (z : x_St) : x_G := x_mk G am n (l_X G ax n z)
theorem l_toM {G : x_G} {ax am : Nat → Nat} {n : Nat} {z zm : x_St} {D : va_G} {cl : List vw_C} {A : Nat → Prop} {H : Heap} (hP : va_P D cl (x_Wd (g_X G ax am n zm) z) H) (hD : va_D A (x_Wd (g_X G ax am n zm) z)) : va_P D cl (m_Wd (g_M G ax am n z) zm) H ∧ va_D A (m_Wd (g_M G ax am n z) zm) := by
  rw [x_Wd_app] at hP hD
  rw [m_Wd_app]
  exact ⟨l_swapP hP, l_swapD hD⟩
theorem l_toX {G : x_G} {ax am : Nat → Nat} {n : Nat} {z zm : x_St} {D : va_G} {cl : List vw_C} {A : Nat → Prop} {H : Heap} (hP : va_P D cl (m_Wd (g_M G ax am n z) zm) H) (hD : va_D A (m_Wd (g_M G ax am n z) zm)) : va_P D cl (x_Wd (g_X G ax am n zm) z) H ∧ va_D A (x_Wd (g_X G ax am n zm) z) := by
  rw [m_Wd_app] at hP hD
  rw [x_Wd_app]
  exact ⟨l_swapP hP, l_swapD hD⟩
theorem l_addr {A : Nat → Prop} {ws ws' : va_W} (h : ws.map Prod.fst = ws'.map Prod.fst) (hD : va_D A ws) : va_D A ws' := by
  have key : ∀ (k : Nat) (q : Nat × va_E), ws'[k]? = some q → ∃ q0, ws[k]? = some q0 ∧ q0.1 = q.1 := by
    intro k q hq
    have e1 : (ws'.map Prod.fst)[k]? = some q.1 := by rw [List.getElem?_map, hq]; rfl
    rw [← h, List.getElem?_map] at e1
    exact Option.map_eq_some_iff.mp e1
  refine ⟨fun i j p q hi hj e => ?_, fun k q hq => ?_⟩
  · obtain ⟨p0, a1, a2⟩ := key i p hi
    obtain ⟨q0, b1, b2⟩ := key j q hj
    exact hD.1 i j p0 q0 a1 b1 (a2.trans (e.trans b2.symm))
  · obtain ⟨q0, b1, b2⟩ := key k q hq
    rw [← b2]
    exact hD.2 k q0 b1
theorem y_XEc {G : x_G} {n a0 : Nat} {ad ad' : Nat → Nat} {c c' : Nat → va_E} {f g : Nat → Option Nat} (ha : ∀ k, k < 110 → ad' k = ad k) (hc : ∀ k, k < 110 → c' k = c k) (h : y_XE G n a0 ad c f g) : y_XE G n a0 ad' c' f g := by
  obtain ⟨h0, ⟨h1, h2, h3, h4⟩, ⟨h5, hPi⟩, ⟨h22, hKi⟩, hX, h103, h104, h105, h106, h107, h108, h109⟩ := h
  refine ⟨by rw [ha 0 (by decide)]; exact h0, ⟨by rw [hc 1 (by decide), ha 2 (by decide), ha 3 (by decide)]; exact h1, by rw [hc 2 (by decide)]; exact h2, by rw [hc 3 (by decide)]; exact h3, by rw [hc 4 (by decide)]; exact h4⟩, ⟨by rw [hc 5 (by decide)]; exact h5, fun j hj => ?_⟩, ⟨by rw [hc 22 (by decide)]; exact h22, fun j hj => ?_⟩, by rw [hc 0 (by decide), ha 1 (by decide), ha 4 (by decide), ha 5 (by decide), ha 22 (by decide), ha 103 (by decide), ha 107 (by decide), ha 108 (by decide), ha 109 (by decide)]; exact hX, by rw [hc 103 (by decide), ha 104 (by decide), ha 105 (by decide), ha 106 (by decide)]; exact h103, by rw [hc 104 (by decide)]; exact h104, by rw [hc 105 (by decide)]; exact h105, by rw [hc 106 (by decide)]; exact h106, by rw [hc 107 (by decide)]; exact h107, by rw [hc 108 (by decide)]; exact h108, by rw [hc 109 (by decide)]; exact h109⟩
  · obtain ⟨p1, p2, p3⟩ := hPi j hj
    exact ⟨by rw [ha (6 + 2 * j) (by omega)]; exact p1, by rw [hc (6 + 2 * j) (by omega), ha (6 + 2 * j + 1) (by omega)]; exact p2, by rw [hc (6 + 2 * j + 1) (by omega)]; exact p3⟩
  · obtain ⟨p1, p2, p3, p4, p5, p6⟩ := hKi j hj
    exact ⟨by rw [ha (23 + 5 * j) (by omega)]; exact p1, by rw [hc (23 + 5 * j) (by omega), ha (23 + 5 * j + 1) (by omega), ha (23 + 5 * j + 1 + 1 + 1) (by omega), ha (23 + 5 * j + 1 + 1 + 1 + 1) (by omega)]; exact p2, by rw [hc (23 + 5 * j + 1) (by omega), ha (23 + 5 * j + 1 + 1) (by omega)]; exact p3, by rw [hc (23 + 5 * j + 1 + 1) (by omega)]; exact p4, by rw [hc (23 + 5 * j + 1 + 1 + 1) (by omega)]; exact p5, by rw [hc (23 + 5 * j + 1 + 1 + 1 + 1) (by omega)]; exact p6⟩
/-- behind both constructors and the law's own row -/
theorem l_start {G : x_G} {n a0 q : Nat} {ad am : Nat → Nat} {c : Nat → va_E} {f g : Nat → Option Nat} {zm : x_St} {H : Heap} (hE : y_XE G n a0 ad c f g) (hP : va_P (x_D G) vwCl (m_Wd (x_mk G am n (y_W ad c 110)) zm ++ [(q, .inl (x_ca G 4, 1, .inr (.inl (fun _ => (0 : Int64)))))]) H) (hD : va_D (x_A G) (m_Wd (x_mk G am n (y_W ad c 110)) zm ++ [(q, .inl (x_ca G 4, 1, .inr (.inl (fun _ => (0 : Int64)))))])) :
    ∃ ax : Nat → Nat, ax 0 = a0 ∧ ax 110 = q ∧ va_P (x_D G) vwCl (x_Wd (g_X G ax am n zm) (x_z0 n)) H ∧ va_D (x_A G) (x_Wd (g_X G ax am n zm) (x_z0 n)) := by
  rw [m_Wd_app, List.append_assoc, y_push] at hP hD
  have hP := l_swapP hP
  have hD := l_swapD hD
  have ha : ∀ k, k < 110 → va_up ad 110 q k = ad k := fun k hk => va_up_ne _ _ (by omega)
  have hc : ∀ k, k < 110 → va_up c 110 (.inl (x_ca G 4, 1, .inr (.inl (fun _ => (0 : Int64)))) : va_E) k = c k := fun k hk => va_up_ne _ _ (by omega)
  have hq : va_up ad 110 q 110 = q := va_up_self _ _ _
  have hc1 : va_up c 110 (.inl (x_ca G 4, 1, .inr (.inl (fun _ => (0 : Int64)))) : va_E) 110 = .inl (x_ca G 4, 1, .inr (.inl (fun _ => (0 : Int64)))) := va_up_self _ _ _
  have hE' := y_XEc ha hc hE
  obtain ⟨ax, eax⟩ : ∃ ax : Nat → Nat, ax = va_up ad 110 q := ⟨_, rfl⟩
  obtain ⟨cx, ecx⟩ : ∃ cx : Nat → va_E, cx = va_up c 110 (.inl (x_ca G 4, 1, .inr (.inl (fun _ => (0 : Int64))))) := ⟨_, rfl⟩
  rw [← eax] at hE' hP hD hq
  rw [← ecx] at hE' hP hD hc1
  have hY : ∀ k, k < 111 → va_at (x_D G) vwCl (ax k, cx k) H := fun k hk => hP k _ (by
    rw [List.getElem?_append_left (by unfold y_W; simpa using hk)]; exact y_get hk)
  have hM : va_P (x_D G) vwCl (l_M G am n zm) H := fun k w hk => hP (111 + k) w (by
    have hlen : (y_W ax cx (110 + 1)).length = 111 := by unfold y_W; simp
    rw [List.getElem?_append_right (by omega), hlen, Nat.add_sub_cancel_left]; exact hk)
  refine ⟨ax, hE'.1, hq, ?_, ?_⟩
  · refine w_P (fun k hk => ?_) hM
    by_cases h : k < 110
    · exact y_fresh hE' k h (hY k hk)
    · have e : k = 110 := by omega
      subst e
      have h1 := hY 110 hk
      rw [hc1] at h1
      exact h1
  · refine l_addr ?_ hD
    rw [x_Wd_app, List.map_append, List.map_append]
    refine congrArg (fun a => a ++ (l_M G am n zm).map Prod.fst) ?_
    unfold y_W l_X
    rw [List.map_map, List.map_map] <;> rfl
/-! what the reference's constructor does to a state -/
def m_z0 : x_St := (fun k => if k = 0 then (fun j => if j = 4 then -1 else 0) else fun _ => 0, fun _ _ => 0)
def m_own (z : x_St) : Nat → x_St
  | 0 => z
  | j + 1 => x_put (m_own z j) 15 j (-1)
theorem m_own_ne (z : x_St) {k : Nat} (h : k ≠ 15) : ∀ j, (m_own z j).1 k = z.1 k
  | 0 => rfl
  | j + 1 => by rw [m_own, x_put_ne _ _ _ h]; exact m_own_ne z h j
theorem m_own_at (z : x_St) {i : Nat} : ∀ j, i < j → (m_own z j).1 15 i = -1
  | 0, h => absurd h (Nat.not_lt_zero i)
  | j + 1, h => by
    rw [m_own, x_put_self]
    by_cases e : i = j
    · rw [e, pk_us]
    · rw [pk_un e]; exact m_own_at z j (by omega)
/-- cells 18 and 19 may have changed, nothing else -/
def m_like (z z' : x_St) : Prop := ∀ k, k ≠ 18 → k ≠ 19 → z'.1 k = z.1 k
theorem m_like.put {z z' : x_St} (h : m_like z z') {k : Nat} (hk : k = 18 ∨ k = 19) (j : Nat) (v : Int32) : m_like z (x_put z' k j v) := fun i h1 h2 => by
  rw [x_put_ne _ _ _ (by omega)]; exact h i h1 h2
theorem m_fresh {n : Nat} {z' : x_St} (h : m_like (m_own (x_put m_z0 0 1 (nI n)) 40) z') : m_fr n z' := by
  have e : ∀ k, k ≠ 18 → k ≠ 19 → k ≠ 15 → z'.1 k = (x_put m_z0 0 1 (nI n)).1 k := fun k h1 h2 h3 => (h k h1 h2).trans (m_own_ne _ h3 40)
  have e0 : z'.1 0 = upd (m_z0.1 0) 1 (nI n) := (e 0 (by decide) (by decide) (by decide)).trans (x_put_self _ _ _ _)
  have ek : ∀ k, k ≠ 18 → k ≠ 19 → k ≠ 15 → k ≠ 0 → z'.1 k = fun _ => 0 := fun k h1 h2 h3 h4 => (e k h1 h2 h3).trans ((x_put_ne _ _ _ h4).trans (if_neg h4))
  refine ⟨?_, ?_, ?_, ?_, ?_, fun j => ?_, fun j => ?_, fun j => ?_, fun j hj => ?_⟩
  · rw [e0, pk_un (by decide)] <;> rfl
  · rw [e0, pk_us]
  · rw [e0, pk_un (by decide)] <;> rfl
  · rw [e0, pk_un (by decide)] <;> rfl
  · rw [e0, pk_un (by decide)] <;> rfl
  · rw [ek 1 (by decide) (by decide) (by decide) (by decide)]
  · rw [ek 2 (by decide) (by decide) (by decide) (by decide)]
  · rw [ek 7 (by decide) (by decide) (by decide) (by decide)]
  · rw [h 15 (by decide) (by decide)]; exact m_own_at _ 40 hj
/-! primes and roots: they touch no cell -/
def q_z : x_St := (fun _ _ => 0, fun _ _ => 0)
theorem v_ite {c : Prop} [Decidable c] {a b : Option (Int32 × x_St)} {z : x_St} (h1 : ∃ r, a = some (r, z)) (h2 : ∃ r, b = some (r, z)) : ∃ r, (if c then a else b) = some (r, z) := by
  by_cases h : c
  · rw [if_pos h]; exact h1
  · rw [if_neg h]; exact h2
theorem v_below (n : Nat) (p1 : Int64) (p2 p3 : Int32) (z : x_St) : ∃ r, f_M_isBelow n p1 p2 p3 z = some (r, z) := by
  unfold f_M_isBelow
  repeat' first | refine v_ite ?_ ?_ | exact ⟨_, rfl⟩
theorem v_root (n : Nat) (p1 p2 : Int32) (z : x_St) : ∃ r, f_M_rootOf n p1 p2 z = some (r, z) := by
  have h : ∀ (j : Nat) (fu : Nat) (a : Int64), j ≤ 40 → j < fu → ∃ r, f_M_rootOf_6 n fu p1 p2 a (nI j + (-1)) z = some (r, z) := by
    intro j
    induction j with
    | zero =>
      intro fu a hj hf
      obtain ⟨f, rfl, -⟩ := v_fu hf
      rw [f_M_rootOf_6, if_pos (by decide)]
      exact ⟨_, rfl⟩
    | succ j ih =>
      intro fu a hj hf
      obtain ⟨f, rfl, hf2⟩ := v_fu hf
      rw [pk_m1]
      obtain ⟨r, hb⟩ := v_below n (a + x_lshl (1 : Int64) (nI j)) p2 p1 z
      rw [f_M_rootOf_6, if_neg (nI_pos (by omega)), v_cl hb]
      exact v_ite (ih f _ (by omega) (by omega)) (ih f _ (by omega) (by omega))
  unfold f_M_rootOf
  exact h 40 x_FU 0 (by decide) (by decide)
theorem v_pr4 (n : Nat) (z : x_St) : ∀ (fu : Nat) (a0 a1 a2 : Int32), f_M_isPrime_4 n fu a0 a1 a2 z = (f_M_isPrime_4 0 fu a0 a1 a2 q_z).map (fun q => (q.1, z)) := by
  intro fu
  induction fu with
  | zero => intro a0 a1 a2; rfl
  | succ fu ih =>
    intro a0 a1 a2
    rw [f_M_isPrime_4, f_M_isPrime_4]
    by_cases h1 : a0 < a2 * a2
    · rw [if_pos h1, if_pos h1, f_M_isPrime_33, f_M_isPrime_33, x_ckb, x_ckb]
      by_cases h2 : a1 = 0 ∨ a1 = 1
      · rw [if_pos h2, if_pos h2] <;> rfl
      · rw [if_neg h2, if_neg h2] <;> rfl
    · rw [if_neg h1, if_neg h1]
      by_cases h2 : a1 = 0
      · rw [if_pos h2, if_pos h2]; exact ih _ _ _
      · rw [if_neg h2, if_neg h2, x_nz, x_nz]
        by_cases h3 : a2 = 0
        · rw [if_pos h3, if_pos h3] <;> rfl
        · rw [if_neg h3, if_neg h3]
          by_cases h4 : a0 - a0 / a2 * a2 = 0
          · rw [if_pos h4, if_pos h4]; exact ih _ _ _
          · rw [if_neg h4, if_neg h4]; exact ih _ _ _
theorem v_prime (n : Nat) (z : x_St) {p r : Int32} {y : x_St} (h : f_M_isPrime 0 p q_z = some (r, y)) : f_M_isPrime n p z = some (r, z) := by
  unfold f_M_isPrime at h ⊢
  rw [v_pr4, h] <;> rfl
def q_in : Nat → Int32 → Option Int32
  | 0, _ => none
  | fu + 1, p => match f_M_isPrime 0 p q_z with
    | none => none
    | some q => if q.1 = 0 then q_in fu (p + 1) else some p
def q_out : Nat → Int32 → Int32 → Bool
  | 0, _, _ => false
  | fu + 1, k, p => if (64 : Int32) ≤ k then true else match q_in 40 (p + 1) with
    | none => false
    | some p' => q_out fu (k + 1) p'
theorem q_all : q_out 65 0 1 = true := by decide +kernel
theorem q_in_some {fu : Nat} {p p' : Int32} (h : q_in (fu + 1) p = some p') : ∃ (r : Int32) (y : x_St), f_M_isPrime 0 p q_z = some (r, y) ∧ ((r = 0 ∧ q_in fu (p + 1) = some p') ∨ (r ≠ 0 ∧ p = p')) := by
  rw [q_in] at h
  cases e : f_M_isPrime 0 p q_z with
  | none =>
    rw [e] at h
    have h : (none : Option Int32) = some p' := h
    cases h
  | some q =>
    rw [e] at h
    have h : (if q.1 = 0 then q_in fu (p + 1) else some p) = some p' := h
    refine ⟨q.1, q.2, rfl, ?_⟩
    by_cases h0 : q.1 = 0
    · rw [if_pos h0] at h; exact Or.inl ⟨h0, h⟩
    · rw [if_neg h0] at h; exact Or.inr ⟨h0, Option.some.inj h⟩
theorem q_out_some {fu : Nat} {k p : Int32} (h : q_out (fu + 1) k p = true) : (64 : Int32) ≤ k ∨ (¬ (64 : Int32) ≤ k ∧ ∃ p', q_in 40 (p + 1) = some p' ∧ q_out fu (k + 1) p' = true) := by
  rw [q_out] at h
  by_cases h0 : (64 : Int32) ≤ k
  · exact Or.inl h0
  · rw [if_neg h0] at h
    cases e : q_in 40 (p + 1) with
    | none =>
      rw [e] at h
      have h : false = true := h
      cases h
    | some p' =>
      rw [e] at h
      exact Or.inr ⟨h0, p', rfl, h⟩

/-! ONE WORLD SEEN FROM ANOTHER SIDE -/
theorem w_P {cf : Nat → (Nat → Int32) → (Nat → Int64) → va_E} {tot : Nat} {ad : Nat → Nat} {rs : va_W} {z : x_St} {D : va_G} {cl : List vw_C} {H : Heap} (h1 : ∀ k, k < tot → va_at D cl (ad k, cf k (z.1 k) (z.2 k)) H) (h2 : va_P D cl rs H) : va_P D cl (w_Wd cf tot ad rs z) H := by
  intro k q hq
  by_cases hk : k < tot
  · rw [w_get hk] at hq
    cases hq
    exact h1 k hk
  · rw [w_out hk] at hq
    exact h2 _ q hq
theorem w_D {cf : Nat → (Nat → Int32) → (Nat → Int64) → va_E} {tot : Nat} {ad : Nat → Nat} {rs : va_W} {z : x_St} {A : Nat → Prop} (h1 : ∀ i j, i < tot → j < tot → ad i = ad j → i = j) (h2 : va_D A rs) (h3 : ∀ i, i < tot → ∀ (k : Nat) (q : Nat × va_E), rs[k]? = some q → ad i ≠ q.1) (h4 : ∀ i, i < tot → A (ad i)) : va_D A (w_Wd cf tot ad rs z) := by
  refine ⟨fun i j p q hi hj e => ?_, fun k q hq => ?_⟩
  · by_cases hi' : i < tot
    · rw [w_get hi'] at hi
      by_cases hj' : j < tot
      · rw [w_get hj'] at hj
        cases hi; cases hj
        exact h1 i j hi' hj' e
      · rw [w_out hj'] at hj
        cases hi
        exact absurd e (h3 i hi' _ q hj)
    · rw [w_out hi'] at hi
      by_cases hj' : j < tot
      · rw [w_get hj'] at hj
        cases hj
        exact absurd e.symm (h3 j hj' _ p hi)
      · rw [w_out hj'] at hj
        have := h2.1 _ _ p q hi hj e
        omega
  · by_cases hk : k < tot
    · rw [w_get hk] at hq
      cases hq
      exact h4 k hk
    · rw [w_out hk] at hq
      exact h2.2 _ q hq
theorem y_inj {A : Nat → Prop} {ad : Nat → Nat} {c : Nat → va_E} {t : Nat} (h : va_D A (y_W ad c t)) {i j : Nat} (hi : i < t) (hj : j < t) (e : ad i = ad j) : i = j := h.1 i j _ _ (y_get hi) (y_get hj) e
theorem y_in {A : Nat → Prop} {ad : Nat → Nat} {c : Nat → va_E} {t : Nat} (h : va_D A (y_W ad c t)) {i : Nat} (hi : i < t) : A (ad i) := h.2 i _ (y_get hi)
theorem y_mem {ad : Nat → Nat} {c : Nat → va_E} {t k : Nat} {q : Nat × va_E} (h : (y_W ad c t)[k]? = some q) : k < t ∧ q = (ad k, c k) := by
  by_cases hk : k < t
  · rw [y_get hk] at h
    exact ⟨hk, (Option.some.inj h).symm⟩
  · rw [y_out hk] at h
    cases h
theorem y_less {A : Nat → Prop} {ad : Nat → Nat} {c : Nat → va_E} {t u : Nat} (h : va_D A (y_W ad c t)) (hu : u ≤ t) : va_D A (y_W ad c u) := by
  refine ⟨fun i j p q hi hj e => ?_, fun k q hq => ?_⟩
  · obtain ⟨a1, rfl⟩ := y_mem hi
    obtain ⟨a2, rfl⟩ := y_mem hj
    exact y_inj h (by omega) (by omega) e
  · obtain ⟨a1, rfl⟩ := y_mem hq
    exact y_in h (by omega)
theorem y_lessP {D : va_G} {cl : List vw_C} {H : Heap} {ad : Nat → Nat} {c : Nat → va_E} {t u : Nat} (h : va_P D cl (y_W ad c t) H) (hu : u ≤ t) : va_P D cl (y_W ad c u) H := by
  intro k q hq
  obtain ⟨a1, rfl⟩ := y_mem hq
  exact h k _ (y_get (by omega))
theorem y_atP {D : va_G} {cl : List vw_C} {H : Heap} {ad : Nat → Nat} {c : Nat → va_E} {t k : Nat} (h : va_P D cl (y_W ad c t) H) (hk : k < t) : va_at D cl (ad k, c k) H := h k _ (y_get hk)
/-- the reference's cells lie at t .. t + 25 (its object at t); all before are others: its world -/
theorem y_toM {G : x_G} {ad : Nat → Nat} {c : Nat → va_E} {t n : Nat} {z : x_St} {H : Heap} (hP : va_P (x_D G) vwCl (y_W ad c (t + 26)) H) (hD : va_D (x_A G) (y_W ad c (t + 26))) (hc : ∀ k, k < 26 → c (t + k) = m_cell (x_mk G (fun k => ad (t + k)) n (y_W ad c t)) k (z.1 k) (z.2 k)) : va_P (x_D G) vwCl (m_Wd (x_mk G (fun k => ad (t + k)) n (y_W ad c t)) z) H ∧ va_D (x_A G) (m_Wd (x_mk G (fun k => ad (t + k)) n (y_W ad c t)) z) := by
  refine ⟨w_P (fun k hk => ?_) (y_lessP hP (by omega)), w_D (fun i j hi hj e => ?_) (y_less hD (by omega)) (fun i hi k q hq e => ?_) (fun i hi => y_in hD (show t + i < t + 26 by omega))⟩
  · have h := y_atP hP (show t + k < t + 26 by omega)
    rw [hc k hk] at h
    exact h
  · have := y_inj hD (show t + i < t + 26 by omega) (show t + j < t + 26 by omega) e
    omega
  · obtain ⟨a1, rfl⟩ := y_mem hq
    have := y_inj hD (show t + i < t + 26 by omega) (show k < t + 26 by omega) e
    omega

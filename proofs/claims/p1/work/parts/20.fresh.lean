/-! A FRESH LIBRARY: the constructor's cells are those of the fresh state -/
abbrev x_mk (G : x_G) (ad : Nat → Nat) (n : Nat) (rs : va_W) : x_G := (G.1, G.2.1, G.2.2.1, ad, n, x_s0 G, rs)
def x_z0 (n : Nat) : x_St := (fun k j => if k = 1 ∧ j = 0 then nI n else if k = 1 ∧ j = 1 then -1 else 0, fun _ _ => 0)
theorem x_z0_ne (n : Nat) {k : Nat} (h : k ≠ 1) : (x_z0 n).1 k = fun _ => 0 := by
  funext j
  show (if k = 1 ∧ j = 0 then nI n else if k = 1 ∧ j = 1 then -1 else (0 : Int32)) = 0
  rw [if_neg (fun q => h q.1), if_neg (fun q => h q.1)]
theorem y_refs {cA : ClassId} {n : Nat} {f g : Nat → Option Nat} (h : ∀ j, j < n → f j = g j) : vp_cell cA (n, .inr (.inr (.inr (.inr f)))) = vp_cell cA (n, .inr (.inr (.inr (.inr g)))) := by
  rw [vp_cell_q, vp_cell_q]
  have e : (Array.ofFn (n := n) fun j => va_rf (f j.val)) = Array.ofFn (n := n) fun j => va_rf (g j.val) := congrArg Array.ofFn (funext fun j => by rw [h j.val j.isLt])
  show ({ cls := cA, slots := Array.ofFn (n := n) fun j => va_rf (f j.val), vm := .none } : Cell) = _
  rw [e]; rfl
theorem x_cell_0 (G : x_G) {k : Nat} (n : Nat) (h : k ≠ 1) : x_cell G k ((x_z0 n).1 k) ((x_z0 n).2 k) = x_cell G k (fun _ => 0) (fun _ => 0) := by
  rw [x_z0_ne n h]; rfl
theorem y_fresh {G : x_G} {n a0 : Nat} {ad : Nat → Nat} {c : Nat → va_E} {f g : Nat → Option Nat} {rs : va_W} {H : Heap} (h : y_XE G n a0 ad c f g) : ∀ k, k < 110 → va_at (x_D G) vwCl (ad k, c k) H → va_at (x_D G) vwCl (ad k, x_cell (x_mk G ad n rs) k ((x_z0 n).1 k) ((x_z0 n).2 k)) H := by
  obtain ⟨-, ⟨h1, h2, h3, h4⟩, ⟨h5, hPi⟩, ⟨h22, hKi⟩, h0, h103, h104, h105, h106, h107, h108, h109⟩ := h
  intro k hk hat
  by_cases k1 : k = 1
  · subst k1; rw [h1] at hat; exact hat
  rw [x_cell_0 _ n k1]
  by_cases k0 : k = 0
  · subst k0; rw [h0] at hat; exact hat
  by_cases k2 : k = 2
  · subst k2; rw [h2] at hat; exact hat
  by_cases k3 : k = 3
  · subst k3; rw [h3] at hat; exact hat
  by_cases k4 : k = 4
  · subst k4; rw [h4] at hat; exact hat
  by_cases k5 : k = 5
  · subst k5
    rw [h5] at hat
    have e : H[ad 5]? = some (vp_cell (x_ca G 2) (8, .inr (.inr (.inr (.inr f))))) := hat
    rw [y_refs (g := fun j => some (ad (6 + 2 * j))) (fun j hj => (hPi j hj).1)] at e
    exact e
  by_cases k22 : k = 22
  · subst k22
    rw [h22] at hat
    have e : H[ad 22]? = some (vp_cell (x_ca G 3) (16, .inr (.inr (.inr (.inr g))))) := hat
    rw [y_refs (g := fun j => some (ad (23 + 5 * j))) (fun j hj => (hKi j hj).1)] at e
    exact e
  by_cases kp : k < 22
  · obtain ⟨j, hj⟩ : ∃ j, j = (k - 6) / 2 := ⟨_, rfl⟩
    obtain ⟨-, p2, p3⟩ := hPi j (by omega)
    by_cases ev : k % 2 = 0
    · have e : k = 6 + 2 * j := by omega
      rw [x_cell_P _ (x_isP_iff.mpr (by omega))]
      rw [e] at hat ⊢
      rw [p2] at hat; exact hat
    · have e : k = 6 + 2 * j + 1 := by omega
      rw [x_cell_A _ (x_isA_iff.mpr ⟨by omega, by omega, by omega, by omega, by omega, by omega, by omega, x_isP_f.mpr (by omega), x_isK_f.mpr (by omega)⟩)]
      rw [show x_ln (x_n (x_mk G ad n rs)) k = 66 by unfold x_ln; rw [if_neg (by omega), if_neg (by omega), if_pos (by omega)]]
      rw [e] at hat ⊢
      rw [p3] at hat; exact hat
  by_cases kk : k < 103
  · obtain ⟨j, hj⟩ : ∃ j, j = (k - 23) / 5 := ⟨_, rfl⟩
    obtain ⟨-, p2, p3, p4, p5, p6⟩ := hKi j (by omega)
    have hln : x_ln (x_n (x_mk G ad n rs)) k = if k % 5 = 0 then 66 else if k % 5 = 1 then 8 else 3 := by
      unfold x_ln; rw [if_neg (by omega), if_neg (by omega), if_neg (by omega), if_pos (by omega)]
    rcases (show k % 5 = 3 ∨ k % 5 = 4 ∨ k % 5 = 0 ∨ k % 5 = 1 ∨ k % 5 = 2 by omega) with m | m | m | m | m
    · have e : k = 23 + 5 * j := by omega
      rw [x_cell_K _ (x_isK_iff.mpr (by omega))]
      rw [e] at hat ⊢
      rw [p2] at hat; exact hat
    · have e : k = 23 + 5 * j + 1 := by omega
      rw [x_cell_P _ (x_isP_iff.mpr (by omega))]
      rw [e] at hat ⊢
      rw [p3] at hat; exact hat
    · have e : k = 23 + 5 * j + 1 + 1 := by omega
      rw [x_cell_A _ (x_isA_iff.mpr ⟨by omega, by omega, by omega, by omega, by omega, by omega, by omega, x_isP_f.mpr (by omega), x_isK_f.mpr (by omega)⟩), hln, if_pos m]
      rw [e] at hat ⊢
      rw [p4] at hat; exact hat
    · have e : k = 23 + 5 * j + 1 + 1 + 1 := by omega
      rw [x_cell_A _ (x_isA_iff.mpr ⟨by omega, by omega, by omega, by omega, by omega, by omega, by omega, x_isP_f.mpr (by omega), x_isK_f.mpr (by omega)⟩), hln, if_neg (by omega), if_pos m]
      rw [e] at hat ⊢
      rw [p5] at hat; exact hat
    · have e : k = 23 + 5 * j + 1 + 1 + 1 + 1 := by omega
      rw [x_cell_A _ (x_isA_iff.mpr ⟨by omega, by omega, by omega, by omega, by omega, by omega, by omega, x_isP_f.mpr (by omega), x_isK_f.mpr (by omega)⟩), hln, if_neg (by omega), if_neg (by omega)]
      rw [e] at hat ⊢
      rw [p6] at hat; exact hat
  rcases (show k = 103 ∨ k = 104 ∨ k = 105 ∨ k = 106 ∨ k = 107 ∨ k = 108 ∨ k = 109 by omega) with e | e | e | e | e | e | e
  · subst e; rw [h103] at hat; exact hat
  · subst e; rw [h104] at hat; exact hat
  · subst e; rw [h105] at hat; exact hat
  · subst e; rw [h106] at hat; exact hat
  · subst e; rw [h107] at hat; exact hat
  · subst e; rw [h108] at hat; exact hat
  · subst e; rw [h109] at hat; exact hat

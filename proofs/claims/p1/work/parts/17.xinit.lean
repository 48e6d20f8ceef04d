abbrev rm_X_init : Room := { frames := 4, cells := 109, slots := 4864, locals := 120 }
theorem t_59 : Cond.classLink "ContentLibrary" 31 "ContentLibrary$Picture" ∈ x_big := x_bt 59 (by decide +kernel) (by decide +kernel)
theorem t_62 : Cond.methodLink "ContentLibrary" 37 (⟨"ContentLibrary$Picture", "<init>", "()V"⟩ : MethodName) ∈ x_big := x_bt 62 (by decide +kernel) (by decide +kernel)
theorem t_80 : Cond.classLink "ContentLibrary" 38 "ContentLibrary$Kept" ∈ x_big := x_bt 80 (by decide +kernel) (by decide +kernel)
theorem t_82 : Cond.instantiable "ContentLibrary$Kept" 6 ∈ x_big := x_bt 82 (by decide +kernel) (by decide +kernel)
theorem t_83 : Cond.methodLink "ContentLibrary" 44 (⟨"ContentLibrary$Kept", "<init>", "()V"⟩ : MethodName) ∈ x_big := x_bt 83 (by decide +kernel) (by decide +kernel)
theorem t_84 : Cond.instanceMethod (⟨"ContentLibrary$Kept", "<init>", "()V"⟩ : MethodName) ∈ x_big := x_bt 84 (by decide +kernel) (by decide +kernel)
theorem t_85 : Cond.code (⟨"ContentLibrary$Kept", "<init>", "()V"⟩ : MethodName) prog_4_method_1_code 1 none ∈ x_big := x_bt 85 (by decide +kernel) (by decide +kernel)
theorem d_X_init_45 : decode prog_1_method_1_code 45 = .ok (.iload_n 3, 1) := by decide +kernel
theorem d_X_init_46 : decode prog_1_method_1_code 46 = .ok (.bipush 8, 2) := by decide +kernel
theorem d_X_init_48 : decode prog_1_method_1_code 48 = .ok (.if_icmp .ge 22, 3) := by decide +kernel
theorem d_X_init_51 : decode prog_1_method_1_code 51 = .ok (.aload_n 0, 1) := by decide +kernel
theorem d_X_init_52 : decode prog_1_method_1_code 52 = .ok (.getfield 33, 3) := by decide +kernel
theorem d_X_init_55 : decode prog_1_method_1_code 55 = .ok (.iload_n 3, 1) := by decide +kernel
theorem d_X_init_56 : decode prog_1_method_1_code 56 = .ok (.new 31, 3) := by decide +kernel
theorem d_X_init_59 : decode prog_1_method_1_code 59 = .ok (.dup, 1) := by decide +kernel
theorem d_X_init_60 : decode prog_1_method_1_code 60 = .ok (.invokespecial 37, 3) := by decide +kernel
theorem d_X_init_63 : decode prog_1_method_1_code 63 = .ok (.aastore, 1) := by decide +kernel
theorem d_X_init_64 : decode prog_1_method_1_code 64 = .ok (.iinc 3 1, 3) := by decide +kernel
theorem d_X_init_67 : decode prog_1_method_1_code 67 = .ok (.goto (-22), 3) := by decide +kernel
theorem d_X_init_70 : decode prog_1_method_1_code 70 = .ok (.aload_n 0, 1) := by decide +kernel
theorem d_X_init_71 : decode prog_1_method_1_code 71 = .ok (.bipush 16, 2) := by decide +kernel
theorem d_X_init_73 : decode prog_1_method_1_code 73 = .ok (.anewarray 38, 3) := by decide +kernel
theorem d_X_init_76 : decode prog_1_method_1_code 76 = .ok (.putfield 40, 3) := by decide +kernel
theorem d_X_init_79 : decode prog_1_method_1_code 79 = .ok (.iconst 0, 1) := by decide +kernel
theorem d_X_init_80 : decode prog_1_method_1_code 80 = .ok (.istore_n 3, 1) := by decide +kernel
theorem d_X_init_81 : decode prog_1_method_1_code 81 = .ok (.iload_n 3, 1) := by decide +kernel
theorem d_X_init_82 : decode prog_1_method_1_code 82 = .ok (.bipush 16, 2) := by decide +kernel
theorem d_X_init_84 : decode prog_1_method_1_code 84 = .ok (.if_icmp .ge 22, 3) := by decide +kernel
theorem d_X_init_87 : decode prog_1_method_1_code 87 = .ok (.aload_n 0, 1) := by decide +kernel
theorem d_X_init_88 : decode prog_1_method_1_code 88 = .ok (.getfield 40, 3) := by decide +kernel
theorem d_X_init_91 : decode prog_1_method_1_code 91 = .ok (.iload_n 3, 1) := by decide +kernel
theorem d_X_init_92 : decode prog_1_method_1_code 92 = .ok (.new 38, 3) := by decide +kernel
theorem d_X_init_95 : decode prog_1_method_1_code 95 = .ok (.dup, 1) := by decide +kernel
theorem d_X_init_96 : decode prog_1_method_1_code 96 = .ok (.invokespecial 44, 3) := by decide +kernel
theorem d_X_init_99 : decode prog_1_method_1_code 99 = .ok (.aastore, 1) := by decide +kernel
theorem d_X_init_100 : decode prog_1_method_1_code 100 = .ok (.iinc 3 1, 3) := by decide +kernel
theorem d_X_init_103 : decode prog_1_method_1_code 103 = .ok (.goto (-22), 3) := by decide +kernel
/-- the cells that stand before the pictures -/
def y_B0 (G : x_G) (n : Nat) (ad : Nat → Nat) (c : Nat → va_E) : Prop := c 1 = .inr (1, [.int (nI n), .int (-1), .int 0, .ref (ad 2), .ref (ad 3)]) ∧ c 2 = .inl (x_ca G 0, n * 64, .inl (fun _ => (0 : Int32))) ∧ c 3 = .inl (x_ca G 0, 64, .inl (fun _ => (0 : Int32))) ∧ c 4 = .inl (x_ca G 1, n, .inl (fun _ => (0 : Int32)))
/-- i pictures are made -/
def y_Pi (G : x_G) (ad : Nat → Nat) (c : Nat → va_E) (f : Nat → Option Nat) (i : Nat) : Prop := c 5 = .inl (x_ca G 2, 8, .inr (.inr (.inr (.inr f)))) ∧ ∀ j, j < i → f j = some (ad (6 + 2 * j)) ∧ c (6 + 2 * j) = .inr (2, [.int 0, .ref (ad (6 + 2 * j + 1)), .int 0]) ∧ c (6 + 2 * j + 1) = .inl (x_ca G 0, 66, .inl (fun _ => (0 : Int32)))
/-- i places for what is kept are made -/
def y_Ki (G : x_G) (ad : Nat → Nat) (c : Nat → va_E) (f : Nat → Option Nat) (i : Nat) : Prop := c 22 = .inl (x_ca G 3, 16, .inr (.inr (.inr (.inr f)))) ∧ ∀ j, j < i → f j = some (ad (23 + 5 * j)) ∧ c (23 + 5 * j) = .inr (3, [.int 0, .ref (ad (23 + 5 * j + 1)), .ref (ad (23 + 5 * j + 1 + 1 + 1)), .long 0, .int 0, .ref (ad (23 + 5 * j + 1 + 1 + 1 + 1))]) ∧ c (23 + 5 * j + 1) = .inr (2, [.int 0, .ref (ad (23 + 5 * j + 1 + 1)), .int 0]) ∧ c (23 + 5 * j + 1 + 1) = .inl (x_ca G 0, 66, .inl (fun _ => (0 : Int32))) ∧ c (23 + 5 * j + 1 + 1 + 1) = .inl (x_ca G 0, 8, .inl (fun _ => (0 : Int32))) ∧ c (23 + 5 * j + 1 + 1 + 1 + 1) = .inl (x_ca G 0, 3, .inl (fun _ => (0 : Int32)))
theorem y_B0.up {G : x_G} {n : Nat} {ad ad1 : Nat → Nat} {c c1 : Nat → va_E} (h : y_B0 G n ad c) (ha : ∀ j, j < 5 → ad1 j = ad j) (hc : ∀ j, 0 < j → j < 5 → c1 j = c j) : y_B0 G n ad1 c1 := by
  obtain ⟨h1, h2, h3, h4⟩ := h
  refine ⟨?_, by rw [hc 2 (by omega) (by omega)]; exact h2, by rw [hc 3 (by omega) (by omega)]; exact h3, by rw [hc 4 (by omega) (by omega)]; exact h4⟩
  rw [hc 1 (by omega) (by omega), ha 2 (by omega), ha 3 (by omega)]; exact h1
theorem y_Pi.up {G : x_G} {ad ad1 : Nat → Nat} {c c1 : Nat → va_E} {f : Nat → Option Nat} {i : Nat} (h : y_Pi G ad c f i) (ha : ∀ j, j < 6 + 2 * i → ad1 j = ad j) (hc : ∀ j, 5 ≤ j → j < 6 + 2 * i → c1 j = c j) : y_Pi G ad1 c1 f i := by
  refine ⟨by rw [hc 5 (by omega) (by omega)]; exact h.1, fun j hj => ?_⟩
  obtain ⟨h1, h2, h3⟩ := h.2 j hj
  refine ⟨by rw [ha _ (by omega)]; exact h1, by rw [hc _ (by omega) (by omega), ha _ (by omega)]; exact h2, by rw [hc _ (by omega) (by omega)]; exact h3⟩
set_option maxHeartbeats 4000000 in
set_option maxRecDepth 100000 in
theorem w_X_init_45 (l : Launch) (G : x_G) (n a0 : Nat) {p : Program} {e : Env} {s : State} {m : MethodId} {args : Array Value} {below : List Frame} {meth : Method} {cd : Code} {Q : State → Prop} (C0 : x_Ctx G p s m args meth cd prog_1_method_1_code "ContentLibrary" 4 none)
    (K : ∀ (ad : Nat → Nat) (c : Nat → va_E) (f : Nat → Option Nat) (H : Heap) (locs : List Loc) (ls : Array Slot), ad 0 = a0 → c 0 = .inr (0, [.ref (ad 1), .ref (ad 4), .ref (ad 5), .null, .null, .null, .null, .null, .int 0]) → y_B0 G n ad c → y_Pi G ad c f 8 → va_P (x_D G) vwCl (y_W ad c 22) H → va_D (x_A G) (y_W ad c 22) → va_S (x_A G) s.heap H locs → lv_has ls 4 [(0, .ref a0), (2, .int (nI n)), (3, .int (nI 8))] → W p l e rm_X_init s m args below meth cd H locs 21 3229 Q (F0 m 70 ls [])) :
    ∀ (r i : Nat), i + r = 8 → ∀ (ad : Nat → Nat) (c : Nat → va_E) (f : Nat → Option Nat) (H : Heap) (locs : List Loc) (ls : Array Slot), ad 0 = a0 → c 0 = .inr (0, [.ref (ad 1), .ref (ad 4), .ref (ad 5), .null, .null, .null, .null, .null, .int 0]) → y_B0 G n ad c → y_Pi G ad c f i → va_P (x_D G) vwCl (y_W ad c (6 + 2 * i)) H → va_D (x_A G) (y_W ad c (6 + 2 * i)) → va_S (x_A G) s.heap H locs → lv_has ls 4 [(0, .ref a0), (2, .int (nI n)), (3, .int (nI i))] → W p l e rm_X_init s m args below meth cd H locs (5 + 2 * i) (2677 + 69 * i) Q (F0 m 45 ls []) := by
  obtain ⟨hx, hb, hr, hml, hown, hts, hlocks, hz, hK, hG⟩ := id C0
  have hA : ∀ q : Nat, s.heap.size ≤ q → x_A G q := fun q h => Nat.le_trans hz h
  intro r
  induction r with
  | zero =>
    intro i hi ad c f H locs ls h0 hc0 hB0 hPi hP hD hS hl
    have hi : i = 8 := by omega
    subst hi
    refine lv_iload_n hx hb d_X_init_45 rfl (lv_at hl 2 rfl) ?_
    refine lv_bipush (v := (8 : Int32)) hx hb d_X_init_46 (by decide) ?_
    refine lv_icmp_ge (tgt := 70) hx hb d_X_init_48 (by decide) (fun _ => ?_) (fun hc => absurd (by decide) hc)
    exact K ad c f H locs ls h0 hc0 hB0 hPi hP hD hS hl
  | succ r ih =>
    intro i hi ad c f H locs ls h0 hc0 hB0 hPi hP hD hS hl
    have hi8 : i < 8 := by omega
    refine lv_iload_n hx hb d_X_init_45 rfl (lv_at hl 2 rfl) ?_
    refine lv_bipush (v := (8 : Int32)) hx hb d_X_init_46 (by decide) ?_
    refine lv_icmp_ge (tgt := 70) hx hb d_X_init_48 (by decide) (fun hc => absurd hc (nI_ge (b := 8) hi8 (by omega))) (fun _ => ?_)
    refine lv_aload_n hx hb d_X_init_51 rfl (lv_at hl 0 rfl) ?_
    refine va_get (D := x_D G) (ci := 0) (v := .ref (ad 5)) (C := "ContentLibrary") (T := x_TX) (N := 9) hx hb hts x_inX hown hK hP 0 (y_at (by omega) h0 hc0) rfl 2 (by decide) (hts _ t_132) (fun _ h9 => h9) rfl d_X_init_52 ?_
    refine lv_iload_n hx hb d_X_init_55 rfl (lv_at hl 2 rfl) ?_
    refine va_new (ci := 2) (fs := [.int 0, .null, .int 0]) (C := "ContentLibrary$Picture") (T := x_TP) (N := 3) hx hb hts x_inP x_tyP x_tyP_ok hown (hts _ t_59) (hts _ t_61) (hts _ t_4) hK hP hD hS hA rfl (by decide) (show 5 + 2 * i + 1 ≤ 109 from by omega) (show 2677 + 69 * i + 3 ≤ 4864 from by omega) d_X_init_56 (fun q H hP hD hS => ?_)
    rw [y_push] at hP hD
    obtain ⟨ad1, ea1⟩ : ∃ a1, a1 = va_up ad (6 + 2 * i) q := ⟨_, rfl⟩
    obtain ⟨c1, ec1⟩ : ∃ c1, c1 = va_up c (6 + 2 * i) (.inr (2, [.int 0, .null, .int 0])) := ⟨_, rfl⟩
    rw [← ea1, ← ec1] at hP hD
    have hq : ad1 (6 + 2 * i) = q := by rw [ea1]; exact va_up_self _ _ _
    have hck : c1 (6 + 2 * i) = .inr (2, [.int 0, .null, .int 0]) := by rw [ec1]; exact va_up_self _ _ _
    have ha1 : ∀ j, j < 6 + 2 * i → ad1 j = ad j := fun j hj => by rw [ea1]; exact va_up_ne _ _ (by omega)
    have hc1 : ∀ j, j < 6 + 2 * i → c1 j = c j := fun j hj => by rw [ec1]; exact va_up_ne _ _ (by omega)
    refine lv_dup hx hb d_X_init_59 rfl ?_
    refine W.eq (g2 := F0 m 60 ls [.ref q, .ref q, .int (nI i), .ref (ad 5)]) rfl ?_
    rw [← hq]
    refine va_callv (va_runI (As := []) (rest := [.ref (ad1 (6 + 2 * i)), .int (nI i), .ref (ad 5)]) ⟨hx, hb, hml, hown, hts⟩ (c_P_init l G ad1 c1 (6 + 2 * i + 1) (6 + 2 * i) (by omega) hck) (cwI 0 hts (x_gws t_64) rfl rfl rfl (hts _ t_4) (hts _ t_62) (hts _ t_63) rfl (by decide +kernel) ⟨Nat.le_of_ble_eq_true rfl, Nat.le_of_ble_eq_true rfl⟩) ⟨y_blind _ _ _ _ _, fun U hU hW => ⟨rfl, y_pw hP hD hK hG hS hz hU hW⟩⟩ rfl rfl hl.1 rfl (lv_room (Nat.le_of_ble_eq_true rfl)) d_X_init_60 ⟨show 5 + 2 * i + 1 + 1 ≤ 109 from by omega, show 2677 + 69 * i + 3 + 66 ≤ 4864 from by omega⟩) hS (fun q _ h => h) (fun q h => h) (fun u U H locs ht hvm hw hB _ _ hS => ?_)
    obtain ⟨ad2, c2, hPW, ha2, hk2, hn2, hf2⟩ := hB
    obtain ⟨hP, hD⟩ := y_back hPW ht
    have hq2 : ad2 (6 + 2 * i) = q := (ha2 _ (by omega)).trans hq
    have ha : ∀ j, j < 6 + 2 * i → ad2 j = ad j := fun j hj => (ha2 j (by omega)).trans (ha1 j hj)
    have hc : ∀ j, j < 6 + 2 * i → c2 j = c j := fun j hj => (hf2 j (by omega) (by omega)).trans (hc1 j hj)
    rw [hq]
    have hc5 : c2 5 = .inl (x_ca G 2, 8, .inr (.inr (.inr (.inr f)))) := (hc 5 (by omega)).trans hPi.1
    refine va_astq hx hb hK hP hD hS 5 2 (6 + 2 * i) 2 (y_at (by omega) (ha 5 (by omega)) hc5) rfl (y_at (by omega) hq2 hk2) rfl (vp_in_nI hi8 (by omega)) d_X_init_63 (fun H locs hP hD hS => ?_)
    rw [y_set (by omega) (ha 5 (by omega)), nI_clamp (show i < 2 ^ 31 by omega)] at hP hD
    refine lv_iinc (v := nI (i + 1)) (lv' := [(3, .int (nI (i + 1))), (0, .ref a0), (2, .int (nI n))]) hx hb d_X_init_64 hl (k := 2) rfl (nI_1 i) (by decide) rfl (fun ls hl => ?_)
    refine lv_goto (tgt := 45) hx hb d_X_init_67 (by decide) ?_
    refine W.widen (k := 5 + 2 * (i + 1)) (n := 2677 + 69 * (i + 1)) (by omega) (by omega) ?_
    have hB1 : y_B0 G n ad2 (va_up c2 5 (.inl (x_ca G 2, 8, .inr (.inr (.inr (.inr (va_up f i (some q)))))))) := hB0.up (fun j hj => ha j (by omega)) (fun j _ hj => (va_up_ne _ _ (by omega)).trans (hc j (by omega)))
    refine ih (i + 1) (by omega) ad2 (va_up c2 5 (.inl (x_ca G 2, 8, .inr (.inr (.inr (.inr (va_up f i (some q)))))))) (va_up f i (some q)) H locs ls ((ha 0 (by omega)).trans h0) ?_ hB1 ?_ ?_ ?_ hS (lv_sub hl [1, 2, 0] rfl)
    · rw [va_up_ne _ _ (by omega), hc 0 (by omega), ha 1 (by omega), ha 4 (by omega), ha 5 (by omega)]; exact hc0
    · refine ⟨va_up_self _ _ _, fun j hj => ?_⟩
      by_cases hji : j = i
      · subst hji
        exact ⟨by rw [va_up_self, hq2], (va_up_ne _ _ (by omega)).trans hk2, (va_up_ne _ _ (by omega)).trans hn2⟩
      · obtain ⟨h1, h2, h3⟩ := hPi.2 j (by omega)
        refine ⟨by rw [va_up_ne _ _ hji, ha _ (by omega)]; exact h1, by rw [va_up_ne _ _ (by omega), hc _ (by omega), ha _ (by omega)]; exact h2, by rw [va_up_ne _ _ (by omega), hc _ (by omega)]; exact h3⟩
    · rw [show 6 + 2 * (i + 1) = 6 + 2 * i + 1 + 1 from by omega]; exact hP
    · rw [show 6 + 2 * (i + 1) = 6 + 2 * i + 1 + 1 from by omega]; exact hD
theorem y_Ki.up {G : x_G} {ad ad1 : Nat → Nat} {c c1 : Nat → va_E} {f : Nat → Option Nat} {i : Nat} (h : y_Ki G ad c f i) (ha : ∀ j, j < 23 + 5 * i → ad1 j = ad j) (hc : ∀ j, 22 ≤ j → j < 23 + 5 * i → c1 j = c j) : y_Ki G ad1 c1 f i := by
  refine ⟨by rw [hc 22 (by omega) (by omega)]; exact h.1, fun j hj => ?_⟩
  obtain ⟨h1, h2, h3, h4, h5, h6⟩ := h.2 j hj
  refine ⟨by rw [ha _ (by omega)]; exact h1, by rw [hc _ (by omega) (by omega), ha _ (by omega), ha _ (by omega), ha _ (by omega)]; exact h2, by rw [hc _ (by omega) (by omega), ha _ (by omega)]; exact h3, by rw [hc _ (by omega) (by omega)]; exact h4, by rw [hc _ (by omega) (by omega)]; exact h5, by rw [hc _ (by omega) (by omega)]; exact h6⟩
set_option maxHeartbeats 4000000 in
set_option maxRecDepth 100000 in
theorem w_X_init_81 (l : Launch) (G : x_G) (n a0 : Nat) {p : Program} {e : Env} {s : State} {m : MethodId} {args : Array Value} {below : List Frame} {meth : Method} {cd : Code} {Q : State → Prop} (C0 : x_Ctx G p s m args meth cd prog_1_method_1_code "ContentLibrary" 4 none) (K : ∀ (ad : Nat → Nat) (c : Nat → va_E) (f g : Nat → Option Nat) (H : Heap) (locs : List Loc) (ls : Array Slot), ad 0 = a0 → c 0 = .inr (0, [.ref (ad 1), .ref (ad 4), .ref (ad 5), .ref (ad 22), .null, .null, .null, .null, .int 0]) → y_B0 G n ad c → y_Pi G ad c f 8 → y_Ki G ad c g 16 → va_P (x_D G) vwCl (y_W ad c 103) H → va_D (x_A G) (y_W ad c 103) → va_S (x_A G) s.heap H locs → lv_has ls 4 [(0, .ref a0), (2, .int (nI n)), (3, .int (nI 16))] → W p l e rm_X_init s m args below meth cd H locs 102 4621 Q (F0 m 106 ls [])) : ∀ (r i : Nat), i + r = 16 → ∀ (ad : Nat → Nat) (c : Nat → va_E) (f g : Nat → Option Nat) (H : Heap) (locs : List Loc) (ls : Array Slot), ad 0 = a0 → c 0 = .inr (0, [.ref (ad 1), .ref (ad 4), .ref (ad 5), .ref (ad 22), .null, .null, .null, .null, .int 0]) → y_B0 G n ad c → y_Pi G ad c f 8 → y_Ki G ad c g i → va_P (x_D G) vwCl (y_W ad c (23 + 5 * i)) H → va_D (x_A G) (y_W ad c (23 + 5 * i)) → va_S (x_A G) s.heap H locs → lv_has ls 4 [(0, .ref a0), (2, .int (nI n)), (3, .int (nI i))] → W p l e rm_X_init s m args below meth cd H locs (22 + 5 * i) (3245 + 86 * i) Q (F0 m 81 ls []) := by
  obtain ⟨hx, hb, hr, hml, hown, hts, hlocks, hz, hK, hG⟩ := id C0
  have hA : ∀ q : Nat, s.heap.size ≤ q → x_A G q := fun q h => Nat.le_trans hz h
  intro r
  induction r with
  | zero =>
    intro i hi ad c f g H locs ls h0 hc0 hB0 hPi hKi hP hD hS hl
    have hi : i = 16 := by omega
    subst hi
    refine lv_iload_n hx hb d_X_init_81 rfl (lv_at hl 2 rfl) ?_
    refine lv_bipush (v := (16 : Int32)) hx hb d_X_init_82 (by decide) ?_
    refine lv_icmp_ge (tgt := 106) hx hb d_X_init_84 (by decide) (fun _ => ?_) (fun hc => absurd (by decide) hc)
    exact K ad c f g H locs ls h0 hc0 hB0 hPi hKi hP hD hS hl
  | succ r ih =>
    intro i hi ad c f g H locs ls h0 hc0 hB0 hPi hKi hP hD hS hl
    have hi8 : i < 16 := by omega
    refine lv_iload_n hx hb d_X_init_81 rfl (lv_at hl 2 rfl) ?_
    refine lv_bipush (v := (16 : Int32)) hx hb d_X_init_82 (by decide) ?_
    refine lv_icmp_ge (tgt := 106) hx hb d_X_init_84 (by decide) (fun hc => absurd hc (nI_ge (b := 16) hi8 (by omega))) (fun _ => ?_)
    refine lv_aload_n hx hb d_X_init_87 rfl (lv_at hl 0 rfl) ?_
    refine va_get (D := x_D G) (ci := 0) (v := .ref (ad 22)) (C := "ContentLibrary") (T := x_TX) (N := 9) hx hb hts x_inX hown hK hP 0 (y_at (by omega) h0 hc0) rfl 3 (by decide) (hts _ t_133) (fun _ h9 => h9) rfl d_X_init_88 ?_
    refine lv_iload_n hx hb d_X_init_91 rfl (lv_at hl 2 rfl) ?_
    refine va_new (ci := 3) (fs := [.int 0, .null, .null, .long 0, .int 0, .null]) (C := "ContentLibrary$Kept") (T := x_TK) (N := 6) hx hb hts x_inK x_tyK x_tyK_ok hown (hts _ t_80) (hts _ t_82) (hts _ t_5) hK hP hD hS hA rfl (by decide) (show 22 + 5 * i + 1 ≤ 109 from by omega) (show 3245 + 86 * i + 6 ≤ 4864 from by omega) d_X_init_92 (fun q H hP hD hS => ?_)
    rw [y_push] at hP hD
    obtain ⟨ad1, ea1⟩ : ∃ a1, a1 = va_up ad (23 + 5 * i) q := ⟨_, rfl⟩
    obtain ⟨c1, ec1⟩ : ∃ c1, c1 = va_up c (23 + 5 * i) (.inr (3, [.int 0, .null, .null, .long 0, .int 0, .null])) := ⟨_, rfl⟩
    rw [← ea1, ← ec1] at hP hD
    have hq : ad1 (23 + 5 * i) = q := by rw [ea1]; exact va_up_self _ _ _
    have hck : c1 (23 + 5 * i) = .inr (3, [.int 0, .null, .null, .long 0, .int 0, .null]) := by rw [ec1]; exact va_up_self _ _ _
    have ha1 : ∀ j, j < 23 + 5 * i → ad1 j = ad j := fun j hj => by rw [ea1]; exact va_up_ne _ _ (by omega)
    have hc1 : ∀ j, j < 23 + 5 * i → c1 j = c j := fun j hj => by rw [ec1]; exact va_up_ne _ _ (by omega)
    refine lv_dup hx hb d_X_init_95 rfl ?_
    refine W.eq (g2 := F0 m 96 ls [.ref q, .ref q, .int (nI i), .ref (ad 22)]) rfl ?_
    rw [← hq]
    refine va_callv (va_runI (As := []) (rest := [.ref (ad1 (23 + 5 * i)), .int (nI i), .ref (ad 22)]) ⟨hx, hb, hml, hown, hts⟩ (c_K_init l G ad1 c1 (23 + 5 * i + 1) (23 + 5 * i) (by omega) hck) (cwI 0 hts (x_gws t_85) rfl rfl rfl (hts _ t_5) (hts _ t_83) (hts _ t_84) rfl (by decide +kernel) ⟨Nat.le_of_ble_eq_true rfl, Nat.le_of_ble_eq_true rfl⟩) ⟨y_blind _ _ _ _ _, fun U hU hW => ⟨rfl, y_pw hP hD hK hG hS hz hU hW⟩⟩ rfl rfl hl.1 rfl (lv_room (Nat.le_of_ble_eq_true rfl)) d_X_init_96 ⟨show 22 + 5 * i + 1 + 4 ≤ 109 from by omega, show 3245 + 86 * i + 6 + 80 ≤ 4864 from by omega⟩) hS (fun q _ h => h) (fun q h => h) (fun u U H locs ht hvm hw hB _ _ hS => ?_)
    obtain ⟨ad2, c2, hPW, ha2, hk2, hn0, hn1, hn2, hn3, hf2⟩ := hB
    obtain ⟨hP, hD⟩ := y_back hPW ht
    have hq2 : ad2 (23 + 5 * i) = q := (ha2 _ (by omega)).trans hq
    have ha : ∀ j, j < 23 + 5 * i → ad2 j = ad j := fun j hj => (ha2 j (by omega)).trans (ha1 j hj)
    have hc : ∀ j, j < 23 + 5 * i → c2 j = c j := fun j hj => (hf2 j (by omega) (by omega)).trans (hc1 j hj)
    rw [hq]
    have hc5 : c2 22 = .inl (x_ca G 3, 16, .inr (.inr (.inr (.inr g)))) := (hc 22 (by omega)).trans hKi.1
    refine va_astq hx hb hK hP hD hS 22 3 (23 + 5 * i) 3 (y_at (by omega) (ha 22 (by omega)) hc5) rfl (y_at (by omega) hq2 hk2) rfl (vp_in_nI hi8 (by omega)) d_X_init_99 (fun H locs hP hD hS => ?_)
    rw [y_set (by omega) (ha 22 (by omega)), nI_clamp (show i < 2 ^ 31 by omega)] at hP hD
    refine lv_iinc (v := nI (i + 1)) (lv' := [(3, .int (nI (i + 1))), (0, .ref a0), (2, .int (nI n))]) hx hb d_X_init_100 hl (k := 2) rfl (nI_1 i) (by decide) rfl (fun ls hl => ?_)
    refine lv_goto (tgt := 81) hx hb d_X_init_103 (by decide) ?_
    refine W.widen (k := 22 + 5 * (i + 1)) (n := 3245 + 86 * (i + 1)) (by omega) (by omega) ?_
    obtain ⟨c3, ec3⟩ : ∃ c3, c3 = va_up c2 22 (.inl (x_ca G 3, 16, .inr (.inr (.inr (.inr (va_up g i (some q))))))) := ⟨_, rfl⟩
    rw [← ec3] at hP hD
    have hc3 : ∀ j, j ≠ 22 → c3 j = c2 j := fun j hj => by rw [ec3]; exact va_up_ne _ _ hj
    refine ih (i + 1) (by omega) ad2 c3 f (va_up g i (some q)) H locs ls ((ha 0 (by omega)).trans h0) ?_ (hB0.up (fun j hj => ha j (by omega)) (fun j _ hj => (hc3 j (by omega)).trans (hc j (by omega)))) (hPi.up (fun j hj => ha j (by omega)) (fun j _ hj => (hc3 j (by omega)).trans (hc j (by omega)))) ?_ ?_ ?_ hS (lv_sub hl [1, 2, 0] rfl)
    · rw [hc3 0 (by omega), hc 0 (by omega), ha 1 (by omega), ha 4 (by omega), ha 5 (by omega), ha 22 (by omega)]; exact hc0
    · refine ⟨by rw [ec3]; exact va_up_self _ _ _, fun j hj => ?_⟩
      by_cases hji : j = i
      · subst hji
        exact ⟨by rw [va_up_self, hq2], (hc3 _ (by omega)).trans hk2, (hc3 _ (by omega)).trans hn0, (hc3 _ (by omega)).trans hn1, (hc3 _ (by omega)).trans hn2, (hc3 _ (by omega)).trans hn3⟩
      · obtain ⟨h1, h2, h3, h4, h5, h6⟩ := hKi.2 j (by omega)
        refine ⟨by rw [va_up_ne _ _ hji, ha _ (by omega)]; exact h1, by rw [hc3 _ (by omega), hc _ (by omega), ha _ (by omega), ha _ (by omega), ha _ (by omega)]; exact h2, by rw [hc3 _ (by omega), hc _ (by omega), ha _ (by omega)]; exact h3, by rw [hc3 _ (by omega), hc _ (by omega)]; exact h4, by rw [hc3 _ (by omega), hc _ (by omega)]; exact h5, by rw [hc3 _ (by omega), hc _ (by omega)]; exact h6⟩
    · rw [show 23 + 5 * (i + 1) = 23 + 5 * i + 1 + 1 + 1 + 1 + 1 from by omega]; exact hP
    · rw [show 23 + 5 * (i + 1) = 23 + 5 * i + 1 + 1 + 1 + 1 + 1 from by omega]; exact hD
set_option maxHeartbeats 4000000 in
set_option maxRecDepth 100000 in
/-- between the loops -/
theorem w_X_init_70 (l : Launch) (G : x_G) (n a0 : Nat) {p : Program} {e : Env} {s : State} {m : MethodId} {args : Array Value} {below : List Frame} {meth : Method} {cd : Code} {Q : State → Prop} (C0 : x_Ctx G p s m args meth cd prog_1_method_1_code "ContentLibrary" 4 none) (hin : meth.name = "<init>") (K : ∀ (ad : Nat → Nat) (c : Nat → va_E) (f g : Nat → Option Nat) (H : Heap) (locs : List Loc) (ls : Array Slot), ad 0 = a0 → c 0 = .inr (0, [.ref (ad 1), .ref (ad 4), .ref (ad 5), .ref (ad 22), .null, .null, .null, .null, .int 0]) → y_B0 G n ad c → y_Pi G ad c f 8 → y_Ki G ad c g 16 → va_P (x_D G) vwCl (y_W ad c 103) H → va_D (x_A G) (y_W ad c 103) → va_S (x_A G) s.heap H locs → lv_has ls 4 [(0, .ref a0), (2, .int (nI n)), (3, .int (nI 16))] → W p l e rm_X_init s m args below meth cd H locs 102 4621 Q (F0 m 106 ls [])) (ad : Nat → Nat) (c : Nat → va_E) (f : Nat → Option Nat) (H : Heap) (locs : List Loc) (ls : Array Slot) (h0 : ad 0 = a0) (hc0 : c 0 = .inr (0, [.ref (ad 1), .ref (ad 4), .ref (ad 5), .null, .null, .null, .null, .null, .int 0])) (hB0 : y_B0 G n ad c) (hPi : y_Pi G ad c f 8) (hP : va_P (x_D G) vwCl (y_W ad c 22) H) (hD : va_D (x_A G) (y_W ad c 22)) (hS : va_S (x_A G) s.heap H locs) (hl : lv_has ls 4 [(0, .ref a0), (2, .int (nI n)), (3, .int (nI 8))]) : W p l e rm_X_init s m args below meth cd H locs 21 3229 Q (F0 m 70 ls []) := by
  obtain ⟨hx, hb, hr, hml, hown, hts, hlocks, hz, hK, hG⟩ := id C0
  have hA : ∀ q : Nat, s.heap.size ≤ q → x_A G q := fun q h => Nat.le_trans hz h
  refine lv_aload_n hx hb d_X_init_70 rfl (lv_at hl 0 rfl) ?_
  refine lv_bipush (v := (16 : Int32)) hx hb d_X_init_71 (by decide) ?_
  refine va_newq (C := "ContentLibrary$Kept") hx hb hown (hts _ t_80) hG.1.2.2 hK hP hD hS hA (N' := 16) (by decide) (by decide) (by decide) (Nat.le_of_ble_eq_true rfl) (Nat.le_of_ble_eq_true rfl) d_X_init_73 (fun q cA H hK2 hP hD hS => ?_)
  obtain rfl := y_caO 3 rfl hK2
  rw [y_push] at hP hD
  obtain ⟨ad1, ea1⟩ : ∃ a1, a1 = va_up ad 22 q := ⟨_, rfl⟩
  obtain ⟨c1, ec1⟩ : ∃ c1, c1 = va_up c 22 (.inl (x_ca G 3, 16, .inr (.inr (.inr (.inr (fun _ => none)))))) := ⟨_, rfl⟩
  rw [← ea1, ← ec1] at hP hD
  have hq : ad1 22 = q := by rw [ea1]; exact va_up_self _ _ _
  have ha : ∀ j, j < 22 → ad1 j = ad j := fun j hj => by rw [ea1]; exact va_up_ne _ _ (by omega)
  have hc : ∀ j, j < 22 → c1 j = c j := fun j hj => by rw [ec1]; exact va_up_ne _ _ (by omega)
  have hc01 : c1 0 = .inr (0, [.ref (ad1 1), .ref (ad1 4), .ref (ad1 5), .null, .null, .null, .null, .null, .int 0]) := by rw [hc 0 (by omega), ha 1 (by omega), ha 4 (by omega), ha 5 (by omega)]; exact hc0
  refine va_putF (D := x_D G) (ci := 0) (v := .ref q) (ty := .array (.object "ContentLibrary$Kept")) (C := "ContentLibrary") (T := x_TX) (N := 9) hx hb hts x_inX x_tyX x_tyX_ok x_nmX hown hK hP hD hS 0 (y_at (by omega) ((ha 0 (by omega)).trans h0) hc01) rfl 3 (by decide) (hts _ t_133) (fun _ h9 => h9) rfl hin rfl (by decide +kernel) rfl rfl (Nat.le_of_ble_eq_true rfl) d_X_init_76 (fun H locs hP hD hS => ?_)
  rw [y_set (by omega) ((ha 0 (by omega)).trans h0)] at hP hD
  obtain ⟨c2, ec2⟩ : ∃ c2, c2 = va_up c1 0 (.inr (0, ([.ref (ad1 1), .ref (ad1 4), .ref (ad1 5), .null, .null, .null, .null, .null, .int 0] : List Value).set 3 (.ref q))) := ⟨_, rfl⟩
  rw [← ec2] at hP hD
  have hc2 : ∀ j, 0 < j → c2 j = c1 j := fun j hj => by rw [ec2]; exact va_up_ne _ _ (by omega)
  refine lv_iconst (v := (0 : Int32)) hx hb d_X_init_79 (by decide) ?_
  refine lv_istore_n (lv' := [(3, .int (0 : Int32)), (0, .ref a0), (2, .int (nI n))]) hx hb d_X_init_80 rfl hl (by decide) rfl (fun ls hl => ?_)
  refine w_X_init_81 l G n a0 C0 K 16 0 (by omega) ad1 c2 f (fun _ => none) H locs ls ((ha 0 (by omega)).trans h0) ?_ (hB0.up (fun j hj => ha j (by omega)) (fun j h1 h2 => (hc2 j h1).trans (hc j (by omega)))) (hPi.up (fun j hj => ha j (by omega)) (fun j h1 h2 => (hc2 j (by omega)).trans (hc j (by omega)))) ⟨?_, fun j hj => absurd hj (by omega)⟩ hP hD hS (lv_sub hl [1, 2, 0] rfl)
  · rw [ec2, hq]; exact va_up_self _ _ _
  · rw [hc2 22 (by omega), ec1]; exact va_up_self _ _ _

theorem t_661 : Cond.methodLink "ContentLibraryModel" 94 (⟨"ContentLibraryModel", "isPrime", "(I)Z"⟩ : MethodName) ∈ x_big := x_bt 661 (by decide +kernel) (by decide +kernel)
theorem t_662 : Cond.static (⟨"ContentLibraryModel", "isPrime", "(I)Z"⟩ : MethodName) ∈ x_big := x_bt 662 (by decide +kernel) (by decide +kernel)
theorem t_663 : Cond.code (⟨"ContentLibraryModel", "isPrime", "(I)Z"⟩ : MethodName) prog_7_method_3_code 3 (some .boolean) ∈ x_big := x_bt 663 (by decide +kernel) (by decide +kernel)
theorem t_664 : Cond.methodLink "ContentLibraryModel" 98 (⟨"ContentLibraryModel", "rootOf", "(II)I"⟩ : MethodName) ∈ x_big := x_bt 664 (by decide +kernel) (by decide +kernel)
theorem t_665 : Cond.static (⟨"ContentLibraryModel", "rootOf", "(II)I"⟩ : MethodName) ∈ x_big := x_bt 665 (by decide +kernel) (by decide +kernel)
theorem t_666 : Cond.code (⟨"ContentLibraryModel", "rootOf", "(II)I"⟩ : MethodName) prog_7_method_5_code 5 (some .int) ∈ x_big := x_bt 666 (by decide +kernel) (by decide +kernel)
theorem d_M_init_239 : decode prog_7_method_1_code 239 = .ok (.iload_n 2, 1) := by decide +kernel
theorem d_M_init_240 : decode prog_7_method_1_code 240 = .ok (.bipush 40, 2) := by decide +kernel
theorem d_M_init_242 : decode prog_7_method_1_code 242 = .ok (.if_icmp .ge 16, 3) := by decide +kernel
theorem d_M_init_245 : decode prog_7_method_1_code 245 = .ok (.aload_n 0, 1) := by decide +kernel
theorem d_M_init_246 : decode prog_7_method_1_code 246 = .ok (.getfield 58, 3) := by decide +kernel
theorem d_M_init_249 : decode prog_7_method_1_code 249 = .ok (.iload_n 2, 1) := by decide +kernel
theorem d_M_init_250 : decode prog_7_method_1_code 250 = .ok (.iconst (-1), 1) := by decide +kernel
theorem d_M_init_251 : decode prog_7_method_1_code 251 = .ok (.iastore, 1) := by decide +kernel
theorem d_M_init_252 : decode prog_7_method_1_code 252 = .ok (.iinc 2 1, 3) := by decide +kernel
theorem d_M_init_255 : decode prog_7_method_1_code 255 = .ok (.goto (-16), 3) := by decide +kernel
theorem d_M_init_271 : decode prog_7_method_1_code 271 = .ok (.iload_n 2, 1) := by decide +kernel
theorem d_M_init_272 : decode prog_7_method_1_code 272 = .ok (.invokestatic 94, 3) := by decide +kernel
theorem d_M_init_275 : decode prog_7_method_1_code 275 = .ok (.ifCond .ne 9, 3) := by decide +kernel
theorem d_M_init_278 : decode prog_7_method_1_code 278 = .ok (.iinc 2 1, 3) := by decide +kernel
theorem d_M_init_281 : decode prog_7_method_1_code 281 = .ok (.goto (-10), 3) := by decide +kernel
theorem d_M_init_262 : decode prog_7_method_1_code 262 = .ok (.iload_n 3, 1) := by decide +kernel
theorem d_M_init_263 : decode prog_7_method_1_code 263 = .ok (.bipush 64, 2) := by decide +kernel
theorem d_M_init_265 : decode prog_7_method_1_code 265 = .ok (.if_icmp .ge 53, 3) := by decide +kernel
theorem d_M_init_268 : decode prog_7_method_1_code 268 = .ok (.iinc 2 1, 3) := by decide +kernel
theorem d_M_init_284 : decode prog_7_method_1_code 284 = .ok (.aload_n 0, 1) := by decide +kernel
theorem d_M_init_285 : decode prog_7_method_1_code 285 = .ok (.getfield 67, 3) := by decide +kernel
theorem d_M_init_288 : decode prog_7_method_1_code 288 = .ok (.iload_n 3, 1) := by decide +kernel
theorem d_M_init_289 : decode prog_7_method_1_code 289 = .ok (.iload_n 2, 1) := by decide +kernel
theorem d_M_init_290 : decode prog_7_method_1_code 290 = .ok (.iconst 3, 1) := by decide +kernel
theorem d_M_init_291 : decode prog_7_method_1_code 291 = .ok (.invokestatic 98, 3) := by decide +kernel
theorem d_M_init_294 : decode prog_7_method_1_code 294 = .ok (.iastore, 1) := by decide +kernel
theorem d_M_init_295 : decode prog_7_method_1_code 295 = .ok (.iload_n 3, 1) := by decide +kernel
theorem d_M_init_296 : decode prog_7_method_1_code 296 = .ok (.bipush 8, 2) := by decide +kernel
theorem d_M_init_298 : decode prog_7_method_1_code 298 = .ok (.if_icmp .ge 14, 3) := by decide +kernel
theorem d_M_init_312 : decode prog_7_method_1_code 312 = .ok (.iinc 3 1, 3) := by decide +kernel
theorem d_M_init_315 : decode prog_7_method_1_code 315 = .ok (.goto (-53), 3) := by decide +kernel
theorem d_M_init_301 : decode prog_7_method_1_code 301 = .ok (.aload_n 0, 1) := by decide +kernel
theorem d_M_init_302 : decode prog_7_method_1_code 302 = .ok (.getfield 70, 3) := by decide +kernel
theorem d_M_init_305 : decode prog_7_method_1_code 305 = .ok (.iload_n 3, 1) := by decide +kernel
theorem d_M_init_306 : decode prog_7_method_1_code 306 = .ok (.iload_n 2, 1) := by decide +kernel
theorem d_M_init_307 : decode prog_7_method_1_code 307 = .ok (.iconst 2, 1) := by decide +kernel
theorem d_M_init_308 : decode prog_7_method_1_code 308 = .ok (.invokestatic 98, 3) := by decide +kernel
theorem d_M_init_311 : decode prog_7_method_1_code 311 = .ok (.iastore, 1) := by decide +kernel
theorem d_M_init_212 : decode prog_7_method_1_code 212 = .ok (.aload_n 0, 1) := by decide +kernel
theorem d_M_init_213 : decode prog_7_method_1_code 213 = .ok (.iload_n 1, 1) := by decide +kernel
theorem d_M_init_214 : decode prog_7_method_1_code 214 = .ok (.iconst 1, 1) := by decide +kernel
theorem d_M_init_215 : decode prog_7_method_1_code 215 = .ok (.if_icmp .ge 7, 3) := by decide +kernel
theorem d_M_init_218 : decode prog_7_method_1_code 218 = .ok (.iconst 1, 1) := by decide +kernel
theorem d_M_init_219 : decode prog_7_method_1_code 219 = .ok (.goto 15, 3) := by decide +kernel
theorem d_M_init_222 : decode prog_7_method_1_code 222 = .ok (.iload_n 1, 1) := by decide +kernel
theorem d_M_init_223 : decode prog_7_method_1_code 223 = .ok (.bipush 40, 2) := by decide +kernel
theorem d_M_init_225 : decode prog_7_method_1_code 225 = .ok (.if_icmp .le 8, 3) := by decide +kernel
theorem d_M_init_228 : decode prog_7_method_1_code 228 = .ok (.bipush 40, 2) := by decide +kernel
theorem d_M_init_230 : decode prog_7_method_1_code 230 = .ok (.goto 4, 3) := by decide +kernel
theorem d_M_init_233 : decode prog_7_method_1_code 233 = .ok (.iload_n 1, 1) := by decide +kernel
theorem d_M_init_234 : decode prog_7_method_1_code 234 = .ok (.putfield 91, 3) := by decide +kernel
theorem d_M_init_237 : decode prog_7_method_1_code 237 = .ok (.iconst 0, 1) := by decide +kernel
theorem d_M_init_238 : decode prog_7_method_1_code 238 = .ok (.istore_n 2, 1) := by decide +kernel
theorem d_M_init_258 : decode prog_7_method_1_code 258 = .ok (.iconst 1, 1) := by decide +kernel
theorem d_M_init_259 : decode prog_7_method_1_code 259 = .ok (.istore_n 2, 1) := by decide +kernel
theorem d_M_init_260 : decode prog_7_method_1_code 260 = .ok (.iconst 0, 1) := by decide +kernel
theorem d_M_init_261 : decode prog_7_method_1_code 261 = .ok (.istore_n 3, 1) := by decide +kernel
theorem d_M_init_318 : decode prog_7_method_1_code 318 = .ok (.return_, 1) := by decide +kernel
set_option maxHeartbeats 4000000 in
set_option maxRecDepth 100000 in
theorem w_M_init_own (l : Launch) (G : x_G) (p1 : Int32) {p : Program} {e : Env} {s : State} {m : MethodId} {args : Array Value} {below : List Frame} {meth : Method} {cd : Code} {Q : State → Prop} (C0 : m_Ctx G p s m args meth cd prog_7_method_1_code "ContentLibraryModel" 4 none) (z : x_St) (K : ∀ (H : Heap) (locs : List Loc) (ls : Array Slot), va_P (x_D G) vwCl (m_Wd G (m_own z 40)) H → va_D (x_A G) (m_Wd G (m_own z 40)) → va_S (x_A G) s.heap H locs → lv_has ls 4 [(0, .ref (x_ad G 0)), (1, .int p1)] → W p l e rm_M_init s m args below meth cd H locs 25 4619 Q (F0 m 258 ls [])) : ∀ (d j : Nat) (H : Heap) (locs : List Loc) (ls : Array Slot), j + d = 40 → va_P (x_D G) vwCl (m_Wd G (m_own z j)) H → va_D (x_A G) (m_Wd G (m_own z j)) → va_S (x_A G) s.heap H locs → lv_has ls 4 [(2, .int (nI j)), (0, .ref (x_ad G 0)), (1, .int p1)] → W p l e rm_M_init s m args below meth cd H locs 25 4619 Q (F0 m 239 ls []) := by
  obtain ⟨hx, hb, hr, hml, hown, hts, hlocks, hz, hK, hG⟩ := id C0
  intro d
  induction d with
  | zero =>
    intro j H locs ls hj hP hD hS hl
    have e : j = 40 := by omega
    subst e
    refine lv_iload_n hx hb d_M_init_239 rfl (lv_at hl 0 rfl) ?_
    refine lv_bipush (v := (40 : Int32)) hx hb d_M_init_240 (by decide) ?_
    refine lv_icmp_ge (tgt := 258) hx hb d_M_init_242 (by decide) (fun _ => ?_) (fun hc => absurd (show (40 : Int32) ≤ nI 40 from nI_le (Nat.le_refl 40) (by decide)) hc)
    exact K _ _ _ hP hD hS (lv_sub hl [1, 2] rfl)
  | succ d ih =>
    intro j H locs ls hj hP hD hS hl
    refine lv_iload_n hx hb d_M_init_239 rfl (lv_at hl 0 rfl) ?_
    refine lv_bipush (v := (40 : Int32)) hx hb d_M_init_240 (by decide) ?_
    refine lv_icmp_ge (tgt := 258) hx hb d_M_init_242 (by decide) (fun hc => absurd hc (show ¬ (40 : Int32) ≤ nI j from nI_ge (show j < 40 by omega) (by decide))) (fun _ => ?_)
    refine lv_aload_n hx hb d_M_init_245 rfl (lv_at hl 1 rfl) ?_
    refine va_get (D := x_D G) (ci := 5) (v := .ref (x_ad G 15)) (C := "ContentLibraryModel") (T := x_TM) (N := 31) hx hb hts x_inM hown hK hP 0 (m_lk_M G _) rfl 18 (by decide) (hts _ t_690) (fun _ h9 => h9) rfl d_M_init_246 ?_
    refine lv_iload_n hx hb d_M_init_249 rfl (lv_at hl 0 rfl) ?_
    refine lv_iconst (v := (-1 : Int32)) hx hb d_M_init_250 (by decide) ?_
    have hin1 : vp_in (nI j) (m_ln (x_n G) 15) := vp_in_nI (N := 40) (show j < 40 by omega) (by decide)
    refine va_iast hx hb hK hP hD hS 15 0 (m_lk_A G _ (k := 15) (by decide)) rfl hin1 d_M_init_251 (fun H locs hP hD hS => ?_)
    rw [m_st_A G _ (k := 15) (by decide)] at hP hD
    refine lv_iinc (v := ((nI j) + (1 : Int32))) (lv' := [(2, .int ((nI j) + (1 : Int32))), (0, .ref (x_ad G 0)), (1, .int p1)]) hx hb d_M_init_252 hl (k := 0) rfl rfl (by decide) rfl (fun ls hl => ?_)
    refine lv_goto (tgt := 239) hx hb d_M_init_255 (by decide) ?_
    rw [nI_clamp (show j < 2 ^ 31 by omega)] at hP hD
    rw [nI_1] at hl
    exact ih (j + 1) _ _ _ (by omega) hP hD hS hl
set_option maxHeartbeats 4000000 in
set_option maxRecDepth 100000 in
theorem w_M_init_in (l : Launch) (G : x_G) {p : Program} {e : Env} {s : State} {m : MethodId} {args : Array Value} {below : List Frame} {meth : Method} {cd : Code} {Q : State → Prop} (C0 : m_Ctx G p s m args meth cd prog_7_method_1_code "ContentLibraryModel" 4 none) (z : x_St) (kk p' : Int32) (K : ∀ (H : Heap) (locs : List Loc) (ls : Array Slot), va_P (x_D G) vwCl (m_Wd G z) H → va_D (x_A G) (m_Wd G z) → va_S (x_A G) s.heap H locs → lv_has ls 4 [(0, .ref (x_ad G 0)), (2, .int p'), (3, .int kk)] → W p l e rm_M_init s m args below meth cd H locs 25 4619 Q (F0 m 284 ls [])) : ∀ (fu : Nat) (pp : Int32) (H : Heap) (locs : List Loc) (ls : Array Slot), q_in fu pp = some p' → va_P (x_D G) vwCl (m_Wd G z) H → va_D (x_A G) (m_Wd G z) → va_S (x_A G) s.heap H locs → lv_has ls 4 [(2, .int pp), (0, .ref (x_ad G 0)), (3, .int kk)] → W p l e rm_M_init s m args below meth cd H locs 25 4619 Q (F0 m 271 ls []) := by
  obtain ⟨hx, hb, hr, hml, hown, hts, hlocks, hz, hK, hG⟩ := id C0
  intro fu
  induction fu with
  | zero =>
    intro pp H locs ls h
    rw [q_in] at h
    cases h
  | succ fu ih =>
    intro pp H locs ls h hP hD hS hl
    obtain ⟨r2, y, hf9, hcase⟩ := q_in_some h
    have hq : f_M_isPrime (x_n G) pp z = some (r2, z) := v_prime _ _ hf9
    refine lv_iload_n hx hb d_M_init_271 rfl (lv_at hl 0 rfl) ?_
    obtain ⟨z2, hz2⟩ : ∃ q : x_St, q = z := ⟨_, rfl⟩
    have hq3 : f_M_isPrime (x_n G) pp z = some (r2, z2) := by rw [hz2]; exact hq
    refine va_calli (va_runS (As := [.int pp]) (rest := []) ⟨hx, hb, hml, hown, hts⟩ (c_M_isPrime l G pp z r2 z2 hq3) (va_cwS 1 hts (x_gS t_661 t_662 t_7 t_663) rfl rfl rfl (by decide +kernel) ⟨Nat.le_of_ble_eq_true rfl, Nat.le_of_ble_eq_true rfl⟩) ⟨m_blind _ _ _, fun U hU hW => ⟨rfl, m_pw hP hD hK hG hS hz hU hW⟩⟩ rfl rfl hl.1 rfl (lv_room (Nat.le_of_ble_eq_true rfl)) d_M_init_272 ⟨Nat.le_of_ble_eq_true rfl, Nat.le_of_ble_eq_true rfl⟩) hS (fun q _ h => h) (fun q h => h) (fun ra u t H locs ht hvm hw hB _ _ hS => ?_)
    obtain ⟨rfl, rfl⟩ := hw
    obtain ⟨hP, hD⟩ := m_back hB ht
    rw [hz2] at hP hD
    refine lv_if_ne (tgt := 284) hx hb d_M_init_275 (by decide) (fun hc => ?_) (fun hc => ?_)
    · rcases hcase with ⟨h0, -⟩ | ⟨-, rfl⟩
      · exact absurd h0 hc
      · exact K _ _ _ hP hD hS (lv_sub hl [1, 0, 2] rfl)
    · rcases hcase with ⟨-, hn⟩ | ⟨h0, -⟩
      · refine lv_iinc (v := (pp + (1 : Int32))) (lv' := [(2, .int (pp + (1 : Int32))), (0, .ref (x_ad G 0)), (3, .int kk)]) hx hb d_M_init_278 hl (k := 0) rfl rfl (by decide) rfl (fun ls hl => ?_)
        refine lv_goto (tgt := 271) hx hb d_M_init_281 (by decide) ?_
        exact ih (pp + 1) _ _ _ hn hP hD hS hl
      · exact absurd hc h0
set_option maxHeartbeats 4000000 in
set_option maxRecDepth 100000 in
theorem w_M_init_out (l : Launch) (G : x_G) {p : Program} {e : Env} {s : State} {m : MethodId} {args : Array Value} {below : List Frame} {meth : Method} {cd : Code} {Q : State → Prop} (C0 : m_Ctx G p s m args meth cd prog_7_method_1_code "ContentLibraryModel" 4 none) (z0 : x_St) (K : ∀ (z : x_St) (H : Heap) (locs : List Loc) (ls : Array Slot), m_like z0 z → va_P (x_D G) vwCl (m_Wd G z) H → va_D (x_A G) (m_Wd G z) → va_S (x_A G) s.heap H locs → W p l e rm_M_init s m args below meth cd H locs 25 4619 Q (F0 m 318 ls [])) : ∀ (fu j : Nat) (pp : Int32) (z : x_St) (H : Heap) (locs : List Loc) (ls : Array Slot), j ≤ 64 → q_out fu (nI j) pp = true → m_like z0 z → va_P (x_D G) vwCl (m_Wd G z) H → va_D (x_A G) (m_Wd G z) → va_S (x_A G) s.heap H locs → lv_has ls 4 [(0, .ref (x_ad G 0)), (2, .int pp), (3, .int (nI j))] → W p l e rm_M_init s m args below meth cd H locs 25 4619 Q (F0 m 262 ls []) := by
  obtain ⟨hx, hb, hr, hml, hown, hts, hlocks, hz, hK, hG⟩ := id C0
  intro fu
  induction fu with
  | zero =>
    intro j pp z H locs ls hj h
    rw [q_out] at h
    cases h
  | succ fu ih =>
    intro j pp z H locs ls hj h hlike hP hD hS hl
    rcases q_out_some h with h64 | ⟨hn64, p', hin9, hout⟩
    · refine lv_iload_n hx hb d_M_init_262 rfl (lv_at hl 2 rfl) ?_
      refine lv_bipush (v := (64 : Int32)) hx hb d_M_init_263 (by decide) ?_
      refine lv_icmp_ge (tgt := 318) hx hb d_M_init_265 (by decide) (fun _ => ?_) (fun hc => absurd h64 hc)
      exact K z _ _ _ hlike hP hD hS
    · have hj64 : j < 64 := by
        rcases Nat.lt_or_ge j 64 with q | q
        · exact q
        · exact absurd (show (64 : Int32) ≤ nI j from nI_le q (by omega)) hn64
      rw [nI_1] at hout
      refine lv_iload_n hx hb d_M_init_262 rfl (lv_at hl 2 rfl) ?_
      refine lv_bipush (v := (64 : Int32)) hx hb d_M_init_263 (by decide) ?_
      refine lv_icmp_ge (tgt := 318) hx hb d_M_init_265 (by decide) (fun hc => absurd hc hn64) (fun _ => ?_)
      refine lv_iinc (v := (pp + (1 : Int32))) (lv' := [(2, .int (pp + (1 : Int32))), (0, .ref (x_ad G 0)), (3, .int (nI j))]) hx hb d_M_init_268 hl (k := 1) rfl rfl (by decide) rfl (fun ls hl => ?_)
      refine w_M_init_in l G C0 z (nI j) p' (fun H locs ls hP hD hS hl => ?_) 40 _ _ _ _ hin9 hP hD hS (lv_sub hl [0, 1, 2] rfl)
      refine lv_aload_n hx hb d_M_init_284 rfl (lv_at hl 0 rfl) ?_
      refine va_get (D := x_D G) (ci := 5) (v := .ref (x_ad G 18)) (C := "ContentLibraryModel") (T := x_TM) (N := 31) hx hb hts x_inM hown hK hP 0 (m_lk_M G _) rfl 22 (by decide) (hts _ t_694) (fun _ h9 => h9) rfl d_M_init_285 ?_
      refine lv_iload_n hx hb d_M_init_288 rfl (lv_at hl 2 rfl) ?_
      refine lv_iload_n hx hb d_M_init_289 rfl (lv_at hl 1 rfl) ?_
      refine lv_iconst (v := (3 : Int32)) hx hb d_M_init_290 (by decide) ?_
      obtain ⟨z4, hz4⟩ : ∃ q : x_St, q = z := ⟨_, rfl⟩
      obtain ⟨r4, hr4⟩ := v_root (x_n G) p' (3 : Int32) z
      have hq5 : f_M_rootOf (x_n G) p' (3 : Int32) z = some (r4, z4) := by rw [hz4]; exact hr4
      refine va_calli (va_runS (As := [.int p', .int (3 : Int32)]) (rest := [.int (nI j), .ref (x_ad G 18)]) ⟨hx, hb, hml, hown, hts⟩ (c_M_rootOf l G p' (3 : Int32) z r4 z4 hq5) (va_cwS 2 hts (x_gS t_664 t_665 t_7 t_666) rfl rfl rfl (by decide +kernel) ⟨Nat.le_of_ble_eq_true rfl, Nat.le_of_ble_eq_true rfl⟩) ⟨m_blind _ _ _, fun U hU hW => ⟨rfl, m_pw hP hD hK hG hS hz hU hW⟩⟩ rfl rfl hl.1 rfl (lv_room (Nat.le_of_ble_eq_true rfl)) d_M_init_291 ⟨Nat.le_of_ble_eq_true rfl, Nat.le_of_ble_eq_true rfl⟩) hS (fun q _ h => h) (fun q h => h) (fun ra u t H locs ht hvm hw hB _ _ hS => ?_)
      obtain ⟨rfl, rfl⟩ := hw
      obtain ⟨hP, hD⟩ := m_back hB ht
      rw [hz4] at hP hD
      have hin6 : vp_in (nI j) (m_ln (x_n G) 18) := vp_in_nI (N := 64) (show j < 64 by omega) (by decide)
      refine va_iast hx hb hK hP hD hS 18 0 (m_lk_A G _ (k := 18) (by decide)) rfl hin6 d_M_init_294 (fun H locs hP hD hS => ?_)
      rw [m_st_A G _ (k := 18) (by decide)] at hP hD
      refine lv_iload_n hx hb d_M_init_295 rfl (lv_at hl 2 rfl) ?_
      refine lv_bipush (v := (8 : Int32)) hx hb d_M_init_296 (by decide) ?_
      have hl1 : m_like z0 (x_put z 18 ((nI j)).toNatClampNeg r4) := hlike.put (Or.inl rfl) _ _
      refine lv_icmp_ge (tgt := 312) hx hb d_M_init_298 (by decide) (fun _ => ?_) (fun hc => ?_)
      · refine lv_iinc (v := ((nI j) + (1 : Int32))) (lv' := [(3, .int ((nI j) + (1 : Int32))), (0, .ref (x_ad G 0)), (2, .int p')]) hx hb d_M_init_312 hl (k := 2) rfl rfl (by decide) rfl (fun ls hl => ?_)
        refine lv_goto (tgt := 262) hx hb d_M_init_315 (by decide) ?_
        rw [nI_1] at hl
        exact ih (j + 1) _ _ _ _ _ (by omega) hout hl1 hP hD hS (lv_sub hl [1, 2, 0] rfl)
      · have hj8 : j < 8 := by
          rcases Nat.lt_or_ge j 8 with q | q
          · exact q
          · exact absurd (show (8 : Int32) ≤ nI j from nI_le q (by omega)) hc
        refine lv_aload_n hx hb d_M_init_301 rfl (lv_at hl 0 rfl) ?_
        refine va_get (D := x_D G) (ci := 5) (v := .ref (x_ad G 19)) (C := "ContentLibraryModel") (T := x_TM) (N := 31) hx hb hts x_inM hown hK hP 0 (m_lk_M G _) rfl 23 (by decide) (hts _ t_695) (fun _ h9 => h9) rfl d_M_init_302 ?_
        refine lv_iload_n hx hb d_M_init_305 rfl (lv_at hl 2 rfl) ?_
        refine lv_iload_n hx hb d_M_init_306 rfl (lv_at hl 1 rfl) ?_
        refine lv_iconst (v := (2 : Int32)) hx hb d_M_init_307 (by decide) ?_
        obtain ⟨z7, hz7⟩ : ∃ q : x_St, q = (x_put z 18 ((nI j)).toNatClampNeg r4) := ⟨_, rfl⟩
        obtain ⟨r7, hr7⟩ := v_root (x_n G) p' (2 : Int32) (x_put z 18 ((nI j)).toNatClampNeg r4)
        have hq8 : f_M_rootOf (x_n G) p' (2 : Int32) (x_put z 18 ((nI j)).toNatClampNeg r4) = some (r7, z7) := by rw [hz7]; exact hr7
        refine va_calli (va_runS (As := [.int p', .int (2 : Int32)]) (rest := [.int (nI j), .ref (x_ad G 19)]) ⟨hx, hb, hml, hown, hts⟩ (c_M_rootOf l G p' (2 : Int32) (x_put z 18 ((nI j)).toNatClampNeg r4) r7 z7 hq8) (va_cwS 2 hts (x_gS t_664 t_665 t_7 t_666) rfl rfl rfl (by decide +kernel) ⟨Nat.le_of_ble_eq_true rfl, Nat.le_of_ble_eq_true rfl⟩) ⟨m_blind _ _ _, fun U hU hW => ⟨rfl, m_pw hP hD hK hG hS hz hU hW⟩⟩ rfl rfl hl.1 rfl (lv_room (Nat.le_of_ble_eq_true rfl)) d_M_init_308 ⟨Nat.le_of_ble_eq_true rfl, Nat.le_of_ble_eq_true rfl⟩) hS (fun q _ h => h) (fun q h => h) (fun ra u t H locs ht hvm hw hB _ _ hS => ?_)
        obtain ⟨rfl, rfl⟩ := hw
        obtain ⟨hP, hD⟩ := m_back hB ht
        rw [hz7] at hP hD
        have hin9 : vp_in (nI j) (m_ln (x_n G) 19) := vp_in_nI (N := 8) (show j < 8 by omega) (by decide)
        refine va_iast hx hb hK hP hD hS 19 0 (m_lk_A G _ (k := 19) (by decide)) rfl hin9 d_M_init_311 (fun H locs hP hD hS => ?_)
        rw [m_st_A G _ (k := 19) (by decide)] at hP hD
        have hl2 : m_like z0 (x_put (x_put z 18 ((nI j)).toNatClampNeg r4) 19 ((nI j)).toNatClampNeg r7) := hl1.put (Or.inr rfl) _ _
        refine lv_iinc (v := ((nI j) + (1 : Int32))) (lv' := [(3, .int ((nI j) + (1 : Int32))), (0, .ref (x_ad G 0)), (2, .int p')]) hx hb d_M_init_312 hl (k := 2) rfl rfl (by decide) rfl (fun ls hl => ?_)
        refine lv_goto (tgt := 262) hx hb d_M_init_315 (by decide) ?_
        rw [nI_1] at hl
        exact ih (j + 1) _ _ _ _ _ (by omega) hout hl2 hP hD hS (lv_sub hl [1, 2, 0] rfl)
set_option maxHeartbeats 4000000 in
set_option maxRecDepth 100000 in
theorem w_M_init_212 (l : Launch) (G : x_G) (n : Nat) (p1 : Int32) {p : Program} {e : Env} {s : State} {m : MethodId} {args : Array Value} {below : List Frame} {meth : Method} {cd : Code} {Q : State → Prop} (C0 : m_Ctx G p s m args meth cd prog_7_method_1_code "ContentLibraryModel" 4 none) (hin : meth.name = "<init>") (hp1 : p1 < 1 → (1 : Int32) = nI n) (hp2 : ¬ p1 < 1 → (40 : Int32) < p1 → (40 : Int32) = nI n) (hp3 : ¬ p1 < 1 → ¬ (40 : Int32) < p1 → p1 = nI n) (K : ∀ (z : x_St) (H : Heap) (locs : List Loc) (ls : Array Slot), m_fr n z → va_P (x_D G) vwCl (m_Wd G z) H → va_D (x_A G) (m_Wd G z) → va_S (x_A G) s.heap H locs → W p l e rm_M_init s m args below meth cd H locs 25 4619 Q (F0 m 318 ls [])) (H : Heap) (locs : List Loc) (ls : Array Slot) (hP : va_P (x_D G) vwCl (m_Wd G m_z0) H) (hD : va_D (x_A G) (m_Wd G m_z0)) (hS : va_S (x_A G) s.heap H locs) (hl : lv_has ls 4 [(0, .ref (x_ad G 0)), (1, .int p1)]) : W p l e rm_M_init s m args below meth cd H locs 25 4619 Q (F0 m 212 ls []) := by
  obtain ⟨hx, hb, hr, hml, hown, hts, hlocks, hz, hK, hG⟩ := id C0
  have Kb : ∀ (v : Int32), v = nI n → W p l e rm_M_init s m args below meth cd H locs 25 4619 Q (F0 m 234 ls [.int v, .ref (x_ad G 0)]) := by
    intro v hv
    rw [hv]
    refine va_putF (D := x_D G) (ci := 5) (v := .int (nI n)) (ty := .int) (C := "ContentLibraryModel") (T := x_TM) (N := 31) hx hb hts x_inM x_tyM x_tyM_ok x_nmM hown hK hP hD hS 0 (m_lk_M G _) rfl 1 (by decide) (hts _ t_673) (fun _ h9 => h9) rfl hin rfl (by decide +kernel) rfl rfl (Nat.le_of_ble_eq_true rfl) d_M_init_234 (fun H locs hP hD hS => ?_)
    rw [m_st_M1 G _] at hP hD
    refine lv_iconst (v := (0 : Int32)) hx hb d_M_init_237 (by decide) ?_
    refine lv_istore_n (lv' := [(2, .int (0 : Int32)), (0, .ref (x_ad G 0)), (1, .int p1)]) hx hb d_M_init_238 rfl hl (by decide) rfl (fun ls hl => ?_)
    refine w_M_init_own l G p1 C0 (x_put m_z0 0 1 (nI n)) (fun H locs ls hP hD hS hl => ?_) 40 0 _ _ _ (by decide) hP hD hS (lv_sub hl [0, 1, 2] rfl)
    refine lv_iconst (v := (1 : Int32)) hx hb d_M_init_258 (by decide) ?_
    refine lv_istore_n (lv' := [(2, .int (1 : Int32)), (0, .ref (x_ad G 0)), (1, .int p1)]) hx hb d_M_init_259 rfl hl (by decide) rfl (fun ls hl => ?_)
    refine lv_iconst (v := (0 : Int32)) hx hb d_M_init_260 (by decide) ?_
    refine lv_istore_n (lv' := [(3, .int (0 : Int32)), (2, .int (1 : Int32)), (0, .ref (x_ad G 0)), (1, .int p1)]) hx hb d_M_init_261 rfl hl (by decide) rfl (fun ls hl => ?_)
    exact w_M_init_out l G C0 (m_own (x_put m_z0 0 1 (nI n)) 40) (fun z H locs ls hlk hP hD hS => K z H locs ls (m_fresh hlk) hP hD hS) 65 0 1 _ _ _ _ (by decide) q_all (fun _ _ _ => rfl) hP hD hS (lv_sub hl [2, 1, 0] rfl)
  refine lv_aload_n hx hb d_M_init_212 rfl (lv_at hl 0 rfl) ?_
  refine lv_iload_n hx hb d_M_init_213 rfl (lv_at hl 1 rfl) ?_
  refine lv_iconst (v := (1 : Int32)) hx hb d_M_init_214 (by decide) ?_
  refine lv_icmp_ge (tgt := 222) hx hb d_M_init_215 (by decide) (fun hc => ?_) (fun hc => ?_)
  · have hc9 : ¬ p1 < 1 := Int32.not_lt.mpr hc
    refine lv_iload_n hx hb d_M_init_222 rfl (lv_at hl 1 rfl) ?_
    refine lv_bipush (v := (40 : Int32)) hx hb d_M_init_223 (by decide) ?_
    refine lv_icmp_le (tgt := 233) hx hb d_M_init_225 (by decide) (fun hd => ?_) (fun hd => ?_)
    · refine lv_iload_n hx hb d_M_init_233 rfl (lv_at hl 1 rfl) ?_
      exact Kb _ (hp3 hc9 (Int32.not_lt.mpr hd))
    · refine lv_bipush (v := (40 : Int32)) hx hb d_M_init_228 (by decide) ?_
      refine lv_goto (tgt := 234) hx hb d_M_init_230 (by decide) ?_
      exact Kb _ (hp2 hc9 (Int32.not_le.mp hd))
  · refine lv_iconst (v := (1 : Int32)) hx hb d_M_init_218 (by decide) ?_
    refine lv_goto (tgt := 234) hx hb d_M_init_219 (by decide) ?_
    exact Kb _ (hp1 (Int32.not_le.mp hc))
theorem y_cong {ad ad' : Nat → Nat} {c c' : Nat → va_E} {t : Nat} (ha : ∀ k, k < t → ad' k = ad k) (hc : ∀ k, k < t → c' k = c k) : y_W ad' c' t = y_W ad c t := by
  unfold y_W
  refine List.map_congr_left (fun k hk => ?_)
  have hk := List.mem_range.mp hk
  rw [ha k hk, hc k hk]
set_option maxHeartbeats 4000000 in
set_option maxRecDepth 100000 in
theorem c_M_init (l : Launch) (G : x_G) (n : Nat) (p1 : Int32) (hp1 : p1 < 1 → (1 : Int32) = nI n) (hp2 : ¬ p1 < 1 → (40 : Int32) < p1 → (40 : Int32) = nI n) (hp3 : ¬ p1 < 1 → ¬ (40 : Int32) < p1 → p1 = nI n) (ad : Nat → Nat) (c : Nat → va_E) (hck : c 110 = .inr (5, [.int 0, .int 0, .null, .int 0, .int 0, .null, .null, .null, .null, .null, .null, .null, .null, .null, .null, .null, .null, .null, .null, .int 0, .null, .null, .null, .null, .null, .null, .null, .int 0, .null, .null, .null])) : Met l (⟨"ContentLibraryModel", "<init>", "(I)V"⟩ : MethodName) (x_ws (⟨"ContentLibraryModel", "<init>", "(I)V"⟩ : MethodName) prog_7_method_1_code 4 none) rm_M_init (va_Pc [.ref (ad 110), .int p1] (y_PW G ad c 111)) (va_Qv (fun _ : Unit => True) (fun _ U => ∃ (am : Nat → Nat) (z : x_St), m_PW (x_mk G am n (y_W ad c 110)) z U ∧ x_GV G U U.heap ∧ m_fr n z ∧ am 0 = ad 110) (x_A G)) 25 4619 (x_A G) := by
  refine Met.ofW (cc := prog_7_method_1_code) (maxL := 4) (ret := none) (by decide) rfl ?_
  intro p e s m args below meth cd s₁ B hml hv
  obtain ⟨rfl, hz, hP, hD, hK, hG⟩ := hv
  have C0 : x_Ctx G p s m _ meth cd prog_7_method_1_code "ContentLibraryModel" 4 none := ⟨B.exec, B.bytes, B.returns, hml, findClass_of_methodNamed B.named, fun w h => atoms_spec (ws := (x_ws (⟨"ContentLibraryModel", "<init>", "(I)V"⟩ : MethodName) prog_7_method_1_code 4 none)) B.pre w (List.mem_cons_of_mem _ h), B.notSynchronized, hz, hK, hG⟩
  obtain ⟨hx, hb, hr, hml, hown, hts, hlocks, hz, hK, hG⟩ := id C0
  have hin : meth.name = "<init>" := (name_of_methodNamed B.named B.method).1
  have hS : va_S (x_A G) s.heap s.heap [] := va_S.rf
  have hl := lv_entry ([.ref (ad 110), .int p1]) (n := 4) (Nat.le_of_ble_eq_true rfl)
  rw [lg_entry_eq]
  generalize (lg_sl ([.ref (ad 110), .int p1]) ++ List.replicate (4 - (lg_sl ([.ref (ad 110), .int p1])).length) Slot.unset).toArray = ls at hl ⊢
  have hl : lv_has ls 4 [(0, .ref (ad 110)), (1, .int p1)] := hl
  refine w_M_init_0 l G p1 C0 hin ad c 111 110 (by decide) hck ?_ _ _ _ hP hD hS hl
  intro ad1 c1 H locs ls ha0 haj g0 g1 g2 g3 g4 g5 g6 g7 g8 g9 g10 g11 g12 g13 g14 g15 g16 g17 g18 g19 g20 g21 g22 g23 g24 g25 hcj hP hD hS hl
  obtain ⟨hP, hD⟩ := y_toM (G := G) (ad := ad1) (c := c1) (t := 110) (n := n) (z := m_z0) (H := H) hP hD (fun k hk => by
    rcases (show k = 0 ∨ k = 1 ∨ k = 2 ∨ k = 3 ∨ k = 4 ∨ k = 5 ∨ k = 6 ∨ k = 7 ∨ k = 8 ∨ k = 9 ∨ k = 10 ∨ k = 11 ∨ k = 12 ∨ k = 13 ∨ k = 14 ∨ k = 15 ∨ k = 16 ∨ k = 17 ∨ k = 18 ∨ k = 19 ∨ k = 20 ∨ k = 21 ∨ k = 22 ∨ k = 23 ∨ k = 24 ∨ k = 25 by omega) with rfl | rfl | rfl | rfl | rfl | rfl | rfl | rfl | rfl | rfl | rfl | rfl | rfl | rfl | rfl | rfl | rfl | rfl | rfl | rfl | rfl | rfl | rfl | rfl | rfl | rfl
    · exact g0
    · exact g1
    · exact g2
    · exact g3
    · exact g4
    · exact g5
    · exact g6
    · exact g7
    · exact g8
    · exact g9
    · exact g10
    · exact g11
    · exact g12
    · exact g13
    · exact g14
    · exact g15
    · exact g16
    · exact g17
    · exact g18
    · exact g19
    · exact g20
    · exact g21
    · exact g22
    · exact g23
    · exact g24
    · exact g25)
  have ey : y_W ad1 c1 110 = y_W ad c 110 := y_cong (fun k hk => haj k (by omega)) (fun k hk => hcj k (by omega) (by omega))
  rw [ey] at hP hD
  obtain ⟨am, eam⟩ : ∃ am : Nat → Nat, am = fun k => ad1 (110 + k) := ⟨_, rfl⟩
  rw [← eam] at hP hD
  have ham : am 0 = ad 110 := by rw [eam]; exact ha0
  rw [← ham] at hl
  have C1 : m_Ctx (x_mk G am n (y_W ad c 110)) p s m _ meth cd prog_7_method_1_code "ContentLibraryModel" 4 none := ⟨hx, hb, hr, hml, hown, hts, hlocks, hz, hK, trivial⟩
  refine w_M_init_212 l (x_mk G am n (y_W ad c 110)) n p1 C1 hin hp1 hp2 hp3 (fun z H locs ls hfr hP hD hS => ?_) H locs ls hP hD hS hl
  exact W.vret hx hb hr (fun T9 ht9 hW => ⟨⟨(), rfl, trivial, am, z, m_pw hP hD hK trivial hS hz ht9 hW, by rw [ht9]; exact x_GV.warm hW (x_GV.kept hG hS.2.1), hfr, ham⟩, hS.F ht9⟩) hS.2.2 d_M_init_318

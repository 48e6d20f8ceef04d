/-! THE WORDS: the tables' words that stay good; every method's list is its own code and these -/
def x_big : List Cond := lw_tbl.filter goodWord
theorem x_bt (i : Nat) {w : Cond} (h : tables_1[i]? = some w) (hg : goodWord w = true) : w ∈ x_big :=
  List.mem_filter.mpr ⟨List.mem_append_right _ (List.mem_of_getElem? h), hg⟩
theorem x_bs (i : Nat) {w : Cond} (h : (k2_sels lw_privs)[i]? = some w) (hg : goodWord w = true) : w ∈ x_big :=
  List.mem_filter.mpr ⟨List.mem_append_left _ (List.mem_of_getElem? h), hg⟩
theorem x_bg {w : Cond} (h : w ∈ x_big) : w ∈ lw_tbl ∧ goodWord w = true := List.mem_filter.mp h
abbrev x_ws (y : MethodName) (c : ByteArray) (n : Nat) (r : Option FieldType) : List Cond := Cond.code y c n r :: x_big
theorem x_gws {y : MethodName} {c : ByteArray} {n : Nat} {r : Option FieldType} (h : Cond.code y c n r ∈ x_big) : GoodIn x_big (x_ws y c n r) := by
  intro w hw
  have hm : w ∈ x_big := (List.mem_cons.mp hw).elim (fun e => e ▸ h) id
  exact ⟨hm, good_of_word (x_bg hm).2⟩
theorem x_gV {own : String} {idx : Nat} {C : String} {y : MethodName} {c : ByteArray} {n : Nat} {r : Option FieldType} (h1 : Cond.methodLink own idx y ∈ x_big) (h2 : Cond.instanceMethod y ∈ x_big) (h3 : Cond.selects C y y ∈ x_big) (h4 : Cond.initialized C ∈ x_big) (h5 : Cond.code y c n r ∈ x_big) : GoodIn x_big (wsV own idx C y (x_ws y c n r)) := by
  intro w hw
  rcases List.mem_append.mp hw with h | h
  · have hm : w ∈ x_big := by
      simp only [List.mem_cons, List.not_mem_nil, or_false] at h
      rcases h with rfl | rfl | rfl | rfl <;> assumption
    exact ⟨hm, good_of_word (x_bg hm).2⟩
  · exact x_gws h5 w h
theorem x_gS {own : String} {idx : Nat} {y : MethodName} {c : ByteArray} {n : Nat} {r : Option FieldType} (h1 : Cond.methodLink own idx y ∈ x_big) (h2 : Cond.static y ∈ x_big) (h4 : Cond.initialized y.cls ∈ x_big) (h5 : Cond.code y c n r ∈ x_big) : GoodIn x_big (va_wsS own idx y (x_ws y c n r)) := by
  intro w hw
  rcases List.mem_append.mp hw with h | h
  · have hm : w ∈ x_big := by
      simp only [List.mem_cons, List.not_mem_nil, or_false] at h
      rcases h with rfl | rfl | rfl <;> assumption
    exact ⟨hm, good_of_word (x_bg hm).2⟩
  · exact x_gws h5 w h
/-! PURE WORDS: a state is what the int cells and the long cells hold, by cell and place -/
abbrev x_St : Type := (Nat → Nat → Int32) × (Nat → Nat → Int64)
def x_put (z : x_St) (k j : Nat) (v : Int32) : x_St := (va_up z.1 k (upd (z.1 k) j v), z.2)
def x_putL (z : x_St) (k j : Nat) (v : Int64) : x_St := (z.1, va_up z.2 k (vp_updL (z.2 k) j v))
def x_cpy (z : x_St) (k1 sp k2 dp w : Nat) : x_St := (va_up z.1 k2 (va_cpy (z.1 k1) (z.1 k2) sp dp w), z.2)
def x_cpyT (z : x_St) (f : Nat → Int32) (sp k2 dp w : Nat) : x_St := (va_up z.1 k2 (va_cpy f (z.1 k2) sp dp w), z.2)
def x_ushr (x y : Int32) : Int32 := (x.toUInt32 >>> (y.toUInt32 &&& Int32.toUInt32 31)).toInt32
def x_lshl (x : Int64) (y : Int32) : Int64 := x <<< (y.toInt64 &&& 63)
def x_lushr (x : Int64) (y : Int32) : Int64 := (x.toUInt64 >>> (y.toInt64.toUInt64 &&& Int64.toUInt64 63)).toInt64
def x_FU : Nat := 1000000
/-- a place that must be in its row -/
def x_ck {β : Type} (i : Int32) (n : Nat) (K : Option β) : Option β := if i < 0 ∨ n ≤ i.toNatClampNeg then none else K
theorem x_ck_some {β : Type} {i : Int32} {n : Nat} {K : Option β} {o : β} (h : x_ck i n K = some o) : vp_in i n ∧ K = some o := by
  unfold x_ck at h
  by_cases hc : i < 0 ∨ n ≤ i.toNatClampNeg
  · rw [if_pos hc] at h; cases h
  · rw [if_neg hc] at h; exact ⟨hc, h⟩
def x_nz {β : Type} (y : Int32) (K : Option β) : Option β := if y = 0 then none else K
theorem x_nz_some {β : Type} {y : Int32} {K : Option β} {o : β} (h : x_nz y K = some o) : ¬ y = 0 ∧ K = some o := by
  unfold x_nz at h
  by_cases hc : y = 0
  · rw [if_pos hc] at h; cases h
  · rw [if_neg hc] at h; exact ⟨hc, h⟩
def x_ckb {β : Type} (y : Int32) (K : Option β) : Option β := if y = 0 ∨ y = 1 then K else none
theorem x_ckb_some {β : Type} {y : Int32} {K : Option β} {o : β} (h : x_ckb y K = some o) : (y = 0 ∨ y = 1) ∧ K = some o := by
  unfold x_ckb at h
  by_cases hc : y = 0 ∨ y = 1
  · rw [if_pos hc] at h; exact ⟨hc, h⟩
  · rw [if_neg hc] at h; cases h
theorem x_nb {y : Int32} (h : y = 0 ∨ y = 1) : narrow .boolean (.int y) = .int y := by
  rcases h with rfl | rfl <;> rfl
def x_ckc {β : Type} (sp dp w : Int32) (n0 n1 : Nat) (K : Option β) : Option β := if sp < 0 ∨ dp < 0 ∨ w < 0 ∨ n0 < sp.toNatClampNeg + w.toNatClampNeg ∨ n1 < dp.toNatClampNeg + w.toNatClampNeg then none else K
theorem x_ckc_some {β : Type} {sp dp w : Int32} {n0 n1 : Nat} {K : Option β} {o : β} (h : x_ckc sp dp w n0 n1 K = some o) : ¬ sp < 0 ∧ ¬ dp < 0 ∧ ¬ w < 0 ∧ sp.toNatClampNeg + w.toNatClampNeg ≤ n0 ∧ dp.toNatClampNeg + w.toNatClampNeg ≤ n1 ∧ K = some o := by
  unfold x_ckc at h
  by_cases hc : sp < 0 ∨ dp < 0 ∨ w < 0 ∨ n0 < sp.toNatClampNeg + w.toNatClampNeg ∨ n1 < dp.toNatClampNeg + w.toNatClampNeg
  · rw [if_pos hc] at h; cases h
  · rw [if_neg hc] at h
    refine ⟨fun q => hc (Or.inl q), fun q => hc (Or.inr (Or.inl q)), fun q => hc (Or.inr (Or.inr (Or.inl q))), Nat.not_lt.mp fun q => hc (Or.inr (Or.inr (Or.inr (Or.inl q)))), Nat.not_lt.mp fun q => hc (Or.inr (Or.inr (Or.inr (Or.inr q)))), h⟩
theorem x_br_t {β : Type} {c : Prop} [Decidable c] {A B : Option β} {o : β} (h : (if c then A else B) = some o) (hc : c) : A = some o := by rw [if_pos hc] at h; exact h
theorem x_br_f {β : Type} {c : Prop} [Decidable c] {A B : Option β} {o : β} (h : (if c then A else B) = some o) (hc : ¬ c) : B = some o := by rw [if_neg hc] at h; exact h
/-- a call that returns -/
def x_cl {α β : Type} (o : Option (α × x_St)) (K : α → x_St → Option β) : Option β := match o with
  | none => none
  | some (r, z) => K r z
theorem x_cl_some {α β : Type} {o : Option (α × x_St)} {K : α → x_St → Option β} {b : β} (h : x_cl o K = some b) : ∃ r z, o = some (r, z) ∧ K r z = some b := by
  cases o with
  | none => cases h
  | some q => exact ⟨q.1, q.2, rfl, h⟩
/-- a call that returns or throws, in a method that may throw -/
def x_clx {α β : Type} (o : Option ((String ⊕ α) × x_St)) (K : α → x_St → Option ((String ⊕ β) × x_St)) : Option ((String ⊕ β) × x_St) := match o with
  | none => none
  | some (.inl E, z) => some (.inl E, z)
  | some (.inr r, z) => K r z
theorem x_clx_some {α β : Type} {o : Option ((String ⊕ α) × x_St)} {K : α → x_St → Option ((String ⊕ β) × x_St)} {b : (String ⊕ β) × x_St} (h : x_clx o K = some b) : ∃ q z, o = some (q, z) ∧ (∀ E, q = .inl E → b = (.inl E, z)) ∧ ∀ r, q = .inr r → K r z = some b := by
  cases o with
  | none => cases h
  | some q =>
    obtain ⟨a, z⟩ := q
    refine ⟨a, z, rfl, ?_, ?_⟩
    · intro E e; subst e; exact (Option.some.inj h).symm
    · intro r e; subst e; exact h
theorem x_clx_r {α β : Type} {o : Option ((String ⊕ α) × x_St)} {K : α → x_St → Option ((String ⊕ β) × x_St)} {r : β} {z9 : x_St} (h : x_clx o K = some (.inr r, z9)) : ∃ r1 z1, o = some (.inr r1, z1) ∧ K r1 z1 = some (.inr r, z9) := by
  rcases o with _ | ⟨a | a, y⟩
  · cases h
  · cases h
  · exact ⟨a, y, rfl, h⟩
theorem x_clx_x {α β : Type} {o : Option ((String ⊕ α) × x_St)} {K : α → x_St → Option ((String ⊕ β) × x_St)} {E : String} {z9 : x_St} (h : x_clx o K = some (.inl E, z9)) : o = some (.inl E, z9) ∨ ∃ r1 z1, o = some (.inr r1, z1) ∧ K r1 z1 = some (.inl E, z9) := by
  rcases o with _ | ⟨a | a, y⟩
  · cases h
  · cases h; exact Or.inl rfl
  · exact Or.inr ⟨a, y, rfl, h⟩
/-- a call that returns or throws, in a method that catches -/
def x_try {α β : Type} (o : Option ((String ⊕ α) × x_St)) (K : α → x_St → Option β) (C : String → x_St → Option β) : Option β := match o with
  | none => none
  | some (.inl E, z) => C E z
  | some (.inr r, z) => K r z
theorem x_try_some {α β : Type} {o : Option ((String ⊕ α) × x_St)} {K : α → x_St → Option β} {C : String → x_St → Option β} {b : β} (h : x_try o K C = some b) : (∃ E z, o = some (.inl E, z) ∧ C E z = some b) ∨ ∃ r z, o = some (.inr r, z) ∧ K r z = some b := by
  rcases o with _ | ⟨a | a, y⟩
  · cases h
  · exact Or.inl ⟨a, y, rfl, h⟩
  · exact Or.inr ⟨a, y, rfl, h⟩
theorem x_retr {α : Type} {a b : α} {y z : x_St} (h : some ((Sum.inr a : String ⊕ α), y) = some (.inr b, z)) : a = b ∧ y = z := by
  cases h; exact ⟨rfl, rfl⟩
theorem x_retx {α : Type} {a b : String} {y z : x_St} (h : some ((Sum.inl a : String ⊕ α), y) = some (.inl b, z)) : a = b ∧ y = z := by
  cases h; exact ⟨rfl, rfl⟩
theorem x_no_r {α : Type} {a : String} {b : α} {y z : x_St} : ¬ some ((Sum.inl a : String ⊕ α), y) = some (.inr b, z) := fun h => by cases h
theorem x_no_x {α : Type} {a : α} {b : String} {y z : x_St} : ¬ some ((Sum.inr a : String ⊕ α), y) = some (.inl b, z) := fun h => by cases h
theorem x_ret {α : Type} {a b : α} {y z : x_St} (h : some (a, y) = some (b, z)) : a = b ∧ y = z := by
  cases h; exact ⟨rfl, rfl⟩
theorem x_out7 {x : Int32} (h0 : ¬ x = 0) (h1 : ¬ x = 1) (h2 : ¬ x = 2) (h3 : ¬ x = 3) (h4 : ¬ x = 4) (h5 : ¬ x = 5) (h6 : ¬ x = 6) : x.toInt < 0 ∨ 6 < x.toInt := by
  have e0 : x.toInt ≠ 0 := fun e => h0 (Int32.toInt_inj.mp (e.trans (by decide)))
  have e1 : x.toInt ≠ 1 := fun e => h1 (Int32.toInt_inj.mp (e.trans (by decide)))
  have e2 : x.toInt ≠ 2 := fun e => h2 (Int32.toInt_inj.mp (e.trans (by decide)))
  have e3 : x.toInt ≠ 3 := fun e => h3 (Int32.toInt_inj.mp (e.trans (by decide)))
  have e4 : x.toInt ≠ 4 := fun e => h4 (Int32.toInt_inj.mp (e.trans (by decide)))
  have e5 : x.toInt ≠ 5 := fun e => h5 (Int32.toInt_inj.mp (e.trans (by decide)))
  have e6 : x.toInt ≠ 6 := fun e => h6 (Int32.toInt_inj.mp (e.trans (by decide)))
  omega
theorem x_out16 {x : Int32} (h0 : ¬ x = 0) (h1 : ¬ x = 1) (h2 : ¬ x = 2) (h3 : ¬ x = 3) (h4 : ¬ x = 4) (h5 : ¬ x = 5) (h6 : ¬ x = 6) (h7 : ¬ x = 7) (h8 : ¬ x = 8) (h9 : ¬ x = 9) (h10 : ¬ x = 10) (h11 : ¬ x = 11) (h12 : ¬ x = 12) (h13 : ¬ x = 13) (h14 : ¬ x = 14) (h15 : ¬ x = 15) : x.toInt < 0 ∨ 15 < x.toInt := by
  have e0 : x.toInt ≠ 0 := fun e => h0 (Int32.toInt_inj.mp (e.trans (by decide)))
  have e1 : x.toInt ≠ 1 := fun e => h1 (Int32.toInt_inj.mp (e.trans (by decide)))
  have e2 : x.toInt ≠ 2 := fun e => h2 (Int32.toInt_inj.mp (e.trans (by decide)))
  have e3 : x.toInt ≠ 3 := fun e => h3 (Int32.toInt_inj.mp (e.trans (by decide)))
  have e4 : x.toInt ≠ 4 := fun e => h4 (Int32.toInt_inj.mp (e.trans (by decide)))
  have e5 : x.toInt ≠ 5 := fun e => h5 (Int32.toInt_inj.mp (e.trans (by decide)))
  have e6 : x.toInt ≠ 6 := fun e => h6 (Int32.toInt_inj.mp (e.trans (by decide)))
  have e7 : x.toInt ≠ 7 := fun e => h7 (Int32.toInt_inj.mp (e.trans (by decide)))
  have e8 : x.toInt ≠ 8 := fun e => h8 (Int32.toInt_inj.mp (e.trans (by decide)))
  have e9 : x.toInt ≠ 9 := fun e => h9 (Int32.toInt_inj.mp (e.trans (by decide)))
  have e10 : x.toInt ≠ 10 := fun e => h10 (Int32.toInt_inj.mp (e.trans (by decide)))
  have e11 : x.toInt ≠ 11 := fun e => h11 (Int32.toInt_inj.mp (e.trans (by decide)))
  have e12 : x.toInt ≠ 12 := fun e => h12 (Int32.toInt_inj.mp (e.trans (by decide)))
  have e13 : x.toInt ≠ 13 := fun e => h13 (Int32.toInt_inj.mp (e.trans (by decide)))
  have e14 : x.toInt ≠ 14 := fun e => h14 (Int32.toInt_inj.mp (e.trans (by decide)))
  have e15 : x.toInt ≠ 15 := fun e => h15 (Int32.toInt_inj.mp (e.trans (by decide)))
  omega
theorem x_put_self (z : x_St) (k j : Nat) (v : Int32) : (x_put z k j v).1 k = upd (z.1 k) j v := va_up_self _ _ _
theorem x_put_ne (z : x_St) {k i : Nat} (j : Nat) (v : Int32) (h : i ≠ k) : (x_put z k j v).1 i = z.1 i := va_up_ne _ _ h
theorem x_putL_self (z : x_St) (k j : Nat) (v : Int64) : (x_putL z k j v).2 k = vp_updL (z.2 k) j v := va_up_self _ _ _
theorem x_putL_ne (z : x_St) {k i : Nat} (j : Nat) (v : Int64) (h : i ≠ k) : (x_putL z k j v).2 i = z.2 i := va_up_ne _ _ h
/-! A WORLD: so many cells, each by its number, and others beside them -/
def w_Wd (cf : Nat → (Nat → Int32) → (Nat → Int64) → va_E) (tot : Nat) (ad : Nat → Nat) (rs : va_W) (z : x_St) : va_W := (List.range tot).map (fun k => (ad k, cf k (z.1 k) (z.2 k))) ++ rs
theorem w_get {cf : Nat → (Nat → Int32) → (Nat → Int64) → va_E} {tot : Nat} {ad : Nat → Nat} {rs : va_W} {z : x_St} {k : Nat} (hk : k < tot) : (w_Wd cf tot ad rs z)[k]? = some (ad k, cf k (z.1 k) (z.2 k)) := by
  unfold w_Wd
  rw [List.getElem?_append_left (by simpa using hk), List.getElem?_map, List.getElem?_range hk]
  rfl
theorem w_out {cf : Nat → (Nat → Int32) → (Nat → Int64) → va_E} {tot : Nat} {ad : Nat → Nat} {rs : va_W} {z : x_St} {k : Nat} (hk : ¬ k < tot) : (w_Wd cf tot ad rs z)[k]? = rs[k - tot]? := by
  unfold w_Wd
  rw [List.getElem?_append_right (by simpa using Nat.not_lt.mp hk)]
  simp
theorem w_len {cf : Nat → (Nat → Int32) → (Nat → Int64) → va_E} {tot : Nat} {ad : Nat → Nat} {rs : va_W} {z : x_St} : (w_Wd cf tot ad rs z).length = tot + rs.length := by
  unfold w_Wd
  simp
theorem w_set {cf : Nat → (Nat → Int32) → (Nat → Int64) → va_E} {tot : Nat} {ad : Nat → Nat} {rs : va_W} {k : Nat} {e : va_E} (z z' : x_St) (hk : k < tot) (he : e = cf k (z'.1 k) (z'.2 k)) (h1 : ∀ j, j ≠ k → z'.1 j = z.1 j) (h2 : ∀ j, j ≠ k → z'.2 j = z.2 j) : (w_Wd cf tot ad rs z).set k (ad k, e) = w_Wd cf tot ad rs z' := by
  apply List.ext_getElem?
  intro j
  by_cases hj : j = k
  · subst hj
    rw [List.getElem?_set_self (by rw [w_len]; omega), w_get hk, he]
  · rw [List.getElem?_set_ne (Ne.symm hj)]
    by_cases hb : j < tot
    · rw [w_get hb, w_get hb, h1 j hj, h2 j hj]
    · rw [w_out hb, w_out hb]
/-! THE SURROUNDINGS: class numbers, slots, array classes, addresses, how many blocks, where the old heap ends, the other cells -/
abbrev x_G : Type := (Nat → ClassId) × (Nat → Nat → Nat) × (Nat → ClassId) × (Nat → Nat) × Nat × Nat × va_W
abbrev x_D (G : x_G) : va_G := (G.1, G.2.1)
abbrev x_ca (G : x_G) : Nat → ClassId := G.2.2.1
abbrev x_ad (G : x_G) : Nat → Nat := G.2.2.2.1
abbrev x_n (G : x_G) : Nat := G.2.2.2.2.1
abbrev x_s0 (G : x_G) : Nat := G.2.2.2.2.2.1
abbrev x_rs (G : x_G) : va_W := G.2.2.2.2.2.2
def x_A (G : x_G) : Nat → Prop := fun q => x_s0 G ≤ q

/-! ===== the calls that change ===== -/
def xs7 (x0 x1 x2 x3 x4 x5 x6 : Nat) (k : Nat) : Nat := ([x0, x1, x2, x3, x4, x5, x6] : List Nat).getD k 0
theorem k7 {k : Nat} (hk : k < 7) : k = 0 ∨ k = 1 ∨ k = 2 ∨ k = 3 ∨ k = 4 ∨ k = 5 ∨ k = 6 := by omega
def upg (g : Nat → Nat → Nat) (d : Nat) (x : Nat → Nat) : Nat → Nat → Nat := fun d' k => if d' = d then x k else g d' k
theorem upg_s (g : Nat → Nat → Nat) (d : Nat) (x : Nat → Nat) (k : Nat) : upg g d x d k = x k := if_pos rfl
theorem upg_n (g : Nat → Nat → Nat) {d d' : Nat} (h : ¬ d' = d) (x : Nat → Nat) (k : Nat) : upg g d x d' k = g d' k := if_neg h
theorem e_isFull {n : Nat} (hn : n ≤ 20) {Q : Int32 → Prop} : p_X3_isFull (nI n) Q ↔ (n < 20 → Q (nI 0)) ∧ (¬ n < 20 → Q (nI 1)) := by
  unfold p_X3_isFull
  simp (disch := omega) only [li_0, li_1, li_2, li_3, li_4, li_5, li_6, li_7, li_8, li_9, li_10, li_11, li_12, li_13, li_14, li_15, li_16, li_20, li_26, li_31, li_32, li_36, li_42, li_43, li_48, li_52, li_57, li_58, li_59, li_60, li_63, li_97, li_99, li_104, li_112, li_115, li_119, li_140, li_141, li_142, li_143, li_144, li_145, li_146, li_147, li_148, li_149, li_150, li_151, li_152, li_255, li_303, li_455, li_999, li_1000, li_1510, li_1820, li_2275, li_9999, li_10000, li_100000, li_1048575, li_100000000, nI_ltI]
theorem e_addOffered {v : Nat → Int32} {n : Nat} (hn : n < 20) {Q : Int32 → (Nat → Int32) → Int32 → Prop} : p_X3_addOffered v (nI n) Q ↔ Q (nI n) (upd v (n * 7 + 6) (nI 1)) (nI (n + 1)) := by
  have hv : n * 7 + 6 < 140 := by omega
  have e1 : nI (n + 1) - nI 1 = nI n := by rw [pk_sub (by omega)]; rfl
  unfold p_X3_addOffered
  simp (disch := omega) only [li_0, li_1, li_2, li_3, li_4, li_5, li_6, li_7, li_8, li_9, li_10, li_11, li_12, li_13, li_14, li_15, li_16, li_20, li_26, li_31, li_32, li_36, li_42, li_43, li_48, li_52, li_57, li_58, li_59, li_60, li_63, li_97, li_99, li_104, li_112, li_115, li_119, li_140, li_141, li_142, li_143, li_144, li_145, li_146, li_147, li_148, li_149, li_150, li_151, li_152, li_255, li_303, li_455, li_999, li_1000, li_1510, li_1820, li_2275, li_9999, li_10000, li_100000, li_1048575, li_100000000, e_isFull, hn, nI_eqI, pk_mul, nI_add, vp_t, nI_clamp, hv, e1, true_and, and_true, not_true_eq_false, not_false_eq_true, true_imp_iff, false_imp_iff, false_and, and_false, imp_false, Classical.not_not, Bool.false_eq_true, Nat.zero_ne_one, Nat.one_ne_zero, Nat.not_lt_zero, if_true, if_false, implies_true]
theorem e_drop {v : Nat → Int32} {n d : Nat} (hn : n ≤ 20) (hd : d < n) {Q : (Nat → Int32) → Int32 → Prop} : p_X3_drop v (nI n) (nI d) Q ↔ Q (va_cpy v v ((d + 1) * 7) (d * 7) (n * 7 - (d + 1) * 7)) (nI (n - 1)) := by
  have e : ∃ x, x < n ∧ nI d = nI x := ⟨d, hd, rfl⟩
  have z : ∀ x, x < 200 → (¬ nI x < nI 0) := fun x hx => nI_pos (by omega)
  have h1 : (d + 1) * 7 + (n * 7 - (d + 1) * 7) ≤ 140 := by omega
  have h2 : d * 7 + (n * 7 - (d + 1) * 7) ≤ 140 := by omega
  have z1 := z ((d + 1) * 7) (by omega)
  have z2 := z (d * 7) (by omega)
  have z3 := z (n * 7 - (d + 1) * 7) (by omega)
  unfold p_X3_drop
  simp (disch := omega) only [li_0, li_1, li_2, li_3, li_4, li_5, li_6, li_7, li_8, li_9, li_10, li_11, li_12, li_13, li_14, li_15, li_16, li_20, li_26, li_31, li_32, li_36, li_42, li_43, li_48, li_52, li_57, li_58, li_59, li_60, li_63, li_97, li_99, li_104, li_112, li_115, li_119, li_140, li_141, li_142, li_143, li_144, li_145, li_146, li_147, li_148, li_149, li_150, li_151, li_152, li_255, li_303, li_455, li_999, li_1000, li_1510, li_1820, li_2275, li_9999, li_10000, li_100000, li_1048575, li_100000000, e_hasDish, e, nI_eqI, nI_add, pk_mul, pk_sub, nI_clamp, z1, z2, z3, h1, h2, true_and, and_true, not_true_eq_false, not_false_eq_true, true_imp_iff, false_imp_iff, false_and, and_false, imp_false, Classical.not_not, Bool.false_eq_true, Nat.zero_ne_one, Nat.one_ne_zero, Nat.not_lt_zero, if_true, if_false, implies_true]
theorem wy_put1 : ∀ a, a < 2 → ∀ b, b < 2 → ∀ c, c < 2 → ∀ d, d < 2 → ∀ k, k < 4 → nI (a + 2 * b + 4 * c + 8 * d) ||| (nI 1 <<< (nI k &&& nI 31)) = nI ((if 0 = k then 1 else a) + 2 * (if 1 = k then 1 else b) + 4 * (if 2 = k then 1 else c) + 8 * (if 3 = k then 1 else d)) := by decide +kernel
theorem wy_put0 : ∀ a, a < 2 → ∀ b, b < 2 → ∀ c, c < 2 → ∀ d, d < 2 → ∀ k, k < 4 → nI (a + 2 * b + 4 * c + 8 * d) &&& ((nI 1 <<< (nI k &&& nI 31)) ^^^ (-nI 1)) = nI ((if 0 = k then 0 else a) + 2 * (if 1 = k then 0 else b) + 4 * (if 2 = k then 0 else c) + 8 * (if 3 = k then 0 else d)) := by decide +kernel
theorem e_putCourse {sd : Nat → Nat} (hw : okW sd) {k x : Nat} (hk : k < 4) (hx : x ≤ 1) {Q : Int32 → Prop} : p_X3_putCourse (nI (wy sd)) (nI k) (nI x) Q ↔ Q (nI (wy (fun c => if c = k then x else sd c))) := by
  have h0 := Nat.lt_succ_of_le (hw 0 (by decide))
  have h1 := Nat.lt_succ_of_le (hw 1 (by decide))
  have h2 := Nat.lt_succ_of_le (hw 2 (by decide))
  have h3 := Nat.lt_succ_of_le (hw 3 (by decide))
  have e1 := wy_put1 _ h0 _ h1 _ h2 _ h3 k hk
  have e0 := wy_put0 _ h0 _ h1 _ h2 _ h3 k hk
  unfold p_X3_putCourse p_X3_putCourse_27
  have : x = 0 ∨ x = 1 := by omega
  rcases this with rfl | rfl
  · simp (disch := omega) only [li_0, li_1, li_2, li_3, li_4, li_5, li_6, li_7, li_8, li_9, li_10, li_11, li_12, li_13, li_14, li_15, li_16, li_20, li_26, li_31, li_32, li_36, li_42, li_43, li_48, li_52, li_57, li_58, li_59, li_60, li_63, li_97, li_99, li_104, li_112, li_115, li_119, li_140, li_141, li_142, li_143, li_144, li_145, li_146, li_147, li_148, li_149, li_150, li_151, li_152, li_255, li_303, li_455, li_999, li_1000, li_1510, li_1820, li_2275, li_9999, li_10000, li_100000, li_1048575, li_100000000, nI_eqI, wy, e0, true_and, and_true, not_true_eq_false, not_false_eq_true, true_imp_iff, false_imp_iff, false_and, and_false, imp_false, Classical.not_not, Bool.false_eq_true, Nat.zero_ne_one, Nat.one_ne_zero, Nat.not_lt_zero, if_true, if_false, implies_true]
  · simp (disch := omega) only [li_0, li_1, li_2, li_3, li_4, li_5, li_6, li_7, li_8, li_9, li_10, li_11, li_12, li_13, li_14, li_15, li_16, li_20, li_26, li_31, li_32, li_36, li_42, li_43, li_48, li_52, li_57, li_58, li_59, li_60, li_63, li_97, li_99, li_104, li_112, li_115, li_119, li_140, li_141, li_142, li_143, li_144, li_145, li_146, li_147, li_148, li_149, li_150, li_151, li_152, li_255, li_303, li_455, li_999, li_1000, li_1510, li_1820, li_2275, li_9999, li_10000, li_100000, li_1048575, li_100000000, nI_eqI, wy, e1, true_and, and_true, not_true_eq_false, not_false_eq_true, true_imp_iff, false_imp_iff, false_and, and_false, imp_false, Classical.not_not, Bool.false_eq_true, Nat.zero_ne_one, Nat.one_ne_zero, Nat.not_lt_zero, if_true, if_false, implies_true]
theorem i_findPrinted {st v : Nat → Int32} {n : Nat} {g : Nat → Nat → Nat} {s : Nat → Nat} (hv : ∀ d k, d < 20 → k < 7 → v (d * 7 + k) = nI (g d k)) (hs : ∀ k, k < 6 → st k = nI (s k)) (hg : okG n g) (ho : okS s) {D L W : Nat → Int32} {Q : (Nat → Int32) → (Nat → Int32) → (Nat → Int32) → Int32 → Int32 → Int32 → Int32 → Int32 → Prop} (h : ∀ D' L' W' set num pri all col, relP (prt g (s 2) (s 0) (s 5)) n g (s 1) D' L' W' set num pri all col → Q D' L' W' set num pri all col) : p_X8_findPrinted D L W v st (nI n) Q := by
  obtain ⟨s0, s1, s2, s3, s4, s5, s6, s7⟩ := ho.b
  unfold p_X8_findPrinted
  simp (disch := omega) only [li_0, li_1, li_2, li_3, li_4, li_5, li_6, li_7, li_8, li_9, li_10, li_11, li_12, li_13, li_14, li_15, li_16, li_20, li_26, li_31, li_32, li_36, li_42, li_43, li_48, li_52, li_57, li_58, li_59, li_60, li_63, li_97, li_99, li_104, li_112, li_115, li_119, li_140, li_141, li_142, li_143, li_144, li_145, li_146, li_147, li_148, li_149, li_150, li_151, li_152, li_255, li_303, li_455, li_999, li_1000, li_1510, li_1820, li_2275, li_9999, li_10000, li_100000, li_1048575, li_100000000, e_setting hs]
  exact i_find hv hs hg ho s0 h
theorem ps_pc (P : Nat → Bool) {n : Nat} (hn : n ≤ 20) : pc (mk P n) = ps P (fun _ => 1) n := sm_mkP P hn
theorem kk_or : ∀ a, a < 2 → ∀ b, b < 2 → ∀ k, k < 2 → nI (a + 2 * b) ||| (nI 1 <<< (nI k &&& nI 31)) = nI ((if k = 0 then 1 else a) + 2 * (if k = 1 then 1 else b)) := by decide +kernel
theorem kk_tb : ∀ a, a < 2 → ∀ b, b < 2 → tb (a + 2 * b) 0 = a ∧ tb (a + 2 * b) 1 = b := by decide +kernel

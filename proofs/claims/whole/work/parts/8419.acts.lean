/-! ===== the calls that change ===== -/
theorem relS_menu {S : sS} {pg pg' : Nat → Int32} {M : sM} (hS : relS S pg) (hM : relM M pg') (h : ∀ j, 151 ≤ j → pg' j = pg j) : relS (M, (S.2.1.1, S.2.1.2.1, S.2.1.2.2.1, S.2.1.2.2.2), (S.2.2.1.1, S.2.2.1.2.1, S.2.2.1.2.2.1, S.2.2.1.2.2.2), S.2.2.2) pg' := by
  obtain ⟨_, k0, k1, a, b, c, d, e, f0, f1⟩ := hS
  refine ⟨hM, k0, k1, a, b, ?_, ?_, e, fun q => relM_cg (fun j _ => h _ (by omega)) (f0 q), fun q => relM_cg (fun j _ => h _ (by omega)) (f1 q)⟩
  · rw [h 151 (by decide)]
    exact c
  · rw [h 303 (by decide)]
    exact d
def xs7 (x0 x1 x2 x3 x4 x5 x6 : Nat) (k : Nat) : Nat := ([x0, x1, x2, x3, x4, x5, x6] : List Nat).getD k 0
theorem k7 {k : Nat} (hk : k < 7) : k = 0 ∨ k = 1 ∨ k = 2 ∨ k = 3 ∨ k = 4 ∨ k = 5 ∨ k = 6 := by omega
theorem i_addsa {pg : Nat → Int32} {n : Nat} (hn : n < 20) (hp : pg 0 = nI n) {x0 x1 x2 x3 x4 x5 : Nat} {Q : (Nat → Int32) → Prop} (h : ∀ pg', pg' 0 = nI (n + 1) → (∀ k, k < 7 → pg' (1 + 7 * n + k) = nI (xs7 x0 x1 x2 x3 x4 x5 1 k)) → (∀ j, j ≠ 0 → ¬ (1 + 7 * n ≤ j ∧ j < 1 + 7 * n + 7) → pg' j = pg j) → Q pg') : p_X9_addsa pg (nI x0) (nI x1) (nI x2) (nI x3) (nI x4) (nI x5) Q := by
  unfold p_X9_addsa
  simp (disch := omega) only [li_0, li_1, li_2, li_3, li_4, li_5, li_6, li_7, li_8, li_9, li_10, li_11, li_12, li_13, li_14, li_15, li_16, li_20, li_26, li_31, li_32, li_36, li_42, li_43, li_48, li_52, li_57, li_58, li_59, li_60, li_63, li_97, li_99, li_104, li_112, li_115, li_119, li_140, li_141, li_142, li_143, li_144, li_145, li_146, li_147, li_148, li_149, li_150, li_151, li_152, li_255, li_303, li_455, li_999, li_1000, li_1510, li_1820, li_2275, li_9999, li_10000, li_100000, li_1048575, li_100000000, nI_clamp, hp, pk_mul, nI_add, vp_t]
  refine ⟨by omega, by omega, by omega, by omega, by omega, by omega, by omega, by omega, by omega, by omega, ?_⟩
  refine h _ ?_ ?_ ?_
  · rw [pk_us]
    simp (disch := omega) only [pk_un, hp, nI_add]
  · intro k hk
    rcases k7 hk with rfl | rfl | rfl | rfl | rfl | rfl | rfl
    all_goals simp (disch := omega) only [pk_un, pk_us]
    all_goals rfl
  · intro j hj hj2
    simp (disch := omega) only [pk_un]
def upg (g : Nat → Nat → Nat) (d : Nat) (x : Nat → Nat) : Nat → Nat → Nat := fun d' k => if d' = d then x k else g d' k
theorem upg_s (g : Nat → Nat → Nat) (d : Nat) (x : Nat → Nat) (k : Nat) : upg g d x d k = x k := if_pos rfl
theorem upg_n (g : Nat → Nat → Nat) {d d' : Nat} (h : ¬ d' = d) (x : Nat → Nat) (k : Nat) : upg g d x d' k = g d' k := if_neg h
theorem relM_add {n : Nat} {g : Nat → Nat → Nat} {s sd : Nat → Nat} {v st : Nat → Int32} {dn w : Int32} {pg pg' : Nat → Int32} (hg : okG n g) (ho : okS s) (hw : okW sd) (C : relC n g s sd v st dn w) (R : relR n g s sd pg) (hn : n < 20) {x0 x1 x2 x3 x4 x5 : Nat} (c0 : x0 ≤ 3) (c1 : x1 ≤ 99) (c2 : 1 ≤ x2 ∧ x2 ≤ 9999) (c3 : x3 ≤ 15) (c4 : x4 ≤ 255) (c5 : x5 ≤ 5) (p0 : pg' 0 = nI (n + 1)) (p1 : ∀ k, k < 7 → pg' (1 + 7 * n + k) = nI (xs7 x0 x1 x2 x3 x4 x5 1 k)) (p2 : ∀ j, j ≠ 0 → ¬ (1 + 7 * n ≤ j ∧ j < 1 + 7 * n + 7) → pg' j = pg j) : relM (upd (upd (upd (upd (upd (upd (upd v (n * 7 + 6) (nI 1)) (n * 7 + 0) (nI x0)) (n * 7 + 1) (nI x1)) (n * 7 + 2) (nI x2)) (n * 7 + 3) (nI x3)) (n * 7 + 4) (nI x4)) (n * 7 + 5) (nI x5), st, nI (n + 1), w) pg' := by
  refine ⟨n + 1, upg g n (xs7 x0 x1 x2 x3 x4 x5 1), s, sd, ⟨by omega, ?_, ?_⟩, ho, hw, ⟨rfl, ?_, C.2.2.1, C.2.2.2⟩, ⟨p0, ?_, ?_, ?_⟩⟩
  · intro d k hd hk
    by_cases e : d = n
    · subst e
      rw [upg_s]
      rcases k7 hk with rfl | rfl | rfl | rfl | rfl | rfl | rfl
      · exact c0
      · exact c1
      · exact c2.2
      · exact c3
      · exact c4
      · exact c5
      · exact Nat.le_refl 1
    · rw [upg_n g e]
      exact hg.2.1 d k hd hk
  · intro d hd
    by_cases e : d = n
    · subst e
      rw [upg_s]
      exact c2.1
    · rw [upg_n g e]
      exact hg.2.2 d (by omega)
  · intro d k hd hk
    show upd (upd (upd (upd (upd (upd (upd v (n * 7 + 6) (nI 1)) (n * 7 + 0) (nI x0)) (n * 7 + 1) (nI x1)) (n * 7 + 2) (nI x2)) (n * 7 + 3) (nI x3)) (n * 7 + 4) (nI x4)) (n * 7 + 5) (nI x5) (d * 7 + k) = _
    by_cases e : d = n
    · subst e
      rw [upg_s]
      rcases k7 hk with rfl | rfl | rfl | rfl | rfl | rfl | rfl
      all_goals simp (disch := omega) only [pk_un, pk_us]
      all_goals rfl
    · rw [upg_n g e, pk_un (by omega), pk_un (by omega), pk_un (by omega), pk_un (by omega), pk_un (by omega), pk_un (by omega), pk_un (by omega)]
      exact C.2.1 d k hd hk
  · intro d k hd hk
    by_cases e : d = n
    · subst e
      rw [upg_s]
      exact p1 k hk
    · rw [upg_n g e, p2 _ (by omega) (by omega)]
      exact R.2.1 d k hd hk
  · intro k hk
    rw [p2 _ (by omega) (by omega)]
    exact R.2.2.1 k hk
  · intro c hc
    rw [p2 _ (by omega) (by omega)]
    exact R.2.2.2 c hc
theorem e_isFull {n : Nat} (hn : n ≤ 20) {Q : Int32 → Prop} : p_X3_isFull (nI n) Q ↔ (n < 20 → Q (nI 0)) ∧ (¬ n < 20 → Q (nI 1)) := by
  unfold p_X3_isFull
  simp (disch := omega) only [li_0, li_1, li_2, li_3, li_4, li_5, li_6, li_7, li_8, li_9, li_10, li_11, li_12, li_13, li_14, li_15, li_16, li_20, li_26, li_31, li_32, li_36, li_42, li_43, li_48, li_52, li_57, li_58, li_59, li_60, li_63, li_97, li_99, li_104, li_112, li_115, li_119, li_140, li_141, li_142, li_143, li_144, li_145, li_146, li_147, li_148, li_149, li_150, li_151, li_152, li_255, li_303, li_455, li_999, li_1000, li_1510, li_1820, li_2275, li_9999, li_10000, li_100000, li_1048575, li_100000000, nI_ltI]
theorem e_addOffered {v : Nat → Int32} {n : Nat} (hn : n < 20) {Q : Int32 → (Nat → Int32) → Int32 → Prop} : p_X3_addOffered v (nI n) Q ↔ Q (nI n) (upd v (n * 7 + 6) (nI 1)) (nI (n + 1)) := by
  have hv : n * 7 + 6 < 140 := by omega
  have e1 : nI (n + 1) - nI 1 = nI n := by rw [pk_sub (by omega)]; rfl
  unfold p_X3_addOffered
  simp (disch := omega) only [li_0, li_1, li_2, li_3, li_4, li_5, li_6, li_7, li_8, li_9, li_10, li_11, li_12, li_13, li_14, li_15, li_16, li_20, li_26, li_31, li_32, li_36, li_42, li_43, li_48, li_52, li_57, li_58, li_59, li_60, li_63, li_97, li_99, li_104, li_112, li_115, li_119, li_140, li_141, li_142, li_143, li_144, li_145, li_146, li_147, li_148, li_149, li_150, li_151, li_152, li_255, li_303, li_455, li_999, li_1000, li_1510, li_1820, li_2275, li_9999, li_10000, li_100000, li_1048575, li_100000000, e_isFull, hn, nI_eqI, pk_mul, nI_add, vp_t, nI_clamp, hv, e1, true_and, and_true, not_true_eq_false, not_false_eq_true, true_imp_iff, false_imp_iff, false_and, and_false, imp_false, Classical.not_not, Bool.false_eq_true, Nat.zero_ne_one, Nat.one_ne_zero, Nat.not_lt_zero, if_true, if_false, implies_true]
theorem l_addDish : lawS_0 Rel := by
  unfold lawS_0
  intro S h hz rt rl pg hist st mt ml hR a1 a2 a3 a4 a5 a6
  obtain ⟨hS, ⟨z, rfl, rfl, hH⟩, hT⟩ := hR
  have hR : Rel S h (nI z) rt rl pg hist (nI z) mt ml := ⟨hS, ⟨z, rfl, rfl, hH⟩, hT⟩
  have hz5 := hH.1
  obtain ⟨hM, k0, k1, hk0, hk1, p151, p303, hkk, f0, f1⟩ := id hS
  obtain ⟨n, g, s, sd, hg, ho, hw, ⟨cn, cv, cst, cw⟩, hRR⟩ := id hM
  obtain ⟨rn, rv, rst, rsd⟩ := id hRR
  have hn := hg.1
  unfold p_X8_addDish p_X9_addDish
  by_cases c0 : okD (nI 0) a1
  rotate_left
  · simp (disch := omega) only [li_0, li_1, li_2, li_3, li_4, li_5, li_6, li_7, li_8, li_9, li_10, li_11, li_12, li_13, li_14, li_15, li_16, li_20, li_26, li_31, li_32, li_36, li_42, li_43, li_48, li_52, li_57, li_58, li_59, li_60, li_63, li_97, li_99, li_104, li_112, li_115, li_119, li_140, li_141, li_142, li_143, li_144, li_145, li_146, li_147, li_148, li_149, li_150, li_151, li_152, li_255, li_303, li_455, li_999, li_1000, li_1510, li_1820, li_2275, li_9999, li_10000, li_100000, li_1048575, li_100000000, e_isDishValue, e_isIn, nI_eqI, c0, true_and, and_true, not_true_eq_false, not_false_eq_true, true_imp_iff, false_imp_iff, false_and, and_false, imp_false, Classical.not_not, Bool.false_eq_true, Nat.zero_ne_one, Nat.one_ne_zero, Nat.not_lt_zero, if_true, if_false, implies_true]
    unfold p_X9_addDish_55 p_X9_addDish_56
    simp (disch := omega) only [li_0, li_1, li_2, li_3, li_4, li_5, li_6, li_7, li_8, li_9, li_10, li_11, li_12, li_13, li_14, li_15, li_16, li_20, li_26, li_31, li_32, li_36, li_42, li_43, li_48, li_52, li_57, li_58, li_59, li_60, li_63, li_97, li_99, li_104, li_112, li_115, li_119, li_140, li_141, li_142, li_143, li_144, li_145, li_146, li_147, li_148, li_149, li_150, li_151, li_152, li_255, li_303, li_455, li_999, li_1000, li_1510, li_1820, li_2275, li_9999, li_10000, li_100000, li_1048575, li_100000000, nI_eqI, true_and, and_true, not_true_eq_false, not_false_eq_true, true_imp_iff, false_imp_iff, false_and, and_false, imp_false, Classical.not_not, Bool.false_eq_true, Nat.zero_ne_one, Nat.one_ne_zero, Nat.not_lt_zero, if_true, if_false, implies_true]
    exact hR
  by_cases c1 : okD (nI 1) a2
  rotate_left
  · simp (disch := omega) only [li_0, li_1, li_2, li_3, li_4, li_5, li_6, li_7, li_8, li_9, li_10, li_11, li_12, li_13, li_14, li_15, li_16, li_20, li_26, li_31, li_32, li_36, li_42, li_43, li_48, li_52, li_57, li_58, li_59, li_60, li_63, li_97, li_99, li_104, li_112, li_115, li_119, li_140, li_141, li_142, li_143, li_144, li_145, li_146, li_147, li_148, li_149, li_150, li_151, li_152, li_255, li_303, li_455, li_999, li_1000, li_1510, li_1820, li_2275, li_9999, li_10000, li_100000, li_1048575, li_100000000, e_isDishValue, e_isIn, nI_eqI, c0, c1, true_and, and_true, not_true_eq_false, not_false_eq_true, true_imp_iff, false_imp_iff, false_and, and_false, imp_false, Classical.not_not, Bool.false_eq_true, Nat.zero_ne_one, Nat.one_ne_zero, Nat.not_lt_zero, if_true, if_false, implies_true]
    unfold p_X9_addDish_55 p_X9_addDish_56
    simp (disch := omega) only [li_0, li_1, li_2, li_3, li_4, li_5, li_6, li_7, li_8, li_9, li_10, li_11, li_12, li_13, li_14, li_15, li_16, li_20, li_26, li_31, li_32, li_36, li_42, li_43, li_48, li_52, li_57, li_58, li_59, li_60, li_63, li_97, li_99, li_104, li_112, li_115, li_119, li_140, li_141, li_142, li_143, li_144, li_145, li_146, li_147, li_148, li_149, li_150, li_151, li_152, li_255, li_303, li_455, li_999, li_1000, li_1510, li_1820, li_2275, li_9999, li_10000, li_100000, li_1048575, li_100000000, nI_eqI, true_and, and_true, not_true_eq_false, not_false_eq_true, true_imp_iff, false_imp_iff, false_and, and_false, imp_false, Classical.not_not, Bool.false_eq_true, Nat.zero_ne_one, Nat.one_ne_zero, Nat.not_lt_zero, if_true, if_false, implies_true]
    exact hR
  by_cases c2 : okD (nI 2) a3
  rotate_left
  · simp (disch := omega) only [li_0, li_1, li_2, li_3, li_4, li_5, li_6, li_7, li_8, li_9, li_10, li_11, li_12, li_13, li_14, li_15, li_16, li_20, li_26, li_31, li_32, li_36, li_42, li_43, li_48, li_52, li_57, li_58, li_59, li_60, li_63, li_97, li_99, li_104, li_112, li_115, li_119, li_140, li_141, li_142, li_143, li_144, li_145, li_146, li_147, li_148, li_149, li_150, li_151, li_152, li_255, li_303, li_455, li_999, li_1000, li_1510, li_1820, li_2275, li_9999, li_10000, li_100000, li_1048575, li_100000000, e_isDishValue, e_isIn, nI_eqI, c0, c1, c2, true_and, and_true, not_true_eq_false, not_false_eq_true, true_imp_iff, false_imp_iff, false_and, and_false, imp_false, Classical.not_not, Bool.false_eq_true, Nat.zero_ne_one, Nat.one_ne_zero, Nat.not_lt_zero, if_true, if_false, implies_true]
    unfold p_X9_addDish_55 p_X9_addDish_56
    simp (disch := omega) only [li_0, li_1, li_2, li_3, li_4, li_5, li_6, li_7, li_8, li_9, li_10, li_11, li_12, li_13, li_14, li_15, li_16, li_20, li_26, li_31, li_32, li_36, li_42, li_43, li_48, li_52, li_57, li_58, li_59, li_60, li_63, li_97, li_99, li_104, li_112, li_115, li_119, li_140, li_141, li_142, li_143, li_144, li_145, li_146, li_147, li_148, li_149, li_150, li_151, li_152, li_255, li_303, li_455, li_999, li_1000, li_1510, li_1820, li_2275, li_9999, li_10000, li_100000, li_1048575, li_100000000, nI_eqI, true_and, and_true, not_true_eq_false, not_false_eq_true, true_imp_iff, false_imp_iff, false_and, and_false, imp_false, Classical.not_not, Bool.false_eq_true, Nat.zero_ne_one, Nat.one_ne_zero, Nat.not_lt_zero, if_true, if_false, implies_true]
    exact hR
  by_cases c3 : okD (nI 3) a4
  rotate_left
  · simp (disch := omega) only [li_0, li_1, li_2, li_3, li_4, li_5, li_6, li_7, li_8, li_9, li_10, li_11, li_12, li_13, li_14, li_15, li_16, li_20, li_26, li_31, li_32, li_36, li_42, li_43, li_48, li_52, li_57, li_58, li_59, li_60, li_63, li_97, li_99, li_104, li_112, li_115, li_119, li_140, li_141, li_142, li_143, li_144, li_145, li_146, li_147, li_148, li_149, li_150, li_151, li_152, li_255, li_303, li_455, li_999, li_1000, li_1510, li_1820, li_2275, li_9999, li_10000, li_100000, li_1048575, li_100000000, e_isDishValue, e_isIn, nI_eqI, c0, c1, c2, c3, true_and, and_true, not_true_eq_false, not_false_eq_true, true_imp_iff, false_imp_iff, false_and, and_false, imp_false, Classical.not_not, Bool.false_eq_true, Nat.zero_ne_one, Nat.one_ne_zero, Nat.not_lt_zero, if_true, if_false, implies_true]
    unfold p_X9_addDish_55 p_X9_addDish_56
    simp (disch := omega) only [li_0, li_1, li_2, li_3, li_4, li_5, li_6, li_7, li_8, li_9, li_10, li_11, li_12, li_13, li_14, li_15, li_16, li_20, li_26, li_31, li_32, li_36, li_42, li_43, li_48, li_52, li_57, li_58, li_59, li_60, li_63, li_97, li_99, li_104, li_112, li_115, li_119, li_140, li_141, li_142, li_143, li_144, li_145, li_146, li_147, li_148, li_149, li_150, li_151, li_152, li_255, li_303, li_455, li_999, li_1000, li_1510, li_1820, li_2275, li_9999, li_10000, li_100000, li_1048575, li_100000000, nI_eqI, true_and, and_true, not_true_eq_false, not_false_eq_true, true_imp_iff, false_imp_iff, false_and, and_false, imp_false, Classical.not_not, Bool.false_eq_true, Nat.zero_ne_one, Nat.one_ne_zero, Nat.not_lt_zero, if_true, if_false, implies_true]
    exact hR
  by_cases c4 : okD (nI 4) a5
  rotate_left
  · simp (disch := omega) only [li_0, li_1, li_2, li_3, li_4, li_5, li_6, li_7, li_8, li_9, li_10, li_11, li_12, li_13, li_14, li_15, li_16, li_20, li_26, li_31, li_32, li_36, li_42, li_43, li_48, li_52, li_57, li_58, li_59, li_60, li_63, li_97, li_99, li_104, li_112, li_115, li_119, li_140, li_141, li_142, li_143, li_144, li_145, li_146, li_147, li_148, li_149, li_150, li_151, li_152, li_255, li_303, li_455, li_999, li_1000, li_1510, li_1820, li_2275, li_9999, li_10000, li_100000, li_1048575, li_100000000, e_isDishValue, e_isIn, nI_eqI, c0, c1, c2, c3, c4, true_and, and_true, not_true_eq_false, not_false_eq_true, true_imp_iff, false_imp_iff, false_and, and_false, imp_false, Classical.not_not, Bool.false_eq_true, Nat.zero_ne_one, Nat.one_ne_zero, Nat.not_lt_zero, if_true, if_false, implies_true]
    unfold p_X9_addDish_55 p_X9_addDish_56
    simp (disch := omega) only [li_0, li_1, li_2, li_3, li_4, li_5, li_6, li_7, li_8, li_9, li_10, li_11, li_12, li_13, li_14, li_15, li_16, li_20, li_26, li_31, li_32, li_36, li_42, li_43, li_48, li_52, li_57, li_58, li_59, li_60, li_63, li_97, li_99, li_104, li_112, li_115, li_119, li_140, li_141, li_142, li_143, li_144, li_145, li_146, li_147, li_148, li_149, li_150, li_151, li_152, li_255, li_303, li_455, li_999, li_1000, li_1510, li_1820, li_2275, li_9999, li_10000, li_100000, li_1048575, li_100000000, nI_eqI, true_and, and_true, not_true_eq_false, not_false_eq_true, true_imp_iff, false_imp_iff, false_and, and_false, imp_false, Classical.not_not, Bool.false_eq_true, Nat.zero_ne_one, Nat.one_ne_zero, Nat.not_lt_zero, if_true, if_false, implies_true]
    exact hR
  by_cases c5 : okD (nI 5) a6
  rotate_left
  · simp (disch := omega) only [li_0, li_1, li_2, li_3, li_4, li_5, li_6, li_7, li_8, li_9, li_10, li_11, li_12, li_13, li_14, li_15, li_16, li_20, li_26, li_31, li_32, li_36, li_42, li_43, li_48, li_52, li_57, li_58, li_59, li_60, li_63, li_97, li_99, li_104, li_112, li_115, li_119, li_140, li_141, li_142, li_143, li_144, li_145, li_146, li_147, li_148, li_149, li_150, li_151, li_152, li_255, li_303, li_455, li_999, li_1000, li_1510, li_1820, li_2275, li_9999, li_10000, li_100000, li_1048575, li_100000000, e_isDishValue, e_isIn, nI_eqI, c0, c1, c2, c3, c4, c5, true_and, and_true, not_true_eq_false, not_false_eq_true, true_imp_iff, false_imp_iff, false_and, and_false, imp_false, Classical.not_not, Bool.false_eq_true, Nat.zero_ne_one, Nat.one_ne_zero, Nat.not_lt_zero, if_true, if_false, implies_true]
    unfold p_X9_addDish_55 p_X9_addDish_56
    simp (disch := omega) only [li_0, li_1, li_2, li_3, li_4, li_5, li_6, li_7, li_8, li_9, li_10, li_11, li_12, li_13, li_14, li_15, li_16, li_20, li_26, li_31, li_32, li_36, li_42, li_43, li_48, li_52, li_57, li_58, li_59, li_60, li_63, li_97, li_99, li_104, li_112, li_115, li_119, li_140, li_141, li_142, li_143, li_144, li_145, li_146, li_147, li_148, li_149, li_150, li_151, li_152, li_255, li_303, li_455, li_999, li_1000, li_1510, li_1820, li_2275, li_9999, li_10000, li_100000, li_1048575, li_100000000, nI_eqI, true_and, and_true, not_true_eq_false, not_false_eq_true, true_imp_iff, false_imp_iff, false_and, and_false, imp_false, Classical.not_not, Bool.false_eq_true, Nat.zero_ne_one, Nat.one_ne_zero, Nat.not_lt_zero, if_true, if_false, implies_true]
    exact hR
  obtain ⟨x0, l0, u0, rfl⟩ := (okD_k (by decide)).1 c0
  obtain ⟨x1, l1, u1, rfl⟩ := (okD_k (by decide)).1 c1
  obtain ⟨x2, l2, u2, rfl⟩ := (okD_k (by decide)).1 c2
  obtain ⟨x3, l3, u3, rfl⟩ := (okD_k (by decide)).1 c3
  obtain ⟨x4, l4, u4, rfl⟩ := (okD_k (by decide)).1 c4
  obtain ⟨x5, l5, u5, rfl⟩ := (okD_k (by decide)).1 c5
  simp (disch := omega) only [li_0, li_1, li_2, li_3, li_4, li_5, li_6, li_7, li_8, li_9, li_10, li_11, li_12, li_13, li_14, li_15, li_16, li_20, li_26, li_31, li_32, li_36, li_42, li_43, li_48, li_52, li_57, li_58, li_59, li_60, li_63, li_97, li_99, li_104, li_112, li_115, li_119, li_140, li_141, li_142, li_143, li_144, li_145, li_146, li_147, li_148, li_149, li_150, li_151, li_152, li_255, li_303, li_455, li_999, li_1000, li_1510, li_1820, li_2275, li_9999, li_10000, li_100000, li_1048575, li_100000000, e_isDishValue, e_isIn, nI_eqI, c0, c1, c2, c3, c4, c5, cn, e_isFull, true_and, and_true, not_true_eq_false, not_false_eq_true, true_imp_iff, false_imp_iff, false_and, and_false, imp_false, Classical.not_not, Bool.false_eq_true, Nat.zero_ne_one, Nat.one_ne_zero, Nat.not_lt_zero, if_true, if_false, implies_true]
  refine ⟨fun hf => ?_, fun hf => ?_⟩
  · refine i_record hz5 ?_
    intro h' hpc
    simp (disch := omega) only [e_addOffered, e_change, c0, c1, c2, c3, c4, c5]
    unfold p_X9_addDish_56
    have hn20 : ¬ n = 20 := by omega
    simp (disch := omega) only [li_0, li_1, li_2, li_3, li_4, li_5, li_6, li_7, li_8, li_9, li_10, li_11, li_12, li_13, li_14, li_15, li_16, li_20, li_26, li_31, li_32, li_36, li_42, li_43, li_48, li_52, li_57, li_58, li_59, li_60, li_63, li_97, li_99, li_104, li_112, li_115, li_119, li_140, li_141, li_142, li_143, li_144, li_145, li_146, li_147, li_148, li_149, li_150, li_151, li_152, li_255, li_303, li_455, li_999, li_1000, li_1510, li_1820, li_2275, li_9999, li_10000, li_100000, li_1048575, li_100000000, nI_eqI, vp_t, nI_clamp, rn, hn20, Nat.reduceLT, true_and, and_true, not_true_eq_false, not_false_eq_true, true_imp_iff, false_imp_iff, false_and, and_false, imp_false, Classical.not_not, Bool.false_eq_true, Nat.zero_ne_one, Nat.one_ne_zero, Nat.not_lt_zero, if_true, if_false, implies_true]
    refine i_keep hz5 ?_
    intro hist' hpr
    refine i_addsa hf rn ?_
    intro pg' p0 p1 p2
    refine ⟨?_, ?_, ⟨_, rfl, rfl, relH_push hH hS hpc hpr⟩, hT⟩
    · rw [p0, pk_sub (by omega)]
      rfl
    · exact relS_menu hS (relM_add hg ho hw ⟨cn, cv, cst, cw⟩ hRR hf u0 u1 ⟨l2, u2⟩ u3 u4 u5 p0 p1 p2) (fun j hj => p2 j (by omega) (by omega))
  · unfold p_X9_addDish_56
    have hn20 : n = 20 := by omega
    simp (disch := omega) only [li_0, li_1, li_2, li_3, li_4, li_5, li_6, li_7, li_8, li_9, li_10, li_11, li_12, li_13, li_14, li_15, li_16, li_20, li_26, li_31, li_32, li_36, li_42, li_43, li_48, li_52, li_57, li_58, li_59, li_60, li_63, li_97, li_99, li_104, li_112, li_115, li_119, li_140, li_141, li_142, li_143, li_144, li_145, li_146, li_147, li_148, li_149, li_150, li_151, li_152, li_255, li_303, li_455, li_999, li_1000, li_1510, li_1820, li_2275, li_9999, li_10000, li_100000, li_1048575, li_100000000, nI_eqI, vp_t, nI_clamp, rn, hn20, Nat.reduceLT, true_and, and_true, not_true_eq_false, not_false_eq_true, true_imp_iff, false_imp_iff, false_and, and_false, imp_false, Classical.not_not, Bool.false_eq_true, Nat.zero_ne_one, Nat.one_ne_zero, Nat.not_lt_zero, if_true, if_false, implies_true]
    exact hR
theorem e_drop {v : Nat → Int32} {n d : Nat} (hn : n ≤ 20) (hd : d < n) {Q : (Nat → Int32) → Int32 → Prop} : p_X3_drop v (nI n) (nI d) Q ↔ Q (va_cpy v v ((d + 1) * 7) (d * 7) (n * 7 - (d + 1) * 7)) (nI (n - 1)) := by
  have e : ∃ x, x < n ∧ nI d = nI x := ⟨d, hd, rfl⟩
  have z : ∀ x, x < 200 → (¬ nI x < nI 0) := fun x hx => nI_pos (by omega)
  have h1 : (d + 1) * 7 + (n * 7 - (d + 1) * 7) ≤ 140 := by omega
  have h2 : d * 7 + (n * 7 - (d + 1) * 7) ≤ 140 := by omega
  have z1 := z ((d + 1) * 7) (by omega)
  have z2 := z (d * 7) (by omega)
  have z3 := z (n * 7 - (d + 1) * 7) (by omega)
  unfold p_X3_drop
  simp (disch := omega) only [li_0, li_1, li_2, li_3, li_4, li_5, li_6, li_7, li_8, li_9, li_10, li_11, li_12, li_13, li_14, li_15, li_16, li_20, li_26, li_31, li_32, li_36, li_42, li_43, li_48, li_52, li_57, li_58, li_59, li_60, li_63, li_97, li_99, li_104, li_112, li_115, li_119, li_140, li_141, li_142, li_143, li_144, li_145, li_146, li_147, li_148, li_149, li_150, li_151, li_152, li_255, li_303, li_455, li_999, li_1000, li_1510, li_1820, li_2275, li_9999, li_10000, li_100000, li_1048575, li_100000000, e_hasDish, e, nI_eqI, nI_add, pk_mul, pk_sub, nI_clamp, z1, z2, z3, h1, h2, true_and, and_true, not_true_eq_false, not_false_eq_true, true_imp_iff, false_imp_iff, false_and, and_false, imp_false, Classical.not_not, Bool.false_eq_true, Nat.zero_ne_one, Nat.one_ne_zero, Nat.not_lt_zero, if_true, if_false, implies_true]
theorem l_removeDish : lawS_1 Rel := by
  unfold lawS_1
  intro S h hz rt rl pg hist st mt ml hR a1
  obtain ⟨hS, ⟨z, rfl, rfl, hH⟩, hT⟩ := hR
  have hR : Rel S h (nI z) rt rl pg hist (nI z) mt ml := ⟨hS, ⟨z, rfl, rfl, hH⟩, hT⟩
  have hz5 := hH.1
  obtain ⟨hM, k0, k1, hk0, hk1, p151, p303, hkk, f0, f1⟩ := id hS
  obtain ⟨n, g, s, sd, hg, ho, hw, ⟨cn, cv, cst, cw⟩, hRR⟩ := id hM
  obtain ⟨rn, rv, rst, rsd⟩ := id hRR
  have hn := hg.1
  unfold p_X8_removeDish p_X9_removeDish
  rw [cn]
  by_cases hd : ∃ d, d < n ∧ a1 = nI d
  · obtain ⟨d, hd, rfl⟩ := hd
    have e : ∃ x, x < n ∧ nI d = nI x := ⟨d, hd, rfl⟩
    have hd20 : d < 20 := by omega
    simp (disch := omega) only [li_0, li_1, li_2, li_3, li_4, li_5, li_6, li_7, li_8, li_9, li_10, li_11, li_12, li_13, li_14, li_15, li_16, li_20, li_26, li_31, li_32, li_36, li_42, li_43, li_48, li_52, li_57, li_58, li_59, li_60, li_63, li_97, li_99, li_104, li_112, li_115, li_119, li_140, li_141, li_142, li_143, li_144, li_145, li_146, li_147, li_148, li_149, li_150, li_151, li_152, li_255, li_303, li_455, li_999, li_1000, li_1510, li_1820, li_2275, li_9999, li_10000, li_100000, li_1048575, li_100000000, e_hasDish, e, nI_eqI, Nat.one_ne_zero, true_and, and_true, not_true_eq_false, not_false_eq_true, true_imp_iff, false_imp_iff, false_and, and_false, imp_false, Classical.not_not, Bool.false_eq_true, Nat.zero_ne_one, Nat.one_ne_zero, Nat.not_lt_zero, if_true, if_false, implies_true]
    refine i_record hz5 ?_
    intro h' hpc
    rw [e_drop hn hd]
    unfold p_X3_size
    simp (disch := omega) only [e_isDish hn rn, e, nI_eqI, Nat.one_ne_zero, true_and, and_true, not_true_eq_false, not_false_eq_true, true_imp_iff, false_imp_iff, false_and, and_false, imp_false, Classical.not_not, Bool.false_eq_true, Nat.zero_ne_one, Nat.one_ne_zero, Nat.not_lt_zero, if_true, if_false, implies_true]
    refine i_keep hz5 ?_
    intro hist' hpr
    simp (disch := omega) only [li_0, li_1, li_2, li_3, li_4, li_5, li_6, li_7, li_8, li_9, li_10, li_11, li_12, li_13, li_14, li_15, li_16, li_20, li_26, li_31, li_32, li_36, li_42, li_43, li_48, li_52, li_57, li_58, li_59, li_60, li_63, li_97, li_99, li_104, li_112, li_115, li_119, li_140, li_141, li_142, li_143, li_144, li_145, li_146, li_147, li_148, li_149, li_150, li_151, li_152, li_255, li_303, li_455, li_999, li_1000, li_1510, li_1820, li_2275, li_9999, li_10000, li_100000, li_1048575, li_100000000, vp_t, nI_clamp, rn, pk_sub, pk_mul, nI_add, Nat.reduceLT, true_and, and_true, not_true_eq_false, not_false_eq_true, true_imp_iff, false_imp_iff, false_and, and_false, imp_false, Classical.not_not, Bool.false_eq_true, Nat.zero_ne_one, Nat.one_ne_zero, Nat.not_lt_zero, if_true, if_false, implies_true]
    unfold p_X9_removeDish_31
    refine wl1 (q_X9_removeDish_31 hist' (nI (ht z + 1)) _) (1 + 7 * (n - 1)) (by omega) (fun k p => (∀ j, 1 + 7 * d ≤ j → j < k → p j = pg (j + 7)) ∧ (∀ j, ¬ j = 0 → ¬ (1 + 7 * d ≤ j ∧ j < k) → p j = pg j) ∧ p 0 = nI (n - 1)) (1 + 7 * d) (by omega) _ ⟨fun j h1 h2 => absurd h2 (by omega), fun j h0 _ => pk_un h0, pk_us⟩ ?_
    rintro K k p hk0' hk ⟨i1, i2, i3⟩ hK
    unfold q_X9_removeDish_31
    simp (disch := omega) only [li_0, li_1, li_2, li_3, li_4, li_5, li_6, li_7, li_8, li_9, li_10, li_11, li_12, li_13, li_14, li_15, li_16, li_20, li_26, li_31, li_32, li_36, li_42, li_43, li_48, li_52, li_57, li_58, li_59, li_60, li_63, li_97, li_99, li_104, li_112, li_115, li_119, li_140, li_141, li_142, li_143, li_144, li_145, li_146, li_147, li_148, li_149, li_150, li_151, li_152, li_255, li_303, li_455, li_999, li_1000, li_1510, li_1820, li_2275, li_9999, li_10000, li_100000, li_1048575, li_100000000, vp_t, nI_clamp, i3, pk_mul, nI_add, nI_leI, Nat.reduceLT, true_and, and_true, not_true_eq_false, not_false_eq_true, true_imp_iff, false_imp_iff, false_and, and_false, imp_false, Classical.not_not, Bool.false_eq_true, Nat.zero_ne_one, Nat.one_ne_zero, Nat.not_lt_zero, if_true, if_false, implies_true]
    refine ⟨fun hge => ?_, fun hlt => ⟨by omega, by omega, ?_⟩⟩
    · have : k = 1 + 7 * (n - 1) := by omega
      subst this
      refine ⟨relS_menu hS ⟨n - 1, fun d' k => if d ≤ d' ∧ d' < n - 1 then g (d' + 1) k else g d' k, s, sd, ⟨by omega, ?_, ?_⟩, ho, hw, ⟨rfl, ?_, cst, cw⟩, ⟨i3, ?_, ?_, ?_⟩⟩ (fun j hj => i2 j (by omega) (by omega)), ⟨_, rfl, rfl, relH_push hH hS hpc hpr⟩, hT⟩
      · intro d' k hd' hk
        try dsimp only
        by_cases e : d ≤ d' ∧ d' < n - 1
        · rw [if_pos e]
          exact hg.2.1 (d' + 1) k (by omega) hk
        · rw [if_neg e]
          exact hg.2.1 d' k hd' hk
      · intro d' hd'
        try dsimp only
        by_cases e : d ≤ d' ∧ d' < n - 1
        · rw [if_pos e]
          exact hg.2.2 (d' + 1) (by omega)
        · rw [if_neg e]
          exact hg.2.2 d' (by omega)
      · intro d' k hd' hk
        try dsimp only
        by_cases e : d ≤ d' ∧ d' < n - 1
        · rw [if_pos e]
          show va_cpy S.1.1 S.1.1 ((d + 1) * 7) (d * 7) (n * 7 - (d + 1) * 7) (d' * 7 + k) = _
          rw [pk_cpy_in (by omega) (by omega), show (d + 1) * 7 + (d' * 7 + k - d * 7) = (d' + 1) * 7 + k by omega]
          exact cv (d' + 1) k (by omega) hk
        · rw [if_neg e]
          show va_cpy S.1.1 S.1.1 ((d + 1) * 7) (d * 7) (n * 7 - (d + 1) * 7) (d' * 7 + k) = _
          rw [pk_cpy_out (by omega)]
          exact cv d' k hd' hk
      · intro d' k hd' hk
        try dsimp only
        by_cases e : d ≤ d' ∧ d' < n - 1
        · rw [if_pos e, i1 _ (by omega) (by omega), show 1 + 7 * d' + k + 7 = 1 + 7 * (d' + 1) + k by omega]
          exact rv (d' + 1) k (by omega) hk
        · rw [if_neg e, i2 _ (by omega) (by omega)]
          exact rv d' k hd' hk
      · intro k hk
        rw [i2 _ (by omega) (by omega)]
        exact rst k hk
      · intro c hc
        rw [i2 _ (by omega) (by omega)]
        exact rsd c hc
    · refine hK (by omega) _ ⟨?_, ?_, ?_⟩
      · intro j h1 h2
        by_cases e : j = k
        · subst e
          rw [pk_us]
          exact i2 _ (by omega) (by omega)
        · rw [pk_un e]
          exact i1 j h1 (by omega)
      · intro j h0 h1
        rw [pk_un (by omega)]
        exact i2 j h0 (by omega)
      · rw [pk_un (by omega)]
        exact i3
  · simp (disch := omega) only [li_0, li_1, li_2, li_3, li_4, li_5, li_6, li_7, li_8, li_9, li_10, li_11, li_12, li_13, li_14, li_15, li_16, li_20, li_26, li_31, li_32, li_36, li_42, li_43, li_48, li_52, li_57, li_58, li_59, li_60, li_63, li_97, li_99, li_104, li_112, li_115, li_119, li_140, li_141, li_142, li_143, li_144, li_145, li_146, li_147, li_148, li_149, li_150, li_151, li_152, li_255, li_303, li_455, li_999, li_1000, li_1510, li_1820, li_2275, li_9999, li_10000, li_100000, li_1048575, li_100000000, e_hasDish, e_isDish hn rn, hd, nI_eqI, Nat.one_ne_zero, true_and, and_true, not_true_eq_false, not_false_eq_true, true_imp_iff, false_imp_iff, false_and, and_false, imp_false, Classical.not_not, Bool.false_eq_true, Nat.zero_ne_one, Nat.one_ne_zero, Nat.not_lt_zero, if_true, if_false, implies_true]
    exact hR
theorem l_setDish : lawS_2 Rel := by
  unfold lawS_2
  intro S h hz rt rl pg hist st mt ml hR a1 a2 a3
  obtain ⟨hS, ⟨z, rfl, rfl, hH⟩, hT⟩ := hR
  have hR : Rel S h (nI z) rt rl pg hist (nI z) mt ml := ⟨hS, ⟨z, rfl, rfl, hH⟩, hT⟩
  have hz5 := hH.1
  obtain ⟨hM, k0, k1, hk0, hk1, p151, p303, hkk, f0, f1⟩ := id hS
  obtain ⟨n, g, s, sd, hg, ho, hw, ⟨cn, cv, cst, cw⟩, hRR⟩ := id hM
  obtain ⟨rn, rv, rst, rsd⟩ := id hRR
  have hn := hg.1
  unfold p_X8_setDish p_X9_setDish
  rw [cn]
  by_cases hd : ∃ d, d < n ∧ a1 = nI d
  · by_cases hv : okD a2 a3
    · obtain ⟨d, hd, rfl⟩ := hd
      obtain ⟨k, x, hk, rfl, hx1, hx2, rfl⟩ := id hv
      have e : ∃ x, x < n ∧ nI d = nI x := ⟨d, hd, rfl⟩
      have hd20 : d < 20 := by omega
      have hv1 : 1 + 7 * d + k < 455 := by omega
      simp (disch := omega) only [li_0, li_1, li_2, li_3, li_4, li_5, li_6, li_7, li_8, li_9, li_10, li_11, li_12, li_13, li_14, li_15, li_16, li_20, li_26, li_31, li_32, li_36, li_42, li_43, li_48, li_52, li_57, li_58, li_59, li_60, li_63, li_97, li_99, li_104, li_112, li_115, li_119, li_140, li_141, li_142, li_143, li_144, li_145, li_146, li_147, li_148, li_149, li_150, li_151, li_152, li_255, li_303, li_455, li_999, li_1000, li_1510, li_1820, li_2275, li_9999, li_10000, li_100000, li_1048575, li_100000000, e_hasDish, e_isDishValue, hv, e, nI_eqI, Nat.one_ne_zero, true_and, and_true, not_true_eq_false, not_false_eq_true, true_imp_iff, false_imp_iff, false_and, and_false, imp_false, Classical.not_not, Bool.false_eq_true, Nat.zero_ne_one, Nat.one_ne_zero, Nat.not_lt_zero, if_true, if_false, implies_true]
      refine i_record hz5 ?_
      intro h' hpc
      simp (disch := omega) only [e_valueOf cv, e_change, hv, e_isDish hn rn, e_isIn, e, nI_eqI, Nat.one_ne_zero, true_and, and_true, not_true_eq_false, not_false_eq_true, true_imp_iff, false_imp_iff, false_and, and_false, imp_false, Classical.not_not, Bool.false_eq_true, Nat.zero_ne_one, Nat.one_ne_zero, Nat.not_lt_zero, if_true, if_false, implies_true]
      refine i_keep hz5 ?_
      intro hist' hpr
      simp (disch := omega) only [li_0, li_1, li_2, li_3, li_4, li_5, li_6, li_7, li_8, li_9, li_10, li_11, li_12, li_13, li_14, li_15, li_16, li_20, li_26, li_31, li_32, li_36, li_42, li_43, li_48, li_52, li_57, li_58, li_59, li_60, li_63, li_97, li_99, li_104, li_112, li_115, li_119, li_140, li_141, li_142, li_143, li_144, li_145, li_146, li_147, li_148, li_149, li_150, li_151, li_152, li_255, li_303, li_455, li_999, li_1000, li_1510, li_1820, li_2275, li_9999, li_10000, li_100000, li_1048575, li_100000000, e_of rv, vp_t, nI_clamp, pk_mul, nI_add, hv1, true_and, and_true, not_true_eq_false, not_false_eq_true, true_imp_iff, false_imp_iff, false_and, and_false, imp_false, Classical.not_not, Bool.false_eq_true, Nat.zero_ne_one, Nat.one_ne_zero, Nat.not_lt_zero, if_true, if_false, implies_true]
      refine ⟨relS_menu hS ⟨n, fun d' k' => if d' = d ∧ k' = k then x else g d' k', s, sd, ⟨hn, ?_, ?_⟩, ho, hw, ⟨rfl, ?_, cst, cw⟩, ⟨?_, ?_, ?_, ?_⟩⟩ (fun j hj => pk_un (by omega)), ⟨_, rfl, rfl, relH_push hH hS hpc hpr⟩, hT⟩
      · intro d' k' hd' hk'
        try dsimp only
        by_cases e : d' = d ∧ k' = k
        · rw [if_pos e, e.2]
          exact hx2
        · rw [if_neg e]
          exact hg.2.1 d' k' hd' hk'
      · intro d' hd'
        try dsimp only
        by_cases e : d' = d ∧ 2 = k
        · rw [if_pos e]
          have := e.2
          subst this
          exact hx1
        · rw [if_neg e]
          exact hg.2.2 d' hd'
      · intro d' k' hd' hk'
        try dsimp only
        by_cases e : d' = d ∧ k' = k
        · rw [if_pos e, e.1, e.2]
          exact pk_us
        · rw [if_neg e]
          exact (pk_un (by omega)).trans (cv d' k' hd' hk')
      · rw [pk_un (by omega)]
        exact rn
      · intro d' k' hd' hk'
        try dsimp only
        by_cases e : d' = d ∧ k' = k
        · rw [if_pos e, e.1, e.2]
          exact pk_us
        · rw [if_neg e]
          exact (pk_un (by omega)).trans (rv d' k' hd' hk')
      · intro k' hk'
        exact (pk_un (by omega)).trans (rst k' hk')
      · intro c hc
        exact (pk_un (by omega)).trans (rsd c hc)
    · simp (disch := omega) only [li_0, li_1, li_2, li_3, li_4, li_5, li_6, li_7, li_8, li_9, li_10, li_11, li_12, li_13, li_14, li_15, li_16, li_20, li_26, li_31, li_32, li_36, li_42, li_43, li_48, li_52, li_57, li_58, li_59, li_60, li_63, li_97, li_99, li_104, li_112, li_115, li_119, li_140, li_141, li_142, li_143, li_144, li_145, li_146, li_147, li_148, li_149, li_150, li_151, li_152, li_255, li_303, li_455, li_999, li_1000, li_1510, li_1820, li_2275, li_9999, li_10000, li_100000, li_1048575, li_100000000, e_hasDish, e_isDish hn rn, e_isDishValue, e_isIn, hd, hv, nI_eqI, Nat.one_ne_zero, true_and, and_true, not_true_eq_false, not_false_eq_true, true_imp_iff, false_imp_iff, false_and, and_false, imp_false, Classical.not_not, Bool.false_eq_true, Nat.zero_ne_one, Nat.one_ne_zero, Nat.not_lt_zero, if_true, if_false, implies_true]
      exact hR
  · simp (disch := omega) only [li_0, li_1, li_2, li_3, li_4, li_5, li_6, li_7, li_8, li_9, li_10, li_11, li_12, li_13, li_14, li_15, li_16, li_20, li_26, li_31, li_32, li_36, li_42, li_43, li_48, li_52, li_57, li_58, li_59, li_60, li_63, li_97, li_99, li_104, li_112, li_115, li_119, li_140, li_141, li_142, li_143, li_144, li_145, li_146, li_147, li_148, li_149, li_150, li_151, li_152, li_255, li_303, li_455, li_999, li_1000, li_1510, li_1820, li_2275, li_9999, li_10000, li_100000, li_1048575, li_100000000, e_hasDish, e_isDish hn rn, hd, nI_eqI, Nat.one_ne_zero, true_and, and_true, not_true_eq_false, not_false_eq_true, true_imp_iff, false_imp_iff, false_and, and_false, imp_false, Classical.not_not, Bool.false_eq_true, Nat.zero_ne_one, Nat.one_ne_zero, Nat.not_lt_zero, if_true, if_false, implies_true]
    exact hR
theorem l_setCard : lawS_3 Rel := by
  unfold lawS_3
  intro S h hz rt rl pg hist st mt ml hR a1 a2
  obtain ⟨hS, ⟨z, rfl, rfl, hH⟩, hT⟩ := hR
  have hR : Rel S h (nI z) rt rl pg hist (nI z) mt ml := ⟨hS, ⟨z, rfl, rfl, hH⟩, hT⟩
  have hz5 := hH.1
  obtain ⟨hM, k0, k1, hk0, hk1, p151, p303, hkk, f0, f1⟩ := id hS
  obtain ⟨n, g, s, sd, hg, ho, hw, ⟨cn, cv, cst, cw⟩, hRR⟩ := id hM
  obtain ⟨rn, rv, rst, rsd⟩ := id hRR
  have hn := hg.1
  unfold p_X8_setCard p_X9_setCard
  by_cases hv : okC a1 a2
  · obtain ⟨k, x, hk, rfl, hx1, hx2, rfl⟩ := id hv
    have hv1 : 141 + k < 455 := by omega
    simp (disch := omega) only [li_0, li_1, li_2, li_3, li_4, li_5, li_6, li_7, li_8, li_9, li_10, li_11, li_12, li_13, li_14, li_15, li_16, li_20, li_26, li_31, li_32, li_36, li_42, li_43, li_48, li_52, li_57, li_58, li_59, li_60, li_63, li_97, li_99, li_104, li_112, li_115, li_119, li_140, li_141, li_142, li_143, li_144, li_145, li_146, li_147, li_148, li_149, li_150, li_151, li_152, li_255, li_303, li_455, li_999, li_1000, li_1510, li_1820, li_2275, li_9999, li_10000, li_100000, li_1048575, li_100000000, e_isCardValue, hv, nI_eqI, Nat.one_ne_zero, true_and, and_true, not_true_eq_false, not_false_eq_true, true_imp_iff, false_imp_iff, false_and, and_false, imp_false, Classical.not_not, Bool.false_eq_true, Nat.zero_ne_one, Nat.one_ne_zero, Nat.not_lt_zero, if_true, if_false, implies_true]
    refine i_record hz5 ?_
    intro h' hpc
    unfold p_X3_changeSetting
    simp (disch := omega) only [li_0, li_1, li_2, li_3, li_4, li_5, li_6, li_7, li_8, li_9, li_10, li_11, li_12, li_13, li_14, li_15, li_16, li_20, li_26, li_31, li_32, li_36, li_42, li_43, li_48, li_52, li_57, li_58, li_59, li_60, li_63, li_97, li_99, li_104, li_112, li_115, li_119, li_140, li_141, li_142, li_143, li_144, li_145, li_146, li_147, li_148, li_149, li_150, li_151, li_152, li_255, li_303, li_455, li_999, li_1000, li_1510, li_1820, li_2275, li_9999, li_10000, li_100000, li_1048575, li_100000000, e_setting cst, e_isCardValue, e_isOnCard, hv, nI_eqI, vp_t, nI_clamp, hk, Nat.one_ne_zero, true_and, and_true, not_true_eq_false, not_false_eq_true, true_imp_iff, false_imp_iff, false_and, and_false, imp_false, Classical.not_not, Bool.false_eq_true, Nat.zero_ne_one, Nat.one_ne_zero, Nat.not_lt_zero, if_true, if_false, implies_true]
    refine i_keep hz5 ?_
    intro hist' hpr
    simp (disch := omega) only [li_0, li_1, li_2, li_3, li_4, li_5, li_6, li_7, li_8, li_9, li_10, li_11, li_12, li_13, li_14, li_15, li_16, li_20, li_26, li_31, li_32, li_36, li_42, li_43, li_48, li_52, li_57, li_58, li_59, li_60, li_63, li_97, li_99, li_104, li_112, li_115, li_119, li_140, li_141, li_142, li_143, li_144, li_145, li_146, li_147, li_148, li_149, li_150, li_151, li_152, li_255, li_303, li_455, li_999, li_1000, li_1510, li_1820, li_2275, li_9999, li_10000, li_100000, li_1048575, li_100000000, vp_t, nI_clamp, nI_add, rst, hv1, true_and, and_true, not_true_eq_false, not_false_eq_true, true_imp_iff, false_imp_iff, false_and, and_false, imp_false, Classical.not_not, Bool.false_eq_true, Nat.zero_ne_one, Nat.one_ne_zero, Nat.not_lt_zero, if_true, if_false, implies_true]
    refine ⟨relS_menu hS ⟨n, g, fun k' => if k' = k then x else s k', sd, hg, ?_, hw, ⟨cn, cv, ?_, cw⟩, ⟨?_, ?_, ?_, ?_⟩⟩ (fun j hj => pk_un (by omega)), ⟨_, rfl, rfl, relH_push hH hS hpc hpr⟩, hT⟩
    · intro k' hk'
      try dsimp only
      by_cases e : k' = k
      · rw [if_pos e, e]
        exact ⟨hx1, hx2⟩
      · rw [if_neg e]
        exact ho k' hk'
    · intro k' hk'
      try dsimp only
      by_cases e : k' = k
      · rw [if_pos e, e]
        exact pk_us
      · rw [if_neg e]
        exact (pk_un e).trans (cst k' hk')
    · rw [pk_un (by omega)]
      exact rn
    · intro d' k' hd' hk'
      exact (pk_un (by omega)).trans (rv d' k' hd' hk')
    · intro k' hk'
      try dsimp only
      by_cases e : k' = k
      · rw [if_pos e, e]
        exact pk_us
      · rw [if_neg e]
        exact (pk_un (by omega)).trans (rst k' hk')
    · intro c hc
      exact (pk_un (by omega)).trans (rsd c hc)
  · simp (disch := omega) only [li_0, li_1, li_2, li_3, li_4, li_5, li_6, li_7, li_8, li_9, li_10, li_11, li_12, li_13, li_14, li_15, li_16, li_20, li_26, li_31, li_32, li_36, li_42, li_43, li_48, li_52, li_57, li_58, li_59, li_60, li_63, li_97, li_99, li_104, li_112, li_115, li_119, li_140, li_141, li_142, li_143, li_144, li_145, li_146, li_147, li_148, li_149, li_150, li_151, li_152, li_255, li_303, li_455, li_999, li_1000, li_1510, li_1820, li_2275, li_9999, li_10000, li_100000, li_1048575, li_100000000, e_isCardValue, e_isOnCard, hv, nI_eqI, Nat.one_ne_zero, true_and, and_true, not_true_eq_false, not_false_eq_true, true_imp_iff, false_imp_iff, false_and, and_false, imp_false, Classical.not_not, Bool.false_eq_true, Nat.zero_ne_one, Nat.one_ne_zero, Nat.not_lt_zero, if_true, if_false, implies_true]
    exact hR
theorem wy_put1 : ∀ a, a < 2 → ∀ b, b < 2 → ∀ c, c < 2 → ∀ d, d < 2 → ∀ k, k < 4 → nI (a + 2 * b + 4 * c + 8 * d) ||| (nI 1 <<< (nI k &&& nI 31)) = nI ((if 0 = k then 1 else a) + 2 * (if 1 = k then 1 else b) + 4 * (if 2 = k then 1 else c) + 8 * (if 3 = k then 1 else d)) := by decide +kernel
theorem wy_put0 : ∀ a, a < 2 → ∀ b, b < 2 → ∀ c, c < 2 → ∀ d, d < 2 → ∀ k, k < 4 → nI (a + 2 * b + 4 * c + 8 * d) &&& ((nI 1 <<< (nI k &&& nI 31)) ^^^ (-nI 1)) = nI ((if 0 = k then 0 else a) + 2 * (if 1 = k then 0 else b) + 4 * (if 2 = k then 0 else c) + 8 * (if 3 = k then 0 else d)) := by decide +kernel
theorem e_putCourse {sd : Nat → Nat} (hw : okW sd) {k x : Nat} (hk : k < 4) (hx : x ≤ 1) {Q : Int32 → Prop} : p_X3_putCourse (nI (wy sd)) (nI k) (nI x) Q ↔ Q (nI (wy (fun c => if c = k then x else sd c))) := by
  have h0 := Nat.lt_succ_of_le (hw 0 (by decide))
  have h1 := Nat.lt_succ_of_le (hw 1 (by decide))
  have h2 := Nat.lt_succ_of_le (hw 2 (by decide))
  have h3 := Nat.lt_succ_of_le (hw 3 (by decide))
  have e1 := wy_put1 _ h0 _ h1 _ h2 _ h3 k hk
  have e0 := wy_put0 _ h0 _ h1 _ h2 _ h3 k hk
  unfold p_X3_putCourse p_X3_putCourse_27
  have : x = 0 ∨ x = 1 := by omega
  rcases this with rfl | rfl
  · simp (disch := omega) only [li_0, li_1, li_2, li_3, li_4, li_5, li_6, li_7, li_8, li_9, li_10, li_11, li_12, li_13, li_14, li_15, li_16, li_20, li_26, li_31, li_32, li_36, li_42, li_43, li_48, li_52, li_57, li_58, li_59, li_60, li_63, li_97, li_99, li_104, li_112, li_115, li_119, li_140, li_141, li_142, li_143, li_144, li_145, li_146, li_147, li_148, li_149, li_150, li_151, li_152, li_255, li_303, li_455, li_999, li_1000, li_1510, li_1820, li_2275, li_9999, li_10000, li_100000, li_1048575, li_100000000, nI_eqI, wy, e0, true_and, and_true, not_true_eq_false, not_false_eq_true, true_imp_iff, false_imp_iff, false_and, and_false, imp_false, Classical.not_not, Bool.false_eq_true, Nat.zero_ne_one, Nat.one_ne_zero, Nat.not_lt_zero, if_true, if_false, implies_true]
  · simp (disch := omega) only [li_0, li_1, li_2, li_3, li_4, li_5, li_6, li_7, li_8, li_9, li_10, li_11, li_12, li_13, li_14, li_15, li_16, li_20, li_26, li_31, li_32, li_36, li_42, li_43, li_48, li_52, li_57, li_58, li_59, li_60, li_63, li_97, li_99, li_104, li_112, li_115, li_119, li_140, li_141, li_142, li_143, li_144, li_145, li_146, li_147, li_148, li_149, li_150, li_151, li_152, li_255, li_303, li_455, li_999, li_1000, li_1510, li_1820, li_2275, li_9999, li_10000, li_100000, li_1048575, li_100000000, nI_eqI, wy, e1, true_and, and_true, not_true_eq_false, not_false_eq_true, true_imp_iff, false_imp_iff, false_and, and_false, imp_false, Classical.not_not, Bool.false_eq_true, Nat.zero_ne_one, Nat.one_ne_zero, Nat.not_lt_zero, if_true, if_false, implies_true]
theorem l_setSide : lawS_4 Rel := by
  unfold lawS_4
  intro S h hz rt rl pg hist st mt ml hR a1 a2
  obtain ⟨hS, ⟨z, rfl, rfl, hH⟩, hT⟩ := hR
  have hR : Rel S h (nI z) rt rl pg hist (nI z) mt ml := ⟨hS, ⟨z, rfl, rfl, hH⟩, hT⟩
  have hz5 := hH.1
  obtain ⟨hM, k0, k1, hk0, hk1, p151, p303, hkk, f0, f1⟩ := id hS
  obtain ⟨n, g, s, sd, hg, ho, hw, ⟨cn, cv, cst, cw⟩, hRR⟩ := id hM
  obtain ⟨rn, rv, rst, rsd⟩ := id hRR
  have hn := hg.1
  have hwy := wy_lt hw
  unfold p_X8_setSide p_X9_setSide
  by_cases hc : ∃ x, 0 ≤ x ∧ x ≤ 3 ∧ a1 = nI x
  · by_cases hv : ∃ x, 0 ≤ x ∧ x ≤ 1 ∧ a2 = nI x
    · obtain ⟨k, _, hk, rfl⟩ := id hc
      obtain ⟨x, _, hx, rfl⟩ := id hv
      have hk4 : k < 4 := by omega
      have hv1 : 147 + k < 455 := by omega
      have htb := wy_tb hw hk4
      simp (disch := omega) only [li_0, li_1, li_2, li_3, li_4, li_5, li_6, li_7, li_8, li_9, li_10, li_11, li_12, li_13, li_14, li_15, li_16, li_20, li_26, li_31, li_32, li_36, li_42, li_43, li_48, li_52, li_57, li_58, li_59, li_60, li_63, li_97, li_99, li_104, li_112, li_115, li_119, li_140, li_141, li_142, li_143, li_144, li_145, li_146, li_147, li_148, li_149, li_150, li_151, li_152, li_255, li_303, li_455, li_999, li_1000, li_1510, li_1820, li_2275, li_9999, li_10000, li_100000, li_1048575, li_100000000, e_inRange, e_isSide, hc, hv, nI_eqI, Nat.one_ne_zero, true_and, and_true, not_true_eq_false, not_false_eq_true, true_imp_iff, false_imp_iff, false_and, and_false, imp_false, Classical.not_not, Bool.false_eq_true, Nat.zero_ne_one, Nat.one_ne_zero, Nat.not_lt_zero, if_true, if_false, implies_true]
      refine i_record hz5 ?_
      intro h' hpc
      simp (disch := omega) only [li_0, li_1, li_2, li_3, li_4, li_5, li_6, li_7, li_8, li_9, li_10, li_11, li_12, li_13, li_14, li_15, li_16, li_20, li_26, li_31, li_32, li_36, li_42, li_43, li_48, li_52, li_57, li_58, li_59, li_60, li_63, li_97, li_99, li_104, li_112, li_115, li_119, li_140, li_141, li_142, li_143, li_144, li_145, li_146, li_147, li_148, li_149, li_150, li_151, li_152, li_255, li_303, li_455, li_999, li_1000, li_1510, li_1820, li_2275, li_9999, li_10000, li_100000, li_1048575, li_100000000, cw, e_sideIn, htb, e_putCourse hw, e_in, hc, hv, nI_eqI, Nat.one_ne_zero, true_and, and_true, not_true_eq_false, not_false_eq_true, true_imp_iff, false_imp_iff, false_and, and_false, imp_false, Classical.not_not, Bool.false_eq_true, Nat.zero_ne_one, Nat.one_ne_zero, Nat.not_lt_zero, if_true, if_false, implies_true]
      refine i_keep hz5 ?_
      intro hist' hpr
      simp (disch := omega) only [li_0, li_1, li_2, li_3, li_4, li_5, li_6, li_7, li_8, li_9, li_10, li_11, li_12, li_13, li_14, li_15, li_16, li_20, li_26, li_31, li_32, li_36, li_42, li_43, li_48, li_52, li_57, li_58, li_59, li_60, li_63, li_97, li_99, li_104, li_112, li_115, li_119, li_140, li_141, li_142, li_143, li_144, li_145, li_146, li_147, li_148, li_149, li_150, li_151, li_152, li_255, li_303, li_455, li_999, li_1000, li_1510, li_1820, li_2275, li_9999, li_10000, li_100000, li_1048575, li_100000000, vp_t, nI_clamp, nI_add, rsd, hv1, true_and, and_true, not_true_eq_false, not_false_eq_true, true_imp_iff, false_imp_iff, false_and, and_false, imp_false, Classical.not_not, Bool.false_eq_true, Nat.zero_ne_one, Nat.one_ne_zero, Nat.not_lt_zero, if_true, if_false, implies_true]
      refine ⟨relS_menu hS ⟨n, g, s, fun c => if c = k then x else sd c, hg, ho, ?_, ⟨cn, cv, cst, rfl⟩, ⟨?_, ?_, ?_, ?_⟩⟩ (fun j hj => pk_un (by omega)), ⟨_, rfl, rfl, relH_push hH hS hpc hpr⟩, hT⟩
      · intro c hc
        try dsimp only
        by_cases e : c = k
        · rw [if_pos e]
          exact hx
        · rw [if_neg e]
          exact hw c hc
      · rw [pk_un (by omega)]
        exact rn
      · intro d' k' hd' hk'
        exact (pk_un (by omega)).trans (rv d' k' hd' hk')
      · intro k' hk'
        exact (pk_un (by omega)).trans (rst k' hk')
      · intro c hc
        try dsimp only
        by_cases e : c = k
        · rw [if_pos e, e]
          exact pk_us
        · rw [if_neg e]
          exact (pk_un (by omega)).trans (rsd c hc)
    · simp (disch := omega) only [li_0, li_1, li_2, li_3, li_4, li_5, li_6, li_7, li_8, li_9, li_10, li_11, li_12, li_13, li_14, li_15, li_16, li_20, li_26, li_31, li_32, li_36, li_42, li_43, li_48, li_52, li_57, li_58, li_59, li_60, li_63, li_97, li_99, li_104, li_112, li_115, li_119, li_140, li_141, li_142, li_143, li_144, li_145, li_146, li_147, li_148, li_149, li_150, li_151, li_152, li_255, li_303, li_455, li_999, li_1000, li_1510, li_1820, li_2275, li_9999, li_10000, li_100000, li_1048575, li_100000000, e_inRange, e_isSide, e_in, hc, hv, nI_eqI, Nat.one_ne_zero, true_and, and_true, not_true_eq_false, not_false_eq_true, true_imp_iff, false_imp_iff, false_and, and_false, imp_false, Classical.not_not, Bool.false_eq_true, Nat.zero_ne_one, Nat.one_ne_zero, Nat.not_lt_zero, if_true, if_false, implies_true]
      exact hR
  · simp (disch := omega) only [li_0, li_1, li_2, li_3, li_4, li_5, li_6, li_7, li_8, li_9, li_10, li_11, li_12, li_13, li_14, li_15, li_16, li_20, li_26, li_31, li_32, li_36, li_42, li_43, li_48, li_52, li_57, li_58, li_59, li_60, li_63, li_97, li_99, li_104, li_112, li_115, li_119, li_140, li_141, li_142, li_143, li_144, li_145, li_146, li_147, li_148, li_149, li_150, li_151, li_152, li_255, li_303, li_455, li_999, li_1000, li_1510, li_1820, li_2275, li_9999, li_10000, li_100000, li_1048575, li_100000000, e_inRange, e_isSide, e_in, hc, nI_eqI, Nat.one_ne_zero, true_and, and_true, not_true_eq_false, not_false_eq_true, true_imp_iff, false_imp_iff, false_and, and_false, imp_false, Classical.not_not, Bool.false_eq_true, Nat.zero_ne_one, Nat.one_ne_zero, Nat.not_lt_zero, if_true, if_false, implies_true]
    exact hR
/-! ===== text ===== -/
theorem l_append : lawS_10 Rel := by
  unfold lawS_10
  intro S h hz rt rl pg hist st mt ml hR a1
  obtain ⟨hS, ⟨z, rfl, rfl, hH⟩, hT⟩ := hR
  have hR : Rel S h (nI z) rt rl pg hist (nI z) mt ml := ⟨hS, ⟨z, rfl, rfl, hH⟩, hT⟩
  have hz5 := hH.1
  obtain ⟨hM, k0, k1, hk0, hk1, p151, p303, hkk, f0, f1⟩ := id hS
  obtain ⟨n, g, s, sd, hg, ho, hw, ⟨cn, cv, cst, cw⟩, hRR⟩ := id hM
  obtain ⟨rn, rv, rst, rsd⟩ := id hRR
  have hn := hg.1
  obtain ⟨t, rfl, rfl, ht1, ht2⟩ := hT
  unfold p_X8_append p_X9_append
  by_cases hv : ∃ x, 1 ≤ x ∧ x ≤ 255 ∧ a1 = nI x
  · simp (disch := omega) only [li_0, li_1, li_2, li_3, li_4, li_5, li_6, li_7, li_8, li_9, li_10, li_11, li_12, li_13, li_14, li_15, li_16, li_20, li_26, li_31, li_32, li_36, li_42, li_43, li_48, li_52, li_57, li_58, li_59, li_60, li_63, li_97, li_99, li_104, li_112, li_115, li_119, li_140, li_141, li_142, li_143, li_144, li_145, li_146, li_147, li_148, li_149, li_150, li_151, li_152, li_255, li_303, li_455, li_999, li_1000, li_1510, li_1820, li_2275, li_9999, li_10000, li_100000, li_1048575, li_100000000, e_inRange, e_in, hv, nI_eqI, nI_ltI, Nat.one_ne_zero, true_and, and_true, not_true_eq_false, not_false_eq_true, true_imp_iff, false_imp_iff, false_and, and_false, imp_false, Classical.not_not, Bool.false_eq_true, Nat.zero_ne_one, Nat.one_ne_zero, Nat.not_lt_zero, if_true, if_false, implies_true]
    refine ⟨fun h1 => ?_, fun h1 => ?_⟩
    · unfold p_X5_write
      have h2 : ¬ 140 ≤ t := by omega
      have h3 : ¬ t = 140 := by omega
      simp (disch := omega) only [li_0, li_1, li_2, li_3, li_4, li_5, li_6, li_7, li_8, li_9, li_10, li_11, li_12, li_13, li_14, li_15, li_16, li_20, li_26, li_31, li_32, li_36, li_42, li_43, li_48, li_52, li_57, li_58, li_59, li_60, li_63, li_97, li_99, li_104, li_112, li_115, li_119, li_140, li_141, li_142, li_143, li_144, li_145, li_146, li_147, li_148, li_149, li_150, li_151, li_152, li_255, li_303, li_455, li_999, li_1000, li_1510, li_1820, li_2275, li_9999, li_10000, li_100000, li_1048575, li_100000000, nI_leI, h1, h2, h3, nI_eqI, vp_t, nI_clamp, nI_add, true_and, and_true, not_true_eq_false, not_false_eq_true, true_imp_iff, false_imp_iff, false_and, and_false, imp_false, Classical.not_not, Bool.false_eq_true, Nat.zero_ne_one, Nat.one_ne_zero, Nat.not_lt_zero, if_true, if_false, implies_true]
      refine ⟨hS, ⟨z, rfl, rfl, hH⟩, t + 1, rfl, rfl, by omega, fun j hj => ?_⟩
      by_cases e : j = t
      · subst e
        rw [pk_us, pk_us]
        exact ⟨rfl, hv⟩
      · rw [pk_un e, pk_un e]
        exact ht2 j (by omega)
    · have h3 : t = 140 := by omega
      simp (disch := omega) only [h3, true_and, and_true, not_true_eq_false, not_false_eq_true, true_imp_iff, false_imp_iff, false_and, and_false, imp_false, Classical.not_not, Bool.false_eq_true, Nat.zero_ne_one, Nat.one_ne_zero, Nat.not_lt_zero, if_true, if_false, implies_true]
      subst h3
      exact hR
  · simp (disch := omega) only [li_0, li_1, li_2, li_3, li_4, li_5, li_6, li_7, li_8, li_9, li_10, li_11, li_12, li_13, li_14, li_15, li_16, li_20, li_26, li_31, li_32, li_36, li_42, li_43, li_48, li_52, li_57, li_58, li_59, li_60, li_63, li_97, li_99, li_104, li_112, li_115, li_119, li_140, li_141, li_142, li_143, li_144, li_145, li_146, li_147, li_148, li_149, li_150, li_151, li_152, li_255, li_303, li_455, li_999, li_1000, li_1510, li_1820, li_2275, li_9999, li_10000, li_100000, li_1048575, li_100000000, e_inRange, e_in, hv, nI_eqI, Nat.one_ne_zero, true_and, and_true, not_true_eq_false, not_false_eq_true, true_imp_iff, false_imp_iff, false_and, and_false, imp_false, Classical.not_not, Bool.false_eq_true, Nat.zero_ne_one, Nat.one_ne_zero, Nat.not_lt_zero, if_true, if_false, implies_true]
    exact hR
theorem l_clearText : lawS_11 Rel := by
  unfold lawS_11
  intro S h hz rt rl pg hist st mt ml hR
  obtain ⟨hS, ⟨z, rfl, rfl, hH⟩, hT⟩ := hR
  have hR : Rel S h (nI z) rt rl pg hist (nI z) mt ml := ⟨hS, ⟨z, rfl, rfl, hH⟩, hT⟩
  have hz5 := hH.1
  obtain ⟨hM, k0, k1, hk0, hk1, p151, p303, hkk, f0, f1⟩ := id hS
  obtain ⟨n, g, s, sd, hg, ho, hw, ⟨cn, cv, cst, cw⟩, hRR⟩ := id hM
  obtain ⟨rn, rv, rst, rsd⟩ := id hRR
  have hn := hg.1
  obtain ⟨t, rfl, rfl, ht1, ht2⟩ := hT
  unfold p_X8_clearText p_X9_clearText
  exact ⟨rfl, hS, ⟨z, rfl, rfl, hH⟩, 0, rfl, rfl, by omega, fun j hj => absurd hj (Nat.not_lt_zero j)⟩
/-! ===== snapshots, undo, card ===== -/
theorem l_card : lawS_14 Rel := by
  unfold lawS_14
  intro S h hz rt rl pg hist st mt ml hR a1
  obtain ⟨hS, ⟨z, rfl, rfl, hH⟩, hT⟩ := hR
  have hR : Rel S h (nI z) rt rl pg hist (nI z) mt ml := ⟨hS, ⟨z, rfl, rfl, hH⟩, hT⟩
  have hz5 := hH.1
  obtain ⟨hM, k0, k1, hk0, hk1, p151, p303, hkk, f0, f1⟩ := id hS
  obtain ⟨n, g, s, sd, hg, ho, hw, ⟨cn, cv, cst, cw⟩, hRR⟩ := id hM
  obtain ⟨rn, rv, rst, rsd⟩ := id hRR
  have hn := hg.1
  have hwy := wy_lt hw
  unfold p_X8_card p_X9_card
  by_cases h9 : ∃ x, 0 ≤ x ∧ x ≤ 9 ∧ a1 = nI x
  · obtain ⟨x, _, hx, rfl⟩ := id h9
    have hv1 : 141 + x < 455 := by omega
    simp (disch := omega) only [li_0, li_1, li_2, li_3, li_4, li_5, li_6, li_7, li_8, li_9, li_10, li_11, li_12, li_13, li_14, li_15, li_16, li_20, li_26, li_31, li_32, li_36, li_42, li_43, li_48, li_52, li_57, li_58, li_59, li_60, li_63, li_97, li_99, li_104, li_112, li_115, li_119, li_140, li_141, li_142, li_143, li_144, li_145, li_146, li_147, li_148, li_149, li_150, li_151, li_152, li_255, li_303, li_455, li_999, li_1000, li_1510, li_1820, li_2275, li_9999, li_10000, li_100000, li_1048575, li_100000000, e_inRangeN, e_in, h9, nI_eqI, nI_add, vp_t, nI_clamp, hv1, true_and, and_true, not_true_eq_false, not_false_eq_true, true_imp_iff, false_imp_iff, false_and, and_false, imp_false, Classical.not_not, Bool.false_eq_true, Nat.zero_ne_one, Nat.one_ne_zero, Nat.not_lt_zero, if_true, if_false, implies_true]
    refine ⟨fun h1 => ?_, fun h1 => ?_⟩
    · rw [e_setting cst (by omega), rst x (by omega)]
      exact ⟨rfl, hR⟩
    · have h2 : 6 ≤ x ∧ x ≤ 9 := by omega
      have htb := wy_tb hw (c := x - 6) (by omega)
      have hsd := rsd (x - 6) (by omega)
      rw [show 147 + (x - 6) = 141 + x by omega] at hsd
      simp (disch := omega) only [li_0, li_1, li_2, li_3, li_4, li_5, li_6, li_7, li_8, li_9, li_10, li_11, li_12, li_13, li_14, li_15, li_16, li_20, li_26, li_31, li_32, li_36, li_42, li_43, li_48, li_52, li_57, li_58, li_59, li_60, li_63, li_97, li_99, li_104, li_112, li_115, li_119, li_140, li_141, li_142, li_143, li_144, li_145, li_146, li_147, li_148, li_149, li_150, li_151, li_152, li_255, li_303, li_455, li_999, li_1000, li_1510, li_1820, li_2275, li_9999, li_10000, li_100000, li_1048575, li_100000000, h2, cw, pk_sub, e_sideIn, htb, hsd, nI_eqI, and_self, true_and, and_true, not_true_eq_false, not_false_eq_true, true_imp_iff, false_imp_iff, false_and, and_false, imp_false, Classical.not_not, Bool.false_eq_true, Nat.zero_ne_one, Nat.one_ne_zero, Nat.not_lt_zero, if_true, if_false, implies_true]
      exact hR
  · have h5 : ¬ ∃ x, 0 ≤ x ∧ x ≤ 5 ∧ a1 = nI x := by
      rintro ⟨x, _, h1, rfl⟩
      exact h9 ⟨x, by omega, by omega, rfl⟩
    have h6 : ¬ ∃ x, 6 ≤ x ∧ x ≤ 9 ∧ a1 = nI x := by
      rintro ⟨x, _, h1, rfl⟩
      exact h9 ⟨x, by omega, by omega, rfl⟩
    simp (disch := omega) only [li_0, li_1, li_2, li_3, li_4, li_5, li_6, li_7, li_8, li_9, li_10, li_11, li_12, li_13, li_14, li_15, li_16, li_20, li_26, li_31, li_32, li_36, li_42, li_43, li_48, li_52, li_57, li_58, li_59, li_60, li_63, li_97, li_99, li_104, li_112, li_115, li_119, li_140, li_141, li_142, li_143, li_144, li_145, li_146, li_147, li_148, li_149, li_150, li_151, li_152, li_255, li_303, li_455, li_999, li_1000, li_1510, li_1820, li_2275, li_9999, li_10000, li_100000, li_1048575, li_100000000, e_inRange, e_in, h9, h5, h6, nI_eqI, true_and, and_true, not_true_eq_false, not_false_eq_true, true_imp_iff, false_imp_iff, false_and, and_false, imp_false, Classical.not_not, Bool.false_eq_true, Nat.zero_ne_one, Nat.one_ne_zero, Nat.not_lt_zero, if_true, if_false, implies_true]
    exact hR
theorem i_findPrinted {st v : Nat → Int32} {n : Nat} {g : Nat → Nat → Nat} {s : Nat → Nat} (hv : ∀ d k, d < 20 → k < 7 → v (d * 7 + k) = nI (g d k)) (hs : ∀ k, k < 6 → st k = nI (s k)) (hg : okG n g) (ho : okS s) {D L W : Nat → Int32} {Q : (Nat → Int32) → (Nat → Int32) → (Nat → Int32) → Int32 → Int32 → Int32 → Int32 → Int32 → Prop} (h : ∀ D' L' W' set num pri all col, relP (prt g (s 2) (s 0) (s 5)) n g (s 1) D' L' W' set num pri all col → Q D' L' W' set num pri all col) : p_X8_findPrinted D L W v st (nI n) Q := by
  obtain ⟨s0, s1, s2, s3, s4, s5, s6, s7⟩ := ho.b
  unfold p_X8_findPrinted
  simp (disch := omega) only [li_0, li_1, li_2, li_3, li_4, li_5, li_6, li_7, li_8, li_9, li_10, li_11, li_12, li_13, li_14, li_15, li_16, li_20, li_26, li_31, li_32, li_36, li_42, li_43, li_48, li_52, li_57, li_58, li_59, li_60, li_63, li_97, li_99, li_104, li_112, li_115, li_119, li_140, li_141, li_142, li_143, li_144, li_145, li_146, li_147, li_148, li_149, li_150, li_151, li_152, li_255, li_303, li_455, li_999, li_1000, li_1510, li_1820, li_2275, li_9999, li_10000, li_100000, li_1048575, li_100000000, e_setting hs]
  exact i_find hv hs hg ho s0 h
theorem ps_pc (P : Nat → Bool) {n : Nat} (hn : n ≤ 20) : pc (mk P n) = ps P (fun _ => 1) n := sm_mkP P hn
theorem i_printedSize {pg : Nat → Int32} {n : Nat} {g : Nat → Nat → Nat} {s sd : Nat → Nat} (R : relR n g s sd pg) (hg : okG n g) (ho : okS s) {Q : Int32 → Prop} (h : Q (nI (ps (prt g (s 2) (s 0) (s 5)) (fun _ => 1) n))) : p_X9_printedNow pg (fun r => p_X9_size r Q) := by
  refine i_printedNow R hg ho ?_
  have hm := mk_lt31 (prt g (s 2) (s 0) (s 5)) hg.1
  refine i_size (by omega) ?_
  rw [ps_pc _ hg.1]
  exact h
theorem kk_or : ∀ a, a < 2 → ∀ b, b < 2 → ∀ k, k < 2 → nI (a + 2 * b) ||| (nI 1 <<< (nI k &&& nI 31)) = nI ((if k = 0 then 1 else a) + 2 * (if k = 1 then 1 else b)) := by decide +kernel
theorem kk_tb : ∀ a, a < 2 → ∀ b, b < 2 → tb (a + 2 * b) 0 = a ∧ tb (a + 2 * b) 1 = b := by decide +kernel
theorem l_take : lawS_7 Rel := by
  unfold lawS_7
  intro S h hz rt rl x_printing_dishes x_printing_lines x_printing_weights x_printing_set x_printing_number x_printing_prices x_printing_allergens x_printing_column pg hist st mt ml hR a1
  obtain ⟨hS, ⟨z, rfl, rfl, hH⟩, hT⟩ := hR
  have hR : Rel S h (nI z) rt rl pg hist (nI z) mt ml := ⟨hS, ⟨z, rfl, rfl, hH⟩, hT⟩
  have hz5 := hH.1
  obtain ⟨hM, k0, k1, hk0, hk1, p151, p303, hkk, f0, f1⟩ := id hS
  obtain ⟨n, g, s, sd, hg, ho, hw, ⟨cn, cv, cst, cw⟩, hRR⟩ := id hM
  obtain ⟨rn, rv, rst, rsd⟩ := id hRR
  have hn := hg.1
  unfold p_X8_take p_X9_take
  by_cases h9 : ∃ x, 0 ≤ x ∧ x ≤ 1 ∧ a1 = nI x
  · obtain ⟨k, _, hk, rfl⟩ := id h9
    have hor := kk_or k0 (by omega) k1 (by omega)
    have hM' : relM (S.1.1, S.1.2.1, nI n, S.1.2.2.2) pg := by
      rw [← cn]
      exact hM
    simp (disch := omega) only [li_0, li_1, li_2, li_3, li_4, li_5, li_6, li_7, li_8, li_9, li_10, li_11, li_12, li_13, li_14, li_15, li_16, li_20, li_26, li_31, li_32, li_36, li_42, li_43, li_48, li_52, li_57, li_58, li_59, li_60, li_63, li_97, li_99, li_104, li_112, li_115, li_119, li_140, li_141, li_142, li_143, li_144, li_145, li_146, li_147, li_148, li_149, li_150, li_151, li_152, li_255, li_303, li_455, li_999, li_1000, li_1510, li_1820, li_2275, li_9999, li_10000, li_100000, li_1048575, li_100000000, e_isSlot, h9, nI_eqI, Nat.one_ne_zero, true_and, and_true, not_true_eq_false, not_false_eq_true, true_imp_iff, false_imp_iff, false_and, and_false, imp_false, Classical.not_not, Bool.false_eq_true, Nat.zero_ne_one, Nat.one_ne_zero, Nat.not_lt_zero, if_true, if_false, implies_true]
    have : k = 0 ∨ k = 1 := by omega
    rcases this with rfl | rfl
    · have hor := hor 0 (by decide)
      refine i_record hz5 ?_
      intro h' hpc
      unfold p_X7_keep
      simp (disch := omega) only [li_0, li_1, li_2, li_3, li_4, li_5, li_6, li_7, li_8, li_9, li_10, li_11, li_12, li_13, li_14, li_15, li_16, li_20, li_26, li_31, li_32, li_36, li_42, li_43, li_48, li_52, li_57, li_58, li_59, li_60, li_63, li_97, li_99, li_104, li_112, li_115, li_119, li_140, li_141, li_142, li_143, li_144, li_145, li_146, li_147, li_148, li_149, li_150, li_151, li_152, li_255, li_303, li_455, li_999, li_1000, li_1510, li_1820, li_2275, li_9999, li_10000, li_100000, li_1048575, li_100000000, e_isSlot, h9, nI_eqI, vp_t, nI_clamp, e_copyFrom, hkk, hor, Nat.one_ne_zero, Nat.zero_ne_one, Nat.reduceLT, if_true, if_false, true_and, and_true, not_true_eq_false, not_false_eq_true, true_imp_iff, false_imp_iff, false_and, and_false, imp_false, Classical.not_not, Bool.false_eq_true, Nat.zero_ne_one, Nat.one_ne_zero, Nat.not_lt_zero, if_true, if_false, implies_true]
      rw [cn]
      refine i_findPrinted cv cst hg ho ?_
      intro D' L' W' set num pri all col hP
      obtain ⟨_, _, _, _, rfl, _, _, _⟩ := hP
      simp (disch := omega) only [li_0, li_1, li_2, li_3, li_4, li_5, li_6, li_7, li_8, li_9, li_10, li_11, li_12, li_13, li_14, li_15, li_16, li_20, li_26, li_31, li_32, li_36, li_42, li_43, li_48, li_52, li_57, li_58, li_59, li_60, li_63, li_97, li_99, li_104, li_112, li_115, li_119, li_140, li_141, li_142, li_143, li_144, li_145, li_146, li_147, li_148, li_149, li_150, li_151, li_152, li_255, li_303, li_455, li_999, li_1000, li_1510, li_1820, li_2275, li_9999, li_10000, li_100000, li_1048575, li_100000000, e_in, h9, nI_eqI, Nat.one_ne_zero, true_and, and_true, not_true_eq_false, not_false_eq_true, true_imp_iff, false_imp_iff, false_and, and_false, imp_false, Classical.not_not, Bool.false_eq_true, Nat.zero_ne_one, Nat.one_ne_zero, Nat.not_lt_zero, if_true, if_false, implies_true]
      refine i_keep hz5 ?_
      intro hist' hpr
      simp (disch := omega) only [li_0, li_1, li_2, li_3, li_4, li_5, li_6, li_7, li_8, li_9, li_10, li_11, li_12, li_13, li_14, li_15, li_16, li_20, li_26, li_31, li_32, li_36, li_42, li_43, li_48, li_52, li_57, li_58, li_59, li_60, li_63, li_97, li_99, li_104, li_112, li_115, li_119, li_140, li_141, li_142, li_143, li_144, li_145, li_146, li_147, li_148, li_149, li_150, li_151, li_152, li_255, li_303, li_455, li_999, li_1000, li_1510, li_1820, li_2275, li_9999, li_10000, li_100000, li_1048575, li_100000000, vp_t, nI_clamp, pk_mul, nI_add, Nat.reduceMul, Nat.reduceAdd, Nat.reduceLT, true_and, and_true, not_true_eq_false, not_false_eq_true, true_imp_iff, false_imp_iff, false_and, and_false, imp_false, Classical.not_not, Bool.false_eq_true, Nat.zero_ne_one, Nat.one_ne_zero, Nat.not_lt_zero, if_true, if_false, implies_true]
      refine i_bringc (by decide) (by decide) (Or.inr (by decide)) ?_
      intro v' q1 q2
      have hpgv : ∀ j, j < 151 → v' j = pg j := fun j hj => by rw [q2 j (by omega), pk_un (by omega)]
      have hRv := relR_cg hpgv hRR
      refine i_printedSize hRv hg ho ?_
      refine ⟨rfl, ⟨⟨n, g, s, sd, hg, ho, hw, ⟨rfl, cv, cst, cw⟩, hRv⟩, 1, k1, Nat.le_refl 1, hk1, ?_, ?_, rfl, fun _ => ?_, fun q => relM_cg (fun j hj => ?_) (f1 q)⟩, ⟨_, rfl, rfl, relH_push hH hS hpc hpr⟩, hT⟩
      · rw [q2 _ (by omega)]
        exact pk_us
      · rw [q2 _ (by omega), pk_un (by omega)]
        exact p303
      · refine relM_cpy (relM_cg (fun j hj => ?_) hM')
        rw [q1 j hj, Nat.zero_add, pk_un (by omega)]
      · rw [q2 _ (by omega), pk_un (by omega)]
    · have hor := hor 1 (by decide)
      refine i_record hz5 ?_
      intro h' hpc
      unfold p_X7_keep
      simp (disch := omega) only [li_0, li_1, li_2, li_3, li_4, li_5, li_6, li_7, li_8, li_9, li_10, li_11, li_12, li_13, li_14, li_15, li_16, li_20, li_26, li_31, li_32, li_36, li_42, li_43, li_48, li_52, li_57, li_58, li_59, li_60, li_63, li_97, li_99, li_104, li_112, li_115, li_119, li_140, li_141, li_142, li_143, li_144, li_145, li_146, li_147, li_148, li_149, li_150, li_151, li_152, li_255, li_303, li_455, li_999, li_1000, li_1510, li_1820, li_2275, li_9999, li_10000, li_100000, li_1048575, li_100000000, e_isSlot, h9, nI_eqI, vp_t, nI_clamp, e_copyFrom, hkk, hor, Nat.one_ne_zero, Nat.zero_ne_one, Nat.reduceLT, if_true, if_false, true_and, and_true, not_true_eq_false, not_false_eq_true, true_imp_iff, false_imp_iff, false_and, and_false, imp_false, Classical.not_not, Bool.false_eq_true, Nat.zero_ne_one, Nat.one_ne_zero, Nat.not_lt_zero, if_true, if_false, implies_true]
      rw [cn]
      refine i_findPrinted cv cst hg ho ?_
      intro D' L' W' set num pri all col hP
      obtain ⟨_, _, _, _, rfl, _, _, _⟩ := hP
      simp (disch := omega) only [li_0, li_1, li_2, li_3, li_4, li_5, li_6, li_7, li_8, li_9, li_10, li_11, li_12, li_13, li_14, li_15, li_16, li_20, li_26, li_31, li_32, li_36, li_42, li_43, li_48, li_52, li_57, li_58, li_59, li_60, li_63, li_97, li_99, li_104, li_112, li_115, li_119, li_140, li_141, li_142, li_143, li_144, li_145, li_146, li_147, li_148, li_149, li_150, li_151, li_152, li_255, li_303, li_455, li_999, li_1000, li_1510, li_1820, li_2275, li_9999, li_10000, li_100000, li_1048575, li_100000000, e_in, h9, nI_eqI, Nat.one_ne_zero, true_and, and_true, not_true_eq_false, not_false_eq_true, true_imp_iff, false_imp_iff, false_and, and_false, imp_false, Classical.not_not, Bool.false_eq_true, Nat.zero_ne_one, Nat.one_ne_zero, Nat.not_lt_zero, if_true, if_false, implies_true]
      refine i_keep hz5 ?_
      intro hist' hpr
      simp (disch := omega) only [li_0, li_1, li_2, li_3, li_4, li_5, li_6, li_7, li_8, li_9, li_10, li_11, li_12, li_13, li_14, li_15, li_16, li_20, li_26, li_31, li_32, li_36, li_42, li_43, li_48, li_52, li_57, li_58, li_59, li_60, li_63, li_97, li_99, li_104, li_112, li_115, li_119, li_140, li_141, li_142, li_143, li_144, li_145, li_146, li_147, li_148, li_149, li_150, li_151, li_152, li_255, li_303, li_455, li_999, li_1000, li_1510, li_1820, li_2275, li_9999, li_10000, li_100000, li_1048575, li_100000000, vp_t, nI_clamp, pk_mul, nI_add, Nat.reduceMul, Nat.reduceAdd, Nat.reduceLT, true_and, and_true, not_true_eq_false, not_false_eq_true, true_imp_iff, false_imp_iff, false_and, and_false, imp_false, Classical.not_not, Bool.false_eq_true, Nat.zero_ne_one, Nat.one_ne_zero, Nat.not_lt_zero, if_true, if_false, implies_true]
      refine i_bringc (by decide) (by decide) (Or.inr (by decide)) ?_
      intro v' q1 q2
      have hpgv : ∀ j, j < 151 → v' j = pg j := fun j hj => by rw [q2 j (by omega), pk_un (by omega)]
      have hRv := relR_cg hpgv hRR
      refine i_printedSize hRv hg ho ?_
      refine ⟨rfl, ⟨⟨n, g, s, sd, hg, ho, hw, ⟨rfl, cv, cst, cw⟩, hRv⟩, k0, 1, hk0, Nat.le_refl 1, ?_, ?_, rfl, fun q => relM_cg (fun j hj => ?_) (f0 q), fun _ => ?_⟩, ⟨_, rfl, rfl, relH_push hH hS hpc hpr⟩, hT⟩
      · rw [q2 _ (by omega), pk_un (by omega)]
        exact p151
      · rw [q2 _ (by omega)]
        exact pk_us
      · rw [q2 _ (by omega), pk_un (by omega)]
      · refine relM_cpy (relM_cg (fun j hj => ?_) hM')
        rw [q1 j hj, Nat.zero_add, pk_un (by omega)]
  · simp (disch := omega) only [li_0, li_1, li_2, li_3, li_4, li_5, li_6, li_7, li_8, li_9, li_10, li_11, li_12, li_13, li_14, li_15, li_16, li_20, li_26, li_31, li_32, li_36, li_42, li_43, li_48, li_52, li_57, li_58, li_59, li_60, li_63, li_97, li_99, li_104, li_112, li_115, li_119, li_140, li_141, li_142, li_143, li_144, li_145, li_146, li_147, li_148, li_149, li_150, li_151, li_152, li_255, li_303, li_455, li_999, li_1000, li_1510, li_1820, li_2275, li_9999, li_10000, li_100000, li_1048575, li_100000000, e_isSlot, e_in, h9, nI_eqI, Nat.one_ne_zero, true_and, and_true, not_true_eq_false, not_false_eq_true, true_imp_iff, false_imp_iff, false_and, and_false, imp_false, Classical.not_not, Bool.false_eq_true, Nat.zero_ne_one, Nat.one_ne_zero, Nat.not_lt_zero, if_true, if_false, implies_true]
    exact hR
theorem l_restore : lawS_8 Rel := by
  unfold lawS_8
  intro S h hz rt rl x_printing_dishes x_printing_lines x_printing_weights x_printing_set x_printing_number x_printing_prices x_printing_allergens x_printing_column pg hist st mt ml hR a1
  obtain ⟨hS, ⟨z, rfl, rfl, hH⟩, hT⟩ := hR
  have hR : Rel S h (nI z) rt rl pg hist (nI z) mt ml := ⟨hS, ⟨z, rfl, rfl, hH⟩, hT⟩
  have hz5 := hH.1
  obtain ⟨hM, k0, k1, hk0, hk1, p151, p303, hkk, f0, f1⟩ := id hS
  obtain ⟨n, g, s, sd, hg, ho, hw, ⟨cn, cv, cst, cw⟩, hRR⟩ := id hM
  obtain ⟨rn, rv, rst, rsd⟩ := id hRR
  have hn := hg.1
  unfold p_X8_restore p_X9_restore
  by_cases h9 : ∃ x, 0 ≤ x ∧ x ≤ 1 ∧ a1 = nI x
  · obtain ⟨k, _, hk, rfl⟩ := id h9
    have htb := kk_tb k0 (by omega) k1 (by omega)
    have : k = 0 ∨ k = 1 := by omega
    rcases this with rfl | rfl
    · unfold p_X7_isKept
      by_cases hkp : k0 = 1
      · have hb : tb (k0 + 2 * k1) 0 = 1 := by rw [htb.1, hkp]
        have hk00 : ¬ k0 = 0 := by omega
        simp (disch := omega) only [li_0, li_1, li_2, li_3, li_4, li_5, li_6, li_7, li_8, li_9, li_10, li_11, li_12, li_13, li_14, li_15, li_16, li_20, li_26, li_31, li_32, li_36, li_42, li_43, li_48, li_52, li_57, li_58, li_59, li_60, li_63, li_97, li_99, li_104, li_112, li_115, li_119, li_140, li_141, li_142, li_143, li_144, li_145, li_146, li_147, li_148, li_149, li_150, li_151, li_152, li_255, li_303, li_455, li_999, li_1000, li_1510, li_1820, li_2275, li_9999, li_10000, li_100000, li_1048575, li_100000000, e_isSlot, h9, hkk, e_has, hb, nI_eqI, Nat.one_ne_zero, true_and, and_true, not_true_eq_false, not_false_eq_true, true_imp_iff, false_imp_iff, false_and, and_false, imp_false, Classical.not_not, Bool.false_eq_true, Nat.zero_ne_one, Nat.one_ne_zero, Nat.not_lt_zero, if_true, if_false, implies_true]
        refine i_record hz5 ?_
        intro h' hpc
        unfold p_X7_bringBack p_X7_isKept
        simp (disch := omega) only [li_0, li_1, li_2, li_3, li_4, li_5, li_6, li_7, li_8, li_9, li_10, li_11, li_12, li_13, li_14, li_15, li_16, li_20, li_26, li_31, li_32, li_36, li_42, li_43, li_48, li_52, li_57, li_58, li_59, li_60, li_63, li_97, li_99, li_104, li_112, li_115, li_119, li_140, li_141, li_142, li_143, li_144, li_145, li_146, li_147, li_148, li_149, li_150, li_151, li_152, li_255, li_303, li_455, li_999, li_1000, li_1510, li_1820, li_2275, li_9999, li_10000, li_100000, li_1048575, li_100000000, e_isSlot, h9, hkk, e_has, hb, nI_eqI, vp_t, nI_clamp, e_copyFrom, Nat.one_ne_zero, Nat.zero_ne_one, Nat.reduceLT, true_and, and_true, not_true_eq_false, not_false_eq_true, true_imp_iff, false_imp_iff, false_and, and_false, imp_false, Classical.not_not, Bool.false_eq_true, Nat.zero_ne_one, Nat.one_ne_zero, Nat.not_lt_zero, if_true, if_false, implies_true]
        obtain ⟨n2, g2, s2, sd2, hg2, ho2, hw2, hC2, hR2⟩ := f0 hkp
        obtain ⟨cn2, cv2, cst2, cw2⟩ := relC_cpy (v := S.1.1) (st := S.1.2.1) hC2
        rw [cn2]
        refine i_findPrinted cv2 cst2 hg2 ho2 ?_
        intro D' L' W' set num pri all col hP
        obtain ⟨_, _, _, _, rfl, _, _, _⟩ := hP
        simp (disch := omega) only [li_0, li_1, li_2, li_3, li_4, li_5, li_6, li_7, li_8, li_9, li_10, li_11, li_12, li_13, li_14, li_15, li_16, li_20, li_26, li_31, li_32, li_36, li_42, li_43, li_48, li_52, li_57, li_58, li_59, li_60, li_63, li_97, li_99, li_104, li_112, li_115, li_119, li_140, li_141, li_142, li_143, li_144, li_145, li_146, li_147, li_148, li_149, li_150, li_151, li_152, li_255, li_303, li_455, li_999, li_1000, li_1510, li_1820, li_2275, li_9999, li_10000, li_100000, li_1048575, li_100000000, e_in, h9, nI_eqI, vp_t, nI_clamp, pk_mul, nI_add, p151, hk00, Nat.reduceMul, Nat.reduceAdd, Nat.one_ne_zero, Nat.reduceLT, true_and, and_true, not_true_eq_false, not_false_eq_true, true_imp_iff, false_imp_iff, false_and, and_false, imp_false, Classical.not_not, Bool.false_eq_true, Nat.zero_ne_one, Nat.one_ne_zero, Nat.not_lt_zero, if_true, if_false, implies_true]
        refine i_keep hz5 ?_
        intro hist' hpr
        refine i_bringc (by decide) (by decide) (Or.inl (by decide)) ?_
        intro v' q1 q2
        have hRv : relR n2 g2 s2 sd2 v' := relR_cg (fun j hj => by have := q1 j hj; rw [Nat.zero_add] at this; exact this) hR2
        refine i_printedSize hRv hg2 ho2 ?_
        exact ⟨rfl, by rw [← cn2, ← hkk]; exact relS_menu (M := (va_cpy S.2.1.1 S.1.1 0 0 140, va_cpy S.2.1.2.1 S.1.2.1 0 0 6, S.2.1.2.2.1, S.2.1.2.2.2)) hS ⟨n2, g2, s2, sd2, hg2, ho2, hw2, ⟨cn2, cv2, cst2, cw2⟩, hRv⟩ (fun j hj => q2 j (by omega)), ⟨_, rfl, rfl, relH_push hH hS hpc hpr⟩, hT⟩
      · have hkp0 : k0 = 0 := by omega
        have hb : ¬ tb (k0 + 2 * k1) 0 = 1 := by rw [htb.1]; exact hkp
        have hpp : pg 151 = nI 0 := by rw [p151, hkp0]
        simp (disch := omega) only [li_0, li_1, li_2, li_3, li_4, li_5, li_6, li_7, li_8, li_9, li_10, li_11, li_12, li_13, li_14, li_15, li_16, li_20, li_26, li_31, li_32, li_36, li_42, li_43, li_48, li_52, li_57, li_58, li_59, li_60, li_63, li_97, li_99, li_104, li_112, li_115, li_119, li_140, li_141, li_142, li_143, li_144, li_145, li_146, li_147, li_148, li_149, li_150, li_151, li_152, li_255, li_303, li_455, li_999, li_1000, li_1510, li_1820, li_2275, li_9999, li_10000, li_100000, li_1048575, li_100000000, e_isSlot, e_in, h9, hkk, e_has, hb, nI_eqI, vp_t, nI_clamp, pk_mul, nI_add, hpp, Nat.reduceMul, Nat.reduceAdd, Nat.one_ne_zero, Nat.zero_ne_one, Nat.reduceLT, true_and, and_true, not_true_eq_false, not_false_eq_true, true_imp_iff, false_imp_iff, false_and, and_false, imp_false, Classical.not_not, Bool.false_eq_true, Nat.zero_ne_one, Nat.one_ne_zero, Nat.not_lt_zero, if_true, if_false, implies_true]
        exact hR
    · unfold p_X7_isKept
      by_cases hkp : k1 = 1
      · have hb : tb (k0 + 2 * k1) 1 = 1 := by rw [htb.2, hkp]
        have hk00 : ¬ k1 = 0 := by omega
        simp (disch := omega) only [li_0, li_1, li_2, li_3, li_4, li_5, li_6, li_7, li_8, li_9, li_10, li_11, li_12, li_13, li_14, li_15, li_16, li_20, li_26, li_31, li_32, li_36, li_42, li_43, li_48, li_52, li_57, li_58, li_59, li_60, li_63, li_97, li_99, li_104, li_112, li_115, li_119, li_140, li_141, li_142, li_143, li_144, li_145, li_146, li_147, li_148, li_149, li_150, li_151, li_152, li_255, li_303, li_455, li_999, li_1000, li_1510, li_1820, li_2275, li_9999, li_10000, li_100000, li_1048575, li_100000000, e_isSlot, h9, hkk, e_has, hb, nI_eqI, Nat.one_ne_zero, true_and, and_true, not_true_eq_false, not_false_eq_true, true_imp_iff, false_imp_iff, false_and, and_false, imp_false, Classical.not_not, Bool.false_eq_true, Nat.zero_ne_one, Nat.one_ne_zero, Nat.not_lt_zero, if_true, if_false, implies_true]
        refine i_record hz5 ?_
        intro h' hpc
        unfold p_X7_bringBack p_X7_isKept
        simp (disch := omega) only [li_0, li_1, li_2, li_3, li_4, li_5, li_6, li_7, li_8, li_9, li_10, li_11, li_12, li_13, li_14, li_15, li_16, li_20, li_26, li_31, li_32, li_36, li_42, li_43, li_48, li_52, li_57, li_58, li_59, li_60, li_63, li_97, li_99, li_104, li_112, li_115, li_119, li_140, li_141, li_142, li_143, li_144, li_145, li_146, li_147, li_148, li_149, li_150, li_151, li_152, li_255, li_303, li_455, li_999, li_1000, li_1510, li_1820, li_2275, li_9999, li_10000, li_100000, li_1048575, li_100000000, e_isSlot, h9, hkk, e_has, hb, nI_eqI, vp_t, nI_clamp, e_copyFrom, Nat.one_ne_zero, Nat.zero_ne_one, Nat.reduceLT, true_and, and_true, not_true_eq_false, not_false_eq_true, true_imp_iff, false_imp_iff, false_and, and_false, imp_false, Classical.not_not, Bool.false_eq_true, Nat.zero_ne_one, Nat.one_ne_zero, Nat.not_lt_zero, if_true, if_false, implies_true]
        obtain ⟨n2, g2, s2, sd2, hg2, ho2, hw2, hC2, hR2⟩ := f1 hkp
        obtain ⟨cn2, cv2, cst2, cw2⟩ := relC_cpy (v := S.1.1) (st := S.1.2.1) hC2
        rw [cn2]
        refine i_findPrinted cv2 cst2 hg2 ho2 ?_
        intro D' L' W' set num pri all col hP
        obtain ⟨_, _, _, _, rfl, _, _, _⟩ := hP
        simp (disch := omega) only [li_0, li_1, li_2, li_3, li_4, li_5, li_6, li_7, li_8, li_9, li_10, li_11, li_12, li_13, li_14, li_15, li_16, li_20, li_26, li_31, li_32, li_36, li_42, li_43, li_48, li_52, li_57, li_58, li_59, li_60, li_63, li_97, li_99, li_104, li_112, li_115, li_119, li_140, li_141, li_142, li_143, li_144, li_145, li_146, li_147, li_148, li_149, li_150, li_151, li_152, li_255, li_303, li_455, li_999, li_1000, li_1510, li_1820, li_2275, li_9999, li_10000, li_100000, li_1048575, li_100000000, e_in, h9, nI_eqI, vp_t, nI_clamp, pk_mul, nI_add, p303, hk00, Nat.reduceMul, Nat.reduceAdd, Nat.one_ne_zero, Nat.reduceLT, true_and, and_true, not_true_eq_false, not_false_eq_true, true_imp_iff, false_imp_iff, false_and, and_false, imp_false, Classical.not_not, Bool.false_eq_true, Nat.zero_ne_one, Nat.one_ne_zero, Nat.not_lt_zero, if_true, if_false, implies_true]
        refine i_keep hz5 ?_
        intro hist' hpr
        refine i_bringc (by decide) (by decide) (Or.inl (by decide)) ?_
        intro v' q1 q2
        have hRv : relR n2 g2 s2 sd2 v' := relR_cg (fun j hj => by have := q1 j hj; rw [Nat.zero_add] at this; exact this) hR2
        refine i_printedSize hRv hg2 ho2 ?_
        exact ⟨rfl, by rw [← cn2, ← hkk]; exact relS_menu (M := (va_cpy S.2.2.1.1 S.1.1 0 0 140, va_cpy S.2.2.1.2.1 S.1.2.1 0 0 6, S.2.2.1.2.2.1, S.2.2.1.2.2.2)) hS ⟨n2, g2, s2, sd2, hg2, ho2, hw2, ⟨cn2, cv2, cst2, cw2⟩, hRv⟩ (fun j hj => q2 j (by omega)), ⟨_, rfl, rfl, relH_push hH hS hpc hpr⟩, hT⟩
      · have hkp0 : k1 = 0 := by omega
        have hb : ¬ tb (k0 + 2 * k1) 1 = 1 := by rw [htb.2]; exact hkp
        have hpp : pg 303 = nI 0 := by rw [p303, hkp0]
        simp (disch := omega) only [li_0, li_1, li_2, li_3, li_4, li_5, li_6, li_7, li_8, li_9, li_10, li_11, li_12, li_13, li_14, li_15, li_16, li_20, li_26, li_31, li_32, li_36, li_42, li_43, li_48, li_52, li_57, li_58, li_59, li_60, li_63, li_97, li_99, li_104, li_112, li_115, li_119, li_140, li_141, li_142, li_143, li_144, li_145, li_146, li_147, li_148, li_149, li_150, li_151, li_152, li_255, li_303, li_455, li_999, li_1000, li_1510, li_1820, li_2275, li_9999, li_10000, li_100000, li_1048575, li_100000000, e_isSlot, e_in, h9, hkk, e_has, hb, nI_eqI, vp_t, nI_clamp, pk_mul, nI_add, hpp, Nat.reduceMul, Nat.reduceAdd, Nat.one_ne_zero, Nat.zero_ne_one, Nat.reduceLT, true_and, and_true, not_true_eq_false, not_false_eq_true, true_imp_iff, false_imp_iff, false_and, and_false, imp_false, Classical.not_not, Bool.false_eq_true, Nat.zero_ne_one, Nat.one_ne_zero, Nat.not_lt_zero, if_true, if_false, implies_true]
        exact hR
  · simp (disch := omega) only [li_0, li_1, li_2, li_3, li_4, li_5, li_6, li_7, li_8, li_9, li_10, li_11, li_12, li_13, li_14, li_15, li_16, li_20, li_26, li_31, li_32, li_36, li_42, li_43, li_48, li_52, li_57, li_58, li_59, li_60, li_63, li_97, li_99, li_104, li_112, li_115, li_119, li_140, li_141, li_142, li_143, li_144, li_145, li_146, li_147, li_148, li_149, li_150, li_151, li_152, li_255, li_303, li_455, li_999, li_1000, li_1510, li_1820, li_2275, li_9999, li_10000, li_100000, li_1048575, li_100000000, e_isSlot, e_in, h9, nI_eqI, Nat.one_ne_zero, true_and, and_true, not_true_eq_false, not_false_eq_true, true_imp_iff, false_imp_iff, false_and, and_false, imp_false, Classical.not_not, Bool.false_eq_true, Nat.zero_ne_one, Nat.one_ne_zero, Nat.not_lt_zero, if_true, if_false, implies_true]
    exact hR
theorem l_undo : lawS_9 Rel := by
  unfold lawS_9
  intro S h hz rt rl pg hist st mt ml hR
  obtain ⟨hS, ⟨z, rfl, rfl, hH⟩, hT⟩ := hR
  have hR : Rel S h (nI z) rt rl pg hist (nI z) mt ml := ⟨hS, ⟨z, rfl, rfl, hH⟩, hT⟩
  have hz5 := hH.1
  obtain ⟨hM, k0, k1, hk0, hk1, p151, p303, hkk, f0, f1⟩ := id hS
  obtain ⟨n, g, s, sd, hg, ho, hw, ⟨cn, cv, cst, cw⟩, hRR⟩ := id hM
  obtain ⟨rn, rv, rst, rsd⟩ := id hRR
  have hn := hg.1
  unfold p_X8_undo p_X9_undo
  simp (disch := omega) only [li_0, li_1, li_2, li_3, li_4, li_5, li_6, li_7, li_8, li_9, li_10, li_11, li_12, li_13, li_14, li_15, li_16, li_20, li_26, li_31, li_32, li_36, li_42, li_43, li_48, li_52, li_57, li_58, li_59, li_60, li_63, li_97, li_99, li_104, li_112, li_115, li_119, li_140, li_141, li_142, li_143, li_144, li_145, li_146, li_147, li_148, li_149, li_150, li_151, li_152, li_255, li_303, li_455, li_999, li_1000, li_1510, li_1820, li_2275, li_9999, li_10000, li_100000, li_1048575, li_100000000, nI_eqI]
  refine ⟨fun h0 => ?_, fun h0 => ?_⟩
  · unfold p_X2_giveBack
    obtain ⟨y, rfl⟩ : ∃ y, z = y + 1 := ⟨z - 1, by omega⟩
    have e1 : nI (y + 1) - nI 1 = nI y := by rw [pk_sub (by omega)]; rfl
    have h2 : ¬ y + 1 ≤ 0 := by omega
    have hy : y < 5 := by omega
    simp (disch := omega) only [li_0, li_1, li_2, li_3, li_4, li_5, li_6, li_7, li_8, li_9, li_10, li_11, li_12, li_13, li_14, li_15, li_16, li_20, li_26, li_31, li_32, li_36, li_42, li_43, li_48, li_52, li_57, li_58, li_59, li_60, li_63, li_97, li_99, li_104, li_112, li_115, li_119, li_140, li_141, li_142, li_143, li_144, li_145, li_146, li_147, li_148, li_149, li_150, li_151, li_152, li_255, li_303, li_455, li_999, li_1000, li_1510, li_1820, li_2275, li_9999, li_10000, li_100000, li_1048575, li_100000000, nI_leI, nI_eqI, h2, e1, vp_t, nI_clamp, hy, h0, pk_mul, true_and, and_true, not_true_eq_false, not_false_eq_true, true_imp_iff, false_imp_iff, false_and, and_false, imp_false, Classical.not_not, Bool.false_eq_true, Nat.zero_ne_one, Nat.one_ne_zero, Nat.not_lt_zero, if_true, if_false, implies_true]
    have go : p_X7_copyFrom S (h y) (fun values => p_X9_bringd hist pg (nI (455 * y)) (nI 0) (nI 455) (fun page => Rel values h (nI y) rt rl page hist (nI y) mt ml)) := by
      refine i_copyS ?_
      intro S' hS'
      refine i_bringd (by omega) (by omega) ?_
      intro v' q1 q2
      refine ⟨hS' _ (relS_cg (fun j hj => ?_) (hH.2 y (by omega))), ⟨y, rfl, rfl, by omega, fun j hj => hH.2 j (by omega)⟩, hT⟩
      have := q1 j hj
      rw [Nat.zero_add] at this
      exact this
    have : y = 0 ∨ y = 1 ∨ y = 2 ∨ y = 3 ∨ y = 4 := by omega
    rcases this with rfl | rfl | rfl | rfl | rfl
    · exact ⟨fun _ => go, fun e => absurd e (by decide), fun e => absurd e (by decide), fun e => absurd e (by decide), fun e => absurd e (by decide)⟩
    · exact ⟨fun e => absurd e (by decide), fun _ => go, fun e => absurd e (by decide), fun e => absurd e (by decide), fun e => absurd e (by decide)⟩
    · exact ⟨fun e => absurd e (by decide), fun e => absurd e (by decide), fun _ => go, fun e => absurd e (by decide), fun e => absurd e (by decide)⟩
    · exact ⟨fun e => absurd e (by decide), fun e => absurd e (by decide), fun e => absurd e (by decide), fun _ => go, fun e => absurd e (by decide)⟩
    · exact ⟨fun e => absurd e (by decide), fun e => absurd e (by decide), fun e => absurd e (by decide), fun e => absurd e (by decide), fun _ => go⟩
  · subst h0
    refine ⟨fun q => absurd rfl q, fun _ => ?_⟩
    first
    | exact hR
    | exact ⟨trivial, hR⟩

/-! ===== ranges ===== -/
theorem e_inRange {a : Int32} {lo hi : Nat} (h1 : lo < 2 ^ 31) (h2 : hi < 2 ^ 31) {Q : Int32 → Prop} : p_X8_inRange a (nI lo) (nI hi) Q ↔ ((∃ x, lo ≤ x ∧ x ≤ hi ∧ a = nI x) → Q (nI 1)) ∧ (¬ (∃ x, lo ≤ x ∧ x ≤ hi ∧ a = nI x) → Q (nI 0)) := by
  unfold p_X8_inRange
  simp only [li_0, li_1, li_2, li_3, li_4, li_5, li_6, li_7, li_8, li_9, li_10, li_11, li_12, li_13, li_14, li_15, li_16, li_20, li_26, li_31, li_32, li_36, li_42, li_43, li_48, li_52, li_57, li_58, li_59, li_60, li_63, li_97, li_99, li_104, li_112, li_115, li_119, li_140, li_141, li_142, li_143, li_144, li_145, li_146, li_147, li_148, li_149, li_150, li_151, li_152, li_255, li_303, li_455, li_999, li_1000, li_1510, li_1820, li_2275, li_9999, li_10000, li_100000, li_1048575, li_100000000]
  rcases sg a with h | ⟨x, hx, rfl⟩
  · have e : ¬ ∃ x, lo ≤ x ∧ x ≤ hi ∧ a = nI x := by
      rintro ⟨x, _, hx2, rfl⟩
      exact (c_pos (by omega)).1 h
    simp only [(sg_lt h h1).1, e, true_and, and_true, not_true_eq_false, not_false_eq_true, true_imp_iff, false_imp_iff, false_and, and_false, imp_false, Classical.not_not, Bool.false_eq_true, Nat.zero_ne_one, Nat.one_ne_zero, Nat.not_lt_zero, if_true, if_false, implies_true]
  · by_cases h : lo ≤ x ∧ x ≤ hi
    · have e : ∃ y, lo ≤ y ∧ y ≤ hi ∧ nI x = nI y := ⟨x, h.1, h.2, rfl⟩
      have a1 : ¬ x < lo := by omega
      have a2 : ¬ hi < x := by omega
      simp (disch := omega) only [nI_add, pk_mul, nI_clamp, nI_leI, nI_ltI, nI_eqI, vp_t, c_pos, c_npos, e, a1, a2, true_and, and_true, not_true_eq_false, not_false_eq_true, true_imp_iff, false_imp_iff, false_and, and_false, imp_false, Classical.not_not, Bool.false_eq_true, Nat.zero_ne_one, Nat.one_ne_zero, Nat.not_lt_zero, if_true, if_false, implies_true]
    · have e : ¬ ∃ y, lo ≤ y ∧ y ≤ hi ∧ nI x = nI y := by
        rintro ⟨y, hy1, hy2, he⟩
        rw [nI_eq hx (by omega)] at he
        omega
      by_cases a1 : x < lo
      · simp (disch := omega) only [nI_add, pk_mul, nI_clamp, nI_leI, nI_ltI, nI_eqI, vp_t, c_pos, c_npos, e, a1, true_and, and_true, not_true_eq_false, not_false_eq_true, true_imp_iff, false_imp_iff, false_and, and_false, imp_false, Classical.not_not, Bool.false_eq_true, Nat.zero_ne_one, Nat.one_ne_zero, Nat.not_lt_zero, if_true, if_false, implies_true]
      · have a2 : hi < x := by omega
        simp (disch := omega) only [nI_add, pk_mul, nI_clamp, nI_leI, nI_ltI, nI_eqI, vp_t, c_pos, c_npos, e, a1, a2, true_and, and_true, not_true_eq_false, not_false_eq_true, true_imp_iff, false_imp_iff, false_and, and_false, imp_false, Classical.not_not, Bool.false_eq_true, Nat.zero_ne_one, Nat.one_ne_zero, Nat.not_lt_zero, if_true, if_false, implies_true]
/-- for a number that is known -/
theorem e_inRangeN {a lo hi : Nat} (h0 : a < 2 ^ 31) (h1 : lo < 2 ^ 31) (h2 : hi < 2 ^ 31) {Q : Int32 → Prop} : p_X8_inRange (nI a) (nI lo) (nI hi) Q ↔ (lo ≤ a ∧ a ≤ hi → Q (nI 1)) ∧ (¬ (lo ≤ a ∧ a ≤ hi) → Q (nI 0)) := by
  rw [e_inRange h1 h2]
  have : (∃ x, lo ≤ x ∧ x ≤ hi ∧ nI a = nI x) ↔ lo ≤ a ∧ a ≤ hi := by
    constructor
    · rintro ⟨x, a1, a2, e⟩
      rw [nI_eq h0 (by omega)] at e
      omega
    · rintro ⟨a1, a2⟩
      exact ⟨a, a1, a2, rfl⟩
  rw [this]
theorem e_has {s k : Nat} (hs : s < 2 ^ 31) (hk : k < 32) {Q : Int32 → Prop} : p_X8_has (nI s) (nI k) Q ↔ (tb s k = 1 → Q (nI 1)) ∧ (¬ tb s k = 1 → Q (nI 0)) := by
  unfold p_X8_has
  have := tb_lt s k
  simp (disch := omega) only [li_0, li_1, li_2, li_3, li_4, li_5, li_6, li_7, li_8, li_9, li_10, li_11, li_12, li_13, li_14, li_15, li_16, li_20, li_26, li_31, li_32, li_36, li_42, li_43, li_48, li_52, li_57, li_58, li_59, li_60, li_63, li_97, li_99, li_104, li_112, li_115, li_119, li_140, li_141, li_142, li_143, li_144, li_145, li_146, li_147, li_148, li_149, li_150, li_151, li_152, li_255, li_303, li_455, li_999, li_1000, li_1510, li_1820, li_2275, li_9999, li_10000, li_100000, li_1048575, li_100000000, e_bit, nI_add, pk_mul, nI_clamp, nI_leI, nI_ltI, nI_eqI, vp_t, c_pos, c_npos]
  exact And.comm
theorem e_sideIn {s k : Nat} (hs : s < 2 ^ 31) (hk : k < 32) {Q : Int32 → Prop} : p_X8_sideIn (nI s) (nI k) Q ↔ Q (nI (tb s k)) := by
  unfold p_X8_sideIn
  simp (disch := omega) only [li_0, li_1, li_2, li_3, li_4, li_5, li_6, li_7, li_8, li_9, li_10, li_11, li_12, li_13, li_14, li_15, li_16, li_20, li_26, li_31, li_32, li_36, li_42, li_43, li_48, li_52, li_57, li_58, li_59, li_60, li_63, li_97, li_99, li_104, li_112, li_115, li_119, li_140, li_141, li_142, li_143, li_144, li_145, li_146, li_147, li_148, li_149, li_150, li_151, li_152, li_255, li_303, li_455, li_999, li_1000, li_1510, li_1820, li_2275, li_9999, li_10000, li_100000, li_1048575, li_100000000, e_bit]
theorem e_parts {w s : Nat} (h1 : 1 ≤ s) (h2 : w + s < 2 ^ 31) {Q : Int32 → Prop} : p_X8_partsOfSize (nI w) (nI s) Q ↔ Q (nI ((w + s - 1) / s)) := by
  unfold p_X8_partsOfSize
  have a1 : ¬ s = 0 := by omega
  simp (disch := omega) only [li_0, li_1, li_2, li_3, li_4, li_5, li_6, li_7, li_8, li_9, li_10, li_11, li_12, li_13, li_14, li_15, li_16, li_20, li_26, li_31, li_32, li_36, li_42, li_43, li_48, li_52, li_57, li_58, li_59, li_60, li_63, li_97, li_99, li_104, li_112, li_115, li_119, li_140, li_141, li_142, li_143, li_144, li_145, li_146, li_147, li_148, li_149, li_150, li_151, li_152, li_255, li_303, li_455, li_999, li_1000, li_1510, li_1820, li_2275, li_9999, li_10000, li_100000, li_1048575, li_100000000, nI_add, pk_mul, nI_clamp, nI_leI, nI_ltI, nI_eqI, vp_t, c_pos, c_npos, pk_sub, pk_div, h1, a1, true_and, and_true, not_true_eq_false, not_false_eq_true, true_imp_iff, false_imp_iff, false_and, and_false, imp_false, Classical.not_not, Bool.false_eq_true, Nat.zero_ne_one, Nat.one_ne_zero, Nat.not_lt_zero, if_true, if_false, implies_true]
def dg (p : Nat) : Nat := if 999 < p then 4 else if 99 < p then 3 else if 9 < p then 2 else if 0 < p then 1 else 0
theorem e_digits {p : Nat} (h : p < 2 ^ 31) {Q : Int32 → Prop} : p_X8_digitsOf (nI p) Q ↔ Q (nI (dg p)) := by
  unfold p_X8_digitsOf dg
  simp (disch := omega) only [li_0, li_1, li_2, li_3, li_4, li_5, li_6, li_7, li_8, li_9, li_10, li_11, li_12, li_13, li_14, li_15, li_16, li_20, li_26, li_31, li_32, li_36, li_42, li_43, li_48, li_52, li_57, li_58, li_59, li_60, li_63, li_97, li_99, li_104, li_112, li_115, li_119, li_140, li_141, li_142, li_143, li_144, li_145, li_146, li_147, li_148, li_149, li_150, li_151, li_152, li_255, li_303, li_455, li_999, li_1000, li_1510, li_1820, li_2275, li_9999, li_10000, li_100000, li_1048575, li_100000000, nI_add, pk_mul, nI_clamp, nI_leI, nI_ltI, nI_eqI, vp_t, c_pos, c_npos]
  by_cases h1 : 999 < p
  · have : ¬ p ≤ 999 := by omega
    simp only [h1, this, if_true, true_and, and_true, not_true_eq_false, not_false_eq_true, true_imp_iff, false_imp_iff, false_and, and_false, imp_false, Classical.not_not, Bool.false_eq_true, Nat.zero_ne_one, Nat.one_ne_zero, Nat.not_lt_zero, if_true, if_false, implies_true]
  · by_cases h2 : 99 < p
    · have a1 : p ≤ 999 := by omega
      have : ¬ p ≤ 99 := by omega
      simp only [h1, h2, a1, this, if_true, if_false, true_and, and_true, not_true_eq_false, not_false_eq_true, true_imp_iff, false_imp_iff, false_and, and_false, imp_false, Classical.not_not, Bool.false_eq_true, Nat.zero_ne_one, Nat.one_ne_zero, Nat.not_lt_zero, if_true, if_false, implies_true]
    · by_cases h3 : 9 < p
      · have a1 : p ≤ 999 := by omega
        have a2 : p ≤ 99 := by omega
        have : ¬ p ≤ 9 := by omega
        simp only [h1, h2, h3, a1, a2, this, if_true, if_false, true_and, and_true, not_true_eq_false, not_false_eq_true, true_imp_iff, false_imp_iff, false_and, and_false, imp_false, Classical.not_not, Bool.false_eq_true, Nat.zero_ne_one, Nat.one_ne_zero, Nat.not_lt_zero, if_true, if_false, implies_true]
      · have a1 : p ≤ 999 := by omega
        have a2 : p ≤ 99 := by omega
        have a3 : p ≤ 9 := by omega
        by_cases h4 : 0 < p
        · have : ¬ p ≤ 0 := by omega
          simp only [h1, h2, h3, h4, a1, a2, a3, this, if_true, if_false, true_and, and_true, not_true_eq_false, not_false_eq_true, true_imp_iff, false_imp_iff, false_and, and_false, imp_false, Classical.not_not, Bool.false_eq_true, Nat.zero_ne_one, Nat.one_ne_zero, Nat.not_lt_zero, if_true, if_false, implies_true]
        · have : p ≤ 0 := by omega
          simp only [h1, h2, h3, h4, a1, a2, a3, this, if_true, if_false, true_and, and_true, not_true_eq_false, not_false_eq_true, true_imp_iff, false_imp_iff, false_and, and_false, imp_false, Classical.not_not, Bool.false_eq_true, Nat.zero_ne_one, Nat.one_ne_zero, Nat.not_lt_zero, if_true, if_false, implies_true]
theorem dg_le (p : Nat) : dg p ≤ 4 := by
  unfold dg
  repeat' split
  all_goals omega
theorem e_isSide {a : Int32} {Q : Int32 → Prop} : p_X8_isSide a Q ↔ ((∃ x, 0 ≤ x ∧ x ≤ 1 ∧ a = nI x) → Q (nI 1)) ∧ (¬ (∃ x, 0 ≤ x ∧ x ≤ 1 ∧ a = nI x) → Q (nI 0)) := by
  unfold p_X8_isSide
  simp (disch := omega) only [li_0, li_1, li_2, li_3, li_4, li_5, li_6, li_7, li_8, li_9, li_10, li_11, li_12, li_13, li_14, li_15, li_16, li_20, li_26, li_31, li_32, li_36, li_42, li_43, li_48, li_52, li_57, li_58, li_59, li_60, li_63, li_97, li_99, li_104, li_112, li_115, li_119, li_140, li_141, li_142, li_143, li_144, li_145, li_146, li_147, li_148, li_149, li_150, li_151, li_152, li_255, li_303, li_455, li_999, li_1000, li_1510, li_1820, li_2275, li_9999, li_10000, li_100000, li_1048575, li_100000000, e_inRange]
theorem e_isSlot {a : Int32} {Q : Int32 → Prop} : p_X8_isSlot a Q ↔ ((∃ x, 0 ≤ x ∧ x ≤ 1 ∧ a = nI x) → Q (nI 1)) ∧ (¬ (∃ x, 0 ≤ x ∧ x ≤ 1 ∧ a = nI x) → Q (nI 0)) := by
  unfold p_X8_isSlot
  simp (disch := omega) only [li_0, li_1, li_2, li_3, li_4, li_5, li_6, li_7, li_8, li_9, li_10, li_11, li_12, li_13, li_14, li_15, li_16, li_20, li_26, li_31, li_32, li_36, li_42, li_43, li_48, li_52, li_57, li_58, li_59, li_60, li_63, li_97, li_99, li_104, li_112, li_115, li_119, li_140, li_141, li_142, li_143, li_144, li_145, li_146, li_147, li_148, li_149, li_150, li_151, li_152, li_255, li_303, li_455, li_999, li_1000, li_1510, li_1820, li_2275, li_9999, li_10000, li_100000, li_1048575, li_100000000, e_inRange]
/-! ===== which values are in their ranges ===== -/
def loD (k : Nat) : Nat := ([0, 1, 1, 1, 0, 1, 0] : List Nat).getD k 0
def hiD (k : Nat) : Nat := ([3, 99, 9999, 15, 255, 5, 1] : List Nat).getD k 0
def loC (k : Nat) : Nat := ([0, 20, 1, 0, 0, 0] : List Nat).getD k 0
def hiC (k : Nat) : Nat := ([3, 60, 9, 2, 3, 255] : List Nat).getD k 0
theorem tD (k : Nat) (h : k < 7) : tDL k = nI (loD k) ∧ tDH k = nI (hiD k) ∧ loD k < 2 ^ 31 ∧ hiD k < 10000 := by
  revert k
  decide +kernel
theorem tC (k : Nat) (h : k < 6) : tCL k = nI (loC k) ∧ tCH k = nI (hiC k) ∧ loC k < 2 ^ 31 ∧ hiC k < 256 := by
  revert k
  decide +kernel
/-- a place and a value in its range -/
def okD (a v : Int32) : Prop := ∃ k x, k < 7 ∧ a = nI k ∧ loD k ≤ x ∧ x ≤ hiD k ∧ v = nI x
def okC (a v : Int32) : Prop := ∃ k x, k < 6 ∧ a = nI k ∧ loC k ≤ x ∧ x ≤ hiC k ∧ v = nI x
theorem okD_i {k x : Nat} (hk : k < 7) (h1 : loD k ≤ x) (h2 : x ≤ hiD k) : okD (nI k) (nI x) := ⟨k, x, hk, rfl, h1, h2, rfl⟩
theorem okD_k {k : Nat} {v : Int32} (hk : k < 7) : okD (nI k) v ↔ ∃ x, loD k ≤ x ∧ x ≤ hiD k ∧ v = nI x := by
  constructor
  · rintro ⟨k', x, hk', e, h1, h2, rfl⟩
    rw [nI_eq (by omega) (by omega)] at e
    subst e
    exact ⟨x, h1, h2, rfl⟩
  · rintro ⟨x, h1, h2, rfl⟩
    exact ⟨k, x, hk, rfl, h1, h2, rfl⟩
theorem okC_k {k : Nat} {v : Int32} (hk : k < 6) : okC (nI k) v ↔ ∃ x, loC k ≤ x ∧ x ≤ hiC k ∧ v = nI x := by
  constructor
  · rintro ⟨k', x, hk', e, h1, h2, rfl⟩
    rw [nI_eq (by omega) (by omega)] at e
    subst e
    exact ⟨x, h1, h2, rfl⟩
  · rintro ⟨x, h1, h2, rfl⟩
    exact ⟨k, x, hk, rfl, h1, h2, rfl⟩
theorem e_isDishValue {a v : Int32} {Q : Int32 → Prop} : p_X8_isDishValue a v Q ↔ (okD a v → Q (nI 1)) ∧ (¬ okD a v → Q (nI 0)) := by
  unfold p_X8_isDishValue
  simp (disch := omega) only [li_0, li_1, li_2, li_3, li_4, li_5, li_6, li_7, li_8, li_9, li_10, li_11, li_12, li_13, li_14, li_15, li_16, li_20, li_26, li_31, li_32, li_36, li_42, li_43, li_48, li_52, li_57, li_58, li_59, li_60, li_63, li_97, li_99, li_104, li_112, li_115, li_119, li_140, li_141, li_142, li_143, li_144, li_145, li_146, li_147, li_148, li_149, li_150, li_151, li_152, li_255, li_303, li_455, li_999, li_1000, li_1510, li_1820, li_2275, li_9999, li_10000, li_100000, li_1048575, li_100000000, e_inRange, nI_add, pk_mul, nI_clamp, nI_leI, nI_ltI, nI_eqI, vp_t, c_pos, c_npos, true_and, and_true, not_true_eq_false, not_false_eq_true, true_imp_iff, false_imp_iff, false_and, and_false, imp_false, Classical.not_not, Bool.false_eq_true, Nat.zero_ne_one, Nat.one_ne_zero, Nat.not_lt_zero, if_true, if_false, implies_true, Nat.zero_le]
  by_cases h : ∃ k, k ≤ 6 ∧ a = nI k
  · obtain ⟨k, hk, rfl⟩ := h
    have e : ∃ x, x ≤ 6 ∧ nI k = nI x := ⟨k, hk, rfl⟩
    obtain ⟨t1, t2, t3, t4⟩ := tD k (by omega)
    have a1 : k < 7 := by omega
    simp (disch := omega) only [e, nI_add, pk_mul, nI_clamp, nI_leI, nI_ltI, nI_eqI, vp_t, c_pos, c_npos, t1, t2, e_inRange, okD_k, a1, Nat.reduceEqDiff, true_and, and_true, not_true_eq_false, not_false_eq_true, true_imp_iff, false_imp_iff, false_and, and_false, imp_false, Classical.not_not, Bool.false_eq_true, Nat.zero_ne_one, Nat.one_ne_zero, Nat.not_lt_zero, if_true, if_false, implies_true]
  · have e : ¬ okD a v := by
      rintro ⟨k, x, hk, rfl, _⟩
      exact h ⟨k, by omega, rfl⟩
    simp only [h, e, true_and, and_true, not_true_eq_false, not_false_eq_true, true_imp_iff, false_imp_iff, false_and, and_false, imp_false, Classical.not_not, Bool.false_eq_true, Nat.zero_ne_one, Nat.one_ne_zero, Nat.not_lt_zero, if_true, if_false, implies_true]
theorem e_isCardValue {a v : Int32} {Q : Int32 → Prop} : p_X8_isCardValue a v Q ↔ (okC a v → Q (nI 1)) ∧ (¬ okC a v → Q (nI 0)) := by
  unfold p_X8_isCardValue
  simp (disch := omega) only [li_0, li_1, li_2, li_3, li_4, li_5, li_6, li_7, li_8, li_9, li_10, li_11, li_12, li_13, li_14, li_15, li_16, li_20, li_26, li_31, li_32, li_36, li_42, li_43, li_48, li_52, li_57, li_58, li_59, li_60, li_63, li_97, li_99, li_104, li_112, li_115, li_119, li_140, li_141, li_142, li_143, li_144, li_145, li_146, li_147, li_148, li_149, li_150, li_151, li_152, li_255, li_303, li_455, li_999, li_1000, li_1510, li_1820, li_2275, li_9999, li_10000, li_100000, li_1048575, li_100000000, e_inRange, nI_add, pk_mul, nI_clamp, nI_leI, nI_ltI, nI_eqI, vp_t, c_pos, c_npos, true_and, and_true, not_true_eq_false, not_false_eq_true, true_imp_iff, false_imp_iff, false_and, and_false, imp_false, Classical.not_not, Bool.false_eq_true, Nat.zero_ne_one, Nat.one_ne_zero, Nat.not_lt_zero, if_true, if_false, implies_true, Nat.zero_le]
  by_cases h : ∃ k, k ≤ 5 ∧ a = nI k
  · obtain ⟨k, hk, rfl⟩ := h
    have e : ∃ x, x ≤ 5 ∧ nI k = nI x := ⟨k, hk, rfl⟩
    obtain ⟨t1, t2, t3, t4⟩ := tC k (by omega)
    have a1 : k < 6 := by omega
    simp (disch := omega) only [e, nI_add, pk_mul, nI_clamp, nI_leI, nI_ltI, nI_eqI, vp_t, c_pos, c_npos, t1, t2, e_inRange, okC_k, a1, Nat.reduceEqDiff, true_and, and_true, not_true_eq_false, not_false_eq_true, true_imp_iff, false_imp_iff, false_and, and_false, imp_false, Classical.not_not, Bool.false_eq_true, Nat.zero_ne_one, Nat.one_ne_zero, Nat.not_lt_zero, if_true, if_false, implies_true]
  · have e : ¬ okC a v := by
      rintro ⟨k, x, hk, rfl, _⟩
      exact h ⟨k, by omega, rfl⟩
    simp only [h, e, true_and, and_true, not_true_eq_false, not_false_eq_true, true_imp_iff, false_imp_iff, false_and, and_false, imp_false, Classical.not_not, Bool.false_eq_true, Nat.zero_ne_one, Nat.one_ne_zero, Nat.not_lt_zero, if_true, if_false, implies_true]
def wy (sd : Nat → Nat) : Nat := sd 0 + 2 * sd 1 + 4 * sd 2 + 8 * sd 3
/-- the class's menu: n dishes, g their values, s the card, sd the sides -/
def relC (n : Nat) (g : Nat → Nat → Nat) (s sd : Nat → Nat) (v st : Nat → Int32) (dn w : Int32) : Prop :=
  dn = nI n ∧ (∀ d k, d < 20 → k < 7 → v (d * 7 + k) = nI (g d k)) ∧ (∀ k, k < 6 → st k = nI (s k)) ∧ w = nI (wy sd)
def okG (n : Nat) (g : Nat → Nat → Nat) : Prop := n ≤ 20 ∧ (∀ d k, d < 20 → k < 7 → g d k ≤ hiD k) ∧ (∀ d, d < n → 1 ≤ g d 2)
def okS (s : Nat → Nat) : Prop := ∀ k, k < 6 → loC k ≤ s k ∧ s k ≤ hiC k
def okW (sd : Nat → Nat) : Prop := ∀ c, c < 4 → sd c ≤ 1
theorem okG.b {n : Nat} {g : Nat → Nat → Nat} (h : okG n g) {d : Nat} (hd : d < 20) : g d 0 ≤ 3 ∧ g d 1 ≤ 99 ∧ g d 2 ≤ 9999 ∧ g d 3 ≤ 15 ∧ g d 4 ≤ 255 ∧ g d 5 ≤ 5 ∧ g d 6 ≤ 1 :=
  ⟨h.2.1 d 0 hd (by decide), h.2.1 d 1 hd (by decide), h.2.1 d 2 hd (by decide), h.2.1 d 3 hd (by decide), h.2.1 d 4 hd (by decide), h.2.1 d 5 hd (by decide), h.2.1 d 6 hd (by decide)⟩
theorem okS.b {s : Nat → Nat} (h : okS s) : s 0 ≤ 3 ∧ 20 ≤ s 1 ∧ s 1 ≤ 60 ∧ 1 ≤ s 2 ∧ s 2 ≤ 9 ∧ s 3 ≤ 2 ∧ s 4 ≤ 3 ∧ s 5 ≤ 255 :=
  ⟨(h 0 (by decide)).2, (h 1 (by decide)).1, (h 1 (by decide)).2, (h 2 (by decide)).1, (h 2 (by decide)).2, (h 3 (by decide)).2, (h 4 (by decide)).2, (h 5 (by decide)).2⟩
theorem wy_tb {sd : Nat → Nat} (h : okW sd) {c : Nat} (hc : c < 4) : tb (wy sd) c = sd c := by
  have h0 := h 0 (by decide)
  have h1 := h 1 (by decide)
  have h2 := h 2 (by decide)
  have h3 := h 3 (by decide)
  unfold tb wy
  have : c = 0 ∨ c = 1 ∨ c = 2 ∨ c = 3 := by omega
  rcases this with rfl | rfl | rfl | rfl
  · show (sd 0 + 2 * sd 1 + 4 * sd 2 + 8 * sd 3) / 1 % 2 = sd 0
    omega
  · show (sd 0 + 2 * sd 1 + 4 * sd 2 + 8 * sd 3) / 2 % 2 = sd 1
    omega
  · show (sd 0 + 2 * sd 1 + 4 * sd 2 + 8 * sd 3) / 4 % 2 = sd 2
    omega
  · show (sd 0 + 2 * sd 1 + 4 * sd 2 + 8 * sd 3) / 8 % 2 = sd 3
    omega
theorem wy_lt {sd : Nat → Nat} (h : okW sd) : wy sd < 16 := by
  have h0 := h 0 (by decide)
  have h1 := h 1 (by decide)
  have h2 := h 2 (by decide)
  have h3 := h 3 (by decide)
  unfold wy
  omega
/-! ===== the class's menu ===== -/
theorem e_valueOf {v : Nat → Int32} {g : Nat → Nat → Nat} (hv : ∀ d k, d < 20 → k < 7 → v (d * 7 + k) = nI (g d k)) {d k : Nat} (hd : d < 20) (hk : k < 7) {Q : Int32 → Prop} : p_X3_valueOf v (nI d) (nI k) Q ↔ Q (nI (g d k)) := by
  unfold p_X3_valueOf
  have a1 : ¬ 140 ≤ d * 7 + k := by omega
  have a2 : d * 7 + k < 140 := by omega
  simp (disch := omega) only [li_0, li_1, li_2, li_3, li_4, li_5, li_6, li_7, li_8, li_9, li_10, li_11, li_12, li_13, li_14, li_15, li_16, li_20, li_26, li_31, li_32, li_36, li_42, li_43, li_48, li_52, li_57, li_58, li_59, li_60, li_63, li_97, li_99, li_104, li_112, li_115, li_119, li_140, li_141, li_142, li_143, li_144, li_145, li_146, li_147, li_148, li_149, li_150, li_151, li_152, li_255, li_303, li_455, li_999, li_1000, li_1510, li_1820, li_2275, li_9999, li_10000, li_100000, li_1048575, li_100000000, nI_add, pk_mul, nI_clamp, nI_leI, nI_ltI, nI_eqI, vp_t, c_pos, c_npos, hv, a1, a2, Nat.not_lt_zero, true_and, and_true, not_true_eq_false, not_false_eq_true, true_imp_iff, false_imp_iff, false_and, and_false, imp_false, Classical.not_not, Bool.false_eq_true, Nat.zero_ne_one, Nat.one_ne_zero, Nat.not_lt_zero, if_true, if_false, implies_true]
theorem e_setting {st : Nat → Int32} {s : Nat → Nat} (hs : ∀ k, k < 6 → st k = nI (s k)) {k : Nat} (hk : k < 6) {Q : Int32 → Prop} : p_X3_setting st (nI k) Q ↔ Q (nI (s k)) := by
  unfold p_X3_setting
  have a1 : ¬ 6 ≤ k := by omega
  simp (disch := omega) only [li_0, li_1, li_2, li_3, li_4, li_5, li_6, li_7, li_8, li_9, li_10, li_11, li_12, li_13, li_14, li_15, li_16, li_20, li_26, li_31, li_32, li_36, li_42, li_43, li_48, li_52, li_57, li_58, li_59, li_60, li_63, li_97, li_99, li_104, li_112, li_115, li_119, li_140, li_141, li_142, li_143, li_144, li_145, li_146, li_147, li_148, li_149, li_150, li_151, li_152, li_255, li_303, li_455, li_999, li_1000, li_1510, li_1820, li_2275, li_9999, li_10000, li_100000, li_1048575, li_100000000, nI_add, pk_mul, nI_clamp, nI_leI, nI_ltI, nI_eqI, vp_t, c_pos, c_npos, hs, a1, hk, Nat.not_lt_zero, true_and, and_true, not_true_eq_false, not_false_eq_true, true_imp_iff, false_imp_iff, false_and, and_false, imp_false, Classical.not_not, Bool.false_eq_true, Nat.zero_ne_one, Nat.one_ne_zero, Nat.not_lt_zero, if_true, if_false, implies_true]
/-- the letters and marks of a dish -/
def tx (g : Nat → Nat → Nat) (d : Nat) : Nat := g d 1 + (if g d 4 = 0 then 0 else 1 + pc (g d 4))
def ln (g : Nat → Nat → Nat) (wid col d : Nat) : Nat := (tx g d + 3 + col + wid - 1) / wid
theorem pc_mark : ∀ s, s < 256 → pc s ≤ 8 ∧ (pc s = 0 ↔ s = 0) := by decide +kernel
theorem tx_le {n : Nat} {g : Nat → Nat → Nat} (h : okG n g) {d : Nat} (hd : d < 20) : tx g d ≤ 108 := by
  obtain ⟨b0, b1, b2, b3, b4, b5, b6⟩ := h.b hd
  have := (pc_mark (g d 4) (by omega)).1
  unfold tx
  split <;> omega
theorem ln_le {n : Nat} {g : Nat → Nat → Nat} (h : okG n g) {wid col d : Nat} (hd : d < 20) (h1 : 20 ≤ wid) (h2 : col ≤ 4) : ln g wid col d ≤ 6 ∧ 1 ≤ ln g wid col d := by
  have := tx_le h hd
  unfold ln
  refine ⟨?_, ?_⟩
  · apply Nat.le_of_lt_succ
    rw [Nat.div_lt_iff_lt_mul (by omega)]
    omega
  · rw [Nat.le_div_iff_mul_le (by omega)]
    omega
theorem e_textOf {v : Nat → Int32} {g : Nat → Nat → Nat} (hv : ∀ d k, d < 20 → k < 7 → v (d * 7 + k) = nI (g d k)) {n : Nat} (hg : okG n g) {d : Nat} (hd : d < 20) {Q : Int32 → Prop} : p_X3_textOf v (nI d) Q ↔ Q (nI (tx g d)) := by
  obtain ⟨b0, b1, b2, b3, b4, b5, b6⟩ := hg.b hd
  unfold p_X3_textOf
  simp (disch := omega) only [li_0, li_1, li_2, li_3, li_4, li_5, li_6, li_7, li_8, li_9, li_10, li_11, li_12, li_13, li_14, li_15, li_16, li_20, li_26, li_31, li_32, li_36, li_42, li_43, li_48, li_52, li_57, li_58, li_59, li_60, li_63, li_97, li_99, li_104, li_112, li_115, li_119, li_140, li_141, li_142, li_143, li_144, li_145, li_146, li_147, li_148, li_149, li_150, li_151, li_152, li_255, li_303, li_455, li_999, li_1000, li_1510, li_1820, li_2275, li_9999, li_10000, li_100000, li_1048575, li_100000000, e_valueOf hv, e_bitCount, nI_add, pk_mul, nI_clamp, nI_leI, nI_ltI, nI_eqI, vp_t, c_pos, c_npos]
  unfold tx
  by_cases h : g d 4 = 0
  · simp only [h, if_true, true_and, and_true, not_true_eq_false, not_false_eq_true, true_imp_iff, false_imp_iff, false_and, and_false, imp_false, Classical.not_not, Bool.false_eq_true, Nat.zero_ne_one, Nat.one_ne_zero, Nat.not_lt_zero, if_true, if_false, implies_true]
  · simp only [h, if_false, true_and, and_true, not_true_eq_false, not_false_eq_true, true_imp_iff, false_imp_iff, false_and, and_false, imp_false, Classical.not_not, Bool.false_eq_true, Nat.zero_ne_one, Nat.one_ne_zero, Nat.not_lt_zero, if_true, if_false, implies_true]
theorem e_linesOf {v st : Nat → Int32} {g : Nat → Nat → Nat} {s : Nat → Nat} (hv : ∀ d k, d < 20 → k < 7 → v (d * 7 + k) = nI (g d k)) (hs : ∀ k, k < 6 → st k = nI (s k)) {n : Nat} (hg : okG n g) (ho : okS s) {d col : Nat} (hd : d < 20) (hc : col ≤ 4) {Q : Int32 → Prop} : p_X3_linesOf v st (nI d) (nI col) Q ↔ Q (nI (ln g (s 1) col d)) := by
  have := tx_le hg hd
  obtain ⟨s0, s1, s2, s3, s4, s5, s6, s7⟩ := ho.b
  unfold p_X3_linesOf
  simp (disch := omega) only [li_0, li_1, li_2, li_3, li_4, li_5, li_6, li_7, li_8, li_9, li_10, li_11, li_12, li_13, li_14, li_15, li_16, li_20, li_26, li_31, li_32, li_36, li_42, li_43, li_48, li_52, li_57, li_58, li_59, li_60, li_63, li_97, li_99, li_104, li_112, li_115, li_119, li_140, li_141, li_142, li_143, li_144, li_145, li_146, li_147, li_148, li_149, li_150, li_151, li_152, li_255, li_303, li_455, li_999, li_1000, li_1510, li_1820, li_2275, li_9999, li_10000, li_100000, li_1048575, li_100000000, e_textOf hv hg, e_setting hs, nI_add, pk_mul, nI_clamp, nI_leI, nI_ltI, nI_eqI, vp_t, c_pos, c_npos, e_parts]
  rfl
theorem e_isOffered {v : Nat → Int32} {g : Nat → Nat → Nat} (hv : ∀ d k, d < 20 → k < 7 → v (d * 7 + k) = nI (g d k)) {n : Nat} (hg : okG n g) {d : Nat} (hd : d < 20) {Q : Int32 → Prop} : p_X3_isOffered v (nI d) Q ↔ (g d 6 = 1 → Q (nI 1)) ∧ (¬ g d 6 = 1 → Q (nI 0)) := by
  obtain ⟨b0, b1, b2, b3, b4, b5, b6⟩ := hg.b hd
  unfold p_X3_isOffered
  simp (disch := omega) only [li_0, li_1, li_2, li_3, li_4, li_5, li_6, li_7, li_8, li_9, li_10, li_11, li_12, li_13, li_14, li_15, li_16, li_20, li_26, li_31, li_32, li_36, li_42, li_43, li_48, li_52, li_57, li_58, li_59, li_60, li_63, li_97, li_99, li_104, li_112, li_115, li_119, li_140, li_141, li_142, li_143, li_144, li_145, li_146, li_147, li_148, li_149, li_150, li_151, li_152, li_255, li_303, li_455, li_999, li_1000, li_1510, li_1820, li_2275, li_9999, li_10000, li_100000, li_1048575, li_100000000, e_valueOf hv, nI_add, pk_mul, nI_clamp, nI_leI, nI_ltI, nI_eqI, vp_t, c_pos, c_npos]
  exact And.comm
theorem e_isInSeason {v : Nat → Int32} {g : Nat → Nat → Nat} (hv : ∀ d k, d < 20 → k < 7 → v (d * 7 + k) = nI (g d k)) {n : Nat} (hg : okG n g) {d se : Nat} (hd : d < 20) (hse : se ≤ 3) {Q : Int32 → Prop} : p_X3_isInSeason v (nI d) (nI se) Q ↔ (tb (g d 3) se = 1 → Q (nI 1)) ∧ (¬ tb (g d 3) se = 1 → Q (nI 0)) := by
  obtain ⟨b0, b1, b2, b3, b4, b5, b6⟩ := hg.b hd
  unfold p_X3_isInSeason
  simp (disch := omega) only [li_0, li_1, li_2, li_3, li_4, li_5, li_6, li_7, li_8, li_9, li_10, li_11, li_12, li_13, li_14, li_15, li_16, li_20, li_26, li_31, li_32, li_36, li_42, li_43, li_48, li_52, li_57, li_58, li_59, li_60, li_63, li_97, li_99, li_104, li_112, li_115, li_119, li_140, li_141, li_142, li_143, li_144, li_145, li_146, li_147, li_148, li_149, li_150, li_151, li_152, li_255, li_303, li_455, li_999, li_1000, li_1510, li_1820, li_2275, li_9999, li_10000, li_100000, li_1048575, li_100000000, e_valueOf hv, e_has]
theorem e_suits {v : Nat → Int32} {g : Nat → Nat → Nat} (hv : ∀ d k, d < 20 → k < 7 → v (d * 7 + k) = nI (g d k)) {n : Nat} (hg : okG n g) {d gu : Nat} (hd : d < 20) {Q : Int32 → Prop} : p_X3_suits v (nI d) (nI gu) Q ↔ (g d 4 &&& gu = 0 → Q (nI 1)) ∧ (¬ g d 4 &&& gu = 0 → Q (nI 0)) := by
  obtain ⟨b0, b1, b2, b3, b4, b5, b6⟩ := hg.b hd
  have := Nat.and_le_left (n := g d 4) (m := gu)
  unfold p_X3_suits
  simp (disch := omega) only [li_0, li_1, li_2, li_3, li_4, li_5, li_6, li_7, li_8, li_9, li_10, li_11, li_12, li_13, li_14, li_15, li_16, li_20, li_26, li_31, li_32, li_36, li_42, li_43, li_48, li_52, li_57, li_58, li_59, li_60, li_63, li_97, li_99, li_104, li_112, li_115, li_119, li_140, li_141, li_142, li_143, li_144, li_145, li_146, li_147, li_148, li_149, li_150, li_151, li_152, li_255, li_303, li_455, li_999, li_1000, li_1510, li_1820, li_2275, li_9999, li_10000, li_100000, li_1048575, li_100000000, e_valueOf hv, e_andI, nI_add, pk_mul, nI_clamp, nI_leI, nI_ltI, nI_eqI, vp_t, c_pos, c_npos]
  exact And.comm
/-- it may be printed; it may be and is on offer -/
def mayB (g : Nat → Nat → Nat) (se gu d : Nat) : Bool := tb (g d 3) se == 1 && (g d 4 &&& gu) == 0
def elg (g : Nat → Nat → Nat) (se gu d : Nat) : Bool := g d 6 == 1 && mayB g se gu d
theorem mayB_iff {g : Nat → Nat → Nat} {se gu d : Nat} : mayB g se gu d = true ↔ tb (g d 3) se = 1 ∧ g d 4 &&& gu = 0 := by
  unfold mayB
  rw [Bool.and_eq_true, beq_iff_eq, beq_iff_eq]
theorem elg_iff {g : Nat → Nat → Nat} {se gu d : Nat} : elg g se gu d = true ↔ g d 6 = 1 ∧ mayB g se gu d = true := by
  unfold elg
  rw [Bool.and_eq_true, beq_iff_eq]
theorem e_mayBePrinted {v : Nat → Int32} {g : Nat → Nat → Nat} (hv : ∀ d k, d < 20 → k < 7 → v (d * 7 + k) = nI (g d k)) {n : Nat} (hg : okG n g) {d se gu : Nat} (hd : d < 20) (hse : se ≤ 3) {Q : Int32 → Prop} : p_X3_mayBePrinted v (nI d) (nI se) (nI gu) Q ↔ (mayB g se gu d = true → Q (nI 1)) ∧ (¬ mayB g se gu d = true → Q (nI 0)) := by
  unfold p_X3_mayBePrinted
  simp (disch := omega) only [li_0, li_1, li_2, li_3, li_4, li_5, li_6, li_7, li_8, li_9, li_10, li_11, li_12, li_13, li_14, li_15, li_16, li_20, li_26, li_31, li_32, li_36, li_42, li_43, li_48, li_52, li_57, li_58, li_59, li_60, li_63, li_97, li_99, li_104, li_112, li_115, li_119, li_140, li_141, li_142, li_143, li_144, li_145, li_146, li_147, li_148, li_149, li_150, li_151, li_152, li_255, li_303, li_455, li_999, li_1000, li_1510, li_1820, li_2275, li_9999, li_10000, li_100000, li_1048575, li_100000000, e_isInSeason hv hg, e_suits hv hg, mayB_iff, nI_eqI, Nat.one_ne_zero, true_and, and_true, not_true_eq_false, not_false_eq_true, true_imp_iff, false_imp_iff, false_and, and_false, imp_false, Classical.not_not, Bool.false_eq_true, Nat.zero_ne_one, Nat.one_ne_zero, Nat.not_lt_zero, if_true, if_false, implies_true]
  by_cases h1 : tb (g d 3) se = 1
  · by_cases h2 : g d 4 &&& gu = 0
    · simp only [h1, h2, true_and, and_true, not_true_eq_false, not_false_eq_true, true_imp_iff, false_imp_iff, false_and, and_false, imp_false, Classical.not_not, Bool.false_eq_true, Nat.zero_ne_one, Nat.one_ne_zero, Nat.not_lt_zero, if_true, if_false, implies_true]
    · simp only [h1, h2, true_and, and_true, not_true_eq_false, not_false_eq_true, true_imp_iff, false_imp_iff, false_and, and_false, imp_false, Classical.not_not, Bool.false_eq_true, Nat.zero_ne_one, Nat.one_ne_zero, Nat.not_lt_zero, if_true, if_false, implies_true]
  · simp only [h1, true_and, and_true, not_true_eq_false, not_false_eq_true, true_imp_iff, false_imp_iff, false_and, and_false, imp_false, Classical.not_not, Bool.false_eq_true, Nat.zero_ne_one, Nat.one_ne_zero, Nat.not_lt_zero, if_true, if_false, implies_true]
/-! ===== the reference's menu ===== -/

/-! ===== contents that agree ===== -/
theorem vk (n N : Nat) (h : n < N := by decide) (hN : N < 2 ^ 31 := by decide) : vp_in (nI n) N := (vp_t (by omega) hN).2 h
theorem n0 : (0 : Int32).toNatClampNeg = 0 := by decide
theorem n6 : (6 : Int32).toNatClampNeg = 6 := by decide
theorem n140 : (140 : Int32).toNatClampNeg = 140 := by decide
theorem e_copyFrom {v st u us : Nat → Int32} {dn w : Int32} {Q : (Nat → Int32) → (Nat → Int32) → Int32 → Int32 → Prop} : p_X3_copyFrom v st u us dn w Q ↔ Q (va_cpy u v 0 0 140) (va_cpy us st 0 0 6) dn w := by
  unfold p_X3_copyFrom
  refine ⟨fun h => ?_, fun h => ?_⟩
  · have h2 := h.2.2.2.2.2.2.2.2.2.2
    rw [n0, n140, n6] at h2
    exact h2
  · refine ⟨by decide, by decide, by decide, by decide, by decide, by decide, by decide, by decide, by decide, by decide, ?_⟩
    rw [n0, n140, n6]
    exact h
theorem relC_cpy {n : Nat} {g : Nat → Nat → Nat} {s sd : Nat → Nat} {u us v st : Nat → Int32} {dn w : Int32} (R : relC n g s sd u us dn w) : relC n g s sd (va_cpy u v 0 0 140) (va_cpy us st 0 0 6) dn w := by
  refine ⟨R.1, fun d k hd hk => ?_, fun k hk => ?_, R.2.2.2⟩
  · rw [pk_cpy_in (Nat.zero_le _) (by omega), Nat.zero_add, Nat.sub_zero]
    exact R.2.1 d k hd hk
  · rw [pk_cpy_in (Nat.zero_le _) (by omega), Nat.zero_add, Nat.sub_zero]
    exact R.2.2.1 k hk
def ht (z : Nat) : Nat := if z = 5 then 4 else z
def os (z : Nat) : Nat := if z = 5 then 1 else 0
def pushR (z : Nat) (hist hist' pg : Nat → Int32) : Prop := (∀ j i, j < ht z → i < 455 → hist' (455 * j + i) = hist (455 * (j + os z) + i)) ∧ ∀ i, i < 455 → hist' (455 * ht z + i) = pg i
theorem e_hasDish {n : Nat} (hn : n ≤ 20) {a : Int32} {Q : Int32 → Prop} : p_X3_hasDish (nI n) a Q ↔ ((∃ d, d < n ∧ a = nI d) → Q (nI 1)) ∧ (¬ (∃ d, d < n ∧ a = nI d) → Q (nI 0)) := by
  unfold p_X3_hasDish
  by_cases h0 : n = 0
  · subst h0
    have e : ¬ ∃ d, d < 0 ∧ a = nI d := by
      rintro ⟨d, h, _⟩
      exact absurd h (Nat.not_lt_zero d)
    unfold p_X8_inRange
    simp only [li_0, li_1, li_2, li_3, li_4, li_5, li_6, li_7, li_8, li_9, li_10, li_11, li_12, li_13, li_14, li_15, li_16, li_20, li_26, li_31, li_32, li_36, li_42, li_43, li_48, li_52, li_57, li_58, li_59, li_60, li_63, li_97, li_99, li_104, li_112, li_115, li_119, li_140, li_141, li_142, li_143, li_144, li_145, li_146, li_147, li_148, li_149, li_150, li_151, li_152, li_255, li_303, li_455, li_999, li_1000, li_1510, li_1820, li_2275, li_9999, li_10000, li_100000, li_1048575, li_100000000]
    rcases sg a with h | ⟨x, hx, rfl⟩
    · simp only [h, true_and, and_true, not_true_eq_false, not_false_eq_true, true_imp_iff, false_imp_iff, false_and, and_false, imp_false, Classical.not_not, Bool.false_eq_true, Nat.zero_ne_one, Nat.one_ne_zero, Nat.not_lt_zero, if_true, if_false, implies_true]
      exact ⟨fun hq => ⟨fun q => q.elim (fun _ f => f.elim), fun _ => hq⟩, fun hq => hq.2 (fun q => q.elim (fun _ f => f.elim))⟩
    · have e2 : nI 0 - nI 1 < nI x := by
        rw [Int32.lt_iff_toInt_lt, pk_sub_toInt (by decide) (by decide), nI_toInt hx]
        omega
      simp (disch := omega) only [nI_ltI, e2, true_and, and_true, not_true_eq_false, not_false_eq_true, true_imp_iff, false_imp_iff, false_and, and_false, imp_false, Classical.not_not, Bool.false_eq_true, Nat.zero_ne_one, Nat.one_ne_zero, Nat.not_lt_zero, if_true, if_false, implies_true]
      exact ⟨fun hq => ⟨fun q => q.elim (fun _ f => f.elim), fun _ => hq⟩, fun hq => hq.2 (fun q => q.elim (fun _ f => f.elim))⟩
  · simp (disch := omega) only [li_0, li_1, li_2, li_3, li_4, li_5, li_6, li_7, li_8, li_9, li_10, li_11, li_12, li_13, li_14, li_15, li_16, li_20, li_26, li_31, li_32, li_36, li_42, li_43, li_48, li_52, li_57, li_58, li_59, li_60, li_63, li_97, li_99, li_104, li_112, li_115, li_119, li_140, li_141, li_142, li_143, li_144, li_145, li_146, li_147, li_148, li_149, li_150, li_151, li_152, li_255, li_303, li_455, li_999, li_1000, li_1510, li_1820, li_2275, li_9999, li_10000, li_100000, li_1048575, li_100000000, pk_sub, e_inRange]
    have e : (∃ x, 0 ≤ x ∧ x ≤ n - 1 ∧ a = nI x) ↔ ∃ d, d < n ∧ a = nI d := by
      constructor
      · rintro ⟨x, _, h2, h3⟩
        exact ⟨x, by omega, h3⟩
      · rintro ⟨x, h2, h3⟩
        exact ⟨x, by omega, by omega, h3⟩
    rw [e]
theorem e_change {v : Nat → Int32} {m d k : Nat} (hm : m ≤ 20) (hd : d < m) (hk : k < 7) {a : Int32} (ho : okD (nI k) a) {Q : (Nat → Int32) → Prop} : p_X3_change v (nI m) (nI d) (nI k) a Q ↔ Q (upd v (d * 7 + k) a) := by
  have e : ∃ x, x < m ∧ nI d = nI x := ⟨d, hd, rfl⟩
  have hv : d * 7 + k < 140 := by omega
  unfold p_X3_change
  simp (disch := omega) only [li_0, li_1, li_2, li_3, li_4, li_5, li_6, li_7, li_8, li_9, li_10, li_11, li_12, li_13, li_14, li_15, li_16, li_20, li_26, li_31, li_32, li_36, li_42, li_43, li_48, li_52, li_57, li_58, li_59, li_60, li_63, li_97, li_99, li_104, li_112, li_115, li_119, li_140, li_141, li_142, li_143, li_144, li_145, li_146, li_147, li_148, li_149, li_150, li_151, li_152, li_255, li_303, li_455, li_999, li_1000, li_1510, li_1820, li_2275, li_9999, li_10000, li_100000, li_1048575, li_100000000, e_hasDish, e, ho, e_isDishValue, pk_mul, nI_add, vp_t, nI_clamp, nI_eqI, hv, true_and, and_true, not_true_eq_false, not_false_eq_true, true_imp_iff, false_imp_iff, false_and, and_false, imp_false, Classical.not_not, Bool.false_eq_true, Nat.zero_ne_one, Nat.one_ne_zero, Nat.not_lt_zero, if_true, if_false, implies_true]
theorem relC_g {n n' : Nat} {g g' : Nat → Nat → Nat} {s sd : Nat → Nat} {v v' st : Nat → Int32} {dn w : Int32} (R : relC n g s sd v st dn w) (h : ∀ d k, d < 20 → k < 7 → v' (d * 7 + k) = nI (g' d k)) : relC n' g' s sd v' st (nI n') w := ⟨rfl, h, R.2.2.1, R.2.2.2⟩

/-! ===== what is found ===== -/
theorem tb_test {x k : Nat} : tb x k = 1 ↔ x.testBit k = true := by
  unfold tb
  rw [Nat.testBit_eq_decide_div_mod_eq, decide_eq_true_iff]
theorem tb_or {x y k : Nat} : tb (x ||| y) k = 1 ↔ tb x k = 1 ∨ tb y k = 1 := by
  rw [tb_test, tb_test, tb_test, Nat.testBit_or, Bool.or_eq_true]
theorem tb_pow {a k : Nat} : tb (2 ^ a) k = 1 ↔ a = k := by
  rw [tb_test, Nat.testBit_two_pow, decide_eq_true_iff]
theorem tb_zero (k : Nat) : tb 0 k = 0 := by
  unfold tb
  rw [Nat.zero_div]
/-- the set of those dishes whose bits are on -/
def so (A : List Nat) (b : Nat → Nat) : Nat → Nat
  | 0 => 0
  | i + 1 => so A b i ||| (if b i = 1 then 2 ^ nd A i else 0)
theorem so_lt {A : List Nat} {b : Nat → Nat} : ∀ {k : Nat}, (∀ i, i < k → nd A i < 20) → so A b k < 2 ^ 20
  | 0, _ => Nat.pow_pos (by decide)
  | k + 1, h => by
    refine Nat.or_lt_two_pow (so_lt (fun i hi => h i (by omega))) ?_
    split
    · exact Nat.pow_lt_pow_right (by decide) (h k (by omega))
    · exact Nat.pow_pos (by decide)
theorem so_tb {A : List Nat} {b : Nat → Nat} {d : Nat} : ∀ {k : Nat}, tb (so A b k) d = 1 ↔ ∃ i, i < k ∧ b i = 1 ∧ nd A i = d
  | 0 => by
    constructor
    · intro e
      have := tb_zero d
      have e' : tb 0 d = 1 := e
      omega
    · rintro ⟨i, h, _⟩
      exact absurd h (Nat.not_lt_zero i)
  | k + 1 => by
    have ih := so_tb (A := A) (b := b) (d := d) (k := k)
    show tb (so A b k ||| (if b k = 1 then 2 ^ nd A k else 0)) d = 1 ↔ _
    rw [tb_or, ih]
    constructor
    · rintro (⟨i, h1, h2, h3⟩ | h)
      · exact ⟨i, by omega, h2, h3⟩
      · by_cases e : b k = 1
        · rw [if_pos e, tb_pow] at h
          exact ⟨k, by omega, e, h⟩
        · rw [if_neg e, tb_zero] at h
          omega
    · rintro ⟨i, h1, h2, h3⟩
      by_cases e : i = k
      · subst e
        right
        rw [if_pos h2, tb_pow]
        exact h3
      · exact Or.inl ⟨i, by omega, h2, h3⟩
theorem so_nd {A : List Nat} (hA : A.Pairwise (fun a b => ¬ a = b)) {b : Nat → Nat} (hb : ∀ i, b i ≤ 1) {i : Nat} (hi : i < A.length) : tb (so A b A.length) (nd A i) = b i := by
  have h := so_tb (A := A) (b := b) (d := nd A i) (k := A.length)
  have h1 := tb_lt (so A b A.length) (nd A i)
  have h2 := hb i
  by_cases e : b i = 1
  · rw [e]
    exact h.2 ⟨i, hi, e, rfl⟩
  · have : ¬ tb (so A b A.length) (nd A i) = 1 := by
      intro q
      obtain ⟨j, h3, h4, h5⟩ := h.1 q
      have := nd_ne hA h3 hi h5
      subst this
      exact e h4
    omega
/-- what is left out, as bits -/
theorem tb_compl {f i : Nat} (hi : i < 20) : tb (1048575 - f % 1048576) i = 1 - tb f i := by
  have h1 : f % 1048576 < 2 ^ 20 := Nat.mod_lt _ (by decide)
  have h2 := Nat.testBit_two_pow_sub_succ h1 i
  have e1 : 2 ^ 20 - (f % 1048576 + 1) = 1048575 - f % 1048576 := by omega
  rw [e1] at h2
  have h3 : (f % 1048576).testBit i = f.testBit i := by
    have := Nat.testBit_mod_two_pow f 20 i
    rw [this]
    simp [hi]
  have t1 := tb_test (x := 1048575 - f % 1048576) (k := i)
  have t2 := tb_test (x := f) (k := i)
  have l1 := tb_lt (1048575 - f % 1048576) i
  have l2 := tb_lt f i
  rw [h2, h3] at t1
  by_cases e : f.testBit i = true
  · have e2 := t2.2 e
    have e3 : ¬ tb (1048575 - f % 1048576) i = 1 := by
      intro q
      have := t1.1 q
      simp [e] at this
    omega
  · have e2 : ¬ tb f i = 1 := fun q => e (t2.1 q)
    have e3 : tb (1048575 - f % 1048576) i = 1 := by
      apply t1.2
      simp [e, hi]
    omega
theorem e_prices {f : Nat} (hf : f < 2 ^ 50) {Q : Int32 → Prop} : p_X6_prices (lN f) Q ↔ Q (nI (f / 2 ^ 20)) := by
  unfold p_X6_prices
  rw [show (20 : Int32) = nI 20 from rfl, e_shrL (by omega) (by decide), lN_i]
theorem e_isChosen {f i : Nat} (hf : f < 2 ^ 50) (hi : i < 20) {Q : Int32 → Prop} : p_X6_isChosen (lN f) (nI i) Q ↔ (1 - tb f i = 1 → Q (nI 1)) ∧ (¬ 1 - tb f i = 1 → Q (nI 0)) := by
  have ht := tb_lt f i
  unfold p_X6_isChosen
  rw [e_shrL (by omega) (by omega), e_and1L, lg_cmp_eq]
  have e : lN (f / 2 ^ i % 2) = (0 : Int64) ↔ 1 - tb f i = 1 := by
    have e1 : lN (f / 2 ^ i % 2) = (0 : Int64) ↔ f / 2 ^ i % 2 = 0 := lN_eq (a := f / 2 ^ i % 2) (b := 0) (by omega) (by decide)
    rw [e1]
    unfold tb
    omega
  rw [e]
  exact And.comm
theorem i_foundSet {f : Nat} (hf : f < 2 ^ 50) {A : List Nat} (hl : A.length ≤ 20) (hA : ∀ i, i < A.length → nd A i < 20) {cand : Nat → Int32} (hc : ∀ i, i < A.length → cand i = nI (nd A i)) {Q : Int32 → Prop} (h : Q (nI (so A (fun i => 1 - tb f i) A.length))) : p_X6_foundSet cand (nI A.length) (lN f) Q := by
  unfold p_X6_foundSet p_X6_foundSet_4
  refine wl1 (q_X6_foundSet_4 cand (nI A.length) (lN f) Q) A.length (by omega) (fun k x => x = nI (so A (fun i => 1 - tb f i) k)) 0 (by omega) _ rfl ?_
  rintro K k x _ hk rfl hK
  unfold q_X6_foundSet_4 p_X6_foundSet_31
  simp (disch := omega) only [li_0, li_1, li_2, li_3, li_4, li_5, li_6, li_7, li_8, li_9, li_10, li_11, li_12, li_13, li_14, li_15, li_16, li_20, li_26, li_31, li_32, li_36, li_42, li_43, li_48, li_52, li_57, li_58, li_59, li_60, li_63, li_97, li_99, li_104, li_112, li_115, li_119, li_140, li_141, li_142, li_143, li_144, li_145, li_146, li_147, li_148, li_149, li_150, li_151, li_152, li_255, li_303, li_455, li_999, li_1000, li_1510, li_1820, li_2275, li_9999, li_10000, li_100000, li_1048575, li_100000000, nI_leI, nI_add]
  refine ⟨fun hge => ?_, fun hlt => ?_⟩
  · have : k = A.length := by omega
    subst this
    exact h
  · have hk2 : k < A.length := by omega
    have hk3 : k < 20 := by omega
    have hd := hA k hk2
    rw [e_isChosen hf hk3]
    refine ⟨fun e => ⟨fun e0 => absurd e0 (by decide), fun _ => ?_⟩, fun e => ⟨fun _ => hK hk2 _ ?_, fun e0 => absurd rfl e0⟩⟩
    · refine ⟨(vp_t (by omega) (by decide)).2 hk3, ?_⟩
      rw [nI_clamp (by omega), hc k hk2, e_shl (by omega), e_orI]
      refine hK hk2 _ ?_
      show _ = nI (so A (fun i => 1 - tb f i) k ||| (if 1 - tb f k = 1 then 2 ^ nd A k else 0))
      rw [if_pos e]
    · show _ = nI (so A (fun i => 1 - tb f i) k ||| (if 1 - tb f k = 1 then 2 ^ nd A k else 0))
      rw [if_neg e, Nat.or_zero]
/-- the reference's worth, made the class's -/
theorem e_pricesOf {r : Int64} {f : Nat} (hf : f < 2 ^ 50) (hr : r.toInt = (f : Int) - 1048575) {Q : Int32 → Prop} : p_X9_pricesOf r Q ↔ Q (nI (f / 2 ^ 20)) := by
  have e : r + 1048575 = lN f := by
    refine lN_of (by omega) ?_
    have t : (1048575 : Int64).toInt = 1048575 := by decide
    rw [i64s hr t (by omega) (by omega)]
    omega
  unfold p_X9_pricesOf
  rw [e, show (20 : Int32) = nI 20 from rfl, e_shrL (by omega) (by decide), lN_i]
theorem i_setOf {r : Int64} {f : Nat} (hf : f < 2 ^ 50) (hr : r.toInt = (f : Int) - 1048575) {A : List Nat} (hl : A.length ≤ 20) (hA : ∀ i, i < A.length → nd A i < 20) {cand : Nat → Int32} (hc : ∀ i, i < A.length → cand i = nI (nd A i)) {Q : Int32 → Prop} (h : Q (nI (so A (fun i => 1 - tb f i) A.length))) : p_X9_setOf cand (nI A.length) r Q := by
  unfold p_X9_setOf
  rw [e_pricesOf hf hr]
  have hdm := Nat.div_add_mod f (2 ^ 20)
  have hml : f % 2 ^ 20 < 2 ^ 20 := Nat.mod_lt _ (by decide)
  have hfl : f / 2 ^ 20 < 2 ^ 30 := by
    rw [Nat.div_lt_iff_lt_mul (by decide)]
    omega
  have e1 : (nI (f / 2 ^ 20)).toInt64 <<< ((20 : Int32).toInt64 &&& 63) = lN (f / 2 ^ 20 * 2 ^ 20) := by
    rw [nI_l (by omega)]
    exact e_shlL (k := 20) (by decide) (by omega)
  have e2 : (lN (f / 2 ^ 20 * 2 ^ 20) - r) = lN (1048575 - f % 1048576) := by
    refine lN_of (by omega) ?_
    rw [i64d (lN_tI (by omega)) hr (by omega) (by omega)]
    omega
  rw [e1, e2, lN_i]
  unfold p_X9_setOf_18
  refine wl1 (q_X9_setOf_18 cand (nI A.length) (nI (1048575 - f % 1048576)) Q) A.length (by omega) (fun k x => x = nI (so A (fun i => 1 - tb f i) k)) 0 (by omega) _ rfl ?_
  rintro K k x _ hk rfl hK
  unfold q_X9_setOf_18 p_X9_setOf_51
  simp (disch := omega) only [li_0, li_1, li_2, li_3, li_4, li_5, li_6, li_7, li_8, li_9, li_10, li_11, li_12, li_13, li_14, li_15, li_16, li_20, li_26, li_31, li_32, li_36, li_42, li_43, li_48, li_52, li_57, li_58, li_59, li_60, li_63, li_97, li_99, li_104, li_112, li_115, li_119, li_140, li_141, li_142, li_143, li_144, li_145, li_146, li_147, li_148, li_149, li_150, li_151, li_152, li_255, li_303, li_455, li_999, li_1000, li_1510, li_1820, li_2275, li_9999, li_10000, li_100000, li_1048575, li_100000000, nI_leI, nI_add]
  refine ⟨fun hge => ?_, fun hlt => ?_⟩
  · have : k = A.length := by omega
    subst this
    exact h
  · have hk2 : k < A.length := by omega
    have hk3 : k < 20 := by omega
    have hd := hA k hk2
    rw [e_has9 (by omega) (by omega), tb_compl hk3]
    refine ⟨fun e => ⟨fun e0 => absurd e0 (by decide), fun _ => ?_⟩, fun e => ⟨fun _ => ?_, fun e0 => absurd rfl e0⟩⟩
    · refine ⟨(vp_t (by omega) (by decide)).2 hk3, ?_⟩
      rw [nI_clamp (by omega), hc k hk2, e_shl (by omega), e_orI]
      refine hK hk2 _ ?_
      show _ = nI (so A (fun i => 1 - tb f i) k ||| (if 1 - tb f k = 1 then 2 ^ nd A k else 0))
      rw [if_pos e]
    · rw [e_orI]
      refine hK hk2 _ ?_
      show _ = nI (so A (fun i => 1 - tb f i) k ||| (if 1 - tb f k = 1 then 2 ^ nd A k else 0))
      rw [if_neg e]
theorem e_areSet {a b c : Int32} {Q : Int32 → Prop} : p_X8_areSetArguments a b c Q ↔ (((∃ x, 0 ≤ x ∧ x ≤ 1 ∧ a = nI x) ∧ (∃ x, 0 ≤ x ∧ x ≤ 150 ∧ b = nI x) ∧ (∃ x, 1 ≤ x ∧ x ≤ 4 ∧ c = nI x)) → Q (nI 1)) ∧ (¬ ((∃ x, 0 ≤ x ∧ x ≤ 1 ∧ a = nI x) ∧ (∃ x, 0 ≤ x ∧ x ≤ 150 ∧ b = nI x) ∧ (∃ x, 1 ≤ x ∧ x ≤ 4 ∧ c = nI x)) → Q (nI 0)) := by
  unfold p_X8_areSetArguments
  simp (disch := omega) only [li_0, li_1, li_2, li_3, li_4, li_5, li_6, li_7, li_8, li_9, li_10, li_11, li_12, li_13, li_14, li_15, li_16, li_20, li_26, li_31, li_32, li_36, li_42, li_43, li_48, li_52, li_57, li_58, li_59, li_60, li_63, li_97, li_99, li_104, li_112, li_115, li_119, li_140, li_141, li_142, li_143, li_144, li_145, li_146, li_147, li_148, li_149, li_150, li_151, li_152, li_255, li_303, li_455, li_999, li_1000, li_1510, li_1820, li_2275, li_9999, li_10000, li_100000, li_1048575, li_100000000, e_isSide, e_inRange, nI_eqI, Nat.one_ne_zero, true_and, and_true, not_true_eq_false, not_false_eq_true, true_imp_iff, false_imp_iff, false_and, and_false, imp_false, Classical.not_not, Bool.false_eq_true, Nat.zero_ne_one, Nat.one_ne_zero, Nat.not_lt_zero, if_true, if_false, implies_true]
  by_cases h1 : ∃ x, 0 ≤ x ∧ x ≤ 1 ∧ a = nI x
  · by_cases h2 : ∃ x, 0 ≤ x ∧ x ≤ 150 ∧ b = nI x
    · simp only [h1, h2, true_and, and_true, not_true_eq_false, not_false_eq_true, true_imp_iff, false_imp_iff, false_and, and_false, imp_false, Classical.not_not, Bool.false_eq_true, Nat.zero_ne_one, Nat.one_ne_zero, Nat.not_lt_zero, if_true, if_false, implies_true]
    · simp only [h1, h2, true_and, and_true, not_true_eq_false, not_false_eq_true, true_imp_iff, false_imp_iff, false_and, and_false, imp_false, Classical.not_not, Bool.false_eq_true, Nat.zero_ne_one, Nat.one_ne_zero, Nat.not_lt_zero, if_true, if_false, implies_true]
  · simp only [h1, true_and, and_true, not_true_eq_false, not_false_eq_true, true_imp_iff, false_imp_iff, false_and, and_false, imp_false, Classical.not_not, Bool.false_eq_true, Nat.zero_ne_one, Nat.one_ne_zero, Nat.not_lt_zero, if_true, if_false, implies_true]
theorem e_isAsked {a b c : Int32} {Q : Int32 → Prop} : p_X9_isAsked a b c Q ↔ (((∃ x, 0 ≤ x ∧ x ≤ 1 ∧ a = nI x) ∧ (∃ x, 0 ≤ x ∧ x ≤ 150 ∧ b = nI x) ∧ (∃ x, 1 ≤ x ∧ x ≤ 4 ∧ c = nI x)) → Q (nI 1)) ∧ (¬ ((∃ x, 0 ≤ x ∧ x ≤ 1 ∧ a = nI x) ∧ (∃ x, 0 ≤ x ∧ x ≤ 150 ∧ b = nI x) ∧ (∃ x, 1 ≤ x ∧ x ≤ 4 ∧ c = nI x)) → Q (nI 0)) := by
  unfold p_X9_isAsked
  simp (disch := omega) only [li_0, li_1, li_2, li_3, li_4, li_5, li_6, li_7, li_8, li_9, li_10, li_11, li_12, li_13, li_14, li_15, li_16, li_20, li_26, li_31, li_32, li_36, li_42, li_43, li_48, li_52, li_57, li_58, li_59, li_60, li_63, li_97, li_99, li_104, li_112, li_115, li_119, li_140, li_141, li_142, li_143, li_144, li_145, li_146, li_147, li_148, li_149, li_150, li_151, li_152, li_255, li_303, li_455, li_999, li_1000, li_1510, li_1820, li_2275, li_9999, li_10000, li_100000, li_1048575, li_100000000, e_in, nI_eqI, Nat.one_ne_zero, true_and, and_true, not_true_eq_false, not_false_eq_true, true_imp_iff, false_imp_iff, false_and, and_false, imp_false, Classical.not_not, Bool.false_eq_true, Nat.zero_ne_one, Nat.one_ne_zero, Nat.not_lt_zero, if_true, if_false, implies_true]
  by_cases h1 : ∃ x, 0 ≤ x ∧ x ≤ 1 ∧ a = nI x
  · by_cases h2 : ∃ x, 0 ≤ x ∧ x ≤ 150 ∧ b = nI x
    · simp only [h1, h2, true_and, and_true, not_true_eq_false, not_false_eq_true, true_imp_iff, false_imp_iff, false_and, and_false, imp_false, Classical.not_not, Bool.false_eq_true, Nat.zero_ne_one, Nat.one_ne_zero, Nat.not_lt_zero, if_true, if_false, implies_true]
    · simp only [h1, h2, true_and, and_true, not_true_eq_false, not_false_eq_true, true_imp_iff, false_imp_iff, false_and, and_false, imp_false, Classical.not_not, Bool.false_eq_true, Nat.zero_ne_one, Nat.one_ne_zero, Nat.not_lt_zero, if_true, if_false, implies_true]
  · simp only [h1, true_and, and_true, not_true_eq_false, not_false_eq_true, true_imp_iff, false_imp_iff, false_and, and_false, imp_false, Classical.not_not, Bool.false_eq_true, Nat.zero_ne_one, Nat.one_ne_zero, Nat.not_lt_zero, if_true, if_false, implies_true]
/-- the value that both find: none, or a number -/
theorem found_cases {n : Nat} {g : Nat → Nat → Nat} {s : Nat → Nat} (hg : okG n g) (ho : okS s) {col : Nat} {A : List Nat} (hA : ∀ d, d ∈ A → d < n) (hl : A.length ≤ 20) {lines : Nat} {found r : Int64} (h1 : found.toInt = phi (mg (fo g s col A).2.2 0 lines)) (h2 : r.toInt = mg (fo g s col A).2.2 0 lines) : (found.toInt = -1 ∧ r.toInt = -1) ∨ ∃ f : Nat, f < 2 ^ 50 ∧ 1048575 ≤ f ∧ found = lN f ∧ r.toInt = (f : Int) - 1048575 := by
  have hb := fo_b hg ho (col := col) hA hl
  have hm := (okT_mg hb (by unfold WW; omega)).1 0 lines
  generalize mg (fo g s col A).2.2 0 lines = V at h1 h2 hm
  unfold phi at h1
  by_cases e : V < 0
  · left
    rw [if_pos e] at h1
    exact ⟨h1, by omega⟩
  · right
    rw [if_neg e] at h1
    unfold WW at hm
    refine ⟨(V + 1048575).toNat, by omega, by omega, ?_, by omega⟩
    refine lN_of (by omega) ?_
    rw [h1]
    omega
theorem e_hasFound {x : Int64} {Q : Int32 → Prop} : p_X6_hasFound x Q ↔ (x.toInt < 0 → Q (nI 0)) ∧ (¬ x.toInt < 0 → Q (nI 1)) := by
  unfold p_X6_hasFound
  rw [lg_cmp_lt, Int64.lt_iff_toInt_lt, t0]
  exact Iff.rfl
theorem e_cmp0 {x : Int64} : (0 : Int32) ≤ lg_cmp x 0 ↔ 0 ≤ x.toInt := by
  rw [lg_cmp_ge, Int64.le_iff_toInt_le, t0]
theorem l_bestSet : lawS_23 Rel := by
  unfold lawS_23
  intro S h hz rt rl x_finder_best x_finder_candidates x_finder_candidateCount x_finder_lineBound x_finder_found pg hist st mt ml m_best m_candidate m_candidates hR a1 a2 a3 a4
  obtain ⟨hS, ⟨z, rfl, rfl, hH⟩, hT⟩ := hR
  have hR : Rel S h (nI z) rt rl pg hist (nI z) mt ml := ⟨hS, ⟨z, rfl, rfl, hH⟩, hT⟩
  have hz5 := hH.1
  obtain ⟨hM, k0, k1, hk0, hk1, p151, p303, hkk, f0, f1⟩ := id hS
  obtain ⟨n, g, s, sd, hg, ho, hw, ⟨cn, cv, cst, cw⟩, hRR⟩ := id hM
  obtain ⟨rn, rv, rst, rsd⟩ := id hRR
  have hn := hg.1
  unfold p_X8_bestSet
  rw [e_areSet]
  refine ⟨fun ha => ⟨fun e => absurd e (by decide), fun _ => ?_⟩, fun ha => ⟨fun _ => ?_, fun e => absurd rfl e⟩⟩
  · by_cases hq : ∃ x, 0 ≤ x ∧ x ≤ 2 ∧ a4 = nI x
    · obtain ⟨⟨side, _, hside, rfl⟩, ⟨lines, _, hlines, rfl⟩, ⟨col, hcol1, hcol, rfl⟩⟩ := id ha
      obtain ⟨q, _, hq2, rfl⟩ := id hq
      have hmem : ∀ d, d ∈ ca (qb g s col) g sd side n 4 → d < n := fun d hd => (ca_mem hd).1
      have hlen := ca_len4 (qb g s col) g sd side n 4 (Nat.le_refl 4)
      have hnd : ∀ i, i < (ca (qb g s col) g sd side n 4).length → nd (ca (qb g s col) g sd side n 4) i < 20 := fun i hi => by
        have := hmem _ (nd_mem hi)
        omega
      simp (disch := omega) only [li_0, li_1, li_2, li_3, li_4, li_5, li_6, li_7, li_8, li_9, li_10, li_11, li_12, li_13, li_14, li_15, li_16, li_20, li_26, li_31, li_32, li_36, li_42, li_43, li_48, li_52, li_57, li_58, li_59, li_60, li_63, li_97, li_99, li_104, li_112, li_115, li_119, li_140, li_141, li_142, li_143, li_144, li_145, li_146, li_147, li_148, li_149, li_150, li_151, li_152, li_255, li_303, li_455, li_999, li_1000, li_1510, li_1820, li_2275, li_9999, li_10000, li_100000, li_1048575, li_100000000, e_inRange, hq, nI_eqI, Nat.one_ne_zero, true_and, and_true, not_true_eq_false, not_false_eq_true, true_imp_iff, false_imp_iff, false_and, and_false, imp_false, Classical.not_not, Bool.false_eq_true, Nat.zero_ne_one, Nat.one_ne_zero, Nat.not_lt_zero, if_true, if_false, implies_true]
      rw [cn, cw]
      refine i_find6 hg ho hw cv cst hside hlines hcol ?_
      intro b1 cd1 lb found hcd1 hfound
      have ref : ∀ ans : Int32, (∀ r : Int64, r.toInt = mg (fo g s col (ca (qb g s col) g sd side n 4)).2.2 0 lines → ∀ cd2 : Nat → Int32, (∀ i, i < (ca (qb g s col) g sd side n 4).length → cd2 i = nI (nd (ca (qb g s col) g sd side n 4) i)) → ∀ Q : Int32 → Prop, Q ans → (0 ≤ r.toInt → (¬ q = 2 → p_X9_pricesOf r Q) ∧ (q = 2 → p_X9_setOf cd2 (nI (ca (qb g s col) g sd side n 4).length) r Q)) ∧ (¬ 0 ≤ r.toInt → Q (-nI 99))) → p_X9_bestSet pg m_best m_candidate m_candidates (nI side) (nI lines) (nI col) (nI q) (fun r' _ _ _ => ans = r' ∧ Rel S h (nI z) rt rl pg hist (nI z) mt ml) := by
        intro ans hans
        unfold p_X9_bestSet
        rw [e_isAsked]
        refine ⟨fun _ => ⟨fun e => absurd e (by decide), fun _ => ?_⟩, fun e => absurd ha e⟩
        simp (disch := omega) only [li_0, li_1, li_2, li_3, li_4, li_5, li_6, li_7, li_8, li_9, li_10, li_11, li_12, li_13, li_14, li_15, li_16, li_20, li_26, li_31, li_32, li_36, li_42, li_43, li_48, li_52, li_57, li_58, li_59, li_60, li_63, li_97, li_99, li_104, li_112, li_115, li_119, li_140, li_141, li_142, li_143, li_144, li_145, li_146, li_147, li_148, li_149, li_150, li_151, li_152, li_255, li_303, li_455, li_999, li_1000, li_1510, li_1820, li_2275, li_9999, li_10000, li_100000, li_1048575, li_100000000, e_in, hq, nI_eqI, Nat.one_ne_zero, true_and, and_true, not_true_eq_false, not_false_eq_true, true_imp_iff, false_imp_iff, false_and, and_false, imp_false, Classical.not_not, Bool.false_eq_true, Nat.zero_ne_one, Nat.one_ne_zero, Nat.not_lt_zero, if_true, if_false, implies_true]
        refine i_bestOf hRR hg ho hw hside hlines hcol ?_
        intro r b2 cd2 hcd2 hr
        obtain ⟨h1, h2⟩ := hans r hr cd2 hcd2 (fun r' => ans = r' ∧ Rel S h (nI z) rt rl pg hist (nI z) mt ml) ⟨rfl, hR⟩
        have e0 : nI 0 ≤ lg_cmp r 0 ↔ 0 ≤ r.toInt := e_cmp0
        rw [e0]
        exact ⟨fun e => ⟨fun e2 => (h1 e).1 e2, fun e2 => (h1 e).2 e2⟩, h2⟩
      rw [e_hasFound]
      refine ⟨fun hneg => ?_, fun hpos => ?_⟩
      · simp (disch := omega) only [nI_eqI, Nat.one_ne_zero, true_and, and_true, not_true_eq_false, not_false_eq_true, true_imp_iff, false_imp_iff, false_and, and_false, imp_false, Classical.not_not, Bool.false_eq_true, Nat.zero_ne_one, Nat.one_ne_zero, Nat.not_lt_zero, if_true, if_false, implies_true]
        refine ref _ (fun r hr cd2 hcd2 Q hQ => ?_)
        rcases found_cases hg ho hmem (by omega) hfound hr with ⟨_, h2⟩ | ⟨f, hf, hf2, h1, _⟩
        · exact ⟨fun e => absurd e (by omega), fun _ => hQ⟩
        · rw [h1, lN_tI (by omega)] at hneg
          omega
      · simp (disch := omega) only [nI_eqI, Nat.one_ne_zero, true_and, and_true, not_true_eq_false, not_false_eq_true, true_imp_iff, false_imp_iff, false_and, and_false, imp_false, Classical.not_not, Bool.false_eq_true, Nat.zero_ne_one, Nat.one_ne_zero, Nat.not_lt_zero, if_true, if_false, implies_true]
        have hf : ∃ f : Nat, f < 2 ^ 50 ∧ found = lN f ∧ ∀ r : Int64, r.toInt = mg (fo g s col (ca (qb g s col) g sd side n 4)).2.2 0 lines → r.toInt = (f : Int) - 1048575 ∧ 0 ≤ r.toInt := by
          have hb := fo_b hg ho (col := col) hmem (by omega)
          have hm := (okT_mg hb (by unfold WW; omega)).1 0 lines
          generalize mg (fo g s col (ca (qb g s col) g sd side n 4)).2.2 0 lines = V at hfound hm
          unfold phi at hfound
          by_cases e : V < 0
          · rw [if_pos e] at hfound
            omega
          · rw [if_neg e] at hfound
            unfold WW at hm
            refine ⟨(V + 1048575).toNat, by omega, lN_of (by omega) (by rw [hfound]; omega), fun r hr => by omega⟩
        obtain ⟨f, hf1, rfl, hf2⟩ := hf
        refine ⟨fun e => ?_, fun e => ?_⟩
        · rw [e_prices hf1]
          refine ref _ (fun r hr cd2 hcd2 Q hQ => ?_)
          obtain ⟨h1, h2⟩ := hf2 r hr
          refine ⟨fun _ => ⟨fun _ => (e_pricesOf hf1 h1).2 hQ, fun e2 => absurd e2 e⟩, fun e2 => absurd h2 e2⟩
        · refine i_foundSet hf1 (by omega) hnd hcd1 ?_
          refine ref _ (fun r hr cd2 hcd2 Q hQ => ?_)
          obtain ⟨h1, h2⟩ := hf2 r hr
          refine ⟨fun _ => ⟨fun e2 => absurd e e2, fun _ => i_setOf hf1 h1 (by omega) hnd hcd2 hQ⟩, fun e2 => absurd h2 e2⟩
    · unfold p_X9_bestSet
      rw [show nI 1 = (1 : Int32) from rfl] at *
      have hx : p_X9_isAsked a1 a2 a3 = p_X9_isAsked a1 a2 a3 := rfl
      simp (disch := omega) only [li_0, li_1, li_2, li_3, li_4, li_5, li_6, li_7, li_8, li_9, li_10, li_11, li_12, li_13, li_14, li_15, li_16, li_20, li_26, li_31, li_32, li_36, li_42, li_43, li_48, li_52, li_57, li_58, li_59, li_60, li_63, li_97, li_99, li_104, li_112, li_115, li_119, li_140, li_141, li_142, li_143, li_144, li_145, li_146, li_147, li_148, li_149, li_150, li_151, li_152, li_255, li_303, li_455, li_999, li_1000, li_1510, li_1820, li_2275, li_9999, li_10000, li_100000, li_1048575, li_100000000, e_inRange, hq, nI_eqI, Nat.one_ne_zero, true_and, and_true, not_true_eq_false, not_false_eq_true, true_imp_iff, false_imp_iff, false_and, and_false, imp_false, Classical.not_not, Bool.false_eq_true, Nat.zero_ne_one, Nat.one_ne_zero, Nat.not_lt_zero, if_true, if_false, implies_true]
      rw [e_isAsked]
      refine ⟨fun _ => ⟨fun e => absurd e (by decide), fun _ => ?_⟩, fun e => absurd ha e⟩
      simp (disch := omega) only [e_in, hq, nI_eqI, Nat.one_ne_zero, true_and, and_true, not_true_eq_false, not_false_eq_true, true_imp_iff, false_imp_iff, false_and, and_false, imp_false, Classical.not_not, Bool.false_eq_true, Nat.zero_ne_one, Nat.one_ne_zero, Nat.not_lt_zero, if_true, if_false, implies_true]
      exact hR
  · unfold p_X9_bestSet
    dsimp only
    rw [e_isAsked]
    refine ⟨fun e => absurd e ha, fun _ => ⟨fun _ => ⟨rfl, hR⟩, fun e => absurd rfl e⟩⟩
/-- the values while the candidates are gone through -/
def gu (g : Nat → Nat → Nat) (A : List Nat) (b : Nat → Nat) : Nat → Nat → Nat → Nat
  | 0 => g
  | i + 1 => fun d k => if d = nd A i ∧ k = 6 then b i else gu g A b i d k
theorem gu_ok {n : Nat} {g : Nat → Nat → Nat} (hg : okG n g) (A : List Nat) {b : Nat → Nat} (hb : ∀ i, b i ≤ 1) : ∀ k, okG n (gu g A b k)
  | 0 => hg
  | k + 1 => by
    have ih := gu_ok hg A hb k
    refine ⟨ih.1, fun d j hd hj => ?_, fun d hd => ?_⟩
    · show (if d = nd A k ∧ j = 6 then b k else gu g A b k d j) ≤ hiD j
      by_cases e : d = nd A k ∧ j = 6
      · rw [if_pos e, e.2]
        exact hb k
      · rw [if_neg e]
        exact ih.2.1 d j hd hj
    · show 1 ≤ (if d = nd A k ∧ 2 = 6 then b k else gu g A b k d 2)
      rw [if_neg (fun q => absurd q.2 (by decide))]
      exact ih.2.2 d hd
theorem i_offerFound {n : Nat} {g : Nat → Nat → Nat} (hn : n ≤ 20) {v : Nat → Int32} (hv : ∀ d k, d < 20 → k < 7 → v (d * 7 + k) = nI (g d k)) {f : Nat} (hf : f < 2 ^ 50) {A : List Nat} (hl : A.length ≤ 20) (hA : ∀ i, i < A.length → nd A i < n) {cand : Nat → Int32} (hc : ∀ i, i < A.length → cand i = nI (nd A i)) {Q : (Nat → Int32) → Prop} (h : ∀ v', (∀ d k, d < 20 → k < 7 → v' (d * 7 + k) = nI (gu g A (fun i => 1 - tb f i) A.length d k)) → Q v') : p_X6_offerFound cand (nI A.length) (lN f) v (nI n) Q := by
  have c0 : okD (nI 6) (nI 0) := okD_i (by decide) (Nat.zero_le _) (Nat.zero_le _)
  have c1 : okD (nI 6) (nI 1) := okD_i (by decide) (Nat.zero_le _) (Nat.le_refl _)
  unfold p_X6_offerFound p_X6_offerFound_2
  refine wl1 (q_X6_offerFound_2 cand (nI A.length) (lN f) (nI n) Q) A.length (by omega) (fun i v' => ∀ d k, d < 20 → k < 7 → v' (d * 7 + k) = nI (gu g A (fun i => 1 - tb f i) i d k)) 0 (by omega) _ hv ?_
  rintro K i v' _ hi hv' hK
  unfold q_X6_offerFound_2 p_X6_offerFound_32
  simp (disch := omega) only [li_0, li_1, li_2, li_3, li_4, li_5, li_6, li_7, li_8, li_9, li_10, li_11, li_12, li_13, li_14, li_15, li_16, li_20, li_26, li_31, li_32, li_36, li_42, li_43, li_48, li_52, li_57, li_58, li_59, li_60, li_63, li_97, li_99, li_104, li_112, li_115, li_119, li_140, li_141, li_142, li_143, li_144, li_145, li_146, li_147, li_148, li_149, li_150, li_151, li_152, li_255, li_303, li_455, li_999, li_1000, li_1510, li_1820, li_2275, li_9999, li_10000, li_100000, li_1048575, li_100000000, nI_leI, nI_add]
  refine ⟨fun hge => ?_, fun hlt => ?_⟩
  · have : i = A.length := by omega
    subst this
    exact h _ hv'
  · have hi2 : i < A.length := by omega
    have hi3 : i < 20 := by omega
    have hd := hA i hi2
    refine ⟨(vp_t (by omega) (by decide)).2 hi3, ?_⟩
    rw [e_isChosen hf hi3, nI_clamp (by omega), hc i hi2]
    have step : ∀ x, x = 1 - tb f i → K (upd v' (nd A i * 7 + 6) (nI x)) (nI (i + 1)) := by
      rintro x rfl
      refine hK hi2 _ ?_
      intro d k hd2 hk2
      show _ = nI (if d = nd A i ∧ k = 6 then 1 - tb f i else gu g A (fun i => 1 - tb f i) i d k)
      by_cases e : d = nd A i ∧ k = 6
      · rw [if_pos e, e.1, e.2]
        exact pk_us
      · rw [if_neg e, pk_un (by omega)]
        exact hv' d k hd2 hk2
    refine ⟨fun e => ⟨fun e0 => absurd e0 (by decide), fun _ => ?_⟩, fun e => ⟨fun _ => ?_, fun e0 => absurd rfl e0⟩⟩
    · rw [e_change hn hd (by decide) c1]
      exact step 1 e.symm
    · rw [e_change hn hd (by decide) c0]
      exact step 0 (by omega)
theorem l_choose : lawS_6 Rel := by
  unfold lawS_6
  intro S h hz rt rl x_finder_best x_finder_candidates x_finder_candidateCount x_finder_lineBound x_finder_found pg hist st mt ml m_best m_candidate m_candidates hR a1 a2 a3
  obtain ⟨hS, ⟨z, rfl, rfl, hH⟩, hT⟩ := hR
  have hR : Rel S h (nI z) rt rl pg hist (nI z) mt ml := ⟨hS, ⟨z, rfl, rfl, hH⟩, hT⟩
  have hz5 := hH.1
  obtain ⟨hM, k0, k1, hk0, hk1, p151, p303, hkk, f0, f1⟩ := id hS
  obtain ⟨n, g, s, sd, hg, ho, hw, ⟨cn, cv, cst, cw⟩, hRR⟩ := id hM
  obtain ⟨rn, rv, rst, rsd⟩ := id hRR
  have hn := hg.1
  unfold p_X8_choose
  rw [e_areSet]
  refine ⟨fun ha => ⟨fun _ => ?_, fun e => absurd e (by decide)⟩, fun ha => ⟨fun e => absurd rfl e, fun _ => ?_⟩⟩
  · obtain ⟨⟨side, _, hside, rfl⟩, ⟨lines, _, hlines, rfl⟩, ⟨col, hcol1, hcol, rfl⟩⟩ := id ha
    have hmem : ∀ d, d ∈ ca (qb g s col) g sd side n 4 → d < n := fun d hd => (ca_mem hd).1
    have hlen := ca_len4 (qb g s col) g sd side n 4 (Nat.le_refl 4)
    have hpw := ca_pw (qb g s col) g sd side n 4
    have hndn : ∀ i, i < (ca (qb g s col) g sd side n 4).length → nd (ca (qb g s col) g sd side n 4) i < n := fun i hi => hmem _ (nd_mem hi)
    have hnd : ∀ i, i < (ca (qb g s col) g sd side n 4).length → nd (ca (qb g s col) g sd side n 4) i < 20 := fun i hi => by
      have := hndn i hi
      omega
    rw [cn, cw]
    refine i_find6 hg ho hw cv cst hside hlines hcol ?_
    intro b1 cd1 lb found hcd1 hfound
    have ref : ∀ (ans : Int32) (S' : sS) (h' : Nat → sS) (hz' : Int32), (∀ r : Int64, r.toInt = mg (fo g s col (ca (qb g s col) g sd side n 4)).2.2 0 lines → ∀ cd2 : Nat → Int32, (∀ i, i < (ca (qb g s col) g sd side n 4).length → cd2 i = nI (nd (ca (qb g s col) g sd side n 4) i)) → ∀ b2 : Nat → Int64, (0 ≤ r.toInt → p_X9_keep pg hist (nI z) (fun history_7 states_8 => p_X9_setOf cd2 (nI (ca (qb g s col) g sd side n 4).length) r (fun r9 => p_X9_choose_45 history_7 states_8 b2 cd2 (nI (ca (qb g s col) g sd side n 4).length) r r9 (fun r' page history states _ _ _ => ans = r' ∧ Rel S' h' hz' rt rl page history states mt ml) pg (nI 0)))) ∧ (¬ 0 ≤ r.toInt → ans = -nI 2 ∧ Rel S' h' hz' rt rl pg hist (nI z) mt ml)) → p_X9_choose pg hist (nI z) m_best m_candidate m_candidates (nI side) (nI lines) (nI col) (fun r' page history states _ _ _ => ans = r' ∧ Rel S' h' hz' rt rl page history states mt ml) := by
      intro ans S' h' hz' hans
      unfold p_X9_choose
      rw [e_isAsked]
      refine ⟨fun _ => ⟨fun _ => ?_, fun e => absurd e (by decide)⟩, fun e => absurd ha e⟩
      refine i_bestOf hRR hg ho hw hside hlines hcol ?_
      intro r b2 cd2 hcd2 hr
      obtain ⟨h1, h2⟩ := hans r hr cd2 hcd2 b2
      rw [e_cmp0]
      exact ⟨h1, h2⟩
    rw [e_hasFound]
    refine ⟨fun hneg => ⟨fun e => absurd rfl e, fun _ => ?_⟩, fun hpos => ⟨fun _ => ?_, fun e => absurd e (by decide)⟩⟩
    · refine ref _ _ _ _ (fun r hr cd2 hcd2 b2 => ?_)
      rcases found_cases hg ho hmem (by omega) hfound hr with ⟨_, h2⟩ | ⟨f, hf, hf2, h1, _⟩
      · exact ⟨fun e => absurd e (by omega), fun _ => ⟨rfl, hR⟩⟩
      · rw [h1, lN_tI (by omega)] at hneg
        omega
    · have hf : ∃ f : Nat, f < 2 ^ 50 ∧ found = lN f ∧ ∀ r : Int64, r.toInt = mg (fo g s col (ca (qb g s col) g sd side n 4)).2.2 0 lines → r.toInt = (f : Int) - 1048575 ∧ 0 ≤ r.toInt := by
        have hb := fo_b hg ho (col := col) hmem (by omega)
        have hm := (okT_mg hb (by unfold WW; omega)).1 0 lines
        generalize mg (fo g s col (ca (qb g s col) g sd side n 4)).2.2 0 lines = V at hfound hm
        unfold phi at hfound
        by_cases e : V < 0
        · rw [if_pos e] at hfound
          omega
        · rw [if_neg e] at hfound
          unfold WW at hm
          refine ⟨(V + 1048575).toNat, by omega, lN_of (by omega) (by rw [hfound]; omega), fun r hr => by omega⟩
      obtain ⟨f, hf1, rfl, hf2⟩ := hf
      have hb1 : ∀ i, 1 - tb f i ≤ 1 := fun i => Nat.sub_le _ _
      refine i_record hz5 ?_
      intro h' hpc
      refine i_offerFound hn cv hf1 (by omega) hndn hcd1 ?_
      intro v' hv'
      rw [e_prices hf1]
      refine ref _ _ _ _ (fun r hr cd2 hcd2 b2 => ?_)
      obtain ⟨h1, h2⟩ := hf2 r hr
      refine ⟨fun _ => ?_, fun e => absurd h2 e⟩
      refine i_keep hz5 ?_
      intro hist' hpr
      refine i_setOf hf1 h1 (by omega) hnd hcd2 ?_
      have hso := so_lt (A := ca (qb g s col) g sd side n 4) (b := fun i => 1 - tb f i) (k := (ca (qb g s col) g sd side n 4).length) hnd
      have hbit := fun i hi => so_nd hpw (b := fun i => 1 - tb f i) hb1 (i := i) hi
      generalize ca (qb g s col) g sd side n 4 = A at *
      unfold p_X9_choose_45
      refine wl1 (q_X9_choose_45 hist' (nI (ht z + 1)) b2 cd2 (nI A.length) r (nI (so A (fun i => 1 - tb f i) A.length)) _) A.length (by omega) (fun i p => relR n (gu g A (fun i => 1 - tb f i) i) s sd p ∧ ∀ j, 151 ≤ j → p j = pg j) 0 (by omega) _ ⟨hRR, fun _ _ => rfl⟩ ?_
      rintro K i p _ hi ⟨hRp, hp⟩ hK
      unfold q_X9_choose_45
      simp only [li_0, li_1, li_2, li_3, li_4, li_5, li_6, li_7, li_8, li_9, li_10, li_11, li_12, li_13, li_14, li_15, li_16, li_20, li_26, li_31, li_32, li_36, li_42, li_43, li_48, li_52, li_57, li_58, li_59, li_60, li_63, li_97, li_99, li_104, li_112, li_115, li_119, li_140, li_141, li_142, li_143, li_144, li_145, li_146, li_147, li_148, li_149, li_150, li_151, li_152, li_255, li_303, li_455, li_999, li_1000, li_1510, li_1820, li_2275, li_9999, li_10000, li_100000, li_1048575, li_100000000]
      rw [nI_leI (by omega) (by omega)]
      refine ⟨fun hge => ?_, fun hlt => ?_⟩
      · have : i = A.length := by omega
        subst this
        rw [e_pricesOf hf1 h1]
        exact ⟨rfl, relS_menu hS ⟨n, gu g A (fun i => 1 - tb f i) A.length, s, sd, gu_ok hg A hb1 _, ho, hw, ⟨rfl, hv', cst, rfl⟩, hRp⟩ hp, ⟨_, rfl, rfl, relH_push hH hS hpc hpr⟩, hT⟩
      · have hi2 : i < A.length := by omega
        have hi3 : i < 20 := by omega
        have hd := hndn i hi2
        have hvi : 1 + 7 * nd A i + 6 < 455 := by omega
        have hcdi := hcd2 i hi2
        have hbi := hbit i hi2
        simp (disch := omega) only [vp_t, nI_clamp, hcdi, pk_mul, nI_add, e_bit, hbi]
        refine ⟨hi3, hi3, hvi, hK hi2 _ ⟨⟨?_, ?_, ?_, ?_⟩, ?_⟩⟩
        · rw [pk_un (by omega)]
          exact hRp.1
        · intro d k hd2 hk2
          show _ = nI (if d = nd A i ∧ k = 6 then 1 - tb f i else gu g A (fun i => 1 - tb f i) i d k)
          by_cases e : d = nd A i ∧ k = 6
          · rw [if_pos e, e.1, e.2]
            exact pk_us
          · rw [if_neg e, pk_un (by omega)]
            exact hRp.2.1 d k hd2 hk2
        · intro k hk
          rw [pk_un (by omega)]
          exact hRp.2.2.1 k hk
        · intro c hc
          rw [pk_un (by omega)]
          exact hRp.2.2.2 c hc
        · intro j hj
          rw [pk_un (by omega)]
          exact hp j hj
  · unfold p_X9_choose
    dsimp only
    rw [e_isAsked]
    exact ⟨fun e => absurd e ha, fun _ => ⟨fun e => absurd rfl e, fun _ => ⟨rfl, hR⟩⟩⟩

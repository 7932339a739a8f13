/-! ===== what is found ===== -/
theorem tb_test {x k : Nat} : tb x k = 1 ↔ x.testBit k = true := by
  unfold tb
  rw [Nat.testBit_eq_decide_div_mod_eq, decide_eq_true_iff]
theorem tb_or {x y k : Nat} : tb (x ||| y) k = 1 ↔ tb x k = 1 ∨ tb y k = 1 := by
  rw [tb_test, tb_test, tb_test, Nat.testBit_or, Bool.or_eq_true]
theorem tb_pow {a k : Nat} : tb (2 ^ a) k = 1 ↔ a = k := by
  rw [tb_test, Nat.testBit_two_pow, decide_eq_true_iff]
theorem tb_zero (k : Nat) : tb 0 k = 0 := by
  unfold tb
  rw [Nat.zero_div]
/-- the set of those dishes whose bits are on -/
def so (A : List Nat) (b : Nat → Nat) : Nat → Nat
  | 0 => 0
  | i + 1 => so A b i ||| (if b i = 1 then 2 ^ nd A i else 0)
theorem so_lt {A : List Nat} {b : Nat → Nat} : ∀ {k : Nat}, (∀ i, i < k → nd A i < 20) → so A b k < 2 ^ 20
  | 0, _ => Nat.pow_pos (by decide)
  | k + 1, h => by
    refine Nat.or_lt_two_pow (so_lt (fun i hi => h i (by omega))) ?_
    split
    · exact Nat.pow_lt_pow_right (by decide) (h k (by omega))
    · exact Nat.pow_pos (by decide)
theorem so_tb {A : List Nat} {b : Nat → Nat} {d : Nat} : ∀ {k : Nat}, tb (so A b k) d = 1 ↔ ∃ i, i < k ∧ b i = 1 ∧ nd A i = d
  | 0 => by
    constructor
    · intro e
      have := tb_zero d
      have e' : tb 0 d = 1 := e
      omega
    · rintro ⟨i, h, _⟩
      exact absurd h (Nat.not_lt_zero i)
  | k + 1 => by
    have ih := so_tb (A := A) (b := b) (d := d) (k := k)
    show tb (so A b k ||| (if b k = 1 then 2 ^ nd A k else 0)) d = 1 ↔ _
    rw [tb_or, ih]
    constructor
    · rintro (⟨i, h1, h2, h3⟩ | h)
      · exact ⟨i, by omega, h2, h3⟩
      · by_cases e : b k = 1
        · rw [if_pos e, tb_pow] at h
          exact ⟨k, by omega, e, h⟩
        · rw [if_neg e, tb_zero] at h
          omega
    · rintro ⟨i, h1, h2, h3⟩
      by_cases e : i = k
      · subst e
        right
        rw [if_pos h2, tb_pow]
        exact h3
      · exact Or.inl ⟨i, by omega, h2, h3⟩
theorem so_nd {A : List Nat} (hA : A.Pairwise (fun a b => ¬ a = b)) {b : Nat → Nat} (hb : ∀ i, b i ≤ 1) {i : Nat} (hi : i < A.length) : tb (so A b A.length) (nd A i) = b i := by
  have h := so_tb (A := A) (b := b) (d := nd A i) (k := A.length)
  have h1 := tb_lt (so A b A.length) (nd A i)
  have h2 := hb i
  by_cases e : b i = 1
  · rw [e]
    exact h.2 ⟨i, hi, e, rfl⟩
  · have : ¬ tb (so A b A.length) (nd A i) = 1 := by
      intro q
      obtain ⟨j, h3, h4, h5⟩ := h.1 q
      have := nd_ne hA h3 hi h5
      subst this
      exact e h4
    omega
/-- what is left out, as bits -/
theorem tb_compl {f i : Nat} (hi : i < 20) : tb (1048575 - f % 1048576) i = 1 - tb f i := by
  have h1 : f % 1048576 < 2 ^ 20 := Nat.mod_lt _ (by decide)
  have h2 := Nat.testBit_two_pow_sub_succ h1 i
  have e1 : 2 ^ 20 - (f % 1048576 + 1) = 1048575 - f % 1048576 := by omega
  rw [e1] at h2
  have h3 : (f % 1048576).testBit i = f.testBit i := by
    have := Nat.testBit_mod_two_pow f 20 i
    rw [this]
    simp [hi]
  have t1 := tb_test (x := 1048575 - f % 1048576) (k := i)
  have t2 := tb_test (x := f) (k := i)
  have l1 := tb_lt (1048575 - f % 1048576) i
  have l2 := tb_lt f i
  rw [h2, h3] at t1
  by_cases e : f.testBit i = true
  · have e2 := t2.2 e
    have e3 : ¬ tb (1048575 - f % 1048576) i = 1 := by
      intro q
      have := t1.1 q
      simp [e] at this
    omega
  · have e2 : ¬ tb f i = 1 := fun q => e (t2.1 q)
    have e3 : tb (1048575 - f % 1048576) i = 1 := by
      apply t1.2
      simp [e, hi]
    omega
theorem e_prices {f : Nat} (hf : f < 2 ^ 50) {Q : Int32 → Prop} : p_X6_prices (lN f) Q ↔ Q (nI (f / 2 ^ 20)) := by
  unfold p_X6_prices
  rw [show (20 : Int32) = nI 20 from rfl, e_shrL (by omega) (by decide), lN_i]
theorem e_isChosen {f i : Nat} (hf : f < 2 ^ 50) (hi : i < 20) {Q : Int32 → Prop} : p_X6_isChosen (lN f) (nI i) Q ↔ (1 - tb f i = 1 → Q (nI 1)) ∧ (¬ 1 - tb f i = 1 → Q (nI 0)) := by
  have ht := tb_lt f i
  unfold p_X6_isChosen
  rw [e_shrL (by omega) (by omega), e_and1L, lg_cmp_eq]
  have e : lN (f / 2 ^ i % 2) = (0 : Int64) ↔ 1 - tb f i = 1 := by
    have e1 : lN (f / 2 ^ i % 2) = (0 : Int64) ↔ f / 2 ^ i % 2 = 0 := lN_eq (a := f / 2 ^ i % 2) (b := 0) (by omega) (by decide)
    rw [e1]
    unfold tb
    omega
  rw [e]
  exact And.comm
theorem i_foundSet {f : Nat} (hf : f < 2 ^ 50) {A : List Nat} (hl : A.length ≤ 20) (hA : ∀ i, i < A.length → nd A i < 20) {cand : Nat → Int32} (hc : ∀ i, i < A.length → cand i = nI (nd A i)) {Q : Int32 → Prop} (h : Q (nI (so A (fun i => 1 - tb f i) A.length))) : p_X6_foundSet cand (nI A.length) (lN f) Q := by
  unfold p_X6_foundSet p_X6_foundSet_4
  refine wl1 (q_X6_foundSet_4 cand (nI A.length) (lN f) Q) A.length (by omega) (fun k x => x = nI (so A (fun i => 1 - tb f i) k)) 0 (by omega) _ rfl ?_
  rintro K k x _ hk rfl hK
  unfold q_X6_foundSet_4 p_X6_foundSet_31
  simp (disch := omega) only [li_0, li_1, li_2, li_3, li_4, li_5, li_6, li_7, li_8, li_9, li_10, li_11, li_12, li_13, li_14, li_15, li_16, li_20, li_26, li_31, li_32, li_36, li_42, li_43, li_48, li_52, li_57, li_58, li_59, li_60, li_63, li_97, li_99, li_104, li_112, li_115, li_119, li_140, li_141, li_142, li_143, li_144, li_145, li_146, li_147, li_148, li_149, li_150, li_151, li_152, li_255, li_303, li_455, li_999, li_1000, li_1510, li_1820, li_2275, li_9999, li_10000, li_100000, li_1048575, li_100000000, nI_leI, nI_add]
  refine ⟨fun hge => ?_, fun hlt => ?_⟩
  · have : k = A.length := by omega
    subst this
    exact h
  · have hk2 : k < A.length := by omega
    have hk3 : k < 20 := by omega
    have hd := hA k hk2
    rw [e_isChosen hf hk3]
    refine ⟨fun e => ⟨fun e0 => absurd e0 (by decide), fun _ => ?_⟩, fun e => ⟨fun _ => hK hk2 _ ?_, fun e0 => absurd rfl e0⟩⟩
    · refine ⟨(vp_t (by omega) (by decide)).2 hk3, ?_⟩
      rw [nI_clamp (by omega), hc k hk2, e_shl (by omega), e_orI]
      refine hK hk2 _ ?_
      show _ = nI (so A (fun i => 1 - tb f i) k ||| (if 1 - tb f k = 1 then 2 ^ nd A k else 0))
      rw [if_pos e]
    · show _ = nI (so A (fun i => 1 - tb f i) k ||| (if 1 - tb f k = 1 then 2 ^ nd A k else 0))
      rw [if_neg e, Nat.or_zero]
theorem e_areSet {a b c : Int32} {Q : Int32 → Prop} : p_X8_areSetArguments a b c Q ↔ (((∃ x, 0 ≤ x ∧ x ≤ 1 ∧ a = nI x) ∧ (∃ x, 0 ≤ x ∧ x ≤ 150 ∧ b = nI x) ∧ (∃ x, 1 ≤ x ∧ x ≤ 4 ∧ c = nI x)) → Q (nI 1)) ∧ (¬ ((∃ x, 0 ≤ x ∧ x ≤ 1 ∧ a = nI x) ∧ (∃ x, 0 ≤ x ∧ x ≤ 150 ∧ b = nI x) ∧ (∃ x, 1 ≤ x ∧ x ≤ 4 ∧ c = nI x)) → Q (nI 0)) := by
  unfold p_X8_areSetArguments
  simp (disch := omega) only [li_0, li_1, li_2, li_3, li_4, li_5, li_6, li_7, li_8, li_9, li_10, li_11, li_12, li_13, li_14, li_15, li_16, li_20, li_26, li_31, li_32, li_36, li_42, li_43, li_48, li_52, li_57, li_58, li_59, li_60, li_63, li_97, li_99, li_104, li_112, li_115, li_119, li_140, li_141, li_142, li_143, li_144, li_145, li_146, li_147, li_148, li_149, li_150, li_151, li_152, li_255, li_303, li_455, li_999, li_1000, li_1510, li_1820, li_2275, li_9999, li_10000, li_100000, li_1048575, li_100000000, e_isSide, e_inRange, nI_eqI, Nat.one_ne_zero, true_and, and_true, not_true_eq_false, not_false_eq_true, true_imp_iff, false_imp_iff, false_and, and_false, imp_false, Classical.not_not, Bool.false_eq_true, Nat.zero_ne_one, Nat.one_ne_zero, Nat.not_lt_zero, if_true, if_false, implies_true]
  by_cases h1 : ∃ x, 0 ≤ x ∧ x ≤ 1 ∧ a = nI x
  · by_cases h2 : ∃ x, 0 ≤ x ∧ x ≤ 150 ∧ b = nI x
    · simp only [h1, h2, true_and, and_true, not_true_eq_false, not_false_eq_true, true_imp_iff, false_imp_iff, false_and, and_false, imp_false, Classical.not_not, Bool.false_eq_true, Nat.zero_ne_one, Nat.one_ne_zero, Nat.not_lt_zero, if_true, if_false, implies_true]
    · simp only [h1, h2, true_and, and_true, not_true_eq_false, not_false_eq_true, true_imp_iff, false_imp_iff, false_and, and_false, imp_false, Classical.not_not, Bool.false_eq_true, Nat.zero_ne_one, Nat.one_ne_zero, Nat.not_lt_zero, if_true, if_false, implies_true]
  · simp only [h1, true_and, and_true, not_true_eq_false, not_false_eq_true, true_imp_iff, false_imp_iff, false_and, and_false, imp_false, Classical.not_not, Bool.false_eq_true, Nat.zero_ne_one, Nat.one_ne_zero, Nat.not_lt_zero, if_true, if_false, implies_true]
/-- the value that both find: none, or a number -/
theorem found_cases {n : Nat} {g : Nat → Nat → Nat} {s : Nat → Nat} (hg : okG n g) (ho : okS s) {col : Nat} {A : List Nat} (hA : ∀ d, d ∈ A → d < n) (hl : A.length ≤ 20) {lines : Nat} {found r : Int64} (h1 : found.toInt = phi (mg (fo g s col A).2.2 0 lines)) (h2 : r.toInt = mg (fo g s col A).2.2 0 lines) : (found.toInt = -1 ∧ r.toInt = -1) ∨ ∃ f : Nat, f < 2 ^ 50 ∧ 1048575 ≤ f ∧ found = lN f ∧ r.toInt = (f : Int) - 1048575 := by
  have hb := fo_b hg ho (col := col) hA hl
  have hm := (okT_mg hb (by unfold WW; omega)).1 0 lines
  generalize mg (fo g s col A).2.2 0 lines = V at h1 h2 hm
  unfold phi at h1
  by_cases e : V < 0
  · left
    rw [if_pos e] at h1
    exact ⟨h1, by omega⟩
  · right
    rw [if_neg e] at h1
    unfold WW at hm
    refine ⟨(V + 1048575).toNat, by omega, by omega, ?_, by omega⟩
    refine lN_of (by omega) ?_
    rw [h1]
    omega
theorem e_hasFound {x : Int64} {Q : Int32 → Prop} : p_X6_hasFound x Q ↔ (x.toInt < 0 → Q (nI 0)) ∧ (¬ x.toInt < 0 → Q (nI 1)) := by
  unfold p_X6_hasFound
  rw [lg_cmp_lt, Int64.lt_iff_toInt_lt, t0]
  exact Iff.rfl
theorem e_cmp0 {x : Int64} : (0 : Int32) ≤ lg_cmp x 0 ↔ 0 ≤ x.toInt := by
  rw [lg_cmp_ge, Int64.le_iff_toInt_le, t0]
/-- the values while the candidates are gone through -/
def gu (g : Nat → Nat → Nat) (A : List Nat) (b : Nat → Nat) : Nat → Nat → Nat → Nat
  | 0 => g
  | i + 1 => fun d k => if d = nd A i ∧ k = 6 then b i else gu g A b i d k
theorem gu_ok {n : Nat} {g : Nat → Nat → Nat} (hg : okG n g) (A : List Nat) {b : Nat → Nat} (hb : ∀ i, b i ≤ 1) : ∀ k, okG n (gu g A b k)
  | 0 => hg
  | k + 1 => by
    have ih := gu_ok hg A hb k
    refine ⟨ih.1, fun d j hd hj => ?_, fun d hd => ?_⟩
    · show (if d = nd A k ∧ j = 6 then b k else gu g A b k d j) ≤ hiD j
      by_cases e : d = nd A k ∧ j = 6
      · rw [if_pos e, e.2]
        exact hb k
      · rw [if_neg e]
        exact ih.2.1 d j hd hj
    · show 1 ≤ (if d = nd A k ∧ 2 = 6 then b k else gu g A b k d 2)
      rw [if_neg (fun q => absurd q.2 (by decide))]
      exact ih.2.2 d hd
theorem i_offerFound {n : Nat} {g : Nat → Nat → Nat} (hn : n ≤ 20) {v : Nat → Int32} (hv : ∀ d k, d < 20 → k < 7 → v (d * 7 + k) = nI (g d k)) {f : Nat} (hf : f < 2 ^ 50) {A : List Nat} (hl : A.length ≤ 20) (hA : ∀ i, i < A.length → nd A i < n) {cand : Nat → Int32} (hc : ∀ i, i < A.length → cand i = nI (nd A i)) {Q : (Nat → Int32) → Prop} (h : ∀ v', (∀ d k, d < 20 → k < 7 → v' (d * 7 + k) = nI (gu g A (fun i => 1 - tb f i) A.length d k)) → Q v') : p_X6_offerFound cand (nI A.length) (lN f) v (nI n) Q := by
  have c0 : okD (nI 6) (nI 0) := okD_i (by decide) (Nat.zero_le _) (Nat.zero_le _)
  have c1 : okD (nI 6) (nI 1) := okD_i (by decide) (Nat.zero_le _) (Nat.le_refl _)
  unfold p_X6_offerFound p_X6_offerFound_2
  refine wl1 (q_X6_offerFound_2 cand (nI A.length) (lN f) (nI n) Q) A.length (by omega) (fun i v' => ∀ d k, d < 20 → k < 7 → v' (d * 7 + k) = nI (gu g A (fun i => 1 - tb f i) i d k)) 0 (by omega) _ hv ?_
  rintro K i v' _ hi hv' hK
  unfold q_X6_offerFound_2 p_X6_offerFound_32
  simp (disch := omega) only [li_0, li_1, li_2, li_3, li_4, li_5, li_6, li_7, li_8, li_9, li_10, li_11, li_12, li_13, li_14, li_15, li_16, li_20, li_26, li_31, li_32, li_36, li_42, li_43, li_48, li_52, li_57, li_58, li_59, li_60, li_63, li_97, li_99, li_104, li_112, li_115, li_119, li_140, li_141, li_142, li_143, li_144, li_145, li_146, li_147, li_148, li_149, li_150, li_151, li_152, li_255, li_303, li_455, li_999, li_1000, li_1510, li_1820, li_2275, li_9999, li_10000, li_100000, li_1048575, li_100000000, nI_leI, nI_add]
  refine ⟨fun hge => ?_, fun hlt => ?_⟩
  · have : i = A.length := by omega
    subst this
    exact h _ hv'
  · have hi2 : i < A.length := by omega
    have hi3 : i < 20 := by omega
    have hd := hA i hi2
    refine ⟨(vp_t (by omega) (by decide)).2 hi3, ?_⟩
    rw [e_isChosen hf hi3, nI_clamp (by omega), hc i hi2]
    have step : ∀ x, x = 1 - tb f i → K (upd v' (nd A i * 7 + 6) (nI x)) (nI (i + 1)) := by
      rintro x rfl
      refine hK hi2 _ ?_
      intro d k hd2 hk2
      show _ = nI (if d = nd A i ∧ k = 6 then 1 - tb f i else gu g A (fun i => 1 - tb f i) i d k)
      by_cases e : d = nd A i ∧ k = 6
      · rw [if_pos e, e.1, e.2]
        exact pk_us
      · rw [if_neg e, pk_un (by omega)]
        exact hv' d k hd2 hk2
    refine ⟨fun e => ⟨fun e0 => absurd e0 (by decide), fun _ => ?_⟩, fun e => ⟨fun _ => ?_, fun e0 => absurd rfl e0⟩⟩
    · rw [e_change hn hd (by decide) c1]
      exact step 1 e.symm
    · rw [e_change hn hd (by decide) c0]
      exact step 0 (by omega)

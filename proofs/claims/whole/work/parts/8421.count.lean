/-! ===== members of a set ===== -/
theorem e_andX (x : Nat) (y : Int32) : nI x &&& y = nI (x &&& y.toBitVec.toNat) := by
  apply Int32.toBitVec_inj.1
  show BitVec.ofNat 32 x &&& y.toBitVec = BitVec.ofNat 32 (x &&& y.toBitVec.toNat)
  apply BitVec.eq_of_getLsbD_eq
  intro i hi
  simp [BitVec.getLsbD_ofNat, hi, Nat.testBit_and, BitVec.testBit_toNat]
theorem tb_big {m n k : Nat} (h : m < 2 ^ n) (hk : n ≤ k) : tb m k = 0 := by
  unfold tb
  have : 2 ^ n ≤ 2 ^ k := Nat.pow_le_pow_right (by decide) hk
  rw [Nat.div_eq_of_lt (by omega)]
theorem ivt {f : Nat → Nat} (hf : ∀ k, f k ≤ 1) {a : Nat} : ∀ {N : Nat}, a < sm f N → ∃ k, k < N ∧ f k = 1 ∧ sm f k = a
  | 0, h => absurd h (Nat.not_lt_zero a)
  | N + 1, h => by
    have h' : a < sm f N + f N := h
    by_cases e : a < sm f N
    · obtain ⟨k, h1, h2, h3⟩ := ivt hf e
      exact ⟨k, by omega, h2, h3⟩
    · have := hf N
      exact ⟨N, by omega, by omega, by omega⟩
/-- the member with so many ahead, in the class and in the reference -/
theorem i_memberOf {m a k : Nat} (hm : m < 2 ^ 31) (hk : k < 20) (h1 : tb m k = 1) (h2 : sm (fun j => tb m j) k = a) {Q : Int32 → Prop} (h : Q (nI k)) : p_X8_memberOf (nI m) (nI a) Q := by
  have ha : a ≤ 1 * k := by
    rw [← h2]
    exact sm_le (fun j _ => Nat.le_of_lt_succ (tb_lt m j))
  unfold p_X8_memberOf p_X8_memberOf_4
  refine wl1 (q_X8_memberOf_4 (nI m) (nI a) Q) k (by omega) (fun j x => x = nI (sm (fun j => tb m j) j)) 0 (by omega) _ rfl ?_
  rintro K j x _ hj rfl hK
  have hsj : sm (fun j => tb m j) j ≤ 1 * j := sm_le (fun j _ => Nat.le_of_lt_succ (tb_lt m j))
  have htj := tb_lt m j
  have h20 : ¬ 20 ≤ j := by omega
  unfold q_X8_memberOf_4 p_X8_memberOf_28
  simp (disch := omega) only [li_0, li_1, li_2, li_3, li_4, li_5, li_6, li_7, li_8, li_9, li_10, li_11, li_12, li_13, li_14, li_15, li_16, li_20, li_26, li_31, li_32, li_36, li_42, li_43, li_48, li_52, li_57, li_58, li_59, li_60, li_63, li_97, li_99, li_104, li_112, li_115, li_119, li_140, li_141, li_142, li_143, li_144, li_145, li_146, li_147, li_148, li_149, li_150, li_151, li_152, li_255, li_303, li_455, li_999, li_1000, li_1510, li_1820, li_2275, li_9999, li_10000, li_100000, li_1048575, li_100000000, nI_leI, e_has, nI_eqI, nI_add, h20, Nat.one_ne_zero, true_and, and_true, not_true_eq_false, not_false_eq_true, true_imp_iff, false_imp_iff, false_and, and_false, imp_false, Classical.not_not, Bool.false_eq_true, Nat.zero_ne_one, Nat.one_ne_zero, Nat.not_lt_zero, if_true, if_false, implies_true]
  refine ⟨fun e => ⟨fun e2 => ?_, fun e2 => ?_⟩, fun e => ?_⟩
  · have hjk : j < k := by
      by_cases e3 : j = k
      · subst e3
        exact absurd h2 e2
      · omega
    refine hK hjk _ ?_
    show nI (sm (fun j => tb m j) j + 1) = nI (sm (fun j => tb m j) j + tb m j)
    rw [e]
  · by_cases e3 : j = k
    · subst e3
      exact h
    · have h4 : sm (fun j => tb m j) (j + 1) ≤ sm (fun j => tb m j) k := sm_mono _ (by omega)
      have h5 : sm (fun j => tb m j) (j + 1) = sm (fun j => tb m j) j + tb m j := rfl
      omega
  · have hjk : j < k := by
      by_cases e3 : j = k
      · subst e3
        exact absurd h1 e
      · omega
    refine hK hjk _ ?_
    show nI (sm (fun j => tb m j) j) = nI (sm (fun j => tb m j) j + tb m j)
    rw [show tb m j = 0 by omega, Nat.add_zero]
theorem i_memberNone {m : Nat} (hm : m < 2 ^ 31) (h1 : ∀ k, k < 20 → tb m k = 0) {Q : Int32 → Prop} (h : Q (-nI 99)) : p_X8_memberOf (nI m) (nI 0) Q := by
  unfold p_X8_memberOf p_X8_memberOf_4
  refine wl1 (q_X8_memberOf_4 (nI m) (nI 0) Q) 20 (by omega) (fun j x => x = nI 0) 0 (by omega) _ rfl ?_
  rintro K j x _ hj rfl hK
  unfold q_X8_memberOf_4 p_X8_memberOf_28
  simp (disch := omega) only [li_0, li_1, li_2, li_3, li_4, li_5, li_6, li_7, li_8, li_9, li_10, li_11, li_12, li_13, li_14, li_15, li_16, li_20, li_26, li_31, li_32, li_36, li_42, li_43, li_48, li_52, li_57, li_58, li_59, li_60, li_63, li_97, li_99, li_104, li_112, li_115, li_119, li_140, li_141, li_142, li_143, li_144, li_145, li_146, li_147, li_148, li_149, li_150, li_151, li_152, li_255, li_303, li_455, li_999, li_1000, li_1510, li_1820, li_2275, li_9999, li_10000, li_100000, li_1048575, li_100000000, nI_leI, nI_add]
  refine ⟨fun e => h, fun e => ?_⟩
  have h0 := h1 j (by omega)
  simp (disch := omega) only [e_has, h0, nI_eqI, true_and, and_true, not_true_eq_false, not_false_eq_true, true_imp_iff, false_imp_iff, false_and, and_false, imp_false, Classical.not_not, Bool.false_eq_true, Nat.zero_ne_one, Nat.one_ne_zero, Nat.not_lt_zero, if_true, if_false, implies_true]
  exact hK (by omega) _ rfl
theorem i_allergenOf {m l k : Nat} (hm : m < 2 ^ 31) (hk : k < 20) (h1 : tb m k = 1) (h2 : sm (fun j => tb m j) k = 3 * l) {Q : Int32 → Prop} (h : Q (nI k)) : p_X9_allergenOf (nI m) (nI l) Q := by
  have ha : 3 * l ≤ 1 * k := by
    rw [← h2]
    exact sm_le (fun j _ => Nat.le_of_lt_succ (tb_lt m j))
  unfold p_X9_allergenOf
  simp only [li_0, li_1, li_2, li_3, li_4, li_5, li_6, li_7, li_8, li_9, li_10, li_11, li_12, li_13, li_14, li_15, li_16, li_20, li_26, li_31, li_32, li_36, li_42, li_43, li_48, li_52, li_57, li_58, li_59, li_60, li_63, li_97, li_99, li_104, li_112, li_115, li_119, li_140, li_141, li_142, li_143, li_144, li_145, li_146, li_147, li_148, li_149, li_150, li_151, li_152, li_255, li_303, li_455, li_999, li_1000, li_1510, li_1820, li_2275, li_9999, li_10000, li_100000, li_1048575, li_100000000, pk_mul]
  unfold p_X9_allergenOf_6
  refine wl1 (q_X9_allergenOf_6 (nI m) Q) k (by omega) (fun j x => x = nI (3 * l - sm (fun j => tb m j) j)) 0 (by omega) _ (by rfl) ?_
  rintro K j x _ hj rfl hK
  have hsj : sm (fun j => tb m j) j ≤ sm (fun j => tb m j) k := sm_mono _ hj
  have htj := tb_lt m j
  have h5 : sm (fun j => tb m j) (j + 1) = sm (fun j => tb m j) j + tb m j := rfl
  unfold q_X9_allergenOf_6 p_X9_allergenOf_21 p_X9_allergenOf_38
  simp (disch := omega) only [li_0, li_1, li_2, li_3, li_4, li_5, li_6, li_7, li_8, li_9, li_10, li_11, li_12, li_13, li_14, li_15, li_16, li_20, li_26, li_31, li_32, li_36, li_42, li_43, li_48, li_52, li_57, li_58, li_59, li_60, li_63, li_97, li_99, li_104, li_112, li_115, li_119, li_140, li_141, li_142, li_143, li_144, li_145, li_146, li_147, li_148, li_149, li_150, li_151, li_152, li_255, li_303, li_455, li_999, li_1000, li_1510, li_1820, li_2275, li_9999, li_10000, li_100000, li_1048575, li_100000000, nI_leI, e_has9, nI_eqI, nI_add, Nat.one_ne_zero, true_and, and_true, not_true_eq_false, not_false_eq_true, true_imp_iff, false_imp_iff, false_and, and_false, imp_false, Classical.not_not, Bool.false_eq_true, Nat.zero_ne_one, Nat.one_ne_zero, Nat.not_lt_zero, if_true, if_false, implies_true]
  refine ⟨fun e => ⟨fun e2 => ?_, fun e2 => ?_⟩, fun e => ?_⟩
  · by_cases e3 : j = k
    · subst e3
      exact h
    · have h4 : sm (fun j => tb m j) (j + 1) ≤ sm (fun j => tb m j) k := sm_mono _ (by omega)
      omega
  · have hjk : j < k := by
      by_cases e3 : j = k
      · subst e3
        omega
      · omega
    simp (disch := omega) only [e, pk_sub, true_and, and_true, not_true_eq_false, not_false_eq_true, true_imp_iff, false_imp_iff, false_and, and_false, imp_false, Classical.not_not, Bool.false_eq_true, Nat.zero_ne_one, Nat.one_ne_zero, Nat.not_lt_zero, if_true, if_false, implies_true]
    refine hK hjk _ ?_
    rw [h5]
    exact congrArg nI (by omega)
  · have hjk : j < k := by
      by_cases e3 : j = k
      · subst e3
        exact absurd h1 e
      · omega
    simp (disch := omega) only [e, pk_sub, true_and, and_true, not_true_eq_false, not_false_eq_true, true_imp_iff, false_imp_iff, false_and, and_false, imp_false, Classical.not_not, Bool.false_eq_true, Nat.zero_ne_one, Nat.one_ne_zero, Nat.not_lt_zero, if_true, if_false, implies_true]
    refine hK hjk _ ?_
    rw [h5]
    exact congrArg nI (by omega)
theorem least {p : Nat → Prop} : ∀ {i : Nat}, p i → ∃ i, p i ∧ ∀ j, j < i → ¬ p j := by
  intro i
  induction i using Nat.strongRecOn with
  | ind i ih =>
    intro h
    by_cases e : ∃ j, j < i ∧ p j
    · obtain ⟨j, h1, h2⟩ := e
      exact ih j h1 h2
    · exact ⟨i, h, fun j h1 h2 => e ⟨j, h1, h2⟩⟩
theorem i_repl64 {pg : Nat → Int32} {n : Nat} (hn : n ≤ 20) (hp : pg 0 = nI n) {a b : Int32} {m : Nat} (hab : a &&& (b ^^^ (-nI 1)) = nI m) (hm : m < 2 ^ 31) {Q : Int32 → (Nat → Int32) → Prop} {N : Nat} (hN : N ≤ n) (h0 : ∀ j, j < N → tb m j = 0) (h1 : N < n → tb m N = 1) (h : Q (if N = n then -nI 99 else nI N) pg) : p_X9_replacement_64 pg b a Q (nI 0) := by
  unfold p_X9_replacement_64
  refine wl0 (q_X9_replacement_64 pg b a Q) N (by omega) (fun _ => True) 0 (by omega) trivial ?_
  intro K k _ hk _ hK
  unfold q_X9_replacement_64
  simp (disch := omega) only [li_0, li_1, li_2, li_3, li_4, li_5, li_6, li_7, li_8, li_9, li_10, li_11, li_12, li_13, li_14, li_15, li_16, li_20, li_26, li_31, li_32, li_36, li_42, li_43, li_48, li_52, li_57, li_58, li_59, li_60, li_63, li_97, li_99, li_104, li_112, li_115, li_119, li_140, li_141, li_142, li_143, li_144, li_145, li_146, li_147, li_148, li_149, li_150, li_151, li_152, li_255, li_303, li_455, li_999, li_1000, li_1510, li_1820, li_2275, li_9999, li_10000, li_100000, li_1048575, li_100000000, vp_t, nI_clamp, hp, nI_leI, hab, Nat.reduceLT, true_and, and_true, not_true_eq_false, not_false_eq_true, true_imp_iff, false_imp_iff, false_and, and_false, imp_false, Classical.not_not, Bool.false_eq_true, Nat.zero_ne_one, Nat.one_ne_zero, Nat.not_lt_zero, if_true, if_false, implies_true]
  refine ⟨fun hge => ?_, fun hlt => ?_⟩
  · rw [if_pos (by omega)] at h
    exact h
  · by_cases e : k = N
    · subst e
      have h2 := h1 (by omega)
      rw [if_neg (by omega)] at h
      simp (disch := omega) only [e_has9, h2, nI_eqI, Nat.one_ne_zero, true_and, and_true, not_true_eq_false, not_false_eq_true, true_imp_iff, false_imp_iff, false_and, and_false, imp_false, Classical.not_not, Bool.false_eq_true, Nat.zero_ne_one, Nat.one_ne_zero, Nat.not_lt_zero, if_true, if_false, implies_true]
      exact h
    · have h2 := h0 k (by omega)
      simp (disch := omega) only [e_has9, h2, nI_eqI, nI_add, true_and, and_true, not_true_eq_false, not_false_eq_true, true_imp_iff, false_imp_iff, false_and, and_false, imp_false, Classical.not_not, Bool.false_eq_true, Nat.zero_ne_one, Nat.one_ne_zero, Nat.not_lt_zero, if_true, if_false, implies_true]
      exact hK (by omega) () trivial
theorem l_replacement : lawS_19 Rel := by
  unfold lawS_19
  intro S h hz x_draft_values x_draft_settings x_draft_dishes x_draft_way rt rl x_printing_dishes x_printing_lines x_printing_weights x_printing_set x_printing_number x_printing_prices x_printing_allergens x_printing_column pg hist st mt ml hR a1
  obtain ⟨hS, ⟨z, rfl, rfl, hH⟩, hT⟩ := hR
  have hR : Rel S h (nI z) rt rl pg hist (nI z) mt ml := ⟨hS, ⟨z, rfl, rfl, hH⟩, hT⟩
  have hz5 := hH.1
  obtain ⟨hM, k0, k1, hk0, hk1, p151, p303, hkk, f0, f1⟩ := id hS
  obtain ⟨n, g, s, sd, hg, ho, hw, ⟨cn, cv, cst, cw⟩, hRR⟩ := id hM
  obtain ⟨rn, rv, rst, rsd⟩ := id hRR
  have hn := hg.1
  unfold p_X8_replacement
  rw [cn]
  by_cases hd : ∃ d, d < n ∧ a1 = nI d
  · obtain ⟨d, hd1, rfl⟩ := id hd
    have hd20 : d < 20 := by omega
    have hm := mk_lt31 (prt g (s 2) (s 0) (s 5)) hn
    have ht := mk_tb (prt g (s 2) (s 0) (s 5)) n d
    have h6 : okD (nI 6) (nI 0) := okD_i (by decide) (Nat.zero_le _) (Nat.zero_le _)
    have hv1 : 1 + 7 * d + 6 < 455 := by omega
    simp (disch := omega) only [li_0, li_1, li_2, li_3, li_4, li_5, li_6, li_7, li_8, li_9, li_10, li_11, li_12, li_13, li_14, li_15, li_16, li_20, li_26, li_31, li_32, li_36, li_42, li_43, li_48, li_52, li_57, li_58, li_59, li_60, li_63, li_97, li_99, li_104, li_112, li_115, li_119, li_140, li_141, li_142, li_143, li_144, li_145, li_146, li_147, li_148, li_149, li_150, li_151, li_152, li_255, li_303, li_455, li_999, li_1000, li_1510, li_1820, li_2275, li_9999, li_10000, li_100000, li_1048575, li_100000000, e_hasDish, e_isDish hn rn, hd, nI_eqI, pk_mul, nI_add, vp_t, nI_clamp, hv1, Nat.one_ne_zero, true_and, and_true, not_true_eq_false, not_false_eq_true, true_imp_iff, false_imp_iff, false_and, and_false, imp_false, Classical.not_not, Bool.false_eq_true, Nat.zero_ne_one, Nat.one_ne_zero, Nat.not_lt_zero, if_true, if_false, implies_true]
    refine i_findPrinted cv cst hg ho ?_
    intro D' L' W' set num pri all col hP
    obtain ⟨_, _, _, rfl, _, _, _, _⟩ := hP
    by_cases hp : prt g (s 2) (s 0) (s 5) d = true
    · have hg6 := (elg_iff.1 (prt_iff.1 hp).1).1
      simp (disch := omega) only [e_has, ht, hd1, hp, and_self, nI_eqI, e_copyFrom, e_change, h6, Nat.one_ne_zero, true_and, and_true, not_true_eq_false, not_false_eq_true, true_imp_iff, false_imp_iff, false_and, and_false, imp_false, Classical.not_not, Bool.false_eq_true, Nat.zero_ne_one, Nat.one_ne_zero, Nat.not_lt_zero, if_true, if_false, implies_true]
      have hg' : okG n (fun d' k' => if d' = d ∧ k' = 6 then 0 else g d' k') := by
        refine ⟨hn, fun d' k' a b => ?_, fun d' a => ?_⟩
        · show (if d' = d ∧ k' = 6 then 0 else g d' k') ≤ hiD k'
          split
          · exact Nat.zero_le _
          · exact hg.2.1 d' k' a b
        · show 1 ≤ (if d' = d ∧ 2 = 6 then 0 else g d' 2)
          rw [if_neg (by omega)]
          exact hg.2.2 d' a
      obtain ⟨cn2, cv2, cst2, cw2⟩ := relC_cpy (v := x_draft_values) (st := x_draft_settings) ⟨cn, cv, cst, cw⟩
      have cv3 : ∀ d' k', d' < 20 → k' < 7 → upd (va_cpy S.1.1 x_draft_values 0 0 140) (d * 7 + 6) (nI 0) (d' * 7 + k') = nI ((fun d' k' => if d' = d ∧ k' = 6 then 0 else g d' k') d' k') := by
        intro d' k' a b
        show _ = nI (if d' = d ∧ k' = 6 then 0 else g d' k')
        by_cases e : d' = d ∧ k' = 6
        · rw [if_pos e, e.1, e.2]
          exact pk_us
        · rw [if_neg e, pk_un (by omega)]
          exact cv2 d' k' a b
      refine i_findPrinted cv3 cst2 hg' ho ?_
      intro D2 L2 W2 set2 num2 pri2 all2 col2 hP2
      obtain ⟨_, _, _, rfl, _, _, _, _⟩ := hP2
      have hRR' : relR n (fun d' k' => if d' = d ∧ k' = 6 then 0 else g d' k') s sd (upd pg (1 + 7 * d + 6) (nI 0)) := by
        refine ⟨?_, fun d' k' a b => ?_, fun k' a => ?_, fun c a => ?_⟩
        · rw [pk_un (by omega)]
          exact rn
        · show _ = nI (if d' = d ∧ k' = 6 then 0 else g d' k')
          by_cases e : d' = d ∧ k' = 6
          · rw [if_pos e, e.1, e.2]
            exact pk_us
          · rw [if_neg e, pk_un (by omega)]
            exact rv d' k' a b
        · rw [pk_un (by omega)]
          exact rst k' a
        · rw [pk_un (by omega)]
          exact rsd c a
      have hback : ∀ j, upd (upd pg (1 + 7 * d + 6) (nI 0)) (1 + 7 * d + 6) (nI 1) j = pg j := by
        intro j
        by_cases e : j = 1 + 7 * d + 6
        · rw [e, pk_us, rv d 6 hd20 (by decide), hg6]
        · rw [pk_un e, pk_un e]
      have hmk2 := mk_lt (prt (fun d' k' => if d' = d ∧ k' = 6 then 0 else g d' k') (s 2) (s 0) (s 5)) n
      have hmk3 := mk_lt31 (prt (fun d' k' => if d' = d ∧ k' = 6 then 0 else g d' k') (s 2) (s 0) (s 5)) hn
      have hax := e_andX (mk (prt (fun d' k' => if d' = d ∧ k' = 6 then 0 else g d' k') (s 2) (s 0) (s 5)) n) (nI (mk (prt g (s 2) (s 0) (s 5)) n) ^^^ (-nI 1))
      have hle := Nat.and_le_left (n := mk (prt (fun d' k' => if d' = d ∧ k' = 6 then 0 else g d' k') (s 2) (s 0) (s 5)) n) (m := (nI (mk (prt g (s 2) (s 0) (s 5)) n) ^^^ (-nI 1)).toBitVec.toNat)
      generalize (mk (prt (fun d' k' => if d' = d ∧ k' = 6 then 0 else g d' k') (s 2) (s 0) (s 5)) n &&& (nI (mk (prt g (s 2) (s 0) (s 5)) n) ^^^ (-nI 1)).toBitVec.toNat) = m at hax hle
      have ref : ∀ (r : Int32) (N : Nat), N ≤ n → (∀ j, j < N → tb m j = 0) → (N < n → tb m N = 1) → r = (if N = n then -nI 99 else nI N) → p_X9_replacement pg (nI d) (fun r' page => r = r' ∧ Rel S h (nI z) rt rl page hist (nI z) mt ml) := by
        intro r N h1 h2 h3 h4
        unfold p_X9_replacement
        simp (disch := omega) only [li_0, li_1, li_2, li_3, li_4, li_5, li_6, li_7, li_8, li_9, li_10, li_11, li_12, li_13, li_14, li_15, li_16, li_20, li_26, li_31, li_32, li_36, li_42, li_43, li_48, li_52, li_57, li_58, li_59, li_60, li_63, li_97, li_99, li_104, li_112, li_115, li_119, li_140, li_141, li_142, li_143, li_144, li_145, li_146, li_147, li_148, li_149, li_150, li_151, li_152, li_255, li_303, li_455, li_999, li_1000, li_1510, li_1820, li_2275, li_9999, li_10000, li_100000, li_1048575, li_100000000, e_isDish hn rn, hd, nI_eqI, pk_mul, nI_add, vp_t, nI_clamp, hv1, Nat.one_ne_zero, true_and, and_true, not_true_eq_false, not_false_eq_true, true_imp_iff, false_imp_iff, false_and, and_false, imp_false, Classical.not_not, Bool.false_eq_true, Nat.zero_ne_one, Nat.one_ne_zero, Nat.not_lt_zero, if_true, if_false, implies_true]
        refine i_isPrinted hRR hg ho hd20 (fun _ => ⟨fun _ => ?_, fun e => absurd e (by decide)⟩) (fun e => absurd hp e)
        refine i_printedNow hRR hg ho (i_printedNow hRR' hg' ho ?_)
        refine i_repl64 hn (by rw [hback 0]; exact rn) hax (by omega) h1 h2 h3 ?_
        exact ⟨h4, relS_cg (fun j _ => hback j) hS, ⟨z, rfl, rfl, hH⟩, hT⟩
      unfold p_X8_smallestIn
      simp only [li_0, li_1, li_2, li_3, li_4, li_5, li_6, li_7, li_8, li_9, li_10, li_11, li_12, li_13, li_14, li_15, li_16, li_20, li_26, li_31, li_32, li_36, li_42, li_43, li_48, li_52, li_57, li_58, li_59, li_60, li_63, li_97, li_99, li_104, li_112, li_115, li_119, li_140, li_141, li_142, li_143, li_144, li_145, li_146, li_147, li_148, li_149, li_150, li_151, li_152, li_255, li_303, li_455, li_999, li_1000, li_1510, li_1820, li_2275, li_9999, li_10000, li_100000, li_1048575, li_100000000]
      rw [hax]
      by_cases he : ∃ k, k < 20 ∧ tb m k = 1
      · obtain ⟨k, hk20, hk1⟩ := he
        obtain ⟨k, hk1, hk2⟩ := least (p := fun k => tb m k = 1) hk1
        have hkn : k < n := by
          by_cases e : k < n
          · exact e
          · have := tb_big (m := m) (n := n) (k := k) (by omega) (by omega)
            omega
        have hk0 : ∀ j, j < k → tb m j = 0 := fun j hj => by
          have a := tb_lt m j
          have b := hk2 j hj
          omega
        refine i_memberOf (by omega) (by omega) hk1 (sm_zero hk0) ?_
        have := ref (nI k) k (by omega) hk0 (fun _ => hk1) (if_neg (by omega)).symm
        exact this
      · have hk0 : ∀ k, k < 20 → tb m k = 0 := fun j hj => by
          have a := tb_lt m j
          by_cases e : tb m j = 1
          · exact absurd ⟨j, hj, e⟩ he
          · omega
        refine i_memberNone (by omega) hk0 ?_
        have := ref (-nI 99) n (Nat.le_refl n) (fun j hj => hk0 j (by omega)) (fun e => absurd e (Nat.lt_irrefl n)) (if_pos rfl).symm
        exact this
    · simp (disch := omega) only [e_has, ht, hp, and_false, nI_eqI, Nat.one_ne_zero, true_and, and_true, not_true_eq_false, not_false_eq_true, true_imp_iff, false_imp_iff, false_and, and_false, imp_false, Classical.not_not, Bool.false_eq_true, Nat.zero_ne_one, Nat.one_ne_zero, Nat.not_lt_zero, if_true, if_false, implies_true]
      unfold p_X9_replacement
      simp (disch := omega) only [li_0, li_1, li_2, li_3, li_4, li_5, li_6, li_7, li_8, li_9, li_10, li_11, li_12, li_13, li_14, li_15, li_16, li_20, li_26, li_31, li_32, li_36, li_42, li_43, li_48, li_52, li_57, li_58, li_59, li_60, li_63, li_97, li_99, li_104, li_112, li_115, li_119, li_140, li_141, li_142, li_143, li_144, li_145, li_146, li_147, li_148, li_149, li_150, li_151, li_152, li_255, li_303, li_455, li_999, li_1000, li_1510, li_1820, li_2275, li_9999, li_10000, li_100000, li_1048575, li_100000000, e_isDish hn rn, hd, nI_eqI, pk_mul, nI_add, vp_t, nI_clamp, hv1, Nat.one_ne_zero, true_and, and_true, not_true_eq_false, not_false_eq_true, true_imp_iff, false_imp_iff, false_and, and_false, imp_false, Classical.not_not, Bool.false_eq_true, Nat.zero_ne_one, Nat.one_ne_zero, Nat.not_lt_zero, if_true, if_false, implies_true]
      refine i_isPrinted hRR hg ho hd20 (fun e => absurd e hp) (fun _ => ?_)
      simp (disch := omega) only [nI_eqI, true_and, and_true, not_true_eq_false, not_false_eq_true, true_imp_iff, false_imp_iff, false_and, and_false, imp_false, Classical.not_not, Bool.false_eq_true, Nat.zero_ne_one, Nat.one_ne_zero, Nat.not_lt_zero, if_true, if_false, implies_true]
      exact hR
  · unfold p_X9_replacement
    simp (disch := omega) only [li_0, li_1, li_2, li_3, li_4, li_5, li_6, li_7, li_8, li_9, li_10, li_11, li_12, li_13, li_14, li_15, li_16, li_20, li_26, li_31, li_32, li_36, li_42, li_43, li_48, li_52, li_57, li_58, li_59, li_60, li_63, li_97, li_99, li_104, li_112, li_115, li_119, li_140, li_141, li_142, li_143, li_144, li_145, li_146, li_147, li_148, li_149, li_150, li_151, li_152, li_255, li_303, li_455, li_999, li_1000, li_1510, li_1820, li_2275, li_9999, li_10000, li_100000, li_1048575, li_100000000, e_hasDish, e_isDish hn rn, hd, nI_eqI, Nat.one_ne_zero, true_and, and_true, not_true_eq_false, not_false_eq_true, true_imp_iff, false_imp_iff, false_and, and_false, imp_false, Classical.not_not, Bool.false_eq_true, Nat.zero_ne_one, Nat.one_ne_zero, Nat.not_lt_zero, if_true, if_false, implies_true]
    exact hR
/-! ===== the fill adds up ===== -/
theorem shr_sm (a p : Nat) : ∀ j, j ≤ p → sm (shr a p) j = a / p * j + min j (a % p)
  | 0, _ => by
    show 0 = a / p * 0 + min 0 (a % p)
    rw [Nat.mul_zero]
    omega
  | j + 1, h => by
    have ih := shr_sm a p j (by omega)
    have e : shr a p j = a / p + (if j < a % p then 1 else 0) := if_pos (by omega)
    show sm (shr a p) j + shr a p j = _
    rw [ih, e, Nat.mul_succ]
    split <;> omega
theorem fil_sm {A : List sE} (hok : okL A) (a : Nat) (hz : ¬ plc A = 0) : sm (fil A a) A.length = a := by
  have h : ∀ k, k ≤ A.length → sm (fil A a) k = sm (shr a (plc A)) (ls eP (A.take k) - 1) := by
    intro k
    induction k with
    | zero => intro _; rfl
    | succ k ih =>
      intro hk
      have hts := ls_take_s (f := eP) (A := A) (i := k) (by omega)
      have he := (hok.1 _ (nt_mem (A := A) (i := k) (by omega))).2.2.2.2.2.2.2.1
      show sm (fil A a) k + fil A a k = _
      rw [ih (by omega), hts]
      by_cases h0 : k = 0
      · subst h0
        rw [hok.p0 (by omega)]
        rfl
      · have hp1 := hok.p1 (k - 1) (by omega)
        rw [show k - 1 + 1 = k by omega] at hp1
        by_cases h1 : eP (nt A k) = 0
        · have : fil A a k = 0 := if_pos (Or.inr h1)
          rw [this, h1]
          rfl
        · have : fil A a k = shr a (plc A) (ls eP (A.take k) - 1) := if_neg (by omega)
          rw [this, show ls eP (A.take k) + eP (nt A k) - 1 = (ls eP (A.take k) - 1) + 1 by omega]
          rfl
  have h2 := h A.length (Nat.le_refl _)
  rw [List.take_length] at h2
  rw [h2]
  show sm (shr a (plc A)) (plc A) = a
  have hm : a % plc A < plc A := Nat.mod_lt _ (by omega)
  have hd := Nat.div_add_mod' a (plc A)
  rw [shr_sm a (plc A) (plc A) (Nat.le_refl _)]
  omega
theorem fld_sm {X : Nat → List sE} (hX : okX X) (sla t : Nat) (ht : t < 2) : sm (fil (X t) (if t = fsd X then fld X sla else 0)) (X t).length = (if t = fsd X then fld X sla else 0) := by
  by_cases h0 : (if t = fsd X then fld X sla else 0) = 0
  · rw [h0]
    exact sm_zero (fun k _ => fil_0 _ k)
  · have e : t = fsd X := by
      by_cases e : t = fsd X
      · exact e
      · rw [if_neg e] at h0
        exact absurd rfl h0
    refine fil_sm (hX t ht).1 _ ?_
    rw [if_pos e] at h0
    intro hz
    apply h0
    rw [e] at hz
    exact if_pos (Or.inr (Or.inl hz))
theorem i_account9 {X : Nat → List sE} (hX : okX X) {F : Nat → Nat → Nat} {ad : Nat → Nat} {many kind number lines first spacing fill all heavy : Nat → Int32} (A : relA X F ad many kind number lines spacing fill all heavy) {t p : Nat} (ht : t < 2) (hp : p < 5) {printed column inKey keySide apart filled fillSide : Int32} {Q : Int32 → Int32 → Int32 → Int32 → Int32 → Int32 → Int32 → Int32 → (Nat → Int32) → (Nat → Int32) → (Nat → Int32) → (Nat → Int32) → (Nat → Int32) → (Nat → Int32) → (Nat → Int32) → (Nat → Int32) → (Nat → Int32) → Prop} (h : Q (nI (sm (fun i => if p = 4 then F t i else pf p (nt (X t) i)) (X t).length)) printed column inKey keySide apart filled fillSide many kind number lines first spacing fill all heavy) : p_X9_account_32 (nI t) (nI p) printed column inKey keySide apart filled fillSide many kind number lines first spacing fill all heavy Q (nI 0) (nI (26 * t)) := by
  obtain ⟨m1, m2, m3, m4⟩ := A t ht
  obtain ⟨hok, hlen⟩ := hX t ht
  unfold p_X9_account_32
  refine wl1 (q_X9_account_32 (nI t) (nI p) printed column inKey keySide apart filled fillSide many kind number lines first spacing fill all heavy Q) (26 * t + (X t).length) (by omega) (fun k x => ∃ i, k = 26 * t + i ∧ x = nI (sm (fun i => if p = 4 then F t i else pf p (nt (X t) i)) i)) (26 * t) (by omega) _ ⟨0, rfl, rfl⟩ ?_
  rintro K k x _ hk ⟨i, rfl, rfl⟩ hK
  unfold q_X9_account_32
  simp (disch := omega) only [li_0, li_1, li_2, li_3, li_4, li_5, li_6, li_7, li_8, li_9, li_10, li_11, li_12, li_13, li_14, li_15, li_16, li_20, li_26, li_31, li_32, li_36, li_42, li_43, li_48, li_52, li_57, li_58, li_59, li_60, li_63, li_97, li_99, li_104, li_112, li_115, li_119, li_140, li_141, li_142, li_143, li_144, li_145, li_146, li_147, li_148, li_149, li_150, li_151, li_152, li_255, li_303, li_455, li_999, li_1000, li_1510, li_1820, li_2275, li_9999, li_10000, li_100000, li_1048575, li_100000000, vp_t, nI_clamp, m1, pk_mul, nI_add, nI_leI, ht, true_and, and_true, not_true_eq_false, not_false_eq_true, true_imp_iff, false_imp_iff, false_and, and_false, imp_false, Classical.not_not, Bool.false_eq_true, Nat.zero_ne_one, Nat.one_ne_zero, Nat.not_lt_zero, if_true, if_false, implies_true]
  refine ⟨fun hge => ?_, fun hlt => ?_⟩
  · have : i = (X t).length := by omega
    subst this
    exact h
  · have hi : i < (X t).length := by omega
    obtain ⟨q1, q2, q3, q4, q5⟩ := m4 i hi
    obtain ⟨o1, o2, o3, o4, o5, o6, o7, o8, o9⟩ := hok.1 _ (nt_mem hi)
    have hv : 26 * t + i < 52 := by omega
    have go : ∀ v, v = (if p = 4 then F t i else pf p (nt (X t) i)) → K (nI (sm (fun i => if p = 4 then F t i else pf p (nt (X t) i)) i + v)) (nI (26 * t + i + 1)) := by
      rintro v rfl
      exact hK (by omega) _ ⟨i + 1, rfl, rfl⟩
    unfold p_X9_account_67 p_X9_account_78 p_X9_account_93 p_X9_account_89 p_X9_account_94 p_X9_account_143
    have hkk : eK (nt (X t) i) = 1 ∨ eK (nt (X t) i) = 2 ∨ eK (nt (X t) i) = 3 := by omega
    have hpp : p = 0 ∨ p = 1 ∨ p = 2 ∨ p = 3 ∨ p = 4 := by omega
    have d1 : ¬ (1 : Nat) = 0 := by omega
    rcases hpp with rfl | rfl | rfl | rfl | rfl
    all_goals rcases hkk with hkk | hkk | hkk
    all_goals simp (disch := omega) only [li_0, li_1, li_2, li_3, li_4, li_5, li_6, li_7, li_8, li_9, li_10, li_11, li_12, li_13, li_14, li_15, li_16, li_20, li_26, li_31, li_32, li_36, li_42, li_43, li_48, li_52, li_57, li_58, li_59, li_60, li_63, li_97, li_99, li_104, li_112, li_115, li_119, li_140, li_141, li_142, li_143, li_144, li_145, li_146, li_147, li_148, li_149, li_150, li_151, li_152, li_255, li_303, li_455, li_999, li_1000, li_1510, li_1820, li_2275, li_9999, li_10000, li_100000, li_1048575, li_100000000, q1, q3, q4, q5, hkk, nI_eqI, nI_clamp, vp_t, hv, nI_add, Nat.reduceEqDiff, Nat.one_ne_zero, Nat.zero_ne_one, true_and, and_true, not_true_eq_false, not_false_eq_true, true_imp_iff, false_imp_iff, false_and, and_false, imp_false, Classical.not_not, Bool.false_eq_true, Nat.zero_ne_one, Nat.one_ne_zero, Nat.not_lt_zero, if_true, if_false, implies_true]
    all_goals refine go _ ?_
    all_goals simp [pf, hkk]
theorem l_account : lawS_17 Rel := by
  unfold lawS_17
  intro S h hz rt rl x_printing_dishes x_printing_lines x_printing_weights x_printing_set x_printing_number x_printing_prices x_printing_allergens x_printing_column x_fold_parts x_fold_weights x_fold_places x_fold_keySide x_fold_gap pg hist st mt ml m_printed m_column m_inKey m_keySide m_apart m_filled m_fillSide m_many m_kind m_number m_lines m_first m_spacing m_fill m_all m_heavy hR a1 a2
  obtain ⟨hS, ⟨z, rfl, rfl, hH⟩, hT⟩ := hR
  have hR : Rel S h (nI z) rt rl pg hist (nI z) mt ml := ⟨hS, ⟨z, rfl, rfl, hH⟩, hT⟩
  have hz5 := hH.1
  obtain ⟨hM, k0, k1, hk0, hk1, p151, p303, hkk, f0, f1⟩ := id hS
  obtain ⟨n, g, s, sd, hg, ho, hw, ⟨cn, cv, cst, cw⟩, hRR⟩ := id hM
  obtain ⟨rn, rv, rst, rsd⟩ := id hRR
  have hn := hg.1
  unfold p_X8_account p_X9_account
  by_cases h1 : ∃ x, 0 ≤ x ∧ x ≤ 1 ∧ a1 = nI x
  · by_cases h2 : ∃ x, 0 ≤ x ∧ x ≤ 4 ∧ a2 = nI x
    · obtain ⟨t, _, ht, rfl⟩ := id h1
      obtain ⟨p, _, hp, rfl⟩ := id h2
      simp (disch := omega) only [li_0, li_1, li_2, li_3, li_4, li_5, li_6, li_7, li_8, li_9, li_10, li_11, li_12, li_13, li_14, li_15, li_16, li_20, li_26, li_31, li_32, li_36, li_42, li_43, li_48, li_52, li_57, li_58, li_59, li_60, li_63, li_97, li_99, li_104, li_112, li_115, li_119, li_140, li_141, li_142, li_143, li_144, li_145, li_146, li_147, li_148, li_149, li_150, li_151, li_152, li_255, li_303, li_455, li_999, li_1000, li_1510, li_1820, li_2275, li_9999, li_10000, li_100000, li_1048575, li_100000000, e_isSide, e_inRange, h1, h2, nI_eqI, Nat.one_ne_zero, true_and, and_true, not_true_eq_false, not_false_eq_true, true_imp_iff, false_imp_iff, false_and, and_false, imp_false, Classical.not_not, Bool.false_eq_true, Nat.zero_ne_one, Nat.one_ne_zero, Nat.not_lt_zero, if_true, if_false, implies_true]
      refine i_layCard hg ho hw ⟨cn, cv, cst, cw⟩ ?_
      intro D' L' W' set num pri all col p1 w1 l1 hP R1
      have hX := wx_ok (prt g (s 2) (s 0) (s 5)) hg ho sd
      rw [e_partOf (by omega) (by omega)]
      simp (disch := omega) only [e_in, h1, h2, nI_eqI, Nat.one_ne_zero, pk_mul, true_and, and_true, not_true_eq_false, not_false_eq_true, true_imp_iff, false_imp_iff, false_and, and_false, imp_false, Classical.not_not, Bool.false_eq_true, Nat.zero_ne_one, Nat.one_ne_zero, Nat.not_lt_zero, if_true, if_false, implies_true]
      refine i_lay9 hRR hg ho hw ?_
      intro X nk u1 u2 u3 u4 u5 u6 u7 z1 z2 z3 z4 z5 z6 z7 z8 z9 hL
      obtain ⟨rfl, rfl, hX2, _, _, _, _, _, _, A, _⟩ := hL
      refine i_account9 hX2 A (by omega) (by omega) ?_
      refine ⟨?_, hR⟩
      obtain ⟨r1, r2, r3, r4⟩ := R1 t (by omega)
      by_cases e : p = 4
      · subst e
        rw [r2]
        simp only [if_true]
        exact congrArg nI (fld_sm hX (s 4) t (by omega)).symm
      · simp only [if_neg e]
        rw [r1 p (by omega)]
        exact congrArg nI (sm_ls (pf p) (wx (prt g (s 2) (s 0) (s 5)) n g s sd t)).symm
    · simp (disch := omega) only [li_0, li_1, li_2, li_3, li_4, li_5, li_6, li_7, li_8, li_9, li_10, li_11, li_12, li_13, li_14, li_15, li_16, li_20, li_26, li_31, li_32, li_36, li_42, li_43, li_48, li_52, li_57, li_58, li_59, li_60, li_63, li_97, li_99, li_104, li_112, li_115, li_119, li_140, li_141, li_142, li_143, li_144, li_145, li_146, li_147, li_148, li_149, li_150, li_151, li_152, li_255, li_303, li_455, li_999, li_1000, li_1510, li_1820, li_2275, li_9999, li_10000, li_100000, li_1048575, li_100000000, e_isSide, e_inRange, e_in, h1, h2, nI_eqI, Nat.one_ne_zero, true_and, and_true, not_true_eq_false, not_false_eq_true, true_imp_iff, false_imp_iff, false_and, and_false, imp_false, Classical.not_not, Bool.false_eq_true, Nat.zero_ne_one, Nat.one_ne_zero, Nat.not_lt_zero, if_true, if_false, implies_true]
      exact hR
  · simp (disch := omega) only [li_0, li_1, li_2, li_3, li_4, li_5, li_6, li_7, li_8, li_9, li_10, li_11, li_12, li_13, li_14, li_15, li_16, li_20, li_26, li_31, li_32, li_36, li_42, li_43, li_48, li_52, li_57, li_58, li_59, li_60, li_63, li_97, li_99, li_104, li_112, li_115, li_119, li_140, li_141, li_142, li_143, li_144, li_145, li_146, li_147, li_148, li_149, li_150, li_151, li_152, li_255, li_303, li_455, li_999, li_1000, li_1510, li_1820, li_2275, li_9999, li_10000, li_100000, li_1048575, li_100000000, e_isSide, e_inRange, e_in, h1, nI_eqI, Nat.one_ne_zero, true_and, and_true, not_true_eq_false, not_false_eq_true, true_imp_iff, false_imp_iff, false_and, and_false, imp_false, Classical.not_not, Bool.false_eq_true, Nat.zero_ne_one, Nat.one_ne_zero, Nat.not_lt_zero, if_true, if_false, implies_true]
    exact hR
/-! ===== counts ===== -/
theorem i_pricesOf {pg : Nat → Int32} {n : Nat} {g : Nat → Nat → Nat} {s sd : Nat → Nat} (R : relR n g s sd pg) (hg : okG n g) (P : Nat → Bool) {Q : Int32 → Prop} (h : Q (nI (ps P (fun d => g d 2) n))) : p_X9_pricesOfPrinted pg (nI (mk P n)) Q := by
  have hn := hg.1
  unfold p_X9_pricesOfPrinted p_X9_pricesOfPrinted_4
  refine wl1 (q_X9_pricesOfPrinted_4 pg (nI (mk P n)) Q) n (by omega) (fun k x => x = nI (ps P (fun d => g d 2) k)) 0 (by omega) _ rfl ?_
  rintro K k x _ hk rfl hK
  have hr := R.1
  unfold q_X9_pricesOfPrinted_4 p_X9_pricesOfPrinted_36
  simp (disch := omega) only [li_0, li_1, li_2, li_3, li_4, li_5, li_6, li_7, li_8, li_9, li_10, li_11, li_12, li_13, li_14, li_15, li_16, li_20, li_26, li_31, li_32, li_36, li_42, li_43, li_48, li_52, li_57, li_58, li_59, li_60, li_63, li_97, li_99, li_104, li_112, li_115, li_119, li_140, li_141, li_142, li_143, li_144, li_145, li_146, li_147, li_148, li_149, li_150, li_151, li_152, li_255, li_303, li_455, li_999, li_1000, li_1510, li_1820, li_2275, li_9999, li_10000, li_100000, li_1048575, li_100000000, vp_t, nI_clamp, hr, nI_leI, nI_add, Nat.reduceLT, true_and, and_true, not_true_eq_false, not_false_eq_true, true_imp_iff, false_imp_iff, false_and, and_false, imp_false, Classical.not_not, Bool.false_eq_true, Nat.zero_ne_one, Nat.one_ne_zero, Nat.not_lt_zero, if_true, if_false, implies_true]
  refine ⟨fun hge => ?_, fun hlt => ?_⟩
  · have : k = n := by omega
    subst this
    exact h
  · have hk2 : k < n := by omega
    have hm2 := mk_lt31 P hn
    have ht := mk_tb P n k
    by_cases hp : P k = true
    · simp (disch := omega) only [e_has9, ht, hk2, hp, and_self, e_of R.2.1, nI_eqI, nI_add, Nat.one_ne_zero, true_and, and_true, not_true_eq_false, not_false_eq_true, true_imp_iff, false_imp_iff, false_and, and_false, imp_false, Classical.not_not, Bool.false_eq_true, Nat.zero_ne_one, Nat.one_ne_zero, Nat.not_lt_zero, if_true, if_false, implies_true]
      refine hK hk2 _ ?_
      rw [ps_step, if_pos hp]
    · simp (disch := omega) only [e_has9, ht, hp, and_false, nI_eqI, nI_add, Nat.one_ne_zero, true_and, and_true, not_true_eq_false, not_false_eq_true, true_imp_iff, false_imp_iff, false_and, and_false, imp_false, Classical.not_not, Bool.false_eq_true, Nat.zero_ne_one, Nat.one_ne_zero, Nat.not_lt_zero, if_true, if_false, implies_true]
      refine hK hk2 _ ?_
      rw [ps_step, if_neg hp]
theorem kk_pc : ∀ a, a < 2 → ∀ b, b < 2 → pc (a + 2 * b) = a + b := by decide +kernel
theorem l_count : lawS_13 Rel := by
  unfold lawS_13
  intro S h hz rt rl x_printing_dishes x_printing_lines x_printing_weights x_fold_parts x_fold_weights x_fold_places pg hist st mt ml m_many m_kind m_number m_lines m_first m_spacing m_fill m_all m_heavy hR a1
  obtain ⟨hS, ⟨z, rfl, rfl, hH⟩, hT⟩ := hR
  have hR : Rel S h (nI z) rt rl pg hist (nI z) mt ml := ⟨hS, ⟨z, rfl, rfl, hH⟩, hT⟩
  have hz5 := hH.1
  obtain ⟨hM, k0, k1, hk0, hk1, p151, p303, hkk, f0, f1⟩ := id hS
  obtain ⟨n, g, s, sd, hg, ho, hw, ⟨cn, cv, cst, cw⟩, hRR⟩ := id hM
  obtain ⟨rn, rv, rst, rsd⟩ := id hRR
  have hn := hg.1
  obtain ⟨tt, rfl, rfl, hTT⟩ := hT
  have hX := wx_ok (prt g (s 2) (s 0) (s 5)) hg ho sd
  have hfl := fld_b hX (s 4)
  have hfs := fsd_lt (wx (prt g (s 2) (s 0) (s 5)) n g s sd)
  have hky := kyl_lt (prt g (s 2) (s 0) (s 5)) hg hn
  have hkp := kk_pc k0 (by omega) k1 (by omega)
  have hmk := mk_lt31 (prt g (s 2) (s 0) (s 5)) hn
  have hev := evn_le (wx (prt g (s 2) (s 0) (s 5)) n g s sd) (fsd (wx (prt g (s 2) (s 0) (s 5)) n g s sd)) (fld (wx (prt g (s 2) (s 0) (s 5)) n g s sd) (s 4))
  unfold p_X8_count
  refine i_layCard hg ho hw ⟨cn, cv, cst, cw⟩ ?_
  intro D' L' W' set num pri all col p1 w1 l1 hP R1
  obtain ⟨_, _, _, rfl, rfl, rfl, rfl, rfl⟩ := hP
  have ref : ∀ (r : Int32), (∀ (Q : Int32 → Prop) (all heavy : Nat → Int32) (F : Nat → Nat → Nat) (many kind number lines spacing fill : Nat → Int32), relA (wx (prt g (s 2) (s 0) (s 5)) n g s sd) F (fun t => if t = fsd (wx (prt g (s 2) (s 0) (s 5)) n g s sd) then fld (wx (prt g (s 2) (s 0) (s 5)) n g s sd) (s 4) else 0) many kind number lines spacing fill all heavy → Q r → ((a1 = nI 0 → Q (nI n)) ∧ (a1 = nI 1 → Q (nI (ps (prt g (s 2) (s 0) (s 5)) (fun _ => 1) n))) ∧ (a1 = nI 2 → Q (all 0)) ∧ (a1 = nI 3 → Q (all 1)) ∧ (a1 = nI 4 → Q (heavy 0)) ∧ (a1 = nI 5 → Q (heavy 1)) ∧ (a1 = nI 6 → Q (nI (clm (prt g (s 2) (s 0) (s 5)) g n))) ∧ (a1 = nI 7 → Q (nI (pc (kyl (prt g (s 2) (s 0) (s 5)) g n)))) ∧ (a1 = nI 8 → Q (if pc (kyl (prt g (s 2) (s 0) (s 5)) g n) = 0 then -nI 99 else nI (kys (sx (prt g (s 2) (s 0) (s 5)) n g (s 1) (clm (prt g (s 2) (s 0) (s 5)) g n) (s 3) sd)))) ∧ (a1 = nI 9 → Q (nI (apt (wx (prt g (s 2) (s 0) (s 5)) n g s sd)))) ∧ (a1 = nI 10 → Q (nI (fld (wx (prt g (s 2) (s 0) (s 5)) n g s sd) (s 4)))) ∧ (a1 = nI 11 → Q (nI (evn (wx (prt g (s 2) (s 0) (s 5)) n g s sd) (fsd (wx (prt g (s 2) (s 0) (s 5)) n g s sd)) (fld (wx (prt g (s 2) (s 0) (s 5)) n g s sd) (s 4))))) ∧ (a1 = nI 12 → Q (nI (ps (prt g (s 2) (s 0) (s 5)) (fun d => g d 2) n))) ∧ (a1 = nI 13 → Q (nI (k0 + k1))) ∧ (a1 = nI 14 → Q (nI z)) ∧ (a1 = nI 15 → Q (nI tt)) ∧ (¬ a1 = nI 0 → ¬ a1 = nI 1 → ¬ a1 = nI 2 → ¬ a1 = nI 3 → ¬ a1 = nI 4 → ¬ a1 = nI 5 → ¬ a1 = nI 6 → ¬ a1 = nI 7 → ¬ a1 = nI 8 → ¬ a1 = nI 9 → ¬ a1 = nI 10 → ¬ a1 = nI 11 → ¬ a1 = nI 12 → ¬ a1 = nI 13 → ¬ a1 = nI 14 → ¬ a1 = nI 15 → Q (-nI 1)))) → p_X9_count pg (nI z) (nI tt) m_many m_kind m_number m_lines m_first m_spacing m_fill m_all m_heavy a1 (fun r' _ _ _ _ _ _ _ _ _ _ _ _ _ _ _ _ => r = r' ∧ Rel S h (nI z) rt (nI tt) pg hist (nI z) mt (nI tt)) := by
    intro r hr
    unfold p_X9_count
    refine i_lay9 hRR hg ho hw ?_
    intro X nk u1 u2 u3 u4 u5 u6 u7 v1 v2 v3 v4 v5 v6 v7 v8 v9 hL
    obtain ⟨rfl, rfl, hX2, rfl, rfl, rfl, rfl, rfl, rfl, A, _⟩ := hL
    obtain ⟨c0, c1, c2, c3, c4, c5, c6, c7, c8, c9, c10, c11, c12, c13, c14, c15, c16⟩ := hr (fun r' => r = r' ∧ Rel S h (nI z) rt (nI tt) pg hist (nI z) mt (nI tt)) v8 v9 _ v1 v2 v3 v4 v6 v7 A ⟨rfl, hR⟩
    refine ⟨fun e => ?_, fun e => ?_, fun e => ?_, fun e => ?_, fun e => ?_, fun e => ?_, c6, fun e => ?_, c8, c9, c10, fun e => ?_, fun e => ?_, fun e => ?_, c14, c15, c16⟩
    · refine ⟨vk 0 455, ?_⟩
      have := c0 e
      rw [← rn] at this
      exact this
    · have := c1 e
      rw [← ps_pc _ hn] at this
      exact i_size (by omega) this
    · subst e
      rw [show (2 : Int32) - 2 = nI 0 by decide, show (nI 0).toNatClampNeg = 0 by decide]
      exact ⟨vk 0 2, c2 rfl⟩
    · subst e
      rw [show (3 : Int32) - 2 = nI 1 by decide, show (nI 1).toNatClampNeg = 1 by decide]
      exact ⟨vk 1 2, c3 rfl⟩
    · subst e
      rw [show (4 : Int32) - 4 = nI 0 by decide, show (nI 0).toNatClampNeg = 0 by decide]
      exact ⟨vk 0 2, c4 rfl⟩
    · subst e
      rw [show (5 : Int32) - 4 = nI 1 by decide, show (nI 1).toNatClampNeg = 1 by decide]
      exact ⟨vk 1 2, c5 rfl⟩
    · exact i_size (by omega) (c7 e)
    · rw [e_isEven9 hX2 hfl A]
      have c := c11 e
      show (nI (evn (wx (prt g (s 2) (s 0) (s 5)) n g s sd) (fsd (wx (prt g (s 2) (s 0) (s 5)) n g s sd)) (fld (wx (prt g (s 2) (s 0) (s 5)) n g s sd) (s 4))) = nI 0 → _) ∧ (¬ nI (evn (wx (prt g (s 2) (s 0) (s 5)) n g s sd) (fsd (wx (prt g (s 2) (s 0) (s 5)) n g s sd)) (fld (wx (prt g (s 2) (s 0) (s 5)) n g s sd) (s 4))) = nI 0 → _)
      rw [nI_eqI (by omega) (by omega)]
      refine ⟨fun e0 => ?_, fun e0 => ?_⟩
      · rw [e0] at c
        exact c
      · rw [show evn (wx (prt g (s 2) (s 0) (s 5)) n g s sd) (fsd (wx (prt g (s 2) (s 0) (s 5)) n g s sd)) (fld (wx (prt g (s 2) (s 0) (s 5)) n g s sd) (s 4)) = 1 by omega] at c
        exact c
    · exact i_pricesOf hRR hg _ (c12 e)
    · have := c13 e
      refine ⟨vk 151 455, vk 303 455, ?_⟩
      show r = pg (151 : Int32).toNatClampNeg + pg ((151 : Int32) + 152).toNatClampNeg ∧ _
      rw [show pg (151 : Int32).toNatClampNeg = nI k0 from p151, show pg ((151 : Int32) + 152).toNatClampNeg = nI k1 from p303, nI_add]
      exact this
  refine ⟨fun e => ?_, fun e => ?_, fun e => ?_, fun e => ?_, fun e => ?_, fun e => ?_, fun e => ?_, fun e => ?_, fun e => ?_, fun e => ?_, fun e => ?_, fun e => ?_, fun e => ?_, fun e => ?_, fun e => ?_, fun e => ?_, fun e0 e1 e2 e3 e4 e5 e6 e7 e8 e9 e10 e11 e12 e13 e14 e15 => ?_⟩
  · subst e
    unfold p_X3_size
    rw [cn]
    refine ref _ (fun Q all heavy F many kind number lines spacing fill A hq => ?_)
    exact ⟨fun _ => hq, fun e => absurd e (by decide), fun e => absurd e (by decide), fun e => absurd e (by decide), fun e => absurd e (by decide), fun e => absurd e (by decide), fun e => absurd e (by decide), fun e => absurd e (by decide), fun e => absurd e (by decide), fun e => absurd e (by decide), fun e => absurd e (by decide), fun e => absurd e (by decide), fun e => absurd e (by decide), fun e => absurd e (by decide), fun e => absurd e (by decide), fun e => absurd e (by decide), fun e _ _ _ _ _ _ _ _ _ _ _ _ _ _ _ => absurd rfl e⟩
  · subst e
    refine ref _ (fun Q all heavy F many kind number lines spacing fill A hq => ?_)
    exact ⟨fun e => absurd e (by decide), fun _ => hq, fun e => absurd e (by decide), fun e => absurd e (by decide), fun e => absurd e (by decide), fun e => absurd e (by decide), fun e => absurd e (by decide), fun e => absurd e (by decide), fun e => absurd e (by decide), fun e => absurd e (by decide), fun e => absurd e (by decide), fun e => absurd e (by decide), fun e => absurd e (by decide), fun e => absurd e (by decide), fun e => absurd e (by decide), fun e => absurd e (by decide), fun _ e _ _ _ _ _ _ _ _ _ _ _ _ _ _ => absurd rfl e⟩
  · subst e
    refine i_linesOf R1 hX (s := 0) (by decide) ?_
    refine ref _ (fun Q all heavy F many kind number lines spacing fill A hq => ?_)
    have l0 : all 0 = nI (tot (wx (prt g (s 2) (s 0) (s 5)) n g s sd) (fsd (wx (prt g (s 2) (s 0) (s 5)) n g s sd)) (fld (wx (prt g (s 2) (s 0) (s 5)) n g s sd) (s 4)) 0) := (A 0 (by decide)).2.1
    rw [← l0] at hq
    exact ⟨fun e => absurd e (by decide), fun e => absurd e (by decide), fun _ => hq, fun e => absurd e (by decide), fun e => absurd e (by decide), fun e => absurd e (by decide), fun e => absurd e (by decide), fun e => absurd e (by decide), fun e => absurd e (by decide), fun e => absurd e (by decide), fun e => absurd e (by decide), fun e => absurd e (by decide), fun e => absurd e (by decide), fun e => absurd e (by decide), fun e => absurd e (by decide), fun e => absurd e (by decide), fun _ _ e _ _ _ _ _ _ _ _ _ _ _ _ _ => absurd rfl e⟩
  · subst e
    refine i_linesOf R1 hX (s := 1) (by decide) ?_
    refine ref _ (fun Q all heavy F many kind number lines spacing fill A hq => ?_)
    have l0 : all 1 = nI (tot (wx (prt g (s 2) (s 0) (s 5)) n g s sd) (fsd (wx (prt g (s 2) (s 0) (s 5)) n g s sd)) (fld (wx (prt g (s 2) (s 0) (s 5)) n g s sd) (s 4)) 1) := (A 1 (by decide)).2.1
    rw [← l0] at hq
    exact ⟨fun e => absurd e (by decide), fun e => absurd e (by decide), fun e => absurd e (by decide), fun _ => hq, fun e => absurd e (by decide), fun e => absurd e (by decide), fun e => absurd e (by decide), fun e => absurd e (by decide), fun e => absurd e (by decide), fun e => absurd e (by decide), fun e => absurd e (by decide), fun e => absurd e (by decide), fun e => absurd e (by decide), fun e => absurd e (by decide), fun e => absurd e (by decide), fun e => absurd e (by decide), fun _ _ _ e _ _ _ _ _ _ _ _ _ _ _ _ => absurd rfl e⟩
  · subst e
    refine (e_weightOf R1 (s := 0) (by decide)).2 ?_
    refine ref _ (fun Q all heavy F many kind number lines spacing fill A hq => ?_)
    rw [← (A 0 (by decide)).2.2.1] at hq
    exact ⟨fun e => absurd e (by decide), fun e => absurd e (by decide), fun e => absurd e (by decide), fun e => absurd e (by decide), fun _ => hq, fun e => absurd e (by decide), fun e => absurd e (by decide), fun e => absurd e (by decide), fun e => absurd e (by decide), fun e => absurd e (by decide), fun e => absurd e (by decide), fun e => absurd e (by decide), fun e => absurd e (by decide), fun e => absurd e (by decide), fun e => absurd e (by decide), fun e => absurd e (by decide), fun _ _ _ _ e _ _ _ _ _ _ _ _ _ _ _ => absurd rfl e⟩
  · subst e
    refine (e_weightOf R1 (s := 1) (by decide)).2 ?_
    refine ref _ (fun Q all heavy F many kind number lines spacing fill A hq => ?_)
    rw [← (A 1 (by decide)).2.2.1] at hq
    exact ⟨fun e => absurd e (by decide), fun e => absurd e (by decide), fun e => absurd e (by decide), fun e => absurd e (by decide), fun e => absurd e (by decide), fun _ => hq, fun e => absurd e (by decide), fun e => absurd e (by decide), fun e => absurd e (by decide), fun e => absurd e (by decide), fun e => absurd e (by decide), fun e => absurd e (by decide), fun e => absurd e (by decide), fun e => absurd e (by decide), fun e => absurd e (by decide), fun e => absurd e (by decide), fun _ _ _ _ _ e _ _ _ _ _ _ _ _ _ _ => absurd rfl e⟩
  · subst e
    refine ref _ (fun Q all heavy F many kind number lines spacing fill A hq => ?_)
    exact ⟨fun e => absurd e (by decide), fun e => absurd e (by decide), fun e => absurd e (by decide), fun e => absurd e (by decide), fun e => absurd e (by decide), fun e => absurd e (by decide), fun _ => hq, fun e => absurd e (by decide), fun e => absurd e (by decide), fun e => absurd e (by decide), fun e => absurd e (by decide), fun e => absurd e (by decide), fun e => absurd e (by decide), fun e => absurd e (by decide), fun e => absurd e (by decide), fun e => absurd e (by decide), fun _ _ _ _ _ _ e _ _ _ _ _ _ _ _ _ => absurd rfl e⟩
  · subst e
    rw [e_bitCount hky]
    refine ref _ (fun Q all heavy F many kind number lines spacing fill A hq => ?_)
    exact ⟨fun e => absurd e (by decide), fun e => absurd e (by decide), fun e => absurd e (by decide), fun e => absurd e (by decide), fun e => absurd e (by decide), fun e => absurd e (by decide), fun e => absurd e (by decide), fun _ => hq, fun e => absurd e (by decide), fun e => absurd e (by decide), fun e => absurd e (by decide), fun e => absurd e (by decide), fun e => absurd e (by decide), fun e => absurd e (by decide), fun e => absurd e (by decide), fun e => absurd e (by decide), fun _ _ _ _ _ _ _ e _ _ _ _ _ _ _ _ => absurd rfl e⟩
  · subst e
    refine ref _ (fun Q all heavy F many kind number lines spacing fill A hq => ?_)
    exact ⟨fun e => absurd e (by decide), fun e => absurd e (by decide), fun e => absurd e (by decide), fun e => absurd e (by decide), fun e => absurd e (by decide), fun e => absurd e (by decide), fun e => absurd e (by decide), fun e => absurd e (by decide), fun _ => hq, fun e => absurd e (by decide), fun e => absurd e (by decide), fun e => absurd e (by decide), fun e => absurd e (by decide), fun e => absurd e (by decide), fun e => absurd e (by decide), fun e => absurd e (by decide), fun _ _ _ _ _ _ _ _ e _ _ _ _ _ _ _ => absurd rfl e⟩
  · subst e
    refine ref _ (fun Q all heavy F many kind number lines spacing fill A hq => ?_)
    exact ⟨fun e => absurd e (by decide), fun e => absurd e (by decide), fun e => absurd e (by decide), fun e => absurd e (by decide), fun e => absurd e (by decide), fun e => absurd e (by decide), fun e => absurd e (by decide), fun e => absurd e (by decide), fun e => absurd e (by decide), fun _ => hq, fun e => absurd e (by decide), fun e => absurd e (by decide), fun e => absurd e (by decide), fun e => absurd e (by decide), fun e => absurd e (by decide), fun e => absurd e (by decide), fun _ _ _ _ _ _ _ _ _ e _ _ _ _ _ _ => absurd rfl e⟩
  · subst e
    refine i_fill R1 hfs ?_
    refine ref _ (fun Q all heavy F many kind number lines spacing fill A hq => ?_)
    exact ⟨fun e => absurd e (by decide), fun e => absurd e (by decide), fun e => absurd e (by decide), fun e => absurd e (by decide), fun e => absurd e (by decide), fun e => absurd e (by decide), fun e => absurd e (by decide), fun e => absurd e (by decide), fun e => absurd e (by decide), fun e => absurd e (by decide), fun _ => hq, fun e => absurd e (by decide), fun e => absurd e (by decide), fun e => absurd e (by decide), fun e => absurd e (by decide), fun e => absurd e (by decide), fun _ _ _ _ _ _ _ _ _ _ e _ _ _ _ _ => absurd rfl e⟩
  · subst e
    refine i_isEven R1 hX hfl ?_
    show (nI (evn (wx (prt g (s 2) (s 0) (s 5)) n g s sd) (fsd (wx (prt g (s 2) (s 0) (s 5)) n g s sd)) (fld (wx (prt g (s 2) (s 0) (s 5)) n g s sd) (s 4))) = nI 0 → _) ∧ (¬ nI (evn (wx (prt g (s 2) (s 0) (s 5)) n g s sd) (fsd (wx (prt g (s 2) (s 0) (s 5)) n g s sd)) (fld (wx (prt g (s 2) (s 0) (s 5)) n g s sd) (s 4))) = nI 0 → _)
    rw [nI_eqI (by omega) (by omega)]
    refine ⟨fun e => ?_, fun e => ?_⟩
    · refine ref _ (fun Q all heavy F many kind number lines spacing fill A hq => ?_)
      rw [e]
      exact ⟨fun e => absurd e (by decide), fun e => absurd e (by decide), fun e => absurd e (by decide), fun e => absurd e (by decide), fun e => absurd e (by decide), fun e => absurd e (by decide), fun e => absurd e (by decide), fun e => absurd e (by decide), fun e => absurd e (by decide), fun e => absurd e (by decide), fun e => absurd e (by decide), fun _ => hq, fun e => absurd e (by decide), fun e => absurd e (by decide), fun e => absurd e (by decide), fun e => absurd e (by decide), fun _ _ _ _ _ _ _ _ _ _ _ e _ _ _ _ => absurd rfl e⟩
    · refine ref _ (fun Q all heavy F many kind number lines spacing fill A hq => ?_)
      rw [show evn (wx (prt g (s 2) (s 0) (s 5)) n g s sd) (fsd (wx (prt g (s 2) (s 0) (s 5)) n g s sd)) (fld (wx (prt g (s 2) (s 0) (s 5)) n g s sd) (s 4)) = 1 by omega]
      exact ⟨fun e => absurd e (by decide), fun e => absurd e (by decide), fun e => absurd e (by decide), fun e => absurd e (by decide), fun e => absurd e (by decide), fun e => absurd e (by decide), fun e => absurd e (by decide), fun e => absurd e (by decide), fun e => absurd e (by decide), fun e => absurd e (by decide), fun e => absurd e (by decide), fun _ => hq, fun e => absurd e (by decide), fun e => absurd e (by decide), fun e => absurd e (by decide), fun e => absurd e (by decide), fun _ _ _ _ _ _ _ _ _ _ _ e _ _ _ _ => absurd rfl e⟩
  · subst e
    refine ref _ (fun Q all heavy F many kind number lines spacing fill A hq => ?_)
    exact ⟨fun e => absurd e (by decide), fun e => absurd e (by decide), fun e => absurd e (by decide), fun e => absurd e (by decide), fun e => absurd e (by decide), fun e => absurd e (by decide), fun e => absurd e (by decide), fun e => absurd e (by decide), fun e => absurd e (by decide), fun e => absurd e (by decide), fun e => absurd e (by decide), fun e => absurd e (by decide), fun _ => hq, fun e => absurd e (by decide), fun e => absurd e (by decide), fun e => absurd e (by decide), fun _ _ _ _ _ _ _ _ _ _ _ _ e _ _ _ => absurd rfl e⟩
  · subst e
    rw [hkk, e_bitCount (by omega), hkp]
    refine ref _ (fun Q all heavy F many kind number lines spacing fill A hq => ?_)
    exact ⟨fun e => absurd e (by decide), fun e => absurd e (by decide), fun e => absurd e (by decide), fun e => absurd e (by decide), fun e => absurd e (by decide), fun e => absurd e (by decide), fun e => absurd e (by decide), fun e => absurd e (by decide), fun e => absurd e (by decide), fun e => absurd e (by decide), fun e => absurd e (by decide), fun e => absurd e (by decide), fun e => absurd e (by decide), fun _ => hq, fun e => absurd e (by decide), fun e => absurd e (by decide), fun _ _ _ _ _ _ _ _ _ _ _ _ _ e _ _ => absurd rfl e⟩
  · subst e
    refine ref _ (fun Q all heavy F many kind number lines spacing fill A hq => ?_)
    exact ⟨fun e => absurd e (by decide), fun e => absurd e (by decide), fun e => absurd e (by decide), fun e => absurd e (by decide), fun e => absurd e (by decide), fun e => absurd e (by decide), fun e => absurd e (by decide), fun e => absurd e (by decide), fun e => absurd e (by decide), fun e => absurd e (by decide), fun e => absurd e (by decide), fun e => absurd e (by decide), fun e => absurd e (by decide), fun e => absurd e (by decide), fun _ => hq, fun e => absurd e (by decide), fun _ _ _ _ _ _ _ _ _ _ _ _ _ _ e _ => absurd rfl e⟩
  · subst e
    refine ref _ (fun Q all heavy F many kind number lines spacing fill A hq => ?_)
    exact ⟨fun e => absurd e (by decide), fun e => absurd e (by decide), fun e => absurd e (by decide), fun e => absurd e (by decide), fun e => absurd e (by decide), fun e => absurd e (by decide), fun e => absurd e (by decide), fun e => absurd e (by decide), fun e => absurd e (by decide), fun e => absurd e (by decide), fun e => absurd e (by decide), fun e => absurd e (by decide), fun e => absurd e (by decide), fun e => absurd e (by decide), fun e => absurd e (by decide), fun _ => hq, fun _ _ _ _ _ _ _ _ _ _ _ _ _ _ _ e => absurd rfl e⟩
  · refine ref _ (fun Q all heavy F many kind number lines spacing fill A hq => ?_)
    exact ⟨fun e => absurd e e0, fun e => absurd e e1, fun e => absurd e e2, fun e => absurd e e3, fun e => absurd e e4, fun e => absurd e e5, fun e => absurd e e6, fun e => absurd e e7, fun e => absurd e e8, fun e => absurd e e9, fun e => absurd e e10, fun e => absurd e e11, fun e => absurd e e12, fun e => absurd e e13, fun e => absurd e e14, fun e => absurd e e15, fun _ _ _ _ _ _ _ _ _ _ _ _ _ _ _ _ => hq⟩

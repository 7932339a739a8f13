/-! ===== members of a set ===== -/
theorem e_andX (x : Nat) (y : Int32) : nI x &&& y = nI (x &&& y.toBitVec.toNat) := by
  apply Int32.toBitVec_inj.1
  show BitVec.ofNat 32 x &&& y.toBitVec = BitVec.ofNat 32 (x &&& y.toBitVec.toNat)
  apply BitVec.eq_of_getLsbD_eq
  intro i hi
  simp [BitVec.getLsbD_ofNat, hi, Nat.testBit_and, BitVec.testBit_toNat]
theorem tb_big {m n k : Nat} (h : m < 2 ^ n) (hk : n ≤ k) : tb m k = 0 := by
  unfold tb
  have : 2 ^ n ≤ 2 ^ k := Nat.pow_le_pow_right (by decide) hk
  rw [Nat.div_eq_of_lt (by omega)]
theorem ivt {f : Nat → Nat} (hf : ∀ k, f k ≤ 1) {a : Nat} : ∀ {N : Nat}, a < sm f N → ∃ k, k < N ∧ f k = 1 ∧ sm f k = a
  | 0, h => absurd h (Nat.not_lt_zero a)
  | N + 1, h => by
    have h' : a < sm f N + f N := h
    by_cases e : a < sm f N
    · obtain ⟨k, h1, h2, h3⟩ := ivt hf e
      exact ⟨k, by omega, h2, h3⟩
    · have := hf N
      exact ⟨N, by omega, by omega, by omega⟩
/-- the member with so many ahead, in the class and in the reference -/
theorem i_memberOf {m a k : Nat} (hm : m < 2 ^ 31) (hk : k < 20) (h1 : tb m k = 1) (h2 : sm (fun j => tb m j) k = a) {Q : Int32 → Prop} (h : Q (nI k)) : p_X8_memberOf (nI m) (nI a) Q := by
  have ha : a ≤ 1 * k := by
    rw [← h2]
    exact sm_le (fun j _ => Nat.le_of_lt_succ (tb_lt m j))
  unfold p_X8_memberOf p_X8_memberOf_4
  refine wl1 (q_X8_memberOf_4 (nI m) (nI a) Q) k (by omega) (fun j x => x = nI (sm (fun j => tb m j) j)) 0 (by omega) _ rfl ?_
  rintro K j x _ hj rfl hK
  have hsj : sm (fun j => tb m j) j ≤ 1 * j := sm_le (fun j _ => Nat.le_of_lt_succ (tb_lt m j))
  have htj := tb_lt m j
  have h20 : ¬ 20 ≤ j := by omega
  unfold q_X8_memberOf_4 p_X8_memberOf_28
  simp (disch := omega) only [li_0, li_1, li_2, li_3, li_4, li_5, li_6, li_7, li_8, li_9, li_10, li_11, li_12, li_13, li_14, li_15, li_16, li_20, li_26, li_31, li_32, li_36, li_42, li_43, li_48, li_52, li_57, li_58, li_59, li_60, li_63, li_97, li_99, li_104, li_112, li_115, li_119, li_140, li_141, li_142, li_143, li_144, li_145, li_146, li_147, li_148, li_149, li_150, li_151, li_152, li_255, li_303, li_455, li_999, li_1000, li_1510, li_1820, li_2275, li_9999, li_10000, li_100000, li_1048575, li_100000000, nI_leI, e_has, nI_eqI, nI_add, h20, Nat.one_ne_zero, true_and, and_true, not_true_eq_false, not_false_eq_true, true_imp_iff, false_imp_iff, false_and, and_false, imp_false, Classical.not_not, Bool.false_eq_true, Nat.zero_ne_one, Nat.one_ne_zero, Nat.not_lt_zero, if_true, if_false, implies_true]
  refine ⟨fun e => ⟨fun e2 => ?_, fun e2 => ?_⟩, fun e => ?_⟩
  · have hjk : j < k := by
      by_cases e3 : j = k
      · subst e3
        exact absurd h2 e2
      · omega
    refine hK hjk _ ?_
    show nI (sm (fun j => tb m j) j + 1) = nI (sm (fun j => tb m j) j + tb m j)
    rw [e]
  · by_cases e3 : j = k
    · subst e3
      exact h
    · have h4 : sm (fun j => tb m j) (j + 1) ≤ sm (fun j => tb m j) k := sm_mono _ (by omega)
      have h5 : sm (fun j => tb m j) (j + 1) = sm (fun j => tb m j) j + tb m j := rfl
      omega
  · have hjk : j < k := by
      by_cases e3 : j = k
      · subst e3
        exact absurd h1 e
      · omega
    refine hK hjk _ ?_
    show nI (sm (fun j => tb m j) j) = nI (sm (fun j => tb m j) j + tb m j)
    rw [show tb m j = 0 by omega, Nat.add_zero]
theorem i_memberNone {m : Nat} (hm : m < 2 ^ 31) (h1 : ∀ k, k < 20 → tb m k = 0) {Q : Int32 → Prop} (h : Q (-nI 99)) : p_X8_memberOf (nI m) (nI 0) Q := by
  unfold p_X8_memberOf p_X8_memberOf_4
  refine wl1 (q_X8_memberOf_4 (nI m) (nI 0) Q) 20 (by omega) (fun j x => x = nI 0) 0 (by omega) _ rfl ?_
  rintro K j x _ hj rfl hK
  unfold q_X8_memberOf_4 p_X8_memberOf_28
  simp (disch := omega) only [li_0, li_1, li_2, li_3, li_4, li_5, li_6, li_7, li_8, li_9, li_10, li_11, li_12, li_13, li_14, li_15, li_16, li_20, li_26, li_31, li_32, li_36, li_42, li_43, li_48, li_52, li_57, li_58, li_59, li_60, li_63, li_97, li_99, li_104, li_112, li_115, li_119, li_140, li_141, li_142, li_143, li_144, li_145, li_146, li_147, li_148, li_149, li_150, li_151, li_152, li_255, li_303, li_455, li_999, li_1000, li_1510, li_1820, li_2275, li_9999, li_10000, li_100000, li_1048575, li_100000000, nI_leI, nI_add]
  refine ⟨fun e => h, fun e => ?_⟩
  have h0 := h1 j (by omega)
  simp (disch := omega) only [e_has, h0, nI_eqI, true_and, and_true, not_true_eq_false, not_false_eq_true, true_imp_iff, false_imp_iff, false_and, and_false, imp_false, Classical.not_not, Bool.false_eq_true, Nat.zero_ne_one, Nat.one_ne_zero, Nat.not_lt_zero, if_true, if_false, implies_true]
  exact hK (by omega) _ rfl
theorem least {p : Nat → Prop} : ∀ {i : Nat}, p i → ∃ i, p i ∧ ∀ j, j < i → ¬ p j := by
  intro i
  induction i using Nat.strongRecOn with
  | ind i ih =>
    intro h
    by_cases e : ∃ j, j < i ∧ p j
    · obtain ⟨j, h1, h2⟩ := e
      exact ih j h1 h2
    · exact ⟨i, h, fun j h1 h2 => e ⟨j, h1, h2⟩⟩
theorem shr_sm (a p : Nat) : ∀ j, j ≤ p → sm (shr a p) j = a / p * j + min j (a % p)
  | 0, _ => by
    show 0 = a / p * 0 + min 0 (a % p)
    rw [Nat.mul_zero]
    omega
  | j + 1, h => by
    have ih := shr_sm a p j (by omega)
    have e : shr a p j = a / p + (if j < a % p then 1 else 0) := if_pos (by omega)
    show sm (shr a p) j + shr a p j = _
    rw [ih, e, Nat.mul_succ]
    split <;> omega
theorem fil_sm {A : List sE} (hok : okL A) (a : Nat) (hz : ¬ plc A = 0) : sm (fil A a) A.length = a := by
  have h : ∀ k, k ≤ A.length → sm (fil A a) k = sm (shr a (plc A)) (ls eP (A.take k) - 1) := by
    intro k
    induction k with
    | zero => intro _; rfl
    | succ k ih =>
      intro hk
      have hts := ls_take_s (f := eP) (A := A) (i := k) (by omega)
      have he := (hok.1 _ (nt_mem (A := A) (i := k) (by omega))).2.2.2.2.2.2.2.1
      show sm (fil A a) k + fil A a k = _
      rw [ih (by omega), hts]
      by_cases h0 : k = 0
      · subst h0
        rw [hok.p0 (by omega)]
        rfl
      · have hp1 := hok.p1 (k - 1) (by omega)
        rw [show k - 1 + 1 = k by omega] at hp1
        by_cases h1 : eP (nt A k) = 0
        · have : fil A a k = 0 := if_pos (Or.inr h1)
          rw [this, h1]
          rfl
        · have : fil A a k = shr a (plc A) (ls eP (A.take k) - 1) := if_neg (by omega)
          rw [this, show ls eP (A.take k) + eP (nt A k) - 1 = (ls eP (A.take k) - 1) + 1 by omega]
          rfl
  have h2 := h A.length (Nat.le_refl _)
  rw [List.take_length] at h2
  rw [h2]
  show sm (shr a (plc A)) (plc A) = a
  have hm : a % plc A < plc A := Nat.mod_lt _ (by omega)
  have hd := Nat.div_add_mod' a (plc A)
  rw [shr_sm a (plc A) (plc A) (Nat.le_refl _)]
  omega
theorem fld_sm {X : Nat → List sE} (hX : okX X) (sla t : Nat) (ht : t < 2) : sm (fil (X t) (if t = fsd X then fld X sla else 0)) (X t).length = (if t = fsd X then fld X sla else 0) := by
  by_cases h0 : (if t = fsd X then fld X sla else 0) = 0
  · rw [h0]
    exact sm_zero (fun k _ => fil_0 _ k)
  · have e : t = fsd X := by
      by_cases e : t = fsd X
      · exact e
      · rw [if_neg e] at h0
        exact absurd rfl h0
    refine fil_sm (hX t ht).1 _ ?_
    rw [if_pos e] at h0
    intro hz
    apply h0
    rw [e] at hz
    exact if_pos (Or.inr (Or.inl hz))
theorem kk_pc : ∀ a, a < 2 → ∀ b, b < 2 → pc (a + 2 * b) = a + b := by decide +kernel

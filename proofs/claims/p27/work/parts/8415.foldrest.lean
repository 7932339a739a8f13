/-! ===== Fold: what it tells of fill, weights; which is better ===== -/
theorem e_rem (a d : Nat) : nI a - nI (a / d) * nI d = nI (a % d) := by
  rw [pk_mul, pk_sub (Nat.div_mul_le_self a d)]
  exact congrArg nI (by have := Nat.div_add_mod' a d; omega)
def shr (a p j : Nat) : Nat := if j < p then a / p + (if j < a % p then 1 else 0) else 0
theorem i_fillAt {X : Nat → List sE} {fs fl : Nat} {parts : Nat → Nat → Int32} {weights places : Nat → Int32} (R : relF X fs fl parts weights places) (hX : okX X) (hf : fl ≤ 225) {s : Nat} (hs : s < 2) {j : Nat} (hj : j < 100) {Q : Int32 → Prop} (h : Q (nI (shr (if s = fs then fl else 0) (plc (X s)) j))) : p_X1_fillAt parts places (nI s) (nI j) Q := by
  obtain ⟨r1, r2, r3, r4⟩ := R s hs
  obtain ⟨b1, b2, b3, b4, b5, b6, b7, b8⟩ := hX.b hs
  have hA : (if s = fs then fl else 0) ≤ 225 := by split <;> omega
  have hpl : plc (X s) = ls eP (X s) - 1 := rfl
  rw [hpl] at h
  generalize (if s = fs then fl else 0) = A at h r2 hA
  have go : p_X1_fillAt_19 parts (nI s) (nI j) (nI (ls eP (X s)) - nI 1) Q := by
    unfold p_X1_fillAt_19
    by_cases hz : ls eP (X s) = 0
    · have e : ¬ nI j < nI (ls eP (X s)) - nI 1 := by
        rw [hz, Int32.lt_iff_toInt_lt, pk_sub_toInt (by decide) (by decide), nI_toInt (by omega)]
        omega
      have e2 : shr A (ls eP (X s) - 1) j = 0 := by
        rw [hz]
        exact if_neg (Nat.not_lt_zero _)
      rw [e2] at h
      simp (disch := omega) only [li_0, li_1, li_2, li_3, li_4, li_5, li_6, li_7, li_8, li_9, li_10, li_11, li_12, li_13, li_14, li_15, li_16, li_20, li_26, li_31, li_32, li_36, li_42, li_43, li_48, li_52, li_57, li_58, li_59, li_60, li_63, li_97, li_99, li_104, li_112, li_115, li_119, li_140, li_141, li_142, li_143, li_144, li_145, li_146, li_147, li_148, li_149, li_150, li_151, li_152, li_255, li_303, li_455, li_999, li_1000, li_1510, li_1820, li_2275, li_9999, li_10000, li_100000, li_1048575, li_100000000, nI_ltI, e, true_and, and_true, not_true_eq_false, not_false_eq_true, true_imp_iff, false_imp_iff, false_and, and_false, imp_false, Classical.not_not, Bool.false_eq_true, Nat.zero_ne_one, Nat.one_ne_zero, Nat.not_lt_zero, if_true, if_false, implies_true]
      exact h
    · rw [pk_sub (by omega)]
      have hp : ls eP (X s) - 1 < 100 := by omega
      generalize ls eP (X s) - 1 = p at h hp
      simp (disch := omega) only [li_0, li_1, li_2, li_3, li_4, li_5, li_6, li_7, li_8, li_9, li_10, li_11, li_12, li_13, li_14, li_15, li_16, li_20, li_26, li_31, li_32, li_36, li_42, li_43, li_48, li_52, li_57, li_58, li_59, li_60, li_63, li_97, li_99, li_104, li_112, li_115, li_119, li_140, li_141, li_142, li_143, li_144, li_145, li_146, li_147, li_148, li_149, li_150, li_151, li_152, li_255, li_303, li_455, li_999, li_1000, li_1510, li_1820, li_2275, li_9999, li_10000, li_100000, li_1048575, li_100000000, nI_ltI, true_and, and_true, not_true_eq_false, not_false_eq_true, true_imp_iff, false_imp_iff, false_and, and_false, imp_false, Classical.not_not, Bool.false_eq_true, Nat.zero_ne_one, Nat.one_ne_zero, Nat.not_lt_zero, if_true, if_false, implies_true]
      refine ⟨fun h1 => ?_, fun h1 => ?_⟩
      · have hm : A % p < p := Nat.mod_lt _ (by omega)
        have hd : A / p ≤ A := Nat.div_le_self _ _
        unfold shr at h
        rw [if_pos h1] at h
        rw [e_partOf hs (by decide), r2]
        simp (disch := omega) only [pk_div, e_rem, nI_eqI, nI_leI, nI_add]
        refine ⟨by omega, by omega, fun h2 => ?_, fun h2 => ?_⟩
        · rw [if_neg (by omega)] at h
          exact h
        · rw [if_pos (by omega)] at h
          exact h
      · unfold shr at h
        rw [if_neg h1] at h
        exact h
  unfold p_X1_fillAt p_X1_fillAt_9
  simp (disch := omega) only [li_0, li_1, li_2, li_3, li_4, li_5, li_6, li_7, li_8, li_9, li_10, li_11, li_12, li_13, li_14, li_15, li_16, li_20, li_26, li_31, li_32, li_36, li_42, li_43, li_48, li_52, li_57, li_58, li_59, li_60, li_63, li_97, li_99, li_104, li_112, li_115, li_119, li_140, li_141, li_142, li_143, li_144, li_145, li_146, li_147, li_148, li_149, li_150, li_151, li_152, li_255, li_303, li_455, li_999, li_1000, li_1510, li_1820, li_2275, li_9999, li_10000, li_100000, li_1048575, li_100000000, vp_t, nI_clamp, nI_eqI, r4, hs, true_and, and_true, not_true_eq_false, not_false_eq_true, true_imp_iff, false_imp_iff, false_and, and_false, imp_false, Classical.not_not, Bool.false_eq_true, Nat.zero_ne_one, Nat.one_ne_zero, Nat.not_lt_zero, if_true, if_false, implies_true]
  have : s = 0 ∨ s = 1 := by omega
  rcases this with rfl | rfl
  · simp only [Nat.reduceEqDiff, true_and, and_true, not_true_eq_false, not_false_eq_true, true_imp_iff, false_imp_iff, false_and, and_false, imp_false, Classical.not_not, Bool.false_eq_true, Nat.zero_ne_one, Nat.one_ne_zero, Nat.not_lt_zero, if_true, if_false, implies_true]
    exact go
  · simp only [true_and, and_true, not_true_eq_false, not_false_eq_true, true_imp_iff, false_imp_iff, false_and, and_false, imp_false, Classical.not_not, Bool.false_eq_true, Nat.zero_ne_one, Nat.one_ne_zero, Nat.not_lt_zero, if_true, if_false, implies_true]
    exact go
theorem i_fill {X : Nat → List sE} {fs fl : Nat} {parts : Nat → Nat → Int32} {weights places : Nat → Int32} (R : relF X fs fl parts weights places) (hfs : fs < 2) {Q : Int32 → Prop} (h : Q (nI fl)) : p_X1_fill parts Q := by
  have a := (R 0 (by decide)).2.1
  have b := (R 1 (by decide)).2.1
  unfold p_X1_fill
  simp (disch := omega) only [li_0, li_1, li_2, li_3, li_4, li_5, li_6, li_7, li_8, li_9, li_10, li_11, li_12, li_13, li_14, li_15, li_16, li_20, li_26, li_31, li_32, li_36, li_42, li_43, li_48, li_52, li_57, li_58, li_59, li_60, li_63, li_97, li_99, li_104, li_112, li_115, li_119, li_140, li_141, li_142, li_143, li_144, li_145, li_146, li_147, li_148, li_149, li_150, li_151, li_152, li_255, li_303, li_455, li_999, li_1000, li_1510, li_1820, li_2275, li_9999, li_10000, li_100000, li_1048575, li_100000000, e_partOf, a, b, nI_add]
  have : fs = 0 ∨ fs = 1 := by omega
  rcases this with rfl | rfl
  · exact h
  · have e : (if 0 = 1 then fl else 0) + (if 1 = 1 then fl else 0) = fl := by simp
    rw [e]
    exact h
theorem e_weightOf {X : Nat → List sE} {fs fl : Nat} {parts : Nat → Nat → Int32} {weights places : Nat → Int32} (R : relF X fs fl parts weights places) {s : Nat} (hs : s < 2) {Q : Int32 → Prop} : p_X1_weightOf weights (nI s) Q ↔ Q (nI (ls eW (X s))) := by
  have a := (R s hs).2.2.1
  have e : ∃ x, 0 ≤ x ∧ x ≤ 1 ∧ nI s = nI x := ⟨s, by omega, by omega, rfl⟩
  unfold p_X1_weightOf
  simp (disch := omega) only [li_0, li_1, li_2, li_3, li_4, li_5, li_6, li_7, li_8, li_9, li_10, li_11, li_12, li_13, li_14, li_15, li_16, li_20, li_26, li_31, li_32, li_36, li_42, li_43, li_48, li_52, li_57, li_58, li_59, li_60, li_63, li_97, li_99, li_104, li_112, li_115, li_119, li_140, li_141, li_142, li_143, li_144, li_145, li_146, li_147, li_148, li_149, li_150, li_151, li_152, li_255, li_303, li_455, li_999, li_1000, li_1510, li_1820, li_2275, li_9999, li_10000, li_100000, li_1048575, li_100000000, e_isSide, e, nI_eqI, vp_t, nI_clamp, a, hs, true_and, and_true, not_true_eq_false, not_false_eq_true, true_imp_iff, false_imp_iff, false_and, and_false, imp_false, Classical.not_not, Bool.false_eq_true, Nat.zero_ne_one, Nat.one_ne_zero, Nat.not_lt_zero, if_true, if_false, implies_true]
/-- one way is better than another: even, less difference, less lines -/
def evn (X : Nat → List sE) (fs fl : Nat) : Nat := if tot X fs fl 0 = tot X fs fl 1 then 1 else 0
def btr (e d l e' d' l' : Nat) : Bool := if e = e' then (if d = d' then decide (l < l') else decide (d < d')) else decide (e = 1)
theorem tot_le {X : Nat → List sE} {fs fl : Nat} (hX : okX X) (hf : fl ≤ 225) {s : Nat} (hs : s < 2) : tot X fs fl s ≤ 450 := by
  have := (hX.b hs).1
  unfold tot
  split <;> omega
theorem lgs_le {X : Nat → List sE} {fs fl : Nat} (hX : okX X) (hf : fl ≤ 225) : lgs X fs fl ≤ 450 := by
  have a := tot_le (fs := fs) hX hf (s := 0) (by decide)
  have b := tot_le (fs := fs) hX hf (s := 1) (by decide)
  unfold lgs
  split <;> omega
theorem dif_le {X : Nat → List sE} (hX : okX X) : dif X ≤ 1000 := by
  have a := (hX.b (s := 0) (by decide)).2.1
  have b := (hX.b (s := 1) (by decide)).2.1
  unfold dif
  split <;> omega
theorem evn_le (X : Nat → List sE) (fs fl : Nat) : evn X fs fl ≤ 1 := by
  unfold evn
  split <;> omega
theorem i_isBetter {X Y : Nat → List sE} {fs fl gs gl : Nat} {parts parts' : Nat → Nat → Int32} {weights places weights' places' : Nat → Int32} (R : relF X fs fl parts weights places) (hX : okX X) (hf : fl ≤ 225) (R' : relF Y gs gl parts' weights' places') (hY : okX Y) (hg : gl ≤ 225) {Q : Int32 → Prop} (h1 : btr (evn X fs fl) (dif X) (lgs X fs fl) (evn Y gs gl) (dif Y) (lgs Y gs gl) = true → Q (nI 1)) (h0 : ¬ btr (evn X fs fl) (dif X) (lgs X fs fl) (evn Y gs gl) (dif Y) (lgs Y gs gl) = true → Q (nI 0)) : p_X1_isBetterThan parts weights parts' weights' Q := by
  have x1 := lgs_le (fs := fs) hX hf
  have y1 := lgs_le (fs := gs) hY hg
  have x2 := dif_le hX
  have y2 := dif_le hY
  have x3 := evn_le X fs fl
  have y3 := evn_le Y gs gl
  unfold p_X1_isBetterThan
  refine i_isEven R hX hf ?_
  refine i_isEven R' hY hg ?_
  show (nI (evn X fs fl) = nI (evn Y gs gl) → _) ∧ (¬ nI (evn X fs fl) = nI (evn Y gs gl) → _)
  unfold btr at h1 h0
  simp (disch := omega) only [nI_eqI, e_difference R hX, e_difference R' hY]
  refine ⟨fun e1 => ⟨fun e2 => ?_, fun e2 => ?_⟩, fun e1 => ?_⟩
  · refine i_longest R hX hf (i_longest R' hY hg ?_)
    simp (disch := omega) only [li_0, li_1, li_2, li_3, li_4, li_5, li_6, li_7, li_8, li_9, li_10, li_11, li_12, li_13, li_14, li_15, li_16, li_20, li_26, li_31, li_32, li_36, li_42, li_43, li_48, li_52, li_57, li_58, li_59, li_60, li_63, li_97, li_99, li_104, li_112, li_115, li_119, li_140, li_141, li_142, li_143, li_144, li_145, li_146, li_147, li_148, li_149, li_150, li_151, li_152, li_255, li_303, li_455, li_999, li_1000, li_1510, li_1820, li_2275, li_9999, li_10000, li_100000, li_1048575, li_100000000, nI_leI]
    rw [if_pos e1, if_pos e2] at h1 h0
    refine ⟨fun e3 => h0 ?_, fun e3 => h1 ?_⟩
    · rw [decide_eq_true_iff]
      omega
    · rw [decide_eq_true_iff]
      omega
  · simp (disch := omega) only [li_0, li_1, li_2, li_3, li_4, li_5, li_6, li_7, li_8, li_9, li_10, li_11, li_12, li_13, li_14, li_15, li_16, li_20, li_26, li_31, li_32, li_36, li_42, li_43, li_48, li_52, li_57, li_58, li_59, li_60, li_63, li_97, li_99, li_104, li_112, li_115, li_119, li_140, li_141, li_142, li_143, li_144, li_145, li_146, li_147, li_148, li_149, li_150, li_151, li_152, li_255, li_303, li_455, li_999, li_1000, li_1510, li_1820, li_2275, li_9999, li_10000, li_100000, li_1048575, li_100000000, nI_leI]
    rw [if_pos e1, if_neg e2] at h1 h0
    refine ⟨fun e3 => h0 ?_, fun e3 => h1 ?_⟩
    · rw [decide_eq_true_iff]
      omega
    · rw [decide_eq_true_iff]
      omega
  · refine i_isEven R hX hf ?_
    show Q (nI (evn X fs fl))
    rw [if_neg e1] at h1 h0
    by_cases e4 : evn X fs fl = 1
    · rw [e4]
      exact h1 (decide_eq_true e4)
    · have e5 : evn X fs fl = 0 := by omega
      rw [e5]
      exact h0 (fun e6 => e4 (of_decide_eq_true e6))

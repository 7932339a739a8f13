theorem a_dish {o : aO} {S : sS} {h : Nat → sS} {hz rl : Int32} (hG : Good0 o S h hz rl) {printing_dishes : Nat → Int32} {printing_lines : Nat → Int32} {printing_weights : Nat → Int32} {printing_set : Int32} {printing_number : Int32} {printing_prices : Int32} {printing_allergens : Int32} {printing_column : Int32} {fold_parts : Nat → Nat → Int32} {fold_weights : Nat → Int32} {fold_places : Nat → Int32} {fold_keySide : Int32} {fold_gap : Int32} {blocks_kinds : Nat → Int32} {blocks_numbers : Nat → Int32} {blocks_starts : Nat → Int32} {blocks_sizes : Nat → Int32} {blocks_blockCount : Int32} {blocks_end : Int32} {blocks_place : Int32} (a1 a2 : Int32) : p_X8_dish S printing_dishes printing_lines printing_weights printing_set printing_number printing_prices printing_allergens printing_column fold_parts fold_weights fold_places fold_keySide fold_gap blocks_kinds blocks_numbers blocks_starts blocks_sizes blocks_blockCount blocks_end blocks_place a1 a2 (fun (r : Int32) (_ : Nat → Int32) (_ : Nat → Int32) (_ : Nat → Int32) (_ : Int32) (_ : Int32) (_ : Int32) (_ : Int32) (_ : Int32) (_ : Nat → Nat → Int32) (_ : Nat → Int32) (_ : Nat → Int32) (_ : Int32) (_ : Int32) (_ : Nat → Int32) (_ : Nat → Int32) (_ : Nat → Int32) (_ : Nat → Int32) (_ : Int32) (_ : Int32) (_ : Int32) => sp_dish o a1 a2 r) := by
  obtain ⟨⟨⟨n, g, s, sd⟩, q0, q1⟩, L⟩ := o
  have hz2 : hz = nI L.length := hG.2.1
  have hr2 : rl = nI 0 := hG.2.2.2
  subst hz2 hr2
  have hS : rS S ((n, g, s, sd), q0, q1) := hG.1
  have hH : rH h L := hG.2.2.1
  have hM : rM S.1 (n, g, s, sd) := hS.1
  have hkk : S.2.2.2 = nI (snp q0 + 2 * snp q1) := hS.2.1
  have f0 : ∀ m, q0 = some m → rM S.2.1 m := hS.2.2.1
  have f1 : ∀ m, q1 = some m → rM S.2.2.1 m := hS.2.2.2
  have hg : okG n g := hM.1
  have ho : okS s := hM.2.1
  have hw : okW sd := hM.2.2.1
  have cn : S.1.2.2.1 = nI n := hM.2.2.2.1
  have cv : ∀ d k, d < 20 → k < 7 → S.1.1 (d * 7 + k) = nI (g d k) := hM.2.2.2.2.1
  have cst : ∀ k, k < 6 → S.1.2.1 k = nI (s k) := hM.2.2.2.2.2.1
  have cw : S.1.2.2.2 = nI (wy sd) := hM.2.2.2.2.2.2
  have hn : n ≤ 20 := hg.1
  have hX := wx_ok (prt g (s 2) (s 0) (s 5)) hg ho sd
  have hfl := fld_b hX (s 4)
  have hcol : clm (prt g (s 2) (s 0) (s 5)) g n ≤ 4 := dg_le _
  unfold p_X8_dish
  rw [cn]
  by_cases hd : ∃ d, d < n ∧ a1 = nI d
  · by_cases h8 : ∃ x, 0 ≤ x ∧ x ≤ 8 ∧ a2 = nI x
    · obtain ⟨d, hd1, rfl⟩ := id hd
      obtain ⟨q, _, hq, rfl⟩ := id h8
      have hd20 : d < 20 := by omega
      obtain ⟨b0, b1, b2, b3, b4, b5, b6⟩ := hg.b hd20
      have hm := mk_lt31 (prt g (s 2) (s 0) (s 5)) hn
      have htb := mk_tb (prt g (s 2) (s 0) (s 5)) n d
      have hsd : sd (g d 0) < 2 := Nat.lt_succ_of_le (hw (g d 0) (by omega))
      have htw := wy_tb hw (c := g d 0) (by omega)
      have hwy := wy_lt hw
      have hcnt := fun t => fd_wx (P := (prt g (s 2) (s 0) (s 5))) hg s sd (t := t) hd1
      have fin : ∀ r, (q < 7 → r = nI (g d q)) → (q = 7 → r = nI (if prt g (s 2) (s 0) (s 5) d = true then ln g (s 1) (clm (prt g (s 2) (s 0) (s 5)) g n) d else 0)) → (q = 8 → prt g (s 2) (s 0) (s 5) d = true → ∃ i, i < (wx (prt g (s 2) (s 0) (s 5)) n g s sd (sd (g d 0))).length ∧ eK (nt (wx (prt g (s 2) (s 0) (s 5)) n g s sd (sd (g d 0))) i) = 2 ∧ eN (nt (wx (prt g (s 2) (s 0) (s 5)) n g s sd (sd (g d 0))) i) = d ∧ r = nI (bgn (wx (prt g (s 2) (s 0) (s 5)) n g s sd (sd (g d 0))) (if sd (g d 0) = fsd (wx (prt g (s 2) (s 0) (s 5)) n g s sd) then fld (wx (prt g (s 2) (s 0) (s 5)) n g s sd) (s 4) else 0) i)) → (q = 8 → ¬ prt g (s 2) (s 0) (s 5) d = true → r = -nI 99) → sp_dish (((n, g, s, sd), q0, q1), L) (nI d) (nI q) r := by
        intro r k1 k2 k3 k4
        refine ⟨fun d' k h1 h2 e1 e2 => ?_, fun d' h1 e1 e2 => ?_, fun d' h1 e1 e2 => ?_, fun e1 => ?_⟩
        · have h1 : d' < n := h1
          obtain rfl := nI_i e1 (by omega) (by omega)
          obtain rfl := nI_i e2 (by omega) (by omega)
          exact k1 h2
        · have h1 : d' < n := h1
          obtain rfl := nI_i e1 (by omega) (by omega)
          exact k2 (nI_i e2 (by omega) (by omega))
        · have h1 : d' < n := h1
          obtain rfl := nI_i e1 (by omega) (by omega)
          have e3 := nI_i e2 (by omega) (by omega)
          exact ⟨fun hp => k3 e3 hp, fun hp => k4 e3 hp⟩
        · have := nI_i (show nI d = nI n from e1) (by omega) (by omega)
          omega
      simp (disch := omega) only [li_0, li_1, li_2, li_3, li_4, li_5, li_6, li_7, li_8, li_9, li_10, li_11, li_12, li_13, li_14, li_15, li_16, li_20, li_26, li_31, li_32, li_36, li_42, li_43, li_48, li_52, li_57, li_58, li_59, li_60, li_63, li_97, li_99, li_104, li_112, li_115, li_119, li_140, li_141, li_142, li_143, li_144, li_145, li_146, li_147, li_148, li_149, li_150, li_151, li_152, li_255, li_303, li_455, li_999, li_1000, li_1510, li_1820, li_2275, li_9999, li_10000, li_100000, li_1048575, li_100000000, e_hasDish, e_inRange, hd, h8, nI_eqI, nI_leI, Nat.one_ne_zero, true_and, and_true, not_true_eq_false, not_false_eq_true, true_imp_iff, false_imp_iff, false_and, and_false, imp_false, Classical.not_not, Bool.false_eq_true, Nat.zero_ne_one, Nat.one_ne_zero, Nat.not_lt_zero, if_true, if_false, implies_true]
      refine ⟨fun h7 => ?_, fun h7 => ?_⟩
      · refine i_layCard hg ho hw ⟨cn, cv, cst, cw⟩ ?_
        intro D' L' W' set num pri all col p1 w1 l1 hP R1
        obtain ⟨hPD, hPL, hPW, rfl, hP5, hP6, hP7, rfl⟩ := id hP
        by_cases hp : (prt g (s 2) (s 0) (s 5)) d = true
        · obtain ⟨i0, hi0, hi1, hi2⟩ := one_at (fdd_le d) (A := wx (prt g (s 2) (s 0) (s 5)) n g s sd (sd (g d 0))) (by rw [hcnt, if_pos ⟨hp, rfl⟩])
          have he := fdd_1.1 hi1
          simp (disch := omega) only [e_has, htb, hd1, hp, and_self, nI_eqI, Nat.one_ne_zero, true_and, and_true, not_true_eq_false, not_false_eq_true, true_imp_iff, false_imp_iff, false_and, and_false, imp_false, Classical.not_not, Bool.false_eq_true, Nat.zero_ne_one, Nat.one_ne_zero, Nat.not_lt_zero, if_true, if_false, implies_true]
          refine ⟨fun e => ?_, fun e => ?_⟩
          · unfold p_X8_firstLineOf
            simp (disch := omega) only [li_0, li_1, li_2, li_3, li_4, li_5, li_6, li_7, li_8, li_9, li_10, li_11, li_12, li_13, li_14, li_15, li_16, li_20, li_26, li_31, li_32, li_36, li_42, li_43, li_48, li_52, li_57, li_58, li_59, li_60, li_63, li_97, li_99, li_104, li_112, li_115, li_119, li_140, li_141, li_142, li_143, li_144, li_145, li_146, li_147, li_148, li_149, li_150, li_151, li_152, li_255, li_303, li_455, li_999, li_1000, li_1510, li_1820, li_2275, li_9999, li_10000, li_100000, li_1048575, li_100000000, e_valueOf cv]
            rw [cw, cn]
            simp (disch := omega) only [e_sideIn, htw]
            refine i_layB hg ho hw cv cst hP R1 hsd ?_
            intro k2 n2 s2 z2 en pl hB
            have hY := hX _ hsd
            refine i_blockOfDish hY.1 hY.2 (fun i hi => ⟨(hB i hi).1, (hB i hi).2.1⟩) hd20 hi0 he (fun i hi h2 => hi2 i hi (fdd_1.2 h2)) ?_
            have h25 : i0 < 25 := by have := hY.2; omega
            unfold p_X0_startOf
            rw [e_isBlock hi0 hY.2]
            simp (disch := omega) only [li_0, li_1, li_2, li_3, li_4, li_5, li_6, li_7, li_8, li_9, li_10, li_11, li_12, li_13, li_14, li_15, li_16, li_20, li_26, li_31, li_32, li_36, li_42, li_43, li_48, li_52, li_57, li_58, li_59, li_60, li_63, li_97, li_99, li_104, li_112, li_115, li_119, li_140, li_141, li_142, li_143, li_144, li_145, li_146, li_147, li_148, li_149, li_150, li_151, li_152, li_255, li_303, li_455, li_999, li_1000, li_1510, li_1820, li_2275, li_9999, li_10000, li_100000, li_1048575, li_100000000, nI_eqI, vp_t, nI_clamp, (hB i0 hi0).2.2.1, h25, Nat.one_ne_zero, true_and, and_true, not_true_eq_false, not_false_eq_true, true_imp_iff, false_imp_iff, false_and, and_false, imp_false, Classical.not_not, Bool.false_eq_true, Nat.zero_ne_one, Nat.one_ne_zero, Nat.not_lt_zero, if_true, if_false, implies_true]
            exact fin _ (fun _ => by omega) (fun e' => absurd e' e) (fun _ _ => ⟨i0, hi0, he.1, he.2, rfl⟩) (fun _ hn => absurd hp hn)
          · rw [e_linesOf cv cst hg ho hd20 hcol]
            exact fin _ (fun _ => by omega) (fun _ => by rw [if_pos hp]) (fun _ _ => by omega) (fun _ _ => by omega)
        · simp (disch := omega) only [e_has, htb, hp, and_false, nI_eqI, Nat.one_ne_zero, true_and, and_true, not_true_eq_false, not_false_eq_true, true_imp_iff, false_imp_iff, false_and, and_false, imp_false, Classical.not_not, Bool.false_eq_true, Nat.zero_ne_one, Nat.one_ne_zero, Nat.not_lt_zero, if_true, if_false, implies_true]
          refine ⟨fun e => ?_, fun e => ?_⟩
          · exact fin _ (fun _ => by omega) (fun e' => absurd e' e) (fun _ h => absurd h hp) (fun _ _ => rfl)
          · exact fin _ (fun _ => by omega) (fun _ => by rw [if_neg hp]) (fun _ h => absurd h hp) (fun _ _ => by omega)
      · have hq7 : q < 7 := by omega
        rw [e_valueOf cv hd20 hq7]
        exact fin _ (fun _ => rfl) (fun _ => by omega) (fun _ _ => by omega) (fun _ _ => by omega)
    · simp (disch := omega) only [li_0, li_1, li_2, li_3, li_4, li_5, li_6, li_7, li_8, li_9, li_10, li_11, li_12, li_13, li_14, li_15, li_16, li_20, li_26, li_31, li_32, li_36, li_42, li_43, li_48, li_52, li_57, li_58, li_59, li_60, li_63, li_97, li_99, li_104, li_112, li_115, li_119, li_140, li_141, li_142, li_143, li_144, li_145, li_146, li_147, li_148, li_149, li_150, li_151, li_152, li_255, li_303, li_455, li_999, li_1000, li_1510, li_1820, li_2275, li_9999, li_10000, li_100000, li_1048575, li_100000000, e_hasDish, e_inRange, hd, h8, nI_eqI, Nat.one_ne_zero, true_and, and_true, not_true_eq_false, not_false_eq_true, true_imp_iff, false_imp_iff, false_and, and_false, imp_false, Classical.not_not, Bool.false_eq_true, Nat.zero_ne_one, Nat.one_ne_zero, Nat.not_lt_zero, if_true, if_false, implies_true]
      exact ⟨fun d k h1 h2 e1 e2 => absurd ⟨k, by omega, by omega, e2⟩ h8, fun d h1 e1 e2 => absurd ⟨7, by omega, by omega, e2⟩ h8, fun d h1 e1 e2 => absurd ⟨8, by omega, by omega, e2⟩ h8, fun _ => rfl⟩
  · simp (disch := omega) only [li_0, li_1, li_2, li_3, li_4, li_5, li_6, li_7, li_8, li_9, li_10, li_11, li_12, li_13, li_14, li_15, li_16, li_20, li_26, li_31, li_32, li_36, li_42, li_43, li_48, li_52, li_57, li_58, li_59, li_60, li_63, li_97, li_99, li_104, li_112, li_115, li_119, li_140, li_141, li_142, li_143, li_144, li_145, li_146, li_147, li_148, li_149, li_150, li_151, li_152, li_255, li_303, li_455, li_999, li_1000, li_1510, li_1820, li_2275, li_9999, li_10000, li_100000, li_1048575, li_100000000, e_hasDish, hd, nI_eqI, Nat.one_ne_zero, true_and, and_true, not_true_eq_false, not_false_eq_true, true_imp_iff, false_imp_iff, false_and, and_false, imp_false, Classical.not_not, Bool.false_eq_true, Nat.zero_ne_one, Nat.one_ne_zero, Nat.not_lt_zero, if_true, if_false, implies_true]
    exact ⟨fun d k h1 h2 e1 e2 => absurd ⟨d, h1, e1⟩ hd, fun d h1 e1 e2 => absurd ⟨d, h1, e1⟩ hd, fun d h1 e1 e2 => absurd ⟨d, h1, e1⟩ hd, fun _ => rfl⟩
theorem tb_not {a k : Nat} (ha : a < 2 ^ 31) (hk : k < 20) : tb ((nI a ^^^ (-nI 1)).toBitVec.toNat) k = 1 ↔ ¬ tb a k = 1 := by
  rw [tb_test, tb_test]
  have h1 : (-nI 1 : Int32).toBitVec = BitVec.allOnes 32 := by decide
  have h2 : (nI a).toBitVec.toNat = a := by
    show (BitVec.ofNat 32 a).toNat = a
    rw [BitVec.toNat_ofNat]
    exact Nat.mod_eq_of_lt (by omega)
  have h3 : (nI a ^^^ (-nI 1)).toBitVec = (nI a).toBitVec ^^^ BitVec.allOnes 32 := by
    rw [← h1]
    rfl
  have h4 : ((BitVec.allOnes 32).toNat).testBit k = true := by
    rw [BitVec.toNat_allOnes, Nat.testBit_two_pow_sub_one]
    exact decide_eq_true (by omega)
  rw [h3, BitVec.toNat_xor, Nat.testBit_xor, h2, h4]
  cases a.testBit k <;> simp
theorem tb_and {x y k : Nat} : tb (x &&& y) k = 1 ↔ tb x k = 1 ∧ tb y k = 1 := by
  rw [tb_test, tb_test, tb_test, Nat.testBit_and, Bool.and_eq_true]
theorem a_replacement {o : aO} {S : sS} {h : Nat → sS} {hz rl : Int32} (hG : Good0 o S h hz rl) {draft_values : Nat → Int32} {draft_settings : Nat → Int32} {draft_dishes : Int32} {draft_way : Int32} {printing_dishes : Nat → Int32} {printing_lines : Nat → Int32} {printing_weights : Nat → Int32} {printing_set : Int32} {printing_number : Int32} {printing_prices : Int32} {printing_allergens : Int32} {printing_column : Int32} (a1 : Int32) : p_X8_replacement S draft_values draft_settings draft_dishes draft_way printing_dishes printing_lines printing_weights printing_set printing_number printing_prices printing_allergens printing_column a1 (fun (r : Int32) (_ : Nat → Int32) (_ : Nat → Int32) (_ : Int32) (_ : Int32) (_ : Nat → Int32) (_ : Nat → Int32) (_ : Nat → Int32) (_ : Int32) (_ : Int32) (_ : Int32) (_ : Int32) (_ : Int32) => sp_replacement o a1 r) := by
  obtain ⟨⟨⟨n, g, s, sd⟩, q0, q1⟩, L⟩ := o
  have hz2 : hz = nI L.length := hG.2.1
  have hr2 : rl = nI 0 := hG.2.2.2
  subst hz2 hr2
  have hS : rS S ((n, g, s, sd), q0, q1) := hG.1
  have hH : rH h L := hG.2.2.1
  have hM : rM S.1 (n, g, s, sd) := hS.1
  have hkk : S.2.2.2 = nI (snp q0 + 2 * snp q1) := hS.2.1
  have f0 : ∀ m, q0 = some m → rM S.2.1 m := hS.2.2.1
  have f1 : ∀ m, q1 = some m → rM S.2.2.1 m := hS.2.2.2
  have hg : okG n g := hM.1
  have ho : okS s := hM.2.1
  have hw : okW sd := hM.2.2.1
  have cn : S.1.2.2.1 = nI n := hM.2.2.2.1
  have cv : ∀ d k, d < 20 → k < 7 → S.1.1 (d * 7 + k) = nI (g d k) := hM.2.2.2.2.1
  have cst : ∀ k, k < 6 → S.1.2.1 k = nI (s k) := hM.2.2.2.2.2.1
  have cw : S.1.2.2.2 = nI (wy sd) := hM.2.2.2.2.2.2
  have hn : n ≤ 20 := hg.1
  unfold p_X8_replacement
  rw [cn]
  by_cases hd : ∃ d, d < n ∧ a1 = nI d
  · obtain ⟨d, hd1, rfl⟩ := id hd
    have hd20 : d < 20 := by omega
    have hm := mk_lt31 (prt g (s 2) (s 0) (s 5)) hn
    have ht := mk_tb (prt g (s 2) (s 0) (s 5)) n d
    have h6 : okD (nI 6) (nI 0) := okD_i (by decide) (Nat.zero_le _) (Nat.zero_le _)
    have fin : ∀ r, (¬ prt g (s 2) (s 0) (s 5) d = true → r = -nI 2) → (prt g (s 2) (s 0) (s 5) d = true → r = -nI 99 ∨ ∃ e, e < n ∧ r = nI e ∧ elg g (s 0) (s 5) e = true ∧ ¬ prt g (s 2) (s 0) (s 5) e = true) → sp_replacement (((n, g, s, sd), q0, q1), L) (nI d) r := by
      intro r k1 k2
      refine ⟨fun d' h1 e1 => ?_, fun e1 => ?_⟩
      · have h1 : d' < n := h1
        obtain rfl := nI_i e1 (by omega) (by omega)
        exact ⟨k1, k2⟩
      · have := nI_i (show nI d = nI n from e1) (by omega) (by omega)
        omega
    simp (disch := omega) only [li_0, li_1, li_2, li_3, li_4, li_5, li_6, li_7, li_8, li_9, li_10, li_11, li_12, li_13, li_14, li_15, li_16, li_20, li_26, li_31, li_32, li_36, li_42, li_43, li_48, li_52, li_57, li_58, li_59, li_60, li_63, li_97, li_99, li_104, li_112, li_115, li_119, li_140, li_141, li_142, li_143, li_144, li_145, li_146, li_147, li_148, li_149, li_150, li_151, li_152, li_255, li_303, li_455, li_999, li_1000, li_1510, li_1820, li_2275, li_9999, li_10000, li_100000, li_1048575, li_100000000, e_hasDish, hd, nI_eqI, Nat.one_ne_zero, true_and, and_true, not_true_eq_false, not_false_eq_true, true_imp_iff, false_imp_iff, false_and, and_false, imp_false, Classical.not_not, Bool.false_eq_true, Nat.zero_ne_one, Nat.one_ne_zero, Nat.not_lt_zero, if_true, if_false, implies_true]
    refine i_findPrinted cv cst hg ho ?_
    intro D' L' W' set num pri all col hP
    obtain ⟨_, _, _, rfl, _, _, _, _⟩ := hP
    by_cases hp : prt g (s 2) (s 0) (s 5) d = true
    · simp (disch := omega) only [e_has, ht, hd1, hp, and_self, nI_eqI, e_copyFrom, e_change, h6, Nat.one_ne_zero, true_and, and_true, not_true_eq_false, not_false_eq_true, true_imp_iff, false_imp_iff, false_and, and_false, imp_false, Classical.not_not, Bool.false_eq_true, Nat.zero_ne_one, Nat.one_ne_zero, Nat.not_lt_zero, if_true, if_false, implies_true]
      have hg' : okG n (fun d' k' => if d' = d ∧ k' = 6 then 0 else g d' k') := by
        refine ⟨hn, fun d' k' a b => ?_, fun d' a => ?_⟩
        · show (if d' = d ∧ k' = 6 then 0 else g d' k') ≤ hiD k'
          split
          · exact Nat.zero_le _
          · exact hg.2.1 d' k' a b
        · show 1 ≤ (if d' = d ∧ 2 = 6 then 0 else g d' 2)
          rw [if_neg (by omega)]
          exact hg.2.2 d' a
      obtain ⟨cn2, cv2, cst2, cw2⟩ := relC_cpy (v := draft_values) (st := draft_settings) (show relC n g s sd S.1.1 S.1.2.1 S.1.2.2.1 S.1.2.2.2 from ⟨cn, cv, cst, cw⟩)
      have cv3 : ∀ d' k', d' < 20 → k' < 7 → upd (va_cpy S.1.1 draft_values 0 0 140) (d * 7 + 6) (nI 0) (d' * 7 + k') = nI ((fun d' k' => if d' = d ∧ k' = 6 then 0 else g d' k') d' k') := by
        intro d' k' a b
        show _ = nI (if d' = d ∧ k' = 6 then 0 else g d' k')
        by_cases e : d' = d ∧ k' = 6
        · rw [if_pos e, e.1, e.2]
          exact pk_us
        · rw [if_neg e, pk_un (by omega)]
          exact cv2 d' k' a b
      refine i_findPrinted cv3 cst2 hg' ho ?_
      intro D2 L2 W2 set2 num2 pri2 all2 col2 hP2
      obtain ⟨_, _, _, rfl, _, _, _, _⟩ := hP2
      have hmk2 := mk_lt (prt (fun d' k' => if d' = d ∧ k' = 6 then 0 else g d' k') (s 2) (s 0) (s 5)) n
      have hmk3 := mk_lt31 (prt (fun d' k' => if d' = d ∧ k' = 6 then 0 else g d' k') (s 2) (s 0) (s 5)) hn
      have hax := e_andX (mk (prt (fun d' k' => if d' = d ∧ k' = 6 then 0 else g d' k') (s 2) (s 0) (s 5)) n) (nI (mk (prt g (s 2) (s 0) (s 5)) n) ^^^ (-nI 1))
      have hle := Nat.and_le_left (n := mk (prt (fun d' k' => if d' = d ∧ k' = 6 then 0 else g d' k') (s 2) (s 0) (s 5)) n) (m := (nI (mk (prt g (s 2) (s 0) (s 5)) n) ^^^ (-nI 1)).toBitVec.toNat)
      have hbit : ∀ k, k < 20 → tb (mk (prt (fun d' k' => if d' = d ∧ k' = 6 then 0 else g d' k') (s 2) (s 0) (s 5)) n &&& (nI (mk (prt g (s 2) (s 0) (s 5)) n) ^^^ (-nI 1)).toBitVec.toNat) k = 1 → k < n ∧ elg g (s 0) (s 5) k = true ∧ ¬ prt g (s 2) (s 0) (s 5) k = true := by
        intro k hk hb
        obtain ⟨b1, b2⟩ := tb_and.1 hb
        obtain ⟨b3, b4⟩ := mk_tb1.1 b1
        rw [tb_not (by omega) hk] at b2
        have b5 := (prt_iff.1 b4).1
        have b6 := elg_iff.1 b5
        have b7 : (if k = d ∧ 6 = 6 then 0 else g k 6) = 1 := b6.1
        have hkd : ¬ k = d := fun e => by
          rw [if_pos ⟨e, rfl⟩] at b7
          omega
        rw [if_neg (fun q => hkd q.1)] at b7
        refine ⟨b3, elg_iff.2 ⟨b7, ?_⟩, fun hpk => b2 (mk_tb1.2 ⟨b3, hpk⟩)⟩
        have b8 := mayB_iff.1 b6.2
        refine mayB_iff.2 ⟨?_, ?_⟩
        · have b9 : tb (if k = d ∧ 3 = 6 then 0 else g k 3) (s 0) = 1 := b8.1
          rw [if_neg (by omega)] at b9
          exact b9
        · have b9 : (if k = d ∧ 4 = 6 then 0 else g k 4) &&& s 5 = 0 := b8.2
          rw [if_neg (by omega)] at b9
          exact b9
      generalize (mk (prt (fun d' k' => if d' = d ∧ k' = 6 then 0 else g d' k') (s 2) (s 0) (s 5)) n &&& (nI (mk (prt g (s 2) (s 0) (s 5)) n) ^^^ (-nI 1)).toBitVec.toNat) = m at hax hle hbit
      unfold p_X8_smallestIn
      simp only [li_0, li_1, li_2, li_3, li_4, li_5, li_6, li_7, li_8, li_9, li_10, li_11, li_12, li_13, li_14, li_15, li_16, li_20, li_26, li_31, li_32, li_36, li_42, li_43, li_48, li_52, li_57, li_58, li_59, li_60, li_63, li_97, li_99, li_104, li_112, li_115, li_119, li_140, li_141, li_142, li_143, li_144, li_145, li_146, li_147, li_148, li_149, li_150, li_151, li_152, li_255, li_303, li_455, li_999, li_1000, li_1510, li_1820, li_2275, li_9999, li_10000, li_100000, li_1048575, li_100000000]
      rw [hax]
      by_cases he : ∃ k, k < 20 ∧ tb m k = 1
      · obtain ⟨k, hk20, hk1⟩ := he
        obtain ⟨k, hk1, hk2⟩ := least (p := fun k => tb m k = 1) hk1
        have hkn : k < n := by
          by_cases e : k < n
          · exact e
          · have := tb_big (m := m) (n := n) (k := k) (by omega) (by omega)
            omega
        have hk0 : ∀ j, j < k → tb m j = 0 := fun j hj => by
          have a := tb_lt m j
          have b := hk2 j hj
          omega
        refine i_memberOf (by omega) (by omega) hk1 (sm_zero hk0) ?_
        exact fin _ (fun q => absurd hp q) (fun _ => Or.inr ⟨k, hkn, rfl, (hbit k (by omega) hk1).2.1, (hbit k (by omega) hk1).2.2⟩)
      · have hk0 : ∀ k, k < 20 → tb m k = 0 := fun j hj => by
          have a := tb_lt m j
          by_cases e : tb m j = 1
          · exact absurd ⟨j, hj, e⟩ he
          · omega
        refine i_memberNone (by omega) hk0 ?_
        exact fin _ (fun q => absurd hp q) (fun _ => Or.inl rfl)
    · simp (disch := omega) only [e_has, ht, hp, and_false, nI_eqI, Nat.one_ne_zero, true_and, and_true, not_true_eq_false, not_false_eq_true, true_imp_iff, false_imp_iff, false_and, and_false, imp_false, Classical.not_not, Bool.false_eq_true, Nat.zero_ne_one, Nat.one_ne_zero, Nat.not_lt_zero, if_true, if_false, implies_true]
      exact fin _ (fun _ => rfl) (fun q => absurd q hp)
  · simp (disch := omega) only [li_0, li_1, li_2, li_3, li_4, li_5, li_6, li_7, li_8, li_9, li_10, li_11, li_12, li_13, li_14, li_15, li_16, li_20, li_26, li_31, li_32, li_36, li_42, li_43, li_48, li_52, li_57, li_58, li_59, li_60, li_63, li_97, li_99, li_104, li_112, li_115, li_119, li_140, li_141, li_142, li_143, li_144, li_145, li_146, li_147, li_148, li_149, li_150, li_151, li_152, li_255, li_303, li_455, li_999, li_1000, li_1510, li_1820, li_2275, li_9999, li_10000, li_100000, li_1048575, li_100000000, e_hasDish, hd, nI_eqI, Nat.one_ne_zero, true_and, and_true, not_true_eq_false, not_false_eq_true, true_imp_iff, false_imp_iff, false_and, and_false, imp_false, Classical.not_not, Bool.false_eq_true, Nat.zero_ne_one, Nat.one_ne_zero, Nat.not_lt_zero, if_true, if_false, implies_true]
    exact ⟨fun d h1 e => absurd ⟨d, h1, e⟩ hd, fun _ => rfl⟩
theorem a_load {o : aO} {S : sS} {h : Nat → sS} {hz rl : Int32} (hG : Good0 o S h hz rl) {draft_values : Nat → Int32} {draft_settings : Nat → Int32} {reader_text : Nat → Int32} {reader_item : Nat → Int32} {reader_errorAt : Int32} : p_X8_load S h hz draft_values draft_settings reader_text reader_item rl reader_errorAt (fun (r : Int32) (S' : sS) (h' : Nat → sS) (hz' : Int32) (_ : Nat → Int32) (_ : Nat → Int32) (_ : Int32) (_ : Int32) (_ : Nat → Int32) (rl' : Int32) (_ : Int32) (_ : Int32) => ∃ o' : aO, Good0 o' S' h' hz' rl' ∧ sp_load o  r o') := by
  obtain ⟨⟨⟨n, g, s, sd⟩, q0, q1⟩, L⟩ := o
  have hz2 : hz = nI L.length := hG.2.1
  have hr2 : rl = nI 0 := hG.2.2.2
  subst hz2 hr2
  have hS : rS S ((n, g, s, sd), q0, q1) := hG.1
  have hH : rH h L := hG.2.2.1
  have hM : rM S.1 (n, g, s, sd) := hS.1
  have hkk : S.2.2.2 = nI (snp q0 + 2 * snp q1) := hS.2.1
  have f0 : ∀ m, q0 = some m → rM S.2.1 m := hS.2.2.1
  have f1 : ∀ m, q1 = some m → rM S.2.2.1 m := hS.2.2.2
  have hg : okG n g := hM.1
  have ho : okS s := hM.2.1
  have hw : okW sd := hM.2.2.1
  have cn : S.1.2.2.1 = nI n := hM.2.2.2.1
  have cv : ∀ d k, d < 20 → k < 7 → S.1.1 (d * 7 + k) = nI (g d k) := hM.2.2.2.2.1
  have cst : ∀ k, k < 6 → S.1.2.1 k = nI (s k) := hM.2.2.2.2.2.1
  have cw : S.1.2.2.2 = nI (wy sd) := hM.2.2.2.2.2.2
  have hn : n ≤ 20 := hg.1
  unfold p_X8_load
  refine e_copyFrom.2 ?_
  unfold p_X5_readInto p_X5_readInto_7
  refine ⟨fun _ a _ v d x => a = 0 ∧ v = va_cpy S.1.1 draft_values 0 0 140 ∧ d = S.1.2.2.1 ∧ x = 0, fun _ _ _ _ _ _ => 0, ⟨rfl, rfl, rfl, rfl⟩, ?_⟩
  rintro i a e v d x ⟨rfl, rfl, rfl, rfl⟩
  unfold q_X5_readInto_7
  refine ⟨fun h => absurd h (by decide), fun _ => ?_⟩
  unfold p_X5_nextSign p_X5_nextSign_0
  refine ⟨fun a => a = 0, fun _ => 0, rfl, ?_⟩
  rintro a rfl
  unfold q_X5_nextSign_0
  refine ⟨fun _ => ⟨fun h => absurd rfl h, fun _ => ?_⟩, fun h => absurd (by decide) h⟩
  refine ⟨fun _ => ?_, fun h => absurd (by decide) h⟩
  refine j_record hH hS ?_
  intro h' hH'
  refine e_copyFrom.2 ?_
  exact ⟨_, good_act (o := (((n, g, s, sd), q0, q1), L)) (m' := (n, g, s, sd)) hS hH' (rM_cpy (v := S.1.1) (st := S.1.2.1) (rM_cpy (v := draft_values) (st := draft_settings) hM)), rfl, rfl⟩
theorem bgn_s (A : List sE) (a i : Nat) : bgn A a (i + 1) = bgn A a i + eL (nt A i) + fil A a (i + 1) + eS (nt A (i + 1)) := by
  have h : sm (fun k => fil A a k + eA (nt A k)) (i + 1) = sm (fun k => fil A a k + eA (nt A k)) i + (fil A a i + eA (nt A i)) := rfl
  unfold bgn
  rw [h]
  unfold eA
  omega
theorem bgn_m {A : List sE} {a i : Nat} : ∀ {j : Nat}, i < j → bgn A a i + eL (nt A i) ≤ bgn A a j
  | 0, h => absurd h (Nat.not_lt_zero _)
  | j + 1, h => by
    rw [bgn_s]
    by_cases e : i = j
    · subst e
      omega
    · have := bgn_m (A := A) (a := a) (i := i) (j := j) (by omega)
      omega
theorem hit_one {Y : List sE} (hY : okL Y) {a x i j : Nat} (hi : i < Y.length) (hj : j < Y.length) (h1 : hit Y a x i) (h2 : hit Y a x j) : i = j := by
  have o1 := (hY.1 _ (nt_mem hi)).2.2.2.1
  have o2 := (hY.1 _ (nt_mem hj)).2.2.2.1
  obtain ⟨a1, a2⟩ := h1
  obtain ⟨b1, b2⟩ := h2
  by_cases c1 : i < j
  · have := bgn_m (A := Y) (a := a) c1
    omega
  · by_cases c2 : j < i
    · have := bgn_m (A := Y) (a := a) c2
      omega
    · omega
theorem a_line {o : aO} {S : sS} {h : Nat → sS} {hz rl : Int32} (hG : Good0 o S h hz rl) {printing_dishes : Nat → Int32} {printing_lines : Nat → Int32} {printing_weights : Nat → Int32} {printing_set : Int32} {printing_number : Int32} {printing_prices : Int32} {printing_allergens : Int32} {printing_column : Int32} {fold_parts : Nat → Nat → Int32} {fold_weights : Nat → Int32} {fold_places : Nat → Int32} {fold_keySide : Int32} {fold_gap : Int32} {blocks_kinds : Nat → Int32} {blocks_numbers : Nat → Int32} {blocks_starts : Nat → Int32} {blocks_sizes : Nat → Int32} {blocks_blockCount : Int32} {blocks_end : Int32} {blocks_place : Int32} (a1 a2 a3 : Int32) : p_X8_line S printing_dishes printing_lines printing_weights printing_set printing_number printing_prices printing_allergens printing_column fold_parts fold_weights fold_places fold_keySide fold_gap blocks_kinds blocks_numbers blocks_starts blocks_sizes blocks_blockCount blocks_end blocks_place a1 a2 a3 (fun (r : Int32) (_ : Nat → Int32) (_ : Nat → Int32) (_ : Nat → Int32) (_ : Int32) (_ : Int32) (_ : Int32) (_ : Int32) (_ : Int32) (_ : Nat → Nat → Int32) (_ : Nat → Int32) (_ : Nat → Int32) (_ : Int32) (_ : Int32) (_ : Nat → Int32) (_ : Nat → Int32) (_ : Nat → Int32) (_ : Nat → Int32) (_ : Int32) (_ : Int32) (_ : Int32) => sp_line o a1 a2 a3 r) := by
  obtain ⟨⟨⟨n, g, s, sd⟩, q0, q1⟩, L⟩ := o
  have hz2 : hz = nI L.length := hG.2.1
  have hr2 : rl = nI 0 := hG.2.2.2
  subst hz2 hr2
  have hS : rS S ((n, g, s, sd), q0, q1) := hG.1
  have hH : rH h L := hG.2.2.1
  have hM : rM S.1 (n, g, s, sd) := hS.1
  have hkk : S.2.2.2 = nI (snp q0 + 2 * snp q1) := hS.2.1
  have f0 : ∀ m, q0 = some m → rM S.2.1 m := hS.2.2.1
  have f1 : ∀ m, q1 = some m → rM S.2.2.1 m := hS.2.2.2
  have hg : okG n g := hM.1
  have ho : okS s := hM.2.1
  have hw : okW sd := hM.2.2.1
  have cn : S.1.2.2.1 = nI n := hM.2.2.2.1
  have cv : ∀ d k, d < 20 → k < 7 → S.1.1 (d * 7 + k) = nI (g d k) := hM.2.2.2.2.1
  have cst : ∀ k, k < 6 → S.1.2.1 k = nI (s k) := hM.2.2.2.2.2.1
  have cw : S.1.2.2.2 = nI (wy sd) := hM.2.2.2.2.2.2
  have hn : n ≤ 20 := hg.1
  have hX := wx_ok (prt g (s 2) (s 0) (s 5)) hg ho sd
  have hfl := fld_b hX (s 4)
  have hcol : clm (prt g (s 2) (s 0) (s 5)) g n ≤ 4 := dg_le _
  have hky := kyl_lt (prt g (s 2) (s 0) (s 5)) hg hn
  have hpcm := (pc_mark _ hky).1
  have m1 : ∀ k, k < 100 → ¬ nI k = -nI 1 := by decide +kernel
  unfold p_X8_line
  by_cases h1 : ∃ x, 0 ≤ x ∧ x ≤ 1 ∧ a1 = nI x
  · rcases sg a2 with hneg | ⟨x, hx, rfl⟩
    · have hneg2 := sg_lt hneg (n := 0) (by decide)
      have hbad : sp_line (((n, g, s, sd), q0, q1), L) a1 a2 a3 (-nI 1) := by
        refine ⟨fun t x q _ hx _ _ e _ => ?_, fun _ _ _ => rfl, fun _ _ _ => rfl⟩
        rw [e, nI_ltI (by omega) (by omega)] at hneg
        omega
      simp (disch := omega) only [li_0, li_1, li_2, li_3, li_4, li_5, li_6, li_7, li_8, li_9, li_10, li_11, li_12, li_13, li_14, li_15, li_16, li_20, li_26, li_31, li_32, li_36, li_42, li_43, li_48, li_52, li_57, li_58, li_59, li_60, li_63, li_97, li_99, li_104, li_112, li_115, li_119, li_140, li_141, li_142, li_143, li_144, li_145, li_146, li_147, li_148, li_149, li_150, li_151, li_152, li_255, li_303, li_455, li_999, li_1000, li_1510, li_1820, li_2275, li_9999, li_10000, li_100000, li_1048575, li_100000000, e_isSide, h1, hneg, hneg2.2.2.1, nI_eqI, Nat.one_ne_zero, true_and, and_true, not_true_eq_false, not_false_eq_true, true_imp_iff, false_imp_iff, false_and, and_false, imp_false, Classical.not_not, Bool.false_eq_true, Nat.zero_ne_one, Nat.one_ne_zero, Nat.not_lt_zero, if_true, if_false, implies_true]
      exact hbad
    · by_cases h3 : ∃ x, 0 ≤ x ∧ x ≤ 5 ∧ a3 = nI x
      · obtain ⟨t, _, ht1, rfl⟩ := id h1
        obtain ⟨q, _, hq, rfl⟩ := id h3
        have ht : t < 2 := by omega
        have hY := hX t ht
        have hap : (if t = fsd (wx (prt g (s 2) (s 0) (s 5)) n g s sd) then fld (wx (prt g (s 2) (s 0) (s 5)) n g s sd) (s 4) else 0) ≤ 225 := by split <;> omega
        have htot := tot_le (fs := fsd (wx (prt g (s 2) (s 0) (s 5)) n g s sd)) hX hfl ht
        have fin0 : ∀ r, ((tot (wx (prt g (s 2) (s 0) (s 5)) n g s sd) (fsd (wx (prt g (s 2) (s 0) (s 5)) n g s sd)) (fld (wx (prt g (s 2) (s 0) (s 5)) n g s sd) (s 4)) t ≤ x → r = -nI 99) ∧ (x < tot (wx (prt g (s 2) (s 0) (s 5)) n g s sd) (fsd (wx (prt g (s 2) (s 0) (s 5)) n g s sd)) (fld (wx (prt g (s 2) (s 0) (s 5)) n g s sd) (s 4)) t → (∀ i, i < ((wx (prt g (s 2) (s 0) (s 5)) n g s sd) t).length → hit ((wx (prt g (s 2) (s 0) (s 5)) n g s sd) t) (if t = fsd (wx (prt g (s 2) (s 0) (s 5)) n g s sd) then fld (wx (prt g (s 2) (s 0) (s 5)) n g s sd) (s 4) else 0) x i → ∃ kk, r = tlv g (s 1) (clm (prt g (s 2) (s 0) (s 5)) g n) (kyl (prt g (s 2) (s 0) (s 5)) g n) kk (nt ((wx (prt g (s 2) (s 0) (s 5)) n g s sd) t) i) (x - bgn ((wx (prt g (s 2) (s 0) (s 5)) n g s sd) t) (if t = fsd (wx (prt g (s 2) (s 0) (s 5)) n g s sd) then fld (wx (prt g (s 2) (s 0) (s 5)) n g s sd) (s 4) else 0) i) q) ∧ ((∀ i, i < ((wx (prt g (s 2) (s 0) (s 5)) n g s sd) t).length → ¬ hit ((wx (prt g (s 2) (s 0) (s 5)) n g s sd) t) (if t = fsd (wx (prt g (s 2) (s 0) (s 5)) n g s sd) then fld (wx (prt g (s 2) (s 0) (s 5)) n g s sd) (s 4) else 0) x i) → r = if q = 1 then -nI 99 else nI 0))) → sp_line (((n, g, s, sd), q0, q1), L) (nI t) (nI x) (nI q) r := by
          intro r hr
          refine ⟨fun t' x' q' c1 c2 c3 e1 e2 e3 => ?_, fun _ e _ => ?_, fun _ _ e => ?_⟩
          · obtain rfl := nI_i e1 (by omega) (by omega)
            obtain rfl := nI_i e2 (by omega) (by omega)
            obtain rfl := nI_i e3 (by omega) (by omega)
            exact hr
          · have := nI_toInt (n := x) (by omega)
            rw [e] at this
            have h2 : (-nI 1 : Int32).toInt = -1 := by decide
            omega
          · have := nI_i e (by omega) (by omega)
            omega
        simp (disch := omega) only [li_0, li_1, li_2, li_3, li_4, li_5, li_6, li_7, li_8, li_9, li_10, li_11, li_12, li_13, li_14, li_15, li_16, li_20, li_26, li_31, li_32, li_36, li_42, li_43, li_48, li_52, li_57, li_58, li_59, li_60, li_63, li_97, li_99, li_104, li_112, li_115, li_119, li_140, li_141, li_142, li_143, li_144, li_145, li_146, li_147, li_148, li_149, li_150, li_151, li_152, li_255, li_303, li_455, li_999, li_1000, li_1510, li_1820, li_2275, li_9999, li_10000, li_100000, li_1048575, li_100000000, e_isSide, e_inRange, h1, h3, c_pos, nI_eqI, Nat.one_ne_zero, true_and, and_true, not_true_eq_false, not_false_eq_true, true_imp_iff, false_imp_iff, false_and, and_false, imp_false, Classical.not_not, Bool.false_eq_true, Nat.zero_ne_one, Nat.one_ne_zero, Nat.not_lt_zero, if_true, if_false, implies_true]
        refine i_layCard hg ho hw ⟨cn, cv, cst, cw⟩ ?_
        intro D' L' W' set num pri all col p1 w1 l1 hP R1
        obtain ⟨hPD, hPL, hPW, rfl, hP5, hP6, rfl, rfl⟩ := id hP
        refine i_linesOf R1 hX ht ?_
        rw [nI_ltI hx (by omega)]
        refine ⟨fun hlt => ?_, fun hge => ?_⟩
        · rw [cn, cw]
          refine i_layB hg ho hw cv cst hP R1 ht ?_
          intro k2 n2 s2 z2 en pl hB
          have hN : ∃ N, N ≤ ((wx (prt g (s 2) (s 0) (s 5)) n g s sd) t).length ∧ (∀ j, j < N → ¬ hit ((wx (prt g (s 2) (s 0) (s 5)) n g s sd) t) (if t = fsd (wx (prt g (s 2) (s 0) (s 5)) n g s sd) then fld (wx (prt g (s 2) (s 0) (s 5)) n g s sd) (s 4) else 0) x j) ∧ (N < ((wx (prt g (s 2) (s 0) (s 5)) n g s sd) t).length → hit ((wx (prt g (s 2) (s 0) (s 5)) n g s sd) t) (if t = fsd (wx (prt g (s 2) (s 0) (s 5)) n g s sd) then fld (wx (prt g (s 2) (s 0) (s 5)) n g s sd) (s 4) else 0) x N) := by
            by_cases e : ∃ i, i < ((wx (prt g (s 2) (s 0) (s 5)) n g s sd) t).length ∧ hit ((wx (prt g (s 2) (s 0) (s 5)) n g s sd) t) (if t = fsd (wx (prt g (s 2) (s 0) (s 5)) n g s sd) then fld (wx (prt g (s 2) (s 0) (s 5)) n g s sd) (s 4) else 0) x i
            · obtain ⟨i, hi⟩ := e
              obtain ⟨i, hi, hi2⟩ := least (p := fun i => i < ((wx (prt g (s 2) (s 0) (s 5)) n g s sd) t).length ∧ hit ((wx (prt g (s 2) (s 0) (s 5)) n g s sd) t) (if t = fsd (wx (prt g (s 2) (s 0) (s 5)) n g s sd) then fld (wx (prt g (s 2) (s 0) (s 5)) n g s sd) (s 4) else 0) x i) hi
              exact ⟨i, Nat.le_of_lt hi.1, fun j hj hh => hi2 j hj ⟨by omega, hh⟩, fun _ => hi.2⟩
            · exact ⟨_, Nat.le_refl _, fun j hj hh => e ⟨j, hj, hh⟩, fun e2 => absurd e2 (Nat.lt_irrefl _)⟩
          obtain ⟨N, hN1, hN2, hN3⟩ := hN
          refine i_blockAt hY.1 hY.2 hap hx (fun i hi => ⟨(hB i hi).2.2.1, (hB i hi).2.2.2⟩) hN1 hN2 hN3 ?_
          unfold p_X0_kindOf p_X0_numberOf p_X0_startOf
          by_cases hNl : N = ((wx (prt g (s 2) (s 0) (s 5)) n g s sd) t).length
          · rw [if_pos hNl]
            have none : ∀ r, (r = if q = 1 then -nI 99 else nI 0) → sp_line (((n, g, s, sd), q0, q1), L) (nI t) (nI x) (nI q) r := fun r hr => fin0 r ⟨fun e => absurd hlt (by omega), fun _ => ⟨fun i hi hh => absurd hh (hN2 i (by omega)), fun _ => hr⟩⟩
            simp only [e_noBlock]
            simp (disch := omega) only [li_0, li_1, li_2, li_3, li_4, li_5, li_6, li_7, li_8, li_9, li_10, li_11, li_12, li_13, li_14, li_15, li_16, li_20, li_26, li_31, li_32, li_36, li_42, li_43, li_48, li_52, li_57, li_58, li_59, li_60, li_63, li_97, li_99, li_104, li_112, li_115, li_119, li_140, li_141, li_142, li_143, li_144, li_145, li_146, li_147, li_148, li_149, li_150, li_151, li_152, li_255, li_303, li_455, li_999, li_1000, li_1510, li_1820, li_2275, li_9999, li_10000, li_100000, li_1048575, li_100000000, nI_eqI, Nat.zero_ne_one, Nat.reduceEqDiff, true_and, and_true, not_true_eq_false, not_false_eq_true, true_imp_iff, false_imp_iff, false_and, and_false, imp_false, Classical.not_not, Bool.false_eq_true, Nat.zero_ne_one, Nat.one_ne_zero, Nat.not_lt_zero, if_true, if_false, implies_true]
            refine ⟨fun q0' => ⟨fun q1' => ?_, fun q1' => ?_⟩, fun q0' => ?_⟩
            · exact none _ (by rw [if_neg q1'])
            · exact none _ (by rw [if_pos q1'])
            · exact none _ (by rw [if_neg (by omega)])
          · rw [if_neg hNl]
            have hNlt : N < ((wx (prt g (s 2) (s 0) (s 5)) n g s sd) t).length := by omega
            have hl25 := hY.2
            have h25 : N < 25 := by omega
            obtain ⟨B1, B2, B3, B4⟩ := hB N hNlt
            have hE := hY.1.1 _ (nt_mem hNlt)
            obtain ⟨o1, o2, o3, o4, o5, o6, o7, o8, o9⟩ := id hE
            have hb := bgn_le hY.1 hY.2 hap hNlt
            obtain ⟨hh1, hh2⟩ := hN3 hNlt
            simp (disch := omega) only [e_isBlock hNlt hl25, li_0, li_1, li_2, li_3, li_4, li_5, li_6, li_7, li_8, li_9, li_10, li_11, li_12, li_13, li_14, li_15, li_16, li_20, li_26, li_31, li_32, li_36, li_42, li_43, li_48, li_52, li_57, li_58, li_59, li_60, li_63, li_97, li_99, li_104, li_112, li_115, li_119, li_140, li_141, li_142, li_143, li_144, li_145, li_146, li_147, li_148, li_149, li_150, li_151, li_152, li_255, li_303, li_455, li_999, li_1000, li_1510, li_1820, li_2275, li_9999, li_10000, li_100000, li_1048575, li_100000000, nI_eqI, vp_t, nI_clamp, B1, B2, B3, h25, pk_sub, Nat.one_ne_zero, true_and, and_true, not_true_eq_false, not_false_eq_true, true_imp_iff, false_imp_iff, false_and, and_false, imp_false, Classical.not_not, Bool.false_eq_true, Nat.zero_ne_one, Nat.one_ne_zero, Nat.not_lt_zero, if_true, if_false, implies_true]
            have hal := al_wx (T := fun e => (eK e = 2 → eL e = ln g (s 1) (clm (prt g (s 2) (s 0) (s 5)) g n) (eN e)) ∧ (eK e = 3 → eL e = (pc (kyl (prt g (s 2) (s 0) (s 5)) g n) + 2) / 3)) (P := (prt g (s 2) (s 0) (s 5))) (n := n) (g := g) (s := s) (sd := sd) (t := t) (fun c => ⟨fun e => absurd e (by show ¬ 1 = 2; omega), fun e => absurd e (by show ¬ 1 = 3; omega)⟩) (fun d sp w p => ⟨fun _ => rfl, fun e => absurd e (by show ¬ 2 = 3; omega)⟩) ⟨fun e => absurd e (by show ¬ 3 = 2; omega), fun _ => rfl⟩ _ (nt_mem hNlt)
            generalize hwi : x - bgn ((wx (prt g (s 2) (s 0) (s 5)) n g s sd) t) (if t = fsd (wx (prt g (s 2) (s 0) (s 5)) n g s sd) then fld (wx (prt g (s 2) (s 0) (s 5)) n g s sd) (s 4) else 0) N = w at *
            have hw1 : w < eL (nt ((wx (prt g (s 2) (s 0) (s 5)) n g s sd) t) N) := by omega
            have hkk : ∃ kk, eK (nt ((wx (prt g (s 2) (s 0) (s 5)) n g s sd) t) N) = 3 → kk < 20 ∧ tb (kyl (prt g (s 2) (s 0) (s 5)) g n) kk = 1 ∧ sm (fun j => tb (kyl (prt g (s 2) (s 0) (s 5)) g n) j) kk = 3 * w ∧ 3 * w ≤ pc (kyl (prt g (s 2) (s 0) (s 5)) g n) := by
              by_cases e : eK (nt ((wx (prt g (s 2) (s 0) (s 5)) n g s sd) t) N) = 3
              · have e2 := hal.2 e
                have e3 : 3 * w < pc (kyl (prt g (s 2) (s 0) (s 5)) g n) := by omega
                obtain ⟨kk, a1, a2, a3⟩ := ivt (f := fun j => tb (kyl (prt g (s 2) (s 0) (s 5)) g n) j) (fun k => Nat.le_of_lt_succ (tb_lt _ k)) (N := 20) e3
                exact ⟨kk, fun _ => ⟨a1, a2, a3, Nat.le_of_lt e3⟩⟩
              · exact ⟨0, fun e2 => absurd e2 e⟩
            obtain ⟨kk, hkk⟩ := hkk
            have fin : ∀ r, r = tlv g (s 1) (clm (prt g (s 2) (s 0) (s 5)) g n) (kyl (prt g (s 2) (s 0) (s 5)) g n) kk (nt ((wx (prt g (s 2) (s 0) (s 5)) n g s sd) t) N) w q → sp_line (((n, g, s, sd), q0, q1), L) (nI t) (nI x) (nI q) r := by
              intro r hr
              refine fin0 r ⟨fun e => absurd hlt (by omega), fun _ => ⟨fun i hi hh => ⟨kk, ?_⟩, fun hno => absurd (hN3 hNlt) (hno N hNlt)⟩⟩
              have hiN : i = N := hit_one hY.1 hi hNlt hh (hN3 hNlt)
              subst hiN
              rw [hwi]
              exact hr
            refine ⟨fun q0' => ⟨fun e => ?_, fun e => ?_, fun e => ?_, fun e1 e2 e3 => absurd e1 (by omega)⟩, fun q0' => ?_⟩
            · exact i_headingLine (g := g) (wid := s 1) (col := clm (prt g (s 2) (s 0) (s 5)) g n) (ky := kyl (prt g (s 2) (s 0) (s 5)) g n) (kk := kk) hE e (by omega) hq q0' (fin _ rfl)
            · exact i_dishLine (ky := kyl (prt g (s 2) (s 0) (s 5)) g n) (kk := kk) cv cst hg ho hcol hE e (hal.1 e) hw1 hq q0' (fin _ rfl)
            · exact i_keyLine (g := g) (wid := s 1) (col := clm (prt g (s 2) (s 0) (s 5)) g n) hky e (by omega) hq q0' (hkk e) (fin _ rfl)
            · subst q0'
              exact fin _ rfl
        · exact fin0 _ ⟨fun _ => rfl, fun e => absurd e hge⟩
      · simp (disch := omega) only [li_0, li_1, li_2, li_3, li_4, li_5, li_6, li_7, li_8, li_9, li_10, li_11, li_12, li_13, li_14, li_15, li_16, li_20, li_26, li_31, li_32, li_36, li_42, li_43, li_48, li_52, li_57, li_58, li_59, li_60, li_63, li_97, li_99, li_104, li_112, li_115, li_119, li_140, li_141, li_142, li_143, li_144, li_145, li_146, li_147, li_148, li_149, li_150, li_151, li_152, li_255, li_303, li_455, li_999, li_1000, li_1510, li_1820, li_2275, li_9999, li_10000, li_100000, li_1048575, li_100000000, e_isSide, e_inRange, h1, h3, c_pos, nI_eqI, Nat.one_ne_zero, true_and, and_true, not_true_eq_false, not_false_eq_true, true_imp_iff, false_imp_iff, false_and, and_false, imp_false, Classical.not_not, Bool.false_eq_true, Nat.zero_ne_one, Nat.one_ne_zero, Nat.not_lt_zero, if_true, if_false, implies_true]
        exact ⟨fun t x q _ _ hq _ _ e => absurd ⟨q, Nat.zero_le _, hq, e⟩ h3, fun _ _ _ => rfl, fun _ _ _ => rfl⟩
  · simp (disch := omega) only [li_0, li_1, li_2, li_3, li_4, li_5, li_6, li_7, li_8, li_9, li_10, li_11, li_12, li_13, li_14, li_15, li_16, li_20, li_26, li_31, li_32, li_36, li_42, li_43, li_48, li_52, li_57, li_58, li_59, li_60, li_63, li_97, li_99, li_104, li_112, li_115, li_119, li_140, li_141, li_142, li_143, li_144, li_145, li_146, li_147, li_148, li_149, li_150, li_151, li_152, li_255, li_303, li_455, li_999, li_1000, li_1510, li_1820, li_2275, li_9999, li_10000, li_100000, li_1048575, li_100000000, e_isSide, h1, nI_eqI, Nat.one_ne_zero, true_and, and_true, not_true_eq_false, not_false_eq_true, true_imp_iff, false_imp_iff, false_and, and_false, imp_false, Classical.not_not, Bool.false_eq_true, Nat.zero_ne_one, Nat.one_ne_zero, Nat.not_lt_zero, if_true, if_false, implies_true]
    exact ⟨fun t x q ht _ _ e _ _ => absurd ⟨t, Nat.zero_le _, by omega, e⟩ h1, fun _ _ _ => rfl, fun _ _ _ => rfl⟩

theorem mk_tb1 {P : Nat → Bool} {n d : Nat} : tb (mk P n) d = 1 ↔ d < n ∧ P d = true := by
  rw [mk_tb]
  by_cases c : d < n ∧ P d = true
  · rw [if_pos c]
    exact ⟨fun _ => c, fun _ => rfl⟩
  · rw [if_neg c]
    exact ⟨fun h => absurd h (by decide), fun h => absurd h c⟩
theorem spc_n : ∀ j, j < 16 → ¬ nI j = -nI 1 ∧ ¬ nI j = nI 16 := by decide +kernel
theorem spc {o : aO} {a r : Int32} (j : Nat) (hj : j < 15) (ha : a = nI j) (hr : r = cnt o j) : sp_count o a r := by
  subst ha
  refine ⟨fun k hk _ e => ?_, fun e => ?_⟩
  · obtain rfl := nI_i e (by omega) (by omega)
    exact hr
  · have := spc_n j (by omega)
    exact absurd e (fun q => q.elim this.1 this.2)
theorem spcN {o : aO} {a r : Int32} (j : Nat) (hj : j = 13 ∨ j = 15) (ha : a = nI j) : sp_count o a r := by
  subst ha
  refine ⟨fun k hk h13 e => ?_, fun e => ?_⟩
  · have := nI_i e (by omega) (by omega)
    omega
  · have := spc_n j (by omega)
    exact absurd e (fun q => q.elim this.1 this.2)
theorem a_count {o : aO} {S : sS} {h : Nat → sS} {hz rl : Int32} (hG : Good0 o S h hz rl) {printing_dishes : Nat → Int32} {printing_lines : Nat → Int32} {printing_weights : Nat → Int32} {fold_parts : Nat → Nat → Int32} {fold_weights : Nat → Int32} {fold_places : Nat → Int32} (a1 : Int32) : p_X8_count S hz rl printing_dishes printing_lines printing_weights fold_parts fold_weights fold_places a1 (fun (r : Int32) (_ : Nat → Int32) (_ : Nat → Int32) (_ : Nat → Int32) (_ : Int32) (_ : Int32) (_ : Int32) (_ : Int32) (_ : Int32) (_ : Nat → Nat → Int32) (_ : Nat → Int32) (_ : Nat → Int32) (_ : Int32) (_ : Int32) => sp_count o a1 r) := by
  obtain ⟨⟨⟨n, g, s, sd⟩, q0, q1⟩, L⟩ := o
  have hz2 : hz = nI L.length := hG.2.1
  have hr2 : rl = nI 0 := hG.2.2.2
  subst hz2 hr2
  have hS : rS S ((n, g, s, sd), q0, q1) := hG.1
  have hH : rH h L := hG.2.2.1
  have hM : rM S.1 (n, g, s, sd) := hS.1
  have hkk : S.2.2.2 = nI (snp q0 + 2 * snp q1) := hS.2.1
  have f0 : ∀ m, q0 = some m → rM S.2.1 m := hS.2.2.1
  have f1 : ∀ m, q1 = some m → rM S.2.2.1 m := hS.2.2.2
  have hg : okG n g := hM.1
  have ho : okS s := hM.2.1
  have hw : okW sd := hM.2.2.1
  have cn : S.1.2.2.1 = nI n := hM.2.2.2.1
  have cv : ∀ d k, d < 20 → k < 7 → S.1.1 (d * 7 + k) = nI (g d k) := hM.2.2.2.2.1
  have cst : ∀ k, k < 6 → S.1.2.1 k = nI (s k) := hM.2.2.2.2.2.1
  have cw : S.1.2.2.2 = nI (wy sd) := hM.2.2.2.2.2.2
  have hn : n ≤ 20 := hg.1
  have hX := wx_ok (prt g (s 2) (s 0) (s 5)) hg ho sd
  have hfl := fld_b hX (s 4)
  have hfs := fsd_lt (wx (prt g (s 2) (s 0) (s 5)) n g s sd)
  have hky := kyl_lt (prt g (s 2) (s 0) (s 5)) hg hn
  have hev := evn_le (wx (prt g (s 2) (s 0) (s 5)) n g s sd) (fsd (wx (prt g (s 2) (s 0) (s 5)) n g s sd)) (fld (wx (prt g (s 2) (s 0) (s 5)) n g s sd) (s 4))
  unfold p_X8_count
  refine i_layCard hg ho hw ⟨cn, cv, cst, cw⟩ ?_
  intro D' L' W' set num pri all col p1 w1 l1 hP R1
  obtain ⟨_, _, _, rfl, rfl, rfl, rfl, rfl⟩ := hP
  refine ⟨fun e => ?_, fun e => ?_, fun e => ?_, fun e => ?_, fun e => ?_, fun e => ?_, fun e => ?_, fun e => ?_, fun e => ?_, fun e => ?_, fun e => ?_, fun e => ?_, fun e => ?_, fun e => ?_, fun e => ?_, fun e => ?_, fun e0 e1 e2 e3 e4 e5 e6 e7 e8 e9 e10 e11 e12 e13 e14 e15 => ?_⟩
  · unfold p_X3_size
    exact spc 0 (by decide) e cn
  · exact spc 1 (by decide) e rfl
  · refine i_linesOf R1 hX (s := 0) (by decide) ?_
    exact spc 2 (by decide) e rfl
  · refine i_linesOf R1 hX (s := 1) (by decide) ?_
    exact spc 3 (by decide) e rfl
  · refine (e_weightOf R1 (s := 0) (by decide)).2 ?_
    exact spc 4 (by decide) e rfl
  · refine (e_weightOf R1 (s := 1) (by decide)).2 ?_
    exact spc 5 (by decide) e rfl
  · exact spc 6 (by decide) e rfl
  · rw [e_bitCount hky]
    exact spc 7 (by decide) e rfl
  · exact spc 8 (by decide) e rfl
  · exact spc 9 (by decide) e rfl
  · refine i_fill R1 hfs ?_
    exact spc 10 (by decide) e rfl
  · refine i_isEven R1 hX hfl ?_
    show (nI (evn (wx (prt g (s 2) (s 0) (s 5)) n g s sd) (fsd (wx (prt g (s 2) (s 0) (s 5)) n g s sd)) (fld (wx (prt g (s 2) (s 0) (s 5)) n g s sd) (s 4))) = nI 0 → _) ∧ (¬ nI (evn (wx (prt g (s 2) (s 0) (s 5)) n g s sd) (fsd (wx (prt g (s 2) (s 0) (s 5)) n g s sd)) (fld (wx (prt g (s 2) (s 0) (s 5)) n g s sd) (s 4))) = nI 0 → _)
    rw [nI_eqI (by omega) (by omega)]
    refine ⟨fun q => ?_, fun q => ?_⟩
    · exact spc 11 (by decide) e (show nI 0 = nI (evn (wx (prt g (s 2) (s 0) (s 5)) n g s sd) (fsd (wx (prt g (s 2) (s 0) (s 5)) n g s sd)) (fld (wx (prt g (s 2) (s 0) (s 5)) n g s sd) (s 4))) from by rw [q])
    · exact spc 11 (by decide) e (show nI 1 = nI (evn (wx (prt g (s 2) (s 0) (s 5)) n g s sd) (fsd (wx (prt g (s 2) (s 0) (s 5)) n g s sd)) (fld (wx (prt g (s 2) (s 0) (s 5)) n g s sd) (s 4))) from by rw [show evn (wx (prt g (s 2) (s 0) (s 5)) n g s sd) (fsd (wx (prt g (s 2) (s 0) (s 5)) n g s sd)) (fld (wx (prt g (s 2) (s 0) (s 5)) n g s sd) (s 4)) = 1 by omega])
  · exact spc 12 (by decide) e rfl
  · unfold p_J6_bitCount_0f7a4
    exact spcN 13 (Or.inl rfl) e
  · exact spc 14 (by decide) e rfl
  · exact spcN 15 (Or.inr rfl) e
  · refine ⟨fun k hk _ e => ?_, fun _ => rfl⟩
    subst e
    have : k = 0 ∨ k = 1 ∨ k = 2 ∨ k = 3 ∨ k = 4 ∨ k = 5 ∨ k = 6 ∨ k = 7 ∨ k = 8 ∨ k = 9 ∨ k = 10 ∨ k = 11 ∨ k = 12 ∨ k = 13 ∨ k = 14 := by omega
    rcases this with rfl | rfl | rfl | rfl | rfl | rfl | rfl | rfl | rfl | rfl | rfl | rfl | rfl | rfl | rfl
    · exact absurd rfl e0
    · exact absurd rfl e1
    · exact absurd rfl e2
    · exact absurd rfl e3
    · exact absurd rfl e4
    · exact absurd rfl e5
    · exact absurd rfl e6
    · exact absurd rfl e7
    · exact absurd rfl e8
    · exact absurd rfl e9
    · exact absurd rfl e10
    · exact absurd rfl e11
    · exact absurd rfl e12
    · exact absurd rfl e13
    · exact absurd rfl e14
theorem a_card {o : aO} {S : sS} {h : Nat → sS} {hz rl : Int32} (hG : Good0 o S h hz rl) (a1 : Int32) : p_X8_card S a1 (fun (r : Int32)  => sp_card o a1 r) := by
  obtain ⟨⟨⟨n, g, s, sd⟩, q0, q1⟩, L⟩ := o
  have hz2 : hz = nI L.length := hG.2.1
  have hr2 : rl = nI 0 := hG.2.2.2
  subst hz2 hr2
  have hS : rS S ((n, g, s, sd), q0, q1) := hG.1
  have hH : rH h L := hG.2.2.1
  have hM : rM S.1 (n, g, s, sd) := hS.1
  have hkk : S.2.2.2 = nI (snp q0 + 2 * snp q1) := hS.2.1
  have f0 : ∀ m, q0 = some m → rM S.2.1 m := hS.2.2.1
  have f1 : ∀ m, q1 = some m → rM S.2.2.1 m := hS.2.2.2
  have hg : okG n g := hM.1
  have ho : okS s := hM.2.1
  have hw : okW sd := hM.2.2.1
  have cn : S.1.2.2.1 = nI n := hM.2.2.2.1
  have cv : ∀ d k, d < 20 → k < 7 → S.1.1 (d * 7 + k) = nI (g d k) := hM.2.2.2.2.1
  have cst : ∀ k, k < 6 → S.1.2.1 k = nI (s k) := hM.2.2.2.2.2.1
  have cw : S.1.2.2.2 = nI (wy sd) := hM.2.2.2.2.2.2
  have hn : n ≤ 20 := hg.1
  have hwy := wy_lt hw
  unfold p_X8_card
  by_cases h9 : ∃ x, 0 ≤ x ∧ x ≤ 9 ∧ a1 = nI x
  · obtain ⟨x, _, hx, rfl⟩ := id h9
    have fin : ∀ r, (x < 6 → r = nI (s x)) → (6 ≤ x → r = nI (sd (x - 6))) → sp_card (((n, g, s, sd), q0, q1), L) (nI x) r := by
      intro r h1 h2
      refine ⟨fun k hk e => ?_, fun c hc e => ?_, fun e => ?_⟩
      · obtain rfl := nI_i e (by omega) (by omega)
        exact h1 hk
      · obtain rfl := nI_i e (by omega) (by omega)
        have := h2 (by omega)
        rw [show 6 + c - 6 = c by omega] at this
        exact this
      · have := nI_i e (by omega) (by omega)
        omega
    simp (disch := omega) only [li_0, li_1, li_2, li_3, li_4, li_5, li_6, li_7, li_8, li_9, li_10, li_11, li_12, li_13, li_14, li_15, li_16, li_20, li_26, li_31, li_32, li_36, li_42, li_43, li_48, li_52, li_57, li_58, li_59, li_60, li_63, li_97, li_99, li_104, li_112, li_115, li_119, li_140, li_141, li_142, li_143, li_144, li_145, li_146, li_147, li_148, li_149, li_150, li_151, li_152, li_255, li_303, li_455, li_999, li_1000, li_1510, li_1820, li_2275, li_9999, li_10000, li_100000, li_1048575, li_100000000, e_inRangeN, nI_eqI, true_and, and_true, not_true_eq_false, not_false_eq_true, true_imp_iff, false_imp_iff, false_and, and_false, imp_false, Classical.not_not, Bool.false_eq_true, Nat.zero_ne_one, Nat.one_ne_zero, Nat.not_lt_zero, if_true, if_false, implies_true]
    refine ⟨fun h1 => ?_, fun h1 => ?_⟩
    · rw [e_setting cst (by omega)]
      exact fin _ (fun _ => rfl) (fun q => by omega)
    · have h2 : 6 ≤ x ∧ x ≤ 9 := by omega
      have htb := wy_tb hw (c := x - 6) (by omega)
      simp (disch := omega) only [li_0, li_1, li_2, li_3, li_4, li_5, li_6, li_7, li_8, li_9, li_10, li_11, li_12, li_13, li_14, li_15, li_16, li_20, li_26, li_31, li_32, li_36, li_42, li_43, li_48, li_52, li_57, li_58, li_59, li_60, li_63, li_97, li_99, li_104, li_112, li_115, li_119, li_140, li_141, li_142, li_143, li_144, li_145, li_146, li_147, li_148, li_149, li_150, li_151, li_152, li_255, li_303, li_455, li_999, li_1000, li_1510, li_1820, li_2275, li_9999, li_10000, li_100000, li_1048575, li_100000000, h2, cw, pk_sub, e_sideIn, htb, nI_eqI, and_self, true_and, and_true, not_true_eq_false, not_false_eq_true, true_imp_iff, false_imp_iff, false_and, and_false, imp_false, Classical.not_not, Bool.false_eq_true, Nat.zero_ne_one, Nat.one_ne_zero, Nat.not_lt_zero, if_true, if_false, implies_true]
      exact fin _ (fun q => by omega) (fun _ => rfl)
  · have h5 : ¬ ∃ x, 0 ≤ x ∧ x ≤ 5 ∧ a1 = nI x := by
      rintro ⟨x, _, h1, rfl⟩
      exact h9 ⟨x, by omega, by omega, rfl⟩
    have h6 : ¬ ∃ x, 6 ≤ x ∧ x ≤ 9 ∧ a1 = nI x := by
      rintro ⟨x, _, h1, rfl⟩
      exact h9 ⟨x, by omega, by omega, rfl⟩
    simp (disch := omega) only [li_0, li_1, li_2, li_3, li_4, li_5, li_6, li_7, li_8, li_9, li_10, li_11, li_12, li_13, li_14, li_15, li_16, li_20, li_26, li_31, li_32, li_36, li_42, li_43, li_48, li_52, li_57, li_58, li_59, li_60, li_63, li_97, li_99, li_104, li_112, li_115, li_119, li_140, li_141, li_142, li_143, li_144, li_145, li_146, li_147, li_148, li_149, li_150, li_151, li_152, li_255, li_303, li_455, li_999, li_1000, li_1510, li_1820, li_2275, li_9999, li_10000, li_100000, li_1048575, li_100000000, e_inRange, h9, h5, h6, nI_eqI, true_and, and_true, not_true_eq_false, not_false_eq_true, true_imp_iff, false_imp_iff, false_and, and_false, imp_false, Classical.not_not, Bool.false_eq_true, Nat.zero_ne_one, Nat.one_ne_zero, Nat.not_lt_zero, if_true, if_false, implies_true]
    exact ⟨fun k hk e => absurd ⟨k, by omega, by omega, e⟩ h9, fun c hc e => absurd ⟨6 + c, by omega, by omega, e⟩ h9, fun _ => rfl⟩
theorem a_account {o : aO} {S : sS} {h : Nat → sS} {hz rl : Int32} (hG : Good0 o S h hz rl) {printing_dishes : Nat → Int32} {printing_lines : Nat → Int32} {printing_weights : Nat → Int32} {printing_set : Int32} {printing_number : Int32} {printing_prices : Int32} {printing_allergens : Int32} {printing_column : Int32} {fold_parts : Nat → Nat → Int32} {fold_weights : Nat → Int32} {fold_places : Nat → Int32} {fold_keySide : Int32} {fold_gap : Int32} (a1 a2 : Int32) : p_X8_account S printing_dishes printing_lines printing_weights printing_set printing_number printing_prices printing_allergens printing_column fold_parts fold_weights fold_places fold_keySide fold_gap a1 a2 (fun (r : Int32) (_ : Nat → Int32) (_ : Nat → Int32) (_ : Nat → Int32) (_ : Int32) (_ : Int32) (_ : Int32) (_ : Int32) (_ : Int32) (_ : Nat → Nat → Int32) (_ : Nat → Int32) (_ : Nat → Int32) (_ : Int32) (_ : Int32) => sp_account o a1 a2 r) := by
  obtain ⟨⟨⟨n, g, s, sd⟩, q0, q1⟩, L⟩ := o
  have hz2 : hz = nI L.length := hG.2.1
  have hr2 : rl = nI 0 := hG.2.2.2
  subst hz2 hr2
  have hS : rS S ((n, g, s, sd), q0, q1) := hG.1
  have hH : rH h L := hG.2.2.1
  have hM : rM S.1 (n, g, s, sd) := hS.1
  have hkk : S.2.2.2 = nI (snp q0 + 2 * snp q1) := hS.2.1
  have f0 : ∀ m, q0 = some m → rM S.2.1 m := hS.2.2.1
  have f1 : ∀ m, q1 = some m → rM S.2.2.1 m := hS.2.2.2
  have hg : okG n g := hM.1
  have ho : okS s := hM.2.1
  have hw : okW sd := hM.2.2.1
  have cn : S.1.2.2.1 = nI n := hM.2.2.2.1
  have cv : ∀ d k, d < 20 → k < 7 → S.1.1 (d * 7 + k) = nI (g d k) := hM.2.2.2.2.1
  have cst : ∀ k, k < 6 → S.1.2.1 k = nI (s k) := hM.2.2.2.2.2.1
  have cw : S.1.2.2.2 = nI (wy sd) := hM.2.2.2.2.2.2
  have hn : n ≤ 20 := hg.1
  unfold p_X8_account
  by_cases h1 : ∃ x, 0 ≤ x ∧ x ≤ 1 ∧ a1 = nI x
  · by_cases h2 : ∃ x, 0 ≤ x ∧ x ≤ 4 ∧ a2 = nI x
    · obtain ⟨t, _, ht, rfl⟩ := id h1
      obtain ⟨p, _, hp, rfl⟩ := id h2
      simp (disch := omega) only [li_0, li_1, li_2, li_3, li_4, li_5, li_6, li_7, li_8, li_9, li_10, li_11, li_12, li_13, li_14, li_15, li_16, li_20, li_26, li_31, li_32, li_36, li_42, li_43, li_48, li_52, li_57, li_58, li_59, li_60, li_63, li_97, li_99, li_104, li_112, li_115, li_119, li_140, li_141, li_142, li_143, li_144, li_145, li_146, li_147, li_148, li_149, li_150, li_151, li_152, li_255, li_303, li_455, li_999, li_1000, li_1510, li_1820, li_2275, li_9999, li_10000, li_100000, li_1048575, li_100000000, e_isSide, e_inRange, h1, h2, nI_eqI, Nat.one_ne_zero, true_and, and_true, not_true_eq_false, not_false_eq_true, true_imp_iff, false_imp_iff, false_and, and_false, imp_false, Classical.not_not, Bool.false_eq_true, Nat.zero_ne_one, Nat.one_ne_zero, Nat.not_lt_zero, if_true, if_false, implies_true]
      refine i_layCard hg ho hw ⟨cn, cv, cst, cw⟩ ?_
      intro D' L' W' set num pri all col p1 w1 l1 hP R1
      have hX := wx_ok (prt g (s 2) (s 0) (s 5)) hg ho sd
      rw [e_partOf (by omega) (by omega)]
      obtain ⟨r1, r2, r3, r4⟩ := R1 t (by omega)
      refine ⟨fun t' p' a b e1 e2 => ?_, fun t' a e1 e2 => ?_, fun e1 e2 => ?_⟩
      · obtain rfl := nI_i e1 (by omega) (by omega)
        obtain rfl := nI_i e2 (by omega) (by omega)
        exact r1 p b
      · obtain rfl := nI_i e1 (by omega) (by omega)
        obtain rfl := nI_i e2 (by omega) (by omega)
        exact r2
      · have := nI_i e2 (by omega) (by omega)
        omega
    · simp (disch := omega) only [li_0, li_1, li_2, li_3, li_4, li_5, li_6, li_7, li_8, li_9, li_10, li_11, li_12, li_13, li_14, li_15, li_16, li_20, li_26, li_31, li_32, li_36, li_42, li_43, li_48, li_52, li_57, li_58, li_59, li_60, li_63, li_97, li_99, li_104, li_112, li_115, li_119, li_140, li_141, li_142, li_143, li_144, li_145, li_146, li_147, li_148, li_149, li_150, li_151, li_152, li_255, li_303, li_455, li_999, li_1000, li_1510, li_1820, li_2275, li_9999, li_10000, li_100000, li_1048575, li_100000000, e_isSide, e_inRange, h1, h2, nI_eqI, Nat.one_ne_zero, true_and, and_true, not_true_eq_false, not_false_eq_true, true_imp_iff, false_imp_iff, false_and, and_false, imp_false, Classical.not_not, Bool.false_eq_true, Nat.zero_ne_one, Nat.one_ne_zero, Nat.not_lt_zero, if_true, if_false, implies_true]
      exact ⟨fun t p a b e1 e2 => absurd ⟨p, by omega, by omega, e2⟩ h2, fun t a e1 e2 => absurd ⟨4, by omega, by omega, e2⟩ h2, fun _ _ => rfl⟩
  · simp (disch := omega) only [li_0, li_1, li_2, li_3, li_4, li_5, li_6, li_7, li_8, li_9, li_10, li_11, li_12, li_13, li_14, li_15, li_16, li_20, li_26, li_31, li_32, li_36, li_42, li_43, li_48, li_52, li_57, li_58, li_59, li_60, li_63, li_97, li_99, li_104, li_112, li_115, li_119, li_140, li_141, li_142, li_143, li_144, li_145, li_146, li_147, li_148, li_149, li_150, li_151, li_152, li_255, li_303, li_455, li_999, li_1000, li_1510, li_1820, li_2275, li_9999, li_10000, li_100000, li_1048575, li_100000000, e_isSide, e_inRange, h1, nI_eqI, Nat.one_ne_zero, true_and, and_true, not_true_eq_false, not_false_eq_true, true_imp_iff, false_imp_iff, false_and, and_false, imp_false, Classical.not_not, Bool.false_eq_true, Nat.zero_ne_one, Nat.one_ne_zero, Nat.not_lt_zero, if_true, if_false, implies_true]
    exact ⟨fun t p a b e1 e2 => absurd ⟨t, by omega, by omega, e1⟩ h1, fun t a e1 e2 => absurd ⟨t, by omega, by omega, e1⟩ h1, fun _ _ => rfl⟩
theorem a_why {o : aO} {S : sS} {h : Nat → sS} {hz rl : Int32} (hG : Good0 o S h hz rl) {printing_dishes : Nat → Int32} {printing_lines : Nat → Int32} {printing_weights : Nat → Int32} {printing_set : Int32} {printing_number : Int32} {printing_prices : Int32} {printing_allergens : Int32} {printing_column : Int32} (a1 : Int32) : p_X8_why S printing_dishes printing_lines printing_weights printing_set printing_number printing_prices printing_allergens printing_column a1 (fun (r : Int32) (_ : Nat → Int32) (_ : Nat → Int32) (_ : Nat → Int32) (_ : Int32) (_ : Int32) (_ : Int32) (_ : Int32) (_ : Int32) => sp_why o a1 r) := by
  obtain ⟨⟨⟨n, g, s, sd⟩, q0, q1⟩, L⟩ := o
  have hz2 : hz = nI L.length := hG.2.1
  have hr2 : rl = nI 0 := hG.2.2.2
  subst hz2 hr2
  have hS : rS S ((n, g, s, sd), q0, q1) := hG.1
  have hH : rH h L := hG.2.2.1
  have hM : rM S.1 (n, g, s, sd) := hS.1
  have hkk : S.2.2.2 = nI (snp q0 + 2 * snp q1) := hS.2.1
  have f0 : ∀ m, q0 = some m → rM S.2.1 m := hS.2.2.1
  have f1 : ∀ m, q1 = some m → rM S.2.2.1 m := hS.2.2.2
  have hg : okG n g := hM.1
  have ho : okS s := hM.2.1
  have hw : okW sd := hM.2.2.1
  have cn : S.1.2.2.1 = nI n := hM.2.2.2.1
  have cv : ∀ d k, d < 20 → k < 7 → S.1.1 (d * 7 + k) = nI (g d k) := hM.2.2.2.2.1
  have cst : ∀ k, k < 6 → S.1.2.1 k = nI (s k) := hM.2.2.2.2.2.1
  have cw : S.1.2.2.2 = nI (wy sd) := hM.2.2.2.2.2.2
  have hn : n ≤ 20 := hg.1
  obtain ⟨s0, s1, s2, s3, s4, s5, s6, s7⟩ := ho.b
  unfold p_X8_why
  rw [cn]
  by_cases hd : ∃ d, d < n ∧ a1 = nI d
  · obtain ⟨d, hd1, rfl⟩ := id hd
    have hd20 : d < 20 := by omega
    obtain ⟨b0, b1, b2, b3, b4, b5, b6⟩ := hg.b hd20
    have fin : ∀ w, w = whm (n, g, s, sd) d → sp_why (((n, g, s, sd), q0, q1), L) (nI d) (nI w) := by
      intro w hw
      refine ⟨fun d' h1 e => ?_, fun e => ?_⟩
      · have h1 : d' < n := h1
        obtain rfl := nI_i e (by omega) (by omega)
        rw [hw]
      · have := nI_i (show nI d = nI n from e) (by omega) (by omega)
        omega
    have hwh : whm (n, g, s, sd) d = if ¬ g d 6 = 1 then 1 else if ¬ tb (g d 3) (s 0) = 1 then 2 else if ¬ g d 4 &&& s 5 = 0 then 3 else if prt g (s 2) (s 0) (s 5) d = true then 0 else 4 := rfl
    simp (disch := omega) only [li_0, li_1, li_2, li_3, li_4, li_5, li_6, li_7, li_8, li_9, li_10, li_11, li_12, li_13, li_14, li_15, li_16, li_20, li_26, li_31, li_32, li_36, li_42, li_43, li_48, li_52, li_57, li_58, li_59, li_60, li_63, li_97, li_99, li_104, li_112, li_115, li_119, li_140, li_141, li_142, li_143, li_144, li_145, li_146, li_147, li_148, li_149, li_150, li_151, li_152, li_255, li_303, li_455, li_999, li_1000, li_1510, li_1820, li_2275, li_9999, li_10000, li_100000, li_1048575, li_100000000, e_hasDish, hd, nI_eqI, e_isOffered cv hg, e_setting cst, e_isInSeason cv hg, e_suits cv hg, Nat.one_ne_zero, true_and, and_true, not_true_eq_false, not_false_eq_true, true_imp_iff, false_imp_iff, false_and, and_false, imp_false, Classical.not_not, Bool.false_eq_true, Nat.zero_ne_one, Nat.one_ne_zero, Nat.not_lt_zero, if_true, if_false, implies_true]
    by_cases c6 : g d 6 = 1
    · rw [if_neg (fun q => q c6)] at hwh
      by_cases cs : tb (g d 3) (s 0) = 1
      · rw [if_neg (fun q => q cs)] at hwh
        by_cases ca : g d 4 &&& s 5 = 0
        · rw [if_neg (fun q => q ca)] at hwh
          simp (disch := omega) only [c6, cs, ca, nI_eqI, Nat.one_ne_zero, true_and, and_true, not_true_eq_false, not_false_eq_true, true_imp_iff, false_imp_iff, false_and, and_false, imp_false, Classical.not_not, Bool.false_eq_true, Nat.zero_ne_one, Nat.one_ne_zero, Nat.not_lt_zero, if_true, if_false, implies_true]
          refine i_findPrinted cv cst hg ho ?_
          intro D' L' W' set num pri all col hP
          obtain ⟨_, _, _, rfl, _, _, _, _⟩ := hP
          have hm := mk_lt31 (prt g (s 2) (s 0) (s 5)) hn
          have ht := mk_tb (prt g (s 2) (s 0) (s 5)) n d
          by_cases hp : prt g (s 2) (s 0) (s 5) d = true
          · rw [if_pos hp] at hwh
            simp (disch := omega) only [e_has, ht, hd1, hp, and_self, nI_eqI, Nat.one_ne_zero, true_and, and_true, not_true_eq_false, not_false_eq_true, true_imp_iff, false_imp_iff, false_and, and_false, imp_false, Classical.not_not, Bool.false_eq_true, Nat.zero_ne_one, Nat.one_ne_zero, Nat.not_lt_zero, if_true, if_false, implies_true]
            exact fin 0 hwh.symm
          · rw [if_neg hp] at hwh
            simp (disch := omega) only [e_has, ht, hp, and_false, nI_eqI, Nat.one_ne_zero, true_and, and_true, not_true_eq_false, not_false_eq_true, true_imp_iff, false_imp_iff, false_and, and_false, imp_false, Classical.not_not, Bool.false_eq_true, Nat.zero_ne_one, Nat.one_ne_zero, Nat.not_lt_zero, if_true, if_false, implies_true]
            exact fin 4 hwh.symm
        · rw [if_pos ca] at hwh
          simp (disch := omega) only [c6, cs, ca, nI_eqI, Nat.one_ne_zero, true_and, and_true, not_true_eq_false, not_false_eq_true, true_imp_iff, false_imp_iff, false_and, and_false, imp_false, Classical.not_not, Bool.false_eq_true, Nat.zero_ne_one, Nat.one_ne_zero, Nat.not_lt_zero, if_true, if_false, implies_true]
          exact fin 3 hwh.symm
      · rw [if_pos cs] at hwh
        simp (disch := omega) only [c6, cs, nI_eqI, Nat.one_ne_zero, true_and, and_true, not_true_eq_false, not_false_eq_true, true_imp_iff, false_imp_iff, false_and, and_false, imp_false, Classical.not_not, Bool.false_eq_true, Nat.zero_ne_one, Nat.one_ne_zero, Nat.not_lt_zero, if_true, if_false, implies_true]
        exact fin 2 hwh.symm
    · rw [if_pos c6] at hwh
      simp (disch := omega) only [c6, nI_eqI, Nat.one_ne_zero, true_and, and_true, not_true_eq_false, not_false_eq_true, true_imp_iff, false_imp_iff, false_and, and_false, imp_false, Classical.not_not, Bool.false_eq_true, Nat.zero_ne_one, Nat.one_ne_zero, Nat.not_lt_zero, if_true, if_false, implies_true]
      exact fin 1 hwh.symm
  · simp (disch := omega) only [li_0, li_1, li_2, li_3, li_4, li_5, li_6, li_7, li_8, li_9, li_10, li_11, li_12, li_13, li_14, li_15, li_16, li_20, li_26, li_31, li_32, li_36, li_42, li_43, li_48, li_52, li_57, li_58, li_59, li_60, li_63, li_97, li_99, li_104, li_112, li_115, li_119, li_140, li_141, li_142, li_143, li_144, li_145, li_146, li_147, li_148, li_149, li_150, li_151, li_152, li_255, li_303, li_455, li_999, li_1000, li_1510, li_1820, li_2275, li_9999, li_10000, li_100000, li_1048575, li_100000000, e_hasDish, hd, nI_eqI, Nat.one_ne_zero, true_and, and_true, not_true_eq_false, not_false_eq_true, true_imp_iff, false_imp_iff, false_and, and_false, imp_false, Classical.not_not, Bool.false_eq_true, Nat.zero_ne_one, Nat.one_ne_zero, Nat.not_lt_zero, if_true, if_false, implies_true]
    exact ⟨fun d h1 e => absurd ⟨d, h1, e⟩ hd, fun _ => rfl⟩
theorem a_printedFor {o : aO} {S : sS} {h : Nat → sS} {hz rl : Int32} (hG : Good0 o S h hz rl) {printing_dishes : Nat → Int32} {printing_lines : Nat → Int32} {printing_weights : Nat → Int32} {printing_set : Int32} {printing_number : Int32} {printing_prices : Int32} {printing_allergens : Int32} {printing_column : Int32} (a1 : Int32) : p_X8_printedFor S printing_dishes printing_lines printing_weights printing_set printing_number printing_prices printing_allergens printing_column a1 (fun (r : Int32) (_ : Nat → Int32) (_ : Nat → Int32) (_ : Nat → Int32) (_ : Int32) (_ : Int32) (_ : Int32) (_ : Int32) (_ : Int32) => sp_printedFor o a1 r) := by
  obtain ⟨⟨⟨n, g, s, sd⟩, q0, q1⟩, L⟩ := o
  have hz2 : hz = nI L.length := hG.2.1
  have hr2 : rl = nI 0 := hG.2.2.2
  subst hz2 hr2
  have hS : rS S ((n, g, s, sd), q0, q1) := hG.1
  have hH : rH h L := hG.2.2.1
  have hM : rM S.1 (n, g, s, sd) := hS.1
  have hkk : S.2.2.2 = nI (snp q0 + 2 * snp q1) := hS.2.1
  have f0 : ∀ m, q0 = some m → rM S.2.1 m := hS.2.2.1
  have f1 : ∀ m, q1 = some m → rM S.2.2.1 m := hS.2.2.2
  have hg : okG n g := hM.1
  have ho : okS s := hM.2.1
  have hw : okW sd := hM.2.2.1
  have cn : S.1.2.2.1 = nI n := hM.2.2.2.1
  have cv : ∀ d k, d < 20 → k < 7 → S.1.1 (d * 7 + k) = nI (g d k) := hM.2.2.2.2.1
  have cst : ∀ k, k < 6 → S.1.2.1 k = nI (s k) := hM.2.2.2.2.2.1
  have cw : S.1.2.2.2 = nI (wy sd) := hM.2.2.2.2.2.2
  have hn : n ≤ 20 := hg.1
  obtain ⟨s0, s1, s2, s3, s4, s5, s6, s7⟩ := ho.b
  unfold p_X8_printedFor
  by_cases hv : ∃ x, 0 ≤ x ∧ x ≤ 255 ∧ a1 = nI x
  · obtain ⟨x, hx0, hx, rfl⟩ := id hv
    have hv2 : okC (nI 5) (nI x) := okC_i (by decide) (Nat.zero_le _) hx
    simp (disch := omega) only [li_0, li_1, li_2, li_3, li_4, li_5, li_6, li_7, li_8, li_9, li_10, li_11, li_12, li_13, li_14, li_15, li_16, li_20, li_26, li_31, li_32, li_36, li_42, li_43, li_48, li_52, li_57, li_58, li_59, li_60, li_63, li_97, li_99, li_104, li_112, li_115, li_119, li_140, li_141, li_142, li_143, li_144, li_145, li_146, li_147, li_148, li_149, li_150, li_151, li_152, li_255, li_303, li_455, li_999, li_1000, li_1510, li_1820, li_2275, li_9999, li_10000, li_100000, li_1048575, li_100000000, e_isCardValue, hv2, e_setting cst, nI_eqI, Nat.one_ne_zero, true_and, and_true, not_true_eq_false, not_false_eq_true, true_imp_iff, false_imp_iff, false_and, and_false, imp_false, Classical.not_not, Bool.false_eq_true, Nat.zero_ne_one, Nat.one_ne_zero, Nat.not_lt_zero, if_true, if_false, implies_true]
    rw [cn]
    refine i_find cv cst hg ho s0 ?_
    intro D' L' W' set num pri all col hP
    obtain ⟨_, _, _, _, rfl, _, _, _⟩ := hP
    refine ⟨fun u hu e => ?_, fun e => ?_⟩
    · obtain rfl := nI_i e (by omega) (by omega)
      rfl
    · have : ∀ x, x ≤ 255 → ¬ nI x = -nI 1 := by decide +kernel
      exact absurd e (this x hx)
  · have hv2 : ¬ okC (nI 5) a1 := by
      rw [okC_k (by decide)]
      exact hv
    simp (disch := omega) only [li_0, li_1, li_2, li_3, li_4, li_5, li_6, li_7, li_8, li_9, li_10, li_11, li_12, li_13, li_14, li_15, li_16, li_20, li_26, li_31, li_32, li_36, li_42, li_43, li_48, li_52, li_57, li_58, li_59, li_60, li_63, li_97, li_99, li_104, li_112, li_115, li_119, li_140, li_141, li_142, li_143, li_144, li_145, li_146, li_147, li_148, li_149, li_150, li_151, li_152, li_255, li_303, li_455, li_999, li_1000, li_1510, li_1820, li_2275, li_9999, li_10000, li_100000, li_1048575, li_100000000, e_isCardValue, hv2, nI_eqI, Nat.one_ne_zero, true_and, and_true, not_true_eq_false, not_false_eq_true, true_imp_iff, false_imp_iff, false_and, and_false, imp_false, Classical.not_not, Bool.false_eq_true, Nat.zero_ne_one, Nat.one_ne_zero, Nat.not_lt_zero, if_true, if_false, implies_true]
    exact ⟨fun u hu e => absurd ⟨u, Nat.zero_le _, hu, e⟩ hv, fun _ => rfl⟩
theorem a_evenSeasons {o : aO} {S : sS} {h : Nat → sS} {hz rl : Int32} (hG : Good0 o S h hz rl) {printing_dishes : Nat → Int32} {printing_lines : Nat → Int32} {printing_weights : Nat → Int32} {printing_set : Int32} {printing_number : Int32} {printing_prices : Int32} {printing_allergens : Int32} {printing_column : Int32} {fold_parts : Nat → Nat → Int32} {fold_weights : Nat → Int32} {fold_places : Nat → Int32} {fold_keySide : Int32} {fold_gap : Int32} : p_X8_evenSeasons S printing_dishes printing_lines printing_weights printing_set printing_number printing_prices printing_allergens printing_column fold_parts fold_weights fold_places fold_keySide fold_gap (fun (r : Int32) (_ : Nat → Int32) (_ : Nat → Int32) (_ : Nat → Int32) (_ : Int32) (_ : Int32) (_ : Int32) (_ : Int32) (_ : Int32) (_ : Nat → Nat → Int32) (_ : Nat → Int32) (_ : Nat → Int32) (_ : Int32) (_ : Int32) => sp_evenSeasons o  r) := by
  obtain ⟨⟨⟨n, g, s, sd⟩, q0, q1⟩, L⟩ := o
  have hz2 : hz = nI L.length := hG.2.1
  have hr2 : rl = nI 0 := hG.2.2.2
  subst hz2 hr2
  have hS : rS S ((n, g, s, sd), q0, q1) := hG.1
  have hH : rH h L := hG.2.2.1
  have hM : rM S.1 (n, g, s, sd) := hS.1
  have hkk : S.2.2.2 = nI (snp q0 + 2 * snp q1) := hS.2.1
  have f0 : ∀ m, q0 = some m → rM S.2.1 m := hS.2.2.1
  have f1 : ∀ m, q1 = some m → rM S.2.2.1 m := hS.2.2.2
  have hg : okG n g := hM.1
  have ho : okS s := hM.2.1
  have hw : okW sd := hM.2.2.1
  have cn : S.1.2.2.1 = nI n := hM.2.2.2.1
  have cv : ∀ d k, d < 20 → k < 7 → S.1.1 (d * 7 + k) = nI (g d k) := hM.2.2.2.2.1
  have cst : ∀ k, k < 6 → S.1.2.1 k = nI (s k) := hM.2.2.2.2.2.1
  have cw : S.1.2.2.2 = nI (wy sd) := hM.2.2.2.2.2.2
  have hn : n ≤ 20 := hg.1
  obtain ⟨s0, s1, s2, s3, s4, s5, s6, s7⟩ := ho.b
  have hev := evn_le (wx (prt g (s 2) (s 0) (s 5)) n g s sd) (fsd (wx (prt g (s 2) (s 0) (s 5)) n g s sd)) (fld (wx (prt g (s 2) (s 0) (s 5)) n g s sd) (s 4))
  refine i_evenSeasons8 hg ho hw ⟨cn, cv, cst, cw⟩ ?_
  intro D' L' W' set num pri all col parts' weights' places' ks gap
  refine ⟨_, ?_, rfl, ?_⟩
  · exact mk_lt _ 4
  · have hl := tb_lt (mk (fun k => evn (wx (prt g (s 2) k (s 5)) n g s sd) (fsd (wx (prt g (s 2) k (s 5)) n g s sd)) (fld (wx (prt g (s 2) k (s 5)) n g s sd) (s 4)) == 1) 4) (s 0)
    show tb _ (s 0) = evn (wx (prt g (s 2) (s 0) (s 5)) n g s sd) (fsd (wx (prt g (s 2) (s 0) (s 5)) n g s sd)) (fld (wx (prt g (s 2) (s 0) (s 5)) n g s sd) (s 4))
    by_cases e : evn (wx (prt g (s 2) (s 0) (s 5)) n g s sd) (fsd (wx (prt g (s 2) (s 0) (s 5)) n g s sd)) (fld (wx (prt g (s 2) (s 0) (s 5)) n g s sd) (s 4)) = 1
    · rw [e]
      exact mk_tb1.2 ⟨by omega, by rw [e]; rfl⟩
    · have e0 : ¬ tb (mk (fun k => evn (wx (prt g (s 2) k (s 5)) n g s sd) (fsd (wx (prt g (s 2) k (s 5)) n g s sd)) (fld (wx (prt g (s 2) k (s 5)) n g s sd) (s 4)) == 1) 4) (s 0) = 1 := fun q => e (eq_of_beq (mk_tb1.1 q).2)
      omega
theorem a_bestSides {o : aO} {S : sS} {h : Nat → sS} {hz rl : Int32} (hG : Good0 o S h hz rl) {printing_dishes : Nat → Int32} {printing_lines : Nat → Int32} {printing_weights : Nat → Int32} {printing_set : Int32} {printing_number : Int32} {printing_prices : Int32} {printing_allergens : Int32} {printing_column : Int32} {fold_parts : Nat → Nat → Int32} {fold_weights : Nat → Int32} {fold_places : Nat → Int32} {fold_keySide : Int32} {fold_gap : Int32} {otherFold_parts : Nat → Nat → Int32} {otherFold_weights : Nat → Int32} {otherFold_places : Nat → Int32} {otherFold_keySide : Int32} {otherFold_gap : Int32} (a1 : Int32) : p_X8_bestSides S printing_dishes printing_lines printing_weights printing_set printing_number printing_prices printing_allergens printing_column fold_parts fold_weights fold_places fold_keySide fold_gap otherFold_parts otherFold_weights otherFold_places otherFold_keySide otherFold_gap a1 (fun (r : Int32) (_ : Nat → Int32) (_ : Nat → Int32) (_ : Nat → Int32) (_ : Int32) (_ : Int32) (_ : Int32) (_ : Int32) (_ : Int32) (_ : Nat → Nat → Int32) (_ : Nat → Int32) (_ : Nat → Int32) (_ : Int32) (_ : Int32) (_ : Nat → Nat → Int32) (_ : Nat → Int32) (_ : Nat → Int32) (_ : Int32) (_ : Int32) => sp_bestSides o a1 r) := by
  obtain ⟨⟨⟨n, g, s, sd⟩, q0, q1⟩, L⟩ := o
  have hz2 : hz = nI L.length := hG.2.1
  have hr2 : rl = nI 0 := hG.2.2.2
  subst hz2 hr2
  have hS : rS S ((n, g, s, sd), q0, q1) := hG.1
  have hH : rH h L := hG.2.2.1
  have hM : rM S.1 (n, g, s, sd) := hS.1
  have hkk : S.2.2.2 = nI (snp q0 + 2 * snp q1) := hS.2.1
  have f0 : ∀ m, q0 = some m → rM S.2.1 m := hS.2.2.1
  have f1 : ∀ m, q1 = some m → rM S.2.2.1 m := hS.2.2.2
  have hg : okG n g := hM.1
  have ho : okS s := hM.2.1
  have hw : okW sd := hM.2.2.1
  have cn : S.1.2.2.1 = nI n := hM.2.2.2.1
  have cv : ∀ d k, d < 20 → k < 7 → S.1.1 (d * 7 + k) = nI (g d k) := hM.2.2.2.2.1
  have cst : ∀ k, k < 6 → S.1.2.1 k = nI (s k) := hM.2.2.2.2.2.1
  have cw : S.1.2.2.2 = nI (wy sd) := hM.2.2.2.2.2.2
  have hn : n ≤ 20 := hg.1
  have hb15 := bwy_le (n, g, s, sd)
  unfold p_X8_bestSides
  by_cases hv : ∃ x, 0 ≤ x ∧ x ≤ 3 ∧ a1 = nI x
  · obtain ⟨x, _, hx, rfl⟩ := id hv
    have n4 : ¬ nI x = nI 4 := fun e => by
      have := nI_i e (by omega) (by omega)
      omega
    simp (disch := omega) only [li_0, li_1, li_2, li_3, li_4, li_5, li_6, li_7, li_8, li_9, li_10, li_11, li_12, li_13, li_14, li_15, li_16, li_20, li_26, li_31, li_32, li_36, li_42, li_43, li_48, li_52, li_57, li_58, li_59, li_60, li_63, li_97, li_99, li_104, li_112, li_115, li_119, li_140, li_141, li_142, li_143, li_144, li_145, li_146, li_147, li_148, li_149, li_150, li_151, li_152, li_255, li_303, li_455, li_999, li_1000, li_1510, li_1820, li_2275, li_9999, li_10000, li_100000, li_1048575, li_100000000, e_inRange, hv, nI_eqI, Nat.one_ne_zero, true_and, and_true, not_true_eq_false, not_false_eq_true, true_imp_iff, false_imp_iff, false_and, and_false, imp_false, Classical.not_not, Bool.false_eq_true, Nat.zero_ne_one, Nat.one_ne_zero, Nat.not_lt_zero, if_true, if_false, implies_true]
    rw [cn]
    refine i_findPrinted cv cst hg ho ?_
    intro D' L' W' set num pri all col hP
    refine i_foldBestWay hg ho hP cst ?_
    intro b p1 w1 l1 ks gap p2 w2 l2 ks2 gap2 hb R1
    have hb : b = bwy (n, g, s, sd) := hb
    subst hb
    have hX := wx_ok (prt g (s 2) (s 0) (s 5)) hg ho (fun c => tb (bwy (n, g, s, sd)) c)
    have hfl := fld_b hX (s 4)
    have hev := evn_le (xm (wm (n, g, s, sd) (bwy (n, g, s, sd)))) (fsm (wm (n, g, s, sd) (bwy (n, g, s, sd)))) (flm (wm (n, g, s, sd) (bwy (n, g, s, sd))))
    have fin : ∀ r, (x = 0 → r = nI (bwy (n, g, s, sd))) → (x = 1 → r = nI (dif (xm (wm (n, g, s, sd) (bwy (n, g, s, sd)))))) → (x = 2 → r = nI (lgs (xm (wm (n, g, s, sd) (bwy (n, g, s, sd)))) (fsm (wm (n, g, s, sd) (bwy (n, g, s, sd)))) (flm (wm (n, g, s, sd) (bwy (n, g, s, sd)))))) → (x = 3 → r = nI (evn (xm (wm (n, g, s, sd) (bwy (n, g, s, sd)))) (fsm (wm (n, g, s, sd) (bwy (n, g, s, sd)))) (flm (wm (n, g, s, sd) (bwy (n, g, s, sd)))))) → sp_bestSides (((n, g, s, sd), q0, q1), L) (nI x) r := fun r h0 h1 h2 h3 => ⟨fun e => h0 (nI_i e (by omega) (by omega)), fun e => h1 (nI_i e (by omega) (by omega)), fun e => h2 (nI_i e (by omega) (by omega)), fun e => h3 (nI_i e (by omega) (by omega)), fun e => absurd e n4⟩
    refine ⟨fun e => ?_, fun e => ?_, fun e => ?_, fun e0 e1 e2 => ?_⟩
    · exact fin _ (fun _ => rfl) (fun _ => by omega) (fun _ => by omega) (fun _ => by omega)
    · rw [e_difference R1 hX]
      exact fin _ (fun _ => by omega) (fun _ => rfl) (fun _ => by omega) (fun _ => by omega)
    · refine i_longest R1 hX hfl ?_
      exact fin _ (fun _ => by omega) (fun _ => by omega) (fun _ => rfl) (fun _ => by omega)
    · refine i_isEven R1 hX hfl ?_
      show (nI (evn (xm (wm (n, g, s, sd) (bwy (n, g, s, sd)))) (fsm (wm (n, g, s, sd) (bwy (n, g, s, sd)))) (flm (wm (n, g, s, sd) (bwy (n, g, s, sd))))) = nI 0 → _) ∧ (¬ nI (evn (xm (wm (n, g, s, sd) (bwy (n, g, s, sd)))) (fsm (wm (n, g, s, sd) (bwy (n, g, s, sd)))) (flm (wm (n, g, s, sd) (bwy (n, g, s, sd))))) = nI 0 → _)
      rw [nI_eqI (by omega) (by omega)]
      refine ⟨fun e => ?_, fun e => ?_⟩
      · exact fin _ (fun _ => by omega) (fun _ => by omega) (fun _ => by omega) (fun _ => by rw [e])
      · exact fin _ (fun _ => by omega) (fun _ => by omega) (fun _ => by omega) (fun _ => by rw [show evn (xm (wm (n, g, s, sd) (bwy (n, g, s, sd)))) (fsm (wm (n, g, s, sd) (bwy (n, g, s, sd)))) (flm (wm (n, g, s, sd) (bwy (n, g, s, sd)))) = 1 by omega])
  · simp (disch := omega) only [li_0, li_1, li_2, li_3, li_4, li_5, li_6, li_7, li_8, li_9, li_10, li_11, li_12, li_13, li_14, li_15, li_16, li_20, li_26, li_31, li_32, li_36, li_42, li_43, li_48, li_52, li_57, li_58, li_59, li_60, li_63, li_97, li_99, li_104, li_112, li_115, li_119, li_140, li_141, li_142, li_143, li_144, li_145, li_146, li_147, li_148, li_149, li_150, li_151, li_152, li_255, li_303, li_455, li_999, li_1000, li_1510, li_1820, li_2275, li_9999, li_10000, li_100000, li_1048575, li_100000000, e_inRange, hv, nI_eqI, Nat.one_ne_zero, true_and, and_true, not_true_eq_false, not_false_eq_true, true_imp_iff, false_imp_iff, false_and, and_false, imp_false, Classical.not_not, Bool.false_eq_true, Nat.zero_ne_one, Nat.one_ne_zero, Nat.not_lt_zero, if_true, if_false, implies_true]
    exact ⟨fun e => absurd ⟨0, by omega, by omega, e⟩ hv, fun e => absurd ⟨1, by omega, by omega, e⟩ hv, fun e => absurd ⟨2, by omega, by omega, e⟩ hv, fun e => absurd ⟨3, by omega, by omega, e⟩ hv, fun _ => rfl⟩
theorem a_bestSet {o : aO} {S : sS} {h : Nat → sS} {hz rl : Int32} (hG : Good0 o S h hz rl) {finder_best : Nat → Nat → Int64} {finder_candidates : Nat → Int32} {finder_candidateCount : Int32} {finder_lineBound : Int32} {finder_found : Int64} (a1 a2 a3 a4 : Int32) : p_X8_bestSet S finder_best finder_candidates finder_candidateCount finder_lineBound finder_found a1 a2 a3 a4 (fun (r : Int32) (_ : Nat → Nat → Int64) (_ : Nat → Int32) (_ : Int32) (_ : Int32) (_ : Int64) => sp_bestSet o a1 a2 a3 a4 r) := by
  obtain ⟨⟨⟨n, g, s, sd⟩, q0, q1⟩, L⟩ := o
  have hz2 : hz = nI L.length := hG.2.1
  have hr2 : rl = nI 0 := hG.2.2.2
  subst hz2 hr2
  have hS : rS S ((n, g, s, sd), q0, q1) := hG.1
  have hH : rH h L := hG.2.2.1
  have hM : rM S.1 (n, g, s, sd) := hS.1
  have hkk : S.2.2.2 = nI (snp q0 + 2 * snp q1) := hS.2.1
  have f0 : ∀ m, q0 = some m → rM S.2.1 m := hS.2.2.1
  have f1 : ∀ m, q1 = some m → rM S.2.2.1 m := hS.2.2.2
  have hg : okG n g := hM.1
  have ho : okS s := hM.2.1
  have hw : okW sd := hM.2.2.1
  have cn : S.1.2.2.1 = nI n := hM.2.2.2.1
  have cv : ∀ d k, d < 20 → k < 7 → S.1.1 (d * 7 + k) = nI (g d k) := hM.2.2.2.2.1
  have cst : ∀ k, k < 6 → S.1.2.1 k = nI (s k) := hM.2.2.2.2.2.1
  have cw : S.1.2.2.2 = nI (wy sd) := hM.2.2.2.2.2.2
  have hn : n ≤ 20 := hg.1
  unfold p_X8_bestSet
  rw [e_areSet]
  refine ⟨fun ha => ⟨fun e => absurd e (by decide), fun _ => ?_⟩, fun ha => ⟨fun _ => ⟨fun t l col h1 h2 h3 h4 e1 e2 e3 => absurd ⟨⟨t, Nat.zero_le _, h1, e1⟩, ⟨l, Nat.zero_le _, h2, e2⟩, ⟨col, h3, h4, e3⟩⟩ ha, fun _ _ _ => rfl⟩, fun e => absurd rfl e⟩⟩
  obtain ⟨⟨side, _, hside, rfl⟩, ⟨lines, _, hlines, rfl⟩, ⟨col, hcol1, hcol, rfl⟩⟩ := id ha
  have inj : ∀ {t l c : Nat}, t ≤ 1 → l ≤ 150 → c ≤ 4 → nI side = nI t → nI lines = nI l → nI col = nI c → t = side ∧ l = lines ∧ c = col := fun h1 h2 h3 e1 e2 e3 => ⟨(nI_i e1 (by omega) (by omega)).symm, (nI_i e2 (by omega) (by omega)).symm, (nI_i e3 (by omega) (by omega)).symm⟩
  by_cases hq : ∃ x, 0 ≤ x ∧ x ≤ 2 ∧ a4 = nI x
  · obtain ⟨q, _, hq2, rfl⟩ := id hq
    have hmem : ∀ d, d ∈ ca (qb g s col) g sd side n 4 → d < n := fun d hd => (ca_mem hd).1
    have hlen := ca_len4 (qb g s col) g sd side n 4 (Nat.le_refl 4)
    have hnd : ∀ i, i < (ca (qb g s col) g sd side n 4).length → nd (ca (qb g s col) g sd side n 4) i < 20 := fun i hi => by
      have := hmem _ (nd_mem hi)
      omega
    simp (disch := omega) only [li_0, li_1, li_2, li_3, li_4, li_5, li_6, li_7, li_8, li_9, li_10, li_11, li_12, li_13, li_14, li_15, li_16, li_20, li_26, li_31, li_32, li_36, li_42, li_43, li_48, li_52, li_57, li_58, li_59, li_60, li_63, li_97, li_99, li_104, li_112, li_115, li_119, li_140, li_141, li_142, li_143, li_144, li_145, li_146, li_147, li_148, li_149, li_150, li_151, li_152, li_255, li_303, li_455, li_999, li_1000, li_1510, li_1820, li_2275, li_9999, li_10000, li_100000, li_1048575, li_100000000, e_inRange, hq, nI_eqI, Nat.one_ne_zero, true_and, and_true, not_true_eq_false, not_false_eq_true, true_imp_iff, false_imp_iff, false_and, and_false, imp_false, Classical.not_not, Bool.false_eq_true, Nat.zero_ne_one, Nat.one_ne_zero, Nat.not_lt_zero, if_true, if_false, implies_true]
    rw [cn, cw]
    refine i_find6 hg ho hw cv cst hside hlines hcol ?_
    intro b1 cd1 lb found hcd1 hfound
    have hb := fo_b hg ho (col := col) hmem (by omega)
    have hm := (okT_mg hb (by unfold WW; omega)).1 0 lines
    have hV : fnd (n, g, s, sd) side lines col = mg (fo g s col (ca (qb g s col) g sd side n 4)).2.2 0 lines := rfl
    have hf0 : fnN (n, g, s, sd) side lines col = (mg (fo g s col (ca (qb g s col) g sd side n 4)).2.2 0 lines + 1048575).toNat := rfl
    have bad : ∀ r, ((nI side = nI 0 → nI lines = nI 0 → (nI col = nI 0 ∧ nI q = nI 0) ∨ (nI col = nI 1 ∧ nI q = nI 3) → r = -nI 1)) := by
      intro r _ _ h
      rcases h with h | h
      · have := nI_i h.1 (by omega) (by omega)
        omega
      · have := nI_i h.2 (by omega) (by omega)
        omega
    have qe : ∀ {x y : Nat}, x < 100 → y < 100 → nI x = nI y → x = y := fun h1 h2 e => nI_i e (by omega) (by omega)
    rw [e_hasFound]
    unfold phi at hfound
    unfold WW at hm
    refine ⟨fun hneg => ?_, fun hpos => ?_⟩
    · simp (disch := omega) only [nI_eqI, Nat.one_ne_zero, true_and, and_true, not_true_eq_false, not_false_eq_true, true_imp_iff, false_imp_iff, false_and, and_false, imp_false, Classical.not_not, Bool.false_eq_true, Nat.zero_ne_one, Nat.one_ne_zero, Nat.not_lt_zero, if_true, if_false, implies_true]
      refine ⟨fun t l c h1 h2 h3 h4 e1 e2 e3 => ?_, bad _⟩
      obtain ⟨rfl, rfl, rfl⟩ := inj h1 h2 h4 e1 e2 e3
      refine ⟨fun _ _ => rfl, fun hh => ?_⟩
      have hh : 0 ≤ fnd (n, g, s, sd) t l c := hh
      rw [hV] at hh
      rw [if_neg (by omega)] at hfound
      omega
    · simp (disch := omega) only [nI_eqI, Nat.one_ne_zero, true_and, and_true, not_true_eq_false, not_false_eq_true, true_imp_iff, false_imp_iff, false_and, and_false, imp_false, Classical.not_not, Bool.false_eq_true, Nat.zero_ne_one, Nat.one_ne_zero, Nat.not_lt_zero, if_true, if_false, implies_true]
      have hp : ¬ mg (fo g s col (ca (qb g s col) g sd side n 4)).2.2 0 lines < 0 := by
        intro q
        rw [if_pos q] at hfound
        omega
      rw [if_neg hp] at hfound
      have hf1 : fnN (n, g, s, sd) side lines col < 2 ^ 50 := by rw [hf0]; omega
      have hff : found = lN (fnN (n, g, s, sd) side lines col) := lN_of (by omega) (by rw [hfound, hf0]; omega)
      subst hff
      have fin : ∀ r, (¬ q = 2 → r = nI (fnN (n, g, s, sd) side lines col / 2 ^ 20)) → (q = 2 → r = nI (so (ca (qb g s col) g sd side n 4) (fun i => 1 - tb (fnN (n, g, s, sd) side lines col) i) (ca (qb g s col) g sd side n 4).length)) → sp_bestSet (((n, g, s, sd), q0, q1), L) (nI side) (nI lines) (nI col) (nI q) r := by
        intro r k1 k2
        refine ⟨fun t l c h1 h2 h3 h4 e1 e2 e3 => ?_, bad r⟩
        obtain ⟨rfl, rfl, rfl⟩ := inj h1 h2 h4 e1 e2 e3
        refine ⟨fun hh => absurd (show fnd (n, g, s, sd) t l c < 0 from hh) (by rw [hV]; exact hp), fun _ => ⟨fun hh => k1 ?_, fun hh => k2 (qe (by omega) (by omega) hh)⟩⟩
        rcases hh with hh | hh
        · have := qe (by omega) (by omega) hh
          omega
        · have := qe (by omega) (by omega) hh
          omega
      refine ⟨fun e => ?_, fun e => ?_⟩
      · rw [e_prices hf1]
        exact fin _ (fun _ => rfl) (fun e2 => absurd e2 e)
      · refine i_foundSet hf1 (by omega) hnd hcd1 ?_
        exact fin _ (fun e2 => absurd e e2) (fun _ => rfl)
  · simp (disch := omega) only [li_0, li_1, li_2, li_3, li_4, li_5, li_6, li_7, li_8, li_9, li_10, li_11, li_12, li_13, li_14, li_15, li_16, li_20, li_26, li_31, li_32, li_36, li_42, li_43, li_48, li_52, li_57, li_58, li_59, li_60, li_63, li_97, li_99, li_104, li_112, li_115, li_119, li_140, li_141, li_142, li_143, li_144, li_145, li_146, li_147, li_148, li_149, li_150, li_151, li_152, li_255, li_303, li_455, li_999, li_1000, li_1510, li_1820, li_2275, li_9999, li_10000, li_100000, li_1048575, li_100000000, e_inRange, hq, nI_eqI, Nat.one_ne_zero, true_and, and_true, not_true_eq_false, not_false_eq_true, true_imp_iff, false_imp_iff, false_and, and_false, imp_false, Classical.not_not, Bool.false_eq_true, Nat.zero_ne_one, Nat.one_ne_zero, Nat.not_lt_zero, if_true, if_false, implies_true]
    refine ⟨fun t l c h1 h2 h3 h4 e1 e2 e3 => ⟨fun _ hh => ?_, fun _ => ⟨fun hh => ?_, fun hh => ?_⟩⟩, fun _ _ _ => rfl⟩
    · rcases hh with hh | hh | hh
      · exact absurd ⟨0, by omega, by omega, hh⟩ hq
      · exact absurd ⟨1, by omega, by omega, hh⟩ hq
      · exact absurd ⟨2, by omega, by omega, hh⟩ hq
    · rcases hh with hh | hh
      · exact absurd ⟨0, by omega, by omega, hh⟩ hq
      · exact absurd ⟨1, by omega, by omega, hh⟩ hq
    · exact absurd ⟨2, by omega, by omega, hh⟩ hq

theorem good_act {o : aO} {S : sS} (hS : rS S o.1) {h' : Nat → sS} (hH' : rH h' (push o.2 o.1)) {M' : sM} {m' : aM} (hM' : rM M' m') : Good0 (oAct o m') (M', (S.2.1.1, S.2.1.2.1, S.2.1.2.2.1, S.2.1.2.2.2), (S.2.2.1.1, S.2.2.1.2.1, S.2.2.1.2.2.1, S.2.2.1.2.2.2), S.2.2.2) h' (nI (push o.2 o.1).length) (nI 0) := ⟨⟨hM', hS.2.1, hS.2.2.1, hS.2.2.2⟩, rfl, hH', rfl⟩
theorem nI_i {a b : Nat} (h : nI a = nI b) (ha : a < 2 ^ 31) (hb : b < 2 ^ 31) : a = b := (nI_eqI ha hb).1 h
theorem a_addDish {o : aO} {S : sS} {h : Nat → sS} {hz rl : Int32} (hG : Good0 o S h hz rl) (a1 a2 a3 a4 a5 a6 : Int32) : p_X8_addDish S h hz a1 a2 a3 a4 a5 a6 (fun (r : Int32) (S' : sS) (h' : Nat → sS) (hz' : Int32) => ∃ o' : aO, Good0 o' S' h' hz' rl ∧ sp_addDish o a1 a2 a3 a4 a5 a6 r o') := by
  obtain ⟨⟨⟨n, g, s, sd⟩, q0, q1⟩, L⟩ := o
  have hz2 : hz = nI L.length := hG.2.1
  have hr2 : rl = nI 0 := hG.2.2.2
  subst hz2 hr2
  have hS : rS S ((n, g, s, sd), q0, q1) := hG.1
  have hH : rH h L := hG.2.2.1
  have hM : rM S.1 (n, g, s, sd) := hS.1
  have hkk : S.2.2.2 = nI (snp q0 + 2 * snp q1) := hS.2.1
  have f0 : ∀ m, q0 = some m → rM S.2.1 m := hS.2.2.1
  have f1 : ∀ m, q1 = some m → rM S.2.2.1 m := hS.2.2.2
  have hg : okG n g := hM.1
  have ho : okS s := hM.2.1
  have hw : okW sd := hM.2.2.1
  have cn : S.1.2.2.1 = nI n := hM.2.2.2.1
  have cv : ∀ d k, d < 20 → k < 7 → S.1.1 (d * 7 + k) = nI (g d k) := hM.2.2.2.2.1
  have cst : ∀ k, k < 6 → S.1.2.1 k = nI (s k) := hM.2.2.2.2.2.1
  have cw : S.1.2.2.2 = nI (wy sd) := hM.2.2.2.2.2.2
  have hn : n ≤ 20 := hg.1
  unfold p_X8_addDish
  by_cases c0 : okD (nI 0) a1
  rotate_left
  · have hbad : ¬ (okD (nI 0) a1 ∧ okD (nI 1) a2 ∧ okD (nI 2) a3 ∧ okD (nI 3) a4 ∧ okD (nI 4) a5 ∧ okD (nI 5) a6) := fun q => c0 q.1
    simp (disch := omega) only [li_0, li_1, li_2, li_3, li_4, li_5, li_6, li_7, li_8, li_9, li_10, li_11, li_12, li_13, li_14, li_15, li_16, li_20, li_26, li_31, li_32, li_36, li_42, li_43, li_48, li_52, li_57, li_58, li_59, li_60, li_63, li_97, li_99, li_104, li_112, li_115, li_119, li_140, li_141, li_142, li_143, li_144, li_145, li_146, li_147, li_148, li_149, li_150, li_151, li_152, li_255, li_303, li_455, li_999, li_1000, li_1510, li_1820, li_2275, li_9999, li_10000, li_100000, li_1048575, li_100000000, e_isDishValue, nI_eqI, c0, true_and, and_true, not_true_eq_false, not_false_eq_true, true_imp_iff, false_imp_iff, false_and, and_false, imp_false, Classical.not_not, Bool.false_eq_true, Nat.zero_ne_one, Nat.one_ne_zero, Nat.not_lt_zero, if_true, if_false, implies_true]
    exact ⟨_, hG, fun _ _ _ _ _ _ q => absurd q hbad, fun _ => ⟨rfl, rfl⟩⟩
  by_cases c1 : okD (nI 1) a2
  rotate_left
  · have hbad : ¬ (okD (nI 0) a1 ∧ okD (nI 1) a2 ∧ okD (nI 2) a3 ∧ okD (nI 3) a4 ∧ okD (nI 4) a5 ∧ okD (nI 5) a6) := fun q => c1 q.2.1
    simp (disch := omega) only [li_0, li_1, li_2, li_3, li_4, li_5, li_6, li_7, li_8, li_9, li_10, li_11, li_12, li_13, li_14, li_15, li_16, li_20, li_26, li_31, li_32, li_36, li_42, li_43, li_48, li_52, li_57, li_58, li_59, li_60, li_63, li_97, li_99, li_104, li_112, li_115, li_119, li_140, li_141, li_142, li_143, li_144, li_145, li_146, li_147, li_148, li_149, li_150, li_151, li_152, li_255, li_303, li_455, li_999, li_1000, li_1510, li_1820, li_2275, li_9999, li_10000, li_100000, li_1048575, li_100000000, e_isDishValue, nI_eqI, c0, c1, true_and, and_true, not_true_eq_false, not_false_eq_true, true_imp_iff, false_imp_iff, false_and, and_false, imp_false, Classical.not_not, Bool.false_eq_true, Nat.zero_ne_one, Nat.one_ne_zero, Nat.not_lt_zero, if_true, if_false, implies_true]
    exact ⟨_, hG, fun _ _ _ _ _ _ q => absurd q hbad, fun _ => ⟨rfl, rfl⟩⟩
  by_cases c2 : okD (nI 2) a3
  rotate_left
  · have hbad : ¬ (okD (nI 0) a1 ∧ okD (nI 1) a2 ∧ okD (nI 2) a3 ∧ okD (nI 3) a4 ∧ okD (nI 4) a5 ∧ okD (nI 5) a6) := fun q => c2 q.2.2.1
    simp (disch := omega) only [li_0, li_1, li_2, li_3, li_4, li_5, li_6, li_7, li_8, li_9, li_10, li_11, li_12, li_13, li_14, li_15, li_16, li_20, li_26, li_31, li_32, li_36, li_42, li_43, li_48, li_52, li_57, li_58, li_59, li_60, li_63, li_97, li_99, li_104, li_112, li_115, li_119, li_140, li_141, li_142, li_143, li_144, li_145, li_146, li_147, li_148, li_149, li_150, li_151, li_152, li_255, li_303, li_455, li_999, li_1000, li_1510, li_1820, li_2275, li_9999, li_10000, li_100000, li_1048575, li_100000000, e_isDishValue, nI_eqI, c0, c1, c2, true_and, and_true, not_true_eq_false, not_false_eq_true, true_imp_iff, false_imp_iff, false_and, and_false, imp_false, Classical.not_not, Bool.false_eq_true, Nat.zero_ne_one, Nat.one_ne_zero, Nat.not_lt_zero, if_true, if_false, implies_true]
    exact ⟨_, hG, fun _ _ _ _ _ _ q => absurd q hbad, fun _ => ⟨rfl, rfl⟩⟩
  by_cases c3 : okD (nI 3) a4
  rotate_left
  · have hbad : ¬ (okD (nI 0) a1 ∧ okD (nI 1) a2 ∧ okD (nI 2) a3 ∧ okD (nI 3) a4 ∧ okD (nI 4) a5 ∧ okD (nI 5) a6) := fun q => c3 q.2.2.2.1
    simp (disch := omega) only [li_0, li_1, li_2, li_3, li_4, li_5, li_6, li_7, li_8, li_9, li_10, li_11, li_12, li_13, li_14, li_15, li_16, li_20, li_26, li_31, li_32, li_36, li_42, li_43, li_48, li_52, li_57, li_58, li_59, li_60, li_63, li_97, li_99, li_104, li_112, li_115, li_119, li_140, li_141, li_142, li_143, li_144, li_145, li_146, li_147, li_148, li_149, li_150, li_151, li_152, li_255, li_303, li_455, li_999, li_1000, li_1510, li_1820, li_2275, li_9999, li_10000, li_100000, li_1048575, li_100000000, e_isDishValue, nI_eqI, c0, c1, c2, c3, true_and, and_true, not_true_eq_false, not_false_eq_true, true_imp_iff, false_imp_iff, false_and, and_false, imp_false, Classical.not_not, Bool.false_eq_true, Nat.zero_ne_one, Nat.one_ne_zero, Nat.not_lt_zero, if_true, if_false, implies_true]
    exact ⟨_, hG, fun _ _ _ _ _ _ q => absurd q hbad, fun _ => ⟨rfl, rfl⟩⟩
  by_cases c4 : okD (nI 4) a5
  rotate_left
  · have hbad : ¬ (okD (nI 0) a1 ∧ okD (nI 1) a2 ∧ okD (nI 2) a3 ∧ okD (nI 3) a4 ∧ okD (nI 4) a5 ∧ okD (nI 5) a6) := fun q => c4 q.2.2.2.2.1
    simp (disch := omega) only [li_0, li_1, li_2, li_3, li_4, li_5, li_6, li_7, li_8, li_9, li_10, li_11, li_12, li_13, li_14, li_15, li_16, li_20, li_26, li_31, li_32, li_36, li_42, li_43, li_48, li_52, li_57, li_58, li_59, li_60, li_63, li_97, li_99, li_104, li_112, li_115, li_119, li_140, li_141, li_142, li_143, li_144, li_145, li_146, li_147, li_148, li_149, li_150, li_151, li_152, li_255, li_303, li_455, li_999, li_1000, li_1510, li_1820, li_2275, li_9999, li_10000, li_100000, li_1048575, li_100000000, e_isDishValue, nI_eqI, c0, c1, c2, c3, c4, true_and, and_true, not_true_eq_false, not_false_eq_true, true_imp_iff, false_imp_iff, false_and, and_false, imp_false, Classical.not_not, Bool.false_eq_true, Nat.zero_ne_one, Nat.one_ne_zero, Nat.not_lt_zero, if_true, if_false, implies_true]
    exact ⟨_, hG, fun _ _ _ _ _ _ q => absurd q hbad, fun _ => ⟨rfl, rfl⟩⟩
  by_cases c5 : okD (nI 5) a6
  rotate_left
  · have hbad : ¬ (okD (nI 0) a1 ∧ okD (nI 1) a2 ∧ okD (nI 2) a3 ∧ okD (nI 3) a4 ∧ okD (nI 4) a5 ∧ okD (nI 5) a6) := fun q => c5 q.2.2.2.2.2
    simp (disch := omega) only [li_0, li_1, li_2, li_3, li_4, li_5, li_6, li_7, li_8, li_9, li_10, li_11, li_12, li_13, li_14, li_15, li_16, li_20, li_26, li_31, li_32, li_36, li_42, li_43, li_48, li_52, li_57, li_58, li_59, li_60, li_63, li_97, li_99, li_104, li_112, li_115, li_119, li_140, li_141, li_142, li_143, li_144, li_145, li_146, li_147, li_148, li_149, li_150, li_151, li_152, li_255, li_303, li_455, li_999, li_1000, li_1510, li_1820, li_2275, li_9999, li_10000, li_100000, li_1048575, li_100000000, e_isDishValue, nI_eqI, c0, c1, c2, c3, c4, c5, true_and, and_true, not_true_eq_false, not_false_eq_true, true_imp_iff, false_imp_iff, false_and, and_false, imp_false, Classical.not_not, Bool.false_eq_true, Nat.zero_ne_one, Nat.one_ne_zero, Nat.not_lt_zero, if_true, if_false, implies_true]
    exact ⟨_, hG, fun _ _ _ _ _ _ q => absurd q hbad, fun _ => ⟨rfl, rfl⟩⟩
  have hok : okD (nI 0) a1 ∧ okD (nI 1) a2 ∧ okD (nI 2) a3 ∧ okD (nI 3) a4 ∧ okD (nI 4) a5 ∧ okD (nI 5) a6 := ⟨c0, c1, c2, c3, c4, c5⟩
  obtain ⟨x0, l0, u0, rfl⟩ := (okD_k (by decide)).1 c0
  obtain ⟨x1, l1, u1, rfl⟩ := (okD_k (by decide)).1 c1
  obtain ⟨x2, l2, u2, rfl⟩ := (okD_k (by decide)).1 c2
  obtain ⟨x3, l3, u3, rfl⟩ := (okD_k (by decide)).1 c3
  obtain ⟨x4, l4, u4, rfl⟩ := (okD_k (by decide)).1 c4
  obtain ⟨x5, l5, u5, rfl⟩ := (okD_k (by decide)).1 c5
  have v0 : x0 ≤ 3 := u0
  have v1 : x1 ≤ 99 := u1
  have v2 : x2 ≤ 9999 := u2
  have v2' : 1 ≤ x2 := l2
  have v3 : x3 ≤ 15 := u3
  have v4 : x4 ≤ 255 := u4
  have v5 : x5 ≤ 5 := u5
  simp (disch := omega) only [li_0, li_1, li_2, li_3, li_4, li_5, li_6, li_7, li_8, li_9, li_10, li_11, li_12, li_13, li_14, li_15, li_16, li_20, li_26, li_31, li_32, li_36, li_42, li_43, li_48, li_52, li_57, li_58, li_59, li_60, li_63, li_97, li_99, li_104, li_112, li_115, li_119, li_140, li_141, li_142, li_143, li_144, li_145, li_146, li_147, li_148, li_149, li_150, li_151, li_152, li_255, li_303, li_455, li_999, li_1000, li_1510, li_1820, li_2275, li_9999, li_10000, li_100000, li_1048575, li_100000000, e_isDishValue, nI_eqI, c0, c1, c2, c3, c4, c5, cn, e_isFull, true_and, and_true, not_true_eq_false, not_false_eq_true, true_imp_iff, false_imp_iff, false_and, and_false, imp_false, Classical.not_not, Bool.false_eq_true, Nat.zero_ne_one, Nat.one_ne_zero, Nat.not_lt_zero, if_true, if_false, implies_true]
  refine ⟨fun hf => ?_, fun hf => ?_⟩
  · refine j_record hH hS ?_
    intro h' hH'
    simp (disch := omega) only [e_addOffered, e_change, c0, c1, c2, c3, c4, c5]
    refine ⟨_, good_act (o := (((n, g, s, sd), q0, q1), L)) (m' := mAdd (n, g, s, sd) (xs7 x0 x1 x2 x3 x4 x5 1)) hS hH' ⟨?_, ho, hw, ⟨rfl, ?_, cst, cw⟩⟩, ?_, fun q => absurd hok q⟩
    · refine ⟨by show n + 1 ≤ 20; omega, fun d k hd hk => ?_, fun d hd => ?_⟩
      · show upg g n (xs7 x0 x1 x2 x3 x4 x5 1) d k ≤ hiD k
        by_cases e : d = n
        · subst e
          rw [upg_s]
          rcases k7 hk with rfl | rfl | rfl | rfl | rfl | rfl | rfl
          · exact u0
          · exact u1
          · exact u2
          · exact u3
          · exact u4
          · exact u5
          · exact Nat.le_refl 1
        · rw [upg_n g e]
          exact hg.2.1 d k hd hk
      · show 1 ≤ upg g n (xs7 x0 x1 x2 x3 x4 x5 1) d 2
        have hd : d < n + 1 := hd
        by_cases e : d = n
        · subst e
          rw [upg_s]
          exact l2
        · rw [upg_n g e]
          exact hg.2.2 d (by omega)
    · intro d k hd hk
      show _ = nI (upg g n (xs7 x0 x1 x2 x3 x4 x5 1) d k)
      by_cases e : d = n
      · subst e
        rw [upg_s]
        rcases k7 hk with rfl | rfl | rfl | rfl | rfl | rfl | rfl
        · simp (disch := omega) only [pk_us, pk_un]
          rfl
        · simp (disch := omega) only [pk_us, pk_un]
          rfl
        · simp (disch := omega) only [pk_us, pk_un]
          rfl
        · simp (disch := omega) only [pk_us, pk_un]
          rfl
        · simp (disch := omega) only [pk_us, pk_un]
          rfl
        · simp (disch := omega) only [pk_us, pk_un]
          rfl
        · simp (disch := omega) only [pk_us, pk_un]
          rfl
      · rw [upg_n g e]
        simp (disch := omega) only [pk_un]
        exact cv d k hd hk
    · intro y0 y1 y2 y3 y4 y5 _ b0 b1 b2 b3 b4 b5 e0 e1 e2 e3 e4 e5
      obtain rfl := nI_i e0 (by omega) (by omega)
      obtain rfl := nI_i e1 (by omega) (by omega)
      obtain rfl := nI_i e2 (by omega) (by omega)
      obtain rfl := nI_i e3 (by omega) (by omega)
      obtain rfl := nI_i e4 (by omega) (by omega)
      obtain rfl := nI_i e5 (by omega) (by omega)
      exact ⟨fun q => absurd (show n = 20 from q) (by omega), fun _ => ⟨rfl, rfl⟩⟩
  · have hn20 : n = 20 := by omega
    exact ⟨_, hG, fun _ _ _ _ _ _ _ _ _ _ _ _ _ _ _ _ _ _ _ => ⟨fun _ => ⟨rfl, rfl⟩, fun q => absurd (show n < 20 from q) (by omega)⟩, fun q => absurd hok q⟩
theorem a_removeDish {o : aO} {S : sS} {h : Nat → sS} {hz rl : Int32} (hG : Good0 o S h hz rl) (a1 : Int32) : p_X8_removeDish S h hz a1 (fun (r : Int32) (S' : sS) (h' : Nat → sS) (hz' : Int32) => ∃ o' : aO, Good0 o' S' h' hz' rl ∧ sp_removeDish o a1 r o') := by
  obtain ⟨⟨⟨n, g, s, sd⟩, q0, q1⟩, L⟩ := o
  have hz2 : hz = nI L.length := hG.2.1
  have hr2 : rl = nI 0 := hG.2.2.2
  subst hz2 hr2
  have hS : rS S ((n, g, s, sd), q0, q1) := hG.1
  have hH : rH h L := hG.2.2.1
  have hM : rM S.1 (n, g, s, sd) := hS.1
  have hkk : S.2.2.2 = nI (snp q0 + 2 * snp q1) := hS.2.1
  have f0 : ∀ m, q0 = some m → rM S.2.1 m := hS.2.2.1
  have f1 : ∀ m, q1 = some m → rM S.2.2.1 m := hS.2.2.2
  have hg : okG n g := hM.1
  have ho : okS s := hM.2.1
  have hw : okW sd := hM.2.2.1
  have cn : S.1.2.2.1 = nI n := hM.2.2.2.1
  have cv : ∀ d k, d < 20 → k < 7 → S.1.1 (d * 7 + k) = nI (g d k) := hM.2.2.2.2.1
  have cst : ∀ k, k < 6 → S.1.2.1 k = nI (s k) := hM.2.2.2.2.2.1
  have cw : S.1.2.2.2 = nI (wy sd) := hM.2.2.2.2.2.2
  have hn : n ≤ 20 := hg.1
  unfold p_X8_removeDish
  rw [cn]
  by_cases hd : ∃ d, d < n ∧ a1 = nI d
  · obtain ⟨d, hd, rfl⟩ := hd
    have e : ∃ x, x < n ∧ nI d = nI x := ⟨d, hd, rfl⟩
    simp (disch := omega) only [li_0, li_1, li_2, li_3, li_4, li_5, li_6, li_7, li_8, li_9, li_10, li_11, li_12, li_13, li_14, li_15, li_16, li_20, li_26, li_31, li_32, li_36, li_42, li_43, li_48, li_52, li_57, li_58, li_59, li_60, li_63, li_97, li_99, li_104, li_112, li_115, li_119, li_140, li_141, li_142, li_143, li_144, li_145, li_146, li_147, li_148, li_149, li_150, li_151, li_152, li_255, li_303, li_455, li_999, li_1000, li_1510, li_1820, li_2275, li_9999, li_10000, li_100000, li_1048575, li_100000000, e_hasDish, e, nI_eqI, Nat.one_ne_zero, true_and, and_true, not_true_eq_false, not_false_eq_true, true_imp_iff, false_imp_iff, false_and, and_false, imp_false, Classical.not_not, Bool.false_eq_true, Nat.zero_ne_one, Nat.one_ne_zero, Nat.not_lt_zero, if_true, if_false, implies_true]
    refine j_record hH hS ?_
    intro h' hH'
    rw [e_drop hn hd]
    unfold p_X3_size
    refine ⟨_, good_act (o := (((n, g, s, sd), q0, q1), L)) (m' := mDrop (n, g, s, sd) d) hS hH' ⟨?_, ho, hw, ⟨rfl, ?_, cst, cw⟩⟩, fun d' hd' e' => ?_, fun q => absurd e q⟩
    · refine ⟨by show n - 1 ≤ 20; omega, fun d' k hd' hk => ?_, fun d' hd' => ?_⟩
      · show (if d ≤ d' ∧ d' < n - 1 then g (d' + 1) k else g d' k) ≤ hiD k
        by_cases e : d ≤ d' ∧ d' < n - 1
        · rw [if_pos e]
          exact hg.2.1 (d' + 1) k (by omega) hk
        · rw [if_neg e]
          exact hg.2.1 d' k hd' hk
      · show 1 ≤ (if d ≤ d' ∧ d' < n - 1 then g (d' + 1) 2 else g d' 2)
        have hd' : d' < n - 1 := hd'
        by_cases e : d ≤ d' ∧ d' < n - 1
        · rw [if_pos e]
          exact hg.2.2 (d' + 1) (by omega)
        · rw [if_neg e]
          exact hg.2.2 d' (by omega)
    · intro d' k hd' hk
      show va_cpy S.1.1 S.1.1 ((d + 1) * 7) (d * 7) (n * 7 - (d + 1) * 7) (d' * 7 + k) = nI (if d ≤ d' ∧ d' < n - 1 then g (d' + 1) k else g d' k)
      by_cases e : d ≤ d' ∧ d' < n - 1
      · rw [if_pos e, pk_cpy_in (by omega) (by omega), show (d + 1) * 7 + (d' * 7 + k - d * 7) = (d' + 1) * 7 + k by omega]
        exact cv (d' + 1) k (by omega) hk
      · rw [if_neg e, pk_cpy_out (by omega)]
        exact cv d' k hd' hk
    · have hd' : d' < n := hd'
      obtain rfl := nI_i e' (by omega) (by omega)
      exact ⟨rfl, rfl⟩
  · simp (disch := omega) only [li_0, li_1, li_2, li_3, li_4, li_5, li_6, li_7, li_8, li_9, li_10, li_11, li_12, li_13, li_14, li_15, li_16, li_20, li_26, li_31, li_32, li_36, li_42, li_43, li_48, li_52, li_57, li_58, li_59, li_60, li_63, li_97, li_99, li_104, li_112, li_115, li_119, li_140, li_141, li_142, li_143, li_144, li_145, li_146, li_147, li_148, li_149, li_150, li_151, li_152, li_255, li_303, li_455, li_999, li_1000, li_1510, li_1820, li_2275, li_9999, li_10000, li_100000, li_1048575, li_100000000, e_hasDish, hd, nI_eqI, Nat.one_ne_zero, true_and, and_true, not_true_eq_false, not_false_eq_true, true_imp_iff, false_imp_iff, false_and, and_false, imp_false, Classical.not_not, Bool.false_eq_true, Nat.zero_ne_one, Nat.one_ne_zero, Nat.not_lt_zero, if_true, if_false, implies_true]
    exact ⟨_, hG, fun d h1 h2 => absurd ⟨d, h1, h2⟩ hd, fun _ => ⟨rfl, rfl⟩⟩
theorem a_setDish {o : aO} {S : sS} {h : Nat → sS} {hz rl : Int32} (hG : Good0 o S h hz rl) (a1 a2 a3 : Int32) : p_X8_setDish S h hz a1 a2 a3 (fun (r : Int32) (S' : sS) (h' : Nat → sS) (hz' : Int32) => ∃ o' : aO, Good0 o' S' h' hz' rl ∧ sp_setDish o a1 a2 a3 r o') := by
  obtain ⟨⟨⟨n, g, s, sd⟩, q0, q1⟩, L⟩ := o
  have hz2 : hz = nI L.length := hG.2.1
  have hr2 : rl = nI 0 := hG.2.2.2
  subst hz2 hr2
  have hS : rS S ((n, g, s, sd), q0, q1) := hG.1
  have hH : rH h L := hG.2.2.1
  have hM : rM S.1 (n, g, s, sd) := hS.1
  have hkk : S.2.2.2 = nI (snp q0 + 2 * snp q1) := hS.2.1
  have f0 : ∀ m, q0 = some m → rM S.2.1 m := hS.2.2.1
  have f1 : ∀ m, q1 = some m → rM S.2.2.1 m := hS.2.2.2
  have hg : okG n g := hM.1
  have ho : okS s := hM.2.1
  have hw : okW sd := hM.2.2.1
  have cn : S.1.2.2.1 = nI n := hM.2.2.2.1
  have cv : ∀ d k, d < 20 → k < 7 → S.1.1 (d * 7 + k) = nI (g d k) := hM.2.2.2.2.1
  have cst : ∀ k, k < 6 → S.1.2.1 k = nI (s k) := hM.2.2.2.2.2.1
  have cw : S.1.2.2.2 = nI (wy sd) := hM.2.2.2.2.2.2
  have hn : n ≤ 20 := hg.1
  unfold p_X8_setDish
  rw [cn]
  by_cases hd : ∃ d, d < n ∧ a1 = nI d
  · by_cases hv : okD a2 a3
    · obtain ⟨d, hd, rfl⟩ := hd
      obtain ⟨k, x, hk, rfl, hx1, hx2, rfl⟩ := id hv
      have e : ∃ x, x < n ∧ nI d = nI x := ⟨d, hd, rfl⟩
      have hd20 : d < 20 := by omega
      have hx3 := (tD k hk).2.2.2
      simp (disch := omega) only [li_0, li_1, li_2, li_3, li_4, li_5, li_6, li_7, li_8, li_9, li_10, li_11, li_12, li_13, li_14, li_15, li_16, li_20, li_26, li_31, li_32, li_36, li_42, li_43, li_48, li_52, li_57, li_58, li_59, li_60, li_63, li_97, li_99, li_104, li_112, li_115, li_119, li_140, li_141, li_142, li_143, li_144, li_145, li_146, li_147, li_148, li_149, li_150, li_151, li_152, li_255, li_303, li_455, li_999, li_1000, li_1510, li_1820, li_2275, li_9999, li_10000, li_100000, li_1048575, li_100000000, e_hasDish, e_isDishValue, hv, e, nI_eqI, Nat.one_ne_zero, true_and, and_true, not_true_eq_false, not_false_eq_true, true_imp_iff, false_imp_iff, false_and, and_false, imp_false, Classical.not_not, Bool.false_eq_true, Nat.zero_ne_one, Nat.one_ne_zero, Nat.not_lt_zero, if_true, if_false, implies_true]
      refine j_record hH hS ?_
      intro h' hH'
      simp (disch := omega) only [e_valueOf cv, e_change, hv]
      refine ⟨_, good_act (o := (((n, g, s, sd), q0, q1), L)) (m' := mDish (n, g, s, sd) d k x) hS hH' ⟨?_, ho, hw, ⟨rfl, ?_, cst, cw⟩⟩, fun d' k' x' h1 h2 h3 h4 e1 e2 e3 => ?_, fun q => absurd ⟨e, hv⟩ q⟩
      · refine ⟨hn, fun d' k' hd' hk' => ?_, fun d' hd' => ?_⟩
        · show (if d' = d ∧ k' = k then x else g d' k') ≤ hiD k'
          by_cases e : d' = d ∧ k' = k
          · rw [if_pos e, e.2]
            exact hx2
          · rw [if_neg e]
            exact hg.2.1 d' k' hd' hk'
        · show 1 ≤ (if d' = d ∧ 2 = k then x else g d' 2)
          by_cases e : d' = d ∧ 2 = k
          · rw [if_pos e]
            have := e.2
            subst this
            exact hx1
          · rw [if_neg e]
            exact hg.2.2 d' hd'
      · intro d' k' hd' hk'
        show _ = nI (if d' = d ∧ k' = k then x else g d' k')
        by_cases e : d' = d ∧ k' = k
        · rw [if_pos e, e.1, e.2]
          exact pk_us
        · rw [if_neg e]
          exact (pk_un (by omega)).trans (cv d' k' hd' hk')
      · have h1 : d' < n := h1
        have hx4 := (tD k' h2).2.2.2
        obtain rfl := nI_i e1 (by omega) (by omega)
        obtain rfl := nI_i e2 (by omega) (by omega)
        obtain rfl := nI_i e3 (by omega) (by omega)
        exact ⟨rfl, rfl⟩
    · simp (disch := omega) only [li_0, li_1, li_2, li_3, li_4, li_5, li_6, li_7, li_8, li_9, li_10, li_11, li_12, li_13, li_14, li_15, li_16, li_20, li_26, li_31, li_32, li_36, li_42, li_43, li_48, li_52, li_57, li_58, li_59, li_60, li_63, li_97, li_99, li_104, li_112, li_115, li_119, li_140, li_141, li_142, li_143, li_144, li_145, li_146, li_147, li_148, li_149, li_150, li_151, li_152, li_255, li_303, li_455, li_999, li_1000, li_1510, li_1820, li_2275, li_9999, li_10000, li_100000, li_1048575, li_100000000, e_hasDish, e_isDishValue, hd, hv, nI_eqI, Nat.one_ne_zero, true_and, and_true, not_true_eq_false, not_false_eq_true, true_imp_iff, false_imp_iff, false_and, and_false, imp_false, Classical.not_not, Bool.false_eq_true, Nat.zero_ne_one, Nat.one_ne_zero, Nat.not_lt_zero, if_true, if_false, implies_true]
      exact ⟨_, hG, fun d k x h1 h2 h3 h4 e1 e2 e3 => absurd (by rw [e2, e3]; exact okD_i h2 h3 h4) hv, fun _ => ⟨rfl, rfl⟩⟩
  · simp (disch := omega) only [li_0, li_1, li_2, li_3, li_4, li_5, li_6, li_7, li_8, li_9, li_10, li_11, li_12, li_13, li_14, li_15, li_16, li_20, li_26, li_31, li_32, li_36, li_42, li_43, li_48, li_52, li_57, li_58, li_59, li_60, li_63, li_97, li_99, li_104, li_112, li_115, li_119, li_140, li_141, li_142, li_143, li_144, li_145, li_146, li_147, li_148, li_149, li_150, li_151, li_152, li_255, li_303, li_455, li_999, li_1000, li_1510, li_1820, li_2275, li_9999, li_10000, li_100000, li_1048575, li_100000000, e_hasDish, hd, nI_eqI, Nat.one_ne_zero, true_and, and_true, not_true_eq_false, not_false_eq_true, true_imp_iff, false_imp_iff, false_and, and_false, imp_false, Classical.not_not, Bool.false_eq_true, Nat.zero_ne_one, Nat.one_ne_zero, Nat.not_lt_zero, if_true, if_false, implies_true]
    exact ⟨_, hG, fun d k x h1 h2 h3 h4 e1 e2 e3 => absurd ⟨d, h1, e1⟩ hd, fun _ => ⟨rfl, rfl⟩⟩
theorem a_setCard {o : aO} {S : sS} {h : Nat → sS} {hz rl : Int32} (hG : Good0 o S h hz rl) (a1 a2 : Int32) : p_X8_setCard S h hz a1 a2 (fun (r : Int32) (S' : sS) (h' : Nat → sS) (hz' : Int32) => ∃ o' : aO, Good0 o' S' h' hz' rl ∧ sp_setCard o a1 a2 r o') := by
  obtain ⟨⟨⟨n, g, s, sd⟩, q0, q1⟩, L⟩ := o
  have hz2 : hz = nI L.length := hG.2.1
  have hr2 : rl = nI 0 := hG.2.2.2
  subst hz2 hr2
  have hS : rS S ((n, g, s, sd), q0, q1) := hG.1
  have hH : rH h L := hG.2.2.1
  have hM : rM S.1 (n, g, s, sd) := hS.1
  have hkk : S.2.2.2 = nI (snp q0 + 2 * snp q1) := hS.2.1
  have f0 : ∀ m, q0 = some m → rM S.2.1 m := hS.2.2.1
  have f1 : ∀ m, q1 = some m → rM S.2.2.1 m := hS.2.2.2
  have hg : okG n g := hM.1
  have ho : okS s := hM.2.1
  have hw : okW sd := hM.2.2.1
  have cn : S.1.2.2.1 = nI n := hM.2.2.2.1
  have cv : ∀ d k, d < 20 → k < 7 → S.1.1 (d * 7 + k) = nI (g d k) := hM.2.2.2.2.1
  have cst : ∀ k, k < 6 → S.1.2.1 k = nI (s k) := hM.2.2.2.2.2.1
  have cw : S.1.2.2.2 = nI (wy sd) := hM.2.2.2.2.2.2
  have hn : n ≤ 20 := hg.1
  unfold p_X8_setCard
  by_cases hv : okC a1 a2
  · obtain ⟨k, x, hk, rfl, hx1, hx2, rfl⟩ := id hv
    have hx3 := (tC k hk).2.2.2
    simp (disch := omega) only [li_0, li_1, li_2, li_3, li_4, li_5, li_6, li_7, li_8, li_9, li_10, li_11, li_12, li_13, li_14, li_15, li_16, li_20, li_26, li_31, li_32, li_36, li_42, li_43, li_48, li_52, li_57, li_58, li_59, li_60, li_63, li_97, li_99, li_104, li_112, li_115, li_119, li_140, li_141, li_142, li_143, li_144, li_145, li_146, li_147, li_148, li_149, li_150, li_151, li_152, li_255, li_303, li_455, li_999, li_1000, li_1510, li_1820, li_2275, li_9999, li_10000, li_100000, li_1048575, li_100000000, e_isCardValue, hv, nI_eqI, Nat.one_ne_zero, true_and, and_true, not_true_eq_false, not_false_eq_true, true_imp_iff, false_imp_iff, false_and, and_false, imp_false, Classical.not_not, Bool.false_eq_true, Nat.zero_ne_one, Nat.one_ne_zero, Nat.not_lt_zero, if_true, if_false, implies_true]
    refine j_record hH hS ?_
    intro h' hH'
    unfold p_X3_changeSetting
    simp (disch := omega) only [li_0, li_1, li_2, li_3, li_4, li_5, li_6, li_7, li_8, li_9, li_10, li_11, li_12, li_13, li_14, li_15, li_16, li_20, li_26, li_31, li_32, li_36, li_42, li_43, li_48, li_52, li_57, li_58, li_59, li_60, li_63, li_97, li_99, li_104, li_112, li_115, li_119, li_140, li_141, li_142, li_143, li_144, li_145, li_146, li_147, li_148, li_149, li_150, li_151, li_152, li_255, li_303, li_455, li_999, li_1000, li_1510, li_1820, li_2275, li_9999, li_10000, li_100000, li_1048575, li_100000000, e_setting cst, e_isCardValue, hv, nI_eqI, vp_t, nI_clamp, hk, Nat.one_ne_zero, true_and, and_true, not_true_eq_false, not_false_eq_true, true_imp_iff, false_imp_iff, false_and, and_false, imp_false, Classical.not_not, Bool.false_eq_true, Nat.zero_ne_one, Nat.one_ne_zero, Nat.not_lt_zero, if_true, if_false, implies_true]
    refine ⟨_, good_act (o := (((n, g, s, sd), q0, q1), L)) (m' := mCard (n, g, s, sd) k x) hS hH' ⟨hg, ?_, hw, ⟨cn, cv, ?_, cw⟩⟩, fun k' x' h1 h2 h3 e1 e2 => ?_, fun q => absurd hv q⟩
    · intro k' hk'
      show loC k' ≤ (if k' = k then x else s k') ∧ (if k' = k then x else s k') ≤ hiC k'
      by_cases e : k' = k
      · rw [if_pos e, e]
        exact ⟨hx1, hx2⟩
      · rw [if_neg e]
        exact ho k' hk'
    · intro k' hk'
      show _ = nI (if k' = k then x else s k')
      by_cases e : k' = k
      · rw [if_pos e, e]
        exact pk_us
      · rw [if_neg e]
        exact (pk_un e).trans (cst k' hk')
    · have hx4 := (tC k' h1).2.2.2
      obtain rfl := nI_i e1 (by omega) (by omega)
      obtain rfl := nI_i e2 (by omega) (by omega)
      exact ⟨rfl, rfl⟩
  · simp (disch := omega) only [li_0, li_1, li_2, li_3, li_4, li_5, li_6, li_7, li_8, li_9, li_10, li_11, li_12, li_13, li_14, li_15, li_16, li_20, li_26, li_31, li_32, li_36, li_42, li_43, li_48, li_52, li_57, li_58, li_59, li_60, li_63, li_97, li_99, li_104, li_112, li_115, li_119, li_140, li_141, li_142, li_143, li_144, li_145, li_146, li_147, li_148, li_149, li_150, li_151, li_152, li_255, li_303, li_455, li_999, li_1000, li_1510, li_1820, li_2275, li_9999, li_10000, li_100000, li_1048575, li_100000000, e_isCardValue, hv, nI_eqI, Nat.one_ne_zero, true_and, and_true, not_true_eq_false, not_false_eq_true, true_imp_iff, false_imp_iff, false_and, and_false, imp_false, Classical.not_not, Bool.false_eq_true, Nat.zero_ne_one, Nat.one_ne_zero, Nat.not_lt_zero, if_true, if_false, implies_true]
    exact ⟨_, hG, fun k x h1 h2 h3 e1 e2 => absurd (by rw [e1, e2]; exact okC_i h1 h2 h3) hv, fun _ => ⟨rfl, rfl⟩⟩
theorem a_setSide {o : aO} {S : sS} {h : Nat → sS} {hz rl : Int32} (hG : Good0 o S h hz rl) (a1 a2 : Int32) : p_X8_setSide S h hz a1 a2 (fun (r : Int32) (S' : sS) (h' : Nat → sS) (hz' : Int32) => ∃ o' : aO, Good0 o' S' h' hz' rl ∧ sp_setSide o a1 a2 r o') := by
  obtain ⟨⟨⟨n, g, s, sd⟩, q0, q1⟩, L⟩ := o
  have hz2 : hz = nI L.length := hG.2.1
  have hr2 : rl = nI 0 := hG.2.2.2
  subst hz2 hr2
  have hS : rS S ((n, g, s, sd), q0, q1) := hG.1
  have hH : rH h L := hG.2.2.1
  have hM : rM S.1 (n, g, s, sd) := hS.1
  have hkk : S.2.2.2 = nI (snp q0 + 2 * snp q1) := hS.2.1
  have f0 : ∀ m, q0 = some m → rM S.2.1 m := hS.2.2.1
  have f1 : ∀ m, q1 = some m → rM S.2.2.1 m := hS.2.2.2
  have hg : okG n g := hM.1
  have ho : okS s := hM.2.1
  have hw : okW sd := hM.2.2.1
  have cn : S.1.2.2.1 = nI n := hM.2.2.2.1
  have cv : ∀ d k, d < 20 → k < 7 → S.1.1 (d * 7 + k) = nI (g d k) := hM.2.2.2.2.1
  have cst : ∀ k, k < 6 → S.1.2.1 k = nI (s k) := hM.2.2.2.2.2.1
  have cw : S.1.2.2.2 = nI (wy sd) := hM.2.2.2.2.2.2
  have hn : n ≤ 20 := hg.1
  have hwy := wy_lt hw
  unfold p_X8_setSide
  by_cases hc : ∃ x, 0 ≤ x ∧ x ≤ 3 ∧ a1 = nI x
  · by_cases hv : ∃ x, 0 ≤ x ∧ x ≤ 1 ∧ a2 = nI x
    · obtain ⟨k, _, hk, rfl⟩ := id hc
      obtain ⟨x, _, hx, rfl⟩ := id hv
      have hk4 : k < 4 := by omega
      have htb := wy_tb hw hk4
      simp (disch := omega) only [li_0, li_1, li_2, li_3, li_4, li_5, li_6, li_7, li_8, li_9, li_10, li_11, li_12, li_13, li_14, li_15, li_16, li_20, li_26, li_31, li_32, li_36, li_42, li_43, li_48, li_52, li_57, li_58, li_59, li_60, li_63, li_97, li_99, li_104, li_112, li_115, li_119, li_140, li_141, li_142, li_143, li_144, li_145, li_146, li_147, li_148, li_149, li_150, li_151, li_152, li_255, li_303, li_455, li_999, li_1000, li_1510, li_1820, li_2275, li_9999, li_10000, li_100000, li_1048575, li_100000000, e_inRange, e_isSide, hc, hv, nI_eqI, Nat.one_ne_zero, true_and, and_true, not_true_eq_false, not_false_eq_true, true_imp_iff, false_imp_iff, false_and, and_false, imp_false, Classical.not_not, Bool.false_eq_true, Nat.zero_ne_one, Nat.one_ne_zero, Nat.not_lt_zero, if_true, if_false, implies_true]
      refine j_record hH hS ?_
      intro h' hH'
      simp (disch := omega) only [li_0, li_1, li_2, li_3, li_4, li_5, li_6, li_7, li_8, li_9, li_10, li_11, li_12, li_13, li_14, li_15, li_16, li_20, li_26, li_31, li_32, li_36, li_42, li_43, li_48, li_52, li_57, li_58, li_59, li_60, li_63, li_97, li_99, li_104, li_112, li_115, li_119, li_140, li_141, li_142, li_143, li_144, li_145, li_146, li_147, li_148, li_149, li_150, li_151, li_152, li_255, li_303, li_455, li_999, li_1000, li_1510, li_1820, li_2275, li_9999, li_10000, li_100000, li_1048575, li_100000000, cw, e_sideIn, htb, e_putCourse hw]
      refine ⟨_, good_act (o := (((n, g, s, sd), q0, q1), L)) (m' := mSide (n, g, s, sd) k x) hS hH' ⟨hg, ho, ?_, ⟨cn, cv, cst, rfl⟩⟩, fun k' x' h1 h2 e1 e2 => ?_, fun q => absurd ⟨hc, hv⟩ q⟩
      · intro c hc
        show (if c = k then x else sd c) ≤ 1
        by_cases e : c = k
        · rw [if_pos e]
          exact hx
        · rw [if_neg e]
          exact hw c hc
      · obtain rfl := nI_i e1 (by omega) (by omega)
        obtain rfl := nI_i e2 (by omega) (by omega)
        exact ⟨rfl, rfl⟩
    · simp (disch := omega) only [li_0, li_1, li_2, li_3, li_4, li_5, li_6, li_7, li_8, li_9, li_10, li_11, li_12, li_13, li_14, li_15, li_16, li_20, li_26, li_31, li_32, li_36, li_42, li_43, li_48, li_52, li_57, li_58, li_59, li_60, li_63, li_97, li_99, li_104, li_112, li_115, li_119, li_140, li_141, li_142, li_143, li_144, li_145, li_146, li_147, li_148, li_149, li_150, li_151, li_152, li_255, li_303, li_455, li_999, li_1000, li_1510, li_1820, li_2275, li_9999, li_10000, li_100000, li_1048575, li_100000000, e_inRange, e_isSide, hc, hv, nI_eqI, Nat.one_ne_zero, true_and, and_true, not_true_eq_false, not_false_eq_true, true_imp_iff, false_imp_iff, false_and, and_false, imp_false, Classical.not_not, Bool.false_eq_true, Nat.zero_ne_one, Nat.one_ne_zero, Nat.not_lt_zero, if_true, if_false, implies_true]
      exact ⟨_, hG, fun k x h1 h2 e1 e2 => absurd ⟨x, Nat.zero_le _, h2, e2⟩ hv, fun _ => ⟨rfl, rfl⟩⟩
  · simp (disch := omega) only [li_0, li_1, li_2, li_3, li_4, li_5, li_6, li_7, li_8, li_9, li_10, li_11, li_12, li_13, li_14, li_15, li_16, li_20, li_26, li_31, li_32, li_36, li_42, li_43, li_48, li_52, li_57, li_58, li_59, li_60, li_63, li_97, li_99, li_104, li_112, li_115, li_119, li_140, li_141, li_142, li_143, li_144, li_145, li_146, li_147, li_148, li_149, li_150, li_151, li_152, li_255, li_303, li_455, li_999, li_1000, li_1510, li_1820, li_2275, li_9999, li_10000, li_100000, li_1048575, li_100000000, e_inRange, e_isSide, hc, nI_eqI, Nat.one_ne_zero, true_and, and_true, not_true_eq_false, not_false_eq_true, true_imp_iff, false_imp_iff, false_and, and_false, imp_false, Classical.not_not, Bool.false_eq_true, Nat.zero_ne_one, Nat.one_ne_zero, Nat.not_lt_zero, if_true, if_false, implies_true]
    exact ⟨_, hG, fun k x h1 h2 e1 e2 => absurd ⟨k, Nat.zero_le _, by omega, e1⟩ hc, fun _ => ⟨rfl, rfl⟩⟩
theorem rM_wm {M : sM} {m : aM} (h : rM M m) {b : Nat} (hb : b ≤ 15) : rM (M.1, M.2.1, M.2.2.1, nI b) (wm m b) := by
  obtain ⟨hg, ho, hw, ⟨cn, cv, cst, cw⟩⟩ := h
  have hwyb : nI b = nI (wy (fun c => tb b c)) := by
    have : ∀ b, b < 16 → b = wy (fun c => tb b c) := by decide +kernel
    exact congrArg nI (this b (by omega))
  exact ⟨hg, ho, okW_tb b, ⟨cn, cv, cst, hwyb⟩⟩
theorem bwy_le (m : aM) : bwy m ≤ 15 := bst_le _ 15
theorem a_arrange {o : aO} {S : sS} {h : Nat → sS} {hz rl : Int32} (hG : Good0 o S h hz rl) {printing_dishes : Nat → Int32} {printing_lines : Nat → Int32} {printing_weights : Nat → Int32} {fold_parts : Nat → Nat → Int32} {fold_weights : Nat → Int32} {fold_places : Nat → Int32} {otherFold_parts : Nat → Nat → Int32} {otherFold_weights : Nat → Int32} {otherFold_places : Nat → Int32} {otherFold_keySide : Int32} {otherFold_gap : Int32} : p_X8_arrange S h hz printing_dishes printing_lines printing_weights fold_parts fold_weights fold_places otherFold_parts otherFold_weights otherFold_places otherFold_keySide otherFold_gap (fun (r : Int32) (S' : sS) (h' : Nat → sS) (hz' : Int32) (_ : Nat → Int32) (_ : Nat → Int32) (_ : Nat → Int32) (_ : Int32) (_ : Int32) (_ : Int32) (_ : Int32) (_ : Int32) (_ : Nat → Nat → Int32) (_ : Nat → Int32) (_ : Nat → Int32) (_ : Int32) (_ : Int32) (_ : Nat → Nat → Int32) (_ : Nat → Int32) (_ : Nat → Int32) (_ : Int32) (_ : Int32) => ∃ o' : aO, Good0 o' S' h' hz' rl ∧ sp_arrange o  r o') := by
  obtain ⟨⟨⟨n, g, s, sd⟩, q0, q1⟩, L⟩ := o
  have hz2 : hz = nI L.length := hG.2.1
  have hr2 : rl = nI 0 := hG.2.2.2
  subst hz2 hr2
  have hS : rS S ((n, g, s, sd), q0, q1) := hG.1
  have hH : rH h L := hG.2.2.1
  have hM : rM S.1 (n, g, s, sd) := hS.1
  have hkk : S.2.2.2 = nI (snp q0 + 2 * snp q1) := hS.2.1
  have f0 : ∀ m, q0 = some m → rM S.2.1 m := hS.2.2.1
  have f1 : ∀ m, q1 = some m → rM S.2.2.1 m := hS.2.2.2
  have hg : okG n g := hM.1
  have ho : okS s := hM.2.1
  have hw : okW sd := hM.2.2.1
  have cn : S.1.2.2.1 = nI n := hM.2.2.2.1
  have cv : ∀ d k, d < 20 → k < 7 → S.1.1 (d * 7 + k) = nI (g d k) := hM.2.2.2.2.1
  have cst : ∀ k, k < 6 → S.1.2.1 k = nI (s k) := hM.2.2.2.2.2.1
  have cw : S.1.2.2.2 = nI (wy sd) := hM.2.2.2.2.2.2
  have hn : n ≤ 20 := hg.1
  have hb15 := bwy_le (n, g, s, sd)
  unfold p_X8_arrange
  refine j_record hH hS ?_
  intro h' hH'
  rw [cn]
  refine i_findPrinted cv cst hg ho ?_
  intro D' L' W' set num pri all col hP
  refine i_foldBestWay hg ho hP cst ?_
  intro b p1 w1 l1 ks gap p2 w2 l2 ks2 gap2 hb R1
  have hb : b = bwy (n, g, s, sd) := hb
  subst hb
  have hX := wx_ok (prt g (s 2) (s 0) (s 5)) hg ho (fun c => tb (bwy (n, g, s, sd)) c)
  rw [e_difference R1 hX]
  exact ⟨_, good_act (o := (((n, g, s, sd), q0, q1), L)) (m' := wm (n, g, s, sd) (bwy (n, g, s, sd))) hS hH' (by have := rM_wm hM hb15; rw [cn] at this; exact this), rfl, rfl⟩
theorem a_choose {o : aO} {S : sS} {h : Nat → sS} {hz rl : Int32} (hG : Good0 o S h hz rl) {finder_best : Nat → Nat → Int64} {finder_candidates : Nat → Int32} {finder_candidateCount : Int32} {finder_lineBound : Int32} {finder_found : Int64} (a1 a2 a3 : Int32) : p_X8_choose S h hz finder_best finder_candidates finder_candidateCount finder_lineBound finder_found a1 a2 a3 (fun (r : Int32) (S' : sS) (h' : Nat → sS) (hz' : Int32) (_ : Nat → Nat → Int64) (_ : Nat → Int32) (_ : Int32) (_ : Int32) (_ : Int64) => ∃ o' : aO, Good0 o' S' h' hz' rl ∧ sp_choose o a1 a2 a3 r o') := by
  obtain ⟨⟨⟨n, g, s, sd⟩, q0, q1⟩, L⟩ := o
  have hz2 : hz = nI L.length := hG.2.1
  have hr2 : rl = nI 0 := hG.2.2.2
  subst hz2 hr2
  have hS : rS S ((n, g, s, sd), q0, q1) := hG.1
  have hH : rH h L := hG.2.2.1
  have hM : rM S.1 (n, g, s, sd) := hS.1
  have hkk : S.2.2.2 = nI (snp q0 + 2 * snp q1) := hS.2.1
  have f0 : ∀ m, q0 = some m → rM S.2.1 m := hS.2.2.1
  have f1 : ∀ m, q1 = some m → rM S.2.2.1 m := hS.2.2.2
  have hg : okG n g := hM.1
  have ho : okS s := hM.2.1
  have hw : okW sd := hM.2.2.1
  have cn : S.1.2.2.1 = nI n := hM.2.2.2.1
  have cv : ∀ d k, d < 20 → k < 7 → S.1.1 (d * 7 + k) = nI (g d k) := hM.2.2.2.2.1
  have cst : ∀ k, k < 6 → S.1.2.1 k = nI (s k) := hM.2.2.2.2.2.1
  have cw : S.1.2.2.2 = nI (wy sd) := hM.2.2.2.2.2.2
  have hn : n ≤ 20 := hg.1
  unfold p_X8_choose
  rw [e_areSet]
  refine ⟨fun ha => ⟨fun _ => ?_, fun e => absurd e (by decide)⟩, fun ha => ⟨fun e => absurd rfl e, fun _ => ⟨_, hG, fun t l col h1 h2 h3 h4 e1 e2 e3 => absurd ⟨⟨t, Nat.zero_le _, h1, e1⟩, ⟨l, Nat.zero_le _, h2, e2⟩, ⟨col, h3, h4, e3⟩⟩ ha, fun _ => ⟨rfl, rfl⟩⟩⟩⟩
  obtain ⟨⟨side, _, hside, rfl⟩, ⟨lines, _, hlines, rfl⟩, ⟨col, hcol1, hcol, rfl⟩⟩ := id ha
  have hmem : ∀ d, d ∈ ca (qb g s col) g sd side n 4 → d < n := fun d hd => (ca_mem hd).1
  have hlen := ca_len4 (qb g s col) g sd side n 4 (Nat.le_refl 4)
  have hndn : ∀ i, i < (ca (qb g s col) g sd side n 4).length → nd (ca (qb g s col) g sd side n 4) i < n := fun i hi => hmem _ (nd_mem hi)
  rw [cn, cw]
  refine i_find6 hg ho hw cv cst hside hlines hcol ?_
  intro b1 cd1 lb found hcd1 hfound
  have hb := fo_b hg ho (col := col) hmem (by omega)
  have hm := (okT_mg hb (by unfold WW; omega)).1 0 lines
  have hV : fnd (n, g, s, sd) side lines col = mg (fo g s col (ca (qb g s col) g sd side n 4)).2.2 0 lines := rfl
  have hf0 : fnN (n, g, s, sd) side lines col = (mg (fo g s col (ca (qb g s col) g sd side n 4)).2.2 0 lines + 1048575).toNat := rfl
  have inj : ∀ {t l c : Nat}, t ≤ 1 → l ≤ 150 → c ≤ 4 → nI side = nI t → nI lines = nI l → nI col = nI c → t = side ∧ l = lines ∧ c = col := fun h1 h2 h3 e1 e2 e3 => ⟨(nI_i e1 (by omega) (by omega)).symm, (nI_i e2 (by omega) (by omega)).symm, (nI_i e3 (by omega) (by omega)).symm⟩
  rw [e_hasFound]
  unfold phi at hfound
  unfold WW at hm
  refine ⟨fun hneg => ⟨fun e => absurd rfl e, fun _ => ?_⟩, fun hpos => ⟨fun _ => ?_, fun e => absurd e (by decide)⟩⟩
  · refine ⟨_, hG, fun t l c h1 h2 h3 h4 e1 e2 e3 => ?_, fun q => absurd ha q⟩
    obtain ⟨rfl, rfl, rfl⟩ := inj h1 h2 h4 e1 e2 e3
    refine ⟨fun _ => ⟨rfl, rfl⟩, fun q => ?_⟩
    have q : 0 ≤ fnd (n, g, s, sd) t l c := q
    rw [hV] at q
    rw [if_neg (by omega)] at hfound
    omega
  · have hp : ¬ mg (fo g s col (ca (qb g s col) g sd side n 4)).2.2 0 lines < 0 := by
      intro q
      rw [if_pos q] at hfound
      omega
    rw [if_neg hp] at hfound
    have hf1 : fnN (n, g, s, sd) side lines col < 2 ^ 50 := by rw [hf0]; omega
    have hff : found = lN (fnN (n, g, s, sd) side lines col) := lN_of (by omega) (by rw [hfound, hf0]; omega)
    subst hff
    have hb1 : ∀ i, 1 - tb (fnN (n, g, s, sd) side lines col) i ≤ 1 := fun i => Nat.sub_le _ _
    refine j_record hH hS ?_
    intro h' hH'
    refine i_offerFound hn cv hf1 (by omega) hndn hcd1 ?_
    intro v' hv'
    rw [e_prices hf1]
    refine ⟨_, good_act (o := (((n, g, s, sd), q0, q1), L)) (m' := mSet (n, g, s, sd) side lines col) hS hH' ⟨gu_ok hg _ hb1 _, ho, hw, ⟨rfl, hv', cst, rfl⟩⟩, fun t l c h1 h2 h3 h4 e1 e2 e3 => ?_, fun q => absurd ha q⟩
    obtain ⟨rfl, rfl, rfl⟩ := inj h1 h2 h4 e1 e2 e3
    exact ⟨fun q => absurd (show fnd (n, g, s, sd) t l c < 0 from q) (by rw [hV]; exact hp), fun _ => ⟨rfl, rfl⟩⟩
theorem a_take {o : aO} {S : sS} {h : Nat → sS} {hz rl : Int32} (hG : Good0 o S h hz rl) {printing_dishes : Nat → Int32} {printing_lines : Nat → Int32} {printing_weights : Nat → Int32} {printing_set : Int32} {printing_number : Int32} {printing_prices : Int32} {printing_allergens : Int32} {printing_column : Int32} (a1 : Int32) : p_X8_take S h hz printing_dishes printing_lines printing_weights printing_set printing_number printing_prices printing_allergens printing_column a1 (fun (r : Int32) (S' : sS) (h' : Nat → sS) (hz' : Int32) (_ : Nat → Int32) (_ : Nat → Int32) (_ : Nat → Int32) (_ : Int32) (_ : Int32) (_ : Int32) (_ : Int32) (_ : Int32) => ∃ o' : aO, Good0 o' S' h' hz' rl ∧ sp_take o a1 r o') := by
  obtain ⟨⟨⟨n, g, s, sd⟩, q0, q1⟩, L⟩ := o
  have hz2 : hz = nI L.length := hG.2.1
  have hr2 : rl = nI 0 := hG.2.2.2
  subst hz2 hr2
  have hS : rS S ((n, g, s, sd), q0, q1) := hG.1
  have hH : rH h L := hG.2.2.1
  have hM : rM S.1 (n, g, s, sd) := hS.1
  have hkk : S.2.2.2 = nI (snp q0 + 2 * snp q1) := hS.2.1
  have f0 : ∀ m, q0 = some m → rM S.2.1 m := hS.2.2.1
  have f1 : ∀ m, q1 = some m → rM S.2.2.1 m := hS.2.2.2
  have hg : okG n g := hM.1
  have ho : okS s := hM.2.1
  have hw : okW sd := hM.2.2.1
  have cn : S.1.2.2.1 = nI n := hM.2.2.2.1
  have cv : ∀ d k, d < 20 → k < 7 → S.1.1 (d * 7 + k) = nI (g d k) := hM.2.2.2.2.1
  have cst : ∀ k, k < 6 → S.1.2.1 k = nI (s k) := hM.2.2.2.2.2.1
  have cw : S.1.2.2.2 = nI (wy sd) := hM.2.2.2.2.2.2
  have hn : n ≤ 20 := hg.1
  unfold p_X8_take
  by_cases h9 : ∃ x, 0 ≤ x ∧ x ≤ 1 ∧ a1 = nI x
  · obtain ⟨k, _, hk, rfl⟩ := id h9
    have hs0 := snp_le q0
    have hs1 := snp_le q1
    have hor := kk_or (snp q0) (by omega) (snp q1) (by omega)
    have hM' : rM (S.1.1, S.1.2.1, nI n, S.1.2.2.2) (n, g, s, sd) := by
      rw [← cn]
      exact hM
    simp (disch := omega) only [li_0, li_1, li_2, li_3, li_4, li_5, li_6, li_7, li_8, li_9, li_10, li_11, li_12, li_13, li_14, li_15, li_16, li_20, li_26, li_31, li_32, li_36, li_42, li_43, li_48, li_52, li_57, li_58, li_59, li_60, li_63, li_97, li_99, li_104, li_112, li_115, li_119, li_140, li_141, li_142, li_143, li_144, li_145, li_146, li_147, li_148, li_149, li_150, li_151, li_152, li_255, li_303, li_455, li_999, li_1000, li_1510, li_1820, li_2275, li_9999, li_10000, li_100000, li_1048575, li_100000000, e_isSlot, h9, nI_eqI, Nat.one_ne_zero, true_and, and_true, not_true_eq_false, not_false_eq_true, true_imp_iff, false_imp_iff, false_and, and_false, imp_false, Classical.not_not, Bool.false_eq_true, Nat.zero_ne_one, Nat.one_ne_zero, Nat.not_lt_zero, if_true, if_false, implies_true]
    have : k = 0 ∨ k = 1 := by omega
    rcases this with rfl | rfl
    · have hor := hor 0 (by decide)
      refine j_record hH hS ?_
      intro h' hH'
      unfold p_X7_keep
      simp (disch := omega) only [li_0, li_1, li_2, li_3, li_4, li_5, li_6, li_7, li_8, li_9, li_10, li_11, li_12, li_13, li_14, li_15, li_16, li_20, li_26, li_31, li_32, li_36, li_42, li_43, li_48, li_52, li_57, li_58, li_59, li_60, li_63, li_97, li_99, li_104, li_112, li_115, li_119, li_140, li_141, li_142, li_143, li_144, li_145, li_146, li_147, li_148, li_149, li_150, li_151, li_152, li_255, li_303, li_455, li_999, li_1000, li_1510, li_1820, li_2275, li_9999, li_10000, li_100000, li_1048575, li_100000000, e_isSlot, h9, nI_eqI, vp_t, nI_clamp, e_copyFrom, hkk, hor, Nat.one_ne_zero, Nat.zero_ne_one, Nat.reduceLT, if_true, if_false, true_and, and_true, not_true_eq_false, not_false_eq_true, true_imp_iff, false_imp_iff, false_and, and_false, imp_false, Classical.not_not, Bool.false_eq_true, Nat.zero_ne_one, Nat.one_ne_zero, Nat.not_lt_zero, if_true, if_false, implies_true]
      rw [cn]
      refine i_findPrinted cv cst hg ho ?_
      intro D' L' W' set num pri all col hP
      obtain ⟨_, _, _, _, rfl, _, _, _⟩ := hP
      refine ⟨(((n, g, s, sd), some (n, g, s, sd), q1), push L ((n, g, s, sd), q0, q1)), ⟨⟨hM', rfl, fun m e => ?_, f1⟩, rfl, hH', rfl⟩, fun k hk e => ?_, fun q => absurd h9 q⟩
      · cases e
        exact rM_cpy hM'
      · obtain rfl := nI_i e (by omega) (by omega)
        exact ⟨rfl, rfl⟩
    · have hor := hor 1 (by decide)
      refine j_record hH hS ?_
      intro h' hH'
      unfold p_X7_keep
      simp (disch := omega) only [li_0, li_1, li_2, li_3, li_4, li_5, li_6, li_7, li_8, li_9, li_10, li_11, li_12, li_13, li_14, li_15, li_16, li_20, li_26, li_31, li_32, li_36, li_42, li_43, li_48, li_52, li_57, li_58, li_59, li_60, li_63, li_97, li_99, li_104, li_112, li_115, li_119, li_140, li_141, li_142, li_143, li_144, li_145, li_146, li_147, li_148, li_149, li_150, li_151, li_152, li_255, li_303, li_455, li_999, li_1000, li_1510, li_1820, li_2275, li_9999, li_10000, li_100000, li_1048575, li_100000000, e_isSlot, h9, nI_eqI, vp_t, nI_clamp, e_copyFrom, hkk, hor, Nat.one_ne_zero, Nat.zero_ne_one, Nat.reduceLT, if_true, if_false, true_and, and_true, not_true_eq_false, not_false_eq_true, true_imp_iff, false_imp_iff, false_and, and_false, imp_false, Classical.not_not, Bool.false_eq_true, Nat.zero_ne_one, Nat.one_ne_zero, Nat.not_lt_zero, if_true, if_false, implies_true]
      rw [cn]
      refine i_findPrinted cv cst hg ho ?_
      intro D' L' W' set num pri all col hP
      obtain ⟨_, _, _, _, rfl, _, _, _⟩ := hP
      refine ⟨(((n, g, s, sd), q0, some (n, g, s, sd)), push L ((n, g, s, sd), q0, q1)), ⟨⟨hM', rfl, f0, fun m e => ?_⟩, rfl, hH', rfl⟩, fun k hk e => ?_, fun q => absurd h9 q⟩
      · cases e
        exact rM_cpy hM'
      · obtain rfl := nI_i e (by omega) (by omega)
        exact ⟨rfl, rfl⟩
  · simp (disch := omega) only [li_0, li_1, li_2, li_3, li_4, li_5, li_6, li_7, li_8, li_9, li_10, li_11, li_12, li_13, li_14, li_15, li_16, li_20, li_26, li_31, li_32, li_36, li_42, li_43, li_48, li_52, li_57, li_58, li_59, li_60, li_63, li_97, li_99, li_104, li_112, li_115, li_119, li_140, li_141, li_142, li_143, li_144, li_145, li_146, li_147, li_148, li_149, li_150, li_151, li_152, li_255, li_303, li_455, li_999, li_1000, li_1510, li_1820, li_2275, li_9999, li_10000, li_100000, li_1048575, li_100000000, e_isSlot, h9, nI_eqI, Nat.one_ne_zero, true_and, and_true, not_true_eq_false, not_false_eq_true, true_imp_iff, false_imp_iff, false_and, and_false, imp_false, Classical.not_not, Bool.false_eq_true, Nat.zero_ne_one, Nat.one_ne_zero, Nat.not_lt_zero, if_true, if_false, implies_true]
    exact ⟨_, hG, fun k hk e => absurd ⟨k, Nat.zero_le _, hk, e⟩ h9, fun _ => ⟨rfl, rfl⟩⟩
theorem snp_0 {q : Option aM} (h : q = none) : snp q = 0 := by
  subst h
  rfl
theorem snp_1 {q : Option aM} {m : aM} (h : q = some m) : snp q = 1 := by
  subst h
  rfl
theorem a_restore {o : aO} {S : sS} {h : Nat → sS} {hz rl : Int32} (hG : Good0 o S h hz rl) {printing_dishes : Nat → Int32} {printing_lines : Nat → Int32} {printing_weights : Nat → Int32} {printing_set : Int32} {printing_number : Int32} {printing_prices : Int32} {printing_allergens : Int32} {printing_column : Int32} (a1 : Int32) : p_X8_restore S h hz printing_dishes printing_lines printing_weights printing_set printing_number printing_prices printing_allergens printing_column a1 (fun (r : Int32) (S' : sS) (h' : Nat → sS) (hz' : Int32) (_ : Nat → Int32) (_ : Nat → Int32) (_ : Nat → Int32) (_ : Int32) (_ : Int32) (_ : Int32) (_ : Int32) (_ : Int32) => ∃ o' : aO, Good0 o' S' h' hz' rl ∧ sp_restore o a1 r o') := by
  obtain ⟨⟨⟨n, g, s, sd⟩, q0, q1⟩, L⟩ := o
  have hz2 : hz = nI L.length := hG.2.1
  have hr2 : rl = nI 0 := hG.2.2.2
  subst hz2 hr2
  have hS : rS S ((n, g, s, sd), q0, q1) := hG.1
  have hH : rH h L := hG.2.2.1
  have hM : rM S.1 (n, g, s, sd) := hS.1
  have hkk : S.2.2.2 = nI (snp q0 + 2 * snp q1) := hS.2.1
  have f0 : ∀ m, q0 = some m → rM S.2.1 m := hS.2.2.1
  have f1 : ∀ m, q1 = some m → rM S.2.2.1 m := hS.2.2.2
  have hg : okG n g := hM.1
  have ho : okS s := hM.2.1
  have hw : okW sd := hM.2.2.1
  have cn : S.1.2.2.1 = nI n := hM.2.2.2.1
  have cv : ∀ d k, d < 20 → k < 7 → S.1.1 (d * 7 + k) = nI (g d k) := hM.2.2.2.2.1
  have cst : ∀ k, k < 6 → S.1.2.1 k = nI (s k) := hM.2.2.2.2.2.1
  have cw : S.1.2.2.2 = nI (wy sd) := hM.2.2.2.2.2.2
  have hn : n ≤ 20 := hg.1
  unfold p_X8_restore
  by_cases h9 : ∃ x, 0 ≤ x ∧ x ≤ 1 ∧ a1 = nI x
  · obtain ⟨k, _, hk, rfl⟩ := id h9
    have hs0 := snp_le q0
    have hs1 := snp_le q1
    have htb := kk_tb (snp q0) (by omega) (snp q1) (by omega)
    have : k = 0 ∨ k = 1 := by omega
    rcases this with rfl | rfl
    · unfold p_X7_isKept
      rcases Option.eq_none_or_eq_some q0 with hq | ⟨m2, hq⟩
      · have hb : ¬ tb (snp q0 + 2 * snp q1) 0 = 1 := by rw [htb.1, snp_0 hq]; decide
        simp (disch := omega) only [li_0, li_1, li_2, li_3, li_4, li_5, li_6, li_7, li_8, li_9, li_10, li_11, li_12, li_13, li_14, li_15, li_16, li_20, li_26, li_31, li_32, li_36, li_42, li_43, li_48, li_52, li_57, li_58, li_59, li_60, li_63, li_97, li_99, li_104, li_112, li_115, li_119, li_140, li_141, li_142, li_143, li_144, li_145, li_146, li_147, li_148, li_149, li_150, li_151, li_152, li_255, li_303, li_455, li_999, li_1000, li_1510, li_1820, li_2275, li_9999, li_10000, li_100000, li_1048575, li_100000000, e_isSlot, h9, hkk, e_has, hb, nI_eqI, Nat.one_ne_zero, Nat.zero_ne_one, true_and, and_true, not_true_eq_false, not_false_eq_true, true_imp_iff, false_imp_iff, false_and, and_false, imp_false, Classical.not_not, Bool.false_eq_true, Nat.zero_ne_one, Nat.one_ne_zero, Nat.not_lt_zero, if_true, if_false, implies_true]
        refine ⟨_, hG, fun k hk e => ?_, fun q => absurd h9 q⟩
        obtain rfl := nI_i e (by omega) (by omega)
        exact ⟨fun _ => ⟨rfl, rfl⟩, fun m e2 => by have e3 : q0 = some m := e2; rw [hq] at e3; cases e3⟩
      · have hb : tb (snp q0 + 2 * snp q1) 0 = 1 := by rw [htb.1, snp_1 hq]
        simp (disch := omega) only [li_0, li_1, li_2, li_3, li_4, li_5, li_6, li_7, li_8, li_9, li_10, li_11, li_12, li_13, li_14, li_15, li_16, li_20, li_26, li_31, li_32, li_36, li_42, li_43, li_48, li_52, li_57, li_58, li_59, li_60, li_63, li_97, li_99, li_104, li_112, li_115, li_119, li_140, li_141, li_142, li_143, li_144, li_145, li_146, li_147, li_148, li_149, li_150, li_151, li_152, li_255, li_303, li_455, li_999, li_1000, li_1510, li_1820, li_2275, li_9999, li_10000, li_100000, li_1048575, li_100000000, e_isSlot, h9, hkk, e_has, hb, nI_eqI, Nat.one_ne_zero, true_and, and_true, not_true_eq_false, not_false_eq_true, true_imp_iff, false_imp_iff, false_and, and_false, imp_false, Classical.not_not, Bool.false_eq_true, Nat.zero_ne_one, Nat.one_ne_zero, Nat.not_lt_zero, if_true, if_false, implies_true]
        refine j_record hH hS ?_
        intro h' hH'
        unfold p_X7_bringBack p_X7_isKept
        simp (disch := omega) only [li_0, li_1, li_2, li_3, li_4, li_5, li_6, li_7, li_8, li_9, li_10, li_11, li_12, li_13, li_14, li_15, li_16, li_20, li_26, li_31, li_32, li_36, li_42, li_43, li_48, li_52, li_57, li_58, li_59, li_60, li_63, li_97, li_99, li_104, li_112, li_115, li_119, li_140, li_141, li_142, li_143, li_144, li_145, li_146, li_147, li_148, li_149, li_150, li_151, li_152, li_255, li_303, li_455, li_999, li_1000, li_1510, li_1820, li_2275, li_9999, li_10000, li_100000, li_1048575, li_100000000, e_isSlot, h9, hkk, e_has, hb, nI_eqI, vp_t, nI_clamp, e_copyFrom, Nat.one_ne_zero, Nat.zero_ne_one, Nat.reduceLT, true_and, and_true, not_true_eq_false, not_false_eq_true, true_imp_iff, false_imp_iff, false_and, and_false, imp_false, Classical.not_not, Bool.false_eq_true, Nat.zero_ne_one, Nat.one_ne_zero, Nat.not_lt_zero, if_true, if_false, implies_true]
        have hM2 := rM_cpy (v := S.1.1) (st := S.1.2.1) (f0 m2 hq)
        obtain ⟨hg2, ho2, hw2, ⟨cn2, cv2, cst2, cw2⟩⟩ := id hM2
        have cn2 : S.2.1.2.2.1 = nI m2.1 := cn2
        rw [cn2]
        refine i_findPrinted cv2 cst2 hg2 ho2 ?_
        intro D' L' W' set num pri all col hP
        obtain ⟨_, _, _, _, rfl, _, _, _⟩ := hP
        have hg := good_act (o := (((n, g, s, sd), q0, q1), L)) (m' := m2) hS hH' hM2
        refine ⟨_, by rw [← cn2, ← hkk]; exact hg, fun k hk e => ?_, fun q => absurd h9 q⟩
        obtain rfl := nI_i e (by omega) (by omega)
        refine ⟨fun e2 => ?_, fun m e2 => ?_⟩
        · have e3 : q0 = none := e2
          rw [hq] at e3
          cases e3
        · have e3 : q0 = some m := e2
          rw [hq] at e3
          cases e3
          exact ⟨rfl, rfl⟩
    · unfold p_X7_isKept
      rcases Option.eq_none_or_eq_some q1 with hq | ⟨m2, hq⟩
      · have hb : ¬ tb (snp q0 + 2 * snp q1) 1 = 1 := by rw [htb.2, snp_0 hq]; decide
        simp (disch := omega) only [li_0, li_1, li_2, li_3, li_4, li_5, li_6, li_7, li_8, li_9, li_10, li_11, li_12, li_13, li_14, li_15, li_16, li_20, li_26, li_31, li_32, li_36, li_42, li_43, li_48, li_52, li_57, li_58, li_59, li_60, li_63, li_97, li_99, li_104, li_112, li_115, li_119, li_140, li_141, li_142, li_143, li_144, li_145, li_146, li_147, li_148, li_149, li_150, li_151, li_152, li_255, li_303, li_455, li_999, li_1000, li_1510, li_1820, li_2275, li_9999, li_10000, li_100000, li_1048575, li_100000000, e_isSlot, h9, hkk, e_has, hb, nI_eqI, Nat.one_ne_zero, Nat.zero_ne_one, true_and, and_true, not_true_eq_false, not_false_eq_true, true_imp_iff, false_imp_iff, false_and, and_false, imp_false, Classical.not_not, Bool.false_eq_true, Nat.zero_ne_one, Nat.one_ne_zero, Nat.not_lt_zero, if_true, if_false, implies_true]
        refine ⟨_, hG, fun k hk e => ?_, fun q => absurd h9 q⟩
        obtain rfl := nI_i e (by omega) (by omega)
        exact ⟨fun _ => ⟨rfl, rfl⟩, fun m e2 => by have e3 : q1 = some m := e2; rw [hq] at e3; cases e3⟩
      · have hb : tb (snp q0 + 2 * snp q1) 1 = 1 := by rw [htb.2, snp_1 hq]
        simp (disch := omega) only [li_0, li_1, li_2, li_3, li_4, li_5, li_6, li_7, li_8, li_9, li_10, li_11, li_12, li_13, li_14, li_15, li_16, li_20, li_26, li_31, li_32, li_36, li_42, li_43, li_48, li_52, li_57, li_58, li_59, li_60, li_63, li_97, li_99, li_104, li_112, li_115, li_119, li_140, li_141, li_142, li_143, li_144, li_145, li_146, li_147, li_148, li_149, li_150, li_151, li_152, li_255, li_303, li_455, li_999, li_1000, li_1510, li_1820, li_2275, li_9999, li_10000, li_100000, li_1048575, li_100000000, e_isSlot, h9, hkk, e_has, hb, nI_eqI, Nat.one_ne_zero, true_and, and_true, not_true_eq_false, not_false_eq_true, true_imp_iff, false_imp_iff, false_and, and_false, imp_false, Classical.not_not, Bool.false_eq_true, Nat.zero_ne_one, Nat.one_ne_zero, Nat.not_lt_zero, if_true, if_false, implies_true]
        refine j_record hH hS ?_
        intro h' hH'
        unfold p_X7_bringBack p_X7_isKept
        simp (disch := omega) only [li_0, li_1, li_2, li_3, li_4, li_5, li_6, li_7, li_8, li_9, li_10, li_11, li_12, li_13, li_14, li_15, li_16, li_20, li_26, li_31, li_32, li_36, li_42, li_43, li_48, li_52, li_57, li_58, li_59, li_60, li_63, li_97, li_99, li_104, li_112, li_115, li_119, li_140, li_141, li_142, li_143, li_144, li_145, li_146, li_147, li_148, li_149, li_150, li_151, li_152, li_255, li_303, li_455, li_999, li_1000, li_1510, li_1820, li_2275, li_9999, li_10000, li_100000, li_1048575, li_100000000, e_isSlot, h9, hkk, e_has, hb, nI_eqI, vp_t, nI_clamp, e_copyFrom, Nat.one_ne_zero, Nat.zero_ne_one, Nat.reduceLT, true_and, and_true, not_true_eq_false, not_false_eq_true, true_imp_iff, false_imp_iff, false_and, and_false, imp_false, Classical.not_not, Bool.false_eq_true, Nat.zero_ne_one, Nat.one_ne_zero, Nat.not_lt_zero, if_true, if_false, implies_true]
        have hM2 := rM_cpy (v := S.1.1) (st := S.1.2.1) (f1 m2 hq)
        obtain ⟨hg2, ho2, hw2, ⟨cn2, cv2, cst2, cw2⟩⟩ := id hM2
        have cn2 : S.2.2.1.2.2.1 = nI m2.1 := cn2
        rw [cn2]
        refine i_findPrinted cv2 cst2 hg2 ho2 ?_
        intro D' L' W' set num pri all col hP
        obtain ⟨_, _, _, _, rfl, _, _, _⟩ := hP
        have hg := good_act (o := (((n, g, s, sd), q0, q1), L)) (m' := m2) hS hH' hM2
        refine ⟨_, by rw [← cn2, ← hkk]; exact hg, fun k hk e => ?_, fun q => absurd h9 q⟩
        obtain rfl := nI_i e (by omega) (by omega)
        refine ⟨fun e2 => ?_, fun m e2 => ?_⟩
        · have e3 : q1 = none := e2
          rw [hq] at e3
          cases e3
        · have e3 : q1 = some m := e2
          rw [hq] at e3
          cases e3
          exact ⟨rfl, rfl⟩
  · simp (disch := omega) only [li_0, li_1, li_2, li_3, li_4, li_5, li_6, li_7, li_8, li_9, li_10, li_11, li_12, li_13, li_14, li_15, li_16, li_20, li_26, li_31, li_32, li_36, li_42, li_43, li_48, li_52, li_57, li_58, li_59, li_60, li_63, li_97, li_99, li_104, li_112, li_115, li_119, li_140, li_141, li_142, li_143, li_144, li_145, li_146, li_147, li_148, li_149, li_150, li_151, li_152, li_255, li_303, li_455, li_999, li_1000, li_1510, li_1820, li_2275, li_9999, li_10000, li_100000, li_1048575, li_100000000, e_isSlot, h9, nI_eqI, Nat.one_ne_zero, true_and, and_true, not_true_eq_false, not_false_eq_true, true_imp_iff, false_imp_iff, false_and, and_false, imp_false, Classical.not_not, Bool.false_eq_true, Nat.zero_ne_one, Nat.one_ne_zero, Nat.not_lt_zero, if_true, if_false, implies_true]
    exact ⟨_, hG, fun k hk e => absurd ⟨k, Nat.zero_le _, hk, e⟩ h9, fun _ => ⟨rfl, rfl⟩⟩
theorem l_last {α : Type} : ∀ {L : List α}, ¬ L.length = 0 → ∃ (L1 : List α) (v : α), L = L1 ++ [v]
  | [], h => absurd rfl h
  | [a], _ => ⟨[], a, rfl⟩
  | a :: b :: t, _ => by
    obtain ⟨L1, v, h⟩ := l_last (L := b :: t) (fun q => Nat.noConfusion q)
    exact ⟨a :: L1, v, by rw [h]; rfl⟩
theorem a_undo {o : aO} {S : sS} {h : Nat → sS} {hz rl : Int32} (hG : Good0 o S h hz rl) : p_X8_undo S h hz (fun (r : Int32) (S' : sS) (hz' : Int32) => ∃ o' : aO, Good0 o' S' h hz' rl ∧ sp_undo o  r o') := by
  obtain ⟨⟨⟨n, g, s, sd⟩, q0, q1⟩, L⟩ := o
  have hz2 : hz = nI L.length := hG.2.1
  have hr2 : rl = nI 0 := hG.2.2.2
  subst hz2 hr2
  have hS : rS S ((n, g, s, sd), q0, q1) := hG.1
  have hH : rH h L := hG.2.2.1
  have hM : rM S.1 (n, g, s, sd) := hS.1
  have hkk : S.2.2.2 = nI (snp q0 + 2 * snp q1) := hS.2.1
  have f0 : ∀ m, q0 = some m → rM S.2.1 m := hS.2.2.1
  have f1 : ∀ m, q1 = some m → rM S.2.2.1 m := hS.2.2.2
  have hg : okG n g := hM.1
  have ho : okS s := hM.2.1
  have hw : okW sd := hM.2.2.1
  have cn : S.1.2.2.1 = nI n := hM.2.2.2.1
  have cv : ∀ d k, d < 20 → k < 7 → S.1.1 (d * 7 + k) = nI (g d k) := hM.2.2.2.2.1
  have cst : ∀ k, k < 6 → S.1.2.1 k = nI (s k) := hM.2.2.2.2.2.1
  have cw : S.1.2.2.2 = nI (wy sd) := hM.2.2.2.2.2.2
  have hn : n ≤ 20 := hg.1
  have hz5 := hH.1
  unfold p_X8_undo
  simp (disch := omega) only [li_0, li_1, li_2, li_3, li_4, li_5, li_6, li_7, li_8, li_9, li_10, li_11, li_12, li_13, li_14, li_15, li_16, li_20, li_26, li_31, li_32, li_36, li_42, li_43, li_48, li_52, li_57, li_58, li_59, li_60, li_63, li_97, li_99, li_104, li_112, li_115, li_119, li_140, li_141, li_142, li_143, li_144, li_145, li_146, li_147, li_148, li_149, li_150, li_151, li_152, li_255, li_303, li_455, li_999, li_1000, li_1510, li_1820, li_2275, li_9999, li_10000, li_100000, li_1048575, li_100000000, nI_eqI]
  refine ⟨fun h0 => ?_, fun h0 => ?_⟩
  · unfold p_X2_giveBack
    obtain ⟨L1, v1, hL1⟩ := l_last h0
    subst hL1
    have hlen : (L1 ++ [v1]).length = L1.length + 1 := by rw [List.length_append]; rfl
    rw [hlen] at hz5 h0 ⊢
    have e1 : nI (L1.length + 1) - nI 1 = nI L1.length := by rw [pk_sub (by omega)]; rfl
    have h2 : ¬ L1.length + 1 ≤ 0 := by omega
    have hy : L1.length < 5 := by omega
    simp (disch := omega) only [li_0, li_1, li_2, li_3, li_4, li_5, li_6, li_7, li_8, li_9, li_10, li_11, li_12, li_13, li_14, li_15, li_16, li_20, li_26, li_31, li_32, li_36, li_42, li_43, li_48, li_52, li_57, li_58, li_59, li_60, li_63, li_97, li_99, li_104, li_112, li_115, li_119, li_140, li_141, li_142, li_143, li_144, li_145, li_146, li_147, li_148, li_149, li_150, li_151, li_152, li_255, li_303, li_455, li_999, li_1000, li_1510, li_1820, li_2275, li_9999, li_10000, li_100000, li_1048575, li_100000000, nI_leI, nI_eqI, h2, e1, vp_t, nI_clamp, hy, h0, true_and, and_true, not_true_eq_false, not_false_eq_true, true_imp_iff, false_imp_iff, false_and, and_false, imp_false, Classical.not_not, Bool.false_eq_true, Nat.zero_ne_one, Nat.one_ne_zero, Nat.not_lt_zero, if_true, if_false, implies_true]
    have hlast : rS (h L1.length) v1 := hH.2 _ _ (by rw [List.getElem?_append_right (Nat.le_refl _), Nat.sub_self]; rfl)
    have hrest : rH h L1 := ⟨by omega, fun j v hj => hH.2 j v (by rw [List.getElem?_append_left (List.getElem?_eq_some_iff.mp hj).1]; exact hj)⟩
    have go : p_X7_copyFrom S (h L1.length) (fun S' => ∃ o' : aO, Good0 o' S' h (nI L1.length) (nI 0) ∧ sp_undo (((n, g, s, sd), q0, q1), L1 ++ [v1]) (nI L1.length) o') := by
      refine j_copyS (fun S' hS' => ⟨(v1, L1), ⟨hS' v1 hlast, rfl, hrest, rfl⟩, fun e => ?_, fun L2 v2 e => ?_⟩)
      · have e : L1 ++ [v1] = [] := e
        have := congrArg List.length e
        rw [hlen] at this
        cases this
      · have e : L1 ++ [v1] = L2 ++ [v2] := e
        obtain ⟨e2, e3⟩ := List.append_inj' e rfl
        cases e3
        subst e2
        exact ⟨rfl, rfl⟩
    generalize L1.length = y at *
    have : y = 0 ∨ y = 1 ∨ y = 2 ∨ y = 3 ∨ y = 4 := by omega
    rcases this with rfl | rfl | rfl | rfl | rfl
    · exact ⟨fun _ => go, fun e => absurd e (by decide), fun e => absurd e (by decide), fun e => absurd e (by decide), fun e => absurd e (by decide)⟩
    · exact ⟨fun e => absurd e (by decide), fun _ => go, fun e => absurd e (by decide), fun e => absurd e (by decide), fun e => absurd e (by decide)⟩
    · exact ⟨fun e => absurd e (by decide), fun e => absurd e (by decide), fun _ => go, fun e => absurd e (by decide), fun e => absurd e (by decide)⟩
    · exact ⟨fun e => absurd e (by decide), fun e => absurd e (by decide), fun e => absurd e (by decide), fun _ => go, fun e => absurd e (by decide)⟩
    · exact ⟨fun e => absurd e (by decide), fun e => absurd e (by decide), fun e => absurd e (by decide), fun e => absurd e (by decide), fun _ => go⟩
  · have hL : L = [] := List.eq_nil_of_length_eq_zero h0
    subst hL
    refine ⟨_, hG, fun _ => ⟨rfl, rfl⟩, fun L2 v2 e => ?_⟩
    have e : [] = L2 ++ [v2] := e
    have := congrArg List.length e
    rw [List.length_append] at this
    cases this
theorem a_append {o : aO} {S : sS} {h : Nat → sS} {hz rl : Int32} (hG : Good0 o S h hz rl) {reader_text : Nat → Int32} (a1 : Int32) (ha : a1 = nI 0) : p_X8_append reader_text rl a1 (fun (r : Int32) (_ : Nat → Int32) (rl' : Int32) => ∃ o' : aO, Good0 o' S h hz rl' ∧ sp_append o a1 r o') := by
  obtain ⟨⟨⟨n, g, s, sd⟩, q0, q1⟩, L⟩ := o
  have hz2 : hz = nI L.length := hG.2.1
  have hr2 : rl = nI 0 := hG.2.2.2
  subst hz2 hr2
  have hS : rS S ((n, g, s, sd), q0, q1) := hG.1
  have hH : rH h L := hG.2.2.1
  have hM : rM S.1 (n, g, s, sd) := hS.1
  have hkk : S.2.2.2 = nI (snp q0 + 2 * snp q1) := hS.2.1
  have f0 : ∀ m, q0 = some m → rM S.2.1 m := hS.2.2.1
  have f1 : ∀ m, q1 = some m → rM S.2.2.1 m := hS.2.2.2
  have hg : okG n g := hM.1
  have ho : okS s := hM.2.1
  have hw : okW sd := hM.2.2.1
  have cn : S.1.2.2.1 = nI n := hM.2.2.2.1
  have cv : ∀ d k, d < 20 → k < 7 → S.1.1 (d * 7 + k) = nI (g d k) := hM.2.2.2.2.1
  have cst : ∀ k, k < 6 → S.1.2.1 k = nI (s k) := hM.2.2.2.2.2.1
  have cw : S.1.2.2.2 = nI (wy sd) := hM.2.2.2.2.2.2
  have hn : n ≤ 20 := hg.1
  subst ha
  unfold p_X8_append
  have h9 : ¬ ∃ x, 1 ≤ x ∧ x ≤ 255 ∧ nI 0 = nI x := by
    rintro ⟨x, h1, h2, h3⟩
    have := nI_i h3 (by omega) (by omega)
    omega
  simp (disch := omega) only [li_0, li_1, li_2, li_3, li_4, li_5, li_6, li_7, li_8, li_9, li_10, li_11, li_12, li_13, li_14, li_15, li_16, li_20, li_26, li_31, li_32, li_36, li_42, li_43, li_48, li_52, li_57, li_58, li_59, li_60, li_63, li_97, li_99, li_104, li_112, li_115, li_119, li_140, li_141, li_142, li_143, li_144, li_145, li_146, li_147, li_148, li_149, li_150, li_151, li_152, li_255, li_303, li_455, li_999, li_1000, li_1510, li_1820, li_2275, li_9999, li_10000, li_100000, li_1048575, li_100000000, e_inRange, h9, nI_eqI, Nat.one_ne_zero, true_and, and_true, not_true_eq_false, not_false_eq_true, true_imp_iff, false_imp_iff, false_and, and_false, imp_false, Classical.not_not, Bool.false_eq_true, Nat.zero_ne_one, Nat.one_ne_zero, Nat.not_lt_zero, if_true, if_false, implies_true]
  exact ⟨_, hG, rfl, rfl⟩

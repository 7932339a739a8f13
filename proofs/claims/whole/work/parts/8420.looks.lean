/-! ===== looking ===== -/
theorem sx_cg {P : Nat → Bool} {n : Nat} {g : Nat → Nat → Nat} {wid col spa : Nat} {sd sd' : Nat → Nat} (h : ∀ c, c < 4 → sd c = sd' c) : sx P n g wid col spa sd = sx P n g wid col spa sd' := by
  funext t
  exact sl_cong h
theorem wx_cg {P : Nat → Bool} {n : Nat} {g : Nat → Nat → Nat} {s sd sd' : Nat → Nat} (h : ∀ c, c < 4 → sd c = sd' c) : wx P n g s sd = wx P n g s sd' := by
  unfold wx
  rw [sx_cg h]
theorem i_laySd {P : Nat → Bool} {n : Nat} {g : Nat → Nat → Nat} {s sd : Nat → Nat} (hg : okG n g) (ho : okS s) (hw : okW sd) {D L W st : Nat → Int32} {set num pri all col : Int32} (hP : relP P n g (s 1) D L W set num pri all col) (hst : ∀ k, k < 6 → st k = nI (s k)) {parts : Nat → Nat → Int32} {weights places : Nat → Int32} {Q : (Nat → Nat → Int32) → (Nat → Int32) → (Nat → Int32) → Int32 → Int32 → Prop}
    (h : ∀ parts' weights' places', relF (wx P n g s sd) (fsd (wx P n g s sd)) (fld (wx P n g s sd) (s 4)) parts' weights' places' → Q parts' weights' places' (if pc (kyl P g n) = 0 then -nI 99 else nI (kys (sx P n g (s 1) (clm P g n) (s 3) sd))) (nI (apt (wx P n g s sd)))) : p_X1_lay parts weights places D L W all st (nI (wy sd)) Q := by
  have e1 : ∀ c, c < 4 → (fun c => tb (wy sd) c) c = sd c := fun c hc => wy_tb hw hc
  refine i_layW hg ho hP hst (wy_lt hw) ?_
  rw [wx_cg e1, sx_cg e1]
  exact h
theorem i_layCard {S : sS} {n : Nat} {g : Nat → Nat → Nat} {s sd : Nat → Nat} (hg : okG n g) (ho : okS s) (hw : okW sd) (C : relC n g s sd S.1.1 S.1.2.1 S.1.2.2.1 S.1.2.2.2) {D L W : Nat → Int32} {parts : Nat → Nat → Int32} {weights places : Nat → Int32} {Q : (Nat → Int32) → (Nat → Int32) → (Nat → Int32) → Int32 → Int32 → Int32 → Int32 → Int32 → (Nat → Nat → Int32) → (Nat → Int32) → (Nat → Int32) → Int32 → Int32 → Prop}
    (h : ∀ D' L' W' set num pri all col parts' weights' places', relP (prt g (s 2) (s 0) (s 5)) n g (s 1) D' L' W' set num pri all col → relF (wx (prt g (s 2) (s 0) (s 5)) n g s sd) (fsd (wx (prt g (s 2) (s 0) (s 5)) n g s sd)) (fld (wx (prt g (s 2) (s 0) (s 5)) n g s sd) (s 4)) parts' weights' places' → Q D' L' W' set num pri all col parts' weights' places' (if pc (kyl (prt g (s 2) (s 0) (s 5)) g n) = 0 then -nI 99 else nI (kys (sx (prt g (s 2) (s 0) (s 5)) n g (s 1) (clm (prt g (s 2) (s 0) (s 5)) g n) (s 3) sd))) (nI (apt (wx (prt g (s 2) (s 0) (s 5)) n g s sd)))) : p_X8_layCard S D L W parts weights places Q := by
  obtain ⟨s0, s1, s2, s3, s4, s5, s6, s7⟩ := ho.b
  obtain ⟨cn, cv, cst, cw⟩ := C
  unfold p_X8_layCard
  simp (disch := omega) only [li_0, li_1, li_2, li_3, li_4, li_5, li_6, li_7, li_8, li_9, li_10, li_11, li_12, li_13, li_14, li_15, li_16, li_20, li_26, li_31, li_32, li_36, li_42, li_43, li_48, li_52, li_57, li_58, li_59, li_60, li_63, li_97, li_99, li_104, li_112, li_115, li_119, li_140, li_141, li_142, li_143, li_144, li_145, li_146, li_147, li_148, li_149, li_150, li_151, li_152, li_255, li_303, li_455, li_999, li_1000, li_1510, li_1820, li_2275, li_9999, li_10000, li_100000, li_1048575, li_100000000, e_setting cst]
  rw [cn]
  refine i_find cv cst hg ho s0 ?_
  intro D' L' W' set num pri all col hP
  rw [cw]
  refine i_laySd hg ho hw hP cst ?_
  intro p' w' l' R
  exact h _ _ _ _ _ _ _ _ _ _ _ hP R
theorem l_why : lawS_18 Rel := by
  unfold lawS_18
  intro S h hz rt rl x_printing_dishes x_printing_lines x_printing_weights x_printing_set x_printing_number x_printing_prices x_printing_allergens x_printing_column pg hist st mt ml hR a1
  obtain ⟨hS, ⟨z, rfl, rfl, hH⟩, hT⟩ := hR
  have hR : Rel S h (nI z) rt rl pg hist (nI z) mt ml := ⟨hS, ⟨z, rfl, rfl, hH⟩, hT⟩
  have hz5 := hH.1
  obtain ⟨hM, k0, k1, hk0, hk1, p151, p303, hkk, f0, f1⟩ := id hS
  obtain ⟨n, g, s, sd, hg, ho, hw, ⟨cn, cv, cst, cw⟩, hRR⟩ := id hM
  obtain ⟨rn, rv, rst, rsd⟩ := id hRR
  have hn := hg.1
  obtain ⟨s0, s1, s2, s3, s4, s5, s6, s7⟩ := ho.b
  have h141 : pg 141 = nI (s 0) := rst 0 (by decide)
  unfold p_X8_why p_X9_why
  rw [cn]
  by_cases hd : ∃ d, d < n ∧ a1 = nI d
  · obtain ⟨d, hd1, rfl⟩ := id hd
    have hd20 : d < 20 := by omega
    obtain ⟨b0, b1, b2, b3, b4, b5, b6⟩ := hg.b hd20
    simp (disch := omega) only [li_0, li_1, li_2, li_3, li_4, li_5, li_6, li_7, li_8, li_9, li_10, li_11, li_12, li_13, li_14, li_15, li_16, li_20, li_26, li_31, li_32, li_36, li_42, li_43, li_48, li_52, li_57, li_58, li_59, li_60, li_63, li_97, li_99, li_104, li_112, li_115, li_119, li_140, li_141, li_142, li_143, li_144, li_145, li_146, li_147, li_148, li_149, li_150, li_151, li_152, li_255, li_303, li_455, li_999, li_1000, li_1510, li_1820, li_2275, li_9999, li_10000, li_100000, li_1048575, li_100000000, e_hasDish, e_isDish hn rn, hd, nI_eqI, e_isOffered cv hg, e_setting cst, e_isInSeason cv hg, e_suits cv hg, e_of rv, vp_t, nI_clamp, h141, e_has9, e_mayBe hRR hg ho, mayB_iff, Nat.one_ne_zero, Nat.reduceLT, true_and, and_true, not_true_eq_false, not_false_eq_true, true_imp_iff, false_imp_iff, false_and, and_false, imp_false, Classical.not_not, Bool.false_eq_true, Nat.zero_ne_one, Nat.one_ne_zero, Nat.not_lt_zero, if_true, if_false, implies_true]
    by_cases c6 : g d 6 = 1
    · have c6' : ¬ g d 6 = 0 := by omega
      by_cases cs : tb (g d 3) (s 0) = 1
      · by_cases ca : g d 4 &&& s 5 = 0
        · simp (disch := omega) only [c6, cs, ca, nI_eqI, Nat.one_ne_zero, true_and, and_true, not_true_eq_false, not_false_eq_true, true_imp_iff, false_imp_iff, false_and, and_false, imp_false, Classical.not_not, Bool.false_eq_true, Nat.zero_ne_one, Nat.one_ne_zero, Nat.not_lt_zero, if_true, if_false, implies_true]
          refine i_findPrinted cv cst hg ho ?_
          intro D' L' W' set num pri all col hP
          obtain ⟨_, _, _, rfl, _, _, _, _⟩ := hP
          have hm := mk_lt31 (prt g (s 2) (s 0) (s 5)) hn
          have ht := mk_tb (prt g (s 2) (s 0) (s 5)) n d
          by_cases hp : prt g (s 2) (s 0) (s 5) d = true
          · simp (disch := omega) only [e_has, ht, hd1, hp, and_self, nI_eqI, Nat.one_ne_zero, true_and, and_true, not_true_eq_false, not_false_eq_true, true_imp_iff, false_imp_iff, false_and, and_false, imp_false, Classical.not_not, Bool.false_eq_true, Nat.zero_ne_one, Nat.one_ne_zero, Nat.not_lt_zero, if_true, if_false, implies_true]
            refine i_isPrinted hRR hg ho hd20 (fun _ => ?_) (fun e => absurd hp e)
            simp (disch := omega) only [nI_eqI, Nat.one_ne_zero, true_and, and_true, not_true_eq_false, not_false_eq_true, true_imp_iff, false_imp_iff, false_and, and_false, imp_false, Classical.not_not, Bool.false_eq_true, Nat.zero_ne_one, Nat.one_ne_zero, Nat.not_lt_zero, if_true, if_false, implies_true]
            exact hR
          · simp (disch := omega) only [e_has, ht, hp, and_false, nI_eqI, Nat.one_ne_zero, true_and, and_true, not_true_eq_false, not_false_eq_true, true_imp_iff, false_imp_iff, false_and, and_false, imp_false, Classical.not_not, Bool.false_eq_true, Nat.zero_ne_one, Nat.one_ne_zero, Nat.not_lt_zero, if_true, if_false, implies_true]
            refine i_isPrinted hRR hg ho hd20 (fun e => absurd e hp) (fun _ => ?_)
            simp (disch := omega) only [nI_eqI, Nat.one_ne_zero, true_and, and_true, not_true_eq_false, not_false_eq_true, true_imp_iff, false_imp_iff, false_and, and_false, imp_false, Classical.not_not, Bool.false_eq_true, Nat.zero_ne_one, Nat.one_ne_zero, Nat.not_lt_zero, if_true, if_false, implies_true]
            exact hR
        · simp (disch := omega) only [c6, cs, ca, nI_eqI, Nat.one_ne_zero, true_and, and_true, not_true_eq_false, not_false_eq_true, true_imp_iff, false_imp_iff, false_and, and_false, imp_false, Classical.not_not, Bool.false_eq_true, Nat.zero_ne_one, Nat.one_ne_zero, Nat.not_lt_zero, if_true, if_false, implies_true]
          exact hR
      · simp (disch := omega) only [c6, cs, nI_eqI, Nat.one_ne_zero, true_and, and_true, not_true_eq_false, not_false_eq_true, true_imp_iff, false_imp_iff, false_and, and_false, imp_false, Classical.not_not, Bool.false_eq_true, Nat.zero_ne_one, Nat.one_ne_zero, Nat.not_lt_zero, if_true, if_false, implies_true]
        exact hR
    · have c6' : g d 6 = 0 := by omega
      simp (disch := omega) only [c6', nI_eqI, Nat.one_ne_zero, true_and, and_true, not_true_eq_false, not_false_eq_true, true_imp_iff, false_imp_iff, false_and, and_false, imp_false, Classical.not_not, Bool.false_eq_true, Nat.zero_ne_one, Nat.one_ne_zero, Nat.not_lt_zero, if_true, if_false, implies_true]
      exact hR
  · simp (disch := omega) only [li_0, li_1, li_2, li_3, li_4, li_5, li_6, li_7, li_8, li_9, li_10, li_11, li_12, li_13, li_14, li_15, li_16, li_20, li_26, li_31, li_32, li_36, li_42, li_43, li_48, li_52, li_57, li_58, li_59, li_60, li_63, li_97, li_99, li_104, li_112, li_115, li_119, li_140, li_141, li_142, li_143, li_144, li_145, li_146, li_147, li_148, li_149, li_150, li_151, li_152, li_255, li_303, li_455, li_999, li_1000, li_1510, li_1820, li_2275, li_9999, li_10000, li_100000, li_1048575, li_100000000, e_hasDish, e_isDish hn rn, hd, nI_eqI, Nat.one_ne_zero, true_and, and_true, not_true_eq_false, not_false_eq_true, true_imp_iff, false_imp_iff, false_and, and_false, imp_false, Classical.not_not, Bool.false_eq_true, Nat.zero_ne_one, Nat.one_ne_zero, Nat.not_lt_zero, if_true, if_false, implies_true]
    exact hR
theorem s5_up {n : Nat} {g : Nat → Nat → Nat} {s sd : Nat → Nat} {pg : Nat → Int32} (R : relR n g s sd pg) (j x : Nat) (hj : j < 6) : relR n g (fun k => if k = j then x else s k) sd (upd pg (141 + j) (nI x)) := by
  refine ⟨?_, ?_, ?_, ?_⟩
  · rw [pk_un (by omega)]
    exact R.1
  · intro d k hd hk
    exact (pk_un (by omega)).trans (R.2.1 d k hd hk)
  · intro k hk
    by_cases e : k = j
    · dsimp only
      rw [if_pos e, e]
      exact pk_us
    · dsimp only
      rw [if_neg e]
      exact (pk_un (by omega)).trans (R.2.2.1 k hk)
  · intro c hc
    exact (pk_un (by omega)).trans (R.2.2.2 c hc)
theorem okS_up {s : Nat → Nat} (ho : okS s) {j x : Nat} (h : loC j ≤ x ∧ x ≤ hiC j) : okS (fun k => if k = j then x else s k) := by
  intro k hk
  by_cases e : k = j
  · show loC k ≤ (if k = j then x else s k) ∧ (if k = j then x else s k) ≤ hiC k
    rw [if_pos e, e]
    exact h
  · show loC k ≤ (if k = j then x else s k) ∧ (if k = j then x else s k) ≤ hiC k
    rw [if_neg e]
    exact ho k hk
theorem okC_i {k x : Nat} (hk : k < 6) (h1 : loC k ≤ x) (h2 : x ≤ hiC k) : okC (nI k) (nI x) := ⟨k, x, hk, rfl, h1, h2, rfl⟩
theorem l_printedFor : lawS_21 Rel := by
  unfold lawS_21
  intro S h hz rt rl x_printing_dishes x_printing_lines x_printing_weights x_printing_set x_printing_number x_printing_prices x_printing_allergens x_printing_column pg hist st mt ml hR a1
  obtain ⟨hS, ⟨z, rfl, rfl, hH⟩, hT⟩ := hR
  have hR : Rel S h (nI z) rt rl pg hist (nI z) mt ml := ⟨hS, ⟨z, rfl, rfl, hH⟩, hT⟩
  have hz5 := hH.1
  obtain ⟨hM, k0, k1, hk0, hk1, p151, p303, hkk, f0, f1⟩ := id hS
  obtain ⟨n, g, s, sd, hg, ho, hw, ⟨cn, cv, cst, cw⟩, hRR⟩ := id hM
  obtain ⟨rn, rv, rst, rsd⟩ := id hRR
  have hn := hg.1
  obtain ⟨s0, s1, s2, s3, s4, s5, s6, s7⟩ := ho.b
  unfold p_X8_printedFor p_X9_printedFor
  by_cases hv : ∃ x, 0 ≤ x ∧ x ≤ 255 ∧ a1 = nI x
  · obtain ⟨x, hx0, hx, rfl⟩ := id hv
    have hv2 : okC (nI 5) (nI x) := okC_i (by decide) (Nat.zero_le _) hx
    simp (disch := omega) only [li_0, li_1, li_2, li_3, li_4, li_5, li_6, li_7, li_8, li_9, li_10, li_11, li_12, li_13, li_14, li_15, li_16, li_20, li_26, li_31, li_32, li_36, li_42, li_43, li_48, li_52, li_57, li_58, li_59, li_60, li_63, li_97, li_99, li_104, li_112, li_115, li_119, li_140, li_141, li_142, li_143, li_144, li_145, li_146, li_147, li_148, li_149, li_150, li_151, li_152, li_255, li_303, li_455, li_999, li_1000, li_1510, li_1820, li_2275, li_9999, li_10000, li_100000, li_1048575, li_100000000, e_isCardValue, hv2, e_setting cst, nI_eqI, Nat.one_ne_zero, true_and, and_true, not_true_eq_false, not_false_eq_true, true_imp_iff, false_imp_iff, false_and, and_false, imp_false, Classical.not_not, Bool.false_eq_true, Nat.zero_ne_one, Nat.one_ne_zero, Nat.not_lt_zero, if_true, if_false, implies_true]
    rw [cn]
    refine i_find cv cst hg ho s0 ?_
    intro D' L' W' set num pri all col hP
    obtain ⟨_, _, _, _, rfl, _, _, _⟩ := hP
    simp (disch := omega) only [li_0, li_1, li_2, li_3, li_4, li_5, li_6, li_7, li_8, li_9, li_10, li_11, li_12, li_13, li_14, li_15, li_16, li_20, li_26, li_31, li_32, li_36, li_42, li_43, li_48, li_52, li_57, li_58, li_59, li_60, li_63, li_97, li_99, li_104, li_112, li_115, li_119, li_140, li_141, li_142, li_143, li_144, li_145, li_146, li_147, li_148, li_149, li_150, li_151, li_152, li_255, li_303, li_455, li_999, li_1000, li_1510, li_1820, li_2275, li_9999, li_10000, li_100000, li_1048575, li_100000000, e_in, hv, nI_eqI, vp_t, nI_clamp, Nat.one_ne_zero, Nat.reduceLT, true_and, and_true, not_true_eq_false, not_false_eq_true, true_imp_iff, false_imp_iff, false_and, and_false, imp_false, Classical.not_not, Bool.false_eq_true, Nat.zero_ne_one, Nat.one_ne_zero, Nat.not_lt_zero, if_true, if_false, implies_true]
    refine i_printedSize (s5_up hRR 5 x (by decide)) hg (okS_up ho ⟨Nat.zero_le _, hx⟩) ?_
    refine ⟨rfl, relS_cg (fun j _ => ?_) hS, ⟨z, rfl, rfl, hH⟩, hT⟩
    by_cases e : j = 146
    · subst e
      exact pk_us
    · rw [pk_un e, pk_un e]
  · have hv2 : ¬ okC (nI 5) a1 := by
      rw [okC_k (by decide)]
      exact hv
    simp (disch := omega) only [li_0, li_1, li_2, li_3, li_4, li_5, li_6, li_7, li_8, li_9, li_10, li_11, li_12, li_13, li_14, li_15, li_16, li_20, li_26, li_31, li_32, li_36, li_42, li_43, li_48, li_52, li_57, li_58, li_59, li_60, li_63, li_97, li_99, li_104, li_112, li_115, li_119, li_140, li_141, li_142, li_143, li_144, li_145, li_146, li_147, li_148, li_149, li_150, li_151, li_152, li_255, li_303, li_455, li_999, li_1000, li_1510, li_1820, li_2275, li_9999, li_10000, li_100000, li_1048575, li_100000000, e_isCardValue, hv2, e_in, hv, nI_eqI, Nat.one_ne_zero, true_and, and_true, not_true_eq_false, not_false_eq_true, true_imp_iff, false_imp_iff, false_and, and_false, imp_false, Classical.not_not, Bool.false_eq_true, Nat.zero_ne_one, Nat.one_ne_zero, Nat.not_lt_zero, if_true, if_false, implies_true]
    exact hR
theorem i_evenSeasons8 {S : sS} {n : Nat} {g : Nat → Nat → Nat} {s sd : Nat → Nat} (hg : okG n g) (ho : okS s) (hw : okW sd) (C : relC n g s sd S.1.1 S.1.2.1 S.1.2.2.1 S.1.2.2.2) {D L W : Nat → Int32} {set num pri all col : Int32} {parts : Nat → Nat → Int32} {weights places : Nat → Int32} {ks gap : Int32} {Q : Int32 → (Nat → Int32) → (Nat → Int32) → (Nat → Int32) → Int32 → Int32 → Int32 → Int32 → Int32 → (Nat → Nat → Int32) → (Nat → Int32) → (Nat → Int32) → Int32 → Int32 → Prop}
    (h : ∀ D' L' W' set num pri all col parts' weights' places' ks gap, Q (nI (mk (fun k => evn (wx (prt g (s 2) k (s 5)) n g s sd) (fsd (wx (prt g (s 2) k (s 5)) n g s sd)) (fld (wx (prt g (s 2) k (s 5)) n g s sd) (s 4)) == 1) 4)) D' L' W' set num pri all col parts' weights' places' ks gap) : p_X8_evenSeasons S D L W set num pri all col parts weights places ks gap Q := by
  obtain ⟨cn, cv, cst, cw⟩ := C
  unfold p_X8_evenSeasons p_X8_evenSeasons_4
  refine wl14 (q_X8_evenSeasons_4 S Q) 4 (by decide) (fun k _ _ _ _ _ _ _ _ _ _ _ _ _ x => x = nI (mk (fun k => evn (wx (prt g (s 2) k (s 5)) n g s sd) (fsd (wx (prt g (s 2) k (s 5)) n g s sd)) (fld (wx (prt g (s 2) k (s 5)) n g s sd) (s 4)) == 1) k)) 0 (by omega) _ _ _ _ _ _ _ _ _ _ _ _ _ _ rfl ?_
  rintro K k z1 z2 z3 z4 z5 z6 z7 z8 z9 z10 z11 z12 z13 x _ hk rfl hK
  unfold q_X8_evenSeasons_4
  simp (disch := omega) only [li_0, li_1, li_2, li_3, li_4, li_5, li_6, li_7, li_8, li_9, li_10, li_11, li_12, li_13, li_14, li_15, li_16, li_20, li_26, li_31, li_32, li_36, li_42, li_43, li_48, li_52, li_57, li_58, li_59, li_60, li_63, li_97, li_99, li_104, li_112, li_115, li_119, li_140, li_141, li_142, li_143, li_144, li_145, li_146, li_147, li_148, li_149, li_150, li_151, li_152, li_255, li_303, li_455, li_999, li_1000, li_1510, li_1820, li_2275, li_9999, li_10000, li_100000, li_1048575, li_100000000, nI_leI, e_setting cst]
  refine ⟨fun hge => ?_, fun hlt => ?_⟩
  · have : k = 4 := by omega
    subst this
    exact h _ _ _ _ _ _ _ _ _ _ _ _ _
  · have hk3 : k ≤ 3 := by omega
    rw [cn]
    refine i_find cv cst hg ho hk3 ?_
    intro D' L' W' set num pri all col hP
    rw [cw]
    refine i_laySd hg ho hw hP cst ?_
    intro p' w' l' R
    have hX := wx_ok (prt g (s 2) k (s 5)) hg ho sd
    refine i_isEven R hX (fld_b hX (s 4)) ?_
    have hev := evn_le (wx (prt g (s 2) k (s 5)) n g s sd) (fsd (wx (prt g (s 2) k (s 5)) n g s sd)) (fld (wx (prt g (s 2) k (s 5)) n g s sd) (s 4))
    have hmk : ∀ m, m = mk (fun k => evn (wx (prt g (s 2) k (s 5)) n g s sd) (fsd (wx (prt g (s 2) k (s 5)) n g s sd)) (fld (wx (prt g (s 2) k (s 5)) n g s sd) (s 4)) == 1) (k + 1) → m = mk (fun k => evn (wx (prt g (s 2) k (s 5)) n g s sd) (fsd (wx (prt g (s 2) k (s 5)) n g s sd)) (fld (wx (prt g (s 2) k (s 5)) n g s sd) (s 4)) == 1) k + if evn (wx (prt g (s 2) k (s 5)) n g s sd) (fsd (wx (prt g (s 2) k (s 5)) n g s sd)) (fld (wx (prt g (s 2) k (s 5)) n g s sd) (s 4)) == 1 then 2 ^ k else 0 := fun m hm => hm
    have hmk2 := hmk _ rfl
    show (nI (evn (wx (prt g (s 2) k (s 5)) n g s sd) (fsd (wx (prt g (s 2) k (s 5)) n g s sd)) (fld (wx (prt g (s 2) k (s 5)) n g s sd) (s 4))) = nI 0 → _) ∧ (¬ nI (evn (wx (prt g (s 2) k (s 5)) n g s sd) (fsd (wx (prt g (s 2) k (s 5)) n g s sd)) (fld (wx (prt g (s 2) k (s 5)) n g s sd) (s 4))) = nI 0 → _)
    rw [nI_eqI (by omega) (by omega)]
    unfold p_X8_evenSeasons_79
    simp (disch := omega) only [li_0, li_1, li_2, li_3, li_4, li_5, li_6, li_7, li_8, li_9, li_10, li_11, li_12, li_13, li_14, li_15, li_16, li_20, li_26, li_31, li_32, li_36, li_42, li_43, li_48, li_52, li_57, li_58, li_59, li_60, li_63, li_97, li_99, li_104, li_112, li_115, li_119, li_140, li_141, li_142, li_143, li_144, li_145, li_146, li_147, li_148, li_149, li_150, li_151, li_152, li_255, li_303, li_455, li_999, li_1000, li_1510, li_1820, li_2275, li_9999, li_10000, li_100000, li_1048575, li_100000000, nI_add, e_shl, e_orI, mk_or]
    refine ⟨fun e => hK (by omega) _ _ _ _ _ _ _ _ _ _ _ _ _ _ ?_, fun e => hK (by omega) _ _ _ _ _ _ _ _ _ _ _ _ _ _ ?_⟩
    · rw [hmk2, e]
      rfl
    · rw [hmk2, show evn (wx (prt g (s 2) k (s 5)) n g s sd) (fsd (wx (prt g (s 2) k (s 5)) n g s sd)) (fld (wx (prt g (s 2) k (s 5)) n g s sd) (s 4)) = 1 by omega]
      rfl
theorem l_evenSeasons : lawS_20 Rel := by
  unfold lawS_20
  intro S h hz rt rl x_printing_dishes x_printing_lines x_printing_weights x_printing_set x_printing_number x_printing_prices x_printing_allergens x_printing_column x_fold_parts x_fold_weights x_fold_places x_fold_keySide x_fold_gap pg hist st mt ml m_printed m_column m_inKey m_keySide m_apart m_filled m_fillSide m_many m_kind m_number m_lines m_first m_spacing m_fill m_all m_heavy hR
  obtain ⟨hS, ⟨z, rfl, rfl, hH⟩, hT⟩ := hR
  have hR : Rel S h (nI z) rt rl pg hist (nI z) mt ml := ⟨hS, ⟨z, rfl, rfl, hH⟩, hT⟩
  have hz5 := hH.1
  obtain ⟨hM, k0, k1, hk0, hk1, p151, p303, hkk, f0, f1⟩ := id hS
  obtain ⟨n, g, s, sd, hg, ho, hw, ⟨cn, cv, cst, cw⟩, hRR⟩ := id hM
  obtain ⟨rn, rv, rst, rsd⟩ := id hRR
  have hn := hg.1
  obtain ⟨s0, s1, s2, s3, s4, s5, s6, s7⟩ := ho.b
  have h141 : pg 141 = nI (s 0) := rst 0 (by decide)
  refine i_evenSeasons8 hg ho hw ⟨cn, cv, cst, cw⟩ ?_
  intro D' L' W' set num pri all col parts' weights' places' ks gap
  unfold p_X9_evenSeasons
  simp (disch := omega) only [li_0, li_1, li_2, li_3, li_4, li_5, li_6, li_7, li_8, li_9, li_10, li_11, li_12, li_13, li_14, li_15, li_16, li_20, li_26, li_31, li_32, li_36, li_42, li_43, li_48, li_52, li_57, li_58, li_59, li_60, li_63, li_97, li_99, li_104, li_112, li_115, li_119, li_140, li_141, li_142, li_143, li_144, li_145, li_146, li_147, li_148, li_149, li_150, li_151, li_152, li_255, li_303, li_455, li_999, li_1000, li_1510, li_1820, li_2275, li_9999, li_10000, li_100000, li_1048575, li_100000000, vp_t, nI_clamp, h141, Nat.reduceLT, true_and, and_true, not_true_eq_false, not_false_eq_true, true_imp_iff, false_imp_iff, false_and, and_false, imp_false, Classical.not_not, Bool.false_eq_true, Nat.zero_ne_one, Nat.one_ne_zero, Nat.not_lt_zero, if_true, if_false, implies_true]
  unfold p_X9_evenSeasons_13
  refine wl18 (q_X9_evenSeasons_13 (nI (s 0)) _) 4 (by decide) (fun k p _ _ _ _ _ _ _ _ _ _ _ _ _ _ _ _ x => (∀ j, ¬ j = 141 → p j = pg j) ∧ x = nI (mk (fun k => evn (wx (prt g (s 2) k (s 5)) n g s sd) (fsd (wx (prt g (s 2) k (s 5)) n g s sd)) (fld (wx (prt g (s 2) k (s 5)) n g s sd) (s 4)) == 1) k)) 0 (by omega) _ _ _ _ _ _ _ _ _ _ _ _ _ _ _ _ _ _ ⟨fun _ _ => rfl, rfl⟩ ?_
  rintro K k p z1 z2 z3 z4 z5 z6 z7 z8 z9 z10 z11 z12 z13 z14 z15 z16 x _ hk ⟨hp, rfl⟩ hK
  unfold q_X9_evenSeasons_13
  simp (disch := omega) only [li_0, li_1, li_2, li_3, li_4, li_5, li_6, li_7, li_8, li_9, li_10, li_11, li_12, li_13, li_14, li_15, li_16, li_20, li_26, li_31, li_32, li_36, li_42, li_43, li_48, li_52, li_57, li_58, li_59, li_60, li_63, li_97, li_99, li_104, li_112, li_115, li_119, li_140, li_141, li_142, li_143, li_144, li_145, li_146, li_147, li_148, li_149, li_150, li_151, li_152, li_255, li_303, li_455, li_999, li_1000, li_1510, li_1820, li_2275, li_9999, li_10000, li_100000, li_1048575, li_100000000, nI_leI, vp_t, nI_clamp, Nat.reduceLT, true_and, and_true, not_true_eq_false, not_false_eq_true, true_imp_iff, false_imp_iff, false_and, and_false, imp_false, Classical.not_not, Bool.false_eq_true, Nat.zero_ne_one, Nat.one_ne_zero, Nat.not_lt_zero, if_true, if_false, implies_true]
  refine ⟨fun hge => ?_, fun hlt => ?_⟩
  · have : k = 4 := by omega
    subst this
    refine ⟨rfl, relS_cg (fun j _ => ?_) hS, ⟨z, rfl, rfl, hH⟩, hT⟩
    by_cases e : j = 141
    · subst e
      rw [pk_us, h141]
    · rw [pk_un e]
      exact hp j e
  · have hk3 : k ≤ 3 := by omega
    have hpp : ∀ j, ¬ j = 141 → upd p 141 (nI k) j = upd pg 141 (nI k) j := fun j hj => by rw [pk_un hj, pk_un hj]; exact hp j hj
    have hpu : upd p 141 (nI k) = upd pg 141 (nI k) := by
      funext j
      by_cases e : j = 141
      · subst e
        rw [pk_us, pk_us]
      · exact hpp j e
    have hRk : relR n g (fun j => if j = 0 then k else s j) sd (upd p 141 (nI k)) := by
      rw [hpu]
      exact s5_up hRR 0 k (by decide)
    have hok : okS (fun j => if j = 0 then k else s j) := okS_up ho ⟨Nat.zero_le _, hk3⟩
    refine i_lay9 hRk hg hok hw ?_
    intro X nk u1 u2 u3 u4 u5 u6 u7 v1 v2 v3 v4 v5 v6 v7 v8 v9 hL
    obtain ⟨rfl, rfl, hX, _, _, _, _, _, _, A, _⟩ := hL
    rw [e_isEven9 hX (fld_b hX _) A]
    have hev := evn_le (wx (prt g (s 2) k (s 5)) n g s sd) (fsd (wx (prt g (s 2) k (s 5)) n g s sd)) (fld (wx (prt g (s 2) k (s 5)) n g s sd) (s 4))
    have hmk2 : mk (fun k => evn (wx (prt g (s 2) k (s 5)) n g s sd) (fsd (wx (prt g (s 2) k (s 5)) n g s sd)) (fld (wx (prt g (s 2) k (s 5)) n g s sd) (s 4)) == 1) (k + 1) = mk (fun k => evn (wx (prt g (s 2) k (s 5)) n g s sd) (fsd (wx (prt g (s 2) k (s 5)) n g s sd)) (fld (wx (prt g (s 2) k (s 5)) n g s sd) (s 4)) == 1) k + if evn (wx (prt g (s 2) k (s 5)) n g s sd) (fsd (wx (prt g (s 2) k (s 5)) n g s sd)) (fld (wx (prt g (s 2) k (s 5)) n g s sd) (s 4)) == 1 then 2 ^ k else 0 := rfl
    show (nI (evn (wx (prt g (s 2) k (s 5)) n g s sd) (fsd (wx (prt g (s 2) k (s 5)) n g s sd)) (fld (wx (prt g (s 2) k (s 5)) n g s sd) (s 4))) = nI 0 → _) ∧ (¬ nI (evn (wx (prt g (s 2) k (s 5)) n g s sd) (fsd (wx (prt g (s 2) k (s 5)) n g s sd)) (fld (wx (prt g (s 2) k (s 5)) n g s sd) (s 4))) = nI 0 → _)
    rw [nI_eqI (by omega) (by omega)]
    unfold p_X9_evenSeasons_46
    simp (disch := omega) only [li_0, li_1, li_2, li_3, li_4, li_5, li_6, li_7, li_8, li_9, li_10, li_11, li_12, li_13, li_14, li_15, li_16, li_20, li_26, li_31, li_32, li_36, li_42, li_43, li_48, li_52, li_57, li_58, li_59, li_60, li_63, li_97, li_99, li_104, li_112, li_115, li_119, li_140, li_141, li_142, li_143, li_144, li_145, li_146, li_147, li_148, li_149, li_150, li_151, li_152, li_255, li_303, li_455, li_999, li_1000, li_1510, li_1820, li_2275, li_9999, li_10000, li_100000, li_1048575, li_100000000, nI_add, e_shl, e_orI, mk_or]
    refine ⟨fun e => hK (by omega) _ _ _ _ _ _ _ _ _ _ _ _ _ _ _ _ _ _ ⟨fun j hj => by rw [pk_un hj]; exact hp j hj, ?_⟩, fun e => hK (by omega) _ _ _ _ _ _ _ _ _ _ _ _ _ _ _ _ _ _ ⟨fun j hj => by rw [pk_un hj]; exact hp j hj, ?_⟩⟩
    · rw [hmk2, e, Nat.or_zero]
      rfl
    · rw [hmk2, show evn (wx (prt g (s 2) k (s 5)) n g s sd) (fsd (wx (prt g (s 2) k (s 5)) n g s sd)) (fld (wx (prt g (s 2) k (s 5)) n g s sd) (s 4)) = 1 by omega]
      rfl
theorem l_arrange : lawS_5 Rel := by
  unfold lawS_5
  intro S h hz rt rl x_printing_dishes x_printing_lines x_printing_weights x_fold_parts x_fold_weights x_fold_places x_otherFold_parts x_otherFold_weights x_otherFold_places x_otherFold_keySide x_otherFold_gap pg hist st mt ml m_printed m_column m_inKey m_keySide m_apart m_filled m_fillSide m_many m_kind m_number m_lines m_first m_spacing m_fill m_all m_heavy hR
  obtain ⟨hS, ⟨z, rfl, rfl, hH⟩, hT⟩ := hR
  have hR : Rel S h (nI z) rt rl pg hist (nI z) mt ml := ⟨hS, ⟨z, rfl, rfl, hH⟩, hT⟩
  have hz5 := hH.1
  obtain ⟨hM, k0, k1, hk0, hk1, p151, p303, hkk, f0, f1⟩ := id hS
  obtain ⟨n, g, s, sd, hg, ho, hw, ⟨cn, cv, cst, cw⟩, hRR⟩ := id hM
  obtain ⟨rn, rv, rst, rsd⟩ := id hRR
  have hn := hg.1
  have hb15 := bst_le (fun w => rtw (prt g (s 2) (s 0) (s 5)) n g s (fun c => tb w c)) 15
  unfold p_X8_arrange p_X9_arrange
  refine i_record hz5 ?_
  intro h' hpc
  rw [cn]
  refine i_findPrinted cv cst hg ho ?_
  intro D' L' W' set num pri all col hP
  refine i_foldBestWay hg ho hP cst ?_
  intro b p1 w1 l1 ks gap p2 w2 l2 ks2 gap2 hb R1
  have hX := wx_ok (prt g (s 2) (s 0) (s 5)) hg ho (fun c => tb b c)
  rw [e_difference R1 hX]
  refine i_bestWay hRR hg ho hw ?_
  intro pg1 y1 y2 y3 y4 y5 y6 y7 v1 v2 v3 v4 v5 v6 v7 v8 v9 hR1 hpg1
  rw [← hb]
  refine i_keep hz5 ?_
  intro hist' hpr
  refine i_putSides hR1 (by omega) ?_
  intro pg2 hR2 hpg2
  refine i_lay9 hR2 hg ho (okW_tb b) ?_
  intro X nk u1 u2 u3 u4 u5 u6 u7 z1 z2 z3 z4 z5 z6 z7 z8 z9 hL
  obtain ⟨rfl, rfl, hX2, _, _, _, _, _, _, A, _⟩ := hL
  refine i_heavier9 hX2 A ?_
  have hpg : ∀ j, 151 ≤ j → pg2 j = pg j := fun j hj => by rw [hpg2 j hj, hpg1 j hj]
  have hwyb : nI b = nI (wy (fun c => tb b c)) := by
    have : ∀ b, b < 16 → b = wy (fun c => tb b c) := by decide +kernel
    exact congrArg nI (this b (by omega))
  refine ⟨rfl, relS_menu hS ⟨n, g, s, fun c => tb b c, hg, ho, okW_tb b, ⟨rfl, cv, cst, hwyb⟩, hR2⟩ hpg, ⟨_, rfl, rfl, ?_⟩, hT⟩
  have hS1 : relS S pg1 := by
    obtain ⟨_, q⟩ := hS
    have hS' := relS_menu (M := S.1) ⟨hM, q⟩ ⟨n, g, s, sd, hg, ho, hw, ⟨cn, cv, cst, cw⟩, hR1⟩ hpg1
    exact hS'
  exact relH_push hH hS1 hpc hpr
theorem l_bestSides : lawS_22 Rel := by
  unfold lawS_22
  intro S h hz rt rl x_printing_dishes x_printing_lines x_printing_weights x_printing_set x_printing_number x_printing_prices x_printing_allergens x_printing_column x_fold_parts x_fold_weights x_fold_places x_fold_keySide x_fold_gap x_otherFold_parts x_otherFold_weights x_otherFold_places x_otherFold_keySide x_otherFold_gap pg hist st mt ml m_printed m_column m_inKey m_keySide m_apart m_filled m_fillSide m_many m_kind m_number m_lines m_first m_spacing m_fill m_all m_heavy hR a1
  obtain ⟨hS, ⟨z, rfl, rfl, hH⟩, hT⟩ := hR
  have hR : Rel S h (nI z) rt rl pg hist (nI z) mt ml := ⟨hS, ⟨z, rfl, rfl, hH⟩, hT⟩
  have hz5 := hH.1
  obtain ⟨hM, k0, k1, hk0, hk1, p151, p303, hkk, f0, f1⟩ := id hS
  obtain ⟨n, g, s, sd, hg, ho, hw, ⟨cn, cv, cst, cw⟩, hRR⟩ := id hM
  obtain ⟨rn, rv, rst, rsd⟩ := id hRR
  have hn := hg.1
  have hb15 := bst_le (fun w => rtw (prt g (s 2) (s 0) (s 5)) n g s (fun c => tb w c)) 15
  unfold p_X8_bestSides
  by_cases hv : ∃ x, 0 ≤ x ∧ x ≤ 3 ∧ a1 = nI x
  · obtain ⟨x, _, hx, rfl⟩ := id hv
    simp (disch := omega) only [li_0, li_1, li_2, li_3, li_4, li_5, li_6, li_7, li_8, li_9, li_10, li_11, li_12, li_13, li_14, li_15, li_16, li_20, li_26, li_31, li_32, li_36, li_42, li_43, li_48, li_52, li_57, li_58, li_59, li_60, li_63, li_97, li_99, li_104, li_112, li_115, li_119, li_140, li_141, li_142, li_143, li_144, li_145, li_146, li_147, li_148, li_149, li_150, li_151, li_152, li_255, li_303, li_455, li_999, li_1000, li_1510, li_1820, li_2275, li_9999, li_10000, li_100000, li_1048575, li_100000000, e_inRange, hv, nI_eqI, Nat.one_ne_zero, true_and, and_true, not_true_eq_false, not_false_eq_true, true_imp_iff, false_imp_iff, false_and, and_false, imp_false, Classical.not_not, Bool.false_eq_true, Nat.zero_ne_one, Nat.one_ne_zero, Nat.not_lt_zero, if_true, if_false, implies_true]
    rw [cn]
    refine i_findPrinted cv cst hg ho ?_
    intro D' L' W' set num pri all col hP
    refine i_foldBestWay hg ho hP cst ?_
    intro b p1 w1 l1 ks gap p2 w2 l2 ks2 gap2 hb R1
    have hX := wx_ok (prt g (s 2) (s 0) (s 5)) hg ho (fun c => tb b c)
    have hfl := fld_b hX (s 4)
    have hev := evn_le (wx (prt g (s 2) (s 0) (s 5)) n g s (fun c => tb b c)) (fsd (wx (prt g (s 2) (s 0) (s 5)) n g s (fun c => tb b c))) (fld (wx (prt g (s 2) (s 0) (s 5)) n g s (fun c => tb b c)) (s 4))
    have hps : ∀ pg', relR n g s sd pg' → (∀ j, 151 ≤ j → pg' j = pg j) → Rel S h (nI z) rt rl pg' hist (nI z) mt ml := by
      intro pg' h1 h2
      refine ⟨?_, ⟨z, rfl, rfl, hH⟩, hT⟩
      exact relS_menu (M := S.1) hS ⟨n, g, s, sd, hg, ho, hw, ⟨cn, cv, cst, cw⟩, h1⟩ h2
    have ref : ∀ (r : Int32) (x' : Nat), x' = x → (x = 0 → r = nI b) → (x = 1 → r = nI (dif (wx (prt g (s 2) (s 0) (s 5)) n g s (fun c => tb b c)))) → (x = 2 → r = nI (lgs (wx (prt g (s 2) (s 0) (s 5)) n g s (fun c => tb b c)) (fsd (wx (prt g (s 2) (s 0) (s 5)) n g s (fun c => tb b c))) (fld (wx (prt g (s 2) (s 0) (s 5)) n g s (fun c => tb b c)) (s 4)))) → (x = 3 → r = nI (evn (wx (prt g (s 2) (s 0) (s 5)) n g s (fun c => tb b c)) (fsd (wx (prt g (s 2) (s 0) (s 5)) n g s (fun c => tb b c))) (fld (wx (prt g (s 2) (s 0) (s 5)) n g s (fun c => tb b c)) (s 4)))) → p_X9_bestSides pg m_printed m_column m_inKey m_keySide m_apart m_filled m_fillSide m_many m_kind m_number m_lines m_first m_spacing m_fill m_all m_heavy (nI x') (fun r' page _ _ _ _ _ _ _ _ _ _ _ _ _ _ _ _ => r = r' ∧ Rel S h (nI z) rt rl page hist (nI z) mt ml) := by
      rintro r x' rfl e0 e1 e2 e3
      unfold p_X9_bestSides
      simp (disch := omega) only [li_0, li_1, li_2, li_3, li_4, li_5, li_6, li_7, li_8, li_9, li_10, li_11, li_12, li_13, li_14, li_15, li_16, li_20, li_26, li_31, li_32, li_36, li_42, li_43, li_48, li_52, li_57, li_58, li_59, li_60, li_63, li_97, li_99, li_104, li_112, li_115, li_119, li_140, li_141, li_142, li_143, li_144, li_145, li_146, li_147, li_148, li_149, li_150, li_151, li_152, li_255, li_303, li_455, li_999, li_1000, li_1510, li_1820, li_2275, li_9999, li_10000, li_100000, li_1048575, li_100000000, e_in, hv, nI_eqI, Nat.one_ne_zero, true_and, and_true, not_true_eq_false, not_false_eq_true, true_imp_iff, false_imp_iff, false_and, and_false, imp_false, Classical.not_not, Bool.false_eq_true, Nat.zero_ne_one, Nat.one_ne_zero, Nat.not_lt_zero, if_true, if_false, implies_true]
      refine i_bestWay hRR hg ho hw ?_
      intro pg1 y1 y2 y3 y4 y5 y6 y7 v1 v2 v3 v4 v5 v6 v7 v8 v9 hR1 hpg1
      rw [← hb]
      refine ⟨fun h0 => ?_, fun h0 => ⟨e0 h0, hps _ hR1 hpg1⟩⟩
      rw [e_wayNow hR1]
      refine i_putSides hR1 (by omega) ?_
      intro pg2 hR2 hpg2
      refine i_lay9 hR2 hg ho (okW_tb b) ?_
      intro X nk u1 u2 u3 u4 u5 u6 u7 z1 z2 z3 z4 z5 z6 z7 z8 z9 hL
      obtain ⟨rfl, rfl, hX2, _, _, _, _, _, _, A, _⟩ := hL
      refine i_putSides hR2 (wy_lt hw) ?_
      intro pg3 hR3 hpg3
      have hpp := hps pg3 (relR_cong hR3 (fun c hc => wy_tb hw hc)) (fun j hj => by rw [hpg3 j hj, hpg2 j hj, hpg1 j hj])
      refine ⟨fun h1 => ⟨fun h2 => ?_, fun h2 => ?_⟩, fun h1 => ?_⟩
      · have h3 : x' = 3 := by omega
        rw [e_isEven9 hX2 hfl A]
        have e3' := e3 h3
        show (nI (evn (wx (prt g (s 2) (s 0) (s 5)) n g s (fun c => tb b c)) (fsd (wx (prt g (s 2) (s 0) (s 5)) n g s (fun c => tb b c))) (fld (wx (prt g (s 2) (s 0) (s 5)) n g s (fun c => tb b c)) (s 4))) = nI 0 → _) ∧ (¬ nI (evn (wx (prt g (s 2) (s 0) (s 5)) n g s (fun c => tb b c)) (fsd (wx (prt g (s 2) (s 0) (s 5)) n g s (fun c => tb b c))) (fld (wx (prt g (s 2) (s 0) (s 5)) n g s (fun c => tb b c)) (s 4))) = nI 0 → _)
        rw [nI_eqI (by omega) (by omega)]
        refine ⟨fun e => ⟨by rw [e3', e], hpp⟩, fun e => ⟨by rw [e3', show evn (wx (prt g (s 2) (s 0) (s 5)) n g s (fun c => tb b c)) (fsd (wx (prt g (s 2) (s 0) (s 5)) n g s (fun c => tb b c))) (fld (wx (prt g (s 2) (s 0) (s 5)) n g s (fun c => tb b c)) (s 4)) = 1 by omega], hpp⟩⟩
      · exact i_longer9 hX2 hfl A ⟨e2 h2, hpp⟩
      · exact i_heavier9 hX2 A ⟨e1 h1, hpp⟩
    refine ⟨fun e => ?_, fun e => ?_, fun e => ?_, fun e0 e1 e2 => ?_⟩
    · exact ref _ x rfl (fun _ => rfl) (fun e' => absurd e' (by omega)) (fun e' => absurd e' (by omega)) (fun e' => absurd e' (by omega))
    · rw [e_difference R1 hX]
      exact ref _ x rfl (fun e' => absurd e' (by omega)) (fun _ => rfl) (fun e' => absurd e' (by omega)) (fun e' => absurd e' (by omega))
    · refine i_longest R1 hX hfl ?_
      exact ref _ x rfl (fun e' => absurd e' (by omega)) (fun e' => absurd e' (by omega)) (fun _ => rfl) (fun e' => absurd e' (by omega))
    · refine i_isEven R1 hX hfl ?_
      show (nI (evn (wx (prt g (s 2) (s 0) (s 5)) n g s (fun c => tb b c)) (fsd (wx (prt g (s 2) (s 0) (s 5)) n g s (fun c => tb b c))) (fld (wx (prt g (s 2) (s 0) (s 5)) n g s (fun c => tb b c)) (s 4))) = nI 0 → _) ∧ (¬ nI (evn (wx (prt g (s 2) (s 0) (s 5)) n g s (fun c => tb b c)) (fsd (wx (prt g (s 2) (s 0) (s 5)) n g s (fun c => tb b c))) (fld (wx (prt g (s 2) (s 0) (s 5)) n g s (fun c => tb b c)) (s 4))) = nI 0 → _)
      rw [nI_eqI (by omega) (by omega)]
      refine ⟨fun e => ?_, fun e => ?_⟩
      · exact ref _ x rfl (fun e' => absurd e' (by omega)) (fun e' => absurd e' (by omega)) (fun e' => absurd e' (by omega)) (fun _ => by rw [e])
      · exact ref _ x rfl (fun e' => absurd e' (by omega)) (fun e' => absurd e' (by omega)) (fun e' => absurd e' (by omega)) (fun _ => by rw [show evn (wx (prt g (s 2) (s 0) (s 5)) n g s (fun c => tb b c)) (fsd (wx (prt g (s 2) (s 0) (s 5)) n g s (fun c => tb b c))) (fld (wx (prt g (s 2) (s 0) (s 5)) n g s (fun c => tb b c)) (s 4)) = 1 by omega])
  · unfold p_X9_bestSides
    simp (disch := omega) only [li_0, li_1, li_2, li_3, li_4, li_5, li_6, li_7, li_8, li_9, li_10, li_11, li_12, li_13, li_14, li_15, li_16, li_20, li_26, li_31, li_32, li_36, li_42, li_43, li_48, li_52, li_57, li_58, li_59, li_60, li_63, li_97, li_99, li_104, li_112, li_115, li_119, li_140, li_141, li_142, li_143, li_144, li_145, li_146, li_147, li_148, li_149, li_150, li_151, li_152, li_255, li_303, li_455, li_999, li_1000, li_1510, li_1820, li_2275, li_9999, li_10000, li_100000, li_1048575, li_100000000, e_inRange, e_in, hv, nI_eqI, Nat.one_ne_zero, true_and, and_true, not_true_eq_false, not_false_eq_true, true_imp_iff, false_imp_iff, false_and, and_false, imp_false, Classical.not_not, Bool.false_eq_true, Nat.zero_ne_one, Nat.one_ne_zero, Nat.not_lt_zero, if_true, if_false, implies_true]
    exact hR

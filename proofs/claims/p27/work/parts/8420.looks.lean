/-! ===== looking ===== -/
theorem sx_cg {P : Nat → Bool} {n : Nat} {g : Nat → Nat → Nat} {wid col spa : Nat} {sd sd' : Nat → Nat} (h : ∀ c, c < 4 → sd c = sd' c) : sx P n g wid col spa sd = sx P n g wid col spa sd' := by
  funext t
  exact sl_cong h
theorem wx_cg {P : Nat → Bool} {n : Nat} {g : Nat → Nat → Nat} {s sd sd' : Nat → Nat} (h : ∀ c, c < 4 → sd c = sd' c) : wx P n g s sd = wx P n g s sd' := by
  unfold wx
  rw [sx_cg h]
theorem i_laySd {P : Nat → Bool} {n : Nat} {g : Nat → Nat → Nat} {s sd : Nat → Nat} (hg : okG n g) (ho : okS s) (hw : okW sd) {D L W st : Nat → Int32} {set num pri all col : Int32} (hP : relP P n g (s 1) D L W set num pri all col) (hst : ∀ k, k < 6 → st k = nI (s k)) {parts : Nat → Nat → Int32} {weights places : Nat → Int32} {Q : (Nat → Nat → Int32) → (Nat → Int32) → (Nat → Int32) → Int32 → Int32 → Prop}
    (h : ∀ parts' weights' places', relF (wx P n g s sd) (fsd (wx P n g s sd)) (fld (wx P n g s sd) (s 4)) parts' weights' places' → Q parts' weights' places' (if pc (kyl P g n) = 0 then -nI 99 else nI (kys (sx P n g (s 1) (clm P g n) (s 3) sd))) (nI (apt (wx P n g s sd)))) : p_X1_lay parts weights places D L W all st (nI (wy sd)) Q := by
  have e1 : ∀ c, c < 4 → (fun c => tb (wy sd) c) c = sd c := fun c hc => wy_tb hw hc
  refine i_layW hg ho hP hst (wy_lt hw) ?_
  rw [wx_cg e1, sx_cg e1]
  exact h
theorem i_layCard {S : sS} {n : Nat} {g : Nat → Nat → Nat} {s sd : Nat → Nat} (hg : okG n g) (ho : okS s) (hw : okW sd) (C : relC n g s sd S.1.1 S.1.2.1 S.1.2.2.1 S.1.2.2.2) {D L W : Nat → Int32} {parts : Nat → Nat → Int32} {weights places : Nat → Int32} {Q : (Nat → Int32) → (Nat → Int32) → (Nat → Int32) → Int32 → Int32 → Int32 → Int32 → Int32 → (Nat → Nat → Int32) → (Nat → Int32) → (Nat → Int32) → Int32 → Int32 → Prop}
    (h : ∀ D' L' W' set num pri all col parts' weights' places', relP (prt g (s 2) (s 0) (s 5)) n g (s 1) D' L' W' set num pri all col → relF (wx (prt g (s 2) (s 0) (s 5)) n g s sd) (fsd (wx (prt g (s 2) (s 0) (s 5)) n g s sd)) (fld (wx (prt g (s 2) (s 0) (s 5)) n g s sd) (s 4)) parts' weights' places' → Q D' L' W' set num pri all col parts' weights' places' (if pc (kyl (prt g (s 2) (s 0) (s 5)) g n) = 0 then -nI 99 else nI (kys (sx (prt g (s 2) (s 0) (s 5)) n g (s 1) (clm (prt g (s 2) (s 0) (s 5)) g n) (s 3) sd))) (nI (apt (wx (prt g (s 2) (s 0) (s 5)) n g s sd)))) : p_X8_layCard S D L W parts weights places Q := by
  obtain ⟨s0, s1, s2, s3, s4, s5, s6, s7⟩ := ho.b
  obtain ⟨cn, cv, cst, cw⟩ := C
  unfold p_X8_layCard
  simp (disch := omega) only [li_0, li_1, li_2, li_3, li_4, li_5, li_6, li_7, li_8, li_9, li_10, li_11, li_12, li_13, li_14, li_15, li_16, li_20, li_26, li_31, li_32, li_36, li_42, li_43, li_48, li_52, li_57, li_58, li_59, li_60, li_63, li_97, li_99, li_104, li_112, li_115, li_119, li_140, li_141, li_142, li_143, li_144, li_145, li_146, li_147, li_148, li_149, li_150, li_151, li_152, li_255, li_303, li_455, li_999, li_1000, li_1510, li_1820, li_2275, li_9999, li_10000, li_100000, li_1048575, li_100000000, e_setting cst]
  rw [cn]
  refine i_find cv cst hg ho s0 ?_
  intro D' L' W' set num pri all col hP
  rw [cw]
  refine i_laySd hg ho hw hP cst ?_
  intro p' w' l' R
  exact h _ _ _ _ _ _ _ _ _ _ _ hP R
theorem okS_up {s : Nat → Nat} (ho : okS s) {j x : Nat} (h : loC j ≤ x ∧ x ≤ hiC j) : okS (fun k => if k = j then x else s k) := by
  intro k hk
  by_cases e : k = j
  · show loC k ≤ (if k = j then x else s k) ∧ (if k = j then x else s k) ≤ hiC k
    rw [if_pos e, e]
    exact h
  · show loC k ≤ (if k = j then x else s k) ∧ (if k = j then x else s k) ≤ hiC k
    rw [if_neg e]
    exact ho k hk
theorem okC_i {k x : Nat} (hk : k < 6) (h1 : loC k ≤ x) (h2 : x ≤ hiC k) : okC (nI k) (nI x) := ⟨k, x, hk, rfl, h1, h2, rfl⟩
theorem i_evenSeasons8 {S : sS} {n : Nat} {g : Nat → Nat → Nat} {s sd : Nat → Nat} (hg : okG n g) (ho : okS s) (hw : okW sd) (C : relC n g s sd S.1.1 S.1.2.1 S.1.2.2.1 S.1.2.2.2) {D L W : Nat → Int32} {set num pri all col : Int32} {parts : Nat → Nat → Int32} {weights places : Nat → Int32} {ks gap : Int32} {Q : Int32 → (Nat → Int32) → (Nat → Int32) → (Nat → Int32) → Int32 → Int32 → Int32 → Int32 → Int32 → (Nat → Nat → Int32) → (Nat → Int32) → (Nat → Int32) → Int32 → Int32 → Prop}
    (h : ∀ D' L' W' set num pri all col parts' weights' places' ks gap, Q (nI (mk (fun k => evn (wx (prt g (s 2) k (s 5)) n g s sd) (fsd (wx (prt g (s 2) k (s 5)) n g s sd)) (fld (wx (prt g (s 2) k (s 5)) n g s sd) (s 4)) == 1) 4)) D' L' W' set num pri all col parts' weights' places' ks gap) : p_X8_evenSeasons S D L W set num pri all col parts weights places ks gap Q := by
  obtain ⟨cn, cv, cst, cw⟩ := C
  unfold p_X8_evenSeasons p_X8_evenSeasons_4
  refine wl14 (q_X8_evenSeasons_4 S Q) 4 (by decide) (fun k _ _ _ _ _ _ _ _ _ _ _ _ _ x => x = nI (mk (fun k => evn (wx (prt g (s 2) k (s 5)) n g s sd) (fsd (wx (prt g (s 2) k (s 5)) n g s sd)) (fld (wx (prt g (s 2) k (s 5)) n g s sd) (s 4)) == 1) k)) 0 (by omega) _ _ _ _ _ _ _ _ _ _ _ _ _ _ rfl ?_
  rintro K k z1 z2 z3 z4 z5 z6 z7 z8 z9 z10 z11 z12 z13 x _ hk rfl hK
  unfold q_X8_evenSeasons_4
  simp (disch := omega) only [li_0, li_1, li_2, li_3, li_4, li_5, li_6, li_7, li_8, li_9, li_10, li_11, li_12, li_13, li_14, li_15, li_16, li_20, li_26, li_31, li_32, li_36, li_42, li_43, li_48, li_52, li_57, li_58, li_59, li_60, li_63, li_97, li_99, li_104, li_112, li_115, li_119, li_140, li_141, li_142, li_143, li_144, li_145, li_146, li_147, li_148, li_149, li_150, li_151, li_152, li_255, li_303, li_455, li_999, li_1000, li_1510, li_1820, li_2275, li_9999, li_10000, li_100000, li_1048575, li_100000000, nI_leI, e_setting cst]
  refine ⟨fun hge => ?_, fun hlt => ?_⟩
  · have : k = 4 := by omega
    subst this
    exact h _ _ _ _ _ _ _ _ _ _ _ _ _
  · have hk3 : k ≤ 3 := by omega
    rw [cn]
    refine i_find cv cst hg ho hk3 ?_
    intro D' L' W' set num pri all col hP
    rw [cw]
    refine i_laySd hg ho hw hP cst ?_
    intro p' w' l' R
    have hX := wx_ok (prt g (s 2) k (s 5)) hg ho sd
    refine i_isEven R hX (fld_b hX (s 4)) ?_
    have hev := evn_le (wx (prt g (s 2) k (s 5)) n g s sd) (fsd (wx (prt g (s 2) k (s 5)) n g s sd)) (fld (wx (prt g (s 2) k (s 5)) n g s sd) (s 4))
    have hmk : ∀ m, m = mk (fun k => evn (wx (prt g (s 2) k (s 5)) n g s sd) (fsd (wx (prt g (s 2) k (s 5)) n g s sd)) (fld (wx (prt g (s 2) k (s 5)) n g s sd) (s 4)) == 1) (k + 1) → m = mk (fun k => evn (wx (prt g (s 2) k (s 5)) n g s sd) (fsd (wx (prt g (s 2) k (s 5)) n g s sd)) (fld (wx (prt g (s 2) k (s 5)) n g s sd) (s 4)) == 1) k + if evn (wx (prt g (s 2) k (s 5)) n g s sd) (fsd (wx (prt g (s 2) k (s 5)) n g s sd)) (fld (wx (prt g (s 2) k (s 5)) n g s sd) (s 4)) == 1 then 2 ^ k else 0 := fun m hm => hm
    have hmk2 := hmk _ rfl
    show (nI (evn (wx (prt g (s 2) k (s 5)) n g s sd) (fsd (wx (prt g (s 2) k (s 5)) n g s sd)) (fld (wx (prt g (s 2) k (s 5)) n g s sd) (s 4))) = nI 0 → _) ∧ (¬ nI (evn (wx (prt g (s 2) k (s 5)) n g s sd) (fsd (wx (prt g (s 2) k (s 5)) n g s sd)) (fld (wx (prt g (s 2) k (s 5)) n g s sd) (s 4))) = nI 0 → _)
    rw [nI_eqI (by omega) (by omega)]
    unfold p_X8_evenSeasons_79
    simp (disch := omega) only [li_0, li_1, li_2, li_3, li_4, li_5, li_6, li_7, li_8, li_9, li_10, li_11, li_12, li_13, li_14, li_15, li_16, li_20, li_26, li_31, li_32, li_36, li_42, li_43, li_48, li_52, li_57, li_58, li_59, li_60, li_63, li_97, li_99, li_104, li_112, li_115, li_119, li_140, li_141, li_142, li_143, li_144, li_145, li_146, li_147, li_148, li_149, li_150, li_151, li_152, li_255, li_303, li_455, li_999, li_1000, li_1510, li_1820, li_2275, li_9999, li_10000, li_100000, li_1048575, li_100000000, nI_add, e_shl, e_orI, mk_or]
    refine ⟨fun e => hK (by omega) _ _ _ _ _ _ _ _ _ _ _ _ _ _ ?_, fun e => hK (by omega) _ _ _ _ _ _ _ _ _ _ _ _ _ _ ?_⟩
    · rw [hmk2, e]
      rfl
    · rw [hmk2, show evn (wx (prt g (s 2) k (s 5)) n g s sd) (fsd (wx (prt g (s 2) k (s 5)) n g s sd)) (fld (wx (prt g (s 2) k (s 5)) n g s sd) (s 4)) = 1 by omega]
      rfl

/-! ===== the reference: what is looked at ===== -/
abbrev clm (P : Nat → Bool) (g : Nat → Nat → Nat) (n : Nat) : Nat := dg (mxl (fun d => if P d = true then g d 2 else 0) n)
abbrev kyl (P : Nat → Bool) (g : Nat → Nat → Nat) (n : Nat) : Nat := orl (fun d => if P d = true then g d 4 else 0) n
theorem kyl_lt (P : Nat → Bool) {n m : Nat} {g : Nat → Nat → Nat} (hg : okG n g) (hm : m ≤ 20) : kyl P g m < 256 := by
  have : orl (fun d => if P d = true then g d 4 else 0) m < 2 ^ 8 := orl_lt (fun k hk => by
    have := (hg.b (d := k) (by omega)).2.2.2.2.1
    show (if _ then g k 4 else 0) < 2 ^ 8
    split <;> omega)
  exact this
theorem mxp_le (P : Nat → Bool) {n m : Nat} {g : Nat → Nat → Nat} (hg : okG n g) (hm : m ≤ 20) : mxl (fun d => if P d = true then g d 2 else 0) m ≤ 9999 := mxl_le (fun j hj => by
    have := (hg.b (d := j) (by omega)).2.2.1
    show (if _ then g j 2 else 0) ≤ 9999
    split <;> omega)
theorem i_lookAtPrinted {pg : Nat → Int32} {n : Nat} {g : Nat → Nat → Nat} {s sd : Nat → Nat} (R : relR n g s sd pg) (hg : okG n g) (ho : okS s) {Q : Int32 → Int32 → Int32 → Prop} (h : Q (nI (mk (prt g (s 2) (s 0) (s 5)) n)) (nI (clm (prt g (s 2) (s 0) (s 5)) g n)) (nI (kyl (prt g (s 2) (s 0) (s 5)) g n))) : p_X9_lookAtPrinted pg Q := by
  have hn := hg.1
  unfold p_X9_lookAtPrinted
  refine i_printedNow R hg ho ?_
  generalize prt g (s 2) (s 0) (s 5) = P at h ⊢
  unfold p_X9_lookAtPrinted_17
  refine wl2 (q_X9_lookAtPrinted_17 pg (nI (mk P n)) Q) n (by omega) (fun k ky hi => ky = nI (kyl P g k) ∧ hi = nI (mxl (fun d => if P d = true then g d 2 else 0) k)) 0 (by omega) _ _ ⟨rfl, rfl⟩ ?_
  rintro K k ky hi _ hk ⟨rfl, rfl⟩ hK
  unfold q_X9_lookAtPrinted_17
  have hm := mxp_le P hg (m := k) (by omega)
  simp (disch := omega) only [li_0, li_1, li_2, li_3, li_4, li_5, li_6, li_7, li_8, li_9, li_10, li_11, li_12, li_13, li_14, li_15, li_16, li_20, li_26, li_31, li_32, li_36, li_42, li_43, li_48, li_52, li_57, li_58, li_59, li_60, li_63, li_97, li_99, li_104, li_112, li_115, li_119, li_140, li_141, li_142, li_143, li_144, li_145, li_146, li_147, li_148, li_149, li_150, li_151, li_152, li_255, li_303, li_455, li_999, li_1000, li_1510, li_1820, li_2275, li_9999, li_10000, li_100000, li_1048575, li_100000000, vp_t, nI_clamp, R.1, nI_leI, Nat.reduceLT, true_and, and_true, not_true_eq_false, not_false_eq_true, true_imp_iff, false_imp_iff, false_and, and_false, imp_false, Classical.not_not, Bool.false_eq_true, Nat.zero_ne_one, Nat.one_ne_zero, Nat.not_lt_zero, if_true, if_false, implies_true]
  refine ⟨fun hge => ?_, fun hlt => ?_⟩
  · have : k = n := by omega
    subst this
    unfold p_X9_lookAtPrinted_93
    simp (disch := omega) only [nI_eqI]
    refine ⟨fun e => ?_, fun e => ?_⟩
    · rw [e_figures (by omega) (by omega)]
      exact h
    · have e2 : clm P g k = 0 := by
        show dg _ = 0
        rw [e]
        rfl
      rw [e2] at h
      exact h
  · have hk2 : k < n := by omega
    have hk3 : k < 20 := by omega
    obtain ⟨b0, b1, b2, b3, b4, b5, b6⟩ := hg.b hk3
    have hm2 := mk_lt31 P hn
    have ht := mk_tb P n k
    by_cases hp : P k = true
    · simp (disch := omega) only [e_has9, ht, hk2, hp, and_self, e_of R.2.1, nI_leI, nI_eqI, e_orI, true_and, and_true, not_true_eq_false, not_false_eq_true, true_imp_iff, false_imp_iff, false_and, and_false, imp_false, Classical.not_not, Bool.false_eq_true, Nat.zero_ne_one, Nat.one_ne_zero, Nat.not_lt_zero, if_true, if_false, implies_true]
      unfold p_X9_lookAtPrinted_73 p_X9_lookAtPrinted_74
      simp only [li_0, li_1, li_2, li_3, li_4, li_5, li_6, li_7, li_8, li_9, li_10, li_11, li_12, li_13, li_14, li_15, li_16, li_20, li_26, li_31, li_32, li_36, li_42, li_43, li_48, li_52, li_57, li_58, li_59, li_60, li_63, li_97, li_99, li_104, li_112, li_115, li_119, li_140, li_141, li_142, li_143, li_144, li_145, li_146, li_147, li_148, li_149, li_150, li_151, li_152, li_255, li_303, li_455, li_999, li_1000, li_1510, li_1820, li_2275, li_9999, li_10000, li_100000, li_1048575, li_100000000, nI_add]
      refine ⟨fun h1 => hK hk2 _ _ ⟨?_, ?_⟩, fun h1 => hK hk2 _ _ ⟨?_, ?_⟩⟩
      · show _ = nI (orl _ k ||| if P k = true then g k 4 else 0)
        rw [if_pos hp]
      · show _ = nI (if mxl _ k < (if P k = true then g k 2 else 0) then (if P k = true then g k 2 else 0) else mxl _ k)
        rw [if_pos hp, if_neg (by omega)]
      · show _ = nI (orl _ k ||| if P k = true then g k 4 else 0)
        rw [if_pos hp]
      · show _ = nI (if mxl _ k < (if P k = true then g k 2 else 0) then (if P k = true then g k 2 else 0) else mxl _ k)
        rw [if_pos hp, if_pos (by omega)]
    · simp (disch := omega) only [e_has9, ht, hk2, hp, and_false, nI_eqI, true_and, and_true, not_true_eq_false, not_false_eq_true, true_imp_iff, false_imp_iff, false_and, and_false, imp_false, Classical.not_not, Bool.false_eq_true, Nat.zero_ne_one, Nat.one_ne_zero, Nat.not_lt_zero, if_true, if_false, implies_true]
      unfold p_X9_lookAtPrinted_74
      simp only [li_0, li_1, li_2, li_3, li_4, li_5, li_6, li_7, li_8, li_9, li_10, li_11, li_12, li_13, li_14, li_15, li_16, li_20, li_26, li_31, li_32, li_36, li_42, li_43, li_48, li_52, li_57, li_58, li_59, li_60, li_63, li_97, li_99, li_104, li_112, li_115, li_119, li_140, li_141, li_142, li_143, li_144, li_145, li_146, li_147, li_148, li_149, li_150, li_151, li_152, li_255, li_303, li_455, li_999, li_1000, li_1510, li_1820, li_2275, li_9999, li_10000, li_100000, li_1048575, li_100000000, nI_add]
      refine hK hk2 _ _ ⟨?_, ?_⟩
      · show _ = nI (orl _ k ||| if P k = true then g k 4 else 0)
        rw [if_neg hp, Nat.or_zero]
      · show _ = nI (if mxl _ k < (if P k = true then g k 2 else 0) then (if P k = true then g k 2 else 0) else mxl _ k)
        rw [if_neg hp, if_neg (Nat.not_lt_zero _)]
/-! ===== the reference: the lists ===== -/
def relA (X : Nat → List sE) (F : Nat → Nat → Nat) (ad : Nat → Nat) (many kind number lines spacing fill all heavy : Nat → Int32) : Prop :=
  ∀ t, t < 2 → many t = nI (X t).length ∧ all t = nI (ls eA (X t) + ad t) ∧ heavy t = nI (ls eW (X t)) ∧ ∀ i, i < (X t).length → kind (26 * t + i) = nI (eK (nt (X t) i)) ∧ number (26 * t + i) = nI (eN (nt (X t) i)) ∧ lines (26 * t + i) = nI (eL (nt (X t) i)) ∧ spacing (26 * t + i) = nI (eS (nt (X t) i)) ∧ fill (26 * t + i) = nI (F t i)
theorem i_add {X : Nat → List sE} {many kind number lines spacing fill all heavy : Nat → Int32} {s k m l sp w : Nat} (pl : Nat) (hs : s < 2) (hl : ∀ t, t < 2 → (X t).length < 26) (R : relA X (fun _ _ => 0) (fun _ => 0) many kind number lines spacing fill all heavy) {Q : (Nat → Int32) → (Nat → Int32) → (Nat → Int32) → (Nat → Int32) → (Nat → Int32) → (Nat → Int32) → (Nat → Int32) → (Nat → Int32) → Prop} (h : ∀ many' kind' number' lines' spacing' fill' all' heavy', relA (fun t => X t ++ if s = t then [(k, m, l, sp, w, pl)] else []) (fun _ _ => 0) (fun _ => 0) many' kind' number' lines' spacing' fill' all' heavy' → Q many' kind' number' lines' spacing' fill' all' heavy') : p_X9_add many kind number lines spacing fill all heavy (nI s) (nI k) (nI m) (nI l) (nI sp) (nI w) Q := by
  obtain ⟨m1, m2, m3, m4⟩ := R s hs
  have hls := hl s hs
  have hb : 26 * s + (X s).length < 52 := by omega
  unfold p_X9_add
  simp (disch := omega) only [li_0, li_1, li_2, li_3, li_4, li_5, li_6, li_7, li_8, li_9, li_10, li_11, li_12, li_13, li_14, li_15, li_16, li_20, li_26, li_31, li_32, li_36, li_42, li_43, li_48, li_52, li_57, li_58, li_59, li_60, li_63, li_97, li_99, li_104, li_112, li_115, li_119, li_140, li_141, li_142, li_143, li_144, li_145, li_146, li_147, li_148, li_149, li_150, li_151, li_152, li_255, li_303, li_455, li_999, li_1000, li_1510, li_1820, li_2275, li_9999, li_10000, li_100000, li_1048575, li_100000000, nI_clamp, m1, m2, m3, pk_mul, nI_add, vp_t, hs, hb, true_and, and_true, not_true_eq_false, not_false_eq_true, true_imp_iff, false_imp_iff, false_and, and_false, imp_false, Classical.not_not, Bool.false_eq_true, Nat.zero_ne_one, Nat.one_ne_zero, Nat.not_lt_zero, if_true, if_false, implies_true]
  refine h _ _ _ _ _ _ _ _ ?_
  intro t ht
  obtain ⟨r1, r2, r3, r4⟩ := R t ht
  have hlt := hl t ht
  by_cases e : s = t
  · subst e
    simp only [if_true, ls_one, List.length_append, List.length_singleton]
    refine ⟨pk_us, ?_, ?_, ?_⟩
    · rw [pk_us]
      simp only [eA, eL, eS, Nat.add_zero]
    · rw [pk_us]
      rfl
    · intro i hi
      by_cases e2 : i = (X s).length
      · subst e2
        simp only [pk_us, nt_last]
        exact ⟨rfl, rfl, rfl, rfl, trivial⟩
      · have e3 : 26 * s + i ≠ 26 * s + (X s).length := by omega
        have e4 : i < (X s).length := by omega
        simp only [pk_un e3, nt_in e4]
        exact r4 i e4
  · have e2 : t ≠ s := fun e3 => e e3.symm
    simp only [if_neg e, List.append_nil, pk_un e2]
    refine ⟨r1, r2, r3, fun i hi => ?_⟩
    have e3 : 26 * t + i ≠ 26 * s + (X s).length := by omega
    simp only [pk_un e3]
    exact r4 i hi
theorem i_addCourse {pg : Nat → Int32} {n : Nat} {g : Nat → Nat → Nat} {s sd : Nat → Nat} (R : relR n g s sd pg) (hg : okG n g) (ho : okS s) (hw : okW sd) {P : Nat → Bool} {col c : Nat} (hcol : col ≤ 4) (hc : c < 4) {X : Nat → List sE} (hX : ∀ t, t < 2 → ∀ d, d ≤ n → (X t).length + (ce P g (s 1) col (s 3) c d).length ≤ 24) {many kind number lines spacing fill all heavy : Nat → Int32} (A : relA X (fun _ _ => 0) (fun _ => 0) many kind number lines spacing fill all heavy) {Q : (Nat → Int32) → (Nat → Int32) → (Nat → Int32) → (Nat → Int32) → (Nat → Int32) → (Nat → Int32) → (Nat → Int32) → (Nat → Int32) → Prop} (h : ∀ many' kind' number' lines' spacing' fill' all' heavy', relA (fun t => X t ++ if sd c = t then ce P g (s 1) col (s 3) c n else []) (fun _ _ => 0) (fun _ => 0) many' kind' number' lines' spacing' fill' all' heavy' → Q many' kind' number' lines' spacing' fill' all' heavy') : p_X9_addCourse pg (nI (mk P n)) (nI col) many kind number lines spacing fill all heavy (nI c) Q := by
  have hn := hg.1
  have h147 : 147 + c < 455 := by omega
  obtain ⟨s0, s1, s2, s3, s4, s5, s6, s7⟩ := ho.b
  have hsd : sd c < 2 := Nat.lt_succ_of_le (hw c hc)
  unfold p_X9_addCourse
  simp (disch := omega) only [li_0, li_1, li_2, li_3, li_4, li_5, li_6, li_7, li_8, li_9, li_10, li_11, li_12, li_13, li_14, li_15, li_16, li_20, li_26, li_31, li_32, li_36, li_42, li_43, li_48, li_52, li_57, li_58, li_59, li_60, li_63, li_97, li_99, li_104, li_112, li_115, li_119, li_140, li_141, li_142, li_143, li_144, li_145, li_146, li_147, li_148, li_149, li_150, li_151, li_152, li_255, li_303, li_455, li_999, li_1000, li_1510, li_1820, li_2275, li_9999, li_10000, li_100000, li_1048575, li_100000000, nI_add, vp_t, nI_clamp, R.2.2.2, h147, true_and, and_true, not_true_eq_false, not_false_eq_true, true_imp_iff, false_imp_iff, false_and, and_false, imp_false, Classical.not_not, Bool.false_eq_true, Nat.zero_ne_one, Nat.one_ne_zero, Nat.not_lt_zero, if_true, if_false, implies_true]
  unfold p_X9_addCourse_16
  refine wl9 (q_X9_addCourse_16 pg (nI (mk P n)) (nI col) (nI c) (nI (sd c)) Q) n (by omega) (fun k m' k' n' l' s' f' a' h' x => relA (fun t => X t ++ if sd c = t then ce P g (s 1) col (s 3) c k else []) (fun _ _ => 0) (fun _ => 0) m' k' n' l' s' f' a' h' ∧ x = nI (cs P g c (fun _ => 1) k)) 0 (by omega) _ _ _ _ _ _ _ _ _ ⟨?_, rfl⟩ ?_
  · have e : (fun t => X t ++ if sd c = t then ce P g (s 1) col (s 3) c 0 else []) = X := by
      funext t
      show X t ++ (if sd c = t then [] else []) = X t
      split <;> exact List.append_nil _
    rw [e]
    exact A
  rintro K k m' k' n' l' s' f' a' h' x _ hk ⟨A', rfl⟩ hK
  unfold q_X9_addCourse_16
  simp (disch := omega) only [li_0, li_1, li_2, li_3, li_4, li_5, li_6, li_7, li_8, li_9, li_10, li_11, li_12, li_13, li_14, li_15, li_16, li_20, li_26, li_31, li_32, li_36, li_42, li_43, li_48, li_52, li_57, li_58, li_59, li_60, li_63, li_97, li_99, li_104, li_112, li_115, li_119, li_140, li_141, li_142, li_143, li_144, li_145, li_146, li_147, li_148, li_149, li_150, li_151, li_152, li_255, li_303, li_455, li_999, li_1000, li_1510, li_1820, li_2275, li_9999, li_10000, li_100000, li_1048575, li_100000000, vp_t, nI_clamp, R.1, nI_leI, Nat.reduceLT, true_and, and_true, not_true_eq_false, not_false_eq_true, true_imp_iff, false_imp_iff, false_and, and_false, imp_false, Classical.not_not, Bool.false_eq_true, Nat.zero_ne_one, Nat.one_ne_zero, Nat.not_lt_zero, if_true, if_false, implies_true]
  refine ⟨fun hge => ?_, fun hlt => ?_⟩
  · have : k = n := by omega
    subst this
    exact h _ _ _ _ _ _ _ _ A'
  · have hk2 : k < n := by omega
    have hk3 : k < 20 := by omega
    obtain ⟨b0, b1, b2, b3, b4, b5, b6⟩ := hg.b hk3
    have hl := ln_le hg (wid := s 1) (col := col) hk3 s1 hcol
    have hm2 := mk_lt31 P hn
    have ht := mk_tb P n k
    have hcs : cs P g c (fun _ => 1) k ≤ 1 * k := cs_le (fun _ _ => Nat.le_refl 1)
    have hsk : ¬ (g k 0 = c ∧ P k = true) → p_X9_addCourse_118 m' k' n' l' s' f' a' h' (nI (cs P g c (fun _ => 1) k)) (nI k) K := by
      intro hno
      unfold p_X9_addCourse_118
      simp only [li_0, li_1, li_2, li_3, li_4, li_5, li_6, li_7, li_8, li_9, li_10, li_11, li_12, li_13, li_14, li_15, li_16, li_20, li_26, li_31, li_32, li_36, li_42, li_43, li_48, li_52, li_57, li_58, li_59, li_60, li_63, li_97, li_99, li_104, li_112, li_115, li_119, li_140, li_141, li_142, li_143, li_144, li_145, li_146, li_147, li_148, li_149, li_150, li_151, li_152, li_255, li_303, li_455, li_999, li_1000, li_1510, li_1820, li_2275, li_9999, li_10000, li_100000, li_1048575, li_100000000, nI_add]
      refine hK hk2 _ _ _ _ _ _ _ _ _ ⟨?_, ?_⟩
      · rw [ce_no hno]
        exact A'
      · rw [cs_step, if_neg hno, Nat.add_zero]
    by_cases hp : P k = true
    · by_cases hc0 : g k 0 = c
      · have go2 : ∀ (Y : List sE) (sp pl : Nat) (m2 k2 n2 l2 s2 f2 a2 h2 : Nat → Int32), (∀ t, t < 2 → (X t).length + Y.length ≤ 25) → ce P g (s 1) col (s 3) c (k + 1) = Y ++ [(2, k, ln g (s 1) col k, sp, g k 5 * ln g (s 1) col k + 2, pl)] → relA (fun t => X t ++ if sd c = t then Y else []) (fun _ _ => 0) (fun _ => 0) m2 k2 n2 l2 s2 f2 a2 h2 → p_X9_addCourse_100 pg m2 k2 n2 l2 s2 f2 a2 h2 (nI (cs P g c (fun _ => 1) k)) (nI k) (nI (ln g (s 1) col k)) (nI (sd c)) (nI 2) (nI k) (nI (ln g (s 1) col k)) (nI sp) K := by
          intro Y sp pl m2 k2 n2 l2 s2 f2 a2 h2 hY hce A2
          unfold p_X9_addCourse_100
          simp (disch := omega) only [li_0, li_1, li_2, li_3, li_4, li_5, li_6, li_7, li_8, li_9, li_10, li_11, li_12, li_13, li_14, li_15, li_16, li_20, li_26, li_31, li_32, li_36, li_42, li_43, li_48, li_52, li_57, li_58, li_59, li_60, li_63, li_97, li_99, li_104, li_112, li_115, li_119, li_140, li_141, li_142, li_143, li_144, li_145, li_146, li_147, li_148, li_149, li_150, li_151, li_152, li_255, li_303, li_455, li_999, li_1000, li_1510, li_1820, li_2275, li_9999, li_10000, li_100000, li_1048575, li_100000000, e_of R.2.1, pk_mul, nI_add]
          refine i_add pl hsd ?_ A2 ?_
          · intro t ht2
            have := hY t ht2
            rw [List.length_append]
            split
            · omega
            · have : ([] : List sE).length = 0 := rfl
              omega
          · intro m3 k3 n3 l3 s3 f3 a3 h3 A3
            unfold p_X9_addCourse_118
            simp only [li_0, li_1, li_2, li_3, li_4, li_5, li_6, li_7, li_8, li_9, li_10, li_11, li_12, li_13, li_14, li_15, li_16, li_20, li_26, li_31, li_32, li_36, li_42, li_43, li_48, li_52, li_57, li_58, li_59, li_60, li_63, li_97, li_99, li_104, li_112, li_115, li_119, li_140, li_141, li_142, li_143, li_144, li_145, li_146, li_147, li_148, li_149, li_150, li_151, li_152, li_255, li_303, li_455, li_999, li_1000, li_1510, li_1820, li_2275, li_9999, li_10000, li_100000, li_1048575, li_100000000, nI_add]
            refine hK hk2 _ _ _ _ _ _ _ _ _ ⟨?_, ?_⟩
            · have e : (fun t => (X t ++ if sd c = t then Y else []) ++ if sd c = t then [(2, k, ln g (s 1) col k, sp, ln g (s 1) col k * g k 5 + 2, pl)] else []) = (fun t => X t ++ if sd c = t then ce P g (s 1) col (s 3) c (k + 1) else []) := by
                funext t
                rw [hce, Nat.mul_comm (g k 5)]
                split
                · rw [List.append_assoc]
                · rw [List.append_nil]
              rw [← e]
              exact A3
            · rw [cs_step, if_pos ⟨hc0, hp⟩]
        have go : ∀ (Y : List sE) (m2 k2 n2 l2 s2 f2 a2 h2 : Nat → Int32), (∀ t, t < 2 → (X t).length + Y.length ≤ 25) → ce P g (s 1) col (s 3) c (k + 1) = Y ++ [(2, k, ln g (s 1) col k, if cs P g c (fun _ => 1) k = 0 then 0 else s 3, g k 5 * ln g (s 1) col k + 2, if cs P g c (fun _ => 1) k = 0 then 0 else 1)] → relA (fun t => X t ++ if sd c = t then Y else []) (fun _ _ => 0) (fun _ => 0) m2 k2 n2 l2 s2 f2 a2 h2 → p_X9_addCourse_65 pg (nI col) m2 k2 n2 l2 s2 f2 a2 h2 (nI (cs P g c (fun _ => 1) k)) (nI k) (nI (sd c)) K := by
          intro Y m2 k2 n2 l2 s2 f2 a2 h2 hY hce A2
          have h144 : pg 144 = nI (s 3) := R.2.2.1 3 (by decide)
          unfold p_X9_addCourse_65
          refine i_linesBy R hg ho hk3 hcol ?_
          simp (disch := omega) only [li_0, li_1, li_2, li_3, li_4, li_5, li_6, li_7, li_8, li_9, li_10, li_11, li_12, li_13, li_14, li_15, li_16, li_20, li_26, li_31, li_32, li_36, li_42, li_43, li_48, li_52, li_57, li_58, li_59, li_60, li_63, li_97, li_99, li_104, li_112, li_115, li_119, li_140, li_141, li_142, li_143, li_144, li_145, li_146, li_147, li_148, li_149, li_150, li_151, li_152, li_255, li_303, li_455, li_999, li_1000, li_1510, li_1820, li_2275, li_9999, li_10000, li_100000, li_1048575, li_100000000, vp_t, nI_clamp, h144, nI_eqI, Nat.reduceLT, true_and, and_true, not_true_eq_false, not_false_eq_true, true_imp_iff, false_imp_iff, false_and, and_false, imp_false, Classical.not_not, Bool.false_eq_true, Nat.zero_ne_one, Nat.one_ne_zero, Nat.not_lt_zero, if_true, if_false, implies_true]
          refine ⟨fun hz => ?_, fun hz => ?_⟩
          · rw [if_neg hz, if_neg hz] at hce
            exact go2 Y _ _ _ _ _ _ _ _ _ _ hY hce A2
          · rw [if_pos hz, if_pos hz] at hce
            exact go2 Y _ _ _ _ _ _ _ _ _ _ hY hce A2
        simp (disch := omega) only [e_has9, ht, hk2, hp, and_self, e_of R.2.1, hc0, nI_eqI, true_and, and_true, not_true_eq_false, not_false_eq_true, true_imp_iff, false_imp_iff, false_and, and_false, imp_false, Classical.not_not, Bool.false_eq_true, Nat.zero_ne_one, Nat.one_ne_zero, Nat.not_lt_zero, if_true, if_false, implies_true]
        refine ⟨fun hz => ?_, fun hz => ?_⟩
        · refine go (ce P g (s 1) col (s 3) c k) _ _ _ _ _ _ _ _ (fun t ht2 => Nat.le_succ_of_le (hX t ht2 k (by omega))) ?_ A'
          rw [if_neg hz, if_neg hz]
          exact ce_next ⟨hc0, hp⟩ hz
        · refine i_add 1 hsd ?_ A' ?_
          · intro t ht2
            have := hX t ht2 k (by omega)
            rw [List.length_append]
            split
            · omega
            · have : ([] : List sE).length = 0 := rfl
              omega
          · intro m3 k3 n3 l3 s3 f3 a3 h3 A3
            have hnil := ce_nil (wid := s 1) (col := col) (spa := s 3) hz
            refine go [(1, c, 2, 0, 6, 1)] _ _ _ _ _ _ _ _ (fun t ht2 => ?_) ?_ ?_
            · have := hX t ht2 k (by omega)
              have e1 : ([(1, c, 2, 0, 6, 1)] : List sE).length = 1 := rfl
              omega
            · rw [if_pos hz, if_pos hz]
              exact ce_first ⟨hc0, hp⟩ hz
            · have e : (fun t => (X t ++ if sd c = t then ce P g (s 1) col (s 3) c k else []) ++ if sd c = t then [(1, c, 2, 0, 6, 1)] else []) = (fun t => X t ++ if sd c = t then [(1, c, 2, 0, 6, 1)] else []) := by
                funext t
                rw [hnil]
                split
                · rw [List.append_nil]
                · rw [List.append_nil, List.append_nil]
              rw [← e]
              exact A3
      · have hno := hsk (fun e => hc0 e.1)
        simp (disch := omega) only [e_has9, ht, hk2, hp, and_self, e_of R.2.1, hc0, nI_eqI, true_and, and_true, not_true_eq_false, not_false_eq_true, true_imp_iff, false_imp_iff, false_and, and_false, imp_false, Classical.not_not, Bool.false_eq_true, Nat.zero_ne_one, Nat.one_ne_zero, Nat.not_lt_zero, if_true, if_false, implies_true]
        exact hno
    · have hno := hsk (fun e => hp e.2)
      simp (disch := omega) only [e_has9, ht, hk2, hp, and_false, nI_eqI, true_and, and_true, not_true_eq_false, not_false_eq_true, true_imp_iff, false_imp_iff, false_and, and_false, imp_false, Classical.not_not, Bool.false_eq_true, Nat.zero_ne_one, Nat.one_ne_zero, Nat.not_lt_zero, if_true, if_false, implies_true]
      exact hno
theorem i_addKey {X : Nat → List sE} {many kind number lines spacing fill all heavy : Nat → Int32} (A : relA X (fun _ _ => 0) (fun _ => 0) many kind number lines spacing fill all heavy) (hX : okX X) (hl : ∀ t, t < 2 → (X t).length ≤ 24) {ky : Nat} (hky : ky < 256) {Q : Int32 → (Nat → Int32) → (Nat → Int32) → (Nat → Int32) → (Nat → Int32) → (Nat → Int32) → (Nat → Int32) → (Nat → Int32) → (Nat → Int32) → Prop} (h : ∀ many' kind' number' lines' spacing' fill' all' heavy', relA (wk X (pc ky)) (fun _ _ => 0) (fun _ => 0) many' kind' number' lines' spacing' fill' all' heavy' → Q (if pc ky = 0 then -nI 99 else nI (kys X)) many' kind' number' lines' spacing' fill' all' heavy') : p_X9_addKey (nI ky) many kind number lines spacing fill all heavy Q := by
  obtain ⟨a1, a2, a3, a4, a5, a6, a7, a8⟩ := hX.b (s := 0) (by decide)
  obtain ⟨b1, b2, b3, b4, b5, b6, b7, b8⟩ := hX.b (s := 1) (by decide)
  have l0 : all 0 = nI (ls eA (X 0)) := (A 0 (by decide)).2.1
  have l1 : all 1 = nI (ls eA (X 1)) := (A 1 (by decide)).2.1
  have w0 : heavy 0 = nI (ls eW (X 0)) := (A 0 (by decide)).2.2.1
  have w1 : heavy 1 = nI (ls eW (X 1)) := (A 1 (by decide)).2.2.1
  have hpm := pc_mark ky hky
  have go : ∀ k, k = kys X → ¬ ky = 0 → p_X9_addKey_75 (nI ky) many kind number lines spacing fill all heavy (nI k) Q := by
    rintro k rfl h0
    have hnk : ¬ pc ky = 0 := fun e => h0 (hpm.2.1 e)
    unfold p_X9_addKey_75
    refine i_size (by omega) ⟨by decide, i_size (by omega) ?_⟩
    simp (disch := omega) only [li_0, li_1, li_2, li_3, li_4, li_5, li_6, li_7, li_8, li_9, li_10, li_11, li_12, li_13, li_14, li_15, li_16, li_20, li_26, li_31, li_32, li_36, li_42, li_43, li_48, li_52, li_57, li_58, li_59, li_60, li_63, li_97, li_99, li_104, li_112, li_115, li_119, li_140, li_141, li_142, li_143, li_144, li_145, li_146, li_147, li_148, li_149, li_150, li_151, li_152, li_255, li_303, li_455, li_999, li_1000, li_1510, li_1820, li_2275, li_9999, li_10000, li_100000, li_1048575, li_100000000, nI_add, pk_div]
    refine i_add 1 (kys_lt X) (fun t ht => Nat.lt_of_le_of_lt (hl t ht) (by decide)) A ?_
    intro m3 k3 n3 l3 s3 f3 a3 h3 A3
    have e : (fun t => X t ++ if kys X = t then [(3, 0, (pc ky + 2) / 3, 0, pc ky, 1)] else []) = wk X (pc ky) := by
      funext t
      by_cases e2 : t = kys X
      · subst e2
        rw [wk_s hnk, if_pos rfl]
      · rw [wk_n e2, if_neg (fun e3 => e2 e3.symm), List.append_nil]
    rw [e] at A3
    have h' := h m3 k3 n3 l3 s3 f3 a3 h3 A3
    rw [if_neg hnk] at h'
    exact h'
  unfold p_X9_addKey
  simp (disch := omega) only [li_0, li_1, li_2, li_3, li_4, li_5, li_6, li_7, li_8, li_9, li_10, li_11, li_12, li_13, li_14, li_15, li_16, li_20, li_26, li_31, li_32, li_36, li_42, li_43, li_48, li_52, li_57, li_58, li_59, li_60, li_63, li_97, li_99, li_104, li_112, li_115, li_119, li_140, li_141, li_142, li_143, li_144, li_145, li_146, li_147, li_148, li_149, li_150, li_151, li_152, li_255, li_303, li_455, li_999, li_1000, li_1510, li_1820, li_2275, li_9999, li_10000, li_100000, li_1048575, li_100000000, nI_eqI, vp_t, nI_clamp, l0, l1, w0, w1, nI_ltI, nI_leI, Nat.reduceLT, true_and, and_true, not_true_eq_false, not_false_eq_true, true_imp_iff, false_imp_iff, false_and, and_false, imp_false, Classical.not_not, Bool.false_eq_true, Nat.zero_ne_one, Nat.one_ne_zero, Nat.not_lt_zero, if_true, if_false, implies_true]
  refine ⟨fun h0 => ⟨fun e1 => ?_, fun e1 => ⟨fun e2 => ?_, fun e2 => ⟨fun e3 => ?_, fun e3 => ?_⟩⟩⟩, fun h0 => ?_⟩
  · unfold p_X9_addKey_59 p_X9_addKey_64
    exact ⟨fun e => absurd e (by decide), fun _ => go 1 (kys_t (Or.inl e1)).symm h0⟩
  · unfold p_X9_addKey_63 p_X9_addKey_64
    exact ⟨fun _ => go 0 (kys_f (fun hk => by rcases hk with hk | hk <;> omega)).symm h0, fun e => absurd rfl e⟩
  · unfold p_X9_addKey_63 p_X9_addKey_64
    exact ⟨fun _ => go 0 (kys_f (fun hk => by rcases hk with hk | hk <;> omega)).symm h0, fun e => absurd rfl e⟩
  · unfold p_X9_addKey_59 p_X9_addKey_64
    exact ⟨fun e => absurd e (by decide), fun _ => go 1 (kys_t (Or.inr ⟨e2, by omega⟩)).symm h0⟩
  · have hnk : pc ky = 0 := hpm.2.2 h0
    have A' : relA (wk X (pc ky)) (fun _ _ => 0) (fun _ => 0) many kind number lines spacing fill all heavy := by
      rw [hnk, wk_0]
      exact A
    have h' := h _ _ _ _ _ _ _ _ A'
    rw [if_pos hnk] at h'
    exact h'
/-! ===== the reference: fill ===== -/
def fil (A : List sE) (a i : Nat) : Nat := if i = 0 ∨ eP (nt A i) = 0 then 0 else shr a (plc A) (ls eP (A.take i) - 1)
theorem fil_0 (A : List sE) (i : Nat) : fil A 0 i = 0 := by
  unfold fil shr
  split
  · rfl
  · split
    · rw [Nat.zero_div, Nat.zero_mod, if_neg (Nat.not_lt_zero _)]
    · rfl
theorem ls_take_le (f : sE → Nat) (A : List sE) (i : Nat) : ls f (A.take i) ≤ ls f A := by
  have h : ls f A = ls f (A.take i ++ A.drop i) := by rw [List.take_append_drop]
  rw [h, ls_app]
  exact Nat.le_add_right _ _
theorem ls_take_s {f : sE → Nat} {A : List sE} {i : Nat} (h : i < A.length) : ls f (A.take (i + 1)) = ls f (A.take i) + f (nt A i) := by
  rw [take_s h, ls_one]
theorem okL.p0 {A : List sE} (h : okL A) (h0 : 0 < A.length) : eP (nt A 0) = 1 := by
  have h1 := (h.2 0 h0).1
  have h2 := (h.1 _ (nt_mem h0)).2.2.2.2.2.2.2.1
  have : ¬ eP (nt A 0) = 0 := fun e => absurd (h1 e).1 (Nat.lt_irrefl 0)
  omega
theorem okL.p1 {A : List sE} (h : okL A) : ∀ i, i < A.length → 1 ≤ ls eP (A.take (i + 1))
  | 0, h0 => by
    rw [ls_take_s h0, h.p0 h0]
    omega
  | i + 1, h0 => by
    have := okL.p1 h i (by omega)
    rw [ls_take_s h0]
    omega
theorem i_isPlace {kind : Nat → Int32} {Y : List sE} (hY : okL Y) (hl : Y.length ≤ 25) {t i : Nat} (ht : t < 2) (hi : i < Y.length) (hk : ∀ j, j < Y.length → kind (26 * t + j) = nI (eK (nt Y j))) {Q : Int32 → Prop} (h1 : 0 < i → ¬ eP (nt Y i) = 0 → Q (nI 1)) (h0 : (i = 0 ∨ eP (nt Y i) = 0) → Q (nI 0)) : p_X9_isPlace kind (nI (26 * t + i)) Q := by
  have e : (26 * t + i) % 26 = i := by omega
  have heq := hY.2 i hi
  unfold p_X9_isPlace
  simp (disch := omega) only [li_0, li_1, li_2, li_3, li_4, li_5, li_6, li_7, li_8, li_9, li_10, li_11, li_12, li_13, li_14, li_15, li_16, li_20, li_26, li_31, li_32, li_36, li_42, li_43, li_48, li_52, li_57, li_58, li_59, li_60, li_63, li_97, li_99, li_104, li_112, li_115, li_119, li_140, li_141, li_142, li_143, li_144, li_145, li_146, li_147, li_148, li_149, li_150, li_151, li_152, li_255, li_303, li_455, li_999, li_1000, li_1510, li_1820, li_2275, li_9999, li_10000, li_100000, li_1048575, li_100000000, pk_rem]
  rw [e]
  simp (disch := omega) only [nI_leI, nI_eqI, vp_t]
  refine ⟨by decide, fun h => h0 (Or.inl (by omega)), fun h => ?_⟩
  obtain ⟨k1, k2, _⟩ := hY.1 _ (nt_mem hi)
  obtain ⟨j1, j2, _⟩ := hY.1 _ (nt_mem (A := Y) (i := i - 1) (by omega))
  have e2 : 26 * t + i - 1 = 26 * t + (i - 1) := by omega
  have hk1 := hk (i - 1) (by omega)
  simp (disch := omega) only [pk_sub, nI_clamp, hk i hi, e2, hk1, nI_eqI, vp_t]
  exact ⟨by omega, fun e3 => h1 (by omega) (fun e4 => e3 (heq.1 e4).2.1), fun e3 => ⟨by omega, fun e4 => h0 (Or.inr (heq.2 ⟨by omega, e3, e4⟩)), fun e4 => h1 (by omega) (fun e5 => e4 (heq.1 e5).2.2)⟩⟩
theorem i_addFill164 {X : Nat → List sE} (hX : okX X) {many kind number lines spacing fill all heavy : Nat → Int32} (A : relA X (fun _ _ => 0) (fun _ => 0) many kind number lines spacing fill all heavy) {f a : Nat} (hf : f < 2) (ha : a ≤ 225) (hp0 : ¬ plc (X f) = 0) {Q : Int32 → Int32 → Int32 → (Nat → Int32) → (Nat → Int32) → Prop} (h : ∀ fill' all', relA X (fun t i => fil (X t) (if t = f then a else 0) i) (fun t => if t = f then a else 0) many kind number lines spacing fill' all' heavy → Q (nI a) (nI a) (nI f) fill' all') : p_X9_addFill_164 many kind (nI a) (nI f) all (nI (plc (X f))) (nI (26 * f)) Q fill (nI 0) (nI (26 * f)) := by
  obtain ⟨m1, m2, m3, m4⟩ := A f hf
  obtain ⟨hok, hlen⟩ := hX f hf
  have hpl : plc (X f) ≤ 25 := by
    have := (hX.b hf).2.2.1
    unfold plc
    omega
  have hm : a % plc (X f) < plc (X f) := Nat.mod_lt _ (by omega)
  have hd : a / plc (X f) ≤ a := Nat.div_le_self _ _
  have m2' : all f = nI (ls eA (X f)) := m2
  unfold p_X9_addFill_164
  refine wl2 (q_X9_addFill_164 many kind (nI a) (nI f) all (nI (plc (X f))) (nI (26 * f)) Q) (26 * f + (X f).length) (by omega) (fun k fi x => ∃ i, k = 26 * f + i ∧ (∀ j, j < i → fi (26 * f + j) = nI (fil (X f) a j)) ∧ (∀ j, i ≤ j → j < (X f).length → fi (26 * f + j) = nI 0) ∧ (∀ t, t < 2 → ¬ t = f → ∀ j, j < (X t).length → fi (26 * t + j) = nI 0) ∧ x = nI (ls eP ((X f).take i) - 1)) (26 * f) (by omega) _ _ ⟨0, rfl, fun j hj => absurd hj (Nat.not_lt_zero j), fun j _ hj => (m4 j hj).2.2.2.2, fun t ht _ j hj => ((A t ht).2.2.2 j hj).2.2.2.2, rfl⟩ ?_
  rintro K k fi x _ hk ⟨i, rfl, i1, i2, i3, rfl⟩ hK
  unfold q_X9_addFill_164
  simp (disch := omega) only [li_0, li_1, li_2, li_3, li_4, li_5, li_6, li_7, li_8, li_9, li_10, li_11, li_12, li_13, li_14, li_15, li_16, li_20, li_26, li_31, li_32, li_36, li_42, li_43, li_48, li_52, li_57, li_58, li_59, li_60, li_63, li_97, li_99, li_104, li_112, li_115, li_119, li_140, li_141, li_142, li_143, li_144, li_145, li_146, li_147, li_148, li_149, li_150, li_151, li_152, li_255, li_303, li_455, li_999, li_1000, li_1510, li_1820, li_2275, li_9999, li_10000, li_100000, li_1048575, li_100000000, vp_t, nI_clamp, m1, m2', nI_add, nI_leI, hf, true_and, and_true, not_true_eq_false, not_false_eq_true, true_imp_iff, false_imp_iff, false_and, and_false, imp_false, Classical.not_not, Bool.false_eq_true, Nat.zero_ne_one, Nat.one_ne_zero, Nat.not_lt_zero, if_true, if_false, implies_true]
  refine ⟨fun hge => ?_, fun hlt => ?_⟩
  · have : i = (X f).length := by omega
    subst this
    refine h _ _ ?_
    intro t ht
    obtain ⟨r1, r2, r3, r4⟩ := A t ht
    by_cases e : t = f
    · subst e
      dsimp only
      rw [if_pos rfl]
      refine ⟨r1, pk_us, r3, fun j hj => ?_⟩
      obtain ⟨q1, q2, q3, q4, q5⟩ := r4 j hj
      exact ⟨q1, q2, q3, q4, i1 j hj⟩
    · dsimp only
      rw [if_neg e, pk_un e]
      refine ⟨r1, r2, r3, fun j hj => ?_⟩
      obtain ⟨q1, q2, q3, q4, q5⟩ := r4 j hj
      refine ⟨q1, q2, q3, q4, ?_⟩
      rw [fil_0]
      exact i3 t ht e j hj
  · have hi : i < (X f).length := by omega
    have hts := ls_take_s (f := eP) hi
    have htl := ls_take_le eP (X f) (i + 1)
    have hpe : plc (X f) = ls eP (X f) - 1 := rfl
    have hle := (hok.1 _ (nt_mem hi)).2.2.2.2.2.2.2.1
    have hpb := (hX.b hf).2.2.1
    refine i_isPlace hok hlen hf hi (fun j hj => (m4 j hj).1) (fun h1 h2 => ?_) (fun h1 => ?_)
    · have hpos : 1 ≤ ls eP ((X f).take i) := by
        have := hok.p1 (i - 1) (by omega)
        rw [show i - 1 + 1 = i by omega] at this
        exact this
      have hfil : fil (X f) a i = a / plc (X f) + (if ls eP ((X f).take i) - 1 < a % plc (X f) then 1 else 0) := by
        unfold fil shr
        rw [if_neg (by omega), if_pos (by omega)]
      have step : ∀ z, z = fil (X f) a i → p_X9_addFill_221 (upd fi (26 * f + i) (nI z)) (nI (ls eP ((X f).take i) - 1 + 1)) (nI (26 * f + i)) K := by
        rintro z rfl
        unfold p_X9_addFill_221
        simp only [li_0, li_1, li_2, li_3, li_4, li_5, li_6, li_7, li_8, li_9, li_10, li_11, li_12, li_13, li_14, li_15, li_16, li_20, li_26, li_31, li_32, li_36, li_42, li_43, li_48, li_52, li_57, li_58, li_59, li_60, li_63, li_97, li_99, li_104, li_112, li_115, li_119, li_140, li_141, li_142, li_143, li_144, li_145, li_146, li_147, li_148, li_149, li_150, li_151, li_152, li_255, li_303, li_455, li_999, li_1000, li_1510, li_1820, li_2275, li_9999, li_10000, li_100000, li_1048575, li_100000000, nI_add]
        refine hK (by omega) _ _ ⟨i + 1, rfl, ?_, ?_, ?_, ?_⟩
        · intro j hj
          by_cases e : j = i
          · subst e
            exact pk_us
          · rw [pk_un (by omega)]
            exact i1 j (by omega)
        · intro j hj hj2
          rw [pk_un (by omega)]
          exact i2 j (by omega) hj2
        · intro t ht e j hj
          have := (hX t ht).2
          rw [pk_un (by omega)]
          exact i3 t ht e j hj
        · rw [hts]
          exact congrArg nI (by omega)
      have hv : 26 * f + i < 52 := by omega
      simp (disch := omega) only [nI_eqI, pk_div, e_rem, nI_leI, Nat.one_ne_zero, true_and, and_true, not_true_eq_false, not_false_eq_true, true_imp_iff, false_imp_iff, false_and, and_false, imp_false, Classical.not_not, Bool.false_eq_true, Nat.zero_ne_one, Nat.one_ne_zero, Nat.not_lt_zero, if_true, if_false, implies_true]
      refine ⟨hp0, hp0, fun h3 => ?_, fun h3 => ?_⟩
      · unfold p_X9_addFill_216
        simp (disch := omega) only [li_0, li_1, li_2, li_3, li_4, li_5, li_6, li_7, li_8, li_9, li_10, li_11, li_12, li_13, li_14, li_15, li_16, li_20, li_26, li_31, li_32, li_36, li_42, li_43, li_48, li_52, li_57, li_58, li_59, li_60, li_63, li_97, li_99, li_104, li_112, li_115, li_119, li_140, li_141, li_142, li_143, li_144, li_145, li_146, li_147, li_148, li_149, li_150, li_151, li_152, li_255, li_303, li_455, li_999, li_1000, li_1510, li_1820, li_2275, li_9999, li_10000, li_100000, li_1048575, li_100000000, vp_t, nI_clamp, nI_add, hv, true_and, and_true, not_true_eq_false, not_false_eq_true, true_imp_iff, false_imp_iff, false_and, and_false, imp_false, Classical.not_not, Bool.false_eq_true, Nat.zero_ne_one, Nat.one_ne_zero, Nat.not_lt_zero, if_true, if_false, implies_true]
        refine step _ ?_
        rw [hfil, if_neg (by omega)]
      · unfold p_X9_addFill_216
        simp (disch := omega) only [li_0, li_1, li_2, li_3, li_4, li_5, li_6, li_7, li_8, li_9, li_10, li_11, li_12, li_13, li_14, li_15, li_16, li_20, li_26, li_31, li_32, li_36, li_42, li_43, li_48, li_52, li_57, li_58, li_59, li_60, li_63, li_97, li_99, li_104, li_112, li_115, li_119, li_140, li_141, li_142, li_143, li_144, li_145, li_146, li_147, li_148, li_149, li_150, li_151, li_152, li_255, li_303, li_455, li_999, li_1000, li_1510, li_1820, li_2275, li_9999, li_10000, li_100000, li_1048575, li_100000000, vp_t, nI_clamp, nI_add, hv, true_and, and_true, not_true_eq_false, not_false_eq_true, true_imp_iff, false_imp_iff, false_and, and_false, imp_false, Classical.not_not, Bool.false_eq_true, Nat.zero_ne_one, Nat.one_ne_zero, Nat.not_lt_zero, if_true, if_false, implies_true]
        refine step _ ?_
        rw [hfil, if_pos (by omega)]
    · simp (disch := omega) only [nI_eqI, true_and, and_true, not_true_eq_false, not_false_eq_true, true_imp_iff, false_imp_iff, false_and, and_false, imp_false, Classical.not_not, Bool.false_eq_true, Nat.zero_ne_one, Nat.one_ne_zero, Nat.not_lt_zero, if_true, if_false, implies_true]
      unfold p_X9_addFill_221
      simp only [li_0, li_1, li_2, li_3, li_4, li_5, li_6, li_7, li_8, li_9, li_10, li_11, li_12, li_13, li_14, li_15, li_16, li_20, li_26, li_31, li_32, li_36, li_42, li_43, li_48, li_52, li_57, li_58, li_59, li_60, li_63, li_97, li_99, li_104, li_112, li_115, li_119, li_140, li_141, li_142, li_143, li_144, li_145, li_146, li_147, li_148, li_149, li_150, li_151, li_152, li_255, li_303, li_455, li_999, li_1000, li_1510, li_1820, li_2275, li_9999, li_10000, li_100000, li_1048575, li_100000000, nI_add]
      have hz : fil (X f) a i = 0 := if_pos h1
      refine hK (by omega) _ _ ⟨i + 1, rfl, ?_, ?_, i3, ?_⟩
      · intro j hj
        by_cases e : j = i
        · subst e
          rw [hz]
          exact i2 j (Nat.le_refl _) hi
        · exact i1 j (by omega)
      · intro j hj hj2
        exact i2 j (by omega) hj2
      · rcases h1 with h1 | h1
        · subst h1
          rw [hts, hok.p0 hi]
          rfl
        · rw [hts, h1, Nat.add_zero]
theorem i_addFill {pg : Nat → Int32} {n : Nat} {g : Nat → Nat → Nat} {s sd : Nat → Nat} (R : relR n g s sd pg) (ho : okS s) {X : Nat → List sE} (hX : okX X) {many kind number lines spacing fill all heavy : Nat → Int32} (A : relA X (fun _ _ => 0) (fun _ => 0) many kind number lines spacing fill all heavy) {Q : Int32 → Int32 → Int32 → (Nat → Int32) → (Nat → Int32) → Prop} (h : ∀ fill' all', relA X (fun t i => fil (X t) (if t = fsd X then fld X (s 4) else 0) i) (fun t => if t = fsd X then fld X (s 4) else 0) many kind number lines spacing fill' all' heavy → Q (nI (apt X)) (nI (fld X (s 4))) (nI (fsd X)) fill' all') : p_X9_addFill pg many kind fill all Q := by
  obtain ⟨a1, a2, a3, a4, a5, a6, a7, a8⟩ := hX.b (s := 0) (by decide)
  obtain ⟨b1, b2, b3, b4, b5, b6, b7, b8⟩ := hX.b (s := 1) (by decide)
  obtain ⟨s0, s1, s2, s3, s4, s5, s6, s7⟩ := ho.b
  have l0 : all 0 = nI (ls eA (X 0)) := (A 0 (by decide)).2.1
  have l1 : all 1 = nI (ls eA (X 1)) := (A 1 (by decide)).2.1
  have h145 : pg 145 = nI (s 4) := R.2.2.1 4 (by decide)
  have hf := fsd_lt X
  have ha := apt_le hX
  obtain ⟨m1, m2, m3, m4⟩ := A _ hf
  obtain ⟨hok, hlen⟩ := hX _ hf
  have hpb := (hX.b hf).2.2.1
  have hpe : plc (X (fsd X)) = ls eP (X (fsd X)) - 1 := rfl
  have none : fld X (s 4) = 0 → Q (nI (apt X)) (nI 0) (nI (fsd X)) fill all := by
    intro hz
    rw [hz] at h
    refine h _ _ ?_
    intro t ht
    obtain ⟨r1, r2, r3, r4⟩ := A t ht
    have e : (if t = fsd X then 0 else 0) = 0 := by split <;> rfl
    dsimp only
    rw [e]
    refine ⟨r1, r2, r3, fun j hj => ?_⟩
    obtain ⟨q1, q2, q3, q4, q5⟩ := r4 j hj
    refine ⟨q1, q2, q3, q4, ?_⟩
    rw [fil_0]
    exact q5
  have go : p_X9_addFill_69 pg many kind (nI (apt X)) fill all (nI (fsd X)) Q := by
    unfold p_X9_addFill_69
    simp only [li_0, li_1, li_2, li_3, li_4, li_5, li_6, li_7, li_8, li_9, li_10, li_11, li_12, li_13, li_14, li_15, li_16, li_20, li_26, li_31, li_32, li_36, li_42, li_43, li_48, li_52, li_57, li_58, li_59, li_60, li_63, li_97, li_99, li_104, li_112, li_115, li_119, li_140, li_141, li_142, li_143, li_144, li_145, li_146, li_147, li_148, li_149, li_150, li_151, li_152, li_255, li_303, li_455, li_999, li_1000, li_1510, li_1820, li_2275, li_9999, li_10000, li_100000, li_1048575, li_100000000, pk_mul]
    unfold p_X9_addFill_89
    refine wl1 (q_X9_addFill_89 pg many kind (nI (apt X)) (nI 0) (nI (fsd X)) fill all (nI (26 * fsd X)) Q) (26 * fsd X + (X (fsd X)).length) (by omega) (fun k x => ∃ i, k = 26 * fsd X + i ∧ x = nI (ls eP ((X (fsd X)).take i) - 1)) (26 * fsd X) (by omega) _ ⟨0, rfl, rfl⟩ ?_
    rintro K k x _ hk ⟨i, rfl, rfl⟩ hK
    unfold q_X9_addFill_89
    simp (disch := omega) only [li_0, li_1, li_2, li_3, li_4, li_5, li_6, li_7, li_8, li_9, li_10, li_11, li_12, li_13, li_14, li_15, li_16, li_20, li_26, li_31, li_32, li_36, li_42, li_43, li_48, li_52, li_57, li_58, li_59, li_60, li_63, li_97, li_99, li_104, li_112, li_115, li_119, li_140, li_141, li_142, li_143, li_144, li_145, li_146, li_147, li_148, li_149, li_150, li_151, li_152, li_255, li_303, li_455, li_999, li_1000, li_1510, li_1820, li_2275, li_9999, li_10000, li_100000, li_1048575, li_100000000, vp_t, nI_clamp, m1, nI_add, nI_leI, hf, true_and, and_true, not_true_eq_false, not_false_eq_true, true_imp_iff, false_imp_iff, false_and, and_false, imp_false, Classical.not_not, Bool.false_eq_true, Nat.zero_ne_one, Nat.one_ne_zero, Nat.not_lt_zero, if_true, if_false, implies_true]
    refine ⟨fun hge => ?_, fun hlt => ?_⟩
    · have : i = (X (fsd X)).length := by omega
      subst this
      rw [List.take_length, ← hpe]
      have hdiv : (apt X + plc (X (fsd X)) - 1) / plc (X (fsd X)) ≤ apt X + plc (X (fsd X)) - 1 := Nat.div_le_self _ _
      simp (disch := omega) only [nI_eqI]
      refine ⟨fun e1 => none (if_pos (Or.inl e1)), fun e1 => ⟨fun e2 => none (if_pos (Or.inr (Or.inl e2))), fun e2 => ⟨e2, ?_⟩⟩⟩
      simp (disch := omega) only [vp_t, nI_clamp, h145, nI_add, pk_sub, pk_div, nI_leI, Nat.reduceLT, true_and, and_true, not_true_eq_false, not_false_eq_true, true_imp_iff, false_imp_iff, false_and, and_false, imp_false, Classical.not_not, Bool.false_eq_true, Nat.zero_ne_one, Nat.one_ne_zero, Nat.not_lt_zero, if_true, if_false, implies_true]
      refine ⟨fun e3 => ?_, fun e3 => none (if_pos (Or.inr (Or.inr (by omega))))⟩
      have hfl : fld X (s 4) = apt X := by
        unfold fld
        exact if_neg (by omega)
      rw [hfl] at h
      exact i_addFill164 hX A hf ha e2 h
    · have hi : i < (X (fsd X)).length := by omega
      have hts := ls_take_s (f := eP) hi
      have hle := (hok.1 _ (nt_mem hi)).2.2.2.2.2.2.2.1
      refine i_isPlace hok hlen hf hi (fun j hj => (m4 j hj).1) (fun h1 h2 => ?_) (fun h1 => ?_)
      · have hpos : 1 ≤ ls eP ((X (fsd X)).take i) := by
          have := hok.p1 (i - 1) (by omega)
          rw [show i - 1 + 1 = i by omega] at this
          exact this
        simp (disch := omega) only [nI_eqI, Nat.one_ne_zero, true_and, and_true, not_true_eq_false, not_false_eq_true, true_imp_iff, false_imp_iff, false_and, and_false, imp_false, Classical.not_not, Bool.false_eq_true, Nat.zero_ne_one, Nat.one_ne_zero, Nat.not_lt_zero, if_true, if_false, implies_true]
        unfold p_X9_addFill_118
        simp only [li_0, li_1, li_2, li_3, li_4, li_5, li_6, li_7, li_8, li_9, li_10, li_11, li_12, li_13, li_14, li_15, li_16, li_20, li_26, li_31, li_32, li_36, li_42, li_43, li_48, li_52, li_57, li_58, li_59, li_60, li_63, li_97, li_99, li_104, li_112, li_115, li_119, li_140, li_141, li_142, li_143, li_144, li_145, li_146, li_147, li_148, li_149, li_150, li_151, li_152, li_255, li_303, li_455, li_999, li_1000, li_1510, li_1820, li_2275, li_9999, li_10000, li_100000, li_1048575, li_100000000, nI_add]
        refine hK (by omega) _ ⟨i + 1, rfl, ?_⟩
        rw [hts]
        exact congrArg nI (by omega)
      · simp (disch := omega) only [nI_eqI, true_and, and_true, not_true_eq_false, not_false_eq_true, true_imp_iff, false_imp_iff, false_and, and_false, imp_false, Classical.not_not, Bool.false_eq_true, Nat.zero_ne_one, Nat.one_ne_zero, Nat.not_lt_zero, if_true, if_false, implies_true]
        unfold p_X9_addFill_118
        simp only [li_0, li_1, li_2, li_3, li_4, li_5, li_6, li_7, li_8, li_9, li_10, li_11, li_12, li_13, li_14, li_15, li_16, li_20, li_26, li_31, li_32, li_36, li_42, li_43, li_48, li_52, li_57, li_58, li_59, li_60, li_63, li_97, li_99, li_104, li_112, li_115, li_119, li_140, li_141, li_142, li_143, li_144, li_145, li_146, li_147, li_148, li_149, li_150, li_151, li_152, li_255, li_303, li_455, li_999, li_1000, li_1510, li_1820, li_2275, li_9999, li_10000, li_100000, li_1048575, li_100000000, nI_add]
        refine hK (by omega) _ ⟨i + 1, rfl, ?_⟩
        rcases h1 with h1 | h1
        · subst h1
          rw [hts, hok.p0 hi]
          rfl
        · rw [hts, h1]
          rfl
  have go45 : p_X9_addFill_45 pg many kind fill all (nI (apt X)) Q := by
    unfold p_X9_addFill_45
    simp (disch := omega) only [li_0, li_1, li_2, li_3, li_4, li_5, li_6, li_7, li_8, li_9, li_10, li_11, li_12, li_13, li_14, li_15, li_16, li_20, li_26, li_31, li_32, li_36, li_42, li_43, li_48, li_52, li_57, li_58, li_59, li_60, li_63, li_97, li_99, li_104, li_112, li_115, li_119, li_140, li_141, li_142, li_143, li_144, li_145, li_146, li_147, li_148, li_149, li_150, li_151, li_152, li_255, li_303, li_455, li_999, li_1000, li_1510, li_1820, li_2275, li_9999, li_10000, li_100000, li_1048575, li_100000000, vp_t, nI_clamp, l0, l1, nI_leI, Nat.reduceLT, true_and, and_true, not_true_eq_false, not_false_eq_true, true_imp_iff, false_imp_iff, false_and, and_false, imp_false, Classical.not_not, Bool.false_eq_true, Nat.zero_ne_one, Nat.one_ne_zero, Nat.not_lt_zero, if_true, if_false, implies_true]
    refine ⟨fun e => ?_, fun e => ?_⟩
    · have : fsd X = 1 := if_neg (by omega)
      rw [this] at go
      exact go
    · have : fsd X = 0 := if_pos (by omega)
      rw [this] at go
      exact go
  unfold p_X9_addFill
  simp (disch := omega) only [li_0, li_1, li_2, li_3, li_4, li_5, li_6, li_7, li_8, li_9, li_10, li_11, li_12, li_13, li_14, li_15, li_16, li_20, li_26, li_31, li_32, li_36, li_42, li_43, li_48, li_52, li_57, li_58, li_59, li_60, li_63, li_97, li_99, li_104, li_112, li_115, li_119, li_140, li_141, li_142, li_143, li_144, li_145, li_146, li_147, li_148, li_149, li_150, li_151, li_152, li_255, li_303, li_455, li_999, li_1000, li_1510, li_1820, li_2275, li_9999, li_10000, li_100000, li_1048575, li_100000000, vp_t, nI_clamp, l0, l1, nI_leI, Nat.reduceLT, true_and, and_true, not_true_eq_false, not_false_eq_true, true_imp_iff, false_imp_iff, false_and, and_false, imp_false, Classical.not_not, Bool.false_eq_true, Nat.zero_ne_one, Nat.one_ne_zero, Nat.not_lt_zero, if_true, if_false, implies_true]
  refine ⟨fun e => ?_, fun e => ?_⟩
  · have e2 : apt X = ls eA (X 0) - ls eA (X 1) := if_neg (by omega)
    rw [pk_sub e, ← e2]
    exact go45
  · have e2 : apt X = ls eA (X 1) - ls eA (X 0) := if_pos (by omega)
    rw [pk_sub (by omega), ← e2]
    exact go45

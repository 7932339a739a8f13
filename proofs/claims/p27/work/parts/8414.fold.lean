/-! ===== the class's Fold ===== -/
theorem up_s {α : Type} {f : Nat → α} {k : Nat} {x : α} : va_up f k x k = x := if_pos rfl
theorem up_n {α : Type} {f : Nat → α} {k j : Nat} {x : α} (h : j ≠ k) : va_up f k x j = f j := if_neg h
theorem d_le0 {a b : Nat} (ha : a < 2 ^ 30) (hb : b < 2 ^ 30) : nI a - nI b ≤ nI 0 ↔ a ≤ b := by
  rw [Int32.le_iff_toInt_le, pk_sub_toInt ha hb, nI_toInt (by decide)]
  omega
theorem d_ge0 {a b : Nat} (ha : a < 2 ^ 30) (hb : b < 2 ^ 30) : nI 0 ≤ nI a - nI b ↔ b ≤ a := by
  rw [Int32.le_iff_toInt_le, pk_sub_toInt ha hb, nI_toInt (by decide)]
  omega
theorem d_neg (a b : Nat) : nI 0 - (nI a - nI b) = nI b - nI a := by
  rw [show nI 0 = (0 : Int32) from rfl, Int32.zero_sub, Int32.neg_sub]
theorem e_abs {a b : Nat} (ha : a < 2 ^ 30) (hb : b < 2 ^ 30) {inst : Decidable (nI 0 ≤ nI a - nI b)} : (@ite Int32 (nI 0 ≤ nI a - nI b) inst (nI a - nI b) (nI 0 - (nI a - nI b))) = nI (if a < b then b - a else a - b) := by
  by_cases h : a < b
  · rw [if_neg (by rw [d_ge0 ha hb]; omega), if_pos h, d_neg, pk_sub (by omega)]
  · rw [if_pos (by rw [d_ge0 ha hb]; omega), if_neg h, pk_sub (by omega)]
theorem e_abs0 {a b : Nat} (ha : a < 2 ^ 30) (hb : b < 2 ^ 30) {inst : Decidable ((0 : Int32) ≤ nI a - nI b)} : (@ite Int32 (nI 0 ≤ nI a - nI b) inst (nI a - nI b) (nI 0 - (nI a - nI b))) = nI (if a < b then b - a else a - b) := e_abs ha hb
theorem m1_add (a b : Nat) : nI a - nI 1 + nI b = nI (a + b) - nI 1 := by
  rw [← nI_add, Int32.sub_eq_add_neg, Int32.sub_eq_add_neg, Int32.add_assoc, Int32.add_comm (-nI 1), ← Int32.add_assoc]
def relF (X : Nat → List sE) (fs fl : Nat) (parts : Nat → Nat → Int32) (weights places : Nat → Int32) : Prop :=
  ∀ s, s < 2 → (∀ p, p < 4 → parts s p = nI (ls (pf p) (X s))) ∧ parts s 4 = nI (if s = fs then fl else 0) ∧ weights s = nI (ls eW (X s)) ∧ places s = nI (ls eP (X s)) - nI 1
def okX (X : Nat → List sE) : Prop := ∀ s, s < 2 → okL (X s) ∧ (X s).length ≤ 25
theorem okX.b {X : Nat → List sE} (h : okX X) {s : Nat} (hs : s < 2) : ls eA (X s) ≤ 225 ∧ ls eW (X s) ≤ 1000 ∧ ls eP (X s) ≤ 25 ∧ ls (pf 0) (X s) ≤ 175 ∧ ls (pf 1) (X s) ≤ 175 ∧ ls (pf 2) (X s) ≤ 50 ∧ ls (pf 3) (X s) ≤ 175 ∧ ls (pf 0) (X s) + ls (pf 1) (X s) + ls (pf 2) (X s) + ls (pf 3) (X s) = ls eA (X s) := by
  obtain ⟨h1, h2⟩ := h s hs
  obtain ⟨b1, b2, b3, b4, b5, b6, b7⟩ := okL_b h1
  have b8 := ls_all h1.1
  refine ⟨?_, ?_, ?_, ?_, ?_, ?_, ?_, b8⟩ <;> omega
def tot (X : Nat → List sE) (fs fl s : Nat) : Nat := ls eA (X s) + if s = fs then fl else 0
theorem i_clearF {parts : Nat → Nat → Int32} {weights places : Nat → Int32} {Q : (Nat → Nat → Int32) → (Nat → Int32) → (Nat → Int32) → Int32 → Prop} (h : ∀ parts' weights' places', relF (fun _ => []) 0 0 parts' weights' places' → Q parts' weights' places' (-nI 99)) : p_X1_clear parts weights places Q := by
  unfold p_X1_clear p_X1_clear_2
  refine wl3 (q_X1_clear_2 Q) 2 (by decide) (fun k p' w' l' => ∀ s, s < k → (∀ p, p < 5 → p' s p = nI 0) ∧ w' s = nI 0 ∧ l' s = -nI 1) 0 (by omega) _ _ _ (fun c hc => absurd hc (Nat.not_lt_zero c)) ?_
  rintro K k p' w' l' _ hk hP hK
  unfold q_X1_clear_2
  simp (disch := omega) only [li_0, li_1, li_2, li_3, li_4, li_5, li_6, li_7, li_8, li_9, li_10, li_11, li_12, li_13, li_14, li_15, li_16, li_20, li_26, li_31, li_32, li_36, li_42, li_43, li_48, li_52, li_57, li_58, li_59, li_60, li_63, li_97, li_99, li_104, li_112, li_115, li_119, li_140, li_141, li_142, li_143, li_144, li_145, li_146, li_147, li_148, li_149, li_150, li_151, li_152, li_255, li_303, li_455, li_999, li_1000, li_1510, li_1820, li_2275, li_9999, li_10000, li_100000, li_1048575, li_100000000, nI_add, pk_mul, nI_clamp, nI_leI, nI_ltI, nI_eqI, vp_t, c_pos, c_npos]
  refine ⟨fun hge => ?_, fun hlt => ?_⟩
  · have : k = 2 := by omega
    subst this
    refine h _ _ _ ?_
    intro s hs
    obtain ⟨h1, h2, h3⟩ := hP s hs
    refine ⟨fun p hp => h1 p (by omega), ?_, h2, ?_⟩
    · rw [h1 4 (by decide)]
      split <;> rfl
    · rw [h3]
      rfl
  · unfold p_X1_clear_9
    refine wl1 (q_X1_clear_9 w' l' (nI k) K) 5 (by decide) (fun j p2 => (∀ s, s < k → ∀ p, p < 5 → p2 s p = nI 0) ∧ ∀ p, p < j → p2 k p = nI 0) 0 (by omega) _ ⟨fun s hs => (hP s hs).1, fun p hp => absurd hp (Nat.not_lt_zero p)⟩ ?_
    rintro K2 j p2 _ hj ⟨hA, hB⟩ hK2
    unfold q_X1_clear_9
    simp (disch := omega) only [li_0, li_1, li_2, li_3, li_4, li_5, li_6, li_7, li_8, li_9, li_10, li_11, li_12, li_13, li_14, li_15, li_16, li_20, li_26, li_31, li_32, li_36, li_42, li_43, li_48, li_52, li_57, li_58, li_59, li_60, li_63, li_97, li_99, li_104, li_112, li_115, li_119, li_140, li_141, li_142, li_143, li_144, li_145, li_146, li_147, li_148, li_149, li_150, li_151, li_152, li_255, li_303, li_455, li_999, li_1000, li_1510, li_1820, li_2275, li_9999, li_10000, li_100000, li_1048575, li_100000000, nI_add, pk_mul, nI_clamp, nI_leI, nI_ltI, nI_eqI, vp_t, c_pos, c_npos]
    refine ⟨fun hge => ⟨by omega, by omega, ?_⟩, fun hlt2 => ⟨by omega, by omega, ?_⟩⟩
    · have : j = 5 := by omega
      subst this
      refine hK (by omega) _ _ _ ?_
      intro s hs
      by_cases e : s = k
      · subst e
        exact ⟨hB, pk_us, pk_us⟩
      · obtain ⟨h1, h2, h3⟩ := hP s (by omega)
        exact ⟨hA s (by omega), by rw [pk_un e, h2], by rw [pk_un e, h3]⟩
    · refine hK2 (by omega) _ ⟨?_, ?_⟩
      · intro s hs p hp
        rw [up_n (by omega)]
        exact hA s hs p hp
      · intro p hp
        rw [up_s]
        by_cases e : p = j
        · subst e
          exact pk_us
        · rw [pk_un e]
          exact hB p (by omega)
theorem i_putCourse1 {P : Nat → Bool} {g : Nat → Nat → Nat} {n wid col spa c s : Nat} {X : Nat → List sE} {parts : Nat → Nat → Int32} {weights places D L W : Nat → Int32} (hs : s < 2) (hc : c < 4) (hD : D c = nI (cs P g c (fun _ => 1) n)) (hL : L c = nI (cs P g c (ln g wid col) n)) (hW : W c = nI (cs P g c (fun d => g d 5 * ln g wid col d + 2) n)) (h0 : ¬ cs P g c (fun _ => 1) n = 0) (R : relF X 0 0 parts weights places) {Q : (Nat → Nat → Int32) → (Nat → Int32) → (Nat → Int32) → Prop} (h : ∀ parts' weights' places', relF (fun t => X t ++ if s = t then ce P g wid col spa c n else []) 0 0 parts' weights' places' → Q parts' weights' places') : p_X1_putCourse parts weights places D L W (nI c) (nI s) (nI spa) Q := by
  obtain ⟨i1, i2, i3, i4, i5, i6⟩ := ce_sums P g wid col spa c n h0
  unfold p_X1_putCourse
  have hcl : (nI s).toNatClampNeg = s := nI_clamp (by omega)
  have hcc : (nI c).toNatClampNeg = c := nI_clamp (by omega)
  have lc : c < 4 := hc
  simp (disch := omega) only [li_0, li_1, li_2, li_3, li_4, li_5, li_6, li_7, li_8, li_9, li_10, li_11, li_12, li_13, li_14, li_15, li_16, li_20, li_26, li_31, li_32, li_36, li_42, li_43, li_48, li_52, li_57, li_58, li_59, li_60, li_63, li_97, li_99, li_104, li_112, li_115, li_119, li_140, li_141, li_142, li_143, li_144, li_145, li_146, li_147, li_148, li_149, li_150, li_151, li_152, li_255, li_303, li_455, li_999, li_1000, li_1510, li_1820, li_2275, li_9999, li_10000, li_100000, li_1048575, li_100000000, vp_t, nI_clamp, lc, hs, true_and, and_true, not_true_eq_false, not_false_eq_true, true_imp_iff, false_imp_iff, false_and, and_false, imp_false, Classical.not_not, Bool.false_eq_true, Nat.zero_ne_one, Nat.one_ne_zero, Nat.not_lt_zero, if_true, if_false, implies_true, Nat.reduceLT]
  refine h _ _ _ ?_
  intro t ht
  obtain ⟨r1, r2, r3, r4⟩ := R t ht
  by_cases e : s = t
  · subst e
    simp only [if_true, ls_app, i1, i2, i3, i4, i5, i6]
    refine ⟨?_, ?_, ?_, ?_⟩
    · intro p hp
      have : p = 0 ∨ p = 1 ∨ p = 2 ∨ p = 3 := by omega
      have q0 := r1 0 (by decide)
      have q1 := r1 1 (by decide)
      have q2 := r1 2 (by decide)
      have q3 := r1 3 (by decide)
      rcases this with rfl | rfl | rfl | rfl
      · simp [up_s, upd, q0, nI_add, i1]
      · simp [up_s, upd, q1, nI_add, i2, hL]
      · simp (disch := omega) [up_s, upd, q2, nI_add, i3, hD, pk_sub, pk_mul]
      · simp [up_s, upd, q3, i4]
    · simp [up_s, upd, r2]
    · simp [pk_us, r3, hW, nI_add]
    · simp only [pk_us, r4, hD, m1_add]
  · have e2 : t ≠ s := fun e3 => e e3.symm
    simp only [if_neg e, List.append_nil, up_n e2, pk_un e2]
    exact ⟨r1, r2, r3, r4⟩
theorem e_partOf {parts : Nat → Nat → Int32} {s p : Nat} (hs : s < 2) (hp : p < 5) {Q : Int32 → Prop} : p_X1_partOf parts (nI s) (nI p) Q ↔ Q (parts s p) := by
  unfold p_X1_partOf p_X1_partOf_9
  have a1 : ¬ 5 ≤ p := by omega
  simp (disch := omega) only [li_0, li_1, li_2, li_3, li_4, li_5, li_6, li_7, li_8, li_9, li_10, li_11, li_12, li_13, li_14, li_15, li_16, li_20, li_26, li_31, li_32, li_36, li_42, li_43, li_48, li_52, li_57, li_58, li_59, li_60, li_63, li_97, li_99, li_104, li_112, li_115, li_119, li_140, li_141, li_142, li_143, li_144, li_145, li_146, li_147, li_148, li_149, li_150, li_151, li_152, li_255, li_303, li_455, li_999, li_1000, li_1510, li_1820, li_2275, li_9999, li_10000, li_100000, li_1048575, li_100000000, nI_add, pk_mul, nI_clamp, nI_leI, nI_ltI, nI_eqI, vp_t, c_pos, c_npos, a1, hs, hp, true_and, and_true, not_true_eq_false, not_false_eq_true, true_imp_iff, false_imp_iff, false_and, and_false, imp_false, Classical.not_not, Bool.false_eq_true, Nat.zero_ne_one, Nat.one_ne_zero, Nat.not_lt_zero, if_true, if_false, implies_true]
  have : s = 0 ∨ s = 1 := by omega
  rcases this with rfl | rfl <;> simp
theorem i_linesOf5 {parts : Nat → Nat → Int32} {s : Nat} (hs : s < 2) {q : Nat → Nat} (hq : ∀ p, p < 5 → parts s p = nI (q p)) {Q : Int32 → Prop} (h : Q (nI (sm q 5))) : p_X1_linesOf parts (nI s) Q := by
  unfold p_X1_linesOf p_X1_linesOf_4
  refine wl1 (q_X1_linesOf_4 parts (nI s) Q) 5 (by decide) (fun k r => r = nI (sm q k)) 0 (by omega) _ rfl ?_
  rintro K k r _ hk rfl hK
  unfold q_X1_linesOf_4
  simp (disch := omega) only [li_0, li_1, li_2, li_3, li_4, li_5, li_6, li_7, li_8, li_9, li_10, li_11, li_12, li_13, li_14, li_15, li_16, li_20, li_26, li_31, li_32, li_36, li_42, li_43, li_48, li_52, li_57, li_58, li_59, li_60, li_63, li_97, li_99, li_104, li_112, li_115, li_119, li_140, li_141, li_142, li_143, li_144, li_145, li_146, li_147, li_148, li_149, li_150, li_151, li_152, li_255, li_303, li_455, li_999, li_1000, li_1510, li_1820, li_2275, li_9999, li_10000, li_100000, li_1048575, li_100000000, nI_add, pk_mul, nI_clamp, nI_leI, nI_ltI, nI_eqI, vp_t, c_pos, c_npos]
  refine ⟨fun hge => ?_, fun hlt => ?_⟩
  · have : k = 5 := by omega
    subst this
    exact h
  · rw [e_partOf hs (by omega), hq k (by omega), nI_add]
    exact hK (by omega) _ rfl
theorem i_linesOf {X : Nat → List sE} {fs fl : Nat} {parts : Nat → Nat → Int32} {weights places : Nat → Int32} (R : relF X fs fl parts weights places) (hX : okX X) {s : Nat} (hs : s < 2) {Q : Int32 → Prop} (h : Q (nI (tot X fs fl s))) : p_X1_linesOf parts (nI s) Q := by
  obtain ⟨r1, r2, r3, r4⟩ := R s hs
  obtain ⟨b1, b2, b3, b4, b5, b6, b7, b8⟩ := hX.b hs
  refine i_linesOf5 hs (q := fun p => if p = 4 then (if s = fs then fl else 0) else ls (pf p) (X s)) ?_ ?_
  · intro p hp
    by_cases e : p = 4
    · subst e
      exact r2
    · show _ = nI (if p = 4 then _ else _)
      rw [if_neg e]
      exact r1 p (by omega)
  · have e : sm (fun p => if p = 4 then (if s = fs then fl else 0) else ls (pf p) (X s)) 5 = tot X fs fl s := by
      unfold tot
      simp [sm]
      omega
    rw [e]
    exact h
/-- the key is on the right side -/
abbrev kyr (X : Nat → List sE) : Prop := ls eA (X 1) < ls eA (X 0) ∨ (ls eA (X 1) = ls eA (X 0) ∧ ls eW (X 1) < ls eW (X 0))
def kys (X : Nat → List sE) : Nat := if kyr X then 1 else 0
def wk (X : Nat → List sE) (nk : Nat) : Nat → List sE := fun s => if ¬ nk = 0 ∧ s = kys X then X s ++ [(3, 0, (nk + 2) / 3, 0, nk, 1)] else X s
theorem kys_t {X : Nat → List sE} (h : kyr X) : kys X = 1 := if_pos h
theorem kys_f {X : Nat → List sE} (h : ¬ kyr X) : kys X = 0 := if_neg h
theorem kys_lt (X : Nat → List sE) : kys X < 2 := by
  unfold kys
  split <;> decide
theorem wk_0 (X : Nat → List sE) : wk X 0 = X := by
  funext s
  exact if_neg (fun h => h.1 rfl)
theorem wk_s {X : Nat → List sE} {nk : Nat} (h : ¬ nk = 0) : wk X nk (kys X) = X (kys X) ++ [(3, 0, (nk + 2) / 3, 0, nk, 1)] := if_pos ⟨h, rfl⟩
theorem wk_n {X : Nat → List sE} {nk s : Nat} (h : ¬ s = kys X) : wk X nk s = X s := if_neg (fun h2 => h h2.2)
theorem okX_wk {X : Nat → List sE} (hX : okX X) (hl : ∀ s, s < 2 → (X s).length ≤ 24) {nk : Nat} (hn : nk ≤ 8) : okX (wk X nk) := by
  intro s hs
  by_cases h0 : nk = 0
  · subst h0
    rw [wk_0]
    exact hX s hs
  · by_cases h : s = kys X
    · subst h
      rw [wk_s h0]
      refine ⟨okL_one (hX _ hs).1 ?_ ?_, ?_⟩
      · simp only [okE, eK, eN, eL, eS, eW, eP, or_true, true_or, and_true, true_and]
        omega
      · simp [eK, eP]
      · rw [List.length_append]
        have := hl _ hs
        show _ + 1 ≤ 25
        omega
    · rw [wk_n h]
      exact hX s hs
theorem i_putKey56 {X : Nat → List sE} {parts : Nat → Nat → Int32} {weights places : Nat → Int32} (R : relF X 0 0 parts weights places) (h3 : ∀ s, s < 2 → ls (pf 3) (X s) = 0) {nk : Nat} (hn : nk ≤ 8) (h0 : ¬ nk = 0) {Q : (Nat → Nat → Int32) → (Nat → Int32) → (Nat → Int32) → Int32 → Prop} (h : ∀ parts' weights' places', relF (wk X nk) 0 0 parts' weights' places' → Q parts' weights' places' (nI (kys X))) : p_X1_putKey_56 (nI nk) parts weights places (nI (kys X)) Q := by
  have hk := kys_lt X
  have e3 : nk + 3 - 1 = nk + 2 := by omega
  unfold p_X1_putKey_56
  simp (disch := omega) only [li_0, li_1, li_2, li_3, li_4, li_5, li_6, li_7, li_8, li_9, li_10, li_11, li_12, li_13, li_14, li_15, li_16, li_20, li_26, li_31, li_32, li_36, li_42, li_43, li_48, li_52, li_57, li_58, li_59, li_60, li_63, li_97, li_99, li_104, li_112, li_115, li_119, li_140, li_141, li_142, li_143, li_144, li_145, li_146, li_147, li_148, li_149, li_150, li_151, li_152, li_255, li_303, li_455, li_999, li_1000, li_1510, li_1820, li_2275, li_9999, li_10000, li_100000, li_1048575, li_100000000, vp_t, nI_clamp, e_parts, hk, e3, Nat.reduceLT, true_and, and_true, not_true_eq_false, not_false_eq_true, true_imp_iff, false_imp_iff, false_and, and_false, imp_false, Classical.not_not, Bool.false_eq_true, Nat.zero_ne_one, Nat.one_ne_zero, Nat.not_lt_zero, if_true, if_false, implies_true]
  refine h _ _ _ ?_
  intro t ht
  obtain ⟨r1, r2, r3, r4⟩ := R t ht
  by_cases e : t = kys X
  · subst e
    rw [wk_s h0]
    simp only [ls_one]
    refine ⟨?_, ?_, ?_, ?_⟩
    · intro p hp
      have : p = 0 ∨ p = 1 ∨ p = 2 ∨ p = 3 := by omega
      have q0 := r1 0 (by decide)
      have q1 := r1 1 (by decide)
      have q2 := r1 2 (by decide)
      have q4 := h3 _ ht
      rcases this with rfl | rfl | rfl | rfl
      · simp [up_s, upd, q0, pf, eK]
      · simp [up_s, upd, q1, pf, eK]
      · simp [up_s, upd, q2, pf, eK, eS]
      · simp [up_s, upd, q4, pf, eK, eL]
    · simp [up_s, upd, r2]
    · simp [pk_us, r3, nI_add, eW]
    · rw [pk_us, r4, m1_add]
      rfl
  · rw [wk_n e]
    simp only [up_n e, pk_un e]
    exact ⟨r1, r2, r3, r4⟩
theorem i_putKey {X : Nat → List sE} {parts : Nat → Nat → Int32} {weights places : Nat → Int32} (R : relF X 0 0 parts weights places) (hX : okX X) (h3 : ∀ s, s < 2 → ls (pf 3) (X s) = 0) {nk : Nat} (hn : nk ≤ 8) {Q : (Nat → Nat → Int32) → (Nat → Int32) → (Nat → Int32) → Int32 → Prop} (h : ∀ parts' weights' places', relF (wk X nk) 0 0 parts' weights' places' → Q parts' weights' places' (if nk = 0 then -nI 99 else nI (kys X))) : p_X1_putKey parts weights places (-nI 99) (nI nk) Q := by
  unfold p_X1_putKey
  obtain ⟨a1, a2, a3, a4, a5, a6, a7, a8⟩ := hX.b (s := 0) (by decide)
  obtain ⟨b1, b2, b3, b4, b5, b6, b7, b8⟩ := hX.b (s := 1) (by decide)
  simp (disch := omega) only [li_0, li_1, li_2, li_3, li_4, li_5, li_6, li_7, li_8, li_9, li_10, li_11, li_12, li_13, li_14, li_15, li_16, li_20, li_26, li_31, li_32, li_36, li_42, li_43, li_48, li_52, li_57, li_58, li_59, li_60, li_63, li_97, li_99, li_104, li_112, li_115, li_119, li_140, li_141, li_142, li_143, li_144, li_145, li_146, li_147, li_148, li_149, li_150, li_151, li_152, li_255, li_303, li_455, li_999, li_1000, li_1510, li_1820, li_2275, li_9999, li_10000, li_100000, li_1048575, li_100000000, nI_eqI]
  have w0 := (R 0 (by decide)).2.2.1
  have w1 := (R 1 (by decide)).2.2.1
  refine ⟨fun h0 => ?_, fun h0 => ?_⟩
  · rw [if_neg h0] at h
    have t0 : tot X 0 0 0 = ls eA (X 0) := by unfold tot; simp
    have t1 : tot X 0 0 1 = ls eA (X 1) := by unfold tot; simp
    have go1 : kyr X → p_X1_putKey_56 (nI nk) parts weights places (nI 1) Q := by
      intro hy
      have := i_putKey56 R h3 hn h0 h
      rw [kys_t hy] at this
      exact this
    have go0 : ¬ kyr X → p_X1_putKey_56 (nI nk) parts weights places (nI 0) Q := by
      intro hy
      have := i_putKey56 R h3 hn h0 h
      rw [kys_f hy] at this
      exact this
    refine i_linesOf R hX (by decide) (i_linesOf R hX (by decide) ?_)
    rw [t0, t1]
    simp (disch := omega) only [li_0, li_1, li_2, li_3, li_4, li_5, li_6, li_7, li_8, li_9, li_10, li_11, li_12, li_13, li_14, li_15, li_16, li_20, li_26, li_31, li_32, li_36, li_42, li_43, li_48, li_52, li_57, li_58, li_59, li_60, li_63, li_97, li_99, li_104, li_112, li_115, li_119, li_140, li_141, li_142, li_143, li_144, li_145, li_146, li_147, li_148, li_149, li_150, li_151, li_152, li_255, li_303, li_455, li_999, li_1000, li_1510, li_1820, li_2275, li_9999, li_10000, li_100000, li_1048575, li_100000000, nI_eqI, nI_clamp, vp_t, w0, w1, Nat.reduceLT, true_and, and_true, not_true_eq_false, not_false_eq_true, true_imp_iff, false_imp_iff, false_and, and_false, imp_false, Classical.not_not, Bool.false_eq_true, Nat.zero_ne_one, Nat.one_ne_zero, Nat.not_lt_zero, if_true, if_false, implies_true]
    refine ⟨fun he => ?_, fun he => ?_⟩
    · unfold p_X1_putKey_45
      simp (disch := omega) only [li_0, li_1, li_2, li_3, li_4, li_5, li_6, li_7, li_8, li_9, li_10, li_11, li_12, li_13, li_14, li_15, li_16, li_20, li_26, li_31, li_32, li_36, li_42, li_43, li_48, li_52, li_57, li_58, li_59, li_60, li_63, li_97, li_99, li_104, li_112, li_115, li_119, li_140, li_141, li_142, li_143, li_144, li_145, li_146, li_147, li_148, li_149, li_150, li_151, li_152, li_255, li_303, li_455, li_999, li_1000, li_1510, li_1820, li_2275, li_9999, li_10000, li_100000, li_1048575, li_100000000, d_le0]
      refine ⟨fun hl => go0 ?_, fun hl => go1 ?_⟩
      · unfold kyr; omega
      · unfold kyr; omega
    · refine i_linesOf R hX (by decide) (i_linesOf R hX (by decide) ?_)
      rw [t0, t1]
      unfold p_X1_putKey_45
      simp (disch := omega) only [li_0, li_1, li_2, li_3, li_4, li_5, li_6, li_7, li_8, li_9, li_10, li_11, li_12, li_13, li_14, li_15, li_16, li_20, li_26, li_31, li_32, li_36, li_42, li_43, li_48, li_52, li_57, li_58, li_59, li_60, li_63, li_97, li_99, li_104, li_112, li_115, li_119, li_140, li_141, li_142, li_143, li_144, li_145, li_146, li_147, li_148, li_149, li_150, li_151, li_152, li_255, li_303, li_455, li_999, li_1000, li_1510, li_1820, li_2275, li_9999, li_10000, li_100000, li_1048575, li_100000000, d_le0]
      refine ⟨fun hl => go0 ?_, fun hl => go1 ?_⟩
      · unfold kyr; omega
      · unfold kyr; omega
  · subst h0
    rw [wk_0, if_pos rfl] at h
    exact h _ _ _ R
/-- by how much the sides differ; which is filled; its places; the fill -/
def apt (X : Nat → List sE) : Nat := if ls eA (X 0) < ls eA (X 1) then ls eA (X 1) - ls eA (X 0) else ls eA (X 0) - ls eA (X 1)
def fsd (X : Nat → List sE) : Nat := if ls eA (X 0) < ls eA (X 1) then 0 else 1
def plc (A : List sE) : Nat := ls eP A - 1
def fld (X : Nat → List sE) (sla : Nat) : Nat := if apt X = 0 ∨ plc (X (fsd X)) = 0 ∨ sla < (apt X + plc (X (fsd X)) - 1) / plc (X (fsd X)) then 0 else apt X
theorem fsd_lt (X : Nat → List sE) : fsd X < 2 := by
  unfold fsd
  split <;> decide
theorem fld_le (X : Nat → List sE) (sla : Nat) : fld X sla ≤ apt X := by
  unfold fld
  split <;> omega
theorem apt_le {X : Nat → List sE} (hX : okX X) : apt X ≤ 225 := by
  have a1 := (hX.b (s := 0) (by decide)).1
  have b1 := (hX.b (s := 1) (by decide)).1
  unfold apt
  split <;> omega
theorem i_putFill18 {X : Nat → List sE} {parts : Nat → Nat → Int32} {weights places : Nat → Int32} (R : relF X 0 0 parts weights places) (hX : okX X) {sla : Nat} (hsl : sla ≤ 3) {Q : (Nat → Nat → Int32) → Prop} (h : ∀ parts', relF X (fsd X) (fld X sla) parts' weights places → Q parts') : p_X1_putFill_18 places (nI (apt X)) (nI sla) parts (nI (fsd X)) Q := by
  have hf := fsd_lt X
  have ha := apt_le hX
  obtain ⟨a1, a2, a3, a4, a5, a6, a7, a8⟩ := hX.b hf
  have hp := (R _ hf).2.2.2
  have none : fld X sla = 0 → Q parts := by
    intro hz
    refine h _ ?_
    intro t ht
    obtain ⟨r1, r2, r3, r4⟩ := R t ht
    refine ⟨r1, ?_, r3, r4⟩
    rw [r2, hz]
    split <;> split <;> rfl
  unfold p_X1_putFill_18
  simp (disch := omega) only [li_0, li_1, li_2, li_3, li_4, li_5, li_6, li_7, li_8, li_9, li_10, li_11, li_12, li_13, li_14, li_15, li_16, li_20, li_26, li_31, li_32, li_36, li_42, li_43, li_48, li_52, li_57, li_58, li_59, li_60, li_63, li_97, li_99, li_104, li_112, li_115, li_119, li_140, li_141, li_142, li_143, li_144, li_145, li_146, li_147, li_148, li_149, li_150, li_151, li_152, li_255, li_303, li_455, li_999, li_1000, li_1510, li_1820, li_2275, li_9999, li_10000, li_100000, li_1048575, li_100000000, vp_t, nI_clamp, hf, hp, d_le0, Nat.reduceLT, true_and, and_true, not_true_eq_false, not_false_eq_true, true_imp_iff, false_imp_iff, false_and, and_false, imp_false, Classical.not_not, Bool.false_eq_true, Nat.zero_ne_one, Nat.one_ne_zero, Nat.not_lt_zero, if_true, if_false, implies_true]
  refine ⟨fun h1 => none ?_, fun h1 => ?_⟩
  · unfold fld
    rw [if_pos]
    unfold plc
    omega
  · simp (disch := omega) only [pk_sub, e_parts, nI_ltI]
    have hdiv : (apt X + (ls eP (X (fsd X)) - 1) - 1) / (ls eP (X (fsd X)) - 1) < 2 ^ 31 := Nat.lt_of_le_of_lt (Nat.div_le_self _ _) (by omega)
    rw [nI_ltI (by omega) hdiv]
    refine ⟨fun h2 => none ?_, fun h2 => ?_⟩
    · unfold fld
      rw [if_pos]
      exact Or.inr (Or.inr h2)
    · have hq : fld X sla = apt X := by
        unfold fld
        by_cases hz : apt X = 0
        · rw [if_pos (Or.inl hz), hz]
        · rw [if_neg]
          unfold plc
          omega
      refine h _ ?_
      rw [hq]
      intro t ht
      obtain ⟨r1, r2, r3, r4⟩ := R t ht
      by_cases e : t = fsd X
      · subst e
        simp only [up_s, if_true]
        refine ⟨fun p hp => ?_, pk_us, r3, r4⟩
        rw [pk_un (by omega)]
        exact r1 p hp
      · simp only [up_n e, if_neg e]
        refine ⟨r1, ?_, r3, r4⟩
        rw [r2]
        split <;> rfl
theorem i_putFill {X : Nat → List sE} {parts : Nat → Nat → Int32} {weights places : Nat → Int32} (R : relF X 0 0 parts weights places) (hX : okX X) {sla : Nat} (hsl : sla ≤ 3) {Q : (Nat → Nat → Int32) → Prop} (h : ∀ parts', relF X (fsd X) (fld X sla) parts' weights places → Q parts') : p_X1_putFill parts places (nI (apt X)) (nI sla) Q := by
  have t0 : tot X 0 0 0 = ls eA (X 0) := by unfold tot; simp
  have t1 : tot X 0 0 1 = ls eA (X 1) := by unfold tot; simp
  obtain ⟨a1, a2, a3, a4, a5, a6, a7, a8⟩ := hX.b (s := 0) (by decide)
  obtain ⟨b1, b2, b3, b4, b5, b6, b7, b8⟩ := hX.b (s := 1) (by decide)
  have go := i_putFill18 R hX hsl h
  unfold p_X1_putFill
  simp only [li_0, li_1, li_2, li_3, li_4, li_5, li_6, li_7, li_8, li_9, li_10, li_11, li_12, li_13, li_14, li_15, li_16, li_20, li_26, li_31, li_32, li_36, li_42, li_43, li_48, li_52, li_57, li_58, li_59, li_60, li_63, li_97, li_99, li_104, li_112, li_115, li_119, li_140, li_141, li_142, li_143, li_144, li_145, li_146, li_147, li_148, li_149, li_150, li_151, li_152, li_255, li_303, li_455, li_999, li_1000, li_1510, li_1820, li_2275, li_9999, li_10000, li_100000, li_1048575, li_100000000]
  refine i_linesOf R hX (by decide) (i_linesOf R hX (by decide) ?_)
  rw [t0, t1]
  simp (disch := omega) only [nI_leI]
  refine ⟨fun hl => ?_, fun hl => ?_⟩
  · have : fsd X = 1 := if_neg (by omega)
    rw [this] at go
    exact go
  · have : fsd X = 0 := if_pos (by omega)
    rw [this] at go
    exact go
/-- the lists of both sides without the key -/
def sx (P : Nat → Bool) (n : Nat) (g : Nat → Nat → Nat) (wid col spa : Nat) (sd : Nat → Nat) : Nat → List sE := fun s => sl (fun c => ce P g wid col spa c n) sd s 4
theorem sl_pf3 (P : Nat → Bool) (n : Nat) (g : Nat → Nat → Nat) (wid col spa : Nat) (sd : Nat → Nat) (s : Nat) : ∀ k, ls (pf 3) (sl (fun c => ce P g wid col spa c n) sd s k) = 0
  | 0 => rfl
  | k + 1 => by
    show ls (pf 3) (sl _ sd s k ++ (if sd k = s then ce P g wid col spa k n else [])) = 0
    rw [ls_app, sl_pf3 P n g wid col spa sd s k]
    by_cases e : sd k = s
    · rw [if_pos e]
      by_cases hz : cs P g k (fun _ => 1) n = 0
      · rw [ce_nil hz]
        rfl
      · rw [(ce_sums P g wid col spa k n hz).2.2.2.1]
    · rw [if_neg e]
      rfl
theorem i_layF {P : Nat → Bool} {n : Nat} {g : Nat → Nat → Nat} {s : Nat → Nat} (hg : okG n g) (ho : okS s) {D L W st : Nat → Int32} {set num pri all col : Int32} (hP : relP P n g (s 1) D L W set num pri all col) (hst : ∀ k, k < 6 → st k = nI (s k)) {way : Nat} (hw : way < 16) {parts : Nat → Nat → Int32} {weights places : Nat → Int32} {Q : (Nat → Nat → Int32) → (Nat → Int32) → (Nat → Int32) → Int32 → Int32 → Prop}
    (h : ∀ parts' weights' places' X nk, X = sx P n g (s 1) (dg (mxl (fun d => if P d = true then g d 2 else 0) n)) (s 3) (fun c => tb way c) → nk = pc (orl (fun d => if P d = true then g d 4 else 0) n) → okX (wk X nk) → relF (wk X nk) (fsd (wk X nk)) (fld (wk X nk) (s 4)) parts' weights' places' → Q parts' weights' places' (if nk = 0 then -nI 99 else nI (kys X)) (nI (apt (wk X nk)))) : p_X1_lay parts weights places D L W all st (nI way) Q := by
  have hn := hg.1
  obtain ⟨s0, s1, s2, s3, s4, s5, s6, s7⟩ := ho.b
  obtain ⟨hD, hL, hW, rfl, rfl, rfl, rfl, rfl⟩ := hP
  have hcol : dg (mxl (fun d => if P d = true then g d 2 else 0) n) ≤ 4 := dg_le _
  have hall : orl (fun d => if P d = true then g d 4 else 0) n < 2 ^ 8 := orl_lt (fun k hk => by
    have := (hg.b (d := k) (by omega)).2.2.2.2.1
    show (if _ then g k 4 else 0) < 2 ^ 8
    split <;> omega)
  have hpc := (pc_mark _ hall).1
  unfold p_X1_lay
  refine i_clearF ?_
  intro p0 w0 l0 R0
  unfold p_X1_lay_7
  refine wl3 (q_X1_lay_7 D L W (nI (orl (fun d => if P d = true then g d 4 else 0) n)) st (nI way) (-nI 99) Q) 4 (by decide) (fun k p' w' l' => relF (fun t => sl (fun c => ce P g (s 1) (dg (mxl (fun d => if P d = true then g d 2 else 0) n)) (s 3) c n) (fun c => tb way c) t k) 0 0 p' w' l') 0 (by omega) _ _ _ R0 ?_
  rintro K k p' w' l' _ hk R hK
  unfold q_X1_lay_7
  simp (disch := omega) only [li_0, li_1, li_2, li_3, li_4, li_5, li_6, li_7, li_8, li_9, li_10, li_11, li_12, li_13, li_14, li_15, li_16, li_20, li_26, li_31, li_32, li_36, li_42, li_43, li_48, li_52, li_57, li_58, li_59, li_60, li_63, li_97, li_99, li_104, li_112, li_115, li_119, li_140, li_141, li_142, li_143, li_144, li_145, li_146, li_147, li_148, li_149, li_150, li_151, li_152, li_255, li_303, li_455, li_999, li_1000, li_1510, li_1820, li_2275, li_9999, li_10000, li_100000, li_1048575, li_100000000, nI_leI]
  refine ⟨fun hge => ?_, fun hlt => ?_⟩
  · have : k = 4 := by omega
    subst this
    rw [e_bitCount hall]
    have hX : okX (sx P n g (s 1) (dg (mxl (fun d => if P d = true then g d 2 else 0) n)) (s 3) (fun c => tb way c)) := fun t ht => ⟨sl_ok hg s1 hcol s5 _ _ 4 (Nat.le_refl 4), Nat.le_succ_of_le (sl_len4 P g _ _ _ _ _ n 4 (Nat.le_refl 4) hn)⟩
    have hX2 := okX_wk hX (fun t ht => sl_len4 P g _ _ _ _ _ n 4 (Nat.le_refl 4) hn) hpc
    have R1 : relF (sx P n g (s 1) (dg (mxl (fun d => if P d = true then g d 2 else 0) n)) (s 3) (fun c => tb way c)) 0 0 p' w' l' := R
    refine i_putKey R1 hX (fun t ht => sl_pf3 P n g _ _ _ _ t 4) hpc ?_
    intro p2 w2 l2 R2
    have t0 : ∀ Y : Nat → List sE, tot Y 0 0 0 = ls eA (Y 0) := fun Y => by unfold tot; simp
    have t1 : ∀ Y : Nat → List sE, tot Y 0 0 1 = ls eA (Y 1) := fun Y => by unfold tot; simp
    refine i_linesOf R2 hX2 (by decide) (i_linesOf R2 hX2 (by decide) ?_)
    have a1 := (hX2.b (s := 0) (by decide)).1
    have b1 := (hX2.b (s := 1) (by decide)).1
    rw [t0, t1]
    rw [e_setting hst (by omega)]
    rw [e_abs0 (by omega) (by omega)]
    refine i_putFill R2 hX2 s6 ?_
    intro p3 R3
    exact h _ _ _ _ _ rfl rfl hX2 R3
  · have hk4 : k < 4 := by omega
    have hcs : cs P g k (fun _ => 1) n ≤ 1 * n := cs_le (fun _ _ => Nat.le_refl 1)
    have htb := tb_lt way k
    simp (disch := omega) only [vp_t, nI_clamp, hk4, hD, nI_leI, e_sideIn, e_setting hst, true_and, and_true, not_true_eq_false, not_false_eq_true, true_imp_iff, false_imp_iff, false_and, and_false, imp_false, Classical.not_not, Bool.false_eq_true, Nat.zero_ne_one, Nat.one_ne_zero, Nat.not_lt_zero, if_true, if_false, implies_true]
    refine ⟨fun hz => ?_, fun hz => ?_⟩
    · unfold p_X1_lay_41
      simp (disch := omega) only [li_0, li_1, li_2, li_3, li_4, li_5, li_6, li_7, li_8, li_9, li_10, li_11, li_12, li_13, li_14, li_15, li_16, li_20, li_26, li_31, li_32, li_36, li_42, li_43, li_48, li_52, li_57, li_58, li_59, li_60, li_63, li_97, li_99, li_104, li_112, li_115, li_119, li_140, li_141, li_142, li_143, li_144, li_145, li_146, li_147, li_148, li_149, li_150, li_151, li_152, li_255, li_303, li_455, li_999, li_1000, li_1510, li_1820, li_2275, li_9999, li_10000, li_100000, li_1048575, li_100000000, nI_add, pk_mul, nI_clamp, nI_leI, nI_ltI, nI_eqI, vp_t, c_pos, c_npos]
      refine hK hk4 _ _ _ ?_
      have e : ce P g (s 1) (dg (mxl (fun d => if P d = true then g d 2 else 0) n)) (s 3) k n = [] := ce_nil (by omega)
      intro t ht
      show _ ∧ _ ∧ _ ∧ _
      have e2 : sl (fun c => ce P g (s 1) (dg (mxl (fun d => if P d = true then g d 2 else 0) n)) (s 3) c n) (fun c => tb way c) t (k + 1) = sl (fun c => ce P g (s 1) (dg (mxl (fun d => if P d = true then g d 2 else 0) n)) (s 3) c n) (fun c => tb way c) t k := by
        show sl _ _ t k ++ (if tb way k = t then ce P g (s 1) _ (s 3) k n else []) = _
        rw [e]
        split <;> rw [List.append_nil]
      simp only [e2]
      exact R t ht
    · refine i_putCourse1 (spa := s 3) htb hk4 (hD k hk4) (hL k hk4) (hW k hk4) (by omega) R ?_
      intro p2 w2 l2 R2
      unfold p_X1_lay_41
      simp (disch := omega) only [li_0, li_1, li_2, li_3, li_4, li_5, li_6, li_7, li_8, li_9, li_10, li_11, li_12, li_13, li_14, li_15, li_16, li_20, li_26, li_31, li_32, li_36, li_42, li_43, li_48, li_52, li_57, li_58, li_59, li_60, li_63, li_97, li_99, li_104, li_112, li_115, li_119, li_140, li_141, li_142, li_143, li_144, li_145, li_146, li_147, li_148, li_149, li_150, li_151, li_152, li_255, li_303, li_455, li_999, li_1000, li_1510, li_1820, li_2275, li_9999, li_10000, li_100000, li_1048575, li_100000000, nI_add, pk_mul, nI_clamp, nI_leI, nI_ltI, nI_eqI, vp_t, c_pos, c_npos]
      exact hK hk4 _ _ _ R2
/-! ===== what Fold tells ===== -/
theorem i_isEven {X : Nat → List sE} {fs fl : Nat} {parts : Nat → Nat → Int32} {weights places : Nat → Int32} (R : relF X fs fl parts weights places) (hX : okX X) (hf : fl ≤ 225) {Q : Int32 → Prop} (h : Q (nI (if tot X fs fl 0 = tot X fs fl 1 then 1 else 0))) : p_X1_isEven parts Q := by
  have a1 := (hX.b (s := 0) (by decide)).1
  have b1 := (hX.b (s := 1) (by decide)).1
  have c0 : tot X fs fl 0 ≤ 450 := by unfold tot; split <;> omega
  have c1 : tot X fs fl 1 ≤ 450 := by unfold tot; split <;> omega
  unfold p_X1_isEven
  simp only [li_0, li_1, li_2, li_3, li_4, li_5, li_6, li_7, li_8, li_9, li_10, li_11, li_12, li_13, li_14, li_15, li_16, li_20, li_26, li_31, li_32, li_36, li_42, li_43, li_48, li_52, li_57, li_58, li_59, li_60, li_63, li_97, li_99, li_104, li_112, li_115, li_119, li_140, li_141, li_142, li_143, li_144, li_145, li_146, li_147, li_148, li_149, li_150, li_151, li_152, li_255, li_303, li_455, li_999, li_1000, li_1510, li_1820, li_2275, li_9999, li_10000, li_100000, li_1048575, li_100000000]
  refine i_linesOf R hX (by decide) (i_linesOf R hX (by decide) ?_)
  simp (disch := omega) only [nI_eqI]
  refine ⟨fun e => ?_, fun e => ?_⟩
  · rw [if_neg e] at h
    exact h
  · rw [if_pos e] at h
    exact h
def dif (X : Nat → List sE) : Nat := if ls eW (X 0) < ls eW (X 1) then ls eW (X 1) - ls eW (X 0) else ls eW (X 0) - ls eW (X 1)
def lgs (X : Nat → List sE) (fs fl : Nat) : Nat := if tot X fs fl 0 < tot X fs fl 1 then tot X fs fl 1 else tot X fs fl 0
theorem e_difference {X : Nat → List sE} {fs fl : Nat} {parts : Nat → Nat → Int32} {weights places : Nat → Int32} (R : relF X fs fl parts weights places) (hX : okX X) {Q : Int32 → Prop} : p_X1_difference weights Q ↔ Q (nI (dif X)) := by
  have a1 := (hX.b (s := 0) (by decide)).2.1
  have b1 := (hX.b (s := 1) (by decide)).2.1
  have w0 := (R 0 (by decide)).2.2.1
  have w1 := (R 1 (by decide)).2.2.1
  unfold p_X1_difference
  simp (disch := omega) only [li_0, li_1, li_2, li_3, li_4, li_5, li_6, li_7, li_8, li_9, li_10, li_11, li_12, li_13, li_14, li_15, li_16, li_20, li_26, li_31, li_32, li_36, li_42, li_43, li_48, li_52, li_57, li_58, li_59, li_60, li_63, li_97, li_99, li_104, li_112, li_115, li_119, li_140, li_141, li_142, li_143, li_144, li_145, li_146, li_147, li_148, li_149, li_150, li_151, li_152, li_255, li_303, li_455, li_999, li_1000, li_1510, li_1820, li_2275, li_9999, li_10000, li_100000, li_1048575, li_100000000, vp_t, nI_clamp, w0, w1, e_abs, Nat.reduceLT, true_and, and_true, not_true_eq_false, not_false_eq_true, true_imp_iff, false_imp_iff, false_and, and_false, imp_false, Classical.not_not, Bool.false_eq_true, Nat.zero_ne_one, Nat.one_ne_zero, Nat.not_lt_zero, if_true, if_false, implies_true]
  rfl
theorem i_longest {X : Nat → List sE} {fs fl : Nat} {parts : Nat → Nat → Int32} {weights places : Nat → Int32} (R : relF X fs fl parts weights places) (hX : okX X) (hf : fl ≤ 225) {Q : Int32 → Prop} (h : Q (nI (lgs X fs fl))) : p_X1_longest parts Q := by
  have a1 := (hX.b (s := 0) (by decide)).1
  have b1 := (hX.b (s := 1) (by decide)).1
  have c0 : tot X fs fl 0 ≤ 450 := by unfold tot; split <;> omega
  have c1 : tot X fs fl 1 ≤ 450 := by unfold tot; split <;> omega
  unfold p_X1_longest
  simp only [li_0, li_1, li_2, li_3, li_4, li_5, li_6, li_7, li_8, li_9, li_10, li_11, li_12, li_13, li_14, li_15, li_16, li_20, li_26, li_31, li_32, li_36, li_42, li_43, li_48, li_52, li_57, li_58, li_59, li_60, li_63, li_97, li_99, li_104, li_112, li_115, li_119, li_140, li_141, li_142, li_143, li_144, li_145, li_146, li_147, li_148, li_149, li_150, li_151, li_152, li_255, li_303, li_455, li_999, li_1000, li_1510, li_1820, li_2275, li_9999, li_10000, li_100000, li_1048575, li_100000000]
  refine i_linesOf R hX (by decide) (i_linesOf R hX (by decide) ?_)
  simp (disch := omega) only [nI_ltI]
  unfold lgs at h
  split at h <;> rename_i hc
  · rw [if_pos hc]; exact h
  · rw [if_neg hc]; exact h

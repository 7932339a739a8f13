/-! ===== which dishes are printed ===== -/
/-- those of a course that may be printed and are on offer, with smaller numbers -/
def ah (g : Nat → Nat → Nat) (se gu c d : Nat) : Nat := sm (fun k => if g k 0 = c ∧ elg g se gu k = true then 1 else 0) d
def prt (g : Nat → Nat → Nat) (lim se gu d : Nat) : Bool := elg g se gu d && decide (ah g se gu (g d 0) d < lim)
/-- the sum of f over the printed dishes of a course; over all of them; all their allergens; the highest price -/
def cs (P : Nat → Bool) (g : Nat → Nat → Nat) (c : Nat) (f : Nat → Nat) (n : Nat) : Nat := sm (fun d => if g d 0 = c ∧ P d = true then f d else 0) n
def ps (P : Nat → Bool) (f : Nat → Nat) (n : Nat) : Nat := sm (fun d => if P d = true then f d else 0) n
def orl (f : Nat → Nat) : Nat → Nat
  | 0 => 0
  | n + 1 => orl f n ||| f n
def mxl (f : Nat → Nat) : Nat → Nat
  | 0 => 0
  | n + 1 => if mxl f n < f n then f n else mxl f n
theorem orl_lt {f : Nat → Nat} {m : Nat} : ∀ {n : Nat}, (∀ k, k < n → f k < 2 ^ m) → orl f n < 2 ^ m
  | 0, _ => Nat.pow_pos (by decide)
  | n + 1, h => Nat.or_lt_two_pow (orl_lt (fun k hk => h k (Nat.lt_succ_of_lt hk))) (h n (Nat.lt_succ_self n))
theorem mxl_le {f : Nat → Nat} {m : Nat} : ∀ {n : Nat}, (∀ k, k < n → f k ≤ m) → mxl f n ≤ m
  | 0, _ => Nat.zero_le _
  | n + 1, h => by
    have h1 := mxl_le (f := f) (m := m) (n := n) (fun k hk => h k (Nat.lt_succ_of_lt hk))
    have h2 := h n (Nat.lt_succ_self n)
    show (if mxl f n < f n then f n else mxl f n) ≤ m
    split <;> omega
theorem mxl_ge {f : Nat → Nat} {k : Nat} : ∀ {n : Nat}, k < n → f k ≤ mxl f n
  | 0, h => absurd h (Nat.not_lt_zero k)
  | n + 1, h => by
    show f k ≤ (if mxl f n < f n then f n else mxl f n)
    by_cases e : k = n
    · subst e
      split <;> omega
    · have := mxl_ge (f := f) (k := k) (n := n) (by omega)
      split <;> omega
theorem mxl_pos {f : Nat → Nat} : ∀ {n : Nat}, 0 < mxl f n → ∃ k, k < n ∧ 0 < f k
  | 0, h => absurd h (Nat.lt_irrefl 0)
  | n + 1, h => by
    have h' : 0 < (if mxl f n < f n then f n else mxl f n) := h
    by_cases e : mxl f n < f n
    · exact ⟨n, by omega, by omega⟩
    · rw [if_neg e] at h'
      obtain ⟨k, hk, h2⟩ := mxl_pos h'
      exact ⟨k, by omega, h2⟩
theorem mxl_cong {f g : Nat → Nat} : ∀ {n : Nat}, (∀ k, k < n → f k = g k) → mxl f n = mxl g n
  | 0, _ => rfl
  | n + 1, h => by
    show (if mxl f n < f n then f n else mxl f n) = (if mxl g n < g n then g n else mxl g n)
    rw [mxl_cong (fun k hk => h k (Nat.lt_succ_of_lt hk)), h n (Nat.lt_succ_self n)]
theorem cs_step (P : Nat → Bool) (g : Nat → Nat → Nat) (c : Nat) (f : Nat → Nat) (n : Nat) : cs P g c f (n + 1) = cs P g c f n + (if g n 0 = c ∧ P n = true then f n else 0) := rfl
theorem ps_step (P : Nat → Bool) (f : Nat → Nat) (n : Nat) : ps P f (n + 1) = ps P f n + (if P n = true then f n else 0) := rfl
theorem ah_step (g : Nat → Nat → Nat) (se gu c d : Nat) : ah g se gu c (d + 1) = ah g se gu c d + (if g d 0 = c ∧ elg g se gu d = true then 1 else 0) := rfl
theorem cs_le {P : Nat → Bool} {g : Nat → Nat → Nat} {c m : Nat} {f : Nat → Nat} {n : Nat} (h : ∀ k, k < n → f k ≤ m) : cs P g c f n ≤ m * n := by
  apply sm_le
  intro k hk
  have := h k hk
  show (if _ then f k else 0) ≤ m
  split <;> omega
theorem ps_le {P : Nat → Bool} {m : Nat} {f : Nat → Nat} {n : Nat} (h : ∀ k, k < n → f k ≤ m) : ps P f n ≤ m * n := by
  apply sm_le
  intro k hk
  have := h k hk
  show (if _ then f k else 0) ≤ m
  split <;> omega
/-- the printed ones ahead are the eligible ones, up to the limit -/
theorem ah_min (g : Nat → Nat → Nat) (lim se gu c : Nat) : ∀ d, cs (prt g lim se gu) g c (fun _ => 1) d = min (ah g se gu c d) lim
  | 0 => by
    show 0 = min 0 lim
    omega
  | d + 1 => by
    rw [cs_step, ah_step, ah_min g lim se gu c d]
    unfold prt
    by_cases h1 : g d 0 = c
    · subst h1
      cases h2 : elg g se gu d
      · simp
      · by_cases h3 : ah g se gu (g d 0) d < lim
        · simp [h3]
          omega
        · simp [h3]
          omega
    · simp [h1]
theorem prt_iff {g : Nat → Nat → Nat} {lim se gu d : Nat} : prt g lim se gu d = true ↔ elg g se gu d = true ∧ ah g se gu (g d 0) d < lim := by
  unfold prt
  rw [Bool.and_eq_true, decide_eq_true_iff]
theorem updR {D : Nat → Int32} {F : Nat → Nat} {m : Nat} (hD : ∀ c, c < m → D c = nI (F c)) {j : Nat} (hj : j < m) (x : Nat) : ∀ c, c < m → upd D j (D j + nI x) c = nI (F c + if j = c then x else 0) := by
  intro c hc
  by_cases e : j = c
  · subst e
    rw [pk_us, if_pos rfl, hD _ hj, nI_add]
  · rw [pk_un (Ne.symm e), if_neg e, hD c hc, Nat.add_zero]
/-! ===== the class: find ===== -/
theorem i_clear4 {D L W : Nat → Int32} {Q : (Nat → Int32) → (Nat → Int32) → (Nat → Int32) → Int32 → Int32 → Int32 → Int32 → Prop} (h : ∀ D' L' W', (∀ c, c < 4 → D' c = nI 0 ∧ L' c = nI 0 ∧ W' c = nI 0) → Q D' L' W' (nI 0) (nI 0) (nI 0) (nI 0)) : p_X4_clear D L W Q := by
  unfold p_X4_clear p_X4_clear_2
  refine wl3 (q_X4_clear_2 Q) 4 (by decide) (fun k D' L' W' => ∀ c, c < k → D' c = nI 0 ∧ L' c = nI 0 ∧ W' c = nI 0) 0 (by omega) _ _ _ (fun c hc => absurd hc (Nat.not_lt_zero c)) ?_
  rintro K k D' L' W' _ hk hP hK
  unfold q_X4_clear_2
  simp (disch := omega) only [li_0, li_1, li_2, li_3, li_4, li_5, li_6, li_7, li_8, li_9, li_10, li_11, li_12, li_13, li_14, li_15, li_16, li_20, li_26, li_31, li_32, li_36, li_42, li_43, li_48, li_52, li_57, li_58, li_59, li_60, li_63, li_97, li_99, li_104, li_112, li_115, li_119, li_140, li_141, li_142, li_143, li_144, li_145, li_146, li_147, li_148, li_149, li_150, li_151, li_152, li_255, li_303, li_455, li_999, li_1000, li_1510, li_1820, li_2275, li_9999, li_10000, li_100000, li_1048575, li_100000000, nI_add, pk_mul, nI_clamp, nI_leI, nI_ltI, nI_eqI, vp_t, c_pos, c_npos]
  refine ⟨fun hge => ?_, fun hlt => ⟨by omega, by omega, by omega, ?_⟩⟩
  · have : k = 4 := by omega
    subst this
    exact h _ _ _ hP
  · refine hK (by omega) _ _ _ ?_
    intro c hc
    by_cases e : c = k
    · subst e
      exact ⟨pk_us, pk_us, pk_us⟩
    · obtain ⟨p1, p2, p3⟩ := hP c (by omega)
      exact ⟨by rw [pk_un e, p1], by rw [pk_un e, p2], by rw [pk_un e, p3]⟩
theorem i_measure {v st : Nat → Int32} {n : Nat} {g : Nat → Nat → Nat} {s : Nat → Nat} (hv : ∀ d k, d < 20 → k < 7 → v (d * 7 + k) = nI (g d k)) (hs : ∀ k, k < 6 → st k = nI (s k)) (hg : okG n g) (ho : okS s) (P : Nat → Bool) {col : Nat} (hc : col ≤ 4) {L W : Nat → Int32} (h0 : ∀ c, c < 4 → L c = nI 0 ∧ W c = nI 0) {Q : (Nat → Int32) → (Nat → Int32) → Prop} (h : ∀ L' W', (∀ c, c < 4 → L' c = nI (cs P g c (ln g (s 1) col) n)) → (∀ c, c < 4 → W' c = nI (cs P g c (fun d => g d 5 * ln g (s 1) col d + 2) n)) → Q L' W') : p_X4_measure L W (nI (mk P n)) (nI col) v st (nI n) Q := by
  have hn := hg.1
  unfold p_X4_measure p_X4_measure_2
  refine wl2 (q_X4_measure_2 (nI (mk P n)) (nI col) v st (nI n) Q) n (by omega) (fun k L' W' => (∀ c, c < 4 → L' c = nI (cs P g c (ln g (s 1) col) k)) ∧ (∀ c, c < 4 → W' c = nI (cs P g c (fun d => g d 5 * ln g (s 1) col d + 2) k))) 0 (by omega) _ _ ⟨fun c hc => (h0 c hc).1, fun c hc => (h0 c hc).2⟩ ?_
  rintro K k L' W' _ hk ⟨hL, hW⟩ hK
  unfold q_X4_measure_2 p_X3_size
  have hm := mk_lt31 P hn
  have ht := mk_tb P n k
  simp (disch := omega) only [li_0, li_1, li_2, li_3, li_4, li_5, li_6, li_7, li_8, li_9, li_10, li_11, li_12, li_13, li_14, li_15, li_16, li_20, li_26, li_31, li_32, li_36, li_42, li_43, li_48, li_52, li_57, li_58, li_59, li_60, li_63, li_97, li_99, li_104, li_112, li_115, li_119, li_140, li_141, li_142, li_143, li_144, li_145, li_146, li_147, li_148, li_149, li_150, li_151, li_152, li_255, li_303, li_455, li_999, li_1000, li_1510, li_1820, li_2275, li_9999, li_10000, li_100000, li_1048575, li_100000000, e_has, nI_leI, nI_eqI, ht]
  refine ⟨fun hge => ?_, fun hlt => ?_⟩
  · have : k = n := by omega
    subst this
    exact h _ _ hL hW
  · have hk2 : k < n := by omega
    have hk3 : k < 20 := by omega
    obtain ⟨b0, b1, b2, b3, b4, b5, b6⟩ := hg.b hk3
    obtain ⟨s0, s1, s2, s3, s4, s5, s6, s7⟩ := ho.b
    have hl := (ln_le hg (wid := s 1) (col := col) hk3 s1 hc).1
    by_cases hp : P k = true
    · have l4 : g k 0 < 4 := by omega
      simp (disch := omega) only [hk2, hp, and_self, if_true, true_and, and_true, not_true_eq_false, not_false_eq_true, true_imp_iff, false_imp_iff, false_and, and_false, imp_false, Classical.not_not, Bool.false_eq_true, Nat.zero_ne_one, Nat.one_ne_zero, Nat.not_lt_zero, if_true, if_false, implies_true, e_valueOf hv, e_linesOf hv hs hg ho, nI_add, pk_mul, nI_clamp, nI_leI, nI_ltI, nI_eqI, vp_t, c_pos, c_npos, l4, Nat.one_ne_zero, implies_true]
      unfold p_X4_measure_70
      simp (disch := omega) only [li_0, li_1, li_2, li_3, li_4, li_5, li_6, li_7, li_8, li_9, li_10, li_11, li_12, li_13, li_14, li_15, li_16, li_20, li_26, li_31, li_32, li_36, li_42, li_43, li_48, li_52, li_57, li_58, li_59, li_60, li_63, li_97, li_99, li_104, li_112, li_115, li_119, li_140, li_141, li_142, li_143, li_144, li_145, li_146, li_147, li_148, li_149, li_150, li_151, li_152, li_255, li_303, li_455, li_999, li_1000, li_1510, li_1820, li_2275, li_9999, li_10000, li_100000, li_1048575, li_100000000, nI_add, pk_mul, nI_clamp, nI_leI, nI_ltI, nI_eqI, vp_t, c_pos, c_npos]
      refine hK hk2 _ _ ⟨?_, ?_⟩
      · intro c hc
        rw [updR hL l4 _ c hc, cs_step]
        simp only [hp, and_true]
      · intro c hc
        rw [updR hW l4 _ c hc, cs_step]
        simp only [hp, and_true]
    · simp (disch := omega) only [hp, and_false, if_false, true_and, and_true, not_true_eq_false, not_false_eq_true, true_imp_iff, false_imp_iff, false_and, and_false, imp_false, Classical.not_not, Bool.false_eq_true, Nat.zero_ne_one, Nat.one_ne_zero, Nat.not_lt_zero, if_true, if_false, implies_true, implies_true]
      unfold p_X4_measure_70
      simp (disch := omega) only [li_0, li_1, li_2, li_3, li_4, li_5, li_6, li_7, li_8, li_9, li_10, li_11, li_12, li_13, li_14, li_15, li_16, li_20, li_26, li_31, li_32, li_36, li_42, li_43, li_48, li_52, li_57, li_58, li_59, li_60, li_63, li_97, li_99, li_104, li_112, li_115, li_119, li_140, li_141, li_142, li_143, li_144, li_145, li_146, li_147, li_148, li_149, li_150, li_151, li_152, li_255, li_303, li_455, li_999, li_1000, li_1510, li_1820, li_2275, li_9999, li_10000, li_100000, li_1048575, li_100000000, nI_add, pk_mul, nI_clamp, nI_leI, nI_ltI, nI_eqI, vp_t, c_pos, c_npos]
      refine hK hk2 _ _ ⟨?_, ?_⟩
      · intro c hc
        rw [hL c hc, cs_step, if_neg (fun e => hp e.2), Nat.add_zero]
      · intro c hc
        rw [hW c hc, cs_step, if_neg (fun e => hp e.2), Nat.add_zero]
/-- what the class's Printing holds for a set of printed dishes -/
def relP (P : Nat → Bool) (n : Nat) (g : Nat → Nat → Nat) (wid : Nat) (D L W : Nat → Int32) (set num pri all col : Int32) : Prop :=
  (∀ c, c < 4 → D c = nI (cs P g c (fun _ => 1) n)) ∧ (∀ c, c < 4 → L c = nI (cs P g c (ln g wid (dg (mxl (fun d => if P d = true then g d 2 else 0) n))) n)) ∧ (∀ c, c < 4 → W c = nI (cs P g c (fun d => g d 5 * ln g wid (dg (mxl (fun d => if P d = true then g d 2 else 0) n)) d + 2) n)) ∧ set = nI (mk P n) ∧ num = nI (ps P (fun _ => 1) n) ∧ pri = nI (ps P (fun d => g d 2) n) ∧ all = nI (orl (fun d => if P d = true then g d 4 else 0) n) ∧ col = nI (dg (mxl (fun d => if P d = true then g d 2 else 0) n))
theorem i_find {v st : Nat → Int32} {n : Nat} {g : Nat → Nat → Nat} {s : Nat → Nat} (hv : ∀ d k, d < 20 → k < 7 → v (d * 7 + k) = nI (g d k)) (hs : ∀ k, k < 6 → st k = nI (s k)) (hg : okG n g) (ho : okS s) {se gu : Nat} (hse : se ≤ 3) {D L W : Nat → Int32} {Q : (Nat → Int32) → (Nat → Int32) → (Nat → Int32) → Int32 → Int32 → Int32 → Int32 → Int32 → Prop} (h : ∀ D' L' W' set num pri all col, relP (prt g (s 2) se gu) n g (s 1) D' L' W' set num pri all col → Q D' L' W' set num pri all col) : p_X4_find D L W v st (nI n) (nI se) (nI gu) Q := by
  have hn := hg.1
  obtain ⟨s0, s1, s2, s3, s4, s5, s6, s7⟩ := ho.b
  unfold p_X4_find
  refine i_clear4 ?_
  intro D0 L0 W0 h0
  unfold p_X4_find_10
  refine wl6 (q_X4_find_10 v st (nI n) (nI se) (nI gu) L0 W0 Q) n (by omega) (fun k D' set num pri all hi => (∀ c, c < 4 → D' c = nI (cs (prt g (s 2) se gu) g c (fun _ => 1) k)) ∧ set = nI (mk (prt g (s 2) se gu) k) ∧ num = nI (ps (prt g (s 2) se gu) (fun _ => 1) k) ∧ pri = nI (ps (prt g (s 2) se gu) (fun d => g d 2) k) ∧ all = nI (orl (fun d => if prt g (s 2) se gu d = true then g d 4 else 0) k) ∧ hi = nI (mxl (fun d => if prt g (s 2) se gu d = true then g d 2 else 0) k)) 0 (by omega) _ _ _ _ _ _ ⟨fun c hc => (h0 c hc).1, rfl, rfl, rfl, rfl, rfl⟩ ?_
  rintro K k D' set num pri all hi _ hk ⟨hD, rfl, rfl, rfl, rfl, rfl⟩ hK
  unfold q_X4_find_10 p_X3_size
  have hm : mxl (fun d => if prt g (s 2) se gu d = true then g d 2 else 0) k ≤ 9999 := mxl_le (fun j hj => by
    have := (hg.b (d := j) (by omega)).2.2.1
    show (if _ then g j 2 else 0) ≤ 9999
    split <;> omega)
  simp (disch := omega) only [li_0, li_1, li_2, li_3, li_4, li_5, li_6, li_7, li_8, li_9, li_10, li_11, li_12, li_13, li_14, li_15, li_16, li_20, li_26, li_31, li_32, li_36, li_42, li_43, li_48, li_52, li_57, li_58, li_59, li_60, li_63, li_97, li_99, li_104, li_112, li_115, li_119, li_140, li_141, li_142, li_143, li_144, li_145, li_146, li_147, li_148, li_149, li_150, li_151, li_152, li_255, li_303, li_455, li_999, li_1000, li_1510, li_1820, li_2275, li_9999, li_10000, li_100000, li_1048575, li_100000000, nI_leI]
  refine ⟨fun hge => ?_, fun hlt => ?_⟩
  · have : k = n := by omega
    subst this
    rw [e_digits (by omega)]
    refine i_measure hv hs hg ho (prt g (s 2) se gu) (dg_le _) (fun c hc => (h0 c hc).2) ?_
    intro L' W' hL hW
    exact h _ _ _ _ _ _ _ _ ⟨hD, hL, hW, rfl, rfl, rfl, rfl, rfl⟩
  · have hk2 : k < n := by omega
    have hk3 : k < 20 := by omega
    obtain ⟨b0, b1, b2, b3, b4, b5, b6⟩ := hg.b hk3
    have l4 : g k 0 < 4 := by omega
    have hc1 : cs (prt g (s 2) se gu) g (g k 0) (fun _ => 1) k ≤ 1 * k := cs_le (fun _ _ => Nat.le_refl 1)
    have hsk : ∀ (hp : ¬ prt g (s 2) se gu k = true), p_X4_find_142 D' (nI (mk (prt g (s 2) se gu) k)) (nI (ps (prt g (s 2) se gu) (fun _ => 1) k)) (nI (ps (prt g (s 2) se gu) (fun d => g d 2) k)) (nI (orl (fun d => if prt g (s 2) se gu d = true then g d 4 else 0) k)) (nI (mxl (fun d => if prt g (s 2) se gu d = true then g d 2 else 0) k)) (nI k) K := by
      intro hp
      unfold p_X4_find_142
      simp (disch := omega) only [li_0, li_1, li_2, li_3, li_4, li_5, li_6, li_7, li_8, li_9, li_10, li_11, li_12, li_13, li_14, li_15, li_16, li_20, li_26, li_31, li_32, li_36, li_42, li_43, li_48, li_52, li_57, li_58, li_59, li_60, li_63, li_97, li_99, li_104, li_112, li_115, li_119, li_140, li_141, li_142, li_143, li_144, li_145, li_146, li_147, li_148, li_149, li_150, li_151, li_152, li_255, li_303, li_455, li_999, li_1000, li_1510, li_1820, li_2275, li_9999, li_10000, li_100000, li_1048575, li_100000000, nI_add, pk_mul, nI_clamp, nI_leI, nI_ltI, nI_eqI, vp_t, c_pos, c_npos]
      refine hK hk2 _ _ _ _ _ _ ⟨?_, ?_, ?_, ?_, ?_, ?_⟩
      · intro c hc
        rw [hD c hc, cs_step, if_neg (fun e => hp e.2), Nat.add_zero]
      · show _ = nI (mk _ k + if prt g (s 2) se gu k = true then 2 ^ k else 0)
        rw [if_neg hp, Nat.add_zero]
      · rw [ps_step, if_neg hp, Nat.add_zero]
      · rw [ps_step, if_neg hp, Nat.add_zero]
      · show _ = nI (orl _ k ||| if prt g (s 2) se gu k = true then g k 4 else 0)
        rw [if_neg hp, Nat.or_zero]
      · show _ = nI (if mxl _ k < (if prt g (s 2) se gu k = true then g k 2 else 0) then (if prt g (s 2) se gu k = true then g k 2 else 0) else mxl _ k)
        rw [if_neg hp, if_neg (Nat.not_lt_zero _)]
    simp (disch := omega) only [e_valueOf hv, e_isOffered hv hg, e_mayBePrinted hv hg, e_setting hs, hD, nI_add, pk_mul, nI_clamp, nI_leI, nI_ltI, nI_eqI, vp_t, c_pos, c_npos, l4, Nat.one_ne_zero, true_and, and_true, not_true_eq_false, not_false_eq_true, true_imp_iff, false_imp_iff, false_and, and_false, imp_false, Classical.not_not, Bool.false_eq_true, Nat.zero_ne_one, Nat.one_ne_zero, Nat.not_lt_zero, if_true, if_false, implies_true]
    have hmin := ah_min g (s 2) se gu (g k 0) k
    refine ⟨fun ho6 => ?_, fun ho6 => hsk (fun hp => ho6 (elg_iff.1 (prt_iff.1 hp).1).1)⟩
    refine ⟨fun hm1 => ?_, fun hm1 => hsk (fun hp => hm1 (elg_iff.1 (prt_iff.1 hp).1).2)⟩
    have he : elg g se gu k = true := elg_iff.2 ⟨ho6, hm1⟩
    refine ⟨fun hl => hsk (fun hp => ?_), fun hl => ?_⟩
    · have := (prt_iff.1 hp).2
      omega
    · have hp : prt g (s 2) se gu k = true := prt_iff.2 ⟨he, by omega⟩
      unfold p_X4_find_142
      simp (disch := omega) only [li_0, li_1, li_2, li_3, li_4, li_5, li_6, li_7, li_8, li_9, li_10, li_11, li_12, li_13, li_14, li_15, li_16, li_20, li_26, li_31, li_32, li_36, li_42, li_43, li_48, li_52, li_57, li_58, li_59, li_60, li_63, li_97, li_99, li_104, li_112, li_115, li_119, li_140, li_141, li_142, li_143, li_144, li_145, li_146, li_147, li_148, li_149, li_150, li_151, li_152, li_255, li_303, li_455, li_999, li_1000, li_1510, li_1820, li_2275, li_9999, li_10000, li_100000, li_1048575, li_100000000, nI_add, pk_mul, nI_clamp, nI_leI, nI_ltI, nI_eqI, vp_t, c_pos, c_npos, e_shl, e_orI, mk_or]
      refine hK hk2 _ _ _ _ _ _ ⟨?_, ?_, ?_, ?_, ?_, ?_⟩
      · intro c hc
        have e := updR hD l4 1 c hc
        rw [hD _ l4] at e
        rw [nI_add] at e
        rw [e, cs_step]
        simp only [hp, and_true]
      · show _ = nI (mk _ k + if prt g (s 2) se gu k = true then 2 ^ k else 0)
        rw [if_pos hp]
      · rw [ps_step, if_pos hp]
      · rw [ps_step, if_pos hp]
      · show _ = nI (orl _ k ||| if prt g (s 2) se gu k = true then g k 4 else 0)
        rw [if_pos hp]
      · show _ = nI (if mxl _ k < (if prt g (s 2) se gu k = true then g k 2 else 0) then (if prt g (s 2) se gu k = true then g k 2 else 0) else mxl _ k)
        rw [if_pos hp]
        split <;> rfl
/-! ===== the reference: the set of the printed dishes, and what is looked at ===== -/

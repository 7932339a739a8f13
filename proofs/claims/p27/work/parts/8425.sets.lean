/-! ===== candidates ===== -/
def nd (A : List Nat) (i : Nat) : Nat := A.getD i 0
theorem nd_mem {A : List Nat} {i : Nat} (h : i < A.length) : nd A i ∈ A := by
  unfold nd
  rw [List.getD_eq_getElem?_getD, List.getElem?_eq_getElem h]
  exact List.getElem_mem h
theorem nd_in {A B : List Nat} {i : Nat} (h : i < A.length) : nd (A ++ B) i = nd A i := by
  unfold nd
  rw [List.getD_eq_getElem?_getD, List.getD_eq_getElem?_getD, List.getElem?_append_left h]
theorem nd_last {A : List Nat} {d : Nat} : nd (A ++ [d]) A.length = d := by
  unfold nd
  rw [List.getD_eq_getElem?_getD, List.getElem?_append_right (Nat.le_refl _), Nat.sub_self]
  rfl
theorem nd_take {A : List Nat} {i : Nat} (h : i < A.length) : A.take (i + 1) = A.take i ++ [nd A i] := by
  rw [List.take_add_one, List.getElem?_eq_getElem h]
  unfold nd
  rw [List.getD_eq_getElem?_getD, List.getElem?_eq_getElem h]
  rfl
def qb (g : Nat → Nat → Nat) (s : Nat → Nat) (col d : Nat) : Bool := mayB g (s 0) (s 5) d && decide (dg (g d 2) ≤ col)
theorem qb_iff {g : Nat → Nat → Nat} {s : Nat → Nat} {col d : Nat} : qb g s col d = true ↔ mayB g (s 0) (s 5) d = true ∧ dg (g d 2) ≤ col := by
  unfold qb
  rw [Bool.and_eq_true, decide_eq_true_iff]
def cq (q : Nat → Bool) (g : Nat → Nat → Nat) (c : Nat) : Nat → List Nat
  | 0 => []
  | d + 1 => cq q g c d ++ (if g d 0 = c ∧ q d = true then [d] else [])
def ca (q : Nat → Bool) (g : Nat → Nat → Nat) (sd : Nat → Nat) (side n : Nat) : Nat → List Nat
  | 0 => []
  | k + 1 => ca q g sd side n k ++ (if sd k = side then cq q g k n else [])
theorem cq_y {q : Nat → Bool} {g : Nat → Nat → Nat} {c d : Nat} (h : g d 0 = c ∧ q d = true) : cq q g c (d + 1) = cq q g c d ++ [d] := by
  show cq q g c d ++ (if g d 0 = c ∧ q d = true then [d] else []) = _
  rw [if_pos h]
theorem cq_n {q : Nat → Bool} {g : Nat → Nat → Nat} {c d : Nat} (h : ¬ (g d 0 = c ∧ q d = true)) : cq q g c (d + 1) = cq q g c d := by
  show cq q g c d ++ (if g d 0 = c ∧ q d = true then [d] else []) = _
  rw [if_neg h, List.append_nil]
theorem ca_y {q : Nat → Bool} {g : Nat → Nat → Nat} {sd : Nat → Nat} {side n k : Nat} (h : sd k = side) : ca q g sd side n (k + 1) = ca q g sd side n k ++ cq q g k n := by
  show ca q g sd side n k ++ (if sd k = side then cq q g k n else []) = _
  rw [if_pos h]
theorem ca_n {q : Nat → Bool} {g : Nat → Nat → Nat} {sd : Nat → Nat} {side n k : Nat} (h : ¬ sd k = side) : ca q g sd side n (k + 1) = ca q g sd side n k := by
  show ca q g sd side n k ++ (if sd k = side then cq q g k n else []) = _
  rw [if_neg h, List.append_nil]
theorem cq_mem {q : Nat → Bool} {g : Nat → Nat → Nat} {c : Nat} : ∀ {d e : Nat}, e ∈ cq q g c d → e < d ∧ g e 0 = c ∧ q e = true
  | 0, e, h => absurd h List.not_mem_nil
  | d + 1, e, h => by
    by_cases h1 : g d 0 = c ∧ q d = true
    · rw [cq_y h1] at h
      rcases List.mem_append.1 h with h2 | h2
      · have := cq_mem h2
        exact ⟨by omega, this.2⟩
      · rw [List.mem_singleton.1 h2]
        exact ⟨by omega, h1⟩
    · rw [cq_n h1] at h
      have := cq_mem h
      exact ⟨by omega, this.2⟩
theorem ca_mem {q : Nat → Bool} {g : Nat → Nat → Nat} {sd : Nat → Nat} {side n : Nat} : ∀ {k e : Nat}, e ∈ ca q g sd side n k → e < n ∧ g e 0 < k ∧ q e = true
  | 0, e, h => absurd h List.not_mem_nil
  | k + 1, e, h => by
    by_cases h1 : sd k = side
    · rw [ca_y h1] at h
      rcases List.mem_append.1 h with h2 | h2
      · have := ca_mem h2
        exact ⟨this.1, by omega, this.2.2⟩
      · have := cq_mem h2
        exact ⟨this.1, by omega, this.2.2⟩
    · rw [ca_n h1] at h
      have := ca_mem h
      exact ⟨this.1, by omega, this.2.2⟩
theorem cq_pw (q : Nat → Bool) (g : Nat → Nat → Nat) (c : Nat) : ∀ d, (cq q g c d).Pairwise (fun a b => ¬ a = b)
  | 0 => List.Pairwise.nil
  | d + 1 => by
    by_cases h1 : g d 0 = c ∧ q d = true
    · rw [cq_y h1, List.pairwise_append]
      refine ⟨cq_pw q g c d, List.pairwise_singleton _ _, fun a ha b hb => ?_⟩
      rw [List.mem_singleton.1 hb]
      have := (cq_mem ha).1
      omega
    · rw [cq_n h1]
      exact cq_pw q g c d
theorem ca_pw (q : Nat → Bool) (g : Nat → Nat → Nat) (sd : Nat → Nat) (side n : Nat) : ∀ k, (ca q g sd side n k).Pairwise (fun a b => ¬ a = b)
  | 0 => List.Pairwise.nil
  | k + 1 => by
    by_cases h1 : sd k = side
    · rw [ca_y h1, List.pairwise_append]
      refine ⟨ca_pw q g sd side n k, cq_pw q g k n, fun a ha b hb e => ?_⟩
      subst e
      have h2 := (ca_mem ha).2.1
      have h3 := (cq_mem hb).2.1
      omega
    · rw [ca_n h1]
      exact ca_pw q g sd side n k
theorem nd_ne {A : List Nat} (h : A.Pairwise (fun a b => ¬ a = b)) {i j : Nat} (hi : i < A.length) (hj : j < A.length) (e : nd A i = nd A j) : i = j := by
  have h1 := List.pairwise_iff_getElem.1 h
  have e2 : A[i] = A[j] := by
    unfold nd at e
    rw [List.getD_eq_getElem?_getD, List.getD_eq_getElem?_getD, List.getElem?_eq_getElem hi, List.getElem?_eq_getElem hj] at e
    exact e
  by_cases h2 : i < j
  · exact absurd e2 (h1 i j hi hj h2)
  · by_cases h3 : j < i
    · exact absurd e2.symm (h1 j i hj hi h3)
    · omega
theorem cq_len (q : Nat → Bool) (g : Nat → Nat → Nat) (c : Nat) : ∀ d, (cq q g c d).length = cs q g c (fun _ => 1) d
  | 0 => rfl
  | d + 1 => by
    have ih := cq_len q g c d
    rw [cs_step]
    by_cases h1 : g d 0 = c ∧ q d = true
    · rw [cq_y h1, List.length_append, ih, if_pos h1]
      rfl
    · rw [cq_n h1, ih, if_neg h1, Nat.add_zero]
theorem ca_len (q : Nat → Bool) (g : Nat → Nat → Nat) (sd : Nat → Nat) (side n : Nat) : ∀ k, (ca q g sd side n k).length ≤ sm (fun c => cs q g c (fun _ => 1) n) k
  | 0 => Nat.le_refl _
  | k + 1 => by
    have ih := ca_len q g sd side n k
    show _ ≤ sm (fun c => cs q g c (fun _ => 1) n) k + cs q g k (fun _ => 1) n
    by_cases h1 : sd k = side
    · rw [ca_y h1, List.length_append, cq_len]
      omega
    · rw [ca_n h1]
      omega
theorem ca_len4 (q : Nat → Bool) (g : Nat → Nat → Nat) (sd : Nat → Nat) (side n k : Nat) (hk : k ≤ 4) : (ca q g sd side n k).length ≤ n := by
  have h1 := ca_len q g sd side n k
  have h2 : sm (fun c => cs q g c (fun _ => 1) n) k ≤ sm (fun c => cs q g c (fun _ => 1) n) 4 := sm_mono _ hk
  have h3 := csum q g n
  have h4 : sm (fun c => cs q g c (fun _ => 1) n) 4 = 0 + cs q g 0 (fun _ => 1) n + cs q g 1 (fun _ => 1) n + cs q g 2 (fun _ => 1) n + cs q g 3 (fun _ => 1) n := rfl
  omega
theorem ca_cq_len (q : Nat → Bool) (g : Nat → Nat → Nat) (sd : Nat → Nat) (side n k d : Nat) (hk : k < 4) (hd : d ≤ n) : (ca q g sd side n k ++ cq q g k d).length ≤ n := by
  have h1 := ca_len q g sd side n k
  have h2 : sm (fun c => cs q g c (fun _ => 1) n) (k + 1) ≤ sm (fun c => cs q g c (fun _ => 1) n) 4 := sm_mono _ hk
  have h3 := csum q g n
  have h4 : sm (fun c => cs q g c (fun _ => 1) n) 4 = 0 + cs q g 0 (fun _ => 1) n + cs q g 1 (fun _ => 1) n + cs q g 2 (fun _ => 1) n + cs q g 3 (fun _ => 1) n := rfl
  have h5 : sm (fun c => cs q g c (fun _ => 1) n) (k + 1) = sm (fun c => cs q g c (fun _ => 1) n) k + cs q g k (fun _ => 1) n := rfl
  have h6 : cs q g k (fun _ => 1) d ≤ cs q g k (fun _ => 1) n := sm_mono _ hd
  rw [List.length_append, cq_len]
  omega
/-! ===== the table behind a list of candidates ===== -/
def wor (g : Nat → Nat → Nat) (d i : Nat) : Int := (g d 2 : Int) * 1048576 - (2 ^ i : Nat)
def mor (g : Nat → Nat → Nat) (s : Nat → Nat) (col d : Nat) : Nat → Nat := fun m => ln g (s 1) col d + if m = 0 then 2 else s 3
def stp (g : Nat → Nat → Nat) (s : Nat → Nat) (col : Nat) (σ : Nat × Nat × tT) (d : Nat) : Nat × Nat × tT := (σ.1 + 1, g d 0, tk (s 2) (mor g s col d) (wor g d σ.1) (if σ.2.1 = g d 0 then σ.2.2 else mg σ.2.2))
def fo (g : Nat → Nat → Nat) (s : Nat → Nat) (col : Nat) (A : List Nat) : Nat × Nat × tT := A.foldl (stp g s col) (0, 4, tI)
theorem fo_app (g : Nat → Nat → Nat) (s : Nat → Nat) (col : Nat) (A : List Nat) (d : Nat) : fo g s col (A ++ [d]) = stp g s col (fo g s col A) d := by
  unfold fo
  rw [List.foldl_append]
  rfl
theorem fo_len (g : Nat → Nat → Nat) (s : Nat → Nat) (col : Nat) (A : List Nat) : (fo g s col A).1 = A.length := by
  have h : ∀ (A : List Nat) (σ : Nat × Nat × tT), (A.foldl (stp g s col) σ).1 = σ.1 + A.length := by
    intro A
    induction A with
    | nil => intro σ; rfl
    | cons d t ih =>
      intro σ
      show (t.foldl (stp g s col) (stp g s col σ d)).1 = _
      rw [ih]
      show σ.1 + 1 + t.length = σ.1 + (t.length + 1)
      omega
  have := h A (0, 4, tI)
  rw [Nat.zero_add] at this
  exact this
def WW : Int := 10500000000
theorem wor_b {n : Nat} {g : Nat → Nat → Nat} (hg : okG n g) {d i : Nat} (hd : d < n) (hi : i < 20) : 0 ≤ wor g d i ∧ wor g d i ≤ WW := by
  have h2 : 2 ^ i < 2 ^ 20 := Nat.pow_lt_pow_right (by decide) hi
  have h3 := hg.2.2 d hd
  have h4 := (hg.b (d := d) (by have := hg.1; omega)).2.2.1
  unfold wor WW
  generalize 2 ^ i = y at h2 ⊢
  omega
theorem fo_b {n : Nat} {g : Nat → Nat → Nat} {s : Nat → Nat} (hg : okG n g) (ho : okS s) {col : Nat} {A : List Nat} (hA : ∀ d, d ∈ A → d < n) (hl : A.length ≤ 20) : okT (fo g s col A).2.2 ((A.length : Int) * WW) (s 2) := by
  have h : ∀ (A : List Nat) (σ : Nat × Nat × tT) (b : Int), (∀ d, d ∈ A → d < n) → σ.1 + A.length ≤ 20 → 0 ≤ b → okT σ.2.2 b (s 2) → okT (A.foldl (stp g s col) σ).2.2 (b + (A.length : Int) * WW) (s 2) := by
    intro A
    induction A with
    | nil =>
      intro σ b _ _ _ h
      refine h.up ?_ (Nat.le_refl _)
      show b ≤ b + ((0 : Nat) : Int) * WW
      omega
    | cons d t ih =>
      intro σ b hA hl hb h
      have hlen : (d :: t).length = t.length + 1 := rfl
      rw [hlen] at hl
      have hw := wor_b hg (hA d (List.mem_cons_self ..)) (i := σ.1) (by omega)
      have h1 : okT (if σ.2.1 = g d 0 then σ.2.2 else mg σ.2.2) b (s 2) := by
        split
        · exact h
        · exact (okT_mg h (by omega)).up (Int.le_refl _) (Nat.zero_le _)
      have h2 := okT_tk (mo := mor g s col d) h1 (Nat.le_refl _) hw.1 hb
      have h3 := ih (stp g s col σ d) (b + WW) (fun e he => hA e (List.mem_cons_of_mem _ he)) (by show σ.1 + 1 + t.length ≤ 20; omega) (by unfold WW; omega) (h2.up (by omega) (by split <;> omega))
      refine h3.up ?_ (Nat.le_refl _)
      rw [hlen]
      unfold WW
      omega
  have h1 := h A (0, 4, tI) 0 hA (by show 0 + A.length ≤ 20; omega) (Int.le_refl 0) (okT_I.up (Int.le_refl 0) (Nat.zero_le _))
  rw [Int.zero_add] at h1
  exact h1
theorem fo_cq {q : Nat → Bool} {g : Nat → Nat → Nat} {s : Nat → Nat} {col : Nat} {A : List Nat} {c : Nat} : ∀ {d : Nat}, ¬ (cq q g c d).length = 0 → (fo g s col (A ++ cq q g c d)).2.1 = c
  | 0, h => absurd rfl h
  | d + 1, h => by
    by_cases h1 : g d 0 = c ∧ q d = true
    · rw [cq_y h1, ← List.append_assoc, fo_app]
      exact h1.1
    · rw [cq_n h1] at h ⊢
      exact fo_cq h
theorem fo_ca {q : Nat → Bool} {g : Nat → Nat → Nat} {s sd : Nat → Nat} {col side n : Nat} : ∀ {k : Nat}, (fo g s col (ca q g sd side n k)).2.1 < k ∨ (fo g s col (ca q g sd side n k)).2.1 = 4
  | 0 => Or.inr rfl
  | k + 1 => by
    have ih := fo_ca (q := q) (g := g) (s := s) (sd := sd) (col := col) (side := side) (n := n) (k := k)
    by_cases h1 : sd k = side
    · rw [ca_y h1]
      by_cases h0 : (cq q g k n).length = 0
      · rw [List.eq_nil_of_length_eq_zero h0, List.append_nil]
        omega
      · rw [fo_cq h0]
        omega
    · rw [ca_n h1]
      omega
def relD (A : List Nat) (cand : Nat → Int32) (cnt : Int32) : Prop := cnt = nI A.length ∧ ∀ i, i < A.length → cand i = nI (nd A i)
theorem relD_s {A : List Nat} {cand : Nat → Int32} (h : ∀ i, i < A.length → cand i = nI (nd A i)) (d : Nat) : relD (A ++ [d]) (upd cand A.length (nI d)) (nI (A.length + 1)) := by
  refine ⟨by rw [List.length_append]; rfl, fun i hi => ?_⟩
  rw [List.length_append] at hi
  have hi2 : i < A.length + 1 := hi
  by_cases e : i = A.length
  · subst e
    rw [pk_us, nd_last]
  · rw [pk_un e, nd_in (by omega)]
    exact h i (by omega)
theorem e_minI {a b : Nat} (ha : a < 2 ^ 31) (hb : b < 2 ^ 31) : (if nI a < nI b then nI a else nI b) = nI (if a < b then a else b) := by
  by_cases h : a < b
  · rw [if_pos ((nI_ltI ha hb).2 h), if_pos h]
  · rw [if_neg (fun e => h ((nI_ltI ha hb).1 e)), if_neg h]
theorem mn3 (a b : Nat) : (if a + 1 < b then a + 1 else b) = if (if a < b then a else b) + 1 < b then (if a < b then a else b) + 1 else b := by
  by_cases h1 : a < b
  · rw [if_pos h1]
  · rw [if_neg (show ¬ a + 1 < b by omega), if_neg h1, if_neg (show ¬ b + 1 < b by omega)]
theorem e_isCandidate {v st : Nat → Int32} {n : Nat} {g : Nat → Nat → Nat} {s : Nat → Nat} (hv : ∀ d k, d < 20 → k < 7 → v (d * 7 + k) = nI (g d k)) (hs : ∀ k, k < 6 → st k = nI (s k)) (hg : okG n g) (ho : okS s) {d col : Nat} (hd : d < 20) (hcol : col ≤ 4) {Q : Int32 → Prop} : p_X6_isCandidate v st (nI d) (nI col) Q ↔ (qb g s col d = true → Q (nI 1)) ∧ (¬ qb g s col d = true → Q (nI 0)) := by
  obtain ⟨s0, s1, s2, s3, s4, s5, s6, s7⟩ := ho.b
  obtain ⟨b0, b1, b2, b3, b4, b5, b6⟩ := hg.b hd
  have hdl := dg_le (g d 2)
  unfold p_X6_isCandidate
  simp (disch := omega) only [li_0, li_1, li_2, li_3, li_4, li_5, li_6, li_7, li_8, li_9, li_10, li_11, li_12, li_13, li_14, li_15, li_16, li_20, li_26, li_31, li_32, li_36, li_42, li_43, li_48, li_52, li_57, li_58, li_59, li_60, li_63, li_97, li_99, li_104, li_112, li_115, li_119, li_140, li_141, li_142, li_143, li_144, li_145, li_146, li_147, li_148, li_149, li_150, li_151, li_152, li_255, li_303, li_455, li_999, li_1000, li_1510, li_1820, li_2275, li_9999, li_10000, li_100000, li_1048575, li_100000000, e_setting hs, e_mayBePrinted hv hg, e_valueOf hv, e_digits, nI_eqI, nI_ltI, qb_iff, Nat.one_ne_zero, true_and, and_true, not_true_eq_false, not_false_eq_true, true_imp_iff, false_imp_iff, false_and, and_false, imp_false, Classical.not_not, Bool.false_eq_true, Nat.zero_ne_one, Nat.one_ne_zero, Nat.not_lt_zero, if_true, if_false, implies_true]
  by_cases h1 : mayB g (s 0) (s 5) d = true
  · by_cases h2 : dg (g d 2) ≤ col
    · have h3 : ¬ col < dg (g d 2) := by omega
      simp only [h1, h2, h3, and_self, true_and, and_true, not_true_eq_false, not_false_eq_true, true_imp_iff, false_imp_iff, false_and, and_false, imp_false, Classical.not_not, Bool.false_eq_true, Nat.zero_ne_one, Nat.one_ne_zero, Nat.not_lt_zero, if_true, if_false, implies_true]
    · have h3 : col < dg (g d 2) := by omega
      simp only [h1, h2, h3, true_and, and_true, not_true_eq_false, not_false_eq_true, true_imp_iff, false_imp_iff, false_and, and_false, imp_false, Classical.not_not, Bool.false_eq_true, Nat.zero_ne_one, Nat.one_ne_zero, Nat.not_lt_zero, if_true, if_false, implies_true]
  · simp only [h1, true_and, and_true, not_true_eq_false, not_false_eq_true, true_imp_iff, false_imp_iff, false_and, and_false, imp_false, Classical.not_not, Bool.false_eq_true, Nat.zero_ne_one, Nat.one_ne_zero, Nat.not_lt_zero, if_true, if_false, implies_true]
theorem i_tryCourse {lb : Nat} (hlb : lb ≤ 150) {n : Nat} {g : Nat → Nat → Nat} {s : Nat → Nat} (hg : okG n g) (ho : okS s) {v st : Nat → Int32} (hv : ∀ d k, d < 20 → k < 7 → v (d * 7 + k) = nI (g d k)) (hs : ∀ k, k < 6 → st k = nI (s k)) {col c : Nat} (hcol : col ≤ 4) (hc : c < 4) {A : List Nat} (hA : ∀ d, d ∈ A → d < n) (hl : ∀ d, d ≤ n → (A ++ cq (qb g s col) g c d).length ≤ n) (hpr : ¬ (fo g s col A).2.1 = c) {best : Nat → Nat → Int64} (B : rC lb (mg (fo g s col A).2.2) best) {cand : Nat → Int32} (hcand : ∀ i, i < A.length → cand i = nI (nd A i)) {Q : (Nat → Nat → Int64) → (Nat → Int32) → Int32 → Prop}
    (h : ∀ best' cand' cnt', rC lb (mg (fo g s col (A ++ cq (qb g s col) g c n)).2.2) best' → relD (A ++ cq (qb g s col) g c n) cand' cnt' → Q best' cand' cnt') : p_X6_tryCourse best cand (nI A.length) (nI lb) v st (nI n) (nI c) (nI col) Q := by
  have hn := hg.1
  obtain ⟨s0, s1, s2, s3, s4, s5, s6, s7⟩ := ho.b
  unfold p_X6_tryCourse
  refine (e_setting hs (k := 2) (by decide)).2 ?_
  show p_X6_tryCourse_18 (nI lb) v st (nI n) (nI c) (nI col) (if nI 9 < nI (s 2) then nI 9 else nI (s 2)) Q best cand (nI A.length) (nI 0) (nI 0)
  rw [e_minI (by decide) (by omega), if_neg (by omega)]
  unfold p_X6_tryCourse_18
  refine wl4 (q_X6_tryCourse_18 (nI lb) v st (nI n) (nI c) (nI col) (nI (s 2)) Q) n (by omega) (fun d b cd ct t => ∃ T : tT, rC lb T b ∧ relD (A ++ cq (qb g s col) g c d) cd ct ∧ t = nI (cq (qb g s col) g c d).length ∧ okT T (((A ++ cq (qb g s col) g c d).length : Int) * WW) (if (cq (qb g s col) g c d).length < s 2 then (cq (qb g s col) g c d).length else s 2) ∧ ((cq (qb g s col) g c d).length = 0 → T = mg (fo g s col A).2.2) ∧ (¬ (cq (qb g s col) g c d).length = 0 → T = (fo g s col (A ++ cq (qb g s col) g c d)).2.2)) 0 (by omega) _ _ _ _ ?_ ?_
  · refine ⟨_, B, ?_, rfl, ?_, fun _ => rfl, fun e => absurd rfl e⟩
    · show relD (A ++ []) cand (nI A.length)
      rw [List.append_nil]
      exact ⟨rfl, hcand⟩
    · show okT _ (((A ++ []).length : Int) * WW) _
      rw [List.append_nil]
      have hla : A.length ≤ n := by
        have := hl 0 (Nat.zero_le _)
        rw [List.length_append] at this
        omega
      refine (okT_mg (fo_b hg ho hA (by omega)) ?_).up (Int.le_refl _) (Nat.zero_le _)
      unfold WW
      omega
  rintro K d b cd ct t _ hd ⟨T, hB, ⟨rfl, hcd⟩, rfl, hT, hT0, hT1⟩ hK
  have hlen := hl d hd
  have hcl := cq_len (qb g s col) g c d
  have hcsl : cs (qb g s col) g c (fun _ => 1) d ≤ 1 * d := cs_le (fun _ _ => Nat.le_refl 1)
  have hTB : ∀ n l, -1 ≤ T n l ∧ T n l ≤ BIG := fun n l => by
    have := hT.1 n l
    unfold WW at this
    unfold BIG
    omega
  unfold q_X6_tryCourse_18 p_X3_size
  have e31 : nI (cq (qb g s col) g c d).length + 1 = nI ((cq (qb g s col) g c d).length + 1) := nI_add _ 1
  rw [e31, e_minI (by omega) (by omega), e_minI (by omega) (by omega)]
  dsimp only
  rw [nI_leI (by omega) (by omega)]
  refine ⟨fun hge => ?_, fun hlt => ?_⟩
  · have : d = n := by omega
    subst this
    refine i_endCourse hlb (by split <;> omega) hT hB ?_
    intro b' hb'
    refine h _ _ _ ?_ ⟨rfl, hcd⟩
    by_cases h0 : (cq (qb g s col) g c d).length = 0
    · have hT2 := hT0 h0
      have e0 : A ++ cq (qb g s col) g c d = A := by rw [List.eq_nil_of_length_eq_zero h0, List.append_nil]
      rw [e0]
      have hid : mg T = T := by
        rw [h0] at hT
        exact mg_id (hT.up (Int.le_refl _) (by split <;> omega))
      rw [hid, hT2] at hb'
      exact hb'
    · rw [hT1 h0] at hb'
      exact hb'
  · have hd2 : d < n := by omega
    have hd3 : d < 20 := by omega
    obtain ⟨b0, b1, b2, b3, b4, b5, b6⟩ := hg.b hd3
    refine (e_valueOf hv hd3 (k := 0) (by decide)).2 ?_
    have skip : ¬ (g d 0 = c ∧ qb g s col d = true) → p_X6_tryCourse_118 b cd (nI (A ++ cq (qb g s col) g c d).length) (nI (cq (qb g s col) g c d).length) (nI d) K := by
      intro hno
      unfold p_X6_tryCourse_118
      simp only [li_0, li_1, li_2, li_3, li_4, li_5, li_6, li_7, li_8, li_9, li_10, li_11, li_12, li_13, li_14, li_15, li_16, li_20, li_26, li_31, li_32, li_36, li_42, li_43, li_48, li_52, li_57, li_58, li_59, li_60, li_63, li_97, li_99, li_104, li_112, li_115, li_119, li_140, li_141, li_142, li_143, li_144, li_145, li_146, li_147, li_148, li_149, li_150, li_151, li_152, li_255, li_303, li_455, li_999, li_1000, li_1510, li_1820, li_2275, li_9999, li_10000, li_100000, li_1048575, li_100000000, nI_add]
      refine hK hd2 _ _ _ _ ?_
      rw [cq_n hno]
      exact ⟨T, hB, ⟨rfl, hcd⟩, rfl, hT, hT0, hT1⟩
    show (¬ nI (g d 0) = nI c → _) ∧ (nI (g d 0) = nI c → _)
    rw [nI_eqI (by omega) (by omega)]
    refine ⟨fun e => skip (fun q => e q.1), fun e => ?_⟩
    rw [e_isCandidate hv hs hg ho hd3 hcol]
    refine ⟨fun hq => ⟨fun e0 => absurd e0 (by decide), fun _ => ?_⟩, fun hq => ⟨fun _ => skip (fun q => hq q.2), fun e0 => absurd rfl e0⟩⟩
    have hy : g d 0 = c ∧ qb g s col d = true := ⟨e, hq⟩
    have hlen2 := hl (d + 1) (by omega)
    rw [cq_y hy, ← List.append_assoc, List.length_append] at hlen2
    have hlen3 : (A ++ cq (qb g s col) g c d).length + 1 ≤ n := hlen2
    have hwb := wor_b hg hd2 (i := (A ++ cq (qb g s col) g c d).length) (by omega)
    have htop := tkj_top (mo := mor g s col d) (wo := wor g d (A ++ cq (qb g s col) g c d).length) (lim := s 2) hT (j := if (cq (qb g s col) g c d).length + 1 < s 2 then (cq (qb g s col) g c d).length + 1 else s 2) (mn3 _ _)
    refine i_tryRows hlb hg ho (lim := s 2) (by omega) hv hs hd3 hcol hTB hwb.1 (by unfold WW at hwb; unfold BIG; omega) (by omega) rfl (J := if (cq (qb g s col) g c d).length + 1 < s 2 then (cq (qb g s col) g c d).length + 1 else s 2) (by split <;> omega) ?_ ?_
    · show rC lb (tkj _ (s 2) (mor g s col d) (wor g d (A ++ cq (qb g s col) g c d).length) T) b
      rw [htop]
      exact hB
    · intro b' hb'
      refine hK hd2 _ _ _ _ ?_
      have hcl1 : (cq (qb g s col) g c d ++ [d]).length = (cq (qb g s col) g c d).length + 1 := List.length_append
      have hcl2 : (A ++ (cq (qb g s col) g c d ++ [d])).length = (A ++ cq (qb g s col) g c d).length + 1 := by rw [← List.append_assoc, List.length_append]; rfl
      refine ⟨tk (s 2) (mor g s col d) (wor g d (A ++ cq (qb g s col) g c d).length) T, hb', ?_, ?_, ?_, ?_, ?_⟩
      · rw [cq_y hy, ← List.append_assoc]
        exact relD_s hcd d
      · rw [cq_y hy, hcl1]
      · rw [cq_y hy, hcl1, hcl2]
        have h2 := okT_tk (lim := s 2) (mo := mor g s col d) hT (by split <;> omega) hwb.1 (by unfold WW; omega)
        refine h2.up ?_ ?_
        · unfold WW at hwb ⊢
          omega
        · exact Nat.le_of_eq (mn3 _ _).symm
      · intro h0
        rw [cq_y hy, hcl1] at h0
        omega
      · intro _
        rw [cq_y hy, ← List.append_assoc, fo_app]
        show _ = tk (s 2) (mor g s col d) (wor g d (fo g s col (A ++ cq (qb g s col) g c d)).1) (if (fo g s col (A ++ cq (qb g s col) g c d)).2.1 = g d 0 then (fo g s col (A ++ cq (qb g s col) g c d)).2.2 else mg (fo g s col (A ++ cq (qb g s col) g c d)).2.2)
        rw [fo_len]
        by_cases h0 : (cq (qb g s col) g c d).length = 0
        · have e0 : A ++ cq (qb g s col) g c d = A := by rw [List.eq_nil_of_length_eq_zero h0, List.append_nil]
          rw [hT0 h0, e0, if_neg (by rw [e]; exact hpr)]
        · rw [hT1 h0, if_pos (by rw [fo_cq h0, e])]
/-! ===== the class finds ===== -/
theorem i_find6 {n : Nat} {g : Nat → Nat → Nat} {s sd : Nat → Nat} (hg : okG n g) (ho : okS s) (hw : okW sd) {v st : Nat → Int32} (hv : ∀ d k, d < 20 → k < 7 → v (d * 7 + k) = nI (g d k)) (hs : ∀ k, k < 6 → st k = nI (s k)) {side lines col : Nat} (hside : side ≤ 1) (hlines : lines ≤ 150) (hcol : col ≤ 4) {best : Nat → Nat → Int64} {cand : Nat → Int32} {Q : (Nat → Nat → Int64) → (Nat → Int32) → Int32 → Int32 → Int64 → Prop}
    (h : ∀ best' cand' lb found, (∀ i, i < (ca (qb g s col) g sd side n 4).length → cand' i = nI (nd (ca (qb g s col) g sd side n 4) i)) → found.toInt = phi (mg (fo g s col (ca (qb g s col) g sd side n 4)).2.2 0 lines) → Q best' cand' (nI (ca (qb g s col) g sd side n 4).length) lb found) : p_X6_find best cand v st (nI n) (nI (wy sd)) (nI side) (nI lines) (nI col) Q := by
  have hn := hg.1
  have hwy := wy_lt hw
  unfold p_X6_find
  have e150 : (if (150 : Int32) < nI lines then (150 : Int32) else nI lines) = nI lines := if_neg (fun e => by
    have := (nI_ltI (a := 150) (b := lines) (by omega) (by omega)).1 e
    omega)
  rw [e150]
  refine i_forgetSets hlines ?_
  intro b1 hb1
  refine ⟨vk 0 10, vk 0 151, ?_⟩
  unfold p_X6_find_34
  have hB0 : rC lines (mg (fo g s col []).2.2) (va_up b1 0 (vp_updL (b1 0) 0 1048575)) := by
    show rC lines (mg tI) _
    rw [mg_I]
    intro n l hn hl
    unfold tI
    by_cases e : n = 0
    · subst e
      rw [up_s]
      by_cases e2 : l = 0
      · subst e2
        rw [pk_uLs, if_pos ⟨rfl, rfl⟩]
        decide
      · rw [pk_uLn e2, hb1 0 l (by omega) hl, if_neg (fun q => e2 q.2)]
        rfl
    · rw [up_n e, hb1 n l hn hl, if_neg (fun q => e q.1)]
      rfl
  refine wl3 (q_X6_find_34 v st (nI n) (nI (wy sd)) (nI side) (nI lines) (nI col) (nI lines) Q) 4 (by decide) (fun k b cd ct => rC lines (mg (fo g s col (ca (qb g s col) g sd side n k)).2.2) b ∧ relD (ca (qb g s col) g sd side n k) cd ct) 0 (by omega) _ _ _ ⟨hB0, rfl, fun i hi => absurd hi (Nat.not_lt_zero i)⟩ ?_
  rintro K k b cd ct _ hk ⟨hB, rfl, hcd⟩ hK
  unfold q_X6_find_34
  simp (disch := omega) only [li_0, li_1, li_2, li_3, li_4, li_5, li_6, li_7, li_8, li_9, li_10, li_11, li_12, li_13, li_14, li_15, li_16, li_20, li_26, li_31, li_32, li_36, li_42, li_43, li_48, li_52, li_57, li_58, li_59, li_60, li_63, li_97, li_99, li_104, li_112, li_115, li_119, li_140, li_141, li_142, li_143, li_144, li_145, li_146, li_147, li_148, li_149, li_150, li_151, li_152, li_255, li_303, li_455, li_999, li_1000, li_1510, li_1820, li_2275, li_9999, li_10000, li_100000, li_1048575, li_100000000, nI_leI]
  refine ⟨fun hge => ?_, fun hlt => ?_⟩
  · have : k = 4 := by omega
    subst this
    refine ⟨fun e => absurd trivial e, fun _ => ⟨fun e => absurd e (nI_pos (by omega)), fun _ => ⟨vk 0 10, (vp_t (by omega) (by decide)).2 (by omega), ?_⟩⟩⟩
    unfold p_X6_find_95
    refine h _ _ _ _ hcd ?_
    rw [nI_clamp (n := lines) (by omega)]
    exact hB 0 lines (by omega) (Nat.le_refl _)
  · have hk4 : k < 4 := by omega
    have htb := wy_tb hw hk4
    have hsdk := hw k hk4
    rw [e_sideIn (by omega) (by omega), htb, nI_eqI (by omega) (by omega)]
    unfold p_X6_find_62
    simp only [li_0, li_1, li_2, li_3, li_4, li_5, li_6, li_7, li_8, li_9, li_10, li_11, li_12, li_13, li_14, li_15, li_16, li_20, li_26, li_31, li_32, li_36, li_42, li_43, li_48, li_52, li_57, li_58, li_59, li_60, li_63, li_97, li_99, li_104, li_112, li_115, li_119, li_140, li_141, li_142, li_143, li_144, li_145, li_146, li_147, li_148, li_149, li_150, li_151, li_152, li_255, li_303, li_455, li_999, li_1000, li_1510, li_1820, li_2275, li_9999, li_10000, li_100000, li_1048575, li_100000000, nI_add]
    refine ⟨fun e => hK hk4 _ _ _ ?_, fun e => ?_⟩
    · rw [ca_n e]
      exact ⟨hB, rfl, hcd⟩
    · have hpr : ¬ (fo g s col (ca (qb g s col) g sd side n k)).2.1 = k := by
        have := fo_ca (q := qb g s col) (g := g) (s := s) (sd := sd) (col := col) (side := side) (n := n) (k := k)
        omega
      refine i_tryCourse hlines hg ho hv hs hcol hk4 (fun d hd => (ca_mem hd).1) (fun d hd => ca_cq_len _ g sd side n k d hk4 hd) hpr hB hcd ?_
      intro b' cd' ct' h1 h2
      refine hK hk4 _ _ _ ?_
      rw [ca_y e]
      exact ⟨h1, h2⟩
/-! ===== the reference finds ===== -/

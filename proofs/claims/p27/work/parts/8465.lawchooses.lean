/-! ===== the best set: what its number says ===== -/
def bs (g : Nat → Nat → Nat) (A : List Nat) (b : Nat → Nat) (c k : Nat) : Nat := sm (fun i => if g (nd A i) 0 = c then b i else 0) k
def bpr (g : Nat → Nat → Nat) (A : List Nat) (b : Nat → Nat) (k : Nat) : Nat := sm (fun i => b i * g (nd A i) 2) k
def bm (b : Nat → Nat) (k : Nat) : Nat := mk (fun i => decide (b i = 1)) k
/-- a set among the first k candidates: its value, its dishes of the course c, no course above the limit -/
def ivB (g : Nat → Nat → Nat) (lim : Nat) (A : List Nat) (c k n : Nat) (v : Int) : Prop := ∃ b : Nat → Nat, (∀ i, b i ≤ 1) ∧ v = (bpr g A b k : Int) * 1048576 - (bm b k : Int) ∧ bs g A b c k = n ∧ ∀ c', bs g A b c' k ≤ lim
def bx (b : Nat → Nat) (k x : Nat) : Nat → Nat := fun i => if i < k then b i else x
theorem bx_le {b : Nat → Nat} {k x : Nat} (hb : ∀ i, b i ≤ 1) (hx : x ≤ 1) : ∀ i, bx b k x i ≤ 1 := fun i => by
  unfold bx
  split
  · exact hb i
  · exact hx
theorem bx_l {b : Nat → Nat} {k x i : Nat} (h : i < k) : bx b k x i = b i := if_pos h
theorem bx_k {b : Nat → Nat} {k x : Nat} : bx b k x k = x := if_neg (Nat.lt_irrefl k)
theorem bx_s {g : Nat → Nat → Nat} {A : List Nat} {b : Nat → Nat} {k x c : Nat} : bs g A (bx b k x) c (k + 1) = bs g A b c k + if g (nd A k) 0 = c then x else 0 := by
  have h1 : sm (fun i => if g (nd A i) 0 = c then bx b k x i else 0) k = sm (fun i => if g (nd A i) 0 = c then b i else 0) k := sm_cong (fun i hi => by
    show (if g (nd A i) 0 = c then bx b k x i else 0) = if g (nd A i) 0 = c then b i else 0
    rw [bx_l hi])
  show sm (fun i => if g (nd A i) 0 = c then bx b k x i else 0) k + (if g (nd A k) 0 = c then bx b k x k else 0) = sm (fun i => if g (nd A i) 0 = c then b i else 0) k + _
  rw [h1, bx_k]
theorem bx_p {g : Nat → Nat → Nat} {A : List Nat} {b : Nat → Nat} {k x : Nat} : bpr g A (bx b k x) (k + 1) = bpr g A b k + x * g (nd A k) 2 := by
  have h1 : sm (fun i => bx b k x i * g (nd A i) 2) k = sm (fun i => b i * g (nd A i) 2) k := sm_cong (fun i hi => by
    show bx b k x i * g (nd A i) 2 = b i * g (nd A i) 2
    rw [bx_l hi])
  show sm (fun i => bx b k x i * g (nd A i) 2) k + bx b k x k * g (nd A k) 2 = sm (fun i => b i * g (nd A i) 2) k + _
  rw [h1, bx_k]
theorem bx_m {b : Nat → Nat} {k x : Nat} : bm (bx b k x) (k + 1) = bm b k + if x = 1 then 2 ^ k else 0 := by
  have h1 : mk (fun i => decide (bx b k x i = 1)) k = mk (fun i => decide (b i = 1)) k := mk_cong (fun i hi => by
    show decide (bx b k x i = 1) = decide (b i = 1)
    rw [bx_l hi])
  show mk (fun i => decide (bx b k x i = 1)) k + (if decide (bx b k x k = 1) = true then 2 ^ k else 0) = mk (fun i => decide (b i = 1)) k + _
  rw [h1, bx_k]
  by_cases c : x = 1
  · rw [if_pos c, if_pos (decide_eq_true c)]
  · rw [if_neg c, if_neg (fun q => c (of_decide_eq_true q))]
theorem ivB.no {g : Nat → Nat → Nat} {lim : Nat} {A : List Nat} {c k n : Nat} {v : Int} (h : ivB g lim A c k n v) : ivB g lim A c (k + 1) n v := by
  obtain ⟨b, h1, h2, h3, h4⟩ := h
  have hs : ∀ c', bs g A (bx b k 0) c' (k + 1) = bs g A b c' k := fun c' => by
    rw [bx_s]
    split <;> rfl
  refine ⟨bx b k 0, bx_le h1 (by decide), ?_, ?_, fun c' => ?_⟩
  · rw [bx_p, bx_m, Nat.zero_mul, Nat.add_zero, if_neg (by decide), Nat.add_zero]
    exact h2
  · rw [hs]
    exact h3
  · rw [hs]
    exact h4 c'
theorem ivB.yes {g : Nat → Nat → Nat} {lim : Nat} {A : List Nat} {c k n : Nat} {v : Int} (h : ivB g lim A c k n v) (hc : g (nd A k) 0 = c) (hn : n < lim) : ivB g lim A c (k + 1) (n + 1) (v + wor g (nd A k) k) := by
  obtain ⟨b, h1, h2, h3, h4⟩ := h
  refine ⟨bx b k 1, bx_le h1 (Nat.le_refl _), ?_, ?_, fun c' => ?_⟩
  · rw [bx_p, bx_m, if_pos rfl, Nat.one_mul, h2]
    unfold wor
    generalize 2 ^ k = y
    omega
  · rw [bx_s, if_pos hc, h3]
  · rw [bx_s]
    by_cases e : g (nd A k) 0 = c'
    · rw [if_pos e]
      have e2 : c' = c := e.symm.trans hc
      rw [e2, h3]
      exact hn
    · rw [if_neg e]
      exact h4 c'
theorem mr_some (T : tT) (l : Nat) : ∀ k, ∃ j, mr T l k = T j l
  | 0 => ⟨0, rfl⟩
  | k + 1 => by
    show ∃ j, (if mr T l k < T (k + 1) l then T (k + 1) l else mr T l k) = T j l
    by_cases c : mr T l k < T (k + 1) l
    · rw [if_pos c]
      exact ⟨_, rfl⟩
    · rw [if_neg c]
      exact mr_some T l k
theorem cq_so (q : Nat → Bool) (g : Nat → Nat → Nat) (c : Nat) : ∀ d, (cq q g c d).Pairwise (fun a b => g a 0 ≤ g b 0)
  | 0 => List.Pairwise.nil
  | d + 1 => by
    by_cases h1 : g d 0 = c ∧ q d = true
    · rw [cq_y h1, List.pairwise_append]
      refine ⟨cq_so q g c d, List.pairwise_singleton _ _, fun a ha b hb => ?_⟩
      have e1 := (cq_mem ha).2.1
      have e2 := h1.1
      have e3 := List.mem_singleton.1 hb
      subst e3
      omega
    · rw [cq_n h1]
      exact cq_so q g c d
theorem ca_so (q : Nat → Bool) (g : Nat → Nat → Nat) (sd : Nat → Nat) (side n : Nat) : ∀ k, (ca q g sd side n k).Pairwise (fun a b => g a 0 ≤ g b 0)
  | 0 => List.Pairwise.nil
  | k + 1 => by
    by_cases h1 : sd k = side
    · rw [ca_y h1, List.pairwise_append]
      refine ⟨ca_so q g sd side n k, cq_so q g k n, fun a ha b hb => ?_⟩
      have h2 := (ca_mem ha).2.1
      have h3 := (cq_mem hb).2.1
      omega
    · rw [ca_n h1]
      exact ca_so q g sd side n k
theorem nd_so {g : Nat → Nat → Nat} {A : List Nat} (h : A.Pairwise (fun a b => g a 0 ≤ g b 0)) {i j : Nat} (hij : i < j) (hj : j < A.length) : g (nd A i) 0 ≤ g (nd A j) 0 := by
  have hi : i < A.length := by omega
  have h1 := List.pairwise_iff_getElem.1 h i j hi hj hij
  have e1 : nd A i = A[i] := by
    unfold nd
    rw [List.getD_eq_getElem?_getD, List.getElem?_eq_getElem hi]
    rfl
  have e2 : nd A j = A[j] := by
    unfold nd
    rw [List.getD_eq_getElem?_getD, List.getElem?_eq_getElem hj]
    rfl
  rw [e1, e2]
  exact h1
theorem fo_iv {g : Nat → Nat → Nat} {s : Nat → Nat} {col : Nat} {A : List Nat} (hs : A.Pairwise (fun a b => g a 0 ≤ g b 0)) : ∀ k, k ≤ A.length → (∀ n l, 0 ≤ (fo g s col (A.take k)).2.2 n l → ivB g (s 2) A (fo g s col (A.take k)).2.1 k n ((fo g s col (A.take k)).2.2 n l)) ∧ (fo g s col (A.take k)).1 = k ∧ (0 < k → (fo g s col (A.take k)).2.1 = g (nd A (k - 1)) 0)
  | 0, _ => by
    refine ⟨fun n l h => ?_, rfl, fun hi => absurd hi (Nat.lt_irrefl 0)⟩
    have e : (fo g s col (A.take 0)).2.2 = tI := rfl
    rw [e] at h ⊢
    by_cases c : n = 0 ∧ l = 0
    · have e2 : tI n l = 0 := if_pos c
      rw [e2]
      refine ⟨fun _ => 0, fun _ => Nat.zero_le _, ?_, c.1.symm, fun _ => Nat.zero_le _⟩
      show (0 : Int) = ((0 : Nat) : Int) * 1048576 - ((0 : Nat) : Int)
      omega
    · have e2 : tI n l = -1 := if_neg c
      rw [e2] at h
      omega
  | k + 1, hk => by
    have ih := fo_iv (s := s) (col := col) hs k (by omega)
    rw [nd_take (show k < A.length by omega), fo_app]
    obtain ⟨i1, i2, i3⟩ := ih
    generalize fo g s col (A.take k) = σ at i1 i2 i3 ⊢
    obtain ⟨i0, c, T⟩ := σ
    have i2 : i0 = k := i2
    subst i2
    have i1 : ∀ n l, 0 ≤ T n l → ivB g (s 2) A c i0 n (T n l) := i1
    have i3 : 0 < i0 → c = g (nd A (i0 - 1)) 0 := i3
    have hT0 : ∀ n l, 0 ≤ (if c = g (nd A i0) 0 then T else mg T) n l → ivB g (s 2) A (g (nd A i0) 0) i0 n ((if c = g (nd A i0) 0 then T else mg T) n l) := by
      intro n l
      by_cases e : c = g (nd A i0) 0
      · rw [if_pos e, ← e]
        exact i1 n l
      · rw [if_neg e]
        intro h
        by_cases hn : n = 0
        · have e2 : mg T n l = mr T l 9 := if_pos hn
          rw [e2] at h ⊢
          obtain ⟨j, ej⟩ := mr_some T l 9
          rw [ej] at h ⊢
          obtain ⟨b, b1, b2, b3, b4⟩ := i1 j l h
          refine ⟨b, b1, b2, ?_, b4⟩
          rw [hn]
          refine sm_zero (fun i hi => if_neg (fun q => ?_))
          have hc := i3 (by omega)
          have s1 := nd_so hs (show i0 - 1 < i0 by omega) (show i0 < A.length by omega)
          have s2 : g (nd A i) 0 ≤ g (nd A (i0 - 1)) 0 := by
            by_cases e3 : i = i0 - 1
            · exact Nat.le_of_eq (by rw [e3])
            · exact nd_so hs (by omega) (by omega)
          omega
        · have e2 : mg T n l = -1 := if_neg hn
          rw [e2] at h
          omega
    have hstp : stp g s col (i0, c, T) (nd A i0) = (i0 + 1, g (nd A i0) 0, tk (s 2) (mor g s col (nd A i0)) (wor g (nd A i0) i0) (if c = g (nd A i0) 0 then T else mg T)) := rfl
    rw [hstp]
    generalize (if c = g (nd A i0) 0 then T else mg T) = T0 at hT0 ⊢
    refine ⟨fun n l h => ?_, rfl, fun _ => rfl⟩
    have key : ∀ v, v = tk (s 2) (mor g s col (nd A i0)) (wor g (nd A i0) i0) T0 n l → 0 ≤ v → ivB g (s 2) A (g (nd A i0) 0) (i0 + 1) n v := by
      intro v hv hp
      unfold tk at hv
      by_cases e0 : n = 0
      · rw [if_pos e0] at hv
        subst hv
        rw [e0]
        exact (hT0 0 l hp).no
      · rw [if_neg e0] at hv
        split at hv
        · rename_i e1
          subst hv
          have := (hT0 (n - 1) _ e1.2.2.1).yes rfl e1.1
          rw [show n - 1 + 1 = n by omega] at this
          exact this
        · subst hv
          exact (hT0 n l hp).no
    exact key _ rfl h
theorem cnd_len {m : aM} (hm : okM m) (t col : Nat) : (cnd m t col).length ≤ 20 := Nat.le_trans (ca_len4 _ _ _ _ _ 4 (Nat.le_refl 4)) hm.n
theorem cnd_pw (m : aM) (t col : Nat) : (cnd m t col).Pairwise (fun a b => ¬ a = b) := ca_pw _ _ _ _ _ _
theorem cnd_nd {m : aM} {t col i : Nat} (hi : i < (cnd m t col).length) : nd (cnd m t col) i < m.1 := (ca_mem (nd_mem hi)).1
theorem chs_le (m : aM) (t l col i : Nat) : chs m t l col i ≤ 1 := Nat.sub_le 1 _
theorem fnd_iv {m : aM} {t l col : Nat} (h : 0 ≤ fnd m t l col) : ∃ b : Nat → Nat, (∀ i, b i ≤ 1) ∧ fnd m t l col = (bpr m.2.1 (cnd m t col) b (cnd m t col).length : Int) * 1048576 - (bm b (cnd m t col).length : Int) ∧ ∀ c, bs m.2.1 (cnd m t col) b c (cnd m t col).length ≤ m.2.2.1 2 := by
  have hso : (cnd m t col).Pairwise (fun a b => m.2.1 a 0 ≤ m.2.1 b 0) := ca_so _ _ _ _ _ _
  obtain ⟨i1, _, _⟩ := fo_iv (s := m.2.2.1) (col := col) hso (cnd m t col).length (Nat.le_refl _)
  rw [List.take_length] at i1
  have e : fnd m t l col = mr (fo m.2.1 m.2.2.1 col (cnd m t col)).2.2 l 9 := rfl
  obtain ⟨j, ej⟩ := mr_some (fo m.2.1 m.2.2.1 col (cnd m t col)).2.2 l 9
  rw [e, ej] at h
  obtain ⟨b, b1, b2, _, b4⟩ := i1 j l h
  exact ⟨b, b1, (e.trans ej).trans b2, b4⟩
theorem fnd_chs {m : aM} (hm : okM m) {t l col : Nat} (h : 0 ≤ fnd m t l col) : fnN m t l col / 2 ^ 20 = bpr m.2.1 (cnd m t col) (chs m t l col) (cnd m t col).length ∧ ∀ c, bs m.2.1 (cnd m t col) (chs m t l col) c (cnd m t col).length ≤ m.2.2.1 2 := by
  obtain ⟨b, b1, b2, b4⟩ := fnd_iv h
  have hl := cnd_len hm t col
  have hM : bm b (cnd m t col).length < 1048576 := mk_lt31 _ hl
  generalize hP : bpr m.2.1 (cnd m t col) b (cnd m t col).length = P at b2
  have e : fnN m t l col = P * 1048576 + (1048575 - bm b (cnd m t col).length) := by
    unfold fnN
    rw [b2]
    omega
  have e1 : fnN m t l col / 2 ^ 20 = P := by
    rw [e]
    omega
  have e2 : ∀ i, i < (cnd m t col).length → chs m t l col i = b i := by
    intro i hi
    unfold chs
    rw [← tb_compl (by omega), e, show 1048575 - (P * 1048576 + (1048575 - bm b (cnd m t col).length)) % 1048576 = bm b (cnd m t col).length by omega]
    have h1 : tb (bm b (cnd m t col).length) i = 1 ↔ i < (cnd m t col).length ∧ decide (b i = 1) = true := mk_tb1
    have h2 := tb_lt (bm b (cnd m t col).length) i
    have h3 := b1 i
    by_cases c : b i = 1
    · rw [c]
      exact h1.2 ⟨hi, decide_eq_true c⟩
    · have : ¬ tb (bm b (cnd m t col).length) i = 1 := fun q => c (of_decide_eq_true (h1.1 q).2)
      omega
  refine ⟨?_, fun c => ?_⟩
  · rw [e1, ← hP]
    exact sm_cong (fun i hi => by
      show b i * m.2.1 (nd (cnd m t col) i) 2 = chs m t l col i * m.2.1 (nd (cnd m t col) i) 2
      rw [e2 i hi])
  · have e3 : bs m.2.1 (cnd m t col) (chs m t l col) c (cnd m t col).length = bs m.2.1 (cnd m t col) b c (cnd m t col).length := sm_cong (fun i hi => by
      show (if m.2.1 (nd (cnd m t col) i) 0 = c then chs m t l col i else 0) = if m.2.1 (nd (cnd m t col) i) 0 = c then b i else 0
      rw [e2 i hi])
    rw [e3]
    exact b4 c
/-! ===== sums over the set's dishes ===== -/
theorem so_sum {A : List Nat} (hA : A.Pairwise (fun a b => ¬ a = b)) {b : Nat → Nat} (hb : ∀ i, b i ≤ 1) {n : Nat} (hn : ∀ i, i < A.length → nd A i < n) (f : Nat → Nat) : ∀ k, k ≤ A.length → sm (fun d => if tb (so A b k) d = 1 then f d else 0) n = sm (fun i => b i * f (nd A i)) k
  | 0, _ => sm_zero (fun d _ => if_neg (fun q => by
    have e := tb_zero d
    have q : tb 0 d = 1 := q
    omega))
  | k + 1, hk => by
    have ih := so_sum hA hb hn f k (by omega)
    have hkA := hn k (by omega)
    have h1 : ∀ d, tb (so A b (k + 1)) d = 1 ↔ tb (so A b k) d = 1 ∨ (b k = 1 ∧ nd A k = d) := by
      intro d
      rw [so_tb, so_tb]
      constructor
      · rintro ⟨i, h1, h2, h3⟩
        by_cases e : i = k
        · subst e
          exact Or.inr ⟨h2, h3⟩
        · exact Or.inl ⟨i, by omega, h2, h3⟩
      · rintro (⟨i, h1, h2, h3⟩ | ⟨h2, h3⟩)
        · exact ⟨i, by omega, h2, h3⟩
        · exact ⟨k, by omega, h2, h3⟩
    have hnot : ¬ tb (so A b k) (nd A k) = 1 := by
      rw [so_tb]
      rintro ⟨i, q1, q2, q3⟩
      have := nd_ne hA (by omega) (by omega) q3
      omega
    have h2 : ∀ d, (if tb (so A b (k + 1)) d = 1 then f d else 0) = (if tb (so A b k) d = 1 then f d else 0) + (if d = nd A k then b k * f d else 0) := by
      intro d
      by_cases e : d = nd A k
      · rw [if_pos e, e, if_neg hnot, Nat.zero_add]
        by_cases c : b k = 1
        · rw [if_pos ((h1 _).2 (Or.inr ⟨c, rfl⟩)), c, Nat.one_mul]
        · have := hb k
          rw [if_neg (fun q => ((h1 _).1 q).elim hnot (fun q => c q.1)), show b k = 0 by omega, Nat.zero_mul]
      · rw [if_neg (show ¬ d = nd A k from e)]
        by_cases c : tb (so A b k) d = 1
        · rw [if_pos c, if_pos ((h1 d).2 (Or.inl c))]
          rfl
        · rw [if_neg c, if_neg (fun q => ((h1 d).1 q).elim c (fun q => e q.2.symm))]
    have h3 : sm (fun d => if d = nd A k then b k * f d else 0) n = b k * f (nd A k) := by
      rw [sm_one hkA (fun j _ hj => if_neg hj)]
      exact if_pos rfl
    have h4 : sm (fun d => if tb (so A b (k + 1)) d = 1 then f d else 0) n = sm (fun d => (if tb (so A b k) d = 1 then f d else 0) + (if d = nd A k then b k * f d else 0)) n := sm_cong (fun d _ => h2 d)
    have h5 : sm (fun d => (if tb (so A b k) d = 1 then f d else 0) + (if d = nd A k then b k * f d else 0)) n = sm (fun d => if tb (so A b k) d = 1 then f d else 0) n + sm (fun d => if d = nd A k then b k * f d else 0) n := sm_add _ _ n
    rw [h4, h5, h3, ih]
    rfl
/-! ===== what choosing leaves alone ===== -/
theorem qb_cg {g g' : Nat → Nat → Nat} (h : ∀ d k, ¬ k = 6 → g' d k = g d k) (s : Nat → Nat) (col : Nat) : qb g' s col = qb g s col := by
  funext d
  unfold qb mayB
  rw [h d 3 (by decide), h d 4 (by decide), h d 2 (by decide)]
theorem cq_cg {g g' : Nat → Nat → Nat} (h : ∀ d k, ¬ k = 6 → g' d k = g d k) (q : Nat → Bool) (c : Nat) : ∀ d, cq q g' c d = cq q g c d
  | 0 => rfl
  | d + 1 => by
    show cq q g' c d ++ (if g' d 0 = c ∧ q d = true then [d] else []) = cq q g c d ++ (if g d 0 = c ∧ q d = true then [d] else [])
    rw [cq_cg h q c d, h d 0 (by decide)]
theorem ca_cg {g g' : Nat → Nat → Nat} (h : ∀ d k, ¬ k = 6 → g' d k = g d k) (q : Nat → Bool) (sd : Nat → Nat) (side n : Nat) : ∀ k, ca q g' sd side n k = ca q g sd side n k
  | 0 => rfl
  | k + 1 => by
    show ca q g' sd side n k ++ (if sd k = side then cq q g' k n else []) = ca q g sd side n k ++ (if sd k = side then cq q g k n else [])
    rw [ca_cg h q sd side n k, cq_cg h q k n]
theorem fo_cg {g g' : Nat → Nat → Nat} (h : ∀ d k, ¬ k = 6 → g' d k = g d k) (s : Nat → Nat) (col : Nat) (A : List Nat) : fo g' s col A = fo g s col A := by
  have e : stp g' s col = stp g s col := by
    funext σ d
    have e1 : mor g' s col d = mor g s col d := by
      funext m
      unfold mor ln tx
      rw [h d 1 (by decide), h d 4 (by decide)]
    have e2 : ∀ i, wor g' d i = wor g d i := fun i => by
      unfold wor
      rw [h d 2 (by decide)]
    unfold stp
    rw [e1, e2, h d 0 (by decide)]
  unfold fo
  rw [e]
theorem gu_o {g : Nat → Nat → Nat} {A : List Nat} {b : Nat → Nat} {d k : Nat} (hk : ¬ k = 6) : ∀ i, gu g A b i d k = g d k
  | 0 => rfl
  | i + 1 => by
    show (if d = nd A i ∧ k = 6 then b i else gu g A b i d k) = g d k
    rw [if_neg (fun q => hk q.2)]
    exact gu_o hk i
theorem gu_i {g : Nat → Nat → Nat} {A : List Nat} (hA : A.Pairwise (fun a b => ¬ a = b)) {b : Nat → Nat} : ∀ {k i : Nat}, k ≤ A.length → i < k → gu g A b k (nd A i) 6 = b i
  | 0, i, _, h => absurd h (Nat.not_lt_zero i)
  | k + 1, i, hk, hi => by
    show (if nd A i = nd A k ∧ 6 = 6 then b k else gu g A b k (nd A i) 6) = b i
    by_cases e : i = k
    · subst e
      exact if_pos ⟨rfl, rfl⟩
    · rw [if_neg (fun q => e (nd_ne hA (by omega) (by omega) q.1))]
      exact gu_i hA (by omega) (by omega)
theorem set_o (m : aM) (t l col : Nat) : ∀ d k, ¬ k = 6 → (mSet m t l col).2.1 d k = m.2.1 d k := fun _ _ hk => gu_o hk _
theorem set_cnd (m : aM) (t l col : Nat) : cnd (mSet m t l col) t col = cnd m t col := by
  have h := set_o m t l col
  have e1 : cnd (mSet m t l col) t col = ca (qb (mSet m t l col).2.1 m.2.2.1 col) (mSet m t l col).2.1 m.2.2.2 t m.1 4 := rfl
  rw [e1, qb_cg h, ca_cg h]
  rfl
theorem set_fnd (m : aM) (t l col : Nat) : fnd (mSet m t l col) t l col = fnd m t l col := by
  have e1 : fnd (mSet m t l col) t l col = mg (fo (mSet m t l col).2.1 m.2.2.1 col (cnd (mSet m t l col) t col)).2.2 0 l := rfl
  rw [e1, set_cnd, fo_cg (set_o m t l col)]
  rfl
theorem set_chs (m : aM) (t l col : Nat) : chs (mSet m t l col) t l col = chs m t l col := by
  funext i
  unfold chs fnN
  rw [set_fnd]
/-! ===== who is a candidate ===== -/
theorem cq_in {q : Nat → Bool} {g : Nat → Nat → Nat} {c : Nat} : ∀ {d e : Nat}, e < d → g e 0 = c → q e = true → e ∈ cq q g c d
  | 0, e, h, _, _ => absurd h (Nat.not_lt_zero e)
  | d + 1, e, h, h1, h2 => by
    by_cases e1 : e = d
    · subst e1
      rw [cq_y ⟨h1, h2⟩]
      exact List.mem_append.2 (Or.inr (List.mem_singleton.2 rfl))
    · show e ∈ cq q g c d ++ (if g d 0 = c ∧ q d = true then [d] else [])
      exact List.mem_append.2 (Or.inl (cq_in (by omega) h1 h2))
theorem ca_in {q : Nat → Bool} {g : Nat → Nat → Nat} {sd : Nat → Nat} {side n : Nat} : ∀ {k e : Nat}, e < n → g e 0 < k → sd (g e 0) = side → q e = true → e ∈ ca q g sd side n k
  | 0, e, _, h, _, _ => absurd h (Nat.not_lt_zero _)
  | k + 1, e, h0, h1, h2, h3 => by
    show e ∈ ca q g sd side n k ++ (if sd k = side then cq q g k n else [])
    by_cases e1 : g e 0 = k
    · have h4 : sd k = side := by
        rw [← e1]
        exact h2
      rw [if_pos h4]
      exact List.mem_append.2 (Or.inr (cq_in h0 e1 h3))
    · exact List.mem_append.2 (Or.inl (ca_in h0 (by omega) h2 h3))
theorem ca_sd {q : Nat → Bool} {g : Nat → Nat → Nat} {sd : Nat → Nat} {side n : Nat} : ∀ {k e : Nat}, e ∈ ca q g sd side n k → sd (g e 0) = side
  | 0, e, h => absurd h List.not_mem_nil
  | k + 1, e, h => by
    by_cases h1 : sd k = side
    · rw [ca_y h1] at h
      rcases List.mem_append.1 h with h2 | h2
      · exact ca_sd h2
      · rw [(cq_mem h2).2.1]
        exact h1
    · rw [ca_n h1] at h
      exact ca_sd h
theorem mem_nd {A : List Nat} {e : Nat} (h : e ∈ A) : ∃ i, i < A.length ∧ nd A i = e := by
  obtain ⟨i, hi, e1⟩ := List.mem_iff_getElem.1 h
  refine ⟨i, hi, ?_⟩
  unfold nd
  rw [List.getD_eq_getElem?_getD, List.getElem?_eq_getElem hi]
  exact e1
theorem sm_le2 {f g : Nat → Nat} : ∀ {n : Nat}, (∀ k, k < n → f k ≤ g k) → sm f n ≤ sm g n
  | 0, _ => Nat.le_refl _
  | n + 1, h => by
    show sm f n + f n ≤ sm g n + g n
    exact Nat.add_le_add (sm_le2 (fun k hk => h k (by omega))) (h n (by omega))
/-- a dish of the set behind the choice: printed, or but for the limit; printed if every price has room -/
theorem set_why {m : aM} (hm : okM m) {t l col : Nat} (hf : 0 ≤ fnd m t l col) {d : Nat} (hd : d < m.1) (h : tb (so (cnd m t col) (chs m t l col) (cnd m t col).length) d = 1) : (whm (mSet m t l col) d = 0 ∨ whm (mSet m t l col) d = 4) ∧ (col = 4 → whm (mSet m t l col) d = 0) := by
  have hA := cnd_pw m t col
  obtain ⟨i, hi, hb, hd2⟩ := so_tb.1 h
  have hmem : d ∈ cnd m t col := by
    rw [← hd2]
    exact nd_mem hi
  have hcm := ca_mem hmem
  have hqb := qb_iff.1 hcm.2.2
  have hmb := mayB_iff.1 hqb.1
  have e6 : (mSet m t l col).2.1 d 6 = 1 := by
    rw [← hd2]
    exact (gu_i hA (Nat.le_refl _) hi).trans hb
  have h3 : tb ((mSet m t l col).2.1 d 3) ((mSet m t l col).2.2.1 0) = 1 := by
    rw [set_o m t l col d 3 (by decide)]
    exact hmb.1
  have h4 : (mSet m t l col).2.1 d 4 &&& (mSet m t l col).2.2.1 5 = 0 := by
    rw [set_o m t l col d 4 (by decide)]
    exact hmb.2
  have hw : whm (mSet m t l col) d = if prm (mSet m t l col) d = true then 0 else 4 := by
    unfold whm
    rw [if_neg (fun q => q e6), if_neg (fun q => q h3), if_neg (fun q => q h4)]
  refine ⟨?_, fun hc => ?_⟩
  · rw [hw]
    split
    · exact Or.inl rfl
    · exact Or.inr rfl
  · subst hc
    have hp : prm (mSet m t l 4) d = true := by
      refine prt_iff.2 ⟨elg_iff.2 ⟨e6, mayB_iff.2 ⟨h3, h4⟩⟩, ?_⟩
      have hB := (fnd_chs hm hf).2 (m.2.1 d 0)
      have hS := so_sum hA (chs_le m t l 4) (fun i hi => cnd_nd hi) (fun k => if m.2.1 k 0 = m.2.1 d 0 then 1 else 0) (cnd m t 4).length (Nat.le_refl _)
      have hR : sm (fun i => chs m t l 4 i * (if m.2.1 (nd (cnd m t 4) i) 0 = m.2.1 d 0 then 1 else 0)) (cnd m t 4).length = bs m.2.1 (cnd m t 4) (chs m t l 4) (m.2.1 d 0) (cnd m t 4).length := sm_cong (fun i _ => by
        show chs m t l 4 i * (if m.2.1 (nd (cnd m t 4) i) 0 = m.2.1 d 0 then 1 else 0) = if m.2.1 (nd (cnd m t 4) i) 0 = m.2.1 d 0 then chs m t l 4 i else 0
        by_cases c : m.2.1 (nd (cnd m t 4) i) 0 = m.2.1 d 0
        · rw [if_pos c, if_pos c, Nat.mul_one]
        · rw [if_neg c, if_neg c, Nat.mul_zero])
      have g1 := sm_mono (fun k => if tb (so (cnd m t 4) (chs m t l 4) (cnd m t 4).length) k = 1 then (if m.2.1 k 0 = m.2.1 d 0 then 1 else 0) else 0) (a := d + 1) (b := m.1) hd
      have g2 : sm (fun k => if tb (so (cnd m t 4) (chs m t l 4) (cnd m t 4).length) k = 1 then (if m.2.1 k 0 = m.2.1 d 0 then 1 else 0) else 0) (d + 1) = sm (fun k => if tb (so (cnd m t 4) (chs m t l 4) (cnd m t 4).length) k = 1 then (if m.2.1 k 0 = m.2.1 d 0 then 1 else 0) else 0) d + 1 := by
        show sm (fun k => if tb (so (cnd m t 4) (chs m t l 4) (cnd m t 4).length) k = 1 then (if m.2.1 k 0 = m.2.1 d 0 then 1 else 0) else 0) d + (if tb (so (cnd m t 4) (chs m t l 4) (cnd m t 4).length) d = 1 then (if m.2.1 d 0 = m.2.1 d 0 then 1 else 0) else 0) = _
        rw [if_pos h, if_pos rfl]
      have g3 : ah (mSet m t l 4).2.1 ((mSet m t l 4).2.2.1 0) ((mSet m t l 4).2.2.1 5) ((mSet m t l 4).2.1 d 0) d ≤ sm (fun k => if tb (so (cnd m t 4) (chs m t l 4) (cnd m t 4).length) k = 1 then (if m.2.1 k 0 = m.2.1 d 0 then 1 else 0) else 0) d := by
        refine sm_le2 (fun k hk => ?_)
        show (if (mSet m t l 4).2.1 k 0 = (mSet m t l 4).2.1 d 0 ∧ elg (mSet m t l 4).2.1 ((mSet m t l 4).2.2.1 0) ((mSet m t l 4).2.2.1 5) k = true then 1 else 0) ≤ (if tb (so (cnd m t 4) (chs m t l 4) (cnd m t 4).length) k = 1 then (if m.2.1 k 0 = m.2.1 d 0 then 1 else 0) else 0)
        by_cases c : (mSet m t l 4).2.1 k 0 = (mSet m t l 4).2.1 d 0 ∧ elg (mSet m t l 4).2.1 ((mSet m t l 4).2.2.1 0) ((mSet m t l 4).2.2.1 5) k = true
        · obtain ⟨c1, c2⟩ := c
          obtain ⟨c3, c4⟩ := elg_iff.1 c2
          obtain ⟨c5, c6⟩ := mayB_iff.1 c4
          rw [set_o m t l 4 k 0 (by decide), set_o m t l 4 d 0 (by decide)] at c1
          rw [set_o m t l 4 k 3 (by decide)] at c5
          rw [set_o m t l 4 k 4 (by decide)] at c6
          have hk2 : k ∈ cnd m t 4 := by
            refine ca_in (by omega) (by rw [c1]; exact hcm.2.1) ?_ (qb_iff.2 ⟨mayB_iff.2 ⟨c5, c6⟩, dg_le _⟩)
            rw [c1]
            exact ca_sd hmem
          obtain ⟨j, hj, ej⟩ := mem_nd hk2
          have c7 : chs m t l 4 j = 1 := by
            rw [← ej] at c3
            exact (gu_i hA (Nat.le_refl _) hj).symm.trans c3
          rw [if_pos (so_tb.2 ⟨j, hj, c7, ej⟩), if_pos c1]
          split <;> decide
        · rw [if_neg c]
          exact Nat.zero_le _
      have e : (mSet m t l 4).2.2.1 2 = m.2.2.1 2 := rfl
      have hS : sm (fun k => if tb (so (cnd m t 4) (chs m t l 4) (cnd m t 4).length) k = 1 then (if m.2.1 k 0 = m.2.1 d 0 then 1 else 0) else 0) m.1 = bs m.2.1 (cnd m t 4) (chs m t l 4) (m.2.1 d 0) (cnd m t 4).length := hS.trans hR
      rw [hS, g2] at g1
      rw [e]
      omega
    rw [hw, if_pos hp]
theorem n99 {x : Nat} (hx : x < 2 ^ 31) : ¬ nI x = (-99 : Int32) := by
  intro q
  have h1 := nI_toInt (n := x) (by omega)
  have h2 : (-99 : Int32).toInt = -99 := by decide
  rw [q, h2] at h1
  omega
/-! ===== the law's choice ===== -/
theorem l_chooses {o : aO} (hm : okM o.1.1) (hl : o.2.length ≤ 5) {a : Int32} {Q : Int32 → aO → Prop} (h : ∀ o', Q 1 o') : p_L_chooses o a Q := by
  have hn := hm.n
  unfold p_L_chooses
  refine l_low 2 (by decide) (by decide) (fun ht => ?_)
  generalize lowN a 2 = t at ht
  refine l_low 30 (by decide) (by decide) (fun hli => ?_)
  generalize lowN (a >>> (2 &&& 31)) 30 = l at hli
  refine l_low 4 (by decide) (by decide) (fun hc => ?_)
  generalize lowN (a >>> (6 &&& 31)) 4 = c0 at hc
  rw [show (1 : Int32) + nI c0 = nI (1 + c0) from nI_add 1 c0]
  have hc1 : 1 ≤ 1 + c0 := by omega
  have hc4 : 1 + c0 ≤ 4 := by omega
  generalize 1 + c0 = col at hc1 hc4
  have ht1 : t ≤ 1 := by omega
  have hl1 : l ≤ 150 := by omega
  intro r1 h1 r2 h2
  have k1 := h1.1 t l col ht1 hl1 hc1 hc4 rfl rfl rfl
  have k2 := h2.1 t l col ht1 hl1 hc1 hc4 rfl rfl rfl
  clear h1 h2
  by_cases hf : fnd o.1.1 t l col < 0
  · have e1 : r1 = -nI 99 := k1.1 hf (Or.inl rfl)
    have e2 : r2 = -nI 99 := k2.1 hf (Or.inr (Or.inr rfl))
    subst e1 e2
    refine ⟨fun _ => ?_, fun q => absurd rfl q⟩
    unfold p_L_chooses_63
    refine ⟨fun q => absurd rfl q, fun _ => ?_⟩
    intro r3 o3 h3
    obtain ⟨e3, e4⟩ := (h3.1 t l col ht1 hl1 hc1 hc4 rfl rfl rfl).1 hf
    have e4 := e4.symm
    subst e3 e4
    exact ⟨fun q => absurd rfl q, fun _ => h _⟩
  · have hf : 0 ≤ fnd o.1.1 t l col := by omega
    have hF := (fnd_chs hm hf).1
    have e1 : r1 = nI (fnN o.1.1 t l col / 2 ^ 20) := (k1.2 hf).1 (Or.inl rfl)
    have e2 : r2 = nI (so (cnd o.1.1 t col) (chs o.1.1 t l col) (cnd o.1.1 t col).length) := (k2.2 hf).2 rfl
    rw [hF] at e1
    subst e1 e2
    clear k1 k2
    have hA := cnd_pw o.1.1 t col
    have hlen := cnd_len hm t col
    have hA20 : ∀ i, i < (cnd o.1.1 t col).length → nd (cnd o.1.1 t col) i < o.1.1.1 := fun i hi => cnd_nd hi
    have hso : so (cnd o.1.1 t col) (chs o.1.1 t l col) (cnd o.1.1 t col).length < 2 ^ 20 := so_lt (fun i hi => by
      have := hA20 i hi
      omega)
    have hPb : bpr o.1.1.2.1 (cnd o.1.1 t col) (chs o.1.1 t l col) (cnd o.1.1 t col).length < 2 ^ 31 := by
      have q : bpr o.1.1.2.1 (cnd o.1.1 t col) (chs o.1.1 t l col) (cnd o.1.1 t col).length ≤ 9999 * (cnd o.1.1 t col).length := sm_le (fun i hi => by
        show chs o.1.1 t l col i * o.1.1.2.1 (nd (cnd o.1.1 t col) i) 2 ≤ 9999
        have q1 := chs_le o.1.1 t l col i
        have q2 := (hm.1.b (d := nd (cnd o.1.1 t col) i) (by have := hA20 i hi; omega)).2.2.1
        have q3 := Nat.mul_le_mul q1 q2
        omega)
      omega
    have hsum := so_sum hA (chs_le o.1.1 t l col) hA20 (fun d => o.1.1.2.1 d 2) (cnd o.1.1 t col).length (Nat.le_refl _)
    have hsum : sm (fun d => if tb (so (cnd o.1.1 t col) (chs o.1.1 t l col) (cnd o.1.1 t col).length) d = 1 then o.1.1.2.1 d 2 else 0) o.1.1.1 = bpr o.1.1.2.1 (cnd o.1.1 t col) (chs o.1.1 t l col) (cnd o.1.1 t col).length := hsum
    have hsid : ∀ d, tb (so (cnd o.1.1 t col) (chs o.1.1 t l col) (cnd o.1.1 t col).length) d = 1 → o.1.1.2.2.2 (o.1.1.2.1 d 0) = t := by
      intro d q
      obtain ⟨i, hi, _, hd2⟩ := so_tb.1 q
      rw [← hd2]
      exact ca_sd (nd_mem hi)
    have hwhy : ∀ d, d < o.1.1.1 → tb (so (cnd o.1.1 t col) (chs o.1.1 t l col) (cnd o.1.1 t col).length) d = 1 → (whm (mSet o.1.1 t l col) d = 0 ∨ whm (mSet o.1.1 t l col) d = 4) ∧ (col = 4 → whm (mSet o.1.1 t l col) d = 0) := fun d hd q => set_why hm hf hd q
    have hset : so (cnd (mSet o.1.1 t l col) t col) (chs (mSet o.1.1 t l col) t l col) (cnd (mSet o.1.1 t l col) t col).length = so (cnd o.1.1 t col) (chs o.1.1 t l col) (cnd o.1.1 t col).length := by
      rw [set_cnd, set_chs]
    have hf2 : 0 ≤ fnd (mSet o.1.1 t l col) t l col := by
      rw [set_fnd]
      exact hf
    generalize so (cnd o.1.1 t col) (chs o.1.1 t l col) (cnd o.1.1 t col).length = SS at hso hsum hsid hwhy hset ⊢
    generalize bpr o.1.1.2.1 (cnd o.1.1 t col) (chs o.1.1 t l col) (cnd o.1.1 t col).length = PP at hF hPb hsum ⊢
    have hbit : ∀ k, k < 20 → ((nI SS >>> (nI k &&& 31)) &&& 1) = nI (tb SS k) := by
      intro k hk
      rw [li_31, li_1]
      exact e_bit (by omega) (by omega)
    refine ⟨fun q => absurd q (n99 hPb), fun _ => ⟨fun _ => ?_, fun q => absurd q (n99 (by omega))⟩⟩
    have p214 : p_L_chooses_214 a (oAct o (mSet o.1.1 t l col)) (nI t) (nI l) (nI col) (nI SS) Q 0 := by
      unfold p_L_chooses_214
      refine wl0 (q_L_chooses_214 a (oAct o (mSet o.1.1 t l col)) (nI t) (nI l) (nI col) (nI SS) Q) o.1.1.1 (by omega) (fun _ => True) 0 (Nat.zero_le _) trivial ?_
      intro K k _ hk _ hK
      unfold q_L_chooses_214
      intro r hr
      have e : r = nI o.1.1.1 := hr.1 0 (by decide) (by decide) rfl
      subst e
      rw [nI_leI (by omega) (by omega)]
      refine ⟨fun _ => ?_, fun hlt => ?_⟩
      · intro r1 h1
        have e1 : r1 = nI (so (cnd (mSet o.1.1 t l col) t col) (chs (mSet o.1.1 t l col) t l col) (cnd (mSet o.1.1 t l col) t col).length) := ((h1.1 t l col ht1 hl1 hc1 hc4 rfl rfl rfl).2 hf2).2 rfl
        rw [hset] at e1
        subst e1
        refine ⟨fun q => absurd rfl q, fun _ => ?_⟩
        refine l_low 2 (by decide) (by decide) (fun _ => ?_)
        obtain ⟨L', hL1, hL2⟩ := push_l o.2 o.1 hl
        exact ⟨fun _ => h _, fun _ => l_undo (o := oAct o (mSet o.1.1 t l col)) hL1 hL2 h⟩
      · have hd : k < o.1.1.1 := by omega
        have p274 : p_L_chooses_274 (nI k) K := by
          unfold p_L_chooses_274
          rw [li_1, nI_add]
          exact hK hd () trivial
        rw [hbit k (by omega)]
        refine ⟨fun _ => ?_, fun q => ?_⟩
        · unfold p_L_chooses_240
          exact ⟨fun _ => p274, fun q => absurd rfl q⟩
        · have q := nI_i (show nI (tb SS k) = nI 1 from q) (by have := tb_lt SS k; omega) (by decide)
          obtain ⟨w1, w2⟩ := hwhy k hd q
          unfold p_L_chooses_240
          refine ⟨fun q => absurd q (by decide), fun _ => ?_⟩
          intro r1 h1
          have e1 : r1 = nI (whm (mSet o.1.1 t l col) k) := h1.1 k hd rfl
          subst e1
          refine ⟨fun _ => p274, fun q0 => ⟨fun q4 => ?_, fun _ => ?_⟩⟩
          · exact absurd (congrArg nI (w2 (nI_i (show nI col = nI 4 from q4) (by omega) (by decide)))) q0
          · intro r2 h2
            have e2 : r2 = nI (whm (mSet o.1.1 t l col) k) := h2.1 k hd rfl
            subst e2
            refine ⟨fun _ => p274, fun q4 => ?_⟩
            rcases w1 with w | w
            · exact absurd (congrArg nI w) q0
            · exact absurd (congrArg nI w) q4
    unfold p_L_chooses_95
    refine wl1 (q_L_chooses_95 a o (nI t) (nI l) (nI col) (nI PP) (nI SS) Q) o.1.1.1 (by omega) (fun k x => x = nI (sm (fun d => if tb SS d = 1 then o.1.1.2.1 d 2 else 0) k)) 0 (Nat.zero_le _) _ rfl ?_
    rintro K k x _ hk rfl hK
    unfold q_L_chooses_95
    intro r hr
    have e : r = nI o.1.1.1 := hr.1 0 (by decide) (by decide) rfl
    subst e
    rw [nI_leI (by omega) (by omega)]
    refine ⟨fun hge => ?_, fun hlt => ?_⟩
    · have e : k = o.1.1.1 := by omega
      rw [e, hsum]
      refine ⟨fun q => absurd rfl q, fun _ => ?_⟩
      intro r3 h3
      have e3 : r3 = nI (fnN o.1.1 t l col / 2 ^ 20) := ((h3.1 t l col ht1 hl1 hc1 hc4 rfl rfl rfl).2 hf).1 (Or.inr rfl)
      rw [hF] at e3
      subst e3
      refine ⟨fun q => absurd rfl q, fun _ => ?_⟩
      intro r4 o4 h4
      obtain ⟨e4, e5⟩ := (h4.1 t l col ht1 hl1 hc1 hc4 rfl rfl rfl).2 hf
      rw [hF] at e4
      subst e4 e5
      exact ⟨fun _ => p214, fun q => absurd rfl q⟩
    · have hd : k < o.1.1.1 := by omega
      have hstep : sm (fun d => if tb SS d = 1 then o.1.1.2.1 d 2 else 0) (k + 1) = sm (fun d => if tb SS d = 1 then o.1.1.2.1 d 2 else 0) k + (if tb SS k = 1 then o.1.1.2.1 k 2 else 0) := rfl
      have p169 : ∀ y, y = nI (sm (fun d => if tb SS d = 1 then o.1.1.2.1 d 2 else 0) (k + 1)) → p_L_chooses_169 y (nI k) K := by
        rintro y rfl
        unfold p_L_chooses_169
        rw [li_1, nI_add]
        exact hK hd _ rfl
      have b0 := (hm.1.b (d := k) (by omega)).1
      rw [hbit k (by omega)]
      refine ⟨fun q => ?_, fun q => ?_⟩
      · have q : ¬ tb SS k = 1 := fun e => q (congrArg nI e)
        unfold p_L_chooses_121 p_L_chooses_141
        refine ⟨fun _ => ⟨fun _ => p169 _ ?_, fun q => absurd rfl q⟩, fun q => absurd rfl q⟩
        rw [hstep, if_neg q, Nat.add_zero, li_0, nI_add, Nat.add_zero]
      · have q := nI_i (show nI (tb SS k) = nI 1 from q) (by have := tb_lt SS k; omega) (by decide)
        unfold p_L_chooses_121
        refine ⟨fun q => absurd q (by decide), fun _ => ?_⟩
        intro r3 h3
        have e3 : r3 = nI (o.1.1.2.1 k 2) := h3.1 k 2 hd (by decide) rfl rfl
        subst e3
        unfold p_L_chooses_141
        refine ⟨fun q => absurd q (by decide), fun _ => ?_⟩
        intro r4 h4
        have e4 : r4 = nI (o.1.1.2.1 k 0) := h4.1 k 0 hd (by decide) rfl rfl
        subst e4
        intro r5 h5
        have e5 : r5 = nI (o.1.1.2.2.2 (o.1.1.2.1 k 0)) := h5.2.1 (o.1.1.2.1 k 0) (by omega) (nI_add 6 _)
        subst e5
        refine ⟨fun _ => p169 _ ?_, fun q2 => absurd (congrArg nI (hsid k q)) q2⟩
        rw [hstep, if_pos q, nI_add]

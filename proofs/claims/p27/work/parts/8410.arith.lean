theorem li_0 : (0 : Int32) = nI 0 := rfl
theorem li_1 : (1 : Int32) = nI 1 := rfl
theorem li_2 : (2 : Int32) = nI 2 := rfl
theorem li_3 : (3 : Int32) = nI 3 := rfl
theorem li_4 : (4 : Int32) = nI 4 := rfl
theorem li_5 : (5 : Int32) = nI 5 := rfl
theorem li_6 : (6 : Int32) = nI 6 := rfl
theorem li_7 : (7 : Int32) = nI 7 := rfl
theorem li_8 : (8 : Int32) = nI 8 := rfl
theorem li_9 : (9 : Int32) = nI 9 := rfl
theorem li_10 : (10 : Int32) = nI 10 := rfl
theorem li_11 : (11 : Int32) = nI 11 := rfl
theorem li_12 : (12 : Int32) = nI 12 := rfl
theorem li_13 : (13 : Int32) = nI 13 := rfl
theorem li_14 : (14 : Int32) = nI 14 := rfl
theorem li_15 : (15 : Int32) = nI 15 := rfl
theorem li_16 : (16 : Int32) = nI 16 := rfl
theorem li_20 : (20 : Int32) = nI 20 := rfl
theorem li_26 : (26 : Int32) = nI 26 := rfl
theorem li_31 : (31 : Int32) = nI 31 := rfl
theorem li_32 : (32 : Int32) = nI 32 := rfl
theorem li_36 : (36 : Int32) = nI 36 := rfl
theorem li_42 : (42 : Int32) = nI 42 := rfl
theorem li_43 : (43 : Int32) = nI 43 := rfl
theorem li_48 : (48 : Int32) = nI 48 := rfl
theorem li_52 : (52 : Int32) = nI 52 := rfl
theorem li_57 : (57 : Int32) = nI 57 := rfl
theorem li_58 : (58 : Int32) = nI 58 := rfl
theorem li_59 : (59 : Int32) = nI 59 := rfl
theorem li_60 : (60 : Int32) = nI 60 := rfl
theorem li_63 : (63 : Int32) = nI 63 := rfl
theorem li_97 : (97 : Int32) = nI 97 := rfl
theorem li_99 : (99 : Int32) = nI 99 := rfl
theorem li_104 : (104 : Int32) = nI 104 := rfl
theorem li_112 : (112 : Int32) = nI 112 := rfl
theorem li_115 : (115 : Int32) = nI 115 := rfl
theorem li_119 : (119 : Int32) = nI 119 := rfl
theorem li_140 : (140 : Int32) = nI 140 := rfl
theorem li_141 : (141 : Int32) = nI 141 := rfl
theorem li_142 : (142 : Int32) = nI 142 := rfl
theorem li_143 : (143 : Int32) = nI 143 := rfl
theorem li_144 : (144 : Int32) = nI 144 := rfl
theorem li_145 : (145 : Int32) = nI 145 := rfl
theorem li_146 : (146 : Int32) = nI 146 := rfl
theorem li_147 : (147 : Int32) = nI 147 := rfl
theorem li_148 : (148 : Int32) = nI 148 := rfl
theorem li_149 : (149 : Int32) = nI 149 := rfl
theorem li_150 : (150 : Int32) = nI 150 := rfl
theorem li_151 : (151 : Int32) = nI 151 := rfl
theorem li_152 : (152 : Int32) = nI 152 := rfl
theorem li_255 : (255 : Int32) = nI 255 := rfl
theorem li_303 : (303 : Int32) = nI 303 := rfl
theorem li_455 : (455 : Int32) = nI 455 := rfl
theorem li_999 : (999 : Int32) = nI 999 := rfl
theorem li_1000 : (1000 : Int32) = nI 1000 := rfl
theorem li_1510 : (1510 : Int32) = nI 1510 := rfl
theorem li_1820 : (1820 : Int32) = nI 1820 := rfl
theorem li_2275 : (2275 : Int32) = nI 2275 := rfl
theorem li_9999 : (9999 : Int32) = nI 9999 := rfl
theorem li_10000 : (10000 : Int32) = nI 10000 := rfl
theorem li_100000 : (100000 : Int32) = nI 100000 := rfl
theorem li_1048575 : (1048575 : Int32) = nI 1048575 := rfl
theorem li_100000000 : (100000000 : Int32) = nI 100000000 := rfl
theorem nI_eqI {a b : Nat} (ha : a < 2 ^ 31) (hb : b < 2 ^ 31) : nI a = nI b ↔ a = b := nI_eq ha hb
theorem vp_t {n N : Nat} (hn : n < 2 ^ 31) (hN : N < 2 ^ 31) : vp_in (nI n) N ↔ n < N := by
  refine ⟨fun h => ?_, fun h => vp_in_nI h hN⟩
  have h2 := (vp_in_iff.1 h).2
  rw [nI_toInt hn] at h2
  omega
theorem c_pos {n : Nat} (h : n < 2 ^ 31) : nI n < nI 0 ↔ False := ⟨fun h2 => nI_pos h h2, False.elim⟩
theorem c_npos {n : Nat} (h : n < 2 ^ 31) : nI 0 ≤ nI n ↔ True := ⟨fun _ => trivial, fun _ => nI_pos' h⟩
def tb (s k : Nat) : Nat := s / 2 ^ k % 2
theorem tb_lt (s k : Nat) : tb s k < 2 := Nat.mod_lt _ (by decide)
theorem e_s31 {k : Nat} (hk : k < 32) : ((nI k &&& nI 31).toBitVec.smod 32).toNat = k := by
  revert k
  decide +kernel
theorem e_shr {s k : Nat} (hs : s < 2 ^ 31) (hk : k < 32) : nI s >>> (nI k &&& nI 31) = nI (s / 2 ^ k) := pk_shrN hs _ k (e_s31 hk)
theorem e_andI (a b : Nat) : nI a &&& nI b = nI (a &&& b) := by
  apply Int32.toBitVec_inj.1
  show BitVec.ofNat 32 a &&& BitVec.ofNat 32 b = BitVec.ofNat 32 (a &&& b)
  apply BitVec.eq_of_getLsbD_eq
  intro i hi
  simp [BitVec.getLsbD_ofNat, hi]
theorem e_orI (a b : Nat) : nI a ||| nI b = nI (a ||| b) := by
  apply Int32.toBitVec_inj.1
  show BitVec.ofNat 32 a ||| BitVec.ofNat 32 b = BitVec.ofNat 32 (a ||| b)
  apply BitVec.eq_of_getLsbD_eq
  intro i hi
  simp [BitVec.getLsbD_ofNat, hi]
theorem e_and1 (a : Nat) : nI a &&& nI 1 = nI (a % 2) := by
  rw [e_andI, Nat.and_one_is_mod]
theorem e_bit {s k : Nat} (hs : s < 2 ^ 31) (hk : k < 32) : (nI s >>> (nI k &&& nI 31)) &&& nI 1 = nI (tb s k) := by
  rw [e_shr hs hk, e_and1]
  rfl
theorem e_shl {k : Nat} (hk : k < 32) : nI 1 <<< (nI k &&& nI 31) = nI (2 ^ k) := by
  have h := pk_shlN (n := 1) (nI k &&& nI 31) k (e_s31 hk) (by rw [Nat.one_mul]; exact Nat.pow_lt_pow_right (by decide) hk)
  rw [h, Nat.one_mul]
/-- a number is below nought, or one of Nat -/
theorem sg (a : Int32) : a < nI 0 ∨ ∃ j, j < 2 ^ 31 ∧ a = nI j := by
  by_cases h : a < 0
  · exact Or.inl h
  · exact Or.inr (nI_of h)
theorem sg_lt {a : Int32} (h : a < nI 0) {n : Nat} (hn : n < 2 ^ 31) : a < nI n ∧ ¬ nI n < a ∧ ¬ nI n ≤ a ∧ a ≤ nI n ∧ ¬ a = nI n ∧ ¬ nI n = a := by
  have e0 : (nI 0).toInt = 0 := nI_toInt (by decide)
  have e : (nI n).toInt = (n : Int) := nI_toInt hn
  rw [Int32.lt_iff_toInt_lt, e0] at h
  refine ⟨?_, ?_, ?_, ?_, ?_, ?_⟩
  · rw [Int32.lt_iff_toInt_lt, e]; omega
  · rw [Int32.lt_iff_toInt_lt, e]; omega
  · rw [Int32.le_iff_toInt_le, e]; omega
  · rw [Int32.le_iff_toInt_le, e]; omega
  · intro h2; rw [h2, e] at h; omega
  · intro h2; rw [← h2, e] at h; omega
/-! ===== sums and sets ===== -/
def sm (f : Nat → Nat) : Nat → Nat
  | 0 => 0
  | n + 1 => sm f n + f n
theorem sm_cong {f g : Nat → Nat} : ∀ {n : Nat}, (∀ k, k < n → f k = g k) → sm f n = sm g n
  | 0, _ => rfl
  | n + 1, h => by
    show sm f n + f n = sm g n + g n
    rw [sm_cong (fun k hk => h k (Nat.lt_succ_of_lt hk)), h n (Nat.lt_succ_self n)]
theorem sm_le {f : Nat → Nat} {m : Nat} : ∀ {n : Nat}, (∀ k, k < n → f k ≤ m) → sm f n ≤ m * n
  | 0, _ => Nat.zero_le _
  | n + 1, h => by
    show sm f n + f n ≤ m * (n + 1)
    have h1 := sm_le (f := f) (m := m) (n := n) (fun k hk => h k (Nat.lt_succ_of_lt hk))
    have h2 := h n (Nat.lt_succ_self n)
    rw [Nat.mul_add]
    omega
theorem sm_mono (f : Nat → Nat) {a b : Nat} (h : a ≤ b) : sm f a ≤ sm f b := by
  induction b with
  | zero => rw [Nat.le_zero.1 h]; exact Nat.le_refl _
  | succ b ih =>
    by_cases e : a = b + 1
    · rw [e]; exact Nat.le_refl _
    · exact Nat.le_trans (ih (by omega)) (Nat.le_add_right _ _)
theorem sm_mem (f : Nat → Nat) {a b : Nat} (h : a < b) : f a ≤ sm f b := by
  have h1 : sm f (a + 1) ≤ sm f b := sm_mono f h
  have h2 : sm f (a + 1) = sm f a + f a := rfl
  omega
theorem sm_zero {f : Nat → Nat} : ∀ {n : Nat}, (∀ k, k < n → f k = 0) → sm f n = 0
  | 0, _ => rfl
  | n + 1, h => by
    show sm f n + f n = 0
    rw [sm_zero (fun k hk => h k (Nat.lt_succ_of_lt hk)), h n (Nat.lt_succ_self n)]
theorem sm_add (f g : Nat → Nat) : ∀ n : Nat, sm (fun k => f k + g k) n = sm f n + sm g n
  | 0 => rfl
  | n + 1 => by
    show sm (fun k => f k + g k) n + (f n + g n) = (sm f n + f n) + (sm g n + g n)
    rw [sm_add f g n]
    omega
/-- the set of those below n that P takes -/
def mk (P : Nat → Bool) : Nat → Nat
  | 0 => 0
  | n + 1 => mk P n + if P n then 2 ^ n else 0
theorem mk_lt (P : Nat → Bool) : ∀ n, mk P n < 2 ^ n
  | 0 => Nat.one_pos
  | n + 1 => by
    have h := mk_lt P n
    show mk P n + (if P n then 2 ^ n else 0) < 2 ^ (n + 1)
    rw [Nat.pow_succ]
    split <;> omega
theorem mk_lt31 (P : Nat → Bool) {n : Nat} (h : n ≤ 20) : mk P n < 1048576 := Nat.lt_of_lt_of_le (mk_lt P n) (Nat.pow_le_pow_right (n := 2) (by decide) h)
theorem mk_cong {P R : Nat → Bool} : ∀ {n : Nat}, (∀ k, k < n → P k = R k) → mk P n = mk R n
  | 0, _ => rfl
  | n + 1, h => by
    show mk P n + (if P n then 2 ^ n else 0) = mk R n + (if R n then 2 ^ n else 0)
    rw [mk_cong (fun k hk => h k (Nat.lt_succ_of_lt hk)), h n (Nat.lt_succ_self n)]
theorem mk_or (P : Nat → Bool) (n : Nat) : mk P n ||| 2 ^ n = mk P n + 2 ^ n := by
  rw [Nat.or_comm, Nat.add_comm]
  have h := Nat.two_pow_add_eq_or_of_lt (mk_lt P n) 1
  rw [Nat.mul_one] at h
  exact h.symm
theorem mk_tb (P : Nat → Bool) : ∀ n k, tb (mk P n) k = if k < n ∧ P k = true then 1 else 0
  | 0, k => by
    show 0 / 2 ^ k % 2 = _
    rw [Nat.zero_div]
    simp
  | n + 1, k => by
    have ih := mk_tb P n k
    have hl := mk_lt P n
    show (mk P n + (if P n then 2 ^ n else 0)) / 2 ^ k % 2 = _
    by_cases hp : P n = true
    · rw [if_pos hp]
      by_cases hk : k < n
      · have e : 2 ^ n = 2 ^ k * (2 * 2 ^ (n - k - 1)) := by
          rw [← Nat.mul_assoc, ← Nat.pow_succ, ← Nat.pow_add]
          congr 1
          omega
        rw [e, Nat.add_mul_div_left _ _ (Nat.pow_pos (by decide)), Nat.add_mul_mod_self_left]
        show tb (mk P n) k = _
        rw [ih]
        have : k < n + 1 := by omega
        simp [hk, this]
      · by_cases e : k = n
        · subst e
          rw [Nat.add_div_right _ (Nat.pow_pos (by decide)), Nat.div_eq_of_lt hl]
          simp [hp]
        · have : (mk P n + 2 ^ n) / 2 ^ k = 0 := by
            apply Nat.div_eq_of_lt
            have h2 : 2 ^ (n + 1) ≤ 2 ^ k := Nat.pow_le_pow_right (by decide) (by omega)
            rw [Nat.pow_succ] at h2
            omega
          rw [this]
          have : ¬ k < n + 1 := by omega
          simp [this]
    · rw [if_neg hp, Nat.add_zero]
      show tb (mk P n) k = _
      rw [ih]
      by_cases e : k = n
      · subst e
        simp [hp]
      · have : k < n + 1 ↔ k < n := by omega
        simp [this]
/-- how many are in a set of numbers below 20 -/
def pc (s : Nat) : Nat := sm (fun k => tb s k) 20
theorem sm_mkP (P : Nat → Bool) {n : Nat} (hn : n ≤ 20) : pc (mk P n) = sm (fun k => if P k then 1 else 0) n := by
  have h1 : ∀ m, m ≤ n → sm (fun k => tb (mk P n) k) m = sm (fun k => if P k then 1 else 0) m := by
    intro m hm
    apply sm_cong
    intro k hk
    rw [mk_tb]
    have : k < n := by omega
    simp [this]
  have h2 : ∀ j, n + j ≤ 20 → sm (fun k => tb (mk P n) k) (n + j) = sm (fun k => tb (mk P n) k) n := by
    intro j
    induction j with
    | zero => intro _; rfl
    | succ j ih =>
      intro hj
      show sm (fun k => tb (mk P n) k) (n + j) + tb (mk P n) (n + j) = _
      rw [ih (by omega), mk_tb]
      have : ¬ n + j < n := by omega
      simp [this]
  have h3 := h2 (20 - n) (by omega)
  rw [show n + (20 - n) = 20 by omega] at h3
  show sm (fun k => tb (mk P n) k) 20 = _
  rw [h3, h1 n (Nat.le_refl n)]
theorem pc_le (s : Nat) : pc s ≤ 20 := by
  have h := sm_le (f := fun k => tb s k) (m := 1) (n := 20) (fun k _ => Nat.le_of_lt_succ (tb_lt s k))
  exact h
theorem bc0 : ∀ s, s < 256 → p_J6_bitCount_0f7a4 (nI s) (fun r => r = nI (pc s)) := by
  unfold p_J6_bitCount_0f7a4
  decide +kernel
theorem e_bitCount {s : Nat} (hs : s < 256) {Q : Int32 → Prop} : p_J6_bitCount_0f7a4 (nI s) Q ↔ Q (nI (pc s)) := by
  have h := bc0 s hs
  unfold p_J6_bitCount_0f7a4 at h ⊢
  simp only at h
  rw [h]

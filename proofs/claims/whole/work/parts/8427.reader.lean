/-! ===== a text ===== -/
theorem wf1 {A : Type} (st : (Int32 → A → Prop) → Int32 → A → Prop) (N : Nat) (hN : N < 2 ^ 31) (P : Nat → A → Prop) (i0 : Nat) (hi0 : i0 ≤ N) (a : A) (h0 : P i0 a) (hs : ∀ (K : Int32 → A → Prop) (k : Nat) (a : A), i0 ≤ k → k ≤ N → P k a → (k < N → ∀ b, P (k + 1) b → K (nI (k + 1)) b) → st K (nI k) a) : wloop2 st (nI i0) a := by
  refine ⟨fun x a => ∃ k, i0 ≤ k ∧ k ≤ N ∧ x = nI k ∧ P k a, fun x a => N - x.toNatClampNeg, ⟨i0, Nat.le_refl _, hi0, rfl, h0⟩, ?_⟩
  rintro x a ⟨k, h1, h2, rfl, hp⟩
  refine hs _ k a h1 h2 hp ?_
  intro hk b hb
  refine ⟨⟨k + 1, by omega, by omega, rfl, hb⟩, ?_⟩
  show N - (nI (k + 1)).toNatClampNeg < N - (nI k).toNatClampNeg
  rw [nI_clamp (by omega), nI_clamp (by omega)]
  omega
theorem ite_I {c : Prop} {inst : Decidable c} {x y z : Int32} (h1 : c → x = z) (h0 : ¬ c → y = z) : @ite Int32 c inst x y = z := by
  by_cases h : c
  · rw [if_pos h]
    exact h1 h
  · rw [if_neg h]
    exact h0 h
/-- the first place from p on whose character is no c-character, in a text of t -/
def skr (b : Nat → Bool) (t : Nat) : Nat → Nat
  | 0 => 0
  | i + 1 => if b (t - (i + 1)) = true then skr b t i else i + 1
def stop (b : Nat → Bool) (t p : Nat) : Nat := t - skr b t (t - p)
theorem stop_t (b : Nat → Bool) (t : Nat) : stop b t t = t := by
  unfold stop
  rw [Nat.sub_self]
  exact Nat.sub_zero t
theorem stop_y {b : Nat → Bool} {t p : Nat} (hp : p < t) (h : b p = true) : stop b t p = stop b t (p + 1) := by
  obtain ⟨i, hi⟩ : ∃ i, t - p = i + 1 := ⟨t - p - 1, by omega⟩
  have e : t - (i + 1) = p := by omega
  have e2 : t - (p + 1) = i := by omega
  unfold stop
  rw [hi, e2]
  show t - (if b (t - (i + 1)) = true then skr b t i else i + 1) = _
  rw [e, if_pos h]
theorem stop_n {b : Nat → Bool} {t p : Nat} (hp : p < t) (h : ¬ b p = true) : stop b t p = p := by
  obtain ⟨i, hi⟩ : ∃ i, t - p = i + 1 := ⟨t - p - 1, by omega⟩
  have e : t - (i + 1) = p := by omega
  unfold stop
  rw [hi]
  show t - (if b (t - (i + 1)) = true then skr b t i else i + 1) = _
  rw [e, if_neg h]
  exact e
theorem stop_b {b : Nat → Bool} {t : Nat} : ∀ {i p : Nat}, t - p = i → p ≤ t → p ≤ stop b t p ∧ stop b t p ≤ t ∧ (stop b t p < t → ¬ b (stop b t p) = true)
  | 0, p, hi, hp => by
    have : p = t := by omega
    subst this
    rw [stop_t]
    exact ⟨Nat.le_refl _, Nat.le_refl _, fun h => absurd h (Nat.lt_irrefl _)⟩
  | i + 1, p, hi, hp => by
    by_cases h : b p = true
    · rw [stop_y (by omega) h]
      have := stop_b (b := b) (t := t) (i := i) (p := p + 1) (by omega) (by omega)
      exact ⟨by omega, this.2⟩
    · rw [stop_n (by omega) h]
      exact ⟨Nat.le_refl _, hp, fun _ => h⟩
theorem stop_i {b : Nat → Bool} {t p : Nat} (hp : p ≤ t) : stop b t (stop b t p) = stop b t p := by
  obtain ⟨h1, h2, h3⟩ := stop_b (b := b) rfl hp
  by_cases e : stop b t p < t
  · exact stop_n e (h3 e)
  · have e2 : stop b t p = t := by omega
    rw [e2, stop_t]
/-- behind the spaces -/
def skp (ch : Nat → Nat) (t p : Nat) : Nat := stop (fun j => ch j == 32) t p
/-- behind the figures -/
def dgp (ch : Nat → Nat) (t p : Nat) : Nat := stop (fun j => decide (48 ≤ ch j) && decide (ch j ≤ 57)) t p
theorem skp_t (ch : Nat → Nat) (t : Nat) : skp ch t t = t := stop_t _ t
theorem skp_y {ch : Nat → Nat} {t p : Nat} (hp : p < t) (h : ch p = 32) : skp ch t p = skp ch t (p + 1) := stop_y hp (beq_iff_eq.2 h)
theorem skp_n {ch : Nat → Nat} {t p : Nat} (hp : p < t) (h : ¬ ch p = 32) : skp ch t p = p := stop_n hp (fun e => h (beq_iff_eq.1 e))
theorem skp_b {ch : Nat → Nat} {t p : Nat} (hp : p ≤ t) : p ≤ skp ch t p ∧ skp ch t p ≤ t ∧ (skp ch t p < t → ¬ ch (skp ch t p) = 32) := by
  have h := stop_b (b := fun j => ch j == 32) rfl hp
  exact ⟨h.1, h.2.1, fun e q => h.2.2 e (beq_iff_eq.2 q)⟩
theorem skp_i {ch : Nat → Nat} {t p : Nat} (hp : p ≤ t) : skp ch t (skp ch t p) = skp ch t p := stop_i hp
theorem bdg {ch : Nat → Nat} {j : Nat} : (decide (48 ≤ ch j) && decide (ch j ≤ 57)) = true ↔ 48 ≤ ch j ∧ ch j ≤ 57 := by
  rw [Bool.and_eq_true, decide_eq_true_iff, decide_eq_true_iff]
theorem dgp_t (ch : Nat → Nat) (t : Nat) : dgp ch t t = t := stop_t _ t
theorem dgp_y {ch : Nat → Nat} {t p : Nat} (hp : p < t) (h : 48 ≤ ch p ∧ ch p ≤ 57) : dgp ch t p = dgp ch t (p + 1) := stop_y hp (bdg.2 h)
theorem dgp_n {ch : Nat → Nat} {t p : Nat} (hp : p < t) (h : ¬ (48 ≤ ch p ∧ ch p ≤ 57)) : dgp ch t p = p := stop_n hp (fun e => h (bdg.1 e))
theorem dgp_b {ch : Nat → Nat} {t p : Nat} (hp : p ≤ t) : p ≤ dgp ch t p ∧ dgp ch t p ≤ t ∧ (dgp ch t p < t → ¬ (48 ≤ ch (dgp ch t p) ∧ ch (dgp ch t p) ≤ 57)) := by
  have h := stop_b (b := fun j => decide (48 ≤ ch j) && decide (ch j ≤ 57)) rfl hp
  exact ⟨h.1, h.2.1, fun e q => h.2.2 e (bdg.2 q)⟩
def txt (ch : Nat → Nat) (t : Nat) (x : Nat → Int32) : Prop := t ≤ 140 ∧ ∀ j, j < t → x j = nI (ch j) ∧ 1 ≤ ch j ∧ ch j ≤ 255
def nv (ch : Nat → Nat) (f : Nat) : Nat → Nat
  | 0 => 0
  | i + 1 => nv ch f i * 10 + (ch (f + i) - 48)
def okN (ch : Nat → Nat) (t lo hi f : Nat) : Prop := f < dgp ch t f ∧ ¬ (f + 1 < dgp ch t f ∧ ch f = 48) ∧ lo ≤ nv ch f (dgp ch t f - f) ∧ nv ch f (dgp ch t f - f) ≤ hi
/-- reading, from a place on: it goes well, with a number, to a place; or it doesn't, with an error at a place -/
def fNum (ch : Nat → Nat) (t k p v a : Nat) : Prop := okN ch t (loD k) (hiD k) (skp ch t p) ∧ v = nv ch (skp ch t p) (dgp ch t (skp ch t p) - skp ch t p) ∧ a = dgp ch t (skp ch t p)
def bNum (ch : Nat → Nat) (t k p e : Nat) : Prop := ¬ okN ch t (loD k) (hiD k) (skp ch t p) ∧ e = skp ch t p
def fSgn (ch : Nat → Nat) (t c p a : Nat) : Prop := skp ch t p < t ∧ ch (skp ch t p) = c ∧ a = skp ch t p + 1
def bSgn (ch : Nat → Nat) (t c p e : Nat) : Prop := ¬ (skp ch t p < t ∧ ch (skp ch t p) = c) ∧ e = skp ch t p
/-- which letter a sign is; 99: none -/
def ltz (z c : Nat) : Nat := if z = 0 then (if c = 112 then 0 else if c = 115 then 1 else if c = 97 then 2 else if c = 119 then 3 else 99) else (if 97 ≤ c ∧ c ≤ 104 then c - 97 else 99)
/-- letters, with what was read ahead of them; i: how much of the text is left; the result: well or not, the set, the place -/
def rds (ch : Nat → Nat) (t z : Nat) : Nat → Nat → Nat × Nat × Nat
  | 0, x => (1, x, t)
  | i + 1, x => if ltz z (ch (t - (i + 1))) = 99 then (if ch (t - (i + 1)) = 32 then rds ch t z i x else (1, x, t - (i + 1))) else if tb x (ltz z (ch (t - (i + 1)))) = 1 then (0, x, t - (i + 1)) else rds ch t z i (x ||| 2 ^ ltz z (ch (t - (i + 1))))
def rdp (ch : Nat → Nat) (t z p x : Nat) : Nat × Nat × Nat := rds ch t z (t - p) x
theorem rdp_t (ch : Nat → Nat) (t z x : Nat) : rdp ch t z t x = (1, x, t) := by
  unfold rdp
  rw [Nat.sub_self]
  rfl
theorem rdp_s (ch : Nat → Nat) {t z p : Nat} (hp : p < t) (x : Nat) : rdp ch t z p x = if ltz z (ch p) = 99 then (if ch p = 32 then rdp ch t z (p + 1) x else (1, x, p)) else if tb x (ltz z (ch p)) = 1 then (0, x, p) else rdp ch t z (p + 1) (x ||| 2 ^ ltz z (ch p)) := by
  obtain ⟨i, hi⟩ : ∃ i, t - p = i + 1 := ⟨t - p - 1, by omega⟩
  have e : t - (i + 1) = p := by omega
  have e2 : t - (p + 1) = i := by omega
  unfold rdp
  rw [hi, e2]
  show (if ltz z (ch (t - (i + 1))) = 99 then (if ch (t - (i + 1)) = 32 then rds ch t z i x else (1, x, t - (i + 1))) else if tb x (ltz z (ch (t - (i + 1)))) = 1 then (0, x, t - (i + 1)) else rds ch t z i (x ||| 2 ^ ltz z (ch (t - (i + 1))))) = _
  rw [e]
theorem ltz_lt {z c : Nat} (hc : ¬ ltz z c = 99) : ltz z c < 8 ∧ ¬ c = 32 := by
  unfold ltz at *
  split at hc
  · rename_i hz
    rw [if_pos hz]
    split at hc <;> rename_i h1
    · rw [if_pos h1]
      omega
    · rw [if_neg h1]
      split at hc <;> rename_i h2
      · rw [if_pos h2]
        omega
      · rw [if_neg h2]
        split at hc <;> rename_i h3
        · rw [if_pos h3]
          omega
        · rw [if_neg h3]
          split at hc <;> rename_i h4
          · rw [if_pos h4]
            omega
          · exact absurd rfl hc
  · rename_i hz
    rw [if_neg hz]
    split at hc <;> rename_i h1
    · rw [if_pos h1]
      omega
    · exact absurd rfl hc
theorem ltz_32 (z : Nat) : ltz z 32 = 99 := by
  unfold ltz
  split <;> rfl
theorem ltz_0 (z : Nat) : ltz z 0 = 99 := by
  unfold ltz
  split <;> rfl
/-- spaces don't matter -/
theorem rdp_skp (ch : Nat → Nat) {t z : Nat} (x : Nat) : ∀ {i p : Nat}, t - p = i → p ≤ t → rdp ch t z (skp ch t p) x = rdp ch t z p x
  | 0, p, hi, hp => by
    have : p = t := by omega
    subst this
    rw [skp_t]
  | i + 1, p, hi, hp => by
    by_cases h : ch p = 32
    · rw [skp_y (by omega) h, rdp_skp ch (t := t) (z := z) x (i := i) (p := p + 1) (by omega) (by omega), rdp_s ch (p := p) (by omega) x, h, ltz_32, if_pos rfl, if_pos rfl]
    · rw [skp_n (by omega) h]
theorem rdp_b {ch : Nat → Nat} {t z : Nat} (hz : z ≤ 1) : ∀ {i p x : Nat}, t - p = i → p ≤ t → x < 256 → (rdp ch t z p x).1 ≤ 1 ∧ (rdp ch t z p x).2.1 < 256 ∧ p ≤ (rdp ch t z p x).2.2 ∧ (rdp ch t z p x).2.2 ≤ t ∧ (z = 0 → x < 16 → (rdp ch t z p x).2.1 < 16) ∧ ((rdp ch t z p x).1 = 1 → skp ch t (rdp ch t z p x).2.2 = (rdp ch t z p x).2.2)
  | 0, p, x, hi, hp, hx => by
    have : p = t := by omega
    subst this
    rw [rdp_t]
    exact ⟨Nat.le_refl 1, hx, Nat.le_refl _, Nat.le_refl _, fun _ h => h, fun _ => skp_t _ _⟩
  | i + 1, p, x, hi, hp, hx => by
    rw [rdp_s ch (by omega) x]
    by_cases h1 : ltz z (ch p) = 99
    · rw [if_pos h1]
      by_cases h2 : ch p = 32
      · rw [if_pos h2]
        have := rdp_b (ch := ch) (t := t) hz (i := i) (p := p + 1) (x := x) (by omega) (by omega) hx
        exact ⟨this.1, this.2.1, by omega, this.2.2.2⟩
      · rw [if_neg h2]
        exact ⟨Nat.le_refl 1, hx, Nat.le_refl _, hp, fun _ h => h, fun _ => show skp ch t p = p from skp_n (by omega) h2⟩
    · rw [if_neg h1]
      by_cases h2 : tb x (ltz z (ch p)) = 1
      · rw [if_pos h2]
        exact ⟨Nat.zero_le _, hx, Nat.le_refl _, hp, fun _ h => h, fun e => absurd (show (0 : Nat) = 1 from e) (by decide)⟩
      · rw [if_neg h2]
        have hl := (ltz_lt h1).1
        have hx2 : x ||| 2 ^ ltz z (ch p) < 2 ^ 8 := Nat.or_lt_two_pow hx (Nat.pow_lt_pow_right (by decide) hl)
        have := rdp_b (ch := ch) (t := t) hz (i := i) (p := p + 1) (x := x ||| 2 ^ ltz z (ch p)) (by omega) (by omega) hx2
        refine ⟨this.1, this.2.1, by omega, this.2.2.2.1, fun hz0 hx16 => this.2.2.2.2.1 hz0 ?_, this.2.2.2.2.2⟩
        have hl4 : ltz z (ch p) < 4 := by
          subst hz0
          unfold ltz at h1 ⊢
          rw [if_pos rfl] at h1 ⊢
          split <;> rename_i q1
          · omega
          · rw [if_neg q1] at h1
            split <;> rename_i q2
            · omega
            · rw [if_neg q2] at h1
              split <;> rename_i q3
              · omega
              · rw [if_neg q3] at h1
                split <;> rename_i q4
                · omega
                · rw [if_neg q4] at h1
                  exact absurd rfl h1
        have hp4 : 2 ^ ltz z (ch p) < 2 ^ 4 := Nat.pow_lt_pow_right (by decide) hl4
        exact Nat.or_lt_two_pow (n := 4) hx16 hp4
/-! ===== the class reads ===== -/
theorem i_nextSign {ch : Nat → Nat} {t : Nat} {rt : Nat → Int32} (hT : txt ch t rt) {p : Nat} (hp : p ≤ t) {Q : Int32 → Int32 → Prop} (h : Q (if skp ch t p < t then nI (ch (skp ch t p)) else nI 0) (nI (skp ch t p))) : p_X5_nextSign rt (nI t) (nI p) Q := by
  obtain ⟨h1, h2, h3⟩ := skp_b (ch := ch) (t := t) hp
  have ht := hT.1
  unfold p_X5_nextSign p_X5_nextSign_0
  refine wl0 (q_X5_nextSign_0 rt (nI t) Q) (skp ch t p) (by omega) (fun k => skp ch t k = skp ch t p) p h1 rfl ?_
  intro K k hk0 hk hP hK
  unfold q_X5_nextSign_0
  simp only [li_0, li_1, li_2, li_3, li_4, li_5, li_6, li_7, li_8, li_9, li_10, li_11, li_12, li_13, li_14, li_15, li_16, li_20, li_26, li_31, li_32, li_36, li_42, li_43, li_48, li_52, li_57, li_58, li_59, li_60, li_63, li_97, li_99, li_104, li_112, li_115, li_119, li_140, li_141, li_142, li_143, li_144, li_145, li_146, li_147, li_148, li_149, li_150, li_151, li_152, li_255, li_303, li_455, li_999, li_1000, li_1510, li_1820, li_2275, li_9999, li_10000, li_100000, li_1048575, li_100000000]
  rw [nI_leI (by omega) (by omega)]
  refine ⟨fun hge => ?_, fun hlt => ?_⟩
  · have : k = skp ch t p := by omega
    subst this
    rw [if_neg (by omega)] at h
    exact h
  · obtain ⟨c1, c2, c3⟩ := hT.2 k (by omega)
    have hk140 : k < 140 := by omega
    simp (disch := omega) only [vp_t, nI_clamp, c1, nI_eqI, nI_add]
    refine ⟨hk140, fun e => ?_, fun e => ⟨hk140, ?_⟩⟩
    · have e2 : skp ch t k = skp ch t (k + 1) := skp_y (by omega) e
      have e3 := (skp_b (ch := ch) (t := t) (p := k + 1) (by omega)).1
      refine hK ?_ () ?_
      · have : k + 1 ≤ skp ch t (k + 1) := e3
        omega
      · rw [← hP]
        exact e2.symm
    · have e2 : skp ch t k = k := skp_n (by omega) e
      have e3 : k = skp ch t p := by omega
      subst e3
      rw [if_pos (by omega)] at h
      exact h
theorem i_readSign {ch : Nat → Nat} {t : Nat} {rt : Nat → Int32} (hT : txt ch t rt) {p c : Nat} (hp : p ≤ t) (hc : 1 ≤ c ∧ c ≤ 255) {err : Int32} {Q : Int32 → Int32 → Int32 → Prop} (h1 : ∀ a, a ≤ t → fSgn ch t c p a → Q (nI 1) (nI a) err) (h0 : ∀ e, bSgn ch t c p e → Q (nI 0) (nI e) (nI e)) : p_X5_readSign rt (nI t) (nI p) err (nI c) Q := by
  unfold p_X5_readSign p_X5_failAt
  refine i_nextSign hT hp ?_
  simp only [li_0, li_1, li_2, li_3, li_4, li_5, li_6, li_7, li_8, li_9, li_10, li_11, li_12, li_13, li_14, li_15, li_16, li_20, li_26, li_31, li_32, li_36, li_42, li_43, li_48, li_52, li_57, li_58, li_59, li_60, li_63, li_97, li_99, li_104, li_112, li_115, li_119, li_140, li_141, li_142, li_143, li_144, li_145, li_146, li_147, li_148, li_149, li_150, li_151, li_152, li_255, li_303, li_455, li_999, li_1000, li_1510, li_1820, li_2275, li_9999, li_10000, li_100000, li_1048575, li_100000000, nI_add]
  by_cases e : skp ch t p < t
  · rw [if_pos e]
    have hch := (hT.2 _ e).2
    rw [nI_eqI (by omega) (by omega)]
    exact ⟨fun e2 => h1 _ (by omega) ⟨e, e2, rfl⟩, fun e2 => h0 _ ⟨fun q => e2 q.2, rfl⟩⟩
  · rw [if_neg e]
    rw [nI_eqI (by omega) (by omega)]
    exact ⟨fun e2 => absurd e2 (by omega), fun e2 => h0 _ ⟨fun q => e q.1, rfl⟩⟩
theorem i_readNumber {ch : Nat → Nat} {t : Nat} {rt : Nat → Int32} (hT : txt ch t rt) {p k : Nat} (hp : p ≤ t) (hk : k < 7) {item : Nat → Int32} {err : Int32} {Q : Int32 → (Nat → Int32) → Int32 → Int32 → Prop} (h1 : ∀ v a, a ≤ t → loD k ≤ v → v ≤ hiD k → fNum ch t k p v a → Q (nI 1) (upd item k (nI v)) (nI a) err) (h0 : ∀ e a, bNum ch t k p e → Q (nI 0) item a (nI e)) : p_X5_readNumber rt item (nI t) (nI p) err (nI k) Q := by
  have ht := hT.1
  have hhi : hiD k ≤ 9999 := by
    rcases k7 hk with rfl | rfl | rfl | rfl | rfl | rfl | rfl <;> decide
  unfold p_X5_readNumber
  refine i_nextSign hT hp ?_
  obtain ⟨f1, f2, f3⟩ := skp_b (ch := ch) (t := t) hp
  have hfN : fNum ch t k p = fun v a => okN ch t (loD k) (hiD k) (skp ch t p) ∧ v = nv ch (skp ch t p) (dgp ch t (skp ch t p) - skp ch t p) ∧ a = dgp ch t (skp ch t p) := rfl
  have hbN : bNum ch t k p = fun e => ¬ okN ch t (loD k) (hiD k) (skp ch t p) ∧ e = skp ch t p := rfl
  rw [hfN] at h1
  rw [hbN] at h0
  generalize skp ch t p = f at *
  obtain ⟨d1, d2, d3⟩ := dgp_b (ch := ch) (t := t) f2
  have fin : ∀ K0 : Unit, p_X5_readNumber_78 rt (nI k) item (nI (dgp ch t f)) err (nI f) (nI (if nv ch f (dgp ch t f - f) < 100000 then nv ch f (dgp ch t f - f) else 100000)) Q := by
    intro _
    have hbig : okD (nI k) (nI (if nv ch f (dgp ch t f - f) < 100000 then nv ch f (dgp ch t f - f) else 100000)) ↔ loD k ≤ nv ch f (dgp ch t f - f) ∧ nv ch f (dgp ch t f - f) ≤ hiD k := by
      rw [okD_k hk]
      constructor
      · rintro ⟨x, q1, q2, q3⟩
        rw [nI_eqI (by split <;> omega) (by omega)] at q3
        split at q3 <;> omega
      · rintro ⟨q1, q2⟩
        exact ⟨nv ch f (dgp ch t f - f), q1, q2, by rw [if_pos (by omega)]⟩
    have g104 : ∀ k0 : Nat, k0 ≤ 1 → (k0 = 1 ↔ (f + 1 < dgp ch t f ∧ ch f = 48)) → p_X5_readNumber_104 (nI k) item (nI (dgp ch t f)) err (nI f) (nI (if nv ch f (dgp ch t f - f) < 100000 then nv ch f (dgp ch t f - f) else 100000)) (nI k0) Q := by
      intro k0 hk0 hk1
      unfold p_X5_readNumber_104 p_X5_readNumber_127 p_X5_failAt
      simp only [li_0, li_1, li_2, li_3, li_4, li_5, li_6, li_7, li_8, li_9, li_10, li_11, li_12, li_13, li_14, li_15, li_16, li_20, li_26, li_31, li_32, li_36, li_42, li_43, li_48, li_52, li_57, li_58, li_59, li_60, li_63, li_97, li_99, li_104, li_112, li_115, li_119, li_140, li_141, li_142, li_143, li_144, li_145, li_146, li_147, li_148, li_149, li_150, li_151, li_152, li_255, li_303, li_455, li_999, li_1000, li_1510, li_1820, li_2275, li_9999, li_10000, li_100000, li_1048575, li_100000000]
      rw [nI_eqI (by omega) (by omega), nI_eqI (by omega) (by omega)]
      refine ⟨fun e => h0 _ _ ⟨fun q => absurd q.1 (by omega), rfl⟩, fun e => ⟨fun e2 => h0 _ _ ⟨fun q => q.2.1 (hk1.1 (by omega)), rfl⟩, fun e2 => ?_⟩⟩
      rw [e_isDishValue, hbig]
      refine ⟨fun e3 => ⟨fun _ => ⟨(vp_t (by omega) (by decide)).2 hk, ?_⟩, fun q => absurd q (by decide)⟩, fun e3 => ⟨fun q => absurd rfl q, fun _ => h0 _ _ ⟨fun q => e3 q.2.2, rfl⟩⟩⟩
      rw [nI_clamp (by omega), if_pos (show nv ch f (dgp ch t f - f) < 100000 by omega)]
      refine h1 _ _ d2 e3.1 e3.2 ⟨⟨?_, fun q => ?_, e3⟩, rfl, rfl⟩
      · omega
      · have := hk1.2 q
        omega
    unfold p_X5_readNumber_78 p_X5_readNumber_103
    rw [pk_sub d1]
    simp only [li_0, li_1, li_2, li_3, li_4, li_5, li_6, li_7, li_8, li_9, li_10, li_11, li_12, li_13, li_14, li_15, li_16, li_20, li_26, li_31, li_32, li_36, li_42, li_43, li_48, li_52, li_57, li_58, li_59, li_60, li_63, li_97, li_99, li_104, li_112, li_115, li_119, li_140, li_141, li_142, li_143, li_144, li_145, li_146, li_147, li_148, li_149, li_150, li_151, li_152, li_255, li_303, li_455, li_999, li_1000, li_1510, li_1820, li_2275, li_9999, li_10000, li_100000, li_1048575, li_100000000]
    rw [nI_leI (by omega) (by omega)]
    refine ⟨fun e => g104 0 (by omega) ⟨fun q => absurd q (by omega), fun q => absurd q.1 (by omega)⟩, fun e => ?_⟩
    have hft : f < t := by omega
    obtain ⟨c1, c2, c3⟩ := hT.2 f hft
    refine ⟨(vp_t (by omega) (by decide)).2 (by omega), ?_⟩
    rw [nI_clamp (by omega), c1, nI_eqI (by omega) (by omega)]
    exact ⟨fun e2 => g104 0 (by omega) ⟨fun q => absurd q (by omega), fun q => absurd q.2 e2⟩, fun e2 => g104 1 (by omega) ⟨fun _ => ⟨by omega, e2⟩, fun _ => rfl⟩⟩
  unfold p_X5_readNumber_12
  simp only [li_0, li_1, li_2, li_3, li_4, li_5, li_6, li_7, li_8, li_9, li_10, li_11, li_12, li_13, li_14, li_15, li_16, li_20, li_26, li_31, li_32, li_36, li_42, li_43, li_48, li_52, li_57, li_58, li_59, li_60, li_63, li_97, li_99, li_104, li_112, li_115, li_119, li_140, li_141, li_142, li_143, li_144, li_145, li_146, li_147, li_148, li_149, li_150, li_151, li_152, li_255, li_303, li_455, li_999, li_1000, li_1510, li_1820, li_2275, li_9999, li_10000, li_100000, li_1048575, li_100000000]
  refine wf1 (q_X5_readNumber_12 rt (nI t) (nI k) item err (nI f) Q) (dgp ch t f) (by omega) (fun j x => dgp ch t j = dgp ch t f ∧ x = nI (if nv ch f (j - f) < 100000 then nv ch f (j - f) else 100000)) f d1 _ ⟨rfl, by rw [Nat.sub_self]; rfl⟩ ?_
  rintro K j x hj0 hj ⟨hP, rfl⟩ hK
  unfold q_X5_readNumber_12
  simp only [li_0, li_1, li_2, li_3, li_4, li_5, li_6, li_7, li_8, li_9, li_10, li_11, li_12, li_13, li_14, li_15, li_16, li_20, li_26, li_31, li_32, li_36, li_42, li_43, li_48, li_52, li_57, li_58, li_59, li_60, li_63, li_97, li_99, li_104, li_112, li_115, li_119, li_140, li_141, li_142, li_143, li_144, li_145, li_146, li_147, li_148, li_149, li_150, li_151, li_152, li_255, li_303, li_455, li_999, li_1000, li_1510, li_1820, li_2275, li_9999, li_10000, li_100000, li_1048575, li_100000000]
  rw [nI_leI (by omega) (by omega)]
  refine ⟨fun hge => ?_, fun hlt => ?_⟩
  · have : j = dgp ch t f := by omega
    subst this
    exact fin ()
  · obtain ⟨c1, c2, c3⟩ := hT.2 j (by omega)
    refine ⟨(vp_t (by omega) (by decide)).2 (by omega), ?_⟩
    rw [nI_clamp (by omega), c1, e_inRangeN (by omega) (by omega) (by omega)]
    refine ⟨fun e => ⟨fun q => absurd q (by decide), fun _ => ⟨(vp_t (by omega) (by decide)).2 (by omega), ?_⟩⟩, fun e => ⟨fun _ => ?_, fun q => absurd rfl q⟩⟩
    · have e2 : dgp ch t j = dgp ch t (j + 1) := dgp_y (by omega) e
      have e3 := (dgp_b (ch := ch) (t := t) (p := j + 1) (by omega)).1
      have hjN : j < dgp ch t f := by
        have : j + 1 ≤ dgp ch t (j + 1) := e3
        omega
      have e4 : nv ch f (j + 1 - f) = nv ch f (j - f) * 10 + (ch j - 48) := by
        rw [show j + 1 - f = (j - f) + 1 by omega]
        show nv ch f (j - f) * 10 + (ch (f + (j - f)) - 48) = _
        rw [show f + (j - f) = j by omega]
      rw [nI_add]
      refine hK hjN _ ⟨by rw [← hP]; exact e2.symm, ?_⟩
      rw [e4]
      have hM : ∃ M, (if nv ch f (j - f) < 100000 then nv ch f (j - f) else 100000) = M ∧ ((nv ch f (j - f) < 100000 ∧ M = nv ch f (j - f)) ∨ (¬ nv ch f (j - f) < 100000 ∧ M = 100000)) := by
        by_cases q : nv ch f (j - f) < 100000
        · exact ⟨_, if_pos q, Or.inl ⟨q, rfl⟩⟩
        · exact ⟨_, if_neg q, Or.inr ⟨q, rfl⟩⟩
      obtain ⟨M, hM1, hM2⟩ := hM
      rw [hM1]
      have em : nI M * nI 10 + nI (ch j) - nI 48 = nI (M * 10 + ch j - 48) := by
        rw [pk_mul, nI_add, pk_sub (by omega)]
      refine ite_I (fun q => ?_) (fun q => ?_)
      · rw [em, nI_ltI (by omega) (by omega)] at q
        rw [em]
        exact congrArg nI (by split <;> omega)
      · rw [em, nI_ltI (by omega) (by omega)] at q
        exact congrArg nI (by split <;> omega)
    · have e2 : dgp ch t j = j := dgp_n (by omega) e
      have e3 : j = dgp ch t f := by omega
      subst e3
      exact fin ()
theorem sb0 : ∀ c, c < 256 → ∀ j, j < 4 → (sByt 0 j = ((nI c).toUInt32 % 65536).toInt32.toInt8.toInt32 ↔ ltz 0 c = j) := by decide +kernel
theorem sb1 : ∀ c, c < 256 → ∀ j, j < 8 → (sByt 1 j = ((nI c).toUInt32 % 65536).toInt32.toInt8.toInt32 ↔ ltz 1 c = j) := by decide +kernel
theorem sc0 : ∀ c, c < 256 → ((nI c).toUInt32 % 65536).toInt32 = nI c := by decide +kernel
theorem i_indexOf {z c : Nat} (hz : z ≤ 1) (hc : c < 256) {Q : Int32 → Prop} (h1 : ¬ ltz z c = 99 → Q (nI (ltz z c))) (h0 : ltz z c = 99 → Q (-nI 1)) : p_J0_indexOf_0f7a4 z (((nI c).toUInt32 % 65536).toInt32) Q := by
  have hsb : ∀ j, j < sLen z → (sByt z j = ((nI c).toUInt32 % 65536).toInt32.toInt8.toInt32 ↔ ltz z c = j) := by
    have : z = 0 ∨ z = 1 := by omega
    rcases this with rfl | rfl
    · exact sb0 c hc
    · exact sb1 c hc
  have hl : sLen z = 4 ∨ sLen z = 8 := by
    have : z = 0 ∨ z = 1 := by omega
    rcases this with rfl | rfl
    · exact Or.inl rfl
    · exact Or.inr rfl
  have hle : ¬ ltz z c = 99 → ltz z c < sLen z := by
    intro e
    have h8 := (ltz_lt e).1
    have : z = 0 ∨ z = 1 := by omega
    rcases this with rfl | rfl
    · have h3 : ∀ c, c < 256 → ¬ ltz 0 c = 99 → ltz 0 c < 4 := by decide +kernel
      exact h3 c hc e
    · exact h8
  have e1 := sc0 c hc
  unfold p_J0_indexOf_0f7a4 p_J0_indexOf_7cf53 p_J0_isLatin1_aae02
  refine ⟨fun e => absurd e (by decide), fun _ => ⟨fun e => absurd rfl e, fun _ => ⟨fun e => absurd e (by decide), fun _ => ?_⟩⟩⟩
  unfold p_J0_length_8abf5 p_J0_coder_7d493
  refine ⟨fun e => absurd e (by decide), fun _ => ?_⟩
  have e2 : (Int32.ofNat (sLen z)) >>> ((0 : Int32) &&& 31) = nI (sLen z) := by
    rcases hl with q | q <;> rw [q] <;> decide
  show p_J1_indexOf_4cfef z (((nI c).toUInt32 % 65536).toInt32) 0 ((Int32.ofNat (sLen z)) >>> ((0 : Int32) &&& 31)) (fun r4 => Q r4)
  rw [e2]
  unfold p_J1_indexOf_4cfef p_J1_canEncode_9a6ad
  have e5 : (if nI (sLen z) < nI (sLen z) then nI (sLen z) else nI (sLen z)) = nI (sLen z) := by split <;> rfl
  have e6 : (if (0 : Int32) < 0 then (0 : Int32) else 0) = nI 0 := by decide
  show ((((nI c).toUInt32 % 65536).toInt32 < 0 → _) ∧ (¬ ((nI c).toUInt32 % 65536).toInt32 < 0 → ((255 < ((nI c).toUInt32 % 65536).toInt32 → _) ∧ (¬ 255 < ((nI c).toUInt32 % 65536).toInt32 → _))))
  refine ⟨fun e => ?_, fun _ => ⟨fun e => ?_, fun _ => ⟨fun _ => ⟨fun _ => ?_, fun e => ?_⟩, fun e => absurd e (by decide)⟩⟩⟩
  · rw [e1] at e
    exact absurd e (nI_pos (by omega))
  · rw [e1] at e
    have := (nI_ltI (a := 255) (b := c) (by omega) (by omega)).1 e
    omega
  · show p_J1_indexOfChar_4cfef z (((nI c).toUInt32 % 65536).toInt32) (if (0 : Int32) < 0 then (0 : Int32) else 0) (if nI (sLen z) < nI (sLen z) then nI (sLen z) else nI (sLen z)) (fun r2 => Q r2)
    rw [e5, e6]
    unfold p_J1_indexOfChar_4cfef p_J1_indexOfChar_4cfef_7
    refine wl0 (q_J1_indexOfChar_4cfef_7 (nI (sLen z)) (((nI c).toUInt32 % 65536).toInt32.toInt8.toInt32) _ z) (if ltz z c = 99 then sLen z else ltz z c) (by split <;> omega) (fun _ => True) 0 (by omega) trivial ?_
    intro K j _ hj _ hK
    have hj8 : j ≤ 99 := by
      split at hj <;> omega
    unfold q_J1_indexOfChar_4cfef_7
    simp only [li_0, li_1, li_2, li_3, li_4, li_5, li_6, li_7, li_8, li_9, li_10, li_11, li_12, li_13, li_14, li_15, li_16, li_20, li_26, li_31, li_32, li_36, li_42, li_43, li_48, li_52, li_57, li_58, li_59, li_60, li_63, li_97, li_99, li_104, li_112, li_115, li_119, li_140, li_141, li_142, li_143, li_144, li_145, li_146, li_147, li_148, li_149, li_150, li_151, li_152, li_255, li_303, li_455, li_999, li_1000, li_1510, li_1820, li_2275, li_9999, li_10000, li_100000, li_1048575, li_100000000, nI_add]
    rw [nI_leI (by omega) (by omega)]
    refine ⟨fun hge => ?_, fun hlt => ⟨(vp_t (by omega) (by omega)).2 (by omega), ?_⟩⟩
    · have h99 : ltz z c = 99 := by
        by_cases q : ltz z c = 99
        · exact q
        · have := hle q
          rw [if_neg q] at hj
          omega
      exact h0 h99
    · rw [nI_clamp (by omega), hsb j (by omega)]
      refine ⟨fun e => hK ?_ () trivial, fun e => ?_⟩
      · split at hj <;> rename_i q
        · rw [if_pos q]
          omega
        · rw [if_neg q]
          omega
      · have h99 : ¬ ltz z c = 99 := by omega
        have := h1 h99
        rw [e] at this
        exact this
  · exact absurd (show (if (0 : Int32) < 0 then (0 : Int32) else 0) < (if nI (sLen z) < nI (sLen z) then nI (sLen z) else nI (sLen z)) by rw [e5, e6]; exact (nI_ltI (by decide) (by omega)).2 (by omega)) e
theorem i_readSet {ch : Nat → Nat} {t : Nat} {rt : Nat → Int32} (hT : txt ch t rt) {z p : Nat} (hz : z ≤ 1) (hp : p ≤ t) {err : Int32} {Q : Int32 → Int32 → Int32 → Prop} (h1 : (rdp ch t z p 0).1 = 1 → Q (nI (rdp ch t z p 0).2.1) (nI (rdp ch t z p 0).2.2) err) (h0 : (rdp ch t z p 0).1 = 0 → Q (-nI 1) (nI (rdp ch t z p 0).2.2) (nI (rdp ch t z p 0).2.2)) : p_X5_readSet z rt (nI t) (nI p) err Q := by
  have ht := hT.1
  unfold p_X5_readSet p_X5_readSet_2
  simp only [li_0, li_1, li_2, li_3, li_4, li_5, li_6, li_7, li_8, li_9, li_10, li_11, li_12, li_13, li_14, li_15, li_16, li_20, li_26, li_31, li_32, li_36, li_42, li_43, li_48, li_52, li_57, li_58, li_59, li_60, li_63, li_97, li_99, li_104, li_112, li_115, li_119, li_140, li_141, li_142, li_143, li_144, li_145, li_146, li_147, li_148, li_149, li_150, li_151, li_152, li_255, li_303, li_455, li_999, li_1000, li_1510, li_1820, li_2275, li_9999, li_10000, li_100000, li_1048575, li_100000000]
  refine wf1 (q_X5_readSet_2 rt (nI t) err Q z) t (by omega) (fun j x => ∃ y, x = nI y ∧ y < 256 ∧ rdp ch t z j y = rdp ch t z p 0) p hp _ ⟨0, rfl, by decide, rfl⟩ ?_
  rintro K j x hj0 hj ⟨y, rfl, hy, hP⟩ hK
  unfold q_X5_readSet_2
  simp only [li_0, li_1, li_2, li_3, li_4, li_5, li_6, li_7, li_8, li_9, li_10, li_11, li_12, li_13, li_14, li_15, li_16, li_20, li_26, li_31, li_32, li_36, li_42, li_43, li_48, li_52, li_57, li_58, li_59, li_60, li_63, li_97, li_99, li_104, li_112, li_115, li_119, li_140, li_141, li_142, li_143, li_144, li_145, li_146, li_147, li_148, li_149, li_150, li_151, li_152, li_255, li_303, li_455, li_999, li_1000, li_1510, li_1820, li_2275, li_9999, li_10000, li_100000, li_1048575, li_100000000]
  rw [nI_leI (by omega) (by omega)]
  refine ⟨fun hge => ?_, fun hlt => ?_⟩
  · have : j = t := by omega
    subst this
    rw [rdp_t] at hP
    rw [← hP] at h1
    exact h1 rfl
  · have hjt : j < t := by omega
    obtain ⟨c1, c2, c3⟩ := hT.2 j hjt
    have hrs := rdp_s ch (z := z) hjt y
    rw [hP] at hrs
    refine ⟨(vp_t (by omega) (by decide)).2 (by omega), ?_⟩
    rw [nI_clamp (by omega), c1]
    unfold p_X5_readSet_48 p_X5_readSet_71 p_X5_readSet_81 p_X5_failAt
    simp only [li_0, li_1, li_2, li_3, li_4, li_5, li_6, li_7, li_8, li_9, li_10, li_11, li_12, li_13, li_14, li_15, li_16, li_20, li_26, li_31, li_32, li_36, li_42, li_43, li_48, li_52, li_57, li_58, li_59, li_60, li_63, li_97, li_99, li_104, li_112, li_115, li_119, li_140, li_141, li_142, li_143, li_144, li_145, li_146, li_147, li_148, li_149, li_150, li_151, li_152, li_255, li_303, li_455, li_999, li_1000, li_1510, li_1820, li_2275, li_9999, li_10000, li_100000, li_1048575, li_100000000, nI_add]
    refine i_indexOf hz (by omega) (fun hl => ?_) (fun hl => ?_)
    · rw [if_neg hl] at hrs
      obtain ⟨l8, l32⟩ := ltz_lt hl
      have hpos : ¬ nI (ltz z (ch j)) < nI 0 := nI_pos (by omega)
      refine ⟨fun _ => ⟨fun e => absurd e hpos, fun _ => ?_⟩, fun e => absurd (nI_pos' (by omega)) e⟩
      rw [e_has (by omega) (by omega)]
      refine ⟨fun e => ⟨fun q => absurd q (by decide), fun _ => ?_⟩, fun e => ⟨fun _ => ⟨fun q => absurd q hpos, fun _ => ?_⟩, fun q => absurd rfl q⟩⟩
      · rw [if_pos e] at hrs
        rw [hrs] at h0
        exact h0 rfl
      · rw [if_neg e] at hrs
        rw [e_shl (by omega), e_orI]
        exact hK hjt _ ⟨_, rfl, Nat.or_lt_two_pow (n := 8) hy (Nat.pow_lt_pow_right (by decide) l8), hrs.symm⟩
    · rw [if_pos hl] at hrs
      have hneg : (-nI 1 : Int32) < nI 0 := by decide
      refine ⟨fun e => absurd e (by decide), fun _ => ⟨(vp_t (by omega) (by decide)).2 (by omega), ?_⟩⟩
      rw [nI_eqI (by omega) (by omega)]
      refine ⟨fun e => ⟨fun _ => ⟨fun _ => ?_, fun q => absurd hneg q⟩, fun q => absurd hneg q⟩, fun e => ?_⟩
      · rw [if_pos e] at hrs
        exact hK hjt _ ⟨y, rfl, hy, hrs.symm⟩
      · rw [if_neg e] at hrs
        rw [hrs] at h1
        exact h1 rfl
/-! ===== the reference reads ===== -/
theorem i_here {ch : Nat → Nat} {t : Nat} {mt : Nat → Int32} (hT : txt ch t mt) {p : Nat} (hp : p ≤ t) {Q : Int32 → Prop} (h : Q (nI (if p < t then ch p else 0))) : p_X9_here mt (nI t) (nI p) Q := by
  have ht := hT.1
  unfold p_X9_here
  rw [nI_leI (by omega) (by omega)]
  refine ⟨fun e => ?_, fun e => ⟨(vp_t (by omega) (by decide)).2 (by omega), ?_⟩⟩
  · rw [if_neg (by omega)] at h
    exact h
  · rw [if_pos (by omega)] at h
    rw [nI_clamp (by omega), (hT.2 p (by omega)).1]
    exact h
theorem i_overSpaces {ch : Nat → Nat} {t : Nat} {mt : Nat → Int32} (hT : txt ch t mt) {p : Nat} (hp : p ≤ t) {Q : Int32 → Prop} (h : Q (nI (skp ch t p))) : p_X9_overSpaces mt (nI t) (nI p) Q := by
  obtain ⟨h1, h2, h3⟩ := skp_b (ch := ch) (t := t) hp
  have ht := hT.1
  unfold p_X9_overSpaces p_X9_overSpaces_0
  refine wl0 (q_X9_overSpaces_0 mt (nI t) Q) (skp ch t p) (by omega) (fun k => skp ch t k = skp ch t p) p h1 rfl ?_
  intro K k hk0 hk hP hK
  unfold q_X9_overSpaces_0
  refine i_here hT (by omega) ?_
  simp only [li_0, li_1, li_2, li_3, li_4, li_5, li_6, li_7, li_8, li_9, li_10, li_11, li_12, li_13, li_14, li_15, li_16, li_20, li_26, li_31, li_32, li_36, li_42, li_43, li_48, li_52, li_57, li_58, li_59, li_60, li_63, li_97, li_99, li_104, li_112, li_115, li_119, li_140, li_141, li_142, li_143, li_144, li_145, li_146, li_147, li_148, li_149, li_150, li_151, li_152, li_255, li_303, li_455, li_999, li_1000, li_1510, li_1820, li_2275, li_9999, li_10000, li_100000, li_1048575, li_100000000, nI_add]
  by_cases e : k < t
  · have c3 := (hT.2 k e).2.2
    rw [if_pos e, nI_eqI (by omega) (by omega)]
    refine ⟨fun e2 => ?_, fun e2 => ?_⟩
    · have e3 : skp ch t k = k := skp_n e e2
      have e4 : k = skp ch t p := by omega
      subst e4
      exact h
    · have e3 : skp ch t k = skp ch t (k + 1) := skp_y e e2
      have e4 : k + 1 ≤ skp ch t (k + 1) := (skp_b (ch := ch) (t := t) (p := k + 1) (by omega)).1
      exact hK (by omega) () (by rw [← hP]; exact e3.symm)
  · rw [if_neg e]
    have e4 : k = skp ch t p := by omega
    subst e4
    exact ⟨fun _ => h, fun q => absurd q (by decide)⟩
theorem i_reads {ch : Nat → Nat} {t : Nat} {mt : Nat → Int32} (hT : txt ch t mt) {p c : Nat} (hp : p ≤ t) (hc : 1 ≤ c ∧ c ≤ 255) {Q : Int32 → Int32 → Prop} (h1 : p < t ∧ ch p = c → Q (nI 1) (nI (p + 1))) (h0 : ¬ (p < t ∧ ch p = c) → Q (nI 0) (nI p)) : p_X9_reads mt (nI t) (nI p) (nI c) Q := by
  unfold p_X9_reads p_X9_reads_13 p_X9_reads_28
  refine i_here hT hp ?_
  simp only [li_0, li_1, li_2, li_3, li_4, li_5, li_6, li_7, li_8, li_9, li_10, li_11, li_12, li_13, li_14, li_15, li_16, li_20, li_26, li_31, li_32, li_36, li_42, li_43, li_48, li_52, li_57, li_58, li_59, li_60, li_63, li_97, li_99, li_104, li_112, li_115, li_119, li_140, li_141, li_142, li_143, li_144, li_145, li_146, li_147, li_148, li_149, li_150, li_151, li_152, li_255, li_303, li_455, li_999, li_1000, li_1510, li_1820, li_2275, li_9999, li_10000, li_100000, li_1048575, li_100000000, nI_add, Nat.add_zero]
  by_cases e : p < t
  · have c3 := (hT.2 p e).2.2
    rw [if_pos e, nI_eqI (by omega) (by omega)]
    exact ⟨fun e2 => ⟨fun _ => h0 (fun q => e2 q.2), fun q => absurd trivial q⟩, fun e2 => ⟨fun q => absurd q (by decide), fun _ => h1 ⟨e, e2⟩⟩⟩
  · rw [if_neg e, nI_eqI (by omega) (by omega)]
    exact ⟨fun e2 => ⟨fun _ => h0 (fun q => e q.1), fun q => absurd trivial q⟩, fun e2 => absurd e2 (by omega)⟩
theorem i_readNumber9 {ch : Nat → Nat} {t : Nat} {mt : Nat → Int32} (hT : txt ch t mt) {p lo hi : Nat} (hp : p ≤ t) (hhi : hi ≤ 9999) (hlo : lo ≤ hi) {Q : Int32 → Int32 → Int32 → Prop} (h1 : okN ch t lo hi (skp ch t p) → Q (nI 1) (nI (skp ch t (dgp ch t (skp ch t p)))) (nI (nv ch (skp ch t p) (dgp ch t (skp ch t p) - skp ch t p)))) (h0 : ¬ okN ch t lo hi (skp ch t p) → ∀ v, Q (nI 0) (nI (skp ch t p)) v) : p_X9_readNumber mt (nI t) (nI p) (nI lo) (nI hi) Q := by
  have ht := hT.1
  have hid := skp_i (ch := ch) hp
  obtain ⟨f1, f2, f3⟩ := skp_b (ch := ch) (t := t) hp
  unfold p_X9_readNumber
  refine i_overSpaces hT hp ?_
  generalize skp ch t p = f at *
  obtain ⟨d1, d2, d3⟩ := dgp_b (ch := ch) (t := t) f2
  unfold p_X9_readNumber_14
  simp only [li_0, li_1, li_2, li_3, li_4, li_5, li_6, li_7, li_8, li_9, li_10, li_11, li_12, li_13, li_14, li_15, li_16, li_20, li_26, li_31, li_32, li_36, li_42, li_43, li_48, li_52, li_57, li_58, li_59, li_60, li_63, li_97, li_99, li_104, li_112, li_115, li_119, li_140, li_141, li_142, li_143, li_144, li_145, li_146, li_147, li_148, li_149, li_150, li_151, li_152, li_255, li_303, li_455, li_999, li_1000, li_1510, li_1820, li_2275, li_9999, li_10000, li_100000, li_1048575, li_100000000]
  refine wf1 (q_X9_readNumber_14 mt (nI t) (nI lo) (nI hi) (nI f) Q) (dgp ch t f) (by omega) (fun j x => dgp ch t j = dgp ch t f ∧ ∃ w, x = nI w ∧ w ≤ 99999 ∧ (nv ch f (j - f) ≤ 9999 → w = nv ch f (j - f)) ∧ (9999 < nv ch f (j - f) → 9999 < w)) f d1 _ ⟨rfl, 0, rfl, by omega, fun _ => by rw [Nat.sub_self]; rfl, fun q => absurd q (by rw [Nat.sub_self]; show ¬ 9999 < 0; omega)⟩ ?_
  rintro K j x hj0 hj ⟨hP, w, rfl, hw0, hw1, hw2⟩ hK
  have fin : j = dgp ch t f → ((nI j ≤ nI f → p_X9_readNumber_115 mt (nI t) (nI j) (nI w) (nI f) Q) ∧ (¬ nI j ≤ nI f → p_X9_in (nI w) (nI lo) (nI hi) (fun r3 => ((r3 = nI 0 → p_X9_readNumber_115 mt (nI t) (nI j) (nI w) (nI f) Q) ∧ (¬ r3 = nI 0 → vp_in (nI f) 140 ∧ ((¬ (mt (nI f).toNatClampNeg) = nI 48 → p_X9_readNumber_111 mt (nI t) (nI j) (nI w) (nI f) Q) ∧ ((mt (nI f).toNatClampNeg) = nI 48 → ((¬ nI j = (nI f + nI 1) → p_X9_readNumber_115 mt (nI t) (nI j) (nI w) (nI f) Q) ∧ (nI j = (nI f + nI 1) → p_X9_readNumber_111 mt (nI t) (nI j) (nI w) (nI f) Q))))))))) := by
    intro hjd
    have bad : ¬ okN ch t lo hi f → p_X9_readNumber_115 mt (nI t) (nI j) (nI w) (nI f) Q := by
      intro hb
      unfold p_X9_readNumber_115 p_X9_readNumber_116 p_X9_readNumber_132
      refine ⟨fun _ => i_overSpaces hT f2 ?_, fun q => absurd rfl q⟩
      rw [hid]
      exact h0 hb _
    have good : okN ch t lo hi f → p_X9_readNumber_111 mt (nI t) (nI j) (nI w) (nI f) Q := by
      intro hg
      unfold p_X9_readNumber_111 p_X9_readNumber_116 p_X9_readNumber_132
      refine ⟨fun q => absurd q (by decide), fun _ => i_overSpaces hT (by omega) ?_⟩
      have hv : w = nv ch f (dgp ch t f - f) := by
        rw [← hjd]
        exact hw1 (by have := hg.2.2.2; rw [← hjd] at this; omega)
      rw [hv, hjd]
      exact h1 hg
    have hwr : (lo ≤ w ∧ w ≤ hi) ↔ (lo ≤ nv ch f (dgp ch t f - f) ∧ nv ch f (dgp ch t f - f) ≤ hi) := by
      rw [hjd] at hw1 hw2
      by_cases q : nv ch f (dgp ch t f - f) ≤ 9999
      · rw [hw1 q]
      · have := hw2 (by omega)
        omega
    rw [nI_leI (by omega) (by omega), e_inN (by omega) (by omega) (by omega), hwr]
    refine ⟨fun e => bad (fun q => absurd q.1 (by omega)), fun e => ⟨fun e2 => ⟨fun q => absurd q (by decide), fun _ => ?_⟩, fun e2 => ⟨fun _ => bad (fun q => e2 q.2.2), fun q => absurd rfl q⟩⟩⟩
    have hft : f < t := by omega
    have c3 := (hT.2 f hft).2.2
    refine ⟨(vp_t (by omega) (by decide)).2 (by omega), ?_⟩
    rw [nI_clamp (by omega), (hT.2 f hft).1, nI_eqI (by omega) (by omega), nI_add, nI_eqI (by omega) (by omega)]
    refine ⟨fun e3 => good ⟨by omega, fun q => e3 q.2, e2⟩, fun e3 => ⟨fun e4 => bad (fun q => q.2.1 ⟨by omega, e3⟩), fun e4 => good ⟨by omega, fun q => by omega, e2⟩⟩⟩
  unfold q_X9_readNumber_14 p_X9_isFigure
  simp only [li_0, li_1, li_2, li_3, li_4, li_5, li_6, li_7, li_8, li_9, li_10, li_11, li_12, li_13, li_14, li_15, li_16, li_20, li_26, li_31, li_32, li_36, li_42, li_43, li_48, li_52, li_57, li_58, li_59, li_60, li_63, li_97, li_99, li_104, li_112, li_115, li_119, li_140, li_141, li_142, li_143, li_144, li_145, li_146, li_147, li_148, li_149, li_150, li_151, li_152, li_255, li_303, li_455, li_999, li_1000, li_1510, li_1820, li_2275, li_9999, li_10000, li_100000, li_1048575, li_100000000]
  refine i_here hT (by omega) ?_
  by_cases e : j < t
  · obtain ⟨c1, c2, c3⟩ := hT.2 j e
    rw [if_pos e, e_inN (by omega) (by omega) (by omega)]
    refine ⟨fun e2 => ⟨fun q => absurd q (by decide), fun _ => ?_⟩, fun e2 => ⟨fun _ => fin ?_, fun q => absurd rfl q⟩⟩
    · have e3 : dgp ch t j = dgp ch t (j + 1) := dgp_y e e2
      have e4 : j + 1 ≤ dgp ch t (j + 1) := (dgp_b (ch := ch) (t := t) (p := j + 1) (by omega)).1
      have e5 : nv ch f (j + 1 - f) = nv ch f (j - f) * 10 + (ch j - 48) := by
        rw [show j + 1 - f = (j - f) + 1 by omega]
        show nv ch f (j - f) * 10 + (ch (f + (j - f)) - 48) = _
        rw [show f + (j - f) = j by omega]
      rw [nI_leI (by omega) (by omega)]
      unfold p_X9_readNumber_54
      simp only [li_0, li_1, li_2, li_3, li_4, li_5, li_6, li_7, li_8, li_9, li_10, li_11, li_12, li_13, li_14, li_15, li_16, li_20, li_26, li_31, li_32, li_36, li_42, li_43, li_48, li_52, li_57, li_58, li_59, li_60, li_63, li_97, li_99, li_104, li_112, li_115, li_119, li_140, li_141, li_142, li_143, li_144, li_145, li_146, li_147, li_148, li_149, li_150, li_151, li_152, li_255, li_303, li_455, li_999, li_1000, li_1510, li_1820, li_2275, li_9999, li_10000, li_100000, li_1048575, li_100000000, nI_add]
      refine ⟨fun e6 => i_here hT (by omega) ?_, fun e6 => ?_⟩
      · rw [if_pos e, pk_mul, nI_add, pk_sub (by omega)]
        refine hK (by omega) _ ⟨by rw [← hP]; exact e3.symm, _, rfl, by omega, fun q => ?_, fun q => ?_⟩
        · rw [e5] at q ⊢
          have := hw1 (by omega)
          omega
        · rw [e5] at q
          by_cases q2 : nv ch f (j - f) ≤ 9999
          · have := hw1 q2
            omega
          · have := hw2 (by omega)
            omega
      · refine hK (by omega) _ ⟨by rw [← hP]; exact e3.symm, w, rfl, hw0, fun q => ?_, fun _ => by omega⟩
        rw [e5] at q
        have := hw1 (by omega)
        omega
    · have e3 : dgp ch t j = j := dgp_n e e2
      omega
  · rw [if_neg e, e_inN (by omega) (by omega) (by omega)]
    refine ⟨fun e2 => absurd e2.1 (by omega), fun e2 => ⟨fun _ => fin (by omega), fun q => absurd rfl q⟩⟩
theorem i_letterOf {z c : Nat} (hz : z ≤ 1) (hc : c < 256) {Q : Int32 → Prop} (h1 : ¬ ltz z c = 99 → Q (nI (ltz z c))) (h0 : ltz z c = 99 → Q (-nI 99)) : p_X9_letterOf (nI c) (nI (1 - z)) Q := by
  unfold p_X9_letterOf
  have : z = 0 ∨ z = 1 := by omega
  rcases this with rfl | rfl
  · refine ⟨fun _ => ?_, fun e => absurd e (by decide)⟩
    simp only [li_0, li_1, li_2, li_3, li_4, li_5, li_6, li_7, li_8, li_9, li_10, li_11, li_12, li_13, li_14, li_15, li_16, li_20, li_26, li_31, li_32, li_36, li_42, li_43, li_48, li_52, li_57, li_58, li_59, li_60, li_63, li_97, li_99, li_104, li_112, li_115, li_119, li_140, li_141, li_142, li_143, li_144, li_145, li_146, li_147, li_148, li_149, li_150, li_151, li_152, li_255, li_303, li_455, li_999, li_1000, li_1510, li_1820, li_2275, li_9999, li_10000, li_100000, li_1048575, li_100000000]
    rw [nI_eqI (by omega) (by omega), nI_eqI (by omega) (by omega), nI_eqI (by omega) (by omega), nI_eqI (by omega) (by omega)]
    unfold ltz at h1 h0
    rw [if_pos rfl] at h1 h0
    refine ⟨fun a1 => ⟨fun a2 => ⟨fun a3 => ⟨fun a4 => ?_, fun a4 => ?_⟩, fun a3 => ?_⟩, fun a2 => ?_⟩, fun a1 => ?_⟩
    · rw [if_neg a1, if_neg a2, if_neg a3, if_neg a4] at h0
      exact h0 rfl
    · rw [if_neg a1, if_neg a2, if_neg a3, if_pos a4] at h1
      exact h1 (by decide)
    · rw [if_neg a1, if_neg a2, if_pos a3] at h1
      exact h1 (by decide)
    · rw [if_neg a1, if_pos a2] at h1
      exact h1 (by decide)
    · rw [if_pos a1] at h1
      exact h1 (by decide)
  · refine ⟨fun e => absurd rfl e, fun _ => ?_⟩
    simp only [li_0, li_1, li_2, li_3, li_4, li_5, li_6, li_7, li_8, li_9, li_10, li_11, li_12, li_13, li_14, li_15, li_16, li_20, li_26, li_31, li_32, li_36, li_42, li_43, li_48, li_52, li_57, li_58, li_59, li_60, li_63, li_97, li_99, li_104, li_112, li_115, li_119, li_140, li_141, li_142, li_143, li_144, li_145, li_146, li_147, li_148, li_149, li_150, li_151, li_152, li_255, li_303, li_455, li_999, li_1000, li_1510, li_1820, li_2275, li_9999, li_10000, li_100000, li_1048575, li_100000000]
    rw [e_inN (by omega) (by omega) (by omega)]
    unfold ltz at h1 h0
    rw [if_neg (by decide)] at h1 h0
    refine ⟨fun a => ⟨fun q => absurd q (by decide), fun _ => ?_⟩, fun a => ⟨fun _ => ?_, fun q => absurd rfl q⟩⟩
    · rw [if_pos a] at h1
      rw [pk_sub a.1]
      exact h1 (by omega)
    · rw [if_neg a] at h0
      exact h0 rfl
theorem i_readLetters {ch : Nat → Nat} {t : Nat} {mt : Nat → Int32} (hT : txt ch t mt) {z p : Nat} (hz : z ≤ 1) (hp : p ≤ t) {Q : Int32 → Int32 → Int32 → Prop} (h1 : (rdp ch t z p 0).1 = 1 → Q (nI 1) (nI (rdp ch t z p 0).2.2) (nI (rdp ch t z p 0).2.1)) (h0 : (rdp ch t z p 0).1 = 0 → ∀ v, Q (nI 0) (nI (rdp ch t z p 0).2.2) v) : p_X9_readLetters mt (nI t) (nI p) (nI (1 - z)) Q := by
  have ht := hT.1
  have hsk : ∀ {p : Nat}, p ≤ t → p ≤ skp ch t p ∧ skp ch t p ≤ t := fun hp => by
    have := skp_b (ch := ch) (t := t) hp
    exact ⟨this.1, this.2.1⟩
  have hch : ∀ f, f ≤ t → (if f < t then ch f else 0) < 256 := by
    intro f _
    split
    · rename_i q
      have := (hT.2 f q).2.2
      omega
    · decide
  unfold p_X9_readLetters
  refine i_overSpaces hT hp ?_
  have hs := hsk hp
  refine i_here hT hs.2 ?_
  -- the loop's head, with the letter that stands there
  have head : ∀ (Q' : Int32 → Prop) f, f ≤ t → (∀ x : Int32, (x = if ltz z (if f < t then ch f else 0) = 99 then -nI 99 else nI (ltz z (if f < t then ch f else 0))) → Q' x) → p_X9_letterOf (nI (if f < t then ch f else 0)) (nI (1 - z)) Q' := by
    intro Q' f hf hq
    exact i_letterOf hz (hch f hf) (fun e => hq _ (if_neg e).symm) (fun e => hq _ (if_pos e).symm)
  refine head _ _ hs.2 ?_
  intro x0 hx0
  unfold p_X9_readLetters_18
  refine ⟨fun a b x => ∃ f y, a = nI f ∧ b = nI y ∧ f ≤ t ∧ y < 256 ∧ skp ch t f = f ∧ rdp ch t z f y = rdp ch t z p 0 ∧ x = (if ltz z (if f < t then ch f else 0) = 99 then -nI 99 else nI (ltz z (if f < t then ch f else 0))), fun a b x => t - a.toNatClampNeg, ⟨skp ch t p, 0, rfl, rfl, hs.2, by decide, skp_i hp, rdp_skp ch 0 rfl hp, hx0⟩, ?_⟩
  rintro a b x ⟨f, y, rfl, rfl, hf, hy, hff, hP, rfl⟩
  unfold q_X9_readLetters_18
  simp only [li_0, li_1, li_2, li_3, li_4, li_5, li_6, li_7, li_8, li_9, li_10, li_11, li_12, li_13, li_14, li_15, li_16, li_20, li_26, li_31, li_32, li_36, li_42, li_43, li_48, li_52, li_57, li_58, li_59, li_60, li_63, li_97, li_99, li_104, li_112, li_115, li_119, li_140, li_141, li_142, li_143, li_144, li_145, li_146, li_147, li_148, li_149, li_150, li_151, li_152, li_255, li_303, li_455, li_999, li_1000, li_1510, li_1820, li_2275, li_9999, li_10000, li_100000, li_1048575, li_100000000, nI_add]
  by_cases e : f < t
  · rw [if_pos e]
    have hrs := rdp_s ch (z := z) e y
    rw [hP] at hrs
    have h32 : ¬ ch f = 32 := fun q => by
      have e3 : skp ch t f = skp ch t (f + 1) := skp_y e q
      have e4 := (hsk (p := f + 1) (by omega)).1
      omega
    by_cases hl : ltz z (ch f) = 99
    · rw [if_pos hl] at hrs ⊢
      rw [if_neg h32] at hrs
      refine ⟨fun _ => ?_, fun q => absurd (by decide) q⟩
      rw [hrs] at h1
      exact h1 rfl
    · rw [if_neg hl] at hrs ⊢
      obtain ⟨l8, _⟩ := ltz_lt hl
      have hpos : ¬ nI (ltz z (ch f)) < nI 0 := nI_pos (by omega)
      refine ⟨fun q => absurd q hpos, fun _ => ?_⟩
      rw [e_has9 (by omega) (by omega)]
      refine ⟨fun e2 => ⟨fun q => absurd q (by decide), fun _ => ?_⟩, fun e2 => ⟨fun _ => ?_, fun q => absurd rfl q⟩⟩
      · rw [if_pos e2] at hrs
        rw [hrs] at h0
        exact h0 rfl _
      · rw [if_neg e2] at hrs
        refine i_overSpaces hT (by omega) ?_
        have hs2 := hsk (p := f + 1) (by omega)
        refine i_here hT hs2.2 ?_
        refine head _ _ hs2.2 ?_
        intro x2 hx2
        rw [e_shl (by omega), e_orI]
        refine ⟨⟨skp ch t (f + 1), _, rfl, rfl, hs2.2, Nat.or_lt_two_pow (n := 8) hy (Nat.pow_lt_pow_right (by decide) l8), skp_i (by omega), ?_, hx2⟩, ?_⟩
        · rw [rdp_skp ch _ rfl (by omega)]
          exact hrs.symm
        · show t - (nI (skp ch t (f + 1))).toNatClampNeg < t - (nI f).toNatClampNeg
          rw [nI_clamp (by omega), nI_clamp (by omega)]
          omega
  · have : f = t := by omega
    subst this
    rw [if_neg e, if_pos (ltz_0 z)]
    refine ⟨fun _ => ?_, fun q => absurd (by decide) q⟩
    rw [rdp_t] at hP
    rw [← hP] at h1
    exact h1 rfl

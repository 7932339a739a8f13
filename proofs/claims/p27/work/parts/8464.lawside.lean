/-! ===== sums over the lines of a side ===== -/
theorem sm_one {f : Nat → Nat} {n i : Nat} (hi : i < n) (h : ∀ j, j < n → ¬ j = i → f j = 0) : sm f n = f i := by
  induction n with
  | zero => exact absurd hi (Nat.not_lt_zero _)
  | succ n ih =>
    show sm f n + f n = f i
    by_cases c : i = n
    · subst c
      rw [sm_zero (fun j hj => h j (by omega) (by omega)), Nat.zero_add]
    · rw [ih (by omega) (fun j hj hji => h j (by omega) hji), h n (by omega) (fun e => c e.symm), Nat.add_zero]
theorem sm_const (c : Nat) : ∀ n, sm (fun _ => c) n = c * n
  | 0 => rfl
  | n + 1 => by
    show sm (fun _ => c) n + c = c * (n + 1)
    rw [sm_const c n, Nat.mul_succ]
theorem sm_swap (F : Nat → Nat → Nat) (n : Nat) : ∀ m, sm (fun x => sm (fun i => F x i) n) m = sm (fun i => sm (fun x => F x i) m) n
  | 0 => (sm_zero (fun _ _ => rfl)).symm
  | m + 1 => by
    have h := sm_add (fun i => sm (fun x => F x i) m) (fun i => F m i) n
    show sm (fun x => sm (fun i => F x i) n) m + sm (fun i => F m i) n = sm (fun i => sm (fun x => F x i) m + F m i) n
    rw [h, sm_swap F n m]
theorem sm_win0 {f : Nat → Nat} {b l : Nat} : ∀ T, sm (fun x => if b ≤ x ∧ x < b + l then f (x - b) else 0) T = sm f (if T ≤ b then 0 else if T < b + l then T - b else l)
  | 0 => by
    rw [if_pos (Nat.zero_le _)]
    rfl
  | T + 1 => by
    have ih := sm_win0 (f := f) (b := b) (l := l) T
    show sm (fun x => if b ≤ x ∧ x < b + l then f (x - b) else 0) T + (if b ≤ T ∧ T < b + l then f (T - b) else 0) = _
    rw [ih]
    by_cases c1 : T < b
    · rw [if_pos (show T ≤ b by omega), if_neg (show ¬ (b ≤ T ∧ T < b + l) by omega), if_pos (show T + 1 ≤ b by omega), Nat.add_zero]
    · by_cases c2 : T < b + l
      · rw [if_pos (show b ≤ T ∧ T < b + l from ⟨by omega, c2⟩), if_neg (show ¬ T + 1 ≤ b by omega)]
        have e : (if T ≤ b then 0 else if T < b + l then T - b else l) = T - b := by
          by_cases c3 : T ≤ b
          · rw [if_pos c3]
            omega
          · rw [if_neg c3, if_pos c2]
        have e2 : (if T + 1 < b + l then T + 1 - b else l) = (T - b) + 1 := by
          by_cases c3 : T + 1 < b + l
          · rw [if_pos c3]
            omega
          · rw [if_neg c3]
            omega
        rw [e, e2]
        rfl
      · rw [if_neg (show ¬ (b ≤ T ∧ T < b + l) by omega), if_neg (show ¬ T + 1 ≤ b by omega), if_neg (show ¬ T + 1 < b + l by omega), Nat.add_zero]
        by_cases c3 : T ≤ b
        · rw [if_pos c3]
          have : l = 0 := by omega
          rw [this]
        · rw [if_neg c3, if_neg c2]
theorem sm_win {f : Nat → Nat} {b l T : Nat} (h : b + l ≤ T) : sm (fun x => if b ≤ x ∧ x < b + l then f (x - b) else 0) T = sm f l := by
  rw [sm_win0]
  by_cases c : T ≤ b
  · rw [if_pos c]
    have : l = 0 := by omega
    rw [this]
  · rw [if_neg c, if_neg (by omega)]
/-- what a line has of f: f of its block and its index there -/
def lv (f : sE → Nat → Nat) (Y : List sE) (a x : Nat) : Nat := sm (fun i => if bgn Y a i ≤ x ∧ x < bgn Y a i + eL (nt Y i) then f (nt Y i) (x - bgn Y a i) else 0) Y.length
theorem hit_w {Y : List sE} (hY : okL Y) {a x i : Nat} (hi : i < Y.length) : hit Y a x i ↔ bgn Y a i ≤ x ∧ x < bgn Y a i + eL (nt Y i) := by
  have o1 := (hY.1 _ (nt_mem hi)).2.2.2.1
  unfold hit
  omega
theorem lv_hit {f : sE → Nat → Nat} {Y : List sE} (hY : okL Y) {a x i : Nat} (hi : i < Y.length) (h : hit Y a x i) : lv f Y a x = f (nt Y i) (x - bgn Y a i) := by
  unfold lv
  rw [sm_one hi (fun j hj hji => ?_)]
  · exact if_pos ((hit_w hY hi).1 h)
  · refine if_neg (fun q => hji ?_)
    exact hit_one hY hj hi ((hit_w hY hj).2 q) h
theorem lv_no {f : sE → Nat → Nat} {Y : List sE} (hY : okL Y) {a x : Nat} (h : ∀ i, i < Y.length → ¬ hit Y a x i) : lv f Y a x = 0 :=
  sm_zero (fun j hj => if_neg (fun q => h j hj ((hit_w hY hj).2 q)))
theorem lv_sum {f : sE → Nat → Nat} {Y : List sE} {a T : Nat} (h : ∀ i, i < Y.length → bgn Y a i + eL (nt Y i) ≤ T) : sm (lv f Y a) T = ls (fun e => sm (f e) (eL e)) Y := by
  have h1 := sm_swap (fun x i => if bgn Y a i ≤ x ∧ x < bgn Y a i + eL (nt Y i) then f (nt Y i) (x - bgn Y a i) else 0) Y.length T
  have h2 : sm (fun i => sm (fun x => if bgn Y a i ≤ x ∧ x < bgn Y a i + eL (nt Y i) then f (nt Y i) (x - bgn Y a i) else 0) T) Y.length = sm (fun i => sm (f (nt Y i)) (eL (nt Y i))) Y.length := sm_cong (fun i hi => sm_win (h i hi))
  exact h1.trans (h2.trans (sm_ls (fun e => sm (f e) (eL e)) Y))
theorem lsc {f g : sE → Nat} : ∀ {A : List sE}, (∀ e, e ∈ A → f e = g e) → ls f A = ls g A
  | [], _ => rfl
  | e :: A, h => by
    show f e + ls f A = g e + ls g A
    rw [h e List.mem_cons_self, lsc (fun e' he => h e' (List.mem_cons_of_mem _ he))]
theorem ls_mul (c : Nat) (f : sE → Nat) : ∀ A : List sE, ls (fun e => c * f e) A = c * ls f A
  | [] => rfl
  | e :: A => by
    show c * f e + ls (fun e => c * f e) A = c * (f e + ls f A)
    rw [ls_mul c f A, Nat.mul_add]
theorem bgn_end {m : aM} (hm : okM m) {t : Nat} (ht : t < 2) {i : Nat} (hi : i < (xm m t).length) : bgn (xm m t) (flt m t) i + eL (nt (xm m t) i) ≤ tot1 m t := by
  have h1 : bgn (xm m t) (flt m t) i + eL (nt (xm m t) i) = sm (fun k => fil (xm m t) (flt m t) k + eA (nt (xm m t) k)) (i + 1) := by
    have e : sm (fun k => fil (xm m t) (flt m t) k + eA (nt (xm m t) k)) (i + 1) = sm (fun k => fil (xm m t) (flt m t) k + eA (nt (xm m t) k)) i + (fil (xm m t) (flt m t) i + eA (nt (xm m t) i)) := rfl
    rw [e]
    unfold bgn eA
    omega
  have h2 := sm_mono (fun k => fil (xm m t) (flt m t) k + eA (nt (xm m t) k)) (a := i + 1) (b := (xm m t).length) hi
  have h3 := sm_add (fil (xm m t) (flt m t)) (fun k => eA (nt (xm m t) k)) (xm m t).length
  have h4 : sm (fil (xm m t) (flt m t)) (xm m t).length = flt m t := fld_sm (xm_ok hm) (m.2.2.1 4) t ht
  have h5 := sm_ls eA (xm m t)
  have h6 : tot1 m t = ls eA (xm m t) + flt m t := rfl
  omega
theorem tot_eS {m : aM} (hm : okM m) {t : Nat} (ht : t < 2) : tot1 m t = ls eL (xm m t) + (ls (pf 2) (xm m t) + flt m t) := by
  have h1 : ls eA (xm m t) = ls eL (xm m t) + ls eS (xm m t) := ls_add eL eS (xm m t)
  have h2 : ls (pf 2) (xm m t) = ls eS (xm m t) := lsc (fun e _ => rfl)
  have h6 : tot1 m t = ls eA (xm m t) + flt m t := rfl
  omega
/-! ===== what is summed: kinds, all, weights, letters of a dish ===== -/
def fK (j : Nat) (e : sE) (_ : Nat) : Nat := if eK e = j then 1 else 0
def fA (_ : sE) (_ : Nat) : Nat := 1
def fW (m : aM) (e : sE) (w : Nat) : Nat := if eK e = 1 then (if w = 0 then 6 else 0) else if eK e = 2 then m.2.1 (eN e) 5 + (if w = 0 then 2 else 0) else min 3 (pc (kym m) - 3 * w)
def fL (m : aM) (d : Nat) (e : sE) (w : Nat) : Nat := if eK e = 2 ∧ eN e = d then ltr (tx m.2.1 d) (w * m.2.2.1 1) (m.2.2.1 1) else 0
theorem fK_sum (j : Nat) (e : sE) : sm (fK j e) (eL e) = if eK e = j then eL e else 0 := by
  have h := sm_const (if eK e = j then 1 else 0) (eL e)
  have h2 : sm (fK j e) (eL e) = sm (fun _ => if eK e = j then 1 else 0) (eL e) := rfl
  rw [h2, h]
  by_cases c : eK e = j
  · rw [if_pos c, if_pos c, Nat.one_mul]
  · rw [if_neg c, if_neg c, Nat.zero_mul]
theorem fA_sum (e : sE) : sm (fA e) (eL e) = eL e := by
  have h2 : sm (fA e) (eL e) = sm (fun _ => 1) (eL e) := rfl
  rw [h2, sm_const, Nat.one_mul]
theorem sm_first (q c : Nat) : ∀ l, sm (fun w => q + if w = 0 then c else 0) (l + 1) = q * (l + 1) + c
  | 0 => by
    show 0 + (q + if 0 = 0 then c else 0) = q * 1 + c
    rw [if_pos rfl]
    omega
  | l + 1 => by
    show sm (fun w => q + if w = 0 then c else 0) (l + 1) + (q + if l + 1 = 0 then c else 0) = q * (l + 2) + c
    rw [sm_first q c l, if_neg (by omega), Nat.mul_succ q (l + 1)]
    omega
theorem key_sum : ∀ k, k ≤ 8 → sm (fun w => min 3 (k - 3 * w)) ((k + 2) / 3) = k := by decide +kernel
theorem fW_sum {m : aM} (hm : okM m) {t : Nat} {e : sE} (he : e ∈ xm m t) (h1 : 1 ≤ eL e) : sm (fW m e) (eL e) = eW e := by
  rcases blk he with ⟨k1, _, _, k4, _, k6⟩ | ⟨k1, _, _, _, _, k6⟩ | ⟨k1, _, _, k4, _, k6⟩
  · rw [k4, k6]
    show 0 + fW m e 0 + fW m e 1 = 6
    unfold fW
    rw [if_pos k1, if_pos k1]
    rfl
  · rw [k6]
    have h2 : sm (fW m e) (eL e) = sm (fun w => m.2.1 (eN e) 5 + if w = 0 then 2 else 0) (eL e) := sm_cong (fun w _ => by
      unfold fW
      rw [if_neg (by omega), if_pos k1])
    rw [h2]
    obtain ⟨l, hl⟩ : ∃ l, eL e = l + 1 := ⟨eL e - 1, by omega⟩
    rw [hl]
    exact sm_first _ _ l
  · rw [k4, k6]
    have h2 : sm (fW m e) ((pc (kym m) + 2) / 3) = sm (fun w => min 3 (pc (kym m) - 3 * w)) ((pc (kym m) + 2) / 3) := sm_cong (fun w _ => by
      unfold fW
      rw [if_neg (by omega), if_neg (by omega)])
    rw [h2]
    exact key_sum _ (pc_mark _ (kym_lt hm)).1
theorem ltr_sum (T wid : Nat) : ∀ N, sm (fun w => ltr T (w * wid) wid) N = if T ≤ N * wid then T else N * wid
  | 0 => by
    rw [Nat.zero_mul]
    show 0 = _
    split <;> omega
  | N + 1 => by
    have ih := ltr_sum T wid N
    show sm (fun w => ltr T (w * wid) wid) N + ltr T (N * wid) wid = _
    rw [ih, Nat.succ_mul]
    unfold ltr
    generalize N * wid = M
    by_cases c1 : T ≤ M
    · rw [if_pos c1, if_pos (show T ≤ M + wid by omega)]
      by_cases c2 : T < M
      · rw [if_pos c2]
        omega
      · rw [if_neg c2]
        by_cases c3 : T - M < wid
        · rw [if_pos c3]
          omega
        · rw [if_neg c3]
          omega
    · rw [if_neg c1, if_neg (by omega)]
      by_cases c3 : T - M < wid
      · rw [if_pos c3, if_pos (by omega)]
        omega
      · rw [if_neg c3]
        by_cases c4 : T ≤ M + wid
        · rw [if_pos c4]
          omega
        · rw [if_neg c4]
theorem ln_ge (g : Nat → Nat → Nat) (wid col d : Nat) (hw : 0 < wid) : tx g d + 3 + col ≤ ln g wid col d * wid := by
  unfold ln
  have h1 := Nat.div_add_mod (tx g d + 3 + col + wid - 1) wid
  have h2 := Nat.mod_lt (tx g d + 3 + col + wid - 1) hw
  rw [Nat.mul_comm] at h1
  omega
theorem fL_sum {m : aM} (hm : okM m) (d : Nat) {t : Nat} {e : sE} (he : e ∈ xm m t) : sm (fL m d e) (eL e) = tx m.2.1 d * fdd d e := by
  by_cases c : eK e = 2 ∧ eN e = d
  · rw [fdd_y c, Nat.mul_one]
    have h2 : sm (fL m d e) (eL e) = sm (fun w => ltr (tx m.2.1 d) (w * m.2.2.1 1) (m.2.2.1 1)) (eL e) := sm_cong (fun w _ => if_pos c)
    rw [h2, ltr_sum]
    refine if_pos ?_
    have hb := blk he
    have hl : eL e = ln m.2.1 (m.2.2.1 1) (clmm m) d := by
      rcases hb with ⟨k1, _⟩ | ⟨_, _, _, _, k5, _⟩ | ⟨k1, _⟩
      · have := c.1
        omega
      · rw [k5, c.2]
      · have := c.1
        omega
    have := ln_ge m.2.1 (m.2.2.1 1) (clmm m) d (by have := hm.2.1.b; omega)
    rw [hl]
    omega
  · rw [fdd_n c, Nat.mul_zero]
    exact sm_zero (fun w _ => if_neg c)
theorem sum_K {m : aM} (hm : okM m) {t : Nat} (ht : t < 2) (j p : Nat) (hjp : ∀ e, (if eK e = j then eL e else 0) = pf p e) : sm (lv (fK j) (xm m t) (flt m t)) (tot1 m t) = ls (pf p) (xm m t) := by
  rw [lv_sum (fun i hi => bgn_end hm ht hi)]
  exact lsc (fun e _ => (fK_sum j e).trans (hjp e))
theorem sum_A {m : aM} (hm : okM m) {t : Nat} (ht : t < 2) : sm (lv fA (xm m t) (flt m t)) (tot1 m t) = ls eL (xm m t) := by
  rw [lv_sum (fun i hi => bgn_end hm ht hi)]
  exact lsc (fun e _ => fA_sum e)
theorem sum_W {m : aM} (hm : okM m) {t : Nat} (ht : t < 2) : sm (lv (fW m) (xm m t) (flt m t)) (tot1 m t) = ls eW (xm m t) := by
  rw [lv_sum (fun i hi => bgn_end hm ht hi)]
  exact lsc (fun e he => fW_sum hm he ((xm_ok hm t ht).1.1 e he).2.2.2.1)
theorem sum_L {m : aM} (hm : okM m) {t : Nat} (ht : t < 2) {d : Nat} (hd : d < m.1) : sm (lv (fL m d) (xm m t) (flt m t)) (tot1 m t) = if prm m d = true ∧ m.2.2.2 (m.2.1 d 0) = t then tx m.2.1 d else 0 := by
  rw [lv_sum (fun i hi => bgn_end hm ht hi)]
  have h1 : ls (fun e => sm (fL m d e) (eL e)) (xm m t) = ls (fun e => tx m.2.1 d * fdd d e) (xm m t) := lsc (fun e he => fL_sum hm d he)
  have h2 : ls (fdd d) (xm m t) = if prm m d = true ∧ m.2.2.2 (m.2.1 d 0) = t then 1 else 0 := fd_wx hm.1 m.2.2.1 m.2.2.2 hd
  rw [h1, ls_mul, h2]
  split
  · rw [Nat.mul_one]
  · rw [Nat.mul_zero]
theorem ltr_le (T M w : Nat) : ltr T M w ≤ w := by
  unfold ltr
  split
  · exact Nat.zero_le _
  · split <;> omega
theorem ltr_last {m : aM} (hm : okM m) {d w : Nat} (h : w = ln m.2.1 (m.2.2.1 1) (clmm m) d - 1) (h1 : 1 ≤ ln m.2.1 (m.2.2.1 1) (clmm m) d) : ltr (tx m.2.1 d) (w * m.2.2.1 1) (m.2.2.1 1) + clmm m + 3 ≤ m.2.2.1 1 := by
  have hb := hm.2.1.b
  have hg := ln_ge m.2.1 (m.2.2.1 1) (clmm m) d (by omega)
  have e : ln m.2.1 (m.2.2.1 1) (clmm m) d = w + 1 := by omega
  rw [e, Nat.succ_mul] at hg
  have hc := clmm_le m
  unfold ltr
  split
  · omega
  · split <;> omega
/-! ===== the law's walk over a side ===== -/
theorem l_side {o : aO} (hm : okM o.1.1) {t : Nat} (ht : t < 2) {Q : Int32 → Prop} (h : Q 1) : p_L_side o (nI t) Q := by
  have hn := hm.n
  have ho := hm.2.1.b
  have hX := xm_ok hm
  have hY := hX t ht
  have hfl := flm_b hm
  have hap : flt o.1.1 t ≤ 225 := by unfold flt; split <;> omega
  have hT : tot1 o.1.1 t ≤ 450 := tot_le hX hfl ht
  have hcol := clmm_le o.1.1
  unfold p_L_side p_L_side_21
  refine ⟨fun ar8 ar14 x2 x3 x4 x7 => ∃ k bl, k ≤ tot1 o.1.1 t ∧ x2 = nI k ∧ (x7 = nI 1 ∨ (x7 = nI 0 ∧ k = tot1 o.1.1 t)) ∧ (∀ j, 1 ≤ j → j ≤ 3 → ar8 j = nI (sm (lv (fK j) (xm o.1.1 t) (flt o.1.1 t)) k)) ∧ (∀ d, d < 20 → ar14 d = nI (sm (lv (fL o.1.1 d) (xm o.1.1 t) (flt o.1.1 t)) k)) ∧ x3 = nI (sm (lv (fW o.1.1) (xm o.1.1 t) (flt o.1.1 t)) k) ∧ x4 = nI bl ∧ bl + sm (lv fA (xm o.1.1 t) (flt o.1.1 t)) k = k, fun _ _ x2 _ _ x7 => (tot1 o.1.1 t - x2.toNatClampNeg) + (if x7 = 0 then 0 else 1), ⟨0, 0, Nat.zero_le _, rfl, Or.inl rfl, fun _ _ _ => rfl, fun _ _ => rfl, rfl, rfl, rfl⟩, ?_⟩
  rintro ar8 ar14 x2 x3 x4 x7 ⟨k, bl, hk, rfl, h7, h8, h14, rfl, rfl, hbl⟩
  unfold q_L_side_21
  rcases h7 with rfl | ⟨rfl, hkT⟩
  · refine ⟨fun q => absurd q (by decide), fun _ => ?_⟩
    intro r0 hr0
    obtain ⟨v0, v1⟩ := hr0.1 t k 0 ht (by omega) (by decide) rfl rfl rfl
    by_cases c : k < tot1 o.1.1 t
    · -- a line
      have fin : ∀ (b8 b14 : Nat → Int32) (y3 y4 : Int32) (bl' : Nat), (∀ j, 1 ≤ j → j ≤ 3 → b8 j = nI (sm (lv (fK j) (xm o.1.1 t) (flt o.1.1 t)) (k + 1))) → (∀ d, d < 20 → b14 d = nI (sm (lv (fL o.1.1 d) (xm o.1.1 t) (flt o.1.1 t)) (k + 1))) → y3 = nI (sm (lv (fW o.1.1) (xm o.1.1 t) (flt o.1.1 t)) (k + 1)) → y4 = nI bl' → bl' + sm (lv fA (xm o.1.1 t) (flt o.1.1 t)) (k + 1) = k + 1 → p_L_side_336 b8 b14 (nI k) y3 y4 1 (fun ar8' ar14' x2' x3' x4' x7' => (∃ k bl, k ≤ tot1 o.1.1 t ∧ x2' = nI k ∧ (x7' = nI 1 ∨ (x7' = nI 0 ∧ k = tot1 o.1.1 t)) ∧ (∀ j, 1 ≤ j → j ≤ 3 → ar8' j = nI (sm (lv (fK j) (xm o.1.1 t) (flt o.1.1 t)) k)) ∧ (∀ d, d < 20 → ar14' d = nI (sm (lv (fL o.1.1 d) (xm o.1.1 t) (flt o.1.1 t)) k)) ∧ x3' = nI (sm (lv (fW o.1.1) (xm o.1.1 t) (flt o.1.1 t)) k) ∧ x4' = nI bl ∧ bl + sm (lv fA (xm o.1.1 t) (flt o.1.1 t)) k = k) ∧ (tot1 o.1.1 t - x2'.toNatClampNeg) + (if x7' = 0 then 0 else 1) < (tot1 o.1.1 t - (nI k).toNatClampNeg) + (if nI 1 = 0 then 0 else 1)) := by
        intro b8 b14 y3 y4 bl' q1 q2 q3 q4 q5
        unfold p_L_side_336 p_L_side_339
        rw [li_1, nI_add]
        refine ⟨⟨k + 1, bl', c, rfl, Or.inl rfl, q1, q2, q3, q4, q5⟩, ?_⟩
        rw [nI_clamp (by omega), nI_clamp (by omega)]
        omega
      generalize hKK : (fun (ar8' ar14' : Nat → Int32) (x2' x3' x4' x7' : Int32) => (∃ k bl, k ≤ tot1 o.1.1 t ∧ x2' = nI k ∧ (x7' = nI 1 ∨ (x7' = nI 0 ∧ k = tot1 o.1.1 t)) ∧ (∀ j, 1 ≤ j → j ≤ 3 → ar8' j = nI (sm (lv (fK j) (xm o.1.1 t) (flt o.1.1 t)) k)) ∧ (∀ d, d < 20 → ar14' d = nI (sm (lv (fL o.1.1 d) (xm o.1.1 t) (flt o.1.1 t)) k)) ∧ x3' = nI (sm (lv (fW o.1.1) (xm o.1.1 t) (flt o.1.1 t)) k) ∧ x4' = nI bl ∧ bl + sm (lv fA (xm o.1.1 t) (flt o.1.1 t)) k = k) ∧ (tot1 o.1.1 t - x2'.toNatClampNeg) + (if x7' = 0 then 0 else 1) < (tot1 o.1.1 t - (nI k).toNatClampNeg) + (if nI 1 = 0 then 0 else 1)) = KK at fin ⊢
      clear hKK
      have sK : ∀ f : sE → Nat → Nat, sm (lv f (xm o.1.1 t) (flt o.1.1 t)) (k + 1) = sm (lv f (xm o.1.1 t) (flt o.1.1 t)) k + lv f (xm o.1.1 t) (flt o.1.1 t) k := fun _ => rfl
      obtain ⟨v2, v3⟩ := v1 c
      by_cases hh : ∃ i, i < (xm o.1.1 t).length ∧ hit (xm o.1.1 t) (flt o.1.1 t) k i
      · obtain ⟨i, hi, hit'⟩ := hh
        have hE := hY.1.1 _ (nt_mem hi)
        have hlv : ∀ f : sE → Nat → Nat, lv f (xm o.1.1 t) (flt o.1.1 t) k = f (nt (xm o.1.1 t) i) (k - bgn (xm o.1.1 t) (flt o.1.1 t) i) := fun f => lv_hit hY.1 hi hit'
        have hln : ∀ (q : Nat) (r : Int32), q ≤ 5 → sp_line o (nI t) (nI k) (nI q) r → ∃ kk, r = tlv o.1.1.2.1 (o.1.1.2.2.1 1) (clmm o.1.1) (kym o.1.1) kk (nt (xm o.1.1 t) i) (k - bgn (xm o.1.1 t) (flt o.1.1 t) i) q := fun q r hq hr => ((hr.1 t k q ht (by omega) hq rfl rfl rfl).2 c).1 i hi hit'
        have hwk := (hit_w hY.1 hi).1 hit'
        have hbk := blk (nt_mem hi)
        have hfd : ∀ d, d < o.1.1.1 → eK (nt (xm o.1.1 t) i) = 2 → eN (nt (xm o.1.1 t) i) = d → ∀ i', i' < (xm o.1.1 t).length → eK (nt (xm o.1.1 t) i') = 2 → eN (nt (xm o.1.1 t) i') = d → i' = i := by
          intro d hd a1 a2 i' hi' a3 a4
          have h2 : ls (fdd d) (xm o.1.1 t) = if prm o.1.1 d = true ∧ o.1.1.2.2.2 (o.1.1.2.1 d 0) = t then 1 else 0 := fd_wx hm.1 o.1.1.2.2.1 o.1.1.2.2.2 hd
          by_cases c2 : prm o.1.1 d = true ∧ o.1.1.2.2.2 (o.1.1.2.1 d 0) = t
          · rw [if_pos c2] at h2
            obtain ⟨i0, hi0, hi1, hi2⟩ := one_at (fdd_le d) h2
            rw [hi2 i hi (fdd_1.2 ⟨a1, a2⟩), hi2 i' hi' (fdd_1.2 ⟨a3, a4⟩)]
          · rw [if_neg c2] at h2
            have := none_at h2 hi
            have h3 := fdd_1.2 ⟨a1, a2⟩
            omega
        generalize hbg : bgn (xm o.1.1 t) (flt o.1.1 t) i = B at hlv hln hwk
        generalize hee : nt (xm o.1.1 t) i = e at hlv hln hwk hE hbk hfd
        obtain ⟨w, hw⟩ : ∃ w, w = k - B := ⟨_, rfl⟩
        rw [← hw] at hlv hln
        have hwl : w < eL e := by omega
        have hblA : ∀ (n : Nat), n = sm (lv fA (xm o.1.1 t) (flt o.1.1 t)) (k + 1) → bl + n = k + 1 := by
          rintro n rfl
          rw [sK, hlv]
          show bl + (_ + 1) = k + 1
          omega
        obtain ⟨kk0, e0⟩ := hln 0 r0 (by decide) hr0
        have e0 : r0 = nI (eK e) := e0
        have hk13 : eK e = 1 ∨ eK e = 2 ∨ eK e = 3 := by have := hE.1; have := hE.2.1; omega
        have hne : ¬ nI (eK e) = -99 := (m2_ne _ (by omega)).1
        subst e0
        refine ⟨fun q => absurd q hne, fun _ => ?_⟩
        unfold p_L_side_47
        refine ⟨fun q => absurd q (by decide), fun _ => ?_⟩
        intro r1 hr1 r2 hr2
        obtain ⟨kk1, e1⟩ := hln 1 r1 (by decide) hr1
        obtain ⟨kk2, e2⟩ := hln 2 r2 (by decide) hr2
        have e1 : r1 = if eK e = 3 then nI kk1 else nI (eN e) := e1
        have e2 : r2 = nI w := e2
        subst e2
        refine ⟨vk _ 4 (by omega), vk _ 4 (by omega), fun _ => ?_, fun q => absurd (nI_i (show nI (eK e) = nI 0 from q) (by omega) (by omega)) (by omega)⟩
        have b8 : ∀ j, 1 ≤ j → j ≤ 3 → upd ar8 (nI (eK e)).toNatClampNeg (ar8 (nI (eK e)).toNatClampNeg + 1) j = nI (sm (lv (fK j) (xm o.1.1 t) (flt o.1.1 t)) (k + 1)) := by
          intro j j1 j3
          rw [nI_clamp (by omega), sK, hlv]
          have ef : fK j e w = if eK e = j then 1 else 0 := rfl
          rw [ef]
          by_cases cj : j = eK e
          · subst cj
            rw [pk_us, h8 _ j1 j3, if_pos rfl, li_1, nI_add]
          · rw [pk_un cj, h8 _ j1 j3, if_neg (fun q => cj q.symm), Nat.add_zero]
        unfold p_L_side_93
        intro r3 hr3
        obtain ⟨kk3, e3⟩ := hln 3 r3 (by decide) hr3
        have e3 : r3 = if eK e = 1 then nI (if w = 0 then 6 else 0) else if eK e = 2 then nI (o.1.1.2.1 (eN e) 5 + if w = 0 then 2 else 0) else nI (min 3 (pc (kym o.1.1) - 3 * w)) := e3
        have e3w : r3 = nI (fW o.1.1 e w) := by
          rw [e3]
          unfold fW
          by_cases c1 : eK e = 1
          · rw [if_pos c1, if_pos c1]
          · rw [if_neg c1, if_neg c1]
            by_cases c2 : eK e = 2
            · rw [if_pos c2, if_pos c2]
            · rw [if_neg c2, if_neg c2]
        clear e3
        subst e3w
        refine ⟨fun _ => ?_, fun q => absurd (nI_i (show nI (eK e) = nI 0 from q) (by omega) (by omega)) (by omega)⟩
        have y3 : nI (sm (lv (fW o.1.1) (xm o.1.1 t) (flt o.1.1 t)) k) + nI (fW o.1.1 e w) = nI (sm (lv (fW o.1.1) (xm o.1.1 t) (flt o.1.1 t)) (k + 1)) := by
          rw [nI_add, sK, hlv]
        have y4 : nI bl + 0 = nI bl := by
          rw [li_0, nI_add, Nat.add_zero]
        rw [y3, y4]
        have nolet : ¬ eK e = 2 → ∀ d, d < 20 → ar14 d = nI (sm (lv (fL o.1.1 d) (xm o.1.1 t) (flt o.1.1 t)) (k + 1)) := by
          intro h2 d hd
          rw [sK, hlv, h14 d hd]
          unfold fL
          rw [if_neg (fun q => h2 q.1), Nat.add_zero]
        have kne : ∀ j : Nat, j < 10 → ¬ eK e = j → ¬ nI (eK e) = nI j := fun j hj hne q => hne (nI_i q (by omega) (by omega))
        unfold p_L_side_123
        rcases hbk with ⟨k1, k2, k3, k4, _, _⟩ | ⟨k1, k2, k3, k4, k5, k6⟩ | ⟨k1, k2, k3, k4, _, _⟩
        · -- a heading
          rw [if_neg (by omega)] at e1
          subst e1
          refine ⟨fun q => absurd (congrArg nI k1) q, fun _ => ?_⟩
          intro r4 hr4
          have e4 : r4 = nI (o.1.1.2.2.2 (eN e)) := hr4.2.1 (eN e) k2 (nI_add 6 (eN e))
          rw [k3] at e4
          subst e4
          refine ⟨fun q => absurd rfl q, fun _ => ⟨fun q => ?_, fun _ => ?_⟩⟩
          · rw [li_1, nI_ltI (by omega) (by omega)] at q
            omega
          · unfold p_L_side_148
            refine ⟨fun _ => ?_, fun q => absurd q (kne 3 (by decide) (by omega))⟩
            unfold p_L_side_166
            refine ⟨fun _ => ?_, fun q => absurd q (kne 2 (by decide) (by omega))⟩
            exact fin _ _ _ _ bl b8 (nolet (by omega)) rfl rfl (hblA _ rfl)
        · -- a dish
          rw [if_neg (by omega)] at e1
          subst e1
          generalize hdd : eN e = d at k2 k3 k4 k5 k6 hfd
          have hd20 : d < 20 := by omega
          obtain ⟨g0, g1, g2, g3, g4, g5, g6⟩ := hm.1.b hd20
          refine ⟨fun _ => ?_, fun q => absurd q (kne 1 (by decide) (by omega))⟩
          unfold p_L_side_148
          refine ⟨fun _ => ?_, fun q => absurd q (kne 3 (by decide) (by omega))⟩
          unfold p_L_side_166
          refine ⟨fun q => absurd (congrArg nI k1) q, fun _ => ?_⟩
          intro r4 hr4 r5 hr5 r6 hr6
          obtain ⟨kk4, e4⟩ := hln 4 r4 (by decide) hr4
          obtain ⟨kk5, e5⟩ := hln 5 r5 (by decide) hr5
          have e4 : r4 = if eK e = 2 then nI (ltr (tx o.1.1.2.1 (eN e)) (w * o.1.1.2.2.1 1) (o.1.1.2.2.1 1)) else nI 0 := e4
          have e5 : r5 = if eK e = 2 ∧ w = eL e - 1 then nI (o.1.1.2.2.1 1) - nI (clmm o.1.1) - nI (ltr (tx o.1.1.2.1 (eN e)) (w * o.1.1.2.2.1 1) (o.1.1.2.2.1 1)) else nI 0 := e5
          rw [if_pos k1, hdd] at e4
          rw [hdd] at e5
          have e6 : r6 = nI (if prm o.1.1 d = true then ln o.1.1.2.1 (o.1.1.2.2.1 1) (clmm o.1.1) d else 0) := hr6.2.1 d k2 rfl rfl
          rw [if_pos k3, ← k5] at e6
          subst e4 e6
          have hlt := ltr_le (tx o.1.1.2.1 d) (w * o.1.1.2.2.1 1) (o.1.1.2.2.1 1)
          have b14 : ∀ d', d' < 20 → upd ar14 (nI d).toNatClampNeg (ar14 (nI d).toNatClampNeg + nI (ltr (tx o.1.1.2.1 d) (w * o.1.1.2.2.1 1) (o.1.1.2.2.1 1))) d' = nI (sm (lv (fL o.1.1 d') (xm o.1.1 t) (flt o.1.1 t)) (k + 1)) := by
            intro d' hd'
            have ef : fL o.1.1 d' e w = if eK e = 2 ∧ eN e = d' then ltr (tx o.1.1.2.1 d') (w * o.1.1.2.2.1 1) (o.1.1.2.2.1 1) else 0 := rfl
            rw [nI_clamp (by omega), sK, hlv, ef]
            by_cases cd : d' = d
            · subst cd
              rw [pk_us, h14 _ hd', if_pos ⟨k1, hdd⟩, nI_add]
            · rw [pk_un cd, h14 _ hd', if_neg (fun q => cd (by rw [← hdd]; exact q.2.symm)), Nat.add_zero]
          have p336 := fin _ _ _ _ bl b8 b14 rfl rfl (hblA _ rfl)
          have hlast : w = eL e - 1 → ltr (tx o.1.1.2.1 d) (w * o.1.1.2.2.1 1) (o.1.1.2.2.1 1) + clmm o.1.1 + 3 ≤ o.1.1.2.2.1 1 := fun q => ltr_last hm (by rw [← k5]; exact q) (by rw [← k5]; omega)
          generalize ltr (tx o.1.1.2.1 d) (w * o.1.1.2.2.1 1) (o.1.1.2.2.1 1) = lt at hlt p336 e5 b14 hlast ⊢
          have p296 : p_L_side_296 o (nI t) (upd ar8 (nI (eK e)).toNatClampNeg (ar8 (nI (eK e)).toNatClampNeg + 1)) (upd ar14 (nI d).toNatClampNeg (ar14 (nI d).toNatClampNeg + nI lt)) (nI k) (nI (sm (lv (fW o.1.1) (xm o.1.1 t) (flt o.1.1 t)) (k + 1))) (nI bl) 1 (nI d) (nI w) (nI lt) KK Q := by
            unfold p_L_side_296
            intro q1 hq1
            have f1 : q1 = nI (o.1.1.2.2.1 1) := hq1.1 1 (by decide) rfl
            subst f1
            rw [nI_ltI (by omega) (by omega)]
            refine ⟨fun q => by omega, fun _ => ?_⟩
            intro q2 hq2 q3 hq3
            obtain ⟨kkq, f2⟩ := hln 3 q2 (by decide) hq2
            have f2 : q2 = if eK e = 1 then nI (if w = 0 then 6 else 0) else if eK e = 2 then nI (o.1.1.2.1 (eN e) 5 + if w = 0 then 2 else 0) else nI (min 3 (pc (kym o.1.1) - 3 * w)) := f2
            rw [if_neg (by omega), if_pos k1, hdd] at f2
            have f3 : q3 = nI (o.1.1.2.1 d 5) := hq3.1 d 5 k2 (by decide) rfl rfl
            subst f2 f3
            unfold p_L_side_330
            by_cases cw : w = 0
            · subst cw
              refine ⟨fun q => absurd rfl q, fun _ => ⟨fun _ => p336, fun q => absurd ?_ q⟩⟩
              rw [if_pos rfl, li_2, nI_add]
            · refine ⟨fun _ => ⟨fun _ => p336, fun q => absurd ?_ q⟩, fun q => absurd (nI_i (show nI w = nI 0 from q) (by have := hE.2.2.2.2.1; omega) (by omega)) cw⟩
              rw [if_neg cw, li_0, nI_add]
          have hd8 : ∀ r, sp_dish o (nI d) 8 r → r + nI w = nI k := by
            intro r hr
            obtain ⟨i', hi', a3, a4, a5⟩ := (hr.2.2.1 d k2 rfl rfl).1 k3
            rw [k4] at hi' a3 a4 a5
            have hii := hfd d k2 k1 rfl i' hi' a3 a4
            subst hii
            rw [a5, hbg, nI_add]
            congr 1
            omega
          have hel : eL e < 100 := by have := hE.2.2.2.2.1; omega
          have hsub : nI (eL e) - 1 = nI (eL e - 1) := pk_sub (b := 1) (by omega)
          rw [hsub]
          have p210 : ∀ (f : Nat), (f = 1 ∧ w = eL e - 1) ∨ (f = 0 ∧ ¬ w = eL e - 1) → p_L_side_210 o (nI t) (upd ar8 (nI (eK e)).toNatClampNeg (ar8 (nI (eK e)).toNatClampNeg + 1)) ar14 (nI k) (nI (sm (lv (fW o.1.1) (xm o.1.1 t) (flt o.1.1 t)) (k + 1))) (nI bl) 1 (nI d) (nI w) (nI lt) r5 (nI f) KK Q := by
            intro f hf
            unfold p_L_side_210
            refine ⟨vk _ 20 hd20, vk _ 20 hd20, ?_⟩
            intro q1 hq1
            refine ⟨fun q => absurd (hd8 q1 hq1) q, fun _ => ?_⟩
            intro q2 hq2 q3 hq3
            have f2 : q2 = nI (o.1.1.2.1 d 0) := hq2.1 d 0 k2 (by decide) rfl rfl
            subst f2
            have f3 : q3 = nI (o.1.1.2.2.2 (o.1.1.2.1 d 0)) := hq3.2.1 (o.1.1.2.1 d 0) (by omega) (nI_add 6 _)
            rw [k4] at f3
            subst f3
            refine ⟨fun q => absurd rfl q, fun _ => ?_⟩
            rcases hf with ⟨rfl, hf⟩ | ⟨rfl, hf⟩
            · refine ⟨fun q => absurd q (by decide), fun _ => ?_⟩
              rw [if_pos ⟨k1, hf⟩] at e5
              have hll : lt + clmm o.1.1 + 3 ≤ o.1.1.2.2.1 1 := by
                have := hlast hf
                omega
              rw [pk_sub (by omega), pk_sub (by omega)] at e5
              subst e5
              refine ⟨fun q => ?_, fun _ => ?_⟩
              · rw [li_3, nI_ltI (by omega) (by omega)] at q
                omega
              · intro q4 hq4 q5 hq5
                have f4 : q4 = nI (clmm o.1.1) := hq4.1 6 (by decide) (by decide) rfl
                have f5 : q5 = nI (o.1.1.2.2.1 1) := hq5.1 1 (by decide) rfl
                subst f4 f5
                rw [nI_add, nI_add]
                refine ⟨fun q => absurd (congrArg nI (by omega)) q, fun _ => ?_⟩
                unfold p_L_side_286
                exact ⟨fun _ => p296, fun q => absurd q (by decide)⟩
            · refine ⟨fun _ => ?_, fun q => absurd rfl q⟩
              rw [if_neg (fun q => hf q.2)] at e5
              subst e5
              unfold p_L_side_286
              exact ⟨fun q => absurd rfl q, fun _ => ⟨fun q => absurd rfl q, fun _ => p296⟩⟩
          by_cases cl : w = eL e - 1
          · exact ⟨fun q => absurd (congrArg nI cl) q, fun _ => p210 1 (Or.inl ⟨rfl, cl⟩)⟩
          · exact ⟨fun _ => p210 0 (Or.inr ⟨rfl, cl⟩), fun q => absurd (nI_i q (by omega) (by omega)) cl⟩
        · -- the key
          refine ⟨fun _ => ?_, fun q => absurd q (kne 1 (by decide) (by omega))⟩
          unfold p_L_side_148
          refine ⟨fun q => absurd (congrArg nI k1) q, fun _ => ?_⟩
          intro r4 hr4
          have e4 : r4 = if pc (kym o.1.1) = 0 then -nI 99 else nI (kys (sx (prm o.1.1) o.1.1.1 o.1.1.2.1 (o.1.1.2.2.1 1) (clmm o.1.1) (o.1.1.2.2.1 3) o.1.1.2.2.2)) := hr4.1 8 (by decide) (by decide) rfl
          rw [if_neg k2, ← k3] at e4
          subst e4
          refine ⟨fun _ => ?_, fun q => absurd rfl q⟩
          unfold p_L_side_166
          refine ⟨fun _ => ?_, fun q => absurd q (kne 2 (by decide) (by omega))⟩
          exact fin _ _ _ _ bl b8 (nolet (by omega)) rfl rfl (hblA _ rfl)
      · -- a blank line
        have hno : ∀ i, i < (xm o.1.1 t).length → ¬ hit (xm o.1.1 t) (flt o.1.1 t) k i := fun i hi q => hh ⟨i, hi, q⟩
        have hlv : ∀ f : sE → Nat → Nat, lv f (xm o.1.1 t) (flt o.1.1 t) k = 0 := fun f => lv_no hY.1 hno
        have hln : ∀ (q : Nat) (r : Int32), q ≤ 5 → sp_line o (nI t) (nI k) (nI q) r → r = if q = 1 then -nI 99 else nI 0 := fun q r hq hr => ((hr.1 t k q ht (by omega) hq rfl rfl rfl).2 c).2 hno
        have e0 : r0 = nI 0 := hln 0 r0 (by decide) hr0
        subst e0
        refine ⟨fun q => absurd q (by decide), fun _ => ?_⟩
        unfold p_L_side_47
        refine ⟨fun q => absurd q (by decide), fun _ => ?_⟩
        intro r1 hr1 r2 hr2
        have e1 : r1 = -nI 99 := hln 1 r1 (by decide) hr1
        have e2 : r2 = nI 0 := hln 2 r2 (by decide) hr2
        subst e1 e2
        refine ⟨vk 0 4, vk 0 4, fun q => absurd rfl q, fun _ => ?_⟩
        unfold p_L_side_93
        intro r3 hr3
        have e3 : r3 = nI 0 := hln 3 r3 (by decide) hr3
        subst e3
        refine ⟨fun q => absurd rfl q, fun _ => ⟨fun q => absurd rfl q, fun _ => ⟨fun q => absurd rfl q, fun _ => ?_⟩⟩⟩
        unfold p_L_side_123
        refine ⟨fun _ => ?_, fun q => absurd q (by decide)⟩
        unfold p_L_side_148
        refine ⟨fun _ => ?_, fun q => absurd q (by decide)⟩
        unfold p_L_side_166
        refine ⟨fun _ => ?_, fun q => absurd q (by decide)⟩
        refine fin _ _ _ _ (bl + 1) (fun j j1 j3 => ?_) (fun d hd => ?_) ?_ ?_ ?_
        · rw [sK, hlv, pk_un (by rw [nI_clamp (by omega)]; omega), h8 j j1 j3, Nat.add_zero]
        · rw [sK, hlv, h14 d hd, Nat.add_zero]
        · rw [nI_add, sK, hlv]
        · rw [li_1, nI_add]
        · rw [sK, hlv]
          omega
    · -- behind the last line
      have e : k = tot1 o.1.1 t := by omega
      have e0 := v0 (by omega)
      subst e0
      refine ⟨fun _ => ?_, fun q => absurd rfl q⟩
      unfold p_L_side_47
      refine ⟨fun _ => ?_, fun q => absurd rfl q⟩
      unfold p_L_side_339
      refine ⟨⟨k, bl, hk, rfl, Or.inr ⟨rfl, e⟩, h8, h14, rfl, rfl, hbl⟩, ?_⟩
      show (tot1 o.1.1 t - (nI k).toNatClampNeg) + (if (0 : Int32) = 0 then 0 else 1) < (tot1 o.1.1 t - (nI k).toNatClampNeg) + (if nI 1 = 0 then 0 else 1)
      rw [if_pos rfl, if_neg (by decide)]
      omega
  · -- the sums
    refine ⟨fun _ => ?_, fun q => absurd rfl q⟩
    clear hap
    subst hkT
    unfold p_L_side_345
    refine wl0 (q_L_side_345 o (nI t) ar8 ar14 _ _ _ Q) o.1.1.1 (by omega) (fun _ => True) 0 (Nat.zero_le _) trivial ?_
    intro K d _ hd _ hK
    unfold q_L_side_345
    intro r hr
    have e : r = nI o.1.1.1 := hr.1 0 (by decide) (by decide) rfl
    subst e
    rw [nI_leI (by omega) (by omega)]
    refine ⟨fun _ => ?_, fun hlt => ?_⟩
    · have t2 : ∀ r, sp_count o (2 + nI t) r → r = nI (tot1 o.1.1 t) := by
        intro r hr
        have : t = 0 ∨ t = 1 := by omega
        rcases this with rfl | rfl
        · exact hr.1 2 (by decide) (by decide) (nI_add 2 0)
        · exact hr.1 3 (by decide) (by decide) (nI_add 2 1)
      have t4 : ∀ r, sp_count o (4 + nI t) r → r = nI (ls eW (xm o.1.1 t)) := by
        intro r hr
        have : t = 0 ∨ t = 1 := by omega
        rcases this with rfl | rfl
        · exact hr.1 4 (by decide) (by decide) (nI_add 4 0)
        · exact hr.1 5 (by decide) (by decide) (nI_add 4 1)
      have hb := hX.b ht
      intro r1 hr1
      have e1 := t2 r1 hr1
      subst e1
      refine ⟨fun q => absurd rfl q, fun _ => ?_⟩
      intro r2 hr2
      have e2 := t4 r2 hr2
      rw [← sum_W hm ht] at e2
      subst e2
      refine ⟨fun q => absurd rfl q, fun _ => ⟨vk 1 4, ?_⟩⟩
      intro r3 hr3
      have e3 : r3 = nI (ls (pf 0) (xm o.1.1 t)) := hr3.1 t 0 ht (by decide) rfl rfl
      rw [← sum_K hm ht 1 0 (fun e => rfl)] at e3
      subst e3
      refine ⟨fun q => absurd (h8 1 (by decide) (by decide)) q, fun _ => ⟨vk 2 4, ?_⟩⟩
      intro r4 hr4
      have e4 : r4 = nI (ls (pf 1) (xm o.1.1 t)) := hr4.1 t 1 ht (by decide) rfl rfl
      rw [← sum_K hm ht 2 1 (fun e => rfl)] at e4
      subst e4
      refine ⟨fun q => absurd (h8 2 (by decide) (by decide)) q, fun _ => ?_⟩
      intro r5 hr5 r6 hr6
      have e5 : r5 = nI (ls (pf 2) (xm o.1.1 t)) := hr5.1 t 2 ht (by decide) rfl rfl
      have e6 : r6 = nI (flt o.1.1 t) := hr6.2.1 t ht rfl rfl
      subst e5 e6
      have hsA := sum_A hm ht
      have htS := tot_eS hm ht
      rw [nI_add]
      refine ⟨fun q => absurd (congrArg nI (by omega)) q, fun _ => ⟨vk 3 4, ?_⟩⟩
      intro r7 hr7
      have e7 : r7 = nI (ls (pf 3) (xm o.1.1 t)) := hr7.1 t 3 ht (by decide) rfl rfl
      rw [← sum_K hm ht 3 3 (fun e => rfl)] at e7
      subst e7
      exact ⟨fun q => absurd (h8 3 (by decide) (by decide)) q, fun _ => h⟩
    · have hd1 : d < o.1.1.1 := by omega
      have hd20 : d < 20 := by omega
      obtain ⟨g0, g1, g2, g3, g4, g5, g6⟩ := hm.1.b hd20
      have hsum := sum_L hm ht hd1
      have hld := h14 d hd20
      rw [hsum] at hld
      have hpc := pc_mark _ (show o.1.1.2.1 d 4 < 256 by omega)
      have p436 : ∀ x y : Int32, x = y → p_L_side_436 (nI d) x y K Q := by
        rintro x y rfl
        unfold p_L_side_436
        refine ⟨fun _ => ?_, fun q => absurd rfl q⟩
        rw [li_1, nI_add]
        exact hK hd1 () trivial
      have d4 : ∀ r, sp_dish o (nI d) 4 r → r = nI (o.1.1.2.1 d 4) := fun r hr => hr.1 d 4 hd1 (by decide) rfl rfl
      have p386 : ¬ (prm o.1.1 d = true ∧ o.1.1.2.2.2 (o.1.1.2.1 d 0) = t) → p_L_side_386 o (nI d) ar14 K Q := by
        intro hnp
        rw [if_neg hnp] at hld
        unfold p_L_side_386 p_L_side_387
        intro r1 hr1
        have e1 := d4 r1 hr1
        subst e1
        refine l_size (by omega) ⟨vk _ 20 hd20, fun _ => ?_, fun q => absurd rfl q⟩
        refine p436 _ _ ?_
        rw [nI_clamp (by omega), hld]
        rfl
      intro r1 hr1
      have e1 : r1 = nI (whm o.1.1 d) := hr1.1 d hd1 rfl
      subst e1
      have hw4 := wh_le o.1.1 d
      have hw0 := wh0 o.1.1 d
      refine ⟨fun q => p386 (fun hp => q (by rw [hw0.2 hp.1]; rfl)), fun q => ?_⟩
      have hp := hw0.1 (nI_i (show nI (whm o.1.1 d) = nI 0 from q) (by omega) (by omega))
      intro r2 hr2
      have e2 : r2 = nI (o.1.1.2.1 d 0) := hr2.1 d 0 hd1 (by decide) rfl rfl
      subst e2
      intro r3 hr3
      have e3 : r3 = nI (o.1.1.2.2.2 (o.1.1.2.1 d 0)) := hr3.2.1 (o.1.1.2.1 d 0) (by omega) (nI_add 6 _)
      subst e3
      have hsd := hm.2.2 (o.1.1.2.1 d 0) (by omega)
      refine ⟨fun q => p386 (fun hp => q (congrArg nI hp.2)), fun q => ?_⟩
      have hst := nI_i q (by omega) (by omega)
      rw [if_pos ⟨hp, hst⟩] at hld
      unfold p_L_side_387
      intro r4 hr4
      have e4 := d4 r4 hr4
      subst e4
      refine l_size (by omega) ⟨vk _ 20 hd20, fun q => absurd q (by decide), fun _ => ?_⟩
      intro r5 hr5
      have e5 : r5 = nI (o.1.1.2.1 d 1) := hr5.1 d 1 hd1 (by decide) rfl rfl
      subst e5
      have htx : tx o.1.1.2.1 d = o.1.1.2.1 d 1 + (if o.1.1.2.1 d 4 = 0 then 0 else 1 + pc (o.1.1.2.1 d 4)) := rfl
      unfold p_L_side_431
      refine ⟨fun q => ?_, fun q => ?_⟩
      · refine p436 _ _ ?_
        have hz : ¬ o.1.1.2.1 d 4 = 0 := fun e => q (by rw [hpc.2.2 e]; rfl)
        rw [nI_clamp (by omega), hld, htx, if_neg hz, li_1, nI_add, nI_add, Nat.add_comm 1]
      · refine p436 _ _ ?_
        have hz : o.1.1.2.1 d 4 = 0 := hpc.2.1 (nI_i (show nI (pc (o.1.1.2.1 d 4)) = nI 0 from q) (by omega) (by omega))
        rw [nI_clamp (by omega), hld, htx, if_pos hz, li_0, nI_add]

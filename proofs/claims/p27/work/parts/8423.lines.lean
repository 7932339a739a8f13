/-! ===== which block a dish has ===== -/
def fdd (d : Nat) (e : sE) : Nat := if eK e = 2 ∧ eN e = d then 1 else 0
theorem fdd_le (d : Nat) (e : sE) : fdd d e ≤ 1 := by
  unfold fdd
  split <;> omega
theorem fdd_1 {d : Nat} {e : sE} : fdd d e = 1 ↔ eK e = 2 ∧ eN e = d := by
  unfold fdd
  split <;> rename_i h
  · exact ⟨fun _ => h, fun _ => rfl⟩
  · exact ⟨fun e => absurd e (by omega), fun e => absurd e h⟩
theorem i10 {p q : Prop} [Decidable p] [Decidable q] (h : p ↔ q) : (if p then 1 else 0 : Nat) = if q then 1 else 0 := by
  by_cases hp : p
  · rw [if_pos hp, if_pos (h.1 hp)]
  · rw [if_neg hp, if_neg (fun hq => hp (h.2 hq))]
theorem fdd_y {d : Nat} {e : sE} (h : eK e = 2 ∧ eN e = d) : fdd d e = 1 := if_pos h
theorem fdd_n {d : Nat} {e : sE} (h : ¬ (eK e = 2 ∧ eN e = d)) : fdd d e = 0 := if_neg h
theorem fdd_d (d m l s w p : Nat) : fdd d (2, m, l, s, w, p) = if m = d then 1 else 0 := i10 ⟨fun q => q.2, fun q => ⟨rfl, q⟩⟩
theorem fd_ce (P : Nat → Bool) (g : Nat → Nat → Nat) (wid col spa c d : Nat) : ∀ m, ls (fdd d) (ce P g wid col spa c m) = if P d = true ∧ g d 0 = c ∧ d < m then 1 else 0
  | 0 => (if_neg (fun q => absurd q.2.2 (Nat.not_lt_zero d))).symm
  | m + 1 => by
    have ih := fd_ce P g wid col spa c d m
    by_cases h : g m 0 = c ∧ P m = true
    · have key : (if P d = true ∧ g d 0 = c ∧ d < m + 1 then 1 else 0) = (if P d = true ∧ g d 0 = c ∧ d < m then 1 else 0) + (if m = d then 1 else 0) := by
        by_cases e : m = d
        · subst e
          rw [if_pos ⟨h.2, h.1, Nat.lt_succ_self m⟩, if_neg (fun q => absurd q.2.2 (Nat.lt_irrefl m)), if_pos rfl]
        · rw [if_neg e, Nat.add_zero]
          exact i10 ⟨fun q => ⟨q.1, q.2.1, by have := q.2.2; omega⟩, fun q => ⟨q.1, q.2.1, by have := q.2.2; omega⟩⟩
      rw [key, ← ih]
      by_cases h0 : cs P g c (fun _ => 1) m = 0
      · rw [ce_first h h0, ce_nil h0]
        show fdd d (1, c, 2, 0, 6, 1) + (fdd d (2, m, ln g wid col m, 0, g m 5 * ln g wid col m + 2, 0) + 0) = 0 + _
        rw [fdd_n (e := (1, c, 2, 0, 6, 1)) (fun q => absurd (show (1 : Nat) = 2 from q.1) (by decide)), fdd_d]
        rfl
      · rw [ce_next h h0, ls_one, fdd_d]
    · rw [ce_no h, ih]
      exact i10 ⟨fun q => ⟨q.1, q.2.1, by have := q.2.2; omega⟩, fun q => ⟨q.1, q.2.1, by
        have e : ¬ d = m := fun e => h (by rw [← e]; exact ⟨q.2.1, q.1⟩)
        have := q.2.2
        omega⟩⟩
theorem fd_sl (P : Nat → Bool) (g : Nat → Nat → Nat) (wid col spa n : Nat) (sd : Nat → Nat) (t d : Nat) : ∀ k, ls (fdd d) (sl (fun c => ce P g wid col spa c n) sd t k) = if P d = true ∧ d < n ∧ g d 0 < k ∧ sd (g d 0) = t then 1 else 0
  | 0 => (if_neg (fun q => absurd q.2.2.1 (Nat.not_lt_zero _))).symm
  | k + 1 => by
    have ih := fd_sl P g wid col spa n sd t d k
    show ls (fdd d) (sl _ sd t k ++ (if sd k = t then ce P g wid col spa k n else [])) = _
    rw [ls_app, ih]
    by_cases e : sd k = t
    · rw [if_pos e, fd_ce]
      by_cases h3 : g d 0 = k
      · rw [if_neg (c := P d = true ∧ d < n ∧ g d 0 < k ∧ sd (g d 0) = t) (fun q => absurd q.2.2.1 (by omega)), Nat.zero_add]
        exact i10 ⟨fun q => ⟨q.1, q.2.2, by omega, by rw [h3]; exact e⟩, fun q => ⟨q.1, h3, q.2.1⟩⟩
      · rw [if_neg (c := P d = true ∧ g d 0 = k ∧ d < n) (fun q => h3 q.2.1), Nat.add_zero]
        exact i10 ⟨fun q => ⟨q.1, q.2.1, by have := q.2.2.1; omega, q.2.2.2⟩, fun q => ⟨q.1, q.2.1, by have := q.2.2.1; omega, q.2.2.2⟩⟩
    · rw [if_neg e]
      show _ + 0 = _
      rw [Nat.add_zero]
      exact i10 ⟨fun q => ⟨q.1, q.2.1, by have := q.2.2.1; omega, q.2.2.2⟩, fun q => ⟨q.1, q.2.1, by
        have h4 : ¬ g d 0 = k := fun e2 => e (by rw [← e2]; exact q.2.2.2)
        have := q.2.2.1
        omega, q.2.2.2⟩⟩
theorem fd_wx {P : Nat → Bool} {n : Nat} {g : Nat → Nat → Nat} (hg : okG n g) (s sd : Nat → Nat) {t d : Nat} (hd : d < n) : ls (fdd d) (wx P n g s sd t) = if P d = true ∧ sd (g d 0) = t then 1 else 0 := by
  have h4 : g d 0 < 4 := Nat.lt_succ_of_le (hg.b (d := d) (by have := hg.1; omega)).1
  have h1 := fd_sl P g (s 1) (clm P g n) (s 3) n sd t d 4
  have h2 : ls (fdd d) (wx P n g s sd t) = ls (fdd d) (sl (fun c => ce P g (s 1) (clm P g n) (s 3) c n) sd t 4) := by
    by_cases e : ¬ pc (kyl P g n) = 0 ∧ t = kys (sx P n g (s 1) (clm P g n) (s 3) sd)
    · have hW : wx P n g s sd t = sl (fun c => ce P g (s 1) (clm P g n) (s 3) c n) sd t 4 ++ [(3, 0, (pc (kyl P g n) + 2) / 3, 0, pc (kyl P g n), 1)] := if_pos e
      rw [hW, ls_one, fdd_n (e := (3, 0, (pc (kyl P g n) + 2) / 3, 0, pc (kyl P g n), 1)) (fun q => absurd (show (3 : Nat) = 2 from q.1) (by decide)), Nat.add_zero]
    · have hW : wx P n g s sd t = sl (fun c => ce P g (s 1) (clm P g n) (s 3) c n) sd t 4 := if_neg e
      rw [hW]
  rw [h2, h1]
  by_cases h5 : P d = true ∧ sd (g d 0) = t
  · rw [if_pos ⟨h5.1, hd, h4, h5.2⟩, if_pos h5]
  · rw [if_neg (fun q => h5 ⟨q.1, q.2.2.2⟩), if_neg h5]
theorem al_ce {T : sE → Prop} {P : Nat → Bool} {g : Nat → Nat → Nat} {wid col spa c : Nat} (h1 : T (1, c, 2, 0, 6, 1)) (h2 : ∀ d sp w p, T (2, d, ln g wid col d, sp, w, p)) : ∀ m, ∀ e, e ∈ ce P g wid col spa c m → T e
  | 0, e, he => absurd he List.not_mem_nil
  | m + 1, e, he => by
    by_cases h : g m 0 = c ∧ P m = true
    · by_cases h0 : cs P g c (fun _ => 1) m = 0
      · rw [ce_first h h0] at he
        rcases List.mem_cons.1 he with h3 | h3
        · rw [h3]; exact h1
        · rw [List.mem_singleton.1 h3]; exact h2 _ _ _ _
      · rw [ce_next h h0] at he
        rcases List.mem_append.1 he with h3 | h3
        · exact al_ce h1 h2 m e h3
        · rw [List.mem_singleton.1 h3]; exact h2 _ _ _ _
    · rw [ce_no h] at he
      exact al_ce h1 h2 m e he
theorem al_wx {T : sE → Prop} {P : Nat → Bool} {n : Nat} {g : Nat → Nat → Nat} {s sd : Nat → Nat} {t : Nat} (h1 : ∀ c, T (1, c, 2, 0, 6, 1)) (h2 : ∀ d sp w p, T (2, d, ln g (s 1) (clm P g n) d, sp, w, p)) (h3 : T (3, 0, (pc (kyl P g n) + 2) / 3, 0, pc (kyl P g n), 1)) : ∀ e, e ∈ wx P n g s sd t → T e := by
  have hs : ∀ k, ∀ e, e ∈ sl (fun c => ce P g (s 1) (clm P g n) (s 3) c n) sd t k → T e := by
    intro k
    induction k with
    | zero => intro e he; exact absurd he List.not_mem_nil
    | succ k ih =>
      intro e he
      have he' : e ∈ sl (fun c => ce P g (s 1) (clm P g n) (s 3) c n) sd t k ++ (if sd k = t then ce P g (s 1) (clm P g n) (s 3) k n else []) := he
      rcases List.mem_append.1 he' with h4 | h4
      · exact ih e h4
      · by_cases e2 : sd k = t
        · rw [if_pos e2] at h4
          exact al_ce (h1 k) h2 n e h4
        · rw [if_neg e2] at h4
          exact absurd h4 List.not_mem_nil
  intro e he
  by_cases ek : ¬ pc (kyl P g n) = 0 ∧ t = kys (sx P n g (s 1) (clm P g n) (s 3) sd)
  · have hW : wx P n g s sd t = sl (fun c => ce P g (s 1) (clm P g n) (s 3) c n) sd t 4 ++ [(3, 0, (pc (kyl P g n) + 2) / 3, 0, pc (kyl P g n), 1)] := if_pos ek
    rw [hW] at he
    rcases List.mem_append.1 he with h4 | h4
    · exact hs 4 e h4
    · rw [List.mem_singleton.1 h4]; exact h3
  · have hW : wx P n g s sd t = sl (fun c => ce P g (s 1) (clm P g n) (s 3) c n) sd t 4 := if_neg ek
    rw [hW] at he
    exact hs 4 e he
theorem one_at {f : sE → Nat} (hf : ∀ e, f e ≤ 1) {A : List sE} (h : ls f A = 1) : ∃ i, i < A.length ∧ f (nt A i) = 1 ∧ ∀ j, j < A.length → f (nt A j) = 1 → j = i := by
  have hs := sm_ls f A
  obtain ⟨k, h1, h2, h3⟩ := ivt (f := fun i => f (nt A i)) (fun k => hf _) (a := 0) (N := A.length) (by rw [hs, h]; exact Nat.one_pos)
  refine ⟨k, h1, h2, fun j hj hj2 => ?_⟩
  by_cases e1 : j < k
  · have h4 : f (nt A j) ≤ sm (fun i => f (nt A i)) k := sm_mem (fun i => f (nt A i)) e1
    omega
  · by_cases e2 : k < j
    · have h4 : f (nt A k) ≤ sm (fun i => f (nt A i)) j := sm_mem (fun i => f (nt A i)) e2
      have h5 : sm (fun i => f (nt A i)) (j + 1) ≤ sm (fun i => f (nt A i)) A.length := sm_mono _ hj
      have h6 : sm (fun i => f (nt A i)) (j + 1) = sm (fun i => f (nt A i)) j + f (nt A j) := rfl
      omega
    · omega
theorem none_at {f : sE → Nat} {A : List sE} (h : ls f A = 0) {i : Nat} (hi : i < A.length) : f (nt A i) = 0 := by
  have hs := sm_ls f A
  have h4 : f (nt A i) ≤ sm (fun i => f (nt A i)) A.length := sm_mem (fun i => f (nt A i)) hi
  omega
/-! ===== places in the reference, blocks in the class ===== -/
theorem e_isBlock {l i : Nat} (hi : i < l) (hl : l ≤ 25) {Q : Int32 → Prop} : p_X0_isBlock (nI l) (nI i) Q ↔ Q (nI 1) := by
  have e : 0 ≤ i ∧ i ≤ l - 1 := by omega
  unfold p_X0_isBlock
  simp (disch := omega) only [li_0, li_1, li_2, li_3, li_4, li_5, li_6, li_7, li_8, li_9, li_10, li_11, li_12, li_13, li_14, li_15, li_16, li_20, li_26, li_31, li_32, li_36, li_42, li_43, li_48, li_52, li_57, li_58, li_59, li_60, li_63, li_97, li_99, li_104, li_112, li_115, li_119, li_140, li_141, li_142, li_143, li_144, li_145, li_146, li_147, li_148, li_149, li_150, li_151, li_152, li_255, li_303, li_455, li_999, li_1000, li_1510, li_1820, li_2275, li_9999, li_10000, li_100000, li_1048575, li_100000000, pk_sub, e_inRangeN, e, true_and, and_true, not_true_eq_false, not_false_eq_true, true_imp_iff, false_imp_iff, false_and, and_false, imp_false, Classical.not_not, Bool.false_eq_true, Nat.zero_ne_one, Nat.one_ne_zero, Nat.not_lt_zero, if_true, if_false, implies_true]
theorem e_noBlock {l : Int32} {Q : Int32 → Prop} : p_X0_isBlock l (-nI 1) Q ↔ Q (nI 0) := by
  have e : (-nI 1 : Int32) < nI 0 := by decide
  unfold p_X0_isBlock p_X8_inRange
  simp only [li_0, li_1, li_2, li_3, li_4, li_5, li_6, li_7, li_8, li_9, li_10, li_11, li_12, li_13, li_14, li_15, li_16, li_20, li_26, li_31, li_32, li_36, li_42, li_43, li_48, li_52, li_57, li_58, li_59, li_60, li_63, li_97, li_99, li_104, li_112, li_115, li_119, li_140, li_141, li_142, li_143, li_144, li_145, li_146, li_147, li_148, li_149, li_150, li_151, li_152, li_255, li_303, li_455, li_999, li_1000, li_1510, li_1820, li_2275, li_9999, li_10000, li_100000, li_1048575, li_100000000, e, true_and, and_true, not_true_eq_false, not_false_eq_true, true_imp_iff, false_imp_iff, false_and, and_false, imp_false, Classical.not_not, Bool.false_eq_true, Nat.zero_ne_one, Nat.one_ne_zero, Nat.not_lt_zero, if_true, if_false, implies_true]
theorem i_blockOfDish {Y : List sE} (hY : okL Y) (hl : Y.length ≤ 25) {k' n' : Nat → Int32} (hk : ∀ i, i < Y.length → k' i = nI (eK (nt Y i)) ∧ n' i = nI (eN (nt Y i))) {d i0 : Nat} (hd : d < 20) (hi0 : i0 < Y.length) (he : eK (nt Y i0) = 2 ∧ eN (nt Y i0) = d) (hu : ∀ i, i < Y.length → eK (nt Y i) = 2 ∧ eN (nt Y i) = d → i = i0) {Q : Int32 → Prop} (h : Q (nI i0)) : p_X0_blockOfDish k' n' (nI Y.length) (nI d) Q := by
  unfold p_X0_blockOfDish p_X0_blockOfDish_2
  simp only [li_0, li_1, li_2, li_3, li_4, li_5, li_6, li_7, li_8, li_9, li_10, li_11, li_12, li_13, li_14, li_15, li_16, li_20, li_26, li_31, li_32, li_36, li_42, li_43, li_48, li_52, li_57, li_58, li_59, li_60, li_63, li_97, li_99, li_104, li_112, li_115, li_119, li_140, li_141, li_142, li_143, li_144, li_145, li_146, li_147, li_148, li_149, li_150, li_151, li_152, li_255, li_303, li_455, li_999, li_1000, li_1510, li_1820, li_2275, li_9999, li_10000, li_100000, li_1048575, li_100000000]
  refine wl0 (q_X0_blockOfDish_2 k' n' (nI Y.length) (nI d) Q) i0 (by omega) (fun _ => True) 0 (by omega) trivial ?_
  intro K i _ hi _ hK
  have hi2 : i < Y.length := by omega
  have h25 : i < 25 := by omega
  have hni : ¬ Y.length ≤ i := by omega
  obtain ⟨q1, q2⟩ := hk i hi2
  obtain ⟨o1, o2, o3, _⟩ := hY.1 _ (nt_mem hi2)
  unfold q_X0_blockOfDish_2 p_X0_blockOfDish_32
  simp (disch := omega) only [li_0, li_1, li_2, li_3, li_4, li_5, li_6, li_7, li_8, li_9, li_10, li_11, li_12, li_13, li_14, li_15, li_16, li_20, li_26, li_31, li_32, li_36, li_42, li_43, li_48, li_52, li_57, li_58, li_59, li_60, li_63, li_97, li_99, li_104, li_112, li_115, li_119, li_140, li_141, li_142, li_143, li_144, li_145, li_146, li_147, li_148, li_149, li_150, li_151, li_152, li_255, li_303, li_455, li_999, li_1000, li_1510, li_1820, li_2275, li_9999, li_10000, li_100000, li_1048575, li_100000000, nI_leI, hni, vp_t, nI_clamp, q1, q2, nI_eqI, nI_add, h25, true_and, and_true, not_true_eq_false, not_false_eq_true, true_imp_iff, false_imp_iff, false_and, and_false, imp_false, Classical.not_not, Bool.false_eq_true, Nat.zero_ne_one, Nat.one_ne_zero, Nat.not_lt_zero, if_true, if_false, implies_true]
  have skip : ¬ i = i0 → K (nI (i + 1)) := fun hne => hK (by omega) () trivial
  refine ⟨fun e1 => skip ?_, fun e1 => ⟨fun e2 => skip ?_, fun e2 => ?_⟩⟩
  · intro e
    subst e
    exact e1 he.1
  · intro e
    subst e
    exact e2 he.2
  · rw [hu i hi2 ⟨e1, e2⟩]
    exact h
theorem fil_le (A : List sE) (a i : Nat) : fil A a i ≤ a + 1 := by
  have h : ∀ p j, shr a p j ≤ a + 1 := by
    intro p j
    have := Nat.div_le_self a p
    unfold shr
    split
    · split <;> omega
    · omega
  unfold fil
  split
  · omega
  · exact h _ _
theorem bgn_le {A : List sE} (hA : okL A) (hl : A.length ≤ 25) {a i : Nat} (ha : a ≤ 225) (hi : i < A.length) : bgn A a i ≤ 10000 := by
  have h1 : sm (fun k => fil A a k + eA (nt A k)) i ≤ 235 * i := sm_le (fun k hk => by
    have := fil_le A a k
    obtain ⟨o1, o2, o3, o4, o5, o6, _⟩ := hA.1 _ (nt_mem (A := A) (i := k) (by omega))
    show fil A a k + (eL (nt A k) + eS (nt A k)) ≤ 235
    omega)
  have h2 := fil_le A a i
  have h3 := (hA.1 _ (nt_mem hi)).2.2.2.2.2.1
  unfold bgn
  omega
def ltr (T M w : Nat) : Nat := if T < M then 0 else if T - M < w then T - M else w
theorem d_lt {a b c : Nat} (ha : a < 2 ^ 30) (hb : b < 2 ^ 30) (hc : c < 2 ^ 30) : nI a - nI b < nI c ↔ a < b + c := by
  rw [Int32.lt_iff_toInt_lt, pk_sub_toInt ha hb, nI_toInt (by omega)]
  omega
theorem e_txt {T M w : Nat} (hT : T < 2 ^ 20) (hM : M < 2 ^ 20) (hw0 : 0 < w) (hw : w < 2 ^ 20) : (if (0 : Int32) < (if nI T - nI M < nI w then nI T - nI M else nI w) then (if nI T - nI M < nI w then nI T - nI M else nI w) else (0 : Int32)) = nI (ltr T M w) := by
  unfold ltr
  by_cases h1 : T < M
  · have e1 : nI T - nI M < nI w := (d_lt (by omega) (by omega) (by omega)).2 (by omega)
    have e2 : ¬ (0 : Int32) < nI T - nI M := by
      have h2 : nI T - nI M ≤ nI 0 := (d_le0 (by omega) (by omega)).2 (by omega)
      intro h3
      rw [Int32.lt_iff_toInt_lt] at h3
      rw [Int32.le_iff_toInt_le] at h2
      have : (nI 0).toInt = (0 : Int32).toInt := rfl
      omega
    rw [if_pos e1, if_neg e2, if_pos h1]
    rfl
  · rw [if_neg h1, pk_sub (by omega)]
    by_cases h2 : T - M < w
    · rw [if_pos ((nI_ltI (by omega) (by omega)).2 h2), if_pos h2]
      by_cases h3 : T - M = 0
      · rw [h3]
        rfl
      · rw [if_pos]
        exact (nI_ltI (a := 0) (by omega) (by omega)).2 (by omega)
    · rw [if_neg (fun e => h2 ((nI_ltI (by omega) (by omega)).1 e)), if_neg h2, if_pos]
      exact (nI_ltI (a := 0) (by omega) (by omega)).2 (by omega)
/-- what a line tells -/
def tlv (g : Nat → Nat → Nat) (wid col ky kk : Nat) (e : sE) (w q : Nat) : Int32 :=
  if q = 0 then nI (eK e) else if q = 1 then (if eK e = 3 then nI kk else nI (eN e)) else if q = 2 then nI w else if q = 3 then (if eK e = 1 then nI (if w = 0 then 6 else 0) else if eK e = 2 then nI (g (eN e) 5 + if w = 0 then 2 else 0) else nI (min 3 (pc ky - 3 * w))) else if q = 4 then (if eK e = 2 then nI (ltr (tx g (eN e)) (w * wid) wid) else nI 0) else (if eK e = 2 ∧ w = eL e - 1 then nI wid - nI col - nI (ltr (tx g (eN e)) (w * wid) wid) else nI 0)
theorem i_headingLine {g : Nat → Nat → Nat} {wid col ky kk : Nat} {e : sE} {w q : Nat} (he : okE e) (hk : eK e = 1) (hw : w < 100) (hq : q ≤ 5) (hq0 : ¬ q = 0) {Q : Int32 → Prop} (h : Q (tlv g wid col ky kk e w q)) : p_X8_headingLine (nI (eN e)) (nI w) (nI q) Q := by
  unfold p_X8_headingLine
  unfold tlv at h
  have h3 : ¬ eK e = 3 := by omega
  have h2 : ¬ eK e = 2 := by omega
  have h2' : ¬ (eK e = 2 ∧ w = eL e - 1) := fun q => h2 q.1
  simp (disch := omega) only [li_0, li_1, li_2, li_3, li_4, li_5, li_6, li_7, li_8, li_9, li_10, li_11, li_12, li_13, li_14, li_15, li_16, li_20, li_26, li_31, li_32, li_36, li_42, li_43, li_48, li_52, li_57, li_58, li_59, li_60, li_63, li_97, li_99, li_104, li_112, li_115, li_119, li_140, li_141, li_142, li_143, li_144, li_145, li_146, li_147, li_148, li_149, li_150, li_151, li_152, li_255, li_303, li_455, li_999, li_1000, li_1510, li_1820, li_2275, li_9999, li_10000, li_100000, li_1048575, li_100000000, nI_eqI]
  refine ⟨fun e0 => ?_, fun e0 => ?_, fun e0 => ⟨fun e1 => ?_, fun e1 => ?_⟩, fun e1 e2 e3 => ?_⟩
  · subst e0
    rw [if_neg (by decide), if_pos rfl, if_neg h3] at h
    exact h
  · subst e0
    exact h
  · subst e0
    rw [if_neg (by decide), if_neg (by decide), if_neg (by decide), if_pos rfl, if_pos hk, if_neg e1] at h
    exact h
  · subst e0
    rw [if_neg (by decide), if_neg (by decide), if_neg (by decide), if_pos rfl, if_pos hk, if_pos e1] at h
    exact h
  · rw [if_neg hq0, if_neg e1, if_neg e2, if_neg e3, if_neg h2, if_neg h2'] at h
    split at h <;> exact h
theorem i_keyLine {g : Nat → Nat → Nat} {wid col ky kk : Nat} (hky : ky < 256) {e : sE} {w q : Nat} (hk : eK e = 3) (hw : w < 100) (hq : q ≤ 5) (hq0 : ¬ q = 0) (h4 : kk < 20 ∧ tb ky kk = 1 ∧ sm (fun j => tb ky j) kk = 3 * w ∧ 3 * w ≤ pc ky) {Q : Int32 → Prop} (h : Q (tlv g wid col ky kk e w q)) : p_X8_keyLine (nI ky) (nI w) (nI q) Q := by
  obtain ⟨a1, a2, a3, a4⟩ := h4
  have hpc := (pc_mark ky hky).1
  unfold p_X8_keyLine
  unfold tlv at h
  have h1 : ¬ eK e = 1 := by omega
  have h2 : ¬ eK e = 2 := by omega
  have h2' : ¬ (eK e = 2 ∧ w = eL e - 1) := fun q => h2 q.1
  simp (disch := omega) only [li_0, li_1, li_2, li_3, li_4, li_5, li_6, li_7, li_8, li_9, li_10, li_11, li_12, li_13, li_14, li_15, li_16, li_20, li_26, li_31, li_32, li_36, li_42, li_43, li_48, li_52, li_57, li_58, li_59, li_60, li_63, li_97, li_99, li_104, li_112, li_115, li_119, li_140, li_141, li_142, li_143, li_144, li_145, li_146, li_147, li_148, li_149, li_150, li_151, li_152, li_255, li_303, li_455, li_999, li_1000, li_1510, li_1820, li_2275, li_9999, li_10000, li_100000, li_1048575, li_100000000, nI_eqI, pk_mul, e_bitCount]
  refine ⟨fun e0 => ?_, fun e0 => ?_, fun e0 => ?_, fun e1 e2 e3 => ?_⟩
  · subst e0
    rw [if_neg (by decide), if_pos rfl, if_pos hk] at h
    exact i_memberOf (by omega) a1 a2 (by rw [a3, Nat.mul_comm]) h
  · subst e0
    exact h
  · subst e0
    rw [if_neg (by decide), if_neg (by decide), if_neg (by decide), if_pos rfl, if_neg h1, if_neg h2] at h
    rw [pk_sub (by omega)]
    by_cases e5 : pc ky - w * 3 < 3
    · rw [if_pos ((nI_ltI (by omega) (by omega)).2 e5)]
      rw [show min 3 (pc ky - 3 * w) = pc ky - w * 3 by omega] at h
      exact h
    · rw [if_neg (fun q => e5 ((nI_ltI (by omega) (by omega)).1 q))]
      rw [show min 3 (pc ky - 3 * w) = 3 by omega] at h
      exact h
  · rw [if_neg hq0, if_neg e1, if_neg e2, if_neg e3, if_neg h2, if_neg h2'] at h
    split at h <;> exact h
theorem i_dishLine {S : sS} {n : Nat} {g : Nat → Nat → Nat} {s : Nat → Nat} (hv : ∀ d k, d < 20 → k < 7 → S.1.1 (d * 7 + k) = nI (g d k)) (hs : ∀ k, k < 6 → S.1.2.1 k = nI (s k)) (hg : okG n g) (ho : okS s) {col ky kk : Nat} (hcol : col ≤ 4) {e : sE} {w q : Nat} (he : okE e) (hk : eK e = 2) (hln : eL e = ln g (s 1) col (eN e)) (hw : w < eL e) (hq : q ≤ 5) (hq0 : ¬ q = 0) {Q : Int32 → Prop} (h : Q (tlv g (s 1) col ky kk e w q)) : p_X8_dishLine S (nI col) (nI (eN e)) (nI w) (nI q) Q := by
  obtain ⟨o1, o2, o3, o4, o5, o6, o7, o8, o9⟩ := he
  obtain ⟨s0, s1, s2, s3, s4, s5, s6, s7⟩ := ho.b
  obtain ⟨b0, b1, b2, b3, b4, b5, b6⟩ := hg.b o3
  have htx := tx_le hg o3
  have hm : w * s 1 ≤ 10 * 60 := Nat.mul_le_mul (by omega) s2
  have h3 : ¬ eK e = 3 := by omega
  have h1 : ¬ eK e = 1 := by omega
  unfold p_X8_dishLine
  refine (e_setting hs (k := 1) (by decide)).2 ?_
  refine (e_textOf hv hg o3).2 ?_
  refine (e_linesOf hv hs hg ho o3 hcol).2 ?_
  rw [← hln]
  have hr : ∀ k0 : Nat, (k0 = if w = eL e - 1 then 1 else 0) → p_X8_dishLine_69 S (nI col) (nI (eN e)) (nI w) (nI q) (nI (s 1)) (nI (ltr (tx g (eN e)) (w * s 1) (s 1))) (nI k0) Q := by
    intro k0 hk0
    have hk01 : k0 ≤ 1 := by
      rw [hk0]
      split <;> omega
    unfold p_X8_dishLine_69
    unfold tlv at h
    simp (disch := omega) only [li_0, li_1, li_2, li_3, li_4, li_5, li_6, li_7, li_8, li_9, li_10, li_11, li_12, li_13, li_14, li_15, li_16, li_20, li_26, li_31, li_32, li_36, li_42, li_43, li_48, li_52, li_57, li_58, li_59, li_60, li_63, li_97, li_99, li_104, li_112, li_115, li_119, li_140, li_141, li_142, li_143, li_144, li_145, li_146, li_147, li_148, li_149, li_150, li_151, li_152, li_255, li_303, li_455, li_999, li_1000, li_1510, li_1820, li_2275, li_9999, li_10000, li_100000, li_1048575, li_100000000, nI_eqI, e_valueOf hv, nI_add]
    refine ⟨fun e0 => ?_, fun e0 => ?_, fun e0 => ⟨fun e1 => ?_, fun e1 => ?_⟩, fun e0 => ?_, fun e1 e2 e3 e4 => ⟨fun e5 => ?_, fun e5 => ?_⟩⟩
    · subst e0
      rw [if_neg (by decide), if_pos rfl, if_neg h3] at h
      exact h
    · subst e0
      exact h
    · subst e0
      rw [if_neg (by decide), if_neg (by decide), if_neg (by decide), if_pos rfl, if_neg h1, if_pos hk, if_neg e1] at h
      exact h
    · subst e0
      rw [if_neg (by decide), if_neg (by decide), if_neg (by decide), if_pos rfl, if_neg h1, if_pos hk, if_pos e1] at h
      exact h
    · subst e0
      rw [if_neg (by decide), if_neg (by decide), if_neg (by decide), if_neg (by decide), if_pos rfl, if_pos hk] at h
      exact h
    · have e6 : ¬ w = eL e - 1 := by
        intro e7
        rw [if_pos e7] at hk0
        omega
      rw [if_neg hq0, if_neg e1, if_neg e2, if_neg e3, if_neg e4, if_neg (fun q => e6 q.2)] at h
      exact h
    · have e6 : w = eL e - 1 := by
        by_cases e7 : w = eL e - 1
        · exact e7
        · rw [if_neg e7] at hk0
          omega
      rw [if_neg hq0, if_neg e1, if_neg e2, if_neg e3, if_neg e4, if_pos ⟨hk, e6⟩] at h
      have e8 : ∀ a b c : Int32, a - b - c = a - c - b := by
        intro a b c
        rw [Int32.sub_eq_add_neg, Int32.sub_eq_add_neg, Int32.sub_eq_add_neg, Int32.sub_eq_add_neg, Int32.add_assoc, Int32.add_comm (-b), ← Int32.add_assoc]
      rw [e8]
      exact h
  have hm1 : nI (eL e) - 1 = nI (eL e - 1) := pk_sub (a := eL e) (b := 1) (by omega)
  have htt := e_txt (T := tx g (eN e)) (M := w * s 1) (w := s 1) (by omega) (by omega) (by omega) (by omega)
  rw [← pk_mul] at htt
  show (¬ nI w = nI (eL e) - 1 → _) ∧ (nI w = nI (eL e) - 1 → _)
  rw [hm1, nI_eqI (by omega) (by omega), htt]
  exact ⟨fun e0 => hr 0 (if_neg e0).symm, fun e0 => hr 1 (if_pos e0).symm⟩
/-- a line is within a block -/
def hit (Y : List sE) (a x i : Nat) : Prop := bgn Y a i ≤ x ∧ x ≤ bgn Y a i + eL (nt Y i) - 1
theorem i_blockAt {Y : List sE} (hY : okL Y) (hl : Y.length ≤ 25) {a x : Nat} (ha : a ≤ 225) (hx : x < 2 ^ 31) {s' z' : Nat → Int32} (hB : ∀ i, i < Y.length → s' i = nI (bgn Y a i) ∧ z' i = nI (eL (nt Y i))) {N : Nat} (hN : N ≤ Y.length) (h0 : ∀ j, j < N → ¬ hit Y a x j) (h1 : N < Y.length → hit Y a x N) {Q : Int32 → Prop} (h : Q (if N = Y.length then -nI 1 else nI N)) : p_X0_blockAt s' z' (nI Y.length) (nI x) Q := by
  unfold p_X0_blockAt p_X0_blockAt_2
  simp only [li_0, li_1, li_2, li_3, li_4, li_5, li_6, li_7, li_8, li_9, li_10, li_11, li_12, li_13, li_14, li_15, li_16, li_20, li_26, li_31, li_32, li_36, li_42, li_43, li_48, li_52, li_57, li_58, li_59, li_60, li_63, li_97, li_99, li_104, li_112, li_115, li_119, li_140, li_141, li_142, li_143, li_144, li_145, li_146, li_147, li_148, li_149, li_150, li_151, li_152, li_255, li_303, li_455, li_999, li_1000, li_1510, li_1820, li_2275, li_9999, li_10000, li_100000, li_1048575, li_100000000]
  refine wl0 (q_X0_blockAt_2 s' z' (nI Y.length) (nI x) Q) N (by omega) (fun _ => True) 0 (by omega) trivial ?_
  intro K i _ hi _ hK
  unfold q_X0_blockAt_2
  simp (disch := omega) only [li_0, li_1, li_2, li_3, li_4, li_5, li_6, li_7, li_8, li_9, li_10, li_11, li_12, li_13, li_14, li_15, li_16, li_20, li_26, li_31, li_32, li_36, li_42, li_43, li_48, li_52, li_57, li_58, li_59, li_60, li_63, li_97, li_99, li_104, li_112, li_115, li_119, li_140, li_141, li_142, li_143, li_144, li_145, li_146, li_147, li_148, li_149, li_150, li_151, li_152, li_255, li_303, li_455, li_999, li_1000, li_1510, li_1820, li_2275, li_9999, li_10000, li_100000, li_1048575, li_100000000, nI_leI]
  refine ⟨fun hge => ?_, fun hlt => ?_⟩
  · rw [if_pos (by omega)] at h
    exact h
  · have hi2 : i < Y.length := by omega
    have h25 : i < 25 := by omega
    obtain ⟨q1, q2⟩ := hB i hi2
    have o4 := (hY.1 _ (nt_mem hi2)).2.2.2.1
    have o5 := (hY.1 _ (nt_mem hi2)).2.2.2.2.1
    have hb := bgn_le hY hl ha hi2
    simp (disch := omega) only [vp_t, nI_clamp, q1, q2, nI_add, pk_sub, e_inRangeN, nI_eqI, h25, Nat.one_ne_zero, true_and, and_true, not_true_eq_false, not_false_eq_true, true_imp_iff, false_imp_iff, false_and, and_false, imp_false, Classical.not_not, Bool.false_eq_true, Nat.zero_ne_one, Nat.one_ne_zero, Nat.not_lt_zero, if_true, if_false, implies_true]
    refine ⟨fun e => ?_, fun e => ?_⟩
    · by_cases e2 : i = N
      · subst e2
        rw [if_neg (by omega)] at h
        exact h
      · exact absurd e (h0 i (by omega))
    · by_cases e2 : i = N
      · subst e2
        exact absurd (h1 hi2) e
      · exact hK (by omega) () trivial

/-! ===== the blocks of a side: kind, number, lines, spacing ahead, weight, whether it may have fill ahead ===== -/
abbrev sE : Type := Nat × Nat × Nat × Nat × Nat × Nat
def eK (e : sE) : Nat := e.1
def eN (e : sE) : Nat := e.2.1
def eL (e : sE) : Nat := e.2.2.1
def eS (e : sE) : Nat := e.2.2.2.1
def eW (e : sE) : Nat := e.2.2.2.2.1
def eP (e : sE) : Nat := e.2.2.2.2.2
def ls (f : sE → Nat) : List sE → Nat
  | [] => 0
  | e :: t => f e + ls f t
theorem ls_app (f : sE → Nat) : ∀ (A B : List sE), ls f (A ++ B) = ls f A + ls f B
  | [], B => (Nat.zero_add _).symm
  | e :: t, B => by
    show f e + ls f (t ++ B) = f e + ls f t + ls f B
    rw [ls_app f t B, Nat.add_assoc]
theorem ls_one (f : sE → Nat) (A : List sE) (e : sE) : ls f (A ++ [e]) = ls f A + f e := by
  rw [ls_app]
  rfl
theorem ls_le {f : sE → Nat} {m : Nat} : ∀ {A : List sE}, (∀ e, e ∈ A → f e ≤ m) → ls f A ≤ m * A.length
  | [], _ => Nat.zero_le _
  | e :: t, h => by
    have h1 := ls_le (f := f) (m := m) (A := t) (fun x hx => h x (List.mem_cons_of_mem _ hx))
    have h2 := h e (List.mem_cons_self ..)
    show f e + ls f t ≤ m * (t.length + 1)
    rw [Nat.mul_add]
    omega
theorem ls_add (f g : sE → Nat) : ∀ A : List sE, ls (fun e => f e + g e) A = ls f A + ls g A
  | [] => rfl
  | e :: t => by
    show f e + g e + ls (fun e => f e + g e) t = f e + ls f t + (g e + ls g t)
    rw [ls_add f g t]
    omega
def nt (A : List sE) (i : Nat) : sE := A.getD i (0, 0, 0, 0, 0, 0)
theorem nt_in {A B : List sE} {i : Nat} (h : i < A.length) : nt (A ++ B) i = nt A i := by
  unfold nt
  rw [List.getD_eq_getElem?_getD, List.getD_eq_getElem?_getD, List.getElem?_append_left h]
theorem nt_last (A : List sE) (e : sE) (B : List sE) : nt (A ++ e :: B) A.length = e := by
  unfold nt
  rw [List.getD_eq_getElem?_getD, List.getElem?_append_right (Nat.le_refl _), Nat.sub_self]
  rfl
theorem nt_mem {A : List sE} {i : Nat} (h : i < A.length) : nt A i ∈ A := by
  unfold nt
  rw [List.getD_eq_getElem?_getD, List.getElem?_eq_getElem h]
  exact List.getElem_mem h
theorem sm_ls (f : sE → Nat) : ∀ (A : List sE), sm (fun i => f (nt A i)) A.length = ls f A := by
  intro A
  have : ∀ k, k ≤ A.length → sm (fun i => f (nt A i)) k = ls f (A.take k) := by
    intro k
    induction k with
    | zero => intro _; rfl
    | succ k ih =>
      intro hk
      show sm (fun i => f (nt A i)) k + f (nt A k) = _
      have e : A.take (k + 1) = A.take k ++ [nt A k] := by
        rw [List.take_add_one, List.getElem?_eq_getElem (by omega)]
        unfold nt
        rw [List.getD_eq_getElem?_getD, List.getElem?_eq_getElem (by omega)]
        rfl
      rw [ih (by omega), e, ls_one]
  have h := this A.length (Nat.le_refl _)
  rw [List.take_length] at h
  exact h
theorem take_s {A : List sE} {k : Nat} (h : k < A.length) : A.take (k + 1) = A.take k ++ [nt A k] := by
  rw [List.take_add_one, List.getElem?_eq_getElem h]
  unfold nt
  rw [List.getD_eq_getElem?_getD, List.getElem?_eq_getElem h]
  rfl
def okE (e : sE) : Prop := 1 ≤ eK e ∧ eK e ≤ 3 ∧ eN e < 20 ∧ 1 ≤ eL e ∧ eL e ≤ 7 ∧ eS e ≤ 2 ∧ eW e ≤ 40 ∧ eP e ≤ 1 ∧ (eK e = 2 ∨ eS e = 0)
/-- its kind tells whether it may have fill ahead, but for dishes: the one behind the heading has none -/
def okL (A : List sE) : Prop := (∀ e, e ∈ A → okE e) ∧ (∀ i, i < A.length → (eP (nt A i) = 0 ↔ 0 < i ∧ eK (nt A i) = 2 ∧ eK (nt A (i - 1)) = 1))
theorem okL_nil : okL [] := ⟨fun _ h => absurd h List.not_mem_nil, fun _ h => absurd h (Nat.not_lt_zero _)⟩
theorem okL_one {A : List sE} (h : okL A) {e : sE} (he : okE e) (hp : eP e = 0 ↔ 0 < A.length ∧ eK e = 2 ∧ eK (nt A (A.length - 1)) = 1) : okL (A ++ [e]) := by
  refine ⟨fun x hx => ?_, fun i hi => ?_⟩
  · rcases List.mem_append.1 hx with h1 | h1
    · exact h.1 x h1
    · rw [List.mem_singleton.1 h1]
      exact he
  · rw [List.length_append] at hi
    have hi2 : i < A.length + 1 := hi
    by_cases e1 : i = A.length
    · subst e1
      rw [nt_last]
      by_cases h0 : 0 < A.length
      · rw [nt_in (i := A.length - 1) (by omega)]
        exact hp
      · rw [hp]
        constructor
        · intro h2; exact absurd h2.1 h0
        · intro h2; exact absurd h2.1 h0
    · rw [nt_in (by omega), h.2 i (by omega)]
      by_cases h0 : 0 < i
      · rw [nt_in (i := i - 1) (by omega)]
      · constructor
        · intro h2; exact absurd h2.1 h0
        · intro h2; exact absurd h2.1 h0
/-- the lines of headings, dishes, spacing, key -/
def pf (p : Nat) (e : sE) : Nat := if p = 0 then (if eK e = 1 then eL e else 0) else if p = 1 then (if eK e = 2 then eL e else 0) else if p = 2 then eS e else if p = 3 then (if eK e = 3 then eL e else 0) else 0
def eA (e : sE) : Nat := eL e + eS e
theorem pf_all {e : sE} (h : okE e) : pf 0 e + pf 1 e + pf 2 e + pf 3 e = eA e := by
  obtain ⟨h1, h2, _⟩ := h
  unfold pf eA
  have : eK e = 1 ∨ eK e = 2 ∨ eK e = 3 := by omega
  rcases this with h | h | h <;> simp [h]
  omega
theorem ls_all : ∀ {A : List sE}, (∀ e, e ∈ A → okE e) → ls (pf 0) A + ls (pf 1) A + ls (pf 2) A + ls (pf 3) A = ls eA A
  | [], _ => rfl
  | e :: t, h => by
    have h1 := ls_all (A := t) (fun x hx => h x (List.mem_cons_of_mem _ hx))
    have h2 := pf_all (h e (List.mem_cons_self ..))
    show pf 0 e + ls (pf 0) t + (pf 1 e + ls (pf 1) t) + (pf 2 e + ls (pf 2) t) + (pf 3 e + ls (pf 3) t) = eA e + ls eA t
    omega
theorem okL_b {A : List sE} (h : okL A) : ls eA A ≤ 9 * A.length ∧ ls eW A ≤ 40 * A.length ∧ ls eP A ≤ 1 * A.length ∧ ls (pf 0) A ≤ 7 * A.length ∧ ls (pf 1) A ≤ 7 * A.length ∧ ls (pf 2) A ≤ 2 * A.length ∧ ls (pf 3) A ≤ 7 * A.length := by
  refine ⟨ls_le fun e he => ?_, ls_le fun e he => ?_, ls_le fun e he => ?_, ls_le fun e he => ?_, ls_le fun e he => ?_, ls_le fun e he => ?_, ls_le fun e he => ?_⟩
  all_goals obtain ⟨h1, h2, h3, h4, h5, h6, h7, h8, h9⟩ := h.1 e he
  · unfold eA; omega
  · exact h7
  · omega
  · unfold pf; simp; split <;> omega
  · unfold pf; simp; split <;> omega
  · unfold pf; simp; omega
  · unfold pf; simp; split <;> omega
/-! ===== a course's blocks, and a side's ===== -/
def ce (P : Nat → Bool) (g : Nat → Nat → Nat) (wid col spa c : Nat) : Nat → List sE
  | 0 => []
  | d + 1 => if g d 0 = c ∧ P d = true then (if cs P g c (fun _ => 1) d = 0 then [(1, c, 2, 0, 6, 1), (2, d, ln g wid col d, 0, g d 5 * ln g wid col d + 2, 0)] else ce P g wid col spa c d ++ [(2, d, ln g wid col d, spa, g d 5 * ln g wid col d + 2, 1)]) else ce P g wid col spa c d
theorem ce_no {P : Nat → Bool} {g : Nat → Nat → Nat} {wid col spa c d : Nat} (h : ¬ (g d 0 = c ∧ P d = true)) : ce P g wid col spa c (d + 1) = ce P g wid col spa c d := if_neg h
theorem ce_first {P : Nat → Bool} {g : Nat → Nat → Nat} {wid col spa c d : Nat} (h : g d 0 = c ∧ P d = true) (h0 : cs P g c (fun _ => 1) d = 0) : ce P g wid col spa c (d + 1) = [(1, c, 2, 0, 6, 1), (2, d, ln g wid col d, 0, g d 5 * ln g wid col d + 2, 0)] := by
  show (if g d 0 = c ∧ P d = true then _ else _) = _
  rw [if_pos h, if_pos h0]
theorem ce_next {P : Nat → Bool} {g : Nat → Nat → Nat} {wid col spa c d : Nat} (h : g d 0 = c ∧ P d = true) (h0 : ¬ cs P g c (fun _ => 1) d = 0) : ce P g wid col spa c (d + 1) = ce P g wid col spa c d ++ [(2, d, ln g wid col d, spa, g d 5 * ln g wid col d + 2, 1)] := by
  show (if g d 0 = c ∧ P d = true then _ else _) = _
  rw [if_pos h, if_neg h0]
theorem ce_nil {P : Nat → Bool} {g : Nat → Nat → Nat} {wid col spa c : Nat} : ∀ {d : Nat}, cs P g c (fun _ => 1) d = 0 → ce P g wid col spa c d = []
  | 0, _ => rfl
  | d + 1, h => by
    rw [cs_step] at h
    by_cases h1 : g d 0 = c ∧ P d = true
    · rw [if_pos h1] at h
      omega
    · rw [if_neg h1] at h
      rw [ce_no h1]
      exact ce_nil (by omega)
theorem ce_len (P : Nat → Bool) (g : Nat → Nat → Nat) (wid col spa c : Nat) : ∀ d, (ce P g wid col spa c d).length = if cs P g c (fun _ => 1) d = 0 then 0 else cs P g c (fun _ => 1) d + 1
  | 0 => rfl
  | d + 1 => by
    have ih := ce_len P g wid col spa c d
    rw [cs_step]
    by_cases h1 : g d 0 = c ∧ P d = true
    · rw [if_pos h1]
      by_cases h0 : cs P g c (fun _ => 1) d = 0
      · rw [ce_first h1 h0, h0]
        rfl
      · rw [ce_next h1 h0, List.length_append, ih, if_neg h0, if_neg (by omega)]
        rfl
    · rw [if_neg h1, ce_no h1, ih]
      rfl
/-- what a course's blocks come to -/
theorem ce_sums (P : Nat → Bool) (g : Nat → Nat → Nat) (wid col spa c : Nat) : ∀ d, ¬ cs P g c (fun _ => 1) d = 0 → ls (pf 0) (ce P g wid col spa c d) = 2 ∧ ls (pf 1) (ce P g wid col spa c d) = cs P g c (ln g wid col) d ∧ ls (pf 2) (ce P g wid col spa c d) = (cs P g c (fun _ => 1) d - 1) * spa ∧ ls (pf 3) (ce P g wid col spa c d) = 0 ∧ ls eW (ce P g wid col spa c d) = 6 + cs P g c (fun d => g d 5 * ln g wid col d + 2) d ∧ ls eP (ce P g wid col spa c d) = cs P g c (fun _ => 1) d
  | 0, h => absurd rfl h
  | d + 1, h => by
    rw [cs_step] at h
    simp only [cs_step]
    by_cases h1 : g d 0 = c ∧ P d = true
    · simp only [if_pos h1] at h ⊢
      by_cases h0 : cs P g c (fun _ => 1) d = 0
      · rw [ce_first h1 h0]
        have z : ∀ f, cs P g c f d = 0 := by
          intro f
          apply sm_zero
          intro k hk
          have hz : (if g k 0 = c ∧ P k = true then 1 else 0) ≤ cs P g c (fun _ => 1) d := sm_mem (fun k => if g k 0 = c ∧ P k = true then 1 else 0) hk
          by_cases h2 : g k 0 = c ∧ P k = true
          · rw [if_pos h2] at hz
            omega
          · exact if_neg h2
        simp [ls, pf, eK, eL, eS, eW, eP, z]
      · obtain ⟨i1, i2, i3, i4, i5, i6⟩ := ce_sums P g wid col spa c d h0
        rw [ce_next h1 h0]
        simp only [ls_one, i1, i2, i3, i4, i5, i6]
        obtain ⟨x, hx⟩ : ∃ x, cs P g c (fun _ => 1) d = x + 1 := ⟨cs P g c (fun _ => 1) d - 1, by omega⟩
        simp [pf, eK, eL, eS, eW, eP, hx, Nat.add_mul]
        omega
    · simp only [if_neg h1, Nat.add_zero] at h ⊢
      rw [ce_no h1]
      exact ce_sums P g wid col spa c d h
theorem ce_ok {n : Nat} {P : Nat → Bool} {g : Nat → Nat → Nat} (hg : okG n g) {wid col spa c : Nat} (h1 : 20 ≤ wid) (h2 : col ≤ 4) (h3 : spa ≤ 2) (hc : c < 4) : ∀ d, d ≤ 20 → okL (ce P g wid col spa c d) ∧ (∀ i, i < (ce P g wid col spa c d).length → 0 < i → eK (nt (ce P g wid col spa c d) i) = 2) ∧ (cs P g c (fun _ => 1) d = 0 → ce P g wid col spa c d = []) ∧ (¬ cs P g c (fun _ => 1) d = 0 → eK (nt (ce P g wid col spa c d) 0) = 1 ∧ 1 < (ce P g wid col spa c d).length)
  | 0, _ => ⟨okL_nil, fun i hi => absurd hi (Nat.not_lt_zero _), fun _ => rfl, fun h => absurd rfl h⟩
  | d + 1, hd => by
    obtain ⟨i1, i2, i3, i4⟩ := ce_ok (P := P) hg h1 h2 h3 hc d (by omega)
    obtain ⟨b0, b1, b2, b3, b4, b5, b6⟩ := hg.b (d := d) (by omega)
    obtain ⟨hl, hl1⟩ := ln_le hg (wid := wid) (col := col) (d := d) (by omega) h1 h2
    have hw : g d 5 * ln g wid col d ≤ 5 * 6 := Nat.mul_le_mul b5 hl
    by_cases h0 : g d 0 = c ∧ P d = true
    · by_cases hz : cs P g c (fun _ => 1) d = 0
      · rw [ce_first h0 hz]
        refine ⟨?_, ?_, ?_, ?_⟩
        · refine okL_one (A := [(1, c, 2, 0, 6, 1)]) (okL_one (A := []) okL_nil ?_ ?_) ?_ ?_
          · simp only [okE, eK, eN, eL, eS, eW, eP, or_true, true_or, and_true, true_and]
            omega
          · simp only [eK, eP, List.length_nil]
            omega
          · simp only [okE, eK, eN, eL, eS, eW, eP, or_true, true_or, and_true, true_and]
            omega
          · simp [eK, eP, nt]
        · intro i hi hi0
          have : i = 1 := by
            have : i < 2 := hi
            omega
          subst this
          rfl
        · rw [cs_step, if_pos h0]
          omega
        · intro _
          exact ⟨rfl, Nat.lt_succ_self 1⟩
      · obtain ⟨j1, j2⟩ := i4 hz
        rw [ce_next h0 hz]
        refine ⟨?_, ?_, ?_, ?_⟩
        · refine okL_one i1 ?_ ?_
          · simp only [okE, eK, eN, eL, eS, eW, eP, or_true, true_or, and_true, true_and]
            omega
          · have := i2 ((ce P g wid col spa c d).length - 1) (by omega) (by omega)
            rw [this]
            simp [eP]
        · intro i hi hi0
          rw [List.length_append] at hi
          have hi2 : i < (ce P g wid col spa c d).length + 1 := hi
          by_cases e : i = (ce P g wid col spa c d).length
          · subst e
            rw [nt_last]
            rfl
          · rw [nt_in (by omega)]
            exact i2 i (by omega) hi0
        · rw [cs_step, if_pos h0]
          omega
        · intro _
          rw [nt_in (by omega), List.length_append]
          exact ⟨j1, by omega⟩
    · rw [ce_no h0, cs_step, if_neg h0, Nat.add_zero]
      exact ⟨i1, i2, i3, i4⟩
/-- the blocks of a side, of the first courses -/
def sl (F : Nat → List sE) (sd : Nat → Nat) (s : Nat) : Nat → List sE
  | 0 => []
  | c + 1 => sl F sd s c ++ (if sd c = s then F c else [])
theorem sl_cong {F : Nat → List sE} {sd sd' : Nat → Nat} {s : Nat} : ∀ {k : Nat}, (∀ c, c < k → sd c = sd' c) → sl F sd s k = sl F sd' s k
  | 0, _ => rfl
  | k + 1, h => by
    show sl F sd s k ++ (if sd k = s then F k else []) = sl F sd' s k ++ (if sd' k = s then F k else [])
    rw [sl_cong (fun c hc => h c (Nat.lt_succ_of_lt hc)), h k (Nat.lt_succ_self k)]
/-- lists that begin with what is no dish may stand behind others -/
theorem okL_app {A B : List sE} (hA : okL A) (hB : okL B) (h0 : 0 < B.length → ¬ eK (nt B 0) = 2) : okL (A ++ B) := by
  have ntr : ∀ i, nt (A ++ B) (A.length + i) = nt B i := by
    intro i
    unfold nt
    rw [List.getD_eq_getElem?_getD, List.getD_eq_getElem?_getD, List.getElem?_append_right (by omega), Nat.add_sub_cancel_left]
  refine ⟨fun x hx => ?_, fun i hi => ?_⟩
  · rcases List.mem_append.1 hx with h1 | h1
    · exact hA.1 x h1
    · exact hB.1 x h1
  · rw [List.length_append] at hi
    by_cases e : i < A.length
    · rw [nt_in e, hA.2 i e]
      by_cases h : 0 < i
      · rw [nt_in (i := i - 1) (by omega)]
      · constructor
        · intro h2; exact absurd h2.1 h
        · intro h2; exact absurd h2.1 h
    · obtain ⟨j, rfl⟩ : ∃ j, i = A.length + j := ⟨i - A.length, by omega⟩
      rw [ntr, hB.2 j (by omega)]
      by_cases h : 0 < j
      · rw [show A.length + j - 1 = A.length + (j - 1) by omega, ntr]
        constructor
        · intro h2; exact ⟨by omega, h2.2⟩
        · intro h2; exact ⟨h, h2.2⟩
      · have : j = 0 := by omega
        subst this
        constructor
        · intro h2; exact absurd h2.1 h
        · intro h2; exact absurd h2.2.1 (h0 (by omega))
theorem csum (P : Nat → Bool) (g : Nat → Nat → Nat) : ∀ d, cs P g 0 (fun _ => 1) d + cs P g 1 (fun _ => 1) d + cs P g 2 (fun _ => 1) d + cs P g 3 (fun _ => 1) d ≤ d
  | 0 => Nat.le_refl _
  | d + 1 => by
    have ih := csum P g d
    simp only [cs_step]
    by_cases h0 : g d 0 = 0
    · simp [h0]
      split <;> omega
    · by_cases h1 : g d 0 = 1
      · simp [h1]
        split <;> omega
      · by_cases h2 : g d 0 = 2
        · simp [h2]
          split <;> omega
        · simp [h0, h1, h2]
          split <;> omega
theorem sl_len (P : Nat → Bool) (g : Nat → Nat → Nat) (wid col spa : Nat) (sd : Nat → Nat) (s n : Nat) : ∀ k, (sl (fun c => ce P g wid col spa c n) sd s k).length ≤ sm (fun c => cs P g c (fun _ => 1) n + 1) k
  | 0 => Nat.le_refl _
  | k + 1 => by
    have ih := sl_len P g wid col spa sd s n k
    show (sl _ sd s k ++ (if sd k = s then ce P g wid col spa k n else [])).length ≤ sm _ k + (cs P g k (fun _ => 1) n + 1)
    rw [List.length_append]
    have h2 : (if sd k = s then ce P g wid col spa k n else []).length ≤ cs P g k (fun _ => 1) n + 1 := by
      split
      · rw [ce_len]
        split <;> omega
      · exact Nat.zero_le _
    omega
theorem sl_len4 (P : Nat → Bool) (g : Nat → Nat → Nat) (wid col spa : Nat) (sd : Nat → Nat) (s n k : Nat) (hk : k ≤ 4) (hn : n ≤ 20) : (sl (fun c => ce P g wid col spa c n) sd s k).length ≤ 24 := by
  have h1 := sl_len P g wid col spa sd s n k
  have h2 : sm (fun c => cs P g c (fun _ => 1) n + 1) k ≤ sm (fun c => cs P g c (fun _ => 1) n + 1) 4 := sm_mono _ hk
  have h3 := csum P g n
  have h4 : sm (fun c => cs P g c (fun _ => 1) n + 1) 4 = 0 + (cs P g 0 (fun _ => 1) n + 1) + (cs P g 1 (fun _ => 1) n + 1) + (cs P g 2 (fun _ => 1) n + 1) + (cs P g 3 (fun _ => 1) n + 1) := rfl
  omega
theorem sl_ok {n : Nat} {P : Nat → Bool} {g : Nat → Nat → Nat} (hg : okG n g) {wid col spa : Nat} (h1 : 20 ≤ wid) (h2 : col ≤ 4) (h3 : spa ≤ 2) (sd : Nat → Nat) (s : Nat) : ∀ k, k ≤ 4 → okL (sl (fun c => ce P g wid col spa c n) sd s k)
  | 0, _ => okL_nil
  | k + 1, hk => by
    have ih := sl_ok (P := P) hg h1 h2 h3 sd s k (by omega)
    show okL (sl _ sd s k ++ (if sd k = s then ce P g wid col spa k n else []))
    obtain ⟨i1, i2, i3, i4⟩ := ce_ok (P := P) hg h1 h2 h3 (show k < 4 by omega) n hg.1
    split
    · refine okL_app ih i1 ?_
      intro hl
      by_cases hz : cs P g k (fun _ => 1) n = 0
      · rw [i3 hz] at hl
        exact absurd hl (Nat.lt_irrefl 0)
      · rw [(i4 hz).1]
        decide
    · rw [List.append_nil]
      exact ih

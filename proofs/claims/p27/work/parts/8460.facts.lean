/-! ===== what holds of every menu ===== -/
def okM (m : aM) : Prop := okG m.1 m.2.1 ∧ okS m.2.2.1 ∧ okW m.2.2.2
theorem Good.ok {o : aO} {K : sK} (h : Good o K) : okM o.1.1 := ⟨h.1.1.1, h.1.1.2.1, h.1.1.2.2.1⟩
theorem okM.n {m : aM} (h : okM m) : m.1 ≤ 20 := h.1.1
theorem wh0 (m : aM) (d : Nat) : whm m d = 0 ↔ prm m d = true := by
  unfold whm
  have e : prm m d = true ↔ elg m.2.1 (m.2.2.1 0) (m.2.2.1 5) d = true ∧ ah m.2.1 (m.2.2.1 0) (m.2.2.1 5) (m.2.1 d 0) d < m.2.2.1 2 := prt_iff
  rw [elg_iff, mayB_iff] at e
  by_cases c1 : m.2.1 d 6 = 1
  · rw [if_neg (fun q => q c1)]
    by_cases c2 : tb (m.2.1 d 3) (m.2.2.1 0) = 1
    · rw [if_neg (fun q => q c2)]
      by_cases c3 : m.2.1 d 4 &&& m.2.2.1 5 = 0
      · rw [if_neg (fun q => q c3)]
        by_cases c4 : prm m d = true
        · rw [if_pos c4]
          exact ⟨fun _ => c4, fun _ => rfl⟩
        · rw [if_neg c4]
          exact ⟨fun h => absurd h (by decide), fun h => absurd h c4⟩
      · rw [if_pos c3]
        exact ⟨fun h => absurd h (by decide), fun h => absurd (e.1 h).1.2.2 c3⟩
    · rw [if_pos c2]
      exact ⟨fun h => absurd h (by decide), fun h => absurd (e.1 h).1.2.1 c2⟩
  · rw [if_pos c1]
    exact ⟨fun h => absurd h (by decide), fun h => absurd (e.1 h).1.1 c1⟩
theorem wh1 (m : aM) (d : Nat) : whm m d = 1 ↔ ¬ m.2.1 d 6 = 1 := by
  unfold whm
  by_cases c1 : m.2.1 d 6 = 1
  · rw [if_neg (fun q => q c1)]
    refine ⟨fun h => ?_, fun h => absurd c1 h⟩
    revert h
    split
    · exact fun h => absurd h (by decide)
    · split
      · exact fun h => absurd h (by decide)
      · split
        · exact fun h => absurd h (by decide)
        · exact fun h => absurd h (by decide)
  · rw [if_pos c1]
    exact ⟨fun _ => c1, fun _ => rfl⟩
theorem wh_le (m : aM) (d : Nat) : whm m d ≤ 4 := by
  unfold whm
  split
  · decide
  · split
    · decide
    · split
      · decide
      · split
        · decide
        · decide
theorem wh4 {m : aM} {e : Nat} (h : elg m.2.1 (m.2.2.1 0) (m.2.2.1 5) e = true) (hp : ¬ prm m e = true) : whm m e = 4 := by
  rw [elg_iff, mayB_iff] at h
  unfold whm
  rw [if_neg (fun q => q h.1), if_neg (fun q => q h.2.1), if_neg (fun q => q h.2.2), if_neg hp]
theorem xm_ok {m : aM} (h : okM m) : okX (xm m) := wx_ok (prm m) h.1 h.2.1 m.2.2.2
theorem flm_b {m : aM} (h : okM m) : flm m ≤ 225 := fld_b (xm_ok h) _
theorem fsm_lt (m : aM) : fsm m < 2 := fsd_lt _
theorem clmm_le (m : aM) : clmm m ≤ 4 := dg_le _
theorem kym_lt {m : aM} (h : okM m) : kym m < 256 := kyl_lt (prm m) h.1 h.n
theorem fl_cases (X : Nat → List sE) (sla : Nat) : fld X sla = 0 ∨ (fld X sla = apt X ∧ ¬ apt X = 0) := by
  unfold fld
  by_cases c : apt X = 0 ∨ plc (X (fsd X)) = 0 ∨ sla < (apt X + plc (X (fsd X)) - 1) / plc (X (fsd X))
  · rw [if_pos c]
    exact Or.inl rfl
  · rw [if_neg c]
    exact Or.inr ⟨rfl, fun e => c (Or.inl e)⟩
theorem ev_iff (X : Nat → List sE) (sla : Nat) : tot X (fsd X) (fld X sla) 0 = tot X (fsd X) (fld X sla) 1 ↔ apt X = 0 ∨ ¬ fld X sla = 0 := by
  have h := fl_cases X sla
  generalize fld X sla = f at h
  unfold tot
  by_cases c : ls eA (X 0) < ls eA (X 1)
  · have e1 : fsd X = 0 := if_pos c
    have e2 : apt X = ls eA (X 1) - ls eA (X 0) := if_pos c
    rw [e1, if_pos rfl, if_neg (by decide)]
    omega
  · have e1 : fsd X = 1 := if_neg c
    have e2 : apt X = ls eA (X 0) - ls eA (X 1) := if_neg c
    rw [e1, if_pos rfl, if_neg (by decide)]
    omega
theorem evn_1 (X : Nat → List sE) (fs fl : Nat) : evn X fs fl = 1 ↔ tot X fs fl 0 = tot X fs fl 1 := by
  unfold evn
  split
  · exact ⟨fun _ => by assumption, fun _ => rfl⟩
  · exact ⟨fun h => absurd h (by decide), fun h => absurd h (by assumption)⟩
/-! ===== what the blocks of a side are ===== -/
theorem al_ce2 {T : sE → Prop} {P : Nat → Bool} {g : Nat → Nat → Nat} {wid col spa c N : Nat} (h1 : T (1, c, 2, 0, 6, 1)) (h2 : ∀ d sp p, d < N → g d 0 = c → P d = true → T (2, d, ln g wid col d, sp, g d 5 * ln g wid col d + 2, p)) : ∀ m, m ≤ N → ∀ e, e ∈ ce P g wid col spa c m → T e
  | 0, _ => fun e h => absurd h List.not_mem_nil
  | m + 1, hm => by
    intro e he
    by_cases c1 : g m 0 = c ∧ P m = true
    · by_cases c2 : cs P g c (fun _ => 1) m = 0
      · rw [ce_first c1 c2] at he
        rcases List.mem_cons.mp he with rfl | he
        · exact h1
        · rcases List.mem_cons.mp he with rfl | he
          · exact h2 m _ _ (by omega) c1.1 c1.2
          · exact absurd he List.not_mem_nil
      · rw [ce_next c1 c2] at he
        rcases List.mem_append.mp he with he | he
        · exact al_ce2 h1 h2 m (by omega) e he
        · rcases List.mem_cons.mp he with rfl | he
          · exact h2 m _ _ (by omega) c1.1 c1.2
          · exact absurd he List.not_mem_nil
    · rw [ce_no c1] at he
      exact al_ce2 h1 h2 m (by omega) e he
theorem al_sl2 {T : sE → Prop} {F : Nat → List sE} {sd : Nat → Nat} {t : Nat} : ∀ {k : Nat}, (∀ c, c < k → sd c = t → ∀ e, e ∈ F c → T e) → ∀ e, e ∈ sl F sd t k → T e
  | 0, _ => fun e h => absurd h List.not_mem_nil
  | k + 1, h => by
    intro e he
    have he : e ∈ sl F sd t k ++ (if sd k = t then F k else []) := he
    rcases List.mem_append.mp he with he | he
    · exact al_sl2 (fun c hc => h c (by omega)) e he
    · by_cases c : sd k = t
      · rw [if_pos c] at he
        exact h k (by omega) c e he
      · rw [if_neg c] at he
        exact absurd he List.not_mem_nil
/-- a block is a heading of a course of the side, a printed dish of it, or the key, which is on one side alone -/
theorem blk {m : aM} {t : Nat} {e : sE} (he : e ∈ xm m t) : (eK e = 1 ∧ eN e < 4 ∧ m.2.2.2 (eN e) = t ∧ eL e = 2 ∧ eS e = 0 ∧ eW e = 6) ∨ (eK e = 2 ∧ eN e < m.1 ∧ prm m (eN e) = true ∧ m.2.2.2 (m.2.1 (eN e) 0) = t ∧ eL e = ln m.2.1 (m.2.2.1 1) (clmm m) (eN e) ∧ eW e = m.2.1 (eN e) 5 * eL e + 2) ∨ (eK e = 3 ∧ ¬ pc (kym m) = 0 ∧ t = kys (sx (prm m) m.1 m.2.1 (m.2.2.1 1) (clmm m) (m.2.2.1 3) m.2.2.2) ∧ eL e = (pc (kym m) + 2) / 3 ∧ eS e = 0 ∧ eW e = pc (kym m)) := by
  have key : ∀ e, e ∈ sx (prm m) m.1 m.2.1 (m.2.2.1 1) (clmm m) (m.2.2.1 3) m.2.2.2 t → (eK e = 1 ∧ eN e < 4 ∧ m.2.2.2 (eN e) = t ∧ eL e = 2 ∧ eS e = 0 ∧ eW e = 6) ∨ (eK e = 2 ∧ eN e < m.1 ∧ prm m (eN e) = true ∧ m.2.2.2 (m.2.1 (eN e) 0) = t ∧ eL e = ln m.2.1 (m.2.2.1 1) (clmm m) (eN e) ∧ eW e = m.2.1 (eN e) 5 * eL e + 2) ∨ (eK e = 3 ∧ ¬ pc (kym m) = 0 ∧ t = kys (sx (prm m) m.1 m.2.1 (m.2.2.1 1) (clmm m) (m.2.2.1 3) m.2.2.2) ∧ eL e = (pc (kym m) + 2) / 3 ∧ eS e = 0 ∧ eW e = pc (kym m)) := by
    refine al_sl2 (fun c hc hs => ?_)
    refine al_ce2 (N := m.1) (Or.inl ⟨rfl, hc, hs, rfl, rfl, rfl⟩) (fun d sp p hd h0 hp => Or.inr (Or.inl ⟨rfl, hd, hp, ?_, rfl, rfl⟩)) m.1 (Nat.le_refl _)
    show m.2.2.2 (m.2.1 d 0) = t
    rw [h0]
    exact hs
  have hx : xm m t = if ¬ pc (kym m) = 0 ∧ t = kys (sx (prm m) m.1 m.2.1 (m.2.2.1 1) (clmm m) (m.2.2.1 3) m.2.2.2) then sx (prm m) m.1 m.2.1 (m.2.2.1 1) (clmm m) (m.2.2.1 3) m.2.2.2 t ++ [(3, 0, (pc (kym m) + 2) / 3, 0, pc (kym m), 1)] else sx (prm m) m.1 m.2.1 (m.2.2.1 1) (clmm m) (m.2.2.1 3) m.2.2.2 t := rfl
  rw [hx] at he
  by_cases c : ¬ pc (kym m) = 0 ∧ t = kys (sx (prm m) m.1 m.2.1 (m.2.2.1 1) (clmm m) (m.2.2.1 3) m.2.2.2)
  · rw [if_pos c] at he
    rcases List.mem_append.mp he with he | he
    · exact key e he
    · rcases List.mem_cons.mp he with rfl | he
      · exact Or.inr (Or.inr ⟨rfl, c.1, c.2, rfl, rfl, rfl⟩)
      · exact absurd he List.not_mem_nil
  · rw [if_neg c] at he
    exact key e he
/-! ===== lines of dishes of both sides ===== -/
theorem sl_two {f : sE → Nat} {F : Nat → List sE} {sd : Nat → Nat} : ∀ {k : Nat}, (∀ c, c < k → sd c ≤ 1) → ls f (sl F sd 0 k) + ls f (sl F sd 1 k) = sm (fun c => ls f (F c)) k
  | 0, _ => rfl
  | k + 1, h => by
    have h1 := sl_two (f := f) (F := F) (sd := sd) (k := k) (fun c hc => h c (by omega))
    have h2 := h k (by omega)
    have e0 : sl F sd 0 (k + 1) = sl F sd 0 k ++ (if sd k = 0 then F k else []) := rfl
    have e1 : sl F sd 1 (k + 1) = sl F sd 1 k ++ (if sd k = 1 then F k else []) := rfl
    have e2 : sm (fun c => ls f (F c)) (k + 1) = sm (fun c => ls f (F c)) k + ls f (F k) := rfl
    have e3 : ls f [] = 0 := rfl
    rw [e0, e1, e2, ls_app, ls_app]
    by_cases c : sd k = 0
    · rw [if_pos c, if_neg (by omega), e3]
      omega
    · rw [if_neg c, if_pos (by omega), e3]
      omega
theorem cs_all {P : Nat → Bool} {g : Nat → Nat → Nat} (f : Nat → Nat) : ∀ {d : Nat}, (∀ k, k < d → g k 0 ≤ 3) → sm (fun c => cs P g c f d) 4 = ps P f d
  | 0, _ => rfl
  | d + 1, h => by
    have h1 := cs_all (P := P) (g := g) f (d := d) (fun k hk => h k (by omega))
    have h2 := h d (by omega)
    have h3 : ∀ j, sm (fun c => cs P g c f j) 4 = cs P g 0 f j + cs P g 1 f j + cs P g 2 f j + cs P g 3 f j := fun j => by
      show 0 + cs P g 0 f j + cs P g 1 f j + cs P g 2 f j + cs P g 3 f j = _
      omega
    rw [h3] at h1 ⊢
    rw [cs_step, cs_step, cs_step, cs_step, ps_step]
    by_cases c : P d = true
    · rw [if_pos c]
      have h4 : g d 0 = 0 ∨ g d 0 = 1 ∨ g d 0 = 2 ∨ g d 0 = 3 := by omega
      rcases h4 with e | e | e | e
      · rw [if_pos ⟨e, c⟩, if_neg (fun q => by have := q.1; omega), if_neg (fun q => by have := q.1; omega), if_neg (fun q => by have := q.1; omega)]
        omega
      · rw [if_neg (fun q => by have := q.1; omega), if_pos ⟨e, c⟩, if_neg (fun q => by have := q.1; omega), if_neg (fun q => by have := q.1; omega)]
        omega
      · rw [if_neg (fun q => by have := q.1; omega), if_neg (fun q => by have := q.1; omega), if_pos ⟨e, c⟩, if_neg (fun q => by have := q.1; omega)]
        omega
      · rw [if_neg (fun q => by have := q.1; omega), if_neg (fun q => by have := q.1; omega), if_neg (fun q => by have := q.1; omega), if_pos ⟨e, c⟩]
        omega
    · rw [if_neg c, if_neg (fun q => c q.2), if_neg (fun q => c q.2), if_neg (fun q => c q.2), if_neg (fun q => c q.2)]
      omega
theorem ce_pf1 (P : Nat → Bool) (g : Nat → Nat → Nat) (wid col spa c d : Nat) : ls (pf 1) (ce P g wid col spa c d) = cs P g c (ln g wid col) d := by
  by_cases h : cs P g c (fun _ => 1) d = 0
  · rw [ce_nil h]
    have h1 : ∀ d, cs P g c (fun _ => 1) d = 0 → cs P g c (ln g wid col) d = 0 := by
      intro d
      induction d with
      | zero => exact fun _ => rfl
      | succ d ih =>
        intro h
        rw [cs_step] at h ⊢
        by_cases e : g d 0 = c ∧ P d = true
        · rw [if_pos e] at h
          omega
        · rw [if_neg e] at h ⊢
          exact ih h
    exact (h1 d h).symm
  · exact (ce_sums P g wid col spa c d h).2.1
theorem pf1_sum {m : aM} (h : okM m) : ls (pf 1) (xm m 0) + ls (pf 1) (xm m 1) = ps (prm m) (ln m.2.1 (m.2.2.1 1) (clmm m)) m.1 := by
  have hk : ∀ t, ls (pf 1) (xm m t) = ls (pf 1) (sx (prm m) m.1 m.2.1 (m.2.2.1 1) (clmm m) (m.2.2.1 3) m.2.2.2 t) := by
    intro t
    have hx : xm m t = if ¬ pc (kym m) = 0 ∧ t = kys (sx (prm m) m.1 m.2.1 (m.2.2.1 1) (clmm m) (m.2.2.1 3) m.2.2.2) then sx (prm m) m.1 m.2.1 (m.2.2.1 1) (clmm m) (m.2.2.1 3) m.2.2.2 t ++ [(3, 0, (pc (kym m) + 2) / 3, 0, pc (kym m), 1)] else sx (prm m) m.1 m.2.1 (m.2.2.1 1) (clmm m) (m.2.2.1 3) m.2.2.2 t := rfl
    rw [hx]
    by_cases c : ¬ pc (kym m) = 0 ∧ t = kys (sx (prm m) m.1 m.2.1 (m.2.2.1 1) (clmm m) (m.2.2.1 3) m.2.2.2)
    · rw [if_pos c, ls_one]
      rfl
    · rw [if_neg c]
  rw [hk 0, hk 1]
  have h2 := sl_two (f := pf 1) (F := fun c => ce (prm m) m.2.1 (m.2.2.1 1) (clmm m) (m.2.2.1 3) c m.1) (sd := m.2.2.2) (k := 4) h.2.2
  have h3 : sm (fun c => ls (pf 1) (ce (prm m) m.2.1 (m.2.2.1 1) (clmm m) (m.2.2.1 3) c m.1)) 4 = sm (fun c => cs (prm m) m.2.1 c (ln m.2.1 (m.2.2.1 1) (clmm m)) m.1) 4 := sm_cong (fun c _ => ce_pf1 _ _ _ _ _ _ _)
  have h4 := cs_all (P := prm m) (g := m.2.1) (ln m.2.1 (m.2.2.1 1) (clmm m)) (d := m.1) (fun k hk => h.1.2.1 k 0 (by have := h.n; omega) (by decide))
  exact h2.trans (h3.trans h4)

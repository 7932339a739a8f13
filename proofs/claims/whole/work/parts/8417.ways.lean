/-! ===== the reference: lay ===== -/
def bgn (A : List sE) (a i : Nat) : Nat := sm (fun k => fil A a k + eA (nt A k)) i + fil A a i + eS (nt A i)
def relL (P : Nat → Bool) (n : Nat) (g : Nat → Nat → Nat) (s sd : Nat → Nat) (X : Nat → List sE) (nk : Nat) (printed column inKey keySide apart filled : Int32) (many kind number lines first spacing fill all heavy : Nat → Int32) : Prop :=
  X = sx P n g (s 1) (clm P g n) (s 3) sd ∧ nk = pc (kyl P g n) ∧ okX (wk X nk) ∧ printed = nI (mk P n) ∧ column = nI (clm P g n) ∧ inKey = nI (kyl P g n) ∧ keySide = (if nk = 0 then -nI 99 else nI (kys X)) ∧ apart = nI (apt (wk X nk)) ∧ filled = nI (fld (wk X nk) (s 4)) ∧ relA (wk X nk) (fun t i => fil (wk X nk t) (if t = fsd (wk X nk) then fld (wk X nk) (s 4) else 0) i) (fun t => if t = fsd (wk X nk) then fld (wk X nk) (s 4) else 0) many kind number lines spacing fill all heavy ∧ (∀ t, t < 2 → ∀ i, i < (wk X nk t).length → first (26 * t + i) = nI (bgn (wk X nk t) (if t = fsd (wk X nk) then fld (wk X nk) (s 4) else 0) i))
theorem sl_ce_len (P : Nat → Bool) (g : Nat → Nat → Nat) (wid col spa : Nat) (sd : Nat → Nat) (t n k d : Nat) (hk : k < 4) (hn : n ≤ 20) (hd : d ≤ n) : (sl (fun c => ce P g wid col spa c n) sd t k).length + (ce P g wid col spa k d).length ≤ 24 := by
  have h1 := sl_len P g wid col spa sd t n k
  have h2 : sm (fun c => cs P g c (fun _ => 1) n + 1) (k + 1) ≤ sm (fun c => cs P g c (fun _ => 1) n + 1) 4 := sm_mono _ hk
  have h3 := csum P g n
  have h4 : sm (fun c => cs P g c (fun _ => 1) n + 1) 4 = 0 + (cs P g 0 (fun _ => 1) n + 1) + (cs P g 1 (fun _ => 1) n + 1) + (cs P g 2 (fun _ => 1) n + 1) + (cs P g 3 (fun _ => 1) n + 1) := rfl
  have h5 : sm (fun c => cs P g c (fun _ => 1) n + 1) (k + 1) = sm (fun c => cs P g c (fun _ => 1) n + 1) k + (cs P g k (fun _ => 1) n + 1) := rfl
  have h6 : cs P g k (fun _ => 1) d ≤ cs P g k (fun _ => 1) n := sm_mono _ hd
  have h7 : (ce P g wid col spa k d).length ≤ cs P g k (fun _ => 1) d + 1 := by
    rw [ce_len]
    split <;> omega
  omega
theorem i_lay66 {X : Nat → List sE} (hX : okX X) {a : Nat → Nat} {many kind number lines first spacing fill all heavy : Nat → Int32} (A : relA X (fun t i => fil (X t) (a t) i) a many kind number lines spacing fill all heavy) {printed column inKey keySide apart filled fillSide : Int32} {Q : Int32 → Int32 → Int32 → Int32 → Int32 → Int32 → Int32 → (Nat → Int32) → (Nat → Int32) → (Nat → Int32) → (Nat → Int32) → (Nat → Int32) → (Nat → Int32) → (Nat → Int32) → (Nat → Int32) → (Nat → Int32) → Prop} (h : ∀ first', (∀ t, t < 2 → ∀ i, i < (X t).length → first' (26 * t + i) = nI (bgn (X t) (a t) i)) → Q printed column inKey keySide apart filled fillSide many kind number lines first' spacing fill all heavy) : p_X9_lay_66 printed column inKey keySide apart filled fillSide many kind number lines spacing fill all heavy Q first (nI 0) := by
  unfold p_X9_lay_66
  refine wl1 (q_X9_lay_66 printed column inKey keySide apart filled fillSide many kind number lines spacing fill all heavy Q) 2 (by decide) (fun k fi => ∀ t, t < k → ∀ i, i < (X t).length → fi (26 * t + i) = nI (bgn (X t) (a t) i)) 0 (by omega) _ (fun t ht => absurd ht (Nat.not_lt_zero t)) ?_
  rintro K k fi _ hk hP hK
  unfold q_X9_lay_66
  simp (disch := omega) only [li_0, li_1, li_2, li_3, li_4, li_5, li_6, li_7, li_8, li_9, li_10, li_11, li_12, li_13, li_14, li_15, li_16, li_20, li_26, li_31, li_32, li_36, li_42, li_43, li_48, li_52, li_57, li_58, li_59, li_60, li_63, li_97, li_99, li_104, li_112, li_115, li_119, li_140, li_141, li_142, li_143, li_144, li_145, li_146, li_147, li_148, li_149, li_150, li_151, li_152, li_255, li_303, li_455, li_999, li_1000, li_1510, li_1820, li_2275, li_9999, li_10000, li_100000, li_1048575, li_100000000, nI_leI, pk_mul]
  refine ⟨fun hge => ?_, fun hlt => ?_⟩
  · have : k = 2 := by omega
    subst this
    exact h _ hP
  · have hk2 : k < 2 := by omega
    obtain ⟨m1, m2, m3, m4⟩ := A k hk2
    have hlen := (hX k hk2).2
    unfold p_X9_lay_78
    refine wl2 (q_X9_lay_78 (nI k) many lines spacing fill K) (26 * k + (X k).length) (by omega) (fun z f2 x => ∃ i, z = 26 * k + i ∧ (∀ j, j < i → f2 (26 * k + j) = nI (bgn (X k) (a k) j)) ∧ (∀ t, t < k → ∀ j, j < (X t).length → f2 (26 * t + j) = nI (bgn (X t) (a t) j)) ∧ x = nI (sm (fun j => fil (X k) (a k) j + eA (nt (X k) j)) i)) (26 * k) (by omega) _ _ ⟨0, rfl, fun j hj => absurd hj (Nat.not_lt_zero j), hP, rfl⟩ ?_
    rintro K2 z f2 x _ hz ⟨i, rfl, i1, i2, rfl⟩ hK2
    unfold q_X9_lay_78
    simp (disch := omega) only [li_0, li_1, li_2, li_3, li_4, li_5, li_6, li_7, li_8, li_9, li_10, li_11, li_12, li_13, li_14, li_15, li_16, li_20, li_26, li_31, li_32, li_36, li_42, li_43, li_48, li_52, li_57, li_58, li_59, li_60, li_63, li_97, li_99, li_104, li_112, li_115, li_119, li_140, li_141, li_142, li_143, li_144, li_145, li_146, li_147, li_148, li_149, li_150, li_151, li_152, li_255, li_303, li_455, li_999, li_1000, li_1510, li_1820, li_2275, li_9999, li_10000, li_100000, li_1048575, li_100000000, vp_t, nI_clamp, m1, pk_mul, nI_add, nI_leI, hk2, true_and, and_true, not_true_eq_false, not_false_eq_true, true_imp_iff, false_imp_iff, false_and, and_false, imp_false, Classical.not_not, Bool.false_eq_true, Nat.zero_ne_one, Nat.one_ne_zero, Nat.not_lt_zero, if_true, if_false, implies_true]
    refine ⟨fun hge => ?_, fun hlt2 => ?_⟩
    · have : i = (X k).length := by omega
      subst this
      refine hK hk2 _ ?_
      intro t ht j hj
      by_cases e : t = k
      · subst e
        exact i1 j hj
      · exact i2 t (by omega) j hj
    · have hi : i < (X k).length := by omega
      obtain ⟨q1, q2, q3, q4, q5⟩ := m4 i hi
      have hv : 26 * k + i < 52 := by omega
      simp (disch := omega) only [q3, q4, q5, nI_add, hv, true_and, and_true, not_true_eq_false, not_false_eq_true, true_imp_iff, false_imp_iff, false_and, and_false, imp_false, Classical.not_not, Bool.false_eq_true, Nat.zero_ne_one, Nat.one_ne_zero, Nat.not_lt_zero, if_true, if_false, implies_true]
      refine hK2 (by omega) _ _ ⟨i + 1, rfl, ?_, ?_, ?_⟩
      · intro j hj
        by_cases e : j = i
        · subst e
          rw [pk_us]
          unfold bgn
          exact congrArg nI (by omega)
        · rw [pk_un (by omega)]
          exact i1 j (by omega)
      · intro t ht j hj
        have := (hX t (by omega)).2
        rw [pk_un (by omega)]
        exact i2 t ht j hj
      · show _ = nI (sm _ i + (fil (X k) (a k) i + (eL (nt (X k) i) + eS (nt (X k) i))))
        exact congrArg nI (by omega)
theorem i_lay9 {pg : Nat → Int32} {n : Nat} {g : Nat → Nat → Nat} {s sd : Nat → Nat} (R : relR n g s sd pg) (hg : okG n g) (ho : okS s) (hw : okW sd) {many kind number lines first spacing fill all heavy : Nat → Int32} {Q : Int32 → Int32 → Int32 → Int32 → Int32 → Int32 → Int32 → (Nat → Int32) → (Nat → Int32) → (Nat → Int32) → (Nat → Int32) → (Nat → Int32) → (Nat → Int32) → (Nat → Int32) → (Nat → Int32) → (Nat → Int32) → Prop} (h : ∀ X nk printed column inKey keySide apart filled fillSide many' kind' number' lines' first' spacing' fill' all' heavy', relL (prt g (s 2) (s 0) (s 5)) n g s sd X nk printed column inKey keySide apart filled many' kind' number' lines' first' spacing' fill' all' heavy' → Q printed column inKey keySide apart filled fillSide many' kind' number' lines' first' spacing' fill' all' heavy') : p_X9_lay pg many kind number lines first spacing fill all heavy Q := by
  have hn := hg.1
  obtain ⟨s0, s1, s2, s3, s4, s5, s6, s7⟩ := ho.b
  unfold p_X9_lay
  refine i_lookAtPrinted R hg ho ?_
  generalize prt g (s 2) (s 0) (s 5) = P at h ⊢
  have hcol : clm P g n ≤ 4 := dg_le _
  have hky := kyl_lt P hg hn
  have hpc := (pc_mark _ hky).1
  unfold p_X9_lay_6
  refine wl3 (q_X9_lay_6 pg (nI (mk P n)) (nI (clm P g n)) (nI (kyl P g n)) kind number lines first spacing fill Q) 2 (by decide) (fun k m a w => ∀ t, t < k → m t = nI 0 ∧ a t = nI 0 ∧ w t = nI 0) 0 (by omega) _ _ _ (fun t ht => absurd ht (Nat.not_lt_zero t)) ?_
  rintro K k m a w _ hk hP hK
  unfold q_X9_lay_6
  simp (disch := omega) only [li_0, li_1, li_2, li_3, li_4, li_5, li_6, li_7, li_8, li_9, li_10, li_11, li_12, li_13, li_14, li_15, li_16, li_20, li_26, li_31, li_32, li_36, li_42, li_43, li_48, li_52, li_57, li_58, li_59, li_60, li_63, li_97, li_99, li_104, li_112, li_115, li_119, li_140, li_141, li_142, li_143, li_144, li_145, li_146, li_147, li_148, li_149, li_150, li_151, li_152, li_255, li_303, li_455, li_999, li_1000, li_1510, li_1820, li_2275, li_9999, li_10000, li_100000, li_1048575, li_100000000, nI_leI, vp_t, nI_clamp, nI_add]
  refine ⟨fun hge => ?_, fun hlt => ⟨by omega, by omega, by omega, ?_⟩⟩
  · have : k = 2 := by omega
    subst this
    have A0 : relA (fun t => sl (fun c => ce P g (s 1) (clm P g n) (s 3) c n) sd t 0) (fun _ _ => 0) (fun _ => 0) m kind number lines spacing fill a w := by
      intro t ht
      obtain ⟨p1, p2, p3⟩ := hP t ht
      exact ⟨p1, p2, p3, fun i hi => absurd hi (Nat.not_lt_zero i)⟩
    unfold p_X9_lay_40
    refine wl8 (q_X9_lay_40 pg (nI (mk P n)) (nI (clm P g n)) (nI (kyl P g n)) first Q) 4 (by decide) (fun k m k' n' l' s' f' a' h' => relA (fun t => sl (fun c => ce P g (s 1) (clm P g n) (s 3) c n) sd t k) (fun _ _ => 0) (fun _ => 0) m k' n' l' s' f' a' h') 0 (by omega) _ _ _ _ _ _ _ _ A0 ?_
    rintro K k m k' n' l' s' f' a' h' _ hk A hK
    unfold q_X9_lay_40
    simp (disch := omega) only [li_0, li_1, li_2, li_3, li_4, li_5, li_6, li_7, li_8, li_9, li_10, li_11, li_12, li_13, li_14, li_15, li_16, li_20, li_26, li_31, li_32, li_36, li_42, li_43, li_48, li_52, li_57, li_58, li_59, li_60, li_63, li_97, li_99, li_104, li_112, li_115, li_119, li_140, li_141, li_142, li_143, li_144, li_145, li_146, li_147, li_148, li_149, li_150, li_151, li_152, li_255, li_303, li_455, li_999, li_1000, li_1510, li_1820, li_2275, li_9999, li_10000, li_100000, li_1048575, li_100000000, nI_leI, nI_add]
    refine ⟨fun hge => ?_, fun hlt => ?_⟩
    · have : k = 4 := by omega
      subst this
      have hX : okX (sx P n g (s 1) (clm P g n) (s 3) sd) := fun t ht => ⟨sl_ok hg s1 hcol s5 _ _ 4 (Nat.le_refl 4), Nat.le_succ_of_le (sl_len4 P g _ _ _ _ _ n 4 (Nat.le_refl 4) hn)⟩
      have hl : ∀ t, t < 2 → (sx P n g (s 1) (clm P g n) (s 3) sd t).length ≤ 24 := fun t ht => sl_len4 P g _ _ _ _ _ n 4 (Nat.le_refl 4) hn
      have hX2 := okX_wk hX hl hpc
      have A1 : relA (sx P n g (s 1) (clm P g n) (s 3) sd) (fun _ _ => 0) (fun _ => 0) m k' n' l' s' f' a' h' := A
      refine i_addKey A1 hX hl hky ?_
      intro m2 k2 n2 l2 s2' f2 a2 h2 A2
      refine i_addFill R ho hX2 A2 ?_
      intro f3 a3 A3
      refine i_lay66 hX2 A3 ?_
      intro fi hfi
      exact h _ _ _ _ _ _ _ _ _ _ _ _ _ _ _ _ _ _ ⟨rfl, rfl, hX2, rfl, rfl, rfl, rfl, rfl, rfl, A3, hfi⟩
    · have hk4 : k < 4 := by omega
      refine i_addCourse R hg ho hw hcol hk4 (fun t ht d hd => sl_ce_len P g (s 1) (clm P g n) (s 3) sd t n k d hk4 hn hd) A ?_
      intro m2 k2 n2 l2 s2' f2 a2 h2 A2
      exact hK hk4 _ _ _ _ _ _ _ _ A2
  · refine hK (by omega) _ _ _ ?_
    intro t ht
    by_cases e : t = k
    · subst e
      exact ⟨pk_us, pk_us, pk_us⟩
    · obtain ⟨p1, p2, p3⟩ := hP t (by omega)
      exact ⟨by rw [pk_un e, p1], by rw [pk_un e, p2], by rw [pk_un e, p3]⟩
theorem e_isEven9 {X : Nat → List sE} {F : Nat → Nat → Nat} {fs fl : Nat} (hX : okX X) (hf : fl ≤ 225) {many kind number lines spacing fill all heavy : Nat → Int32} (A : relA X F (fun t => if t = fs then fl else 0) many kind number lines spacing fill all heavy) {Q : Int32 → Prop} : p_X9_isEven all Q ↔ Q (nI (evn X fs fl)) := by
  have l0 : all 0 = nI (tot X fs fl 0) := (A 0 (by decide)).2.1
  have l1 : all 1 = nI (tot X fs fl 1) := (A 1 (by decide)).2.1
  have t0 := tot_le (fs := fs) hX hf (s := 0) (by decide)
  have t1 := tot_le (fs := fs) hX hf (s := 1) (by decide)
  unfold p_X9_isEven evn
  simp (disch := omega) only [li_0, li_1, li_2, li_3, li_4, li_5, li_6, li_7, li_8, li_9, li_10, li_11, li_12, li_13, li_14, li_15, li_16, li_20, li_26, li_31, li_32, li_36, li_42, li_43, li_48, li_52, li_57, li_58, li_59, li_60, li_63, li_97, li_99, li_104, li_112, li_115, li_119, li_140, li_141, li_142, li_143, li_144, li_145, li_146, li_147, li_148, li_149, li_150, li_151, li_152, li_255, li_303, li_455, li_999, li_1000, li_1510, li_1820, li_2275, li_9999, li_10000, li_100000, li_1048575, li_100000000, vp_t, nI_clamp, l0, l1, nI_eqI, Nat.reduceLT, true_and, and_true, not_true_eq_false, not_false_eq_true, true_imp_iff, false_imp_iff, false_and, and_false, imp_false, Classical.not_not, Bool.false_eq_true, Nat.zero_ne_one, Nat.one_ne_zero, Nat.not_lt_zero, if_true, if_false, implies_true]
  by_cases e : tot X fs fl 0 = tot X fs fl 1
  · simp only [e, true_and, and_true, not_true_eq_false, not_false_eq_true, true_imp_iff, false_imp_iff, false_and, and_false, imp_false, Classical.not_not, Bool.false_eq_true, Nat.zero_ne_one, Nat.one_ne_zero, Nat.not_lt_zero, if_true, if_false, implies_true]
  · simp only [e, true_and, and_true, not_true_eq_false, not_false_eq_true, true_imp_iff, false_imp_iff, false_and, and_false, imp_false, Classical.not_not, Bool.false_eq_true, Nat.zero_ne_one, Nat.one_ne_zero, Nat.not_lt_zero, if_true, if_false, implies_true]
theorem i_longer9 {X : Nat → List sE} {F : Nat → Nat → Nat} {fs fl : Nat} (hX : okX X) (hf : fl ≤ 225) {many kind number lines spacing fill all heavy : Nat → Int32} (A : relA X F (fun t => if t = fs then fl else 0) many kind number lines spacing fill all heavy) {Q : Int32 → Prop} (h : Q (nI (lgs X fs fl))) : p_X9_longer all Q := by
  have l0 : all 0 = nI (tot X fs fl 0) := (A 0 (by decide)).2.1
  have l1 : all 1 = nI (tot X fs fl 1) := (A 1 (by decide)).2.1
  have t0 := tot_le (fs := fs) hX hf (s := 0) (by decide)
  have t1 := tot_le (fs := fs) hX hf (s := 1) (by decide)
  unfold p_X9_longer
  simp (disch := omega) only [li_0, li_1, li_2, li_3, li_4, li_5, li_6, li_7, li_8, li_9, li_10, li_11, li_12, li_13, li_14, li_15, li_16, li_20, li_26, li_31, li_32, li_36, li_42, li_43, li_48, li_52, li_57, li_58, li_59, li_60, li_63, li_97, li_99, li_104, li_112, li_115, li_119, li_140, li_141, li_142, li_143, li_144, li_145, li_146, li_147, li_148, li_149, li_150, li_151, li_152, li_255, li_303, li_455, li_999, li_1000, li_1510, li_1820, li_2275, li_9999, li_10000, li_100000, li_1048575, li_100000000, vp_t, nI_clamp, l0, l1, nI_leI, Nat.reduceLT, true_and, and_true, not_true_eq_false, not_false_eq_true, true_imp_iff, false_imp_iff, false_and, and_false, imp_false, Classical.not_not, Bool.false_eq_true, Nat.zero_ne_one, Nat.one_ne_zero, Nat.not_lt_zero, if_true, if_false, implies_true]
  refine ⟨fun e => ?_, fun e => ?_⟩
  · have e2 : lgs X fs fl = tot X fs fl 1 := by
      unfold lgs
      split <;> omega
    rw [e2] at h
    exact h
  · have e2 : lgs X fs fl = tot X fs fl 0 := by
      unfold lgs
      split <;> omega
    rw [e2] at h
    exact h
theorem i_heavier9 {X : Nat → List sE} {F : Nat → Nat → Nat} {ad : Nat → Nat} (hX : okX X) {many kind number lines spacing fill all heavy : Nat → Int32} (A : relA X F ad many kind number lines spacing fill all heavy) {Q : Int32 → Prop} (h : Q (nI (dif X))) : p_X9_heavier heavy Q := by
  have l0 := (A 0 (by decide)).2.2.1
  have l1 := (A 1 (by decide)).2.2.1
  have t0 := (hX.b (s := 0) (by decide)).2.1
  have t1 := (hX.b (s := 1) (by decide)).2.1
  unfold p_X9_heavier
  simp (disch := omega) only [li_0, li_1, li_2, li_3, li_4, li_5, li_6, li_7, li_8, li_9, li_10, li_11, li_12, li_13, li_14, li_15, li_16, li_20, li_26, li_31, li_32, li_36, li_42, li_43, li_48, li_52, li_57, li_58, li_59, li_60, li_63, li_97, li_99, li_104, li_112, li_115, li_119, li_140, li_141, li_142, li_143, li_144, li_145, li_146, li_147, li_148, li_149, li_150, li_151, li_152, li_255, li_303, li_455, li_999, li_1000, li_1510, li_1820, li_2275, li_9999, li_10000, li_100000, li_1048575, li_100000000, vp_t, nI_clamp, l0, l1, nI_leI, Nat.reduceLT, true_and, and_true, not_true_eq_false, not_false_eq_true, true_imp_iff, false_imp_iff, false_and, and_false, imp_false, Classical.not_not, Bool.false_eq_true, Nat.zero_ne_one, Nat.one_ne_zero, Nat.not_lt_zero, if_true, if_false, implies_true]
  refine ⟨fun e => ?_, fun e => ?_⟩
  · have e2 : dif X = ls eW (X 1) - ls eW (X 0) := by
      unfold dif
      split <;> omega
    rw [e2] at h
    rw [pk_sub e]
    exact h
  · have e2 : dif X = ls eW (X 0) - ls eW (X 1) := by
      unfold dif
      split <;> omega
    rw [e2] at h
    rw [pk_sub (by omega)]
    exact h
/-! ===== the best way ===== -/
def rt (e d l : Nat) : Nat := (if e = 0 then 100000000 else 0) + 10000 * d + l
theorem btr_rt {e d l e' d' l' : Nat} (he : e ≤ 1) (hd : d ≤ 1000) (hl : l ≤ 450) (he' : e' ≤ 1) (hd' : d' ≤ 1000) (hl' : l' ≤ 450) : btr e d l e' d' l' = true ↔ rt e d l < rt e' d' l' := by
  unfold btr rt
  by_cases h1 : e = e'
  · subst h1
    rw [if_pos rfl]
    by_cases h2 : d = d'
    · subst h2
      rw [if_pos rfl, decide_eq_true_iff]
      omega
    · rw [if_neg h2, decide_eq_true_iff]
      split <;> omega
  · rw [if_neg h1, decide_eq_true_iff]
    split <;> split <;> omega
def bst (f : Nat → Nat) : Nat → Nat
  | 0 => 0
  | w + 1 => if f (w + 1) < f (bst f w) then w + 1 else bst f w
theorem bst_le (f : Nat → Nat) : ∀ w, bst f w ≤ w
  | 0 => Nat.le_refl 0
  | w + 1 => by
    have := bst_le f w
    show (if f (w + 1) < f (bst f w) then w + 1 else bst f w) ≤ w + 1
    split <;> omega
/-- both sides with the key for a way; what counts for it -/
def wx (P : Nat → Bool) (n : Nat) (g : Nat → Nat → Nat) (s sd : Nat → Nat) : Nat → List sE := wk (sx P n g (s 1) (clm P g n) (s 3) sd) (pc (kyl P g n))
def rtw (P : Nat → Bool) (n : Nat) (g : Nat → Nat → Nat) (s sd : Nat → Nat) : Nat := rt (evn (wx P n g s sd) (fsd (wx P n g s sd)) (fld (wx P n g s sd) (s 4))) (dif (wx P n g s sd)) (lgs (wx P n g s sd) (fsd (wx P n g s sd)) (fld (wx P n g s sd) (s 4)))
theorem wx_ok {n : Nat} {g : Nat → Nat → Nat} {s : Nat → Nat} (P : Nat → Bool) (hg : okG n g) (ho : okS s) (sd : Nat → Nat) : okX (wx P n g s sd) := by
  obtain ⟨s0, s1, s2, s3, s4, s5, s6, s7⟩ := ho.b
  have hX : okX (sx P n g (s 1) (clm P g n) (s 3) sd) := fun t ht => ⟨sl_ok hg s1 (dg_le _) s5 _ _ 4 (Nat.le_refl 4), Nat.le_succ_of_le (sl_len4 P g _ _ _ _ _ n 4 (Nat.le_refl 4) hg.1)⟩
  exact okX_wk hX (fun t ht => sl_len4 P g _ _ _ _ _ n 4 (Nat.le_refl 4) hg.1) (pc_mark _ (kyl_lt P hg hg.1)).1
theorem fld_b {X : Nat → List sE} (hX : okX X) (sla : Nat) : fld X sla ≤ 225 := Nat.le_trans (fld_le X sla) (apt_le hX)
theorem i_layW {P : Nat → Bool} {n : Nat} {g : Nat → Nat → Nat} {s : Nat → Nat} (hg : okG n g) (ho : okS s) {D L W st : Nat → Int32} {set num pri all col : Int32} (hP : relP P n g (s 1) D L W set num pri all col) (hst : ∀ k, k < 6 → st k = nI (s k)) {way : Nat} (hw : way < 16) {parts : Nat → Nat → Int32} {weights places : Nat → Int32} {Q : (Nat → Nat → Int32) → (Nat → Int32) → (Nat → Int32) → Int32 → Int32 → Prop}
    (h : ∀ parts' weights' places', relF (wx P n g s (fun c => tb way c)) (fsd (wx P n g s (fun c => tb way c))) (fld (wx P n g s (fun c => tb way c)) (s 4)) parts' weights' places' → Q parts' weights' places' (if pc (kyl P g n) = 0 then -nI 99 else nI (kys (sx P n g (s 1) (clm P g n) (s 3) (fun c => tb way c)))) (nI (apt (wx P n g s (fun c => tb way c))))) : p_X1_lay parts weights places D L W all st (nI way) Q := by
  refine i_layF hg ho hP hst hw ?_
  rintro p w l X nk rfl rfl hX R
  exact h p w l R
theorem i_foldBestWay {P : Nat → Bool} {n : Nat} {g : Nat → Nat → Nat} {s : Nat → Nat} (hg : okG n g) (ho : okS s) {D L W : Nat → Int32} {set num pri all col : Int32} (hP : relP P n g (s 1) D L W set num pri all col) {S : sS} (hst : ∀ k, k < 6 → S.1.2.1 k = nI (s k)) {parts parts2 : Nat → Nat → Int32} {weights places weights2 places2 : Nat → Int32} {ks2 gap2 : Int32} {Q : Int32 → (Nat → Nat → Int32) → (Nat → Int32) → (Nat → Int32) → Int32 → Int32 → (Nat → Nat → Int32) → (Nat → Int32) → (Nat → Int32) → Int32 → Int32 → Prop}
    (h : ∀ b parts' weights' places' ks gap parts2' weights2' places2' ks2' gap2', b = bst (fun w => rtw P n g s (fun c => tb w c)) 15 → relF (wx P n g s (fun c => tb b c)) (fsd (wx P n g s (fun c => tb b c))) (fld (wx P n g s (fun c => tb b c)) (s 4)) parts' weights' places' → Q (nI b) parts' weights' places' ks gap parts2' weights2' places2' ks2' gap2') : p_X8_foldBestWay S D L W all parts weights places parts2 weights2 places2 ks2 gap2 Q := by
  unfold p_X8_foldBestWay
  simp only [li_0, li_1, li_2, li_3, li_4, li_5, li_6, li_7, li_8, li_9, li_10, li_11, li_12, li_13, li_14, li_15, li_16, li_20, li_26, li_31, li_32, li_36, li_42, li_43, li_48, li_52, li_57, li_58, li_59, li_60, li_63, li_97, li_99, li_104, li_112, li_115, li_119, li_140, li_141, li_142, li_143, li_144, li_145, li_146, li_147, li_148, li_149, li_150, li_151, li_152, li_255, li_303, li_455, li_999, li_1000, li_1510, li_1820, li_2275, li_9999, li_10000, li_100000, li_1048575, li_100000000]
  refine i_layW hg ho hP hst (way := 0) (by decide) ?_
  intro p0 w0 l0 R0
  unfold p_X8_foldBestWay_23
  refine wl11 (q_X8_foldBestWay_23 S D L W all Q) 16 (by decide) (fun k fp fw fl fk fg op ow ol ok og x => ∃ b, x = nI b ∧ b = bst (fun w => rtw P n g s (fun c => tb w c)) (k - 1) ∧ relF (wx P n g s (fun c => tb b c)) (fsd (wx P n g s (fun c => tb b c))) (fld (wx P n g s (fun c => tb b c)) (s 4)) fp fw fl) 1 (by omega) _ _ _ _ _ _ _ _ _ _ _ ⟨0, rfl, rfl, R0⟩ ?_
  rintro K k fp fw fl fk fg op ow ol ok og x hk1 hk ⟨b, rfl, hb, R⟩ hK
  unfold q_X8_foldBestWay_23
  have hk15 := bst_le (fun w => rtw P n g s (fun c => tb w c)) (k - 1)
  simp (disch := omega) only [li_0, li_1, li_2, li_3, li_4, li_5, li_6, li_7, li_8, li_9, li_10, li_11, li_12, li_13, li_14, li_15, li_16, li_20, li_26, li_31, li_32, li_36, li_42, li_43, li_48, li_52, li_57, li_58, li_59, li_60, li_63, li_97, li_99, li_104, li_112, li_115, li_119, li_140, li_141, li_142, li_143, li_144, li_145, li_146, li_147, li_148, li_149, li_150, li_151, li_152, li_255, li_303, li_455, li_999, li_1000, li_1510, li_1820, li_2275, li_9999, li_10000, li_100000, li_1048575, li_100000000, nI_leI]
  refine ⟨fun hge => ?_, fun hlt => ?_⟩
  · have : k = 16 := by omega
    subst this
    exact h b _ _ _ _ _ _ _ _ _ _ hb R
  · have hk16 : k < 16 := by omega
    refine i_layW hg ho hP hst hk16 ?_
    intro p1 w1 l1 R1
    have hXk := wx_ok P hg ho (fun c => tb k c)
    have hXb := wx_ok P hg ho (fun c => tb b c)
    have hbk : bst (fun w => rtw P n g s (fun c => tb w c)) (k + 1 - 1) = if rtw P n g s (fun c => tb k c) < rtw P n g s (fun c => tb b c) then k else b := by
      obtain ⟨j, rfl⟩ : ∃ j, k = j + 1 := ⟨k - 1, by omega⟩
      rw [hb]
      rfl
    have hbt := btr_rt (evn_le (wx P n g s (fun c => tb k c)) (fsd (wx P n g s (fun c => tb k c))) (fld (wx P n g s (fun c => tb k c)) (s 4))) (dif_le hXk) (lgs_le (fs := fsd (wx P n g s (fun c => tb k c))) hXk (fld_b hXk (s 4))) (evn_le (wx P n g s (fun c => tb b c)) (fsd (wx P n g s (fun c => tb b c))) (fld (wx P n g s (fun c => tb b c)) (s 4))) (dif_le hXb) (lgs_le (fs := fsd (wx P n g s (fun c => tb b c))) hXb (fld_b hXb (s 4)))
    refine i_isBetter R1 hXk (fld_b hXk (s 4)) R hXb (fld_b hXb (s 4)) (fun hy => ?_) (fun hy => ?_)
    · have hlt2 : rtw P n g s (fun c => tb k c) < rtw P n g s (fun c => tb b c) := hbt.1 hy
      simp (disch := omega) only [nI_eqI, Nat.one_ne_zero, true_and, and_true, not_true_eq_false, not_false_eq_true, true_imp_iff, false_imp_iff, false_and, and_false, imp_false, Classical.not_not, Bool.false_eq_true, Nat.zero_ne_one, Nat.one_ne_zero, Nat.not_lt_zero, if_true, if_false, implies_true]
      refine i_layW hg ho hP hst hk16 ?_
      intro p2 w2 l2 R2
      unfold p_X8_foldBestWay_83
      simp only [li_0, li_1, li_2, li_3, li_4, li_5, li_6, li_7, li_8, li_9, li_10, li_11, li_12, li_13, li_14, li_15, li_16, li_20, li_26, li_31, li_32, li_36, li_42, li_43, li_48, li_52, li_57, li_58, li_59, li_60, li_63, li_97, li_99, li_104, li_112, li_115, li_119, li_140, li_141, li_142, li_143, li_144, li_145, li_146, li_147, li_148, li_149, li_150, li_151, li_152, li_255, li_303, li_455, li_999, li_1000, li_1510, li_1820, li_2275, li_9999, li_10000, li_100000, li_1048575, li_100000000, nI_add]
      refine hK hk16 _ _ _ _ _ _ _ _ _ _ _ ⟨k, rfl, ?_, R2⟩
      rw [hbk, if_pos hlt2]
    · have hlt2 : ¬ rtw P n g s (fun c => tb k c) < rtw P n g s (fun c => tb b c) := fun e => hy (hbt.2 e)
      simp (disch := omega) only [nI_eqI, true_and, and_true, not_true_eq_false, not_false_eq_true, true_imp_iff, false_imp_iff, false_and, and_false, imp_false, Classical.not_not, Bool.false_eq_true, Nat.zero_ne_one, Nat.one_ne_zero, Nat.not_lt_zero, if_true, if_false, implies_true]
      unfold p_X8_foldBestWay_83
      simp only [li_0, li_1, li_2, li_3, li_4, li_5, li_6, li_7, li_8, li_9, li_10, li_11, li_12, li_13, li_14, li_15, li_16, li_20, li_26, li_31, li_32, li_36, li_42, li_43, li_48, li_52, li_57, li_58, li_59, li_60, li_63, li_97, li_99, li_104, li_112, li_115, li_119, li_140, li_141, li_142, li_143, li_144, li_145, li_146, li_147, li_148, li_149, li_150, li_151, li_152, li_255, li_303, li_455, li_999, li_1000, li_1510, li_1820, li_2275, li_9999, li_10000, li_100000, li_1048575, li_100000000, nI_add]
      refine hK hk16 _ _ _ _ _ _ _ _ _ _ _ ⟨b, rfl, ?_, R⟩
      rw [hbk, if_neg hlt2]
/-! ===== the reference's best way ===== -/
theorem i_putSides {pg : Nat → Int32} {n : Nat} {g : Nat → Nat → Nat} {s sd : Nat → Nat} (R : relR n g s sd pg) {way : Nat} (hw : way < 16) {Q : (Nat → Int32) → Prop} (h : ∀ pg', relR n g s (fun c => tb way c) pg' → (∀ j, 151 ≤ j → pg' j = pg j) → Q pg') : p_X9_putSides pg (nI way) Q := by
  unfold p_X9_putSides p_X9_putSides_2
  refine wl1 (q_X9_putSides_2 (nI way) Q) 4 (by decide) (fun k p => (∀ j, ¬ (147 ≤ j ∧ j < 151) → p j = pg j) ∧ ∀ c, c < k → p (147 + c) = nI (tb way c)) 0 (by omega) _ ⟨fun _ _ => rfl, fun c hc => absurd hc (Nat.not_lt_zero c)⟩ ?_
  rintro K k p _ hk ⟨h1, h2⟩ hK
  unfold q_X9_putSides_2
  have hv : k < 4 → 147 + k < 455 := by omega
  simp (disch := omega) only [li_0, li_1, li_2, li_3, li_4, li_5, li_6, li_7, li_8, li_9, li_10, li_11, li_12, li_13, li_14, li_15, li_16, li_20, li_26, li_31, li_32, li_36, li_42, li_43, li_48, li_52, li_57, li_58, li_59, li_60, li_63, li_97, li_99, li_104, li_112, li_115, li_119, li_140, li_141, li_142, li_143, li_144, li_145, li_146, li_147, li_148, li_149, li_150, li_151, li_152, li_255, li_303, li_455, li_999, li_1000, li_1510, li_1820, li_2275, li_9999, li_10000, li_100000, li_1048575, li_100000000, nI_leI, nI_add, vp_t, nI_clamp, e_bit]
  refine ⟨fun hge => ?_, fun hlt => ⟨by omega, ?_⟩⟩
  · have : k = 4 := by omega
    subst this
    refine h p ⟨?_, ?_, ?_, h2⟩ (fun j hj => h1 j (by omega))
    · rw [h1 0 (by omega)]
      exact R.1
    · intro d k hd hk
      rw [h1 _ (by omega)]
      exact R.2.1 d k hd hk
    · intro k hk
      rw [h1 _ (by omega)]
      exact R.2.2.1 k hk
  · refine hK (by omega) _ ⟨?_, ?_⟩
    · intro j hj
      rw [pk_un (by omega)]
      exact h1 j hj
    · intro c hc
      by_cases e : c = k
      · subst e
        exact pk_us
      · rw [pk_un (by omega)]
        exact h2 c (by omega)
theorem e_wayNow {pg : Nat → Int32} {n : Nat} {g : Nat → Nat → Nat} {s sd : Nat → Nat} (R : relR n g s sd pg) {Q : Int32 → Prop} : p_X9_wayNow pg Q ↔ Q (nI (wy sd)) := by
  have h0 : pg 147 = nI (sd 0) := R.2.2.2 0 (by decide)
  have h1 : pg 148 = nI (sd 1) := R.2.2.2 1 (by decide)
  have h2 : pg 149 = nI (sd 2) := R.2.2.2 2 (by decide)
  have h3 : pg 150 = nI (sd 3) := R.2.2.2 3 (by decide)
  unfold p_X9_wayNow
  simp (disch := omega) only [li_0, li_1, li_2, li_3, li_4, li_5, li_6, li_7, li_8, li_9, li_10, li_11, li_12, li_13, li_14, li_15, li_16, li_20, li_26, li_31, li_32, li_36, li_42, li_43, li_48, li_52, li_57, li_58, li_59, li_60, li_63, li_97, li_99, li_104, li_112, li_115, li_119, li_140, li_141, li_142, li_143, li_144, li_145, li_146, li_147, li_148, li_149, li_150, li_151, li_152, li_255, li_303, li_455, li_999, li_1000, li_1510, li_1820, li_2275, li_9999, li_10000, li_100000, li_1048575, li_100000000, vp_t, nI_clamp, h0, h1, h2, h3, pk_mul, nI_add, Nat.reduceLT, true_and, and_true, not_true_eq_false, not_false_eq_true, true_imp_iff, false_imp_iff, false_and, and_false, imp_false, Classical.not_not, Bool.false_eq_true, Nat.zero_ne_one, Nat.one_ne_zero, Nat.not_lt_zero, if_true, if_false, implies_true]
  rfl
theorem relR_cong {n : Nat} {g : Nat → Nat → Nat} {s sd sd' : Nat → Nat} {pg : Nat → Int32} (R : relR n g s sd pg) (h : ∀ c, c < 4 → sd c = sd' c) : relR n g s sd' pg :=
  ⟨R.1, R.2.1, R.2.2.1, fun c hc => by rw [R.2.2.2 c hc, h c hc]⟩
theorem okW_tb (way : Nat) : okW (fun c => tb way c) := fun c _ => Nat.le_of_lt_succ (tb_lt way c)
theorem i_rating {P : Nat → Bool} {n : Nat} {g : Nat → Nat → Nat} {s sd : Nat → Nat} (hg : okG n g) (ho : okS s) {X : Nat → List sE} {nk : Nat} {printed column inKey keySide apart filled : Int32} {many kind number lines first spacing fill all heavy : Nat → Int32} (hL : relL P n g s sd X nk printed column inKey keySide apart filled many kind number lines first spacing fill all heavy) {Q : Int32 → Prop} (h : Q (nI (rtw P n g s sd))) : p_X9_rating all heavy Q := by
  obtain ⟨rfl, rfl, hX, _, _, _, _, _, _, A, _⟩ := hL
  have hf := fld_b hX (s 4)
  unfold p_X9_rating
  rw [e_isEven9 hX hf A]
  have hev := evn_le (wx P n g s sd) (fsd (wx P n g s sd)) (fld (wx P n g s sd) (s 4))
  have h13 : ∀ k, p_X9_rating_13 all heavy (nI k) (fun r => r = nI (k + 10000 * dif (wx P n g s sd) + lgs (wx P n g s sd) (fsd (wx P n g s sd)) (fld (wx P n g s sd) (s 4)))) := by
    intro k
    unfold p_X9_rating_13
    refine i_heavier9 hX A (i_longer9 hX hf A ?_)
    simp only [li_0, li_1, li_2, li_3, li_4, li_5, li_6, li_7, li_8, li_9, li_10, li_11, li_12, li_13, li_14, li_15, li_16, li_20, li_26, li_31, li_32, li_36, li_42, li_43, li_48, li_52, li_57, li_58, li_59, li_60, li_63, li_97, li_99, li_104, li_112, li_115, li_119, li_140, li_141, li_142, li_143, li_144, li_145, li_146, li_147, li_148, li_149, li_150, li_151, li_152, li_255, li_303, li_455, li_999, li_1000, li_1510, li_1820, li_2275, li_9999, li_10000, li_100000, li_1048575, li_100000000, pk_mul, nI_add]
    rfl
  have go : ∀ k, k = (if evn (wx P n g s sd) (fsd (wx P n g s sd)) (fld (wx P n g s sd) (s 4)) = 0 then 100000000 else 0) → p_X9_rating_13 all heavy (nI k) Q := by
    rintro k rfl
    unfold p_X9_rating_13
    refine i_heavier9 hX A (i_longer9 hX hf A ?_)
    simp only [li_0, li_1, li_2, li_3, li_4, li_5, li_6, li_7, li_8, li_9, li_10, li_11, li_12, li_13, li_14, li_15, li_16, li_20, li_26, li_31, li_32, li_36, li_42, li_43, li_48, li_52, li_57, li_58, li_59, li_60, li_63, li_97, li_99, li_104, li_112, li_115, li_119, li_140, li_141, li_142, li_143, li_144, li_145, li_146, li_147, li_148, li_149, li_150, li_151, li_152, li_255, li_303, li_455, li_999, li_1000, li_1510, li_1820, li_2275, li_9999, li_10000, li_100000, li_1048575, li_100000000, pk_mul, nI_add]
    exact h
  show (nI (evn (wx P n g s sd) (fsd (wx P n g s sd)) (fld (wx P n g s sd) (s 4))) = 0 → _) ∧ (¬ nI (evn (wx P n g s sd) (fsd (wx P n g s sd)) (fld (wx P n g s sd) (s 4))) = 0 → _)
  simp (disch := omega) only [li_0, li_1, li_2, li_3, li_4, li_5, li_6, li_7, li_8, li_9, li_10, li_11, li_12, li_13, li_14, li_15, li_16, li_20, li_26, li_31, li_32, li_36, li_42, li_43, li_48, li_52, li_57, li_58, li_59, li_60, li_63, li_97, li_99, li_104, li_112, li_115, li_119, li_140, li_141, li_142, li_143, li_144, li_145, li_146, li_147, li_148, li_149, li_150, li_151, li_152, li_255, li_303, li_455, li_999, li_1000, li_1510, li_1820, li_2275, li_9999, li_10000, li_100000, li_1048575, li_100000000, nI_eqI]
  refine ⟨fun e => go _ (if_pos e).symm, fun e => go _ (if_neg e).symm⟩
theorem rtw_le {n : Nat} {g : Nat → Nat → Nat} {s : Nat → Nat} (P : Nat → Bool) (hg : okG n g) (ho : okS s) (sd : Nat → Nat) : rtw P n g s sd ≤ 200000000 := by
  have hX := wx_ok P hg ho sd
  have h1 := dif_le hX
  have h2 := lgs_le (fs := fsd (wx P n g s sd)) hX (fld_b hX (s 4))
  unfold rtw rt
  split <;> omega
theorem i_bestWay {pg : Nat → Int32} {n : Nat} {g : Nat → Nat → Nat} {s sd : Nat → Nat} (R : relR n g s sd pg) (hg : okG n g) (ho : okS s) (hw : okW sd) {printed column inKey keySide apart filled fillSide : Int32} {many kind number lines first spacing fill all heavy : Nat → Int32} {Q : Int32 → (Nat → Int32) → Int32 → Int32 → Int32 → Int32 → Int32 → Int32 → Int32 → (Nat → Int32) → (Nat → Int32) → (Nat → Int32) → (Nat → Int32) → (Nat → Int32) → (Nat → Int32) → (Nat → Int32) → (Nat → Int32) → (Nat → Int32) → Prop}
    (h : ∀ pg' printed' column' inKey' keySide' apart' filled' fillSide' many' kind' number' lines' first' spacing' fill' all' heavy', relR n g s sd pg' → (∀ j, 151 ≤ j → pg' j = pg j) → Q (nI (bst (fun w => rtw (prt g (s 2) (s 0) (s 5)) n g s (fun c => tb w c)) 15)) pg' printed' column' inKey' keySide' apart' filled' fillSide' many' kind' number' lines' first' spacing' fill' all' heavy') : p_X9_bestWay pg printed column inKey keySide apart filled fillSide many kind number lines first spacing fill all heavy Q := by
  have hwy := wy_lt hw
  unfold p_X9_bestWay
  rw [e_wayNow R]
  unfold p_X9_bestWay_12
  simp only [li_0, li_1, li_2, li_3, li_4, li_5, li_6, li_7, li_8, li_9, li_10, li_11, li_12, li_13, li_14, li_15, li_16, li_20, li_26, li_31, li_32, li_36, li_42, li_43, li_48, li_52, li_57, li_58, li_59, li_60, li_63, li_97, li_99, li_104, li_112, li_115, li_119, li_140, li_141, li_142, li_143, li_144, li_145, li_146, li_147, li_148, li_149, li_150, li_151, li_152, li_255, li_303, li_455, li_999, li_1000, li_1510, li_1820, li_2275, li_9999, li_10000, li_100000, li_1048575, li_100000000]
  refine wl19 (q_X9_bestWay_12 (nI (wy sd)) Q) 16 (by decide) (fun k p _ _ _ _ _ _ _ _ _ _ _ _ _ _ _ _ x y => (∃ sd', relR n g s sd' p) ∧ (∀ j, 151 ≤ j → p j = pg j) ∧ ((k = 0 ∧ x = nI 0 ∧ y = -nI 1) ∨ (0 < k ∧ x = nI (bst (fun w => rtw (prt g (s 2) (s 0) (s 5)) n g s (fun c => tb w c)) (k - 1)) ∧ y = nI (rtw (prt g (s 2) (s 0) (s 5)) n g s (fun c => tb (bst (fun w => rtw (prt g (s 2) (s 0) (s 5)) n g s (fun c => tb w c)) (k - 1)) c))))) 0 (by omega) _ _ _ _ _ _ _ _ _ _ _ _ _ _ _ _ _ _ _ ⟨⟨sd, R⟩, fun _ _ => rfl, Or.inl ⟨rfl, rfl, rfl⟩⟩ ?_
  rintro K k p z1 z2 z3 z4 z5 z6 z7 z8 z9 z10 z11 z12 z13 z14 z15 z16 x y _ hk ⟨⟨sd', R'⟩, hp, hxy⟩ hK
  unfold q_X9_bestWay_12
  simp (disch := omega) only [li_0, li_1, li_2, li_3, li_4, li_5, li_6, li_7, li_8, li_9, li_10, li_11, li_12, li_13, li_14, li_15, li_16, li_20, li_26, li_31, li_32, li_36, li_42, li_43, li_48, li_52, li_57, li_58, li_59, li_60, li_63, li_97, li_99, li_104, li_112, li_115, li_119, li_140, li_141, li_142, li_143, li_144, li_145, li_146, li_147, li_148, li_149, li_150, li_151, li_152, li_255, li_303, li_455, li_999, li_1000, li_1510, li_1820, li_2275, li_9999, li_10000, li_100000, li_1048575, li_100000000, nI_leI]
  refine ⟨fun hge => ?_, fun hlt => ?_⟩
  · have : k = 16 := by omega
    subst this
    rcases hxy with ⟨h0, _⟩ | ⟨_, rfl, _⟩
    · exact absurd h0 (by decide)
    · refine i_putSides R' hwy ?_
      intro p2 R2 hp2
      exact h _ _ _ _ _ _ _ _ _ _ _ _ _ _ _ _ _ (relR_cong R2 (fun c hc => wy_tb hw hc)) (fun j hj => by rw [hp2 j hj, hp j hj])
  · have hk16 : k < 16 := by omega
    refine i_putSides R' hk16 ?_
    intro p2 R2 hp2
    have hpp : ∀ j, 151 ≤ j → p2 j = pg j := fun j hj => by rw [hp2 j hj, hp j hj]
    refine i_lay9 R2 hg ho (okW_tb k) ?_
    intro X nk u1 u2 u3 u4 u5 u6 u7 v1 v2 v3 v4 v5 v6 v7 v8 v9 hL
    refine i_rating hg ho hL ?_
    generalize hPP : prt g (s 2) (s 0) (s 5) = P at hxy hK ⊢
    have hr := rtw_le P hg ho (fun c => tb k c)
    have take : (k = 0 ∨ ∀ b, b = bst (fun w => rtw P n g s (fun c => tb w c)) (k - 1) → rtw P n g s (fun c => tb k c) < rtw P n g s (fun c => tb b c)) → K p2 u1 u2 u3 u4 u5 u6 u7 v1 v2 v3 v4 v5 v6 v7 v8 v9 (nI k) (nI (rtw P n g s (fun c => tb k c))) (nI (k + 1)) := by
      intro hc
      have e : bst (fun w => rtw P n g s (fun c => tb w c)) (k + 1 - 1) = k := by
        rcases hc with rfl | hc
        · rfl
        · by_cases e0 : k = 0
          · subst e0
            rfl
          · obtain ⟨j, rfl⟩ : ∃ j, k = j + 1 := ⟨k - 1, by omega⟩
            exact if_pos (hc _ rfl)
      refine hK hk16 _ _ _ _ _ _ _ _ _ _ _ _ _ _ _ _ _ _ _ ⟨⟨_, R2⟩, hpp, Or.inr ⟨by omega, ?_, ?_⟩⟩
      · rw [e]
      · rw [e]
    have stay : ∀ b, 0 < k → b = bst (fun w => rtw P n g s (fun c => tb w c)) (k - 1) → ¬ rtw P n g s (fun c => tb k c) < rtw P n g s (fun c => tb b c) → K p2 u1 u2 u3 u4 u5 u6 u7 v1 v2 v3 v4 v5 v6 v7 v8 v9 (nI b) (nI (rtw P n g s (fun c => tb b c))) (nI (k + 1)) := by
      intro b h0 hb hc
      have e : bst (fun w => rtw P n g s (fun c => tb w c)) (k + 1 - 1) = b := by
        obtain ⟨j, rfl⟩ : ∃ j, k = j + 1 := ⟨k - 1, by omega⟩
        rw [hb] at hc ⊢
        exact if_neg hc
      refine hK hk16 _ _ _ _ _ _ _ _ _ _ _ _ _ _ _ _ _ _ _ ⟨⟨_, R2⟩, hpp, Or.inr ⟨by omega, ?_, ?_⟩⟩
      · rw [e]
      · rw [e]
    have m1 : (-nI 1 : Int32) < nI 0 := by decide
    rcases hxy with ⟨rfl, rfl, rfl⟩ | ⟨h0, rfl, rfl⟩
    · have t := take (Or.inl rfl)
      refine ⟨fun _ => ?_, fun e => absurd m1 e⟩
      unfold p_X9_bestWay_45 p_X9_bestWay_51
      refine ⟨fun _ => ?_, fun e => absurd m1 e⟩
      unfold p_X9_bestWay_62 p_X9_bestWay_68
      simp only [li_0, li_1, li_2, li_3, li_4, li_5, li_6, li_7, li_8, li_9, li_10, li_11, li_12, li_13, li_14, li_15, li_16, li_20, li_26, li_31, li_32, li_36, li_42, li_43, li_48, li_52, li_57, li_58, li_59, li_60, li_63, li_97, li_99, li_104, li_112, li_115, li_119, li_140, li_141, li_142, li_143, li_144, li_145, li_146, li_147, li_148, li_149, li_150, li_151, li_152, li_255, li_303, li_455, li_999, li_1000, li_1510, li_1820, li_2275, li_9999, li_10000, li_100000, li_1048575, li_100000000, nI_add]
      exact t
    · have hrb := rtw_le P hg ho (fun c => tb (bst (fun w => rtw P n g s (fun c => tb w c)) (k - 1)) c)
      generalize hbb : bst (fun w => rtw P n g s (fun c => tb w c)) (k - 1) = b at hrb ⊢
      refine ⟨fun e => absurd e (nI_pos (by omega)), fun _ => ?_⟩
      rw [nI_leI (by omega) (by omega)]
      refine ⟨fun e => ?_, fun e => ?_⟩
      · unfold p_X9_bestWay_51
        refine ⟨fun e => absurd e (nI_pos (by omega)), fun _ => ?_⟩
        rw [nI_leI (by omega) (by omega)]
        refine ⟨fun e2 => ?_, fun e2 => absurd e e2⟩
        unfold p_X9_bestWay_68
        simp only [li_0, li_1, li_2, li_3, li_4, li_5, li_6, li_7, li_8, li_9, li_10, li_11, li_12, li_13, li_14, li_15, li_16, li_20, li_26, li_31, li_32, li_36, li_42, li_43, li_48, li_52, li_57, li_58, li_59, li_60, li_63, li_97, li_99, li_104, li_112, li_115, li_119, li_140, li_141, li_142, li_143, li_144, li_145, li_146, li_147, li_148, li_149, li_150, li_151, li_152, li_255, li_303, li_455, li_999, li_1000, li_1510, li_1820, li_2275, li_9999, li_10000, li_100000, li_1048575, li_100000000, nI_add]
        exact stay b h0 hbb.symm (by omega)
      · unfold p_X9_bestWay_45 p_X9_bestWay_51
        refine ⟨fun e => absurd e (nI_pos (by omega)), fun _ => ?_⟩
        rw [nI_leI (by omega) (by omega)]
        refine ⟨fun e2 => absurd e2 e, fun e2 => ?_⟩
        unfold p_X9_bestWay_62 p_X9_bestWay_68
        simp only [li_0, li_1, li_2, li_3, li_4, li_5, li_6, li_7, li_8, li_9, li_10, li_11, li_12, li_13, li_14, li_15, li_16, li_20, li_26, li_31, li_32, li_36, li_42, li_43, li_48, li_52, li_57, li_58, li_59, li_60, li_63, li_97, li_99, li_104, li_112, li_115, li_119, li_140, li_141, li_142, li_143, li_144, li_145, li_146, li_147, li_148, li_149, li_150, li_151, li_152, li_255, li_303, li_455, li_999, li_1000, li_1510, li_1820, li_2275, li_9999, li_10000, li_100000, li_1048575, li_100000000, nI_add]
        exact take (Or.inr (fun b' hb' => by rw [hb', hbb]; omega))

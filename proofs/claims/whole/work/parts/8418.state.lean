/-! ===== contents that agree ===== -/
theorem vk (n N : Nat) (h : n < N := by decide) (hN : N < 2 ^ 31 := by decide) : vp_in (nI n) N := (vp_t (by omega) hN).2 h
theorem relR_cg {n : Nat} {g : Nat → Nat → Nat} {s sd : Nat → Nat} {pg pg' : Nat → Int32} (h : ∀ j, j < 151 → pg' j = pg j) (R : relR n g s sd pg) : relR n g s sd pg' :=
  ⟨by rw [h 0 (by decide)]; exact R.1, fun d k hd hk => by rw [h _ (by omega)]; exact R.2.1 d k hd hk, fun k hk => by rw [h _ (by omega)]; exact R.2.2.1 k hk, fun c hc => by rw [h _ (by omega)]; exact R.2.2.2 c hc⟩
def relM (M : sM) (pg : Nat → Int32) : Prop := ∃ n g s sd, okG n g ∧ okS s ∧ okW sd ∧ relC n g s sd M.1 M.2.1 M.2.2.1 M.2.2.2 ∧ relR n g s sd pg
theorem relM_cg {M : sM} {pg pg' : Nat → Int32} (h : ∀ j, j < 151 → pg' j = pg j) : relM M pg → relM M pg' := by
  rintro ⟨n, g, s, sd, h1, h2, h3, h4, h5⟩
  exact ⟨n, g, s, sd, h1, h2, h3, h4, relR_cg h h5⟩
def relS (S : sS) (pg : Nat → Int32) : Prop := relM S.1 pg ∧ ∃ k0 k1 : Nat, k0 ≤ 1 ∧ k1 ≤ 1 ∧ pg 151 = nI k0 ∧ pg 303 = nI k1 ∧ S.2.2.2 = nI (k0 + 2 * k1) ∧ (k0 = 1 → relM S.2.1 (fun j => pg (152 + j))) ∧ (k1 = 1 → relM S.2.2.1 (fun j => pg (304 + j)))
theorem relS_cg {S : sS} {pg pg' : Nat → Int32} (h : ∀ j, j < 455 → pg' j = pg j) : relS S pg → relS S pg' := by
  rintro ⟨h0, k0, k1, a, b, c, d, e, f0, f1⟩
  exact ⟨relM_cg (fun j hj => h j (by omega)) h0, k0, k1, a, b, by rw [h 151 (by decide)]; exact c, by rw [h 303 (by decide)]; exact d, e, fun q => relM_cg (fun j hj => h _ (by omega)) (f0 q), fun q => relM_cg (fun j hj => h _ (by omega)) (f1 q)⟩
def relH (h : Nat → sS) (hist : Nat → Int32) (z : Nat) : Prop := z ≤ 5 ∧ ∀ j, j < z → relS (h j) (fun i => hist (455 * j + i))
def relT (t : Nat) (rt mt : Nat → Int32) : Prop := t ≤ 140 ∧ ∀ j, j < t → rt j = mt j ∧ ∃ ch, 1 ≤ ch ∧ ch ≤ 255 ∧ mt j = nI ch
def Rel (S : sS) (h : Nat → sS) (hz : Int32) (rt : Nat → Int32) (rl : Int32) (pg hist : Nat → Int32) (st : Int32) (mt : Nat → Int32) (ml : Int32) : Prop := relS S pg ∧ (∃ z, hz = nI z ∧ st = nI z ∧ relH h hist z) ∧ ∃ t, rl = nI t ∧ ml = nI t ∧ relT t rt mt
/-! ===== copies ===== -/
theorem n0 : (0 : Int32).toNatClampNeg = 0 := by decide
theorem n6 : (6 : Int32).toNatClampNeg = 6 := by decide
theorem n140 : (140 : Int32).toNatClampNeg = 140 := by decide
theorem e_copyFrom {v st u us : Nat → Int32} {dn w : Int32} {Q : (Nat → Int32) → (Nat → Int32) → Int32 → Int32 → Prop} : p_X3_copyFrom v st u us dn w Q ↔ Q (va_cpy u v 0 0 140) (va_cpy us st 0 0 6) dn w := by
  unfold p_X3_copyFrom
  refine ⟨fun h => ?_, fun h => ?_⟩
  · have h2 := h.2.2.2.2.2.2.2.2.2.2
    rw [n0, n140, n6] at h2
    exact h2
  · refine ⟨by decide, by decide, by decide, by decide, by decide, by decide, by decide, by decide, by decide, by decide, ?_⟩
    rw [n0, n140, n6]
    exact h
theorem relC_cpy {n : Nat} {g : Nat → Nat → Nat} {s sd : Nat → Nat} {u us v st : Nat → Int32} {dn w : Int32} (R : relC n g s sd u us dn w) : relC n g s sd (va_cpy u v 0 0 140) (va_cpy us st 0 0 6) dn w := by
  refine ⟨R.1, fun d k hd hk => ?_, fun k hk => ?_, R.2.2.2⟩
  · rw [pk_cpy_in (Nat.zero_le _) (by omega), Nat.zero_add, Nat.sub_zero]
    exact R.2.1 d k hd hk
  · rw [pk_cpy_in (Nat.zero_le _) (by omega), Nat.zero_add, Nat.sub_zero]
    exact R.2.2.1 k hk
theorem relM_cpy {u : sM} {v st : Nat → Int32} {pg : Nat → Int32} : relM u pg → relM (va_cpy u.1 v 0 0 140, va_cpy u.2.1 st 0 0 6, u.2.2.1, u.2.2.2) pg := by
  rintro ⟨n, g, s, sd, h1, h2, h3, h4, h5⟩
  exact ⟨n, g, s, sd, h1, h2, h3, relC_cpy h4, h5⟩
theorem i_copyS {t u : sS} {Q : sS → Prop} (h : ∀ S', (∀ pg, relS u pg → relS S' pg) → Q S') : p_X7_copyFrom t u Q := by
  unfold p_X7_copyFrom
  simp only [e_copyFrom]
  refine h _ ?_
  rintro pg ⟨hm, k0, k1, a, b, c, d, e, f0, f1⟩
  exact ⟨relM_cpy hm, k0, k1, a, b, c, d, e, fun q => relM_cpy (f0 q), fun q => relM_cpy (f1 q)⟩
/-! ===== history ===== -/
def ht (z : Nat) : Nat := if z = 5 then 4 else z
def os (z : Nat) : Nat := if z = 5 then 1 else 0
def pushC (z : Nat) (h h' : Nat → sS) (S : sS) : Prop := (∀ j, j < ht z → h' j = h (j + os z)) ∧ ∀ pg, relS S pg → relS (h' (ht z)) pg
def pushR (z : Nat) (hist hist' pg : Nat → Int32) : Prop := (∀ j i, j < ht z → i < 455 → hist' (455 * j + i) = hist (455 * (j + os z) + i)) ∧ ∀ i, i < 455 → hist' (455 * ht z + i) = pg i
theorem relH_push {z : Nat} {h h' : Nat → sS} {hist hist' pg : Nat → Int32} {S : sS} (H : relH h hist z) (hS : relS S pg) (a : pushC z h h' S) (b : pushR z hist hist' pg) : relH h' hist' (ht z + 1) := by
  obtain ⟨h1, h2⟩ := H
  have e1 : ht z ≤ 4 ∧ ht z + os z ≤ z := by
    unfold ht os
    split <;> omega
  refine ⟨by omega, fun j hj => ?_⟩
  by_cases e : j = ht z
  · subst e
    exact relS_cg (fun i hi => b.2 i hi) (a.2 pg hS)
  · rw [a.1 j (by omega)]
    exact relS_cg (fun i hi => b.1 j i (by omega) hi) (h2 (j + os z) (by omega))
theorem i_record12 {S : sS} {h : Nat → sS} {z : Nat} (hz : z < 5) {Q : (Nat → sS) → Int32 → Prop} (hq : ∀ S', (∀ pg, relS S pg → relS S' pg) → Q (va_up h z S') (nI (z + 1))) : p_X2_record_12 S h (nI z) Q := by
  unfold p_X2_record_12
  simp (disch := omega) only [li_0, li_1, li_2, li_3, li_4, li_5, li_6, li_7, li_8, li_9, li_10, li_11, li_12, li_13, li_14, li_15, li_16, li_20, li_26, li_31, li_32, li_36, li_42, li_43, li_48, li_52, li_57, li_58, li_59, li_60, li_63, li_97, li_99, li_104, li_112, li_115, li_119, li_140, li_141, li_142, li_143, li_144, li_145, li_146, li_147, li_148, li_149, li_150, li_151, li_152, li_255, li_303, li_455, li_999, li_1000, li_1510, li_1820, li_2275, li_9999, li_10000, li_100000, li_1048575, li_100000000, vp_t, nI_clamp, nI_add]
  refine ⟨hz, ?_⟩
  have : z = 0 ∨ z = 1 ∨ z = 2 ∨ z = 3 ∨ z = 4 := by omega
  rcases this with rfl | rfl | rfl | rfl | rfl
  · exact ⟨fun _ => i_copyS (fun S' h' => hq S' h'), fun e => absurd e (by decide), fun e => absurd e (by decide), fun e => absurd e (by decide), fun e => absurd e (by decide)⟩
  · exact ⟨fun e => absurd e (by decide), fun _ => i_copyS (fun S' h' => hq S' h'), fun e => absurd e (by decide), fun e => absurd e (by decide), fun e => absurd e (by decide)⟩
  · exact ⟨fun e => absurd e (by decide), fun e => absurd e (by decide), fun _ => i_copyS (fun S' h' => hq S' h'), fun e => absurd e (by decide), fun e => absurd e (by decide)⟩
  · exact ⟨fun e => absurd e (by decide), fun e => absurd e (by decide), fun e => absurd e (by decide), fun _ => i_copyS (fun S' h' => hq S' h'), fun e => absurd e (by decide)⟩
  · exact ⟨fun e => absurd e (by decide), fun e => absurd e (by decide), fun e => absurd e (by decide), fun e => absurd e (by decide), fun _ => i_copyS (fun S' h' => hq S' h')⟩
theorem i_record {S : sS} {h : Nat → sS} {z : Nat} (hz : z ≤ 5) {Q : (Nat → sS) → Int32 → Prop} (hq : ∀ h', pushC z h h' S → Q h' (nI (ht z + 1))) : p_X2_record h (nI z) S Q := by
  unfold p_X2_record
  simp (disch := omega) only [li_0, li_1, li_2, li_3, li_4, li_5, li_6, li_7, li_8, li_9, li_10, li_11, li_12, li_13, li_14, li_15, li_16, li_20, li_26, li_31, li_32, li_36, li_42, li_43, li_48, li_52, li_57, li_58, li_59, li_60, li_63, li_97, li_99, li_104, li_112, li_115, li_119, li_140, li_141, li_142, li_143, li_144, li_145, li_146, li_147, li_148, li_149, li_150, li_151, li_152, li_255, li_303, li_455, li_999, li_1000, li_1510, li_1820, li_2275, li_9999, li_10000, li_100000, li_1048575, li_100000000, nI_eqI]
  refine ⟨fun e => ?_, fun e => ?_⟩
  · have e1 : ht z = z := if_neg e
    have e2 : os z = 0 := if_neg e
    refine i_record12 (by omega) ?_
    intro S' hS'
    rw [e1] at hq
    refine hq _ ⟨fun j hj => ?_, fun pg hpg => ?_⟩
    · rw [e1] at hj
      rw [e2, up_n (by omega)]
      rfl
    · rw [e1, up_s]
      exact hS' pg hpg
  · subst e
    unfold p_X2_dropOldest
    simp (disch := omega) only [li_0, li_1, li_2, li_3, li_4, li_5, li_6, li_7, li_8, li_9, li_10, li_11, li_12, li_13, li_14, li_15, li_16, li_20, li_26, li_31, li_32, li_36, li_42, li_43, li_48, li_52, li_57, li_58, li_59, li_60, li_63, li_97, li_99, li_104, li_112, li_115, li_119, li_140, li_141, li_142, li_143, li_144, li_145, li_146, li_147, li_148, li_149, li_150, li_151, li_152, li_255, li_303, li_455, li_999, li_1000, li_1510, li_1820, li_2275, li_9999, li_10000, li_100000, li_1048575, li_100000000, pk_sub, Nat.reduceSub]
    refine i_record12 (by decide) ?_
    intro S' hS'
    refine hq _ ⟨fun j hj => ?_, fun pg hpg => ?_⟩
    · have hj4 : j < 4 := hj
      rw [up_n (by omega)]
      show (if j < 4 then h (j + 1) else h 0) = h (j + 1)
      rw [if_pos hj4]
    · show relS (va_up (rot5 h) 4 S' 4) pg
      rw [up_s]
      exact hS' pg hpg
theorem i_bringa {v : Nat → Int32} {a b m : Nat} (ha : a + m ≤ 2275) (hb : b + m ≤ 2275) (hab : b ≤ a ∨ a + m ≤ b) {Q : (Nat → Int32) → Prop} (h : ∀ v', (∀ i, i < m → v' (b + i) = v (a + i)) → (∀ j, ¬ (b ≤ j ∧ j < b + m) → v' j = v j) → Q v') : p_X9_bringa v (nI a) (nI b) (nI m) Q := by
  unfold p_X9_bringa p_X9_bringa_3
  refine wl1 (q_X9_bringa_3 (nI a) (nI b) (nI m) Q) m (by omega) (fun k v' => (∀ i, i < k → v' (b + i) = v (a + i)) ∧ (∀ j, ¬ (b ≤ j ∧ j < b + k) → v' j = v j)) 0 (by omega) _ ⟨fun i hi => absurd hi (Nat.not_lt_zero i), fun _ _ => rfl⟩ ?_
  rintro K k v' _ hk ⟨h1, h2⟩ hK
  unfold q_X9_bringa_3
  simp (disch := omega) only [li_0, li_1, li_2, li_3, li_4, li_5, li_6, li_7, li_8, li_9, li_10, li_11, li_12, li_13, li_14, li_15, li_16, li_20, li_26, li_31, li_32, li_36, li_42, li_43, li_48, li_52, li_57, li_58, li_59, li_60, li_63, li_97, li_99, li_104, li_112, li_115, li_119, li_140, li_141, li_142, li_143, li_144, li_145, li_146, li_147, li_148, li_149, li_150, li_151, li_152, li_255, li_303, li_455, li_999, li_1000, li_1510, li_1820, li_2275, li_9999, li_10000, li_100000, li_1048575, li_100000000, nI_leI, nI_add, vp_t, nI_clamp]
  refine ⟨fun hge => ?_, fun hlt => ⟨by omega, by omega, ?_⟩⟩
  · have : k = m := by omega
    subst this
    exact h v' h1 h2
  · refine hK (by omega) _ ⟨?_, ?_⟩
    · intro i hi
      by_cases e : i = k
      · subst e
        rw [pk_us]
        exact h2 _ (by omega)
      · rw [pk_un (by omega)]
        exact h1 i (by omega)
    · intro j hj
      rw [pk_un (by omega)]
      exact h2 j (by omega)
theorem i_bringb {u v : Nat → Int32} {a b m : Nat} (ha : a + m ≤ 455) (hb : b + m ≤ 2275) {Q : (Nat → Int32) → Prop} (h : ∀ v', (∀ i, i < m → v' (b + i) = u (a + i)) → (∀ j, ¬ (b ≤ j ∧ j < b + m) → v' j = v j) → Q v') : p_X9_bringb u v (nI a) (nI b) (nI m) Q := by
  unfold p_X9_bringb p_X9_bringb_3
  refine wl1 (q_X9_bringb_3 u (nI a) (nI b) (nI m) Q) m (by omega) (fun k v' => (∀ i, i < k → v' (b + i) = u (a + i)) ∧ (∀ j, ¬ (b ≤ j ∧ j < b + k) → v' j = v j)) 0 (by omega) _ ⟨fun i hi => absurd hi (Nat.not_lt_zero i), fun _ _ => rfl⟩ ?_
  rintro K k v' _ hk ⟨h1, h2⟩ hK
  unfold q_X9_bringb_3
  simp (disch := omega) only [li_0, li_1, li_2, li_3, li_4, li_5, li_6, li_7, li_8, li_9, li_10, li_11, li_12, li_13, li_14, li_15, li_16, li_20, li_26, li_31, li_32, li_36, li_42, li_43, li_48, li_52, li_57, li_58, li_59, li_60, li_63, li_97, li_99, li_104, li_112, li_115, li_119, li_140, li_141, li_142, li_143, li_144, li_145, li_146, li_147, li_148, li_149, li_150, li_151, li_152, li_255, li_303, li_455, li_999, li_1000, li_1510, li_1820, li_2275, li_9999, li_10000, li_100000, li_1048575, li_100000000, nI_leI, nI_add, vp_t, nI_clamp]
  refine ⟨fun hge => ?_, fun hlt => ⟨by omega, by omega, ?_⟩⟩
  · have : k = m := by omega
    subst this
    exact h v' h1 h2
  · refine hK (by omega) _ ⟨?_, ?_⟩
    · intro i hi
      by_cases e : i = k
      · subst e
        exact pk_us
      · rw [pk_un (by omega)]
        exact h1 i (by omega)
    · intro j hj
      rw [pk_un (by omega)]
      exact h2 j (by omega)
theorem i_bringc {v : Nat → Int32} {a b m : Nat} (ha : a + m ≤ 455) (hb : b + m ≤ 455) (hab : b ≤ a ∨ a + m ≤ b) {Q : (Nat → Int32) → Prop} (h : ∀ v', (∀ i, i < m → v' (b + i) = v (a + i)) → (∀ j, ¬ (b ≤ j ∧ j < b + m) → v' j = v j) → Q v') : p_X9_bringc v (nI a) (nI b) (nI m) Q := by
  unfold p_X9_bringc p_X9_bringc_3
  refine wl1 (q_X9_bringc_3 (nI a) (nI b) (nI m) Q) m (by omega) (fun k v' => (∀ i, i < k → v' (b + i) = v (a + i)) ∧ (∀ j, ¬ (b ≤ j ∧ j < b + k) → v' j = v j)) 0 (by omega) _ ⟨fun i hi => absurd hi (Nat.not_lt_zero i), fun _ _ => rfl⟩ ?_
  rintro K k v' _ hk ⟨h1, h2⟩ hK
  unfold q_X9_bringc_3
  simp (disch := omega) only [li_0, li_1, li_2, li_3, li_4, li_5, li_6, li_7, li_8, li_9, li_10, li_11, li_12, li_13, li_14, li_15, li_16, li_20, li_26, li_31, li_32, li_36, li_42, li_43, li_48, li_52, li_57, li_58, li_59, li_60, li_63, li_97, li_99, li_104, li_112, li_115, li_119, li_140, li_141, li_142, li_143, li_144, li_145, li_146, li_147, li_148, li_149, li_150, li_151, li_152, li_255, li_303, li_455, li_999, li_1000, li_1510, li_1820, li_2275, li_9999, li_10000, li_100000, li_1048575, li_100000000, nI_leI, nI_add, vp_t, nI_clamp]
  refine ⟨fun hge => ?_, fun hlt => ⟨by omega, by omega, ?_⟩⟩
  · have : k = m := by omega
    subst this
    exact h v' h1 h2
  · refine hK (by omega) _ ⟨?_, ?_⟩
    · intro i hi
      by_cases e : i = k
      · subst e
        rw [pk_us]
        exact h2 _ (by omega)
      · rw [pk_un (by omega)]
        exact h1 i (by omega)
    · intro j hj
      rw [pk_un (by omega)]
      exact h2 j (by omega)
theorem i_bringd {u v : Nat → Int32} {a b m : Nat} (ha : a + m ≤ 2275) (hb : b + m ≤ 455) {Q : (Nat → Int32) → Prop} (h : ∀ v', (∀ i, i < m → v' (b + i) = u (a + i)) → (∀ j, ¬ (b ≤ j ∧ j < b + m) → v' j = v j) → Q v') : p_X9_bringd u v (nI a) (nI b) (nI m) Q := by
  unfold p_X9_bringd p_X9_bringd_3
  refine wl1 (q_X9_bringd_3 u (nI a) (nI b) (nI m) Q) m (by omega) (fun k v' => (∀ i, i < k → v' (b + i) = u (a + i)) ∧ (∀ j, ¬ (b ≤ j ∧ j < b + k) → v' j = v j)) 0 (by omega) _ ⟨fun i hi => absurd hi (Nat.not_lt_zero i), fun _ _ => rfl⟩ ?_
  rintro K k v' _ hk ⟨h1, h2⟩ hK
  unfold q_X9_bringd_3
  simp (disch := omega) only [li_0, li_1, li_2, li_3, li_4, li_5, li_6, li_7, li_8, li_9, li_10, li_11, li_12, li_13, li_14, li_15, li_16, li_20, li_26, li_31, li_32, li_36, li_42, li_43, li_48, li_52, li_57, li_58, li_59, li_60, li_63, li_97, li_99, li_104, li_112, li_115, li_119, li_140, li_141, li_142, li_143, li_144, li_145, li_146, li_147, li_148, li_149, li_150, li_151, li_152, li_255, li_303, li_455, li_999, li_1000, li_1510, li_1820, li_2275, li_9999, li_10000, li_100000, li_1048575, li_100000000, nI_leI, nI_add, vp_t, nI_clamp]
  refine ⟨fun hge => ?_, fun hlt => ⟨by omega, by omega, ?_⟩⟩
  · have : k = m := by omega
    subst this
    exact h v' h1 h2
  · refine hK (by omega) _ ⟨?_, ?_⟩
    · intro i hi
      by_cases e : i = k
      · subst e
        exact pk_us
      · rw [pk_un (by omega)]
        exact h1 i (by omega)
    · intro j hj
      rw [pk_un (by omega)]
      exact h2 j (by omega)
theorem i_bringe {u v : Nat → Int32} {a b m : Nat} (ha : a + m ≤ 455) (hb : b + m ≤ 455) {Q : (Nat → Int32) → Prop} (h : ∀ v', (∀ i, i < m → v' (b + i) = u (a + i)) → (∀ j, ¬ (b ≤ j ∧ j < b + m) → v' j = v j) → Q v') : p_X9_bringe u v (nI a) (nI b) (nI m) Q := by
  unfold p_X9_bringe p_X9_bringe_3
  refine wl1 (q_X9_bringe_3 u (nI a) (nI b) (nI m) Q) m (by omega) (fun k v' => (∀ i, i < k → v' (b + i) = u (a + i)) ∧ (∀ j, ¬ (b ≤ j ∧ j < b + k) → v' j = v j)) 0 (by omega) _ ⟨fun i hi => absurd hi (Nat.not_lt_zero i), fun _ _ => rfl⟩ ?_
  rintro K k v' _ hk ⟨h1, h2⟩ hK
  unfold q_X9_bringe_3
  simp (disch := omega) only [li_0, li_1, li_2, li_3, li_4, li_5, li_6, li_7, li_8, li_9, li_10, li_11, li_12, li_13, li_14, li_15, li_16, li_20, li_26, li_31, li_32, li_36, li_42, li_43, li_48, li_52, li_57, li_58, li_59, li_60, li_63, li_97, li_99, li_104, li_112, li_115, li_119, li_140, li_141, li_142, li_143, li_144, li_145, li_146, li_147, li_148, li_149, li_150, li_151, li_152, li_255, li_303, li_455, li_999, li_1000, li_1510, li_1820, li_2275, li_9999, li_10000, li_100000, li_1048575, li_100000000, nI_leI, nI_add, vp_t, nI_clamp]
  refine ⟨fun hge => ?_, fun hlt => ⟨by omega, by omega, ?_⟩⟩
  · have : k = m := by omega
    subst this
    exact h v' h1 h2
  · refine hK (by omega) _ ⟨?_, ?_⟩
    · intro i hi
      by_cases e : i = k
      · subst e
        exact pk_us
      · rw [pk_un (by omega)]
        exact h1 i (by omega)
    · intro j hj
      rw [pk_un (by omega)]
      exact h2 j (by omega)
theorem i_keep {pg hist : Nat → Int32} {z : Nat} (hz : z ≤ 5) {Q : (Nat → Int32) → Int32 → Prop} (hq : ∀ hist', pushR z hist hist' pg → Q hist' (nI (ht z + 1))) : p_X9_keep pg hist (nI z) Q := by
  unfold p_X9_keep
  simp (disch := omega) only [li_0, li_1, li_2, li_3, li_4, li_5, li_6, li_7, li_8, li_9, li_10, li_11, li_12, li_13, li_14, li_15, li_16, li_20, li_26, li_31, li_32, li_36, li_42, li_43, li_48, li_52, li_57, li_58, li_59, li_60, li_63, li_97, li_99, li_104, li_112, li_115, li_119, li_140, li_141, li_142, li_143, li_144, li_145, li_146, li_147, li_148, li_149, li_150, li_151, li_152, li_255, li_303, li_455, li_999, li_1000, li_1510, li_1820, li_2275, li_9999, li_10000, li_100000, li_1048575, li_100000000, nI_eqI]
  refine ⟨fun e => ?_, fun e => ?_⟩
  · have e1 : ht z = z := if_neg e
    have e2 : os z = 0 := if_neg e
    unfold p_X9_keep_36
    simp only [li_0, li_1, li_2, li_3, li_4, li_5, li_6, li_7, li_8, li_9, li_10, li_11, li_12, li_13, li_14, li_15, li_16, li_20, li_26, li_31, li_32, li_36, li_42, li_43, li_48, li_52, li_57, li_58, li_59, li_60, li_63, li_97, li_99, li_104, li_112, li_115, li_119, li_140, li_141, li_142, li_143, li_144, li_145, li_146, li_147, li_148, li_149, li_150, li_151, li_152, li_255, li_303, li_455, li_999, li_1000, li_1510, li_1820, li_2275, li_9999, li_10000, li_100000, li_1048575, li_100000000, pk_mul, nI_add]
    refine i_bringb (by omega) (by omega) ?_
    intro v' h1 h2
    rw [e1] at hq
    refine hq _ ⟨fun j i hj hi => ?_, fun i hi => ?_⟩
    · rw [e1] at hj
      rw [e2]
      exact h2 _ (by omega)
    · rw [e1, h1 i hi, Nat.zero_add]
  · subst e
    refine i_bringa (by omega) (by omega) (Or.inl (by omega)) ?_
    intro v1 a1 a2
    unfold p_X9_keep_36
    simp (disch := omega) only [li_0, li_1, li_2, li_3, li_4, li_5, li_6, li_7, li_8, li_9, li_10, li_11, li_12, li_13, li_14, li_15, li_16, li_20, li_26, li_31, li_32, li_36, li_42, li_43, li_48, li_52, li_57, li_58, li_59, li_60, li_63, li_97, li_99, li_104, li_112, li_115, li_119, li_140, li_141, li_142, li_143, li_144, li_145, li_146, li_147, li_148, li_149, li_150, li_151, li_152, li_255, li_303, li_455, li_999, li_1000, li_1510, li_1820, li_2275, li_9999, li_10000, li_100000, li_1048575, li_100000000, pk_sub, pk_mul, nI_add, Nat.reduceSub, Nat.reduceMul, Nat.reduceAdd]
    refine i_bringb (by omega) (by omega) ?_
    intro v' h1 h2
    refine hq _ ⟨fun j i hj hi => ?_, fun i hi => ?_⟩
    · have hj4 : j < 4 := hj
      rw [h2 _ (by omega)]
      have := a1 (455 * j + i) (by omega)
      rw [Nat.zero_add] at this
      rw [this]
      show hist _ = hist (455 * (j + 1) + i)
      exact congrArg hist (by omega)
    · have := h1 i hi
      rw [Nat.zero_add] at this
      exact this
/-! ===== dishes of a menu ===== -/
theorem e_hasDish {n : Nat} (hn : n ≤ 20) {a : Int32} {Q : Int32 → Prop} : p_X3_hasDish (nI n) a Q ↔ ((∃ d, d < n ∧ a = nI d) → Q (nI 1)) ∧ (¬ (∃ d, d < n ∧ a = nI d) → Q (nI 0)) := by
  unfold p_X3_hasDish
  by_cases h0 : n = 0
  · subst h0
    have e : ¬ ∃ d, d < 0 ∧ a = nI d := by
      rintro ⟨d, h, _⟩
      exact absurd h (Nat.not_lt_zero d)
    unfold p_X8_inRange
    simp only [li_0, li_1, li_2, li_3, li_4, li_5, li_6, li_7, li_8, li_9, li_10, li_11, li_12, li_13, li_14, li_15, li_16, li_20, li_26, li_31, li_32, li_36, li_42, li_43, li_48, li_52, li_57, li_58, li_59, li_60, li_63, li_97, li_99, li_104, li_112, li_115, li_119, li_140, li_141, li_142, li_143, li_144, li_145, li_146, li_147, li_148, li_149, li_150, li_151, li_152, li_255, li_303, li_455, li_999, li_1000, li_1510, li_1820, li_2275, li_9999, li_10000, li_100000, li_1048575, li_100000000]
    rcases sg a with h | ⟨x, hx, rfl⟩
    · simp only [h, true_and, and_true, not_true_eq_false, not_false_eq_true, true_imp_iff, false_imp_iff, false_and, and_false, imp_false, Classical.not_not, Bool.false_eq_true, Nat.zero_ne_one, Nat.one_ne_zero, Nat.not_lt_zero, if_true, if_false, implies_true]
      exact ⟨fun hq => ⟨fun q => q.elim (fun _ f => f.elim), fun _ => hq⟩, fun hq => hq.2 (fun q => q.elim (fun _ f => f.elim))⟩
    · have e2 : nI 0 - nI 1 < nI x := by
        rw [Int32.lt_iff_toInt_lt, pk_sub_toInt (by decide) (by decide), nI_toInt hx]
        omega
      simp (disch := omega) only [nI_ltI, e2, true_and, and_true, not_true_eq_false, not_false_eq_true, true_imp_iff, false_imp_iff, false_and, and_false, imp_false, Classical.not_not, Bool.false_eq_true, Nat.zero_ne_one, Nat.one_ne_zero, Nat.not_lt_zero, if_true, if_false, implies_true]
      exact ⟨fun hq => ⟨fun q => q.elim (fun _ f => f.elim), fun _ => hq⟩, fun hq => hq.2 (fun q => q.elim (fun _ f => f.elim))⟩
  · simp (disch := omega) only [li_0, li_1, li_2, li_3, li_4, li_5, li_6, li_7, li_8, li_9, li_10, li_11, li_12, li_13, li_14, li_15, li_16, li_20, li_26, li_31, li_32, li_36, li_42, li_43, li_48, li_52, li_57, li_58, li_59, li_60, li_63, li_97, li_99, li_104, li_112, li_115, li_119, li_140, li_141, li_142, li_143, li_144, li_145, li_146, li_147, li_148, li_149, li_150, li_151, li_152, li_255, li_303, li_455, li_999, li_1000, li_1510, li_1820, li_2275, li_9999, li_10000, li_100000, li_1048575, li_100000000, pk_sub, e_inRange]
    have e : (∃ x, 0 ≤ x ∧ x ≤ n - 1 ∧ a = nI x) ↔ ∃ d, d < n ∧ a = nI d := by
      constructor
      · rintro ⟨x, _, h2, h3⟩
        exact ⟨x, by omega, h3⟩
      · rintro ⟨x, h2, h3⟩
        exact ⟨x, by omega, by omega, h3⟩
    rw [e]
theorem e_isDish {n : Nat} (hn : n ≤ 20) {pg : Nat → Int32} (hp : pg 0 = nI n) {a : Int32} {Q : Int32 → Prop} : p_X9_isDish pg a Q ↔ ((∃ d, d < n ∧ a = nI d) → Q (nI 1)) ∧ (¬ (∃ d, d < n ∧ a = nI d) → Q (nI 0)) := by
  have e : p_X9_isDish pg a Q ↔ p_X3_hasDish (nI n) a Q := by
    unfold p_X9_isDish p_X3_hasDish
    rw [show pg (0 : Int32).toNatClampNeg = nI n from hp]
    exact ⟨fun h => h.2, fun h => ⟨vk 0 455, h⟩⟩
  rw [e, e_hasDish hn]
theorem e_change {v : Nat → Int32} {m d k : Nat} (hm : m ≤ 20) (hd : d < m) (hk : k < 7) {a : Int32} (ho : okD (nI k) a) {Q : (Nat → Int32) → Prop} : p_X3_change v (nI m) (nI d) (nI k) a Q ↔ Q (upd v (d * 7 + k) a) := by
  have e : ∃ x, x < m ∧ nI d = nI x := ⟨d, hd, rfl⟩
  have hv : d * 7 + k < 140 := by omega
  unfold p_X3_change
  simp (disch := omega) only [li_0, li_1, li_2, li_3, li_4, li_5, li_6, li_7, li_8, li_9, li_10, li_11, li_12, li_13, li_14, li_15, li_16, li_20, li_26, li_31, li_32, li_36, li_42, li_43, li_48, li_52, li_57, li_58, li_59, li_60, li_63, li_97, li_99, li_104, li_112, li_115, li_119, li_140, li_141, li_142, li_143, li_144, li_145, li_146, li_147, li_148, li_149, li_150, li_151, li_152, li_255, li_303, li_455, li_999, li_1000, li_1510, li_1820, li_2275, li_9999, li_10000, li_100000, li_1048575, li_100000000, e_hasDish, e, ho, e_isDishValue, pk_mul, nI_add, vp_t, nI_clamp, nI_eqI, hv, true_and, and_true, not_true_eq_false, not_false_eq_true, true_imp_iff, false_imp_iff, false_and, and_false, imp_false, Classical.not_not, Bool.false_eq_true, Nat.zero_ne_one, Nat.one_ne_zero, Nat.not_lt_zero, if_true, if_false, implies_true]
theorem relC_g {n n' : Nat} {g g' : Nat → Nat → Nat} {s sd : Nat → Nat} {v v' st : Nat → Int32} {dn w : Int32} (R : relC n g s sd v st dn w) (h : ∀ d k, d < 20 → k < 7 → v' (d * 7 + k) = nI (g' d k)) : relC n' g' s sd v' st (nI n') w := ⟨rfl, h, R.2.2.1, R.2.2.2⟩

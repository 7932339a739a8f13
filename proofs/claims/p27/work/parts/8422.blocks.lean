/-! ===== the class's blocks ===== -/
def flp (p : Nat) (A : List sE) (a i : Nat) : Nat := if i = 0 ∨ eP (nt A i) = 0 then 0 else shr a p (ls eP (A.take i) - 1)
def bgp (p : Nat) (A : List sE) (a i : Nat) : Nat := sm (fun k => flp p A a k + eA (nt A k)) i + flp p A a i + eS (nt A i)
theorem flp_in {p : Nat} {A B : List sE} {a i : Nat} (h : i < A.length) : flp p (A ++ B) a i = flp p A a i := by
  have e : (A ++ B).take i = A.take i := List.take_append_of_le_length (Nat.le_of_lt h)
  have e2 : nt (A ++ B) i = nt A i := nt_in h
  unfold flp
  rw [e, e2]
theorem sum_in {p : Nat} {A B : List sE} {a i : Nat} (h : i ≤ A.length) : sm (fun k => flp p (A ++ B) a k + eA (nt (A ++ B) k)) i = sm (fun k => flp p A a k + eA (nt A k)) i := sm_cong (fun k hk => by
  show flp p (A ++ B) a k + eA (nt (A ++ B) k) = flp p A a k + eA (nt A k)
  rw [flp_in (by omega), nt_in (by omega)])
theorem bgp_in {p : Nat} {A B : List sE} {a i : Nat} (h : i < A.length) : bgp p (A ++ B) a i = bgp p A a i := by
  unfold bgp
  rw [sum_in (Nat.le_of_lt h), flp_in h, nt_in h]
theorem flp_last {p : Nat} {A : List sE} {a : Nat} {e : sE} : flp p (A ++ [e]) a A.length = if A.length = 0 ∨ eP e = 0 then 0 else shr a p (ls eP A - 1) := by
  have e1 : (A ++ [e]).take A.length = A := by rw [List.take_append_of_le_length (Nat.le_refl _), List.take_length]
  unfold flp
  rw [e1, nt_last]
/-- the end of a list -/
def ndp (p : Nat) (A : List sE) (a : Nat) : Nat := sm (fun k => flp p A a k + eA (nt A k)) A.length
theorem bgp_last {p : Nat} {A : List sE} {a : Nat} {e : sE} : bgp p (A ++ [e]) a A.length = ndp p A a + (if A.length = 0 ∨ eP e = 0 then 0 else shr a p (ls eP A - 1)) + eS e := by
  unfold bgp ndp
  rw [sum_in (Nat.le_refl _), flp_last, nt_last]
theorem ndp_last {p : Nat} {A : List sE} {a : Nat} {e : sE} : ndp p (A ++ [e]) a = bgp p (A ++ [e]) a A.length + eL e := by
  have e1 : (A ++ [e]).length = A.length + 1 := List.length_append
  unfold ndp bgp
  rw [e1]
  show sm _ A.length + (flp p (A ++ [e]) a A.length + eA (nt (A ++ [e]) A.length)) = _
  rw [nt_last]
  unfold eA
  omega
def relB (p a : Nat) (A : List sE) (kinds numbers starts sizes : Nat → Int32) : Prop := ∀ i, i < A.length → kinds i = nI (eK (nt A i)) ∧ numbers i = nI (eN (nt A i)) ∧ starts i = nI (bgp p A a i) ∧ sizes i = nI (eL (nt A i))
theorem i_put {p a : Nat} {A : List sE} {e : sE} {kinds numbers starts sizes : Nat → Int32} (R : relB p a A kinds numbers starts sizes) (hl : A.length < 25) {E : Nat} (hE : E = bgp p (A ++ [e]) a A.length) {Q : (Nat → Int32) → (Nat → Int32) → (Nat → Int32) → (Nat → Int32) → Int32 → Int32 → Prop} (h : ∀ k' n' s' z', relB p a (A ++ [e]) k' n' s' z' → Q k' n' s' z' (nI (A ++ [e]).length) (nI (ndp p (A ++ [e]) a))) : p_X0_put kinds numbers starts sizes (nI A.length) (nI E) (nI (eK e)) (nI (eN e)) (nI (eL e)) Q := by
  have h25 : ¬ 25 ≤ A.length := by omega
  have e1 : (A ++ [e]).length = A.length + 1 := List.length_append
  unfold p_X0_put
  simp (disch := omega) only [li_0, li_1, li_2, li_3, li_4, li_5, li_6, li_7, li_8, li_9, li_10, li_11, li_12, li_13, li_14, li_15, li_16, li_20, li_26, li_31, li_32, li_36, li_42, li_43, li_48, li_52, li_57, li_58, li_59, li_60, li_63, li_97, li_99, li_104, li_112, li_115, li_119, li_140, li_141, li_142, li_143, li_144, li_145, li_146, li_147, li_148, li_149, li_150, li_151, li_152, li_255, li_303, li_455, li_999, li_1000, li_1510, li_1820, li_2275, li_9999, li_10000, li_100000, li_1048575, li_100000000, show (25 : Int32) = nI 25 from rfl, nI_leI, h25, vp_t, nI_clamp, hl, nI_add, true_and, and_true, not_true_eq_false, not_false_eq_true, true_imp_iff, false_imp_iff, false_and, and_false, imp_false, Classical.not_not, Bool.false_eq_true, Nat.zero_ne_one, Nat.one_ne_zero, Nat.not_lt_zero, if_true, if_false, implies_true]
  rw [ndp_last, ← hE, e1] at h
  refine h _ _ _ _ ?_
  intro i hi
  rw [e1] at hi
  by_cases e2 : i = A.length
  · subst e2
    rw [pk_us, pk_us, pk_us, pk_us, nt_last, hE]
    exact ⟨rfl, rfl, rfl, rfl⟩
  · rw [pk_un e2, pk_un e2, pk_un e2, pk_un e2, nt_in (by omega), bgp_in (by omega)]
    exact R i (by omega)
theorem i_leaveFill {X : Nat → List sE} {fs fl : Nat} {parts : Nat → Nat → Int32} {weights places : Nat → Int32} (R : relF X fs fl parts weights places) (hX : okX X) (hf : fl ≤ 225) {t : Nat} (ht : t < 2) {A : List sE} (hA : okL A) (hl : A.length ≤ 25) {E : Nat} {Q : Int32 → Int32 → Prop} (h : Q (nI (E + if A.length = 0 then 0 else shr (if t = fs then fl else 0) (plc (X t)) (ls eP A - 1))) (nI (if A.length = 0 then 0 else ls eP A))) : p_X0_leaveFill (nI A.length) (nI E) (nI (ls eP A - 1)) parts places (nI t) Q := by
  have hb := (okL_b hA).2.2.1
  unfold p_X0_leaveFill
  simp (disch := omega) only [li_0, li_1, li_2, li_3, li_4, li_5, li_6, li_7, li_8, li_9, li_10, li_11, li_12, li_13, li_14, li_15, li_16, li_20, li_26, li_31, li_32, li_36, li_42, li_43, li_48, li_52, li_57, li_58, li_59, li_60, li_63, li_97, li_99, li_104, li_112, li_115, li_119, li_140, li_141, li_142, li_143, li_144, li_145, li_146, li_147, li_148, li_149, li_150, li_151, li_152, li_255, li_303, li_455, li_999, li_1000, li_1510, li_1820, li_2275, li_9999, li_10000, li_100000, li_1048575, li_100000000, nI_leI]
  refine ⟨fun e => ?_, fun e => ?_⟩
  · have e0 : A = [] := List.eq_nil_of_length_eq_zero (by omega)
    subst e0
    exact h
  · have hp := hA.p1 (A.length - 1) (by omega)
    rw [show A.length - 1 + 1 = A.length by omega, List.take_length] at hp
    refine i_fillAt R hX hf ht (by omega) ?_
    rw [if_neg (show ¬ A.length = 0 by omega), if_neg (show ¬ A.length = 0 by omega)] at h
    simp only [nI_add]
    rw [show ls eP A - 1 + 1 = ls eP A by omega]
    exact h
/-- what stands behind a course's heading -/
def cel (P : Nat → Bool) (g : Nat → Nat → Nat) (wid col spa c d : Nat) : List sE := if cs P g c (fun _ => 1) d = 0 then [(1, c, 2, 0, 6, 1)] else ce P g wid col spa c d
theorem cel_s {P : Nat → Bool} {g : Nat → Nat → Nat} {wid col spa c d : Nat} (h : g d 0 = c ∧ P d = true) : ce P g wid col spa c (d + 1) = cel P g wid col spa c d ++ [(2, d, ln g wid col d, if cs P g c (fun _ => 1) d = 0 then 0 else spa, g d 5 * ln g wid col d + 2, if cs P g c (fun _ => 1) d = 0 then 0 else 1)] := by
  unfold cel
  by_cases h0 : cs P g c (fun _ => 1) d = 0
  · rw [if_pos h0, if_pos h0, if_pos h0]
    exact ce_first h h0
  · rw [if_neg h0, if_neg h0, if_neg h0]
    exact ce_next h h0
theorem cel_ss {P : Nat → Bool} {g : Nat → Nat → Nat} {wid col spa c d : Nat} (h : g d 0 = c ∧ P d = true) : cel P g wid col spa c (d + 1) = ce P g wid col spa c (d + 1) := by
  unfold cel
  rw [cs_step, if_pos h]
  exact if_neg (by omega)
theorem cel_n {P : Nat → Bool} {g : Nat → Nat → Nat} {wid col spa c d : Nat} (h : ¬ (g d 0 = c ∧ P d = true)) : cel P g wid col spa c (d + 1) = cel P g wid col spa c d := by
  unfold cel
  rw [cs_step, if_neg h, Nat.add_zero, ce_no h]
theorem cel_ok {n : Nat} {P : Nat → Bool} {g : Nat → Nat → Nat} (hg : okG n g) {wid col spa c : Nat} (h1 : 20 ≤ wid) (h2 : col ≤ 4) (h3 : spa ≤ 2) (hc : c < 4) {d : Nat} (hd : d ≤ 20) : okL (cel P g wid col spa c d) ∧ 0 < (cel P g wid col spa c d).length ∧ ¬ eK (nt (cel P g wid col spa c d) 0) = 2 := by
  obtain ⟨i1, i2, i3, i4⟩ := ce_ok (P := P) hg h1 h2 h3 hc d hd
  unfold cel
  by_cases h0 : cs P g c (fun _ => 1) d = 0
  · rw [if_pos h0]
    refine ⟨okL_one (A := []) okL_nil ?_ ?_, Nat.one_pos, ?_⟩
    · simp only [okE, eK, eN, eL, eS, eW, eP, or_true, true_or, and_true, true_and]
      omega
    · simp only [eK, eP, List.length_nil]
      omega
    · show ¬ 1 = 2
      omega
  · rw [if_neg h0]
    obtain ⟨j1, j2⟩ := i4 h0
    refine ⟨i1, by omega, ?_⟩
    rw [j1]
    omega
theorem i_layDishes {P : Nat → Bool} {n : Nat} {g : Nat → Nat → Nat} {s sd : Nat → Nat} (hg : okG n g) (ho : okS s) (hw : okW sd) {v st : Nat → Int32} (hv : ∀ d k, d < 20 → k < 7 → v (d * 7 + k) = nI (g d k)) (hs : ∀ k, k < 6 → st k = nI (s k)) {col c : Nat} (hcol : col ≤ 4) (hc : c < 4) {X : Nat → List sE} {fs fl : Nat} {parts : Nat → Nat → Int32} {weights places : Nat → Int32} (R : relF X fs fl parts weights places) (hX : okX X) (hf : fl ≤ 225) {A : List sE} (hA : okL A) (hlen : ∀ d, d ≤ n → A.length + (ce P g (s 1) col (s 3) c d).length ≤ 24) (h0 : ¬ cs P g c (fun _ => 1) n = 0) {kinds numbers starts sizes : Nat → Int32} (B : relB (plc (X (sd c))) (if sd c = fs then fl else 0) (A ++ [(1, c, 2, 0, 6, 1)]) kinds numbers starts sizes) {Q : (Nat → Int32) → (Nat → Int32) → (Nat → Int32) → (Nat → Int32) → Int32 → Int32 → Int32 → Prop}
    (h : ∀ k' n' s' z', relB (plc (X (sd c))) (if sd c = fs then fl else 0) (A ++ ce P g (s 1) col (s 3) c n) k' n' s' z' → Q k' n' s' z' (nI (A ++ ce P g (s 1) col (s 3) c n).length) (nI (ndp (plc (X (sd c))) (A ++ ce P g (s 1) col (s 3) c n) (if sd c = fs then fl else 0))) (nI (ls eP (A ++ ce P g (s 1) col (s 3) c n) - 1))) : p_X0_layDishes kinds numbers starts sizes (nI (A ++ [(1, c, 2, 0, 6, 1)]).length) (nI (ndp (plc (X (sd c))) (A ++ [(1, c, 2, 0, 6, 1)]) (if sd c = fs then fl else 0))) (nI (ls eP (A ++ [(1, c, 2, 0, 6, 1)]) - 1)) v st (nI n) (nI (wy sd)) (nI (mk P n)) (nI col) parts places (nI c) Q := by
  have hn := hg.1
  have hwy := wy_lt hw
  have hsd : sd c < 2 := Nat.lt_succ_of_le (hw c hc)
  have htbw := wy_tb hw hc
  obtain ⟨s0, s1, s2, s3, s4, s5, s6, s7⟩ := ho.b
  have hm2 := mk_lt31 P hn
  generalize hpp : plc (X (sd c)) = p at *
  generalize haa : (if sd c = fs then fl else 0) = a at *
  unfold p_X0_layDishes p_X0_layDishes_6
  refine wl8 (q_X0_layDishes_6 v st (nI n) (nI (wy sd)) (nI (mk P n)) (nI col) parts places (nI c) Q) n (by omega) (fun d k' n' s' z' bc en pl x => relB p a (A ++ cel P g (s 1) col (s 3) c d) k' n' s' z' ∧ bc = nI (A ++ cel P g (s 1) col (s 3) c d).length ∧ en = nI (ndp p (A ++ cel P g (s 1) col (s 3) c d) a) ∧ pl = nI (ls eP (A ++ cel P g (s 1) col (s 3) c d) - 1) ∧ x = nI (if cs P g c (fun _ => 1) d = 0 then 1 else 0)) 0 (by omega) _ _ _ _ _ _ _ _ ⟨B, rfl, rfl, rfl, rfl⟩ ?_
  rintro K d k' n' s' z' bc en pl x _ hd ⟨B', rfl, rfl, rfl, rfl⟩ hK
  unfold q_X0_layDishes_6 p_X3_size
  simp (disch := omega) only [li_0, li_1, li_2, li_3, li_4, li_5, li_6, li_7, li_8, li_9, li_10, li_11, li_12, li_13, li_14, li_15, li_16, li_20, li_26, li_31, li_32, li_36, li_42, li_43, li_48, li_52, li_57, li_58, li_59, li_60, li_63, li_97, li_99, li_104, li_112, li_115, li_119, li_140, li_141, li_142, li_143, li_144, li_145, li_146, li_147, li_148, li_149, li_150, li_151, li_152, li_255, li_303, li_455, li_999, li_1000, li_1510, li_1820, li_2275, li_9999, li_10000, li_100000, li_1048575, li_100000000, nI_leI]
  refine ⟨fun hge => ?_, fun hlt => ?_⟩
  · have : d = n := by omega
    subst this
    have e : cel P g (s 1) col (s 3) c d = ce P g (s 1) col (s 3) c d := if_neg h0
    rw [e] at B' ⊢
    exact h _ _ _ _ B'
  · have hd2 : d < n := by omega
    have hd3 : d < 20 := by omega
    obtain ⟨b0, b1, b2, b3, b4, b5, b6⟩ := hg.b hd3
    have ht := mk_tb P n d
    have hsk : ¬ (g d 0 = c ∧ P d = true) → p_X0_layDishes_92 k' n' s' z' (nI (A ++ cel P g (s 1) col (s 3) c d).length) (nI (ndp p (A ++ cel P g (s 1) col (s 3) c d) a)) (nI (ls eP (A ++ cel P g (s 1) col (s 3) c d) - 1)) (nI (if cs P g c (fun _ => 1) d = 0 then 1 else 0)) (nI d) K := by
      intro hno
      unfold p_X0_layDishes_92
      simp only [li_0, li_1, li_2, li_3, li_4, li_5, li_6, li_7, li_8, li_9, li_10, li_11, li_12, li_13, li_14, li_15, li_16, li_20, li_26, li_31, li_32, li_36, li_42, li_43, li_48, li_52, li_57, li_58, li_59, li_60, li_63, li_97, li_99, li_104, li_112, li_115, li_119, li_140, li_141, li_142, li_143, li_144, li_145, li_146, li_147, li_148, li_149, li_150, li_151, li_152, li_255, li_303, li_455, li_999, li_1000, li_1510, li_1820, li_2275, li_9999, li_10000, li_100000, li_1048575, li_100000000, nI_add]
      refine hK hd2 _ _ _ _ _ _ _ _ ?_
      rw [cel_n hno, cs_step, if_neg hno, Nat.add_zero]
      exact ⟨B', rfl, rfl, rfl, rfl⟩
    by_cases hp : P d = true
    · by_cases hc0 : g d 0 = c
      · obtain ⟨ok1, ok2, ok3⟩ := cel_ok (P := P) hg s1 hcol s5 hc (d := d) (by omega)
        have hAc : okL (A ++ cel P g (s 1) col (s 3) c d) := okL_app hA ok1 (fun _ => ok3)
        have hcs := cel_s (wid := s 1) (col := col) (spa := s 3) ⟨hc0, hp⟩
        have hll : (A ++ cel P g (s 1) col (s 3) c d).length + 1 ≤ 24 := by
          have := hlen (d + 1) (by omega)
          rw [hcs, List.length_append] at this
          rw [List.length_append]
          have e1 : ([(2, d, ln g (s 1) col d, if cs P g c (fun _ => 1) d = 0 then 0 else s 3, g d 5 * ln g (s 1) col d + 2, if cs P g c (fun _ => 1) d = 0 then 0 else 1)] : List sE).length = 1 := rfl
          omega
        have hpos : 0 < (A ++ cel P g (s 1) col (s 3) c d).length := by
          rw [List.length_append]
          omega
        have hpp1 := hAc.p1 ((A ++ cel P g (s 1) col (s 3) c d).length - 1) (by omega)
        rw [show (A ++ cel P g (s 1) col (s 3) c d).length - 1 + 1 = (A ++ cel P g (s 1) col (s 3) c d).length by omega, List.take_length] at hpp1
        have fin : ∀ (E : Nat) (pl : Nat), E = bgp p ((A ++ cel P g (s 1) col (s 3) c d) ++ [(2, d, ln g (s 1) col d, if cs P g c (fun _ => 1) d = 0 then 0 else s 3, g d 5 * ln g (s 1) col d + 2, if cs P g c (fun _ => 1) d = 0 then 0 else 1)]) a (A ++ cel P g (s 1) col (s 3) c d).length → pl = ls eP ((A ++ cel P g (s 1) col (s 3) c d) ++ [(2, d, ln g (s 1) col d, if cs P g c (fun _ => 1) d = 0 then 0 else s 3, g d 5 * ln g (s 1) col d + 2, if cs P g c (fun _ => 1) d = 0 then 0 else 1)]) - 1 → p_X0_layDishes_72 v st (nI col) k' n' s' z' (nI (A ++ cel P g (s 1) col (s 3) c d).length) (nI E) (nI pl) (nI d) K := by
          rintro E pl hE rfl
          unfold p_X0_layDishes_72
          rw [e_linesOf hv hs hg ho hd3 hcol]
          refine i_put (e := (2, d, ln g (s 1) col d, if cs P g c (fun _ => 1) d = 0 then 0 else s 3, g d 5 * ln g (s 1) col d + 2, if cs P g c (fun _ => 1) d = 0 then 0 else 1)) B' (by omega) hE ?_
          intro k2 n2 s2' z2 B2
          unfold p_X0_layDishes_92
          simp only [li_0, li_1, li_2, li_3, li_4, li_5, li_6, li_7, li_8, li_9, li_10, li_11, li_12, li_13, li_14, li_15, li_16, li_20, li_26, li_31, li_32, li_36, li_42, li_43, li_48, li_52, li_57, li_58, li_59, li_60, li_63, li_97, li_99, li_104, li_112, li_115, li_119, li_140, li_141, li_142, li_143, li_144, li_145, li_146, li_147, li_148, li_149, li_150, li_151, li_152, li_255, li_303, li_455, li_999, li_1000, li_1510, li_1820, li_2275, li_9999, li_10000, li_100000, li_1048575, li_100000000, nI_add]
          refine hK hd2 _ _ _ _ _ _ _ _ ?_
          have hcs1 : cs P g c (fun _ => 1) (d + 1) = cs P g c (fun _ => 1) d + 1 := by rw [cs_step, if_pos ⟨hc0, hp⟩]
          rw [cel_ss ⟨hc0, hp⟩, hcs, ← List.append_assoc, hcs1, if_neg (show ¬ cs P g c (fun _ => 1) d + 1 = 0 by omega)]
          exact ⟨B2, rfl, rfl, rfl, rfl⟩
        by_cases hz : cs P g c (fun _ => 1) d = 0
        · simp (disch := omega) only [e_has, ht, hd2, hp, and_self, e_valueOf hv, hc0, hz, nI_eqI, Nat.one_ne_zero, true_and, and_true, not_true_eq_false, not_false_eq_true, true_imp_iff, false_imp_iff, false_and, and_false, imp_false, Classical.not_not, Bool.false_eq_true, Nat.zero_ne_one, Nat.one_ne_zero, Nat.not_lt_zero, if_true, if_false, implies_true]
          refine fin _ _ ?_ ?_
          · have hyp : (A ++ cel P g (s 1) col (s 3) c d).length = 0 ∨ eP (2, d, ln g (s 1) col d, if cs P g c (fun _ => 1) d = 0 then 0 else s 3, g d 5 * ln g (s 1) col d + 2, if cs P g c (fun _ => 1) d = 0 then 0 else 1) = 0 := Or.inr (by
              show (if cs P g c (fun _ => 1) d = 0 then 0 else 1) = 0
              rw [if_pos hz])
            rw [bgp_last, if_pos hyp]
            show _ = ndp p _ a + 0 + (if cs P g c (fun _ => 1) d = 0 then 0 else s 3)
            rw [if_pos hz]
            rfl
          · rw [ls_one]
            show _ = ls eP _ + (if cs P g c (fun _ => 1) d = 0 then 0 else 1) - 1
            rw [if_pos hz]
            rfl
        · simp (disch := omega) only [e_has, ht, hd2, hp, and_self, e_valueOf hv, hc0, hz, nI_eqI, e_sideIn, htbw, Nat.one_ne_zero, true_and, and_true, not_true_eq_false, not_false_eq_true, true_imp_iff, false_imp_iff, false_and, and_false, imp_false, Classical.not_not, Bool.false_eq_true, Nat.zero_ne_one, Nat.one_ne_zero, Nat.not_lt_zero, if_true, if_false, implies_true]
          refine i_leaveFill R hX hf hsd hAc (by omega) ?_
          rw [hpp, haa, if_neg (show ¬ (A ++ cel P g (s 1) col (s 3) c d).length = 0 by omega), if_neg (show ¬ (A ++ cel P g (s 1) col (s 3) c d).length = 0 by omega)]
          simp (disch := omega) only [e_setting hs, nI_add]
          refine fin _ _ ?_ ?_
          · have hne : ¬ ((A ++ cel P g (s 1) col (s 3) c d).length = 0 ∨ eP (2, d, ln g (s 1) col d, if cs P g c (fun _ => 1) d = 0 then 0 else s 3, g d 5 * ln g (s 1) col d + 2, if cs P g c (fun _ => 1) d = 0 then 0 else 1) = 0) := by
              show ¬ ((A ++ cel P g (s 1) col (s 3) c d).length = 0 ∨ (if cs P g c (fun _ => 1) d = 0 then 0 else 1) = 0)
              rw [if_neg hz]
              omega
            rw [bgp_last, if_neg hne]
            show _ = ndp p _ a + _ + (if cs P g c (fun _ => 1) d = 0 then 0 else s 3)
            rw [if_neg hz]
          · rw [ls_one]
            show _ = ls eP _ + (if cs P g c (fun _ => 1) d = 0 then 0 else 1) - 1
            rw [if_neg hz]
            rfl
      · have hno := hsk (fun e => hc0 e.1)
        simp (disch := omega) only [e_has, ht, hd2, hp, and_self, e_valueOf hv, hc0, nI_eqI, Nat.one_ne_zero, true_and, and_true, not_true_eq_false, not_false_eq_true, true_imp_iff, false_imp_iff, false_and, and_false, imp_false, Classical.not_not, Bool.false_eq_true, Nat.zero_ne_one, Nat.one_ne_zero, Nat.not_lt_zero, if_true, if_false, implies_true]
        exact hno
    · have hno := hsk (fun e => hp e.2)
      simp (disch := omega) only [e_has, ht, hd2, hp, and_false, nI_eqI, Nat.one_ne_zero, true_and, and_true, not_true_eq_false, not_false_eq_true, true_imp_iff, false_imp_iff, false_and, and_false, imp_false, Classical.not_not, Bool.false_eq_true, Nat.zero_ne_one, Nat.one_ne_zero, Nat.not_lt_zero, if_true, if_false, implies_true]
      exact hno
theorem bgp_plc (A : List sE) (a i : Nat) : bgp (plc A) A a i = bgn A a i := rfl
theorem i_layB {P : Nat → Bool} {n : Nat} {g : Nat → Nat → Nat} {s sd : Nat → Nat} (hg : okG n g) (ho : okS s) (hw : okW sd) {v st : Nat → Int32} (hv : ∀ d k, d < 20 → k < 7 → v (d * 7 + k) = nI (g d k)) (hs : ∀ k, k < 6 → st k = nI (s k)) {D L W : Nat → Int32} {set num pri all col : Int32} (hP : relP P n g (s 1) D L W set num pri all col) {parts : Nat → Nat → Int32} {weights places : Nat → Int32} (R : relF (wx P n g s sd) (fsd (wx P n g s sd)) (fld (wx P n g s sd) (s 4)) parts weights places) {t : Nat} (ht : t < 2) {kinds numbers starts sizes : Nat → Int32} {Q : (Nat → Int32) → (Nat → Int32) → (Nat → Int32) → (Nat → Int32) → Int32 → Int32 → Int32 → Prop}
    (h : ∀ k' n' s' z' en pl, (∀ i, i < (wx P n g s sd t).length → k' i = nI (eK (nt (wx P n g s sd t) i)) ∧ n' i = nI (eN (nt (wx P n g s sd t) i)) ∧ s' i = nI (bgn (wx P n g s sd t) (if t = fsd (wx P n g s sd) then fld (wx P n g s sd) (s 4) else 0) i) ∧ z' i = nI (eL (nt (wx P n g s sd t) i))) → Q k' n' s' z' (nI (wx P n g s sd t).length) en pl) : p_X0_lay kinds numbers starts sizes v st (nI n) (nI (wy sd)) D set col parts places (if pc (kyl P g n) = 0 then -nI 99 else nI (kys (sx P n g (s 1) (clm P g n) (s 3) sd))) (nI t) Q := by
  have hn := hg.1
  have hwy := wy_lt hw
  obtain ⟨s0, s1, s2, s3, s4, s5, s6, s7⟩ := ho.b
  obtain ⟨hD, _, _, rfl, _, _, _, rfl⟩ := hP
  have hX := wx_ok P hg ho sd
  have hf := fld_b hX (s 4)
  have hcol : clm P g n ≤ 4 := dg_le _
  have hpc := (pc_mark _ (kyl_lt P hg hn)).1
  have hks := kys_lt (sx P n g (s 1) (clm P g n) (s 3) sd)
  unfold p_X0_lay p_X0_lay_18
  refine wl7 (q_X0_lay_18 v st (nI n) (nI (wy sd)) D (nI (mk P n)) (nI (clm P g n)) parts places (if pc (kyl P g n) = 0 then -nI 99 else nI (kys (sx P n g (s 1) (clm P g n) (s 3) sd))) (nI t) Q) 4 (by decide) (fun k k' n' s' z' bc en pl => relB (plc (wx P n g s sd t)) (if t = fsd (wx P n g s sd) then fld (wx P n g s sd) (s 4) else 0) (sl (fun c => ce P g (s 1) (clm P g n) (s 3) c n) sd t k) k' n' s' z' ∧ bc = nI (sl (fun c => ce P g (s 1) (clm P g n) (s 3) c n) sd t k).length ∧ en = nI (ndp (plc (wx P n g s sd t)) (sl (fun c => ce P g (s 1) (clm P g n) (s 3) c n) sd t k) (if t = fsd (wx P n g s sd) then fld (wx P n g s sd) (s 4) else 0)) ∧ pl = nI (ls eP (sl (fun c => ce P g (s 1) (clm P g n) (s 3) c n) sd t k) - 1)) 0 (by omega) _ _ _ _ _ _ _ ⟨fun i hi => absurd hi (Nat.not_lt_zero i), rfl, rfl, rfl⟩ ?_
  rintro K k k' n' s' z' bc en pl _ hk ⟨B, rfl, rfl, rfl⟩ hK
  have hlk := sl_len4 P g (s 1) (clm P g n) (s 3) sd t n k hk hn
  have hok := sl_ok (P := P) hg s1 hcol s5 sd t k hk
  unfold q_X0_lay_18
  simp (disch := omega) only [li_0, li_1, li_2, li_3, li_4, li_5, li_6, li_7, li_8, li_9, li_10, li_11, li_12, li_13, li_14, li_15, li_16, li_20, li_26, li_31, li_32, li_36, li_42, li_43, li_48, li_52, li_57, li_58, li_59, li_60, li_63, li_97, li_99, li_104, li_112, li_115, li_119, li_140, li_141, li_142, li_143, li_144, li_145, li_146, li_147, li_148, li_149, li_150, li_151, li_152, li_255, li_303, li_455, li_999, li_1000, li_1510, li_1820, li_2275, li_9999, li_10000, li_100000, li_1048575, li_100000000, nI_leI]
  refine ⟨fun hge => ?_, fun hlt => ?_⟩
  · have : k = 4 := by omega
    subst this
    by_cases hkt : ¬ pc (kyl P g n) = 0 ∧ t = kys (sx P n g (s 1) (clm P g n) (s 3) sd)
    · have hW : wx P n g s sd t = sl (fun c => ce P g (s 1) (clm P g n) (s 3) c n) sd t 4 ++ [(3, 0, (pc (kyl P g n) + 2) / 3, 0, pc (kyl P g n), 1)] := if_pos hkt
      have hp3 : parts t 3 = nI ((pc (kyl P g n) + 2) / 3) := by
        rw [(R t ht).1 3 (by decide), hW, ls_one, sl_pf3]
        show nI (0 + (pc (kyl P g n) + 2) / 3) = _
        rw [Nat.zero_add]
      rw [if_neg hkt.1, ← hkt.2]
      refine ⟨fun e => absurd rfl e, fun _ => ?_⟩
      refine i_leaveFill R hX hf ht hok (by omega) ?_
      rw [e_partOf ht (by decide), hp3]
      refine i_put (e := (3, 0, (pc (kyl P g n) + 2) / 3, 0, pc (kyl P g n), 1)) B (by omega) ?_ ?_
      · rw [bgp_last]
        show _ = _ + _ + 0
        by_cases e0 : (sl (fun c => ce P g (s 1) (clm P g n) (s 3) c n) sd t 4).length = 0
        · rw [if_pos e0, if_pos (Or.inl e0)]
        · have hne : ¬ ((sl (fun c => ce P g (s 1) (clm P g n) (s 3) c n) sd t 4).length = 0 ∨ eP (3, 0, (pc (kyl P g n) + 2) / 3, 0, pc (kyl P g n), 1) = 0) := fun e => e.elim e0 (fun e1 => absurd (show (1 : Nat) = 0 from e1) (by decide))
          rw [if_neg e0, if_neg hne]
          rfl
      · intro k2 n2 s2' z2 B2
        rw [← hW]
        refine h _ _ _ _ _ _ ?_
        intro i hi
        rw [← hW] at B2
        have := B2 i hi
        rw [bgp_plc] at this
        exact this
    · have hW : wx P n g s sd t = sl (fun c => ce P g (s 1) (clm P g n) (s 3) c n) sd t 4 := if_neg hkt
      have hne : ¬ (if pc (kyl P g n) = 0 then -nI 99 else nI (kys (sx P n g (s 1) (clm P g n) (s 3) sd))) = nI t := by
        by_cases e0 : pc (kyl P g n) = 0
        · rw [if_pos e0]
          have : t = 0 ∨ t = 1 := by omega
          rcases this with rfl | rfl <;> decide
        · rw [if_neg e0, nI_eqI (by omega) (by omega)]
          exact fun e => hkt ⟨e0, e.symm⟩
      refine ⟨fun _ => ?_, fun e => absurd e hne⟩
      rw [← hW] at B ⊢
      refine h _ _ _ _ _ _ ?_
      intro i hi
      have := B i hi
      rw [bgp_plc] at this
      exact this
  · have hk4 : k < 4 := by omega
    have htb := wy_tb hw hk4
    have hsdk := hw k hk4
    have hcs : cs P g k (fun _ => 1) n ≤ 1 * n := cs_le (fun _ _ => Nat.le_refl 1)
    have hDk := hD k hk4
    simp (disch := omega) only [e_sideIn, htb, nI_eqI, vp_t, nI_clamp, hDk, nI_leI, hk4, true_and, and_true, not_true_eq_false, not_false_eq_true, true_imp_iff, false_imp_iff, false_and, and_false, imp_false, Classical.not_not, Bool.false_eq_true, Nat.zero_ne_one, Nat.one_ne_zero, Nat.not_lt_zero, if_true, if_false, implies_true]
    have hstay : sl (fun c => ce P g (s 1) (clm P g n) (s 3) c n) sd t (k + 1) = sl (fun c => ce P g (s 1) (clm P g n) (s 3) c n) sd t k → p_X0_lay_72 k' n' s' z' (nI (sl (fun c => ce P g (s 1) (clm P g n) (s 3) c n) sd t k).length) (nI (ndp (plc (wx P n g s sd t)) (sl (fun c => ce P g (s 1) (clm P g n) (s 3) c n) sd t k) (if t = fsd (wx P n g s sd) then fld (wx P n g s sd) (s 4) else 0))) (nI (ls eP (sl (fun c => ce P g (s 1) (clm P g n) (s 3) c n) sd t k) - 1)) (nI k) K := by
      intro e
      unfold p_X0_lay_72
      simp only [li_0, li_1, li_2, li_3, li_4, li_5, li_6, li_7, li_8, li_9, li_10, li_11, li_12, li_13, li_14, li_15, li_16, li_20, li_26, li_31, li_32, li_36, li_42, li_43, li_48, li_52, li_57, li_58, li_59, li_60, li_63, li_97, li_99, li_104, li_112, li_115, li_119, li_140, li_141, li_142, li_143, li_144, li_145, li_146, li_147, li_148, li_149, li_150, li_151, li_152, li_255, li_303, li_455, li_999, li_1000, li_1510, li_1820, li_2275, li_9999, li_10000, li_100000, li_1048575, li_100000000, nI_add]
      refine hK hk4 _ _ _ _ _ _ _ ?_
      rw [e]
      exact ⟨B, rfl, rfl, rfl⟩
    refine ⟨fun e => hstay ?_, fun e => ⟨fun e2 => hstay ?_, fun e2 => ?_⟩⟩
    · show sl _ sd t k ++ (if sd k = t then ce P g (s 1) (clm P g n) (s 3) k n else []) = _
      rw [if_neg e, List.append_nil]
    · show sl _ sd t k ++ (if sd k = t then ce P g (s 1) (clm P g n) (s 3) k n else []) = _
      rw [if_pos e, ce_nil (by omega), List.append_nil]
    · subst e
      refine i_leaveFill R hX hf ht hok (by omega) ?_
      refine i_put (e := (1, k, 2, 0, 6, 1)) B (by omega) ?_ ?_
      · rw [bgp_last]
        show _ = _ + _ + 0
        by_cases e0 : (sl (fun c => ce P g (s 1) (clm P g n) (s 3) c n) sd (sd k) k).length = 0
        · rw [if_pos e0, if_pos (Or.inl e0)]
        · have hne : ¬ ((sl (fun c => ce P g (s 1) (clm P g n) (s 3) c n) sd (sd k) k).length = 0 ∨ eP (1, k, 2, 0, 6, 1) = 0) := fun e => e.elim e0 (fun e1 => absurd (show (1 : Nat) = 0 from e1) (by decide))
          rw [if_neg e0, if_neg hne]
          rfl
      · intro k2 n2 s2' z2 B2
        have hpl : (if (sl (fun c => ce P g (s 1) (clm P g n) (s 3) c n) sd (sd k) k).length = 0 then 0 else ls eP (sl (fun c => ce P g (s 1) (clm P g n) (s 3) c n) sd (sd k) k)) = ls eP (sl (fun c => ce P g (s 1) (clm P g n) (s 3) c n) sd (sd k) k ++ [(1, k, 2, 0, 6, 1)]) - 1 := by
          rw [ls_one]
          show _ = ls eP _ + 1 - 1
          by_cases e0 : (sl (fun c => ce P g (s 1) (clm P g n) (s 3) c n) sd (sd k) k).length = 0
          · rw [if_pos e0, List.eq_nil_of_length_eq_zero e0]
            rfl
          · rw [if_neg e0]
            rfl
        rw [hpl]
        refine i_layDishes hg ho hw hv hs hcol hk4 R hX hf hok (fun d hd => sl_ce_len P g (s 1) (clm P g n) (s 3) sd (sd k) n k d hk4 hn hd) (by omega) B2 ?_
        intro k3 n3 s3' z3 B3
        unfold p_X0_lay_72
        simp only [li_0, li_1, li_2, li_3, li_4, li_5, li_6, li_7, li_8, li_9, li_10, li_11, li_12, li_13, li_14, li_15, li_16, li_20, li_26, li_31, li_32, li_36, li_42, li_43, li_48, li_52, li_57, li_58, li_59, li_60, li_63, li_97, li_99, li_104, li_112, li_115, li_119, li_140, li_141, li_142, li_143, li_144, li_145, li_146, li_147, li_148, li_149, li_150, li_151, li_152, li_255, li_303, li_455, li_999, li_1000, li_1510, li_1820, li_2275, li_9999, li_10000, li_100000, li_1048575, li_100000000, nI_add]
        refine hK hk4 _ _ _ _ _ _ _ ?_
        have e3 : sl (fun c => ce P g (s 1) (clm P g n) (s 3) c n) sd (sd k) (k + 1) = sl (fun c => ce P g (s 1) (clm P g n) (s 3) c n) sd (sd k) k ++ ce P g (s 1) (clm P g n) (s 3) k n := by
          show sl _ sd (sd k) k ++ (if sd k = sd k then ce P g (s 1) (clm P g n) (s 3) k n else []) = _
          rw [if_pos rfl]
        rw [e3]
        exact ⟨B3, rfl, rfl, rfl⟩

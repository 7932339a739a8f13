/-! ===== small ones ===== -/
def lowN (a : Int32) (n : Nat) : Nat := (a &&& 2147483647).toNatClampNeg % n
theorem l_low {a : Int32} (n : Nat) (h0 : 0 < n) (h1 : n < 2 ^ 31) {Q : Int32 → Prop} (h : lowN a n < n → Q (nI (lowN a n))) : p_L_low a (nI n) Q := by
  unfold p_L_low
  obtain ⟨j, hj, e⟩ := pk_andE a (m := 2147483647) 31 (by decide)
  have e2 : lowN a n = j % n := by
    unfold lowN
    rw [e, nI_clamp hj]
  rw [e, pk_rem hj h0 h1]
  rw [e2] at h
  exact ⟨nI_ne0 h0 h1, h (Nat.mod_lt _ h0)⟩
theorem l_size {a : Nat} (ha : a < 2 ^ 31) {Q : Int32 → Prop} (h : Q (nI (pc a))) : p_L_size (nI a) Q := by
  unfold p_L_size p_L_size_4
  refine wl1 (q_L_size_4 (nI a) Q) 20 (by decide) (fun k x => x = nI (sm (fun j => tb a j) k)) 0 (by decide) _ rfl ?_
  rintro K k x _ hk rfl hK
  unfold q_L_size_4
  rw [li_20, nI_leI (by omega) (by omega)]
  refine ⟨fun hge => ?_, fun hlt => ?_⟩
  · have e : k = 20 := by omega
    subst e
    exact h
  · rw [li_31, li_1, e_bit ha (by omega), nI_add, nI_add]
    exact hK (by omega) _ rfl
/-! ===== refusals ===== -/
theorem m1_int : (-nI 1 : Int32).toInt = -1 := by decide
theorem no_r {lo hi v : Nat} (hv : v < 2 ^ 31) (hh : hi < 2 ^ 31) (h : v < lo ∨ hi < v) : ¬ ∃ x, lo ≤ x ∧ x ≤ hi ∧ nI v = nI x := by
  rintro ⟨x, h1, h2, e⟩
  have := nI_i e (by omega) (by omega)
  omega
theorem no_rm {lo hi : Nat} (hh : hi < 2 ^ 31) : ¬ ∃ x, lo ≤ x ∧ x ≤ hi ∧ -nI 1 = nI x := by
  rintro ⟨x, h1, h2, e⟩
  have h3 := nI_toInt (n := x) (by omega)
  rw [← e, m1_int] at h3
  omega
theorem no_D {k v : Nat} (hk : k < 7) (hv : v < 2 ^ 31) (h : v < loD k ∨ hiD k < v) : ¬ okD (nI k) (nI v) := by
  rw [okD_k hk]
  have := (tD k hk).2.2.2
  exact no_r hv (by omega) h
theorem no_Dm {k : Nat} (hk : k < 7) : ¬ okD (nI k) (-nI 1) := by
  rw [okD_k hk]
  have := (tD k hk).2.2.2
  exact no_rm (by omega)
theorem no_C {k v : Nat} (hk : k < 6) (hv : v < 2 ^ 31) (h : v < loC k ∨ hiC k < v) : ¬ okC (nI k) (nI v) := by
  rw [okC_k hk]
  have := (tC k hk).2.2.2
  exact no_r hv (by omega) h
theorem no_Cm {k : Nat} (hk : k < 6) : ¬ okC (nI k) (-nI 1) := by
  rw [okC_k hk]
  have := (tC k hk).2.2.2
  exact no_rm (by omega)
theorem no_Dk {k : Nat} (hk : 7 ≤ k) (hk2 : k < 2 ^ 31) {v : Int32} : ¬ okD (nI k) v := by
  rintro ⟨j, x, hj, e, _⟩
  have := nI_i e (by omega) (by omega)
  omega
theorem no_Ck {k : Nat} (hk : 6 ≤ k) (hk2 : k < 2 ^ 31) {v : Int32} : ¬ okC (nI k) v := by
  rintro ⟨j, x, hj, e, _⟩
  have := nI_i e (by omega) (by omega)
  omega
theorem no_d {n : Nat} (hn : n ≤ 20) : ¬ ∃ d, d < n ∧ nI n = nI d := by
  rintro ⟨d, h1, e⟩
  have := nI_i e (by omega) (by omega)
  omega
theorem no_dm {n : Nat} (hn : n ≤ 20) : ¬ ∃ d, d < n ∧ -nI 1 = nI d := by
  rintro ⟨d, h1, e⟩
  have h3 := nI_toInt (n := d) (by omega)
  rw [← e, m1_int] at h3
  omega
theorem l_refuses {o : aO} (hm : okM o.1.1) {Q : Int32 → aO → Prop} (h : Q 1 o) : p_L_refuses o Q := by
  have hn := hm.n
  unfold p_L_refuses
  intro r h1 r' h2
  have e1 : r = nI o.1.1.1 := h1.1 0 (by decide) (by decide) rfl
  have e2 : r' = nI o.2.length := h2.1 14 (by decide) (by decide) rfl
  subst e1 e2
  clear h1 h2
  intro r o' hr
  obtain ⟨e1, e2⟩ := hr.2 (fun q => no_D (k := 0) (v := 4) (by decide) (by decide) (Or.inr (by decide)) q.1)
  have e2 := e2.symm
  subst e1 e2
  refine ⟨fun q => absurd rfl q, fun _ => ?_⟩
  clear hr
  intro r o' hr
  obtain ⟨e1, e2⟩ := hr.2 (fun q => no_D (k := 1) (v := 100) (by decide) (by decide) (Or.inr (by decide)) q.2.1)
  have e2 := e2.symm
  subst e1 e2
  refine ⟨fun q => absurd rfl q, fun _ => ?_⟩
  clear hr
  intro r o' hr
  obtain ⟨e1, e2⟩ := hr.2 (fun q => no_D (k := 2) (v := 0) (by decide) (by decide) (Or.inl (by decide)) q.2.2.1)
  have e2 := e2.symm
  subst e1 e2
  refine ⟨fun q => absurd rfl q, fun _ => ?_⟩
  clear hr
  intro r o' hr
  obtain ⟨e1, e2⟩ := hr.2 (fun q => no_D (k := 3) (v := 16) (by decide) (by decide) (Or.inr (by decide)) q.2.2.2.1)
  have e2 := e2.symm
  subst e1 e2
  refine ⟨fun q => absurd rfl q, fun _ => ?_⟩
  clear hr
  intro r o' hr
  obtain ⟨e1, e2⟩ := hr.2 (fun q => no_Dm (k := 4) (by decide) q.2.2.2.2.1)
  have e2 := e2.symm
  subst e1 e2
  refine ⟨fun q => absurd rfl q, fun _ => ?_⟩
  clear hr
  intro r o' hr
  obtain ⟨e1, e2⟩ := hr.2 (fun q => no_D (k := 5) (v := 0) (by decide) (by decide) (Or.inl (by decide)) q.2.2.2.2.2)
  have e2 := e2.symm
  subst e1 e2
  refine ⟨fun q => absurd rfl q, fun _ => ?_⟩
  clear hr
  intro r o' hr
  obtain ⟨e1, e2⟩ := hr.2 (no_d hn)
  have e2 := e2.symm
  subst e1 e2
  refine ⟨fun q => absurd rfl q, fun _ => ?_⟩
  clear hr
  intro r o' hr
  obtain ⟨e1, e2⟩ := hr.2 (no_dm hn)
  have e2 := e2.symm
  subst e1 e2
  refine ⟨fun q => absurd rfl q, fun _ => ?_⟩
  clear hr
  intro r o' hr
  obtain ⟨e1, e2⟩ := hr.2 (fun q => no_d hn q.1)
  have e2 := e2.symm
  subst e1 e2
  refine ⟨fun q => absurd rfl q, fun _ => ?_⟩
  clear hr
  intro r o' hr
  obtain ⟨e1, e2⟩ := hr.2 (fun q => no_Dk (k := 7) (by decide) (by decide) q.2)
  have e2 := e2.symm
  subst e1 e2
  refine ⟨fun q => absurd rfl q, fun _ => ?_⟩
  clear hr
  intro r o' hr
  obtain ⟨e1, e2⟩ := hr.2 (no_Ck (k := 6) (by decide) (by decide))
  have e2 := e2.symm
  subst e1 e2
  refine ⟨fun q => absurd rfl q, fun _ => ?_⟩
  clear hr
  intro r o' hr
  obtain ⟨e1, e2⟩ := hr.2 (no_C (k := 0) (v := 4) (by decide) (by decide) (Or.inr (by decide)))
  have e2 := e2.symm
  subst e1 e2
  refine ⟨fun q => absurd rfl q, fun _ => ?_⟩
  clear hr
  intro r o' hr
  obtain ⟨e1, e2⟩ := hr.2 (no_C (k := 1) (v := 19) (by decide) (by decide) (Or.inl (by decide)))
  have e2 := e2.symm
  subst e1 e2
  refine ⟨fun q => absurd rfl q, fun _ => ?_⟩
  clear hr
  intro r o' hr
  obtain ⟨e1, e2⟩ := hr.2 (no_Cm (k := 4) (by decide))
  have e2 := e2.symm
  subst e1 e2
  refine ⟨fun q => absurd rfl q, fun _ => ?_⟩
  clear hr
  intro r o' hr
  obtain ⟨e1, e2⟩ := hr.2 (fun q => no_r (lo := 0) (hi := 3) (v := 4) (by decide) (by decide) (Or.inr (by decide)) q.1)
  have e2 := e2.symm
  subst e1 e2
  refine ⟨fun q => absurd rfl q, fun _ => ?_⟩
  clear hr
  intro r o' hr
  obtain ⟨e1, e2⟩ := hr.2 (fun q => no_r (lo := 0) (hi := 1) (v := 2) (by decide) (by decide) (Or.inr (by decide)) q.2)
  have e2 := e2.symm
  subst e1 e2
  refine ⟨fun q => absurd rfl q, fun _ => ?_⟩
  clear hr
  intro r o' hr
  obtain ⟨e1, e2⟩ := hr.2 (fun q => no_r (lo := 0) (hi := 1) (v := 2) (by decide) (by decide) (Or.inr (by decide)) q.1)
  have e2 := e2.symm
  subst e1 e2
  refine ⟨fun q => absurd rfl q, fun _ => ?_⟩
  clear hr
  intro r o' hr
  obtain ⟨e1, e2⟩ := hr.2 (fun q => no_r (lo := 1) (hi := 4) (v := 5) (by decide) (by decide) (Or.inr (by decide)) q.2.2)
  have e2 := e2.symm
  subst e1 e2
  refine ⟨fun q => absurd rfl q, fun _ => ?_⟩
  clear hr
  intro r o' hr
  obtain ⟨e1, e2⟩ := hr.2 (no_r (lo := 0) (hi := 1) (v := 2) (by decide) (by decide) (Or.inr (by decide)))
  have e2 := e2.symm
  subst e1 e2
  refine ⟨fun q => absurd rfl q, fun _ => ?_⟩
  clear hr
  intro r o' hr
  obtain ⟨e1, e2⟩ := hr.2 (no_rm (lo := 0) (hi := 1) (by decide))
  have e2 := e2.symm
  subst e1 e2
  refine ⟨fun q => absurd rfl q, fun _ => ?_⟩
  clear hr
  intro r o' hr
  obtain ⟨e1, e2⟩ := hr
  have e2 := e2.symm
  subst e1 e2
  refine ⟨fun q => absurd rfl q, fun _ => ?_⟩
  intro r hr
  have e1 : r = -nI 1 := hr.2 (Or.inl rfl)
  subst e1
  refine ⟨fun q => absurd rfl q, fun _ => ?_⟩
  clear hr
  intro r hr
  have e1 : r = -nI 1 := hr.2 (Or.inr rfl)
  subst e1
  refine ⟨fun q => absurd rfl q, fun _ => ?_⟩
  clear hr
  intro r hr
  have e1 : r = -nI 1 := hr.2.2 rfl
  subst e1
  refine ⟨fun q => absurd rfl q, fun _ => ?_⟩
  clear hr
  intro r hr
  have e1 : r = -nI 1 := hr.2.2.2 rfl
  subst e1
  refine ⟨fun q => absurd rfl q, fun _ => ?_⟩
  clear hr
  intro r hr
  have e1 : r = -nI 1 := hr.2.1 rfl rfl rfl
  subst e1
  refine ⟨fun q => absurd rfl q, fun _ => ?_⟩
  clear hr
  intro r hr
  have e1 : r = -nI 1 := hr.2.2 rfl rfl rfl
  subst e1
  refine ⟨fun q => absurd rfl q, fun _ => ?_⟩
  clear hr
  intro r hr
  have e1 : r = -nI 1 := hr.2.2 rfl rfl
  subst e1
  refine ⟨fun q => absurd rfl q, fun _ => ?_⟩
  clear hr
  intro r hr
  have e1 : r = -nI 1 := hr.2 rfl
  subst e1
  refine ⟨fun q => absurd rfl q, fun _ => ?_⟩
  clear hr
  intro r hr
  have e1 : r = -nI 1 := hr.2 rfl
  subst e1
  refine ⟨fun q => absurd rfl q, fun _ => ?_⟩
  clear hr
  intro r hr
  have e1 : r = -nI 1 := hr.2 rfl
  subst e1
  refine ⟨fun q => absurd rfl q, fun _ => ?_⟩
  clear hr
  intro r hr
  have e1 : r = -nI 1 := hr.2.2.2.2 rfl
  subst e1
  refine ⟨fun q => absurd rfl q, fun _ => ?_⟩
  clear hr
  intro r hr
  have e1 : r = -nI 1 := hr.2 rfl rfl (Or.inl ⟨rfl, rfl⟩)
  subst e1
  refine ⟨fun q => absurd rfl q, fun _ => ?_⟩
  clear hr
  intro r hr
  have e1 : r = -nI 1 := hr.2 rfl rfl (Or.inr ⟨rfl, rfl⟩)
  subst e1
  refine ⟨fun q => absurd rfl q, fun _ => ?_⟩
  clear hr
  unfold p_L_refuses_388
  refine ⟨fun q => absurd q (by decide), fun _ => ?_⟩
  intro r hr
  have e1 : r = nI o.1.1.1 := hr.1 0 (by decide) (by decide) rfl
  subst e1
  refine ⟨fun q => absurd rfl q, fun _ => ?_⟩
  intro r hr
  have e1 : r = nI o.2.length := hr.1 14 (by decide) (by decide) rfl
  subst e1
  exact ⟨fun q => absurd rfl q, fun _ => h⟩
/-! ===== the best sides ===== -/
theorem bst_min (f : Nat → Nat) : ∀ {W w : Nat}, w ≤ W → f (bst f W) ≤ f w
  | 0, w, h => by
    have e : w = 0 := by omega
    subst e
    exact Nat.le_refl _
  | W + 1, w, h => by
    have e : bst f (W + 1) = if f (W + 1) < f (bst f W) then W + 1 else bst f W := rfl
    rw [e]
    by_cases c : f (W + 1) < f (bst f W)
    · rw [if_pos c]
      by_cases c2 : w = W + 1
      · subst c2
        exact Nat.le_refl _
      · have := bst_min f (W := W) (w := w) (by omega)
        omega
    · rw [if_neg c]
      by_cases c2 : w = W + 1
      · subst c2
        omega
      · exact bst_min f (W := W) (w := w) (by omega)
theorem rt_le {e d l e' d' l' : Nat} (he : e ≤ 1) (he' : e' ≤ 1) (hl : l ≤ 450) (hd : d ≤ 1000) (hd' : d' ≤ 1000) (h : rt e' d' l' ≤ rt e d l) : e ≤ e' ∧ (e' = e → d' ≤ d) := by
  unfold rt at h
  by_cases c : e = 0
  · subst c
    refine ⟨Nat.zero_le _, fun q => ?_⟩
    rw [if_pos q, if_pos rfl] at h
    omega
  · rw [if_neg c] at h
    by_cases c' : e' = 0
    · rw [if_pos c'] at h
      omega
    · rw [if_neg c'] at h
      exact ⟨by omega, fun _ => by omega⟩
theorem xm_dif {m : aM} (h : okM m) : dif (xm m) ≤ 1000 := dif_le (xm_ok h)
theorem xm_lgs {m : aM} (h : okM m) : lgs (xm m) (fsm m) (flm m) ≤ 450 := lgs_le (xm_ok h) (flm_b h)
theorem wm_ok {m : aM} (h : okM m) (b : Nat) : okM (wm m b) := ⟨h.1, h.2.1, okW_tb b⟩
theorem best_le {m : aM} (h : okM m) : evn (xm m) (fsm m) (flm m) ≤ evn (xm (wm m (bwy m))) (fsm (wm m (bwy m))) (flm (wm m (bwy m))) ∧ (evn (xm (wm m (bwy m))) (fsm (wm m (bwy m))) (flm (wm m (bwy m))) = evn (xm m) (fsm m) (flm m) → dif (xm (wm m (bwy m))) ≤ dif (xm m)) := by
  have h1 := bst_min (fun w => rtw (prm m) m.1 m.2.1 m.2.2.1 (fun c => tb w c)) (W := 15) (w := wy m.2.2.2) (by have := wy_lt h.2.2; omega)
  have e : wx (prm m) m.1 m.2.1 m.2.2.1 (fun c => tb (wy m.2.2.2) c) = wx (prm m) m.1 m.2.1 m.2.2.1 m.2.2.2 := wx_cg (fun c hc => wy_tb h.2.2 hc)
  have h2 : rt (evn (xm (wm m (bwy m))) (fsm (wm m (bwy m))) (flm (wm m (bwy m)))) (dif (xm (wm m (bwy m)))) (lgs (xm (wm m (bwy m))) (fsm (wm m (bwy m))) (flm (wm m (bwy m)))) ≤ rtw (prm m) m.1 m.2.1 m.2.2.1 (fun c => tb (wy m.2.2.2) c) := h1
  unfold rtw at h2
  rw [e] at h2
  exact rt_le (evn_le _ _ _) (evn_le _ _ _) (xm_lgs h) (xm_dif h) (xm_dif (wm_ok h _)) h2
theorem tb4 : ∀ b, b ≤ 15 → tb b 0 + 2 * tb b 1 + 4 * tb b 2 + 8 * tb b 3 = b := by decide +kernel
theorem l_undo {o : aO} {L : List aS} {v : aS} (hL : o.2 = L ++ [v]) (hl : L.length < 100) {Q : Int32 → aO → Prop} (h : ∀ o', Q 1 o') : ∀ (r : Int32) (o' : aO), sp_undo o r o' → ((r < 0 → Q 0 o') ∧ (¬ r < 0 → Q 1 o')) := by
  intro r o' hr
  obtain ⟨e1, e2⟩ := hr.2 L v hL
  subst e1
  exact ⟨fun q => absurd q (nI_pos (by omega)), fun _ => h _⟩
theorem push_l (L : List aS) (v : aS) (h : L.length ≤ 5) : ∃ L', push L v = L' ++ [v] ∧ L'.length < 100 := by
  refine ⟨_, rfl, ?_⟩
  split
  · rw [List.length_tail]
    omega
  · omega
theorem l_arranges {o : aO} (hm : okM o.1.1) (hl : o.2.length ≤ 5) {a : Int32} {Q : Int32 → aO → Prop} (h : ∀ o', Q 1 o') : p_L_arranges o a Q := by
  have hX := xm_ok hm
  have hdf := xm_dif hm
  have hb15 := bwy_le o.1.1
  have hm2 := wm_ok hm (bwy o.1.1)
  have hX2 := xm_ok hm2
  have hdf2 := xm_dif hm2
  obtain ⟨b1, b2⟩ := best_le hm
  have ev1 := evn_le (xm o.1.1) (fsm o.1.1) (flm o.1.1)
  have ev2 := evn_le (xm (wm o.1.1 (bwy o.1.1))) (fsm (wm o.1.1 (bwy o.1.1))) (flm (wm o.1.1 (bwy o.1.1)))
  have hw0 := (hX 0 (by decide)).1
  have w0 : ls eW (xm o.1.1 0) ≤ 1000 := (okX.b hX (s := 0) (by decide)).2.1
  have w1 : ls eW (xm o.1.1 1) ≤ 1000 := (okX.b hX (s := 1) (by decide)).2.1
  have p38 : ∀ x, x = dif (xm o.1.1) → p_L_arranges_38 a o (nI x) Q := by
    rintro x rfl
    unfold p_L_arranges_38
    intro r1 h1 r2 h2 r3 h3 r4 h4 r5 h5
    have e1 : r1 = nI (bwy o.1.1) := h1.1 rfl
    have e2 : r2 = nI (dif (xm (wm o.1.1 (bwy o.1.1)))) := h2.2.1 rfl
    have e3 : r3 = nI (evn (xm (wm o.1.1 (bwy o.1.1))) (fsm (wm o.1.1 (bwy o.1.1))) (flm (wm o.1.1 (bwy o.1.1)))) := h3.2.2.2.1 rfl
    have e4 : r4 = nI (lgs (xm (wm o.1.1 (bwy o.1.1))) (fsm (wm o.1.1 (bwy o.1.1))) (flm (wm o.1.1 (bwy o.1.1)))) := h4.2.2.1 rfl
    have e5 : r5 = nI (evn (xm o.1.1) (fsm o.1.1) (flm o.1.1)) := h5.1 11 (by decide) (by decide) rfl
    subst e1 e2 e3 e4 e5
    rw [nI_ltI (by omega) (by omega)]
    refine ⟨fun q => by omega, fun _ => ?_⟩
    have p94 : p_L_arranges_94 a o (nI (bwy o.1.1)) (nI (dif (xm (wm o.1.1 (bwy o.1.1))))) (nI (evn (xm (wm o.1.1 (bwy o.1.1))) (fsm (wm o.1.1 (bwy o.1.1))) (flm (wm o.1.1 (bwy o.1.1))))) (nI (lgs (xm (wm o.1.1 (bwy o.1.1))) (fsm (wm o.1.1 (bwy o.1.1))) (flm (wm o.1.1 (bwy o.1.1))))) Q := by
      unfold p_L_arranges_94
      intro r6 o6 h6
      obtain ⟨e6, e7⟩ := h6
      subst e6 e7
      refine ⟨fun q => absurd rfl q, fun _ => ?_⟩
      intro r7 h7
      have e7 : r7 = nI (evn (xm (wm o.1.1 (bwy o.1.1))) (fsm (wm o.1.1 (bwy o.1.1))) (flm (wm o.1.1 (bwy o.1.1)))) := h7.1 11 (by decide) (by decide) rfl
      subst e7
      refine ⟨fun _ => ?_, fun q => absurd rfl q⟩
      have t0 : tot1 (wm o.1.1 (bwy o.1.1)) 0 ≤ 450 := tot_le hX2 (flm_b hm2) (by decide)
      have t1 : tot1 (wm o.1.1 (bwy o.1.1)) 1 ≤ 450 := tot_le hX2 (flm_b hm2) (by decide)
      have hlg : lgs (xm (wm o.1.1 (bwy o.1.1))) (fsm (wm o.1.1 (bwy o.1.1))) (flm (wm o.1.1 (bwy o.1.1))) = if tot1 (wm o.1.1 (bwy o.1.1)) 0 < tot1 (wm o.1.1 (bwy o.1.1)) 1 then tot1 (wm o.1.1 (bwy o.1.1)) 1 else tot1 (wm o.1.1 (bwy o.1.1)) 0 := rfl
      intro r8 h8 r9 h9
      have e8 : r8 = nI (tot1 (wm o.1.1 (bwy o.1.1)) 0) := h8.1 2 (by decide) (by decide) rfl
      have e9 : r9 = nI (tot1 (wm o.1.1 (bwy o.1.1)) 1) := h9.1 3 (by decide) (by decide) rfl
      subst e8 e9
      have p142 : ∀ y, y = lgs (xm (wm o.1.1 (bwy o.1.1))) (fsm (wm o.1.1 (bwy o.1.1))) (flm (wm o.1.1 (bwy o.1.1))) → p_L_arranges_142 a (oAct o (wm o.1.1 (bwy o.1.1))) (nI (bwy o.1.1)) (nI (lgs (xm (wm o.1.1 (bwy o.1.1))) (fsm (wm o.1.1 (bwy o.1.1))) (flm (wm o.1.1 (bwy o.1.1))))) (nI y) Q := by
        rintro y rfl
        unfold p_L_arranges_142
        refine ⟨fun q => absurd rfl q, fun _ => ?_⟩
        intro r1 h1 r2 h2 r3 h3 r4 h4
        have e1 : r1 = nI (tb (bwy o.1.1) 0) := h1.2.1 0 (by decide) rfl
        have e2 : r2 = nI (tb (bwy o.1.1) 1) := h2.2.1 1 (by decide) rfl
        have e3 : r3 = nI (tb (bwy o.1.1) 2) := h3.2.1 2 (by decide) rfl
        have e4 : r4 = nI (tb (bwy o.1.1) 3) := h4.2.1 3 (by decide) rfl
        subst e1 e2 e3 e4
        rw [li_2, li_4, li_8, pk_mul, pk_mul, pk_mul, nI_add, nI_add, nI_add, tb4 _ hb15]
        refine ⟨fun q => absurd rfl q, fun _ => ?_⟩
        intro r5 h5
        have e5 : r5 = nI (bwy o.1.1) := h5.1 rfl
        subst e5
        refine ⟨fun q => absurd rfl q, fun _ => ?_⟩
        unfold p_L_arranges_203
        refine ⟨fun q => absurd q (by decide), fun _ => ?_⟩
        refine l_low 2 (by decide) (by decide) (fun _ => ?_)
        obtain ⟨L', hL1, hL2⟩ := push_l o.2 o.1 hl
        exact ⟨fun _ => h _, fun _ => l_undo (o := oAct o (wm o.1.1 (bwy o.1.1))) hL1 hL2 h⟩
      rw [nI_leI (by omega) (by omega)]
      refine ⟨fun q => ?_, fun q => ?_⟩
      · intro r10 h10
        have e10 : r10 = nI (tot1 (wm o.1.1 (bwy o.1.1)) 1) := h10.1 3 (by decide) (by decide) rfl
        subst e10
        refine p142 _ ?_
        rw [hlg]
        split <;> omega
      · intro r10 h10
        have e10 : r10 = nI (tot1 (wm o.1.1 (bwy o.1.1)) 0) := h10.1 2 (by decide) (by decide) rfl
        subst e10
        refine p142 _ ?_
        rw [hlg]
        split <;> omega
    intro r6 h6
    have e6 : r6 = nI (evn (xm o.1.1) (fsm o.1.1) (flm o.1.1)) := h6.1 11 (by decide) (by decide) rfl
    subst e6
    refine ⟨fun _ => p94, fun q => ?_⟩
    have q := nI_i q (by omega) (by omega)
    have := b2 q
    rw [nI_ltI (by omega) (by omega)]
    exact ⟨fun q2 => by omega, fun _ => p94⟩
  have hdd : dif (xm o.1.1) = if ls eW (xm o.1.1 0) < ls eW (xm o.1.1 1) then ls eW (xm o.1.1 1) - ls eW (xm o.1.1 0) else ls eW (xm o.1.1 0) - ls eW (xm o.1.1 1) := rfl
  unfold p_L_arranges
  intro r1 h1 r2 h2
  have e1 : r1 = nI (ls eW (xm o.1.1 0)) := h1.1 4 (by decide) (by decide) rfl
  have e2 : r2 = nI (ls eW (xm o.1.1 1)) := h2.1 5 (by decide) (by decide) rfl
  subst e1 e2
  rw [nI_leI (by omega) (by omega)]
  refine ⟨fun q => ?_, fun q => ?_⟩
  · intro r3 h3 r4 h4
    have e3 : r3 = nI (ls eW (xm o.1.1 1)) := h3.1 5 (by decide) (by decide) rfl
    have e4 : r4 = nI (ls eW (xm o.1.1 0)) := h4.1 4 (by decide) (by decide) rfl
    subst e3 e4
    rw [pk_sub q]
    refine p38 _ ?_
    rw [hdd]
    split <;> omega
  · intro r3 h3 r4 h4
    have e3 : r3 = nI (ls eW (xm o.1.1 0)) := h3.1 4 (by decide) (by decide) rfl
    have e4 : r4 = nI (ls eW (xm o.1.1 1)) := h4.1 5 (by decide) (by decide) rfl
    subst e3 e4
    rw [pk_sub (by omega)]
    refine p38 _ ?_
    rw [hdd]
    split <;> omega

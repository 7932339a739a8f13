theorem m2_ne (e : Nat) (h : e < 100) : ¬ nI e = -nI 99 ∧ ¬ nI e = -nI 2 ∧ ¬ nI e = -nI 1 := (show ∀ e, e < 100 → ¬ nI e = -nI 99 ∧ ¬ nI e = -nI 2 ∧ ¬ nI e = -nI 1 by decide +kernel) e h
/-- an object is sound -/
theorem l_sound {o : aO} (hm : okM o.1.1) {Q : Int32 → Prop} (h : Q 1) : p_L_sound o Q := by
  have hn := hm.n
  have ho := hm.2.1.b
  have hX := xm_ok hm
  have hfl := flm_b hm
  have hP := fun (d : Nat) => wh0 o.1.1 d
  have hcnt : ∀ c, cs (prm o.1.1) o.1.1.2.1 c (fun _ => 1) o.1.1.1 ≤ o.1.1.2.2.1 2 := fun c => by
    have := ah_min o.1.1.2.1 (o.1.1.2.2.1 2) (o.1.1.2.2.1 0) (o.1.1.2.2.1 5) c o.1.1.1
    have e : cs (prm o.1.1) o.1.1.2.1 c (fun _ => 1) o.1.1.1 = cs (prt o.1.1.2.1 (o.1.1.2.2.1 2) (o.1.1.2.2.1 0) (o.1.1.2.2.1 5)) o.1.1.2.1 c (fun _ => 1) o.1.1.1 := rfl
    omega
  unfold p_L_sound p_L_sound_14
  refine wl4 (q_L_sound_14 o Q) o.1.1.1 (by omega) (fun k ar x1 x2 x3 => (∀ c, c < 4 → ar c = nI (cs (prm o.1.1) o.1.1.2.1 c (fun _ => 1) k)) ∧ x1 = nI (ps (prm o.1.1) (fun _ => 1) k) ∧ x2 = nI (ps (prm o.1.1) (ln o.1.1.2.1 (o.1.1.2.2.1 1) (clmm o.1.1)) k) ∧ x3 = nI (ps (prm o.1.1) (fun d => o.1.1.2.1 d 2) k)) 0 (by omega) _ _ _ _ ⟨fun c _ => rfl, rfl, rfl, rfl⟩ ?_
  rintro K k ar x1 x2 x3 _ hk ⟨hc, rfl, rfl, rfl⟩ hK
  unfold q_L_sound_14
  intro r hr
  have e : r = nI o.1.1.1 := hr.1 0 (by decide) (by decide) rfl
  subst e
  clear hr
  rw [nI_leI (by omega) (by omega)]
  refine ⟨fun hge => ?_, fun hlt => ?_⟩
  · -- all dishes are gone through
    have e : k = o.1.1.1 := by omega
    subst e
    clear hK
    unfold p_L_sound_237
    refine wl0 (q_L_sound_237 o ar _ _ _ Q) 4 (by decide) (fun _ => True) 0 (by decide) trivial ?_
    intro K k _ hk4 _ hK
    unfold q_L_sound_237
    rw [li_4, nI_leI (by omega) (by omega)]
    refine ⟨fun _ => ?_, fun hlt => ⟨?_, ?_⟩⟩
    · intro r1 h1 r2 h2
      have e1 : r1 = nI (tot1 o.1.1 0) := h1.1 2 (by decide) (by decide) rfl
      have e2 : r2 = nI (tot1 o.1.1 1) := h2.1 3 (by decide) (by decide) rfl
      have t0 := tot_le (fs := fsm o.1.1) hX hfl (s := 0) (by decide)
      have t1 := tot_le (fs := fsm o.1.1) hX hfl (s := 1) (by decide)
      have ev := ev_iff (xm o.1.1) (o.1.1.2.2.1 4)
      have ev1 := evn_1 (xm o.1.1) (fsm o.1.1) (flm o.1.1)
      have ev2 := evn_le (xm o.1.1) (fsm o.1.1) (flm o.1.1)
      have hap := apt_le hX
      have hfc := fl_cases (xm o.1.1) (o.1.1.2.2.1 4)
      have rest : ∀ ev' : Nat, ev' = evn (xm o.1.1) (fsm o.1.1) (flm o.1.1) → p_L_sound_282 o (nI (ps (prm o.1.1) (fun _ => 1) o.1.1.1)) (nI (ps (prm o.1.1) (ln o.1.1.2.1 (o.1.1.2.2.1 1) (clmm o.1.1)) o.1.1.1)) (nI (ps (prm o.1.1) (fun d => o.1.1.2.1 d 2) o.1.1.1)) (nI ev') Q := by
        intro ev' hev
        unfold p_L_sound_282
        intro r3 h3 r4 h4
        have e3 : r3 = nI (flm o.1.1) := h3.1 10 (by decide) (by decide) rfl
        have e4 : r4 = nI (pcnt o.1.1) := h4.1 1 (by decide) (by decide) rfl
        subst e3 e4
        refine ⟨fun q => absurd rfl q, fun _ => ?_⟩
        intro r5 h5 r6 h6
        have e5 : r5 = nI (o.1.1.2.2.1 5) := h5.1 5 (by decide) rfl
        subst e5
        have e6 : r6 = nI (pcnt o.1.1) := h6.1 _ (by omega) rfl
        subst e6
        refine ⟨fun q => absurd rfl q, fun _ => ?_⟩
        intro r7 h7
        have e7 : r7 = nI (ps (prm o.1.1) (fun d => o.1.1.2.1 d 2) o.1.1.1) := h7.1 12 (by decide) (by decide) rfl
        subst e7
        refine ⟨fun q => absurd rfl q, fun _ => ?_⟩
        intro r8 h8 r9 h9
        have e8 : r8 = nI (ls (pf 1) (xm o.1.1 0)) := h8.1 0 1 (by decide) (by decide) rfl rfl
        have e9 : r9 = nI (ls (pf 1) (xm o.1.1 1)) := h9.1 1 1 (by decide) (by decide) rfl rfl
        subst e8 e9
        rw [nI_add, pf1_sum hm]
        refine ⟨fun q => absurd rfl q, fun _ => ?_⟩
        intro r10 h10
        have e10 : r10 = nI (evn (xm o.1.1) (fsm o.1.1) (flm o.1.1)) := h10.1 11 (by decide) (by decide) rfl
        rw [← hev] at e10
        subst e10
        have last : p_L_sound_356 o (nI ev') (nI (flm o.1.1)) (nI ev') Q := by
          unfold p_L_sound_356
          refine ⟨fun q => absurd rfl q, fun _ => ?_⟩
          have key : (ev' = 1 ↔ apt (xm o.1.1) = 0 ∨ ¬ flm o.1.1 = 0) := by
            rw [hev, ev1]
            exact ev
          have p382 : p_L_sound_382 o (nI ev') (nI (flm o.1.1)) Q := by
            have p420 : ∀ b : Nat, (b = 1 ↔ pc (kym o.1.1) = 0) → b ≤ 1 → p_L_sound_420 o (nI b) Q := by
              intro b hb hb1
              have p436 : ∀ b2 : Nat, b2 = b → p_L_sound_436 o (nI b) (nI b2) Q := by
                rintro b2 rfl
                unfold p_L_sound_436
                refine ⟨fun q => absurd rfl q, fun _ => ?_⟩
                intro r13 h13 r14 h14 r15 h15
                obtain ⟨x, hx1, hx2, hx3⟩ := h13
                have e14 : r14 = nI (o.1.1.2.2.1 0) := h14.1 0 (by decide) rfl
                have e15 : r15 = nI (evn (xm o.1.1) (fsm o.1.1) (flm o.1.1)) := h15.1 11 (by decide) (by decide) rfl
                subst hx2 e14 e15
                rw [li_31, li_1, e_bit (by omega) (by omega), hx3]
                exact ⟨fun q => absurd rfl q, fun _ => h⟩
              unfold p_L_sound_420
              intro r12 h12
              have e12 : r12 = if pc (kym o.1.1) = 0 then -nI 99 else nI (kys (sx (prm o.1.1) o.1.1.1 o.1.1.2.1 (o.1.1.2.2.1 1) (clmm o.1.1) (o.1.1.2.2.1 3) o.1.1.2.2.2)) := h12.1 8 (by decide) (by decide) rfl
              have hky := kys_lt (sx (prm o.1.1) o.1.1.1 o.1.1.2.1 (o.1.1.2.2.1 1) (clmm o.1.1) (o.1.1.2.2.1 3) o.1.1.2.2.2)
              by_cases c : pc (kym o.1.1) = 0
              · rw [if_pos c] at e12
                subst e12
                exact ⟨fun q => absurd rfl q, fun _ => p436 1 (hb.2 c).symm⟩
              · rw [if_neg c] at e12
                subst e12
                exact ⟨fun _ => p436 0 (by have := fun q => c (hb.1 q); omega), fun q => absurd q (m2_ne _ (by omega)).1⟩
            have p401 : ∀ b : Nat, b = ev' → p_L_sound_401 o (nI ev') (nI b) Q := by
              rintro b rfl
              unfold p_L_sound_401
              refine ⟨fun q => absurd rfl q, fun _ => ?_⟩
              intro r11 h11
              have e11 : r11 = nI (pc (kym o.1.1)) := h11.1 7 (by decide) (by decide) rfl
              subst e11
              have hpc := (pc_mark _ (kym_lt hm)).1
              refine ⟨fun q => p420 0 ⟨fun e => absurd e (by decide), fun e => absurd (by rw [e]; rfl) q⟩ (by decide), fun q => p420 1 ⟨fun _ => nI_i q (by omega) (by omega), fun _ => rfl⟩ (by decide)⟩
            unfold p_L_sound_382 p_L_sound_396
            intro r16 h16
            have e16 : r16 = nI (apt (xm o.1.1)) := h16.1 9 (by decide) (by decide) rfl
            subst e16
            rw [li_0, nI_eqI (by omega) (by omega), nI_leI (by omega) (by omega)]
            refine ⟨fun q => p401 1 (key.2 (Or.inl q)).symm, fun q => ⟨fun q2 => p401 0 ?_, fun q2 => p401 1 (key.2 (Or.inr (by omega))).symm⟩⟩
            have : ¬ ev' = 1 := fun e => (key.1 e).elim q (fun q3 => q3 (by omega))
            omega
          rw [li_0, nI_eqI (by omega) (by omega)]
          refine ⟨fun _ => p382, fun q => ?_⟩
          intro r17 h17
          have e17 : r17 = nI (apt (xm o.1.1)) := h17.1 9 (by decide) (by decide) rfl
          subst e17
          have e18 : flm o.1.1 = apt (xm o.1.1) := by
            rcases hfc with q1 | q1
            · exact absurd q1 q
            · exact q1.1
          refine ⟨fun q1 => absurd (congrArg nI e18) q1, fun _ => ⟨fun q1 => ?_, fun _ => p382⟩⟩
          have e0 := key.2 (Or.inr q)
          have := nI_i (show nI ev' = nI 0 from q1) (by omega) (by omega)
          omega
        by_cases c : ev' = 1
        · subst c
          exact ⟨fun q => absurd rfl q, fun _ => last⟩
        · have c0 : ev' = 0 := by omega
          subst c0
          exact ⟨fun _ => last, fun q => absurd q (by decide)⟩
      subst e1 e2
      by_cases c : tot1 o.1.1 0 = tot1 o.1.1 1
      · have := rest 1 (ev1.2 c).symm
        exact ⟨fun q => absurd (congrArg nI c) q, fun _ => this⟩
      · have h0 : ¬ evn (xm o.1.1) (fsm o.1.1) (flm o.1.1) = 1 := fun q => c (ev1.1 q)
        have := rest 0 (by omega)
        have t0' : tot1 o.1.1 0 ≤ 450 := t0
        have t1' : tot1 o.1.1 1 ≤ 450 := t1
        exact ⟨fun _ => this, fun q => absurd (nI_i q (by omega) (by omega)) c⟩
    · exact vk k 4 (by omega)
    · intro r1 h1
      have e1 : r1 = nI (o.1.1.2.2.1 2) := h1.1 2 (by decide) rfl
      subst e1
      have hck := hcnt k
      rw [nI_clamp (by omega), hc k (by omega), nI_leI (by omega) (by omega)]
      refine ⟨fun _ => ?_, fun q => absurd hck q⟩
      rw [li_1, nI_add]
      exact hK (by omega) () trivial
  · -- a dish
    have hd : k < o.1.1.1 := by omega
    have hd20 : k < 20 := by omega
    obtain ⟨b0, b1, b2, b3, b4, b5, b6⟩ := hm.1.b hd20
    have hb2 := hm.1.2.2 k hd
    have hln := ln_le hm.1 (wid := o.1.1.2.2.1 1) (col := clmm o.1.1) hd20 ho.2.1 (clmm_le _)
    intro r1 h1 r2 h2
    have e1 : r1 = nI (whm o.1.1 k) := h1.1 k hd rfl
    subst e1
    obtain ⟨h2a, h2b⟩ := h2.1 k hd rfl
    have hw4 := wh_le o.1.1 k
    have hw1 := wh1 o.1.1 k
    have c0 : (o.1.1.2.1 k 0) < 4 := by omega
    have hck : ∀ c, c < 4 → cs (prm o.1.1) o.1.1.2.1 c (fun _ => 1) k ≤ 1 * k := fun c _ => cs_le (fun _ _ => Nat.le_refl 1)
    have hd7 : ∀ r, sp_dish o (nI k) 7 r → r = nI (if prm o.1.1 k = true then ln o.1.1.2.1 (o.1.1.2.2.1 1) (clmm o.1.1) k else 0) := fun r hr => hr.2.1 k hd rfl rfl
    have hd0 : ∀ r, sp_dish o (nI k) 0 r → r = nI (o.1.1.2.1 k 0) := fun r hr => hr.1 k 0 hd (by decide) rfl rfl
    have hd2 : ∀ r, sp_dish o (nI k) 2 r → r = nI (o.1.1.2.1 k 2) := fun r hr => hr.1 k 2 hd (by decide) rfl rfl
    have hd6 : ∀ r, sp_dish o (nI k) 6 r → r = nI (o.1.1.2.1 k 6) := fun r hr => hr.1 k 6 hd (by decide) rfl rfl
    have hd8 : ∀ r, sp_dish o (nI k) 8 r → (prm o.1.1 k = true → ∃ i, i < (xm o.1.1 (o.1.1.2.2.2 (o.1.1.2.1 k 0))).length ∧ r = nI (bgn (xm o.1.1 (o.1.1.2.2.2 (o.1.1.2.1 k 0))) (flt o.1.1 (o.1.1.2.2.2 (o.1.1.2.1 k 0))) i)) ∧ (¬ prm o.1.1 k = true → r = -nI 99) := fun r hr => ⟨fun hp => by
      obtain ⟨i, q1, _, _, q2⟩ := (hr.2.2.1 k hd rfl rfl).1 hp
      exact ⟨i, q1, q2⟩, (hr.2.2.1 k hd rfl rfl).2⟩
    have fin : ∀ (ar' : Nat → Int32) (x1' x2' x3' : Int32), (∀ c, c < 4 → ar' c = nI (cs (prm o.1.1) o.1.1.2.1 c (fun _ => 1) (k + 1))) → x1' = nI (ps (prm o.1.1) (fun _ => 1) (k + 1)) → x2' = nI (ps (prm o.1.1) (ln o.1.1.2.1 (o.1.1.2.2.1 1) (clmm o.1.1)) (k + 1)) → x3' = nI (ps (prm o.1.1) (fun d => o.1.1.2.1 d 2) (k + 1)) → p_L_sound_228 ar' x1' x2' x3' (nI k) K := by
      intro ar' x1' x2' x3' q1 q2 q3 q4
      unfold p_L_sound_228
      rw [li_1, nI_add]
      exact hK hd _ _ _ _ ⟨q1, q2, q3, q4⟩
    by_cases hp : prm o.1.1 k = true
    · have hw0 : whm o.1.1 k = 0 := (hP k).2 hp
      have h61 : o.1.1.2.1 k 6 = 1 := by
        by_cases c : o.1.1.2.1 k 6 = 1
        · exact c
        · have := hw1.2 c
          omega
      have h2c := h2b hp
      rw [hw0]
      refine ⟨fun q => absurd rfl q, fun _ => ?_⟩
      unfold p_L_sound_51
      refine ⟨fun q => absurd rfl q, fun _ => ?_⟩
      intro r3 h3
      have e3 := hd2 r3 h3
      subst e3
      unfold p_L_sound_70
      intro r4 h4 r5 h5
      have e4 := hd7 r4 h4
      rw [if_pos hp] at e4
      have e5 := hd0 r5 h5
      subst e4 e5
      refine ⟨vk _ 4 c0, fun q => absurd rfl q, fun _ => ?_⟩
      unfold p_L_sound_104
      refine ⟨vk _ 4 c0, fun q => absurd rfl q, fun _ => ?_⟩
      unfold p_L_sound_116
      intro r6 h6
      have e6 := hd7 r6 h6
      rw [if_pos hp] at e6
      subst e6
      rw [li_0, nI_leI (by omega) (by omega)]
      refine ⟨fun q => by omega, fun _ => ?_⟩
      unfold p_L_sound_132
      refine ⟨fun q => absurd rfl q, fun _ => ⟨fun q => absurd rfl q, fun _ => ?_⟩⟩
      unfold p_L_sound_145
      intro r7 h7
      obtain ⟨i, hi, e7⟩ := (hd8 r7 h7).1 hp
      have hsd : o.1.1.2.2.2 (o.1.1.2.1 k 0) < 2 := Nat.lt_succ_of_le (hm.2.2 _ c0)
      have hY := hX _ hsd
      have hbg := bgn_le hY.1 hY.2 (a := flt o.1.1 (o.1.1.2.2.2 (o.1.1.2.1 k 0))) (by unfold flt; split <;> omega) hi
      subst e7
      rw [li_0, nI_ltI (by omega) (by omega)]
      refine ⟨fun q => by omega, fun _ => ?_⟩
      unfold p_L_sound_161
      refine ⟨fun q => absurd rfl q, fun _ => ⟨fun _ => ?_, fun q => absurd q (by decide)⟩⟩
      unfold p_L_sound_175
      intro r8 h8
      have e8 := hd6 r8 h8
      rw [h61] at e8
      subst e8
      refine ⟨fun _ => ?_, fun q => absurd q (by decide)⟩
      unfold p_L_sound_191
      have tail : p_L_sound_228 (upd ar (nI (o.1.1.2.1 k 0)).toNatClampNeg (ar (nI (o.1.1.2.1 k 0)).toNatClampNeg + 1)) (nI (ps (prm o.1.1) (fun _ => 1) k) + 1) (nI (ps (prm o.1.1) (ln o.1.1.2.1 (o.1.1.2.2.1 1) (clmm o.1.1)) k) + nI (ln o.1.1.2.1 (o.1.1.2.2.1 1) (clmm o.1.1) k)) (nI (ps (prm o.1.1) (fun d => o.1.1.2.1 d 2) k) + nI (o.1.1.2.1 k 2)) (nI k) K := by
        refine fin _ _ _ _ (fun c hc4 => ?_) ?_ ?_ ?_
        · rw [nI_clamp (by omega), cs_step]
          by_cases e : c = o.1.1.2.1 k 0
          · subst e
            rw [pk_us, hc _ c0, if_pos ⟨rfl, hp⟩, li_1, nI_add]
          · rw [pk_un e, hc _ hc4, if_neg (fun q => e q.1.symm), Nat.add_zero]
        · rw [ps_step, if_pos hp, li_1, nI_add]
        · rw [ps_step, if_pos hp, nI_add]
        · rw [ps_step, if_pos hp, nI_add]
      refine ⟨fun q => absurd rfl q, fun _ => ⟨fun _ => ⟨fun _ => tail, fun _ => ?_⟩, fun q => absurd (by decide) q⟩⟩
      intro r9 h9
      rcases h2c with e | ⟨e', he1, he2, he3, he4⟩
      · have : ¬ r2 = (-99) := by assumption
        exact absurd e this
      · subst he2
        have e9 : r9 = nI (whm o.1.1 e') := h9.1 e' he1 rfl
        rw [wh4 he3 he4] at e9
        subst e9
        exact ⟨fun _ => tail, fun q => absurd rfl q⟩
    · have hw0 : ¬ whm o.1.1 k = 0 := fun q => hp ((hP k).1 q)
      have h2c := h2a hp
      rw [li_0]
      have nz : ¬ nI (whm o.1.1 k) = nI 0 := fun q => hw0 (nI_i q (by omega) (by omega))
      refine ⟨fun _ => ?_, fun q => absurd q nz⟩
      unfold p_L_sound_51
      refine ⟨fun _ => ?_, fun q => absurd q nz⟩
      unfold p_L_sound_70
      intro r4 h4 r5 h5
      have e4 := hd7 r4 h4
      rw [if_neg hp] at e4
      have e5 := hd0 r5 h5
      subst e4 e5
      refine ⟨vk _ 4 c0, fun _ => ?_, fun q => absurd q nz⟩
      unfold p_L_sound_104
      refine ⟨vk _ 4 c0, fun _ => ?_, fun q => absurd q nz⟩
      unfold p_L_sound_116
      intro r6 h6
      have e6 := hd7 r6 h6
      rw [if_neg hp] at e6
      subst e6
      refine ⟨fun _ => ?_, fun q => absurd (by decide) q⟩
      unfold p_L_sound_132
      refine ⟨fun q => absurd rfl q, fun _ => ⟨fun _ => ?_, fun q => absurd q nz⟩⟩
      unfold p_L_sound_145
      intro r7 h7
      have e7 := (hd8 r7 h7).2 hp
      subst e7
      refine ⟨fun _ => ?_, fun q => absurd (by decide) q⟩
      unfold p_L_sound_161
      refine ⟨fun q => absurd rfl q, fun _ => ?_⟩
      have tail : p_L_sound_228 (upd ar (nI (o.1.1.2.1 k 0)).toNatClampNeg (ar (nI (o.1.1.2.1 k 0)).toNatClampNeg + 0)) (nI (ps (prm o.1.1) (fun _ => 1) k) + 0) (nI (ps (prm o.1.1) (ln o.1.1.2.1 (o.1.1.2.2.1 1) (clmm o.1.1)) k) + nI 0) (nI (ps (prm o.1.1) (fun d => o.1.1.2.1 d 2) k) + 0) (nI k) K := by
        refine fin _ _ _ _ (fun c hc4 => ?_) ?_ ?_ ?_
        · rw [nI_clamp (by omega), cs_step, if_neg (fun q => hp q.2), Nat.add_zero]
          by_cases e : c = o.1.1.2.1 k 0
          · subst e
            rw [pk_us, hc _ c0, li_0, nI_add, Nat.add_zero]
          · rw [pk_un e, hc _ hc4]
        · rw [ps_step, if_neg hp, li_0, nI_add]
        · rw [ps_step, if_neg hp, nI_add]
        · rw [ps_step, if_neg hp, li_0, nI_add]
      have p191 : ∀ b : Nat, p_L_sound_191 o (upd ar (nI (o.1.1.2.1 k 0)).toNatClampNeg (ar (nI (o.1.1.2.1 k 0)).toNatClampNeg + 0)) (nI (ps (prm o.1.1) (fun _ => 1) k) + 0) (nI (ps (prm o.1.1) (ln o.1.1.2.1 (o.1.1.2.2.1 1) (clmm o.1.1)) k) + nI 0) (nI (ps (prm o.1.1) (fun d => o.1.1.2.1 d 2) k) + 0) (nI k) (nI (whm o.1.1 k)) r2 (nI b) (nI b) K Q := by
        intro b
        unfold p_L_sound_191
        refine ⟨fun q => absurd rfl q, fun _ => ⟨fun q => ?_, fun _ => ⟨fun _ => tail, fun q => absurd h2c q⟩⟩⟩
        rw [li_0, nI_leI (by omega) (by omega)] at q
        omega
      have b61 : o.1.1.2.1 k 6 = 0 ∨ o.1.1.2.1 k 6 = 1 := by omega
      rcases b61 with b61 | b61
      · have w1 : whm o.1.1 k = 1 := hw1.2 (by omega)
        rw [w1]
        refine ⟨fun q => absurd rfl q, fun _ => ?_⟩
        unfold p_L_sound_175
        intro r8 h8
        have e8 := hd6 r8 h8
        rw [b61] at e8
        subst e8
        have := p191 1
        rw [w1] at this
        exact ⟨fun q => absurd rfl q, fun _ => this⟩
      · have w1 : ¬ whm o.1.1 k = 1 := fun q => (hw1.1 q) b61
        refine ⟨fun _ => ?_, fun q => absurd (nI_i (show nI (whm o.1.1 k) = nI 1 from q) (by omega) (by omega)) w1⟩
        unfold p_L_sound_175
        intro r8 h8
        have e8 := hd6 r8 h8
        rw [b61] at e8
        subst e8
        exact ⟨fun _ => p191 0, fun q => absurd q (by decide)⟩

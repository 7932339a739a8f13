theorem or_15 : ∀ a, a < 16 → ∀ b, b < 4 → 1 ≤ a → (a ||| 2 ^ b) ≤ 15 ∧ 1 ≤ (a ||| 2 ^ b) := by decide +kernel
theorem l_acts {o : aO} (hm : okM o.1.1) (hl : o.2.length ≤ 5) {a b : Int32} {Q : Int32 → aO → Prop} (h : ∀ o', Q 1 o') : p_L_acts o a b Q := by
  have hn := hm.n
  have ho := hm.2.1.b
  -- a dish is added
  have p41 : p_L_acts_41 b o (nI o.1.1.1) Q := by
    have p128 : ∀ x0 x1 x2 x3 x4 : Nat, x0 < 4 → 1 ≤ x1 → x1 ≤ 99 → 1 ≤ x2 → x2 ≤ 9999 → 1 ≤ x3 → x3 ≤ 15 → x4 ≤ 255 → p_L_acts_128 b o (nI o.1.1.1) (nI x0) (nI x1) (nI x2) (nI x3) (nI x4) Q := by
      intro x0 x1 x2 x3 x4 h0 h1 h1' h2 h2' h3 h3' h4
      unfold p_L_acts_128
      refine l_low 5 (by decide) (by decide) (fun hv => ?_)
      generalize lowN (b >>> (10 &&& 31)) 5 = v at hv
      intro r o' hr
      rw [li_1, nI_add] at hr
      have hok : okD (nI 0) (nI x0) ∧ okD (nI 1) (nI x1) ∧ okD (nI 2) (nI x2) ∧ okD (nI 3) (nI x3) ∧ okD (nI 4) (nI x4) ∧ okD (nI 5) (nI (1 + v)) := ⟨okD_i (by decide) (Nat.zero_le _) (Nat.le_of_lt_succ h0), okD_i (by decide) h1 h1', okD_i (by decide) h2 h2', okD_i (by decide) h3 h3', okD_i (by decide) (Nat.zero_le _) h4, okD_i (by decide) (show 1 ≤ 1 + v by omega) (show 1 + v ≤ 5 by omega)⟩
      obtain ⟨q1, q2⟩ := hr.1 x0 x1 x2 x3 x4 (1 + v) hok (by omega) (by omega) (by omega) (by omega) (by omega) (by omega) rfl rfl rfl rfl rfl rfl
      by_cases c : o.1.1.1 = 20
      · obtain ⟨e1, e2⟩ := q1 c
        have e2 := e2.symm
        subst e1 e2
        rw [c]
        refine ⟨fun q => absurd rfl q, fun _ => ?_⟩
        unfold p_L_acts_159
        exact ⟨fun q => absurd rfl q, fun _ => ⟨fun _ => h _, fun q => absurd rfl q⟩⟩
      · obtain ⟨e1, e2⟩ := q2 (by omega)
        subst e1 e2
        have c20 : ¬ nI o.1.1.1 = 20 := fun q => c (nI_i (show nI o.1.1.1 = nI 20 from q) (by omega) (by omega))
        refine ⟨fun _ => ?_, fun q => absurd q c20⟩
        unfold p_L_acts_159
        refine ⟨fun q => absurd rfl q, fun _ => ⟨fun q => absurd q c20, fun _ => ?_⟩⟩
        intro r hr
        have e : r = nI (upg o.1.1.2.1 o.1.1.1 (xs7 x0 x1 x2 x3 x4 (1 + v) 1) o.1.1.1 6) := hr.1 o.1.1.1 6 (Nat.lt_succ_self _) (by decide) rfl rfl
        rw [upg_s] at e
        subst e
        exact ⟨fun q => absurd rfl q, fun _ => h _⟩
    have p80 : ∀ x0 x1 M : Nat, x0 < 4 → 1 ≤ x1 → x1 ≤ 99 → 0 < M → M ≤ 9999 → p_L_acts_80 b o (nI o.1.1.1) (nI x0) (nI x1) 1 (b >>> (4 &&& 31)) (nI M) Q := by
      intro x0 x1 M h0 h1 h1' hM hM'
      unfold p_L_acts_80
      refine l_low M hM (by omega) (fun hu => ?_)
      generalize lowN (b >>> (4 &&& 31)) M = u at hu
      refine l_low 15 (by decide) (by decide) (fun hz => ?_)
      generalize lowN (b >>> (6 &&& 31)) 15 = z at hz
      intro r hr
      have e : r = nI (o.1.1.2.2.1 0) := hr.1 0 (by decide) rfl
      subst e
      have es : ((1 : Int32) + nI z) ||| ((1 : Int32) <<< (nI (o.1.1.2.2.1 0) &&& 31)) = nI ((1 + z) ||| 2 ^ (o.1.1.2.2.1 0)) := by
        rw [li_1, li_31, nI_add, e_shl (by omega), e_orI]
      have hor := or_15 (1 + z) (by omega) (o.1.1.2.2.1 0) (by omega) (by omega)
      rw [es, show (1 : Int32) + nI u = nI (1 + u) from nI_add 1 u]
      refine l_low 2 (by decide) (by decide) (fun _ => ?_)
      refine ⟨fun _ => ?_, fun _ => ?_⟩
      · refine l_low 256 (by decide) (by decide) (fun ha => ?_)
        generalize lowN (b >>> (8 &&& 31)) 256 = x4 at ha
        exact p128 x0 x1 (1 + u) _ x4 h0 h1 h1' (by omega) (by omega) hor.2 hor.1 (by omega)
      · exact p128 x0 x1 (1 + u) _ 0 h0 h1 h1' (by omega) (by omega) hor.2 hor.1 (by omega)
    unfold p_L_acts_41
    refine l_low 4 (by decide) (by decide) (fun h0 => ?_)
    generalize lowN b 4 = x0 at h0
    refine l_low 60 (by decide) (by decide) (fun h1 => ?_)
    generalize lowN (b >>> (2 &&& 31)) 60 = x1 at h1
    refine l_low 2 (by decide) (by decide) (fun _ => ?_)
    rw [show (1 : Int32) + nI x1 = nI (1 + x1) from nI_add 1 x1]
    exact ⟨fun _ => p80 x0 (1 + x1) 99 h0 (by omega) (by omega) (by decide) (by decide), fun _ => p80 x0 (1 + x1) 9999 h0 (by omega) (by omega) (by decide) (by decide)⟩
  -- a setting of the card
  have p400 : ∀ k v : Nat, k < 6 → loC k ≤ v → v ≤ hiC k → p_L_acts_400 o (nI k) (nI v) Q := by
    intro k v hk h1 h2
    have hv : v < 256 := by have := (tC k hk).2.2.2; omega
    unfold p_L_acts_400
    intro r1 hr1 r2 o' hr2
    have e1 : r1 = nI (o.1.1.2.2.1 k) := hr1.1 k hk rfl
    obtain ⟨e2, e3⟩ := hr2.1 k v hk h1 h2 rfl rfl
    subst e1 e2 e3
    refine ⟨fun q => absurd rfl q, fun _ => ?_⟩
    intro r3 hr3
    have e4 : r3 = nI (if k = k then v else o.1.1.2.2.1 k) := hr3.1 k hk rfl
    rw [if_pos rfl] at e4
    subst e4
    exact ⟨fun q => absurd rfl q, fun _ => h _⟩
  have p29 : ∀ w d : Nat, w < 12 → (¬ o.1.1.1 = 0 → d < o.1.1.1) → p_L_acts_29 a b o (nI w) (nI o.1.1.1) (nI d) Q := by
    intro w d hw hd0
    unfold p_L_acts_29
    rw [li_5, li_0, li_6, li_9, li_10, nI_ltI (by omega) (by omega)]
    refine ⟨fun _ => p41, fun h5 => ⟨fun hz => ?_, fun _ => p41⟩⟩
    have hz : ¬ o.1.1.1 = 0 := fun q => hz (congrArg nI q)
    have hd := hd0 hz
    refine ⟨fun n5 => ⟨fun n6 => ?_, fun e6 => ?_⟩, fun e5 => ?_⟩
    · rw [nI_leI (by omega) (by omega)]
      refine ⟨fun h9 => ⟨fun n9 => ⟨fun n10 => l_arranges hm hl (Q := fun r o' => Q r o') h, fun e10 => ?_⟩, fun e9 => ?_⟩, fun h9 => ?_⟩
      · refine l_low 2 (by decide) (by decide) (fun hk => ?_)
        generalize lowN b 2 = k at hk
        intro r1 hr1 r2 o2 hr2
        have e1 : r1 = nI (pcnt o.1.1) := hr1.1 1 (by decide) (by decide) rfl
        obtain ⟨e2, e3⟩ := hr2.1 k (by omega) rfl
        subst e1 e2 e3
        refine ⟨fun q => absurd rfl q, fun _ => ?_⟩
        intro r3 o3 hr3
        obtain ⟨e4, e5⟩ := hr3.1 5 255 (by decide) (by decide) (by decide) rfl rfl
        subst e4 e5
        refine ⟨fun q => absurd q (nI_pos (by show o.1.1.2.2.1 5 < 2 ^ 31; omega)), fun _ => ?_⟩
        intro r4 o4 hr4
        have hk2 : k = 0 ∨ k = 1 := by omega
        obtain ⟨e6, e7⟩ : r4 = nI (pcnt o.1.1) ∧ ∃ o5, o4 = oAct o5 o.1.1 := by
          rcases hk2 with rfl | rfl
          · obtain ⟨q1, q2⟩ := (hr4.1 0 (by decide) rfl).2 o.1.1 rfl
            exact ⟨q1, _, q2⟩
          · obtain ⟨q1, q2⟩ := (hr4.1 1 (by decide) rfl).2 o.1.1 rfl
            exact ⟨q1, _, q2⟩
        obtain ⟨o5, e7⟩ := e7
        subst e6 e7
        refine ⟨fun q => absurd rfl q, fun _ => ?_⟩
        intro r5 hr5
        have e8 : r5 = nI (pcnt o.1.1) := hr5.1 1 (by decide) (by decide) rfl
        subst e8
        exact ⟨fun q => absurd rfl q, fun _ => h _⟩
      · refine l_low 4 (by decide) (by decide) (fun hc => ?_)
        generalize lowN b 4 = c at hc
        intro r1 hr1
        have e1 : r1 = nI (o.1.1.2.2.2 c) := hr1.2.1 c hc (nI_add 6 c)
        subst e1
        refine l_low 2 (by decide) (by decide) (fun hv => ?_)
        intro r2 o2 hr2
        obtain ⟨e2, e3⟩ := hr2.1 c (lowN (b >>> (2 &&& 31)) 2) hc (by omega) rfl rfl
        subst e2 e3
        refine ⟨fun q => absurd rfl q, fun _ => ?_⟩
        intro r3 hr3
        have e4 : r3 = nI (if c = c then lowN (b >>> (2 &&& 31)) 2 else o.1.1.2.2.2 c) := hr3.2.1 c hc (nI_add 6 c)
        rw [if_pos rfl] at e4
        subst e4
        refine l_low 2 (by decide) (by decide) (fun _ => ?_)
        exact ⟨fun q => absurd rfl q, fun _ => h _⟩
      · refine l_low 5 (by decide) (by decide) (fun hk => ?_)
        generalize lowN b 5 = k at hk
        rw [li_1, li_2, li_3, li_20]
        refine ⟨fun n0 => ⟨fun n1 => ⟨fun n2 => ⟨fun n3 => ?_, fun e3 => ?_⟩, fun e2 => ?_⟩, fun e1 => ?_⟩, fun e0 => ?_⟩
        · refine l_low 4 (by decide) (by decide) (fun hv => ?_)
          generalize lowN (b >>> (nI 3 &&& 31)) 4 = v at hv
          have n0 : ¬ k = 0 := fun q => n0 (congrArg nI q)
          have n1 : ¬ k = 1 := fun q => n1 (congrArg nI q)
          have n2 : ¬ k = 2 := fun q => n2 (congrArg nI q)
          have n3 : ¬ k = 3 := fun q => n3 (congrArg nI q)
          obtain rfl : k = 4 := by omega
          exact p400 4 v (by decide) (Nat.zero_le _) (Nat.le_of_lt_succ hv)
        · refine l_low 3 (by decide) (by decide) (fun hv => ?_)
          generalize lowN (b >>> (nI 3 &&& 31)) 3 = v at hv
          obtain rfl : k = 3 := nI_i e3 (by omega) (by omega)
          exact p400 3 v (by decide) (Nat.zero_le _) (Nat.le_of_lt_succ hv)
        · refine l_low 9 (by decide) (by decide) (fun hv => ?_)
          generalize lowN (b >>> (nI 3 &&& 31)) 9 = v at hv
          obtain rfl : k = 2 := nI_i e2 (by omega) (by omega)
          rw [nI_add]
          exact p400 2 (1 + v) (by decide) (Nat.le_add_right 1 v) (show 1 + v ≤ 9 by omega)
        · refine l_low 41 (by decide) (by decide) (fun hv => ?_)
          generalize lowN (b >>> (nI 3 &&& 31)) 41 = v at hv
          obtain rfl : k = 1 := nI_i e1 (by omega) (by omega)
          rw [nI_add]
          exact p400 1 (20 + v) (by decide) (Nat.le_add_right 20 v) (show 20 + v ≤ 60 by omega)
        · refine l_low 4 (by decide) (by decide) (fun hv => ?_)
          generalize lowN (b >>> (nI 3 &&& 31)) 4 = v at hv
          obtain rfl : k = 0 := nI_i e0 (by omega) (by omega)
          exact p400 0 v (by decide) (Nat.zero_le _) (Nat.le_of_lt_succ hv)
    · intro r1 hr1
      have e1 : r1 = nI (o.1.1.2.1 d 6) := hr1.1 d 6 hd (by decide) rfl rfl
      subst e1
      refine l_low 2 (by decide) (by decide) (fun hv => ?_)
      intro r2 o2 hr2
      obtain ⟨e2, e3⟩ := hr2.1 d 6 (lowN (b >>> (4 &&& 31)) 2) hd (by decide) (Nat.zero_le _) (Nat.le_of_lt_succ hv) rfl rfl rfl
      subst e2 e3
      refine ⟨fun q => absurd rfl q, fun _ => ?_⟩
      intro r3 hr3
      have e4 : r3 = nI (if d = d ∧ 6 = 6 then lowN (b >>> (4 &&& 31)) 2 else o.1.1.2.1 d 6) := hr3.1 d 6 hd (by decide) rfl rfl
      rw [if_pos ⟨rfl, rfl⟩] at e4
      subst e4
      refine l_low 2 (by decide) (by decide) (fun _ => ?_)
      exact ⟨fun q => absurd rfl q, fun _ => h _⟩
    · intro r1 o1 hr1
      obtain ⟨e1, e2⟩ := hr1.1 d hd rfl
      subst e1 e2
      have e3 : nI (o.1.1.1 - 1) = nI o.1.1.1 - 1 := (pk_sub (b := 1) (by omega)).symm
      rw [← e3]
      refine ⟨fun q => absurd rfl q, fun _ => ?_⟩
      intro r2 hr2
      have e4 : r2 = nI (o.1.1.1 - 1) := hr2.1 0 (by decide) (by decide) rfl
      subst e4
      refine ⟨fun q => absurd rfl q, fun _ => ?_⟩
      refine l_low 2 (by decide) (by decide) (fun _ => ?_)
      refine ⟨fun _ => h _, fun _ => ?_⟩
      intro r3 o3 hr3
      obtain ⟨L', hL1, hL2⟩ := push_l o.2 o.1 hl
      obtain ⟨e5, e6⟩ := hr3.2 L' o.1 hL1
      subst e5 e6
      refine ⟨fun q => absurd q (nI_pos (by omega)), fun _ => ?_⟩
      intro r4 hr4
      have e7 : r4 = nI o.1.1.1 := hr4.1 0 (by decide) (by decide) rfl
      subst e7
      exact ⟨fun q => absurd rfl q, fun _ => h _⟩
  unfold p_L_acts
  refine l_low 12 (by decide) (by decide) (fun hw => ?_)
  generalize lowN a 12 = w at hw
  intro r hr
  have e : r = nI o.1.1.1 := hr.1 0 (by decide) (by decide) rfl
  subst e
  refine ⟨fun hz => ?_, fun hz => ?_⟩
  · have hz : ¬ o.1.1.1 = 0 := fun q => hz (congrArg nI q)
    refine l_low o.1.1.1 (by omega) (by omega) (fun hd => ?_)
    exact p29 w _ hw (fun _ => hd)
  · have hz := nI_i (show nI o.1.1.1 = nI 0 from hz) (by omega) (by omega)
    exact p29 w 0 hw (fun q => absurd hz q)

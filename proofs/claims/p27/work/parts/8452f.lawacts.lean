abbrev r_L_acts : Room := { frames := 8, cells := 0, slots := 0, locals := 189 }
set_option maxHeartbeats 40000000 in
set_option maxRecDepth 100000 in
theorem c_L_acts (l : Launch) (D : va_G) (cy : Nat → ClassId) (sz : Nat) (x : Nat → Nat) (K : sK) (o : aO) (hG : Good o K) (a1 : Int32) (a2 : Int32) (Q : Int32 → aO → Prop) (hq : p_L_acts o a1 a2 Q) : Met l yL_acts wsL_acts r_L_acts (wPM [.ref (x 0), .int a1, .int a2] sz D cy (wK cy x K)) (va_Qi (fun r u => (r = 0 ∨ r = 1) ∧ ∃ (K' : sK) (o' : aO), u = wK cy x K' ∧ Good o' K' ∧ Q r o') (fun u T9 => va_P D vwCl u T9.heap ∧ va_D (va_A (wK cy x K) sz) u) (va_A (wK cy x K) sz)) 0 0 (va_A (wK cy x K) sz) := by
  refine Met.ofW (cc := cL_acts) (maxL := 9) (ret := (some .boolean)) (by decide) rfl ?_
  intro p e s m args below meth c s₁ B hml hv
  obtain ⟨hargs, hsz, hE, hP, hK, hD0⟩ := hv
  have hx := B.exec
  have hb := B.bytes
  have hr := B.returns
  have hts := atoms_spec (ws := wsL_acts) B.pre
  have hown : s.vm.findClass RL = some m.cls := findClass_of_methodNamed B.named
  have hlocks := B.notSynchronized
  clear B
  subst hsz
  have hD := hD0.self (sz := s.heap.size)
  generalize hAe : va_A (wK cy x K) s.heap.size = A at hD ⊢ hE
  have hA : ∀ q : Nat, s.heap.size ≤ q → A q := fun q h => by rw [← hAe]; exact Or.inr h
  clear hAe hD0
  have hend : ∀ (r : Int32) (K' : sK) (o' : aO) (H : Heap) (locs : List Loc), (r = 0 ∨ r = 1) → Good o' K' → Q r o' → va_P D vwCl (wK cy x K') H → va_D A (wK cy x K') → va_S A s.heap H locs → ∀ T9 : State, T9.heap = H → (va_Qi (fun r u => (r = 0 ∨ r = 1) ∧ ∃ (K' : sK) (o' : aO), u = wK cy x K' ∧ Good o' K' ∧ Q r o') (fun u T9 => va_P D vwCl u T9.heap ∧ va_D A u) A) args s (.returned (some (.int r))) T9 := fun r K' o' H locs hz hG' hq hP hD hS T9 ht => ⟨⟨r, _, rfl, ⟨hz, K', o', rfl, hG', hq⟩, by rw [ht]; exact hP, hD⟩, hS.F ht⟩
  generalize (va_Qi (fun r u => (r = 0 ∨ r = 1) ∧ ∃ (K' : sK) (o' : aO), u = wK cy x K' ∧ Good o' K' ∧ Q r o') (fun u T9 => va_P D vwCl u T9.heap ∧ va_D A u) A) = Qc at hend ⊢
  have hS : va_S A s.heap s.heap [] := va_S.rf
  show W p l e r_L_acts s m args below meth c s.heap [] 0 0 (MQ below Qc args s 0 0 A) (entryFrame m args 9)
  rw [show entryFrame m args 9 = entryFrame m ([.ref (x 0), .int a1, .int a2] : List Value).toArray 9 from by rw [hargs]]
  have hl := lv_entry ([.ref (x 0), .int a1, .int a2]) (n := 9) (Nat.le_of_ble_eq_true rfl)
  rw [lg_entry_eq]
  generalize (lg_sl ([.ref (x 0), .int a1, .int a2]) ++ List.replicate (9 - (lg_sl ([.ref (x 0), .int a1, .int a2])).length) Slot.unset).toArray = ls at hl ⊢
  have hl : lv_has ls 9 [(0, .ref (x 0)), (1, .int a1), (2, .int a2)] := hl
  have h := hq
  clear hargs hq
  have j400 : ∀ (o : aO) (x6 : Int32) (k0 : Int32), p_L_acts_400 o x6 k0 Q → ∀ (K : sK), Good o K → ∀ (H : Heap) (locs : List Loc), va_P D vwCl ([] ++ wK cy x K) H → va_D A ([] ++ wK cy x K) → va_S A s.heap H locs → ∀ (ls : Array Slot), lv_has ls 9 [(0, .ref (x 0)), (6, .int x6)] → W p l e r_L_acts s m args below meth c H locs 0 0 (MQ below Qc args s 0 0 A) (F0 m 400 ls [.int k0]) := by
    intro o x6 k0 h K hG H locs hP hD hS ls hl
    unfold p_L_acts_400 at h
    refine lv_istore (lv' := [(7, .int k0), (0, .ref (x 0)), (6, .int x6)]) hx hb dL_acts_400 hl (by decide) rfl (fun ls hl => ?_)
    refine lv_aload_n hx hb dL_acts_402 rfl (lv_at hl 1 rfl) ?_
    refine lv_iload hx hb dL_acts_403 (lv_at hl 2 rfl) ?_
    refine w_callK0 (pl := []) hP hD hS hA (va_runV (As := [.int x6]) (rest := []) ⟨hx, hb, hml, hown, hts⟩ (m_card l D cy H.size x K o hG x6) (cwV 1 hts gL_acts_X8_card rfl rfl rfl (by decide +kernel) ⟨Nat.le_of_ble_eq_true rfl, Nat.le_of_ble_eq_true rfl⟩) (w_preVK (pl := []) (ci := 8) hE hS hA hK hP hD rfl rfl) rfl rfl hl.1 rfl (lv_room (Nat.le_of_ble_eq_true rfl)) dL_acts_405 ⟨Nat.le_of_ble_eq_true rfl, Nat.le_of_ble_eq_true rfl⟩) (fun r1 u H locs hw hP hD hS => ?_)
    obtain ⟨Kc2, rfl, hG, hr_⟩ := hw
    replace h := h r1 hr_
    clear hr_
    have hP : va_P D vwCl ([] ++ wK cy x Kc2) H := hP
    have hD : va_D A ([] ++ wK cy x Kc2) := hD
    refine lv_istore (lv' := [(8, .int r1), (7, .int k0), (0, .ref (x 0)), (6, .int x6)]) hx hb dL_acts_408 hl (by decide) rfl (fun ls hl => ?_)
    refine lv_aload_n hx hb dL_acts_410 rfl (lv_at hl 2 rfl) ?_
    refine lv_iload hx hb dL_acts_411 (lv_at hl 3 rfl) ?_
    refine lv_iload hx hb dL_acts_413 (lv_at hl 1 rfl) ?_
    refine w_callK0 (pl := []) hP hD hS hA (va_runV (As := [.int x6, .int k0]) (rest := []) ⟨hx, hb, hml, hown, hts⟩ (m_setCard l D cy H.size x Kc2 o hG x6 k0) (cwV 2 hts gL_acts_X8_setCard rfl rfl rfl (by decide +kernel) ⟨Nat.le_of_ble_eq_true rfl, Nat.le_of_ble_eq_true rfl⟩) (w_preVK (pl := []) (ci := 8) hE hS hA hK hP hD rfl rfl) rfl rfl hl.1 rfl (lv_room (Nat.le_of_ble_eq_true rfl)) dL_acts_415 ⟨Nat.le_of_ble_eq_true rfl, Nat.le_of_ble_eq_true rfl⟩) (fun r4 u H locs hw hP hD hS => ?_)
    obtain ⟨Kc5, o_6, rfl, hG, hr_⟩ := hw
    replace h := h r4 o_6 hr_
    clear hr_
    have hP : va_P D vwCl ([] ++ wK cy x Kc5) H := hP
    have hD : va_D A ([] ++ wK cy x Kc5) := hD
    refine lv_iload hx hb dL_acts_418 (lv_at hl 0 rfl) ?_
    refine lv_icmp_ne (tgt := 438) hx hb dL_acts_420 rfl (fun hc => ?_) (fun hc => ?_)
    · replace h := h.1 hc
      refine lv_iconst (v := 0) hx hb dL_acts_438 (by decide) ?_
      exact W.zret hx hb hr rfl (fun t ht _ => hend 0 _ o_6 _ _ (Or.inl rfl) hG h (w_tailP hP) (w_tailD hD) hS t ht) hS.2.2 dL_acts_439
    · replace h := h.2 hc
      refine lv_aload_n hx hb dL_acts_423 rfl (lv_at hl 2 rfl) ?_
      refine lv_iload hx hb dL_acts_424 (lv_at hl 3 rfl) ?_
      refine w_callK0 (pl := []) hP hD hS hA (va_runV (As := [.int x6]) (rest := []) ⟨hx, hb, hml, hown, hts⟩ (m_card l D cy H.size x Kc5 o_6 hG x6) (cwV 1 hts gL_acts_X8_card rfl rfl rfl (by decide +kernel) ⟨Nat.le_of_ble_eq_true rfl, Nat.le_of_ble_eq_true rfl⟩) (w_preVK (pl := []) (ci := 8) hE hS hA hK hP hD rfl rfl) rfl rfl hl.1 rfl (lv_room (Nat.le_of_ble_eq_true rfl)) dL_acts_426 ⟨Nat.le_of_ble_eq_true rfl, Nat.le_of_ble_eq_true rfl⟩) (fun r7 u H locs hw hP hD hS => ?_)
      obtain ⟨Kc8, rfl, hG, hr_⟩ := hw
      replace h := h r7 hr_
      clear hr_
      have hP : va_P D vwCl ([] ++ wK cy x Kc8) H := hP
      have hD : va_D A ([] ++ wK cy x Kc8) := hD
      refine lv_iload hx hb dL_acts_429 (lv_at hl 1 rfl) ?_
      refine lv_icmp_ne (tgt := 438) hx hb dL_acts_431 rfl (fun hc => ?_) (fun hc => ?_)
      · replace h := h.1 hc
        refine lv_iconst (v := 0) hx hb dL_acts_438 (by decide) ?_
        exact W.zret hx hb hr rfl (fun t ht _ => hend 0 _ o_6 _ _ (Or.inl rfl) hG h (w_tailP hP) (w_tailD hD) hS t ht) hS.2.2 dL_acts_439
      · replace h := h.2 hc
        refine lv_iconst (v := 1) hx hb dL_acts_434 (by decide) ?_
        refine lv_goto (tgt := 439) hx hb dL_acts_435 rfl ?_
        exact W.zret hx hb hr rfl (fun t ht _ => hend 1 _ o_6 _ _ (Or.inr rfl) hG h (w_tailP hP) (w_tailD hD) hS t ht) hS.2.2 dL_acts_439
  have j159 : ∀ (o : aO) (x4 : Int32) (k0 : Int32) (k1 : Int32), p_L_acts_159 o x4 k0 k1 Q → ∀ (K : sK), Good o K → ∀ (H : Heap) (locs : List Loc), va_P D vwCl ([] ++ wK cy x K) H → va_D A ([] ++ wK cy x K) → va_S A s.heap H locs → ∀ (ls : Array Slot), lv_has ls 9 [(0, .ref (x 0)), (4, .int x4)] → W p l e r_L_acts s m args below meth c H locs 0 0 (MQ below Qc args s 0 0 A) (F0 m 159 ls [.int k1, .int k0]) := by
    intro o x4 k0 k1 h K hG H locs hP hD hS ls hl
    unfold p_L_acts_159 at h
    refine lv_icmp_ne (tgt := 185) hx hb dL_acts_159 rfl (fun hc => ?_) (fun hc => ?_)
    · replace h := h.1 hc
      refine lv_iconst (v := 0) hx hb dL_acts_185 (by decide) ?_
      exact W.zret hx hb hr rfl (fun t ht _ => hend 0 _ o _ _ (Or.inl rfl) hG h (w_tailP hP) (w_tailD hD) hS t ht) hS.2.2 dL_acts_186
    · replace h := h.2 hc
      refine lv_iload hx hb dL_acts_162 (lv_at hl 1 rfl) ?_
      refine lv_bipush (v := 20) hx hb dL_acts_164 (by decide) ?_
      refine lv_icmp_eq (tgt := 181) hx hb dL_acts_166 rfl (fun hc => ?_) (fun hc => ?_)
      · replace h := h.1 hc
        refine lv_iconst (v := 1) hx hb dL_acts_181 (by decide) ?_
        refine lv_goto (tgt := 186) hx hb dL_acts_182 rfl ?_
        exact W.zret hx hb hr rfl (fun t ht _ => hend 1 _ o _ _ (Or.inr rfl) hG h (w_tailP hP) (w_tailD hD) hS t ht) hS.2.2 dL_acts_186
      · replace h := h.2 hc
        refine lv_aload_n hx hb dL_acts_169 rfl (lv_at hl 0 rfl) ?_
        refine lv_iload hx hb dL_acts_170 (lv_at hl 1 rfl) ?_
        refine lv_bipush (v := 6) hx hb dL_acts_172 (by decide) ?_
        refine w_callK0 (pl := []) hP hD hS hA (va_runV (As := [.int x4, .int 6]) (rest := []) ⟨hx, hb, hml, hown, hts⟩ (m_dish l D cy H.size x K o hG x4 6) (cwV 2 hts gL_acts_X8_dish rfl rfl rfl (by decide +kernel) ⟨Nat.le_of_ble_eq_true rfl, Nat.le_of_ble_eq_true rfl⟩) (w_preVK (pl := []) (ci := 8) hE hS hA hK hP hD rfl rfl) rfl rfl hl.1 rfl (lv_room (Nat.le_of_ble_eq_true rfl)) dL_acts_174 ⟨Nat.le_of_ble_eq_true rfl, Nat.le_of_ble_eq_true rfl⟩) (fun r10 u H locs hw hP hD hS => ?_)
        obtain ⟨Kc11, rfl, hG, hr_⟩ := hw
        replace h := h r10 hr_
        clear hr_
        have hP : va_P D vwCl ([] ++ wK cy x Kc11) H := hP
        have hD : va_D A ([] ++ wK cy x Kc11) := hD
        refine lv_iconst (v := 1) hx hb dL_acts_177 (by decide) ?_
        refine lv_icmp_ne (tgt := 185) hx hb dL_acts_178 rfl (fun hc => ?_) (fun hc => ?_)
        · replace h := h.1 hc
          refine lv_iconst (v := 0) hx hb dL_acts_185 (by decide) ?_
          exact W.zret hx hb hr rfl (fun t ht _ => hend 0 _ o _ _ (Or.inl rfl) hG h (w_tailP hP) (w_tailD hD) hS t ht) hS.2.2 dL_acts_186
        · replace h := h.2 hc
          refine lv_iconst (v := 1) hx hb dL_acts_181 (by decide) ?_
          refine lv_goto (tgt := 186) hx hb dL_acts_182 rfl ?_
          exact W.zret hx hb hr rfl (fun t ht _ => hend 1 _ o _ _ (Or.inr rfl) hG h (w_tailP hP) (w_tailD hD) hS t ht) hS.2.2 dL_acts_186
  have j128 : ∀ (o : aO) (x4 : Int32) (k1 : Int32) (k2 : Int32) (k3 : Int32) (k4 : Int32) (k5 : Int32), p_L_acts_128 a2 o x4 k1 k2 k3 k4 k5 Q → ∀ (K : sK), Good o K → ∀ (H : Heap) (locs : List Loc), va_P D vwCl ([] ++ wK cy x K) H → va_D A ([] ++ wK cy x K) → va_S A s.heap H locs → ∀ (ls : Array Slot), lv_has ls 9 [(0, .ref (x 0)), (2, .int a2), (4, .int x4)] → W p l e r_L_acts s m args below meth c H locs 0 0 (MQ below Qc args s 0 0 A) (F0 m 128 ls [.int k5, .int k4, .int k3, .int k2, .int k1, .ref (x 0)]) := by
    intro o x4 k1 k2 k3 k4 k5 h K hG H locs hP hD hS ls hl
    unfold p_L_acts_128 at h
    refine lv_iconst (v := 1) hx hb dL_acts_128 (by decide) ?_
    refine lv_iload_n hx hb dL_acts_129 rfl (lv_at hl 1 rfl) ?_
    refine lv_bipush (v := 10) hx hb dL_acts_130 (by decide) ?_
    refine lv_ishr hx hb dL_acts_132 ?_
    refine lv_iconst (v := 5) hx hb dL_acts_133 (by decide) ?_
    have hPc := hP.sub (ws' := []) [] rfl
    refine w_callR (va_runS (As := [.int (a2 >>> (10 &&& 31)), .int 5]) (rest := [.int 1, .int k5, .int k4, .int k3, .int k2, .int k1, .ref (x 0)]) ⟨hx, hb, hml, hown, hts⟩ (c_L_low l D cy H ((a2 >>> (10 &&& 31))) 5 _ h) (va_cwS 2 hts gL_acts_L_low rfl rfl rfl (by decide +kernel) ⟨Nat.le_of_ble_eq_true rfl, Nat.le_of_ble_eq_true rfl⟩) (w_preSN hK hPc) rfl rfl hl.1 rfl (lv_room (Nat.le_of_ble_eq_true rfl)) dL_acts_134 ⟨Nat.zero_le _, Nat.zero_le _⟩) hS (fun r13 locs h hS => ?_)
    try dsimp only at h
    refine lv_iadd hx hb dL_acts_137 ?_
    refine w_callK0 (pl := []) hP hD hS hA (va_runV (As := [.int k1, .int k2, .int k3, .int k4, .int k5, .int (1 + r13)]) (rest := []) ⟨hx, hb, hml, hown, hts⟩ (m_addDish l D cy H.size x K o hG k1 k2 k3 k4 k5 ((1 + r13))) (cwV 6 hts gL_acts_X8_addDish rfl rfl rfl (by decide +kernel) ⟨Nat.le_of_ble_eq_true rfl, Nat.le_of_ble_eq_true rfl⟩) (w_preVK (pl := []) (ci := 8) hE hS hA hK hP hD rfl rfl) rfl rfl hl.1 rfl (lv_room (Nat.le_of_ble_eq_true rfl)) dL_acts_138 ⟨Nat.le_of_ble_eq_true rfl, Nat.le_of_ble_eq_true rfl⟩) (fun r14 u H locs hw hP hD hS => ?_)
    obtain ⟨Kc15, o_16, rfl, hG, hr_⟩ := hw
    replace h := h r14 o_16 hr_
    clear hr_
    have hP : va_P D vwCl ([] ++ wK cy x Kc15) H := hP
    have hD : va_D A ([] ++ wK cy x Kc15) := hD
    refine lv_istore (lv' := [(6, .int r14), (0, .ref (x 0)), (2, .int a2), (4, .int x4)]) hx hb dL_acts_141 hl (by decide) rfl (fun ls hl => ?_)
    refine lv_iload hx hb dL_acts_143 (lv_at hl 0 rfl) ?_
    refine lv_iload hx hb dL_acts_145 (lv_at hl 3 rfl) ?_
    refine lv_bipush (v := 20) hx hb dL_acts_147 (by decide) ?_
    refine lv_icmp_ne (tgt := 157) hx hb dL_acts_149 rfl (fun hc => ?_) (fun hc => ?_)
    · replace h := h.1 hc
      refine lv_iload hx hb dL_acts_157 (lv_at hl 3 rfl) ?_
      exact j159 o_16 x4 r14 x4 h _ hG _ _ hP hD hS _ (lv_sub hl [1, 3] rfl)
    · replace h := h.2 hc
      refine lv_bipush (v := (-3)) hx hb dL_acts_152 (by decide) ?_
      refine lv_goto (tgt := 159) hx hb dL_acts_154 rfl ?_
      exact j159 o_16 x4 r14 ((-3)) h _ hG _ _ hP hD hS _ (lv_sub hl [1, 3] rfl)
  have j80 : ∀ (o : aO) (x4 : Int32) (k1 : Int32) (k2 : Int32) (k3 : Int32) (k4 : Int32) (k5 : Int32), p_L_acts_80 a2 o x4 k1 k2 k3 k4 k5 Q → ∀ (K : sK), Good o K → ∀ (H : Heap) (locs : List Loc), va_P D vwCl ([] ++ wK cy x K) H → va_D A ([] ++ wK cy x K) → va_S A s.heap H locs → ∀ (ls : Array Slot), lv_has ls 9 [(0, .ref (x 0)), (2, .int a2), (4, .int x4)] → W p l e r_L_acts s m args below meth c H locs 0 0 (MQ below Qc args s 0 0 A) (F0 m 80 ls [.int k5, .int k4, .int k3, .int k2, .int k1, .ref (x 0)]) := by
    intro o x4 k1 k2 k3 k4 k5 h K hG H locs hP hD hS ls hl
    unfold p_L_acts_80 at h
    have hPc := hP.sub (ws' := []) [] rfl
    refine w_callR (va_runS (As := [.int k4, .int k5]) (rest := [.int k3, .int k2, .int k1, .ref (x 0)]) ⟨hx, hb, hml, hown, hts⟩ (c_L_low l D cy H k4 k5 _ h) (va_cwS 2 hts gL_acts_L_low rfl rfl rfl (by decide +kernel) ⟨Nat.le_of_ble_eq_true rfl, Nat.le_of_ble_eq_true rfl⟩) (w_preSN hK hPc) rfl rfl hl.1 rfl (lv_room (Nat.le_of_ble_eq_true rfl)) dL_acts_80 ⟨Nat.zero_le _, Nat.zero_le _⟩) hS (fun r17 locs h hS => ?_)
    try dsimp only at h
    refine lv_iadd hx hb dL_acts_83 ?_
    refine lv_iconst (v := 1) hx hb dL_acts_84 (by decide) ?_
    refine lv_iload_n hx hb dL_acts_85 rfl (lv_at hl 1 rfl) ?_
    refine lv_bipush (v := 6) hx hb dL_acts_86 (by decide) ?_
    refine lv_ishr hx hb dL_acts_88 ?_
    refine lv_bipush (v := 15) hx hb dL_acts_89 (by decide) ?_
    have hPc := hP.sub (ws' := []) [] rfl
    refine w_callR (va_runS (As := [.int (a2 >>> (6 &&& 31)), .int 15]) (rest := [.int 1, .int (k3 + r17), .int k2, .int k1, .ref (x 0)]) ⟨hx, hb, hml, hown, hts⟩ (c_L_low l D cy H ((a2 >>> (6 &&& 31))) 15 _ h) (va_cwS 2 hts gL_acts_L_low rfl rfl rfl (by decide +kernel) ⟨Nat.le_of_ble_eq_true rfl, Nat.le_of_ble_eq_true rfl⟩) (w_preSN hK hPc) rfl rfl hl.1 rfl (lv_room (Nat.le_of_ble_eq_true rfl)) dL_acts_91 ⟨Nat.zero_le _, Nat.zero_le _⟩) hS (fun r18 locs h hS => ?_)
    try dsimp only at h
    refine lv_iadd hx hb dL_acts_94 ?_
    refine lv_iconst (v := 1) hx hb dL_acts_95 (by decide) ?_
    refine lv_aload_n hx hb dL_acts_96 rfl (lv_at hl 0 rfl) ?_
    refine lv_iconst (v := 0) hx hb dL_acts_97 (by decide) ?_
    refine w_callK0 (pl := []) hP hD hS hA (va_runV (As := [.int 0]) (rest := [.int 1, .int (1 + r18), .int (k3 + r17), .int k2, .int k1, .ref (x 0)]) ⟨hx, hb, hml, hown, hts⟩ (m_card l D cy H.size x K o hG 0) (cwV 1 hts gL_acts_X8_card rfl rfl rfl (by decide +kernel) ⟨Nat.le_of_ble_eq_true rfl, Nat.le_of_ble_eq_true rfl⟩) (w_preVK (pl := []) (ci := 8) hE hS hA hK hP hD rfl rfl) rfl rfl hl.1 rfl (lv_room (Nat.le_of_ble_eq_true rfl)) dL_acts_98 ⟨Nat.le_of_ble_eq_true rfl, Nat.le_of_ble_eq_true rfl⟩) (fun r19 u H locs hw hP hD hS => ?_)
    obtain ⟨Kc20, rfl, hG, hr_⟩ := hw
    replace h := h r19 hr_
    clear hr_
    have hP : va_P D vwCl ([] ++ wK cy x Kc20) H := hP
    have hD : va_D A ([] ++ wK cy x Kc20) := hD
    refine lv_ishl hx hb dL_acts_101 ?_
    refine lv_ior hx hb dL_acts_102 ?_
    refine lv_iload_n hx hb dL_acts_103 rfl (lv_at hl 1 rfl) ?_
    refine lv_bipush (v := 21) hx hb dL_acts_104 (by decide) ?_
    refine lv_ishr hx hb dL_acts_106 ?_
    refine lv_iconst (v := 2) hx hb dL_acts_107 (by decide) ?_
    have hPc := hP.sub (ws' := []) [] rfl
    refine w_callR (va_runS (As := [.int (a2 >>> (21 &&& 31)), .int 2]) (rest := [.int ((1 + r18) ||| ((1 : Int32) <<< (r19 &&& 31))), .int (k3 + r17), .int k2, .int k1, .ref (x 0)]) ⟨hx, hb, hml, hown, hts⟩ (c_L_low l D cy H ((a2 >>> (21 &&& 31))) 2 _ h) (va_cwS 2 hts gL_acts_L_low rfl rfl rfl (by decide +kernel) ⟨Nat.le_of_ble_eq_true rfl, Nat.le_of_ble_eq_true rfl⟩) (w_preSN hK hPc) rfl rfl hl.1 rfl (lv_room (Nat.le_of_ble_eq_true rfl)) dL_acts_108 ⟨Nat.zero_le _, Nat.zero_le _⟩) hS (fun r22 locs h hS => ?_)
    try dsimp only at h
    refine lv_if_ne (tgt := 118) hx hb dL_acts_111 rfl (fun hc => ?_) (fun hc => ?_)
    · replace h := h.1 hc
      refine lv_iload_n hx hb dL_acts_118 rfl (lv_at hl 1 rfl) ?_
      refine lv_bipush (v := 8) hx hb dL_acts_119 (by decide) ?_
      refine lv_ishr hx hb dL_acts_121 ?_
      refine lv_sipush (v := 256) hx hb dL_acts_122 (by decide) ?_
      have hPc := hP.sub (ws' := []) [] rfl
      refine w_callR (va_runS (As := [.int (a2 >>> (8 &&& 31)), .int 256]) (rest := [.int ((1 + r18) ||| ((1 : Int32) <<< (r19 &&& 31))), .int (k3 + r17), .int k2, .int k1, .ref (x 0)]) ⟨hx, hb, hml, hown, hts⟩ (c_L_low l D cy H ((a2 >>> (8 &&& 31))) 256 _ h) (va_cwS 2 hts gL_acts_L_low rfl rfl rfl (by decide +kernel) ⟨Nat.le_of_ble_eq_true rfl, Nat.le_of_ble_eq_true rfl⟩) (w_preSN hK hPc) rfl rfl hl.1 rfl (lv_room (Nat.le_of_ble_eq_true rfl)) dL_acts_125 ⟨Nat.zero_le _, Nat.zero_le _⟩) hS (fun r23 locs h hS => ?_)
      try dsimp only at h
      exact j128 o x4 k1 k2 ((k3 + r17)) (((1 + r18) ||| ((1 : Int32) <<< (r19 &&& 31)))) r23 h _ hG _ _ hP hD hS _ (lv_sub hl [0, 1, 2] rfl)
    · replace h := h.2 hc
      refine lv_iconst (v := 0) hx hb dL_acts_114 (by decide) ?_
      refine lv_goto (tgt := 128) hx hb dL_acts_115 rfl ?_
      exact j128 o x4 k1 k2 ((k3 + r17)) (((1 + r18) ||| ((1 : Int32) <<< (r19 &&& 31)))) 0 h _ hG _ _ hP hD hS _ (lv_sub hl [0, 1, 2] rfl)
  have j41 : ∀ (o : aO) (x4 : Int32), p_L_acts_41 a2 o x4 Q → ∀ (K : sK), Good o K → ∀ (H : Heap) (locs : List Loc), va_P D vwCl ([] ++ wK cy x K) H → va_D A ([] ++ wK cy x K) → va_S A s.heap H locs → ∀ (ls : Array Slot), lv_has ls 9 [(0, .ref (x 0)), (2, .int a2), (4, .int x4)] → W p l e r_L_acts s m args below meth c H locs 0 0 (MQ below Qc args s 0 0 A) (F0 m 41 ls []) := by
    intro o x4 h K hG H locs hP hD hS ls hl
    unfold p_L_acts_41 at h
    refine lv_aload_n hx hb dL_acts_41 rfl (lv_at hl 0 rfl) ?_
    refine lv_iload_n hx hb dL_acts_42 rfl (lv_at hl 1 rfl) ?_
    refine lv_iconst (v := 4) hx hb dL_acts_43 (by decide) ?_
    have hPc := hP.sub (ws' := []) [] rfl
    refine w_callR (va_runS (As := [.int a2, .int 4]) (rest := [.ref (x 0)]) ⟨hx, hb, hml, hown, hts⟩ (c_L_low l D cy H a2 4 _ h) (va_cwS 2 hts gL_acts_L_low rfl rfl rfl (by decide +kernel) ⟨Nat.le_of_ble_eq_true rfl, Nat.le_of_ble_eq_true rfl⟩) (w_preSN hK hPc) rfl rfl hl.1 rfl (lv_room (Nat.le_of_ble_eq_true rfl)) dL_acts_44 ⟨Nat.zero_le _, Nat.zero_le _⟩) hS (fun r24 locs h hS => ?_)
    try dsimp only at h
    refine lv_iconst (v := 1) hx hb dL_acts_47 (by decide) ?_
    refine lv_iload_n hx hb dL_acts_48 rfl (lv_at hl 1 rfl) ?_
    refine lv_iconst (v := 2) hx hb dL_acts_49 (by decide) ?_
    refine lv_ishr hx hb dL_acts_50 ?_
    refine lv_bipush (v := 60) hx hb dL_acts_51 (by decide) ?_
    have hPc := hP.sub (ws' := []) [] rfl
    refine w_callR (va_runS (As := [.int (a2 >>> (2 &&& 31)), .int 60]) (rest := [.int 1, .int r24, .ref (x 0)]) ⟨hx, hb, hml, hown, hts⟩ (c_L_low l D cy H ((a2 >>> (2 &&& 31))) 60 _ h) (va_cwS 2 hts gL_acts_L_low rfl rfl rfl (by decide +kernel) ⟨Nat.le_of_ble_eq_true rfl, Nat.le_of_ble_eq_true rfl⟩) (w_preSN hK hPc) rfl rfl hl.1 rfl (lv_room (Nat.le_of_ble_eq_true rfl)) dL_acts_53 ⟨Nat.zero_le _, Nat.zero_le _⟩) hS (fun r25 locs h hS => ?_)
    try dsimp only at h
    refine lv_iadd hx hb dL_acts_56 ?_
    refine lv_iconst (v := 1) hx hb dL_acts_57 (by decide) ?_
    refine lv_iload_n hx hb dL_acts_58 rfl (lv_at hl 1 rfl) ?_
    refine lv_iconst (v := 4) hx hb dL_acts_59 (by decide) ?_
    refine lv_ishr hx hb dL_acts_60 ?_
    refine lv_iload_n hx hb dL_acts_61 rfl (lv_at hl 1 rfl) ?_
    refine lv_bipush (v := 20) hx hb dL_acts_62 (by decide) ?_
    refine lv_ishr hx hb dL_acts_64 ?_
    refine lv_iconst (v := 2) hx hb dL_acts_65 (by decide) ?_
    have hPc := hP.sub (ws' := []) [] rfl
    refine w_callR (va_runS (As := [.int (a2 >>> (20 &&& 31)), .int 2]) (rest := [.int (a2 >>> (4 &&& 31)), .int 1, .int (1 + r25), .int r24, .ref (x 0)]) ⟨hx, hb, hml, hown, hts⟩ (c_L_low l D cy H ((a2 >>> (20 &&& 31))) 2 _ h) (va_cwS 2 hts gL_acts_L_low rfl rfl rfl (by decide +kernel) ⟨Nat.le_of_ble_eq_true rfl, Nat.le_of_ble_eq_true rfl⟩) (w_preSN hK hPc) rfl rfl hl.1 rfl (lv_room (Nat.le_of_ble_eq_true rfl)) dL_acts_66 ⟨Nat.zero_le _, Nat.zero_le _⟩) hS (fun r26 locs h hS => ?_)
    try dsimp only at h
    refine lv_if_ne (tgt := 78) hx hb dL_acts_69 rfl (fun hc => ?_) (fun hc => ?_)
    · replace h := h.1 hc
      refine lv_bipush (v := 99) hx hb dL_acts_78 (by decide) ?_
      exact j80 o x4 r24 ((1 + r25)) 1 ((a2 >>> (4 &&& 31))) 99 h _ hG _ _ hP hD hS _ (lv_sub hl [0, 1, 2] rfl)
    · replace h := h.2 hc
      refine lv_sipush (v := 9999) hx hb dL_acts_72 (by decide) ?_
      refine lv_goto (tgt := 80) hx hb dL_acts_75 rfl ?_
      exact j80 o x4 r24 ((1 + r25)) 1 ((a2 >>> (4 &&& 31))) 9999 h _ hG _ _ hP hD hS _ (lv_sub hl [0, 1, 2] rfl)
  have j29 : ∀ (o : aO) (x3 : Int32) (x4 : Int32) (k0 : Int32), p_L_acts_29 a1 a2 o x3 x4 k0 Q → ∀ (K : sK), Good o K → ∀ (H : Heap) (locs : List Loc), va_P D vwCl ([] ++ wK cy x K) H → va_D A ([] ++ wK cy x K) → va_S A s.heap H locs → ∀ (ls : Array Slot), lv_has ls 9 [(0, .ref (x 0)), (1, .int a1), (2, .int a2), (3, .int x3), (4, .int x4)] → W p l e r_L_acts s m args below meth c H locs 0 0 (MQ below Qc args s 0 0 A) (F0 m 29 ls [.int k0]) := by
    intro o x3 x4 k0 h K hG H locs hP hD hS ls hl
    unfold p_L_acts_29 at h
    refine lv_istore (lv' := [(5, .int k0), (0, .ref (x 0)), (1, .int a1), (2, .int a2), (3, .int x3), (4, .int x4)]) hx hb dL_acts_29 hl (by decide) rfl (fun ls hl => ?_)
    refine lv_iload_n hx hb dL_acts_31 rfl (lv_at hl 4 rfl) ?_
    refine lv_iconst (v := 5) hx hb dL_acts_32 (by decide) ?_
    refine lv_icmp_lt (tgt := 41) hx hb dL_acts_33 rfl (fun hc => ?_) (fun hc => ?_)
    · replace h := h.1 hc
      exact j41 o x4 h _ hG _ _ hP hD hS _ (lv_sub hl [1, 3, 5] rfl)
    · replace h := h.2 hc
      refine lv_iload hx hb dL_acts_36 (lv_at hl 5 rfl) ?_
      refine lv_if_ne (tgt := 187) hx hb dL_acts_38 rfl (fun hc => ?_) (fun hc => ?_)
      · replace h := h.1 hc
        refine lv_iload_n hx hb dL_acts_187 rfl (lv_at hl 4 rfl) ?_
        refine lv_iconst (v := 5) hx hb dL_acts_188 (by decide) ?_
        refine lv_icmp_ne (tgt := 250) hx hb dL_acts_189 rfl (fun hc => ?_) (fun hc => ?_)
        · replace h := h.1 hc
          refine lv_iload_n hx hb dL_acts_250 rfl (lv_at hl 4 rfl) ?_
          refine lv_bipush (v := 6) hx hb dL_acts_251 (by decide) ?_
          refine lv_icmp_ne (tgt := 310) hx hb dL_acts_253 rfl (fun hc => ?_) (fun hc => ?_)
          · replace h := h.1 hc
            refine lv_iload_n hx hb dL_acts_310 rfl (lv_at hl 4 rfl) ?_
            refine lv_bipush (v := 9) hx hb dL_acts_311 (by decide) ?_
            refine lv_icmp_ge (tgt := 440) hx hb dL_acts_313 rfl (fun hc => ?_) (fun hc => ?_)
            · replace h := h.1 hc
              refine lv_iload_n hx hb dL_acts_440 rfl (lv_at hl 4 rfl) ?_
              refine lv_bipush (v := 9) hx hb dL_acts_441 (by decide) ?_
              refine lv_icmp_ne (tgt := 507) hx hb dL_acts_443 rfl (fun hc => ?_) (fun hc => ?_)
              · replace h := h.1 hc
                refine lv_iload_n hx hb dL_acts_507 rfl (lv_at hl 4 rfl) ?_
                refine lv_bipush (v := 10) hx hb dL_acts_508 (by decide) ?_
                refine lv_icmp_ne (tgt := 576) hx hb dL_acts_510 rfl (fun hc => ?_) (fun hc => ?_)
                · replace h := h.1 hc
                  refine lv_aload_n hx hb dL_acts_576 rfl (lv_at hl 1 rfl) ?_
                  refine lv_iload_n hx hb dL_acts_577 rfl (lv_at hl 3 rfl) ?_
                  refine w_callK0 (pl := []) hP hD hS hA (va_runS (As := [.ref (x 0), .int a2]) (rest := []) ⟨hx, hb, hml, hown, hts⟩ (c_L_arranges l D cy H.size x K o hG a2 _ h) (va_cwS 2 hts gL_acts_L_arranges rfl rfl rfl (by decide +kernel) ⟨Nat.le_of_ble_eq_true rfl, Nat.le_of_ble_eq_true rfl⟩) (w_preSK (pl := []) hE hS hA hK hP hD) rfl rfl hl.1 rfl (lv_room (Nat.le_of_ble_eq_true rfl)) dL_acts_578 ⟨Nat.le_of_ble_eq_true rfl, Nat.le_of_ble_eq_true rfl⟩) (fun r27 u H locs hw hP hD hS => ?_)
                  obtain ⟨z_r27, Kc28, o_29, rfl, hG, h⟩ := hw
                  try dsimp only at h
                  have hP : va_P D vwCl ([] ++ wK cy x Kc28) H := hP
                  have hD : va_D A ([] ++ wK cy x Kc28) := hD
                  exact W.zret hx hb hr (w_bool z_r27) (fun t ht _ => hend r27 _ o_29 _ _ z_r27 hG h (w_tailP hP) (w_tailD hD) hS t ht) hS.2.2 dL_acts_581
                · replace h := h.2 hc
                  refine lv_iload_n hx hb dL_acts_513 rfl (lv_at hl 3 rfl) ?_
                  refine lv_iconst (v := 2) hx hb dL_acts_514 (by decide) ?_
                  have hPc := hP.sub (ws' := []) [] rfl
                  refine w_callR (va_runS (As := [.int a2, .int 2]) (rest := []) ⟨hx, hb, hml, hown, hts⟩ (c_L_low l D cy H a2 2 _ h) (va_cwS 2 hts gL_acts_L_low rfl rfl rfl (by decide +kernel) ⟨Nat.le_of_ble_eq_true rfl, Nat.le_of_ble_eq_true rfl⟩) (w_preSN hK hPc) rfl rfl hl.1 rfl (lv_room (Nat.le_of_ble_eq_true rfl)) dL_acts_515 ⟨Nat.zero_le _, Nat.zero_le _⟩) hS (fun r30 locs h hS => ?_)
                  try dsimp only at h
                  refine lv_istore (lv' := [(6, .int r30), (5, .int k0), (0, .ref (x 0)), (1, .int a1), (2, .int a2), (3, .int x3), (4, .int x4)]) hx hb dL_acts_518 hl (by decide) rfl (fun ls hl => ?_)
                  refine lv_aload_n hx hb dL_acts_520 rfl (lv_at hl 2 rfl) ?_
                  refine lv_iconst (v := 1) hx hb dL_acts_521 (by decide) ?_
                  refine w_callK0 (pl := []) hP hD hS hA (va_runV (As := [.int 1]) (rest := []) ⟨hx, hb, hml, hown, hts⟩ (m_count l D cy H.size x K o hG 1) (cwV 1 hts gL_acts_X8_count rfl rfl rfl (by decide +kernel) ⟨Nat.le_of_ble_eq_true rfl, Nat.le_of_ble_eq_true rfl⟩) (w_preVK (pl := []) (ci := 8) hE hS hA hK hP hD rfl rfl) rfl rfl hl.1 rfl (lv_room (Nat.le_of_ble_eq_true rfl)) dL_acts_522 ⟨Nat.le_of_ble_eq_true rfl, Nat.le_of_ble_eq_true rfl⟩) (fun r31 u H locs hw hP hD hS => ?_)
                  obtain ⟨Kc32, rfl, hG, hr_⟩ := hw
                  replace h := h r31 hr_
                  clear hr_
                  have hP : va_P D vwCl ([] ++ wK cy x Kc32) H := hP
                  have hD : va_D A ([] ++ wK cy x Kc32) := hD
                  refine lv_istore (lv' := [(7, .int r31), (6, .int r30), (5, .int k0), (0, .ref (x 0)), (1, .int a1), (2, .int a2), (3, .int x3), (4, .int x4)]) hx hb dL_acts_525 hl (by decide) rfl (fun ls hl => ?_)
                  refine lv_aload_n hx hb dL_acts_527 rfl (lv_at hl 3 rfl) ?_
                  refine lv_iload hx hb dL_acts_528 (lv_at hl 1 rfl) ?_
                  refine w_callK0 (pl := []) hP hD hS hA (va_runV (As := [.int r30]) (rest := []) ⟨hx, hb, hml, hown, hts⟩ (m_take l D cy H.size x Kc32 o hG r30) (cwV 1 hts gL_acts_X8_take rfl rfl rfl (by decide +kernel) ⟨Nat.le_of_ble_eq_true rfl, Nat.le_of_ble_eq_true rfl⟩) (w_preVK (pl := []) (ci := 8) hE hS hA hK hP hD rfl rfl) rfl rfl hl.1 rfl (lv_room (Nat.le_of_ble_eq_true rfl)) dL_acts_530 ⟨Nat.le_of_ble_eq_true rfl, Nat.le_of_ble_eq_true rfl⟩) (fun r34 u H locs hw hP hD hS => ?_)
                  obtain ⟨Kc35, o_36, rfl, hG, hr_⟩ := hw
                  replace h := h r34 o_36 hr_
                  clear hr_
                  have hP : va_P D vwCl ([] ++ wK cy x Kc35) H := hP
                  have hD : va_D A ([] ++ wK cy x Kc35) := hD
                  refine lv_iload hx hb dL_acts_533 (lv_at hl 0 rfl) ?_
                  refine lv_icmp_ne (tgt := 574) hx hb dL_acts_535 rfl (fun hc => ?_) (fun hc => ?_)
                  · replace h := h.1 hc
                    refine lv_iconst (v := 0) hx hb dL_acts_574 (by decide) ?_
                    exact W.zret hx hb hr rfl (fun t ht _ => hend 0 _ o_36 _ _ (Or.inl rfl) hG h (w_tailP hP) (w_tailD hD) hS t ht) hS.2.2 dL_acts_575
                  · replace h := h.2 hc
                    refine lv_aload_n hx hb dL_acts_538 rfl (lv_at hl 3 rfl) ?_
                    refine lv_iconst (v := 5) hx hb dL_acts_539 (by decide) ?_
                    refine lv_sipush (v := 255) hx hb dL_acts_540 (by decide) ?_
                    refine w_callK0 (pl := []) hP hD hS hA (va_runV (As := [.int 5, .int 255]) (rest := []) ⟨hx, hb, hml, hown, hts⟩ (m_setCard l D cy H.size x Kc35 o_36 hG 5 255) (cwV 2 hts gL_acts_X8_setCard rfl rfl rfl (by decide +kernel) ⟨Nat.le_of_ble_eq_true rfl, Nat.le_of_ble_eq_true rfl⟩) (w_preVK (pl := []) (ci := 8) hE hS hA hK hP hD rfl rfl) rfl rfl hl.1 rfl (lv_room (Nat.le_of_ble_eq_true rfl)) dL_acts_543 ⟨Nat.le_of_ble_eq_true rfl, Nat.le_of_ble_eq_true rfl⟩) (fun r37 u H locs hw hP hD hS => ?_)
                    obtain ⟨Kc38, o_39, rfl, hG, hr_⟩ := hw
                    replace h := h r37 o_39 hr_
                    clear hr_
                    have hP : va_P D vwCl ([] ++ wK cy x Kc38) H := hP
                    have hD : va_D A ([] ++ wK cy x Kc38) := hD
                    refine lv_if_lt (tgt := 574) hx hb dL_acts_546 rfl (fun hc => ?_) (fun hc => ?_)
                    · replace h := h.1 hc
                      refine lv_iconst (v := 0) hx hb dL_acts_574 (by decide) ?_
                      exact W.zret hx hb hr rfl (fun t ht _ => hend 0 _ o_39 _ _ (Or.inl rfl) hG h (w_tailP hP) (w_tailD hD) hS t ht) hS.2.2 dL_acts_575
                    · replace h := h.2 hc
                      refine lv_aload_n hx hb dL_acts_549 rfl (lv_at hl 3 rfl) ?_
                      refine lv_iload hx hb dL_acts_550 (lv_at hl 1 rfl) ?_
                      refine w_callK0 (pl := []) hP hD hS hA (va_runV (As := [.int r30]) (rest := []) ⟨hx, hb, hml, hown, hts⟩ (m_restore l D cy H.size x Kc38 o_39 hG r30) (cwV 1 hts gL_acts_X8_restore rfl rfl rfl (by decide +kernel) ⟨Nat.le_of_ble_eq_true rfl, Nat.le_of_ble_eq_true rfl⟩) (w_preVK (pl := []) (ci := 8) hE hS hA hK hP hD rfl rfl) rfl rfl hl.1 rfl (lv_room (Nat.le_of_ble_eq_true rfl)) dL_acts_552 ⟨Nat.le_of_ble_eq_true rfl, Nat.le_of_ble_eq_true rfl⟩) (fun r40 u H locs hw hP hD hS => ?_)
                      obtain ⟨Kc41, o_42, rfl, hG, hr_⟩ := hw
                      replace h := h r40 o_42 hr_
                      clear hr_
                      have hP : va_P D vwCl ([] ++ wK cy x Kc41) H := hP
                      have hD : va_D A ([] ++ wK cy x Kc41) := hD
                      refine lv_iload hx hb dL_acts_555 (lv_at hl 0 rfl) ?_
                      refine lv_icmp_ne (tgt := 574) hx hb dL_acts_557 rfl (fun hc => ?_) (fun hc => ?_)
                      · replace h := h.1 hc
                        refine lv_iconst (v := 0) hx hb dL_acts_574 (by decide) ?_
                        exact W.zret hx hb hr rfl (fun t ht _ => hend 0 _ o_42 _ _ (Or.inl rfl) hG h (w_tailP hP) (w_tailD hD) hS t ht) hS.2.2 dL_acts_575
                      · replace h := h.2 hc
                        refine lv_aload_n hx hb dL_acts_560 rfl (lv_at hl 3 rfl) ?_
                        refine lv_iconst (v := 1) hx hb dL_acts_561 (by decide) ?_
                        refine w_callK0 (pl := []) hP hD hS hA (va_runV (As := [.int 1]) (rest := []) ⟨hx, hb, hml, hown, hts⟩ (m_count l D cy H.size x Kc41 o_42 hG 1) (cwV 1 hts gL_acts_X8_count rfl rfl rfl (by decide +kernel) ⟨Nat.le_of_ble_eq_true rfl, Nat.le_of_ble_eq_true rfl⟩) (w_preVK (pl := []) (ci := 8) hE hS hA hK hP hD rfl rfl) rfl rfl hl.1 rfl (lv_room (Nat.le_of_ble_eq_true rfl)) dL_acts_562 ⟨Nat.le_of_ble_eq_true rfl, Nat.le_of_ble_eq_true rfl⟩) (fun r43 u H locs hw hP hD hS => ?_)
                        obtain ⟨Kc44, rfl, hG, hr_⟩ := hw
                        replace h := h r43 hr_
                        clear hr_
                        have hP : va_P D vwCl ([] ++ wK cy x Kc44) H := hP
                        have hD : va_D A ([] ++ wK cy x Kc44) := hD
                        refine lv_iload hx hb dL_acts_565 (lv_at hl 0 rfl) ?_
                        refine lv_icmp_ne (tgt := 574) hx hb dL_acts_567 rfl (fun hc => ?_) (fun hc => ?_)
                        · replace h := h.1 hc
                          refine lv_iconst (v := 0) hx hb dL_acts_574 (by decide) ?_
                          exact W.zret hx hb hr rfl (fun t ht _ => hend 0 _ o_42 _ _ (Or.inl rfl) hG h (w_tailP hP) (w_tailD hD) hS t ht) hS.2.2 dL_acts_575
                        · replace h := h.2 hc
                          refine lv_iconst (v := 1) hx hb dL_acts_570 (by decide) ?_
                          refine lv_goto (tgt := 575) hx hb dL_acts_571 rfl ?_
                          exact W.zret hx hb hr rfl (fun t ht _ => hend 1 _ o_42 _ _ (Or.inr rfl) hG h (w_tailP hP) (w_tailD hD) hS t ht) hS.2.2 dL_acts_575
              · replace h := h.2 hc
                refine lv_iload_n hx hb dL_acts_446 rfl (lv_at hl 3 rfl) ?_
                refine lv_iconst (v := 4) hx hb dL_acts_447 (by decide) ?_
                have hPc := hP.sub (ws' := []) [] rfl
                refine w_callR (va_runS (As := [.int a2, .int 4]) (rest := []) ⟨hx, hb, hml, hown, hts⟩ (c_L_low l D cy H a2 4 _ h) (va_cwS 2 hts gL_acts_L_low rfl rfl rfl (by decide +kernel) ⟨Nat.le_of_ble_eq_true rfl, Nat.le_of_ble_eq_true rfl⟩) (w_preSN hK hPc) rfl rfl hl.1 rfl (lv_room (Nat.le_of_ble_eq_true rfl)) dL_acts_448 ⟨Nat.zero_le _, Nat.zero_le _⟩) hS (fun r46 locs h hS => ?_)
                try dsimp only at h
                refine lv_istore (lv' := [(6, .int r46), (5, .int k0), (0, .ref (x 0)), (1, .int a1), (2, .int a2), (3, .int x3), (4, .int x4)]) hx hb dL_acts_451 hl (by decide) rfl (fun ls hl => ?_)
                refine lv_aload_n hx hb dL_acts_453 rfl (lv_at hl 2 rfl) ?_
                refine lv_bipush (v := 6) hx hb dL_acts_454 (by decide) ?_
                refine lv_iload hx hb dL_acts_456 (lv_at hl 0 rfl) ?_
                refine lv_iadd hx hb dL_acts_458 ?_
                refine w_callK0 (pl := []) hP hD hS hA (va_runV (As := [.int (6 + r46)]) (rest := []) ⟨hx, hb, hml, hown, hts⟩ (m_card l D cy H.size x K o hG ((6 + r46))) (cwV 1 hts gL_acts_X8_card rfl rfl rfl (by decide +kernel) ⟨Nat.le_of_ble_eq_true rfl, Nat.le_of_ble_eq_true rfl⟩) (w_preVK (pl := []) (ci := 8) hE hS hA hK hP hD rfl rfl) rfl rfl hl.1 rfl (lv_room (Nat.le_of_ble_eq_true rfl)) dL_acts_459 ⟨Nat.le_of_ble_eq_true rfl, Nat.le_of_ble_eq_true rfl⟩) (fun r47 u H locs hw hP hD hS => ?_)
                obtain ⟨Kc48, rfl, hG, hr_⟩ := hw
                replace h := h r47 hr_
                clear hr_
                have hP : va_P D vwCl ([] ++ wK cy x Kc48) H := hP
                have hD : va_D A ([] ++ wK cy x Kc48) := hD
                refine lv_istore (lv' := [(7, .int r47), (6, .int r46), (5, .int k0), (0, .ref (x 0)), (1, .int a1), (2, .int a2), (3, .int x3), (4, .int x4)]) hx hb dL_acts_462 hl (by decide) rfl (fun ls hl => ?_)
                refine lv_aload_n hx hb dL_acts_464 rfl (lv_at hl 3 rfl) ?_
                refine lv_iload hx hb dL_acts_465 (lv_at hl 1 rfl) ?_
                refine lv_iload_n hx hb dL_acts_467 rfl (lv_at hl 5 rfl) ?_
                refine lv_iconst (v := 2) hx hb dL_acts_468 (by decide) ?_
                refine lv_ishr hx hb dL_acts_469 ?_
                refine lv_iconst (v := 2) hx hb dL_acts_470 (by decide) ?_
                have hPc := hP.sub (ws' := []) [] rfl
                refine w_callR (va_runS (As := [.int (a2 >>> (2 &&& 31)), .int 2]) (rest := [.int r46, .ref (x 0)]) ⟨hx, hb, hml, hown, hts⟩ (c_L_low l D cy H ((a2 >>> (2 &&& 31))) 2 _ h) (va_cwS 2 hts gL_acts_L_low rfl rfl rfl (by decide +kernel) ⟨Nat.le_of_ble_eq_true rfl, Nat.le_of_ble_eq_true rfl⟩) (w_preSN hK hPc) rfl rfl hl.1 rfl (lv_room (Nat.le_of_ble_eq_true rfl)) dL_acts_471 ⟨Nat.zero_le _, Nat.zero_le _⟩) hS (fun r50 locs h hS => ?_)
                try dsimp only at h
                refine w_callK0 (pl := []) hP hD hS hA (va_runV (As := [.int r46, .int r50]) (rest := []) ⟨hx, hb, hml, hown, hts⟩ (m_setSide l D cy H.size x Kc48 o hG r46 r50) (cwV 2 hts gL_acts_X8_setSide rfl rfl rfl (by decide +kernel) ⟨Nat.le_of_ble_eq_true rfl, Nat.le_of_ble_eq_true rfl⟩) (w_preVK (pl := []) (ci := 8) hE hS hA hK hP hD rfl rfl) rfl rfl hl.1 rfl (lv_room (Nat.le_of_ble_eq_true rfl)) dL_acts_474 ⟨Nat.le_of_ble_eq_true rfl, Nat.le_of_ble_eq_true rfl⟩) (fun r51 u H locs hw hP hD hS => ?_)
                obtain ⟨Kc52, o_53, rfl, hG, hr_⟩ := hw
                replace h := h r51 o_53 hr_
                clear hr_
                have hP : va_P D vwCl ([] ++ wK cy x Kc52) H := hP
                have hD : va_D A ([] ++ wK cy x Kc52) := hD
                refine lv_iload hx hb dL_acts_477 (lv_at hl 0 rfl) ?_
                refine lv_icmp_ne (tgt := 505) hx hb dL_acts_479 rfl (fun hc => ?_) (fun hc => ?_)
                · replace h := h.1 hc
                  refine lv_iconst (v := 0) hx hb dL_acts_505 (by decide) ?_
                  exact W.zret hx hb hr rfl (fun t ht _ => hend 0 _ o_53 _ _ (Or.inl rfl) hG h (w_tailP hP) (w_tailD hD) hS t ht) hS.2.2 dL_acts_506
                · replace h := h.2 hc
                  refine lv_aload_n hx hb dL_acts_482 rfl (lv_at hl 3 rfl) ?_
                  refine lv_bipush (v := 6) hx hb dL_acts_483 (by decide) ?_
                  refine lv_iload hx hb dL_acts_485 (lv_at hl 1 rfl) ?_
                  refine lv_iadd hx hb dL_acts_487 ?_
                  refine w_callK0 (pl := []) hP hD hS hA (va_runV (As := [.int (6 + r46)]) (rest := []) ⟨hx, hb, hml, hown, hts⟩ (m_card l D cy H.size x Kc52 o_53 hG ((6 + r46))) (cwV 1 hts gL_acts_X8_card rfl rfl rfl (by decide +kernel) ⟨Nat.le_of_ble_eq_true rfl, Nat.le_of_ble_eq_true rfl⟩) (w_preVK (pl := []) (ci := 8) hE hS hA hK hP hD rfl rfl) rfl rfl hl.1 rfl (lv_room (Nat.le_of_ble_eq_true rfl)) dL_acts_488 ⟨Nat.le_of_ble_eq_true rfl, Nat.le_of_ble_eq_true rfl⟩) (fun r54 u H locs hw hP hD hS => ?_)
                  obtain ⟨Kc55, rfl, hG, hr_⟩ := hw
                  replace h := h r54 hr_
                  clear hr_
                  have hP : va_P D vwCl ([] ++ wK cy x Kc55) H := hP
                  have hD : va_D A ([] ++ wK cy x Kc55) := hD
                  refine lv_iload_n hx hb dL_acts_491 rfl (lv_at hl 5 rfl) ?_
                  refine lv_iconst (v := 2) hx hb dL_acts_492 (by decide) ?_
                  refine lv_ishr hx hb dL_acts_493 ?_
                  refine lv_iconst (v := 2) hx hb dL_acts_494 (by decide) ?_
                  have hPc := hP.sub (ws' := []) [] rfl
                  refine w_callR (va_runS (As := [.int (a2 >>> (2 &&& 31)), .int 2]) (rest := [.int r54]) ⟨hx, hb, hml, hown, hts⟩ (c_L_low l D cy H ((a2 >>> (2 &&& 31))) 2 _ h) (va_cwS 2 hts gL_acts_L_low rfl rfl rfl (by decide +kernel) ⟨Nat.le_of_ble_eq_true rfl, Nat.le_of_ble_eq_true rfl⟩) (w_preSN hK hPc) rfl rfl hl.1 rfl (lv_room (Nat.le_of_ble_eq_true rfl)) dL_acts_495 ⟨Nat.zero_le _, Nat.zero_le _⟩) hS (fun r57 locs h hS => ?_)
                  try dsimp only at h
                  refine lv_icmp_ne (tgt := 505) hx hb dL_acts_498 rfl (fun hc => ?_) (fun hc => ?_)
                  · replace h := h.1 hc
                    refine lv_iconst (v := 0) hx hb dL_acts_505 (by decide) ?_
                    exact W.zret hx hb hr rfl (fun t ht _ => hend 0 _ o_53 _ _ (Or.inl rfl) hG h (w_tailP hP) (w_tailD hD) hS t ht) hS.2.2 dL_acts_506
                  · replace h := h.2 hc
                    refine lv_iconst (v := 1) hx hb dL_acts_501 (by decide) ?_
                    refine lv_goto (tgt := 506) hx hb dL_acts_502 rfl ?_
                    exact W.zret hx hb hr rfl (fun t ht _ => hend 1 _ o_53 _ _ (Or.inr rfl) hG h (w_tailP hP) (w_tailD hD) hS t ht) hS.2.2 dL_acts_506
            · replace h := h.2 hc
              refine lv_iload_n hx hb dL_acts_316 rfl (lv_at hl 3 rfl) ?_
              refine lv_iconst (v := 5) hx hb dL_acts_317 (by decide) ?_
              have hPc := hP.sub (ws' := []) [] rfl
              refine w_callR (va_runS (As := [.int a2, .int 5]) (rest := []) ⟨hx, hb, hml, hown, hts⟩ (c_L_low l D cy H a2 5 _ h) (va_cwS 2 hts gL_acts_L_low rfl rfl rfl (by decide +kernel) ⟨Nat.le_of_ble_eq_true rfl, Nat.le_of_ble_eq_true rfl⟩) (w_preSN hK hPc) rfl rfl hl.1 rfl (lv_room (Nat.le_of_ble_eq_true rfl)) dL_acts_318 ⟨Nat.zero_le _, Nat.zero_le _⟩) hS (fun r58 locs h hS => ?_)
              try dsimp only at h
              refine lv_istore (lv' := [(6, .int r58), (5, .int k0), (0, .ref (x 0)), (1, .int a1), (2, .int a2), (3, .int x3), (4, .int x4)]) hx hb dL_acts_321 hl (by decide) rfl (fun ls hl => ?_)
              refine lv_iload hx hb dL_acts_323 (lv_at hl 0 rfl) ?_
              refine lv_if_ne (tgt := 338) hx hb dL_acts_325 rfl (fun hc => ?_) (fun hc => ?_)
              · replace h := h.1 hc
                refine lv_iload hx hb dL_acts_338 (lv_at hl 0 rfl) ?_
                refine lv_iconst (v := 1) hx hb dL_acts_340 (by decide) ?_
                refine lv_icmp_ne (tgt := 358) hx hb dL_acts_341 rfl (fun hc => ?_) (fun hc => ?_)
                · replace h := h.1 hc
                  refine lv_iload hx hb dL_acts_358 (lv_at hl 0 rfl) ?_
                  refine lv_iconst (v := 2) hx hb dL_acts_360 (by decide) ?_
                  refine lv_icmp_ne (tgt := 377) hx hb dL_acts_361 rfl (fun hc => ?_) (fun hc => ?_)
                  · replace h := h.1 hc
                    refine lv_iload hx hb dL_acts_377 (lv_at hl 0 rfl) ?_
                    refine lv_iconst (v := 3) hx hb dL_acts_379 (by decide) ?_
                    refine lv_icmp_ne (tgt := 393) hx hb dL_acts_380 rfl (fun hc => ?_) (fun hc => ?_)
                    · replace h := h.1 hc
                      refine lv_iload_n hx hb dL_acts_393 rfl (lv_at hl 4 rfl) ?_
                      refine lv_iconst (v := 3) hx hb dL_acts_394 (by decide) ?_
                      refine lv_ishr hx hb dL_acts_395 ?_
                      refine lv_iconst (v := 4) hx hb dL_acts_396 (by decide) ?_
                      have hPc := hP.sub (ws' := []) [] rfl
                      refine w_callR (va_runS (As := [.int (a2 >>> (3 &&& 31)), .int 4]) (rest := []) ⟨hx, hb, hml, hown, hts⟩ (c_L_low l D cy H ((a2 >>> (3 &&& 31))) 4 _ h) (va_cwS 2 hts gL_acts_L_low rfl rfl rfl (by decide +kernel) ⟨Nat.le_of_ble_eq_true rfl, Nat.le_of_ble_eq_true rfl⟩) (w_preSN hK hPc) rfl rfl hl.1 rfl (lv_room (Nat.le_of_ble_eq_true rfl)) dL_acts_397 ⟨Nat.zero_le _, Nat.zero_le _⟩) hS (fun r59 locs h hS => ?_)
                      try dsimp only at h
                      exact j400 o r58 r59 h _ hG _ _ hP hD hS _ (lv_sub hl [2, 0] rfl)
                    · replace h := h.2 hc
                      refine lv_iload_n hx hb dL_acts_383 rfl (lv_at hl 4 rfl) ?_
                      refine lv_iconst (v := 3) hx hb dL_acts_384 (by decide) ?_
                      refine lv_ishr hx hb dL_acts_385 ?_
                      refine lv_iconst (v := 3) hx hb dL_acts_386 (by decide) ?_
                      have hPc := hP.sub (ws' := []) [] rfl
                      refine w_callR (va_runS (As := [.int (a2 >>> (3 &&& 31)), .int 3]) (rest := []) ⟨hx, hb, hml, hown, hts⟩ (c_L_low l D cy H ((a2 >>> (3 &&& 31))) 3 _ h) (va_cwS 2 hts gL_acts_L_low rfl rfl rfl (by decide +kernel) ⟨Nat.le_of_ble_eq_true rfl, Nat.le_of_ble_eq_true rfl⟩) (w_preSN hK hPc) rfl rfl hl.1 rfl (lv_room (Nat.le_of_ble_eq_true rfl)) dL_acts_387 ⟨Nat.zero_le _, Nat.zero_le _⟩) hS (fun r60 locs h hS => ?_)
                      try dsimp only at h
                      refine lv_goto (tgt := 400) hx hb dL_acts_390 rfl ?_
                      exact j400 o r58 r60 h _ hG _ _ hP hD hS _ (lv_sub hl [2, 0] rfl)
                  · replace h := h.2 hc
                    refine lv_iconst (v := 1) hx hb dL_acts_364 (by decide) ?_
                    refine lv_iload_n hx hb dL_acts_365 rfl (lv_at hl 4 rfl) ?_
                    refine lv_iconst (v := 3) hx hb dL_acts_366 (by decide) ?_
                    refine lv_ishr hx hb dL_acts_367 ?_
                    refine lv_bipush (v := 9) hx hb dL_acts_368 (by decide) ?_
                    have hPc := hP.sub (ws' := []) [] rfl
                    refine w_callR (va_runS (As := [.int (a2 >>> (3 &&& 31)), .int 9]) (rest := [.int 1]) ⟨hx, hb, hml, hown, hts⟩ (c_L_low l D cy H ((a2 >>> (3 &&& 31))) 9 _ h) (va_cwS 2 hts gL_acts_L_low rfl rfl rfl (by decide +kernel) ⟨Nat.le_of_ble_eq_true rfl, Nat.le_of_ble_eq_true rfl⟩) (w_preSN hK hPc) rfl rfl hl.1 rfl (lv_room (Nat.le_of_ble_eq_true rfl)) dL_acts_370 ⟨Nat.zero_le _, Nat.zero_le _⟩) hS (fun r61 locs h hS => ?_)
                    try dsimp only at h
                    refine lv_iadd hx hb dL_acts_373 ?_
                    refine lv_goto (tgt := 400) hx hb dL_acts_374 rfl ?_
                    exact j400 o r58 ((1 + r61)) h _ hG _ _ hP hD hS _ (lv_sub hl [2, 0] rfl)
                · replace h := h.2 hc
                  refine lv_bipush (v := 20) hx hb dL_acts_344 (by decide) ?_
                  refine lv_iload_n hx hb dL_acts_346 rfl (lv_at hl 4 rfl) ?_
                  refine lv_iconst (v := 3) hx hb dL_acts_347 (by decide) ?_
                  refine lv_ishr hx hb dL_acts_348 ?_
                  refine lv_bipush (v := 41) hx hb dL_acts_349 (by decide) ?_
                  have hPc := hP.sub (ws' := []) [] rfl
                  refine w_callR (va_runS (As := [.int (a2 >>> (3 &&& 31)), .int 41]) (rest := [.int 20]) ⟨hx, hb, hml, hown, hts⟩ (c_L_low l D cy H ((a2 >>> (3 &&& 31))) 41 _ h) (va_cwS 2 hts gL_acts_L_low rfl rfl rfl (by decide +kernel) ⟨Nat.le_of_ble_eq_true rfl, Nat.le_of_ble_eq_true rfl⟩) (w_preSN hK hPc) rfl rfl hl.1 rfl (lv_room (Nat.le_of_ble_eq_true rfl)) dL_acts_351 ⟨Nat.zero_le _, Nat.zero_le _⟩) hS (fun r62 locs h hS => ?_)
                  try dsimp only at h
                  refine lv_iadd hx hb dL_acts_354 ?_
                  refine lv_goto (tgt := 400) hx hb dL_acts_355 rfl ?_
                  exact j400 o r58 ((20 + r62)) h _ hG _ _ hP hD hS _ (lv_sub hl [2, 0] rfl)
              · replace h := h.2 hc
                refine lv_iload_n hx hb dL_acts_328 rfl (lv_at hl 4 rfl) ?_
                refine lv_iconst (v := 3) hx hb dL_acts_329 (by decide) ?_
                refine lv_ishr hx hb dL_acts_330 ?_
                refine lv_iconst (v := 4) hx hb dL_acts_331 (by decide) ?_
                have hPc := hP.sub (ws' := []) [] rfl
                refine w_callR (va_runS (As := [.int (a2 >>> (3 &&& 31)), .int 4]) (rest := []) ⟨hx, hb, hml, hown, hts⟩ (c_L_low l D cy H ((a2 >>> (3 &&& 31))) 4 _ h) (va_cwS 2 hts gL_acts_L_low rfl rfl rfl (by decide +kernel) ⟨Nat.le_of_ble_eq_true rfl, Nat.le_of_ble_eq_true rfl⟩) (w_preSN hK hPc) rfl rfl hl.1 rfl (lv_room (Nat.le_of_ble_eq_true rfl)) dL_acts_332 ⟨Nat.zero_le _, Nat.zero_le _⟩) hS (fun r63 locs h hS => ?_)
                try dsimp only at h
                refine lv_goto (tgt := 400) hx hb dL_acts_335 rfl ?_
                exact j400 o r58 r63 h _ hG _ _ hP hD hS _ (lv_sub hl [2, 0] rfl)
          · replace h := h.2 hc
            refine lv_aload_n hx hb dL_acts_256 rfl (lv_at hl 1 rfl) ?_
            refine lv_iload hx hb dL_acts_257 (lv_at hl 0 rfl) ?_
            refine lv_bipush (v := 6) hx hb dL_acts_259 (by decide) ?_
            refine w_callK0 (pl := []) hP hD hS hA (va_runV (As := [.int k0, .int 6]) (rest := []) ⟨hx, hb, hml, hown, hts⟩ (m_dish l D cy H.size x K o hG k0 6) (cwV 2 hts gL_acts_X8_dish rfl rfl rfl (by decide +kernel) ⟨Nat.le_of_ble_eq_true rfl, Nat.le_of_ble_eq_true rfl⟩) (w_preVK (pl := []) (ci := 8) hE hS hA hK hP hD rfl rfl) rfl rfl hl.1 rfl (lv_room (Nat.le_of_ble_eq_true rfl)) dL_acts_261 ⟨Nat.le_of_ble_eq_true rfl, Nat.le_of_ble_eq_true rfl⟩) (fun r64 u H locs hw hP hD hS => ?_)
            obtain ⟨Kc65, rfl, hG, hr_⟩ := hw
            replace h := h r64 hr_
            clear hr_
            have hP : va_P D vwCl ([] ++ wK cy x Kc65) H := hP
            have hD : va_D A ([] ++ wK cy x Kc65) := hD
            refine lv_istore (lv' := [(6, .int r64), (5, .int k0), (0, .ref (x 0)), (1, .int a1), (2, .int a2), (3, .int x3), (4, .int x4)]) hx hb dL_acts_264 hl (by decide) rfl (fun ls hl => ?_)
            refine lv_aload_n hx hb dL_acts_266 rfl (lv_at hl 2 rfl) ?_
            refine lv_iload hx hb dL_acts_267 (lv_at hl 1 rfl) ?_
            refine lv_bipush (v := 6) hx hb dL_acts_269 (by decide) ?_
            refine lv_iload_n hx hb dL_acts_271 rfl (lv_at hl 4 rfl) ?_
            refine lv_iconst (v := 4) hx hb dL_acts_272 (by decide) ?_
            refine lv_ishr hx hb dL_acts_273 ?_
            refine lv_iconst (v := 2) hx hb dL_acts_274 (by decide) ?_
            have hPc := hP.sub (ws' := []) [] rfl
            refine w_callR (va_runS (As := [.int (a2 >>> (4 &&& 31)), .int 2]) (rest := [.int 6, .int k0, .ref (x 0)]) ⟨hx, hb, hml, hown, hts⟩ (c_L_low l D cy H ((a2 >>> (4 &&& 31))) 2 _ h) (va_cwS 2 hts gL_acts_L_low rfl rfl rfl (by decide +kernel) ⟨Nat.le_of_ble_eq_true rfl, Nat.le_of_ble_eq_true rfl⟩) (w_preSN hK hPc) rfl rfl hl.1 rfl (lv_room (Nat.le_of_ble_eq_true rfl)) dL_acts_275 ⟨Nat.zero_le _, Nat.zero_le _⟩) hS (fun r67 locs h hS => ?_)
            try dsimp only at h
            refine w_callK0 (pl := []) hP hD hS hA (va_runV (As := [.int k0, .int 6, .int r67]) (rest := []) ⟨hx, hb, hml, hown, hts⟩ (m_setDish l D cy H.size x Kc65 o hG k0 6 r67) (cwV 3 hts gL_acts_X8_setDish rfl rfl rfl (by decide +kernel) ⟨Nat.le_of_ble_eq_true rfl, Nat.le_of_ble_eq_true rfl⟩) (w_preVK (pl := []) (ci := 8) hE hS hA hK hP hD rfl rfl) rfl rfl hl.1 rfl (lv_room (Nat.le_of_ble_eq_true rfl)) dL_acts_278 ⟨Nat.le_of_ble_eq_true rfl, Nat.le_of_ble_eq_true rfl⟩) (fun r68 u H locs hw hP hD hS => ?_)
            obtain ⟨Kc69, o_70, rfl, hG, hr_⟩ := hw
            replace h := h r68 o_70 hr_
            clear hr_
            have hP : va_P D vwCl ([] ++ wK cy x Kc69) H := hP
            have hD : va_D A ([] ++ wK cy x Kc69) := hD
            refine lv_iload hx hb dL_acts_281 (lv_at hl 0 rfl) ?_
            refine lv_icmp_ne (tgt := 308) hx hb dL_acts_283 rfl (fun hc => ?_) (fun hc => ?_)
            · replace h := h.1 hc
              refine lv_iconst (v := 0) hx hb dL_acts_308 (by decide) ?_
              exact W.zret hx hb hr rfl (fun t ht _ => hend 0 _ o_70 _ _ (Or.inl rfl) hG h (w_tailP hP) (w_tailD hD) hS t ht) hS.2.2 dL_acts_309
            · replace h := h.2 hc
              refine lv_aload_n hx hb dL_acts_286 rfl (lv_at hl 2 rfl) ?_
              refine lv_iload hx hb dL_acts_287 (lv_at hl 1 rfl) ?_
              refine lv_bipush (v := 6) hx hb dL_acts_289 (by decide) ?_
              refine w_callK0 (pl := []) hP hD hS hA (va_runV (As := [.int k0, .int 6]) (rest := []) ⟨hx, hb, hml, hown, hts⟩ (m_dish l D cy H.size x Kc69 o_70 hG k0 6) (cwV 2 hts gL_acts_X8_dish rfl rfl rfl (by decide +kernel) ⟨Nat.le_of_ble_eq_true rfl, Nat.le_of_ble_eq_true rfl⟩) (w_preVK (pl := []) (ci := 8) hE hS hA hK hP hD rfl rfl) rfl rfl hl.1 rfl (lv_room (Nat.le_of_ble_eq_true rfl)) dL_acts_291 ⟨Nat.le_of_ble_eq_true rfl, Nat.le_of_ble_eq_true rfl⟩) (fun r71 u H locs hw hP hD hS => ?_)
              obtain ⟨Kc72, rfl, hG, hr_⟩ := hw
              replace h := h r71 hr_
              clear hr_
              have hP : va_P D vwCl ([] ++ wK cy x Kc72) H := hP
              have hD : va_D A ([] ++ wK cy x Kc72) := hD
              refine lv_iload_n hx hb dL_acts_294 rfl (lv_at hl 4 rfl) ?_
              refine lv_iconst (v := 4) hx hb dL_acts_295 (by decide) ?_
              refine lv_ishr hx hb dL_acts_296 ?_
              refine lv_iconst (v := 2) hx hb dL_acts_297 (by decide) ?_
              have hPc := hP.sub (ws' := []) [] rfl
              refine w_callR (va_runS (As := [.int (a2 >>> (4 &&& 31)), .int 2]) (rest := [.int r71]) ⟨hx, hb, hml, hown, hts⟩ (c_L_low l D cy H ((a2 >>> (4 &&& 31))) 2 _ h) (va_cwS 2 hts gL_acts_L_low rfl rfl rfl (by decide +kernel) ⟨Nat.le_of_ble_eq_true rfl, Nat.le_of_ble_eq_true rfl⟩) (w_preSN hK hPc) rfl rfl hl.1 rfl (lv_room (Nat.le_of_ble_eq_true rfl)) dL_acts_298 ⟨Nat.zero_le _, Nat.zero_le _⟩) hS (fun r74 locs h hS => ?_)
              try dsimp only at h
              refine lv_icmp_ne (tgt := 308) hx hb dL_acts_301 rfl (fun hc => ?_) (fun hc => ?_)
              · replace h := h.1 hc
                refine lv_iconst (v := 0) hx hb dL_acts_308 (by decide) ?_
                exact W.zret hx hb hr rfl (fun t ht _ => hend 0 _ o_70 _ _ (Or.inl rfl) hG h (w_tailP hP) (w_tailD hD) hS t ht) hS.2.2 dL_acts_309
              · replace h := h.2 hc
                refine lv_iconst (v := 1) hx hb dL_acts_304 (by decide) ?_
                refine lv_goto (tgt := 309) hx hb dL_acts_305 rfl ?_
                exact W.zret hx hb hr rfl (fun t ht _ => hend 1 _ o_70 _ _ (Or.inr rfl) hG h (w_tailP hP) (w_tailD hD) hS t ht) hS.2.2 dL_acts_309
        · replace h := h.2 hc
          refine lv_aload_n hx hb dL_acts_192 rfl (lv_at hl 1 rfl) ?_
          refine lv_iload hx hb dL_acts_193 (lv_at hl 0 rfl) ?_
          refine w_callK0 (pl := []) hP hD hS hA (va_runV (As := [.int k0]) (rest := []) ⟨hx, hb, hml, hown, hts⟩ (m_removeDish l D cy H.size x K o hG k0) (cwV 1 hts gL_acts_X8_removeDish rfl rfl rfl (by decide +kernel) ⟨Nat.le_of_ble_eq_true rfl, Nat.le_of_ble_eq_true rfl⟩) (w_preVK (pl := []) (ci := 8) hE hS hA hK hP hD rfl rfl) rfl rfl hl.1 rfl (lv_room (Nat.le_of_ble_eq_true rfl)) dL_acts_195 ⟨Nat.le_of_ble_eq_true rfl, Nat.le_of_ble_eq_true rfl⟩) (fun r75 u H locs hw hP hD hS => ?_)
          obtain ⟨Kc76, o_77, rfl, hG, hr_⟩ := hw
          replace h := h r75 o_77 hr_
          clear hr_
          have hP : va_P D vwCl ([] ++ wK cy x Kc76) H := hP
          have hD : va_D A ([] ++ wK cy x Kc76) := hD
          refine lv_iload hx hb dL_acts_198 (lv_at hl 5 rfl) ?_
          refine lv_iconst (v := 1) hx hb dL_acts_200 (by decide) ?_
          refine lv_isub hx hb dL_acts_201 ?_
          refine lv_icmp_ne (tgt := 248) hx hb dL_acts_202 rfl (fun hc => ?_) (fun hc => ?_)
          · replace h := h.1 hc
            refine lv_iconst (v := 0) hx hb dL_acts_248 (by decide) ?_
            exact W.zret hx hb hr rfl (fun t ht _ => hend 0 _ o_77 _ _ (Or.inl rfl) hG h (w_tailP hP) (w_tailD hD) hS t ht) hS.2.2 dL_acts_249
          · replace h := h.2 hc
            refine lv_aload_n hx hb dL_acts_205 rfl (lv_at hl 1 rfl) ?_
            refine lv_iconst (v := 0) hx hb dL_acts_206 (by decide) ?_
            refine w_callK0 (pl := []) hP hD hS hA (va_runV (As := [.int 0]) (rest := []) ⟨hx, hb, hml, hown, hts⟩ (m_count l D cy H.size x Kc76 o_77 hG 0) (cwV 1 hts gL_acts_X8_count rfl rfl rfl (by decide +kernel) ⟨Nat.le_of_ble_eq_true rfl, Nat.le_of_ble_eq_true rfl⟩) (w_preVK (pl := []) (ci := 8) hE hS hA hK hP hD rfl rfl) rfl rfl hl.1 rfl (lv_room (Nat.le_of_ble_eq_true rfl)) dL_acts_207 ⟨Nat.le_of_ble_eq_true rfl, Nat.le_of_ble_eq_true rfl⟩) (fun r78 u H locs hw hP hD hS => ?_)
            obtain ⟨Kc79, rfl, hG, hr_⟩ := hw
            replace h := h r78 hr_
            clear hr_
            have hP : va_P D vwCl ([] ++ wK cy x Kc79) H := hP
            have hD : va_D A ([] ++ wK cy x Kc79) := hD
            refine lv_iload hx hb dL_acts_210 (lv_at hl 5 rfl) ?_
            refine lv_iconst (v := 1) hx hb dL_acts_212 (by decide) ?_
            refine lv_isub hx hb dL_acts_213 ?_
            refine lv_icmp_ne (tgt := 248) hx hb dL_acts_214 rfl (fun hc => ?_) (fun hc => ?_)
            · replace h := h.1 hc
              refine lv_iconst (v := 0) hx hb dL_acts_248 (by decide) ?_
              exact W.zret hx hb hr rfl (fun t ht _ => hend 0 _ o_77 _ _ (Or.inl rfl) hG h (w_tailP hP) (w_tailD hD) hS t ht) hS.2.2 dL_acts_249
            · replace h := h.2 hc
              refine lv_iload_n hx hb dL_acts_217 rfl (lv_at hl 2 rfl) ?_
              refine lv_iconst (v := 4) hx hb dL_acts_218 (by decide) ?_
              refine lv_ishr hx hb dL_acts_219 ?_
              refine lv_iconst (v := 2) hx hb dL_acts_220 (by decide) ?_
              have hPc := hP.sub (ws' := []) [] rfl
              refine w_callR (va_runS (As := [.int (a1 >>> (4 &&& 31)), .int 2]) (rest := []) ⟨hx, hb, hml, hown, hts⟩ (c_L_low l D cy H ((a1 >>> (4 &&& 31))) 2 _ h) (va_cwS 2 hts gL_acts_L_low rfl rfl rfl (by decide +kernel) ⟨Nat.le_of_ble_eq_true rfl, Nat.le_of_ble_eq_true rfl⟩) (w_preSN hK hPc) rfl rfl hl.1 rfl (lv_room (Nat.le_of_ble_eq_true rfl)) dL_acts_221 ⟨Nat.zero_le _, Nat.zero_le _⟩) hS (fun r81 locs h hS => ?_)
              try dsimp only at h
              refine lv_if_eq (tgt := 244) hx hb dL_acts_224 rfl (fun hc => ?_) (fun hc => ?_)
              · replace h := h.1 hc
                refine lv_iconst (v := 1) hx hb dL_acts_244 (by decide) ?_
                refine lv_goto (tgt := 249) hx hb dL_acts_245 rfl ?_
                exact W.zret hx hb hr rfl (fun t ht _ => hend 1 _ o_77 _ _ (Or.inr rfl) hG h (w_tailP hP) (w_tailD hD) hS t ht) hS.2.2 dL_acts_249
              · replace h := h.2 hc
                refine lv_aload_n hx hb dL_acts_227 rfl (lv_at hl 1 rfl) ?_
                refine w_callK0 (pl := []) hP hD hS hA (va_runV (As := []) (rest := []) ⟨hx, hb, hml, hown, hts⟩ (m_undo l D cy H.size x Kc79 o_77 hG) (cwV 0 hts gL_acts_X8_undo rfl rfl rfl (by decide +kernel) ⟨Nat.le_of_ble_eq_true rfl, Nat.le_of_ble_eq_true rfl⟩) (w_preVK (pl := []) (ci := 8) hE hS hA hK hP hD rfl rfl) rfl rfl hl.1 rfl (lv_room (Nat.le_of_ble_eq_true rfl)) dL_acts_228 ⟨Nat.le_of_ble_eq_true rfl, Nat.le_of_ble_eq_true rfl⟩) (fun r82 u H locs hw hP hD hS => ?_)
                obtain ⟨Kc83, o_84, rfl, hG, hr_⟩ := hw
                replace h := h r82 o_84 hr_
                clear hr_
                have hP : va_P D vwCl ([] ++ wK cy x Kc83) H := hP
                have hD : va_D A ([] ++ wK cy x Kc83) := hD
                refine lv_if_lt (tgt := 248) hx hb dL_acts_231 rfl (fun hc => ?_) (fun hc => ?_)
                · replace h := h.1 hc
                  refine lv_iconst (v := 0) hx hb dL_acts_248 (by decide) ?_
                  exact W.zret hx hb hr rfl (fun t ht _ => hend 0 _ o_84 _ _ (Or.inl rfl) hG h (w_tailP hP) (w_tailD hD) hS t ht) hS.2.2 dL_acts_249
                · replace h := h.2 hc
                  refine lv_aload_n hx hb dL_acts_234 rfl (lv_at hl 1 rfl) ?_
                  refine lv_iconst (v := 0) hx hb dL_acts_235 (by decide) ?_
                  refine w_callK0 (pl := []) hP hD hS hA (va_runV (As := [.int 0]) (rest := []) ⟨hx, hb, hml, hown, hts⟩ (m_count l D cy H.size x Kc83 o_84 hG 0) (cwV 1 hts gL_acts_X8_count rfl rfl rfl (by decide +kernel) ⟨Nat.le_of_ble_eq_true rfl, Nat.le_of_ble_eq_true rfl⟩) (w_preVK (pl := []) (ci := 8) hE hS hA hK hP hD rfl rfl) rfl rfl hl.1 rfl (lv_room (Nat.le_of_ble_eq_true rfl)) dL_acts_236 ⟨Nat.le_of_ble_eq_true rfl, Nat.le_of_ble_eq_true rfl⟩) (fun r85 u H locs hw hP hD hS => ?_)
                  obtain ⟨Kc86, rfl, hG, hr_⟩ := hw
                  replace h := h r85 hr_
                  clear hr_
                  have hP : va_P D vwCl ([] ++ wK cy x Kc86) H := hP
                  have hD : va_D A ([] ++ wK cy x Kc86) := hD
                  refine lv_iload hx hb dL_acts_239 (lv_at hl 5 rfl) ?_
                  refine lv_icmp_ne (tgt := 248) hx hb dL_acts_241 rfl (fun hc => ?_) (fun hc => ?_)
                  · replace h := h.1 hc
                    refine lv_iconst (v := 0) hx hb dL_acts_248 (by decide) ?_
                    exact W.zret hx hb hr rfl (fun t ht _ => hend 0 _ o_84 _ _ (Or.inl rfl) hG h (w_tailP hP) (w_tailD hD) hS t ht) hS.2.2 dL_acts_249
                  · replace h := h.2 hc
                    refine lv_iconst (v := 1) hx hb dL_acts_244 (by decide) ?_
                    refine lv_goto (tgt := 249) hx hb dL_acts_245 rfl ?_
                    exact W.zret hx hb hr rfl (fun t ht _ => hend 1 _ o_84 _ _ (Or.inr rfl) hG h (w_tailP hP) (w_tailD hD) hS t ht) hS.2.2 dL_acts_249
      · replace h := h.2 hc
        exact j41 o x4 h _ hG _ _ hP hD hS _ (lv_sub hl [1, 3, 5] rfl)
  unfold p_L_acts at h
  suffices key : ∀ (H : Heap) (locs : List Loc), va_P D vwCl ([] ++ wK cy x K) H → va_D A ([] ++ wK cy x K) → va_S A s.heap H locs → W p l e r_L_acts s m args below meth c H locs 0 0 (MQ below Qc args s 0 0 A) (F0 m 0 ls []) from key s.heap [] hP hD hS
  clear hP hD hS
  intro H locs hP hD hS
  refine lv_iload_n hx hb dL_acts_0 rfl (lv_at hl 1 rfl) ?_
  refine lv_bipush (v := 12) hx hb dL_acts_1 (by decide) ?_
  have hPc := hP.sub (ws' := []) [] rfl
  refine w_callR (va_runS (As := [.int a1, .int 12]) (rest := []) ⟨hx, hb, hml, hown, hts⟩ (c_L_low l D cy H a1 12 _ h) (va_cwS 2 hts gL_acts_L_low rfl rfl rfl (by decide +kernel) ⟨Nat.le_of_ble_eq_true rfl, Nat.le_of_ble_eq_true rfl⟩) (w_preSN hK hPc) rfl rfl hl.1 rfl (lv_room (Nat.le_of_ble_eq_true rfl)) dL_acts_3 ⟨Nat.zero_le _, Nat.zero_le _⟩) hS (fun r88 locs h hS => ?_)
  try dsimp only at h
  refine lv_istore_n (lv' := [(3, .int r88), (0, .ref (x 0)), (1, .int a1), (2, .int a2)]) hx hb dL_acts_6 rfl hl (by decide) rfl (fun ls hl => ?_)
  refine lv_aload_n hx hb dL_acts_7 rfl (lv_at hl 1 rfl) ?_
  refine lv_iconst (v := 0) hx hb dL_acts_8 (by decide) ?_
  refine w_callK0 (pl := []) hP hD hS hA (va_runV (As := [.int 0]) (rest := []) ⟨hx, hb, hml, hown, hts⟩ (m_count l D cy H.size x K o hG 0) (cwV 1 hts gL_acts_X8_count rfl rfl rfl (by decide +kernel) ⟨Nat.le_of_ble_eq_true rfl, Nat.le_of_ble_eq_true rfl⟩) (w_preVK (pl := []) (ci := 8) hE hS hA hK hP hD rfl rfl) rfl rfl hl.1 rfl (lv_room (Nat.le_of_ble_eq_true rfl)) dL_acts_9 ⟨Nat.le_of_ble_eq_true rfl, Nat.le_of_ble_eq_true rfl⟩) (fun r89 u H locs hw hP hD hS => ?_)
  obtain ⟨Kc90, rfl, hG, hr_⟩ := hw
  replace h := h r89 hr_
  clear hr_
  have hP : va_P D vwCl ([] ++ wK cy x Kc90) H := hP
  have hD : va_D A ([] ++ wK cy x Kc90) := hD
  refine lv_istore (lv' := [(4, .int r89), (3, .int r88), (0, .ref (x 0)), (1, .int a1), (2, .int a2)]) hx hb dL_acts_12 hl (by decide) rfl (fun ls hl => ?_)
  refine lv_iload hx hb dL_acts_14 (lv_at hl 0 rfl) ?_
  refine lv_if_ne (tgt := 23) hx hb dL_acts_16 rfl (fun hc => ?_) (fun hc => ?_)
  · replace h := h.1 hc
    refine lv_iload_n hx hb dL_acts_23 rfl (lv_at hl 4 rfl) ?_
    refine lv_iload hx hb dL_acts_24 (lv_at hl 0 rfl) ?_
    have hPc := hP.sub (ws' := []) [] rfl
    refine w_callR (va_runS (As := [.int a2, .int r89]) (rest := []) ⟨hx, hb, hml, hown, hts⟩ (c_L_low l D cy H a2 r89 _ h) (va_cwS 2 hts gL_acts_L_low rfl rfl rfl (by decide +kernel) ⟨Nat.le_of_ble_eq_true rfl, Nat.le_of_ble_eq_true rfl⟩) (w_preSN hK hPc) rfl rfl hl.1 rfl (lv_room (Nat.le_of_ble_eq_true rfl)) dL_acts_26 ⟨Nat.zero_le _, Nat.zero_le _⟩) hS (fun r92 locs h hS => ?_)
    try dsimp only at h
    exact j29 o r88 r89 r92 h _ hG _ _ hP hD hS _ (lv_sub hl [2, 3, 4, 1, 0] rfl)
  · replace h := h.2 hc
    refine lv_iconst (v := 0) hx hb dL_acts_19 (by decide) ?_
    refine lv_goto (tgt := 29) hx hb dL_acts_20 rfl ?_
    exact j29 o r88 r89 0 h _ hG _ _ hP hD hS _ (lv_sub hl [2, 3, 4, 1, 0] rfl)

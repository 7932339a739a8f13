abbrev r_L_arranges : Room := { frames := 7, cells := 0, slots := 0, locals := 161 }
set_option maxHeartbeats 40000000 in
set_option maxRecDepth 100000 in
theorem c_L_arranges (l : Launch) (D : va_G) (cy : Nat → ClassId) (sz : Nat) (x : Nat → Nat) (K : sK) (o : aO) (hG : Good o K) (a1 : Int32) (Q : Int32 → aO → Prop) (hq : p_L_arranges o a1 Q) : Met l yL_arranges wsL_arranges r_L_arranges (wPM [.ref (x 0), .int a1] sz D cy (wK cy x K)) (va_Qi (fun r u => (r = 0 ∨ r = 1) ∧ ∃ (K' : sK) (o' : aO), u = wK cy x K' ∧ Good o' K' ∧ Q r o') (fun u T9 => va_P D vwCl u T9.heap ∧ va_D (va_A (wK cy x K) sz) u) (va_A (wK cy x K) sz)) 0 0 (va_A (wK cy x K) sz) := by
  refine Met.ofW (cc := cL_arranges) (maxL := 9) (ret := (some .boolean)) (by decide) rfl ?_
  intro p e s m args below meth c s₁ B hml hv
  obtain ⟨hargs, hsz, hE, hP, hK, hD0⟩ := hv
  have hx := B.exec
  have hb := B.bytes
  have hr := B.returns
  have hts := atoms_spec (ws := wsL_arranges) B.pre
  have hown : s.vm.findClass RL = some m.cls := findClass_of_methodNamed B.named
  have hlocks := B.notSynchronized
  clear B
  subst hsz
  have hD := hD0.self (sz := s.heap.size)
  generalize hAe : va_A (wK cy x K) s.heap.size = A at hD ⊢ hE
  have hA : ∀ q : Nat, s.heap.size ≤ q → A q := fun q h => by rw [← hAe]; exact Or.inr h
  clear hAe hD0
  have hend : ∀ (r : Int32) (K' : sK) (o' : aO) (H : Heap) (locs : List Loc), (r = 0 ∨ r = 1) → Good o' K' → Q r o' → va_P D vwCl (wK cy x K') H → va_D A (wK cy x K') → va_S A s.heap H locs → ∀ T9 : State, T9.heap = H → (va_Qi (fun r u => (r = 0 ∨ r = 1) ∧ ∃ (K' : sK) (o' : aO), u = wK cy x K' ∧ Good o' K' ∧ Q r o') (fun u T9 => va_P D vwCl u T9.heap ∧ va_D A u) A) args s (.returned (some (.int r))) T9 := fun r K' o' H locs hz hG' hq hP hD hS T9 ht => ⟨⟨r, _, rfl, ⟨hz, K', o', rfl, hG', hq⟩, by rw [ht]; exact hP, hD⟩, hS.F ht⟩
  generalize (va_Qi (fun r u => (r = 0 ∨ r = 1) ∧ ∃ (K' : sK) (o' : aO), u = wK cy x K' ∧ Good o' K' ∧ Q r o') (fun u T9 => va_P D vwCl u T9.heap ∧ va_D A u) A) = Qc at hend ⊢
  have hS : va_S A s.heap s.heap [] := va_S.rf
  show W p l e r_L_arranges s m args below meth c s.heap [] 0 0 (MQ below Qc args s 0 0 A) (entryFrame m args 9)
  rw [show entryFrame m args 9 = entryFrame m ([.ref (x 0), .int a1] : List Value).toArray 9 from by rw [hargs]]
  have hl := lv_entry ([.ref (x 0), .int a1]) (n := 9) (Nat.le_of_ble_eq_true rfl)
  rw [lg_entry_eq]
  generalize (lg_sl ([.ref (x 0), .int a1]) ++ List.replicate (9 - (lg_sl ([.ref (x 0), .int a1])).length) Slot.unset).toArray = ls at hl ⊢
  have hl : lv_has ls 9 [(0, .ref (x 0)), (1, .int a1)] := hl
  have h := hq
  clear hargs hq
  have j203 : ∀ (o : aO) (k0 : Int32), p_L_arranges_203 a1 o k0 Q → ∀ (K : sK), Good o K → ∀ (H : Heap) (locs : List Loc), va_P D vwCl ([] ++ wK cy x K) H → va_D A ([] ++ wK cy x K) → va_S A s.heap H locs → ∀ (ls : Array Slot), lv_has ls 9 [(0, .ref (x 0)), (1, .int a1)] → W p l e r_L_arranges s m args below meth c H locs 0 0 (MQ below Qc args s 0 0 A) (F0 m 203 ls [.int k0]) := by
    intro o k0 h K hG H locs hP hD hS ls hl
    unfold p_L_arranges_203 at h
    refine lv_istore (lv' := [(8, .int k0), (0, .ref (x 0)), (1, .int a1)]) hx hb dL_arranges_203 hl (by decide) rfl (fun ls hl => ?_)
    refine lv_iload hx hb dL_arranges_205 (lv_at hl 0 rfl) ?_
    refine lv_if_eq (tgt := 229) hx hb dL_arranges_207 rfl (fun hc => ?_) (fun hc => ?_)
    · replace h := h.1 hc
      refine lv_iconst (v := 0) hx hb dL_arranges_229 (by decide) ?_
      exact W.zret hx hb hr rfl (fun t ht _ => hend 0 _ o _ _ (Or.inl rfl) hG h (w_tailP hP) (w_tailD hD) hS t ht) hS.2.2 dL_arranges_230
    · replace h := h.2 hc
      refine lv_iload_n hx hb dL_arranges_210 rfl (lv_at hl 2 rfl) ?_
      refine lv_iconst (v := 2) hx hb dL_arranges_211 (by decide) ?_
      have hPc := hP.sub (ws' := []) [] rfl
      refine w_callR (va_runS (As := [.int a1, .int 2]) (rest := []) ⟨hx, hb, hml, hown, hts⟩ (c_L_low l D cy H a1 2 _ h) (va_cwS 2 hts gL_arranges_L_low rfl rfl rfl (by decide +kernel) ⟨Nat.le_of_ble_eq_true rfl, Nat.le_of_ble_eq_true rfl⟩) (w_preSN hK hPc) rfl rfl hl.1 rfl (lv_room (Nat.le_of_ble_eq_true rfl)) dL_arranges_212 ⟨Nat.zero_le _, Nat.zero_le _⟩) hS (fun r1 locs h hS => ?_)
      try dsimp only at h
      refine lv_if_eq (tgt := 225) hx hb dL_arranges_215 rfl (fun hc => ?_) (fun hc => ?_)
      · replace h := h.1 hc
        refine lv_iconst (v := 1) hx hb dL_arranges_225 (by decide) ?_
        refine lv_goto (tgt := 230) hx hb dL_arranges_226 rfl ?_
        exact W.zret hx hb hr rfl (fun t ht _ => hend 1 _ o _ _ (Or.inr rfl) hG h (w_tailP hP) (w_tailD hD) hS t ht) hS.2.2 dL_arranges_230
      · replace h := h.2 hc
        refine lv_aload_n hx hb dL_arranges_218 rfl (lv_at hl 1 rfl) ?_
        refine w_callK0 (pl := []) hP hD hS hA (va_runV (As := []) (rest := []) ⟨hx, hb, hml, hown, hts⟩ (m_undo l D cy H.size x K o hG) (cwV 0 hts gL_arranges_X8_undo rfl rfl rfl (by decide +kernel) ⟨Nat.le_of_ble_eq_true rfl, Nat.le_of_ble_eq_true rfl⟩) (w_preVK (pl := []) (ci := 8) hE hS hA hK hP hD rfl rfl) rfl rfl hl.1 rfl (lv_room (Nat.le_of_ble_eq_true rfl)) dL_arranges_219 ⟨Nat.le_of_ble_eq_true rfl, Nat.le_of_ble_eq_true rfl⟩) (fun r2 u H locs hw hP hD hS => ?_)
        obtain ⟨Kc3, o_4, rfl, hG, hr_⟩ := hw
        replace h := h r2 o_4 hr_
        clear hr_
        have hP : va_P D vwCl ([] ++ wK cy x Kc3) H := hP
        have hD : va_D A ([] ++ wK cy x Kc3) := hD
        refine lv_if_lt (tgt := 229) hx hb dL_arranges_222 rfl (fun hc => ?_) (fun hc => ?_)
        · replace h := h.1 hc
          refine lv_iconst (v := 0) hx hb dL_arranges_229 (by decide) ?_
          exact W.zret hx hb hr rfl (fun t ht _ => hend 0 _ o_4 _ _ (Or.inl rfl) hG h (w_tailP hP) (w_tailD hD) hS t ht) hS.2.2 dL_arranges_230
        · replace h := h.2 hc
          refine lv_iconst (v := 1) hx hb dL_arranges_225 (by decide) ?_
          refine lv_goto (tgt := 230) hx hb dL_arranges_226 rfl ?_
          exact W.zret hx hb hr rfl (fun t ht _ => hend 1 _ o_4 _ _ (Or.inr rfl) hG h (w_tailP hP) (w_tailD hD) hS t ht) hS.2.2 dL_arranges_230
  have j202 : ∀ (o : aO), p_L_arranges_202 a1 o Q → ∀ (K : sK), Good o K → ∀ (H : Heap) (locs : List Loc), va_P D vwCl ([] ++ wK cy x K) H → va_D A ([] ++ wK cy x K) → va_S A s.heap H locs → ∀ (ls : Array Slot), lv_has ls 9 [(0, .ref (x 0)), (1, .int a1)] → W p l e r_L_arranges s m args below meth c H locs 0 0 (MQ below Qc args s 0 0 A) (F0 m 202 ls []) := by
    intro o h K hG H locs hP hD hS ls hl
    unfold p_L_arranges_202 at h
    refine lv_iconst (v := 0) hx hb dL_arranges_202 (by decide) ?_
    exact j203 o 0 h _ hG _ _ hP hD hS _ (lv_sub hl [0, 1] rfl)
  have j142 : ∀ (o : aO) (x3 : Int32) (x6 : Int32) (k0 : Int32), p_L_arranges_142 a1 o x3 x6 k0 Q → ∀ (K : sK), Good o K → ∀ (H : Heap) (locs : List Loc), va_P D vwCl ([] ++ wK cy x K) H → va_D A ([] ++ wK cy x K) → va_S A s.heap H locs → ∀ (ls : Array Slot), lv_has ls 9 [(0, .ref (x 0)), (1, .int a1), (3, .int x3), (6, .int x6)] → W p l e r_L_arranges s m args below meth c H locs 0 0 (MQ below Qc args s 0 0 A) (F0 m 142 ls [.int k0]) := by
    intro o x3 x6 k0 h K hG H locs hP hD hS ls hl
    unfold p_L_arranges_142 at h
    refine lv_istore (lv' := [(7, .int k0), (0, .ref (x 0)), (1, .int a1), (3, .int x3), (6, .int x6)]) hx hb dL_arranges_142 hl (by decide) rfl (fun ls hl => ?_)
    refine lv_iload hx hb dL_arranges_144 (lv_at hl 0 rfl) ?_
    refine lv_iload hx hb dL_arranges_146 (lv_at hl 4 rfl) ?_
    refine lv_icmp_ne (tgt := 202) hx hb dL_arranges_148 rfl (fun hc => ?_) (fun hc => ?_)
    · replace h := h.1 hc
      exact j202 o h _ hG _ _ hP hD hS _ (lv_sub hl [1, 2] rfl)
    · replace h := h.2 hc
      refine lv_aload_n hx hb dL_arranges_151 rfl (lv_at hl 1 rfl) ?_
      refine lv_bipush (v := 6) hx hb dL_arranges_152 (by decide) ?_
      refine w_callK0 (pl := []) hP hD hS hA (va_runV (As := [.int 6]) (rest := []) ⟨hx, hb, hml, hown, hts⟩ (m_card l D cy H.size x K o hG 6) (cwV 1 hts gL_arranges_X8_card rfl rfl rfl (by decide +kernel) ⟨Nat.le_of_ble_eq_true rfl, Nat.le_of_ble_eq_true rfl⟩) (w_preVK (pl := []) (ci := 8) hE hS hA hK hP hD rfl rfl) rfl rfl hl.1 rfl (lv_room (Nat.le_of_ble_eq_true rfl)) dL_arranges_154 ⟨Nat.le_of_ble_eq_true rfl, Nat.le_of_ble_eq_true rfl⟩) (fun r5 u H locs hw hP hD hS => ?_)
      obtain ⟨Kc6, rfl, hG, hr_⟩ := hw
      replace h := h r5 hr_
      clear hr_
      have hP : va_P D vwCl ([] ++ wK cy x Kc6) H := hP
      have hD : va_D A ([] ++ wK cy x Kc6) := hD
      refine lv_iconst (v := 2) hx hb dL_arranges_157 (by decide) ?_
      refine lv_aload_n hx hb dL_arranges_158 rfl (lv_at hl 1 rfl) ?_
      refine lv_bipush (v := 7) hx hb dL_arranges_159 (by decide) ?_
      refine w_callK0 (pl := []) hP hD hS hA (va_runV (As := [.int 7]) (rest := [.int 2, .int r5]) ⟨hx, hb, hml, hown, hts⟩ (m_card l D cy H.size x Kc6 o hG 7) (cwV 1 hts gL_arranges_X8_card rfl rfl rfl (by decide +kernel) ⟨Nat.le_of_ble_eq_true rfl, Nat.le_of_ble_eq_true rfl⟩) (w_preVK (pl := []) (ci := 8) hE hS hA hK hP hD rfl rfl) rfl rfl hl.1 rfl (lv_room (Nat.le_of_ble_eq_true rfl)) dL_arranges_161 ⟨Nat.le_of_ble_eq_true rfl, Nat.le_of_ble_eq_true rfl⟩) (fun r8 u H locs hw hP hD hS => ?_)
      obtain ⟨Kc9, rfl, hG, hr_⟩ := hw
      replace h := h r8 hr_
      clear hr_
      have hP : va_P D vwCl ([] ++ wK cy x Kc9) H := hP
      have hD : va_D A ([] ++ wK cy x Kc9) := hD
      refine lv_imul hx hb dL_arranges_164 ?_
      refine lv_iadd hx hb dL_arranges_165 ?_
      refine lv_iconst (v := 4) hx hb dL_arranges_166 (by decide) ?_
      refine lv_aload_n hx hb dL_arranges_167 rfl (lv_at hl 1 rfl) ?_
      refine lv_bipush (v := 8) hx hb dL_arranges_168 (by decide) ?_
      refine w_callK0 (pl := []) hP hD hS hA (va_runV (As := [.int 8]) (rest := [.int 4, .int (r5 + (2 * r8))]) ⟨hx, hb, hml, hown, hts⟩ (m_card l D cy H.size x Kc9 o hG 8) (cwV 1 hts gL_arranges_X8_card rfl rfl rfl (by decide +kernel) ⟨Nat.le_of_ble_eq_true rfl, Nat.le_of_ble_eq_true rfl⟩) (w_preVK (pl := []) (ci := 8) hE hS hA hK hP hD rfl rfl) rfl rfl hl.1 rfl (lv_room (Nat.le_of_ble_eq_true rfl)) dL_arranges_170 ⟨Nat.le_of_ble_eq_true rfl, Nat.le_of_ble_eq_true rfl⟩) (fun r11 u H locs hw hP hD hS => ?_)
      obtain ⟨Kc12, rfl, hG, hr_⟩ := hw
      replace h := h r11 hr_
      clear hr_
      have hP : va_P D vwCl ([] ++ wK cy x Kc12) H := hP
      have hD : va_D A ([] ++ wK cy x Kc12) := hD
      refine lv_imul hx hb dL_arranges_173 ?_
      refine lv_iadd hx hb dL_arranges_174 ?_
      refine lv_bipush (v := 8) hx hb dL_arranges_175 (by decide) ?_
      refine lv_aload_n hx hb dL_arranges_177 rfl (lv_at hl 1 rfl) ?_
      refine lv_bipush (v := 9) hx hb dL_arranges_178 (by decide) ?_
      refine w_callK0 (pl := []) hP hD hS hA (va_runV (As := [.int 9]) (rest := [.int 8, .int ((r5 + (2 * r8)) + (4 * r11))]) ⟨hx, hb, hml, hown, hts⟩ (m_card l D cy H.size x Kc12 o hG 9) (cwV 1 hts gL_arranges_X8_card rfl rfl rfl (by decide +kernel) ⟨Nat.le_of_ble_eq_true rfl, Nat.le_of_ble_eq_true rfl⟩) (w_preVK (pl := []) (ci := 8) hE hS hA hK hP hD rfl rfl) rfl rfl hl.1 rfl (lv_room (Nat.le_of_ble_eq_true rfl)) dL_arranges_180 ⟨Nat.le_of_ble_eq_true rfl, Nat.le_of_ble_eq_true rfl⟩) (fun r14 u H locs hw hP hD hS => ?_)
      obtain ⟨Kc15, rfl, hG, hr_⟩ := hw
      replace h := h r14 hr_
      clear hr_
      have hP : va_P D vwCl ([] ++ wK cy x Kc15) H := hP
      have hD : va_D A ([] ++ wK cy x Kc15) := hD
      refine lv_imul hx hb dL_arranges_183 ?_
      refine lv_iadd hx hb dL_arranges_184 ?_
      refine lv_iload_n hx hb dL_arranges_185 rfl (lv_at hl 3 rfl) ?_
      refine lv_icmp_ne (tgt := 202) hx hb dL_arranges_186 rfl (fun hc => ?_) (fun hc => ?_)
      · replace h := h.1 hc
        exact j202 o h _ hG _ _ hP hD hS _ (lv_sub hl [1, 2] rfl)
      · replace h := h.2 hc
        refine lv_aload_n hx hb dL_arranges_189 rfl (lv_at hl 1 rfl) ?_
        refine lv_iconst (v := 0) hx hb dL_arranges_190 (by decide) ?_
        refine w_callK0 (pl := []) hP hD hS hA (va_runV (As := [.int 0]) (rest := []) ⟨hx, hb, hml, hown, hts⟩ (m_bestSides l D cy H.size x Kc15 o hG 0) (cwV 1 hts gL_arranges_X8_bestSides rfl rfl rfl (by decide +kernel) ⟨Nat.le_of_ble_eq_true rfl, Nat.le_of_ble_eq_true rfl⟩) (w_preVK (pl := []) (ci := 8) hE hS hA hK hP hD rfl rfl) rfl rfl hl.1 rfl (lv_room (Nat.le_of_ble_eq_true rfl)) dL_arranges_191 ⟨Nat.le_of_ble_eq_true rfl, Nat.le_of_ble_eq_true rfl⟩) (fun r17 u H locs hw hP hD hS => ?_)
        obtain ⟨Kc18, rfl, hG, hr_⟩ := hw
        replace h := h r17 hr_
        clear hr_
        have hP : va_P D vwCl ([] ++ wK cy x Kc18) H := hP
        have hD : va_D A ([] ++ wK cy x Kc18) := hD
        refine lv_iload_n hx hb dL_arranges_194 rfl (lv_at hl 3 rfl) ?_
        refine lv_icmp_ne (tgt := 202) hx hb dL_arranges_195 rfl (fun hc => ?_) (fun hc => ?_)
        · replace h := h.1 hc
          exact j202 o h _ hG _ _ hP hD hS _ (lv_sub hl [1, 2] rfl)
        · replace h := h.2 hc
          refine lv_iconst (v := 1) hx hb dL_arranges_198 (by decide) ?_
          refine lv_goto (tgt := 203) hx hb dL_arranges_199 rfl ?_
          exact j203 o 1 h _ hG _ _ hP hD hS _ (lv_sub hl [1, 2] rfl)
  have j94 : ∀ (o : aO) (x3 : Int32) (x4 : Int32) (x5 : Int32) (x6 : Int32), p_L_arranges_94 a1 o x3 x4 x5 x6 Q → ∀ (K : sK), Good o K → ∀ (H : Heap) (locs : List Loc), va_P D vwCl ([] ++ wK cy x K) H → va_D A ([] ++ wK cy x K) → va_S A s.heap H locs → ∀ (ls : Array Slot), lv_has ls 9 [(0, .ref (x 0)), (1, .int a1), (3, .int x3), (4, .int x4), (5, .int x5), (6, .int x6)] → W p l e r_L_arranges s m args below meth c H locs 0 0 (MQ below Qc args s 0 0 A) (F0 m 94 ls []) := by
    intro o x3 x4 x5 x6 h K hG H locs hP hD hS ls hl
    unfold p_L_arranges_94 at h
    refine lv_aload_n hx hb dL_arranges_94 rfl (lv_at hl 0 rfl) ?_
    refine w_callK0 (pl := []) hP hD hS hA (va_runV (As := []) (rest := []) ⟨hx, hb, hml, hown, hts⟩ (m_arrange l D cy H.size x K o hG) (cwV 0 hts gL_arranges_X8_arrange rfl rfl rfl (by decide +kernel) ⟨Nat.le_of_ble_eq_true rfl, Nat.le_of_ble_eq_true rfl⟩) (w_preVK (pl := []) (ci := 8) hE hS hA hK hP hD rfl rfl) rfl rfl hl.1 rfl (lv_room (Nat.le_of_ble_eq_true rfl)) dL_arranges_95 ⟨Nat.le_of_ble_eq_true rfl, Nat.le_of_ble_eq_true rfl⟩) (fun r20 u H locs hw hP hD hS => ?_)
    obtain ⟨Kc21, o_22, rfl, hG, hr_⟩ := hw
    replace h := h r20 o_22 hr_
    clear hr_
    have hP : va_P D vwCl ([] ++ wK cy x Kc21) H := hP
    have hD : va_D A ([] ++ wK cy x Kc21) := hD
    refine lv_iload hx hb dL_arranges_98 (lv_at hl 3 rfl) ?_
    refine lv_icmp_ne (tgt := 114) hx hb dL_arranges_100 rfl (fun hc => ?_) (fun hc => ?_)
    · replace h := h.1 hc
      refine lv_iconst (v := 0) hx hb dL_arranges_114 (by decide) ?_
      exact W.zret hx hb hr rfl (fun t ht _ => hend 0 _ o_22 _ _ (Or.inl rfl) hG h (w_tailP hP) (w_tailD hD) hS t ht) hS.2.2 dL_arranges_115
    · replace h := h.2 hc
      refine lv_aload_n hx hb dL_arranges_103 rfl (lv_at hl 0 rfl) ?_
      refine lv_bipush (v := 11) hx hb dL_arranges_104 (by decide) ?_
      refine w_callK0 (pl := []) hP hD hS hA (va_runV (As := [.int 11]) (rest := []) ⟨hx, hb, hml, hown, hts⟩ (m_count l D cy H.size x Kc21 o_22 hG 11) (cwV 1 hts gL_arranges_X8_count rfl rfl rfl (by decide +kernel) ⟨Nat.le_of_ble_eq_true rfl, Nat.le_of_ble_eq_true rfl⟩) (w_preVK (pl := []) (ci := 8) hE hS hA hK hP hD rfl rfl) rfl rfl hl.1 rfl (lv_room (Nat.le_of_ble_eq_true rfl)) dL_arranges_106 ⟨Nat.le_of_ble_eq_true rfl, Nat.le_of_ble_eq_true rfl⟩) (fun r23 u H locs hw hP hD hS => ?_)
      obtain ⟨Kc24, rfl, hG, hr_⟩ := hw
      replace h := h r23 hr_
      clear hr_
      have hP : va_P D vwCl ([] ++ wK cy x Kc24) H := hP
      have hD : va_D A ([] ++ wK cy x Kc24) := hD
      refine lv_iload hx hb dL_arranges_109 (lv_at hl 4 rfl) ?_
      refine lv_icmp_eq (tgt := 116) hx hb dL_arranges_111 rfl (fun hc => ?_) (fun hc => ?_)
      · replace h := h.1 hc
        refine lv_aload_n hx hb dL_arranges_116 rfl (lv_at hl 0 rfl) ?_
        refine lv_iconst (v := 2) hx hb dL_arranges_117 (by decide) ?_
        refine w_callK0 (pl := []) hP hD hS hA (va_runV (As := [.int 2]) (rest := []) ⟨hx, hb, hml, hown, hts⟩ (m_count l D cy H.size x Kc24 o_22 hG 2) (cwV 1 hts gL_arranges_X8_count rfl rfl rfl (by decide +kernel) ⟨Nat.le_of_ble_eq_true rfl, Nat.le_of_ble_eq_true rfl⟩) (w_preVK (pl := []) (ci := 8) hE hS hA hK hP hD rfl rfl) rfl rfl hl.1 rfl (lv_room (Nat.le_of_ble_eq_true rfl)) dL_arranges_118 ⟨Nat.le_of_ble_eq_true rfl, Nat.le_of_ble_eq_true rfl⟩) (fun r26 u H locs hw hP hD hS => ?_)
        obtain ⟨Kc27, rfl, hG, hr_⟩ := hw
        replace h := h r26 hr_
        clear hr_
        have hP : va_P D vwCl ([] ++ wK cy x Kc27) H := hP
        have hD : va_D A ([] ++ wK cy x Kc27) := hD
        refine lv_aload_n hx hb dL_arranges_121 rfl (lv_at hl 0 rfl) ?_
        refine lv_iconst (v := 3) hx hb dL_arranges_122 (by decide) ?_
        refine w_callK0 (pl := []) hP hD hS hA (va_runV (As := [.int 3]) (rest := [.int r26]) ⟨hx, hb, hml, hown, hts⟩ (m_count l D cy H.size x Kc27 o_22 hG 3) (cwV 1 hts gL_arranges_X8_count rfl rfl rfl (by decide +kernel) ⟨Nat.le_of_ble_eq_true rfl, Nat.le_of_ble_eq_true rfl⟩) (w_preVK (pl := []) (ci := 8) hE hS hA hK hP hD rfl rfl) rfl rfl hl.1 rfl (lv_room (Nat.le_of_ble_eq_true rfl)) dL_arranges_123 ⟨Nat.le_of_ble_eq_true rfl, Nat.le_of_ble_eq_true rfl⟩) (fun r29 u H locs hw hP hD hS => ?_)
        obtain ⟨Kc30, rfl, hG, hr_⟩ := hw
        replace h := h r29 hr_
        clear hr_
        have hP : va_P D vwCl ([] ++ wK cy x Kc30) H := hP
        have hD : va_D A ([] ++ wK cy x Kc30) := hD
        refine lv_icmp_le (tgt := 137) hx hb dL_arranges_126 rfl (fun hc => ?_) (fun hc => ?_)
        · replace h := h.1 hc
          refine lv_aload_n hx hb dL_arranges_137 rfl (lv_at hl 0 rfl) ?_
          refine lv_iconst (v := 3) hx hb dL_arranges_138 (by decide) ?_
          refine w_callK0 (pl := []) hP hD hS hA (va_runV (As := [.int 3]) (rest := []) ⟨hx, hb, hml, hown, hts⟩ (m_count l D cy H.size x Kc30 o_22 hG 3) (cwV 1 hts gL_arranges_X8_count rfl rfl rfl (by decide +kernel) ⟨Nat.le_of_ble_eq_true rfl, Nat.le_of_ble_eq_true rfl⟩) (w_preVK (pl := []) (ci := 8) hE hS hA hK hP hD rfl rfl) rfl rfl hl.1 rfl (lv_room (Nat.le_of_ble_eq_true rfl)) dL_arranges_139 ⟨Nat.le_of_ble_eq_true rfl, Nat.le_of_ble_eq_true rfl⟩) (fun r32 u H locs hw hP hD hS => ?_)
          obtain ⟨Kc33, rfl, hG, hr_⟩ := hw
          replace h := h r32 hr_
          clear hr_
          have hP : va_P D vwCl ([] ++ wK cy x Kc33) H := hP
          have hD : va_D A ([] ++ wK cy x Kc33) := hD
          exact j142 o_22 x3 x6 r32 h _ hG _ _ hP hD hS _ (lv_sub hl [0, 1, 2, 5] rfl)
        · replace h := h.2 hc
          refine lv_aload_n hx hb dL_arranges_129 rfl (lv_at hl 0 rfl) ?_
          refine lv_iconst (v := 2) hx hb dL_arranges_130 (by decide) ?_
          refine w_callK0 (pl := []) hP hD hS hA (va_runV (As := [.int 2]) (rest := []) ⟨hx, hb, hml, hown, hts⟩ (m_count l D cy H.size x Kc30 o_22 hG 2) (cwV 1 hts gL_arranges_X8_count rfl rfl rfl (by decide +kernel) ⟨Nat.le_of_ble_eq_true rfl, Nat.le_of_ble_eq_true rfl⟩) (w_preVK (pl := []) (ci := 8) hE hS hA hK hP hD rfl rfl) rfl rfl hl.1 rfl (lv_room (Nat.le_of_ble_eq_true rfl)) dL_arranges_131 ⟨Nat.le_of_ble_eq_true rfl, Nat.le_of_ble_eq_true rfl⟩) (fun r35 u H locs hw hP hD hS => ?_)
          obtain ⟨Kc36, rfl, hG, hr_⟩ := hw
          replace h := h r35 hr_
          clear hr_
          have hP : va_P D vwCl ([] ++ wK cy x Kc36) H := hP
          have hD : va_D A ([] ++ wK cy x Kc36) := hD
          refine lv_goto (tgt := 142) hx hb dL_arranges_134 rfl ?_
          exact j142 o_22 x3 x6 r35 h _ hG _ _ hP hD hS _ (lv_sub hl [0, 1, 2, 5] rfl)
      · replace h := h.2 hc
        refine lv_iconst (v := 0) hx hb dL_arranges_114 (by decide) ?_
        exact W.zret hx hb hr rfl (fun t ht _ => hend 0 _ o_22 _ _ (Or.inl rfl) hG h (w_tailP hP) (w_tailD hD) hS t ht) hS.2.2 dL_arranges_115
  have j38 : ∀ (o : aO) (k0 : Int32), p_L_arranges_38 a1 o k0 Q → ∀ (K : sK), Good o K → ∀ (H : Heap) (locs : List Loc), va_P D vwCl ([] ++ wK cy x K) H → va_D A ([] ++ wK cy x K) → va_S A s.heap H locs → ∀ (ls : Array Slot), lv_has ls 9 [(0, .ref (x 0)), (1, .int a1)] → W p l e r_L_arranges s m args below meth c H locs 0 0 (MQ below Qc args s 0 0 A) (F0 m 38 ls [.int k0]) := by
    intro o k0 h K hG H locs hP hD hS ls hl
    unfold p_L_arranges_38 at h
    refine lv_istore_n (lv' := [(2, .int k0), (0, .ref (x 0)), (1, .int a1)]) hx hb dL_arranges_38 rfl hl (by decide) rfl (fun ls hl => ?_)
    refine lv_aload_n hx hb dL_arranges_39 rfl (lv_at hl 1 rfl) ?_
    refine lv_iconst (v := 0) hx hb dL_arranges_40 (by decide) ?_
    refine w_callK0 (pl := []) hP hD hS hA (va_runV (As := [.int 0]) (rest := []) ⟨hx, hb, hml, hown, hts⟩ (m_bestSides l D cy H.size x K o hG 0) (cwV 1 hts gL_arranges_X8_bestSides rfl rfl rfl (by decide +kernel) ⟨Nat.le_of_ble_eq_true rfl, Nat.le_of_ble_eq_true rfl⟩) (w_preVK (pl := []) (ci := 8) hE hS hA hK hP hD rfl rfl) rfl rfl hl.1 rfl (lv_room (Nat.le_of_ble_eq_true rfl)) dL_arranges_41 ⟨Nat.le_of_ble_eq_true rfl, Nat.le_of_ble_eq_true rfl⟩) (fun r38 u H locs hw hP hD hS => ?_)
    obtain ⟨Kc39, rfl, hG, hr_⟩ := hw
    replace h := h r38 hr_
    clear hr_
    have hP : va_P D vwCl ([] ++ wK cy x Kc39) H := hP
    have hD : va_D A ([] ++ wK cy x Kc39) := hD
    refine lv_istore_n (lv' := [(3, .int r38), (2, .int k0), (0, .ref (x 0)), (1, .int a1)]) hx hb dL_arranges_44 rfl hl (by decide) rfl (fun ls hl => ?_)
    refine lv_aload_n hx hb dL_arranges_45 rfl (lv_at hl 2 rfl) ?_
    refine lv_iconst (v := 1) hx hb dL_arranges_46 (by decide) ?_
    refine w_callK0 (pl := []) hP hD hS hA (va_runV (As := [.int 1]) (rest := []) ⟨hx, hb, hml, hown, hts⟩ (m_bestSides l D cy H.size x Kc39 o hG 1) (cwV 1 hts gL_arranges_X8_bestSides rfl rfl rfl (by decide +kernel) ⟨Nat.le_of_ble_eq_true rfl, Nat.le_of_ble_eq_true rfl⟩) (w_preVK (pl := []) (ci := 8) hE hS hA hK hP hD rfl rfl) rfl rfl hl.1 rfl (lv_room (Nat.le_of_ble_eq_true rfl)) dL_arranges_47 ⟨Nat.le_of_ble_eq_true rfl, Nat.le_of_ble_eq_true rfl⟩) (fun r41 u H locs hw hP hD hS => ?_)
    obtain ⟨Kc42, rfl, hG, hr_⟩ := hw
    replace h := h r41 hr_
    clear hr_
    have hP : va_P D vwCl ([] ++ wK cy x Kc42) H := hP
    have hD : va_D A ([] ++ wK cy x Kc42) := hD
    refine lv_istore (lv' := [(4, .int r41), (3, .int r38), (2, .int k0), (0, .ref (x 0)), (1, .int a1)]) hx hb dL_arranges_50 hl (by decide) rfl (fun ls hl => ?_)
    refine lv_aload_n hx hb dL_arranges_52 rfl (lv_at hl 3 rfl) ?_
    refine lv_iconst (v := 3) hx hb dL_arranges_53 (by decide) ?_
    refine w_callK0 (pl := []) hP hD hS hA (va_runV (As := [.int 3]) (rest := []) ⟨hx, hb, hml, hown, hts⟩ (m_bestSides l D cy H.size x Kc42 o hG 3) (cwV 1 hts gL_arranges_X8_bestSides rfl rfl rfl (by decide +kernel) ⟨Nat.le_of_ble_eq_true rfl, Nat.le_of_ble_eq_true rfl⟩) (w_preVK (pl := []) (ci := 8) hE hS hA hK hP hD rfl rfl) rfl rfl hl.1 rfl (lv_room (Nat.le_of_ble_eq_true rfl)) dL_arranges_54 ⟨Nat.le_of_ble_eq_true rfl, Nat.le_of_ble_eq_true rfl⟩) (fun r44 u H locs hw hP hD hS => ?_)
    obtain ⟨Kc45, rfl, hG, hr_⟩ := hw
    replace h := h r44 hr_
    clear hr_
    have hP : va_P D vwCl ([] ++ wK cy x Kc45) H := hP
    have hD : va_D A ([] ++ wK cy x Kc45) := hD
    refine lv_istore (lv' := [(5, .int r44), (4, .int r41), (3, .int r38), (2, .int k0), (0, .ref (x 0)), (1, .int a1)]) hx hb dL_arranges_57 hl (by decide) rfl (fun ls hl => ?_)
    refine lv_aload_n hx hb dL_arranges_59 rfl (lv_at hl 4 rfl) ?_
    refine lv_iconst (v := 2) hx hb dL_arranges_60 (by decide) ?_
    refine w_callK0 (pl := []) hP hD hS hA (va_runV (As := [.int 2]) (rest := []) ⟨hx, hb, hml, hown, hts⟩ (m_bestSides l D cy H.size x Kc45 o hG 2) (cwV 1 hts gL_arranges_X8_bestSides rfl rfl rfl (by decide +kernel) ⟨Nat.le_of_ble_eq_true rfl, Nat.le_of_ble_eq_true rfl⟩) (w_preVK (pl := []) (ci := 8) hE hS hA hK hP hD rfl rfl) rfl rfl hl.1 rfl (lv_room (Nat.le_of_ble_eq_true rfl)) dL_arranges_61 ⟨Nat.le_of_ble_eq_true rfl, Nat.le_of_ble_eq_true rfl⟩) (fun r47 u H locs hw hP hD hS => ?_)
    obtain ⟨Kc48, rfl, hG, hr_⟩ := hw
    replace h := h r47 hr_
    clear hr_
    have hP : va_P D vwCl ([] ++ wK cy x Kc48) H := hP
    have hD : va_D A ([] ++ wK cy x Kc48) := hD
    refine lv_istore (lv' := [(6, .int r47), (5, .int r44), (4, .int r41), (3, .int r38), (2, .int k0), (0, .ref (x 0)), (1, .int a1)]) hx hb dL_arranges_64 hl (by decide) rfl (fun ls hl => ?_)
    refine lv_iload hx hb dL_arranges_66 (lv_at hl 1 rfl) ?_
    refine lv_aload_n hx hb dL_arranges_68 rfl (lv_at hl 5 rfl) ?_
    refine lv_bipush (v := 11) hx hb dL_arranges_69 (by decide) ?_
    refine w_callK0 (pl := []) hP hD hS hA (va_runV (As := [.int 11]) (rest := [.int r44]) ⟨hx, hb, hml, hown, hts⟩ (m_count l D cy H.size x Kc48 o hG 11) (cwV 1 hts gL_arranges_X8_count rfl rfl rfl (by decide +kernel) ⟨Nat.le_of_ble_eq_true rfl, Nat.le_of_ble_eq_true rfl⟩) (w_preVK (pl := []) (ci := 8) hE hS hA hK hP hD rfl rfl) rfl rfl hl.1 rfl (lv_room (Nat.le_of_ble_eq_true rfl)) dL_arranges_71 ⟨Nat.le_of_ble_eq_true rfl, Nat.le_of_ble_eq_true rfl⟩) (fun r50 u H locs hw hP hD hS => ?_)
    obtain ⟨Kc51, rfl, hG, hr_⟩ := hw
    replace h := h r50 hr_
    clear hr_
    have hP : va_P D vwCl ([] ++ wK cy x Kc51) H := hP
    have hD : va_D A ([] ++ wK cy x Kc51) := hD
    refine lv_icmp_lt (tgt := 114) hx hb dL_arranges_74 rfl (fun hc => ?_) (fun hc => ?_)
    · replace h := h.1 hc
      refine lv_iconst (v := 0) hx hb dL_arranges_114 (by decide) ?_
      exact W.zret hx hb hr rfl (fun t ht _ => hend 0 _ o _ _ (Or.inl rfl) hG h (w_tailP hP) (w_tailD hD) hS t ht) hS.2.2 dL_arranges_115
    · replace h := h.2 hc
      refine lv_iload hx hb dL_arranges_77 (lv_at hl 1 rfl) ?_
      refine lv_aload_n hx hb dL_arranges_79 rfl (lv_at hl 5 rfl) ?_
      refine lv_bipush (v := 11) hx hb dL_arranges_80 (by decide) ?_
      refine w_callK0 (pl := []) hP hD hS hA (va_runV (As := [.int 11]) (rest := [.int r44]) ⟨hx, hb, hml, hown, hts⟩ (m_count l D cy H.size x Kc51 o hG 11) (cwV 1 hts gL_arranges_X8_count rfl rfl rfl (by decide +kernel) ⟨Nat.le_of_ble_eq_true rfl, Nat.le_of_ble_eq_true rfl⟩) (w_preVK (pl := []) (ci := 8) hE hS hA hK hP hD rfl rfl) rfl rfl hl.1 rfl (lv_room (Nat.le_of_ble_eq_true rfl)) dL_arranges_82 ⟨Nat.le_of_ble_eq_true rfl, Nat.le_of_ble_eq_true rfl⟩) (fun r53 u H locs hw hP hD hS => ?_)
      obtain ⟨Kc54, rfl, hG, hr_⟩ := hw
      replace h := h r53 hr_
      clear hr_
      have hP : va_P D vwCl ([] ++ wK cy x Kc54) H := hP
      have hD : va_D A ([] ++ wK cy x Kc54) := hD
      refine lv_icmp_ne (tgt := 94) hx hb dL_arranges_85 rfl (fun hc => ?_) (fun hc => ?_)
      · replace h := h.1 hc
        exact j94 o r38 r41 r44 r47 h _ hG _ _ hP hD hS _ (lv_sub hl [5, 6, 3, 2, 1, 0] rfl)
      · replace h := h.2 hc
        refine lv_iload hx hb dL_arranges_88 (lv_at hl 2 rfl) ?_
        refine lv_iload_n hx hb dL_arranges_90 rfl (lv_at hl 4 rfl) ?_
        refine lv_icmp_gt (tgt := 114) hx hb dL_arranges_91 rfl (fun hc => ?_) (fun hc => ?_)
        · replace h := h.1 hc
          refine lv_iconst (v := 0) hx hb dL_arranges_114 (by decide) ?_
          exact W.zret hx hb hr rfl (fun t ht _ => hend 0 _ o _ _ (Or.inl rfl) hG h (w_tailP hP) (w_tailD hD) hS t ht) hS.2.2 dL_arranges_115
        · replace h := h.2 hc
          exact j94 o r38 r41 r44 r47 h _ hG _ _ hP hD hS _ (lv_sub hl [5, 6, 3, 2, 1, 0] rfl)
  unfold p_L_arranges at h
  suffices key : ∀ (H : Heap) (locs : List Loc), va_P D vwCl ([] ++ wK cy x K) H → va_D A ([] ++ wK cy x K) → va_S A s.heap H locs → W p l e r_L_arranges s m args below meth c H locs 0 0 (MQ below Qc args s 0 0 A) (F0 m 0 ls []) from key s.heap [] hP hD hS
  clear hP hD hS
  intro H locs hP hD hS
  refine lv_aload_n hx hb dL_arranges_0 rfl (lv_at hl 0 rfl) ?_
  refine lv_iconst (v := 4) hx hb dL_arranges_1 (by decide) ?_
  refine w_callK0 (pl := []) hP hD hS hA (va_runV (As := [.int 4]) (rest := []) ⟨hx, hb, hml, hown, hts⟩ (m_count l D cy H.size x K o hG 4) (cwV 1 hts gL_arranges_X8_count rfl rfl rfl (by decide +kernel) ⟨Nat.le_of_ble_eq_true rfl, Nat.le_of_ble_eq_true rfl⟩) (w_preVK (pl := []) (ci := 8) hE hS hA hK hP hD rfl rfl) rfl rfl hl.1 rfl (lv_room (Nat.le_of_ble_eq_true rfl)) dL_arranges_2 ⟨Nat.le_of_ble_eq_true rfl, Nat.le_of_ble_eq_true rfl⟩) (fun r56 u H locs hw hP hD hS => ?_)
  obtain ⟨Kc57, rfl, hG, hr_⟩ := hw
  replace h := h r56 hr_
  clear hr_
  have hP : va_P D vwCl ([] ++ wK cy x Kc57) H := hP
  have hD : va_D A ([] ++ wK cy x Kc57) := hD
  refine lv_aload_n hx hb dL_arranges_5 rfl (lv_at hl 0 rfl) ?_
  refine lv_iconst (v := 5) hx hb dL_arranges_6 (by decide) ?_
  refine w_callK0 (pl := []) hP hD hS hA (va_runV (As := [.int 5]) (rest := [.int r56]) ⟨hx, hb, hml, hown, hts⟩ (m_count l D cy H.size x Kc57 o hG 5) (cwV 1 hts gL_arranges_X8_count rfl rfl rfl (by decide +kernel) ⟨Nat.le_of_ble_eq_true rfl, Nat.le_of_ble_eq_true rfl⟩) (w_preVK (pl := []) (ci := 8) hE hS hA hK hP hD rfl rfl) rfl rfl hl.1 rfl (lv_room (Nat.le_of_ble_eq_true rfl)) dL_arranges_7 ⟨Nat.le_of_ble_eq_true rfl, Nat.le_of_ble_eq_true rfl⟩) (fun r59 u H locs hw hP hD hS => ?_)
  obtain ⟨Kc60, rfl, hG, hr_⟩ := hw
  replace h := h r59 hr_
  clear hr_
  have hP : va_P D vwCl ([] ++ wK cy x Kc60) H := hP
  have hD : va_D A ([] ++ wK cy x Kc60) := hD
  refine lv_icmp_le (tgt := 27) hx hb dL_arranges_10 rfl (fun hc => ?_) (fun hc => ?_)
  · replace h := h.1 hc
    refine lv_aload_n hx hb dL_arranges_27 rfl (lv_at hl 0 rfl) ?_
    refine lv_iconst (v := 5) hx hb dL_arranges_28 (by decide) ?_
    refine w_callK0 (pl := []) hP hD hS hA (va_runV (As := [.int 5]) (rest := []) ⟨hx, hb, hml, hown, hts⟩ (m_count l D cy H.size x Kc60 o hG 5) (cwV 1 hts gL_arranges_X8_count rfl rfl rfl (by decide +kernel) ⟨Nat.le_of_ble_eq_true rfl, Nat.le_of_ble_eq_true rfl⟩) (w_preVK (pl := []) (ci := 8) hE hS hA hK hP hD rfl rfl) rfl rfl hl.1 rfl (lv_room (Nat.le_of_ble_eq_true rfl)) dL_arranges_29 ⟨Nat.le_of_ble_eq_true rfl, Nat.le_of_ble_eq_true rfl⟩) (fun r62 u H locs hw hP hD hS => ?_)
    obtain ⟨Kc63, rfl, hG, hr_⟩ := hw
    replace h := h r62 hr_
    clear hr_
    have hP : va_P D vwCl ([] ++ wK cy x Kc63) H := hP
    have hD : va_D A ([] ++ wK cy x Kc63) := hD
    refine lv_aload_n hx hb dL_arranges_32 rfl (lv_at hl 0 rfl) ?_
    refine lv_iconst (v := 4) hx hb dL_arranges_33 (by decide) ?_
    refine w_callK0 (pl := []) hP hD hS hA (va_runV (As := [.int 4]) (rest := [.int r62]) ⟨hx, hb, hml, hown, hts⟩ (m_count l D cy H.size x Kc63 o hG 4) (cwV 1 hts gL_arranges_X8_count rfl rfl rfl (by decide +kernel) ⟨Nat.le_of_ble_eq_true rfl, Nat.le_of_ble_eq_true rfl⟩) (w_preVK (pl := []) (ci := 8) hE hS hA hK hP hD rfl rfl) rfl rfl hl.1 rfl (lv_room (Nat.le_of_ble_eq_true rfl)) dL_arranges_34 ⟨Nat.le_of_ble_eq_true rfl, Nat.le_of_ble_eq_true rfl⟩) (fun r65 u H locs hw hP hD hS => ?_)
    obtain ⟨Kc66, rfl, hG, hr_⟩ := hw
    replace h := h r65 hr_
    clear hr_
    have hP : va_P D vwCl ([] ++ wK cy x Kc66) H := hP
    have hD : va_D A ([] ++ wK cy x Kc66) := hD
    refine lv_isub hx hb dL_arranges_37 ?_
    exact j38 o ((r62 - r65)) h _ hG _ _ hP hD hS _ (lv_sub hl [0, 1] rfl)
  · replace h := h.2 hc
    refine lv_aload_n hx hb dL_arranges_13 rfl (lv_at hl 0 rfl) ?_
    refine lv_iconst (v := 4) hx hb dL_arranges_14 (by decide) ?_
    refine w_callK0 (pl := []) hP hD hS hA (va_runV (As := [.int 4]) (rest := []) ⟨hx, hb, hml, hown, hts⟩ (m_count l D cy H.size x Kc60 o hG 4) (cwV 1 hts gL_arranges_X8_count rfl rfl rfl (by decide +kernel) ⟨Nat.le_of_ble_eq_true rfl, Nat.le_of_ble_eq_true rfl⟩) (w_preVK (pl := []) (ci := 8) hE hS hA hK hP hD rfl rfl) rfl rfl hl.1 rfl (lv_room (Nat.le_of_ble_eq_true rfl)) dL_arranges_15 ⟨Nat.le_of_ble_eq_true rfl, Nat.le_of_ble_eq_true rfl⟩) (fun r68 u H locs hw hP hD hS => ?_)
    obtain ⟨Kc69, rfl, hG, hr_⟩ := hw
    replace h := h r68 hr_
    clear hr_
    have hP : va_P D vwCl ([] ++ wK cy x Kc69) H := hP
    have hD : va_D A ([] ++ wK cy x Kc69) := hD
    refine lv_aload_n hx hb dL_arranges_18 rfl (lv_at hl 0 rfl) ?_
    refine lv_iconst (v := 5) hx hb dL_arranges_19 (by decide) ?_
    refine w_callK0 (pl := []) hP hD hS hA (va_runV (As := [.int 5]) (rest := [.int r68]) ⟨hx, hb, hml, hown, hts⟩ (m_count l D cy H.size x Kc69 o hG 5) (cwV 1 hts gL_arranges_X8_count rfl rfl rfl (by decide +kernel) ⟨Nat.le_of_ble_eq_true rfl, Nat.le_of_ble_eq_true rfl⟩) (w_preVK (pl := []) (ci := 8) hE hS hA hK hP hD rfl rfl) rfl rfl hl.1 rfl (lv_room (Nat.le_of_ble_eq_true rfl)) dL_arranges_20 ⟨Nat.le_of_ble_eq_true rfl, Nat.le_of_ble_eq_true rfl⟩) (fun r71 u H locs hw hP hD hS => ?_)
    obtain ⟨Kc72, rfl, hG, hr_⟩ := hw
    replace h := h r71 hr_
    clear hr_
    have hP : va_P D vwCl ([] ++ wK cy x Kc72) H := hP
    have hD : va_D A ([] ++ wK cy x Kc72) := hD
    refine lv_isub hx hb dL_arranges_23 ?_
    refine lv_goto (tgt := 38) hx hb dL_arranges_24 rfl ?_
    exact j38 o ((r68 - r71)) h _ hG _ _ hP hD hS _ (lv_sub hl [0, 1] rfl)

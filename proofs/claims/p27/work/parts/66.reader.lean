abbrev r_J0_coder_7d493 : Room := { frames := 0, cells := 0, slots := 0, locals := 0 }
set_option maxHeartbeats 4000000 in
set_option maxRecDepth 100000 in
theorem c_J0_coder_7d493 (l : Launch) (H0 : Heap) (sk sv : Nat → Nat) (si : Nat) (hsi : si < 2)   (Q : Int32 → Prop) (hq : p_J0_coder_7d493 Q) : Met l yJ0_coder_7d493 wsJ0_coder_7d493 r_J0_coder_7d493 (wPS [.ref (sk si)] H0 sk sv) (wQR Q H0) 0 0 wNo := by
  refine Met.ofW (cc := cJ0_coder_7d493) (maxL := 1) (ret := (some .byte)) (by decide) rfl ?_
  intro p e s m args below meth c s₁ B hml hv
  obtain ⟨hargs, hH, hT⟩ := hv
  have hx := B.exec
  have hb := B.bytes
  have hr := B.returns
  have hts := atoms_spec (ws := wsJ0_coder_7d493) B.pre
  have hown : s.vm.findClass RJ0 = some m.cls := findClass_of_methodNamed B.named
  have hlocks := B.notSynchronized
  clear B
  subst hH
  have hend : ∀ (r : Int32), Q r → ∀ T9 : State, T9.heap = s.heap → (wQR Q s.heap) args s (.returned (some (.int r))) T9 := fun r hq T9 ht => ⟨⟨r, (), rfl, hq, ht⟩, by rw [ht]; exact Nat.le_refl _, fun _ _ _ => by rw [ht]⟩
  generalize (wQR Q s.heap) = Qc at hend ⊢
  have hS : va_S wNo s.heap s.heap [] := va_S.rf
  show W p l e r_J0_coder_7d493 s m args below meth c s.heap [] 0 0 (MQ below Qc args s 0 0 wNo) (entryFrame m args 1)
  rw [show entryFrame m args 1 = entryFrame m ([.ref (sk si)] : List Value).toArray 1 from by rw [hargs]]
  have hl := lv_entry ([.ref (sk si)]) (n := 1) (Nat.le_of_ble_eq_true rfl)
  rw [lg_entry_eq]
  generalize (lg_sl ([.ref (sk si)]) ++ List.replicate (1 - (lg_sl ([.ref (sk si)])).length) Slot.unset).toArray = ls at hl ⊢
  have hl : lv_has ls 1 [(0, .ref (sk si))] := hl
  have h := hq
  clear hargs hq
  unfold p_J0_coder_7d493 at h
  refine va_gets hx hb hT.1 hS hown (hts (.fieldLink RJ0 38 "java/lang/String" "COMPACT_STRINGS" "Z") (by decide +kernel)) (fun _ h9 => h9) dJ0_coder_7d493_0 ?_
  refine lv_if_eq (tgt := 13) hx hb dJ0_coder_7d493_3 rfl (fun hc => ?_) (fun hc => ?_)
  · replace h := h.1 hc
    refine lv_iconst (v := 1) hx hb dJ0_coder_7d493_13 (by decide) ?_
    exact W.zret hx hb hr rfl (fun t ht _ => hend 1 h t ht) hS.2.2 dJ0_coder_7d493_14
  · replace h := h.2 hc
    refine lv_aload_n hx hb dJ0_coder_7d493_6 rfl (lv_at hl 0 rfl) ?_
    refine vk_getf hx hb (hT.2.1.1 si hsi).2.1 hS hown (hts (.fieldLink RJ0 15 "java/lang/String" "coder" "B") (by decide +kernel)) (fun _ h9 => h9) dJ0_coder_7d493_7 ?_
    refine lv_goto (tgt := 14) hx hb dJ0_coder_7d493_10 rfl ?_
    exact W.zret hx hb hr rfl (fun t ht _ => hend 0 h t ht) hS.2.2 dJ0_coder_7d493_14

abbrev r_J0_isLatin1_aae02 : Room := { frames := 0, cells := 0, slots := 0, locals := 0 }
set_option maxHeartbeats 4000000 in
set_option maxRecDepth 100000 in
theorem c_J0_isLatin1_aae02 (l : Launch) (H0 : Heap) (sk sv : Nat → Nat) (si : Nat) (hsi : si < 2)   (Q : Int32 → Prop) (hq : p_J0_isLatin1_aae02 Q) : Met l yJ0_isLatin1_aae02 wsJ0_isLatin1_aae02 r_J0_isLatin1_aae02 (wPS [.ref (sk si)] H0 sk sv) (wQZ Q H0) 0 0 wNo := by
  refine Met.ofW (cc := cJ0_isLatin1_aae02) (maxL := 1) (ret := (some .boolean)) (by decide) rfl ?_
  intro p e s m args below meth c s₁ B hml hv
  obtain ⟨hargs, hH, hT⟩ := hv
  have hx := B.exec
  have hb := B.bytes
  have hr := B.returns
  have hts := atoms_spec (ws := wsJ0_isLatin1_aae02) B.pre
  have hown : s.vm.findClass RJ0 = some m.cls := findClass_of_methodNamed B.named
  have hlocks := B.notSynchronized
  clear B
  subst hH
  have hend : ∀ (r : Int32), (r = 0 ∨ r = 1) → Q r → ∀ T9 : State, T9.heap = s.heap → (wQZ Q s.heap) args s (.returned (some (.int r))) T9 := fun r hz hq T9 ht => ⟨⟨r, (), rfl, ⟨hz, hq⟩, ht⟩, by rw [ht]; exact Nat.le_refl _, fun _ _ _ => by rw [ht]⟩
  generalize (wQZ Q s.heap) = Qc at hend ⊢
  have hS : va_S wNo s.heap s.heap [] := va_S.rf
  show W p l e r_J0_isLatin1_aae02 s m args below meth c s.heap [] 0 0 (MQ below Qc args s 0 0 wNo) (entryFrame m args 1)
  rw [show entryFrame m args 1 = entryFrame m ([.ref (sk si)] : List Value).toArray 1 from by rw [hargs]]
  have hl := lv_entry ([.ref (sk si)]) (n := 1) (Nat.le_of_ble_eq_true rfl)
  rw [lg_entry_eq]
  generalize (lg_sl ([.ref (sk si)]) ++ List.replicate (1 - (lg_sl ([.ref (sk si)])).length) Slot.unset).toArray = ls at hl ⊢
  have hl : lv_has ls 1 [(0, .ref (sk si))] := hl
  have h := hq
  clear hargs hq
  unfold p_J0_isLatin1_aae02 at h
  refine va_gets hx hb hT.1 hS hown (hts (.fieldLink RJ0 38 "java/lang/String" "COMPACT_STRINGS" "Z") (by decide +kernel)) (fun _ h9 => h9) dJ0_isLatin1_aae02_0 ?_
  refine lv_if_eq (tgt := 17) hx hb dJ0_isLatin1_aae02_3 rfl (fun hc => ?_) (fun hc => ?_)
  · replace h := h.1 hc
    refine lv_iconst (v := 0) hx hb dJ0_isLatin1_aae02_17 (by decide) ?_
    exact W.zret hx hb hr rfl (fun t ht _ => hend 0 (by decide) h t ht) hS.2.2 dJ0_isLatin1_aae02_18
  · replace h := h.2 hc
    refine lv_aload_n hx hb dJ0_isLatin1_aae02_6 rfl (lv_at hl 0 rfl) ?_
    refine vk_getf hx hb (hT.2.1.1 si hsi).2.1 hS hown (hts (.fieldLink RJ0 15 "java/lang/String" "coder" "B") (by decide +kernel)) (fun _ h9 => h9) dJ0_isLatin1_aae02_7 ?_
    refine lv_if_ne (tgt := 17) hx hb dJ0_isLatin1_aae02_10 rfl (fun hc => ?_) (fun hc => ?_)
    · replace h := h.1 hc
      refine lv_iconst (v := 0) hx hb dJ0_isLatin1_aae02_17 (by decide) ?_
      exact W.zret hx hb hr rfl (fun t ht _ => hend 0 (by decide) h t ht) hS.2.2 dJ0_isLatin1_aae02_18
    · replace h := h.2 hc
      refine lv_iconst (v := 1) hx hb dJ0_isLatin1_aae02_13 (by decide) ?_
      refine lv_goto (tgt := 18) hx hb dJ0_isLatin1_aae02_14 rfl ?_
      exact W.zret hx hb hr rfl (fun t ht _ => hend 1 (by decide) h t ht) hS.2.2 dJ0_isLatin1_aae02_18

abbrev r_J0_length_8abf5 : Room := { frames := 1, cells := 0, slots := 0, locals := 20 }
set_option maxHeartbeats 4000000 in
set_option maxRecDepth 100000 in
theorem c_J0_length_8abf5 (l : Launch) (H0 : Heap) (sk sv : Nat → Nat) (si : Nat) (hsi : si < 2)   (Q : Int32 → Prop) (hq : p_J0_length_8abf5 si Q) : Met l yJ0_length_8abf5 wsJ0_length_8abf5 r_J0_length_8abf5 (wPS [.ref (sk si)] H0 sk sv) (wQR Q H0) 0 0 wNo := by
  refine Met.ofW (cc := cJ0_length_8abf5) (maxL := 1) (ret := (some .int)) (by decide) rfl ?_
  intro p e s m args below meth c s₁ B hml hv
  obtain ⟨hargs, hH, hT⟩ := hv
  have hx := B.exec
  have hb := B.bytes
  have hr := B.returns
  have hts := atoms_spec (ws := wsJ0_length_8abf5) B.pre
  have hown : s.vm.findClass RJ0 = some m.cls := findClass_of_methodNamed B.named
  have hlocks := B.notSynchronized
  clear B
  subst hH
  have hend : ∀ (r : Int32), Q r → ∀ T9 : State, T9.heap = s.heap → (wQR Q s.heap) args s (.returned (some (.int r))) T9 := fun r hq T9 ht => ⟨⟨r, (), rfl, hq, ht⟩, by rw [ht]; exact Nat.le_refl _, fun _ _ _ => by rw [ht]⟩
  generalize (wQR Q s.heap) = Qc at hend ⊢
  have hS : va_S wNo s.heap s.heap [] := va_S.rf
  show W p l e r_J0_length_8abf5 s m args below meth c s.heap [] 0 0 (MQ below Qc args s 0 0 wNo) (entryFrame m args 1)
  rw [show entryFrame m args 1 = entryFrame m ([.ref (sk si)] : List Value).toArray 1 from by rw [hargs]]
  have hl := lv_entry ([.ref (sk si)]) (n := 1) (Nat.le_of_ble_eq_true rfl)
  rw [lg_entry_eq]
  generalize (lg_sl ([.ref (sk si)]) ++ List.replicate (1 - (lg_sl ([.ref (sk si)])).length) Slot.unset).toArray = ls at hl ⊢
  have hl : lv_has ls 1 [(0, .ref (sk si))] := hl
  have h := hq
  clear hargs hq
  unfold p_J0_length_8abf5 at h
  refine lv_aload_n hx hb dJ0_length_8abf5_0 rfl (lv_at hl 0 rfl) ?_
  refine vk_getf hx hb (hT.2.1.1 si hsi).2.2.1 hS hown (hts (.fieldLink RJ0 9 "java/lang/String" "value" "[B") (by decide +kernel)) (fun _ h9 => h9) dJ0_length_8abf5_1 ?_
  refine va_tlen hx hb (hT.2.1.1 si hsi).2.2.2 hS (v := Int32.ofNat (sLen si)) rfl dJ0_length_8abf5_4 ?_
  refine lv_aload_n hx hb dJ0_length_8abf5_5 rfl (lv_at hl 0 rfl) ?_
  refine w_callR (va_runV (As := []) (rest := [.int (Int32.ofNat (sLen si))]) ⟨hx, hb, hml, hown, hts⟩ (c_J0_coder_7d493 l s.heap  sk sv si hsi _ h) (cwV 0 hts gJ0_length_8abf5_J0_coder_7d493 rfl rfl rfl (by decide +kernel) ⟨Nat.le_of_ble_eq_true rfl, Nat.le_of_ble_eq_true rfl⟩) (w_preVS hT hS hsi) rfl rfl hl.1 rfl (lv_room (Nat.le_of_ble_eq_true rfl)) dJ0_length_8abf5_6 ⟨Nat.zero_le _, Nat.zero_le _⟩) hS (fun r1 locs h hS => ?_)
  try dsimp only at h
  refine lv_ishr hx hb dJ0_length_8abf5_9 ?_
  exact W.iret hx hb hr (fun t ht _ => hend (((Int32.ofNat (sLen si)) >>> (r1 &&& 31))) h t ht) hS.2.2 dJ0_length_8abf5_10

abbrev r_J1_canEncode_9a6ad : Room := { frames := 0, cells := 0, slots := 0, locals := 0 }
set_option maxHeartbeats 4000000 in
set_option maxRecDepth 100000 in
theorem c_J1_canEncode_9a6ad (l : Launch) (H0 : Heap) (sk sv : Nat → Nat)  (a0 : Int32) (Q : Int32 → Prop) (hq : p_J1_canEncode_9a6ad a0 Q) : Met l yJ1_canEncode_9a6ad wsJ1_canEncode_9a6ad r_J1_canEncode_9a6ad (wPS [.int a0] H0 sk sv) (wQZ Q H0) 0 0 wNo := by
  refine Met.ofW (cc := cJ1_canEncode_9a6ad) (maxL := 1) (ret := (some .boolean)) (by decide) rfl ?_
  intro p e s m args below meth c s₁ B hml hv
  obtain ⟨hargs, hH, hT⟩ := hv
  have hx := B.exec
  have hb := B.bytes
  have hr := B.returns
  have hts := atoms_spec (ws := wsJ1_canEncode_9a6ad) B.pre
  have hown : s.vm.findClass RJ1 = some m.cls := findClass_of_methodNamed B.named
  have hlocks := B.notSynchronized
  clear B
  subst hH
  have hend : ∀ (r : Int32), (r = 0 ∨ r = 1) → Q r → ∀ T9 : State, T9.heap = s.heap → (wQZ Q s.heap) args s (.returned (some (.int r))) T9 := fun r hz hq T9 ht => ⟨⟨r, (), rfl, ⟨hz, hq⟩, ht⟩, by rw [ht]; exact Nat.le_refl _, fun _ _ _ => by rw [ht]⟩
  generalize (wQZ Q s.heap) = Qc at hend ⊢
  have hS : va_S wNo s.heap s.heap [] := va_S.rf
  show W p l e r_J1_canEncode_9a6ad s m args below meth c s.heap [] 0 0 (MQ below Qc args s 0 0 wNo) (entryFrame m args 1)
  rw [show entryFrame m args 1 = entryFrame m ([.int a0] : List Value).toArray 1 from by rw [hargs]]
  have hl := lv_entry ([.int a0]) (n := 1) (Nat.le_of_ble_eq_true rfl)
  rw [lg_entry_eq]
  generalize (lg_sl ([.int a0]) ++ List.replicate (1 - (lg_sl ([.int a0])).length) Slot.unset).toArray = ls at hl ⊢
  have hl : lv_has ls 1 [(0, .int a0)] := hl
  have h := hq
  clear hargs hq
  unfold p_J1_canEncode_9a6ad at h
  refine lv_iload_n hx hb dJ1_canEncode_9a6ad_0 rfl (lv_at hl 0 rfl) ?_
  refine lv_if_lt (tgt := 15) hx hb dJ1_canEncode_9a6ad_1 rfl (fun hc => ?_) (fun hc => ?_)
  · replace h := h.1 hc
    refine lv_iconst (v := 0) hx hb dJ1_canEncode_9a6ad_15 (by decide) ?_
    exact W.zret hx hb hr rfl (fun t ht _ => hend 0 (by decide) h t ht) hS.2.2 dJ1_canEncode_9a6ad_16
  · replace h := h.2 hc
    refine lv_iload_n hx hb dJ1_canEncode_9a6ad_4 rfl (lv_at hl 0 rfl) ?_
    refine lv_sipush (v := 255) hx hb dJ1_canEncode_9a6ad_5 (by decide) ?_
    refine lv_icmp_gt (tgt := 15) hx hb dJ1_canEncode_9a6ad_8 rfl (fun hc => ?_) (fun hc => ?_)
    · replace h := h.1 hc
      refine lv_iconst (v := 0) hx hb dJ1_canEncode_9a6ad_15 (by decide) ?_
      exact W.zret hx hb hr rfl (fun t ht _ => hend 0 (by decide) h t ht) hS.2.2 dJ1_canEncode_9a6ad_16
    · replace h := h.2 hc
      refine lv_iconst (v := 1) hx hb dJ1_canEncode_9a6ad_11 (by decide) ?_
      refine lv_goto (tgt := 16) hx hb dJ1_canEncode_9a6ad_12 rfl ?_
      exact W.zret hx hb hr rfl (fun t ht _ => hend 1 (by decide) h t ht) hS.2.2 dJ1_canEncode_9a6ad_16

abbrev r_J1_indexOfChar_4cfef : Room := { frames := 0, cells := 0, slots := 0, locals := 0 }
set_option maxHeartbeats 4000000 in
set_option maxRecDepth 100000 in
theorem c_J1_indexOfChar_4cfef (l : Launch) (H0 : Heap) (sk sv : Nat → Nat) (si : Nat) (hsi : si < 2)  (a1 : Int32) (a2 : Int32) (a3 : Int32) (Q : Int32 → Prop) (hq : p_J1_indexOfChar_4cfef si a1 a2 a3 Q) : Met l yJ1_indexOfChar_4cfef wsJ1_indexOfChar_4cfef r_J1_indexOfChar_4cfef (wPS [.ref (sv si), .int a1, .int a2, .int a3] H0 sk sv) (wQR Q H0) 0 0 wNo := by
  refine Met.ofW (cc := cJ1_indexOfChar_4cfef) (maxL := 6) (ret := (some .int)) (by decide) rfl ?_
  intro p e s m args below meth c s₁ B hml hv
  obtain ⟨hargs, hH, hT⟩ := hv
  have hx := B.exec
  have hb := B.bytes
  have hr := B.returns
  have hts := atoms_spec (ws := wsJ1_indexOfChar_4cfef) B.pre
  have hown : s.vm.findClass RJ1 = some m.cls := findClass_of_methodNamed B.named
  have hlocks := B.notSynchronized
  clear B
  subst hH
  have hend : ∀ (r : Int32), Q r → ∀ T9 : State, T9.heap = s.heap → (wQR Q s.heap) args s (.returned (some (.int r))) T9 := fun r hq T9 ht => ⟨⟨r, (), rfl, hq, ht⟩, by rw [ht]; exact Nat.le_refl _, fun _ _ _ => by rw [ht]⟩
  generalize (wQR Q s.heap) = Qc at hend ⊢
  have hS : va_S wNo s.heap s.heap [] := va_S.rf
  show W p l e r_J1_indexOfChar_4cfef s m args below meth c s.heap [] 0 0 (MQ below Qc args s 0 0 wNo) (entryFrame m args 6)
  rw [show entryFrame m args 6 = entryFrame m ([.ref (sv si), .int a1, .int a2, .int a3] : List Value).toArray 6 from by rw [hargs]]
  have hl := lv_entry ([.ref (sv si), .int a1, .int a2, .int a3]) (n := 6) (Nat.le_of_ble_eq_true rfl)
  rw [lg_entry_eq]
  generalize (lg_sl ([.ref (sv si), .int a1, .int a2, .int a3]) ++ List.replicate (6 - (lg_sl ([.ref (sv si), .int a1, .int a2, .int a3])).length) Slot.unset).toArray = ls at hl ⊢
  have hl : lv_has ls 6 [(0, .ref (sv si)), (1, .int a1), (2, .int a2), (3, .int a3)] := hl
  have h := hq
  clear hargs hq
  have j7 : ∀ (x4 : Int32) (x5 : Int32), p_J1_indexOfChar_4cfef_7 a3 x4 Q si x5 → ∀ (locs : List Loc), va_S wNo s.heap s.heap locs → ∀ (ls : Array Slot), lv_has ls 6 [(0, .ref (sv si)), (3, .int a3), (4, .int x4), (5, .int x5)] → W p l e r_J1_indexOfChar_4cfef s m args below meth c s.heap locs 0 0 (MQ below Qc args s 0 0 wNo) (F0 m 7 ls []) := by
    intro x4 x5 h
    obtain ⟨I7, μ7, h0, hs7⟩ := h
    have key : ∀ (n : Nat) (x5 : Int32), I7 x5 → μ7 x5 < n → ∀ (locs : List Loc), va_S wNo s.heap s.heap locs → ∀ (ls : Array Slot), lv_has ls 6 [(0, .ref (sv si)), (3, .int a3), (4, .int x4), (5, .int x5)] → W p l e r_J1_indexOfChar_4cfef s m args below meth c s.heap locs 0 0 (MQ below Qc args s 0 0 wNo) (F0 m 7 ls []) := by
      intro n
      induction n with
      | zero => intro x5 _ h; exact absurd h (Nat.not_lt_zero _)
      | succ n ih7 =>
        intro x5 hI hn locs hS ls hl
        have h := hs7 x5 hI
        have hk7 : ∀ (x51 : Int32), (fun (x5' : Int32) => I7 x5' ∧ μ7 x5' < μ7 x5) x51 → ∀ (locs : List Loc), va_S wNo s.heap s.heap locs → ∀ (ls : Array Slot), lv_has ls 6 [(0, .ref (sv si)), (3, .int a3), (4, .int x4), (5, .int x51)] → W p l e r_J1_indexOfChar_4cfef s m args below meth c s.heap locs 0 0 (MQ below Qc args s 0 0 wNo) (F0 m 7 ls []) := by
          intro x51 hz
          exact ih7 x51 hz.1 (Nat.lt_of_lt_of_le hz.2 (Nat.le_of_lt_succ hn))
        generalize hKe : (fun (x5' : Int32) => I7 x5' ∧ μ7 x5' < μ7 x5) = K7 at h hk7
        clear hKe ih7 hn hI
        unfold q_J1_indexOfChar_4cfef_7 at h
        refine lv_iload hx hb dJ1_indexOfChar_4cfef_7 (lv_at hl 3 rfl) ?_
        refine lv_iload_n hx hb dJ1_indexOfChar_4cfef_9 rfl (lv_at hl 1 rfl) ?_
        refine lv_icmp_ge (tgt := 31) hx hb dJ1_indexOfChar_4cfef_10 rfl (fun hc => ?_) (fun hc => ?_)
        · replace h := h.1 hc
          refine lv_iconst (v := (-1)) hx hb dJ1_indexOfChar_4cfef_31 (by decide) ?_
          exact W.iret hx hb hr (fun t ht _ => hend ((-1)) h t ht) hS.2.2 dJ1_indexOfChar_4cfef_32
        · replace h := h.2 hc
          refine lv_aload_n hx hb dJ1_indexOfChar_4cfef_13 rfl (lv_at hl 0 rfl) ?_
          refine lv_iload hx hb dJ1_indexOfChar_4cfef_14 (lv_at hl 3 rfl) ?_
          obtain ⟨hi, h⟩ := h
          refine va_tb hx hb (hT.2.1.1 si hsi).2.2.2 hS hi (v := .int (sByt si x5.toNatClampNeg)) rfl dJ1_indexOfChar_4cfef_16 ?_
          refine lv_iload hx hb dJ1_indexOfChar_4cfef_17 (lv_at hl 2 rfl) ?_
          refine lv_icmp_ne (tgt := 25) hx hb dJ1_indexOfChar_4cfef_19 rfl (fun hc => ?_) (fun hc => ?_)
          · replace h := h.1 hc
            refine lv_iinc (k := 3) (v := (x5 + 1)) (lv' := [(5, .int (x5 + 1)), (0, .ref (sv si)), (3, .int a3), (4, .int x4)]) hx hb dJ1_indexOfChar_4cfef_25 hl rfl rfl (by decide) rfl (fun ls hl => ?_)
            refine lv_goto (tgt := 7) hx hb dJ1_indexOfChar_4cfef_28 rfl ?_
            exact hk7 ((x5 + 1)) h _ hS _ (lv_sub hl [1, 2, 3, 0] rfl)
          · replace h := h.2 hc
            refine lv_iload hx hb dJ1_indexOfChar_4cfef_22 (lv_at hl 3 rfl) ?_
            exact W.iret hx hb hr (fun t ht _ => hend x5 h t ht) hS.2.2 dJ1_indexOfChar_4cfef_24
    exact key _ x5 h0 (Nat.lt_succ_self _)
  unfold p_J1_indexOfChar_4cfef at h
  refine lv_iload_n hx hb dJ1_indexOfChar_4cfef_0 rfl (lv_at hl 1 rfl) ?_
  refine lv_i2b hx hb dJ1_indexOfChar_4cfef_1 rfl ?_
  refine lv_istore (lv' := [(4, .int a1.toInt8.toInt32), (0, .ref (sv si)), (1, .int a1), (2, .int a2), (3, .int a3)]) hx hb dJ1_indexOfChar_4cfef_2 hl (by decide) rfl (fun ls hl => ?_)
  refine lv_iload_n hx hb dJ1_indexOfChar_4cfef_4 rfl (lv_at hl 3 rfl) ?_
  refine lv_istore (lv' := [(5, .int a2), (4, .int a1.toInt8.toInt32), (0, .ref (sv si)), (1, .int a1), (2, .int a2), (3, .int a3)]) hx hb dJ1_indexOfChar_4cfef_5 hl (by decide) rfl (fun ls hl => ?_)
  exact j7 a1.toInt8.toInt32 a2 h _ hS _ (lv_sub hl [2, 5, 1, 0] rfl)

abbrev r_J1_indexOf_4cfef : Room := { frames := 1, cells := 0, slots := 0, locals := 25 }
set_option maxHeartbeats 4000000 in
set_option maxRecDepth 100000 in
theorem c_J1_indexOf_4cfef (l : Launch) (H0 : Heap) (sk sv : Nat → Nat) (si : Nat) (hsi : si < 2)  (a1 : Int32) (a2 : Int32) (a3 : Int32) (Q : Int32 → Prop) (hq : p_J1_indexOf_4cfef si a1 a2 a3 Q) : Met l yJ1_indexOf_4cfef wsJ1_indexOf_4cfef r_J1_indexOf_4cfef (wPS [.ref (sv si), .int a1, .int a2, .int a3] H0 sk sv) (wQR Q H0) 0 0 wNo := by
  refine Met.ofW (cc := cJ1_indexOf_4cfef) (maxL := 4) (ret := (some .int)) (by decide) rfl ?_
  intro p e s m args below meth c s₁ B hml hv
  obtain ⟨hargs, hH, hT⟩ := hv
  have hx := B.exec
  have hb := B.bytes
  have hr := B.returns
  have hts := atoms_spec (ws := wsJ1_indexOf_4cfef) B.pre
  have hown : s.vm.findClass RJ1 = some m.cls := findClass_of_methodNamed B.named
  have hlocks := B.notSynchronized
  clear B
  subst hH
  have hend : ∀ (r : Int32), Q r → ∀ T9 : State, T9.heap = s.heap → (wQR Q s.heap) args s (.returned (some (.int r))) T9 := fun r hq T9 ht => ⟨⟨r, (), rfl, hq, ht⟩, by rw [ht]; exact Nat.le_refl _, fun _ _ _ => by rw [ht]⟩
  generalize (wQR Q s.heap) = Qc at hend ⊢
  have hS : va_S wNo s.heap s.heap [] := va_S.rf
  show W p l e r_J1_indexOf_4cfef s m args below meth c s.heap [] 0 0 (MQ below Qc args s 0 0 wNo) (entryFrame m args 4)
  rw [show entryFrame m args 4 = entryFrame m ([.ref (sv si), .int a1, .int a2, .int a3] : List Value).toArray 4 from by rw [hargs]]
  have hl := lv_entry ([.ref (sv si), .int a1, .int a2, .int a3]) (n := 4) (Nat.le_of_ble_eq_true rfl)
  rw [lg_entry_eq]
  generalize (lg_sl ([.ref (sv si), .int a1, .int a2, .int a3]) ++ List.replicate (4 - (lg_sl ([.ref (sv si), .int a1, .int a2, .int a3])).length) Slot.unset).toArray = ls at hl ⊢
  have hl : lv_has ls 4 [(0, .ref (sv si)), (1, .int a1), (2, .int a2), (3, .int a3)] := hl
  have h := hq
  clear hargs hq
  unfold p_J1_indexOf_4cfef at h
  refine lv_iload_n hx hb dJ1_indexOf_4cfef_0 rfl (lv_at hl 1 rfl) ?_
  refine w_callZ (va_runS (As := [.int a1]) (rest := []) ⟨hx, hb, hml, hown, hts⟩ (c_J1_canEncode_9a6ad l s.heap  sk sv a1 _ h) (va_cwS 1 hts gJ1_indexOf_4cfef_J1_canEncode_9a6ad rfl rfl rfl (by decide +kernel) ⟨Nat.le_of_ble_eq_true rfl, Nat.le_of_ble_eq_true rfl⟩) (w_preSS hT hS) rfl rfl hl.1 rfl (lv_room (Nat.le_of_ble_eq_true rfl)) dJ1_indexOf_4cfef_1 ⟨Nat.zero_le _, Nat.zero_le _⟩) hS (fun r1 locs z_r1 h hS => ?_)
  try dsimp only at h
  refine lv_if_ne (tgt := 9) hx hb dJ1_indexOf_4cfef_4 rfl (fun hc => ?_) (fun hc => ?_)
  · replace h := h.1 hc
    refine lv_iload_n hx hb dJ1_indexOf_4cfef_9 rfl (lv_at hl 2 rfl) ?_
    refine lv_iconst (v := 0) hx hb dJ1_indexOf_4cfef_10 (by decide) ?_
    refine va_mmax hx hb (hml.trans hl.1.symm) hown (hts (.methodLink RJ1 92 Lib.Math.max.name) (by decide +kernel)) (hts (.static Lib.Math.max.name) (by decide +kernel)) (hts (.initialized "java/lang/Math") (by decide +kernel)) (hts (.code Lib.Math.max.name Lib.Math.max.code 2 (some .int)) (by decide +kernel)) (Nat.le_of_ble_eq_true rfl) (Nat.le_of_ble_eq_true rfl) (Nat.zero_le _) (Nat.zero_le _) dJ1_indexOf_4cfef_11 ?_
    refine lv_istore_n (lv' := [(2, .int (if a2 < 0 then 0 else a2)), (0, .ref (sv si)), (1, .int a1), (3, .int a3)]) hx hb dJ1_indexOf_4cfef_14 rfl hl (by decide) rfl (fun ls hl => ?_)
    refine lv_iload_n hx hb dJ1_indexOf_4cfef_15 rfl (lv_at hl 3 rfl) ?_
    refine lv_aload_n hx hb dJ1_indexOf_4cfef_16 rfl (lv_at hl 1 rfl) ?_
    refine va_tlen hx hb (hT.2.1.1 si hsi).2.2.2 hS (v := Int32.ofNat (sLen si)) rfl dJ1_indexOf_4cfef_17 ?_
    refine va_mmin hx hb (hml.trans hl.1.symm) hown (hts (.methodLink RJ1 38 Lib.Math.min.name) (by decide +kernel)) (hts (.static Lib.Math.min.name) (by decide +kernel)) (hts (.initialized "java/lang/Math") (by decide +kernel)) (hts (.code Lib.Math.min.name Lib.Math.min.code 2 (some .int)) (by decide +kernel)) (Nat.le_of_ble_eq_true rfl) (Nat.le_of_ble_eq_true rfl) (Nat.zero_le _) (Nat.zero_le _) dJ1_indexOf_4cfef_18 ?_
    refine lv_istore_n (lv' := [(3, .int (if (Int32.ofNat (sLen si)) < a3 then (Int32.ofNat (sLen si)) else a3)), (2, .int (if a2 < 0 then 0 else a2)), (0, .ref (sv si)), (1, .int a1)]) hx hb dJ1_indexOf_4cfef_21 rfl hl (by decide) rfl (fun ls hl => ?_)
    refine lv_iload_n hx hb dJ1_indexOf_4cfef_22 rfl (lv_at hl 1 rfl) ?_
    refine lv_iload_n hx hb dJ1_indexOf_4cfef_23 rfl (lv_at hl 0 rfl) ?_
    refine lv_icmp_lt (tgt := 29) hx hb dJ1_indexOf_4cfef_24 rfl (fun hc => ?_) (fun hc => ?_)
    · replace h := h.1 hc
      refine lv_aload_n hx hb dJ1_indexOf_4cfef_29 rfl (lv_at hl 2 rfl) ?_
      refine lv_iload_n hx hb dJ1_indexOf_4cfef_30 rfl (lv_at hl 3 rfl) ?_
      refine lv_iload_n hx hb dJ1_indexOf_4cfef_31 rfl (lv_at hl 1 rfl) ?_
      refine lv_iload_n hx hb dJ1_indexOf_4cfef_32 rfl (lv_at hl 0 rfl) ?_
      refine w_callR (va_runS (As := [.ref (sv si), .int a1, .int (if a2 < 0 then 0 else a2), .int (if (Int32.ofNat (sLen si)) < a3 then (Int32.ofNat (sLen si)) else a3)]) (rest := []) ⟨hx, hb, hml, hown, hts⟩ (c_J1_indexOfChar_4cfef l s.heap  sk sv si hsi a1 ((if a2 < 0 then 0 else a2)) ((if (Int32.ofNat (sLen si)) < a3 then (Int32.ofNat (sLen si)) else a3)) _ h) (va_cwS 4 hts gJ1_indexOf_4cfef_J1_indexOfChar_4cfef rfl rfl rfl (by decide +kernel) ⟨Nat.le_of_ble_eq_true rfl, Nat.le_of_ble_eq_true rfl⟩) (w_preSS hT hS) rfl rfl hl.1 rfl (lv_room (Nat.le_of_ble_eq_true rfl)) dJ1_indexOf_4cfef_33 ⟨Nat.zero_le _, Nat.zero_le _⟩) hS (fun r2 locs h hS => ?_)
      try dsimp only at h
      exact W.iret hx hb hr (fun t ht _ => hend r2 h t ht) hS.2.2 dJ1_indexOf_4cfef_36
    · replace h := h.2 hc
      refine lv_iconst (v := (-1)) hx hb dJ1_indexOf_4cfef_27 (by decide) ?_
      exact W.iret hx hb hr (fun t ht _ => hend ((-1)) h t ht) hS.2.2 dJ1_indexOf_4cfef_28
  · replace h := h.2 hc
    refine lv_iconst (v := (-1)) hx hb dJ1_indexOf_4cfef_7 (by decide) ?_
    exact W.iret hx hb hr (fun t ht _ => hend ((-1)) h t ht) hS.2.2 dJ1_indexOf_4cfef_8

abbrev r_J0_indexOf_7cf53 : Room := { frames := 2, cells := 0, slots := 0, locals := 48 }
set_option maxHeartbeats 4000000 in
set_option maxRecDepth 100000 in
theorem c_J0_indexOf_7cf53 (l : Launch) (H0 : Heap) (sk sv : Nat → Nat) (si : Nat) (hsi : si < 2)  (a1 : Int32) (a2 : Int32) (Q : Int32 → Prop) (hq : p_J0_indexOf_7cf53 si a1 a2 Q) : Met l yJ0_indexOf_7cf53 wsJ0_indexOf_7cf53 r_J0_indexOf_7cf53 (wPS [.ref (sk si), .int a1, .int a2] H0 sk sv) (wQR Q H0) 0 0 wNo := by
  refine Met.ofW (cc := cJ0_indexOf_7cf53) (maxL := 3) (ret := (some .int)) (by decide) rfl ?_
  intro p e s m args below meth c s₁ B hml hv
  obtain ⟨hargs, hH, hT⟩ := hv
  have hx := B.exec
  have hb := B.bytes
  have hr := B.returns
  have hts := atoms_spec (ws := wsJ0_indexOf_7cf53) B.pre
  have hown : s.vm.findClass RJ0 = some m.cls := findClass_of_methodNamed B.named
  have hlocks := B.notSynchronized
  clear B
  subst hH
  have hend : ∀ (r : Int32), Q r → ∀ T9 : State, T9.heap = s.heap → (wQR Q s.heap) args s (.returned (some (.int r))) T9 := fun r hq T9 ht => ⟨⟨r, (), rfl, hq, ht⟩, by rw [ht]; exact Nat.le_refl _, fun _ _ _ => by rw [ht]⟩
  generalize (wQR Q s.heap) = Qc at hend ⊢
  have hS : va_S wNo s.heap s.heap [] := va_S.rf
  show W p l e r_J0_indexOf_7cf53 s m args below meth c s.heap [] 0 0 (MQ below Qc args s 0 0 wNo) (entryFrame m args 3)
  rw [show entryFrame m args 3 = entryFrame m ([.ref (sk si), .int a1, .int a2] : List Value).toArray 3 from by rw [hargs]]
  have hl := lv_entry ([.ref (sk si), .int a1, .int a2]) (n := 3) (Nat.le_of_ble_eq_true rfl)
  rw [lg_entry_eq]
  generalize (lg_sl ([.ref (sk si), .int a1, .int a2]) ++ List.replicate (3 - (lg_sl ([.ref (sk si), .int a1, .int a2])).length) Slot.unset).toArray = ls at hl ⊢
  have hl : lv_has ls 3 [(0, .ref (sk si)), (1, .int a1), (2, .int a2)] := hl
  have h := hq
  clear hargs hq
  unfold p_J0_indexOf_7cf53 at h
  refine lv_aload_n hx hb dJ0_indexOf_7cf53_0 rfl (lv_at hl 0 rfl) ?_
  refine w_callZ (va_runV (As := []) (rest := []) ⟨hx, hb, hml, hown, hts⟩ (c_J0_isLatin1_aae02 l s.heap  sk sv si hsi _ h) (cwV 0 hts gJ0_indexOf_7cf53_J0_isLatin1_aae02 rfl rfl rfl (by decide +kernel) ⟨Nat.le_of_ble_eq_true rfl, Nat.le_of_ble_eq_true rfl⟩) (w_preVS hT hS hsi) rfl rfl hl.1 rfl (lv_room (Nat.le_of_ble_eq_true rfl)) dJ0_indexOf_7cf53_1 ⟨Nat.zero_le _, Nat.zero_le _⟩) hS (fun r1 locs z_r1 h hS => ?_)
  try dsimp only at h
  refine lv_if_eq (tgt := 23) hx hb dJ0_indexOf_7cf53_4 rfl (fun hc => ?_) (fun hc => ?_)
  · replace h := h.1 hc
    refine lv_aload_n hx hb dJ0_indexOf_7cf53_23 rfl (lv_at hl 0 rfl) ?_
    refine vk_getf hx hb (hT.2.1.1 si hsi).2.2.1 hS hown (hts (.fieldLink RJ0 9 "java/lang/String" "value" "[B") (by decide +kernel)) (fun _ h9 => h9) dJ0_indexOf_7cf53_24 ?_
    refine lv_iload_n hx hb dJ0_indexOf_7cf53_27 rfl (lv_at hl 1 rfl) ?_
    refine lv_iload_n hx hb dJ0_indexOf_7cf53_28 rfl (lv_at hl 2 rfl) ?_
    refine lv_aload_n hx hb dJ0_indexOf_7cf53_29 rfl (lv_at hl 0 rfl) ?_
    refine w_callR (va_runV (As := []) (rest := [.int a2, .int a1, .ref (sv si)]) ⟨hx, hb, hml, hown, hts⟩ (c_J0_length_8abf5 l s.heap  sk sv si hsi _ h) (cwV 0 hts gJ0_indexOf_7cf53_J0_length_8abf5 rfl rfl rfl (by decide +kernel) ⟨Nat.le_of_ble_eq_true rfl, Nat.le_of_ble_eq_true rfl⟩) (w_preVS hT hS hsi) rfl rfl hl.1 rfl (lv_room (Nat.le_of_ble_eq_true rfl)) dJ0_indexOf_7cf53_30 ⟨Nat.zero_le _, Nat.zero_le _⟩) hS (fun r2 locs h hS => ?_)
    try dsimp only at h
    all_goals exact h.elim
  · replace h := h.2 hc
    refine lv_aload_n hx hb dJ0_indexOf_7cf53_7 rfl (lv_at hl 0 rfl) ?_
    refine vk_getf hx hb (hT.2.1.1 si hsi).2.2.1 hS hown (hts (.fieldLink RJ0 9 "java/lang/String" "value" "[B") (by decide +kernel)) (fun _ h9 => h9) dJ0_indexOf_7cf53_8 ?_
    refine lv_iload_n hx hb dJ0_indexOf_7cf53_11 rfl (lv_at hl 1 rfl) ?_
    refine lv_iload_n hx hb dJ0_indexOf_7cf53_12 rfl (lv_at hl 2 rfl) ?_
    refine lv_aload_n hx hb dJ0_indexOf_7cf53_13 rfl (lv_at hl 0 rfl) ?_
    refine w_callR (va_runV (As := []) (rest := [.int a2, .int a1, .ref (sv si)]) ⟨hx, hb, hml, hown, hts⟩ (c_J0_length_8abf5 l s.heap  sk sv si hsi _ h) (cwV 0 hts gJ0_indexOf_7cf53_J0_length_8abf5 rfl rfl rfl (by decide +kernel) ⟨Nat.le_of_ble_eq_true rfl, Nat.le_of_ble_eq_true rfl⟩) (w_preVS hT hS hsi) rfl rfl hl.1 rfl (lv_room (Nat.le_of_ble_eq_true rfl)) dJ0_indexOf_7cf53_14 ⟨Nat.zero_le _, Nat.zero_le _⟩) hS (fun r3 locs h hS => ?_)
    try dsimp only at h
    refine w_callR (va_runS (As := [.ref (sv si), .int a1, .int a2, .int r3]) (rest := []) ⟨hx, hb, hml, hown, hts⟩ (c_J1_indexOf_4cfef l s.heap  sk sv si hsi a1 a2 r3 _ h) (va_cwS 4 hts gJ0_indexOf_7cf53_J1_indexOf_4cfef rfl rfl rfl (by decide +kernel) ⟨Nat.le_of_ble_eq_true rfl, Nat.le_of_ble_eq_true rfl⟩) (w_preSS hT hS) rfl rfl hl.1 rfl (lv_room (Nat.le_of_ble_eq_true rfl)) dJ0_indexOf_7cf53_17 ⟨Nat.zero_le _, Nat.zero_le _⟩) hS (fun r4 locs h hS => ?_)
    try dsimp only at h
    refine lv_goto (tgt := 36) hx hb dJ0_indexOf_7cf53_20 rfl ?_
    exact W.iret hx hb hr (fun t ht _ => hend r4 h t ht) hS.2.2 dJ0_indexOf_7cf53_36

abbrev r_J0_indexOf_0f7a4 : Room := { frames := 3, cells := 0, slots := 0, locals := 70 }
set_option maxHeartbeats 4000000 in
set_option maxRecDepth 100000 in
theorem c_J0_indexOf_0f7a4 (l : Launch) (H0 : Heap) (sk sv : Nat → Nat) (si : Nat) (hsi : si < 2)  (a1 : Int32) (Q : Int32 → Prop) (hq : p_J0_indexOf_0f7a4 si a1 Q) : Met l yJ0_indexOf_0f7a4 wsJ0_indexOf_0f7a4 r_J0_indexOf_0f7a4 (wPS [.ref (sk si), .int a1] H0 sk sv) (wQR Q H0) 0 0 wNo := by
  refine Met.ofW (cc := cJ0_indexOf_0f7a4) (maxL := 2) (ret := (some .int)) (by decide) rfl ?_
  intro p e s m args below meth c s₁ B hml hv
  obtain ⟨hargs, hH, hT⟩ := hv
  have hx := B.exec
  have hb := B.bytes
  have hr := B.returns
  have hts := atoms_spec (ws := wsJ0_indexOf_0f7a4) B.pre
  have hown : s.vm.findClass RJ0 = some m.cls := findClass_of_methodNamed B.named
  have hlocks := B.notSynchronized
  clear B
  subst hH
  have hend : ∀ (r : Int32), Q r → ∀ T9 : State, T9.heap = s.heap → (wQR Q s.heap) args s (.returned (some (.int r))) T9 := fun r hq T9 ht => ⟨⟨r, (), rfl, hq, ht⟩, by rw [ht]; exact Nat.le_refl _, fun _ _ _ => by rw [ht]⟩
  generalize (wQR Q s.heap) = Qc at hend ⊢
  have hS : va_S wNo s.heap s.heap [] := va_S.rf
  show W p l e r_J0_indexOf_0f7a4 s m args below meth c s.heap [] 0 0 (MQ below Qc args s 0 0 wNo) (entryFrame m args 2)
  rw [show entryFrame m args 2 = entryFrame m ([.ref (sk si), .int a1] : List Value).toArray 2 from by rw [hargs]]
  have hl := lv_entry ([.ref (sk si), .int a1]) (n := 2) (Nat.le_of_ble_eq_true rfl)
  rw [lg_entry_eq]
  generalize (lg_sl ([.ref (sk si), .int a1]) ++ List.replicate (2 - (lg_sl ([.ref (sk si), .int a1])).length) Slot.unset).toArray = ls at hl ⊢
  have hl : lv_has ls 2 [(0, .ref (sk si)), (1, .int a1)] := hl
  have h := hq
  clear hargs hq
  unfold p_J0_indexOf_0f7a4 at h
  refine lv_aload_n hx hb dJ0_indexOf_0f7a4_0 rfl (lv_at hl 0 rfl) ?_
  refine lv_iload_n hx hb dJ0_indexOf_0f7a4_1 rfl (lv_at hl 1 rfl) ?_
  refine lv_iconst (v := 0) hx hb dJ0_indexOf_0f7a4_2 (by decide) ?_
  refine w_callR (va_runV (As := [.int a1, .int 0]) (rest := []) ⟨hx, hb, hml, hown, hts⟩ (c_J0_indexOf_7cf53 l s.heap  sk sv si hsi a1 0 _ h) (cwV 2 hts gJ0_indexOf_0f7a4_J0_indexOf_7cf53 rfl rfl rfl (by decide +kernel) ⟨Nat.le_of_ble_eq_true rfl, Nat.le_of_ble_eq_true rfl⟩) (w_preVS hT hS hsi) rfl rfl hl.1 rfl (lv_room (Nat.le_of_ble_eq_true rfl)) dJ0_indexOf_0f7a4_3 ⟨Nat.zero_le _, Nat.zero_le _⟩) hS (fun r1 locs h hS => ?_)
  try dsimp only at h
  exact W.iret hx hb hr (fun t ht _ => hend r1 h t ht) hS.2.2 dJ0_indexOf_0f7a4_6

theorem i_X5_write_X5 : ∀ w ∈ u_ws RX5 TX5 5, w ∈ wsX5_write := by decide +kernel
abbrev r_X5_write : Room := { frames := 0, cells := 0, slots := 0, locals := 0 }
set_option maxHeartbeats 4000000 in
set_option maxRecDepth 100000 in
theorem c_X5_write (l : Launch) (D : va_G) (cy : Nat → ClassId) (sz : Nat) (t : Nat → Nat) (t_text : Nat → Int32) (t_length : Int32) (t_at : Int32) (t_errorAt : Int32) (a1 : Int32) (Q : (Nat → Int32) → Int32 → Prop) (hq : p_X5_write t_text t_length a1 Q) : Met l yX5_write wsX5_write r_X5_write (wPO [.ref (t 0), .int a1] sz D cy [(t 0, .inr (5, [.ref (t 1), .ref (t 2), .int t_length, .int t_at, .int t_errorAt])), (t 1, .inl (cy 0, 140, .inl t_text))]) (va_Qv (fun u => ∃ (t_text' : Nat → Int32) (t_length' : Int32), u = [(t 0, .inr (5, [.ref (t 1), .ref (t 2), .int t_length', .int t_at, .int t_errorAt])), (t 1, .inl (cy 0, 140, .inl t_text'))] ∧ Q t_text' t_length') (fun u T9 => va_P D vwCl u T9.heap ∧ va_D (va_A [(t 0, .inr (5, [.ref (t 1), .ref (t 2), .int t_length, .int t_at, .int t_errorAt])), (t 1, .inl (cy 0, 140, .inl t_text))] sz) u) (va_A [(t 0, .inr (5, [.ref (t 1), .ref (t 2), .int t_length, .int t_at, .int t_errorAt])), (t 1, .inl (cy 0, 140, .inl t_text))] sz)) 0 0 (va_A [(t 0, .inr (5, [.ref (t 1), .ref (t 2), .int t_length, .int t_at, .int t_errorAt])), (t 1, .inl (cy 0, 140, .inl t_text))] sz) := by
  refine Met.ofW (cc := cX5_write) (maxL := 2) (ret := none) (by decide) rfl ?_
  intro p e s m args below meth c s₁ B hml hv
  obtain ⟨hargs, hsz, hP, hK, hD0⟩ := hv
  have hx := B.exec
  have hb := B.bytes
  have hr := B.returns
  have hts := atoms_spec (ws := wsX5_write) B.pre
  have hown : s.vm.findClass RX5 = some m.cls := findClass_of_methodNamed B.named
  have hlocks := B.notSynchronized
  clear B
  subst hsz
  have hD := hD0.self (sz := s.heap.size)
  generalize hAe : va_A [(t 0, .inr (5, [.ref (t 1), .ref (t 2), .int t_length, .int t_at, .int t_errorAt])), (t 1, .inl (cy 0, 140, .inl t_text))] s.heap.size = A at hD ⊢
  have hA : ∀ q : Nat, s.heap.size ≤ q → A q := fun q h => by rw [← hAe]; exact Or.inr h
  clear hAe hD0
  have hend : ∀ (t_text : Nat → Int32) (t_length : Int32) (H : Heap) (locs : List Loc), Q t_text t_length → va_P D vwCl [(t 0, .inr (5, [.ref (t 1), .ref (t 2), .int t_length, .int t_at, .int t_errorAt])), (t 1, .inl (cy 0, 140, .inl t_text))] H → va_D A [(t 0, .inr (5, [.ref (t 1), .ref (t 2), .int t_length, .int t_at, .int t_errorAt])), (t 1, .inl (cy 0, 140, .inl t_text))] → va_S A s.heap H locs → ∀ T9 : State, T9.heap = H → (va_Qv (fun u => ∃ (t_text' : Nat → Int32) (t_length' : Int32), u = [(t 0, .inr (5, [.ref (t 1), .ref (t 2), .int t_length', .int t_at, .int t_errorAt])), (t 1, .inl (cy 0, 140, .inl t_text'))] ∧ Q t_text' t_length') (fun u T9 => va_P D vwCl u T9.heap ∧ va_D A u) A) args s (.returned none) T9 := fun t_text t_length H locs hq hP hD hS T9 ht => ⟨⟨_, rfl, ⟨t_text, t_length, rfl, hq⟩, by rw [ht]; exact hP, hD⟩, hS.F ht⟩
  generalize (va_Qv (fun u => ∃ (t_text' : Nat → Int32) (t_length' : Int32), u = [(t 0, .inr (5, [.ref (t 1), .ref (t 2), .int t_length', .int t_at, .int t_errorAt])), (t 1, .inl (cy 0, 140, .inl t_text'))] ∧ Q t_text' t_length') (fun u T9 => va_P D vwCl u T9.heap ∧ va_D A u) A) = Qc at hend ⊢
  have hS : va_S A s.heap s.heap [] := va_S.rf
  show W p l e r_X5_write s m args below meth c s.heap [] 0 0 (MQ below Qc args s 0 0 A) (entryFrame m args 2)
  rw [show entryFrame m args 2 = entryFrame m ([.ref (t 0), .int a1] : List Value).toArray 2 from by rw [hargs]]
  have hl := lv_entry ([.ref (t 0), .int a1]) (n := 2) (Nat.le_of_ble_eq_true rfl)
  rw [lg_entry_eq]
  generalize (lg_sl ([.ref (t 0), .int a1]) ++ List.replicate (2 - (lg_sl ([.ref (t 0), .int a1])).length) Slot.unset).toArray = ls at hl ⊢
  have hl : lv_has ls 2 [(0, .ref (t 0)), (1, .int a1)] := hl
  have h := hq
  clear hargs hq
  unfold p_X5_write at h
  suffices key : ∀ (H : Heap) (locs : List Loc), va_P D vwCl [(t 0, .inr (5, [.ref (t 1), .ref (t 2), .int t_length, .int t_at, .int t_errorAt])), (t 1, .inl (cy 0, 140, .inl t_text))] H → va_D A [(t 0, .inr (5, [.ref (t 1), .ref (t 2), .int t_length, .int t_at, .int t_errorAt])), (t 1, .inl (cy 0, 140, .inl t_text))] → va_S A s.heap H locs → W p l e r_X5_write s m args below meth c H locs 0 0 (MQ below Qc args s 0 0 A) (F0 m 0 ls []) from key s.heap [] hP hD hS
  clear hP hD hS
  intro H locs hP hD hS
  refine lv_aload_n hx hb dX5_write_0 rfl (lv_at hl 0 rfl) ?_
  refine va_get (D := D) (ci := 5) (v := .int t_length) (C := RX5) (T := TX5) (N := 5) hx hb hts i_X5_write_X5 hown hK hP 0 rfl rfl 2 (by decide) (hts (.fieldLink RX5 18 "FoldedMenu$Reader" "length" "I") (by decide +kernel)) (fun _ h9 => h9) rfl dX5_write_1 ?_
  refine lv_sipush (v := 140) hx hb dX5_write_4 (by decide) ?_
  refine lv_icmp_ge (tgt := 30) hx hb dX5_write_7 rfl (fun hc => ?_) (fun hc => ?_)
  · replace h := h.1 hc
    exact W.vret hx hb hr (fun t ht _ => hend t_text t_length H locs h hP hD hS t ht) hS.2.2 dX5_write_30
  · replace h := h.2 hc
    refine lv_aload_n hx hb dX5_write_10 rfl (lv_at hl 0 rfl) ?_
    refine va_get (D := D) (ci := 5) (v := .ref (t 1)) (C := RX5) (T := TX5) (N := 5) hx hb hts i_X5_write_X5 hown hK hP 0 rfl rfl 0 (by decide) (hts (.fieldLink RX5 9 "FoldedMenu$Reader" "text" "[I") (by decide +kernel)) (fun _ h9 => h9) rfl dX5_write_11 ?_
    refine lv_aload_n hx hb dX5_write_14 rfl (lv_at hl 0 rfl) ?_
    refine va_get (D := D) (ci := 5) (v := .int t_length) (C := RX5) (T := TX5) (N := 5) hx hb hts i_X5_write_X5 hown hK hP 0 rfl rfl 2 (by decide) (hts (.fieldLink RX5 18 "FoldedMenu$Reader" "length" "I") (by decide +kernel)) (fun _ h9 => h9) rfl dX5_write_15 ?_
    refine lv_iload_n hx hb dX5_write_18 rfl (lv_at hl 1 rfl) ?_
    obtain ⟨hi, h⟩ := h
    refine va_iast hx hb hK hP hD hS 1 0 rfl rfl hi dX5_write_19 (fun H locs hP hD hS => ?_)
    have hP : va_P D vwCl [(t 0, .inr (5, [.ref (t 1), .ref (t 2), .int t_length, .int t_at, .int t_errorAt])), (t 1, .inl (cy 0, 140, .inl ((upd t_text t_length.toNatClampNeg a1))))] H := hP
    have hD : va_D A [(t 0, .inr (5, [.ref (t 1), .ref (t 2), .int t_length, .int t_at, .int t_errorAt])), (t 1, .inl (cy 0, 140, .inl ((upd t_text t_length.toNatClampNeg a1))))] := hD
    refine lv_aload_n hx hb dX5_write_20 rfl (lv_at hl 0 rfl) ?_
    refine lv_dup hx hb dX5_write_21 rfl ?_
    refine va_get (D := D) (ci := 5) (v := .int t_length) (C := RX5) (T := TX5) (N := 5) hx hb hts i_X5_write_X5 hown hK hP 0 rfl rfl 2 (by decide) (hts (.fieldLink RX5 18 "FoldedMenu$Reader" "length" "I") (by decide +kernel)) (fun _ h9 => h9) rfl dX5_write_22 ?_
    refine lv_iconst (v := 1) hx hb dX5_write_25 (by decide) ?_
    refine lv_iadd hx hb dX5_write_26 ?_
    refine va_put (D := D) (ci := 5) (v := .int (t_length + 1)) (ty := .int) (C := RX5) (T := TX5) (N := 5) hx hb hts i_X5_write_X5 tyX5 tyX5_ok nmX5 hown hK hP hD hS 0 rfl rfl 2 (by decide) (hts (.fieldLink RX5 18 "FoldedMenu$Reader" "length" "I") (by decide +kernel)) (fun _ h9 => h9) rfl (by decide +kernel) rfl rfl (Nat.le_of_ble_eq_true rfl) dX5_write_27 (fun H locs hP hD hS => ?_)
    have hP : va_P D vwCl [(t 0, .inr (5, [.ref (t 1), .ref (t 2), .int ((t_length + 1)), .int t_at, .int t_errorAt])), (t 1, .inl (cy 0, 140, .inl ((upd t_text t_length.toNatClampNeg a1))))] H := hP
    have hD : va_D A [(t 0, .inr (5, [.ref (t 1), .ref (t 2), .int ((t_length + 1)), .int t_at, .int t_errorAt])), (t 1, .inl (cy 0, 140, .inl ((upd t_text t_length.toNatClampNeg a1))))] := hD
    exact W.vret hx hb hr (fun t ht _ => hend ((upd t_text t_length.toNatClampNeg a1)) ((t_length + 1)) H locs h hP hD hS t ht) hS.2.2 dX5_write_30

theorem i_X5_nextSign_X5 : ∀ w ∈ u_ws RX5 TX5 5, w ∈ wsX5_nextSign := by decide +kernel
abbrev r_X5_nextSign : Room := { frames := 0, cells := 0, slots := 0, locals := 0 }
set_option maxHeartbeats 4000000 in
set_option maxRecDepth 100000 in
theorem c_X5_nextSign (l : Launch) (D : va_G) (cy : Nat → ClassId) (sz : Nat) (t : Nat → Nat) (t_text : Nat → Int32) (t_length : Int32) (t_at : Int32) (t_errorAt : Int32) (Q : Int32 → Int32 → Prop) (hq : p_X5_nextSign t_text t_length t_at Q) : Met l yX5_nextSign wsX5_nextSign r_X5_nextSign (wPO [.ref (t 0)] sz D cy [(t 0, .inr (5, [.ref (t 1), .ref (t 2), .int t_length, .int t_at, .int t_errorAt])), (t 1, .inl (cy 0, 140, .inl t_text))]) (va_Qi (fun r u => ∃ (t_at' : Int32), u = [(t 0, .inr (5, [.ref (t 1), .ref (t 2), .int t_length, .int t_at', .int t_errorAt])), (t 1, .inl (cy 0, 140, .inl t_text))] ∧ Q r t_at') (fun u T9 => va_P D vwCl u T9.heap ∧ va_D (va_A [(t 0, .inr (5, [.ref (t 1), .ref (t 2), .int t_length, .int t_at, .int t_errorAt])), (t 1, .inl (cy 0, 140, .inl t_text))] sz) u) (va_A [(t 0, .inr (5, [.ref (t 1), .ref (t 2), .int t_length, .int t_at, .int t_errorAt])), (t 1, .inl (cy 0, 140, .inl t_text))] sz)) 0 0 (va_A [(t 0, .inr (5, [.ref (t 1), .ref (t 2), .int t_length, .int t_at, .int t_errorAt])), (t 1, .inl (cy 0, 140, .inl t_text))] sz) := by
  refine Met.ofW (cc := cX5_nextSign) (maxL := 1) (ret := (some .int)) (by decide) rfl ?_
  intro p e s m args below meth c s₁ B hml hv
  obtain ⟨hargs, hsz, hP, hK, hD0⟩ := hv
  have hx := B.exec
  have hb := B.bytes
  have hr := B.returns
  have hts := atoms_spec (ws := wsX5_nextSign) B.pre
  have hown : s.vm.findClass RX5 = some m.cls := findClass_of_methodNamed B.named
  have hlocks := B.notSynchronized
  clear B
  subst hsz
  have hD := hD0.self (sz := s.heap.size)
  generalize hAe : va_A [(t 0, .inr (5, [.ref (t 1), .ref (t 2), .int t_length, .int t_at, .int t_errorAt])), (t 1, .inl (cy 0, 140, .inl t_text))] s.heap.size = A at hD ⊢
  have hA : ∀ q : Nat, s.heap.size ≤ q → A q := fun q h => by rw [← hAe]; exact Or.inr h
  clear hAe hD0
  have hend : ∀ (r : Int32) (t_at : Int32) (H : Heap) (locs : List Loc), Q r t_at → va_P D vwCl [(t 0, .inr (5, [.ref (t 1), .ref (t 2), .int t_length, .int t_at, .int t_errorAt])), (t 1, .inl (cy 0, 140, .inl t_text))] H → va_D A [(t 0, .inr (5, [.ref (t 1), .ref (t 2), .int t_length, .int t_at, .int t_errorAt])), (t 1, .inl (cy 0, 140, .inl t_text))] → va_S A s.heap H locs → ∀ T9 : State, T9.heap = H → (va_Qi (fun r u => ∃ (t_at' : Int32), u = [(t 0, .inr (5, [.ref (t 1), .ref (t 2), .int t_length, .int t_at', .int t_errorAt])), (t 1, .inl (cy 0, 140, .inl t_text))] ∧ Q r t_at') (fun u T9 => va_P D vwCl u T9.heap ∧ va_D A u) A) args s (.returned (some (.int r))) T9 := fun r t_at H locs hq hP hD hS T9 ht => ⟨⟨r, _, rfl, ⟨t_at, rfl, hq⟩, by rw [ht]; exact hP, hD⟩, hS.F ht⟩
  generalize (va_Qi (fun r u => ∃ (t_at' : Int32), u = [(t 0, .inr (5, [.ref (t 1), .ref (t 2), .int t_length, .int t_at', .int t_errorAt])), (t 1, .inl (cy 0, 140, .inl t_text))] ∧ Q r t_at') (fun u T9 => va_P D vwCl u T9.heap ∧ va_D A u) A) = Qc at hend ⊢
  have hS : va_S A s.heap s.heap [] := va_S.rf
  show W p l e r_X5_nextSign s m args below meth c s.heap [] 0 0 (MQ below Qc args s 0 0 A) (entryFrame m args 1)
  rw [show entryFrame m args 1 = entryFrame m ([.ref (t 0)] : List Value).toArray 1 from by rw [hargs]]
  have hl := lv_entry ([.ref (t 0)]) (n := 1) (Nat.le_of_ble_eq_true rfl)
  rw [lg_entry_eq]
  generalize (lg_sl ([.ref (t 0)]) ++ List.replicate (1 - (lg_sl ([.ref (t 0)])).length) Slot.unset).toArray = ls at hl ⊢
  have hl : lv_has ls 1 [(0, .ref (t 0))] := hl
  have h := hq
  clear hargs hq
  have j0 : ∀ (t_at : Int32), p_X5_nextSign_0 t_text t_length Q t_at → ∀ (H : Heap) (locs : List Loc), va_P D vwCl [(t 0, .inr (5, [.ref (t 1), .ref (t 2), .int t_length, .int t_at, .int t_errorAt])), (t 1, .inl (cy 0, 140, .inl t_text))] H → va_D A [(t 0, .inr (5, [.ref (t 1), .ref (t 2), .int t_length, .int t_at, .int t_errorAt])), (t 1, .inl (cy 0, 140, .inl t_text))] → va_S A s.heap H locs → ∀ (ls : Array Slot), lv_has ls 1 [(0, .ref (t 0))] → W p l e r_X5_nextSign s m args below meth c H locs 0 0 (MQ below Qc args s 0 0 A) (F0 m 0 ls []) := by
    intro t_at h
    obtain ⟨I0, μ0, h0, hs0⟩ := h
    have key : ∀ (n : Nat) (t_at : Int32), I0 t_at → μ0 t_at < n → ∀ (H : Heap) (locs : List Loc), va_P D vwCl [(t 0, .inr (5, [.ref (t 1), .ref (t 2), .int t_length, .int t_at, .int t_errorAt])), (t 1, .inl (cy 0, 140, .inl t_text))] H → va_D A [(t 0, .inr (5, [.ref (t 1), .ref (t 2), .int t_length, .int t_at, .int t_errorAt])), (t 1, .inl (cy 0, 140, .inl t_text))] → va_S A s.heap H locs → ∀ (ls : Array Slot), lv_has ls 1 [(0, .ref (t 0))] → W p l e r_X5_nextSign s m args below meth c H locs 0 0 (MQ below Qc args s 0 0 A) (F0 m 0 ls []) := by
      intro n
      induction n with
      | zero => intro t_at _ h; exact absurd h (Nat.not_lt_zero _)
      | succ n ih0 =>
        intro t_at hI hn H locs hP hD hS ls hl
        have h := hs0 t_at hI
        have hk0 : ∀ (t_at1 : Int32), (fun (t_at' : Int32) => I0 t_at' ∧ μ0 t_at' < μ0 t_at) t_at1 → ∀ (H : Heap) (locs : List Loc), va_P D vwCl [(t 0, .inr (5, [.ref (t 1), .ref (t 2), .int t_length, .int t_at1, .int t_errorAt])), (t 1, .inl (cy 0, 140, .inl t_text))] H → va_D A [(t 0, .inr (5, [.ref (t 1), .ref (t 2), .int t_length, .int t_at1, .int t_errorAt])), (t 1, .inl (cy 0, 140, .inl t_text))] → va_S A s.heap H locs → ∀ (ls : Array Slot), lv_has ls 1 [(0, .ref (t 0))] → W p l e r_X5_nextSign s m args below meth c H locs 0 0 (MQ below Qc args s 0 0 A) (F0 m 0 ls []) := by
          intro t_at1 hz
          exact ih0 t_at1 hz.1 (Nat.lt_of_lt_of_le hz.2 (Nat.le_of_lt_succ hn))
        generalize hKe : (fun (t_at' : Int32) => I0 t_at' ∧ μ0 t_at' < μ0 t_at) = K0 at h hk0
        clear hKe ih0 hn hI
        unfold q_X5_nextSign_0 at h
        refine lv_aload_n hx hb dX5_nextSign_0 rfl (lv_at hl 0 rfl) ?_
        refine va_get (D := D) (ci := 5) (v := .int t_at) (C := RX5) (T := TX5) (N := 5) hx hb hts i_X5_nextSign_X5 hown hK hP 0 rfl rfl 3 (by decide) (hts (.fieldLink RX5 22 "FoldedMenu$Reader" "at" "I") (by decide +kernel)) (fun _ h9 => h9) rfl dX5_nextSign_1 ?_
        refine lv_aload_n hx hb dX5_nextSign_4 rfl (lv_at hl 0 rfl) ?_
        refine va_get (D := D) (ci := 5) (v := .int t_length) (C := RX5) (T := TX5) (N := 5) hx hb hts i_X5_nextSign_X5 hown hK hP 0 rfl rfl 2 (by decide) (hts (.fieldLink RX5 18 "FoldedMenu$Reader" "length" "I") (by decide +kernel)) (fun _ h9 => h9) rfl dX5_nextSign_5 ?_
        refine lv_icmp_ge (tgt := 48) hx hb dX5_nextSign_8 rfl (fun hc => ?_) (fun hc => ?_)
        · replace h := h.1 hc
          refine lv_iconst (v := 0) hx hb dX5_nextSign_48 (by decide) ?_
          exact W.iret hx hb hr (fun t ht _ => hend 0 t_at H locs h hP hD hS t ht) hS.2.2 dX5_nextSign_49
        · replace h := h.2 hc
          refine lv_aload_n hx hb dX5_nextSign_11 rfl (lv_at hl 0 rfl) ?_
          refine va_get (D := D) (ci := 5) (v := .ref (t 1)) (C := RX5) (T := TX5) (N := 5) hx hb hts i_X5_nextSign_X5 hown hK hP 0 rfl rfl 0 (by decide) (hts (.fieldLink RX5 9 "FoldedMenu$Reader" "text" "[I") (by decide +kernel)) (fun _ h9 => h9) rfl dX5_nextSign_12 ?_
          refine lv_aload_n hx hb dX5_nextSign_15 rfl (lv_at hl 0 rfl) ?_
          refine va_get (D := D) (ci := 5) (v := .int t_at) (C := RX5) (T := TX5) (N := 5) hx hb hts i_X5_nextSign_X5 hown hK hP 0 rfl rfl 3 (by decide) (hts (.fieldLink RX5 22 "FoldedMenu$Reader" "at" "I") (by decide +kernel)) (fun _ h9 => h9) rfl dX5_nextSign_16 ?_
          obtain ⟨hi, h⟩ := h
          refine va_iald hx hb hK hP 1 0 rfl rfl hi dX5_nextSign_19 ?_
          refine lv_bipush (v := 32) hx hb dX5_nextSign_20 (by decide) ?_
          refine lv_icmp_eq (tgt := 35) hx hb dX5_nextSign_22 rfl (fun hc => ?_) (fun hc => ?_)
          · replace h := h.1 hc
            refine lv_aload_n hx hb dX5_nextSign_35 rfl (lv_at hl 0 rfl) ?_
            refine lv_dup hx hb dX5_nextSign_36 rfl ?_
            refine va_get (D := D) (ci := 5) (v := .int t_at) (C := RX5) (T := TX5) (N := 5) hx hb hts i_X5_nextSign_X5 hown hK hP 0 rfl rfl 3 (by decide) (hts (.fieldLink RX5 22 "FoldedMenu$Reader" "at" "I") (by decide +kernel)) (fun _ h9 => h9) rfl dX5_nextSign_37 ?_
            refine lv_iconst (v := 1) hx hb dX5_nextSign_40 (by decide) ?_
            refine lv_iadd hx hb dX5_nextSign_41 ?_
            refine va_put (D := D) (ci := 5) (v := .int (t_at + 1)) (ty := .int) (C := RX5) (T := TX5) (N := 5) hx hb hts i_X5_nextSign_X5 tyX5 tyX5_ok nmX5 hown hK hP hD hS 0 rfl rfl 3 (by decide) (hts (.fieldLink RX5 22 "FoldedMenu$Reader" "at" "I") (by decide +kernel)) (fun _ h9 => h9) rfl (by decide +kernel) rfl rfl (Nat.le_of_ble_eq_true rfl) dX5_nextSign_42 (fun H locs hP hD hS => ?_)
            have hP : va_P D vwCl [(t 0, .inr (5, [.ref (t 1), .ref (t 2), .int t_length, .int ((t_at + 1)), .int t_errorAt])), (t 1, .inl (cy 0, 140, .inl t_text))] H := hP
            have hD : va_D A [(t 0, .inr (5, [.ref (t 1), .ref (t 2), .int t_length, .int ((t_at + 1)), .int t_errorAt])), (t 1, .inl (cy 0, 140, .inl t_text))] := hD
            refine lv_goto (tgt := 0) hx hb dX5_nextSign_45 rfl ?_
            exact hk0 ((t_at + 1)) h _ _ hP hD hS _ (lv_sub hl [0] rfl)
          · replace h := h.2 hc
            refine lv_aload_n hx hb dX5_nextSign_25 rfl (lv_at hl 0 rfl) ?_
            refine va_get (D := D) (ci := 5) (v := .ref (t 1)) (C := RX5) (T := TX5) (N := 5) hx hb hts i_X5_nextSign_X5 hown hK hP 0 rfl rfl 0 (by decide) (hts (.fieldLink RX5 9 "FoldedMenu$Reader" "text" "[I") (by decide +kernel)) (fun _ h9 => h9) rfl dX5_nextSign_26 ?_
            refine lv_aload_n hx hb dX5_nextSign_29 rfl (lv_at hl 0 rfl) ?_
            refine va_get (D := D) (ci := 5) (v := .int t_at) (C := RX5) (T := TX5) (N := 5) hx hb hts i_X5_nextSign_X5 hown hK hP 0 rfl rfl 3 (by decide) (hts (.fieldLink RX5 22 "FoldedMenu$Reader" "at" "I") (by decide +kernel)) (fun _ h9 => h9) rfl dX5_nextSign_30 ?_
            obtain ⟨hi, h⟩ := h
            refine va_iald hx hb hK hP 1 0 rfl rfl hi dX5_nextSign_33 ?_
            exact W.iret hx hb hr (fun t ht _ => hend ((t_text t_at.toNatClampNeg)) t_at H locs h hP hD hS t ht) hS.2.2 dX5_nextSign_34
    exact key _ t_at h0 (Nat.lt_succ_self _)
  unfold p_X5_nextSign at h
  suffices key : ∀ (H : Heap) (locs : List Loc), va_P D vwCl [(t 0, .inr (5, [.ref (t 1), .ref (t 2), .int t_length, .int t_at, .int t_errorAt])), (t 1, .inl (cy 0, 140, .inl t_text))] H → va_D A [(t 0, .inr (5, [.ref (t 1), .ref (t 2), .int t_length, .int t_at, .int t_errorAt])), (t 1, .inl (cy 0, 140, .inl t_text))] → va_S A s.heap H locs → W p l e r_X5_nextSign s m args below meth c H locs 0 0 (MQ below Qc args s 0 0 A) (F0 m 0 ls []) from key s.heap [] hP hD hS
  clear hP hD hS
  intro H locs hP hD hS
  exact j0 t_at h _ _ hP hD hS _ (lv_sub hl [0] rfl)

theorem i_X5_failAt_X5 : ∀ w ∈ u_ws RX5 TX5 5, w ∈ wsX5_failAt := by decide +kernel
abbrev r_X5_failAt : Room := { frames := 0, cells := 0, slots := 0, locals := 0 }
set_option maxHeartbeats 4000000 in
set_option maxRecDepth 100000 in
theorem c_X5_failAt (l : Launch) (D : va_G) (cy : Nat → ClassId) (sz : Nat) (t : Nat → Nat) (t_length : Int32) (t_at : Int32) (t_errorAt : Int32) (a1 : Int32) (Q : Int32 → Int32 → Prop) (hq : p_X5_failAt a1 Q) : Met l yX5_failAt wsX5_failAt r_X5_failAt (wPO [.ref (t 0), .int a1] sz D cy [(t 0, .inr (5, [.ref (t 1), .ref (t 2), .int t_length, .int t_at, .int t_errorAt]))]) (va_Qi (fun r u => (r = 0 ∨ r = 1) ∧ ∃ (t_errorAt' : Int32), u = [(t 0, .inr (5, [.ref (t 1), .ref (t 2), .int t_length, .int t_at, .int t_errorAt']))] ∧ Q r t_errorAt') (fun u T9 => va_P D vwCl u T9.heap ∧ va_D (va_A [(t 0, .inr (5, [.ref (t 1), .ref (t 2), .int t_length, .int t_at, .int t_errorAt]))] sz) u) (va_A [(t 0, .inr (5, [.ref (t 1), .ref (t 2), .int t_length, .int t_at, .int t_errorAt]))] sz)) 0 0 (va_A [(t 0, .inr (5, [.ref (t 1), .ref (t 2), .int t_length, .int t_at, .int t_errorAt]))] sz) := by
  refine Met.ofW (cc := cX5_failAt) (maxL := 2) (ret := (some .boolean)) (by decide) rfl ?_
  intro p e s m args below meth c s₁ B hml hv
  obtain ⟨hargs, hsz, hP, hK, hD0⟩ := hv
  have hx := B.exec
  have hb := B.bytes
  have hr := B.returns
  have hts := atoms_spec (ws := wsX5_failAt) B.pre
  have hown : s.vm.findClass RX5 = some m.cls := findClass_of_methodNamed B.named
  have hlocks := B.notSynchronized
  clear B
  subst hsz
  have hD := hD0.self (sz := s.heap.size)
  generalize hAe : va_A [(t 0, .inr (5, [.ref (t 1), .ref (t 2), .int t_length, .int t_at, .int t_errorAt]))] s.heap.size = A at hD ⊢
  have hA : ∀ q : Nat, s.heap.size ≤ q → A q := fun q h => by rw [← hAe]; exact Or.inr h
  clear hAe hD0
  have hend : ∀ (r : Int32) (t_errorAt : Int32) (H : Heap) (locs : List Loc), (r = 0 ∨ r = 1) → Q r t_errorAt → va_P D vwCl [(t 0, .inr (5, [.ref (t 1), .ref (t 2), .int t_length, .int t_at, .int t_errorAt]))] H → va_D A [(t 0, .inr (5, [.ref (t 1), .ref (t 2), .int t_length, .int t_at, .int t_errorAt]))] → va_S A s.heap H locs → ∀ T9 : State, T9.heap = H → (va_Qi (fun r u => (r = 0 ∨ r = 1) ∧ ∃ (t_errorAt' : Int32), u = [(t 0, .inr (5, [.ref (t 1), .ref (t 2), .int t_length, .int t_at, .int t_errorAt']))] ∧ Q r t_errorAt') (fun u T9 => va_P D vwCl u T9.heap ∧ va_D A u) A) args s (.returned (some (.int r))) T9 := fun r t_errorAt H locs hz hq hP hD hS T9 ht => ⟨⟨r, _, rfl, ⟨hz, ⟨t_errorAt, rfl, hq⟩⟩, by rw [ht]; exact hP, hD⟩, hS.F ht⟩
  generalize (va_Qi (fun r u => (r = 0 ∨ r = 1) ∧ ∃ (t_errorAt' : Int32), u = [(t 0, .inr (5, [.ref (t 1), .ref (t 2), .int t_length, .int t_at, .int t_errorAt']))] ∧ Q r t_errorAt') (fun u T9 => va_P D vwCl u T9.heap ∧ va_D A u) A) = Qc at hend ⊢
  have hS : va_S A s.heap s.heap [] := va_S.rf
  show W p l e r_X5_failAt s m args below meth c s.heap [] 0 0 (MQ below Qc args s 0 0 A) (entryFrame m args 2)
  rw [show entryFrame m args 2 = entryFrame m ([.ref (t 0), .int a1] : List Value).toArray 2 from by rw [hargs]]
  have hl := lv_entry ([.ref (t 0), .int a1]) (n := 2) (Nat.le_of_ble_eq_true rfl)
  rw [lg_entry_eq]
  generalize (lg_sl ([.ref (t 0), .int a1]) ++ List.replicate (2 - (lg_sl ([.ref (t 0), .int a1])).length) Slot.unset).toArray = ls at hl ⊢
  have hl : lv_has ls 2 [(0, .ref (t 0)), (1, .int a1)] := hl
  have h := hq
  clear hargs hq
  unfold p_X5_failAt at h
  suffices key : ∀ (H : Heap) (locs : List Loc), va_P D vwCl [(t 0, .inr (5, [.ref (t 1), .ref (t 2), .int t_length, .int t_at, .int t_errorAt]))] H → va_D A [(t 0, .inr (5, [.ref (t 1), .ref (t 2), .int t_length, .int t_at, .int t_errorAt]))] → va_S A s.heap H locs → W p l e r_X5_failAt s m args below meth c H locs 0 0 (MQ below Qc args s 0 0 A) (F0 m 0 ls []) from key s.heap [] hP hD hS
  clear hP hD hS
  intro H locs hP hD hS
  refine lv_aload_n hx hb dX5_failAt_0 rfl (lv_at hl 0 rfl) ?_
  refine lv_iload_n hx hb dX5_failAt_1 rfl (lv_at hl 1 rfl) ?_
  refine va_put (D := D) (ci := 5) (v := .int a1) (ty := .int) (C := RX5) (T := TX5) (N := 5) hx hb hts i_X5_failAt_X5 tyX5 tyX5_ok nmX5 hown hK hP hD hS 0 rfl rfl 4 (by decide) (hts (.fieldLink RX5 33 "FoldedMenu$Reader" "errorAt" "I") (by decide +kernel)) (fun _ h9 => h9) rfl (by decide +kernel) rfl rfl (Nat.le_of_ble_eq_true rfl) dX5_failAt_2 (fun H locs hP hD hS => ?_)
  have hP : va_P D vwCl [(t 0, .inr (5, [.ref (t 1), .ref (t 2), .int t_length, .int t_at, .int a1]))] H := hP
  have hD : va_D A [(t 0, .inr (5, [.ref (t 1), .ref (t 2), .int t_length, .int t_at, .int a1]))] := hD
  refine lv_iconst (v := 0) hx hb dX5_failAt_5 (by decide) ?_
  exact W.zret hx hb hr rfl (fun t ht _ => hend 0 a1 H locs (by decide) h hP hD hS t ht) hS.2.2 dX5_failAt_6

theorem i_X5_readNumber_X5 : ∀ w ∈ u_ws RX5 TX5 5, w ∈ wsX5_readNumber := by decide +kernel
abbrev r_X5_readNumber : Room := { frames := 2, cells := 0, slots := 0, locals := 43 }
set_option maxHeartbeats 4000000 in
set_option maxRecDepth 100000 in
theorem c_X5_readNumber (l : Launch) (D : va_G) (cy : Nat → ClassId) (sz : Nat) (t : Nat → Nat) (t_text : Nat → Int32) (t_item : Nat → Int32) (t_length : Int32) (t_at : Int32) (t_errorAt : Int32) (a1 : Int32) (Q : Int32 → (Nat → Int32) → Int32 → Int32 → Prop) (hq : p_X5_readNumber t_text t_item t_length t_at t_errorAt a1 Q) : Met l yX5_readNumber wsX5_readNumber r_X5_readNumber (wPM [.ref (t 0), .int a1] sz D cy [(t 0, .inr (5, [.ref (t 1), .ref (t 2), .int t_length, .int t_at, .int t_errorAt])), (t 1, .inl (cy 0, 140, .inl t_text)), (t 2, .inl (cy 0, 7, .inl t_item))]) (va_Qi (fun r u => (r = 0 ∨ r = 1) ∧ ∃ (t_item' : Nat → Int32) (t_at' : Int32) (t_errorAt' : Int32), u = [(t 0, .inr (5, [.ref (t 1), .ref (t 2), .int t_length, .int t_at', .int t_errorAt'])), (t 1, .inl (cy 0, 140, .inl t_text)), (t 2, .inl (cy 0, 7, .inl t_item'))] ∧ Q r t_item' t_at' t_errorAt') (fun u T9 => va_P D vwCl u T9.heap ∧ va_D (va_A [(t 0, .inr (5, [.ref (t 1), .ref (t 2), .int t_length, .int t_at, .int t_errorAt])), (t 1, .inl (cy 0, 140, .inl t_text)), (t 2, .inl (cy 0, 7, .inl t_item))] sz) u) (va_A [(t 0, .inr (5, [.ref (t 1), .ref (t 2), .int t_length, .int t_at, .int t_errorAt])), (t 1, .inl (cy 0, 140, .inl t_text)), (t 2, .inl (cy 0, 7, .inl t_item))] sz)) 0 0 (va_A [(t 0, .inr (5, [.ref (t 1), .ref (t 2), .int t_length, .int t_at, .int t_errorAt])), (t 1, .inl (cy 0, 140, .inl t_text)), (t 2, .inl (cy 0, 7, .inl t_item))] sz) := by
  refine Met.ofW (cc := cX5_readNumber) (maxL := 5) (ret := (some .boolean)) (by decide) rfl ?_
  intro p e s m args below meth c s₁ B hml hv
  obtain ⟨hargs, hsz, hE, hP, hK, hD0⟩ := hv
  have hx := B.exec
  have hb := B.bytes
  have hr := B.returns
  have hts := atoms_spec (ws := wsX5_readNumber) B.pre
  have hown : s.vm.findClass RX5 = some m.cls := findClass_of_methodNamed B.named
  have hlocks := B.notSynchronized
  clear B
  subst hsz
  have hD := hD0.self (sz := s.heap.size)
  generalize hAe : va_A [(t 0, .inr (5, [.ref (t 1), .ref (t 2), .int t_length, .int t_at, .int t_errorAt])), (t 1, .inl (cy 0, 140, .inl t_text)), (t 2, .inl (cy 0, 7, .inl t_item))] s.heap.size = A at hD ⊢ hE
  have hA : ∀ q : Nat, s.heap.size ≤ q → A q := fun q h => by rw [← hAe]; exact Or.inr h
  clear hAe hD0
  have hend : ∀ (r : Int32) (t_item : Nat → Int32) (t_at : Int32) (t_errorAt : Int32) (H : Heap) (locs : List Loc), (r = 0 ∨ r = 1) → Q r t_item t_at t_errorAt → va_P D vwCl [(t 0, .inr (5, [.ref (t 1), .ref (t 2), .int t_length, .int t_at, .int t_errorAt])), (t 1, .inl (cy 0, 140, .inl t_text)), (t 2, .inl (cy 0, 7, .inl t_item))] H → va_D A [(t 0, .inr (5, [.ref (t 1), .ref (t 2), .int t_length, .int t_at, .int t_errorAt])), (t 1, .inl (cy 0, 140, .inl t_text)), (t 2, .inl (cy 0, 7, .inl t_item))] → va_S A s.heap H locs → ∀ T9 : State, T9.heap = H → (va_Qi (fun r u => (r = 0 ∨ r = 1) ∧ ∃ (t_item' : Nat → Int32) (t_at' : Int32) (t_errorAt' : Int32), u = [(t 0, .inr (5, [.ref (t 1), .ref (t 2), .int t_length, .int t_at', .int t_errorAt'])), (t 1, .inl (cy 0, 140, .inl t_text)), (t 2, .inl (cy 0, 7, .inl t_item'))] ∧ Q r t_item' t_at' t_errorAt') (fun u T9 => va_P D vwCl u T9.heap ∧ va_D A u) A) args s (.returned (some (.int r))) T9 := fun r t_item t_at t_errorAt H locs hz hq hP hD hS T9 ht => ⟨⟨r, _, rfl, ⟨hz, ⟨t_item, t_at, t_errorAt, rfl, hq⟩⟩, by rw [ht]; exact hP, hD⟩, hS.F ht⟩
  generalize (va_Qi (fun r u => (r = 0 ∨ r = 1) ∧ ∃ (t_item' : Nat → Int32) (t_at' : Int32) (t_errorAt' : Int32), u = [(t 0, .inr (5, [.ref (t 1), .ref (t 2), .int t_length, .int t_at', .int t_errorAt'])), (t 1, .inl (cy 0, 140, .inl t_text)), (t 2, .inl (cy 0, 7, .inl t_item'))] ∧ Q r t_item' t_at' t_errorAt') (fun u T9 => va_P D vwCl u T9.heap ∧ va_D A u) A) = Qc at hend ⊢
  have hS : va_S A s.heap s.heap [] := va_S.rf
  show W p l e r_X5_readNumber s m args below meth c s.heap [] 0 0 (MQ below Qc args s 0 0 A) (entryFrame m args 5)
  rw [show entryFrame m args 5 = entryFrame m ([.ref (t 0), .int a1] : List Value).toArray 5 from by rw [hargs]]
  have hl := lv_entry ([.ref (t 0), .int a1]) (n := 5) (Nat.le_of_ble_eq_true rfl)
  rw [lg_entry_eq]
  generalize (lg_sl ([.ref (t 0), .int a1]) ++ List.replicate (5 - (lg_sl ([.ref (t 0), .int a1])).length) Slot.unset).toArray = ls at hl ⊢
  have hl : lv_has ls 5 [(0, .ref (t 0)), (1, .int a1)] := hl
  have h := hq
  clear hargs hq
  have j127 : ∀ (t_item : Nat → Int32) (t_at : Int32) (t_errorAt : Int32) (x2 : Int32), p_X5_readNumber_127 t_item t_at x2 Q → ∀ (H : Heap) (locs : List Loc), va_P D vwCl [(t 0, .inr (5, [.ref (t 1), .ref (t 2), .int t_length, .int t_at, .int t_errorAt])), (t 1, .inl (cy 0, 140, .inl t_text)), (t 2, .inl (cy 0, 7, .inl t_item))] H → va_D A [(t 0, .inr (5, [.ref (t 1), .ref (t 2), .int t_length, .int t_at, .int t_errorAt])), (t 1, .inl (cy 0, 140, .inl t_text)), (t 2, .inl (cy 0, 7, .inl t_item))] → va_S A s.heap H locs → ∀ (ls : Array Slot), lv_has ls 5 [(0, .ref (t 0)), (2, .int x2)] → W p l e r_X5_readNumber s m args below meth c H locs 0 0 (MQ below Qc args s 0 0 A) (F0 m 127 ls []) := by
    intro t_item t_at t_errorAt x2 h H locs hP hD hS ls hl
    unfold p_X5_readNumber_127 at h
    refine lv_aload_n hx hb dX5_readNumber_127 rfl (lv_at hl 0 rfl) ?_
    refine lv_iload_n hx hb dX5_readNumber_128 rfl (lv_at hl 1 rfl) ?_
    refine w_callM hP hD hS hA [0] [1, 2] (wc := [(t 0, .inr (5, [.ref (t 1), .ref (t 2), .int t_length, .int t_at, .int t_errorAt]))]) (wr := [(t 1, .inl (cy 0, 140, .inl t_text)), (t 2, .inl (cy 0, 7, .inl t_item))]) rfl rfl (by decide) (by decide) (va_runV (As := [.int x2]) (rest := []) ⟨hx, hb, hml, hown, hts⟩ (c_X5_failAt l D cy H.size t t_length t_at t_errorAt x2 _ h) (cwV 1 hts gX5_readNumber_X5_failAt rfl rfl rfl (by decide +kernel) ⟨Nat.le_of_ble_eq_true rfl, Nat.le_of_ble_eq_true rfl⟩) (w_preVO hK hP hD [0] rfl rfl (by decide) (ci := 5) rfl rfl) rfl rfl hl.1 rfl (lv_room (Nat.le_of_ble_eq_true rfl)) dX5_readNumber_129 ⟨Nat.zero_le _, Nat.zero_le _⟩) (fun r2 u H locs hw hP hD hS => ?_)
    obtain ⟨z_r2, errorAt_1, rfl, h⟩ := hw
    try dsimp only at h
    have hP := hP.sub (ws' := [(t 0, .inr (5, [.ref (t 1), .ref (t 2), .int t_length, .int t_at, .int errorAt_1])), (t 1, .inl (cy 0, 140, .inl t_text)), (t 2, .inl (cy 0, 7, .inl t_item))]) [2, 0, 1] rfl
    have hD := hD.sub (ws' := [(t 0, .inr (5, [.ref (t 1), .ref (t 2), .int t_length, .int t_at, .int errorAt_1])), (t 1, .inl (cy 0, 140, .inl t_text)), (t 2, .inl (cy 0, 7, .inl t_item))]) [2, 0, 1] (by decide) rfl
    exact W.zret hx hb hr (w_bool z_r2) (fun t ht _ => hend r2 t_item t_at errorAt_1 H locs z_r2 h hP hD hS t ht) hS.2.2 dX5_readNumber_132
  have j104 : ∀ (t_item : Nat → Int32) (t_at : Int32) (t_errorAt : Int32) (x2 : Int32) (x3 : Int32) (k0 : Int32), p_X5_readNumber_104 a1 t_item t_at t_errorAt x2 x3 k0 Q → ∀ (H : Heap) (locs : List Loc), va_P D vwCl [(t 0, .inr (5, [.ref (t 1), .ref (t 2), .int t_length, .int t_at, .int t_errorAt])), (t 1, .inl (cy 0, 140, .inl t_text)), (t 2, .inl (cy 0, 7, .inl t_item))] H → va_D A [(t 0, .inr (5, [.ref (t 1), .ref (t 2), .int t_length, .int t_at, .int t_errorAt])), (t 1, .inl (cy 0, 140, .inl t_text)), (t 2, .inl (cy 0, 7, .inl t_item))] → va_S A s.heap H locs → ∀ (ls : Array Slot), lv_has ls 5 [(0, .ref (t 0)), (1, .int a1), (2, .int x2), (3, .int x3)] → W p l e r_X5_readNumber s m args below meth c H locs 0 0 (MQ below Qc args s 0 0 A) (F0 m 104 ls [.int k0]) := by
    intro t_item t_at t_errorAt x2 x3 k0 h H locs hP hD hS ls hl
    unfold p_X5_readNumber_104 at h
    refine lv_istore (lv' := [(4, .int k0), (0, .ref (t 0)), (1, .int a1), (2, .int x2), (3, .int x3)]) hx hb dX5_readNumber_104 hl (by decide) rfl (fun ls hl => ?_)
    refine lv_aload_n hx hb dX5_readNumber_106 rfl (lv_at hl 1 rfl) ?_
    refine va_get (D := D) (ci := 5) (v := .int t_at) (C := RX5) (T := TX5) (N := 5) hx hb hts i_X5_readNumber_X5 hown hK hP 0 rfl rfl 3 (by decide) (hts (.fieldLink RX5 22 "FoldedMenu$Reader" "at" "I") (by decide +kernel)) (fun _ h9 => h9) rfl dX5_readNumber_107 ?_
    refine lv_iload_n hx hb dX5_readNumber_110 rfl (lv_at hl 3 rfl) ?_
    refine lv_icmp_eq (tgt := 127) hx hb dX5_readNumber_111 rfl (fun hc => ?_) (fun hc => ?_)
    · replace h := h.1 hc
      exact j127 t_item t_at t_errorAt x2 h _ _ hP hD hS _ (lv_sub hl [1, 3] rfl)
    · replace h := h.2 hc
      refine lv_iload hx hb dX5_readNumber_114 (lv_at hl 0 rfl) ?_
      refine lv_if_ne (tgt := 127) hx hb dX5_readNumber_116 rfl (fun hc => ?_) (fun hc => ?_)
      · replace h := h.1 hc
        exact j127 t_item t_at t_errorAt x2 h _ _ hP hD hS _ (lv_sub hl [1, 3] rfl)
      · replace h := h.2 hc
        refine lv_iload_n hx hb dX5_readNumber_119 rfl (lv_at hl 2 rfl) ?_
        refine lv_iload_n hx hb dX5_readNumber_120 rfl (lv_at hl 4 rfl) ?_
        have hPc := hP.sub (ws' := []) [] rfl
        refine w_callZ (va_runSN (As := [.int a1, .int x3]) (rest := []) ⟨hx, hb, hml, hown, hts⟩ (c_X8_isDishValue l D cy H a1 x3 _ h) ⟨(va_cnB 2 hts gX5_readNumber_X8_isDishValue_n102 rfl rfl rfl (nM_X5_102 hE.1) (hts (.initialized RX8) (by decide +kernel)) (by decide +kernel) ⟨Nat.le_of_ble_eq_true rfl, Nat.le_of_ble_eq_true rfl⟩), hts (.static yX8_isDishValue) (by decide +kernel), trivial⟩ (w_preSR hE hS hK hPc) rfl rfl hl.1 rfl (lv_room (Nat.le_of_ble_eq_true rfl)) dX5_readNumber_121 ⟨Nat.zero_le _, Nat.zero_le _⟩) hS (fun r3 locs z_r3 h hS => ?_)
        try dsimp only at h
        refine lv_if_ne (tgt := 133) hx hb dX5_readNumber_124 rfl (fun hc => ?_) (fun hc => ?_)
        · replace h := h.1 hc
          refine lv_aload_n hx hb dX5_readNumber_133 rfl (lv_at hl 1 rfl) ?_
          refine va_get (D := D) (ci := 5) (v := .ref (t 2)) (C := RX5) (T := TX5) (N := 5) hx hb hts i_X5_readNumber_X5 hown hK hP 0 rfl rfl 1 (by decide) (hts (.fieldLink RX5 15 "FoldedMenu$Reader" "item" "[I") (by decide +kernel)) (fun _ h9 => h9) rfl dX5_readNumber_134 ?_
          refine lv_iload_n hx hb dX5_readNumber_137 rfl (lv_at hl 2 rfl) ?_
          refine lv_iload_n hx hb dX5_readNumber_138 rfl (lv_at hl 4 rfl) ?_
          obtain ⟨hi, h⟩ := h
          refine va_iast hx hb hK hP hD hS 2 0 rfl rfl hi dX5_readNumber_139 (fun H locs hP hD hS => ?_)
          have hP : va_P D vwCl [(t 0, .inr (5, [.ref (t 1), .ref (t 2), .int t_length, .int t_at, .int t_errorAt])), (t 1, .inl (cy 0, 140, .inl t_text)), (t 2, .inl (cy 0, 7, .inl ((upd t_item a1.toNatClampNeg x3))))] H := hP
          have hD : va_D A [(t 0, .inr (5, [.ref (t 1), .ref (t 2), .int t_length, .int t_at, .int t_errorAt])), (t 1, .inl (cy 0, 140, .inl t_text)), (t 2, .inl (cy 0, 7, .inl ((upd t_item a1.toNatClampNeg x3))))] := hD
          refine lv_iconst (v := 1) hx hb dX5_readNumber_140 (by decide) ?_
          exact W.zret hx hb hr rfl (fun t ht _ => hend 1 ((upd t_item a1.toNatClampNeg x3)) t_at t_errorAt H locs (by decide) h hP hD hS t ht) hS.2.2 dX5_readNumber_141
        · replace h := h.2 hc
          exact j127 t_item t_at t_errorAt x2 h _ _ hP hD hS _ (lv_sub hl [1, 3] rfl)
  have j103 : ∀ (t_item : Nat → Int32) (t_at : Int32) (t_errorAt : Int32) (x2 : Int32) (x3 : Int32), p_X5_readNumber_103 a1 t_item t_at t_errorAt x2 x3 Q → ∀ (H : Heap) (locs : List Loc), va_P D vwCl [(t 0, .inr (5, [.ref (t 1), .ref (t 2), .int t_length, .int t_at, .int t_errorAt])), (t 1, .inl (cy 0, 140, .inl t_text)), (t 2, .inl (cy 0, 7, .inl t_item))] H → va_D A [(t 0, .inr (5, [.ref (t 1), .ref (t 2), .int t_length, .int t_at, .int t_errorAt])), (t 1, .inl (cy 0, 140, .inl t_text)), (t 2, .inl (cy 0, 7, .inl t_item))] → va_S A s.heap H locs → ∀ (ls : Array Slot), lv_has ls 5 [(0, .ref (t 0)), (1, .int a1), (2, .int x2), (3, .int x3)] → W p l e r_X5_readNumber s m args below meth c H locs 0 0 (MQ below Qc args s 0 0 A) (F0 m 103 ls []) := by
    intro t_item t_at t_errorAt x2 x3 h H locs hP hD hS ls hl
    unfold p_X5_readNumber_103 at h
    refine lv_iconst (v := 0) hx hb dX5_readNumber_103 (by decide) ?_
    exact j104 t_item t_at t_errorAt x2 x3 0 h _ _ hP hD hS _ (lv_sub hl [0, 1, 2, 3] rfl)
  have j78 : ∀ (t_item : Nat → Int32) (t_at : Int32) (t_errorAt : Int32) (x2 : Int32) (x3 : Int32), p_X5_readNumber_78 t_text a1 t_item t_at t_errorAt x2 x3 Q → ∀ (H : Heap) (locs : List Loc), va_P D vwCl [(t 0, .inr (5, [.ref (t 1), .ref (t 2), .int t_length, .int t_at, .int t_errorAt])), (t 1, .inl (cy 0, 140, .inl t_text)), (t 2, .inl (cy 0, 7, .inl t_item))] H → va_D A [(t 0, .inr (5, [.ref (t 1), .ref (t 2), .int t_length, .int t_at, .int t_errorAt])), (t 1, .inl (cy 0, 140, .inl t_text)), (t 2, .inl (cy 0, 7, .inl t_item))] → va_S A s.heap H locs → ∀ (ls : Array Slot), lv_has ls 5 [(0, .ref (t 0)), (1, .int a1), (2, .int x2), (3, .int x3)] → W p l e r_X5_readNumber s m args below meth c H locs 0 0 (MQ below Qc args s 0 0 A) (F0 m 78 ls []) := by
    intro t_item t_at t_errorAt x2 x3 h H locs hP hD hS ls hl
    unfold p_X5_readNumber_78 at h
    refine lv_aload_n hx hb dX5_readNumber_78 rfl (lv_at hl 0 rfl) ?_
    refine va_get (D := D) (ci := 5) (v := .int t_at) (C := RX5) (T := TX5) (N := 5) hx hb hts i_X5_readNumber_X5 hown hK hP 0 rfl rfl 3 (by decide) (hts (.fieldLink RX5 22 "FoldedMenu$Reader" "at" "I") (by decide +kernel)) (fun _ h9 => h9) rfl dX5_readNumber_79 ?_
    refine lv_iload_n hx hb dX5_readNumber_82 rfl (lv_at hl 2 rfl) ?_
    refine lv_isub hx hb dX5_readNumber_83 ?_
    refine lv_iconst (v := 1) hx hb dX5_readNumber_84 (by decide) ?_
    refine lv_icmp_le (tgt := 103) hx hb dX5_readNumber_85 rfl (fun hc => ?_) (fun hc => ?_)
    · replace h := h.1 hc
      exact j103 t_item t_at t_errorAt x2 x3 h _ _ hP hD hS _ (lv_sub hl [0, 1, 2, 3] rfl)
    · replace h := h.2 hc
      refine lv_aload_n hx hb dX5_readNumber_88 rfl (lv_at hl 0 rfl) ?_
      refine va_get (D := D) (ci := 5) (v := .ref (t 1)) (C := RX5) (T := TX5) (N := 5) hx hb hts i_X5_readNumber_X5 hown hK hP 0 rfl rfl 0 (by decide) (hts (.fieldLink RX5 9 "FoldedMenu$Reader" "text" "[I") (by decide +kernel)) (fun _ h9 => h9) rfl dX5_readNumber_89 ?_
      refine lv_iload_n hx hb dX5_readNumber_92 rfl (lv_at hl 2 rfl) ?_
      obtain ⟨hi, h⟩ := h
      refine va_iald hx hb hK hP 1 0 rfl rfl hi dX5_readNumber_93 ?_
      refine lv_bipush (v := 48) hx hb dX5_readNumber_94 (by decide) ?_
      refine lv_icmp_ne (tgt := 103) hx hb dX5_readNumber_96 rfl (fun hc => ?_) (fun hc => ?_)
      · replace h := h.1 hc
        exact j103 t_item t_at t_errorAt x2 x3 h _ _ hP hD hS _ (lv_sub hl [0, 1, 2, 3] rfl)
      · replace h := h.2 hc
        refine lv_iconst (v := 1) hx hb dX5_readNumber_99 (by decide) ?_
        refine lv_goto (tgt := 104) hx hb dX5_readNumber_100 rfl ?_
        exact j104 t_item t_at t_errorAt x2 x3 1 h _ _ hP hD hS _ (lv_sub hl [0, 1, 2, 3] rfl)
  have j12 : ∀ (t_item : Nat → Int32) (t_at : Int32) (t_errorAt : Int32) (x2 : Int32) (x3 : Int32), p_X5_readNumber_12 t_text t_length a1 t_item t_errorAt x2 Q t_at x3 → ∀ (H : Heap) (locs : List Loc), va_P D vwCl [(t 0, .inr (5, [.ref (t 1), .ref (t 2), .int t_length, .int t_at, .int t_errorAt])), (t 1, .inl (cy 0, 140, .inl t_text)), (t 2, .inl (cy 0, 7, .inl t_item))] H → va_D A [(t 0, .inr (5, [.ref (t 1), .ref (t 2), .int t_length, .int t_at, .int t_errorAt])), (t 1, .inl (cy 0, 140, .inl t_text)), (t 2, .inl (cy 0, 7, .inl t_item))] → va_S A s.heap H locs → ∀ (ls : Array Slot), lv_has ls 5 [(0, .ref (t 0)), (1, .int a1), (2, .int x2), (3, .int x3)] → W p l e r_X5_readNumber s m args below meth c H locs 0 0 (MQ below Qc args s 0 0 A) (F0 m 12 ls []) := by
    intro t_item t_at t_errorAt x2 x3 h
    obtain ⟨I12, μ12, h0, hs12⟩ := h
    have key : ∀ (n : Nat) (t_at : Int32) (x3 : Int32), I12 t_at x3 → μ12 t_at x3 < n → ∀ (H : Heap) (locs : List Loc), va_P D vwCl [(t 0, .inr (5, [.ref (t 1), .ref (t 2), .int t_length, .int t_at, .int t_errorAt])), (t 1, .inl (cy 0, 140, .inl t_text)), (t 2, .inl (cy 0, 7, .inl t_item))] H → va_D A [(t 0, .inr (5, [.ref (t 1), .ref (t 2), .int t_length, .int t_at, .int t_errorAt])), (t 1, .inl (cy 0, 140, .inl t_text)), (t 2, .inl (cy 0, 7, .inl t_item))] → va_S A s.heap H locs → ∀ (ls : Array Slot), lv_has ls 5 [(0, .ref (t 0)), (1, .int a1), (2, .int x2), (3, .int x3)] → W p l e r_X5_readNumber s m args below meth c H locs 0 0 (MQ below Qc args s 0 0 A) (F0 m 12 ls []) := by
      intro n
      induction n with
      | zero => intro t_at x3 _ h; exact absurd h (Nat.not_lt_zero _)
      | succ n ih12 =>
        intro t_at x3 hI hn H locs hP hD hS ls hl
        have h := hs12 t_at x3 hI
        have hk12 : ∀ (t_at1 : Int32) (x31 : Int32), (fun (t_at' : Int32) (x3' : Int32) => I12 t_at' x3' ∧ μ12 t_at' x3' < μ12 t_at x3) t_at1 x31 → ∀ (H : Heap) (locs : List Loc), va_P D vwCl [(t 0, .inr (5, [.ref (t 1), .ref (t 2), .int t_length, .int t_at1, .int t_errorAt])), (t 1, .inl (cy 0, 140, .inl t_text)), (t 2, .inl (cy 0, 7, .inl t_item))] H → va_D A [(t 0, .inr (5, [.ref (t 1), .ref (t 2), .int t_length, .int t_at1, .int t_errorAt])), (t 1, .inl (cy 0, 140, .inl t_text)), (t 2, .inl (cy 0, 7, .inl t_item))] → va_S A s.heap H locs → ∀ (ls : Array Slot), lv_has ls 5 [(0, .ref (t 0)), (1, .int a1), (2, .int x2), (3, .int x31)] → W p l e r_X5_readNumber s m args below meth c H locs 0 0 (MQ below Qc args s 0 0 A) (F0 m 12 ls []) := by
          intro t_at1 x31 hz
          exact ih12 t_at1 x31 hz.1 (Nat.lt_of_lt_of_le hz.2 (Nat.le_of_lt_succ hn))
        generalize hKe : (fun (t_at' : Int32) (x3' : Int32) => I12 t_at' x3' ∧ μ12 t_at' x3' < μ12 t_at x3) = K12 at h hk12
        clear hKe ih12 hn hI
        unfold q_X5_readNumber_12 at h
        refine lv_aload_n hx hb dX5_readNumber_12 rfl (lv_at hl 0 rfl) ?_
        refine va_get (D := D) (ci := 5) (v := .int t_at) (C := RX5) (T := TX5) (N := 5) hx hb hts i_X5_readNumber_X5 hown hK hP 0 rfl rfl 3 (by decide) (hts (.fieldLink RX5 22 "FoldedMenu$Reader" "at" "I") (by decide +kernel)) (fun _ h9 => h9) rfl dX5_readNumber_13 ?_
        refine lv_aload_n hx hb dX5_readNumber_16 rfl (lv_at hl 0 rfl) ?_
        refine va_get (D := D) (ci := 5) (v := .int t_length) (C := RX5) (T := TX5) (N := 5) hx hb hts i_X5_readNumber_X5 hown hK hP 0 rfl rfl 2 (by decide) (hts (.fieldLink RX5 18 "FoldedMenu$Reader" "length" "I") (by decide +kernel)) (fun _ h9 => h9) rfl dX5_readNumber_17 ?_
        refine lv_icmp_ge (tgt := 78) hx hb dX5_readNumber_20 rfl (fun hc => ?_) (fun hc => ?_)
        · replace h := h.1 hc
          exact j78 t_item t_at t_errorAt x2 x3 h _ _ hP hD hS _ (lv_sub hl [0, 1, 2, 3] rfl)
        · replace h := h.2 hc
          refine lv_aload_n hx hb dX5_readNumber_23 rfl (lv_at hl 0 rfl) ?_
          refine va_get (D := D) (ci := 5) (v := .ref (t 1)) (C := RX5) (T := TX5) (N := 5) hx hb hts i_X5_readNumber_X5 hown hK hP 0 rfl rfl 0 (by decide) (hts (.fieldLink RX5 9 "FoldedMenu$Reader" "text" "[I") (by decide +kernel)) (fun _ h9 => h9) rfl dX5_readNumber_24 ?_
          refine lv_aload_n hx hb dX5_readNumber_27 rfl (lv_at hl 0 rfl) ?_
          refine va_get (D := D) (ci := 5) (v := .int t_at) (C := RX5) (T := TX5) (N := 5) hx hb hts i_X5_readNumber_X5 hown hK hP 0 rfl rfl 3 (by decide) (hts (.fieldLink RX5 22 "FoldedMenu$Reader" "at" "I") (by decide +kernel)) (fun _ h9 => h9) rfl dX5_readNumber_28 ?_
          obtain ⟨hi, h⟩ := h
          refine va_iald hx hb hK hP 1 0 rfl rfl hi dX5_readNumber_31 ?_
          refine lv_bipush (v := 48) hx hb dX5_readNumber_32 (by decide) ?_
          refine lv_bipush (v := 57) hx hb dX5_readNumber_34 (by decide) ?_
          have hPc := hP.sub (ws' := []) [] rfl
          refine w_callZ (va_runSN (As := [.int (t_text t_at.toNatClampNeg), .int 48, .int 57]) (rest := []) ⟨hx, hb, hml, hown, hts⟩ (c_X8_inRange l D cy H ((t_text t_at.toNatClampNeg)) 48 57 _ h) ⟨(va_cnB 3 hts gX5_readNumber_X8_inRange_n91 rfl rfl rfl (nM_X5_91 hE.1) (hts (.initialized RX8) (by decide +kernel)) (by decide +kernel) ⟨Nat.le_of_ble_eq_true rfl, Nat.le_of_ble_eq_true rfl⟩), hts (.static yX8_inRange) (by decide +kernel), trivial⟩ (w_preSN hK hPc) rfl rfl hl.1 rfl (lv_room (Nat.le_of_ble_eq_true rfl)) dX5_readNumber_36 ⟨Nat.zero_le _, Nat.zero_le _⟩) hS (fun r4 locs z_r4 h hS => ?_)
          try dsimp only at h
          refine lv_if_eq (tgt := 78) hx hb dX5_readNumber_39 rfl (fun hc => ?_) (fun hc => ?_)
          · replace h := h.1 hc
            exact j78 t_item t_at t_errorAt x2 x3 h _ _ hP hD hS _ (lv_sub hl [0, 1, 2, 3] rfl)
          · replace h := h.2 hc
            refine lv_ldc (v := 100000) hx hb hown (hts (.constant RX5 95 (100000)) (by decide +kernel)) dX5_readNumber_42 ?_
            refine lv_iload_n hx hb dX5_readNumber_44 rfl (lv_at hl 3 rfl) ?_
            refine lv_bipush (v := 10) hx hb dX5_readNumber_45 (by decide) ?_
            refine lv_imul hx hb dX5_readNumber_47 ?_
            refine lv_aload_n hx hb dX5_readNumber_48 rfl (lv_at hl 0 rfl) ?_
            refine va_get (D := D) (ci := 5) (v := .ref (t 1)) (C := RX5) (T := TX5) (N := 5) hx hb hts i_X5_readNumber_X5 hown hK hP 0 rfl rfl 0 (by decide) (hts (.fieldLink RX5 9 "FoldedMenu$Reader" "text" "[I") (by decide +kernel)) (fun _ h9 => h9) rfl dX5_readNumber_49 ?_
            refine lv_aload_n hx hb dX5_readNumber_52 rfl (lv_at hl 0 rfl) ?_
            refine va_get (D := D) (ci := 5) (v := .int t_at) (C := RX5) (T := TX5) (N := 5) hx hb hts i_X5_readNumber_X5 hown hK hP 0 rfl rfl 3 (by decide) (hts (.fieldLink RX5 22 "FoldedMenu$Reader" "at" "I") (by decide +kernel)) (fun _ h9 => h9) rfl dX5_readNumber_53 ?_
            obtain ⟨hi, h⟩ := h
            refine va_iald hx hb hK hP 1 0 rfl rfl hi dX5_readNumber_56 ?_
            refine lv_iadd hx hb dX5_readNumber_57 ?_
            refine lv_bipush (v := 48) hx hb dX5_readNumber_58 (by decide) ?_
            refine lv_isub hx hb dX5_readNumber_60 ?_
            refine va_mmin hx hb (hml.trans hl.1.symm) hown (hts (.methodLink RX5 96 Lib.Math.min.name) (by decide +kernel)) (hts (.static Lib.Math.min.name) (by decide +kernel)) (hts (.initialized "java/lang/Math") (by decide +kernel)) (hts (.code Lib.Math.min.name Lib.Math.min.code 2 (some .int)) (by decide +kernel)) (Nat.le_of_ble_eq_true rfl) (Nat.le_of_ble_eq_true rfl) (Nat.zero_le _) (Nat.zero_le _) dX5_readNumber_61 ?_
            refine lv_istore_n (lv' := [(3, .int (if (((x3 * 10) + (t_text t_at.toNatClampNeg)) - 48) < 100000 then (((x3 * 10) + (t_text t_at.toNatClampNeg)) - 48) else 100000)), (0, .ref (t 0)), (1, .int a1), (2, .int x2)]) hx hb dX5_readNumber_64 rfl hl (by decide) rfl (fun ls hl => ?_)
            refine lv_aload_n hx hb dX5_readNumber_65 rfl (lv_at hl 1 rfl) ?_
            refine lv_dup hx hb dX5_readNumber_66 rfl ?_
            refine va_get (D := D) (ci := 5) (v := .int t_at) (C := RX5) (T := TX5) (N := 5) hx hb hts i_X5_readNumber_X5 hown hK hP 0 rfl rfl 3 (by decide) (hts (.fieldLink RX5 22 "FoldedMenu$Reader" "at" "I") (by decide +kernel)) (fun _ h9 => h9) rfl dX5_readNumber_67 ?_
            refine lv_iconst (v := 1) hx hb dX5_readNumber_70 (by decide) ?_
            refine lv_iadd hx hb dX5_readNumber_71 ?_
            refine va_put (D := D) (ci := 5) (v := .int (t_at + 1)) (ty := .int) (C := RX5) (T := TX5) (N := 5) hx hb hts i_X5_readNumber_X5 tyX5 tyX5_ok nmX5 hown hK hP hD hS 0 rfl rfl 3 (by decide) (hts (.fieldLink RX5 22 "FoldedMenu$Reader" "at" "I") (by decide +kernel)) (fun _ h9 => h9) rfl (by decide +kernel) rfl rfl (Nat.le_of_ble_eq_true rfl) dX5_readNumber_72 (fun H locs hP hD hS => ?_)
            have hP : va_P D vwCl [(t 0, .inr (5, [.ref (t 1), .ref (t 2), .int t_length, .int ((t_at + 1)), .int t_errorAt])), (t 1, .inl (cy 0, 140, .inl t_text)), (t 2, .inl (cy 0, 7, .inl t_item))] H := hP
            have hD : va_D A [(t 0, .inr (5, [.ref (t 1), .ref (t 2), .int t_length, .int ((t_at + 1)), .int t_errorAt])), (t 1, .inl (cy 0, 140, .inl t_text)), (t 2, .inl (cy 0, 7, .inl t_item))] := hD
            refine lv_goto (tgt := 12) hx hb dX5_readNumber_75 rfl ?_
            exact hk12 ((t_at + 1)) ((if (((x3 * 10) + (t_text t_at.toNatClampNeg)) - 48) < 100000 then (((x3 * 10) + (t_text t_at.toNatClampNeg)) - 48) else 100000)) h _ _ hP hD hS _ (lv_sub hl [1, 2, 3, 0] rfl)
    exact key _ t_at x3 h0 (Nat.lt_succ_self _)
  unfold p_X5_readNumber at h
  suffices key : ∀ (H : Heap) (locs : List Loc), va_P D vwCl [(t 0, .inr (5, [.ref (t 1), .ref (t 2), .int t_length, .int t_at, .int t_errorAt])), (t 1, .inl (cy 0, 140, .inl t_text)), (t 2, .inl (cy 0, 7, .inl t_item))] H → va_D A [(t 0, .inr (5, [.ref (t 1), .ref (t 2), .int t_length, .int t_at, .int t_errorAt])), (t 1, .inl (cy 0, 140, .inl t_text)), (t 2, .inl (cy 0, 7, .inl t_item))] → va_S A s.heap H locs → W p l e r_X5_readNumber s m args below meth c H locs 0 0 (MQ below Qc args s 0 0 A) (F0 m 0 ls []) from key s.heap [] hP hD hS
  clear hP hD hS
  intro H locs hP hD hS
  refine lv_aload_n hx hb dX5_readNumber_0 rfl (lv_at hl 0 rfl) ?_
  refine w_callM hP hD hS hA [0, 1] [2] (wc := [(t 0, .inr (5, [.ref (t 1), .ref (t 2), .int t_length, .int t_at, .int t_errorAt])), (t 1, .inl (cy 0, 140, .inl t_text))]) (wr := [(t 2, .inl (cy 0, 7, .inl t_item))]) rfl rfl (by decide) (by decide) (va_runV (As := []) (rest := []) ⟨hx, hb, hml, hown, hts⟩ (c_X5_nextSign l D cy H.size t t_text t_length t_at t_errorAt _ h) (cwV 0 hts gX5_readNumber_X5_nextSign rfl rfl rfl (by decide +kernel) ⟨Nat.le_of_ble_eq_true rfl, Nat.le_of_ble_eq_true rfl⟩) (w_preVO hK hP hD [0, 1] rfl rfl (by decide) (ci := 5) rfl rfl) rfl rfl hl.1 rfl (lv_room (Nat.le_of_ble_eq_true rfl)) dX5_readNumber_1 ⟨Nat.zero_le _, Nat.zero_le _⟩) (fun r6 u H locs hw hP hD hS => ?_)
  obtain ⟨at_5, rfl, h⟩ := hw
  try dsimp only at h
  have hP := hP.sub (ws' := [(t 0, .inr (5, [.ref (t 1), .ref (t 2), .int t_length, .int at_5, .int t_errorAt])), (t 1, .inl (cy 0, 140, .inl t_text)), (t 2, .inl (cy 0, 7, .inl t_item))]) [1, 2, 0] rfl
  have hD := hD.sub (ws' := [(t 0, .inr (5, [.ref (t 1), .ref (t 2), .int t_length, .int at_5, .int t_errorAt])), (t 1, .inl (cy 0, 140, .inl t_text)), (t 2, .inl (cy 0, 7, .inl t_item))]) [1, 2, 0] (by decide) rfl
  refine lv_pop hx hb dX5_readNumber_4 rfl ?_
  refine lv_aload_n hx hb dX5_readNumber_5 rfl (lv_at hl 0 rfl) ?_
  refine va_get (D := D) (ci := 5) (v := .int at_5) (C := RX5) (T := TX5) (N := 5) hx hb hts i_X5_readNumber_X5 hown hK hP 0 rfl rfl 3 (by decide) (hts (.fieldLink RX5 22 "FoldedMenu$Reader" "at" "I") (by decide +kernel)) (fun _ h9 => h9) rfl dX5_readNumber_6 ?_
  refine lv_istore_n (lv' := [(2, .int at_5), (0, .ref (t 0)), (1, .int a1)]) hx hb dX5_readNumber_9 rfl hl (by decide) rfl (fun ls hl => ?_)
  refine lv_iconst (v := 0) hx hb dX5_readNumber_10 (by decide) ?_
  refine lv_istore_n (lv' := [(3, .int 0), (2, .int at_5), (0, .ref (t 0)), (1, .int a1)]) hx hb dX5_readNumber_11 rfl hl (by decide) rfl (fun ls hl => ?_)
  exact j12 t_item at_5 t_errorAt at_5 0 h _ _ hP hD hS _ (lv_sub hl [2, 3, 1, 0] rfl)

theorem i_X5_readSign_X5 : ∀ w ∈ u_ws RX5 TX5 5, w ∈ wsX5_readSign := by decide +kernel
abbrev r_X5_readSign : Room := { frames := 1, cells := 0, slots := 0, locals := 21 }
set_option maxHeartbeats 4000000 in
set_option maxRecDepth 100000 in
theorem c_X5_readSign (l : Launch) (D : va_G) (cy : Nat → ClassId) (sz : Nat) (t : Nat → Nat) (t_text : Nat → Int32) (t_length : Int32) (t_at : Int32) (t_errorAt : Int32) (a1 : Int32) (Q : Int32 → Int32 → Int32 → Prop) (hq : p_X5_readSign t_text t_length t_at t_errorAt a1 Q) : Met l yX5_readSign wsX5_readSign r_X5_readSign (wPO [.ref (t 0), .int a1] sz D cy [(t 0, .inr (5, [.ref (t 1), .ref (t 2), .int t_length, .int t_at, .int t_errorAt])), (t 1, .inl (cy 0, 140, .inl t_text))]) (va_Qi (fun r u => (r = 0 ∨ r = 1) ∧ ∃ (t_at' : Int32) (t_errorAt' : Int32), u = [(t 0, .inr (5, [.ref (t 1), .ref (t 2), .int t_length, .int t_at', .int t_errorAt'])), (t 1, .inl (cy 0, 140, .inl t_text))] ∧ Q r t_at' t_errorAt') (fun u T9 => va_P D vwCl u T9.heap ∧ va_D (va_A [(t 0, .inr (5, [.ref (t 1), .ref (t 2), .int t_length, .int t_at, .int t_errorAt])), (t 1, .inl (cy 0, 140, .inl t_text))] sz) u) (va_A [(t 0, .inr (5, [.ref (t 1), .ref (t 2), .int t_length, .int t_at, .int t_errorAt])), (t 1, .inl (cy 0, 140, .inl t_text))] sz)) 0 0 (va_A [(t 0, .inr (5, [.ref (t 1), .ref (t 2), .int t_length, .int t_at, .int t_errorAt])), (t 1, .inl (cy 0, 140, .inl t_text))] sz) := by
  refine Met.ofW (cc := cX5_readSign) (maxL := 2) (ret := (some .boolean)) (by decide) rfl ?_
  intro p e s m args below meth c s₁ B hml hv
  obtain ⟨hargs, hsz, hP, hK, hD0⟩ := hv
  have hx := B.exec
  have hb := B.bytes
  have hr := B.returns
  have hts := atoms_spec (ws := wsX5_readSign) B.pre
  have hown : s.vm.findClass RX5 = some m.cls := findClass_of_methodNamed B.named
  have hlocks := B.notSynchronized
  clear B
  subst hsz
  have hD := hD0.self (sz := s.heap.size)
  generalize hAe : va_A [(t 0, .inr (5, [.ref (t 1), .ref (t 2), .int t_length, .int t_at, .int t_errorAt])), (t 1, .inl (cy 0, 140, .inl t_text))] s.heap.size = A at hD ⊢
  have hA : ∀ q : Nat, s.heap.size ≤ q → A q := fun q h => by rw [← hAe]; exact Or.inr h
  clear hAe hD0
  have hend : ∀ (r : Int32) (t_at : Int32) (t_errorAt : Int32) (H : Heap) (locs : List Loc), (r = 0 ∨ r = 1) → Q r t_at t_errorAt → va_P D vwCl [(t 0, .inr (5, [.ref (t 1), .ref (t 2), .int t_length, .int t_at, .int t_errorAt])), (t 1, .inl (cy 0, 140, .inl t_text))] H → va_D A [(t 0, .inr (5, [.ref (t 1), .ref (t 2), .int t_length, .int t_at, .int t_errorAt])), (t 1, .inl (cy 0, 140, .inl t_text))] → va_S A s.heap H locs → ∀ T9 : State, T9.heap = H → (va_Qi (fun r u => (r = 0 ∨ r = 1) ∧ ∃ (t_at' : Int32) (t_errorAt' : Int32), u = [(t 0, .inr (5, [.ref (t 1), .ref (t 2), .int t_length, .int t_at', .int t_errorAt'])), (t 1, .inl (cy 0, 140, .inl t_text))] ∧ Q r t_at' t_errorAt') (fun u T9 => va_P D vwCl u T9.heap ∧ va_D A u) A) args s (.returned (some (.int r))) T9 := fun r t_at t_errorAt H locs hz hq hP hD hS T9 ht => ⟨⟨r, _, rfl, ⟨hz, ⟨t_at, t_errorAt, rfl, hq⟩⟩, by rw [ht]; exact hP, hD⟩, hS.F ht⟩
  generalize (va_Qi (fun r u => (r = 0 ∨ r = 1) ∧ ∃ (t_at' : Int32) (t_errorAt' : Int32), u = [(t 0, .inr (5, [.ref (t 1), .ref (t 2), .int t_length, .int t_at', .int t_errorAt'])), (t 1, .inl (cy 0, 140, .inl t_text))] ∧ Q r t_at' t_errorAt') (fun u T9 => va_P D vwCl u T9.heap ∧ va_D A u) A) = Qc at hend ⊢
  have hS : va_S A s.heap s.heap [] := va_S.rf
  show W p l e r_X5_readSign s m args below meth c s.heap [] 0 0 (MQ below Qc args s 0 0 A) (entryFrame m args 2)
  rw [show entryFrame m args 2 = entryFrame m ([.ref (t 0), .int a1] : List Value).toArray 2 from by rw [hargs]]
  have hl := lv_entry ([.ref (t 0), .int a1]) (n := 2) (Nat.le_of_ble_eq_true rfl)
  rw [lg_entry_eq]
  generalize (lg_sl ([.ref (t 0), .int a1]) ++ List.replicate (2 - (lg_sl ([.ref (t 0), .int a1])).length) Slot.unset).toArray = ls at hl ⊢
  have hl : lv_has ls 2 [(0, .ref (t 0)), (1, .int a1)] := hl
  have h := hq
  clear hargs hq
  unfold p_X5_readSign at h
  suffices key : ∀ (H : Heap) (locs : List Loc), va_P D vwCl [(t 0, .inr (5, [.ref (t 1), .ref (t 2), .int t_length, .int t_at, .int t_errorAt])), (t 1, .inl (cy 0, 140, .inl t_text))] H → va_D A [(t 0, .inr (5, [.ref (t 1), .ref (t 2), .int t_length, .int t_at, .int t_errorAt])), (t 1, .inl (cy 0, 140, .inl t_text))] → va_S A s.heap H locs → W p l e r_X5_readSign s m args below meth c H locs 0 0 (MQ below Qc args s 0 0 A) (F0 m 0 ls []) from key s.heap [] hP hD hS
  clear hP hD hS
  intro H locs hP hD hS
  refine lv_aload_n hx hb dX5_readSign_0 rfl (lv_at hl 0 rfl) ?_
  refine w_callM hP hD hS hA [0, 1] [] (wc := [(t 0, .inr (5, [.ref (t 1), .ref (t 2), .int t_length, .int t_at, .int t_errorAt])), (t 1, .inl (cy 0, 140, .inl t_text))]) (wr := []) rfl rfl (by decide) (by decide) (va_runV (As := []) (rest := []) ⟨hx, hb, hml, hown, hts⟩ (c_X5_nextSign l D cy H.size t t_text t_length t_at t_errorAt _ h) (cwV 0 hts gX5_readSign_X5_nextSign rfl rfl rfl (by decide +kernel) ⟨Nat.le_of_ble_eq_true rfl, Nat.le_of_ble_eq_true rfl⟩) (w_preVO hK hP hD [0, 1] rfl rfl (by decide) (ci := 5) rfl rfl) rfl rfl hl.1 rfl (lv_room (Nat.le_of_ble_eq_true rfl)) dX5_readSign_1 ⟨Nat.zero_le _, Nat.zero_le _⟩) (fun r2 u H locs hw hP hD hS => ?_)
  obtain ⟨at_1, rfl, h⟩ := hw
  try dsimp only at h
  have hP := hP.sub (ws' := [(t 0, .inr (5, [.ref (t 1), .ref (t 2), .int t_length, .int at_1, .int t_errorAt])), (t 1, .inl (cy 0, 140, .inl t_text))]) [0, 1] rfl
  have hD := hD.sub (ws' := [(t 0, .inr (5, [.ref (t 1), .ref (t 2), .int t_length, .int at_1, .int t_errorAt])), (t 1, .inl (cy 0, 140, .inl t_text))]) [0, 1] (by decide) rfl
  refine lv_iload_n hx hb dX5_readSign_4 rfl (lv_at hl 1 rfl) ?_
  refine lv_icmp_eq (tgt := 17) hx hb dX5_readSign_5 rfl (fun hc => ?_) (fun hc => ?_)
  · replace h := h.1 hc
    refine lv_aload_n hx hb dX5_readSign_17 rfl (lv_at hl 0 rfl) ?_
    refine lv_dup hx hb dX5_readSign_18 rfl ?_
    refine va_get (D := D) (ci := 5) (v := .int at_1) (C := RX5) (T := TX5) (N := 5) hx hb hts i_X5_readSign_X5 hown hK hP 0 rfl rfl 3 (by decide) (hts (.fieldLink RX5 22 "FoldedMenu$Reader" "at" "I") (by decide +kernel)) (fun _ h9 => h9) rfl dX5_readSign_19 ?_
    refine lv_iconst (v := 1) hx hb dX5_readSign_22 (by decide) ?_
    refine lv_iadd hx hb dX5_readSign_23 ?_
    refine va_put (D := D) (ci := 5) (v := .int (at_1 + 1)) (ty := .int) (C := RX5) (T := TX5) (N := 5) hx hb hts i_X5_readSign_X5 tyX5 tyX5_ok nmX5 hown hK hP hD hS 0 rfl rfl 3 (by decide) (hts (.fieldLink RX5 22 "FoldedMenu$Reader" "at" "I") (by decide +kernel)) (fun _ h9 => h9) rfl (by decide +kernel) rfl rfl (Nat.le_of_ble_eq_true rfl) dX5_readSign_24 (fun H locs hP hD hS => ?_)
    have hP : va_P D vwCl [(t 0, .inr (5, [.ref (t 1), .ref (t 2), .int t_length, .int ((at_1 + 1)), .int t_errorAt])), (t 1, .inl (cy 0, 140, .inl t_text))] H := hP
    have hD : va_D A [(t 0, .inr (5, [.ref (t 1), .ref (t 2), .int t_length, .int ((at_1 + 1)), .int t_errorAt])), (t 1, .inl (cy 0, 140, .inl t_text))] := hD
    refine lv_iconst (v := 1) hx hb dX5_readSign_27 (by decide) ?_
    exact W.zret hx hb hr rfl (fun t ht _ => hend 1 ((at_1 + 1)) t_errorAt H locs (by decide) h hP hD hS t ht) hS.2.2 dX5_readSign_28
  · replace h := h.2 hc
    refine lv_aload_n hx hb dX5_readSign_8 rfl (lv_at hl 0 rfl) ?_
    refine lv_aload_n hx hb dX5_readSign_9 rfl (lv_at hl 0 rfl) ?_
    refine va_get (D := D) (ci := 5) (v := .int at_1) (C := RX5) (T := TX5) (N := 5) hx hb hts i_X5_readSign_X5 hown hK hP 0 rfl rfl 3 (by decide) (hts (.fieldLink RX5 22 "FoldedMenu$Reader" "at" "I") (by decide +kernel)) (fun _ h9 => h9) rfl dX5_readSign_10 ?_
    refine w_callM hP hD hS hA [0] [1] (wc := [(t 0, .inr (5, [.ref (t 1), .ref (t 2), .int t_length, .int at_1, .int t_errorAt]))]) (wr := [(t 1, .inl (cy 0, 140, .inl t_text))]) rfl rfl (by decide) (by decide) (va_runV (As := [.int at_1]) (rest := []) ⟨hx, hb, hml, hown, hts⟩ (c_X5_failAt l D cy H.size t t_length at_1 t_errorAt at_1 _ h) (cwV 1 hts gX5_readSign_X5_failAt rfl rfl rfl (by decide +kernel) ⟨Nat.le_of_ble_eq_true rfl, Nat.le_of_ble_eq_true rfl⟩) (w_preVO hK hP hD [0] rfl rfl (by decide) (ci := 5) rfl rfl) rfl rfl hl.1 rfl (lv_room (Nat.le_of_ble_eq_true rfl)) dX5_readSign_13 ⟨Nat.zero_le _, Nat.zero_le _⟩) (fun r4 u H locs hw hP hD hS => ?_)
    obtain ⟨z_r4, errorAt_3, rfl, h⟩ := hw
    try dsimp only at h
    have hP := hP.sub (ws' := [(t 0, .inr (5, [.ref (t 1), .ref (t 2), .int t_length, .int at_1, .int errorAt_3])), (t 1, .inl (cy 0, 140, .inl t_text))]) [1, 0] rfl
    have hD := hD.sub (ws' := [(t 0, .inr (5, [.ref (t 1), .ref (t 2), .int t_length, .int at_1, .int errorAt_3])), (t 1, .inl (cy 0, 140, .inl t_text))]) [1, 0] (by decide) rfl
    exact W.zret hx hb hr (w_bool z_r4) (fun t ht _ => hend r4 at_1 errorAt_3 H locs z_r4 h hP hD hS t ht) hS.2.2 dX5_readSign_16

theorem i_X5_readSet_X5 : ∀ w ∈ u_ws RX5 TX5 5, w ∈ wsX5_readSet := by decide +kernel
abbrev r_X5_readSet : Room := { frames := 4, cells := 0, slots := 0, locals := 91 }
set_option maxHeartbeats 4000000 in
set_option maxRecDepth 100000 in
theorem c_X5_readSet (l : Launch) (D : va_G) (cy : Nat → ClassId) (sz : Nat) (sk sv : Nat → Nat) (si : Nat) (hsi : si < 2) (t : Nat → Nat) (t_text : Nat → Int32) (t_length : Int32) (t_at : Int32) (t_errorAt : Int32) (Q : Int32 → Int32 → Int32 → Prop) (hq : p_X5_readSet si t_text t_length t_at t_errorAt Q) : Met l yX5_readSet wsX5_readSet r_X5_readSet (wPT [.ref (t 0), .ref (sk si)] sz sk sv D cy [(t 0, .inr (5, [.ref (t 1), .ref (t 2), .int t_length, .int t_at, .int t_errorAt])), (t 1, .inl (cy 0, 140, .inl t_text))]) (va_Qi (fun r u => ∃ (t_at' : Int32) (t_errorAt' : Int32), u = [(t 0, .inr (5, [.ref (t 1), .ref (t 2), .int t_length, .int t_at', .int t_errorAt'])), (t 1, .inl (cy 0, 140, .inl t_text))] ∧ Q r t_at' t_errorAt') (fun u T9 => va_P D vwCl u T9.heap ∧ va_D (va_A [(t 0, .inr (5, [.ref (t 1), .ref (t 2), .int t_length, .int t_at, .int t_errorAt])), (t 1, .inl (cy 0, 140, .inl t_text))] sz) u) (va_A [(t 0, .inr (5, [.ref (t 1), .ref (t 2), .int t_length, .int t_at, .int t_errorAt])), (t 1, .inl (cy 0, 140, .inl t_text))] sz)) 0 0 (va_A [(t 0, .inr (5, [.ref (t 1), .ref (t 2), .int t_length, .int t_at, .int t_errorAt])), (t 1, .inl (cy 0, 140, .inl t_text))] sz) := by
  refine Met.ofW (cc := cX5_readSet) (maxL := 4) (ret := (some .int)) (by decide) rfl ?_
  intro p e s m args below meth c s₁ B hml hv
  obtain ⟨⟨hargs, hsz, hE, hP, hK, hD0⟩, hT⟩ := hv
  have hx := B.exec
  have hb := B.bytes
  have hr := B.returns
  have hts := atoms_spec (ws := wsX5_readSet) B.pre
  have hown : s.vm.findClass RX5 = some m.cls := findClass_of_methodNamed B.named
  have hlocks := B.notSynchronized
  clear B
  subst hsz
  have hD := hD0.self (sz := s.heap.size)
  generalize hAe : va_A [(t 0, .inr (5, [.ref (t 1), .ref (t 2), .int t_length, .int t_at, .int t_errorAt])), (t 1, .inl (cy 0, 140, .inl t_text))] s.heap.size = A at hD ⊢ hE hT
  have hA : ∀ q : Nat, s.heap.size ≤ q → A q := fun q h => by rw [← hAe]; exact Or.inr h
  clear hAe hD0
  have hend : ∀ (r : Int32) (t_at : Int32) (t_errorAt : Int32) (H : Heap) (locs : List Loc), Q r t_at t_errorAt → va_P D vwCl [(t 0, .inr (5, [.ref (t 1), .ref (t 2), .int t_length, .int t_at, .int t_errorAt])), (t 1, .inl (cy 0, 140, .inl t_text))] H → va_D A [(t 0, .inr (5, [.ref (t 1), .ref (t 2), .int t_length, .int t_at, .int t_errorAt])), (t 1, .inl (cy 0, 140, .inl t_text))] → va_S A s.heap H locs → ∀ T9 : State, T9.heap = H → (va_Qi (fun r u => ∃ (t_at' : Int32) (t_errorAt' : Int32), u = [(t 0, .inr (5, [.ref (t 1), .ref (t 2), .int t_length, .int t_at', .int t_errorAt'])), (t 1, .inl (cy 0, 140, .inl t_text))] ∧ Q r t_at' t_errorAt') (fun u T9 => va_P D vwCl u T9.heap ∧ va_D A u) A) args s (.returned (some (.int r))) T9 := fun r t_at t_errorAt H locs hq hP hD hS T9 ht => ⟨⟨r, _, rfl, ⟨t_at, t_errorAt, rfl, hq⟩, by rw [ht]; exact hP, hD⟩, hS.F ht⟩
  generalize (va_Qi (fun r u => ∃ (t_at' : Int32) (t_errorAt' : Int32), u = [(t 0, .inr (5, [.ref (t 1), .ref (t 2), .int t_length, .int t_at', .int t_errorAt'])), (t 1, .inl (cy 0, 140, .inl t_text))] ∧ Q r t_at' t_errorAt') (fun u T9 => va_P D vwCl u T9.heap ∧ va_D A u) A) = Qc at hend ⊢
  have hS : va_S A s.heap s.heap [] := va_S.rf
  show W p l e r_X5_readSet s m args below meth c s.heap [] 0 0 (MQ below Qc args s 0 0 A) (entryFrame m args 4)
  rw [show entryFrame m args 4 = entryFrame m ([.ref (t 0), .ref (sk si)] : List Value).toArray 4 from by rw [hargs]]
  have hl := lv_entry ([.ref (t 0), .ref (sk si)]) (n := 4) (Nat.le_of_ble_eq_true rfl)
  rw [lg_entry_eq]
  generalize (lg_sl ([.ref (t 0), .ref (sk si)]) ++ List.replicate (4 - (lg_sl ([.ref (t 0), .ref (sk si)])).length) Slot.unset).toArray = ls at hl ⊢
  have hl : lv_has ls 4 [(0, .ref (t 0)), (1, .ref (sk si))] := hl
  have h := hq
  clear hargs hq
  have j2 : ∀ (t_at : Int32) (t_errorAt : Int32) (x2 : Int32), p_X5_readSet_2 t_text t_length t_errorAt Q si t_at x2 → ∀ (H : Heap) (locs : List Loc), va_P D vwCl [(t 0, .inr (5, [.ref (t 1), .ref (t 2), .int t_length, .int t_at, .int t_errorAt])), (t 1, .inl (cy 0, 140, .inl t_text))] H → va_D A [(t 0, .inr (5, [.ref (t 1), .ref (t 2), .int t_length, .int t_at, .int t_errorAt])), (t 1, .inl (cy 0, 140, .inl t_text))] → va_S A s.heap H locs → ∀ (ls : Array Slot), lv_has ls 4 [(0, .ref (t 0)), (1, .ref (sk si)), (2, .int x2)] → W p l e r_X5_readSet s m args below meth c H locs 0 0 (MQ below Qc args s 0 0 A) (F0 m 2 ls []) := by
    intro t_at t_errorAt x2 h
    obtain ⟨I2, μ2, h0, hs2⟩ := h
    have key : ∀ (n : Nat) (t_at : Int32) (x2 : Int32), I2 t_at x2 → μ2 t_at x2 < n → ∀ (H : Heap) (locs : List Loc), va_P D vwCl [(t 0, .inr (5, [.ref (t 1), .ref (t 2), .int t_length, .int t_at, .int t_errorAt])), (t 1, .inl (cy 0, 140, .inl t_text))] H → va_D A [(t 0, .inr (5, [.ref (t 1), .ref (t 2), .int t_length, .int t_at, .int t_errorAt])), (t 1, .inl (cy 0, 140, .inl t_text))] → va_S A s.heap H locs → ∀ (ls : Array Slot), lv_has ls 4 [(0, .ref (t 0)), (1, .ref (sk si)), (2, .int x2)] → W p l e r_X5_readSet s m args below meth c H locs 0 0 (MQ below Qc args s 0 0 A) (F0 m 2 ls []) := by
      intro n
      induction n with
      | zero => intro t_at x2 _ h; exact absurd h (Nat.not_lt_zero _)
      | succ n ih2 =>
        intro t_at x2 hI hn H locs hP hD hS ls hl
        have h := hs2 t_at x2 hI
        have hk2 : ∀ (t_at1 : Int32) (x21 : Int32), (fun (t_at' : Int32) (x2' : Int32) => I2 t_at' x2' ∧ μ2 t_at' x2' < μ2 t_at x2) t_at1 x21 → ∀ (H : Heap) (locs : List Loc), va_P D vwCl [(t 0, .inr (5, [.ref (t 1), .ref (t 2), .int t_length, .int t_at1, .int t_errorAt])), (t 1, .inl (cy 0, 140, .inl t_text))] H → va_D A [(t 0, .inr (5, [.ref (t 1), .ref (t 2), .int t_length, .int t_at1, .int t_errorAt])), (t 1, .inl (cy 0, 140, .inl t_text))] → va_S A s.heap H locs → ∀ (ls : Array Slot), lv_has ls 4 [(0, .ref (t 0)), (1, .ref (sk si)), (2, .int x21)] → W p l e r_X5_readSet s m args below meth c H locs 0 0 (MQ below Qc args s 0 0 A) (F0 m 2 ls []) := by
          intro t_at1 x21 hz
          exact ih2 t_at1 x21 hz.1 (Nat.lt_of_lt_of_le hz.2 (Nat.le_of_lt_succ hn))
        generalize hKe : (fun (t_at' : Int32) (x2' : Int32) => I2 t_at' x2' ∧ μ2 t_at' x2' < μ2 t_at x2) = K2 at h hk2
        clear hKe ih2 hn hI
        have j81 : ∀ (t_at : Int32) (x2 : Int32), p_X5_readSet_81 t_at x2 K2 → ∀ (H : Heap) (locs : List Loc), va_P D vwCl [(t 0, .inr (5, [.ref (t 1), .ref (t 2), .int t_length, .int t_at, .int t_errorAt])), (t 1, .inl (cy 0, 140, .inl t_text))] H → va_D A [(t 0, .inr (5, [.ref (t 1), .ref (t 2), .int t_length, .int t_at, .int t_errorAt])), (t 1, .inl (cy 0, 140, .inl t_text))] → va_S A s.heap H locs → ∀ (ls : Array Slot), lv_has ls 4 [(0, .ref (t 0)), (1, .ref (sk si)), (2, .int x2)] → W p l e r_X5_readSet s m args below meth c H locs 0 0 (MQ below Qc args s 0 0 A) (F0 m 81 ls []) := by
          intro t_at x2 h H locs hP hD hS ls hl
          unfold p_X5_readSet_81 at h
          refine lv_aload_n hx hb dX5_readSet_81 rfl (lv_at hl 0 rfl) ?_
          refine lv_dup hx hb dX5_readSet_82 rfl ?_
          refine va_get (D := D) (ci := 5) (v := .int t_at) (C := RX5) (T := TX5) (N := 5) hx hb hts i_X5_readSet_X5 hown hK hP 0 rfl rfl 3 (by decide) (hts (.fieldLink RX5 22 "FoldedMenu$Reader" "at" "I") (by decide +kernel)) (fun _ h9 => h9) rfl dX5_readSet_83 ?_
          refine lv_iconst (v := 1) hx hb dX5_readSet_86 (by decide) ?_
          refine lv_iadd hx hb dX5_readSet_87 ?_
          refine va_put (D := D) (ci := 5) (v := .int (t_at + 1)) (ty := .int) (C := RX5) (T := TX5) (N := 5) hx hb hts i_X5_readSet_X5 tyX5 tyX5_ok nmX5 hown hK hP hD hS 0 rfl rfl 3 (by decide) (hts (.fieldLink RX5 22 "FoldedMenu$Reader" "at" "I") (by decide +kernel)) (fun _ h9 => h9) rfl (by decide +kernel) rfl rfl (Nat.le_of_ble_eq_true rfl) dX5_readSet_88 (fun H locs hP hD hS => ?_)
          have hP : va_P D vwCl [(t 0, .inr (5, [.ref (t 1), .ref (t 2), .int t_length, .int ((t_at + 1)), .int t_errorAt])), (t 1, .inl (cy 0, 140, .inl t_text))] H := hP
          have hD : va_D A [(t 0, .inr (5, [.ref (t 1), .ref (t 2), .int t_length, .int ((t_at + 1)), .int t_errorAt])), (t 1, .inl (cy 0, 140, .inl t_text))] := hD
          refine lv_goto (tgt := 2) hx hb dX5_readSet_91 rfl ?_
          exact hk2 ((t_at + 1)) x2 h _ _ hP hD hS _ (lv_sub hl [0, 1, 2] rfl)
        have j71 : ∀ (t_at : Int32) (x2 : Int32) (x3 : Int32), p_X5_readSet_71 t_at x2 x3 K2 → ∀ (H : Heap) (locs : List Loc), va_P D vwCl [(t 0, .inr (5, [.ref (t 1), .ref (t 2), .int t_length, .int t_at, .int t_errorAt])), (t 1, .inl (cy 0, 140, .inl t_text))] H → va_D A [(t 0, .inr (5, [.ref (t 1), .ref (t 2), .int t_length, .int t_at, .int t_errorAt])), (t 1, .inl (cy 0, 140, .inl t_text))] → va_S A s.heap H locs → ∀ (ls : Array Slot), lv_has ls 4 [(0, .ref (t 0)), (1, .ref (sk si)), (2, .int x2), (3, .int x3)] → W p l e r_X5_readSet s m args below meth c H locs 0 0 (MQ below Qc args s 0 0 A) (F0 m 71 ls []) := by
          intro t_at x2 x3 h H locs hP hD hS ls hl
          unfold p_X5_readSet_71 at h
          refine lv_iload_n hx hb dX5_readSet_71 rfl (lv_at hl 3 rfl) ?_
          refine lv_if_lt (tgt := 81) hx hb dX5_readSet_72 rfl (fun hc => ?_) (fun hc => ?_)
          · replace h := h.1 hc
            exact j81 t_at x2 h _ _ hP hD hS _ (lv_sub hl [0, 1, 2] rfl)
          · replace h := h.2 hc
            refine lv_iload_n hx hb dX5_readSet_75 rfl (lv_at hl 2 rfl) ?_
            refine lv_iconst (v := 1) hx hb dX5_readSet_76 (by decide) ?_
            refine lv_iload_n hx hb dX5_readSet_77 rfl (lv_at hl 3 rfl) ?_
            refine lv_ishl hx hb dX5_readSet_78 ?_
            refine lv_ior hx hb dX5_readSet_79 ?_
            refine lv_istore_n (lv' := [(2, .int (x2 ||| (1 <<< (x3 &&& 31)))), (0, .ref (t 0)), (1, .ref (sk si)), (3, .int x3)]) hx hb dX5_readSet_80 rfl hl (by decide) rfl (fun ls hl => ?_)
            exact j81 t_at ((x2 ||| (1 <<< (x3 &&& 31)))) h _ _ hP hD hS _ (lv_sub hl [1, 2, 0] rfl)
        have j48 : ∀ (t_at : Int32) (x2 : Int32) (x3 : Int32), p_X5_readSet_48 t_at x2 x3 K2 Q → ∀ (H : Heap) (locs : List Loc), va_P D vwCl [(t 0, .inr (5, [.ref (t 1), .ref (t 2), .int t_length, .int t_at, .int t_errorAt])), (t 1, .inl (cy 0, 140, .inl t_text))] H → va_D A [(t 0, .inr (5, [.ref (t 1), .ref (t 2), .int t_length, .int t_at, .int t_errorAt])), (t 1, .inl (cy 0, 140, .inl t_text))] → va_S A s.heap H locs → ∀ (ls : Array Slot), lv_has ls 4 [(0, .ref (t 0)), (1, .ref (sk si)), (2, .int x2), (3, .int x3)] → W p l e r_X5_readSet s m args below meth c H locs 0 0 (MQ below Qc args s 0 0 A) (F0 m 48 ls []) := by
          intro t_at x2 x3 h H locs hP hD hS ls hl
          unfold p_X5_readSet_48 at h
          refine lv_iload_n hx hb dX5_readSet_48 rfl (lv_at hl 3 rfl) ?_
          refine lv_if_lt (tgt := 71) hx hb dX5_readSet_49 rfl (fun hc => ?_) (fun hc => ?_)
          · replace h := h.1 hc
            exact j71 t_at x2 x3 h _ _ hP hD hS _ (lv_sub hl [0, 1, 2, 3] rfl)
          · replace h := h.2 hc
            refine lv_iload_n hx hb dX5_readSet_52 rfl (lv_at hl 2 rfl) ?_
            refine lv_iload_n hx hb dX5_readSet_53 rfl (lv_at hl 3 rfl) ?_
            have hPc := hP.sub (ws' := []) [] rfl
            refine w_callZ (va_runSN (As := [.int x2, .int x3]) (rest := []) ⟨hx, hb, hml, hown, hts⟩ (c_X8_has l D cy H x2 x3 _ h) ⟨(va_cnB 2 hts gX5_readSet_X8_has_n87 rfl rfl rfl (nM_X5_87 hE.1) (hts (.initialized RX8) (by decide +kernel)) (by decide +kernel) ⟨Nat.le_of_ble_eq_true rfl, Nat.le_of_ble_eq_true rfl⟩), hts (.static yX8_has) (by decide +kernel), trivial⟩ (w_preSN hK hPc) rfl rfl hl.1 rfl (lv_room (Nat.le_of_ble_eq_true rfl)) dX5_readSet_54 ⟨Nat.zero_le _, Nat.zero_le _⟩) hS (fun r1 locs z_r1 h hS => ?_)
            try dsimp only at h
            refine lv_if_eq (tgt := 71) hx hb dX5_readSet_57 rfl (fun hc => ?_) (fun hc => ?_)
            · replace h := h.1 hc
              exact j71 t_at x2 x3 h _ _ hP hD hS _ (lv_sub hl [0, 1, 2, 3] rfl)
            · replace h := h.2 hc
              refine lv_aload_n hx hb dX5_readSet_60 rfl (lv_at hl 0 rfl) ?_
              refine lv_aload_n hx hb dX5_readSet_61 rfl (lv_at hl 0 rfl) ?_
              refine va_get (D := D) (ci := 5) (v := .int t_at) (C := RX5) (T := TX5) (N := 5) hx hb hts i_X5_readSet_X5 hown hK hP 0 rfl rfl 3 (by decide) (hts (.fieldLink RX5 22 "FoldedMenu$Reader" "at" "I") (by decide +kernel)) (fun _ h9 => h9) rfl dX5_readSet_62 ?_
              refine w_callM hP hD hS hA [0] [1] (wc := [(t 0, .inr (5, [.ref (t 1), .ref (t 2), .int t_length, .int t_at, .int t_errorAt]))]) (wr := [(t 1, .inl (cy 0, 140, .inl t_text))]) rfl rfl (by decide) (by decide) (va_runV (As := [.int t_at]) (rest := []) ⟨hx, hb, hml, hown, hts⟩ (c_X5_failAt l D cy H.size t t_length t_at t_errorAt t_at _ h) (cwV 1 hts gX5_readSet_X5_failAt rfl rfl rfl (by decide +kernel) ⟨Nat.le_of_ble_eq_true rfl, Nat.le_of_ble_eq_true rfl⟩) (w_preVO hK hP hD [0] rfl rfl (by decide) (ci := 5) rfl rfl) rfl rfl hl.1 rfl (lv_room (Nat.le_of_ble_eq_true rfl)) dX5_readSet_65 ⟨Nat.zero_le _, Nat.zero_le _⟩) (fun r3 u H locs hw hP hD hS => ?_)
              obtain ⟨z_r3, errorAt_2, rfl, h⟩ := hw
              try dsimp only at h
              have hP := hP.sub (ws' := [(t 0, .inr (5, [.ref (t 1), .ref (t 2), .int t_length, .int t_at, .int errorAt_2])), (t 1, .inl (cy 0, 140, .inl t_text))]) [1, 0] rfl
              have hD := hD.sub (ws' := [(t 0, .inr (5, [.ref (t 1), .ref (t 2), .int t_length, .int t_at, .int errorAt_2])), (t 1, .inl (cy 0, 140, .inl t_text))]) [1, 0] (by decide) rfl
              refine lv_pop hx hb dX5_readSet_68 rfl ?_
              refine lv_iconst (v := (-1)) hx hb dX5_readSet_69 (by decide) ?_
              exact W.iret hx hb hr (fun t ht _ => hend ((-1)) t_at errorAt_2 H locs h hP hD hS t ht) hS.2.2 dX5_readSet_70
        unfold q_X5_readSet_2 at h
        refine lv_aload_n hx hb dX5_readSet_2 rfl (lv_at hl 0 rfl) ?_
        refine va_get (D := D) (ci := 5) (v := .int t_at) (C := RX5) (T := TX5) (N := 5) hx hb hts i_X5_readSet_X5 hown hK hP 0 rfl rfl 3 (by decide) (hts (.fieldLink RX5 22 "FoldedMenu$Reader" "at" "I") (by decide +kernel)) (fun _ h9 => h9) rfl dX5_readSet_3 ?_
        refine lv_aload_n hx hb dX5_readSet_6 rfl (lv_at hl 0 rfl) ?_
        refine va_get (D := D) (ci := 5) (v := .int t_length) (C := RX5) (T := TX5) (N := 5) hx hb hts i_X5_readSet_X5 hown hK hP 0 rfl rfl 2 (by decide) (hts (.fieldLink RX5 18 "FoldedMenu$Reader" "length" "I") (by decide +kernel)) (fun _ h9 => h9) rfl dX5_readSet_7 ?_
        refine lv_icmp_ge (tgt := 94) hx hb dX5_readSet_10 rfl (fun hc => ?_) (fun hc => ?_)
        · replace h := h.1 hc
          refine lv_iload_n hx hb dX5_readSet_94 rfl (lv_at hl 2 rfl) ?_
          exact W.iret hx hb hr (fun t ht _ => hend x2 t_at t_errorAt H locs h hP hD hS t ht) hS.2.2 dX5_readSet_95
        · replace h := h.2 hc
          refine lv_aload_n hx hb dX5_readSet_13 rfl (lv_at hl 1 rfl) ?_
          refine lv_aload_n hx hb dX5_readSet_14 rfl (lv_at hl 0 rfl) ?_
          refine va_get (D := D) (ci := 5) (v := .ref (t 1)) (C := RX5) (T := TX5) (N := 5) hx hb hts i_X5_readSet_X5 hown hK hP 0 rfl rfl 0 (by decide) (hts (.fieldLink RX5 9 "FoldedMenu$Reader" "text" "[I") (by decide +kernel)) (fun _ h9 => h9) rfl dX5_readSet_15 ?_
          refine lv_aload_n hx hb dX5_readSet_18 rfl (lv_at hl 0 rfl) ?_
          refine va_get (D := D) (ci := 5) (v := .int t_at) (C := RX5) (T := TX5) (N := 5) hx hb hts i_X5_readSet_X5 hown hK hP 0 rfl rfl 3 (by decide) (hts (.fieldLink RX5 22 "FoldedMenu$Reader" "at" "I") (by decide +kernel)) (fun _ h9 => h9) rfl dX5_readSet_19 ?_
          obtain ⟨hi, h⟩ := h
          refine va_iald hx hb hK hP 1 0 rfl rfl hi dX5_readSet_22 ?_
          refine lv_i2c hx hb dX5_readSet_23 rfl ?_
          refine w_callR (va_runV (As := [.int (((t_text t_at.toNatClampNeg)).toUInt32 % 65536).toInt32]) (rest := []) ⟨hx, hb, hml, hown, hts⟩ (c_J0_indexOf_0f7a4 l H  sk sv si hsi ((((t_text t_at.toNatClampNeg)).toUInt32 % 65536).toInt32) _ h) (cwV 1 hts gX5_readSet_J0_indexOf_0f7a4 rfl rfl rfl (by decide +kernel) ⟨Nat.le_of_ble_eq_true rfl, Nat.le_of_ble_eq_true rfl⟩) (w_preVS hT hS hsi) rfl rfl hl.1 rfl (lv_room (Nat.le_of_ble_eq_true rfl)) dX5_readSet_24 ⟨Nat.zero_le _, Nat.zero_le _⟩) hS (fun r4 locs h hS => ?_)
          try dsimp only at h
          refine lv_istore_n (lv' := [(3, .int r4), (0, .ref (t 0)), (1, .ref (sk si)), (2, .int x2)]) hx hb dX5_readSet_27 rfl hl (by decide) rfl (fun ls hl => ?_)
          refine lv_iload_n hx hb dX5_readSet_28 rfl (lv_at hl 0 rfl) ?_
          refine lv_if_ge (tgt := 48) hx hb dX5_readSet_29 rfl (fun hc => ?_) (fun hc => ?_)
          · replace h := h.1 hc
            exact j48 t_at x2 r4 h _ _ hP hD hS _ (lv_sub hl [1, 2, 3, 0] rfl)
          · replace h := h.2 hc
            refine lv_aload_n hx hb dX5_readSet_32 rfl (lv_at hl 1 rfl) ?_
            refine va_get (D := D) (ci := 5) (v := .ref (t 1)) (C := RX5) (T := TX5) (N := 5) hx hb hts i_X5_readSet_X5 hown hK hP 0 rfl rfl 0 (by decide) (hts (.fieldLink RX5 9 "FoldedMenu$Reader" "text" "[I") (by decide +kernel)) (fun _ h9 => h9) rfl dX5_readSet_33 ?_
            refine lv_aload_n hx hb dX5_readSet_36 rfl (lv_at hl 1 rfl) ?_
            refine va_get (D := D) (ci := 5) (v := .int t_at) (C := RX5) (T := TX5) (N := 5) hx hb hts i_X5_readSet_X5 hown hK hP 0 rfl rfl 3 (by decide) (hts (.fieldLink RX5 22 "FoldedMenu$Reader" "at" "I") (by decide +kernel)) (fun _ h9 => h9) rfl dX5_readSet_37 ?_
            obtain ⟨hi, h⟩ := h
            refine va_iald hx hb hK hP 1 0 rfl rfl hi dX5_readSet_40 ?_
            refine lv_bipush (v := 32) hx hb dX5_readSet_41 (by decide) ?_
            refine lv_icmp_eq (tgt := 48) hx hb dX5_readSet_43 rfl (fun hc => ?_) (fun hc => ?_)
            · replace h := h.1 hc
              exact j48 t_at x2 r4 h _ _ hP hD hS _ (lv_sub hl [1, 2, 3, 0] rfl)
            · replace h := h.2 hc
              refine lv_iload_n hx hb dX5_readSet_46 rfl (lv_at hl 3 rfl) ?_
              exact W.iret hx hb hr (fun t ht _ => hend x2 t_at t_errorAt H locs h hP hD hS t ht) hS.2.2 dX5_readSet_47
    exact key _ t_at x2 h0 (Nat.lt_succ_self _)
  unfold p_X5_readSet at h
  suffices key : ∀ (H : Heap) (locs : List Loc), va_P D vwCl [(t 0, .inr (5, [.ref (t 1), .ref (t 2), .int t_length, .int t_at, .int t_errorAt])), (t 1, .inl (cy 0, 140, .inl t_text))] H → va_D A [(t 0, .inr (5, [.ref (t 1), .ref (t 2), .int t_length, .int t_at, .int t_errorAt])), (t 1, .inl (cy 0, 140, .inl t_text))] → va_S A s.heap H locs → W p l e r_X5_readSet s m args below meth c H locs 0 0 (MQ below Qc args s 0 0 A) (F0 m 0 ls []) from key s.heap [] hP hD hS
  clear hP hD hS
  intro H locs hP hD hS
  refine lv_iconst (v := 0) hx hb dX5_readSet_0 (by decide) ?_
  refine lv_istore_n (lv' := [(2, .int 0), (0, .ref (t 0)), (1, .ref (sk si))]) hx hb dX5_readSet_1 rfl hl (by decide) rfl (fun ls hl => ?_)
  exact j2 t_at t_errorAt 0 h _ _ hP hD hS _ (lv_sub hl [1, 2, 0] rfl)

theorem i_X5_readSeasons_X5 : ∀ w ∈ u_ws RX5 TX5 5, w ∈ wsX5_readSeasons := by decide +kernel
abbrev r_X5_readSeasons : Room := { frames := 5, cells := 0, slots := 0, locals := 114 }
set_option maxHeartbeats 4000000 in
set_option maxRecDepth 100000 in
theorem c_X5_readSeasons (l : Launch) (D : va_G) (cy : Nat → ClassId) (sz : Nat) (t : Nat → Nat) (t_text : Nat → Int32) (t_item : Nat → Int32) (t_length : Int32) (t_at : Int32) (t_errorAt : Int32) (Q : Int32 → (Nat → Int32) → Int32 → Int32 → Prop) (hq : p_X5_readSeasons t_text t_item t_length t_at t_errorAt Q) : Met l yX5_readSeasons wsX5_readSeasons r_X5_readSeasons (wPM [.ref (t 0)] sz D cy [(t 0, .inr (5, [.ref (t 1), .ref (t 2), .int t_length, .int t_at, .int t_errorAt])), (t 1, .inl (cy 0, 140, .inl t_text)), (t 2, .inl (cy 0, 7, .inl t_item))]) (va_Qi (fun r u => (r = 0 ∨ r = 1) ∧ ∃ (t_item' : Nat → Int32) (t_at' : Int32) (t_errorAt' : Int32), u = [(t 0, .inr (5, [.ref (t 1), .ref (t 2), .int t_length, .int t_at', .int t_errorAt'])), (t 1, .inl (cy 0, 140, .inl t_text)), (t 2, .inl (cy 0, 7, .inl t_item'))] ∧ Q r t_item' t_at' t_errorAt') (fun u T9 => va_P D vwCl u T9.heap ∧ va_D (va_A [(t 0, .inr (5, [.ref (t 1), .ref (t 2), .int t_length, .int t_at, .int t_errorAt])), (t 1, .inl (cy 0, 140, .inl t_text)), (t 2, .inl (cy 0, 7, .inl t_item))] sz) u) (va_A [(t 0, .inr (5, [.ref (t 1), .ref (t 2), .int t_length, .int t_at, .int t_errorAt])), (t 1, .inl (cy 0, 140, .inl t_text)), (t 2, .inl (cy 0, 7, .inl t_item))] sz)) 0 0 (va_A [(t 0, .inr (5, [.ref (t 1), .ref (t 2), .int t_length, .int t_at, .int t_errorAt])), (t 1, .inl (cy 0, 140, .inl t_text)), (t 2, .inl (cy 0, 7, .inl t_item))] sz) := by
  refine Met.ofW (cc := cX5_readSeasons) (maxL := 2) (ret := (some .boolean)) (by decide) rfl ?_
  intro p e s m args below meth c s₁ B hml hv
  obtain ⟨hargs, hsz, hE, hP, hK, hD0⟩ := hv
  have hx := B.exec
  have hb := B.bytes
  have hr := B.returns
  have hts := atoms_spec (ws := wsX5_readSeasons) B.pre
  have hown : s.vm.findClass RX5 = some m.cls := findClass_of_methodNamed B.named
  have hlocks := B.notSynchronized
  clear B
  subst hsz
  have hD := hD0.self (sz := s.heap.size)
  generalize hAe : va_A [(t 0, .inr (5, [.ref (t 1), .ref (t 2), .int t_length, .int t_at, .int t_errorAt])), (t 1, .inl (cy 0, 140, .inl t_text)), (t 2, .inl (cy 0, 7, .inl t_item))] s.heap.size = A at hD ⊢ hE
  have hA : ∀ q : Nat, s.heap.size ≤ q → A q := fun q h => by rw [← hAe]; exact Or.inr h
  clear hAe hD0
  have hend : ∀ (r : Int32) (t_item : Nat → Int32) (t_at : Int32) (t_errorAt : Int32) (H : Heap) (locs : List Loc), (r = 0 ∨ r = 1) → Q r t_item t_at t_errorAt → va_P D vwCl [(t 0, .inr (5, [.ref (t 1), .ref (t 2), .int t_length, .int t_at, .int t_errorAt])), (t 1, .inl (cy 0, 140, .inl t_text)), (t 2, .inl (cy 0, 7, .inl t_item))] H → va_D A [(t 0, .inr (5, [.ref (t 1), .ref (t 2), .int t_length, .int t_at, .int t_errorAt])), (t 1, .inl (cy 0, 140, .inl t_text)), (t 2, .inl (cy 0, 7, .inl t_item))] → va_S A s.heap H locs → ∀ T9 : State, T9.heap = H → (va_Qi (fun r u => (r = 0 ∨ r = 1) ∧ ∃ (t_item' : Nat → Int32) (t_at' : Int32) (t_errorAt' : Int32), u = [(t 0, .inr (5, [.ref (t 1), .ref (t 2), .int t_length, .int t_at', .int t_errorAt'])), (t 1, .inl (cy 0, 140, .inl t_text)), (t 2, .inl (cy 0, 7, .inl t_item'))] ∧ Q r t_item' t_at' t_errorAt') (fun u T9 => va_P D vwCl u T9.heap ∧ va_D A u) A) args s (.returned (some (.int r))) T9 := fun r t_item t_at t_errorAt H locs hz hq hP hD hS T9 ht => ⟨⟨r, _, rfl, ⟨hz, ⟨t_item, t_at, t_errorAt, rfl, hq⟩⟩, by rw [ht]; exact hP, hD⟩, hS.F ht⟩
  generalize (va_Qi (fun r u => (r = 0 ∨ r = 1) ∧ ∃ (t_item' : Nat → Int32) (t_at' : Int32) (t_errorAt' : Int32), u = [(t 0, .inr (5, [.ref (t 1), .ref (t 2), .int t_length, .int t_at', .int t_errorAt'])), (t 1, .inl (cy 0, 140, .inl t_text)), (t 2, .inl (cy 0, 7, .inl t_item'))] ∧ Q r t_item' t_at' t_errorAt') (fun u T9 => va_P D vwCl u T9.heap ∧ va_D A u) A) = Qc at hend ⊢
  have hS : va_S A s.heap s.heap [] := va_S.rf
  show W p l e r_X5_readSeasons s m args below meth c s.heap [] 0 0 (MQ below Qc args s 0 0 A) (entryFrame m args 2)
  rw [show entryFrame m args 2 = entryFrame m ([.ref (t 0)] : List Value).toArray 2 from by rw [hargs]]
  have hl := lv_entry ([.ref (t 0)]) (n := 2) (Nat.le_of_ble_eq_true rfl)
  rw [lg_entry_eq]
  generalize (lg_sl ([.ref (t 0)]) ++ List.replicate (2 - (lg_sl ([.ref (t 0)])).length) Slot.unset).toArray = ls at hl ⊢
  have hl : lv_has ls 2 [(0, .ref (t 0))] := hl
  have h := hq
  clear hargs hq
  have j22 : ∀ (t_item : Nat → Int32) (t_at : Int32) (t_errorAt : Int32) (x1 : Int32) (k1 : Int32) (k2 : Int32), p_X5_readSeasons_22 t_item t_at t_errorAt x1 k1 k2 Q → ∀ (H : Heap) (locs : List Loc), va_P D vwCl [(t 0, .inr (5, [.ref (t 1), .ref (t 2), .int t_length, .int t_at, .int t_errorAt])), (t 1, .inl (cy 0, 140, .inl t_text)), (t 2, .inl (cy 0, 7, .inl t_item))] H → va_D A [(t 0, .inr (5, [.ref (t 1), .ref (t 2), .int t_length, .int t_at, .int t_errorAt])), (t 1, .inl (cy 0, 140, .inl t_text)), (t 2, .inl (cy 0, 7, .inl t_item))] → va_S A s.heap H locs → ∀ (ls : Array Slot), lv_has ls 2 [(1, .int x1)] → W p l e r_X5_readSeasons s m args below meth c H locs 0 0 (MQ below Qc args s 0 0 A) (F0 m 22 ls [.int k2, .int k1, .ref (t 2)]) := by
    intro t_item t_at t_errorAt x1 k1 k2 h H locs hP hD hS ls hl
    unfold p_X5_readSeasons_22 at h
    obtain ⟨hi, h⟩ := h
    refine va_iast hx hb hK hP hD hS 2 0 rfl rfl hi dX5_readSeasons_22 (fun H locs hP hD hS => ?_)
    have hP : va_P D vwCl [(t 0, .inr (5, [.ref (t 1), .ref (t 2), .int t_length, .int t_at, .int t_errorAt])), (t 1, .inl (cy 0, 140, .inl t_text)), (t 2, .inl (cy 0, 7, .inl ((upd t_item k1.toNatClampNeg k2))))] H := hP
    have hD : va_D A [(t 0, .inr (5, [.ref (t 1), .ref (t 2), .int t_length, .int t_at, .int t_errorAt])), (t 1, .inl (cy 0, 140, .inl t_text)), (t 2, .inl (cy 0, 7, .inl ((upd t_item k1.toNatClampNeg k2))))] := hD
    refine lv_iload_n hx hb dX5_readSeasons_23 rfl (lv_at hl 0 rfl) ?_
    refine lv_if_lt (tgt := 31) hx hb dX5_readSeasons_24 rfl (fun hc => ?_) (fun hc => ?_)
    · replace h := h.1 hc
      refine lv_iconst (v := 0) hx hb dX5_readSeasons_31 (by decide) ?_
      exact W.zret hx hb hr rfl (fun t ht _ => hend 0 ((upd t_item k1.toNatClampNeg k2)) t_at t_errorAt H locs (by decide) h hP hD hS t ht) hS.2.2 dX5_readSeasons_32
    · replace h := h.2 hc
      refine lv_iconst (v := 1) hx hb dX5_readSeasons_27 (by decide) ?_
      refine lv_goto (tgt := 32) hx hb dX5_readSeasons_28 rfl ?_
      exact W.zret hx hb hr rfl (fun t ht _ => hend 1 ((upd t_item k1.toNatClampNeg k2)) t_at t_errorAt H locs (by decide) h hP hD hS t ht) hS.2.2 dX5_readSeasons_32
  unfold p_X5_readSeasons at h
  suffices key : ∀ (H : Heap) (locs : List Loc), va_P D vwCl [(t 0, .inr (5, [.ref (t 1), .ref (t 2), .int t_length, .int t_at, .int t_errorAt])), (t 1, .inl (cy 0, 140, .inl t_text)), (t 2, .inl (cy 0, 7, .inl t_item))] H → va_D A [(t 0, .inr (5, [.ref (t 1), .ref (t 2), .int t_length, .int t_at, .int t_errorAt])), (t 1, .inl (cy 0, 140, .inl t_text)), (t 2, .inl (cy 0, 7, .inl t_item))] → va_S A s.heap H locs → W p l e r_X5_readSeasons s m args below meth c H locs 0 0 (MQ below Qc args s 0 0 A) (F0 m 0 ls []) from key s.heap [] hP hD hS
  clear hP hD hS
  intro H locs hP hD hS
  refine lv_aload_n hx hb dX5_readSeasons_0 rfl (lv_at hl 0 rfl) ?_
  obtain ⟨sk, sv, hT⟩ := hE.2.2.2.2.2
  refine va_ldcS hx hb hown hT.2.2.1 dX5_readSeasons_1 ?_
  refine w_callM hP hD hS hA [0, 1] [2] (wc := [(t 0, .inr (5, [.ref (t 1), .ref (t 2), .int t_length, .int t_at, .int t_errorAt])), (t 1, .inl (cy 0, 140, .inl t_text))]) (wr := [(t 2, .inl (cy 0, 7, .inl t_item))]) rfl rfl (by decide) (by decide) (va_runV (As := [.ref (sk 0)]) (rest := []) ⟨hx, hb, hml, hown, hts⟩ (c_X5_readSet l D cy H.size sk sv 0 (by decide) t t_text t_length t_at t_errorAt _ h) (cwV 1 hts gX5_readSeasons_X5_readSet rfl rfl rfl (by decide +kernel) ⟨Nat.le_of_ble_eq_true rfl, Nat.le_of_ble_eq_true rfl⟩) (w_preVT hT hE hS hA hK hP hD [0, 1] rfl rfl (by decide) (ci := 5) rfl rfl) rfl rfl hl.1 rfl (lv_room (Nat.le_of_ble_eq_true rfl)) dX5_readSeasons_3 ⟨Nat.zero_le _, Nat.zero_le _⟩) (fun r3 u H locs hw hP hD hS => ?_)
  obtain ⟨at_1, errorAt_2, rfl, h⟩ := hw
  try dsimp only at h
  have hP := hP.sub (ws' := [(t 0, .inr (5, [.ref (t 1), .ref (t 2), .int t_length, .int at_1, .int errorAt_2])), (t 1, .inl (cy 0, 140, .inl t_text)), (t 2, .inl (cy 0, 7, .inl t_item))]) [1, 2, 0] rfl
  have hD := hD.sub (ws' := [(t 0, .inr (5, [.ref (t 1), .ref (t 2), .int t_length, .int at_1, .int errorAt_2])), (t 1, .inl (cy 0, 140, .inl t_text)), (t 2, .inl (cy 0, 7, .inl t_item))]) [1, 2, 0] (by decide) rfl
  refine lv_istore_n (lv' := [(1, .int r3), (0, .ref (t 0))]) hx hb dX5_readSeasons_6 rfl hl (by decide) rfl (fun ls hl => ?_)
  refine lv_aload_n hx hb dX5_readSeasons_7 rfl (lv_at hl 1 rfl) ?_
  refine va_get (D := D) (ci := 5) (v := .ref (t 2)) (C := RX5) (T := TX5) (N := 5) hx hb hts i_X5_readSeasons_X5 hown hK hP 0 rfl rfl 1 (by decide) (hts (.fieldLink RX5 15 "FoldedMenu$Reader" "item" "[I") (by decide +kernel)) (fun _ h9 => h9) rfl dX5_readSeasons_8 ?_
  refine lv_iconst (v := 3) hx hb dX5_readSeasons_11 (by decide) ?_
  refine lv_iload_n hx hb dX5_readSeasons_12 rfl (lv_at hl 0 rfl) ?_
  refine lv_if_ne (tgt := 21) hx hb dX5_readSeasons_13 rfl (fun hc => ?_) (fun hc => ?_)
  · replace h := h.1 hc
    refine lv_iload_n hx hb dX5_readSeasons_21 rfl (lv_at hl 0 rfl) ?_
    exact j22 t_item at_1 errorAt_2 r3 3 r3 h _ _ hP hD hS _ (lv_sub hl [0] rfl)
  · replace h := h.2 hc
    refine lv_bipush (v := 15) hx hb dX5_readSeasons_16 (by decide) ?_
    refine lv_goto (tgt := 22) hx hb dX5_readSeasons_18 rfl ?_
    exact j22 t_item at_1 errorAt_2 r3 3 15 h _ _ hP hD hS _ (lv_sub hl [0] rfl)

theorem i_X5_readAllergens_X5 : ∀ w ∈ u_ws RX5 TX5 5, w ∈ wsX5_readAllergens := by decide +kernel
abbrev r_X5_readAllergens : Room := { frames := 5, cells := 0, slots := 0, locals := 114 }
set_option maxHeartbeats 4000000 in
set_option maxRecDepth 100000 in
theorem c_X5_readAllergens (l : Launch) (D : va_G) (cy : Nat → ClassId) (sz : Nat) (t : Nat → Nat) (t_text : Nat → Int32) (t_item : Nat → Int32) (t_length : Int32) (t_at : Int32) (t_errorAt : Int32) (Q : Int32 → (Nat → Int32) → Int32 → Int32 → Prop) (hq : p_X5_readAllergens t_text t_item t_length t_at t_errorAt Q) : Met l yX5_readAllergens wsX5_readAllergens r_X5_readAllergens (wPM [.ref (t 0)] sz D cy [(t 0, .inr (5, [.ref (t 1), .ref (t 2), .int t_length, .int t_at, .int t_errorAt])), (t 1, .inl (cy 0, 140, .inl t_text)), (t 2, .inl (cy 0, 7, .inl t_item))]) (va_Qi (fun r u => (r = 0 ∨ r = 1) ∧ ∃ (t_item' : Nat → Int32) (t_at' : Int32) (t_errorAt' : Int32), u = [(t 0, .inr (5, [.ref (t 1), .ref (t 2), .int t_length, .int t_at', .int t_errorAt'])), (t 1, .inl (cy 0, 140, .inl t_text)), (t 2, .inl (cy 0, 7, .inl t_item'))] ∧ Q r t_item' t_at' t_errorAt') (fun u T9 => va_P D vwCl u T9.heap ∧ va_D (va_A [(t 0, .inr (5, [.ref (t 1), .ref (t 2), .int t_length, .int t_at, .int t_errorAt])), (t 1, .inl (cy 0, 140, .inl t_text)), (t 2, .inl (cy 0, 7, .inl t_item))] sz) u) (va_A [(t 0, .inr (5, [.ref (t 1), .ref (t 2), .int t_length, .int t_at, .int t_errorAt])), (t 1, .inl (cy 0, 140, .inl t_text)), (t 2, .inl (cy 0, 7, .inl t_item))] sz)) 0 0 (va_A [(t 0, .inr (5, [.ref (t 1), .ref (t 2), .int t_length, .int t_at, .int t_errorAt])), (t 1, .inl (cy 0, 140, .inl t_text)), (t 2, .inl (cy 0, 7, .inl t_item))] sz) := by
  refine Met.ofW (cc := cX5_readAllergens) (maxL := 2) (ret := (some .boolean)) (by decide) rfl ?_
  intro p e s m args below meth c s₁ B hml hv
  obtain ⟨hargs, hsz, hE, hP, hK, hD0⟩ := hv
  have hx := B.exec
  have hb := B.bytes
  have hr := B.returns
  have hts := atoms_spec (ws := wsX5_readAllergens) B.pre
  have hown : s.vm.findClass RX5 = some m.cls := findClass_of_methodNamed B.named
  have hlocks := B.notSynchronized
  clear B
  subst hsz
  have hD := hD0.self (sz := s.heap.size)
  generalize hAe : va_A [(t 0, .inr (5, [.ref (t 1), .ref (t 2), .int t_length, .int t_at, .int t_errorAt])), (t 1, .inl (cy 0, 140, .inl t_text)), (t 2, .inl (cy 0, 7, .inl t_item))] s.heap.size = A at hD ⊢ hE
  have hA : ∀ q : Nat, s.heap.size ≤ q → A q := fun q h => by rw [← hAe]; exact Or.inr h
  clear hAe hD0
  have hend : ∀ (r : Int32) (t_item : Nat → Int32) (t_at : Int32) (t_errorAt : Int32) (H : Heap) (locs : List Loc), (r = 0 ∨ r = 1) → Q r t_item t_at t_errorAt → va_P D vwCl [(t 0, .inr (5, [.ref (t 1), .ref (t 2), .int t_length, .int t_at, .int t_errorAt])), (t 1, .inl (cy 0, 140, .inl t_text)), (t 2, .inl (cy 0, 7, .inl t_item))] H → va_D A [(t 0, .inr (5, [.ref (t 1), .ref (t 2), .int t_length, .int t_at, .int t_errorAt])), (t 1, .inl (cy 0, 140, .inl t_text)), (t 2, .inl (cy 0, 7, .inl t_item))] → va_S A s.heap H locs → ∀ T9 : State, T9.heap = H → (va_Qi (fun r u => (r = 0 ∨ r = 1) ∧ ∃ (t_item' : Nat → Int32) (t_at' : Int32) (t_errorAt' : Int32), u = [(t 0, .inr (5, [.ref (t 1), .ref (t 2), .int t_length, .int t_at', .int t_errorAt'])), (t 1, .inl (cy 0, 140, .inl t_text)), (t 2, .inl (cy 0, 7, .inl t_item'))] ∧ Q r t_item' t_at' t_errorAt') (fun u T9 => va_P D vwCl u T9.heap ∧ va_D A u) A) args s (.returned (some (.int r))) T9 := fun r t_item t_at t_errorAt H locs hz hq hP hD hS T9 ht => ⟨⟨r, _, rfl, ⟨hz, ⟨t_item, t_at, t_errorAt, rfl, hq⟩⟩, by rw [ht]; exact hP, hD⟩, hS.F ht⟩
  generalize (va_Qi (fun r u => (r = 0 ∨ r = 1) ∧ ∃ (t_item' : Nat → Int32) (t_at' : Int32) (t_errorAt' : Int32), u = [(t 0, .inr (5, [.ref (t 1), .ref (t 2), .int t_length, .int t_at', .int t_errorAt'])), (t 1, .inl (cy 0, 140, .inl t_text)), (t 2, .inl (cy 0, 7, .inl t_item'))] ∧ Q r t_item' t_at' t_errorAt') (fun u T9 => va_P D vwCl u T9.heap ∧ va_D A u) A) = Qc at hend ⊢
  have hS : va_S A s.heap s.heap [] := va_S.rf
  show W p l e r_X5_readAllergens s m args below meth c s.heap [] 0 0 (MQ below Qc args s 0 0 A) (entryFrame m args 2)
  rw [show entryFrame m args 2 = entryFrame m ([.ref (t 0)] : List Value).toArray 2 from by rw [hargs]]
  have hl := lv_entry ([.ref (t 0)]) (n := 2) (Nat.le_of_ble_eq_true rfl)
  rw [lg_entry_eq]
  generalize (lg_sl ([.ref (t 0)]) ++ List.replicate (2 - (lg_sl ([.ref (t 0)])).length) Slot.unset).toArray = ls at hl ⊢
  have hl : lv_has ls 2 [(0, .ref (t 0))] := hl
  have h := hq
  clear hargs hq
  unfold p_X5_readAllergens at h
  suffices key : ∀ (H : Heap) (locs : List Loc), va_P D vwCl [(t 0, .inr (5, [.ref (t 1), .ref (t 2), .int t_length, .int t_at, .int t_errorAt])), (t 1, .inl (cy 0, 140, .inl t_text)), (t 2, .inl (cy 0, 7, .inl t_item))] H → va_D A [(t 0, .inr (5, [.ref (t 1), .ref (t 2), .int t_length, .int t_at, .int t_errorAt])), (t 1, .inl (cy 0, 140, .inl t_text)), (t 2, .inl (cy 0, 7, .inl t_item))] → va_S A s.heap H locs → W p l e r_X5_readAllergens s m args below meth c H locs 0 0 (MQ below Qc args s 0 0 A) (F0 m 0 ls []) from key s.heap [] hP hD hS
  clear hP hD hS
  intro H locs hP hD hS
  refine lv_aload_n hx hb dX5_readAllergens_0 rfl (lv_at hl 0 rfl) ?_
  refine va_get (D := D) (ci := 5) (v := .ref (t 2)) (C := RX5) (T := TX5) (N := 5) hx hb hts i_X5_readAllergens_X5 hown hK hP 0 rfl rfl 1 (by decide) (hts (.fieldLink RX5 15 "FoldedMenu$Reader" "item" "[I") (by decide +kernel)) (fun _ h9 => h9) rfl dX5_readAllergens_1 ?_
  refine lv_iconst (v := 4) hx hb dX5_readAllergens_4 (by decide) ?_
  refine lv_iconst (v := 0) hx hb dX5_readAllergens_5 (by decide) ?_
  obtain ⟨hi, h⟩ := h
  refine va_iast hx hb hK hP hD hS 2 0 rfl rfl hi dX5_readAllergens_6 (fun H locs hP hD hS => ?_)
  have hP : va_P D vwCl [(t 0, .inr (5, [.ref (t 1), .ref (t 2), .int t_length, .int t_at, .int t_errorAt])), (t 1, .inl (cy 0, 140, .inl t_text)), (t 2, .inl (cy 0, 7, .inl ((upd t_item (4 : Int32).toNatClampNeg 0))))] H := hP
  have hD : va_D A [(t 0, .inr (5, [.ref (t 1), .ref (t 2), .int t_length, .int t_at, .int t_errorAt])), (t 1, .inl (cy 0, 140, .inl t_text)), (t 2, .inl (cy 0, 7, .inl ((upd t_item (4 : Int32).toNatClampNeg 0))))] := hD
  refine lv_aload_n hx hb dX5_readAllergens_7 rfl (lv_at hl 0 rfl) ?_
  refine w_callM hP hD hS hA [0, 1] [2] (wc := [(t 0, .inr (5, [.ref (t 1), .ref (t 2), .int t_length, .int t_at, .int t_errorAt])), (t 1, .inl (cy 0, 140, .inl t_text))]) (wr := [(t 2, .inl (cy 0, 7, .inl ((upd t_item (4 : Int32).toNatClampNeg 0))))]) rfl rfl (by decide) (by decide) (va_runV (As := []) (rest := []) ⟨hx, hb, hml, hown, hts⟩ (c_X5_nextSign l D cy H.size t t_text t_length t_at t_errorAt _ h) (cwV 0 hts gX5_readAllergens_X5_nextSign rfl rfl rfl (by decide +kernel) ⟨Nat.le_of_ble_eq_true rfl, Nat.le_of_ble_eq_true rfl⟩) (w_preVO hK hP hD [0, 1] rfl rfl (by decide) (ci := 5) rfl rfl) rfl rfl hl.1 rfl (lv_room (Nat.le_of_ble_eq_true rfl)) dX5_readAllergens_8 ⟨Nat.zero_le _, Nat.zero_le _⟩) (fun r2 u H locs hw hP hD hS => ?_)
  obtain ⟨at_1, rfl, h⟩ := hw
  try dsimp only at h
  have hP := hP.sub (ws' := [(t 0, .inr (5, [.ref (t 1), .ref (t 2), .int t_length, .int at_1, .int t_errorAt])), (t 1, .inl (cy 0, 140, .inl t_text)), (t 2, .inl (cy 0, 7, .inl ((upd t_item (4 : Int32).toNatClampNeg 0))))]) [1, 2, 0] rfl
  have hD := hD.sub (ws' := [(t 0, .inr (5, [.ref (t 1), .ref (t 2), .int t_length, .int at_1, .int t_errorAt])), (t 1, .inl (cy 0, 140, .inl t_text)), (t 2, .inl (cy 0, 7, .inl ((upd t_item (4 : Int32).toNatClampNeg 0))))]) [1, 2, 0] (by decide) rfl
  refine lv_bipush (v := 43) hx hb dX5_readAllergens_11 (by decide) ?_
  refine lv_icmp_eq (tgt := 18) hx hb dX5_readAllergens_13 rfl (fun hc => ?_) (fun hc => ?_)
  · replace h := h.1 hc
    refine lv_aload_n hx hb dX5_readAllergens_18 rfl (lv_at hl 0 rfl) ?_
    refine lv_dup hx hb dX5_readAllergens_19 rfl ?_
    refine va_get (D := D) (ci := 5) (v := .int at_1) (C := RX5) (T := TX5) (N := 5) hx hb hts i_X5_readAllergens_X5 hown hK hP 0 rfl rfl 3 (by decide) (hts (.fieldLink RX5 22 "FoldedMenu$Reader" "at" "I") (by decide +kernel)) (fun _ h9 => h9) rfl dX5_readAllergens_20 ?_
    refine lv_iconst (v := 1) hx hb dX5_readAllergens_23 (by decide) ?_
    refine lv_iadd hx hb dX5_readAllergens_24 ?_
    refine va_put (D := D) (ci := 5) (v := .int (at_1 + 1)) (ty := .int) (C := RX5) (T := TX5) (N := 5) hx hb hts i_X5_readAllergens_X5 tyX5 tyX5_ok nmX5 hown hK hP hD hS 0 rfl rfl 3 (by decide) (hts (.fieldLink RX5 22 "FoldedMenu$Reader" "at" "I") (by decide +kernel)) (fun _ h9 => h9) rfl (by decide +kernel) rfl rfl (Nat.le_of_ble_eq_true rfl) dX5_readAllergens_25 (fun H locs hP hD hS => ?_)
    have hP : va_P D vwCl [(t 0, .inr (5, [.ref (t 1), .ref (t 2), .int t_length, .int ((at_1 + 1)), .int t_errorAt])), (t 1, .inl (cy 0, 140, .inl t_text)), (t 2, .inl (cy 0, 7, .inl ((upd t_item (4 : Int32).toNatClampNeg 0))))] H := hP
    have hD : va_D A [(t 0, .inr (5, [.ref (t 1), .ref (t 2), .int t_length, .int ((at_1 + 1)), .int t_errorAt])), (t 1, .inl (cy 0, 140, .inl t_text)), (t 2, .inl (cy 0, 7, .inl ((upd t_item (4 : Int32).toNatClampNeg 0))))] := hD
    refine lv_aload_n hx hb dX5_readAllergens_28 rfl (lv_at hl 0 rfl) ?_
    obtain ⟨sk, sv, hT⟩ := hE.2.2.2.2.2
    refine va_ldcS hx hb hown hT.2.2.2 dX5_readAllergens_29 ?_
    refine w_callM hP hD hS hA [0, 1] [2] (wc := [(t 0, .inr (5, [.ref (t 1), .ref (t 2), .int t_length, .int ((at_1 + 1)), .int t_errorAt])), (t 1, .inl (cy 0, 140, .inl t_text))]) (wr := [(t 2, .inl (cy 0, 7, .inl ((upd t_item (4 : Int32).toNatClampNeg 0))))]) rfl rfl (by decide) (by decide) (va_runV (As := [.ref (sk 1)]) (rest := []) ⟨hx, hb, hml, hown, hts⟩ (c_X5_readSet l D cy H.size sk sv 1 (by decide) t t_text t_length ((at_1 + 1)) t_errorAt _ h) (cwV 1 hts gX5_readAllergens_X5_readSet rfl rfl rfl (by decide +kernel) ⟨Nat.le_of_ble_eq_true rfl, Nat.le_of_ble_eq_true rfl⟩) (w_preVT hT hE hS hA hK hP hD [0, 1] rfl rfl (by decide) (ci := 5) rfl rfl) rfl rfl hl.1 rfl (lv_room (Nat.le_of_ble_eq_true rfl)) dX5_readAllergens_31 ⟨Nat.zero_le _, Nat.zero_le _⟩) (fun r5 u H locs hw hP hD hS => ?_)
    obtain ⟨at_3, errorAt_4, rfl, h⟩ := hw
    try dsimp only at h
    have hP := hP.sub (ws' := [(t 0, .inr (5, [.ref (t 1), .ref (t 2), .int t_length, .int at_3, .int errorAt_4])), (t 1, .inl (cy 0, 140, .inl t_text)), (t 2, .inl (cy 0, 7, .inl ((upd t_item (4 : Int32).toNatClampNeg 0))))]) [1, 2, 0] rfl
    have hD := hD.sub (ws' := [(t 0, .inr (5, [.ref (t 1), .ref (t 2), .int t_length, .int at_3, .int errorAt_4])), (t 1, .inl (cy 0, 140, .inl t_text)), (t 2, .inl (cy 0, 7, .inl ((upd t_item (4 : Int32).toNatClampNeg 0))))]) [1, 2, 0] (by decide) rfl
    refine lv_istore_n (lv' := [(1, .int r5), (0, .ref (t 0))]) hx hb dX5_readAllergens_34 rfl hl (by decide) rfl (fun ls hl => ?_)
    refine lv_aload_n hx hb dX5_readAllergens_35 rfl (lv_at hl 1 rfl) ?_
    refine va_get (D := D) (ci := 5) (v := .ref (t 2)) (C := RX5) (T := TX5) (N := 5) hx hb hts i_X5_readAllergens_X5 hown hK hP 0 rfl rfl 1 (by decide) (hts (.fieldLink RX5 15 "FoldedMenu$Reader" "item" "[I") (by decide +kernel)) (fun _ h9 => h9) rfl dX5_readAllergens_36 ?_
    refine lv_iconst (v := 4) hx hb dX5_readAllergens_39 (by decide) ?_
    refine lv_iload_n hx hb dX5_readAllergens_40 rfl (lv_at hl 0 rfl) ?_
    obtain ⟨hi, h⟩ := h
    refine va_iast hx hb hK hP hD hS 2 0 rfl rfl hi dX5_readAllergens_41 (fun H locs hP hD hS => ?_)
    have hP : va_P D vwCl [(t 0, .inr (5, [.ref (t 1), .ref (t 2), .int t_length, .int at_3, .int errorAt_4])), (t 1, .inl (cy 0, 140, .inl t_text)), (t 2, .inl (cy 0, 7, .inl ((upd ((upd t_item (4 : Int32).toNatClampNeg 0)) (4 : Int32).toNatClampNeg r5))))] H := hP
    have hD : va_D A [(t 0, .inr (5, [.ref (t 1), .ref (t 2), .int t_length, .int at_3, .int errorAt_4])), (t 1, .inl (cy 0, 140, .inl t_text)), (t 2, .inl (cy 0, 7, .inl ((upd ((upd t_item (4 : Int32).toNatClampNeg 0)) (4 : Int32).toNatClampNeg r5))))] := hD
    refine lv_iload_n hx hb dX5_readAllergens_42 rfl (lv_at hl 0 rfl) ?_
    refine lv_if_ne (tgt := 57) hx hb dX5_readAllergens_43 rfl (fun hc => ?_) (fun hc => ?_)
    · replace h := h.1 hc
      refine lv_iload_n hx hb dX5_readAllergens_57 rfl (lv_at hl 0 rfl) ?_
      refine lv_if_le (tgt := 65) hx hb dX5_readAllergens_58 rfl (fun hc => ?_) (fun hc => ?_)
      · replace h := h.1 hc
        refine lv_iconst (v := 0) hx hb dX5_readAllergens_65 (by decide) ?_
        exact W.zret hx hb hr rfl (fun t ht _ => hend 0 ((upd ((upd t_item (4 : Int32).toNatClampNeg 0)) (4 : Int32).toNatClampNeg r5)) at_3 errorAt_4 H locs (by decide) h hP hD hS t ht) hS.2.2 dX5_readAllergens_66
      · replace h := h.2 hc
        refine lv_iconst (v := 1) hx hb dX5_readAllergens_61 (by decide) ?_
        refine lv_goto (tgt := 66) hx hb dX5_readAllergens_62 rfl ?_
        exact W.zret hx hb hr rfl (fun t ht _ => hend 1 ((upd ((upd t_item (4 : Int32).toNatClampNeg 0)) (4 : Int32).toNatClampNeg r5)) at_3 errorAt_4 H locs (by decide) h hP hD hS t ht) hS.2.2 dX5_readAllergens_66
    · replace h := h.2 hc
      refine lv_aload_n hx hb dX5_readAllergens_46 rfl (lv_at hl 1 rfl) ?_
      refine lv_aload_n hx hb dX5_readAllergens_47 rfl (lv_at hl 1 rfl) ?_
      refine va_get (D := D) (ci := 5) (v := .int at_3) (C := RX5) (T := TX5) (N := 5) hx hb hts i_X5_readAllergens_X5 hown hK hP 0 rfl rfl 3 (by decide) (hts (.fieldLink RX5 22 "FoldedMenu$Reader" "at" "I") (by decide +kernel)) (fun _ h9 => h9) rfl dX5_readAllergens_48 ?_
      refine w_callM hP hD hS hA [0] [1, 2] (wc := [(t 0, .inr (5, [.ref (t 1), .ref (t 2), .int t_length, .int at_3, .int errorAt_4]))]) (wr := [(t 1, .inl (cy 0, 140, .inl t_text)), (t 2, .inl (cy 0, 7, .inl ((upd ((upd t_item (4 : Int32).toNatClampNeg 0)) (4 : Int32).toNatClampNeg r5))))]) rfl rfl (by decide) (by decide) (va_runV (As := [.int at_3]) (rest := []) ⟨hx, hb, hml, hown, hts⟩ (c_X5_failAt l D cy H.size t t_length at_3 errorAt_4 at_3 _ h) (cwV 1 hts gX5_readAllergens_X5_failAt rfl rfl rfl (by decide +kernel) ⟨Nat.le_of_ble_eq_true rfl, Nat.le_of_ble_eq_true rfl⟩) (w_preVO hK hP hD [0] rfl rfl (by decide) (ci := 5) rfl rfl) rfl rfl hl.1 rfl (lv_room (Nat.le_of_ble_eq_true rfl)) dX5_readAllergens_51 ⟨Nat.zero_le _, Nat.zero_le _⟩) (fun r7 u H locs hw hP hD hS => ?_)
      obtain ⟨z_r7, errorAt_6, rfl, h⟩ := hw
      try dsimp only at h
      have hP := hP.sub (ws' := [(t 0, .inr (5, [.ref (t 1), .ref (t 2), .int t_length, .int at_3, .int errorAt_6])), (t 1, .inl (cy 0, 140, .inl t_text)), (t 2, .inl (cy 0, 7, .inl ((upd ((upd t_item (4 : Int32).toNatClampNeg 0)) (4 : Int32).toNatClampNeg r5))))]) [2, 0, 1] rfl
      have hD := hD.sub (ws' := [(t 0, .inr (5, [.ref (t 1), .ref (t 2), .int t_length, .int at_3, .int errorAt_6])), (t 1, .inl (cy 0, 140, .inl t_text)), (t 2, .inl (cy 0, 7, .inl ((upd ((upd t_item (4 : Int32).toNatClampNeg 0)) (4 : Int32).toNatClampNeg r5))))]) [2, 0, 1] (by decide) rfl
      refine lv_goto (tgt := 66) hx hb dX5_readAllergens_54 rfl ?_
      exact W.zret hx hb hr (w_bool z_r7) (fun t ht _ => hend r7 ((upd ((upd t_item (4 : Int32).toNatClampNeg 0)) (4 : Int32).toNatClampNeg r5)) at_3 errorAt_6 H locs z_r7 h hP hD hS t ht) hS.2.2 dX5_readAllergens_66
  · replace h := h.2 hc
    refine lv_iconst (v := 1) hx hb dX5_readAllergens_16 (by decide) ?_
    exact W.zret hx hb hr rfl (fun t ht _ => hend 1 ((upd t_item (4 : Int32).toNatClampNeg 0)) at_1 t_errorAt H locs (by decide) h hP hD hS t ht) hS.2.2 dX5_readAllergens_17

theorem i_X5_readWeight_X5 : ∀ w ∈ u_ws RX5 TX5 5, w ∈ wsX5_readWeight := by decide +kernel
abbrev r_X5_readWeight : Room := { frames := 3, cells := 0, slots := 0, locals := 67 }
set_option maxHeartbeats 4000000 in
set_option maxRecDepth 100000 in
theorem c_X5_readWeight (l : Launch) (D : va_G) (cy : Nat → ClassId) (sz : Nat) (t : Nat → Nat) (t_text : Nat → Int32) (t_item : Nat → Int32) (t_length : Int32) (t_at : Int32) (t_errorAt : Int32) (Q : Int32 → (Nat → Int32) → Int32 → Int32 → Prop) (hq : p_X5_readWeight t_text t_item t_length t_at t_errorAt Q) : Met l yX5_readWeight wsX5_readWeight r_X5_readWeight (wPM [.ref (t 0)] sz D cy [(t 0, .inr (5, [.ref (t 1), .ref (t 2), .int t_length, .int t_at, .int t_errorAt])), (t 1, .inl (cy 0, 140, .inl t_text)), (t 2, .inl (cy 0, 7, .inl t_item))]) (va_Qi (fun r u => (r = 0 ∨ r = 1) ∧ ∃ (t_item' : Nat → Int32) (t_at' : Int32) (t_errorAt' : Int32), u = [(t 0, .inr (5, [.ref (t 1), .ref (t 2), .int t_length, .int t_at', .int t_errorAt'])), (t 1, .inl (cy 0, 140, .inl t_text)), (t 2, .inl (cy 0, 7, .inl t_item'))] ∧ Q r t_item' t_at' t_errorAt') (fun u T9 => va_P D vwCl u T9.heap ∧ va_D (va_A [(t 0, .inr (5, [.ref (t 1), .ref (t 2), .int t_length, .int t_at, .int t_errorAt])), (t 1, .inl (cy 0, 140, .inl t_text)), (t 2, .inl (cy 0, 7, .inl t_item))] sz) u) (va_A [(t 0, .inr (5, [.ref (t 1), .ref (t 2), .int t_length, .int t_at, .int t_errorAt])), (t 1, .inl (cy 0, 140, .inl t_text)), (t 2, .inl (cy 0, 7, .inl t_item))] sz)) 0 0 (va_A [(t 0, .inr (5, [.ref (t 1), .ref (t 2), .int t_length, .int t_at, .int t_errorAt])), (t 1, .inl (cy 0, 140, .inl t_text)), (t 2, .inl (cy 0, 7, .inl t_item))] sz) := by
  refine Met.ofW (cc := cX5_readWeight) (maxL := 1) (ret := (some .boolean)) (by decide) rfl ?_
  intro p e s m args below meth c s₁ B hml hv
  obtain ⟨hargs, hsz, hE, hP, hK, hD0⟩ := hv
  have hx := B.exec
  have hb := B.bytes
  have hr := B.returns
  have hts := atoms_spec (ws := wsX5_readWeight) B.pre
  have hown : s.vm.findClass RX5 = some m.cls := findClass_of_methodNamed B.named
  have hlocks := B.notSynchronized
  clear B
  subst hsz
  have hD := hD0.self (sz := s.heap.size)
  generalize hAe : va_A [(t 0, .inr (5, [.ref (t 1), .ref (t 2), .int t_length, .int t_at, .int t_errorAt])), (t 1, .inl (cy 0, 140, .inl t_text)), (t 2, .inl (cy 0, 7, .inl t_item))] s.heap.size = A at hD ⊢ hE
  have hA : ∀ q : Nat, s.heap.size ≤ q → A q := fun q h => by rw [← hAe]; exact Or.inr h
  clear hAe hD0
  have hend : ∀ (r : Int32) (t_item : Nat → Int32) (t_at : Int32) (t_errorAt : Int32) (H : Heap) (locs : List Loc), (r = 0 ∨ r = 1) → Q r t_item t_at t_errorAt → va_P D vwCl [(t 0, .inr (5, [.ref (t 1), .ref (t 2), .int t_length, .int t_at, .int t_errorAt])), (t 1, .inl (cy 0, 140, .inl t_text)), (t 2, .inl (cy 0, 7, .inl t_item))] H → va_D A [(t 0, .inr (5, [.ref (t 1), .ref (t 2), .int t_length, .int t_at, .int t_errorAt])), (t 1, .inl (cy 0, 140, .inl t_text)), (t 2, .inl (cy 0, 7, .inl t_item))] → va_S A s.heap H locs → ∀ T9 : State, T9.heap = H → (va_Qi (fun r u => (r = 0 ∨ r = 1) ∧ ∃ (t_item' : Nat → Int32) (t_at' : Int32) (t_errorAt' : Int32), u = [(t 0, .inr (5, [.ref (t 1), .ref (t 2), .int t_length, .int t_at', .int t_errorAt'])), (t 1, .inl (cy 0, 140, .inl t_text)), (t 2, .inl (cy 0, 7, .inl t_item'))] ∧ Q r t_item' t_at' t_errorAt') (fun u T9 => va_P D vwCl u T9.heap ∧ va_D A u) A) args s (.returned (some (.int r))) T9 := fun r t_item t_at t_errorAt H locs hz hq hP hD hS T9 ht => ⟨⟨r, _, rfl, ⟨hz, ⟨t_item, t_at, t_errorAt, rfl, hq⟩⟩, by rw [ht]; exact hP, hD⟩, hS.F ht⟩
  generalize (va_Qi (fun r u => (r = 0 ∨ r = 1) ∧ ∃ (t_item' : Nat → Int32) (t_at' : Int32) (t_errorAt' : Int32), u = [(t 0, .inr (5, [.ref (t 1), .ref (t 2), .int t_length, .int t_at', .int t_errorAt'])), (t 1, .inl (cy 0, 140, .inl t_text)), (t 2, .inl (cy 0, 7, .inl t_item'))] ∧ Q r t_item' t_at' t_errorAt') (fun u T9 => va_P D vwCl u T9.heap ∧ va_D A u) A) = Qc at hend ⊢
  have hS : va_S A s.heap s.heap [] := va_S.rf
  show W p l e r_X5_readWeight s m args below meth c s.heap [] 0 0 (MQ below Qc args s 0 0 A) (entryFrame m args 1)
  rw [show entryFrame m args 1 = entryFrame m ([.ref (t 0)] : List Value).toArray 1 from by rw [hargs]]
  have hl := lv_entry ([.ref (t 0)]) (n := 1) (Nat.le_of_ble_eq_true rfl)
  rw [lg_entry_eq]
  generalize (lg_sl ([.ref (t 0)]) ++ List.replicate (1 - (lg_sl ([.ref (t 0)])).length) Slot.unset).toArray = ls at hl ⊢
  have hl : lv_has ls 1 [(0, .ref (t 0))] := hl
  have h := hq
  clear hargs hq
  unfold p_X5_readWeight at h
  suffices key : ∀ (H : Heap) (locs : List Loc), va_P D vwCl [(t 0, .inr (5, [.ref (t 1), .ref (t 2), .int t_length, .int t_at, .int t_errorAt])), (t 1, .inl (cy 0, 140, .inl t_text)), (t 2, .inl (cy 0, 7, .inl t_item))] H → va_D A [(t 0, .inr (5, [.ref (t 1), .ref (t 2), .int t_length, .int t_at, .int t_errorAt])), (t 1, .inl (cy 0, 140, .inl t_text)), (t 2, .inl (cy 0, 7, .inl t_item))] → va_S A s.heap H locs → W p l e r_X5_readWeight s m args below meth c H locs 0 0 (MQ below Qc args s 0 0 A) (F0 m 0 ls []) from key s.heap [] hP hD hS
  clear hP hD hS
  intro H locs hP hD hS
  refine lv_aload_n hx hb dX5_readWeight_0 rfl (lv_at hl 0 rfl) ?_
  refine va_get (D := D) (ci := 5) (v := .ref (t 2)) (C := RX5) (T := TX5) (N := 5) hx hb hts i_X5_readWeight_X5 hown hK hP 0 rfl rfl 1 (by decide) (hts (.fieldLink RX5 15 "FoldedMenu$Reader" "item" "[I") (by decide +kernel)) (fun _ h9 => h9) rfl dX5_readWeight_1 ?_
  refine lv_iconst (v := 5) hx hb dX5_readWeight_4 (by decide) ?_
  refine lv_iconst (v := 2) hx hb dX5_readWeight_5 (by decide) ?_
  obtain ⟨hi, h⟩ := h
  refine va_iast hx hb hK hP hD hS 2 0 rfl rfl hi dX5_readWeight_6 (fun H locs hP hD hS => ?_)
  have hP : va_P D vwCl [(t 0, .inr (5, [.ref (t 1), .ref (t 2), .int t_length, .int t_at, .int t_errorAt])), (t 1, .inl (cy 0, 140, .inl t_text)), (t 2, .inl (cy 0, 7, .inl ((upd t_item (5 : Int32).toNatClampNeg 2))))] H := hP
  have hD : va_D A [(t 0, .inr (5, [.ref (t 1), .ref (t 2), .int t_length, .int t_at, .int t_errorAt])), (t 1, .inl (cy 0, 140, .inl t_text)), (t 2, .inl (cy 0, 7, .inl ((upd t_item (5 : Int32).toNatClampNeg 2))))] := hD
  refine lv_aload_n hx hb dX5_readWeight_7 rfl (lv_at hl 0 rfl) ?_
  refine w_callM hP hD hS hA [0, 1] [2] (wc := [(t 0, .inr (5, [.ref (t 1), .ref (t 2), .int t_length, .int t_at, .int t_errorAt])), (t 1, .inl (cy 0, 140, .inl t_text))]) (wr := [(t 2, .inl (cy 0, 7, .inl ((upd t_item (5 : Int32).toNatClampNeg 2))))]) rfl rfl (by decide) (by decide) (va_runV (As := []) (rest := []) ⟨hx, hb, hml, hown, hts⟩ (c_X5_nextSign l D cy H.size t t_text t_length t_at t_errorAt _ h) (cwV 0 hts gX5_readWeight_X5_nextSign rfl rfl rfl (by decide +kernel) ⟨Nat.le_of_ble_eq_true rfl, Nat.le_of_ble_eq_true rfl⟩) (w_preVO hK hP hD [0, 1] rfl rfl (by decide) (ci := 5) rfl rfl) rfl rfl hl.1 rfl (lv_room (Nat.le_of_ble_eq_true rfl)) dX5_readWeight_8 ⟨Nat.zero_le _, Nat.zero_le _⟩) (fun r2 u H locs hw hP hD hS => ?_)
  obtain ⟨at_1, rfl, h⟩ := hw
  try dsimp only at h
  have hP := hP.sub (ws' := [(t 0, .inr (5, [.ref (t 1), .ref (t 2), .int t_length, .int at_1, .int t_errorAt])), (t 1, .inl (cy 0, 140, .inl t_text)), (t 2, .inl (cy 0, 7, .inl ((upd t_item (5 : Int32).toNatClampNeg 2))))]) [1, 2, 0] rfl
  have hD := hD.sub (ws' := [(t 0, .inr (5, [.ref (t 1), .ref (t 2), .int t_length, .int at_1, .int t_errorAt])), (t 1, .inl (cy 0, 140, .inl t_text)), (t 2, .inl (cy 0, 7, .inl ((upd t_item (5 : Int32).toNatClampNeg 2))))]) [1, 2, 0] (by decide) rfl
  refine lv_bipush (v := 42) hx hb dX5_readWeight_11 (by decide) ?_
  refine lv_icmp_eq (tgt := 18) hx hb dX5_readWeight_13 rfl (fun hc => ?_) (fun hc => ?_)
  · replace h := h.1 hc
    refine lv_aload_n hx hb dX5_readWeight_18 rfl (lv_at hl 0 rfl) ?_
    refine lv_dup hx hb dX5_readWeight_19 rfl ?_
    refine va_get (D := D) (ci := 5) (v := .int at_1) (C := RX5) (T := TX5) (N := 5) hx hb hts i_X5_readWeight_X5 hown hK hP 0 rfl rfl 3 (by decide) (hts (.fieldLink RX5 22 "FoldedMenu$Reader" "at" "I") (by decide +kernel)) (fun _ h9 => h9) rfl dX5_readWeight_20 ?_
    refine lv_iconst (v := 1) hx hb dX5_readWeight_23 (by decide) ?_
    refine lv_iadd hx hb dX5_readWeight_24 ?_
    refine va_put (D := D) (ci := 5) (v := .int (at_1 + 1)) (ty := .int) (C := RX5) (T := TX5) (N := 5) hx hb hts i_X5_readWeight_X5 tyX5 tyX5_ok nmX5 hown hK hP hD hS 0 rfl rfl 3 (by decide) (hts (.fieldLink RX5 22 "FoldedMenu$Reader" "at" "I") (by decide +kernel)) (fun _ h9 => h9) rfl (by decide +kernel) rfl rfl (Nat.le_of_ble_eq_true rfl) dX5_readWeight_25 (fun H locs hP hD hS => ?_)
    have hP : va_P D vwCl [(t 0, .inr (5, [.ref (t 1), .ref (t 2), .int t_length, .int ((at_1 + 1)), .int t_errorAt])), (t 1, .inl (cy 0, 140, .inl t_text)), (t 2, .inl (cy 0, 7, .inl ((upd t_item (5 : Int32).toNatClampNeg 2))))] H := hP
    have hD : va_D A [(t 0, .inr (5, [.ref (t 1), .ref (t 2), .int t_length, .int ((at_1 + 1)), .int t_errorAt])), (t 1, .inl (cy 0, 140, .inl t_text)), (t 2, .inl (cy 0, 7, .inl ((upd t_item (5 : Int32).toNatClampNeg 2))))] := hD
    refine lv_aload_n hx hb dX5_readWeight_28 rfl (lv_at hl 0 rfl) ?_
    refine lv_iconst (v := 5) hx hb dX5_readWeight_29 (by decide) ?_
    refine w_callM hP hD hS hA [0, 1, 2] [] (wc := [(t 0, .inr (5, [.ref (t 1), .ref (t 2), .int t_length, .int ((at_1 + 1)), .int t_errorAt])), (t 1, .inl (cy 0, 140, .inl t_text)), (t 2, .inl (cy 0, 7, .inl ((upd t_item (5 : Int32).toNatClampNeg 2))))]) (wr := []) rfl rfl (by decide) (by decide) (va_runV (As := [.int 5]) (rest := []) ⟨hx, hb, hml, hown, hts⟩ (c_X5_readNumber l D cy H.size t t_text ((upd t_item (5 : Int32).toNatClampNeg 2)) t_length ((at_1 + 1)) t_errorAt 5 _ h) (cwV 1 hts gX5_readWeight_X5_readNumber rfl rfl rfl (by decide +kernel) ⟨Nat.le_of_ble_eq_true rfl, Nat.le_of_ble_eq_true rfl⟩) (w_preVM hE hS hA hK hP hD [0, 1, 2] rfl rfl (by decide) (ci := 5) rfl rfl) rfl rfl hl.1 rfl (lv_room (Nat.le_of_ble_eq_true rfl)) dX5_readWeight_30 ⟨Nat.zero_le _, Nat.zero_le _⟩) (fun r6 u H locs hw hP hD hS => ?_)
    obtain ⟨z_r6, item_3, at_4, errorAt_5, rfl, h⟩ := hw
    try dsimp only at h
    have hP := hP.sub (ws' := [(t 0, .inr (5, [.ref (t 1), .ref (t 2), .int t_length, .int at_4, .int errorAt_5])), (t 1, .inl (cy 0, 140, .inl t_text)), (t 2, .inl (cy 0, 7, .inl item_3))]) [0, 1, 2] rfl
    have hD := hD.sub (ws' := [(t 0, .inr (5, [.ref (t 1), .ref (t 2), .int t_length, .int at_4, .int errorAt_5])), (t 1, .inl (cy 0, 140, .inl t_text)), (t 2, .inl (cy 0, 7, .inl item_3))]) [0, 1, 2] (by decide) rfl
    exact W.zret hx hb hr (w_bool z_r6) (fun t ht _ => hend r6 item_3 at_4 errorAt_5 H locs z_r6 h hP hD hS t ht) hS.2.2 dX5_readWeight_33
  · replace h := h.2 hc
    refine lv_iconst (v := 1) hx hb dX5_readWeight_16 (by decide) ?_
    exact W.zret hx hb hr rfl (fun t ht _ => hend 1 ((upd t_item (5 : Int32).toNatClampNeg 2)) at_1 t_errorAt H locs (by decide) h hP hD hS t ht) hS.2.2 dX5_readWeight_17

theorem i_X5_addItem_X5 : ∀ w ∈ u_ws RX5 TX5 5, w ∈ wsX5_addItem := by decide +kernel
abbrev r_X5_addItem : Room := { frames := 3, cells := 0, slots := 0, locals := 66 }
set_option maxHeartbeats 4000000 in
set_option maxRecDepth 100000 in
theorem c_X5_addItem (l : Launch) (D : va_G) (cy : Nat → ClassId) (sz : Nat) (t : Nat → Nat) (u1 : Nat → Nat) (t_item : Nat → Int32) (t_length : Int32) (t_at : Int32) (t_errorAt : Int32) (u1_values : Nat → Int32) (u1_dishes : Int32) (u1_way : Int32) (Q : (Nat → Int32) → Int32 → Prop) (hq : p_X5_addItem t_item u1_values u1_dishes Q) : Met l yX5_addItem wsX5_addItem r_X5_addItem (wPM [.ref (t 0), .ref (u1 0)] sz D cy [(t 0, .inr (5, [.ref (t 1), .ref (t 2), .int t_length, .int t_at, .int t_errorAt])), (t 2, .inl (cy 0, 7, .inl t_item)), (u1 0, .inr (3, [.ref (u1 1), .ref (u1 2), .int u1_dishes, .int u1_way])), (u1 1, .inl (cy 0, 140, .inl u1_values))]) (va_Qv (fun u => ∃ (u1_values' : Nat → Int32) (u1_dishes' : Int32), u = [(t 0, .inr (5, [.ref (t 1), .ref (t 2), .int t_length, .int t_at, .int t_errorAt])), (t 2, .inl (cy 0, 7, .inl t_item)), (u1 0, .inr (3, [.ref (u1 1), .ref (u1 2), .int u1_dishes', .int u1_way])), (u1 1, .inl (cy 0, 140, .inl u1_values'))] ∧ Q u1_values' u1_dishes') (fun u T9 => va_P D vwCl u T9.heap ∧ va_D (va_A [(t 0, .inr (5, [.ref (t 1), .ref (t 2), .int t_length, .int t_at, .int t_errorAt])), (t 2, .inl (cy 0, 7, .inl t_item)), (u1 0, .inr (3, [.ref (u1 1), .ref (u1 2), .int u1_dishes, .int u1_way])), (u1 1, .inl (cy 0, 140, .inl u1_values))] sz) u) (va_A [(t 0, .inr (5, [.ref (t 1), .ref (t 2), .int t_length, .int t_at, .int t_errorAt])), (t 2, .inl (cy 0, 7, .inl t_item)), (u1 0, .inr (3, [.ref (u1 1), .ref (u1 2), .int u1_dishes, .int u1_way])), (u1 1, .inl (cy 0, 140, .inl u1_values))] sz)) 0 0 (va_A [(t 0, .inr (5, [.ref (t 1), .ref (t 2), .int t_length, .int t_at, .int t_errorAt])), (t 2, .inl (cy 0, 7, .inl t_item)), (u1 0, .inr (3, [.ref (u1 1), .ref (u1 2), .int u1_dishes, .int u1_way])), (u1 1, .inl (cy 0, 140, .inl u1_values))] sz) := by
  refine Met.ofW (cc := cX5_addItem) (maxL := 4) (ret := none) (by decide) rfl ?_
  intro p e s m args below meth c s₁ B hml hv
  obtain ⟨hargs, hsz, hE, hP, hK, hD0⟩ := hv
  have hx := B.exec
  have hb := B.bytes
  have hr := B.returns
  have hts := atoms_spec (ws := wsX5_addItem) B.pre
  have hown : s.vm.findClass RX5 = some m.cls := findClass_of_methodNamed B.named
  have hlocks := B.notSynchronized
  clear B
  subst hsz
  have hD := hD0.self (sz := s.heap.size)
  generalize hAe : va_A [(t 0, .inr (5, [.ref (t 1), .ref (t 2), .int t_length, .int t_at, .int t_errorAt])), (t 2, .inl (cy 0, 7, .inl t_item)), (u1 0, .inr (3, [.ref (u1 1), .ref (u1 2), .int u1_dishes, .int u1_way])), (u1 1, .inl (cy 0, 140, .inl u1_values))] s.heap.size = A at hD ⊢ hE
  have hA : ∀ q : Nat, s.heap.size ≤ q → A q := fun q h => by rw [← hAe]; exact Or.inr h
  clear hAe hD0
  have hend : ∀ (u1_values : Nat → Int32) (u1_dishes : Int32) (H : Heap) (locs : List Loc), Q u1_values u1_dishes → va_P D vwCl [(t 0, .inr (5, [.ref (t 1), .ref (t 2), .int t_length, .int t_at, .int t_errorAt])), (t 2, .inl (cy 0, 7, .inl t_item)), (u1 0, .inr (3, [.ref (u1 1), .ref (u1 2), .int u1_dishes, .int u1_way])), (u1 1, .inl (cy 0, 140, .inl u1_values))] H → va_D A [(t 0, .inr (5, [.ref (t 1), .ref (t 2), .int t_length, .int t_at, .int t_errorAt])), (t 2, .inl (cy 0, 7, .inl t_item)), (u1 0, .inr (3, [.ref (u1 1), .ref (u1 2), .int u1_dishes, .int u1_way])), (u1 1, .inl (cy 0, 140, .inl u1_values))] → va_S A s.heap H locs → ∀ T9 : State, T9.heap = H → (va_Qv (fun u => ∃ (u1_values' : Nat → Int32) (u1_dishes' : Int32), u = [(t 0, .inr (5, [.ref (t 1), .ref (t 2), .int t_length, .int t_at, .int t_errorAt])), (t 2, .inl (cy 0, 7, .inl t_item)), (u1 0, .inr (3, [.ref (u1 1), .ref (u1 2), .int u1_dishes', .int u1_way])), (u1 1, .inl (cy 0, 140, .inl u1_values'))] ∧ Q u1_values' u1_dishes') (fun u T9 => va_P D vwCl u T9.heap ∧ va_D A u) A) args s (.returned none) T9 := fun u1_values u1_dishes H locs hq hP hD hS T9 ht => ⟨⟨_, rfl, ⟨u1_values, u1_dishes, rfl, hq⟩, by rw [ht]; exact hP, hD⟩, hS.F ht⟩
  generalize (va_Qv (fun u => ∃ (u1_values' : Nat → Int32) (u1_dishes' : Int32), u = [(t 0, .inr (5, [.ref (t 1), .ref (t 2), .int t_length, .int t_at, .int t_errorAt])), (t 2, .inl (cy 0, 7, .inl t_item)), (u1 0, .inr (3, [.ref (u1 1), .ref (u1 2), .int u1_dishes', .int u1_way])), (u1 1, .inl (cy 0, 140, .inl u1_values'))] ∧ Q u1_values' u1_dishes') (fun u T9 => va_P D vwCl u T9.heap ∧ va_D A u) A) = Qc at hend ⊢
  have hS : va_S A s.heap s.heap [] := va_S.rf
  show W p l e r_X5_addItem s m args below meth c s.heap [] 0 0 (MQ below Qc args s 0 0 A) (entryFrame m args 4)
  rw [show entryFrame m args 4 = entryFrame m ([.ref (t 0), .ref (u1 0)] : List Value).toArray 4 from by rw [hargs]]
  have hl := lv_entry ([.ref (t 0), .ref (u1 0)]) (n := 4) (Nat.le_of_ble_eq_true rfl)
  rw [lg_entry_eq]
  generalize (lg_sl ([.ref (t 0), .ref (u1 0)]) ++ List.replicate (4 - (lg_sl ([.ref (t 0), .ref (u1 0)])).length) Slot.unset).toArray = ls at hl ⊢
  have hl : lv_has ls 4 [(0, .ref (t 0)), (1, .ref (u1 0))] := hl
  have h := hq
  clear hargs hq
  have j7 : ∀ (u1_values : Nat → Int32) (u1_dishes : Int32) (x2 : Int32) (x3 : Int32), p_X5_addItem_7 t_item u1_dishes x2 Q u1_values x3 → ∀ (H : Heap) (locs : List Loc), va_P D vwCl [(t 0, .inr (5, [.ref (t 1), .ref (t 2), .int t_length, .int t_at, .int t_errorAt])), (t 2, .inl (cy 0, 7, .inl t_item)), (u1 0, .inr (3, [.ref (u1 1), .ref (u1 2), .int u1_dishes, .int u1_way])), (u1 1, .inl (cy 0, 140, .inl u1_values))] H → va_D A [(t 0, .inr (5, [.ref (t 1), .ref (t 2), .int t_length, .int t_at, .int t_errorAt])), (t 2, .inl (cy 0, 7, .inl t_item)), (u1 0, .inr (3, [.ref (u1 1), .ref (u1 2), .int u1_dishes, .int u1_way])), (u1 1, .inl (cy 0, 140, .inl u1_values))] → va_S A s.heap H locs → ∀ (ls : Array Slot), lv_has ls 4 [(0, .ref (t 0)), (1, .ref (u1 0)), (2, .int x2), (3, .int x3)] → W p l e r_X5_addItem s m args below meth c H locs 0 0 (MQ below Qc args s 0 0 A) (F0 m 7 ls []) := by
    intro u1_values u1_dishes x2 x3 h
    obtain ⟨I7, μ7, h0, hs7⟩ := h
    have key : ∀ (n : Nat) (u1_values : Nat → Int32) (x3 : Int32), I7 u1_values x3 → μ7 u1_values x3 < n → ∀ (H : Heap) (locs : List Loc), va_P D vwCl [(t 0, .inr (5, [.ref (t 1), .ref (t 2), .int t_length, .int t_at, .int t_errorAt])), (t 2, .inl (cy 0, 7, .inl t_item)), (u1 0, .inr (3, [.ref (u1 1), .ref (u1 2), .int u1_dishes, .int u1_way])), (u1 1, .inl (cy 0, 140, .inl u1_values))] H → va_D A [(t 0, .inr (5, [.ref (t 1), .ref (t 2), .int t_length, .int t_at, .int t_errorAt])), (t 2, .inl (cy 0, 7, .inl t_item)), (u1 0, .inr (3, [.ref (u1 1), .ref (u1 2), .int u1_dishes, .int u1_way])), (u1 1, .inl (cy 0, 140, .inl u1_values))] → va_S A s.heap H locs → ∀ (ls : Array Slot), lv_has ls 4 [(0, .ref (t 0)), (1, .ref (u1 0)), (2, .int x2), (3, .int x3)] → W p l e r_X5_addItem s m args below meth c H locs 0 0 (MQ below Qc args s 0 0 A) (F0 m 7 ls []) := by
      intro n
      induction n with
      | zero => intro u1_values x3 _ h; exact absurd h (Nat.not_lt_zero _)
      | succ n ih7 =>
        intro u1_values x3 hI hn H locs hP hD hS ls hl
        have h := hs7 u1_values x3 hI
        have hk7 : ∀ (u1_values1 : Nat → Int32) (x31 : Int32), (fun (u1_values' : Nat → Int32) (x3' : Int32) => I7 u1_values' x3' ∧ μ7 u1_values' x3' < μ7 u1_values x3) u1_values1 x31 → ∀ (H : Heap) (locs : List Loc), va_P D vwCl [(t 0, .inr (5, [.ref (t 1), .ref (t 2), .int t_length, .int t_at, .int t_errorAt])), (t 2, .inl (cy 0, 7, .inl t_item)), (u1 0, .inr (3, [.ref (u1 1), .ref (u1 2), .int u1_dishes, .int u1_way])), (u1 1, .inl (cy 0, 140, .inl u1_values1))] H → va_D A [(t 0, .inr (5, [.ref (t 1), .ref (t 2), .int t_length, .int t_at, .int t_errorAt])), (t 2, .inl (cy 0, 7, .inl t_item)), (u1 0, .inr (3, [.ref (u1 1), .ref (u1 2), .int u1_dishes, .int u1_way])), (u1 1, .inl (cy 0, 140, .inl u1_values1))] → va_S A s.heap H locs → ∀ (ls : Array Slot), lv_has ls 4 [(0, .ref (t 0)), (1, .ref (u1 0)), (2, .int x2), (3, .int x31)] → W p l e r_X5_addItem s m args below meth c H locs 0 0 (MQ below Qc args s 0 0 A) (F0 m 7 ls []) := by
          intro u1_values1 x31 hz
          exact ih7 u1_values1 x31 hz.1 (Nat.lt_of_lt_of_le hz.2 (Nat.le_of_lt_succ hn))
        generalize hKe : (fun (u1_values' : Nat → Int32) (x3' : Int32) => I7 u1_values' x3' ∧ μ7 u1_values' x3' < μ7 u1_values x3) = K7 at h hk7
        clear hKe ih7 hn hI
        unfold q_X5_addItem_7 at h
        refine lv_iload_n hx hb dX5_addItem_7 rfl (lv_at hl 3 rfl) ?_
        refine lv_iconst (v := 5) hx hb dX5_addItem_8 (by decide) ?_
        refine lv_icmp_gt (tgt := 30) hx hb dX5_addItem_9 rfl (fun hc => ?_) (fun hc => ?_)
        · replace h := h.1 hc
          exact W.vret hx hb hr (fun t ht _ => hend u1_values u1_dishes H locs h hP hD hS t ht) hS.2.2 dX5_addItem_30
        · replace h := h.2 hc
          refine lv_aload_n hx hb dX5_addItem_12 rfl (lv_at hl 1 rfl) ?_
          refine lv_iload_n hx hb dX5_addItem_13 rfl (lv_at hl 2 rfl) ?_
          refine lv_iload_n hx hb dX5_addItem_14 rfl (lv_at hl 3 rfl) ?_
          refine lv_aload_n hx hb dX5_addItem_15 rfl (lv_at hl 0 rfl) ?_
          refine va_get (D := D) (ci := 5) (v := .ref (t 2)) (C := RX5) (T := TX5) (N := 5) hx hb hts i_X5_addItem_X5 hown hK hP 0 rfl rfl 1 (by decide) (hts (.fieldLink RX5 15 "FoldedMenu$Reader" "item" "[I") (by decide +kernel)) (fun _ h9 => h9) rfl dX5_addItem_16 ?_
          refine lv_iload_n hx hb dX5_addItem_19 rfl (lv_at hl 3 rfl) ?_
          obtain ⟨hi, h⟩ := h
          refine va_iald hx hb hK hP 1 0 rfl rfl hi dX5_addItem_20 ?_
          refine w_callV hP hD hS hA [2, 3] [0, 1] (wc := [(u1 0, .inr (3, [.ref (u1 1), .ref (u1 2), .int u1_dishes, .int u1_way])), (u1 1, .inl (cy 0, 140, .inl u1_values))]) (wr := [(t 0, .inr (5, [.ref (t 1), .ref (t 2), .int t_length, .int t_at, .int t_errorAt])), (t 2, .inl (cy 0, 7, .inl t_item))]) rfl rfl (by decide) (by decide) (va_runV (As := [.int x2, .int x3, .int (t_item x3.toNatClampNeg)]) (rest := []) ⟨hx, hb, hml, hown, hts⟩ (c_X3_change l D cy H.size u1 u1_values u1_dishes u1_way x2 x3 ((t_item x3.toNatClampNeg)) _ h) (cwV 3 hts gX5_addItem_X3_change rfl rfl rfl (by decide +kernel) ⟨Nat.le_of_ble_eq_true rfl, Nat.le_of_ble_eq_true rfl⟩) (w_preVM hE hS hA hK hP hD [2, 3] rfl rfl (by decide) (ci := 3) rfl rfl) rfl rfl hl.1 rfl (lv_room (Nat.le_of_ble_eq_true rfl)) dX5_addItem_21 ⟨Nat.zero_le _, Nat.zero_le _⟩) (fun u H locs hw hP hD hS => ?_)
          obtain ⟨values_1, rfl, h⟩ := hw
          try dsimp only at h
          have hP := hP.sub (ws' := [(t 0, .inr (5, [.ref (t 1), .ref (t 2), .int t_length, .int t_at, .int t_errorAt])), (t 2, .inl (cy 0, 7, .inl t_item)), (u1 0, .inr (3, [.ref (u1 1), .ref (u1 2), .int u1_dishes, .int u1_way])), (u1 1, .inl (cy 0, 140, .inl values_1))]) [0, 1, 2, 3] rfl
          have hD := hD.sub (ws' := [(t 0, .inr (5, [.ref (t 1), .ref (t 2), .int t_length, .int t_at, .int t_errorAt])), (t 2, .inl (cy 0, 7, .inl t_item)), (u1 0, .inr (3, [.ref (u1 1), .ref (u1 2), .int u1_dishes, .int u1_way])), (u1 1, .inl (cy 0, 140, .inl values_1))]) [0, 1, 2, 3] (by decide) rfl
          refine lv_iinc (k := 3) (v := (x3 + 1)) (lv' := [(3, .int (x3 + 1)), (0, .ref (t 0)), (1, .ref (u1 0)), (2, .int x2)]) hx hb dX5_addItem_24 hl rfl rfl (by decide) rfl (fun ls hl => ?_)
          refine lv_goto (tgt := 7) hx hb dX5_addItem_27 rfl ?_
          exact hk7 values_1 ((x3 + 1)) h _ _ hP hD hS _ (lv_sub hl [1, 2, 3, 0] rfl)
    exact key _ u1_values x3 h0 (Nat.lt_succ_self _)
  unfold p_X5_addItem at h
  suffices key : ∀ (H : Heap) (locs : List Loc), va_P D vwCl [(t 0, .inr (5, [.ref (t 1), .ref (t 2), .int t_length, .int t_at, .int t_errorAt])), (t 2, .inl (cy 0, 7, .inl t_item)), (u1 0, .inr (3, [.ref (u1 1), .ref (u1 2), .int u1_dishes, .int u1_way])), (u1 1, .inl (cy 0, 140, .inl u1_values))] H → va_D A [(t 0, .inr (5, [.ref (t 1), .ref (t 2), .int t_length, .int t_at, .int t_errorAt])), (t 2, .inl (cy 0, 7, .inl t_item)), (u1 0, .inr (3, [.ref (u1 1), .ref (u1 2), .int u1_dishes, .int u1_way])), (u1 1, .inl (cy 0, 140, .inl u1_values))] → va_S A s.heap H locs → W p l e r_X5_addItem s m args below meth c H locs 0 0 (MQ below Qc args s 0 0 A) (F0 m 0 ls []) from key s.heap [] hP hD hS
  clear hP hD hS
  intro H locs hP hD hS
  refine lv_aload_n hx hb dX5_addItem_0 rfl (lv_at hl 1 rfl) ?_
  refine w_callM hP hD hS hA [2, 3] [0, 1] (wc := [(u1 0, .inr (3, [.ref (u1 1), .ref (u1 2), .int u1_dishes, .int u1_way])), (u1 1, .inl (cy 0, 140, .inl u1_values))]) (wr := [(t 0, .inr (5, [.ref (t 1), .ref (t 2), .int t_length, .int t_at, .int t_errorAt])), (t 2, .inl (cy 0, 7, .inl t_item))]) rfl rfl (by decide) (by decide) (va_runV (As := []) (rest := []) ⟨hx, hb, hml, hown, hts⟩ (c_X3_addOffered l D cy H.size u1 u1_values u1_dishes u1_way _ h) (cwV 0 hts gX5_addItem_X3_addOffered rfl rfl rfl (by decide +kernel) ⟨Nat.le_of_ble_eq_true rfl, Nat.le_of_ble_eq_true rfl⟩) (w_preVO hK hP hD [2, 3] rfl rfl (by decide) (ci := 3) rfl rfl) rfl rfl hl.1 rfl (lv_room (Nat.le_of_ble_eq_true rfl)) dX5_addItem_1 ⟨Nat.zero_le _, Nat.zero_le _⟩) (fun r4 u H locs hw hP hD hS => ?_)
  obtain ⟨values_2, dishes_3, rfl, h⟩ := hw
  try dsimp only at h
  have hP := hP.sub (ws' := [(t 0, .inr (5, [.ref (t 1), .ref (t 2), .int t_length, .int t_at, .int t_errorAt])), (t 2, .inl (cy 0, 7, .inl t_item)), (u1 0, .inr (3, [.ref (u1 1), .ref (u1 2), .int dishes_3, .int u1_way])), (u1 1, .inl (cy 0, 140, .inl values_2))]) [0, 1, 2, 3] rfl
  have hD := hD.sub (ws' := [(t 0, .inr (5, [.ref (t 1), .ref (t 2), .int t_length, .int t_at, .int t_errorAt])), (t 2, .inl (cy 0, 7, .inl t_item)), (u1 0, .inr (3, [.ref (u1 1), .ref (u1 2), .int dishes_3, .int u1_way])), (u1 1, .inl (cy 0, 140, .inl values_2))]) [0, 1, 2, 3] (by decide) rfl
  refine lv_istore_n (lv' := [(2, .int r4), (0, .ref (t 0)), (1, .ref (u1 0))]) hx hb dX5_addItem_4 rfl hl (by decide) rfl (fun ls hl => ?_)
  refine lv_iconst (v := 0) hx hb dX5_addItem_5 (by decide) ?_
  refine lv_istore_n (lv' := [(3, .int 0), (2, .int r4), (0, .ref (t 0)), (1, .ref (u1 0))]) hx hb dX5_addItem_6 rfl hl (by decide) rfl (fun ls hl => ?_)
  exact j7 values_2 dishes_3 r4 0 h _ _ hP hD hS _ (lv_sub hl [2, 3, 1, 0] rfl)

theorem i_X5_readItem_X5 : ∀ w ∈ u_ws RX5 TX5 5, w ∈ wsX5_readItem := by decide +kernel
abbrev r_X5_readItem : Room := { frames := 6, cells := 0, slots := 0, locals := 135 }
set_option maxHeartbeats 4000000 in
set_option maxRecDepth 100000 in
theorem c_X5_readItem (l : Launch) (D : va_G) (cy : Nat → ClassId) (sz : Nat) (t : Nat → Nat) (u1 : Nat → Nat) (t_text : Nat → Int32) (t_item : Nat → Int32) (t_length : Int32) (t_at : Int32) (t_errorAt : Int32) (u1_values : Nat → Int32) (u1_dishes : Int32) (u1_way : Int32) (Q : Int32 → (Nat → Int32) → Int32 → Int32 → (Nat → Int32) → Int32 → Prop) (hq : p_X5_readItem t_text t_item t_length t_at t_errorAt u1_values u1_dishes Q) : Met l yX5_readItem wsX5_readItem r_X5_readItem (wPM [.ref (t 0), .ref (u1 0)] sz D cy [(t 0, .inr (5, [.ref (t 1), .ref (t 2), .int t_length, .int t_at, .int t_errorAt])), (t 1, .inl (cy 0, 140, .inl t_text)), (t 2, .inl (cy 0, 7, .inl t_item)), (u1 0, .inr (3, [.ref (u1 1), .ref (u1 2), .int u1_dishes, .int u1_way])), (u1 1, .inl (cy 0, 140, .inl u1_values))]) (va_Qi (fun r u => (r = 0 ∨ r = 1) ∧ ∃ (t_item' : Nat → Int32) (t_at' : Int32) (t_errorAt' : Int32) (u1_values' : Nat → Int32) (u1_dishes' : Int32), u = [(t 0, .inr (5, [.ref (t 1), .ref (t 2), .int t_length, .int t_at', .int t_errorAt'])), (t 1, .inl (cy 0, 140, .inl t_text)), (t 2, .inl (cy 0, 7, .inl t_item')), (u1 0, .inr (3, [.ref (u1 1), .ref (u1 2), .int u1_dishes', .int u1_way])), (u1 1, .inl (cy 0, 140, .inl u1_values'))] ∧ Q r t_item' t_at' t_errorAt' u1_values' u1_dishes') (fun u T9 => va_P D vwCl u T9.heap ∧ va_D (va_A [(t 0, .inr (5, [.ref (t 1), .ref (t 2), .int t_length, .int t_at, .int t_errorAt])), (t 1, .inl (cy 0, 140, .inl t_text)), (t 2, .inl (cy 0, 7, .inl t_item)), (u1 0, .inr (3, [.ref (u1 1), .ref (u1 2), .int u1_dishes, .int u1_way])), (u1 1, .inl (cy 0, 140, .inl u1_values))] sz) u) (va_A [(t 0, .inr (5, [.ref (t 1), .ref (t 2), .int t_length, .int t_at, .int t_errorAt])), (t 1, .inl (cy 0, 140, .inl t_text)), (t 2, .inl (cy 0, 7, .inl t_item)), (u1 0, .inr (3, [.ref (u1 1), .ref (u1 2), .int u1_dishes, .int u1_way])), (u1 1, .inl (cy 0, 140, .inl u1_values))] sz)) 0 0 (va_A [(t 0, .inr (5, [.ref (t 1), .ref (t 2), .int t_length, .int t_at, .int t_errorAt])), (t 1, .inl (cy 0, 140, .inl t_text)), (t 2, .inl (cy 0, 7, .inl t_item)), (u1 0, .inr (3, [.ref (u1 1), .ref (u1 2), .int u1_dishes, .int u1_way])), (u1 1, .inl (cy 0, 140, .inl u1_values))] sz) := by
  refine Met.ofW (cc := cX5_readItem) (maxL := 3) (ret := (some .boolean)) (by decide) rfl ?_
  intro p e s m args below meth c s₁ B hml hv
  obtain ⟨hargs, hsz, hE, hP, hK, hD0⟩ := hv
  have hx := B.exec
  have hb := B.bytes
  have hr := B.returns
  have hts := atoms_spec (ws := wsX5_readItem) B.pre
  have hown : s.vm.findClass RX5 = some m.cls := findClass_of_methodNamed B.named
  have hlocks := B.notSynchronized
  clear B
  subst hsz
  have hD := hD0.self (sz := s.heap.size)
  generalize hAe : va_A [(t 0, .inr (5, [.ref (t 1), .ref (t 2), .int t_length, .int t_at, .int t_errorAt])), (t 1, .inl (cy 0, 140, .inl t_text)), (t 2, .inl (cy 0, 7, .inl t_item)), (u1 0, .inr (3, [.ref (u1 1), .ref (u1 2), .int u1_dishes, .int u1_way])), (u1 1, .inl (cy 0, 140, .inl u1_values))] s.heap.size = A at hD ⊢ hE
  have hA : ∀ q : Nat, s.heap.size ≤ q → A q := fun q h => by rw [← hAe]; exact Or.inr h
  clear hAe hD0
  have hend : ∀ (r : Int32) (t_item : Nat → Int32) (t_at : Int32) (t_errorAt : Int32) (u1_values : Nat → Int32) (u1_dishes : Int32) (H : Heap) (locs : List Loc), (r = 0 ∨ r = 1) → Q r t_item t_at t_errorAt u1_values u1_dishes → va_P D vwCl [(t 0, .inr (5, [.ref (t 1), .ref (t 2), .int t_length, .int t_at, .int t_errorAt])), (t 1, .inl (cy 0, 140, .inl t_text)), (t 2, .inl (cy 0, 7, .inl t_item)), (u1 0, .inr (3, [.ref (u1 1), .ref (u1 2), .int u1_dishes, .int u1_way])), (u1 1, .inl (cy 0, 140, .inl u1_values))] H → va_D A [(t 0, .inr (5, [.ref (t 1), .ref (t 2), .int t_length, .int t_at, .int t_errorAt])), (t 1, .inl (cy 0, 140, .inl t_text)), (t 2, .inl (cy 0, 7, .inl t_item)), (u1 0, .inr (3, [.ref (u1 1), .ref (u1 2), .int u1_dishes, .int u1_way])), (u1 1, .inl (cy 0, 140, .inl u1_values))] → va_S A s.heap H locs → ∀ T9 : State, T9.heap = H → (va_Qi (fun r u => (r = 0 ∨ r = 1) ∧ ∃ (t_item' : Nat → Int32) (t_at' : Int32) (t_errorAt' : Int32) (u1_values' : Nat → Int32) (u1_dishes' : Int32), u = [(t 0, .inr (5, [.ref (t 1), .ref (t 2), .int t_length, .int t_at', .int t_errorAt'])), (t 1, .inl (cy 0, 140, .inl t_text)), (t 2, .inl (cy 0, 7, .inl t_item')), (u1 0, .inr (3, [.ref (u1 1), .ref (u1 2), .int u1_dishes', .int u1_way])), (u1 1, .inl (cy 0, 140, .inl u1_values'))] ∧ Q r t_item' t_at' t_errorAt' u1_values' u1_dishes') (fun u T9 => va_P D vwCl u T9.heap ∧ va_D A u) A) args s (.returned (some (.int r))) T9 := fun r t_item t_at t_errorAt u1_values u1_dishes H locs hz hq hP hD hS T9 ht => ⟨⟨r, _, rfl, ⟨hz, ⟨t_item, t_at, t_errorAt, u1_values, u1_dishes, rfl, hq⟩⟩, by rw [ht]; exact hP, hD⟩, hS.F ht⟩
  generalize (va_Qi (fun r u => (r = 0 ∨ r = 1) ∧ ∃ (t_item' : Nat → Int32) (t_at' : Int32) (t_errorAt' : Int32) (u1_values' : Nat → Int32) (u1_dishes' : Int32), u = [(t 0, .inr (5, [.ref (t 1), .ref (t 2), .int t_length, .int t_at', .int t_errorAt'])), (t 1, .inl (cy 0, 140, .inl t_text)), (t 2, .inl (cy 0, 7, .inl t_item')), (u1 0, .inr (3, [.ref (u1 1), .ref (u1 2), .int u1_dishes', .int u1_way])), (u1 1, .inl (cy 0, 140, .inl u1_values'))] ∧ Q r t_item' t_at' t_errorAt' u1_values' u1_dishes') (fun u T9 => va_P D vwCl u T9.heap ∧ va_D A u) A) = Qc at hend ⊢
  have hS : va_S A s.heap s.heap [] := va_S.rf
  show W p l e r_X5_readItem s m args below meth c s.heap [] 0 0 (MQ below Qc args s 0 0 A) (entryFrame m args 3)
  rw [show entryFrame m args 3 = entryFrame m ([.ref (t 0), .ref (u1 0)] : List Value).toArray 3 from by rw [hargs]]
  have hl := lv_entry ([.ref (t 0), .ref (u1 0)]) (n := 3) (Nat.le_of_ble_eq_true rfl)
  rw [lg_entry_eq]
  generalize (lg_sl ([.ref (t 0), .ref (u1 0)]) ++ List.replicate (3 - (lg_sl ([.ref (t 0), .ref (u1 0)])).length) Slot.unset).toArray = ls at hl ⊢
  have hl : lv_has ls 3 [(0, .ref (t 0)), (1, .ref (u1 0))] := hl
  have h := hq
  clear hargs hq
  have j93 : ∀ (t_item : Nat → Int32) (t_at : Int32) (t_errorAt : Int32) (u1_values : Nat → Int32) (u1_dishes : Int32) (k0 : Int32), p_X5_readItem_93 t_item t_at t_errorAt u1_values u1_dishes k0 Q → (k0 = 0 ∨ k0 = 1) → ∀ (H : Heap) (locs : List Loc), va_P D vwCl [(t 0, .inr (5, [.ref (t 1), .ref (t 2), .int t_length, .int t_at, .int t_errorAt])), (t 1, .inl (cy 0, 140, .inl t_text)), (t 2, .inl (cy 0, 7, .inl t_item)), (u1 0, .inr (3, [.ref (u1 1), .ref (u1 2), .int u1_dishes, .int u1_way])), (u1 1, .inl (cy 0, 140, .inl u1_values))] H → va_D A [(t 0, .inr (5, [.ref (t 1), .ref (t 2), .int t_length, .int t_at, .int t_errorAt])), (t 1, .inl (cy 0, 140, .inl t_text)), (t 2, .inl (cy 0, 7, .inl t_item)), (u1 0, .inr (3, [.ref (u1 1), .ref (u1 2), .int u1_dishes, .int u1_way])), (u1 1, .inl (cy 0, 140, .inl u1_values))] → va_S A s.heap H locs → ∀ (ls : Array Slot), lv_has ls 3 [(0, .ref (t 0)), (1, .ref (u1 0))] → W p l e r_X5_readItem s m args below meth c H locs 0 0 (MQ below Qc args s 0 0 A) (F0 m 93 ls [.int k0]) := by
    intro t_item t_at t_errorAt u1_values u1_dishes k0 h z_k0 H locs hP hD hS ls hl
    unfold p_X5_readItem_93 at h
    refine lv_istore_n (lv' := [(2, .int k0), (0, .ref (t 0)), (1, .ref (u1 0))]) hx hb dX5_readItem_93 rfl hl (by decide) rfl (fun ls hl => ?_)
    refine lv_iload_n hx hb dX5_readItem_94 rfl (lv_at hl 0 rfl) ?_
    refine lv_if_eq (tgt := 103) hx hb dX5_readItem_95 rfl (fun hc => ?_) (fun hc => ?_)
    · replace h := h.1 hc
      refine lv_iload_n hx hb dX5_readItem_103 rfl (lv_at hl 0 rfl) ?_
      exact W.zret hx hb hr (w_bool z_k0) (fun t ht _ => hend k0 t_item t_at t_errorAt u1_values u1_dishes H locs z_k0 h hP hD hS t ht) hS.2.2 dX5_readItem_104
    · replace h := h.2 hc
      refine lv_aload_n hx hb dX5_readItem_98 rfl (lv_at hl 1 rfl) ?_
      refine lv_aload_n hx hb dX5_readItem_99 rfl (lv_at hl 2 rfl) ?_
      refine w_callV hP hD hS hA [0, 2, 3, 4] [1] (wc := [(t 0, .inr (5, [.ref (t 1), .ref (t 2), .int t_length, .int t_at, .int t_errorAt])), (t 2, .inl (cy 0, 7, .inl t_item)), (u1 0, .inr (3, [.ref (u1 1), .ref (u1 2), .int u1_dishes, .int u1_way])), (u1 1, .inl (cy 0, 140, .inl u1_values))]) (wr := [(t 1, .inl (cy 0, 140, .inl t_text))]) rfl rfl (by decide) (by decide) (va_runV (As := [.ref (u1 0)]) (rest := []) ⟨hx, hb, hml, hown, hts⟩ (c_X5_addItem l D cy H.size t u1 t_item t_length t_at t_errorAt u1_values u1_dishes u1_way _ h) (cwV 1 hts gX5_readItem_X5_addItem rfl rfl rfl (by decide +kernel) ⟨Nat.le_of_ble_eq_true rfl, Nat.le_of_ble_eq_true rfl⟩) (w_preVM hE hS hA hK hP hD [0, 2, 3, 4] rfl rfl (by decide) (ci := 5) rfl rfl) rfl rfl hl.1 rfl (lv_room (Nat.le_of_ble_eq_true rfl)) dX5_readItem_100 ⟨Nat.zero_le _, Nat.zero_le _⟩) (fun u H locs hw hP hD hS => ?_)
      obtain ⟨values_1, dishes_2, rfl, h⟩ := hw
      try dsimp only at h
      have hP := hP.sub (ws' := [(t 0, .inr (5, [.ref (t 1), .ref (t 2), .int t_length, .int t_at, .int t_errorAt])), (t 1, .inl (cy 0, 140, .inl t_text)), (t 2, .inl (cy 0, 7, .inl t_item)), (u1 0, .inr (3, [.ref (u1 1), .ref (u1 2), .int dishes_2, .int u1_way])), (u1 1, .inl (cy 0, 140, .inl values_1))]) [1, 0, 2, 3, 4] rfl
      have hD := hD.sub (ws' := [(t 0, .inr (5, [.ref (t 1), .ref (t 2), .int t_length, .int t_at, .int t_errorAt])), (t 1, .inl (cy 0, 140, .inl t_text)), (t 2, .inl (cy 0, 7, .inl t_item)), (u1 0, .inr (3, [.ref (u1 1), .ref (u1 2), .int dishes_2, .int u1_way])), (u1 1, .inl (cy 0, 140, .inl values_1))]) [1, 0, 2, 3, 4] (by decide) rfl
      refine lv_iload_n hx hb dX5_readItem_103 rfl (lv_at hl 0 rfl) ?_
      exact W.zret hx hb hr (w_bool z_k0) (fun t ht _ => hend k0 t_item t_at t_errorAt values_1 dishes_2 H locs z_k0 h hP hD hS t ht) hS.2.2 dX5_readItem_104
  have j92 : ∀ (t_item : Nat → Int32) (t_at : Int32) (t_errorAt : Int32) (u1_values : Nat → Int32) (u1_dishes : Int32), p_X5_readItem_92 t_item t_at t_errorAt u1_values u1_dishes Q → ∀ (H : Heap) (locs : List Loc), va_P D vwCl [(t 0, .inr (5, [.ref (t 1), .ref (t 2), .int t_length, .int t_at, .int t_errorAt])), (t 1, .inl (cy 0, 140, .inl t_text)), (t 2, .inl (cy 0, 7, .inl t_item)), (u1 0, .inr (3, [.ref (u1 1), .ref (u1 2), .int u1_dishes, .int u1_way])), (u1 1, .inl (cy 0, 140, .inl u1_values))] H → va_D A [(t 0, .inr (5, [.ref (t 1), .ref (t 2), .int t_length, .int t_at, .int t_errorAt])), (t 1, .inl (cy 0, 140, .inl t_text)), (t 2, .inl (cy 0, 7, .inl t_item)), (u1 0, .inr (3, [.ref (u1 1), .ref (u1 2), .int u1_dishes, .int u1_way])), (u1 1, .inl (cy 0, 140, .inl u1_values))] → va_S A s.heap H locs → ∀ (ls : Array Slot), lv_has ls 3 [(0, .ref (t 0)), (1, .ref (u1 0))] → W p l e r_X5_readItem s m args below meth c H locs 0 0 (MQ below Qc args s 0 0 A) (F0 m 92 ls []) := by
    intro t_item t_at t_errorAt u1_values u1_dishes h H locs hP hD hS ls hl
    unfold p_X5_readItem_92 at h
    refine lv_iconst (v := 0) hx hb dX5_readItem_92 (by decide) ?_
    exact j93 t_item t_at t_errorAt u1_values u1_dishes 0 h (by decide) _ _ hP hD hS _ (lv_sub hl [0, 1] rfl)
  unfold p_X5_readItem at h
  suffices key : ∀ (H : Heap) (locs : List Loc), va_P D vwCl [(t 0, .inr (5, [.ref (t 1), .ref (t 2), .int t_length, .int t_at, .int t_errorAt])), (t 1, .inl (cy 0, 140, .inl t_text)), (t 2, .inl (cy 0, 7, .inl t_item)), (u1 0, .inr (3, [.ref (u1 1), .ref (u1 2), .int u1_dishes, .int u1_way])), (u1 1, .inl (cy 0, 140, .inl u1_values))] H → va_D A [(t 0, .inr (5, [.ref (t 1), .ref (t 2), .int t_length, .int t_at, .int t_errorAt])), (t 1, .inl (cy 0, 140, .inl t_text)), (t 2, .inl (cy 0, 7, .inl t_item)), (u1 0, .inr (3, [.ref (u1 1), .ref (u1 2), .int u1_dishes, .int u1_way])), (u1 1, .inl (cy 0, 140, .inl u1_values))] → va_S A s.heap H locs → W p l e r_X5_readItem s m args below meth c H locs 0 0 (MQ below Qc args s 0 0 A) (F0 m 0 ls []) from key s.heap [] hP hD hS
  clear hP hD hS
  intro H locs hP hD hS
  refine lv_aload_n hx hb dX5_readItem_0 rfl (lv_at hl 1 rfl) ?_
  have hPc := hP.sub (ws' := [(u1 0, .inr (3, [.ref (u1 1), .ref (u1 2), .int u1_dishes, .int u1_way]))]) [3] rfl
  refine w_callZ (va_runV (As := []) (rest := []) ⟨hx, hb, hml, hown, hts⟩ (c_X3_isFull l D cy H u1 u1_dishes u1_way _ h) (cwV 0 hts gX5_readItem_X3_isFull rfl rfl rfl (by decide +kernel) ⟨Nat.le_of_ble_eq_true rfl, Nat.le_of_ble_eq_true rfl⟩) (w_preVN hK hPc (ci := 3) rfl rfl) rfl rfl hl.1 rfl (lv_room (Nat.le_of_ble_eq_true rfl)) dX5_readItem_1 ⟨Nat.zero_le _, Nat.zero_le _⟩) hS (fun r3 locs z_r3 h hS => ?_)
  try dsimp only at h
  refine lv_if_eq (tgt := 16) hx hb dX5_readItem_4 rfl (fun hc => ?_) (fun hc => ?_)
  · replace h := h.1 hc
    refine lv_aload_n hx hb dX5_readItem_16 rfl (lv_at hl 0 rfl) ?_
    refine lv_iconst (v := 0) hx hb dX5_readItem_17 (by decide) ?_
    refine w_callM hP hD hS hA [0, 1, 2] [3, 4] (wc := [(t 0, .inr (5, [.ref (t 1), .ref (t 2), .int t_length, .int t_at, .int t_errorAt])), (t 1, .inl (cy 0, 140, .inl t_text)), (t 2, .inl (cy 0, 7, .inl t_item))]) (wr := [(u1 0, .inr (3, [.ref (u1 1), .ref (u1 2), .int u1_dishes, .int u1_way])), (u1 1, .inl (cy 0, 140, .inl u1_values))]) rfl rfl (by decide) (by decide) (va_runV (As := [.int 0]) (rest := []) ⟨hx, hb, hml, hown, hts⟩ (c_X5_readNumber l D cy H.size t t_text t_item t_length t_at t_errorAt 0 _ h) (cwV 1 hts gX5_readItem_X5_readNumber rfl rfl rfl (by decide +kernel) ⟨Nat.le_of_ble_eq_true rfl, Nat.le_of_ble_eq_true rfl⟩) (w_preVM hE hS hA hK hP hD [0, 1, 2] rfl rfl (by decide) (ci := 5) rfl rfl) rfl rfl hl.1 rfl (lv_room (Nat.le_of_ble_eq_true rfl)) dX5_readItem_18 ⟨Nat.zero_le _, Nat.zero_le _⟩) (fun r7 u H locs hw hP hD hS => ?_)
    obtain ⟨z_r7, item_4, at_5, errorAt_6, rfl, h⟩ := hw
    try dsimp only at h
    have hP := hP.sub (ws' := [(t 0, .inr (5, [.ref (t 1), .ref (t 2), .int t_length, .int at_5, .int errorAt_6])), (t 1, .inl (cy 0, 140, .inl t_text)), (t 2, .inl (cy 0, 7, .inl item_4)), (u1 0, .inr (3, [.ref (u1 1), .ref (u1 2), .int u1_dishes, .int u1_way])), (u1 1, .inl (cy 0, 140, .inl u1_values))]) [2, 3, 4, 0, 1] rfl
    have hD := hD.sub (ws' := [(t 0, .inr (5, [.ref (t 1), .ref (t 2), .int t_length, .int at_5, .int errorAt_6])), (t 1, .inl (cy 0, 140, .inl t_text)), (t 2, .inl (cy 0, 7, .inl item_4)), (u1 0, .inr (3, [.ref (u1 1), .ref (u1 2), .int u1_dishes, .int u1_way])), (u1 1, .inl (cy 0, 140, .inl u1_values))]) [2, 3, 4, 0, 1] (by decide) rfl
    refine lv_if_eq (tgt := 92) hx hb dX5_readItem_21 rfl (fun hc => ?_) (fun hc => ?_)
    · replace h := h.1 hc
      exact j92 item_4 at_5 errorAt_6 u1_values u1_dishes h _ _ hP hD hS _ (lv_sub hl [0, 1] rfl)
    · replace h := h.2 hc
      refine lv_aload_n hx hb dX5_readItem_24 rfl (lv_at hl 0 rfl) ?_
      refine lv_bipush (v := 58) hx hb dX5_readItem_25 (by decide) ?_
      refine w_callM hP hD hS hA [0, 1] [2, 3, 4] (wc := [(t 0, .inr (5, [.ref (t 1), .ref (t 2), .int t_length, .int at_5, .int errorAt_6])), (t 1, .inl (cy 0, 140, .inl t_text))]) (wr := [(t 2, .inl (cy 0, 7, .inl item_4)), (u1 0, .inr (3, [.ref (u1 1), .ref (u1 2), .int u1_dishes, .int u1_way])), (u1 1, .inl (cy 0, 140, .inl u1_values))]) rfl rfl (by decide) (by decide) (va_runV (As := [.int 58]) (rest := []) ⟨hx, hb, hml, hown, hts⟩ (c_X5_readSign l D cy H.size t t_text t_length at_5 errorAt_6 58 _ h) (cwV 1 hts gX5_readItem_X5_readSign rfl rfl rfl (by decide +kernel) ⟨Nat.le_of_ble_eq_true rfl, Nat.le_of_ble_eq_true rfl⟩) (w_preVO hK hP hD [0, 1] rfl rfl (by decide) (ci := 5) rfl rfl) rfl rfl hl.1 rfl (lv_room (Nat.le_of_ble_eq_true rfl)) dX5_readItem_27 ⟨Nat.zero_le _, Nat.zero_le _⟩) (fun r10 u H locs hw hP hD hS => ?_)
      obtain ⟨z_r10, at_8, errorAt_9, rfl, h⟩ := hw
      try dsimp only at h
      have hP := hP.sub (ws' := [(t 0, .inr (5, [.ref (t 1), .ref (t 2), .int t_length, .int at_8, .int errorAt_9])), (t 1, .inl (cy 0, 140, .inl t_text)), (t 2, .inl (cy 0, 7, .inl item_4)), (u1 0, .inr (3, [.ref (u1 1), .ref (u1 2), .int u1_dishes, .int u1_way])), (u1 1, .inl (cy 0, 140, .inl u1_values))]) [3, 4, 0, 1, 2] rfl
      have hD := hD.sub (ws' := [(t 0, .inr (5, [.ref (t 1), .ref (t 2), .int t_length, .int at_8, .int errorAt_9])), (t 1, .inl (cy 0, 140, .inl t_text)), (t 2, .inl (cy 0, 7, .inl item_4)), (u1 0, .inr (3, [.ref (u1 1), .ref (u1 2), .int u1_dishes, .int u1_way])), (u1 1, .inl (cy 0, 140, .inl u1_values))]) [3, 4, 0, 1, 2] (by decide) rfl
      refine lv_if_eq (tgt := 92) hx hb dX5_readItem_30 rfl (fun hc => ?_) (fun hc => ?_)
      · replace h := h.1 hc
        exact j92 item_4 at_8 errorAt_9 u1_values u1_dishes h _ _ hP hD hS _ (lv_sub hl [0, 1] rfl)
      · replace h := h.2 hc
        refine lv_aload_n hx hb dX5_readItem_33 rfl (lv_at hl 0 rfl) ?_
        refine lv_iconst (v := 1) hx hb dX5_readItem_34 (by decide) ?_
        refine w_callM hP hD hS hA [0, 1, 2] [3, 4] (wc := [(t 0, .inr (5, [.ref (t 1), .ref (t 2), .int t_length, .int at_8, .int errorAt_9])), (t 1, .inl (cy 0, 140, .inl t_text)), (t 2, .inl (cy 0, 7, .inl item_4))]) (wr := [(u1 0, .inr (3, [.ref (u1 1), .ref (u1 2), .int u1_dishes, .int u1_way])), (u1 1, .inl (cy 0, 140, .inl u1_values))]) rfl rfl (by decide) (by decide) (va_runV (As := [.int 1]) (rest := []) ⟨hx, hb, hml, hown, hts⟩ (c_X5_readNumber l D cy H.size t t_text item_4 t_length at_8 errorAt_9 1 _ h) (cwV 1 hts gX5_readItem_X5_readNumber rfl rfl rfl (by decide +kernel) ⟨Nat.le_of_ble_eq_true rfl, Nat.le_of_ble_eq_true rfl⟩) (w_preVM hE hS hA hK hP hD [0, 1, 2] rfl rfl (by decide) (ci := 5) rfl rfl) rfl rfl hl.1 rfl (lv_room (Nat.le_of_ble_eq_true rfl)) dX5_readItem_35 ⟨Nat.zero_le _, Nat.zero_le _⟩) (fun r14 u H locs hw hP hD hS => ?_)
        obtain ⟨z_r14, item_11, at_12, errorAt_13, rfl, h⟩ := hw
        try dsimp only at h
        have hP := hP.sub (ws' := [(t 0, .inr (5, [.ref (t 1), .ref (t 2), .int t_length, .int at_12, .int errorAt_13])), (t 1, .inl (cy 0, 140, .inl t_text)), (t 2, .inl (cy 0, 7, .inl item_11)), (u1 0, .inr (3, [.ref (u1 1), .ref (u1 2), .int u1_dishes, .int u1_way])), (u1 1, .inl (cy 0, 140, .inl u1_values))]) [2, 3, 4, 0, 1] rfl
        have hD := hD.sub (ws' := [(t 0, .inr (5, [.ref (t 1), .ref (t 2), .int t_length, .int at_12, .int errorAt_13])), (t 1, .inl (cy 0, 140, .inl t_text)), (t 2, .inl (cy 0, 7, .inl item_11)), (u1 0, .inr (3, [.ref (u1 1), .ref (u1 2), .int u1_dishes, .int u1_way])), (u1 1, .inl (cy 0, 140, .inl u1_values))]) [2, 3, 4, 0, 1] (by decide) rfl
        refine lv_if_eq (tgt := 92) hx hb dX5_readItem_38 rfl (fun hc => ?_) (fun hc => ?_)
        · replace h := h.1 hc
          exact j92 item_11 at_12 errorAt_13 u1_values u1_dishes h _ _ hP hD hS _ (lv_sub hl [0, 1] rfl)
        · replace h := h.2 hc
          refine lv_aload_n hx hb dX5_readItem_41 rfl (lv_at hl 0 rfl) ?_
          refine lv_bipush (v := 36) hx hb dX5_readItem_42 (by decide) ?_
          refine w_callM hP hD hS hA [0, 1] [2, 3, 4] (wc := [(t 0, .inr (5, [.ref (t 1), .ref (t 2), .int t_length, .int at_12, .int errorAt_13])), (t 1, .inl (cy 0, 140, .inl t_text))]) (wr := [(t 2, .inl (cy 0, 7, .inl item_11)), (u1 0, .inr (3, [.ref (u1 1), .ref (u1 2), .int u1_dishes, .int u1_way])), (u1 1, .inl (cy 0, 140, .inl u1_values))]) rfl rfl (by decide) (by decide) (va_runV (As := [.int 36]) (rest := []) ⟨hx, hb, hml, hown, hts⟩ (c_X5_readSign l D cy H.size t t_text t_length at_12 errorAt_13 36 _ h) (cwV 1 hts gX5_readItem_X5_readSign rfl rfl rfl (by decide +kernel) ⟨Nat.le_of_ble_eq_true rfl, Nat.le_of_ble_eq_true rfl⟩) (w_preVO hK hP hD [0, 1] rfl rfl (by decide) (ci := 5) rfl rfl) rfl rfl hl.1 rfl (lv_room (Nat.le_of_ble_eq_true rfl)) dX5_readItem_44 ⟨Nat.zero_le _, Nat.zero_le _⟩) (fun r17 u H locs hw hP hD hS => ?_)
          obtain ⟨z_r17, at_15, errorAt_16, rfl, h⟩ := hw
          try dsimp only at h
          have hP := hP.sub (ws' := [(t 0, .inr (5, [.ref (t 1), .ref (t 2), .int t_length, .int at_15, .int errorAt_16])), (t 1, .inl (cy 0, 140, .inl t_text)), (t 2, .inl (cy 0, 7, .inl item_11)), (u1 0, .inr (3, [.ref (u1 1), .ref (u1 2), .int u1_dishes, .int u1_way])), (u1 1, .inl (cy 0, 140, .inl u1_values))]) [3, 4, 0, 1, 2] rfl
          have hD := hD.sub (ws' := [(t 0, .inr (5, [.ref (t 1), .ref (t 2), .int t_length, .int at_15, .int errorAt_16])), (t 1, .inl (cy 0, 140, .inl t_text)), (t 2, .inl (cy 0, 7, .inl item_11)), (u1 0, .inr (3, [.ref (u1 1), .ref (u1 2), .int u1_dishes, .int u1_way])), (u1 1, .inl (cy 0, 140, .inl u1_values))]) [3, 4, 0, 1, 2] (by decide) rfl
          refine lv_if_eq (tgt := 92) hx hb dX5_readItem_47 rfl (fun hc => ?_) (fun hc => ?_)
          · replace h := h.1 hc
            exact j92 item_11 at_15 errorAt_16 u1_values u1_dishes h _ _ hP hD hS _ (lv_sub hl [0, 1] rfl)
          · replace h := h.2 hc
            refine lv_aload_n hx hb dX5_readItem_50 rfl (lv_at hl 0 rfl) ?_
            refine lv_iconst (v := 2) hx hb dX5_readItem_51 (by decide) ?_
            refine w_callM hP hD hS hA [0, 1, 2] [3, 4] (wc := [(t 0, .inr (5, [.ref (t 1), .ref (t 2), .int t_length, .int at_15, .int errorAt_16])), (t 1, .inl (cy 0, 140, .inl t_text)), (t 2, .inl (cy 0, 7, .inl item_11))]) (wr := [(u1 0, .inr (3, [.ref (u1 1), .ref (u1 2), .int u1_dishes, .int u1_way])), (u1 1, .inl (cy 0, 140, .inl u1_values))]) rfl rfl (by decide) (by decide) (va_runV (As := [.int 2]) (rest := []) ⟨hx, hb, hml, hown, hts⟩ (c_X5_readNumber l D cy H.size t t_text item_11 t_length at_15 errorAt_16 2 _ h) (cwV 1 hts gX5_readItem_X5_readNumber rfl rfl rfl (by decide +kernel) ⟨Nat.le_of_ble_eq_true rfl, Nat.le_of_ble_eq_true rfl⟩) (w_preVM hE hS hA hK hP hD [0, 1, 2] rfl rfl (by decide) (ci := 5) rfl rfl) rfl rfl hl.1 rfl (lv_room (Nat.le_of_ble_eq_true rfl)) dX5_readItem_52 ⟨Nat.zero_le _, Nat.zero_le _⟩) (fun r21 u H locs hw hP hD hS => ?_)
            obtain ⟨z_r21, item_18, at_19, errorAt_20, rfl, h⟩ := hw
            try dsimp only at h
            have hP := hP.sub (ws' := [(t 0, .inr (5, [.ref (t 1), .ref (t 2), .int t_length, .int at_19, .int errorAt_20])), (t 1, .inl (cy 0, 140, .inl t_text)), (t 2, .inl (cy 0, 7, .inl item_18)), (u1 0, .inr (3, [.ref (u1 1), .ref (u1 2), .int u1_dishes, .int u1_way])), (u1 1, .inl (cy 0, 140, .inl u1_values))]) [2, 3, 4, 0, 1] rfl
            have hD := hD.sub (ws' := [(t 0, .inr (5, [.ref (t 1), .ref (t 2), .int t_length, .int at_19, .int errorAt_20])), (t 1, .inl (cy 0, 140, .inl t_text)), (t 2, .inl (cy 0, 7, .inl item_18)), (u1 0, .inr (3, [.ref (u1 1), .ref (u1 2), .int u1_dishes, .int u1_way])), (u1 1, .inl (cy 0, 140, .inl u1_values))]) [2, 3, 4, 0, 1] (by decide) rfl
            refine lv_if_eq (tgt := 92) hx hb dX5_readItem_55 rfl (fun hc => ?_) (fun hc => ?_)
            · replace h := h.1 hc
              exact j92 item_18 at_19 errorAt_20 u1_values u1_dishes h _ _ hP hD hS _ (lv_sub hl [0, 1] rfl)
            · replace h := h.2 hc
              refine lv_aload_n hx hb dX5_readItem_58 rfl (lv_at hl 0 rfl) ?_
              refine w_callM hP hD hS hA [0, 1, 2] [3, 4] (wc := [(t 0, .inr (5, [.ref (t 1), .ref (t 2), .int t_length, .int at_19, .int errorAt_20])), (t 1, .inl (cy 0, 140, .inl t_text)), (t 2, .inl (cy 0, 7, .inl item_18))]) (wr := [(u1 0, .inr (3, [.ref (u1 1), .ref (u1 2), .int u1_dishes, .int u1_way])), (u1 1, .inl (cy 0, 140, .inl u1_values))]) rfl rfl (by decide) (by decide) (va_runV (As := []) (rest := []) ⟨hx, hb, hml, hown, hts⟩ (c_X5_readSeasons l D cy H.size t t_text item_18 t_length at_19 errorAt_20 _ h) (cwV 0 hts gX5_readItem_X5_readSeasons rfl rfl rfl (by decide +kernel) ⟨Nat.le_of_ble_eq_true rfl, Nat.le_of_ble_eq_true rfl⟩) (w_preVM hE hS hA hK hP hD [0, 1, 2] rfl rfl (by decide) (ci := 5) rfl rfl) rfl rfl hl.1 rfl (lv_room (Nat.le_of_ble_eq_true rfl)) dX5_readItem_59 ⟨Nat.zero_le _, Nat.zero_le _⟩) (fun r25 u H locs hw hP hD hS => ?_)
              obtain ⟨z_r25, item_22, at_23, errorAt_24, rfl, h⟩ := hw
              try dsimp only at h
              have hP := hP.sub (ws' := [(t 0, .inr (5, [.ref (t 1), .ref (t 2), .int t_length, .int at_23, .int errorAt_24])), (t 1, .inl (cy 0, 140, .inl t_text)), (t 2, .inl (cy 0, 7, .inl item_22)), (u1 0, .inr (3, [.ref (u1 1), .ref (u1 2), .int u1_dishes, .int u1_way])), (u1 1, .inl (cy 0, 140, .inl u1_values))]) [2, 3, 4, 0, 1] rfl
              have hD := hD.sub (ws' := [(t 0, .inr (5, [.ref (t 1), .ref (t 2), .int t_length, .int at_23, .int errorAt_24])), (t 1, .inl (cy 0, 140, .inl t_text)), (t 2, .inl (cy 0, 7, .inl item_22)), (u1 0, .inr (3, [.ref (u1 1), .ref (u1 2), .int u1_dishes, .int u1_way])), (u1 1, .inl (cy 0, 140, .inl u1_values))]) [2, 3, 4, 0, 1] (by decide) rfl
              refine lv_if_eq (tgt := 92) hx hb dX5_readItem_62 rfl (fun hc => ?_) (fun hc => ?_)
              · replace h := h.1 hc
                exact j92 item_22 at_23 errorAt_24 u1_values u1_dishes h _ _ hP hD hS _ (lv_sub hl [0, 1] rfl)
              · replace h := h.2 hc
                refine lv_aload_n hx hb dX5_readItem_65 rfl (lv_at hl 0 rfl) ?_
                refine w_callM hP hD hS hA [0, 1, 2] [3, 4] (wc := [(t 0, .inr (5, [.ref (t 1), .ref (t 2), .int t_length, .int at_23, .int errorAt_24])), (t 1, .inl (cy 0, 140, .inl t_text)), (t 2, .inl (cy 0, 7, .inl item_22))]) (wr := [(u1 0, .inr (3, [.ref (u1 1), .ref (u1 2), .int u1_dishes, .int u1_way])), (u1 1, .inl (cy 0, 140, .inl u1_values))]) rfl rfl (by decide) (by decide) (va_runV (As := []) (rest := []) ⟨hx, hb, hml, hown, hts⟩ (c_X5_readAllergens l D cy H.size t t_text item_22 t_length at_23 errorAt_24 _ h) (cwV 0 hts gX5_readItem_X5_readAllergens rfl rfl rfl (by decide +kernel) ⟨Nat.le_of_ble_eq_true rfl, Nat.le_of_ble_eq_true rfl⟩) (w_preVM hE hS hA hK hP hD [0, 1, 2] rfl rfl (by decide) (ci := 5) rfl rfl) rfl rfl hl.1 rfl (lv_room (Nat.le_of_ble_eq_true rfl)) dX5_readItem_66 ⟨Nat.zero_le _, Nat.zero_le _⟩) (fun r29 u H locs hw hP hD hS => ?_)
                obtain ⟨z_r29, item_26, at_27, errorAt_28, rfl, h⟩ := hw
                try dsimp only at h
                have hP := hP.sub (ws' := [(t 0, .inr (5, [.ref (t 1), .ref (t 2), .int t_length, .int at_27, .int errorAt_28])), (t 1, .inl (cy 0, 140, .inl t_text)), (t 2, .inl (cy 0, 7, .inl item_26)), (u1 0, .inr (3, [.ref (u1 1), .ref (u1 2), .int u1_dishes, .int u1_way])), (u1 1, .inl (cy 0, 140, .inl u1_values))]) [2, 3, 4, 0, 1] rfl
                have hD := hD.sub (ws' := [(t 0, .inr (5, [.ref (t 1), .ref (t 2), .int t_length, .int at_27, .int errorAt_28])), (t 1, .inl (cy 0, 140, .inl t_text)), (t 2, .inl (cy 0, 7, .inl item_26)), (u1 0, .inr (3, [.ref (u1 1), .ref (u1 2), .int u1_dishes, .int u1_way])), (u1 1, .inl (cy 0, 140, .inl u1_values))]) [2, 3, 4, 0, 1] (by decide) rfl
                refine lv_if_eq (tgt := 92) hx hb dX5_readItem_69 rfl (fun hc => ?_) (fun hc => ?_)
                · replace h := h.1 hc
                  exact j92 item_26 at_27 errorAt_28 u1_values u1_dishes h _ _ hP hD hS _ (lv_sub hl [0, 1] rfl)
                · replace h := h.2 hc
                  refine lv_aload_n hx hb dX5_readItem_72 rfl (lv_at hl 0 rfl) ?_
                  refine w_callM hP hD hS hA [0, 1, 2] [3, 4] (wc := [(t 0, .inr (5, [.ref (t 1), .ref (t 2), .int t_length, .int at_27, .int errorAt_28])), (t 1, .inl (cy 0, 140, .inl t_text)), (t 2, .inl (cy 0, 7, .inl item_26))]) (wr := [(u1 0, .inr (3, [.ref (u1 1), .ref (u1 2), .int u1_dishes, .int u1_way])), (u1 1, .inl (cy 0, 140, .inl u1_values))]) rfl rfl (by decide) (by decide) (va_runV (As := []) (rest := []) ⟨hx, hb, hml, hown, hts⟩ (c_X5_readWeight l D cy H.size t t_text item_26 t_length at_27 errorAt_28 _ h) (cwV 0 hts gX5_readItem_X5_readWeight rfl rfl rfl (by decide +kernel) ⟨Nat.le_of_ble_eq_true rfl, Nat.le_of_ble_eq_true rfl⟩) (w_preVM hE hS hA hK hP hD [0, 1, 2] rfl rfl (by decide) (ci := 5) rfl rfl) rfl rfl hl.1 rfl (lv_room (Nat.le_of_ble_eq_true rfl)) dX5_readItem_73 ⟨Nat.zero_le _, Nat.zero_le _⟩) (fun r33 u H locs hw hP hD hS => ?_)
                  obtain ⟨z_r33, item_30, at_31, errorAt_32, rfl, h⟩ := hw
                  try dsimp only at h
                  have hP := hP.sub (ws' := [(t 0, .inr (5, [.ref (t 1), .ref (t 2), .int t_length, .int at_31, .int errorAt_32])), (t 1, .inl (cy 0, 140, .inl t_text)), (t 2, .inl (cy 0, 7, .inl item_30)), (u1 0, .inr (3, [.ref (u1 1), .ref (u1 2), .int u1_dishes, .int u1_way])), (u1 1, .inl (cy 0, 140, .inl u1_values))]) [2, 3, 4, 0, 1] rfl
                  have hD := hD.sub (ws' := [(t 0, .inr (5, [.ref (t 1), .ref (t 2), .int t_length, .int at_31, .int errorAt_32])), (t 1, .inl (cy 0, 140, .inl t_text)), (t 2, .inl (cy 0, 7, .inl item_30)), (u1 0, .inr (3, [.ref (u1 1), .ref (u1 2), .int u1_dishes, .int u1_way])), (u1 1, .inl (cy 0, 140, .inl u1_values))]) [2, 3, 4, 0, 1] (by decide) rfl
                  refine lv_if_eq (tgt := 92) hx hb dX5_readItem_76 rfl (fun hc => ?_) (fun hc => ?_)
                  · replace h := h.1 hc
                    exact j92 item_30 at_31 errorAt_32 u1_values u1_dishes h _ _ hP hD hS _ (lv_sub hl [0, 1] rfl)
                  · replace h := h.2 hc
                    refine lv_aload_n hx hb dX5_readItem_79 rfl (lv_at hl 0 rfl) ?_
                    refine lv_bipush (v := 59) hx hb dX5_readItem_80 (by decide) ?_
                    refine w_callM hP hD hS hA [0, 1] [2, 3, 4] (wc := [(t 0, .inr (5, [.ref (t 1), .ref (t 2), .int t_length, .int at_31, .int errorAt_32])), (t 1, .inl (cy 0, 140, .inl t_text))]) (wr := [(t 2, .inl (cy 0, 7, .inl item_30)), (u1 0, .inr (3, [.ref (u1 1), .ref (u1 2), .int u1_dishes, .int u1_way])), (u1 1, .inl (cy 0, 140, .inl u1_values))]) rfl rfl (by decide) (by decide) (va_runV (As := [.int 59]) (rest := []) ⟨hx, hb, hml, hown, hts⟩ (c_X5_readSign l D cy H.size t t_text t_length at_31 errorAt_32 59 _ h) (cwV 1 hts gX5_readItem_X5_readSign rfl rfl rfl (by decide +kernel) ⟨Nat.le_of_ble_eq_true rfl, Nat.le_of_ble_eq_true rfl⟩) (w_preVO hK hP hD [0, 1] rfl rfl (by decide) (ci := 5) rfl rfl) rfl rfl hl.1 rfl (lv_room (Nat.le_of_ble_eq_true rfl)) dX5_readItem_82 ⟨Nat.zero_le _, Nat.zero_le _⟩) (fun r36 u H locs hw hP hD hS => ?_)
                    obtain ⟨z_r36, at_34, errorAt_35, rfl, h⟩ := hw
                    try dsimp only at h
                    have hP := hP.sub (ws' := [(t 0, .inr (5, [.ref (t 1), .ref (t 2), .int t_length, .int at_34, .int errorAt_35])), (t 1, .inl (cy 0, 140, .inl t_text)), (t 2, .inl (cy 0, 7, .inl item_30)), (u1 0, .inr (3, [.ref (u1 1), .ref (u1 2), .int u1_dishes, .int u1_way])), (u1 1, .inl (cy 0, 140, .inl u1_values))]) [3, 4, 0, 1, 2] rfl
                    have hD := hD.sub (ws' := [(t 0, .inr (5, [.ref (t 1), .ref (t 2), .int t_length, .int at_34, .int errorAt_35])), (t 1, .inl (cy 0, 140, .inl t_text)), (t 2, .inl (cy 0, 7, .inl item_30)), (u1 0, .inr (3, [.ref (u1 1), .ref (u1 2), .int u1_dishes, .int u1_way])), (u1 1, .inl (cy 0, 140, .inl u1_values))]) [3, 4, 0, 1, 2] (by decide) rfl
                    refine lv_if_eq (tgt := 92) hx hb dX5_readItem_85 rfl (fun hc => ?_) (fun hc => ?_)
                    · replace h := h.1 hc
                      exact j92 item_30 at_34 errorAt_35 u1_values u1_dishes h _ _ hP hD hS _ (lv_sub hl [0, 1] rfl)
                    · replace h := h.2 hc
                      refine lv_iconst (v := 1) hx hb dX5_readItem_88 (by decide) ?_
                      refine lv_goto (tgt := 93) hx hb dX5_readItem_89 rfl ?_
                      exact j93 item_30 at_34 errorAt_35 u1_values u1_dishes 1 h (by decide) _ _ hP hD hS _ (lv_sub hl [0, 1] rfl)
  · replace h := h.2 hc
    refine lv_aload_n hx hb dX5_readItem_7 rfl (lv_at hl 0 rfl) ?_
    refine lv_aload_n hx hb dX5_readItem_8 rfl (lv_at hl 0 rfl) ?_
    refine va_get (D := D) (ci := 5) (v := .int t_at) (C := RX5) (T := TX5) (N := 5) hx hb hts i_X5_readItem_X5 hown hK hP 0 rfl rfl 3 (by decide) (hts (.fieldLink RX5 22 "FoldedMenu$Reader" "at" "I") (by decide +kernel)) (fun _ h9 => h9) rfl dX5_readItem_9 ?_
    refine w_callM hP hD hS hA [0] [1, 2, 3, 4] (wc := [(t 0, .inr (5, [.ref (t 1), .ref (t 2), .int t_length, .int t_at, .int t_errorAt]))]) (wr := [(t 1, .inl (cy 0, 140, .inl t_text)), (t 2, .inl (cy 0, 7, .inl t_item)), (u1 0, .inr (3, [.ref (u1 1), .ref (u1 2), .int u1_dishes, .int u1_way])), (u1 1, .inl (cy 0, 140, .inl u1_values))]) rfl rfl (by decide) (by decide) (va_runV (As := [.int t_at]) (rest := []) ⟨hx, hb, hml, hown, hts⟩ (c_X5_failAt l D cy H.size t t_length t_at t_errorAt t_at _ h) (cwV 1 hts gX5_readItem_X5_failAt rfl rfl rfl (by decide +kernel) ⟨Nat.le_of_ble_eq_true rfl, Nat.le_of_ble_eq_true rfl⟩) (w_preVO hK hP hD [0] rfl rfl (by decide) (ci := 5) rfl rfl) rfl rfl hl.1 rfl (lv_room (Nat.le_of_ble_eq_true rfl)) dX5_readItem_12 ⟨Nat.zero_le _, Nat.zero_le _⟩) (fun r38 u H locs hw hP hD hS => ?_)
    obtain ⟨z_r38, errorAt_37, rfl, h⟩ := hw
    try dsimp only at h
    have hP := hP.sub (ws' := [(t 0, .inr (5, [.ref (t 1), .ref (t 2), .int t_length, .int t_at, .int errorAt_37])), (t 1, .inl (cy 0, 140, .inl t_text)), (t 2, .inl (cy 0, 7, .inl t_item)), (u1 0, .inr (3, [.ref (u1 1), .ref (u1 2), .int u1_dishes, .int u1_way])), (u1 1, .inl (cy 0, 140, .inl u1_values))]) [4, 0, 1, 2, 3] rfl
    have hD := hD.sub (ws' := [(t 0, .inr (5, [.ref (t 1), .ref (t 2), .int t_length, .int t_at, .int errorAt_37])), (t 1, .inl (cy 0, 140, .inl t_text)), (t 2, .inl (cy 0, 7, .inl t_item)), (u1 0, .inr (3, [.ref (u1 1), .ref (u1 2), .int u1_dishes, .int u1_way])), (u1 1, .inl (cy 0, 140, .inl u1_values))]) [4, 0, 1, 2, 3] (by decide) rfl
    exact W.zret hx hb hr (w_bool z_r38) (fun t ht _ => hend r38 t_item t_at errorAt_37 u1_values u1_dishes H locs z_r38 h hP hD hS t ht) hS.2.2 dX5_readItem_15

theorem i_X5_readInto_X5 : ∀ w ∈ u_ws RX5 TX5 5, w ∈ wsX5_readInto := by decide +kernel
abbrev r_X5_readInto : Room := { frames := 7, cells := 0, slots := 0, locals := 157 }
set_option maxHeartbeats 4000000 in
set_option maxRecDepth 100000 in
theorem c_X5_readInto (l : Launch) (D : va_G) (cy : Nat → ClassId) (sz : Nat) (t : Nat → Nat) (u1 : Nat → Nat) (t_text : Nat → Int32) (t_item : Nat → Int32) (t_length : Int32) (t_at : Int32) (t_errorAt : Int32) (u1_values : Nat → Int32) (u1_dishes : Int32) (u1_way : Int32) (Q : Int32 → (Nat → Int32) → Int32 → Int32 → (Nat → Int32) → Int32 → Prop) (hq : p_X5_readInto t_text t_item t_length t_errorAt u1_values u1_dishes Q) : Met l yX5_readInto wsX5_readInto r_X5_readInto (wPM [.ref (t 0), .ref (u1 0)] sz D cy [(t 0, .inr (5, [.ref (t 1), .ref (t 2), .int t_length, .int t_at, .int t_errorAt])), (t 1, .inl (cy 0, 140, .inl t_text)), (t 2, .inl (cy 0, 7, .inl t_item)), (u1 0, .inr (3, [.ref (u1 1), .ref (u1 2), .int u1_dishes, .int u1_way])), (u1 1, .inl (cy 0, 140, .inl u1_values))]) (va_Qi (fun r u => ∃ (t_item' : Nat → Int32) (t_at' : Int32) (t_errorAt' : Int32) (u1_values' : Nat → Int32) (u1_dishes' : Int32), u = [(t 0, .inr (5, [.ref (t 1), .ref (t 2), .int t_length, .int t_at', .int t_errorAt'])), (t 1, .inl (cy 0, 140, .inl t_text)), (t 2, .inl (cy 0, 7, .inl t_item')), (u1 0, .inr (3, [.ref (u1 1), .ref (u1 2), .int u1_dishes', .int u1_way])), (u1 1, .inl (cy 0, 140, .inl u1_values'))] ∧ Q r t_item' t_at' t_errorAt' u1_values' u1_dishes') (fun u T9 => va_P D vwCl u T9.heap ∧ va_D (va_A [(t 0, .inr (5, [.ref (t 1), .ref (t 2), .int t_length, .int t_at, .int t_errorAt])), (t 1, .inl (cy 0, 140, .inl t_text)), (t 2, .inl (cy 0, 7, .inl t_item)), (u1 0, .inr (3, [.ref (u1 1), .ref (u1 2), .int u1_dishes, .int u1_way])), (u1 1, .inl (cy 0, 140, .inl u1_values))] sz) u) (va_A [(t 0, .inr (5, [.ref (t 1), .ref (t 2), .int t_length, .int t_at, .int t_errorAt])), (t 1, .inl (cy 0, 140, .inl t_text)), (t 2, .inl (cy 0, 7, .inl t_item)), (u1 0, .inr (3, [.ref (u1 1), .ref (u1 2), .int u1_dishes, .int u1_way])), (u1 1, .inl (cy 0, 140, .inl u1_values))] sz)) 0 0 (va_A [(t 0, .inr (5, [.ref (t 1), .ref (t 2), .int t_length, .int t_at, .int t_errorAt])), (t 1, .inl (cy 0, 140, .inl t_text)), (t 2, .inl (cy 0, 7, .inl t_item)), (u1 0, .inr (3, [.ref (u1 1), .ref (u1 2), .int u1_dishes, .int u1_way])), (u1 1, .inl (cy 0, 140, .inl u1_values))] sz) := by
  refine Met.ofW (cc := cX5_readInto) (maxL := 3) (ret := (some .int)) (by decide) rfl ?_
  intro p e s m args below meth c s₁ B hml hv
  obtain ⟨hargs, hsz, hE, hP, hK, hD0⟩ := hv
  have hx := B.exec
  have hb := B.bytes
  have hr := B.returns
  have hts := atoms_spec (ws := wsX5_readInto) B.pre
  have hown : s.vm.findClass RX5 = some m.cls := findClass_of_methodNamed B.named
  have hlocks := B.notSynchronized
  clear B
  subst hsz
  have hD := hD0.self (sz := s.heap.size)
  generalize hAe : va_A [(t 0, .inr (5, [.ref (t 1), .ref (t 2), .int t_length, .int t_at, .int t_errorAt])), (t 1, .inl (cy 0, 140, .inl t_text)), (t 2, .inl (cy 0, 7, .inl t_item)), (u1 0, .inr (3, [.ref (u1 1), .ref (u1 2), .int u1_dishes, .int u1_way])), (u1 1, .inl (cy 0, 140, .inl u1_values))] s.heap.size = A at hD ⊢ hE
  have hA : ∀ q : Nat, s.heap.size ≤ q → A q := fun q h => by rw [← hAe]; exact Or.inr h
  clear hAe hD0
  have hend : ∀ (r : Int32) (t_item : Nat → Int32) (t_at : Int32) (t_errorAt : Int32) (u1_values : Nat → Int32) (u1_dishes : Int32) (H : Heap) (locs : List Loc), Q r t_item t_at t_errorAt u1_values u1_dishes → va_P D vwCl [(t 0, .inr (5, [.ref (t 1), .ref (t 2), .int t_length, .int t_at, .int t_errorAt])), (t 1, .inl (cy 0, 140, .inl t_text)), (t 2, .inl (cy 0, 7, .inl t_item)), (u1 0, .inr (3, [.ref (u1 1), .ref (u1 2), .int u1_dishes, .int u1_way])), (u1 1, .inl (cy 0, 140, .inl u1_values))] H → va_D A [(t 0, .inr (5, [.ref (t 1), .ref (t 2), .int t_length, .int t_at, .int t_errorAt])), (t 1, .inl (cy 0, 140, .inl t_text)), (t 2, .inl (cy 0, 7, .inl t_item)), (u1 0, .inr (3, [.ref (u1 1), .ref (u1 2), .int u1_dishes, .int u1_way])), (u1 1, .inl (cy 0, 140, .inl u1_values))] → va_S A s.heap H locs → ∀ T9 : State, T9.heap = H → (va_Qi (fun r u => ∃ (t_item' : Nat → Int32) (t_at' : Int32) (t_errorAt' : Int32) (u1_values' : Nat → Int32) (u1_dishes' : Int32), u = [(t 0, .inr (5, [.ref (t 1), .ref (t 2), .int t_length, .int t_at', .int t_errorAt'])), (t 1, .inl (cy 0, 140, .inl t_text)), (t 2, .inl (cy 0, 7, .inl t_item')), (u1 0, .inr (3, [.ref (u1 1), .ref (u1 2), .int u1_dishes', .int u1_way])), (u1 1, .inl (cy 0, 140, .inl u1_values'))] ∧ Q r t_item' t_at' t_errorAt' u1_values' u1_dishes') (fun u T9 => va_P D vwCl u T9.heap ∧ va_D A u) A) args s (.returned (some (.int r))) T9 := fun r t_item t_at t_errorAt u1_values u1_dishes H locs hq hP hD hS T9 ht => ⟨⟨r, _, rfl, ⟨t_item, t_at, t_errorAt, u1_values, u1_dishes, rfl, hq⟩, by rw [ht]; exact hP, hD⟩, hS.F ht⟩
  generalize (va_Qi (fun r u => ∃ (t_item' : Nat → Int32) (t_at' : Int32) (t_errorAt' : Int32) (u1_values' : Nat → Int32) (u1_dishes' : Int32), u = [(t 0, .inr (5, [.ref (t 1), .ref (t 2), .int t_length, .int t_at', .int t_errorAt'])), (t 1, .inl (cy 0, 140, .inl t_text)), (t 2, .inl (cy 0, 7, .inl t_item')), (u1 0, .inr (3, [.ref (u1 1), .ref (u1 2), .int u1_dishes', .int u1_way])), (u1 1, .inl (cy 0, 140, .inl u1_values'))] ∧ Q r t_item' t_at' t_errorAt' u1_values' u1_dishes') (fun u T9 => va_P D vwCl u T9.heap ∧ va_D A u) A) = Qc at hend ⊢
  have hS : va_S A s.heap s.heap [] := va_S.rf
  show W p l e r_X5_readInto s m args below meth c s.heap [] 0 0 (MQ below Qc args s 0 0 A) (entryFrame m args 3)
  rw [show entryFrame m args 3 = entryFrame m ([.ref (t 0), .ref (u1 0)] : List Value).toArray 3 from by rw [hargs]]
  have hl := lv_entry ([.ref (t 0), .ref (u1 0)]) (n := 3) (Nat.le_of_ble_eq_true rfl)
  rw [lg_entry_eq]
  generalize (lg_sl ([.ref (t 0), .ref (u1 0)]) ++ List.replicate (3 - (lg_sl ([.ref (t 0), .ref (u1 0)])).length) Slot.unset).toArray = ls at hl ⊢
  have hl : lv_has ls 3 [(0, .ref (t 0)), (1, .ref (u1 0))] := hl
  have h := hq
  clear hargs hq
  have j7 : ∀ (t_item : Nat → Int32) (t_at : Int32) (t_errorAt : Int32) (u1_values : Nat → Int32) (u1_dishes : Int32) (x2 : Int32), p_X5_readInto_7 t_text t_length Q t_item t_at t_errorAt u1_values u1_dishes x2 → ∀ (H : Heap) (locs : List Loc), va_P D vwCl [(t 0, .inr (5, [.ref (t 1), .ref (t 2), .int t_length, .int t_at, .int t_errorAt])), (t 1, .inl (cy 0, 140, .inl t_text)), (t 2, .inl (cy 0, 7, .inl t_item)), (u1 0, .inr (3, [.ref (u1 1), .ref (u1 2), .int u1_dishes, .int u1_way])), (u1 1, .inl (cy 0, 140, .inl u1_values))] H → va_D A [(t 0, .inr (5, [.ref (t 1), .ref (t 2), .int t_length, .int t_at, .int t_errorAt])), (t 1, .inl (cy 0, 140, .inl t_text)), (t 2, .inl (cy 0, 7, .inl t_item)), (u1 0, .inr (3, [.ref (u1 1), .ref (u1 2), .int u1_dishes, .int u1_way])), (u1 1, .inl (cy 0, 140, .inl u1_values))] → va_S A s.heap H locs → ∀ (ls : Array Slot), lv_has ls 3 [(0, .ref (t 0)), (1, .ref (u1 0)), (2, .int x2)] → W p l e r_X5_readInto s m args below meth c H locs 0 0 (MQ below Qc args s 0 0 A) (F0 m 7 ls []) := by
    intro t_item t_at t_errorAt u1_values u1_dishes x2 h
    obtain ⟨I7, μ7, h0, hs7⟩ := h
    have key : ∀ (n : Nat) (t_item : Nat → Int32) (t_at : Int32) (t_errorAt : Int32) (u1_values : Nat → Int32) (u1_dishes : Int32) (x2 : Int32), I7 t_item t_at t_errorAt u1_values u1_dishes x2 → μ7 t_item t_at t_errorAt u1_values u1_dishes x2 < n → ∀ (H : Heap) (locs : List Loc), va_P D vwCl [(t 0, .inr (5, [.ref (t 1), .ref (t 2), .int t_length, .int t_at, .int t_errorAt])), (t 1, .inl (cy 0, 140, .inl t_text)), (t 2, .inl (cy 0, 7, .inl t_item)), (u1 0, .inr (3, [.ref (u1 1), .ref (u1 2), .int u1_dishes, .int u1_way])), (u1 1, .inl (cy 0, 140, .inl u1_values))] H → va_D A [(t 0, .inr (5, [.ref (t 1), .ref (t 2), .int t_length, .int t_at, .int t_errorAt])), (t 1, .inl (cy 0, 140, .inl t_text)), (t 2, .inl (cy 0, 7, .inl t_item)), (u1 0, .inr (3, [.ref (u1 1), .ref (u1 2), .int u1_dishes, .int u1_way])), (u1 1, .inl (cy 0, 140, .inl u1_values))] → va_S A s.heap H locs → ∀ (ls : Array Slot), lv_has ls 3 [(0, .ref (t 0)), (1, .ref (u1 0)), (2, .int x2)] → W p l e r_X5_readInto s m args below meth c H locs 0 0 (MQ below Qc args s 0 0 A) (F0 m 7 ls []) := by
      intro n
      induction n with
      | zero => intro t_item t_at t_errorAt u1_values u1_dishes x2 _ h; exact absurd h (Nat.not_lt_zero _)
      | succ n ih7 =>
        intro t_item t_at t_errorAt u1_values u1_dishes x2 hI hn H locs hP hD hS ls hl
        have h := hs7 t_item t_at t_errorAt u1_values u1_dishes x2 hI
        have hk7 : ∀ (t_item1 : Nat → Int32) (t_at1 : Int32) (t_errorAt1 : Int32) (u1_values1 : Nat → Int32) (u1_dishes1 : Int32) (x21 : Int32), (fun (t_item' : Nat → Int32) (t_at' : Int32) (t_errorAt' : Int32) (u1_values' : Nat → Int32) (u1_dishes' : Int32) (x2' : Int32) => I7 t_item' t_at' t_errorAt' u1_values' u1_dishes' x2' ∧ μ7 t_item' t_at' t_errorAt' u1_values' u1_dishes' x2' < μ7 t_item t_at t_errorAt u1_values u1_dishes x2) t_item1 t_at1 t_errorAt1 u1_values1 u1_dishes1 x21 → ∀ (H : Heap) (locs : List Loc), va_P D vwCl [(t 0, .inr (5, [.ref (t 1), .ref (t 2), .int t_length, .int t_at1, .int t_errorAt1])), (t 1, .inl (cy 0, 140, .inl t_text)), (t 2, .inl (cy 0, 7, .inl t_item1)), (u1 0, .inr (3, [.ref (u1 1), .ref (u1 2), .int u1_dishes1, .int u1_way])), (u1 1, .inl (cy 0, 140, .inl u1_values1))] H → va_D A [(t 0, .inr (5, [.ref (t 1), .ref (t 2), .int t_length, .int t_at1, .int t_errorAt1])), (t 1, .inl (cy 0, 140, .inl t_text)), (t 2, .inl (cy 0, 7, .inl t_item1)), (u1 0, .inr (3, [.ref (u1 1), .ref (u1 2), .int u1_dishes1, .int u1_way])), (u1 1, .inl (cy 0, 140, .inl u1_values1))] → va_S A s.heap H locs → ∀ (ls : Array Slot), lv_has ls 3 [(0, .ref (t 0)), (1, .ref (u1 0)), (2, .int x21)] → W p l e r_X5_readInto s m args below meth c H locs 0 0 (MQ below Qc args s 0 0 A) (F0 m 7 ls []) := by
          intro t_item1 t_at1 t_errorAt1 u1_values1 u1_dishes1 x21 hz
          exact ih7 t_item1 t_at1 t_errorAt1 u1_values1 u1_dishes1 x21 hz.1 (Nat.lt_of_lt_of_le hz.2 (Nat.le_of_lt_succ hn))
        generalize hKe : (fun (t_item' : Nat → Int32) (t_at' : Int32) (t_errorAt' : Int32) (u1_values' : Nat → Int32) (u1_dishes' : Int32) (x2' : Int32) => I7 t_item' t_at' t_errorAt' u1_values' u1_dishes' x2' ∧ μ7 t_item' t_at' t_errorAt' u1_values' u1_dishes' x2' < μ7 t_item t_at t_errorAt u1_values u1_dishes x2) = K7 at h hk7
        clear hKe ih7 hn hI
        unfold q_X5_readInto_7 at h
        refine lv_iload_n hx hb dX5_readInto_7 rfl (lv_at hl 2 rfl) ?_
        refine lv_bipush (v := 20) hx hb dX5_readInto_8 (by decide) ?_
        refine lv_icmp_gt (tgt := 45) hx hb dX5_readInto_10 rfl (fun hc => ?_) (fun hc => ?_)
        · replace h := h.1 hc
          refine lv_sipush (v := (-1000)) hx hb dX5_readInto_45 (by decide) ?_
          refine lv_aload_n hx hb dX5_readInto_48 rfl (lv_at hl 0 rfl) ?_
          refine va_get (D := D) (ci := 5) (v := .int t_errorAt) (C := RX5) (T := TX5) (N := 5) hx hb hts i_X5_readInto_X5 hown hK hP 0 rfl rfl 4 (by decide) (hts (.fieldLink RX5 33 "FoldedMenu$Reader" "errorAt" "I") (by decide +kernel)) (fun _ h9 => h9) rfl dX5_readInto_49 ?_
          refine lv_isub hx hb dX5_readInto_52 ?_
          exact W.iret hx hb hr (fun t ht _ => hend (((-1000) - t_errorAt)) t_item t_at t_errorAt u1_values u1_dishes H locs h hP hD hS t ht) hS.2.2 dX5_readInto_53
        · replace h := h.2 hc
          refine lv_aload_n hx hb dX5_readInto_13 rfl (lv_at hl 0 rfl) ?_
          refine w_callM hP hD hS hA [0, 1] [2, 3, 4] (wc := [(t 0, .inr (5, [.ref (t 1), .ref (t 2), .int t_length, .int t_at, .int t_errorAt])), (t 1, .inl (cy 0, 140, .inl t_text))]) (wr := [(t 2, .inl (cy 0, 7, .inl t_item)), (u1 0, .inr (3, [.ref (u1 1), .ref (u1 2), .int u1_dishes, .int u1_way])), (u1 1, .inl (cy 0, 140, .inl u1_values))]) rfl rfl (by decide) (by decide) (va_runV (As := []) (rest := []) ⟨hx, hb, hml, hown, hts⟩ (c_X5_nextSign l D cy H.size t t_text t_length t_at t_errorAt _ h) (cwV 0 hts gX5_readInto_X5_nextSign rfl rfl rfl (by decide +kernel) ⟨Nat.le_of_ble_eq_true rfl, Nat.le_of_ble_eq_true rfl⟩) (w_preVO hK hP hD [0, 1] rfl rfl (by decide) (ci := 5) rfl rfl) rfl rfl hl.1 rfl (lv_room (Nat.le_of_ble_eq_true rfl)) dX5_readInto_14 ⟨Nat.zero_le _, Nat.zero_le _⟩) (fun r2 u H locs hw hP hD hS => ?_)
          obtain ⟨at_1, rfl, h⟩ := hw
          try dsimp only at h
          have hP := hP.sub (ws' := [(t 0, .inr (5, [.ref (t 1), .ref (t 2), .int t_length, .int at_1, .int t_errorAt])), (t 1, .inl (cy 0, 140, .inl t_text)), (t 2, .inl (cy 0, 7, .inl t_item)), (u1 0, .inr (3, [.ref (u1 1), .ref (u1 2), .int u1_dishes, .int u1_way])), (u1 1, .inl (cy 0, 140, .inl u1_values))]) [3, 4, 0, 1, 2] rfl
          have hD := hD.sub (ws' := [(t 0, .inr (5, [.ref (t 1), .ref (t 2), .int t_length, .int at_1, .int t_errorAt])), (t 1, .inl (cy 0, 140, .inl t_text)), (t 2, .inl (cy 0, 7, .inl t_item)), (u1 0, .inr (3, [.ref (u1 1), .ref (u1 2), .int u1_dishes, .int u1_way])), (u1 1, .inl (cy 0, 140, .inl u1_values))]) [3, 4, 0, 1, 2] (by decide) rfl
          refine lv_if_ne (tgt := 22) hx hb dX5_readInto_17 rfl (fun hc => ?_) (fun hc => ?_)
          · replace h := h.1 hc
            refine lv_aload_n hx hb dX5_readInto_22 rfl (lv_at hl 0 rfl) ?_
            refine lv_aload_n hx hb dX5_readInto_23 rfl (lv_at hl 1 rfl) ?_
            refine w_callM hP hD hS hA [0, 1, 2, 3, 4] [] (wc := [(t 0, .inr (5, [.ref (t 1), .ref (t 2), .int t_length, .int at_1, .int t_errorAt])), (t 1, .inl (cy 0, 140, .inl t_text)), (t 2, .inl (cy 0, 7, .inl t_item)), (u1 0, .inr (3, [.ref (u1 1), .ref (u1 2), .int u1_dishes, .int u1_way])), (u1 1, .inl (cy 0, 140, .inl u1_values))]) (wr := []) rfl rfl (by decide) (by decide) (va_runV (As := [.ref (u1 0)]) (rest := []) ⟨hx, hb, hml, hown, hts⟩ (c_X5_readItem l D cy H.size t u1 t_text t_item t_length at_1 t_errorAt u1_values u1_dishes u1_way _ h) (cwV 1 hts gX5_readInto_X5_readItem rfl rfl rfl (by decide +kernel) ⟨Nat.le_of_ble_eq_true rfl, Nat.le_of_ble_eq_true rfl⟩) (w_preVM hE hS hA hK hP hD [0, 1, 2, 3, 4] rfl rfl (by decide) (ci := 5) rfl rfl) rfl rfl hl.1 rfl (lv_room (Nat.le_of_ble_eq_true rfl)) dX5_readInto_24 ⟨Nat.zero_le _, Nat.zero_le _⟩) (fun r8 u H locs hw hP hD hS => ?_)
            obtain ⟨z_r8, item_3, at_4, errorAt_5, values_6, dishes_7, rfl, h⟩ := hw
            try dsimp only at h
            have hP := hP.sub (ws' := [(t 0, .inr (5, [.ref (t 1), .ref (t 2), .int t_length, .int at_4, .int errorAt_5])), (t 1, .inl (cy 0, 140, .inl t_text)), (t 2, .inl (cy 0, 7, .inl item_3)), (u1 0, .inr (3, [.ref (u1 1), .ref (u1 2), .int dishes_7, .int u1_way])), (u1 1, .inl (cy 0, 140, .inl values_6))]) [0, 1, 2, 3, 4] rfl
            have hD := hD.sub (ws' := [(t 0, .inr (5, [.ref (t 1), .ref (t 2), .int t_length, .int at_4, .int errorAt_5])), (t 1, .inl (cy 0, 140, .inl t_text)), (t 2, .inl (cy 0, 7, .inl item_3)), (u1 0, .inr (3, [.ref (u1 1), .ref (u1 2), .int dishes_7, .int u1_way])), (u1 1, .inl (cy 0, 140, .inl values_6))]) [0, 1, 2, 3, 4] (by decide) rfl
            refine lv_if_ne (tgt := 39) hx hb dX5_readInto_27 rfl (fun hc => ?_) (fun hc => ?_)
            · replace h := h.1 hc
              refine lv_iinc (k := 2) (v := (x2 + 1)) (lv' := [(2, .int (x2 + 1)), (0, .ref (t 0)), (1, .ref (u1 0))]) hx hb dX5_readInto_39 hl rfl rfl (by decide) rfl (fun ls hl => ?_)
              refine lv_goto (tgt := 7) hx hb dX5_readInto_42 rfl ?_
              exact hk7 item_3 at_4 errorAt_5 values_6 dishes_7 ((x2 + 1)) h _ _ hP hD hS _ (lv_sub hl [1, 2, 0] rfl)
            · replace h := h.2 hc
              refine lv_sipush (v := (-1000)) hx hb dX5_readInto_30 (by decide) ?_
              refine lv_aload_n hx hb dX5_readInto_33 rfl (lv_at hl 0 rfl) ?_
              refine va_get (D := D) (ci := 5) (v := .int errorAt_5) (C := RX5) (T := TX5) (N := 5) hx hb hts i_X5_readInto_X5 hown hK hP 0 rfl rfl 4 (by decide) (hts (.fieldLink RX5 33 "FoldedMenu$Reader" "errorAt" "I") (by decide +kernel)) (fun _ h9 => h9) rfl dX5_readInto_34 ?_
              refine lv_isub hx hb dX5_readInto_37 ?_
              exact W.iret hx hb hr (fun t ht _ => hend (((-1000) - errorAt_5)) item_3 at_4 errorAt_5 values_6 dishes_7 H locs h hP hD hS t ht) hS.2.2 dX5_readInto_38
          · replace h := h.2 hc
            refine lv_iload_n hx hb dX5_readInto_20 rfl (lv_at hl 2 rfl) ?_
            exact W.iret hx hb hr (fun t ht _ => hend x2 t_item at_1 t_errorAt u1_values u1_dishes H locs h hP hD hS t ht) hS.2.2 dX5_readInto_21
    exact key _ t_item t_at t_errorAt u1_values u1_dishes x2 h0 (Nat.lt_succ_self _)
  unfold p_X5_readInto at h
  suffices key : ∀ (H : Heap) (locs : List Loc), va_P D vwCl [(t 0, .inr (5, [.ref (t 1), .ref (t 2), .int t_length, .int t_at, .int t_errorAt])), (t 1, .inl (cy 0, 140, .inl t_text)), (t 2, .inl (cy 0, 7, .inl t_item)), (u1 0, .inr (3, [.ref (u1 1), .ref (u1 2), .int u1_dishes, .int u1_way])), (u1 1, .inl (cy 0, 140, .inl u1_values))] H → va_D A [(t 0, .inr (5, [.ref (t 1), .ref (t 2), .int t_length, .int t_at, .int t_errorAt])), (t 1, .inl (cy 0, 140, .inl t_text)), (t 2, .inl (cy 0, 7, .inl t_item)), (u1 0, .inr (3, [.ref (u1 1), .ref (u1 2), .int u1_dishes, .int u1_way])), (u1 1, .inl (cy 0, 140, .inl u1_values))] → va_S A s.heap H locs → W p l e r_X5_readInto s m args below meth c H locs 0 0 (MQ below Qc args s 0 0 A) (F0 m 0 ls []) from key s.heap [] hP hD hS
  clear hP hD hS
  intro H locs hP hD hS
  refine lv_aload_n hx hb dX5_readInto_0 rfl (lv_at hl 0 rfl) ?_
  refine lv_iconst (v := 0) hx hb dX5_readInto_1 (by decide) ?_
  refine va_put (D := D) (ci := 5) (v := .int 0) (ty := .int) (C := RX5) (T := TX5) (N := 5) hx hb hts i_X5_readInto_X5 tyX5 tyX5_ok nmX5 hown hK hP hD hS 0 rfl rfl 3 (by decide) (hts (.fieldLink RX5 22 "FoldedMenu$Reader" "at" "I") (by decide +kernel)) (fun _ h9 => h9) rfl (by decide +kernel) rfl rfl (Nat.le_of_ble_eq_true rfl) dX5_readInto_2 (fun H locs hP hD hS => ?_)
  have hP : va_P D vwCl [(t 0, .inr (5, [.ref (t 1), .ref (t 2), .int t_length, .int 0, .int t_errorAt])), (t 1, .inl (cy 0, 140, .inl t_text)), (t 2, .inl (cy 0, 7, .inl t_item)), (u1 0, .inr (3, [.ref (u1 1), .ref (u1 2), .int u1_dishes, .int u1_way])), (u1 1, .inl (cy 0, 140, .inl u1_values))] H := hP
  have hD : va_D A [(t 0, .inr (5, [.ref (t 1), .ref (t 2), .int t_length, .int 0, .int t_errorAt])), (t 1, .inl (cy 0, 140, .inl t_text)), (t 2, .inl (cy 0, 7, .inl t_item)), (u1 0, .inr (3, [.ref (u1 1), .ref (u1 2), .int u1_dishes, .int u1_way])), (u1 1, .inl (cy 0, 140, .inl u1_values))] := hD
  refine lv_iconst (v := 0) hx hb dX5_readInto_5 (by decide) ?_
  refine lv_istore_n (lv' := [(2, .int 0), (0, .ref (t 0)), (1, .ref (u1 0))]) hx hb dX5_readInto_6 rfl hl (by decide) rfl (fun ls hl => ?_)
  exact j7 t_item 0 t_errorAt u1_values u1_dishes 0 h _ _ hP hD hS _ (lv_sub hl [1, 2, 0] rfl)

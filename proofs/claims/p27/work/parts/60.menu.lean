abbrev r_J6_bitCount_0f7a4 : Room := { frames := 0, cells := 0, slots := 0, locals := 0 }
set_option maxHeartbeats 4000000 in
set_option maxRecDepth 100000 in
theorem c_J6_bitCount_0f7a4 (l : Launch) (D : va_G) (cy : Nat → ClassId) (H0 : Heap)  (a0 : Int32) (Q : Int32 → Prop) (hq : p_J6_bitCount_0f7a4 a0 Q) : Met l yJ6_bitCount_0f7a4 wsJ6_bitCount_0f7a4 r_J6_bitCount_0f7a4 (wPN [.int a0] H0 D cy []) (wQR Q H0) 0 0 wNo := by
  refine Met.ofW (cc := cJ6_bitCount_0f7a4) (maxL := 1) (ret := (some .int)) (by decide) rfl ?_
  intro p e s m args below meth c s₁ B hml hv
  obtain ⟨hargs, hH, hP, hK⟩ := hv
  have hx := B.exec
  have hb := B.bytes
  have hr := B.returns
  have hts := atoms_spec (ws := wsJ6_bitCount_0f7a4) B.pre
  have hown : s.vm.findClass RJ6 = some m.cls := findClass_of_methodNamed B.named
  have hlocks := B.notSynchronized
  clear B
  subst hH
  have hend : ∀ (r : Int32), Q r → ∀ T9 : State, T9.heap = s.heap → (wQR Q s.heap) args s (.returned (some (.int r))) T9 := fun r hq T9 ht => ⟨⟨r, (), rfl, hq, ht⟩, by rw [ht]; exact Nat.le_refl _, fun _ _ _ => by rw [ht]⟩
  generalize (wQR Q s.heap) = Qc at hend ⊢
  have hS : va_S wNo s.heap s.heap [] := va_S.rf
  show W p l e r_J6_bitCount_0f7a4 s m args below meth c s.heap [] 0 0 (MQ below Qc args s 0 0 wNo) (entryFrame m args 1)
  rw [show entryFrame m args 1 = entryFrame m ([.int a0] : List Value).toArray 1 from by rw [hargs]]
  have hl := lv_entry ([.int a0]) (n := 1) (Nat.le_of_ble_eq_true rfl)
  rw [lg_entry_eq]
  generalize (lg_sl ([.int a0]) ++ List.replicate (1 - (lg_sl ([.int a0])).length) Slot.unset).toArray = ls at hl ⊢
  have hl : lv_has ls 1 [(0, .int a0)] := hl
  have h := hq
  clear hargs hq
  unfold p_J6_bitCount_0f7a4 at h
  refine lv_iload_n hx hb dJ6_bitCount_0f7a4_0 rfl (lv_at hl 0 rfl) ?_
  refine lv_iload_n hx hb dJ6_bitCount_0f7a4_1 rfl (lv_at hl 0 rfl) ?_
  refine lv_iconst (v := 1) hx hb dJ6_bitCount_0f7a4_2 (by decide) ?_
  refine lv_iushr hx hb dJ6_bitCount_0f7a4_3 rfl ?_
  refine lv_ldcw (v := 1431655765) hx hb hown (hts (.constant RJ6 265 (1431655765)) (by decide +kernel)) dJ6_bitCount_0f7a4_4 ?_
  refine lv_iand hx hb dJ6_bitCount_0f7a4_7 ?_
  refine lv_isub hx hb dJ6_bitCount_0f7a4_8 ?_
  refine lv_istore_n (lv' := [(0, .int (a0 - (((a0.toUInt32 >>> ((1 : Int32).toUInt32 &&& Int32.toUInt32 31)).toInt32) &&& 1431655765)))]) hx hb dJ6_bitCount_0f7a4_9 rfl hl (by decide) rfl (fun ls hl => ?_)
  refine lv_iload_n hx hb dJ6_bitCount_0f7a4_10 rfl (lv_at hl 0 rfl) ?_
  refine lv_ldcw (v := 858993459) hx hb hown (hts (.constant RJ6 266 (858993459)) (by decide +kernel)) dJ6_bitCount_0f7a4_11 ?_
  refine lv_iand hx hb dJ6_bitCount_0f7a4_14 ?_
  refine lv_iload_n hx hb dJ6_bitCount_0f7a4_15 rfl (lv_at hl 0 rfl) ?_
  refine lv_iconst (v := 2) hx hb dJ6_bitCount_0f7a4_16 (by decide) ?_
  refine lv_iushr hx hb dJ6_bitCount_0f7a4_17 rfl ?_
  refine lv_ldcw (v := 858993459) hx hb hown (hts (.constant RJ6 266 (858993459)) (by decide +kernel)) dJ6_bitCount_0f7a4_18 ?_
  refine lv_iand hx hb dJ6_bitCount_0f7a4_21 ?_
  refine lv_iadd hx hb dJ6_bitCount_0f7a4_22 ?_
  refine lv_istore_n (lv' := [(0, .int (((a0 - (((a0.toUInt32 >>> ((1 : Int32).toUInt32 &&& Int32.toUInt32 31)).toInt32) &&& 1431655765)) &&& 858993459) + (((((a0 - (((a0.toUInt32 >>> ((1 : Int32).toUInt32 &&& Int32.toUInt32 31)).toInt32) &&& 1431655765))).toUInt32 >>> ((2 : Int32).toUInt32 &&& Int32.toUInt32 31)).toInt32) &&& 858993459)))]) hx hb dJ6_bitCount_0f7a4_23 rfl hl (by decide) rfl (fun ls hl => ?_)
  refine lv_iload_n hx hb dJ6_bitCount_0f7a4_24 rfl (lv_at hl 0 rfl) ?_
  refine lv_iload_n hx hb dJ6_bitCount_0f7a4_25 rfl (lv_at hl 0 rfl) ?_
  refine lv_iconst (v := 4) hx hb dJ6_bitCount_0f7a4_26 (by decide) ?_
  refine lv_iushr hx hb dJ6_bitCount_0f7a4_27 rfl ?_
  refine lv_iadd hx hb dJ6_bitCount_0f7a4_28 ?_
  refine lv_ldcw (v := 252645135) hx hb hown (hts (.constant RJ6 267 (252645135)) (by decide +kernel)) dJ6_bitCount_0f7a4_29 ?_
  refine lv_iand hx hb dJ6_bitCount_0f7a4_32 ?_
  refine lv_istore_n (lv' := [(0, .int (((((a0 - (((a0.toUInt32 >>> ((1 : Int32).toUInt32 &&& Int32.toUInt32 31)).toInt32) &&& 1431655765)) &&& 858993459) + (((((a0 - (((a0.toUInt32 >>> ((1 : Int32).toUInt32 &&& Int32.toUInt32 31)).toInt32) &&& 1431655765))).toUInt32 >>> ((2 : Int32).toUInt32 &&& Int32.toUInt32 31)).toInt32) &&& 858993459)) + ((((((a0 - (((a0.toUInt32 >>> ((1 : Int32).toUInt32 &&& Int32.toUInt32 31)).toInt32) &&& 1431655765)) &&& 858993459) + (((((a0 - (((a0.toUInt32 >>> ((1 : Int32).toUInt32 &&& Int32.toUInt32 31)).toInt32) &&& 1431655765))).toUInt32 >>> ((2 : Int32).toUInt32 &&& Int32.toUInt32 31)).toInt32) &&& 858993459))).toUInt32 >>> ((4 : Int32).toUInt32 &&& Int32.toUInt32 31)).toInt32)) &&& 252645135))]) hx hb dJ6_bitCount_0f7a4_33 rfl hl (by decide) rfl (fun ls hl => ?_)
  refine lv_iload_n hx hb dJ6_bitCount_0f7a4_34 rfl (lv_at hl 0 rfl) ?_
  refine lv_iload_n hx hb dJ6_bitCount_0f7a4_35 rfl (lv_at hl 0 rfl) ?_
  refine lv_bipush (v := 8) hx hb dJ6_bitCount_0f7a4_36 (by decide) ?_
  refine lv_iushr hx hb dJ6_bitCount_0f7a4_38 rfl ?_
  refine lv_iadd hx hb dJ6_bitCount_0f7a4_39 ?_
  refine lv_istore_n (lv' := [(0, .int ((((((a0 - (((a0.toUInt32 >>> ((1 : Int32).toUInt32 &&& Int32.toUInt32 31)).toInt32) &&& 1431655765)) &&& 858993459) + (((((a0 - (((a0.toUInt32 >>> ((1 : Int32).toUInt32 &&& Int32.toUInt32 31)).toInt32) &&& 1431655765))).toUInt32 >>> ((2 : Int32).toUInt32 &&& Int32.toUInt32 31)).toInt32) &&& 858993459)) + ((((((a0 - (((a0.toUInt32 >>> ((1 : Int32).toUInt32 &&& Int32.toUInt32 31)).toInt32) &&& 1431655765)) &&& 858993459) + (((((a0 - (((a0.toUInt32 >>> ((1 : Int32).toUInt32 &&& Int32.toUInt32 31)).toInt32) &&& 1431655765))).toUInt32 >>> ((2 : Int32).toUInt32 &&& Int32.toUInt32 31)).toInt32) &&& 858993459))).toUInt32 >>> ((4 : Int32).toUInt32 &&& Int32.toUInt32 31)).toInt32)) &&& 252645135) + ((((((((a0 - (((a0.toUInt32 >>> ((1 : Int32).toUInt32 &&& Int32.toUInt32 31)).toInt32) &&& 1431655765)) &&& 858993459) + (((((a0 - (((a0.toUInt32 >>> ((1 : Int32).toUInt32 &&& Int32.toUInt32 31)).toInt32) &&& 1431655765))).toUInt32 >>> ((2 : Int32).toUInt32 &&& Int32.toUInt32 31)).toInt32) &&& 858993459)) + ((((((a0 - (((a0.toUInt32 >>> ((1 : Int32).toUInt32 &&& Int32.toUInt32 31)).toInt32) &&& 1431655765)) &&& 858993459) + (((((a0 - (((a0.toUInt32 >>> ((1 : Int32).toUInt32 &&& Int32.toUInt32 31)).toInt32) &&& 1431655765))).toUInt32 >>> ((2 : Int32).toUInt32 &&& Int32.toUInt32 31)).toInt32) &&& 858993459))).toUInt32 >>> ((4 : Int32).toUInt32 &&& Int32.toUInt32 31)).toInt32)) &&& 252645135)).toUInt32 >>> ((8 : Int32).toUInt32 &&& Int32.toUInt32 31)).toInt32)))]) hx hb dJ6_bitCount_0f7a4_40 rfl hl (by decide) rfl (fun ls hl => ?_)
  refine lv_iload_n hx hb dJ6_bitCount_0f7a4_41 rfl (lv_at hl 0 rfl) ?_
  refine lv_iload_n hx hb dJ6_bitCount_0f7a4_42 rfl (lv_at hl 0 rfl) ?_
  refine lv_bipush (v := 16) hx hb dJ6_bitCount_0f7a4_43 (by decide) ?_
  refine lv_iushr hx hb dJ6_bitCount_0f7a4_45 rfl ?_
  refine lv_iadd hx hb dJ6_bitCount_0f7a4_46 ?_
  refine lv_istore_n (lv' := [(0, .int (((((((a0 - (((a0.toUInt32 >>> ((1 : Int32).toUInt32 &&& Int32.toUInt32 31)).toInt32) &&& 1431655765)) &&& 858993459) + (((((a0 - (((a0.toUInt32 >>> ((1 : Int32).toUInt32 &&& Int32.toUInt32 31)).toInt32) &&& 1431655765))).toUInt32 >>> ((2 : Int32).toUInt32 &&& Int32.toUInt32 31)).toInt32) &&& 858993459)) + ((((((a0 - (((a0.toUInt32 >>> ((1 : Int32).toUInt32 &&& Int32.toUInt32 31)).toInt32) &&& 1431655765)) &&& 858993459) + (((((a0 - (((a0.toUInt32 >>> ((1 : Int32).toUInt32 &&& Int32.toUInt32 31)).toInt32) &&& 1431655765))).toUInt32 >>> ((2 : Int32).toUInt32 &&& Int32.toUInt32 31)).toInt32) &&& 858993459))).toUInt32 >>> ((4 : Int32).toUInt32 &&& Int32.toUInt32 31)).toInt32)) &&& 252645135) + ((((((((a0 - (((a0.toUInt32 >>> ((1 : Int32).toUInt32 &&& Int32.toUInt32 31)).toInt32) &&& 1431655765)) &&& 858993459) + (((((a0 - (((a0.toUInt32 >>> ((1 : Int32).toUInt32 &&& Int32.toUInt32 31)).toInt32) &&& 1431655765))).toUInt32 >>> ((2 : Int32).toUInt32 &&& Int32.toUInt32 31)).toInt32) &&& 858993459)) + ((((((a0 - (((a0.toUInt32 >>> ((1 : Int32).toUInt32 &&& Int32.toUInt32 31)).toInt32) &&& 1431655765)) &&& 858993459) + (((((a0 - (((a0.toUInt32 >>> ((1 : Int32).toUInt32 &&& Int32.toUInt32 31)).toInt32) &&& 1431655765))).toUInt32 >>> ((2 : Int32).toUInt32 &&& Int32.toUInt32 31)).toInt32) &&& 858993459))).toUInt32 >>> ((4 : Int32).toUInt32 &&& Int32.toUInt32 31)).toInt32)) &&& 252645135)).toUInt32 >>> ((8 : Int32).toUInt32 &&& Int32.toUInt32 31)).toInt32)) + (((((((((a0 - (((a0.toUInt32 >>> ((1 : Int32).toUInt32 &&& Int32.toUInt32 31)).toInt32) &&& 1431655765)) &&& 858993459) + (((((a0 - (((a0.toUInt32 >>> ((1 : Int32).toUInt32 &&& Int32.toUInt32 31)).toInt32) &&& 1431655765))).toUInt32 >>> ((2 : Int32).toUInt32 &&& Int32.toUInt32 31)).toInt32) &&& 858993459)) + ((((((a0 - (((a0.toUInt32 >>> ((1 : Int32).toUInt32 &&& Int32.toUInt32 31)).toInt32) &&& 1431655765)) &&& 858993459) + (((((a0 - (((a0.toUInt32 >>> ((1 : Int32).toUInt32 &&& Int32.toUInt32 31)).toInt32) &&& 1431655765))).toUInt32 >>> ((2 : Int32).toUInt32 &&& Int32.toUInt32 31)).toInt32) &&& 858993459))).toUInt32 >>> ((4 : Int32).toUInt32 &&& Int32.toUInt32 31)).toInt32)) &&& 252645135) + ((((((((a0 - (((a0.toUInt32 >>> ((1 : Int32).toUInt32 &&& Int32.toUInt32 31)).toInt32) &&& 1431655765)) &&& 858993459) + (((((a0 - (((a0.toUInt32 >>> ((1 : Int32).toUInt32 &&& Int32.toUInt32 31)).toInt32) &&& 1431655765))).toUInt32 >>> ((2 : Int32).toUInt32 &&& Int32.toUInt32 31)).toInt32) &&& 858993459)) + ((((((a0 - (((a0.toUInt32 >>> ((1 : Int32).toUInt32 &&& Int32.toUInt32 31)).toInt32) &&& 1431655765)) &&& 858993459) + (((((a0 - (((a0.toUInt32 >>> ((1 : Int32).toUInt32 &&& Int32.toUInt32 31)).toInt32) &&& 1431655765))).toUInt32 >>> ((2 : Int32).toUInt32 &&& Int32.toUInt32 31)).toInt32) &&& 858993459))).toUInt32 >>> ((4 : Int32).toUInt32 &&& Int32.toUInt32 31)).toInt32)) &&& 252645135)).toUInt32 >>> ((8 : Int32).toUInt32 &&& Int32.toUInt32 31)).toInt32))).toUInt32 >>> ((16 : Int32).toUInt32 &&& Int32.toUInt32 31)).toInt32)))]) hx hb dJ6_bitCount_0f7a4_47 rfl hl (by decide) rfl (fun ls hl => ?_)
  refine lv_iload_n hx hb dJ6_bitCount_0f7a4_48 rfl (lv_at hl 0 rfl) ?_
  refine lv_bipush (v := 63) hx hb dJ6_bitCount_0f7a4_49 (by decide) ?_
  refine lv_iand hx hb dJ6_bitCount_0f7a4_51 ?_
  exact W.iret hx hb hr (fun t ht _ => hend (((((((((a0 - (((a0.toUInt32 >>> ((1 : Int32).toUInt32 &&& Int32.toUInt32 31)).toInt32) &&& 1431655765)) &&& 858993459) + (((((a0 - (((a0.toUInt32 >>> ((1 : Int32).toUInt32 &&& Int32.toUInt32 31)).toInt32) &&& 1431655765))).toUInt32 >>> ((2 : Int32).toUInt32 &&& Int32.toUInt32 31)).toInt32) &&& 858993459)) + ((((((a0 - (((a0.toUInt32 >>> ((1 : Int32).toUInt32 &&& Int32.toUInt32 31)).toInt32) &&& 1431655765)) &&& 858993459) + (((((a0 - (((a0.toUInt32 >>> ((1 : Int32).toUInt32 &&& Int32.toUInt32 31)).toInt32) &&& 1431655765))).toUInt32 >>> ((2 : Int32).toUInt32 &&& Int32.toUInt32 31)).toInt32) &&& 858993459))).toUInt32 >>> ((4 : Int32).toUInt32 &&& Int32.toUInt32 31)).toInt32)) &&& 252645135) + ((((((((a0 - (((a0.toUInt32 >>> ((1 : Int32).toUInt32 &&& Int32.toUInt32 31)).toInt32) &&& 1431655765)) &&& 858993459) + (((((a0 - (((a0.toUInt32 >>> ((1 : Int32).toUInt32 &&& Int32.toUInt32 31)).toInt32) &&& 1431655765))).toUInt32 >>> ((2 : Int32).toUInt32 &&& Int32.toUInt32 31)).toInt32) &&& 858993459)) + ((((((a0 - (((a0.toUInt32 >>> ((1 : Int32).toUInt32 &&& Int32.toUInt32 31)).toInt32) &&& 1431655765)) &&& 858993459) + (((((a0 - (((a0.toUInt32 >>> ((1 : Int32).toUInt32 &&& Int32.toUInt32 31)).toInt32) &&& 1431655765))).toUInt32 >>> ((2 : Int32).toUInt32 &&& Int32.toUInt32 31)).toInt32) &&& 858993459))).toUInt32 >>> ((4 : Int32).toUInt32 &&& Int32.toUInt32 31)).toInt32)) &&& 252645135)).toUInt32 >>> ((8 : Int32).toUInt32 &&& Int32.toUInt32 31)).toInt32)) + (((((((((a0 - (((a0.toUInt32 >>> ((1 : Int32).toUInt32 &&& Int32.toUInt32 31)).toInt32) &&& 1431655765)) &&& 858993459) + (((((a0 - (((a0.toUInt32 >>> ((1 : Int32).toUInt32 &&& Int32.toUInt32 31)).toInt32) &&& 1431655765))).toUInt32 >>> ((2 : Int32).toUInt32 &&& Int32.toUInt32 31)).toInt32) &&& 858993459)) + ((((((a0 - (((a0.toUInt32 >>> ((1 : Int32).toUInt32 &&& Int32.toUInt32 31)).toInt32) &&& 1431655765)) &&& 858993459) + (((((a0 - (((a0.toUInt32 >>> ((1 : Int32).toUInt32 &&& Int32.toUInt32 31)).toInt32) &&& 1431655765))).toUInt32 >>> ((2 : Int32).toUInt32 &&& Int32.toUInt32 31)).toInt32) &&& 858993459))).toUInt32 >>> ((4 : Int32).toUInt32 &&& Int32.toUInt32 31)).toInt32)) &&& 252645135) + ((((((((a0 - (((a0.toUInt32 >>> ((1 : Int32).toUInt32 &&& Int32.toUInt32 31)).toInt32) &&& 1431655765)) &&& 858993459) + (((((a0 - (((a0.toUInt32 >>> ((1 : Int32).toUInt32 &&& Int32.toUInt32 31)).toInt32) &&& 1431655765))).toUInt32 >>> ((2 : Int32).toUInt32 &&& Int32.toUInt32 31)).toInt32) &&& 858993459)) + ((((((a0 - (((a0.toUInt32 >>> ((1 : Int32).toUInt32 &&& Int32.toUInt32 31)).toInt32) &&& 1431655765)) &&& 858993459) + (((((a0 - (((a0.toUInt32 >>> ((1 : Int32).toUInt32 &&& Int32.toUInt32 31)).toInt32) &&& 1431655765))).toUInt32 >>> ((2 : Int32).toUInt32 &&& Int32.toUInt32 31)).toInt32) &&& 858993459))).toUInt32 >>> ((4 : Int32).toUInt32 &&& Int32.toUInt32 31)).toInt32)) &&& 252645135)).toUInt32 >>> ((8 : Int32).toUInt32 &&& Int32.toUInt32 31)).toInt32))).toUInt32 >>> ((16 : Int32).toUInt32 &&& Int32.toUInt32 31)).toInt32)) &&& 63)) h t ht) hS.2.2 dJ6_bitCount_0f7a4_52

abbrev r_X8_inRange : Room := { frames := 0, cells := 0, slots := 0, locals := 0 }
set_option maxHeartbeats 4000000 in
set_option maxRecDepth 100000 in
theorem c_X8_inRange (l : Launch) (D : va_G) (cy : Nat → ClassId) (H0 : Heap)  (a0 : Int32) (a1 : Int32) (a2 : Int32) (Q : Int32 → Prop) (hq : p_X8_inRange a0 a1 a2 Q) : Met l yX8_inRange wsX8_inRange r_X8_inRange (wPN [.int a0, .int a1, .int a2] H0 D cy []) (wQZ Q H0) 0 0 wNo := by
  refine Met.ofW (cc := cX8_inRange) (maxL := 3) (ret := (some .boolean)) (by decide) rfl ?_
  intro p e s m args below meth c s₁ B hml hv
  obtain ⟨hargs, hH, hP, hK⟩ := hv
  have hx := B.exec
  have hb := B.bytes
  have hr := B.returns
  have hts := atoms_spec (ws := wsX8_inRange) B.pre
  have hown : s.vm.findClass RX8 = some m.cls := findClass_of_methodNamed B.named
  have hlocks := B.notSynchronized
  clear B
  subst hH
  have hend : ∀ (r : Int32), (r = 0 ∨ r = 1) → Q r → ∀ T9 : State, T9.heap = s.heap → (wQZ Q s.heap) args s (.returned (some (.int r))) T9 := fun r hz hq T9 ht => ⟨⟨r, (), rfl, ⟨hz, hq⟩, ht⟩, by rw [ht]; exact Nat.le_refl _, fun _ _ _ => by rw [ht]⟩
  generalize (wQZ Q s.heap) = Qc at hend ⊢
  have hS : va_S wNo s.heap s.heap [] := va_S.rf
  show W p l e r_X8_inRange s m args below meth c s.heap [] 0 0 (MQ below Qc args s 0 0 wNo) (entryFrame m args 3)
  rw [show entryFrame m args 3 = entryFrame m ([.int a0, .int a1, .int a2] : List Value).toArray 3 from by rw [hargs]]
  have hl := lv_entry ([.int a0, .int a1, .int a2]) (n := 3) (Nat.le_of_ble_eq_true rfl)
  rw [lg_entry_eq]
  generalize (lg_sl ([.int a0, .int a1, .int a2]) ++ List.replicate (3 - (lg_sl ([.int a0, .int a1, .int a2])).length) Slot.unset).toArray = ls at hl ⊢
  have hl : lv_has ls 3 [(0, .int a0), (1, .int a1), (2, .int a2)] := hl
  have h := hq
  clear hargs hq
  unfold p_X8_inRange at h
  refine lv_iload_n hx hb dX8_inRange_0 rfl (lv_at hl 1 rfl) ?_
  refine lv_iload_n hx hb dX8_inRange_1 rfl (lv_at hl 0 rfl) ?_
  refine lv_icmp_gt (tgt := 14) hx hb dX8_inRange_2 rfl (fun hc => ?_) (fun hc => ?_)
  · replace h := h.1 hc
    refine lv_iconst (v := 0) hx hb dX8_inRange_14 (by decide) ?_
    exact W.zret hx hb hr rfl (fun t ht _ => hend 0 (by decide) h t ht) hS.2.2 dX8_inRange_15
  · replace h := h.2 hc
    refine lv_iload_n hx hb dX8_inRange_5 rfl (lv_at hl 0 rfl) ?_
    refine lv_iload_n hx hb dX8_inRange_6 rfl (lv_at hl 2 rfl) ?_
    refine lv_icmp_gt (tgt := 14) hx hb dX8_inRange_7 rfl (fun hc => ?_) (fun hc => ?_)
    · replace h := h.1 hc
      refine lv_iconst (v := 0) hx hb dX8_inRange_14 (by decide) ?_
      exact W.zret hx hb hr rfl (fun t ht _ => hend 0 (by decide) h t ht) hS.2.2 dX8_inRange_15
    · replace h := h.2 hc
      refine lv_iconst (v := 1) hx hb dX8_inRange_10 (by decide) ?_
      refine lv_goto (tgt := 15) hx hb dX8_inRange_11 rfl ?_
      exact W.zret hx hb hr rfl (fun t ht _ => hend 1 (by decide) h t ht) hS.2.2 dX8_inRange_15

abbrev r_X8_has : Room := { frames := 0, cells := 0, slots := 0, locals := 0 }
set_option maxHeartbeats 4000000 in
set_option maxRecDepth 100000 in
theorem c_X8_has (l : Launch) (D : va_G) (cy : Nat → ClassId) (H0 : Heap)  (a0 : Int32) (a1 : Int32) (Q : Int32 → Prop) (hq : p_X8_has a0 a1 Q) : Met l yX8_has wsX8_has r_X8_has (wPN [.int a0, .int a1] H0 D cy []) (wQZ Q H0) 0 0 wNo := by
  refine Met.ofW (cc := cX8_has) (maxL := 2) (ret := (some .boolean)) (by decide) rfl ?_
  intro p e s m args below meth c s₁ B hml hv
  obtain ⟨hargs, hH, hP, hK⟩ := hv
  have hx := B.exec
  have hb := B.bytes
  have hr := B.returns
  have hts := atoms_spec (ws := wsX8_has) B.pre
  have hown : s.vm.findClass RX8 = some m.cls := findClass_of_methodNamed B.named
  have hlocks := B.notSynchronized
  clear B
  subst hH
  have hend : ∀ (r : Int32), (r = 0 ∨ r = 1) → Q r → ∀ T9 : State, T9.heap = s.heap → (wQZ Q s.heap) args s (.returned (some (.int r))) T9 := fun r hz hq T9 ht => ⟨⟨r, (), rfl, ⟨hz, hq⟩, ht⟩, by rw [ht]; exact Nat.le_refl _, fun _ _ _ => by rw [ht]⟩
  generalize (wQZ Q s.heap) = Qc at hend ⊢
  have hS : va_S wNo s.heap s.heap [] := va_S.rf
  show W p l e r_X8_has s m args below meth c s.heap [] 0 0 (MQ below Qc args s 0 0 wNo) (entryFrame m args 2)
  rw [show entryFrame m args 2 = entryFrame m ([.int a0, .int a1] : List Value).toArray 2 from by rw [hargs]]
  have hl := lv_entry ([.int a0, .int a1]) (n := 2) (Nat.le_of_ble_eq_true rfl)
  rw [lg_entry_eq]
  generalize (lg_sl ([.int a0, .int a1]) ++ List.replicate (2 - (lg_sl ([.int a0, .int a1])).length) Slot.unset).toArray = ls at hl ⊢
  have hl : lv_has ls 2 [(0, .int a0), (1, .int a1)] := hl
  have h := hq
  clear hargs hq
  unfold p_X8_has at h
  refine lv_iload_n hx hb dX8_has_0 rfl (lv_at hl 0 rfl) ?_
  refine lv_iload_n hx hb dX8_has_1 rfl (lv_at hl 1 rfl) ?_
  refine lv_ishr hx hb dX8_has_2 ?_
  refine lv_iconst (v := 1) hx hb dX8_has_3 (by decide) ?_
  refine lv_iand hx hb dX8_has_4 ?_
  refine lv_iconst (v := 1) hx hb dX8_has_5 (by decide) ?_
  refine lv_icmp_ne (tgt := 13) hx hb dX8_has_6 rfl (fun hc => ?_) (fun hc => ?_)
  · replace h := h.1 hc
    refine lv_iconst (v := 0) hx hb dX8_has_13 (by decide) ?_
    exact W.zret hx hb hr rfl (fun t ht _ => hend 0 (by decide) h t ht) hS.2.2 dX8_has_14
  · replace h := h.2 hc
    refine lv_iconst (v := 1) hx hb dX8_has_9 (by decide) ?_
    refine lv_goto (tgt := 14) hx hb dX8_has_10 rfl ?_
    exact W.zret hx hb hr rfl (fun t ht _ => hend 1 (by decide) h t ht) hS.2.2 dX8_has_14

abbrev r_X8_sideIn : Room := { frames := 0, cells := 0, slots := 0, locals := 0 }
set_option maxHeartbeats 4000000 in
set_option maxRecDepth 100000 in
theorem c_X8_sideIn (l : Launch) (D : va_G) (cy : Nat → ClassId) (H0 : Heap)  (a0 : Int32) (a1 : Int32) (Q : Int32 → Prop) (hq : p_X8_sideIn a0 a1 Q) : Met l yX8_sideIn wsX8_sideIn r_X8_sideIn (wPN [.int a0, .int a1] H0 D cy []) (wQR Q H0) 0 0 wNo := by
  refine Met.ofW (cc := cX8_sideIn) (maxL := 2) (ret := (some .int)) (by decide) rfl ?_
  intro p e s m args below meth c s₁ B hml hv
  obtain ⟨hargs, hH, hP, hK⟩ := hv
  have hx := B.exec
  have hb := B.bytes
  have hr := B.returns
  have hts := atoms_spec (ws := wsX8_sideIn) B.pre
  have hown : s.vm.findClass RX8 = some m.cls := findClass_of_methodNamed B.named
  have hlocks := B.notSynchronized
  clear B
  subst hH
  have hend : ∀ (r : Int32), Q r → ∀ T9 : State, T9.heap = s.heap → (wQR Q s.heap) args s (.returned (some (.int r))) T9 := fun r hq T9 ht => ⟨⟨r, (), rfl, hq, ht⟩, by rw [ht]; exact Nat.le_refl _, fun _ _ _ => by rw [ht]⟩
  generalize (wQR Q s.heap) = Qc at hend ⊢
  have hS : va_S wNo s.heap s.heap [] := va_S.rf
  show W p l e r_X8_sideIn s m args below meth c s.heap [] 0 0 (MQ below Qc args s 0 0 wNo) (entryFrame m args 2)
  rw [show entryFrame m args 2 = entryFrame m ([.int a0, .int a1] : List Value).toArray 2 from by rw [hargs]]
  have hl := lv_entry ([.int a0, .int a1]) (n := 2) (Nat.le_of_ble_eq_true rfl)
  rw [lg_entry_eq]
  generalize (lg_sl ([.int a0, .int a1]) ++ List.replicate (2 - (lg_sl ([.int a0, .int a1])).length) Slot.unset).toArray = ls at hl ⊢
  have hl : lv_has ls 2 [(0, .int a0), (1, .int a1)] := hl
  have h := hq
  clear hargs hq
  unfold p_X8_sideIn at h
  refine lv_iload_n hx hb dX8_sideIn_0 rfl (lv_at hl 0 rfl) ?_
  refine lv_iload_n hx hb dX8_sideIn_1 rfl (lv_at hl 1 rfl) ?_
  refine lv_ishr hx hb dX8_sideIn_2 ?_
  refine lv_iconst (v := 1) hx hb dX8_sideIn_3 (by decide) ?_
  refine lv_iand hx hb dX8_sideIn_4 ?_
  exact W.iret hx hb hr (fun t ht _ => hend (((a0 >>> (a1 &&& 31)) &&& 1)) h t ht) hS.2.2 dX8_sideIn_5

abbrev r_X8_partsOfSize : Room := { frames := 0, cells := 0, slots := 0, locals := 0 }
set_option maxHeartbeats 4000000 in
set_option maxRecDepth 100000 in
theorem c_X8_partsOfSize (l : Launch) (D : va_G) (cy : Nat → ClassId) (H0 : Heap)  (a0 : Int32) (a1 : Int32) (Q : Int32 → Prop) (hq : p_X8_partsOfSize a0 a1 Q) : Met l yX8_partsOfSize wsX8_partsOfSize r_X8_partsOfSize (wPN [.int a0, .int a1] H0 D cy []) (wQR Q H0) 0 0 wNo := by
  refine Met.ofW (cc := cX8_partsOfSize) (maxL := 2) (ret := (some .int)) (by decide) rfl ?_
  intro p e s m args below meth c s₁ B hml hv
  obtain ⟨hargs, hH, hP, hK⟩ := hv
  have hx := B.exec
  have hb := B.bytes
  have hr := B.returns
  have hts := atoms_spec (ws := wsX8_partsOfSize) B.pre
  have hown : s.vm.findClass RX8 = some m.cls := findClass_of_methodNamed B.named
  have hlocks := B.notSynchronized
  clear B
  subst hH
  have hend : ∀ (r : Int32), Q r → ∀ T9 : State, T9.heap = s.heap → (wQR Q s.heap) args s (.returned (some (.int r))) T9 := fun r hq T9 ht => ⟨⟨r, (), rfl, hq, ht⟩, by rw [ht]; exact Nat.le_refl _, fun _ _ _ => by rw [ht]⟩
  generalize (wQR Q s.heap) = Qc at hend ⊢
  have hS : va_S wNo s.heap s.heap [] := va_S.rf
  show W p l e r_X8_partsOfSize s m args below meth c s.heap [] 0 0 (MQ below Qc args s 0 0 wNo) (entryFrame m args 2)
  rw [show entryFrame m args 2 = entryFrame m ([.int a0, .int a1] : List Value).toArray 2 from by rw [hargs]]
  have hl := lv_entry ([.int a0, .int a1]) (n := 2) (Nat.le_of_ble_eq_true rfl)
  rw [lg_entry_eq]
  generalize (lg_sl ([.int a0, .int a1]) ++ List.replicate (2 - (lg_sl ([.int a0, .int a1])).length) Slot.unset).toArray = ls at hl ⊢
  have hl : lv_has ls 2 [(0, .int a0), (1, .int a1)] := hl
  have h := hq
  clear hargs hq
  unfold p_X8_partsOfSize at h
  refine lv_iload_n hx hb dX8_partsOfSize_0 rfl (lv_at hl 1 rfl) ?_
  refine lv_iconst (v := 1) hx hb dX8_partsOfSize_1 (by decide) ?_
  refine lv_icmp_ge (tgt := 9) hx hb dX8_partsOfSize_2 rfl (fun hc => ?_) (fun hc => ?_)
  · replace h := h.1 hc
    refine lv_iload_n hx hb dX8_partsOfSize_9 rfl (lv_at hl 0 rfl) ?_
    refine lv_iload_n hx hb dX8_partsOfSize_10 rfl (lv_at hl 1 rfl) ?_
    refine lv_iadd hx hb dX8_partsOfSize_11 ?_
    refine lv_iconst (v := 1) hx hb dX8_partsOfSize_12 (by decide) ?_
    refine lv_isub hx hb dX8_partsOfSize_13 ?_
    refine lv_iload_n hx hb dX8_partsOfSize_14 rfl (lv_at hl 1 rfl) ?_
    obtain ⟨hz, h⟩ := h
    refine lv_idiv hx hb dX8_partsOfSize_15 hz ?_
    exact W.iret hx hb hr (fun t ht _ => hend ((((a0 + a1) - 1) / a1)) h t ht) hS.2.2 dX8_partsOfSize_16
  · replace h := h.2 hc
    refine lv_iconst (v := 0) hx hb dX8_partsOfSize_5 (by decide) ?_
    refine lv_goto (tgt := 16) hx hb dX8_partsOfSize_6 rfl ?_
    exact W.iret hx hb hr (fun t ht _ => hend 0 h t ht) hS.2.2 dX8_partsOfSize_16

abbrev r_X8_digitsOf : Room := { frames := 0, cells := 0, slots := 0, locals := 0 }
set_option maxHeartbeats 4000000 in
set_option maxRecDepth 100000 in
theorem c_X8_digitsOf (l : Launch) (D : va_G) (cy : Nat → ClassId) (H0 : Heap)  (a0 : Int32) (Q : Int32 → Prop) (hq : p_X8_digitsOf a0 Q) : Met l yX8_digitsOf wsX8_digitsOf r_X8_digitsOf (wPN [.int a0] H0 D cy []) (wQR Q H0) 0 0 wNo := by
  refine Met.ofW (cc := cX8_digitsOf) (maxL := 1) (ret := (some .int)) (by decide) rfl ?_
  intro p e s m args below meth c s₁ B hml hv
  obtain ⟨hargs, hH, hP, hK⟩ := hv
  have hx := B.exec
  have hb := B.bytes
  have hr := B.returns
  have hts := atoms_spec (ws := wsX8_digitsOf) B.pre
  have hown : s.vm.findClass RX8 = some m.cls := findClass_of_methodNamed B.named
  have hlocks := B.notSynchronized
  clear B
  subst hH
  have hend : ∀ (r : Int32), Q r → ∀ T9 : State, T9.heap = s.heap → (wQR Q s.heap) args s (.returned (some (.int r))) T9 := fun r hq T9 ht => ⟨⟨r, (), rfl, hq, ht⟩, by rw [ht]; exact Nat.le_refl _, fun _ _ _ => by rw [ht]⟩
  generalize (wQR Q s.heap) = Qc at hend ⊢
  have hS : va_S wNo s.heap s.heap [] := va_S.rf
  show W p l e r_X8_digitsOf s m args below meth c s.heap [] 0 0 (MQ below Qc args s 0 0 wNo) (entryFrame m args 1)
  rw [show entryFrame m args 1 = entryFrame m ([.int a0] : List Value).toArray 1 from by rw [hargs]]
  have hl := lv_entry ([.int a0]) (n := 1) (Nat.le_of_ble_eq_true rfl)
  rw [lg_entry_eq]
  generalize (lg_sl ([.int a0]) ++ List.replicate (1 - (lg_sl ([.int a0])).length) Slot.unset).toArray = ls at hl ⊢
  have hl : lv_has ls 1 [(0, .int a0)] := hl
  have h := hq
  clear hargs hq
  unfold p_X8_digitsOf at h
  refine lv_iload_n hx hb dX8_digitsOf_0 rfl (lv_at hl 0 rfl) ?_
  refine lv_sipush (v := 999) hx hb dX8_digitsOf_1 (by decide) ?_
  refine lv_icmp_le (tgt := 9) hx hb dX8_digitsOf_4 rfl (fun hc => ?_) (fun hc => ?_)
  · replace h := h.1 hc
    refine lv_iload_n hx hb dX8_digitsOf_9 rfl (lv_at hl 0 rfl) ?_
    refine lv_bipush (v := 99) hx hb dX8_digitsOf_10 (by decide) ?_
    refine lv_icmp_le (tgt := 17) hx hb dX8_digitsOf_12 rfl (fun hc => ?_) (fun hc => ?_)
    · replace h := h.1 hc
      refine lv_iload_n hx hb dX8_digitsOf_17 rfl (lv_at hl 0 rfl) ?_
      refine lv_bipush (v := 9) hx hb dX8_digitsOf_18 (by decide) ?_
      refine lv_icmp_le (tgt := 25) hx hb dX8_digitsOf_20 rfl (fun hc => ?_) (fun hc => ?_)
      · replace h := h.1 hc
        refine lv_iload_n hx hb dX8_digitsOf_25 rfl (lv_at hl 0 rfl) ?_
        refine lv_if_le (tgt := 33) hx hb dX8_digitsOf_26 rfl (fun hc => ?_) (fun hc => ?_)
        · replace h := h.1 hc
          refine lv_iconst (v := 0) hx hb dX8_digitsOf_33 (by decide) ?_
          exact W.iret hx hb hr (fun t ht _ => hend 0 h t ht) hS.2.2 dX8_digitsOf_34
        · replace h := h.2 hc
          refine lv_iconst (v := 1) hx hb dX8_digitsOf_29 (by decide) ?_
          refine lv_goto (tgt := 34) hx hb dX8_digitsOf_30 rfl ?_
          exact W.iret hx hb hr (fun t ht _ => hend 1 h t ht) hS.2.2 dX8_digitsOf_34
      · replace h := h.2 hc
        refine lv_iconst (v := 2) hx hb dX8_digitsOf_23 (by decide) ?_
        exact W.iret hx hb hr (fun t ht _ => hend 2 h t ht) hS.2.2 dX8_digitsOf_24
    · replace h := h.2 hc
      refine lv_iconst (v := 3) hx hb dX8_digitsOf_15 (by decide) ?_
      exact W.iret hx hb hr (fun t ht _ => hend 3 h t ht) hS.2.2 dX8_digitsOf_16
  · replace h := h.2 hc
    refine lv_iconst (v := 4) hx hb dX8_digitsOf_7 (by decide) ?_
    exact W.iret hx hb hr (fun t ht _ => hend 4 h t ht) hS.2.2 dX8_digitsOf_8

abbrev r_X8_isSide : Room := { frames := 1, cells := 0, slots := 0, locals := 22 }
set_option maxHeartbeats 4000000 in
set_option maxRecDepth 100000 in
theorem c_X8_isSide (l : Launch) (D : va_G) (cy : Nat → ClassId) (H0 : Heap)  (a0 : Int32) (Q : Int32 → Prop) (hq : p_X8_isSide a0 Q) : Met l yX8_isSide wsX8_isSide r_X8_isSide (wPN [.int a0] H0 D cy []) (wQZ Q H0) 0 0 wNo := by
  refine Met.ofW (cc := cX8_isSide) (maxL := 1) (ret := (some .boolean)) (by decide) rfl ?_
  intro p e s m args below meth c s₁ B hml hv
  obtain ⟨hargs, hH, hP, hK⟩ := hv
  have hx := B.exec
  have hb := B.bytes
  have hr := B.returns
  have hts := atoms_spec (ws := wsX8_isSide) B.pre
  have hown : s.vm.findClass RX8 = some m.cls := findClass_of_methodNamed B.named
  have hlocks := B.notSynchronized
  clear B
  subst hH
  have hend : ∀ (r : Int32), (r = 0 ∨ r = 1) → Q r → ∀ T9 : State, T9.heap = s.heap → (wQZ Q s.heap) args s (.returned (some (.int r))) T9 := fun r hz hq T9 ht => ⟨⟨r, (), rfl, ⟨hz, hq⟩, ht⟩, by rw [ht]; exact Nat.le_refl _, fun _ _ _ => by rw [ht]⟩
  generalize (wQZ Q s.heap) = Qc at hend ⊢
  have hS : va_S wNo s.heap s.heap [] := va_S.rf
  show W p l e r_X8_isSide s m args below meth c s.heap [] 0 0 (MQ below Qc args s 0 0 wNo) (entryFrame m args 1)
  rw [show entryFrame m args 1 = entryFrame m ([.int a0] : List Value).toArray 1 from by rw [hargs]]
  have hl := lv_entry ([.int a0]) (n := 1) (Nat.le_of_ble_eq_true rfl)
  rw [lg_entry_eq]
  generalize (lg_sl ([.int a0]) ++ List.replicate (1 - (lg_sl ([.int a0])).length) Slot.unset).toArray = ls at hl ⊢
  have hl : lv_has ls 1 [(0, .int a0)] := hl
  have h := hq
  clear hargs hq
  unfold p_X8_isSide at h
  refine lv_iload_n hx hb dX8_isSide_0 rfl (lv_at hl 0 rfl) ?_
  refine lv_iconst (v := 0) hx hb dX8_isSide_1 (by decide) ?_
  refine lv_iconst (v := 1) hx hb dX8_isSide_2 (by decide) ?_
  have hPc := hP.sub (ws' := []) [] rfl
  refine w_callZ (va_runS (As := [.int a0, .int 0, .int 1]) (rest := []) ⟨hx, hb, hml, hown, hts⟩ (c_X8_inRange l D cy s.heap a0 0 1 _ h) (va_cwS 3 hts gX8_isSide_X8_inRange rfl rfl rfl (by decide +kernel) ⟨Nat.le_of_ble_eq_true rfl, Nat.le_of_ble_eq_true rfl⟩) (w_preSN hK hPc) rfl rfl hl.1 rfl (lv_room (Nat.le_of_ble_eq_true rfl)) dX8_isSide_3 ⟨Nat.zero_le _, Nat.zero_le _⟩) hS (fun r1 locs z_r1 h hS => ?_)
  try dsimp only at h
  exact W.zret hx hb hr (w_bool z_r1) (fun t ht _ => hend r1 z_r1 h t ht) hS.2.2 dX8_isSide_6

abbrev r_X8_isSlot : Room := { frames := 1, cells := 0, slots := 0, locals := 22 }
set_option maxHeartbeats 4000000 in
set_option maxRecDepth 100000 in
theorem c_X8_isSlot (l : Launch) (D : va_G) (cy : Nat → ClassId) (H0 : Heap)  (a0 : Int32) (Q : Int32 → Prop) (hq : p_X8_isSlot a0 Q) : Met l yX8_isSlot wsX8_isSlot r_X8_isSlot (wPN [.int a0] H0 D cy []) (wQZ Q H0) 0 0 wNo := by
  refine Met.ofW (cc := cX8_isSlot) (maxL := 1) (ret := (some .boolean)) (by decide) rfl ?_
  intro p e s m args below meth c s₁ B hml hv
  obtain ⟨hargs, hH, hP, hK⟩ := hv
  have hx := B.exec
  have hb := B.bytes
  have hr := B.returns
  have hts := atoms_spec (ws := wsX8_isSlot) B.pre
  have hown : s.vm.findClass RX8 = some m.cls := findClass_of_methodNamed B.named
  have hlocks := B.notSynchronized
  clear B
  subst hH
  have hend : ∀ (r : Int32), (r = 0 ∨ r = 1) → Q r → ∀ T9 : State, T9.heap = s.heap → (wQZ Q s.heap) args s (.returned (some (.int r))) T9 := fun r hz hq T9 ht => ⟨⟨r, (), rfl, ⟨hz, hq⟩, ht⟩, by rw [ht]; exact Nat.le_refl _, fun _ _ _ => by rw [ht]⟩
  generalize (wQZ Q s.heap) = Qc at hend ⊢
  have hS : va_S wNo s.heap s.heap [] := va_S.rf
  show W p l e r_X8_isSlot s m args below meth c s.heap [] 0 0 (MQ below Qc args s 0 0 wNo) (entryFrame m args 1)
  rw [show entryFrame m args 1 = entryFrame m ([.int a0] : List Value).toArray 1 from by rw [hargs]]
  have hl := lv_entry ([.int a0]) (n := 1) (Nat.le_of_ble_eq_true rfl)
  rw [lg_entry_eq]
  generalize (lg_sl ([.int a0]) ++ List.replicate (1 - (lg_sl ([.int a0])).length) Slot.unset).toArray = ls at hl ⊢
  have hl : lv_has ls 1 [(0, .int a0)] := hl
  have h := hq
  clear hargs hq
  unfold p_X8_isSlot at h
  refine lv_iload_n hx hb dX8_isSlot_0 rfl (lv_at hl 0 rfl) ?_
  refine lv_iconst (v := 0) hx hb dX8_isSlot_1 (by decide) ?_
  refine lv_iconst (v := 1) hx hb dX8_isSlot_2 (by decide) ?_
  have hPc := hP.sub (ws' := []) [] rfl
  refine w_callZ (va_runS (As := [.int a0, .int 0, .int 1]) (rest := []) ⟨hx, hb, hml, hown, hts⟩ (c_X8_inRange l D cy s.heap a0 0 1 _ h) (va_cwS 3 hts gX8_isSlot_X8_inRange rfl rfl rfl (by decide +kernel) ⟨Nat.le_of_ble_eq_true rfl, Nat.le_of_ble_eq_true rfl⟩) (w_preSN hK hPc) rfl rfl hl.1 rfl (lv_room (Nat.le_of_ble_eq_true rfl)) dX8_isSlot_3 ⟨Nat.zero_le _, Nat.zero_le _⟩) hS (fun r1 locs z_r1 h hS => ?_)
  try dsimp only at h
  exact W.zret hx hb hr (w_bool z_r1) (fun t ht _ => hend r1 z_r1 h t ht) hS.2.2 dX8_isSlot_6

abbrev r_X8_memberOf : Room := { frames := 1, cells := 0, slots := 0, locals := 21 }
set_option maxHeartbeats 4000000 in
set_option maxRecDepth 100000 in
theorem c_X8_memberOf (l : Launch) (D : va_G) (cy : Nat → ClassId) (H0 : Heap)  (a0 : Int32) (a1 : Int32) (Q : Int32 → Prop) (hq : p_X8_memberOf a0 a1 Q) : Met l yX8_memberOf wsX8_memberOf r_X8_memberOf (wPN [.int a0, .int a1] H0 D cy []) (wQR Q H0) 0 0 wNo := by
  refine Met.ofW (cc := cX8_memberOf) (maxL := 4) (ret := (some .int)) (by decide) rfl ?_
  intro p e s m args below meth c s₁ B hml hv
  obtain ⟨hargs, hH, hP, hK⟩ := hv
  have hx := B.exec
  have hb := B.bytes
  have hr := B.returns
  have hts := atoms_spec (ws := wsX8_memberOf) B.pre
  have hown : s.vm.findClass RX8 = some m.cls := findClass_of_methodNamed B.named
  have hlocks := B.notSynchronized
  clear B
  subst hH
  have hend : ∀ (r : Int32), Q r → ∀ T9 : State, T9.heap = s.heap → (wQR Q s.heap) args s (.returned (some (.int r))) T9 := fun r hq T9 ht => ⟨⟨r, (), rfl, hq, ht⟩, by rw [ht]; exact Nat.le_refl _, fun _ _ _ => by rw [ht]⟩
  generalize (wQR Q s.heap) = Qc at hend ⊢
  have hS : va_S wNo s.heap s.heap [] := va_S.rf
  show W p l e r_X8_memberOf s m args below meth c s.heap [] 0 0 (MQ below Qc args s 0 0 wNo) (entryFrame m args 4)
  rw [show entryFrame m args 4 = entryFrame m ([.int a0, .int a1] : List Value).toArray 4 from by rw [hargs]]
  have hl := lv_entry ([.int a0, .int a1]) (n := 4) (Nat.le_of_ble_eq_true rfl)
  rw [lg_entry_eq]
  generalize (lg_sl ([.int a0, .int a1]) ++ List.replicate (4 - (lg_sl ([.int a0, .int a1])).length) Slot.unset).toArray = ls at hl ⊢
  have hl : lv_has ls 4 [(0, .int a0), (1, .int a1)] := hl
  have h := hq
  clear hargs hq
  have j4 : ∀ (x2 : Int32) (x3 : Int32), p_X8_memberOf_4 a0 a1 Q x2 x3 → ∀ (locs : List Loc), va_S wNo s.heap s.heap locs → ∀ (ls : Array Slot), lv_has ls 4 [(0, .int a0), (1, .int a1), (2, .int x2), (3, .int x3)] → W p l e r_X8_memberOf s m args below meth c s.heap locs 0 0 (MQ below Qc args s 0 0 wNo) (F0 m 4 ls []) := by
    intro x2 x3 h
    obtain ⟨I4, μ4, h0, hs4⟩ := h
    have key : ∀ (n : Nat) (x2 : Int32) (x3 : Int32), I4 x2 x3 → μ4 x2 x3 < n → ∀ (locs : List Loc), va_S wNo s.heap s.heap locs → ∀ (ls : Array Slot), lv_has ls 4 [(0, .int a0), (1, .int a1), (2, .int x2), (3, .int x3)] → W p l e r_X8_memberOf s m args below meth c s.heap locs 0 0 (MQ below Qc args s 0 0 wNo) (F0 m 4 ls []) := by
      intro n
      induction n with
      | zero => intro x2 x3 _ h; exact absurd h (Nat.not_lt_zero _)
      | succ n ih4 =>
        intro x2 x3 hI hn locs hS ls hl
        have h := hs4 x2 x3 hI
        have hk4 : ∀ (x21 : Int32) (x31 : Int32), (fun (x2' : Int32) (x3' : Int32) => I4 x2' x3' ∧ μ4 x2' x3' < μ4 x2 x3) x21 x31 → ∀ (locs : List Loc), va_S wNo s.heap s.heap locs → ∀ (ls : Array Slot), lv_has ls 4 [(0, .int a0), (1, .int a1), (2, .int x21), (3, .int x31)] → W p l e r_X8_memberOf s m args below meth c s.heap locs 0 0 (MQ below Qc args s 0 0 wNo) (F0 m 4 ls []) := by
          intro x21 x31 hz
          exact ih4 x21 x31 hz.1 (Nat.lt_of_lt_of_le hz.2 (Nat.le_of_lt_succ hn))
        generalize hKe : (fun (x2' : Int32) (x3' : Int32) => I4 x2' x3' ∧ μ4 x2' x3' < μ4 x2 x3) = K4 at h hk4
        clear hKe ih4 hn hI
        have j28 : ∀ (x2 : Int32) (x3 : Int32), p_X8_memberOf_28 x2 x3 K4 → ∀ (locs : List Loc), va_S wNo s.heap s.heap locs → ∀ (ls : Array Slot), lv_has ls 4 [(0, .int a0), (1, .int a1), (2, .int x2), (3, .int x3)] → W p l e r_X8_memberOf s m args below meth c s.heap locs 0 0 (MQ below Qc args s 0 0 wNo) (F0 m 28 ls []) := by
          intro x2 x3 h locs hS ls hl
          unfold p_X8_memberOf_28 at h
          refine lv_iinc (k := 3) (v := (x3 + 1)) (lv' := [(3, .int (x3 + 1)), (0, .int a0), (1, .int a1), (2, .int x2)]) hx hb dX8_memberOf_28 hl rfl rfl (by decide) rfl (fun ls hl => ?_)
          refine lv_goto (tgt := 4) hx hb dX8_memberOf_31 rfl ?_
          exact hk4 x2 ((x3 + 1)) h _ hS _ (lv_sub hl [1, 2, 3, 0] rfl)
        unfold q_X8_memberOf_4 at h
        refine lv_iload_n hx hb dX8_memberOf_4 rfl (lv_at hl 3 rfl) ?_
        refine lv_bipush (v := 20) hx hb dX8_memberOf_5 (by decide) ?_
        refine lv_icmp_ge (tgt := 34) hx hb dX8_memberOf_7 rfl (fun hc => ?_) (fun hc => ?_)
        · replace h := h.1 hc
          refine lv_bipush (v := (-99)) hx hb dX8_memberOf_34 (by decide) ?_
          exact W.iret hx hb hr (fun t ht _ => hend ((-99)) h t ht) hS.2.2 dX8_memberOf_36
        · replace h := h.2 hc
          refine lv_iload_n hx hb dX8_memberOf_10 rfl (lv_at hl 0 rfl) ?_
          refine lv_iload_n hx hb dX8_memberOf_11 rfl (lv_at hl 3 rfl) ?_
          have hPc := hP.sub (ws' := []) [] rfl
          refine w_callZ (va_runS (As := [.int a0, .int x3]) (rest := []) ⟨hx, hb, hml, hown, hts⟩ (c_X8_has l D cy s.heap a0 x3 _ h) (va_cwS 2 hts gX8_memberOf_X8_has rfl rfl rfl (by decide +kernel) ⟨Nat.le_of_ble_eq_true rfl, Nat.le_of_ble_eq_true rfl⟩) (w_preSN hK hPc) rfl rfl hl.1 rfl (lv_room (Nat.le_of_ble_eq_true rfl)) dX8_memberOf_12 ⟨Nat.zero_le _, Nat.zero_le _⟩) hS (fun r1 locs z_r1 h hS => ?_)
          try dsimp only at h
          refine lv_if_eq (tgt := 28) hx hb dX8_memberOf_15 rfl (fun hc => ?_) (fun hc => ?_)
          · replace h := h.1 hc
            exact j28 x2 x3 h _ hS _ (lv_sub hl [0, 1, 2, 3] rfl)
          · replace h := h.2 hc
            refine lv_iload_n hx hb dX8_memberOf_18 rfl (lv_at hl 2 rfl) ?_
            refine lv_iload_n hx hb dX8_memberOf_19 rfl (lv_at hl 1 rfl) ?_
            refine lv_icmp_ne (tgt := 25) hx hb dX8_memberOf_20 rfl (fun hc => ?_) (fun hc => ?_)
            · replace h := h.1 hc
              refine lv_iinc (k := 2) (v := (x2 + 1)) (lv' := [(2, .int (x2 + 1)), (0, .int a0), (1, .int a1), (3, .int x3)]) hx hb dX8_memberOf_25 hl rfl rfl (by decide) rfl (fun ls hl => ?_)
              exact j28 ((x2 + 1)) x3 h _ hS _ (lv_sub hl [1, 2, 0, 3] rfl)
            · replace h := h.2 hc
              refine lv_iload_n hx hb dX8_memberOf_23 rfl (lv_at hl 3 rfl) ?_
              exact W.iret hx hb hr (fun t ht _ => hend x3 h t ht) hS.2.2 dX8_memberOf_24
    exact key _ x2 x3 h0 (Nat.lt_succ_self _)
  unfold p_X8_memberOf at h
  refine lv_iconst (v := 0) hx hb dX8_memberOf_0 (by decide) ?_
  refine lv_istore_n (lv' := [(2, .int 0), (0, .int a0), (1, .int a1)]) hx hb dX8_memberOf_1 rfl hl (by decide) rfl (fun ls hl => ?_)
  refine lv_iconst (v := 0) hx hb dX8_memberOf_2 (by decide) ?_
  refine lv_istore_n (lv' := [(3, .int 0), (2, .int 0), (0, .int a0), (1, .int a1)]) hx hb dX8_memberOf_3 rfl hl (by decide) rfl (fun ls hl => ?_)
  exact j4 0 0 h _ hS _ (lv_sub hl [2, 3, 1, 0] rfl)

abbrev r_X8_smallestIn : Room := { frames := 2, cells := 0, slots := 0, locals := 44 }
set_option maxHeartbeats 4000000 in
set_option maxRecDepth 100000 in
theorem c_X8_smallestIn (l : Launch) (D : va_G) (cy : Nat → ClassId) (H0 : Heap)  (a0 : Int32) (Q : Int32 → Prop) (hq : p_X8_smallestIn a0 Q) : Met l yX8_smallestIn wsX8_smallestIn r_X8_smallestIn (wPN [.int a0] H0 D cy []) (wQR Q H0) 0 0 wNo := by
  refine Met.ofW (cc := cX8_smallestIn) (maxL := 1) (ret := (some .int)) (by decide) rfl ?_
  intro p e s m args below meth c s₁ B hml hv
  obtain ⟨hargs, hH, hP, hK⟩ := hv
  have hx := B.exec
  have hb := B.bytes
  have hr := B.returns
  have hts := atoms_spec (ws := wsX8_smallestIn) B.pre
  have hown : s.vm.findClass RX8 = some m.cls := findClass_of_methodNamed B.named
  have hlocks := B.notSynchronized
  clear B
  subst hH
  have hend : ∀ (r : Int32), Q r → ∀ T9 : State, T9.heap = s.heap → (wQR Q s.heap) args s (.returned (some (.int r))) T9 := fun r hq T9 ht => ⟨⟨r, (), rfl, hq, ht⟩, by rw [ht]; exact Nat.le_refl _, fun _ _ _ => by rw [ht]⟩
  generalize (wQR Q s.heap) = Qc at hend ⊢
  have hS : va_S wNo s.heap s.heap [] := va_S.rf
  show W p l e r_X8_smallestIn s m args below meth c s.heap [] 0 0 (MQ below Qc args s 0 0 wNo) (entryFrame m args 1)
  rw [show entryFrame m args 1 = entryFrame m ([.int a0] : List Value).toArray 1 from by rw [hargs]]
  have hl := lv_entry ([.int a0]) (n := 1) (Nat.le_of_ble_eq_true rfl)
  rw [lg_entry_eq]
  generalize (lg_sl ([.int a0]) ++ List.replicate (1 - (lg_sl ([.int a0])).length) Slot.unset).toArray = ls at hl ⊢
  have hl : lv_has ls 1 [(0, .int a0)] := hl
  have h := hq
  clear hargs hq
  unfold p_X8_smallestIn at h
  refine lv_iload_n hx hb dX8_smallestIn_0 rfl (lv_at hl 0 rfl) ?_
  refine lv_iconst (v := 0) hx hb dX8_smallestIn_1 (by decide) ?_
  have hPc := hP.sub (ws' := []) [] rfl
  refine w_callR (va_runS (As := [.int a0, .int 0]) (rest := []) ⟨hx, hb, hml, hown, hts⟩ (c_X8_memberOf l D cy s.heap a0 0 _ h) (va_cwS 2 hts gX8_smallestIn_X8_memberOf rfl rfl rfl (by decide +kernel) ⟨Nat.le_of_ble_eq_true rfl, Nat.le_of_ble_eq_true rfl⟩) (w_preSN hK hPc) rfl rfl hl.1 rfl (lv_room (Nat.le_of_ble_eq_true rfl)) dX8_smallestIn_2 ⟨Nat.zero_le _, Nat.zero_le _⟩) hS (fun r1 locs h hS => ?_)
  try dsimp only at h
  exact W.iret hx hb hr (fun t ht _ => hend r1 h t ht) hS.2.2 dX8_smallestIn_5

abbrev r_X8_isDishValue : Room := { frames := 1, cells := 0, slots := 0, locals := 22 }
set_option maxHeartbeats 4000000 in
set_option maxRecDepth 100000 in
theorem c_X8_isDishValue (l : Launch) (D : va_G) (cy : Nat → ClassId) (H0 : Heap)  (a0 : Int32) (a1 : Int32) (Q : Int32 → Prop) (hq : p_X8_isDishValue a0 a1 Q) : Met l yX8_isDishValue wsX8_isDishValue r_X8_isDishValue (wPR [.int a0, .int a1] H0 D cy []) (wQZ Q H0) 0 0 wNo := by
  refine Met.ofW (cc := cX8_isDishValue) (maxL := 2) (ret := (some .boolean)) (by decide) rfl ?_
  intro p e s m args below meth c s₁ B hml hv
  obtain ⟨hargs, hH, hE, hP, hK⟩ := hv
  have hx := B.exec
  have hb := B.bytes
  have hr := B.returns
  have hts := atoms_spec (ws := wsX8_isDishValue) B.pre
  have hown : s.vm.findClass RX8 = some m.cls := findClass_of_methodNamed B.named
  have hlocks := B.notSynchronized
  clear B
  subst hH
  have hend : ∀ (r : Int32), (r = 0 ∨ r = 1) → Q r → ∀ T9 : State, T9.heap = s.heap → (wQZ Q s.heap) args s (.returned (some (.int r))) T9 := fun r hz hq T9 ht => ⟨⟨r, (), rfl, ⟨hz, hq⟩, ht⟩, by rw [ht]; exact Nat.le_refl _, fun _ _ _ => by rw [ht]⟩
  generalize (wQZ Q s.heap) = Qc at hend ⊢
  have hS : va_S wNo s.heap s.heap [] := va_S.rf
  show W p l e r_X8_isDishValue s m args below meth c s.heap [] 0 0 (MQ below Qc args s 0 0 wNo) (entryFrame m args 2)
  rw [show entryFrame m args 2 = entryFrame m ([.int a0, .int a1] : List Value).toArray 2 from by rw [hargs]]
  have hl := lv_entry ([.int a0, .int a1]) (n := 2) (Nat.le_of_ble_eq_true rfl)
  rw [lg_entry_eq]
  generalize (lg_sl ([.int a0, .int a1]) ++ List.replicate (2 - (lg_sl ([.int a0, .int a1])).length) Slot.unset).toArray = ls at hl ⊢
  have hl : lv_has ls 2 [(0, .int a0), (1, .int a1)] := hl
  have h := hq
  clear hargs hq
  unfold p_X8_isDishValue at h
  refine lv_iload_n hx hb dX8_isDishValue_0 rfl (lv_at hl 0 rfl) ?_
  refine lv_iconst (v := 0) hx hb dX8_isDishValue_1 (by decide) ?_
  refine lv_bipush (v := 6) hx hb dX8_isDishValue_2 (by decide) ?_
  have hPc := hP.sub (ws' := []) [] rfl
  refine w_callZ (va_runS (As := [.int a0, .int 0, .int 6]) (rest := []) ⟨hx, hb, hml, hown, hts⟩ (c_X8_inRange l D cy s.heap a0 0 6 _ h) (va_cwS 3 hts gX8_isDishValue_X8_inRange rfl rfl rfl (by decide +kernel) ⟨Nat.le_of_ble_eq_true rfl, Nat.le_of_ble_eq_true rfl⟩) (w_preSN hK hPc) rfl rfl hl.1 rfl (lv_room (Nat.le_of_ble_eq_true rfl)) dX8_isDishValue_4 ⟨Nat.zero_le _, Nat.zero_le _⟩) hS (fun r1 locs z_r1 h hS => ?_)
  try dsimp only at h
  refine lv_if_eq (tgt := 31) hx hb dX8_isDishValue_7 rfl (fun hc => ?_) (fun hc => ?_)
  · replace h := h.1 hc
    refine lv_iconst (v := 0) hx hb dX8_isDishValue_31 (by decide) ?_
    exact W.zret hx hb hr rfl (fun t ht _ => hend 0 (by decide) h t ht) hS.2.2 dX8_isDishValue_32
  · replace h := h.2 hc
    refine lv_iload_n hx hb dX8_isDishValue_10 rfl (lv_at hl 1 rfl) ?_
    obtain ⟨t11, hZ11, hT11⟩ := hE.2.1
    refine va_gets hx hb hZ11 hS hown (hts (.fieldLink RX8 315 "FoldedMenu" "DISH_LOW" "[I") (by decide +kernel)) (fun _ h9 => h9) dX8_isDishValue_11 ?_
    refine lv_iload_n hx hb dX8_isDishValue_14 rfl (lv_at hl 0 rfl) ?_
    obtain ⟨hi, h⟩ := h
    refine va_ti hx hb hT11 hS hi (v := .int (tDL a0.toNatClampNeg)) rfl dX8_isDishValue_15 ?_
    obtain ⟨t16, hZ16, hT16⟩ := hE.2.2.1
    refine va_gets hx hb hZ16 hS hown (hts (.fieldLink RX8 319 "FoldedMenu" "DISH_HIGH" "[I") (by decide +kernel)) (fun _ h9 => h9) dX8_isDishValue_16 ?_
    refine lv_iload_n hx hb dX8_isDishValue_19 rfl (lv_at hl 0 rfl) ?_
    obtain ⟨hi, h⟩ := h
    refine va_ti hx hb hT16 hS hi (v := .int (tDH a0.toNatClampNeg)) rfl dX8_isDishValue_20 ?_
    have hPc := hP.sub (ws' := []) [] rfl
    refine w_callZ (va_runS (As := [.int a1, .int (tDL a0.toNatClampNeg), .int (tDH a0.toNatClampNeg)]) (rest := []) ⟨hx, hb, hml, hown, hts⟩ (c_X8_inRange l D cy s.heap a1 ((tDL a0.toNatClampNeg)) ((tDH a0.toNatClampNeg)) _ h) (va_cwS 3 hts gX8_isDishValue_X8_inRange rfl rfl rfl (by decide +kernel) ⟨Nat.le_of_ble_eq_true rfl, Nat.le_of_ble_eq_true rfl⟩) (w_preSN hK hPc) rfl rfl hl.1 rfl (lv_room (Nat.le_of_ble_eq_true rfl)) dX8_isDishValue_21 ⟨Nat.zero_le _, Nat.zero_le _⟩) hS (fun r2 locs z_r2 h hS => ?_)
    try dsimp only at h
    refine lv_if_eq (tgt := 31) hx hb dX8_isDishValue_24 rfl (fun hc => ?_) (fun hc => ?_)
    · replace h := h.1 hc
      refine lv_iconst (v := 0) hx hb dX8_isDishValue_31 (by decide) ?_
      exact W.zret hx hb hr rfl (fun t ht _ => hend 0 (by decide) h t ht) hS.2.2 dX8_isDishValue_32
    · replace h := h.2 hc
      refine lv_iconst (v := 1) hx hb dX8_isDishValue_27 (by decide) ?_
      refine lv_goto (tgt := 32) hx hb dX8_isDishValue_28 rfl ?_
      exact W.zret hx hb hr rfl (fun t ht _ => hend 1 (by decide) h t ht) hS.2.2 dX8_isDishValue_32

abbrev r_X8_isCardValue : Room := { frames := 1, cells := 0, slots := 0, locals := 22 }
set_option maxHeartbeats 4000000 in
set_option maxRecDepth 100000 in
theorem c_X8_isCardValue (l : Launch) (D : va_G) (cy : Nat → ClassId) (H0 : Heap)  (a0 : Int32) (a1 : Int32) (Q : Int32 → Prop) (hq : p_X8_isCardValue a0 a1 Q) : Met l yX8_isCardValue wsX8_isCardValue r_X8_isCardValue (wPR [.int a0, .int a1] H0 D cy []) (wQZ Q H0) 0 0 wNo := by
  refine Met.ofW (cc := cX8_isCardValue) (maxL := 2) (ret := (some .boolean)) (by decide) rfl ?_
  intro p e s m args below meth c s₁ B hml hv
  obtain ⟨hargs, hH, hE, hP, hK⟩ := hv
  have hx := B.exec
  have hb := B.bytes
  have hr := B.returns
  have hts := atoms_spec (ws := wsX8_isCardValue) B.pre
  have hown : s.vm.findClass RX8 = some m.cls := findClass_of_methodNamed B.named
  have hlocks := B.notSynchronized
  clear B
  subst hH
  have hend : ∀ (r : Int32), (r = 0 ∨ r = 1) → Q r → ∀ T9 : State, T9.heap = s.heap → (wQZ Q s.heap) args s (.returned (some (.int r))) T9 := fun r hz hq T9 ht => ⟨⟨r, (), rfl, ⟨hz, hq⟩, ht⟩, by rw [ht]; exact Nat.le_refl _, fun _ _ _ => by rw [ht]⟩
  generalize (wQZ Q s.heap) = Qc at hend ⊢
  have hS : va_S wNo s.heap s.heap [] := va_S.rf
  show W p l e r_X8_isCardValue s m args below meth c s.heap [] 0 0 (MQ below Qc args s 0 0 wNo) (entryFrame m args 2)
  rw [show entryFrame m args 2 = entryFrame m ([.int a0, .int a1] : List Value).toArray 2 from by rw [hargs]]
  have hl := lv_entry ([.int a0, .int a1]) (n := 2) (Nat.le_of_ble_eq_true rfl)
  rw [lg_entry_eq]
  generalize (lg_sl ([.int a0, .int a1]) ++ List.replicate (2 - (lg_sl ([.int a0, .int a1])).length) Slot.unset).toArray = ls at hl ⊢
  have hl : lv_has ls 2 [(0, .int a0), (1, .int a1)] := hl
  have h := hq
  clear hargs hq
  unfold p_X8_isCardValue at h
  refine lv_iload_n hx hb dX8_isCardValue_0 rfl (lv_at hl 0 rfl) ?_
  refine lv_iconst (v := 0) hx hb dX8_isCardValue_1 (by decide) ?_
  refine lv_iconst (v := 5) hx hb dX8_isCardValue_2 (by decide) ?_
  have hPc := hP.sub (ws' := []) [] rfl
  refine w_callZ (va_runS (As := [.int a0, .int 0, .int 5]) (rest := []) ⟨hx, hb, hml, hown, hts⟩ (c_X8_inRange l D cy s.heap a0 0 5 _ h) (va_cwS 3 hts gX8_isCardValue_X8_inRange rfl rfl rfl (by decide +kernel) ⟨Nat.le_of_ble_eq_true rfl, Nat.le_of_ble_eq_true rfl⟩) (w_preSN hK hPc) rfl rfl hl.1 rfl (lv_room (Nat.le_of_ble_eq_true rfl)) dX8_isCardValue_3 ⟨Nat.zero_le _, Nat.zero_le _⟩) hS (fun r1 locs z_r1 h hS => ?_)
  try dsimp only at h
  refine lv_if_eq (tgt := 30) hx hb dX8_isCardValue_6 rfl (fun hc => ?_) (fun hc => ?_)
  · replace h := h.1 hc
    refine lv_iconst (v := 0) hx hb dX8_isCardValue_30 (by decide) ?_
    exact W.zret hx hb hr rfl (fun t ht _ => hend 0 (by decide) h t ht) hS.2.2 dX8_isCardValue_31
  · replace h := h.2 hc
    refine lv_iload_n hx hb dX8_isCardValue_9 rfl (lv_at hl 1 rfl) ?_
    obtain ⟨t10, hZ10, hT10⟩ := hE.2.2.2.1
    refine va_gets hx hb hZ10 hS hown (hts (.fieldLink RX8 322 "FoldedMenu" "CARD_LOW" "[I") (by decide +kernel)) (fun _ h9 => h9) dX8_isCardValue_10 ?_
    refine lv_iload_n hx hb dX8_isCardValue_13 rfl (lv_at hl 0 rfl) ?_
    obtain ⟨hi, h⟩ := h
    refine va_ti hx hb hT10 hS hi (v := .int (tCL a0.toNatClampNeg)) rfl dX8_isCardValue_14 ?_
    obtain ⟨t15, hZ15, hT15⟩ := hE.2.2.2.2.1
    refine va_gets hx hb hZ15 hS hown (hts (.fieldLink RX8 325 "FoldedMenu" "CARD_HIGH" "[I") (by decide +kernel)) (fun _ h9 => h9) dX8_isCardValue_15 ?_
    refine lv_iload_n hx hb dX8_isCardValue_18 rfl (lv_at hl 0 rfl) ?_
    obtain ⟨hi, h⟩ := h
    refine va_ti hx hb hT15 hS hi (v := .int (tCH a0.toNatClampNeg)) rfl dX8_isCardValue_19 ?_
    have hPc := hP.sub (ws' := []) [] rfl
    refine w_callZ (va_runS (As := [.int a1, .int (tCL a0.toNatClampNeg), .int (tCH a0.toNatClampNeg)]) (rest := []) ⟨hx, hb, hml, hown, hts⟩ (c_X8_inRange l D cy s.heap a1 ((tCL a0.toNatClampNeg)) ((tCH a0.toNatClampNeg)) _ h) (va_cwS 3 hts gX8_isCardValue_X8_inRange rfl rfl rfl (by decide +kernel) ⟨Nat.le_of_ble_eq_true rfl, Nat.le_of_ble_eq_true rfl⟩) (w_preSN hK hPc) rfl rfl hl.1 rfl (lv_room (Nat.le_of_ble_eq_true rfl)) dX8_isCardValue_20 ⟨Nat.zero_le _, Nat.zero_le _⟩) hS (fun r2 locs z_r2 h hS => ?_)
    try dsimp only at h
    refine lv_if_eq (tgt := 30) hx hb dX8_isCardValue_23 rfl (fun hc => ?_) (fun hc => ?_)
    · replace h := h.1 hc
      refine lv_iconst (v := 0) hx hb dX8_isCardValue_30 (by decide) ?_
      exact W.zret hx hb hr rfl (fun t ht _ => hend 0 (by decide) h t ht) hS.2.2 dX8_isCardValue_31
    · replace h := h.2 hc
      refine lv_iconst (v := 1) hx hb dX8_isCardValue_26 (by decide) ?_
      refine lv_goto (tgt := 31) hx hb dX8_isCardValue_27 rfl ?_
      exact W.zret hx hb hr rfl (fun t ht _ => hend 1 (by decide) h t ht) hS.2.2 dX8_isCardValue_31

abbrev r_X8_areSetArguments : Room := { frames := 2, cells := 0, slots := 0, locals := 42 }
set_option maxHeartbeats 4000000 in
set_option maxRecDepth 100000 in
theorem c_X8_areSetArguments (l : Launch) (D : va_G) (cy : Nat → ClassId) (H0 : Heap)  (a0 : Int32) (a1 : Int32) (a2 : Int32) (Q : Int32 → Prop) (hq : p_X8_areSetArguments a0 a1 a2 Q) : Met l yX8_areSetArguments wsX8_areSetArguments r_X8_areSetArguments (wPN [.int a0, .int a1, .int a2] H0 D cy []) (wQZ Q H0) 0 0 wNo := by
  refine Met.ofW (cc := cX8_areSetArguments) (maxL := 3) (ret := (some .boolean)) (by decide) rfl ?_
  intro p e s m args below meth c s₁ B hml hv
  obtain ⟨hargs, hH, hP, hK⟩ := hv
  have hx := B.exec
  have hb := B.bytes
  have hr := B.returns
  have hts := atoms_spec (ws := wsX8_areSetArguments) B.pre
  have hown : s.vm.findClass RX8 = some m.cls := findClass_of_methodNamed B.named
  have hlocks := B.notSynchronized
  clear B
  subst hH
  have hend : ∀ (r : Int32), (r = 0 ∨ r = 1) → Q r → ∀ T9 : State, T9.heap = s.heap → (wQZ Q s.heap) args s (.returned (some (.int r))) T9 := fun r hz hq T9 ht => ⟨⟨r, (), rfl, ⟨hz, hq⟩, ht⟩, by rw [ht]; exact Nat.le_refl _, fun _ _ _ => by rw [ht]⟩
  generalize (wQZ Q s.heap) = Qc at hend ⊢
  have hS : va_S wNo s.heap s.heap [] := va_S.rf
  show W p l e r_X8_areSetArguments s m args below meth c s.heap [] 0 0 (MQ below Qc args s 0 0 wNo) (entryFrame m args 3)
  rw [show entryFrame m args 3 = entryFrame m ([.int a0, .int a1, .int a2] : List Value).toArray 3 from by rw [hargs]]
  have hl := lv_entry ([.int a0, .int a1, .int a2]) (n := 3) (Nat.le_of_ble_eq_true rfl)
  rw [lg_entry_eq]
  generalize (lg_sl ([.int a0, .int a1, .int a2]) ++ List.replicate (3 - (lg_sl ([.int a0, .int a1, .int a2])).length) Slot.unset).toArray = ls at hl ⊢
  have hl : lv_has ls 3 [(0, .int a0), (1, .int a1), (2, .int a2)] := hl
  have h := hq
  clear hargs hq
  unfold p_X8_areSetArguments at h
  refine lv_iload_n hx hb dX8_areSetArguments_0 rfl (lv_at hl 0 rfl) ?_
  have hPc := hP.sub (ws' := []) [] rfl
  refine w_callZ (va_runS (As := [.int a0]) (rest := []) ⟨hx, hb, hml, hown, hts⟩ (c_X8_isSide l D cy s.heap a0 _ h) (va_cwS 1 hts gX8_areSetArguments_X8_isSide rfl rfl rfl (by decide +kernel) ⟨Nat.le_of_ble_eq_true rfl, Nat.le_of_ble_eq_true rfl⟩) (w_preSN hK hPc) rfl rfl hl.1 rfl (lv_room (Nat.le_of_ble_eq_true rfl)) dX8_areSetArguments_1 ⟨Nat.zero_le _, Nat.zero_le _⟩) hS (fun r1 locs z_r1 h hS => ?_)
  try dsimp only at h
  refine lv_if_eq (tgt := 31) hx hb dX8_areSetArguments_4 rfl (fun hc => ?_) (fun hc => ?_)
  · replace h := h.1 hc
    refine lv_iconst (v := 0) hx hb dX8_areSetArguments_31 (by decide) ?_
    exact W.zret hx hb hr rfl (fun t ht _ => hend 0 (by decide) h t ht) hS.2.2 dX8_areSetArguments_32
  · replace h := h.2 hc
    refine lv_iload_n hx hb dX8_areSetArguments_7 rfl (lv_at hl 1 rfl) ?_
    refine lv_iconst (v := 0) hx hb dX8_areSetArguments_8 (by decide) ?_
    refine lv_sipush (v := 150) hx hb dX8_areSetArguments_9 (by decide) ?_
    have hPc := hP.sub (ws' := []) [] rfl
    refine w_callZ (va_runS (As := [.int a1, .int 0, .int 150]) (rest := []) ⟨hx, hb, hml, hown, hts⟩ (c_X8_inRange l D cy s.heap a1 0 150 _ h) (va_cwS 3 hts gX8_areSetArguments_X8_inRange rfl rfl rfl (by decide +kernel) ⟨Nat.le_of_ble_eq_true rfl, Nat.le_of_ble_eq_true rfl⟩) (w_preSN hK hPc) rfl rfl hl.1 rfl (lv_room (Nat.le_of_ble_eq_true rfl)) dX8_areSetArguments_12 ⟨Nat.zero_le _, Nat.zero_le _⟩) hS (fun r2 locs z_r2 h hS => ?_)
    try dsimp only at h
    refine lv_if_eq (tgt := 31) hx hb dX8_areSetArguments_15 rfl (fun hc => ?_) (fun hc => ?_)
    · replace h := h.1 hc
      refine lv_iconst (v := 0) hx hb dX8_areSetArguments_31 (by decide) ?_
      exact W.zret hx hb hr rfl (fun t ht _ => hend 0 (by decide) h t ht) hS.2.2 dX8_areSetArguments_32
    · replace h := h.2 hc
      refine lv_iload_n hx hb dX8_areSetArguments_18 rfl (lv_at hl 2 rfl) ?_
      refine lv_iconst (v := 1) hx hb dX8_areSetArguments_19 (by decide) ?_
      refine lv_iconst (v := 4) hx hb dX8_areSetArguments_20 (by decide) ?_
      have hPc := hP.sub (ws' := []) [] rfl
      refine w_callZ (va_runS (As := [.int a2, .int 1, .int 4]) (rest := []) ⟨hx, hb, hml, hown, hts⟩ (c_X8_inRange l D cy s.heap a2 1 4 _ h) (va_cwS 3 hts gX8_areSetArguments_X8_inRange rfl rfl rfl (by decide +kernel) ⟨Nat.le_of_ble_eq_true rfl, Nat.le_of_ble_eq_true rfl⟩) (w_preSN hK hPc) rfl rfl hl.1 rfl (lv_room (Nat.le_of_ble_eq_true rfl)) dX8_areSetArguments_21 ⟨Nat.zero_le _, Nat.zero_le _⟩) hS (fun r3 locs z_r3 h hS => ?_)
      try dsimp only at h
      refine lv_if_eq (tgt := 31) hx hb dX8_areSetArguments_24 rfl (fun hc => ?_) (fun hc => ?_)
      · replace h := h.1 hc
        refine lv_iconst (v := 0) hx hb dX8_areSetArguments_31 (by decide) ?_
        exact W.zret hx hb hr rfl (fun t ht _ => hend 0 (by decide) h t ht) hS.2.2 dX8_areSetArguments_32
      · replace h := h.2 hc
        refine lv_iconst (v := 1) hx hb dX8_areSetArguments_27 (by decide) ?_
        refine lv_goto (tgt := 32) hx hb dX8_areSetArguments_28 rfl ?_
        exact W.zret hx hb hr rfl (fun t ht _ => hend 1 (by decide) h t ht) hS.2.2 dX8_areSetArguments_32

theorem i_X3_size_X3 : ∀ w ∈ u_ws RX3 TX3 4, w ∈ wsX3_size := by decide +kernel
abbrev r_X3_size : Room := { frames := 0, cells := 0, slots := 0, locals := 0 }
set_option maxHeartbeats 4000000 in
set_option maxRecDepth 100000 in
theorem c_X3_size (l : Launch) (D : va_G) (cy : Nat → ClassId) (H0 : Heap) (t : Nat → Nat) (t_dishes : Int32) (t_way : Int32) (Q : Int32 → Prop) (hq : p_X3_size t_dishes Q) : Met l yX3_size wsX3_size r_X3_size (wPN [.ref (t 0)] H0 D cy [(t 0, .inr (3, [.ref (t 1), .ref (t 2), .int t_dishes, .int t_way]))]) (wQR Q H0) 0 0 wNo := by
  refine Met.ofW (cc := cX3_size) (maxL := 1) (ret := (some .int)) (by decide) rfl ?_
  intro p e s m args below meth c s₁ B hml hv
  obtain ⟨hargs, hH, hP, hK⟩ := hv
  have hx := B.exec
  have hb := B.bytes
  have hr := B.returns
  have hts := atoms_spec (ws := wsX3_size) B.pre
  have hown : s.vm.findClass RX3 = some m.cls := findClass_of_methodNamed B.named
  have hlocks := B.notSynchronized
  clear B
  subst hH
  have hend : ∀ (r : Int32), Q r → ∀ T9 : State, T9.heap = s.heap → (wQR Q s.heap) args s (.returned (some (.int r))) T9 := fun r hq T9 ht => ⟨⟨r, (), rfl, hq, ht⟩, by rw [ht]; exact Nat.le_refl _, fun _ _ _ => by rw [ht]⟩
  generalize (wQR Q s.heap) = Qc at hend ⊢
  have hS : va_S wNo s.heap s.heap [] := va_S.rf
  show W p l e r_X3_size s m args below meth c s.heap [] 0 0 (MQ below Qc args s 0 0 wNo) (entryFrame m args 1)
  rw [show entryFrame m args 1 = entryFrame m ([.ref (t 0)] : List Value).toArray 1 from by rw [hargs]]
  have hl := lv_entry ([.ref (t 0)]) (n := 1) (Nat.le_of_ble_eq_true rfl)
  rw [lg_entry_eq]
  generalize (lg_sl ([.ref (t 0)]) ++ List.replicate (1 - (lg_sl ([.ref (t 0)])).length) Slot.unset).toArray = ls at hl ⊢
  have hl : lv_has ls 1 [(0, .ref (t 0))] := hl
  have h := hq
  clear hargs hq
  unfold p_X3_size at h
  refine lv_aload_n hx hb dX3_size_0 rfl (lv_at hl 0 rfl) ?_
  refine va_get (D := D) (ci := 3) (v := .int t_dishes) (C := RX3) (T := TX3) (N := 4) hx hb hts i_X3_size_X3 hown hK hP 0 rfl rfl 2 (by decide) (hts (.fieldLink RX3 18 "FoldedMenu$Menu" "dishes" "I") (by decide +kernel)) (fun _ h9 => h9) rfl dX3_size_1 ?_
  exact W.iret hx hb hr (fun t ht _ => hend t_dishes h t ht) hS.2.2 dX3_size_4

theorem i_X3_valueOf_X3 : ∀ w ∈ u_ws RX3 TX3 4, w ∈ wsX3_valueOf := by decide +kernel
abbrev r_X3_valueOf : Room := { frames := 0, cells := 0, slots := 0, locals := 0 }
set_option maxHeartbeats 4000000 in
set_option maxRecDepth 100000 in
theorem c_X3_valueOf (l : Launch) (D : va_G) (cy : Nat → ClassId) (H0 : Heap) (t : Nat → Nat) (t_values : Nat → Int32) (t_dishes : Int32) (t_way : Int32) (a1 : Int32) (a2 : Int32) (Q : Int32 → Prop) (hq : p_X3_valueOf t_values a1 a2 Q) : Met l yX3_valueOf wsX3_valueOf r_X3_valueOf (wPN [.ref (t 0), .int a1, .int a2] H0 D cy [(t 0, .inr (3, [.ref (t 1), .ref (t 2), .int t_dishes, .int t_way])), (t 1, .inl (cy 0, 140, .inl t_values))]) (wQR Q H0) 0 0 wNo := by
  refine Met.ofW (cc := cX3_valueOf) (maxL := 4) (ret := (some .int)) (by decide) rfl ?_
  intro p e s m args below meth c s₁ B hml hv
  obtain ⟨hargs, hH, hP, hK⟩ := hv
  have hx := B.exec
  have hb := B.bytes
  have hr := B.returns
  have hts := atoms_spec (ws := wsX3_valueOf) B.pre
  have hown : s.vm.findClass RX3 = some m.cls := findClass_of_methodNamed B.named
  have hlocks := B.notSynchronized
  clear B
  subst hH
  have hend : ∀ (r : Int32), Q r → ∀ T9 : State, T9.heap = s.heap → (wQR Q s.heap) args s (.returned (some (.int r))) T9 := fun r hq T9 ht => ⟨⟨r, (), rfl, hq, ht⟩, by rw [ht]; exact Nat.le_refl _, fun _ _ _ => by rw [ht]⟩
  generalize (wQR Q s.heap) = Qc at hend ⊢
  have hS : va_S wNo s.heap s.heap [] := va_S.rf
  show W p l e r_X3_valueOf s m args below meth c s.heap [] 0 0 (MQ below Qc args s 0 0 wNo) (entryFrame m args 4)
  rw [show entryFrame m args 4 = entryFrame m ([.ref (t 0), .int a1, .int a2] : List Value).toArray 4 from by rw [hargs]]
  have hl := lv_entry ([.ref (t 0), .int a1, .int a2]) (n := 4) (Nat.le_of_ble_eq_true rfl)
  rw [lg_entry_eq]
  generalize (lg_sl ([.ref (t 0), .int a1, .int a2]) ++ List.replicate (4 - (lg_sl ([.ref (t 0), .int a1, .int a2])).length) Slot.unset).toArray = ls at hl ⊢
  have hl : lv_has ls 4 [(0, .ref (t 0)), (1, .int a1), (2, .int a2)] := hl
  have h := hq
  clear hargs hq
  unfold p_X3_valueOf at h
  refine lv_iload_n hx hb dX3_valueOf_0 rfl (lv_at hl 1 rfl) ?_
  refine lv_bipush (v := 7) hx hb dX3_valueOf_1 (by decide) ?_
  refine lv_imul hx hb dX3_valueOf_3 ?_
  refine lv_iload_n hx hb dX3_valueOf_4 rfl (lv_at hl 2 rfl) ?_
  refine lv_iadd hx hb dX3_valueOf_5 ?_
  refine lv_istore_n (lv' := [(3, .int ((a1 * 7) + a2)), (0, .ref (t 0)), (1, .int a1), (2, .int a2)]) hx hb dX3_valueOf_6 rfl hl (by decide) rfl (fun ls hl => ?_)
  refine lv_iconst (v := 0) hx hb dX3_valueOf_7 (by decide) ?_
  refine lv_iload_n hx hb dX3_valueOf_8 rfl (lv_at hl 0 rfl) ?_
  refine lv_icmp_gt (tgt := 30) hx hb dX3_valueOf_9 rfl (fun hc => ?_) (fun hc => ?_)
  · replace h := h.1 hc
    refine lv_iconst (v := 0) hx hb dX3_valueOf_30 (by decide) ?_
    exact W.iret hx hb hr (fun t ht _ => hend 0 h t ht) hS.2.2 dX3_valueOf_31
  · replace h := h.2 hc
    refine lv_iload_n hx hb dX3_valueOf_12 rfl (lv_at hl 0 rfl) ?_
    refine lv_aload_n hx hb dX3_valueOf_13 rfl (lv_at hl 1 rfl) ?_
    refine va_get (D := D) (ci := 3) (v := .ref (t 1)) (C := RX3) (T := TX3) (N := 4) hx hb hts i_X3_valueOf_X3 hown hK hP 0 rfl rfl 0 (by decide) (hts (.fieldLink RX3 9 "FoldedMenu$Menu" "values" "[I") (by decide +kernel)) (fun _ h9 => h9) rfl dX3_valueOf_14 ?_
    refine va_alen hx hb hK hP 1 0 rfl (ty := .int) rfl (v := 140) rfl dX3_valueOf_17 ?_
    refine lv_icmp_ge (tgt := 30) hx hb dX3_valueOf_18 rfl (fun hc => ?_) (fun hc => ?_)
    · replace h := h.1 hc
      refine lv_iconst (v := 0) hx hb dX3_valueOf_30 (by decide) ?_
      exact W.iret hx hb hr (fun t ht _ => hend 0 h t ht) hS.2.2 dX3_valueOf_31
    · replace h := h.2 hc
      refine lv_aload_n hx hb dX3_valueOf_21 rfl (lv_at hl 1 rfl) ?_
      refine va_get (D := D) (ci := 3) (v := .ref (t 1)) (C := RX3) (T := TX3) (N := 4) hx hb hts i_X3_valueOf_X3 hown hK hP 0 rfl rfl 0 (by decide) (hts (.fieldLink RX3 9 "FoldedMenu$Menu" "values" "[I") (by decide +kernel)) (fun _ h9 => h9) rfl dX3_valueOf_22 ?_
      refine lv_iload_n hx hb dX3_valueOf_25 rfl (lv_at hl 0 rfl) ?_
      obtain ⟨hi, h⟩ := h
      refine va_iald hx hb hK hP 1 0 rfl rfl hi dX3_valueOf_26 ?_
      refine lv_goto (tgt := 31) hx hb dX3_valueOf_27 rfl ?_
      exact W.iret hx hb hr (fun t ht _ => hend ((t_values (((a1 * 7) + a2)).toNatClampNeg)) h t ht) hS.2.2 dX3_valueOf_31

theorem i_X3_setting_X3 : ∀ w ∈ u_ws RX3 TX3 4, w ∈ wsX3_setting := by decide +kernel
abbrev r_X3_setting : Room := { frames := 0, cells := 0, slots := 0, locals := 0 }
set_option maxHeartbeats 4000000 in
set_option maxRecDepth 100000 in
theorem c_X3_setting (l : Launch) (D : va_G) (cy : Nat → ClassId) (H0 : Heap) (t : Nat → Nat) (t_settings : Nat → Int32) (t_dishes : Int32) (t_way : Int32) (a1 : Int32) (Q : Int32 → Prop) (hq : p_X3_setting t_settings a1 Q) : Met l yX3_setting wsX3_setting r_X3_setting (wPN [.ref (t 0), .int a1] H0 D cy [(t 0, .inr (3, [.ref (t 1), .ref (t 2), .int t_dishes, .int t_way])), (t 2, .inl (cy 0, 6, .inl t_settings))]) (wQR Q H0) 0 0 wNo := by
  refine Met.ofW (cc := cX3_setting) (maxL := 2) (ret := (some .int)) (by decide) rfl ?_
  intro p e s m args below meth c s₁ B hml hv
  obtain ⟨hargs, hH, hP, hK⟩ := hv
  have hx := B.exec
  have hb := B.bytes
  have hr := B.returns
  have hts := atoms_spec (ws := wsX3_setting) B.pre
  have hown : s.vm.findClass RX3 = some m.cls := findClass_of_methodNamed B.named
  have hlocks := B.notSynchronized
  clear B
  subst hH
  have hend : ∀ (r : Int32), Q r → ∀ T9 : State, T9.heap = s.heap → (wQR Q s.heap) args s (.returned (some (.int r))) T9 := fun r hq T9 ht => ⟨⟨r, (), rfl, hq, ht⟩, by rw [ht]; exact Nat.le_refl _, fun _ _ _ => by rw [ht]⟩
  generalize (wQR Q s.heap) = Qc at hend ⊢
  have hS : va_S wNo s.heap s.heap [] := va_S.rf
  show W p l e r_X3_setting s m args below meth c s.heap [] 0 0 (MQ below Qc args s 0 0 wNo) (entryFrame m args 2)
  rw [show entryFrame m args 2 = entryFrame m ([.ref (t 0), .int a1] : List Value).toArray 2 from by rw [hargs]]
  have hl := lv_entry ([.ref (t 0), .int a1]) (n := 2) (Nat.le_of_ble_eq_true rfl)
  rw [lg_entry_eq]
  generalize (lg_sl ([.ref (t 0), .int a1]) ++ List.replicate (2 - (lg_sl ([.ref (t 0), .int a1])).length) Slot.unset).toArray = ls at hl ⊢
  have hl : lv_has ls 2 [(0, .ref (t 0)), (1, .int a1)] := hl
  have h := hq
  clear hargs hq
  unfold p_X3_setting at h
  refine lv_iconst (v := 0) hx hb dX3_setting_0 (by decide) ?_
  refine lv_iload_n hx hb dX3_setting_1 rfl (lv_at hl 1 rfl) ?_
  refine lv_icmp_gt (tgt := 20) hx hb dX3_setting_2 rfl (fun hc => ?_) (fun hc => ?_)
  · replace h := h.1 hc
    refine lv_iconst (v := 0) hx hb dX3_setting_20 (by decide) ?_
    exact W.iret hx hb hr (fun t ht _ => hend 0 h t ht) hS.2.2 dX3_setting_21
  · replace h := h.2 hc
    refine lv_iload_n hx hb dX3_setting_5 rfl (lv_at hl 1 rfl) ?_
    refine lv_bipush (v := 6) hx hb dX3_setting_6 (by decide) ?_
    refine lv_icmp_ge (tgt := 20) hx hb dX3_setting_8 rfl (fun hc => ?_) (fun hc => ?_)
    · replace h := h.1 hc
      refine lv_iconst (v := 0) hx hb dX3_setting_20 (by decide) ?_
      exact W.iret hx hb hr (fun t ht _ => hend 0 h t ht) hS.2.2 dX3_setting_21
    · replace h := h.2 hc
      refine lv_aload_n hx hb dX3_setting_11 rfl (lv_at hl 0 rfl) ?_
      refine va_get (D := D) (ci := 3) (v := .ref (t 2)) (C := RX3) (T := TX3) (N := 4) hx hb hts i_X3_setting_X3 hown hK hP 0 rfl rfl 1 (by decide) (hts (.fieldLink RX3 15 "FoldedMenu$Menu" "settings" "[I") (by decide +kernel)) (fun _ h9 => h9) rfl dX3_setting_12 ?_
      refine lv_iload_n hx hb dX3_setting_15 rfl (lv_at hl 1 rfl) ?_
      obtain ⟨hi, h⟩ := h
      refine va_iald hx hb hK hP 1 0 rfl rfl hi dX3_setting_16 ?_
      refine lv_goto (tgt := 21) hx hb dX3_setting_17 rfl ?_
      exact W.iret hx hb hr (fun t ht _ => hend ((t_settings a1.toNatClampNeg)) h t ht) hS.2.2 dX3_setting_21

abbrev r_X3_textOf : Room := { frames := 1, cells := 0, slots := 0, locals := 23 }
set_option maxHeartbeats 4000000 in
set_option maxRecDepth 100000 in
theorem c_X3_textOf (l : Launch) (D : va_G) (cy : Nat → ClassId) (H0 : Heap) (t : Nat → Nat) (t_values : Nat → Int32) (t_dishes : Int32) (t_way : Int32) (a1 : Int32) (Q : Int32 → Prop) (hq : p_X3_textOf t_values a1 Q) : Met l yX3_textOf wsX3_textOf r_X3_textOf (wPN [.ref (t 0), .int a1] H0 D cy [(t 0, .inr (3, [.ref (t 1), .ref (t 2), .int t_dishes, .int t_way])), (t 1, .inl (cy 0, 140, .inl t_values))]) (wQR Q H0) 0 0 wNo := by
  refine Met.ofW (cc := cX3_textOf) (maxL := 3) (ret := (some .int)) (by decide) rfl ?_
  intro p e s m args below meth c s₁ B hml hv
  obtain ⟨hargs, hH, hP, hK⟩ := hv
  have hx := B.exec
  have hb := B.bytes
  have hr := B.returns
  have hts := atoms_spec (ws := wsX3_textOf) B.pre
  have hown : s.vm.findClass RX3 = some m.cls := findClass_of_methodNamed B.named
  have hlocks := B.notSynchronized
  clear B
  subst hH
  have hend : ∀ (r : Int32), Q r → ∀ T9 : State, T9.heap = s.heap → (wQR Q s.heap) args s (.returned (some (.int r))) T9 := fun r hq T9 ht => ⟨⟨r, (), rfl, hq, ht⟩, by rw [ht]; exact Nat.le_refl _, fun _ _ _ => by rw [ht]⟩
  generalize (wQR Q s.heap) = Qc at hend ⊢
  have hS : va_S wNo s.heap s.heap [] := va_S.rf
  show W p l e r_X3_textOf s m args below meth c s.heap [] 0 0 (MQ below Qc args s 0 0 wNo) (entryFrame m args 3)
  rw [show entryFrame m args 3 = entryFrame m ([.ref (t 0), .int a1] : List Value).toArray 3 from by rw [hargs]]
  have hl := lv_entry ([.ref (t 0), .int a1]) (n := 3) (Nat.le_of_ble_eq_true rfl)
  rw [lg_entry_eq]
  generalize (lg_sl ([.ref (t 0), .int a1]) ++ List.replicate (3 - (lg_sl ([.ref (t 0), .int a1])).length) Slot.unset).toArray = ls at hl ⊢
  have hl : lv_has ls 3 [(0, .ref (t 0)), (1, .int a1)] := hl
  have h := hq
  clear hargs hq
  unfold p_X3_textOf at h
  refine lv_aload_n hx hb dX3_textOf_0 rfl (lv_at hl 0 rfl) ?_
  refine lv_iload_n hx hb dX3_textOf_1 rfl (lv_at hl 1 rfl) ?_
  refine lv_iconst (v := 4) hx hb dX3_textOf_2 (by decide) ?_
  have hPc := hP.sub (ws' := [(t 0, .inr (3, [.ref (t 1), .ref (t 2), .int t_dishes, .int t_way])), (t 1, .inl (cy 0, 140, .inl t_values))]) [0, 1] rfl
  refine w_callR (va_runV (As := [.int a1, .int 4]) (rest := []) ⟨hx, hb, hml, hown, hts⟩ (c_X3_valueOf l D cy s.heap t t_values t_dishes t_way a1 4 _ h) (cwV 2 hts gX3_textOf_X3_valueOf rfl rfl rfl (by decide +kernel) ⟨Nat.le_of_ble_eq_true rfl, Nat.le_of_ble_eq_true rfl⟩) (w_preVN hK hPc (ci := 3) rfl rfl) rfl rfl hl.1 rfl (lv_room (Nat.le_of_ble_eq_true rfl)) dX3_textOf_3 ⟨Nat.zero_le _, Nat.zero_le _⟩) hS (fun r1 locs h hS => ?_)
  try dsimp only at h
  refine lv_istore_n (lv' := [(2, .int r1), (0, .ref (t 0)), (1, .int a1)]) hx hb dX3_textOf_6 rfl hl (by decide) rfl (fun ls hl => ?_)
  refine lv_aload_n hx hb dX3_textOf_7 rfl (lv_at hl 1 rfl) ?_
  refine lv_iload_n hx hb dX3_textOf_8 rfl (lv_at hl 2 rfl) ?_
  refine lv_iconst (v := 1) hx hb dX3_textOf_9 (by decide) ?_
  have hPc := hP.sub (ws' := [(t 0, .inr (3, [.ref (t 1), .ref (t 2), .int t_dishes, .int t_way])), (t 1, .inl (cy 0, 140, .inl t_values))]) [0, 1] rfl
  refine w_callR (va_runV (As := [.int a1, .int 1]) (rest := []) ⟨hx, hb, hml, hown, hts⟩ (c_X3_valueOf l D cy s.heap t t_values t_dishes t_way a1 1 _ h) (cwV 2 hts gX3_textOf_X3_valueOf rfl rfl rfl (by decide +kernel) ⟨Nat.le_of_ble_eq_true rfl, Nat.le_of_ble_eq_true rfl⟩) (w_preVN hK hPc (ci := 3) rfl rfl) rfl rfl hl.1 rfl (lv_room (Nat.le_of_ble_eq_true rfl)) dX3_textOf_10 ⟨Nat.zero_le _, Nat.zero_le _⟩) hS (fun r2 locs h hS => ?_)
  try dsimp only at h
  refine lv_iload_n hx hb dX3_textOf_13 rfl (lv_at hl 0 rfl) ?_
  refine lv_if_ne (tgt := 21) hx hb dX3_textOf_14 rfl (fun hc => ?_) (fun hc => ?_)
  · replace h := h.1 hc
    refine lv_iconst (v := 1) hx hb dX3_textOf_21 (by decide) ?_
    refine lv_iload_n hx hb dX3_textOf_22 rfl (lv_at hl 0 rfl) ?_
    have hPc := hP.sub (ws' := []) [] rfl
    refine w_callR (va_runS (As := [.int r1]) (rest := [.int 1, .int r2]) ⟨hx, hb, hml, hown, hts⟩ (c_J6_bitCount_0f7a4 l D cy s.heap r1 _ h) (va_cwS 1 hts gX3_textOf_J6_bitCount_0f7a4 rfl rfl rfl (by decide +kernel) ⟨Nat.le_of_ble_eq_true rfl, Nat.le_of_ble_eq_true rfl⟩) (w_preSN hK hPc) rfl rfl hl.1 rfl (lv_room (Nat.le_of_ble_eq_true rfl)) dX3_textOf_23 ⟨Nat.zero_le _, Nat.zero_le _⟩) hS (fun r3 locs h hS => ?_)
    try dsimp only at h
    refine lv_iadd hx hb dX3_textOf_26 ?_
    refine lv_iadd hx hb dX3_textOf_27 ?_
    exact W.iret hx hb hr (fun t ht _ => hend ((r2 + (1 + r3))) h t ht) hS.2.2 dX3_textOf_28
  · replace h := h.2 hc
    refine lv_iconst (v := 0) hx hb dX3_textOf_17 (by decide) ?_
    refine lv_goto (tgt := 27) hx hb dX3_textOf_18 rfl ?_
    refine lv_iadd hx hb dX3_textOf_27 ?_
    exact W.iret hx hb hr (fun t ht _ => hend ((r2 + 0)) h t ht) hS.2.2 dX3_textOf_28

abbrev r_X3_linesOf : Room := { frames := 2, cells := 0, slots := 0, locals := 45 }
set_option maxHeartbeats 4000000 in
set_option maxRecDepth 100000 in
theorem c_X3_linesOf (l : Launch) (D : va_G) (cy : Nat → ClassId) (H0 : Heap) (t : Nat → Nat) (t_values : Nat → Int32) (t_settings : Nat → Int32) (t_dishes : Int32) (t_way : Int32) (a1 : Int32) (a2 : Int32) (Q : Int32 → Prop) (hq : p_X3_linesOf t_values t_settings a1 a2 Q) : Met l yX3_linesOf wsX3_linesOf r_X3_linesOf (wPR [.ref (t 0), .int a1, .int a2] H0 D cy [(t 0, .inr (3, [.ref (t 1), .ref (t 2), .int t_dishes, .int t_way])), (t 1, .inl (cy 0, 140, .inl t_values)), (t 2, .inl (cy 0, 6, .inl t_settings))]) (wQR Q H0) 0 0 wNo := by
  refine Met.ofW (cc := cX3_linesOf) (maxL := 3) (ret := (some .int)) (by decide) rfl ?_
  intro p e s m args below meth c s₁ B hml hv
  obtain ⟨hargs, hH, hE, hP, hK⟩ := hv
  have hx := B.exec
  have hb := B.bytes
  have hr := B.returns
  have hts := atoms_spec (ws := wsX3_linesOf) B.pre
  have hown : s.vm.findClass RX3 = some m.cls := findClass_of_methodNamed B.named
  have hlocks := B.notSynchronized
  clear B
  subst hH
  have hend : ∀ (r : Int32), Q r → ∀ T9 : State, T9.heap = s.heap → (wQR Q s.heap) args s (.returned (some (.int r))) T9 := fun r hq T9 ht => ⟨⟨r, (), rfl, hq, ht⟩, by rw [ht]; exact Nat.le_refl _, fun _ _ _ => by rw [ht]⟩
  generalize (wQR Q s.heap) = Qc at hend ⊢
  have hS : va_S wNo s.heap s.heap [] := va_S.rf
  show W p l e r_X3_linesOf s m args below meth c s.heap [] 0 0 (MQ below Qc args s 0 0 wNo) (entryFrame m args 3)
  rw [show entryFrame m args 3 = entryFrame m ([.ref (t 0), .int a1, .int a2] : List Value).toArray 3 from by rw [hargs]]
  have hl := lv_entry ([.ref (t 0), .int a1, .int a2]) (n := 3) (Nat.le_of_ble_eq_true rfl)
  rw [lg_entry_eq]
  generalize (lg_sl ([.ref (t 0), .int a1, .int a2]) ++ List.replicate (3 - (lg_sl ([.ref (t 0), .int a1, .int a2])).length) Slot.unset).toArray = ls at hl ⊢
  have hl : lv_has ls 3 [(0, .ref (t 0)), (1, .int a1), (2, .int a2)] := hl
  have h := hq
  clear hargs hq
  unfold p_X3_linesOf at h
  refine lv_aload_n hx hb dX3_linesOf_0 rfl (lv_at hl 0 rfl) ?_
  refine lv_iload_n hx hb dX3_linesOf_1 rfl (lv_at hl 1 rfl) ?_
  have hPc := hP.sub (ws' := [(t 0, .inr (3, [.ref (t 1), .ref (t 2), .int t_dishes, .int t_way])), (t 1, .inl (cy 0, 140, .inl t_values))]) [0, 1] rfl
  refine w_callR (va_runV (As := [.int a1]) (rest := []) ⟨hx, hb, hml, hown, hts⟩ (c_X3_textOf l D cy s.heap t t_values t_dishes t_way a1 _ h) (cwV 1 hts gX3_linesOf_X3_textOf rfl rfl rfl (by decide +kernel) ⟨Nat.le_of_ble_eq_true rfl, Nat.le_of_ble_eq_true rfl⟩) (w_preVN hK hPc (ci := 3) rfl rfl) rfl rfl hl.1 rfl (lv_room (Nat.le_of_ble_eq_true rfl)) dX3_linesOf_2 ⟨Nat.zero_le _, Nat.zero_le _⟩) hS (fun r1 locs h hS => ?_)
  try dsimp only at h
  refine lv_iconst (v := 3) hx hb dX3_linesOf_5 (by decide) ?_
  refine lv_iadd hx hb dX3_linesOf_6 ?_
  refine lv_iload_n hx hb dX3_linesOf_7 rfl (lv_at hl 2 rfl) ?_
  refine lv_iadd hx hb dX3_linesOf_8 ?_
  refine lv_aload_n hx hb dX3_linesOf_9 rfl (lv_at hl 0 rfl) ?_
  refine lv_iconst (v := 1) hx hb dX3_linesOf_10 (by decide) ?_
  have hPc := hP.sub (ws' := [(t 0, .inr (3, [.ref (t 1), .ref (t 2), .int t_dishes, .int t_way])), (t 2, .inl (cy 0, 6, .inl t_settings))]) [0, 2] rfl
  refine w_callR (va_runV (As := [.int 1]) (rest := [.int ((r1 + 3) + a2)]) ⟨hx, hb, hml, hown, hts⟩ (c_X3_setting l D cy s.heap t t_settings t_dishes t_way 1 _ h) (cwV 1 hts gX3_linesOf_X3_setting rfl rfl rfl (by decide +kernel) ⟨Nat.le_of_ble_eq_true rfl, Nat.le_of_ble_eq_true rfl⟩) (w_preVN hK hPc (ci := 3) rfl rfl) rfl rfl hl.1 rfl (lv_room (Nat.le_of_ble_eq_true rfl)) dX3_linesOf_11 ⟨Nat.zero_le _, Nat.zero_le _⟩) hS (fun r2 locs h hS => ?_)
  try dsimp only at h
  have hPc := hP.sub (ws' := []) [] rfl
  refine w_callR (va_runSN (As := [.int ((r1 + 3) + a2), .int r2]) (rest := []) ⟨hx, hb, hml, hown, hts⟩ (c_X8_partsOfSize l D cy s.heap (((r1 + 3) + a2)) r2 _ h) ⟨(va_cnB 2 hts gX3_linesOf_X8_partsOfSize_n75 rfl rfl rfl (nM_X3_75 hE.1) (hts (.initialized RX8) (by decide +kernel)) (by decide +kernel) ⟨Nat.le_of_ble_eq_true rfl, Nat.le_of_ble_eq_true rfl⟩), hts (.static yX8_partsOfSize) (by decide +kernel), trivial⟩ (w_preSN hK hPc) rfl rfl hl.1 rfl (lv_room (Nat.le_of_ble_eq_true rfl)) dX3_linesOf_14 ⟨Nat.zero_le _, Nat.zero_le _⟩) hS (fun r3 locs h hS => ?_)
  try dsimp only at h
  exact W.iret hx hb hr (fun t ht _ => hend r3 h t ht) hS.2.2 dX3_linesOf_17

theorem i_X3_copyFrom_X3 : ∀ w ∈ u_ws RX3 TX3 4, w ∈ wsX3_copyFrom := by decide +kernel
abbrev r_X3_copyFrom : Room := { frames := 1, cells := 0, slots := 0, locals := 40 }
set_option maxHeartbeats 4000000 in
set_option maxRecDepth 100000 in
theorem c_X3_copyFrom (l : Launch) (D : va_G) (cy : Nat → ClassId) (sz : Nat) (t : Nat → Nat) (u1 : Nat → Nat) (t_values : Nat → Int32) (t_settings : Nat → Int32) (t_dishes : Int32) (t_way : Int32) (u1_values : Nat → Int32) (u1_settings : Nat → Int32) (u1_dishes : Int32) (u1_way : Int32) (Q : (Nat → Int32) → (Nat → Int32) → Int32 → Int32 → Prop) (hq : p_X3_copyFrom t_values t_settings u1_values u1_settings u1_dishes u1_way Q) : Met l yX3_copyFrom wsX3_copyFrom r_X3_copyFrom (wPO [.ref (t 0), .ref (u1 0)] sz D cy [(t 0, .inr (3, [.ref (t 1), .ref (t 2), .int t_dishes, .int t_way])), (t 1, .inl (cy 0, 140, .inl t_values)), (t 2, .inl (cy 0, 6, .inl t_settings)), (u1 0, .inr (3, [.ref (u1 1), .ref (u1 2), .int u1_dishes, .int u1_way])), (u1 1, .inl (cy 0, 140, .inl u1_values)), (u1 2, .inl (cy 0, 6, .inl u1_settings))]) (va_Qv (fun u => ∃ (t_values' : Nat → Int32) (t_settings' : Nat → Int32) (t_dishes' : Int32) (t_way' : Int32), u = [(t 0, .inr (3, [.ref (t 1), .ref (t 2), .int t_dishes', .int t_way'])), (t 1, .inl (cy 0, 140, .inl t_values')), (t 2, .inl (cy 0, 6, .inl t_settings')), (u1 0, .inr (3, [.ref (u1 1), .ref (u1 2), .int u1_dishes, .int u1_way])), (u1 1, .inl (cy 0, 140, .inl u1_values)), (u1 2, .inl (cy 0, 6, .inl u1_settings))] ∧ Q t_values' t_settings' t_dishes' t_way') (fun u T9 => va_P D vwCl u T9.heap ∧ va_D (va_A [(t 0, .inr (3, [.ref (t 1), .ref (t 2), .int t_dishes, .int t_way])), (t 1, .inl (cy 0, 140, .inl t_values)), (t 2, .inl (cy 0, 6, .inl t_settings)), (u1 0, .inr (3, [.ref (u1 1), .ref (u1 2), .int u1_dishes, .int u1_way])), (u1 1, .inl (cy 0, 140, .inl u1_values)), (u1 2, .inl (cy 0, 6, .inl u1_settings))] sz) u) (va_A [(t 0, .inr (3, [.ref (t 1), .ref (t 2), .int t_dishes, .int t_way])), (t 1, .inl (cy 0, 140, .inl t_values)), (t 2, .inl (cy 0, 6, .inl t_settings)), (u1 0, .inr (3, [.ref (u1 1), .ref (u1 2), .int u1_dishes, .int u1_way])), (u1 1, .inl (cy 0, 140, .inl u1_values)), (u1 2, .inl (cy 0, 6, .inl u1_settings))] sz)) 0 0 (va_A [(t 0, .inr (3, [.ref (t 1), .ref (t 2), .int t_dishes, .int t_way])), (t 1, .inl (cy 0, 140, .inl t_values)), (t 2, .inl (cy 0, 6, .inl t_settings)), (u1 0, .inr (3, [.ref (u1 1), .ref (u1 2), .int u1_dishes, .int u1_way])), (u1 1, .inl (cy 0, 140, .inl u1_values)), (u1 2, .inl (cy 0, 6, .inl u1_settings))] sz) := by
  refine Met.ofW (cc := cX3_copyFrom) (maxL := 2) (ret := none) (by decide) rfl ?_
  intro p e s m args below meth c s₁ B hml hv
  obtain ⟨hargs, hsz, hP, hK, hD0⟩ := hv
  have hx := B.exec
  have hb := B.bytes
  have hr := B.returns
  have hts := atoms_spec (ws := wsX3_copyFrom) B.pre
  have hown : s.vm.findClass RX3 = some m.cls := findClass_of_methodNamed B.named
  have hlocks := B.notSynchronized
  clear B
  subst hsz
  have hD := hD0.self (sz := s.heap.size)
  generalize hAe : va_A [(t 0, .inr (3, [.ref (t 1), .ref (t 2), .int t_dishes, .int t_way])), (t 1, .inl (cy 0, 140, .inl t_values)), (t 2, .inl (cy 0, 6, .inl t_settings)), (u1 0, .inr (3, [.ref (u1 1), .ref (u1 2), .int u1_dishes, .int u1_way])), (u1 1, .inl (cy 0, 140, .inl u1_values)), (u1 2, .inl (cy 0, 6, .inl u1_settings))] s.heap.size = A at hD ⊢
  have hA : ∀ q : Nat, s.heap.size ≤ q → A q := fun q h => by rw [← hAe]; exact Or.inr h
  clear hAe hD0
  have hend : ∀ (t_values : Nat → Int32) (t_settings : Nat → Int32) (t_dishes : Int32) (t_way : Int32) (H : Heap) (locs : List Loc), Q t_values t_settings t_dishes t_way → va_P D vwCl [(t 0, .inr (3, [.ref (t 1), .ref (t 2), .int t_dishes, .int t_way])), (t 1, .inl (cy 0, 140, .inl t_values)), (t 2, .inl (cy 0, 6, .inl t_settings)), (u1 0, .inr (3, [.ref (u1 1), .ref (u1 2), .int u1_dishes, .int u1_way])), (u1 1, .inl (cy 0, 140, .inl u1_values)), (u1 2, .inl (cy 0, 6, .inl u1_settings))] H → va_D A [(t 0, .inr (3, [.ref (t 1), .ref (t 2), .int t_dishes, .int t_way])), (t 1, .inl (cy 0, 140, .inl t_values)), (t 2, .inl (cy 0, 6, .inl t_settings)), (u1 0, .inr (3, [.ref (u1 1), .ref (u1 2), .int u1_dishes, .int u1_way])), (u1 1, .inl (cy 0, 140, .inl u1_values)), (u1 2, .inl (cy 0, 6, .inl u1_settings))] → va_S A s.heap H locs → ∀ T9 : State, T9.heap = H → (va_Qv (fun u => ∃ (t_values' : Nat → Int32) (t_settings' : Nat → Int32) (t_dishes' : Int32) (t_way' : Int32), u = [(t 0, .inr (3, [.ref (t 1), .ref (t 2), .int t_dishes', .int t_way'])), (t 1, .inl (cy 0, 140, .inl t_values')), (t 2, .inl (cy 0, 6, .inl t_settings')), (u1 0, .inr (3, [.ref (u1 1), .ref (u1 2), .int u1_dishes, .int u1_way])), (u1 1, .inl (cy 0, 140, .inl u1_values)), (u1 2, .inl (cy 0, 6, .inl u1_settings))] ∧ Q t_values' t_settings' t_dishes' t_way') (fun u T9 => va_P D vwCl u T9.heap ∧ va_D A u) A) args s (.returned none) T9 := fun t_values t_settings t_dishes t_way H locs hq hP hD hS T9 ht => ⟨⟨_, rfl, ⟨t_values, t_settings, t_dishes, t_way, rfl, hq⟩, by rw [ht]; exact hP, hD⟩, hS.F ht⟩
  generalize (va_Qv (fun u => ∃ (t_values' : Nat → Int32) (t_settings' : Nat → Int32) (t_dishes' : Int32) (t_way' : Int32), u = [(t 0, .inr (3, [.ref (t 1), .ref (t 2), .int t_dishes', .int t_way'])), (t 1, .inl (cy 0, 140, .inl t_values')), (t 2, .inl (cy 0, 6, .inl t_settings')), (u1 0, .inr (3, [.ref (u1 1), .ref (u1 2), .int u1_dishes, .int u1_way])), (u1 1, .inl (cy 0, 140, .inl u1_values)), (u1 2, .inl (cy 0, 6, .inl u1_settings))] ∧ Q t_values' t_settings' t_dishes' t_way') (fun u T9 => va_P D vwCl u T9.heap ∧ va_D A u) A) = Qc at hend ⊢
  have hS : va_S A s.heap s.heap [] := va_S.rf
  show W p l e r_X3_copyFrom s m args below meth c s.heap [] 0 0 (MQ below Qc args s 0 0 A) (entryFrame m args 2)
  rw [show entryFrame m args 2 = entryFrame m ([.ref (t 0), .ref (u1 0)] : List Value).toArray 2 from by rw [hargs]]
  have hl := lv_entry ([.ref (t 0), .ref (u1 0)]) (n := 2) (Nat.le_of_ble_eq_true rfl)
  rw [lg_entry_eq]
  generalize (lg_sl ([.ref (t 0), .ref (u1 0)]) ++ List.replicate (2 - (lg_sl ([.ref (t 0), .ref (u1 0)])).length) Slot.unset).toArray = ls at hl ⊢
  have hl : lv_has ls 2 [(0, .ref (t 0)), (1, .ref (u1 0))] := hl
  have h := hq
  clear hargs hq
  unfold p_X3_copyFrom at h
  suffices key : ∀ (H : Heap) (locs : List Loc), va_P D vwCl [(t 0, .inr (3, [.ref (t 1), .ref (t 2), .int t_dishes, .int t_way])), (t 1, .inl (cy 0, 140, .inl t_values)), (t 2, .inl (cy 0, 6, .inl t_settings)), (u1 0, .inr (3, [.ref (u1 1), .ref (u1 2), .int u1_dishes, .int u1_way])), (u1 1, .inl (cy 0, 140, .inl u1_values)), (u1 2, .inl (cy 0, 6, .inl u1_settings))] H → va_D A [(t 0, .inr (3, [.ref (t 1), .ref (t 2), .int t_dishes, .int t_way])), (t 1, .inl (cy 0, 140, .inl t_values)), (t 2, .inl (cy 0, 6, .inl t_settings)), (u1 0, .inr (3, [.ref (u1 1), .ref (u1 2), .int u1_dishes, .int u1_way])), (u1 1, .inl (cy 0, 140, .inl u1_values)), (u1 2, .inl (cy 0, 6, .inl u1_settings))] → va_S A s.heap H locs → W p l e r_X3_copyFrom s m args below meth c H locs 0 0 (MQ below Qc args s 0 0 A) (F0 m 0 ls []) from key s.heap [] hP hD hS
  clear hP hD hS
  intro H locs hP hD hS
  refine lv_aload_n hx hb dX3_copyFrom_0 rfl (lv_at hl 1 rfl) ?_
  refine va_get (D := D) (ci := 3) (v := .ref (u1 1)) (C := RX3) (T := TX3) (N := 4) hx hb hts i_X3_copyFrom_X3 hown hK hP 3 rfl rfl 0 (by decide) (hts (.fieldLink RX3 9 "FoldedMenu$Menu" "values" "[I") (by decide +kernel)) (fun _ h9 => h9) rfl dX3_copyFrom_1 ?_
  refine lv_iconst (v := 0) hx hb dX3_copyFrom_4 (by decide) ?_
  refine lv_aload_n hx hb dX3_copyFrom_5 rfl (lv_at hl 0 rfl) ?_
  refine va_get (D := D) (ci := 3) (v := .ref (t 1)) (C := RX3) (T := TX3) (N := 4) hx hb hts i_X3_copyFrom_X3 hown hK hP 0 rfl rfl 0 (by decide) (hts (.fieldLink RX3 9 "FoldedMenu$Menu" "values" "[I") (by decide +kernel)) (fun _ h9 => h9) rfl dX3_copyFrom_6 ?_
  refine lv_iconst (v := 0) hx hb dX3_copyFrom_9 (by decide) ?_
  refine lv_aload_n hx hb dX3_copyFrom_10 rfl (lv_at hl 0 rfl) ?_
  refine va_get (D := D) (ci := 3) (v := .ref (t 1)) (C := RX3) (T := TX3) (N := 4) hx hb hts i_X3_copyFrom_X3 hown hK hP 0 rfl rfl 0 (by decide) (hts (.fieldLink RX3 9 "FoldedMenu$Menu" "values" "[I") (by decide +kernel)) (fun _ h9 => h9) rfl dX3_copyFrom_11 ?_
  refine va_alen hx hb hK hP 1 0 rfl (ty := .int) rfl (v := 140) rfl dX3_copyFrom_14 ?_
  obtain ⟨g1, g2, g3, g4, g5, h⟩ := h
  refine va_copyi hx hb (hml.trans hl.1.symm) hown (hts (.methodLink RX3 25 arraycopyName) (by decide +kernel)) (hts (.native arraycopyName) (by decide +kernel)) (hts (.static arraycopyName) (by decide +kernel)) (hts (.initialized "java/lang/System") (by decide +kernel)) hK hP hD hS 4 1 0 0 rfl rfl rfl rfl rfl g1 g2 g3 g4 g5 (fun _ _ => rfl) (Nat.le_of_ble_eq_true rfl) (Nat.le_of_ble_eq_true rfl) dX3_copyFrom_15 (fun H locs hP hD hS => ?_)
  have hP : va_P D vwCl [(t 0, .inr (3, [.ref (t 1), .ref (t 2), .int t_dishes, .int t_way])), (t 1, .inl (cy 0, 140, .inl ((va_cpy u1_values t_values (0 : Int32).toNatClampNeg (0 : Int32).toNatClampNeg (140 : Int32).toNatClampNeg)))), (t 2, .inl (cy 0, 6, .inl t_settings)), (u1 0, .inr (3, [.ref (u1 1), .ref (u1 2), .int u1_dishes, .int u1_way])), (u1 1, .inl (cy 0, 140, .inl u1_values)), (u1 2, .inl (cy 0, 6, .inl u1_settings))] H := hP
  have hD : va_D A [(t 0, .inr (3, [.ref (t 1), .ref (t 2), .int t_dishes, .int t_way])), (t 1, .inl (cy 0, 140, .inl ((va_cpy u1_values t_values (0 : Int32).toNatClampNeg (0 : Int32).toNatClampNeg (140 : Int32).toNatClampNeg)))), (t 2, .inl (cy 0, 6, .inl t_settings)), (u1 0, .inr (3, [.ref (u1 1), .ref (u1 2), .int u1_dishes, .int u1_way])), (u1 1, .inl (cy 0, 140, .inl u1_values)), (u1 2, .inl (cy 0, 6, .inl u1_settings))] := hD
  refine lv_aload_n hx hb dX3_copyFrom_18 rfl (lv_at hl 1 rfl) ?_
  refine va_get (D := D) (ci := 3) (v := .ref (u1 2)) (C := RX3) (T := TX3) (N := 4) hx hb hts i_X3_copyFrom_X3 hown hK hP 3 rfl rfl 1 (by decide) (hts (.fieldLink RX3 15 "FoldedMenu$Menu" "settings" "[I") (by decide +kernel)) (fun _ h9 => h9) rfl dX3_copyFrom_19 ?_
  refine lv_iconst (v := 0) hx hb dX3_copyFrom_22 (by decide) ?_
  refine lv_aload_n hx hb dX3_copyFrom_23 rfl (lv_at hl 0 rfl) ?_
  refine va_get (D := D) (ci := 3) (v := .ref (t 2)) (C := RX3) (T := TX3) (N := 4) hx hb hts i_X3_copyFrom_X3 hown hK hP 0 rfl rfl 1 (by decide) (hts (.fieldLink RX3 15 "FoldedMenu$Menu" "settings" "[I") (by decide +kernel)) (fun _ h9 => h9) rfl dX3_copyFrom_24 ?_
  refine lv_iconst (v := 0) hx hb dX3_copyFrom_27 (by decide) ?_
  refine lv_aload_n hx hb dX3_copyFrom_28 rfl (lv_at hl 0 rfl) ?_
  refine va_get (D := D) (ci := 3) (v := .ref (t 2)) (C := RX3) (T := TX3) (N := 4) hx hb hts i_X3_copyFrom_X3 hown hK hP 0 rfl rfl 1 (by decide) (hts (.fieldLink RX3 15 "FoldedMenu$Menu" "settings" "[I") (by decide +kernel)) (fun _ h9 => h9) rfl dX3_copyFrom_29 ?_
  refine va_alen hx hb hK hP 2 0 rfl (ty := .int) rfl (v := 6) rfl dX3_copyFrom_32 ?_
  obtain ⟨g1, g2, g3, g4, g5, h⟩ := h
  refine va_copyi hx hb (hml.trans hl.1.symm) hown (hts (.methodLink RX3 25 arraycopyName) (by decide +kernel)) (hts (.native arraycopyName) (by decide +kernel)) (hts (.static arraycopyName) (by decide +kernel)) (hts (.initialized "java/lang/System") (by decide +kernel)) hK hP hD hS 5 2 0 0 rfl rfl rfl rfl rfl g1 g2 g3 g4 g5 (fun _ _ => rfl) (Nat.le_of_ble_eq_true rfl) (Nat.le_of_ble_eq_true rfl) dX3_copyFrom_33 (fun H locs hP hD hS => ?_)
  have hP : va_P D vwCl [(t 0, .inr (3, [.ref (t 1), .ref (t 2), .int t_dishes, .int t_way])), (t 1, .inl (cy 0, 140, .inl ((va_cpy u1_values t_values (0 : Int32).toNatClampNeg (0 : Int32).toNatClampNeg (140 : Int32).toNatClampNeg)))), (t 2, .inl (cy 0, 6, .inl ((va_cpy u1_settings t_settings (0 : Int32).toNatClampNeg (0 : Int32).toNatClampNeg (6 : Int32).toNatClampNeg)))), (u1 0, .inr (3, [.ref (u1 1), .ref (u1 2), .int u1_dishes, .int u1_way])), (u1 1, .inl (cy 0, 140, .inl u1_values)), (u1 2, .inl (cy 0, 6, .inl u1_settings))] H := hP
  have hD : va_D A [(t 0, .inr (3, [.ref (t 1), .ref (t 2), .int t_dishes, .int t_way])), (t 1, .inl (cy 0, 140, .inl ((va_cpy u1_values t_values (0 : Int32).toNatClampNeg (0 : Int32).toNatClampNeg (140 : Int32).toNatClampNeg)))), (t 2, .inl (cy 0, 6, .inl ((va_cpy u1_settings t_settings (0 : Int32).toNatClampNeg (0 : Int32).toNatClampNeg (6 : Int32).toNatClampNeg)))), (u1 0, .inr (3, [.ref (u1 1), .ref (u1 2), .int u1_dishes, .int u1_way])), (u1 1, .inl (cy 0, 140, .inl u1_values)), (u1 2, .inl (cy 0, 6, .inl u1_settings))] := hD
  refine lv_aload_n hx hb dX3_copyFrom_36 rfl (lv_at hl 0 rfl) ?_
  refine lv_aload_n hx hb dX3_copyFrom_37 rfl (lv_at hl 1 rfl) ?_
  refine va_get (D := D) (ci := 3) (v := .int u1_dishes) (C := RX3) (T := TX3) (N := 4) hx hb hts i_X3_copyFrom_X3 hown hK hP 3 rfl rfl 2 (by decide) (hts (.fieldLink RX3 18 "FoldedMenu$Menu" "dishes" "I") (by decide +kernel)) (fun _ h9 => h9) rfl dX3_copyFrom_38 ?_
  refine va_put (D := D) (ci := 3) (v := .int u1_dishes) (ty := .int) (C := RX3) (T := TX3) (N := 4) hx hb hts i_X3_copyFrom_X3 tyX3 tyX3_ok nmX3 hown hK hP hD hS 0 rfl rfl 2 (by decide) (hts (.fieldLink RX3 18 "FoldedMenu$Menu" "dishes" "I") (by decide +kernel)) (fun _ h9 => h9) rfl (by decide +kernel) rfl rfl (Nat.le_of_ble_eq_true rfl) dX3_copyFrom_41 (fun H locs hP hD hS => ?_)
  have hP : va_P D vwCl [(t 0, .inr (3, [.ref (t 1), .ref (t 2), .int u1_dishes, .int t_way])), (t 1, .inl (cy 0, 140, .inl ((va_cpy u1_values t_values (0 : Int32).toNatClampNeg (0 : Int32).toNatClampNeg (140 : Int32).toNatClampNeg)))), (t 2, .inl (cy 0, 6, .inl ((va_cpy u1_settings t_settings (0 : Int32).toNatClampNeg (0 : Int32).toNatClampNeg (6 : Int32).toNatClampNeg)))), (u1 0, .inr (3, [.ref (u1 1), .ref (u1 2), .int u1_dishes, .int u1_way])), (u1 1, .inl (cy 0, 140, .inl u1_values)), (u1 2, .inl (cy 0, 6, .inl u1_settings))] H := hP
  have hD : va_D A [(t 0, .inr (3, [.ref (t 1), .ref (t 2), .int u1_dishes, .int t_way])), (t 1, .inl (cy 0, 140, .inl ((va_cpy u1_values t_values (0 : Int32).toNatClampNeg (0 : Int32).toNatClampNeg (140 : Int32).toNatClampNeg)))), (t 2, .inl (cy 0, 6, .inl ((va_cpy u1_settings t_settings (0 : Int32).toNatClampNeg (0 : Int32).toNatClampNeg (6 : Int32).toNatClampNeg)))), (u1 0, .inr (3, [.ref (u1 1), .ref (u1 2), .int u1_dishes, .int u1_way])), (u1 1, .inl (cy 0, 140, .inl u1_values)), (u1 2, .inl (cy 0, 6, .inl u1_settings))] := hD
  refine lv_aload_n hx hb dX3_copyFrom_44 rfl (lv_at hl 0 rfl) ?_
  refine lv_aload_n hx hb dX3_copyFrom_45 rfl (lv_at hl 1 rfl) ?_
  refine va_get (D := D) (ci := 3) (v := .int u1_way) (C := RX3) (T := TX3) (N := 4) hx hb hts i_X3_copyFrom_X3 hown hK hP 3 rfl rfl 3 (by decide) (hts (.fieldLink RX3 22 "FoldedMenu$Menu" "way" "I") (by decide +kernel)) (fun _ h9 => h9) rfl dX3_copyFrom_46 ?_
  refine va_put (D := D) (ci := 3) (v := .int u1_way) (ty := .int) (C := RX3) (T := TX3) (N := 4) hx hb hts i_X3_copyFrom_X3 tyX3 tyX3_ok nmX3 hown hK hP hD hS 0 rfl rfl 3 (by decide) (hts (.fieldLink RX3 22 "FoldedMenu$Menu" "way" "I") (by decide +kernel)) (fun _ h9 => h9) rfl (by decide +kernel) rfl rfl (Nat.le_of_ble_eq_true rfl) dX3_copyFrom_49 (fun H locs hP hD hS => ?_)
  have hP : va_P D vwCl [(t 0, .inr (3, [.ref (t 1), .ref (t 2), .int u1_dishes, .int u1_way])), (t 1, .inl (cy 0, 140, .inl ((va_cpy u1_values t_values (0 : Int32).toNatClampNeg (0 : Int32).toNatClampNeg (140 : Int32).toNatClampNeg)))), (t 2, .inl (cy 0, 6, .inl ((va_cpy u1_settings t_settings (0 : Int32).toNatClampNeg (0 : Int32).toNatClampNeg (6 : Int32).toNatClampNeg)))), (u1 0, .inr (3, [.ref (u1 1), .ref (u1 2), .int u1_dishes, .int u1_way])), (u1 1, .inl (cy 0, 140, .inl u1_values)), (u1 2, .inl (cy 0, 6, .inl u1_settings))] H := hP
  have hD : va_D A [(t 0, .inr (3, [.ref (t 1), .ref (t 2), .int u1_dishes, .int u1_way])), (t 1, .inl (cy 0, 140, .inl ((va_cpy u1_values t_values (0 : Int32).toNatClampNeg (0 : Int32).toNatClampNeg (140 : Int32).toNatClampNeg)))), (t 2, .inl (cy 0, 6, .inl ((va_cpy u1_settings t_settings (0 : Int32).toNatClampNeg (0 : Int32).toNatClampNeg (6 : Int32).toNatClampNeg)))), (u1 0, .inr (3, [.ref (u1 1), .ref (u1 2), .int u1_dishes, .int u1_way])), (u1 1, .inl (cy 0, 140, .inl u1_values)), (u1 2, .inl (cy 0, 6, .inl u1_settings))] := hD
  exact W.vret hx hb hr (fun t ht _ => hend ((va_cpy u1_values t_values (0 : Int32).toNatClampNeg (0 : Int32).toNatClampNeg (140 : Int32).toNatClampNeg)) ((va_cpy u1_settings t_settings (0 : Int32).toNatClampNeg (0 : Int32).toNatClampNeg (6 : Int32).toNatClampNeg)) u1_dishes u1_way H locs h hP hD hS t ht) hS.2.2 dX3_copyFrom_52

theorem i_X3_isFull_X3 : ∀ w ∈ u_ws RX3 TX3 4, w ∈ wsX3_isFull := by decide +kernel
abbrev r_X3_isFull : Room := { frames := 0, cells := 0, slots := 0, locals := 0 }
set_option maxHeartbeats 4000000 in
set_option maxRecDepth 100000 in
theorem c_X3_isFull (l : Launch) (D : va_G) (cy : Nat → ClassId) (H0 : Heap) (t : Nat → Nat) (t_dishes : Int32) (t_way : Int32) (Q : Int32 → Prop) (hq : p_X3_isFull t_dishes Q) : Met l yX3_isFull wsX3_isFull r_X3_isFull (wPN [.ref (t 0)] H0 D cy [(t 0, .inr (3, [.ref (t 1), .ref (t 2), .int t_dishes, .int t_way]))]) (wQZ Q H0) 0 0 wNo := by
  refine Met.ofW (cc := cX3_isFull) (maxL := 1) (ret := (some .boolean)) (by decide) rfl ?_
  intro p e s m args below meth c s₁ B hml hv
  obtain ⟨hargs, hH, hP, hK⟩ := hv
  have hx := B.exec
  have hb := B.bytes
  have hr := B.returns
  have hts := atoms_spec (ws := wsX3_isFull) B.pre
  have hown : s.vm.findClass RX3 = some m.cls := findClass_of_methodNamed B.named
  have hlocks := B.notSynchronized
  clear B
  subst hH
  have hend : ∀ (r : Int32), (r = 0 ∨ r = 1) → Q r → ∀ T9 : State, T9.heap = s.heap → (wQZ Q s.heap) args s (.returned (some (.int r))) T9 := fun r hz hq T9 ht => ⟨⟨r, (), rfl, ⟨hz, hq⟩, ht⟩, by rw [ht]; exact Nat.le_refl _, fun _ _ _ => by rw [ht]⟩
  generalize (wQZ Q s.heap) = Qc at hend ⊢
  have hS : va_S wNo s.heap s.heap [] := va_S.rf
  show W p l e r_X3_isFull s m args below meth c s.heap [] 0 0 (MQ below Qc args s 0 0 wNo) (entryFrame m args 1)
  rw [show entryFrame m args 1 = entryFrame m ([.ref (t 0)] : List Value).toArray 1 from by rw [hargs]]
  have hl := lv_entry ([.ref (t 0)]) (n := 1) (Nat.le_of_ble_eq_true rfl)
  rw [lg_entry_eq]
  generalize (lg_sl ([.ref (t 0)]) ++ List.replicate (1 - (lg_sl ([.ref (t 0)])).length) Slot.unset).toArray = ls at hl ⊢
  have hl : lv_has ls 1 [(0, .ref (t 0))] := hl
  have h := hq
  clear hargs hq
  unfold p_X3_isFull at h
  refine lv_aload_n hx hb dX3_isFull_0 rfl (lv_at hl 0 rfl) ?_
  refine va_get (D := D) (ci := 3) (v := .int t_dishes) (C := RX3) (T := TX3) (N := 4) hx hb hts i_X3_isFull_X3 hown hK hP 0 rfl rfl 2 (by decide) (hts (.fieldLink RX3 18 "FoldedMenu$Menu" "dishes" "I") (by decide +kernel)) (fun _ h9 => h9) rfl dX3_isFull_1 ?_
  refine lv_bipush (v := 20) hx hb dX3_isFull_4 (by decide) ?_
  refine lv_icmp_lt (tgt := 13) hx hb dX3_isFull_6 rfl (fun hc => ?_) (fun hc => ?_)
  · replace h := h.1 hc
    refine lv_iconst (v := 0) hx hb dX3_isFull_13 (by decide) ?_
    exact W.zret hx hb hr rfl (fun t ht _ => hend 0 (by decide) h t ht) hS.2.2 dX3_isFull_14
  · replace h := h.2 hc
    refine lv_iconst (v := 1) hx hb dX3_isFull_9 (by decide) ?_
    refine lv_goto (tgt := 14) hx hb dX3_isFull_10 rfl ?_
    exact W.zret hx hb hr rfl (fun t ht _ => hend 1 (by decide) h t ht) hS.2.2 dX3_isFull_14

theorem i_X3_hasDish_X3 : ∀ w ∈ u_ws RX3 TX3 4, w ∈ wsX3_hasDish := by decide +kernel
abbrev r_X3_hasDish : Room := { frames := 1, cells := 0, slots := 0, locals := 22 }
set_option maxHeartbeats 4000000 in
set_option maxRecDepth 100000 in
theorem c_X3_hasDish (l : Launch) (D : va_G) (cy : Nat → ClassId) (H0 : Heap) (t : Nat → Nat) (t_dishes : Int32) (t_way : Int32) (a1 : Int32) (Q : Int32 → Prop) (hq : p_X3_hasDish t_dishes a1 Q) : Met l yX3_hasDish wsX3_hasDish r_X3_hasDish (wPR [.ref (t 0), .int a1] H0 D cy [(t 0, .inr (3, [.ref (t 1), .ref (t 2), .int t_dishes, .int t_way]))]) (wQZ Q H0) 0 0 wNo := by
  refine Met.ofW (cc := cX3_hasDish) (maxL := 2) (ret := (some .boolean)) (by decide) rfl ?_
  intro p e s m args below meth c s₁ B hml hv
  obtain ⟨hargs, hH, hE, hP, hK⟩ := hv
  have hx := B.exec
  have hb := B.bytes
  have hr := B.returns
  have hts := atoms_spec (ws := wsX3_hasDish) B.pre
  have hown : s.vm.findClass RX3 = some m.cls := findClass_of_methodNamed B.named
  have hlocks := B.notSynchronized
  clear B
  subst hH
  have hend : ∀ (r : Int32), (r = 0 ∨ r = 1) → Q r → ∀ T9 : State, T9.heap = s.heap → (wQZ Q s.heap) args s (.returned (some (.int r))) T9 := fun r hz hq T9 ht => ⟨⟨r, (), rfl, ⟨hz, hq⟩, ht⟩, by rw [ht]; exact Nat.le_refl _, fun _ _ _ => by rw [ht]⟩
  generalize (wQZ Q s.heap) = Qc at hend ⊢
  have hS : va_S wNo s.heap s.heap [] := va_S.rf
  show W p l e r_X3_hasDish s m args below meth c s.heap [] 0 0 (MQ below Qc args s 0 0 wNo) (entryFrame m args 2)
  rw [show entryFrame m args 2 = entryFrame m ([.ref (t 0), .int a1] : List Value).toArray 2 from by rw [hargs]]
  have hl := lv_entry ([.ref (t 0), .int a1]) (n := 2) (Nat.le_of_ble_eq_true rfl)
  rw [lg_entry_eq]
  generalize (lg_sl ([.ref (t 0), .int a1]) ++ List.replicate (2 - (lg_sl ([.ref (t 0), .int a1])).length) Slot.unset).toArray = ls at hl ⊢
  have hl : lv_has ls 2 [(0, .ref (t 0)), (1, .int a1)] := hl
  have h := hq
  clear hargs hq
  unfold p_X3_hasDish at h
  refine lv_iload_n hx hb dX3_hasDish_0 rfl (lv_at hl 1 rfl) ?_
  refine lv_iconst (v := 0) hx hb dX3_hasDish_1 (by decide) ?_
  refine lv_aload_n hx hb dX3_hasDish_2 rfl (lv_at hl 0 rfl) ?_
  refine va_get (D := D) (ci := 3) (v := .int t_dishes) (C := RX3) (T := TX3) (N := 4) hx hb hts i_X3_hasDish_X3 hown hK hP 0 rfl rfl 2 (by decide) (hts (.fieldLink RX3 18 "FoldedMenu$Menu" "dishes" "I") (by decide +kernel)) (fun _ h9 => h9) rfl dX3_hasDish_3 ?_
  refine lv_iconst (v := 1) hx hb dX3_hasDish_6 (by decide) ?_
  refine lv_isub hx hb dX3_hasDish_7 ?_
  have hPc := hP.sub (ws' := []) [] rfl
  refine w_callZ (va_runSN (As := [.int a1, .int 0, .int (t_dishes - 1)]) (rest := []) ⟨hx, hb, hml, hown, hts⟩ (c_X8_inRange l D cy s.heap a1 0 ((t_dishes - 1)) _ h) ⟨(va_cnB 3 hts gX3_hasDish_X8_inRange_n31 rfl rfl rfl (nM_X3_31 hE.1) (hts (.initialized RX8) (by decide +kernel)) (by decide +kernel) ⟨Nat.le_of_ble_eq_true rfl, Nat.le_of_ble_eq_true rfl⟩), hts (.static yX8_inRange) (by decide +kernel), trivial⟩ (w_preSN hK hPc) rfl rfl hl.1 rfl (lv_room (Nat.le_of_ble_eq_true rfl)) dX3_hasDish_8 ⟨Nat.zero_le _, Nat.zero_le _⟩) hS (fun r1 locs z_r1 h hS => ?_)
  try dsimp only at h
  exact W.zret hx hb hr (w_bool z_r1) (fun t ht _ => hend r1 z_r1 h t ht) hS.2.2 dX3_hasDish_11

theorem i_X3_change_X3 : ∀ w ∈ u_ws RX3 TX3 4, w ∈ wsX3_change := by decide +kernel
abbrev r_X3_change : Room := { frames := 2, cells := 0, slots := 0, locals := 43 }
set_option maxHeartbeats 4000000 in
set_option maxRecDepth 100000 in
theorem c_X3_change (l : Launch) (D : va_G) (cy : Nat → ClassId) (sz : Nat) (t : Nat → Nat) (t_values : Nat → Int32) (t_dishes : Int32) (t_way : Int32) (a1 : Int32) (a2 : Int32) (a3 : Int32) (Q : (Nat → Int32) → Prop) (hq : p_X3_change t_values t_dishes a1 a2 a3 Q) : Met l yX3_change wsX3_change r_X3_change (wPM [.ref (t 0), .int a1, .int a2, .int a3] sz D cy [(t 0, .inr (3, [.ref (t 1), .ref (t 2), .int t_dishes, .int t_way])), (t 1, .inl (cy 0, 140, .inl t_values))]) (va_Qv (fun u => ∃ (t_values' : Nat → Int32), u = [(t 0, .inr (3, [.ref (t 1), .ref (t 2), .int t_dishes, .int t_way])), (t 1, .inl (cy 0, 140, .inl t_values'))] ∧ Q t_values') (fun u T9 => va_P D vwCl u T9.heap ∧ va_D (va_A [(t 0, .inr (3, [.ref (t 1), .ref (t 2), .int t_dishes, .int t_way])), (t 1, .inl (cy 0, 140, .inl t_values))] sz) u) (va_A [(t 0, .inr (3, [.ref (t 1), .ref (t 2), .int t_dishes, .int t_way])), (t 1, .inl (cy 0, 140, .inl t_values))] sz)) 0 0 (va_A [(t 0, .inr (3, [.ref (t 1), .ref (t 2), .int t_dishes, .int t_way])), (t 1, .inl (cy 0, 140, .inl t_values))] sz) := by
  refine Met.ofW (cc := cX3_change) (maxL := 4) (ret := none) (by decide) rfl ?_
  intro p e s m args below meth c s₁ B hml hv
  obtain ⟨hargs, hsz, hE, hP, hK, hD0⟩ := hv
  have hx := B.exec
  have hb := B.bytes
  have hr := B.returns
  have hts := atoms_spec (ws := wsX3_change) B.pre
  have hown : s.vm.findClass RX3 = some m.cls := findClass_of_methodNamed B.named
  have hlocks := B.notSynchronized
  clear B
  subst hsz
  have hD := hD0.self (sz := s.heap.size)
  generalize hAe : va_A [(t 0, .inr (3, [.ref (t 1), .ref (t 2), .int t_dishes, .int t_way])), (t 1, .inl (cy 0, 140, .inl t_values))] s.heap.size = A at hD ⊢ hE
  have hA : ∀ q : Nat, s.heap.size ≤ q → A q := fun q h => by rw [← hAe]; exact Or.inr h
  clear hAe hD0
  have hend : ∀ (t_values : Nat → Int32) (H : Heap) (locs : List Loc), Q t_values → va_P D vwCl [(t 0, .inr (3, [.ref (t 1), .ref (t 2), .int t_dishes, .int t_way])), (t 1, .inl (cy 0, 140, .inl t_values))] H → va_D A [(t 0, .inr (3, [.ref (t 1), .ref (t 2), .int t_dishes, .int t_way])), (t 1, .inl (cy 0, 140, .inl t_values))] → va_S A s.heap H locs → ∀ T9 : State, T9.heap = H → (va_Qv (fun u => ∃ (t_values' : Nat → Int32), u = [(t 0, .inr (3, [.ref (t 1), .ref (t 2), .int t_dishes, .int t_way])), (t 1, .inl (cy 0, 140, .inl t_values'))] ∧ Q t_values') (fun u T9 => va_P D vwCl u T9.heap ∧ va_D A u) A) args s (.returned none) T9 := fun t_values H locs hq hP hD hS T9 ht => ⟨⟨_, rfl, ⟨t_values, rfl, hq⟩, by rw [ht]; exact hP, hD⟩, hS.F ht⟩
  generalize (va_Qv (fun u => ∃ (t_values' : Nat → Int32), u = [(t 0, .inr (3, [.ref (t 1), .ref (t 2), .int t_dishes, .int t_way])), (t 1, .inl (cy 0, 140, .inl t_values'))] ∧ Q t_values') (fun u T9 => va_P D vwCl u T9.heap ∧ va_D A u) A) = Qc at hend ⊢
  have hS : va_S A s.heap s.heap [] := va_S.rf
  show W p l e r_X3_change s m args below meth c s.heap [] 0 0 (MQ below Qc args s 0 0 A) (entryFrame m args 4)
  rw [show entryFrame m args 4 = entryFrame m ([.ref (t 0), .int a1, .int a2, .int a3] : List Value).toArray 4 from by rw [hargs]]
  have hl := lv_entry ([.ref (t 0), .int a1, .int a2, .int a3]) (n := 4) (Nat.le_of_ble_eq_true rfl)
  rw [lg_entry_eq]
  generalize (lg_sl ([.ref (t 0), .int a1, .int a2, .int a3]) ++ List.replicate (4 - (lg_sl ([.ref (t 0), .int a1, .int a2, .int a3])).length) Slot.unset).toArray = ls at hl ⊢
  have hl : lv_has ls 4 [(0, .ref (t 0)), (1, .int a1), (2, .int a2), (3, .int a3)] := hl
  have h := hq
  clear hargs hq
  unfold p_X3_change at h
  suffices key : ∀ (H : Heap) (locs : List Loc), va_P D vwCl [(t 0, .inr (3, [.ref (t 1), .ref (t 2), .int t_dishes, .int t_way])), (t 1, .inl (cy 0, 140, .inl t_values))] H → va_D A [(t 0, .inr (3, [.ref (t 1), .ref (t 2), .int t_dishes, .int t_way])), (t 1, .inl (cy 0, 140, .inl t_values))] → va_S A s.heap H locs → W p l e r_X3_change s m args below meth c H locs 0 0 (MQ below Qc args s 0 0 A) (F0 m 0 ls []) from key s.heap [] hP hD hS
  clear hP hD hS
  intro H locs hP hD hS
  refine lv_aload_n hx hb dX3_change_0 rfl (lv_at hl 0 rfl) ?_
  refine lv_iload_n hx hb dX3_change_1 rfl (lv_at hl 1 rfl) ?_
  have hPc := hP.sub (ws' := [(t 0, .inr (3, [.ref (t 1), .ref (t 2), .int t_dishes, .int t_way]))]) [0] rfl
  refine w_callZ (va_runV (As := [.int a1]) (rest := []) ⟨hx, hb, hml, hown, hts⟩ (c_X3_hasDish l D cy H t t_dishes t_way a1 _ h) (cwV 1 hts gX3_change_X3_hasDish rfl rfl rfl (by decide +kernel) ⟨Nat.le_of_ble_eq_true rfl, Nat.le_of_ble_eq_true rfl⟩) (w_preVR hE hS hK hPc (ci := 3) rfl rfl) rfl rfl hl.1 rfl (lv_room (Nat.le_of_ble_eq_true rfl)) dX3_change_2 ⟨Nat.zero_le _, Nat.zero_le _⟩) hS (fun r1 locs z_r1 h hS => ?_)
  try dsimp only at h
  refine lv_if_eq (tgt := 28) hx hb dX3_change_5 rfl (fun hc => ?_) (fun hc => ?_)
  · replace h := h.1 hc
    exact W.vret hx hb hr (fun t ht _ => hend t_values H locs h hP hD hS t ht) hS.2.2 dX3_change_28
  · replace h := h.2 hc
    refine lv_iload_n hx hb dX3_change_8 rfl (lv_at hl 2 rfl) ?_
    refine lv_iload_n hx hb dX3_change_9 rfl (lv_at hl 3 rfl) ?_
    have hPc := hP.sub (ws' := []) [] rfl
    refine w_callZ (va_runSN (As := [.int a2, .int a3]) (rest := []) ⟨hx, hb, hml, hown, hts⟩ (c_X8_isDishValue l D cy H a2 a3 _ h) ⟨(va_cnB 2 hts gX3_change_X8_isDishValue_n39 rfl rfl rfl (nM_X3_39 hE.1) (hts (.initialized RX8) (by decide +kernel)) (by decide +kernel) ⟨Nat.le_of_ble_eq_true rfl, Nat.le_of_ble_eq_true rfl⟩), hts (.static yX8_isDishValue) (by decide +kernel), trivial⟩ (w_preSR hE hS hK hPc) rfl rfl hl.1 rfl (lv_room (Nat.le_of_ble_eq_true rfl)) dX3_change_10 ⟨Nat.zero_le _, Nat.zero_le _⟩) hS (fun r2 locs z_r2 h hS => ?_)
    try dsimp only at h
    refine lv_if_eq (tgt := 28) hx hb dX3_change_13 rfl (fun hc => ?_) (fun hc => ?_)
    · replace h := h.1 hc
      exact W.vret hx hb hr (fun t ht _ => hend t_values H locs h hP hD hS t ht) hS.2.2 dX3_change_28
    · replace h := h.2 hc
      refine lv_aload_n hx hb dX3_change_16 rfl (lv_at hl 0 rfl) ?_
      refine va_get (D := D) (ci := 3) (v := .ref (t 1)) (C := RX3) (T := TX3) (N := 4) hx hb hts i_X3_change_X3 hown hK hP 0 rfl rfl 0 (by decide) (hts (.fieldLink RX3 9 "FoldedMenu$Menu" "values" "[I") (by decide +kernel)) (fun _ h9 => h9) rfl dX3_change_17 ?_
      refine lv_iload_n hx hb dX3_change_20 rfl (lv_at hl 1 rfl) ?_
      refine lv_bipush (v := 7) hx hb dX3_change_21 (by decide) ?_
      refine lv_imul hx hb dX3_change_23 ?_
      refine lv_iload_n hx hb dX3_change_24 rfl (lv_at hl 2 rfl) ?_
      refine lv_iadd hx hb dX3_change_25 ?_
      refine lv_iload_n hx hb dX3_change_26 rfl (lv_at hl 3 rfl) ?_
      obtain ⟨hi, h⟩ := h
      refine va_iast hx hb hK hP hD hS 1 0 rfl rfl hi dX3_change_27 (fun H locs hP hD hS => ?_)
      have hP : va_P D vwCl [(t 0, .inr (3, [.ref (t 1), .ref (t 2), .int t_dishes, .int t_way])), (t 1, .inl (cy 0, 140, .inl ((upd t_values (((a1 * 7) + a2)).toNatClampNeg a3))))] H := hP
      have hD : va_D A [(t 0, .inr (3, [.ref (t 1), .ref (t 2), .int t_dishes, .int t_way])), (t 1, .inl (cy 0, 140, .inl ((upd t_values (((a1 * 7) + a2)).toNatClampNeg a3))))] := hD
      exact W.vret hx hb hr (fun t ht _ => hend ((upd t_values (((a1 * 7) + a2)).toNatClampNeg a3)) H locs h hP hD hS t ht) hS.2.2 dX3_change_28

theorem i_X3_addOffered_X3 : ∀ w ∈ u_ws RX3 TX3 4, w ∈ wsX3_addOffered := by decide +kernel
abbrev r_X3_addOffered : Room := { frames := 1, cells := 0, slots := 0, locals := 20 }
set_option maxHeartbeats 4000000 in
set_option maxRecDepth 100000 in
theorem c_X3_addOffered (l : Launch) (D : va_G) (cy : Nat → ClassId) (sz : Nat) (t : Nat → Nat) (t_values : Nat → Int32) (t_dishes : Int32) (t_way : Int32) (Q : Int32 → (Nat → Int32) → Int32 → Prop) (hq : p_X3_addOffered t_values t_dishes Q) : Met l yX3_addOffered wsX3_addOffered r_X3_addOffered (wPO [.ref (t 0)] sz D cy [(t 0, .inr (3, [.ref (t 1), .ref (t 2), .int t_dishes, .int t_way])), (t 1, .inl (cy 0, 140, .inl t_values))]) (va_Qi (fun r u => ∃ (t_values' : Nat → Int32) (t_dishes' : Int32), u = [(t 0, .inr (3, [.ref (t 1), .ref (t 2), .int t_dishes', .int t_way])), (t 1, .inl (cy 0, 140, .inl t_values'))] ∧ Q r t_values' t_dishes') (fun u T9 => va_P D vwCl u T9.heap ∧ va_D (va_A [(t 0, .inr (3, [.ref (t 1), .ref (t 2), .int t_dishes, .int t_way])), (t 1, .inl (cy 0, 140, .inl t_values))] sz) u) (va_A [(t 0, .inr (3, [.ref (t 1), .ref (t 2), .int t_dishes, .int t_way])), (t 1, .inl (cy 0, 140, .inl t_values))] sz)) 0 0 (va_A [(t 0, .inr (3, [.ref (t 1), .ref (t 2), .int t_dishes, .int t_way])), (t 1, .inl (cy 0, 140, .inl t_values))] sz) := by
  refine Met.ofW (cc := cX3_addOffered) (maxL := 1) (ret := (some .int)) (by decide) rfl ?_
  intro p e s m args below meth c s₁ B hml hv
  obtain ⟨hargs, hsz, hP, hK, hD0⟩ := hv
  have hx := B.exec
  have hb := B.bytes
  have hr := B.returns
  have hts := atoms_spec (ws := wsX3_addOffered) B.pre
  have hown : s.vm.findClass RX3 = some m.cls := findClass_of_methodNamed B.named
  have hlocks := B.notSynchronized
  clear B
  subst hsz
  have hD := hD0.self (sz := s.heap.size)
  generalize hAe : va_A [(t 0, .inr (3, [.ref (t 1), .ref (t 2), .int t_dishes, .int t_way])), (t 1, .inl (cy 0, 140, .inl t_values))] s.heap.size = A at hD ⊢
  have hA : ∀ q : Nat, s.heap.size ≤ q → A q := fun q h => by rw [← hAe]; exact Or.inr h
  clear hAe hD0
  have hend : ∀ (r : Int32) (t_values : Nat → Int32) (t_dishes : Int32) (H : Heap) (locs : List Loc), Q r t_values t_dishes → va_P D vwCl [(t 0, .inr (3, [.ref (t 1), .ref (t 2), .int t_dishes, .int t_way])), (t 1, .inl (cy 0, 140, .inl t_values))] H → va_D A [(t 0, .inr (3, [.ref (t 1), .ref (t 2), .int t_dishes, .int t_way])), (t 1, .inl (cy 0, 140, .inl t_values))] → va_S A s.heap H locs → ∀ T9 : State, T9.heap = H → (va_Qi (fun r u => ∃ (t_values' : Nat → Int32) (t_dishes' : Int32), u = [(t 0, .inr (3, [.ref (t 1), .ref (t 2), .int t_dishes', .int t_way])), (t 1, .inl (cy 0, 140, .inl t_values'))] ∧ Q r t_values' t_dishes') (fun u T9 => va_P D vwCl u T9.heap ∧ va_D A u) A) args s (.returned (some (.int r))) T9 := fun r t_values t_dishes H locs hq hP hD hS T9 ht => ⟨⟨r, _, rfl, ⟨t_values, t_dishes, rfl, hq⟩, by rw [ht]; exact hP, hD⟩, hS.F ht⟩
  generalize (va_Qi (fun r u => ∃ (t_values' : Nat → Int32) (t_dishes' : Int32), u = [(t 0, .inr (3, [.ref (t 1), .ref (t 2), .int t_dishes', .int t_way])), (t 1, .inl (cy 0, 140, .inl t_values'))] ∧ Q r t_values' t_dishes') (fun u T9 => va_P D vwCl u T9.heap ∧ va_D A u) A) = Qc at hend ⊢
  have hS : va_S A s.heap s.heap [] := va_S.rf
  show W p l e r_X3_addOffered s m args below meth c s.heap [] 0 0 (MQ below Qc args s 0 0 A) (entryFrame m args 1)
  rw [show entryFrame m args 1 = entryFrame m ([.ref (t 0)] : List Value).toArray 1 from by rw [hargs]]
  have hl := lv_entry ([.ref (t 0)]) (n := 1) (Nat.le_of_ble_eq_true rfl)
  rw [lg_entry_eq]
  generalize (lg_sl ([.ref (t 0)]) ++ List.replicate (1 - (lg_sl ([.ref (t 0)])).length) Slot.unset).toArray = ls at hl ⊢
  have hl : lv_has ls 1 [(0, .ref (t 0))] := hl
  have h := hq
  clear hargs hq
  unfold p_X3_addOffered at h
  suffices key : ∀ (H : Heap) (locs : List Loc), va_P D vwCl [(t 0, .inr (3, [.ref (t 1), .ref (t 2), .int t_dishes, .int t_way])), (t 1, .inl (cy 0, 140, .inl t_values))] H → va_D A [(t 0, .inr (3, [.ref (t 1), .ref (t 2), .int t_dishes, .int t_way])), (t 1, .inl (cy 0, 140, .inl t_values))] → va_S A s.heap H locs → W p l e r_X3_addOffered s m args below meth c H locs 0 0 (MQ below Qc args s 0 0 A) (F0 m 0 ls []) from key s.heap [] hP hD hS
  clear hP hD hS
  intro H locs hP hD hS
  refine lv_aload_n hx hb dX3_addOffered_0 rfl (lv_at hl 0 rfl) ?_
  have hPc := hP.sub (ws' := [(t 0, .inr (3, [.ref (t 1), .ref (t 2), .int t_dishes, .int t_way]))]) [0] rfl
  refine w_callZ (va_runV (As := []) (rest := []) ⟨hx, hb, hml, hown, hts⟩ (c_X3_isFull l D cy H t t_dishes t_way _ h) (cwV 0 hts gX3_addOffered_X3_isFull rfl rfl rfl (by decide +kernel) ⟨Nat.le_of_ble_eq_true rfl, Nat.le_of_ble_eq_true rfl⟩) (w_preVN hK hPc (ci := 3) rfl rfl) rfl rfl hl.1 rfl (lv_room (Nat.le_of_ble_eq_true rfl)) dX3_addOffered_1 ⟨Nat.zero_le _, Nat.zero_le _⟩) hS (fun r1 locs z_r1 h hS => ?_)
  try dsimp only at h
  refine lv_if_eq (tgt := 10) hx hb dX3_addOffered_4 rfl (fun hc => ?_) (fun hc => ?_)
  · replace h := h.1 hc
    refine lv_aload_n hx hb dX3_addOffered_10 rfl (lv_at hl 0 rfl) ?_
    refine va_get (D := D) (ci := 3) (v := .ref (t 1)) (C := RX3) (T := TX3) (N := 4) hx hb hts i_X3_addOffered_X3 hown hK hP 0 rfl rfl 0 (by decide) (hts (.fieldLink RX3 9 "FoldedMenu$Menu" "values" "[I") (by decide +kernel)) (fun _ h9 => h9) rfl dX3_addOffered_11 ?_
    refine lv_aload_n hx hb dX3_addOffered_14 rfl (lv_at hl 0 rfl) ?_
    refine va_get (D := D) (ci := 3) (v := .int t_dishes) (C := RX3) (T := TX3) (N := 4) hx hb hts i_X3_addOffered_X3 hown hK hP 0 rfl rfl 2 (by decide) (hts (.fieldLink RX3 18 "FoldedMenu$Menu" "dishes" "I") (by decide +kernel)) (fun _ h9 => h9) rfl dX3_addOffered_15 ?_
    refine lv_bipush (v := 7) hx hb dX3_addOffered_18 (by decide) ?_
    refine lv_imul hx hb dX3_addOffered_20 ?_
    refine lv_bipush (v := 6) hx hb dX3_addOffered_21 (by decide) ?_
    refine lv_iadd hx hb dX3_addOffered_23 ?_
    refine lv_iconst (v := 1) hx hb dX3_addOffered_24 (by decide) ?_
    obtain ⟨hi, h⟩ := h
    refine va_iast hx hb hK hP hD hS 1 0 rfl rfl hi dX3_addOffered_25 (fun H locs hP hD hS => ?_)
    have hP : va_P D vwCl [(t 0, .inr (3, [.ref (t 1), .ref (t 2), .int t_dishes, .int t_way])), (t 1, .inl (cy 0, 140, .inl ((upd t_values (((t_dishes * 7) + 6)).toNatClampNeg 1))))] H := hP
    have hD : va_D A [(t 0, .inr (3, [.ref (t 1), .ref (t 2), .int t_dishes, .int t_way])), (t 1, .inl (cy 0, 140, .inl ((upd t_values (((t_dishes * 7) + 6)).toNatClampNeg 1))))] := hD
    refine lv_aload_n hx hb dX3_addOffered_26 rfl (lv_at hl 0 rfl) ?_
    refine lv_dup hx hb dX3_addOffered_27 rfl ?_
    refine va_get (D := D) (ci := 3) (v := .int t_dishes) (C := RX3) (T := TX3) (N := 4) hx hb hts i_X3_addOffered_X3 hown hK hP 0 rfl rfl 2 (by decide) (hts (.fieldLink RX3 18 "FoldedMenu$Menu" "dishes" "I") (by decide +kernel)) (fun _ h9 => h9) rfl dX3_addOffered_28 ?_
    refine lv_iconst (v := 1) hx hb dX3_addOffered_31 (by decide) ?_
    refine lv_iadd hx hb dX3_addOffered_32 ?_
    refine va_put (D := D) (ci := 3) (v := .int (t_dishes + 1)) (ty := .int) (C := RX3) (T := TX3) (N := 4) hx hb hts i_X3_addOffered_X3 tyX3 tyX3_ok nmX3 hown hK hP hD hS 0 rfl rfl 2 (by decide) (hts (.fieldLink RX3 18 "FoldedMenu$Menu" "dishes" "I") (by decide +kernel)) (fun _ h9 => h9) rfl (by decide +kernel) rfl rfl (Nat.le_of_ble_eq_true rfl) dX3_addOffered_33 (fun H locs hP hD hS => ?_)
    have hP : va_P D vwCl [(t 0, .inr (3, [.ref (t 1), .ref (t 2), .int ((t_dishes + 1)), .int t_way])), (t 1, .inl (cy 0, 140, .inl ((upd t_values (((t_dishes * 7) + 6)).toNatClampNeg 1))))] H := hP
    have hD : va_D A [(t 0, .inr (3, [.ref (t 1), .ref (t 2), .int ((t_dishes + 1)), .int t_way])), (t 1, .inl (cy 0, 140, .inl ((upd t_values (((t_dishes * 7) + 6)).toNatClampNeg 1))))] := hD
    refine lv_aload_n hx hb dX3_addOffered_36 rfl (lv_at hl 0 rfl) ?_
    refine va_get (D := D) (ci := 3) (v := .int ((t_dishes + 1))) (C := RX3) (T := TX3) (N := 4) hx hb hts i_X3_addOffered_X3 hown hK hP 0 rfl rfl 2 (by decide) (hts (.fieldLink RX3 18 "FoldedMenu$Menu" "dishes" "I") (by decide +kernel)) (fun _ h9 => h9) rfl dX3_addOffered_37 ?_
    refine lv_iconst (v := 1) hx hb dX3_addOffered_40 (by decide) ?_
    refine lv_isub hx hb dX3_addOffered_41 ?_
    exact W.iret hx hb hr (fun t ht _ => hend ((((t_dishes + 1)) - 1)) ((upd t_values (((t_dishes * 7) + 6)).toNatClampNeg 1)) ((t_dishes + 1)) H locs h hP hD hS t ht) hS.2.2 dX3_addOffered_42
  · replace h := h.2 hc
    refine lv_bipush (v := (-99)) hx hb dX3_addOffered_7 (by decide) ?_
    exact W.iret hx hb hr (fun t ht _ => hend ((-99)) t_values t_dishes H locs h hP hD hS t ht) hS.2.2 dX3_addOffered_9

theorem i_X3_drop_X3 : ∀ w ∈ u_ws RX3 TX3 4, w ∈ wsX3_drop := by decide +kernel
abbrev r_X3_drop : Room := { frames := 2, cells := 0, slots := 0, locals := 43 }
set_option maxHeartbeats 4000000 in
set_option maxRecDepth 100000 in
theorem c_X3_drop (l : Launch) (D : va_G) (cy : Nat → ClassId) (sz : Nat) (t : Nat → Nat) (t_values : Nat → Int32) (t_dishes : Int32) (t_way : Int32) (a1 : Int32) (Q : (Nat → Int32) → Int32 → Prop) (hq : p_X3_drop t_values t_dishes a1 Q) : Met l yX3_drop wsX3_drop r_X3_drop (wPM [.ref (t 0), .int a1] sz D cy [(t 0, .inr (3, [.ref (t 1), .ref (t 2), .int t_dishes, .int t_way])), (t 1, .inl (cy 0, 140, .inl t_values))]) (va_Qv (fun u => ∃ (t_values' : Nat → Int32) (t_dishes' : Int32), u = [(t 0, .inr (3, [.ref (t 1), .ref (t 2), .int t_dishes', .int t_way])), (t 1, .inl (cy 0, 140, .inl t_values'))] ∧ Q t_values' t_dishes') (fun u T9 => va_P D vwCl u T9.heap ∧ va_D (va_A [(t 0, .inr (3, [.ref (t 1), .ref (t 2), .int t_dishes, .int t_way])), (t 1, .inl (cy 0, 140, .inl t_values))] sz) u) (va_A [(t 0, .inr (3, [.ref (t 1), .ref (t 2), .int t_dishes, .int t_way])), (t 1, .inl (cy 0, 140, .inl t_values))] sz)) 0 0 (va_A [(t 0, .inr (3, [.ref (t 1), .ref (t 2), .int t_dishes, .int t_way])), (t 1, .inl (cy 0, 140, .inl t_values))] sz) := by
  refine Met.ofW (cc := cX3_drop) (maxL := 3) (ret := none) (by decide) rfl ?_
  intro p e s m args below meth c s₁ B hml hv
  obtain ⟨hargs, hsz, hE, hP, hK, hD0⟩ := hv
  have hx := B.exec
  have hb := B.bytes
  have hr := B.returns
  have hts := atoms_spec (ws := wsX3_drop) B.pre
  have hown : s.vm.findClass RX3 = some m.cls := findClass_of_methodNamed B.named
  have hlocks := B.notSynchronized
  clear B
  subst hsz
  have hD := hD0.self (sz := s.heap.size)
  generalize hAe : va_A [(t 0, .inr (3, [.ref (t 1), .ref (t 2), .int t_dishes, .int t_way])), (t 1, .inl (cy 0, 140, .inl t_values))] s.heap.size = A at hD ⊢ hE
  have hA : ∀ q : Nat, s.heap.size ≤ q → A q := fun q h => by rw [← hAe]; exact Or.inr h
  clear hAe hD0
  have hend : ∀ (t_values : Nat → Int32) (t_dishes : Int32) (H : Heap) (locs : List Loc), Q t_values t_dishes → va_P D vwCl [(t 0, .inr (3, [.ref (t 1), .ref (t 2), .int t_dishes, .int t_way])), (t 1, .inl (cy 0, 140, .inl t_values))] H → va_D A [(t 0, .inr (3, [.ref (t 1), .ref (t 2), .int t_dishes, .int t_way])), (t 1, .inl (cy 0, 140, .inl t_values))] → va_S A s.heap H locs → ∀ T9 : State, T9.heap = H → (va_Qv (fun u => ∃ (t_values' : Nat → Int32) (t_dishes' : Int32), u = [(t 0, .inr (3, [.ref (t 1), .ref (t 2), .int t_dishes', .int t_way])), (t 1, .inl (cy 0, 140, .inl t_values'))] ∧ Q t_values' t_dishes') (fun u T9 => va_P D vwCl u T9.heap ∧ va_D A u) A) args s (.returned none) T9 := fun t_values t_dishes H locs hq hP hD hS T9 ht => ⟨⟨_, rfl, ⟨t_values, t_dishes, rfl, hq⟩, by rw [ht]; exact hP, hD⟩, hS.F ht⟩
  generalize (va_Qv (fun u => ∃ (t_values' : Nat → Int32) (t_dishes' : Int32), u = [(t 0, .inr (3, [.ref (t 1), .ref (t 2), .int t_dishes', .int t_way])), (t 1, .inl (cy 0, 140, .inl t_values'))] ∧ Q t_values' t_dishes') (fun u T9 => va_P D vwCl u T9.heap ∧ va_D A u) A) = Qc at hend ⊢
  have hS : va_S A s.heap s.heap [] := va_S.rf
  show W p l e r_X3_drop s m args below meth c s.heap [] 0 0 (MQ below Qc args s 0 0 A) (entryFrame m args 3)
  rw [show entryFrame m args 3 = entryFrame m ([.ref (t 0), .int a1] : List Value).toArray 3 from by rw [hargs]]
  have hl := lv_entry ([.ref (t 0), .int a1]) (n := 3) (Nat.le_of_ble_eq_true rfl)
  rw [lg_entry_eq]
  generalize (lg_sl ([.ref (t 0), .int a1]) ++ List.replicate (3 - (lg_sl ([.ref (t 0), .int a1])).length) Slot.unset).toArray = ls at hl ⊢
  have hl : lv_has ls 3 [(0, .ref (t 0)), (1, .int a1)] := hl
  have h := hq
  clear hargs hq
  unfold p_X3_drop at h
  suffices key : ∀ (H : Heap) (locs : List Loc), va_P D vwCl [(t 0, .inr (3, [.ref (t 1), .ref (t 2), .int t_dishes, .int t_way])), (t 1, .inl (cy 0, 140, .inl t_values))] H → va_D A [(t 0, .inr (3, [.ref (t 1), .ref (t 2), .int t_dishes, .int t_way])), (t 1, .inl (cy 0, 140, .inl t_values))] → va_S A s.heap H locs → W p l e r_X3_drop s m args below meth c H locs 0 0 (MQ below Qc args s 0 0 A) (F0 m 0 ls []) from key s.heap [] hP hD hS
  clear hP hD hS
  intro H locs hP hD hS
  refine lv_aload_n hx hb dX3_drop_0 rfl (lv_at hl 0 rfl) ?_
  refine lv_iload_n hx hb dX3_drop_1 rfl (lv_at hl 1 rfl) ?_
  have hPc := hP.sub (ws' := [(t 0, .inr (3, [.ref (t 1), .ref (t 2), .int t_dishes, .int t_way]))]) [0] rfl
  refine w_callZ (va_runV (As := [.int a1]) (rest := []) ⟨hx, hb, hml, hown, hts⟩ (c_X3_hasDish l D cy H t t_dishes t_way a1 _ h) (cwV 1 hts gX3_drop_X3_hasDish rfl rfl rfl (by decide +kernel) ⟨Nat.le_of_ble_eq_true rfl, Nat.le_of_ble_eq_true rfl⟩) (w_preVR hE hS hK hPc (ci := 3) rfl rfl) rfl rfl hl.1 rfl (lv_room (Nat.le_of_ble_eq_true rfl)) dX3_drop_2 ⟨Nat.zero_le _, Nat.zero_le _⟩) hS (fun r1 locs z_r1 h hS => ?_)
  try dsimp only at h
  refine lv_if_ne (tgt := 9) hx hb dX3_drop_5 rfl (fun hc => ?_) (fun hc => ?_)
  · replace h := h.1 hc
    refine lv_iload_n hx hb dX3_drop_9 rfl (lv_at hl 1 rfl) ?_
    refine lv_iconst (v := 1) hx hb dX3_drop_10 (by decide) ?_
    refine lv_iadd hx hb dX3_drop_11 ?_
    refine lv_bipush (v := 7) hx hb dX3_drop_12 (by decide) ?_
    refine lv_imul hx hb dX3_drop_14 ?_
    refine lv_istore_n (lv' := [(2, .int ((a1 + 1) * 7)), (0, .ref (t 0)), (1, .int a1)]) hx hb dX3_drop_15 rfl hl (by decide) rfl (fun ls hl => ?_)
    refine lv_aload_n hx hb dX3_drop_16 rfl (lv_at hl 1 rfl) ?_
    refine va_get (D := D) (ci := 3) (v := .ref (t 1)) (C := RX3) (T := TX3) (N := 4) hx hb hts i_X3_drop_X3 hown hK hP 0 rfl rfl 0 (by decide) (hts (.fieldLink RX3 9 "FoldedMenu$Menu" "values" "[I") (by decide +kernel)) (fun _ h9 => h9) rfl dX3_drop_17 ?_
    refine lv_iload_n hx hb dX3_drop_20 rfl (lv_at hl 0 rfl) ?_
    refine lv_aload_n hx hb dX3_drop_21 rfl (lv_at hl 1 rfl) ?_
    refine va_get (D := D) (ci := 3) (v := .ref (t 1)) (C := RX3) (T := TX3) (N := 4) hx hb hts i_X3_drop_X3 hown hK hP 0 rfl rfl 0 (by decide) (hts (.fieldLink RX3 9 "FoldedMenu$Menu" "values" "[I") (by decide +kernel)) (fun _ h9 => h9) rfl dX3_drop_22 ?_
    refine lv_iload_n hx hb dX3_drop_25 rfl (lv_at hl 2 rfl) ?_
    refine lv_bipush (v := 7) hx hb dX3_drop_26 (by decide) ?_
    refine lv_imul hx hb dX3_drop_28 ?_
    refine lv_aload_n hx hb dX3_drop_29 rfl (lv_at hl 1 rfl) ?_
    refine va_get (D := D) (ci := 3) (v := .int t_dishes) (C := RX3) (T := TX3) (N := 4) hx hb hts i_X3_drop_X3 hown hK hP 0 rfl rfl 2 (by decide) (hts (.fieldLink RX3 18 "FoldedMenu$Menu" "dishes" "I") (by decide +kernel)) (fun _ h9 => h9) rfl dX3_drop_30 ?_
    refine lv_bipush (v := 7) hx hb dX3_drop_33 (by decide) ?_
    refine lv_imul hx hb dX3_drop_35 ?_
    refine lv_iload_n hx hb dX3_drop_36 rfl (lv_at hl 0 rfl) ?_
    refine lv_isub hx hb dX3_drop_37 ?_
    obtain ⟨g1, g2, g3, g4, g5, h⟩ := h
    refine va_copyi hx hb (hml.trans hl.1.symm) hown (hts (.methodLink RX3 25 arraycopyName) (by decide +kernel)) (hts (.native arraycopyName) (by decide +kernel)) (hts (.static arraycopyName) (by decide +kernel)) (hts (.initialized "java/lang/System") (by decide +kernel)) hK hP hD hS 1 1 0 0 rfl rfl rfl rfl rfl g1 g2 g3 g4 g5 (fun _ _ => rfl) (Nat.le_of_ble_eq_true rfl) (Nat.le_of_ble_eq_true rfl) dX3_drop_38 (fun H locs hP hD hS => ?_)
    have hP : va_P D vwCl [(t 0, .inr (3, [.ref (t 1), .ref (t 2), .int t_dishes, .int t_way])), (t 1, .inl (cy 0, 140, .inl ((va_cpy t_values t_values (((a1 + 1) * 7)).toNatClampNeg ((a1 * 7)).toNatClampNeg (((t_dishes * 7) - ((a1 + 1) * 7))).toNatClampNeg))))] H := hP
    have hD : va_D A [(t 0, .inr (3, [.ref (t 1), .ref (t 2), .int t_dishes, .int t_way])), (t 1, .inl (cy 0, 140, .inl ((va_cpy t_values t_values (((a1 + 1) * 7)).toNatClampNeg ((a1 * 7)).toNatClampNeg (((t_dishes * 7) - ((a1 + 1) * 7))).toNatClampNeg))))] := hD
    refine lv_aload_n hx hb dX3_drop_41 rfl (lv_at hl 1 rfl) ?_
    refine lv_dup hx hb dX3_drop_42 rfl ?_
    refine va_get (D := D) (ci := 3) (v := .int t_dishes) (C := RX3) (T := TX3) (N := 4) hx hb hts i_X3_drop_X3 hown hK hP 0 rfl rfl 2 (by decide) (hts (.fieldLink RX3 18 "FoldedMenu$Menu" "dishes" "I") (by decide +kernel)) (fun _ h9 => h9) rfl dX3_drop_43 ?_
    refine lv_iconst (v := 1) hx hb dX3_drop_46 (by decide) ?_
    refine lv_isub hx hb dX3_drop_47 ?_
    refine va_put (D := D) (ci := 3) (v := .int (t_dishes - 1)) (ty := .int) (C := RX3) (T := TX3) (N := 4) hx hb hts i_X3_drop_X3 tyX3 tyX3_ok nmX3 hown hK hP hD hS 0 rfl rfl 2 (by decide) (hts (.fieldLink RX3 18 "FoldedMenu$Menu" "dishes" "I") (by decide +kernel)) (fun _ h9 => h9) rfl (by decide +kernel) rfl rfl (Nat.le_of_ble_eq_true rfl) dX3_drop_48 (fun H locs hP hD hS => ?_)
    have hP : va_P D vwCl [(t 0, .inr (3, [.ref (t 1), .ref (t 2), .int ((t_dishes - 1)), .int t_way])), (t 1, .inl (cy 0, 140, .inl ((va_cpy t_values t_values (((a1 + 1) * 7)).toNatClampNeg ((a1 * 7)).toNatClampNeg (((t_dishes * 7) - ((a1 + 1) * 7))).toNatClampNeg))))] H := hP
    have hD : va_D A [(t 0, .inr (3, [.ref (t 1), .ref (t 2), .int ((t_dishes - 1)), .int t_way])), (t 1, .inl (cy 0, 140, .inl ((va_cpy t_values t_values (((a1 + 1) * 7)).toNatClampNeg ((a1 * 7)).toNatClampNeg (((t_dishes * 7) - ((a1 + 1) * 7))).toNatClampNeg))))] := hD
    exact W.vret hx hb hr (fun t ht _ => hend ((va_cpy t_values t_values (((a1 + 1) * 7)).toNatClampNeg ((a1 * 7)).toNatClampNeg (((t_dishes * 7) - ((a1 + 1) * 7))).toNatClampNeg)) ((t_dishes - 1)) H locs h hP hD hS t ht) hS.2.2 dX3_drop_51
  · replace h := h.2 hc
    exact W.vret hx hb hr (fun t ht _ => hend t_values t_dishes H locs h hP hD hS t ht) hS.2.2 dX3_drop_8

theorem i_X3_changeSetting_X3 : ∀ w ∈ u_ws RX3 TX3 4, w ∈ wsX3_changeSetting := by decide +kernel
abbrev r_X3_changeSetting : Room := { frames := 2, cells := 0, slots := 0, locals := 43 }
set_option maxHeartbeats 4000000 in
set_option maxRecDepth 100000 in
theorem c_X3_changeSetting (l : Launch) (D : va_G) (cy : Nat → ClassId) (sz : Nat) (t : Nat → Nat) (t_settings : Nat → Int32) (t_dishes : Int32) (t_way : Int32) (a1 : Int32) (a2 : Int32) (Q : (Nat → Int32) → Prop) (hq : p_X3_changeSetting t_settings a1 a2 Q) : Met l yX3_changeSetting wsX3_changeSetting r_X3_changeSetting (wPM [.ref (t 0), .int a1, .int a2] sz D cy [(t 0, .inr (3, [.ref (t 1), .ref (t 2), .int t_dishes, .int t_way])), (t 2, .inl (cy 0, 6, .inl t_settings))]) (va_Qv (fun u => ∃ (t_settings' : Nat → Int32), u = [(t 0, .inr (3, [.ref (t 1), .ref (t 2), .int t_dishes, .int t_way])), (t 2, .inl (cy 0, 6, .inl t_settings'))] ∧ Q t_settings') (fun u T9 => va_P D vwCl u T9.heap ∧ va_D (va_A [(t 0, .inr (3, [.ref (t 1), .ref (t 2), .int t_dishes, .int t_way])), (t 2, .inl (cy 0, 6, .inl t_settings))] sz) u) (va_A [(t 0, .inr (3, [.ref (t 1), .ref (t 2), .int t_dishes, .int t_way])), (t 2, .inl (cy 0, 6, .inl t_settings))] sz)) 0 0 (va_A [(t 0, .inr (3, [.ref (t 1), .ref (t 2), .int t_dishes, .int t_way])), (t 2, .inl (cy 0, 6, .inl t_settings))] sz) := by
  refine Met.ofW (cc := cX3_changeSetting) (maxL := 3) (ret := none) (by decide) rfl ?_
  intro p e s m args below meth c s₁ B hml hv
  obtain ⟨hargs, hsz, hE, hP, hK, hD0⟩ := hv
  have hx := B.exec
  have hb := B.bytes
  have hr := B.returns
  have hts := atoms_spec (ws := wsX3_changeSetting) B.pre
  have hown : s.vm.findClass RX3 = some m.cls := findClass_of_methodNamed B.named
  have hlocks := B.notSynchronized
  clear B
  subst hsz
  have hD := hD0.self (sz := s.heap.size)
  generalize hAe : va_A [(t 0, .inr (3, [.ref (t 1), .ref (t 2), .int t_dishes, .int t_way])), (t 2, .inl (cy 0, 6, .inl t_settings))] s.heap.size = A at hD ⊢ hE
  have hA : ∀ q : Nat, s.heap.size ≤ q → A q := fun q h => by rw [← hAe]; exact Or.inr h
  clear hAe hD0
  have hend : ∀ (t_settings : Nat → Int32) (H : Heap) (locs : List Loc), Q t_settings → va_P D vwCl [(t 0, .inr (3, [.ref (t 1), .ref (t 2), .int t_dishes, .int t_way])), (t 2, .inl (cy 0, 6, .inl t_settings))] H → va_D A [(t 0, .inr (3, [.ref (t 1), .ref (t 2), .int t_dishes, .int t_way])), (t 2, .inl (cy 0, 6, .inl t_settings))] → va_S A s.heap H locs → ∀ T9 : State, T9.heap = H → (va_Qv (fun u => ∃ (t_settings' : Nat → Int32), u = [(t 0, .inr (3, [.ref (t 1), .ref (t 2), .int t_dishes, .int t_way])), (t 2, .inl (cy 0, 6, .inl t_settings'))] ∧ Q t_settings') (fun u T9 => va_P D vwCl u T9.heap ∧ va_D A u) A) args s (.returned none) T9 := fun t_settings H locs hq hP hD hS T9 ht => ⟨⟨_, rfl, ⟨t_settings, rfl, hq⟩, by rw [ht]; exact hP, hD⟩, hS.F ht⟩
  generalize (va_Qv (fun u => ∃ (t_settings' : Nat → Int32), u = [(t 0, .inr (3, [.ref (t 1), .ref (t 2), .int t_dishes, .int t_way])), (t 2, .inl (cy 0, 6, .inl t_settings'))] ∧ Q t_settings') (fun u T9 => va_P D vwCl u T9.heap ∧ va_D A u) A) = Qc at hend ⊢
  have hS : va_S A s.heap s.heap [] := va_S.rf
  show W p l e r_X3_changeSetting s m args below meth c s.heap [] 0 0 (MQ below Qc args s 0 0 A) (entryFrame m args 3)
  rw [show entryFrame m args 3 = entryFrame m ([.ref (t 0), .int a1, .int a2] : List Value).toArray 3 from by rw [hargs]]
  have hl := lv_entry ([.ref (t 0), .int a1, .int a2]) (n := 3) (Nat.le_of_ble_eq_true rfl)
  rw [lg_entry_eq]
  generalize (lg_sl ([.ref (t 0), .int a1, .int a2]) ++ List.replicate (3 - (lg_sl ([.ref (t 0), .int a1, .int a2])).length) Slot.unset).toArray = ls at hl ⊢
  have hl : lv_has ls 3 [(0, .ref (t 0)), (1, .int a1), (2, .int a2)] := hl
  have h := hq
  clear hargs hq
  unfold p_X3_changeSetting at h
  suffices key : ∀ (H : Heap) (locs : List Loc), va_P D vwCl [(t 0, .inr (3, [.ref (t 1), .ref (t 2), .int t_dishes, .int t_way])), (t 2, .inl (cy 0, 6, .inl t_settings))] H → va_D A [(t 0, .inr (3, [.ref (t 1), .ref (t 2), .int t_dishes, .int t_way])), (t 2, .inl (cy 0, 6, .inl t_settings))] → va_S A s.heap H locs → W p l e r_X3_changeSetting s m args below meth c H locs 0 0 (MQ below Qc args s 0 0 A) (F0 m 0 ls []) from key s.heap [] hP hD hS
  clear hP hD hS
  intro H locs hP hD hS
  refine lv_iload_n hx hb dX3_changeSetting_0 rfl (lv_at hl 1 rfl) ?_
  refine lv_iload_n hx hb dX3_changeSetting_1 rfl (lv_at hl 2 rfl) ?_
  have hPc := hP.sub (ws' := []) [] rfl
  refine w_callZ (va_runSN (As := [.int a1, .int a2]) (rest := []) ⟨hx, hb, hml, hown, hts⟩ (c_X8_isCardValue l D cy H a1 a2 _ h) ⟨(va_cnB 2 hts gX3_changeSetting_X8_isCardValue_n47 rfl rfl rfl (nM_X3_47 hE.1) (hts (.initialized RX8) (by decide +kernel)) (by decide +kernel) ⟨Nat.le_of_ble_eq_true rfl, Nat.le_of_ble_eq_true rfl⟩), hts (.static yX8_isCardValue) (by decide +kernel), trivial⟩ (w_preSR hE hS hK hPc) rfl rfl hl.1 rfl (lv_room (Nat.le_of_ble_eq_true rfl)) dX3_changeSetting_2 ⟨Nat.zero_le _, Nat.zero_le _⟩) hS (fun r1 locs z_r1 h hS => ?_)
  try dsimp only at h
  refine lv_if_eq (tgt := 15) hx hb dX3_changeSetting_5 rfl (fun hc => ?_) (fun hc => ?_)
  · replace h := h.1 hc
    exact W.vret hx hb hr (fun t ht _ => hend t_settings H locs h hP hD hS t ht) hS.2.2 dX3_changeSetting_15
  · replace h := h.2 hc
    refine lv_aload_n hx hb dX3_changeSetting_8 rfl (lv_at hl 0 rfl) ?_
    refine va_get (D := D) (ci := 3) (v := .ref (t 2)) (C := RX3) (T := TX3) (N := 4) hx hb hts i_X3_changeSetting_X3 hown hK hP 0 rfl rfl 1 (by decide) (hts (.fieldLink RX3 15 "FoldedMenu$Menu" "settings" "[I") (by decide +kernel)) (fun _ h9 => h9) rfl dX3_changeSetting_9 ?_
    refine lv_iload_n hx hb dX3_changeSetting_12 rfl (lv_at hl 1 rfl) ?_
    refine lv_iload_n hx hb dX3_changeSetting_13 rfl (lv_at hl 2 rfl) ?_
    obtain ⟨hi, h⟩ := h
    refine va_iast hx hb hK hP hD hS 1 0 rfl rfl hi dX3_changeSetting_14 (fun H locs hP hD hS => ?_)
    have hP : va_P D vwCl [(t 0, .inr (3, [.ref (t 1), .ref (t 2), .int t_dishes, .int t_way])), (t 2, .inl (cy 0, 6, .inl ((upd t_settings a1.toNatClampNeg a2))))] H := hP
    have hD : va_D A [(t 0, .inr (3, [.ref (t 1), .ref (t 2), .int t_dishes, .int t_way])), (t 2, .inl (cy 0, 6, .inl ((upd t_settings a1.toNatClampNeg a2))))] := hD
    exact W.vret hx hb hr (fun t ht _ => hend ((upd t_settings a1.toNatClampNeg a2)) H locs h hP hD hS t ht) hS.2.2 dX3_changeSetting_15

theorem i_X3_putCourse_X3 : ∀ w ∈ u_ws RX3 TX3 4, w ∈ wsX3_putCourse := by decide +kernel
abbrev r_X3_putCourse : Room := { frames := 0, cells := 0, slots := 0, locals := 0 }
set_option maxHeartbeats 4000000 in
set_option maxRecDepth 100000 in
theorem c_X3_putCourse (l : Launch) (D : va_G) (cy : Nat → ClassId) (sz : Nat) (t : Nat → Nat) (t_dishes : Int32) (t_way : Int32) (a1 : Int32) (a2 : Int32) (Q : Int32 → Prop) (hq : p_X3_putCourse t_way a1 a2 Q) : Met l yX3_putCourse wsX3_putCourse r_X3_putCourse (wPO [.ref (t 0), .int a1, .int a2] sz D cy [(t 0, .inr (3, [.ref (t 1), .ref (t 2), .int t_dishes, .int t_way]))]) (va_Qv (fun u => ∃ (t_way' : Int32), u = [(t 0, .inr (3, [.ref (t 1), .ref (t 2), .int t_dishes, .int t_way']))] ∧ Q t_way') (fun u T9 => va_P D vwCl u T9.heap ∧ va_D (va_A [(t 0, .inr (3, [.ref (t 1), .ref (t 2), .int t_dishes, .int t_way]))] sz) u) (va_A [(t 0, .inr (3, [.ref (t 1), .ref (t 2), .int t_dishes, .int t_way]))] sz)) 0 0 (va_A [(t 0, .inr (3, [.ref (t 1), .ref (t 2), .int t_dishes, .int t_way]))] sz) := by
  refine Met.ofW (cc := cX3_putCourse) (maxL := 3) (ret := none) (by decide) rfl ?_
  intro p e s m args below meth c s₁ B hml hv
  obtain ⟨hargs, hsz, hP, hK, hD0⟩ := hv
  have hx := B.exec
  have hb := B.bytes
  have hr := B.returns
  have hts := atoms_spec (ws := wsX3_putCourse) B.pre
  have hown : s.vm.findClass RX3 = some m.cls := findClass_of_methodNamed B.named
  have hlocks := B.notSynchronized
  clear B
  subst hsz
  have hD := hD0.self (sz := s.heap.size)
  generalize hAe : va_A [(t 0, .inr (3, [.ref (t 1), .ref (t 2), .int t_dishes, .int t_way]))] s.heap.size = A at hD ⊢
  have hA : ∀ q : Nat, s.heap.size ≤ q → A q := fun q h => by rw [← hAe]; exact Or.inr h
  clear hAe hD0
  have hend : ∀ (t_way : Int32) (H : Heap) (locs : List Loc), Q t_way → va_P D vwCl [(t 0, .inr (3, [.ref (t 1), .ref (t 2), .int t_dishes, .int t_way]))] H → va_D A [(t 0, .inr (3, [.ref (t 1), .ref (t 2), .int t_dishes, .int t_way]))] → va_S A s.heap H locs → ∀ T9 : State, T9.heap = H → (va_Qv (fun u => ∃ (t_way' : Int32), u = [(t 0, .inr (3, [.ref (t 1), .ref (t 2), .int t_dishes, .int t_way']))] ∧ Q t_way') (fun u T9 => va_P D vwCl u T9.heap ∧ va_D A u) A) args s (.returned none) T9 := fun t_way H locs hq hP hD hS T9 ht => ⟨⟨_, rfl, ⟨t_way, rfl, hq⟩, by rw [ht]; exact hP, hD⟩, hS.F ht⟩
  generalize (va_Qv (fun u => ∃ (t_way' : Int32), u = [(t 0, .inr (3, [.ref (t 1), .ref (t 2), .int t_dishes, .int t_way']))] ∧ Q t_way') (fun u T9 => va_P D vwCl u T9.heap ∧ va_D A u) A) = Qc at hend ⊢
  have hS : va_S A s.heap s.heap [] := va_S.rf
  show W p l e r_X3_putCourse s m args below meth c s.heap [] 0 0 (MQ below Qc args s 0 0 A) (entryFrame m args 3)
  rw [show entryFrame m args 3 = entryFrame m ([.ref (t 0), .int a1, .int a2] : List Value).toArray 3 from by rw [hargs]]
  have hl := lv_entry ([.ref (t 0), .int a1, .int a2]) (n := 3) (Nat.le_of_ble_eq_true rfl)
  rw [lg_entry_eq]
  generalize (lg_sl ([.ref (t 0), .int a1, .int a2]) ++ List.replicate (3 - (lg_sl ([.ref (t 0), .int a1, .int a2])).length) Slot.unset).toArray = ls at hl ⊢
  have hl : lv_has ls 3 [(0, .ref (t 0)), (1, .int a1), (2, .int a2)] := hl
  have h := hq
  clear hargs hq
  have j27 : ∀ (t_way : Int32) (k1 : Int32), p_X3_putCourse_27 k1 Q → ∀ (H : Heap) (locs : List Loc), va_P D vwCl [(t 0, .inr (3, [.ref (t 1), .ref (t 2), .int t_dishes, .int t_way]))] H → va_D A [(t 0, .inr (3, [.ref (t 1), .ref (t 2), .int t_dishes, .int t_way]))] → va_S A s.heap H locs → ∀ (ls : Array Slot), lv_has ls 3 [] → W p l e r_X3_putCourse s m args below meth c H locs 0 0 (MQ below Qc args s 0 0 A) (F0 m 27 ls [.int k1, .ref (t 0)]) := by
    intro t_way k1 h H locs hP hD hS ls hl
    unfold p_X3_putCourse_27 at h
    refine va_put (D := D) (ci := 3) (v := .int k1) (ty := .int) (C := RX3) (T := TX3) (N := 4) hx hb hts i_X3_putCourse_X3 tyX3 tyX3_ok nmX3 hown hK hP hD hS 0 rfl rfl 3 (by decide) (hts (.fieldLink RX3 22 "FoldedMenu$Menu" "way" "I") (by decide +kernel)) (fun _ h9 => h9) rfl (by decide +kernel) rfl rfl (Nat.le_of_ble_eq_true rfl) dX3_putCourse_27 (fun H locs hP hD hS => ?_)
    have hP : va_P D vwCl [(t 0, .inr (3, [.ref (t 1), .ref (t 2), .int t_dishes, .int k1]))] H := hP
    have hD : va_D A [(t 0, .inr (3, [.ref (t 1), .ref (t 2), .int t_dishes, .int k1]))] := hD
    exact W.vret hx hb hr (fun t ht _ => hend k1 H locs h hP hD hS t ht) hS.2.2 dX3_putCourse_30
  unfold p_X3_putCourse at h
  suffices key : ∀ (H : Heap) (locs : List Loc), va_P D vwCl [(t 0, .inr (3, [.ref (t 1), .ref (t 2), .int t_dishes, .int t_way]))] H → va_D A [(t 0, .inr (3, [.ref (t 1), .ref (t 2), .int t_dishes, .int t_way]))] → va_S A s.heap H locs → W p l e r_X3_putCourse s m args below meth c H locs 0 0 (MQ below Qc args s 0 0 A) (F0 m 0 ls []) from key s.heap [] hP hD hS
  clear hP hD hS
  intro H locs hP hD hS
  refine lv_aload_n hx hb dX3_putCourse_0 rfl (lv_at hl 0 rfl) ?_
  refine lv_iload_n hx hb dX3_putCourse_1 rfl (lv_at hl 2 rfl) ?_
  refine lv_iconst (v := 1) hx hb dX3_putCourse_2 (by decide) ?_
  refine lv_icmp_ne (tgt := 17) hx hb dX3_putCourse_3 rfl (fun hc => ?_) (fun hc => ?_)
  · replace h := h.1 hc
    refine lv_aload_n hx hb dX3_putCourse_17 rfl (lv_at hl 0 rfl) ?_
    refine va_get (D := D) (ci := 3) (v := .int t_way) (C := RX3) (T := TX3) (N := 4) hx hb hts i_X3_putCourse_X3 hown hK hP 0 rfl rfl 3 (by decide) (hts (.fieldLink RX3 22 "FoldedMenu$Menu" "way" "I") (by decide +kernel)) (fun _ h9 => h9) rfl dX3_putCourse_18 ?_
    refine lv_iconst (v := 1) hx hb dX3_putCourse_21 (by decide) ?_
    refine lv_iload_n hx hb dX3_putCourse_22 rfl (lv_at hl 1 rfl) ?_
    refine lv_ishl hx hb dX3_putCourse_23 ?_
    refine lv_iconst (v := (-1)) hx hb dX3_putCourse_24 (by decide) ?_
    refine lv_ixor hx hb dX3_putCourse_25 ?_
    refine lv_iand hx hb dX3_putCourse_26 ?_
    exact j27 t_way ((t_way &&& ((1 <<< (a1 &&& 31)) ^^^ (-1)))) h _ _ hP hD hS _ (lv_sub hl [] rfl)
  · replace h := h.2 hc
    refine lv_aload_n hx hb dX3_putCourse_6 rfl (lv_at hl 0 rfl) ?_
    refine va_get (D := D) (ci := 3) (v := .int t_way) (C := RX3) (T := TX3) (N := 4) hx hb hts i_X3_putCourse_X3 hown hK hP 0 rfl rfl 3 (by decide) (hts (.fieldLink RX3 22 "FoldedMenu$Menu" "way" "I") (by decide +kernel)) (fun _ h9 => h9) rfl dX3_putCourse_7 ?_
    refine lv_iconst (v := 1) hx hb dX3_putCourse_10 (by decide) ?_
    refine lv_iload_n hx hb dX3_putCourse_11 rfl (lv_at hl 1 rfl) ?_
    refine lv_ishl hx hb dX3_putCourse_12 ?_
    refine lv_ior hx hb dX3_putCourse_13 ?_
    refine lv_goto (tgt := 27) hx hb dX3_putCourse_14 rfl ?_
    exact j27 t_way ((t_way ||| (1 <<< (a1 &&& 31)))) h _ _ hP hD hS _ (lv_sub hl [] rfl)

abbrev r_X3_isOffered : Room := { frames := 1, cells := 0, slots := 0, locals := 23 }
set_option maxHeartbeats 4000000 in
set_option maxRecDepth 100000 in
theorem c_X3_isOffered (l : Launch) (D : va_G) (cy : Nat → ClassId) (H0 : Heap) (t : Nat → Nat) (t_values : Nat → Int32) (t_dishes : Int32) (t_way : Int32) (a1 : Int32) (Q : Int32 → Prop) (hq : p_X3_isOffered t_values a1 Q) : Met l yX3_isOffered wsX3_isOffered r_X3_isOffered (wPN [.ref (t 0), .int a1] H0 D cy [(t 0, .inr (3, [.ref (t 1), .ref (t 2), .int t_dishes, .int t_way])), (t 1, .inl (cy 0, 140, .inl t_values))]) (wQZ Q H0) 0 0 wNo := by
  refine Met.ofW (cc := cX3_isOffered) (maxL := 2) (ret := (some .boolean)) (by decide) rfl ?_
  intro p e s m args below meth c s₁ B hml hv
  obtain ⟨hargs, hH, hP, hK⟩ := hv
  have hx := B.exec
  have hb := B.bytes
  have hr := B.returns
  have hts := atoms_spec (ws := wsX3_isOffered) B.pre
  have hown : s.vm.findClass RX3 = some m.cls := findClass_of_methodNamed B.named
  have hlocks := B.notSynchronized
  clear B
  subst hH
  have hend : ∀ (r : Int32), (r = 0 ∨ r = 1) → Q r → ∀ T9 : State, T9.heap = s.heap → (wQZ Q s.heap) args s (.returned (some (.int r))) T9 := fun r hz hq T9 ht => ⟨⟨r, (), rfl, ⟨hz, hq⟩, ht⟩, by rw [ht]; exact Nat.le_refl _, fun _ _ _ => by rw [ht]⟩
  generalize (wQZ Q s.heap) = Qc at hend ⊢
  have hS : va_S wNo s.heap s.heap [] := va_S.rf
  show W p l e r_X3_isOffered s m args below meth c s.heap [] 0 0 (MQ below Qc args s 0 0 wNo) (entryFrame m args 2)
  rw [show entryFrame m args 2 = entryFrame m ([.ref (t 0), .int a1] : List Value).toArray 2 from by rw [hargs]]
  have hl := lv_entry ([.ref (t 0), .int a1]) (n := 2) (Nat.le_of_ble_eq_true rfl)
  rw [lg_entry_eq]
  generalize (lg_sl ([.ref (t 0), .int a1]) ++ List.replicate (2 - (lg_sl ([.ref (t 0), .int a1])).length) Slot.unset).toArray = ls at hl ⊢
  have hl : lv_has ls 2 [(0, .ref (t 0)), (1, .int a1)] := hl
  have h := hq
  clear hargs hq
  unfold p_X3_isOffered at h
  refine lv_aload_n hx hb dX3_isOffered_0 rfl (lv_at hl 0 rfl) ?_
  refine lv_iload_n hx hb dX3_isOffered_1 rfl (lv_at hl 1 rfl) ?_
  refine lv_bipush (v := 6) hx hb dX3_isOffered_2 (by decide) ?_
  have hPc := hP.sub (ws' := [(t 0, .inr (3, [.ref (t 1), .ref (t 2), .int t_dishes, .int t_way])), (t 1, .inl (cy 0, 140, .inl t_values))]) [0, 1] rfl
  refine w_callR (va_runV (As := [.int a1, .int 6]) (rest := []) ⟨hx, hb, hml, hown, hts⟩ (c_X3_valueOf l D cy s.heap t t_values t_dishes t_way a1 6 _ h) (cwV 2 hts gX3_isOffered_X3_valueOf rfl rfl rfl (by decide +kernel) ⟨Nat.le_of_ble_eq_true rfl, Nat.le_of_ble_eq_true rfl⟩) (w_preVN hK hPc (ci := 3) rfl rfl) rfl rfl hl.1 rfl (lv_room (Nat.le_of_ble_eq_true rfl)) dX3_isOffered_4 ⟨Nat.zero_le _, Nat.zero_le _⟩) hS (fun r1 locs h hS => ?_)
  try dsimp only at h
  refine lv_iconst (v := 1) hx hb dX3_isOffered_7 (by decide) ?_
  refine lv_icmp_ne (tgt := 15) hx hb dX3_isOffered_8 rfl (fun hc => ?_) (fun hc => ?_)
  · replace h := h.1 hc
    refine lv_iconst (v := 0) hx hb dX3_isOffered_15 (by decide) ?_
    exact W.zret hx hb hr rfl (fun t ht _ => hend 0 (by decide) h t ht) hS.2.2 dX3_isOffered_16
  · replace h := h.2 hc
    refine lv_iconst (v := 1) hx hb dX3_isOffered_11 (by decide) ?_
    refine lv_goto (tgt := 16) hx hb dX3_isOffered_12 rfl ?_
    exact W.zret hx hb hr rfl (fun t ht _ => hend 1 (by decide) h t ht) hS.2.2 dX3_isOffered_16

abbrev r_X3_isInSeason : Room := { frames := 1, cells := 0, slots := 0, locals := 23 }
set_option maxHeartbeats 4000000 in
set_option maxRecDepth 100000 in
theorem c_X3_isInSeason (l : Launch) (D : va_G) (cy : Nat → ClassId) (H0 : Heap) (t : Nat → Nat) (t_values : Nat → Int32) (t_dishes : Int32) (t_way : Int32) (a1 : Int32) (a2 : Int32) (Q : Int32 → Prop) (hq : p_X3_isInSeason t_values a1 a2 Q) : Met l yX3_isInSeason wsX3_isInSeason r_X3_isInSeason (wPR [.ref (t 0), .int a1, .int a2] H0 D cy [(t 0, .inr (3, [.ref (t 1), .ref (t 2), .int t_dishes, .int t_way])), (t 1, .inl (cy 0, 140, .inl t_values))]) (wQZ Q H0) 0 0 wNo := by
  refine Met.ofW (cc := cX3_isInSeason) (maxL := 3) (ret := (some .boolean)) (by decide) rfl ?_
  intro p e s m args below meth c s₁ B hml hv
  obtain ⟨hargs, hH, hE, hP, hK⟩ := hv
  have hx := B.exec
  have hb := B.bytes
  have hr := B.returns
  have hts := atoms_spec (ws := wsX3_isInSeason) B.pre
  have hown : s.vm.findClass RX3 = some m.cls := findClass_of_methodNamed B.named
  have hlocks := B.notSynchronized
  clear B
  subst hH
  have hend : ∀ (r : Int32), (r = 0 ∨ r = 1) → Q r → ∀ T9 : State, T9.heap = s.heap → (wQZ Q s.heap) args s (.returned (some (.int r))) T9 := fun r hz hq T9 ht => ⟨⟨r, (), rfl, ⟨hz, hq⟩, ht⟩, by rw [ht]; exact Nat.le_refl _, fun _ _ _ => by rw [ht]⟩
  generalize (wQZ Q s.heap) = Qc at hend ⊢
  have hS : va_S wNo s.heap s.heap [] := va_S.rf
  show W p l e r_X3_isInSeason s m args below meth c s.heap [] 0 0 (MQ below Qc args s 0 0 wNo) (entryFrame m args 3)
  rw [show entryFrame m args 3 = entryFrame m ([.ref (t 0), .int a1, .int a2] : List Value).toArray 3 from by rw [hargs]]
  have hl := lv_entry ([.ref (t 0), .int a1, .int a2]) (n := 3) (Nat.le_of_ble_eq_true rfl)
  rw [lg_entry_eq]
  generalize (lg_sl ([.ref (t 0), .int a1, .int a2]) ++ List.replicate (3 - (lg_sl ([.ref (t 0), .int a1, .int a2])).length) Slot.unset).toArray = ls at hl ⊢
  have hl : lv_has ls 3 [(0, .ref (t 0)), (1, .int a1), (2, .int a2)] := hl
  have h := hq
  clear hargs hq
  unfold p_X3_isInSeason at h
  refine lv_aload_n hx hb dX3_isInSeason_0 rfl (lv_at hl 0 rfl) ?_
  refine lv_iload_n hx hb dX3_isInSeason_1 rfl (lv_at hl 1 rfl) ?_
  refine lv_iconst (v := 3) hx hb dX3_isInSeason_2 (by decide) ?_
  have hPc := hP.sub (ws' := [(t 0, .inr (3, [.ref (t 1), .ref (t 2), .int t_dishes, .int t_way])), (t 1, .inl (cy 0, 140, .inl t_values))]) [0, 1] rfl
  refine w_callR (va_runV (As := [.int a1, .int 3]) (rest := []) ⟨hx, hb, hml, hown, hts⟩ (c_X3_valueOf l D cy s.heap t t_values t_dishes t_way a1 3 _ h) (cwV 2 hts gX3_isInSeason_X3_valueOf rfl rfl rfl (by decide +kernel) ⟨Nat.le_of_ble_eq_true rfl, Nat.le_of_ble_eq_true rfl⟩) (w_preVN hK hPc (ci := 3) rfl rfl) rfl rfl hl.1 rfl (lv_room (Nat.le_of_ble_eq_true rfl)) dX3_isInSeason_3 ⟨Nat.zero_le _, Nat.zero_le _⟩) hS (fun r1 locs h hS => ?_)
  try dsimp only at h
  refine lv_iload_n hx hb dX3_isInSeason_6 rfl (lv_at hl 2 rfl) ?_
  have hPc := hP.sub (ws' := []) [] rfl
  refine w_callZ (va_runSN (As := [.int r1, .int a2]) (rest := []) ⟨hx, hb, hml, hown, hts⟩ (c_X8_has l D cy s.heap r1 a2 _ h) ⟨(va_cnB 2 hts gX3_isInSeason_X8_has_n54 rfl rfl rfl (nM_X3_54 hE.1) (hts (.initialized RX8) (by decide +kernel)) (by decide +kernel) ⟨Nat.le_of_ble_eq_true rfl, Nat.le_of_ble_eq_true rfl⟩), hts (.static yX8_has) (by decide +kernel), trivial⟩ (w_preSN hK hPc) rfl rfl hl.1 rfl (lv_room (Nat.le_of_ble_eq_true rfl)) dX3_isInSeason_7 ⟨Nat.zero_le _, Nat.zero_le _⟩) hS (fun r2 locs z_r2 h hS => ?_)
  try dsimp only at h
  exact W.zret hx hb hr (w_bool z_r2) (fun t ht _ => hend r2 z_r2 h t ht) hS.2.2 dX3_isInSeason_10

abbrev r_X3_suits : Room := { frames := 1, cells := 0, slots := 0, locals := 23 }
set_option maxHeartbeats 4000000 in
set_option maxRecDepth 100000 in
theorem c_X3_suits (l : Launch) (D : va_G) (cy : Nat → ClassId) (H0 : Heap) (t : Nat → Nat) (t_values : Nat → Int32) (t_dishes : Int32) (t_way : Int32) (a1 : Int32) (a2 : Int32) (Q : Int32 → Prop) (hq : p_X3_suits t_values a1 a2 Q) : Met l yX3_suits wsX3_suits r_X3_suits (wPN [.ref (t 0), .int a1, .int a2] H0 D cy [(t 0, .inr (3, [.ref (t 1), .ref (t 2), .int t_dishes, .int t_way])), (t 1, .inl (cy 0, 140, .inl t_values))]) (wQZ Q H0) 0 0 wNo := by
  refine Met.ofW (cc := cX3_suits) (maxL := 3) (ret := (some .boolean)) (by decide) rfl ?_
  intro p e s m args below meth c s₁ B hml hv
  obtain ⟨hargs, hH, hP, hK⟩ := hv
  have hx := B.exec
  have hb := B.bytes
  have hr := B.returns
  have hts := atoms_spec (ws := wsX3_suits) B.pre
  have hown : s.vm.findClass RX3 = some m.cls := findClass_of_methodNamed B.named
  have hlocks := B.notSynchronized
  clear B
  subst hH
  have hend : ∀ (r : Int32), (r = 0 ∨ r = 1) → Q r → ∀ T9 : State, T9.heap = s.heap → (wQZ Q s.heap) args s (.returned (some (.int r))) T9 := fun r hz hq T9 ht => ⟨⟨r, (), rfl, ⟨hz, hq⟩, ht⟩, by rw [ht]; exact Nat.le_refl _, fun _ _ _ => by rw [ht]⟩
  generalize (wQZ Q s.heap) = Qc at hend ⊢
  have hS : va_S wNo s.heap s.heap [] := va_S.rf
  show W p l e r_X3_suits s m args below meth c s.heap [] 0 0 (MQ below Qc args s 0 0 wNo) (entryFrame m args 3)
  rw [show entryFrame m args 3 = entryFrame m ([.ref (t 0), .int a1, .int a2] : List Value).toArray 3 from by rw [hargs]]
  have hl := lv_entry ([.ref (t 0), .int a1, .int a2]) (n := 3) (Nat.le_of_ble_eq_true rfl)
  rw [lg_entry_eq]
  generalize (lg_sl ([.ref (t 0), .int a1, .int a2]) ++ List.replicate (3 - (lg_sl ([.ref (t 0), .int a1, .int a2])).length) Slot.unset).toArray = ls at hl ⊢
  have hl : lv_has ls 3 [(0, .ref (t 0)), (1, .int a1), (2, .int a2)] := hl
  have h := hq
  clear hargs hq
  unfold p_X3_suits at h
  refine lv_aload_n hx hb dX3_suits_0 rfl (lv_at hl 0 rfl) ?_
  refine lv_iload_n hx hb dX3_suits_1 rfl (lv_at hl 1 rfl) ?_
  refine lv_iconst (v := 4) hx hb dX3_suits_2 (by decide) ?_
  have hPc := hP.sub (ws' := [(t 0, .inr (3, [.ref (t 1), .ref (t 2), .int t_dishes, .int t_way])), (t 1, .inl (cy 0, 140, .inl t_values))]) [0, 1] rfl
  refine w_callR (va_runV (As := [.int a1, .int 4]) (rest := []) ⟨hx, hb, hml, hown, hts⟩ (c_X3_valueOf l D cy s.heap t t_values t_dishes t_way a1 4 _ h) (cwV 2 hts gX3_suits_X3_valueOf rfl rfl rfl (by decide +kernel) ⟨Nat.le_of_ble_eq_true rfl, Nat.le_of_ble_eq_true rfl⟩) (w_preVN hK hPc (ci := 3) rfl rfl) rfl rfl hl.1 rfl (lv_room (Nat.le_of_ble_eq_true rfl)) dX3_suits_3 ⟨Nat.zero_le _, Nat.zero_le _⟩) hS (fun r1 locs h hS => ?_)
  try dsimp only at h
  refine lv_iload_n hx hb dX3_suits_6 rfl (lv_at hl 2 rfl) ?_
  refine lv_iand hx hb dX3_suits_7 ?_
  refine lv_if_ne (tgt := 15) hx hb dX3_suits_8 rfl (fun hc => ?_) (fun hc => ?_)
  · replace h := h.1 hc
    refine lv_iconst (v := 0) hx hb dX3_suits_15 (by decide) ?_
    exact W.zret hx hb hr rfl (fun t ht _ => hend 0 (by decide) h t ht) hS.2.2 dX3_suits_16
  · replace h := h.2 hc
    refine lv_iconst (v := 1) hx hb dX3_suits_11 (by decide) ?_
    refine lv_goto (tgt := 16) hx hb dX3_suits_12 rfl ?_
    exact W.zret hx hb hr rfl (fun t ht _ => hend 1 (by decide) h t ht) hS.2.2 dX3_suits_16

abbrev r_X3_mayBePrinted : Room := { frames := 2, cells := 0, slots := 0, locals := 45 }
set_option maxHeartbeats 4000000 in
set_option maxRecDepth 100000 in
theorem c_X3_mayBePrinted (l : Launch) (D : va_G) (cy : Nat → ClassId) (H0 : Heap) (t : Nat → Nat) (t_values : Nat → Int32) (t_dishes : Int32) (t_way : Int32) (a1 : Int32) (a2 : Int32) (a3 : Int32) (Q : Int32 → Prop) (hq : p_X3_mayBePrinted t_values a1 a2 a3 Q) : Met l yX3_mayBePrinted wsX3_mayBePrinted r_X3_mayBePrinted (wPR [.ref (t 0), .int a1, .int a2, .int a3] H0 D cy [(t 0, .inr (3, [.ref (t 1), .ref (t 2), .int t_dishes, .int t_way])), (t 1, .inl (cy 0, 140, .inl t_values))]) (wQZ Q H0) 0 0 wNo := by
  refine Met.ofW (cc := cX3_mayBePrinted) (maxL := 4) (ret := (some .boolean)) (by decide) rfl ?_
  intro p e s m args below meth c s₁ B hml hv
  obtain ⟨hargs, hH, hE, hP, hK⟩ := hv
  have hx := B.exec
  have hb := B.bytes
  have hr := B.returns
  have hts := atoms_spec (ws := wsX3_mayBePrinted) B.pre
  have hown : s.vm.findClass RX3 = some m.cls := findClass_of_methodNamed B.named
  have hlocks := B.notSynchronized
  clear B
  subst hH
  have hend : ∀ (r : Int32), (r = 0 ∨ r = 1) → Q r → ∀ T9 : State, T9.heap = s.heap → (wQZ Q s.heap) args s (.returned (some (.int r))) T9 := fun r hz hq T9 ht => ⟨⟨r, (), rfl, ⟨hz, hq⟩, ht⟩, by rw [ht]; exact Nat.le_refl _, fun _ _ _ => by rw [ht]⟩
  generalize (wQZ Q s.heap) = Qc at hend ⊢
  have hS : va_S wNo s.heap s.heap [] := va_S.rf
  show W p l e r_X3_mayBePrinted s m args below meth c s.heap [] 0 0 (MQ below Qc args s 0 0 wNo) (entryFrame m args 4)
  rw [show entryFrame m args 4 = entryFrame m ([.ref (t 0), .int a1, .int a2, .int a3] : List Value).toArray 4 from by rw [hargs]]
  have hl := lv_entry ([.ref (t 0), .int a1, .int a2, .int a3]) (n := 4) (Nat.le_of_ble_eq_true rfl)
  rw [lg_entry_eq]
  generalize (lg_sl ([.ref (t 0), .int a1, .int a2, .int a3]) ++ List.replicate (4 - (lg_sl ([.ref (t 0), .int a1, .int a2, .int a3])).length) Slot.unset).toArray = ls at hl ⊢
  have hl : lv_has ls 4 [(0, .ref (t 0)), (1, .int a1), (2, .int a2), (3, .int a3)] := hl
  have h := hq
  clear hargs hq
  unfold p_X3_mayBePrinted at h
  refine lv_aload_n hx hb dX3_mayBePrinted_0 rfl (lv_at hl 0 rfl) ?_
  refine lv_iload_n hx hb dX3_mayBePrinted_1 rfl (lv_at hl 1 rfl) ?_
  refine lv_iload_n hx hb dX3_mayBePrinted_2 rfl (lv_at hl 2 rfl) ?_
  have hPc := hP.sub (ws' := [(t 0, .inr (3, [.ref (t 1), .ref (t 2), .int t_dishes, .int t_way])), (t 1, .inl (cy 0, 140, .inl t_values))]) [0, 1] rfl
  refine w_callZ (va_runV (As := [.int a1, .int a2]) (rest := []) ⟨hx, hb, hml, hown, hts⟩ (c_X3_isInSeason l D cy s.heap t t_values t_dishes t_way a1 a2 _ h) (cwV 2 hts gX3_mayBePrinted_X3_isInSeason rfl rfl rfl (by decide +kernel) ⟨Nat.le_of_ble_eq_true rfl, Nat.le_of_ble_eq_true rfl⟩) (w_preVR hE hS hK hPc (ci := 3) rfl rfl) rfl rfl hl.1 rfl (lv_room (Nat.le_of_ble_eq_true rfl)) dX3_mayBePrinted_3 ⟨Nat.zero_le _, Nat.zero_le _⟩) hS (fun r1 locs z_r1 h hS => ?_)
  try dsimp only at h
  refine lv_if_eq (tgt := 22) hx hb dX3_mayBePrinted_6 rfl (fun hc => ?_) (fun hc => ?_)
  · replace h := h.1 hc
    refine lv_iconst (v := 0) hx hb dX3_mayBePrinted_22 (by decide) ?_
    exact W.zret hx hb hr rfl (fun t ht _ => hend 0 (by decide) h t ht) hS.2.2 dX3_mayBePrinted_23
  · replace h := h.2 hc
    refine lv_aload_n hx hb dX3_mayBePrinted_9 rfl (lv_at hl 0 rfl) ?_
    refine lv_iload_n hx hb dX3_mayBePrinted_10 rfl (lv_at hl 1 rfl) ?_
    refine lv_iload_n hx hb dX3_mayBePrinted_11 rfl (lv_at hl 3 rfl) ?_
    have hPc := hP.sub (ws' := [(t 0, .inr (3, [.ref (t 1), .ref (t 2), .int t_dishes, .int t_way])), (t 1, .inl (cy 0, 140, .inl t_values))]) [0, 1] rfl
    refine w_callZ (va_runV (As := [.int a1, .int a3]) (rest := []) ⟨hx, hb, hml, hown, hts⟩ (c_X3_suits l D cy s.heap t t_values t_dishes t_way a1 a3 _ h) (cwV 2 hts gX3_mayBePrinted_X3_suits rfl rfl rfl (by decide +kernel) ⟨Nat.le_of_ble_eq_true rfl, Nat.le_of_ble_eq_true rfl⟩) (w_preVN hK hPc (ci := 3) rfl rfl) rfl rfl hl.1 rfl (lv_room (Nat.le_of_ble_eq_true rfl)) dX3_mayBePrinted_12 ⟨Nat.zero_le _, Nat.zero_le _⟩) hS (fun r2 locs z_r2 h hS => ?_)
    try dsimp only at h
    refine lv_if_eq (tgt := 22) hx hb dX3_mayBePrinted_15 rfl (fun hc => ?_) (fun hc => ?_)
    · replace h := h.1 hc
      refine lv_iconst (v := 0) hx hb dX3_mayBePrinted_22 (by decide) ?_
      exact W.zret hx hb hr rfl (fun t ht _ => hend 0 (by decide) h t ht) hS.2.2 dX3_mayBePrinted_23
    · replace h := h.2 hc
      refine lv_iconst (v := 1) hx hb dX3_mayBePrinted_18 (by decide) ?_
      refine lv_goto (tgt := 23) hx hb dX3_mayBePrinted_19 rfl ?_
      exact W.zret hx hb hr rfl (fun t ht _ => hend 1 (by decide) h t ht) hS.2.2 dX3_mayBePrinted_23

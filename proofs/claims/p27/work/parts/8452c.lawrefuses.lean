abbrev r_L_refuses : Room := { frames := 7, cells := 0, slots := 0, locals := 167 }
set_option maxHeartbeats 40000000 in
set_option maxRecDepth 100000 in
theorem c_L_refuses (l : Launch) (D : va_G) (cy : Nat → ClassId) (sz : Nat) (x : Nat → Nat) (K : sK) (o : aO) (hG : Good o K) (Q : Int32 → aO → Prop) (hq : p_L_refuses o Q) : Met l yL_refuses wsL_refuses r_L_refuses (wPM [.ref (x 0)] sz D cy (wK cy x K)) (va_Qi (fun r u => (r = 0 ∨ r = 1) ∧ ∃ (K' : sK) (o' : aO), u = wK cy x K' ∧ Good o' K' ∧ Q r o') (fun u T9 => va_P D vwCl u T9.heap ∧ va_D (va_A (wK cy x K) sz) u) (va_A (wK cy x K) sz)) 0 0 (va_A (wK cy x K) sz) := by
  refine Met.ofW (cc := cL_refuses) (maxL := 4) (ret := (some .boolean)) (by decide) rfl ?_
  intro p e s m args below meth c s₁ B hml hv
  obtain ⟨hargs, hsz, hE, hP, hK, hD0⟩ := hv
  have hx := B.exec
  have hb := B.bytes
  have hr := B.returns
  have hts := atoms_spec (ws := wsL_refuses) B.pre
  have hown : s.vm.findClass RL = some m.cls := findClass_of_methodNamed B.named
  have hlocks := B.notSynchronized
  clear B
  subst hsz
  have hD := hD0.self (sz := s.heap.size)
  generalize hAe : va_A (wK cy x K) s.heap.size = A at hD ⊢ hE
  have hA : ∀ q : Nat, s.heap.size ≤ q → A q := fun q h => by rw [← hAe]; exact Or.inr h
  clear hAe hD0
  have hend : ∀ (r : Int32) (K' : sK) (o' : aO) (H : Heap) (locs : List Loc), (r = 0 ∨ r = 1) → Good o' K' → Q r o' → va_P D vwCl (wK cy x K') H → va_D A (wK cy x K') → va_S A s.heap H locs → ∀ T9 : State, T9.heap = H → (va_Qi (fun r u => (r = 0 ∨ r = 1) ∧ ∃ (K' : sK) (o' : aO), u = wK cy x K' ∧ Good o' K' ∧ Q r o') (fun u T9 => va_P D vwCl u T9.heap ∧ va_D A u) A) args s (.returned (some (.int r))) T9 := fun r K' o' H locs hz hG' hq hP hD hS T9 ht => ⟨⟨r, _, rfl, ⟨hz, K', o', rfl, hG', hq⟩, by rw [ht]; exact hP, hD⟩, hS.F ht⟩
  generalize (va_Qi (fun r u => (r = 0 ∨ r = 1) ∧ ∃ (K' : sK) (o' : aO), u = wK cy x K' ∧ Good o' K' ∧ Q r o') (fun u T9 => va_P D vwCl u T9.heap ∧ va_D A u) A) = Qc at hend ⊢
  have hS : va_S A s.heap s.heap [] := va_S.rf
  show W p l e r_L_refuses s m args below meth c s.heap [] 0 0 (MQ below Qc args s 0 0 A) (entryFrame m args 4)
  rw [show entryFrame m args 4 = entryFrame m ([.ref (x 0)] : List Value).toArray 4 from by rw [hargs]]
  have hl := lv_entry ([.ref (x 0)]) (n := 4) (Nat.le_of_ble_eq_true rfl)
  rw [lg_entry_eq]
  generalize (lg_sl ([.ref (x 0)]) ++ List.replicate (4 - (lg_sl ([.ref (x 0)])).length) Slot.unset).toArray = ls at hl ⊢
  have hl : lv_has ls 4 [(0, .ref (x 0))] := hl
  have h := hq
  clear hargs hq
  have j388 : ∀ (o : aO) (x1 : Int32) (x2 : Int32) (k0 : Int32), p_L_refuses_388 o x1 x2 k0 Q → ∀ (K : sK), Good o K → ∀ (H : Heap) (locs : List Loc), va_P D vwCl ([] ++ wK cy x K) H → va_D A ([] ++ wK cy x K) → va_S A s.heap H locs → ∀ (ls : Array Slot), lv_has ls 4 [(0, .ref (x 0)), (1, .int x1), (2, .int x2)] → W p l e r_L_refuses s m args below meth c H locs 0 0 (MQ below Qc args s 0 0 A) (F0 m 388 ls [.int k0]) := by
    intro o x1 x2 k0 h K hG H locs hP hD hS ls hl
    unfold p_L_refuses_388 at h
    refine lv_istore_n (lv' := [(3, .int k0), (0, .ref (x 0)), (1, .int x1), (2, .int x2)]) hx hb dL_refuses_388 rfl hl (by decide) rfl (fun ls hl => ?_)
    refine lv_iload_n hx hb dL_refuses_389 rfl (lv_at hl 0 rfl) ?_
    refine lv_if_eq (tgt := 416) hx hb dL_refuses_390 rfl (fun hc => ?_) (fun hc => ?_)
    · replace h := h.1 hc
      refine lv_iconst (v := 0) hx hb dL_refuses_416 (by decide) ?_
      exact W.zret hx hb hr rfl (fun t ht _ => hend 0 _ o _ _ (Or.inl rfl) hG h (w_tailP hP) (w_tailD hD) hS t ht) hS.2.2 dL_refuses_417
    · replace h := h.2 hc
      refine lv_aload_n hx hb dL_refuses_393 rfl (lv_at hl 1 rfl) ?_
      refine lv_iconst (v := 0) hx hb dL_refuses_394 (by decide) ?_
      refine w_callK0 (pl := []) hP hD hS hA (va_runV (As := [.int 0]) (rest := []) ⟨hx, hb, hml, hown, hts⟩ (m_count l D cy H.size x K o hG 0) (cwV 1 hts gL_refuses_X8_count rfl rfl rfl (by decide +kernel) ⟨Nat.le_of_ble_eq_true rfl, Nat.le_of_ble_eq_true rfl⟩) (w_preVK (pl := []) (ci := 8) hE hS hA hK hP hD rfl rfl) rfl rfl hl.1 rfl (lv_room (Nat.le_of_ble_eq_true rfl)) dL_refuses_395 ⟨Nat.le_of_ble_eq_true rfl, Nat.le_of_ble_eq_true rfl⟩) (fun r1 u H locs hw hP hD hS => ?_)
      obtain ⟨Kc2, rfl, hG, hr_⟩ := hw
      replace h := h r1 hr_
      clear hr_
      have hP : va_P D vwCl ([] ++ wK cy x Kc2) H := hP
      have hD : va_D A ([] ++ wK cy x Kc2) := hD
      refine lv_iload_n hx hb dL_refuses_398 rfl (lv_at hl 2 rfl) ?_
      refine lv_icmp_ne (tgt := 416) hx hb dL_refuses_399 rfl (fun hc => ?_) (fun hc => ?_)
      · replace h := h.1 hc
        refine lv_iconst (v := 0) hx hb dL_refuses_416 (by decide) ?_
        exact W.zret hx hb hr rfl (fun t ht _ => hend 0 _ o _ _ (Or.inl rfl) hG h (w_tailP hP) (w_tailD hD) hS t ht) hS.2.2 dL_refuses_417
      · replace h := h.2 hc
        refine lv_aload_n hx hb dL_refuses_402 rfl (lv_at hl 1 rfl) ?_
        refine lv_bipush (v := 14) hx hb dL_refuses_403 (by decide) ?_
        refine w_callK0 (pl := []) hP hD hS hA (va_runV (As := [.int 14]) (rest := []) ⟨hx, hb, hml, hown, hts⟩ (m_count l D cy H.size x Kc2 o hG 14) (cwV 1 hts gL_refuses_X8_count rfl rfl rfl (by decide +kernel) ⟨Nat.le_of_ble_eq_true rfl, Nat.le_of_ble_eq_true rfl⟩) (w_preVK (pl := []) (ci := 8) hE hS hA hK hP hD rfl rfl) rfl rfl hl.1 rfl (lv_room (Nat.le_of_ble_eq_true rfl)) dL_refuses_405 ⟨Nat.le_of_ble_eq_true rfl, Nat.le_of_ble_eq_true rfl⟩) (fun r4 u H locs hw hP hD hS => ?_)
        obtain ⟨Kc5, rfl, hG, hr_⟩ := hw
        replace h := h r4 hr_
        clear hr_
        have hP : va_P D vwCl ([] ++ wK cy x Kc5) H := hP
        have hD : va_D A ([] ++ wK cy x Kc5) := hD
        refine lv_iload_n hx hb dL_refuses_408 rfl (lv_at hl 3 rfl) ?_
        refine lv_icmp_ne (tgt := 416) hx hb dL_refuses_409 rfl (fun hc => ?_) (fun hc => ?_)
        · replace h := h.1 hc
          refine lv_iconst (v := 0) hx hb dL_refuses_416 (by decide) ?_
          exact W.zret hx hb hr rfl (fun t ht _ => hend 0 _ o _ _ (Or.inl rfl) hG h (w_tailP hP) (w_tailD hD) hS t ht) hS.2.2 dL_refuses_417
        · replace h := h.2 hc
          refine lv_iconst (v := 1) hx hb dL_refuses_412 (by decide) ?_
          refine lv_goto (tgt := 417) hx hb dL_refuses_413 rfl ?_
          exact W.zret hx hb hr rfl (fun t ht _ => hend 1 _ o _ _ (Or.inr rfl) hG h (w_tailP hP) (w_tailD hD) hS t ht) hS.2.2 dL_refuses_417
  have j387 : ∀ (o : aO) (x1 : Int32) (x2 : Int32), p_L_refuses_387 o x1 x2 Q → ∀ (K : sK), Good o K → ∀ (H : Heap) (locs : List Loc), va_P D vwCl ([] ++ wK cy x K) H → va_D A ([] ++ wK cy x K) → va_S A s.heap H locs → ∀ (ls : Array Slot), lv_has ls 4 [(0, .ref (x 0)), (1, .int x1), (2, .int x2)] → W p l e r_L_refuses s m args below meth c H locs 0 0 (MQ below Qc args s 0 0 A) (F0 m 387 ls []) := by
    intro o x1 x2 h K hG H locs hP hD hS ls hl
    unfold p_L_refuses_387 at h
    refine lv_iconst (v := 0) hx hb dL_refuses_387 (by decide) ?_
    exact j388 o x1 x2 0 h _ hG _ _ hP hD hS _ (lv_sub hl [0, 1, 2] rfl)
  unfold p_L_refuses at h
  suffices key : ∀ (H : Heap) (locs : List Loc), va_P D vwCl ([] ++ wK cy x K) H → va_D A ([] ++ wK cy x K) → va_S A s.heap H locs → W p l e r_L_refuses s m args below meth c H locs 0 0 (MQ below Qc args s 0 0 A) (F0 m 0 ls []) from key s.heap [] hP hD hS
  clear hP hD hS
  intro H locs hP hD hS
  refine lv_aload_n hx hb dL_refuses_0 rfl (lv_at hl 0 rfl) ?_
  refine lv_iconst (v := 0) hx hb dL_refuses_1 (by decide) ?_
  refine w_callK0 (pl := []) hP hD hS hA (va_runV (As := [.int 0]) (rest := []) ⟨hx, hb, hml, hown, hts⟩ (m_count l D cy H.size x K o hG 0) (cwV 1 hts gL_refuses_X8_count rfl rfl rfl (by decide +kernel) ⟨Nat.le_of_ble_eq_true rfl, Nat.le_of_ble_eq_true rfl⟩) (w_preVK (pl := []) (ci := 8) hE hS hA hK hP hD rfl rfl) rfl rfl hl.1 rfl (lv_room (Nat.le_of_ble_eq_true rfl)) dL_refuses_2 ⟨Nat.le_of_ble_eq_true rfl, Nat.le_of_ble_eq_true rfl⟩) (fun r7 u H locs hw hP hD hS => ?_)
  obtain ⟨Kc8, rfl, hG, hr_⟩ := hw
  replace h := h r7 hr_
  clear hr_
  have hP : va_P D vwCl ([] ++ wK cy x Kc8) H := hP
  have hD : va_D A ([] ++ wK cy x Kc8) := hD
  refine lv_istore_n (lv' := [(1, .int r7), (0, .ref (x 0))]) hx hb dL_refuses_5 rfl hl (by decide) rfl (fun ls hl => ?_)
  refine lv_aload_n hx hb dL_refuses_6 rfl (lv_at hl 1 rfl) ?_
  refine lv_bipush (v := 14) hx hb dL_refuses_7 (by decide) ?_
  refine w_callK0 (pl := []) hP hD hS hA (va_runV (As := [.int 14]) (rest := []) ⟨hx, hb, hml, hown, hts⟩ (m_count l D cy H.size x Kc8 o hG 14) (cwV 1 hts gL_refuses_X8_count rfl rfl rfl (by decide +kernel) ⟨Nat.le_of_ble_eq_true rfl, Nat.le_of_ble_eq_true rfl⟩) (w_preVK (pl := []) (ci := 8) hE hS hA hK hP hD rfl rfl) rfl rfl hl.1 rfl (lv_room (Nat.le_of_ble_eq_true rfl)) dL_refuses_9 ⟨Nat.le_of_ble_eq_true rfl, Nat.le_of_ble_eq_true rfl⟩) (fun r10 u H locs hw hP hD hS => ?_)
  obtain ⟨Kc11, rfl, hG, hr_⟩ := hw
  replace h := h r10 hr_
  clear hr_
  have hP : va_P D vwCl ([] ++ wK cy x Kc11) H := hP
  have hD : va_D A ([] ++ wK cy x Kc11) := hD
  refine lv_istore_n (lv' := [(2, .int r10), (1, .int r7), (0, .ref (x 0))]) hx hb dL_refuses_12 rfl hl (by decide) rfl (fun ls hl => ?_)
  refine lv_aload_n hx hb dL_refuses_13 rfl (lv_at hl 2 rfl) ?_
  refine lv_iconst (v := 4) hx hb dL_refuses_14 (by decide) ?_
  refine lv_iconst (v := 1) hx hb dL_refuses_15 (by decide) ?_
  refine lv_iconst (v := 1) hx hb dL_refuses_16 (by decide) ?_
  refine lv_iconst (v := 1) hx hb dL_refuses_17 (by decide) ?_
  refine lv_iconst (v := 0) hx hb dL_refuses_18 (by decide) ?_
  refine lv_iconst (v := 1) hx hb dL_refuses_19 (by decide) ?_
  refine w_callK0 (pl := []) hP hD hS hA (va_runV (As := [.int 4, .int 1, .int 1, .int 1, .int 0, .int 1]) (rest := []) ⟨hx, hb, hml, hown, hts⟩ (m_addDish l D cy H.size x Kc11 o hG 4 1 1 1 0 1) (cwV 6 hts gL_refuses_X8_addDish rfl rfl rfl (by decide +kernel) ⟨Nat.le_of_ble_eq_true rfl, Nat.le_of_ble_eq_true rfl⟩) (w_preVK (pl := []) (ci := 8) hE hS hA hK hP hD rfl rfl) rfl rfl hl.1 rfl (lv_room (Nat.le_of_ble_eq_true rfl)) dL_refuses_20 ⟨Nat.le_of_ble_eq_true rfl, Nat.le_of_ble_eq_true rfl⟩) (fun r13 u H locs hw hP hD hS => ?_)
  obtain ⟨Kc14, o_15, rfl, hG, hr_⟩ := hw
  replace h := h r13 o_15 hr_
  clear hr_
  have hP : va_P D vwCl ([] ++ wK cy x Kc14) H := hP
  have hD : va_D A ([] ++ wK cy x Kc14) := hD
  refine lv_iconst (v := (-1)) hx hb dL_refuses_23 (by decide) ?_
  refine lv_icmp_ne (tgt := 387) hx hb dL_refuses_24 rfl (fun hc => ?_) (fun hc => ?_)
  · replace h := h.1 hc
    exact j387 o_15 r7 r10 h _ hG _ _ hP hD hS _ (lv_sub hl [2, 1, 0] rfl)
  · replace h := h.2 hc
    refine lv_aload_n hx hb dL_refuses_27 rfl (lv_at hl 2 rfl) ?_
    refine lv_iconst (v := 0) hx hb dL_refuses_28 (by decide) ?_
    refine lv_bipush (v := 100) hx hb dL_refuses_29 (by decide) ?_
    refine lv_iconst (v := 1) hx hb dL_refuses_31 (by decide) ?_
    refine lv_iconst (v := 1) hx hb dL_refuses_32 (by decide) ?_
    refine lv_iconst (v := 0) hx hb dL_refuses_33 (by decide) ?_
    refine lv_iconst (v := 1) hx hb dL_refuses_34 (by decide) ?_
    refine w_callK0 (pl := []) hP hD hS hA (va_runV (As := [.int 0, .int 100, .int 1, .int 1, .int 0, .int 1]) (rest := []) ⟨hx, hb, hml, hown, hts⟩ (m_addDish l D cy H.size x Kc14 o_15 hG 0 100 1 1 0 1) (cwV 6 hts gL_refuses_X8_addDish rfl rfl rfl (by decide +kernel) ⟨Nat.le_of_ble_eq_true rfl, Nat.le_of_ble_eq_true rfl⟩) (w_preVK (pl := []) (ci := 8) hE hS hA hK hP hD rfl rfl) rfl rfl hl.1 rfl (lv_room (Nat.le_of_ble_eq_true rfl)) dL_refuses_35 ⟨Nat.le_of_ble_eq_true rfl, Nat.le_of_ble_eq_true rfl⟩) (fun r16 u H locs hw hP hD hS => ?_)
    obtain ⟨Kc17, o_18, rfl, hG, hr_⟩ := hw
    replace h := h r16 o_18 hr_
    clear hr_
    have hP : va_P D vwCl ([] ++ wK cy x Kc17) H := hP
    have hD : va_D A ([] ++ wK cy x Kc17) := hD
    refine lv_iconst (v := (-1)) hx hb dL_refuses_38 (by decide) ?_
    refine lv_icmp_ne (tgt := 387) hx hb dL_refuses_39 rfl (fun hc => ?_) (fun hc => ?_)
    · replace h := h.1 hc
      exact j387 o_18 r7 r10 h _ hG _ _ hP hD hS _ (lv_sub hl [2, 1, 0] rfl)
    · replace h := h.2 hc
      refine lv_aload_n hx hb dL_refuses_42 rfl (lv_at hl 2 rfl) ?_
      refine lv_iconst (v := 0) hx hb dL_refuses_43 (by decide) ?_
      refine lv_iconst (v := 1) hx hb dL_refuses_44 (by decide) ?_
      refine lv_iconst (v := 0) hx hb dL_refuses_45 (by decide) ?_
      refine lv_iconst (v := 1) hx hb dL_refuses_46 (by decide) ?_
      refine lv_iconst (v := 0) hx hb dL_refuses_47 (by decide) ?_
      refine lv_iconst (v := 1) hx hb dL_refuses_48 (by decide) ?_
      refine w_callK0 (pl := []) hP hD hS hA (va_runV (As := [.int 0, .int 1, .int 0, .int 1, .int 0, .int 1]) (rest := []) ⟨hx, hb, hml, hown, hts⟩ (m_addDish l D cy H.size x Kc17 o_18 hG 0 1 0 1 0 1) (cwV 6 hts gL_refuses_X8_addDish rfl rfl rfl (by decide +kernel) ⟨Nat.le_of_ble_eq_true rfl, Nat.le_of_ble_eq_true rfl⟩) (w_preVK (pl := []) (ci := 8) hE hS hA hK hP hD rfl rfl) rfl rfl hl.1 rfl (lv_room (Nat.le_of_ble_eq_true rfl)) dL_refuses_49 ⟨Nat.le_of_ble_eq_true rfl, Nat.le_of_ble_eq_true rfl⟩) (fun r19 u H locs hw hP hD hS => ?_)
      obtain ⟨Kc20, o_21, rfl, hG, hr_⟩ := hw
      replace h := h r19 o_21 hr_
      clear hr_
      have hP : va_P D vwCl ([] ++ wK cy x Kc20) H := hP
      have hD : va_D A ([] ++ wK cy x Kc20) := hD
      refine lv_iconst (v := (-1)) hx hb dL_refuses_52 (by decide) ?_
      refine lv_icmp_ne (tgt := 387) hx hb dL_refuses_53 rfl (fun hc => ?_) (fun hc => ?_)
      · replace h := h.1 hc
        exact j387 o_21 r7 r10 h _ hG _ _ hP hD hS _ (lv_sub hl [2, 1, 0] rfl)
      · replace h := h.2 hc
        refine lv_aload_n hx hb dL_refuses_56 rfl (lv_at hl 2 rfl) ?_
        refine lv_iconst (v := 0) hx hb dL_refuses_57 (by decide) ?_
        refine lv_iconst (v := 1) hx hb dL_refuses_58 (by decide) ?_
        refine lv_iconst (v := 1) hx hb dL_refuses_59 (by decide) ?_
        refine lv_bipush (v := 16) hx hb dL_refuses_60 (by decide) ?_
        refine lv_iconst (v := 0) hx hb dL_refuses_62 (by decide) ?_
        refine lv_iconst (v := 1) hx hb dL_refuses_63 (by decide) ?_
        refine w_callK0 (pl := []) hP hD hS hA (va_runV (As := [.int 0, .int 1, .int 1, .int 16, .int 0, .int 1]) (rest := []) ⟨hx, hb, hml, hown, hts⟩ (m_addDish l D cy H.size x Kc20 o_21 hG 0 1 1 16 0 1) (cwV 6 hts gL_refuses_X8_addDish rfl rfl rfl (by decide +kernel) ⟨Nat.le_of_ble_eq_true rfl, Nat.le_of_ble_eq_true rfl⟩) (w_preVK (pl := []) (ci := 8) hE hS hA hK hP hD rfl rfl) rfl rfl hl.1 rfl (lv_room (Nat.le_of_ble_eq_true rfl)) dL_refuses_64 ⟨Nat.le_of_ble_eq_true rfl, Nat.le_of_ble_eq_true rfl⟩) (fun r22 u H locs hw hP hD hS => ?_)
        obtain ⟨Kc23, o_24, rfl, hG, hr_⟩ := hw
        replace h := h r22 o_24 hr_
        clear hr_
        have hP : va_P D vwCl ([] ++ wK cy x Kc23) H := hP
        have hD : va_D A ([] ++ wK cy x Kc23) := hD
        refine lv_iconst (v := (-1)) hx hb dL_refuses_67 (by decide) ?_
        refine lv_icmp_ne (tgt := 387) hx hb dL_refuses_68 rfl (fun hc => ?_) (fun hc => ?_)
        · replace h := h.1 hc
          exact j387 o_24 r7 r10 h _ hG _ _ hP hD hS _ (lv_sub hl [2, 1, 0] rfl)
        · replace h := h.2 hc
          refine lv_aload_n hx hb dL_refuses_71 rfl (lv_at hl 2 rfl) ?_
          refine lv_iconst (v := 0) hx hb dL_refuses_72 (by decide) ?_
          refine lv_iconst (v := 1) hx hb dL_refuses_73 (by decide) ?_
          refine lv_iconst (v := 1) hx hb dL_refuses_74 (by decide) ?_
          refine lv_iconst (v := 1) hx hb dL_refuses_75 (by decide) ?_
          refine lv_iconst (v := (-1)) hx hb dL_refuses_76 (by decide) ?_
          refine lv_iconst (v := 1) hx hb dL_refuses_77 (by decide) ?_
          refine w_callK0 (pl := []) hP hD hS hA (va_runV (As := [.int 0, .int 1, .int 1, .int 1, .int (-1), .int 1]) (rest := []) ⟨hx, hb, hml, hown, hts⟩ (m_addDish l D cy H.size x Kc23 o_24 hG 0 1 1 1 ((-1)) 1) (cwV 6 hts gL_refuses_X8_addDish rfl rfl rfl (by decide +kernel) ⟨Nat.le_of_ble_eq_true rfl, Nat.le_of_ble_eq_true rfl⟩) (w_preVK (pl := []) (ci := 8) hE hS hA hK hP hD rfl rfl) rfl rfl hl.1 rfl (lv_room (Nat.le_of_ble_eq_true rfl)) dL_refuses_78 ⟨Nat.le_of_ble_eq_true rfl, Nat.le_of_ble_eq_true rfl⟩) (fun r25 u H locs hw hP hD hS => ?_)
          obtain ⟨Kc26, o_27, rfl, hG, hr_⟩ := hw
          replace h := h r25 o_27 hr_
          clear hr_
          have hP : va_P D vwCl ([] ++ wK cy x Kc26) H := hP
          have hD : va_D A ([] ++ wK cy x Kc26) := hD
          refine lv_iconst (v := (-1)) hx hb dL_refuses_81 (by decide) ?_
          refine lv_icmp_ne (tgt := 387) hx hb dL_refuses_82 rfl (fun hc => ?_) (fun hc => ?_)
          · replace h := h.1 hc
            exact j387 o_27 r7 r10 h _ hG _ _ hP hD hS _ (lv_sub hl [2, 1, 0] rfl)
          · replace h := h.2 hc
            refine lv_aload_n hx hb dL_refuses_85 rfl (lv_at hl 2 rfl) ?_
            refine lv_iconst (v := 0) hx hb dL_refuses_86 (by decide) ?_
            refine lv_iconst (v := 1) hx hb dL_refuses_87 (by decide) ?_
            refine lv_iconst (v := 1) hx hb dL_refuses_88 (by decide) ?_
            refine lv_iconst (v := 1) hx hb dL_refuses_89 (by decide) ?_
            refine lv_iconst (v := 0) hx hb dL_refuses_90 (by decide) ?_
            refine lv_iconst (v := 0) hx hb dL_refuses_91 (by decide) ?_
            refine w_callK0 (pl := []) hP hD hS hA (va_runV (As := [.int 0, .int 1, .int 1, .int 1, .int 0, .int 0]) (rest := []) ⟨hx, hb, hml, hown, hts⟩ (m_addDish l D cy H.size x Kc26 o_27 hG 0 1 1 1 0 0) (cwV 6 hts gL_refuses_X8_addDish rfl rfl rfl (by decide +kernel) ⟨Nat.le_of_ble_eq_true rfl, Nat.le_of_ble_eq_true rfl⟩) (w_preVK (pl := []) (ci := 8) hE hS hA hK hP hD rfl rfl) rfl rfl hl.1 rfl (lv_room (Nat.le_of_ble_eq_true rfl)) dL_refuses_92 ⟨Nat.le_of_ble_eq_true rfl, Nat.le_of_ble_eq_true rfl⟩) (fun r28 u H locs hw hP hD hS => ?_)
            obtain ⟨Kc29, o_30, rfl, hG, hr_⟩ := hw
            replace h := h r28 o_30 hr_
            clear hr_
            have hP : va_P D vwCl ([] ++ wK cy x Kc29) H := hP
            have hD : va_D A ([] ++ wK cy x Kc29) := hD
            refine lv_iconst (v := (-1)) hx hb dL_refuses_95 (by decide) ?_
            refine lv_icmp_ne (tgt := 387) hx hb dL_refuses_96 rfl (fun hc => ?_) (fun hc => ?_)
            · replace h := h.1 hc
              exact j387 o_30 r7 r10 h _ hG _ _ hP hD hS _ (lv_sub hl [2, 1, 0] rfl)
            · replace h := h.2 hc
              refine lv_aload_n hx hb dL_refuses_99 rfl (lv_at hl 2 rfl) ?_
              refine lv_iload_n hx hb dL_refuses_100 rfl (lv_at hl 1 rfl) ?_
              refine w_callK0 (pl := []) hP hD hS hA (va_runV (As := [.int r7]) (rest := []) ⟨hx, hb, hml, hown, hts⟩ (m_removeDish l D cy H.size x Kc29 o_30 hG r7) (cwV 1 hts gL_refuses_X8_removeDish rfl rfl rfl (by decide +kernel) ⟨Nat.le_of_ble_eq_true rfl, Nat.le_of_ble_eq_true rfl⟩) (w_preVK (pl := []) (ci := 8) hE hS hA hK hP hD rfl rfl) rfl rfl hl.1 rfl (lv_room (Nat.le_of_ble_eq_true rfl)) dL_refuses_101 ⟨Nat.le_of_ble_eq_true rfl, Nat.le_of_ble_eq_true rfl⟩) (fun r31 u H locs hw hP hD hS => ?_)
              obtain ⟨Kc32, o_33, rfl, hG, hr_⟩ := hw
              replace h := h r31 o_33 hr_
              clear hr_
              have hP : va_P D vwCl ([] ++ wK cy x Kc32) H := hP
              have hD : va_D A ([] ++ wK cy x Kc32) := hD
              refine lv_iconst (v := (-1)) hx hb dL_refuses_104 (by decide) ?_
              refine lv_icmp_ne (tgt := 387) hx hb dL_refuses_105 rfl (fun hc => ?_) (fun hc => ?_)
              · replace h := h.1 hc
                exact j387 o_33 r7 r10 h _ hG _ _ hP hD hS _ (lv_sub hl [2, 1, 0] rfl)
              · replace h := h.2 hc
                refine lv_aload_n hx hb dL_refuses_108 rfl (lv_at hl 2 rfl) ?_
                refine lv_iconst (v := (-1)) hx hb dL_refuses_109 (by decide) ?_
                refine w_callK0 (pl := []) hP hD hS hA (va_runV (As := [.int (-1)]) (rest := []) ⟨hx, hb, hml, hown, hts⟩ (m_removeDish l D cy H.size x Kc32 o_33 hG ((-1))) (cwV 1 hts gL_refuses_X8_removeDish rfl rfl rfl (by decide +kernel) ⟨Nat.le_of_ble_eq_true rfl, Nat.le_of_ble_eq_true rfl⟩) (w_preVK (pl := []) (ci := 8) hE hS hA hK hP hD rfl rfl) rfl rfl hl.1 rfl (lv_room (Nat.le_of_ble_eq_true rfl)) dL_refuses_110 ⟨Nat.le_of_ble_eq_true rfl, Nat.le_of_ble_eq_true rfl⟩) (fun r34 u H locs hw hP hD hS => ?_)
                obtain ⟨Kc35, o_36, rfl, hG, hr_⟩ := hw
                replace h := h r34 o_36 hr_
                clear hr_
                have hP : va_P D vwCl ([] ++ wK cy x Kc35) H := hP
                have hD : va_D A ([] ++ wK cy x Kc35) := hD
                refine lv_iconst (v := (-1)) hx hb dL_refuses_113 (by decide) ?_
                refine lv_icmp_ne (tgt := 387) hx hb dL_refuses_114 rfl (fun hc => ?_) (fun hc => ?_)
                · replace h := h.1 hc
                  exact j387 o_36 r7 r10 h _ hG _ _ hP hD hS _ (lv_sub hl [2, 1, 0] rfl)
                · replace h := h.2 hc
                  refine lv_aload_n hx hb dL_refuses_117 rfl (lv_at hl 2 rfl) ?_
                  refine lv_iload_n hx hb dL_refuses_118 rfl (lv_at hl 1 rfl) ?_
                  refine lv_iconst (v := 0) hx hb dL_refuses_119 (by decide) ?_
                  refine lv_iconst (v := 0) hx hb dL_refuses_120 (by decide) ?_
                  refine w_callK0 (pl := []) hP hD hS hA (va_runV (As := [.int r7, .int 0, .int 0]) (rest := []) ⟨hx, hb, hml, hown, hts⟩ (m_setDish l D cy H.size x Kc35 o_36 hG r7 0 0) (cwV 3 hts gL_refuses_X8_setDish rfl rfl rfl (by decide +kernel) ⟨Nat.le_of_ble_eq_true rfl, Nat.le_of_ble_eq_true rfl⟩) (w_preVK (pl := []) (ci := 8) hE hS hA hK hP hD rfl rfl) rfl rfl hl.1 rfl (lv_room (Nat.le_of_ble_eq_true rfl)) dL_refuses_121 ⟨Nat.le_of_ble_eq_true rfl, Nat.le_of_ble_eq_true rfl⟩) (fun r37 u H locs hw hP hD hS => ?_)
                  obtain ⟨Kc38, o_39, rfl, hG, hr_⟩ := hw
                  replace h := h r37 o_39 hr_
                  clear hr_
                  have hP : va_P D vwCl ([] ++ wK cy x Kc38) H := hP
                  have hD : va_D A ([] ++ wK cy x Kc38) := hD
                  refine lv_iconst (v := (-1)) hx hb dL_refuses_124 (by decide) ?_
                  refine lv_icmp_ne (tgt := 387) hx hb dL_refuses_125 rfl (fun hc => ?_) (fun hc => ?_)
                  · replace h := h.1 hc
                    exact j387 o_39 r7 r10 h _ hG _ _ hP hD hS _ (lv_sub hl [2, 1, 0] rfl)
                  · replace h := h.2 hc
                    refine lv_aload_n hx hb dL_refuses_128 rfl (lv_at hl 2 rfl) ?_
                    refine lv_iconst (v := 0) hx hb dL_refuses_129 (by decide) ?_
                    refine lv_bipush (v := 7) hx hb dL_refuses_130 (by decide) ?_
                    refine lv_iconst (v := 0) hx hb dL_refuses_132 (by decide) ?_
                    refine w_callK0 (pl := []) hP hD hS hA (va_runV (As := [.int 0, .int 7, .int 0]) (rest := []) ⟨hx, hb, hml, hown, hts⟩ (m_setDish l D cy H.size x Kc38 o_39 hG 0 7 0) (cwV 3 hts gL_refuses_X8_setDish rfl rfl rfl (by decide +kernel) ⟨Nat.le_of_ble_eq_true rfl, Nat.le_of_ble_eq_true rfl⟩) (w_preVK (pl := []) (ci := 8) hE hS hA hK hP hD rfl rfl) rfl rfl hl.1 rfl (lv_room (Nat.le_of_ble_eq_true rfl)) dL_refuses_133 ⟨Nat.le_of_ble_eq_true rfl, Nat.le_of_ble_eq_true rfl⟩) (fun r40 u H locs hw hP hD hS => ?_)
                    obtain ⟨Kc41, o_42, rfl, hG, hr_⟩ := hw
                    replace h := h r40 o_42 hr_
                    clear hr_
                    have hP : va_P D vwCl ([] ++ wK cy x Kc41) H := hP
                    have hD : va_D A ([] ++ wK cy x Kc41) := hD
                    refine lv_iconst (v := (-1)) hx hb dL_refuses_136 (by decide) ?_
                    refine lv_icmp_ne (tgt := 387) hx hb dL_refuses_137 rfl (fun hc => ?_) (fun hc => ?_)
                    · replace h := h.1 hc
                      exact j387 o_42 r7 r10 h _ hG _ _ hP hD hS _ (lv_sub hl [2, 1, 0] rfl)
                    · replace h := h.2 hc
                      refine lv_aload_n hx hb dL_refuses_140 rfl (lv_at hl 2 rfl) ?_
                      refine lv_bipush (v := 6) hx hb dL_refuses_141 (by decide) ?_
                      refine lv_iconst (v := 0) hx hb dL_refuses_143 (by decide) ?_
                      refine w_callK0 (pl := []) hP hD hS hA (va_runV (As := [.int 6, .int 0]) (rest := []) ⟨hx, hb, hml, hown, hts⟩ (m_setCard l D cy H.size x Kc41 o_42 hG 6 0) (cwV 2 hts gL_refuses_X8_setCard rfl rfl rfl (by decide +kernel) ⟨Nat.le_of_ble_eq_true rfl, Nat.le_of_ble_eq_true rfl⟩) (w_preVK (pl := []) (ci := 8) hE hS hA hK hP hD rfl rfl) rfl rfl hl.1 rfl (lv_room (Nat.le_of_ble_eq_true rfl)) dL_refuses_144 ⟨Nat.le_of_ble_eq_true rfl, Nat.le_of_ble_eq_true rfl⟩) (fun r43 u H locs hw hP hD hS => ?_)
                      obtain ⟨Kc44, o_45, rfl, hG, hr_⟩ := hw
                      replace h := h r43 o_45 hr_
                      clear hr_
                      have hP : va_P D vwCl ([] ++ wK cy x Kc44) H := hP
                      have hD : va_D A ([] ++ wK cy x Kc44) := hD
                      refine lv_iconst (v := (-1)) hx hb dL_refuses_147 (by decide) ?_
                      refine lv_icmp_ne (tgt := 387) hx hb dL_refuses_148 rfl (fun hc => ?_) (fun hc => ?_)
                      · replace h := h.1 hc
                        exact j387 o_45 r7 r10 h _ hG _ _ hP hD hS _ (lv_sub hl [2, 1, 0] rfl)
                      · replace h := h.2 hc
                        refine lv_aload_n hx hb dL_refuses_151 rfl (lv_at hl 2 rfl) ?_
                        refine lv_iconst (v := 0) hx hb dL_refuses_152 (by decide) ?_
                        refine lv_iconst (v := 4) hx hb dL_refuses_153 (by decide) ?_
                        refine w_callK0 (pl := []) hP hD hS hA (va_runV (As := [.int 0, .int 4]) (rest := []) ⟨hx, hb, hml, hown, hts⟩ (m_setCard l D cy H.size x Kc44 o_45 hG 0 4) (cwV 2 hts gL_refuses_X8_setCard rfl rfl rfl (by decide +kernel) ⟨Nat.le_of_ble_eq_true rfl, Nat.le_of_ble_eq_true rfl⟩) (w_preVK (pl := []) (ci := 8) hE hS hA hK hP hD rfl rfl) rfl rfl hl.1 rfl (lv_room (Nat.le_of_ble_eq_true rfl)) dL_refuses_154 ⟨Nat.le_of_ble_eq_true rfl, Nat.le_of_ble_eq_true rfl⟩) (fun r46 u H locs hw hP hD hS => ?_)
                        obtain ⟨Kc47, o_48, rfl, hG, hr_⟩ := hw
                        replace h := h r46 o_48 hr_
                        clear hr_
                        have hP : va_P D vwCl ([] ++ wK cy x Kc47) H := hP
                        have hD : va_D A ([] ++ wK cy x Kc47) := hD
                        refine lv_iconst (v := (-1)) hx hb dL_refuses_157 (by decide) ?_
                        refine lv_icmp_ne (tgt := 387) hx hb dL_refuses_158 rfl (fun hc => ?_) (fun hc => ?_)
                        · replace h := h.1 hc
                          exact j387 o_48 r7 r10 h _ hG _ _ hP hD hS _ (lv_sub hl [2, 1, 0] rfl)
                        · replace h := h.2 hc
                          refine lv_aload_n hx hb dL_refuses_161 rfl (lv_at hl 2 rfl) ?_
                          refine lv_iconst (v := 1) hx hb dL_refuses_162 (by decide) ?_
                          refine lv_bipush (v := 19) hx hb dL_refuses_163 (by decide) ?_
                          refine w_callK0 (pl := []) hP hD hS hA (va_runV (As := [.int 1, .int 19]) (rest := []) ⟨hx, hb, hml, hown, hts⟩ (m_setCard l D cy H.size x Kc47 o_48 hG 1 19) (cwV 2 hts gL_refuses_X8_setCard rfl rfl rfl (by decide +kernel) ⟨Nat.le_of_ble_eq_true rfl, Nat.le_of_ble_eq_true rfl⟩) (w_preVK (pl := []) (ci := 8) hE hS hA hK hP hD rfl rfl) rfl rfl hl.1 rfl (lv_room (Nat.le_of_ble_eq_true rfl)) dL_refuses_165 ⟨Nat.le_of_ble_eq_true rfl, Nat.le_of_ble_eq_true rfl⟩) (fun r49 u H locs hw hP hD hS => ?_)
                          obtain ⟨Kc50, o_51, rfl, hG, hr_⟩ := hw
                          replace h := h r49 o_51 hr_
                          clear hr_
                          have hP : va_P D vwCl ([] ++ wK cy x Kc50) H := hP
                          have hD : va_D A ([] ++ wK cy x Kc50) := hD
                          refine lv_iconst (v := (-1)) hx hb dL_refuses_168 (by decide) ?_
                          refine lv_icmp_ne (tgt := 387) hx hb dL_refuses_169 rfl (fun hc => ?_) (fun hc => ?_)
                          · replace h := h.1 hc
                            exact j387 o_51 r7 r10 h _ hG _ _ hP hD hS _ (lv_sub hl [2, 1, 0] rfl)
                          · replace h := h.2 hc
                            refine lv_aload_n hx hb dL_refuses_172 rfl (lv_at hl 2 rfl) ?_
                            refine lv_iconst (v := 4) hx hb dL_refuses_173 (by decide) ?_
                            refine lv_iconst (v := (-1)) hx hb dL_refuses_174 (by decide) ?_
                            refine w_callK0 (pl := []) hP hD hS hA (va_runV (As := [.int 4, .int (-1)]) (rest := []) ⟨hx, hb, hml, hown, hts⟩ (m_setCard l D cy H.size x Kc50 o_51 hG 4 ((-1))) (cwV 2 hts gL_refuses_X8_setCard rfl rfl rfl (by decide +kernel) ⟨Nat.le_of_ble_eq_true rfl, Nat.le_of_ble_eq_true rfl⟩) (w_preVK (pl := []) (ci := 8) hE hS hA hK hP hD rfl rfl) rfl rfl hl.1 rfl (lv_room (Nat.le_of_ble_eq_true rfl)) dL_refuses_175 ⟨Nat.le_of_ble_eq_true rfl, Nat.le_of_ble_eq_true rfl⟩) (fun r52 u H locs hw hP hD hS => ?_)
                            obtain ⟨Kc53, o_54, rfl, hG, hr_⟩ := hw
                            replace h := h r52 o_54 hr_
                            clear hr_
                            have hP : va_P D vwCl ([] ++ wK cy x Kc53) H := hP
                            have hD : va_D A ([] ++ wK cy x Kc53) := hD
                            refine lv_iconst (v := (-1)) hx hb dL_refuses_178 (by decide) ?_
                            refine lv_icmp_ne (tgt := 387) hx hb dL_refuses_179 rfl (fun hc => ?_) (fun hc => ?_)
                            · replace h := h.1 hc
                              exact j387 o_54 r7 r10 h _ hG _ _ hP hD hS _ (lv_sub hl [2, 1, 0] rfl)
                            · replace h := h.2 hc
                              refine lv_aload_n hx hb dL_refuses_182 rfl (lv_at hl 2 rfl) ?_
                              refine lv_iconst (v := 4) hx hb dL_refuses_183 (by decide) ?_
                              refine lv_iconst (v := 0) hx hb dL_refuses_184 (by decide) ?_
                              refine w_callK0 (pl := []) hP hD hS hA (va_runV (As := [.int 4, .int 0]) (rest := []) ⟨hx, hb, hml, hown, hts⟩ (m_setSide l D cy H.size x Kc53 o_54 hG 4 0) (cwV 2 hts gL_refuses_X8_setSide rfl rfl rfl (by decide +kernel) ⟨Nat.le_of_ble_eq_true rfl, Nat.le_of_ble_eq_true rfl⟩) (w_preVK (pl := []) (ci := 8) hE hS hA hK hP hD rfl rfl) rfl rfl hl.1 rfl (lv_room (Nat.le_of_ble_eq_true rfl)) dL_refuses_185 ⟨Nat.le_of_ble_eq_true rfl, Nat.le_of_ble_eq_true rfl⟩) (fun r55 u H locs hw hP hD hS => ?_)
                              obtain ⟨Kc56, o_57, rfl, hG, hr_⟩ := hw
                              replace h := h r55 o_57 hr_
                              clear hr_
                              have hP : va_P D vwCl ([] ++ wK cy x Kc56) H := hP
                              have hD : va_D A ([] ++ wK cy x Kc56) := hD
                              refine lv_iconst (v := (-1)) hx hb dL_refuses_188 (by decide) ?_
                              refine lv_icmp_ne (tgt := 387) hx hb dL_refuses_189 rfl (fun hc => ?_) (fun hc => ?_)
                              · replace h := h.1 hc
                                exact j387 o_57 r7 r10 h _ hG _ _ hP hD hS _ (lv_sub hl [2, 1, 0] rfl)
                              · replace h := h.2 hc
                                refine lv_aload_n hx hb dL_refuses_192 rfl (lv_at hl 2 rfl) ?_
                                refine lv_iconst (v := 0) hx hb dL_refuses_193 (by decide) ?_
                                refine lv_iconst (v := 2) hx hb dL_refuses_194 (by decide) ?_
                                refine w_callK0 (pl := []) hP hD hS hA (va_runV (As := [.int 0, .int 2]) (rest := []) ⟨hx, hb, hml, hown, hts⟩ (m_setSide l D cy H.size x Kc56 o_57 hG 0 2) (cwV 2 hts gL_refuses_X8_setSide rfl rfl rfl (by decide +kernel) ⟨Nat.le_of_ble_eq_true rfl, Nat.le_of_ble_eq_true rfl⟩) (w_preVK (pl := []) (ci := 8) hE hS hA hK hP hD rfl rfl) rfl rfl hl.1 rfl (lv_room (Nat.le_of_ble_eq_true rfl)) dL_refuses_195 ⟨Nat.le_of_ble_eq_true rfl, Nat.le_of_ble_eq_true rfl⟩) (fun r58 u H locs hw hP hD hS => ?_)
                                obtain ⟨Kc59, o_60, rfl, hG, hr_⟩ := hw
                                replace h := h r58 o_60 hr_
                                clear hr_
                                have hP : va_P D vwCl ([] ++ wK cy x Kc59) H := hP
                                have hD : va_D A ([] ++ wK cy x Kc59) := hD
                                refine lv_iconst (v := (-1)) hx hb dL_refuses_198 (by decide) ?_
                                refine lv_icmp_ne (tgt := 387) hx hb dL_refuses_199 rfl (fun hc => ?_) (fun hc => ?_)
                                · replace h := h.1 hc
                                  exact j387 o_60 r7 r10 h _ hG _ _ hP hD hS _ (lv_sub hl [2, 1, 0] rfl)
                                · replace h := h.2 hc
                                  refine lv_aload_n hx hb dL_refuses_202 rfl (lv_at hl 2 rfl) ?_
                                  refine lv_iconst (v := 2) hx hb dL_refuses_203 (by decide) ?_
                                  refine lv_iconst (v := 0) hx hb dL_refuses_204 (by decide) ?_
                                  refine lv_iconst (v := 1) hx hb dL_refuses_205 (by decide) ?_
                                  refine w_callK0 (pl := []) hP hD hS hA (va_runV (As := [.int 2, .int 0, .int 1]) (rest := []) ⟨hx, hb, hml, hown, hts⟩ (m_choose l D cy H.size x Kc59 o_60 hG 2 0 1) (cwV 3 hts gL_refuses_X8_choose rfl rfl rfl (by decide +kernel) ⟨Nat.le_of_ble_eq_true rfl, Nat.le_of_ble_eq_true rfl⟩) (w_preVK (pl := []) (ci := 8) hE hS hA hK hP hD rfl rfl) rfl rfl hl.1 rfl (lv_room (Nat.le_of_ble_eq_true rfl)) dL_refuses_206 ⟨Nat.le_of_ble_eq_true rfl, Nat.le_of_ble_eq_true rfl⟩) (fun r61 u H locs hw hP hD hS => ?_)
                                  obtain ⟨Kc62, o_63, rfl, hG, hr_⟩ := hw
                                  replace h := h r61 o_63 hr_
                                  clear hr_
                                  have hP : va_P D vwCl ([] ++ wK cy x Kc62) H := hP
                                  have hD : va_D A ([] ++ wK cy x Kc62) := hD
                                  refine lv_iconst (v := (-1)) hx hb dL_refuses_209 (by decide) ?_
                                  refine lv_icmp_ne (tgt := 387) hx hb dL_refuses_210 rfl (fun hc => ?_) (fun hc => ?_)
                                  · replace h := h.1 hc
                                    exact j387 o_63 r7 r10 h _ hG _ _ hP hD hS _ (lv_sub hl [2, 1, 0] rfl)
                                  · replace h := h.2 hc
                                    refine lv_aload_n hx hb dL_refuses_213 rfl (lv_at hl 2 rfl) ?_
                                    refine lv_iconst (v := 0) hx hb dL_refuses_214 (by decide) ?_
                                    refine lv_iconst (v := 0) hx hb dL_refuses_215 (by decide) ?_
                                    refine lv_iconst (v := 5) hx hb dL_refuses_216 (by decide) ?_
                                    refine w_callK0 (pl := []) hP hD hS hA (va_runV (As := [.int 0, .int 0, .int 5]) (rest := []) ⟨hx, hb, hml, hown, hts⟩ (m_choose l D cy H.size x Kc62 o_63 hG 0 0 5) (cwV 3 hts gL_refuses_X8_choose rfl rfl rfl (by decide +kernel) ⟨Nat.le_of_ble_eq_true rfl, Nat.le_of_ble_eq_true rfl⟩) (w_preVK (pl := []) (ci := 8) hE hS hA hK hP hD rfl rfl) rfl rfl hl.1 rfl (lv_room (Nat.le_of_ble_eq_true rfl)) dL_refuses_217 ⟨Nat.le_of_ble_eq_true rfl, Nat.le_of_ble_eq_true rfl⟩) (fun r64 u H locs hw hP hD hS => ?_)
                                    obtain ⟨Kc65, o_66, rfl, hG, hr_⟩ := hw
                                    replace h := h r64 o_66 hr_
                                    clear hr_
                                    have hP : va_P D vwCl ([] ++ wK cy x Kc65) H := hP
                                    have hD : va_D A ([] ++ wK cy x Kc65) := hD
                                    refine lv_iconst (v := (-1)) hx hb dL_refuses_220 (by decide) ?_
                                    refine lv_icmp_ne (tgt := 387) hx hb dL_refuses_221 rfl (fun hc => ?_) (fun hc => ?_)
                                    · replace h := h.1 hc
                                      exact j387 o_66 r7 r10 h _ hG _ _ hP hD hS _ (lv_sub hl [2, 1, 0] rfl)
                                    · replace h := h.2 hc
                                      refine lv_aload_n hx hb dL_refuses_224 rfl (lv_at hl 2 rfl) ?_
                                      refine lv_iconst (v := 2) hx hb dL_refuses_225 (by decide) ?_
                                      refine w_callK0 (pl := []) hP hD hS hA (va_runV (As := [.int 2]) (rest := []) ⟨hx, hb, hml, hown, hts⟩ (m_take l D cy H.size x Kc65 o_66 hG 2) (cwV 1 hts gL_refuses_X8_take rfl rfl rfl (by decide +kernel) ⟨Nat.le_of_ble_eq_true rfl, Nat.le_of_ble_eq_true rfl⟩) (w_preVK (pl := []) (ci := 8) hE hS hA hK hP hD rfl rfl) rfl rfl hl.1 rfl (lv_room (Nat.le_of_ble_eq_true rfl)) dL_refuses_226 ⟨Nat.le_of_ble_eq_true rfl, Nat.le_of_ble_eq_true rfl⟩) (fun r67 u H locs hw hP hD hS => ?_)
                                      obtain ⟨Kc68, o_69, rfl, hG, hr_⟩ := hw
                                      replace h := h r67 o_69 hr_
                                      clear hr_
                                      have hP : va_P D vwCl ([] ++ wK cy x Kc68) H := hP
                                      have hD : va_D A ([] ++ wK cy x Kc68) := hD
                                      refine lv_iconst (v := (-1)) hx hb dL_refuses_229 (by decide) ?_
                                      refine lv_icmp_ne (tgt := 387) hx hb dL_refuses_230 rfl (fun hc => ?_) (fun hc => ?_)
                                      · replace h := h.1 hc
                                        exact j387 o_69 r7 r10 h _ hG _ _ hP hD hS _ (lv_sub hl [2, 1, 0] rfl)
                                      · replace h := h.2 hc
                                        refine lv_aload_n hx hb dL_refuses_233 rfl (lv_at hl 2 rfl) ?_
                                        refine lv_iconst (v := (-1)) hx hb dL_refuses_234 (by decide) ?_
                                        refine w_callK0 (pl := []) hP hD hS hA (va_runV (As := [.int (-1)]) (rest := []) ⟨hx, hb, hml, hown, hts⟩ (m_restore l D cy H.size x Kc68 o_69 hG ((-1))) (cwV 1 hts gL_refuses_X8_restore rfl rfl rfl (by decide +kernel) ⟨Nat.le_of_ble_eq_true rfl, Nat.le_of_ble_eq_true rfl⟩) (w_preVK (pl := []) (ci := 8) hE hS hA hK hP hD rfl rfl) rfl rfl hl.1 rfl (lv_room (Nat.le_of_ble_eq_true rfl)) dL_refuses_235 ⟨Nat.le_of_ble_eq_true rfl, Nat.le_of_ble_eq_true rfl⟩) (fun r70 u H locs hw hP hD hS => ?_)
                                        obtain ⟨Kc71, o_72, rfl, hG, hr_⟩ := hw
                                        replace h := h r70 o_72 hr_
                                        clear hr_
                                        have hP : va_P D vwCl ([] ++ wK cy x Kc71) H := hP
                                        have hD : va_D A ([] ++ wK cy x Kc71) := hD
                                        refine lv_iconst (v := (-1)) hx hb dL_refuses_238 (by decide) ?_
                                        refine lv_icmp_ne (tgt := 387) hx hb dL_refuses_239 rfl (fun hc => ?_) (fun hc => ?_)
                                        · replace h := h.1 hc
                                          exact j387 o_72 r7 r10 h _ hG _ _ hP hD hS _ (lv_sub hl [2, 1, 0] rfl)
                                        · replace h := h.2 hc
                                          refine lv_aload_n hx hb dL_refuses_242 rfl (lv_at hl 2 rfl) ?_
                                          refine lv_iconst (v := 0) hx hb dL_refuses_243 (by decide) ?_
                                          refine w_callK0 (pl := []) hP hD hS hA (va_runV (As := [.int 0]) (rest := []) ⟨hx, hb, hml, hown, hts⟩ (m_append l D cy H.size x Kc71 o_72 hG 0 rfl) (cwV 1 hts gL_refuses_X8_append rfl rfl rfl (by decide +kernel) ⟨Nat.le_of_ble_eq_true rfl, Nat.le_of_ble_eq_true rfl⟩) (w_preVK (pl := []) (ci := 8) hE hS hA hK hP hD rfl rfl) rfl rfl hl.1 rfl (lv_room (Nat.le_of_ble_eq_true rfl)) dL_refuses_244 ⟨Nat.le_of_ble_eq_true rfl, Nat.le_of_ble_eq_true rfl⟩) (fun r73 u H locs hw hP hD hS => ?_)
                                          obtain ⟨Kc74, o_75, rfl, hG, hr_⟩ := hw
                                          replace h := h r73 o_75 hr_
                                          clear hr_
                                          have hP : va_P D vwCl ([] ++ wK cy x Kc74) H := hP
                                          have hD : va_D A ([] ++ wK cy x Kc74) := hD
                                          refine lv_iconst (v := (-1)) hx hb dL_refuses_247 (by decide) ?_
                                          refine lv_icmp_ne (tgt := 387) hx hb dL_refuses_248 rfl (fun hc => ?_) (fun hc => ?_)
                                          · replace h := h.1 hc
                                            exact j387 o_75 r7 r10 h _ hG _ _ hP hD hS _ (lv_sub hl [2, 1, 0] rfl)
                                          · replace h := h.2 hc
                                            refine lv_aload_n hx hb dL_refuses_251 rfl (lv_at hl 2 rfl) ?_
                                            refine lv_iconst (v := (-1)) hx hb dL_refuses_252 (by decide) ?_
                                            refine w_callK0 (pl := []) hP hD hS hA (va_runV (As := [.int (-1)]) (rest := []) ⟨hx, hb, hml, hown, hts⟩ (m_count l D cy H.size x Kc74 o_75 hG ((-1))) (cwV 1 hts gL_refuses_X8_count rfl rfl rfl (by decide +kernel) ⟨Nat.le_of_ble_eq_true rfl, Nat.le_of_ble_eq_true rfl⟩) (w_preVK (pl := []) (ci := 8) hE hS hA hK hP hD rfl rfl) rfl rfl hl.1 rfl (lv_room (Nat.le_of_ble_eq_true rfl)) dL_refuses_253 ⟨Nat.le_of_ble_eq_true rfl, Nat.le_of_ble_eq_true rfl⟩) (fun r76 u H locs hw hP hD hS => ?_)
                                            obtain ⟨Kc77, rfl, hG, hr_⟩ := hw
                                            replace h := h r76 hr_
                                            clear hr_
                                            have hP : va_P D vwCl ([] ++ wK cy x Kc77) H := hP
                                            have hD : va_D A ([] ++ wK cy x Kc77) := hD
                                            refine lv_iconst (v := (-1)) hx hb dL_refuses_256 (by decide) ?_
                                            refine lv_icmp_ne (tgt := 387) hx hb dL_refuses_257 rfl (fun hc => ?_) (fun hc => ?_)
                                            · replace h := h.1 hc
                                              exact j387 o_75 r7 r10 h _ hG _ _ hP hD hS _ (lv_sub hl [2, 1, 0] rfl)
                                            · replace h := h.2 hc
                                              refine lv_aload_n hx hb dL_refuses_260 rfl (lv_at hl 2 rfl) ?_
                                              refine lv_bipush (v := 16) hx hb dL_refuses_261 (by decide) ?_
                                              refine w_callK0 (pl := []) hP hD hS hA (va_runV (As := [.int 16]) (rest := []) ⟨hx, hb, hml, hown, hts⟩ (m_count l D cy H.size x Kc77 o_75 hG 16) (cwV 1 hts gL_refuses_X8_count rfl rfl rfl (by decide +kernel) ⟨Nat.le_of_ble_eq_true rfl, Nat.le_of_ble_eq_true rfl⟩) (w_preVK (pl := []) (ci := 8) hE hS hA hK hP hD rfl rfl) rfl rfl hl.1 rfl (lv_room (Nat.le_of_ble_eq_true rfl)) dL_refuses_263 ⟨Nat.le_of_ble_eq_true rfl, Nat.le_of_ble_eq_true rfl⟩) (fun r79 u H locs hw hP hD hS => ?_)
                                              obtain ⟨Kc80, rfl, hG, hr_⟩ := hw
                                              replace h := h r79 hr_
                                              clear hr_
                                              have hP : va_P D vwCl ([] ++ wK cy x Kc80) H := hP
                                              have hD : va_D A ([] ++ wK cy x Kc80) := hD
                                              refine lv_iconst (v := (-1)) hx hb dL_refuses_266 (by decide) ?_
                                              refine lv_icmp_ne (tgt := 387) hx hb dL_refuses_267 rfl (fun hc => ?_) (fun hc => ?_)
                                              · replace h := h.1 hc
                                                exact j387 o_75 r7 r10 h _ hG _ _ hP hD hS _ (lv_sub hl [2, 1, 0] rfl)
                                              · replace h := h.2 hc
                                                refine lv_aload_n hx hb dL_refuses_270 rfl (lv_at hl 2 rfl) ?_
                                                refine lv_bipush (v := 10) hx hb dL_refuses_271 (by decide) ?_
                                                refine w_callK0 (pl := []) hP hD hS hA (va_runV (As := [.int 10]) (rest := []) ⟨hx, hb, hml, hown, hts⟩ (m_card l D cy H.size x Kc80 o_75 hG 10) (cwV 1 hts gL_refuses_X8_card rfl rfl rfl (by decide +kernel) ⟨Nat.le_of_ble_eq_true rfl, Nat.le_of_ble_eq_true rfl⟩) (w_preVK (pl := []) (ci := 8) hE hS hA hK hP hD rfl rfl) rfl rfl hl.1 rfl (lv_room (Nat.le_of_ble_eq_true rfl)) dL_refuses_273 ⟨Nat.le_of_ble_eq_true rfl, Nat.le_of_ble_eq_true rfl⟩) (fun r82 u H locs hw hP hD hS => ?_)
                                                obtain ⟨Kc83, rfl, hG, hr_⟩ := hw
                                                replace h := h r82 hr_
                                                clear hr_
                                                have hP : va_P D vwCl ([] ++ wK cy x Kc83) H := hP
                                                have hD : va_D A ([] ++ wK cy x Kc83) := hD
                                                refine lv_iconst (v := (-1)) hx hb dL_refuses_276 (by decide) ?_
                                                refine lv_icmp_ne (tgt := 387) hx hb dL_refuses_277 rfl (fun hc => ?_) (fun hc => ?_)
                                                · replace h := h.1 hc
                                                  exact j387 o_75 r7 r10 h _ hG _ _ hP hD hS _ (lv_sub hl [2, 1, 0] rfl)
                                                · replace h := h.2 hc
                                                  refine lv_aload_n hx hb dL_refuses_280 rfl (lv_at hl 2 rfl) ?_
                                                  refine lv_iload_n hx hb dL_refuses_281 rfl (lv_at hl 1 rfl) ?_
                                                  refine lv_iconst (v := 0) hx hb dL_refuses_282 (by decide) ?_
                                                  refine w_callK0 (pl := []) hP hD hS hA (va_runV (As := [.int r7, .int 0]) (rest := []) ⟨hx, hb, hml, hown, hts⟩ (m_dish l D cy H.size x Kc83 o_75 hG r7 0) (cwV 2 hts gL_refuses_X8_dish rfl rfl rfl (by decide +kernel) ⟨Nat.le_of_ble_eq_true rfl, Nat.le_of_ble_eq_true rfl⟩) (w_preVK (pl := []) (ci := 8) hE hS hA hK hP hD rfl rfl) rfl rfl hl.1 rfl (lv_room (Nat.le_of_ble_eq_true rfl)) dL_refuses_283 ⟨Nat.le_of_ble_eq_true rfl, Nat.le_of_ble_eq_true rfl⟩) (fun r85 u H locs hw hP hD hS => ?_)
                                                  obtain ⟨Kc86, rfl, hG, hr_⟩ := hw
                                                  replace h := h r85 hr_
                                                  clear hr_
                                                  have hP : va_P D vwCl ([] ++ wK cy x Kc86) H := hP
                                                  have hD : va_D A ([] ++ wK cy x Kc86) := hD
                                                  refine lv_iconst (v := (-1)) hx hb dL_refuses_286 (by decide) ?_
                                                  refine lv_icmp_ne (tgt := 387) hx hb dL_refuses_287 rfl (fun hc => ?_) (fun hc => ?_)
                                                  · replace h := h.1 hc
                                                    exact j387 o_75 r7 r10 h _ hG _ _ hP hD hS _ (lv_sub hl [2, 1, 0] rfl)
                                                  · replace h := h.2 hc
                                                    refine lv_aload_n hx hb dL_refuses_290 rfl (lv_at hl 2 rfl) ?_
                                                    refine lv_iconst (v := 0) hx hb dL_refuses_291 (by decide) ?_
                                                    refine lv_iconst (v := (-1)) hx hb dL_refuses_292 (by decide) ?_
                                                    refine lv_iconst (v := 0) hx hb dL_refuses_293 (by decide) ?_
                                                    refine w_callK0 (pl := []) hP hD hS hA (va_runV (As := [.int 0, .int (-1), .int 0]) (rest := []) ⟨hx, hb, hml, hown, hts⟩ (m_line l D cy H.size x Kc86 o_75 hG 0 ((-1)) 0) (cwV 3 hts gL_refuses_X8_line rfl rfl rfl (by decide +kernel) ⟨Nat.le_of_ble_eq_true rfl, Nat.le_of_ble_eq_true rfl⟩) (w_preVK (pl := []) (ci := 8) hE hS hA hK hP hD rfl rfl) rfl rfl hl.1 rfl (lv_room (Nat.le_of_ble_eq_true rfl)) dL_refuses_294 ⟨Nat.le_of_ble_eq_true rfl, Nat.le_of_ble_eq_true rfl⟩) (fun r88 u H locs hw hP hD hS => ?_)
                                                    obtain ⟨Kc89, rfl, hG, hr_⟩ := hw
                                                    replace h := h r88 hr_
                                                    clear hr_
                                                    have hP : va_P D vwCl ([] ++ wK cy x Kc89) H := hP
                                                    have hD : va_D A ([] ++ wK cy x Kc89) := hD
                                                    refine lv_iconst (v := (-1)) hx hb dL_refuses_297 (by decide) ?_
                                                    refine lv_icmp_ne (tgt := 387) hx hb dL_refuses_298 rfl (fun hc => ?_) (fun hc => ?_)
                                                    · replace h := h.1 hc
                                                      exact j387 o_75 r7 r10 h _ hG _ _ hP hD hS _ (lv_sub hl [2, 1, 0] rfl)
                                                    · replace h := h.2 hc
                                                      refine lv_aload_n hx hb dL_refuses_301 rfl (lv_at hl 2 rfl) ?_
                                                      refine lv_iconst (v := 0) hx hb dL_refuses_302 (by decide) ?_
                                                      refine lv_iconst (v := 0) hx hb dL_refuses_303 (by decide) ?_
                                                      refine lv_bipush (v := 6) hx hb dL_refuses_304 (by decide) ?_
                                                      refine w_callK0 (pl := []) hP hD hS hA (va_runV (As := [.int 0, .int 0, .int 6]) (rest := []) ⟨hx, hb, hml, hown, hts⟩ (m_line l D cy H.size x Kc89 o_75 hG 0 0 6) (cwV 3 hts gL_refuses_X8_line rfl rfl rfl (by decide +kernel) ⟨Nat.le_of_ble_eq_true rfl, Nat.le_of_ble_eq_true rfl⟩) (w_preVK (pl := []) (ci := 8) hE hS hA hK hP hD rfl rfl) rfl rfl hl.1 rfl (lv_room (Nat.le_of_ble_eq_true rfl)) dL_refuses_306 ⟨Nat.le_of_ble_eq_true rfl, Nat.le_of_ble_eq_true rfl⟩) (fun r91 u H locs hw hP hD hS => ?_)
                                                      obtain ⟨Kc92, rfl, hG, hr_⟩ := hw
                                                      replace h := h r91 hr_
                                                      clear hr_
                                                      have hP : va_P D vwCl ([] ++ wK cy x Kc92) H := hP
                                                      have hD : va_D A ([] ++ wK cy x Kc92) := hD
                                                      refine lv_iconst (v := (-1)) hx hb dL_refuses_309 (by decide) ?_
                                                      refine lv_icmp_ne (tgt := 387) hx hb dL_refuses_310 rfl (fun hc => ?_) (fun hc => ?_)
                                                      · replace h := h.1 hc
                                                        exact j387 o_75 r7 r10 h _ hG _ _ hP hD hS _ (lv_sub hl [2, 1, 0] rfl)
                                                      · replace h := h.2 hc
                                                        refine lv_aload_n hx hb dL_refuses_313 rfl (lv_at hl 2 rfl) ?_
                                                        refine lv_iconst (v := 0) hx hb dL_refuses_314 (by decide) ?_
                                                        refine lv_iconst (v := 5) hx hb dL_refuses_315 (by decide) ?_
                                                        refine w_callK0 (pl := []) hP hD hS hA (va_runV (As := [.int 0, .int 5]) (rest := []) ⟨hx, hb, hml, hown, hts⟩ (m_account l D cy H.size x Kc92 o_75 hG 0 5) (cwV 2 hts gL_refuses_X8_account rfl rfl rfl (by decide +kernel) ⟨Nat.le_of_ble_eq_true rfl, Nat.le_of_ble_eq_true rfl⟩) (w_preVK (pl := []) (ci := 8) hE hS hA hK hP hD rfl rfl) rfl rfl hl.1 rfl (lv_room (Nat.le_of_ble_eq_true rfl)) dL_refuses_316 ⟨Nat.le_of_ble_eq_true rfl, Nat.le_of_ble_eq_true rfl⟩) (fun r94 u H locs hw hP hD hS => ?_)
                                                        obtain ⟨Kc95, rfl, hG, hr_⟩ := hw
                                                        replace h := h r94 hr_
                                                        clear hr_
                                                        have hP : va_P D vwCl ([] ++ wK cy x Kc95) H := hP
                                                        have hD : va_D A ([] ++ wK cy x Kc95) := hD
                                                        refine lv_iconst (v := (-1)) hx hb dL_refuses_319 (by decide) ?_
                                                        refine lv_icmp_ne (tgt := 387) hx hb dL_refuses_320 rfl (fun hc => ?_) (fun hc => ?_)
                                                        · replace h := h.1 hc
                                                          exact j387 o_75 r7 r10 h _ hG _ _ hP hD hS _ (lv_sub hl [2, 1, 0] rfl)
                                                        · replace h := h.2 hc
                                                          refine lv_aload_n hx hb dL_refuses_323 rfl (lv_at hl 2 rfl) ?_
                                                          refine lv_iload_n hx hb dL_refuses_324 rfl (lv_at hl 1 rfl) ?_
                                                          refine w_callK0 (pl := []) hP hD hS hA (va_runV (As := [.int r7]) (rest := []) ⟨hx, hb, hml, hown, hts⟩ (m_why l D cy H.size x Kc95 o_75 hG r7) (cwV 1 hts gL_refuses_X8_why rfl rfl rfl (by decide +kernel) ⟨Nat.le_of_ble_eq_true rfl, Nat.le_of_ble_eq_true rfl⟩) (w_preVK (pl := []) (ci := 8) hE hS hA hK hP hD rfl rfl) rfl rfl hl.1 rfl (lv_room (Nat.le_of_ble_eq_true rfl)) dL_refuses_325 ⟨Nat.le_of_ble_eq_true rfl, Nat.le_of_ble_eq_true rfl⟩) (fun r97 u H locs hw hP hD hS => ?_)
                                                          obtain ⟨Kc98, rfl, hG, hr_⟩ := hw
                                                          replace h := h r97 hr_
                                                          clear hr_
                                                          have hP : va_P D vwCl ([] ++ wK cy x Kc98) H := hP
                                                          have hD : va_D A ([] ++ wK cy x Kc98) := hD
                                                          refine lv_iconst (v := (-1)) hx hb dL_refuses_328 (by decide) ?_
                                                          refine lv_icmp_ne (tgt := 387) hx hb dL_refuses_329 rfl (fun hc => ?_) (fun hc => ?_)
                                                          · replace h := h.1 hc
                                                            exact j387 o_75 r7 r10 h _ hG _ _ hP hD hS _ (lv_sub hl [2, 1, 0] rfl)
                                                          · replace h := h.2 hc
                                                            refine lv_aload_n hx hb dL_refuses_332 rfl (lv_at hl 2 rfl) ?_
                                                            refine lv_iload_n hx hb dL_refuses_333 rfl (lv_at hl 1 rfl) ?_
                                                            refine w_callK0 (pl := []) hP hD hS hA (va_runV (As := [.int r7]) (rest := []) ⟨hx, hb, hml, hown, hts⟩ (m_replacement l D cy H.size x Kc98 o_75 hG r7) (cwV 1 hts gL_refuses_X8_replacement rfl rfl rfl (by decide +kernel) ⟨Nat.le_of_ble_eq_true rfl, Nat.le_of_ble_eq_true rfl⟩) (w_preVK (pl := []) (ci := 8) hE hS hA hK hP hD rfl rfl) rfl rfl hl.1 rfl (lv_room (Nat.le_of_ble_eq_true rfl)) dL_refuses_334 ⟨Nat.le_of_ble_eq_true rfl, Nat.le_of_ble_eq_true rfl⟩) (fun r100 u H locs hw hP hD hS => ?_)
                                                            obtain ⟨Kc101, rfl, hG, hr_⟩ := hw
                                                            replace h := h r100 hr_
                                                            clear hr_
                                                            have hP : va_P D vwCl ([] ++ wK cy x Kc101) H := hP
                                                            have hD : va_D A ([] ++ wK cy x Kc101) := hD
                                                            refine lv_iconst (v := (-1)) hx hb dL_refuses_337 (by decide) ?_
                                                            refine lv_icmp_ne (tgt := 387) hx hb dL_refuses_338 rfl (fun hc => ?_) (fun hc => ?_)
                                                            · replace h := h.1 hc
                                                              exact j387 o_75 r7 r10 h _ hG _ _ hP hD hS _ (lv_sub hl [2, 1, 0] rfl)
                                                            · replace h := h.2 hc
                                                              refine lv_aload_n hx hb dL_refuses_341 rfl (lv_at hl 2 rfl) ?_
                                                              refine lv_iconst (v := (-1)) hx hb dL_refuses_342 (by decide) ?_
                                                              refine w_callK0 (pl := []) hP hD hS hA (va_runV (As := [.int (-1)]) (rest := []) ⟨hx, hb, hml, hown, hts⟩ (m_printedFor l D cy H.size x Kc101 o_75 hG ((-1))) (cwV 1 hts gL_refuses_X8_printedFor rfl rfl rfl (by decide +kernel) ⟨Nat.le_of_ble_eq_true rfl, Nat.le_of_ble_eq_true rfl⟩) (w_preVK (pl := []) (ci := 8) hE hS hA hK hP hD rfl rfl) rfl rfl hl.1 rfl (lv_room (Nat.le_of_ble_eq_true rfl)) dL_refuses_343 ⟨Nat.le_of_ble_eq_true rfl, Nat.le_of_ble_eq_true rfl⟩) (fun r103 u H locs hw hP hD hS => ?_)
                                                              obtain ⟨Kc104, rfl, hG, hr_⟩ := hw
                                                              replace h := h r103 hr_
                                                              clear hr_
                                                              have hP : va_P D vwCl ([] ++ wK cy x Kc104) H := hP
                                                              have hD : va_D A ([] ++ wK cy x Kc104) := hD
                                                              refine lv_iconst (v := (-1)) hx hb dL_refuses_346 (by decide) ?_
                                                              refine lv_icmp_ne (tgt := 387) hx hb dL_refuses_347 rfl (fun hc => ?_) (fun hc => ?_)
                                                              · replace h := h.1 hc
                                                                exact j387 o_75 r7 r10 h _ hG _ _ hP hD hS _ (lv_sub hl [2, 1, 0] rfl)
                                                              · replace h := h.2 hc
                                                                refine lv_aload_n hx hb dL_refuses_350 rfl (lv_at hl 2 rfl) ?_
                                                                refine lv_iconst (v := 4) hx hb dL_refuses_351 (by decide) ?_
                                                                refine w_callK0 (pl := []) hP hD hS hA (va_runV (As := [.int 4]) (rest := []) ⟨hx, hb, hml, hown, hts⟩ (m_bestSides l D cy H.size x Kc104 o_75 hG 4) (cwV 1 hts gL_refuses_X8_bestSides rfl rfl rfl (by decide +kernel) ⟨Nat.le_of_ble_eq_true rfl, Nat.le_of_ble_eq_true rfl⟩) (w_preVK (pl := []) (ci := 8) hE hS hA hK hP hD rfl rfl) rfl rfl hl.1 rfl (lv_room (Nat.le_of_ble_eq_true rfl)) dL_refuses_352 ⟨Nat.le_of_ble_eq_true rfl, Nat.le_of_ble_eq_true rfl⟩) (fun r106 u H locs hw hP hD hS => ?_)
                                                                obtain ⟨Kc107, rfl, hG, hr_⟩ := hw
                                                                replace h := h r106 hr_
                                                                clear hr_
                                                                have hP : va_P D vwCl ([] ++ wK cy x Kc107) H := hP
                                                                have hD : va_D A ([] ++ wK cy x Kc107) := hD
                                                                refine lv_iconst (v := (-1)) hx hb dL_refuses_355 (by decide) ?_
                                                                refine lv_icmp_ne (tgt := 387) hx hb dL_refuses_356 rfl (fun hc => ?_) (fun hc => ?_)
                                                                · replace h := h.1 hc
                                                                  exact j387 o_75 r7 r10 h _ hG _ _ hP hD hS _ (lv_sub hl [2, 1, 0] rfl)
                                                                · replace h := h.2 hc
                                                                  refine lv_aload_n hx hb dL_refuses_359 rfl (lv_at hl 2 rfl) ?_
                                                                  refine lv_iconst (v := 0) hx hb dL_refuses_360 (by decide) ?_
                                                                  refine lv_iconst (v := 0) hx hb dL_refuses_361 (by decide) ?_
                                                                  refine lv_iconst (v := 0) hx hb dL_refuses_362 (by decide) ?_
                                                                  refine lv_iconst (v := 0) hx hb dL_refuses_363 (by decide) ?_
                                                                  refine w_callK0 (pl := []) hP hD hS hA (va_runV (As := [.int 0, .int 0, .int 0, .int 0]) (rest := []) ⟨hx, hb, hml, hown, hts⟩ (m_bestSet l D cy H.size x Kc107 o_75 hG 0 0 0 0) (cwV 4 hts gL_refuses_X8_bestSet rfl rfl rfl (by decide +kernel) ⟨Nat.le_of_ble_eq_true rfl, Nat.le_of_ble_eq_true rfl⟩) (w_preVK (pl := []) (ci := 8) hE hS hA hK hP hD rfl rfl) rfl rfl hl.1 rfl (lv_room (Nat.le_of_ble_eq_true rfl)) dL_refuses_364 ⟨Nat.le_of_ble_eq_true rfl, Nat.le_of_ble_eq_true rfl⟩) (fun r109 u H locs hw hP hD hS => ?_)
                                                                  obtain ⟨Kc110, rfl, hG, hr_⟩ := hw
                                                                  replace h := h r109 hr_
                                                                  clear hr_
                                                                  have hP : va_P D vwCl ([] ++ wK cy x Kc110) H := hP
                                                                  have hD : va_D A ([] ++ wK cy x Kc110) := hD
                                                                  refine lv_iconst (v := (-1)) hx hb dL_refuses_367 (by decide) ?_
                                                                  refine lv_icmp_ne (tgt := 387) hx hb dL_refuses_368 rfl (fun hc => ?_) (fun hc => ?_)
                                                                  · replace h := h.1 hc
                                                                    exact j387 o_75 r7 r10 h _ hG _ _ hP hD hS _ (lv_sub hl [2, 1, 0] rfl)
                                                                  · replace h := h.2 hc
                                                                    refine lv_aload_n hx hb dL_refuses_371 rfl (lv_at hl 2 rfl) ?_
                                                                    refine lv_iconst (v := 0) hx hb dL_refuses_372 (by decide) ?_
                                                                    refine lv_iconst (v := 0) hx hb dL_refuses_373 (by decide) ?_
                                                                    refine lv_iconst (v := 1) hx hb dL_refuses_374 (by decide) ?_
                                                                    refine lv_iconst (v := 3) hx hb dL_refuses_375 (by decide) ?_
                                                                    refine w_callK0 (pl := []) hP hD hS hA (va_runV (As := [.int 0, .int 0, .int 1, .int 3]) (rest := []) ⟨hx, hb, hml, hown, hts⟩ (m_bestSet l D cy H.size x Kc110 o_75 hG 0 0 1 3) (cwV 4 hts gL_refuses_X8_bestSet rfl rfl rfl (by decide +kernel) ⟨Nat.le_of_ble_eq_true rfl, Nat.le_of_ble_eq_true rfl⟩) (w_preVK (pl := []) (ci := 8) hE hS hA hK hP hD rfl rfl) rfl rfl hl.1 rfl (lv_room (Nat.le_of_ble_eq_true rfl)) dL_refuses_376 ⟨Nat.le_of_ble_eq_true rfl, Nat.le_of_ble_eq_true rfl⟩) (fun r112 u H locs hw hP hD hS => ?_)
                                                                    obtain ⟨Kc113, rfl, hG, hr_⟩ := hw
                                                                    replace h := h r112 hr_
                                                                    clear hr_
                                                                    have hP : va_P D vwCl ([] ++ wK cy x Kc113) H := hP
                                                                    have hD : va_D A ([] ++ wK cy x Kc113) := hD
                                                                    refine lv_iconst (v := (-1)) hx hb dL_refuses_379 (by decide) ?_
                                                                    refine lv_icmp_ne (tgt := 387) hx hb dL_refuses_380 rfl (fun hc => ?_) (fun hc => ?_)
                                                                    · replace h := h.1 hc
                                                                      exact j387 o_75 r7 r10 h _ hG _ _ hP hD hS _ (lv_sub hl [2, 1, 0] rfl)
                                                                    · replace h := h.2 hc
                                                                      refine lv_iconst (v := 1) hx hb dL_refuses_383 (by decide) ?_
                                                                      refine lv_goto (tgt := 388) hx hb dL_refuses_384 rfl ?_
                                                                      exact j388 o_75 r7 r10 1 h _ hG _ _ hP hD hS _ (lv_sub hl [2, 1, 0] rfl)

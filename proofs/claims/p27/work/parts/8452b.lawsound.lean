abbrev r_L_sound : Room := { frames := 7, cells := 1, slots := 4, locals := 164 }
set_option maxHeartbeats 40000000 in
set_option maxRecDepth 100000 in
theorem c_L_sound (l : Launch) (D : va_G) (cy : Nat → ClassId) (sz : Nat) (x : Nat → Nat) (K : sK) (o : aO) (hG : Good o K) (Q : Int32 → Prop) (hq : p_L_sound o Q) : Met l yL_sound wsL_sound r_L_sound (wPM [.ref (x 0)] sz D cy (wK cy x K)) (va_Qi (fun r u => (r = 0 ∨ r = 1) ∧ ∃ K' : sK, u = wK cy x K' ∧ Good o K' ∧ Q r) (fun u T9 => va_P D vwCl u T9.heap ∧ va_D (va_A (wK cy x K) sz) u) (va_A (wK cy x K) sz)) 1 4 (va_A (wK cy x K) sz) := by
  refine Met.ofW (cc := cL_sound) (maxL := 8) (ret := (some .boolean)) (by decide) rfl ?_
  intro p e s m args below meth c s₁ B hml hv
  obtain ⟨hargs, hsz, hE, hP, hK, hD0⟩ := hv
  have hx := B.exec
  have hb := B.bytes
  have hr := B.returns
  have hts := atoms_spec (ws := wsL_sound) B.pre
  have hown : s.vm.findClass RL = some m.cls := findClass_of_methodNamed B.named
  have hlocks := B.notSynchronized
  clear B
  subst hsz
  have hD := hD0.self (sz := s.heap.size)
  generalize hAe : va_A (wK cy x K) s.heap.size = A at hD ⊢ hE
  have hA : ∀ q : Nat, s.heap.size ≤ q → A q := fun q h => by rw [← hAe]; exact Or.inr h
  clear hAe hD0
  have hend : ∀ (r : Int32) (K' : sK) (H : Heap) (locs : List Loc), (r = 0 ∨ r = 1) → Good o K' → Q r → va_P D vwCl (wK cy x K') H → va_D A (wK cy x K') → va_S A s.heap H locs → ∀ T9 : State, T9.heap = H → (va_Qi (fun r u => (r = 0 ∨ r = 1) ∧ ∃ K' : sK, u = wK cy x K' ∧ Good o K' ∧ Q r) (fun u T9 => va_P D vwCl u T9.heap ∧ va_D A u) A) args s (.returned (some (.int r))) T9 := fun r K' H locs hz hG' hq hP hD hS T9 ht => ⟨⟨r, _, rfl, ⟨hz, K', rfl, hG', hq⟩, by rw [ht]; exact hP, hD⟩, hS.F ht⟩
  generalize (va_Qi (fun r u => (r = 0 ∨ r = 1) ∧ ∃ K' : sK, u = wK cy x K' ∧ Good o K' ∧ Q r) (fun u T9 => va_P D vwCl u T9.heap ∧ va_D A u) A) = Qc at hend ⊢
  have hS : va_S A s.heap s.heap [] := va_S.rf
  show W p l e r_L_sound s m args below meth c s.heap [] 0 0 (MQ below Qc args s 1 4 A) (entryFrame m args 8)
  rw [show entryFrame m args 8 = entryFrame m ([.ref (x 0)] : List Value).toArray 8 from by rw [hargs]]
  have hl := lv_entry ([.ref (x 0)]) (n := 8) (Nat.le_of_ble_eq_true rfl)
  rw [lg_entry_eq]
  generalize (lg_sl ([.ref (x 0)]) ++ List.replicate (8 - (lg_sl ([.ref (x 0)])).length) Slot.unset).toArray = ls at hl ⊢
  have hl : lv_has ls 8 [(0, .ref (x 0))] := hl
  have h := hq
  clear hargs hq
  unfold p_L_sound at h
  suffices key : ∀ (H : Heap) (locs : List Loc), va_P D vwCl ([] ++ wK cy x K) H → va_D A ([] ++ wK cy x K) → va_S A s.heap H locs → W p l e r_L_sound s m args below meth c H locs 0 0 (MQ below Qc args s 1 4 A) (F0 m 0 ls []) from key s.heap [] hP hD hS
  clear hP hD hS
  intro H locs hP hD hS
  refine lv_iconst (v := 0) hx hb dL_sound_0 (by decide) ?_
  refine lv_istore_n (lv' := [(1, .int 0), (0, .ref (x 0))]) hx hb dL_sound_1 rfl hl (by decide) rfl (fun ls hl => ?_)
  refine lv_iconst (v := 0) hx hb dL_sound_2 (by decide) ?_
  refine lv_istore_n (lv' := [(2, .int 0), (1, .int 0), (0, .ref (x 0))]) hx hb dL_sound_3 rfl hl (by decide) rfl (fun ls hl => ?_)
  refine lv_iconst (v := 0) hx hb dL_sound_4 (by decide) ?_
  refine lv_istore_n (lv' := [(3, .int 0), (2, .int 0), (1, .int 0), (0, .ref (x 0))]) hx hb dL_sound_5 rfl hl (by decide) rfl (fun ls hl => ?_)
  refine lv_iconst (v := 4) hx hb dL_sound_6 (by decide) ?_
  refine va_newa (atype := .int) (ty := .int) (a0 := (4, .inl (fun _ => 0))) hx hb (hts (.arrayClass .int) (by decide +kernel)) rfl hK hP hD hS hA (fun _ => rfl) (by decide) rfl (Nat.le_of_ble_eq_true rfl) (Nat.le_of_ble_eq_true rfl) (Nat.le_of_ble_eq_true rfl) dL_sound_7 (fun q7 cA H hK hP hD hS => ?_)
  obtain rfl : cA = cy 0 := w_cy (hK.2 6 _ rfl).2 (hK.2 0 _ rfl).2
  have hK := hK.sub (tys' := wTy cy) [0, 1, 2, 3, 4, 5] rfl
  have hP : va_P D vwCl ([(q7, .inl (cy 0, 4, .inl ((fun _ => 0))))] ++ wK cy x K) H := va_P.swap (a := []) (b := ([] ++ wK cy x K)) (c := [(q7, .inl (cy 0, 4, .inl (fun _ => 0)))]) hP
  have hD : va_D A ([(q7, .inl (cy 0, 4, .inl ((fun _ => 0))))] ++ wK cy x K) := va_D.swap (a := []) (b := ([] ++ wK cy x K)) (c := [(q7, .inl (cy 0, 4, .inl (fun _ => 0)))]) hD
  refine W.widen (k := 1) (n := 4) (by omega) (by omega) ?_
  refine lv_astore (lv' := [(4, .ref (q7)), (3, .int 0), (2, .int 0), (1, .int 0), (0, .ref (x 0))]) hx hb dL_sound_9 hl (by decide) rfl (fun ls hl => ?_)
  have j436 : ∀ (ar7 : Nat → Int32) (k0 : Int32) (k1 : Int32), p_L_sound_436 o k0 k1 Q → ∀ (K : sK), Good o K → ∀ (H : Heap) (locs : List Loc), va_P D vwCl ([(q7, .inl (cy 0, 4, .inl ar7))] ++ wK cy x K) H → va_D A ([(q7, .inl (cy 0, 4, .inl ar7))] ++ wK cy x K) → va_S A s.heap H locs → ∀ (ls : Array Slot), lv_has ls 8 [(0, .ref (x 0))] → W p l e r_L_sound s m args below meth c H locs 1 4 (MQ below Qc args s 1 4 A) (F0 m 436 ls [.int k1, .int k0]) := by
    intro ar7 k0 k1 h K hG H locs hP hD hS ls hl
    unfold p_L_sound_436 at h
    refine lv_icmp_ne (tgt := 464) hx hb dL_sound_436 rfl (fun hc => ?_) (fun hc => ?_)
    · replace h := h.1 hc
      refine lv_iconst (v := 0) hx hb dL_sound_464 (by decide) ?_
      exact W.zret hx hb hr rfl (fun t ht _ => hend 0 _ _ _ (Or.inl rfl) hG h (w_tailP hP) (w_tailD hD) hS t ht) hS.2.2 dL_sound_465
    · replace h := h.2 hc
      refine lv_aload_n hx hb dL_sound_439 rfl (lv_at hl 0 rfl) ?_
      refine w_callK0 (pl := [(q7, .inl (cy 0, 4, .inl ar7))]) hP hD hS hA (va_runV (As := []) (rest := []) ⟨hx, hb, hml, hown, hts⟩ (m_evenSeasons l D cy H.size x K o hG) (cwV 0 hts gL_sound_X8_evenSeasons rfl rfl rfl (by decide +kernel) ⟨Nat.le_of_ble_eq_true rfl, Nat.le_of_ble_eq_true rfl⟩) (w_preVK (pl := [(q7, .inl (cy 0, 4, .inl ar7))]) (ci := 8) hE hS hA hK hP hD rfl rfl) rfl rfl hl.1 rfl (lv_room (Nat.le_of_ble_eq_true rfl)) dL_sound_440 ⟨Nat.le_of_ble_eq_true rfl, Nat.le_of_ble_eq_true rfl⟩) (fun r1 u H locs hw hP hD hS => ?_)
      obtain ⟨Kc2, rfl, hG, hr_⟩ := hw
      replace h := h r1 hr_
      clear hr_
      have hP : va_P D vwCl ([(q7, .inl (cy 0, 4, .inl ar7))] ++ wK cy x Kc2) H := hP
      have hD : va_D A ([(q7, .inl (cy 0, 4, .inl ar7))] ++ wK cy x Kc2) := hD
      refine lv_aload_n hx hb dL_sound_443 rfl (lv_at hl 0 rfl) ?_
      refine lv_iconst (v := 0) hx hb dL_sound_444 (by decide) ?_
      refine w_callK0 (pl := [(q7, .inl (cy 0, 4, .inl ar7))]) hP hD hS hA (va_runV (As := [.int 0]) (rest := [.int r1]) ⟨hx, hb, hml, hown, hts⟩ (m_card l D cy H.size x Kc2 o hG 0) (cwV 1 hts gL_sound_X8_card rfl rfl rfl (by decide +kernel) ⟨Nat.le_of_ble_eq_true rfl, Nat.le_of_ble_eq_true rfl⟩) (w_preVK (pl := [(q7, .inl (cy 0, 4, .inl ar7))]) (ci := 8) hE hS hA hK hP hD rfl rfl) rfl rfl hl.1 rfl (lv_room (Nat.le_of_ble_eq_true rfl)) dL_sound_445 ⟨Nat.le_of_ble_eq_true rfl, Nat.le_of_ble_eq_true rfl⟩) (fun r4 u H locs hw hP hD hS => ?_)
      obtain ⟨Kc5, rfl, hG, hr_⟩ := hw
      replace h := h r4 hr_
      clear hr_
      have hP : va_P D vwCl ([(q7, .inl (cy 0, 4, .inl ar7))] ++ wK cy x Kc5) H := hP
      have hD : va_D A ([(q7, .inl (cy 0, 4, .inl ar7))] ++ wK cy x Kc5) := hD
      refine lv_ishr hx hb dL_sound_448 ?_
      refine lv_iconst (v := 1) hx hb dL_sound_449 (by decide) ?_
      refine lv_iand hx hb dL_sound_450 ?_
      refine lv_aload_n hx hb dL_sound_451 rfl (lv_at hl 0 rfl) ?_
      refine lv_bipush (v := 11) hx hb dL_sound_452 (by decide) ?_
      refine w_callK0 (pl := [(q7, .inl (cy 0, 4, .inl ar7))]) hP hD hS hA (va_runV (As := [.int 11]) (rest := [.int ((r1 >>> (r4 &&& 31)) &&& 1)]) ⟨hx, hb, hml, hown, hts⟩ (m_count l D cy H.size x Kc5 o hG 11) (cwV 1 hts gL_sound_X8_count rfl rfl rfl (by decide +kernel) ⟨Nat.le_of_ble_eq_true rfl, Nat.le_of_ble_eq_true rfl⟩) (w_preVK (pl := [(q7, .inl (cy 0, 4, .inl ar7))]) (ci := 8) hE hS hA hK hP hD rfl rfl) rfl rfl hl.1 rfl (lv_room (Nat.le_of_ble_eq_true rfl)) dL_sound_454 ⟨Nat.le_of_ble_eq_true rfl, Nat.le_of_ble_eq_true rfl⟩) (fun r7 u H locs hw hP hD hS => ?_)
      obtain ⟨Kc8, rfl, hG, hr_⟩ := hw
      replace h := h r7 hr_
      clear hr_
      have hP : va_P D vwCl ([(q7, .inl (cy 0, 4, .inl ar7))] ++ wK cy x Kc8) H := hP
      have hD : va_D A ([(q7, .inl (cy 0, 4, .inl ar7))] ++ wK cy x Kc8) := hD
      refine lv_icmp_ne (tgt := 464) hx hb dL_sound_457 rfl (fun hc => ?_) (fun hc => ?_)
      · replace h := h.1 hc
        refine lv_iconst (v := 0) hx hb dL_sound_464 (by decide) ?_
        exact W.zret hx hb hr rfl (fun t ht _ => hend 0 _ _ _ (Or.inl rfl) hG h (w_tailP hP) (w_tailD hD) hS t ht) hS.2.2 dL_sound_465
      · replace h := h.2 hc
        refine lv_iconst (v := 1) hx hb dL_sound_460 (by decide) ?_
        refine lv_goto (tgt := 465) hx hb dL_sound_461 rfl ?_
        exact W.zret hx hb hr rfl (fun t ht _ => hend 1 _ _ _ (Or.inr rfl) hG h (w_tailP hP) (w_tailD hD) hS t ht) hS.2.2 dL_sound_465
  have j420 : ∀ (ar7 : Nat → Int32) (k0 : Int32), p_L_sound_420 o k0 Q → ∀ (K : sK), Good o K → ∀ (H : Heap) (locs : List Loc), va_P D vwCl ([(q7, .inl (cy 0, 4, .inl ar7))] ++ wK cy x K) H → va_D A ([(q7, .inl (cy 0, 4, .inl ar7))] ++ wK cy x K) → va_S A s.heap H locs → ∀ (ls : Array Slot), lv_has ls 8 [(0, .ref (x 0))] → W p l e r_L_sound s m args below meth c H locs 1 4 (MQ below Qc args s 1 4 A) (F0 m 420 ls [.int k0]) := by
    intro ar7 k0 h K hG H locs hP hD hS ls hl
    unfold p_L_sound_420 at h
    refine lv_aload_n hx hb dL_sound_420 rfl (lv_at hl 0 rfl) ?_
    refine lv_bipush (v := 8) hx hb dL_sound_421 (by decide) ?_
    refine w_callK0 (pl := [(q7, .inl (cy 0, 4, .inl ar7))]) hP hD hS hA (va_runV (As := [.int 8]) (rest := [.int k0]) ⟨hx, hb, hml, hown, hts⟩ (m_count l D cy H.size x K o hG 8) (cwV 1 hts gL_sound_X8_count rfl rfl rfl (by decide +kernel) ⟨Nat.le_of_ble_eq_true rfl, Nat.le_of_ble_eq_true rfl⟩) (w_preVK (pl := [(q7, .inl (cy 0, 4, .inl ar7))]) (ci := 8) hE hS hA hK hP hD rfl rfl) rfl rfl hl.1 rfl (lv_room (Nat.le_of_ble_eq_true rfl)) dL_sound_423 ⟨Nat.le_of_ble_eq_true rfl, Nat.le_of_ble_eq_true rfl⟩) (fun r10 u H locs hw hP hD hS => ?_)
    obtain ⟨Kc11, rfl, hG, hr_⟩ := hw
    replace h := h r10 hr_
    clear hr_
    have hP : va_P D vwCl ([(q7, .inl (cy 0, 4, .inl ar7))] ++ wK cy x Kc11) H := hP
    have hD : va_D A ([(q7, .inl (cy 0, 4, .inl ar7))] ++ wK cy x Kc11) := hD
    refine lv_bipush (v := (-99)) hx hb dL_sound_426 (by decide) ?_
    refine lv_icmp_ne (tgt := 435) hx hb dL_sound_428 rfl (fun hc => ?_) (fun hc => ?_)
    · replace h := h.1 hc
      refine lv_iconst (v := 0) hx hb dL_sound_435 (by decide) ?_
      exact j436 ar7 k0 0 h _ hG _ _ hP hD hS _ (lv_sub hl [0] rfl)
    · replace h := h.2 hc
      refine lv_iconst (v := 1) hx hb dL_sound_431 (by decide) ?_
      refine lv_goto (tgt := 436) hx hb dL_sound_432 rfl ?_
      exact j436 ar7 k0 1 h _ hG _ _ hP hD hS _ (lv_sub hl [0] rfl)
  have j401 : ∀ (ar7 : Nat → Int32) (x5 : Int32) (k0 : Int32), p_L_sound_401 o x5 k0 Q → ∀ (K : sK), Good o K → ∀ (H : Heap) (locs : List Loc), va_P D vwCl ([(q7, .inl (cy 0, 4, .inl ar7))] ++ wK cy x K) H → va_D A ([(q7, .inl (cy 0, 4, .inl ar7))] ++ wK cy x K) → va_S A s.heap H locs → ∀ (ls : Array Slot), lv_has ls 8 [(0, .ref (x 0)), (5, .int x5)] → W p l e r_L_sound s m args below meth c H locs 1 4 (MQ below Qc args s 1 4 A) (F0 m 401 ls [.int k0]) := by
    intro ar7 x5 k0 h K hG H locs hP hD hS ls hl
    unfold p_L_sound_401 at h
    refine lv_iload hx hb dL_sound_401 (lv_at hl 1 rfl) ?_
    refine lv_icmp_ne (tgt := 464) hx hb dL_sound_403 rfl (fun hc => ?_) (fun hc => ?_)
    · replace h := h.1 hc
      refine lv_iconst (v := 0) hx hb dL_sound_464 (by decide) ?_
      exact W.zret hx hb hr rfl (fun t ht _ => hend 0 _ _ _ (Or.inl rfl) hG h (w_tailP hP) (w_tailD hD) hS t ht) hS.2.2 dL_sound_465
    · replace h := h.2 hc
      refine lv_aload_n hx hb dL_sound_406 rfl (lv_at hl 0 rfl) ?_
      refine lv_bipush (v := 7) hx hb dL_sound_407 (by decide) ?_
      refine w_callK0 (pl := [(q7, .inl (cy 0, 4, .inl ar7))]) hP hD hS hA (va_runV (As := [.int 7]) (rest := []) ⟨hx, hb, hml, hown, hts⟩ (m_count l D cy H.size x K o hG 7) (cwV 1 hts gL_sound_X8_count rfl rfl rfl (by decide +kernel) ⟨Nat.le_of_ble_eq_true rfl, Nat.le_of_ble_eq_true rfl⟩) (w_preVK (pl := [(q7, .inl (cy 0, 4, .inl ar7))]) (ci := 8) hE hS hA hK hP hD rfl rfl) rfl rfl hl.1 rfl (lv_room (Nat.le_of_ble_eq_true rfl)) dL_sound_409 ⟨Nat.le_of_ble_eq_true rfl, Nat.le_of_ble_eq_true rfl⟩) (fun r13 u H locs hw hP hD hS => ?_)
      obtain ⟨Kc14, rfl, hG, hr_⟩ := hw
      replace h := h r13 hr_
      clear hr_
      have hP : va_P D vwCl ([(q7, .inl (cy 0, 4, .inl ar7))] ++ wK cy x Kc14) H := hP
      have hD : va_D A ([(q7, .inl (cy 0, 4, .inl ar7))] ++ wK cy x Kc14) := hD
      refine lv_if_ne (tgt := 419) hx hb dL_sound_412 rfl (fun hc => ?_) (fun hc => ?_)
      · replace h := h.1 hc
        refine lv_iconst (v := 0) hx hb dL_sound_419 (by decide) ?_
        exact j420 ar7 0 h _ hG _ _ hP hD hS _ (lv_sub hl [0] rfl)
      · replace h := h.2 hc
        refine lv_iconst (v := 1) hx hb dL_sound_415 (by decide) ?_
        refine lv_goto (tgt := 420) hx hb dL_sound_416 rfl ?_
        exact j420 ar7 1 h _ hG _ _ hP hD hS _ (lv_sub hl [0] rfl)
  have j396 : ∀ (ar7 : Nat → Int32) (x5 : Int32), p_L_sound_396 o x5 Q → ∀ (K : sK), Good o K → ∀ (H : Heap) (locs : List Loc), va_P D vwCl ([(q7, .inl (cy 0, 4, .inl ar7))] ++ wK cy x K) H → va_D A ([(q7, .inl (cy 0, 4, .inl ar7))] ++ wK cy x K) → va_S A s.heap H locs → ∀ (ls : Array Slot), lv_has ls 8 [(0, .ref (x 0)), (5, .int x5)] → W p l e r_L_sound s m args below meth c H locs 1 4 (MQ below Qc args s 1 4 A) (F0 m 396 ls []) := by
    intro ar7 x5 h K hG H locs hP hD hS ls hl
    unfold p_L_sound_396 at h
    refine lv_iconst (v := 1) hx hb dL_sound_396 (by decide) ?_
    refine lv_goto (tgt := 401) hx hb dL_sound_397 rfl ?_
    exact j401 ar7 x5 1 h _ hG _ _ hP hD hS _ (lv_sub hl [0, 1] rfl)
  have j382 : ∀ (ar7 : Nat → Int32) (x5 : Int32) (x6 : Int32), p_L_sound_382 o x5 x6 Q → ∀ (K : sK), Good o K → ∀ (H : Heap) (locs : List Loc), va_P D vwCl ([(q7, .inl (cy 0, 4, .inl ar7))] ++ wK cy x K) H → va_D A ([(q7, .inl (cy 0, 4, .inl ar7))] ++ wK cy x K) → va_S A s.heap H locs → ∀ (ls : Array Slot), lv_has ls 8 [(0, .ref (x 0)), (5, .int x5), (6, .int x6)] → W p l e r_L_sound s m args below meth c H locs 1 4 (MQ below Qc args s 1 4 A) (F0 m 382 ls []) := by
    intro ar7 x5 x6 h K hG H locs hP hD hS ls hl
    unfold p_L_sound_382 at h
    refine lv_aload_n hx hb dL_sound_382 rfl (lv_at hl 0 rfl) ?_
    refine lv_bipush (v := 9) hx hb dL_sound_383 (by decide) ?_
    refine w_callK0 (pl := [(q7, .inl (cy 0, 4, .inl ar7))]) hP hD hS hA (va_runV (As := [.int 9]) (rest := []) ⟨hx, hb, hml, hown, hts⟩ (m_count l D cy H.size x K o hG 9) (cwV 1 hts gL_sound_X8_count rfl rfl rfl (by decide +kernel) ⟨Nat.le_of_ble_eq_true rfl, Nat.le_of_ble_eq_true rfl⟩) (w_preVK (pl := [(q7, .inl (cy 0, 4, .inl ar7))]) (ci := 8) hE hS hA hK hP hD rfl rfl) rfl rfl hl.1 rfl (lv_room (Nat.le_of_ble_eq_true rfl)) dL_sound_385 ⟨Nat.le_of_ble_eq_true rfl, Nat.le_of_ble_eq_true rfl⟩) (fun r16 u H locs hw hP hD hS => ?_)
    obtain ⟨Kc17, rfl, hG, hr_⟩ := hw
    replace h := h r16 hr_
    clear hr_
    have hP : va_P D vwCl ([(q7, .inl (cy 0, 4, .inl ar7))] ++ wK cy x Kc17) H := hP
    have hD : va_D A ([(q7, .inl (cy 0, 4, .inl ar7))] ++ wK cy x Kc17) := hD
    refine lv_if_eq (tgt := 396) hx hb dL_sound_388 rfl (fun hc => ?_) (fun hc => ?_)
    · replace h := h.1 hc
      exact j396 ar7 x5 h _ hG _ _ hP hD hS _ (lv_sub hl [0, 1] rfl)
    · replace h := h.2 hc
      refine lv_iload hx hb dL_sound_391 (lv_at hl 2 rfl) ?_
      refine lv_if_le (tgt := 400) hx hb dL_sound_393 rfl (fun hc => ?_) (fun hc => ?_)
      · replace h := h.1 hc
        refine lv_iconst (v := 0) hx hb dL_sound_400 (by decide) ?_
        exact j401 ar7 x5 0 h _ hG _ _ hP hD hS _ (lv_sub hl [0, 1] rfl)
      · replace h := h.2 hc
        exact j396 ar7 x5 h _ hG _ _ hP hD hS _ (lv_sub hl [0, 1] rfl)
  have j356 : ∀ (ar7 : Nat → Int32) (x5 : Int32) (x6 : Int32) (k0 : Int32), p_L_sound_356 o x5 x6 k0 Q → ∀ (K : sK), Good o K → ∀ (H : Heap) (locs : List Loc), va_P D vwCl ([(q7, .inl (cy 0, 4, .inl ar7))] ++ wK cy x K) H → va_D A ([(q7, .inl (cy 0, 4, .inl ar7))] ++ wK cy x K) → va_S A s.heap H locs → ∀ (ls : Array Slot), lv_has ls 8 [(0, .ref (x 0)), (5, .int x5), (6, .int x6)] → W p l e r_L_sound s m args below meth c H locs 1 4 (MQ below Qc args s 1 4 A) (F0 m 356 ls [.int k0]) := by
    intro ar7 x5 x6 k0 h K hG H locs hP hD hS ls hl
    unfold p_L_sound_356 at h
    refine lv_iload hx hb dL_sound_356 (lv_at hl 1 rfl) ?_
    refine lv_icmp_ne (tgt := 464) hx hb dL_sound_358 rfl (fun hc => ?_) (fun hc => ?_)
    · replace h := h.1 hc
      refine lv_iconst (v := 0) hx hb dL_sound_464 (by decide) ?_
      exact W.zret hx hb hr rfl (fun t ht _ => hend 0 _ _ _ (Or.inl rfl) hG h (w_tailP hP) (w_tailD hD) hS t ht) hS.2.2 dL_sound_465
    · replace h := h.2 hc
      refine lv_iload hx hb dL_sound_361 (lv_at hl 2 rfl) ?_
      refine lv_if_eq (tgt := 382) hx hb dL_sound_363 rfl (fun hc => ?_) (fun hc => ?_)
      · replace h := h.1 hc
        exact j382 ar7 x5 x6 h _ hG _ _ hP hD hS _ (lv_sub hl [0, 1, 2] rfl)
      · replace h := h.2 hc
        refine lv_iload hx hb dL_sound_366 (lv_at hl 2 rfl) ?_
        refine lv_aload_n hx hb dL_sound_368 rfl (lv_at hl 0 rfl) ?_
        refine lv_bipush (v := 9) hx hb dL_sound_369 (by decide) ?_
        refine w_callK0 (pl := [(q7, .inl (cy 0, 4, .inl ar7))]) hP hD hS hA (va_runV (As := [.int 9]) (rest := [.int x6]) ⟨hx, hb, hml, hown, hts⟩ (m_count l D cy H.size x K o hG 9) (cwV 1 hts gL_sound_X8_count rfl rfl rfl (by decide +kernel) ⟨Nat.le_of_ble_eq_true rfl, Nat.le_of_ble_eq_true rfl⟩) (w_preVK (pl := [(q7, .inl (cy 0, 4, .inl ar7))]) (ci := 8) hE hS hA hK hP hD rfl rfl) rfl rfl hl.1 rfl (lv_room (Nat.le_of_ble_eq_true rfl)) dL_sound_371 ⟨Nat.le_of_ble_eq_true rfl, Nat.le_of_ble_eq_true rfl⟩) (fun r19 u H locs hw hP hD hS => ?_)
        obtain ⟨Kc20, rfl, hG, hr_⟩ := hw
        replace h := h r19 hr_
        clear hr_
        have hP : va_P D vwCl ([(q7, .inl (cy 0, 4, .inl ar7))] ++ wK cy x Kc20) H := hP
        have hD : va_D A ([(q7, .inl (cy 0, 4, .inl ar7))] ++ wK cy x Kc20) := hD
        refine lv_icmp_ne (tgt := 464) hx hb dL_sound_374 rfl (fun hc => ?_) (fun hc => ?_)
        · replace h := h.1 hc
          refine lv_iconst (v := 0) hx hb dL_sound_464 (by decide) ?_
          exact W.zret hx hb hr rfl (fun t ht _ => hend 0 _ _ _ (Or.inl rfl) hG h (w_tailP hP) (w_tailD hD) hS t ht) hS.2.2 dL_sound_465
        · replace h := h.2 hc
          refine lv_iload hx hb dL_sound_377 (lv_at hl 1 rfl) ?_
          refine lv_if_eq (tgt := 464) hx hb dL_sound_379 rfl (fun hc => ?_) (fun hc => ?_)
          · replace h := h.1 hc
            refine lv_iconst (v := 0) hx hb dL_sound_464 (by decide) ?_
            exact W.zret hx hb hr rfl (fun t ht _ => hend 0 _ _ _ (Or.inl rfl) hG h (w_tailP hP) (w_tailD hD) hS t ht) hS.2.2 dL_sound_465
          · replace h := h.2 hc
            exact j382 ar7 x5 x6 h _ hG _ _ hP hD hS _ (lv_sub hl [0, 1, 2] rfl)
  have j282 : ∀ (ar7 : Nat → Int32) (x1 : Int32) (x2 : Int32) (x3 : Int32) (k0 : Int32), p_L_sound_282 o x1 x2 x3 k0 Q → ∀ (K : sK), Good o K → ∀ (H : Heap) (locs : List Loc), va_P D vwCl ([(q7, .inl (cy 0, 4, .inl ar7))] ++ wK cy x K) H → va_D A ([(q7, .inl (cy 0, 4, .inl ar7))] ++ wK cy x K) → va_S A s.heap H locs → ∀ (ls : Array Slot), lv_has ls 8 [(0, .ref (x 0)), (1, .int x1), (2, .int x2), (3, .int x3)] → W p l e r_L_sound s m args below meth c H locs 1 4 (MQ below Qc args s 1 4 A) (F0 m 282 ls [.int k0]) := by
    intro ar7 x1 x2 x3 k0 h K hG H locs hP hD hS ls hl
    unfold p_L_sound_282 at h
    refine lv_istore (lv' := [(5, .int k0), (0, .ref (x 0)), (1, .int x1), (2, .int x2), (3, .int x3)]) hx hb dL_sound_282 hl (by decide) rfl (fun ls hl => ?_)
    refine lv_aload_n hx hb dL_sound_284 rfl (lv_at hl 1 rfl) ?_
    refine lv_bipush (v := 10) hx hb dL_sound_285 (by decide) ?_
    refine w_callK0 (pl := [(q7, .inl (cy 0, 4, .inl ar7))]) hP hD hS hA (va_runV (As := [.int 10]) (rest := []) ⟨hx, hb, hml, hown, hts⟩ (m_count l D cy H.size x K o hG 10) (cwV 1 hts gL_sound_X8_count rfl rfl rfl (by decide +kernel) ⟨Nat.le_of_ble_eq_true rfl, Nat.le_of_ble_eq_true rfl⟩) (w_preVK (pl := [(q7, .inl (cy 0, 4, .inl ar7))]) (ci := 8) hE hS hA hK hP hD rfl rfl) rfl rfl hl.1 rfl (lv_room (Nat.le_of_ble_eq_true rfl)) dL_sound_287 ⟨Nat.le_of_ble_eq_true rfl, Nat.le_of_ble_eq_true rfl⟩) (fun r22 u H locs hw hP hD hS => ?_)
    obtain ⟨Kc23, rfl, hG, hr_⟩ := hw
    replace h := h r22 hr_
    clear hr_
    have hP : va_P D vwCl ([(q7, .inl (cy 0, 4, .inl ar7))] ++ wK cy x Kc23) H := hP
    have hD : va_D A ([(q7, .inl (cy 0, 4, .inl ar7))] ++ wK cy x Kc23) := hD
    refine lv_istore (lv' := [(6, .int r22), (5, .int k0), (0, .ref (x 0)), (1, .int x1), (2, .int x2), (3, .int x3)]) hx hb dL_sound_290 hl (by decide) rfl (fun ls hl => ?_)
    refine lv_aload_n hx hb dL_sound_292 rfl (lv_at hl 2 rfl) ?_
    refine lv_iconst (v := 1) hx hb dL_sound_293 (by decide) ?_
    refine w_callK0 (pl := [(q7, .inl (cy 0, 4, .inl ar7))]) hP hD hS hA (va_runV (As := [.int 1]) (rest := []) ⟨hx, hb, hml, hown, hts⟩ (m_count l D cy H.size x Kc23 o hG 1) (cwV 1 hts gL_sound_X8_count rfl rfl rfl (by decide +kernel) ⟨Nat.le_of_ble_eq_true rfl, Nat.le_of_ble_eq_true rfl⟩) (w_preVK (pl := [(q7, .inl (cy 0, 4, .inl ar7))]) (ci := 8) hE hS hA hK hP hD rfl rfl) rfl rfl hl.1 rfl (lv_room (Nat.le_of_ble_eq_true rfl)) dL_sound_294 ⟨Nat.le_of_ble_eq_true rfl, Nat.le_of_ble_eq_true rfl⟩) (fun r25 u H locs hw hP hD hS => ?_)
    obtain ⟨Kc26, rfl, hG, hr_⟩ := hw
    replace h := h r25 hr_
    clear hr_
    have hP : va_P D vwCl ([(q7, .inl (cy 0, 4, .inl ar7))] ++ wK cy x Kc26) H := hP
    have hD : va_D A ([(q7, .inl (cy 0, 4, .inl ar7))] ++ wK cy x Kc26) := hD
    refine lv_iload_n hx hb dL_sound_297 rfl (lv_at hl 3 rfl) ?_
    refine lv_icmp_ne (tgt := 464) hx hb dL_sound_298 rfl (fun hc => ?_) (fun hc => ?_)
    · replace h := h.1 hc
      refine lv_iconst (v := 0) hx hb dL_sound_464 (by decide) ?_
      exact W.zret hx hb hr rfl (fun t ht _ => hend 0 _ _ _ (Or.inl rfl) hG h (w_tailP hP) (w_tailD hD) hS t ht) hS.2.2 dL_sound_465
    · replace h := h.2 hc
      refine lv_aload_n hx hb dL_sound_301 rfl (lv_at hl 2 rfl) ?_
      refine lv_aload_n hx hb dL_sound_302 rfl (lv_at hl 2 rfl) ?_
      refine lv_iconst (v := 5) hx hb dL_sound_303 (by decide) ?_
      refine w_callK0 (pl := [(q7, .inl (cy 0, 4, .inl ar7))]) hP hD hS hA (va_runV (As := [.int 5]) (rest := [.ref (x 0)]) ⟨hx, hb, hml, hown, hts⟩ (m_card l D cy H.size x Kc26 o hG 5) (cwV 1 hts gL_sound_X8_card rfl rfl rfl (by decide +kernel) ⟨Nat.le_of_ble_eq_true rfl, Nat.le_of_ble_eq_true rfl⟩) (w_preVK (pl := [(q7, .inl (cy 0, 4, .inl ar7))]) (ci := 8) hE hS hA hK hP hD rfl rfl) rfl rfl hl.1 rfl (lv_room (Nat.le_of_ble_eq_true rfl)) dL_sound_304 ⟨Nat.le_of_ble_eq_true rfl, Nat.le_of_ble_eq_true rfl⟩) (fun r28 u H locs hw hP hD hS => ?_)
      obtain ⟨Kc29, rfl, hG, hr_⟩ := hw
      replace h := h r28 hr_
      clear hr_
      have hP : va_P D vwCl ([(q7, .inl (cy 0, 4, .inl ar7))] ++ wK cy x Kc29) H := hP
      have hD : va_D A ([(q7, .inl (cy 0, 4, .inl ar7))] ++ wK cy x Kc29) := hD
      refine w_callK0 (pl := [(q7, .inl (cy 0, 4, .inl ar7))]) hP hD hS hA (va_runV (As := [.int r28]) (rest := []) ⟨hx, hb, hml, hown, hts⟩ (m_printedFor l D cy H.size x Kc29 o hG r28) (cwV 1 hts gL_sound_X8_printedFor rfl rfl rfl (by decide +kernel) ⟨Nat.le_of_ble_eq_true rfl, Nat.le_of_ble_eq_true rfl⟩) (w_preVK (pl := [(q7, .inl (cy 0, 4, .inl ar7))]) (ci := 8) hE hS hA hK hP hD rfl rfl) rfl rfl hl.1 rfl (lv_room (Nat.le_of_ble_eq_true rfl)) dL_sound_307 ⟨Nat.le_of_ble_eq_true rfl, Nat.le_of_ble_eq_true rfl⟩) (fun r31 u H locs hw hP hD hS => ?_)
      obtain ⟨Kc32, rfl, hG, hr_⟩ := hw
      replace h := h r31 hr_
      clear hr_
      have hP : va_P D vwCl ([(q7, .inl (cy 0, 4, .inl ar7))] ++ wK cy x Kc32) H := hP
      have hD : va_D A ([(q7, .inl (cy 0, 4, .inl ar7))] ++ wK cy x Kc32) := hD
      refine lv_iload_n hx hb dL_sound_310 rfl (lv_at hl 3 rfl) ?_
      refine lv_icmp_ne (tgt := 464) hx hb dL_sound_311 rfl (fun hc => ?_) (fun hc => ?_)
      · replace h := h.1 hc
        refine lv_iconst (v := 0) hx hb dL_sound_464 (by decide) ?_
        exact W.zret hx hb hr rfl (fun t ht _ => hend 0 _ _ _ (Or.inl rfl) hG h (w_tailP hP) (w_tailD hD) hS t ht) hS.2.2 dL_sound_465
      · replace h := h.2 hc
        refine lv_aload_n hx hb dL_sound_314 rfl (lv_at hl 2 rfl) ?_
        refine lv_bipush (v := 12) hx hb dL_sound_315 (by decide) ?_
        refine w_callK0 (pl := [(q7, .inl (cy 0, 4, .inl ar7))]) hP hD hS hA (va_runV (As := [.int 12]) (rest := []) ⟨hx, hb, hml, hown, hts⟩ (m_count l D cy H.size x Kc32 o hG 12) (cwV 1 hts gL_sound_X8_count rfl rfl rfl (by decide +kernel) ⟨Nat.le_of_ble_eq_true rfl, Nat.le_of_ble_eq_true rfl⟩) (w_preVK (pl := [(q7, .inl (cy 0, 4, .inl ar7))]) (ci := 8) hE hS hA hK hP hD rfl rfl) rfl rfl hl.1 rfl (lv_room (Nat.le_of_ble_eq_true rfl)) dL_sound_317 ⟨Nat.le_of_ble_eq_true rfl, Nat.le_of_ble_eq_true rfl⟩) (fun r34 u H locs hw hP hD hS => ?_)
        obtain ⟨Kc35, rfl, hG, hr_⟩ := hw
        replace h := h r34 hr_
        clear hr_
        have hP : va_P D vwCl ([(q7, .inl (cy 0, 4, .inl ar7))] ++ wK cy x Kc35) H := hP
        have hD : va_D A ([(q7, .inl (cy 0, 4, .inl ar7))] ++ wK cy x Kc35) := hD
        refine lv_iload_n hx hb dL_sound_320 rfl (lv_at hl 5 rfl) ?_
        refine lv_icmp_ne (tgt := 464) hx hb dL_sound_321 rfl (fun hc => ?_) (fun hc => ?_)
        · replace h := h.1 hc
          refine lv_iconst (v := 0) hx hb dL_sound_464 (by decide) ?_
          exact W.zret hx hb hr rfl (fun t ht _ => hend 0 _ _ _ (Or.inl rfl) hG h (w_tailP hP) (w_tailD hD) hS t ht) hS.2.2 dL_sound_465
        · replace h := h.2 hc
          refine lv_aload_n hx hb dL_sound_324 rfl (lv_at hl 2 rfl) ?_
          refine lv_iconst (v := 0) hx hb dL_sound_325 (by decide) ?_
          refine lv_iconst (v := 1) hx hb dL_sound_326 (by decide) ?_
          refine w_callK0 (pl := [(q7, .inl (cy 0, 4, .inl ar7))]) hP hD hS hA (va_runV (As := [.int 0, .int 1]) (rest := []) ⟨hx, hb, hml, hown, hts⟩ (m_account l D cy H.size x Kc35 o hG 0 1) (cwV 2 hts gL_sound_X8_account rfl rfl rfl (by decide +kernel) ⟨Nat.le_of_ble_eq_true rfl, Nat.le_of_ble_eq_true rfl⟩) (w_preVK (pl := [(q7, .inl (cy 0, 4, .inl ar7))]) (ci := 8) hE hS hA hK hP hD rfl rfl) rfl rfl hl.1 rfl (lv_room (Nat.le_of_ble_eq_true rfl)) dL_sound_327 ⟨Nat.le_of_ble_eq_true rfl, Nat.le_of_ble_eq_true rfl⟩) (fun r37 u H locs hw hP hD hS => ?_)
          obtain ⟨Kc38, rfl, hG, hr_⟩ := hw
          replace h := h r37 hr_
          clear hr_
          have hP : va_P D vwCl ([(q7, .inl (cy 0, 4, .inl ar7))] ++ wK cy x Kc38) H := hP
          have hD : va_D A ([(q7, .inl (cy 0, 4, .inl ar7))] ++ wK cy x Kc38) := hD
          refine lv_aload_n hx hb dL_sound_330 rfl (lv_at hl 2 rfl) ?_
          refine lv_iconst (v := 1) hx hb dL_sound_331 (by decide) ?_
          refine lv_iconst (v := 1) hx hb dL_sound_332 (by decide) ?_
          refine w_callK0 (pl := [(q7, .inl (cy 0, 4, .inl ar7))]) hP hD hS hA (va_runV (As := [.int 1, .int 1]) (rest := [.int r37]) ⟨hx, hb, hml, hown, hts⟩ (m_account l D cy H.size x Kc38 o hG 1 1) (cwV 2 hts gL_sound_X8_account rfl rfl rfl (by decide +kernel) ⟨Nat.le_of_ble_eq_true rfl, Nat.le_of_ble_eq_true rfl⟩) (w_preVK (pl := [(q7, .inl (cy 0, 4, .inl ar7))]) (ci := 8) hE hS hA hK hP hD rfl rfl) rfl rfl hl.1 rfl (lv_room (Nat.le_of_ble_eq_true rfl)) dL_sound_333 ⟨Nat.le_of_ble_eq_true rfl, Nat.le_of_ble_eq_true rfl⟩) (fun r40 u H locs hw hP hD hS => ?_)
          obtain ⟨Kc41, rfl, hG, hr_⟩ := hw
          replace h := h r40 hr_
          clear hr_
          have hP : va_P D vwCl ([(q7, .inl (cy 0, 4, .inl ar7))] ++ wK cy x Kc41) H := hP
          have hD : va_D A ([(q7, .inl (cy 0, 4, .inl ar7))] ++ wK cy x Kc41) := hD
          refine lv_iadd hx hb dL_sound_336 ?_
          refine lv_iload_n hx hb dL_sound_337 rfl (lv_at hl 4 rfl) ?_
          refine lv_icmp_ne (tgt := 464) hx hb dL_sound_338 rfl (fun hc => ?_) (fun hc => ?_)
          · replace h := h.1 hc
            refine lv_iconst (v := 0) hx hb dL_sound_464 (by decide) ?_
            exact W.zret hx hb hr rfl (fun t ht _ => hend 0 _ _ _ (Or.inl rfl) hG h (w_tailP hP) (w_tailD hD) hS t ht) hS.2.2 dL_sound_465
          · replace h := h.2 hc
            refine lv_aload_n hx hb dL_sound_341 rfl (lv_at hl 2 rfl) ?_
            refine lv_bipush (v := 11) hx hb dL_sound_342 (by decide) ?_
            refine w_callK0 (pl := [(q7, .inl (cy 0, 4, .inl ar7))]) hP hD hS hA (va_runV (As := [.int 11]) (rest := []) ⟨hx, hb, hml, hown, hts⟩ (m_count l D cy H.size x Kc41 o hG 11) (cwV 1 hts gL_sound_X8_count rfl rfl rfl (by decide +kernel) ⟨Nat.le_of_ble_eq_true rfl, Nat.le_of_ble_eq_true rfl⟩) (w_preVK (pl := [(q7, .inl (cy 0, 4, .inl ar7))]) (ci := 8) hE hS hA hK hP hD rfl rfl) rfl rfl hl.1 rfl (lv_room (Nat.le_of_ble_eq_true rfl)) dL_sound_344 ⟨Nat.le_of_ble_eq_true rfl, Nat.le_of_ble_eq_true rfl⟩) (fun r43 u H locs hw hP hD hS => ?_)
            obtain ⟨Kc44, rfl, hG, hr_⟩ := hw
            replace h := h r43 hr_
            clear hr_
            have hP : va_P D vwCl ([(q7, .inl (cy 0, 4, .inl ar7))] ++ wK cy x Kc44) H := hP
            have hD : va_D A ([(q7, .inl (cy 0, 4, .inl ar7))] ++ wK cy x Kc44) := hD
            refine lv_iconst (v := 1) hx hb dL_sound_347 (by decide) ?_
            refine lv_icmp_ne (tgt := 355) hx hb dL_sound_348 rfl (fun hc => ?_) (fun hc => ?_)
            · replace h := h.1 hc
              refine lv_iconst (v := 0) hx hb dL_sound_355 (by decide) ?_
              exact j356 ar7 k0 r22 0 h _ hG _ _ hP hD hS _ (lv_sub hl [2, 1, 0] rfl)
            · replace h := h.2 hc
              refine lv_iconst (v := 1) hx hb dL_sound_351 (by decide) ?_
              refine lv_goto (tgt := 356) hx hb dL_sound_352 rfl ?_
              exact j356 ar7 k0 r22 1 h _ hG _ _ hP hD hS _ (lv_sub hl [2, 1, 0] rfl)
  have j237 : ∀ (ar7 : Nat → Int32) (x1 : Int32) (x2 : Int32) (x3 : Int32) (x5 : Int32), p_L_sound_237 o ar7 x1 x2 x3 Q x5 → ∀ (K : sK), Good o K → ∀ (H : Heap) (locs : List Loc), va_P D vwCl ([(q7, .inl (cy 0, 4, .inl ar7))] ++ wK cy x K) H → va_D A ([(q7, .inl (cy 0, 4, .inl ar7))] ++ wK cy x K) → va_S A s.heap H locs → ∀ (ls : Array Slot), lv_has ls 8 [(0, .ref (x 0)), (1, .int x1), (2, .int x2), (3, .int x3), (4, .ref (q7)), (5, .int x5)] → W p l e r_L_sound s m args below meth c H locs 1 4 (MQ below Qc args s 1 4 A) (F0 m 237 ls []) := by
    intro ar7 x1 x2 x3 x5 h
    obtain ⟨I237, μ237, h0, hs237⟩ := h
    have key : ∀ (n : Nat) (x5 : Int32), I237 x5 → μ237 x5 < n → ∀ (K : sK), Good o K → ∀ (H : Heap) (locs : List Loc), va_P D vwCl ([(q7, .inl (cy 0, 4, .inl ar7))] ++ wK cy x K) H → va_D A ([(q7, .inl (cy 0, 4, .inl ar7))] ++ wK cy x K) → va_S A s.heap H locs → ∀ (ls : Array Slot), lv_has ls 8 [(0, .ref (x 0)), (1, .int x1), (2, .int x2), (3, .int x3), (4, .ref (q7)), (5, .int x5)] → W p l e r_L_sound s m args below meth c H locs 1 4 (MQ below Qc args s 1 4 A) (F0 m 237 ls []) := by
      intro n
      induction n with
      | zero => intro x5 _ h; exact absurd h (Nat.not_lt_zero _)
      | succ n ih237 =>
        intro x5 hI hn K hG H locs hP hD hS ls hl
        have h := hs237 x5 hI
        have hk237 : ∀ (x51 : Int32), (fun (x5' : Int32) => I237 x5' ∧ μ237 x5' < μ237 x5) x51 → ∀ (K : sK), Good o K → ∀ (H : Heap) (locs : List Loc), va_P D vwCl ([(q7, .inl (cy 0, 4, .inl ar7))] ++ wK cy x K) H → va_D A ([(q7, .inl (cy 0, 4, .inl ar7))] ++ wK cy x K) → va_S A s.heap H locs → ∀ (ls : Array Slot), lv_has ls 8 [(0, .ref (x 0)), (1, .int x1), (2, .int x2), (3, .int x3), (4, .ref (q7)), (5, .int x51)] → W p l e r_L_sound s m args below meth c H locs 1 4 (MQ below Qc args s 1 4 A) (F0 m 237 ls []) := by
          intro x51 hz
          exact ih237 x51 hz.1 (Nat.lt_of_lt_of_le hz.2 (Nat.le_of_lt_succ hn))
        generalize hKe : (fun (x5' : Int32) => I237 x5' ∧ μ237 x5' < μ237 x5) = K237 at h hk237
        clear hKe ih237 hn hI
        unfold q_L_sound_237 at h
        refine lv_iload hx hb dL_sound_237 (lv_at hl 5 rfl) ?_
        refine lv_iconst (v := 4) hx hb dL_sound_239 (by decide) ?_
        refine lv_icmp_ge (tgt := 264) hx hb dL_sound_240 rfl (fun hc => ?_) (fun hc => ?_)
        · replace h := h.1 hc
          refine lv_aload_n hx hb dL_sound_264 rfl (lv_at hl 0 rfl) ?_
          refine lv_iconst (v := 2) hx hb dL_sound_265 (by decide) ?_
          refine w_callK0 (pl := [(q7, .inl (cy 0, 4, .inl ar7))]) hP hD hS hA (va_runV (As := [.int 2]) (rest := []) ⟨hx, hb, hml, hown, hts⟩ (m_count l D cy H.size x K o hG 2) (cwV 1 hts gL_sound_X8_count rfl rfl rfl (by decide +kernel) ⟨Nat.le_of_ble_eq_true rfl, Nat.le_of_ble_eq_true rfl⟩) (w_preVK (pl := [(q7, .inl (cy 0, 4, .inl ar7))]) (ci := 8) hE hS hA hK hP hD rfl rfl) rfl rfl hl.1 rfl (lv_room (Nat.le_of_ble_eq_true rfl)) dL_sound_266 ⟨Nat.le_of_ble_eq_true rfl, Nat.le_of_ble_eq_true rfl⟩) (fun r46 u H locs hw hP hD hS => ?_)
          obtain ⟨Kc47, rfl, hG, hr_⟩ := hw
          replace h := h r46 hr_
          clear hr_
          have hP : va_P D vwCl ([(q7, .inl (cy 0, 4, .inl ar7))] ++ wK cy x Kc47) H := hP
          have hD : va_D A ([(q7, .inl (cy 0, 4, .inl ar7))] ++ wK cy x Kc47) := hD
          refine lv_aload_n hx hb dL_sound_269 rfl (lv_at hl 0 rfl) ?_
          refine lv_iconst (v := 3) hx hb dL_sound_270 (by decide) ?_
          refine w_callK0 (pl := [(q7, .inl (cy 0, 4, .inl ar7))]) hP hD hS hA (va_runV (As := [.int 3]) (rest := [.int r46]) ⟨hx, hb, hml, hown, hts⟩ (m_count l D cy H.size x Kc47 o hG 3) (cwV 1 hts gL_sound_X8_count rfl rfl rfl (by decide +kernel) ⟨Nat.le_of_ble_eq_true rfl, Nat.le_of_ble_eq_true rfl⟩) (w_preVK (pl := [(q7, .inl (cy 0, 4, .inl ar7))]) (ci := 8) hE hS hA hK hP hD rfl rfl) rfl rfl hl.1 rfl (lv_room (Nat.le_of_ble_eq_true rfl)) dL_sound_271 ⟨Nat.le_of_ble_eq_true rfl, Nat.le_of_ble_eq_true rfl⟩) (fun r49 u H locs hw hP hD hS => ?_)
          obtain ⟨Kc50, rfl, hG, hr_⟩ := hw
          replace h := h r49 hr_
          clear hr_
          have hP : va_P D vwCl ([(q7, .inl (cy 0, 4, .inl ar7))] ++ wK cy x Kc50) H := hP
          have hD : va_D A ([(q7, .inl (cy 0, 4, .inl ar7))] ++ wK cy x Kc50) := hD
          refine lv_icmp_ne (tgt := 281) hx hb dL_sound_274 rfl (fun hc => ?_) (fun hc => ?_)
          · replace h := h.1 hc
            refine lv_iconst (v := 0) hx hb dL_sound_281 (by decide) ?_
            exact j282 ar7 x1 x2 x3 0 h _ hG _ _ hP hD hS _ (lv_sub hl [0, 1, 2, 3] rfl)
          · replace h := h.2 hc
            refine lv_iconst (v := 1) hx hb dL_sound_277 (by decide) ?_
            refine lv_goto (tgt := 282) hx hb dL_sound_278 rfl ?_
            exact j282 ar7 x1 x2 x3 1 h _ hG _ _ hP hD hS _ (lv_sub hl [0, 1, 2, 3] rfl)
        · replace h := h.2 hc
          refine lv_aload hx hb dL_sound_243 (lv_at hl 4 rfl) ?_
          refine lv_iload hx hb dL_sound_245 (lv_at hl 5 rfl) ?_
          obtain ⟨hi, h⟩ := h
          refine va_iald hx hb hK hP 0 0 rfl rfl hi dL_sound_247 ?_
          refine lv_aload_n hx hb dL_sound_248 rfl (lv_at hl 0 rfl) ?_
          refine lv_iconst (v := 2) hx hb dL_sound_249 (by decide) ?_
          refine w_callK0 (pl := [(q7, .inl (cy 0, 4, .inl ar7))]) hP hD hS hA (va_runV (As := [.int 2]) (rest := [.int (ar7 x5.toNatClampNeg)]) ⟨hx, hb, hml, hown, hts⟩ (m_card l D cy H.size x K o hG 2) (cwV 1 hts gL_sound_X8_card rfl rfl rfl (by decide +kernel) ⟨Nat.le_of_ble_eq_true rfl, Nat.le_of_ble_eq_true rfl⟩) (w_preVK (pl := [(q7, .inl (cy 0, 4, .inl ar7))]) (ci := 8) hE hS hA hK hP hD rfl rfl) rfl rfl hl.1 rfl (lv_room (Nat.le_of_ble_eq_true rfl)) dL_sound_250 ⟨Nat.le_of_ble_eq_true rfl, Nat.le_of_ble_eq_true rfl⟩) (fun r52 u H locs hw hP hD hS => ?_)
          obtain ⟨Kc53, rfl, hG, hr_⟩ := hw
          replace h := h r52 hr_
          clear hr_
          have hP : va_P D vwCl ([(q7, .inl (cy 0, 4, .inl ar7))] ++ wK cy x Kc53) H := hP
          have hD : va_D A ([(q7, .inl (cy 0, 4, .inl ar7))] ++ wK cy x Kc53) := hD
          refine lv_icmp_le (tgt := 258) hx hb dL_sound_253 rfl (fun hc => ?_) (fun hc => ?_)
          · replace h := h.1 hc
            refine lv_iinc (k := 5) (v := (x5 + 1)) (lv' := [(5, .int (x5 + 1)), (0, .ref (x 0)), (1, .int x1), (2, .int x2), (3, .int x3), (4, .ref (q7))]) hx hb dL_sound_258 hl rfl rfl (by decide) rfl (fun ls hl => ?_)
            refine lv_goto (tgt := 237) hx hb dL_sound_261 rfl ?_
            exact hk237 ((x5 + 1)) h _ hG _ _ hP hD hS _ (lv_sub hl [1, 2, 3, 4, 5, 0] rfl)
          · replace h := h.2 hc
            refine lv_iconst (v := 0) hx hb dL_sound_256 (by decide) ?_
            exact W.zret hx hb hr rfl (fun t ht _ => hend 0 _ _ _ (Or.inl rfl) hG h (w_tailP hP) (w_tailD hD) hS t ht) hS.2.2 dL_sound_257
    exact key _ x5 h0 (Nat.lt_succ_self _)
  have j14 : ∀ (ar7 : Nat → Int32) (x1 : Int32) (x2 : Int32) (x3 : Int32) (x5 : Int32), p_L_sound_14 o Q ar7 x1 x2 x3 x5 → ∀ (K : sK), Good o K → ∀ (H : Heap) (locs : List Loc), va_P D vwCl ([(q7, .inl (cy 0, 4, .inl ar7))] ++ wK cy x K) H → va_D A ([(q7, .inl (cy 0, 4, .inl ar7))] ++ wK cy x K) → va_S A s.heap H locs → ∀ (ls : Array Slot), lv_has ls 8 [(0, .ref (x 0)), (1, .int x1), (2, .int x2), (3, .int x3), (4, .ref (q7)), (5, .int x5)] → W p l e r_L_sound s m args below meth c H locs 1 4 (MQ below Qc args s 1 4 A) (F0 m 14 ls []) := by
    intro ar7 x1 x2 x3 x5 h
    obtain ⟨I14, μ14, h0, hs14⟩ := h
    have key : ∀ (n : Nat) (ar7 : Nat → Int32) (x1 : Int32) (x2 : Int32) (x3 : Int32) (x5 : Int32), I14 ar7 x1 x2 x3 x5 → μ14 ar7 x1 x2 x3 x5 < n → ∀ (K : sK), Good o K → ∀ (H : Heap) (locs : List Loc), va_P D vwCl ([(q7, .inl (cy 0, 4, .inl ar7))] ++ wK cy x K) H → va_D A ([(q7, .inl (cy 0, 4, .inl ar7))] ++ wK cy x K) → va_S A s.heap H locs → ∀ (ls : Array Slot), lv_has ls 8 [(0, .ref (x 0)), (1, .int x1), (2, .int x2), (3, .int x3), (4, .ref (q7)), (5, .int x5)] → W p l e r_L_sound s m args below meth c H locs 1 4 (MQ below Qc args s 1 4 A) (F0 m 14 ls []) := by
      intro n
      induction n with
      | zero => intro ar7 x1 x2 x3 x5 _ h; exact absurd h (Nat.not_lt_zero _)
      | succ n ih14 =>
        intro ar7 x1 x2 x3 x5 hI hn K hG H locs hP hD hS ls hl
        have h := hs14 ar7 x1 x2 x3 x5 hI
        have hk14 : ∀ (ar71 : Nat → Int32) (x11 : Int32) (x21 : Int32) (x31 : Int32) (x51 : Int32), (fun (ar7' : Nat → Int32) (x1' : Int32) (x2' : Int32) (x3' : Int32) (x5' : Int32) => I14 ar7' x1' x2' x3' x5' ∧ μ14 ar7' x1' x2' x3' x5' < μ14 ar7 x1 x2 x3 x5) ar71 x11 x21 x31 x51 → ∀ (K : sK), Good o K → ∀ (H : Heap) (locs : List Loc), va_P D vwCl ([(q7, .inl (cy 0, 4, .inl ar71))] ++ wK cy x K) H → va_D A ([(q7, .inl (cy 0, 4, .inl ar71))] ++ wK cy x K) → va_S A s.heap H locs → ∀ (ls : Array Slot), lv_has ls 8 [(0, .ref (x 0)), (1, .int x11), (2, .int x21), (3, .int x31), (4, .ref (q7)), (5, .int x51)] → W p l e r_L_sound s m args below meth c H locs 1 4 (MQ below Qc args s 1 4 A) (F0 m 14 ls []) := by
          intro ar71 x11 x21 x31 x51 hz
          exact ih14 ar71 x11 x21 x31 x51 hz.1 (Nat.lt_of_lt_of_le hz.2 (Nat.le_of_lt_succ hn))
        generalize hKe : (fun (ar7' : Nat → Int32) (x1' : Int32) (x2' : Int32) (x3' : Int32) (x5' : Int32) => I14 ar7' x1' x2' x3' x5' ∧ μ14 ar7' x1' x2' x3' x5' < μ14 ar7 x1 x2 x3 x5) = K14 at h hk14
        clear hKe ih14 hn hI
        have j228 : ∀ (ar7 : Nat → Int32) (x1 : Int32) (x2 : Int32) (x3 : Int32) (x5 : Int32), p_L_sound_228 ar7 x1 x2 x3 x5 K14 → ∀ (K : sK), Good o K → ∀ (H : Heap) (locs : List Loc), va_P D vwCl ([(q7, .inl (cy 0, 4, .inl ar7))] ++ wK cy x K) H → va_D A ([(q7, .inl (cy 0, 4, .inl ar7))] ++ wK cy x K) → va_S A s.heap H locs → ∀ (ls : Array Slot), lv_has ls 8 [(0, .ref (x 0)), (1, .int x1), (2, .int x2), (3, .int x3), (4, .ref (q7)), (5, .int x5)] → W p l e r_L_sound s m args below meth c H locs 1 4 (MQ below Qc args s 1 4 A) (F0 m 228 ls []) := by
          intro ar7 x1 x2 x3 x5 h K hG H locs hP hD hS ls hl
          unfold p_L_sound_228 at h
          refine lv_iinc (k := 5) (v := (x5 + 1)) (lv' := [(5, .int (x5 + 1)), (0, .ref (x 0)), (1, .int x1), (2, .int x2), (3, .int x3), (4, .ref (q7))]) hx hb dL_sound_228 hl rfl rfl (by decide) rfl (fun ls hl => ?_)
          refine lv_goto (tgt := 14) hx hb dL_sound_231 rfl ?_
          exact hk14 ar7 x1 x2 x3 ((x5 + 1)) h _ hG _ _ hP hD hS _ (lv_sub hl [1, 2, 3, 4, 5, 0] rfl)
        have j191 : ∀ (ar7 : Nat → Int32) (x1 : Int32) (x2 : Int32) (x3 : Int32) (x5 : Int32) (x6 : Int32) (x7 : Int32) (k0 : Int32) (k1 : Int32), p_L_sound_191 o ar7 x1 x2 x3 x5 x6 x7 k0 k1 K14 Q → ∀ (K : sK), Good o K → ∀ (H : Heap) (locs : List Loc), va_P D vwCl ([(q7, .inl (cy 0, 4, .inl ar7))] ++ wK cy x K) H → va_D A ([(q7, .inl (cy 0, 4, .inl ar7))] ++ wK cy x K) → va_S A s.heap H locs → ∀ (ls : Array Slot), lv_has ls 8 [(0, .ref (x 0)), (1, .int x1), (2, .int x2), (3, .int x3), (4, .ref (q7)), (5, .int x5), (6, .int x6), (7, .int x7)] → W p l e r_L_sound s m args below meth c H locs 1 4 (MQ below Qc args s 1 4 A) (F0 m 191 ls [.int k1, .int k0]) := by
          intro ar7 x1 x2 x3 x5 x6 x7 k0 k1 h K hG H locs hP hD hS ls hl
          unfold p_L_sound_191 at h
          refine lv_icmp_ne (tgt := 226) hx hb dL_sound_191 rfl (fun hc => ?_) (fun hc => ?_)
          · replace h := h.1 hc
            refine lv_iconst (v := 0) hx hb dL_sound_226 (by decide) ?_
            exact W.zret hx hb hr rfl (fun t ht _ => hend 0 _ _ _ (Or.inl rfl) hG h (w_tailP hP) (w_tailD hD) hS t ht) hS.2.2 dL_sound_227
          · replace h := h.2 hc
            refine lv_iload hx hb dL_sound_194 (lv_at hl 6 rfl) ?_
            refine lv_if_le (tgt := 209) hx hb dL_sound_196 rfl (fun hc => ?_) (fun hc => ?_)
            · replace h := h.1 hc
              refine lv_iload hx hb dL_sound_209 (lv_at hl 7 rfl) ?_
              refine lv_bipush (v := (-99)) hx hb dL_sound_211 (by decide) ?_
              refine lv_icmp_eq (tgt := 228) hx hb dL_sound_213 rfl (fun hc => ?_) (fun hc => ?_)
              · replace h := h.1 hc
                exact j228 ar7 x1 x2 x3 x5 h _ hG _ _ hP hD hS _ (lv_sub hl [0, 1, 2, 3, 4, 5] rfl)
              · replace h := h.2 hc
                refine lv_aload_n hx hb dL_sound_216 rfl (lv_at hl 0 rfl) ?_
                refine lv_iload hx hb dL_sound_217 (lv_at hl 7 rfl) ?_
                refine w_callK0 (pl := [(q7, .inl (cy 0, 4, .inl ar7))]) hP hD hS hA (va_runV (As := [.int x7]) (rest := []) ⟨hx, hb, hml, hown, hts⟩ (m_why l D cy H.size x K o hG x7) (cwV 1 hts gL_sound_X8_why rfl rfl rfl (by decide +kernel) ⟨Nat.le_of_ble_eq_true rfl, Nat.le_of_ble_eq_true rfl⟩) (w_preVK (pl := [(q7, .inl (cy 0, 4, .inl ar7))]) (ci := 8) hE hS hA hK hP hD rfl rfl) rfl rfl hl.1 rfl (lv_room (Nat.le_of_ble_eq_true rfl)) dL_sound_219 ⟨Nat.le_of_ble_eq_true rfl, Nat.le_of_ble_eq_true rfl⟩) (fun r55 u H locs hw hP hD hS => ?_)
                obtain ⟨Kc56, rfl, hG, hr_⟩ := hw
                replace h := h r55 hr_
                clear hr_
                have hP : va_P D vwCl ([(q7, .inl (cy 0, 4, .inl ar7))] ++ wK cy x Kc56) H := hP
                have hD : va_D A ([(q7, .inl (cy 0, 4, .inl ar7))] ++ wK cy x Kc56) := hD
                refine lv_iconst (v := 4) hx hb dL_sound_222 (by decide) ?_
                refine lv_icmp_eq (tgt := 228) hx hb dL_sound_223 rfl (fun hc => ?_) (fun hc => ?_)
                · replace h := h.1 hc
                  exact j228 ar7 x1 x2 x3 x5 h _ hG _ _ hP hD hS _ (lv_sub hl [0, 1, 2, 3, 4, 5] rfl)
                · replace h := h.2 hc
                  refine lv_iconst (v := 0) hx hb dL_sound_226 (by decide) ?_
                  exact W.zret hx hb hr rfl (fun t ht _ => hend 0 _ _ _ (Or.inl rfl) hG h (w_tailP hP) (w_tailD hD) hS t ht) hS.2.2 dL_sound_227
            · replace h := h.2 hc
              refine lv_iload hx hb dL_sound_199 (lv_at hl 7 rfl) ?_
              refine lv_bipush (v := (-2)) hx hb dL_sound_201 (by decide) ?_
              refine lv_icmp_eq (tgt := 228) hx hb dL_sound_203 rfl (fun hc => ?_) (fun hc => ?_)
              · replace h := h.1 hc
                exact j228 ar7 x1 x2 x3 x5 h _ hG _ _ hP hD hS _ (lv_sub hl [0, 1, 2, 3, 4, 5] rfl)
              · replace h := h.2 hc
                refine lv_goto (tgt := 226) hx hb dL_sound_206 rfl ?_
                refine lv_iconst (v := 0) hx hb dL_sound_226 (by decide) ?_
                exact W.zret hx hb hr rfl (fun t ht _ => hend 0 _ _ _ (Or.inl rfl) hG h (w_tailP hP) (w_tailD hD) hS t ht) hS.2.2 dL_sound_227
        have j175 : ∀ (ar7 : Nat → Int32) (x1 : Int32) (x2 : Int32) (x3 : Int32) (x5 : Int32) (x6 : Int32) (x7 : Int32) (k0 : Int32), p_L_sound_175 o ar7 x1 x2 x3 x5 x6 x7 k0 K14 Q → ∀ (K : sK), Good o K → ∀ (H : Heap) (locs : List Loc), va_P D vwCl ([(q7, .inl (cy 0, 4, .inl ar7))] ++ wK cy x K) H → va_D A ([(q7, .inl (cy 0, 4, .inl ar7))] ++ wK cy x K) → va_S A s.heap H locs → ∀ (ls : Array Slot), lv_has ls 8 [(0, .ref (x 0)), (1, .int x1), (2, .int x2), (3, .int x3), (4, .ref (q7)), (5, .int x5), (6, .int x6), (7, .int x7)] → W p l e r_L_sound s m args below meth c H locs 1 4 (MQ below Qc args s 1 4 A) (F0 m 175 ls [.int k0]) := by
          intro ar7 x1 x2 x3 x5 x6 x7 k0 h K hG H locs hP hD hS ls hl
          unfold p_L_sound_175 at h
          refine lv_aload_n hx hb dL_sound_175 rfl (lv_at hl 0 rfl) ?_
          refine lv_iload hx hb dL_sound_176 (lv_at hl 5 rfl) ?_
          refine lv_bipush (v := 6) hx hb dL_sound_178 (by decide) ?_
          refine w_callK0 (pl := [(q7, .inl (cy 0, 4, .inl ar7))]) hP hD hS hA (va_runV (As := [.int x5, .int 6]) (rest := [.int k0]) ⟨hx, hb, hml, hown, hts⟩ (m_dish l D cy H.size x K o hG x5 6) (cwV 2 hts gL_sound_X8_dish rfl rfl rfl (by decide +kernel) ⟨Nat.le_of_ble_eq_true rfl, Nat.le_of_ble_eq_true rfl⟩) (w_preVK (pl := [(q7, .inl (cy 0, 4, .inl ar7))]) (ci := 8) hE hS hA hK hP hD rfl rfl) rfl rfl hl.1 rfl (lv_room (Nat.le_of_ble_eq_true rfl)) dL_sound_180 ⟨Nat.le_of_ble_eq_true rfl, Nat.le_of_ble_eq_true rfl⟩) (fun r58 u H locs hw hP hD hS => ?_)
          obtain ⟨Kc59, rfl, hG, hr_⟩ := hw
          replace h := h r58 hr_
          clear hr_
          have hP : va_P D vwCl ([(q7, .inl (cy 0, 4, .inl ar7))] ++ wK cy x Kc59) H := hP
          have hD : va_D A ([(q7, .inl (cy 0, 4, .inl ar7))] ++ wK cy x Kc59) := hD
          refine lv_if_ne (tgt := 190) hx hb dL_sound_183 rfl (fun hc => ?_) (fun hc => ?_)
          · replace h := h.1 hc
            refine lv_iconst (v := 0) hx hb dL_sound_190 (by decide) ?_
            exact j191 ar7 x1 x2 x3 x5 x6 x7 k0 0 h _ hG _ _ hP hD hS _ (lv_sub hl [0, 1, 2, 3, 4, 5, 6, 7] rfl)
          · replace h := h.2 hc
            refine lv_iconst (v := 1) hx hb dL_sound_186 (by decide) ?_
            refine lv_goto (tgt := 191) hx hb dL_sound_187 rfl ?_
            exact j191 ar7 x1 x2 x3 x5 x6 x7 k0 1 h _ hG _ _ hP hD hS _ (lv_sub hl [0, 1, 2, 3, 4, 5, 6, 7] rfl)
        have j161 : ∀ (ar7 : Nat → Int32) (x1 : Int32) (x2 : Int32) (x3 : Int32) (x5 : Int32) (x6 : Int32) (x7 : Int32) (k0 : Int32) (k1 : Int32), p_L_sound_161 o ar7 x1 x2 x3 x5 x6 x7 k0 k1 K14 Q → ∀ (K : sK), Good o K → ∀ (H : Heap) (locs : List Loc), va_P D vwCl ([(q7, .inl (cy 0, 4, .inl ar7))] ++ wK cy x K) H → va_D A ([(q7, .inl (cy 0, 4, .inl ar7))] ++ wK cy x K) → va_S A s.heap H locs → ∀ (ls : Array Slot), lv_has ls 8 [(0, .ref (x 0)), (1, .int x1), (2, .int x2), (3, .int x3), (4, .ref (q7)), (5, .int x5), (6, .int x6), (7, .int x7)] → W p l e r_L_sound s m args below meth c H locs 1 4 (MQ below Qc args s 1 4 A) (F0 m 161 ls [.int k1, .int k0]) := by
          intro ar7 x1 x2 x3 x5 x6 x7 k0 k1 h K hG H locs hP hD hS ls hl
          unfold p_L_sound_161 at h
          refine lv_icmp_ne (tgt := 226) hx hb dL_sound_161 rfl (fun hc => ?_) (fun hc => ?_)
          · replace h := h.1 hc
            refine lv_iconst (v := 0) hx hb dL_sound_226 (by decide) ?_
            exact W.zret hx hb hr rfl (fun t ht _ => hend 0 _ _ _ (Or.inl rfl) hG h (w_tailP hP) (w_tailD hD) hS t ht) hS.2.2 dL_sound_227
          · replace h := h.2 hc
            refine lv_iload hx hb dL_sound_164 (lv_at hl 6 rfl) ?_
            refine lv_iconst (v := 1) hx hb dL_sound_166 (by decide) ?_
            refine lv_icmp_ne (tgt := 174) hx hb dL_sound_167 rfl (fun hc => ?_) (fun hc => ?_)
            · replace h := h.1 hc
              refine lv_iconst (v := 0) hx hb dL_sound_174 (by decide) ?_
              exact j175 ar7 x1 x2 x3 x5 x6 x7 0 h _ hG _ _ hP hD hS _ (lv_sub hl [0, 1, 2, 3, 4, 5, 6, 7] rfl)
            · replace h := h.2 hc
              refine lv_iconst (v := 1) hx hb dL_sound_170 (by decide) ?_
              refine lv_goto (tgt := 175) hx hb dL_sound_171 rfl ?_
              exact j175 ar7 x1 x2 x3 x5 x6 x7 1 h _ hG _ _ hP hD hS _ (lv_sub hl [0, 1, 2, 3, 4, 5, 6, 7] rfl)
        have j145 : ∀ (ar7 : Nat → Int32) (x1 : Int32) (x2 : Int32) (x3 : Int32) (x5 : Int32) (x6 : Int32) (x7 : Int32) (k0 : Int32), p_L_sound_145 o ar7 x1 x2 x3 x5 x6 x7 k0 K14 Q → ∀ (K : sK), Good o K → ∀ (H : Heap) (locs : List Loc), va_P D vwCl ([(q7, .inl (cy 0, 4, .inl ar7))] ++ wK cy x K) H → va_D A ([(q7, .inl (cy 0, 4, .inl ar7))] ++ wK cy x K) → va_S A s.heap H locs → ∀ (ls : Array Slot), lv_has ls 8 [(0, .ref (x 0)), (1, .int x1), (2, .int x2), (3, .int x3), (4, .ref (q7)), (5, .int x5), (6, .int x6), (7, .int x7)] → W p l e r_L_sound s m args below meth c H locs 1 4 (MQ below Qc args s 1 4 A) (F0 m 145 ls [.int k0]) := by
          intro ar7 x1 x2 x3 x5 x6 x7 k0 h K hG H locs hP hD hS ls hl
          unfold p_L_sound_145 at h
          refine lv_aload_n hx hb dL_sound_145 rfl (lv_at hl 0 rfl) ?_
          refine lv_iload hx hb dL_sound_146 (lv_at hl 5 rfl) ?_
          refine lv_bipush (v := 8) hx hb dL_sound_148 (by decide) ?_
          refine w_callK0 (pl := [(q7, .inl (cy 0, 4, .inl ar7))]) hP hD hS hA (va_runV (As := [.int x5, .int 8]) (rest := [.int k0]) ⟨hx, hb, hml, hown, hts⟩ (m_dish l D cy H.size x K o hG x5 8) (cwV 2 hts gL_sound_X8_dish rfl rfl rfl (by decide +kernel) ⟨Nat.le_of_ble_eq_true rfl, Nat.le_of_ble_eq_true rfl⟩) (w_preVK (pl := [(q7, .inl (cy 0, 4, .inl ar7))]) (ci := 8) hE hS hA hK hP hD rfl rfl) rfl rfl hl.1 rfl (lv_room (Nat.le_of_ble_eq_true rfl)) dL_sound_150 ⟨Nat.le_of_ble_eq_true rfl, Nat.le_of_ble_eq_true rfl⟩) (fun r61 u H locs hw hP hD hS => ?_)
          obtain ⟨Kc62, rfl, hG, hr_⟩ := hw
          replace h := h r61 hr_
          clear hr_
          have hP : va_P D vwCl ([(q7, .inl (cy 0, 4, .inl ar7))] ++ wK cy x Kc62) H := hP
          have hD : va_D A ([(q7, .inl (cy 0, 4, .inl ar7))] ++ wK cy x Kc62) := hD
          refine lv_if_lt (tgt := 160) hx hb dL_sound_153 rfl (fun hc => ?_) (fun hc => ?_)
          · replace h := h.1 hc
            refine lv_iconst (v := 0) hx hb dL_sound_160 (by decide) ?_
            exact j161 ar7 x1 x2 x3 x5 x6 x7 k0 0 h _ hG _ _ hP hD hS _ (lv_sub hl [0, 1, 2, 3, 4, 5, 6, 7] rfl)
          · replace h := h.2 hc
            refine lv_iconst (v := 1) hx hb dL_sound_156 (by decide) ?_
            refine lv_goto (tgt := 161) hx hb dL_sound_157 rfl ?_
            exact j161 ar7 x1 x2 x3 x5 x6 x7 k0 1 h _ hG _ _ hP hD hS _ (lv_sub hl [0, 1, 2, 3, 4, 5, 6, 7] rfl)
        have j132 : ∀ (ar7 : Nat → Int32) (x1 : Int32) (x2 : Int32) (x3 : Int32) (x5 : Int32) (x6 : Int32) (x7 : Int32) (k0 : Int32) (k1 : Int32), p_L_sound_132 o ar7 x1 x2 x3 x5 x6 x7 k0 k1 K14 Q → ∀ (K : sK), Good o K → ∀ (H : Heap) (locs : List Loc), va_P D vwCl ([(q7, .inl (cy 0, 4, .inl ar7))] ++ wK cy x K) H → va_D A ([(q7, .inl (cy 0, 4, .inl ar7))] ++ wK cy x K) → va_S A s.heap H locs → ∀ (ls : Array Slot), lv_has ls 8 [(0, .ref (x 0)), (1, .int x1), (2, .int x2), (3, .int x3), (4, .ref (q7)), (5, .int x5), (6, .int x6), (7, .int x7)] → W p l e r_L_sound s m args below meth c H locs 1 4 (MQ below Qc args s 1 4 A) (F0 m 132 ls [.int k1, .int k0]) := by
          intro ar7 x1 x2 x3 x5 x6 x7 k0 k1 h K hG H locs hP hD hS ls hl
          unfold p_L_sound_132 at h
          refine lv_icmp_ne (tgt := 226) hx hb dL_sound_132 rfl (fun hc => ?_) (fun hc => ?_)
          · replace h := h.1 hc
            refine lv_iconst (v := 0) hx hb dL_sound_226 (by decide) ?_
            exact W.zret hx hb hr rfl (fun t ht _ => hend 0 _ _ _ (Or.inl rfl) hG h (w_tailP hP) (w_tailD hD) hS t ht) hS.2.2 dL_sound_227
          · replace h := h.2 hc
            refine lv_iload hx hb dL_sound_135 (lv_at hl 6 rfl) ?_
            refine lv_if_ne (tgt := 144) hx hb dL_sound_137 rfl (fun hc => ?_) (fun hc => ?_)
            · replace h := h.1 hc
              refine lv_iconst (v := 0) hx hb dL_sound_144 (by decide) ?_
              exact j145 ar7 x1 x2 x3 x5 x6 x7 0 h _ hG _ _ hP hD hS _ (lv_sub hl [0, 1, 2, 3, 4, 5, 6, 7] rfl)
            · replace h := h.2 hc
              refine lv_iconst (v := 1) hx hb dL_sound_140 (by decide) ?_
              refine lv_goto (tgt := 145) hx hb dL_sound_141 rfl ?_
              exact j145 ar7 x1 x2 x3 x5 x6 x7 1 h _ hG _ _ hP hD hS _ (lv_sub hl [0, 1, 2, 3, 4, 5, 6, 7] rfl)
        have j116 : ∀ (ar7 : Nat → Int32) (x1 : Int32) (x2 : Int32) (x3 : Int32) (x5 : Int32) (x6 : Int32) (x7 : Int32) (k0 : Int32), p_L_sound_116 o ar7 x1 x2 x3 x5 x6 x7 k0 K14 Q → ∀ (K : sK), Good o K → ∀ (H : Heap) (locs : List Loc), va_P D vwCl ([(q7, .inl (cy 0, 4, .inl ar7))] ++ wK cy x K) H → va_D A ([(q7, .inl (cy 0, 4, .inl ar7))] ++ wK cy x K) → va_S A s.heap H locs → ∀ (ls : Array Slot), lv_has ls 8 [(0, .ref (x 0)), (1, .int x1), (2, .int x2), (3, .int x3), (4, .ref (q7)), (5, .int x5), (6, .int x6), (7, .int x7)] → W p l e r_L_sound s m args below meth c H locs 1 4 (MQ below Qc args s 1 4 A) (F0 m 116 ls [.int k0]) := by
          intro ar7 x1 x2 x3 x5 x6 x7 k0 h K hG H locs hP hD hS ls hl
          unfold p_L_sound_116 at h
          refine lv_aload_n hx hb dL_sound_116 rfl (lv_at hl 0 rfl) ?_
          refine lv_iload hx hb dL_sound_117 (lv_at hl 5 rfl) ?_
          refine lv_bipush (v := 7) hx hb dL_sound_119 (by decide) ?_
          refine w_callK0 (pl := [(q7, .inl (cy 0, 4, .inl ar7))]) hP hD hS hA (va_runV (As := [.int x5, .int 7]) (rest := [.int k0]) ⟨hx, hb, hml, hown, hts⟩ (m_dish l D cy H.size x K o hG x5 7) (cwV 2 hts gL_sound_X8_dish rfl rfl rfl (by decide +kernel) ⟨Nat.le_of_ble_eq_true rfl, Nat.le_of_ble_eq_true rfl⟩) (w_preVK (pl := [(q7, .inl (cy 0, 4, .inl ar7))]) (ci := 8) hE hS hA hK hP hD rfl rfl) rfl rfl hl.1 rfl (lv_room (Nat.le_of_ble_eq_true rfl)) dL_sound_121 ⟨Nat.le_of_ble_eq_true rfl, Nat.le_of_ble_eq_true rfl⟩) (fun r64 u H locs hw hP hD hS => ?_)
          obtain ⟨Kc65, rfl, hG, hr_⟩ := hw
          replace h := h r64 hr_
          clear hr_
          have hP : va_P D vwCl ([(q7, .inl (cy 0, 4, .inl ar7))] ++ wK cy x Kc65) H := hP
          have hD : va_D A ([(q7, .inl (cy 0, 4, .inl ar7))] ++ wK cy x Kc65) := hD
          refine lv_if_le (tgt := 131) hx hb dL_sound_124 rfl (fun hc => ?_) (fun hc => ?_)
          · replace h := h.1 hc
            refine lv_iconst (v := 0) hx hb dL_sound_131 (by decide) ?_
            exact j132 ar7 x1 x2 x3 x5 x6 x7 k0 0 h _ hG _ _ hP hD hS _ (lv_sub hl [0, 1, 2, 3, 4, 5, 6, 7] rfl)
          · replace h := h.2 hc
            refine lv_iconst (v := 1) hx hb dL_sound_127 (by decide) ?_
            refine lv_goto (tgt := 132) hx hb dL_sound_128 rfl ?_
            exact j132 ar7 x1 x2 x3 x5 x6 x7 k0 1 h _ hG _ _ hP hD hS _ (lv_sub hl [0, 1, 2, 3, 4, 5, 6, 7] rfl)
        have j104 : ∀ (ar7 : Nat → Int32) (x1 : Int32) (x2 : Int32) (x3 : Int32) (x5 : Int32) (x6 : Int32) (x7 : Int32) (k1 : Int32) (k2 : Int32) (k3 : Int32), p_L_sound_104 o ar7 x1 x2 x3 x5 x6 x7 k1 k2 k3 K14 Q → ∀ (K : sK), Good o K → ∀ (H : Heap) (locs : List Loc), va_P D vwCl ([(q7, .inl (cy 0, 4, .inl ar7))] ++ wK cy x K) H → va_D A ([(q7, .inl (cy 0, 4, .inl ar7))] ++ wK cy x K) → va_S A s.heap H locs → ∀ (ls : Array Slot), lv_has ls 8 [(0, .ref (x 0)), (1, .int x1), (2, .int x2), (3, .int x3), (4, .ref (q7)), (5, .int x5), (6, .int x6), (7, .int x7)] → W p l e r_L_sound s m args below meth c H locs 1 4 (MQ below Qc args s 1 4 A) (F0 m 104 ls [.int k3, .int k2, .int k1, .ref (q7)]) := by
          intro ar7 x1 x2 x3 x5 x6 x7 k1 k2 k3 h K hG H locs hP hD hS ls hl
          unfold p_L_sound_104 at h
          refine lv_iadd hx hb dL_sound_104 ?_
          obtain ⟨hi, h⟩ := h
          refine va_iast hx hb hK hP hD hS 0 0 rfl rfl hi dL_sound_105 (fun H locs hP hD hS => ?_)
          have hP : va_P D vwCl ([(q7, .inl (cy 0, 4, .inl ((upd ar7 k1.toNatClampNeg ((k2 + k3))))))] ++ wK cy x K) H := hP
          have hD : va_D A ([(q7, .inl (cy 0, 4, .inl ((upd ar7 k1.toNatClampNeg ((k2 + k3))))))] ++ wK cy x K) := hD
          refine lv_iload hx hb dL_sound_106 (lv_at hl 6 rfl) ?_
          refine lv_if_ne (tgt := 115) hx hb dL_sound_108 rfl (fun hc => ?_) (fun hc => ?_)
          · replace h := h.1 hc
            refine lv_iconst (v := 0) hx hb dL_sound_115 (by decide) ?_
            exact j116 ((upd ar7 k1.toNatClampNeg ((k2 + k3)))) x1 x2 x3 x5 x6 x7 0 h _ hG _ _ hP hD hS _ (lv_sub hl [0, 1, 2, 3, 4, 5, 6, 7] rfl)
          · replace h := h.2 hc
            refine lv_iconst (v := 1) hx hb dL_sound_111 (by decide) ?_
            refine lv_goto (tgt := 116) hx hb dL_sound_112 rfl ?_
            exact j116 ((upd ar7 k1.toNatClampNeg ((k2 + k3)))) x1 x2 x3 x5 x6 x7 1 h _ hG _ _ hP hD hS _ (lv_sub hl [0, 1, 2, 3, 4, 5, 6, 7] rfl)
        have j70 : ∀ (ar7 : Nat → Int32) (x1 : Int32) (x2 : Int32) (x5 : Int32) (x6 : Int32) (x7 : Int32) (k0 : Int32) (k1 : Int32), p_L_sound_70 o ar7 x1 x2 x5 x6 x7 k0 k1 K14 Q → ∀ (K : sK), Good o K → ∀ (H : Heap) (locs : List Loc), va_P D vwCl ([(q7, .inl (cy 0, 4, .inl ar7))] ++ wK cy x K) H → va_D A ([(q7, .inl (cy 0, 4, .inl ar7))] ++ wK cy x K) → va_S A s.heap H locs → ∀ (ls : Array Slot), lv_has ls 8 [(0, .ref (x 0)), (1, .int x1), (2, .int x2), (4, .ref (q7)), (5, .int x5), (6, .int x6), (7, .int x7)] → W p l e r_L_sound s m args below meth c H locs 1 4 (MQ below Qc args s 1 4 A) (F0 m 70 ls [.int k1, .int k0]) := by
          intro ar7 x1 x2 x5 x6 x7 k0 k1 h K hG H locs hP hD hS ls hl
          unfold p_L_sound_70 at h
          refine lv_iadd hx hb dL_sound_70 ?_
          refine lv_istore_n (lv' := [(3, .int (k0 + k1)), (0, .ref (x 0)), (1, .int x1), (2, .int x2), (4, .ref (q7)), (5, .int x5), (6, .int x6), (7, .int x7)]) hx hb dL_sound_71 rfl hl (by decide) rfl (fun ls hl => ?_)
          refine lv_iload_n hx hb dL_sound_72 rfl (lv_at hl 3 rfl) ?_
          refine lv_aload_n hx hb dL_sound_73 rfl (lv_at hl 1 rfl) ?_
          refine lv_iload hx hb dL_sound_74 (lv_at hl 5 rfl) ?_
          refine lv_bipush (v := 7) hx hb dL_sound_76 (by decide) ?_
          refine w_callK0 (pl := [(q7, .inl (cy 0, 4, .inl ar7))]) hP hD hS hA (va_runV (As := [.int x5, .int 7]) (rest := [.int x2]) ⟨hx, hb, hml, hown, hts⟩ (m_dish l D cy H.size x K o hG x5 7) (cwV 2 hts gL_sound_X8_dish rfl rfl rfl (by decide +kernel) ⟨Nat.le_of_ble_eq_true rfl, Nat.le_of_ble_eq_true rfl⟩) (w_preVK (pl := [(q7, .inl (cy 0, 4, .inl ar7))]) (ci := 8) hE hS hA hK hP hD rfl rfl) rfl rfl hl.1 rfl (lv_room (Nat.le_of_ble_eq_true rfl)) dL_sound_78 ⟨Nat.le_of_ble_eq_true rfl, Nat.le_of_ble_eq_true rfl⟩) (fun r67 u H locs hw hP hD hS => ?_)
          obtain ⟨Kc68, rfl, hG, hr_⟩ := hw
          replace h := h r67 hr_
          clear hr_
          have hP : va_P D vwCl ([(q7, .inl (cy 0, 4, .inl ar7))] ++ wK cy x Kc68) H := hP
          have hD : va_D A ([(q7, .inl (cy 0, 4, .inl ar7))] ++ wK cy x Kc68) := hD
          refine lv_iadd hx hb dL_sound_81 ?_
          refine lv_istore_n (lv' := [(2, .int (x2 + r67)), (3, .int (k0 + k1)), (0, .ref (x 0)), (1, .int x1), (4, .ref (q7)), (5, .int x5), (6, .int x6), (7, .int x7)]) hx hb dL_sound_82 rfl hl (by decide) rfl (fun ls hl => ?_)
          refine lv_aload hx hb dL_sound_83 (lv_at hl 4 rfl) ?_
          refine lv_aload_n hx hb dL_sound_85 rfl (lv_at hl 2 rfl) ?_
          refine lv_iload hx hb dL_sound_86 (lv_at hl 5 rfl) ?_
          refine lv_iconst (v := 0) hx hb dL_sound_88 (by decide) ?_
          refine w_callK0 (pl := [(q7, .inl (cy 0, 4, .inl ar7))]) hP hD hS hA (va_runV (As := [.int x5, .int 0]) (rest := [.ref (q7)]) ⟨hx, hb, hml, hown, hts⟩ (m_dish l D cy H.size x Kc68 o hG x5 0) (cwV 2 hts gL_sound_X8_dish rfl rfl rfl (by decide +kernel) ⟨Nat.le_of_ble_eq_true rfl, Nat.le_of_ble_eq_true rfl⟩) (w_preVK (pl := [(q7, .inl (cy 0, 4, .inl ar7))]) (ci := 8) hE hS hA hK hP hD rfl rfl) rfl rfl hl.1 rfl (lv_room (Nat.le_of_ble_eq_true rfl)) dL_sound_89 ⟨Nat.le_of_ble_eq_true rfl, Nat.le_of_ble_eq_true rfl⟩) (fun r70 u H locs hw hP hD hS => ?_)
          obtain ⟨Kc71, rfl, hG, hr_⟩ := hw
          replace h := h r70 hr_
          clear hr_
          have hP : va_P D vwCl ([(q7, .inl (cy 0, 4, .inl ar7))] ++ wK cy x Kc71) H := hP
          have hD : va_D A ([(q7, .inl (cy 0, 4, .inl ar7))] ++ wK cy x Kc71) := hD
          refine lv_dup2_11 hx hb dL_sound_92 rfl rfl ?_
          obtain ⟨hi, h⟩ := h
          refine va_iald hx hb hK hP 0 0 rfl rfl hi dL_sound_93 ?_
          refine lv_iload hx hb dL_sound_94 (lv_at hl 6 rfl) ?_
          refine lv_if_ne (tgt := 103) hx hb dL_sound_96 rfl (fun hc => ?_) (fun hc => ?_)
          · replace h := h.1 hc
            refine lv_iconst (v := 0) hx hb dL_sound_103 (by decide) ?_
            exact j104 ar7 x1 ((x2 + r67)) ((k0 + k1)) x5 x6 x7 r70 ((ar7 r70.toNatClampNeg)) 0 h _ hG _ _ hP hD hS _ (lv_sub hl [2, 3, 0, 1, 4, 5, 6, 7] rfl)
          · replace h := h.2 hc
            refine lv_iconst (v := 1) hx hb dL_sound_99 (by decide) ?_
            refine lv_goto (tgt := 104) hx hb dL_sound_100 rfl ?_
            exact j104 ar7 x1 ((x2 + r67)) ((k0 + k1)) x5 x6 x7 r70 ((ar7 r70.toNatClampNeg)) 1 h _ hG _ _ hP hD hS _ (lv_sub hl [2, 3, 0, 1, 4, 5, 6, 7] rfl)
        have j51 : ∀ (ar7 : Nat → Int32) (x2 : Int32) (x3 : Int32) (x5 : Int32) (x6 : Int32) (x7 : Int32) (k0 : Int32) (k1 : Int32), p_L_sound_51 o ar7 x2 x3 x5 x6 x7 k0 k1 K14 Q → ∀ (K : sK), Good o K → ∀ (H : Heap) (locs : List Loc), va_P D vwCl ([(q7, .inl (cy 0, 4, .inl ar7))] ++ wK cy x K) H → va_D A ([(q7, .inl (cy 0, 4, .inl ar7))] ++ wK cy x K) → va_S A s.heap H locs → ∀ (ls : Array Slot), lv_has ls 8 [(0, .ref (x 0)), (2, .int x2), (3, .int x3), (4, .ref (q7)), (5, .int x5), (6, .int x6), (7, .int x7)] → W p l e r_L_sound s m args below meth c H locs 1 4 (MQ below Qc args s 1 4 A) (F0 m 51 ls [.int k1, .int k0]) := by
          intro ar7 x2 x3 x5 x6 x7 k0 k1 h K hG H locs hP hD hS ls hl
          unfold p_L_sound_51 at h
          refine lv_iadd hx hb dL_sound_51 ?_
          refine lv_istore_n (lv' := [(1, .int (k0 + k1)), (0, .ref (x 0)), (2, .int x2), (3, .int x3), (4, .ref (q7)), (5, .int x5), (6, .int x6), (7, .int x7)]) hx hb dL_sound_52 rfl hl (by decide) rfl (fun ls hl => ?_)
          refine lv_iload_n hx hb dL_sound_53 rfl (lv_at hl 3 rfl) ?_
          refine lv_iload hx hb dL_sound_54 (lv_at hl 6 rfl) ?_
          refine lv_if_ne (tgt := 69) hx hb dL_sound_56 rfl (fun hc => ?_) (fun hc => ?_)
          · replace h := h.1 hc
            refine lv_iconst (v := 0) hx hb dL_sound_69 (by decide) ?_
            exact j70 ar7 ((k0 + k1)) x2 x5 x6 x7 x3 0 h _ hG _ _ hP hD hS _ (lv_sub hl [1, 0, 2, 4, 5, 6, 7] rfl)
          · replace h := h.2 hc
            refine lv_aload_n hx hb dL_sound_59 rfl (lv_at hl 1 rfl) ?_
            refine lv_iload hx hb dL_sound_60 (lv_at hl 5 rfl) ?_
            refine lv_iconst (v := 2) hx hb dL_sound_62 (by decide) ?_
            refine w_callK0 (pl := [(q7, .inl (cy 0, 4, .inl ar7))]) hP hD hS hA (va_runV (As := [.int x5, .int 2]) (rest := [.int x3]) ⟨hx, hb, hml, hown, hts⟩ (m_dish l D cy H.size x K o hG x5 2) (cwV 2 hts gL_sound_X8_dish rfl rfl rfl (by decide +kernel) ⟨Nat.le_of_ble_eq_true rfl, Nat.le_of_ble_eq_true rfl⟩) (w_preVK (pl := [(q7, .inl (cy 0, 4, .inl ar7))]) (ci := 8) hE hS hA hK hP hD rfl rfl) rfl rfl hl.1 rfl (lv_room (Nat.le_of_ble_eq_true rfl)) dL_sound_63 ⟨Nat.le_of_ble_eq_true rfl, Nat.le_of_ble_eq_true rfl⟩) (fun r73 u H locs hw hP hD hS => ?_)
            obtain ⟨Kc74, rfl, hG, hr_⟩ := hw
            replace h := h r73 hr_
            clear hr_
            have hP : va_P D vwCl ([(q7, .inl (cy 0, 4, .inl ar7))] ++ wK cy x Kc74) H := hP
            have hD : va_D A ([(q7, .inl (cy 0, 4, .inl ar7))] ++ wK cy x Kc74) := hD
            refine lv_goto (tgt := 70) hx hb dL_sound_66 rfl ?_
            exact j70 ar7 ((k0 + k1)) x2 x5 x6 x7 x3 r73 h _ hG _ _ hP hD hS _ (lv_sub hl [1, 0, 2, 4, 5, 6, 7] rfl)
        unfold q_L_sound_14 at h
        refine lv_iload hx hb dL_sound_14 (lv_at hl 5 rfl) ?_
        refine lv_aload_n hx hb dL_sound_16 rfl (lv_at hl 0 rfl) ?_
        refine lv_iconst (v := 0) hx hb dL_sound_17 (by decide) ?_
        refine w_callK0 (pl := [(q7, .inl (cy 0, 4, .inl ar7))]) hP hD hS hA (va_runV (As := [.int 0]) (rest := [.int x5]) ⟨hx, hb, hml, hown, hts⟩ (m_count l D cy H.size x K o hG 0) (cwV 1 hts gL_sound_X8_count rfl rfl rfl (by decide +kernel) ⟨Nat.le_of_ble_eq_true rfl, Nat.le_of_ble_eq_true rfl⟩) (w_preVK (pl := [(q7, .inl (cy 0, 4, .inl ar7))]) (ci := 8) hE hS hA hK hP hD rfl rfl) rfl rfl hl.1 rfl (lv_room (Nat.le_of_ble_eq_true rfl)) dL_sound_18 ⟨Nat.le_of_ble_eq_true rfl, Nat.le_of_ble_eq_true rfl⟩) (fun r76 u H locs hw hP hD hS => ?_)
        obtain ⟨Kc77, rfl, hG, hr_⟩ := hw
        replace h := h r76 hr_
        clear hr_
        have hP : va_P D vwCl ([(q7, .inl (cy 0, 4, .inl ar7))] ++ wK cy x Kc77) H := hP
        have hD : va_D A ([(q7, .inl (cy 0, 4, .inl ar7))] ++ wK cy x Kc77) := hD
        refine lv_icmp_ge (tgt := 234) hx hb dL_sound_21 rfl (fun hc => ?_) (fun hc => ?_)
        · replace h := h.1 hc
          refine lv_iconst (v := 0) hx hb dL_sound_234 (by decide) ?_
          refine lv_istore (lv' := [(5, .int 0), (0, .ref (x 0)), (1, .int x1), (2, .int x2), (3, .int x3), (4, .ref (q7))]) hx hb dL_sound_235 hl (by decide) rfl (fun ls hl => ?_)
          exact j237 ar7 x1 x2 x3 0 h _ hG _ _ hP hD hS _ (lv_sub hl [1, 2, 3, 4, 5, 0] rfl)
        · replace h := h.2 hc
          refine lv_aload_n hx hb dL_sound_24 rfl (lv_at hl 0 rfl) ?_
          refine lv_iload hx hb dL_sound_25 (lv_at hl 5 rfl) ?_
          refine w_callK0 (pl := [(q7, .inl (cy 0, 4, .inl ar7))]) hP hD hS hA (va_runV (As := [.int x5]) (rest := []) ⟨hx, hb, hml, hown, hts⟩ (m_why l D cy H.size x Kc77 o hG x5) (cwV 1 hts gL_sound_X8_why rfl rfl rfl (by decide +kernel) ⟨Nat.le_of_ble_eq_true rfl, Nat.le_of_ble_eq_true rfl⟩) (w_preVK (pl := [(q7, .inl (cy 0, 4, .inl ar7))]) (ci := 8) hE hS hA hK hP hD rfl rfl) rfl rfl hl.1 rfl (lv_room (Nat.le_of_ble_eq_true rfl)) dL_sound_27 ⟨Nat.le_of_ble_eq_true rfl, Nat.le_of_ble_eq_true rfl⟩) (fun r79 u H locs hw hP hD hS => ?_)
          obtain ⟨Kc80, rfl, hG, hr_⟩ := hw
          replace h := h r79 hr_
          clear hr_
          have hP : va_P D vwCl ([(q7, .inl (cy 0, 4, .inl ar7))] ++ wK cy x Kc80) H := hP
          have hD : va_D A ([(q7, .inl (cy 0, 4, .inl ar7))] ++ wK cy x Kc80) := hD
          refine lv_istore (lv' := [(6, .int r79), (0, .ref (x 0)), (1, .int x1), (2, .int x2), (3, .int x3), (4, .ref (q7)), (5, .int x5)]) hx hb dL_sound_30 hl (by decide) rfl (fun ls hl => ?_)
          refine lv_aload_n hx hb dL_sound_32 rfl (lv_at hl 1 rfl) ?_
          refine lv_iload hx hb dL_sound_33 (lv_at hl 6 rfl) ?_
          refine w_callK0 (pl := [(q7, .inl (cy 0, 4, .inl ar7))]) hP hD hS hA (va_runV (As := [.int x5]) (rest := []) ⟨hx, hb, hml, hown, hts⟩ (m_replacement l D cy H.size x Kc80 o hG x5) (cwV 1 hts gL_sound_X8_replacement rfl rfl rfl (by decide +kernel) ⟨Nat.le_of_ble_eq_true rfl, Nat.le_of_ble_eq_true rfl⟩) (w_preVK (pl := [(q7, .inl (cy 0, 4, .inl ar7))]) (ci := 8) hE hS hA hK hP hD rfl rfl) rfl rfl hl.1 rfl (lv_room (Nat.le_of_ble_eq_true rfl)) dL_sound_35 ⟨Nat.le_of_ble_eq_true rfl, Nat.le_of_ble_eq_true rfl⟩) (fun r82 u H locs hw hP hD hS => ?_)
          obtain ⟨Kc83, rfl, hG, hr_⟩ := hw
          replace h := h r82 hr_
          clear hr_
          have hP : va_P D vwCl ([(q7, .inl (cy 0, 4, .inl ar7))] ++ wK cy x Kc83) H := hP
          have hD : va_D A ([(q7, .inl (cy 0, 4, .inl ar7))] ++ wK cy x Kc83) := hD
          refine lv_istore (lv' := [(7, .int r82), (6, .int r79), (0, .ref (x 0)), (1, .int x1), (2, .int x2), (3, .int x3), (4, .ref (q7)), (5, .int x5)]) hx hb dL_sound_38 hl (by decide) rfl (fun ls hl => ?_)
          refine lv_iload_n hx hb dL_sound_40 rfl (lv_at hl 3 rfl) ?_
          refine lv_iload hx hb dL_sound_41 (lv_at hl 1 rfl) ?_
          refine lv_if_ne (tgt := 50) hx hb dL_sound_43 rfl (fun hc => ?_) (fun hc => ?_)
          · replace h := h.1 hc
            refine lv_iconst (v := 0) hx hb dL_sound_50 (by decide) ?_
            exact j51 ar7 x2 x3 x5 r79 r82 x1 0 h _ hG _ _ hP hD hS _ (lv_sub hl [2, 4, 5, 6, 7, 1, 0] rfl)
          · replace h := h.2 hc
            refine lv_iconst (v := 1) hx hb dL_sound_46 (by decide) ?_
            refine lv_goto (tgt := 51) hx hb dL_sound_47 rfl ?_
            exact j51 ar7 x2 x3 x5 r79 r82 x1 1 h _ hG _ _ hP hD hS _ (lv_sub hl [2, 4, 5, 6, 7, 1, 0] rfl)
    exact key _ ar7 x1 x2 x3 x5 h0 (Nat.lt_succ_self _)
  refine lv_iconst (v := 0) hx hb dL_sound_11 (by decide) ?_
  refine lv_istore (lv' := [(5, .int 0), (4, .ref (q7)), (3, .int 0), (2, .int 0), (1, .int 0), (0, .ref (x 0))]) hx hb dL_sound_12 hl (by decide) rfl (fun ls hl => ?_)
  exact j14 ((fun _ => 0)) 0 0 0 0 h _ hG _ _ hP hD hS _ (lv_sub hl [5, 4, 3, 2, 1, 0] rfl)

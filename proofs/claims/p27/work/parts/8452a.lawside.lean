abbrev r_L_side : Room := { frames := 7, cells := 2, slots := 24, locals := 165 }
set_option maxHeartbeats 40000000 in
set_option maxRecDepth 100000 in
theorem c_L_side (l : Launch) (D : va_G) (cy : Nat → ClassId) (sz : Nat) (x : Nat → Nat) (K : sK) (o : aO) (hG : Good o K) (a1 : Int32) (Q : Int32 → Prop) (hq : p_L_side o a1 Q) : Met l yL_side wsL_side r_L_side (wPM [.ref (x 0), .int a1] sz D cy (wK cy x K)) (va_Qi (fun r u => (r = 0 ∨ r = 1) ∧ ∃ K' : sK, u = wK cy x K' ∧ Good o K' ∧ Q r) (fun u T9 => va_P D vwCl u T9.heap ∧ va_D (va_A (wK cy x K) sz) u) (va_A (wK cy x K) sz)) 2 24 (va_A (wK cy x K) sz) := by
  refine Met.ofW (cc := cL_side) (maxL := 14) (ret := (some .boolean)) (by decide) rfl ?_
  intro p e s m args below meth c s₁ B hml hv
  obtain ⟨hargs, hsz, hE, hP, hK, hD0⟩ := hv
  have hx := B.exec
  have hb := B.bytes
  have hr := B.returns
  have hts := atoms_spec (ws := wsL_side) B.pre
  have hown : s.vm.findClass RL = some m.cls := findClass_of_methodNamed B.named
  have hlocks := B.notSynchronized
  clear B
  subst hsz
  have hD := hD0.self (sz := s.heap.size)
  generalize hAe : va_A (wK cy x K) s.heap.size = A at hD ⊢ hE
  have hA : ∀ q : Nat, s.heap.size ≤ q → A q := fun q h => by rw [← hAe]; exact Or.inr h
  clear hAe hD0
  have hend : ∀ (r : Int32) (K' : sK) (H : Heap) (locs : List Loc), (r = 0 ∨ r = 1) → Good o K' → Q r → va_P D vwCl (wK cy x K') H → va_D A (wK cy x K') → va_S A s.heap H locs → ∀ T9 : State, T9.heap = H → (va_Qi (fun r u => (r = 0 ∨ r = 1) ∧ ∃ K' : sK, u = wK cy x K' ∧ Good o K' ∧ Q r) (fun u T9 => va_P D vwCl u T9.heap ∧ va_D A u) A) args s (.returned (some (.int r))) T9 := fun r K' H locs hz hG' hq hP hD hS T9 ht => ⟨⟨r, _, rfl, ⟨hz, K', rfl, hG', hq⟩, by rw [ht]; exact hP, hD⟩, hS.F ht⟩
  generalize (va_Qi (fun r u => (r = 0 ∨ r = 1) ∧ ∃ K' : sK, u = wK cy x K' ∧ Good o K' ∧ Q r) (fun u T9 => va_P D vwCl u T9.heap ∧ va_D A u) A) = Qc at hend ⊢
  have hS : va_S A s.heap s.heap [] := va_S.rf
  show W p l e r_L_side s m args below meth c s.heap [] 0 0 (MQ below Qc args s 2 24 A) (entryFrame m args 14)
  rw [show entryFrame m args 14 = entryFrame m ([.ref (x 0), .int a1] : List Value).toArray 14 from by rw [hargs]]
  have hl := lv_entry ([.ref (x 0), .int a1]) (n := 14) (Nat.le_of_ble_eq_true rfl)
  rw [lg_entry_eq]
  generalize (lg_sl ([.ref (x 0), .int a1]) ++ List.replicate (14 - (lg_sl ([.ref (x 0), .int a1])).length) Slot.unset).toArray = ls at hl ⊢
  have hl : lv_has ls 14 [(0, .ref (x 0)), (1, .int a1)] := hl
  have h := hq
  clear hargs hq
  unfold p_L_side at h
  suffices key : ∀ (H : Heap) (locs : List Loc), va_P D vwCl ([] ++ wK cy x K) H → va_D A ([] ++ wK cy x K) → va_S A s.heap H locs → W p l e r_L_side s m args below meth c H locs 0 0 (MQ below Qc args s 2 24 A) (F0 m 0 ls []) from key s.heap [] hP hD hS
  clear hP hD hS
  intro H locs hP hD hS
  refine lv_iconst (v := 0) hx hb dL_side_0 (by decide) ?_
  refine lv_istore_n (lv' := [(2, .int 0), (0, .ref (x 0)), (1, .int a1)]) hx hb dL_side_1 rfl hl (by decide) rfl (fun ls hl => ?_)
  refine lv_iconst (v := 0) hx hb dL_side_2 (by decide) ?_
  refine lv_istore_n (lv' := [(3, .int 0), (2, .int 0), (0, .ref (x 0)), (1, .int a1)]) hx hb dL_side_3 rfl hl (by decide) rfl (fun ls hl => ?_)
  refine lv_iconst (v := 0) hx hb dL_side_4 (by decide) ?_
  refine lv_istore (lv' := [(4, .int 0), (3, .int 0), (2, .int 0), (0, .ref (x 0)), (1, .int a1)]) hx hb dL_side_5 hl (by decide) rfl (fun ls hl => ?_)
  refine lv_iconst (v := 4) hx hb dL_side_7 (by decide) ?_
  refine va_newa (atype := .int) (ty := .int) (a0 := (4, .inl (fun _ => 0))) hx hb (hts (.arrayClass .int) (by decide +kernel)) rfl hK hP hD hS hA (fun _ => rfl) (by decide) rfl (Nat.le_of_ble_eq_true rfl) (Nat.le_of_ble_eq_true rfl) (Nat.le_of_ble_eq_true rfl) dL_side_8 (fun q8 cA H hK hP hD hS => ?_)
  obtain rfl : cA = cy 0 := w_cy (hK.2 6 _ rfl).2 (hK.2 0 _ rfl).2
  have hK := hK.sub (tys' := wTy cy) [0, 1, 2, 3, 4, 5] rfl
  have hP : va_P D vwCl ([(q8, .inl (cy 0, 4, .inl ((fun _ => 0))))] ++ wK cy x K) H := va_P.swap (a := []) (b := ([] ++ wK cy x K)) (c := [(q8, .inl (cy 0, 4, .inl (fun _ => 0)))]) hP
  have hD : va_D A ([(q8, .inl (cy 0, 4, .inl ((fun _ => 0))))] ++ wK cy x K) := va_D.swap (a := []) (b := ([] ++ wK cy x K)) (c := [(q8, .inl (cy 0, 4, .inl (fun _ => 0)))]) hD
  refine W.widen (k := 1) (n := 4) (by omega) (by omega) ?_
  refine lv_astore (lv' := [(5, .ref (q8)), (4, .int 0), (3, .int 0), (2, .int 0), (0, .ref (x 0)), (1, .int a1)]) hx hb dL_side_10 hl (by decide) rfl (fun ls hl => ?_)
  refine lv_bipush (v := 20) hx hb dL_side_12 (by decide) ?_
  refine va_newa (atype := .int) (ty := .int) (a0 := (20, .inl (fun _ => 0))) hx hb (hts (.arrayClass .int) (by decide +kernel)) rfl hK hP hD hS hA (fun _ => rfl) (by decide) rfl (Nat.le_of_ble_eq_true rfl) (Nat.le_of_ble_eq_true rfl) (Nat.le_of_ble_eq_true rfl) dL_side_14 (fun q14 cA H hK hP hD hS => ?_)
  obtain rfl : cA = cy 0 := w_cy (hK.2 6 _ rfl).2 (hK.2 0 _ rfl).2
  have hK := hK.sub (tys' := wTy cy) [0, 1, 2, 3, 4, 5] rfl
  have hP : va_P D vwCl ([(q14, .inl (cy 0, 20, .inl ((fun _ => 0)))), (q8, .inl (cy 0, 4, .inl ((fun _ => 0))))] ++ wK cy x K) H := va_P.swap (a := []) (b := ([(q8, .inl (cy 0, 4, .inl ((fun _ => 0))))] ++ wK cy x K)) (c := [(q14, .inl (cy 0, 20, .inl (fun _ => 0)))]) hP
  have hD : va_D A ([(q14, .inl (cy 0, 20, .inl ((fun _ => 0)))), (q8, .inl (cy 0, 4, .inl ((fun _ => 0))))] ++ wK cy x K) := va_D.swap (a := []) (b := ([(q8, .inl (cy 0, 4, .inl ((fun _ => 0))))] ++ wK cy x K)) (c := [(q14, .inl (cy 0, 20, .inl (fun _ => 0)))]) hD
  refine W.widen (k := 2) (n := 24) (by omega) (by omega) ?_
  refine lv_astore (lv' := [(6, .ref (q14)), (5, .ref (q8)), (4, .int 0), (3, .int 0), (2, .int 0), (0, .ref (x 0)), (1, .int a1)]) hx hb dL_side_16 hl (by decide) rfl (fun ls hl => ?_)
  have j345 : ∀ (ar8 : Nat → Int32) (ar14 : Nat → Int32) (x2 : Int32) (x3 : Int32) (x4 : Int32) (x8 : Int32), p_L_side_345 o a1 ar8 ar14 x2 x3 x4 Q x8 → ∀ (K : sK), Good o K → ∀ (H : Heap) (locs : List Loc), va_P D vwCl ([(q14, .inl (cy 0, 20, .inl ar14)), (q8, .inl (cy 0, 4, .inl ar8))] ++ wK cy x K) H → va_D A ([(q14, .inl (cy 0, 20, .inl ar14)), (q8, .inl (cy 0, 4, .inl ar8))] ++ wK cy x K) → va_S A s.heap H locs → ∀ (ls : Array Slot), lv_has ls 14 [(0, .ref (x 0)), (1, .int a1), (2, .int x2), (3, .int x3), (4, .int x4), (5, .ref (q8)), (6, .ref (q14)), (8, .int x8)] → W p l e r_L_side s m args below meth c H locs 2 24 (MQ below Qc args s 2 24 A) (F0 m 345 ls []) := by
    intro ar8 ar14 x2 x3 x4 x8 h
    obtain ⟨I345, μ345, h0, hs345⟩ := h
    have key : ∀ (n : Nat) (x8 : Int32), I345 x8 → μ345 x8 < n → ∀ (K : sK), Good o K → ∀ (H : Heap) (locs : List Loc), va_P D vwCl ([(q14, .inl (cy 0, 20, .inl ar14)), (q8, .inl (cy 0, 4, .inl ar8))] ++ wK cy x K) H → va_D A ([(q14, .inl (cy 0, 20, .inl ar14)), (q8, .inl (cy 0, 4, .inl ar8))] ++ wK cy x K) → va_S A s.heap H locs → ∀ (ls : Array Slot), lv_has ls 14 [(0, .ref (x 0)), (1, .int a1), (2, .int x2), (3, .int x3), (4, .int x4), (5, .ref (q8)), (6, .ref (q14)), (8, .int x8)] → W p l e r_L_side s m args below meth c H locs 2 24 (MQ below Qc args s 2 24 A) (F0 m 345 ls []) := by
      intro n
      induction n with
      | zero => intro x8 _ h; exact absurd h (Nat.not_lt_zero _)
      | succ n ih345 =>
        intro x8 hI hn K hG H locs hP hD hS ls hl
        have h := hs345 x8 hI
        have hk345 : ∀ (x81 : Int32), (fun (x8' : Int32) => I345 x8' ∧ μ345 x8' < μ345 x8) x81 → ∀ (K : sK), Good o K → ∀ (H : Heap) (locs : List Loc), va_P D vwCl ([(q14, .inl (cy 0, 20, .inl ar14)), (q8, .inl (cy 0, 4, .inl ar8))] ++ wK cy x K) H → va_D A ([(q14, .inl (cy 0, 20, .inl ar14)), (q8, .inl (cy 0, 4, .inl ar8))] ++ wK cy x K) → va_S A s.heap H locs → ∀ (ls : Array Slot), lv_has ls 14 [(0, .ref (x 0)), (1, .int a1), (2, .int x2), (3, .int x3), (4, .int x4), (5, .ref (q8)), (6, .ref (q14)), (8, .int x81)] → W p l e r_L_side s m args below meth c H locs 2 24 (MQ below Qc args s 2 24 A) (F0 m 345 ls []) := by
          intro x81 hz
          exact ih345 x81 hz.1 (Nat.lt_of_lt_of_le hz.2 (Nat.le_of_lt_succ hn))
        generalize hKe : (fun (x8' : Int32) => I345 x8' ∧ μ345 x8' < μ345 x8) = K345 at h hk345
        clear hKe ih345 hn hI
        have j436 : ∀ (x8 : Int32) (k0 : Int32) (k1 : Int32), p_L_side_436 x8 k0 k1 K345 Q → ∀ (K : sK), Good o K → ∀ (H : Heap) (locs : List Loc), va_P D vwCl ([(q14, .inl (cy 0, 20, .inl ar14)), (q8, .inl (cy 0, 4, .inl ar8))] ++ wK cy x K) H → va_D A ([(q14, .inl (cy 0, 20, .inl ar14)), (q8, .inl (cy 0, 4, .inl ar8))] ++ wK cy x K) → va_S A s.heap H locs → ∀ (ls : Array Slot), lv_has ls 14 [(0, .ref (x 0)), (1, .int a1), (2, .int x2), (3, .int x3), (4, .int x4), (5, .ref (q8)), (6, .ref (q14)), (8, .int x8)] → W p l e r_L_side s m args below meth c H locs 2 24 (MQ below Qc args s 2 24 A) (F0 m 436 ls [.int k1, .int k0]) := by
          intro x8 k0 k1 h K hG H locs hP hD hS ls hl
          unfold p_L_side_436 at h
          refine lv_icmp_eq (tgt := 441) hx hb dL_side_436 rfl (fun hc => ?_) (fun hc => ?_)
          · replace h := h.1 hc
            refine lv_iinc (k := 7) (v := (x8 + 1)) (lv' := [(8, .int (x8 + 1)), (0, .ref (x 0)), (1, .int a1), (2, .int x2), (3, .int x3), (4, .int x4), (5, .ref (q8)), (6, .ref (q14))]) hx hb dL_side_441 hl rfl rfl (by decide) rfl (fun ls hl => ?_)
            refine lv_goto (tgt := 345) hx hb dL_side_444 rfl ?_
            exact hk345 ((x8 + 1)) h _ hG _ _ hP hD hS _ (lv_sub hl [1, 2, 3, 4, 5, 6, 7, 0] rfl)
          · replace h := h.2 hc
            refine lv_iconst (v := 0) hx hb dL_side_439 (by decide) ?_
            exact W.zret hx hb hr rfl (fun t ht _ => hend 0 _ _ _ (Or.inl rfl) hG h (w_tailP hP) (w_tailD hD) hS t ht) hS.2.2 dL_side_440
        have j431 : ∀ (x8 : Int32) (k0 : Int32) (k1 : Int32) (k2 : Int32), p_L_side_431 x8 k0 k1 k2 K345 Q → ∀ (K : sK), Good o K → ∀ (H : Heap) (locs : List Loc), va_P D vwCl ([(q14, .inl (cy 0, 20, .inl ar14)), (q8, .inl (cy 0, 4, .inl ar8))] ++ wK cy x K) H → va_D A ([(q14, .inl (cy 0, 20, .inl ar14)), (q8, .inl (cy 0, 4, .inl ar8))] ++ wK cy x K) → va_S A s.heap H locs → ∀ (ls : Array Slot), lv_has ls 14 [(0, .ref (x 0)), (1, .int a1), (2, .int x2), (3, .int x3), (4, .int x4), (5, .ref (q8)), (6, .ref (q14)), (8, .int x8)] → W p l e r_L_side s m args below meth c H locs 2 24 (MQ below Qc args s 2 24 A) (F0 m 431 ls [.int k2, .int k1, .int k0]) := by
          intro x8 k0 k1 k2 h K hG H locs hP hD hS ls hl
          unfold p_L_side_431 at h
          refine lv_iadd hx hb dL_side_431 ?_
          refine lv_goto (tgt := 436) hx hb dL_side_432 rfl ?_
          exact j436 x8 k0 ((k1 + k2)) h _ hG _ _ hP hD hS _ (lv_sub hl [0, 1, 2, 3, 4, 5, 6, 7] rfl)
        have j387 : ∀ (x8 : Int32) (k0 : Int32), p_L_side_387 o x8 k0 ar14 K345 Q → ∀ (K : sK), Good o K → ∀ (H : Heap) (locs : List Loc), va_P D vwCl ([(q14, .inl (cy 0, 20, .inl ar14)), (q8, .inl (cy 0, 4, .inl ar8))] ++ wK cy x K) H → va_D A ([(q14, .inl (cy 0, 20, .inl ar14)), (q8, .inl (cy 0, 4, .inl ar8))] ++ wK cy x K) → va_S A s.heap H locs → ∀ (ls : Array Slot), lv_has ls 14 [(0, .ref (x 0)), (1, .int a1), (2, .int x2), (3, .int x3), (4, .int x4), (5, .ref (q8)), (6, .ref (q14)), (8, .int x8)] → W p l e r_L_side s m args below meth c H locs 2 24 (MQ below Qc args s 2 24 A) (F0 m 387 ls [.int k0]) := by
          intro x8 k0 h K hG H locs hP hD hS ls hl
          unfold p_L_side_387 at h
          refine lv_istore (lv' := [(9, .int k0), (0, .ref (x 0)), (1, .int a1), (2, .int x2), (3, .int x3), (4, .int x4), (5, .ref (q8)), (6, .ref (q14)), (8, .int x8)]) hx hb dL_side_387 hl (by decide) rfl (fun ls hl => ?_)
          refine lv_aload_n hx hb dL_side_389 rfl (lv_at hl 1 rfl) ?_
          refine lv_iload hx hb dL_side_390 (lv_at hl 8 rfl) ?_
          refine lv_iconst (v := 4) hx hb dL_side_392 (by decide) ?_
          refine w_callK0 (pl := [(q14, .inl (cy 0, 20, .inl ar14)), (q8, .inl (cy 0, 4, .inl ar8))]) hP hD hS hA (va_runV (As := [.int x8, .int 4]) (rest := []) ⟨hx, hb, hml, hown, hts⟩ (m_dish l D cy H.size x K o hG x8 4) (cwV 2 hts gL_side_X8_dish rfl rfl rfl (by decide +kernel) ⟨Nat.le_of_ble_eq_true rfl, Nat.le_of_ble_eq_true rfl⟩) (w_preVK (pl := [(q14, .inl (cy 0, 20, .inl ar14)), (q8, .inl (cy 0, 4, .inl ar8))]) (ci := 8) hE hS hA hK hP hD rfl rfl) rfl rfl hl.1 rfl (lv_room (Nat.le_of_ble_eq_true rfl)) dL_side_393 ⟨Nat.le_of_ble_eq_true rfl, Nat.le_of_ble_eq_true rfl⟩) (fun r1 u H locs hw hP hD hS => ?_)
          obtain ⟨Kc2, rfl, hG, hr_⟩ := hw
          replace h := h r1 hr_
          clear hr_
          have hP : va_P D vwCl ([(q14, .inl (cy 0, 20, .inl ar14)), (q8, .inl (cy 0, 4, .inl ar8))] ++ wK cy x Kc2) H := hP
          have hD : va_D A ([(q14, .inl (cy 0, 20, .inl ar14)), (q8, .inl (cy 0, 4, .inl ar8))] ++ wK cy x Kc2) := hD
          have hPc := hP.sub (ws' := []) [] rfl
          refine w_callR (va_runS (As := [.int r1]) (rest := []) ⟨hx, hb, hml, hown, hts⟩ (c_L_size l D cy H r1 _ h) (va_cwS 1 hts gL_side_L_size rfl rfl rfl (by decide +kernel) ⟨Nat.le_of_ble_eq_true rfl, Nat.le_of_ble_eq_true rfl⟩) (w_preSN hK hPc) rfl rfl hl.1 rfl (lv_room (Nat.le_of_ble_eq_true rfl)) dL_side_396 ⟨Nat.le_of_ble_eq_true rfl, Nat.le_of_ble_eq_true rfl⟩) hS (fun r4 locs h hS => ?_)
          try dsimp only at h
          refine lv_istore (lv' := [(10, .int r4), (9, .int k0), (0, .ref (x 0)), (1, .int a1), (2, .int x2), (3, .int x3), (4, .int x4), (5, .ref (q8)), (6, .ref (q14)), (8, .int x8)]) hx hb dL_side_399 hl (by decide) rfl (fun ls hl => ?_)
          refine lv_aload hx hb dL_side_401 (lv_at hl 8 rfl) ?_
          refine lv_iload hx hb dL_side_403 (lv_at hl 9 rfl) ?_
          obtain ⟨hi, h⟩ := h
          refine va_iald hx hb hK hP 0 0 rfl rfl hi dL_side_405 ?_
          refine lv_iload hx hb dL_side_406 (lv_at hl 1 rfl) ?_
          refine lv_if_eq (tgt := 435) hx hb dL_side_408 rfl (fun hc => ?_) (fun hc => ?_)
          · replace h := h.1 hc
            refine lv_iconst (v := 0) hx hb dL_side_435 (by decide) ?_
            exact j436 x8 ((ar14 x8.toNatClampNeg)) 0 h _ hG _ _ hP hD hS _ (lv_sub hl [2, 3, 4, 5, 6, 7, 8, 9] rfl)
          · replace h := h.2 hc
            refine lv_aload_n hx hb dL_side_411 rfl (lv_at hl 2 rfl) ?_
            refine lv_iload hx hb dL_side_412 (lv_at hl 9 rfl) ?_
            refine lv_iconst (v := 1) hx hb dL_side_414 (by decide) ?_
            refine w_callK0 (pl := [(q14, .inl (cy 0, 20, .inl ar14)), (q8, .inl (cy 0, 4, .inl ar8))]) hP hD hS hA (va_runV (As := [.int x8, .int 1]) (rest := [.int (ar14 x8.toNatClampNeg)]) ⟨hx, hb, hml, hown, hts⟩ (m_dish l D cy H.size x Kc2 o hG x8 1) (cwV 2 hts gL_side_X8_dish rfl rfl rfl (by decide +kernel) ⟨Nat.le_of_ble_eq_true rfl, Nat.le_of_ble_eq_true rfl⟩) (w_preVK (pl := [(q14, .inl (cy 0, 20, .inl ar14)), (q8, .inl (cy 0, 4, .inl ar8))]) (ci := 8) hE hS hA hK hP hD rfl rfl) rfl rfl hl.1 rfl (lv_room (Nat.le_of_ble_eq_true rfl)) dL_side_415 ⟨Nat.le_of_ble_eq_true rfl, Nat.le_of_ble_eq_true rfl⟩) (fun r5 u H locs hw hP hD hS => ?_)
            obtain ⟨Kc6, rfl, hG, hr_⟩ := hw
            replace h := h r5 hr_
            clear hr_
            have hP : va_P D vwCl ([(q14, .inl (cy 0, 20, .inl ar14)), (q8, .inl (cy 0, 4, .inl ar8))] ++ wK cy x Kc6) H := hP
            have hD : va_D A ([(q14, .inl (cy 0, 20, .inl ar14)), (q8, .inl (cy 0, 4, .inl ar8))] ++ wK cy x Kc6) := hD
            refine lv_iload hx hb dL_side_418 (lv_at hl 0 rfl) ?_
            refine lv_if_ne (tgt := 427) hx hb dL_side_420 rfl (fun hc => ?_) (fun hc => ?_)
            · replace h := h.1 hc
              refine lv_iload hx hb dL_side_427 (lv_at hl 0 rfl) ?_
              refine lv_iconst (v := 1) hx hb dL_side_429 (by decide) ?_
              refine lv_iadd hx hb dL_side_430 ?_
              exact j431 x8 ((ar14 x8.toNatClampNeg)) r5 ((r4 + 1)) h _ hG _ _ hP hD hS _ (lv_sub hl [2, 3, 4, 5, 6, 7, 8, 9] rfl)
            · replace h := h.2 hc
              refine lv_iconst (v := 0) hx hb dL_side_423 (by decide) ?_
              refine lv_goto (tgt := 431) hx hb dL_side_424 rfl ?_
              exact j431 x8 ((ar14 x8.toNatClampNeg)) r5 0 h _ hG _ _ hP hD hS _ (lv_sub hl [2, 3, 4, 5, 6, 7, 8, 9] rfl)
        have j386 : ∀ (x8 : Int32), p_L_side_386 o x8 ar14 K345 Q → ∀ (K : sK), Good o K → ∀ (H : Heap) (locs : List Loc), va_P D vwCl ([(q14, .inl (cy 0, 20, .inl ar14)), (q8, .inl (cy 0, 4, .inl ar8))] ++ wK cy x K) H → va_D A ([(q14, .inl (cy 0, 20, .inl ar14)), (q8, .inl (cy 0, 4, .inl ar8))] ++ wK cy x K) → va_S A s.heap H locs → ∀ (ls : Array Slot), lv_has ls 14 [(0, .ref (x 0)), (1, .int a1), (2, .int x2), (3, .int x3), (4, .int x4), (5, .ref (q8)), (6, .ref (q14)), (8, .int x8)] → W p l e r_L_side s m args below meth c H locs 2 24 (MQ below Qc args s 2 24 A) (F0 m 386 ls []) := by
          intro x8 h K hG H locs hP hD hS ls hl
          unfold p_L_side_386 at h
          refine lv_iconst (v := 0) hx hb dL_side_386 (by decide) ?_
          exact j387 x8 0 h _ hG _ _ hP hD hS _ (lv_sub hl [0, 1, 2, 3, 4, 5, 6, 7] rfl)
        unfold q_L_side_345 at h
        refine lv_iload hx hb dL_side_345 (lv_at hl 7 rfl) ?_
        refine lv_aload_n hx hb dL_side_347 rfl (lv_at hl 0 rfl) ?_
        refine lv_iconst (v := 0) hx hb dL_side_348 (by decide) ?_
        refine w_callK0 (pl := [(q14, .inl (cy 0, 20, .inl ar14)), (q8, .inl (cy 0, 4, .inl ar8))]) hP hD hS hA (va_runV (As := [.int 0]) (rest := [.int x8]) ⟨hx, hb, hml, hown, hts⟩ (m_count l D cy H.size x K o hG 0) (cwV 1 hts gL_side_X8_count rfl rfl rfl (by decide +kernel) ⟨Nat.le_of_ble_eq_true rfl, Nat.le_of_ble_eq_true rfl⟩) (w_preVK (pl := [(q14, .inl (cy 0, 20, .inl ar14)), (q8, .inl (cy 0, 4, .inl ar8))]) (ci := 8) hE hS hA hK hP hD rfl rfl) rfl rfl hl.1 rfl (lv_room (Nat.le_of_ble_eq_true rfl)) dL_side_349 ⟨Nat.le_of_ble_eq_true rfl, Nat.le_of_ble_eq_true rfl⟩) (fun r8 u H locs hw hP hD hS => ?_)
        obtain ⟨Kc9, rfl, hG, hr_⟩ := hw
        replace h := h r8 hr_
        clear hr_
        have hP : va_P D vwCl ([(q14, .inl (cy 0, 20, .inl ar14)), (q8, .inl (cy 0, 4, .inl ar8))] ++ wK cy x Kc9) H := hP
        have hD : va_D A ([(q14, .inl (cy 0, 20, .inl ar14)), (q8, .inl (cy 0, 4, .inl ar8))] ++ wK cy x Kc9) := hD
        refine lv_icmp_ge (tgt := 447) hx hb dL_side_352 rfl (fun hc => ?_) (fun hc => ?_)
        · replace h := h.1 hc
          refine lv_iload_n hx hb dL_side_447 rfl (lv_at hl 2 rfl) ?_
          refine lv_aload_n hx hb dL_side_448 rfl (lv_at hl 0 rfl) ?_
          refine lv_iconst (v := 2) hx hb dL_side_449 (by decide) ?_
          refine lv_iload_n hx hb dL_side_450 rfl (lv_at hl 1 rfl) ?_
          refine lv_iadd hx hb dL_side_451 ?_
          refine w_callK0 (pl := [(q14, .inl (cy 0, 20, .inl ar14)), (q8, .inl (cy 0, 4, .inl ar8))]) hP hD hS hA (va_runV (As := [.int (2 + a1)]) (rest := [.int x2]) ⟨hx, hb, hml, hown, hts⟩ (m_count l D cy H.size x Kc9 o hG ((2 + a1))) (cwV 1 hts gL_side_X8_count rfl rfl rfl (by decide +kernel) ⟨Nat.le_of_ble_eq_true rfl, Nat.le_of_ble_eq_true rfl⟩) (w_preVK (pl := [(q14, .inl (cy 0, 20, .inl ar14)), (q8, .inl (cy 0, 4, .inl ar8))]) (ci := 8) hE hS hA hK hP hD rfl rfl) rfl rfl hl.1 rfl (lv_room (Nat.le_of_ble_eq_true rfl)) dL_side_452 ⟨Nat.le_of_ble_eq_true rfl, Nat.le_of_ble_eq_true rfl⟩) (fun r11 u H locs hw hP hD hS => ?_)
          obtain ⟨Kc12, rfl, hG, hr_⟩ := hw
          replace h := h r11 hr_
          clear hr_
          have hP : va_P D vwCl ([(q14, .inl (cy 0, 20, .inl ar14)), (q8, .inl (cy 0, 4, .inl ar8))] ++ wK cy x Kc12) H := hP
          have hD : va_D A ([(q14, .inl (cy 0, 20, .inl ar14)), (q8, .inl (cy 0, 4, .inl ar8))] ++ wK cy x Kc12) := hD
          refine lv_icmp_ne (tgt := 530) hx hb dL_side_455 rfl (fun hc => ?_) (fun hc => ?_)
          · replace h := h.1 hc
            refine lv_iconst (v := 0) hx hb dL_side_530 (by decide) ?_
            exact W.zret hx hb hr rfl (fun t ht _ => hend 0 _ _ _ (Or.inl rfl) hG h (w_tailP hP) (w_tailD hD) hS t ht) hS.2.2 dL_side_531
          · replace h := h.2 hc
            refine lv_iload_n hx hb dL_side_458 rfl (lv_at hl 3 rfl) ?_
            refine lv_aload_n hx hb dL_side_459 rfl (lv_at hl 0 rfl) ?_
            refine lv_iconst (v := 4) hx hb dL_side_460 (by decide) ?_
            refine lv_iload_n hx hb dL_side_461 rfl (lv_at hl 1 rfl) ?_
            refine lv_iadd hx hb dL_side_462 ?_
            refine w_callK0 (pl := [(q14, .inl (cy 0, 20, .inl ar14)), (q8, .inl (cy 0, 4, .inl ar8))]) hP hD hS hA (va_runV (As := [.int (4 + a1)]) (rest := [.int x3]) ⟨hx, hb, hml, hown, hts⟩ (m_count l D cy H.size x Kc12 o hG ((4 + a1))) (cwV 1 hts gL_side_X8_count rfl rfl rfl (by decide +kernel) ⟨Nat.le_of_ble_eq_true rfl, Nat.le_of_ble_eq_true rfl⟩) (w_preVK (pl := [(q14, .inl (cy 0, 20, .inl ar14)), (q8, .inl (cy 0, 4, .inl ar8))]) (ci := 8) hE hS hA hK hP hD rfl rfl) rfl rfl hl.1 rfl (lv_room (Nat.le_of_ble_eq_true rfl)) dL_side_463 ⟨Nat.le_of_ble_eq_true rfl, Nat.le_of_ble_eq_true rfl⟩) (fun r14 u H locs hw hP hD hS => ?_)
            obtain ⟨Kc15, rfl, hG, hr_⟩ := hw
            replace h := h r14 hr_
            clear hr_
            have hP : va_P D vwCl ([(q14, .inl (cy 0, 20, .inl ar14)), (q8, .inl (cy 0, 4, .inl ar8))] ++ wK cy x Kc15) H := hP
            have hD : va_D A ([(q14, .inl (cy 0, 20, .inl ar14)), (q8, .inl (cy 0, 4, .inl ar8))] ++ wK cy x Kc15) := hD
            refine lv_icmp_ne (tgt := 530) hx hb dL_side_466 rfl (fun hc => ?_) (fun hc => ?_)
            · replace h := h.1 hc
              refine lv_iconst (v := 0) hx hb dL_side_530 (by decide) ?_
              exact W.zret hx hb hr rfl (fun t ht _ => hend 0 _ _ _ (Or.inl rfl) hG h (w_tailP hP) (w_tailD hD) hS t ht) hS.2.2 dL_side_531
            · replace h := h.2 hc
              refine lv_aload hx hb dL_side_469 (lv_at hl 5 rfl) ?_
              refine lv_iconst (v := 1) hx hb dL_side_471 (by decide) ?_
              obtain ⟨hi, h⟩ := h
              refine va_iald hx hb hK hP 1 0 rfl rfl hi dL_side_472 ?_
              refine lv_aload_n hx hb dL_side_473 rfl (lv_at hl 0 rfl) ?_
              refine lv_iload_n hx hb dL_side_474 rfl (lv_at hl 1 rfl) ?_
              refine lv_iconst (v := 0) hx hb dL_side_475 (by decide) ?_
              refine w_callK0 (pl := [(q14, .inl (cy 0, 20, .inl ar14)), (q8, .inl (cy 0, 4, .inl ar8))]) hP hD hS hA (va_runV (As := [.int a1, .int 0]) (rest := [.int (ar8 (1 : Int32).toNatClampNeg)]) ⟨hx, hb, hml, hown, hts⟩ (m_account l D cy H.size x Kc15 o hG a1 0) (cwV 2 hts gL_side_X8_account rfl rfl rfl (by decide +kernel) ⟨Nat.le_of_ble_eq_true rfl, Nat.le_of_ble_eq_true rfl⟩) (w_preVK (pl := [(q14, .inl (cy 0, 20, .inl ar14)), (q8, .inl (cy 0, 4, .inl ar8))]) (ci := 8) hE hS hA hK hP hD rfl rfl) rfl rfl hl.1 rfl (lv_room (Nat.le_of_ble_eq_true rfl)) dL_side_476 ⟨Nat.le_of_ble_eq_true rfl, Nat.le_of_ble_eq_true rfl⟩) (fun r17 u H locs hw hP hD hS => ?_)
              obtain ⟨Kc18, rfl, hG, hr_⟩ := hw
              replace h := h r17 hr_
              clear hr_
              have hP : va_P D vwCl ([(q14, .inl (cy 0, 20, .inl ar14)), (q8, .inl (cy 0, 4, .inl ar8))] ++ wK cy x Kc18) H := hP
              have hD : va_D A ([(q14, .inl (cy 0, 20, .inl ar14)), (q8, .inl (cy 0, 4, .inl ar8))] ++ wK cy x Kc18) := hD
              refine lv_icmp_ne (tgt := 530) hx hb dL_side_479 rfl (fun hc => ?_) (fun hc => ?_)
              · replace h := h.1 hc
                refine lv_iconst (v := 0) hx hb dL_side_530 (by decide) ?_
                exact W.zret hx hb hr rfl (fun t ht _ => hend 0 _ _ _ (Or.inl rfl) hG h (w_tailP hP) (w_tailD hD) hS t ht) hS.2.2 dL_side_531
              · replace h := h.2 hc
                refine lv_aload hx hb dL_side_482 (lv_at hl 5 rfl) ?_
                refine lv_iconst (v := 2) hx hb dL_side_484 (by decide) ?_
                obtain ⟨hi, h⟩ := h
                refine va_iald hx hb hK hP 1 0 rfl rfl hi dL_side_485 ?_
                refine lv_aload_n hx hb dL_side_486 rfl (lv_at hl 0 rfl) ?_
                refine lv_iload_n hx hb dL_side_487 rfl (lv_at hl 1 rfl) ?_
                refine lv_iconst (v := 1) hx hb dL_side_488 (by decide) ?_
                refine w_callK0 (pl := [(q14, .inl (cy 0, 20, .inl ar14)), (q8, .inl (cy 0, 4, .inl ar8))]) hP hD hS hA (va_runV (As := [.int a1, .int 1]) (rest := [.int (ar8 (2 : Int32).toNatClampNeg)]) ⟨hx, hb, hml, hown, hts⟩ (m_account l D cy H.size x Kc18 o hG a1 1) (cwV 2 hts gL_side_X8_account rfl rfl rfl (by decide +kernel) ⟨Nat.le_of_ble_eq_true rfl, Nat.le_of_ble_eq_true rfl⟩) (w_preVK (pl := [(q14, .inl (cy 0, 20, .inl ar14)), (q8, .inl (cy 0, 4, .inl ar8))]) (ci := 8) hE hS hA hK hP hD rfl rfl) rfl rfl hl.1 rfl (lv_room (Nat.le_of_ble_eq_true rfl)) dL_side_489 ⟨Nat.le_of_ble_eq_true rfl, Nat.le_of_ble_eq_true rfl⟩) (fun r20 u H locs hw hP hD hS => ?_)
                obtain ⟨Kc21, rfl, hG, hr_⟩ := hw
                replace h := h r20 hr_
                clear hr_
                have hP : va_P D vwCl ([(q14, .inl (cy 0, 20, .inl ar14)), (q8, .inl (cy 0, 4, .inl ar8))] ++ wK cy x Kc21) H := hP
                have hD : va_D A ([(q14, .inl (cy 0, 20, .inl ar14)), (q8, .inl (cy 0, 4, .inl ar8))] ++ wK cy x Kc21) := hD
                refine lv_icmp_ne (tgt := 530) hx hb dL_side_492 rfl (fun hc => ?_) (fun hc => ?_)
                · replace h := h.1 hc
                  refine lv_iconst (v := 0) hx hb dL_side_530 (by decide) ?_
                  exact W.zret hx hb hr rfl (fun t ht _ => hend 0 _ _ _ (Or.inl rfl) hG h (w_tailP hP) (w_tailD hD) hS t ht) hS.2.2 dL_side_531
                · replace h := h.2 hc
                  refine lv_iload hx hb dL_side_495 (lv_at hl 4 rfl) ?_
                  refine lv_aload_n hx hb dL_side_497 rfl (lv_at hl 0 rfl) ?_
                  refine lv_iload_n hx hb dL_side_498 rfl (lv_at hl 1 rfl) ?_
                  refine lv_iconst (v := 2) hx hb dL_side_499 (by decide) ?_
                  refine w_callK0 (pl := [(q14, .inl (cy 0, 20, .inl ar14)), (q8, .inl (cy 0, 4, .inl ar8))]) hP hD hS hA (va_runV (As := [.int a1, .int 2]) (rest := [.int x4]) ⟨hx, hb, hml, hown, hts⟩ (m_account l D cy H.size x Kc21 o hG a1 2) (cwV 2 hts gL_side_X8_account rfl rfl rfl (by decide +kernel) ⟨Nat.le_of_ble_eq_true rfl, Nat.le_of_ble_eq_true rfl⟩) (w_preVK (pl := [(q14, .inl (cy 0, 20, .inl ar14)), (q8, .inl (cy 0, 4, .inl ar8))]) (ci := 8) hE hS hA hK hP hD rfl rfl) rfl rfl hl.1 rfl (lv_room (Nat.le_of_ble_eq_true rfl)) dL_side_500 ⟨Nat.le_of_ble_eq_true rfl, Nat.le_of_ble_eq_true rfl⟩) (fun r23 u H locs hw hP hD hS => ?_)
                  obtain ⟨Kc24, rfl, hG, hr_⟩ := hw
                  replace h := h r23 hr_
                  clear hr_
                  have hP : va_P D vwCl ([(q14, .inl (cy 0, 20, .inl ar14)), (q8, .inl (cy 0, 4, .inl ar8))] ++ wK cy x Kc24) H := hP
                  have hD : va_D A ([(q14, .inl (cy 0, 20, .inl ar14)), (q8, .inl (cy 0, 4, .inl ar8))] ++ wK cy x Kc24) := hD
                  refine lv_aload_n hx hb dL_side_503 rfl (lv_at hl 0 rfl) ?_
                  refine lv_iload_n hx hb dL_side_504 rfl (lv_at hl 1 rfl) ?_
                  refine lv_iconst (v := 4) hx hb dL_side_505 (by decide) ?_
                  refine w_callK0 (pl := [(q14, .inl (cy 0, 20, .inl ar14)), (q8, .inl (cy 0, 4, .inl ar8))]) hP hD hS hA (va_runV (As := [.int a1, .int 4]) (rest := [.int r23, .int x4]) ⟨hx, hb, hml, hown, hts⟩ (m_account l D cy H.size x Kc24 o hG a1 4) (cwV 2 hts gL_side_X8_account rfl rfl rfl (by decide +kernel) ⟨Nat.le_of_ble_eq_true rfl, Nat.le_of_ble_eq_true rfl⟩) (w_preVK (pl := [(q14, .inl (cy 0, 20, .inl ar14)), (q8, .inl (cy 0, 4, .inl ar8))]) (ci := 8) hE hS hA hK hP hD rfl rfl) rfl rfl hl.1 rfl (lv_room (Nat.le_of_ble_eq_true rfl)) dL_side_506 ⟨Nat.le_of_ble_eq_true rfl, Nat.le_of_ble_eq_true rfl⟩) (fun r26 u H locs hw hP hD hS => ?_)
                  obtain ⟨Kc27, rfl, hG, hr_⟩ := hw
                  replace h := h r26 hr_
                  clear hr_
                  have hP : va_P D vwCl ([(q14, .inl (cy 0, 20, .inl ar14)), (q8, .inl (cy 0, 4, .inl ar8))] ++ wK cy x Kc27) H := hP
                  have hD : va_D A ([(q14, .inl (cy 0, 20, .inl ar14)), (q8, .inl (cy 0, 4, .inl ar8))] ++ wK cy x Kc27) := hD
                  refine lv_iadd hx hb dL_side_509 ?_
                  refine lv_icmp_ne (tgt := 530) hx hb dL_side_510 rfl (fun hc => ?_) (fun hc => ?_)
                  · replace h := h.1 hc
                    refine lv_iconst (v := 0) hx hb dL_side_530 (by decide) ?_
                    exact W.zret hx hb hr rfl (fun t ht _ => hend 0 _ _ _ (Or.inl rfl) hG h (w_tailP hP) (w_tailD hD) hS t ht) hS.2.2 dL_side_531
                  · replace h := h.2 hc
                    refine lv_aload hx hb dL_side_513 (lv_at hl 5 rfl) ?_
                    refine lv_iconst (v := 3) hx hb dL_side_515 (by decide) ?_
                    obtain ⟨hi, h⟩ := h
                    refine va_iald hx hb hK hP 1 0 rfl rfl hi dL_side_516 ?_
                    refine lv_aload_n hx hb dL_side_517 rfl (lv_at hl 0 rfl) ?_
                    refine lv_iload_n hx hb dL_side_518 rfl (lv_at hl 1 rfl) ?_
                    refine lv_iconst (v := 3) hx hb dL_side_519 (by decide) ?_
                    refine w_callK0 (pl := [(q14, .inl (cy 0, 20, .inl ar14)), (q8, .inl (cy 0, 4, .inl ar8))]) hP hD hS hA (va_runV (As := [.int a1, .int 3]) (rest := [.int (ar8 (3 : Int32).toNatClampNeg)]) ⟨hx, hb, hml, hown, hts⟩ (m_account l D cy H.size x Kc27 o hG a1 3) (cwV 2 hts gL_side_X8_account rfl rfl rfl (by decide +kernel) ⟨Nat.le_of_ble_eq_true rfl, Nat.le_of_ble_eq_true rfl⟩) (w_preVK (pl := [(q14, .inl (cy 0, 20, .inl ar14)), (q8, .inl (cy 0, 4, .inl ar8))]) (ci := 8) hE hS hA hK hP hD rfl rfl) rfl rfl hl.1 rfl (lv_room (Nat.le_of_ble_eq_true rfl)) dL_side_520 ⟨Nat.le_of_ble_eq_true rfl, Nat.le_of_ble_eq_true rfl⟩) (fun r29 u H locs hw hP hD hS => ?_)
                    obtain ⟨Kc30, rfl, hG, hr_⟩ := hw
                    replace h := h r29 hr_
                    clear hr_
                    have hP : va_P D vwCl ([(q14, .inl (cy 0, 20, .inl ar14)), (q8, .inl (cy 0, 4, .inl ar8))] ++ wK cy x Kc30) H := hP
                    have hD : va_D A ([(q14, .inl (cy 0, 20, .inl ar14)), (q8, .inl (cy 0, 4, .inl ar8))] ++ wK cy x Kc30) := hD
                    refine lv_icmp_ne (tgt := 530) hx hb dL_side_523 rfl (fun hc => ?_) (fun hc => ?_)
                    · replace h := h.1 hc
                      refine lv_iconst (v := 0) hx hb dL_side_530 (by decide) ?_
                      exact W.zret hx hb hr rfl (fun t ht _ => hend 0 _ _ _ (Or.inl rfl) hG h (w_tailP hP) (w_tailD hD) hS t ht) hS.2.2 dL_side_531
                    · replace h := h.2 hc
                      refine lv_iconst (v := 1) hx hb dL_side_526 (by decide) ?_
                      refine lv_goto (tgt := 531) hx hb dL_side_527 rfl ?_
                      exact W.zret hx hb hr rfl (fun t ht _ => hend 1 _ _ _ (Or.inr rfl) hG h (w_tailP hP) (w_tailD hD) hS t ht) hS.2.2 dL_side_531
        · replace h := h.2 hc
          refine lv_aload_n hx hb dL_side_355 rfl (lv_at hl 0 rfl) ?_
          refine lv_iload hx hb dL_side_356 (lv_at hl 7 rfl) ?_
          refine w_callK0 (pl := [(q14, .inl (cy 0, 20, .inl ar14)), (q8, .inl (cy 0, 4, .inl ar8))]) hP hD hS hA (va_runV (As := [.int x8]) (rest := []) ⟨hx, hb, hml, hown, hts⟩ (m_why l D cy H.size x Kc9 o hG x8) (cwV 1 hts gL_side_X8_why rfl rfl rfl (by decide +kernel) ⟨Nat.le_of_ble_eq_true rfl, Nat.le_of_ble_eq_true rfl⟩) (w_preVK (pl := [(q14, .inl (cy 0, 20, .inl ar14)), (q8, .inl (cy 0, 4, .inl ar8))]) (ci := 8) hE hS hA hK hP hD rfl rfl) rfl rfl hl.1 rfl (lv_room (Nat.le_of_ble_eq_true rfl)) dL_side_358 ⟨Nat.le_of_ble_eq_true rfl, Nat.le_of_ble_eq_true rfl⟩) (fun r32 u H locs hw hP hD hS => ?_)
          obtain ⟨Kc33, rfl, hG, hr_⟩ := hw
          replace h := h r32 hr_
          clear hr_
          have hP : va_P D vwCl ([(q14, .inl (cy 0, 20, .inl ar14)), (q8, .inl (cy 0, 4, .inl ar8))] ++ wK cy x Kc33) H := hP
          have hD : va_D A ([(q14, .inl (cy 0, 20, .inl ar14)), (q8, .inl (cy 0, 4, .inl ar8))] ++ wK cy x Kc33) := hD
          refine lv_if_ne (tgt := 386) hx hb dL_side_361 rfl (fun hc => ?_) (fun hc => ?_)
          · replace h := h.1 hc
            exact j386 x8 h _ hG _ _ hP hD hS _ (lv_sub hl [0, 1, 2, 3, 4, 5, 6, 7] rfl)
          · replace h := h.2 hc
            refine lv_aload_n hx hb dL_side_364 rfl (lv_at hl 0 rfl) ?_
            refine lv_bipush (v := 6) hx hb dL_side_365 (by decide) ?_
            refine lv_aload_n hx hb dL_side_367 rfl (lv_at hl 0 rfl) ?_
            refine lv_iload hx hb dL_side_368 (lv_at hl 7 rfl) ?_
            refine lv_iconst (v := 0) hx hb dL_side_370 (by decide) ?_
            refine w_callK0 (pl := [(q14, .inl (cy 0, 20, .inl ar14)), (q8, .inl (cy 0, 4, .inl ar8))]) hP hD hS hA (va_runV (As := [.int x8, .int 0]) (rest := [.int 6, .ref (x 0)]) ⟨hx, hb, hml, hown, hts⟩ (m_dish l D cy H.size x Kc33 o hG x8 0) (cwV 2 hts gL_side_X8_dish rfl rfl rfl (by decide +kernel) ⟨Nat.le_of_ble_eq_true rfl, Nat.le_of_ble_eq_true rfl⟩) (w_preVK (pl := [(q14, .inl (cy 0, 20, .inl ar14)), (q8, .inl (cy 0, 4, .inl ar8))]) (ci := 8) hE hS hA hK hP hD rfl rfl) rfl rfl hl.1 rfl (lv_room (Nat.le_of_ble_eq_true rfl)) dL_side_371 ⟨Nat.le_of_ble_eq_true rfl, Nat.le_of_ble_eq_true rfl⟩) (fun r35 u H locs hw hP hD hS => ?_)
            obtain ⟨Kc36, rfl, hG, hr_⟩ := hw
            replace h := h r35 hr_
            clear hr_
            have hP : va_P D vwCl ([(q14, .inl (cy 0, 20, .inl ar14)), (q8, .inl (cy 0, 4, .inl ar8))] ++ wK cy x Kc36) H := hP
            have hD : va_D A ([(q14, .inl (cy 0, 20, .inl ar14)), (q8, .inl (cy 0, 4, .inl ar8))] ++ wK cy x Kc36) := hD
            refine lv_iadd hx hb dL_side_374 ?_
            refine w_callK0 (pl := [(q14, .inl (cy 0, 20, .inl ar14)), (q8, .inl (cy 0, 4, .inl ar8))]) hP hD hS hA (va_runV (As := [.int (6 + r35)]) (rest := []) ⟨hx, hb, hml, hown, hts⟩ (m_card l D cy H.size x Kc36 o hG ((6 + r35))) (cwV 1 hts gL_side_X8_card rfl rfl rfl (by decide +kernel) ⟨Nat.le_of_ble_eq_true rfl, Nat.le_of_ble_eq_true rfl⟩) (w_preVK (pl := [(q14, .inl (cy 0, 20, .inl ar14)), (q8, .inl (cy 0, 4, .inl ar8))]) (ci := 8) hE hS hA hK hP hD rfl rfl) rfl rfl hl.1 rfl (lv_room (Nat.le_of_ble_eq_true rfl)) dL_side_375 ⟨Nat.le_of_ble_eq_true rfl, Nat.le_of_ble_eq_true rfl⟩) (fun r38 u H locs hw hP hD hS => ?_)
            obtain ⟨Kc39, rfl, hG, hr_⟩ := hw
            replace h := h r38 hr_
            clear hr_
            have hP : va_P D vwCl ([(q14, .inl (cy 0, 20, .inl ar14)), (q8, .inl (cy 0, 4, .inl ar8))] ++ wK cy x Kc39) H := hP
            have hD : va_D A ([(q14, .inl (cy 0, 20, .inl ar14)), (q8, .inl (cy 0, 4, .inl ar8))] ++ wK cy x Kc39) := hD
            refine lv_iload_n hx hb dL_side_378 rfl (lv_at hl 1 rfl) ?_
            refine lv_icmp_ne (tgt := 386) hx hb dL_side_379 rfl (fun hc => ?_) (fun hc => ?_)
            · replace h := h.1 hc
              exact j386 x8 h _ hG _ _ hP hD hS _ (lv_sub hl [0, 1, 2, 3, 4, 5, 6, 7] rfl)
            · replace h := h.2 hc
              refine lv_iconst (v := 1) hx hb dL_side_382 (by decide) ?_
              refine lv_goto (tgt := 387) hx hb dL_side_383 rfl ?_
              exact j387 x8 1 h _ hG _ _ hP hD hS _ (lv_sub hl [0, 1, 2, 3, 4, 5, 6, 7] rfl)
    exact key _ x8 h0 (Nat.lt_succ_self _)
  have j21 : ∀ (ar8 : Nat → Int32) (ar14 : Nat → Int32) (x2 : Int32) (x3 : Int32) (x4 : Int32) (x7 : Int32), p_L_side_21 o a1 Q ar8 ar14 x2 x3 x4 x7 → ∀ (K : sK), Good o K → ∀ (H : Heap) (locs : List Loc), va_P D vwCl ([(q14, .inl (cy 0, 20, .inl ar14)), (q8, .inl (cy 0, 4, .inl ar8))] ++ wK cy x K) H → va_D A ([(q14, .inl (cy 0, 20, .inl ar14)), (q8, .inl (cy 0, 4, .inl ar8))] ++ wK cy x K) → va_S A s.heap H locs → ∀ (ls : Array Slot), lv_has ls 14 [(0, .ref (x 0)), (1, .int a1), (2, .int x2), (3, .int x3), (4, .int x4), (5, .ref (q8)), (6, .ref (q14)), (7, .int x7)] → W p l e r_L_side s m args below meth c H locs 2 24 (MQ below Qc args s 2 24 A) (F0 m 21 ls []) := by
    intro ar8 ar14 x2 x3 x4 x7 h
    obtain ⟨I21, μ21, h0, hs21⟩ := h
    have key : ∀ (n : Nat) (ar8 : Nat → Int32) (ar14 : Nat → Int32) (x2 : Int32) (x3 : Int32) (x4 : Int32) (x7 : Int32), I21 ar8 ar14 x2 x3 x4 x7 → μ21 ar8 ar14 x2 x3 x4 x7 < n → ∀ (K : sK), Good o K → ∀ (H : Heap) (locs : List Loc), va_P D vwCl ([(q14, .inl (cy 0, 20, .inl ar14)), (q8, .inl (cy 0, 4, .inl ar8))] ++ wK cy x K) H → va_D A ([(q14, .inl (cy 0, 20, .inl ar14)), (q8, .inl (cy 0, 4, .inl ar8))] ++ wK cy x K) → va_S A s.heap H locs → ∀ (ls : Array Slot), lv_has ls 14 [(0, .ref (x 0)), (1, .int a1), (2, .int x2), (3, .int x3), (4, .int x4), (5, .ref (q8)), (6, .ref (q14)), (7, .int x7)] → W p l e r_L_side s m args below meth c H locs 2 24 (MQ below Qc args s 2 24 A) (F0 m 21 ls []) := by
      intro n
      induction n with
      | zero => intro ar8 ar14 x2 x3 x4 x7 _ h; exact absurd h (Nat.not_lt_zero _)
      | succ n ih21 =>
        intro ar8 ar14 x2 x3 x4 x7 hI hn K hG H locs hP hD hS ls hl
        have h := hs21 ar8 ar14 x2 x3 x4 x7 hI
        have hk21 : ∀ (ar81 : Nat → Int32) (ar141 : Nat → Int32) (x21 : Int32) (x31 : Int32) (x41 : Int32) (x71 : Int32), (fun (ar8' : Nat → Int32) (ar14' : Nat → Int32) (x2' : Int32) (x3' : Int32) (x4' : Int32) (x7' : Int32) => I21 ar8' ar14' x2' x3' x4' x7' ∧ μ21 ar8' ar14' x2' x3' x4' x7' < μ21 ar8 ar14 x2 x3 x4 x7) ar81 ar141 x21 x31 x41 x71 → ∀ (K : sK), Good o K → ∀ (H : Heap) (locs : List Loc), va_P D vwCl ([(q14, .inl (cy 0, 20, .inl ar141)), (q8, .inl (cy 0, 4, .inl ar81))] ++ wK cy x K) H → va_D A ([(q14, .inl (cy 0, 20, .inl ar141)), (q8, .inl (cy 0, 4, .inl ar81))] ++ wK cy x K) → va_S A s.heap H locs → ∀ (ls : Array Slot), lv_has ls 14 [(0, .ref (x 0)), (1, .int a1), (2, .int x21), (3, .int x31), (4, .int x41), (5, .ref (q8)), (6, .ref (q14)), (7, .int x71)] → W p l e r_L_side s m args below meth c H locs 2 24 (MQ below Qc args s 2 24 A) (F0 m 21 ls []) := by
          intro ar81 ar141 x21 x31 x41 x71 hz
          exact ih21 ar81 ar141 x21 x31 x41 x71 hz.1 (Nat.lt_of_lt_of_le hz.2 (Nat.le_of_lt_succ hn))
        generalize hKe : (fun (ar8' : Nat → Int32) (ar14' : Nat → Int32) (x2' : Int32) (x3' : Int32) (x4' : Int32) (x7' : Int32) => I21 ar8' ar14' x2' x3' x4' x7' ∧ μ21 ar8' ar14' x2' x3' x4' x7' < μ21 ar8 ar14 x2 x3 x4 x7) = K21 at h hk21
        clear hKe ih21 hn hI
        have j339 : ∀ (ar8 : Nat → Int32) (ar14 : Nat → Int32) (x2 : Int32) (x3 : Int32) (x4 : Int32) (x7 : Int32), p_L_side_339 ar8 ar14 x2 x3 x4 x7 K21 → ∀ (K : sK), Good o K → ∀ (H : Heap) (locs : List Loc), va_P D vwCl ([(q14, .inl (cy 0, 20, .inl ar14)), (q8, .inl (cy 0, 4, .inl ar8))] ++ wK cy x K) H → va_D A ([(q14, .inl (cy 0, 20, .inl ar14)), (q8, .inl (cy 0, 4, .inl ar8))] ++ wK cy x K) → va_S A s.heap H locs → ∀ (ls : Array Slot), lv_has ls 14 [(0, .ref (x 0)), (1, .int a1), (2, .int x2), (3, .int x3), (4, .int x4), (5, .ref (q8)), (6, .ref (q14)), (7, .int x7)] → W p l e r_L_side s m args below meth c H locs 2 24 (MQ below Qc args s 2 24 A) (F0 m 339 ls []) := by
          intro ar8 ar14 x2 x3 x4 x7 h K hG H locs hP hD hS ls hl
          unfold p_L_side_339 at h
          refine lv_goto (tgt := 21) hx hb dL_side_339 rfl ?_
          exact hk21 ar8 ar14 x2 x3 x4 x7 h _ hG _ _ hP hD hS _ (lv_sub hl [0, 1, 2, 3, 4, 5, 6, 7] rfl)
        have j336 : ∀ (ar8 : Nat → Int32) (ar14 : Nat → Int32) (x2 : Int32) (x3 : Int32) (x4 : Int32) (x7 : Int32), p_L_side_336 ar8 ar14 x2 x3 x4 x7 K21 → ∀ (K : sK), Good o K → ∀ (H : Heap) (locs : List Loc), va_P D vwCl ([(q14, .inl (cy 0, 20, .inl ar14)), (q8, .inl (cy 0, 4, .inl ar8))] ++ wK cy x K) H → va_D A ([(q14, .inl (cy 0, 20, .inl ar14)), (q8, .inl (cy 0, 4, .inl ar8))] ++ wK cy x K) → va_S A s.heap H locs → ∀ (ls : Array Slot), lv_has ls 14 [(0, .ref (x 0)), (1, .int a1), (2, .int x2), (3, .int x3), (4, .int x4), (5, .ref (q8)), (6, .ref (q14)), (7, .int x7)] → W p l e r_L_side s m args below meth c H locs 2 24 (MQ below Qc args s 2 24 A) (F0 m 336 ls []) := by
          intro ar8 ar14 x2 x3 x4 x7 h K hG H locs hP hD hS ls hl
          unfold p_L_side_336 at h
          refine lv_iinc (k := 2) (v := (x2 + 1)) (lv' := [(2, .int (x2 + 1)), (0, .ref (x 0)), (1, .int a1), (3, .int x3), (4, .int x4), (5, .ref (q8)), (6, .ref (q14)), (7, .int x7)]) hx hb dL_side_336 hl rfl rfl (by decide) rfl (fun ls hl => ?_)
          exact j339 ar8 ar14 ((x2 + 1)) x3 x4 x7 h _ hG _ _ hP hD hS _ (lv_sub hl [1, 2, 0, 3, 4, 5, 6, 7] rfl)
        have j330 : ∀ (ar8 : Nat → Int32) (ar14 : Nat → Int32) (x2 : Int32) (x3 : Int32) (x4 : Int32) (x7 : Int32) (k0 : Int32) (k1 : Int32) (k2 : Int32), p_L_side_330 ar8 ar14 x2 x3 x4 x7 k0 k1 k2 K21 Q → ∀ (K : sK), Good o K → ∀ (H : Heap) (locs : List Loc), va_P D vwCl ([(q14, .inl (cy 0, 20, .inl ar14)), (q8, .inl (cy 0, 4, .inl ar8))] ++ wK cy x K) H → va_D A ([(q14, .inl (cy 0, 20, .inl ar14)), (q8, .inl (cy 0, 4, .inl ar8))] ++ wK cy x K) → va_S A s.heap H locs → ∀ (ls : Array Slot), lv_has ls 14 [(0, .ref (x 0)), (1, .int a1), (2, .int x2), (3, .int x3), (4, .int x4), (5, .ref (q8)), (6, .ref (q14)), (7, .int x7)] → W p l e r_L_side s m args below meth c H locs 2 24 (MQ below Qc args s 2 24 A) (F0 m 330 ls [.int k2, .int k1, .int k0]) := by
          intro ar8 ar14 x2 x3 x4 x7 k0 k1 k2 h K hG H locs hP hD hS ls hl
          unfold p_L_side_330 at h
          refine lv_iadd hx hb dL_side_330 ?_
          refine lv_icmp_eq (tgt := 336) hx hb dL_side_331 rfl (fun hc => ?_) (fun hc => ?_)
          · replace h := h.1 hc
            exact j336 ar8 ar14 x2 x3 x4 x7 h _ hG _ _ hP hD hS _ (lv_sub hl [0, 1, 2, 3, 4, 5, 6, 7] rfl)
          · replace h := h.2 hc
            refine lv_iconst (v := 0) hx hb dL_side_334 (by decide) ?_
            exact W.zret hx hb hr rfl (fun t ht _ => hend 0 _ _ _ (Or.inl rfl) hG h (w_tailP hP) (w_tailD hD) hS t ht) hS.2.2 dL_side_335
        have j296 : ∀ (ar8 : Nat → Int32) (ar14 : Nat → Int32) (x2 : Int32) (x3 : Int32) (x4 : Int32) (x7 : Int32) (x9 : Int32) (x10 : Int32) (x11 : Int32), p_L_side_296 o a1 ar8 ar14 x2 x3 x4 x7 x9 x10 x11 K21 Q → ∀ (K : sK), Good o K → ∀ (H : Heap) (locs : List Loc), va_P D vwCl ([(q14, .inl (cy 0, 20, .inl ar14)), (q8, .inl (cy 0, 4, .inl ar8))] ++ wK cy x K) H → va_D A ([(q14, .inl (cy 0, 20, .inl ar14)), (q8, .inl (cy 0, 4, .inl ar8))] ++ wK cy x K) → va_S A s.heap H locs → ∀ (ls : Array Slot), lv_has ls 14 [(0, .ref (x 0)), (1, .int a1), (2, .int x2), (3, .int x3), (4, .int x4), (5, .ref (q8)), (6, .ref (q14)), (7, .int x7), (9, .int x9), (10, .int x10), (11, .int x11)] → W p l e r_L_side s m args below meth c H locs 2 24 (MQ below Qc args s 2 24 A) (F0 m 296 ls []) := by
          intro ar8 ar14 x2 x3 x4 x7 x9 x10 x11 h K hG H locs hP hD hS ls hl
          unfold p_L_side_296 at h
          refine lv_iload hx hb dL_side_296 (lv_at hl 10 rfl) ?_
          refine lv_aload_n hx hb dL_side_298 rfl (lv_at hl 0 rfl) ?_
          refine lv_iconst (v := 1) hx hb dL_side_299 (by decide) ?_
          refine w_callK0 (pl := [(q14, .inl (cy 0, 20, .inl ar14)), (q8, .inl (cy 0, 4, .inl ar8))]) hP hD hS hA (va_runV (As := [.int 1]) (rest := [.int x11]) ⟨hx, hb, hml, hown, hts⟩ (m_card l D cy H.size x K o hG 1) (cwV 1 hts gL_side_X8_card rfl rfl rfl (by decide +kernel) ⟨Nat.le_of_ble_eq_true rfl, Nat.le_of_ble_eq_true rfl⟩) (w_preVK (pl := [(q14, .inl (cy 0, 20, .inl ar14)), (q8, .inl (cy 0, 4, .inl ar8))]) (ci := 8) hE hS hA hK hP hD rfl rfl) rfl rfl hl.1 rfl (lv_room (Nat.le_of_ble_eq_true rfl)) dL_side_300 ⟨Nat.le_of_ble_eq_true rfl, Nat.le_of_ble_eq_true rfl⟩) (fun r41 u H locs hw hP hD hS => ?_)
          obtain ⟨Kc42, rfl, hG, hr_⟩ := hw
          replace h := h r41 hr_
          clear hr_
          have hP : va_P D vwCl ([(q14, .inl (cy 0, 20, .inl ar14)), (q8, .inl (cy 0, 4, .inl ar8))] ++ wK cy x Kc42) H := hP
          have hD : va_D A ([(q14, .inl (cy 0, 20, .inl ar14)), (q8, .inl (cy 0, 4, .inl ar8))] ++ wK cy x Kc42) := hD
          refine lv_icmp_gt (tgt := 334) hx hb dL_side_303 rfl (fun hc => ?_) (fun hc => ?_)
          · replace h := h.1 hc
            refine lv_iconst (v := 0) hx hb dL_side_334 (by decide) ?_
            exact W.zret hx hb hr rfl (fun t ht _ => hend 0 _ _ _ (Or.inl rfl) hG h (w_tailP hP) (w_tailD hD) hS t ht) hS.2.2 dL_side_335
          · replace h := h.2 hc
            refine lv_aload_n hx hb dL_side_306 rfl (lv_at hl 0 rfl) ?_
            refine lv_iload_n hx hb dL_side_307 rfl (lv_at hl 1 rfl) ?_
            refine lv_iload_n hx hb dL_side_308 rfl (lv_at hl 2 rfl) ?_
            refine lv_iconst (v := 3) hx hb dL_side_309 (by decide) ?_
            refine w_callK0 (pl := [(q14, .inl (cy 0, 20, .inl ar14)), (q8, .inl (cy 0, 4, .inl ar8))]) hP hD hS hA (va_runV (As := [.int a1, .int x2, .int 3]) (rest := []) ⟨hx, hb, hml, hown, hts⟩ (m_line l D cy H.size x Kc42 o hG a1 x2 3) (cwV 3 hts gL_side_X8_line rfl rfl rfl (by decide +kernel) ⟨Nat.le_of_ble_eq_true rfl, Nat.le_of_ble_eq_true rfl⟩) (w_preVK (pl := [(q14, .inl (cy 0, 20, .inl ar14)), (q8, .inl (cy 0, 4, .inl ar8))]) (ci := 8) hE hS hA hK hP hD rfl rfl) rfl rfl hl.1 rfl (lv_room (Nat.le_of_ble_eq_true rfl)) dL_side_310 ⟨Nat.le_of_ble_eq_true rfl, Nat.le_of_ble_eq_true rfl⟩) (fun r44 u H locs hw hP hD hS => ?_)
            obtain ⟨Kc45, rfl, hG, hr_⟩ := hw
            replace h := h r44 hr_
            clear hr_
            have hP : va_P D vwCl ([(q14, .inl (cy 0, 20, .inl ar14)), (q8, .inl (cy 0, 4, .inl ar8))] ++ wK cy x Kc45) H := hP
            have hD : va_D A ([(q14, .inl (cy 0, 20, .inl ar14)), (q8, .inl (cy 0, 4, .inl ar8))] ++ wK cy x Kc45) := hD
            refine lv_aload_n hx hb dL_side_313 rfl (lv_at hl 0 rfl) ?_
            refine lv_iload hx hb dL_side_314 (lv_at hl 8 rfl) ?_
            refine lv_iconst (v := 5) hx hb dL_side_316 (by decide) ?_
            refine w_callK0 (pl := [(q14, .inl (cy 0, 20, .inl ar14)), (q8, .inl (cy 0, 4, .inl ar8))]) hP hD hS hA (va_runV (As := [.int x9, .int 5]) (rest := [.int r44]) ⟨hx, hb, hml, hown, hts⟩ (m_dish l D cy H.size x Kc45 o hG x9 5) (cwV 2 hts gL_side_X8_dish rfl rfl rfl (by decide +kernel) ⟨Nat.le_of_ble_eq_true rfl, Nat.le_of_ble_eq_true rfl⟩) (w_preVK (pl := [(q14, .inl (cy 0, 20, .inl ar14)), (q8, .inl (cy 0, 4, .inl ar8))]) (ci := 8) hE hS hA hK hP hD rfl rfl) rfl rfl hl.1 rfl (lv_room (Nat.le_of_ble_eq_true rfl)) dL_side_317 ⟨Nat.le_of_ble_eq_true rfl, Nat.le_of_ble_eq_true rfl⟩) (fun r47 u H locs hw hP hD hS => ?_)
            obtain ⟨Kc48, rfl, hG, hr_⟩ := hw
            replace h := h r47 hr_
            clear hr_
            have hP : va_P D vwCl ([(q14, .inl (cy 0, 20, .inl ar14)), (q8, .inl (cy 0, 4, .inl ar8))] ++ wK cy x Kc48) H := hP
            have hD : va_D A ([(q14, .inl (cy 0, 20, .inl ar14)), (q8, .inl (cy 0, 4, .inl ar8))] ++ wK cy x Kc48) := hD
            refine lv_iload hx hb dL_side_320 (lv_at hl 9 rfl) ?_
            refine lv_if_ne (tgt := 329) hx hb dL_side_322 rfl (fun hc => ?_) (fun hc => ?_)
            · replace h := h.1 hc
              refine lv_iconst (v := 0) hx hb dL_side_329 (by decide) ?_
              exact j330 ar8 ar14 x2 x3 x4 x7 r44 r47 0 h _ hG _ _ hP hD hS _ (lv_sub hl [0, 1, 2, 3, 4, 5, 6, 7] rfl)
            · replace h := h.2 hc
              refine lv_iconst (v := 2) hx hb dL_side_325 (by decide) ?_
              refine lv_goto (tgt := 330) hx hb dL_side_326 rfl ?_
              exact j330 ar8 ar14 x2 x3 x4 x7 r44 r47 2 h _ hG _ _ hP hD hS _ (lv_sub hl [0, 1, 2, 3, 4, 5, 6, 7] rfl)
        have j286 : ∀ (ar8 : Nat → Int32) (ar14 : Nat → Int32) (x2 : Int32) (x3 : Int32) (x4 : Int32) (x7 : Int32) (x9 : Int32) (x10 : Int32) (x11 : Int32) (x12 : Int32) (x13 : Int32), p_L_side_286 o a1 ar8 ar14 x2 x3 x4 x7 x9 x10 x11 x12 x13 K21 Q → ∀ (K : sK), Good o K → ∀ (H : Heap) (locs : List Loc), va_P D vwCl ([(q14, .inl (cy 0, 20, .inl ar14)), (q8, .inl (cy 0, 4, .inl ar8))] ++ wK cy x K) H → va_D A ([(q14, .inl (cy 0, 20, .inl ar14)), (q8, .inl (cy 0, 4, .inl ar8))] ++ wK cy x K) → va_S A s.heap H locs → ∀ (ls : Array Slot), lv_has ls 14 [(0, .ref (x 0)), (1, .int a1), (2, .int x2), (3, .int x3), (4, .int x4), (5, .ref (q8)), (6, .ref (q14)), (7, .int x7), (9, .int x9), (10, .int x10), (11, .int x11), (12, .int x12), (13, .int x13)] → W p l e r_L_side s m args below meth c H locs 2 24 (MQ below Qc args s 2 24 A) (F0 m 286 ls []) := by
          intro ar8 ar14 x2 x3 x4 x7 x9 x10 x11 x12 x13 h K hG H locs hP hD hS ls hl
          unfold p_L_side_286 at h
          refine lv_iload hx hb dL_side_286 (lv_at hl 12 rfl) ?_
          refine lv_if_ne (tgt := 296) hx hb dL_side_288 rfl (fun hc => ?_) (fun hc => ?_)
          · replace h := h.1 hc
            exact j296 ar8 ar14 x2 x3 x4 x7 x9 x10 x11 h _ hG _ _ hP hD hS _ (lv_sub hl [0, 1, 2, 3, 4, 5, 6, 7, 8, 9, 10] rfl)
          · replace h := h.2 hc
            refine lv_iload hx hb dL_side_291 (lv_at hl 11 rfl) ?_
            refine lv_if_ne (tgt := 334) hx hb dL_side_293 rfl (fun hc => ?_) (fun hc => ?_)
            · replace h := h.1 hc
              refine lv_iconst (v := 0) hx hb dL_side_334 (by decide) ?_
              exact W.zret hx hb hr rfl (fun t ht _ => hend 0 _ _ _ (Or.inl rfl) hG h (w_tailP hP) (w_tailD hD) hS t ht) hS.2.2 dL_side_335
            · replace h := h.2 hc
              exact j296 ar8 ar14 x2 x3 x4 x7 x9 x10 x11 h _ hG _ _ hP hD hS _ (lv_sub hl [0, 1, 2, 3, 4, 5, 6, 7, 8, 9, 10] rfl)
        have j210 : ∀ (ar8 : Nat → Int32) (ar14 : Nat → Int32) (x2 : Int32) (x3 : Int32) (x4 : Int32) (x7 : Int32) (x9 : Int32) (x10 : Int32) (x11 : Int32) (x12 : Int32) (k0 : Int32), p_L_side_210 o a1 ar8 ar14 x2 x3 x4 x7 x9 x10 x11 x12 k0 K21 Q → ∀ (K : sK), Good o K → ∀ (H : Heap) (locs : List Loc), va_P D vwCl ([(q14, .inl (cy 0, 20, .inl ar14)), (q8, .inl (cy 0, 4, .inl ar8))] ++ wK cy x K) H → va_D A ([(q14, .inl (cy 0, 20, .inl ar14)), (q8, .inl (cy 0, 4, .inl ar8))] ++ wK cy x K) → va_S A s.heap H locs → ∀ (ls : Array Slot), lv_has ls 14 [(0, .ref (x 0)), (1, .int a1), (2, .int x2), (3, .int x3), (4, .int x4), (5, .ref (q8)), (6, .ref (q14)), (7, .int x7), (9, .int x9), (10, .int x10), (11, .int x11), (12, .int x12)] → W p l e r_L_side s m args below meth c H locs 2 24 (MQ below Qc args s 2 24 A) (F0 m 210 ls [.int k0]) := by
          intro ar8 ar14 x2 x3 x4 x7 x9 x10 x11 x12 k0 h K hG H locs hP hD hS ls hl
          unfold p_L_side_210 at h
          refine lv_istore (lv' := [(13, .int k0), (0, .ref (x 0)), (1, .int a1), (2, .int x2), (3, .int x3), (4, .int x4), (5, .ref (q8)), (6, .ref (q14)), (7, .int x7), (9, .int x9), (10, .int x10), (11, .int x11), (12, .int x12)]) hx hb dL_side_210 hl (by decide) rfl (fun ls hl => ?_)
          refine lv_aload hx hb dL_side_212 (lv_at hl 7 rfl) ?_
          refine lv_iload hx hb dL_side_214 (lv_at hl 9 rfl) ?_
          refine lv_dup2_11 hx hb dL_side_216 rfl rfl ?_
          obtain ⟨hi, h⟩ := h
          refine va_iald hx hb hK hP 0 0 rfl rfl hi dL_side_217 ?_
          refine lv_iload hx hb dL_side_218 (lv_at hl 11 rfl) ?_
          refine lv_iadd hx hb dL_side_220 ?_
          obtain ⟨hi, h⟩ := h
          refine va_iast hx hb hK hP hD hS 0 0 rfl rfl hi dL_side_221 (fun H locs hP hD hS => ?_)
          have hP : va_P D vwCl ([(q14, .inl (cy 0, 20, .inl ((upd ar14 x9.toNatClampNeg (((ar14 x9.toNatClampNeg) + x11)))))), (q8, .inl (cy 0, 4, .inl ar8))] ++ wK cy x K) H := hP
          have hD : va_D A ([(q14, .inl (cy 0, 20, .inl ((upd ar14 x9.toNatClampNeg (((ar14 x9.toNatClampNeg) + x11)))))), (q8, .inl (cy 0, 4, .inl ar8))] ++ wK cy x K) := hD
          refine lv_aload_n hx hb dL_side_222 rfl (lv_at hl 1 rfl) ?_
          refine lv_iload hx hb dL_side_223 (lv_at hl 9 rfl) ?_
          refine lv_bipush (v := 8) hx hb dL_side_225 (by decide) ?_
          refine w_callK0 (pl := [(q14, .inl (cy 0, 20, .inl ((upd ar14 x9.toNatClampNeg (((ar14 x9.toNatClampNeg) + x11)))))), (q8, .inl (cy 0, 4, .inl ar8))]) hP hD hS hA (va_runV (As := [.int x9, .int 8]) (rest := []) ⟨hx, hb, hml, hown, hts⟩ (m_dish l D cy H.size x K o hG x9 8) (cwV 2 hts gL_side_X8_dish rfl rfl rfl (by decide +kernel) ⟨Nat.le_of_ble_eq_true rfl, Nat.le_of_ble_eq_true rfl⟩) (w_preVK (pl := [(q14, .inl (cy 0, 20, .inl ((upd ar14 x9.toNatClampNeg (((ar14 x9.toNatClampNeg) + x11)))))), (q8, .inl (cy 0, 4, .inl ar8))]) (ci := 8) hE hS hA hK hP hD rfl rfl) rfl rfl hl.1 rfl (lv_room (Nat.le_of_ble_eq_true rfl)) dL_side_227 ⟨Nat.le_of_ble_eq_true rfl, Nat.le_of_ble_eq_true rfl⟩) (fun r50 u H locs hw hP hD hS => ?_)
          obtain ⟨Kc51, rfl, hG, hr_⟩ := hw
          replace h := h r50 hr_
          clear hr_
          have hP : va_P D vwCl ([(q14, .inl (cy 0, 20, .inl ((upd ar14 x9.toNatClampNeg (((ar14 x9.toNatClampNeg) + x11)))))), (q8, .inl (cy 0, 4, .inl ar8))] ++ wK cy x Kc51) H := hP
          have hD : va_D A ([(q14, .inl (cy 0, 20, .inl ((upd ar14 x9.toNatClampNeg (((ar14 x9.toNatClampNeg) + x11)))))), (q8, .inl (cy 0, 4, .inl ar8))] ++ wK cy x Kc51) := hD
          refine lv_iload hx hb dL_side_230 (lv_at hl 10 rfl) ?_
          refine lv_iadd hx hb dL_side_232 ?_
          refine lv_iload_n hx hb dL_side_233 rfl (lv_at hl 3 rfl) ?_
          refine lv_icmp_ne (tgt := 334) hx hb dL_side_234 rfl (fun hc => ?_) (fun hc => ?_)
          · replace h := h.1 hc
            refine lv_iconst (v := 0) hx hb dL_side_334 (by decide) ?_
            exact W.zret hx hb hr rfl (fun t ht _ => hend 0 _ _ _ (Or.inl rfl) hG h (w_tailP hP) (w_tailD hD) hS t ht) hS.2.2 dL_side_335
          · replace h := h.2 hc
            refine lv_aload_n hx hb dL_side_237 rfl (lv_at hl 1 rfl) ?_
            refine lv_bipush (v := 6) hx hb dL_side_238 (by decide) ?_
            refine lv_aload_n hx hb dL_side_240 rfl (lv_at hl 1 rfl) ?_
            refine lv_iload hx hb dL_side_241 (lv_at hl 9 rfl) ?_
            refine lv_iconst (v := 0) hx hb dL_side_243 (by decide) ?_
            refine w_callK0 (pl := [(q14, .inl (cy 0, 20, .inl ((upd ar14 x9.toNatClampNeg (((ar14 x9.toNatClampNeg) + x11)))))), (q8, .inl (cy 0, 4, .inl ar8))]) hP hD hS hA (va_runV (As := [.int x9, .int 0]) (rest := [.int 6, .ref (x 0)]) ⟨hx, hb, hml, hown, hts⟩ (m_dish l D cy H.size x Kc51 o hG x9 0) (cwV 2 hts gL_side_X8_dish rfl rfl rfl (by decide +kernel) ⟨Nat.le_of_ble_eq_true rfl, Nat.le_of_ble_eq_true rfl⟩) (w_preVK (pl := [(q14, .inl (cy 0, 20, .inl ((upd ar14 x9.toNatClampNeg (((ar14 x9.toNatClampNeg) + x11)))))), (q8, .inl (cy 0, 4, .inl ar8))]) (ci := 8) hE hS hA hK hP hD rfl rfl) rfl rfl hl.1 rfl (lv_room (Nat.le_of_ble_eq_true rfl)) dL_side_244 ⟨Nat.le_of_ble_eq_true rfl, Nat.le_of_ble_eq_true rfl⟩) (fun r53 u H locs hw hP hD hS => ?_)
            obtain ⟨Kc54, rfl, hG, hr_⟩ := hw
            replace h := h r53 hr_
            clear hr_
            have hP : va_P D vwCl ([(q14, .inl (cy 0, 20, .inl ((upd ar14 x9.toNatClampNeg (((ar14 x9.toNatClampNeg) + x11)))))), (q8, .inl (cy 0, 4, .inl ar8))] ++ wK cy x Kc54) H := hP
            have hD : va_D A ([(q14, .inl (cy 0, 20, .inl ((upd ar14 x9.toNatClampNeg (((ar14 x9.toNatClampNeg) + x11)))))), (q8, .inl (cy 0, 4, .inl ar8))] ++ wK cy x Kc54) := hD
            refine lv_iadd hx hb dL_side_247 ?_
            refine w_callK0 (pl := [(q14, .inl (cy 0, 20, .inl ((upd ar14 x9.toNatClampNeg (((ar14 x9.toNatClampNeg) + x11)))))), (q8, .inl (cy 0, 4, .inl ar8))]) hP hD hS hA (va_runV (As := [.int (6 + r53)]) (rest := []) ⟨hx, hb, hml, hown, hts⟩ (m_card l D cy H.size x Kc54 o hG ((6 + r53))) (cwV 1 hts gL_side_X8_card rfl rfl rfl (by decide +kernel) ⟨Nat.le_of_ble_eq_true rfl, Nat.le_of_ble_eq_true rfl⟩) (w_preVK (pl := [(q14, .inl (cy 0, 20, .inl ((upd ar14 x9.toNatClampNeg (((ar14 x9.toNatClampNeg) + x11)))))), (q8, .inl (cy 0, 4, .inl ar8))]) (ci := 8) hE hS hA hK hP hD rfl rfl) rfl rfl hl.1 rfl (lv_room (Nat.le_of_ble_eq_true rfl)) dL_side_248 ⟨Nat.le_of_ble_eq_true rfl, Nat.le_of_ble_eq_true rfl⟩) (fun r56 u H locs hw hP hD hS => ?_)
            obtain ⟨Kc57, rfl, hG, hr_⟩ := hw
            replace h := h r56 hr_
            clear hr_
            have hP : va_P D vwCl ([(q14, .inl (cy 0, 20, .inl ((upd ar14 x9.toNatClampNeg (((ar14 x9.toNatClampNeg) + x11)))))), (q8, .inl (cy 0, 4, .inl ar8))] ++ wK cy x Kc57) H := hP
            have hD : va_D A ([(q14, .inl (cy 0, 20, .inl ((upd ar14 x9.toNatClampNeg (((ar14 x9.toNatClampNeg) + x11)))))), (q8, .inl (cy 0, 4, .inl ar8))] ++ wK cy x Kc57) := hD
            refine lv_iload_n hx hb dL_side_251 rfl (lv_at hl 2 rfl) ?_
            refine lv_icmp_ne (tgt := 334) hx hb dL_side_252 rfl (fun hc => ?_) (fun hc => ?_)
            · replace h := h.1 hc
              refine lv_iconst (v := 0) hx hb dL_side_334 (by decide) ?_
              exact W.zret hx hb hr rfl (fun t ht _ => hend 0 _ _ _ (Or.inl rfl) hG h (w_tailP hP) (w_tailD hD) hS t ht) hS.2.2 dL_side_335
            · replace h := h.2 hc
              refine lv_iload hx hb dL_side_255 (lv_at hl 0 rfl) ?_
              refine lv_if_eq (tgt := 286) hx hb dL_side_257 rfl (fun hc => ?_) (fun hc => ?_)
              · replace h := h.1 hc
                exact j286 ar8 ((upd ar14 x9.toNatClampNeg (((ar14 x9.toNatClampNeg) + x11)))) x2 x3 x4 x7 x9 x10 x11 x12 k0 h _ hG _ _ hP hD hS _ (lv_sub hl [1, 2, 3, 4, 5, 6, 7, 8, 9, 10, 11, 12, 0] rfl)
              · replace h := h.2 hc
                refine lv_iload hx hb dL_side_260 (lv_at hl 12 rfl) ?_
                refine lv_iconst (v := 3) hx hb dL_side_262 (by decide) ?_
                refine lv_icmp_lt (tgt := 334) hx hb dL_side_263 rfl (fun hc => ?_) (fun hc => ?_)
                · replace h := h.1 hc
                  refine lv_iconst (v := 0) hx hb dL_side_334 (by decide) ?_
                  exact W.zret hx hb hr rfl (fun t ht _ => hend 0 _ _ _ (Or.inl rfl) hG h (w_tailP hP) (w_tailD hD) hS t ht) hS.2.2 dL_side_335
                · replace h := h.2 hc
                  refine lv_iload hx hb dL_side_266 (lv_at hl 11 rfl) ?_
                  refine lv_iload hx hb dL_side_268 (lv_at hl 12 rfl) ?_
                  refine lv_iadd hx hb dL_side_270 ?_
                  refine lv_aload_n hx hb dL_side_271 rfl (lv_at hl 1 rfl) ?_
                  refine lv_bipush (v := 6) hx hb dL_side_272 (by decide) ?_
                  refine w_callK0 (pl := [(q14, .inl (cy 0, 20, .inl ((upd ar14 x9.toNatClampNeg (((ar14 x9.toNatClampNeg) + x11)))))), (q8, .inl (cy 0, 4, .inl ar8))]) hP hD hS hA (va_runV (As := [.int 6]) (rest := [.int (x11 + x12)]) ⟨hx, hb, hml, hown, hts⟩ (m_count l D cy H.size x Kc57 o hG 6) (cwV 1 hts gL_side_X8_count rfl rfl rfl (by decide +kernel) ⟨Nat.le_of_ble_eq_true rfl, Nat.le_of_ble_eq_true rfl⟩) (w_preVK (pl := [(q14, .inl (cy 0, 20, .inl ((upd ar14 x9.toNatClampNeg (((ar14 x9.toNatClampNeg) + x11)))))), (q8, .inl (cy 0, 4, .inl ar8))]) (ci := 8) hE hS hA hK hP hD rfl rfl) rfl rfl hl.1 rfl (lv_room (Nat.le_of_ble_eq_true rfl)) dL_side_274 ⟨Nat.le_of_ble_eq_true rfl, Nat.le_of_ble_eq_true rfl⟩) (fun r59 u H locs hw hP hD hS => ?_)
                  obtain ⟨Kc60, rfl, hG, hr_⟩ := hw
                  replace h := h r59 hr_
                  clear hr_
                  have hP : va_P D vwCl ([(q14, .inl (cy 0, 20, .inl ((upd ar14 x9.toNatClampNeg (((ar14 x9.toNatClampNeg) + x11)))))), (q8, .inl (cy 0, 4, .inl ar8))] ++ wK cy x Kc60) H := hP
                  have hD : va_D A ([(q14, .inl (cy 0, 20, .inl ((upd ar14 x9.toNatClampNeg (((ar14 x9.toNatClampNeg) + x11)))))), (q8, .inl (cy 0, 4, .inl ar8))] ++ wK cy x Kc60) := hD
                  refine lv_iadd hx hb dL_side_277 ?_
                  refine lv_aload_n hx hb dL_side_278 rfl (lv_at hl 1 rfl) ?_
                  refine lv_iconst (v := 1) hx hb dL_side_279 (by decide) ?_
                  refine w_callK0 (pl := [(q14, .inl (cy 0, 20, .inl ((upd ar14 x9.toNatClampNeg (((ar14 x9.toNatClampNeg) + x11)))))), (q8, .inl (cy 0, 4, .inl ar8))]) hP hD hS hA (va_runV (As := [.int 1]) (rest := [.int ((x11 + x12) + r59)]) ⟨hx, hb, hml, hown, hts⟩ (m_card l D cy H.size x Kc60 o hG 1) (cwV 1 hts gL_side_X8_card rfl rfl rfl (by decide +kernel) ⟨Nat.le_of_ble_eq_true rfl, Nat.le_of_ble_eq_true rfl⟩) (w_preVK (pl := [(q14, .inl (cy 0, 20, .inl ((upd ar14 x9.toNatClampNeg (((ar14 x9.toNatClampNeg) + x11)))))), (q8, .inl (cy 0, 4, .inl ar8))]) (ci := 8) hE hS hA hK hP hD rfl rfl) rfl rfl hl.1 rfl (lv_room (Nat.le_of_ble_eq_true rfl)) dL_side_280 ⟨Nat.le_of_ble_eq_true rfl, Nat.le_of_ble_eq_true rfl⟩) (fun r62 u H locs hw hP hD hS => ?_)
                  obtain ⟨Kc63, rfl, hG, hr_⟩ := hw
                  replace h := h r62 hr_
                  clear hr_
                  have hP : va_P D vwCl ([(q14, .inl (cy 0, 20, .inl ((upd ar14 x9.toNatClampNeg (((ar14 x9.toNatClampNeg) + x11)))))), (q8, .inl (cy 0, 4, .inl ar8))] ++ wK cy x Kc63) H := hP
                  have hD : va_D A ([(q14, .inl (cy 0, 20, .inl ((upd ar14 x9.toNatClampNeg (((ar14 x9.toNatClampNeg) + x11)))))), (q8, .inl (cy 0, 4, .inl ar8))] ++ wK cy x Kc63) := hD
                  refine lv_icmp_ne (tgt := 334) hx hb dL_side_283 rfl (fun hc => ?_) (fun hc => ?_)
                  · replace h := h.1 hc
                    refine lv_iconst (v := 0) hx hb dL_side_334 (by decide) ?_
                    exact W.zret hx hb hr rfl (fun t ht _ => hend 0 _ _ _ (Or.inl rfl) hG h (w_tailP hP) (w_tailD hD) hS t ht) hS.2.2 dL_side_335
                  · replace h := h.2 hc
                    exact j286 ar8 ((upd ar14 x9.toNatClampNeg (((ar14 x9.toNatClampNeg) + x11)))) x2 x3 x4 x7 x9 x10 x11 x12 k0 h _ hG _ _ hP hD hS _ (lv_sub hl [1, 2, 3, 4, 5, 6, 7, 8, 9, 10, 11, 12, 0] rfl)
        have j166 : ∀ (ar8 : Nat → Int32) (ar14 : Nat → Int32) (x2 : Int32) (x3 : Int32) (x4 : Int32) (x7 : Int32) (x8 : Int32) (x9 : Int32) (x10 : Int32), p_L_side_166 o a1 ar8 ar14 x2 x3 x4 x7 x8 x9 x10 K21 Q → ∀ (K : sK), Good o K → ∀ (H : Heap) (locs : List Loc), va_P D vwCl ([(q14, .inl (cy 0, 20, .inl ar14)), (q8, .inl (cy 0, 4, .inl ar8))] ++ wK cy x K) H → va_D A ([(q14, .inl (cy 0, 20, .inl ar14)), (q8, .inl (cy 0, 4, .inl ar8))] ++ wK cy x K) → va_S A s.heap H locs → ∀ (ls : Array Slot), lv_has ls 14 [(0, .ref (x 0)), (1, .int a1), (2, .int x2), (3, .int x3), (4, .int x4), (5, .ref (q8)), (6, .ref (q14)), (7, .int x7), (8, .int x8), (9, .int x9), (10, .int x10)] → W p l e r_L_side s m args below meth c H locs 2 24 (MQ below Qc args s 2 24 A) (F0 m 166 ls []) := by
          intro ar8 ar14 x2 x3 x4 x7 x8 x9 x10 h K hG H locs hP hD hS ls hl
          unfold p_L_side_166 at h
          refine lv_iload hx hb dL_side_166 (lv_at hl 8 rfl) ?_
          refine lv_iconst (v := 2) hx hb dL_side_168 (by decide) ?_
          refine lv_icmp_ne (tgt := 336) hx hb dL_side_169 rfl (fun hc => ?_) (fun hc => ?_)
          · replace h := h.1 hc
            exact j336 ar8 ar14 x2 x3 x4 x7 h _ hG _ _ hP hD hS _ (lv_sub hl [0, 1, 2, 3, 4, 5, 6, 7] rfl)
          · replace h := h.2 hc
            refine lv_aload_n hx hb dL_side_172 rfl (lv_at hl 0 rfl) ?_
            refine lv_iload_n hx hb dL_side_173 rfl (lv_at hl 1 rfl) ?_
            refine lv_iload_n hx hb dL_side_174 rfl (lv_at hl 2 rfl) ?_
            refine lv_iconst (v := 4) hx hb dL_side_175 (by decide) ?_
            refine w_callK0 (pl := [(q14, .inl (cy 0, 20, .inl ar14)), (q8, .inl (cy 0, 4, .inl ar8))]) hP hD hS hA (va_runV (As := [.int a1, .int x2, .int 4]) (rest := []) ⟨hx, hb, hml, hown, hts⟩ (m_line l D cy H.size x K o hG a1 x2 4) (cwV 3 hts gL_side_X8_line rfl rfl rfl (by decide +kernel) ⟨Nat.le_of_ble_eq_true rfl, Nat.le_of_ble_eq_true rfl⟩) (w_preVK (pl := [(q14, .inl (cy 0, 20, .inl ar14)), (q8, .inl (cy 0, 4, .inl ar8))]) (ci := 8) hE hS hA hK hP hD rfl rfl) rfl rfl hl.1 rfl (lv_room (Nat.le_of_ble_eq_true rfl)) dL_side_176 ⟨Nat.le_of_ble_eq_true rfl, Nat.le_of_ble_eq_true rfl⟩) (fun r65 u H locs hw hP hD hS => ?_)
            obtain ⟨Kc66, rfl, hG, hr_⟩ := hw
            replace h := h r65 hr_
            clear hr_
            have hP : va_P D vwCl ([(q14, .inl (cy 0, 20, .inl ar14)), (q8, .inl (cy 0, 4, .inl ar8))] ++ wK cy x Kc66) H := hP
            have hD : va_D A ([(q14, .inl (cy 0, 20, .inl ar14)), (q8, .inl (cy 0, 4, .inl ar8))] ++ wK cy x Kc66) := hD
            refine lv_istore (lv' := [(11, .int r65), (0, .ref (x 0)), (1, .int a1), (2, .int x2), (3, .int x3), (4, .int x4), (5, .ref (q8)), (6, .ref (q14)), (7, .int x7), (8, .int x8), (9, .int x9), (10, .int x10)]) hx hb dL_side_179 hl (by decide) rfl (fun ls hl => ?_)
            refine lv_aload_n hx hb dL_side_181 rfl (lv_at hl 1 rfl) ?_
            refine lv_iload_n hx hb dL_side_182 rfl (lv_at hl 2 rfl) ?_
            refine lv_iload_n hx hb dL_side_183 rfl (lv_at hl 3 rfl) ?_
            refine lv_iconst (v := 5) hx hb dL_side_184 (by decide) ?_
            refine w_callK0 (pl := [(q14, .inl (cy 0, 20, .inl ar14)), (q8, .inl (cy 0, 4, .inl ar8))]) hP hD hS hA (va_runV (As := [.int a1, .int x2, .int 5]) (rest := []) ⟨hx, hb, hml, hown, hts⟩ (m_line l D cy H.size x Kc66 o hG a1 x2 5) (cwV 3 hts gL_side_X8_line rfl rfl rfl (by decide +kernel) ⟨Nat.le_of_ble_eq_true rfl, Nat.le_of_ble_eq_true rfl⟩) (w_preVK (pl := [(q14, .inl (cy 0, 20, .inl ar14)), (q8, .inl (cy 0, 4, .inl ar8))]) (ci := 8) hE hS hA hK hP hD rfl rfl) rfl rfl hl.1 rfl (lv_room (Nat.le_of_ble_eq_true rfl)) dL_side_185 ⟨Nat.le_of_ble_eq_true rfl, Nat.le_of_ble_eq_true rfl⟩) (fun r68 u H locs hw hP hD hS => ?_)
            obtain ⟨Kc69, rfl, hG, hr_⟩ := hw
            replace h := h r68 hr_
            clear hr_
            have hP : va_P D vwCl ([(q14, .inl (cy 0, 20, .inl ar14)), (q8, .inl (cy 0, 4, .inl ar8))] ++ wK cy x Kc69) H := hP
            have hD : va_D A ([(q14, .inl (cy 0, 20, .inl ar14)), (q8, .inl (cy 0, 4, .inl ar8))] ++ wK cy x Kc69) := hD
            refine lv_istore (lv' := [(12, .int r68), (11, .int r65), (0, .ref (x 0)), (1, .int a1), (2, .int x2), (3, .int x3), (4, .int x4), (5, .ref (q8)), (6, .ref (q14)), (7, .int x7), (8, .int x8), (9, .int x9), (10, .int x10)]) hx hb dL_side_188 hl (by decide) rfl (fun ls hl => ?_)
            refine lv_iload hx hb dL_side_190 (lv_at hl 12 rfl) ?_
            refine lv_aload_n hx hb dL_side_192 rfl (lv_at hl 2 rfl) ?_
            refine lv_iload hx hb dL_side_193 (lv_at hl 11 rfl) ?_
            refine lv_bipush (v := 7) hx hb dL_side_195 (by decide) ?_
            refine w_callK0 (pl := [(q14, .inl (cy 0, 20, .inl ar14)), (q8, .inl (cy 0, 4, .inl ar8))]) hP hD hS hA (va_runV (As := [.int x9, .int 7]) (rest := [.int x10]) ⟨hx, hb, hml, hown, hts⟩ (m_dish l D cy H.size x Kc69 o hG x9 7) (cwV 2 hts gL_side_X8_dish rfl rfl rfl (by decide +kernel) ⟨Nat.le_of_ble_eq_true rfl, Nat.le_of_ble_eq_true rfl⟩) (w_preVK (pl := [(q14, .inl (cy 0, 20, .inl ar14)), (q8, .inl (cy 0, 4, .inl ar8))]) (ci := 8) hE hS hA hK hP hD rfl rfl) rfl rfl hl.1 rfl (lv_room (Nat.le_of_ble_eq_true rfl)) dL_side_197 ⟨Nat.le_of_ble_eq_true rfl, Nat.le_of_ble_eq_true rfl⟩) (fun r71 u H locs hw hP hD hS => ?_)
            obtain ⟨Kc72, rfl, hG, hr_⟩ := hw
            replace h := h r71 hr_
            clear hr_
            have hP : va_P D vwCl ([(q14, .inl (cy 0, 20, .inl ar14)), (q8, .inl (cy 0, 4, .inl ar8))] ++ wK cy x Kc72) H := hP
            have hD : va_D A ([(q14, .inl (cy 0, 20, .inl ar14)), (q8, .inl (cy 0, 4, .inl ar8))] ++ wK cy x Kc72) := hD
            refine lv_iconst (v := 1) hx hb dL_side_200 (by decide) ?_
            refine lv_isub hx hb dL_side_201 ?_
            refine lv_icmp_ne (tgt := 209) hx hb dL_side_202 rfl (fun hc => ?_) (fun hc => ?_)
            · replace h := h.1 hc
              refine lv_iconst (v := 0) hx hb dL_side_209 (by decide) ?_
              exact j210 ar8 ar14 x2 x3 x4 x7 x9 x10 r65 r68 0 h _ hG _ _ hP hD hS _ (lv_sub hl [2, 3, 4, 5, 6, 7, 8, 9, 11, 12, 1, 0] rfl)
            · replace h := h.2 hc
              refine lv_iconst (v := 1) hx hb dL_side_205 (by decide) ?_
              refine lv_goto (tgt := 210) hx hb dL_side_206 rfl ?_
              exact j210 ar8 ar14 x2 x3 x4 x7 x9 x10 r65 r68 1 h _ hG _ _ hP hD hS _ (lv_sub hl [2, 3, 4, 5, 6, 7, 8, 9, 11, 12, 1, 0] rfl)
        have j148 : ∀ (ar8 : Nat → Int32) (ar14 : Nat → Int32) (x2 : Int32) (x3 : Int32) (x4 : Int32) (x7 : Int32) (x8 : Int32) (x9 : Int32) (x10 : Int32), p_L_side_148 o a1 ar8 ar14 x2 x3 x4 x7 x8 x9 x10 K21 Q → ∀ (K : sK), Good o K → ∀ (H : Heap) (locs : List Loc), va_P D vwCl ([(q14, .inl (cy 0, 20, .inl ar14)), (q8, .inl (cy 0, 4, .inl ar8))] ++ wK cy x K) H → va_D A ([(q14, .inl (cy 0, 20, .inl ar14)), (q8, .inl (cy 0, 4, .inl ar8))] ++ wK cy x K) → va_S A s.heap H locs → ∀ (ls : Array Slot), lv_has ls 14 [(0, .ref (x 0)), (1, .int a1), (2, .int x2), (3, .int x3), (4, .int x4), (5, .ref (q8)), (6, .ref (q14)), (7, .int x7), (8, .int x8), (9, .int x9), (10, .int x10)] → W p l e r_L_side s m args below meth c H locs 2 24 (MQ below Qc args s 2 24 A) (F0 m 148 ls []) := by
          intro ar8 ar14 x2 x3 x4 x7 x8 x9 x10 h K hG H locs hP hD hS ls hl
          unfold p_L_side_148 at h
          refine lv_iload hx hb dL_side_148 (lv_at hl 8 rfl) ?_
          refine lv_iconst (v := 3) hx hb dL_side_150 (by decide) ?_
          refine lv_icmp_ne (tgt := 166) hx hb dL_side_151 rfl (fun hc => ?_) (fun hc => ?_)
          · replace h := h.1 hc
            exact j166 ar8 ar14 x2 x3 x4 x7 x8 x9 x10 h _ hG _ _ hP hD hS _ (lv_sub hl [0, 1, 2, 3, 4, 5, 6, 7, 8, 9, 10] rfl)
          · replace h := h.2 hc
            refine lv_aload_n hx hb dL_side_154 rfl (lv_at hl 0 rfl) ?_
            refine lv_bipush (v := 8) hx hb dL_side_155 (by decide) ?_
            refine w_callK0 (pl := [(q14, .inl (cy 0, 20, .inl ar14)), (q8, .inl (cy 0, 4, .inl ar8))]) hP hD hS hA (va_runV (As := [.int 8]) (rest := []) ⟨hx, hb, hml, hown, hts⟩ (m_count l D cy H.size x K o hG 8) (cwV 1 hts gL_side_X8_count rfl rfl rfl (by decide +kernel) ⟨Nat.le_of_ble_eq_true rfl, Nat.le_of_ble_eq_true rfl⟩) (w_preVK (pl := [(q14, .inl (cy 0, 20, .inl ar14)), (q8, .inl (cy 0, 4, .inl ar8))]) (ci := 8) hE hS hA hK hP hD rfl rfl) rfl rfl hl.1 rfl (lv_room (Nat.le_of_ble_eq_true rfl)) dL_side_157 ⟨Nat.le_of_ble_eq_true rfl, Nat.le_of_ble_eq_true rfl⟩) (fun r74 u H locs hw hP hD hS => ?_)
            obtain ⟨Kc75, rfl, hG, hr_⟩ := hw
            replace h := h r74 hr_
            clear hr_
            have hP : va_P D vwCl ([(q14, .inl (cy 0, 20, .inl ar14)), (q8, .inl (cy 0, 4, .inl ar8))] ++ wK cy x Kc75) H := hP
            have hD : va_D A ([(q14, .inl (cy 0, 20, .inl ar14)), (q8, .inl (cy 0, 4, .inl ar8))] ++ wK cy x Kc75) := hD
            refine lv_iload_n hx hb dL_side_160 rfl (lv_at hl 1 rfl) ?_
            refine lv_icmp_eq (tgt := 166) hx hb dL_side_161 rfl (fun hc => ?_) (fun hc => ?_)
            · replace h := h.1 hc
              exact j166 ar8 ar14 x2 x3 x4 x7 x8 x9 x10 h _ hG _ _ hP hD hS _ (lv_sub hl [0, 1, 2, 3, 4, 5, 6, 7, 8, 9, 10] rfl)
            · replace h := h.2 hc
              refine lv_iconst (v := 0) hx hb dL_side_164 (by decide) ?_
              exact W.zret hx hb hr rfl (fun t ht _ => hend 0 _ _ _ (Or.inl rfl) hG h (w_tailP hP) (w_tailD hD) hS t ht) hS.2.2 dL_side_165
        have j123 : ∀ (ar8 : Nat → Int32) (ar14 : Nat → Int32) (x2 : Int32) (x3 : Int32) (x4 : Int32) (x7 : Int32) (x8 : Int32) (x9 : Int32) (x10 : Int32), p_L_side_123 o a1 ar8 ar14 x2 x3 x4 x7 x8 x9 x10 K21 Q → ∀ (K : sK), Good o K → ∀ (H : Heap) (locs : List Loc), va_P D vwCl ([(q14, .inl (cy 0, 20, .inl ar14)), (q8, .inl (cy 0, 4, .inl ar8))] ++ wK cy x K) H → va_D A ([(q14, .inl (cy 0, 20, .inl ar14)), (q8, .inl (cy 0, 4, .inl ar8))] ++ wK cy x K) → va_S A s.heap H locs → ∀ (ls : Array Slot), lv_has ls 14 [(0, .ref (x 0)), (1, .int a1), (2, .int x2), (3, .int x3), (4, .int x4), (5, .ref (q8)), (6, .ref (q14)), (7, .int x7), (8, .int x8), (9, .int x9), (10, .int x10)] → W p l e r_L_side s m args below meth c H locs 2 24 (MQ below Qc args s 2 24 A) (F0 m 123 ls []) := by
          intro ar8 ar14 x2 x3 x4 x7 x8 x9 x10 h K hG H locs hP hD hS ls hl
          unfold p_L_side_123 at h
          refine lv_iload hx hb dL_side_123 (lv_at hl 8 rfl) ?_
          refine lv_iconst (v := 1) hx hb dL_side_125 (by decide) ?_
          refine lv_icmp_ne (tgt := 148) hx hb dL_side_126 rfl (fun hc => ?_) (fun hc => ?_)
          · replace h := h.1 hc
            exact j148 ar8 ar14 x2 x3 x4 x7 x8 x9 x10 h _ hG _ _ hP hD hS _ (lv_sub hl [0, 1, 2, 3, 4, 5, 6, 7, 8, 9, 10] rfl)
          · replace h := h.2 hc
            refine lv_aload_n hx hb dL_side_129 rfl (lv_at hl 0 rfl) ?_
            refine lv_bipush (v := 6) hx hb dL_side_130 (by decide) ?_
            refine lv_iload hx hb dL_side_132 (lv_at hl 9 rfl) ?_
            refine lv_iadd hx hb dL_side_134 ?_
            refine w_callK0 (pl := [(q14, .inl (cy 0, 20, .inl ar14)), (q8, .inl (cy 0, 4, .inl ar8))]) hP hD hS hA (va_runV (As := [.int (6 + x9)]) (rest := []) ⟨hx, hb, hml, hown, hts⟩ (m_card l D cy H.size x K o hG ((6 + x9))) (cwV 1 hts gL_side_X8_card rfl rfl rfl (by decide +kernel) ⟨Nat.le_of_ble_eq_true rfl, Nat.le_of_ble_eq_true rfl⟩) (w_preVK (pl := [(q14, .inl (cy 0, 20, .inl ar14)), (q8, .inl (cy 0, 4, .inl ar8))]) (ci := 8) hE hS hA hK hP hD rfl rfl) rfl rfl hl.1 rfl (lv_room (Nat.le_of_ble_eq_true rfl)) dL_side_135 ⟨Nat.le_of_ble_eq_true rfl, Nat.le_of_ble_eq_true rfl⟩) (fun r77 u H locs hw hP hD hS => ?_)
            obtain ⟨Kc78, rfl, hG, hr_⟩ := hw
            replace h := h r77 hr_
            clear hr_
            have hP : va_P D vwCl ([(q14, .inl (cy 0, 20, .inl ar14)), (q8, .inl (cy 0, 4, .inl ar8))] ++ wK cy x Kc78) H := hP
            have hD : va_D A ([(q14, .inl (cy 0, 20, .inl ar14)), (q8, .inl (cy 0, 4, .inl ar8))] ++ wK cy x Kc78) := hD
            refine lv_iload_n hx hb dL_side_138 rfl (lv_at hl 1 rfl) ?_
            refine lv_icmp_ne (tgt := 164) hx hb dL_side_139 rfl (fun hc => ?_) (fun hc => ?_)
            · replace h := h.1 hc
              refine lv_iconst (v := 0) hx hb dL_side_164 (by decide) ?_
              exact W.zret hx hb hr rfl (fun t ht _ => hend 0 _ _ _ (Or.inl rfl) hG h (w_tailP hP) (w_tailD hD) hS t ht) hS.2.2 dL_side_165
            · replace h := h.2 hc
              refine lv_iload hx hb dL_side_142 (lv_at hl 10 rfl) ?_
              refine lv_iconst (v := 1) hx hb dL_side_144 (by decide) ?_
              refine lv_icmp_gt (tgt := 164) hx hb dL_side_145 rfl (fun hc => ?_) (fun hc => ?_)
              · replace h := h.1 hc
                refine lv_iconst (v := 0) hx hb dL_side_164 (by decide) ?_
                exact W.zret hx hb hr rfl (fun t ht _ => hend 0 _ _ _ (Or.inl rfl) hG h (w_tailP hP) (w_tailD hD) hS t ht) hS.2.2 dL_side_165
              · replace h := h.2 hc
                exact j148 ar8 ar14 x2 x3 x4 x7 x8 x9 x10 h _ hG _ _ hP hD hS _ (lv_sub hl [0, 1, 2, 3, 4, 5, 6, 7, 8, 9, 10] rfl)
        have j93 : ∀ (ar8 : Nat → Int32) (ar14 : Nat → Int32) (x2 : Int32) (x3 : Int32) (x7 : Int32) (x8 : Int32) (x9 : Int32) (x10 : Int32) (k0 : Int32) (k1 : Int32), p_L_side_93 o a1 ar8 ar14 x2 x3 x7 x8 x9 x10 k0 k1 K21 Q → ∀ (K : sK), Good o K → ∀ (H : Heap) (locs : List Loc), va_P D vwCl ([(q14, .inl (cy 0, 20, .inl ar14)), (q8, .inl (cy 0, 4, .inl ar8))] ++ wK cy x K) H → va_D A ([(q14, .inl (cy 0, 20, .inl ar14)), (q8, .inl (cy 0, 4, .inl ar8))] ++ wK cy x K) → va_S A s.heap H locs → ∀ (ls : Array Slot), lv_has ls 14 [(0, .ref (x 0)), (1, .int a1), (2, .int x2), (3, .int x3), (5, .ref (q8)), (6, .ref (q14)), (7, .int x7), (8, .int x8), (9, .int x9), (10, .int x10)] → W p l e r_L_side s m args below meth c H locs 2 24 (MQ below Qc args s 2 24 A) (F0 m 93 ls [.int k1, .int k0]) := by
          intro ar8 ar14 x2 x3 x7 x8 x9 x10 k0 k1 h K hG H locs hP hD hS ls hl
          unfold p_L_side_93 at h
          refine lv_iadd hx hb dL_side_93 ?_
          refine lv_istore (lv' := [(4, .int (k0 + k1)), (0, .ref (x 0)), (1, .int a1), (2, .int x2), (3, .int x3), (5, .ref (q8)), (6, .ref (q14)), (7, .int x7), (8, .int x8), (9, .int x9), (10, .int x10)]) hx hb dL_side_94 hl (by decide) rfl (fun ls hl => ?_)
          refine lv_iload_n hx hb dL_side_96 rfl (lv_at hl 4 rfl) ?_
          refine lv_aload_n hx hb dL_side_97 rfl (lv_at hl 1 rfl) ?_
          refine lv_iload_n hx hb dL_side_98 rfl (lv_at hl 2 rfl) ?_
          refine lv_iload_n hx hb dL_side_99 rfl (lv_at hl 3 rfl) ?_
          refine lv_iconst (v := 3) hx hb dL_side_100 (by decide) ?_
          refine w_callK0 (pl := [(q14, .inl (cy 0, 20, .inl ar14)), (q8, .inl (cy 0, 4, .inl ar8))]) hP hD hS hA (va_runV (As := [.int a1, .int x2, .int 3]) (rest := [.int x3]) ⟨hx, hb, hml, hown, hts⟩ (m_line l D cy H.size x K o hG a1 x2 3) (cwV 3 hts gL_side_X8_line rfl rfl rfl (by decide +kernel) ⟨Nat.le_of_ble_eq_true rfl, Nat.le_of_ble_eq_true rfl⟩) (w_preVK (pl := [(q14, .inl (cy 0, 20, .inl ar14)), (q8, .inl (cy 0, 4, .inl ar8))]) (ci := 8) hE hS hA hK hP hD rfl rfl) rfl rfl hl.1 rfl (lv_room (Nat.le_of_ble_eq_true rfl)) dL_side_101 ⟨Nat.le_of_ble_eq_true rfl, Nat.le_of_ble_eq_true rfl⟩) (fun r80 u H locs hw hP hD hS => ?_)
          obtain ⟨Kc81, rfl, hG, hr_⟩ := hw
          replace h := h r80 hr_
          clear hr_
          have hP : va_P D vwCl ([(q14, .inl (cy 0, 20, .inl ar14)), (q8, .inl (cy 0, 4, .inl ar8))] ++ wK cy x Kc81) H := hP
          have hD : va_D A ([(q14, .inl (cy 0, 20, .inl ar14)), (q8, .inl (cy 0, 4, .inl ar8))] ++ wK cy x Kc81) := hD
          refine lv_iadd hx hb dL_side_104 ?_
          refine lv_istore_n (lv' := [(3, .int (x3 + r80)), (4, .int (k0 + k1)), (0, .ref (x 0)), (1, .int a1), (2, .int x2), (5, .ref (q8)), (6, .ref (q14)), (7, .int x7), (8, .int x8), (9, .int x9), (10, .int x10)]) hx hb dL_side_105 rfl hl (by decide) rfl (fun ls hl => ?_)
          refine lv_iload hx hb dL_side_106 (lv_at hl 8 rfl) ?_
          refine lv_if_ne (tgt := 123) hx hb dL_side_108 rfl (fun hc => ?_) (fun hc => ?_)
          · replace h := h.1 hc
            exact j123 ar8 ar14 x2 ((x3 + r80)) ((k0 + k1)) x7 x8 x9 x10 h _ hG _ _ hP hD hS _ (lv_sub hl [2, 3, 4, 0, 1, 5, 6, 7, 8, 9, 10] rfl)
          · replace h := h.2 hc
            refine lv_iload hx hb dL_side_111 (lv_at hl 9 rfl) ?_
            refine lv_bipush (v := (-99)) hx hb dL_side_113 (by decide) ?_
            refine lv_icmp_ne (tgt := 164) hx hb dL_side_115 rfl (fun hc => ?_) (fun hc => ?_)
            · replace h := h.1 hc
              refine lv_iconst (v := 0) hx hb dL_side_164 (by decide) ?_
              exact W.zret hx hb hr rfl (fun t ht _ => hend 0 _ _ _ (Or.inl rfl) hG h (w_tailP hP) (w_tailD hD) hS t ht) hS.2.2 dL_side_165
            · replace h := h.2 hc
              refine lv_iload hx hb dL_side_118 (lv_at hl 10 rfl) ?_
              refine lv_if_ne (tgt := 164) hx hb dL_side_120 rfl (fun hc => ?_) (fun hc => ?_)
              · replace h := h.1 hc
                refine lv_iconst (v := 0) hx hb dL_side_164 (by decide) ?_
                exact W.zret hx hb hr rfl (fun t ht _ => hend 0 _ _ _ (Or.inl rfl) hG h (w_tailP hP) (w_tailD hD) hS t ht) hS.2.2 dL_side_165
              · replace h := h.2 hc
                exact j123 ar8 ar14 x2 ((x3 + r80)) ((k0 + k1)) x7 x8 x9 x10 h _ hG _ _ hP hD hS _ (lv_sub hl [2, 3, 4, 0, 1, 5, 6, 7, 8, 9, 10] rfl)
        have j47 : ∀ (ar8 : Nat → Int32) (ar14 : Nat → Int32) (x2 : Int32) (x3 : Int32) (x4 : Int32) (x8 : Int32) (k0 : Int32), p_L_side_47 o a1 ar8 ar14 x2 x3 x4 x8 k0 K21 Q → ∀ (K : sK), Good o K → ∀ (H : Heap) (locs : List Loc), va_P D vwCl ([(q14, .inl (cy 0, 20, .inl ar14)), (q8, .inl (cy 0, 4, .inl ar8))] ++ wK cy x K) H → va_D A ([(q14, .inl (cy 0, 20, .inl ar14)), (q8, .inl (cy 0, 4, .inl ar8))] ++ wK cy x K) → va_S A s.heap H locs → ∀ (ls : Array Slot), lv_has ls 14 [(0, .ref (x 0)), (1, .int a1), (2, .int x2), (3, .int x3), (4, .int x4), (5, .ref (q8)), (6, .ref (q14)), (8, .int x8)] → W p l e r_L_side s m args below meth c H locs 2 24 (MQ below Qc args s 2 24 A) (F0 m 47 ls [.int k0]) := by
          intro ar8 ar14 x2 x3 x4 x8 k0 h K hG H locs hP hD hS ls hl
          unfold p_L_side_47 at h
          refine lv_istore (lv' := [(7, .int k0), (0, .ref (x 0)), (1, .int a1), (2, .int x2), (3, .int x3), (4, .int x4), (5, .ref (q8)), (6, .ref (q14)), (8, .int x8)]) hx hb dL_side_47 hl (by decide) rfl (fun ls hl => ?_)
          refine lv_iload hx hb dL_side_49 (lv_at hl 0 rfl) ?_
          refine lv_if_eq (tgt := 339) hx hb dL_side_51 rfl (fun hc => ?_) (fun hc => ?_)
          · replace h := h.1 hc
            exact j339 ar8 ar14 x2 x3 x4 k0 h _ hG _ _ hP hD hS _ (lv_sub hl [1, 2, 3, 4, 5, 6, 7, 0] rfl)
          · replace h := h.2 hc
            refine lv_aload_n hx hb dL_side_54 rfl (lv_at hl 1 rfl) ?_
            refine lv_iload_n hx hb dL_side_55 rfl (lv_at hl 2 rfl) ?_
            refine lv_iload_n hx hb dL_side_56 rfl (lv_at hl 3 rfl) ?_
            refine lv_iconst (v := 1) hx hb dL_side_57 (by decide) ?_
            refine w_callK0 (pl := [(q14, .inl (cy 0, 20, .inl ar14)), (q8, .inl (cy 0, 4, .inl ar8))]) hP hD hS hA (va_runV (As := [.int a1, .int x2, .int 1]) (rest := []) ⟨hx, hb, hml, hown, hts⟩ (m_line l D cy H.size x K o hG a1 x2 1) (cwV 3 hts gL_side_X8_line rfl rfl rfl (by decide +kernel) ⟨Nat.le_of_ble_eq_true rfl, Nat.le_of_ble_eq_true rfl⟩) (w_preVK (pl := [(q14, .inl (cy 0, 20, .inl ar14)), (q8, .inl (cy 0, 4, .inl ar8))]) (ci := 8) hE hS hA hK hP hD rfl rfl) rfl rfl hl.1 rfl (lv_room (Nat.le_of_ble_eq_true rfl)) dL_side_58 ⟨Nat.le_of_ble_eq_true rfl, Nat.le_of_ble_eq_true rfl⟩) (fun r83 u H locs hw hP hD hS => ?_)
            obtain ⟨Kc84, rfl, hG, hr_⟩ := hw
            replace h := h r83 hr_
            clear hr_
            have hP : va_P D vwCl ([(q14, .inl (cy 0, 20, .inl ar14)), (q8, .inl (cy 0, 4, .inl ar8))] ++ wK cy x Kc84) H := hP
            have hD : va_D A ([(q14, .inl (cy 0, 20, .inl ar14)), (q8, .inl (cy 0, 4, .inl ar8))] ++ wK cy x Kc84) := hD
            refine lv_istore (lv' := [(9, .int r83), (7, .int k0), (0, .ref (x 0)), (1, .int a1), (2, .int x2), (3, .int x3), (4, .int x4), (5, .ref (q8)), (6, .ref (q14)), (8, .int x8)]) hx hb dL_side_61 hl (by decide) rfl (fun ls hl => ?_)
            refine lv_aload_n hx hb dL_side_63 rfl (lv_at hl 2 rfl) ?_
            refine lv_iload_n hx hb dL_side_64 rfl (lv_at hl 3 rfl) ?_
            refine lv_iload_n hx hb dL_side_65 rfl (lv_at hl 4 rfl) ?_
            refine lv_iconst (v := 2) hx hb dL_side_66 (by decide) ?_
            refine w_callK0 (pl := [(q14, .inl (cy 0, 20, .inl ar14)), (q8, .inl (cy 0, 4, .inl ar8))]) hP hD hS hA (va_runV (As := [.int a1, .int x2, .int 2]) (rest := []) ⟨hx, hb, hml, hown, hts⟩ (m_line l D cy H.size x Kc84 o hG a1 x2 2) (cwV 3 hts gL_side_X8_line rfl rfl rfl (by decide +kernel) ⟨Nat.le_of_ble_eq_true rfl, Nat.le_of_ble_eq_true rfl⟩) (w_preVK (pl := [(q14, .inl (cy 0, 20, .inl ar14)), (q8, .inl (cy 0, 4, .inl ar8))]) (ci := 8) hE hS hA hK hP hD rfl rfl) rfl rfl hl.1 rfl (lv_room (Nat.le_of_ble_eq_true rfl)) dL_side_67 ⟨Nat.le_of_ble_eq_true rfl, Nat.le_of_ble_eq_true rfl⟩) (fun r86 u H locs hw hP hD hS => ?_)
            obtain ⟨Kc87, rfl, hG, hr_⟩ := hw
            replace h := h r86 hr_
            clear hr_
            have hP : va_P D vwCl ([(q14, .inl (cy 0, 20, .inl ar14)), (q8, .inl (cy 0, 4, .inl ar8))] ++ wK cy x Kc87) H := hP
            have hD : va_D A ([(q14, .inl (cy 0, 20, .inl ar14)), (q8, .inl (cy 0, 4, .inl ar8))] ++ wK cy x Kc87) := hD
            refine lv_istore (lv' := [(10, .int r86), (9, .int r83), (7, .int k0), (0, .ref (x 0)), (1, .int a1), (2, .int x2), (3, .int x3), (4, .int x4), (5, .ref (q8)), (6, .ref (q14)), (8, .int x8)]) hx hb dL_side_70 hl (by decide) rfl (fun ls hl => ?_)
            refine lv_aload hx hb dL_side_72 (lv_at hl 8 rfl) ?_
            refine lv_iload hx hb dL_side_74 (lv_at hl 10 rfl) ?_
            refine lv_dup2_11 hx hb dL_side_76 rfl rfl ?_
            obtain ⟨hi, h⟩ := h
            refine va_iald hx hb hK hP 1 0 rfl rfl hi dL_side_77 ?_
            refine lv_iconst (v := 1) hx hb dL_side_78 (by decide) ?_
            refine lv_iadd hx hb dL_side_79 ?_
            obtain ⟨hi, h⟩ := h
            refine va_iast hx hb hK hP hD hS 1 0 rfl rfl hi dL_side_80 (fun H locs hP hD hS => ?_)
            have hP : va_P D vwCl ([(q14, .inl (cy 0, 20, .inl ar14)), (q8, .inl (cy 0, 4, .inl ((upd ar8 x8.toNatClampNeg (((ar8 x8.toNatClampNeg) + 1))))))] ++ wK cy x Kc87) H := hP
            have hD : va_D A ([(q14, .inl (cy 0, 20, .inl ar14)), (q8, .inl (cy 0, 4, .inl ((upd ar8 x8.toNatClampNeg (((ar8 x8.toNatClampNeg) + 1))))))] ++ wK cy x Kc87) := hD
            refine lv_iload hx hb dL_side_81 (lv_at hl 7 rfl) ?_
            refine lv_iload hx hb dL_side_83 (lv_at hl 10 rfl) ?_
            refine lv_if_ne (tgt := 92) hx hb dL_side_85 rfl (fun hc => ?_) (fun hc => ?_)
            · replace h := h.1 hc
              refine lv_iconst (v := 0) hx hb dL_side_92 (by decide) ?_
              exact j93 ((upd ar8 x8.toNatClampNeg (((ar8 x8.toNatClampNeg) + 1)))) ar14 x2 x3 k0 x8 r83 r86 x4 0 h _ hG _ _ hP hD hS _ (lv_sub hl [3, 4, 5, 6, 8, 9, 2, 10, 1, 0] rfl)
            · replace h := h.2 hc
              refine lv_iconst (v := 1) hx hb dL_side_88 (by decide) ?_
              refine lv_goto (tgt := 93) hx hb dL_side_89 rfl ?_
              exact j93 ((upd ar8 x8.toNatClampNeg (((ar8 x8.toNatClampNeg) + 1)))) ar14 x2 x3 k0 x8 r83 r86 x4 1 h _ hG _ _ hP hD hS _ (lv_sub hl [3, 4, 5, 6, 8, 9, 2, 10, 1, 0] rfl)
        unfold q_L_side_21 at h
        refine lv_iload hx hb dL_side_21 (lv_at hl 7 rfl) ?_
        refine lv_if_eq (tgt := 342) hx hb dL_side_23 rfl (fun hc => ?_) (fun hc => ?_)
        · replace h := h.1 hc
          refine lv_iconst (v := 0) hx hb dL_side_342 (by decide) ?_
          refine lv_istore (lv' := [(8, .int 0), (0, .ref (x 0)), (1, .int a1), (2, .int x2), (3, .int x3), (4, .int x4), (5, .ref (q8)), (6, .ref (q14)), (7, .int x7)]) hx hb dL_side_343 hl (by decide) rfl (fun ls hl => ?_)
          exact j345 ar8 ar14 x2 x3 x4 0 h _ hG _ _ hP hD hS _ (lv_sub hl [1, 2, 3, 4, 5, 6, 7, 0] rfl)
        · replace h := h.2 hc
          refine lv_aload_n hx hb dL_side_26 rfl (lv_at hl 0 rfl) ?_
          refine lv_iload_n hx hb dL_side_27 rfl (lv_at hl 1 rfl) ?_
          refine lv_iload_n hx hb dL_side_28 rfl (lv_at hl 2 rfl) ?_
          refine lv_iconst (v := 0) hx hb dL_side_29 (by decide) ?_
          refine w_callK0 (pl := [(q14, .inl (cy 0, 20, .inl ar14)), (q8, .inl (cy 0, 4, .inl ar8))]) hP hD hS hA (va_runV (As := [.int a1, .int x2, .int 0]) (rest := []) ⟨hx, hb, hml, hown, hts⟩ (m_line l D cy H.size x K o hG a1 x2 0) (cwV 3 hts gL_side_X8_line rfl rfl rfl (by decide +kernel) ⟨Nat.le_of_ble_eq_true rfl, Nat.le_of_ble_eq_true rfl⟩) (w_preVK (pl := [(q14, .inl (cy 0, 20, .inl ar14)), (q8, .inl (cy 0, 4, .inl ar8))]) (ci := 8) hE hS hA hK hP hD rfl rfl) rfl rfl hl.1 rfl (lv_room (Nat.le_of_ble_eq_true rfl)) dL_side_30 ⟨Nat.le_of_ble_eq_true rfl, Nat.le_of_ble_eq_true rfl⟩) (fun r89 u H locs hw hP hD hS => ?_)
          obtain ⟨Kc90, rfl, hG, hr_⟩ := hw
          replace h := h r89 hr_
          clear hr_
          have hP : va_P D vwCl ([(q14, .inl (cy 0, 20, .inl ar14)), (q8, .inl (cy 0, 4, .inl ar8))] ++ wK cy x Kc90) H := hP
          have hD : va_D A ([(q14, .inl (cy 0, 20, .inl ar14)), (q8, .inl (cy 0, 4, .inl ar8))] ++ wK cy x Kc90) := hD
          refine lv_istore (lv' := [(8, .int r89), (0, .ref (x 0)), (1, .int a1), (2, .int x2), (3, .int x3), (4, .int x4), (5, .ref (q8)), (6, .ref (q14)), (7, .int x7)]) hx hb dL_side_33 hl (by decide) rfl (fun ls hl => ?_)
          refine lv_iload hx hb dL_side_35 (lv_at hl 0 rfl) ?_
          refine lv_bipush (v := (-99)) hx hb dL_side_37 (by decide) ?_
          refine lv_icmp_eq (tgt := 46) hx hb dL_side_39 rfl (fun hc => ?_) (fun hc => ?_)
          · replace h := h.1 hc
            refine lv_iconst (v := 0) hx hb dL_side_46 (by decide) ?_
            exact j47 ar8 ar14 x2 x3 x4 r89 0 h _ hG _ _ hP hD hS _ (lv_sub hl [1, 2, 3, 4, 5, 6, 7, 0] rfl)
          · replace h := h.2 hc
            refine lv_iconst (v := 1) hx hb dL_side_42 (by decide) ?_
            refine lv_goto (tgt := 47) hx hb dL_side_43 rfl ?_
            exact j47 ar8 ar14 x2 x3 x4 r89 1 h _ hG _ _ hP hD hS _ (lv_sub hl [1, 2, 3, 4, 5, 6, 7, 0] rfl)
    exact key _ ar8 ar14 x2 x3 x4 x7 h0 (Nat.lt_succ_self _)
  refine lv_iconst (v := 1) hx hb dL_side_18 (by decide) ?_
  refine lv_istore (lv' := [(7, .int 1), (6, .ref (q14)), (5, .ref (q8)), (4, .int 0), (3, .int 0), (2, .int 0), (0, .ref (x 0)), (1, .int a1)]) hx hb dL_side_19 hl (by decide) rfl (fun ls hl => ?_)
  exact j21 ((fun _ => 0)) ((fun _ => 0)) 0 0 0 1 h _ hG _ _ hP hD hS _ (lv_sub hl [6, 7, 5, 4, 3, 2, 1, 0] rfl)

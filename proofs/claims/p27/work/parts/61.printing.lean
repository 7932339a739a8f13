theorem i_X4_clear_X4 : ∀ w ∈ u_ws RX4 TX4 8, w ∈ wsX4_clear := by decide +kernel
abbrev r_X4_clear : Room := { frames := 0, cells := 0, slots := 0, locals := 0 }
set_option maxHeartbeats 4000000 in
set_option maxRecDepth 100000 in
theorem c_X4_clear (l : Launch) (D : va_G) (cy : Nat → ClassId) (sz : Nat) (t : Nat → Nat) (t_dishes : Nat → Int32) (t_lines : Nat → Int32) (t_weights : Nat → Int32) (t_set : Int32) (t_number : Int32) (t_prices : Int32) (t_allergens : Int32) (t_column : Int32) (Q : (Nat → Int32) → (Nat → Int32) → (Nat → Int32) → Int32 → Int32 → Int32 → Int32 → Prop) (hq : p_X4_clear t_dishes t_lines t_weights Q) : Met l yX4_clear wsX4_clear r_X4_clear (wPO [.ref (t 0)] sz D cy [(t 0, .inr (4, [.ref (t 1), .ref (t 2), .ref (t 3), .int t_set, .int t_number, .int t_prices, .int t_allergens, .int t_column])), (t 1, .inl (cy 0, 4, .inl t_dishes)), (t 2, .inl (cy 0, 4, .inl t_lines)), (t 3, .inl (cy 0, 4, .inl t_weights))]) (va_Qv (fun u => ∃ (t_dishes' : Nat → Int32) (t_lines' : Nat → Int32) (t_weights' : Nat → Int32) (t_set' : Int32) (t_number' : Int32) (t_prices' : Int32) (t_allergens' : Int32), u = [(t 0, .inr (4, [.ref (t 1), .ref (t 2), .ref (t 3), .int t_set', .int t_number', .int t_prices', .int t_allergens', .int t_column])), (t 1, .inl (cy 0, 4, .inl t_dishes')), (t 2, .inl (cy 0, 4, .inl t_lines')), (t 3, .inl (cy 0, 4, .inl t_weights'))] ∧ Q t_dishes' t_lines' t_weights' t_set' t_number' t_prices' t_allergens') (fun u T9 => va_P D vwCl u T9.heap ∧ va_D (va_A [(t 0, .inr (4, [.ref (t 1), .ref (t 2), .ref (t 3), .int t_set, .int t_number, .int t_prices, .int t_allergens, .int t_column])), (t 1, .inl (cy 0, 4, .inl t_dishes)), (t 2, .inl (cy 0, 4, .inl t_lines)), (t 3, .inl (cy 0, 4, .inl t_weights))] sz) u) (va_A [(t 0, .inr (4, [.ref (t 1), .ref (t 2), .ref (t 3), .int t_set, .int t_number, .int t_prices, .int t_allergens, .int t_column])), (t 1, .inl (cy 0, 4, .inl t_dishes)), (t 2, .inl (cy 0, 4, .inl t_lines)), (t 3, .inl (cy 0, 4, .inl t_weights))] sz)) 0 0 (va_A [(t 0, .inr (4, [.ref (t 1), .ref (t 2), .ref (t 3), .int t_set, .int t_number, .int t_prices, .int t_allergens, .int t_column])), (t 1, .inl (cy 0, 4, .inl t_dishes)), (t 2, .inl (cy 0, 4, .inl t_lines)), (t 3, .inl (cy 0, 4, .inl t_weights))] sz) := by
  refine Met.ofW (cc := cX4_clear) (maxL := 2) (ret := none) (by decide) rfl ?_
  intro p e s m args below meth c s₁ B hml hv
  obtain ⟨hargs, hsz, hP, hK, hD0⟩ := hv
  have hx := B.exec
  have hb := B.bytes
  have hr := B.returns
  have hts := atoms_spec (ws := wsX4_clear) B.pre
  have hown : s.vm.findClass RX4 = some m.cls := findClass_of_methodNamed B.named
  have hlocks := B.notSynchronized
  clear B
  subst hsz
  have hD := hD0.self (sz := s.heap.size)
  generalize hAe : va_A [(t 0, .inr (4, [.ref (t 1), .ref (t 2), .ref (t 3), .int t_set, .int t_number, .int t_prices, .int t_allergens, .int t_column])), (t 1, .inl (cy 0, 4, .inl t_dishes)), (t 2, .inl (cy 0, 4, .inl t_lines)), (t 3, .inl (cy 0, 4, .inl t_weights))] s.heap.size = A at hD ⊢
  have hA : ∀ q : Nat, s.heap.size ≤ q → A q := fun q h => by rw [← hAe]; exact Or.inr h
  clear hAe hD0
  have hend : ∀ (t_dishes : Nat → Int32) (t_lines : Nat → Int32) (t_weights : Nat → Int32) (t_set : Int32) (t_number : Int32) (t_prices : Int32) (t_allergens : Int32) (H : Heap) (locs : List Loc), Q t_dishes t_lines t_weights t_set t_number t_prices t_allergens → va_P D vwCl [(t 0, .inr (4, [.ref (t 1), .ref (t 2), .ref (t 3), .int t_set, .int t_number, .int t_prices, .int t_allergens, .int t_column])), (t 1, .inl (cy 0, 4, .inl t_dishes)), (t 2, .inl (cy 0, 4, .inl t_lines)), (t 3, .inl (cy 0, 4, .inl t_weights))] H → va_D A [(t 0, .inr (4, [.ref (t 1), .ref (t 2), .ref (t 3), .int t_set, .int t_number, .int t_prices, .int t_allergens, .int t_column])), (t 1, .inl (cy 0, 4, .inl t_dishes)), (t 2, .inl (cy 0, 4, .inl t_lines)), (t 3, .inl (cy 0, 4, .inl t_weights))] → va_S A s.heap H locs → ∀ T9 : State, T9.heap = H → (va_Qv (fun u => ∃ (t_dishes' : Nat → Int32) (t_lines' : Nat → Int32) (t_weights' : Nat → Int32) (t_set' : Int32) (t_number' : Int32) (t_prices' : Int32) (t_allergens' : Int32), u = [(t 0, .inr (4, [.ref (t 1), .ref (t 2), .ref (t 3), .int t_set', .int t_number', .int t_prices', .int t_allergens', .int t_column])), (t 1, .inl (cy 0, 4, .inl t_dishes')), (t 2, .inl (cy 0, 4, .inl t_lines')), (t 3, .inl (cy 0, 4, .inl t_weights'))] ∧ Q t_dishes' t_lines' t_weights' t_set' t_number' t_prices' t_allergens') (fun u T9 => va_P D vwCl u T9.heap ∧ va_D A u) A) args s (.returned none) T9 := fun t_dishes t_lines t_weights t_set t_number t_prices t_allergens H locs hq hP hD hS T9 ht => ⟨⟨_, rfl, ⟨t_dishes, t_lines, t_weights, t_set, t_number, t_prices, t_allergens, rfl, hq⟩, by rw [ht]; exact hP, hD⟩, hS.F ht⟩
  generalize (va_Qv (fun u => ∃ (t_dishes' : Nat → Int32) (t_lines' : Nat → Int32) (t_weights' : Nat → Int32) (t_set' : Int32) (t_number' : Int32) (t_prices' : Int32) (t_allergens' : Int32), u = [(t 0, .inr (4, [.ref (t 1), .ref (t 2), .ref (t 3), .int t_set', .int t_number', .int t_prices', .int t_allergens', .int t_column])), (t 1, .inl (cy 0, 4, .inl t_dishes')), (t 2, .inl (cy 0, 4, .inl t_lines')), (t 3, .inl (cy 0, 4, .inl t_weights'))] ∧ Q t_dishes' t_lines' t_weights' t_set' t_number' t_prices' t_allergens') (fun u T9 => va_P D vwCl u T9.heap ∧ va_D A u) A) = Qc at hend ⊢
  have hS : va_S A s.heap s.heap [] := va_S.rf
  show W p l e r_X4_clear s m args below meth c s.heap [] 0 0 (MQ below Qc args s 0 0 A) (entryFrame m args 2)
  rw [show entryFrame m args 2 = entryFrame m ([.ref (t 0)] : List Value).toArray 2 from by rw [hargs]]
  have hl := lv_entry ([.ref (t 0)]) (n := 2) (Nat.le_of_ble_eq_true rfl)
  rw [lg_entry_eq]
  generalize (lg_sl ([.ref (t 0)]) ++ List.replicate (2 - (lg_sl ([.ref (t 0)])).length) Slot.unset).toArray = ls at hl ⊢
  have hl : lv_has ls 2 [(0, .ref (t 0))] := hl
  have h := hq
  clear hargs hq
  have j2 : ∀ (t_dishes : Nat → Int32) (t_lines : Nat → Int32) (t_weights : Nat → Int32) (t_set : Int32) (t_number : Int32) (t_prices : Int32) (t_allergens : Int32) (x1 : Int32), p_X4_clear_2 Q t_dishes t_lines t_weights x1 → ∀ (H : Heap) (locs : List Loc), va_P D vwCl [(t 0, .inr (4, [.ref (t 1), .ref (t 2), .ref (t 3), .int t_set, .int t_number, .int t_prices, .int t_allergens, .int t_column])), (t 1, .inl (cy 0, 4, .inl t_dishes)), (t 2, .inl (cy 0, 4, .inl t_lines)), (t 3, .inl (cy 0, 4, .inl t_weights))] H → va_D A [(t 0, .inr (4, [.ref (t 1), .ref (t 2), .ref (t 3), .int t_set, .int t_number, .int t_prices, .int t_allergens, .int t_column])), (t 1, .inl (cy 0, 4, .inl t_dishes)), (t 2, .inl (cy 0, 4, .inl t_lines)), (t 3, .inl (cy 0, 4, .inl t_weights))] → va_S A s.heap H locs → ∀ (ls : Array Slot), lv_has ls 2 [(0, .ref (t 0)), (1, .int x1)] → W p l e r_X4_clear s m args below meth c H locs 0 0 (MQ below Qc args s 0 0 A) (F0 m 2 ls []) := by
    intro t_dishes t_lines t_weights t_set t_number t_prices t_allergens x1 h
    obtain ⟨I2, μ2, h0, hs2⟩ := h
    have key : ∀ (n : Nat) (t_dishes : Nat → Int32) (t_lines : Nat → Int32) (t_weights : Nat → Int32) (x1 : Int32), I2 t_dishes t_lines t_weights x1 → μ2 t_dishes t_lines t_weights x1 < n → ∀ (H : Heap) (locs : List Loc), va_P D vwCl [(t 0, .inr (4, [.ref (t 1), .ref (t 2), .ref (t 3), .int t_set, .int t_number, .int t_prices, .int t_allergens, .int t_column])), (t 1, .inl (cy 0, 4, .inl t_dishes)), (t 2, .inl (cy 0, 4, .inl t_lines)), (t 3, .inl (cy 0, 4, .inl t_weights))] H → va_D A [(t 0, .inr (4, [.ref (t 1), .ref (t 2), .ref (t 3), .int t_set, .int t_number, .int t_prices, .int t_allergens, .int t_column])), (t 1, .inl (cy 0, 4, .inl t_dishes)), (t 2, .inl (cy 0, 4, .inl t_lines)), (t 3, .inl (cy 0, 4, .inl t_weights))] → va_S A s.heap H locs → ∀ (ls : Array Slot), lv_has ls 2 [(0, .ref (t 0)), (1, .int x1)] → W p l e r_X4_clear s m args below meth c H locs 0 0 (MQ below Qc args s 0 0 A) (F0 m 2 ls []) := by
      intro n
      induction n with
      | zero => intro t_dishes t_lines t_weights x1 _ h; exact absurd h (Nat.not_lt_zero _)
      | succ n ih2 =>
        intro t_dishes t_lines t_weights x1 hI hn H locs hP hD hS ls hl
        have h := hs2 t_dishes t_lines t_weights x1 hI
        have hk2 : ∀ (t_dishes1 : Nat → Int32) (t_lines1 : Nat → Int32) (t_weights1 : Nat → Int32) (x11 : Int32), (fun (t_dishes' : Nat → Int32) (t_lines' : Nat → Int32) (t_weights' : Nat → Int32) (x1' : Int32) => I2 t_dishes' t_lines' t_weights' x1' ∧ μ2 t_dishes' t_lines' t_weights' x1' < μ2 t_dishes t_lines t_weights x1) t_dishes1 t_lines1 t_weights1 x11 → ∀ (H : Heap) (locs : List Loc), va_P D vwCl [(t 0, .inr (4, [.ref (t 1), .ref (t 2), .ref (t 3), .int t_set, .int t_number, .int t_prices, .int t_allergens, .int t_column])), (t 1, .inl (cy 0, 4, .inl t_dishes1)), (t 2, .inl (cy 0, 4, .inl t_lines1)), (t 3, .inl (cy 0, 4, .inl t_weights1))] H → va_D A [(t 0, .inr (4, [.ref (t 1), .ref (t 2), .ref (t 3), .int t_set, .int t_number, .int t_prices, .int t_allergens, .int t_column])), (t 1, .inl (cy 0, 4, .inl t_dishes1)), (t 2, .inl (cy 0, 4, .inl t_lines1)), (t 3, .inl (cy 0, 4, .inl t_weights1))] → va_S A s.heap H locs → ∀ (ls : Array Slot), lv_has ls 2 [(0, .ref (t 0)), (1, .int x11)] → W p l e r_X4_clear s m args below meth c H locs 0 0 (MQ below Qc args s 0 0 A) (F0 m 2 ls []) := by
          intro t_dishes1 t_lines1 t_weights1 x11 hz
          exact ih2 t_dishes1 t_lines1 t_weights1 x11 hz.1 (Nat.lt_of_lt_of_le hz.2 (Nat.le_of_lt_succ hn))
        generalize hKe : (fun (t_dishes' : Nat → Int32) (t_lines' : Nat → Int32) (t_weights' : Nat → Int32) (x1' : Int32) => I2 t_dishes' t_lines' t_weights' x1' ∧ μ2 t_dishes' t_lines' t_weights' x1' < μ2 t_dishes t_lines t_weights x1) = K2 at h hk2
        clear hKe ih2 hn hI
        unfold q_X4_clear_2 at h
        refine lv_iload_n hx hb dX4_clear_2 rfl (lv_at hl 1 rfl) ?_
        refine lv_iconst (v := 4) hx hb dX4_clear_3 (by decide) ?_
        refine lv_icmp_ge (tgt := 34) hx hb dX4_clear_4 rfl (fun hc => ?_) (fun hc => ?_)
        · replace h := h.1 hc
          refine lv_aload_n hx hb dX4_clear_34 rfl (lv_at hl 0 rfl) ?_
          refine lv_iconst (v := 0) hx hb dX4_clear_35 (by decide) ?_
          refine va_put (D := D) (ci := 4) (v := .int 0) (ty := .int) (C := RX4) (T := TX4) (N := 8) hx hb hts i_X4_clear_X4 tyX4 tyX4_ok nmX4 hown hK hP hD hS 0 rfl rfl 3 (by decide) (hts (.fieldLink RX4 46 "FoldedMenu$Printing" "set" "I") (by decide +kernel)) (fun _ h9 => h9) rfl (by decide +kernel) rfl rfl (Nat.le_of_ble_eq_true rfl) dX4_clear_36 (fun H locs hP hD hS => ?_)
          have hP : va_P D vwCl [(t 0, .inr (4, [.ref (t 1), .ref (t 2), .ref (t 3), .int 0, .int t_number, .int t_prices, .int t_allergens, .int t_column])), (t 1, .inl (cy 0, 4, .inl t_dishes)), (t 2, .inl (cy 0, 4, .inl t_lines)), (t 3, .inl (cy 0, 4, .inl t_weights))] H := hP
          have hD : va_D A [(t 0, .inr (4, [.ref (t 1), .ref (t 2), .ref (t 3), .int 0, .int t_number, .int t_prices, .int t_allergens, .int t_column])), (t 1, .inl (cy 0, 4, .inl t_dishes)), (t 2, .inl (cy 0, 4, .inl t_lines)), (t 3, .inl (cy 0, 4, .inl t_weights))] := hD
          refine lv_aload_n hx hb dX4_clear_39 rfl (lv_at hl 0 rfl) ?_
          refine lv_iconst (v := 0) hx hb dX4_clear_40 (by decide) ?_
          refine va_put (D := D) (ci := 4) (v := .int 0) (ty := .int) (C := RX4) (T := TX4) (N := 8) hx hb hts i_X4_clear_X4 tyX4 tyX4_ok nmX4 hown hK hP hD hS 0 rfl rfl 4 (by decide) (hts (.fieldLink RX4 50 "FoldedMenu$Printing" "number" "I") (by decide +kernel)) (fun _ h9 => h9) rfl (by decide +kernel) rfl rfl (Nat.le_of_ble_eq_true rfl) dX4_clear_41 (fun H locs hP hD hS => ?_)
          have hP : va_P D vwCl [(t 0, .inr (4, [.ref (t 1), .ref (t 2), .ref (t 3), .int 0, .int 0, .int t_prices, .int t_allergens, .int t_column])), (t 1, .inl (cy 0, 4, .inl t_dishes)), (t 2, .inl (cy 0, 4, .inl t_lines)), (t 3, .inl (cy 0, 4, .inl t_weights))] H := hP
          have hD : va_D A [(t 0, .inr (4, [.ref (t 1), .ref (t 2), .ref (t 3), .int 0, .int 0, .int t_prices, .int t_allergens, .int t_column])), (t 1, .inl (cy 0, 4, .inl t_dishes)), (t 2, .inl (cy 0, 4, .inl t_lines)), (t 3, .inl (cy 0, 4, .inl t_weights))] := hD
          refine lv_aload_n hx hb dX4_clear_44 rfl (lv_at hl 0 rfl) ?_
          refine lv_iconst (v := 0) hx hb dX4_clear_45 (by decide) ?_
          refine va_put (D := D) (ci := 4) (v := .int 0) (ty := .int) (C := RX4) (T := TX4) (N := 8) hx hb hts i_X4_clear_X4 tyX4 tyX4_ok nmX4 hown hK hP hD hS 0 rfl rfl 5 (by decide) (hts (.fieldLink RX4 53 "FoldedMenu$Printing" "prices" "I") (by decide +kernel)) (fun _ h9 => h9) rfl (by decide +kernel) rfl rfl (Nat.le_of_ble_eq_true rfl) dX4_clear_46 (fun H locs hP hD hS => ?_)
          have hP : va_P D vwCl [(t 0, .inr (4, [.ref (t 1), .ref (t 2), .ref (t 3), .int 0, .int 0, .int 0, .int t_allergens, .int t_column])), (t 1, .inl (cy 0, 4, .inl t_dishes)), (t 2, .inl (cy 0, 4, .inl t_lines)), (t 3, .inl (cy 0, 4, .inl t_weights))] H := hP
          have hD : va_D A [(t 0, .inr (4, [.ref (t 1), .ref (t 2), .ref (t 3), .int 0, .int 0, .int 0, .int t_allergens, .int t_column])), (t 1, .inl (cy 0, 4, .inl t_dishes)), (t 2, .inl (cy 0, 4, .inl t_lines)), (t 3, .inl (cy 0, 4, .inl t_weights))] := hD
          refine lv_aload_n hx hb dX4_clear_49 rfl (lv_at hl 0 rfl) ?_
          refine lv_iconst (v := 0) hx hb dX4_clear_50 (by decide) ?_
          refine va_put (D := D) (ci := 4) (v := .int 0) (ty := .int) (C := RX4) (T := TX4) (N := 8) hx hb hts i_X4_clear_X4 tyX4 tyX4_ok nmX4 hown hK hP hD hS 0 rfl rfl 6 (by decide) (hts (.fieldLink RX4 56 "FoldedMenu$Printing" "allergens" "I") (by decide +kernel)) (fun _ h9 => h9) rfl (by decide +kernel) rfl rfl (Nat.le_of_ble_eq_true rfl) dX4_clear_51 (fun H locs hP hD hS => ?_)
          have hP : va_P D vwCl [(t 0, .inr (4, [.ref (t 1), .ref (t 2), .ref (t 3), .int 0, .int 0, .int 0, .int 0, .int t_column])), (t 1, .inl (cy 0, 4, .inl t_dishes)), (t 2, .inl (cy 0, 4, .inl t_lines)), (t 3, .inl (cy 0, 4, .inl t_weights))] H := hP
          have hD : va_D A [(t 0, .inr (4, [.ref (t 1), .ref (t 2), .ref (t 3), .int 0, .int 0, .int 0, .int 0, .int t_column])), (t 1, .inl (cy 0, 4, .inl t_dishes)), (t 2, .inl (cy 0, 4, .inl t_lines)), (t 3, .inl (cy 0, 4, .inl t_weights))] := hD
          exact W.vret hx hb hr (fun t ht _ => hend t_dishes t_lines t_weights 0 0 0 0 H locs h hP hD hS t ht) hS.2.2 dX4_clear_54
        · replace h := h.2 hc
          refine lv_aload_n hx hb dX4_clear_7 rfl (lv_at hl 0 rfl) ?_
          refine va_get (D := D) (ci := 4) (v := .ref (t 1)) (C := RX4) (T := TX4) (N := 8) hx hb hts i_X4_clear_X4 hown hK hP 0 rfl rfl 0 (by decide) (hts (.fieldLink RX4 9 "FoldedMenu$Printing" "dishes" "[I") (by decide +kernel)) (fun _ h9 => h9) rfl dX4_clear_8 ?_
          refine lv_iload_n hx hb dX4_clear_11 rfl (lv_at hl 1 rfl) ?_
          refine lv_iconst (v := 0) hx hb dX4_clear_12 (by decide) ?_
          obtain ⟨hi, h⟩ := h
          refine va_iast hx hb hK hP hD hS 1 0 rfl rfl hi dX4_clear_13 (fun H locs hP hD hS => ?_)
          have hP : va_P D vwCl [(t 0, .inr (4, [.ref (t 1), .ref (t 2), .ref (t 3), .int t_set, .int t_number, .int t_prices, .int t_allergens, .int t_column])), (t 1, .inl (cy 0, 4, .inl ((upd t_dishes x1.toNatClampNeg 0)))), (t 2, .inl (cy 0, 4, .inl t_lines)), (t 3, .inl (cy 0, 4, .inl t_weights))] H := hP
          have hD : va_D A [(t 0, .inr (4, [.ref (t 1), .ref (t 2), .ref (t 3), .int t_set, .int t_number, .int t_prices, .int t_allergens, .int t_column])), (t 1, .inl (cy 0, 4, .inl ((upd t_dishes x1.toNatClampNeg 0)))), (t 2, .inl (cy 0, 4, .inl t_lines)), (t 3, .inl (cy 0, 4, .inl t_weights))] := hD
          refine lv_aload_n hx hb dX4_clear_14 rfl (lv_at hl 0 rfl) ?_
          refine va_get (D := D) (ci := 4) (v := .ref (t 2)) (C := RX4) (T := TX4) (N := 8) hx hb hts i_X4_clear_X4 hown hK hP 0 rfl rfl 1 (by decide) (hts (.fieldLink RX4 15 "FoldedMenu$Printing" "lines" "[I") (by decide +kernel)) (fun _ h9 => h9) rfl dX4_clear_15 ?_
          refine lv_iload_n hx hb dX4_clear_18 rfl (lv_at hl 1 rfl) ?_
          refine lv_iconst (v := 0) hx hb dX4_clear_19 (by decide) ?_
          obtain ⟨hi, h⟩ := h
          refine va_iast hx hb hK hP hD hS 2 0 rfl rfl hi dX4_clear_20 (fun H locs hP hD hS => ?_)
          have hP : va_P D vwCl [(t 0, .inr (4, [.ref (t 1), .ref (t 2), .ref (t 3), .int t_set, .int t_number, .int t_prices, .int t_allergens, .int t_column])), (t 1, .inl (cy 0, 4, .inl ((upd t_dishes x1.toNatClampNeg 0)))), (t 2, .inl (cy 0, 4, .inl ((upd t_lines x1.toNatClampNeg 0)))), (t 3, .inl (cy 0, 4, .inl t_weights))] H := hP
          have hD : va_D A [(t 0, .inr (4, [.ref (t 1), .ref (t 2), .ref (t 3), .int t_set, .int t_number, .int t_prices, .int t_allergens, .int t_column])), (t 1, .inl (cy 0, 4, .inl ((upd t_dishes x1.toNatClampNeg 0)))), (t 2, .inl (cy 0, 4, .inl ((upd t_lines x1.toNatClampNeg 0)))), (t 3, .inl (cy 0, 4, .inl t_weights))] := hD
          refine lv_aload_n hx hb dX4_clear_21 rfl (lv_at hl 0 rfl) ?_
          refine va_get (D := D) (ci := 4) (v := .ref (t 3)) (C := RX4) (T := TX4) (N := 8) hx hb hts i_X4_clear_X4 hown hK hP 0 rfl rfl 2 (by decide) (hts (.fieldLink RX4 18 "FoldedMenu$Printing" "weights" "[I") (by decide +kernel)) (fun _ h9 => h9) rfl dX4_clear_22 ?_
          refine lv_iload_n hx hb dX4_clear_25 rfl (lv_at hl 1 rfl) ?_
          refine lv_iconst (v := 0) hx hb dX4_clear_26 (by decide) ?_
          obtain ⟨hi, h⟩ := h
          refine va_iast hx hb hK hP hD hS 3 0 rfl rfl hi dX4_clear_27 (fun H locs hP hD hS => ?_)
          have hP : va_P D vwCl [(t 0, .inr (4, [.ref (t 1), .ref (t 2), .ref (t 3), .int t_set, .int t_number, .int t_prices, .int t_allergens, .int t_column])), (t 1, .inl (cy 0, 4, .inl ((upd t_dishes x1.toNatClampNeg 0)))), (t 2, .inl (cy 0, 4, .inl ((upd t_lines x1.toNatClampNeg 0)))), (t 3, .inl (cy 0, 4, .inl ((upd t_weights x1.toNatClampNeg 0))))] H := hP
          have hD : va_D A [(t 0, .inr (4, [.ref (t 1), .ref (t 2), .ref (t 3), .int t_set, .int t_number, .int t_prices, .int t_allergens, .int t_column])), (t 1, .inl (cy 0, 4, .inl ((upd t_dishes x1.toNatClampNeg 0)))), (t 2, .inl (cy 0, 4, .inl ((upd t_lines x1.toNatClampNeg 0)))), (t 3, .inl (cy 0, 4, .inl ((upd t_weights x1.toNatClampNeg 0))))] := hD
          refine lv_iinc (k := 1) (v := (x1 + 1)) (lv' := [(1, .int (x1 + 1)), (0, .ref (t 0))]) hx hb dX4_clear_28 hl rfl rfl (by decide) rfl (fun ls hl => ?_)
          refine lv_goto (tgt := 2) hx hb dX4_clear_31 rfl ?_
          exact hk2 ((upd t_dishes x1.toNatClampNeg 0)) ((upd t_lines x1.toNatClampNeg 0)) ((upd t_weights x1.toNatClampNeg 0)) ((x1 + 1)) h _ _ hP hD hS _ (lv_sub hl [1, 0] rfl)
    exact key _ t_dishes t_lines t_weights x1 h0 (Nat.lt_succ_self _)
  unfold p_X4_clear at h
  suffices key : ∀ (H : Heap) (locs : List Loc), va_P D vwCl [(t 0, .inr (4, [.ref (t 1), .ref (t 2), .ref (t 3), .int t_set, .int t_number, .int t_prices, .int t_allergens, .int t_column])), (t 1, .inl (cy 0, 4, .inl t_dishes)), (t 2, .inl (cy 0, 4, .inl t_lines)), (t 3, .inl (cy 0, 4, .inl t_weights))] H → va_D A [(t 0, .inr (4, [.ref (t 1), .ref (t 2), .ref (t 3), .int t_set, .int t_number, .int t_prices, .int t_allergens, .int t_column])), (t 1, .inl (cy 0, 4, .inl t_dishes)), (t 2, .inl (cy 0, 4, .inl t_lines)), (t 3, .inl (cy 0, 4, .inl t_weights))] → va_S A s.heap H locs → W p l e r_X4_clear s m args below meth c H locs 0 0 (MQ below Qc args s 0 0 A) (F0 m 0 ls []) from key s.heap [] hP hD hS
  clear hP hD hS
  intro H locs hP hD hS
  refine lv_iconst (v := 0) hx hb dX4_clear_0 (by decide) ?_
  refine lv_istore_n (lv' := [(1, .int 0), (0, .ref (t 0))]) hx hb dX4_clear_1 rfl hl (by decide) rfl (fun ls hl => ?_)
  exact j2 t_dishes t_lines t_weights t_set t_number t_prices t_allergens 0 h _ _ hP hD hS _ (lv_sub hl [1, 0] rfl)

theorem i_X4_measure_X4 : ∀ w ∈ u_ws RX4 TX4 8, w ∈ wsX4_measure := by decide +kernel
abbrev r_X4_measure : Room := { frames := 3, cells := 0, slots := 0, locals := 67 }
set_option maxHeartbeats 4000000 in
set_option maxRecDepth 100000 in
theorem c_X4_measure (l : Launch) (D : va_G) (cy : Nat → ClassId) (sz : Nat) (t : Nat → Nat) (u1 : Nat → Nat) (t_lines : Nat → Int32) (t_weights : Nat → Int32) (t_set : Int32) (t_number : Int32) (t_prices : Int32) (t_allergens : Int32) (t_column : Int32) (u1_values : Nat → Int32) (u1_settings : Nat → Int32) (u1_dishes : Int32) (u1_way : Int32) (Q : (Nat → Int32) → (Nat → Int32) → Prop) (hq : p_X4_measure t_lines t_weights t_set t_column u1_values u1_settings u1_dishes Q) : Met l yX4_measure wsX4_measure r_X4_measure (wPM [.ref (t 0), .ref (u1 0)] sz D cy [(t 0, .inr (4, [.ref (t 1), .ref (t 2), .ref (t 3), .int t_set, .int t_number, .int t_prices, .int t_allergens, .int t_column])), (t 2, .inl (cy 0, 4, .inl t_lines)), (t 3, .inl (cy 0, 4, .inl t_weights)), (u1 0, .inr (3, [.ref (u1 1), .ref (u1 2), .int u1_dishes, .int u1_way])), (u1 1, .inl (cy 0, 140, .inl u1_values)), (u1 2, .inl (cy 0, 6, .inl u1_settings))]) (va_Qv (fun u => ∃ (t_lines' : Nat → Int32) (t_weights' : Nat → Int32), u = [(t 0, .inr (4, [.ref (t 1), .ref (t 2), .ref (t 3), .int t_set, .int t_number, .int t_prices, .int t_allergens, .int t_column])), (t 2, .inl (cy 0, 4, .inl t_lines')), (t 3, .inl (cy 0, 4, .inl t_weights')), (u1 0, .inr (3, [.ref (u1 1), .ref (u1 2), .int u1_dishes, .int u1_way])), (u1 1, .inl (cy 0, 140, .inl u1_values)), (u1 2, .inl (cy 0, 6, .inl u1_settings))] ∧ Q t_lines' t_weights') (fun u T9 => va_P D vwCl u T9.heap ∧ va_D (va_A [(t 0, .inr (4, [.ref (t 1), .ref (t 2), .ref (t 3), .int t_set, .int t_number, .int t_prices, .int t_allergens, .int t_column])), (t 2, .inl (cy 0, 4, .inl t_lines)), (t 3, .inl (cy 0, 4, .inl t_weights)), (u1 0, .inr (3, [.ref (u1 1), .ref (u1 2), .int u1_dishes, .int u1_way])), (u1 1, .inl (cy 0, 140, .inl u1_values)), (u1 2, .inl (cy 0, 6, .inl u1_settings))] sz) u) (va_A [(t 0, .inr (4, [.ref (t 1), .ref (t 2), .ref (t 3), .int t_set, .int t_number, .int t_prices, .int t_allergens, .int t_column])), (t 2, .inl (cy 0, 4, .inl t_lines)), (t 3, .inl (cy 0, 4, .inl t_weights)), (u1 0, .inr (3, [.ref (u1 1), .ref (u1 2), .int u1_dishes, .int u1_way])), (u1 1, .inl (cy 0, 140, .inl u1_values)), (u1 2, .inl (cy 0, 6, .inl u1_settings))] sz)) 0 0 (va_A [(t 0, .inr (4, [.ref (t 1), .ref (t 2), .ref (t 3), .int t_set, .int t_number, .int t_prices, .int t_allergens, .int t_column])), (t 2, .inl (cy 0, 4, .inl t_lines)), (t 3, .inl (cy 0, 4, .inl t_weights)), (u1 0, .inr (3, [.ref (u1 1), .ref (u1 2), .int u1_dishes, .int u1_way])), (u1 1, .inl (cy 0, 140, .inl u1_values)), (u1 2, .inl (cy 0, 6, .inl u1_settings))] sz) := by
  refine Met.ofW (cc := cX4_measure) (maxL := 5) (ret := none) (by decide) rfl ?_
  intro p e s m args below meth c s₁ B hml hv
  obtain ⟨hargs, hsz, hE, hP, hK, hD0⟩ := hv
  have hx := B.exec
  have hb := B.bytes
  have hr := B.returns
  have hts := atoms_spec (ws := wsX4_measure) B.pre
  have hown : s.vm.findClass RX4 = some m.cls := findClass_of_methodNamed B.named
  have hlocks := B.notSynchronized
  clear B
  subst hsz
  have hD := hD0.self (sz := s.heap.size)
  generalize hAe : va_A [(t 0, .inr (4, [.ref (t 1), .ref (t 2), .ref (t 3), .int t_set, .int t_number, .int t_prices, .int t_allergens, .int t_column])), (t 2, .inl (cy 0, 4, .inl t_lines)), (t 3, .inl (cy 0, 4, .inl t_weights)), (u1 0, .inr (3, [.ref (u1 1), .ref (u1 2), .int u1_dishes, .int u1_way])), (u1 1, .inl (cy 0, 140, .inl u1_values)), (u1 2, .inl (cy 0, 6, .inl u1_settings))] s.heap.size = A at hD ⊢ hE
  have hA : ∀ q : Nat, s.heap.size ≤ q → A q := fun q h => by rw [← hAe]; exact Or.inr h
  clear hAe hD0
  have hend : ∀ (t_lines : Nat → Int32) (t_weights : Nat → Int32) (H : Heap) (locs : List Loc), Q t_lines t_weights → va_P D vwCl [(t 0, .inr (4, [.ref (t 1), .ref (t 2), .ref (t 3), .int t_set, .int t_number, .int t_prices, .int t_allergens, .int t_column])), (t 2, .inl (cy 0, 4, .inl t_lines)), (t 3, .inl (cy 0, 4, .inl t_weights)), (u1 0, .inr (3, [.ref (u1 1), .ref (u1 2), .int u1_dishes, .int u1_way])), (u1 1, .inl (cy 0, 140, .inl u1_values)), (u1 2, .inl (cy 0, 6, .inl u1_settings))] H → va_D A [(t 0, .inr (4, [.ref (t 1), .ref (t 2), .ref (t 3), .int t_set, .int t_number, .int t_prices, .int t_allergens, .int t_column])), (t 2, .inl (cy 0, 4, .inl t_lines)), (t 3, .inl (cy 0, 4, .inl t_weights)), (u1 0, .inr (3, [.ref (u1 1), .ref (u1 2), .int u1_dishes, .int u1_way])), (u1 1, .inl (cy 0, 140, .inl u1_values)), (u1 2, .inl (cy 0, 6, .inl u1_settings))] → va_S A s.heap H locs → ∀ T9 : State, T9.heap = H → (va_Qv (fun u => ∃ (t_lines' : Nat → Int32) (t_weights' : Nat → Int32), u = [(t 0, .inr (4, [.ref (t 1), .ref (t 2), .ref (t 3), .int t_set, .int t_number, .int t_prices, .int t_allergens, .int t_column])), (t 2, .inl (cy 0, 4, .inl t_lines')), (t 3, .inl (cy 0, 4, .inl t_weights')), (u1 0, .inr (3, [.ref (u1 1), .ref (u1 2), .int u1_dishes, .int u1_way])), (u1 1, .inl (cy 0, 140, .inl u1_values)), (u1 2, .inl (cy 0, 6, .inl u1_settings))] ∧ Q t_lines' t_weights') (fun u T9 => va_P D vwCl u T9.heap ∧ va_D A u) A) args s (.returned none) T9 := fun t_lines t_weights H locs hq hP hD hS T9 ht => ⟨⟨_, rfl, ⟨t_lines, t_weights, rfl, hq⟩, by rw [ht]; exact hP, hD⟩, hS.F ht⟩
  generalize (va_Qv (fun u => ∃ (t_lines' : Nat → Int32) (t_weights' : Nat → Int32), u = [(t 0, .inr (4, [.ref (t 1), .ref (t 2), .ref (t 3), .int t_set, .int t_number, .int t_prices, .int t_allergens, .int t_column])), (t 2, .inl (cy 0, 4, .inl t_lines')), (t 3, .inl (cy 0, 4, .inl t_weights')), (u1 0, .inr (3, [.ref (u1 1), .ref (u1 2), .int u1_dishes, .int u1_way])), (u1 1, .inl (cy 0, 140, .inl u1_values)), (u1 2, .inl (cy 0, 6, .inl u1_settings))] ∧ Q t_lines' t_weights') (fun u T9 => va_P D vwCl u T9.heap ∧ va_D A u) A) = Qc at hend ⊢
  have hS : va_S A s.heap s.heap [] := va_S.rf
  show W p l e r_X4_measure s m args below meth c s.heap [] 0 0 (MQ below Qc args s 0 0 A) (entryFrame m args 5)
  rw [show entryFrame m args 5 = entryFrame m ([.ref (t 0), .ref (u1 0)] : List Value).toArray 5 from by rw [hargs]]
  have hl := lv_entry ([.ref (t 0), .ref (u1 0)]) (n := 5) (Nat.le_of_ble_eq_true rfl)
  rw [lg_entry_eq]
  generalize (lg_sl ([.ref (t 0), .ref (u1 0)]) ++ List.replicate (5 - (lg_sl ([.ref (t 0), .ref (u1 0)])).length) Slot.unset).toArray = ls at hl ⊢
  have hl : lv_has ls 5 [(0, .ref (t 0)), (1, .ref (u1 0))] := hl
  have h := hq
  clear hargs hq
  have j2 : ∀ (t_lines : Nat → Int32) (t_weights : Nat → Int32) (x2 : Int32), p_X4_measure_2 t_set t_column u1_values u1_settings u1_dishes Q t_lines t_weights x2 → ∀ (H : Heap) (locs : List Loc), va_P D vwCl [(t 0, .inr (4, [.ref (t 1), .ref (t 2), .ref (t 3), .int t_set, .int t_number, .int t_prices, .int t_allergens, .int t_column])), (t 2, .inl (cy 0, 4, .inl t_lines)), (t 3, .inl (cy 0, 4, .inl t_weights)), (u1 0, .inr (3, [.ref (u1 1), .ref (u1 2), .int u1_dishes, .int u1_way])), (u1 1, .inl (cy 0, 140, .inl u1_values)), (u1 2, .inl (cy 0, 6, .inl u1_settings))] H → va_D A [(t 0, .inr (4, [.ref (t 1), .ref (t 2), .ref (t 3), .int t_set, .int t_number, .int t_prices, .int t_allergens, .int t_column])), (t 2, .inl (cy 0, 4, .inl t_lines)), (t 3, .inl (cy 0, 4, .inl t_weights)), (u1 0, .inr (3, [.ref (u1 1), .ref (u1 2), .int u1_dishes, .int u1_way])), (u1 1, .inl (cy 0, 140, .inl u1_values)), (u1 2, .inl (cy 0, 6, .inl u1_settings))] → va_S A s.heap H locs → ∀ (ls : Array Slot), lv_has ls 5 [(0, .ref (t 0)), (1, .ref (u1 0)), (2, .int x2)] → W p l e r_X4_measure s m args below meth c H locs 0 0 (MQ below Qc args s 0 0 A) (F0 m 2 ls []) := by
    intro t_lines t_weights x2 h
    obtain ⟨I2, μ2, h0, hs2⟩ := h
    have key : ∀ (n : Nat) (t_lines : Nat → Int32) (t_weights : Nat → Int32) (x2 : Int32), I2 t_lines t_weights x2 → μ2 t_lines t_weights x2 < n → ∀ (H : Heap) (locs : List Loc), va_P D vwCl [(t 0, .inr (4, [.ref (t 1), .ref (t 2), .ref (t 3), .int t_set, .int t_number, .int t_prices, .int t_allergens, .int t_column])), (t 2, .inl (cy 0, 4, .inl t_lines)), (t 3, .inl (cy 0, 4, .inl t_weights)), (u1 0, .inr (3, [.ref (u1 1), .ref (u1 2), .int u1_dishes, .int u1_way])), (u1 1, .inl (cy 0, 140, .inl u1_values)), (u1 2, .inl (cy 0, 6, .inl u1_settings))] H → va_D A [(t 0, .inr (4, [.ref (t 1), .ref (t 2), .ref (t 3), .int t_set, .int t_number, .int t_prices, .int t_allergens, .int t_column])), (t 2, .inl (cy 0, 4, .inl t_lines)), (t 3, .inl (cy 0, 4, .inl t_weights)), (u1 0, .inr (3, [.ref (u1 1), .ref (u1 2), .int u1_dishes, .int u1_way])), (u1 1, .inl (cy 0, 140, .inl u1_values)), (u1 2, .inl (cy 0, 6, .inl u1_settings))] → va_S A s.heap H locs → ∀ (ls : Array Slot), lv_has ls 5 [(0, .ref (t 0)), (1, .ref (u1 0)), (2, .int x2)] → W p l e r_X4_measure s m args below meth c H locs 0 0 (MQ below Qc args s 0 0 A) (F0 m 2 ls []) := by
      intro n
      induction n with
      | zero => intro t_lines t_weights x2 _ h; exact absurd h (Nat.not_lt_zero _)
      | succ n ih2 =>
        intro t_lines t_weights x2 hI hn H locs hP hD hS ls hl
        have h := hs2 t_lines t_weights x2 hI
        have hk2 : ∀ (t_lines1 : Nat → Int32) (t_weights1 : Nat → Int32) (x21 : Int32), (fun (t_lines' : Nat → Int32) (t_weights' : Nat → Int32) (x2' : Int32) => I2 t_lines' t_weights' x2' ∧ μ2 t_lines' t_weights' x2' < μ2 t_lines t_weights x2) t_lines1 t_weights1 x21 → ∀ (H : Heap) (locs : List Loc), va_P D vwCl [(t 0, .inr (4, [.ref (t 1), .ref (t 2), .ref (t 3), .int t_set, .int t_number, .int t_prices, .int t_allergens, .int t_column])), (t 2, .inl (cy 0, 4, .inl t_lines1)), (t 3, .inl (cy 0, 4, .inl t_weights1)), (u1 0, .inr (3, [.ref (u1 1), .ref (u1 2), .int u1_dishes, .int u1_way])), (u1 1, .inl (cy 0, 140, .inl u1_values)), (u1 2, .inl (cy 0, 6, .inl u1_settings))] H → va_D A [(t 0, .inr (4, [.ref (t 1), .ref (t 2), .ref (t 3), .int t_set, .int t_number, .int t_prices, .int t_allergens, .int t_column])), (t 2, .inl (cy 0, 4, .inl t_lines1)), (t 3, .inl (cy 0, 4, .inl t_weights1)), (u1 0, .inr (3, [.ref (u1 1), .ref (u1 2), .int u1_dishes, .int u1_way])), (u1 1, .inl (cy 0, 140, .inl u1_values)), (u1 2, .inl (cy 0, 6, .inl u1_settings))] → va_S A s.heap H locs → ∀ (ls : Array Slot), lv_has ls 5 [(0, .ref (t 0)), (1, .ref (u1 0)), (2, .int x21)] → W p l e r_X4_measure s m args below meth c H locs 0 0 (MQ below Qc args s 0 0 A) (F0 m 2 ls []) := by
          intro t_lines1 t_weights1 x21 hz
          exact ih2 t_lines1 t_weights1 x21 hz.1 (Nat.lt_of_lt_of_le hz.2 (Nat.le_of_lt_succ hn))
        generalize hKe : (fun (t_lines' : Nat → Int32) (t_weights' : Nat → Int32) (x2' : Int32) => I2 t_lines' t_weights' x2' ∧ μ2 t_lines' t_weights' x2' < μ2 t_lines t_weights x2) = K2 at h hk2
        clear hKe ih2 hn hI
        have j70 : ∀ (t_lines : Nat → Int32) (t_weights : Nat → Int32) (x2 : Int32), p_X4_measure_70 t_lines t_weights x2 K2 → ∀ (H : Heap) (locs : List Loc), va_P D vwCl [(t 0, .inr (4, [.ref (t 1), .ref (t 2), .ref (t 3), .int t_set, .int t_number, .int t_prices, .int t_allergens, .int t_column])), (t 2, .inl (cy 0, 4, .inl t_lines)), (t 3, .inl (cy 0, 4, .inl t_weights)), (u1 0, .inr (3, [.ref (u1 1), .ref (u1 2), .int u1_dishes, .int u1_way])), (u1 1, .inl (cy 0, 140, .inl u1_values)), (u1 2, .inl (cy 0, 6, .inl u1_settings))] H → va_D A [(t 0, .inr (4, [.ref (t 1), .ref (t 2), .ref (t 3), .int t_set, .int t_number, .int t_prices, .int t_allergens, .int t_column])), (t 2, .inl (cy 0, 4, .inl t_lines)), (t 3, .inl (cy 0, 4, .inl t_weights)), (u1 0, .inr (3, [.ref (u1 1), .ref (u1 2), .int u1_dishes, .int u1_way])), (u1 1, .inl (cy 0, 140, .inl u1_values)), (u1 2, .inl (cy 0, 6, .inl u1_settings))] → va_S A s.heap H locs → ∀ (ls : Array Slot), lv_has ls 5 [(0, .ref (t 0)), (1, .ref (u1 0)), (2, .int x2)] → W p l e r_X4_measure s m args below meth c H locs 0 0 (MQ below Qc args s 0 0 A) (F0 m 70 ls []) := by
          intro t_lines t_weights x2 h H locs hP hD hS ls hl
          unfold p_X4_measure_70 at h
          refine lv_iinc (k := 2) (v := (x2 + 1)) (lv' := [(2, .int (x2 + 1)), (0, .ref (t 0)), (1, .ref (u1 0))]) hx hb dX4_measure_70 hl rfl rfl (by decide) rfl (fun ls hl => ?_)
          refine lv_goto (tgt := 2) hx hb dX4_measure_73 rfl ?_
          exact hk2 t_lines t_weights ((x2 + 1)) h _ _ hP hD hS _ (lv_sub hl [1, 2, 0] rfl)
        unfold q_X4_measure_2 at h
        refine lv_iload_n hx hb dX4_measure_2 rfl (lv_at hl 2 rfl) ?_
        refine lv_aload_n hx hb dX4_measure_3 rfl (lv_at hl 1 rfl) ?_
        have hPc := hP.sub (ws' := [(u1 0, .inr (3, [.ref (u1 1), .ref (u1 2), .int u1_dishes, .int u1_way]))]) [3] rfl
        refine w_callR (va_runV (As := []) (rest := [.int x2]) ⟨hx, hb, hml, hown, hts⟩ (c_X3_size l D cy H u1 u1_dishes u1_way _ h) (cwV 0 hts gX4_measure_X3_size rfl rfl rfl (by decide +kernel) ⟨Nat.le_of_ble_eq_true rfl, Nat.le_of_ble_eq_true rfl⟩) (w_preVN hK hPc (ci := 3) rfl rfl) rfl rfl hl.1 rfl (lv_room (Nat.le_of_ble_eq_true rfl)) dX4_measure_4 ⟨Nat.zero_le _, Nat.zero_le _⟩) hS (fun r1 locs h hS => ?_)
        try dsimp only at h
        refine lv_icmp_ge (tgt := 76) hx hb dX4_measure_7 rfl (fun hc => ?_) (fun hc => ?_)
        · replace h := h.1 hc
          exact W.vret hx hb hr (fun t ht _ => hend t_lines t_weights H locs h hP hD hS t ht) hS.2.2 dX4_measure_76
        · replace h := h.2 hc
          refine lv_aload_n hx hb dX4_measure_10 rfl (lv_at hl 0 rfl) ?_
          refine va_get (D := D) (ci := 4) (v := .int t_set) (C := RX4) (T := TX4) (N := 8) hx hb hts i_X4_measure_X4 hown hK hP 0 rfl rfl 3 (by decide) (hts (.fieldLink RX4 46 "FoldedMenu$Printing" "set" "I") (by decide +kernel)) (fun _ h9 => h9) rfl dX4_measure_11 ?_
          refine lv_iload_n hx hb dX4_measure_14 rfl (lv_at hl 2 rfl) ?_
          have hPc := hP.sub (ws' := []) [] rfl
          refine w_callZ (va_runSN (As := [.int t_set, .int x2]) (rest := []) ⟨hx, hb, hml, hown, hts⟩ (c_X8_has l D cy H t_set x2 _ h) ⟨(va_cnB 2 hts gX4_measure_X8_has_n74 rfl rfl rfl (nM_X4_74 hE.1) (hts (.initialized RX8) (by decide +kernel)) (by decide +kernel) ⟨Nat.le_of_ble_eq_true rfl, Nat.le_of_ble_eq_true rfl⟩), hts (.static yX8_has) (by decide +kernel), trivial⟩ (w_preSN hK hPc) rfl rfl hl.1 rfl (lv_room (Nat.le_of_ble_eq_true rfl)) dX4_measure_15 ⟨Nat.zero_le _, Nat.zero_le _⟩) hS (fun r2 locs z_r2 h hS => ?_)
          try dsimp only at h
          refine lv_if_eq (tgt := 70) hx hb dX4_measure_18 rfl (fun hc => ?_) (fun hc => ?_)
          · replace h := h.1 hc
            exact j70 t_lines t_weights x2 h _ _ hP hD hS _ (lv_sub hl [0, 1, 2] rfl)
          · replace h := h.2 hc
            refine lv_aload_n hx hb dX4_measure_21 rfl (lv_at hl 1 rfl) ?_
            refine lv_iload_n hx hb dX4_measure_22 rfl (lv_at hl 2 rfl) ?_
            refine lv_iconst (v := 0) hx hb dX4_measure_23 (by decide) ?_
            have hPc := hP.sub (ws' := [(u1 0, .inr (3, [.ref (u1 1), .ref (u1 2), .int u1_dishes, .int u1_way])), (u1 1, .inl (cy 0, 140, .inl u1_values))]) [3, 4] rfl
            refine w_callR (va_runV (As := [.int x2, .int 0]) (rest := []) ⟨hx, hb, hml, hown, hts⟩ (c_X3_valueOf l D cy H u1 u1_values u1_dishes u1_way x2 0 _ h) (cwV 2 hts gX4_measure_X3_valueOf rfl rfl rfl (by decide +kernel) ⟨Nat.le_of_ble_eq_true rfl, Nat.le_of_ble_eq_true rfl⟩) (w_preVN hK hPc (ci := 3) rfl rfl) rfl rfl hl.1 rfl (lv_room (Nat.le_of_ble_eq_true rfl)) dX4_measure_24 ⟨Nat.zero_le _, Nat.zero_le _⟩) hS (fun r3 locs h hS => ?_)
            try dsimp only at h
            refine lv_istore_n (lv' := [(3, .int r3), (0, .ref (t 0)), (1, .ref (u1 0)), (2, .int x2)]) hx hb dX4_measure_27 rfl hl (by decide) rfl (fun ls hl => ?_)
            refine lv_aload_n hx hb dX4_measure_28 rfl (lv_at hl 2 rfl) ?_
            refine lv_iload_n hx hb dX4_measure_29 rfl (lv_at hl 3 rfl) ?_
            refine lv_aload_n hx hb dX4_measure_30 rfl (lv_at hl 1 rfl) ?_
            refine va_get (D := D) (ci := 4) (v := .int t_column) (C := RX4) (T := TX4) (N := 8) hx hb hts i_X4_measure_X4 hown hK hP 0 rfl rfl 7 (by decide) (hts (.fieldLink RX4 67 "FoldedMenu$Printing" "column" "I") (by decide +kernel)) (fun _ h9 => h9) rfl dX4_measure_31 ?_
            have hPc := hP.sub (ws' := [(u1 0, .inr (3, [.ref (u1 1), .ref (u1 2), .int u1_dishes, .int u1_way])), (u1 1, .inl (cy 0, 140, .inl u1_values)), (u1 2, .inl (cy 0, 6, .inl u1_settings))]) [3, 4, 5] rfl
            refine w_callR (va_runV (As := [.int x2, .int t_column]) (rest := []) ⟨hx, hb, hml, hown, hts⟩ (c_X3_linesOf l D cy H u1 u1_values u1_settings u1_dishes u1_way x2 t_column _ h) (cwV 2 hts gX4_measure_X3_linesOf rfl rfl rfl (by decide +kernel) ⟨Nat.le_of_ble_eq_true rfl, Nat.le_of_ble_eq_true rfl⟩) (w_preVR hE hS hK hPc (ci := 3) rfl rfl) rfl rfl hl.1 rfl (lv_room (Nat.le_of_ble_eq_true rfl)) dX4_measure_34 ⟨Nat.zero_le _, Nat.zero_le _⟩) hS (fun r4 locs h hS => ?_)
            try dsimp only at h
            refine lv_istore (lv' := [(4, .int r4), (3, .int r3), (0, .ref (t 0)), (1, .ref (u1 0)), (2, .int x2)]) hx hb dX4_measure_37 hl (by decide) rfl (fun ls hl => ?_)
            refine lv_aload_n hx hb dX4_measure_39 rfl (lv_at hl 2 rfl) ?_
            refine va_get (D := D) (ci := 4) (v := .ref (t 2)) (C := RX4) (T := TX4) (N := 8) hx hb hts i_X4_measure_X4 hown hK hP 0 rfl rfl 1 (by decide) (hts (.fieldLink RX4 15 "FoldedMenu$Printing" "lines" "[I") (by decide +kernel)) (fun _ h9 => h9) rfl dX4_measure_40 ?_
            refine lv_iload_n hx hb dX4_measure_43 rfl (lv_at hl 1 rfl) ?_
            refine lv_dup2_11 hx hb dX4_measure_44 rfl rfl ?_
            obtain ⟨hi, h⟩ := h
            refine va_iald hx hb hK hP 1 0 rfl rfl hi dX4_measure_45 ?_
            refine lv_iload hx hb dX4_measure_46 (lv_at hl 0 rfl) ?_
            refine lv_iadd hx hb dX4_measure_48 ?_
            obtain ⟨hi, h⟩ := h
            refine va_iast hx hb hK hP hD hS 1 0 rfl rfl hi dX4_measure_49 (fun H locs hP hD hS => ?_)
            have hP : va_P D vwCl [(t 0, .inr (4, [.ref (t 1), .ref (t 2), .ref (t 3), .int t_set, .int t_number, .int t_prices, .int t_allergens, .int t_column])), (t 2, .inl (cy 0, 4, .inl ((upd t_lines r3.toNatClampNeg (((t_lines r3.toNatClampNeg) + r4)))))), (t 3, .inl (cy 0, 4, .inl t_weights)), (u1 0, .inr (3, [.ref (u1 1), .ref (u1 2), .int u1_dishes, .int u1_way])), (u1 1, .inl (cy 0, 140, .inl u1_values)), (u1 2, .inl (cy 0, 6, .inl u1_settings))] H := hP
            have hD : va_D A [(t 0, .inr (4, [.ref (t 1), .ref (t 2), .ref (t 3), .int t_set, .int t_number, .int t_prices, .int t_allergens, .int t_column])), (t 2, .inl (cy 0, 4, .inl ((upd t_lines r3.toNatClampNeg (((t_lines r3.toNatClampNeg) + r4)))))), (t 3, .inl (cy 0, 4, .inl t_weights)), (u1 0, .inr (3, [.ref (u1 1), .ref (u1 2), .int u1_dishes, .int u1_way])), (u1 1, .inl (cy 0, 140, .inl u1_values)), (u1 2, .inl (cy 0, 6, .inl u1_settings))] := hD
            refine lv_aload_n hx hb dX4_measure_50 rfl (lv_at hl 2 rfl) ?_
            refine va_get (D := D) (ci := 4) (v := .ref (t 3)) (C := RX4) (T := TX4) (N := 8) hx hb hts i_X4_measure_X4 hown hK hP 0 rfl rfl 2 (by decide) (hts (.fieldLink RX4 18 "FoldedMenu$Printing" "weights" "[I") (by decide +kernel)) (fun _ h9 => h9) rfl dX4_measure_51 ?_
            refine lv_iload_n hx hb dX4_measure_54 rfl (lv_at hl 1 rfl) ?_
            refine lv_dup2_11 hx hb dX4_measure_55 rfl rfl ?_
            obtain ⟨hi, h⟩ := h
            refine va_iald hx hb hK hP 2 0 rfl rfl hi dX4_measure_56 ?_
            refine lv_aload_n hx hb dX4_measure_57 rfl (lv_at hl 3 rfl) ?_
            refine lv_iload_n hx hb dX4_measure_58 rfl (lv_at hl 4 rfl) ?_
            refine lv_iconst (v := 5) hx hb dX4_measure_59 (by decide) ?_
            have hPc := hP.sub (ws' := [(u1 0, .inr (3, [.ref (u1 1), .ref (u1 2), .int u1_dishes, .int u1_way])), (u1 1, .inl (cy 0, 140, .inl u1_values))]) [3, 4] rfl
            refine w_callR (va_runV (As := [.int x2, .int 5]) (rest := [.int (t_weights r3.toNatClampNeg), .int r3, .ref (t 3)]) ⟨hx, hb, hml, hown, hts⟩ (c_X3_valueOf l D cy H u1 u1_values u1_dishes u1_way x2 5 _ h) (cwV 2 hts gX4_measure_X3_valueOf rfl rfl rfl (by decide +kernel) ⟨Nat.le_of_ble_eq_true rfl, Nat.le_of_ble_eq_true rfl⟩) (w_preVN hK hPc (ci := 3) rfl rfl) rfl rfl hl.1 rfl (lv_room (Nat.le_of_ble_eq_true rfl)) dX4_measure_60 ⟨Nat.zero_le _, Nat.zero_le _⟩) hS (fun r5 locs h hS => ?_)
            try dsimp only at h
            refine lv_iload hx hb dX4_measure_63 (lv_at hl 0 rfl) ?_
            refine lv_imul hx hb dX4_measure_65 ?_
            refine lv_iconst (v := 2) hx hb dX4_measure_66 (by decide) ?_
            refine lv_iadd hx hb dX4_measure_67 ?_
            refine lv_iadd hx hb dX4_measure_68 ?_
            obtain ⟨hi, h⟩ := h
            refine va_iast hx hb hK hP hD hS 2 0 rfl rfl hi dX4_measure_69 (fun H locs hP hD hS => ?_)
            have hP : va_P D vwCl [(t 0, .inr (4, [.ref (t 1), .ref (t 2), .ref (t 3), .int t_set, .int t_number, .int t_prices, .int t_allergens, .int t_column])), (t 2, .inl (cy 0, 4, .inl ((upd t_lines r3.toNatClampNeg (((t_lines r3.toNatClampNeg) + r4)))))), (t 3, .inl (cy 0, 4, .inl ((upd t_weights r3.toNatClampNeg (((t_weights r3.toNatClampNeg) + ((r5 * r4) + 2))))))), (u1 0, .inr (3, [.ref (u1 1), .ref (u1 2), .int u1_dishes, .int u1_way])), (u1 1, .inl (cy 0, 140, .inl u1_values)), (u1 2, .inl (cy 0, 6, .inl u1_settings))] H := hP
            have hD : va_D A [(t 0, .inr (4, [.ref (t 1), .ref (t 2), .ref (t 3), .int t_set, .int t_number, .int t_prices, .int t_allergens, .int t_column])), (t 2, .inl (cy 0, 4, .inl ((upd t_lines r3.toNatClampNeg (((t_lines r3.toNatClampNeg) + r4)))))), (t 3, .inl (cy 0, 4, .inl ((upd t_weights r3.toNatClampNeg (((t_weights r3.toNatClampNeg) + ((r5 * r4) + 2))))))), (u1 0, .inr (3, [.ref (u1 1), .ref (u1 2), .int u1_dishes, .int u1_way])), (u1 1, .inl (cy 0, 140, .inl u1_values)), (u1 2, .inl (cy 0, 6, .inl u1_settings))] := hD
            exact j70 ((upd t_lines r3.toNatClampNeg (((t_lines r3.toNatClampNeg) + r4)))) ((upd t_weights r3.toNatClampNeg (((t_weights r3.toNatClampNeg) + ((r5 * r4) + 2))))) x2 h _ _ hP hD hS _ (lv_sub hl [2, 3, 4] rfl)
    exact key _ t_lines t_weights x2 h0 (Nat.lt_succ_self _)
  unfold p_X4_measure at h
  suffices key : ∀ (H : Heap) (locs : List Loc), va_P D vwCl [(t 0, .inr (4, [.ref (t 1), .ref (t 2), .ref (t 3), .int t_set, .int t_number, .int t_prices, .int t_allergens, .int t_column])), (t 2, .inl (cy 0, 4, .inl t_lines)), (t 3, .inl (cy 0, 4, .inl t_weights)), (u1 0, .inr (3, [.ref (u1 1), .ref (u1 2), .int u1_dishes, .int u1_way])), (u1 1, .inl (cy 0, 140, .inl u1_values)), (u1 2, .inl (cy 0, 6, .inl u1_settings))] H → va_D A [(t 0, .inr (4, [.ref (t 1), .ref (t 2), .ref (t 3), .int t_set, .int t_number, .int t_prices, .int t_allergens, .int t_column])), (t 2, .inl (cy 0, 4, .inl t_lines)), (t 3, .inl (cy 0, 4, .inl t_weights)), (u1 0, .inr (3, [.ref (u1 1), .ref (u1 2), .int u1_dishes, .int u1_way])), (u1 1, .inl (cy 0, 140, .inl u1_values)), (u1 2, .inl (cy 0, 6, .inl u1_settings))] → va_S A s.heap H locs → W p l e r_X4_measure s m args below meth c H locs 0 0 (MQ below Qc args s 0 0 A) (F0 m 0 ls []) from key s.heap [] hP hD hS
  clear hP hD hS
  intro H locs hP hD hS
  refine lv_iconst (v := 0) hx hb dX4_measure_0 (by decide) ?_
  refine lv_istore_n (lv' := [(2, .int 0), (0, .ref (t 0)), (1, .ref (u1 0))]) hx hb dX4_measure_1 rfl hl (by decide) rfl (fun ls hl => ?_)
  exact j2 t_lines t_weights 0 h _ _ hP hD hS _ (lv_sub hl [1, 2, 0] rfl)

theorem i_X4_find_X4 : ∀ w ∈ u_ws RX4 TX4 8, w ∈ wsX4_find := by decide +kernel
abbrev r_X4_find : Room := { frames := 4, cells := 0, slots := 0, locals := 91 }
set_option maxHeartbeats 4000000 in
set_option maxRecDepth 100000 in
theorem c_X4_find (l : Launch) (D : va_G) (cy : Nat → ClassId) (sz : Nat) (t : Nat → Nat) (u1 : Nat → Nat) (t_dishes : Nat → Int32) (t_lines : Nat → Int32) (t_weights : Nat → Int32) (t_set : Int32) (t_number : Int32) (t_prices : Int32) (t_allergens : Int32) (t_column : Int32) (u1_values : Nat → Int32) (u1_settings : Nat → Int32) (u1_dishes : Int32) (u1_way : Int32) (a2 : Int32) (a3 : Int32) (Q : (Nat → Int32) → (Nat → Int32) → (Nat → Int32) → Int32 → Int32 → Int32 → Int32 → Int32 → Prop) (hq : p_X4_find t_dishes t_lines t_weights u1_values u1_settings u1_dishes a2 a3 Q) : Met l yX4_find wsX4_find r_X4_find (wPM [.ref (t 0), .ref (u1 0), .int a2, .int a3] sz D cy [(t 0, .inr (4, [.ref (t 1), .ref (t 2), .ref (t 3), .int t_set, .int t_number, .int t_prices, .int t_allergens, .int t_column])), (t 1, .inl (cy 0, 4, .inl t_dishes)), (t 2, .inl (cy 0, 4, .inl t_lines)), (t 3, .inl (cy 0, 4, .inl t_weights)), (u1 0, .inr (3, [.ref (u1 1), .ref (u1 2), .int u1_dishes, .int u1_way])), (u1 1, .inl (cy 0, 140, .inl u1_values)), (u1 2, .inl (cy 0, 6, .inl u1_settings))]) (va_Qv (fun u => ∃ (t_dishes' : Nat → Int32) (t_lines' : Nat → Int32) (t_weights' : Nat → Int32) (t_set' : Int32) (t_number' : Int32) (t_prices' : Int32) (t_allergens' : Int32) (t_column' : Int32), u = [(t 0, .inr (4, [.ref (t 1), .ref (t 2), .ref (t 3), .int t_set', .int t_number', .int t_prices', .int t_allergens', .int t_column'])), (t 1, .inl (cy 0, 4, .inl t_dishes')), (t 2, .inl (cy 0, 4, .inl t_lines')), (t 3, .inl (cy 0, 4, .inl t_weights')), (u1 0, .inr (3, [.ref (u1 1), .ref (u1 2), .int u1_dishes, .int u1_way])), (u1 1, .inl (cy 0, 140, .inl u1_values)), (u1 2, .inl (cy 0, 6, .inl u1_settings))] ∧ Q t_dishes' t_lines' t_weights' t_set' t_number' t_prices' t_allergens' t_column') (fun u T9 => va_P D vwCl u T9.heap ∧ va_D (va_A [(t 0, .inr (4, [.ref (t 1), .ref (t 2), .ref (t 3), .int t_set, .int t_number, .int t_prices, .int t_allergens, .int t_column])), (t 1, .inl (cy 0, 4, .inl t_dishes)), (t 2, .inl (cy 0, 4, .inl t_lines)), (t 3, .inl (cy 0, 4, .inl t_weights)), (u1 0, .inr (3, [.ref (u1 1), .ref (u1 2), .int u1_dishes, .int u1_way])), (u1 1, .inl (cy 0, 140, .inl u1_values)), (u1 2, .inl (cy 0, 6, .inl u1_settings))] sz) u) (va_A [(t 0, .inr (4, [.ref (t 1), .ref (t 2), .ref (t 3), .int t_set, .int t_number, .int t_prices, .int t_allergens, .int t_column])), (t 1, .inl (cy 0, 4, .inl t_dishes)), (t 2, .inl (cy 0, 4, .inl t_lines)), (t 3, .inl (cy 0, 4, .inl t_weights)), (u1 0, .inr (3, [.ref (u1 1), .ref (u1 2), .int u1_dishes, .int u1_way])), (u1 1, .inl (cy 0, 140, .inl u1_values)), (u1 2, .inl (cy 0, 6, .inl u1_settings))] sz)) 0 0 (va_A [(t 0, .inr (4, [.ref (t 1), .ref (t 2), .ref (t 3), .int t_set, .int t_number, .int t_prices, .int t_allergens, .int t_column])), (t 1, .inl (cy 0, 4, .inl t_dishes)), (t 2, .inl (cy 0, 4, .inl t_lines)), (t 3, .inl (cy 0, 4, .inl t_weights)), (u1 0, .inr (3, [.ref (u1 1), .ref (u1 2), .int u1_dishes, .int u1_way])), (u1 1, .inl (cy 0, 140, .inl u1_values)), (u1 2, .inl (cy 0, 6, .inl u1_settings))] sz) := by
  refine Met.ofW (cc := cX4_find) (maxL := 8) (ret := none) (by decide) rfl ?_
  intro p e s m args below meth c s₁ B hml hv
  obtain ⟨hargs, hsz, hE, hP, hK, hD0⟩ := hv
  have hx := B.exec
  have hb := B.bytes
  have hr := B.returns
  have hts := atoms_spec (ws := wsX4_find) B.pre
  have hown : s.vm.findClass RX4 = some m.cls := findClass_of_methodNamed B.named
  have hlocks := B.notSynchronized
  clear B
  subst hsz
  have hD := hD0.self (sz := s.heap.size)
  generalize hAe : va_A [(t 0, .inr (4, [.ref (t 1), .ref (t 2), .ref (t 3), .int t_set, .int t_number, .int t_prices, .int t_allergens, .int t_column])), (t 1, .inl (cy 0, 4, .inl t_dishes)), (t 2, .inl (cy 0, 4, .inl t_lines)), (t 3, .inl (cy 0, 4, .inl t_weights)), (u1 0, .inr (3, [.ref (u1 1), .ref (u1 2), .int u1_dishes, .int u1_way])), (u1 1, .inl (cy 0, 140, .inl u1_values)), (u1 2, .inl (cy 0, 6, .inl u1_settings))] s.heap.size = A at hD ⊢ hE
  have hA : ∀ q : Nat, s.heap.size ≤ q → A q := fun q h => by rw [← hAe]; exact Or.inr h
  clear hAe hD0
  have hend : ∀ (t_dishes : Nat → Int32) (t_lines : Nat → Int32) (t_weights : Nat → Int32) (t_set : Int32) (t_number : Int32) (t_prices : Int32) (t_allergens : Int32) (t_column : Int32) (H : Heap) (locs : List Loc), Q t_dishes t_lines t_weights t_set t_number t_prices t_allergens t_column → va_P D vwCl [(t 0, .inr (4, [.ref (t 1), .ref (t 2), .ref (t 3), .int t_set, .int t_number, .int t_prices, .int t_allergens, .int t_column])), (t 1, .inl (cy 0, 4, .inl t_dishes)), (t 2, .inl (cy 0, 4, .inl t_lines)), (t 3, .inl (cy 0, 4, .inl t_weights)), (u1 0, .inr (3, [.ref (u1 1), .ref (u1 2), .int u1_dishes, .int u1_way])), (u1 1, .inl (cy 0, 140, .inl u1_values)), (u1 2, .inl (cy 0, 6, .inl u1_settings))] H → va_D A [(t 0, .inr (4, [.ref (t 1), .ref (t 2), .ref (t 3), .int t_set, .int t_number, .int t_prices, .int t_allergens, .int t_column])), (t 1, .inl (cy 0, 4, .inl t_dishes)), (t 2, .inl (cy 0, 4, .inl t_lines)), (t 3, .inl (cy 0, 4, .inl t_weights)), (u1 0, .inr (3, [.ref (u1 1), .ref (u1 2), .int u1_dishes, .int u1_way])), (u1 1, .inl (cy 0, 140, .inl u1_values)), (u1 2, .inl (cy 0, 6, .inl u1_settings))] → va_S A s.heap H locs → ∀ T9 : State, T9.heap = H → (va_Qv (fun u => ∃ (t_dishes' : Nat → Int32) (t_lines' : Nat → Int32) (t_weights' : Nat → Int32) (t_set' : Int32) (t_number' : Int32) (t_prices' : Int32) (t_allergens' : Int32) (t_column' : Int32), u = [(t 0, .inr (4, [.ref (t 1), .ref (t 2), .ref (t 3), .int t_set', .int t_number', .int t_prices', .int t_allergens', .int t_column'])), (t 1, .inl (cy 0, 4, .inl t_dishes')), (t 2, .inl (cy 0, 4, .inl t_lines')), (t 3, .inl (cy 0, 4, .inl t_weights')), (u1 0, .inr (3, [.ref (u1 1), .ref (u1 2), .int u1_dishes, .int u1_way])), (u1 1, .inl (cy 0, 140, .inl u1_values)), (u1 2, .inl (cy 0, 6, .inl u1_settings))] ∧ Q t_dishes' t_lines' t_weights' t_set' t_number' t_prices' t_allergens' t_column') (fun u T9 => va_P D vwCl u T9.heap ∧ va_D A u) A) args s (.returned none) T9 := fun t_dishes t_lines t_weights t_set t_number t_prices t_allergens t_column H locs hq hP hD hS T9 ht => ⟨⟨_, rfl, ⟨t_dishes, t_lines, t_weights, t_set, t_number, t_prices, t_allergens, t_column, rfl, hq⟩, by rw [ht]; exact hP, hD⟩, hS.F ht⟩
  generalize (va_Qv (fun u => ∃ (t_dishes' : Nat → Int32) (t_lines' : Nat → Int32) (t_weights' : Nat → Int32) (t_set' : Int32) (t_number' : Int32) (t_prices' : Int32) (t_allergens' : Int32) (t_column' : Int32), u = [(t 0, .inr (4, [.ref (t 1), .ref (t 2), .ref (t 3), .int t_set', .int t_number', .int t_prices', .int t_allergens', .int t_column'])), (t 1, .inl (cy 0, 4, .inl t_dishes')), (t 2, .inl (cy 0, 4, .inl t_lines')), (t 3, .inl (cy 0, 4, .inl t_weights')), (u1 0, .inr (3, [.ref (u1 1), .ref (u1 2), .int u1_dishes, .int u1_way])), (u1 1, .inl (cy 0, 140, .inl u1_values)), (u1 2, .inl (cy 0, 6, .inl u1_settings))] ∧ Q t_dishes' t_lines' t_weights' t_set' t_number' t_prices' t_allergens' t_column') (fun u T9 => va_P D vwCl u T9.heap ∧ va_D A u) A) = Qc at hend ⊢
  have hS : va_S A s.heap s.heap [] := va_S.rf
  show W p l e r_X4_find s m args below meth c s.heap [] 0 0 (MQ below Qc args s 0 0 A) (entryFrame m args 8)
  rw [show entryFrame m args 8 = entryFrame m ([.ref (t 0), .ref (u1 0), .int a2, .int a3] : List Value).toArray 8 from by rw [hargs]]
  have hl := lv_entry ([.ref (t 0), .ref (u1 0), .int a2, .int a3]) (n := 8) (Nat.le_of_ble_eq_true rfl)
  rw [lg_entry_eq]
  generalize (lg_sl ([.ref (t 0), .ref (u1 0), .int a2, .int a3]) ++ List.replicate (8 - (lg_sl ([.ref (t 0), .ref (u1 0), .int a2, .int a3])).length) Slot.unset).toArray = ls at hl ⊢
  have hl : lv_has ls 8 [(0, .ref (t 0)), (1, .ref (u1 0)), (2, .int a2), (3, .int a3)] := hl
  have h := hq
  clear hargs hq
  have j10 : ∀ (t_dishes : Nat → Int32) (t_lines : Nat → Int32) (t_weights : Nat → Int32) (t_set : Int32) (t_number : Int32) (t_prices : Int32) (t_allergens : Int32) (t_column : Int32) (x4 : Int32) (x5 : Int32), p_X4_find_10 u1_values u1_settings u1_dishes a2 a3 t_lines t_weights Q t_dishes t_set t_number t_prices t_allergens x4 x5 → ∀ (H : Heap) (locs : List Loc), va_P D vwCl [(t 0, .inr (4, [.ref (t 1), .ref (t 2), .ref (t 3), .int t_set, .int t_number, .int t_prices, .int t_allergens, .int t_column])), (t 1, .inl (cy 0, 4, .inl t_dishes)), (t 2, .inl (cy 0, 4, .inl t_lines)), (t 3, .inl (cy 0, 4, .inl t_weights)), (u1 0, .inr (3, [.ref (u1 1), .ref (u1 2), .int u1_dishes, .int u1_way])), (u1 1, .inl (cy 0, 140, .inl u1_values)), (u1 2, .inl (cy 0, 6, .inl u1_settings))] H → va_D A [(t 0, .inr (4, [.ref (t 1), .ref (t 2), .ref (t 3), .int t_set, .int t_number, .int t_prices, .int t_allergens, .int t_column])), (t 1, .inl (cy 0, 4, .inl t_dishes)), (t 2, .inl (cy 0, 4, .inl t_lines)), (t 3, .inl (cy 0, 4, .inl t_weights)), (u1 0, .inr (3, [.ref (u1 1), .ref (u1 2), .int u1_dishes, .int u1_way])), (u1 1, .inl (cy 0, 140, .inl u1_values)), (u1 2, .inl (cy 0, 6, .inl u1_settings))] → va_S A s.heap H locs → ∀ (ls : Array Slot), lv_has ls 8 [(0, .ref (t 0)), (1, .ref (u1 0)), (2, .int a2), (3, .int a3), (4, .int x4), (5, .int x5)] → W p l e r_X4_find s m args below meth c H locs 0 0 (MQ below Qc args s 0 0 A) (F0 m 10 ls []) := by
    intro t_dishes t_lines t_weights t_set t_number t_prices t_allergens t_column x4 x5 h
    obtain ⟨I10, μ10, h0, hs10⟩ := h
    have key : ∀ (n : Nat) (t_dishes : Nat → Int32) (t_set : Int32) (t_number : Int32) (t_prices : Int32) (t_allergens : Int32) (x4 : Int32) (x5 : Int32), I10 t_dishes t_set t_number t_prices t_allergens x4 x5 → μ10 t_dishes t_set t_number t_prices t_allergens x4 x5 < n → ∀ (H : Heap) (locs : List Loc), va_P D vwCl [(t 0, .inr (4, [.ref (t 1), .ref (t 2), .ref (t 3), .int t_set, .int t_number, .int t_prices, .int t_allergens, .int t_column])), (t 1, .inl (cy 0, 4, .inl t_dishes)), (t 2, .inl (cy 0, 4, .inl t_lines)), (t 3, .inl (cy 0, 4, .inl t_weights)), (u1 0, .inr (3, [.ref (u1 1), .ref (u1 2), .int u1_dishes, .int u1_way])), (u1 1, .inl (cy 0, 140, .inl u1_values)), (u1 2, .inl (cy 0, 6, .inl u1_settings))] H → va_D A [(t 0, .inr (4, [.ref (t 1), .ref (t 2), .ref (t 3), .int t_set, .int t_number, .int t_prices, .int t_allergens, .int t_column])), (t 1, .inl (cy 0, 4, .inl t_dishes)), (t 2, .inl (cy 0, 4, .inl t_lines)), (t 3, .inl (cy 0, 4, .inl t_weights)), (u1 0, .inr (3, [.ref (u1 1), .ref (u1 2), .int u1_dishes, .int u1_way])), (u1 1, .inl (cy 0, 140, .inl u1_values)), (u1 2, .inl (cy 0, 6, .inl u1_settings))] → va_S A s.heap H locs → ∀ (ls : Array Slot), lv_has ls 8 [(0, .ref (t 0)), (1, .ref (u1 0)), (2, .int a2), (3, .int a3), (4, .int x4), (5, .int x5)] → W p l e r_X4_find s m args below meth c H locs 0 0 (MQ below Qc args s 0 0 A) (F0 m 10 ls []) := by
      intro n
      induction n with
      | zero => intro t_dishes t_set t_number t_prices t_allergens x4 x5 _ h; exact absurd h (Nat.not_lt_zero _)
      | succ n ih10 =>
        intro t_dishes t_set t_number t_prices t_allergens x4 x5 hI hn H locs hP hD hS ls hl
        have h := hs10 t_dishes t_set t_number t_prices t_allergens x4 x5 hI
        have hk10 : ∀ (t_dishes1 : Nat → Int32) (t_set1 : Int32) (t_number1 : Int32) (t_prices1 : Int32) (t_allergens1 : Int32) (x41 : Int32) (x51 : Int32), (fun (t_dishes' : Nat → Int32) (t_set' : Int32) (t_number' : Int32) (t_prices' : Int32) (t_allergens' : Int32) (x4' : Int32) (x5' : Int32) => I10 t_dishes' t_set' t_number' t_prices' t_allergens' x4' x5' ∧ μ10 t_dishes' t_set' t_number' t_prices' t_allergens' x4' x5' < μ10 t_dishes t_set t_number t_prices t_allergens x4 x5) t_dishes1 t_set1 t_number1 t_prices1 t_allergens1 x41 x51 → ∀ (H : Heap) (locs : List Loc), va_P D vwCl [(t 0, .inr (4, [.ref (t 1), .ref (t 2), .ref (t 3), .int t_set1, .int t_number1, .int t_prices1, .int t_allergens1, .int t_column])), (t 1, .inl (cy 0, 4, .inl t_dishes1)), (t 2, .inl (cy 0, 4, .inl t_lines)), (t 3, .inl (cy 0, 4, .inl t_weights)), (u1 0, .inr (3, [.ref (u1 1), .ref (u1 2), .int u1_dishes, .int u1_way])), (u1 1, .inl (cy 0, 140, .inl u1_values)), (u1 2, .inl (cy 0, 6, .inl u1_settings))] H → va_D A [(t 0, .inr (4, [.ref (t 1), .ref (t 2), .ref (t 3), .int t_set1, .int t_number1, .int t_prices1, .int t_allergens1, .int t_column])), (t 1, .inl (cy 0, 4, .inl t_dishes1)), (t 2, .inl (cy 0, 4, .inl t_lines)), (t 3, .inl (cy 0, 4, .inl t_weights)), (u1 0, .inr (3, [.ref (u1 1), .ref (u1 2), .int u1_dishes, .int u1_way])), (u1 1, .inl (cy 0, 140, .inl u1_values)), (u1 2, .inl (cy 0, 6, .inl u1_settings))] → va_S A s.heap H locs → ∀ (ls : Array Slot), lv_has ls 8 [(0, .ref (t 0)), (1, .ref (u1 0)), (2, .int a2), (3, .int a3), (4, .int x41), (5, .int x51)] → W p l e r_X4_find s m args below meth c H locs 0 0 (MQ below Qc args s 0 0 A) (F0 m 10 ls []) := by
          intro t_dishes1 t_set1 t_number1 t_prices1 t_allergens1 x41 x51 hz
          exact ih10 t_dishes1 t_set1 t_number1 t_prices1 t_allergens1 x41 x51 hz.1 (Nat.lt_of_lt_of_le hz.2 (Nat.le_of_lt_succ hn))
        generalize hKe : (fun (t_dishes' : Nat → Int32) (t_set' : Int32) (t_number' : Int32) (t_prices' : Int32) (t_allergens' : Int32) (x4' : Int32) (x5' : Int32) => I10 t_dishes' t_set' t_number' t_prices' t_allergens' x4' x5' ∧ μ10 t_dishes' t_set' t_number' t_prices' t_allergens' x4' x5' < μ10 t_dishes t_set t_number t_prices t_allergens x4 x5) = K10 at h hk10
        clear hKe ih10 hn hI
        have j142 : ∀ (t_dishes : Nat → Int32) (t_set : Int32) (t_number : Int32) (t_prices : Int32) (t_allergens : Int32) (x4 : Int32) (x5 : Int32), p_X4_find_142 t_dishes t_set t_number t_prices t_allergens x4 x5 K10 → ∀ (H : Heap) (locs : List Loc), va_P D vwCl [(t 0, .inr (4, [.ref (t 1), .ref (t 2), .ref (t 3), .int t_set, .int t_number, .int t_prices, .int t_allergens, .int t_column])), (t 1, .inl (cy 0, 4, .inl t_dishes)), (t 2, .inl (cy 0, 4, .inl t_lines)), (t 3, .inl (cy 0, 4, .inl t_weights)), (u1 0, .inr (3, [.ref (u1 1), .ref (u1 2), .int u1_dishes, .int u1_way])), (u1 1, .inl (cy 0, 140, .inl u1_values)), (u1 2, .inl (cy 0, 6, .inl u1_settings))] H → va_D A [(t 0, .inr (4, [.ref (t 1), .ref (t 2), .ref (t 3), .int t_set, .int t_number, .int t_prices, .int t_allergens, .int t_column])), (t 1, .inl (cy 0, 4, .inl t_dishes)), (t 2, .inl (cy 0, 4, .inl t_lines)), (t 3, .inl (cy 0, 4, .inl t_weights)), (u1 0, .inr (3, [.ref (u1 1), .ref (u1 2), .int u1_dishes, .int u1_way])), (u1 1, .inl (cy 0, 140, .inl u1_values)), (u1 2, .inl (cy 0, 6, .inl u1_settings))] → va_S A s.heap H locs → ∀ (ls : Array Slot), lv_has ls 8 [(0, .ref (t 0)), (1, .ref (u1 0)), (2, .int a2), (3, .int a3), (4, .int x4), (5, .int x5)] → W p l e r_X4_find s m args below meth c H locs 0 0 (MQ below Qc args s 0 0 A) (F0 m 142 ls []) := by
          intro t_dishes t_set t_number t_prices t_allergens x4 x5 h H locs hP hD hS ls hl
          unfold p_X4_find_142 at h
          refine lv_iinc (k := 5) (v := (x5 + 1)) (lv' := [(5, .int (x5 + 1)), (0, .ref (t 0)), (1, .ref (u1 0)), (2, .int a2), (3, .int a3), (4, .int x4)]) hx hb dX4_find_142 hl rfl rfl (by decide) rfl (fun ls hl => ?_)
          refine lv_goto (tgt := 10) hx hb dX4_find_145 rfl ?_
          exact hk10 t_dishes t_set t_number t_prices t_allergens x4 ((x5 + 1)) h _ _ hP hD hS _ (lv_sub hl [1, 2, 3, 4, 5, 0] rfl)
        unfold q_X4_find_10 at h
        refine lv_iload hx hb dX4_find_10 (lv_at hl 5 rfl) ?_
        refine lv_aload_n hx hb dX4_find_12 rfl (lv_at hl 1 rfl) ?_
        have hPc := hP.sub (ws' := [(u1 0, .inr (3, [.ref (u1 1), .ref (u1 2), .int u1_dishes, .int u1_way]))]) [4] rfl
        refine w_callR (va_runV (As := []) (rest := [.int x5]) ⟨hx, hb, hml, hown, hts⟩ (c_X3_size l D cy H u1 u1_dishes u1_way _ h) (cwV 0 hts gX4_find_X3_size rfl rfl rfl (by decide +kernel) ⟨Nat.le_of_ble_eq_true rfl, Nat.le_of_ble_eq_true rfl⟩) (w_preVN hK hPc (ci := 3) rfl rfl) rfl rfl hl.1 rfl (lv_room (Nat.le_of_ble_eq_true rfl)) dX4_find_13 ⟨Nat.zero_le _, Nat.zero_le _⟩) hS (fun r1 locs h hS => ?_)
        try dsimp only at h
        refine lv_icmp_ge (tgt := 148) hx hb dX4_find_16 rfl (fun hc => ?_) (fun hc => ?_)
        · replace h := h.1 hc
          refine lv_aload_n hx hb dX4_find_148 rfl (lv_at hl 0 rfl) ?_
          refine lv_iload hx hb dX4_find_149 (lv_at hl 4 rfl) ?_
          have hPc := hP.sub (ws' := []) [] rfl
          refine w_callR (va_runSN (As := [.int x4]) (rest := [.ref (t 0)]) ⟨hx, hb, hml, hown, hts⟩ (c_X8_digitsOf l D cy H x4 _ h) ⟨(va_cnB 1 hts gX4_find_X8_digitsOf_n64 rfl rfl rfl (nM_X4_64 hE.1) (hts (.initialized RX8) (by decide +kernel)) (by decide +kernel) ⟨Nat.le_of_ble_eq_true rfl, Nat.le_of_ble_eq_true rfl⟩), hts (.static yX8_digitsOf) (by decide +kernel), trivial⟩ (w_preSN hK hPc) rfl rfl hl.1 rfl (lv_room (Nat.le_of_ble_eq_true rfl)) dX4_find_151 ⟨Nat.zero_le _, Nat.zero_le _⟩) hS (fun r2 locs h hS => ?_)
          try dsimp only at h
          refine va_put (D := D) (ci := 4) (v := .int r2) (ty := .int) (C := RX4) (T := TX4) (N := 8) hx hb hts i_X4_find_X4 tyX4 tyX4_ok nmX4 hown hK hP hD hS 0 rfl rfl 7 (by decide) (hts (.fieldLink RX4 67 "FoldedMenu$Printing" "column" "I") (by decide +kernel)) (fun _ h9 => h9) rfl (by decide +kernel) rfl rfl (Nat.le_of_ble_eq_true rfl) dX4_find_154 (fun H locs hP hD hS => ?_)
          have hP : va_P D vwCl [(t 0, .inr (4, [.ref (t 1), .ref (t 2), .ref (t 3), .int t_set, .int t_number, .int t_prices, .int t_allergens, .int r2])), (t 1, .inl (cy 0, 4, .inl t_dishes)), (t 2, .inl (cy 0, 4, .inl t_lines)), (t 3, .inl (cy 0, 4, .inl t_weights)), (u1 0, .inr (3, [.ref (u1 1), .ref (u1 2), .int u1_dishes, .int u1_way])), (u1 1, .inl (cy 0, 140, .inl u1_values)), (u1 2, .inl (cy 0, 6, .inl u1_settings))] H := hP
          have hD : va_D A [(t 0, .inr (4, [.ref (t 1), .ref (t 2), .ref (t 3), .int t_set, .int t_number, .int t_prices, .int t_allergens, .int r2])), (t 1, .inl (cy 0, 4, .inl t_dishes)), (t 2, .inl (cy 0, 4, .inl t_lines)), (t 3, .inl (cy 0, 4, .inl t_weights)), (u1 0, .inr (3, [.ref (u1 1), .ref (u1 2), .int u1_dishes, .int u1_way])), (u1 1, .inl (cy 0, 140, .inl u1_values)), (u1 2, .inl (cy 0, 6, .inl u1_settings))] := hD
          refine lv_aload_n hx hb dX4_find_157 rfl (lv_at hl 0 rfl) ?_
          refine lv_aload_n hx hb dX4_find_158 rfl (lv_at hl 1 rfl) ?_
          refine w_callV hP hD hS hA [0, 2, 3, 4, 5, 6] [1] (wc := [(t 0, .inr (4, [.ref (t 1), .ref (t 2), .ref (t 3), .int t_set, .int t_number, .int t_prices, .int t_allergens, .int r2])), (t 2, .inl (cy 0, 4, .inl t_lines)), (t 3, .inl (cy 0, 4, .inl t_weights)), (u1 0, .inr (3, [.ref (u1 1), .ref (u1 2), .int u1_dishes, .int u1_way])), (u1 1, .inl (cy 0, 140, .inl u1_values)), (u1 2, .inl (cy 0, 6, .inl u1_settings))]) (wr := [(t 1, .inl (cy 0, 4, .inl t_dishes))]) rfl rfl (by decide) (by decide) (va_runV (As := [.ref (u1 0)]) (rest := []) ⟨hx, hb, hml, hown, hts⟩ (c_X4_measure l D cy H.size t u1 t_lines t_weights t_set t_number t_prices t_allergens r2 u1_values u1_settings u1_dishes u1_way _ h) (cwV 1 hts gX4_find_X4_measure rfl rfl rfl (by decide +kernel) ⟨Nat.le_of_ble_eq_true rfl, Nat.le_of_ble_eq_true rfl⟩) (w_preVM hE hS hA hK hP hD [0, 2, 3, 4, 5, 6] rfl rfl (by decide) (ci := 4) rfl rfl) rfl rfl hl.1 rfl (lv_room (Nat.le_of_ble_eq_true rfl)) dX4_find_159 ⟨Nat.zero_le _, Nat.zero_le _⟩) (fun u H locs hw hP hD hS => ?_)
          obtain ⟨lines_3, weights_4, rfl, h⟩ := hw
          try dsimp only at h
          have hP := hP.sub (ws' := [(t 0, .inr (4, [.ref (t 1), .ref (t 2), .ref (t 3), .int t_set, .int t_number, .int t_prices, .int t_allergens, .int r2])), (t 1, .inl (cy 0, 4, .inl t_dishes)), (t 2, .inl (cy 0, 4, .inl lines_3)), (t 3, .inl (cy 0, 4, .inl weights_4)), (u1 0, .inr (3, [.ref (u1 1), .ref (u1 2), .int u1_dishes, .int u1_way])), (u1 1, .inl (cy 0, 140, .inl u1_values)), (u1 2, .inl (cy 0, 6, .inl u1_settings))]) [1, 0, 2, 3, 4, 5, 6] rfl
          have hD := hD.sub (ws' := [(t 0, .inr (4, [.ref (t 1), .ref (t 2), .ref (t 3), .int t_set, .int t_number, .int t_prices, .int t_allergens, .int r2])), (t 1, .inl (cy 0, 4, .inl t_dishes)), (t 2, .inl (cy 0, 4, .inl lines_3)), (t 3, .inl (cy 0, 4, .inl weights_4)), (u1 0, .inr (3, [.ref (u1 1), .ref (u1 2), .int u1_dishes, .int u1_way])), (u1 1, .inl (cy 0, 140, .inl u1_values)), (u1 2, .inl (cy 0, 6, .inl u1_settings))]) [1, 0, 2, 3, 4, 5, 6] (by decide) rfl
          exact W.vret hx hb hr (fun t ht _ => hend t_dishes lines_3 weights_4 t_set t_number t_prices t_allergens r2 H locs h hP hD hS t ht) hS.2.2 dX4_find_162
        · replace h := h.2 hc
          refine lv_aload_n hx hb dX4_find_19 rfl (lv_at hl 1 rfl) ?_
          refine lv_iload hx hb dX4_find_20 (lv_at hl 5 rfl) ?_
          refine lv_iconst (v := 0) hx hb dX4_find_22 (by decide) ?_
          have hPc := hP.sub (ws' := [(u1 0, .inr (3, [.ref (u1 1), .ref (u1 2), .int u1_dishes, .int u1_way])), (u1 1, .inl (cy 0, 140, .inl u1_values))]) [4, 5] rfl
          refine w_callR (va_runV (As := [.int x5, .int 0]) (rest := []) ⟨hx, hb, hml, hown, hts⟩ (c_X3_valueOf l D cy H u1 u1_values u1_dishes u1_way x5 0 _ h) (cwV 2 hts gX4_find_X3_valueOf rfl rfl rfl (by decide +kernel) ⟨Nat.le_of_ble_eq_true rfl, Nat.le_of_ble_eq_true rfl⟩) (w_preVN hK hPc (ci := 3) rfl rfl) rfl rfl hl.1 rfl (lv_room (Nat.le_of_ble_eq_true rfl)) dX4_find_23 ⟨Nat.zero_le _, Nat.zero_le _⟩) hS (fun r5 locs h hS => ?_)
          try dsimp only at h
          refine lv_istore (lv' := [(6, .int r5), (0, .ref (t 0)), (1, .ref (u1 0)), (2, .int a2), (3, .int a3), (4, .int x4), (5, .int x5)]) hx hb dX4_find_26 hl (by decide) rfl (fun ls hl => ?_)
          refine lv_aload_n hx hb dX4_find_28 rfl (lv_at hl 2 rfl) ?_
          refine lv_iload hx hb dX4_find_29 (lv_at hl 6 rfl) ?_
          have hPc := hP.sub (ws' := [(u1 0, .inr (3, [.ref (u1 1), .ref (u1 2), .int u1_dishes, .int u1_way])), (u1 1, .inl (cy 0, 140, .inl u1_values))]) [4, 5] rfl
          refine w_callZ (va_runV (As := [.int x5]) (rest := []) ⟨hx, hb, hml, hown, hts⟩ (c_X3_isOffered l D cy H u1 u1_values u1_dishes u1_way x5 _ h) (cwV 1 hts gX4_find_X3_isOffered rfl rfl rfl (by decide +kernel) ⟨Nat.le_of_ble_eq_true rfl, Nat.le_of_ble_eq_true rfl⟩) (w_preVN hK hPc (ci := 3) rfl rfl) rfl rfl hl.1 rfl (lv_room (Nat.le_of_ble_eq_true rfl)) dX4_find_31 ⟨Nat.zero_le _, Nat.zero_le _⟩) hS (fun r6 locs z_r6 h hS => ?_)
          try dsimp only at h
          refine lv_if_eq (tgt := 142) hx hb dX4_find_34 rfl (fun hc => ?_) (fun hc => ?_)
          · replace h := h.1 hc
            exact j142 t_dishes t_set t_number t_prices t_allergens x4 x5 h _ _ hP hD hS _ (lv_sub hl [1, 2, 3, 4, 5, 6] rfl)
          · replace h := h.2 hc
            refine lv_aload_n hx hb dX4_find_37 rfl (lv_at hl 2 rfl) ?_
            refine lv_iload hx hb dX4_find_38 (lv_at hl 6 rfl) ?_
            refine lv_iload_n hx hb dX4_find_40 rfl (lv_at hl 3 rfl) ?_
            refine lv_iload_n hx hb dX4_find_41 rfl (lv_at hl 4 rfl) ?_
            have hPc := hP.sub (ws' := [(u1 0, .inr (3, [.ref (u1 1), .ref (u1 2), .int u1_dishes, .int u1_way])), (u1 1, .inl (cy 0, 140, .inl u1_values))]) [4, 5] rfl
            refine w_callZ (va_runV (As := [.int x5, .int a2, .int a3]) (rest := []) ⟨hx, hb, hml, hown, hts⟩ (c_X3_mayBePrinted l D cy H u1 u1_values u1_dishes u1_way x5 a2 a3 _ h) (cwV 3 hts gX4_find_X3_mayBePrinted rfl rfl rfl (by decide +kernel) ⟨Nat.le_of_ble_eq_true rfl, Nat.le_of_ble_eq_true rfl⟩) (w_preVR hE hS hK hPc (ci := 3) rfl rfl) rfl rfl hl.1 rfl (lv_room (Nat.le_of_ble_eq_true rfl)) dX4_find_42 ⟨Nat.zero_le _, Nat.zero_le _⟩) hS (fun r7 locs z_r7 h hS => ?_)
            try dsimp only at h
            refine lv_if_eq (tgt := 142) hx hb dX4_find_45 rfl (fun hc => ?_) (fun hc => ?_)
            · replace h := h.1 hc
              exact j142 t_dishes t_set t_number t_prices t_allergens x4 x5 h _ _ hP hD hS _ (lv_sub hl [1, 2, 3, 4, 5, 6] rfl)
            · replace h := h.2 hc
              refine lv_aload_n hx hb dX4_find_48 rfl (lv_at hl 1 rfl) ?_
              refine va_get (D := D) (ci := 4) (v := .ref (t 1)) (C := RX4) (T := TX4) (N := 8) hx hb hts i_X4_find_X4 hown hK hP 0 rfl rfl 0 (by decide) (hts (.fieldLink RX4 9 "FoldedMenu$Printing" "dishes" "[I") (by decide +kernel)) (fun _ h9 => h9) rfl dX4_find_49 ?_
              refine lv_iload hx hb dX4_find_52 (lv_at hl 0 rfl) ?_
              obtain ⟨hi, h⟩ := h
              refine va_iald hx hb hK hP 1 0 rfl rfl hi dX4_find_54 ?_
              refine lv_aload_n hx hb dX4_find_55 rfl (lv_at hl 2 rfl) ?_
              refine lv_iconst (v := 2) hx hb dX4_find_56 (by decide) ?_
              have hPc := hP.sub (ws' := [(u1 0, .inr (3, [.ref (u1 1), .ref (u1 2), .int u1_dishes, .int u1_way])), (u1 2, .inl (cy 0, 6, .inl u1_settings))]) [4, 6] rfl
              refine w_callR (va_runV (As := [.int 2]) (rest := [.int (t_dishes r5.toNatClampNeg)]) ⟨hx, hb, hml, hown, hts⟩ (c_X3_setting l D cy H u1 u1_settings u1_dishes u1_way 2 _ h) (cwV 1 hts gX4_find_X3_setting rfl rfl rfl (by decide +kernel) ⟨Nat.le_of_ble_eq_true rfl, Nat.le_of_ble_eq_true rfl⟩) (w_preVN hK hPc (ci := 3) rfl rfl) rfl rfl hl.1 rfl (lv_room (Nat.le_of_ble_eq_true rfl)) dX4_find_57 ⟨Nat.zero_le _, Nat.zero_le _⟩) hS (fun r8 locs h hS => ?_)
              try dsimp only at h
              refine lv_icmp_ge (tgt := 142) hx hb dX4_find_60 rfl (fun hc => ?_) (fun hc => ?_)
              · replace h := h.1 hc
                exact j142 t_dishes t_set t_number t_prices t_allergens x4 x5 h _ _ hP hD hS _ (lv_sub hl [1, 2, 3, 4, 5, 6] rfl)
              · replace h := h.2 hc
                refine lv_aload_n hx hb dX4_find_63 rfl (lv_at hl 2 rfl) ?_
                refine lv_iload hx hb dX4_find_64 (lv_at hl 6 rfl) ?_
                refine lv_iconst (v := 2) hx hb dX4_find_66 (by decide) ?_
                have hPc := hP.sub (ws' := [(u1 0, .inr (3, [.ref (u1 1), .ref (u1 2), .int u1_dishes, .int u1_way])), (u1 1, .inl (cy 0, 140, .inl u1_values))]) [4, 5] rfl
                refine w_callR (va_runV (As := [.int x5, .int 2]) (rest := []) ⟨hx, hb, hml, hown, hts⟩ (c_X3_valueOf l D cy H u1 u1_values u1_dishes u1_way x5 2 _ h) (cwV 2 hts gX4_find_X3_valueOf rfl rfl rfl (by decide +kernel) ⟨Nat.le_of_ble_eq_true rfl, Nat.le_of_ble_eq_true rfl⟩) (w_preVN hK hPc (ci := 3) rfl rfl) rfl rfl hl.1 rfl (lv_room (Nat.le_of_ble_eq_true rfl)) dX4_find_67 ⟨Nat.zero_le _, Nat.zero_le _⟩) hS (fun r9 locs h hS => ?_)
                try dsimp only at h
                refine lv_istore (lv' := [(7, .int r9), (6, .int r5), (0, .ref (t 0)), (1, .ref (u1 0)), (2, .int a2), (3, .int a3), (4, .int x4), (5, .int x5)]) hx hb dX4_find_70 hl (by decide) rfl (fun ls hl => ?_)
                refine lv_aload_n hx hb dX4_find_72 rfl (lv_at hl 2 rfl) ?_
                refine va_get (D := D) (ci := 4) (v := .ref (t 1)) (C := RX4) (T := TX4) (N := 8) hx hb hts i_X4_find_X4 hown hK hP 0 rfl rfl 0 (by decide) (hts (.fieldLink RX4 9 "FoldedMenu$Printing" "dishes" "[I") (by decide +kernel)) (fun _ h9 => h9) rfl dX4_find_73 ?_
                refine lv_iload hx hb dX4_find_76 (lv_at hl 1 rfl) ?_
                refine lv_dup2_11 hx hb dX4_find_78 rfl rfl ?_
                obtain ⟨hi, h⟩ := h
                refine va_iald hx hb hK hP 1 0 rfl rfl hi dX4_find_79 ?_
                refine lv_iconst (v := 1) hx hb dX4_find_80 (by decide) ?_
                refine lv_iadd hx hb dX4_find_81 ?_
                obtain ⟨hi, h⟩ := h
                refine va_iast hx hb hK hP hD hS 1 0 rfl rfl hi dX4_find_82 (fun H locs hP hD hS => ?_)
                have hP : va_P D vwCl [(t 0, .inr (4, [.ref (t 1), .ref (t 2), .ref (t 3), .int t_set, .int t_number, .int t_prices, .int t_allergens, .int t_column])), (t 1, .inl (cy 0, 4, .inl ((upd t_dishes r5.toNatClampNeg (((t_dishes r5.toNatClampNeg) + 1)))))), (t 2, .inl (cy 0, 4, .inl t_lines)), (t 3, .inl (cy 0, 4, .inl t_weights)), (u1 0, .inr (3, [.ref (u1 1), .ref (u1 2), .int u1_dishes, .int u1_way])), (u1 1, .inl (cy 0, 140, .inl u1_values)), (u1 2, .inl (cy 0, 6, .inl u1_settings))] H := hP
                have hD : va_D A [(t 0, .inr (4, [.ref (t 1), .ref (t 2), .ref (t 3), .int t_set, .int t_number, .int t_prices, .int t_allergens, .int t_column])), (t 1, .inl (cy 0, 4, .inl ((upd t_dishes r5.toNatClampNeg (((t_dishes r5.toNatClampNeg) + 1)))))), (t 2, .inl (cy 0, 4, .inl t_lines)), (t 3, .inl (cy 0, 4, .inl t_weights)), (u1 0, .inr (3, [.ref (u1 1), .ref (u1 2), .int u1_dishes, .int u1_way])), (u1 1, .inl (cy 0, 140, .inl u1_values)), (u1 2, .inl (cy 0, 6, .inl u1_settings))] := hD
                refine lv_aload_n hx hb dX4_find_83 rfl (lv_at hl 2 rfl) ?_
                refine lv_dup hx hb dX4_find_84 rfl ?_
                refine va_get (D := D) (ci := 4) (v := .int t_set) (C := RX4) (T := TX4) (N := 8) hx hb hts i_X4_find_X4 hown hK hP 0 rfl rfl 3 (by decide) (hts (.fieldLink RX4 46 "FoldedMenu$Printing" "set" "I") (by decide +kernel)) (fun _ h9 => h9) rfl dX4_find_85 ?_
                refine lv_iconst (v := 1) hx hb dX4_find_88 (by decide) ?_
                refine lv_iload hx hb dX4_find_89 (lv_at hl 7 rfl) ?_
                refine lv_ishl hx hb dX4_find_91 ?_
                refine lv_ior hx hb dX4_find_92 ?_
                refine va_put (D := D) (ci := 4) (v := .int (t_set ||| (1 <<< (x5 &&& 31)))) (ty := .int) (C := RX4) (T := TX4) (N := 8) hx hb hts i_X4_find_X4 tyX4 tyX4_ok nmX4 hown hK hP hD hS 0 rfl rfl 3 (by decide) (hts (.fieldLink RX4 46 "FoldedMenu$Printing" "set" "I") (by decide +kernel)) (fun _ h9 => h9) rfl (by decide +kernel) rfl rfl (Nat.le_of_ble_eq_true rfl) dX4_find_93 (fun H locs hP hD hS => ?_)
                have hP : va_P D vwCl [(t 0, .inr (4, [.ref (t 1), .ref (t 2), .ref (t 3), .int ((t_set ||| (1 <<< (x5 &&& 31)))), .int t_number, .int t_prices, .int t_allergens, .int t_column])), (t 1, .inl (cy 0, 4, .inl ((upd t_dishes r5.toNatClampNeg (((t_dishes r5.toNatClampNeg) + 1)))))), (t 2, .inl (cy 0, 4, .inl t_lines)), (t 3, .inl (cy 0, 4, .inl t_weights)), (u1 0, .inr (3, [.ref (u1 1), .ref (u1 2), .int u1_dishes, .int u1_way])), (u1 1, .inl (cy 0, 140, .inl u1_values)), (u1 2, .inl (cy 0, 6, .inl u1_settings))] H := hP
                have hD : va_D A [(t 0, .inr (4, [.ref (t 1), .ref (t 2), .ref (t 3), .int ((t_set ||| (1 <<< (x5 &&& 31)))), .int t_number, .int t_prices, .int t_allergens, .int t_column])), (t 1, .inl (cy 0, 4, .inl ((upd t_dishes r5.toNatClampNeg (((t_dishes r5.toNatClampNeg) + 1)))))), (t 2, .inl (cy 0, 4, .inl t_lines)), (t 3, .inl (cy 0, 4, .inl t_weights)), (u1 0, .inr (3, [.ref (u1 1), .ref (u1 2), .int u1_dishes, .int u1_way])), (u1 1, .inl (cy 0, 140, .inl u1_values)), (u1 2, .inl (cy 0, 6, .inl u1_settings))] := hD
                refine lv_aload_n hx hb dX4_find_96 rfl (lv_at hl 2 rfl) ?_
                refine lv_dup hx hb dX4_find_97 rfl ?_
                refine va_get (D := D) (ci := 4) (v := .int t_number) (C := RX4) (T := TX4) (N := 8) hx hb hts i_X4_find_X4 hown hK hP 0 rfl rfl 4 (by decide) (hts (.fieldLink RX4 50 "FoldedMenu$Printing" "number" "I") (by decide +kernel)) (fun _ h9 => h9) rfl dX4_find_98 ?_
                refine lv_iconst (v := 1) hx hb dX4_find_101 (by decide) ?_
                refine lv_iadd hx hb dX4_find_102 ?_
                refine va_put (D := D) (ci := 4) (v := .int (t_number + 1)) (ty := .int) (C := RX4) (T := TX4) (N := 8) hx hb hts i_X4_find_X4 tyX4 tyX4_ok nmX4 hown hK hP hD hS 0 rfl rfl 4 (by decide) (hts (.fieldLink RX4 50 "FoldedMenu$Printing" "number" "I") (by decide +kernel)) (fun _ h9 => h9) rfl (by decide +kernel) rfl rfl (Nat.le_of_ble_eq_true rfl) dX4_find_103 (fun H locs hP hD hS => ?_)
                have hP : va_P D vwCl [(t 0, .inr (4, [.ref (t 1), .ref (t 2), .ref (t 3), .int ((t_set ||| (1 <<< (x5 &&& 31)))), .int ((t_number + 1)), .int t_prices, .int t_allergens, .int t_column])), (t 1, .inl (cy 0, 4, .inl ((upd t_dishes r5.toNatClampNeg (((t_dishes r5.toNatClampNeg) + 1)))))), (t 2, .inl (cy 0, 4, .inl t_lines)), (t 3, .inl (cy 0, 4, .inl t_weights)), (u1 0, .inr (3, [.ref (u1 1), .ref (u1 2), .int u1_dishes, .int u1_way])), (u1 1, .inl (cy 0, 140, .inl u1_values)), (u1 2, .inl (cy 0, 6, .inl u1_settings))] H := hP
                have hD : va_D A [(t 0, .inr (4, [.ref (t 1), .ref (t 2), .ref (t 3), .int ((t_set ||| (1 <<< (x5 &&& 31)))), .int ((t_number + 1)), .int t_prices, .int t_allergens, .int t_column])), (t 1, .inl (cy 0, 4, .inl ((upd t_dishes r5.toNatClampNeg (((t_dishes r5.toNatClampNeg) + 1)))))), (t 2, .inl (cy 0, 4, .inl t_lines)), (t 3, .inl (cy 0, 4, .inl t_weights)), (u1 0, .inr (3, [.ref (u1 1), .ref (u1 2), .int u1_dishes, .int u1_way])), (u1 1, .inl (cy 0, 140, .inl u1_values)), (u1 2, .inl (cy 0, 6, .inl u1_settings))] := hD
                refine lv_aload_n hx hb dX4_find_106 rfl (lv_at hl 2 rfl) ?_
                refine lv_dup hx hb dX4_find_107 rfl ?_
                refine va_get (D := D) (ci := 4) (v := .int t_prices) (C := RX4) (T := TX4) (N := 8) hx hb hts i_X4_find_X4 hown hK hP 0 rfl rfl 5 (by decide) (hts (.fieldLink RX4 53 "FoldedMenu$Printing" "prices" "I") (by decide +kernel)) (fun _ h9 => h9) rfl dX4_find_108 ?_
                refine lv_iload hx hb dX4_find_111 (lv_at hl 0 rfl) ?_
                refine lv_iadd hx hb dX4_find_113 ?_
                refine va_put (D := D) (ci := 4) (v := .int (t_prices + r9)) (ty := .int) (C := RX4) (T := TX4) (N := 8) hx hb hts i_X4_find_X4 tyX4 tyX4_ok nmX4 hown hK hP hD hS 0 rfl rfl 5 (by decide) (hts (.fieldLink RX4 53 "FoldedMenu$Printing" "prices" "I") (by decide +kernel)) (fun _ h9 => h9) rfl (by decide +kernel) rfl rfl (Nat.le_of_ble_eq_true rfl) dX4_find_114 (fun H locs hP hD hS => ?_)
                have hP : va_P D vwCl [(t 0, .inr (4, [.ref (t 1), .ref (t 2), .ref (t 3), .int ((t_set ||| (1 <<< (x5 &&& 31)))), .int ((t_number + 1)), .int ((t_prices + r9)), .int t_allergens, .int t_column])), (t 1, .inl (cy 0, 4, .inl ((upd t_dishes r5.toNatClampNeg (((t_dishes r5.toNatClampNeg) + 1)))))), (t 2, .inl (cy 0, 4, .inl t_lines)), (t 3, .inl (cy 0, 4, .inl t_weights)), (u1 0, .inr (3, [.ref (u1 1), .ref (u1 2), .int u1_dishes, .int u1_way])), (u1 1, .inl (cy 0, 140, .inl u1_values)), (u1 2, .inl (cy 0, 6, .inl u1_settings))] H := hP
                have hD : va_D A [(t 0, .inr (4, [.ref (t 1), .ref (t 2), .ref (t 3), .int ((t_set ||| (1 <<< (x5 &&& 31)))), .int ((t_number + 1)), .int ((t_prices + r9)), .int t_allergens, .int t_column])), (t 1, .inl (cy 0, 4, .inl ((upd t_dishes r5.toNatClampNeg (((t_dishes r5.toNatClampNeg) + 1)))))), (t 2, .inl (cy 0, 4, .inl t_lines)), (t 3, .inl (cy 0, 4, .inl t_weights)), (u1 0, .inr (3, [.ref (u1 1), .ref (u1 2), .int u1_dishes, .int u1_way])), (u1 1, .inl (cy 0, 140, .inl u1_values)), (u1 2, .inl (cy 0, 6, .inl u1_settings))] := hD
                refine lv_aload_n hx hb dX4_find_117 rfl (lv_at hl 2 rfl) ?_
                refine lv_dup hx hb dX4_find_118 rfl ?_
                refine va_get (D := D) (ci := 4) (v := .int t_allergens) (C := RX4) (T := TX4) (N := 8) hx hb hts i_X4_find_X4 hown hK hP 0 rfl rfl 6 (by decide) (hts (.fieldLink RX4 56 "FoldedMenu$Printing" "allergens" "I") (by decide +kernel)) (fun _ h9 => h9) rfl dX4_find_119 ?_
                refine lv_aload_n hx hb dX4_find_122 rfl (lv_at hl 3 rfl) ?_
                refine lv_iload hx hb dX4_find_123 (lv_at hl 7 rfl) ?_
                refine lv_iconst (v := 4) hx hb dX4_find_125 (by decide) ?_
                have hPc := hP.sub (ws' := [(u1 0, .inr (3, [.ref (u1 1), .ref (u1 2), .int u1_dishes, .int u1_way])), (u1 1, .inl (cy 0, 140, .inl u1_values))]) [4, 5] rfl
                refine w_callR (va_runV (As := [.int x5, .int 4]) (rest := [.int t_allergens, .ref (t 0)]) ⟨hx, hb, hml, hown, hts⟩ (c_X3_valueOf l D cy H u1 u1_values u1_dishes u1_way x5 4 _ h) (cwV 2 hts gX4_find_X3_valueOf rfl rfl rfl (by decide +kernel) ⟨Nat.le_of_ble_eq_true rfl, Nat.le_of_ble_eq_true rfl⟩) (w_preVN hK hPc (ci := 3) rfl rfl) rfl rfl hl.1 rfl (lv_room (Nat.le_of_ble_eq_true rfl)) dX4_find_126 ⟨Nat.zero_le _, Nat.zero_le _⟩) hS (fun r10 locs h hS => ?_)
                try dsimp only at h
                refine lv_ior hx hb dX4_find_129 ?_
                refine va_put (D := D) (ci := 4) (v := .int (t_allergens ||| r10)) (ty := .int) (C := RX4) (T := TX4) (N := 8) hx hb hts i_X4_find_X4 tyX4 tyX4_ok nmX4 hown hK hP hD hS 0 rfl rfl 6 (by decide) (hts (.fieldLink RX4 56 "FoldedMenu$Printing" "allergens" "I") (by decide +kernel)) (fun _ h9 => h9) rfl (by decide +kernel) rfl rfl (Nat.le_of_ble_eq_true rfl) dX4_find_130 (fun H locs hP hD hS => ?_)
                have hP : va_P D vwCl [(t 0, .inr (4, [.ref (t 1), .ref (t 2), .ref (t 3), .int ((t_set ||| (1 <<< (x5 &&& 31)))), .int ((t_number + 1)), .int ((t_prices + r9)), .int ((t_allergens ||| r10)), .int t_column])), (t 1, .inl (cy 0, 4, .inl ((upd t_dishes r5.toNatClampNeg (((t_dishes r5.toNatClampNeg) + 1)))))), (t 2, .inl (cy 0, 4, .inl t_lines)), (t 3, .inl (cy 0, 4, .inl t_weights)), (u1 0, .inr (3, [.ref (u1 1), .ref (u1 2), .int u1_dishes, .int u1_way])), (u1 1, .inl (cy 0, 140, .inl u1_values)), (u1 2, .inl (cy 0, 6, .inl u1_settings))] H := hP
                have hD : va_D A [(t 0, .inr (4, [.ref (t 1), .ref (t 2), .ref (t 3), .int ((t_set ||| (1 <<< (x5 &&& 31)))), .int ((t_number + 1)), .int ((t_prices + r9)), .int ((t_allergens ||| r10)), .int t_column])), (t 1, .inl (cy 0, 4, .inl ((upd t_dishes r5.toNatClampNeg (((t_dishes r5.toNatClampNeg) + 1)))))), (t 2, .inl (cy 0, 4, .inl t_lines)), (t 3, .inl (cy 0, 4, .inl t_weights)), (u1 0, .inr (3, [.ref (u1 1), .ref (u1 2), .int u1_dishes, .int u1_way])), (u1 1, .inl (cy 0, 140, .inl u1_values)), (u1 2, .inl (cy 0, 6, .inl u1_settings))] := hD
                refine lv_iload hx hb dX4_find_133 (lv_at hl 6 rfl) ?_
                refine lv_iload hx hb dX4_find_135 (lv_at hl 0 rfl) ?_
                refine va_mmax hx hb (hml.trans hl.1.symm) hown (hts (.methodLink RX4 59 Lib.Math.max.name) (by decide +kernel)) (hts (.static Lib.Math.max.name) (by decide +kernel)) (hts (.initialized "java/lang/Math") (by decide +kernel)) (hts (.code Lib.Math.max.name Lib.Math.max.code 2 (some .int)) (by decide +kernel)) (Nat.le_of_ble_eq_true rfl) (Nat.le_of_ble_eq_true rfl) (Nat.zero_le _) (Nat.zero_le _) dX4_find_137 ?_
                refine lv_istore (lv' := [(4, .int (if x4 < r9 then r9 else x4)), (7, .int r9), (6, .int r5), (0, .ref (t 0)), (1, .ref (u1 0)), (2, .int a2), (3, .int a3), (5, .int x5)]) hx hb dX4_find_140 hl (by decide) rfl (fun ls hl => ?_)
                exact j142 ((upd t_dishes r5.toNatClampNeg (((t_dishes r5.toNatClampNeg) + 1)))) ((t_set ||| (1 <<< (x5 &&& 31)))) ((t_number + 1)) ((t_prices + r9)) ((t_allergens ||| r10)) ((if x4 < r9 then r9 else x4)) x5 h _ _ hP hD hS _ (lv_sub hl [3, 4, 5, 6, 0, 7] rfl)
    exact key _ t_dishes t_set t_number t_prices t_allergens x4 x5 h0 (Nat.lt_succ_self _)
  unfold p_X4_find at h
  suffices key : ∀ (H : Heap) (locs : List Loc), va_P D vwCl [(t 0, .inr (4, [.ref (t 1), .ref (t 2), .ref (t 3), .int t_set, .int t_number, .int t_prices, .int t_allergens, .int t_column])), (t 1, .inl (cy 0, 4, .inl t_dishes)), (t 2, .inl (cy 0, 4, .inl t_lines)), (t 3, .inl (cy 0, 4, .inl t_weights)), (u1 0, .inr (3, [.ref (u1 1), .ref (u1 2), .int u1_dishes, .int u1_way])), (u1 1, .inl (cy 0, 140, .inl u1_values)), (u1 2, .inl (cy 0, 6, .inl u1_settings))] H → va_D A [(t 0, .inr (4, [.ref (t 1), .ref (t 2), .ref (t 3), .int t_set, .int t_number, .int t_prices, .int t_allergens, .int t_column])), (t 1, .inl (cy 0, 4, .inl t_dishes)), (t 2, .inl (cy 0, 4, .inl t_lines)), (t 3, .inl (cy 0, 4, .inl t_weights)), (u1 0, .inr (3, [.ref (u1 1), .ref (u1 2), .int u1_dishes, .int u1_way])), (u1 1, .inl (cy 0, 140, .inl u1_values)), (u1 2, .inl (cy 0, 6, .inl u1_settings))] → va_S A s.heap H locs → W p l e r_X4_find s m args below meth c H locs 0 0 (MQ below Qc args s 0 0 A) (F0 m 0 ls []) from key s.heap [] hP hD hS
  clear hP hD hS
  intro H locs hP hD hS
  refine lv_aload_n hx hb dX4_find_0 rfl (lv_at hl 0 rfl) ?_
  refine w_callV hP hD hS hA [0, 1, 2, 3] [4, 5, 6] (wc := [(t 0, .inr (4, [.ref (t 1), .ref (t 2), .ref (t 3), .int t_set, .int t_number, .int t_prices, .int t_allergens, .int t_column])), (t 1, .inl (cy 0, 4, .inl t_dishes)), (t 2, .inl (cy 0, 4, .inl t_lines)), (t 3, .inl (cy 0, 4, .inl t_weights))]) (wr := [(u1 0, .inr (3, [.ref (u1 1), .ref (u1 2), .int u1_dishes, .int u1_way])), (u1 1, .inl (cy 0, 140, .inl u1_values)), (u1 2, .inl (cy 0, 6, .inl u1_settings))]) rfl rfl (by decide) (by decide) (va_runV (As := []) (rest := []) ⟨hx, hb, hml, hown, hts⟩ (c_X4_clear l D cy H.size t t_dishes t_lines t_weights t_set t_number t_prices t_allergens t_column _ h) (cwV 0 hts gX4_find_X4_clear rfl rfl rfl (by decide +kernel) ⟨Nat.le_of_ble_eq_true rfl, Nat.le_of_ble_eq_true rfl⟩) (w_preVO hK hP hD [0, 1, 2, 3] rfl rfl (by decide) (ci := 4) rfl rfl) rfl rfl hl.1 rfl (lv_room (Nat.le_of_ble_eq_true rfl)) dX4_find_1 ⟨Nat.zero_le _, Nat.zero_le _⟩) (fun u H locs hw hP hD hS => ?_)
  obtain ⟨dishes_11, lines_12, weights_13, set_14, number_15, prices_16, allergen_17, rfl, h⟩ := hw
  try dsimp only at h
  have hP := hP.sub (ws' := [(t 0, .inr (4, [.ref (t 1), .ref (t 2), .ref (t 3), .int set_14, .int number_15, .int prices_16, .int allergen_17, .int t_column])), (t 1, .inl (cy 0, 4, .inl dishes_11)), (t 2, .inl (cy 0, 4, .inl lines_12)), (t 3, .inl (cy 0, 4, .inl weights_13)), (u1 0, .inr (3, [.ref (u1 1), .ref (u1 2), .int u1_dishes, .int u1_way])), (u1 1, .inl (cy 0, 140, .inl u1_values)), (u1 2, .inl (cy 0, 6, .inl u1_settings))]) [3, 4, 5, 6, 0, 1, 2] rfl
  have hD := hD.sub (ws' := [(t 0, .inr (4, [.ref (t 1), .ref (t 2), .ref (t 3), .int set_14, .int number_15, .int prices_16, .int allergen_17, .int t_column])), (t 1, .inl (cy 0, 4, .inl dishes_11)), (t 2, .inl (cy 0, 4, .inl lines_12)), (t 3, .inl (cy 0, 4, .inl weights_13)), (u1 0, .inr (3, [.ref (u1 1), .ref (u1 2), .int u1_dishes, .int u1_way])), (u1 1, .inl (cy 0, 140, .inl u1_values)), (u1 2, .inl (cy 0, 6, .inl u1_settings))]) [3, 4, 5, 6, 0, 1, 2] (by decide) rfl
  refine lv_iconst (v := 0) hx hb dX4_find_4 (by decide) ?_
  refine lv_istore (lv' := [(4, .int 0), (0, .ref (t 0)), (1, .ref (u1 0)), (2, .int a2), (3, .int a3)]) hx hb dX4_find_5 hl (by decide) rfl (fun ls hl => ?_)
  refine lv_iconst (v := 0) hx hb dX4_find_7 (by decide) ?_
  refine lv_istore (lv' := [(5, .int 0), (4, .int 0), (0, .ref (t 0)), (1, .ref (u1 0)), (2, .int a2), (3, .int a3)]) hx hb dX4_find_8 hl (by decide) rfl (fun ls hl => ?_)
  exact j10 dishes_11 lines_12 weights_13 set_14 number_15 prices_16 allergen_17 t_column 0 0 h _ _ hP hD hS _ (lv_sub hl [2, 3, 4, 5, 1, 0] rfl)

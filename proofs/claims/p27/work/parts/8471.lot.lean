/-- a start of lot: the script alone -/
def wPL (av : List Value) (H0 : Heap) (b L : Nat) (xs : Nat → Int32) : Array Value → State → Prop := fun v U => v = av.toArray ∧ U.heap = H0 ∧ va_X b L xs U H0 ∧ b < H0.size
theorem wPL.blind {av : List Value} {H0 : Heap} {b L : Nat} {xs : Nat → Int32} : FrameBlind (wPL av H0 b L xs) := fun _ U g mk q => ⟨q.1, q.2.1, va_X.moved (u := U) (U := U.calling g mk _) (Vm.Alike.refl U.vm) q.2.2.1, q.2.2.2⟩
theorem w_preSL {As : List Value} {b L : Nat} {xs : Nat → Int32} {s : State} {A : Nat → Prop} {H : Heap} {locs : List Loc} (hX : va_X b L xs s s.heap) (hbl : b < s.heap.size) (hbA : ¬ A b) (hS : va_S A s.heap H locs) : PreS s H (wPL As H b L xs) As :=
  ⟨wPL.blind, fun _ hU hW => ⟨rfl, hU, va_X.moved hW.alike (hX.kept (hS.2.1 b hbl hbA)), Nat.lt_of_lt_of_le hbl hS.1⟩⟩
abbrev r_L_lot : Room := { frames := 0, cells := 0, slots := 0, locals := 0 }
set_option maxHeartbeats 4000000 in
set_option maxRecDepth 100000 in
theorem c_L_lot (l : Launch) (H0 : Heap) {b L k : Nat} {xs : Nat → Int32} (hL : L ≤ 260) (hk : k < 1000) : Met l yL_lot wsL_lot r_L_lot (wPL [.ref b, .int (nI k)] H0 b L xs) (wQR (fun _ => True) H0) 0 0 wNo := by
  refine Met.ofW (cc := cL_lot) (maxL := 2) (ret := (some .int)) (by decide) rfl ?_
  intro p e s m args below meth c s₁ B hml hv
  obtain ⟨hargs, hH, hX, hbl⟩ := hv
  have hx := B.exec
  have hb := B.bytes
  have hr := B.returns
  have hts := atoms_spec (ws := wsL_lot) B.pre
  have hown : s.vm.findClass RL = some m.cls := findClass_of_methodNamed B.named
  have hlocks := B.notSynchronized
  clear B
  subst hH
  have hend : ∀ (r : Int32), ∀ T9 : State, T9.heap = s.heap → (wQR (fun _ => True) s.heap) args s (.returned (some (.int r))) T9 := fun r T9 ht => ⟨⟨r, (), rfl, trivial, ht⟩, by rw [ht]; exact Nat.le_refl _, fun _ _ _ => by rw [ht]⟩
  generalize (wQR (fun _ => True) s.heap) = Qc at hend ⊢
  have hS : va_S wNo s.heap s.heap [] := va_S.rf
  show W p l e r_L_lot s m args below meth c s.heap [] 0 0 (MQ below Qc args s 0 0 wNo) (entryFrame m args 2)
  rw [show entryFrame m args 2 = entryFrame m ([.ref b, .int (nI k)] : List Value).toArray 2 from by rw [hargs]]
  have hl := lv_entry ([.ref b, .int (nI k)]) (n := 2) (Nat.le_of_ble_eq_true rfl)
  rw [lg_entry_eq]
  generalize (lg_sl ([.ref b, .int (nI k)]) ++ List.replicate (2 - (lg_sl ([.ref b, .int (nI k)])).length) Slot.unset).toArray = ls at hl ⊢
  have hl : lv_has ls 2 [(0, .ref b), (1, .int (nI k))] := hl
  clear hargs
  refine lv_iload_n hx hb dL_lot_0 rfl (lv_at hl 1 rfl) ?_
  refine lv_aload_n hx hb dL_lot_1 rfl (lv_at hl 0 rfl) ?_
  refine va_slen hx hb hX hbl (fun z => z) hS dL_lot_2 ?_
  refine lv_icmp_ge (tgt := 12) hx hb dL_lot_3 rfl (fun _ => ?_) (fun hc => ?_)
  · refine lv_ldc (v := -1948399183) hx hb hown (hts (.constant RL 7 (-1948399183)) (List.mem_cons_of_mem _ List.mem_cons_self)) dL_lot_12 ?_
    refine lv_iload_n hx hb dL_lot_14 rfl (lv_at hl 1 rfl) ?_
    refine lv_sipush (v := 2273) hx hb dL_lot_15 (by decide) ?_
    refine lv_iadd hx hb dL_lot_18 ?_
    refine lv_imul hx hb dL_lot_19 ?_
    refine lv_sipush (v := 2069) hx hb dL_lot_20 (by decide) ?_
    refine lv_iadd hx hb dL_lot_23 ?_
    exact W.iret hx hb hr (fun t ht _ => hend _ t ht) hS.2.2 dL_lot_24
  · have hc : ¬ nI L ≤ nI k := hc
    rw [nI_leI (by omega) (by omega)] at hc
    refine lv_aload_n hx hb dL_lot_6 rfl (lv_at hl 0 rfl) ?_
    refine lv_iload_n hx hb dL_lot_7 rfl (lv_at hl 1 rfl) ?_
    refine va_sld hx hb hX hbl (fun z => z) hS (vp_in_nI (by omega) (by omega)) dL_lot_8 ?_
    refine lv_goto (tgt := 24) hx hb dL_lot_9 rfl ?_
    exact W.iret hx hb hr (fun t ht _ => hend _ t ht) hS.2.2 dL_lot_24

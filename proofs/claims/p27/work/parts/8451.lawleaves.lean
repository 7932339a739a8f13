section WK0
variable {p : Program} {l : Launch} {e : Env} {R : Room} {s : State} {m : MethodId} {args : Array Value} {below : List Frame} {meth : Method} {c : Code} {H : Heap} {locs : List Loc} {cells slots : Nat} {Q : State → Prop}
variable {pc : Nat} {ls : Array Slot} {rest st0 : List Value} {a : Array Value} {A0 : Nat → Prop} {H0 : Heap} {D : va_G} {pl wc : va_W}
theorem w_callK0 {post : Int32 → va_W → Prop} (hP : va_P D vwCl (pl ++ wc) H) (hD : va_D A0 (pl ++ wc)) (hS : va_S A0 H0 H locs) (hA : ∀ q, H0.size ≤ q → A0 q)
    (hr : va_Run p l e R s m args below meth c H locs cells slots 0 0 (F0 m pc ls st0) rest (va_Qi post (fun u T9 => va_P D vwCl u T9.heap ∧ va_D (va_A wc H.size) u) (va_A wc H.size) a) (va_A wc H.size))
    (kk : ∀ (r : Int32) (u : va_W) (H1 : Heap) (locs1 : List Loc), post r u → va_P D vwCl (pl ++ u) H1 → va_D A0 (pl ++ u) → va_S A0 H0 H1 locs1 → W p l e R s m args below meth c H1 locs1 cells slots Q (F0 m (pc + 3) ls (.int r :: rest))) : W p l e R s m args below meth c H locs cells slots Q (F0 m pc ls st0) := w_callK hP hD hS hA hr kk
end WK0
abbrev r_L_low : Room := { frames := 0, cells := 0, slots := 0, locals := 0 }
set_option maxHeartbeats 4000000 in
set_option maxRecDepth 100000 in
theorem c_L_low (l : Launch) (D : va_G) (cy : Nat → ClassId) (H0 : Heap)  (a0 : Int32) (a1 : Int32) (Q : Int32 → Prop) (hq : p_L_low a0 a1 Q) : Met l yL_low wsL_low r_L_low (wPN [.int a0, .int a1] H0 D cy []) (wQR Q H0) 0 0 wNo := by
  refine Met.ofW (cc := cL_low) (maxL := 2) (ret := (some .int)) (by decide) rfl ?_
  intro p e s m args below meth c s₁ B hml hv
  obtain ⟨hargs, hH, hP, hK⟩ := hv
  have hx := B.exec
  have hb := B.bytes
  have hr := B.returns
  have hts := atoms_spec (ws := wsL_low) B.pre
  have hown : s.vm.findClass RL = some m.cls := findClass_of_methodNamed B.named
  have hlocks := B.notSynchronized
  clear B
  subst hH
  have hend : ∀ (r : Int32), Q r → ∀ T9 : State, T9.heap = s.heap → (wQR Q s.heap) args s (.returned (some (.int r))) T9 := fun r hq T9 ht => ⟨⟨r, (), rfl, hq, ht⟩, by rw [ht]; exact Nat.le_refl _, fun _ _ _ => by rw [ht]⟩
  generalize (wQR Q s.heap) = Qc at hend ⊢
  have hS : va_S wNo s.heap s.heap [] := va_S.rf
  show W p l e r_L_low s m args below meth c s.heap [] 0 0 (MQ below Qc args s 0 0 wNo) (entryFrame m args 2)
  rw [show entryFrame m args 2 = entryFrame m ([.int a0, .int a1] : List Value).toArray 2 from by rw [hargs]]
  have hl := lv_entry ([.int a0, .int a1]) (n := 2) (Nat.le_of_ble_eq_true rfl)
  rw [lg_entry_eq]
  generalize (lg_sl ([.int a0, .int a1]) ++ List.replicate (2 - (lg_sl ([.int a0, .int a1])).length) Slot.unset).toArray = ls at hl ⊢
  have hl : lv_has ls 2 [(0, .int a0), (1, .int a1)] := hl
  have h := hq
  clear hargs hq
  unfold p_L_low at h
  refine lv_iload_n hx hb dL_low_0 rfl (lv_at hl 0 rfl) ?_
  refine lv_ldc (v := 2147483647) hx hb hown (hts (.constant RL 8 (2147483647)) (by decide +kernel)) dL_low_1 ?_
  refine lv_iand hx hb dL_low_3 ?_
  refine lv_iload_n hx hb dL_low_4 rfl (lv_at hl 1 rfl) ?_
  obtain ⟨hz, h⟩ := h
  refine lv_irem hx hb dL_low_5 hz ?_
  exact W.iret hx hb hr (fun t ht _ => hend (((a0 &&& 2147483647) - (a0 &&& 2147483647) / a1 * a1)) h t ht) hS.2.2 dL_low_6
abbrev r_L_size : Room := { frames := 0, cells := 0, slots := 0, locals := 0 }
set_option maxHeartbeats 4000000 in
set_option maxRecDepth 100000 in
theorem c_L_size (l : Launch) (D : va_G) (cy : Nat → ClassId) (H0 : Heap)  (a0 : Int32) (Q : Int32 → Prop) (hq : p_L_size a0 Q) : Met l yL_size wsL_size r_L_size (wPN [.int a0] H0 D cy []) (wQR Q H0) 0 0 wNo := by
  refine Met.ofW (cc := cL_size) (maxL := 3) (ret := (some .int)) (by decide) rfl ?_
  intro p e s m args below meth c s₁ B hml hv
  obtain ⟨hargs, hH, hP, hK⟩ := hv
  have hx := B.exec
  have hb := B.bytes
  have hr := B.returns
  have hts := atoms_spec (ws := wsL_size) B.pre
  have hown : s.vm.findClass RL = some m.cls := findClass_of_methodNamed B.named
  have hlocks := B.notSynchronized
  clear B
  subst hH
  have hend : ∀ (r : Int32), Q r → ∀ T9 : State, T9.heap = s.heap → (wQR Q s.heap) args s (.returned (some (.int r))) T9 := fun r hq T9 ht => ⟨⟨r, (), rfl, hq, ht⟩, by rw [ht]; exact Nat.le_refl _, fun _ _ _ => by rw [ht]⟩
  generalize (wQR Q s.heap) = Qc at hend ⊢
  have hS : va_S wNo s.heap s.heap [] := va_S.rf
  show W p l e r_L_size s m args below meth c s.heap [] 0 0 (MQ below Qc args s 0 0 wNo) (entryFrame m args 3)
  rw [show entryFrame m args 3 = entryFrame m ([.int a0] : List Value).toArray 3 from by rw [hargs]]
  have hl := lv_entry ([.int a0]) (n := 3) (Nat.le_of_ble_eq_true rfl)
  rw [lg_entry_eq]
  generalize (lg_sl ([.int a0]) ++ List.replicate (3 - (lg_sl ([.int a0])).length) Slot.unset).toArray = ls at hl ⊢
  have hl : lv_has ls 3 [(0, .int a0)] := hl
  have h := hq
  clear hargs hq
  have j4 : ∀ (x1 : Int32) (x2 : Int32), p_L_size_4 a0 Q x1 x2 → ∀ (locs : List Loc), va_S wNo s.heap s.heap locs → ∀ (ls : Array Slot), lv_has ls 3 [(0, .int a0), (1, .int x1), (2, .int x2)] → W p l e r_L_size s m args below meth c s.heap locs 0 0 (MQ below Qc args s 0 0 wNo) (F0 m 4 ls []) := by
    intro x1 x2 h
    obtain ⟨I4, μ4, h0, hs4⟩ := h
    have key : ∀ (n : Nat) (x1 : Int32) (x2 : Int32), I4 x1 x2 → μ4 x1 x2 < n → ∀ (locs : List Loc), va_S wNo s.heap s.heap locs → ∀ (ls : Array Slot), lv_has ls 3 [(0, .int a0), (1, .int x1), (2, .int x2)] → W p l e r_L_size s m args below meth c s.heap locs 0 0 (MQ below Qc args s 0 0 wNo) (F0 m 4 ls []) := by
      intro n
      induction n with
      | zero => intro x1 x2 _ h; exact absurd h (Nat.not_lt_zero _)
      | succ n ih4 =>
        intro x1 x2 hI hn locs hS ls hl
        have h := hs4 x1 x2 hI
        have hk4 : ∀ (x11 : Int32) (x21 : Int32), (fun (x1' : Int32) (x2' : Int32) => I4 x1' x2' ∧ μ4 x1' x2' < μ4 x1 x2) x11 x21 → ∀ (locs : List Loc), va_S wNo s.heap s.heap locs → ∀ (ls : Array Slot), lv_has ls 3 [(0, .int a0), (1, .int x11), (2, .int x21)] → W p l e r_L_size s m args below meth c s.heap locs 0 0 (MQ below Qc args s 0 0 wNo) (F0 m 4 ls []) := by
          intro x11 x21 hz
          exact ih4 x11 x21 hz.1 (Nat.lt_of_lt_of_le hz.2 (Nat.le_of_lt_succ hn))
        generalize hKe : (fun (x1' : Int32) (x2' : Int32) => I4 x1' x2' ∧ μ4 x1' x2' < μ4 x1 x2) = K4 at h hk4
        clear hKe ih4 hn hI
        unfold q_L_size_4 at h
        refine lv_iload_n hx hb dL_size_4 rfl (lv_at hl 2 rfl) ?_
        refine lv_bipush (v := 20) hx hb dL_size_5 (by decide) ?_
        refine lv_icmp_ge (tgt := 24) hx hb dL_size_7 rfl (fun hc => ?_) (fun hc => ?_)
        · replace h := h.1 hc
          refine lv_iload_n hx hb dL_size_24 rfl (lv_at hl 1 rfl) ?_
          exact W.iret hx hb hr (fun t ht _ => hend x1 h t ht) hS.2.2 dL_size_25
        · replace h := h.2 hc
          refine lv_iload_n hx hb dL_size_10 rfl (lv_at hl 1 rfl) ?_
          refine lv_iload_n hx hb dL_size_11 rfl (lv_at hl 0 rfl) ?_
          refine lv_iload_n hx hb dL_size_12 rfl (lv_at hl 2 rfl) ?_
          refine lv_ishr hx hb dL_size_13 ?_
          refine lv_iconst (v := 1) hx hb dL_size_14 (by decide) ?_
          refine lv_iand hx hb dL_size_15 ?_
          refine lv_iadd hx hb dL_size_16 ?_
          refine lv_istore_n (lv' := [(1, .int (x1 + ((a0 >>> (x2 &&& 31)) &&& 1))), (0, .int a0), (2, .int x2)]) hx hb dL_size_17 rfl hl (by decide) rfl (fun ls hl => ?_)
          refine lv_iinc (k := 2) (v := (x2 + 1)) (lv' := [(2, .int (x2 + 1)), (1, .int (x1 + ((a0 >>> (x2 &&& 31)) &&& 1))), (0, .int a0)]) hx hb dL_size_18 hl rfl rfl (by decide) rfl (fun ls hl => ?_)
          refine lv_goto (tgt := 4) hx hb dL_size_21 rfl ?_
          exact hk4 ((x1 + ((a0 >>> (x2 &&& 31)) &&& 1))) ((x2 + 1)) h _ hS _ (lv_sub hl [2, 1, 0] rfl)
    exact key _ x1 x2 h0 (Nat.lt_succ_self _)
  unfold p_L_size at h
  refine lv_iconst (v := 0) hx hb dL_size_0 (by decide) ?_
  refine lv_istore_n (lv' := [(1, .int 0), (0, .int a0)]) hx hb dL_size_1 rfl hl (by decide) rfl (fun ls hl => ?_)
  refine lv_iconst (v := 0) hx hb dL_size_2 (by decide) ?_
  refine lv_istore_n (lv' := [(2, .int 0), (1, .int 0), (0, .int a0)]) hx hb dL_size_3 rfl hl (by decide) rfl (fun ls hl => ?_)
  exact j4 0 0 h _ hS _ (lv_sub hl [2, 1, 0] rfl)

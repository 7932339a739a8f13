set_option maxHeartbeats 40000000 in
set_option maxRecDepth 100000 in
theorem whole_start {p : Program} {e : Env} {s : State} {m : MethodId} {below : List Frame} {meth : Method} {c : Code} (l : Launch) (hflags : l.flags = flags0) {b L : Nat} {xs : Nat → Int32} (hL : L ≤ 260) (C0 : lw_At p s m meth c b L xs) : W p l e room_1 s m #[Value.ref b] below meth c s.heap [] 0 0 (lw_Z below #[Value.ref b] s) (entryFrame m ([Value.ref b] : List Value).toArray 5) := by
  generalize m = m0 at C0 ⊢
  obtain ⟨hx, hb, hr, hml, hown0, hts0, hX, hbl, hlocks, hgv⟩ := id C0
  have hown : s.vm.findClass RL = some m0.cls := hown0
  have hts : ∀ w ∈ wsL_law, w.before #[Value.ref b] s = true := fun w h => hts0 w (wsL_law_in w h)
  have hA : ∀ q : Nat, s.heap.size ≤ q → (fun q : Nat => s.heap.size ≤ q) q := fun _ h => h
  have hbA : ¬ (fun q : Nat => s.heap.size ≤ q) b := Nat.not_le.mpr hbl
  have hE := w_env0 hts0 hgv
  have hO : wAO s := ⟨va_AO.of (hts0 (.arrayOver (.object "FoldedMenu$Menu")) (by decide +kernel)), va_AO.of (hts0 (.arrayOver (.object "FoldedMenu$State")) (by decide +kernel)), hts0 (.arrayOver (.array .int)) (by decide +kernel), hts0 (.arrayOver (.array .long)) (by decide +kernel)⟩
  obtain ⟨y0, hy0⟩ := w_rcP (hts0 (.arrayClass .int) (by decide +kernel)) (fun C q => by cases q)
  obtain ⟨y1, hy1⟩ := w_rcP (hts0 (.arrayClass .long) (by decide +kernel)) (fun C q => by cases q)
  obtain ⟨y2, hy2⟩ := w_rcO hO.1
  obtain ⟨y3, hy3⟩ := w_rcO hO.2.1
  obtain ⟨y4, hy4⟩ := w_rcA hO.2.2.1
  obtain ⟨y5, hy5⟩ := w_rcA hO.2.2.2
  obtain ⟨c0, i0, hn0⟩ := u_known (C := RX0) (T := TX0) (N := 7) (n := 7) hts0 inX0 (hts0 (.instantiable RX0 7) (by decide +kernel))
  obtain ⟨c1, i1, hn1⟩ := u_known (C := RX1) (T := TX1) (N := 5) (n := 5) hts0 inX1 (hts0 (.instantiable RX1 5) (by decide +kernel))
  obtain ⟨c2, i2, hn2⟩ := u_known (C := RX2) (T := TX2) (N := 2) (n := 2) hts0 inX2 (hts0 (.instantiable RX2 2) (by decide +kernel))
  obtain ⟨c3, i3, hn3⟩ := u_known (C := RX3) (T := TX3) (N := 4) (n := 4) hts0 inX3 (hts0 (.instantiable RX3 4) (by decide +kernel))
  obtain ⟨c4, i4, hn4⟩ := u_known (C := RX4) (T := TX4) (N := 8) (n := 8) hts0 inX4 (hts0 (.instantiable RX4 8) (by decide +kernel))
  obtain ⟨c5, i5, hn5⟩ := u_known (C := RX5) (T := TX5) (N := 5) (n := 5) hts0 inX5 (hts0 (.instantiable RX5 5) (by decide +kernel))
  obtain ⟨c6, i6, hn6⟩ := u_known (C := RX6) (T := TX6) (N := 5) (n := 5) hts0 inX6 (hts0 (.instantiable RX6 5) (by decide +kernel))
  obtain ⟨c7, i7, hn7⟩ := u_known (C := RX7) (T := TX7) (N := 3) (n := 3) hts0 inX7 (hts0 (.instantiable RX7 3) (by decide +kernel))
  obtain ⟨c8, i8, hn8⟩ := u_known (C := RX8) (T := TX8) (N := 9) (n := 9) hts0 inX8 (hts0 (.instantiable RX8 9) (by decide +kernel))
  obtain ⟨D, hKc⟩ : ∃ D : va_G, ∀ (k : Nat) (q : vw_C), vwCl[k]? = some q → u_Kn s q.1 q.2.1 q.2.2 (D.1 k) (D.2 k) := by
    refine ⟨(fun k => if k = 0 then c0 else if k = 1 then c1 else if k = 2 then c2 else if k = 3 then c3 else if k = 4 then c4 else if k = 5 then c5 else if k = 6 then c6 else if k = 7 then c7 else c8, fun k => if k = 0 then i0 else if k = 1 then i1 else if k = 2 then i2 else if k = 3 then i3 else if k = 4 then i4 else if k = 5 then i5 else if k = 6 then i6 else if k = 7 then i7 else i8), ?_⟩
    intro k q hq
    match k, hq with
    | 0, hq => cases hq; exact hn0
    | 1, hq => cases hq; exact hn1
    | 2, hq => cases hq; exact hn2
    | 3, hq => cases hq; exact hn3
    | 4, hq => cases hq; exact hn4
    | 5, hq => cases hq; exact hn5
    | 6, hq => cases hq; exact hn6
    | 7, hq => cases hq; exact hn7
    | 8, hq => cases hq; exact hn8
    | k + 9, hq => simp [vwCl] at hq
  obtain ⟨cy, e0, e1, e2, e3, e4, e5⟩ : ∃ cy : Nat → ClassId, cy 0 = y0 ∧ cy 1 = y1 ∧ cy 2 = y2 ∧ cy 3 = y3 ∧ cy 4 = y4 ∧ cy 5 = y5 := ⟨fun k => if k = 0 then y0 else if k = 1 then y1 else if k = 2 then y2 else if k = 3 then y3 else if k = 4 then y4 else y5, rfl, rfl, rfl, rfl, rfl, rfl⟩
  subst e0 e1 e2 e3 e4 e5
  have hK : va_K D vwCl (wTy cy) s := by
    refine ⟨hKc, fun k q h => ?_⟩
    match k, h with
    | 0, h => cases h; exact hy0
    | 1, h => cases h; exact hy1
    | 2, h => cases h; exact hy2
    | 3, h => cases h; exact hy3
    | 4, h => cases h; exact hy4
    | 5, h => cases h; exact hy5
    | k + 6, h => simp at h
  have hS : va_S (fun q : Nat => s.heap.size ≤ q) s.heap s.heap [] := va_S.rf
  have hP : va_P D vwCl [] s.heap := fun k q h => by simp at h
  have hD : va_D (fun q : Nat => s.heap.size ≤ q) [] := ⟨fun i j p q h => by simp at h, fun k q h => by simp at h⟩
  have hl := lv_entry ([.ref b]) (n := 5) (Nat.le_of_ble_eq_true rfl)
  rw [lg_entry_eq]
  generalize (lg_sl ([.ref b]) ++ List.replicate (5 - (lg_sl ([.ref b])).length) Slot.unset).toArray = ls at hl ⊢
  have hl : lv_has ls 5 [(0, .ref b)] := hl
  refine va_new (ci := 8) (fs := [.null, .null, .null, .null, .null, .null, .null, .null, .null]) (C := RX8) (T := TX8) (N := 9) hx hb hts inlX8 tyX8 tyX8_ok hown (hts (.classLink RL 10 RX8) (by decide +kernel)) (hts (.instantiable RX8 9) (by decide +kernel)) (hts (.initialized RX8) (by decide +kernel)) hK hP hD hS hA rfl (fun j hj => by rcases (show j = 0 ∨ j = 1 ∨ j = 2 ∨ j = 3 ∨ j = 4 ∨ j = 5 ∨ j = 6 ∨ j = 7 ∨ j = 8 by omega) with rfl | rfl | rfl | rfl | rfl | rfl | rfl | rfl | rfl <;> rfl) (Nat.le_of_ble_eq_true rfl) (Nat.le_of_ble_eq_true rfl) dL_law_0 (fun q0 H hP hD hS => ?_)
  have hP : va_P D vwCl [(q0, .inr (8, [.null, .null, .null, .null, .null, .null, .null, .null, .null]))] H := hP
  have hD : va_D (fun q : Nat => s.heap.size ≤ q) [(q0, .inr (8, [.null, .null, .null, .null, .null, .null, .null, .null, .null]))] := hD
  refine W.widen (k := 1) (n := 9) (by omega) (by omega) ?_
  refine lv_dup hx hb dL_law_3 rfl ?_
  refine w_callC hP hD hS hA [0] [] (wc := [(q0, .inr (8, [.null, .null, .null, .null, .null, .null, .null, .null, .null]))]) (wr := []) rfl rfl (by decide) (by decide) (va_runI (As := []) (rest := [.ref q0]) ⟨hx, hb, hml, hown, hts⟩ (c_X8_init l D cy q0 H.size) (cwI 0 hts gL_law_X8_init rfl rfl rfl (hts (.initialized RX8) (by decide +kernel)) (hts (.methodLink RL 95 yX8_init) (by decide +kernel)) (hts (.instanceMethod yX8_init) (by decide +kernel)) rfl (by decide +kernel) ⟨Nat.le_of_ble_eq_true rfl, Nat.le_of_ble_eq_true rfl⟩) (w_preIC hO hE hS hA hK hP hD [0] rfl rfl (by decide)) rfl rfl hl.1 rfl (lv_room (Nat.le_of_ble_eq_true rfl)) dL_law_4 ⟨Nat.le_of_ble_eq_true rfl, Nat.le_of_ble_eq_true rfl⟩) (fun u H locs hw nP nD nS => ?_)
  clear hP hD hS
  obtain ⟨x, sa, ht0, rfl⟩ := hw
  subst ht0
  have hG := o0_g sa
  obtain ⟨K, hKe⟩ : ∃ K : sK, K = (sS0, (fun _ => sS0), sa, 0, (fun _ => 0), wSet0, 0, 12, (fun _ => 0), (fun _ => 0), 0, 0, 0, (fun _ => 0), (fun _ => 0), (fun _ => 0), 0, 0, 0, 0, 0, (fun _ _ => 0), (fun _ => 0), (fun _ => 0), 0, 0, (fun _ _ => 0), (fun _ => 0), (fun _ => 0), 0, 0, (fun _ => 0), (fun _ => 0), (fun _ => 0), (fun _ => 0), 0, 0, 0, (fun _ _ => 0), (fun _ => 0), 0, 0, 0) := ⟨_, rfl⟩
  rw [← hKe] at hG
  have hP : va_P D vwCl ([] ++ wK cy x K) H := by
    rw [hKe]
    exact nP
  have hD : va_D (fun q : Nat => s.heap.size ≤ q) ([] ++ wK cy x K) := by
    rw [hKe]
    exact nD
  have hS := nS
  clear nP nD nS hKe
  refine W.widen (k := 109) (n := 4762) (by omega) (by omega) ?_
  refine lv_astore_n (lv' := [(1, .ref (x 0)), (0, .ref b)]) hx hb dL_law_7 rfl hl (by decide) rfl (fun ls hl => ?_)
  refine lv_aload_n hx hb dL_law_8 rfl (lv_at hl 0 rfl) ?_
  refine w_callK (pl := []) hP hD hS hA (va_runS (As := [.ref (x 0)]) (rest := []) ⟨hx, hb, hml, hown, hts⟩ (c_L_sound l D cy H.size x K o0 hG (fun r => r = 1) (l_sound hG.ok rfl)) (va_cwS 1 hts gL_law_L_sound rfl rfl rfl (by decide +kernel) ⟨Nat.le_of_ble_eq_true rfl, Nat.le_of_ble_eq_true rfl⟩) (w_preSK (pl := []) hE hS hA hK hP hD) rfl rfl hl.1 rfl (lv_room (Nat.le_of_ble_eq_true rfl)) dL_law_9 ⟨(by show _ ≤ 600000; omega), (by show _ ≤ 7302250; omega)⟩) (fun r1 u H locs hw hP hD hS => ?_)
  obtain ⟨_, Kc1, rfl, hG, hr_⟩ := hw
  have hr_ : r1 = 1 := hr_
  subst hr_
  have hP : va_P D vwCl ([] ++ wK cy x Kc1) H := hP
  have hD : va_D (fun q : Nat => s.heap.size ≤ q) ([] ++ wK cy x Kc1) := hD
  refine lv_if_eq (tgt := 74) hx hb dL_law_12 rfl (fun hc => absurd hc (by decide)) (fun _ => ?_)
  refine lv_aload_n hx hb dL_law_15 rfl (lv_at hl 0 rfl) ?_
  refine lv_iconst (v := 0) hx hb dL_law_16 (by decide) ?_
  refine w_callK (pl := []) hP hD hS hA (va_runS (As := [.ref (x 0), .int 0]) (rest := []) ⟨hx, hb, hml, hown, hts⟩ (c_L_side l D cy H.size x Kc1 o0 hG 0 (fun r => r = 1) (l_side hG.ok (t := 0) (by decide) rfl)) (va_cwS 2 hts gL_law_L_side rfl rfl rfl (by decide +kernel) ⟨Nat.le_of_ble_eq_true rfl, Nat.le_of_ble_eq_true rfl⟩) (w_preSK (pl := []) hE hS hA hK hP hD) rfl rfl hl.1 rfl (lv_room (Nat.le_of_ble_eq_true rfl)) dL_law_17 ⟨(by show _ ≤ 600000; omega), (by show _ ≤ 7302250; omega)⟩) (fun r2 u H locs hw hP hD hS => ?_)
  obtain ⟨_, Kc2, rfl, hG, hr_⟩ := hw
  have hr_ : r2 = 1 := hr_
  subst hr_
  have hP : va_P D vwCl ([] ++ wK cy x Kc2) H := hP
  have hD : va_D (fun q : Nat => s.heap.size ≤ q) ([] ++ wK cy x Kc2) := hD
  refine lv_if_eq (tgt := 74) hx hb dL_law_20 rfl (fun hc => absurd hc (by decide)) (fun _ => ?_)
  refine lv_aload_n hx hb dL_law_23 rfl (lv_at hl 0 rfl) ?_
  refine lv_iconst (v := 1) hx hb dL_law_24 (by decide) ?_
  refine w_callK (pl := []) hP hD hS hA (va_runS (As := [.ref (x 0), .int 1]) (rest := []) ⟨hx, hb, hml, hown, hts⟩ (c_L_side l D cy H.size x Kc2 o0 hG 1 (fun r => r = 1) (l_side hG.ok (t := 1) (by decide) rfl)) (va_cwS 2 hts gL_law_L_side rfl rfl rfl (by decide +kernel) ⟨Nat.le_of_ble_eq_true rfl, Nat.le_of_ble_eq_true rfl⟩) (w_preSK (pl := []) hE hS hA hK hP hD) rfl rfl hl.1 rfl (lv_room (Nat.le_of_ble_eq_true rfl)) dL_law_25 ⟨(by show _ ≤ 600000; omega), (by show _ ≤ 7302250; omega)⟩) (fun r3 u H locs hw hP hD hS => ?_)
  obtain ⟨_, Kc3, rfl, hG, hr_⟩ := hw
  have hr_ : r3 = 1 := hr_
  subst hr_
  have hP : va_P D vwCl ([] ++ wK cy x Kc3) H := hP
  have hD : va_D (fun q : Nat => s.heap.size ≤ q) ([] ++ wK cy x Kc3) := hD
  refine lv_if_eq (tgt := 74) hx hb dL_law_28 rfl (fun hc => absurd hc (by decide)) (fun _ => ?_)
  refine lv_aload_n hx hb dL_law_31 rfl (lv_at hl 0 rfl) ?_
  refine w_callK (pl := []) hP hD hS hA (va_runV (As := []) (rest := []) ⟨hx, hb, hml, hown, hts⟩ (m_undo l D cy H.size x Kc3 o0 hG) (cwV 0 hts gL_law_X8_undo rfl rfl rfl (by decide +kernel) ⟨Nat.le_of_ble_eq_true rfl, Nat.le_of_ble_eq_true rfl⟩) (w_preVK (pl := []) (ci := 8) hE hS hA hK hP hD rfl rfl) rfl rfl hl.1 rfl (lv_room (Nat.le_of_ble_eq_true rfl)) dL_law_32 ⟨(by show _ ≤ 600000; omega), (by show _ ≤ 7302250; omega)⟩) (fun r4 u H locs hw hP hD hS => ?_)
  obtain ⟨Kc4, oc4, rfl, hG, hr_⟩ := hw
  obtain ⟨e1, e2⟩ := hr_.1 rfl
  subst e1 e2
  have hP : va_P D vwCl ([] ++ wK cy x Kc4) H := hP
  have hD : va_D (fun q : Nat => s.heap.size ≤ q) ([] ++ wK cy x Kc4) := hD
  refine lv_bipush (v := -2) hx hb dL_law_35 (by decide) ?_
  refine lv_icmp_ne (tgt := 74) hx hb dL_law_37 rfl (fun hc => absurd (by decide) hc) (fun _ => ?_)
  refine lv_aload_n hx hb dL_law_40 rfl (lv_at hl 0 rfl) ?_
  refine lv_iconst (v := 0) hx hb dL_law_41 (by decide) ?_
  refine w_callK (pl := []) hP hD hS hA (va_runV (As := [.int 0]) (rest := []) ⟨hx, hb, hml, hown, hts⟩ (m_restore l D cy H.size x Kc4 o0 hG 0) (cwV 1 hts gL_law_X8_restore rfl rfl rfl (by decide +kernel) ⟨Nat.le_of_ble_eq_true rfl, Nat.le_of_ble_eq_true rfl⟩) (w_preVK (pl := []) (ci := 8) hE hS hA hK hP hD rfl rfl) rfl rfl hl.1 rfl (lv_room (Nat.le_of_ble_eq_true rfl)) dL_law_42 ⟨(by show _ ≤ 600000; omega), (by show _ ≤ 7302250; omega)⟩) (fun r5 u H locs hw hP hD hS => ?_)
  obtain ⟨Kc5, oc5, rfl, hG, hr_⟩ := hw
  obtain ⟨e1, e2⟩ := (hr_.1 0 (by decide) rfl).1 rfl
  subst e1 e2
  have hP : va_P D vwCl ([] ++ wK cy x Kc5) H := hP
  have hD : va_D (fun q : Nat => s.heap.size ≤ q) ([] ++ wK cy x Kc5) := hD
  refine lv_bipush (v := -2) hx hb dL_law_45 (by decide) ?_
  refine lv_icmp_ne (tgt := 74) hx hb dL_law_47 rfl (fun hc => absurd (by decide) hc) (fun _ => ?_)
  refine lv_aload_n hx hb dL_law_50 rfl (lv_at hl 0 rfl) ?_
  refine lv_iconst (v := 1) hx hb dL_law_51 (by decide) ?_
  refine w_callK (pl := []) hP hD hS hA (va_runV (As := [.int 1]) (rest := []) ⟨hx, hb, hml, hown, hts⟩ (m_restore l D cy H.size x Kc5 o0 hG 1) (cwV 1 hts gL_law_X8_restore rfl rfl rfl (by decide +kernel) ⟨Nat.le_of_ble_eq_true rfl, Nat.le_of_ble_eq_true rfl⟩) (w_preVK (pl := []) (ci := 8) hE hS hA hK hP hD rfl rfl) rfl rfl hl.1 rfl (lv_room (Nat.le_of_ble_eq_true rfl)) dL_law_52 ⟨(by show _ ≤ 600000; omega), (by show _ ≤ 7302250; omega)⟩) (fun r6 u H locs hw hP hD hS => ?_)
  obtain ⟨Kc6, oc6, rfl, hG, hr_⟩ := hw
  obtain ⟨e1, e2⟩ := (hr_.1 1 (by decide) rfl).1 rfl
  subst e1 e2
  have hP : va_P D vwCl ([] ++ wK cy x Kc6) H := hP
  have hD : va_D (fun q : Nat => s.heap.size ≤ q) ([] ++ wK cy x Kc6) := hD
  refine lv_bipush (v := -2) hx hb dL_law_55 (by decide) ?_
  refine lv_icmp_ne (tgt := 74) hx hb dL_law_57 rfl (fun hc => absurd (by decide) hc) (fun _ => ?_)
  refine lv_aload_n hx hb dL_law_60 rfl (lv_at hl 0 rfl) ?_
  refine w_callK (pl := []) hP hD hS hA (va_runV (As := []) (rest := []) ⟨hx, hb, hml, hown, hts⟩ (m_load l D cy H.size x Kc6 o0 hG) (cwV 0 hts gL_law_X8_load rfl rfl rfl (by decide +kernel) ⟨Nat.le_of_ble_eq_true rfl, Nat.le_of_ble_eq_true rfl⟩) (w_preVK (pl := []) (ci := 8) hE hS hA hK hP hD rfl rfl) rfl rfl hl.1 rfl (lv_room (Nat.le_of_ble_eq_true rfl)) dL_law_61 ⟨(by show _ ≤ 600000; omega), (by show _ ≤ 7302250; omega)⟩) (fun r7 u H locs hw hP hD hS => ?_)
  obtain ⟨Kc7, oc7, rfl, hG, hr_⟩ := hw
  obtain ⟨e1, e2⟩ := hr_
  subst e1 e2
  have hP : va_P D vwCl ([] ++ wK cy x Kc7) H := hP
  have hD : va_D (fun q : Nat => s.heap.size ≤ q) ([] ++ wK cy x Kc7) := hD
  refine lv_if_ne (tgt := 74) hx hb dL_law_64 rfl (fun hc => absurd rfl hc) (fun _ => ?_)
  refine lv_aload_n hx hb dL_law_67 rfl (lv_at hl 0 rfl) ?_
  refine w_callK (pl := []) hP hD hS hA (va_runV (As := []) (rest := []) ⟨hx, hb, hml, hown, hts⟩ (m_undo l D cy H.size x Kc7 (oAct o0 o0.1.1) hG) (cwV 0 hts gL_law_X8_undo rfl rfl rfl (by decide +kernel) ⟨Nat.le_of_ble_eq_true rfl, Nat.le_of_ble_eq_true rfl⟩) (w_preVK (pl := []) (ci := 8) hE hS hA hK hP hD rfl rfl) rfl rfl hl.1 rfl (lv_room (Nat.le_of_ble_eq_true rfl)) dL_law_68 ⟨(by show _ ≤ 600000; omega), (by show _ ≤ 7302250; omega)⟩) (fun r8 u H locs hw hP hD hS => ?_)
  obtain ⟨Kc8, oc8, rfl, hG, hr_⟩ := hw
  obtain ⟨e1, e2⟩ := hr_.2 [] o0.1 rfl
  subst e1 e2
  have hP : va_P D vwCl ([] ++ wK cy x Kc8) H := hP
  have hD : va_D (fun q : Nat => s.heap.size ≤ q) ([] ++ wK cy x Kc8) := hD
  refine lv_if_eq (tgt := 76) hx hb dL_law_71 rfl (fun _ => ?_) (fun hc => absurd rfl hc)
  refine lv_iconst (v := 0) hx hb dL_law_76 (by decide) ?_
  refine lv_istore_n (lv' := [(2, .int 0), (1, .ref (x 0)), (0, .ref b)]) hx hb dL_law_77 rfl hl (by decide) rfl (fun ls hl => ?_)
  refine W.widen (k := 200 + 20 * 0) (n := 5000 + 200 * 0) (by omega) (by omega) ?_
  exact law_loop l hL C0 hE hK x 36 0 rfl _ _ hG _ _ hP hD hS _ (lv_sub hl [2, 1, 0] rfl)

theorem w_i1 (k : Nat) : nI k + Int32.ofInt 1 = nI (k + 1) := by
  rw [show Int32.ofInt 1 = nI 1 from by decide]
  exact nI_add k 1
theorem w_2k (k : Nat) : (2 : Int32) * nI k = nI (2 * k) := by
  rw [li_2, pk_mul]
theorem w_2k1 (k : Nat) : nI (2 * k) + (1 : Int32) = nI (2 * k + 1) := nI_add (2 * k) 1
set_option maxHeartbeats 40000000 in
set_option maxRecDepth 100000 in
theorem law_loop {p : Program} {e : Env} {s : State} {m0 : MethodId} {below : List Frame} {meth : Method} {c : Code} (l : Launch) {b L : Nat} {xs : Nat → Int32} (hL : L ≤ 260) (C0 : lw_At p s m0 meth c b L xs) {D : va_G} {cy : Nat → ClassId} (hE : wEnv (fun q : Nat => s.heap.size ≤ q) s s.heap) (hK : va_K D vwCl (wTy cy) s) (x : Nat → Nat) : ∀ (n k : Nat), k + n = 36 → ∀ (K : sK) (o : aO), Good o K → ∀ (H : Heap) (locs : List Loc), va_P D vwCl ([] ++ wK cy x K) H → va_D (fun q : Nat => s.heap.size ≤ q) ([] ++ wK cy x K) → va_S (fun q : Nat => s.heap.size ≤ q) s.heap H locs → ∀ (ls : Array Slot), lv_has ls 5 [(0, .ref b), (1, .ref (x 0)), (2, .int (nI k))] → W p l e room_1 s m0 #[Value.ref b] below meth c H locs (200 + 20 * k) (5000 + 200 * k) (lw_Z below #[Value.ref b] s) (F0 m0 78 ls []) := by
  obtain ⟨hx, hb, hr, hml, hown0, hts0, hX, hbl, hlocks, hgv⟩ := id C0
  have hown : s.vm.findClass RL = some m0.cls := hown0
  have hts : ∀ w ∈ wsL_law, w.before #[Value.ref b] s = true := fun w h => hts0 w (wsL_law_in w h)
  have hA : ∀ q : Nat, s.heap.size ≤ q → (fun q : Nat => s.heap.size ≤ q) q := fun _ h => h
  have hbA : ¬ (fun q : Nat => s.heap.size ≤ q) b := Nat.not_le.mpr hbl
  intro n
  induction n with
  | zero =>
    intro k hk K o hG H locs hP hD hS ls hl
    refine lv_iload_n hx hb dL_law_78 rfl (lv_at hl 2 rfl) ?_
    refine lv_bipush (v := 36) hx hb dL_law_79 (by decide) ?_
    refine lv_icmp_ge (tgt := 169) hx hb dL_law_81 rfl (fun _ => ?_) (fun hc => ?_)
    · skip
      refine lv_aload_n hx hb dL_law_169 rfl (lv_at hl 1 rfl) ?_
      refine w_callK (pl := []) hP hD hS hA (va_runS (As := [.ref (x 0)]) (rest := []) ⟨hx, hb, hml, hown, hts⟩ (c_L_refuses l D cy H.size x K o hG (fun r _ => r = 1) (l_refuses hG.ok rfl)) (va_cwS 1 hts gL_law_L_refuses rfl rfl rfl (by decide +kernel) ⟨Nat.le_of_ble_eq_true rfl, Nat.le_of_ble_eq_true rfl⟩) (w_preSK (pl := []) hE hS hA hK hP hD) rfl rfl hl.1 rfl (lv_room (Nat.le_of_ble_eq_true rfl)) dL_law_170 ⟨(by show _ ≤ 600000; omega), (by show _ ≤ 7302250; omega)⟩) (fun r1 u H locs hw hP hD hS => ?_)
      obtain ⟨_, Kc1, oc1, rfl, hG, hr_⟩ := hw
      have hr_ : r1 = 1 := hr_
      subst hr_
      have hP : va_P D vwCl ([] ++ wK cy x Kc1) H := hP
      have hD : va_D (fun q : Nat => s.heap.size ≤ q) ([] ++ wK cy x Kc1) := hD
      refine va_forget (fun q hq => hS.2.2 q hq) ?_
      refine W.widen (k := 600000) (n := 7302250) (by omega) (by omega) ?_
      exact lw_ret hx hb hr hlocks dL_law_173
    · refine absurd ?_ hc
      rw [li_36, nI_leI (by decide) (by omega)]
      omega
  | succ n ih =>
    intro k hk
    have tail : ∀ (K : sK) (o : aO), Good o K → ∀ (H : Heap) (locs : List Loc), va_P D vwCl ([] ++ wK cy x K) H → va_D (fun q : Nat => s.heap.size ≤ q) ([] ++ wK cy x K) → va_S (fun q : Nat => s.heap.size ≤ q) s.heap H locs → ∀ (cells slots : Nat), cells ≤ 200 + 20 * (k + 1) → slots ≤ 5000 + 200 * (k + 1) → ∀ (ls : Array Slot), lv_has ls 5 [(0, .ref b), (1, .ref (x 0)), (2, .int (nI k))] → W p l e room_1 s m0 #[Value.ref b] below meth c H locs (cells) (slots) (lw_Z below #[Value.ref b] s) (F0 m0 163 ls []) := by
      intro K o hG H locs hP hD hS cells slots h1 h2 ls hl
      refine lv_iinc (k := 2) (v := nI (k + 1)) (lv' := [(2, .int (nI (k + 1))), (0, .ref b), (1, .ref (x 0))]) hx hb dL_law_163 hl rfl (w_i1 k) (by decide) rfl (fun ls hl => ?_)
      refine lv_goto (tgt := 78) hx hb dL_law_166 rfl ?_
      refine W.widen (k := 200 + 20 * (k + 1)) (n := 5000 + 200 * (k + 1)) h1 h2 ?_
      exact ih (k + 1) (by omega) K o hG _ _ hP hD hS _ (lv_sub hl [1, 2, 0] rfl)
    intro K o hG H locs hP hD hS ls hl
    refine lv_iload_n hx hb dL_law_78 rfl (lv_at hl 2 rfl) ?_
    refine lv_bipush (v := 36) hx hb dL_law_79 (by decide) ?_
    refine lv_icmp_ge (tgt := 169) hx hb dL_law_81 rfl (fun _ => ?_) (fun hc => ?_)
    · skip
      refine lv_aload_n hx hb dL_law_169 rfl (lv_at hl 1 rfl) ?_
      refine w_callK (pl := []) hP hD hS hA (va_runS (As := [.ref (x 0)]) (rest := []) ⟨hx, hb, hml, hown, hts⟩ (c_L_refuses l D cy H.size x K o hG (fun r _ => r = 1) (l_refuses hG.ok rfl)) (va_cwS 1 hts gL_law_L_refuses rfl rfl rfl (by decide +kernel) ⟨Nat.le_of_ble_eq_true rfl, Nat.le_of_ble_eq_true rfl⟩) (w_preSK (pl := []) hE hS hA hK hP hD) rfl rfl hl.1 rfl (lv_room (Nat.le_of_ble_eq_true rfl)) dL_law_170 ⟨(by show _ ≤ 600000; omega), (by show _ ≤ 7302250; omega)⟩) (fun r1 u H locs hw hP hD hS => ?_)
      obtain ⟨_, Kc1, oc1, rfl, hG, hr_⟩ := hw
      have hr_ : r1 = 1 := hr_
      subst hr_
      have hP : va_P D vwCl ([] ++ wK cy x Kc1) H := hP
      have hD : va_D (fun q : Nat => s.heap.size ≤ q) ([] ++ wK cy x Kc1) := hD
      refine va_forget (fun q hq => hS.2.2 q hq) ?_
      refine W.widen (k := 600000) (n := 7302250) (by omega) (by omega) ?_
      exact lw_ret hx hb hr hlocks dL_law_173
    · skip
      refine lv_aload_n hx hb dL_law_84 rfl (lv_at hl 0 rfl) ?_
      refine lv_iconst (v := 2) hx hb dL_law_85 (by decide) ?_
      refine lv_iload_n hx hb dL_law_86 rfl (lv_at hl 2 rfl) ?_
      refine lv_imul hx hb dL_law_87 ?_
      rw [w_2k]
      refine w_callR (va_runS (As := [.ref b, .int (nI (2 * k))]) (rest := []) ⟨hx, hb, hml, hown, hts⟩ (c_L_lot l H (k := 2 * k) hL (by omega)) (va_cwS 2 hts gL_law_L_lot rfl rfl rfl (by decide +kernel) ⟨Nat.le_of_ble_eq_true rfl, Nat.le_of_ble_eq_true rfl⟩) (w_preSL hX hbl hbA hS) rfl rfl hl.1 rfl (lv_room (Nat.le_of_ble_eq_true rfl)) dL_law_88 ⟨(by show _ ≤ 600000; omega), (by show _ ≤ 7302250; omega)⟩) hS (fun v1 locs _ hS => ?_)
      refine lv_istore_n (lv' := [(3, .int v1), (0, .ref b), (1, .ref (x 0)), (2, .int (nI k))]) hx hb dL_law_91 rfl hl (by decide) rfl (fun ls hl => ?_)
      refine lv_aload_n hx hb dL_law_92 rfl (lv_at hl 1 rfl) ?_
      refine lv_iconst (v := 2) hx hb dL_law_93 (by decide) ?_
      refine lv_iload_n hx hb dL_law_94 rfl (lv_at hl 3 rfl) ?_
      refine lv_imul hx hb dL_law_95 ?_
      refine lv_iconst (v := 1) hx hb dL_law_96 (by decide) ?_
      refine lv_iadd hx hb dL_law_97 ?_
      rw [w_2k, w_2k1]
      refine w_callR (va_runS (As := [.ref b, .int (nI (2 * k + 1))]) (rest := []) ⟨hx, hb, hml, hown, hts⟩ (c_L_lot l H (k := 2 * k + 1) hL (by omega)) (va_cwS 2 hts gL_law_L_lot rfl rfl rfl (by decide +kernel) ⟨Nat.le_of_ble_eq_true rfl, Nat.le_of_ble_eq_true rfl⟩) (w_preSL hX hbl hbA hS) rfl rfl hl.1 rfl (lv_room (Nat.le_of_ble_eq_true rfl)) dL_law_98 ⟨(by show _ ≤ 600000; omega), (by show _ ≤ 7302250; omega)⟩) hS (fun v2 locs _ hS => ?_)
      refine lv_istore (lv' := [(4, .int v2), (3, .int v1), (0, .ref b), (1, .ref (x 0)), (2, .int (nI k))]) hx hb dL_law_101 hl (by decide) rfl (fun ls hl => ?_)
      refine lv_aload_n hx hb dL_law_103 rfl (lv_at hl 3 rfl) ?_
      refine lv_iload_n hx hb dL_law_104 rfl (lv_at hl 1 rfl) ?_
      refine lv_iload hx hb dL_law_105 (lv_at hl 0 rfl) ?_
      refine w_callK (pl := []) hP hD hS hA (va_runS (As := [.ref (x 0), .int v1, .int v2]) (rest := []) ⟨hx, hb, hml, hown, hts⟩ (c_L_acts l D cy H.size x K o hG v1 v2 (fun r _ => r = 1) (l_acts hG.ok hG.2.2.1.1 (fun _ => rfl))) (va_cwS 3 hts gL_law_L_acts rfl rfl rfl (by decide +kernel) ⟨Nat.le_of_ble_eq_true rfl, Nat.le_of_ble_eq_true rfl⟩) (w_preSK (pl := []) hE hS hA hK hP hD) rfl rfl hl.1 rfl (lv_room (Nat.le_of_ble_eq_true rfl)) dL_law_107 ⟨(by show _ ≤ 600000; omega), (by show _ ≤ 7302250; omega)⟩) (fun r1 u H locs hw hP hD hS => ?_)
      obtain ⟨_, Kc1, oc1, rfl, hG, hr_⟩ := hw
      have hr_ : r1 = 1 := hr_
      subst hr_
      have hP : va_P D vwCl ([] ++ wK cy x Kc1) H := hP
      have hD : va_D (fun q : Nat => s.heap.size ≤ q) ([] ++ wK cy x Kc1) := hD
      refine lv_if_eq (tgt := 161) hx hb dL_law_110 rfl (fun hc => absurd hc (by decide)) (fun _ => ?_)
      refine lv_aload_n hx hb dL_law_113 rfl (lv_at hl 3 rfl) ?_
      refine w_callK (pl := []) hP hD hS hA (va_runS (As := [.ref (x 0)]) (rest := []) ⟨hx, hb, hml, hown, hts⟩ (c_L_sound l D cy H.size x Kc1 oc1 hG (fun r => r = 1) (l_sound hG.ok rfl)) (va_cwS 1 hts gL_law_L_sound rfl rfl rfl (by decide +kernel) ⟨Nat.le_of_ble_eq_true rfl, Nat.le_of_ble_eq_true rfl⟩) (w_preSK (pl := []) hE hS hA hK hP hD) rfl rfl hl.1 rfl (lv_room (Nat.le_of_ble_eq_true rfl)) dL_law_114 ⟨(by show _ ≤ 600000; omega), (by show _ ≤ 7302250; omega)⟩) (fun r2 u H locs hw hP hD hS => ?_)
      obtain ⟨_, Kc2, rfl, hG, hr_⟩ := hw
      have hr_ : r2 = 1 := hr_
      subst hr_
      have hP : va_P D vwCl ([] ++ wK cy x Kc2) H := hP
      have hD : va_D (fun q : Nat => s.heap.size ≤ q) ([] ++ wK cy x Kc2) := hD
      refine lv_if_eq (tgt := 161) hx hb dL_law_117 rfl (fun hc => absurd hc (by decide)) (fun _ => ?_)
      refine lv_iload_n hx hb dL_law_120 rfl (lv_at hl 4 rfl) ?_
      refine lv_bipush (v := 6) hx hb dL_law_121 (by decide) ?_
      refine lv_irem hx hb dL_law_123 (by decide) ?_
      refine lv_iconst (v := 5) hx hb dL_law_124 (by decide) ?_
      refine lv_icmp_ne (tgt := 163) hx hb dL_law_125 rfl (fun _ => ?_) (fun _ => ?_)
      · skip
        exact tail Kc2 oc1 hG _ _ hP hD hS _ _ (by omega) (by omega) _ (lv_sub hl [2, 3, 4] rfl)
      · skip
        refine lv_aload_n hx hb dL_law_128 rfl (lv_at hl 3 rfl) ?_
        refine lv_iconst (v := 0) hx hb dL_law_129 (by decide) ?_
        refine w_callK (pl := []) hP hD hS hA (va_runS (As := [.ref (x 0), .int 0]) (rest := []) ⟨hx, hb, hml, hown, hts⟩ (c_L_side l D cy H.size x Kc2 oc1 hG 0 (fun r => r = 1) (l_side hG.ok (t := 0) (by decide) rfl)) (va_cwS 2 hts gL_law_L_side rfl rfl rfl (by decide +kernel) ⟨Nat.le_of_ble_eq_true rfl, Nat.le_of_ble_eq_true rfl⟩) (w_preSK (pl := []) hE hS hA hK hP hD) rfl rfl hl.1 rfl (lv_room (Nat.le_of_ble_eq_true rfl)) dL_law_130 ⟨(by show _ ≤ 600000; omega), (by show _ ≤ 7302250; omega)⟩) (fun r3 u H locs hw hP hD hS => ?_)
        obtain ⟨_, Kc3, rfl, hG, hr_⟩ := hw
        have hr_ : r3 = 1 := hr_
        subst hr_
        have hP : va_P D vwCl ([] ++ wK cy x Kc3) H := hP
        have hD : va_D (fun q : Nat => s.heap.size ≤ q) ([] ++ wK cy x Kc3) := hD
        refine lv_if_eq (tgt := 161) hx hb dL_law_133 rfl (fun hc => absurd hc (by decide)) (fun _ => ?_)
        refine lv_aload_n hx hb dL_law_136 rfl (lv_at hl 3 rfl) ?_
        refine lv_iconst (v := 1) hx hb dL_law_137 (by decide) ?_
        refine w_callK (pl := []) hP hD hS hA (va_runS (As := [.ref (x 0), .int 1]) (rest := []) ⟨hx, hb, hml, hown, hts⟩ (c_L_side l D cy H.size x Kc3 oc1 hG 1 (fun r => r = 1) (l_side hG.ok (t := 1) (by decide) rfl)) (va_cwS 2 hts gL_law_L_side rfl rfl rfl (by decide +kernel) ⟨Nat.le_of_ble_eq_true rfl, Nat.le_of_ble_eq_true rfl⟩) (w_preSK (pl := []) hE hS hA hK hP hD) rfl rfl hl.1 rfl (lv_room (Nat.le_of_ble_eq_true rfl)) dL_law_138 ⟨(by show _ ≤ 600000; omega), (by show _ ≤ 7302250; omega)⟩) (fun r4 u H locs hw hP hD hS => ?_)
        obtain ⟨_, Kc4, rfl, hG, hr_⟩ := hw
        have hr_ : r4 = 1 := hr_
        subst hr_
        have hP : va_P D vwCl ([] ++ wK cy x Kc4) H := hP
        have hD : va_D (fun q : Nat => s.heap.size ≤ q) ([] ++ wK cy x Kc4) := hD
        refine lv_if_eq (tgt := 161) hx hb dL_law_141 rfl (fun hc => absurd hc (by decide)) (fun _ => ?_)
        refine lv_aload_n hx hb dL_law_144 rfl (lv_at hl 3 rfl) ?_
        refine lv_iload_n hx hb dL_law_145 rfl (lv_at hl 1 rfl) ?_
        refine lv_iconst (v := 4) hx hb dL_law_146 (by decide) ?_
        refine lv_ishr hx hb dL_law_147 ?_
        refine w_callK (pl := []) hP hD hS hA (va_runS (As := [.ref (x 0), .int (v1 >>> (4 &&& 31))]) (rest := []) ⟨hx, hb, hml, hown, hts⟩ (c_L_chooses l D cy H.size x Kc4 oc1 hG (v1 >>> (4 &&& 31)) (fun r _ => r = 1) (l_chooses hG.ok hG.2.2.1.1 (fun _ => rfl))) (va_cwS 2 hts gL_law_L_chooses rfl rfl rfl (by decide +kernel) ⟨Nat.le_of_ble_eq_true rfl, Nat.le_of_ble_eq_true rfl⟩) (w_preSK (pl := []) hE hS hA hK hP hD) rfl rfl hl.1 rfl (lv_room (Nat.le_of_ble_eq_true rfl)) dL_law_148 ⟨(by show _ ≤ 600000; omega), (by show _ ≤ 7302250; omega)⟩) (fun r5 u H locs hw hP hD hS => ?_)
        obtain ⟨_, Kc5, oc5, rfl, hG, hr_⟩ := hw
        have hr_ : r5 = 1 := hr_
        subst hr_
        have hP : va_P D vwCl ([] ++ wK cy x Kc5) H := hP
        have hD : va_D (fun q : Nat => s.heap.size ≤ q) ([] ++ wK cy x Kc5) := hD
        refine lv_if_eq (tgt := 161) hx hb dL_law_151 rfl (fun hc => absurd hc (by decide)) (fun _ => ?_)
        refine lv_aload_n hx hb dL_law_154 rfl (lv_at hl 3 rfl) ?_
        refine w_callK (pl := []) hP hD hS hA (va_runS (As := [.ref (x 0)]) (rest := []) ⟨hx, hb, hml, hown, hts⟩ (c_L_sound l D cy H.size x Kc5 oc5 hG (fun r => r = 1) (l_sound hG.ok rfl)) (va_cwS 1 hts gL_law_L_sound rfl rfl rfl (by decide +kernel) ⟨Nat.le_of_ble_eq_true rfl, Nat.le_of_ble_eq_true rfl⟩) (w_preSK (pl := []) hE hS hA hK hP hD) rfl rfl hl.1 rfl (lv_room (Nat.le_of_ble_eq_true rfl)) dL_law_155 ⟨(by show _ ≤ 600000; omega), (by show _ ≤ 7302250; omega)⟩) (fun r6 u H locs hw hP hD hS => ?_)
        obtain ⟨_, Kc6, rfl, hG, hr_⟩ := hw
        have hr_ : r6 = 1 := hr_
        subst hr_
        have hP : va_P D vwCl ([] ++ wK cy x Kc6) H := hP
        have hD : va_D (fun q : Nat => s.heap.size ≤ q) ([] ++ wK cy x Kc6) := hD
        refine lv_if_ne (tgt := 163) hx hb dL_law_158 rfl (fun _ => ?_) (fun hc => absurd hc (by decide))
        exact tail Kc6 oc5 hG _ _ hP hD hS _ _ (by omega) (by omega) _ (lv_sub hl [2, 3, 4] rfl)

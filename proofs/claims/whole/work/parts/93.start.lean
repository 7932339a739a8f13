theorem w_tab {args : Array Value} {s : State} {n : String} {N : Nat} {f : Nat → Int32} {A : Nat → Prop} (hN : N < 2 ^ 31) (hl : (Cond.laysStatic "FoldedMenu" n "[I").before args s = true) (hini : (Cond.initialized "FoldedMenu").before args s = true) (harr : (Cond.arrayOf (.static "FoldedMenu" n "[I") .int).before args s = true) (hlen : (Cond.eq (.length (.static "FoldedMenu" n "[I")) (.int (Int32.ofNat N))).before args s = true) (hel : ∀ j : Nat, j < N → (Cond.eq (.elem (.static "FoldedMenu" n "[I") (.int (Int32.ofNat j))) (.int (f j))).before args s = true) (hA : ∀ a : Nat, a < s.heap.size → ¬ A a) : wTab n N f A s s.heap := by
  obtain ⟨t, ht, hT⟩ := va_Tof (f := fun j => .int (f j)) (A := A) hN harr (va_eqt hlen) (fun j hj => va_eqt (hel j hj)) hA
  exact ⟨t, va_Zof hl hini ht hA, hT⟩
theorem w_rcP {args : Array Value} {s : State} {ty : FieldType} (h : (Cond.arrayClass ty).before args s = true) (ho : ∀ C, ty ≠ .object C) : ∃ c : ClassId, ArrOfT s c ty ∧ va_RA s c ty := by
  obtain ⟨c, k, comp, h1, h2, h3⟩ := Cond.arrayClass_spec h
  refine ⟨c, fun N z => ⟨(fun q hq => by cases hq), k, h2, comp, h3⟩, ?_⟩
  cases ty <;> first | exact h1 | exact absurd rfl (ho _)
theorem w_rcO {s : State} {C : String} (h : va_AO C s) : ∃ c : ClassId, ArrOfT s c (.object C) ∧ va_RA s c (.object C) := by
  obtain ⟨comp, c, k, h1, h2, h3, h4, h5⟩ := Cond.arrayOver_spec h
  exact ⟨c, fun N z => ⟨(fun q hq => by cases hq), k, h3, comp, h4⟩, k, comp, h3, h4, h1, h5⟩
theorem w_rcA {s : State} {t : FieldType} (h : va_AOA t s) : ∃ c : ClassId, ArrOfT s c (.array t) ∧ va_RA s c (.array t) := by
  have h0 : ((s.vm.findClass (FieldType.array t).toString).bind (fun comp => (s.vm.classes.findIdx? fun (x : Class) => match x.kind with | .array component _ => component == comp | _ => false).bind (fun c => (s.vm.classes[c]?).map fun (k : Class) => match k.kind with | .array _ ty => decide (ty = FieldType.array t) && decide (s.vm.findClass ("[" ++ (FieldType.array t).toString) = some c) | _ => false)) == some true) = true := h
  cases hc : s.vm.findClass (FieldType.array t).toString with
  | none => rw [hc] at h0; simp at h0
  | some comp =>
    rw [hc, Option.bind_some] at h0
    cases hi : (s.vm.classes.findIdx? fun (x : Class) => match x.kind with | .array component _ => component == comp | _ => false) with
    | none => rw [hi] at h0; simp at h0
    | some c =>
      rw [hi, Option.bind_some] at h0
      cases hk : s.vm.classes[c]? with
      | none => rw [hk] at h0; simp at h0
      | some k =>
        rw [hk, Option.map_some] at h0
        cases hkk : k.kind with
        | array c2 ty2 =>
          simp [hkk] at h0
          obtain ⟨rfl, h5⟩ := h0
          exact ⟨c, fun N z => ⟨(fun q hq => by cases hq), k, hk, c2, hkk⟩, h5⟩
        | _ => simp [hkk] at h0
theorem w_nests {args : Array Value} {s : State} (hts : ∀ w ∈ lw_tbl, w.before args s = true) : wNW s := by
  have h1 : ∀ q ∈ wNf, Cond.fieldLinkNest q.1 q.2.1 q.2.2.1 q.2.2.2.1 q.2.2.2.2.1 q.2.2.2.2.2 ∈ lw_tbl := by decide +kernel
  have h2 : ∀ q ∈ wNm, Cond.methodLinkNest q.1 q.2.1 q.2.2.1 q.2.2.2 ∈ lw_tbl := by decide +kernel
  exact ⟨fun q hq => va_Nw.of rfl (hts _ (h1 q hq)), fun q hq => va_Nw.of rfl (hts _ (h2 q hq))⟩
theorem w_env0 {s : State} {b : Addr} (hts : ∀ w ∈ lw_tbl, w.before #[Value.ref b] s = true) (hgv : (Jvm.Cond.and given_1 narrow_1).before #[Value.ref b] s = true) : wEnv (fun q : Nat => s.heap.size ≤ q) s s.heap := by
  have hs := flat_of_before _ hgv
  have hA0 : ∀ a : Nat, a < s.heap.size → ¬ (fun q : Nat => s.heap.size ≤ q) a := fun a ha => Nat.not_le.mpr ha
  have hstr : ∃ sk sv : Nat → Nat, vk_S 2 [4, 8] sBytes sk sv (fun q : Nat => s.heap.size ≤ q) s s.heap ∧ ∀ i : Nat, i < 2 → ((fun i => if i = 0 then Term.string "FoldedMenu$Reader" 73 else Term.string "FoldedMenu$Reader" 79) i : Term).eval #[Value.ref b] s none [] s = some (.ref (sk i)) := by
    refine vk_Sof (tm := fun i => if i = 0 then Term.string "FoldedMenu$Reader" 73 else Term.string "FoldedMenu$Reader" 79) (fun i hi => ?_) (fun i hi => ?_) (fun i hi => ?_) (fun i hi => ?_) (fun i hi => ?_) (fun i hi j hj => ?_) (fun i j hi hj hij => ?_) hA0
    · rcases (show i = 0 ∨ i = 1 by omega) with rfl | rfl <;> decide
    · rcases (show i = 0 ∨ i = 1 by omega) with rfl | rfl <;> exact hs _ (by decide +kernel)
    · rcases (show i = 0 ∨ i = 1 by omega) with rfl | rfl <;> exact hs _ (by decide +kernel)
    · rcases (show i = 0 ∨ i = 1 by omega) with rfl | rfl <;> exact hs _ (by decide +kernel)
    · rcases (show i = 0 ∨ i = 1 by omega) with rfl | rfl <;> exact hs _ (by decide +kernel)
    · rcases (show i = 0 ∨ i = 1 by omega) with rfl | rfl
      · have hj : j < 4 := hj
        rcases (show j = 0 ∨ j = 1 ∨ j = 2 ∨ j = 3 by omega) with rfl | rfl | rfl | rfl <;> exact hs _ (by decide +kernel)
      · have hj : j < 8 := hj
        rcases (show j = 0 ∨ j = 1 ∨ j = 2 ∨ j = 3 ∨ j = 4 ∨ j = 5 ∨ j = 6 ∨ j = 7 by omega) with rfl | rfl | rfl | rfl | rfl | rfl | rfl | rfl <;> exact hs _ (by decide +kernel)
    · rcases (show i = 0 ∨ i = 1 by omega) with rfl | rfl <;> rcases (show j = 0 ∨ j = 1 by omega) with rfl | rfl
      · exact absurd rfl hij
      · first | exact Or.inl (hs _ (by decide +kernel)) | exact Or.inr (hs _ (by decide +kernel))
      · first | exact Or.inl (hs _ (by decide +kernel)) | exact Or.inr (hs _ (by decide +kernel))
      · exact absurd rfl hij
  obtain ⟨sk, sv, hS, hev⟩ := hstr
  refine ⟨w_nests hts, w_tab (f := tDL) (by decide) (hts (.laysStatic "FoldedMenu" "DISH_LOW" "[I") (by decide +kernel)) (hts (.initialized "FoldedMenu") (by decide +kernel)) (hs _ (by decide +kernel)) (hs _ (by decide +kernel)) (fun j hj => by rcases (show j = 0 ∨ j = 1 ∨ j = 2 ∨ j = 3 ∨ j = 4 ∨ j = 5 ∨ j = 6 by omega) with rfl | rfl | rfl | rfl | rfl | rfl | rfl <;> exact hs _ (by decide +kernel)) hA0, w_tab (f := tDH) (by decide) (hts (.laysStatic "FoldedMenu" "DISH_HIGH" "[I") (by decide +kernel)) (hts (.initialized "FoldedMenu") (by decide +kernel)) (hs _ (by decide +kernel)) (hs _ (by decide +kernel)) (fun j hj => by rcases (show j = 0 ∨ j = 1 ∨ j = 2 ∨ j = 3 ∨ j = 4 ∨ j = 5 ∨ j = 6 by omega) with rfl | rfl | rfl | rfl | rfl | rfl | rfl <;> exact hs _ (by decide +kernel)) hA0, w_tab (f := tCL) (by decide) (hts (.laysStatic "FoldedMenu" "CARD_LOW" "[I") (by decide +kernel)) (hts (.initialized "FoldedMenu") (by decide +kernel)) (hs _ (by decide +kernel)) (hs _ (by decide +kernel)) (fun j hj => by rcases (show j = 0 ∨ j = 1 ∨ j = 2 ∨ j = 3 ∨ j = 4 ∨ j = 5 by omega) with rfl | rfl | rfl | rfl | rfl | rfl <;> exact hs _ (by decide +kernel)) hA0, w_tab (f := tCH) (by decide) (hts (.laysStatic "FoldedMenu" "CARD_HIGH" "[I") (by decide +kernel)) (hts (.initialized "FoldedMenu") (by decide +kernel)) (hs _ (by decide +kernel)) (hs _ (by decide +kernel)) (fun j hj => by rcases (show j = 0 ∨ j = 1 ∨ j = 2 ∨ j = 3 ∨ j = 4 ∨ j = 5 by omega) with rfl | rfl | rfl | rfl | rfl | rfl <;> exact hs _ (by decide +kernel)) hA0, sk, sv, va_Zof (hts (.laysStatic "java/lang/String" "COMPACT_STRINGS" "Z") (by decide +kernel)) (hts (.initialized "java/lang/String") (by decide +kernel)) (va_eqi (hs _ (by decide +kernel))) hA0, hS, vk_R.of (hts (.stringRef "FoldedMenu$Reader" 73 "psaw") (by decide +kernel)) ?_, vk_R.of (hts (.stringRef "FoldedMenu$Reader" 79 "abcdefgh") (by decide +kernel)) ?_⟩
  · exact hev 0 (by decide)
  · exact hev 1 (by decide)
/-- contents that agree at the start -/
def lawI (R : sS → (Nat → sS) → Int32 → (Nat → Int32) → Int32 → (Nat → Int32) → (Nat → Int32) → Int32 → (Nat → Int32) → Int32 → Prop) : Prop := R sS0 ((fun _ => sS0)) 0 ((fun _ => 0)) 0 ((upd (upd (upd (upd (upd (upd (fun _ => 0) (Int32.toNatClampNeg 142) 40) (Int32.toNatClampNeg 143) 5) (Int32.toNatClampNeg 144) 1) (Int32.toNatClampNeg 145) 2) (Int32.toNatClampNeg 149) 1) (Int32.toNatClampNeg 150) 1)) ((fun _ => 0)) 0 ((fun _ => 0)) 0
set_option maxHeartbeats 40000000 in
set_option maxRecDepth 100000 in
/-- from the entry, for every script: over an R that is as asked -/
theorem whole_over (R : sS → (Nat → sS) → Int32 → (Nat → Int32) → Int32 → (Nat → Int32) → (Nat → Int32) → Int32 → (Nat → Int32) → Int32 → Prop) (hR : lawS R) (hI : lawI R) {p : Program} {e : Env} {s : State} {m0 : MethodId} {below : List Frame} {meth : Method} {c : Code} (l : Launch) {b L : Nat} {xs : Nat → Int32} (hL : L ≤ 3584) (C0 : lw_At p s m0 meth c b L xs) : W p l e room_1 s m0 #[Value.ref b] below meth c s.heap [] 0 0 (lw_Z below #[Value.ref b] s) (entryFrame m0 ([Value.ref b] : List Value).toArray 4) := by
  obtain ⟨hx, hb, hr, hml, hown0, hts0, hX, hbl, hlocks, hgv⟩ := id C0
  have hown : s.vm.findClass RL = some m0.cls := hown0
  have hE := w_env0 hts0 hgv
  have hts : ∀ w ∈ wsL_law, w.before #[Value.ref b] s = true := fun w h => hts0 w (wsL_law_in w h)
  have hA : ∀ q : Nat, s.heap.size ≤ q → (fun q : Nat => s.heap.size ≤ q) q := fun _ h => h
  have hO : wAO s := ⟨va_AO.of (hts0 (.arrayOver (.object "FoldedMenu$Menu")) (by decide +kernel)), va_AO.of (hts0 (.arrayOver (.object "FoldedMenu$State")) (by decide +kernel)), hts0 (.arrayOver (.array .int)) (by decide +kernel), hts0 (.arrayOver (.array .long)) (by decide +kernel)⟩
  obtain ⟨y0, hy0⟩ := w_rcP (hts0 (.arrayClass .int) (by decide +kernel)) (fun C q => by cases q)
  obtain ⟨y1, hy1⟩ := w_rcP (hts0 (.arrayClass .long) (by decide +kernel)) (fun C q => by cases q)
  obtain ⟨y2, hy2⟩ := w_rcO hO.1
  obtain ⟨y3, hy3⟩ := w_rcO hO.2.1
  obtain ⟨y4, hy4⟩ := w_rcA hO.2.2.1
  obtain ⟨y5, hy5⟩ := w_rcA hO.2.2.2
  obtain ⟨c0, i0, hn0⟩ := u_known (C := RX0) (T := TX0) (N := 7) (n := 7) hts0 inX0 (hts0 (.instantiable RX0 7) (by decide +kernel))
  obtain ⟨c1, i1, hn1⟩ := u_known (C := RX1) (T := TX1) (N := 5) (n := 5) hts0 inX1 (hts0 (.instantiable RX1 5) (by decide +kernel))
  obtain ⟨c2, i2, hn2⟩ := u_known (C := RX2) (T := TX2) (N := 2) (n := 2) hts0 inX2 (hts0 (.instantiable RX2 2) (by decide +kernel))
  obtain ⟨c3, i3, hn3⟩ := u_known (C := RX3) (T := TX3) (N := 4) (n := 4) hts0 inX3 (hts0 (.instantiable RX3 4) (by decide +kernel))
  obtain ⟨c4, i4, hn4⟩ := u_known (C := RX4) (T := TX4) (N := 8) (n := 8) hts0 inX4 (hts0 (.instantiable RX4 8) (by decide +kernel))
  obtain ⟨c5, i5, hn5⟩ := u_known (C := RX5) (T := TX5) (N := 5) (n := 5) hts0 inX5 (hts0 (.instantiable RX5 5) (by decide +kernel))
  obtain ⟨c6, i6, hn6⟩ := u_known (C := RX6) (T := TX6) (N := 5) (n := 5) hts0 inX6 (hts0 (.instantiable RX6 5) (by decide +kernel))
  obtain ⟨c7, i7, hn7⟩ := u_known (C := RX7) (T := TX7) (N := 3) (n := 3) hts0 inX7 (hts0 (.instantiable RX7 3) (by decide +kernel))
  obtain ⟨c8, i8, hn8⟩ := u_known (C := RX8) (T := TX8) (N := 9) (n := 9) hts0 inX8 (hts0 (.instantiable RX8 9) (by decide +kernel))
  obtain ⟨c9, i9, hn9⟩ := u_known (C := RX9) (T := TX9) (N := 27) (n := 27) hts0 inX9 (hts0 (.instantiable RX9 27) (by decide +kernel))
  obtain ⟨D, hKc⟩ : ∃ D : va_G, ∀ (k : Nat) (q : vw_C), vwCl[k]? = some q → u_Kn s q.1 q.2.1 q.2.2 (D.1 k) (D.2 k) := by
    refine ⟨(fun k => if k = 0 then c0 else if k = 1 then c1 else if k = 2 then c2 else if k = 3 then c3 else if k = 4 then c4 else if k = 5 then c5 else if k = 6 then c6 else if k = 7 then c7 else if k = 8 then c8 else c9, fun k => if k = 0 then i0 else if k = 1 then i1 else if k = 2 then i2 else if k = 3 then i3 else if k = 4 then i4 else if k = 5 then i5 else if k = 6 then i6 else if k = 7 then i7 else if k = 8 then i8 else i9), ?_⟩
    intro k q hq
    match k, hq with
    | 0, hq => cases hq; exact hn0
    | 1, hq => cases hq; exact hn1
    | 2, hq => cases hq; exact hn2
    | 3, hq => cases hq; exact hn3
    | 4, hq => cases hq; exact hn4
    | 5, hq => cases hq; exact hn5
    | 6, hq => cases hq; exact hn6
    | 7, hq => cases hq; exact hn7
    | 8, hq => cases hq; exact hn8
    | 9, hq => cases hq; exact hn9
    | k + 10, hq => simp [vwCl] at hq
  obtain ⟨cy, e0, e1, e2, e3, e4, e5⟩ : ∃ cy : Nat → ClassId, cy 0 = y0 ∧ cy 1 = y1 ∧ cy 2 = y2 ∧ cy 3 = y3 ∧ cy 4 = y4 ∧ cy 5 = y5 := ⟨fun k => if k = 0 then y0 else if k = 1 then y1 else if k = 2 then y2 else if k = 3 then y3 else if k = 4 then y4 else y5, rfl, rfl, rfl, rfl, rfl, rfl⟩
  subst e0 e1 e2 e3 e4 e5
  have hK : va_K D vwCl (wTy cy) s := by
    refine ⟨hKc, fun k q h => ?_⟩
    match k, h with
    | 0, h => cases h; exact hy0
    | 1, h => cases h; exact hy1
    | 2, h => cases h; exact hy2
    | 3, h => cases h; exact hy3
    | 4, h => cases h; exact hy4
    | 5, h => cases h; exact hy5
    | k + 6, h => simp at h
  have hS : va_S (fun q : Nat => s.heap.size ≤ q) s.heap s.heap [] := va_S.rf
  have hP : va_P D vwCl [] s.heap := fun k q h => by simp at h
  have hD : va_D (fun q : Nat => s.heap.size ≤ q) [] := ⟨fun i j p q h => by simp at h, fun k q h => by simp at h⟩
  have hl := lv_entry ([.ref b]) (n := 4) (Nat.le_of_ble_eq_true rfl)
  rw [lg_entry_eq]
  generalize (lg_sl ([.ref b]) ++ List.replicate (4 - (lg_sl ([.ref b])).length) Slot.unset).toArray = ls at hl ⊢
  have hl : lv_has ls 4 [(0, .ref b)] := hl
  refine va_new (ci := 8) (fs := [.null, .null, .null, .null, .null, .null, .null, .null, .null]) (C := RX8) (T := TX8) (N := 9) hx hb hts inlX8 tyX8 tyX8_ok hown (hts (.classLink RL 7 RX8) (by decide +kernel)) (hts (.instantiable RX8 9) (by decide +kernel)) (hts (.initialized RX8) (by decide +kernel)) hK hP hD hS hA rfl (fun j hj => by rcases (show j = 0 ∨ j = 1 ∨ j = 2 ∨ j = 3 ∨ j = 4 ∨ j = 5 ∨ j = 6 ∨ j = 7 ∨ j = 8 by omega) with rfl | rfl | rfl | rfl | rfl | rfl | rfl | rfl | rfl <;> rfl) (Nat.le_of_ble_eq_true rfl) (Nat.le_of_ble_eq_true rfl) dL_law_0 (fun q0 H hP hD hS => ?_)
  have hP : va_P D vwCl [(q0, .inr (8, [.null, .null, .null, .null, .null, .null, .null, .null, .null]))] H := hP
  have hD : va_D (fun q : Nat => s.heap.size ≤ q) [(q0, .inr (8, [.null, .null, .null, .null, .null, .null, .null, .null, .null]))] := hD
  refine W.widen (k := 1) (n := 9) (by omega) (by omega) ?_
  refine lv_dup hx hb dL_law_3 rfl ?_
  refine w_callC hP hD hS hA [0] [] (wc := [(q0, .inr (8, [.null, .null, .null, .null, .null, .null, .null, .null, .null]))]) (wr := []) rfl rfl (by decide) (by decide) (va_runI (As := []) (rest := [.ref q0]) ⟨hx, hb, hml, hown, hts⟩ (c_X8_init l D cy q0 H.size) (cwI 0 hts gL_law_X8_init rfl rfl rfl (hts (.initialized RX8) (by decide +kernel)) (hts (.methodLink RL 9 yX8_init) (by decide +kernel)) (hts (.instanceMethod yX8_init) (by decide +kernel)) rfl (by decide +kernel) ⟨Nat.le_of_ble_eq_true rfl, Nat.le_of_ble_eq_true rfl⟩) (w_preIC hO hE hS hA hK hP hD [0] rfl rfl (by decide)) rfl rfl hl.1 rfl (lv_room (Nat.le_of_ble_eq_true rfl)) dL_law_4 ⟨Nat.le_of_ble_eq_true rfl, Nat.le_of_ble_eq_true rfl⟩) (fun u H locs hw nP nD nS => ?_)
  clear hP hD hS
  obtain ⟨x, sa, ht0, rfl⟩ := hw
  subst ht0
  have hP : va_P D vwCl (wX8 cy x sS0 ((fun _ => sS0)) sa 0 ((fun _ => 0)) wSet0 0 12 ((fun _ => 0)) ((fun _ => 0)) 0 0 0 ((fun _ => 0)) ((fun _ => 0)) ((fun _ => 0)) 0 0 0 0 0 ((fun _ _ => 0)) ((fun _ => 0)) ((fun _ => 0)) 0 0 ((fun _ _ => 0)) ((fun _ => 0)) ((fun _ => 0)) 0 0 ((fun _ => 0)) ((fun _ => 0)) ((fun _ => 0)) ((fun _ => 0)) 0 0 0 ((fun _ _ => 0)) ((fun _ => 0)) 0 0 0) H := nP
  have hD : va_D (fun q : Nat => s.heap.size ≤ q) (wX8 cy x sS0 ((fun _ => sS0)) sa 0 ((fun _ => 0)) wSet0 0 12 ((fun _ => 0)) ((fun _ => 0)) 0 0 0 ((fun _ => 0)) ((fun _ => 0)) ((fun _ => 0)) 0 0 0 0 0 ((fun _ _ => 0)) ((fun _ => 0)) ((fun _ => 0)) 0 0 ((fun _ _ => 0)) ((fun _ => 0)) ((fun _ => 0)) 0 0 ((fun _ => 0)) ((fun _ => 0)) ((fun _ => 0)) ((fun _ => 0)) 0 0 0 ((fun _ _ => 0)) ((fun _ => 0)) 0 0 0) := nD
  have hS := nS
  clear nP nD nS
  refine W.widen (k := 109) (n := 4762) (by omega) (by omega) ?_
  refine lv_astore_n (lv' := [(1, .ref (x 0)), (0, .ref b)]) hx hb dL_law_7 rfl hl (by decide) rfl (fun ls hl => ?_)
  refine va_new (ci := 9) (fs := [.null, .null, .null, .int 0, .null, .int 0, .int 0, .int 0, .int 0, .int 0, .int 0, .int 0, .int 0, .null, .null, .null, .null, .null, .null, .null, .null, .null, .null, .null, .int 0, .int 0, .int 0]) (C := RX9) (T := TX9) (N := 27) hx hb hts inlX9 tyX9 tyX9_ok hown (hts (.classLink RL 10 RX9) (by decide +kernel)) (hts (.instantiable RX9 27) (by decide +kernel)) (hts (.initialized RX9) (by decide +kernel)) hK hP hD hS hA rfl (fun j hj => by rcases (show j = 0 ∨ j = 1 ∨ j = 2 ∨ j = 3 ∨ j = 4 ∨ j = 5 ∨ j = 6 ∨ j = 7 ∨ j = 8 ∨ j = 9 ∨ j = 10 ∨ j = 11 ∨ j = 12 ∨ j = 13 ∨ j = 14 ∨ j = 15 ∨ j = 16 ∨ j = 17 ∨ j = 18 ∨ j = 19 ∨ j = 20 ∨ j = 21 ∨ j = 22 ∨ j = 23 ∨ j = 24 ∨ j = 25 ∨ j = 26 by omega) with rfl | rfl | rfl | rfl | rfl | rfl | rfl | rfl | rfl | rfl | rfl | rfl | rfl | rfl | rfl | rfl | rfl | rfl | rfl | rfl | rfl | rfl | rfl | rfl | rfl | rfl | rfl <;> rfl) (Nat.le_of_ble_eq_true rfl) (Nat.le_of_ble_eq_true rfl) dL_law_8 (fun q1 H hP hD hS => ?_)
  have hP : va_P D vwCl (wX8 cy x sS0 ((fun _ => sS0)) sa 0 ((fun _ => 0)) wSet0 0 12 ((fun _ => 0)) ((fun _ => 0)) 0 0 0 ((fun _ => 0)) ((fun _ => 0)) ((fun _ => 0)) 0 0 0 0 0 ((fun _ _ => 0)) ((fun _ => 0)) ((fun _ => 0)) 0 0 ((fun _ _ => 0)) ((fun _ => 0)) ((fun _ => 0)) 0 0 ((fun _ => 0)) ((fun _ => 0)) ((fun _ => 0)) ((fun _ => 0)) 0 0 0 ((fun _ _ => 0)) ((fun _ => 0)) 0 0 0 ++ [(q1, .inr (9, [.null, .null, .null, .int 0, .null, .int 0, .int 0, .int 0, .int 0, .int 0, .int 0, .int 0, .int 0, .null, .null, .null, .null, .null, .null, .null, .null, .null, .null, .null, .int 0, .int 0, .int 0]))]) H := hP
  have hD : va_D (fun q : Nat => s.heap.size ≤ q) (wX8 cy x sS0 ((fun _ => sS0)) sa 0 ((fun _ => 0)) wSet0 0 12 ((fun _ => 0)) ((fun _ => 0)) 0 0 0 ((fun _ => 0)) ((fun _ => 0)) ((fun _ => 0)) 0 0 0 0 0 ((fun _ _ => 0)) ((fun _ => 0)) ((fun _ => 0)) 0 0 ((fun _ _ => 0)) ((fun _ => 0)) ((fun _ => 0)) 0 0 ((fun _ => 0)) ((fun _ => 0)) ((fun _ => 0)) ((fun _ => 0)) 0 0 0 ((fun _ _ => 0)) ((fun _ => 0)) 0 0 0 ++ [(q1, .inr (9, [.null, .null, .null, .int 0, .null, .int 0, .int 0, .int 0, .int 0, .int 0, .int 0, .int 0, .int 0, .null, .null, .null, .null, .null, .null, .null, .null, .null, .null, .null, .int 0, .int 0, .int 0]))]) := hD
  refine W.widen (k := 110) (n := 4789) (by omega) (by omega) ?_
  refine lv_dup hx hb dL_law_11 rfl ?_
  refine w_callC hP hD hS hA [109] [0, 1, 2, 3, 4, 5, 6, 7, 8, 9, 10, 11, 12, 13, 14, 15, 16, 17, 18, 19, 20, 21, 22, 23, 24, 25, 26, 27, 28, 29, 30, 31, 32, 33, 34, 35, 36, 37, 38, 39, 40, 41, 42, 43, 44, 45, 46, 47, 48, 49, 50, 51, 52, 53, 54, 55, 56, 57, 58, 59, 60, 61, 62, 63, 64, 65, 66, 67, 68, 69, 70, 71, 72, 73, 74, 75, 76, 77, 78, 79, 80, 81, 82, 83, 84, 85, 86, 87, 88, 89, 90, 91, 92, 93, 94, 95, 96, 97, 98, 99, 100, 101, 102, 103, 104, 105, 106, 107, 108] (wc := [(q1, .inr (9, [.null, .null, .null, .int 0, .null, .int 0, .int 0, .int 0, .int 0, .int 0, .int 0, .int 0, .int 0, .null, .null, .null, .null, .null, .null, .null, .null, .null, .null, .null, .int 0, .int 0, .int 0]))]) (wr := wX8 cy x sS0 ((fun _ => sS0)) sa 0 ((fun _ => 0)) wSet0 0 12 ((fun _ => 0)) ((fun _ => 0)) 0 0 0 ((fun _ => 0)) ((fun _ => 0)) ((fun _ => 0)) 0 0 0 0 0 ((fun _ _ => 0)) ((fun _ => 0)) ((fun _ => 0)) 0 0 ((fun _ _ => 0)) ((fun _ => 0)) ((fun _ => 0)) 0 0 ((fun _ => 0)) ((fun _ => 0)) ((fun _ => 0)) ((fun _ => 0)) 0 0 0 ((fun _ _ => 0)) ((fun _ => 0)) 0 0 0) rfl rfl (by decide) (by decide) (va_runI (As := []) (rest := [.ref q1]) ⟨hx, hb, hml, hown, hts⟩ (c_X9_init l D cy q1 H.size) (cwI 0 hts gL_law_X9_init rfl rfl rfl (hts (.initialized RX9) (by decide +kernel)) (hts (.methodLink RL 12 yX9_init) (by decide +kernel)) (hts (.instanceMethod yX9_init) (by decide +kernel)) rfl (by decide +kernel) ⟨Nat.le_of_ble_eq_true rfl, Nat.le_of_ble_eq_true rfl⟩) (w_preIC hO hE hS hA hK hP hD [109] rfl rfl (by decide)) rfl rfl hl.1 rfl (lv_room (Nat.le_of_ble_eq_true rfl)) dL_law_12 ⟨Nat.le_of_ble_eq_true rfl, Nat.le_of_ble_eq_true rfl⟩) (fun u H locs hw nP nD nS => ?_)
  clear hP hD hS
  obtain ⟨m, ht0, rfl⟩ := hw
  subst ht0
  have hP : va_P D vwCl (wX8 cy x sS0 ((fun _ => sS0)) sa 0 ((fun _ => 0)) wSet0 0 12 ((fun _ => 0)) ((fun _ => 0)) 0 0 0 ((fun _ => 0)) ((fun _ => 0)) ((fun _ => 0)) 0 0 0 0 0 ((fun _ _ => 0)) ((fun _ => 0)) ((fun _ => 0)) 0 0 ((fun _ _ => 0)) ((fun _ => 0)) ((fun _ => 0)) 0 0 ((fun _ => 0)) ((fun _ => 0)) ((fun _ => 0)) ((fun _ => 0)) 0 0 0 ((fun _ _ => 0)) ((fun _ => 0)) 0 0 0 ++ wX9 cy m ((upd (upd (upd (upd (upd (upd (fun _ => 0) (Int32.toNatClampNeg 142) 40) (Int32.toNatClampNeg 143) 5) (Int32.toNatClampNeg 144) 1) (Int32.toNatClampNeg 145) 2) (Int32.toNatClampNeg 149) 1) (Int32.toNatClampNeg 150) 1)) ((fun _ => 0)) ((fun _ => 0)) 0 ((fun _ => 0)) 0 0 0 0 0 0 0 0 ((fun _ => 0)) ((fun _ => 0)) ((fun _ => 0)) ((fun _ => 0)) ((fun _ => 0)) ((fun _ => 0)) ((fun _ => 0)) ((fun _ => 0)) ((fun _ => 0)) ((fun _ => 0)) ((fun _ => 0)) 0 0 0) H := nP
  have hD : va_D (fun q : Nat => s.heap.size ≤ q) (wX8 cy x sS0 ((fun _ => sS0)) sa 0 ((fun _ => 0)) wSet0 0 12 ((fun _ => 0)) ((fun _ => 0)) 0 0 0 ((fun _ => 0)) ((fun _ => 0)) ((fun _ => 0)) 0 0 0 0 0 ((fun _ _ => 0)) ((fun _ => 0)) ((fun _ => 0)) 0 0 ((fun _ _ => 0)) ((fun _ => 0)) ((fun _ => 0)) 0 0 ((fun _ => 0)) ((fun _ => 0)) ((fun _ => 0)) ((fun _ => 0)) 0 0 0 ((fun _ _ => 0)) ((fun _ => 0)) 0 0 0 ++ wX9 cy m ((upd (upd (upd (upd (upd (upd (fun _ => 0) (Int32.toNatClampNeg 142) 40) (Int32.toNatClampNeg 143) 5) (Int32.toNatClampNeg 144) 1) (Int32.toNatClampNeg 145) 2) (Int32.toNatClampNeg 149) 1) (Int32.toNatClampNeg 150) 1)) ((fun _ => 0)) ((fun _ => 0)) 0 ((fun _ => 0)) 0 0 0 0 0 0 0 0 ((fun _ => 0)) ((fun _ => 0)) ((fun _ => 0)) ((fun _ => 0)) ((fun _ => 0)) ((fun _ => 0)) ((fun _ => 0)) ((fun _ => 0)) ((fun _ => 0)) ((fun _ => 0)) ((fun _ => 0)) 0 0 0) := nD
  have hS := nS
  clear nP nD nS
  refine W.widen (k := 125) (n := 9962) (by omega) (by omega) ?_
  refine lv_astore_n (lv' := [(2, .ref (m 0)), (1, .ref (x 0)), (0, .ref b)]) hx hb dL_law_15 rfl hl (by decide) rfl (fun ls hl => ?_)
  refine lv_iconst (v := 0) hx hb dL_law_16 (by decide) ?_
  refine lv_istore_n (lv' := [(3, .int 0), (2, .ref (m 0)), (1, .ref (x 0)), (0, .ref b)]) hx hb dL_law_17 rfl hl (by decide) rfl (fun ls hl => ?_)
  exact law_loop (nc := 125) (ns := 9962) (Nat.le_of_ble_eq_true rfl) (Nat.le_of_ble_eq_true rfl) hL C0 hE hK R hR x m (L + 8) 0 (Nat.zero_le _) (by omega) sS0 ((fun _ => sS0)) sa 0 ((fun _ => 0)) wSet0 0 12 ((fun _ => 0)) ((fun _ => 0)) 0 0 0 ((fun _ => 0)) ((fun _ => 0)) ((fun _ => 0)) 0 0 0 0 0 ((fun _ _ => 0)) ((fun _ => 0)) ((fun _ => 0)) 0 0 ((fun _ _ => 0)) ((fun _ => 0)) ((fun _ => 0)) 0 0 ((fun _ => 0)) ((fun _ => 0)) ((fun _ => 0)) ((fun _ => 0)) 0 0 0 ((fun _ _ => 0)) ((fun _ => 0)) 0 0 0 ((upd (upd (upd (upd (upd (upd (fun _ => 0) (Int32.toNatClampNeg 142) 40) (Int32.toNatClampNeg 143) 5) (Int32.toNatClampNeg 144) 1) (Int32.toNatClampNeg 145) 2) (Int32.toNatClampNeg 149) 1) (Int32.toNatClampNeg 150) 1)) ((fun _ => 0)) ((fun _ => 0)) 0 ((fun _ => 0)) 0 0 0 0 0 0 0 0 ((fun _ => 0)) ((fun _ => 0)) ((fun _ => 0)) ((fun _ => 0)) ((fun _ => 0)) ((fun _ => 0)) ((fun _ => 0)) ((fun _ => 0)) ((fun _ => 0)) ((fun _ => 0)) ((fun _ => 0)) 0 0 0 hI H locs hP hD hS ls (lv_sub hl [3, 2, 1, 0] rfl)

theorem w_tab {args : Array Value} {s : State} {n : String} {N : Nat} {f : Nat → Int32} {A : Nat → Prop} (hN : N < 2 ^ 31) (hl : (Cond.laysStatic "FoldedMenu" n "[I").before args s = true) (hini : (Cond.initialized "FoldedMenu").before args s = true) (harr : (Cond.arrayOf (.static "FoldedMenu" n "[I") .int).before args s = true) (hlen : (Cond.eq (.length (.static "FoldedMenu" n "[I")) (.int (Int32.ofNat N))).before args s = true) (hel : ∀ j : Nat, j < N → (Cond.eq (.elem (.static "FoldedMenu" n "[I") (.int (Int32.ofNat j))) (.int (f j))).before args s = true) (hA : ∀ a : Nat, a < s.heap.size → ¬ A a) : wTab n N f A s s.heap := by
  obtain ⟨t, ht, hT⟩ := va_Tof (f := fun j => .int (f j)) (A := A) hN harr (va_eqt hlen) (fun j hj => va_eqt (hel j hj)) hA
  exact ⟨t, va_Zof hl hini ht hA, hT⟩
theorem w_rcP {args : Array Value} {s : State} {ty : FieldType} (h : (Cond.arrayClass ty).before args s = true) (ho : ∀ C, ty ≠ .object C) : ∃ c : ClassId, ArrOfT s c ty ∧ va_RA s c ty := by
  obtain ⟨c, k, comp, h1, h2, h3⟩ := Cond.arrayClass_spec h
  refine ⟨c, fun N z => ⟨(fun q hq => by cases hq), k, h2, comp, h3⟩, ?_⟩
  cases ty <;> first | exact h1 | exact absurd rfl (ho _)
theorem w_rcO {s : State} {C : String} (h : va_AO C s) : ∃ c : ClassId, ArrOfT s c (.object C) ∧ va_RA s c (.object C) := by
  obtain ⟨comp, c, k, h1, h2, h3, h4, h5⟩ := Cond.arrayOver_spec h
  exact ⟨c, fun N z => ⟨(fun q hq => by cases hq), k, h3, comp, h4⟩, k, comp, h3, h4, h1, h5⟩
theorem w_rcA {s : State} {t : FieldType} (h : va_AOA t s) : ∃ c : ClassId, ArrOfT s c (.array t) ∧ va_RA s c (.array t) := by
  have h0 : ((s.vm.findClass (FieldType.array t).toString).bind (fun comp => (s.vm.classes.findIdx? fun (x : Class) => match x.kind with | .array component _ => component == comp | _ => false).bind (fun c => (s.vm.classes[c]?).map fun (k : Class) => match k.kind with | .array _ ty => decide (ty = FieldType.array t) && decide (s.vm.findClass ("[" ++ (FieldType.array t).toString) = some c) | _ => false)) == some true) = true := h
  cases hc : s.vm.findClass (FieldType.array t).toString with
  | none => rw [hc] at h0; simp at h0
  | some comp =>
    rw [hc, Option.bind_some] at h0
    cases hi : (s.vm.classes.findIdx? fun (x : Class) => match x.kind with | .array component _ => component == comp | _ => false) with
    | none => rw [hi] at h0; simp at h0
    | some c =>
      rw [hi, Option.bind_some] at h0
      cases hk : s.vm.classes[c]? with
      | none => rw [hk] at h0; simp at h0
      | some k =>
        rw [hk, Option.map_some] at h0
        cases hkk : k.kind with
        | array c2 ty2 =>
          simp [hkk] at h0
          obtain ⟨rfl, h5⟩ := h0
          exact ⟨c, fun N z => ⟨(fun q hq => by cases hq), k, hk, c2, hkk⟩, h5⟩
        | _ => simp [hkk] at h0
theorem w_nests {args : Array Value} {s : State} (hts : ∀ w ∈ lw_tbl, w.before args s = true) : wNW s := by
  have h1 : ∀ q ∈ wNf, Cond.fieldLinkNest q.1 q.2.1 q.2.2.1 q.2.2.2.1 q.2.2.2.2.1 q.2.2.2.2.2 ∈ lw_tbl := by decide +kernel
  have h2 : ∀ q ∈ wNm, Cond.methodLinkNest q.1 q.2.1 q.2.2.1 q.2.2.2 ∈ lw_tbl := by decide +kernel
  exact ⟨fun q hq => va_Nw.of rfl (hts _ (h1 q hq)), fun q hq => va_Nw.of rfl (hts _ (h2 q hq))⟩
theorem w_env0 {s : State} {b : Addr} (hts : ∀ w ∈ lw_tbl, w.before #[Value.ref b] s = true) (hgv : (Jvm.Cond.and given_1 narrow_1).before #[Value.ref b] s = true) : wEnv (fun q : Nat => s.heap.size ≤ q) s s.heap := by
  have hs := flat_of_before _ hgv
  have hA0 : ∀ a : Nat, a < s.heap.size → ¬ (fun q : Nat => s.heap.size ≤ q) a := fun a ha => Nat.not_le.mpr ha
  have hstr : ∃ sk sv : Nat → Nat, vk_S 2 [4, 8] sBytes sk sv (fun q : Nat => s.heap.size ≤ q) s s.heap ∧ ∀ i : Nat, i < 2 → ((fun i => if i = 0 then Term.string "FoldedMenu$Reader" 73 else Term.string "FoldedMenu$Reader" 79) i : Term).eval #[Value.ref b] s none [] s = some (.ref (sk i)) := by
    refine vk_Sof (tm := fun i => if i = 0 then Term.string "FoldedMenu$Reader" 73 else Term.string "FoldedMenu$Reader" 79) (fun i hi => ?_) (fun i hi => ?_) (fun i hi => ?_) (fun i hi => ?_) (fun i hi => ?_) (fun i hi j hj => ?_) (fun i j hi hj hij => ?_) hA0
    · rcases (show i = 0 ∨ i = 1 by omega) with rfl | rfl <;> decide
    · rcases (show i = 0 ∨ i = 1 by omega) with rfl | rfl <;> exact hs _ (by decide +kernel)
    · rcases (show i = 0 ∨ i = 1 by omega) with rfl | rfl <;> exact hs _ (by decide +kernel)
    · rcases (show i = 0 ∨ i = 1 by omega) with rfl | rfl <;> exact hs _ (by decide +kernel)
    · rcases (show i = 0 ∨ i = 1 by omega) with rfl | rfl <;> exact hs _ (by decide +kernel)
    · rcases (show i = 0 ∨ i = 1 by omega) with rfl | rfl
      · have hj : j < 4 := hj
        rcases (show j = 0 ∨ j = 1 ∨ j = 2 ∨ j = 3 by omega) with rfl | rfl | rfl | rfl <;> exact hs _ (by decide +kernel)
      · have hj : j < 8 := hj
        rcases (show j = 0 ∨ j = 1 ∨ j = 2 ∨ j = 3 ∨ j = 4 ∨ j = 5 ∨ j = 6 ∨ j = 7 by omega) with rfl | rfl | rfl | rfl | rfl | rfl | rfl | rfl <;> exact hs _ (by decide +kernel)
    · rcases (show i = 0 ∨ i = 1 by omega) with rfl | rfl <;> rcases (show j = 0 ∨ j = 1 by omega) with rfl | rfl
      · exact absurd rfl hij
      · first | exact Or.inl (hs _ (by decide +kernel)) | exact Or.inr (hs _ (by decide +kernel))
      · first | exact Or.inl (hs _ (by decide +kernel)) | exact Or.inr (hs _ (by decide +kernel))
      · exact absurd rfl hij
  obtain ⟨sk, sv, hS, hev⟩ := hstr
  refine ⟨w_nests hts, w_tab (f := tDL) (by decide) (hts (.laysStatic "FoldedMenu" "DISH_LOW" "[I") (by decide +kernel)) (hts (.initialized "FoldedMenu") (by decide +kernel)) (hs _ (by decide +kernel)) (hs _ (by decide +kernel)) (fun j hj => by rcases (show j = 0 ∨ j = 1 ∨ j = 2 ∨ j = 3 ∨ j = 4 ∨ j = 5 ∨ j = 6 by omega) with rfl | rfl | rfl | rfl | rfl | rfl | rfl <;> exact hs _ (by decide +kernel)) hA0, w_tab (f := tDH) (by decide) (hts (.laysStatic "FoldedMenu" "DISH_HIGH" "[I") (by decide +kernel)) (hts (.initialized "FoldedMenu") (by decide +kernel)) (hs _ (by decide +kernel)) (hs _ (by decide +kernel)) (fun j hj => by rcases (show j = 0 ∨ j = 1 ∨ j = 2 ∨ j = 3 ∨ j = 4 ∨ j = 5 ∨ j = 6 by omega) with rfl | rfl | rfl | rfl | rfl | rfl | rfl <;> exact hs _ (by decide +kernel)) hA0, w_tab (f := tCL) (by decide) (hts (.laysStatic "FoldedMenu" "CARD_LOW" "[I") (by decide +kernel)) (hts (.initialized "FoldedMenu") (by decide +kernel)) (hs _ (by decide +kernel)) (hs _ (by decide +kernel)) (fun j hj => by rcases (show j = 0 ∨ j = 1 ∨ j = 2 ∨ j = 3 ∨ j = 4 ∨ j = 5 by omega) with rfl | rfl | rfl | rfl | rfl | rfl <;> exact hs _ (by decide +kernel)) hA0, w_tab (f := tCH) (by decide) (hts (.laysStatic "FoldedMenu" "CARD_HIGH" "[I") (by decide +kernel)) (hts (.initialized "FoldedMenu") (by decide +kernel)) (hs _ (by decide +kernel)) (hs _ (by decide +kernel)) (fun j hj => by rcases (show j = 0 ∨ j = 1 ∨ j = 2 ∨ j = 3 ∨ j = 4 ∨ j = 5 by omega) with rfl | rfl | rfl | rfl | rfl | rfl <;> exact hs _ (by decide +kernel)) hA0, sk, sv, va_Zof (hts (.laysStatic "java/lang/String" "COMPACT_STRINGS" "Z") (by decide +kernel)) (hts (.initialized "java/lang/String") (by decide +kernel)) (va_eqi (hs _ (by decide +kernel))) hA0, hS, vk_R.of (hts (.stringRef "FoldedMenu$Reader" 73 "psaw") (by decide +kernel)) ?_, vk_R.of (hts (.stringRef "FoldedMenu$Reader" 79 "abcdefgh") (by decide +kernel)) ?_⟩
  · exact hev 0 (by decide)
  · exact hev 1 (by decide)
/-! ===== the object at the start ===== -/
def m0 : aM := (0, fun _ _ => 0, fun k => ([0, 40, 5, 1, 2, 0] : List Nat).getD k 0, fun c => tb 12 c)
def o0 : aO := ((m0, none, none), [])
theorem wSet0_v : ∀ k, k < 6 → wSet0 k = nI (([0, 40, 5, 1, 2, 0] : List Nat).getD k 0) := by decide +kernel
theorem m0_S : okS m0.2.2.1 := by
  show ∀ k, k < 6 → loC k ≤ ([0, 40, 5, 1, 2, 0] : List Nat).getD k 0 ∧ ([0, 40, 5, 1, 2, 0] : List Nat).getD k 0 ≤ hiC k
  decide +kernel
theorem m0_r : rM sM0 m0 := ⟨⟨Nat.zero_le _, fun d k _ _ => Nat.zero_le _, fun d h => absurd h (Nat.not_lt_zero d)⟩, m0_S, okW_tb 12, rfl, fun d k _ _ => rfl, wSet0_v, (by decide +kernel : (12 : Int32) = nI (wy (fun c => tb 12 c)))⟩
theorem o0_r : rS sS0 ((m0, none, none) : aS) := ⟨m0_r, rfl, fun m h => (by cases h), fun m h => (by cases h)⟩
theorem o0_g (sa : Nat → Nat → Nat) : Good o0 (sS0, (fun _ => sS0), sa, 0, (fun _ => 0), wSet0, 0, 12, (fun _ => 0), (fun _ => 0), 0, 0, 0, (fun _ => 0), (fun _ => 0), (fun _ => 0), 0, 0, 0, 0, 0, (fun _ _ => 0), (fun _ => 0), (fun _ => 0), 0, 0, (fun _ _ => 0), (fun _ => 0), (fun _ => 0), 0, 0, (fun _ => 0), (fun _ => 0), (fun _ => 0), (fun _ => 0), 0, 0, 0, (fun _ _ => 0), (fun _ => 0), 0, 0, 0) := ⟨o0_r, rfl, ⟨Nat.zero_le _, fun j v h => (by cases h)⟩, rfl⟩

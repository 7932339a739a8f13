/-- addresses one behind another -/
def w_app (n : Nat) (f g : Nat → Nat) : Nat → Nat := fun i => if i < n then f i else g (i - n)
theorem w_cy {s : State} {c1 c2 : ClassId} {ty : FieldType} (h1 : va_RA s c1 ty) (h2 : va_RA s c2 ty) : c1 = c2 := by
  cases ty with
  | object C =>
    obtain ⟨_, _, _, _, _, h1⟩ := h1
    obtain ⟨_, _, _, _, _, h2⟩ := h2
    exact Option.some.inj (h1.symm.trans h2)
  | _ => exact Option.some.inj (Eq.trans (Eq.symm h1) h2)
theorem w_AOAm {t : FieldType} {u U : State} (hvm : u.vm.Alike U.vm) (h : va_AOA t u) : va_AOA t U := by
  have h0 : ((u.vm.findClass (FieldType.array t).toString).bind (fun comp => (u.vm.classes.findIdx? fun (x : Class) => match x.kind with | .array component _ => component == comp | _ => false).bind (fun c => (u.vm.classes[c]?).map fun (k : Class) => match k.kind with | .array _ ty => decide (ty = FieldType.array t) && decide (u.vm.findClass ("[" ++ (FieldType.array t).toString) = some c) | _ => false)) == some true) = true := h
  show ((U.vm.findClass (FieldType.array t).toString).bind (fun comp => (U.vm.classes.findIdx? fun (x : Class) => match x.kind with | .array component _ => component == comp | _ => false).bind (fun c => (U.vm.classes[c]?).map fun (k : Class) => match k.kind with | .array _ ty => decide (ty = FieldType.array t) && decide (U.vm.findClass ("[" ++ (FieldType.array t).toString) = some c) | _ => false)) == some true) = true
  rw [hvm.findClass, hvm.findClass]
  cases hc : u.vm.findClass (FieldType.array t).toString with
  | none => rw [hc] at h0; exact h0
  | some comp =>
    rw [hc, Option.bind_some] at h0
    rw [Option.bind_some]
    have hb : U.vm.bare = u.vm.bare := by first | exact hvm.bare_eq | exact hvm.bare_eq.symm
    have e1 : (U.vm.classes.findIdx? fun (x : Class) => match x.kind with | .array component _ => component == comp | _ => false) = (u.vm.classes.findIdx? fun (x : Class) => match x.kind with | .array component _ => component == comp | _ => false) := by
      refine Eq.trans (va_idx_bare U.vm comp).symm (Eq.trans ?_ (va_idx_bare u.vm comp))
      rw [hb]
    rw [e1]
    cases hi : (u.vm.classes.findIdx? fun (x : Class) => match x.kind with | .array component _ => component == comp | _ => false) with
    | none => rw [hi] at h0; exact h0
    | some c =>
      rw [hi, Option.bind_some] at h0
      rw [Option.bind_some]
      cases hk : u.vm.classes[c]? with
      | none => rw [hk] at h0; cases h0
      | some k =>
        obtain ⟨k', hk', he⟩ := hvm.2.2 _ _ hk
        rw [hk] at h0
        rw [hk', Option.map_some, he]
        exact h0
/-- what the constructors need beside: the classes of the arrays of references -/
def wAO (U : State) : Prop := va_AO "FoldedMenu$Menu" U ∧ va_AO "FoldedMenu$State" U ∧ va_AOA .int U ∧ va_AOA .long U
theorem wAO.moved {u U : State} (hvm : u.vm.Alike U.vm) (h : wAO u) : wAO U := ⟨h.1.moved hvm, h.2.1.moved hvm, w_AOAm hvm h.2.2.1, w_AOAm hvm h.2.2.2⟩
/-- a constructor's start -/
def wPC (av : List Value) (sz : Nat) (D : va_G) (cy : Nat → ClassId) (ws : va_W) : Array Value → State → Prop := fun v U => wPM av sz D cy ws v U ∧ wAO U
theorem wPC.blind {av : List Value} {sz : Nat} {D : va_G} {cy : Nat → ClassId} {ws : va_W} : FrameBlind (wPC av sz D cy ws) := fun a U g mk q => ⟨wPM.blind a U g mk q.1, q.2.moved (Vm.Alike.refl U.vm)⟩
section WCTOR
variable {p : Program} {l : Launch} {e : Env} {R : Room} {s : State} {m : MethodId} {args : Array Value} {below : List Frame} {meth : Method} {c : Code} {H : Heap} {locs : List Loc} {cells slots mc ms : Nat} {Q : State → Prop}
variable {pc : Nat} {ls : Array Slot} {rest st0 : List Value} {a : Array Value} {A0 A : Nat → Prop} {H0 : Heap} {D : va_G} {cy : Nat → ClassId} {ws wc wr : va_W}
theorem w_callC {post : va_W → Prop} (hP : va_P D vwCl ws H) (hD : va_D A0 ws) (hS : va_S A0 H0 H locs) (hA : ∀ q, H0.size ≤ q → A0 q) (isC isR : List Nat) (hC : isC.map (fun i => ws[i]?) = wc.map some) (hR : isR.map (fun i => ws[i]?) = wr.map some) (hn : va_nd isR = true) (hdis : ∀ i ∈ isR, i ∉ isC)
    (hr : va_Run p l e R s m args below meth c H locs cells slots mc ms (F0 m pc ls st0) rest (wQV post H.size D wc a) (va_A wc H.size))
    (kk : ∀ (u : va_W) (H1 : Heap) (locs1 : List Loc), post u → va_P D vwCl (wr ++ u) H1 → va_D A0 (wr ++ u) → va_S A0 H0 H1 locs1 → W p l e R s m args below meth c H1 locs1 (cells + mc) (slots + ms) Q (F0 m (pc + 3) ls rest)) : W p l e R s m args below meth c H locs cells slots Q (F0 m pc ls st0) := by
  have hF := va_free (wc := wc) hD hS hA isC hC
  refine va_callv hr hS (fun q _ z => hF q z) hF (fun u t H1 locs1 ht _ hp hB _ hk hS1 => ?_)
  obtain ⟨hP1, hD1⟩ := hB
  rw [ht] at hP1
  obtain ⟨hP2, hD2⟩ := va_join (wr := wr) (w1 := u) hP hD isC isR hC hR hn hdis hk hF hP1 hD1
  exact kk u H1 locs1 hp hP2 hD2 hS1
theorem w_preIC {As : List Value} (hO : wAO s) (hE : wEnv A s s.heap) (hS : va_S A s.heap H locs) (hA : ∀ q, s.heap.size ≤ q → A q) (hK : va_K D vwCl (wTy cy) s) (hP : va_P D vwCl ws H) (hD : va_D A ws) (isC : List Nat) (hC : isC.map (fun i => ws[i]?) = wc.map some) (hCf : isC.filterMap (fun i => ws[i]?) = wc) (hnd : va_nd isC = true) : PreS s H (wPC As H.size D cy wc) As :=
  ⟨wPC.blind, fun _ hU hW => ⟨⟨rfl, by rw [hU], by rw [hU]; exact hE.pass hS hW (va_free hD hS hA isC hC), by rw [hU]; exact hP.sub isC hCf, va_K.moved hW.alike hK, (hD.sub isC hnd hC).weaken (fun _ _ _ _ => trivial)⟩, hO.moved hW.alike⟩⟩
end WCTOR
/-- rows that were made together, spelled out -/
theorem w_rows {l : List Nat} {f : Nat → va_E} {e : va_E} : va_pl l (vr_up f l e) = l.map (fun a => (a, e)) := by
  unfold va_pl
  exact List.map_congr_left (fun a ha => by rw [vr_up_in ha])

/-- a fresh menu, a fresh state -/
def wSet0 : Nat → Int32 := upd (upd (upd (upd (upd (upd (fun _ => 0) (Int32.toNatClampNeg 0) 0) (Int32.toNatClampNeg 1) 40) (Int32.toNatClampNeg 2) 5) (Int32.toNatClampNeg 3) 1) (Int32.toNatClampNeg 4) 2) (Int32.toNatClampNeg 5) 0
abbrev sM0 : sM := (fun _ => 0, wSet0, 0, 12)
abbrev sS0 : sS := (sM0, sM0, sM0, 0)
/-- the whole tree of an object of FoldedMenu$Menu -/
abbrev wX3 (cy : Nat → ClassId) (t : Nat → Nat) (t_values : Nat → Int32) (t_settings : Nat → Int32) (t_dishes : Int32) (t_way : Int32) : va_W := [(t 0, .inr (3, [.ref (t 1), .ref (t 2), .int t_dishes, .int t_way])), (t 1, .inl (cy 0, 140, .inl t_values)), (t 2, .inl (cy 0, 6, .inl t_settings))]
/-- the whole tree of an object of FoldedMenu$State -/
abbrev wX7 (cy : Nat → ClassId) (t : Nat → Nat) (t_S : sS) : va_W := [(t 0, .inr (7, [.ref (t 1), .ref (t 4), .int t_S.2.2.2])), (t 1, .inr (3, [.ref (t 2), .ref (t 3), .int t_S.1.2.2.1, .int t_S.1.2.2.2])), (t 2, .inl (cy 0, 140, .inl t_S.1.1)), (t 3, .inl (cy 0, 6, .inl t_S.1.2.1)), (t 4, .inl (cy 2, 2, .inr (.inr (.inr (.inr (fun j => if j = 0 then some (t 5) else if j = 1 then some (t 8) else none)))))), (t 5, .inr (3, [.ref (t 6), .ref (t 7), .int t_S.2.1.2.2.1, .int t_S.2.1.2.2.2])), (t 6, .inl (cy 0, 140, .inl t_S.2.1.1)), (t 7, .inl (cy 0, 6, .inl t_S.2.1.2.1)), (t 8, .inr (3, [.ref (t 9), .ref (t 10), .int t_S.2.2.1.2.2.1, .int t_S.2.2.1.2.2.2])), (t 9, .inl (cy 0, 140, .inl t_S.2.2.1.1)), (t 10, .inl (cy 0, 6, .inl t_S.2.2.1.2.1))]
/-- the whole tree of an object of FoldedMenu$History -/
abbrev wX2 (cy : Nat → ClassId) (t : Nat → Nat) (t_h : Nat → sS) (t_sa : Nat → Nat → Nat) (t_size : Int32) : va_W := [(t 0, .inr (2, [.ref (t 1), .int t_size])), (t 1, .inl (cy 3, 5, .inr (.inr (.inr (.inr (fun j => if j < 5 then some (t_sa j 0) else none)))))), ((t_sa 0) 0, .inr (7, [.ref ((t_sa 0) 1), .ref ((t_sa 0) 4), .int (t_h 0).2.2.2])), ((t_sa 0) 1, .inr (3, [.ref ((t_sa 0) 2), .ref ((t_sa 0) 3), .int (t_h 0).1.2.2.1, .int (t_h 0).1.2.2.2])), ((t_sa 0) 2, .inl (cy 0, 140, .inl (t_h 0).1.1)), ((t_sa 0) 3, .inl (cy 0, 6, .inl (t_h 0).1.2.1)), ((t_sa 0) 4, .inl (cy 2, 2, .inr (.inr (.inr (.inr (fun j => if j = 0 then some ((t_sa 0) 5) else if j = 1 then some ((t_sa 0) 8) else none)))))), ((t_sa 0) 5, .inr (3, [.ref ((t_sa 0) 6), .ref ((t_sa 0) 7), .int (t_h 0).2.1.2.2.1, .int (t_h 0).2.1.2.2.2])), ((t_sa 0) 6, .inl (cy 0, 140, .inl (t_h 0).2.1.1)), ((t_sa 0) 7, .inl (cy 0, 6, .inl (t_h 0).2.1.2.1)), ((t_sa 0) 8, .inr (3, [.ref ((t_sa 0) 9), .ref ((t_sa 0) 10), .int (t_h 0).2.2.1.2.2.1, .int (t_h 0).2.2.1.2.2.2])), ((t_sa 0) 9, .inl (cy 0, 140, .inl (t_h 0).2.2.1.1)), ((t_sa 0) 10, .inl (cy 0, 6, .inl (t_h 0).2.2.1.2.1)), ((t_sa 1) 0, .inr (7, [.ref ((t_sa 1) 1), .ref ((t_sa 1) 4), .int (t_h 1).2.2.2])), ((t_sa 1) 1, .inr (3, [.ref ((t_sa 1) 2), .ref ((t_sa 1) 3), .int (t_h 1).1.2.2.1, .int (t_h 1).1.2.2.2])), ((t_sa 1) 2, .inl (cy 0, 140, .inl (t_h 1).1.1)), ((t_sa 1) 3, .inl (cy 0, 6, .inl (t_h 1).1.2.1)), ((t_sa 1) 4, .inl (cy 2, 2, .inr (.inr (.inr (.inr (fun j => if j = 0 then some ((t_sa 1) 5) else if j = 1 then some ((t_sa 1) 8) else none)))))), ((t_sa 1) 5, .inr (3, [.ref ((t_sa 1) 6), .ref ((t_sa 1) 7), .int (t_h 1).2.1.2.2.1, .int (t_h 1).2.1.2.2.2])), ((t_sa 1) 6, .inl (cy 0, 140, .inl (t_h 1).2.1.1)), ((t_sa 1) 7, .inl (cy 0, 6, .inl (t_h 1).2.1.2.1)), ((t_sa 1) 8, .inr (3, [.ref ((t_sa 1) 9), .ref ((t_sa 1) 10), .int (t_h 1).2.2.1.2.2.1, .int (t_h 1).2.2.1.2.2.2])), ((t_sa 1) 9, .inl (cy 0, 140, .inl (t_h 1).2.2.1.1)), ((t_sa 1) 10, .inl (cy 0, 6, .inl (t_h 1).2.2.1.2.1)), ((t_sa 2) 0, .inr (7, [.ref ((t_sa 2) 1), .ref ((t_sa 2) 4), .int (t_h 2).2.2.2])), ((t_sa 2) 1, .inr (3, [.ref ((t_sa 2) 2), .ref ((t_sa 2) 3), .int (t_h 2).1.2.2.1, .int (t_h 2).1.2.2.2])), ((t_sa 2) 2, .inl (cy 0, 140, .inl (t_h 2).1.1)), ((t_sa 2) 3, .inl (cy 0, 6, .inl (t_h 2).1.2.1)), ((t_sa 2) 4, .inl (cy 2, 2, .inr (.inr (.inr (.inr (fun j => if j = 0 then some ((t_sa 2) 5) else if j = 1 then some ((t_sa 2) 8) else none)))))), ((t_sa 2) 5, .inr (3, [.ref ((t_sa 2) 6), .ref ((t_sa 2) 7), .int (t_h 2).2.1.2.2.1, .int (t_h 2).2.1.2.2.2])), ((t_sa 2) 6, .inl (cy 0, 140, .inl (t_h 2).2.1.1)), ((t_sa 2) 7, .inl (cy 0, 6, .inl (t_h 2).2.1.2.1)), ((t_sa 2) 8, .inr (3, [.ref ((t_sa 2) 9), .ref ((t_sa 2) 10), .int (t_h 2).2.2.1.2.2.1, .int (t_h 2).2.2.1.2.2.2])), ((t_sa 2) 9, .inl (cy 0, 140, .inl (t_h 2).2.2.1.1)), ((t_sa 2) 10, .inl (cy 0, 6, .inl (t_h 2).2.2.1.2.1)), ((t_sa 3) 0, .inr (7, [.ref ((t_sa 3) 1), .ref ((t_sa 3) 4), .int (t_h 3).2.2.2])), ((t_sa 3) 1, .inr (3, [.ref ((t_sa 3) 2), .ref ((t_sa 3) 3), .int (t_h 3).1.2.2.1, .int (t_h 3).1.2.2.2])), ((t_sa 3) 2, .inl (cy 0, 140, .inl (t_h 3).1.1)), ((t_sa 3) 3, .inl (cy 0, 6, .inl (t_h 3).1.2.1)), ((t_sa 3) 4, .inl (cy 2, 2, .inr (.inr (.inr (.inr (fun j => if j = 0 then some ((t_sa 3) 5) else if j = 1 then some ((t_sa 3) 8) else none)))))), ((t_sa 3) 5, .inr (3, [.ref ((t_sa 3) 6), .ref ((t_sa 3) 7), .int (t_h 3).2.1.2.2.1, .int (t_h 3).2.1.2.2.2])), ((t_sa 3) 6, .inl (cy 0, 140, .inl (t_h 3).2.1.1)), ((t_sa 3) 7, .inl (cy 0, 6, .inl (t_h 3).2.1.2.1)), ((t_sa 3) 8, .inr (3, [.ref ((t_sa 3) 9), .ref ((t_sa 3) 10), .int (t_h 3).2.2.1.2.2.1, .int (t_h 3).2.2.1.2.2.2])), ((t_sa 3) 9, .inl (cy 0, 140, .inl (t_h 3).2.2.1.1)), ((t_sa 3) 10, .inl (cy 0, 6, .inl (t_h 3).2.2.1.2.1)), ((t_sa 4) 0, .inr (7, [.ref ((t_sa 4) 1), .ref ((t_sa 4) 4), .int (t_h 4).2.2.2])), ((t_sa 4) 1, .inr (3, [.ref ((t_sa 4) 2), .ref ((t_sa 4) 3), .int (t_h 4).1.2.2.1, .int (t_h 4).1.2.2.2])), ((t_sa 4) 2, .inl (cy 0, 140, .inl (t_h 4).1.1)), ((t_sa 4) 3, .inl (cy 0, 6, .inl (t_h 4).1.2.1)), ((t_sa 4) 4, .inl (cy 2, 2, .inr (.inr (.inr (.inr (fun j => if j = 0 then some ((t_sa 4) 5) else if j = 1 then some ((t_sa 4) 8) else none)))))), ((t_sa 4) 5, .inr (3, [.ref ((t_sa 4) 6), .ref ((t_sa 4) 7), .int (t_h 4).2.1.2.2.1, .int (t_h 4).2.1.2.2.2])), ((t_sa 4) 6, .inl (cy 0, 140, .inl (t_h 4).2.1.1)), ((t_sa 4) 7, .inl (cy 0, 6, .inl (t_h 4).2.1.2.1)), ((t_sa 4) 8, .inr (3, [.ref ((t_sa 4) 9), .ref ((t_sa 4) 10), .int (t_h 4).2.2.1.2.2.1, .int (t_h 4).2.2.1.2.2.2])), ((t_sa 4) 9, .inl (cy 0, 140, .inl (t_h 4).2.2.1.1)), ((t_sa 4) 10, .inl (cy 0, 6, .inl (t_h 4).2.2.1.2.1))]
/-- the whole tree of an object of FoldedMenu$Reader -/
abbrev wX5 (cy : Nat → ClassId) (t : Nat → Nat) (t_text : Nat → Int32) (t_item : Nat → Int32) (t_length : Int32) (t_at : Int32) (t_errorAt : Int32) : va_W := [(t 0, .inr (5, [.ref (t 1), .ref (t 2), .int t_length, .int t_at, .int t_errorAt])), (t 1, .inl (cy 0, 140, .inl t_text)), (t 2, .inl (cy 0, 7, .inl t_item))]
/-- the whole tree of an object of FoldedMenu$Printing -/
abbrev wX4 (cy : Nat → ClassId) (t : Nat → Nat) (t_dishes : Nat → Int32) (t_lines : Nat → Int32) (t_weights : Nat → Int32) (t_set : Int32) (t_number : Int32) (t_prices : Int32) (t_allergens : Int32) (t_column : Int32) : va_W := [(t 0, .inr (4, [.ref (t 1), .ref (t 2), .ref (t 3), .int t_set, .int t_number, .int t_prices, .int t_allergens, .int t_column])), (t 1, .inl (cy 0, 4, .inl t_dishes)), (t 2, .inl (cy 0, 4, .inl t_lines)), (t 3, .inl (cy 0, 4, .inl t_weights))]
/-- the whole tree of an object of FoldedMenu$Fold -/
abbrev wX1 (cy : Nat → ClassId) (t : Nat → Nat) (t_parts : Nat → Nat → Int32) (t_weights : Nat → Int32) (t_places : Nat → Int32) (t_keySide : Int32) (t_gap : Int32) : va_W := [(t 0, .inr (1, [.ref (t 1), .ref (t 4), .ref (t 5), .int t_keySide, .int t_gap])), (t 1, .inl (cy 4, 2, .inr (.inr (.inr (.inr (fun j => if j = 0 then some (t 2) else if j = 1 then some (t 3) else none)))))), (t 2, .inl (cy 0, 5, .inl (t_parts 0))), (t 3, .inl (cy 0, 5, .inl (t_parts 1))), (t 4, .inl (cy 0, 2, .inl t_weights)), (t 5, .inl (cy 0, 2, .inl t_places))]
/-- the whole tree of an object of FoldedMenu$Blocks -/
abbrev wX0 (cy : Nat → ClassId) (t : Nat → Nat) (t_kinds : Nat → Int32) (t_numbers : Nat → Int32) (t_starts : Nat → Int32) (t_sizes : Nat → Int32) (t_blockCount : Int32) (t_end : Int32) (t_place : Int32) : va_W := [(t 0, .inr (0, [.ref (t 1), .ref (t 2), .ref (t 3), .ref (t 4), .int t_blockCount, .int t_end, .int t_place])), (t 1, .inl (cy 0, 25, .inl t_kinds)), (t 2, .inl (cy 0, 25, .inl t_numbers)), (t 3, .inl (cy 0, 25, .inl t_starts)), (t 4, .inl (cy 0, 25, .inl t_sizes))]
/-- the whole tree of an object of FoldedMenu$SetFinder -/
abbrev wX6 (cy : Nat → ClassId) (t : Nat → Nat) (t_best : Nat → Nat → Int64) (t_candidates : Nat → Int32) (t_candidateCount : Int32) (t_lineBound : Int32) (t_found : Int64) : va_W := [(t 0, .inr (6, [.ref (t 1), .ref (t 12), .int t_candidateCount, .int t_lineBound, .long t_found])), (t 1, .inl (cy 5, 10, .inr (.inr (.inr (.inr (fun j => if j = 0 then some (t 2) else if j = 1 then some (t 3) else if j = 2 then some (t 4) else if j = 3 then some (t 5) else if j = 4 then some (t 6) else if j = 5 then some (t 7) else if j = 6 then some (t 8) else if j = 7 then some (t 9) else if j = 8 then some (t 10) else if j = 9 then some (t 11) else none)))))), (t 2, .inl (cy 1, 151, .inr (.inl (t_best 0)))), (t 3, .inl (cy 1, 151, .inr (.inl (t_best 1)))), (t 4, .inl (cy 1, 151, .inr (.inl (t_best 2)))), (t 5, .inl (cy 1, 151, .inr (.inl (t_best 3)))), (t 6, .inl (cy 1, 151, .inr (.inl (t_best 4)))), (t 7, .inl (cy 1, 151, .inr (.inl (t_best 5)))), (t 8, .inl (cy 1, 151, .inr (.inl (t_best 6)))), (t 9, .inl (cy 1, 151, .inr (.inl (t_best 7)))), (t 10, .inl (cy 1, 151, .inr (.inl (t_best 8)))), (t 11, .inl (cy 1, 151, .inr (.inl (t_best 9)))), (t 12, .inl (cy 0, 20, .inl t_candidates))]
/-- the whole tree of an object of FoldedMenu -/
abbrev wX8 (cy : Nat → ClassId) (t : Nat → Nat) (t_state_S : sS) (t_history_h : Nat → sS) (t_history_sa : Nat → Nat → Nat) (t_history_size : Int32) (t_draft_values : Nat → Int32) (t_draft_settings : Nat → Int32) (t_draft_dishes : Int32) (t_draft_way : Int32) (t_reader_text : Nat → Int32) (t_reader_item : Nat → Int32) (t_reader_length : Int32) (t_reader_at : Int32) (t_reader_errorAt : Int32) (t_printing_dishes : Nat → Int32) (t_printing_lines : Nat → Int32) (t_printing_weights : Nat → Int32) (t_printing_set : Int32) (t_printing_number : Int32) (t_printing_prices : Int32) (t_printing_allergens : Int32) (t_printing_column : Int32) (t_fold_parts : Nat → Nat → Int32) (t_fold_weights : Nat → Int32) (t_fold_places : Nat → Int32) (t_fold_keySide : Int32) (t_fold_gap : Int32) (t_otherFold_parts : Nat → Nat → Int32) (t_otherFold_weights : Nat → Int32) (t_otherFold_places : Nat → Int32) (t_otherFold_keySide : Int32) (t_otherFold_gap : Int32) (t_blocks_kinds : Nat → Int32) (t_blocks_numbers : Nat → Int32) (t_blocks_starts : Nat → Int32) (t_blocks_sizes : Nat → Int32) (t_blocks_blockCount : Int32) (t_blocks_end : Int32) (t_blocks_place : Int32) (t_finder_best : Nat → Nat → Int64) (t_finder_candidates : Nat → Int32) (t_finder_candidateCount : Int32) (t_finder_lineBound : Int32) (t_finder_found : Int64) : va_W := [(t 0, .inr (8, [.ref (t 1), .ref (t 12), .ref (t 14), .ref (t 17), .ref (t 20), .ref (t 24), .ref (t 30), .ref (t 36), .ref (t 41)])), (t 1, .inr (7, [.ref (t 2), .ref (t 5), .int t_state_S.2.2.2])), (t 2, .inr (3, [.ref (t 3), .ref (t 4), .int t_state_S.1.2.2.1, .int t_state_S.1.2.2.2])), (t 3, .inl (cy 0, 140, .inl t_state_S.1.1)), (t 4, .inl (cy 0, 6, .inl t_state_S.1.2.1)), (t 5, .inl (cy 2, 2, .inr (.inr (.inr (.inr (fun j => if j = 0 then some (t 6) else if j = 1 then some (t 9) else none)))))), (t 6, .inr (3, [.ref (t 7), .ref (t 8), .int t_state_S.2.1.2.2.1, .int t_state_S.2.1.2.2.2])), (t 7, .inl (cy 0, 140, .inl t_state_S.2.1.1)), (t 8, .inl (cy 0, 6, .inl t_state_S.2.1.2.1)), (t 9, .inr (3, [.ref (t 10), .ref (t 11), .int t_state_S.2.2.1.2.2.1, .int t_state_S.2.2.1.2.2.2])), (t 10, .inl (cy 0, 140, .inl t_state_S.2.2.1.1)), (t 11, .inl (cy 0, 6, .inl t_state_S.2.2.1.2.1)), (t 12, .inr (2, [.ref (t 13), .int t_history_size])), (t 13, .inl (cy 3, 5, .inr (.inr (.inr (.inr (fun j => if j < 5 then some (t_history_sa j 0) else none)))))), (t 14, .inr (3, [.ref (t 15), .ref (t 16), .int t_draft_dishes, .int t_draft_way])), (t 15, .inl (cy 0, 140, .inl t_draft_values)), (t 16, .inl (cy 0, 6, .inl t_draft_settings)), (t 17, .inr (5, [.ref (t 18), .ref (t 19), .int t_reader_length, .int t_reader_at, .int t_reader_errorAt])), (t 18, .inl (cy 0, 140, .inl t_reader_text)), (t 19, .inl (cy 0, 7, .inl t_reader_item)), (t 20, .inr (4, [.ref (t 21), .ref (t 22), .ref (t 23), .int t_printing_set, .int t_printing_number, .int t_printing_prices, .int t_printing_allergens, .int t_printing_column])), (t 21, .inl (cy 0, 4, .inl t_printing_dishes)), (t 22, .inl (cy 0, 4, .inl t_printing_lines)), (t 23, .inl (cy 0, 4, .inl t_printing_weights)), (t 24, .inr (1, [.ref (t 25), .ref (t 28), .ref (t 29), .int t_fold_keySide, .int t_fold_gap])), (t 25, .inl (cy 4, 2, .inr (.inr (.inr (.inr (fun j => if j = 0 then some (t 26) else if j = 1 then some (t 27) else none)))))), (t 26, .inl (cy 0, 5, .inl (t_fold_parts 0))), (t 27, .inl (cy 0, 5, .inl (t_fold_parts 1))), (t 28, .inl (cy 0, 2, .inl t_fold_weights)), (t 29, .inl (cy 0, 2, .inl t_fold_places)), (t 30, .inr (1, [.ref (t 31), .ref (t 34), .ref (t 35), .int t_otherFold_keySide, .int t_otherFold_gap])), (t 31, .inl (cy 4, 2, .inr (.inr (.inr (.inr (fun j => if j = 0 then some (t 32) else if j = 1 then some (t 33) else none)))))), (t 32, .inl (cy 0, 5, .inl (t_otherFold_parts 0))), (t 33, .inl (cy 0, 5, .inl (t_otherFold_parts 1))), (t 34, .inl (cy 0, 2, .inl t_otherFold_weights)), (t 35, .inl (cy 0, 2, .inl t_otherFold_places)), (t 36, .inr (0, [.ref (t 37), .ref (t 38), .ref (t 39), .ref (t 40), .int t_blocks_blockCount, .int t_blocks_end, .int t_blocks_place])), (t 37, .inl (cy 0, 25, .inl t_blocks_kinds)), (t 38, .inl (cy 0, 25, .inl t_blocks_numbers)), (t 39, .inl (cy 0, 25, .inl t_blocks_starts)), (t 40, .inl (cy 0, 25, .inl t_blocks_sizes)), (t 41, .inr (6, [.ref (t 42), .ref (t 53), .int t_finder_candidateCount, .int t_finder_lineBound, .long t_finder_found])), (t 42, .inl (cy 5, 10, .inr (.inr (.inr (.inr (fun j => if j = 0 then some (t 43) else if j = 1 then some (t 44) else if j = 2 then some (t 45) else if j = 3 then some (t 46) else if j = 4 then some (t 47) else if j = 5 then some (t 48) else if j = 6 then some (t 49) else if j = 7 then some (t 50) else if j = 8 then some (t 51) else if j = 9 then some (t 52) else none)))))), (t 43, .inl (cy 1, 151, .inr (.inl (t_finder_best 0)))), (t 44, .inl (cy 1, 151, .inr (.inl (t_finder_best 1)))), (t 45, .inl (cy 1, 151, .inr (.inl (t_finder_best 2)))), (t 46, .inl (cy 1, 151, .inr (.inl (t_finder_best 3)))), (t 47, .inl (cy 1, 151, .inr (.inl (t_finder_best 4)))), (t 48, .inl (cy 1, 151, .inr (.inl (t_finder_best 5)))), (t 49, .inl (cy 1, 151, .inr (.inl (t_finder_best 6)))), (t 50, .inl (cy 1, 151, .inr (.inl (t_finder_best 7)))), (t 51, .inl (cy 1, 151, .inr (.inl (t_finder_best 8)))), (t 52, .inl (cy 1, 151, .inr (.inl (t_finder_best 9)))), (t 53, .inl (cy 0, 20, .inl t_finder_candidates)), ((t_history_sa 0) 0, .inr (7, [.ref ((t_history_sa 0) 1), .ref ((t_history_sa 0) 4), .int (t_history_h 0).2.2.2])), ((t_history_sa 0) 1, .inr (3, [.ref ((t_history_sa 0) 2), .ref ((t_history_sa 0) 3), .int (t_history_h 0).1.2.2.1, .int (t_history_h 0).1.2.2.2])), ((t_history_sa 0) 2, .inl (cy 0, 140, .inl (t_history_h 0).1.1)), ((t_history_sa 0) 3, .inl (cy 0, 6, .inl (t_history_h 0).1.2.1)), ((t_history_sa 0) 4, .inl (cy 2, 2, .inr (.inr (.inr (.inr (fun j => if j = 0 then some ((t_history_sa 0) 5) else if j = 1 then some ((t_history_sa 0) 8) else none)))))), ((t_history_sa 0) 5, .inr (3, [.ref ((t_history_sa 0) 6), .ref ((t_history_sa 0) 7), .int (t_history_h 0).2.1.2.2.1, .int (t_history_h 0).2.1.2.2.2])), ((t_history_sa 0) 6, .inl (cy 0, 140, .inl (t_history_h 0).2.1.1)), ((t_history_sa 0) 7, .inl (cy 0, 6, .inl (t_history_h 0).2.1.2.1)), ((t_history_sa 0) 8, .inr (3, [.ref ((t_history_sa 0) 9), .ref ((t_history_sa 0) 10), .int (t_history_h 0).2.2.1.2.2.1, .int (t_history_h 0).2.2.1.2.2.2])), ((t_history_sa 0) 9, .inl (cy 0, 140, .inl (t_history_h 0).2.2.1.1)), ((t_history_sa 0) 10, .inl (cy 0, 6, .inl (t_history_h 0).2.2.1.2.1)), ((t_history_sa 1) 0, .inr (7, [.ref ((t_history_sa 1) 1), .ref ((t_history_sa 1) 4), .int (t_history_h 1).2.2.2])), ((t_history_sa 1) 1, .inr (3, [.ref ((t_history_sa 1) 2), .ref ((t_history_sa 1) 3), .int (t_history_h 1).1.2.2.1, .int (t_history_h 1).1.2.2.2])), ((t_history_sa 1) 2, .inl (cy 0, 140, .inl (t_history_h 1).1.1)), ((t_history_sa 1) 3, .inl (cy 0, 6, .inl (t_history_h 1).1.2.1)), ((t_history_sa 1) 4, .inl (cy 2, 2, .inr (.inr (.inr (.inr (fun j => if j = 0 then some ((t_history_sa 1) 5) else if j = 1 then some ((t_history_sa 1) 8) else none)))))), ((t_history_sa 1) 5, .inr (3, [.ref ((t_history_sa 1) 6), .ref ((t_history_sa 1) 7), .int (t_history_h 1).2.1.2.2.1, .int (t_history_h 1).2.1.2.2.2])), ((t_history_sa 1) 6, .inl (cy 0, 140, .inl (t_history_h 1).2.1.1)), ((t_history_sa 1) 7, .inl (cy 0, 6, .inl (t_history_h 1).2.1.2.1)), ((t_history_sa 1) 8, .inr (3, [.ref ((t_history_sa 1) 9), .ref ((t_history_sa 1) 10), .int (t_history_h 1).2.2.1.2.2.1, .int (t_history_h 1).2.2.1.2.2.2])), ((t_history_sa 1) 9, .inl (cy 0, 140, .inl (t_history_h 1).2.2.1.1)), ((t_history_sa 1) 10, .inl (cy 0, 6, .inl (t_history_h 1).2.2.1.2.1)), ((t_history_sa 2) 0, .inr (7, [.ref ((t_history_sa 2) 1), .ref ((t_history_sa 2) 4), .int (t_history_h 2).2.2.2])), ((t_history_sa 2) 1, .inr (3, [.ref ((t_history_sa 2) 2), .ref ((t_history_sa 2) 3), .int (t_history_h 2).1.2.2.1, .int (t_history_h 2).1.2.2.2])), ((t_history_sa 2) 2, .inl (cy 0, 140, .inl (t_history_h 2).1.1)), ((t_history_sa 2) 3, .inl (cy 0, 6, .inl (t_history_h 2).1.2.1)), ((t_history_sa 2) 4, .inl (cy 2, 2, .inr (.inr (.inr (.inr (fun j => if j = 0 then some ((t_history_sa 2) 5) else if j = 1 then some ((t_history_sa 2) 8) else none)))))), ((t_history_sa 2) 5, .inr (3, [.ref ((t_history_sa 2) 6), .ref ((t_history_sa 2) 7), .int (t_history_h 2).2.1.2.2.1, .int (t_history_h 2).2.1.2.2.2])), ((t_history_sa 2) 6, .inl (cy 0, 140, .inl (t_history_h 2).2.1.1)), ((t_history_sa 2) 7, .inl (cy 0, 6, .inl (t_history_h 2).2.1.2.1)), ((t_history_sa 2) 8, .inr (3, [.ref ((t_history_sa 2) 9), .ref ((t_history_sa 2) 10), .int (t_history_h 2).2.2.1.2.2.1, .int (t_history_h 2).2.2.1.2.2.2])), ((t_history_sa 2) 9, .inl (cy 0, 140, .inl (t_history_h 2).2.2.1.1)), ((t_history_sa 2) 10, .inl (cy 0, 6, .inl (t_history_h 2).2.2.1.2.1)), ((t_history_sa 3) 0, .inr (7, [.ref ((t_history_sa 3) 1), .ref ((t_history_sa 3) 4), .int (t_history_h 3).2.2.2])), ((t_history_sa 3) 1, .inr (3, [.ref ((t_history_sa 3) 2), .ref ((t_history_sa 3) 3), .int (t_history_h 3).1.2.2.1, .int (t_history_h 3).1.2.2.2])), ((t_history_sa 3) 2, .inl (cy 0, 140, .inl (t_history_h 3).1.1)), ((t_history_sa 3) 3, .inl (cy 0, 6, .inl (t_history_h 3).1.2.1)), ((t_history_sa 3) 4, .inl (cy 2, 2, .inr (.inr (.inr (.inr (fun j => if j = 0 then some ((t_history_sa 3) 5) else if j = 1 then some ((t_history_sa 3) 8) else none)))))), ((t_history_sa 3) 5, .inr (3, [.ref ((t_history_sa 3) 6), .ref ((t_history_sa 3) 7), .int (t_history_h 3).2.1.2.2.1, .int (t_history_h 3).2.1.2.2.2])), ((t_history_sa 3) 6, .inl (cy 0, 140, .inl (t_history_h 3).2.1.1)), ((t_history_sa 3) 7, .inl (cy 0, 6, .inl (t_history_h 3).2.1.2.1)), ((t_history_sa 3) 8, .inr (3, [.ref ((t_history_sa 3) 9), .ref ((t_history_sa 3) 10), .int (t_history_h 3).2.2.1.2.2.1, .int (t_history_h 3).2.2.1.2.2.2])), ((t_history_sa 3) 9, .inl (cy 0, 140, .inl (t_history_h 3).2.2.1.1)), ((t_history_sa 3) 10, .inl (cy 0, 6, .inl (t_history_h 3).2.2.1.2.1)), ((t_history_sa 4) 0, .inr (7, [.ref ((t_history_sa 4) 1), .ref ((t_history_sa 4) 4), .int (t_history_h 4).2.2.2])), ((t_history_sa 4) 1, .inr (3, [.ref ((t_history_sa 4) 2), .ref ((t_history_sa 4) 3), .int (t_history_h 4).1.2.2.1, .int (t_history_h 4).1.2.2.2])), ((t_history_sa 4) 2, .inl (cy 0, 140, .inl (t_history_h 4).1.1)), ((t_history_sa 4) 3, .inl (cy 0, 6, .inl (t_history_h 4).1.2.1)), ((t_history_sa 4) 4, .inl (cy 2, 2, .inr (.inr (.inr (.inr (fun j => if j = 0 then some ((t_history_sa 4) 5) else if j = 1 then some ((t_history_sa 4) 8) else none)))))), ((t_history_sa 4) 5, .inr (3, [.ref ((t_history_sa 4) 6), .ref ((t_history_sa 4) 7), .int (t_history_h 4).2.1.2.2.1, .int (t_history_h 4).2.1.2.2.2])), ((t_history_sa 4) 6, .inl (cy 0, 140, .inl (t_history_h 4).2.1.1)), ((t_history_sa 4) 7, .inl (cy 0, 6, .inl (t_history_h 4).2.1.2.1)), ((t_history_sa 4) 8, .inr (3, [.ref ((t_history_sa 4) 9), .ref ((t_history_sa 4) 10), .int (t_history_h 4).2.2.1.2.2.1, .int (t_history_h 4).2.2.1.2.2.2])), ((t_history_sa 4) 9, .inl (cy 0, 140, .inl (t_history_h 4).2.2.1.1)), ((t_history_sa 4) 10, .inl (cy 0, 6, .inl (t_history_h 4).2.2.1.2.1))]

theorem i_X3_init_X3 : ∀ w ∈ u_ws RX3 TX3 4, w ∈ wsX3_init := by decide +kernel
abbrev r_X3_init : Room := { frames := 1, cells := 2, slots := 146, locals := 32 }
set_option maxHeartbeats 4000000 in
set_option maxRecDepth 100000 in
theorem c_X3_init (l : Launch) (D : va_G) (cy : Nat → ClassId) (h0 : Nat) (sz : Nat) : Met l yX3_init wsX3_init r_X3_init (wPC [.ref h0] sz D cy [(h0, .inr (3, [.null, .null, .int 0, .int 0]))]) (va_Qv (fun u => ∃ (t : Nat → Nat), t 0 = h0 ∧ u = wX3 cy t ((fun _ => 0)) wSet0 0 12) (fun u T9 => va_P D vwCl u T9.heap ∧ va_D (va_A [(h0, .inr (3, [.null, .null, .int 0, .int 0]))] sz) u) (va_A [(h0, .inr (3, [.null, .null, .int 0, .int 0]))] sz)) 2 146 (va_A [(h0, .inr (3, [.null, .null, .int 0, .int 0]))] sz) := by
  refine Met.ofW (cc := cX3_init) (maxL := 1) (ret := none) (by decide) rfl ?_
  intro p e s m args below meth c s₁ B hml hv
  obtain ⟨⟨hargs, hsz, hE, hP, hK, hD0⟩, hO⟩ := hv
  have hx := B.exec
  have hb := B.bytes
  have hr := B.returns
  have hts := atoms_spec (ws := wsX3_init) B.pre
  have hown : s.vm.findClass RX3 = some m.cls := findClass_of_methodNamed B.named
  have hlocks := B.notSynchronized
  have hin : meth.name = "<init>" := (name_of_methodNamed B.named B.method).1
  clear B
  subst hsz
  have hD := hD0.self (sz := s.heap.size)
  generalize hAe : va_A [(h0, .inr (3, [.null, .null, .int 0, .int 0]))] s.heap.size = A at hD hE ⊢
  have hA : ∀ q : Nat, s.heap.size ≤ q → A q := fun q h => by rw [← hAe]; exact Or.inr h
  clear hAe hD0
  have hS : va_S A s.heap s.heap [] := va_S.rf
  show W p l e r_X3_init s m args below meth c s.heap [] 0 0 (MQ below (va_Qv (fun u => ∃ (t : Nat → Nat), t 0 = h0 ∧ u = wX3 cy t ((fun _ => 0)) wSet0 0 12) (fun u T9 => va_P D vwCl u T9.heap ∧ va_D A u) A) args s 2 146 A) (entryFrame m args 1)
  rw [show entryFrame m args 1 = entryFrame m ([.ref h0] : List Value).toArray 1 from by rw [hargs]]
  have hl := lv_entry ([.ref h0]) (n := 1) (Nat.le_of_ble_eq_true rfl)
  rw [lg_entry_eq]
  generalize (lg_sl ([.ref h0]) ++ List.replicate (1 - (lg_sl ([.ref h0])).length) Slot.unset).toArray = ls at hl ⊢
  have hl : lv_has ls 1 [(0, .ref h0)] := hl
  clear hargs
  suffices key : ∀ (H : Heap) (locs : List Loc), va_P D vwCl [(h0, .inr (3, [.null, .null, .int 0, .int 0]))] H → va_D A [(h0, .inr (3, [.null, .null, .int 0, .int 0]))] → va_S A s.heap H locs → W p l e r_X3_init s m args below meth c H locs 0 0 (MQ below (va_Qv (fun u => ∃ (t : Nat → Nat), t 0 = h0 ∧ u = wX3 cy t ((fun _ => 0)) wSet0 0 12) (fun u T9 => va_P D vwCl u T9.heap ∧ va_D A u) A) args s 2 146 A) (F0 m 0 ls []) from key s.heap [] hP hD hS
  clear hP hD hS
  intro H locs hP hD hS
  refine lv_aload_n hx hb dX3_init_0 rfl (lv_at hl 0 rfl) ?_
  refine W.objInit hx hb hown (hts (.methodLink RX3 3 objectInit) (by decide +kernel)) (hts (.instanceMethod objectInit) (by decide +kernel)) (hts (.code objectInit ⟨#[0xb1]⟩ 1 none) (by decide +kernel)) rfl (by rw [hml]; exact hl.1) rfl dX3_init_1 (Nat.le_of_ble_eq_true rfl) (Nat.le_of_ble_eq_true rfl) ?_
  refine W.eq (g2 := F0 m 4 ls []) rfl ?_
  refine lv_aload_n hx hb dX3_init_4 rfl (lv_at hl 0 rfl) ?_
  refine lv_sipush (v := 140) hx hb dX3_init_5 (by decide) ?_
  refine va_newa (atype := .int) (ty := .int) (a0 := (140, .inl (fun _ => 0))) hx hb (hts (.arrayClass .int) (by decide +kernel)) rfl hK hP hD hS hA (fun _ => rfl) (by decide) rfl (Nat.le_of_ble_eq_true rfl) (Nat.le_of_ble_eq_true rfl) (Nat.le_of_ble_eq_true rfl) dX3_init_8 (fun q1 cA H hK hP hD hS => ?_)
  obtain rfl : cA = cy 0 := w_cy (hK.2 6 _ rfl).2 (hK.2 0 _ rfl).2
  have hK := hK.sub (tys' := wTy cy) [0, 1, 2, 3, 4, 5] rfl
  have hP : va_P D vwCl ([(h0, .inr (3, [.null, .null, .int 0, .int 0])), (q1, .inl (cy 0, 140, .inl (fun _ => 0)))] : va_W) H := hP
  have hD : va_D A ([(h0, .inr (3, [.null, .null, .int 0, .int 0])), (q1, .inl (cy 0, 140, .inl (fun _ => 0)))] : va_W) := hD
  refine W.widen (k := 1) (n := 140) (by omega) (by omega) ?_
  refine va_putF (D := D) (ci := 3) (v := .ref q1) (ty := .array .int) (C := RX3) (T := TX3) (N := 4) hx hb hts i_X3_init_X3 tyX3 tyX3_ok nmX3 hown hK hP hD hS 0 rfl rfl 0 (by decide) (hts (.fieldLink RX3 9 "FoldedMenu$Menu" "values" "[I") (by decide +kernel)) (fun _ h9 => h9) rfl hin rfl (by decide +kernel) rfl rfl (Nat.le_of_ble_eq_true rfl) dX3_init_10 (fun H locs hP hD hS => ?_)
  have hP : va_P D vwCl ([(h0, .inr (3, [.ref q1, .null, .int 0, .int 0])), (q1, .inl (cy 0, 140, .inl (fun _ => 0)))] : va_W) H := hP
  have hD : va_D A ([(h0, .inr (3, [.ref q1, .null, .int 0, .int 0])), (q1, .inl (cy 0, 140, .inl (fun _ => 0)))] : va_W) := hD
  refine lv_aload_n hx hb dX3_init_13 rfl (lv_at hl 0 rfl) ?_
  refine lv_bipush (v := 6) hx hb dX3_init_14 (by decide) ?_
  refine va_newa (atype := .int) (ty := .int) (a0 := (6, .inl (fun _ => 0))) hx hb (hts (.arrayClass .int) (by decide +kernel)) rfl hK hP hD hS hA (fun _ => rfl) (by decide) rfl (Nat.le_of_ble_eq_true rfl) (Nat.le_of_ble_eq_true rfl) (Nat.le_of_ble_eq_true rfl) dX3_init_16 (fun q2 cA H hK hP hD hS => ?_)
  obtain rfl : cA = cy 0 := w_cy (hK.2 6 _ rfl).2 (hK.2 0 _ rfl).2
  have hK := hK.sub (tys' := wTy cy) [0, 1, 2, 3, 4, 5] rfl
  have hP : va_P D vwCl ([(h0, .inr (3, [.ref q1, .null, .int 0, .int 0])), (q1, .inl (cy 0, 140, .inl (fun _ => 0))), (q2, .inl (cy 0, 6, .inl (fun _ => 0)))] : va_W) H := hP
  have hD : va_D A ([(h0, .inr (3, [.ref q1, .null, .int 0, .int 0])), (q1, .inl (cy 0, 140, .inl (fun _ => 0))), (q2, .inl (cy 0, 6, .inl (fun _ => 0)))] : va_W) := hD
  refine W.widen (k := 2) (n := 146) (by omega) (by omega) ?_
  refine lv_dup hx hb dX3_init_18 rfl ?_
  refine lv_iconst (v := 0) hx hb dX3_init_19 (by decide) ?_
  refine lv_iconst (v := 0) hx hb dX3_init_20 (by decide) ?_
  refine va_iast hx hb hK hP hD hS 2 0 rfl rfl (show ¬ ((0 : Int32) < 0 ∨ 6 ≤ Int32.toNatClampNeg 0) from by decide) dX3_init_21 (fun H locs hP hD hS => ?_)
  have hP : va_P D vwCl ([(h0, .inr (3, [.ref q1, .null, .int 0, .int 0])), (q1, .inl (cy 0, 140, .inl (fun _ => 0))), (q2, .inl (cy 0, 6, .inl (upd (fun _ => 0) (Int32.toNatClampNeg 0) 0)))] : va_W) H := hP
  have hD : va_D A ([(h0, .inr (3, [.ref q1, .null, .int 0, .int 0])), (q1, .inl (cy 0, 140, .inl (fun _ => 0))), (q2, .inl (cy 0, 6, .inl (upd (fun _ => 0) (Int32.toNatClampNeg 0) 0)))] : va_W) := hD
  refine lv_dup hx hb dX3_init_22 rfl ?_
  refine lv_iconst (v := 1) hx hb dX3_init_23 (by decide) ?_
  refine lv_bipush (v := 40) hx hb dX3_init_24 (by decide) ?_
  refine va_iast hx hb hK hP hD hS 2 0 rfl rfl (show ¬ ((1 : Int32) < 0 ∨ 6 ≤ Int32.toNatClampNeg 1) from by decide) dX3_init_26 (fun H locs hP hD hS => ?_)
  have hP : va_P D vwCl ([(h0, .inr (3, [.ref q1, .null, .int 0, .int 0])), (q1, .inl (cy 0, 140, .inl (fun _ => 0))), (q2, .inl (cy 0, 6, .inl (upd (upd (fun _ => 0) (Int32.toNatClampNeg 0) 0) (Int32.toNatClampNeg 1) 40)))] : va_W) H := hP
  have hD : va_D A ([(h0, .inr (3, [.ref q1, .null, .int 0, .int 0])), (q1, .inl (cy 0, 140, .inl (fun _ => 0))), (q2, .inl (cy 0, 6, .inl (upd (upd (fun _ => 0) (Int32.toNatClampNeg 0) 0) (Int32.toNatClampNeg 1) 40)))] : va_W) := hD
  refine lv_dup hx hb dX3_init_27 rfl ?_
  refine lv_iconst (v := 2) hx hb dX3_init_28 (by decide) ?_
  refine lv_iconst (v := 5) hx hb dX3_init_29 (by decide) ?_
  refine va_iast hx hb hK hP hD hS 2 0 rfl rfl (show ¬ ((2 : Int32) < 0 ∨ 6 ≤ Int32.toNatClampNeg 2) from by decide) dX3_init_30 (fun H locs hP hD hS => ?_)
  have hP : va_P D vwCl ([(h0, .inr (3, [.ref q1, .null, .int 0, .int 0])), (q1, .inl (cy 0, 140, .inl (fun _ => 0))), (q2, .inl (cy 0, 6, .inl (upd (upd (upd (fun _ => 0) (Int32.toNatClampNeg 0) 0) (Int32.toNatClampNeg 1) 40) (Int32.toNatClampNeg 2) 5)))] : va_W) H := hP
  have hD : va_D A ([(h0, .inr (3, [.ref q1, .null, .int 0, .int 0])), (q1, .inl (cy 0, 140, .inl (fun _ => 0))), (q2, .inl (cy 0, 6, .inl (upd (upd (upd (fun _ => 0) (Int32.toNatClampNeg 0) 0) (Int32.toNatClampNeg 1) 40) (Int32.toNatClampNeg 2) 5)))] : va_W) := hD
  refine lv_dup hx hb dX3_init_31 rfl ?_
  refine lv_iconst (v := 3) hx hb dX3_init_32 (by decide) ?_
  refine lv_iconst (v := 1) hx hb dX3_init_33 (by decide) ?_
  refine va_iast hx hb hK hP hD hS 2 0 rfl rfl (show ¬ ((3 : Int32) < 0 ∨ 6 ≤ Int32.toNatClampNeg 3) from by decide) dX3_init_34 (fun H locs hP hD hS => ?_)
  have hP : va_P D vwCl ([(h0, .inr (3, [.ref q1, .null, .int 0, .int 0])), (q1, .inl (cy 0, 140, .inl (fun _ => 0))), (q2, .inl (cy 0, 6, .inl (upd (upd (upd (upd (fun _ => 0) (Int32.toNatClampNeg 0) 0) (Int32.toNatClampNeg 1) 40) (Int32.toNatClampNeg 2) 5) (Int32.toNatClampNeg 3) 1)))] : va_W) H := hP
  have hD : va_D A ([(h0, .inr (3, [.ref q1, .null, .int 0, .int 0])), (q1, .inl (cy 0, 140, .inl (fun _ => 0))), (q2, .inl (cy 0, 6, .inl (upd (upd (upd (upd (fun _ => 0) (Int32.toNatClampNeg 0) 0) (Int32.toNatClampNeg 1) 40) (Int32.toNatClampNeg 2) 5) (Int32.toNatClampNeg 3) 1)))] : va_W) := hD
  refine lv_dup hx hb dX3_init_35 rfl ?_
  refine lv_iconst (v := 4) hx hb dX3_init_36 (by decide) ?_
  refine lv_iconst (v := 2) hx hb dX3_init_37 (by decide) ?_
  refine va_iast hx hb hK hP hD hS 2 0 rfl rfl (show ¬ ((4 : Int32) < 0 ∨ 6 ≤ Int32.toNatClampNeg 4) from by decide) dX3_init_38 (fun H locs hP hD hS => ?_)
  have hP : va_P D vwCl ([(h0, .inr (3, [.ref q1, .null, .int 0, .int 0])), (q1, .inl (cy 0, 140, .inl (fun _ => 0))), (q2, .inl (cy 0, 6, .inl (upd (upd (upd (upd (upd (fun _ => 0) (Int32.toNatClampNeg 0) 0) (Int32.toNatClampNeg 1) 40) (Int32.toNatClampNeg 2) 5) (Int32.toNatClampNeg 3) 1) (Int32.toNatClampNeg 4) 2)))] : va_W) H := hP
  have hD : va_D A ([(h0, .inr (3, [.ref q1, .null, .int 0, .int 0])), (q1, .inl (cy 0, 140, .inl (fun _ => 0))), (q2, .inl (cy 0, 6, .inl (upd (upd (upd (upd (upd (fun _ => 0) (Int32.toNatClampNeg 0) 0) (Int32.toNatClampNeg 1) 40) (Int32.toNatClampNeg 2) 5) (Int32.toNatClampNeg 3) 1) (Int32.toNatClampNeg 4) 2)))] : va_W) := hD
  refine lv_dup hx hb dX3_init_39 rfl ?_
  refine lv_iconst (v := 5) hx hb dX3_init_40 (by decide) ?_
  refine lv_iconst (v := 0) hx hb dX3_init_41 (by decide) ?_
  refine va_iast hx hb hK hP hD hS 2 0 rfl rfl (show ¬ ((5 : Int32) < 0 ∨ 6 ≤ Int32.toNatClampNeg 5) from by decide) dX3_init_42 (fun H locs hP hD hS => ?_)
  have hP : va_P D vwCl ([(h0, .inr (3, [.ref q1, .null, .int 0, .int 0])), (q1, .inl (cy 0, 140, .inl (fun _ => 0))), (q2, .inl (cy 0, 6, .inl (upd (upd (upd (upd (upd (upd (fun _ => 0) (Int32.toNatClampNeg 0) 0) (Int32.toNatClampNeg 1) 40) (Int32.toNatClampNeg 2) 5) (Int32.toNatClampNeg 3) 1) (Int32.toNatClampNeg 4) 2) (Int32.toNatClampNeg 5) 0)))] : va_W) H := hP
  have hD : va_D A ([(h0, .inr (3, [.ref q1, .null, .int 0, .int 0])), (q1, .inl (cy 0, 140, .inl (fun _ => 0))), (q2, .inl (cy 0, 6, .inl (upd (upd (upd (upd (upd (upd (fun _ => 0) (Int32.toNatClampNeg 0) 0) (Int32.toNatClampNeg 1) 40) (Int32.toNatClampNeg 2) 5) (Int32.toNatClampNeg 3) 1) (Int32.toNatClampNeg 4) 2) (Int32.toNatClampNeg 5) 0)))] : va_W) := hD
  refine va_putF (D := D) (ci := 3) (v := .ref q2) (ty := .array .int) (C := RX3) (T := TX3) (N := 4) hx hb hts i_X3_init_X3 tyX3 tyX3_ok nmX3 hown hK hP hD hS 0 rfl rfl 1 (by decide) (hts (.fieldLink RX3 15 "FoldedMenu$Menu" "settings" "[I") (by decide +kernel)) (fun _ h9 => h9) rfl hin rfl (by decide +kernel) rfl rfl (Nat.le_of_ble_eq_true rfl) dX3_init_43 (fun H locs hP hD hS => ?_)
  have hP : va_P D vwCl ([(h0, .inr (3, [.ref q1, .ref q2, .int 0, .int 0])), (q1, .inl (cy 0, 140, .inl (fun _ => 0))), (q2, .inl (cy 0, 6, .inl (upd (upd (upd (upd (upd (upd (fun _ => 0) (Int32.toNatClampNeg 0) 0) (Int32.toNatClampNeg 1) 40) (Int32.toNatClampNeg 2) 5) (Int32.toNatClampNeg 3) 1) (Int32.toNatClampNeg 4) 2) (Int32.toNatClampNeg 5) 0)))] : va_W) H := hP
  have hD : va_D A ([(h0, .inr (3, [.ref q1, .ref q2, .int 0, .int 0])), (q1, .inl (cy 0, 140, .inl (fun _ => 0))), (q2, .inl (cy 0, 6, .inl (upd (upd (upd (upd (upd (upd (fun _ => 0) (Int32.toNatClampNeg 0) 0) (Int32.toNatClampNeg 1) 40) (Int32.toNatClampNeg 2) 5) (Int32.toNatClampNeg 3) 1) (Int32.toNatClampNeg 4) 2) (Int32.toNatClampNeg 5) 0)))] : va_W) := hD
  refine lv_aload_n hx hb dX3_init_46 rfl (lv_at hl 0 rfl) ?_
  refine lv_iconst (v := 0) hx hb dX3_init_47 (by decide) ?_
  refine va_put (D := D) (ci := 3) (v := .int 0) (ty := .int) (C := RX3) (T := TX3) (N := 4) hx hb hts i_X3_init_X3 tyX3 tyX3_ok nmX3 hown hK hP hD hS 0 rfl rfl 2 (by decide) (hts (.fieldLink RX3 18 "FoldedMenu$Menu" "dishes" "I") (by decide +kernel)) (fun _ h9 => h9) rfl (by decide +kernel) rfl rfl (Nat.le_of_ble_eq_true rfl) dX3_init_48 (fun H locs hP hD hS => ?_)
  have hP : va_P D vwCl ([(h0, .inr (3, [.ref q1, .ref q2, .int 0, .int 0])), (q1, .inl (cy 0, 140, .inl (fun _ => 0))), (q2, .inl (cy 0, 6, .inl (upd (upd (upd (upd (upd (upd (fun _ => 0) (Int32.toNatClampNeg 0) 0) (Int32.toNatClampNeg 1) 40) (Int32.toNatClampNeg 2) 5) (Int32.toNatClampNeg 3) 1) (Int32.toNatClampNeg 4) 2) (Int32.toNatClampNeg 5) 0)))] : va_W) H := hP
  have hD : va_D A ([(h0, .inr (3, [.ref q1, .ref q2, .int 0, .int 0])), (q1, .inl (cy 0, 140, .inl (fun _ => 0))), (q2, .inl (cy 0, 6, .inl (upd (upd (upd (upd (upd (upd (fun _ => 0) (Int32.toNatClampNeg 0) 0) (Int32.toNatClampNeg 1) 40) (Int32.toNatClampNeg 2) 5) (Int32.toNatClampNeg 3) 1) (Int32.toNatClampNeg 4) 2) (Int32.toNatClampNeg 5) 0)))] : va_W) := hD
  refine lv_aload_n hx hb dX3_init_51 rfl (lv_at hl 0 rfl) ?_
  refine lv_bipush (v := 12) hx hb dX3_init_52 (by decide) ?_
  refine va_put (D := D) (ci := 3) (v := .int 12) (ty := .int) (C := RX3) (T := TX3) (N := 4) hx hb hts i_X3_init_X3 tyX3 tyX3_ok nmX3 hown hK hP hD hS 0 rfl rfl 3 (by decide) (hts (.fieldLink RX3 22 "FoldedMenu$Menu" "way" "I") (by decide +kernel)) (fun _ h9 => h9) rfl (by decide +kernel) rfl rfl (Nat.le_of_ble_eq_true rfl) dX3_init_54 (fun H locs hP hD hS => ?_)
  have hP : va_P D vwCl ([(h0, .inr (3, [.ref q1, .ref q2, .int 0, .int 12])), (q1, .inl (cy 0, 140, .inl (fun _ => 0))), (q2, .inl (cy 0, 6, .inl (upd (upd (upd (upd (upd (upd (fun _ => 0) (Int32.toNatClampNeg 0) 0) (Int32.toNatClampNeg 1) 40) (Int32.toNatClampNeg 2) 5) (Int32.toNatClampNeg 3) 1) (Int32.toNatClampNeg 4) 2) (Int32.toNatClampNeg 5) 0)))] : va_W) H := hP
  have hD : va_D A ([(h0, .inr (3, [.ref q1, .ref q2, .int 0, .int 12])), (q1, .inl (cy 0, 140, .inl (fun _ => 0))), (q2, .inl (cy 0, 6, .inl (upd (upd (upd (upd (upd (upd (fun _ => 0) (Int32.toNatClampNeg 0) 0) (Int32.toNatClampNeg 1) 40) (Int32.toNatClampNeg 2) 5) (Int32.toNatClampNeg 3) 1) (Int32.toNatClampNeg 4) 2) (Int32.toNatClampNeg 5) 0)))] : va_W) := hD
  have hP := hP.sub (ws' := wX3 cy (w_app 1 (fun _ => h0) (w_app 1 (fun _ => q1) ((fun _ => q2)))) ((fun _ => 0)) wSet0 0 12) [0, 1, 2] rfl
  have hD := hD.sub (ws' := wX3 cy (w_app 1 (fun _ => h0) (w_app 1 (fun _ => q1) ((fun _ => q2)))) ((fun _ => 0)) wSet0 0 12) [0, 1, 2] (by decide) rfl
  exact W.vret hx hb hr (fun T9 ht _ => ⟨⟨_, rfl, ⟨(w_app 1 (fun _ => h0) (w_app 1 (fun _ => q1) ((fun _ => q2)))), rfl, rfl⟩, by rw [ht]; exact hP, hD⟩, hS.F ht⟩) hS.2.2 dX3_init_57

theorem i_X7_init_X3 : ∀ w ∈ u_ws RX3 TX3 4, w ∈ wsX7_init := by decide +kernel
theorem i_X7_init_X7 : ∀ w ∈ u_ws RX7 TX7 3, w ∈ wsX7_init := by decide +kernel
abbrev r_X7_init : Room := { frames := 2, cells := 10, slots := 452, locals := 52 }
set_option maxHeartbeats 4000000 in
set_option maxRecDepth 100000 in
theorem c_X7_init (l : Launch) (D : va_G) (cy : Nat → ClassId) (h0 : Nat) (sz : Nat) : Met l yX7_init wsX7_init r_X7_init (wPC [.ref h0] sz D cy [(h0, .inr (7, [.null, .null, .int 0]))]) (va_Qv (fun u => ∃ (t : Nat → Nat), t 0 = h0 ∧ u = wX7 cy t sS0) (fun u T9 => va_P D vwCl u T9.heap ∧ va_D (va_A [(h0, .inr (7, [.null, .null, .int 0]))] sz) u) (va_A [(h0, .inr (7, [.null, .null, .int 0]))] sz)) 10 452 (va_A [(h0, .inr (7, [.null, .null, .int 0]))] sz) := by
  refine Met.ofW (cc := cX7_init) (maxL := 1) (ret := none) (by decide) rfl ?_
  intro p e s m args below meth c s₁ B hml hv
  obtain ⟨⟨hargs, hsz, hE, hP, hK, hD0⟩, hO⟩ := hv
  have hx := B.exec
  have hb := B.bytes
  have hr := B.returns
  have hts := atoms_spec (ws := wsX7_init) B.pre
  have hown : s.vm.findClass RX7 = some m.cls := findClass_of_methodNamed B.named
  have hlocks := B.notSynchronized
  have hin : meth.name = "<init>" := (name_of_methodNamed B.named B.method).1
  clear B
  subst hsz
  have hD := hD0.self (sz := s.heap.size)
  generalize hAe : va_A [(h0, .inr (7, [.null, .null, .int 0]))] s.heap.size = A at hD hE ⊢
  have hA : ∀ q : Nat, s.heap.size ≤ q → A q := fun q h => by rw [← hAe]; exact Or.inr h
  clear hAe hD0
  have hS : va_S A s.heap s.heap [] := va_S.rf
  show W p l e r_X7_init s m args below meth c s.heap [] 0 0 (MQ below (va_Qv (fun u => ∃ (t : Nat → Nat), t 0 = h0 ∧ u = wX7 cy t sS0) (fun u T9 => va_P D vwCl u T9.heap ∧ va_D A u) A) args s 10 452 A) (entryFrame m args 1)
  rw [show entryFrame m args 1 = entryFrame m ([.ref h0] : List Value).toArray 1 from by rw [hargs]]
  have hl := lv_entry ([.ref h0]) (n := 1) (Nat.le_of_ble_eq_true rfl)
  rw [lg_entry_eq]
  generalize (lg_sl ([.ref h0]) ++ List.replicate (1 - (lg_sl ([.ref h0])).length) Slot.unset).toArray = ls at hl ⊢
  have hl : lv_has ls 1 [(0, .ref h0)] := hl
  clear hargs
  suffices key : ∀ (H : Heap) (locs : List Loc), va_P D vwCl [(h0, .inr (7, [.null, .null, .int 0]))] H → va_D A [(h0, .inr (7, [.null, .null, .int 0]))] → va_S A s.heap H locs → W p l e r_X7_init s m args below meth c H locs 0 0 (MQ below (va_Qv (fun u => ∃ (t : Nat → Nat), t 0 = h0 ∧ u = wX7 cy t sS0) (fun u T9 => va_P D vwCl u T9.heap ∧ va_D A u) A) args s 10 452 A) (F0 m 0 ls []) from key s.heap [] hP hD hS
  clear hP hD hS
  intro H locs hP hD hS
  refine lv_aload_n hx hb dX7_init_0 rfl (lv_at hl 0 rfl) ?_
  refine W.objInit hx hb hown (hts (.methodLink RX7 3 objectInit) (by decide +kernel)) (hts (.instanceMethod objectInit) (by decide +kernel)) (hts (.code objectInit ⟨#[0xb1]⟩ 1 none) (by decide +kernel)) rfl (by rw [hml]; exact hl.1) rfl dX7_init_1 (Nat.le_of_ble_eq_true rfl) (Nat.le_of_ble_eq_true rfl) ?_
  refine W.eq (g2 := F0 m 4 ls []) rfl ?_
  refine lv_aload_n hx hb dX7_init_4 rfl (lv_at hl 0 rfl) ?_
  refine va_new (ci := 3) (fs := [.null, .null, .int 0, .int 0]) (C := RX3) (T := TX3) (N := 4) hx hb hts i_X7_init_X3 tyX3 tyX3_ok hown (hts (.classLink RX7 9 RX3) (by decide +kernel)) (hts (.instantiable RX3 4) (by decide +kernel)) (hts (.initialized RX3) (by decide +kernel)) hK hP hD hS hA rfl (fun j hj => by rcases (show j = 0 ∨ j = 1 ∨ j = 2 ∨ j = 3 by omega) with rfl | rfl | rfl | rfl <;> rfl) (Nat.le_of_ble_eq_true rfl) (Nat.le_of_ble_eq_true rfl) dX7_init_5 (fun q1 H hP hD hS => ?_)
  have hP : va_P D vwCl ([(h0, .inr (7, [.null, .null, .int 0])), (q1, .inr (3, [.null, .null, .int 0, .int 0]))] : va_W) H := hP
  have hD : va_D A ([(h0, .inr (7, [.null, .null, .int 0])), (q1, .inr (3, [.null, .null, .int 0, .int 0]))] : va_W) := hD
  refine W.widen (k := 1) (n := 4) (by omega) (by omega) ?_
  refine lv_dup hx hb dX7_init_8 rfl ?_
  refine w_callC hP hD hS hA [1] [0] (wc := [(q1, .inr (3, [.null, .null, .int 0, .int 0]))]) (wr := ([(h0, .inr (7, [.null, .null, .int 0]))] : va_W)) rfl rfl (by decide) (by decide) (va_runIN (As := []) (rest := [.ref q1, .ref h0]) ⟨hx, hb, hml, hown, hts⟩ (c_X3_init l D cy q1 H.size) ⟨va_cnB 0 hts gX7_init_X3_init_n11 rfl rfl rfl (nM_X7_11 hE.1) (hts (.initialized RX3) (by decide +kernel)) (by decide +kernel) ⟨Nat.le_of_ble_eq_true rfl, Nat.le_of_ble_eq_true rfl⟩, rfl, hts (.instanceMethod yX3_init) (by decide +kernel)⟩ (w_preIC hO hE hS hA hK hP hD [1] rfl rfl (by decide)) rfl rfl hl.1 rfl (lv_room (Nat.le_of_ble_eq_true rfl)) dX7_init_9 ⟨Nat.le_of_ble_eq_true rfl, Nat.le_of_ble_eq_true rfl⟩) (fun u H locs hw nP nD nS => ?_)
  clear hP hD hS
  obtain ⟨t2, ht0, rfl⟩ := hw
  subst ht0
  have hP : va_P D vwCl ([(h0, .inr (7, [.null, .null, .int 0]))] ++ wX3 cy t2 ((fun _ => 0)) wSet0 0 12 : va_W) H := nP
  have hD : va_D A ([(h0, .inr (7, [.null, .null, .int 0]))] ++ wX3 cy t2 ((fun _ => 0)) wSet0 0 12 : va_W) := nD
  have hS := nS
  clear nP nD nS
  refine W.widen (k := 3) (n := 150) (by omega) (by omega) ?_
  refine va_putF (D := D) (ci := 7) (v := .ref (t2 0)) (ty := .object "FoldedMenu$Menu") (C := RX7) (T := TX7) (N := 3) hx hb hts i_X7_init_X7 tyX7 tyX7_ok nmX7 hown hK hP hD hS 0 rfl rfl 0 (by decide) (hts (.fieldLink RX7 12 "FoldedMenu$State" "menu" "LFoldedMenu$Menu;") (by decide +kernel)) (fun _ h9 => h9) rfl hin rfl (by decide +kernel) rfl rfl (Nat.le_of_ble_eq_true rfl) dX7_init_12 (fun H locs hP hD hS => ?_)
  have hP : va_P D vwCl ([(h0, .inr (7, [.ref (t2 0), .null, .int 0]))] ++ wX3 cy t2 ((fun _ => 0)) wSet0 0 12 : va_W) H := hP
  have hD : va_D A ([(h0, .inr (7, [.ref (t2 0), .null, .int 0]))] ++ wX3 cy t2 ((fun _ => 0)) wSet0 0 12 : va_W) := hD
  refine lv_aload_n hx hb dX7_init_15 rfl (lv_at hl 0 rfl) ?_
  refine lv_iconst (v := 2) hx hb dX7_init_16 (by decide) ?_
  refine va_newq hx hb hown (hts (.classLink RX7 9 "FoldedMenu$Menu") (by decide +kernel)) hO.1 hK hP hD hS hA (n := 2) (N' := 2) (by decide) rfl (Nat.le_of_ble_eq_true rfl) (Nat.le_of_ble_eq_true rfl) (Nat.le_of_ble_eq_true rfl) dX7_init_17 (fun q3 cA H hK hP hD hS => ?_)
  obtain rfl : cA = cy 2 := w_cy (hK.2 6 _ rfl).2 (hK.2 2 _ rfl).2
  have hK := hK.sub (tys' := wTy cy) [0, 1, 2, 3, 4, 5] rfl
  have hP : va_P D vwCl ([(h0, .inr (7, [.ref (t2 0), .null, .int 0]))] ++ wX3 cy t2 ((fun _ => 0)) wSet0 0 12 ++ [(q3, .inl (cy 2, 2, .inr (.inr (.inr (.inr (fun _ => none))))))] : va_W) H := hP
  have hD : va_D A ([(h0, .inr (7, [.ref (t2 0), .null, .int 0]))] ++ wX3 cy t2 ((fun _ => 0)) wSet0 0 12 ++ [(q3, .inl (cy 2, 2, .inr (.inr (.inr (.inr (fun _ => none))))))] : va_W) := hD
  refine W.widen (k := 4) (n := 152) (by omega) (by omega) ?_
  refine lv_dup hx hb dX7_init_20 rfl ?_
  refine lv_iconst (v := 0) hx hb dX7_init_21 (by decide) ?_
  refine va_new (ci := 3) (fs := [.null, .null, .int 0, .int 0]) (C := RX3) (T := TX3) (N := 4) hx hb hts i_X7_init_X3 tyX3 tyX3_ok hown (hts (.classLink RX7 9 RX3) (by decide +kernel)) (hts (.instantiable RX3 4) (by decide +kernel)) (hts (.initialized RX3) (by decide +kernel)) hK hP hD hS hA rfl (fun j hj => by rcases (show j = 0 ∨ j = 1 ∨ j = 2 ∨ j = 3 by omega) with rfl | rfl | rfl | rfl <;> rfl) (Nat.le_of_ble_eq_true rfl) (Nat.le_of_ble_eq_true rfl) dX7_init_22 (fun q4 H hP hD hS => ?_)
  have hP : va_P D vwCl ([(h0, .inr (7, [.ref (t2 0), .null, .int 0]))] ++ wX3 cy t2 ((fun _ => 0)) wSet0 0 12 ++ [(q3, .inl (cy 2, 2, .inr (.inr (.inr (.inr (fun _ => none)))))), (q4, .inr (3, [.null, .null, .int 0, .int 0]))] : va_W) H := hP
  have hD : va_D A ([(h0, .inr (7, [.ref (t2 0), .null, .int 0]))] ++ wX3 cy t2 ((fun _ => 0)) wSet0 0 12 ++ [(q3, .inl (cy 2, 2, .inr (.inr (.inr (.inr (fun _ => none)))))), (q4, .inr (3, [.null, .null, .int 0, .int 0]))] : va_W) := hD
  refine W.widen (k := 5) (n := 156) (by omega) (by omega) ?_
  refine lv_dup hx hb dX7_init_25 rfl ?_
  refine w_callC hP hD hS hA [5] [0, 1, 2, 3, 4] (wc := [(q4, .inr (3, [.null, .null, .int 0, .int 0]))]) (wr := ([(h0, .inr (7, [.ref (t2 0), .null, .int 0]))] ++ wX3 cy t2 ((fun _ => 0)) wSet0 0 12 ++ [(q3, .inl (cy 2, 2, .inr (.inr (.inr (.inr (fun _ => none))))))] : va_W)) rfl rfl (by decide) (by decide) (va_runIN (As := []) (rest := [.ref q4, .int 0, .ref q3, .ref q3, .ref h0]) ⟨hx, hb, hml, hown, hts⟩ (c_X3_init l D cy q4 H.size) ⟨va_cnB 0 hts gX7_init_X3_init_n11 rfl rfl rfl (nM_X7_11 hE.1) (hts (.initialized RX3) (by decide +kernel)) (by decide +kernel) ⟨Nat.le_of_ble_eq_true rfl, Nat.le_of_ble_eq_true rfl⟩, rfl, hts (.instanceMethod yX3_init) (by decide +kernel)⟩ (w_preIC hO hE hS hA hK hP hD [5] rfl rfl (by decide)) rfl rfl hl.1 rfl (lv_room (Nat.le_of_ble_eq_true rfl)) dX7_init_26 ⟨Nat.le_of_ble_eq_true rfl, Nat.le_of_ble_eq_true rfl⟩) (fun u H locs hw nP nD nS => ?_)
  clear hP hD hS
  obtain ⟨t5, ht0, rfl⟩ := hw
  subst ht0
  have hP : va_P D vwCl ([(h0, .inr (7, [.ref (t2 0), .null, .int 0]))] ++ wX3 cy t2 ((fun _ => 0)) wSet0 0 12 ++ [(q3, .inl (cy 2, 2, .inr (.inr (.inr (.inr (fun _ => none))))))] ++ wX3 cy t5 ((fun _ => 0)) wSet0 0 12 : va_W) H := nP
  have hD : va_D A ([(h0, .inr (7, [.ref (t2 0), .null, .int 0]))] ++ wX3 cy t2 ((fun _ => 0)) wSet0 0 12 ++ [(q3, .inl (cy 2, 2, .inr (.inr (.inr (.inr (fun _ => none))))))] ++ wX3 cy t5 ((fun _ => 0)) wSet0 0 12 : va_W) := nD
  have hS := nS
  clear nP nD nS
  refine W.widen (k := 7) (n := 302) (by omega) (by omega) ?_
  refine va_astq hx hb hK hP hD hS 4 2 5 3 rfl rfl rfl rfl (show ¬ ((0 : Int32) < 0 ∨ 2 ≤ Int32.toNatClampNeg 0) from by decide) dX7_init_29 (fun H locs hP hD hS => ?_)
  have hP : va_P D vwCl ([(h0, .inr (7, [.ref (t2 0), .null, .int 0]))] ++ wX3 cy t2 ((fun _ => 0)) wSet0 0 12 ++ [(q3, .inl (cy 2, 2, .inr (.inr (.inr (.inr (va_up (fun _ => none) (Int32.toNatClampNeg 0) (some (t5 0))))))))] ++ wX3 cy t5 ((fun _ => 0)) wSet0 0 12 : va_W) H := hP
  have hD : va_D A ([(h0, .inr (7, [.ref (t2 0), .null, .int 0]))] ++ wX3 cy t2 ((fun _ => 0)) wSet0 0 12 ++ [(q3, .inl (cy 2, 2, .inr (.inr (.inr (.inr (va_up (fun _ => none) (Int32.toNatClampNeg 0) (some (t5 0))))))))] ++ wX3 cy t5 ((fun _ => 0)) wSet0 0 12 : va_W) := hD
  refine lv_dup hx hb dX7_init_30 rfl ?_
  refine lv_iconst (v := 1) hx hb dX7_init_31 (by decide) ?_
  refine va_new (ci := 3) (fs := [.null, .null, .int 0, .int 0]) (C := RX3) (T := TX3) (N := 4) hx hb hts i_X7_init_X3 tyX3 tyX3_ok hown (hts (.classLink RX7 9 RX3) (by decide +kernel)) (hts (.instantiable RX3 4) (by decide +kernel)) (hts (.initialized RX3) (by decide +kernel)) hK hP hD hS hA rfl (fun j hj => by rcases (show j = 0 ∨ j = 1 ∨ j = 2 ∨ j = 3 by omega) with rfl | rfl | rfl | rfl <;> rfl) (Nat.le_of_ble_eq_true rfl) (Nat.le_of_ble_eq_true rfl) dX7_init_32 (fun q6 H hP hD hS => ?_)
  have hP : va_P D vwCl ([(h0, .inr (7, [.ref (t2 0), .null, .int 0]))] ++ wX3 cy t2 ((fun _ => 0)) wSet0 0 12 ++ [(q3, .inl (cy 2, 2, .inr (.inr (.inr (.inr (va_up (fun _ => none) (Int32.toNatClampNeg 0) (some (t5 0))))))))] ++ wX3 cy t5 ((fun _ => 0)) wSet0 0 12 ++ [(q6, .inr (3, [.null, .null, .int 0, .int 0]))] : va_W) H := hP
  have hD : va_D A ([(h0, .inr (7, [.ref (t2 0), .null, .int 0]))] ++ wX3 cy t2 ((fun _ => 0)) wSet0 0 12 ++ [(q3, .inl (cy 2, 2, .inr (.inr (.inr (.inr (va_up (fun _ => none) (Int32.toNatClampNeg 0) (some (t5 0))))))))] ++ wX3 cy t5 ((fun _ => 0)) wSet0 0 12 ++ [(q6, .inr (3, [.null, .null, .int 0, .int 0]))] : va_W) := hD
  refine W.widen (k := 8) (n := 306) (by omega) (by omega) ?_
  refine lv_dup hx hb dX7_init_35 rfl ?_
  refine w_callC hP hD hS hA [8] [0, 1, 2, 3, 4, 5, 6, 7] (wc := [(q6, .inr (3, [.null, .null, .int 0, .int 0]))]) (wr := ([(h0, .inr (7, [.ref (t2 0), .null, .int 0]))] ++ wX3 cy t2 ((fun _ => 0)) wSet0 0 12 ++ [(q3, .inl (cy 2, 2, .inr (.inr (.inr (.inr (va_up (fun _ => none) (Int32.toNatClampNeg 0) (some (t5 0))))))))] ++ wX3 cy t5 ((fun _ => 0)) wSet0 0 12 : va_W)) rfl rfl (by decide) (by decide) (va_runIN (As := []) (rest := [.ref q6, .int 1, .ref q3, .ref q3, .ref h0]) ⟨hx, hb, hml, hown, hts⟩ (c_X3_init l D cy q6 H.size) ⟨va_cnB 0 hts gX7_init_X3_init_n11 rfl rfl rfl (nM_X7_11 hE.1) (hts (.initialized RX3) (by decide +kernel)) (by decide +kernel) ⟨Nat.le_of_ble_eq_true rfl, Nat.le_of_ble_eq_true rfl⟩, rfl, hts (.instanceMethod yX3_init) (by decide +kernel)⟩ (w_preIC hO hE hS hA hK hP hD [8] rfl rfl (by decide)) rfl rfl hl.1 rfl (lv_room (Nat.le_of_ble_eq_true rfl)) dX7_init_36 ⟨Nat.le_of_ble_eq_true rfl, Nat.le_of_ble_eq_true rfl⟩) (fun u H locs hw nP nD nS => ?_)
  clear hP hD hS
  obtain ⟨t7, ht0, rfl⟩ := hw
  subst ht0
  have hP : va_P D vwCl ([(h0, .inr (7, [.ref (t2 0), .null, .int 0]))] ++ wX3 cy t2 ((fun _ => 0)) wSet0 0 12 ++ [(q3, .inl (cy 2, 2, .inr (.inr (.inr (.inr (va_up (fun _ => none) (Int32.toNatClampNeg 0) (some (t5 0))))))))] ++ wX3 cy t5 ((fun _ => 0)) wSet0 0 12 ++ wX3 cy t7 ((fun _ => 0)) wSet0 0 12 : va_W) H := nP
  have hD : va_D A ([(h0, .inr (7, [.ref (t2 0), .null, .int 0]))] ++ wX3 cy t2 ((fun _ => 0)) wSet0 0 12 ++ [(q3, .inl (cy 2, 2, .inr (.inr (.inr (.inr (va_up (fun _ => none) (Int32.toNatClampNeg 0) (some (t5 0))))))))] ++ wX3 cy t5 ((fun _ => 0)) wSet0 0 12 ++ wX3 cy t7 ((fun _ => 0)) wSet0 0 12 : va_W) := nD
  have hS := nS
  clear nP nD nS
  refine W.widen (k := 10) (n := 452) (by omega) (by omega) ?_
  refine va_astq hx hb hK hP hD hS 4 2 8 3 rfl rfl rfl rfl (show ¬ ((1 : Int32) < 0 ∨ 2 ≤ Int32.toNatClampNeg 1) from by decide) dX7_init_39 (fun H locs hP hD hS => ?_)
  have hP : va_P D vwCl ([(h0, .inr (7, [.ref (t2 0), .null, .int 0]))] ++ wX3 cy t2 ((fun _ => 0)) wSet0 0 12 ++ [(q3, .inl (cy 2, 2, .inr (.inr (.inr (.inr (va_up (va_up (fun _ => none) (Int32.toNatClampNeg 0) (some (t5 0))) (Int32.toNatClampNeg 1) (some (t7 0))))))))] ++ wX3 cy t5 ((fun _ => 0)) wSet0 0 12 ++ wX3 cy t7 ((fun _ => 0)) wSet0 0 12 : va_W) H := hP
  have hD : va_D A ([(h0, .inr (7, [.ref (t2 0), .null, .int 0]))] ++ wX3 cy t2 ((fun _ => 0)) wSet0 0 12 ++ [(q3, .inl (cy 2, 2, .inr (.inr (.inr (.inr (va_up (va_up (fun _ => none) (Int32.toNatClampNeg 0) (some (t5 0))) (Int32.toNatClampNeg 1) (some (t7 0))))))))] ++ wX3 cy t5 ((fun _ => 0)) wSet0 0 12 ++ wX3 cy t7 ((fun _ => 0)) wSet0 0 12 : va_W) := hD
  refine va_putF (D := D) (ci := 7) (v := .ref q3) (ty := .array (.object "FoldedMenu$Menu")) (C := RX7) (T := TX7) (N := 3) hx hb hts i_X7_init_X7 tyX7 tyX7_ok nmX7 hown hK hP hD hS 0 rfl rfl 1 (by decide) (hts (.fieldLink RX7 18 "FoldedMenu$State" "snapshots" "[LFoldedMenu$Menu;") (by decide +kernel)) (fun _ h9 => h9) rfl hin rfl (by decide +kernel) rfl rfl (Nat.le_of_ble_eq_true rfl) dX7_init_40 (fun H locs hP hD hS => ?_)
  have hP : va_P D vwCl ([(h0, .inr (7, [.ref (t2 0), .ref q3, .int 0]))] ++ wX3 cy t2 ((fun _ => 0)) wSet0 0 12 ++ [(q3, .inl (cy 2, 2, .inr (.inr (.inr (.inr (va_up (va_up (fun _ => none) (Int32.toNatClampNeg 0) (some (t5 0))) (Int32.toNatClampNeg 1) (some (t7 0))))))))] ++ wX3 cy t5 ((fun _ => 0)) wSet0 0 12 ++ wX3 cy t7 ((fun _ => 0)) wSet0 0 12 : va_W) H := hP
  have hD : va_D A ([(h0, .inr (7, [.ref (t2 0), .ref q3, .int 0]))] ++ wX3 cy t2 ((fun _ => 0)) wSet0 0 12 ++ [(q3, .inl (cy 2, 2, .inr (.inr (.inr (.inr (va_up (va_up (fun _ => none) (Int32.toNatClampNeg 0) (some (t5 0))) (Int32.toNatClampNeg 1) (some (t7 0))))))))] ++ wX3 cy t5 ((fun _ => 0)) wSet0 0 12 ++ wX3 cy t7 ((fun _ => 0)) wSet0 0 12 : va_W) := hD
  refine lv_aload_n hx hb dX7_init_43 rfl (lv_at hl 0 rfl) ?_
  refine lv_iconst (v := 0) hx hb dX7_init_44 (by decide) ?_
  refine va_put (D := D) (ci := 7) (v := .int 0) (ty := .int) (C := RX7) (T := TX7) (N := 3) hx hb hts i_X7_init_X7 tyX7 tyX7_ok nmX7 hown hK hP hD hS 0 rfl rfl 2 (by decide) (hts (.fieldLink RX7 22 "FoldedMenu$State" "kept" "I") (by decide +kernel)) (fun _ h9 => h9) rfl (by decide +kernel) rfl rfl (Nat.le_of_ble_eq_true rfl) dX7_init_45 (fun H locs hP hD hS => ?_)
  have hP : va_P D vwCl ([(h0, .inr (7, [.ref (t2 0), .ref q3, .int 0]))] ++ wX3 cy t2 ((fun _ => 0)) wSet0 0 12 ++ [(q3, .inl (cy 2, 2, .inr (.inr (.inr (.inr (va_up (va_up (fun _ => none) (Int32.toNatClampNeg 0) (some (t5 0))) (Int32.toNatClampNeg 1) (some (t7 0))))))))] ++ wX3 cy t5 ((fun _ => 0)) wSet0 0 12 ++ wX3 cy t7 ((fun _ => 0)) wSet0 0 12 : va_W) H := hP
  have hD : va_D A ([(h0, .inr (7, [.ref (t2 0), .ref q3, .int 0]))] ++ wX3 cy t2 ((fun _ => 0)) wSet0 0 12 ++ [(q3, .inl (cy 2, 2, .inr (.inr (.inr (.inr (va_up (va_up (fun _ => none) (Int32.toNatClampNeg 0) (some (t5 0))) (Int32.toNatClampNeg 1) (some (t7 0))))))))] ++ wX3 cy t5 ((fun _ => 0)) wSet0 0 12 ++ wX3 cy t7 ((fun _ => 0)) wSet0 0 12 : va_W) := hD
  have e9 : (va_up (va_up (fun _ => none) (Int32.toNatClampNeg 0) (some (t5 0))) (Int32.toNatClampNeg 1) (some (t7 0))) = (fun j => if j = 0 then some (t5 0) else if j = 1 then some (t7 0) else none) := by
    funext j
    match j with
    | 0 => rfl
    | 1 => rfl
    | j + 2 => simp [va_up]
  rw [e9] at hP hD
  have hP := hP.sub (ws' := wX7 cy (w_app 1 (fun _ => h0) (w_app 3 t2 (w_app 1 (fun _ => q3) (w_app 3 t5 (t7))))) sS0) [0, 1, 2, 3, 4, 5, 6, 7, 8, 9, 10] rfl
  have hD := hD.sub (ws' := wX7 cy (w_app 1 (fun _ => h0) (w_app 3 t2 (w_app 1 (fun _ => q3) (w_app 3 t5 (t7))))) sS0) [0, 1, 2, 3, 4, 5, 6, 7, 8, 9, 10] (by decide) rfl
  exact W.vret hx hb hr (fun T9 ht _ => ⟨⟨_, rfl, ⟨(w_app 1 (fun _ => h0) (w_app 3 t2 (w_app 1 (fun _ => q3) (w_app 3 t5 (t7))))), rfl, rfl⟩, by rw [ht]; exact hP, hD⟩, hS.F ht⟩) hS.2.2 dX7_init_48

theorem i_X2_init_X2 : ∀ w ∈ u_ws RX2 TX2 2, w ∈ wsX2_init := by decide +kernel
theorem i_X2_init_X7 : ∀ w ∈ u_ws RX7 TX7 3, w ∈ wsX2_init := by decide +kernel
abbrev r_X2_init : Room := { frames := 3, cells := 56, slots := 2280, locals := 72 }
set_option maxHeartbeats 4000000 in
set_option maxRecDepth 100000 in
theorem c_X2_init (l : Launch) (D : va_G) (cy : Nat → ClassId) (h0 : Nat) (sz : Nat) : Met l yX2_init wsX2_init r_X2_init (wPC [.ref h0] sz D cy [(h0, .inr (2, [.null, .int 0]))]) (va_Qv (fun u => ∃ (t : Nat → Nat) (t_sa : Nat → Nat → Nat), t 0 = h0 ∧ u = wX2 cy t ((fun _ => sS0)) t_sa 0) (fun u T9 => va_P D vwCl u T9.heap ∧ va_D (va_A [(h0, .inr (2, [.null, .int 0]))] sz) u) (va_A [(h0, .inr (2, [.null, .int 0]))] sz)) 56 2280 (va_A [(h0, .inr (2, [.null, .int 0]))] sz) := by
  refine Met.ofW (cc := cX2_init) (maxL := 1) (ret := none) (by decide) rfl ?_
  intro p e s m args below meth c s₁ B hml hv
  obtain ⟨⟨hargs, hsz, hE, hP, hK, hD0⟩, hO⟩ := hv
  have hx := B.exec
  have hb := B.bytes
  have hr := B.returns
  have hts := atoms_spec (ws := wsX2_init) B.pre
  have hown : s.vm.findClass RX2 = some m.cls := findClass_of_methodNamed B.named
  have hlocks := B.notSynchronized
  have hin : meth.name = "<init>" := (name_of_methodNamed B.named B.method).1
  clear B
  subst hsz
  have hD := hD0.self (sz := s.heap.size)
  generalize hAe : va_A [(h0, .inr (2, [.null, .int 0]))] s.heap.size = A at hD hE ⊢
  have hA : ∀ q : Nat, s.heap.size ≤ q → A q := fun q h => by rw [← hAe]; exact Or.inr h
  clear hAe hD0
  have hS : va_S A s.heap s.heap [] := va_S.rf
  show W p l e r_X2_init s m args below meth c s.heap [] 0 0 (MQ below (va_Qv (fun u => ∃ (t : Nat → Nat) (t_sa : Nat → Nat → Nat), t 0 = h0 ∧ u = wX2 cy t ((fun _ => sS0)) t_sa 0) (fun u T9 => va_P D vwCl u T9.heap ∧ va_D A u) A) args s 56 2280 A) (entryFrame m args 1)
  rw [show entryFrame m args 1 = entryFrame m ([.ref h0] : List Value).toArray 1 from by rw [hargs]]
  have hl := lv_entry ([.ref h0]) (n := 1) (Nat.le_of_ble_eq_true rfl)
  rw [lg_entry_eq]
  generalize (lg_sl ([.ref h0]) ++ List.replicate (1 - (lg_sl ([.ref h0])).length) Slot.unset).toArray = ls at hl ⊢
  have hl : lv_has ls 1 [(0, .ref h0)] := hl
  clear hargs
  suffices key : ∀ (H : Heap) (locs : List Loc), va_P D vwCl [(h0, .inr (2, [.null, .int 0]))] H → va_D A [(h0, .inr (2, [.null, .int 0]))] → va_S A s.heap H locs → W p l e r_X2_init s m args below meth c H locs 0 0 (MQ below (va_Qv (fun u => ∃ (t : Nat → Nat) (t_sa : Nat → Nat → Nat), t 0 = h0 ∧ u = wX2 cy t ((fun _ => sS0)) t_sa 0) (fun u T9 => va_P D vwCl u T9.heap ∧ va_D A u) A) args s 56 2280 A) (F0 m 0 ls []) from key s.heap [] hP hD hS
  clear hP hD hS
  intro H locs hP hD hS
  refine lv_aload_n hx hb dX2_init_0 rfl (lv_at hl 0 rfl) ?_
  refine W.objInit hx hb hown (hts (.methodLink RX2 3 objectInit) (by decide +kernel)) (hts (.instanceMethod objectInit) (by decide +kernel)) (hts (.code objectInit ⟨#[0xb1]⟩ 1 none) (by decide +kernel)) rfl (by rw [hml]; exact hl.1) rfl dX2_init_1 (Nat.le_of_ble_eq_true rfl) (Nat.le_of_ble_eq_true rfl) ?_
  refine W.eq (g2 := F0 m 4 ls []) rfl ?_
  refine lv_aload_n hx hb dX2_init_4 rfl (lv_at hl 0 rfl) ?_
  refine lv_iconst (v := 5) hx hb dX2_init_5 (by decide) ?_
  refine va_newq hx hb hown (hts (.classLink RX2 9 "FoldedMenu$State") (by decide +kernel)) hO.2.1 hK hP hD hS hA (n := 5) (N' := 5) (by decide) rfl (Nat.le_of_ble_eq_true rfl) (Nat.le_of_ble_eq_true rfl) (Nat.le_of_ble_eq_true rfl) dX2_init_6 (fun q1 cA H hK hP hD hS => ?_)
  obtain rfl : cA = cy 3 := w_cy (hK.2 6 _ rfl).2 (hK.2 3 _ rfl).2
  have hK := hK.sub (tys' := wTy cy) [0, 1, 2, 3, 4, 5] rfl
  have hP : va_P D vwCl ([(h0, .inr (2, [.null, .int 0])), (q1, .inl (cy 3, 5, .inr (.inr (.inr (.inr (fun _ => none))))))] : va_W) H := hP
  have hD : va_D A ([(h0, .inr (2, [.null, .int 0])), (q1, .inl (cy 3, 5, .inr (.inr (.inr (.inr (fun _ => none))))))] : va_W) := hD
  refine W.widen (k := 1) (n := 5) (by omega) (by omega) ?_
  refine lv_dup hx hb dX2_init_9 rfl ?_
  refine lv_iconst (v := 0) hx hb dX2_init_10 (by decide) ?_
  refine va_new (ci := 7) (fs := [.null, .null, .int 0]) (C := RX7) (T := TX7) (N := 3) hx hb hts i_X2_init_X7 tyX7 tyX7_ok hown (hts (.classLink RX2 9 RX7) (by decide +kernel)) (hts (.instantiable RX7 3) (by decide +kernel)) (hts (.initialized RX7) (by decide +kernel)) hK hP hD hS hA rfl (fun j hj => by rcases (show j = 0 ∨ j = 1 ∨ j = 2 by omega) with rfl | rfl | rfl <;> rfl) (Nat.le_of_ble_eq_true rfl) (Nat.le_of_ble_eq_true rfl) dX2_init_11 (fun q2 H hP hD hS => ?_)
  have hP : va_P D vwCl ([(h0, .inr (2, [.null, .int 0])), (q1, .inl (cy 3, 5, .inr (.inr (.inr (.inr (fun _ => none)))))), (q2, .inr (7, [.null, .null, .int 0]))] : va_W) H := hP
  have hD : va_D A ([(h0, .inr (2, [.null, .int 0])), (q1, .inl (cy 3, 5, .inr (.inr (.inr (.inr (fun _ => none)))))), (q2, .inr (7, [.null, .null, .int 0]))] : va_W) := hD
  refine W.widen (k := 2) (n := 8) (by omega) (by omega) ?_
  refine lv_dup hx hb dX2_init_14 rfl ?_
  refine w_callC hP hD hS hA [2] [0, 1] (wc := [(q2, .inr (7, [.null, .null, .int 0]))]) (wr := ([(h0, .inr (2, [.null, .int 0])), (q1, .inl (cy 3, 5, .inr (.inr (.inr (.inr (fun _ => none))))))] : va_W)) rfl rfl (by decide) (by decide) (va_runIN (As := []) (rest := [.ref q2, .int 0, .ref q1, .ref q1, .ref h0]) ⟨hx, hb, hml, hown, hts⟩ (c_X7_init l D cy q2 H.size) ⟨va_cnB 0 hts gX2_init_X7_init_n11 rfl rfl rfl (nM_X2_11 hE.1) (hts (.initialized RX7) (by decide +kernel)) (by decide +kernel) ⟨Nat.le_of_ble_eq_true rfl, Nat.le_of_ble_eq_true rfl⟩, rfl, hts (.instanceMethod yX7_init) (by decide +kernel)⟩ (w_preIC hO hE hS hA hK hP hD [2] rfl rfl (by decide)) rfl rfl hl.1 rfl (lv_room (Nat.le_of_ble_eq_true rfl)) dX2_init_15 ⟨Nat.le_of_ble_eq_true rfl, Nat.le_of_ble_eq_true rfl⟩) (fun u H locs hw nP nD nS => ?_)
  clear hP hD hS
  obtain ⟨t3, ht0, rfl⟩ := hw
  subst ht0
  have hP : va_P D vwCl ([(h0, .inr (2, [.null, .int 0])), (q1, .inl (cy 3, 5, .inr (.inr (.inr (.inr (fun _ => none))))))] ++ wX7 cy t3 sS0 : va_W) H := nP
  have hD : va_D A ([(h0, .inr (2, [.null, .int 0])), (q1, .inl (cy 3, 5, .inr (.inr (.inr (.inr (fun _ => none))))))] ++ wX7 cy t3 sS0 : va_W) := nD
  have hS := nS
  clear nP nD nS
  refine W.widen (k := 12) (n := 460) (by omega) (by omega) ?_
  refine va_astq hx hb hK hP hD hS 1 3 2 7 rfl rfl rfl rfl (show ¬ ((0 : Int32) < 0 ∨ 5 ≤ Int32.toNatClampNeg 0) from by decide) dX2_init_18 (fun H locs hP hD hS => ?_)
  have hP : va_P D vwCl ([(h0, .inr (2, [.null, .int 0])), (q1, .inl (cy 3, 5, .inr (.inr (.inr (.inr (va_up (fun _ => none) (Int32.toNatClampNeg 0) (some (t3 0))))))))] ++ wX7 cy t3 sS0 : va_W) H := hP
  have hD : va_D A ([(h0, .inr (2, [.null, .int 0])), (q1, .inl (cy 3, 5, .inr (.inr (.inr (.inr (va_up (fun _ => none) (Int32.toNatClampNeg 0) (some (t3 0))))))))] ++ wX7 cy t3 sS0 : va_W) := hD
  refine lv_dup hx hb dX2_init_19 rfl ?_
  refine lv_iconst (v := 1) hx hb dX2_init_20 (by decide) ?_
  refine va_new (ci := 7) (fs := [.null, .null, .int 0]) (C := RX7) (T := TX7) (N := 3) hx hb hts i_X2_init_X7 tyX7 tyX7_ok hown (hts (.classLink RX2 9 RX7) (by decide +kernel)) (hts (.instantiable RX7 3) (by decide +kernel)) (hts (.initialized RX7) (by decide +kernel)) hK hP hD hS hA rfl (fun j hj => by rcases (show j = 0 ∨ j = 1 ∨ j = 2 by omega) with rfl | rfl | rfl <;> rfl) (Nat.le_of_ble_eq_true rfl) (Nat.le_of_ble_eq_true rfl) dX2_init_21 (fun q4 H hP hD hS => ?_)
  have hP : va_P D vwCl ([(h0, .inr (2, [.null, .int 0])), (q1, .inl (cy 3, 5, .inr (.inr (.inr (.inr (va_up (fun _ => none) (Int32.toNatClampNeg 0) (some (t3 0))))))))] ++ wX7 cy t3 sS0 ++ [(q4, .inr (7, [.null, .null, .int 0]))] : va_W) H := hP
  have hD : va_D A ([(h0, .inr (2, [.null, .int 0])), (q1, .inl (cy 3, 5, .inr (.inr (.inr (.inr (va_up (fun _ => none) (Int32.toNatClampNeg 0) (some (t3 0))))))))] ++ wX7 cy t3 sS0 ++ [(q4, .inr (7, [.null, .null, .int 0]))] : va_W) := hD
  refine W.widen (k := 13) (n := 463) (by omega) (by omega) ?_
  refine lv_dup hx hb dX2_init_24 rfl ?_
  refine w_callC hP hD hS hA [13] [0, 1, 2, 3, 4, 5, 6, 7, 8, 9, 10, 11, 12] (wc := [(q4, .inr (7, [.null, .null, .int 0]))]) (wr := ([(h0, .inr (2, [.null, .int 0])), (q1, .inl (cy 3, 5, .inr (.inr (.inr (.inr (va_up (fun _ => none) (Int32.toNatClampNeg 0) (some (t3 0))))))))] ++ wX7 cy t3 sS0 : va_W)) rfl rfl (by decide) (by decide) (va_runIN (As := []) (rest := [.ref q4, .int 1, .ref q1, .ref q1, .ref h0]) ⟨hx, hb, hml, hown, hts⟩ (c_X7_init l D cy q4 H.size) ⟨va_cnB 0 hts gX2_init_X7_init_n11 rfl rfl rfl (nM_X2_11 hE.1) (hts (.initialized RX7) (by decide +kernel)) (by decide +kernel) ⟨Nat.le_of_ble_eq_true rfl, Nat.le_of_ble_eq_true rfl⟩, rfl, hts (.instanceMethod yX7_init) (by decide +kernel)⟩ (w_preIC hO hE hS hA hK hP hD [13] rfl rfl (by decide)) rfl rfl hl.1 rfl (lv_room (Nat.le_of_ble_eq_true rfl)) dX2_init_25 ⟨Nat.le_of_ble_eq_true rfl, Nat.le_of_ble_eq_true rfl⟩) (fun u H locs hw nP nD nS => ?_)
  clear hP hD hS
  obtain ⟨t5, ht0, rfl⟩ := hw
  subst ht0
  have hP : va_P D vwCl ([(h0, .inr (2, [.null, .int 0])), (q1, .inl (cy 3, 5, .inr (.inr (.inr (.inr (va_up (fun _ => none) (Int32.toNatClampNeg 0) (some (t3 0))))))))] ++ wX7 cy t3 sS0 ++ wX7 cy t5 sS0 : va_W) H := nP
  have hD : va_D A ([(h0, .inr (2, [.null, .int 0])), (q1, .inl (cy 3, 5, .inr (.inr (.inr (.inr (va_up (fun _ => none) (Int32.toNatClampNeg 0) (some (t3 0))))))))] ++ wX7 cy t3 sS0 ++ wX7 cy t5 sS0 : va_W) := nD
  have hS := nS
  clear nP nD nS
  refine W.widen (k := 23) (n := 915) (by omega) (by omega) ?_
  refine va_astq hx hb hK hP hD hS 1 3 13 7 rfl rfl rfl rfl (show ¬ ((1 : Int32) < 0 ∨ 5 ≤ Int32.toNatClampNeg 1) from by decide) dX2_init_28 (fun H locs hP hD hS => ?_)
  have hP : va_P D vwCl ([(h0, .inr (2, [.null, .int 0])), (q1, .inl (cy 3, 5, .inr (.inr (.inr (.inr (va_up (va_up (fun _ => none) (Int32.toNatClampNeg 0) (some (t3 0))) (Int32.toNatClampNeg 1) (some (t5 0))))))))] ++ wX7 cy t3 sS0 ++ wX7 cy t5 sS0 : va_W) H := hP
  have hD : va_D A ([(h0, .inr (2, [.null, .int 0])), (q1, .inl (cy 3, 5, .inr (.inr (.inr (.inr (va_up (va_up (fun _ => none) (Int32.toNatClampNeg 0) (some (t3 0))) (Int32.toNatClampNeg 1) (some (t5 0))))))))] ++ wX7 cy t3 sS0 ++ wX7 cy t5 sS0 : va_W) := hD
  refine lv_dup hx hb dX2_init_29 rfl ?_
  refine lv_iconst (v := 2) hx hb dX2_init_30 (by decide) ?_
  refine va_new (ci := 7) (fs := [.null, .null, .int 0]) (C := RX7) (T := TX7) (N := 3) hx hb hts i_X2_init_X7 tyX7 tyX7_ok hown (hts (.classLink RX2 9 RX7) (by decide +kernel)) (hts (.instantiable RX7 3) (by decide +kernel)) (hts (.initialized RX7) (by decide +kernel)) hK hP hD hS hA rfl (fun j hj => by rcases (show j = 0 ∨ j = 1 ∨ j = 2 by omega) with rfl | rfl | rfl <;> rfl) (Nat.le_of_ble_eq_true rfl) (Nat.le_of_ble_eq_true rfl) dX2_init_31 (fun q6 H hP hD hS => ?_)
  have hP : va_P D vwCl ([(h0, .inr (2, [.null, .int 0])), (q1, .inl (cy 3, 5, .inr (.inr (.inr (.inr (va_up (va_up (fun _ => none) (Int32.toNatClampNeg 0) (some (t3 0))) (Int32.toNatClampNeg 1) (some (t5 0))))))))] ++ wX7 cy t3 sS0 ++ wX7 cy t5 sS0 ++ [(q6, .inr (7, [.null, .null, .int 0]))] : va_W) H := hP
  have hD : va_D A ([(h0, .inr (2, [.null, .int 0])), (q1, .inl (cy 3, 5, .inr (.inr (.inr (.inr (va_up (va_up (fun _ => none) (Int32.toNatClampNeg 0) (some (t3 0))) (Int32.toNatClampNeg 1) (some (t5 0))))))))] ++ wX7 cy t3 sS0 ++ wX7 cy t5 sS0 ++ [(q6, .inr (7, [.null, .null, .int 0]))] : va_W) := hD
  refine W.widen (k := 24) (n := 918) (by omega) (by omega) ?_
  refine lv_dup hx hb dX2_init_34 rfl ?_
  refine w_callC hP hD hS hA [24] [0, 1, 2, 3, 4, 5, 6, 7, 8, 9, 10, 11, 12, 13, 14, 15, 16, 17, 18, 19, 20, 21, 22, 23] (wc := [(q6, .inr (7, [.null, .null, .int 0]))]) (wr := ([(h0, .inr (2, [.null, .int 0])), (q1, .inl (cy 3, 5, .inr (.inr (.inr (.inr (va_up (va_up (fun _ => none) (Int32.toNatClampNeg 0) (some (t3 0))) (Int32.toNatClampNeg 1) (some (t5 0))))))))] ++ wX7 cy t3 sS0 ++ wX7 cy t5 sS0 : va_W)) rfl rfl (by decide) (by decide) (va_runIN (As := []) (rest := [.ref q6, .int 2, .ref q1, .ref q1, .ref h0]) ⟨hx, hb, hml, hown, hts⟩ (c_X7_init l D cy q6 H.size) ⟨va_cnB 0 hts gX2_init_X7_init_n11 rfl rfl rfl (nM_X2_11 hE.1) (hts (.initialized RX7) (by decide +kernel)) (by decide +kernel) ⟨Nat.le_of_ble_eq_true rfl, Nat.le_of_ble_eq_true rfl⟩, rfl, hts (.instanceMethod yX7_init) (by decide +kernel)⟩ (w_preIC hO hE hS hA hK hP hD [24] rfl rfl (by decide)) rfl rfl hl.1 rfl (lv_room (Nat.le_of_ble_eq_true rfl)) dX2_init_35 ⟨Nat.le_of_ble_eq_true rfl, Nat.le_of_ble_eq_true rfl⟩) (fun u H locs hw nP nD nS => ?_)
  clear hP hD hS
  obtain ⟨t7, ht0, rfl⟩ := hw
  subst ht0
  have hP : va_P D vwCl ([(h0, .inr (2, [.null, .int 0])), (q1, .inl (cy 3, 5, .inr (.inr (.inr (.inr (va_up (va_up (fun _ => none) (Int32.toNatClampNeg 0) (some (t3 0))) (Int32.toNatClampNeg 1) (some (t5 0))))))))] ++ wX7 cy t3 sS0 ++ wX7 cy t5 sS0 ++ wX7 cy t7 sS0 : va_W) H := nP
  have hD : va_D A ([(h0, .inr (2, [.null, .int 0])), (q1, .inl (cy 3, 5, .inr (.inr (.inr (.inr (va_up (va_up (fun _ => none) (Int32.toNatClampNeg 0) (some (t3 0))) (Int32.toNatClampNeg 1) (some (t5 0))))))))] ++ wX7 cy t3 sS0 ++ wX7 cy t5 sS0 ++ wX7 cy t7 sS0 : va_W) := nD
  have hS := nS
  clear nP nD nS
  refine W.widen (k := 34) (n := 1370) (by omega) (by omega) ?_
  refine va_astq hx hb hK hP hD hS 1 3 24 7 rfl rfl rfl rfl (show ¬ ((2 : Int32) < 0 ∨ 5 ≤ Int32.toNatClampNeg 2) from by decide) dX2_init_38 (fun H locs hP hD hS => ?_)
  have hP : va_P D vwCl ([(h0, .inr (2, [.null, .int 0])), (q1, .inl (cy 3, 5, .inr (.inr (.inr (.inr (va_up (va_up (va_up (fun _ => none) (Int32.toNatClampNeg 0) (some (t3 0))) (Int32.toNatClampNeg 1) (some (t5 0))) (Int32.toNatClampNeg 2) (some (t7 0))))))))] ++ wX7 cy t3 sS0 ++ wX7 cy t5 sS0 ++ wX7 cy t7 sS0 : va_W) H := hP
  have hD : va_D A ([(h0, .inr (2, [.null, .int 0])), (q1, .inl (cy 3, 5, .inr (.inr (.inr (.inr (va_up (va_up (va_up (fun _ => none) (Int32.toNatClampNeg 0) (some (t3 0))) (Int32.toNatClampNeg 1) (some (t5 0))) (Int32.toNatClampNeg 2) (some (t7 0))))))))] ++ wX7 cy t3 sS0 ++ wX7 cy t5 sS0 ++ wX7 cy t7 sS0 : va_W) := hD
  refine lv_dup hx hb dX2_init_39 rfl ?_
  refine lv_iconst (v := 3) hx hb dX2_init_40 (by decide) ?_
  refine va_new (ci := 7) (fs := [.null, .null, .int 0]) (C := RX7) (T := TX7) (N := 3) hx hb hts i_X2_init_X7 tyX7 tyX7_ok hown (hts (.classLink RX2 9 RX7) (by decide +kernel)) (hts (.instantiable RX7 3) (by decide +kernel)) (hts (.initialized RX7) (by decide +kernel)) hK hP hD hS hA rfl (fun j hj => by rcases (show j = 0 ∨ j = 1 ∨ j = 2 by omega) with rfl | rfl | rfl <;> rfl) (Nat.le_of_ble_eq_true rfl) (Nat.le_of_ble_eq_true rfl) dX2_init_41 (fun q8 H hP hD hS => ?_)
  have hP : va_P D vwCl ([(h0, .inr (2, [.null, .int 0])), (q1, .inl (cy 3, 5, .inr (.inr (.inr (.inr (va_up (va_up (va_up (fun _ => none) (Int32.toNatClampNeg 0) (some (t3 0))) (Int32.toNatClampNeg 1) (some (t5 0))) (Int32.toNatClampNeg 2) (some (t7 0))))))))] ++ wX7 cy t3 sS0 ++ wX7 cy t5 sS0 ++ wX7 cy t7 sS0 ++ [(q8, .inr (7, [.null, .null, .int 0]))] : va_W) H := hP
  have hD : va_D A ([(h0, .inr (2, [.null, .int 0])), (q1, .inl (cy 3, 5, .inr (.inr (.inr (.inr (va_up (va_up (va_up (fun _ => none) (Int32.toNatClampNeg 0) (some (t3 0))) (Int32.toNatClampNeg 1) (some (t5 0))) (Int32.toNatClampNeg 2) (some (t7 0))))))))] ++ wX7 cy t3 sS0 ++ wX7 cy t5 sS0 ++ wX7 cy t7 sS0 ++ [(q8, .inr (7, [.null, .null, .int 0]))] : va_W) := hD
  refine W.widen (k := 35) (n := 1373) (by omega) (by omega) ?_
  refine lv_dup hx hb dX2_init_44 rfl ?_
  refine w_callC hP hD hS hA [35] [0, 1, 2, 3, 4, 5, 6, 7, 8, 9, 10, 11, 12, 13, 14, 15, 16, 17, 18, 19, 20, 21, 22, 23, 24, 25, 26, 27, 28, 29, 30, 31, 32, 33, 34] (wc := [(q8, .inr (7, [.null, .null, .int 0]))]) (wr := ([(h0, .inr (2, [.null, .int 0])), (q1, .inl (cy 3, 5, .inr (.inr (.inr (.inr (va_up (va_up (va_up (fun _ => none) (Int32.toNatClampNeg 0) (some (t3 0))) (Int32.toNatClampNeg 1) (some (t5 0))) (Int32.toNatClampNeg 2) (some (t7 0))))))))] ++ wX7 cy t3 sS0 ++ wX7 cy t5 sS0 ++ wX7 cy t7 sS0 : va_W)) rfl rfl (by decide) (by decide) (va_runIN (As := []) (rest := [.ref q8, .int 3, .ref q1, .ref q1, .ref h0]) ⟨hx, hb, hml, hown, hts⟩ (c_X7_init l D cy q8 H.size) ⟨va_cnB 0 hts gX2_init_X7_init_n11 rfl rfl rfl (nM_X2_11 hE.1) (hts (.initialized RX7) (by decide +kernel)) (by decide +kernel) ⟨Nat.le_of_ble_eq_true rfl, Nat.le_of_ble_eq_true rfl⟩, rfl, hts (.instanceMethod yX7_init) (by decide +kernel)⟩ (w_preIC hO hE hS hA hK hP hD [35] rfl rfl (by decide)) rfl rfl hl.1 rfl (lv_room (Nat.le_of_ble_eq_true rfl)) dX2_init_45 ⟨Nat.le_of_ble_eq_true rfl, Nat.le_of_ble_eq_true rfl⟩) (fun u H locs hw nP nD nS => ?_)
  clear hP hD hS
  obtain ⟨t9, ht0, rfl⟩ := hw
  subst ht0
  have hP : va_P D vwCl ([(h0, .inr (2, [.null, .int 0])), (q1, .inl (cy 3, 5, .inr (.inr (.inr (.inr (va_up (va_up (va_up (fun _ => none) (Int32.toNatClampNeg 0) (some (t3 0))) (Int32.toNatClampNeg 1) (some (t5 0))) (Int32.toNatClampNeg 2) (some (t7 0))))))))] ++ wX7 cy t3 sS0 ++ wX7 cy t5 sS0 ++ wX7 cy t7 sS0 ++ wX7 cy t9 sS0 : va_W) H := nP
  have hD : va_D A ([(h0, .inr (2, [.null, .int 0])), (q1, .inl (cy 3, 5, .inr (.inr (.inr (.inr (va_up (va_up (va_up (fun _ => none) (Int32.toNatClampNeg 0) (some (t3 0))) (Int32.toNatClampNeg 1) (some (t5 0))) (Int32.toNatClampNeg 2) (some (t7 0))))))))] ++ wX7 cy t3 sS0 ++ wX7 cy t5 sS0 ++ wX7 cy t7 sS0 ++ wX7 cy t9 sS0 : va_W) := nD
  have hS := nS
  clear nP nD nS
  refine W.widen (k := 45) (n := 1825) (by omega) (by omega) ?_
  refine va_astq hx hb hK hP hD hS 1 3 35 7 rfl rfl rfl rfl (show ¬ ((3 : Int32) < 0 ∨ 5 ≤ Int32.toNatClampNeg 3) from by decide) dX2_init_48 (fun H locs hP hD hS => ?_)
  have hP : va_P D vwCl ([(h0, .inr (2, [.null, .int 0])), (q1, .inl (cy 3, 5, .inr (.inr (.inr (.inr (va_up (va_up (va_up (va_up (fun _ => none) (Int32.toNatClampNeg 0) (some (t3 0))) (Int32.toNatClampNeg 1) (some (t5 0))) (Int32.toNatClampNeg 2) (some (t7 0))) (Int32.toNatClampNeg 3) (some (t9 0))))))))] ++ wX7 cy t3 sS0 ++ wX7 cy t5 sS0 ++ wX7 cy t7 sS0 ++ wX7 cy t9 sS0 : va_W) H := hP
  have hD : va_D A ([(h0, .inr (2, [.null, .int 0])), (q1, .inl (cy 3, 5, .inr (.inr (.inr (.inr (va_up (va_up (va_up (va_up (fun _ => none) (Int32.toNatClampNeg 0) (some (t3 0))) (Int32.toNatClampNeg 1) (some (t5 0))) (Int32.toNatClampNeg 2) (some (t7 0))) (Int32.toNatClampNeg 3) (some (t9 0))))))))] ++ wX7 cy t3 sS0 ++ wX7 cy t5 sS0 ++ wX7 cy t7 sS0 ++ wX7 cy t9 sS0 : va_W) := hD
  refine lv_dup hx hb dX2_init_49 rfl ?_
  refine lv_iconst (v := 4) hx hb dX2_init_50 (by decide) ?_
  refine va_new (ci := 7) (fs := [.null, .null, .int 0]) (C := RX7) (T := TX7) (N := 3) hx hb hts i_X2_init_X7 tyX7 tyX7_ok hown (hts (.classLink RX2 9 RX7) (by decide +kernel)) (hts (.instantiable RX7 3) (by decide +kernel)) (hts (.initialized RX7) (by decide +kernel)) hK hP hD hS hA rfl (fun j hj => by rcases (show j = 0 ∨ j = 1 ∨ j = 2 by omega) with rfl | rfl | rfl <;> rfl) (Nat.le_of_ble_eq_true rfl) (Nat.le_of_ble_eq_true rfl) dX2_init_51 (fun q10 H hP hD hS => ?_)
  have hP : va_P D vwCl ([(h0, .inr (2, [.null, .int 0])), (q1, .inl (cy 3, 5, .inr (.inr (.inr (.inr (va_up (va_up (va_up (va_up (fun _ => none) (Int32.toNatClampNeg 0) (some (t3 0))) (Int32.toNatClampNeg 1) (some (t5 0))) (Int32.toNatClampNeg 2) (some (t7 0))) (Int32.toNatClampNeg 3) (some (t9 0))))))))] ++ wX7 cy t3 sS0 ++ wX7 cy t5 sS0 ++ wX7 cy t7 sS0 ++ wX7 cy t9 sS0 ++ [(q10, .inr (7, [.null, .null, .int 0]))] : va_W) H := hP
  have hD : va_D A ([(h0, .inr (2, [.null, .int 0])), (q1, .inl (cy 3, 5, .inr (.inr (.inr (.inr (va_up (va_up (va_up (va_up (fun _ => none) (Int32.toNatClampNeg 0) (some (t3 0))) (Int32.toNatClampNeg 1) (some (t5 0))) (Int32.toNatClampNeg 2) (some (t7 0))) (Int32.toNatClampNeg 3) (some (t9 0))))))))] ++ wX7 cy t3 sS0 ++ wX7 cy t5 sS0 ++ wX7 cy t7 sS0 ++ wX7 cy t9 sS0 ++ [(q10, .inr (7, [.null, .null, .int 0]))] : va_W) := hD
  refine W.widen (k := 46) (n := 1828) (by omega) (by omega) ?_
  refine lv_dup hx hb dX2_init_54 rfl ?_
  refine w_callC hP hD hS hA [46] [0, 1, 2, 3, 4, 5, 6, 7, 8, 9, 10, 11, 12, 13, 14, 15, 16, 17, 18, 19, 20, 21, 22, 23, 24, 25, 26, 27, 28, 29, 30, 31, 32, 33, 34, 35, 36, 37, 38, 39, 40, 41, 42, 43, 44, 45] (wc := [(q10, .inr (7, [.null, .null, .int 0]))]) (wr := ([(h0, .inr (2, [.null, .int 0])), (q1, .inl (cy 3, 5, .inr (.inr (.inr (.inr (va_up (va_up (va_up (va_up (fun _ => none) (Int32.toNatClampNeg 0) (some (t3 0))) (Int32.toNatClampNeg 1) (some (t5 0))) (Int32.toNatClampNeg 2) (some (t7 0))) (Int32.toNatClampNeg 3) (some (t9 0))))))))] ++ wX7 cy t3 sS0 ++ wX7 cy t5 sS0 ++ wX7 cy t7 sS0 ++ wX7 cy t9 sS0 : va_W)) rfl rfl (by decide) (by decide) (va_runIN (As := []) (rest := [.ref q10, .int 4, .ref q1, .ref q1, .ref h0]) ⟨hx, hb, hml, hown, hts⟩ (c_X7_init l D cy q10 H.size) ⟨va_cnB 0 hts gX2_init_X7_init_n11 rfl rfl rfl (nM_X2_11 hE.1) (hts (.initialized RX7) (by decide +kernel)) (by decide +kernel) ⟨Nat.le_of_ble_eq_true rfl, Nat.le_of_ble_eq_true rfl⟩, rfl, hts (.instanceMethod yX7_init) (by decide +kernel)⟩ (w_preIC hO hE hS hA hK hP hD [46] rfl rfl (by decide)) rfl rfl hl.1 rfl (lv_room (Nat.le_of_ble_eq_true rfl)) dX2_init_55 ⟨Nat.le_of_ble_eq_true rfl, Nat.le_of_ble_eq_true rfl⟩) (fun u H locs hw nP nD nS => ?_)
  clear hP hD hS
  obtain ⟨t11, ht0, rfl⟩ := hw
  subst ht0
  have hP : va_P D vwCl ([(h0, .inr (2, [.null, .int 0])), (q1, .inl (cy 3, 5, .inr (.inr (.inr (.inr (va_up (va_up (va_up (va_up (fun _ => none) (Int32.toNatClampNeg 0) (some (t3 0))) (Int32.toNatClampNeg 1) (some (t5 0))) (Int32.toNatClampNeg 2) (some (t7 0))) (Int32.toNatClampNeg 3) (some (t9 0))))))))] ++ wX7 cy t3 sS0 ++ wX7 cy t5 sS0 ++ wX7 cy t7 sS0 ++ wX7 cy t9 sS0 ++ wX7 cy t11 sS0 : va_W) H := nP
  have hD : va_D A ([(h0, .inr (2, [.null, .int 0])), (q1, .inl (cy 3, 5, .inr (.inr (.inr (.inr (va_up (va_up (va_up (va_up (fun _ => none) (Int32.toNatClampNeg 0) (some (t3 0))) (Int32.toNatClampNeg 1) (some (t5 0))) (Int32.toNatClampNeg 2) (some (t7 0))) (Int32.toNatClampNeg 3) (some (t9 0))))))))] ++ wX7 cy t3 sS0 ++ wX7 cy t5 sS0 ++ wX7 cy t7 sS0 ++ wX7 cy t9 sS0 ++ wX7 cy t11 sS0 : va_W) := nD
  have hS := nS
  clear nP nD nS
  refine W.widen (k := 56) (n := 2280) (by omega) (by omega) ?_
  refine va_astq hx hb hK hP hD hS 1 3 46 7 rfl rfl rfl rfl (show ¬ ((4 : Int32) < 0 ∨ 5 ≤ Int32.toNatClampNeg 4) from by decide) dX2_init_58 (fun H locs hP hD hS => ?_)
  have hP : va_P D vwCl ([(h0, .inr (2, [.null, .int 0])), (q1, .inl (cy 3, 5, .inr (.inr (.inr (.inr (va_up (va_up (va_up (va_up (va_up (fun _ => none) (Int32.toNatClampNeg 0) (some (t3 0))) (Int32.toNatClampNeg 1) (some (t5 0))) (Int32.toNatClampNeg 2) (some (t7 0))) (Int32.toNatClampNeg 3) (some (t9 0))) (Int32.toNatClampNeg 4) (some (t11 0))))))))] ++ wX7 cy t3 sS0 ++ wX7 cy t5 sS0 ++ wX7 cy t7 sS0 ++ wX7 cy t9 sS0 ++ wX7 cy t11 sS0 : va_W) H := hP
  have hD : va_D A ([(h0, .inr (2, [.null, .int 0])), (q1, .inl (cy 3, 5, .inr (.inr (.inr (.inr (va_up (va_up (va_up (va_up (va_up (fun _ => none) (Int32.toNatClampNeg 0) (some (t3 0))) (Int32.toNatClampNeg 1) (some (t5 0))) (Int32.toNatClampNeg 2) (some (t7 0))) (Int32.toNatClampNeg 3) (some (t9 0))) (Int32.toNatClampNeg 4) (some (t11 0))))))))] ++ wX7 cy t3 sS0 ++ wX7 cy t5 sS0 ++ wX7 cy t7 sS0 ++ wX7 cy t9 sS0 ++ wX7 cy t11 sS0 : va_W) := hD
  refine va_putF (D := D) (ci := 2) (v := .ref q1) (ty := .array (.object "FoldedMenu$State")) (C := RX2) (T := TX2) (N := 2) hx hb hts i_X2_init_X2 tyX2 tyX2_ok nmX2 hown hK hP hD hS 0 rfl rfl 0 (by decide) (hts (.fieldLink RX2 12 "FoldedMenu$History" "states" "[LFoldedMenu$State;") (by decide +kernel)) (fun _ h9 => h9) rfl hin rfl (by decide +kernel) rfl rfl (Nat.le_of_ble_eq_true rfl) dX2_init_59 (fun H locs hP hD hS => ?_)
  have hP : va_P D vwCl ([(h0, .inr (2, [.ref q1, .int 0])), (q1, .inl (cy 3, 5, .inr (.inr (.inr (.inr (va_up (va_up (va_up (va_up (va_up (fun _ => none) (Int32.toNatClampNeg 0) (some (t3 0))) (Int32.toNatClampNeg 1) (some (t5 0))) (Int32.toNatClampNeg 2) (some (t7 0))) (Int32.toNatClampNeg 3) (some (t9 0))) (Int32.toNatClampNeg 4) (some (t11 0))))))))] ++ wX7 cy t3 sS0 ++ wX7 cy t5 sS0 ++ wX7 cy t7 sS0 ++ wX7 cy t9 sS0 ++ wX7 cy t11 sS0 : va_W) H := hP
  have hD : va_D A ([(h0, .inr (2, [.ref q1, .int 0])), (q1, .inl (cy 3, 5, .inr (.inr (.inr (.inr (va_up (va_up (va_up (va_up (va_up (fun _ => none) (Int32.toNatClampNeg 0) (some (t3 0))) (Int32.toNatClampNeg 1) (some (t5 0))) (Int32.toNatClampNeg 2) (some (t7 0))) (Int32.toNatClampNeg 3) (some (t9 0))) (Int32.toNatClampNeg 4) (some (t11 0))))))))] ++ wX7 cy t3 sS0 ++ wX7 cy t5 sS0 ++ wX7 cy t7 sS0 ++ wX7 cy t9 sS0 ++ wX7 cy t11 sS0 : va_W) := hD
  refine lv_aload_n hx hb dX2_init_62 rfl (lv_at hl 0 rfl) ?_
  refine lv_iconst (v := 0) hx hb dX2_init_63 (by decide) ?_
  refine va_put (D := D) (ci := 2) (v := .int 0) (ty := .int) (C := RX2) (T := TX2) (N := 2) hx hb hts i_X2_init_X2 tyX2 tyX2_ok nmX2 hown hK hP hD hS 0 rfl rfl 1 (by decide) (hts (.fieldLink RX2 18 "FoldedMenu$History" "size" "I") (by decide +kernel)) (fun _ h9 => h9) rfl (by decide +kernel) rfl rfl (Nat.le_of_ble_eq_true rfl) dX2_init_64 (fun H locs hP hD hS => ?_)
  have hP : va_P D vwCl ([(h0, .inr (2, [.ref q1, .int 0])), (q1, .inl (cy 3, 5, .inr (.inr (.inr (.inr (va_up (va_up (va_up (va_up (va_up (fun _ => none) (Int32.toNatClampNeg 0) (some (t3 0))) (Int32.toNatClampNeg 1) (some (t5 0))) (Int32.toNatClampNeg 2) (some (t7 0))) (Int32.toNatClampNeg 3) (some (t9 0))) (Int32.toNatClampNeg 4) (some (t11 0))))))))] ++ wX7 cy t3 sS0 ++ wX7 cy t5 sS0 ++ wX7 cy t7 sS0 ++ wX7 cy t9 sS0 ++ wX7 cy t11 sS0 : va_W) H := hP
  have hD : va_D A ([(h0, .inr (2, [.ref q1, .int 0])), (q1, .inl (cy 3, 5, .inr (.inr (.inr (.inr (va_up (va_up (va_up (va_up (va_up (fun _ => none) (Int32.toNatClampNeg 0) (some (t3 0))) (Int32.toNatClampNeg 1) (some (t5 0))) (Int32.toNatClampNeg 2) (some (t7 0))) (Int32.toNatClampNeg 3) (some (t9 0))) (Int32.toNatClampNeg 4) (some (t11 0))))))))] ++ wX7 cy t3 sS0 ++ wX7 cy t5 sS0 ++ wX7 cy t7 sS0 ++ wX7 cy t9 sS0 ++ wX7 cy t11 sS0 : va_W) := hD
  have e9 : (va_up (va_up (va_up (va_up (va_up (fun _ => none) (Int32.toNatClampNeg 0) (some (t3 0))) (Int32.toNatClampNeg 1) (some (t5 0))) (Int32.toNatClampNeg 2) (some (t7 0))) (Int32.toNatClampNeg 3) (some (t9 0))) (Int32.toNatClampNeg 4) (some (t11 0))) = (fun j => if j < 5 then some ((fun j => if j = 0 then t3 else if j = 1 then t5 else if j = 2 then t7 else if j = 3 then t9 else t11) j 0) else none) := by
    funext j
    match j with
    | 0 => rfl
    | 1 => rfl
    | 2 => rfl
    | 3 => rfl
    | 4 => rfl
    | j + 5 => simp [va_up]
  rw [e9] at hP hD
  have hP := hP.sub (ws' := wX2 cy (w_app 1 (fun _ => h0) ((fun _ => q1))) ((fun _ => sS0)) ((fun j => if j = 0 then t3 else if j = 1 then t5 else if j = 2 then t7 else if j = 3 then t9 else t11)) 0) [0, 1, 2, 3, 4, 5, 6, 7, 8, 9, 10, 11, 12, 13, 14, 15, 16, 17, 18, 19, 20, 21, 22, 23, 24, 25, 26, 27, 28, 29, 30, 31, 32, 33, 34, 35, 36, 37, 38, 39, 40, 41, 42, 43, 44, 45, 46, 47, 48, 49, 50, 51, 52, 53, 54, 55, 56] rfl
  have hD := hD.sub (ws' := wX2 cy (w_app 1 (fun _ => h0) ((fun _ => q1))) ((fun _ => sS0)) ((fun j => if j = 0 then t3 else if j = 1 then t5 else if j = 2 then t7 else if j = 3 then t9 else t11)) 0) [0, 1, 2, 3, 4, 5, 6, 7, 8, 9, 10, 11, 12, 13, 14, 15, 16, 17, 18, 19, 20, 21, 22, 23, 24, 25, 26, 27, 28, 29, 30, 31, 32, 33, 34, 35, 36, 37, 38, 39, 40, 41, 42, 43, 44, 45, 46, 47, 48, 49, 50, 51, 52, 53, 54, 55, 56] (by decide) rfl
  exact W.vret hx hb hr (fun T9 ht _ => ⟨⟨_, rfl, ⟨(w_app 1 (fun _ => h0) ((fun _ => q1))), (fun j => if j = 0 then t3 else if j = 1 then t5 else if j = 2 then t7 else if j = 3 then t9 else t11), rfl, rfl⟩, by rw [ht]; exact hP, hD⟩, hS.F ht⟩) hS.2.2 dX2_init_67

theorem i_X5_init_X5 : ∀ w ∈ u_ws RX5 TX5 5, w ∈ wsX5_init := by decide +kernel
abbrev r_X5_init : Room := { frames := 1, cells := 2, slots := 147, locals := 32 }
set_option maxHeartbeats 4000000 in
set_option maxRecDepth 100000 in
theorem c_X5_init (l : Launch) (D : va_G) (cy : Nat → ClassId) (h0 : Nat) (sz : Nat) : Met l yX5_init wsX5_init r_X5_init (wPC [.ref h0] sz D cy [(h0, .inr (5, [.null, .null, .int 0, .int 0, .int 0]))]) (va_Qv (fun u => ∃ (t : Nat → Nat), t 0 = h0 ∧ u = wX5 cy t ((fun _ => 0)) ((fun _ => 0)) 0 0 0) (fun u T9 => va_P D vwCl u T9.heap ∧ va_D (va_A [(h0, .inr (5, [.null, .null, .int 0, .int 0, .int 0]))] sz) u) (va_A [(h0, .inr (5, [.null, .null, .int 0, .int 0, .int 0]))] sz)) 2 147 (va_A [(h0, .inr (5, [.null, .null, .int 0, .int 0, .int 0]))] sz) := by
  refine Met.ofW (cc := cX5_init) (maxL := 1) (ret := none) (by decide) rfl ?_
  intro p e s m args below meth c s₁ B hml hv
  obtain ⟨⟨hargs, hsz, hE, hP, hK, hD0⟩, hO⟩ := hv
  have hx := B.exec
  have hb := B.bytes
  have hr := B.returns
  have hts := atoms_spec (ws := wsX5_init) B.pre
  have hown : s.vm.findClass RX5 = some m.cls := findClass_of_methodNamed B.named
  have hlocks := B.notSynchronized
  have hin : meth.name = "<init>" := (name_of_methodNamed B.named B.method).1
  clear B
  subst hsz
  have hD := hD0.self (sz := s.heap.size)
  generalize hAe : va_A [(h0, .inr (5, [.null, .null, .int 0, .int 0, .int 0]))] s.heap.size = A at hD hE ⊢
  have hA : ∀ q : Nat, s.heap.size ≤ q → A q := fun q h => by rw [← hAe]; exact Or.inr h
  clear hAe hD0
  have hS : va_S A s.heap s.heap [] := va_S.rf
  show W p l e r_X5_init s m args below meth c s.heap [] 0 0 (MQ below (va_Qv (fun u => ∃ (t : Nat → Nat), t 0 = h0 ∧ u = wX5 cy t ((fun _ => 0)) ((fun _ => 0)) 0 0 0) (fun u T9 => va_P D vwCl u T9.heap ∧ va_D A u) A) args s 2 147 A) (entryFrame m args 1)
  rw [show entryFrame m args 1 = entryFrame m ([.ref h0] : List Value).toArray 1 from by rw [hargs]]
  have hl := lv_entry ([.ref h0]) (n := 1) (Nat.le_of_ble_eq_true rfl)
  rw [lg_entry_eq]
  generalize (lg_sl ([.ref h0]) ++ List.replicate (1 - (lg_sl ([.ref h0])).length) Slot.unset).toArray = ls at hl ⊢
  have hl : lv_has ls 1 [(0, .ref h0)] := hl
  clear hargs
  suffices key : ∀ (H : Heap) (locs : List Loc), va_P D vwCl [(h0, .inr (5, [.null, .null, .int 0, .int 0, .int 0]))] H → va_D A [(h0, .inr (5, [.null, .null, .int 0, .int 0, .int 0]))] → va_S A s.heap H locs → W p l e r_X5_init s m args below meth c H locs 0 0 (MQ below (va_Qv (fun u => ∃ (t : Nat → Nat), t 0 = h0 ∧ u = wX5 cy t ((fun _ => 0)) ((fun _ => 0)) 0 0 0) (fun u T9 => va_P D vwCl u T9.heap ∧ va_D A u) A) args s 2 147 A) (F0 m 0 ls []) from key s.heap [] hP hD hS
  clear hP hD hS
  intro H locs hP hD hS
  refine lv_aload_n hx hb dX5_init_0 rfl (lv_at hl 0 rfl) ?_
  refine W.objInit hx hb hown (hts (.methodLink RX5 3 objectInit) (by decide +kernel)) (hts (.instanceMethod objectInit) (by decide +kernel)) (hts (.code objectInit ⟨#[0xb1]⟩ 1 none) (by decide +kernel)) rfl (by rw [hml]; exact hl.1) rfl dX5_init_1 (Nat.le_of_ble_eq_true rfl) (Nat.le_of_ble_eq_true rfl) ?_
  refine W.eq (g2 := F0 m 4 ls []) rfl ?_
  refine lv_aload_n hx hb dX5_init_4 rfl (lv_at hl 0 rfl) ?_
  refine lv_sipush (v := 140) hx hb dX5_init_5 (by decide) ?_
  refine va_newa (atype := .int) (ty := .int) (a0 := (140, .inl (fun _ => 0))) hx hb (hts (.arrayClass .int) (by decide +kernel)) rfl hK hP hD hS hA (fun _ => rfl) (by decide) rfl (Nat.le_of_ble_eq_true rfl) (Nat.le_of_ble_eq_true rfl) (Nat.le_of_ble_eq_true rfl) dX5_init_8 (fun q1 cA H hK hP hD hS => ?_)
  obtain rfl : cA = cy 0 := w_cy (hK.2 6 _ rfl).2 (hK.2 0 _ rfl).2
  have hK := hK.sub (tys' := wTy cy) [0, 1, 2, 3, 4, 5] rfl
  have hP : va_P D vwCl ([(h0, .inr (5, [.null, .null, .int 0, .int 0, .int 0])), (q1, .inl (cy 0, 140, .inl (fun _ => 0)))] : va_W) H := hP
  have hD : va_D A ([(h0, .inr (5, [.null, .null, .int 0, .int 0, .int 0])), (q1, .inl (cy 0, 140, .inl (fun _ => 0)))] : va_W) := hD
  refine W.widen (k := 1) (n := 140) (by omega) (by omega) ?_
  refine va_putF (D := D) (ci := 5) (v := .ref q1) (ty := .array .int) (C := RX5) (T := TX5) (N := 5) hx hb hts i_X5_init_X5 tyX5 tyX5_ok nmX5 hown hK hP hD hS 0 rfl rfl 0 (by decide) (hts (.fieldLink RX5 9 "FoldedMenu$Reader" "text" "[I") (by decide +kernel)) (fun _ h9 => h9) rfl hin rfl (by decide +kernel) rfl rfl (Nat.le_of_ble_eq_true rfl) dX5_init_10 (fun H locs hP hD hS => ?_)
  have hP : va_P D vwCl ([(h0, .inr (5, [.ref q1, .null, .int 0, .int 0, .int 0])), (q1, .inl (cy 0, 140, .inl (fun _ => 0)))] : va_W) H := hP
  have hD : va_D A ([(h0, .inr (5, [.ref q1, .null, .int 0, .int 0, .int 0])), (q1, .inl (cy 0, 140, .inl (fun _ => 0)))] : va_W) := hD
  refine lv_aload_n hx hb dX5_init_13 rfl (lv_at hl 0 rfl) ?_
  refine lv_bipush (v := 7) hx hb dX5_init_14 (by decide) ?_
  refine va_newa (atype := .int) (ty := .int) (a0 := (7, .inl (fun _ => 0))) hx hb (hts (.arrayClass .int) (by decide +kernel)) rfl hK hP hD hS hA (fun _ => rfl) (by decide) rfl (Nat.le_of_ble_eq_true rfl) (Nat.le_of_ble_eq_true rfl) (Nat.le_of_ble_eq_true rfl) dX5_init_16 (fun q2 cA H hK hP hD hS => ?_)
  obtain rfl : cA = cy 0 := w_cy (hK.2 6 _ rfl).2 (hK.2 0 _ rfl).2
  have hK := hK.sub (tys' := wTy cy) [0, 1, 2, 3, 4, 5] rfl
  have hP : va_P D vwCl ([(h0, .inr (5, [.ref q1, .null, .int 0, .int 0, .int 0])), (q1, .inl (cy 0, 140, .inl (fun _ => 0))), (q2, .inl (cy 0, 7, .inl (fun _ => 0)))] : va_W) H := hP
  have hD : va_D A ([(h0, .inr (5, [.ref q1, .null, .int 0, .int 0, .int 0])), (q1, .inl (cy 0, 140, .inl (fun _ => 0))), (q2, .inl (cy 0, 7, .inl (fun _ => 0)))] : va_W) := hD
  refine W.widen (k := 2) (n := 147) (by omega) (by omega) ?_
  refine va_putF (D := D) (ci := 5) (v := .ref q2) (ty := .array .int) (C := RX5) (T := TX5) (N := 5) hx hb hts i_X5_init_X5 tyX5 tyX5_ok nmX5 hown hK hP hD hS 0 rfl rfl 1 (by decide) (hts (.fieldLink RX5 15 "FoldedMenu$Reader" "item" "[I") (by decide +kernel)) (fun _ h9 => h9) rfl hin rfl (by decide +kernel) rfl rfl (Nat.le_of_ble_eq_true rfl) dX5_init_18 (fun H locs hP hD hS => ?_)
  have hP : va_P D vwCl ([(h0, .inr (5, [.ref q1, .ref q2, .int 0, .int 0, .int 0])), (q1, .inl (cy 0, 140, .inl (fun _ => 0))), (q2, .inl (cy 0, 7, .inl (fun _ => 0)))] : va_W) H := hP
  have hD : va_D A ([(h0, .inr (5, [.ref q1, .ref q2, .int 0, .int 0, .int 0])), (q1, .inl (cy 0, 140, .inl (fun _ => 0))), (q2, .inl (cy 0, 7, .inl (fun _ => 0)))] : va_W) := hD
  refine lv_aload_n hx hb dX5_init_21 rfl (lv_at hl 0 rfl) ?_
  refine lv_iconst (v := 0) hx hb dX5_init_22 (by decide) ?_
  refine va_put (D := D) (ci := 5) (v := .int 0) (ty := .int) (C := RX5) (T := TX5) (N := 5) hx hb hts i_X5_init_X5 tyX5 tyX5_ok nmX5 hown hK hP hD hS 0 rfl rfl 2 (by decide) (hts (.fieldLink RX5 18 "FoldedMenu$Reader" "length" "I") (by decide +kernel)) (fun _ h9 => h9) rfl (by decide +kernel) rfl rfl (Nat.le_of_ble_eq_true rfl) dX5_init_23 (fun H locs hP hD hS => ?_)
  have hP : va_P D vwCl ([(h0, .inr (5, [.ref q1, .ref q2, .int 0, .int 0, .int 0])), (q1, .inl (cy 0, 140, .inl (fun _ => 0))), (q2, .inl (cy 0, 7, .inl (fun _ => 0)))] : va_W) H := hP
  have hD : va_D A ([(h0, .inr (5, [.ref q1, .ref q2, .int 0, .int 0, .int 0])), (q1, .inl (cy 0, 140, .inl (fun _ => 0))), (q2, .inl (cy 0, 7, .inl (fun _ => 0)))] : va_W) := hD
  have hP := hP.sub (ws' := wX5 cy (w_app 1 (fun _ => h0) (w_app 1 (fun _ => q1) ((fun _ => q2)))) ((fun _ => 0)) ((fun _ => 0)) 0 0 0) [0, 1, 2] rfl
  have hD := hD.sub (ws' := wX5 cy (w_app 1 (fun _ => h0) (w_app 1 (fun _ => q1) ((fun _ => q2)))) ((fun _ => 0)) ((fun _ => 0)) 0 0 0) [0, 1, 2] (by decide) rfl
  exact W.vret hx hb hr (fun T9 ht _ => ⟨⟨_, rfl, ⟨(w_app 1 (fun _ => h0) (w_app 1 (fun _ => q1) ((fun _ => q2)))), rfl, rfl⟩, by rw [ht]; exact hP, hD⟩, hS.F ht⟩) hS.2.2 dX5_init_26

theorem i_X4_init_X4 : ∀ w ∈ u_ws RX4 TX4 8, w ∈ wsX4_init := by decide +kernel
abbrev r_X4_init : Room := { frames := 1, cells := 3, slots := 12, locals := 32 }
set_option maxHeartbeats 4000000 in
set_option maxRecDepth 100000 in
theorem c_X4_init (l : Launch) (D : va_G) (cy : Nat → ClassId) (h0 : Nat) (sz : Nat) : Met l yX4_init wsX4_init r_X4_init (wPC [.ref h0] sz D cy [(h0, .inr (4, [.null, .null, .null, .int 0, .int 0, .int 0, .int 0, .int 0]))]) (va_Qv (fun u => ∃ (t : Nat → Nat), t 0 = h0 ∧ u = wX4 cy t ((fun _ => 0)) ((fun _ => 0)) ((fun _ => 0)) 0 0 0 0 0) (fun u T9 => va_P D vwCl u T9.heap ∧ va_D (va_A [(h0, .inr (4, [.null, .null, .null, .int 0, .int 0, .int 0, .int 0, .int 0]))] sz) u) (va_A [(h0, .inr (4, [.null, .null, .null, .int 0, .int 0, .int 0, .int 0, .int 0]))] sz)) 3 12 (va_A [(h0, .inr (4, [.null, .null, .null, .int 0, .int 0, .int 0, .int 0, .int 0]))] sz) := by
  refine Met.ofW (cc := cX4_init) (maxL := 1) (ret := none) (by decide) rfl ?_
  intro p e s m args below meth c s₁ B hml hv
  obtain ⟨⟨hargs, hsz, hE, hP, hK, hD0⟩, hO⟩ := hv
  have hx := B.exec
  have hb := B.bytes
  have hr := B.returns
  have hts := atoms_spec (ws := wsX4_init) B.pre
  have hown : s.vm.findClass RX4 = some m.cls := findClass_of_methodNamed B.named
  have hlocks := B.notSynchronized
  have hin : meth.name = "<init>" := (name_of_methodNamed B.named B.method).1
  clear B
  subst hsz
  have hD := hD0.self (sz := s.heap.size)
  generalize hAe : va_A [(h0, .inr (4, [.null, .null, .null, .int 0, .int 0, .int 0, .int 0, .int 0]))] s.heap.size = A at hD hE ⊢
  have hA : ∀ q : Nat, s.heap.size ≤ q → A q := fun q h => by rw [← hAe]; exact Or.inr h
  clear hAe hD0
  have hS : va_S A s.heap s.heap [] := va_S.rf
  show W p l e r_X4_init s m args below meth c s.heap [] 0 0 (MQ below (va_Qv (fun u => ∃ (t : Nat → Nat), t 0 = h0 ∧ u = wX4 cy t ((fun _ => 0)) ((fun _ => 0)) ((fun _ => 0)) 0 0 0 0 0) (fun u T9 => va_P D vwCl u T9.heap ∧ va_D A u) A) args s 3 12 A) (entryFrame m args 1)
  rw [show entryFrame m args 1 = entryFrame m ([.ref h0] : List Value).toArray 1 from by rw [hargs]]
  have hl := lv_entry ([.ref h0]) (n := 1) (Nat.le_of_ble_eq_true rfl)
  rw [lg_entry_eq]
  generalize (lg_sl ([.ref h0]) ++ List.replicate (1 - (lg_sl ([.ref h0])).length) Slot.unset).toArray = ls at hl ⊢
  have hl : lv_has ls 1 [(0, .ref h0)] := hl
  clear hargs
  suffices key : ∀ (H : Heap) (locs : List Loc), va_P D vwCl [(h0, .inr (4, [.null, .null, .null, .int 0, .int 0, .int 0, .int 0, .int 0]))] H → va_D A [(h0, .inr (4, [.null, .null, .null, .int 0, .int 0, .int 0, .int 0, .int 0]))] → va_S A s.heap H locs → W p l e r_X4_init s m args below meth c H locs 0 0 (MQ below (va_Qv (fun u => ∃ (t : Nat → Nat), t 0 = h0 ∧ u = wX4 cy t ((fun _ => 0)) ((fun _ => 0)) ((fun _ => 0)) 0 0 0 0 0) (fun u T9 => va_P D vwCl u T9.heap ∧ va_D A u) A) args s 3 12 A) (F0 m 0 ls []) from key s.heap [] hP hD hS
  clear hP hD hS
  intro H locs hP hD hS
  refine lv_aload_n hx hb dX4_init_0 rfl (lv_at hl 0 rfl) ?_
  refine W.objInit hx hb hown (hts (.methodLink RX4 3 objectInit) (by decide +kernel)) (hts (.instanceMethod objectInit) (by decide +kernel)) (hts (.code objectInit ⟨#[0xb1]⟩ 1 none) (by decide +kernel)) rfl (by rw [hml]; exact hl.1) rfl dX4_init_1 (Nat.le_of_ble_eq_true rfl) (Nat.le_of_ble_eq_true rfl) ?_
  refine W.eq (g2 := F0 m 4 ls []) rfl ?_
  refine lv_aload_n hx hb dX4_init_4 rfl (lv_at hl 0 rfl) ?_
  refine lv_iconst (v := 4) hx hb dX4_init_5 (by decide) ?_
  refine va_newa (atype := .int) (ty := .int) (a0 := (4, .inl (fun _ => 0))) hx hb (hts (.arrayClass .int) (by decide +kernel)) rfl hK hP hD hS hA (fun _ => rfl) (by decide) rfl (Nat.le_of_ble_eq_true rfl) (Nat.le_of_ble_eq_true rfl) (Nat.le_of_ble_eq_true rfl) dX4_init_6 (fun q1 cA H hK hP hD hS => ?_)
  obtain rfl : cA = cy 0 := w_cy (hK.2 6 _ rfl).2 (hK.2 0 _ rfl).2
  have hK := hK.sub (tys' := wTy cy) [0, 1, 2, 3, 4, 5] rfl
  have hP : va_P D vwCl ([(h0, .inr (4, [.null, .null, .null, .int 0, .int 0, .int 0, .int 0, .int 0])), (q1, .inl (cy 0, 4, .inl (fun _ => 0)))] : va_W) H := hP
  have hD : va_D A ([(h0, .inr (4, [.null, .null, .null, .int 0, .int 0, .int 0, .int 0, .int 0])), (q1, .inl (cy 0, 4, .inl (fun _ => 0)))] : va_W) := hD
  refine W.widen (k := 1) (n := 4) (by omega) (by omega) ?_
  refine va_putF (D := D) (ci := 4) (v := .ref q1) (ty := .array .int) (C := RX4) (T := TX4) (N := 8) hx hb hts i_X4_init_X4 tyX4 tyX4_ok nmX4 hown hK hP hD hS 0 rfl rfl 0 (by decide) (hts (.fieldLink RX4 9 "FoldedMenu$Printing" "dishes" "[I") (by decide +kernel)) (fun _ h9 => h9) rfl hin rfl (by decide +kernel) rfl rfl (Nat.le_of_ble_eq_true rfl) dX4_init_8 (fun H locs hP hD hS => ?_)
  have hP : va_P D vwCl ([(h0, .inr (4, [.ref q1, .null, .null, .int 0, .int 0, .int 0, .int 0, .int 0])), (q1, .inl (cy 0, 4, .inl (fun _ => 0)))] : va_W) H := hP
  have hD : va_D A ([(h0, .inr (4, [.ref q1, .null, .null, .int 0, .int 0, .int 0, .int 0, .int 0])), (q1, .inl (cy 0, 4, .inl (fun _ => 0)))] : va_W) := hD
  refine lv_aload_n hx hb dX4_init_11 rfl (lv_at hl 0 rfl) ?_
  refine lv_iconst (v := 4) hx hb dX4_init_12 (by decide) ?_
  refine va_newa (atype := .int) (ty := .int) (a0 := (4, .inl (fun _ => 0))) hx hb (hts (.arrayClass .int) (by decide +kernel)) rfl hK hP hD hS hA (fun _ => rfl) (by decide) rfl (Nat.le_of_ble_eq_true rfl) (Nat.le_of_ble_eq_true rfl) (Nat.le_of_ble_eq_true rfl) dX4_init_13 (fun q2 cA H hK hP hD hS => ?_)
  obtain rfl : cA = cy 0 := w_cy (hK.2 6 _ rfl).2 (hK.2 0 _ rfl).2
  have hK := hK.sub (tys' := wTy cy) [0, 1, 2, 3, 4, 5] rfl
  have hP : va_P D vwCl ([(h0, .inr (4, [.ref q1, .null, .null, .int 0, .int 0, .int 0, .int 0, .int 0])), (q1, .inl (cy 0, 4, .inl (fun _ => 0))), (q2, .inl (cy 0, 4, .inl (fun _ => 0)))] : va_W) H := hP
  have hD : va_D A ([(h0, .inr (4, [.ref q1, .null, .null, .int 0, .int 0, .int 0, .int 0, .int 0])), (q1, .inl (cy 0, 4, .inl (fun _ => 0))), (q2, .inl (cy 0, 4, .inl (fun _ => 0)))] : va_W) := hD
  refine W.widen (k := 2) (n := 8) (by omega) (by omega) ?_
  refine va_putF (D := D) (ci := 4) (v := .ref q2) (ty := .array .int) (C := RX4) (T := TX4) (N := 8) hx hb hts i_X4_init_X4 tyX4 tyX4_ok nmX4 hown hK hP hD hS 0 rfl rfl 1 (by decide) (hts (.fieldLink RX4 15 "FoldedMenu$Printing" "lines" "[I") (by decide +kernel)) (fun _ h9 => h9) rfl hin rfl (by decide +kernel) rfl rfl (Nat.le_of_ble_eq_true rfl) dX4_init_15 (fun H locs hP hD hS => ?_)
  have hP : va_P D vwCl ([(h0, .inr (4, [.ref q1, .ref q2, .null, .int 0, .int 0, .int 0, .int 0, .int 0])), (q1, .inl (cy 0, 4, .inl (fun _ => 0))), (q2, .inl (cy 0, 4, .inl (fun _ => 0)))] : va_W) H := hP
  have hD : va_D A ([(h0, .inr (4, [.ref q1, .ref q2, .null, .int 0, .int 0, .int 0, .int 0, .int 0])), (q1, .inl (cy 0, 4, .inl (fun _ => 0))), (q2, .inl (cy 0, 4, .inl (fun _ => 0)))] : va_W) := hD
  refine lv_aload_n hx hb dX4_init_18 rfl (lv_at hl 0 rfl) ?_
  refine lv_iconst (v := 4) hx hb dX4_init_19 (by decide) ?_
  refine va_newa (atype := .int) (ty := .int) (a0 := (4, .inl (fun _ => 0))) hx hb (hts (.arrayClass .int) (by decide +kernel)) rfl hK hP hD hS hA (fun _ => rfl) (by decide) rfl (Nat.le_of_ble_eq_true rfl) (Nat.le_of_ble_eq_true rfl) (Nat.le_of_ble_eq_true rfl) dX4_init_20 (fun q3 cA H hK hP hD hS => ?_)
  obtain rfl : cA = cy 0 := w_cy (hK.2 6 _ rfl).2 (hK.2 0 _ rfl).2
  have hK := hK.sub (tys' := wTy cy) [0, 1, 2, 3, 4, 5] rfl
  have hP : va_P D vwCl ([(h0, .inr (4, [.ref q1, .ref q2, .null, .int 0, .int 0, .int 0, .int 0, .int 0])), (q1, .inl (cy 0, 4, .inl (fun _ => 0))), (q2, .inl (cy 0, 4, .inl (fun _ => 0))), (q3, .inl (cy 0, 4, .inl (fun _ => 0)))] : va_W) H := hP
  have hD : va_D A ([(h0, .inr (4, [.ref q1, .ref q2, .null, .int 0, .int 0, .int 0, .int 0, .int 0])), (q1, .inl (cy 0, 4, .inl (fun _ => 0))), (q2, .inl (cy 0, 4, .inl (fun _ => 0))), (q3, .inl (cy 0, 4, .inl (fun _ => 0)))] : va_W) := hD
  refine W.widen (k := 3) (n := 12) (by omega) (by omega) ?_
  refine va_putF (D := D) (ci := 4) (v := .ref q3) (ty := .array .int) (C := RX4) (T := TX4) (N := 8) hx hb hts i_X4_init_X4 tyX4 tyX4_ok nmX4 hown hK hP hD hS 0 rfl rfl 2 (by decide) (hts (.fieldLink RX4 18 "FoldedMenu$Printing" "weights" "[I") (by decide +kernel)) (fun _ h9 => h9) rfl hin rfl (by decide +kernel) rfl rfl (Nat.le_of_ble_eq_true rfl) dX4_init_22 (fun H locs hP hD hS => ?_)
  have hP : va_P D vwCl ([(h0, .inr (4, [.ref q1, .ref q2, .ref q3, .int 0, .int 0, .int 0, .int 0, .int 0])), (q1, .inl (cy 0, 4, .inl (fun _ => 0))), (q2, .inl (cy 0, 4, .inl (fun _ => 0))), (q3, .inl (cy 0, 4, .inl (fun _ => 0)))] : va_W) H := hP
  have hD : va_D A ([(h0, .inr (4, [.ref q1, .ref q2, .ref q3, .int 0, .int 0, .int 0, .int 0, .int 0])), (q1, .inl (cy 0, 4, .inl (fun _ => 0))), (q2, .inl (cy 0, 4, .inl (fun _ => 0))), (q3, .inl (cy 0, 4, .inl (fun _ => 0)))] : va_W) := hD
  have hP := hP.sub (ws' := wX4 cy (w_app 1 (fun _ => h0) (w_app 1 (fun _ => q1) (w_app 1 (fun _ => q2) ((fun _ => q3))))) ((fun _ => 0)) ((fun _ => 0)) ((fun _ => 0)) 0 0 0 0 0) [0, 1, 2, 3] rfl
  have hD := hD.sub (ws' := wX4 cy (w_app 1 (fun _ => h0) (w_app 1 (fun _ => q1) (w_app 1 (fun _ => q2) ((fun _ => q3))))) ((fun _ => 0)) ((fun _ => 0)) ((fun _ => 0)) 0 0 0 0 0) [0, 1, 2, 3] (by decide) rfl
  exact W.vret hx hb hr (fun T9 ht _ => ⟨⟨_, rfl, ⟨(w_app 1 (fun _ => h0) (w_app 1 (fun _ => q1) (w_app 1 (fun _ => q2) ((fun _ => q3))))), rfl, rfl⟩, by rw [ht]; exact hP, hD⟩, hS.F ht⟩) hS.2.2 dX4_init_25

theorem i_X1_init_X1 : ∀ w ∈ u_ws RX1 TX1 5, w ∈ wsX1_init := by decide +kernel
abbrev r_X1_init : Room := { frames := 1, cells := 5, slots := 16, locals := 32 }
set_option maxHeartbeats 4000000 in
set_option maxRecDepth 100000 in
theorem c_X1_init (l : Launch) (D : va_G) (cy : Nat → ClassId) (h0 : Nat) (sz : Nat) : Met l yX1_init wsX1_init r_X1_init (wPC [.ref h0] sz D cy [(h0, .inr (1, [.null, .null, .null, .int 0, .int 0]))]) (va_Qv (fun u => ∃ (t : Nat → Nat), t 0 = h0 ∧ u = wX1 cy t ((fun _ _ => 0)) ((fun _ => 0)) ((fun _ => 0)) 0 0) (fun u T9 => va_P D vwCl u T9.heap ∧ va_D (va_A [(h0, .inr (1, [.null, .null, .null, .int 0, .int 0]))] sz) u) (va_A [(h0, .inr (1, [.null, .null, .null, .int 0, .int 0]))] sz)) 5 16 (va_A [(h0, .inr (1, [.null, .null, .null, .int 0, .int 0]))] sz) := by
  refine Met.ofW (cc := cX1_init) (maxL := 1) (ret := none) (by decide) rfl ?_
  intro p e s m args below meth c s₁ B hml hv
  obtain ⟨⟨hargs, hsz, hE, hP, hK, hD0⟩, hO⟩ := hv
  have hx := B.exec
  have hb := B.bytes
  have hr := B.returns
  have hts := atoms_spec (ws := wsX1_init) B.pre
  have hown : s.vm.findClass RX1 = some m.cls := findClass_of_methodNamed B.named
  have hlocks := B.notSynchronized
  have hin : meth.name = "<init>" := (name_of_methodNamed B.named B.method).1
  clear B
  subst hsz
  have hD := hD0.self (sz := s.heap.size)
  generalize hAe : va_A [(h0, .inr (1, [.null, .null, .null, .int 0, .int 0]))] s.heap.size = A at hD hE ⊢
  have hA : ∀ q : Nat, s.heap.size ≤ q → A q := fun q h => by rw [← hAe]; exact Or.inr h
  clear hAe hD0
  have hS : va_S A s.heap s.heap [] := va_S.rf
  show W p l e r_X1_init s m args below meth c s.heap [] 0 0 (MQ below (va_Qv (fun u => ∃ (t : Nat → Nat), t 0 = h0 ∧ u = wX1 cy t ((fun _ _ => 0)) ((fun _ => 0)) ((fun _ => 0)) 0 0) (fun u T9 => va_P D vwCl u T9.heap ∧ va_D A u) A) args s 5 16 A) (entryFrame m args 1)
  rw [show entryFrame m args 1 = entryFrame m ([.ref h0] : List Value).toArray 1 from by rw [hargs]]
  have hl := lv_entry ([.ref h0]) (n := 1) (Nat.le_of_ble_eq_true rfl)
  rw [lg_entry_eq]
  generalize (lg_sl ([.ref h0]) ++ List.replicate (1 - (lg_sl ([.ref h0])).length) Slot.unset).toArray = ls at hl ⊢
  have hl : lv_has ls 1 [(0, .ref h0)] := hl
  clear hargs
  suffices key : ∀ (H : Heap) (locs : List Loc), va_P D vwCl [(h0, .inr (1, [.null, .null, .null, .int 0, .int 0]))] H → va_D A [(h0, .inr (1, [.null, .null, .null, .int 0, .int 0]))] → va_S A s.heap H locs → W p l e r_X1_init s m args below meth c H locs 0 0 (MQ below (va_Qv (fun u => ∃ (t : Nat → Nat), t 0 = h0 ∧ u = wX1 cy t ((fun _ _ => 0)) ((fun _ => 0)) ((fun _ => 0)) 0 0) (fun u T9 => va_P D vwCl u T9.heap ∧ va_D A u) A) args s 5 16 A) (F0 m 0 ls []) from key s.heap [] hP hD hS
  clear hP hD hS
  intro H locs hP hD hS
  refine lv_aload_n hx hb dX1_init_0 rfl (lv_at hl 0 rfl) ?_
  refine W.objInit hx hb hown (hts (.methodLink RX1 3 objectInit) (by decide +kernel)) (hts (.instanceMethod objectInit) (by decide +kernel)) (hts (.code objectInit ⟨#[0xb1]⟩ 1 none) (by decide +kernel)) rfl (by rw [hml]; exact hl.1) rfl dX1_init_1 (Nat.le_of_ble_eq_true rfl) (Nat.le_of_ble_eq_true rfl) ?_
  refine W.eq (g2 := F0 m 4 ls []) rfl ?_
  refine lv_aload_n hx hb dX1_init_4 rfl (lv_at hl 0 rfl) ?_
  refine lv_iconst (v := 2) hx hb dX1_init_5 (by decide) ?_
  refine lv_iconst (v := 5) hx hb dX1_init_6 (by decide) ?_
  have hP0 : va_P D vwCl (([(h0, .inr (1, [.null, .null, .null, .int 0, .int 0]))] : va_W) ++ va_pl [] (fun _ => .inl (cy 0, (0, .inl (fun _ => 0))))) H := hP
  have hD0 : va_D A (([(h0, .inr (1, [.null, .null, .null, .int 0, .int 0]))] : va_W) ++ va_pl [] (fun _ => .inl (cy 0, (0, .inl (fun _ => 0))))) := hD
  refine va_mna (X := ([(h0, .inr (1, [.null, .null, .null, .int 0, .int 0]))] : va_W)) (L := []) (ty := .int) (cy := cy 0) (N' := 2) (K' := 5) (z := (5, .inl (fun _ => 0))) hx hb hown (hts (.classLink RX1 9 "[[I") (by decide +kernel)) hO.2.2.1 (hts (.arrayClass .int) (by decide +kernel)) (hK.2 0 _ rfl).2 hK hP0 hD0 hS hA (by decide) (by decide) rfl rfl (Nat.le_of_ble_eq_true rfl) (Nat.le_of_ble_eq_true rfl) (Nat.le_of_ble_eq_true rfl) rfl rfl (Nat.le_of_ble_eq_true rfl) (Nat.le_of_ble_eq_true rfl) (fun _ => rfl) dX1_init_7 (fun q1 r2 cA H hinj _ hK hP hD hS => ?_)
  clear hP0 hD0
  obtain rfl : cA = cy 4 := w_cy (hK.2 6 _ rfl).2 (hK.2 4 _ rfl).2
  have hK := hK.sub (tys' := wTy cy) [0, 1, 2, 3, 4, 5] rfl
  rw [List.nil_append, w_rows] at hP hD
  have e8 : (fun i => if i < 2 then some (r2 i) else none) = (fun j => if j = 0 then some (r2 0) else if j = 1 then some (r2 1) else none) := by
    funext j
    match j with
    | 0 => rfl
    | 1 => rfl
    | j + 2 => simp
  rw [e8] at hP hD
  have hP : va_P D vwCl ([(h0, .inr (1, [.null, .null, .null, .int 0, .int 0])), (q1, .inl (cy 4, 2, .inr (.inr (.inr (.inr (fun j => if j = 0 then some (r2 0) else if j = 1 then some (r2 1) else none)))))), (r2 0, .inl (cy 0, 5, .inl (fun _ => 0))), (r2 1, .inl (cy 0, 5, .inl (fun _ => 0)))] : va_W) H := hP
  have hD : va_D A ([(h0, .inr (1, [.null, .null, .null, .int 0, .int 0])), (q1, .inl (cy 4, 2, .inr (.inr (.inr (.inr (fun j => if j = 0 then some (r2 0) else if j = 1 then some (r2 1) else none)))))), (r2 0, .inl (cy 0, 5, .inl (fun _ => 0))), (r2 1, .inl (cy 0, 5, .inl (fun _ => 0)))] : va_W) := hD
  refine W.widen (k := 3) (n := 12) (by omega) (by omega) ?_
  refine va_putF (D := D) (ci := 1) (v := .ref q1) (ty := .array (.array .int)) (C := RX1) (T := TX1) (N := 5) hx hb hts i_X1_init_X1 tyX1 tyX1_ok nmX1 hown hK hP hD hS 0 rfl rfl 0 (by decide) (hts (.fieldLink RX1 11 "FoldedMenu$Fold" "parts" "[[I") (by decide +kernel)) (fun _ h9 => h9) rfl hin rfl (by decide +kernel) rfl rfl (Nat.le_of_ble_eq_true rfl) dX1_init_11 (fun H locs hP hD hS => ?_)
  have hP : va_P D vwCl ([(h0, .inr (1, [.ref q1, .null, .null, .int 0, .int 0])), (q1, .inl (cy 4, 2, .inr (.inr (.inr (.inr (fun j => if j = 0 then some (r2 0) else if j = 1 then some (r2 1) else none)))))), (r2 0, .inl (cy 0, 5, .inl (fun _ => 0))), (r2 1, .inl (cy 0, 5, .inl (fun _ => 0)))] : va_W) H := hP
  have hD : va_D A ([(h0, .inr (1, [.ref q1, .null, .null, .int 0, .int 0])), (q1, .inl (cy 4, 2, .inr (.inr (.inr (.inr (fun j => if j = 0 then some (r2 0) else if j = 1 then some (r2 1) else none)))))), (r2 0, .inl (cy 0, 5, .inl (fun _ => 0))), (r2 1, .inl (cy 0, 5, .inl (fun _ => 0)))] : va_W) := hD
  refine lv_aload_n hx hb dX1_init_14 rfl (lv_at hl 0 rfl) ?_
  refine lv_iconst (v := 2) hx hb dX1_init_15 (by decide) ?_
  refine va_newa (atype := .int) (ty := .int) (a0 := (2, .inl (fun _ => 0))) hx hb (hts (.arrayClass .int) (by decide +kernel)) rfl hK hP hD hS hA (fun _ => rfl) (by decide) rfl (Nat.le_of_ble_eq_true rfl) (Nat.le_of_ble_eq_true rfl) (Nat.le_of_ble_eq_true rfl) dX1_init_16 (fun q3 cA H hK hP hD hS => ?_)
  obtain rfl : cA = cy 0 := w_cy (hK.2 6 _ rfl).2 (hK.2 0 _ rfl).2
  have hK := hK.sub (tys' := wTy cy) [0, 1, 2, 3, 4, 5] rfl
  have hP : va_P D vwCl ([(h0, .inr (1, [.ref q1, .null, .null, .int 0, .int 0])), (q1, .inl (cy 4, 2, .inr (.inr (.inr (.inr (fun j => if j = 0 then some (r2 0) else if j = 1 then some (r2 1) else none)))))), (r2 0, .inl (cy 0, 5, .inl (fun _ => 0))), (r2 1, .inl (cy 0, 5, .inl (fun _ => 0))), (q3, .inl (cy 0, 2, .inl (fun _ => 0)))] : va_W) H := hP
  have hD : va_D A ([(h0, .inr (1, [.ref q1, .null, .null, .int 0, .int 0])), (q1, .inl (cy 4, 2, .inr (.inr (.inr (.inr (fun j => if j = 0 then some (r2 0) else if j = 1 then some (r2 1) else none)))))), (r2 0, .inl (cy 0, 5, .inl (fun _ => 0))), (r2 1, .inl (cy 0, 5, .inl (fun _ => 0))), (q3, .inl (cy 0, 2, .inl (fun _ => 0)))] : va_W) := hD
  refine W.widen (k := 4) (n := 14) (by omega) (by omega) ?_
  refine va_putF (D := D) (ci := 1) (v := .ref q3) (ty := .array .int) (C := RX1) (T := TX1) (N := 5) hx hb hts i_X1_init_X1 tyX1 tyX1_ok nmX1 hown hK hP hD hS 0 rfl rfl 1 (by decide) (hts (.fieldLink RX1 16 "FoldedMenu$Fold" "weights" "[I") (by decide +kernel)) (fun _ h9 => h9) rfl hin rfl (by decide +kernel) rfl rfl (Nat.le_of_ble_eq_true rfl) dX1_init_18 (fun H locs hP hD hS => ?_)
  have hP : va_P D vwCl ([(h0, .inr (1, [.ref q1, .ref q3, .null, .int 0, .int 0])), (q1, .inl (cy 4, 2, .inr (.inr (.inr (.inr (fun j => if j = 0 then some (r2 0) else if j = 1 then some (r2 1) else none)))))), (r2 0, .inl (cy 0, 5, .inl (fun _ => 0))), (r2 1, .inl (cy 0, 5, .inl (fun _ => 0))), (q3, .inl (cy 0, 2, .inl (fun _ => 0)))] : va_W) H := hP
  have hD : va_D A ([(h0, .inr (1, [.ref q1, .ref q3, .null, .int 0, .int 0])), (q1, .inl (cy 4, 2, .inr (.inr (.inr (.inr (fun j => if j = 0 then some (r2 0) else if j = 1 then some (r2 1) else none)))))), (r2 0, .inl (cy 0, 5, .inl (fun _ => 0))), (r2 1, .inl (cy 0, 5, .inl (fun _ => 0))), (q3, .inl (cy 0, 2, .inl (fun _ => 0)))] : va_W) := hD
  refine lv_aload_n hx hb dX1_init_21 rfl (lv_at hl 0 rfl) ?_
  refine lv_iconst (v := 2) hx hb dX1_init_22 (by decide) ?_
  refine va_newa (atype := .int) (ty := .int) (a0 := (2, .inl (fun _ => 0))) hx hb (hts (.arrayClass .int) (by decide +kernel)) rfl hK hP hD hS hA (fun _ => rfl) (by decide) rfl (Nat.le_of_ble_eq_true rfl) (Nat.le_of_ble_eq_true rfl) (Nat.le_of_ble_eq_true rfl) dX1_init_23 (fun q4 cA H hK hP hD hS => ?_)
  obtain rfl : cA = cy 0 := w_cy (hK.2 6 _ rfl).2 (hK.2 0 _ rfl).2
  have hK := hK.sub (tys' := wTy cy) [0, 1, 2, 3, 4, 5] rfl
  have hP : va_P D vwCl ([(h0, .inr (1, [.ref q1, .ref q3, .null, .int 0, .int 0])), (q1, .inl (cy 4, 2, .inr (.inr (.inr (.inr (fun j => if j = 0 then some (r2 0) else if j = 1 then some (r2 1) else none)))))), (r2 0, .inl (cy 0, 5, .inl (fun _ => 0))), (r2 1, .inl (cy 0, 5, .inl (fun _ => 0))), (q3, .inl (cy 0, 2, .inl (fun _ => 0))), (q4, .inl (cy 0, 2, .inl (fun _ => 0)))] : va_W) H := hP
  have hD : va_D A ([(h0, .inr (1, [.ref q1, .ref q3, .null, .int 0, .int 0])), (q1, .inl (cy 4, 2, .inr (.inr (.inr (.inr (fun j => if j = 0 then some (r2 0) else if j = 1 then some (r2 1) else none)))))), (r2 0, .inl (cy 0, 5, .inl (fun _ => 0))), (r2 1, .inl (cy 0, 5, .inl (fun _ => 0))), (q3, .inl (cy 0, 2, .inl (fun _ => 0))), (q4, .inl (cy 0, 2, .inl (fun _ => 0)))] : va_W) := hD
  refine W.widen (k := 5) (n := 16) (by omega) (by omega) ?_
  refine va_putF (D := D) (ci := 1) (v := .ref q4) (ty := .array .int) (C := RX1) (T := TX1) (N := 5) hx hb hts i_X1_init_X1 tyX1 tyX1_ok nmX1 hown hK hP hD hS 0 rfl rfl 2 (by decide) (hts (.fieldLink RX1 20 "FoldedMenu$Fold" "places" "[I") (by decide +kernel)) (fun _ h9 => h9) rfl hin rfl (by decide +kernel) rfl rfl (Nat.le_of_ble_eq_true rfl) dX1_init_25 (fun H locs hP hD hS => ?_)
  have hP : va_P D vwCl ([(h0, .inr (1, [.ref q1, .ref q3, .ref q4, .int 0, .int 0])), (q1, .inl (cy 4, 2, .inr (.inr (.inr (.inr (fun j => if j = 0 then some (r2 0) else if j = 1 then some (r2 1) else none)))))), (r2 0, .inl (cy 0, 5, .inl (fun _ => 0))), (r2 1, .inl (cy 0, 5, .inl (fun _ => 0))), (q3, .inl (cy 0, 2, .inl (fun _ => 0))), (q4, .inl (cy 0, 2, .inl (fun _ => 0)))] : va_W) H := hP
  have hD : va_D A ([(h0, .inr (1, [.ref q1, .ref q3, .ref q4, .int 0, .int 0])), (q1, .inl (cy 4, 2, .inr (.inr (.inr (.inr (fun j => if j = 0 then some (r2 0) else if j = 1 then some (r2 1) else none)))))), (r2 0, .inl (cy 0, 5, .inl (fun _ => 0))), (r2 1, .inl (cy 0, 5, .inl (fun _ => 0))), (q3, .inl (cy 0, 2, .inl (fun _ => 0))), (q4, .inl (cy 0, 2, .inl (fun _ => 0)))] : va_W) := hD
  have hP := hP.sub (ws' := wX1 cy (w_app 1 (fun _ => h0) (w_app 1 (fun _ => q1) (w_app 2 r2 (w_app 1 (fun _ => q3) ((fun _ => q4)))))) ((fun _ _ => 0)) ((fun _ => 0)) ((fun _ => 0)) 0 0) [0, 1, 2, 3, 4, 5] rfl
  have hD := hD.sub (ws' := wX1 cy (w_app 1 (fun _ => h0) (w_app 1 (fun _ => q1) (w_app 2 r2 (w_app 1 (fun _ => q3) ((fun _ => q4)))))) ((fun _ _ => 0)) ((fun _ => 0)) ((fun _ => 0)) 0 0) [0, 1, 2, 3, 4, 5] (by decide) rfl
  exact W.vret hx hb hr (fun T9 ht _ => ⟨⟨_, rfl, ⟨(w_app 1 (fun _ => h0) (w_app 1 (fun _ => q1) (w_app 2 r2 (w_app 1 (fun _ => q3) ((fun _ => q4)))))), rfl, rfl⟩, by rw [ht]; exact hP, hD⟩, hS.F ht⟩) hS.2.2 dX1_init_28

theorem i_X0_init_X0 : ∀ w ∈ u_ws RX0 TX0 7, w ∈ wsX0_init := by decide +kernel
abbrev r_X0_init : Room := { frames := 1, cells := 4, slots := 100, locals := 32 }
set_option maxHeartbeats 4000000 in
set_option maxRecDepth 100000 in
theorem c_X0_init (l : Launch) (D : va_G) (cy : Nat → ClassId) (h0 : Nat) (sz : Nat) : Met l yX0_init wsX0_init r_X0_init (wPC [.ref h0] sz D cy [(h0, .inr (0, [.null, .null, .null, .null, .int 0, .int 0, .int 0]))]) (va_Qv (fun u => ∃ (t : Nat → Nat), t 0 = h0 ∧ u = wX0 cy t ((fun _ => 0)) ((fun _ => 0)) ((fun _ => 0)) ((fun _ => 0)) 0 0 0) (fun u T9 => va_P D vwCl u T9.heap ∧ va_D (va_A [(h0, .inr (0, [.null, .null, .null, .null, .int 0, .int 0, .int 0]))] sz) u) (va_A [(h0, .inr (0, [.null, .null, .null, .null, .int 0, .int 0, .int 0]))] sz)) 4 100 (va_A [(h0, .inr (0, [.null, .null, .null, .null, .int 0, .int 0, .int 0]))] sz) := by
  refine Met.ofW (cc := cX0_init) (maxL := 1) (ret := none) (by decide) rfl ?_
  intro p e s m args below meth c s₁ B hml hv
  obtain ⟨⟨hargs, hsz, hE, hP, hK, hD0⟩, hO⟩ := hv
  have hx := B.exec
  have hb := B.bytes
  have hr := B.returns
  have hts := atoms_spec (ws := wsX0_init) B.pre
  have hown : s.vm.findClass RX0 = some m.cls := findClass_of_methodNamed B.named
  have hlocks := B.notSynchronized
  have hin : meth.name = "<init>" := (name_of_methodNamed B.named B.method).1
  clear B
  subst hsz
  have hD := hD0.self (sz := s.heap.size)
  generalize hAe : va_A [(h0, .inr (0, [.null, .null, .null, .null, .int 0, .int 0, .int 0]))] s.heap.size = A at hD hE ⊢
  have hA : ∀ q : Nat, s.heap.size ≤ q → A q := fun q h => by rw [← hAe]; exact Or.inr h
  clear hAe hD0
  have hS : va_S A s.heap s.heap [] := va_S.rf
  show W p l e r_X0_init s m args below meth c s.heap [] 0 0 (MQ below (va_Qv (fun u => ∃ (t : Nat → Nat), t 0 = h0 ∧ u = wX0 cy t ((fun _ => 0)) ((fun _ => 0)) ((fun _ => 0)) ((fun _ => 0)) 0 0 0) (fun u T9 => va_P D vwCl u T9.heap ∧ va_D A u) A) args s 4 100 A) (entryFrame m args 1)
  rw [show entryFrame m args 1 = entryFrame m ([.ref h0] : List Value).toArray 1 from by rw [hargs]]
  have hl := lv_entry ([.ref h0]) (n := 1) (Nat.le_of_ble_eq_true rfl)
  rw [lg_entry_eq]
  generalize (lg_sl ([.ref h0]) ++ List.replicate (1 - (lg_sl ([.ref h0])).length) Slot.unset).toArray = ls at hl ⊢
  have hl : lv_has ls 1 [(0, .ref h0)] := hl
  clear hargs
  suffices key : ∀ (H : Heap) (locs : List Loc), va_P D vwCl [(h0, .inr (0, [.null, .null, .null, .null, .int 0, .int 0, .int 0]))] H → va_D A [(h0, .inr (0, [.null, .null, .null, .null, .int 0, .int 0, .int 0]))] → va_S A s.heap H locs → W p l e r_X0_init s m args below meth c H locs 0 0 (MQ below (va_Qv (fun u => ∃ (t : Nat → Nat), t 0 = h0 ∧ u = wX0 cy t ((fun _ => 0)) ((fun _ => 0)) ((fun _ => 0)) ((fun _ => 0)) 0 0 0) (fun u T9 => va_P D vwCl u T9.heap ∧ va_D A u) A) args s 4 100 A) (F0 m 0 ls []) from key s.heap [] hP hD hS
  clear hP hD hS
  intro H locs hP hD hS
  refine lv_aload_n hx hb dX0_init_0 rfl (lv_at hl 0 rfl) ?_
  refine W.objInit hx hb hown (hts (.methodLink RX0 3 objectInit) (by decide +kernel)) (hts (.instanceMethod objectInit) (by decide +kernel)) (hts (.code objectInit ⟨#[0xb1]⟩ 1 none) (by decide +kernel)) rfl (by rw [hml]; exact hl.1) rfl dX0_init_1 (Nat.le_of_ble_eq_true rfl) (Nat.le_of_ble_eq_true rfl) ?_
  refine W.eq (g2 := F0 m 4 ls []) rfl ?_
  refine lv_aload_n hx hb dX0_init_4 rfl (lv_at hl 0 rfl) ?_
  refine lv_bipush (v := 25) hx hb dX0_init_5 (by decide) ?_
  refine va_newa (atype := .int) (ty := .int) (a0 := (25, .inl (fun _ => 0))) hx hb (hts (.arrayClass .int) (by decide +kernel)) rfl hK hP hD hS hA (fun _ => rfl) (by decide) rfl (Nat.le_of_ble_eq_true rfl) (Nat.le_of_ble_eq_true rfl) (Nat.le_of_ble_eq_true rfl) dX0_init_7 (fun q1 cA H hK hP hD hS => ?_)
  obtain rfl : cA = cy 0 := w_cy (hK.2 6 _ rfl).2 (hK.2 0 _ rfl).2
  have hK := hK.sub (tys' := wTy cy) [0, 1, 2, 3, 4, 5] rfl
  have hP : va_P D vwCl ([(h0, .inr (0, [.null, .null, .null, .null, .int 0, .int 0, .int 0])), (q1, .inl (cy 0, 25, .inl (fun _ => 0)))] : va_W) H := hP
  have hD : va_D A ([(h0, .inr (0, [.null, .null, .null, .null, .int 0, .int 0, .int 0])), (q1, .inl (cy 0, 25, .inl (fun _ => 0)))] : va_W) := hD
  refine W.widen (k := 1) (n := 25) (by omega) (by omega) ?_
  refine va_putF (D := D) (ci := 0) (v := .ref q1) (ty := .array .int) (C := RX0) (T := TX0) (N := 7) hx hb hts i_X0_init_X0 tyX0 tyX0_ok nmX0 hown hK hP hD hS 0 rfl rfl 0 (by decide) (hts (.fieldLink RX0 11 "FoldedMenu$Blocks" "kinds" "[I") (by decide +kernel)) (fun _ h9 => h9) rfl hin rfl (by decide +kernel) rfl rfl (Nat.le_of_ble_eq_true rfl) dX0_init_9 (fun H locs hP hD hS => ?_)
  have hP : va_P D vwCl ([(h0, .inr (0, [.ref q1, .null, .null, .null, .int 0, .int 0, .int 0])), (q1, .inl (cy 0, 25, .inl (fun _ => 0)))] : va_W) H := hP
  have hD : va_D A ([(h0, .inr (0, [.ref q1, .null, .null, .null, .int 0, .int 0, .int 0])), (q1, .inl (cy 0, 25, .inl (fun _ => 0)))] : va_W) := hD
  refine lv_aload_n hx hb dX0_init_12 rfl (lv_at hl 0 rfl) ?_
  refine lv_bipush (v := 25) hx hb dX0_init_13 (by decide) ?_
  refine va_newa (atype := .int) (ty := .int) (a0 := (25, .inl (fun _ => 0))) hx hb (hts (.arrayClass .int) (by decide +kernel)) rfl hK hP hD hS hA (fun _ => rfl) (by decide) rfl (Nat.le_of_ble_eq_true rfl) (Nat.le_of_ble_eq_true rfl) (Nat.le_of_ble_eq_true rfl) dX0_init_15 (fun q2 cA H hK hP hD hS => ?_)
  obtain rfl : cA = cy 0 := w_cy (hK.2 6 _ rfl).2 (hK.2 0 _ rfl).2
  have hK := hK.sub (tys' := wTy cy) [0, 1, 2, 3, 4, 5] rfl
  have hP : va_P D vwCl ([(h0, .inr (0, [.ref q1, .null, .null, .null, .int 0, .int 0, .int 0])), (q1, .inl (cy 0, 25, .inl (fun _ => 0))), (q2, .inl (cy 0, 25, .inl (fun _ => 0)))] : va_W) H := hP
  have hD : va_D A ([(h0, .inr (0, [.ref q1, .null, .null, .null, .int 0, .int 0, .int 0])), (q1, .inl (cy 0, 25, .inl (fun _ => 0))), (q2, .inl (cy 0, 25, .inl (fun _ => 0)))] : va_W) := hD
  refine W.widen (k := 2) (n := 50) (by omega) (by omega) ?_
  refine va_putF (D := D) (ci := 0) (v := .ref q2) (ty := .array .int) (C := RX0) (T := TX0) (N := 7) hx hb hts i_X0_init_X0 tyX0 tyX0_ok nmX0 hown hK hP hD hS 0 rfl rfl 1 (by decide) (hts (.fieldLink RX0 15 "FoldedMenu$Blocks" "numbers" "[I") (by decide +kernel)) (fun _ h9 => h9) rfl hin rfl (by decide +kernel) rfl rfl (Nat.le_of_ble_eq_true rfl) dX0_init_17 (fun H locs hP hD hS => ?_)
  have hP : va_P D vwCl ([(h0, .inr (0, [.ref q1, .ref q2, .null, .null, .int 0, .int 0, .int 0])), (q1, .inl (cy 0, 25, .inl (fun _ => 0))), (q2, .inl (cy 0, 25, .inl (fun _ => 0)))] : va_W) H := hP
  have hD : va_D A ([(h0, .inr (0, [.ref q1, .ref q2, .null, .null, .int 0, .int 0, .int 0])), (q1, .inl (cy 0, 25, .inl (fun _ => 0))), (q2, .inl (cy 0, 25, .inl (fun _ => 0)))] : va_W) := hD
  refine lv_aload_n hx hb dX0_init_20 rfl (lv_at hl 0 rfl) ?_
  refine lv_bipush (v := 25) hx hb dX0_init_21 (by decide) ?_
  refine va_newa (atype := .int) (ty := .int) (a0 := (25, .inl (fun _ => 0))) hx hb (hts (.arrayClass .int) (by decide +kernel)) rfl hK hP hD hS hA (fun _ => rfl) (by decide) rfl (Nat.le_of_ble_eq_true rfl) (Nat.le_of_ble_eq_true rfl) (Nat.le_of_ble_eq_true rfl) dX0_init_23 (fun q3 cA H hK hP hD hS => ?_)
  obtain rfl : cA = cy 0 := w_cy (hK.2 6 _ rfl).2 (hK.2 0 _ rfl).2
  have hK := hK.sub (tys' := wTy cy) [0, 1, 2, 3, 4, 5] rfl
  have hP : va_P D vwCl ([(h0, .inr (0, [.ref q1, .ref q2, .null, .null, .int 0, .int 0, .int 0])), (q1, .inl (cy 0, 25, .inl (fun _ => 0))), (q2, .inl (cy 0, 25, .inl (fun _ => 0))), (q3, .inl (cy 0, 25, .inl (fun _ => 0)))] : va_W) H := hP
  have hD : va_D A ([(h0, .inr (0, [.ref q1, .ref q2, .null, .null, .int 0, .int 0, .int 0])), (q1, .inl (cy 0, 25, .inl (fun _ => 0))), (q2, .inl (cy 0, 25, .inl (fun _ => 0))), (q3, .inl (cy 0, 25, .inl (fun _ => 0)))] : va_W) := hD
  refine W.widen (k := 3) (n := 75) (by omega) (by omega) ?_
  refine va_putF (D := D) (ci := 0) (v := .ref q3) (ty := .array .int) (C := RX0) (T := TX0) (N := 7) hx hb hts i_X0_init_X0 tyX0 tyX0_ok nmX0 hown hK hP hD hS 0 rfl rfl 2 (by decide) (hts (.fieldLink RX0 18 "FoldedMenu$Blocks" "starts" "[I") (by decide +kernel)) (fun _ h9 => h9) rfl hin rfl (by decide +kernel) rfl rfl (Nat.le_of_ble_eq_true rfl) dX0_init_25 (fun H locs hP hD hS => ?_)
  have hP : va_P D vwCl ([(h0, .inr (0, [.ref q1, .ref q2, .ref q3, .null, .int 0, .int 0, .int 0])), (q1, .inl (cy 0, 25, .inl (fun _ => 0))), (q2, .inl (cy 0, 25, .inl (fun _ => 0))), (q3, .inl (cy 0, 25, .inl (fun _ => 0)))] : va_W) H := hP
  have hD : va_D A ([(h0, .inr (0, [.ref q1, .ref q2, .ref q3, .null, .int 0, .int 0, .int 0])), (q1, .inl (cy 0, 25, .inl (fun _ => 0))), (q2, .inl (cy 0, 25, .inl (fun _ => 0))), (q3, .inl (cy 0, 25, .inl (fun _ => 0)))] : va_W) := hD
  refine lv_aload_n hx hb dX0_init_28 rfl (lv_at hl 0 rfl) ?_
  refine lv_bipush (v := 25) hx hb dX0_init_29 (by decide) ?_
  refine va_newa (atype := .int) (ty := .int) (a0 := (25, .inl (fun _ => 0))) hx hb (hts (.arrayClass .int) (by decide +kernel)) rfl hK hP hD hS hA (fun _ => rfl) (by decide) rfl (Nat.le_of_ble_eq_true rfl) (Nat.le_of_ble_eq_true rfl) (Nat.le_of_ble_eq_true rfl) dX0_init_31 (fun q4 cA H hK hP hD hS => ?_)
  obtain rfl : cA = cy 0 := w_cy (hK.2 6 _ rfl).2 (hK.2 0 _ rfl).2
  have hK := hK.sub (tys' := wTy cy) [0, 1, 2, 3, 4, 5] rfl
  have hP : va_P D vwCl ([(h0, .inr (0, [.ref q1, .ref q2, .ref q3, .null, .int 0, .int 0, .int 0])), (q1, .inl (cy 0, 25, .inl (fun _ => 0))), (q2, .inl (cy 0, 25, .inl (fun _ => 0))), (q3, .inl (cy 0, 25, .inl (fun _ => 0))), (q4, .inl (cy 0, 25, .inl (fun _ => 0)))] : va_W) H := hP
  have hD : va_D A ([(h0, .inr (0, [.ref q1, .ref q2, .ref q3, .null, .int 0, .int 0, .int 0])), (q1, .inl (cy 0, 25, .inl (fun _ => 0))), (q2, .inl (cy 0, 25, .inl (fun _ => 0))), (q3, .inl (cy 0, 25, .inl (fun _ => 0))), (q4, .inl (cy 0, 25, .inl (fun _ => 0)))] : va_W) := hD
  refine W.widen (k := 4) (n := 100) (by omega) (by omega) ?_
  refine va_putF (D := D) (ci := 0) (v := .ref q4) (ty := .array .int) (C := RX0) (T := TX0) (N := 7) hx hb hts i_X0_init_X0 tyX0 tyX0_ok nmX0 hown hK hP hD hS 0 rfl rfl 3 (by decide) (hts (.fieldLink RX0 21 "FoldedMenu$Blocks" "sizes" "[I") (by decide +kernel)) (fun _ h9 => h9) rfl hin rfl (by decide +kernel) rfl rfl (Nat.le_of_ble_eq_true rfl) dX0_init_33 (fun H locs hP hD hS => ?_)
  have hP : va_P D vwCl ([(h0, .inr (0, [.ref q1, .ref q2, .ref q3, .ref q4, .int 0, .int 0, .int 0])), (q1, .inl (cy 0, 25, .inl (fun _ => 0))), (q2, .inl (cy 0, 25, .inl (fun _ => 0))), (q3, .inl (cy 0, 25, .inl (fun _ => 0))), (q4, .inl (cy 0, 25, .inl (fun _ => 0)))] : va_W) H := hP
  have hD : va_D A ([(h0, .inr (0, [.ref q1, .ref q2, .ref q3, .ref q4, .int 0, .int 0, .int 0])), (q1, .inl (cy 0, 25, .inl (fun _ => 0))), (q2, .inl (cy 0, 25, .inl (fun _ => 0))), (q3, .inl (cy 0, 25, .inl (fun _ => 0))), (q4, .inl (cy 0, 25, .inl (fun _ => 0)))] : va_W) := hD
  have hP := hP.sub (ws' := wX0 cy (w_app 1 (fun _ => h0) (w_app 1 (fun _ => q1) (w_app 1 (fun _ => q2) (w_app 1 (fun _ => q3) ((fun _ => q4)))))) ((fun _ => 0)) ((fun _ => 0)) ((fun _ => 0)) ((fun _ => 0)) 0 0 0) [0, 1, 2, 3, 4] rfl
  have hD := hD.sub (ws' := wX0 cy (w_app 1 (fun _ => h0) (w_app 1 (fun _ => q1) (w_app 1 (fun _ => q2) (w_app 1 (fun _ => q3) ((fun _ => q4)))))) ((fun _ => 0)) ((fun _ => 0)) ((fun _ => 0)) ((fun _ => 0)) 0 0 0) [0, 1, 2, 3, 4] (by decide) rfl
  exact W.vret hx hb hr (fun T9 ht _ => ⟨⟨_, rfl, ⟨(w_app 1 (fun _ => h0) (w_app 1 (fun _ => q1) (w_app 1 (fun _ => q2) (w_app 1 (fun _ => q3) ((fun _ => q4)))))), rfl, rfl⟩, by rw [ht]; exact hP, hD⟩, hS.F ht⟩) hS.2.2 dX0_init_36

theorem i_X6_init_X6 : ∀ w ∈ u_ws RX6 TX6 5, w ∈ wsX6_init := by decide +kernel
abbrev r_X6_init : Room := { frames := 1, cells := 12, slots := 1540, locals := 32 }
set_option maxHeartbeats 4000000 in
set_option maxRecDepth 100000 in
theorem c_X6_init (l : Launch) (D : va_G) (cy : Nat → ClassId) (h0 : Nat) (sz : Nat) : Met l yX6_init wsX6_init r_X6_init (wPC [.ref h0] sz D cy [(h0, .inr (6, [.null, .null, .int 0, .int 0, .long 0]))]) (va_Qv (fun u => ∃ (t : Nat → Nat), t 0 = h0 ∧ u = wX6 cy t ((fun _ _ => 0)) ((fun _ => 0)) 0 0 0) (fun u T9 => va_P D vwCl u T9.heap ∧ va_D (va_A [(h0, .inr (6, [.null, .null, .int 0, .int 0, .long 0]))] sz) u) (va_A [(h0, .inr (6, [.null, .null, .int 0, .int 0, .long 0]))] sz)) 12 1540 (va_A [(h0, .inr (6, [.null, .null, .int 0, .int 0, .long 0]))] sz) := by
  refine Met.ofW (cc := cX6_init) (maxL := 1) (ret := none) (by decide) rfl ?_
  intro p e s m args below meth c s₁ B hml hv
  obtain ⟨⟨hargs, hsz, hE, hP, hK, hD0⟩, hO⟩ := hv
  have hx := B.exec
  have hb := B.bytes
  have hr := B.returns
  have hts := atoms_spec (ws := wsX6_init) B.pre
  have hown : s.vm.findClass RX6 = some m.cls := findClass_of_methodNamed B.named
  have hlocks := B.notSynchronized
  have hin : meth.name = "<init>" := (name_of_methodNamed B.named B.method).1
  clear B
  subst hsz
  have hD := hD0.self (sz := s.heap.size)
  generalize hAe : va_A [(h0, .inr (6, [.null, .null, .int 0, .int 0, .long 0]))] s.heap.size = A at hD hE ⊢
  have hA : ∀ q : Nat, s.heap.size ≤ q → A q := fun q h => by rw [← hAe]; exact Or.inr h
  clear hAe hD0
  have hS : va_S A s.heap s.heap [] := va_S.rf
  show W p l e r_X6_init s m args below meth c s.heap [] 0 0 (MQ below (va_Qv (fun u => ∃ (t : Nat → Nat), t 0 = h0 ∧ u = wX6 cy t ((fun _ _ => 0)) ((fun _ => 0)) 0 0 0) (fun u T9 => va_P D vwCl u T9.heap ∧ va_D A u) A) args s 12 1540 A) (entryFrame m args 1)
  rw [show entryFrame m args 1 = entryFrame m ([.ref h0] : List Value).toArray 1 from by rw [hargs]]
  have hl := lv_entry ([.ref h0]) (n := 1) (Nat.le_of_ble_eq_true rfl)
  rw [lg_entry_eq]
  generalize (lg_sl ([.ref h0]) ++ List.replicate (1 - (lg_sl ([.ref h0])).length) Slot.unset).toArray = ls at hl ⊢
  have hl : lv_has ls 1 [(0, .ref h0)] := hl
  clear hargs
  suffices key : ∀ (H : Heap) (locs : List Loc), va_P D vwCl [(h0, .inr (6, [.null, .null, .int 0, .int 0, .long 0]))] H → va_D A [(h0, .inr (6, [.null, .null, .int 0, .int 0, .long 0]))] → va_S A s.heap H locs → W p l e r_X6_init s m args below meth c H locs 0 0 (MQ below (va_Qv (fun u => ∃ (t : Nat → Nat), t 0 = h0 ∧ u = wX6 cy t ((fun _ _ => 0)) ((fun _ => 0)) 0 0 0) (fun u T9 => va_P D vwCl u T9.heap ∧ va_D A u) A) args s 12 1540 A) (F0 m 0 ls []) from key s.heap [] hP hD hS
  clear hP hD hS
  intro H locs hP hD hS
  refine lv_aload_n hx hb dX6_init_0 rfl (lv_at hl 0 rfl) ?_
  refine W.objInit hx hb hown (hts (.methodLink RX6 3 objectInit) (by decide +kernel)) (hts (.instanceMethod objectInit) (by decide +kernel)) (hts (.code objectInit ⟨#[0xb1]⟩ 1 none) (by decide +kernel)) rfl (by rw [hml]; exact hl.1) rfl dX6_init_1 (Nat.le_of_ble_eq_true rfl) (Nat.le_of_ble_eq_true rfl) ?_
  refine W.eq (g2 := F0 m 4 ls []) rfl ?_
  refine lv_aload_n hx hb dX6_init_4 rfl (lv_at hl 0 rfl) ?_
  refine lv_bipush (v := 10) hx hb dX6_init_5 (by decide) ?_
  refine lv_sipush (v := 151) hx hb dX6_init_7 (by decide) ?_
  have hP0 : va_P D vwCl (([(h0, .inr (6, [.null, .null, .int 0, .int 0, .long 0]))] : va_W) ++ va_pl [] (fun _ => .inl (cy 0, (0, .inl (fun _ => 0))))) H := hP
  have hD0 : va_D A (([(h0, .inr (6, [.null, .null, .int 0, .int 0, .long 0]))] : va_W) ++ va_pl [] (fun _ => .inl (cy 0, (0, .inl (fun _ => 0))))) := hD
  refine va_mna (X := ([(h0, .inr (6, [.null, .null, .int 0, .int 0, .long 0]))] : va_W)) (L := []) (ty := .long) (cy := cy 1) (N' := 10) (K' := 151) (z := (151, .inr (.inl (fun _ => 0)))) hx hb hown (hts (.classLink RX6 11 "[[J") (by decide +kernel)) hO.2.2.2 (hts (.arrayClass .long) (by decide +kernel)) (hK.2 1 _ rfl).2 hK hP0 hD0 hS hA (by decide) (by decide) rfl rfl (Nat.le_of_ble_eq_true rfl) (Nat.le_of_ble_eq_true rfl) (Nat.le_of_ble_eq_true rfl) rfl rfl (Nat.le_of_ble_eq_true rfl) (Nat.le_of_ble_eq_true rfl) (fun _ => rfl) dX6_init_10 (fun q1 r2 cA H hinj _ hK hP hD hS => ?_)
  clear hP0 hD0
  obtain rfl : cA = cy 5 := w_cy (hK.2 6 _ rfl).2 (hK.2 5 _ rfl).2
  have hK := hK.sub (tys' := wTy cy) [0, 1, 2, 3, 4, 5] rfl
  rw [List.nil_append, w_rows] at hP hD
  have e8 : (fun i => if i < 10 then some (r2 i) else none) = (fun j => if j = 0 then some (r2 0) else if j = 1 then some (r2 1) else if j = 2 then some (r2 2) else if j = 3 then some (r2 3) else if j = 4 then some (r2 4) else if j = 5 then some (r2 5) else if j = 6 then some (r2 6) else if j = 7 then some (r2 7) else if j = 8 then some (r2 8) else if j = 9 then some (r2 9) else none) := by
    funext j
    match j with
    | 0 => rfl
    | 1 => rfl
    | 2 => rfl
    | 3 => rfl
    | 4 => rfl
    | 5 => rfl
    | 6 => rfl
    | 7 => rfl
    | 8 => rfl
    | 9 => rfl
    | j + 10 => simp
  rw [e8] at hP hD
  have hP : va_P D vwCl ([(h0, .inr (6, [.null, .null, .int 0, .int 0, .long 0])), (q1, .inl (cy 5, 10, .inr (.inr (.inr (.inr (fun j => if j = 0 then some (r2 0) else if j = 1 then some (r2 1) else if j = 2 then some (r2 2) else if j = 3 then some (r2 3) else if j = 4 then some (r2 4) else if j = 5 then some (r2 5) else if j = 6 then some (r2 6) else if j = 7 then some (r2 7) else if j = 8 then some (r2 8) else if j = 9 then some (r2 9) else none)))))), (r2 0, .inl (cy 1, 151, .inr (.inl (fun _ => 0)))), (r2 1, .inl (cy 1, 151, .inr (.inl (fun _ => 0)))), (r2 2, .inl (cy 1, 151, .inr (.inl (fun _ => 0)))), (r2 3, .inl (cy 1, 151, .inr (.inl (fun _ => 0)))), (r2 4, .inl (cy 1, 151, .inr (.inl (fun _ => 0)))), (r2 5, .inl (cy 1, 151, .inr (.inl (fun _ => 0)))), (r2 6, .inl (cy 1, 151, .inr (.inl (fun _ => 0)))), (r2 7, .inl (cy 1, 151, .inr (.inl (fun _ => 0)))), (r2 8, .inl (cy 1, 151, .inr (.inl (fun _ => 0)))), (r2 9, .inl (cy 1, 151, .inr (.inl (fun _ => 0))))] : va_W) H := hP
  have hD : va_D A ([(h0, .inr (6, [.null, .null, .int 0, .int 0, .long 0])), (q1, .inl (cy 5, 10, .inr (.inr (.inr (.inr (fun j => if j = 0 then some (r2 0) else if j = 1 then some (r2 1) else if j = 2 then some (r2 2) else if j = 3 then some (r2 3) else if j = 4 then some (r2 4) else if j = 5 then some (r2 5) else if j = 6 then some (r2 6) else if j = 7 then some (r2 7) else if j = 8 then some (r2 8) else if j = 9 then some (r2 9) else none)))))), (r2 0, .inl (cy 1, 151, .inr (.inl (fun _ => 0)))), (r2 1, .inl (cy 1, 151, .inr (.inl (fun _ => 0)))), (r2 2, .inl (cy 1, 151, .inr (.inl (fun _ => 0)))), (r2 3, .inl (cy 1, 151, .inr (.inl (fun _ => 0)))), (r2 4, .inl (cy 1, 151, .inr (.inl (fun _ => 0)))), (r2 5, .inl (cy 1, 151, .inr (.inl (fun _ => 0)))), (r2 6, .inl (cy 1, 151, .inr (.inl (fun _ => 0)))), (r2 7, .inl (cy 1, 151, .inr (.inl (fun _ => 0)))), (r2 8, .inl (cy 1, 151, .inr (.inl (fun _ => 0)))), (r2 9, .inl (cy 1, 151, .inr (.inl (fun _ => 0))))] : va_W) := hD
  refine W.widen (k := 11) (n := 1520) (by omega) (by omega) ?_
  refine va_putF (D := D) (ci := 6) (v := .ref q1) (ty := .array (.array .long)) (C := RX6) (T := TX6) (N := 5) hx hb hts i_X6_init_X6 tyX6 tyX6_ok nmX6 hown hK hP hD hS 0 rfl rfl 0 (by decide) (hts (.fieldLink RX6 13 "FoldedMenu$SetFinder" "best" "[[J") (by decide +kernel)) (fun _ h9 => h9) rfl hin rfl (by decide +kernel) rfl rfl (Nat.le_of_ble_eq_true rfl) dX6_init_14 (fun H locs hP hD hS => ?_)
  have hP : va_P D vwCl ([(h0, .inr (6, [.ref q1, .null, .int 0, .int 0, .long 0])), (q1, .inl (cy 5, 10, .inr (.inr (.inr (.inr (fun j => if j = 0 then some (r2 0) else if j = 1 then some (r2 1) else if j = 2 then some (r2 2) else if j = 3 then some (r2 3) else if j = 4 then some (r2 4) else if j = 5 then some (r2 5) else if j = 6 then some (r2 6) else if j = 7 then some (r2 7) else if j = 8 then some (r2 8) else if j = 9 then some (r2 9) else none)))))), (r2 0, .inl (cy 1, 151, .inr (.inl (fun _ => 0)))), (r2 1, .inl (cy 1, 151, .inr (.inl (fun _ => 0)))), (r2 2, .inl (cy 1, 151, .inr (.inl (fun _ => 0)))), (r2 3, .inl (cy 1, 151, .inr (.inl (fun _ => 0)))), (r2 4, .inl (cy 1, 151, .inr (.inl (fun _ => 0)))), (r2 5, .inl (cy 1, 151, .inr (.inl (fun _ => 0)))), (r2 6, .inl (cy 1, 151, .inr (.inl (fun _ => 0)))), (r2 7, .inl (cy 1, 151, .inr (.inl (fun _ => 0)))), (r2 8, .inl (cy 1, 151, .inr (.inl (fun _ => 0)))), (r2 9, .inl (cy 1, 151, .inr (.inl (fun _ => 0))))] : va_W) H := hP
  have hD : va_D A ([(h0, .inr (6, [.ref q1, .null, .int 0, .int 0, .long 0])), (q1, .inl (cy 5, 10, .inr (.inr (.inr (.inr (fun j => if j = 0 then some (r2 0) else if j = 1 then some (r2 1) else if j = 2 then some (r2 2) else if j = 3 then some (r2 3) else if j = 4 then some (r2 4) else if j = 5 then some (r2 5) else if j = 6 then some (r2 6) else if j = 7 then some (r2 7) else if j = 8 then some (r2 8) else if j = 9 then some (r2 9) else none)))))), (r2 0, .inl (cy 1, 151, .inr (.inl (fun _ => 0)))), (r2 1, .inl (cy 1, 151, .inr (.inl (fun _ => 0)))), (r2 2, .inl (cy 1, 151, .inr (.inl (fun _ => 0)))), (r2 3, .inl (cy 1, 151, .inr (.inl (fun _ => 0)))), (r2 4, .inl (cy 1, 151, .inr (.inl (fun _ => 0)))), (r2 5, .inl (cy 1, 151, .inr (.inl (fun _ => 0)))), (r2 6, .inl (cy 1, 151, .inr (.inl (fun _ => 0)))), (r2 7, .inl (cy 1, 151, .inr (.inl (fun _ => 0)))), (r2 8, .inl (cy 1, 151, .inr (.inl (fun _ => 0)))), (r2 9, .inl (cy 1, 151, .inr (.inl (fun _ => 0))))] : va_W) := hD
  refine lv_aload_n hx hb dX6_init_17 rfl (lv_at hl 0 rfl) ?_
  refine lv_bipush (v := 20) hx hb dX6_init_18 (by decide) ?_
  refine va_newa (atype := .int) (ty := .int) (a0 := (20, .inl (fun _ => 0))) hx hb (hts (.arrayClass .int) (by decide +kernel)) rfl hK hP hD hS hA (fun _ => rfl) (by decide) rfl (Nat.le_of_ble_eq_true rfl) (Nat.le_of_ble_eq_true rfl) (Nat.le_of_ble_eq_true rfl) dX6_init_20 (fun q3 cA H hK hP hD hS => ?_)
  obtain rfl : cA = cy 0 := w_cy (hK.2 6 _ rfl).2 (hK.2 0 _ rfl).2
  have hK := hK.sub (tys' := wTy cy) [0, 1, 2, 3, 4, 5] rfl
  have hP : va_P D vwCl ([(h0, .inr (6, [.ref q1, .null, .int 0, .int 0, .long 0])), (q1, .inl (cy 5, 10, .inr (.inr (.inr (.inr (fun j => if j = 0 then some (r2 0) else if j = 1 then some (r2 1) else if j = 2 then some (r2 2) else if j = 3 then some (r2 3) else if j = 4 then some (r2 4) else if j = 5 then some (r2 5) else if j = 6 then some (r2 6) else if j = 7 then some (r2 7) else if j = 8 then some (r2 8) else if j = 9 then some (r2 9) else none)))))), (r2 0, .inl (cy 1, 151, .inr (.inl (fun _ => 0)))), (r2 1, .inl (cy 1, 151, .inr (.inl (fun _ => 0)))), (r2 2, .inl (cy 1, 151, .inr (.inl (fun _ => 0)))), (r2 3, .inl (cy 1, 151, .inr (.inl (fun _ => 0)))), (r2 4, .inl (cy 1, 151, .inr (.inl (fun _ => 0)))), (r2 5, .inl (cy 1, 151, .inr (.inl (fun _ => 0)))), (r2 6, .inl (cy 1, 151, .inr (.inl (fun _ => 0)))), (r2 7, .inl (cy 1, 151, .inr (.inl (fun _ => 0)))), (r2 8, .inl (cy 1, 151, .inr (.inl (fun _ => 0)))), (r2 9, .inl (cy 1, 151, .inr (.inl (fun _ => 0)))), (q3, .inl (cy 0, 20, .inl (fun _ => 0)))] : va_W) H := hP
  have hD : va_D A ([(h0, .inr (6, [.ref q1, .null, .int 0, .int 0, .long 0])), (q1, .inl (cy 5, 10, .inr (.inr (.inr (.inr (fun j => if j = 0 then some (r2 0) else if j = 1 then some (r2 1) else if j = 2 then some (r2 2) else if j = 3 then some (r2 3) else if j = 4 then some (r2 4) else if j = 5 then some (r2 5) else if j = 6 then some (r2 6) else if j = 7 then some (r2 7) else if j = 8 then some (r2 8) else if j = 9 then some (r2 9) else none)))))), (r2 0, .inl (cy 1, 151, .inr (.inl (fun _ => 0)))), (r2 1, .inl (cy 1, 151, .inr (.inl (fun _ => 0)))), (r2 2, .inl (cy 1, 151, .inr (.inl (fun _ => 0)))), (r2 3, .inl (cy 1, 151, .inr (.inl (fun _ => 0)))), (r2 4, .inl (cy 1, 151, .inr (.inl (fun _ => 0)))), (r2 5, .inl (cy 1, 151, .inr (.inl (fun _ => 0)))), (r2 6, .inl (cy 1, 151, .inr (.inl (fun _ => 0)))), (r2 7, .inl (cy 1, 151, .inr (.inl (fun _ => 0)))), (r2 8, .inl (cy 1, 151, .inr (.inl (fun _ => 0)))), (r2 9, .inl (cy 1, 151, .inr (.inl (fun _ => 0)))), (q3, .inl (cy 0, 20, .inl (fun _ => 0)))] : va_W) := hD
  refine W.widen (k := 12) (n := 1540) (by omega) (by omega) ?_
  refine va_putF (D := D) (ci := 6) (v := .ref q3) (ty := .array .int) (C := RX6) (T := TX6) (N := 5) hx hb hts i_X6_init_X6 tyX6 tyX6_ok nmX6 hown hK hP hD hS 0 rfl rfl 1 (by decide) (hts (.fieldLink RX6 16 "FoldedMenu$SetFinder" "candidates" "[I") (by decide +kernel)) (fun _ h9 => h9) rfl hin rfl (by decide +kernel) rfl rfl (Nat.le_of_ble_eq_true rfl) dX6_init_22 (fun H locs hP hD hS => ?_)
  have hP : va_P D vwCl ([(h0, .inr (6, [.ref q1, .ref q3, .int 0, .int 0, .long 0])), (q1, .inl (cy 5, 10, .inr (.inr (.inr (.inr (fun j => if j = 0 then some (r2 0) else if j = 1 then some (r2 1) else if j = 2 then some (r2 2) else if j = 3 then some (r2 3) else if j = 4 then some (r2 4) else if j = 5 then some (r2 5) else if j = 6 then some (r2 6) else if j = 7 then some (r2 7) else if j = 8 then some (r2 8) else if j = 9 then some (r2 9) else none)))))), (r2 0, .inl (cy 1, 151, .inr (.inl (fun _ => 0)))), (r2 1, .inl (cy 1, 151, .inr (.inl (fun _ => 0)))), (r2 2, .inl (cy 1, 151, .inr (.inl (fun _ => 0)))), (r2 3, .inl (cy 1, 151, .inr (.inl (fun _ => 0)))), (r2 4, .inl (cy 1, 151, .inr (.inl (fun _ => 0)))), (r2 5, .inl (cy 1, 151, .inr (.inl (fun _ => 0)))), (r2 6, .inl (cy 1, 151, .inr (.inl (fun _ => 0)))), (r2 7, .inl (cy 1, 151, .inr (.inl (fun _ => 0)))), (r2 8, .inl (cy 1, 151, .inr (.inl (fun _ => 0)))), (r2 9, .inl (cy 1, 151, .inr (.inl (fun _ => 0)))), (q3, .inl (cy 0, 20, .inl (fun _ => 0)))] : va_W) H := hP
  have hD : va_D A ([(h0, .inr (6, [.ref q1, .ref q3, .int 0, .int 0, .long 0])), (q1, .inl (cy 5, 10, .inr (.inr (.inr (.inr (fun j => if j = 0 then some (r2 0) else if j = 1 then some (r2 1) else if j = 2 then some (r2 2) else if j = 3 then some (r2 3) else if j = 4 then some (r2 4) else if j = 5 then some (r2 5) else if j = 6 then some (r2 6) else if j = 7 then some (r2 7) else if j = 8 then some (r2 8) else if j = 9 then some (r2 9) else none)))))), (r2 0, .inl (cy 1, 151, .inr (.inl (fun _ => 0)))), (r2 1, .inl (cy 1, 151, .inr (.inl (fun _ => 0)))), (r2 2, .inl (cy 1, 151, .inr (.inl (fun _ => 0)))), (r2 3, .inl (cy 1, 151, .inr (.inl (fun _ => 0)))), (r2 4, .inl (cy 1, 151, .inr (.inl (fun _ => 0)))), (r2 5, .inl (cy 1, 151, .inr (.inl (fun _ => 0)))), (r2 6, .inl (cy 1, 151, .inr (.inl (fun _ => 0)))), (r2 7, .inl (cy 1, 151, .inr (.inl (fun _ => 0)))), (r2 8, .inl (cy 1, 151, .inr (.inl (fun _ => 0)))), (r2 9, .inl (cy 1, 151, .inr (.inl (fun _ => 0)))), (q3, .inl (cy 0, 20, .inl (fun _ => 0)))] : va_W) := hD
  have hP := hP.sub (ws' := wX6 cy (w_app 1 (fun _ => h0) (w_app 1 (fun _ => q1) (w_app 10 r2 ((fun _ => q3))))) ((fun _ _ => 0)) ((fun _ => 0)) 0 0 0) [0, 1, 2, 3, 4, 5, 6, 7, 8, 9, 10, 11, 12] rfl
  have hD := hD.sub (ws' := wX6 cy (w_app 1 (fun _ => h0) (w_app 1 (fun _ => q1) (w_app 10 r2 ((fun _ => q3))))) ((fun _ _ => 0)) ((fun _ => 0)) 0 0 0) [0, 1, 2, 3, 4, 5, 6, 7, 8, 9, 10, 11, 12] (by decide) rfl
  exact W.vret hx hb hr (fun T9 ht _ => ⟨⟨_, rfl, ⟨(w_app 1 (fun _ => h0) (w_app 1 (fun _ => q1) (w_app 10 r2 ((fun _ => q3))))), rfl, rfl⟩, by rw [ht]; exact hP, hD⟩, hS.F ht⟩) hS.2.2 dX6_init_25

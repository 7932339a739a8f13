/-- the contents of an object's cells -/
abbrev sK : Type := sS × (Nat → sS) × (Nat → Nat → Nat) × Int32 × (Nat → Int32) × (Nat → Int32) × Int32 × Int32 × (Nat → Int32) × (Nat → Int32) × Int32 × Int32 × Int32 × (Nat → Int32) × (Nat → Int32) × (Nat → Int32) × Int32 × Int32 × Int32 × Int32 × Int32 × (Nat → Nat → Int32) × (Nat → Int32) × (Nat → Int32) × Int32 × Int32 × (Nat → Nat → Int32) × (Nat → Int32) × (Nat → Int32) × Int32 × Int32 × (Nat → Int32) × (Nat → Int32) × (Nat → Int32) × (Nat → Int32) × Int32 × Int32 × Int32 × (Nat → Nat → Int64) × (Nat → Int32) × Int32 × Int32 × Int64
def wK (cy : Nat → ClassId) (x : Nat → Nat) (K : sK) : va_W := wX8 cy x K.1 K.2.1 K.2.2.1 K.2.2.2.1 K.2.2.2.2.1 K.2.2.2.2.2.1 K.2.2.2.2.2.2.1 K.2.2.2.2.2.2.2.1 K.2.2.2.2.2.2.2.2.1 K.2.2.2.2.2.2.2.2.2.1 K.2.2.2.2.2.2.2.2.2.2.1 K.2.2.2.2.2.2.2.2.2.2.2.1 K.2.2.2.2.2.2.2.2.2.2.2.2.1 K.2.2.2.2.2.2.2.2.2.2.2.2.2.1 K.2.2.2.2.2.2.2.2.2.2.2.2.2.2.1 K.2.2.2.2.2.2.2.2.2.2.2.2.2.2.2.1 K.2.2.2.2.2.2.2.2.2.2.2.2.2.2.2.2.1 K.2.2.2.2.2.2.2.2.2.2.2.2.2.2.2.2.2.1 K.2.2.2.2.2.2.2.2.2.2.2.2.2.2.2.2.2.2.1 K.2.2.2.2.2.2.2.2.2.2.2.2.2.2.2.2.2.2.2.1 K.2.2.2.2.2.2.2.2.2.2.2.2.2.2.2.2.2.2.2.2.1 K.2.2.2.2.2.2.2.2.2.2.2.2.2.2.2.2.2.2.2.2.2.1 K.2.2.2.2.2.2.2.2.2.2.2.2.2.2.2.2.2.2.2.2.2.2.1 K.2.2.2.2.2.2.2.2.2.2.2.2.2.2.2.2.2.2.2.2.2.2.2.1 K.2.2.2.2.2.2.2.2.2.2.2.2.2.2.2.2.2.2.2.2.2.2.2.2.1 K.2.2.2.2.2.2.2.2.2.2.2.2.2.2.2.2.2.2.2.2.2.2.2.2.2.1 K.2.2.2.2.2.2.2.2.2.2.2.2.2.2.2.2.2.2.2.2.2.2.2.2.2.2.1 K.2.2.2.2.2.2.2.2.2.2.2.2.2.2.2.2.2.2.2.2.2.2.2.2.2.2.2.1 K.2.2.2.2.2.2.2.2.2.2.2.2.2.2.2.2.2.2.2.2.2.2.2.2.2.2.2.2.1 K.2.2.2.2.2.2.2.2.2.2.2.2.2.2.2.2.2.2.2.2.2.2.2.2.2.2.2.2.2.1 K.2.2.2.2.2.2.2.2.2.2.2.2.2.2.2.2.2.2.2.2.2.2.2.2.2.2.2.2.2.2.1 K.2.2.2.2.2.2.2.2.2.2.2.2.2.2.2.2.2.2.2.2.2.2.2.2.2.2.2.2.2.2.2.1 K.2.2.2.2.2.2.2.2.2.2.2.2.2.2.2.2.2.2.2.2.2.2.2.2.2.2.2.2.2.2.2.2.1 K.2.2.2.2.2.2.2.2.2.2.2.2.2.2.2.2.2.2.2.2.2.2.2.2.2.2.2.2.2.2.2.2.2.1 K.2.2.2.2.2.2.2.2.2.2.2.2.2.2.2.2.2.2.2.2.2.2.2.2.2.2.2.2.2.2.2.2.2.2.1 K.2.2.2.2.2.2.2.2.2.2.2.2.2.2.2.2.2.2.2.2.2.2.2.2.2.2.2.2.2.2.2.2.2.2.2.1 K.2.2.2.2.2.2.2.2.2.2.2.2.2.2.2.2.2.2.2.2.2.2.2.2.2.2.2.2.2.2.2.2.2.2.2.2.1 K.2.2.2.2.2.2.2.2.2.2.2.2.2.2.2.2.2.2.2.2.2.2.2.2.2.2.2.2.2.2.2.2.2.2.2.2.2.1 K.2.2.2.2.2.2.2.2.2.2.2.2.2.2.2.2.2.2.2.2.2.2.2.2.2.2.2.2.2.2.2.2.2.2.2.2.2.2.1 K.2.2.2.2.2.2.2.2.2.2.2.2.2.2.2.2.2.2.2.2.2.2.2.2.2.2.2.2.2.2.2.2.2.2.2.2.2.2.2.1 K.2.2.2.2.2.2.2.2.2.2.2.2.2.2.2.2.2.2.2.2.2.2.2.2.2.2.2.2.2.2.2.2.2.2.2.2.2.2.2.2.1 K.2.2.2.2.2.2.2.2.2.2.2.2.2.2.2.2.2.2.2.2.2.2.2.2.2.2.2.2.2.2.2.2.2.2.2.2.2.2.2.2.2.1 K.2.2.2.2.2.2.2.2.2.2.2.2.2.2.2.2.2.2.2.2.2.2.2.2.2.2.2.2.2.2.2.2.2.2.2.2.2.2.2.2.2.2
/-- an object whose numbers are o -/
def Good (o : aO) (K : sK) : Prop := Good0 o K.1 K.2.1 K.2.2.2.1 K.2.2.2.2.2.2.2.2.2.2.1
theorem w_subP {D : va_G} {cl : List vw_C} {ws ws' : va_W} {H : Heap} (is : List Nat) (hs : is.map (fun i => ws[i]?) = ws'.map some) (h : va_P D cl ws H) : va_P D cl ws' H := fun k q hk => by
  obtain ⟨i, h1, h2⟩ := va_in_of is hs hk
  exact h i q h2
theorem bigM {l : Launch} {y : MethodName} {ws : List Cond} {rm : Room} {av : List Value} {sz : Nat} {D : va_G} {cy : Nat → ClassId} {W wc wr : va_W} (isC isR : List Nat) (hC : isC.map (fun i => W[i]?) = wc.map some) (hR : isR.map (fun i => W[i]?) = wr.map some) (hnC : va_nd isC = true) (hnR : va_nd isR = true) (hdis : ∀ i ∈ isR, i ∉ isC) {post P' : Int32 → va_W → Prop}
    (hM : Met l y ws rm (wPM av sz D cy wc) (va_Qi post (fun u T9 => va_P D vwCl u T9.heap ∧ va_D (va_A wc sz) u) (va_A wc sz)) 0 0 (va_A wc sz))
    (hp : ∀ r w1, post r w1 → ∃ (u : va_W) (is : List Nat), P' r u ∧ va_nd is = true ∧ is.map (fun i => (wr ++ w1)[i]?) = u.map some) :
    Met l y ws rm (wPM av sz D cy W) (va_Qi P' (fun u T9 => va_P D vwCl u T9.heap ∧ va_D (va_A W sz) u) (va_A W sz)) 0 0 (va_A W sz) := by
  have hsub : ∀ q, va_A wc sz q → va_A W sz q := by
    intro q h
    rcases h with ⟨k, e, h⟩ | h
    · obtain ⟨i, h1, h2⟩ := va_in_of isC hC h
      exact Or.inl ⟨i, e, h2⟩
    · exact Or.inr h
  refine MetFree.mono hM (fun a s h => ?_) (fun _ _ _ _ _ h => h) (fun a s o t h hq => ?_)
  · obtain ⟨h1, h2, hE, hP, hK, hD⟩ := h
    exact ⟨h1, h2, hE.pass va_S.rf (State.WarmedH.refl s) hsub, w_subP isC hC hP, hK, hD.sub isC hnC hC⟩
  · obtain ⟨⟨⟨r, u1, ho, hpst, hPu, hDu⟩, hF⟩, L, hL1, hL2⟩ := hq
    obtain ⟨h1, h2, hE, hP, hK, hD⟩ := h
    subst h2
    obtain ⟨u, is, hP', hn, hs⟩ := hp r u1 hpst
    obtain ⟨hP2, hD2⟩ := va_join (wr := wr) (w1 := u1) hP hD.self isC isR hC hR hnR hdis hF.2 hsub hPu hDu
    exact ⟨⟨⟨r, u, ho, hP', w_subP is hs hP2, hD2.sub is hn hs⟩, hF.1, fun q h1 h2 => hF.2 q h1 (fun z => h2 (hsub q z))⟩, L, hL1, fun q hq => hsub _ (hL2 q hq)⟩
theorem bigR {l : Launch} {y : MethodName} {ws : List Cond} {rm : Room} {av : List Value} {sz : Nat} {D : va_G} {cy : Nat → ClassId} {W wc : va_W} (isC : List Nat) (hC : isC.map (fun i => W[i]?) = wc.map some) {Q : Int32 → Prop} {P' : Int32 → va_W → Prop}
    (hM : ∀ H0 : Heap, Met l y ws rm (wPR av H0 D cy wc) (wQR Q H0) 0 0 wNo) (hp : ∀ r, Q r → P' r W) :
    Met l y ws rm (wPM av sz D cy W) (va_Qi P' (fun u T9 => va_P D vwCl u T9.heap ∧ va_D (va_A W sz) u) (va_A W sz)) 0 0 (va_A W sz) := by
  refine MetFree.mono (MetFree.ex hM) (fun a s h => ?_) (fun _ _ _ _ _ h => h) (fun a s o t h hq => ?_)
  · obtain ⟨h1, h2, hE, hP, hK, hD⟩ := h
    exact ⟨s.heap, h1, rfl, hE.pass va_S.rf (State.WarmedH.refl s) (fun _ z => z.elim), w_subP isC hC hP, hK⟩
  · obtain ⟨H0, hs0, ⟨⟨r, u1, ho, hpst, ht⟩, hF⟩, L, hL1, hL2⟩ := hq
    obtain ⟨h1, h2, hE, hP, hK, hD⟩ := h
    subst h2
    have hH0 : s.heap = H0 := hs0.2.1
    have ht : t.heap = s.heap := ht.trans hH0.symm
    exact ⟨⟨⟨r, W, ho, hp r hpst, by rw [ht]; exact hP, hD.self⟩, hF.1, fun q a b => hF.2 q a (fun z => z.elim)⟩, L, hL1, fun q hq => (hL2 q hq).elim⟩
/-! ===== calls: the caller's own cells pl ahead of the callee's world wc ===== -/
theorem w_tailG {pl wc : va_W} (k : Nat) (q : Nat × va_E) (hq : wc[k]? = some q) : (pl ++ wc)[pl.length + k]? = some q := by
  rw [List.getElem?_append_right (by omega), Nat.add_sub_cancel_left]
  exact hq
theorem w_tailP {D : va_G} {cl : List vw_C} {pl wc : va_W} {H : Heap} (h : va_P D cl (pl ++ wc) H) : va_P D cl wc H := h.by (fun k => pl.length + k) w_tailG
theorem w_tailD {A : Nat → Prop} {pl wc : va_W} (h : va_D A (pl ++ wc)) : va_D A wc := h.by (fun k => pl.length + k) w_tailG (fun i j _ _ e => by omega)
theorem w_freeT {A0 : Nat → Prop} {pl wc : va_W} {H0 H : Heap} {locs : List Loc} (hD : va_D A0 (pl ++ wc)) (hS : va_S A0 H0 H locs) (hA : ∀ q, H0.size ≤ q → A0 q) : ∀ q, va_A wc H.size q → A0 q := by
  intro q h
  rcases h with ⟨k, e, h⟩ | h
  · exact (w_tailD hD).2 k (q, e) h
  · exact hA q (Nat.le_trans hS.1 h)
theorem w_joinK {A0 : Nat → Prop} {D : va_G} {cl : List vw_C} {pl wc w1 : va_W} {H H1 : Heap} (hP : va_P D cl (pl ++ wc) H) (hD : va_D A0 (pl ++ wc)) (hk : ∀ q : Nat, q < H.size → ¬ va_A wc H.size q → H1[q]? = H[q]?) (hF : ∀ q, va_A wc H.size q → A0 q) (hP1 : va_P D cl w1 H1) (hD1 : va_D (va_A wc H.size) w1) : va_P D cl (pl ++ w1) H1 ∧ va_D A0 (pl ++ w1) := by
  have at' : ∀ (k : Nat) (q : Nat × va_E), pl[k]? = some q → (pl ++ wc)[k]? = some q := fun k q h => by
    rw [List.getElem?_append_left (List.getElem?_eq_some_iff.mp h).1]
    exact h
  have apart : ∀ (k : Nat) (q : Nat × va_E), pl[k]? = some q → q.1 < H.size ∧ ¬ va_A wc H.size q.1 := by
    intro k q hq
    have hl := (hP k q (at' k q hq)).lt
    refine ⟨hl, fun h => ?_⟩
    rcases h with ⟨k2, e, h⟩ | h
    · have h3 := hD.1 k (pl.length + k2) q (q.1, e) (at' k q hq) (w_tailG k2 _ h) rfl
      have h4 := (List.getElem?_eq_some_iff.mp hq).1
      omega
    · omega
  refine ⟨va_P.app (fun k q hq => ?_) hP1, va_D.app ⟨fun i j p q hi hj e => hD.1 i j p q (at' i p hi) (at' j q hj) e, fun k q hq => hD.2 k q (at' k q hq)⟩ (hD1.weaken (fun k q _ h => hF q.1 h)) (fun i j x y hx hy hxy => ?_)⟩
  · obtain ⟨g1, g2⟩ := apart k q hq
    exact (hP k q (at' k q hq)).kept (hk q.1 g1 g2)
  · exact (apart i x hx).2 (by rw [hxy]; exact hD1.2 j y hy)
section WK
variable {p : Program} {l : Launch} {e : Env} {R : Room} {s : State} {m : MethodId} {args : Array Value} {below : List Frame} {meth : Method} {c : Code} {H : Heap} {locs : List Loc} {cells slots mc ms : Nat} {Q : State → Prop}
variable {pc : Nat} {ls : Array Slot} {rest st0 : List Value} {a : Array Value} {A A0 : Nat → Prop} {H0 : Heap} {D : va_G} {cy : Nat → ClassId} {pl wc : va_W}
theorem w_callK {post : Int32 → va_W → Prop} (hP : va_P D vwCl (pl ++ wc) H) (hD : va_D A0 (pl ++ wc)) (hS : va_S A0 H0 H locs) (hA : ∀ q, H0.size ≤ q → A0 q)
    (hr : va_Run p l e R s m args below meth c H locs cells slots mc ms (F0 m pc ls st0) rest (va_Qi post (fun u T9 => va_P D vwCl u T9.heap ∧ va_D (va_A wc H.size) u) (va_A wc H.size) a) (va_A wc H.size))
    (kk : ∀ (r : Int32) (u : va_W) (H1 : Heap) (locs1 : List Loc), post r u → va_P D vwCl (pl ++ u) H1 → va_D A0 (pl ++ u) → va_S A0 H0 H1 locs1 → W p l e R s m args below meth c H1 locs1 (cells + mc) (slots + ms) Q (F0 m (pc + 3) ls (.int r :: rest))) : W p l e R s m args below meth c H locs cells slots Q (F0 m pc ls st0) := by
  have hF := w_freeT hD hS hA
  refine va_calli hr hS (fun q _ z => hF q z) hF (fun r u t H1 locs1 ht _ hp hB _ hk hS1 => ?_)
  obtain ⟨hP1, hD1⟩ := hB
  rw [ht] at hP1
  obtain ⟨hP2, hD2⟩ := w_joinK hP hD hk hF hP1 hD1
  exact kk r u H1 locs1 hp hP2 hD2 hS1
variable {b ci : Nat} {C : String} {T : u_T} {N : Nat} {fs : List Value} {As : List Value}
theorem w_preVK (hE : wEnv A s s.heap) (hS : va_S A s.heap H locs) (hA : ∀ q, s.heap.size ≤ q → A q) (hK : va_K D vwCl (wTy cy) s) (hP : va_P D vwCl (pl ++ wc) H) (hD : va_D A (pl ++ wc)) (hc : vwCl[ci]? = some (C, T, N)) (he : wc[0]? = some (b, .inr (ci, fs))) : PreV s H C b (wPM (.ref b :: As) H.size D cy wc) As :=
  ⟨wPM.blind, va_recv hK (w_tailP hP) hc he, fun _ hU hW => ⟨rfl, by rw [hU], by rw [hU]; exact hE.pass hS hW (w_freeT hD hS hA), by rw [hU]; exact w_tailP hP, va_K.moved hW.alike hK, (w_tailD hD).weaken (fun _ _ _ _ => trivial)⟩⟩
theorem w_preSK (hE : wEnv A s s.heap) (hS : va_S A s.heap H locs) (hA : ∀ q, s.heap.size ≤ q → A q) (hK : va_K D vwCl (wTy cy) s) (hP : va_P D vwCl (pl ++ wc) H) (hD : va_D A (pl ++ wc)) : PreS s H (wPM As H.size D cy wc) As :=
  ⟨wPM.blind, fun _ hU hW => ⟨rfl, by rw [hU], by rw [hU]; exact hE.pass hS hW (w_freeT hD hS hA), by rw [hU]; exact w_tailP hP, va_K.moved hW.alike hK, (w_tailD hD).weaken (fun _ _ _ _ => trivial)⟩⟩
end WK

abbrev r_L_chooses : Room := { frames := 7, cells := 0, slots := 0, locals := 167 }
set_option maxHeartbeats 40000000 in
set_option maxRecDepth 100000 in
theorem c_L_chooses (l : Launch) (D : va_G) (cy : Nat → ClassId) (sz : Nat) (x : Nat → Nat) (K : sK) (o : aO) (hG : Good o K) (a1 : Int32) (Q : Int32 → aO → Prop) (hq : p_L_chooses o a1 Q) : Met l yL_chooses wsL_chooses r_L_chooses (wPM [.ref (x 0), .int a1] sz D cy (wK cy x K)) (va_Qi (fun r u => (r = 0 ∨ r = 1) ∧ ∃ (K' : sK) (o' : aO), u = wK cy x K' ∧ Good o' K' ∧ Q r o') (fun u T9 => va_P D vwCl u T9.heap ∧ va_D (va_A (wK cy x K) sz) u) (va_A (wK cy x K) sz)) 0 0 (va_A (wK cy x K) sz) := by
  refine Met.ofW (cc := cL_chooses) (maxL := 10) (ret := (some .boolean)) (by decide) rfl ?_
  intro p e s m args below meth c s₁ B hml hv
  obtain ⟨hargs, hsz, hE, hP, hK, hD0⟩ := hv
  have hx := B.exec
  have hb := B.bytes
  have hr := B.returns
  have hts := atoms_spec (ws := wsL_chooses) B.pre
  have hown : s.vm.findClass RL = some m.cls := findClass_of_methodNamed B.named
  have hlocks := B.notSynchronized
  clear B
  subst hsz
  have hD := hD0.self (sz := s.heap.size)
  generalize hAe : va_A (wK cy x K) s.heap.size = A at hD ⊢ hE
  have hA : ∀ q : Nat, s.heap.size ≤ q → A q := fun q h => by rw [← hAe]; exact Or.inr h
  clear hAe hD0
  have hend : ∀ (r : Int32) (K' : sK) (o' : aO) (H : Heap) (locs : List Loc), (r = 0 ∨ r = 1) → Good o' K' → Q r o' → va_P D vwCl (wK cy x K') H → va_D A (wK cy x K') → va_S A s.heap H locs → ∀ T9 : State, T9.heap = H → (va_Qi (fun r u => (r = 0 ∨ r = 1) ∧ ∃ (K' : sK) (o' : aO), u = wK cy x K' ∧ Good o' K' ∧ Q r o') (fun u T9 => va_P D vwCl u T9.heap ∧ va_D A u) A) args s (.returned (some (.int r))) T9 := fun r K' o' H locs hz hG' hq hP hD hS T9 ht => ⟨⟨r, _, rfl, ⟨hz, K', o', rfl, hG', hq⟩, by rw [ht]; exact hP, hD⟩, hS.F ht⟩
  generalize (va_Qi (fun r u => (r = 0 ∨ r = 1) ∧ ∃ (K' : sK) (o' : aO), u = wK cy x K' ∧ Good o' K' ∧ Q r o') (fun u T9 => va_P D vwCl u T9.heap ∧ va_D A u) A) = Qc at hend ⊢
  have hS : va_S A s.heap s.heap [] := va_S.rf
  show W p l e r_L_chooses s m args below meth c s.heap [] 0 0 (MQ below Qc args s 0 0 A) (entryFrame m args 10)
  rw [show entryFrame m args 10 = entryFrame m ([.ref (x 0), .int a1] : List Value).toArray 10 from by rw [hargs]]
  have hl := lv_entry ([.ref (x 0), .int a1]) (n := 10) (Nat.le_of_ble_eq_true rfl)
  rw [lg_entry_eq]
  generalize (lg_sl ([.ref (x 0), .int a1]) ++ List.replicate (10 - (lg_sl ([.ref (x 0), .int a1])).length) Slot.unset).toArray = ls at hl ⊢
  have hl : lv_has ls 10 [(0, .ref (x 0)), (1, .int a1)] := hl
  have h := hq
  clear hargs hq
  have j214 : ∀ (o : aO) (x2 : Int32) (x3 : Int32) (x4 : Int32) (x6 : Int32) (x8 : Int32), p_L_chooses_214 a1 o x2 x3 x4 x6 Q x8 → ∀ (K : sK), Good o K → ∀ (H : Heap) (locs : List Loc), va_P D vwCl ([] ++ wK cy x K) H → va_D A ([] ++ wK cy x K) → va_S A s.heap H locs → ∀ (ls : Array Slot), lv_has ls 10 [(0, .ref (x 0)), (1, .int a1), (2, .int x2), (3, .int x3), (4, .int x4), (6, .int x6), (8, .int x8)] → W p l e r_L_chooses s m args below meth c H locs 0 0 (MQ below Qc args s 0 0 A) (F0 m 214 ls []) := by
    intro o x2 x3 x4 x6 x8 h
    obtain ⟨I214, μ214, h0, hs214⟩ := h
    have key : ∀ (n : Nat) (x8 : Int32), I214 x8 → μ214 x8 < n → ∀ (K : sK), Good o K → ∀ (H : Heap) (locs : List Loc), va_P D vwCl ([] ++ wK cy x K) H → va_D A ([] ++ wK cy x K) → va_S A s.heap H locs → ∀ (ls : Array Slot), lv_has ls 10 [(0, .ref (x 0)), (1, .int a1), (2, .int x2), (3, .int x3), (4, .int x4), (6, .int x6), (8, .int x8)] → W p l e r_L_chooses s m args below meth c H locs 0 0 (MQ below Qc args s 0 0 A) (F0 m 214 ls []) := by
      intro n
      induction n with
      | zero => intro x8 _ h; exact absurd h (Nat.not_lt_zero _)
      | succ n ih214 =>
        intro x8 hI hn K hG H locs hP hD hS ls hl
        have h := hs214 x8 hI
        have hk214 : ∀ (x81 : Int32), (fun (x8' : Int32) => I214 x8' ∧ μ214 x8' < μ214 x8) x81 → ∀ (K : sK), Good o K → ∀ (H : Heap) (locs : List Loc), va_P D vwCl ([] ++ wK cy x K) H → va_D A ([] ++ wK cy x K) → va_S A s.heap H locs → ∀ (ls : Array Slot), lv_has ls 10 [(0, .ref (x 0)), (1, .int a1), (2, .int x2), (3, .int x3), (4, .int x4), (6, .int x6), (8, .int x81)] → W p l e r_L_chooses s m args below meth c H locs 0 0 (MQ below Qc args s 0 0 A) (F0 m 214 ls []) := by
          intro x81 hz
          exact ih214 x81 hz.1 (Nat.lt_of_lt_of_le hz.2 (Nat.le_of_lt_succ hn))
        generalize hKe : (fun (x8' : Int32) => I214 x8' ∧ μ214 x8' < μ214 x8) = K214 at h hk214
        clear hKe ih214 hn hI
        have j274 : ∀ (x8 : Int32), p_L_chooses_274 x8 K214 → ∀ (K : sK), Good o K → ∀ (H : Heap) (locs : List Loc), va_P D vwCl ([] ++ wK cy x K) H → va_D A ([] ++ wK cy x K) → va_S A s.heap H locs → ∀ (ls : Array Slot), lv_has ls 10 [(0, .ref (x 0)), (1, .int a1), (2, .int x2), (3, .int x3), (4, .int x4), (6, .int x6), (8, .int x8)] → W p l e r_L_chooses s m args below meth c H locs 0 0 (MQ below Qc args s 0 0 A) (F0 m 274 ls []) := by
          intro x8 h K hG H locs hP hD hS ls hl
          unfold p_L_chooses_274 at h
          refine lv_iinc (k := 6) (v := (x8 + 1)) (lv' := [(8, .int (x8 + 1)), (0, .ref (x 0)), (1, .int a1), (2, .int x2), (3, .int x3), (4, .int x4), (6, .int x6)]) hx hb dL_chooses_274 hl rfl rfl (by decide) rfl (fun ls hl => ?_)
          refine lv_goto (tgt := 214) hx hb dL_chooses_277 rfl ?_
          exact hk214 ((x8 + 1)) h _ hG _ _ hP hD hS _ (lv_sub hl [1, 2, 3, 4, 5, 6, 0] rfl)
        have j240 : ∀ (x8 : Int32) (k0 : Int32), p_L_chooses_240 x8 k0 x4 o K214 Q → ∀ (K : sK), Good o K → ∀ (H : Heap) (locs : List Loc), va_P D vwCl ([] ++ wK cy x K) H → va_D A ([] ++ wK cy x K) → va_S A s.heap H locs → ∀ (ls : Array Slot), lv_has ls 10 [(0, .ref (x 0)), (1, .int a1), (2, .int x2), (3, .int x3), (4, .int x4), (6, .int x6), (8, .int x8)] → W p l e r_L_chooses s m args below meth c H locs 0 0 (MQ below Qc args s 0 0 A) (F0 m 240 ls [.int k0]) := by
          intro x8 k0 h K hG H locs hP hD hS ls hl
          unfold p_L_chooses_240 at h
          refine lv_istore (lv' := [(9, .int k0), (0, .ref (x 0)), (1, .int a1), (2, .int x2), (3, .int x3), (4, .int x4), (6, .int x6), (8, .int x8)]) hx hb dL_chooses_240 hl (by decide) rfl (fun ls hl => ?_)
          refine lv_iload hx hb dL_chooses_242 (lv_at hl 0 rfl) ?_
          refine lv_if_eq (tgt := 274) hx hb dL_chooses_244 rfl (fun hc => ?_) (fun hc => ?_)
          · replace h := h.1 hc
            exact j274 x8 h _ hG _ _ hP hD hS _ (lv_sub hl [1, 2, 3, 4, 5, 6, 7] rfl)
          · replace h := h.2 hc
            refine lv_aload_n hx hb dL_chooses_247 rfl (lv_at hl 1 rfl) ?_
            refine lv_iload hx hb dL_chooses_248 (lv_at hl 7 rfl) ?_
            refine w_callK0 (pl := []) hP hD hS hA (va_runV (As := [.int x8]) (rest := []) ⟨hx, hb, hml, hown, hts⟩ (m_why l D cy H.size x K o hG x8) (cwV 1 hts gL_chooses_X8_why rfl rfl rfl (by decide +kernel) ⟨Nat.le_of_ble_eq_true rfl, Nat.le_of_ble_eq_true rfl⟩) (w_preVK (pl := []) (ci := 8) hE hS hA hK hP hD rfl rfl) rfl rfl hl.1 rfl (lv_room (Nat.le_of_ble_eq_true rfl)) dL_chooses_250 ⟨Nat.le_of_ble_eq_true rfl, Nat.le_of_ble_eq_true rfl⟩) (fun r1 u H locs hw hP hD hS => ?_)
            obtain ⟨Kc2, rfl, hG, hr_⟩ := hw
            replace h := h r1 hr_
            clear hr_
            have hP : va_P D vwCl ([] ++ wK cy x Kc2) H := hP
            have hD : va_D A ([] ++ wK cy x Kc2) := hD
            refine lv_if_eq (tgt := 274) hx hb dL_chooses_253 rfl (fun hc => ?_) (fun hc => ?_)
            · replace h := h.1 hc
              exact j274 x8 h _ hG _ _ hP hD hS _ (lv_sub hl [1, 2, 3, 4, 5, 6, 7] rfl)
            · replace h := h.2 hc
              refine lv_iload hx hb dL_chooses_256 (lv_at hl 5 rfl) ?_
              refine lv_iconst (v := 4) hx hb dL_chooses_258 (by decide) ?_
              refine lv_icmp_eq (tgt := 272) hx hb dL_chooses_259 rfl (fun hc => ?_) (fun hc => ?_)
              · replace h := h.1 hc
                refine lv_iconst (v := 0) hx hb dL_chooses_272 (by decide) ?_
                exact W.zret hx hb hr rfl (fun t ht _ => hend 0 _ o _ _ (Or.inl rfl) hG h (w_tailP hP) (w_tailD hD) hS t ht) hS.2.2 dL_chooses_273
              · replace h := h.2 hc
                refine lv_aload_n hx hb dL_chooses_262 rfl (lv_at hl 1 rfl) ?_
                refine lv_iload hx hb dL_chooses_263 (lv_at hl 7 rfl) ?_
                refine w_callK0 (pl := []) hP hD hS hA (va_runV (As := [.int x8]) (rest := []) ⟨hx, hb, hml, hown, hts⟩ (m_why l D cy H.size x Kc2 o hG x8) (cwV 1 hts gL_chooses_X8_why rfl rfl rfl (by decide +kernel) ⟨Nat.le_of_ble_eq_true rfl, Nat.le_of_ble_eq_true rfl⟩) (w_preVK (pl := []) (ci := 8) hE hS hA hK hP hD rfl rfl) rfl rfl hl.1 rfl (lv_room (Nat.le_of_ble_eq_true rfl)) dL_chooses_265 ⟨Nat.le_of_ble_eq_true rfl, Nat.le_of_ble_eq_true rfl⟩) (fun r4 u H locs hw hP hD hS => ?_)
                obtain ⟨Kc5, rfl, hG, hr_⟩ := hw
                replace h := h r4 hr_
                clear hr_
                have hP : va_P D vwCl ([] ++ wK cy x Kc5) H := hP
                have hD : va_D A ([] ++ wK cy x Kc5) := hD
                refine lv_iconst (v := 4) hx hb dL_chooses_268 (by decide) ?_
                refine lv_icmp_eq (tgt := 274) hx hb dL_chooses_269 rfl (fun hc => ?_) (fun hc => ?_)
                · replace h := h.1 hc
                  exact j274 x8 h _ hG _ _ hP hD hS _ (lv_sub hl [1, 2, 3, 4, 5, 6, 7] rfl)
                · replace h := h.2 hc
                  refine lv_iconst (v := 0) hx hb dL_chooses_272 (by decide) ?_
                  exact W.zret hx hb hr rfl (fun t ht _ => hend 0 _ o _ _ (Or.inl rfl) hG h (w_tailP hP) (w_tailD hD) hS t ht) hS.2.2 dL_chooses_273
        unfold q_L_chooses_214 at h
        refine lv_iload hx hb dL_chooses_214 (lv_at hl 6 rfl) ?_
        refine lv_aload_n hx hb dL_chooses_216 rfl (lv_at hl 0 rfl) ?_
        refine lv_iconst (v := 0) hx hb dL_chooses_217 (by decide) ?_
        refine w_callK0 (pl := []) hP hD hS hA (va_runV (As := [.int 0]) (rest := [.int x8]) ⟨hx, hb, hml, hown, hts⟩ (m_count l D cy H.size x K o hG 0) (cwV 1 hts gL_chooses_X8_count rfl rfl rfl (by decide +kernel) ⟨Nat.le_of_ble_eq_true rfl, Nat.le_of_ble_eq_true rfl⟩) (w_preVK (pl := []) (ci := 8) hE hS hA hK hP hD rfl rfl) rfl rfl hl.1 rfl (lv_room (Nat.le_of_ble_eq_true rfl)) dL_chooses_218 ⟨Nat.le_of_ble_eq_true rfl, Nat.le_of_ble_eq_true rfl⟩) (fun r7 u H locs hw hP hD hS => ?_)
        obtain ⟨Kc8, rfl, hG, hr_⟩ := hw
        replace h := h r7 hr_
        clear hr_
        have hP : va_P D vwCl ([] ++ wK cy x Kc8) H := hP
        have hD : va_D A ([] ++ wK cy x Kc8) := hD
        refine lv_icmp_ge (tgt := 280) hx hb dL_chooses_221 rfl (fun hc => ?_) (fun hc => ?_)
        · replace h := h.1 hc
          refine lv_aload_n hx hb dL_chooses_280 rfl (lv_at hl 0 rfl) ?_
          refine lv_iload_n hx hb dL_chooses_281 rfl (lv_at hl 2 rfl) ?_
          refine lv_iload_n hx hb dL_chooses_282 rfl (lv_at hl 3 rfl) ?_
          refine lv_iload hx hb dL_chooses_283 (lv_at hl 4 rfl) ?_
          refine lv_iconst (v := 2) hx hb dL_chooses_285 (by decide) ?_
          refine w_callK0 (pl := []) hP hD hS hA (va_runV (As := [.int x2, .int x3, .int x4, .int 2]) (rest := []) ⟨hx, hb, hml, hown, hts⟩ (m_bestSet l D cy H.size x Kc8 o hG x2 x3 x4 2) (cwV 4 hts gL_chooses_X8_bestSet rfl rfl rfl (by decide +kernel) ⟨Nat.le_of_ble_eq_true rfl, Nat.le_of_ble_eq_true rfl⟩) (w_preVK (pl := []) (ci := 8) hE hS hA hK hP hD rfl rfl) rfl rfl hl.1 rfl (lv_room (Nat.le_of_ble_eq_true rfl)) dL_chooses_286 ⟨Nat.le_of_ble_eq_true rfl, Nat.le_of_ble_eq_true rfl⟩) (fun r10 u H locs hw hP hD hS => ?_)
          obtain ⟨Kc11, rfl, hG, hr_⟩ := hw
          replace h := h r10 hr_
          clear hr_
          have hP : va_P D vwCl ([] ++ wK cy x Kc11) H := hP
          have hD : va_D A ([] ++ wK cy x Kc11) := hD
          refine lv_iload hx hb dL_chooses_289 (lv_at hl 5 rfl) ?_
          refine lv_icmp_ne (tgt := 316) hx hb dL_chooses_291 rfl (fun hc => ?_) (fun hc => ?_)
          · replace h := h.1 hc
            refine lv_iconst (v := 0) hx hb dL_chooses_316 (by decide) ?_
            exact W.zret hx hb hr rfl (fun t ht _ => hend 0 _ o _ _ (Or.inl rfl) hG h (w_tailP hP) (w_tailD hD) hS t ht) hS.2.2 dL_chooses_317
          · replace h := h.2 hc
            refine lv_iload_n hx hb dL_chooses_294 rfl (lv_at hl 1 rfl) ?_
            refine lv_bipush (v := 9) hx hb dL_chooses_295 (by decide) ?_
            refine lv_ishr hx hb dL_chooses_297 ?_
            refine lv_iconst (v := 2) hx hb dL_chooses_298 (by decide) ?_
            have hPc := hP.sub (ws' := []) [] rfl
            refine w_callR (va_runS (As := [.int (a1 >>> (9 &&& 31)), .int 2]) (rest := []) ⟨hx, hb, hml, hown, hts⟩ (c_L_low l D cy H ((a1 >>> (9 &&& 31))) 2 _ h) (va_cwS 2 hts gL_chooses_L_low rfl rfl rfl (by decide +kernel) ⟨Nat.le_of_ble_eq_true rfl, Nat.le_of_ble_eq_true rfl⟩) (w_preSN hK hPc) rfl rfl hl.1 rfl (lv_room (Nat.le_of_ble_eq_true rfl)) dL_chooses_299 ⟨Nat.zero_le _, Nat.zero_le _⟩) hS (fun r13 locs h hS => ?_)
            try dsimp only at h
            refine lv_if_eq (tgt := 312) hx hb dL_chooses_302 rfl (fun hc => ?_) (fun hc => ?_)
            · replace h := h.1 hc
              refine lv_iconst (v := 1) hx hb dL_chooses_312 (by decide) ?_
              refine lv_goto (tgt := 317) hx hb dL_chooses_313 rfl ?_
              exact W.zret hx hb hr rfl (fun t ht _ => hend 1 _ o _ _ (Or.inr rfl) hG h (w_tailP hP) (w_tailD hD) hS t ht) hS.2.2 dL_chooses_317
            · replace h := h.2 hc
              refine lv_aload_n hx hb dL_chooses_305 rfl (lv_at hl 0 rfl) ?_
              refine w_callK0 (pl := []) hP hD hS hA (va_runV (As := []) (rest := []) ⟨hx, hb, hml, hown, hts⟩ (m_undo l D cy H.size x Kc11 o hG) (cwV 0 hts gL_chooses_X8_undo rfl rfl rfl (by decide +kernel) ⟨Nat.le_of_ble_eq_true rfl, Nat.le_of_ble_eq_true rfl⟩) (w_preVK (pl := []) (ci := 8) hE hS hA hK hP hD rfl rfl) rfl rfl hl.1 rfl (lv_room (Nat.le_of_ble_eq_true rfl)) dL_chooses_306 ⟨Nat.le_of_ble_eq_true rfl, Nat.le_of_ble_eq_true rfl⟩) (fun r14 u H locs hw hP hD hS => ?_)
              obtain ⟨Kc15, o_16, rfl, hG, hr_⟩ := hw
              replace h := h r14 o_16 hr_
              clear hr_
              have hP : va_P D vwCl ([] ++ wK cy x Kc15) H := hP
              have hD : va_D A ([] ++ wK cy x Kc15) := hD
              refine lv_if_lt (tgt := 316) hx hb dL_chooses_309 rfl (fun hc => ?_) (fun hc => ?_)
              · replace h := h.1 hc
                refine lv_iconst (v := 0) hx hb dL_chooses_316 (by decide) ?_
                exact W.zret hx hb hr rfl (fun t ht _ => hend 0 _ o_16 _ _ (Or.inl rfl) hG h (w_tailP hP) (w_tailD hD) hS t ht) hS.2.2 dL_chooses_317
              · replace h := h.2 hc
                refine lv_iconst (v := 1) hx hb dL_chooses_312 (by decide) ?_
                refine lv_goto (tgt := 317) hx hb dL_chooses_313 rfl ?_
                exact W.zret hx hb hr rfl (fun t ht _ => hend 1 _ o_16 _ _ (Or.inr rfl) hG h (w_tailP hP) (w_tailD hD) hS t ht) hS.2.2 dL_chooses_317
        · replace h := h.2 hc
          refine lv_iload hx hb dL_chooses_224 (lv_at hl 5 rfl) ?_
          refine lv_iload hx hb dL_chooses_226 (lv_at hl 6 rfl) ?_
          refine lv_ishr hx hb dL_chooses_228 ?_
          refine lv_iconst (v := 1) hx hb dL_chooses_229 (by decide) ?_
          refine lv_iand hx hb dL_chooses_230 ?_
          refine lv_iconst (v := 1) hx hb dL_chooses_231 (by decide) ?_
          refine lv_icmp_ne (tgt := 239) hx hb dL_chooses_232 rfl (fun hc => ?_) (fun hc => ?_)
          · replace h := h.1 hc
            refine lv_iconst (v := 0) hx hb dL_chooses_239 (by decide) ?_
            exact j240 x8 0 h _ hG _ _ hP hD hS _ (lv_sub hl [0, 1, 2, 3, 4, 5, 6] rfl)
          · replace h := h.2 hc
            refine lv_iconst (v := 1) hx hb dL_chooses_235 (by decide) ?_
            refine lv_goto (tgt := 240) hx hb dL_chooses_236 rfl ?_
            exact j240 x8 1 h _ hG _ _ hP hD hS _ (lv_sub hl [0, 1, 2, 3, 4, 5, 6] rfl)
    exact key _ x8 h0 (Nat.lt_succ_self _)
  have j95 : ∀ (o : aO) (x2 : Int32) (x3 : Int32) (x4 : Int32) (x5 : Int32) (x6 : Int32) (x7 : Int32) (x8 : Int32), p_L_chooses_95 a1 o x2 x3 x4 x5 x6 Q x7 x8 → ∀ (K : sK), Good o K → ∀ (H : Heap) (locs : List Loc), va_P D vwCl ([] ++ wK cy x K) H → va_D A ([] ++ wK cy x K) → va_S A s.heap H locs → ∀ (ls : Array Slot), lv_has ls 10 [(0, .ref (x 0)), (1, .int a1), (2, .int x2), (3, .int x3), (4, .int x4), (5, .int x5), (6, .int x6), (7, .int x7), (8, .int x8)] → W p l e r_L_chooses s m args below meth c H locs 0 0 (MQ below Qc args s 0 0 A) (F0 m 95 ls []) := by
    intro o x2 x3 x4 x5 x6 x7 x8 h
    obtain ⟨I95, μ95, h0, hs95⟩ := h
    have key : ∀ (n : Nat) (x7 : Int32) (x8 : Int32), I95 x7 x8 → μ95 x7 x8 < n → ∀ (K : sK), Good o K → ∀ (H : Heap) (locs : List Loc), va_P D vwCl ([] ++ wK cy x K) H → va_D A ([] ++ wK cy x K) → va_S A s.heap H locs → ∀ (ls : Array Slot), lv_has ls 10 [(0, .ref (x 0)), (1, .int a1), (2, .int x2), (3, .int x3), (4, .int x4), (5, .int x5), (6, .int x6), (7, .int x7), (8, .int x8)] → W p l e r_L_chooses s m args below meth c H locs 0 0 (MQ below Qc args s 0 0 A) (F0 m 95 ls []) := by
      intro n
      induction n with
      | zero => intro x7 x8 _ h; exact absurd h (Nat.not_lt_zero _)
      | succ n ih95 =>
        intro x7 x8 hI hn K hG H locs hP hD hS ls hl
        have h := hs95 x7 x8 hI
        have hk95 : ∀ (x71 : Int32) (x81 : Int32), (fun (x7' : Int32) (x8' : Int32) => I95 x7' x8' ∧ μ95 x7' x8' < μ95 x7 x8) x71 x81 → ∀ (K : sK), Good o K → ∀ (H : Heap) (locs : List Loc), va_P D vwCl ([] ++ wK cy x K) H → va_D A ([] ++ wK cy x K) → va_S A s.heap H locs → ∀ (ls : Array Slot), lv_has ls 10 [(0, .ref (x 0)), (1, .int a1), (2, .int x2), (3, .int x3), (4, .int x4), (5, .int x5), (6, .int x6), (7, .int x71), (8, .int x81)] → W p l e r_L_chooses s m args below meth c H locs 0 0 (MQ below Qc args s 0 0 A) (F0 m 95 ls []) := by
          intro x71 x81 hz
          exact ih95 x71 x81 hz.1 (Nat.lt_of_lt_of_le hz.2 (Nat.le_of_lt_succ hn))
        generalize hKe : (fun (x7' : Int32) (x8' : Int32) => I95 x7' x8' ∧ μ95 x7' x8' < μ95 x7 x8) = K95 at h hk95
        clear hKe ih95 hn hI
        have j169 : ∀ (x7 : Int32) (x8 : Int32), p_L_chooses_169 x7 x8 K95 → ∀ (K : sK), Good o K → ∀ (H : Heap) (locs : List Loc), va_P D vwCl ([] ++ wK cy x K) H → va_D A ([] ++ wK cy x K) → va_S A s.heap H locs → ∀ (ls : Array Slot), lv_has ls 10 [(0, .ref (x 0)), (1, .int a1), (2, .int x2), (3, .int x3), (4, .int x4), (5, .int x5), (6, .int x6), (7, .int x7), (8, .int x8)] → W p l e r_L_chooses s m args below meth c H locs 0 0 (MQ below Qc args s 0 0 A) (F0 m 169 ls []) := by
          intro x7 x8 h K hG H locs hP hD hS ls hl
          unfold p_L_chooses_169 at h
          refine lv_iinc (k := 8) (v := (x8 + 1)) (lv' := [(8, .int (x8 + 1)), (0, .ref (x 0)), (1, .int a1), (2, .int x2), (3, .int x3), (4, .int x4), (5, .int x5), (6, .int x6), (7, .int x7)]) hx hb dL_chooses_169 hl rfl rfl (by decide) rfl (fun ls hl => ?_)
          refine lv_goto (tgt := 95) hx hb dL_chooses_172 rfl ?_
          exact hk95 x7 ((x8 + 1)) h _ hG _ _ hP hD hS _ (lv_sub hl [1, 2, 3, 4, 5, 6, 7, 8, 0] rfl)
        have j141 : ∀ (x8 : Int32) (x9 : Int32) (k0 : Int32) (k1 : Int32), p_L_chooses_141 x8 x9 k0 k1 x2 o K95 Q → ∀ (K : sK), Good o K → ∀ (H : Heap) (locs : List Loc), va_P D vwCl ([] ++ wK cy x K) H → va_D A ([] ++ wK cy x K) → va_S A s.heap H locs → ∀ (ls : Array Slot), lv_has ls 10 [(0, .ref (x 0)), (1, .int a1), (2, .int x2), (3, .int x3), (4, .int x4), (5, .int x5), (6, .int x6), (8, .int x8), (9, .int x9)] → W p l e r_L_chooses s m args below meth c H locs 0 0 (MQ below Qc args s 0 0 A) (F0 m 141 ls [.int k1, .int k0]) := by
          intro x8 x9 k0 k1 h K hG H locs hP hD hS ls hl
          unfold p_L_chooses_141 at h
          refine lv_iadd hx hb dL_chooses_141 ?_
          refine lv_istore (lv' := [(7, .int (k0 + k1)), (0, .ref (x 0)), (1, .int a1), (2, .int x2), (3, .int x3), (4, .int x4), (5, .int x5), (6, .int x6), (8, .int x8), (9, .int x9)]) hx hb dL_chooses_142 hl (by decide) rfl (fun ls hl => ?_)
          refine lv_iload hx hb dL_chooses_144 (lv_at hl 9 rfl) ?_
          refine lv_if_eq (tgt := 169) hx hb dL_chooses_146 rfl (fun hc => ?_) (fun hc => ?_)
          · replace h := h.1 hc
            exact j169 ((k0 + k1)) x8 h _ hG _ _ hP hD hS _ (lv_sub hl [1, 2, 3, 4, 5, 6, 7, 0, 8] rfl)
          · replace h := h.2 hc
            refine lv_aload_n hx hb dL_chooses_149 rfl (lv_at hl 1 rfl) ?_
            refine lv_bipush (v := 6) hx hb dL_chooses_150 (by decide) ?_
            refine lv_aload_n hx hb dL_chooses_152 rfl (lv_at hl 1 rfl) ?_
            refine lv_iload hx hb dL_chooses_153 (lv_at hl 8 rfl) ?_
            refine lv_iconst (v := 0) hx hb dL_chooses_155 (by decide) ?_
            refine w_callK0 (pl := []) hP hD hS hA (va_runV (As := [.int x8, .int 0]) (rest := [.int 6, .ref (x 0)]) ⟨hx, hb, hml, hown, hts⟩ (m_dish l D cy H.size x K o hG x8 0) (cwV 2 hts gL_chooses_X8_dish rfl rfl rfl (by decide +kernel) ⟨Nat.le_of_ble_eq_true rfl, Nat.le_of_ble_eq_true rfl⟩) (w_preVK (pl := []) (ci := 8) hE hS hA hK hP hD rfl rfl) rfl rfl hl.1 rfl (lv_room (Nat.le_of_ble_eq_true rfl)) dL_chooses_156 ⟨Nat.le_of_ble_eq_true rfl, Nat.le_of_ble_eq_true rfl⟩) (fun r17 u H locs hw hP hD hS => ?_)
            obtain ⟨Kc18, rfl, hG, hr_⟩ := hw
            replace h := h r17 hr_
            clear hr_
            have hP : va_P D vwCl ([] ++ wK cy x Kc18) H := hP
            have hD : va_D A ([] ++ wK cy x Kc18) := hD
            refine lv_iadd hx hb dL_chooses_159 ?_
            refine w_callK0 (pl := []) hP hD hS hA (va_runV (As := [.int (6 + r17)]) (rest := []) ⟨hx, hb, hml, hown, hts⟩ (m_card l D cy H.size x Kc18 o hG ((6 + r17))) (cwV 1 hts gL_chooses_X8_card rfl rfl rfl (by decide +kernel) ⟨Nat.le_of_ble_eq_true rfl, Nat.le_of_ble_eq_true rfl⟩) (w_preVK (pl := []) (ci := 8) hE hS hA hK hP hD rfl rfl) rfl rfl hl.1 rfl (lv_room (Nat.le_of_ble_eq_true rfl)) dL_chooses_160 ⟨Nat.le_of_ble_eq_true rfl, Nat.le_of_ble_eq_true rfl⟩) (fun r20 u H locs hw hP hD hS => ?_)
            obtain ⟨Kc21, rfl, hG, hr_⟩ := hw
            replace h := h r20 hr_
            clear hr_
            have hP : va_P D vwCl ([] ++ wK cy x Kc21) H := hP
            have hD : va_D A ([] ++ wK cy x Kc21) := hD
            refine lv_iload_n hx hb dL_chooses_163 rfl (lv_at hl 3 rfl) ?_
            refine lv_icmp_eq (tgt := 169) hx hb dL_chooses_164 rfl (fun hc => ?_) (fun hc => ?_)
            · replace h := h.1 hc
              exact j169 ((k0 + k1)) x8 h _ hG _ _ hP hD hS _ (lv_sub hl [1, 2, 3, 4, 5, 6, 7, 0, 8] rfl)
            · replace h := h.2 hc
              refine lv_iconst (v := 0) hx hb dL_chooses_167 (by decide) ?_
              exact W.zret hx hb hr rfl (fun t ht _ => hend 0 _ o _ _ (Or.inl rfl) hG h (w_tailP hP) (w_tailD hD) hS t ht) hS.2.2 dL_chooses_168
        have j121 : ∀ (x7 : Int32) (x8 : Int32) (k0 : Int32), p_L_chooses_121 x7 x8 k0 x2 o K95 Q → ∀ (K : sK), Good o K → ∀ (H : Heap) (locs : List Loc), va_P D vwCl ([] ++ wK cy x K) H → va_D A ([] ++ wK cy x K) → va_S A s.heap H locs → ∀ (ls : Array Slot), lv_has ls 10 [(0, .ref (x 0)), (1, .int a1), (2, .int x2), (3, .int x3), (4, .int x4), (5, .int x5), (6, .int x6), (7, .int x7), (8, .int x8)] → W p l e r_L_chooses s m args below meth c H locs 0 0 (MQ below Qc args s 0 0 A) (F0 m 121 ls [.int k0]) := by
          intro x7 x8 k0 h K hG H locs hP hD hS ls hl
          unfold p_L_chooses_121 at h
          refine lv_istore (lv' := [(9, .int k0), (0, .ref (x 0)), (1, .int a1), (2, .int x2), (3, .int x3), (4, .int x4), (5, .int x5), (6, .int x6), (7, .int x7), (8, .int x8)]) hx hb dL_chooses_121 hl (by decide) rfl (fun ls hl => ?_)
          refine lv_iload hx hb dL_chooses_123 (lv_at hl 8 rfl) ?_
          refine lv_iload hx hb dL_chooses_125 (lv_at hl 0 rfl) ?_
          refine lv_if_eq (tgt := 140) hx hb dL_chooses_127 rfl (fun hc => ?_) (fun hc => ?_)
          · replace h := h.1 hc
            refine lv_iconst (v := 0) hx hb dL_chooses_140 (by decide) ?_
            exact j141 x8 k0 x7 0 h _ hG _ _ hP hD hS _ (lv_sub hl [1, 2, 3, 4, 5, 6, 7, 9, 0] rfl)
          · replace h := h.2 hc
            refine lv_aload_n hx hb dL_chooses_130 rfl (lv_at hl 1 rfl) ?_
            refine lv_iload hx hb dL_chooses_131 (lv_at hl 9 rfl) ?_
            refine lv_iconst (v := 2) hx hb dL_chooses_133 (by decide) ?_
            refine w_callK0 (pl := []) hP hD hS hA (va_runV (As := [.int x8, .int 2]) (rest := [.int x7]) ⟨hx, hb, hml, hown, hts⟩ (m_dish l D cy H.size x K o hG x8 2) (cwV 2 hts gL_chooses_X8_dish rfl rfl rfl (by decide +kernel) ⟨Nat.le_of_ble_eq_true rfl, Nat.le_of_ble_eq_true rfl⟩) (w_preVK (pl := []) (ci := 8) hE hS hA hK hP hD rfl rfl) rfl rfl hl.1 rfl (lv_room (Nat.le_of_ble_eq_true rfl)) dL_chooses_134 ⟨Nat.le_of_ble_eq_true rfl, Nat.le_of_ble_eq_true rfl⟩) (fun r23 u H locs hw hP hD hS => ?_)
            obtain ⟨Kc24, rfl, hG, hr_⟩ := hw
            replace h := h r23 hr_
            clear hr_
            have hP : va_P D vwCl ([] ++ wK cy x Kc24) H := hP
            have hD : va_D A ([] ++ wK cy x Kc24) := hD
            refine lv_goto (tgt := 141) hx hb dL_chooses_137 rfl ?_
            exact j141 x8 k0 x7 r23 h _ hG _ _ hP hD hS _ (lv_sub hl [1, 2, 3, 4, 5, 6, 7, 9, 0] rfl)
        unfold q_L_chooses_95 at h
        refine lv_iload hx hb dL_chooses_95 (lv_at hl 8 rfl) ?_
        refine lv_aload_n hx hb dL_chooses_97 rfl (lv_at hl 0 rfl) ?_
        refine lv_iconst (v := 0) hx hb dL_chooses_98 (by decide) ?_
        refine w_callK0 (pl := []) hP hD hS hA (va_runV (As := [.int 0]) (rest := [.int x8]) ⟨hx, hb, hml, hown, hts⟩ (m_count l D cy H.size x K o hG 0) (cwV 1 hts gL_chooses_X8_count rfl rfl rfl (by decide +kernel) ⟨Nat.le_of_ble_eq_true rfl, Nat.le_of_ble_eq_true rfl⟩) (w_preVK (pl := []) (ci := 8) hE hS hA hK hP hD rfl rfl) rfl rfl hl.1 rfl (lv_room (Nat.le_of_ble_eq_true rfl)) dL_chooses_99 ⟨Nat.le_of_ble_eq_true rfl, Nat.le_of_ble_eq_true rfl⟩) (fun r26 u H locs hw hP hD hS => ?_)
        obtain ⟨Kc27, rfl, hG, hr_⟩ := hw
        replace h := h r26 hr_
        clear hr_
        have hP : va_P D vwCl ([] ++ wK cy x Kc27) H := hP
        have hD : va_D A ([] ++ wK cy x Kc27) := hD
        refine lv_icmp_ge (tgt := 175) hx hb dL_chooses_102 rfl (fun hc => ?_) (fun hc => ?_)
        · replace h := h.1 hc
          refine lv_iload hx hb dL_chooses_175 (lv_at hl 7 rfl) ?_
          refine lv_iload hx hb dL_chooses_177 (lv_at hl 5 rfl) ?_
          refine lv_icmp_ne (tgt := 209) hx hb dL_chooses_179 rfl (fun hc => ?_) (fun hc => ?_)
          · replace h := h.1 hc
            refine lv_iconst (v := 0) hx hb dL_chooses_209 (by decide) ?_
            exact W.zret hx hb hr rfl (fun t ht _ => hend 0 _ o _ _ (Or.inl rfl) hG h (w_tailP hP) (w_tailD hD) hS t ht) hS.2.2 dL_chooses_210
          · replace h := h.2 hc
            refine lv_aload_n hx hb dL_chooses_182 rfl (lv_at hl 0 rfl) ?_
            refine lv_iload_n hx hb dL_chooses_183 rfl (lv_at hl 2 rfl) ?_
            refine lv_iload_n hx hb dL_chooses_184 rfl (lv_at hl 3 rfl) ?_
            refine lv_iload hx hb dL_chooses_185 (lv_at hl 4 rfl) ?_
            refine lv_iconst (v := 1) hx hb dL_chooses_187 (by decide) ?_
            refine w_callK0 (pl := []) hP hD hS hA (va_runV (As := [.int x2, .int x3, .int x4, .int 1]) (rest := []) ⟨hx, hb, hml, hown, hts⟩ (m_bestSet l D cy H.size x Kc27 o hG x2 x3 x4 1) (cwV 4 hts gL_chooses_X8_bestSet rfl rfl rfl (by decide +kernel) ⟨Nat.le_of_ble_eq_true rfl, Nat.le_of_ble_eq_true rfl⟩) (w_preVK (pl := []) (ci := 8) hE hS hA hK hP hD rfl rfl) rfl rfl hl.1 rfl (lv_room (Nat.le_of_ble_eq_true rfl)) dL_chooses_188 ⟨Nat.le_of_ble_eq_true rfl, Nat.le_of_ble_eq_true rfl⟩) (fun r29 u H locs hw hP hD hS => ?_)
            obtain ⟨Kc30, rfl, hG, hr_⟩ := hw
            replace h := h r29 hr_
            clear hr_
            have hP : va_P D vwCl ([] ++ wK cy x Kc30) H := hP
            have hD : va_D A ([] ++ wK cy x Kc30) := hD
            refine lv_iload hx hb dL_chooses_191 (lv_at hl 5 rfl) ?_
            refine lv_icmp_ne (tgt := 209) hx hb dL_chooses_193 rfl (fun hc => ?_) (fun hc => ?_)
            · replace h := h.1 hc
              refine lv_iconst (v := 0) hx hb dL_chooses_209 (by decide) ?_
              exact W.zret hx hb hr rfl (fun t ht _ => hend 0 _ o _ _ (Or.inl rfl) hG h (w_tailP hP) (w_tailD hD) hS t ht) hS.2.2 dL_chooses_210
            · replace h := h.2 hc
              refine lv_aload_n hx hb dL_chooses_196 rfl (lv_at hl 0 rfl) ?_
              refine lv_iload_n hx hb dL_chooses_197 rfl (lv_at hl 2 rfl) ?_
              refine lv_iload_n hx hb dL_chooses_198 rfl (lv_at hl 3 rfl) ?_
              refine lv_iload hx hb dL_chooses_199 (lv_at hl 4 rfl) ?_
              refine w_callK0 (pl := []) hP hD hS hA (va_runV (As := [.int x2, .int x3, .int x4]) (rest := []) ⟨hx, hb, hml, hown, hts⟩ (m_choose l D cy H.size x Kc30 o hG x2 x3 x4) (cwV 3 hts gL_chooses_X8_choose rfl rfl rfl (by decide +kernel) ⟨Nat.le_of_ble_eq_true rfl, Nat.le_of_ble_eq_true rfl⟩) (w_preVK (pl := []) (ci := 8) hE hS hA hK hP hD rfl rfl) rfl rfl hl.1 rfl (lv_room (Nat.le_of_ble_eq_true rfl)) dL_chooses_201 ⟨Nat.le_of_ble_eq_true rfl, Nat.le_of_ble_eq_true rfl⟩) (fun r32 u H locs hw hP hD hS => ?_)
              obtain ⟨Kc33, o_34, rfl, hG, hr_⟩ := hw
              replace h := h r32 o_34 hr_
              clear hr_
              have hP : va_P D vwCl ([] ++ wK cy x Kc33) H := hP
              have hD : va_D A ([] ++ wK cy x Kc33) := hD
              refine lv_iload hx hb dL_chooses_204 (lv_at hl 5 rfl) ?_
              refine lv_icmp_eq (tgt := 211) hx hb dL_chooses_206 rfl (fun hc => ?_) (fun hc => ?_)
              · replace h := h.1 hc
                refine lv_iconst (v := 0) hx hb dL_chooses_211 (by decide) ?_
                refine lv_istore (lv' := [(8, .int 0), (0, .ref (x 0)), (1, .int a1), (2, .int x2), (3, .int x3), (4, .int x4), (5, .int x5), (6, .int x6), (7, .int x7)]) hx hb dL_chooses_212 hl (by decide) rfl (fun ls hl => ?_)
                exact j214 o_34 x2 x3 x4 x6 0 h _ hG _ _ hP hD hS _ (lv_sub hl [1, 2, 3, 4, 5, 7, 0] rfl)
              · replace h := h.2 hc
                refine lv_iconst (v := 0) hx hb dL_chooses_209 (by decide) ?_
                exact W.zret hx hb hr rfl (fun t ht _ => hend 0 _ o_34 _ _ (Or.inl rfl) hG h (w_tailP hP) (w_tailD hD) hS t ht) hS.2.2 dL_chooses_210
        · replace h := h.2 hc
          refine lv_iload hx hb dL_chooses_105 (lv_at hl 6 rfl) ?_
          refine lv_iload hx hb dL_chooses_107 (lv_at hl 8 rfl) ?_
          refine lv_ishr hx hb dL_chooses_109 ?_
          refine lv_iconst (v := 1) hx hb dL_chooses_110 (by decide) ?_
          refine lv_iand hx hb dL_chooses_111 ?_
          refine lv_iconst (v := 1) hx hb dL_chooses_112 (by decide) ?_
          refine lv_icmp_ne (tgt := 120) hx hb dL_chooses_113 rfl (fun hc => ?_) (fun hc => ?_)
          · replace h := h.1 hc
            refine lv_iconst (v := 0) hx hb dL_chooses_120 (by decide) ?_
            exact j121 x7 x8 0 h _ hG _ _ hP hD hS _ (lv_sub hl [0, 1, 2, 3, 4, 5, 6, 7, 8] rfl)
          · replace h := h.2 hc
            refine lv_iconst (v := 1) hx hb dL_chooses_116 (by decide) ?_
            refine lv_goto (tgt := 121) hx hb dL_chooses_117 rfl ?_
            exact j121 x7 x8 1 h _ hG _ _ hP hD hS _ (lv_sub hl [0, 1, 2, 3, 4, 5, 6, 7, 8] rfl)
    exact key _ x7 x8 h0 (Nat.lt_succ_self _)
  have j63 : ∀ (o : aO) (x2 : Int32) (x3 : Int32) (x4 : Int32) (x5 : Int32) (x6 : Int32), p_L_chooses_63 o x2 x3 x4 x5 x6 Q → ∀ (K : sK), Good o K → ∀ (H : Heap) (locs : List Loc), va_P D vwCl ([] ++ wK cy x K) H → va_D A ([] ++ wK cy x K) → va_S A s.heap H locs → ∀ (ls : Array Slot), lv_has ls 10 [(0, .ref (x 0)), (2, .int x2), (3, .int x3), (4, .int x4), (5, .int x5), (6, .int x6)] → W p l e r_L_chooses s m args below meth c H locs 0 0 (MQ below Qc args s 0 0 A) (F0 m 63 ls []) := by
    intro o x2 x3 x4 x5 x6 h K hG H locs hP hD hS ls hl
    unfold p_L_chooses_63 at h
    refine lv_iload hx hb dL_chooses_63 (lv_at hl 4 rfl) ?_
    refine lv_iload hx hb dL_chooses_65 (lv_at hl 5 rfl) ?_
    refine lv_icmp_ne (tgt := 87) hx hb dL_chooses_67 rfl (fun hc => ?_) (fun hc => ?_)
    · replace h := h.1 hc
      refine lv_iconst (v := 0) hx hb dL_chooses_87 (by decide) ?_
      exact W.zret hx hb hr rfl (fun t ht _ => hend 0 _ o _ _ (Or.inl rfl) hG h (w_tailP hP) (w_tailD hD) hS t ht) hS.2.2 dL_chooses_88
    · replace h := h.2 hc
      refine lv_aload_n hx hb dL_chooses_70 rfl (lv_at hl 0 rfl) ?_
      refine lv_iload_n hx hb dL_chooses_71 rfl (lv_at hl 1 rfl) ?_
      refine lv_iload_n hx hb dL_chooses_72 rfl (lv_at hl 2 rfl) ?_
      refine lv_iload hx hb dL_chooses_73 (lv_at hl 3 rfl) ?_
      refine w_callK0 (pl := []) hP hD hS hA (va_runV (As := [.int x2, .int x3, .int x4]) (rest := []) ⟨hx, hb, hml, hown, hts⟩ (m_choose l D cy H.size x K o hG x2 x3 x4) (cwV 3 hts gL_chooses_X8_choose rfl rfl rfl (by decide +kernel) ⟨Nat.le_of_ble_eq_true rfl, Nat.le_of_ble_eq_true rfl⟩) (w_preVK (pl := []) (ci := 8) hE hS hA hK hP hD rfl rfl) rfl rfl hl.1 rfl (lv_room (Nat.le_of_ble_eq_true rfl)) dL_chooses_75 ⟨Nat.le_of_ble_eq_true rfl, Nat.le_of_ble_eq_true rfl⟩) (fun r35 u H locs hw hP hD hS => ?_)
      obtain ⟨Kc36, o_37, rfl, hG, hr_⟩ := hw
      replace h := h r35 o_37 hr_
      clear hr_
      have hP : va_P D vwCl ([] ++ wK cy x Kc36) H := hP
      have hD : va_D A ([] ++ wK cy x Kc36) := hD
      refine lv_bipush (v := (-2)) hx hb dL_chooses_78 (by decide) ?_
      refine lv_icmp_ne (tgt := 87) hx hb dL_chooses_80 rfl (fun hc => ?_) (fun hc => ?_)
      · replace h := h.1 hc
        refine lv_iconst (v := 0) hx hb dL_chooses_87 (by decide) ?_
        exact W.zret hx hb hr rfl (fun t ht _ => hend 0 _ o_37 _ _ (Or.inl rfl) hG h (w_tailP hP) (w_tailD hD) hS t ht) hS.2.2 dL_chooses_88
      · replace h := h.2 hc
        refine lv_iconst (v := 1) hx hb dL_chooses_83 (by decide) ?_
        refine lv_goto (tgt := 88) hx hb dL_chooses_84 rfl ?_
        exact W.zret hx hb hr rfl (fun t ht _ => hend 1 _ o_37 _ _ (Or.inr rfl) hG h (w_tailP hP) (w_tailD hD) hS t ht) hS.2.2 dL_chooses_88
  unfold p_L_chooses at h
  suffices key : ∀ (H : Heap) (locs : List Loc), va_P D vwCl ([] ++ wK cy x K) H → va_D A ([] ++ wK cy x K) → va_S A s.heap H locs → W p l e r_L_chooses s m args below meth c H locs 0 0 (MQ below Qc args s 0 0 A) (F0 m 0 ls []) from key s.heap [] hP hD hS
  clear hP hD hS
  intro H locs hP hD hS
  refine lv_iload_n hx hb dL_chooses_0 rfl (lv_at hl 1 rfl) ?_
  refine lv_iconst (v := 2) hx hb dL_chooses_1 (by decide) ?_
  have hPc := hP.sub (ws' := []) [] rfl
  refine w_callR (va_runS (As := [.int a1, .int 2]) (rest := []) ⟨hx, hb, hml, hown, hts⟩ (c_L_low l D cy H a1 2 _ h) (va_cwS 2 hts gL_chooses_L_low rfl rfl rfl (by decide +kernel) ⟨Nat.le_of_ble_eq_true rfl, Nat.le_of_ble_eq_true rfl⟩) (w_preSN hK hPc) rfl rfl hl.1 rfl (lv_room (Nat.le_of_ble_eq_true rfl)) dL_chooses_2 ⟨Nat.zero_le _, Nat.zero_le _⟩) hS (fun r38 locs h hS => ?_)
  try dsimp only at h
  refine lv_istore_n (lv' := [(2, .int r38), (0, .ref (x 0)), (1, .int a1)]) hx hb dL_chooses_5 rfl hl (by decide) rfl (fun ls hl => ?_)
  refine lv_iload_n hx hb dL_chooses_6 rfl (lv_at hl 2 rfl) ?_
  refine lv_iconst (v := 2) hx hb dL_chooses_7 (by decide) ?_
  refine lv_ishr hx hb dL_chooses_8 ?_
  refine lv_bipush (v := 30) hx hb dL_chooses_9 (by decide) ?_
  have hPc := hP.sub (ws' := []) [] rfl
  refine w_callR (va_runS (As := [.int (a1 >>> (2 &&& 31)), .int 30]) (rest := []) ⟨hx, hb, hml, hown, hts⟩ (c_L_low l D cy H ((a1 >>> (2 &&& 31))) 30 _ h) (va_cwS 2 hts gL_chooses_L_low rfl rfl rfl (by decide +kernel) ⟨Nat.le_of_ble_eq_true rfl, Nat.le_of_ble_eq_true rfl⟩) (w_preSN hK hPc) rfl rfl hl.1 rfl (lv_room (Nat.le_of_ble_eq_true rfl)) dL_chooses_11 ⟨Nat.zero_le _, Nat.zero_le _⟩) hS (fun r39 locs h hS => ?_)
  try dsimp only at h
  refine lv_istore_n (lv' := [(3, .int r39), (2, .int r38), (0, .ref (x 0)), (1, .int a1)]) hx hb dL_chooses_14 rfl hl (by decide) rfl (fun ls hl => ?_)
  refine lv_iconst (v := 1) hx hb dL_chooses_15 (by decide) ?_
  refine lv_iload_n hx hb dL_chooses_16 rfl (lv_at hl 3 rfl) ?_
  refine lv_bipush (v := 6) hx hb dL_chooses_17 (by decide) ?_
  refine lv_ishr hx hb dL_chooses_19 ?_
  refine lv_iconst (v := 4) hx hb dL_chooses_20 (by decide) ?_
  have hPc := hP.sub (ws' := []) [] rfl
  refine w_callR (va_runS (As := [.int (a1 >>> (6 &&& 31)), .int 4]) (rest := [.int 1]) ⟨hx, hb, hml, hown, hts⟩ (c_L_low l D cy H ((a1 >>> (6 &&& 31))) 4 _ h) (va_cwS 2 hts gL_chooses_L_low rfl rfl rfl (by decide +kernel) ⟨Nat.le_of_ble_eq_true rfl, Nat.le_of_ble_eq_true rfl⟩) (w_preSN hK hPc) rfl rfl hl.1 rfl (lv_room (Nat.le_of_ble_eq_true rfl)) dL_chooses_21 ⟨Nat.zero_le _, Nat.zero_le _⟩) hS (fun r40 locs h hS => ?_)
  try dsimp only at h
  refine lv_iadd hx hb dL_chooses_24 ?_
  refine lv_istore (lv' := [(4, .int (1 + r40)), (3, .int r39), (2, .int r38), (0, .ref (x 0)), (1, .int a1)]) hx hb dL_chooses_25 hl (by decide) rfl (fun ls hl => ?_)
  refine lv_aload_n hx hb dL_chooses_27 rfl (lv_at hl 3 rfl) ?_
  refine lv_iload_n hx hb dL_chooses_28 rfl (lv_at hl 2 rfl) ?_
  refine lv_iload_n hx hb dL_chooses_29 rfl (lv_at hl 1 rfl) ?_
  refine lv_iload hx hb dL_chooses_30 (lv_at hl 0 rfl) ?_
  refine lv_iconst (v := 0) hx hb dL_chooses_32 (by decide) ?_
  refine w_callK0 (pl := []) hP hD hS hA (va_runV (As := [.int r38, .int r39, .int (1 + r40), .int 0]) (rest := []) ⟨hx, hb, hml, hown, hts⟩ (m_bestSet l D cy H.size x K o hG r38 r39 ((1 + r40)) 0) (cwV 4 hts gL_chooses_X8_bestSet rfl rfl rfl (by decide +kernel) ⟨Nat.le_of_ble_eq_true rfl, Nat.le_of_ble_eq_true rfl⟩) (w_preVK (pl := []) (ci := 8) hE hS hA hK hP hD rfl rfl) rfl rfl hl.1 rfl (lv_room (Nat.le_of_ble_eq_true rfl)) dL_chooses_33 ⟨Nat.le_of_ble_eq_true rfl, Nat.le_of_ble_eq_true rfl⟩) (fun r41 u H locs hw hP hD hS => ?_)
  obtain ⟨Kc42, rfl, hG, hr_⟩ := hw
  replace h := h r41 hr_
  clear hr_
  have hP : va_P D vwCl ([] ++ wK cy x Kc42) H := hP
  have hD : va_D A ([] ++ wK cy x Kc42) := hD
  refine lv_istore (lv' := [(5, .int r41), (4, .int (1 + r40)), (3, .int r39), (2, .int r38), (0, .ref (x 0)), (1, .int a1)]) hx hb dL_chooses_36 hl (by decide) rfl (fun ls hl => ?_)
  refine lv_aload_n hx hb dL_chooses_38 rfl (lv_at hl 4 rfl) ?_
  refine lv_iload_n hx hb dL_chooses_39 rfl (lv_at hl 3 rfl) ?_
  refine lv_iload_n hx hb dL_chooses_40 rfl (lv_at hl 2 rfl) ?_
  refine lv_iload hx hb dL_chooses_41 (lv_at hl 1 rfl) ?_
  refine lv_iconst (v := 2) hx hb dL_chooses_43 (by decide) ?_
  refine w_callK0 (pl := []) hP hD hS hA (va_runV (As := [.int r38, .int r39, .int (1 + r40), .int 2]) (rest := []) ⟨hx, hb, hml, hown, hts⟩ (m_bestSet l D cy H.size x Kc42 o hG r38 r39 ((1 + r40)) 2) (cwV 4 hts gL_chooses_X8_bestSet rfl rfl rfl (by decide +kernel) ⟨Nat.le_of_ble_eq_true rfl, Nat.le_of_ble_eq_true rfl⟩) (w_preVK (pl := []) (ci := 8) hE hS hA hK hP hD rfl rfl) rfl rfl hl.1 rfl (lv_room (Nat.le_of_ble_eq_true rfl)) dL_chooses_44 ⟨Nat.le_of_ble_eq_true rfl, Nat.le_of_ble_eq_true rfl⟩) (fun r44 u H locs hw hP hD hS => ?_)
  obtain ⟨Kc45, rfl, hG, hr_⟩ := hw
  replace h := h r44 hr_
  clear hr_
  have hP : va_P D vwCl ([] ++ wK cy x Kc45) H := hP
  have hD : va_D A ([] ++ wK cy x Kc45) := hD
  refine lv_istore (lv' := [(6, .int r44), (5, .int r41), (4, .int (1 + r40)), (3, .int r39), (2, .int r38), (0, .ref (x 0)), (1, .int a1)]) hx hb dL_chooses_47 hl (by decide) rfl (fun ls hl => ?_)
  refine lv_iload hx hb dL_chooses_49 (lv_at hl 1 rfl) ?_
  refine lv_bipush (v := (-99)) hx hb dL_chooses_51 (by decide) ?_
  refine lv_icmp_eq (tgt := 63) hx hb dL_chooses_53 rfl (fun hc => ?_) (fun hc => ?_)
  · replace h := h.1 hc
    exact j63 o r38 r39 ((1 + r40)) r41 r44 h _ hG _ _ hP hD hS _ (lv_sub hl [5, 4, 3, 2, 1, 0] rfl)
  · replace h := h.2 hc
    refine lv_iload hx hb dL_chooses_56 (lv_at hl 0 rfl) ?_
    refine lv_bipush (v := (-99)) hx hb dL_chooses_58 (by decide) ?_
    refine lv_icmp_ne (tgt := 89) hx hb dL_chooses_60 rfl (fun hc => ?_) (fun hc => ?_)
    · replace h := h.1 hc
      refine lv_iconst (v := 0) hx hb dL_chooses_89 (by decide) ?_
      refine lv_istore (lv' := [(7, .int 0), (6, .int r44), (5, .int r41), (4, .int (1 + r40)), (3, .int r39), (2, .int r38), (0, .ref (x 0)), (1, .int a1)]) hx hb dL_chooses_90 hl (by decide) rfl (fun ls hl => ?_)
      refine lv_iconst (v := 0) hx hb dL_chooses_92 (by decide) ?_
      refine lv_istore (lv' := [(8, .int 0), (7, .int 0), (6, .int r44), (5, .int r41), (4, .int (1 + r40)), (3, .int r39), (2, .int r38), (0, .ref (x 0)), (1, .int a1)]) hx hb dL_chooses_93 hl (by decide) rfl (fun ls hl => ?_)
      exact j95 o r38 r39 ((1 + r40)) r41 r44 0 0 h _ hG _ _ hP hD hS _ (lv_sub hl [7, 8, 6, 5, 4, 3, 2, 1, 0] rfl)
    · replace h := h.2 hc
      exact j63 o r38 r39 ((1 + r40)) r41 r44 h _ hG _ _ hP hD hS _ (lv_sub hl [5, 4, 3, 2, 1, 0] rfl)

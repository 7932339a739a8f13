/-! ===== an item: what is read ===== -/
def sOK (ch : Nat → Nat) (t p x a : Nat) : Prop := (rdp ch t 0 p 0).1 = 1 ∧ a = (rdp ch t 0 p 0).2.2 ∧ x = if (rdp ch t 0 p 0).2.1 = 0 then 15 else (rdp ch t 0 p 0).2.1
def sBad (ch : Nat → Nat) (t p e : Nat) : Prop := (rdp ch t 0 p 0).1 = 0 ∧ e = (rdp ch t 0 p 0).2.2
def aOK (ch : Nat → Nat) (t p x a : Nat) : Prop := (∃ b, fSgn ch t 43 p b ∧ (rdp ch t 1 b 0).1 = 1 ∧ ¬ (rdp ch t 1 b 0).2.1 = 0 ∧ x = (rdp ch t 1 b 0).2.1 ∧ a = (rdp ch t 1 b 0).2.2) ∨ (bSgn ch t 43 p a ∧ x = 0)
def aBad (ch : Nat → Nat) (t p e : Nat) : Prop := ∃ b, fSgn ch t 43 p b ∧ ((rdp ch t 1 b 0).1 = 0 ∨ ((rdp ch t 1 b 0).1 = 1 ∧ (rdp ch t 1 b 0).2.1 = 0)) ∧ e = (rdp ch t 1 b 0).2.2
def wOK (ch : Nat → Nat) (t p x a : Nat) : Prop := (∃ b, fSgn ch t 42 p b ∧ fNum ch t 5 b x a) ∨ (bSgn ch t 42 p a ∧ x = 2)
def wBad (ch : Nat → Nat) (t p e : Nat) : Prop := ∃ b, fSgn ch t 42 p b ∧ bNum ch t 5 b e
def iOK (ch : Nat → Nat) (t p x0 x1 x2 x3 x4 x5 a : Nat) : Prop := ∃ a1 a2 a3 a4 a5 e1 e2 e3, fNum ch t 0 p x0 a1 ∧ fSgn ch t 58 a1 a2 ∧ fNum ch t 1 a2 x1 a3 ∧ fSgn ch t 36 a3 a4 ∧ fNum ch t 2 a4 x2 a5 ∧ sOK ch t a5 x3 e1 ∧ aOK ch t e1 x4 e2 ∧ wOK ch t e2 x5 e3 ∧ fSgn ch t 59 e3 a
def iBad (ch : Nat → Nat) (t p e : Nat) : Prop := bNum ch t 0 p e ∨ ∃ x0 a1, fNum ch t 0 p x0 a1 ∧ (bSgn ch t 58 a1 e ∨ ∃ a2, fSgn ch t 58 a1 a2 ∧ (bNum ch t 1 a2 e ∨ ∃ x1 a3, fNum ch t 1 a2 x1 a3 ∧ (bSgn ch t 36 a3 e ∨ ∃ a4, fSgn ch t 36 a3 a4 ∧ (bNum ch t 2 a4 e ∨ ∃ x2 a5, fNum ch t 2 a4 x2 a5 ∧ (sBad ch t a5 e ∨ ∃ x3 e1, sOK ch t a5 x3 e1 ∧ (aBad ch t e1 e ∨ ∃ x4 e2, aOK ch t e1 x4 e2 ∧ (wBad ch t e2 e ∨ ∃ x5 e3, wOK ch t e2 x5 e3 ∧ bSgn ch t 59 e3 e)))))))
def x6 (x0 x1 x2 x3 x4 x5 : Nat) : Prop := x0 ≤ 3 ∧ x1 ≤ 99 ∧ (1 ≤ x2 ∧ x2 ≤ 9999) ∧ x3 ≤ 15 ∧ x4 ≤ 255 ∧ x5 ≤ 5
theorem fSgn_le {ch : Nat → Nat} {t c p a : Nat} (h : fSgn ch t c p a) : a ≤ t := by
  obtain ⟨h1, h2, h3⟩ := h
  omega
theorem fNum_le {ch : Nat → Nat} {t k p v a : Nat} (hp : p ≤ t) (h : fNum ch t k p v a) : a ≤ t := by
  rw [h.2.2]
  exact (dgp_b (skp_b hp).2.1).2.1
/-! ===== the class's item ===== -/
theorem i_readSeasons {ch : Nat → Nat} {t : Nat} {rt : Nat → Int32} (hT : txt ch t rt) {p : Nat} (hp : p ≤ t) {item : Nat → Int32} {err : Int32} {Q : Int32 → (Nat → Int32) → Int32 → Int32 → Prop} (h1 : ∀ x a, sOK ch t p x a → a ≤ t → x ≤ 15 → skp ch t a = a → Q (nI 1) (upd item 3 (nI x)) (nI a) err) (h0 : ∀ e item', sBad ch t p e → e ≤ t → Q (nI 0) item' (nI e) (nI e)) : p_X5_readSeasons rt item (nI t) (nI p) err Q := by
  obtain ⟨r1, r2, r3, r4, r5, r6⟩ := rdp_b (ch := ch) (t := t) (z := 0) (by decide) (p := p) (x := 0) rfl hp (by decide)
  have r5' := r5 rfl (by decide)
  unfold p_X5_readSeasons
  refine i_readSet hT (z := 0) (by decide) hp (fun ho => ?_) (fun hb => ?_)
  · unfold p_X5_readSeasons_22
    have hpos : ¬ nI (rdp ch t 0 p 0).2.1 < (0 : Int32) := nI_pos (by omega)
    have hz : nI (rdp ch t 0 p 0).2.1 = (0 : Int32) ↔ (rdp ch t 0 p 0).2.1 = 0 := nI_eqI (a := (rdp ch t 0 p 0).2.1) (b := 0) (by omega) (by decide)
    rw [hz]
    refine ⟨fun e => ⟨vk 3 7, fun q => absurd q hpos, fun _ => ?_⟩, fun e => ⟨vk 3 7, fun q => absurd q hpos, fun _ => ?_⟩⟩
    · exact h1 _ _ ⟨ho, rfl, (if_neg e).symm⟩ r4 (by omega) (r6 ho)
    · exact h1 15 _ ⟨ho, rfl, (if_pos e).symm⟩ r4 (by omega) (r6 ho)
  · unfold p_X5_readSeasons_22
    have hneg : (-nI 1 : Int32) < (0 : Int32) := by decide
    exact ⟨fun _ => ⟨vk 3 7, fun _ => h0 _ _ ⟨hb, rfl⟩ r4, fun q => absurd hneg q⟩, fun q => absurd q (by decide)⟩
theorem i_readAllergens {ch : Nat → Nat} {t : Nat} {rt : Nat → Int32} (hT : txt ch t rt) {p : Nat} (hp : p ≤ t) {item : Nat → Int32} {err : Int32} {Q : Int32 → (Nat → Int32) → Int32 → Int32 → Prop} (h1 : ∀ x a item', aOK ch t p x a → a ≤ t → x ≤ 255 → skp ch t a = a → item' 4 = nI x → (∀ j, ¬ j = 4 → item' j = item j) → Q (nI 1) item' (nI a) err) (h0 : ∀ e item', aBad ch t p e → e ≤ t → Q (nI 0) item' (nI e) (nI e)) : p_X5_readAllergens rt item (nI t) (nI p) err Q := by
  obtain ⟨f1, f2, f3⟩ := skp_b (ch := ch) hp
  have ht := hT.1
  unfold p_X5_readAllergens
  refine ⟨vk 4 7, i_nextSign hT hp ?_⟩
  by_cases e : skp ch t p < t ∧ ch (skp ch t p) = 43
  · have hs : fSgn ch t 43 p (skp ch t p + 1) := ⟨e.1, e.2, rfl⟩
    have hb1 : skp ch t p + 1 ≤ t := by omega
    obtain ⟨r1, r2, r3, r4, r5, r6⟩ := rdp_b (ch := ch) (t := t) (z := 1) (by decide) (p := skp ch t p + 1) (x := 0) rfl hb1 (by decide)
    rw [if_pos e.1, e.2]
    refine ⟨fun _ => ?_, fun q => absurd rfl q⟩
    have e1 : nI (skp ch t p) + 1 = nI (skp ch t p + 1) := nI_add _ 1
    rw [e1]
    refine i_readSet hT (z := 1) (by decide) hb1 (fun ho => ⟨vk 4 7, ?_⟩) (fun hb => ⟨vk 4 7, ?_⟩)
    · have hz : nI (rdp ch t 1 (skp ch t p + 1) 0).2.1 = (0 : Int32) ↔ (rdp ch t 1 (skp ch t p + 1) 0).2.1 = 0 := nI_eqI (a := (rdp ch t 1 (skp ch t p + 1) 0).2.1) (b := 0) (by omega) (by decide)
      have hle : nI (rdp ch t 1 (skp ch t p + 1) 0).2.1 ≤ (0 : Int32) ↔ (rdp ch t 1 (skp ch t p + 1) 0).2.1 ≤ 0 := nI_leI (a := (rdp ch t 1 (skp ch t p + 1) 0).2.1) (b := 0) (by omega) (by decide)
      rw [hz, hle]
      refine ⟨fun e2 => ⟨fun q => absurd q (by omega), fun _ => ?_⟩, fun e2 => ?_⟩
      · refine h1 _ _ _ (Or.inl ⟨_, hs, ho, e2, rfl, rfl⟩) r4 (by omega) (r6 ho) pk_us (fun j hj => ?_)
        show upd (upd item 4 (nI 0)) 4 _ j = item j
        rw [pk_un hj, pk_un hj]
      · unfold p_X5_failAt
        exact h0 _ _ ⟨_, hs, Or.inr ⟨ho, e2⟩, rfl⟩ r4
    · have hn0 : ¬ (-nI 1 : Int32) = 0 := by decide
      have hle : (-nI 1 : Int32) ≤ 0 := by decide
      exact ⟨fun _ => ⟨fun _ => h0 _ _ ⟨_, hs, Or.inl hb, rfl⟩ r4, fun q => absurd hle q⟩, fun q => absurd q hn0⟩
  · have hs : bSgn ch t 43 p (skp ch t p) := ⟨e, rfl⟩
    have hne : ¬ (if skp ch t p < t then nI (ch (skp ch t p)) else nI 0) = (43 : Int32) := by
      by_cases q : skp ch t p < t
      · have := (hT.2 _ q).2
        rw [if_pos q]
        intro q2
        have := (nI_eqI (a := ch (skp ch t p)) (b := 43) (by omega) (by decide)).1 q2
        exact e ⟨q, this⟩
      · rw [if_neg q]
        decide
    refine ⟨fun q => absurd q hne, fun _ => ?_⟩
    refine h1 0 _ _ (Or.inr ⟨hs, rfl⟩) f2 (by omega) (skp_i hp) pk_us (fun j hj => pk_un hj)
theorem i_readWeight {ch : Nat → Nat} {t : Nat} {rt : Nat → Int32} (hT : txt ch t rt) {p : Nat} (hp : p ≤ t) {item : Nat → Int32} {err : Int32} {Q : Int32 → (Nat → Int32) → Int32 → Int32 → Prop} (h1 : ∀ x a item', wOK ch t p x a → a ≤ t → x ≤ 5 → item' 5 = nI x → (∀ j, ¬ j = 5 → item' j = item j) → Q (nI 1) item' (nI a) err) (h0 : ∀ e a item', wBad ch t p e → Q (nI 0) item' a (nI e)) : p_X5_readWeight rt item (nI t) (nI p) err Q := by
  obtain ⟨f1, f2, f3⟩ := skp_b (ch := ch) hp
  have ht := hT.1
  unfold p_X5_readWeight
  refine ⟨vk 5 7, i_nextSign hT hp ?_⟩
  by_cases e : skp ch t p < t ∧ ch (skp ch t p) = 42
  · have hs : fSgn ch t 42 p (skp ch t p + 1) := ⟨e.1, e.2, rfl⟩
    have hb1 : skp ch t p + 1 ≤ t := by omega
    rw [if_pos e.1, e.2]
    refine ⟨fun _ => ?_, fun q => absurd rfl q⟩
    have e1 : nI (skp ch t p) + 1 = nI (skp ch t p + 1) := nI_add _ 1
    rw [e1]
    refine i_readNumber hT hb1 (k := 5) (by decide) (fun v a ha l u hf => ?_) (fun e a hb => h0 _ _ _ ⟨_, hs, hb⟩)
    refine h1 _ _ _ (Or.inl ⟨_, hs, hf⟩) ha u pk_us (fun j hj => ?_)
    show upd (upd item 5 (nI 2)) 5 _ j = item j
    rw [pk_un hj, pk_un hj]
  · have hs : bSgn ch t 42 p (skp ch t p) := ⟨e, rfl⟩
    have hne : ¬ (if skp ch t p < t then nI (ch (skp ch t p)) else nI 0) = (42 : Int32) := by
      by_cases q : skp ch t p < t
      · have := (hT.2 _ q).2
        rw [if_pos q]
        intro q2
        have := (nI_eqI (a := ch (skp ch t p)) (b := 42) (by omega) (by decide)).1 q2
        exact e ⟨q, this⟩
      · rw [if_neg q]
        decide
    refine ⟨fun q => absurd q hne, fun _ => ?_⟩
    exact h1 2 _ _ (Or.inr ⟨hs, rfl⟩) f2 (by omega) pk_us (fun j hj => pk_un hj)
theorem i_addItem {item v : Nat → Int32} {n : Nat} (hn : n < 20) {g : Nat → Nat → Nat} (hv : ∀ d k, d < 20 → k < 7 → v (d * 7 + k) = nI (g d k)) {x0 x1 x2 x3 x4 x5 : Nat} (hx : x6 x0 x1 x2 x3 x4 x5) (h31 : 1 ≤ x1 ∧ 1 ≤ x3 ∧ 1 ≤ x5) (hi : ∀ k, k < 6 → item k = nI (xs7 x0 x1 x2 x3 x4 x5 1 k)) {Q : (Nat → Int32) → Int32 → Prop} (h : ∀ v', (∀ d k, d < 20 → k < 7 → v' (d * 7 + k) = nI (upg g n (xs7 x0 x1 x2 x3 x4 x5 1) d k)) → Q v' (nI (n + 1))) : p_X5_addItem item v (nI n) Q := by
  obtain ⟨c0, c1, c2, c3, c4, c5⟩ := hx
  have hok : ∀ k, k < 6 → okD (nI k) (nI (xs7 x0 x1 x2 x3 x4 x5 1 k)) := by
    intro k hk
    have : k = 0 ∨ k = 1 ∨ k = 2 ∨ k = 3 ∨ k = 4 ∨ k = 5 := by omega
    rcases this with rfl | rfl | rfl | rfl | rfl | rfl
    · exact okD_i (by decide) (Nat.zero_le _) c0
    · exact okD_i (by decide) h31.1 c1
    · exact okD_i (by decide) c2.1 c2.2
    · exact okD_i (by decide) h31.2.1 c3
    · exact okD_i (by decide) (Nat.zero_le _) c4
    · exact okD_i (by decide) h31.2.2 c5
  unfold p_X5_addItem
  rw [e_addOffered hn]
  unfold p_X5_addItem_7
  refine wl1 (q_X5_addItem_7 item (nI (n + 1)) (nI n) Q) 6 (by decide) (fun j v' => ∀ d k, d < 20 → k < 7 → v' (d * 7 + k) = nI (if d = n ∧ (k < j ∨ k = 6) then xs7 x0 x1 x2 x3 x4 x5 1 k else g d k)) 0 (by omega) _ ?_ ?_
  · intro d k hd hk
    by_cases e : d = n ∧ (k < 0 ∨ k = 6)
    · have hk6 : k = 6 := by omega
      rw [if_pos e, e.1, hk6]
      exact pk_us
    · rw [if_neg e, pk_un (by omega)]
      exact hv d k hd hk
  rintro K j v' _ hj hv' hK
  unfold q_X5_addItem_7
  have h5 : (5 : Int32) < nI j ↔ 5 < j := nI_ltI (a := 5) (b := j) (by decide) (by omega)
  rw [h5]
  refine ⟨fun hge => ?_, fun hlt => ⟨(vp_t (by omega) (by decide)).2 (by omega), ?_⟩⟩
  · have : j = 6 := by omega
    subst this
    refine h v' ?_
    intro d k hd hk
    rw [hv' d k hd hk]
    by_cases e : d = n
    · rw [if_pos ⟨e, by omega⟩, e, upg_s]
    · rw [if_neg (fun q => e q.1), upg_n g e]
  · rw [nI_clamp (by omega), hi j (by omega), e_change (by omega) (by omega) (by omega) (hok j (by omega))]
    have e1 : nI j + 1 = nI (j + 1) := nI_add j 1
    rw [e1]
    refine hK (by omega) _ ?_
    intro d k hd hk
    by_cases e : d = n ∧ k = j
    · rw [if_pos ⟨e.1, by omega⟩, e.1, e.2]
      exact pk_us
    · rw [pk_un (by omega), hv' d k hd hk]
      by_cases e2 : d = n ∧ (k < j ∨ k = 6)
      · rw [if_pos e2, if_pos ⟨e2.1, by omega⟩]
      · rw [if_neg e2, if_neg (by omega)]
theorem i_readItem {ch : Nat → Nat} {t : Nat} {rt : Nat → Int32} (hT : txt ch t rt) {p : Nat} (hp : p ≤ t) {n : Nat} (hn : n ≤ 20) {g : Nat → Nat → Nat} {item v : Nat → Int32} {err : Int32} (hv : ∀ d k, d < 20 → k < 7 → v (d * 7 + k) = nI (g d k)) {Q : Int32 → (Nat → Int32) → Int32 → Int32 → (Nat → Int32) → Int32 → Prop}
    (hg : ∀ x0 x1 x2 x3 x4 x5 a item' v', n < 20 → iOK ch t p x0 x1 x2 x3 x4 x5 a → a ≤ t → x6 x0 x1 x2 x3 x4 x5 → (∀ d k, d < 20 → k < 7 → v' (d * 7 + k) = nI (upg g n (xs7 x0 x1 x2 x3 x4 x5 1) d k)) → Q (nI 1) item' (nI a) err v' (nI (n + 1)))
    (hb : ∀ e item' a, ((n = 20 ∧ e = p) ∨ (n < 20 ∧ iBad ch t p e)) → Q (nI 0) item' a (nI e) v (nI n)) : p_X5_readItem rt item (nI t) (nI p) err v (nI n) Q := by
  unfold p_X5_readItem
  rw [e_isFull hn]
  refine ⟨fun h20 => ⟨fun _ => ?_, fun q => absurd rfl q⟩, fun h20 => ⟨fun q => absurd q (by decide), fun _ => ?_⟩⟩
  · have bad : ∀ e item' a err', iBad ch t p e → err' = nI e → p_X5_readItem_92 item' a err' v (nI n) Q := by
      rintro e item' a err' h rfl
      unfold p_X5_readItem_92 p_X5_readItem_93
      exact ⟨fun _ => hb e item' a (Or.inr ⟨h20, h⟩), fun q => absurd rfl q⟩
    refine i_readNumber hT hp (k := 0) (by decide) (fun x0 a1 l1 lo0 u0 f1 => ⟨fun q => absurd q (by decide), fun _ => ?_⟩) (fun e a b => ⟨fun _ => bad e _ _ _ (Or.inl b) rfl, fun q => absurd rfl q⟩)
    refine i_readSign hT l1 (c := 58) (by decide) (fun a2 l2 f2 => ⟨fun q => absurd q (by decide), fun _ => ?_⟩) (fun e b => ⟨fun _ => bad e _ _ _ (Or.inr ⟨x0, a1, f1, Or.inl b⟩) rfl, fun q => absurd rfl q⟩)
    refine i_readNumber hT l2 (k := 1) (by decide) (fun x1 a3 l3 lo1 u1 f3 => ⟨fun q => absurd q (by decide), fun _ => ?_⟩) (fun e a b => ⟨fun _ => bad e _ _ _ (Or.inr ⟨x0, a1, f1, Or.inr ⟨a2, f2, Or.inl b⟩⟩) rfl, fun q => absurd rfl q⟩)
    refine i_readSign hT l3 (c := 36) (by decide) (fun a4 l4 f4 => ⟨fun q => absurd q (by decide), fun _ => ?_⟩) (fun e b => ⟨fun _ => bad e _ _ _ (Or.inr ⟨x0, a1, f1, Or.inr ⟨a2, f2, Or.inr ⟨x1, a3, f3, Or.inl b⟩⟩⟩) rfl, fun q => absurd rfl q⟩)
    refine i_readNumber hT l4 (k := 2) (by decide) (fun x2 a5 l5 lo2 u2 f5 => ⟨fun q => absurd q (by decide), fun _ => ?_⟩) (fun e a b => ⟨fun _ => bad e _ _ _ (Or.inr ⟨x0, a1, f1, Or.inr ⟨a2, f2, Or.inr ⟨x1, a3, f3, Or.inr ⟨a4, f4, Or.inl b⟩⟩⟩⟩) rfl, fun q => absurd rfl q⟩)
    refine i_readSeasons hT l5 (fun x3 e1 f6 l6 u3 k6 => ⟨fun q => absurd q (by decide), fun _ => ?_⟩) (fun e item' b l => ⟨fun _ => bad e _ _ _ (Or.inr ⟨x0, a1, f1, Or.inr ⟨a2, f2, Or.inr ⟨x1, a3, f3, Or.inr ⟨a4, f4, Or.inr ⟨x2, a5, f5, Or.inl b⟩⟩⟩⟩⟩) rfl, fun q => absurd rfl q⟩)
    refine i_readAllergens hT l6 (fun x4 e2 item2 f7 l7 u4 k7 i4 i4o => ⟨fun q => absurd q (by decide), fun _ => ?_⟩) (fun e item' b l => ⟨fun _ => bad e _ _ _ (Or.inr ⟨x0, a1, f1, Or.inr ⟨a2, f2, Or.inr ⟨x1, a3, f3, Or.inr ⟨a4, f4, Or.inr ⟨x2, a5, f5, Or.inr ⟨x3, e1, f6, Or.inl b⟩⟩⟩⟩⟩⟩) rfl, fun q => absurd rfl q⟩)
    refine i_readWeight hT l7 (fun x5 e3 item3 f8 l8 u5 i5 i5o => ⟨fun q => absurd q (by decide), fun _ => ?_⟩) (fun e a item' b => ⟨fun _ => bad e _ _ _ (Or.inr ⟨x0, a1, f1, Or.inr ⟨a2, f2, Or.inr ⟨x1, a3, f3, Or.inr ⟨a4, f4, Or.inr ⟨x2, a5, f5, Or.inr ⟨x3, e1, f6, Or.inr ⟨x4, e2, f7, Or.inl b⟩⟩⟩⟩⟩⟩⟩) rfl, fun q => absurd rfl q⟩)
    refine i_readSign hT l8 (c := 59) (by decide) (fun a l9 f9 => ⟨fun q => absurd q (by decide), fun _ => ?_⟩) (fun e b => ⟨fun _ => bad e _ _ _ (Or.inr ⟨x0, a1, f1, Or.inr ⟨a2, f2, Or.inr ⟨x1, a3, f3, Or.inr ⟨a4, f4, Or.inr ⟨x2, a5, f5, Or.inr ⟨x3, e1, f6, Or.inr ⟨x4, e2, f7, Or.inr ⟨x5, e3, f8, b⟩⟩⟩⟩⟩⟩⟩⟩) rfl, fun q => absurd rfl q⟩)
    unfold p_X5_readItem_93
    refine ⟨fun q => absurd q (by decide), fun _ => ?_⟩
    have hx3 : 1 ≤ x3 := by
      rw [f6.2.2]
      split <;> omega
    have hx5 : 1 ≤ x5 := by
      rcases f8 with ⟨b, _, q⟩ | ⟨_, q⟩
      · have hlo := q.1.2.2.1
        rw [q.2.1]
        exact hlo
      · omega
    have hX : x6 x0 x1 x2 x3 x4 x5 := ⟨u0, u1, ⟨lo2, u2⟩, u3, u4, u5⟩
    refine i_addItem h20 hv hX ⟨lo1, hx3, hx5⟩ ?_ ?_
    · intro k hk
      have : k = 0 ∨ k = 1 ∨ k = 2 ∨ k = 3 ∨ k = 4 ∨ k = 5 := by omega
      rcases this with rfl | rfl | rfl | rfl | rfl | rfl
      · rw [i5o 0 (by decide), i4o 0 (by decide), pk_un (by decide), pk_un (by decide), pk_un (by decide), pk_us]
        rfl
      · rw [i5o 1 (by decide), i4o 1 (by decide), pk_un (by decide), pk_un (by decide), pk_us]
        rfl
      · rw [i5o 2 (by decide), i4o 2 (by decide), pk_un (by decide), pk_us]
        rfl
      · rw [i5o 3 (by decide), i4o 3 (by decide), pk_us]
        rfl
      · rw [i5o 4 (by decide), i4]
        rfl
      · rw [i5]
        rfl
    · intro v' hv'
      exact hg x0 x1 x2 x3 x4 x5 a _ v' h20 ⟨a1, a2, a3, a4, a5, e1, e2, e3, f1, f2, f3, f4, f5, f6, f7, f8, f9⟩ l9 hX hv'
  · have hn20 : n = 20 := by omega
    unfold p_X5_failAt
    exact hb p _ _ (Or.inl ⟨hn20, rfl⟩)
/-! ===== all items ===== -/
def LG (ch : Nat → Nat) (t : Nat) : Nat → Nat → (Nat → Nat → Nat) → Nat → Nat → (Nat → Nat → Nat) → Prop
  | 0, n, g, p, n', g' => skp ch t p = t ∧ n' = n ∧ g' = g
  | k + 1, n, g, p, n', g' => skp ch t p < t ∧ n < 20 ∧ ∃ x0 x1 x2 x3 x4 x5 a, a ≤ t ∧ x6 x0 x1 x2 x3 x4 x5 ∧ iOK ch t (skp ch t p) x0 x1 x2 x3 x4 x5 a ∧ LG ch t k (n + 1) (upg g n (xs7 x0 x1 x2 x3 x4 x5 1)) a n' g'
def LB (ch : Nat → Nat) (t : Nat) : Nat → Nat → Nat → Nat → Prop
  | 0, n, p, e => skp ch t p < t ∧ ((n = 20 ∧ e = skp ch t p) ∨ (n < 20 ∧ iBad ch t (skp ch t p) e))
  | k + 1, n, p, e => skp ch t p < t ∧ n < 20 ∧ ∃ x0 x1 x2 x3 x4 x5 a, a ≤ t ∧ iOK ch t (skp ch t p) x0 x1 x2 x3 x4 x5 a ∧ LB ch t k (n + 1) a e
theorem iBad_le {ch : Nat → Nat} {t p e : Nat} (hp : p ≤ t) (h : iBad ch t p e) : e ≤ t := by
  have rd : ∀ {z p : Nat}, z ≤ 1 → p ≤ t → (rdp ch t z p 0).2.2 ≤ t := fun hz hp => (rdp_b hz (x := 0) rfl hp (by decide)).2.2.2.1
  rcases h with b | ⟨x0, a1, f1, h⟩
  · rw [b.2]
    exact (skp_b hp).2.1
  have l1 := fNum_le hp f1
  rcases h with b | ⟨a2, f2, h⟩
  · rw [b.2]
    exact (skp_b l1).2.1
  have l2 := fSgn_le f2
  rcases h with b | ⟨x1, a3, f3, h⟩
  · rw [b.2]
    exact (skp_b l2).2.1
  have l3 := fNum_le l2 f3
  rcases h with b | ⟨a4, f4, h⟩
  · rw [b.2]
    exact (skp_b l3).2.1
  have l4 := fSgn_le f4
  rcases h with b | ⟨x2, a5, f5, h⟩
  · rw [b.2]
    exact (skp_b l4).2.1
  have l5 := fNum_le l4 f5
  rcases h with b | ⟨x3, e1, f6, h⟩
  · rw [b.2]
    exact rd (by decide) l5
  have l6 : e1 ≤ t := by
    rw [f6.2.1]
    exact rd (by decide) l5
  rcases h with ⟨b, s1, _, rfl⟩ | ⟨x4, e2, f7, h⟩
  · exact rd (by decide) (fSgn_le s1)
  have l7 : e2 ≤ t := by
    rcases f7 with ⟨b, s1, _, _, _, rfl⟩ | ⟨s1, _⟩
    · exact rd (by decide) (fSgn_le s1)
    · rw [s1.2]
      exact (skp_b l6).2.1
  rcases h with ⟨b, s1, s2⟩ | ⟨x5, e3, f8, b⟩
  · rw [s2.2]
    exact (skp_b (fSgn_le s1)).2.1
  have l8 : e3 ≤ t := by
    rcases f8 with ⟨b, s1, s2⟩ | ⟨s1, _⟩
    · exact fNum_le (fSgn_le s1) s2
    · rw [s1.2]
      exact (skp_b l7).2.1
  rw [b.2]
  exact (skp_b l8).2.1
theorem eLB {ch : Nat → Nat} {t e : Nat} : ∀ {m n p : Nat}, p ≤ t → LB ch t m n p e → e ≤ t
  | 0, n, p, hp, h => by
    rcases h.2 with ⟨_, q⟩ | ⟨_, q⟩
    · rw [q]
      exact (skp_b hp).2.1
    · exact iBad_le (skp_b hp).2.1 q
  | m + 1, n, p, hp, h => by
    obtain ⟨_, _, x0, x1, x2, x3, x4, x5, a, ha, _, h3⟩ := h
    exact eLB ha h3
theorem okG_add {n : Nat} {g : Nat → Nat → Nat} (hg : okG n g) (hn : n < 20) {x0 x1 x2 x3 x4 x5 : Nat} (hx : x6 x0 x1 x2 x3 x4 x5) : okG (n + 1) (upg g n (xs7 x0 x1 x2 x3 x4 x5 1)) := by
  obtain ⟨c0, c1, c2, c3, c4, c5⟩ := hx
  refine ⟨by omega, ?_, ?_⟩
  · intro d k hd hk
    by_cases e : d = n
    · subst e
      rw [upg_s]
      rcases k7 hk with rfl | rfl | rfl | rfl | rfl | rfl | rfl
      · exact c0
      · exact c1
      · exact c2.2
      · exact c3
      · exact c4
      · exact c5
      · exact Nat.le_refl 1
    · rw [upg_n g e]
      exact hg.2.1 d k hd hk
  · intro d hd
    by_cases e : d = n
    · subst e
      rw [upg_s]
      exact c2.1
    · rw [upg_n g e]
      exact hg.2.2 d (by omega)
theorem i_readInto {ch : Nat → Nat} {t : Nat} {rt : Nat → Int32} (hT : txt ch t rt) {n : Nat} {g : Nat → Nat → Nat} (hg : okG n g) {item v : Nat → Int32} {err : Int32} (hv : ∀ d k, d < 20 → k < 7 → v (d * 7 + k) = nI (g d k)) {Q : Int32 → (Nat → Int32) → Int32 → Int32 → (Nat → Int32) → Int32 → Prop}
    (h1 : ∀ m item' a err' v' n' g', LG ch t m n g 0 n' g' → m ≤ 20 → okG n' g' → (∀ d k, d < 20 → k < 7 → v' (d * 7 + k) = nI (g' d k)) → Q (nI m) item' a err' v' (nI n'))
    (h0 : ∀ m e item' a v' dn, LB ch t m n 0 e → Q (-nI 1000 - nI e) item' a (nI e) v' dn) : p_X5_readInto rt item (nI t) err v (nI n) Q := by
  have hn := hg.1
  have ht := hT.1
  unfold p_X5_readInto p_X5_readInto_7
  refine wl5 (q_X5_readInto_7 rt (nI t) Q) 21 (by decide) (fun k _ a _ v dn => ∃ nk gk pk, dn = nI nk ∧ nk = n + k ∧ okG nk gk ∧ (∀ d k, d < 20 → k < 7 → v (d * 7 + k) = nI (gk d k)) ∧ a = nI pk ∧ pk ≤ t ∧ (∀ j n' g', LG ch t j nk gk pk n' g' → LG ch t (k + j) n g 0 n' g') ∧ (∀ j e, LB ch t j nk pk e → LB ch t (k + j) n 0 e)) 0 (by omega) _ _ _ _ _ ⟨n, g, 0, rfl, rfl, hg, hv, rfl, Nat.zero_le _, fun j n' g' h => by rw [Nat.zero_add]; exact h, fun j e h => by rw [Nat.zero_add]; exact h⟩ ?_
  rintro K k it a er vv dn _ hk ⟨nk, gk, pk, rfl, hnk, hgk, hvk, rfl, hpk, hL, hB⟩ hK
  have hk20 := hgk.1
  unfold q_X5_readInto_7
  have h20 : (20 : Int32) < nI k ↔ 20 < k := nI_ltI (a := 20) (b := k) (by decide) (by omega)
  rw [h20]
  refine ⟨fun hge => absurd hge (by omega), fun _ => i_nextSign hT hpk ?_⟩
  obtain ⟨f1, f2, f3⟩ := skp_b (ch := ch) hpk
  have hskk := skp_i (ch := ch) hpk
  by_cases e : skp ch t pk < t
  · have hch := (hT.2 _ e).2
    rw [if_pos e]
    have hne : ¬ nI (ch (skp ch t pk)) = (0 : Int32) := fun q => by
      have := (nI_eqI (a := ch (skp ch t pk)) (b := 0) (by omega) (by decide)).1 q
      omega
    refine ⟨fun _ => ?_, fun q => absurd q hne⟩
    refine i_readItem hT f2 hk20 hvk (fun x0 x1 x2 x3 x4 x5 a item' v' hn20 hok ha hx hv' => ⟨fun _ => ?_, fun q => absurd q (by decide)⟩) (fun e' item' a hbad => ⟨fun q => absurd rfl q, fun _ => ?_⟩)
    · have e1 : nI k + 1 = nI (k + 1) := nI_add k 1
      rw [e1]
      refine hK (by omega) _ _ _ _ _ ⟨nk + 1, upg gk nk (xs7 x0 x1 x2 x3 x4 x5 1), a, rfl, by omega, okG_add hgk hn20 hx, hv', rfl, ha, ?_, ?_⟩
      · intro j n' g' h
        have := hL (j + 1) n' g' ⟨e, hn20, x0, x1, x2, x3, x4, x5, a, ha, hx, hok, h⟩
        rw [show k + (j + 1) = k + 1 + j by omega] at this
        exact this
      · intro j e' h
        have := hB (j + 1) e' ⟨e, hn20, x0, x1, x2, x3, x4, x5, a, ha, hok, h⟩
        rw [show k + (j + 1) = k + 1 + j by omega] at this
        exact this
    · exact h0 (k + 0) e' _ _ _ _ (hB 0 e' ⟨e, hbad⟩)
  · rw [if_neg e]
    refine ⟨fun q => absurd rfl q, fun _ => ?_⟩
    have e2 : skp ch t pk = t := by omega
    exact h1 k _ _ _ _ nk gk (hL 0 nk gk ⟨e2, rfl, rfl⟩) (by omega) hgk hvk
/-! ===== the reference's item ===== -/
theorem r_num {ch : Nat → Nat} {t : Nat} {mt : Nat → Int32} (hT : txt ch t mt) {k p p' v a : Nat} (hk : k < 7) (hp : p' ≤ t) (hpp : skp ch t p' = skp ch t p) (hf : fNum ch t k p v a) {Q : Int32 → Int32 → Int32 → Prop} (h : Q (nI 1) (nI (skp ch t a)) (nI v)) : p_X9_readNumber mt (nI t) (nI p') (nI (loD k)) (nI (hiD k)) Q := by
  have hhi : hiD k ≤ 9999 ∧ loD k ≤ hiD k := by
    rcases k7 hk with rfl | rfl | rfl | rfl | rfl | rfl | rfl <;> decide
  obtain ⟨q1, q2, q3⟩ := hf
  refine i_readNumber9 hT hp hhi.1 hhi.2 (fun _ => ?_) (fun q => ?_)
  · rw [← q3] at q2
    rw [hpp, ← q3, ← q2]
    exact h
  · rw [hpp] at q
    exact absurd q1 q
theorem r_numBad {ch : Nat → Nat} {t : Nat} {mt : Nat → Int32} (hT : txt ch t mt) {k p p' e : Nat} (hk : k < 7) (hp : p' ≤ t) (hpp : skp ch t p' = skp ch t p) (hf : bNum ch t k p e) {Q : Int32 → Int32 → Int32 → Prop} (h : ∀ v, Q (nI 0) (nI e) v) : p_X9_readNumber mt (nI t) (nI p') (nI (loD k)) (nI (hiD k)) Q := by
  have hhi : hiD k ≤ 9999 ∧ loD k ≤ hiD k := by
    rcases k7 hk with rfl | rfl | rfl | rfl | rfl | rfl | rfl <;> decide
  obtain ⟨q1, q2⟩ := hf
  refine i_readNumber9 hT hp hhi.1 hhi.2 (fun q => ?_) (fun _ v => ?_)
  · rw [hpp] at q
    exact absurd q q1
  · rw [hpp, ← q2]
    exact h v
theorem r_sgn {ch : Nat → Nat} {t : Nat} {mt : Nat → Int32} (hT : txt ch t mt) {c p a : Nat} (hp : p ≤ t) (hc : 1 ≤ c ∧ c ≤ 255) (hf : fSgn ch t c p a) {Q : Int32 → Int32 → Prop} (h : Q (nI 1) (nI a)) : p_X9_reads mt (nI t) (nI (skp ch t p)) (nI c) Q := by
  obtain ⟨q1, q2, q3⟩ := hf
  refine i_reads hT (skp_b hp).2.1 hc (fun _ => ?_) (fun q => absurd ⟨q1, q2⟩ q)
  rw [← q3]
  exact h
theorem r_sgnBad {ch : Nat → Nat} {t : Nat} {mt : Nat → Int32} (hT : txt ch t mt) {c p e : Nat} (hp : p ≤ t) (hc : 1 ≤ c ∧ c ≤ 255) (hf : bSgn ch t c p e) {Q : Int32 → Int32 → Prop} (h : Q (nI 0) (nI e)) : p_X9_reads mt (nI t) (nI (skp ch t p)) (nI c) Q := by
  obtain ⟨q1, q2⟩ := hf
  refine i_reads hT (skp_b hp).2.1 hc (fun q => absurd q q1) (fun _ => ?_)
  rw [← q2]
  exact h
theorem r_itemBad {ch : Nat → Nat} {t : Nat} {mt : Nat → Int32} (hT : txt ch t mt) {p : Nat} (hp : p ≤ t) {n : Nat} (hn : n < 20) {spare : Nat → Int32} (hsp : spare 0 = nI n) {e : Nat} (hB : iBad ch t p e) {value : Int32} {Q : Int32 → (Nat → Int32) → Int32 → Int32 → Prop} (h : ∀ sp' v', Q (nI 0) sp' (nI e) v') : p_X9_readItem spare mt (nI t) (nI p) value Q := by
  unfold p_X9_readItem
  refine ⟨vk 0 455, fun q => ?_, fun _ => ?_⟩
  · have q2 : spare 0 = (20 : Int32) := q
    rw [hsp] at q2
    have := (nI_eqI (a := n) (b := 20) (by omega) (by decide)).1 q2
    omega
  rcases hB with b | ⟨x0, a1, f1, hB⟩
  · exact r_numBad hT (k := 0) (by decide) hp rfl b (fun v => ⟨fun q => absurd rfl q, fun _ => h _ v⟩)
  have l1 := fNum_le hp f1
  refine r_num hT (k := 0) (by decide) hp rfl f1 ⟨fun _ => ?_, fun q => absurd q (by decide)⟩
  rcases hB with b | ⟨a2, f2, hB⟩
  · exact r_sgnBad hT (c := 58) l1 (by decide) b ⟨fun _ => h _ _, fun q => absurd rfl q⟩
  have l2 := fSgn_le f2
  refine r_sgn hT (c := 58) l1 (by decide) f2 ⟨fun q => absurd q (by decide), fun _ => ?_⟩
  rcases hB with b | ⟨x1, a3, f3, hB⟩
  · exact r_numBad hT (k := 1) (by decide) l2 rfl b (fun v => ⟨fun q => absurd rfl q, fun _ => h _ v⟩)
  have l3 := fNum_le l2 f3
  refine r_num hT (k := 1) (by decide) l2 rfl f3 ⟨fun _ => ?_, fun q => absurd q (by decide)⟩
  rcases hB with b | ⟨a4, f4, hB⟩
  · exact r_sgnBad hT (c := 36) l3 (by decide) b ⟨fun _ => h _ _, fun q => absurd rfl q⟩
  have l4 := fSgn_le f4
  refine r_sgn hT (c := 36) l3 (by decide) f4 ⟨fun q => absurd q (by decide), fun _ => ?_⟩
  rcases hB with b | ⟨x2, a5, f5, hB⟩
  · exact r_numBad hT (k := 2) (by decide) l4 rfl b (fun v => ⟨fun q => absurd rfl q, fun _ => h _ v⟩)
  have l5 := fNum_le l4 f5
  refine r_num hT (k := 2) (by decide) l4 rfl f5 ⟨fun _ => ?_, fun q => absurd q (by decide)⟩
  have ls5 := (skp_b (ch := ch) l5).2.1
  have hrp := rdp_skp ch (t := t) (z := 0) 0 (p := a5) rfl l5
  obtain ⟨r1, r2, r3, r4, r5, r6⟩ := rdp_b (ch := ch) (t := t) (z := 0) (by decide) (p := a5) (x := 0) rfl l5 (by decide)
  rcases hB with b | ⟨x3, e1, f6, hB⟩
  · refine i_readLetters hT (z := 0) (by decide) ls5 (fun q => ?_) (fun _ v => ?_)
    · rw [hrp, b.1] at q
      exact absurd q (by decide)
    · rw [hrp, ← b.2]
      exact ⟨fun q => absurd rfl q, fun _ => h _ v⟩
  have f6c := id f6
  obtain ⟨g1, rfl, rfl⟩ := f6c
  refine i_readLetters hT (z := 0) (by decide) ls5 (fun _ => ?_) (fun q => ?_)
  rotate_left
  · rw [hrp, g1] at q
    exact absurd q (by decide)
  rw [hrp]
  have hse := r6 g1
  have go : ∀ k0 : Nat, k0 = (if (rdp ch t 0 a5 0).2.1 = 0 then 15 else (rdp ch t 0 a5 0).2.1) → p_X9_readItem_106 mt (nI t) spare (nI (rdp ch t 0 a5 0).2.2) (nI (rdp ch t 0 a5 0).2.1) (nI x0) (nI x1) (nI x2) (nI k0) Q := by
    intro k0 hk0
    unfold p_X9_readItem_106
    generalize hx3 : (if (rdp ch t 0 a5 0).2.1 = 0 then 15 else (rdp ch t 0 a5 0).2.1) = x3 at *
    subst hk0
    generalize (rdp ch t 0 a5 0).2.2 = e1 at *
    rcases hB with ⟨b, s1, hz, rfl⟩ | ⟨x4, e2, f7, hB⟩
    · have lb := fSgn_le s1
      have s1' := r_sgn (Q := fun r10 place_9 => ((r10 = 0 → p_X9_readItem_143 mt (nI t) spare place_9 (nI (rdp ch t 0 a5 0).2.1) (nI x0) (nI x1) (nI x2) (nI k0) 0 Q) ∧ (¬ r10 = 0 → p_X9_readLetters mt (nI t) place_9 0 (fun r13 place_11 value_12 => ((r13 = 0 → Q 0 spare place_11 value_12) ∧ (¬ r13 = 0 → ((¬ value_12 = 0 → p_X9_readItem_143 mt (nI t) spare place_11 value_12 (nI x0) (nI x1) (nI x2) (nI k0) value_12 Q) ∧ (value_12 = 0 → Q 0 spare place_11 value_12)))))))) hT (c := 43) r4 (by decide) s1 ⟨fun q => absurd q (by decide), fun _ => ?_⟩
      · rw [hse] at s1'
        exact s1'
      · refine i_readLetters hT (z := 1) (by decide) lb (fun ho => ?_) (fun _ v => ⟨fun _ => h _ v, fun q => absurd rfl q⟩)
        refine ⟨fun q => absurd q (by decide), fun _ => ?_⟩
        rcases hz with hz | ⟨_, hz⟩
        · rw [hz] at ho
          exact absurd ho (by decide)
        · rw [hz]
          exact ⟨fun q => absurd rfl q, fun _ => h _ _⟩
    have l7 : e2 ≤ t ∧ skp ch t e2 = e2 := by
      rcases f7 with ⟨b, s1, s2, s3, s4, rfl⟩ | ⟨⟨_, rfl⟩, _⟩
      · obtain ⟨_, _, _, w4, _, w6⟩ := rdp_b (ch := ch) (t := t) (z := 1) (by decide) (p := b) (x := 0) rfl (fSgn_le s1) (by decide)
        exact ⟨w4, w6 s2⟩
      · exact ⟨(skp_b r4).2.1, skp_i r4⟩
    obtain ⟨l7, k7⟩ := l7
    have go2 : ∀ value, p_X9_readItem_143 mt (nI t) spare (nI e2) value (nI x0) (nI x1) (nI x2) (nI k0) (nI x4) Q := by
      intro value
      unfold p_X9_readItem_143
      rcases hB with ⟨b, s1, s2⟩ | ⟨x5, e3, f8, hB⟩
      · have lb := fSgn_le s1
        have s1' := r_sgn (Q := fun r5 place_4 => ((r5 = 0 → p_X9_readItem_172 mt (nI t) spare place_4 value (nI x0) (nI x1) (nI x2) (nI k0) (nI x4) 2 Q) ∧ (¬ r5 = 0 → p_X9_readNumber mt (nI t) place_4 1 5 (fun r8 place_6 value_7 => ((¬ r8 = 0 → p_X9_readItem_172 mt (nI t) spare place_6 value_7 (nI x0) (nI x1) (nI x2) (nI k0) (nI x4) value_7 Q) ∧ (r8 = 0 → Q 0 spare place_6 value_7)))))) hT (c := 42) l7 (by decide) s1 ⟨fun q => absurd q (by decide), fun _ => r_numBad hT (k := 5) (by decide) lb rfl s2 (fun v => ⟨fun q => absurd rfl q, fun _ => h _ v⟩)⟩
        rw [k7] at s1'
        exact s1'
      have go3 : ∀ value, p_X9_readItem_172 mt (nI t) spare (nI (skp ch t e3)) value (nI x0) (nI x1) (nI x2) (nI k0) (nI x4) (nI x5) Q := by
        intro value
        have l8 : e3 ≤ t := by
          rcases f8 with ⟨b, s1, s2⟩ | ⟨⟨_, rfl⟩, _⟩
          · exact fNum_le (fSgn_le s1) s2
          · exact (skp_b l7).2.1
        unfold p_X9_readItem_172
        refine i_addsa hn hsp ?_
        intro sp' p0 p1 p2
        exact r_sgnBad hT (c := 59) l8 (by decide) hB (h _ _)
      rcases f8 with ⟨b, s1, s2⟩ | ⟨s1, rfl⟩
      · have lb := fSgn_le s1
        have s1' := r_sgn (Q := fun r5 place_4 => ((r5 = 0 → p_X9_readItem_172 mt (nI t) spare place_4 value (nI x0) (nI x1) (nI x2) (nI k0) (nI x4) 2 Q) ∧ (¬ r5 = 0 → p_X9_readNumber mt (nI t) place_4 1 5 (fun r8 place_6 value_7 => ((¬ r8 = 0 → p_X9_readItem_172 mt (nI t) spare place_6 value_7 (nI x0) (nI x1) (nI x2) (nI k0) (nI x4) value_7 Q) ∧ (r8 = 0 → Q 0 spare place_6 value_7)))))) hT (c := 42) l7 (by decide) s1 ⟨fun q => absurd q (by decide), fun _ => r_num hT (k := 5) (by decide) lb rfl s2 ⟨fun _ => go3 _, fun q => absurd q (by decide)⟩⟩
        rw [k7] at s1'
        exact s1'
      · have he3 : e3 = skp ch t e2 := s1.2
        have hsk3 : skp ch t e3 = e3 := by rw [he3]; exact skp_i l7
        have s1' := r_sgnBad (Q := fun r5 place_4 => ((r5 = 0 → p_X9_readItem_172 mt (nI t) spare place_4 value (nI x0) (nI x1) (nI x2) (nI k0) (nI x4) 2 Q) ∧ (¬ r5 = 0 → p_X9_readNumber mt (nI t) place_4 1 5 (fun r8 place_6 value_7 => ((¬ r8 = 0 → p_X9_readItem_172 mt (nI t) spare place_6 value_7 (nI x0) (nI x1) (nI x2) (nI k0) (nI x4) value_7 Q) ∧ (r8 = 0 → Q 0 spare place_6 value_7)))))) hT (c := 42) l7 (by decide) s1 ⟨fun _ => ?_, fun q => absurd rfl q⟩
        · rw [k7] at s1'
          exact s1'
        · have := go3 value
          rw [hsk3] at this
          exact this
    rcases f7 with ⟨b, s1, s2, s3, rfl, rfl⟩ | ⟨s1, rfl⟩
    · have lb := fSgn_le s1
      have s1' := r_sgn (Q := fun r10 place_9 => ((r10 = 0 → p_X9_readItem_143 mt (nI t) spare place_9 (nI (rdp ch t 0 a5 0).2.1) (nI x0) (nI x1) (nI x2) (nI k0) 0 Q) ∧ (¬ r10 = 0 → p_X9_readLetters mt (nI t) place_9 0 (fun r13 place_11 value_12 => ((r13 = 0 → Q 0 spare place_11 value_12) ∧ (¬ r13 = 0 → ((¬ value_12 = 0 → p_X9_readItem_143 mt (nI t) spare place_11 value_12 (nI x0) (nI x1) (nI x2) (nI k0) value_12 Q) ∧ (value_12 = 0 → Q 0 spare place_11 value_12)))))))) hT (c := 43) r4 (by decide) s1 ⟨fun q => absurd q (by decide), fun _ => ?_⟩
      · rw [hse] at s1'
        exact s1'
      · refine i_readLetters hT (z := 1) (by decide) lb (fun _ => ?_) (fun q => ?_)
        · refine ⟨fun q => absurd q (by decide), fun _ => ⟨fun _ => go2 _, fun q => ?_⟩⟩
          obtain ⟨_, w2, _⟩ := rdp_b (ch := ch) (t := t) (z := 1) (by decide) (p := b) (x := 0) rfl lb (by decide)
          exact absurd ((nI_eqI (a := (rdp ch t 1 b 0).2.1) (b := 0) (by omega) (by decide)).1 q) s3
        · rw [s2] at q
          exact absurd q (by decide)
    · have he2 : e2 = skp ch t e1 := s1.2
      have s1' := r_sgnBad (Q := fun r10 place_9 => ((r10 = 0 → p_X9_readItem_143 mt (nI t) spare place_9 (nI (rdp ch t 0 a5 0).2.1) (nI x0) (nI x1) (nI x2) (nI k0) 0 Q) ∧ (¬ r10 = 0 → p_X9_readLetters mt (nI t) place_9 0 (fun r13 place_11 value_12 => ((r13 = 0 → Q 0 spare place_11 value_12) ∧ (¬ r13 = 0 → ((¬ value_12 = 0 → p_X9_readItem_143 mt (nI t) spare place_11 value_12 (nI x0) (nI x1) (nI x2) (nI k0) value_12 Q) ∧ (value_12 = 0 → Q 0 spare place_11 value_12)))))))) hT (c := 43) r4 (by decide) s1 ⟨fun _ => go2 _, fun q => absurd rfl q⟩
      rw [hse] at s1'
      exact s1'
  have hz : nI (rdp ch t 0 a5 0).2.1 = (0 : Int32) ↔ (rdp ch t 0 a5 0).2.1 = 0 := nI_eqI (a := (rdp ch t 0 a5 0).2.1) (b := 0) (by omega) (by decide)
  refine ⟨fun _ => ?_, fun q => absurd q (by decide)⟩
  rw [hz]
  exact ⟨fun e => go _ (if_neg e).symm, fun e => go 15 (if_pos e).symm⟩
theorem r_item {ch : Nat → Nat} {t : Nat} {mt : Nat → Int32} (hT : txt ch t mt) {p : Nat} (hp : p ≤ t) {n : Nat} (hn : n < 20) {spare : Nat → Int32} (hsp : spare 0 = nI n) {x0 x1 x2 x3 x4 x5 a : Nat} (hok : iOK ch t p x0 x1 x2 x3 x4 x5 a) {value : Int32} {Q : Int32 → (Nat → Int32) → Int32 → Int32 → Prop} (h : ∀ sp' v', sp' 0 = nI (n + 1) → (∀ k, k < 7 → sp' (1 + 7 * n + k) = nI (xs7 x0 x1 x2 x3 x4 x5 1 k)) → (∀ j, j ≠ 0 → ¬ (1 + 7 * n ≤ j ∧ j < 1 + 7 * n + 7) → sp' j = spare j) → Q (nI 1) sp' (nI a) v') : p_X9_readItem spare mt (nI t) (nI p) value Q := by
  obtain ⟨a1, a2, a3, a4, a5, e1, e2, e3, f1, f2, f3, f4, f5, f6, f7, f8, f9⟩ := hok
  unfold p_X9_readItem
  refine ⟨vk 0 455, fun q => ?_, fun _ => ?_⟩
  · have q2 : spare 0 = (20 : Int32) := q
    rw [hsp] at q2
    have := (nI_eqI (a := n) (b := 20) (by omega) (by decide)).1 q2
    omega
  have l1 := fNum_le hp f1
  refine r_num hT (k := 0) (by decide) hp rfl f1 ⟨fun _ => ?_, fun q => absurd q (by decide)⟩
  have l2 := fSgn_le f2
  refine r_sgn hT (c := 58) l1 (by decide) f2 ⟨fun q => absurd q (by decide), fun _ => ?_⟩
  have l3 := fNum_le l2 f3
  refine r_num hT (k := 1) (by decide) l2 rfl f3 ⟨fun _ => ?_, fun q => absurd q (by decide)⟩
  have l4 := fSgn_le f4
  refine r_sgn hT (c := 36) l3 (by decide) f4 ⟨fun q => absurd q (by decide), fun _ => ?_⟩
  have l5 := fNum_le l4 f5
  refine r_num hT (k := 2) (by decide) l4 rfl f5 ⟨fun _ => ?_, fun q => absurd q (by decide)⟩
  have ls5 := (skp_b (ch := ch) l5).2.1
  have hrp := rdp_skp ch (t := t) (z := 0) 0 (p := a5) rfl l5
  obtain ⟨r1, r2, r3, r4, r5, r6⟩ := rdp_b (ch := ch) (t := t) (z := 0) (by decide) (p := a5) (x := 0) rfl l5 (by decide)
  have f6c := id f6
  obtain ⟨g1, rfl, rfl⟩ := f6c
  refine i_readLetters hT (z := 0) (by decide) ls5 (fun _ => ?_) (fun q => ?_)
  rotate_left
  · rw [hrp, g1] at q
    exact absurd q (by decide)
  rw [hrp]
  have hse := r6 g1
  have go : ∀ k0 : Nat, k0 = (if (rdp ch t 0 a5 0).2.1 = 0 then 15 else (rdp ch t 0 a5 0).2.1) → p_X9_readItem_106 mt (nI t) spare (nI (rdp ch t 0 a5 0).2.2) (nI (rdp ch t 0 a5 0).2.1) (nI x0) (nI x1) (nI x2) (nI k0) Q := by
    intro k0 hk0
    unfold p_X9_readItem_106
    generalize hx3 : (if (rdp ch t 0 a5 0).2.1 = 0 then 15 else (rdp ch t 0 a5 0).2.1) = x3 at *
    subst hk0
    generalize (rdp ch t 0 a5 0).2.2 = e1 at *
    have l7 : e2 ≤ t ∧ skp ch t e2 = e2 := by
      rcases f7 with ⟨b, s1, s2, s3, s4, rfl⟩ | ⟨⟨_, rfl⟩, _⟩
      · obtain ⟨_, _, _, w4, _, w6⟩ := rdp_b (ch := ch) (t := t) (z := 1) (by decide) (p := b) (x := 0) rfl (fSgn_le s1) (by decide)
        exact ⟨w4, w6 s2⟩
      · exact ⟨(skp_b r4).2.1, skp_i r4⟩
    obtain ⟨l7, k7⟩ := l7
    have go2 : ∀ value, p_X9_readItem_143 mt (nI t) spare (nI e2) value (nI x0) (nI x1) (nI x2) (nI k0) (nI x4) Q := by
      intro value
      unfold p_X9_readItem_143
      have go3 : ∀ value, p_X9_readItem_172 mt (nI t) spare (nI (skp ch t e3)) value (nI x0) (nI x1) (nI x2) (nI k0) (nI x4) (nI x5) Q := by
        intro value
        have l8 : e3 ≤ t := by
          rcases f8 with ⟨b, s1, s2⟩ | ⟨⟨_, rfl⟩, _⟩
          · exact fNum_le (fSgn_le s1) s2
          · exact (skp_b l7).2.1
        unfold p_X9_readItem_172
        refine i_addsa hn hsp ?_
        intro sp' p0 p1 p2
        exact r_sgn hT (c := 59) l8 (by decide) f9 (h sp' _ p0 p1 p2)
      rcases f8 with ⟨b, s1, s2⟩ | ⟨s1, rfl⟩
      · have lb := fSgn_le s1
        have s1' := r_sgn (Q := fun r5 place_4 => ((r5 = 0 → p_X9_readItem_172 mt (nI t) spare place_4 value (nI x0) (nI x1) (nI x2) (nI k0) (nI x4) 2 Q) ∧ (¬ r5 = 0 → p_X9_readNumber mt (nI t) place_4 1 5 (fun r8 place_6 value_7 => ((¬ r8 = 0 → p_X9_readItem_172 mt (nI t) spare place_6 value_7 (nI x0) (nI x1) (nI x2) (nI k0) (nI x4) value_7 Q) ∧ (r8 = 0 → Q 0 spare place_6 value_7)))))) hT (c := 42) l7 (by decide) s1 ⟨fun q => absurd q (by decide), fun _ => r_num hT (k := 5) (by decide) lb rfl s2 ⟨fun _ => go3 _, fun q => absurd q (by decide)⟩⟩
        rw [k7] at s1'
        exact s1'
      · have he3 : e3 = skp ch t e2 := s1.2
        have hsk3 : skp ch t e3 = e3 := by rw [he3]; exact skp_i l7
        have s1' := r_sgnBad (Q := fun r5 place_4 => ((r5 = 0 → p_X9_readItem_172 mt (nI t) spare place_4 value (nI x0) (nI x1) (nI x2) (nI k0) (nI x4) 2 Q) ∧ (¬ r5 = 0 → p_X9_readNumber mt (nI t) place_4 1 5 (fun r8 place_6 value_7 => ((¬ r8 = 0 → p_X9_readItem_172 mt (nI t) spare place_6 value_7 (nI x0) (nI x1) (nI x2) (nI k0) (nI x4) value_7 Q) ∧ (r8 = 0 → Q 0 spare place_6 value_7)))))) hT (c := 42) l7 (by decide) s1 ⟨fun _ => ?_, fun q => absurd rfl q⟩
        · rw [k7] at s1'
          exact s1'
        · have := go3 value
          rw [hsk3] at this
          exact this
    rcases f7 with ⟨b, s1, s2, s3, rfl, rfl⟩ | ⟨s1, rfl⟩
    · have lb := fSgn_le s1
      have s1' := r_sgn (Q := fun r10 place_9 => ((r10 = 0 → p_X9_readItem_143 mt (nI t) spare place_9 (nI (rdp ch t 0 a5 0).2.1) (nI x0) (nI x1) (nI x2) (nI k0) 0 Q) ∧ (¬ r10 = 0 → p_X9_readLetters mt (nI t) place_9 0 (fun r13 place_11 value_12 => ((r13 = 0 → Q 0 spare place_11 value_12) ∧ (¬ r13 = 0 → ((¬ value_12 = 0 → p_X9_readItem_143 mt (nI t) spare place_11 value_12 (nI x0) (nI x1) (nI x2) (nI k0) value_12 Q) ∧ (value_12 = 0 → Q 0 spare place_11 value_12)))))))) hT (c := 43) r4 (by decide) s1 ⟨fun q => absurd q (by decide), fun _ => ?_⟩
      · rw [hse] at s1'
        exact s1'
      · refine i_readLetters hT (z := 1) (by decide) lb (fun _ => ?_) (fun q => ?_)
        · refine ⟨fun q => absurd q (by decide), fun _ => ⟨fun _ => go2 _, fun q => ?_⟩⟩
          obtain ⟨_, w2, _⟩ := rdp_b (ch := ch) (t := t) (z := 1) (by decide) (p := b) (x := 0) rfl lb (by decide)
          exact absurd ((nI_eqI (a := (rdp ch t 1 b 0).2.1) (b := 0) (by omega) (by decide)).1 q) s3
        · rw [s2] at q
          exact absurd q (by decide)
    · have he2 : e2 = skp ch t e1 := s1.2
      have s1' := r_sgnBad (Q := fun r10 place_9 => ((r10 = 0 → p_X9_readItem_143 mt (nI t) spare place_9 (nI (rdp ch t 0 a5 0).2.1) (nI x0) (nI x1) (nI x2) (nI k0) 0 Q) ∧ (¬ r10 = 0 → p_X9_readLetters mt (nI t) place_9 0 (fun r13 place_11 value_12 => ((r13 = 0 → Q 0 spare place_11 value_12) ∧ (¬ r13 = 0 → ((¬ value_12 = 0 → p_X9_readItem_143 mt (nI t) spare place_11 value_12 (nI x0) (nI x1) (nI x2) (nI k0) value_12 Q) ∧ (value_12 = 0 → Q 0 spare place_11 value_12)))))))) hT (c := 43) r4 (by decide) s1 ⟨fun _ => go2 _, fun q => absurd rfl q⟩
      rw [hse] at s1'
      exact s1'
  have hz : nI (rdp ch t 0 a5 0).2.1 = (0 : Int32) ↔ (rdp ch t 0 a5 0).2.1 = 0 := nI_eqI (a := (rdp ch t 0 a5 0).2.1) (b := 0) (by omega) (by decide)
  refine ⟨fun _ => ?_, fun q => absurd q (by decide)⟩
  rw [hz]
  exact ⟨fun e => go _ (if_neg e).symm, fun e => go 15 (if_pos e).symm⟩
theorem r_load {ch : Nat → Nat} {t : Nat} {mt : Nat → Int32} (hT : txt ch t mt) {n : Nat} (hn : n ≤ 20) {g : Nat → Nat → Nat} {s sd : Nat → Nat} {pg hist sp : Nat → Int32} {st value : Int32} (hR : relR n g s sd sp) (hs : ∀ j, 151 ≤ j → j < 455 → sp j = pg j) {Q : Int32 → (Nat → Int32) → (Nat → Int32) → (Nat → Int32) → Int32 → Int32 → Int32 → Int32 → Prop}
    (h : (∃ m n' g', LG ch t m n g 0 n' g' ∧ m ≤ 20 ∧ ∀ sp' pl v', relR n' g' s sd sp' → (∀ j, 151 ≤ j → j < 455 → sp' j = pg j) → p_X9_keep pg hist st (fun history states => p_X9_bringe sp' pg (nI 0) (nI 0) (nI 455) (fun page => Q (nI m) page sp' history states (nI 0) pl v'))) ∨ (∃ m e, LB ch t m n 0 e ∧ ∀ sp' v', Q (-nI 1000 - nI e) pg sp' hist st (nI t) (nI e) v')) : p_X9_load_27 mt pg hist st (nI t) Q sp (nI (skp ch t 0)) value (nI 0) := by
  have ht := hT.1
  have step : ∀ (nk : Nat) (gk : Nat → Nat → Nat) (spk : Nat → Int32) x0 x1 x2 x3 x4 x5 (sp' : Nat → Int32), nk < 20 → relR nk gk s sd spk → (∀ j, 151 ≤ j → j < 455 → spk j = pg j) → sp' 0 = nI (nk + 1) → (∀ k, k < 7 → sp' (1 + 7 * nk + k) = nI (xs7 x0 x1 x2 x3 x4 x5 1 k)) → (∀ j, j ≠ 0 → ¬ (1 + 7 * nk ≤ j ∧ j < 1 + 7 * nk + 7) → sp' j = spk j) → relR (nk + 1) (upg gk nk (xs7 x0 x1 x2 x3 x4 x5 1)) s sd sp' ∧ ∀ j, 151 ≤ j → j < 455 → sp' j = pg j := by
    intro nk gk spk x0 x1 x2 x3 x4 x5 sp' hnk hR hs p0 p1 p2
    refine ⟨⟨p0, fun d k hd hk => ?_, fun k hk => ?_, fun c hc => ?_⟩, fun j h1 h2 => ?_⟩
    · by_cases e : d = nk
      · subst e
        rw [upg_s]
        exact p1 k hk
      · rw [upg_n gk e, p2 _ (by omega) (by omega)]
        exact hR.2.1 d k hd hk
    · rw [p2 _ (by omega) (by omega)]
      exact hR.2.2.1 k hk
    · rw [p2 _ (by omega) (by omega)]
      exact hR.2.2.2 c hc
    · rw [p2 _ (by omega) (by omega)]
      exact hs j h1 h2
  unfold p_X9_load_27
  rcases h with ⟨m, n', g', hL, hm, h⟩ | ⟨m, e, hL, h⟩
  · refine wl3 (q_X9_load_27 mt pg hist st (nI t) Q) m (by omega) (fun k spk pl _ => ∃ nk gk pk, relR nk gk s sd spk ∧ (∀ j, 151 ≤ j → j < 455 → spk j = pg j) ∧ pl = nI (skp ch t pk) ∧ pk ≤ t ∧ LG ch t (m - k) nk gk pk n' g') 0 (by omega) _ _ _ ⟨n, g, 0, hR, hs, rfl, Nat.zero_le _, hL⟩ ?_
    rintro K k spk pl va _ hk ⟨nk, gk, pk, hRk, hsk, rfl, hpk, hLk⟩ hK
    obtain ⟨f1, f2, f3⟩ := skp_b (ch := ch) hpk
    unfold q_X9_load_27
    rw [nI_leI (by omega) (by omega)]
    by_cases e : k = m
    · subst e
      rw [Nat.sub_self] at hLk
      obtain ⟨q1, rfl, rfl⟩ := hLk
      exact ⟨fun _ => h _ _ _ hRk hsk, fun q => absurd q (by omega)⟩
    · obtain ⟨j, hj⟩ : ∃ j, m - k = j + 1 := ⟨m - k - 1, by omega⟩
      rw [hj] at hLk
      obtain ⟨q1, q2, x0, x1, x2, x3, x4, x5, a, ha, hx, hok, hLn⟩ := hLk
      refine ⟨fun q => absurd q (by omega), fun _ => ?_⟩
      refine r_item hT f2 q2 hRk.1 hok ?_
      intro sp' v' p0 p1 p2
      refine ⟨fun _ => i_overSpaces hT ha ?_, fun q => absurd q (by decide)⟩
      have e1 : nI k + 1 = nI (k + 1) := nI_add k 1
      rw [e1]
      obtain ⟨w1, w2⟩ := step nk gk spk x0 x1 x2 x3 x4 x5 sp' q2 hRk hsk p0 p1 p2
      refine hK (by omega) _ _ _ ⟨nk + 1, _, a, w1, w2, rfl, ha, ?_⟩
      rw [show m - (k + 1) = j by omega]
      exact hLn
  · have hm : m + n ≤ 20 := by
      have hq : ∀ m n p, LB ch t m n p e → n ≤ 20 → m + n ≤ 20 := by
        intro m
        induction m with
        | zero => intro n p _ h; omega
        | succ m ih =>
          rintro n p ⟨_, h2, x0, x1, x2, x3, x4, x5, a, _, _, h3⟩ _
          have := ih (n + 1) a h3 (by omega)
          omega
      exact hq m n 0 hL hn
    refine wl3 (q_X9_load_27 mt pg hist st (nI t) Q) m (by omega) (fun k spk pl _ => ∃ nk gk pk, relR nk gk s sd spk ∧ (∀ j, 151 ≤ j → j < 455 → spk j = pg j) ∧ pl = nI (skp ch t pk) ∧ pk ≤ t ∧ nk ≤ 20 ∧ LB ch t (m - k) nk pk e) 0 (by omega) _ _ _ ⟨n, g, 0, hR, hs, rfl, Nat.zero_le _, hn, hL⟩ ?_
    rintro K k spk pl va _ hk ⟨nk, gk, pk, hRk, hsk, rfl, hpk, hnk, hLk⟩ hK
    obtain ⟨f1, f2, f3⟩ := skp_b (ch := ch) hpk
    unfold q_X9_load_27
    rw [nI_leI (by omega) (by omega)]
    by_cases e0 : k = m
    · subst e0
      rw [Nat.sub_self] at hLk
      obtain ⟨q1, hbad⟩ := hLk
      refine ⟨fun q => absurd q (by omega), fun _ => ?_⟩
      rcases hbad with ⟨h20, rfl⟩ | ⟨h20, hb⟩
      · subst h20
        unfold p_X9_readItem
        refine ⟨vk 0 455, fun _ => ⟨fun q => absurd rfl q, fun _ => h _ _⟩, fun q => ?_⟩
        exact absurd hRk.1 q
      · exact r_itemBad hT f2 h20 hRk.1 hb (fun sp' v' => ⟨fun q => absurd rfl q, fun _ => h sp' v'⟩)
    · obtain ⟨j, hj⟩ : ∃ j, m - k = j + 1 := ⟨m - k - 1, by omega⟩
      rw [hj] at hLk
      obtain ⟨q1, q2, x0, x1, x2, x3, x4, x5, a, ha, hok, hLn⟩ := hLk
      refine ⟨fun q => absurd q (by omega), fun _ => ?_⟩
      refine r_item hT f2 q2 hRk.1 hok ?_
      intro sp' v' p0 p1 p2
      refine ⟨fun _ => i_overSpaces hT ha ?_, fun q => absurd q (by decide)⟩
      have e1 : nI k + 1 = nI (k + 1) := nI_add k 1
      rw [e1]
      obtain ⟨w1, w2⟩ := step nk gk spk x0 x1 x2 x3 x4 x5 sp' q2 hRk hsk p0 p1 p2
      refine hK (by omega) _ _ _ ⟨nk + 1, _, a, w1, w2, rfl, ha, by omega, ?_⟩
      rw [show m - (k + 1) = j by omega]
      exact hLn
theorem l_load : lawS_12 Rel := by
  unfold lawS_12
  intro S h hz x_draft_values x_draft_settings rt x_reader_item rl x_reader_errorAt pg m_spare hist st mt ml m_value hR
  obtain ⟨hS, ⟨z, rfl, rfl, hH⟩, hT⟩ := hR
  have hR : Rel S h (nI z) rt rl pg hist (nI z) mt ml := ⟨hS, ⟨z, rfl, rfl, hH⟩, hT⟩
  have hz5 := hH.1
  obtain ⟨hM, k0, k1, hk0, hk1, p151, p303, hkk, f0, f1⟩ := id hS
  obtain ⟨n, g, s, sd, hg, ho, hw, ⟨cn, cv, cst, cw⟩, hRR⟩ := id hM
  obtain ⟨rn, rv, rst, rsd⟩ := id hRR
  have hn := hg.1
  obtain ⟨t, rfl, rfl, ht1, ht2⟩ := hT
  have hch : ∃ ch : Nat → Nat, txt ch t rt ∧ txt ch t mt := by
    refine ⟨fun j => (mt j).toNatClampNeg, ⟨ht1, fun j hj => ?_⟩, ⟨ht1, fun j hj => ?_⟩⟩
    · obtain ⟨q1, c, c1, c2, c3⟩ := ht2 j hj
      dsimp only
      rw [q1, c3, nI_clamp (by omega)]
      exact ⟨rfl, c1, c2⟩
    · obtain ⟨q1, c, c1, c2, c3⟩ := ht2 j hj
      dsimp only
      rw [c3, nI_clamp (by omega)]
      exact ⟨rfl, c1, c2⟩
  obtain ⟨ch, hTr, hTm⟩ := hch
  have hRt : relT t rt mt := ⟨ht1, ht2⟩
  obtain ⟨cn2, cv2, cst2, cw2⟩ := relC_cpy (v := x_draft_values) (st := x_draft_settings) ⟨cn, cv, cst, cw⟩
  have ref : ∀ (r : Int32) (S' : sS) (h' : Nat → sS) (hz' rl' : Int32), ((∃ m n' g', LG ch t m n g 0 n' g' ∧ m ≤ 20 ∧ r = nI m ∧ ∀ pg' hist', relR n' g' s sd pg' → (∀ j, 151 ≤ j → j < 455 → pg' j = pg j) → pushR z hist hist' pg → Rel S' h' hz' rt rl' pg' hist' (nI (ht z + 1)) mt (nI 0)) ∨ (∃ m e, LB ch t m n 0 e ∧ r = -nI 1000 - nI e ∧ Rel S' h' hz' rt rl' pg hist (nI z) mt (nI t))) → p_X9_load pg m_spare hist (nI z) mt (nI t) m_value (fun r' page _ history states textLength _ _ => r = r' ∧ Rel S' h' hz' rt rl' page history states mt textLength) := by
    intro r S' h' hz' rl' hr
    unfold p_X9_load
    refine i_bringe (a := 0) (b := 0) (m := 455) (by decide) (by decide) ?_
    intro sp hsp1 hsp2
    have hsp : ∀ j, j < 455 → sp j = pg j := fun j hj => by
      have := hsp1 j hj
      rw [Nat.zero_add] at this
      exact this
    have hRsp : relR n g s sd sp := relR_cg (fun j hj => hsp j (by omega)) hRR
    refine i_overSpaces (p := 0) hTm (Nat.zero_le _) ?_
    refine r_load hTm hn hRsp (fun j _ hj => hsp j hj) ?_
    rcases hr with ⟨m, n', g', hL, hm, rfl, hr⟩ | ⟨m, e, hL, rfl, hr⟩
    · refine Or.inl ⟨m, n', g', hL, hm, fun sp' pl v' h1 h2 => ?_⟩
      refine i_keep hz5 ?_
      intro hist' hpr
      refine i_bringe (by decide) (by decide) ?_
      intro pg' q1 q2
      have hq : ∀ j, j < 455 → pg' j = sp' j := fun j hj => by
        have := q1 j hj
        rw [Nat.zero_add] at this
        exact this
      exact ⟨rfl, hr pg' hist' (relR_cg (fun j hj => hq j (by omega)) h1) (fun j h3 h4 => by rw [hq j h4]; exact h2 j h3 h4) hpr⟩
    · exact Or.inr ⟨m, e, hL, fun sp' v' => ⟨rfl, hr⟩⟩
  unfold p_X8_load
  rw [e_copyFrom, cn]
  refine i_readInto hTr hg cv2 (fun m item' a err' v' n' g' hL hm hg' hv' => ?_) (fun m e item' a v' dn hL => ?_)
  · refine ⟨fun _ => ?_, fun q => absurd (nI_pos' (by omega)) q⟩
    refine i_record hz5 ?_
    intro h' hpc
    rw [e_copyFrom]
    refine ref _ _ _ _ _ (Or.inl ⟨m, n', g', hL, hm, rfl, fun pg' hist' h1 h2 h3 => ⟨?_, ⟨_, rfl, rfl, relH_push hH hS hpc h3⟩, 0, rfl, rfl, by omega, fun j hj => absurd hj (Nat.not_lt_zero j)⟩⟩)
    have hC : relC n' g' s sd v' (va_cpy S.1.2.1 x_draft_settings 0 0 6) (nI n') S.1.2.2.2 := ⟨rfl, hv', cst2, cw⟩
    have hM' : relM (va_cpy v' S.1.1 0 0 140, va_cpy (va_cpy S.1.2.1 x_draft_settings 0 0 6) S.1.2.1 0 0 6, nI n', S.1.2.2.2) pg' := ⟨n', g', s, sd, hg', ho, hw, relC_cpy hC, h1⟩
    obtain ⟨_, q0, q1, a0, a1, a2, a3, a4, b0, b1⟩ := hS
    refine ⟨hM', q0, q1, a0, a1, ?_, ?_, a4, fun q => relM_cg (fun j hj => h2 _ (by omega) (by omega)) (b0 q), fun q => relM_cg (fun j hj => h2 _ (by omega) (by omega)) (b1 q)⟩
    · rw [h2 151 (by decide) (by decide)]
      exact a2
    · rw [h2 303 (by decide) (by decide)]
      exact a3
  · have hneg : ¬ (0 : Int32) ≤ -nI 1000 - nI e := by
      have he : e ≤ 140 := Nat.le_trans (eLB (Nat.zero_le _) hL) ht1
      have : ∀ e, e ≤ 140 → ¬ (0 : Int32) ≤ -nI 1000 - nI e := by decide +kernel
      exact this e he
    refine ⟨fun q => absurd q hneg, fun _ => ?_⟩
    exact ref _ _ _ _ _ (Or.inr ⟨m, e, hL, rfl, hR⟩)

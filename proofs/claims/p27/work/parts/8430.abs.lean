/-! ===== a menu in numbers; a state with its snapshots; an object with its history ===== -/
abbrev aM : Type := Nat × (Nat → Nat → Nat) × (Nat → Nat) × (Nat → Nat)
def rM (M : sM) (m : aM) : Prop := okG m.1 m.2.1 ∧ okS m.2.2.1 ∧ okW m.2.2.2 ∧ relC m.1 m.2.1 m.2.2.1 m.2.2.2 M.1 M.2.1 M.2.2.1 M.2.2.2
abbrev aS : Type := aM × Option aM × Option aM
def snp (q : Option aM) : Nat := if q.isSome then 1 else 0
theorem snp_le (q : Option aM) : snp q ≤ 1 := by
  unfold snp
  split <;> omega
def rS (S : sS) (v : aS) : Prop := rM S.1 v.1 ∧ S.2.2.2 = nI (snp v.2.1 + 2 * snp v.2.2) ∧ (∀ m, v.2.1 = some m → rM S.2.1 m) ∧ (∀ m, v.2.2 = some m → rM S.2.2.1 m)
abbrev aO : Type := aS × List aS
/-- the latest state behind the others, five at most -/
def push (L : List aS) (v : aS) : List aS := (if L.length = 5 then L.tail else L) ++ [v]
def rH (h : Nat → sS) (L : List aS) : Prop := L.length ≤ 5 ∧ ∀ (j : Nat) (v : aS), L[j]? = some v → rS (h j) v
def Good0 (o : aO) (S : sS) (h : Nat → sS) (hz rl : Int32) : Prop := rS S o.1 ∧ hz = nI o.2.length ∧ rH h o.2 ∧ rl = nI 0
theorem rM_cpy {u : sM} {v st : Nat → Int32} {m : aM} (h : rM u m) : rM (va_cpy u.1 v 0 0 140, va_cpy u.2.1 st 0 0 6, u.2.2.1, u.2.2.2) m := ⟨h.1, h.2.1, h.2.2.1, relC_cpy h.2.2.2⟩
theorem j_copyS {t u : sS} {Q : sS → Prop} (h : ∀ S', (∀ v, rS u v → rS S' v) → Q S') : p_X7_copyFrom t u Q := by
  unfold p_X7_copyFrom
  simp only [e_copyFrom]
  refine h _ ?_
  rintro v ⟨hm, c, f0, f1⟩
  exact ⟨rM_cpy hm, c, fun m e => rM_cpy (f0 m e), fun m e => rM_cpy (f1 m e)⟩
def pushA (z : Nat) (h h' : Nat → sS) (S : sS) : Prop := (∀ j, j < ht z → h' j = h (j + os z)) ∧ ∀ v, rS S v → rS (h' (ht z)) v
theorem j_record12 {S : sS} {h : Nat → sS} {z : Nat} (hz : z < 5) {Q : (Nat → sS) → Int32 → Prop} (hq : ∀ S', (∀ v, rS S v → rS S' v) → Q (va_up h z S') (nI (z + 1))) : p_X2_record_12 S h (nI z) Q := by
  unfold p_X2_record_12
  simp (disch := omega) only [li_0, li_1, li_2, li_3, li_4, li_5, li_6, li_7, li_8, li_9, li_10, li_11, li_12, li_13, li_14, li_15, li_16, li_20, li_26, li_31, li_32, li_36, li_42, li_43, li_48, li_52, li_57, li_58, li_59, li_60, li_63, li_97, li_99, li_104, li_112, li_115, li_119, li_140, li_141, li_142, li_143, li_144, li_145, li_146, li_147, li_148, li_149, li_150, li_151, li_152, li_255, li_303, li_455, li_999, li_1000, li_1510, li_1820, li_2275, li_9999, li_10000, li_100000, li_1048575, li_100000000, vp_t, nI_clamp, nI_add]
  refine ⟨hz, ?_⟩
  have : z = 0 ∨ z = 1 ∨ z = 2 ∨ z = 3 ∨ z = 4 := by omega
  rcases this with rfl | rfl | rfl | rfl | rfl
  · exact ⟨fun _ => j_copyS (fun S' h' => hq S' h'), fun e => absurd e (by decide), fun e => absurd e (by decide), fun e => absurd e (by decide), fun e => absurd e (by decide)⟩
  · exact ⟨fun e => absurd e (by decide), fun _ => j_copyS (fun S' h' => hq S' h'), fun e => absurd e (by decide), fun e => absurd e (by decide), fun e => absurd e (by decide)⟩
  · exact ⟨fun e => absurd e (by decide), fun e => absurd e (by decide), fun _ => j_copyS (fun S' h' => hq S' h'), fun e => absurd e (by decide), fun e => absurd e (by decide)⟩
  · exact ⟨fun e => absurd e (by decide), fun e => absurd e (by decide), fun e => absurd e (by decide), fun _ => j_copyS (fun S' h' => hq S' h'), fun e => absurd e (by decide)⟩
  · exact ⟨fun e => absurd e (by decide), fun e => absurd e (by decide), fun e => absurd e (by decide), fun e => absurd e (by decide), fun _ => j_copyS (fun S' h' => hq S' h')⟩
theorem j_record0 {S : sS} {h : Nat → sS} {z : Nat} (hz : z ≤ 5) {Q : (Nat → sS) → Int32 → Prop} (hq : ∀ h', pushA z h h' S → Q h' (nI (ht z + 1))) : p_X2_record h (nI z) S Q := by
  unfold p_X2_record
  simp (disch := omega) only [li_0, li_1, li_2, li_3, li_4, li_5, li_6, li_7, li_8, li_9, li_10, li_11, li_12, li_13, li_14, li_15, li_16, li_20, li_26, li_31, li_32, li_36, li_42, li_43, li_48, li_52, li_57, li_58, li_59, li_60, li_63, li_97, li_99, li_104, li_112, li_115, li_119, li_140, li_141, li_142, li_143, li_144, li_145, li_146, li_147, li_148, li_149, li_150, li_151, li_152, li_255, li_303, li_455, li_999, li_1000, li_1510, li_1820, li_2275, li_9999, li_10000, li_100000, li_1048575, li_100000000, nI_eqI]
  refine ⟨fun e => ?_, fun e => ?_⟩
  · have e1 : ht z = z := if_neg e
    have e2 : os z = 0 := if_neg e
    refine j_record12 (by omega) ?_
    intro S' hS'
    rw [e1] at hq
    refine hq _ ⟨fun j hj => ?_, fun v hv => ?_⟩
    · rw [e1] at hj
      rw [e2, up_n (by omega)]
      rfl
    · rw [e1, up_s]
      exact hS' v hv
  · subst e
    unfold p_X2_dropOldest
    simp (disch := omega) only [li_0, li_1, li_2, li_3, li_4, li_5, li_6, li_7, li_8, li_9, li_10, li_11, li_12, li_13, li_14, li_15, li_16, li_20, li_26, li_31, li_32, li_36, li_42, li_43, li_48, li_52, li_57, li_58, li_59, li_60, li_63, li_97, li_99, li_104, li_112, li_115, li_119, li_140, li_141, li_142, li_143, li_144, li_145, li_146, li_147, li_148, li_149, li_150, li_151, li_152, li_255, li_303, li_455, li_999, li_1000, li_1510, li_1820, li_2275, li_9999, li_10000, li_100000, li_1048575, li_100000000, pk_sub, Nat.reduceSub]
    refine j_record12 (by decide) ?_
    intro S' hS'
    refine hq _ ⟨fun j hj => ?_, fun v hv => ?_⟩
    · have hj4 : j < 4 := hj
      rw [up_n (by omega)]
      show (if j < 4 then h (j + 1) else h 0) = h (j + 1)
      rw [if_pos hj4]
    · show rS (va_up (rot5 h) 4 S' 4) v
      rw [up_s]
      exact hS' v hv
theorem rH_push {h h' : Nat → sS} {L : List aS} {S : sS} {v : aS} (H : rH h L) (hS : rS S v) (a : pushA L.length h h' S) : rH h' (push L v) ∧ (push L v).length = ht L.length + 1 := by
  obtain ⟨h1, h2⟩ := H
  have hv := a.2 v hS
  unfold push
  by_cases e : L.length = 5
  · rw [if_pos e]
    have e1 : ht L.length = 4 := if_pos e
    have e2 : os L.length = 1 := if_pos e
    have hl : L.tail.length = 4 := by rw [List.length_tail, e]
    rw [e1] at hv
    refine ⟨⟨by rw [List.length_append, hl]; exact Nat.le_refl 5, fun j w hj => ?_⟩, by rw [List.length_append, hl, e1]; rfl⟩
    by_cases hj4 : j < 4
    · rw [List.getElem?_append_left (by omega), List.getElem?_tail] at hj
      rw [a.1 j (by omega), e2]
      exact h2 _ _ hj
    · rw [List.getElem?_append_right (by omega), hl] at hj
      have h4 : j - 4 < 1 := (List.getElem?_eq_some_iff.mp hj).1
      have hj5 : j = 4 := by omega
      subst hj5
      cases hj
      exact hv
  · rw [if_neg e]
    have e1 : ht L.length = L.length := if_neg e
    have e2 : os L.length = 0 := if_neg e
    rw [e1] at hv
    refine ⟨⟨by rw [List.length_append]; show L.length + 1 ≤ 5; omega, fun j w hj => ?_⟩, by rw [List.length_append, e1]; rfl⟩
    by_cases hj4 : j < L.length
    · rw [List.getElem?_append_left hj4] at hj
      rw [a.1 j (by omega), e2]
      exact h2 _ _ hj
    · rw [List.getElem?_append_right (by omega)] at hj
      have h4 : j - L.length < 1 := (List.getElem?_eq_some_iff.mp hj).1
      have hj5 : j = L.length := by omega
      subst hj5
      rw [Nat.sub_self] at hj
      cases hj
      exact hv
/-- what is recorded: the history grows by the state -/
theorem j_record {S : sS} {h : Nat → sS} {L : List aS} {v : aS} (H : rH h L) (hS : rS S v) {Q : (Nat → sS) → Int32 → Prop} (hq : ∀ h', rH h' (push L v) → Q h' (nI (push L v).length)) : p_X2_record h (nI L.length) S Q := by
  refine j_record0 H.1 (fun h' a => ?_)
  obtain ⟨h1, h2⟩ := rH_push H hS a
  rw [← h2]
  exact hq h' h1
/-! ===== what a menu comes to ===== -/
def prm (m : aM) : Nat → Bool := prt m.2.1 (m.2.2.1 2) (m.2.2.1 0) (m.2.2.1 5)
def xm (m : aM) : Nat → List sE := wx (prm m) m.1 m.2.1 m.2.2.1 m.2.2.2
def fsm (m : aM) : Nat := fsd (xm m)
def flm (m : aM) : Nat := fld (xm m) (m.2.2.1 4)
def clmm (m : aM) : Nat := clm (prm m) m.2.1 m.1
def kym (m : aM) : Nat := kyl (prm m) m.2.1 m.1
def pcnt (m : aM) : Nat := ps (prm m) (fun _ => 1) m.1
def tot1 (m : aM) (t : Nat) : Nat := tot (xm m) (fsm m) (flm m) t
/-- the fill of a side -/
def flt (m : aM) (t : Nat) : Nat := if t = fsm m then flm m else 0
/-- the way's card -/
def wm (m : aM) (w : Nat) : aM := (m.1, m.2.1, m.2.2.1, fun c => tb w c)
def bwy (m : aM) : Nat := bst (fun w => rtw (prm m) m.1 m.2.1 m.2.2.1 (fun c => tb w c)) 15
/-! ===== what calls answer ===== -/
def cnt (o : aO) (k : Nat) : Int32 := match k with
  | 0 => nI o.1.1.1
  | 1 => nI (pcnt o.1.1)
  | 2 => nI (tot1 o.1.1 0)
  | 3 => nI (tot1 o.1.1 1)
  | 4 => nI (ls eW (xm o.1.1 0))
  | 5 => nI (ls eW (xm o.1.1 1))
  | 6 => nI (clmm o.1.1)
  | 7 => nI (pc (kym o.1.1))
  | 8 => if pc (kym o.1.1) = 0 then -nI 99 else nI (kys (sx (prm o.1.1) o.1.1.1 o.1.1.2.1 (o.1.1.2.2.1 1) (clmm o.1.1) (o.1.1.2.2.1 3) o.1.1.2.2.2))
  | 9 => nI (apt (xm o.1.1))
  | 10 => nI (flm o.1.1)
  | 11 => nI (evn (xm o.1.1) (fsm o.1.1) (flm o.1.1))
  | 12 => nI (ps (prm o.1.1) (fun d => o.1.1.2.1 d 2) o.1.1.1)
  | 14 => nI o.2.length
  | _ => 0
def sp_count (o : aO) (a r : Int32) : Prop := (∀ k, k < 15 → ¬ k = 13 → a = nI k → r = cnt o k) ∧ (a = -nI 1 ∨ a = nI 16 → r = -nI 1)
def sp_card (o : aO) (a r : Int32) : Prop := (∀ k, k < 6 → a = nI k → r = nI (o.1.1.2.2.1 k)) ∧ (∀ c, c < 4 → a = nI (6 + c) → r = nI (o.1.1.2.2.2 c)) ∧ (a = nI 10 → r = -nI 1)
def sp_dish (o : aO) (a b r : Int32) : Prop := (∀ d k, d < o.1.1.1 → k < 7 → a = nI d → b = nI k → r = nI (o.1.1.2.1 d k)) ∧ (∀ d, d < o.1.1.1 → a = nI d → b = nI 7 → r = nI (if prm o.1.1 d = true then ln o.1.1.2.1 (o.1.1.2.2.1 1) (clmm o.1.1) d else 0)) ∧ (∀ d, d < o.1.1.1 → a = nI d → b = nI 8 → (prm o.1.1 d = true → ∃ i, i < (xm o.1.1 (o.1.1.2.2.2 (o.1.1.2.1 d 0))).length ∧ eK (nt (xm o.1.1 (o.1.1.2.2.2 (o.1.1.2.1 d 0))) i) = 2 ∧ eN (nt (xm o.1.1 (o.1.1.2.2.2 (o.1.1.2.1 d 0))) i) = d ∧ r = nI (bgn (xm o.1.1 (o.1.1.2.2.2 (o.1.1.2.1 d 0))) (flt o.1.1 (o.1.1.2.2.2 (o.1.1.2.1 d 0))) i)) ∧ (¬ prm o.1.1 d = true → r = -nI 99)) ∧ (a = nI o.1.1.1 → r = -nI 1)
def sp_line (o : aO) (a b c r : Int32) : Prop := (∀ t x q, t < 2 → x < 2 ^ 20 → q ≤ 5 → a = nI t → b = nI x → c = nI q → (tot1 o.1.1 t ≤ x → r = -nI 99) ∧ (x < tot1 o.1.1 t → (∀ i, i < (xm o.1.1 t).length → hit (xm o.1.1 t) (flt o.1.1 t) x i → ∃ kk, r = tlv o.1.1.2.1 (o.1.1.2.2.1 1) (clmm o.1.1) (kym o.1.1) kk (nt (xm o.1.1 t) i) (x - bgn (xm o.1.1 t) (flt o.1.1 t) i) q) ∧ ((∀ i, i < (xm o.1.1 t).length → ¬ hit (xm o.1.1 t) (flt o.1.1 t) x i) → r = if q = 1 then -nI 99 else nI 0))) ∧ (a = nI 0 → b = -nI 1 → c = nI 0 → r = -nI 1) ∧ (a = nI 0 → b = nI 0 → c = nI 6 → r = -nI 1)
def sp_account (o : aO) (a b r : Int32) : Prop := (∀ t p, t < 2 → p < 4 → a = nI t → b = nI p → r = nI (ls (pf p) (xm o.1.1 t))) ∧ (∀ t, t < 2 → a = nI t → b = nI 4 → r = nI (flt o.1.1 t)) ∧ (a = nI 0 → b = nI 5 → r = -nI 1)
def whm (m : aM) (d : Nat) : Nat := if ¬ m.2.1 d 6 = 1 then 1 else if ¬ tb (m.2.1 d 3) (m.2.2.1 0) = 1 then 2 else if ¬ m.2.1 d 4 &&& m.2.2.1 5 = 0 then 3 else if prm m d = true then 0 else 4
def sp_why (o : aO) (a r : Int32) : Prop := (∀ d, d < o.1.1.1 → a = nI d → r = nI (whm o.1.1 d)) ∧ (a = nI o.1.1.1 → r = -nI 1)
def sp_replacement (o : aO) (a r : Int32) : Prop := (∀ d, d < o.1.1.1 → a = nI d → (¬ prm o.1.1 d = true → r = -nI 2) ∧ (prm o.1.1 d = true → r = -nI 99 ∨ ∃ e, e < o.1.1.1 ∧ r = nI e ∧ elg o.1.1.2.1 (o.1.1.2.2.1 0) (o.1.1.2.2.1 5) e = true ∧ ¬ prm o.1.1 e = true)) ∧ (a = nI o.1.1.1 → r = -nI 1)
def sp_evenSeasons (o : aO) (r : Int32) : Prop := ∃ x, x < 16 ∧ r = nI x ∧ tb x (o.1.1.2.2.1 0) = evn (xm o.1.1) (fsm o.1.1) (flm o.1.1)
def sp_printedFor (o : aO) (a r : Int32) : Prop := (∀ u, u ≤ 255 → a = nI u → r = nI (ps (prt o.1.1.2.1 (o.1.1.2.2.1 2) (o.1.1.2.2.1 0) u) (fun _ => 1) o.1.1.1)) ∧ (a = -nI 1 → r = -nI 1)
def sp_bestSides (o : aO) (a r : Int32) : Prop := (a = nI 0 → r = nI (bwy o.1.1)) ∧ (a = nI 1 → r = nI (dif (xm (wm o.1.1 (bwy o.1.1))))) ∧ (a = nI 2 → r = nI (lgs (xm (wm o.1.1 (bwy o.1.1))) (fsm (wm o.1.1 (bwy o.1.1))) (flm (wm o.1.1 (bwy o.1.1))))) ∧ (a = nI 3 → r = nI (evn (xm (wm o.1.1 (bwy o.1.1))) (fsm (wm o.1.1 (bwy o.1.1))) (flm (wm o.1.1 (bwy o.1.1))))) ∧ (a = nI 4 → r = -nI 1)
/-- the candidates, and what is found among them -/
def cnd (m : aM) (t col : Nat) : List Nat := ca (qb m.2.1 m.2.2.1 col) m.2.1 m.2.2.2 t m.1 4
def fnd (m : aM) (t l col : Nat) : Int := mg (fo m.2.1 m.2.2.1 col (cnd m t col)).2.2 0 l
def fnN (m : aM) (t l col : Nat) : Nat := (fnd m t l col + 1048575).toNat
/-- whether the candidate of a place is in the best set -/
def chs (m : aM) (t l col i : Nat) : Nat := 1 - tb (fnN m t l col) i
def sp_bestSet (o : aO) (a b c q r : Int32) : Prop := (∀ t l col, t ≤ 1 → l ≤ 150 → 1 ≤ col → col ≤ 4 → a = nI t → b = nI l → c = nI col → (fnd o.1.1 t l col < 0 → q = nI 0 ∨ q = nI 1 ∨ q = nI 2 → r = -nI 99) ∧ (0 ≤ fnd o.1.1 t l col → (q = nI 0 ∨ q = nI 1 → r = nI (fnN o.1.1 t l col / 2 ^ 20)) ∧ (q = nI 2 → r = nI (so (cnd o.1.1 t col) (chs o.1.1 t l col) (cnd o.1.1 t col).length)))) ∧ (a = nI 0 → b = nI 0 → (c = nI 0 ∧ q = nI 0) ∨ (c = nI 1 ∧ q = nI 3) → r = -nI 1)
/-! ===== what acts do ===== -/
def mAdd (m : aM) (x : Nat → Nat) : aM := (m.1 + 1, upg m.2.1 m.1 x, m.2.2.1, m.2.2.2)
def mDrop (m : aM) (d : Nat) : aM := (m.1 - 1, fun d' k => if d ≤ d' ∧ d' < m.1 - 1 then m.2.1 (d' + 1) k else m.2.1 d' k, m.2.2.1, m.2.2.2)
def mDish (m : aM) (d k x : Nat) : aM := (m.1, fun d' k' => if d' = d ∧ k' = k then x else m.2.1 d' k', m.2.2.1, m.2.2.2)
def mCard (m : aM) (k x : Nat) : aM := (m.1, m.2.1, fun k' => if k' = k then x else m.2.2.1 k', m.2.2.2)
def mSide (m : aM) (k x : Nat) : aM := (m.1, m.2.1, m.2.2.1, fun c => if c = k then x else m.2.2.2 c)
def mSet (m : aM) (t l col : Nat) : aM := (m.1, gu m.2.1 (cnd m t col) (chs m t l col) (cnd m t col).length, m.2.2.1, m.2.2.2)
/-- the object behind an act that leaves the menu m -/
def oAct (o : aO) (m : aM) : aO := ((m, o.1.2.1, o.1.2.2), push o.2 o.1)
def sp_addDish (o : aO) (a1 a2 a3 a4 a5 a6 r : Int32) (o' : aO) : Prop := (∀ x0 x1 x2 x3 x4 x5, (okD (nI 0) a1 ∧ okD (nI 1) a2 ∧ okD (nI 2) a3 ∧ okD (nI 3) a4 ∧ okD (nI 4) a5 ∧ okD (nI 5) a6) → x0 < 10000 → x1 < 10000 → x2 < 10000 → x3 < 10000 → x4 < 10000 → x5 < 10000 → a1 = nI x0 → a2 = nI x1 → a3 = nI x2 → a4 = nI x3 → a5 = nI x4 → a6 = nI x5 → (o.1.1.1 = 20 → r = -nI 3 ∧ o' = o) ∧ (o.1.1.1 < 20 → r = nI o.1.1.1 ∧ o' = oAct o (mAdd o.1.1 (xs7 x0 x1 x2 x3 x4 x5 1)))) ∧ (¬ (okD (nI 0) a1 ∧ okD (nI 1) a2 ∧ okD (nI 2) a3 ∧ okD (nI 3) a4 ∧ okD (nI 4) a5 ∧ okD (nI 5) a6) → r = -nI 1 ∧ o' = o)
def sp_removeDish (o : aO) (a r : Int32) (o' : aO) : Prop := (∀ d, d < o.1.1.1 → a = nI d → r = nI (o.1.1.1 - 1) ∧ o' = oAct o (mDrop o.1.1 d)) ∧ (¬ (∃ d, d < o.1.1.1 ∧ a = nI d) → r = -nI 1 ∧ o' = o)
def sp_setDish (o : aO) (a b c r : Int32) (o' : aO) : Prop := (∀ d k x, d < o.1.1.1 → k < 7 → loD k ≤ x → x ≤ hiD k → a = nI d → b = nI k → c = nI x → r = nI (o.1.1.2.1 d k) ∧ o' = oAct o (mDish o.1.1 d k x)) ∧ (¬ ((∃ d, d < o.1.1.1 ∧ a = nI d) ∧ okD b c) → r = -nI 1 ∧ o' = o)
def sp_setCard (o : aO) (a b r : Int32) (o' : aO) : Prop := (∀ k x, k < 6 → loC k ≤ x → x ≤ hiC k → a = nI k → b = nI x → r = nI (o.1.1.2.2.1 k) ∧ o' = oAct o (mCard o.1.1 k x)) ∧ (¬ okC a b → r = -nI 1 ∧ o' = o)
def sp_setSide (o : aO) (a b r : Int32) (o' : aO) : Prop := (∀ k x, k < 4 → x ≤ 1 → a = nI k → b = nI x → r = nI (o.1.1.2.2.2 k) ∧ o' = oAct o (mSide o.1.1 k x)) ∧ (¬ ((∃ x, 0 ≤ x ∧ x ≤ 3 ∧ a = nI x) ∧ (∃ x, 0 ≤ x ∧ x ≤ 1 ∧ b = nI x)) → r = -nI 1 ∧ o' = o)
def sp_arrange (o : aO) (r : Int32) (o' : aO) : Prop := r = nI (dif (xm (wm o.1.1 (bwy o.1.1)))) ∧ o' = oAct o (wm o.1.1 (bwy o.1.1))
def sp_choose (o : aO) (a b c r : Int32) (o' : aO) : Prop := (∀ t l col, t ≤ 1 → l ≤ 150 → 1 ≤ col → col ≤ 4 → a = nI t → b = nI l → c = nI col → (fnd o.1.1 t l col < 0 → r = -nI 2 ∧ o' = o) ∧ (0 ≤ fnd o.1.1 t l col → r = nI (fnN o.1.1 t l col / 2 ^ 20) ∧ o' = oAct o (mSet o.1.1 t l col))) ∧ (¬ ((∃ x, 0 ≤ x ∧ x ≤ 1 ∧ a = nI x) ∧ (∃ x, 0 ≤ x ∧ x ≤ 150 ∧ b = nI x) ∧ (∃ x, 1 ≤ x ∧ x ≤ 4 ∧ c = nI x)) → r = -nI 1 ∧ o' = o)
/-- a slot's snapshot -/
def slt (v : aS) (k : Nat) : Option aM := if k = 0 then v.2.1 else v.2.2
def sp_take (o : aO) (a r : Int32) (o' : aO) : Prop := (∀ k, k ≤ 1 → a = nI k → r = nI (pcnt o.1.1) ∧ o' = ((o.1.1, if k = 0 then some o.1.1 else o.1.2.1, if k = 1 then some o.1.1 else o.1.2.2), push o.2 o.1)) ∧ (¬ (∃ x, 0 ≤ x ∧ x ≤ 1 ∧ a = nI x) → r = -nI 1 ∧ o' = o)
def sp_restore (o : aO) (a r : Int32) (o' : aO) : Prop := (∀ k, k ≤ 1 → a = nI k → (slt o.1 k = none → r = -nI 2 ∧ o' = o) ∧ (∀ m, slt o.1 k = some m → r = nI (pcnt m) ∧ o' = oAct o m)) ∧ (¬ (∃ x, 0 ≤ x ∧ x ≤ 1 ∧ a = nI x) → r = -nI 1 ∧ o' = o)
def sp_undo (o : aO) (r : Int32) (o' : aO) : Prop := (o.2 = [] → r = -nI 2 ∧ o' = o) ∧ (∀ L v, o.2 = L ++ [v] → r = nI L.length ∧ o' = (v, L))
def sp_append (o : aO) (a r : Int32) (o' : aO) : Prop := r = -nI 1 ∧ o' = o
def sp_load (o : aO) (r : Int32) (o' : aO) : Prop := r = nI 0 ∧ o' = oAct o o.1.1

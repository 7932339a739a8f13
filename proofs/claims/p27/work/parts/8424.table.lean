/-! ===== long numbers ===== -/
theorem wd1 {A : Type} (st : (A → Int32 → Prop) → A → Int32 → Prop) (N : Nat) (hN : N < 2 ^ 31) (P : Nat → A → Prop) (a : A) (h0 : P N a) (hs : ∀ (K : A → Int32 → Prop) (j : Nat) (a : A), j ≤ N → P j a → (0 < j → ∀ b, P (j - 1) b → K b (nI (j - 1) - nI 1)) → st K a (nI j - nI 1)) : wloop2 st a (nI N - nI 1) := by
  refine ⟨fun a x => ∃ j, j ≤ N ∧ x = nI j - nI 1 ∧ P j a, fun a x => (x + nI 1).toNatClampNeg, ⟨N, Nat.le_refl _, rfl, h0⟩, ?_⟩
  rintro a x ⟨j, h1, rfl, hp⟩
  refine hs _ j a h1 hp ?_
  intro hj b hb
  refine ⟨⟨j - 1, by omega, rfl, hb⟩, ?_⟩
  show (nI (j - 1) - nI 1 + nI 1).toNatClampNeg < (nI j - nI 1 + nI 1).toNatClampNeg
  rw [Int32.sub_add_cancel, Int32.sub_add_cancel, nI_clamp (by omega), nI_clamp (by omega)]
  omega
theorem m1_eq (i : Nat) : nI i + (-nI 1) = nI i - nI 1 := (Int32.sub_eq_add_neg _ _).symm
theorem s1_eq (i : Nat) : nI (i + 1) - nI 1 = nI i := by
  rw [pk_sub (by omega)]
  rfl
theorem lN_tI {n : Nat} (h : n < 2 ^ 63) : (lN n).toInt = (n : Int) := lg_ofNat_toInt h
theorem lN_of {x : Int64} {f : Nat} (hf : f < 2 ^ 63) (h : x.toInt = (f : Int)) : x = lN f := Int64.toInt_inj.mp (by rw [h, lN_tI hf])
theorem e_s63 : ∀ k, k < 64 → ((lN k &&& (63 : Int64)).toBitVec.smod 64).toNat = k := by decide +kernel
theorem e_shrL {f k : Nat} (hf : f < 2 ^ 62) (hk : k < 64) : lN f >>> ((nI k).toInt64 &&& 63) = lN (f / 2 ^ k) := by
  have h2 : f / 2 ^ k ≤ f := Nat.div_le_self _ _
  rw [nI_l (by omega)]
  apply Int64.toInt_inj.mp
  show ((lN f).toBitVec.sshiftRight ((lN k &&& (63 : Int64)).toBitVec.smod 64).toNat).toInt = _
  rw [e_s63 k hk, BitVec.toInt_sshiftRight]
  show (lN f).toInt >>> k = _
  rw [lN_tI (by omega), lN_tI (by omega), Int.shiftRight_eq_div_pow]
  rfl
theorem lN_bn {n : Nat} (h : n < 2 ^ 64) : (lN n).toBitVec.toNat = n := by
  show (BitVec.ofNat 64 n).toNat = n
  rw [BitVec.toNat_ofNat]
  exact Nat.mod_eq_of_lt h
theorem e_shlL {f k : Nat} (hk : k < 64) (h : f * 2 ^ k < 2 ^ 63) : lN f <<< ((nI k).toInt64 &&& 63) = lN (f * 2 ^ k) := by
  have hn : f ≤ f * 2 ^ k := Nat.le_mul_of_pos_right f (Nat.two_pow_pos k)
  rw [nI_l (by omega)]
  apply Int64.toBitVec_inj.mp
  apply BitVec.eq_of_toNat_eq
  show ((lN f).toBitVec <<< ((lN k &&& (63 : Int64)).toBitVec.smod 64).toNat).toNat = _
  rw [e_s63 k hk, BitVec.toNat_shiftLeft, Nat.shiftLeft_eq, lN_bn (by omega), lN_bn (by omega)]
  exact Nat.mod_eq_of_lt (by omega)
theorem e_andL (a b : Nat) : lN a &&& lN b = lN (a &&& b) := by
  apply Int64.toBitVec_inj.1
  show BitVec.ofNat 64 a &&& BitVec.ofNat 64 b = BitVec.ofNat 64 (a &&& b)
  apply BitVec.eq_of_getLsbD_eq
  intro i hi
  simp [BitVec.getLsbD_ofNat, hi]
theorem e_and1L (a : Nat) : lN a &&& 1 = lN (a % 2) := by
  rw [show (1 : Int64) = lN 1 from rfl, e_andL, Nat.and_one_is_mod]
theorem lgc_lt {x y : Int64} : lg_cmp x y < nI 0 ↔ x < y := lg_cmp_lt x y
theorem lgc_le {x y : Int64} : lg_cmp x y ≤ nI 0 ↔ x ≤ y := lg_cmp_le x y
theorem i64s {x y : Int64} {a b : Int} (hx : x.toInt = a) (hy : y.toInt = b) (h1 : -2 ^ 63 ≤ a + b) (h2 : a + b < 2 ^ 63) : (x + y).toInt = a + b := by
  rw [Jvm.Kit.i64_add (by rw [hx, hy]; exact h1) (by rw [hx, hy]; exact h2), hx, hy]
theorem i64d {x y : Int64} {a b : Int} (hx : x.toInt = a) (hy : y.toInt = b) (h1 : -2 ^ 63 ≤ a - b) (h2 : a - b < 2 ^ 63) : (x - y).toInt = a - b := by
  rw [Jvm.Kit.i64_sub (by rw [hx, hy]; exact h1) (by rw [hx, hy]; exact h2), hx, hy]
theorem tm1 : (-1 : Int64).toInt = -1 := by decide
theorem t0 : (0 : Int64).toInt = 0 := by decide
/-! ===== the table of sets ===== -/
abbrev tT : Type := Nat → Nat → Int
def tI : tT := fun n l => if n = 0 ∧ l = 0 then 0 else -1
def tk (lim : Nat) (mo : Nat → Nat) (wo : Int) (T : tT) : tT := fun n l => if n = 0 then T 0 l else if n - 1 < lim ∧ mo (n - 1) ≤ l ∧ 0 ≤ T (n - 1) (l - mo (n - 1)) ∧ T n l < T (n - 1) (l - mo (n - 1)) + wo then T (n - 1) (l - mo (n - 1)) + wo else T n l
def mr (T : tT) (l : Nat) : Nat → Int
  | 0 => T 0 l
  | k + 1 => if mr T l k < T (k + 1) l then T (k + 1) l else mr T l k
def mg (T : tT) : tT := fun n l => if n = 0 then mr T l 9 else -1
def okT (T : tT) (b : Int) (r : Nat) : Prop := (∀ n l, -1 ≤ T n l ∧ T n l ≤ b) ∧ ∀ n l, r < n → T n l = -1
theorem mr_b {T : tT} {b : Int} (h : ∀ n l, -1 ≤ T n l ∧ T n l ≤ b) (l : Nat) : ∀ k, -1 ≤ mr T l k ∧ mr T l k ≤ b
  | 0 => h 0 l
  | k + 1 => by
    have h1 := mr_b h l k
    have h2 := h (k + 1) l
    show -1 ≤ (if mr T l k < T (k + 1) l then T (k + 1) l else mr T l k) ∧ (if mr T l k < T (k + 1) l then T (k + 1) l else mr T l k) ≤ b
    split <;> omega
theorem mr_stop {T : tT} {b : Int} {r : Nat} (h : okT T b r) (l : Nat) : ∀ j, mr T l (r + j) = mr T l r
  | 0 => rfl
  | j + 1 => by
    have ih := mr_stop h l j
    have h1 := h.2 (r + j + 1) l (by omega)
    have h2 := (mr_b h.1 l r).1
    show (if mr T l (r + j) < T (r + j + 1) l then T (r + j + 1) l else mr T l (r + j)) = _
    rw [ih, if_neg (by omega)]
theorem okT_I : okT tI 0 0 := by
  refine ⟨fun n l => ?_, fun n l h => ?_⟩
  · unfold tI
    split <;> omega
  · exact if_neg (by omega)
theorem okT_mg {T : tT} {b : Int} {r : Nat} (h : okT T b r) (hb : -1 ≤ b) : okT (mg T) b 0 := by
  refine ⟨fun n l => ?_, fun n l h => ?_⟩
  · have := mr_b h.1 l 9
    unfold mg
    split <;> omega
  · exact if_neg (by omega)
theorem mg_id {T : tT} {b : Int} (h : okT T b 0) : mg T = T := by
  funext n l
  by_cases e : n = 0
  · subst e
    have := mr_stop h l 9
    rw [Nat.zero_add] at this
    exact this
  · have h1 : mg T n l = -1 := if_neg e
    rw [h1, h.2 n l (by omega)]
theorem mg_I : mg tI = tI := mg_id okT_I
theorem okT_tk {T : tT} {b wo : Int} {r lim : Nat} {mo : Nat → Nat} (h : okT T b r) (hr : r ≤ lim) (hw : 0 ≤ wo) (hb : 0 ≤ b) : okT (tk lim mo wo T) (b + wo) (if r + 1 < lim then r + 1 else lim) := by
  refine ⟨fun n l => ?_, fun n l hn => ?_⟩
  · have h1 := h.1 n l
    have h0 := h.1 0 l
    have h2 := h.1 (n - 1) (l - mo (n - 1))
    unfold tk
    split
    · omega
    · split <;> omega
  · have hn2 : r < n := by
      split at hn <;> omega
    have e0 : ¬ n = 0 := by omega
    have h1 := h.2 n l hn2
    unfold tk
    rw [if_neg e0, if_neg]
    · exact h1
    · rintro ⟨a1, a2, a3, a4⟩
      by_cases e : r < n - 1
      · have := h.2 (n - 1) (l - mo (n - 1)) e
        omega
      · split at hn <;> omega
theorem okT.up {T : tT} {b b' : Int} {r r' : Nat} (h : okT T b r) (hb : b ≤ b') (hr : r ≤ r') : okT T b' r' := ⟨fun n l => ⟨(h.1 n l).1, Int.le_trans (h.1 n l).2 hb⟩, fun n l hn => h.2 n l (by omega)⟩
/-- rows above j are new -/
def tkj (j lim : Nat) (mo : Nat → Nat) (wo : Int) (T : tT) : tT := fun n l => if j < n then tk lim mo wo T n l else T n l
theorem tkj_0 (lim : Nat) (mo : Nat → Nat) (wo : Int) (T : tT) : tkj 0 lim mo wo T = tk lim mo wo T := by
  funext n l
  unfold tkj
  by_cases e : 0 < n
  · rw [if_pos e]
  · rw [if_neg e]
    have : n = 0 := by omega
    subst this
    rfl
theorem tkj_top {lim r : Nat} {mo : Nat → Nat} {wo : Int} {T : tT} {b : Int} (h : okT T b r) {j : Nat} (hj : j = if r + 1 < lim then r + 1 else lim) : tkj j lim mo wo T = T := by
  funext n l
  unfold tkj
  by_cases e : j < n
  · rw [if_pos e]
    have hnr : n = 0 ∨ 0 < n := by omega
    have e0 : ¬ n = 0 := by omega
    unfold tk
    rw [if_neg e0, if_neg]
    rintro ⟨a1, a2, a3, a4⟩
    by_cases e2 : r < n - 1
    · have := h.2 (n - 1) (l - mo (n - 1)) e2
      omega
    · split at hj <;> omega
  · rw [if_neg e]
theorem tkj_topl {lim : Nat} (mo : Nat → Nat) (wo : Int) (T : tT) : tkj lim lim mo wo T = T := by
  funext n l
  unfold tkj
  by_cases e : lim < n
  · rw [if_pos e]
    have e0 : ¬ n = 0 := by omega
    unfold tk
    rw [if_neg e0, if_neg]
    rintro ⟨a1, _⟩
    omega
  · rw [if_neg e]
def phi (v : Int) : Int := if v < 0 then -1 else v + 1048575
theorem phi_n {v : Int} (h1 : -1 ≤ v) : phi v < 0 ↔ v < 0 := by
  unfold phi
  split <;> omega
def rC (lb : Nat) (T : tT) (best : Nat → Nat → Int64) : Prop := ∀ n l, n ≤ 9 → l ≤ lb → (best n l).toInt = phi (T n l)
def rR (T : tT) (best : Nat → Int64) : Prop := ∀ n l, n ≤ 9 → l ≤ 150 → (best (151 * n + l)).toInt = T n l
def BIG : Int := 100000000000000
/-- the worth of a candidate -/
theorem e_more {p i : Nat} (hp : p ≤ 9999) (hi : i < 20) : ((((nI p).toInt64 <<< ((20 : Int32).toInt64 &&& 63)) - ((1 : Int64) <<< ((nI i).toInt64 &&& 63)))).toInt = (p : Int) * 1048576 - (2 ^ i : Nat) := by
  have h2 : 2 ^ i < 2 ^ 20 := Nat.pow_lt_pow_right (by decide) hi
  have e1 : (nI p).toInt64 <<< ((20 : Int32).toInt64 &&& 63) = lN (p * 2 ^ 20) := by
    rw [nI_l (by omega)]
    exact e_shlL (k := 20) (by decide) (by omega)
  have e2 : (1 : Int64) <<< ((nI i).toInt64 &&& 63) = lN (2 ^ i) := by
    have := e_shlL (f := 1) (k := i) (by omega) (by omega)
    rw [Nat.one_mul] at this
    exact this
  rw [e1, e2]
  generalize 2 ^ i = y at h2 ⊢
  rw [i64d (lN_tI (by omega)) (lN_tI (by omega)) (by omega) (by omega)]
  omega
/-! ===== the class: one candidate, rows, a course ===== -/
theorem e_maxL {x y : Int64} {a b : Int} (hx : x.toInt = a) (hy : y.toInt = b) : (if x < y then y else x).toInt = if a < b then b else a := by
  by_cases h : a < b
  · rw [if_pos (Int64.lt_iff_toInt_lt.2 (by rw [hx, hy]; exact h)), if_pos h, hy]
  · rw [if_neg (fun e => h (by have := Int64.lt_iff_toInt_lt.1 e; rw [hx, hy] at this; exact this)), if_neg h, hx]
theorem i_tryCandidate {lb lim i m p c : Nat} {mo : Nat → Nat} {wo : Int} {T : tT} (hT : ∀ n l, -1 ≤ T n l ∧ T n l ≤ BIG) (hwo0 : 0 ≤ wo) (hwob : wo ≤ BIG) (hi : i < lim) (hlim : lim ≤ 9) (hlb : lb ≤ 150) (hm : mo i = m) (hm2 : m ≤ 1000) {best : Nat → Nat → Int64} (B : rC lb (tkj (i + 1) lim mo wo T) best) (hp : p ≤ 9999) (hc : c < 20) (hwo : wo = (p : Int) * 1048576 - (2 ^ c : Nat)) {Q : (Nat → Nat → Int64) → Prop} (h : ∀ best', rC lb (tkj i lim mo wo T) best' → Q best') : p_X6_tryCandidate best (nI c) (nI lb) (nI i) (nI m) (nI p) Q := by
  subst hm
  have hmore := e_more hp hc
  rw [← hwo] at hmore
  unfold p_X6_tryCandidate
  generalize ((((nI p).toInt64 <<< ((20 : Int32).toInt64 &&& 63)) - ((1 : Int64) <<< ((nI c).toInt64 &&& 63)))) = more at hmore
  unfold p_X6_tryCandidate_17
  have hrow : ∀ n l, tkj i lim mo wo T n l = if n = i + 1 then tk lim mo wo T (i + 1) l else tkj (i + 1) lim mo wo T n l := by
    intro n l
    unfold tkj
    by_cases e : n = i + 1
    · subst e
      rw [if_pos (by omega), if_pos rfl]
    · rw [if_neg (c := n = i + 1) e]
      by_cases e2 : i < n
      · rw [if_pos e2, if_pos (by omega)]
      · rw [if_neg e2, if_neg (by omega)]
  have hold : ∀ l, tkj (i + 1) lim mo wo T (i + 1) l = T (i + 1) l := fun l => if_neg (by omega)
  have holdi : ∀ l, tkj (i + 1) lim mo wo T i l = T i l := fun l => if_neg (by omega)
  have htk : ∀ l, tk lim mo wo T (i + 1) l = if mo i ≤ l ∧ 0 ≤ T i (l - mo i) ∧ T (i + 1) l < T i (l - mo i) + wo then T i (l - mo i) + wo else T (i + 1) l := by
    intro l
    unfold tk
    rw [if_neg (by omega), show i + 1 - 1 = i by omega]
    by_cases e : mo i ≤ l ∧ 0 ≤ T i (l - mo i) ∧ T (i + 1) l < T i (l - mo i) + wo
    · rw [if_pos e, if_pos ⟨hi, e⟩]
    · rw [if_neg e, if_neg (fun q => e q.2)]
  refine wl1 (q_X6_tryCandidate_17 (nI lb) (nI i) (nI (mo i)) more Q) (if mo i ≤ lb + 1 then lb + 1 else mo i) (by split <;> omega) (fun k b => ∀ n l, n ≤ 9 → l ≤ lb → (b n l).toInt = phi (if n = i + 1 ∧ l < k then tk lim mo wo T (i + 1) l else tkj (i + 1) lim mo wo T n l)) (mo i) (by split <;> omega) _ ?_ ?_
  · intro n l hn hl
    by_cases e : n = i + 1 ∧ l < mo i
    · rw [if_pos e, htk, if_neg (by omega)]
      obtain ⟨e1, e2⟩ := e
      subst e1
      rw [← hold]
      exact B _ _ hn hl
    · rw [if_neg e]
      exact B n l hn hl
  rintro K k b hk1 hk2 hb hK
  have hk3 : k ≤ 1150 := by
    split at hk2 <;> omega
  unfold q_X6_tryCandidate_17 p_X6_tryCandidate_76
  simp (disch := omega) only [li_0, li_1, li_2, li_3, li_4, li_5, li_6, li_7, li_8, li_9, li_10, li_11, li_12, li_13, li_14, li_15, li_16, li_20, li_26, li_31, li_32, li_36, li_42, li_43, li_48, li_52, li_57, li_58, li_59, li_60, li_63, li_97, li_99, li_104, li_112, li_115, li_119, li_140, li_141, li_142, li_143, li_144, li_145, li_146, li_147, li_148, li_149, li_150, li_151, li_152, li_255, li_303, li_455, li_999, li_1000, li_1510, li_1820, li_2275, li_9999, li_10000, li_100000, li_1048575, li_100000000, nI_ltI, nI_add, pk_sub, vp_t, nI_clamp, lgc_lt]
  refine ⟨fun hge => ?_, fun hlt => ⟨by omega, by omega, ?_⟩⟩
  · refine h _ ?_
    intro n l hn hl
    rw [hb n l hn hl, hrow]
    by_cases e : n = i + 1
    · rw [if_pos ⟨e, by omega⟩, if_pos e]
    · rw [if_neg (fun q => e q.1), if_neg e]
  · have hkl : k ≤ lb := by omega
    have hfrom : (b i (k - mo i)).toInt = phi (T i (k - mo i)) := by
      rw [hb i (k - mo i) (by omega) (by omega), if_neg (by omega), holdi]
    have hto : (b (i + 1) k).toInt = phi (T (i + 1) k) := by
      rw [hb (i + 1) k (by omega) hkl, if_neg (by omega), hold]
    have hTi := hT i (k - mo i)
    have hTs := hT (i + 1) k
    have hkN : k < (if mo i ≤ lb + 1 then lb + 1 else mo i) := by
      split <;> omega
    have hneg : b i (k - mo i) < 0 ↔ T i (k - mo i) < 0 := by
      rw [Int64.lt_iff_toInt_lt, hfrom, t0]
      exact phi_n hTi.1
    have stepi : ∀ (v : Int64), v.toInt = phi (tk lim mo wo T (i + 1) k) → ∀ n l, n ≤ 9 → l ≤ lb → (va_up b (i + 1) (vp_updL (b (i + 1)) k v) n l).toInt = phi (if n = i + 1 ∧ l < k + 1 then tk lim mo wo T (i + 1) l else tkj (i + 1) lim mo wo T n l) := by
      intro v hv n l hn hl
      by_cases e : n = i + 1
      · subst e
        rw [up_s]
        by_cases e2 : l = k
        · subst e2
          rw [pk_uLs, if_pos ⟨rfl, by omega⟩]
          exact hv
        · rw [pk_uLn e2, hb _ _ hn hl]
          by_cases e3 : l < k
          · rw [if_pos ⟨rfl, e3⟩, if_pos ⟨rfl, by omega⟩]
          · rw [if_neg (by omega), if_neg (by omega)]
      · rw [up_n e, hb n l hn hl, if_neg (fun q => e q.1), if_neg (fun q => e q.1)]
    rw [hneg]
    refine ⟨fun e => ?_, fun e => ⟨by omega, by omega, by omega, by omega, ?_⟩⟩
    · refine hK hkN _ ?_
      intro n l hn hl
      rw [hb n l hn hl]
      by_cases e2 : n = i + 1 ∧ l < k
      · rw [if_pos e2, if_pos ⟨e2.1, by omega⟩]
      · rw [if_neg e2]
        by_cases e3 : n = i + 1 ∧ l < k + 1
        · have e4 : l = k := by omega
          rw [if_pos e3, e3.1, e4, htk, if_neg (by omega), hold]
        · rw [if_neg e3]
    · refine hK hkN _ (stepi _ ?_)
      have hsum : (b i (k - mo i) + more).toInt = T i (k - mo i) + 1048575 + wo := by
        refine i64s ?_ hmore ?_ ?_
        · rw [hfrom]
          exact if_neg e
        · unfold BIG at *
          omega
        · unfold BIG at *
          omega
      rw [e_maxL hsum hto, htk]
      unfold phi
      repeat' split
      all_goals omega
theorem i_tryRows {lb lim : Nat} (hlb : lb ≤ 150) {g : Nat → Nat → Nat} {n : Nat} {s : Nat → Nat} (hg : okG n g) (ho : okS s) (hlim : lim ≤ 9) {v st : Nat → Int32} (hv : ∀ d k, d < 20 → k < 7 → v (d * 7 + k) = nI (g d k)) (hs : ∀ k, k < 6 → st k = nI (s k)) {d col : Nat} (hd : d < 20) (hcol : col ≤ 4) {wo : Int} {T : tT} (hT : ∀ n l, -1 ≤ T n l ∧ T n l ≤ BIG) (hwo0 : 0 ≤ wo) (hwob : wo ≤ BIG) {c : Nat} (hc : c < 20) (hwo : wo = (g d 2 : Int) * 1048576 - (2 ^ c : Nat)) {J : Nat} (hJ : J ≤ lim) {best : Nat → Nat → Int64} (B : rC lb (tkj J lim (fun m => ln g (s 1) col d + if m = 0 then 2 else s 3) wo T) best) {cand : Nat → Int32} {t : Int32} {K18 : (Nat → Nat → Int64) → (Nat → Int32) → Int32 → Int32 → Int32 → Prop} (h : ∀ best', rC lb (tk lim (fun m => ln g (s 1) col d + if m = 0 then 2 else s 3) wo T) best' → K18 best' (upd cand c (nI d)) (nI (c + 1)) t (nI (d + 1))) : p_X6_tryCourse_62 (nI lb) v st (nI col) cand (nI c) t (nI d) K18 best (nI J - nI 1) := by
  obtain ⟨s0, s1, s2, s3, s4, s5, s6, s7⟩ := ho.b
  obtain ⟨b0, b1, b2, b3, b4, b5, b6⟩ := hg.b hd
  have hl := (ln_le hg (wid := s 1) (col := col) hd s1 hcol).1
  unfold p_X6_tryCourse_62
  refine wd1 (q_X6_tryCourse_62 (nI lb) v st (nI col) cand (nI c) t (nI d) K18) J (by omega) (fun j b => rC lb (tkj j lim (fun m => ln g (s 1) col d + if m = 0 then 2 else s 3) wo T) b) _ B ?_
  rintro K j b hj hb hK
  unfold q_X6_tryCourse_62
  by_cases h0 : j = 0
  · subst h0
    have hneg : nI 0 - nI 1 < (0 : Int32) := by decide
    refine ⟨fun _ => ?_, fun e => absurd hneg e⟩
    rw [tkj_0] at hb
    unfold p_X6_addCandidate p_X6_tryCourse_118
    have hc20 : ¬ 20 ≤ c := by omega
    simp (disch := omega) only [li_0, li_1, li_2, li_3, li_4, li_5, li_6, li_7, li_8, li_9, li_10, li_11, li_12, li_13, li_14, li_15, li_16, li_20, li_26, li_31, li_32, li_36, li_42, li_43, li_48, li_52, li_57, li_58, li_59, li_60, li_63, li_97, li_99, li_104, li_112, li_115, li_119, li_140, li_141, li_142, li_143, li_144, li_145, li_146, li_147, li_148, li_149, li_150, li_151, li_152, li_255, li_303, li_455, li_999, li_1000, li_1510, li_1820, li_2275, li_9999, li_10000, li_100000, li_1048575, li_100000000, nI_leI, hc20, vp_t, nI_clamp, nI_add, hc, true_and, and_true, not_true_eq_false, not_false_eq_true, true_imp_iff, false_imp_iff, false_and, and_false, imp_false, Classical.not_not, Bool.false_eq_true, Nat.zero_ne_one, Nat.one_ne_zero, Nat.not_lt_zero, if_true, if_false, implies_true]
    exact h b hb
  · obtain ⟨i, rfl⟩ : ∃ i, j = i + 1 := ⟨j - 1, by omega⟩
    rw [s1_eq]
    have hpos : ¬ nI i < (0 : Int32) := nI_pos (by omega)
    refine ⟨fun e => absurd e hpos, fun _ => ?_⟩
    unfold p_X6_tryCourse_81
    simp (disch := omega) only [li_0, li_1, li_2, li_3, li_4, li_5, li_6, li_7, li_8, li_9, li_10, li_11, li_12, li_13, li_14, li_15, li_16, li_20, li_26, li_31, li_32, li_36, li_42, li_43, li_48, li_52, li_57, li_58, li_59, li_60, li_63, li_97, li_99, li_104, li_112, li_115, li_119, li_140, li_141, li_142, li_143, li_144, li_145, li_146, li_147, li_148, li_149, li_150, li_151, li_152, li_255, li_303, li_455, li_999, li_1000, li_1510, li_1820, li_2275, li_9999, li_10000, li_100000, li_1048575, li_100000000, nI_eqI, e_setting hs, e_linesOf hv hs hg ho, e_valueOf hv, nI_add, m1_eq]
    have hi0 : 0 < i + 1 := by omega
    refine ⟨fun e => ?_, fun e => ?_⟩
    · refine i_tryCandidate (mo := fun m => ln g (s 1) col d + if m = 0 then 2 else s 3) hT hwo0 hwob (by omega) hlim hlb ?_ (by omega) hb b2 hc hwo ?_
      · show ln g (s 1) col d + (if i = 0 then 2 else s 3) = _
        rw [if_neg e]
        omega
      · intro b' hb'
        exact hK hi0 b' hb'
    · subst e
      refine i_tryCandidate (mo := fun m => ln g (s 1) col d + if m = 0 then 2 else s 3) hT hwo0 hwob (by omega) hlim hlb ?_ (by omega) hb b2 hc hwo ?_
      · show ln g (s 1) col d + 2 = _
        omega
      · intro b' hb'
        exact hK hi0 b' hb'
theorem i_endCourse {lb most : Nat} (hlb : lb ≤ 150) (hmo : most ≤ 9) {T : tT} {b0 : Int} (hT : okT T b0 most) {best : Nat → Nat → Int64} (B : rC lb T best) {Q : (Nat → Nat → Int64) → Prop} (h : ∀ best', rC lb (mg T) best' → Q best') : p_X6_endCourse best (nI lb) (nI most) Q := by
  unfold p_X6_endCourse p_X6_endCourse_2
  simp only [li_0, li_1, li_2, li_3, li_4, li_5, li_6, li_7, li_8, li_9, li_10, li_11, li_12, li_13, li_14, li_15, li_16, li_20, li_26, li_31, li_32, li_36, li_42, li_43, li_48, li_52, li_57, li_58, li_59, li_60, li_63, li_97, li_99, li_104, li_112, li_115, li_119, li_140, li_141, li_142, li_143, li_144, li_145, li_146, li_147, li_148, li_149, li_150, li_151, li_152, li_255, li_303, li_455, li_999, li_1000, li_1510, li_1820, li_2275, li_9999, li_10000, li_100000, li_1048575, li_100000000]
  refine wl1 (q_X6_endCourse_2 (nI lb) (nI most) Q) (most + 1) (by omega) (fun k b => rC lb (fun n l => if n = 0 then mr T l (k - 1) else if n < k then -1 else T n l) b) 1 (by omega) _ ?_ ?_
  · intro n l hn hl
    show _ = phi (if n = 0 then mr T l (1 - 1) else if n < 1 then -1 else T n l)
    by_cases e : n = 0
    · subst e
      exact B 0 l hn hl
    · rw [if_neg e, if_neg (by omega)]
      exact B n l hn hl
  rintro K k b hk1 hk hb hK
  unfold q_X6_endCourse_2
  simp (disch := omega) only [li_0, li_1, li_2, li_3, li_4, li_5, li_6, li_7, li_8, li_9, li_10, li_11, li_12, li_13, li_14, li_15, li_16, li_20, li_26, li_31, li_32, li_36, li_42, li_43, li_48, li_52, li_57, li_58, li_59, li_60, li_63, li_97, li_99, li_104, li_112, li_115, li_119, li_140, li_141, li_142, li_143, li_144, li_145, li_146, li_147, li_148, li_149, li_150, li_151, li_152, li_255, li_303, li_455, li_999, li_1000, li_1510, li_1820, li_2275, li_9999, li_10000, li_100000, li_1048575, li_100000000, nI_ltI]
  refine ⟨fun hge => ?_, fun hlt => ?_⟩
  · have : k = most + 1 := by omega
    subst this
    refine h _ ?_
    intro n l hn hl
    rw [hb n l hn hl]
    show phi (if n = 0 then mr T l most else if n < most + 1 then -1 else T n l) = phi (if n = 0 then mr T l 9 else -1)
    by_cases e : n = 0
    · have hs := mr_stop hT l (9 - most)
      rw [show most + (9 - most) = 9 by omega] at hs
      rw [if_pos e, if_pos e, hs]
    · rw [if_neg e, if_neg e]
      by_cases e2 : n < most + 1
      · rw [if_pos e2]
      · rw [if_neg e2, hT.2 n l (by omega)]
  · have hk9 : k ≤ 9 := by omega
    unfold p_X6_endCourse_9
    refine wl1 (q_X6_endCourse_9 (nI lb) (nI k) K) (lb + 1) (by omega) (fun j b => rC lb (fun n l => if n = 0 then mr T l (if l < j then k else k - 1) else if n < (if l < j then k + 1 else k) then -1 else T n l) b) 0 (by omega) _ ?_ ?_
    · intro n l hn hl
      rw [hb n l hn hl]
      show _ = phi (if n = 0 then mr T l (if l < 0 then k else k - 1) else if n < (if l < 0 then k + 1 else k) then -1 else T n l)
      rw [if_neg (Nat.not_lt_zero l), if_neg (Nat.not_lt_zero l)]
    rintro K2 j b2 _ hj hb2 hK2
    unfold q_X6_endCourse_9
    simp (disch := omega) only [li_0, li_1, li_2, li_3, li_4, li_5, li_6, li_7, li_8, li_9, li_10, li_11, li_12, li_13, li_14, li_15, li_16, li_20, li_26, li_31, li_32, li_36, li_42, li_43, li_48, li_52, li_57, li_58, li_59, li_60, li_63, li_97, li_99, li_104, li_112, li_115, li_119, li_140, li_141, li_142, li_143, li_144, li_145, li_146, li_147, li_148, li_149, li_150, li_151, li_152, li_255, li_303, li_455, li_999, li_1000, li_1510, li_1820, li_2275, li_9999, li_10000, li_100000, li_1048575, li_100000000, nI_ltI, nI_add, vp_t, nI_clamp]
    refine ⟨fun hge => ?_, fun hlt2 => ⟨by omega, by omega, by omega, by omega, by omega, by omega, by omega, by omega, ?_⟩⟩
    · refine hK (by omega) _ ?_
      intro n l hn hl
      rw [hb2 n l hn hl]
      show phi (if n = 0 then mr T l (if l < j then k else k - 1) else if n < (if l < j then k + 1 else k) then -1 else T n l) = phi (if n = 0 then mr T l (k + 1 - 1) else if n < k + 1 then -1 else T n l)
      rw [if_pos (show l < j by omega), if_pos (show l < j by omega)]
      rfl
    · refine hK2 (by omega) _ ?_
      have hk0 : ¬ k = 0 := by omega
      have q0 : (b2 0 j).toInt = phi (mr T j (k - 1)) := by
        rw [hb2 0 j (by omega) (by omega)]
        show phi (if 0 = 0 then mr T j (if j < j then k else k - 1) else _) = _
        rw [if_pos rfl, if_neg (Nat.lt_irrefl j)]
      have qk : (b2 k j).toInt = phi (T k j) := by
        rw [hb2 k j (by omega) (by omega)]
        show phi (if k = 0 then _ else if k < (if j < j then k + 1 else k) then -1 else T k j) = _
        rw [if_neg hk0, if_neg (Nat.lt_irrefl j), if_neg (Nat.lt_irrefl k)]
      have hmk : mr T j k = if mr T j (k - 1) < T k j then T k j else mr T j (k - 1) := by
        obtain ⟨y, rfl⟩ : ∃ y, k = y + 1 := ⟨k - 1, by omega⟩
        rfl
      have hv := e_maxL qk q0
      have r1 := (mr_b hT.1 j (k - 1)).1
      have r2 := (hT.1 k j).1
      intro n l hn hl
      show _ = phi (if n = 0 then mr T l (if l < j + 1 then k else k - 1) else if n < (if l < j + 1 then k + 1 else k) then -1 else T n l)
      by_cases e : n = 0
      · subst e
        rw [up_n (by omega), up_s, if_pos rfl]
        by_cases e2 : l = j
        · subst e2
          rw [pk_uLs, if_pos (Nat.lt_succ_self l), hmk, hv]
          unfold phi
          repeat' split
          all_goals omega
        · rw [pk_uLn e2, hb2 0 l hn hl]
          show phi (if 0 = 0 then mr T l (if l < j then k else k - 1) else _) = _
          rw [if_pos rfl]
          by_cases e3 : l < j
          · rw [if_pos e3, if_pos (by omega)]
          · rw [if_neg e3, if_neg (by omega)]
      · rw [if_neg e]
        by_cases e2 : n = k
        · subst e2
          rw [up_s]
          by_cases e3 : l = j
          · subst e3
            rw [pk_uLs, if_pos (Nat.lt_succ_self l), if_pos (Nat.lt_succ_self n)]
            exact tm1
          · rw [pk_uLn e3, up_n e, hb2 n l hn hl]
            show phi (if n = 0 then _ else if n < (if l < j then n + 1 else n) then -1 else T n l) = _
            rw [if_neg e]
            by_cases e4 : l < j
            · rw [if_pos e4, if_pos (show l < j + 1 by omega)]
            · rw [if_neg e4, if_neg (show ¬ l < j + 1 by omega)]
        · rw [up_n e2, up_n e, hb2 n l hn hl]
          show phi (if n = 0 then _ else if n < (if l < j then k + 1 else k) then -1 else T n l) = _
          rw [if_neg e]
          by_cases e4 : n < k
          · rw [if_pos (by split <;> omega), if_pos (by split <;> omega)]
          · rw [if_neg (by split <;> omega), if_neg (by split <;> omega)]
theorem i_forgetSets {lb : Nat} (hlb : lb ≤ 150) {best : Nat → Nat → Int64} {Q : (Nat → Nat → Int64) → Prop} (h : ∀ best', (∀ n l, n ≤ 9 → l ≤ lb → (best' n l).toInt = -1) → Q best') : p_X6_forgetSets best (nI lb) Q := by
  unfold p_X6_forgetSets p_X6_forgetSets_2
  refine wl1 (q_X6_forgetSets_2 (nI lb) Q) 10 (by decide) (fun k b => ∀ n l, n < k → l ≤ lb → (b n l).toInt = -1) 0 (by omega) _ (fun n l hn => absurd hn (Nat.not_lt_zero n)) ?_
  rintro K k b _ hk hb hK
  unfold q_X6_forgetSets_2
  simp (disch := omega) only [li_0, li_1, li_2, li_3, li_4, li_5, li_6, li_7, li_8, li_9, li_10, li_11, li_12, li_13, li_14, li_15, li_16, li_20, li_26, li_31, li_32, li_36, li_42, li_43, li_48, li_52, li_57, li_58, li_59, li_60, li_63, li_97, li_99, li_104, li_112, li_115, li_119, li_140, li_141, li_142, li_143, li_144, li_145, li_146, li_147, li_148, li_149, li_150, li_151, li_152, li_255, li_303, li_455, li_999, li_1000, li_1510, li_1820, li_2275, li_9999, li_10000, li_100000, li_1048575, li_100000000, nI_ltI]
  refine ⟨fun hge => h _ (fun n l hn hl => hb n l (by omega) hl), fun hlt => ?_⟩
  unfold p_X6_forgetSets_10
  refine wl1 (q_X6_forgetSets_10 (nI lb) (nI k) K) (lb + 1) (by omega) (fun j b => (∀ n l, n < k → l ≤ lb → (b n l).toInt = -1) ∧ ∀ l, l < j → (b k l).toInt = -1) 0 (by omega) _ ⟨hb, fun l hl => absurd hl (Nat.not_lt_zero l)⟩ ?_
  rintro K2 j b2 _ hj ⟨h1, h2⟩ hK2
  unfold q_X6_forgetSets_10
  simp (disch := omega) only [li_0, li_1, li_2, li_3, li_4, li_5, li_6, li_7, li_8, li_9, li_10, li_11, li_12, li_13, li_14, li_15, li_16, li_20, li_26, li_31, li_32, li_36, li_42, li_43, li_48, li_52, li_57, li_58, li_59, li_60, li_63, li_97, li_99, li_104, li_112, li_115, li_119, li_140, li_141, li_142, li_143, li_144, li_145, li_146, li_147, li_148, li_149, li_150, li_151, li_152, li_255, li_303, li_455, li_999, li_1000, li_1510, li_1820, li_2275, li_9999, li_10000, li_100000, li_1048575, li_100000000, nI_ltI, nI_add, vp_t, nI_clamp]
  refine ⟨fun hge => hK (by omega) _ ?_, fun hlt2 => ⟨by omega, by omega, hK2 (by omega) _ ⟨?_, ?_⟩⟩⟩
  · intro n l hn hl
    by_cases e : n = k
    · subst e
      exact h2 l (by omega)
    · exact h1 n l (by omega) hl
  · intro n l hn hl
    rw [up_n (by omega)]
    exact h1 n l hn hl
  · intro l hl
    rw [up_s]
    by_cases e : l = j
    · subst e
      rw [pk_uLs]
      exact tm1
    · rw [pk_uLn e]
      exact h2 l (by omega)

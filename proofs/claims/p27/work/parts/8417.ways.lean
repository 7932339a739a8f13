/-! ===== the reference: lay ===== -/
def bgn (A : List sE) (a i : Nat) : Nat := sm (fun k => fil A a k + eA (nt A k)) i + fil A a i + eS (nt A i)
theorem sl_ce_len (P : Nat → Bool) (g : Nat → Nat → Nat) (wid col spa : Nat) (sd : Nat → Nat) (t n k d : Nat) (hk : k < 4) (hn : n ≤ 20) (hd : d ≤ n) : (sl (fun c => ce P g wid col spa c n) sd t k).length + (ce P g wid col spa k d).length ≤ 24 := by
  have h1 := sl_len P g wid col spa sd t n k
  have h2 : sm (fun c => cs P g c (fun _ => 1) n + 1) (k + 1) ≤ sm (fun c => cs P g c (fun _ => 1) n + 1) 4 := sm_mono _ hk
  have h3 := csum P g n
  have h4 : sm (fun c => cs P g c (fun _ => 1) n + 1) 4 = 0 + (cs P g 0 (fun _ => 1) n + 1) + (cs P g 1 (fun _ => 1) n + 1) + (cs P g 2 (fun _ => 1) n + 1) + (cs P g 3 (fun _ => 1) n + 1) := rfl
  have h5 : sm (fun c => cs P g c (fun _ => 1) n + 1) (k + 1) = sm (fun c => cs P g c (fun _ => 1) n + 1) k + (cs P g k (fun _ => 1) n + 1) := rfl
  have h6 : cs P g k (fun _ => 1) d ≤ cs P g k (fun _ => 1) n := sm_mono _ hd
  have h7 : (ce P g wid col spa k d).length ≤ cs P g k (fun _ => 1) d + 1 := by
    rw [ce_len]
    split <;> omega
  omega
def rt (e d l : Nat) : Nat := (if e = 0 then 100000000 else 0) + 10000 * d + l
theorem btr_rt {e d l e' d' l' : Nat} (he : e ≤ 1) (hd : d ≤ 1000) (hl : l ≤ 450) (he' : e' ≤ 1) (hd' : d' ≤ 1000) (hl' : l' ≤ 450) : btr e d l e' d' l' = true ↔ rt e d l < rt e' d' l' := by
  unfold btr rt
  by_cases h1 : e = e'
  · subst h1
    rw [if_pos rfl]
    by_cases h2 : d = d'
    · subst h2
      rw [if_pos rfl, decide_eq_true_iff]
      omega
    · rw [if_neg h2, decide_eq_true_iff]
      split <;> omega
  · rw [if_neg h1, decide_eq_true_iff]
    split <;> split <;> omega
def bst (f : Nat → Nat) : Nat → Nat
  | 0 => 0
  | w + 1 => if f (w + 1) < f (bst f w) then w + 1 else bst f w
theorem bst_le (f : Nat → Nat) : ∀ w, bst f w ≤ w
  | 0 => Nat.le_refl 0
  | w + 1 => by
    have := bst_le f w
    show (if f (w + 1) < f (bst f w) then w + 1 else bst f w) ≤ w + 1
    split <;> omega
/-- both sides with the key for a way; what counts for it -/
def wx (P : Nat → Bool) (n : Nat) (g : Nat → Nat → Nat) (s sd : Nat → Nat) : Nat → List sE := wk (sx P n g (s 1) (clm P g n) (s 3) sd) (pc (kyl P g n))
def rtw (P : Nat → Bool) (n : Nat) (g : Nat → Nat → Nat) (s sd : Nat → Nat) : Nat := rt (evn (wx P n g s sd) (fsd (wx P n g s sd)) (fld (wx P n g s sd) (s 4))) (dif (wx P n g s sd)) (lgs (wx P n g s sd) (fsd (wx P n g s sd)) (fld (wx P n g s sd) (s 4)))
theorem wx_ok {n : Nat} {g : Nat → Nat → Nat} {s : Nat → Nat} (P : Nat → Bool) (hg : okG n g) (ho : okS s) (sd : Nat → Nat) : okX (wx P n g s sd) := by
  obtain ⟨s0, s1, s2, s3, s4, s5, s6, s7⟩ := ho.b
  have hX : okX (sx P n g (s 1) (clm P g n) (s 3) sd) := fun t ht => ⟨sl_ok hg s1 (dg_le _) s5 _ _ 4 (Nat.le_refl 4), Nat.le_succ_of_le (sl_len4 P g _ _ _ _ _ n 4 (Nat.le_refl 4) hg.1)⟩
  exact okX_wk hX (fun t ht => sl_len4 P g _ _ _ _ _ n 4 (Nat.le_refl 4) hg.1) (pc_mark _ (kyl_lt P hg hg.1)).1
theorem fld_b {X : Nat → List sE} (hX : okX X) (sla : Nat) : fld X sla ≤ 225 := Nat.le_trans (fld_le X sla) (apt_le hX)
theorem i_layW {P : Nat → Bool} {n : Nat} {g : Nat → Nat → Nat} {s : Nat → Nat} (hg : okG n g) (ho : okS s) {D L W st : Nat → Int32} {set num pri all col : Int32} (hP : relP P n g (s 1) D L W set num pri all col) (hst : ∀ k, k < 6 → st k = nI (s k)) {way : Nat} (hw : way < 16) {parts : Nat → Nat → Int32} {weights places : Nat → Int32} {Q : (Nat → Nat → Int32) → (Nat → Int32) → (Nat → Int32) → Int32 → Int32 → Prop}
    (h : ∀ parts' weights' places', relF (wx P n g s (fun c => tb way c)) (fsd (wx P n g s (fun c => tb way c))) (fld (wx P n g s (fun c => tb way c)) (s 4)) parts' weights' places' → Q parts' weights' places' (if pc (kyl P g n) = 0 then -nI 99 else nI (kys (sx P n g (s 1) (clm P g n) (s 3) (fun c => tb way c)))) (nI (apt (wx P n g s (fun c => tb way c))))) : p_X1_lay parts weights places D L W all st (nI way) Q := by
  refine i_layF hg ho hP hst hw ?_
  rintro p w l X nk rfl rfl hX R
  exact h p w l R
theorem i_foldBestWay {P : Nat → Bool} {n : Nat} {g : Nat → Nat → Nat} {s : Nat → Nat} (hg : okG n g) (ho : okS s) {D L W : Nat → Int32} {set num pri all col : Int32} (hP : relP P n g (s 1) D L W set num pri all col) {S : sS} (hst : ∀ k, k < 6 → S.1.2.1 k = nI (s k)) {parts parts2 : Nat → Nat → Int32} {weights places weights2 places2 : Nat → Int32} {ks2 gap2 : Int32} {Q : Int32 → (Nat → Nat → Int32) → (Nat → Int32) → (Nat → Int32) → Int32 → Int32 → (Nat → Nat → Int32) → (Nat → Int32) → (Nat → Int32) → Int32 → Int32 → Prop}
    (h : ∀ b parts' weights' places' ks gap parts2' weights2' places2' ks2' gap2', b = bst (fun w => rtw P n g s (fun c => tb w c)) 15 → relF (wx P n g s (fun c => tb b c)) (fsd (wx P n g s (fun c => tb b c))) (fld (wx P n g s (fun c => tb b c)) (s 4)) parts' weights' places' → Q (nI b) parts' weights' places' ks gap parts2' weights2' places2' ks2' gap2') : p_X8_foldBestWay S D L W all parts weights places parts2 weights2 places2 ks2 gap2 Q := by
  unfold p_X8_foldBestWay
  simp only [li_0, li_1, li_2, li_3, li_4, li_5, li_6, li_7, li_8, li_9, li_10, li_11, li_12, li_13, li_14, li_15, li_16, li_20, li_26, li_31, li_32, li_36, li_42, li_43, li_48, li_52, li_57, li_58, li_59, li_60, li_63, li_97, li_99, li_104, li_112, li_115, li_119, li_140, li_141, li_142, li_143, li_144, li_145, li_146, li_147, li_148, li_149, li_150, li_151, li_152, li_255, li_303, li_455, li_999, li_1000, li_1510, li_1820, li_2275, li_9999, li_10000, li_100000, li_1048575, li_100000000]
  refine i_layW hg ho hP hst (way := 0) (by decide) ?_
  intro p0 w0 l0 R0
  unfold p_X8_foldBestWay_23
  refine wl11 (q_X8_foldBestWay_23 S D L W all Q) 16 (by decide) (fun k fp fw fl fk fg op ow ol ok og x => ∃ b, x = nI b ∧ b = bst (fun w => rtw P n g s (fun c => tb w c)) (k - 1) ∧ relF (wx P n g s (fun c => tb b c)) (fsd (wx P n g s (fun c => tb b c))) (fld (wx P n g s (fun c => tb b c)) (s 4)) fp fw fl) 1 (by omega) _ _ _ _ _ _ _ _ _ _ _ ⟨0, rfl, rfl, R0⟩ ?_
  rintro K k fp fw fl fk fg op ow ol ok og x hk1 hk ⟨b, rfl, hb, R⟩ hK
  unfold q_X8_foldBestWay_23
  have hk15 := bst_le (fun w => rtw P n g s (fun c => tb w c)) (k - 1)
  simp (disch := omega) only [li_0, li_1, li_2, li_3, li_4, li_5, li_6, li_7, li_8, li_9, li_10, li_11, li_12, li_13, li_14, li_15, li_16, li_20, li_26, li_31, li_32, li_36, li_42, li_43, li_48, li_52, li_57, li_58, li_59, li_60, li_63, li_97, li_99, li_104, li_112, li_115, li_119, li_140, li_141, li_142, li_143, li_144, li_145, li_146, li_147, li_148, li_149, li_150, li_151, li_152, li_255, li_303, li_455, li_999, li_1000, li_1510, li_1820, li_2275, li_9999, li_10000, li_100000, li_1048575, li_100000000, nI_leI]
  refine ⟨fun hge => ?_, fun hlt => ?_⟩
  · have : k = 16 := by omega
    subst this
    exact h b _ _ _ _ _ _ _ _ _ _ hb R
  · have hk16 : k < 16 := by omega
    refine i_layW hg ho hP hst hk16 ?_
    intro p1 w1 l1 R1
    have hXk := wx_ok P hg ho (fun c => tb k c)
    have hXb := wx_ok P hg ho (fun c => tb b c)
    have hbk : bst (fun w => rtw P n g s (fun c => tb w c)) (k + 1 - 1) = if rtw P n g s (fun c => tb k c) < rtw P n g s (fun c => tb b c) then k else b := by
      obtain ⟨j, rfl⟩ : ∃ j, k = j + 1 := ⟨k - 1, by omega⟩
      rw [hb]
      rfl
    have hbt := btr_rt (evn_le (wx P n g s (fun c => tb k c)) (fsd (wx P n g s (fun c => tb k c))) (fld (wx P n g s (fun c => tb k c)) (s 4))) (dif_le hXk) (lgs_le (fs := fsd (wx P n g s (fun c => tb k c))) hXk (fld_b hXk (s 4))) (evn_le (wx P n g s (fun c => tb b c)) (fsd (wx P n g s (fun c => tb b c))) (fld (wx P n g s (fun c => tb b c)) (s 4))) (dif_le hXb) (lgs_le (fs := fsd (wx P n g s (fun c => tb b c))) hXb (fld_b hXb (s 4)))
    refine i_isBetter R1 hXk (fld_b hXk (s 4)) R hXb (fld_b hXb (s 4)) (fun hy => ?_) (fun hy => ?_)
    · have hlt2 : rtw P n g s (fun c => tb k c) < rtw P n g s (fun c => tb b c) := hbt.1 hy
      simp (disch := omega) only [nI_eqI, Nat.one_ne_zero, true_and, and_true, not_true_eq_false, not_false_eq_true, true_imp_iff, false_imp_iff, false_and, and_false, imp_false, Classical.not_not, Bool.false_eq_true, Nat.zero_ne_one, Nat.one_ne_zero, Nat.not_lt_zero, if_true, if_false, implies_true]
      refine i_layW hg ho hP hst hk16 ?_
      intro p2 w2 l2 R2
      unfold p_X8_foldBestWay_83
      simp only [li_0, li_1, li_2, li_3, li_4, li_5, li_6, li_7, li_8, li_9, li_10, li_11, li_12, li_13, li_14, li_15, li_16, li_20, li_26, li_31, li_32, li_36, li_42, li_43, li_48, li_52, li_57, li_58, li_59, li_60, li_63, li_97, li_99, li_104, li_112, li_115, li_119, li_140, li_141, li_142, li_143, li_144, li_145, li_146, li_147, li_148, li_149, li_150, li_151, li_152, li_255, li_303, li_455, li_999, li_1000, li_1510, li_1820, li_2275, li_9999, li_10000, li_100000, li_1048575, li_100000000, nI_add]
      refine hK hk16 _ _ _ _ _ _ _ _ _ _ _ ⟨k, rfl, ?_, R2⟩
      rw [hbk, if_pos hlt2]
    · have hlt2 : ¬ rtw P n g s (fun c => tb k c) < rtw P n g s (fun c => tb b c) := fun e => hy (hbt.2 e)
      simp (disch := omega) only [nI_eqI, true_and, and_true, not_true_eq_false, not_false_eq_true, true_imp_iff, false_imp_iff, false_and, and_false, imp_false, Classical.not_not, Bool.false_eq_true, Nat.zero_ne_one, Nat.one_ne_zero, Nat.not_lt_zero, if_true, if_false, implies_true]
      unfold p_X8_foldBestWay_83
      simp only [li_0, li_1, li_2, li_3, li_4, li_5, li_6, li_7, li_8, li_9, li_10, li_11, li_12, li_13, li_14, li_15, li_16, li_20, li_26, li_31, li_32, li_36, li_42, li_43, li_48, li_52, li_57, li_58, li_59, li_60, li_63, li_97, li_99, li_104, li_112, li_115, li_119, li_140, li_141, li_142, li_143, li_144, li_145, li_146, li_147, li_148, li_149, li_150, li_151, li_152, li_255, li_303, li_455, li_999, li_1000, li_1510, li_1820, li_2275, li_9999, li_10000, li_100000, li_1048575, li_100000000, nI_add]
      refine hK hk16 _ _ _ _ _ _ _ _ _ _ _ ⟨b, rfl, ?_, R⟩
      rw [hbk, if_neg hlt2]
/-! ===== the reference's best way ===== -/
theorem okW_tb (way : Nat) : okW (fun c => tb way c) := fun c _ => Nat.le_of_lt_succ (tb_lt way c)
theorem rtw_le {n : Nat} {g : Nat → Nat → Nat} {s : Nat → Nat} (P : Nat → Bool) (hg : okG n g) (ho : okS s) (sd : Nat → Nat) : rtw P n g s sd ≤ 200000000 := by
  have hX := wx_ok P hg ho sd
  have h1 := dif_le hX
  have h2 := lgs_le (fs := fsd (wx P n g s sd)) hX (fld_b hX (s 4))
  unfold rtw rt
  split <;> omega

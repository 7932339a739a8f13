theorem w_scr {i L k : Nat} {c : Int32} (h : i + 7 ≤ L) (hL : L ≤ 3584) (hk : k < 7) (hc : c = nI k) : vp_in (nI i + c) L := by
  rw [hc, nI_add]
  exact vp_in_nI (by omega) (by omega)
theorem w_scr0 {i L : Nat} (h : i + 7 ≤ L) (hL : L ≤ 3584) : vp_in (nI i) L := vp_in_nI (by omega) (by omega)
theorem w_i7 (i : Nat) : nI i + Int32.ofInt 7 = nI (i + 7) := by
  rw [show Int32.ofInt 7 = nI 7 from by decide]
  exact nI_add i 7
theorem w_more {i L : Nat} (hL : L ≤ 3584) (hi : i ≤ L + 7) (h : ¬ (Int32.ofNat L - 7 < nI i)) : i + 7 ≤ L := by
  have e : (Int32.ofNat L - 7 : Int32).toInt = (L : Int) - 7 := pk_sub_toInt (a := L) (b := 7) (by omega) (by decide)
  have e2 : (nI i).toInt = (i : Int) := nI_toInt (by omega)
  rw [Int32.lt_iff_toInt_lt, e, e2] at h
  omega

/-! ===== the reference: what is looked at ===== -/
abbrev clm (P : Nat → Bool) (g : Nat → Nat → Nat) (n : Nat) : Nat := dg (mxl (fun d => if P d = true then g d 2 else 0) n)
abbrev kyl (P : Nat → Bool) (g : Nat → Nat → Nat) (n : Nat) : Nat := orl (fun d => if P d = true then g d 4 else 0) n
theorem kyl_lt (P : Nat → Bool) {n m : Nat} {g : Nat → Nat → Nat} (hg : okG n g) (hm : m ≤ 20) : kyl P g m < 256 := by
  have : orl (fun d => if P d = true then g d 4 else 0) m < 2 ^ 8 := orl_lt (fun k hk => by
    have := (hg.b (d := k) (by omega)).2.2.2.2.1
    show (if _ then g k 4 else 0) < 2 ^ 8
    split <;> omega)
  exact this
theorem mxp_le (P : Nat → Bool) {n m : Nat} {g : Nat → Nat → Nat} (hg : okG n g) (hm : m ≤ 20) : mxl (fun d => if P d = true then g d 2 else 0) m ≤ 9999 := mxl_le (fun j hj => by
    have := (hg.b (d := j) (by omega)).2.2.1
    show (if _ then g j 2 else 0) ≤ 9999
    split <;> omega)
def fil (A : List sE) (a i : Nat) : Nat := if i = 0 ∨ eP (nt A i) = 0 then 0 else shr a (plc A) (ls eP (A.take i) - 1)
theorem fil_0 (A : List sE) (i : Nat) : fil A 0 i = 0 := by
  unfold fil shr
  split
  · rfl
  · split
    · rw [Nat.zero_div, Nat.zero_mod, if_neg (Nat.not_lt_zero _)]
    · rfl
theorem ls_take_le (f : sE → Nat) (A : List sE) (i : Nat) : ls f (A.take i) ≤ ls f A := by
  have h : ls f A = ls f (A.take i ++ A.drop i) := by rw [List.take_append_drop]
  rw [h, ls_app]
  exact Nat.le_add_right _ _
theorem ls_take_s {f : sE → Nat} {A : List sE} {i : Nat} (h : i < A.length) : ls f (A.take (i + 1)) = ls f (A.take i) + f (nt A i) := by
  rw [take_s h, ls_one]
theorem okL.p0 {A : List sE} (h : okL A) (h0 : 0 < A.length) : eP (nt A 0) = 1 := by
  have h1 := (h.2 0 h0).1
  have h2 := (h.1 _ (nt_mem h0)).2.2.2.2.2.2.2.1
  have : ¬ eP (nt A 0) = 0 := fun e => absurd (h1 e).1 (Nat.lt_irrefl 0)
  omega
theorem okL.p1 {A : List sE} (h : okL A) : ∀ i, i < A.length → 1 ≤ ls eP (A.take (i + 1))
  | 0, h0 => by
    rw [ls_take_s h0, h.p0 h0]
    omega
  | i + 1, h0 => by
    have := okL.p1 h i (by omega)
    rw [ls_take_s h0]
    omega

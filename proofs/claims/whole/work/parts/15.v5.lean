def lc (x y : Int64) : Int := if y.toInt < x.toInt then 1 else if x.toInt = y.toInt then 0 else -1
theorem lg_lc (x y : Int64) : lg_cmp x y = jI (lc x y) := by
  unfold lg_cmp lc
  have h1 : (x > y) ↔ y.toInt < x.toInt := Int64.lt_iff_toInt_lt
  have h2 : (x = y) ↔ x.toInt = y.toInt := Int64.toInt_inj.symm
  by_cases q1 : y.toInt < x.toInt
  · rw [if_pos (h1.mpr q1), if_pos q1]; decide
  · rw [if_neg (fun z => q1 (h1.mp z)), if_neg q1]
    by_cases q2 : x.toInt = y.toInt
    · rw [if_pos (h2.mpr q2), if_pos q2]; decide
    · rw [if_neg (fun z => q2 (h2.mp z)), if_neg q2]; decide
theorem lc_z (x y : Int64) : (lc x y = -1 ∧ x.toInt < y.toInt) ∨ (lc x y = 0 ∧ x.toInt = y.toInt) ∨ (lc x y = 1 ∧ y.toInt < x.toInt) := by
  unfold lc
  split
  · omega
  · split <;> omega
/-- a number of so many bits -/
def nW (b : Int) (v : Int64) : Int64 := if b = 8 then v.toInt32.toInt8.toInt32.toInt64 else if b = 16 then v.toInt32.toInt16.toInt32.toInt64 else v
def cpL (f g : Int → Int64) (n : Nat) : Int → Int64 := fun j => if j < n then f j else g j
theorem cpL_s (f g : Int → Int64) (n : Nat) : ∀ j : Int, 0 ≤ j → uL (cpL f g n) (n : Int) (f (n : Int)) j = cpL f g (n + 1) j := by
  intro j h0
  by_cases h : j = (n : Int)
  · subst h; rw [uL_s]; unfold cpL; rw [if_pos (by omega)]
  · rw [uL_n _ _ h]
    unfold cpL
    by_cases h2 : j < (n : Int)
    · rw [if_pos h2, if_pos (by omega)]
    · rw [if_neg h2, if_neg (by omega)]
def cyF (ce : Int → Int64) (x y : Int) (n : Nat) : Int → Int64 := fun j => if y ≤ j ∧ j < y + n then ce (x + (j - y)) else ce j
def byt (x : Int32) (k : Int) : Int := ((x >>> (jI (8 * k) &&& 31)) &&& jI 255).toInt
theorem byt_r (x : Int32) (k : Int) : 0 ≤ byt x k ∧ byt x k ≤ 255 := by
  unfold byt
  obtain ⟨j, hj, e⟩ := pk_andE (x >>> (jI (8 * k) &&& 31)) (m := jI 255) 8 (by decide)
  rw [e, nI_toInt (by omega)]
  omega
theorem pow_m : ∀ m : Nat, m ≤ 10 → jI 1 <<< (jI (m : Int) &&& 31) = jI ((2 ^ m : Nat) : Int) := by decide +kernel

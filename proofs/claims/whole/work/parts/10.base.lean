/-! ints as whole numbers: jI z; rows of ints by a function of whole numbers: jA g -/
def jI (z : Int) : Int32 := Int32.ofInt z
def jL (z : Int) : Int64 := Int64.ofInt z
def jA (g : Int → Int) : Nat → Int32 := fun j => jI (g (j : Int))
def jLA (g : Int → Int64) : Nat → Int64 := fun j => g (j : Int)
def uI (g : Int → Int) (k x : Int) : Int → Int := fun j => if j = k then x else g j
def uL (g : Int → Int64) (k : Int) (x : Int64) : Int → Int64 := fun j => if j = k then x else g j
noncomputable def b2 (P : Prop) : Int := @ite Int P (Classical.propDecidable P) 1 0
theorem b2_t {P : Prop} (h : P) : b2 P = 1 := if_pos h
theorem b2_f {P : Prop} (h : ¬ P) : b2 P = 0 := if_neg h
theorem b2_r (P : Prop) : 0 ≤ b2 P ∧ b2 P ≤ 1 := by
  rcases Classical.em P with h | h
  · rw [b2_t h]; omega
  · rw [b2_f h]; omega
theorem b2_c {P Q : Prop} (h : P ↔ Q) : b2 P = b2 Q := by
  rcases Classical.em P with hP | hP
  · rw [b2_t hP, b2_t (h.mp hP)]
  · rw [b2_f hP, b2_f (fun q => hP (h.mpr q))]
theorem uI_s (g : Int → Int) (k x : Int) : uI g k x k = x := if_pos rfl
theorem uI_n (g : Int → Int) {k j : Int} (x : Int) (h : j ≠ k) : uI g k x j = g j := if_neg h
theorem uL_s (g : Int → Int64) (k : Int) (x : Int64) : uL g k x k = x := if_pos rfl
theorem uL_n (g : Int → Int64) {k j : Int} (x : Int64) (h : j ≠ k) : uL g k x j = g j := if_neg h
theorem jI_add (a b : Int) : jI a + jI b = jI (a + b) := (Int32.ofInt_add a b).symm
theorem jI_sub (a b : Int) : jI a - jI b = jI (a - b) := (Int32.ofInt_sub a b).symm
theorem jI_mul (a b : Int) : jI a * jI b = jI (a * b) := (Int32.ofInt_mul a b).symm
theorem jI_neg (a : Int) : -jI a = jI (-a) := (Int32.ofInt_neg a).symm
theorem jI_toInt {z : Int} (h : -2147483648 ≤ z ∧ z ≤ 2147483647) : (jI z).toInt = z := Int32.toInt_ofInt_of_le (by omega) (by omega)
theorem jI_of (x : Int32) : ∃ z : Int, (-2147483648 ≤ z ∧ z ≤ 2147483647) ∧ x = jI z :=
  ⟨x.toInt, ⟨by have := Int32.le_toInt x; omega, by have := Int32.toInt_lt x; omega⟩, (Int32.ofInt_toInt x).symm⟩
theorem jI_eq {a b : Int} (ha : -2147483648 ≤ a ∧ a ≤ 2147483647) (hb : -2147483648 ≤ b ∧ b ≤ 2147483647) : jI a = jI b ↔ a = b := by
  constructor
  · intro h
    have := congrArg Int32.toInt h
    rwa [jI_toInt ha, jI_toInt hb] at this
  · intro h; rw [h]
theorem jI_le {a b : Int} (ha : -2147483648 ≤ a ∧ a ≤ 2147483647) (hb : -2147483648 ≤ b ∧ b ≤ 2147483647) : jI a ≤ jI b ↔ a ≤ b := by
  rw [Int32.le_iff_toInt_le, jI_toInt ha, jI_toInt hb]
theorem jI_lt {a b : Int} (ha : -2147483648 ≤ a ∧ a ≤ 2147483647) (hb : -2147483648 ≤ b ∧ b ≤ 2147483647) : jI a < jI b ↔ a < b := by
  rw [Int32.lt_iff_toInt_lt, jI_toInt ha, jI_toInt hb]
theorem jI_0 : jI 0 = 0 := by decide
theorem jI_clamp {z : Int} (h0 : 0 ≤ z) (h : z ≤ 2147483647) : ((jI z).toNatClampNeg : Int) = z := by
  have e : (jI z).toNatClampNeg = (jI z).toInt.toNat := rfl
  rw [e, jI_toInt ⟨by omega, h⟩]
  omega
theorem jI_clampN {z : Int} (h0 : 0 ≤ z) (h : z ≤ 2147483647) : (jI z).toNatClampNeg = z.toNat := by
  have := jI_clamp h0 h
  omega
theorem jI_in {z : Int} {n : Nat} (h0 : 0 ≤ z) (h : z < n) (hn : n ≤ 2147483647) : vp_in (jI z) n := by
  intro q
  rcases q with q | q
  · rw [← jI_0, jI_lt ⟨by omega, by omega⟩ ⟨by omega, by omega⟩] at q
    omega
  · have := jI_clamp h0 (by omega)
    omega
theorem jA_at {g : Int → Int} {z : Int} (h0 : 0 ≤ z) (h : z ≤ 2147483647) : jA g (jI z).toNatClampNeg = jI (g z) := by
  unfold jA
  rw [jI_clamp h0 h]
theorem jLA_at {g : Int → Int64} {z : Int} (h0 : 0 ≤ z) (h : z ≤ 2147483647) : jLA g (jI z).toNatClampNeg = g z := by
  unfold jLA
  rw [jI_clamp h0 h]
theorem jA_up {g : Int → Int} {z x : Int} (h0 : 0 ≤ z) (h : z ≤ 2147483647) : upd (jA g) (jI z).toNatClampNeg (jI x) = jA (uI g z x) := by
  funext j
  have e := jI_clamp h0 h
  by_cases hj : j = (jI z).toNatClampNeg
  · subst hj
    rw [pk_us]
    unfold jA
    rw [e, uI_s]
  · rw [pk_un hj]
    unfold jA
    rw [uI_n g x (by omega)]
theorem jLA_up {g : Int → Int64} {z : Int} {x : Int64} (h0 : 0 ≤ z) (h : z ≤ 2147483647) : vp_updL (jLA g) (jI z).toNatClampNeg x = jLA (uL g z x) := by
  funext j
  have e := jI_clamp h0 h
  by_cases hj : j = (jI z).toNatClampNeg
  · subst hj
    rw [pk_uLs]
    unfold jLA
    rw [e, uL_s]
  · rw [pk_uLn hj]
    unfold jLA
    rw [uL_n g x (by omega)]
theorem jI_div {a b : Int} (ha : 0 ≤ a ∧ a ≤ 2147483647) (hb : 0 < b ∧ b ≤ 2147483647) : jI a / jI b = jI (a / b) := by
  have hq : 0 ≤ a / b ∧ a / b ≤ a := ⟨Int.ediv_nonneg ha.1 (by omega), Int.ediv_le_self b ha.1⟩
  apply Int32.toInt_inj.mp
  rw [lg_idiv_nonneg (by rw [jI_toInt ⟨by omega, by omega⟩]; omega) (by rw [jI_toInt ⟨by omega, by omega⟩]; omega), jI_toInt ⟨by omega, by omega⟩, jI_toInt ⟨by omega, by omega⟩, jI_toInt ⟨by omega, by omega⟩]
theorem jI_rem {a b : Int} (ha : 0 ≤ a ∧ a ≤ 2147483647) (hb : 0 < b ∧ b ≤ 2147483647) : jI a - jI a / jI b * jI b = jI (a % b) := by
  rw [jI_div ha hb, jI_mul, jI_sub]
  exact congrArg jI (by have := Int.mul_ediv_add_emod a b; have := Int.mul_comm b (a / b); omega)
theorem jI_sh31 : ∀ k : Nat, k < 32 → (((jI (k : Int)) &&& 31 : Int32).toBitVec.smod 32).toNat = k := by decide +kernel
theorem jI_shr {x : Int} (k : Nat) (hx : 0 ≤ x ∧ x ≤ 2147483647) (hk : k < 32) : jI x >>> (jI (k : Int) &&& 31) = jI (x / 2 ^ k) := by
  have hp : (0 : Int) < 2 ^ k := Int.pow_pos (by omega)
  have hq : 0 ≤ x / 2 ^ k ∧ x / 2 ^ k ≤ x := ⟨Int.ediv_nonneg hx.1 (by omega), Int.ediv_le_self _ hx.1⟩
  apply Int32.toInt_inj.mp
  rw [pk_shr _ _ k (jI_sh31 k hk), jI_toInt ⟨by omega, by omega⟩, jI_toInt ⟨by omega, by omega⟩, Int.shiftRight_eq_div_pow]
  norm_cast
theorem jI_i2l {z : Int} (h : -2147483648 ≤ z ∧ z ≤ 2147483647) : (jI z).toInt64 = jL z := by
  apply Int64.toInt_inj.mp
  rw [Int32.toInt_toInt64, jI_toInt h]
  exact (Int64.toInt_ofInt_of_le (by omega) (by omega)).symm
theorem jL_add (a b : Int) : jL a + jL b = jL (a + b) := (Int64.ofInt_add a b).symm
theorem jL_sub (a b : Int) : jL a - jL b = jL (a - b) := (Int64.ofInt_sub a b).symm
theorem jL_mul (a b : Int) : jL a * jL b = jL (a * b) := (Int64.ofInt_mul a b).symm
theorem jL_toInt {z : Int} (h : -9223372036854775808 ≤ z ∧ z ≤ 9223372036854775807) : (jL z).toInt = z := Int64.toInt_ofInt_of_le (by omega) (by omega)
theorem jL_of (x : Int64) : ∃ z : Int, (-9223372036854775808 ≤ z ∧ z ≤ 9223372036854775807) ∧ x = jL z :=
  ⟨x.toInt, ⟨by have := Int64.le_toInt x; omega, by have := Int64.toInt_lt x; omega⟩, (Int64.ofInt_toInt x).symm⟩
theorem jL_l2i {z : Int} (h : -9223372036854775808 ≤ z ∧ z ≤ 9223372036854775807) : (jL z).toInt32 = jI z := by
  have e : (jL z).toInt32 = Int32.ofInt (jL z).toInt := rfl
  rw [e, jL_toInt h]
  rfl

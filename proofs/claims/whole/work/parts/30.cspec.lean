/-! the component's state, over whole numbers -/
abbrev WT : Type := Int × (Int → Int) × Int × (Int → Int) × (Int → Int) × (Int → Int) × (Int → Int) × (Int → Int) × Int × (Int → Int) × (Int → Int) × (Int → Int)
abbrev GT : Type := Int × (Int → Int) × (Int → Int) × (Int → Int) × (Int → Int)
def gW (cI : ClassId) (b : Nat → Nat) (x : WT) : va_W :=
  [(b 0, .inr (7, [.int (jI x.1), .ref (b 1), .int (jI x.2.2.1), .ref (b 2), .ref (b 3), .ref (b 4), .ref (b 5), .ref (b 6), .int (jI x.2.2.2.2.2.2.2.2.1), .ref (b 7), .ref (b 8), .ref (b 9)])), (b 1, .inl (cI, 16, .inl (jA x.2.1))), (b 2, .inl (cI, 10, .inl (jA x.2.2.2.1))), (b 3, .inl (cI, 10, .inl (jA x.2.2.2.2.1))), (b 4, .inl (cI, 10, .inl (jA x.2.2.2.2.2.1))), (b 5, .inl (cI, 10, .inl (jA x.2.2.2.2.2.2.1))), (b 6, .inl (cI, 10, .inl (jA x.2.2.2.2.2.2.2.1))), (b 7, .inl (cI, 8, .inl (jA x.2.2.2.2.2.2.2.2.2.1))), (b 8, .inl (cI, 8, .inl (jA x.2.2.2.2.2.2.2.2.2.2.1))), (b 9, .inl (cI, 8, .inl (jA x.2.2.2.2.2.2.2.2.2.2.2)))]
def gG (cI : ClassId) (b : Nat → Nat) (g : GT) : va_W :=
  [(b 0, .inr (0, [.int (jI g.1), .ref (b 1), .ref (b 2), .ref (b 3), .ref (b 4)])), (b 1, .inl (cI, 16, .inl (jA g.2.1))), (b 2, .inl (cI, 10, .inl (jA g.2.2.1))), (b 3, .inl (cI, 10, .inl (jA g.2.2.2.1))), (b 4, .inl (cI, 16, .inl (jA g.2.2.2.2)))]
def gA1 (cI : ClassId) (x : Nat) (N : Nat) (f : Int → Int) : va_W := [(x, .inl (cI, N, .inl (jA f)))]
def gT (cB : ClassId) (b : Nat → Nat) (x : (Int → Int) × Int) : va_W := [(b 0, .inr (4, [.ref (b 1), .int (jI x.2)])), (b 1, .inl (cB, 120, .inl (jA x.1)))]
def gK (cI : ClassId) (b : Nat → Nat) (x : (Int → Int) × (Int → Int) × (Int → Int) × Int) : va_W := [(b 0, .inr (5, [.ref (b 1), .ref (b 2), .ref (b 3), .int (jI x.2.2.2)])), (b 1, .inl (cI, 121, .inl (jA x.1))), (b 2, .inl (cI, 121, .inl (jA x.2.1))), (b 3, .inl (cI, 121, .inl (jA x.2.2.1)))]
def gN (a : Nat → Nat) (nx : Int) : va_W := [(a 38, .inr (2, [.ref (a 60), .ref (a 39), .int (jI nx)]))]
def gS (a : Nat → Nat) (ks : Int) : va_W := [(a 0, .inr (8, [.ref (a 1), .ref (a 11), .ref (a 21), .int (jI ks), .ref (a 31), .ref (a 36), .ref (a 38), .ref (a 43), .ref (a 52), .ref (a 55), .ref (a 58), .ref (a 59)]))]
def gH (cS : ClassId) (a : Nat → Nat) : va_W := [(a 43, .inl (cS, 4, .inr (.inr (.inr (.inr (fun j => some (a (44 + 2 * j))))))))]
def gX (cL : ClassId) (b : Nat → Nat) (x : Int × Int × (Int → Int64)) : va_W := [(b 0, .inr (3, [.int (jI x.1), .int (jI x.2.1), .ref (b 1)])), (b 1, .inl (cL, 40, .inr (.inl (jLA x.2.2))))]
def gL (cI cL : ClassId) (b : Nat → Nat) (x : (Int → Int64) × (Int → Int)) : va_W := [(b 0, .inr (1, [.ref (b 1), .ref (b 2)])), (b 1, .inl (cL, 16, .inr (.inl (jLA x.1)))), (b 2, .inl (cI, 160, .inl (jA x.2)))]
def gY (cI : ClassId) (b : Nat → Nat) (x : (Int → Int) × (Int → Int)) : va_W := [(b 0, .inr (6, [.ref (b 1), .ref (b 2)])), (b 1, .inl (cI, 16, .inl (jA x.1))), (b 2, .inl (cI, 16, .inl (jA x.2)))]
def gI (cI : ClassId) (a : Nat → Nat) (li : Int → Int) : va_W := [(a 58, .inl (cI, 16, .inl (jA li)))]
def gF (cI : ClassId) (a : Nat → Nat) (fd : Int → Int) : va_W := [(a 59, .inl (cI, 7, .inl (jA fd)))]
/-- what holds of a world's numbers -/
def Wc (x : WT) : Prop := (0 ≤ x.1 ∧ x.1 ≤ 20000) ∧ (0 ≤ x.2.2.1 ∧ x.2.2.1 ≤ 10) ∧ (0 ≤ x.2.2.2.2.2.2.2.2.1 ∧ x.2.2.2.2.2.2.2.2.1 ≤ 8) ∧ (∀ p : Int, 0 ≤ p → p < 16 → 0 ≤ x.2.1 p ∧ x.2.1 p ≤ 99) ∧
  (∀ b : Int, 0 ≤ b → b < 10 → (-1 ≤ x.2.2.2.1 b ∧ x.2.2.2.1 b ≤ 5) ∧ (0 ≤ x.2.2.2.2.1 b ∧ x.2.2.2.2.1 b ≤ 15) ∧ (0 ≤ x.2.2.2.2.2.1 b ∧ x.2.2.2.2.2.1 b ≤ 15) ∧ (0 ≤ x.2.2.2.2.2.2.1 b ∧ x.2.2.2.2.2.2.1 b ≤ 99) ∧ (0 ≤ x.2.2.2.2.2.2.2.1 b ∧ x.2.2.2.2.2.2.2.1 b ≤ 999)) ∧
  (∀ t : Int, 0 ≤ t → t < 8 → (0 ≤ x.2.2.2.2.2.2.2.2.2.1 t ∧ x.2.2.2.2.2.2.2.2.2.1 t ≤ 15) ∧ (0 ≤ x.2.2.2.2.2.2.2.2.2.2.1 t ∧ x.2.2.2.2.2.2.2.2.2.2.1 t ≤ 99) ∧ (0 ≤ x.2.2.2.2.2.2.2.2.2.2.2 t ∧ x.2.2.2.2.2.2.2.2.2.2.2 t ≤ 99))
theorem Wc.hour {x : WT} (h : Wc x) : 0 ≤ x.1 ∧ x.1 ≤ 20000 := h.1
theorem Wc.many {x : WT} (h : Wc x) : 0 ≤ x.2.2.1 ∧ x.2.2.1 ≤ 10 := h.2.1
theorem Wc.tasks {x : WT} (h : Wc x) : 0 ≤ x.2.2.2.2.2.2.2.2.1 ∧ x.2.2.2.2.2.2.2.2.1 ≤ 8 := h.2.2.1
theorem Wc.bowl {x : WT} (h : Wc x) {p : Int} (h0 : 0 ≤ p) (h1 : p < 16) : 0 ≤ x.2.1 p ∧ x.2.1 p ≤ 99 := h.2.2.2.1 p h0 h1
theorem Wc.being {x : WT} (h : Wc x) {b : Int} (h0 : 0 ≤ b) (h1 : b < 10) : (-1 ≤ x.2.2.2.1 b ∧ x.2.2.2.1 b ≤ 5) ∧ (0 ≤ x.2.2.2.2.1 b ∧ x.2.2.2.2.1 b ≤ 15) ∧ (0 ≤ x.2.2.2.2.2.1 b ∧ x.2.2.2.2.2.1 b ≤ 15) ∧ (0 ≤ x.2.2.2.2.2.2.1 b ∧ x.2.2.2.2.2.2.1 b ≤ 99) ∧ (0 ≤ x.2.2.2.2.2.2.2.1 b ∧ x.2.2.2.2.2.2.2.1 b ≤ 999) := h.2.2.2.2.1 b h0 h1
theorem Wc.task {x : WT} (h : Wc x) {t : Int} (h0 : 0 ≤ t) (h1 : t < 8) : (0 ≤ x.2.2.2.2.2.2.2.2.2.1 t ∧ x.2.2.2.2.2.2.2.2.2.1 t ≤ 15) ∧ (0 ≤ x.2.2.2.2.2.2.2.2.2.2.1 t ∧ x.2.2.2.2.2.2.2.2.2.2.1 t ≤ 99) ∧ (0 ≤ x.2.2.2.2.2.2.2.2.2.2.2 t ∧ x.2.2.2.2.2.2.2.2.2.2.2 t ≤ 99) := h.2.2.2.2.2 t h0 h1
/-- by how far one comes -/
def twC (f t s : Int) : Int := if f < t then jmin (f + s) t else jmax (f - s) t
theorem twC_r {f t s : Int} (hs : 0 ≤ s) (hf : 0 ≤ f ∧ f ≤ 3) (ht : 0 ≤ t ∧ t ≤ 3) : (0 ≤ twC f t s ∧ twC f t s ≤ 3) ∧ jabs (twC f t s - f) ≤ s ∧ 0 ≤ jabs (twC f t s - f) := by
  have h1 := jmin_z (f + s) t
  have h2 := jmax_z (f - s) t
  have h3 := jabs_z (twC f t s - f)
  unfold twC at *
  split at h3 <;> split <;> omega
def cSt (a g n : Int) : Int := twC (a / 4) (g / 4) n * 4 + twC (a % 4) (g % 4) (n - jabs (twC (a / 4) (g / 4) n - a / 4))
theorem cSt_r {a g n : Int} (hn : 0 ≤ n) (ha : 0 ≤ a ∧ a ≤ 15) (hg : 0 ≤ g ∧ g ≤ 15) : 0 ≤ cSt a g n ∧ cSt a g n ≤ 15 := by
  have h1 := twC_r (f := a / 4) (t := g / 4) (s := n) hn (by omega) (by omega)
  have h2 := twC_r (f := a % 4) (t := g % 4) (s := n - jabs (twC (a / 4) (g / 4) n - a / 4)) (by omega) (by omega) (by omega)
  unfold cSt
  omega
/-- under a kind, by the table -/
def abv (k : Int) : Int := if k = 0 then -1 else if k = 4 then 1 else if k = 5 then 2 else 0
def unN (k u : Int) : Nat → Prop
  | 0 => False
  | n + 1 => (0 ≤ k ∧ k < 6) ∧ (k = u ∨ unN (abv k) u n)
theorem abv_t {z : Int} (h : 0 ≤ z ∧ z < 6) : jAbove z.toNat = jI (abv z) := by
  rcases (show z = 0 ∨ z = 1 ∨ z = 2 ∨ z = 3 ∨ z = 4 ∨ z = 5 by omega) with rfl | rfl | rfl | rfl | rfl | rfl <;> decide
theorem abv_r (k : Int) : -1 ≤ abv k ∧ abv k ≤ 2 := by
  unfold abv
  (repeat' split) <;> omega
def pnC (m f : Int) : Int := jmax 0 (m - f)
def cSh (k m f v : Int) : Int := if k = 0 then pnC m f else if k = 1 then (if 1 < v then pnC m f + pnC m f / 2 else pnC m f) else if k = 2 then (if 6 ≤ f then 0 else pnC m f) else if k = 3 then 3 * pnC m f else if k = 4 then 2 * (if 1 < v then pnC m f + pnC m f / 2 else pnC m f) else 0
theorem cSh_r {k m f v : Int} (hm : 0 ≤ m ∧ m ≤ 99) (hf : 0 ≤ f) : 0 ≤ cSh k m f v ∧ cSh k m f v ≤ 297 := by
  have h := jmax_z 0 (m - f)
  have h1 : 0 ≤ pnC m f ∧ pnC m f ≤ 99 := by unfold pnC; omega
  unfold cSh
  (repeat' split) <;> omega
def stF (x : WT) (n : Int) : Int → Int := fun b => cSt (x.2.2.2.2.1 b) (x.2.2.2.2.2.1 b) n
def boF (x : WT) (n : Int) : Int → Int := fun p => jmax 0 (x.2.1 p - n)
def faF (x : WT) (n : Int) : Int → Int := fun b => jmin 999 (x.2.2.2.2.2.2.2.1 b + n)
noncomputable def voF (x : WT) (n : Int) : Nat → (Int → Int)
  | 0 => fun _ => 0
  | k + 1 => @ite (Int → Int) (unN (x.2.2.2.1 (k : Int)) 1 6) (Classical.propDecidable _) (uI (voF x n k) (stF x n (k : Int)) (voF x n k (stF x n (k : Int)) + 1)) (voF x n k)
theorem vo_t {x : WT} {n : Int} {k : Nat} (h : unN (x.2.2.2.1 (k : Int)) 1 6) : voF x n (k + 1) = uI (voF x n k) (stF x n (k : Int)) (voF x n k (stF x n (k : Int)) + 1) := if_pos h
theorem vo_f {x : WT} {n : Int} {k : Nat} (h : ¬ unN (x.2.2.2.1 (k : Int)) 1 6) : voF x n (k + 1) = voF x n k := if_neg h
theorem vo_r (x : WT) (n : Int) : ∀ (k : Nat) (j : Int), 0 ≤ voF x n k j ∧ voF x n k j ≤ k := by
  intro k
  induction k with
  | zero => intro j; exact ⟨Int.le_refl 0, Int.le_refl 0⟩
  | succ k ih =>
    intro j
    have i := ih j
    have i2 := ih (stF x n (k : Int))
    rcases Classical.em (unN (x.2.2.2.1 (k : Int)) 1 6) with h | h
    · rw [vo_t h]; unfold uI; split <;> omega
    · rw [vo_f h]; omega
noncomputable def shF (x : WT) (n : Int) : Int → Int := fun b => cSh (x.2.2.2.1 b) (x.2.2.2.2.2.2.1 b) (faF x n b) (voF x n x.2.2.1.toNat (stF x n b))
/-- light, by what glows -/
def gvT (g : GT) (b p : Int) : Int := g.2.2.2.1 b / 2 ^ (apt (g.2.2.1 b) p).toNat
def ltT (g : GT) (p : Int) : Int := g.2.1 p + sumN (fun x_ => gvT g x_ p) g.1.toNat
noncomputable def glS (x : WT) (n : Int) (g : GT) : GT := (x.2.2.1, boF x n, cpN (stF x n) g.2.2.1 x.2.2.1.toNat, cpN (shF x n) g.2.2.2.1 x.2.2.1.toNat, voF x n x.2.2.1.toNat)
def Gf (g : GT) : Prop := (0 ≤ g.1 ∧ g.1 ≤ 10) ∧ (∀ p : Int, 0 ≤ p → p < 16 → 0 ≤ g.2.1 p ∧ g.2.1 p ≤ 99) ∧ (∀ b : Int, 0 ≤ b → b < g.1 → (0 ≤ g.2.2.1 b ∧ g.2.2.1 b ≤ 15) ∧ 0 ≤ g.2.2.2.1 b ∧ g.2.2.2.1 b ≤ 297)
theorem glS_f {x : WT} (h : Wc x) {n : Int} (hn : 0 ≤ n) (g : GT) : Gf (glS x n g) := by
  have hm := h.many
  refine ⟨hm, fun p h0 h1 => ?_, fun b h0 h1 => ?_⟩
  · have q := h.bowl h0 h1
    have z := jmax_z 0 (x.2.1 p - n)
    show 0 ≤ jmax 0 (x.2.1 p - n) ∧ jmax 0 (x.2.1 p - n) ≤ 99
    omega
  · have h1 : b < x.2.2.1 := h1
    have q := h.being h0 (by omega)
    have z := jmin_z 999 (x.2.2.2.2.2.2.2.1 b + n)
    have e1 : (glS x n g).2.2.1 b = stF x n b := if_pos (by omega)
    have e2 : (glS x n g).2.2.2.1 b = shF x n b := if_pos (by omega)
    rw [e1, e2]
    exact ⟨cSt_r hn ⟨by omega, by omega⟩ ⟨by omega, by omega⟩, cSh_r ⟨by omega, by omega⟩ (by show 0 ≤ jmin 999 (x.2.2.2.2.2.2.2.1 b + n); omega)⟩
theorem gvT_r {g : GT} (h : Gf g) {b : Int} (p : Int) (h0 : 0 ≤ b) (h1 : b < g.1) : 0 ≤ gvT g b p ∧ gvT g b p ≤ 297 := div2_r _ (h.2.2 b h0 h1).2
theorem gvS_r {g : GT} (h : Gf g) (p : Int) (n : Nat) (hn : (n : Int) ≤ g.1) : 0 ≤ sumN (fun x_ => gvT g x_ p) n ∧ sumN (fun x_ => gvT g x_ p) n ≤ 2970 := by
  have k := sumN_le (f := fun x_ => gvT g x_ p) (c := 297) (by omega) n (fun k h0 hk => gvT_r h p h0 (by omega))
  have := h.1
  omega
theorem ltT_r {g : GT} (h : Gf g) {p : Int} (h0 : 0 ≤ p) (h1 : p < 16) : 0 ≤ ltT g p ∧ ltT g p ≤ 3069 := by
  have a := h.2.1 p h0 h1
  have b := gvS_r h p g.1.toNat (by have := h.1; omega)
  unfold ltT
  omega
noncomputable def cGv (x : WT) (n b p : Int) : Int := shF x n b / 2 ^ (apt (stF x n b) p).toNat
noncomputable def cLt (x : WT) (n p : Int) : Int := boF x n p + sumN (fun x_ => cGv x n x_ p) x.2.2.1.toNat
theorem gvT_S (x : WT) (n : Int) (g : GT) (b p : Int) (h0 : 0 ≤ b) (h1 : b < x.2.2.1) : gvT (glS x n g) b p = cGv x n b p := by
  have e1 : (glS x n g).2.2.1 b = stF x n b := if_pos (by omega)
  have e2 : (glS x n g).2.2.2.1 b = shF x n b := if_pos (by omega)
  unfold gvT cGv
  rw [e1, e2]
theorem ltT_S (x : WT) (n : Int) (g : GT) (p : Int) : ltT (glS x n g) p = cLt x n p := by
  unfold ltT cLt
  have e : sumN (fun x_ => gvT (glS x n g) x_ p) (glS x n g).1.toNat = sumN (fun x_ => cGv x n x_ p) x.2.2.1.toNat := by
    show sumN _ x.2.2.1.toNat = _
    exact sumN_c _ (fun k h0 hk => gvT_S x n g k p h0 (by omega))
  rw [e]
  rfl
theorem cLt_r {x : WT} (h : Wc x) {n p : Int} (hn : 0 ≤ n) (h0 : 0 ≤ p) (h1 : p < 16) : 0 ≤ cLt x n p ∧ cLt x n p ≤ 3069 := by
  have q := ltT_r (glS_f h hn (0, fun _ => 0, fun _ => 0, fun _ => 0, fun _ => 0)) h0 h1
  rw [ltT_S] at q
  exact q

def brN (f : Int → Int) : Nat → Int
  | 0 => 0
  | n + 1 => if f (brN f n) < f ((n + 1 : Nat) : Int) then ((n + 1 : Nat) : Int) else brN f n
theorem brN_r (f : Int → Int) : ∀ n : Nat, 0 ≤ brN f n ∧ brN f n ≤ n := by
  intro n
  induction n with
  | zero => exact ⟨Int.le_refl 0, Int.le_refl 0⟩
  | succ n ih => unfold brN; split <;> omega
/-- a place of a set told by bits -/
noncomputable def btI (P : Prop) (k : Int) : Int32 := @ite Int32 P (Classical.propDecidable P) (jI 1 <<< (jI k &&& 31)) (jI 0)
theorem btI_t {P : Prop} {k : Int} (h : P) : btI P k = jI 1 <<< (jI k &&& 31) := if_pos h
theorem btI_f {P : Prop} {k : Int} (h : ¬ P) : btI P k = jI 0 := if_neg h
theorem btI_c {P Q : Prop} (k : Int) (h : P ↔ Q) : btI P k = btI Q k := by
  rcases Classical.em P with q | q
  · rw [btI_t q, btI_t (h.mp q)]
  · rw [btI_f q, btI_f (fun z => q (h.mpr z))]
theorem or_z (x : Int32) : x ||| jI 0 = x := by
  have e : jI 0 = 0 := jI_0
  rw [e]
  exact Int32.or_zero
noncomputable def stN (P : Int → Prop) : Nat → Int32
  | 0 => jI 0
  | n + 1 => stN P n ||| btI (P (n : Int)) (n : Int)
theorem stN_c {P Q : Int → Prop} : ∀ n : Nat, (∀ k : Int, 0 ≤ k → k < n → (P k ↔ Q k)) → stN P n = stN Q n := by
  intro n
  induction n with
  | zero => intro _; rfl
  | succ n ih =>
    intro h
    show stN P n ||| _ = stN Q n ||| _
    rw [ih (fun k h0 hk => h k h0 (by omega)), btI_c (n : Int) (h (n : Int) (by omega) (by omega))]
theorem Wf.setB {w : Int → Int} (h : Wf w) {b k x : Int} (hb : (0 ≤ b ∧ b < 10) ∧ 0 ≤ k ∧ k < 5) (hx : 0 ≤ x ∧ (k = 0 → x ≤ 6) ∧ (k = 1 → x ≤ 15) ∧ (k = 2 → x ≤ 15) ∧ (k = 3 → x ≤ 99) ∧ (k = 4 → x ≤ 999)) : Wf (uI w (19 + 5 * b + k) x) := by
  obtain ⟨h0, h1, h2, h3, h4, h5⟩ := h
  refine ⟨?_, ?_, ?_, ?_, ?_, ?_⟩
  · rw [uI_n _ _ (by omega)]; exact h0
  · rw [uI_n _ _ (by omega)]; exact h1
  · rw [uI_n _ _ (by omega)]; exact h2
  · intro p q0 q1
    rw [uI_n _ _ (by omega)]; exact h3 p q0 q1
  · intro c q0 q1
    have q := h4 c q0 q1
    unfold fB at q ⊢
    unfold uI
    (repeat' split) <;> omega
  · intro t q0 q1
    have q := h5 t q0 q1
    unfold fT at q ⊢
    rw [uI_n _ _ (by omega), uI_n _ _ (by omega), uI_n _ _ (by omega)]; exact q
theorem Wf.setP {w : Int → Int} (h : Wf w) {p x : Int} (hp : 0 ≤ p ∧ p < 16) (hx : 0 ≤ x ∧ x ≤ 99) : Wf (uI w (3 + p) x) := by
  obtain ⟨h0, h1, h2, h3, h4, h5⟩ := h
  refine ⟨?_, ?_, ?_, ?_, ?_, ?_⟩
  · rw [uI_n _ _ (by omega)]; exact h0
  · rw [uI_n _ _ (by omega)]; exact h1
  · rw [uI_n _ _ (by omega)]; exact h2
  · intro c q0 q1
    have q := h3 c q0 q1
    unfold uI
    split <;> omega
  · intro b q0 q1
    have q := h4 b q0 q1
    unfold fB at q ⊢
    rw [uI_n _ _ (by omega), uI_n _ _ (by omega), uI_n _ _ (by omega), uI_n _ _ (by omega), uI_n _ _ (by omega)]; exact q
  · intro t q0 q1
    have q := h5 t q0 q1
    unfold fT at q ⊢
    rw [uI_n _ _ (by omega), uI_n _ _ (by omega), uI_n _ _ (by omega)]; exact q
theorem Wf.set0 {w : Int → Int} (h : Wf w) {x : Int} (hx : 0 ≤ x ∧ x ≤ 20000) : Wf (uI w 0 x) := by
  obtain ⟨h0, h1, h2, h3, h4, h5⟩ := h
  refine ⟨?_, ?_, ?_, ?_, ?_, ?_⟩
  · rw [uI_s]; exact hx
  · rw [uI_n _ _ (by omega)]; exact h1
  · rw [uI_n _ _ (by omega)]; exact h2
  · intro p q0 q1
    rw [uI_n _ _ (by omega)]; exact h3 p q0 q1
  · intro b q0 q1
    have q := h4 b q0 q1
    unfold fB at q ⊢
    rw [uI_n _ _ (by omega), uI_n _ _ (by omega), uI_n _ _ (by omega), uI_n _ _ (by omega), uI_n _ _ (by omega)]; exact q
  · intro t q0 q1
    have q := h5 t q0 q1
    unfold fT at q ⊢
    rw [uI_n _ _ (by omega), uI_n _ _ (by omega), uI_n _ _ (by omega)]; exact q
/-- a world with one being more, one task more -/
def addBx (w : Int → Int) (k p g m f : Int) : Int → Int := uI (uI (uI (uI (uI (uI w (19 + 5 * w 1 + 0) k) (19 + 5 * w 1 + 1) p) (19 + 5 * w 1 + 2) g) (19 + 5 * w 1 + 3) m) (19 + 5 * w 1 + 4) f) 1 (w 1 + 1)
def addTx (w : Int → Int) (p h n : Int) : Int → Int := uI (uI (uI (uI w (69 + 3 * w 2 + 0) p) (69 + 3 * w 2 + 1) h) (69 + 3 * w 2 + 2) n) 2 (w 2 + 1)
theorem Wf.setT {w : Int → Int} (h : Wf w) {b k x : Int} (hb : (0 ≤ b ∧ b < 8) ∧ 0 ≤ k ∧ k < 3) (hx : 0 ≤ x ∧ (k = 0 → x ≤ 15) ∧ (k = 1 → x ≤ 99) ∧ (k = 2 → x ≤ 99)) : Wf (uI w (69 + 3 * b + k) x) := by
  obtain ⟨h0, h1, h2, h3, h4, h5⟩ := h
  refine ⟨?_, ?_, ?_, ?_, ?_, ?_⟩
  · rw [uI_n _ _ (by omega)]; exact h0
  · rw [uI_n _ _ (by omega)]; exact h1
  · rw [uI_n _ _ (by omega)]; exact h2
  · intro p q0 q1
    rw [uI_n _ _ (by omega)]; exact h3 p q0 q1
  · intro c q0 q1
    have q := h4 c q0 q1
    unfold fB at q ⊢
    rw [uI_n _ _ (by omega), uI_n _ _ (by omega), uI_n _ _ (by omega), uI_n _ _ (by omega), uI_n _ _ (by omega)]; exact q
  · intro t q0 q1
    have q := h5 t q0 q1
    unfold fT at q ⊢
    unfold uI
    (repeat' split) <;> omega
theorem Wf.set1 {w : Int → Int} (h : Wf w) {x : Int} (hx : 0 ≤ x ∧ x ≤ 10) : Wf (uI w 1 x) := by
  obtain ⟨h0, h1, h2, h3, h4, h5⟩ := h
  refine ⟨?_, ?_, ?_, ?_, ?_, ?_⟩
  · rw [uI_n _ _ (by omega)]; exact h0
  · rw [uI_s]; exact hx
  · rw [uI_n _ _ (by omega)]; exact h2
  · intro p q0 q1
    rw [uI_n _ _ (by omega)]; exact h3 p q0 q1
  · intro b q0 q1
    have q := h4 b q0 q1
    unfold fB at q ⊢
    rw [uI_n _ _ (by omega), uI_n _ _ (by omega), uI_n _ _ (by omega), uI_n _ _ (by omega), uI_n _ _ (by omega)]; exact q
  · intro t q0 q1
    have q := h5 t q0 q1
    unfold fT at q ⊢
    rw [uI_n _ _ (by omega), uI_n _ _ (by omega), uI_n _ _ (by omega)]; exact q
theorem Wf.set2 {w : Int → Int} (h : Wf w) {x : Int} (hx : 0 ≤ x ∧ x ≤ 8) : Wf (uI w 2 x) := by
  obtain ⟨h0, h1, h2, h3, h4, h5⟩ := h
  refine ⟨?_, ?_, ?_, ?_, ?_, ?_⟩
  · rw [uI_n _ _ (by omega)]; exact h0
  · rw [uI_n _ _ (by omega)]; exact h1
  · rw [uI_s]; exact hx
  · intro p q0 q1
    rw [uI_n _ _ (by omega)]; exact h3 p q0 q1
  · intro b q0 q1
    have q := h4 b q0 q1
    unfold fB at q ⊢
    rw [uI_n _ _ (by omega), uI_n _ _ (by omega), uI_n _ _ (by omega), uI_n _ _ (by omega), uI_n _ _ (by omega)]; exact q
  · intro t q0 q1
    have q := h5 t q0 q1
    unfold fT at q ⊢
    rw [uI_n _ _ (by omega), uI_n _ _ (by omega), uI_n _ _ (by omega)]; exact q
theorem Wf.addB {w : Int → Int} (h : Wf w) {k p g m f : Int} (hn : w 1 < 10) (hx : (0 ≤ k ∧ k ≤ 6) ∧ (0 ≤ p ∧ p ≤ 15) ∧ (0 ≤ g ∧ g ≤ 15) ∧ (0 ≤ m ∧ m ≤ 99) ∧ 0 ≤ f ∧ f ≤ 999) : Wf (addBx w k p g m f) := by
  have h1 := h.many
  exact (((((h.setB (by omega) (by omega)).setB (by omega) (by omega)).setB (by omega) (by omega)).setB (by omega) (by omega)).setB (by omega) (by omega)).set1 (by omega)
theorem Wf.addT {w : Int → Int} (h : Wf w) {p hh n : Int} (hn : w 2 < 8) (hx : (0 ≤ p ∧ p ≤ 15) ∧ (0 ≤ hh ∧ hh ≤ 99) ∧ 0 ≤ n ∧ n ≤ 99) : Wf (addTx w p hh n) := by
  have h1 := h.tasks
  exact (((h.setT (by omega) (by omega)).setT (by omega) (by omega)).setT (by omega) (by omega)).set2 (by omega)
/-- one hour -/
def twd (x y : Int) : Int := if x / 4 ≠ y / 4 then (if x / 4 < y / 4 then x + 4 else x - 4) else if x = y then x else if x < y then x + 1 else x - 1
theorem twd_r {x y : Int} (hx : 0 ≤ x ∧ x ≤ 15) (hy : 0 ≤ y ∧ y ≤ 15) : 0 ≤ twd x y ∧ twd x y ≤ 15 := by
  unfold twd
  (repeat' split) <;> omega
def hrB (w : Int → Int) : Nat → (Int → Int)
  | 0 => w
  | n + 1 => uI (uI (hrB w n) (19 + 5 * (n : Int) + 1) (twd (fB (hrB w n) (n : Int) 1) (fB (hrB w n) (n : Int) 2))) (19 + 5 * (n : Int) + 4) (fB (hrB w n) (n : Int) 4 + (if fB (hrB w n) (n : Int) 4 < 999 then 1 else 0))
def hrP (w : Int → Int) : Nat → (Int → Int)
  | 0 => w
  | n + 1 => uI (hrP w n) (3 + (n : Int)) (hrP w n (3 + (n : Int)) - (if 0 < hrP w n (3 + (n : Int)) then 1 else 0))
def sHr (w : Int → Int) : Int → Int := uI (hrP (hrB w (w 1).toNat) 16) 0 (w 0 + 1)
theorem Wf.hrB {w : Int → Int} (h : Wf w) : ∀ n : Nat, n ≤ 10 → Wf (hrB w n) ∧ hrB w n 0 = w 0 ∧ hrB w n 1 = w 1 ∧ hrB w n 2 = w 2 := by
  intro n
  induction n with
  | zero => intro _; exact ⟨h, rfl, rfl, rfl⟩
  | succ n ih =>
    intro hn
    obtain ⟨i1, i2, i3, i4⟩ := ih (by omega)
    have q := i1.being (b := (n : Int)) (by omega) (by omega)
    have q2 := twd_r (x := fB (Jvm.Pilot.@@N@@.hrB w n) (n : Int) 1) (y := fB (Jvm.Pilot.@@N@@.hrB w n) (n : Int) 2) (by omega) (by omega)
    refine ⟨(i1.setB (by omega) (by omega)).setB (by omega) (by split <;> omega), ?_, ?_, ?_⟩
    · show uI (uI _ _ _) _ _ 0 = _
      rw [uI_n _ _ (by omega), uI_n _ _ (by omega)]; exact i2
    · show uI (uI _ _ _) _ _ 1 = _
      rw [uI_n _ _ (by omega), uI_n _ _ (by omega)]; exact i3
    · show uI (uI _ _ _) _ _ 2 = _
      rw [uI_n _ _ (by omega), uI_n _ _ (by omega)]; exact i4
theorem Wf.hrP {w : Int → Int} (h : Wf w) : ∀ n : Nat, n ≤ 16 → Wf (hrP w n) ∧ hrP w n 0 = w 0 ∧ hrP w n 1 = w 1 ∧ hrP w n 2 = w 2 := by
  intro n
  induction n with
  | zero => intro _; exact ⟨h, rfl, rfl, rfl⟩
  | succ n ih =>
    intro hn
    obtain ⟨i1, i2, i3, i4⟩ := ih (by omega)
    have q := i1.bowl (p := (n : Int)) (by omega) (by omega)
    refine ⟨i1.setP (by omega) (by split <;> omega), ?_, ?_, ?_⟩
    · show uI _ _ _ 0 = _
      rw [uI_n _ _ (by omega)]; exact i2
    · show uI _ _ _ 1 = _
      rw [uI_n _ _ (by omega)]; exact i3
    · show uI _ _ _ 2 = _
      rw [uI_n _ _ (by omega)]; exact i4
theorem Wf.sHr {w : Int → Int} (h : Wf w) (h0 : w 0 < 20000) : Wf (sHr w) ∧ sHr w 0 = w 0 + 1 ∧ sHr w 1 = w 1 ∧ sHr w 2 = w 2 := by
  have m := h.many
  have h1 := h.hour
  obtain ⟨i1, i2, i3, i4⟩ := h.hrB (w 1).toNat (by omega)
  obtain ⟨j1, j2, j3, j4⟩ := i1.hrP 16 (by omega)
  refine ⟨j1.set0 (by omega), uI_s _ _ _, ?_, ?_⟩
  · show uI _ _ _ 1 = _
    rw [uI_n _ _ (by omega), j3, i3]
  · show uI _ _ _ 2 = _
    rw [uI_n _ _ (by omega), j4, i4]
def hrs (w : Int → Int) : Nat → (Int → Int)
  | 0 => w
  | n + 1 => sHr (hrs w n)
theorem Wf.hrs {w : Int → Int} (h : Wf w) (n : Nat) (h0 : w 0 + n ≤ 20000) : Wf (hrs w n) ∧ hrs w n 0 = w 0 + n ∧ hrs w n 1 = w 1 ∧ hrs w n 2 = w 2 := by
  induction n with
  | zero => exact ⟨h, by show w 0 = w 0 + 0; omega, rfl, rfl⟩
  | succ n ih =>
    obtain ⟨i1, i2, i3, i4⟩ := ih (by omega)
    obtain ⟨j1, j2, j3, j4⟩ := i1.sHr (by omega)
    exact ⟨j1, by show Jvm.Pilot.@@N@@.sHr _ 0 = _; rw [j2, i2]; omega, by show Jvm.Pilot.@@N@@.sHr _ 1 = _; rw [j3, i3], by show Jvm.Pilot.@@N@@.sHr _ 2 = _; rw [j4, i4]⟩
/-- tasks in the dark; what is done ahead -/
def drk (w : Int → Int) (t : Int) : Prop := sLt w (fT w t 0) < fT w t 2
noncomputable def dnI (w : Int → Int) (x : Int32) : Nat → Int32
  | 0 => x
  | t + 1 => dnI w x t ||| btI (fT w (t : Int) 1 = w 0 ∧ ¬ drk w (t : Int)) (t : Int)
noncomputable def dnO (w : Int → Int) : Nat → Int32
  | 0 => jI 0
  | n + 1 => dnI (hrs w n) (dnO w n) (w 2).toNat
noncomputable def sDn (w : Int → Int) : Int32 := dnO w 101

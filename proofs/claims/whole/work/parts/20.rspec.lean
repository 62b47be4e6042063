/-! the reference's state and what its methods tell, over whole numbers -/
def wR (cI cL : ClassId) (a : Nat → Nat) (w kp bf ah : Int → Int) (ik : Int) (fd sp lt tp : Int → Int) (tn he ft vl : Int) (bt lg : Int → Int) (ce bw : Int → Int64) : va_W :=
  [(a 0, .inr (9, [.ref (a 1), .ref (a 2), .ref (a 3), .ref (a 4), .int (jI ik), .ref (a 5), .ref (a 6), .ref (a 7), .ref (a 8), .int (jI tn), .int (jI he), .int (jI ft), .int (jI vl), .ref (a 9), .ref (a 10), .ref (a 11), .ref (a 12)])),
   (a 1, .inl (cI, 93, .inl (jA w))), (a 2, .inl (cI, 93, .inl (jA kp))), (a 3, .inl (cI, 93, .inl (jA bf))), (a 4, .inl (cI, 93, .inl (jA ah))), (a 5, .inl (cI, 7, .inl (jA fd))), (a 6, .inl (cI, 16, .inl (jA sp))), (a 7, .inl (cI, 16, .inl (jA lt))), (a 8, .inl (cI, 120, .inl (jA tp))),
   (a 9, .inl (cI, 4, .inl (jA bt))), (a 10, .inl (cI, 4, .inl (jA lg))), (a 11, .inl (cL, 160, .inr (.inl (jLA ce)))), (a 12, .inl (cL, 40, .inr (.inl (jLA bw))))]
/-- field k of being b; field k of task t -/
def fB (w : Int → Int) (b k : Int) : Int := w (19 + 5 * b + k)
def fT (w : Int → Int) (t k : Int) : Int := w (69 + 3 * t + k)
/-- what holds of a world's numbers -/
def Wf (w : Int → Int) : Prop := (0 ≤ w 0 ∧ w 0 ≤ 20000) ∧ (0 ≤ w 1 ∧ w 1 ≤ 10) ∧ (0 ≤ w 2 ∧ w 2 ≤ 8) ∧ (∀ p : Int, 0 ≤ p → p < 16 → 0 ≤ w (3 + p) ∧ w (3 + p) ≤ 99) ∧
  (∀ b : Int, 0 ≤ b → b < 10 → (0 ≤ fB w b 0 ∧ fB w b 0 ≤ 6) ∧ (0 ≤ fB w b 1 ∧ fB w b 1 ≤ 15) ∧ (0 ≤ fB w b 2 ∧ fB w b 2 ≤ 15) ∧ (0 ≤ fB w b 3 ∧ fB w b 3 ≤ 99) ∧ (0 ≤ fB w b 4 ∧ fB w b 4 ≤ 999)) ∧
  (∀ t : Int, 0 ≤ t → t < 8 → (0 ≤ fT w t 0 ∧ fT w t 0 ≤ 15) ∧ (0 ≤ fT w t 1 ∧ fT w t 1 ≤ 99) ∧ (0 ≤ fT w t 2 ∧ fT w t 2 ≤ 99))
theorem Wf.hour {w : Int → Int} (h : Wf w) : 0 ≤ w 0 ∧ w 0 ≤ 20000 := h.1
theorem Wf.many {w : Int → Int} (h : Wf w) : 0 ≤ w 1 ∧ w 1 ≤ 10 := h.2.1
theorem Wf.tasks {w : Int → Int} (h : Wf w) : 0 ≤ w 2 ∧ w 2 ≤ 8 := h.2.2.1
theorem Wf.bowl {w : Int → Int} (h : Wf w) {p : Int} (h0 : 0 ≤ p) (h1 : p < 16) : 0 ≤ w (3 + p) ∧ w (3 + p) ≤ 99 := h.2.2.2.1 p h0 h1
theorem Wf.being {w : Int → Int} (h : Wf w) {b : Int} (h0 : 0 ≤ b) (h1 : b < 10) : (0 ≤ fB w b 0 ∧ fB w b 0 ≤ 6) ∧ (0 ≤ fB w b 1 ∧ fB w b 1 ≤ 15) ∧ (0 ≤ fB w b 2 ∧ fB w b 2 ≤ 15) ∧ (0 ≤ fB w b 3 ∧ fB w b 3 ≤ 99) ∧ (0 ≤ fB w b 4 ∧ fB w b 4 ≤ 999) := h.2.2.2.2.1 b h0 h1
theorem Wf.task {w : Int → Int} (h : Wf w) {t : Int} (h0 : 0 ≤ t) (h1 : t < 8) : (0 ≤ fT w t 0 ∧ fT w t 0 ≤ 15) ∧ (0 ≤ fT w t 1 ∧ fT w t 1 ≤ 99) ∧ (0 ≤ fT w t 2 ∧ fT w t 2 ≤ 99) := h.2.2.2.2.2 t h0 h1
def sumN (f : Int → Int) : Nat → Int
  | 0 => 0
  | n + 1 => sumN f n + f (n : Int)
theorem sumN_s (f : Int → Int) (n : Nat) : sumN f (n + 1) = sumN f n + f (n : Int) := rfl
theorem sumN_le {f : Int → Int} {c : Int} (hc : 0 ≤ c) : ∀ n : Nat, (∀ k : Int, 0 ≤ k → k < n → 0 ≤ f k ∧ f k ≤ c) → 0 ≤ sumN f n ∧ sumN f n ≤ c * n := by
  intro n
  induction n with
  | zero => intro _; exact ⟨Int.le_refl 0, by simp [sumN]⟩
  | succ n ih =>
    intro h
    have h1 := ih (fun k h0 hk => h k h0 (by omega))
    have h2 := h (n : Int) (by omega) (by omega)
    rw [sumN_s]
    have e : c * ((n + 1 : Nat) : Int) = c * (n : Int) + c := by rw [Int.natCast_add, Int.mul_add]; simp
    rw [e]
    omega
theorem sumN_c {f g : Int → Int} : ∀ n : Nat, (∀ k : Int, 0 ≤ k → k < n → f k = g k) → sumN f n = sumN g n := by
  intro n
  induction n with
  | zero => intro _; rfl
  | succ n ih =>
    intro h
    rw [sumN_s, sumN_s, ih (fun k h0 hk => h k h0 (by omega)), h (n : Int) (by omega) (by omega)]
/-- which kinds sing -/
def sg (k : Int) : Prop := k = 1 ∨ k = 4
/-- another of the first n beings, that sings, is where b is -/
def hrd (w : Int → Int) (b : Int) (n : Nat) : Prop := ∃ o : Int, 0 ≤ o ∧ o < n ∧ o ≠ b ∧ sg (fB w o 0) ∧ fB w o 1 = fB w b 1
def pln (m f : Int) : Int := if f < m then m - f else 0
noncomputable def sng (P : Prop) (x : Int) : Int := x + x / 2 * b2 P
noncomputable def shn (k m f : Int) (P : Prop) : Int := if k = 0 then pln m f else if k = 1 then sng P (pln m f) else if k = 2 then (if 6 ≤ f then 0 else pln m f) else if k = 3 then 3 * pln m f else if k = 4 then 2 * sng P (pln m f) else 0
noncomputable def sSh (w : Int → Int) (b : Int) : Int := shn (fB w b 0) (fB w b 3) (fB w b 4) (hrd w b (w 1).toNat)
def apt (a b : Int) : Int := jabs (a / 4 - b / 4) + jabs (a % 4 - b % 4)
noncomputable def sGv (w : Int → Int) (b p : Int) : Int := sSh w b / 2 ^ (apt (fB w b 1) p).toNat
noncomputable def sLt (w : Int → Int) (p : Int) : Int := w (3 + p) + sumN (fun b => sGv w b p) (w 1).toNat
noncomputable def sLtAll (w : Int → Int) : Int := sumN (sLt w) 16
theorem apt_r {a b : Int} (ha : 0 ≤ a ∧ a ≤ 15) (hb : 0 ≤ b ∧ b ≤ 15) : 0 ≤ apt a b ∧ apt a b ≤ 6 := by
  have h1 := jabs_z (a / 4 - b / 4)
  have h2 := jabs_z (a % 4 - b % 4)
  unfold apt
  omega
theorem pln_r {m f : Int} (hm : 0 ≤ m ∧ m ≤ 99) (hf : 0 ≤ f) : 0 ≤ pln m f ∧ pln m f ≤ 99 := by unfold pln; split <;> omega
theorem sng_r {P : Prop} {x : Int} (hx : 0 ≤ x ∧ x ≤ 99) : 0 ≤ sng P x ∧ sng P x ≤ 148 := by
  unfold sng
  rcases Classical.em P with h | h
  · rw [b2_t h]; omega
  · rw [b2_f h]; omega
theorem shn_r {k m f : Int} {P : Prop} (hm : 0 ≤ m ∧ m ≤ 99) (hf : 0 ≤ f) : 0 ≤ shn k m f P ∧ shn k m f P ≤ 297 := by
  have h1 := pln_r hm hf
  have h2 := sng_r (P := P) h1
  unfold shn
  (repeat' split) <;> omega
theorem sSh_r {w : Int → Int} (hw : Wf w) {b : Int} (h0 : 0 ≤ b) (h1 : b < 10) : 0 ≤ sSh w b ∧ sSh w b ≤ 297 := by
  have h := hw.being h0 h1
  exact shn_r ⟨by omega, by omega⟩ (by omega)
theorem div2_r {x : Int} (k : Nat) {c : Int} (h : 0 ≤ x ∧ x ≤ c) : 0 ≤ x / 2 ^ k ∧ x / 2 ^ k ≤ c := by
  have hp : (0 : Int) < 2 ^ k := Int.pow_pos (by omega)
  have h1 : x / 2 ^ k ≤ x := Int.ediv_le_self _ h.1
  exact ⟨Int.ediv_nonneg h.1 (by omega), by omega⟩
theorem sGv_r {w : Int → Int} (hw : Wf w) {b p : Int} (h0 : 0 ≤ b) (h1 : b < 10) : 0 ≤ sGv w b p ∧ sGv w b p ≤ 297 := div2_r _ (sSh_r hw h0 h1)
theorem sGvS_r {w : Int → Int} (hw : Wf w) (p : Int) (n : Nat) (hn : n ≤ 10) : 0 ≤ sumN (fun b => sGv w b p) n ∧ sumN (fun b => sGv w b p) n ≤ 2970 := by
  have h := sumN_le (f := fun b => sGv w b p) (c := 297) (by omega) n (fun k h0 hk => sGv_r hw h0 (by omega))
  omega
theorem sLt_r {w : Int → Int} (hw : Wf w) {p : Int} (h0 : 0 ≤ p) (h1 : p < 16) : 0 ≤ sLt w p ∧ sLt w p ≤ 3069 := by
  have h2 := hw.bowl h0 h1
  have h3 := hw.many
  have h4 := sGvS_r hw p (w 1).toNat (by omega)
  unfold sLt
  omega
theorem or_b2 (P Q : Prop) : jI (b2 P) ||| jI (b2 Q) = jI (b2 (P ∨ Q)) := by
  rcases Classical.em P with h | h <;> rcases Classical.em Q with h' | h'
  · rw [b2_t h, b2_t h', b2_t (Or.inl h)]; decide
  · rw [b2_t h, b2_f h', b2_t (Or.inl h)]; decide
  · rw [b2_f h, b2_t h', b2_t (Or.inr h')]; decide
  · rw [b2_f h, b2_f h', b2_f (by rintro (q | q); exact h q; exact h' q)]; decide

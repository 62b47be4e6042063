/-! a call on both sides -/
def J1 (w : Int → Int) (x : WT) : Prop := Rl w x ∧ Wf w ∧ Wc x ∧ w 0 ≤ 9999 ∧ ∀ b : Int, 0 ≤ b → b < w 1 → fB w b 0 ≤ 5
def J2 (f g : Int → Int) : Prop := ∀ k : Int, 0 ≤ k → k < 7 → f k = g k
theorem J2.u {f g : Int → Int} (h : J2 f g) (k : Int) (h0 : 0 ≤ k) (h1 : k < 7) : J2 (uI f k (f k + 1)) (uI g k (g k + 1)) := by
  intro j j0 j1
  unfold uI
  rw [h k h0 h1, h j j0 j1]
section
variable {w : Int → Int} {x : WT}
theorem J1.r0 (h : J1 w x) : Rl w (hoW x 0) := Rl_0 h.2.1 h.2.2.1 h.1
theorem J1.rn (h : J1 w x) {n : Int} (hn : 0 ≤ n ∧ n ≤ 100) : Rl (hrs w n.toNat) (hoW x n) := by
  have q := Rl_hrs h.2.1 h.2.2.1 h.1 n.toNat (by have := h.2.2.2.1; omega)
  rwa [Int.toNat_of_nonneg hn.1] at q
theorem J1.lt (h : J1 w x) {p : Int} (hp : 0 ≤ p ∧ p < 16) : cLt x 0 p = sLt w p := cLt_eq h.2.2.1 h.r0 hp.1 hp.2
theorem J1.be (h : J1 w x) {b : Int} (hb : 0 ≤ b ∧ b < w 1) : x.2.2.2.1 b = fB w b 0 ∧ x.2.2.2.2.1 b = fB w b 1 ∧ x.2.2.2.2.2.1 b = fB w b 2 ∧ x.2.2.2.2.2.2.1 b = fB w b 3 ∧ x.2.2.2.2.2.2.2.1 b = fB w b 4 := by
  obtain ⟨q1, q2, q3, q4, q5⟩ := h.1.2.2.1 b hb.1 hb.2
  have k5 := h.2.2.2.2 b hb.1 hb.2
  refine ⟨?_, q2, q3, q4, q5⟩
  unfold kR at q1
  split at q1 <;> omega
theorem J1.ta (h : J1 w x) {t : Int} (ht : 0 ≤ t ∧ t < w 2) : x.2.2.2.2.2.2.2.2.2.1 t = fT w t 0 ∧ x.2.2.2.2.2.2.2.2.2.2.1 t = fT w t 1 ∧ x.2.2.2.2.2.2.2.2.2.2.2 t = fT w t 2 := h.1.2.2.2 t ht.1 ht.2
theorem brN_cg {f g : Int → Int} : ∀ n : Nat, (∀ j : Int, 0 ≤ j → j ≤ n → f j = g j) → brN f n = brN g n := by
  intro n
  induction n with
  | zero => intro _; rfl
  | succ n ih =>
    intro h
    have i := ih (fun j j0 j1 => h j j0 (by omega))
    have b := brN_r g n
    show (if f (brN f n) < f ((n + 1 : Nat) : Int) then _ else _) = (if g (brN g n) < g ((n + 1 : Nat) : Int) then _ else _)
    rw [i, h (brN g n) b.1 (by omega), h ((n + 1 : Nat) : Int) (by omega) (by omega)]
theorem un_eq {a k : Int} (ha : 0 ≤ a ∧ a ≤ 5) (hk : 0 ≤ k ∧ k ≤ 5) : unN a k 6 ↔ (k = 0 ∨ a = k ∨ (a = 4 ∧ k = 1) ∨ (a = 5 ∧ k = 2)) := by
  rcases (show a = 0 ∨ a = 1 ∨ a = 2 ∨ a = 3 ∨ a = 4 ∨ a = 5 by omega) with rfl | rfl | rfl | rfl | rfl | rfl <;> rcases (show k = 0 ∨ k = 1 ∨ k = 2 ∨ k = 3 ∨ k = 4 ∨ k = 5 by omega) with rfl | rfl | rfl | rfl | rfl | rfl <;> simp [unN, abv]
end
theorem st_1 {fd fe : Int → Int} (hf : J2 fd fe) {t : Int} (ht : 0 ≤ t ∧ t ≤ 6) : fd t = sumN (fun x_ => if t = -1 ∨ t = x_ then fe x_ else 0) 7 := by
  have q := hf t ht.1 (by omega)
  rcases (show t = 0 ∨ t = 1 ∨ t = 2 ∨ t = 3 ∨ t = 4 ∨ t = 5 ∨ t = 6 by omega) with rfl | rfl | rfl | rfl | rfl | rfl | rfl <;> (simp [sumN]; exact q)
theorem st_2 {fd fe : Int → Int} (hf : J2 fd fe) {t : Int} (ht : t = -1) : sumN fd 7 = sumN (fun x_ => if t = -1 ∨ t = x_ then fe x_ else 0) 7 := by
  refine sumN_c 7 (fun k h0 h1 => ?_)
  rw [if_pos (Or.inl ht)]
  exact hf k h0 h1
theorem pu_light {w : Int → Int} {wd : WT} {fd fe : Int → Int} {p : Int} {rC rR : Int32} {fd2 : Int → Int} {gl2 : GT} {fe2 : Int → Int} (h : J1 w wd) (hf : J2 fd fe) (hC : (((0 ≤ p ∧ p ≤ 15)) ∧ rC = jI (cLt wd 0 p) ∧ fd2 = fd) ∨ ((¬ (0 ≤ p ∧ p ≤ 15)) ∧ rC = jI (-1000000001) ∧ fd2 = uI fd 0 (fd 0 + 1))) (hR : (((0 ≤ p ∧ p ≤ 15)) ∧ rR = jI (sLt w p) ∧ fe2 = fe) ∨ ((¬ (0 ≤ p ∧ p ≤ 15)) ∧ rR = jI (-1000000001) ∧ fe2 = uI fe 0 (fe 0 + 1))) : rC = rR ∧ J2 fd2 fe2 := by
  obtain ⟨⟨⟨e0, e1, e2⟩, -⟩, hw, hc, h9, -⟩ := id h
  have m1 := hw.many
  have m2 := hw.tasks
  rcases hC with ⟨c1, rfl, rfl⟩ | ⟨c1, rfl, rfl⟩
  · rcases hR with ⟨c2, rfl, rfl⟩ | ⟨c2, rfl, rfl⟩
    · exact ⟨congrArg jI (h.lt (by omega)), hf⟩
    · exfalso; omega
  · rcases hR with ⟨c2, rfl, rfl⟩ | ⟨c2, rfl, rfl⟩
    · exfalso; omega
    · exact ⟨rfl, hf.u 0 (by decide) (by decide)⟩
theorem pu_brightest {w : Int → Int} {wd : WT} {fd fe : Int → Int} {rC rR : Int32} {gl2 : GT} {li2 : Int → Int} (h : J1 w wd) (hf : J2 fd fe) (hC : ((True) ∧ rC = jI (brN (cLt wd 0) 15))) (hR : ((True) ∧ rR = jI (brN (sLt w) 15))) : rC = rR := by
  obtain ⟨⟨⟨e0, e1, e2⟩, -⟩, hw, hc, h9, -⟩ := id h
  have m1 := hw.many
  have m2 := hw.tasks
  rcases hC with ⟨c1, rfl⟩
  · rcases hR with ⟨c2, rfl⟩
    · exact congrArg jI (brN_cg 15 (fun k h0 h1 => h.lt ⟨h0, by omega⟩))
theorem pu_lit {w : Int → Int} {wd : WT} {fd fe : Int → Int} {v : Int} {rC rR : Int32} {fd2 : Int → Int} {gl2 : GT} {li2 : Int → Int} {fe2 : Int → Int} (h : J1 w wd) (hf : J2 fd fe) (hC : ((0 ≤ v ∧ v ≤ 9999) ∧ rC = stN (fun x_ => v ≤ cLt wd 0 x_) 16 ∧ fd2 = fd) ∨ ((¬ (0 ≤ v ∧ v ≤ 9999)) ∧ rC = jI (-1000000001) ∧ fd2 = uI fd 0 (fd 0 + 1))) (hR : ((0 ≤ v ∧ v ≤ 9999) ∧ rR = stN (fun x_ => v ≤ sLt w x_) 16 ∧ fe2 = fe) ∨ ((¬ (0 ≤ v ∧ v ≤ 9999)) ∧ rR = jI (-1000000001) ∧ fe2 = uI fe 0 (fe 0 + 1))) : rC = rR ∧ J2 fd2 fe2 := by
  obtain ⟨⟨⟨e0, e1, e2⟩, -⟩, hw, hc, h9, -⟩ := id h
  have m1 := hw.many
  have m2 := hw.tasks
  rcases hC with ⟨c1, rfl, rfl⟩ | ⟨c1, rfl, rfl⟩
  · rcases hR with ⟨c2, rfl, rfl⟩ | ⟨c2, rfl, rfl⟩
    · exact ⟨stN_c 16 (fun k h0 h1 => by rw [h.lt ⟨h0, by omega⟩]), hf⟩
    · exfalso; omega
  · rcases hR with ⟨c2, rfl, rfl⟩ | ⟨c2, rfl, rfl⟩
    · exfalso; omega
    · exact ⟨rfl, hf.u 0 (by decide) (by decide)⟩
theorem pu_of {w : Int → Int} {wd : WT} {fd fe : Int → Int} {z t : Int} {rC rR : Int32} {fd2 : Int → Int} {gl2 : GT} {fe2 : Int → Int} (h : J1 w wd) (hf : J2 fd fe) (hC : ((¬ ((0 ≤ z ∧ z < wd.2.2.1) ∧ 0 ≤ t ∧ t ≤ 6)) ∧ rC = jI (-1000000001) ∧ fd2 = uI fd 0 (fd 0 + 1)) ∨ ((((0 ≤ z ∧ z < wd.2.2.1) ∧ 0 ≤ t ∧ t ≤ 6) ∧ t = 0) ∧ rC = jI (wd.2.2.2.1 z) ∧ fd2 = fd) ∨ ((((0 ≤ z ∧ z < wd.2.2.1) ∧ 0 ≤ t ∧ t ≤ 6) ∧ t = 1) ∧ rC = jI (wd.2.2.2.2.1 z) ∧ fd2 = fd) ∨ ((((0 ≤ z ∧ z < wd.2.2.1) ∧ 0 ≤ t ∧ t ≤ 6) ∧ t = 2) ∧ rC = jI (wd.2.2.2.2.2.1 z) ∧ fd2 = fd) ∨ ((((0 ≤ z ∧ z < wd.2.2.1) ∧ 0 ≤ t ∧ t ≤ 6) ∧ t = 3) ∧ rC = jI (wd.2.2.2.2.2.2.1 z) ∧ fd2 = fd) ∨ ((((0 ≤ z ∧ z < wd.2.2.1) ∧ 0 ≤ t ∧ t ≤ 6) ∧ t = 4) ∧ rC = jI (wd.2.2.2.2.2.2.2.1 z) ∧ fd2 = fd) ∨ ((((0 ≤ z ∧ z < wd.2.2.1) ∧ 0 ≤ t ∧ t ≤ 6) ∧ t = 5) ∧ rC = jI (shF wd 0 z) ∧ fd2 = fd) ∨ ((((0 ≤ z ∧ z < wd.2.2.1) ∧ 0 ≤ t ∧ t ≤ 6) ∧ t = 6) ∧ rC = jI (apt (wd.2.2.2.2.1 z) (wd.2.2.2.2.2.1 z)) ∧ fd2 = fd)) (hR : ((¬ ((0 ≤ z ∧ z ≤ w 1 - 1) ∧ 0 ≤ t ∧ t ≤ 6)) ∧ rR = jI (-1000000001) ∧ fe2 = uI fe 0 (fe 0 + 1)) ∨ ((((0 ≤ z ∧ z ≤ w 1 - 1) ∧ 0 ≤ t ∧ t ≤ 6) ∧ t = 5) ∧ rR = jI (sSh w z) ∧ fe2 = fe) ∨ ((((0 ≤ z ∧ z ≤ w 1 - 1) ∧ 0 ≤ t ∧ t ≤ 6) ∧ t = 6) ∧ rR = jI (apt (fB w z 1) (fB w z 2)) ∧ fe2 = fe) ∨ ((((0 ≤ z ∧ z ≤ w 1 - 1) ∧ 0 ≤ t ∧ t ≤ 6) ∧ t < 5) ∧ rR = jI (fB w z t) ∧ fe2 = fe)) : rC = rR ∧ J2 fd2 fe2 := by
  obtain ⟨⟨⟨e0, e1, e2⟩, -⟩, hw, hc, h9, -⟩ := id h
  have m1 := hw.many
  have m2 := hw.tasks
  rcases hC with ⟨c1, rfl, rfl⟩ | ⟨c1, rfl, rfl⟩ | ⟨c1, rfl, rfl⟩ | ⟨c1, rfl, rfl⟩ | ⟨c1, rfl, rfl⟩ | ⟨c1, rfl, rfl⟩ | ⟨c1, rfl, rfl⟩ | ⟨c1, rfl, rfl⟩
  · rcases hR with ⟨c2, rfl, rfl⟩ | ⟨c2, rfl, rfl⟩ | ⟨c2, rfl, rfl⟩ | ⟨c2, rfl, rfl⟩
    · exact ⟨rfl, hf.u 0 (by decide) (by decide)⟩
    · exfalso; omega
    · exfalso; omega
    · exfalso; omega
  · rcases hR with ⟨c2, rfl, rfl⟩ | ⟨c2, rfl, rfl⟩ | ⟨c2, rfl, rfl⟩ | ⟨c2, rfl, rfl⟩
    · exfalso; omega
    · exfalso; omega
    · exfalso; omega
    · exact ⟨(by have ht : t = 0 := (by omega); subst ht; exact congrArg jI ((h.be (by omega)).1)), hf⟩
  · rcases hR with ⟨c2, rfl, rfl⟩ | ⟨c2, rfl, rfl⟩ | ⟨c2, rfl, rfl⟩ | ⟨c2, rfl, rfl⟩
    · exfalso; omega
    · exfalso; omega
    · exfalso; omega
    · exact ⟨(by have ht : t = 1 := (by omega); subst ht; exact congrArg jI ((h.be (by omega)).2.1)), hf⟩
  · rcases hR with ⟨c2, rfl, rfl⟩ | ⟨c2, rfl, rfl⟩ | ⟨c2, rfl, rfl⟩ | ⟨c2, rfl, rfl⟩
    · exfalso; omega
    · exfalso; omega
    · exfalso; omega
    · exact ⟨(by have ht : t = 2 := (by omega); subst ht; exact congrArg jI ((h.be (by omega)).2.2.1)), hf⟩
  · rcases hR with ⟨c2, rfl, rfl⟩ | ⟨c2, rfl, rfl⟩ | ⟨c2, rfl, rfl⟩ | ⟨c2, rfl, rfl⟩
    · exfalso; omega
    · exfalso; omega
    · exfalso; omega
    · exact ⟨(by have ht : t = 3 := (by omega); subst ht; exact congrArg jI ((h.be (by omega)).2.2.2.1)), hf⟩
  · rcases hR with ⟨c2, rfl, rfl⟩ | ⟨c2, rfl, rfl⟩ | ⟨c2, rfl, rfl⟩ | ⟨c2, rfl, rfl⟩
    · exfalso; omega
    · exfalso; omega
    · exfalso; omega
    · exact ⟨(by have ht : t = 4 := (by omega); subst ht; exact congrArg jI ((h.be (by omega)).2.2.2.2)), hf⟩
  · rcases hR with ⟨c2, rfl, rfl⟩ | ⟨c2, rfl, rfl⟩ | ⟨c2, rfl, rfl⟩ | ⟨c2, rfl, rfl⟩
    · exfalso; omega
    · exact ⟨congrArg jI (shF_eq hc h.r0 (by omega) (by omega)), hf⟩
    · exfalso; omega
    · exfalso; omega
  · rcases hR with ⟨c2, rfl, rfl⟩ | ⟨c2, rfl, rfl⟩ | ⟨c2, rfl, rfl⟩ | ⟨c2, rfl, rfl⟩
    · exfalso; omega
    · exfalso; omega
    · exact ⟨congrArg jI (by rw [(h.be (b := z) (by omega)).2.1, (h.be (b := z) (by omega)).2.2.1]), hf⟩
    · exfalso; omega
theorem pu_as {w : Int → Int} {wd : WT} {fd fe : Int → Int} {z k : Int} {rC rR : Int32} {fd2 : Int → Int} {fe2 : Int → Int} (h : J1 w wd) (hf : J2 fd fe) (hC : ((¬ ((0 ≤ z ∧ z < wd.2.2.1) ∧ 0 ≤ k ∧ k ≤ 5)) ∧ rC = jI (-1000000001) ∧ fd2 = uI fd 0 (fd 0 + 1)) ∨ ((((0 ≤ z ∧ z < wd.2.2.1) ∧ 0 ≤ k ∧ k ≤ 5) ∧ unN (wd.2.2.2.1 z) k 6) ∧ rC = jI (wd.2.2.2.2.2.2.1 z) ∧ fd2 = fd) ∨ ((((0 ≤ z ∧ z < wd.2.2.1) ∧ 0 ≤ k ∧ k ≤ 5) ∧ ¬ unN (wd.2.2.2.1 z) k 6) ∧ rC = jI (-1000000003) ∧ fd2 = uI fd 2 (fd 2 + 1))) (hR : ((¬ ((0 ≤ z ∧ z ≤ w 1 - 1) ∧ 0 ≤ k ∧ k ≤ 5)) ∧ rR = jI (-1000000001) ∧ fe2 = uI fe 0 (fe 0 + 1)) ∨ ((((0 ≤ z ∧ z ≤ w 1 - 1) ∧ 0 ≤ k ∧ k ≤ 5) ∧ (k = 0 ∨ fB w z 0 = k ∨ (fB w z 0 = 4 ∧ k = 1) ∨ (fB w z 0 = 5 ∧ k = 2))) ∧ rR = jI (fB w z 3) ∧ fe2 = fe) ∨ ((((0 ≤ z ∧ z ≤ w 1 - 1) ∧ 0 ≤ k ∧ k ≤ 5) ∧ ¬ (k = 0 ∨ fB w z 0 = k ∨ (fB w z 0 = 4 ∧ k = 1) ∨ (fB w z 0 = 5 ∧ k = 2))) ∧ rR = jI (-1000000003) ∧ fe2 = uI fe 2 (fe 2 + 1))) : rC = rR ∧ J2 fd2 fe2 := by
  obtain ⟨⟨⟨e0, e1, e2⟩, -⟩, hw, hc, h9, -⟩ := id h
  have m1 := hw.many
  have m2 := hw.tasks
  rcases hC with ⟨c1, rfl, rfl⟩ | ⟨c1, rfl, rfl⟩ | ⟨c1, rfl, rfl⟩
  · rcases hR with ⟨c2, rfl, rfl⟩ | ⟨c2, rfl, rfl⟩ | ⟨c2, rfl, rfl⟩
    · exact ⟨rfl, hf.u 0 (by decide) (by decide)⟩
    · exfalso; first | omega | (have b0 := (hw.being (b := z) (by omega) (by omega)).1; have q1 := (h.be (b := z) (by omega)).1; have q2 := h.2.2.2.2 z (by omega) (by omega); have q3 := un_eq (a := wd.2.2.2.1 z) (k := k) (by omega) (by omega); first | exact absurd (q3.mp c1.2) (by omega) | exact absurd (q3.mpr (by omega)) c1.2)
    · exfalso; first | omega | (have b0 := (hw.being (b := z) (by omega) (by omega)).1; have q1 := (h.be (b := z) (by omega)).1; have q2 := h.2.2.2.2 z (by omega) (by omega); have q3 := un_eq (a := wd.2.2.2.1 z) (k := k) (by omega) (by omega); first | exact absurd (q3.mp c1.2) (by omega) | exact absurd (q3.mpr (by omega)) c1.2)
  · rcases hR with ⟨c2, rfl, rfl⟩ | ⟨c2, rfl, rfl⟩ | ⟨c2, rfl, rfl⟩
    · exfalso; first | omega | (have b0 := (hw.being (b := z) (by omega) (by omega)).1; have q1 := (h.be (b := z) (by omega)).1; have q2 := h.2.2.2.2 z (by omega) (by omega); have q3 := un_eq (a := wd.2.2.2.1 z) (k := k) (by omega) (by omega); first | exact absurd (q3.mp c1.2) (by omega) | exact absurd (q3.mpr (by omega)) c1.2)
    · exact ⟨congrArg jI (h.be (by omega)).2.2.2.1, hf⟩
    · exfalso; first | omega | (have b0 := (hw.being (b := z) (by omega) (by omega)).1; have q1 := (h.be (b := z) (by omega)).1; have q2 := h.2.2.2.2 z (by omega) (by omega); have q3 := un_eq (a := wd.2.2.2.1 z) (k := k) (by omega) (by omega); first | exact absurd (q3.mp c1.2) (by omega) | exact absurd (q3.mpr (by omega)) c1.2)
  · rcases hR with ⟨c2, rfl, rfl⟩ | ⟨c2, rfl, rfl⟩ | ⟨c2, rfl, rfl⟩
    · exfalso; first | omega | (have b0 := (hw.being (b := z) (by omega) (by omega)).1; have q1 := (h.be (b := z) (by omega)).1; have q2 := h.2.2.2.2 z (by omega) (by omega); have q3 := un_eq (a := wd.2.2.2.1 z) (k := k) (by omega) (by omega); first | exact absurd (q3.mp c1.2) (by omega) | exact absurd (q3.mpr (by omega)) c1.2)
    · exfalso; first | omega | (have b0 := (hw.being (b := z) (by omega) (by omega)).1; have q1 := (h.be (b := z) (by omega)).1; have q2 := h.2.2.2.2 z (by omega) (by omega); have q3 := un_eq (a := wd.2.2.2.1 z) (k := k) (by omega) (by omega); first | exact absurd (q3.mp c1.2) (by omega) | exact absurd (q3.mpr (by omega)) c1.2)
    · exact ⟨rfl, hf.u 2 (by decide) (by decide)⟩
theorem pu_gives {w : Int → Int} {wd : WT} {fd fe : Int → Int} {z p : Int} {rC rR : Int32} {fd2 : Int → Int} {gl2 : GT} {fe2 : Int → Int} (h : J1 w wd) (hf : J2 fd fe) (hC : ((((0 ≤ z ∧ z < wd.2.2.1) ∧ (0 ≤ p ∧ p ≤ 15))) ∧ rC = jI (cGv wd 0 z p) ∧ fd2 = fd) ∨ ((¬ ((0 ≤ z ∧ z < wd.2.2.1) ∧ (0 ≤ p ∧ p ≤ 15))) ∧ rC = jI (-1000000001) ∧ fd2 = uI fd 0 (fd 0 + 1))) (hR : ((((0 ≤ z ∧ z ≤ w 1 - 1) ∧ (0 ≤ p ∧ p ≤ 15))) ∧ rR = jI (sGv w z p) ∧ fe2 = fe) ∨ ((¬ ((0 ≤ z ∧ z ≤ w 1 - 1) ∧ (0 ≤ p ∧ p ≤ 15))) ∧ rR = jI (-1000000001) ∧ fe2 = uI fe 0 (fe 0 + 1))) : rC = rR ∧ J2 fd2 fe2 := by
  obtain ⟨⟨⟨e0, e1, e2⟩, -⟩, hw, hc, h9, -⟩ := id h
  have m1 := hw.many
  have m2 := hw.tasks
  rcases hC with ⟨c1, rfl, rfl⟩ | ⟨c1, rfl, rfl⟩
  · rcases hR with ⟨c2, rfl, rfl⟩ | ⟨c2, rfl, rfl⟩
    · exact ⟨congrArg jI (cGv_eq hc h.r0 p (by omega) (by omega)), hf⟩
    · exfalso; omega
  · rcases hR with ⟨c2, rfl, rfl⟩ | ⟨c2, rfl, rfl⟩
    · exfalso; omega
    · exact ⟨rfl, hf.u 0 (by decide) (by decide)⟩
theorem pu_seen {w : Int → Int} {wd : WT} {fd fe : Int → Int} {p : Int} {rC rR : Int32} {fd2 : Int → Int} {gl2 : GT} {fe2 : Int → Int} (h : J1 w wd) (hf : J2 fd fe) (hC : ((¬ (0 ≤ p ∧ p ≤ 15)) ∧ rC = jI (-1000000001) ∧ fd2 = uI fd 0 (fd 0 + 1)) ∨ (((0 ≤ p ∧ p ≤ 15)) ∧ rC = stN (fun x_ => 0 < cGv wd 0 x_ p) wd.2.2.1.toNat ∧ fd2 = fd)) (hR : ((¬ (0 ≤ p ∧ p ≤ 15)) ∧ rR = jI (-1000000001) ∧ fe2 = uI fe 0 (fe 0 + 1)) ∨ (((0 ≤ p ∧ p ≤ 15)) ∧ rR = stN (fun x_ => 1 ≤ sGv w x_ p) (w 1).toNat ∧ fe2 = fe)) : rC = rR ∧ J2 fd2 fe2 := by
  obtain ⟨⟨⟨e0, e1, e2⟩, -⟩, hw, hc, h9, -⟩ := id h
  have m1 := hw.many
  have m2 := hw.tasks
  rcases hC with ⟨c1, rfl, rfl⟩ | ⟨c1, rfl, rfl⟩
  · rcases hR with ⟨c2, rfl, rfl⟩ | ⟨c2, rfl, rfl⟩
    · exact ⟨rfl, hf.u 0 (by decide) (by decide)⟩
    · exfalso; omega
  · rcases hR with ⟨c2, rfl, rfl⟩ | ⟨c2, rfl, rfl⟩
    · exfalso; omega
    · exact ⟨(by rw [e1]; exact stN_c _ (fun k h0 h1 => by rw [cGv_eq hc h.r0 p h0 (by omega)]; omega)), hf⟩
theorem pu_taskOf {w : Int → Int} {wd : WT} {fd fe : Int → Int} {t k : Int} {rC rR : Int32} {fd2 : Int → Int} {gl2 : GT} {fe2 : Int → Int} {ah2 : Int → Int} (h : J1 w wd) (hf : J2 fd fe) (hC : ((¬ ((0 ≤ t ∧ t < wd.2.2.2.2.2.2.2.2.1) ∧ 0 ≤ k ∧ k ≤ 4)) ∧ rC = jI (-1000000001) ∧ fd2 = uI fd 0 (fd 0 + 1)) ∨ ((((0 ≤ t ∧ t < wd.2.2.2.2.2.2.2.2.1) ∧ 0 ≤ k ∧ k ≤ 4) ∧ k = 0) ∧ rC = jI (wd.2.2.2.2.2.2.2.2.2.1 t) ∧ fd2 = fd) ∨ ((((0 ≤ t ∧ t < wd.2.2.2.2.2.2.2.2.1) ∧ 0 ≤ k ∧ k ≤ 4) ∧ k = 1) ∧ rC = jI (wd.2.2.2.2.2.2.2.2.2.2.1 t) ∧ fd2 = fd) ∨ ((((0 ≤ t ∧ t < wd.2.2.2.2.2.2.2.2.1) ∧ 0 ≤ k ∧ k ≤ 4) ∧ k = 2) ∧ rC = jI (wd.2.2.2.2.2.2.2.2.2.2.2 t) ∧ fd2 = fd) ∨ ((((0 ≤ t ∧ t < wd.2.2.2.2.2.2.2.2.1) ∧ 0 ≤ k ∧ k ≤ 4) ∧ k = 3) ∧ rC = jI (b2 (cLt wd 0 (wd.2.2.2.2.2.2.2.2.2.1 t) < wd.2.2.2.2.2.2.2.2.2.2.2 t)) ∧ fd2 = fd) ∨ ((((0 ≤ t ∧ t < wd.2.2.2.2.2.2.2.2.1) ∧ 0 ≤ k ∧ k ≤ 4) ∧ k = 4) ∧ rC = jI (b2 (cDn wd t)) ∧ fd2 = fd)) (hR : ((¬ ((0 ≤ t ∧ t ≤ w 2 - 1) ∧ 0 ≤ k ∧ k ≤ 4)) ∧ rR = jI (-1000000001) ∧ fe2 = uI fe 0 (fe 0 + 1)) ∨ ((((0 ≤ t ∧ t ≤ w 2 - 1) ∧ 0 ≤ k ∧ k ≤ 4) ∧ k < 3) ∧ rR = jI (fT w t k) ∧ fe2 = fe) ∨ ((((0 ≤ t ∧ t ≤ w 2 - 1) ∧ 0 ≤ k ∧ k ≤ 4) ∧ k = 3) ∧ rR = jI (b2 (drk w t)) ∧ fe2 = fe) ∨ ((((0 ≤ t ∧ t ≤ w 2 - 1) ∧ 0 ≤ k ∧ k ≤ 4) ∧ k = 4) ∧ rR = (sDn w >>> (jI t &&& 31)) &&& jI 1 ∧ fe2 = fe)) : rC = rR ∧ J2 fd2 fe2 := by
  obtain ⟨⟨⟨e0, e1, e2⟩, -⟩, hw, hc, h9, -⟩ := id h
  have m1 := hw.many
  have m2 := hw.tasks
  rcases hC with ⟨c1, rfl, rfl⟩ | ⟨c1, rfl, rfl⟩ | ⟨c1, rfl, rfl⟩ | ⟨c1, rfl, rfl⟩ | ⟨c1, rfl, rfl⟩ | ⟨c1, rfl, rfl⟩
  · rcases hR with ⟨c2, rfl, rfl⟩ | ⟨c2, rfl, rfl⟩ | ⟨c2, rfl, rfl⟩ | ⟨c2, rfl, rfl⟩
    · exact ⟨rfl, hf.u 0 (by decide) (by decide)⟩
    · exfalso; omega
    · exfalso; omega
    · exfalso; omega
  · rcases hR with ⟨c2, rfl, rfl⟩ | ⟨c2, rfl, rfl⟩ | ⟨c2, rfl, rfl⟩ | ⟨c2, rfl, rfl⟩
    · exfalso; omega
    · exact ⟨(by have ht : k = 0 := (by omega); subst ht; exact congrArg jI (h.ta (by omega)).1), hf⟩
    · exfalso; omega
    · exfalso; omega
  · rcases hR with ⟨c2, rfl, rfl⟩ | ⟨c2, rfl, rfl⟩ | ⟨c2, rfl, rfl⟩ | ⟨c2, rfl, rfl⟩
    · exfalso; omega
    · exact ⟨(by have ht : k = 1 := (by omega); subst ht; exact congrArg jI (h.ta (by omega)).2.1), hf⟩
    · exfalso; omega
    · exfalso; omega
  · rcases hR with ⟨c2, rfl, rfl⟩ | ⟨c2, rfl, rfl⟩ | ⟨c2, rfl, rfl⟩ | ⟨c2, rfl, rfl⟩
    · exfalso; omega
    · exact ⟨(by have ht : k = 2 := (by omega); subst ht; exact congrArg jI (h.ta (by omega)).2.2), hf⟩
    · exfalso; omega
    · exfalso; omega
  · rcases hR with ⟨c2, rfl, rfl⟩ | ⟨c2, rfl, rfl⟩ | ⟨c2, rfl, rfl⟩ | ⟨c2, rfl, rfl⟩
    · exfalso; omega
    · exfalso; omega
    · exact ⟨(by have qt := h.ta (t := t) (by omega); have b0 := (hw.task (t := t) (by omega) (by omega)).1; rw [qt.1, qt.2.2, h.lt (by omega)]; rfl), hf⟩
    · exfalso; omega
  · rcases hR with ⟨c2, rfl, rfl⟩ | ⟨c2, rfl, rfl⟩ | ⟨c2, rfl, rfl⟩ | ⟨c2, rfl, rfl⟩
    · exfalso; omega
    · exfalso; omega
    · exfalso; omega
    · exact ⟨(by rw [bit01]; congr 1; have qb := dn_bit hw hc h.1 h9 (t := t) (by omega) (by omega); by_cases qc : cDn wd t; rw [b2_t qc, if_pos (qb.mpr qc)]; rw [b2_f qc, if_neg (fun z_ => qc (qb.mp z_))]), hf⟩
theorem pu_now {w : Int → Int} {wd : WT} {fd fe : Int → Int} {t : Int} {rC rR : Int32} {fd2 : Int → Int} {gl2 : GT} {li2 : Int → Int} {fe2 : Int → Int} {ah2 : Int → Int} (h : J1 w wd) (hf : J2 fd fe) (hC : ((t = 0) ∧ rC = jI wd.1 ∧ fd2 = fd) ∨ ((t = 1) ∧ rC = jI (sumN (shF wd 0) wd.2.2.1.toNat) ∧ fd2 = fd) ∨ ((t = 2) ∧ rC = jI (sumN wd.2.1 16) ∧ fd2 = fd) ∨ ((t = 3) ∧ rC = jI (sumN (cLt wd 0) 16) ∧ fd2 = fd) ∨ ((t = 4) ∧ rC = stN (fun x_ => wd.2.2.2.2.1 x_ = wd.2.2.2.2.2.1 x_) wd.2.2.1.toNat ∧ fd2 = fd) ∨ ((t = 5) ∧ rC = stN (cDn wd) wd.2.2.2.2.2.2.2.2.1.toNat ∧ fd2 = fd) ∨ ((t < 0 ∨ 5 < t) ∧ rC = jI (-1000000001) ∧ fd2 = uI fd 0 (fd 0 + 1))) (hR : ((t = 0) ∧ rR = jI (w 0) ∧ fe2 = fe) ∨ ((t = 1) ∧ rR = jI (sumN (sSh w) (w 1).toNat) ∧ fe2 = fe) ∨ ((t = 2) ∧ rR = jI (sumN (fun x_ => w (3 + x_)) 16) ∧ fe2 = fe) ∨ ((t = 3) ∧ rR = jI (sLtAll w) ∧ fe2 = fe) ∨ ((t = 4) ∧ rR = stN (fun x_ => fB w x_ 1 = fB w x_ 2) (w 1).toNat ∧ fe2 = fe) ∨ ((t = 5) ∧ rR = sDn w ∧ fe2 = fe) ∨ ((t < 0 ∨ 5 < t) ∧ rR = jI (-1000000001) ∧ fe2 = uI fe 0 (fe 0 + 1))) : rC = rR ∧ J2 fd2 fe2 := by
  obtain ⟨⟨⟨e0, e1, e2⟩, -⟩, hw, hc, h9, -⟩ := id h
  have m1 := hw.many
  have m2 := hw.tasks
  rcases hC with ⟨c1, rfl, rfl⟩ | ⟨c1, rfl, rfl⟩ | ⟨c1, rfl, rfl⟩ | ⟨c1, rfl, rfl⟩ | ⟨c1, rfl, rfl⟩ | ⟨c1, rfl, rfl⟩ | ⟨c1, rfl, rfl⟩
  · rcases hR with ⟨c2, rfl, rfl⟩ | ⟨c2, rfl, rfl⟩ | ⟨c2, rfl, rfl⟩ | ⟨c2, rfl, rfl⟩ | ⟨c2, rfl, rfl⟩ | ⟨c2, rfl, rfl⟩ | ⟨c2, rfl, rfl⟩
    · exact ⟨congrArg jI e0, hf⟩
    · exfalso; omega
    · exfalso; omega
    · exfalso; omega
    · exfalso; omega
    · exfalso; omega
    · exfalso; omega
  · rcases hR with ⟨c2, rfl, rfl⟩ | ⟨c2, rfl, rfl⟩ | ⟨c2, rfl, rfl⟩ | ⟨c2, rfl, rfl⟩ | ⟨c2, rfl, rfl⟩ | ⟨c2, rfl, rfl⟩ | ⟨c2, rfl, rfl⟩
    · exfalso; omega
    · exact ⟨congrArg jI (by rw [e1]; exact sumN_c _ (fun k h0 h1 => shF_eq hc h.r0 h0 (by omega))), hf⟩
    · exfalso; omega
    · exfalso; omega
    · exfalso; omega
    · exfalso; omega
    · exfalso; omega
  · rcases hR with ⟨c2, rfl, rfl⟩ | ⟨c2, rfl, rfl⟩ | ⟨c2, rfl, rfl⟩ | ⟨c2, rfl, rfl⟩ | ⟨c2, rfl, rfl⟩ | ⟨c2, rfl, rfl⟩ | ⟨c2, rfl, rfl⟩
    · exfalso; omega
    · exfalso; omega
    · exact ⟨congrArg jI (sumN_c 16 (fun k h0 h1 => h.1.2.1 k h0 (by omega))), hf⟩
    · exfalso; omega
    · exfalso; omega
    · exfalso; omega
    · exfalso; omega
  · rcases hR with ⟨c2, rfl, rfl⟩ | ⟨c2, rfl, rfl⟩ | ⟨c2, rfl, rfl⟩ | ⟨c2, rfl, rfl⟩ | ⟨c2, rfl, rfl⟩ | ⟨c2, rfl, rfl⟩ | ⟨c2, rfl, rfl⟩
    · exfalso; omega
    · exfalso; omega
    · exfalso; omega
    · exact ⟨congrArg jI (sumN_c 16 (fun k h0 h1 => h.lt ⟨h0, by omega⟩)), hf⟩
    · exfalso; omega
    · exfalso; omega
    · exfalso; omega
  · rcases hR with ⟨c2, rfl, rfl⟩ | ⟨c2, rfl, rfl⟩ | ⟨c2, rfl, rfl⟩ | ⟨c2, rfl, rfl⟩ | ⟨c2, rfl, rfl⟩ | ⟨c2, rfl, rfl⟩ | ⟨c2, rfl, rfl⟩
    · exfalso; omega
    · exfalso; omega
    · exfalso; omega
    · exfalso; omega
    · exact ⟨(by rw [e1]; exact stN_c _ (fun k h0 h1 => by have qb := h.be (b := k) ⟨h0, by omega⟩; rw [qb.2.1, qb.2.2.1])), hf⟩
    · exfalso; omega
    · exfalso; omega
  · rcases hR with ⟨c2, rfl, rfl⟩ | ⟨c2, rfl, rfl⟩ | ⟨c2, rfl, rfl⟩ | ⟨c2, rfl, rfl⟩ | ⟨c2, rfl, rfl⟩ | ⟨c2, rfl, rfl⟩ | ⟨c2, rfl, rfl⟩
    · exfalso; omega
    · exfalso; omega
    · exfalso; omega
    · exfalso; omega
    · exfalso; omega
    · exact ⟨(dn_eq hw hc h.1 h9).symm, hf⟩
    · exfalso; omega
  · rcases hR with ⟨c2, rfl, rfl⟩ | ⟨c2, rfl, rfl⟩ | ⟨c2, rfl, rfl⟩ | ⟨c2, rfl, rfl⟩ | ⟨c2, rfl, rfl⟩ | ⟨c2, rfl, rfl⟩ | ⟨c2, rfl, rfl⟩
    · exfalso; omega
    · exfalso; omega
    · exfalso; omega
    · exfalso; omega
    · exfalso; omega
    · exfalso; omega
    · exact ⟨rfl, hf.u 0 (by decide) (by decide)⟩
theorem pu_on {w : Int → Int} {wd : WT} {fd fe : Int → Int} {p n : Int} {rC rR : Int32} {fd2 : Int → Int} {gl2 : GT} {fe2 : Int → Int} {ah2 : Int → Int} (h : J1 w wd) (hf : J2 fd fe) (hC : ((¬ ((0 ≤ p ∧ p ≤ 15) ∧ 0 ≤ n ∧ n ≤ 100)) ∧ rC = jI (-1000000001) ∧ fd2 = uI fd 0 (fd 0 + 1)) ∨ ((((0 ≤ p ∧ p ≤ 15) ∧ 0 ≤ n ∧ n ≤ 100)) ∧ rC = jI (cLt wd n p) ∧ fd2 = fd)) (hR : ((¬ ((0 ≤ p ∧ p ≤ 15) ∧ 0 ≤ n ∧ n ≤ 100)) ∧ rR = jI (-1000000001) ∧ fe2 = uI fe 0 (fe 0 + 1)) ∨ ((((0 ≤ p ∧ p ≤ 15) ∧ 0 ≤ n ∧ n ≤ 100)) ∧ rR = jI (sLt (hrs w n.toNat) p) ∧ fe2 = fe)) : rC = rR ∧ J2 fd2 fe2 := by
  obtain ⟨⟨⟨e0, e1, e2⟩, -⟩, hw, hc, h9, -⟩ := id h
  have m1 := hw.many
  have m2 := hw.tasks
  rcases hC with ⟨c1, rfl, rfl⟩ | ⟨c1, rfl, rfl⟩
  · rcases hR with ⟨c2, rfl, rfl⟩ | ⟨c2, rfl, rfl⟩
    · exact ⟨rfl, hf.u 0 (by decide) (by decide)⟩
    · exfalso; omega
  · rcases hR with ⟨c2, rfl, rfl⟩ | ⟨c2, rfl, rfl⟩
    · exfalso; omega
    · exact ⟨congrArg jI (cLt_eq hc (h.rn (by omega)) (by omega) (by omega)), hf⟩
theorem pu_dark {w : Int → Int} {wd : WT} {fd fe : Int → Int} {rC rR : Int32} {fd2 : Int → Int} {gl2 : GT} {fe2 : Int → Int} {ah2 : Int → Int} (h : J1 w wd) (hf : J2 fd fe) (hC : ((0 ≤ ckN wd wd.2.2.2.2.2.2.2.2.1.toNat) ∧ rC = jI (ckN wd wd.2.2.2.2.2.2.2.2.1.toNat) ∧ fd2 = fd) ∨ ((ckN wd wd.2.2.2.2.2.2.2.2.1.toNat < 0) ∧ rC = jI (-1000000004) ∧ fd2 = uI fd 3 (fd 3 + 1))) (hR : ((0 ≤ dkN w (w 2).toNat) ∧ rR = jI (dkN w (w 2).toNat) ∧ fe2 = fe) ∨ ((dkN w (w 2).toNat < 0) ∧ rR = jI (-1000000004) ∧ fe2 = uI fe 3 (fe 3 + 1))) : rC = rR ∧ J2 fd2 fe2 := by
  obtain ⟨⟨⟨e0, e1, e2⟩, -⟩, hw, hc, h9, -⟩ := id h
  have m1 := hw.many
  have m2 := hw.tasks
  have qd := dark_eq hw hc h.1 h9
  rcases hC with ⟨c1, rfl, rfl⟩ | ⟨c1, rfl, rfl⟩
  · rcases hR with ⟨c2, rfl, rfl⟩ | ⟨c2, rfl, rfl⟩
    · exact ⟨congrArg jI (dark_eq hw hc h.1 h9).symm, hf⟩
    · exfalso; omega
  · rcases hR with ⟨c2, rfl, rfl⟩ | ⟨c2, rfl, rfl⟩
    · exfalso; omega
    · exact ⟨rfl, hf.u 3 (by decide) (by decide)⟩
theorem pu_out {w : Int → Int} {wd : WT} {fd fe : Int → Int} {rC rR : Int32} {fd2 : Int → Int} {gl2 : GT} {fe2 : Int → Int} {ah2 : Int → Int} (h : J1 w wd) (hf : J2 fd fe) (hC : ((lstN (fun q_ : Nat => cOut wd (q_ : Int)) 101 0 ≤ 100) ∧ rC = jI (lstN (fun q_ : Nat => cOut wd (q_ : Int)) 101 0 : Int) ∧ fd2 = fd) ∨ ((100 < lstN (fun q_ : Nat => cOut wd (q_ : Int)) 101 0) ∧ rC = jI (-1000000004) ∧ fd2 = uI fd 3 (fd 3 + 1))) (hR : ((lstN (fun q_ => sOut (hrs w q_)) 101 0 ≤ 100) ∧ rR = jI (lstN (fun q_ => sOut (hrs w q_)) 101 0 : Int) ∧ fe2 = fe) ∨ ((100 < lstN (fun q_ => sOut (hrs w q_)) 101 0) ∧ rR = jI (-1000000004) ∧ fe2 = uI fe 3 (fe 3 + 1))) : rC = rR ∧ J2 fd2 fe2 := by
  obtain ⟨⟨⟨e0, e1, e2⟩, -⟩, hw, hc, h9, -⟩ := id h
  have m1 := hw.many
  have m2 := hw.tasks
  have qd := out_eq hw hc h.1 h9
  rcases hC with ⟨c1, rfl, rfl⟩ | ⟨c1, rfl, rfl⟩
  · rcases hR with ⟨c2, rfl, rfl⟩ | ⟨c2, rfl, rfl⟩
    · exact ⟨congrArg (fun n_ : Nat => jI (n_ : Int)) qd, hf⟩
    · exfalso; omega
  · rcases hR with ⟨c2, rfl, rfl⟩ | ⟨c2, rfl, rfl⟩
    · exfalso; omega
    · exact ⟨rfl, hf.u 3 (by decide) (by decide)⟩
theorem pu_stealth {w : Int → Int} {wd : WT} {fd fe : Int → Int} {x t : Int} {rC rR : Int32} {fd2 : Int → Int} {gl2 : GT} {wy2 : (Int → Int) × (Int → Int)} {li2 : Int → Int} {fe2 : Int → Int} {sp2 : Int → Int} {lt2 : Int → Int} (h : J1 w wd) (hf : J2 fd fe) (hC : ((¬ ((0 ≤ x ∧ x ≤ 15) ∧ 0 ≤ t ∧ t ≤ 15)) ∧ rC = jI (-1000000001) ∧ fd2 = uI fd 0 (fd 0 + 1)) ∨ ((((0 ≤ x ∧ x ≤ 15) ∧ 0 ≤ t ∧ t ≤ 15)) ∧ rC = jI (glN (cLt wd 0) x t 16) ∧ fd2 = fd)) (hR : ((¬ ((0 ≤ x ∧ x ≤ 15) ∧ 0 ≤ t ∧ t ≤ 15)) ∧ rR = jI (-1000000001) ∧ fe2 = uI fe 0 (fe 0 + 1)) ∨ ((((0 ≤ x ∧ x ≤ 15) ∧ 0 ≤ t ∧ t ≤ 15)) ∧ rR = jI (blN (sLt w) x t 16) ∧ fe2 = fe)) : rC = rR ∧ J2 fd2 fe2 := by
  obtain ⟨⟨⟨e0, e1, e2⟩, -⟩, hw, hc, h9, -⟩ := id h
  have m1 := hw.many
  have m2 := hw.tasks
  rcases hC with ⟨c1, rfl, rfl⟩ | ⟨c1, rfl, rfl⟩
  · rcases hR with ⟨c2, rfl, rfl⟩ | ⟨c2, rfl, rfl⟩
    · exact ⟨rfl, hf.u 0 (by decide) (by decide)⟩
    · exfalso; omega
  · rcases hR with ⟨c2, rfl, rfl⟩ | ⟨c2, rfl, rfl⟩
    · exfalso; omega
    · exact ⟨congrArg jI ((glN_cg (fun j j0 j1 => h.lt ⟨j0, j1⟩) (by omega) (by omega) 16 (Nat.le_refl 16)).trans (gl_eq (by omega) (by omega) (fun j j0 j1 => (sLt_r hw j0 j1).1))), hf⟩
theorem pu_way {w : Int → Int} {wd : WT} {fd fe : Int → Int} {x t v : Int} {rC rR : Int32} {fd2 : Int → Int} {gl2 : GT} {wy2 : (Int → Int) × (Int → Int)} {li2 : Int → Int} {fe2 : Int → Int} {sp2 : Int → Int} {lt2 : Int → Int} (h : J1 w wd) (hf : J2 fd fe) (hC : ((¬ (((0 ≤ x ∧ x ≤ 15) ∧ 0 ≤ t ∧ t ≤ 15) ∧ 0 ≤ v ∧ v ≤ 9999)) ∧ rC = jI (-1000000001) ∧ fd2 = uI fd 0 (fd 0 + 1)) ∨ (((((0 ≤ x ∧ x ≤ 15) ∧ 0 ≤ t ∧ t ≤ 15) ∧ 0 ≤ v ∧ v ≤ 9999) ∧ sSt (cLt wd 0) t v x < 0) ∧ rC = jI (-1000000004) ∧ fd2 = uI fd 3 (fd 3 + 1)) ∨ (((((0 ≤ x ∧ x ≤ 15) ∧ 0 ≤ t ∧ t ≤ 15) ∧ 0 ≤ v ∧ v ≤ 9999) ∧ 0 ≤ sSt (cLt wd 0) t v x) ∧ rC = jI (sSt (cLt wd 0) t v x) ∧ fd2 = fd)) (hR : ((¬ (((0 ≤ x ∧ x ≤ 15) ∧ 0 ≤ t ∧ t ≤ 15) ∧ 0 ≤ v ∧ v ≤ 9999)) ∧ rR = jI (-1000000001) ∧ fe2 = uI fe 0 (fe 0 + 1)) ∨ (((((0 ≤ x ∧ x ≤ 15) ∧ 0 ≤ t ∧ t ≤ 15) ∧ 0 ≤ v ∧ v ≤ 9999) ∧ sSt (sLt w) t v x < 0) ∧ rR = jI (-1000000004) ∧ fe2 = uI fe 3 (fe 3 + 1)) ∨ (((((0 ≤ x ∧ x ≤ 15) ∧ 0 ≤ t ∧ t ≤ 15) ∧ 0 ≤ v ∧ v ≤ 9999) ∧ 0 ≤ sSt (sLt w) t v x) ∧ rR = jI (sSt (sLt w) t v x) ∧ fe2 = fe)) : rC = rR ∧ J2 fd2 fe2 := by
  obtain ⟨⟨⟨e0, e1, e2⟩, -⟩, hw, hc, h9, -⟩ := id h
  have m1 := hw.many
  have m2 := hw.tasks
  rcases hC with ⟨c1, rfl, rfl⟩ | ⟨c1, rfl, rfl⟩ | ⟨c1, rfl, rfl⟩
  · rcases hR with ⟨c2, rfl, rfl⟩ | ⟨c2, rfl, rfl⟩ | ⟨c2, rfl, rfl⟩
    · exact ⟨rfl, hf.u 0 (by decide) (by decide)⟩
    · exfalso; first | omega | (have qs := (sSt_cg (f := cLt wd 0) (f' := sLt w) (t := t) (v := v) (fun j j0 j1 => h.lt ⟨j0, j1⟩) (by omega) x (by omega) (by omega)); omega)
    · exfalso; first | omega | (have qs := (sSt_cg (f := cLt wd 0) (f' := sLt w) (t := t) (v := v) (fun j j0 j1 => h.lt ⟨j0, j1⟩) (by omega) x (by omega) (by omega)); omega)
  · rcases hR with ⟨c2, rfl, rfl⟩ | ⟨c2, rfl, rfl⟩ | ⟨c2, rfl, rfl⟩
    · exfalso; first | omega | (have qs := (sSt_cg (f := cLt wd 0) (f' := sLt w) (t := t) (v := v) (fun j j0 j1 => h.lt ⟨j0, j1⟩) (by omega) x (by omega) (by omega)); omega)
    · exact ⟨rfl, hf.u 3 (by decide) (by decide)⟩
    · exfalso; first | omega | (have qs := (sSt_cg (f := cLt wd 0) (f' := sLt w) (t := t) (v := v) (fun j j0 j1 => h.lt ⟨j0, j1⟩) (by omega) x (by omega) (by omega)); omega)
  · rcases hR with ⟨c2, rfl, rfl⟩ | ⟨c2, rfl, rfl⟩ | ⟨c2, rfl, rfl⟩
    · exfalso; first | omega | (have qs := (sSt_cg (f := cLt wd 0) (f' := sLt w) (t := t) (v := v) (fun j j0 j1 => h.lt ⟨j0, j1⟩) (by omega) x (by omega) (by omega)); omega)
    · exfalso; first | omega | (have qs := (sSt_cg (f := cLt wd 0) (f' := sLt w) (t := t) (v := v) (fun j j0 j1 => h.lt ⟨j0, j1⟩) (by omega) x (by omega) (by omega)); omega)
    · exact ⟨congrArg jI (sSt_cg (f := cLt wd 0) (f' := sLt w) (t := t) (v := v) (fun j j0 j1 => h.lt ⟨j0, j1⟩) (by omega) x (by omega) (by omega)), hf⟩
theorem pu_hang {w : Int → Int} {wd : WT} {fd fe : Int → Int} {v : Int} {rC rR : Int32} {fd2 : Int → Int} {tw2 : WT} {gl2 : GT} {fe2 : Int → Int} {ah2 : Int → Int} (h : J1 w wd) (hf : J2 fd fe) (hC : ((¬ (1 ≤ v ∧ v ≤ 99)) ∧ rC = jI (-1000000001) ∧ fd2 = uI fd 0 (fd 0 + 1)) ∨ ((1 ≤ v ∧ v ≤ 99) ∧ rC = jI (bsN (fun z_ => ctN (cDn (chW 0 v z_ wd)) (wd.2.2.2.2.2.2.2.2.1).toNat) 16) ∧ fd2 = fd)) (hR : ((¬ (1 ≤ v ∧ v ≤ 99)) ∧ rR = jI (-1000000001) ∧ fe2 = uI fe 0 (fe 0 + 1)) ∨ ((1 ≤ v ∧ v ≤ 99) ∧ rR = jI (bsN (fun z_ => onI (sDn (uI w (3 + z_) (jmin (w (3 + z_) + v) 99))) 32) 16) ∧ fe2 = fe)) : rC = rR ∧ J2 fd2 fe2 := by
  obtain ⟨⟨⟨e0, e1, e2⟩, -⟩, hw, hc, h9, -⟩ := id h
  have m1 := hw.many
  have m2 := hw.tasks
  rcases hC with ⟨c1, rfl, rfl⟩ | ⟨c1, rfl, rfl⟩
  · rcases hR with ⟨c2, rfl, rfl⟩ | ⟨c2, rfl, rfl⟩
    · exact ⟨rfl, hf.u 0 (by decide) (by decide)⟩
    · exfalso; omega
  · rcases hR with ⟨c2, rfl, rfl⟩ | ⟨c2, rfl, rfl⟩
    · exfalso; omega
    · exact ⟨congrArg jI (hang_eq hw hc h.1 h9 (by omega)), hf⟩
theorem pu_goal {w : Int → Int} {wd : WT} {fd fe : Int → Int} {z : Int} {rC rR : Int32} {fd2 : Int → Int} {tw2 : WT} {gl2 : GT} {fe2 : Int → Int} {ah2 : Int → Int} (h : J1 w wd) (hf : J2 fd fe) (hC : ((¬ (0 ≤ z ∧ z < wd.2.2.1)) ∧ rC = jI (-1000000001) ∧ fd2 = uI fd 0 (fd 0 + 1)) ∨ (((0 ≤ z ∧ z < wd.2.2.1)) ∧ rC = jI (bsN (fun z_ => ctN (cDn (chW 1 z z_ wd)) (wd.2.2.2.2.2.2.2.2.1).toNat) 16) ∧ fd2 = fd)) (hR : (((0 ≤ z ∧ z ≤ w 1 - 1)) ∧ rR = jI (bsN (fun z_ => onI (sDn (uI w (19 + 5 * z + 2) z_)) 32) 16) ∧ fe2 = fe) ∨ ((¬ (0 ≤ z ∧ z ≤ w 1 - 1)) ∧ rR = jI (-1000000001) ∧ fe2 = uI fe 0 (fe 0 + 1))) : rC = rR ∧ J2 fd2 fe2 := by
  obtain ⟨⟨⟨e0, e1, e2⟩, -⟩, hw, hc, h9, -⟩ := id h
  have m1 := hw.many
  have m2 := hw.tasks
  rcases hC with ⟨c1, rfl, rfl⟩ | ⟨c1, rfl, rfl⟩
  · rcases hR with ⟨c2, rfl, rfl⟩ | ⟨c2, rfl, rfl⟩
    · exfalso; omega
    · exact ⟨rfl, hf.u 0 (by decide) (by decide)⟩
  · rcases hR with ⟨c2, rfl, rfl⟩ | ⟨c2, rfl, rfl⟩
    · exact ⟨congrArg jI (goal_eq hw hc h.1 h9 (by omega)), hf⟩
    · exfalso; omega
theorem pu_kind {w : Int → Int} {wd : WT} {fd fe : Int → Int} {z : Int} {rC rR : Int32} {fd2 : Int → Int} {tw2 : WT} {gl2 : GT} {fe2 : Int → Int} {ah2 : Int → Int} (h : J1 w wd) (hf : J2 fd fe) (hC : ((¬ (0 ≤ z ∧ z < wd.2.2.1)) ∧ rC = jI (-1000000001) ∧ fd2 = uI fd 0 (fd 0 + 1)) ∨ (((0 ≤ z ∧ z < wd.2.2.1)) ∧ rC = jI (bsN (fun z_ => ctN (cDn (chW 2 z z_ wd)) (wd.2.2.2.2.2.2.2.2.1).toNat) 6) ∧ fd2 = fd)) (hR : (((0 ≤ z ∧ z ≤ w 1 - 1)) ∧ rR = jI (bsN (fun z_ => onI (sDn (uI w (19 + 5 * z + 0) z_)) 32) 6) ∧ fe2 = fe) ∨ ((¬ (0 ≤ z ∧ z ≤ w 1 - 1)) ∧ rR = jI (-1000000001) ∧ fe2 = uI fe 0 (fe 0 + 1))) : rC = rR ∧ J2 fd2 fe2 := by
  obtain ⟨⟨⟨e0, e1, e2⟩, -⟩, hw, hc, h9, -⟩ := id h
  have m1 := hw.many
  have m2 := hw.tasks
  rcases hC with ⟨c1, rfl, rfl⟩ | ⟨c1, rfl, rfl⟩
  · rcases hR with ⟨c2, rfl, rfl⟩ | ⟨c2, rfl, rfl⟩
    · exfalso; omega
    · exact ⟨rfl, hf.u 0 (by decide) (by decide)⟩
  · rcases hR with ⟨c2, rfl, rfl⟩ | ⟨c2, rfl, rfl⟩
    · exact ⟨congrArg jI (kind_eq hw hc h.1 h9 (by omega)), hf⟩
    · exfalso; omega
theorem pu_needed {w : Int → Int} {wd : WT} {fd fe : Int → Int} {rC rR : Int32} {fd2 : Int → Int} {tw2 : WT} {gl2 : GT} {fe2 : Int → Int} {ah2 : Int → Int} (h : J1 w wd) (hf : J2 fd fe) (hC : ((0 ≤ nsN (fun z_ => ctN (cDn (woW z_ wd)) wd.2.2.2.2.2.2.2.2.1.toNat) (ctN (cDn wd) wd.2.2.2.2.2.2.2.2.1.toNat) wd.2.2.1.toNat) ∧ rC = jI (nsN (fun z_ => ctN (cDn (woW z_ wd)) wd.2.2.2.2.2.2.2.2.1.toNat) (ctN (cDn wd) wd.2.2.2.2.2.2.2.2.1.toNat) wd.2.2.1.toNat) ∧ fd2 = fd) ∨ ((nsN (fun z_ => ctN (cDn (woW z_ wd)) wd.2.2.2.2.2.2.2.2.1.toNat) (ctN (cDn wd) wd.2.2.2.2.2.2.2.2.1.toNat) wd.2.2.1.toNat < 0) ∧ rC = jI (-1000000004) ∧ fd2 = uI fd 3 (fd 3 + 1))) (hR : ((0 ≤ nsN (fun z_ => onI (sDn (uI w (19 + 5 * z_ + 0) 6)) 32) (onI (sDn w) 32) (w 1).toNat) ∧ rR = jI (nsN (fun z_ => onI (sDn (uI w (19 + 5 * z_ + 0) 6)) 32) (onI (sDn w) 32) (w 1).toNat) ∧ fe2 = fe) ∨ ((nsN (fun z_ => onI (sDn (uI w (19 + 5 * z_ + 0) 6)) 32) (onI (sDn w) 32) (w 1).toNat < 0) ∧ rR = jI (-1000000004) ∧ fe2 = uI fe 3 (fe 3 + 1))) : rC = rR ∧ J2 fd2 fe2 := by
  obtain ⟨⟨⟨e0, e1, e2⟩, -⟩, hw, hc, h9, -⟩ := id h
  have m1 := hw.many
  have m2 := hw.tasks
  have qd := needed_eq hw hc h.1 h9
  rcases hC with ⟨c1, rfl, rfl⟩ | ⟨c1, rfl, rfl⟩
  · rcases hR with ⟨c2, rfl, rfl⟩ | ⟨c2, rfl, rfl⟩
    · exact ⟨congrArg jI qd, hf⟩
    · exfalso; omega
  · rcases hR with ⟨c2, rfl, rfl⟩ | ⟨c2, rfl, rfl⟩
    · exfalso; omega
    · exact ⟨rfl, hf.u 3 (by decide) (by decide)⟩
theorem pu_whom {w : Int → Int} {wd : WT} {fd fe : Int → Int} {t : Int} {rC rR : Int32} {fd2 : Int → Int} {tw2 : WT} {gl2 : GT} {fe2 : Int → Int} {ah2 : Int → Int} (h : J1 w wd) (hf : J2 fd fe) (hC : ((¬ (0 ≤ t ∧ t < wd.2.2.2.2.2.2.2.2.1)) ∧ rC = jI (-1000000001) ∧ fd2 = uI fd 0 (fd 0 + 1)) ∨ (((0 ≤ t ∧ t < wd.2.2.2.2.2.2.2.2.1) ∧ ¬ cDn wd t) ∧ rC = jI 0 ∧ fd2 = fd) ∨ (((0 ≤ t ∧ t < wd.2.2.2.2.2.2.2.2.1) ∧ cDn wd t) ∧ rC = stN (fun z_ => ¬ cDn (woW z_ wd) t) wd.2.2.1.toNat ∧ fd2 = fd)) (hR : ((¬ (0 ≤ t ∧ t ≤ w 2 - 1)) ∧ rR = jI (-1000000001) ∧ fe2 = uI fe 0 (fe 0 + 1)) ∨ (((0 ≤ t ∧ t ≤ w 2 - 1) ∧ ¬ ((sDn w >>> (jI t &&& 31)) &&& jI 1 = jI 1)) ∧ rR = jI 0 ∧ fe2 = fe) ∨ (((0 ≤ t ∧ t ≤ w 2 - 1) ∧ ((sDn w >>> (jI t &&& 31)) &&& jI 1 = jI 1)) ∧ rR = stN (fun z_ => ¬ ((sDn (uI w (19 + 5 * z_ + 0) 6) >>> (jI t &&& 31)) &&& jI 1 = jI 1)) (w 1).toNat ∧ fe2 = fe)) : rC = rR ∧ J2 fd2 fe2 := by
  obtain ⟨⟨⟨e0, e1, e2⟩, -⟩, hw, hc, h9, -⟩ := id h
  have m1 := hw.many
  have m2 := hw.tasks
  rcases hC with ⟨c1, rfl, rfl⟩ | ⟨c1, rfl, rfl⟩ | ⟨c1, rfl, rfl⟩
  · rcases hR with ⟨c2, rfl, rfl⟩ | ⟨c2, rfl, rfl⟩ | ⟨c2, rfl, rfl⟩
    · exact ⟨rfl, hf.u 0 (by decide) (by decide)⟩
    · exfalso; first | omega | (have qb := dn_bit hw hc h.1 h9 (t := t) (by omega) (by omega); first | exact c1.2 (qb.mp c2.2) | exact c2.2 (qb.mpr c1.2))
    · exfalso; first | omega | (have qb := dn_bit hw hc h.1 h9 (t := t) (by omega) (by omega); first | exact c1.2 (qb.mp c2.2) | exact c2.2 (qb.mpr c1.2))
  · rcases hR with ⟨c2, rfl, rfl⟩ | ⟨c2, rfl, rfl⟩ | ⟨c2, rfl, rfl⟩
    · exfalso; first | omega | (have qb := dn_bit hw hc h.1 h9 (t := t) (by omega) (by omega); first | exact c1.2 (qb.mp c2.2) | exact c2.2 (qb.mpr c1.2))
    · exact ⟨rfl, hf⟩
    · exfalso; first | omega | (have qb := dn_bit hw hc h.1 h9 (t := t) (by omega) (by omega); first | exact c1.2 (qb.mp c2.2) | exact c2.2 (qb.mpr c1.2))
  · rcases hR with ⟨c2, rfl, rfl⟩ | ⟨c2, rfl, rfl⟩ | ⟨c2, rfl, rfl⟩
    · exfalso; first | omega | (have qb := dn_bit hw hc h.1 h9 (t := t) (by omega) (by omega); first | exact c1.2 (qb.mp c2.2) | exact c2.2 (qb.mpr c1.2))
    · exfalso; first | omega | (have qb := dn_bit hw hc h.1 h9 (t := t) (by omega) (by omega); first | exact c1.2 (qb.mp c2.2) | exact c2.2 (qb.mpr c1.2))
    · exact ⟨(whom_eq hw hc h.1 h9 (by omega) (by omega)), hf⟩
theorem pu_count {w : Int → Int} {wd : WT} {fd fe : Int → Int} {ta : (Int → Int) × Int} {tn : Int} (ht : ta.2 = tn) {t : Int} {rC rR : Int32} {fd2 : Int → Int} {fe2 : Int → Int} (h : J1 w wd) (hf : J2 fd fe) (hC : ((t = 0) ∧ rC = jI wd.2.2.1 ∧ fd2 = fd) ∨ ((t = 1) ∧ rC = jI wd.2.2.2.2.2.2.2.2.1 ∧ fd2 = fd) ∨ ((t = 2) ∧ rC = jI ta.2 ∧ fd2 = fd) ∨ ((t = 3) ∧ rC = jI (sumN wd.2.2.2.2.2.2.1 wd.2.2.1.toNat) ∧ fd2 = fd) ∨ ((t < 0 ∨ 3 < t) ∧ rC = jI (-1000000001) ∧ fd2 = uI fd 0 (fd 0 + 1))) (hR : ((t = 0) ∧ rR = jI (w 1) ∧ fe2 = fe) ∨ ((t = 1) ∧ rR = jI (w 2) ∧ fe2 = fe) ∨ ((t = 2) ∧ rR = jI tn ∧ fe2 = fe) ∨ ((t = 3) ∧ rR = jI (sumN (fun x_ => fB w x_ 3) (w 1).toNat) ∧ fe2 = fe) ∨ ((t < 0 ∨ 3 < t) ∧ rR = jI (-1000000001) ∧ fe2 = uI fe 0 (fe 0 + 1))) : rC = rR ∧ J2 fd2 fe2 := by
  obtain ⟨⟨⟨e0, e1, e2⟩, -⟩, hw, hc, h9, -⟩ := id h
  have m1 := hw.many
  have m2 := hw.tasks
  rcases hC with ⟨c1, rfl, rfl⟩ | ⟨c1, rfl, rfl⟩ | ⟨c1, rfl, rfl⟩ | ⟨c1, rfl, rfl⟩ | ⟨c1, rfl, rfl⟩
  · rcases hR with ⟨c2, rfl, rfl⟩ | ⟨c2, rfl, rfl⟩ | ⟨c2, rfl, rfl⟩ | ⟨c2, rfl, rfl⟩ | ⟨c2, rfl, rfl⟩
    · exact ⟨congrArg jI e1, hf⟩
    · exfalso; omega
    · exfalso; omega
    · exfalso; omega
    · exfalso; omega
  · rcases hR with ⟨c2, rfl, rfl⟩ | ⟨c2, rfl, rfl⟩ | ⟨c2, rfl, rfl⟩ | ⟨c2, rfl, rfl⟩ | ⟨c2, rfl, rfl⟩
    · exfalso; omega
    · exact ⟨congrArg jI e2, hf⟩
    · exfalso; omega
    · exfalso; omega
    · exfalso; omega
  · rcases hR with ⟨c2, rfl, rfl⟩ | ⟨c2, rfl, rfl⟩ | ⟨c2, rfl, rfl⟩ | ⟨c2, rfl, rfl⟩ | ⟨c2, rfl, rfl⟩
    · exfalso; omega
    · exfalso; omega
    · exact ⟨congrArg jI ht, hf⟩
    · exfalso; omega
    · exfalso; omega
  · rcases hR with ⟨c2, rfl, rfl⟩ | ⟨c2, rfl, rfl⟩ | ⟨c2, rfl, rfl⟩ | ⟨c2, rfl, rfl⟩ | ⟨c2, rfl, rfl⟩
    · exfalso; omega
    · exfalso; omega
    · exfalso; omega
    · exact ⟨congrArg jI (by rw [e1]; exact sumN_c _ (fun k h0 h1 => (h.be (b := k) ⟨h0, by omega⟩).2.2.2.1)), hf⟩
    · exfalso; omega
  · rcases hR with ⟨c2, rfl, rfl⟩ | ⟨c2, rfl, rfl⟩ | ⟨c2, rfl, rfl⟩ | ⟨c2, rfl, rfl⟩ | ⟨c2, rfl, rfl⟩
    · exfalso; omega
    · exfalso; omega
    · exfalso; omega
    · exfalso; omega
    · exact ⟨rfl, hf.u 0 (by decide) (by decide)⟩
theorem pu_status {w : Int → Int} {wd : WT} {fd fe : Int → Int} {t : Int} {rC rR : Int32} {fd2 : Int → Int} {fe2 : Int → Int} (h : J1 w wd) (hf : J2 fd fe) (hC : ((¬ (-1 ≤ t ∧ t ≤ 6)) ∧ rC = jI (-1000000001) ∧ fd2 = uI fd 0 (fd 0 + 1)) ∨ ((0 ≤ t ∧ t ≤ 6) ∧ rC = jI (fd t) ∧ fd2 = fd) ∨ ((t = -1) ∧ rC = jI (sumN fd 7) ∧ fd2 = fd)) (hR : ((¬ (-1 ≤ t ∧ t ≤ 6)) ∧ rR = jI (-1000000001) ∧ fe2 = uI fe 0 (fe 0 + 1)) ∨ ((-1 ≤ t ∧ t ≤ 6) ∧ rR = jI (sumN (fun x_ => if t = -1 ∨ t = x_ then fe x_ else 0) 7) ∧ fe2 = fe)) : rC = rR ∧ J2 fd2 fe2 := by
  obtain ⟨⟨⟨e0, e1, e2⟩, -⟩, hw, hc, h9, -⟩ := id h
  have m1 := hw.many
  have m2 := hw.tasks
  rcases hC with ⟨c1, rfl, rfl⟩ | ⟨c1, rfl, rfl⟩ | ⟨c1, rfl, rfl⟩
  · rcases hR with ⟨c2, rfl, rfl⟩ | ⟨c2, rfl, rfl⟩
    · exact ⟨rfl, hf.u 0 (by decide) (by decide)⟩
    · exfalso; omega
  · rcases hR with ⟨c2, rfl, rfl⟩ | ⟨c2, rfl, rfl⟩
    · exfalso; omega
    · exact ⟨congrArg jI (st_1 hf (by omega)), hf⟩
  · rcases hR with ⟨c2, rfl, rfl⟩ | ⟨c2, rfl, rfl⟩
    · exfalso; omega
    · exact ⟨congrArg jI (st_2 hf (by omega)), hf⟩

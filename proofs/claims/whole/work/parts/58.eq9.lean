theorem Rl_addB {w : Int → Int} {x : WT} (h : Rl w x) {k p : Int} (h1 : 0 ≤ w 1 ∧ w 1 < 10) (hk : 0 ≤ k) : Rl (addBx w k p p 20 0) (x.1, x.2.1, x.2.2.1 + 1, uI x.2.2.2.1 x.2.2.1 k, uI x.2.2.2.2.1 x.2.2.1 p, uI x.2.2.2.2.2.1 x.2.2.1 p, uI x.2.2.2.2.2.2.1 x.2.2.1 20, uI x.2.2.2.2.2.2.2.1 x.2.2.1 0, x.2.2.2.2.2.2.2.2.1, x.2.2.2.2.2.2.2.2.2.1, x.2.2.2.2.2.2.2.2.2.2.1, x.2.2.2.2.2.2.2.2.2.2.2) := by
  have ho : ∀ j : Int, (j < 19 + 5 * w 1 ∨ 19 + 5 * w 1 + 4 < j) → j ≠ 1 → addBx w k p p 20 0 j = w j := by
    intro j hj j1
    unfold addBx
    rw [uI_n _ _ j1, uI_n _ _ (by omega), uI_n _ _ (by omega), uI_n _ _ (by omega), uI_n _ _ (by omega), uI_n _ _ (by omega)]
  have e1 : addBx w k p p 20 0 1 = w 1 + 1 := uI_s _ _ _
  have n0 : addBx w k p p 20 0 (19 + 5 * w 1 + 0) = k := by unfold addBx; rw [uI_n _ _ (by omega), uI_n _ _ (by omega), uI_n _ _ (by omega), uI_n _ _ (by omega), uI_n _ _ (by omega), uI_s]
  have n1 : addBx w k p p 20 0 (19 + 5 * w 1 + 1) = p := by unfold addBx; rw [uI_n _ _ (by omega), uI_n _ _ (by omega), uI_n _ _ (by omega), uI_n _ _ (by omega), uI_s]
  have n2 : addBx w k p p 20 0 (19 + 5 * w 1 + 2) = p := by unfold addBx; rw [uI_n _ _ (by omega), uI_n _ _ (by omega), uI_n _ _ (by omega), uI_s]
  have n3 : addBx w k p p 20 0 (19 + 5 * w 1 + 3) = 20 := by unfold addBx; rw [uI_n _ _ (by omega), uI_n _ _ (by omega), uI_s]
  have n4 : addBx w k p p 20 0 (19 + 5 * w 1 + 4) = 0 := by unfold addBx; rw [uI_n _ _ (by omega), uI_s]
  obtain ⟨⟨a1, a2, a3⟩, hb, hg, ht⟩ := h
  refine ⟨⟨by rw [ho 0 (by omega) (by omega)]; exact a1, by rw [e1]; show x.2.2.1 + 1 = _; omega, by rw [ho 2 (by omega) (by omega)]; exact a3⟩, fun q q0 q1 => by rw [ho _ (by omega) (by omega)]; exact hb q q0 q1, fun b b0 b1 => ?_, fun t t0 t1 => ?_⟩
  · rw [e1] at b1
    show kR (uI x.2.2.2.1 x.2.2.1 k b) = _ ∧ uI x.2.2.2.2.1 x.2.2.1 p b = _ ∧ uI x.2.2.2.2.2.1 x.2.2.1 p b = _ ∧ uI x.2.2.2.2.2.2.1 x.2.2.1 20 b = _ ∧ uI x.2.2.2.2.2.2.2.1 x.2.2.1 0 b = _
    unfold fB
    by_cases e : b = w 1
    · have e' : b = x.2.2.1 := by omega
      rw [e', uI_s, uI_s, uI_s, uI_s, uI_s, a2, n0, n1, n2, n3, n4]
      exact ⟨if_neg (by omega), rfl, rfl, rfl, rfl⟩
    · rw [uI_n _ _ (by omega), uI_n _ _ (by omega), uI_n _ _ (by omega), uI_n _ _ (by omega), uI_n _ _ (by omega), ho _ (by omega) (by omega), ho _ (by omega) (by omega), ho _ (by omega) (by omega), ho _ (by omega) (by omega), ho _ (by omega) (by omega)]
      exact hg b b0 (by omega)
  · rw [ho 2 (by omega) (by omega)] at t1
    unfold fT
    rw [ho _ (by omega) (by omega), ho _ (by omega) (by omega), ho _ (by omega) (by omega)]
    exact ht t t0 t1
theorem Rl_addT {w : Int → Int} {x : WT} (h : Rl w x) {p o n : Int} (hm : 0 ≤ w 1 ∧ w 1 ≤ 10) (h2 : 0 ≤ w 2 ∧ w 2 < 8) : Rl (addTx w p o n) (x.1, x.2.1, x.2.2.1, x.2.2.2.1, x.2.2.2.2.1, x.2.2.2.2.2.1, x.2.2.2.2.2.2.1, x.2.2.2.2.2.2.2.1, x.2.2.2.2.2.2.2.2.1 + 1, uI x.2.2.2.2.2.2.2.2.2.1 x.2.2.2.2.2.2.2.2.1 p, uI x.2.2.2.2.2.2.2.2.2.2.1 x.2.2.2.2.2.2.2.2.1 o, uI x.2.2.2.2.2.2.2.2.2.2.2 x.2.2.2.2.2.2.2.2.1 n) := by
  have ho : ∀ j : Int, (j < 69 + 3 * w 2 ∨ 69 + 3 * w 2 + 2 < j) → j ≠ 2 → addTx w p o n j = w j := by
    intro j hj j1
    unfold addTx
    rw [uI_n _ _ j1, uI_n _ _ (by omega), uI_n _ _ (by omega), uI_n _ _ (by omega)]
  have e2 : addTx w p o n 2 = w 2 + 1 := uI_s _ _ _
  have n0 : addTx w p o n (69 + 3 * w 2 + 0) = p := by unfold addTx; rw [uI_n _ _ (by omega), uI_n _ _ (by omega), uI_n _ _ (by omega), uI_s]
  have n1 : addTx w p o n (69 + 3 * w 2 + 1) = o := by unfold addTx; rw [uI_n _ _ (by omega), uI_n _ _ (by omega), uI_s]
  have n2 : addTx w p o n (69 + 3 * w 2 + 2) = n := by unfold addTx; rw [uI_n _ _ (by omega), uI_s]
  obtain ⟨⟨a1, a2, a3⟩, hb, hg, ht⟩ := h
  have e1 : addTx w p o n 1 = w 1 := ho 1 (by omega) (by omega)
  refine ⟨⟨by rw [ho 0 (by omega) (by omega)]; exact a1, by rw [e1]; exact a2, by rw [e2]; show x.2.2.2.2.2.2.2.2.1 + 1 = _; omega⟩, fun q q0 q1 => by rw [ho _ (by omega) (by omega)]; exact hb q q0 q1, fun b b0 b1 => ?_, fun t t0 t1 => ?_⟩
  · rw [e1] at b1
    unfold fB
    rw [ho _ (by omega) (by omega), ho _ (by omega) (by omega), ho _ (by omega) (by omega), ho _ (by omega) (by omega), ho _ (by omega) (by omega)]
    exact hg b b0 b1
  · rw [e2] at t1
    show uI x.2.2.2.2.2.2.2.2.2.1 x.2.2.2.2.2.2.2.2.1 p t = _ ∧ uI x.2.2.2.2.2.2.2.2.2.2.1 x.2.2.2.2.2.2.2.2.1 o t = _ ∧ uI x.2.2.2.2.2.2.2.2.2.2.2 x.2.2.2.2.2.2.2.2.1 n t = _
    unfold fT
    by_cases e : t = w 2
    · have e' : t = x.2.2.2.2.2.2.2.2.1 := by omega
      rw [e', uI_s, uI_s, uI_s, a3, n0, n1, n2]
      exact ⟨rfl, rfl, rfl⟩
    · rw [uI_n _ _ (by omega), uI_n _ _ (by omega), uI_n _ _ (by omega), ho _ (by omega) (by omega), ho _ (by omega) (by omega), ho _ (by omega) (by omega)]
      exact ht t t0 (by omega)
/-- rows that differ beyond the last being or task tell the same world -/
theorem Rl_rows {w : Int → Int} {x y : WT} (h : Rl w x) (e0 : y.1 = x.1 ∧ y.2.2.1 = x.2.2.1 ∧ y.2.2.2.2.2.2.2.2.1 = x.2.2.2.2.2.2.2.2.1) (eb : ∀ p : Int, 0 ≤ p → p < 16 → y.2.1 p = x.2.1 p) (eg : ∀ b : Int, 0 ≤ b → b < w 1 → y.2.2.2.1 b = x.2.2.2.1 b ∧ y.2.2.2.2.1 b = x.2.2.2.2.1 b ∧ y.2.2.2.2.2.1 b = x.2.2.2.2.2.1 b ∧ y.2.2.2.2.2.2.1 b = x.2.2.2.2.2.2.1 b ∧ y.2.2.2.2.2.2.2.1 b = x.2.2.2.2.2.2.2.1 b) (et : ∀ t : Int, 0 ≤ t → t < w 2 → y.2.2.2.2.2.2.2.2.2.1 t = x.2.2.2.2.2.2.2.2.2.1 t ∧ y.2.2.2.2.2.2.2.2.2.2.1 t = x.2.2.2.2.2.2.2.2.2.2.1 t ∧ y.2.2.2.2.2.2.2.2.2.2.2 t = x.2.2.2.2.2.2.2.2.2.2.2 t) : Rl w y := by
  obtain ⟨⟨a1, a2, a3⟩, hb, hg, ht⟩ := h
  refine ⟨⟨by omega, by omega, by omega⟩, fun p p0 p1 => by rw [eb p p0 p1]; exact hb p p0 p1, fun b b0 b1 => ?_, fun t t0 t1 => ?_⟩
  · obtain ⟨q1, q2, q3, q4, q5⟩ := eg b b0 b1
    rw [q1, q2, q3, q4, q5]
    exact hg b b0 b1
  · obtain ⟨q1, q2, q3⟩ := et t t0 t1
    rw [q1, q2, q3]
    exact ht t t0 t1

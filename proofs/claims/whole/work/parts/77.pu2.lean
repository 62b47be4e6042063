/-! changes keep the relation -/
section
variable {w w' : Int → Int} {x x' : WT}
theorem J1.of (h : J1 w x) (hr : Rl w' x') (hf : Wf w') (hc : Wc x') (h0 : w' 0 = w 0) (h1 : w' 1 = w 1) (hk : ∀ b : Int, 0 ≤ b → b < w 1 → fB w' b 0 = fB w b 0) : J1 w' x' := by
  refine ⟨hr, hf, hc, by have := h.2.2.2.1; omega, fun b b0 b1 => ?_⟩
  rw [h1] at b1
  rw [hk b b0 b1]
  exact h.2.2.2.2 b b0 b1
theorem J1.bowl (h : J1 w x) {p v : Int} (hp : 0 ≤ p ∧ p < 16) (hv : 0 ≤ v ∧ v ≤ 99) : J1 (uI w (3 + p) v) (x.1, uI x.2.1 p v, x.2.2.1, x.2.2.2.1, x.2.2.2.2.1, x.2.2.2.2.2.1, x.2.2.2.2.2.2.1, x.2.2.2.2.2.2.2.1, x.2.2.2.2.2.2.2.2.1, x.2.2.2.2.2.2.2.2.2.1, x.2.2.2.2.2.2.2.2.2.2.1, x.2.2.2.2.2.2.2.2.2.2.2) := by
  have m := h.2.1.many
  exact h.of (Rl_P h.1 hp) (h.2.1.setP hp hv) (h.2.2.1.fill hp hv) (uI_n _ _ (by omega)) (uI_n _ _ (by omega)) (fun b b0 b1 => by unfold fB; rw [uI_n _ _ (by omega)])
theorem Wc.dine {x : WT} (h : Wc x) {z v : Int} (hz : 0 ≤ z ∧ z < 10) (hv : 0 ≤ v ∧ v ≤ 99) : Wc (x.1, x.2.1, x.2.2.1, x.2.2.2.1, x.2.2.2.2.1, x.2.2.2.2.2.1, uI x.2.2.2.2.2.2.1 z v, x.2.2.2.2.2.2.2.1, x.2.2.2.2.2.2.2.2.1, x.2.2.2.2.2.2.2.2.2.1, x.2.2.2.2.2.2.2.2.2.2.1, x.2.2.2.2.2.2.2.2.2.2.2) := by
  obtain ⟨k0, k1, k2, k3, k4, k5⟩ := h
  refine ⟨k0, k1, k2, k3, fun b b0 b1 => ?_, k5⟩
  have := k4 b b0 b1
  show (-1 ≤ x.2.2.2.1 b ∧ x.2.2.2.1 b ≤ 5) ∧ (0 ≤ x.2.2.2.2.1 b ∧ x.2.2.2.2.1 b ≤ 15) ∧ (0 ≤ x.2.2.2.2.2.1 b ∧ x.2.2.2.2.2.1 b ≤ 15) ∧ (0 ≤ uI x.2.2.2.2.2.2.1 z v b ∧ uI x.2.2.2.2.2.2.1 z v b ≤ 99) ∧ (0 ≤ x.2.2.2.2.2.2.2.1 b ∧ x.2.2.2.2.2.2.2.1 b ≤ 999)
  unfold uI
  split <;> omega
theorem fB_n {z k v b : Int} (hz : 0 ≤ z ∧ 0 ≤ b) (hk : 1 ≤ k ∧ k < 5) : fB (uI w (19 + 5 * z + k) v) b 0 = fB w b 0 := by
  unfold fB
  rw [uI_n _ _ (by omega)]
theorem J1.s1 (h : J1 w x) {z v : Int} (hz : 0 ≤ z ∧ z < w 1) (hv : 0 ≤ v ∧ v ≤ 15) : J1 (uI w (19 + 5 * z + 1) v) (x.1, x.2.1, x.2.2.1, x.2.2.2.1, uI x.2.2.2.2.1 z v, x.2.2.2.2.2.1, x.2.2.2.2.2.2.1, x.2.2.2.2.2.2.2.1, x.2.2.2.2.2.2.2.2.1, x.2.2.2.2.2.2.2.2.2.1, x.2.2.2.2.2.2.2.2.2.2.1, x.2.2.2.2.2.2.2.2.2.2.2) := by
  have m := h.2.1.many
  exact h.of (Rl_B1 h.1 (by omega)) (h.2.1.setB (by omega) (by omega)) (h.2.2.1.stand (by omega) hv) (uI_n _ _ (by omega)) (uI_n _ _ (by omega)) (fun b b0 b1 => fB_n (by omega) (by omega))
theorem J1.s2 (h : J1 w x) {z v : Int} (hz : 0 ≤ z ∧ z < w 1) (hv : 0 ≤ v ∧ v ≤ 15) : J1 (uI w (19 + 5 * z + 2) v) (x.1, x.2.1, x.2.2.1, x.2.2.2.1, x.2.2.2.2.1, uI x.2.2.2.2.2.1 z v, x.2.2.2.2.2.2.1, x.2.2.2.2.2.2.2.1, x.2.2.2.2.2.2.2.2.1, x.2.2.2.2.2.2.2.2.2.1, x.2.2.2.2.2.2.2.2.2.2.1, x.2.2.2.2.2.2.2.2.2.2.2) := by
  have m := h.2.1.many
  exact h.of (Rl_B2 h.1 (by omega)) (h.2.1.setB (by omega) (by omega)) (h.2.2.1.aim (by omega) hv) (uI_n _ _ (by omega)) (uI_n _ _ (by omega)) (fun b b0 b1 => fB_n (by omega) (by omega))
theorem J1.s3 (h : J1 w x) {z v : Int} (hz : 0 ≤ z ∧ z < w 1) (hv : 0 ≤ v ∧ v ≤ 99) : J1 (uI w (19 + 5 * z + 3) v) (x.1, x.2.1, x.2.2.1, x.2.2.2.1, x.2.2.2.2.1, x.2.2.2.2.2.1, uI x.2.2.2.2.2.2.1 z v, x.2.2.2.2.2.2.2.1, x.2.2.2.2.2.2.2.2.1, x.2.2.2.2.2.2.2.2.2.1, x.2.2.2.2.2.2.2.2.2.2.1, x.2.2.2.2.2.2.2.2.2.2.2) := by
  have m := h.2.1.many
  exact h.of (Rl_B3 h.1 (by omega)) (h.2.1.setB (by omega) (by omega)) (h.2.2.1.dine (by omega) hv) (uI_n _ _ (by omega)) (uI_n _ _ (by omega)) (fun b b0 b1 => fB_n (by omega) (by omega))
theorem J1.s4 (h : J1 w x) {z v : Int} (hz : 0 ≤ z ∧ z < w 1) (hv : 0 ≤ v ∧ v ≤ 999) : J1 (uI w (19 + 5 * z + 4) v) (x.1, x.2.1, x.2.2.1, x.2.2.2.1, x.2.2.2.2.1, x.2.2.2.2.2.1, x.2.2.2.2.2.2.1, uI x.2.2.2.2.2.2.2.1 z v, x.2.2.2.2.2.2.2.2.1, x.2.2.2.2.2.2.2.2.2.1, x.2.2.2.2.2.2.2.2.2.2.1, x.2.2.2.2.2.2.2.2.2.2.2) := by
  have m := h.2.1.many
  exact h.of (Rl_B4 h.1 (by omega)) (h.2.1.setB (by omega) (by omega)) (h.2.2.1.fast (by omega) hv) (uI_n _ _ (by omega)) (uI_n _ _ (by omega)) (fun b b0 b1 => fB_n (by omega) (by omega))
theorem J1.eat (h : J1 w x) {z v : Int} (hz : 0 ≤ z ∧ z < w 1) (hv : 0 ≤ v ∧ v ≤ 99) : J1 (eatW w z v) (x.1, x.2.1, x.2.2.1, x.2.2.2.1, x.2.2.2.2.1, x.2.2.2.2.2.1, uI x.2.2.2.2.2.2.1 z v, uI x.2.2.2.2.2.2.2.1 z 0, x.2.2.2.2.2.2.2.2.1, x.2.2.2.2.2.2.2.2.2.1, x.2.2.2.2.2.2.2.2.2.2.1, x.2.2.2.2.2.2.2.2.2.2.2) := by
  have m := h.2.1.many
  have h3 := h.s3 (z := z) (v := v) hz hv
  exact h3.s4 (z := z) (v := 0) (by rw [uI_n _ _ (by omega)]; exact hz) (by omega)
theorem J1.turn (h : J1 w x) {z k : Int} (hz : 0 ≤ z ∧ z < w 1) (hk : 0 ≤ k ∧ k ≤ 5) : J1 (uI w (19 + 5 * z + 0) k) (x.1, x.2.1, x.2.2.1, uI x.2.2.2.1 z k, x.2.2.2.2.1, x.2.2.2.2.2.1, x.2.2.2.2.2.2.1, x.2.2.2.2.2.2.2.1, x.2.2.2.2.2.2.2.2.1, x.2.2.2.2.2.2.2.2.2.1, x.2.2.2.2.2.2.2.2.2.2.1, x.2.2.2.2.2.2.2.2.2.2.2) := by
  have m := h.2.1.many
  have e1 : uI w (19 + 5 * z + 0) k 1 = w 1 := uI_n _ _ (by omega)
  refine ⟨Rl_B0 (v' := k) h.1 (if_neg (by omega)) (by omega), h.2.1.setB (by omega) (by omega), h.2.2.1.turn (by omega) (by omega), by rw [uI_n _ _ (by omega)]; exact h.2.2.2.1, fun b b0 b1 => ?_⟩
  rw [e1] at b1
  have := h.2.2.2.2 b b0 b1
  unfold fB at this ⊢
  unfold uI
  split <;> omega
theorem J1.ap (h : J1 w x) {e : ET} (he : EtK (w 1) e) (h1 : (0 ≤ e.1 ∧ e.1 ≤ 5) → w 1 < 10) (h2 : e.1 = 11 → w 2 < 8) : J1 (apR w e) (apC x e) := by
  have m := h.2.1.many
  have e1 : x.2.2.1 = w 1 := h.1.1.2.1
  have e2 : x.2.2.2.2.2.2.2.2.1 = w 2 := h.1.1.2.2
  have k5 := h.2.2.2.2
  have k9 := h.2.2.2.1
  refine ⟨Rl_ap h.1 h.2.1 he h1 h2, h.2.1.ap he h1 h2, h.2.2.1.ap (by rw [e1]; exact he) (by rw [e1]; exact h1) (by rw [e2]; exact h2), ?_, fun b b0 b1 => ?_⟩
  · rcases he with ⟨e0, a1, a2⟩ | ⟨e0, a1, a2, a3⟩ | ⟨e0, a1, a2⟩ | ⟨e0, a1, a2, a3, a4⟩
    · unfold apR; rw [if_pos e0, uI_n _ _ (by omega)]; exact k9
    · have t := h.2.1.tasks
      unfold apR addTx; rw [if_neg (by omega), if_pos e0, uI_n _ _ (by omega), uI_n _ _ (by omega), uI_n _ _ (by omega), uI_n _ _ (by omega)]; exact k9
    · unfold apR eatW; rw [if_neg (by omega), if_neg (by omega), if_pos e0, uI_n _ _ (by omega), uI_n _ _ (by omega)]; exact k9
    · unfold apR addBx; rw [if_neg (by omega), if_neg (by omega), if_neg (by omega), uI_n _ _ (by omega), uI_n _ _ (by omega), uI_n _ _ (by omega), uI_n _ _ (by omega), uI_n _ _ (by omega), uI_n _ _ (by omega)]; exact k9
  · rcases he with ⟨e0, a1, a2⟩ | ⟨e0, a1, a2, a3⟩ | ⟨e0, a1, a2⟩ | ⟨e0, a1, a2, a3, a4⟩
    · unfold apR at b1 ⊢; rw [if_pos e0] at b1 ⊢
      rw [uI_n _ _ (by omega)] at b1
      have := k5 b b0 b1
      unfold fB at this ⊢
      rw [uI_n _ _ (by omega)]; exact this
    · have t := h.2.1.tasks
      unfold apR addTx at b1 ⊢; rw [if_neg (by omega), if_pos e0] at b1 ⊢
      rw [uI_n _ _ (by omega), uI_n _ _ (by omega), uI_n _ _ (by omega), uI_n _ _ (by omega)] at b1
      have := k5 b b0 b1
      unfold fB at this ⊢
      rw [uI_n _ _ (by omega), uI_n _ _ (by omega), uI_n _ _ (by omega), uI_n _ _ (by omega)]; exact this
    · unfold apR eatW at b1 ⊢; rw [if_neg (by omega), if_neg (by omega), if_pos e0] at b1 ⊢
      rw [uI_n _ _ (by omega), uI_n _ _ (by omega)] at b1
      have := k5 b b0 b1
      unfold fB at this ⊢
      rw [uI_n _ _ (by omega), uI_n _ _ (by omega)]; exact this
    · unfold apR addBx at b1 ⊢; rw [if_neg (by omega), if_neg (by omega), if_neg (by omega)] at b1 ⊢
      rw [uI_s] at b1
      unfold fB
      rw [uI_n _ _ (by omega), uI_n _ _ (by omega), uI_n _ _ (by omega), uI_n _ _ (by omega), uI_n _ _ (by omega)]
      by_cases c : b = w 1
      · rw [c, uI_s]; omega
      · rw [uI_n _ _ (by omega)]
        exact k5 b b0 (by omega)
theorem J1.hours (h : J1 w x) {n : Int} (hn : 1 ≤ n ∧ n ≤ 100) (h0 : w 0 + n ≤ 9999) : J1 (hrs w n.toNat) (x.1 + n, boF x n, x.2.2.1, x.2.2.2.1, cpN (stF x n) x.2.2.2.2.1 x.2.2.1.toNat, x.2.2.2.2.2.1, x.2.2.2.2.2.2.1, cpN (faF x n) x.2.2.2.2.2.2.2.1 x.2.2.1.toNat, x.2.2.2.2.2.2.2.2.1, x.2.2.2.2.2.2.2.2.2.1, x.2.2.2.2.2.2.2.2.2.2.1, x.2.2.2.2.2.2.2.2.2.2.2) := by
  have m := h.2.1.many
  have hr := h.rn (n := n) (by omega)
  obtain ⟨f1, f2, f3, f4⟩ := h.2.1.hrs n.toNat (by omega)
  have e1 : x.2.2.1 = w 1 := h.1.1.2.1
  have e0 : x.1 = w 0 := h.1.1.1
  refine ⟨Rl_rows hr ⟨rfl, rfl, rfl⟩ (fun p p0 p1 => rfl) (fun b b0 b1 => ⟨rfl, ?_, rfl, rfl, ?_⟩) (fun t t0 t1 => ⟨rfl, rfl, rfl⟩), f1, h.2.2.1.hours (by omega) (by omega), by omega, fun b b0 b1 => ?_⟩
  · rw [f3] at b1
    exact if_pos (by omega)
  · rw [f3] at b1
    exact if_pos (by omega)
  · have g1 := (hr.2.2.1 b b0 b1).1
    rw [f3] at b1
    have g2 := (h.1.2.2.1 b b0 b1).1
    have g3 : kR (x.2.2.2.1 b) = fB (hrs w n.toNat) b 0 := g1
    rw [← g3, g2]
    exact h.2.2.2.2 b b0 b1
end
theorem pu_bowl {w : Int → Int} {wd : WT} {fd fe : Int → Int} {p v : Int} {rC rR : Int32} {wd2 : WT} {fd2 : Int → Int} {w2 : Int → Int} {fe2 : Int → Int} (h : J1 w wd) (hf : J2 fd fe) (hC : ((((0 ≤ p ∧ p ≤ 15) ∧ 0 ≤ v ∧ v ≤ 99)) ∧ rC = jI (wd.2.1 p) ∧ wd2 = (wd.1, uI wd.2.1 p v, wd.2.2.1, wd.2.2.2.1, wd.2.2.2.2.1, wd.2.2.2.2.2.1, wd.2.2.2.2.2.2.1, wd.2.2.2.2.2.2.2.1, wd.2.2.2.2.2.2.2.2.1, wd.2.2.2.2.2.2.2.2.2.1, wd.2.2.2.2.2.2.2.2.2.2.1, wd.2.2.2.2.2.2.2.2.2.2.2) ∧ fd2 = fd) ∨ ((¬ ((0 ≤ p ∧ p ≤ 15) ∧ 0 ≤ v ∧ v ≤ 99)) ∧ rC = jI (-1000000001) ∧ wd2 = wd ∧ fd2 = uI fd 0 (fd 0 + 1))) (hR : (((0 ≤ p ∧ p ≤ 15) ∧ 0 ≤ v ∧ v ≤ 99) ∧ rR = jI (w (3 + p)) ∧ w2 = uI w (3 + p) v ∧ fe2 = fe) ∨ ((¬ ((0 ≤ p ∧ p ≤ 15) ∧ 0 ≤ v ∧ v ≤ 99)) ∧ rR = jI (-1000000001) ∧ w2 = w ∧ fe2 = uI fe 0 (fe 0 + 1))) : rC = rR ∧ J1 w2 wd2 ∧ J2 fd2 fe2 := by
  obtain ⟨⟨⟨e0, e1, e2⟩, -⟩, hw, hc, h9, -⟩ := id h
  have m1 := hw.many
  have m2 := hw.tasks
  rcases hC with ⟨c1, rfl, rfl, rfl⟩ | ⟨c1, rfl, rfl, rfl⟩
  · rcases hR with ⟨c2, rfl, rfl, rfl⟩ | ⟨c2, rfl, rfl, rfl⟩
    · exact ⟨congrArg jI (h.1.2.1 p (by omega) (by omega)), h.bowl (by omega) (by omega), hf⟩
    · exfalso; omega
  · rcases hR with ⟨c2, rfl, rfl, rfl⟩ | ⟨c2, rfl, rfl, rfl⟩
    · exfalso; omega
    · exact ⟨rfl, h, hf.u 0 (by decide) (by decide)⟩
theorem pu_being {w : Int → Int} {wd : WT} {fd fe : Int → Int} {k p : Int} {rC rR : Int32} {wd2 : WT} {fd2 : Int → Int} {w2 : Int → Int} {fe2 : Int → Int} (h : J1 w wd) (hf : J2 fd fe) (hC : ((¬ ((0 ≤ k ∧ k ≤ 5) ∧ (0 ≤ p ∧ p ≤ 15))) ∧ rC = jI (-1000000001) ∧ wd2 = wd ∧ fd2 = uI fd 0 (fd 0 + 1)) ∨ ((((0 ≤ k ∧ k ≤ 5) ∧ (0 ≤ p ∧ p ≤ 15)) ∧ wd.2.2.1 = 10) ∧ rC = jI (-1000000002) ∧ wd2 = wd ∧ fd2 = uI fd 1 (fd 1 + 1)) ∨ ((((0 ≤ k ∧ k ≤ 5) ∧ (0 ≤ p ∧ p ≤ 15)) ∧ wd.2.2.1 < 10) ∧ rC = jI wd.2.2.1 ∧ wd2 = (wd.1, wd.2.1, wd.2.2.1 + 1, uI wd.2.2.2.1 wd.2.2.1 k, uI wd.2.2.2.2.1 wd.2.2.1 p, uI wd.2.2.2.2.2.1 wd.2.2.1 p, uI wd.2.2.2.2.2.2.1 wd.2.2.1 20, uI wd.2.2.2.2.2.2.2.1 wd.2.2.1 0, wd.2.2.2.2.2.2.2.2.1, wd.2.2.2.2.2.2.2.2.2.1, wd.2.2.2.2.2.2.2.2.2.2.1, wd.2.2.2.2.2.2.2.2.2.2.2) ∧ fd2 = fd)) (hR : ((¬ ((0 ≤ k ∧ k ≤ 5) ∧ (0 ≤ p ∧ p ≤ 15))) ∧ rR = jI (-1000000001) ∧ w2 = w ∧ fe2 = uI fe 0 (fe 0 + 1)) ∨ ((((0 ≤ k ∧ k ≤ 5) ∧ (0 ≤ p ∧ p ≤ 15)) ∧ w 1 = 10) ∧ rR = jI (-1000000002) ∧ w2 = w ∧ fe2 = uI fe 1 (fe 1 + 1)) ∨ ((((0 ≤ k ∧ k ≤ 5) ∧ (0 ≤ p ∧ p ≤ 15)) ∧ w 1 < 10) ∧ rR = jI (w 1) ∧ w2 = addBx w k p p 20 0 ∧ fe2 = fe)) : rC = rR ∧ J1 w2 wd2 ∧ J2 fd2 fe2 := by
  obtain ⟨⟨⟨e0, e1, e2⟩, -⟩, hw, hc, h9, -⟩ := id h
  have m1 := hw.many
  have m2 := hw.tasks
  rcases hC with ⟨c1, rfl, rfl, rfl⟩ | ⟨c1, rfl, rfl, rfl⟩ | ⟨c1, rfl, rfl, rfl⟩
  · rcases hR with ⟨c2, rfl, rfl, rfl⟩ | ⟨c2, rfl, rfl, rfl⟩ | ⟨c2, rfl, rfl, rfl⟩
    · exact ⟨rfl, h, hf.u 0 (by decide) (by decide)⟩
    · exfalso; omega
    · exfalso; omega
  · rcases hR with ⟨c2, rfl, rfl, rfl⟩ | ⟨c2, rfl, rfl, rfl⟩ | ⟨c2, rfl, rfl, rfl⟩
    · exfalso; omega
    · exact ⟨rfl, h, hf.u 1 (by decide) (by decide)⟩
    · exfalso; omega
  · rcases hR with ⟨c2, rfl, rfl, rfl⟩ | ⟨c2, rfl, rfl, rfl⟩ | ⟨c2, rfl, rfl, rfl⟩
    · exfalso; omega
    · exfalso; omega
    · exact ⟨congrArg jI e1, (by have q := h.ap (e := (k, p, p, 20, 0)) (Or.inr (Or.inr (Or.inr ⟨by dsimp only; omega, by dsimp only; omega, by dsimp only; omega, by dsimp only; omega, by dsimp only; omega⟩))) (fun _ => by omega) (fun z_ => absurd z_ (by show ¬ k = 11; omega)); rw [apR_b (by omega), apC_b (by omega)] at q; exact q), hf⟩
theorem pu_turn {w : Int → Int} {wd : WT} {fd fe : Int → Int} {z k : Int} {rC rR : Int32} {wd2 : WT} {fd2 : Int → Int} {w2 : Int → Int} {fe2 : Int → Int} (h : J1 w wd) (hf : J2 fd fe) (hC : ((((0 ≤ z ∧ z < wd.2.2.1) ∧ 0 ≤ k ∧ k ≤ 5)) ∧ rC = jI (wd.2.2.2.1 z) ∧ wd2 = (wd.1, wd.2.1, wd.2.2.1, uI wd.2.2.2.1 z k, wd.2.2.2.2.1, wd.2.2.2.2.2.1, wd.2.2.2.2.2.2.1, wd.2.2.2.2.2.2.2.1, wd.2.2.2.2.2.2.2.2.1, wd.2.2.2.2.2.2.2.2.2.1, wd.2.2.2.2.2.2.2.2.2.2.1, wd.2.2.2.2.2.2.2.2.2.2.2) ∧ fd2 = fd) ∨ ((¬ ((0 ≤ z ∧ z < wd.2.2.1) ∧ 0 ≤ k ∧ k ≤ 5)) ∧ rC = jI (-1000000001) ∧ wd2 = wd ∧ fd2 = uI fd 0 (fd 0 + 1))) (hR : ((((0 ≤ z ∧ z ≤ w 1 - 1) ∧ 0 ≤ k ∧ k ≤ 5)) ∧ rR = jI (fB w z 0) ∧ w2 = uI w (19 + 5 * z + 0) k ∧ fe2 = fe) ∨ ((¬ ((0 ≤ z ∧ z ≤ w 1 - 1) ∧ 0 ≤ k ∧ k ≤ 5)) ∧ rR = jI (-1000000001) ∧ w2 = w ∧ fe2 = uI fe 0 (fe 0 + 1))) : rC = rR ∧ J1 w2 wd2 ∧ J2 fd2 fe2 := by
  obtain ⟨⟨⟨e0, e1, e2⟩, -⟩, hw, hc, h9, -⟩ := id h
  have m1 := hw.many
  have m2 := hw.tasks
  rcases hC with ⟨c1, rfl, rfl, rfl⟩ | ⟨c1, rfl, rfl, rfl⟩
  · rcases hR with ⟨c2, rfl, rfl, rfl⟩ | ⟨c2, rfl, rfl, rfl⟩
    · exact ⟨congrArg jI (h.be (by omega)).1, h.turn (by omega) (by omega), hf⟩
    · exfalso; omega
  · rcases hR with ⟨c2, rfl, rfl, rfl⟩ | ⟨c2, rfl, rfl, rfl⟩
    · exfalso; omega
    · exact ⟨rfl, h, hf.u 0 (by decide) (by decide)⟩
theorem pu_set {w : Int → Int} {wd : WT} {fd fe : Int → Int} {z t v : Int} {rC rR : Int32} {wd2 : WT} {fd2 : Int → Int} {w2 : Int → Int} {fe2 : Int → Int} (h : J1 w wd) (hf : J2 fd fe) (hC : (((((0 ≤ z ∧ z < wd.2.2.1) ∧ (((t = 1 ∨ t = 2) ∧ 0 ≤ v ∧ v ≤ 15) ∨ (t = 3 ∧ 0 ≤ v ∧ v ≤ 99) ∨ (t = 4 ∧ 0 ≤ v ∧ v ≤ 999)))) ∧ t = 1) ∧ rC = jI (wd.2.2.2.2.1 z) ∧ wd2 = (wd.1, wd.2.1, wd.2.2.1, wd.2.2.2.1, uI wd.2.2.2.2.1 z v, wd.2.2.2.2.2.1, wd.2.2.2.2.2.2.1, wd.2.2.2.2.2.2.2.1, wd.2.2.2.2.2.2.2.2.1, wd.2.2.2.2.2.2.2.2.2.1, wd.2.2.2.2.2.2.2.2.2.2.1, wd.2.2.2.2.2.2.2.2.2.2.2) ∧ fd2 = fd) ∨ (((((0 ≤ z ∧ z < wd.2.2.1) ∧ (((t = 1 ∨ t = 2) ∧ 0 ≤ v ∧ v ≤ 15) ∨ (t = 3 ∧ 0 ≤ v ∧ v ≤ 99) ∨ (t = 4 ∧ 0 ≤ v ∧ v ≤ 999)))) ∧ t = 2) ∧ rC = jI (wd.2.2.2.2.2.1 z) ∧ wd2 = (wd.1, wd.2.1, wd.2.2.1, wd.2.2.2.1, wd.2.2.2.2.1, uI wd.2.2.2.2.2.1 z v, wd.2.2.2.2.2.2.1, wd.2.2.2.2.2.2.2.1, wd.2.2.2.2.2.2.2.2.1, wd.2.2.2.2.2.2.2.2.2.1, wd.2.2.2.2.2.2.2.2.2.2.1, wd.2.2.2.2.2.2.2.2.2.2.2) ∧ fd2 = fd) ∨ (((((0 ≤ z ∧ z < wd.2.2.1) ∧ (((t = 1 ∨ t = 2) ∧ 0 ≤ v ∧ v ≤ 15) ∨ (t = 3 ∧ 0 ≤ v ∧ v ≤ 99) ∨ (t = 4 ∧ 0 ≤ v ∧ v ≤ 999)))) ∧ t = 3) ∧ rC = jI (wd.2.2.2.2.2.2.1 z) ∧ wd2 = (wd.1, wd.2.1, wd.2.2.1, wd.2.2.2.1, wd.2.2.2.2.1, wd.2.2.2.2.2.1, uI wd.2.2.2.2.2.2.1 z v, wd.2.2.2.2.2.2.2.1, wd.2.2.2.2.2.2.2.2.1, wd.2.2.2.2.2.2.2.2.2.1, wd.2.2.2.2.2.2.2.2.2.2.1, wd.2.2.2.2.2.2.2.2.2.2.2) ∧ fd2 = fd) ∨ (((((0 ≤ z ∧ z < wd.2.2.1) ∧ (((t = 1 ∨ t = 2) ∧ 0 ≤ v ∧ v ≤ 15) ∨ (t = 3 ∧ 0 ≤ v ∧ v ≤ 99) ∨ (t = 4 ∧ 0 ≤ v ∧ v ≤ 999)))) ∧ t = 4) ∧ rC = jI (wd.2.2.2.2.2.2.2.1 z) ∧ wd2 = (wd.1, wd.2.1, wd.2.2.1, wd.2.2.2.1, wd.2.2.2.2.1, wd.2.2.2.2.2.1, wd.2.2.2.2.2.2.1, uI wd.2.2.2.2.2.2.2.1 z v, wd.2.2.2.2.2.2.2.2.1, wd.2.2.2.2.2.2.2.2.2.1, wd.2.2.2.2.2.2.2.2.2.2.1, wd.2.2.2.2.2.2.2.2.2.2.2) ∧ fd2 = fd) ∨ ((¬ ((0 ≤ z ∧ z < wd.2.2.1) ∧ (((t = 1 ∨ t = 2) ∧ 0 ≤ v ∧ v ≤ 15) ∨ (t = 3 ∧ 0 ≤ v ∧ v ≤ 99) ∨ (t = 4 ∧ 0 ≤ v ∧ v ≤ 999)))) ∧ rC = jI (-1000000001) ∧ wd2 = wd ∧ fd2 = uI fd 0 (fd 0 + 1))) (hR : ((((0 ≤ z ∧ z ≤ w 1 - 1) ∧ (((t = 1 ∨ t = 2) ∧ 0 ≤ v ∧ v ≤ 15) ∨ (t = 3 ∧ 0 ≤ v ∧ v ≤ 99) ∨ (t = 4 ∧ 0 ≤ v ∧ v ≤ 999)))) ∧ rR = jI (fB w z t) ∧ w2 = uI w (19 + 5 * z + t) v ∧ fe2 = fe) ∨ ((¬ ((0 ≤ z ∧ z ≤ w 1 - 1) ∧ (((t = 1 ∨ t = 2) ∧ 0 ≤ v ∧ v ≤ 15) ∨ (t = 3 ∧ 0 ≤ v ∧ v ≤ 99) ∨ (t = 4 ∧ 0 ≤ v ∧ v ≤ 999)))) ∧ rR = jI (-1000000001) ∧ w2 = w ∧ fe2 = uI fe 0 (fe 0 + 1))) : rC = rR ∧ J1 w2 wd2 ∧ J2 fd2 fe2 := by
  obtain ⟨⟨⟨e0, e1, e2⟩, -⟩, hw, hc, h9, -⟩ := id h
  have m1 := hw.many
  have m2 := hw.tasks
  rcases hC with ⟨c1, rfl, rfl, rfl⟩ | ⟨c1, rfl, rfl, rfl⟩ | ⟨c1, rfl, rfl, rfl⟩ | ⟨c1, rfl, rfl, rfl⟩ | ⟨c1, rfl, rfl, rfl⟩
  · rcases hR with ⟨c2, rfl, rfl, rfl⟩ | ⟨c2, rfl, rfl, rfl⟩
    · exact ⟨(by have ht : t = 1 := (by omega); subst ht; exact congrArg jI (h.be (by omega)).2.1), (by have ht : t = 1 := (by omega); subst ht; exact h.s1 (by omega) (by omega)), hf⟩
    · exfalso; omega
  · rcases hR with ⟨c2, rfl, rfl, rfl⟩ | ⟨c2, rfl, rfl, rfl⟩
    · exact ⟨(by have ht : t = 2 := (by omega); subst ht; exact congrArg jI (h.be (by omega)).2.2.1), (by have ht : t = 2 := (by omega); subst ht; exact h.s2 (by omega) (by omega)), hf⟩
    · exfalso; omega
  · rcases hR with ⟨c2, rfl, rfl, rfl⟩ | ⟨c2, rfl, rfl, rfl⟩
    · exact ⟨(by have ht : t = 3 := (by omega); subst ht; exact congrArg jI (h.be (by omega)).2.2.2.1), (by have ht : t = 3 := (by omega); subst ht; exact h.s3 (by omega) (by omega)), hf⟩
    · exfalso; omega
  · rcases hR with ⟨c2, rfl, rfl, rfl⟩ | ⟨c2, rfl, rfl, rfl⟩
    · exact ⟨(by have ht : t = 4 := (by omega); subst ht; exact congrArg jI (h.be (by omega)).2.2.2.2), (by have ht : t = 4 := (by omega); subst ht; exact h.s4 (by omega) (by omega)), hf⟩
    · exfalso; omega
  · rcases hR with ⟨c2, rfl, rfl, rfl⟩ | ⟨c2, rfl, rfl, rfl⟩
    · exfalso; omega
    · exact ⟨rfl, h, hf.u 0 (by decide) (by decide)⟩
theorem pu_eat {w : Int → Int} {wd : WT} {fd fe : Int → Int} {z v : Int} {rC rR : Int32} {wd2 : WT} {fd2 : Int → Int} {gl2 : GT} {w2 : Int → Int} {fe2 : Int → Int} (h : J1 w wd) (hf : J2 fd fe) (hC : ((¬ ((0 ≤ z ∧ z < wd.2.2.1) ∧ 0 ≤ v ∧ v ≤ 99)) ∧ rC = jI (-1000000001) ∧ wd2 = wd ∧ fd2 = uI fd 0 (fd 0 + 1)) ∨ ((((0 ≤ z ∧ z < wd.2.2.1) ∧ 0 ≤ v ∧ v ≤ 99)) ∧ rC = jI (shF (wd.1, wd.2.1, wd.2.2.1, wd.2.2.2.1, wd.2.2.2.2.1, wd.2.2.2.2.2.1, uI wd.2.2.2.2.2.2.1 z v, uI wd.2.2.2.2.2.2.2.1 z 0, wd.2.2.2.2.2.2.2.2.1, wd.2.2.2.2.2.2.2.2.2.1, wd.2.2.2.2.2.2.2.2.2.2.1, wd.2.2.2.2.2.2.2.2.2.2.2) 0 z) ∧ wd2 = (wd.1, wd.2.1, wd.2.2.1, wd.2.2.2.1, wd.2.2.2.2.1, wd.2.2.2.2.2.1, uI wd.2.2.2.2.2.2.1 z v, uI wd.2.2.2.2.2.2.2.1 z 0, wd.2.2.2.2.2.2.2.2.1, wd.2.2.2.2.2.2.2.2.2.1, wd.2.2.2.2.2.2.2.2.2.2.1, wd.2.2.2.2.2.2.2.2.2.2.2) ∧ fd2 = fd)) (hR : ((¬ ((0 ≤ z ∧ z ≤ w 1 - 1) ∧ 0 ≤ v ∧ v ≤ 99)) ∧ rR = jI (-1000000001) ∧ w2 = w ∧ fe2 = uI fe 0 (fe 0 + 1)) ∨ ((((0 ≤ z ∧ z ≤ w 1 - 1) ∧ 0 ≤ v ∧ v ≤ 99)) ∧ rR = jI (sSh (eatW w z v) z) ∧ w2 = eatW w z v ∧ fe2 = fe)) : rC = rR ∧ J1 w2 wd2 ∧ J2 fd2 fe2 := by
  obtain ⟨⟨⟨e0, e1, e2⟩, -⟩, hw, hc, h9, -⟩ := id h
  have m1 := hw.many
  have m2 := hw.tasks
  rcases hC with ⟨c1, rfl, rfl, rfl⟩ | ⟨c1, rfl, rfl, rfl⟩
  · rcases hR with ⟨c2, rfl, rfl, rfl⟩ | ⟨c2, rfl, rfl, rfl⟩
    · exact ⟨rfl, h, hf.u 0 (by decide) (by decide)⟩
    · exfalso; omega
  · rcases hR with ⟨c2, rfl, rfl, rfl⟩ | ⟨c2, rfl, rfl, rfl⟩
    · exfalso; omega
    · exact ⟨(by have q := h.eat (z := z) (v := v) (by omega) (by omega); exact congrArg jI (shF_eq q.2.2.1 q.r0 (by omega) (by have e9 : eatW w z v 1 = w 1 := (by unfold eatW; rw [uI_n _ _ (by omega), uI_n _ _ (by omega)]); omega))), h.eat (by omega) (by omega), hf⟩
theorem pu_task {w : Int → Int} {wd : WT} {fd fe : Int → Int} {p h_ n : Int} {rC rR : Int32} {wd2 : WT} {fd2 : Int → Int} {w2 : Int → Int} {fe2 : Int → Int} (h : J1 w wd) (hf : J2 fd fe) (hC : ((¬ ((0 ≤ p ∧ p ≤ 15) ∧ (0 ≤ h_ ∧ h_ ≤ 99) ∧ 1 ≤ n ∧ n ≤ 99)) ∧ rC = jI (-1000000001) ∧ wd2 = wd ∧ fd2 = uI fd 0 (fd 0 + 1)) ∨ ((((0 ≤ p ∧ p ≤ 15) ∧ (0 ≤ h_ ∧ h_ ≤ 99) ∧ 1 ≤ n ∧ n ≤ 99) ∧ wd.2.2.2.2.2.2.2.2.1 = 8) ∧ rC = jI (-1000000002) ∧ wd2 = wd ∧ fd2 = uI fd 1 (fd 1 + 1)) ∨ ((((0 ≤ p ∧ p ≤ 15) ∧ (0 ≤ h_ ∧ h_ ≤ 99) ∧ 1 ≤ n ∧ n ≤ 99) ∧ wd.2.2.2.2.2.2.2.2.1 < 8) ∧ rC = jI wd.2.2.2.2.2.2.2.2.1 ∧ wd2 = (wd.1, wd.2.1, wd.2.2.1, wd.2.2.2.1, wd.2.2.2.2.1, wd.2.2.2.2.2.1, wd.2.2.2.2.2.2.1, wd.2.2.2.2.2.2.2.1, wd.2.2.2.2.2.2.2.2.1 + 1, uI wd.2.2.2.2.2.2.2.2.2.1 wd.2.2.2.2.2.2.2.2.1 p, uI wd.2.2.2.2.2.2.2.2.2.2.1 wd.2.2.2.2.2.2.2.2.1 h_, uI wd.2.2.2.2.2.2.2.2.2.2.2 wd.2.2.2.2.2.2.2.2.1 n) ∧ fd2 = fd)) (hR : ((¬ ((0 ≤ p ∧ p ≤ 15) ∧ (0 ≤ h_ ∧ h_ ≤ 99) ∧ 1 ≤ n ∧ n ≤ 99)) ∧ rR = jI (-1000000001) ∧ w2 = w ∧ fe2 = uI fe 0 (fe 0 + 1)) ∨ ((((0 ≤ p ∧ p ≤ 15) ∧ (0 ≤ h_ ∧ h_ ≤ 99) ∧ 1 ≤ n ∧ n ≤ 99) ∧ w 2 = 8) ∧ rR = jI (-1000000002) ∧ w2 = w ∧ fe2 = uI fe 1 (fe 1 + 1)) ∨ ((((0 ≤ p ∧ p ≤ 15) ∧ (0 ≤ h_ ∧ h_ ≤ 99) ∧ 1 ≤ n ∧ n ≤ 99) ∧ w 2 < 8) ∧ rR = jI (w 2) ∧ w2 = addTx w p h_ n ∧ fe2 = fe)) : rC = rR ∧ J1 w2 wd2 ∧ J2 fd2 fe2 := by
  obtain ⟨⟨⟨e0, e1, e2⟩, -⟩, hw, hc, h9, -⟩ := id h
  have m1 := hw.many
  have m2 := hw.tasks
  rcases hC with ⟨c1, rfl, rfl, rfl⟩ | ⟨c1, rfl, rfl, rfl⟩ | ⟨c1, rfl, rfl, rfl⟩
  · rcases hR with ⟨c2, rfl, rfl, rfl⟩ | ⟨c2, rfl, rfl, rfl⟩ | ⟨c2, rfl, rfl, rfl⟩
    · exact ⟨rfl, h, hf.u 0 (by decide) (by decide)⟩
    · exfalso; omega
    · exfalso; omega
  · rcases hR with ⟨c2, rfl, rfl, rfl⟩ | ⟨c2, rfl, rfl, rfl⟩ | ⟨c2, rfl, rfl, rfl⟩
    · exfalso; omega
    · exact ⟨rfl, h, hf.u 1 (by decide) (by decide)⟩
    · exfalso; omega
  · rcases hR with ⟨c2, rfl, rfl, rfl⟩ | ⟨c2, rfl, rfl, rfl⟩ | ⟨c2, rfl, rfl, rfl⟩
    · exfalso; omega
    · exfalso; omega
    · exact ⟨congrArg jI e2, (h.ap (e := (11, p, h_, n, 0)) (Or.inr (Or.inl ⟨rfl, by dsimp only; omega, by dsimp only; omega, by dsimp only; omega⟩)) (fun z_ => absurd z_.2 (show ¬ (11 : Int) ≤ 5 by decide)) (fun _ => by omega)), hf⟩
theorem pu_hours {w : Int → Int} {wd : WT} {fd fe : Int → Int} {n : Int} {rC rR : Int32} {wd2 : WT} {fd2 : Int → Int} {gl2 : GT} {li2 : Int → Int} {w2 : Int → Int} {fe2 : Int → Int} (h : J1 w wd) (hf : J2 fd fe) (hC : ((¬ (1 ≤ n ∧ n ≤ 100)) ∧ rC = jI (-1000000001) ∧ wd2 = wd ∧ fd2 = uI fd 0 (fd 0 + 1)) ∨ (((1 ≤ n ∧ n ≤ 100) ∧ 9999 < wd.1 + n) ∧ rC = jI (-1000000005) ∧ wd2 = wd ∧ fd2 = uI fd 4 (fd 4 + 1)) ∨ (((1 ≤ n ∧ n ≤ 100) ∧ wd.1 + n ≤ 9999) ∧ rC = jI (sumN (cLt (wd.1 + n, boF wd n, wd.2.2.1, wd.2.2.2.1, cpN (stF wd n) wd.2.2.2.2.1 wd.2.2.1.toNat, wd.2.2.2.2.2.1, wd.2.2.2.2.2.2.1, cpN (faF wd n) wd.2.2.2.2.2.2.2.1 wd.2.2.1.toNat, wd.2.2.2.2.2.2.2.2.1, wd.2.2.2.2.2.2.2.2.2.1, wd.2.2.2.2.2.2.2.2.2.2.1, wd.2.2.2.2.2.2.2.2.2.2.2) 0) 16) ∧ wd2 = (wd.1 + n, boF wd n, wd.2.2.1, wd.2.2.2.1, cpN (stF wd n) wd.2.2.2.2.1 wd.2.2.1.toNat, wd.2.2.2.2.2.1, wd.2.2.2.2.2.2.1, cpN (faF wd n) wd.2.2.2.2.2.2.2.1 wd.2.2.1.toNat, wd.2.2.2.2.2.2.2.2.1, wd.2.2.2.2.2.2.2.2.2.1, wd.2.2.2.2.2.2.2.2.2.2.1, wd.2.2.2.2.2.2.2.2.2.2.2) ∧ fd2 = fd)) (hR : ((¬ (1 ≤ n ∧ n ≤ 100)) ∧ rR = jI (-1000000001) ∧ w2 = w ∧ fe2 = uI fe 0 (fe 0 + 1)) ∨ (((1 ≤ n ∧ n ≤ 100) ∧ 9999 < w 0 + n) ∧ rR = jI (-1000000005) ∧ w2 = w ∧ fe2 = uI fe 4 (fe 4 + 1)) ∨ (((1 ≤ n ∧ n ≤ 100) ∧ w 0 + n ≤ 9999) ∧ rR = jI (sLtAll (hrs w n.toNat)) ∧ w2 = hrs w n.toNat ∧ fe2 = fe)) : rC = rR ∧ J1 w2 wd2 ∧ J2 fd2 fe2 := by
  obtain ⟨⟨⟨e0, e1, e2⟩, -⟩, hw, hc, h9, -⟩ := id h
  have m1 := hw.many
  have m2 := hw.tasks
  rcases hC with ⟨c1, rfl, rfl, rfl⟩ | ⟨c1, rfl, rfl, rfl⟩ | ⟨c1, rfl, rfl, rfl⟩
  · rcases hR with ⟨c2, rfl, rfl, rfl⟩ | ⟨c2, rfl, rfl, rfl⟩ | ⟨c2, rfl, rfl, rfl⟩
    · exact ⟨rfl, h, hf.u 0 (by decide) (by decide)⟩
    · exfalso; omega
    · exfalso; omega
  · rcases hR with ⟨c2, rfl, rfl, rfl⟩ | ⟨c2, rfl, rfl, rfl⟩ | ⟨c2, rfl, rfl, rfl⟩
    · exfalso; omega
    · exact ⟨rfl, h, hf.u 4 (by decide) (by decide)⟩
    · exfalso; omega
  · rcases hR with ⟨c2, rfl, rfl, rfl⟩ | ⟨c2, rfl, rfl, rfl⟩ | ⟨c2, rfl, rfl, rfl⟩
    · exfalso; omega
    · exfalso; omega
    · exact ⟨(by have q := h.hours (n := n) (by omega) (by omega); exact congrArg jI (sumN_c 16 (fun k h0 h1 => q.lt ⟨h0, by omega⟩))), h.hours (by omega) (by omega), hf⟩

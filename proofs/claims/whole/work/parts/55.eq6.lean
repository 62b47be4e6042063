theorem Rl_B0 {w : Int → Int} {x : WT} (h : Rl w x) {z v : Int} {v' : Int} (hv : kR v' = v) (hz : 0 ≤ z ∧ z < 10) : Rl (uI w (19 + 5 * z + 0) v) (x.1, x.2.1, x.2.2.1, uI x.2.2.2.1 z v', x.2.2.2.2.1, x.2.2.2.2.2.1, x.2.2.2.2.2.2.1, x.2.2.2.2.2.2.2.1, x.2.2.2.2.2.2.2.2.1, x.2.2.2.2.2.2.2.2.2.1, x.2.2.2.2.2.2.2.2.2.2.1, x.2.2.2.2.2.2.2.2.2.2.2) := by
  obtain ⟨⟨a1, a2, a3⟩, hb, hg, ht⟩ := h
  have e1 : uI w (19 + 5 * z + 0) v 1 = w 1 := uI_n _ _ (by omega)
  have e2 : uI w (19 + 5 * z + 0) v 2 = w 2 := uI_n _ _ (by omega)
  refine ⟨⟨by rw [uI_n _ _ (by omega)]; exact a1, by rw [e1]; exact a2, by rw [e2]; exact a3⟩, fun p p0 p1 => by rw [uI_n _ _ (by omega)]; exact hb p p0 p1, fun b b0 b1 => ?_, fun t t0 t1 => ?_⟩
  · rw [e1] at b1
    obtain ⟨g0, g1, g2, g3, g4⟩ := hg b b0 b1
    refine ⟨?_, ?_, ?_, ?_, ?_⟩
    · show kR (uI x.2.2.2.1 z v' b) = uI w (19 + 5 * z + 0) v (19 + 5 * b + 0)
      by_cases e : b = z
      · subst e
        rw [uI_s, uI_s]; exact hv
      · rw [uI_n _ _ e, uI_n _ _ (by omega)]
        exact g0
    · show x.2.2.2.2.1 b = uI w (19 + 5 * z + 0) v (19 + 5 * b + 1)
      rw [uI_n _ _ (by omega)]
      exact g1
    · show x.2.2.2.2.2.1 b = uI w (19 + 5 * z + 0) v (19 + 5 * b + 2)
      rw [uI_n _ _ (by omega)]
      exact g2
    · show x.2.2.2.2.2.2.1 b = uI w (19 + 5 * z + 0) v (19 + 5 * b + 3)
      rw [uI_n _ _ (by omega)]
      exact g3
    · show x.2.2.2.2.2.2.2.1 b = uI w (19 + 5 * z + 0) v (19 + 5 * b + 4)
      rw [uI_n _ _ (by omega)]
      exact g4
  · rw [e2] at t1
    unfold fT
    rw [uI_n _ _ (by omega), uI_n _ _ (by omega), uI_n _ _ (by omega)]
    exact ht t t0 t1

theorem Rl_B1 {w : Int → Int} {x : WT} (h : Rl w x) {z v : Int} (hz : 0 ≤ z ∧ z < 10) : Rl (uI w (19 + 5 * z + 1) v) (x.1, x.2.1, x.2.2.1, x.2.2.2.1, uI x.2.2.2.2.1 z v, x.2.2.2.2.2.1, x.2.2.2.2.2.2.1, x.2.2.2.2.2.2.2.1, x.2.2.2.2.2.2.2.2.1, x.2.2.2.2.2.2.2.2.2.1, x.2.2.2.2.2.2.2.2.2.2.1, x.2.2.2.2.2.2.2.2.2.2.2) := by
  obtain ⟨⟨a1, a2, a3⟩, hb, hg, ht⟩ := h
  have e1 : uI w (19 + 5 * z + 1) v 1 = w 1 := uI_n _ _ (by omega)
  have e2 : uI w (19 + 5 * z + 1) v 2 = w 2 := uI_n _ _ (by omega)
  refine ⟨⟨by rw [uI_n _ _ (by omega)]; exact a1, by rw [e1]; exact a2, by rw [e2]; exact a3⟩, fun p p0 p1 => by rw [uI_n _ _ (by omega)]; exact hb p p0 p1, fun b b0 b1 => ?_, fun t t0 t1 => ?_⟩
  · rw [e1] at b1
    obtain ⟨g0, g1, g2, g3, g4⟩ := hg b b0 b1
    refine ⟨?_, ?_, ?_, ?_, ?_⟩
    · show kR (x.2.2.2.1 b) = uI w (19 + 5 * z + 1) v (19 + 5 * b + 0)
      rw [uI_n _ _ (by omega)]
      exact g0
    · show uI x.2.2.2.2.1 z v b = uI w (19 + 5 * z + 1) v (19 + 5 * b + 1)
      by_cases e : b = z
      · subst e
        rw [uI_s, uI_s]
      · rw [uI_n _ _ e, uI_n _ _ (by omega)]
        exact g1
    · show x.2.2.2.2.2.1 b = uI w (19 + 5 * z + 1) v (19 + 5 * b + 2)
      rw [uI_n _ _ (by omega)]
      exact g2
    · show x.2.2.2.2.2.2.1 b = uI w (19 + 5 * z + 1) v (19 + 5 * b + 3)
      rw [uI_n _ _ (by omega)]
      exact g3
    · show x.2.2.2.2.2.2.2.1 b = uI w (19 + 5 * z + 1) v (19 + 5 * b + 4)
      rw [uI_n _ _ (by omega)]
      exact g4
  · rw [e2] at t1
    unfold fT
    rw [uI_n _ _ (by omega), uI_n _ _ (by omega), uI_n _ _ (by omega)]
    exact ht t t0 t1

theorem Rl_B2 {w : Int → Int} {x : WT} (h : Rl w x) {z v : Int} (hz : 0 ≤ z ∧ z < 10) : Rl (uI w (19 + 5 * z + 2) v) (x.1, x.2.1, x.2.2.1, x.2.2.2.1, x.2.2.2.2.1, uI x.2.2.2.2.2.1 z v, x.2.2.2.2.2.2.1, x.2.2.2.2.2.2.2.1, x.2.2.2.2.2.2.2.2.1, x.2.2.2.2.2.2.2.2.2.1, x.2.2.2.2.2.2.2.2.2.2.1, x.2.2.2.2.2.2.2.2.2.2.2) := by
  obtain ⟨⟨a1, a2, a3⟩, hb, hg, ht⟩ := h
  have e1 : uI w (19 + 5 * z + 2) v 1 = w 1 := uI_n _ _ (by omega)
  have e2 : uI w (19 + 5 * z + 2) v 2 = w 2 := uI_n _ _ (by omega)
  refine ⟨⟨by rw [uI_n _ _ (by omega)]; exact a1, by rw [e1]; exact a2, by rw [e2]; exact a3⟩, fun p p0 p1 => by rw [uI_n _ _ (by omega)]; exact hb p p0 p1, fun b b0 b1 => ?_, fun t t0 t1 => ?_⟩
  · rw [e1] at b1
    obtain ⟨g0, g1, g2, g3, g4⟩ := hg b b0 b1
    refine ⟨?_, ?_, ?_, ?_, ?_⟩
    · show kR (x.2.2.2.1 b) = uI w (19 + 5 * z + 2) v (19 + 5 * b + 0)
      rw [uI_n _ _ (by omega)]
      exact g0
    · show x.2.2.2.2.1 b = uI w (19 + 5 * z + 2) v (19 + 5 * b + 1)
      rw [uI_n _ _ (by omega)]
      exact g1
    · show uI x.2.2.2.2.2.1 z v b = uI w (19 + 5 * z + 2) v (19 + 5 * b + 2)
      by_cases e : b = z
      · subst e
        rw [uI_s, uI_s]
      · rw [uI_n _ _ e, uI_n _ _ (by omega)]
        exact g2
    · show x.2.2.2.2.2.2.1 b = uI w (19 + 5 * z + 2) v (19 + 5 * b + 3)
      rw [uI_n _ _ (by omega)]
      exact g3
    · show x.2.2.2.2.2.2.2.1 b = uI w (19 + 5 * z + 2) v (19 + 5 * b + 4)
      rw [uI_n _ _ (by omega)]
      exact g4
  · rw [e2] at t1
    unfold fT
    rw [uI_n _ _ (by omega), uI_n _ _ (by omega), uI_n _ _ (by omega)]
    exact ht t t0 t1

theorem Rl_B3 {w : Int → Int} {x : WT} (h : Rl w x) {z v : Int} (hz : 0 ≤ z ∧ z < 10) : Rl (uI w (19 + 5 * z + 3) v) (x.1, x.2.1, x.2.2.1, x.2.2.2.1, x.2.2.2.2.1, x.2.2.2.2.2.1, uI x.2.2.2.2.2.2.1 z v, x.2.2.2.2.2.2.2.1, x.2.2.2.2.2.2.2.2.1, x.2.2.2.2.2.2.2.2.2.1, x.2.2.2.2.2.2.2.2.2.2.1, x.2.2.2.2.2.2.2.2.2.2.2) := by
  obtain ⟨⟨a1, a2, a3⟩, hb, hg, ht⟩ := h
  have e1 : uI w (19 + 5 * z + 3) v 1 = w 1 := uI_n _ _ (by omega)
  have e2 : uI w (19 + 5 * z + 3) v 2 = w 2 := uI_n _ _ (by omega)
  refine ⟨⟨by rw [uI_n _ _ (by omega)]; exact a1, by rw [e1]; exact a2, by rw [e2]; exact a3⟩, fun p p0 p1 => by rw [uI_n _ _ (by omega)]; exact hb p p0 p1, fun b b0 b1 => ?_, fun t t0 t1 => ?_⟩
  · rw [e1] at b1
    obtain ⟨g0, g1, g2, g3, g4⟩ := hg b b0 b1
    refine ⟨?_, ?_, ?_, ?_, ?_⟩
    · show kR (x.2.2.2.1 b) = uI w (19 + 5 * z + 3) v (19 + 5 * b + 0)
      rw [uI_n _ _ (by omega)]
      exact g0
    · show x.2.2.2.2.1 b = uI w (19 + 5 * z + 3) v (19 + 5 * b + 1)
      rw [uI_n _ _ (by omega)]
      exact g1
    · show x.2.2.2.2.2.1 b = uI w (19 + 5 * z + 3) v (19 + 5 * b + 2)
      rw [uI_n _ _ (by omega)]
      exact g2
    · show uI x.2.2.2.2.2.2.1 z v b = uI w (19 + 5 * z + 3) v (19 + 5 * b + 3)
      by_cases e : b = z
      · subst e
        rw [uI_s, uI_s]
      · rw [uI_n _ _ e, uI_n _ _ (by omega)]
        exact g3
    · show x.2.2.2.2.2.2.2.1 b = uI w (19 + 5 * z + 3) v (19 + 5 * b + 4)
      rw [uI_n _ _ (by omega)]
      exact g4
  · rw [e2] at t1
    unfold fT
    rw [uI_n _ _ (by omega), uI_n _ _ (by omega), uI_n _ _ (by omega)]
    exact ht t t0 t1

theorem Rl_B4 {w : Int → Int} {x : WT} (h : Rl w x) {z v : Int} (hz : 0 ≤ z ∧ z < 10) : Rl (uI w (19 + 5 * z + 4) v) (x.1, x.2.1, x.2.2.1, x.2.2.2.1, x.2.2.2.2.1, x.2.2.2.2.2.1, x.2.2.2.2.2.2.1, uI x.2.2.2.2.2.2.2.1 z v, x.2.2.2.2.2.2.2.2.1, x.2.2.2.2.2.2.2.2.2.1, x.2.2.2.2.2.2.2.2.2.2.1, x.2.2.2.2.2.2.2.2.2.2.2) := by
  obtain ⟨⟨a1, a2, a3⟩, hb, hg, ht⟩ := h
  have e1 : uI w (19 + 5 * z + 4) v 1 = w 1 := uI_n _ _ (by omega)
  have e2 : uI w (19 + 5 * z + 4) v 2 = w 2 := uI_n _ _ (by omega)
  refine ⟨⟨by rw [uI_n _ _ (by omega)]; exact a1, by rw [e1]; exact a2, by rw [e2]; exact a3⟩, fun p p0 p1 => by rw [uI_n _ _ (by omega)]; exact hb p p0 p1, fun b b0 b1 => ?_, fun t t0 t1 => ?_⟩
  · rw [e1] at b1
    obtain ⟨g0, g1, g2, g3, g4⟩ := hg b b0 b1
    refine ⟨?_, ?_, ?_, ?_, ?_⟩
    · show kR (x.2.2.2.1 b) = uI w (19 + 5 * z + 4) v (19 + 5 * b + 0)
      rw [uI_n _ _ (by omega)]
      exact g0
    · show x.2.2.2.2.1 b = uI w (19 + 5 * z + 4) v (19 + 5 * b + 1)
      rw [uI_n _ _ (by omega)]
      exact g1
    · show x.2.2.2.2.2.1 b = uI w (19 + 5 * z + 4) v (19 + 5 * b + 2)
      rw [uI_n _ _ (by omega)]
      exact g2
    · show x.2.2.2.2.2.2.1 b = uI w (19 + 5 * z + 4) v (19 + 5 * b + 3)
      rw [uI_n _ _ (by omega)]
      exact g3
    · show uI x.2.2.2.2.2.2.2.1 z v b = uI w (19 + 5 * z + 4) v (19 + 5 * b + 4)
      by_cases e : b = z
      · subst e
        rw [uI_s, uI_s]
      · rw [uI_n _ _ e, uI_n _ _ (by omega)]
        exact g4
  · rw [e2] at t1
    unfold fT
    rw [uI_n _ _ (by omega), uI_n _ _ (by omega), uI_n _ _ (by omega)]
    exact ht t t0 t1

theorem Rl_P {w : Int → Int} {x : WT} (h : Rl w x) {z v : Int} (hz : 0 ≤ z ∧ z < 16) : Rl (uI w (3 + z) v) (x.1, uI x.2.1 z v, x.2.2.1, x.2.2.2.1, x.2.2.2.2.1, x.2.2.2.2.2.1, x.2.2.2.2.2.2.1, x.2.2.2.2.2.2.2.1, x.2.2.2.2.2.2.2.2.1, x.2.2.2.2.2.2.2.2.2.1, x.2.2.2.2.2.2.2.2.2.2.1, x.2.2.2.2.2.2.2.2.2.2.2) := by
  obtain ⟨⟨a1, a2, a3⟩, hb, hg, ht⟩ := h
  have e1 : uI w (3 + z) v 1 = w 1 := uI_n _ _ (by omega)
  have e2 : uI w (3 + z) v 2 = w 2 := uI_n _ _ (by omega)
  refine ⟨⟨by rw [uI_n _ _ (by omega)]; exact a1, by rw [e1]; exact a2, by rw [e2]; exact a3⟩, fun p p0 p1 => ?_, fun b b0 b1 => ?_, fun t t0 t1 => ?_⟩
  · show uI x.2.1 z v p = uI w (3 + z) v (3 + p)
    by_cases e : p = z
    · subst e
      rw [uI_s, uI_s]
    · rw [uI_n _ _ e, uI_n _ _ (by omega)]
      exact hb p p0 p1
  · rw [e1] at b1
    unfold fB
    rw [uI_n _ _ (by omega), uI_n _ _ (by omega), uI_n _ _ (by omega), uI_n _ _ (by omega), uI_n _ _ (by omega)]
    exact hg b b0 b1
  · rw [e2] at t1
    unfold fT
    rw [uI_n _ _ (by omega), uI_n _ _ (by omega), uI_n _ _ (by omega)]
    exact ht t t0 t1
theorem Rl_wo {w : Int → Int} {x : WT} (h : Rl w x) {z : Int} (hz : 0 ≤ z ∧ z < 10) : Rl (uI w (19 + 5 * z + 0) 6) (woW z x) := Rl_B0 (v' := -1) h rfl hz
theorem Rl_eat {w : Int → Int} {x : WT} (h : Rl w x) {z v : Int} (hz : 0 ≤ z ∧ z < 10) : Rl (eatW w z v) (x.1, x.2.1, x.2.2.1, x.2.2.2.1, x.2.2.2.2.1, x.2.2.2.2.2.1, uI x.2.2.2.2.2.2.1 z v, uI x.2.2.2.2.2.2.2.1 z 0, x.2.2.2.2.2.2.2.2.1, x.2.2.2.2.2.2.2.2.2.1, x.2.2.2.2.2.2.2.2.2.2.1, x.2.2.2.2.2.2.2.2.2.2.2) := Rl_B4 (Rl_B3 h hz) hz
theorem jmin_c (a b : Int) : jmin a b = jmin b a := by
  unfold jmin
  (repeat' split) <;> omega
theorem Rl_ch0 {w : Int → Int} {x : WT} (h : Rl w x) {s z : Int} (hz : 0 ≤ z ∧ z < 16) : Rl (uI w (3 + z) (jmin (w (3 + z) + s) 99)) (chW 0 s z x) := by
  rw [← h.2.1 z hz.1 hz.2, jmin_c]
  exact Rl_P h hz
theorem Rl_ch1 {w : Int → Int} {x : WT} (h : Rl w x) {s z : Int} (hs : 0 ≤ s ∧ s < 10) : Rl (uI w (19 + 5 * s + 2) z) (chW 1 s z x) := Rl_B2 h hs
theorem Rl_ch2 {w : Int → Int} {x : WT} (h : Rl w x) {s z : Int} (hs : 0 ≤ s ∧ s < 10) (hz : 0 ≤ z) : Rl (uI w (19 + 5 * s + 0) z) (chW 2 s z x) := Rl_B0 (v' := z) h (if_neg (by omega)) hs

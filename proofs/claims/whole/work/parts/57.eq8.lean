theorem sum2 {a b : Int} (ha : 0 ≤ a) (hb : 0 ≤ b) : a + b = 0 ↔ b = 0 ∧ a = 0 := by omega
theorem out_eq {w : Int → Int} {x : WT} (hw : Wf w) (hc : Wc x) (h : Rl w x) (h0 : w 0 ≤ 9999) : lstN (fun q_ : Nat => cOut x (q_ : Int)) 101 0 = lstN (fun q_ => sOut (hrs w q_)) 101 0 := by
  refine lstN_cg2 101 0 (fun k k0 k1 => ?_)
  have r := Rl_hrs hw hc h k (by omega)
  obtain ⟨i1, i2, i3, i4⟩ := hw.hrs k (by omega)
  have hm := hw.many
  have e1 : x.2.2.1 = w 1 := h.1.2.1
  have s1 : sumN (boF x (k : Int)) 16 = sumN (fun x_ => hrs w k (3 + x_)) 16 := sumN_c 16 (fun p p0 p1 => r.2.1 p p0 (by omega))
  have s2 : sumN (shF x (k : Int)) x.2.2.1.toNat = sumN (sSh (hrs w k)) (hrs w k 1).toNat := by
    rw [e1, i3]
    exact sumN_c _ (fun b b0 b1 => shF_eq hc r b0 (by rw [i3]; omega))
  have p1 := (sumN_le (f := fun x_ => hrs w k (3 + x_)) (c := 99) (by omega) 16 (fun p p0 p1 => i1.bowl p0 (by omega))).1
  have p2 := (sumN_le (f := sSh (hrs w k)) (c := 297) (by omega) (hrs w k 1).toNat (fun b b0 b1 => by
    rw [← shF_eq hc r b0 (by rw [i3]; rw [i3] at b1; omega)]
    have bc := hc.being (b := b) b0 (by rw [i3] at b1; omega)
    have z := jmin_z 999 (x.2.2.2.2.2.2.2.1 b + (k : Int))
    exact cSh_r (by omega) (by show 0 ≤ jmin 999 (x.2.2.2.2.2.2.2.1 b + (k : Int)); omega))).1
  unfold cOut sOut
  rw [s1, s2]
  exact (sum2 p2 p1).symm
theorem meet_eq {w : Int → Int} {x : WT} (hw : Wf w) (hc : Wc x) (h : Rl w x) (h0 : w 0 ≤ 9999) {z y : Int} (hz : 0 ≤ z ∧ z < w 1) (hy : 0 ≤ y ∧ y < w 1) : lstN (fun q_ : Nat => stF x (q_ : Int) z = stF x (q_ : Int) y) 101 0 = lstN (fun q_ => fB (hrs w q_) z 1 = fB (hrs w q_) y 1) 101 0 := by
  refine lstN_cg2 101 0 (fun k k0 k1 => ?_)
  have r := Rl_hrs hw hc h k (by omega)
  obtain ⟨i1, i2, i3, i4⟩ := hw.hrs k (by omega)
  have g1 : stF x (k : Int) z = fB (hrs w k) z 1 := (r.2.2.1 z hz.1 (by rw [i3]; exact hz.2)).2.1
  have g2 : stF x (k : Int) y = fB (hrs w k) y 1 := (r.2.2.1 y hy.1 (by rw [i3]; exact hy.2)).2.1
  rw [g1, g2]
theorem meal_eq {w : Int → Int} {x : WT} (hw : Wf w) (hc : Wc x) (h : Rl w x) (h0 : w 0 ≤ 9999) {z t : Int} (hz : 0 ≤ z ∧ z < 10) (ht : 0 ≤ t ∧ t < w 2) : lstN (fun q_ : Nat => cDn (x.1, x.2.1, x.2.2.1, x.2.2.2.1, x.2.2.2.2.1, x.2.2.2.2.2.1, uI x.2.2.2.2.2.2.1 z (q_ : Int), uI x.2.2.2.2.2.2.2.1 z 0, x.2.2.2.2.2.2.2.2.1, x.2.2.2.2.2.2.2.2.2.1, x.2.2.2.2.2.2.2.2.2.2.1, x.2.2.2.2.2.2.2.2.2.2.2) t) 100 0 = lstN (fun q_ : Nat => (sDn (eatW w z (q_ : Int)) >>> (jI t &&& 31)) &&& jI 1 = jI 1) 100 0 := by
  refine lstN_cg2 100 0 (fun k k0 k1 => ?_)
  have e0 : eatW w z (k : Int) 0 = w 0 := by unfold eatW; rw [uI_n _ _ (by omega), uI_n _ _ (by omega)]
  have e2 : eatW w z (k : Int) 2 = w 2 := by unfold eatW; rw [uI_n _ _ (by omega), uI_n _ _ (by omega)]
  exact (dn_bit (hw.eat (by omega) (by omega)) (hc.feed hz (by omega)) (Rl_eat h hz) (by rw [e0]; exact h0) ht.1 (by rw [e2]; exact ht.2)).symm
theorem fd_ls {g : Int → Int} {v : Int} : ∀ k : Nat, k ≤ 100 → (fdN g v k < 0 → lstN (fun q_ : Nat => g (q_ : Int) = v) k (100 - k) = 100) ∧ (0 ≤ fdN g v k → (lstN (fun q_ : Nat => g (q_ : Int) = v) k (100 - k) : Int) = fdN g v k ∧ fdN g v k ≤ 99) := by
  intro k
  induction k with
  | zero => intro _; exact ⟨fun _ => rfl, fun q => by have q : (0 : Int) ≤ -1 := q; omega⟩
  | succ k ih =>
    intro hk
    obtain ⟨i1, i2⟩ := ih (by omega)
    have e : ((100 - (k + 1) : Nat) : Int) = 99 - (k : Int) := by omega
    by_cases c : g (99 - (k : Int)) = v
    · have f1 : fdN g v (k + 1) = 99 - (k : Int) := if_pos c
      have l1 : lstN (fun q_ : Nat => g (q_ : Int) = v) (k + 1) (100 - (k + 1)) = 100 - (k + 1) := if_pos (by show g ((100 - (k + 1) : Nat) : Int) = v; rw [e]; exact c)
      rw [f1, l1]
      exact ⟨fun q => by omega, fun _ => ⟨by omega, by omega⟩⟩
    · have f1 : fdN g v (k + 1) = fdN g v k := if_neg c
      have l1 : lstN (fun q_ : Nat => g (q_ : Int) = v) (k + 1) (100 - (k + 1)) = lstN (fun q_ : Nat => g (q_ : Int) = v) k (100 - (k + 1) + 1) := if_neg (by show ¬ g ((100 - (k + 1) : Nat) : Int) = v; rw [e]; exact c)
      rw [f1, l1, show 100 - (k + 1) + 1 = 100 - k by omega]
      exact ⟨i1, i2⟩
theorem fasted_eq {w : Int → Int} {x : WT} (hw : Wf w) (hc : Wc x) (h : Rl w x) {z p v : Int} (hz : 0 ≤ z ∧ z < 10) (hp : 0 ≤ p ∧ p < 16) : lstN (fun q_ : Nat => cLt (x.1, x.2.1, x.2.2.1, x.2.2.2.1, x.2.2.2.2.1, x.2.2.2.2.2.1, x.2.2.2.2.2.2.1, uI x.2.2.2.2.2.2.2.1 z (q_ : Int), x.2.2.2.2.2.2.2.2.1, x.2.2.2.2.2.2.2.2.2.1, x.2.2.2.2.2.2.2.2.2.2.1, x.2.2.2.2.2.2.2.2.2.2.2) 0 p = v) 100 0 = lstN (fun q_ : Nat => sLt (uI w (19 + 5 * z + 4) (q_ : Int)) p = v) 100 0 := by
  refine lstN_cg2 100 0 (fun k k0 k1 => ?_)
  have w1 := hw.setB (b := z) (k := 4) (x := (k : Int)) (by omega) (by omega)
  have c1 := hc.fast (z := z) (v := (k : Int)) hz (by omega)
  rw [cLt_eq c1 (Rl_0 w1 c1 (Rl_B4 h hz)) hp.1 hp.2]

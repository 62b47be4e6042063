/-! the rest of the calls -/
theorem lst_lt {P : Nat → Prop} : ∀ (m n k : Nat), n ≤ k → k < n + m → P k → lstN P m n < n + m := by
  intro m
  induction m with
  | zero => intro n k h1 h2 _; omega
  | succ m ih =>
    intro n k h1 h2 hp
    by_cases c : P n
    · have e : lstN P (m + 1) n = n := if_pos c
      omega
    · have e : lstN P (m + 1) n = lstN P m (n + 1) := if_neg c
      rw [e]
      have : n ≠ k := fun z => c (z ▸ hp)
      have := ih (n + 1) k (by omega) (by omega) hp
      omega
theorem first_eq {w : Int → Int} {wd : WT} (h : J1 w wd) {x t v : Int} (hx : 0 ≤ x ∧ x ≤ 15) (ht : 0 ≤ t ∧ t ≤ 15) : sSt (cLt wd 0) t v x = sSt (sLt w) t v x ∧ lstN (fun q_ : Nat => apt x (q_ : Int) = 1 ∧ sSt (cLt wd 0) t v (q_ : Int) = sSt (cLt wd 0) t v x - 1) 16 0 = lstN (fun q_ : Nat => apt x (q_ : Int) = 1 ∧ sSt (sLt w) t v (q_ : Int) = sSt (sLt w) t v x - 1) 16 0 ∧ (0 < sSt (sLt w) t v x → lstN (fun q_ : Nat => apt x (q_ : Int) = 1 ∧ sSt (sLt w) t v (q_ : Int) = sSt (sLt w) t v x - 1) 16 0 < 16) := by
  have e : ∀ j : Int, 0 ≤ j → j < 16 → sSt (cLt wd 0) t v j = sSt (sLt w) t v j := fun j j0 j1 => sSt_cg (fun j j0 j1 => h.lt ⟨j0, j1⟩) (by omega) j j0 j1
  refine ⟨e x (by omega) (by omega), lstN_cg2 16 0 (fun k k0 k1 => by rw [e x (by omega) (by omega), e (k : Int) (by omega) (by omega)]), fun hp => ?_⟩
  obtain ⟨z, z0, z1, z2, z3⟩ := sSt_p (sLt w) t v x (by omega) (by omega) hp
  have q := lst_lt (P := fun q_ : Nat => apt x (q_ : Int) = 1 ∧ sSt (sLt w) t v (q_ : Int) = sSt (sLt w) t v x - 1) 16 0 z.toNat (by omega) (by omega) (by rw [Int.toNat_of_nonneg z0]; exact ⟨z2, z3⟩)
  omega
def J3 (ks ik : Int) (kp : Int → Int) (kw : WT) : Prop := ks = ik ∧ (ks = 0 ∨ ks = 1) ∧ (ks = 1 → J1 kp kw)
def J4 (ta : (Int → Int) × Int) (tp : Int → Int) (tn : Int) : Prop := Rt ta tp tn ∧ Tf ta ∧ Tr tp tn
theorem J4.wipe {ta : (Int → Int) × Int} {tp : Int → Int} {tn : Int} (h : J4 ta tp tn) : J4 (ta.1, 0) tp 0 := ⟨⟨rfl, fun j j0 j1 => by omega⟩, ⟨⟨by show (0 : Int) ≤ 0; omega, by show (0 : Int) ≤ 120; omega⟩, h.2.1.2⟩, ⟨⟨by omega, by omega⟩, h.2.2.2⟩⟩
theorem ub_b (y : Int32) : ub (y.toInt8.toInt32).toInt = (y &&& jI 255).toInt ∧ -128 ≤ (y.toInt8.toInt32).toInt ∧ (y.toInt8.toInt32).toInt ≤ 127 := by
  have hm := Nat.mod_lt y.toBitVec.toNat (show 0 < 2 ^ 8 by decide)
  rw [pk_and y 8 (by decide), nI_toInt (by omega), Int8.toInt_toInt32, Int32.toInt_toInt8]
  have e : y.toInt = (y.toBitVec.toNat : Int).bmod (2 ^ 32) := BitVec.toInt_eq_toNat_bmod y.toBitVec
  rw [e, Int.bmod_bmod_of_dvd (by decide)]
  unfold ub
  rw [Int.bmod_def]
  omega
theorem feed_v {ta tp : Int → Int} {tn n : Int} {x : Int32} (h : ∀ j : Int, 0 ≤ j → j < tn → ub (ta j) = tp j) (ht : 0 ≤ tn) : ∀ m : Nat, ∀ j : Int, 0 ≤ j → j < tn + (m : Int) → ub (tbF ta tn x n m j) = tpF tp tn x n m j := by
  intro m
  induction m with
  | zero => intro j j0 j1; exact h j j0 (by omega)
  | succ m ih =>
    intro j j0 j1
    show ub (uI (tbF ta tn x n m) (tn + (m : Int)) (sby x (n - 1 - (m : Int))) j) = uI (tpF tp tn x n m) (tn + (m : Int)) (byt x (n - 1 - (m : Int))) j
    by_cases c : j = tn + (m : Int)
    · rw [c, uI_s, uI_s]; exact (ub_b _).1
    · rw [uI_n _ _ c, uI_n _ _ c]; exact ih j j0 (by omega)
theorem feed_r {ta : Int → Int} {tn n : Int} {x : Int32} (h : ∀ j : Int, 0 ≤ j → j < 120 → -128 ≤ ta j ∧ ta j ≤ 127) : ∀ (m : Nat) (j : Int), 0 ≤ j → j < 120 → -128 ≤ tbF ta tn x n m j ∧ tbF ta tn x n m j ≤ 127 := by
  intro m
  induction m with
  | zero => intro j j0 j1; exact h j j0 j1
  | succ m ih =>
    intro j j0 j1
    show -128 ≤ uI (tbF ta tn x n m) (tn + (m : Int)) (sby x (n - 1 - (m : Int))) j ∧ uI (tbF ta tn x n m) (tn + (m : Int)) (sby x (n - 1 - (m : Int))) j ≤ 127
    by_cases c : j = tn + (m : Int)
    · rw [c, uI_s]; exact (ub_b _).2
    · rw [uI_n _ _ c]; exact ih j j0 j1
theorem feed_s {tp : Int → Int} {tn n : Int} {x : Int32} (h : ∀ j : Int, 0 ≤ j → j < 120 → 0 ≤ tp j ∧ tp j ≤ 255) : ∀ (m : Nat) (j : Int), 0 ≤ j → j < 120 → 0 ≤ tpF tp tn x n m j ∧ tpF tp tn x n m j ≤ 255 := by
  intro m
  induction m with
  | zero => intro j j0 j1; exact h j j0 j1
  | succ m ih =>
    intro j j0 j1
    show 0 ≤ uI (tpF tp tn x n m) (tn + (m : Int)) (byt x (n - 1 - (m : Int))) j ∧ uI (tpF tp tn x n m) (tn + (m : Int)) (byt x (n - 1 - (m : Int))) j ≤ 255
    by_cases c : j = tn + (m : Int)
    · rw [c, uI_s]; exact byt_r _ _
    · rw [uI_n _ _ c]; exact ih j j0 j1
theorem J4.feed {ta : (Int → Int) × Int} {tp : Int → Int} {tn n : Int} {x : Int32} (h : J4 ta tp tn) (hn : 1 ≤ n ∧ n ≤ 4) (h2 : tn + n ≤ 120) : J4 (tbF ta.1 ta.2 x n n.toNat, ta.2 + n) (tpF tp tn x n n.toNat) (tn + n) := by
  obtain ⟨⟨e1, e2⟩, ⟨f1, f2⟩, ⟨g1, g2⟩⟩ := h
  rw [e1]
  refine ⟨⟨rfl, fun j j0 j1 => feed_v e2 g1.1 n.toNat j j0 (by omega)⟩, ⟨⟨by show 0 ≤ tn + n; omega, by show tn + n ≤ 120; omega⟩, feed_r f2 n.toNat⟩, ⟨by omega, feed_s g2 n.toNat⟩⟩
theorem ng_k5 {B : Int → Int} {n : Int} (hB : Bk B n) : ∀ (f : Nat) (m q : Int) (w : Int → Int) (x : WT), Qk B n q → J1 w x → J1 (ngR B n f m q w).2.2 (ngC B n f m q x).2.2 := by
  intro f
  induction f with
  | zero => intro m q w x _ h; exact h
  | succ f ih =>
    intro m q w x hq h
    have e1 : x.2.2.1 = w 1 := h.1.1.2.1
    have e2 : x.2.2.2.2.2.2.2.2.1 = w 2 := h.1.1.2.2
    have hk := itm_k (nb := w 1) (nt := w 2) hB hq h.2.1.many.2
    have eC : itm B n x.2.2.1 x.2.2.2.2.2.2.2.2.1 q = itm B n (w 1) (w 2) q := by rw [e1, e2]
    generalize hr : itm B n (w 1) (w 2) q = r at hk eC
    by_cases c : r.1 = 1
    · have k2 := hk.2.2 c
      by_cases c17 : cd B n r.2.1 = 17
      · rw [nC_e eC c c17, nR_e hr c c17]
        exact h.ap k2.2.1 k2.2.2.1 k2.2.2.2
      · by_cases c16 : cd B n r.2.1 = 16
        · rw [nC_s eC c c16, nR_s hr c c16]
          exact ih (m + 1) _ _ _ (hk.2.1.1.nx hB c17).1 (h.ap k2.2.1 k2.2.2.1 k2.2.2.2)
        · rw [nC_x eC c c17 c16, nR_x hr c c17 c16]
          exact h
    · rw [nC_f eC c, nR_f hr c]
      exact h
theorem pu_meet {w : Int → Int} {wd : WT} {fd fe : Int → Int} {z y : Int} {rC rR : Int32} {fd2 : Int → Int} {fe2 : Int → Int} {ah2 : Int → Int} (h : J1 w wd) (hf : J2 fd fe) (hC : ((¬ (((0 ≤ z ∧ z < wd.2.2.1) ∧ 0 ≤ y ∧ y < wd.2.2.1) ∧ z ≠ y)) ∧ rC = jI (-1000000001) ∧ fd2 = uI fd 0 (fd 0 + 1)) ∨ (((((0 ≤ z ∧ z < wd.2.2.1) ∧ 0 ≤ y ∧ y < wd.2.2.1) ∧ z ≠ y) ∧ lstN (fun q_ : Nat => stF wd (q_ : Int) z = stF wd (q_ : Int) y) 101 0 ≤ 100) ∧ rC = jI (lstN (fun q_ : Nat => stF wd (q_ : Int) z = stF wd (q_ : Int) y) 101 0 : Int) ∧ fd2 = fd) ∨ (((((0 ≤ z ∧ z < wd.2.2.1) ∧ 0 ≤ y ∧ y < wd.2.2.1) ∧ z ≠ y) ∧ 100 < lstN (fun q_ : Nat => stF wd (q_ : Int) z = stF wd (q_ : Int) y) 101 0) ∧ rC = jI (-1000000004) ∧ fd2 = uI fd 3 (fd 3 + 1))) (hR : ((¬ (((0 ≤ z ∧ z ≤ w 1 - 1) ∧ 0 ≤ y ∧ y ≤ w 1 - 1) ∧ z ≠ y)) ∧ rR = jI (-1000000001) ∧ fe2 = uI fe 0 (fe 0 + 1)) ∨ (((((0 ≤ z ∧ z ≤ w 1 - 1) ∧ 0 ≤ y ∧ y ≤ w 1 - 1) ∧ z ≠ y) ∧ lstN (fun q_ => fB (hrs w q_) z 1 = fB (hrs w q_) y 1) 101 0 ≤ 100) ∧ rR = jI (lstN (fun q_ => fB (hrs w q_) z 1 = fB (hrs w q_) y 1) 101 0 : Int) ∧ fe2 = fe) ∨ (((((0 ≤ z ∧ z ≤ w 1 - 1) ∧ 0 ≤ y ∧ y ≤ w 1 - 1) ∧ z ≠ y) ∧ 100 < lstN (fun q_ => fB (hrs w q_) z 1 = fB (hrs w q_) y 1) 101 0) ∧ rR = jI (-1000000004) ∧ fe2 = uI fe 3 (fe 3 + 1))) : rC = rR ∧ J2 fd2 fe2 := by
  obtain ⟨⟨⟨e0, e1, e2⟩, -⟩, hw, hc, h9, -⟩ := id h
  have m1 := hw.many
  have m2 := hw.tasks
  rcases hC with ⟨c1, rfl, rfl⟩ | ⟨c1, rfl, rfl⟩ | ⟨c1, rfl, rfl⟩
  · rcases hR with ⟨c2, rfl, rfl⟩ | ⟨c2, rfl, rfl⟩ | ⟨c2, rfl, rfl⟩
    · exact ⟨rfl, hf.u 0 (by decide) (by decide)⟩
    · exfalso; first | omega | (have qq := (meet_eq hw hc h.1 h9 (z := z) (y := y) (by omega) (by omega)); omega)
    · exfalso; first | omega | (have qq := (meet_eq hw hc h.1 h9 (z := z) (y := y) (by omega) (by omega)); omega)
  · rcases hR with ⟨c2, rfl, rfl⟩ | ⟨c2, rfl, rfl⟩ | ⟨c2, rfl, rfl⟩
    · exfalso; first | omega | (have qq := (meet_eq hw hc h.1 h9 (z := z) (y := y) (by omega) (by omega)); omega)
    · exact ⟨congrArg (fun n_ : Nat => jI (n_ : Int)) (meet_eq hw hc h.1 h9 (z := z) (y := y) (by omega) (by omega)), hf⟩
    · exfalso; first | omega | (have qq := (meet_eq hw hc h.1 h9 (z := z) (y := y) (by omega) (by omega)); omega)
  · rcases hR with ⟨c2, rfl, rfl⟩ | ⟨c2, rfl, rfl⟩ | ⟨c2, rfl, rfl⟩
    · exfalso; first | omega | (have qq := (meet_eq hw hc h.1 h9 (z := z) (y := y) (by omega) (by omega)); omega)
    · exfalso; first | omega | (have qq := (meet_eq hw hc h.1 h9 (z := z) (y := y) (by omega) (by omega)); omega)
    · exact ⟨rfl, hf.u 3 (by decide) (by decide)⟩
theorem pu_meal {w : Int → Int} {wd : WT} {fd fe : Int → Int} {z t : Int} {rC rR : Int32} {fd2 : Int → Int} {tw2 : WT} {gl2 : GT} {fe2 : Int → Int} {ah2 : Int → Int} (h : J1 w wd) (hf : J2 fd fe) (hC : ((¬ ((0 ≤ z ∧ z < wd.2.2.1) ∧ (0 ≤ t ∧ t < wd.2.2.2.2.2.2.2.2.1))) ∧ rC = jI (-1000000001) ∧ fd2 = uI fd 0 (fd 0 + 1)) ∨ ((((0 ≤ z ∧ z < wd.2.2.1) ∧ (0 ≤ t ∧ t < wd.2.2.2.2.2.2.2.2.1)) ∧ lstN (fun q_ : Nat => cDn (wd.1, wd.2.1, wd.2.2.1, wd.2.2.2.1, wd.2.2.2.2.1, wd.2.2.2.2.2.1, uI wd.2.2.2.2.2.2.1 z (q_ : Int), uI wd.2.2.2.2.2.2.2.1 z 0, wd.2.2.2.2.2.2.2.2.1, wd.2.2.2.2.2.2.2.2.2.1, wd.2.2.2.2.2.2.2.2.2.2.1, wd.2.2.2.2.2.2.2.2.2.2.2) t) 100 0 ≤ 99) ∧ rC = jI (lstN (fun q_ : Nat => cDn (wd.1, wd.2.1, wd.2.2.1, wd.2.2.2.1, wd.2.2.2.2.1, wd.2.2.2.2.2.1, uI wd.2.2.2.2.2.2.1 z (q_ : Int), uI wd.2.2.2.2.2.2.2.1 z 0, wd.2.2.2.2.2.2.2.2.1, wd.2.2.2.2.2.2.2.2.2.1, wd.2.2.2.2.2.2.2.2.2.2.1, wd.2.2.2.2.2.2.2.2.2.2.2) t) 100 0 : Int) ∧ fd2 = fd) ∨ ((((0 ≤ z ∧ z < wd.2.2.1) ∧ (0 ≤ t ∧ t < wd.2.2.2.2.2.2.2.2.1)) ∧ 99 < lstN (fun q_ : Nat => cDn (wd.1, wd.2.1, wd.2.2.1, wd.2.2.2.1, wd.2.2.2.2.1, wd.2.2.2.2.2.1, uI wd.2.2.2.2.2.2.1 z (q_ : Int), uI wd.2.2.2.2.2.2.2.1 z 0, wd.2.2.2.2.2.2.2.2.1, wd.2.2.2.2.2.2.2.2.2.1, wd.2.2.2.2.2.2.2.2.2.2.1, wd.2.2.2.2.2.2.2.2.2.2.2) t) 100 0) ∧ rC = jI (-1000000004) ∧ fd2 = uI fd 3 (fd 3 + 1))) (hR : ((¬ ((0 ≤ z ∧ z ≤ w 1 - 1) ∧ (0 ≤ t ∧ t ≤ w 2 - 1))) ∧ rR = jI (-1000000001) ∧ fe2 = uI fe 0 (fe 0 + 1)) ∨ ((((0 ≤ z ∧ z ≤ w 1 - 1) ∧ (0 ≤ t ∧ t ≤ w 2 - 1)) ∧ lstN (fun q_ : Nat => (sDn (eatW w z (q_ : Int)) >>> (jI t &&& 31)) &&& jI 1 = jI 1) 100 0 ≤ 99) ∧ rR = jI (lstN (fun q_ : Nat => (sDn (eatW w z (q_ : Int)) >>> (jI t &&& 31)) &&& jI 1 = jI 1) 100 0 : Int) ∧ fe2 = fe) ∨ ((((0 ≤ z ∧ z ≤ w 1 - 1) ∧ (0 ≤ t ∧ t ≤ w 2 - 1)) ∧ 99 < lstN (fun q_ : Nat => (sDn (eatW w z (q_ : Int)) >>> (jI t &&& 31)) &&& jI 1 = jI 1) 100 0) ∧ rR = jI (-1000000004) ∧ fe2 = uI fe 3 (fe 3 + 1))) : rC = rR ∧ J2 fd2 fe2 := by
  obtain ⟨⟨⟨e0, e1, e2⟩, -⟩, hw, hc, h9, -⟩ := id h
  have m1 := hw.many
  have m2 := hw.tasks
  rcases hC with ⟨c1, rfl, rfl⟩ | ⟨c1, rfl, rfl⟩ | ⟨c1, rfl, rfl⟩
  · rcases hR with ⟨c2, rfl, rfl⟩ | ⟨c2, rfl, rfl⟩ | ⟨c2, rfl, rfl⟩
    · exact ⟨rfl, hf.u 0 (by decide) (by decide)⟩
    · exfalso; first | omega | (have qq := (meal_eq hw hc h.1 h9 (z := z) (t := t) (by omega) (by omega)); omega)
    · exfalso; first | omega | (have qq := (meal_eq hw hc h.1 h9 (z := z) (t := t) (by omega) (by omega)); omega)
  · rcases hR with ⟨c2, rfl, rfl⟩ | ⟨c2, rfl, rfl⟩ | ⟨c2, rfl, rfl⟩
    · exfalso; first | omega | (have qq := (meal_eq hw hc h.1 h9 (z := z) (t := t) (by omega) (by omega)); omega)
    · exact ⟨congrArg (fun n_ : Nat => jI (n_ : Int)) (meal_eq hw hc h.1 h9 (z := z) (t := t) (by omega) (by omega)), hf⟩
    · exfalso; first | omega | (have qq := (meal_eq hw hc h.1 h9 (z := z) (t := t) (by omega) (by omega)); omega)
  · rcases hR with ⟨c2, rfl, rfl⟩ | ⟨c2, rfl, rfl⟩ | ⟨c2, rfl, rfl⟩
    · exfalso; first | omega | (have qq := (meal_eq hw hc h.1 h9 (z := z) (t := t) (by omega) (by omega)); omega)
    · exfalso; first | omega | (have qq := (meal_eq hw hc h.1 h9 (z := z) (t := t) (by omega) (by omega)); omega)
    · exact ⟨rfl, hf.u 3 (by decide) (by decide)⟩
theorem pu_fasted {w : Int → Int} {wd : WT} {fd fe : Int → Int} {z p v : Int} {rC rR : Int32} {fd2 : Int → Int} {tw2 : WT} {gl2 : GT} {fe2 : Int → Int} (h : J1 w wd) (hf : J2 fd fe) (hC : ((¬ ((0 ≤ z ∧ z < wd.2.2.1) ∧ (0 ≤ p ∧ p ≤ 15))) ∧ rC = jI (-1000000001) ∧ fd2 = uI fd 0 (fd 0 + 1)) ∨ ((((0 ≤ z ∧ z < wd.2.2.1) ∧ (0 ≤ p ∧ p ≤ 15)) ∧ lstN (fun q_ : Nat => cLt (wd.1, wd.2.1, wd.2.2.1, wd.2.2.2.1, wd.2.2.2.2.1, wd.2.2.2.2.2.1, wd.2.2.2.2.2.2.1, uI wd.2.2.2.2.2.2.2.1 z (q_ : Int), wd.2.2.2.2.2.2.2.2.1, wd.2.2.2.2.2.2.2.2.2.1, wd.2.2.2.2.2.2.2.2.2.2.1, wd.2.2.2.2.2.2.2.2.2.2.2) 0 p = v) 100 0 ≤ 99) ∧ rC = jI (lstN (fun q_ : Nat => cLt (wd.1, wd.2.1, wd.2.2.1, wd.2.2.2.1, wd.2.2.2.2.1, wd.2.2.2.2.2.1, wd.2.2.2.2.2.2.1, uI wd.2.2.2.2.2.2.2.1 z (q_ : Int), wd.2.2.2.2.2.2.2.2.1, wd.2.2.2.2.2.2.2.2.2.1, wd.2.2.2.2.2.2.2.2.2.2.1, wd.2.2.2.2.2.2.2.2.2.2.2) 0 p = v) 100 0 : Int) ∧ fd2 = fd) ∨ ((((0 ≤ z ∧ z < wd.2.2.1) ∧ (0 ≤ p ∧ p ≤ 15)) ∧ 99 < lstN (fun q_ : Nat => cLt (wd.1, wd.2.1, wd.2.2.1, wd.2.2.2.1, wd.2.2.2.2.1, wd.2.2.2.2.2.1, wd.2.2.2.2.2.2.1, uI wd.2.2.2.2.2.2.2.1 z (q_ : Int), wd.2.2.2.2.2.2.2.2.1, wd.2.2.2.2.2.2.2.2.2.1, wd.2.2.2.2.2.2.2.2.2.2.1, wd.2.2.2.2.2.2.2.2.2.2.2) 0 p = v) 100 0) ∧ rC = jI (-1000000004) ∧ fd2 = uI fd 3 (fd 3 + 1))) (hR : ((¬ ((0 ≤ z ∧ z ≤ w 1 - 1) ∧ (0 ≤ p ∧ p ≤ 15))) ∧ rR = jI (-1000000001) ∧ fe2 = uI fe 0 (fe 0 + 1)) ∨ ((((0 ≤ z ∧ z ≤ w 1 - 1) ∧ (0 ≤ p ∧ p ≤ 15)) ∧ 0 ≤ fdN (fun z_ => sLt (uI w (19 + 5 * z + 4) z_) p) v 100) ∧ rR = jI (fdN (fun z_ => sLt (uI w (19 + 5 * z + 4) z_) p) v 100) ∧ fe2 = fe) ∨ ((((0 ≤ z ∧ z ≤ w 1 - 1) ∧ (0 ≤ p ∧ p ≤ 15)) ∧ fdN (fun z_ => sLt (uI w (19 + 5 * z + 4) z_) p) v 100 < 0) ∧ rR = jI (-1000000004) ∧ fe2 = uI fe 3 (fe 3 + 1))) : rC = rR ∧ J2 fd2 fe2 := by
  obtain ⟨⟨⟨e0, e1, e2⟩, -⟩, hw, hc, h9, -⟩ := id h
  have m1 := hw.many
  have m2 := hw.tasks
  rcases hC with ⟨c1, rfl, rfl⟩ | ⟨c1, rfl, rfl⟩ | ⟨c1, rfl, rfl⟩
  · rcases hR with ⟨c2, rfl, rfl⟩ | ⟨c2, rfl, rfl⟩ | ⟨c2, rfl, rfl⟩
    · exact ⟨rfl, hf.u 0 (by decide) (by decide)⟩
    · exfalso; first | omega | (have qq := (fasted_eq hw hc h.1 (z := z) (p := p) (v := v) (by omega) (by omega)); have q2 := (fd_ls (g := fun z_ => sLt (uI w (19 + 5 * z + 4) z_) p) (v := v) 100 (Nat.le_refl 100)); rw [show 100 - 100 = 0 from rfl] at q2; omega)
    · exfalso; first | omega | (have qq := (fasted_eq hw hc h.1 (z := z) (p := p) (v := v) (by omega) (by omega)); have q2 := (fd_ls (g := fun z_ => sLt (uI w (19 + 5 * z + 4) z_) p) (v := v) 100 (Nat.le_refl 100)); rw [show 100 - 100 = 0 from rfl] at q2; omega)
  · rcases hR with ⟨c2, rfl, rfl⟩ | ⟨c2, rfl, rfl⟩ | ⟨c2, rfl, rfl⟩
    · exfalso; first | omega | (have qq := (fasted_eq hw hc h.1 (z := z) (p := p) (v := v) (by omega) (by omega)); have q2 := (fd_ls (g := fun z_ => sLt (uI w (19 + 5 * z + 4) z_) p) (v := v) 100 (Nat.le_refl 100)); rw [show 100 - 100 = 0 from rfl] at q2; omega)
    · exact ⟨(by have qq := (fasted_eq hw hc h.1 (z := z) (p := p) (v := v) (by omega) (by omega)); have q2 := (fd_ls (g := fun z_ => sLt (uI w (19 + 5 * z + 4) z_) p) (v := v) 100 (Nat.le_refl 100)); rw [show 100 - 100 = 0 from rfl] at q2; exact congrArg jI (by omega)), hf⟩
    · exfalso; first | omega | (have qq := (fasted_eq hw hc h.1 (z := z) (p := p) (v := v) (by omega) (by omega)); have q2 := (fd_ls (g := fun z_ => sLt (uI w (19 + 5 * z + 4) z_) p) (v := v) 100 (Nat.le_refl 100)); rw [show 100 - 100 = 0 from rfl] at q2; omega)
  · rcases hR with ⟨c2, rfl, rfl⟩ | ⟨c2, rfl, rfl⟩ | ⟨c2, rfl, rfl⟩
    · exfalso; first | omega | (have qq := (fasted_eq hw hc h.1 (z := z) (p := p) (v := v) (by omega) (by omega)); have q2 := (fd_ls (g := fun z_ => sLt (uI w (19 + 5 * z + 4) z_) p) (v := v) 100 (Nat.le_refl 100)); rw [show 100 - 100 = 0 from rfl] at q2; omega)
    · exfalso; first | omega | (have qq := (fasted_eq hw hc h.1 (z := z) (p := p) (v := v) (by omega) (by omega)); have q2 := (fd_ls (g := fun z_ => sLt (uI w (19 + 5 * z + 4) z_) p) (v := v) 100 (Nat.le_refl 100)); rw [show 100 - 100 = 0 from rfl] at q2; omega)
    · exact ⟨rfl, hf.u 3 (by decide) (by decide)⟩
theorem pu_first {w : Int → Int} {wd : WT} {fd fe : Int → Int} {x t v : Int} {rC rR : Int32} {fd2 : Int → Int} {gl2 : GT} {wy2 : (Int → Int) × (Int → Int)} {li2 : Int → Int} {fe2 : Int → Int} {sp2 : Int → Int} {lt2 : Int → Int} (h : J1 w wd) (hf : J2 fd fe) (hC : ((¬ (((0 ≤ x ∧ x ≤ 15) ∧ 0 ≤ t ∧ t ≤ 15) ∧ 0 ≤ v ∧ v ≤ 9999)) ∧ rC = jI (-1000000001) ∧ fd2 = uI fd 0 (fd 0 + 1)) ∨ (((((0 ≤ x ∧ x ≤ 15) ∧ 0 ≤ t ∧ t ≤ 15) ∧ 0 ≤ v ∧ v ≤ 9999) ∧ (if sSt (cLt wd 0) t v x ≤ 0 then -1 else if lstN (fun q_ : Nat => apt x (q_ : Int) = 1 ∧ sSt (cLt wd 0) t v (q_ : Int) = sSt (cLt wd 0) t v x - 1) 16 0 < 16 then (lstN (fun q_ : Nat => apt x (q_ : Int) = 1 ∧ sSt (cLt wd 0) t v (q_ : Int) = sSt (cLt wd 0) t v x - 1) 16 0 : Int) else -1) < 0) ∧ rC = jI (-1000000004) ∧ fd2 = uI fd 3 (fd 3 + 1)) ∨ (((((0 ≤ x ∧ x ≤ 15) ∧ 0 ≤ t ∧ t ≤ 15) ∧ 0 ≤ v ∧ v ≤ 9999) ∧ 0 ≤ (if sSt (cLt wd 0) t v x ≤ 0 then -1 else if lstN (fun q_ : Nat => apt x (q_ : Int) = 1 ∧ sSt (cLt wd 0) t v (q_ : Int) = sSt (cLt wd 0) t v x - 1) 16 0 < 16 then (lstN (fun q_ : Nat => apt x (q_ : Int) = 1 ∧ sSt (cLt wd 0) t v (q_ : Int) = sSt (cLt wd 0) t v x - 1) 16 0 : Int) else -1)) ∧ rC = jI ((if sSt (cLt wd 0) t v x ≤ 0 then -1 else if lstN (fun q_ : Nat => apt x (q_ : Int) = 1 ∧ sSt (cLt wd 0) t v (q_ : Int) = sSt (cLt wd 0) t v x - 1) 16 0 < 16 then (lstN (fun q_ : Nat => apt x (q_ : Int) = 1 ∧ sSt (cLt wd 0) t v (q_ : Int) = sSt (cLt wd 0) t v x - 1) 16 0 : Int) else -1)) ∧ fd2 = fd)) (hR : ((¬ (((0 ≤ x ∧ x ≤ 15) ∧ 0 ≤ t ∧ t ≤ 15) ∧ 0 ≤ v ∧ v ≤ 9999)) ∧ rR = jI (-1000000001) ∧ fe2 = uI fe 0 (fe 0 + 1)) ∨ (((((0 ≤ x ∧ x ≤ 15) ∧ 0 ≤ t ∧ t ≤ 15) ∧ 0 ≤ v ∧ v ≤ 9999) ∧ sSt (sLt w) t v x ≤ 0) ∧ rR = jI (-1000000004) ∧ fe2 = uI fe 3 (fe 3 + 1)) ∨ (((((0 ≤ x ∧ x ≤ 15) ∧ 0 ≤ t ∧ t ≤ 15) ∧ 0 ≤ v ∧ v ≤ 9999) ∧ 0 < sSt (sLt w) t v x) ∧ rR = jI (lstN (fun q_ : Nat => apt x (q_ : Int) = 1 ∧ sSt (sLt w) t v (q_ : Int) = sSt (sLt w) t v x - 1) 16 0 : Int) ∧ fe2 = fe)) : rC = rR ∧ J2 fd2 fe2 := by
  obtain ⟨⟨⟨e0, e1, e2⟩, -⟩, hw, hc, h9, -⟩ := id h
  have m1 := hw.many
  have m2 := hw.tasks
  rcases hC with ⟨c1, rfl, rfl⟩ | ⟨c1, rfl, rfl⟩ | ⟨c1, rfl, rfl⟩
  · rcases hR with ⟨c2, rfl, rfl⟩ | ⟨c2, rfl, rfl⟩ | ⟨c2, rfl, rfl⟩
    · exact ⟨rfl, hf.u 0 (by decide) (by decide)⟩
    · exfalso; first | omega | (have qf := (first_eq h (x := x) (t := t) (v := v) (by omega) (by omega)); (repeat' split at c1) <;> omega)
    · exfalso; first | omega | (have qf := (first_eq h (x := x) (t := t) (v := v) (by omega) (by omega)); (repeat' split at c1) <;> omega)
  · rcases hR with ⟨c2, rfl, rfl⟩ | ⟨c2, rfl, rfl⟩ | ⟨c2, rfl, rfl⟩
    · exfalso; first | omega | (have qf := (first_eq h (x := x) (t := t) (v := v) (by omega) (by omega)); (repeat' split at c1) <;> omega)
    · exact ⟨rfl, hf.u 3 (by decide) (by decide)⟩
    · exfalso; first | omega | (have qf := (first_eq h (x := x) (t := t) (v := v) (by omega) (by omega)); (repeat' split at c1) <;> omega)
  · rcases hR with ⟨c2, rfl, rfl⟩ | ⟨c2, rfl, rfl⟩ | ⟨c2, rfl, rfl⟩
    · exfalso; first | omega | (have qf := (first_eq h (x := x) (t := t) (v := v) (by omega) (by omega)); (repeat' split at c1) <;> omega)
    · exfalso; first | omega | (have qf := (first_eq h (x := x) (t := t) (v := v) (by omega) (by omega)); (repeat' split at c1) <;> omega)
    · exact ⟨(by have qf := (first_eq h (x := x) (t := t) (v := v) (by omega) (by omega)); exact congrArg jI (by rw [if_neg (by omega), if_pos (by omega)]; omega)), hf⟩
theorem pu_image {w : Int → Int} {wd : WT} {fd fe : Int → Int} {rC rR : Int32} {ks2 : Int} {kw2 : WT} {kp2 : Int → Int} {ik2 : Int} (h : J1 w wd) (hf : J2 fd fe) (hC : ((True) ∧ rC = jI 1 ∧ ks2 = 1 ∧ kw2 = wd)) (hR : ((True) ∧ rR = jI 1 ∧ kp2 = w ∧ ik2 = 1)) : rC = rR ∧ J3 ks2 ik2 kp2 kw2 := by
  obtain ⟨⟨⟨e0, e1, e2⟩, -⟩, hw, hc, h9, -⟩ := id h
  have m1 := hw.many
  have m2 := hw.tasks
  rcases hC with ⟨c1, rfl, rfl, rfl⟩
  · rcases hR with ⟨c2, rfl, rfl, rfl⟩
    · exact ⟨rfl, ⟨rfl, Or.inr rfl, fun _ => h⟩⟩
theorem pu_tear {w : Int → Int} {wd : WT} {fd fe : Int → Int} {ks ik : Int} {kp : Int → Int} {kw : WT} (h3 : J3 ks ik kp kw) {rC rR : Int32} {ks2 : Int} {ik2 : Int} (h : J1 w wd) (hf : J2 fd fe) (hC : ((True) ∧ rC = jI ks ∧ ks2 = 0)) (hR : ((True) ∧ rR = jI ik ∧ ik2 = 0)) : rC = rR ∧ J3 ks2 ik2 kp kw := by
  obtain ⟨⟨⟨e0, e1, e2⟩, -⟩, hw, hc, h9, -⟩ := id h
  have m1 := hw.many
  have m2 := hw.tasks
  rcases hC with ⟨c1, rfl, rfl⟩
  · rcases hR with ⟨c2, rfl, rfl⟩
    · exact ⟨congrArg jI h3.1, ⟨rfl, Or.inl rfl, fun z_ => absurd z_ (show ¬ (0 : Int) = 1 by decide)⟩⟩
theorem pu_undo {w : Int → Int} {wd : WT} {fd fe : Int → Int} {ks ik : Int} {kp : Int → Int} {kw : WT} (h3 : J3 ks ik kp kw) {rC rR : Int32} {wd2 : WT} {fd2 : Int → Int} {w2 : Int → Int} {fe2 : Int → Int} (h : J1 w wd) (hf : J2 fd fe) (hC : ((ks = 0) ∧ rC = jI (-1000000004) ∧ wd2 = wd ∧ fd2 = uI fd 3 (fd 3 + 1)) ∨ ((ks = 1) ∧ rC = jI kw.2.2.1 ∧ wd2 = kw ∧ fd2 = fd)) (hR : ((ik = 0) ∧ rR = jI (-1000000004) ∧ w2 = w ∧ fe2 = uI fe 3 (fe 3 + 1)) ∨ ((ik = 1) ∧ rR = jI (kp 1) ∧ w2 = kp ∧ fe2 = fe)) : rC = rR ∧ J1 w2 wd2 ∧ J2 fd2 fe2 := by
  obtain ⟨⟨⟨e0, e1, e2⟩, -⟩, hw, hc, h9, -⟩ := id h
  have m1 := hw.many
  have m2 := hw.tasks
  have h31 := h3.1
  rcases hC with ⟨c1, rfl, rfl, rfl⟩ | ⟨c1, rfl, rfl, rfl⟩
  · rcases hR with ⟨c2, rfl, rfl, rfl⟩ | ⟨c2, rfl, rfl, rfl⟩
    · exact ⟨rfl, h, hf.u 3 (by decide) (by decide)⟩
    · exfalso; omega
  · rcases hR with ⟨c2, rfl, rfl, rfl⟩ | ⟨c2, rfl, rfl, rfl⟩
    · exfalso; omega
    · exact ⟨congrArg jI (h3.2.2 (by omega)).1.1.2.1, h3.2.2 (by omega), hf⟩
theorem pu_wipe {w : Int → Int} {wd : WT} {fd fe : Int → Int} {ta : (Int → Int) × Int} {tp : Int → Int} {tn : Int} (h4 : J4 ta tp tn) {rC rR : Int32} {ta2 : (Int → Int) × Int} {tn2 : Int} (h : J1 w wd) (hf : J2 fd fe) (hC : ((True) ∧ rC = jI ta.2 ∧ ta2 = (ta.1, 0))) (hR : ((True) ∧ rR = jI tn ∧ tn2 = 0)) : rC = rR ∧ J4 ta2 tp tn2 := by
  obtain ⟨⟨⟨e0, e1, e2⟩, -⟩, hw, hc, h9, -⟩ := id h
  have m1 := hw.many
  have m2 := hw.tasks
  rcases hC with ⟨c1, rfl, rfl⟩
  · rcases hR with ⟨c2, rfl, rfl⟩
    · exact ⟨congrArg jI h4.1.1, h4.wipe⟩
theorem pu_feed {w : Int → Int} {wd : WT} {fd fe : Int → Int} {ta : (Int → Int) × Int} {tp : Int → Int} {tn : Int} {x : Int32} (h4 : J4 ta tp tn) {n : Int} {rC rR : Int32} {ta2 : (Int → Int) × Int} {fd2 : Int → Int} {tp2 : Int → Int} {tn2 : Int} {fe2 : Int → Int} (h : J1 w wd) (hf : J2 fd fe) (hC : ((¬ (1 ≤ n ∧ n ≤ 4)) ∧ rC = jI (-1000000001) ∧ ta2 = ta ∧ fd2 = uI fd 0 (fd 0 + 1)) ∨ (((1 ≤ n ∧ n ≤ 4) ∧ 120 < ta.2 + n) ∧ rC = jI (-1000000002) ∧ ta2 = ta ∧ fd2 = uI fd 1 (fd 1 + 1)) ∨ (((1 ≤ n ∧ n ≤ 4) ∧ ta.2 + n ≤ 120) ∧ rC = jI (ta.2 + n) ∧ ta2 = (tbF ta.1 ta.2 x n n.toNat, ta.2 + n) ∧ fd2 = fd)) (hR : ((¬ (1 ≤ n ∧ n ≤ 4)) ∧ rR = jI (-1000000001) ∧ tp2 = tp ∧ tn2 = tn ∧ fe2 = uI fe 0 (fe 0 + 1)) ∨ (((1 ≤ n ∧ n ≤ 4) ∧ 120 < tn + n) ∧ rR = jI (-1000000002) ∧ tp2 = tp ∧ tn2 = tn ∧ fe2 = uI fe 1 (fe 1 + 1)) ∨ (((1 ≤ n ∧ n ≤ 4) ∧ tn + n ≤ 120) ∧ rR = jI (tn + n) ∧ tp2 = tpF tp tn x n n.toNat ∧ tn2 = tn + n ∧ fe2 = fe)) : rC = rR ∧ J4 ta2 tp2 tn2 ∧ J2 fd2 fe2 := by
  obtain ⟨⟨⟨e0, e1, e2⟩, -⟩, hw, hc, h9, -⟩ := id h
  have m1 := hw.many
  have m2 := hw.tasks
  have h41 := h4.1.1
  rcases hC with ⟨c1, rfl, rfl, rfl⟩ | ⟨c1, rfl, rfl, rfl⟩ | ⟨c1, rfl, rfl, rfl⟩
  · rcases hR with ⟨c2, rfl, rfl, rfl, rfl⟩ | ⟨c2, rfl, rfl, rfl, rfl⟩ | ⟨c2, rfl, rfl, rfl, rfl⟩
    · exact ⟨rfl, h4, hf.u 0 (by decide) (by decide)⟩
    · exfalso; omega
    · exfalso; omega
  · rcases hR with ⟨c2, rfl, rfl, rfl, rfl⟩ | ⟨c2, rfl, rfl, rfl, rfl⟩ | ⟨c2, rfl, rfl, rfl, rfl⟩
    · exfalso; omega
    · exact ⟨rfl, h4, hf.u 1 (by decide) (by decide)⟩
    · exfalso; omega
  · rcases hR with ⟨c2, rfl, rfl, rfl, rfl⟩ | ⟨c2, rfl, rfl, rfl, rfl⟩ | ⟨c2, rfl, rfl, rfl, rfl⟩
    · exfalso; omega
    · exfalso; omega
    · exact ⟨congrArg jI (by omega), h4.feed (by omega) (by omega), hf⟩
theorem pu_night {w w2 : Int → Int} {wd wd2 : WT} {ta : (Int → Int) × Int} {tp : Int → Int} {tn : Int} {rC rR : Int32} (h : J1 w wd) (h4 : J4 ta tp tn) (hC : (0 < (ngC (xB ta) ta.2 120 0 (sk (xB ta) 0) wd).1 ∧ rC = jI (ngC (xB ta) ta.2 120 0 (sk (xB ta) 0) wd).1 ∧ wd2 = (ngC (xB ta) ta.2 120 0 (sk (xB ta) 0) wd).2.2 ∧ Wc wd2) ∨ ((ngC (xB ta) ta.2 120 0 (sk (xB ta) 0) wd).1 = 0 ∧ rC = jI (-1 - (ngC (xB ta) ta.2 120 0 (sk (xB ta) 0) wd).2.1) ∧ wd2 = wd)) (hR : (0 < (ngR (bB tp tn) tn 120 0 (sk (bB tp tn) 0) w).1 ∧ rR = jI (ngR (bB tp tn) tn 120 0 (sk (bB tp tn) 0) w).1 ∧ w2 = (ngR (bB tp tn) tn 120 0 (sk (bB tp tn) 0) w).2.2 ∧ Wf w2) ∨ ((ngR (bB tp tn) tn 120 0 (sk (bB tp tn) 0) w).1 = 0 ∧ rR = jI (-1 - (ngR (bB tp tn) tn 120 0 (sk (bB tp tn) 0) w).2.1) ∧ w2 = w)) : rC = rR ∧ J1 w2 wd2 := by
  obtain ⟨q1, q2, -⟩ := night_eq h4.1 h4.2.2 h.1 h.2.1 h.2.2.1
  have q3 : J1 (ngR (bB tp tn) tn 120 0 (sk (bB tp tn) 0) w).2.2 (ngC (xB ta) ta.2 120 0 (sk (xB ta) 0) wd).2.2 := by
    rw [Rt_B h4.1, h4.1.1]
    have h1 := h4.2.2.1
    obtain ⟨u1, u2, -, u4⟩ := sk_p (Tr_k h4.2.2) (p := 0) (by omega)
    exact ng_k5 (Tr_k h4.2.2) 120 0 _ w wd ⟨⟨u1, u2⟩, u4⟩ h
  generalize ngC (xB ta) ta.2 120 0 (sk (xB ta) 0) wd = Z at hC q1 q2 q3
  generalize ngR (bB tp tn) tn 120 0 (sk (bB tp tn) 0) w = Y at hR q1 q2 q3
  rcases hC with ⟨c1, rfl, rfl, -⟩ | ⟨c1, rfl, rfl⟩
  · rcases hR with ⟨c2, rfl, rfl, -⟩ | ⟨c2, rfl, rfl⟩
    · exact ⟨congrArg jI q1, q3⟩
    · exfalso; omega
  · rcases hR with ⟨c2, rfl, rfl, -⟩ | ⟨c2, rfl, rfl⟩
    · exfalso; omega
    · exact ⟨by rw [q2], h⟩

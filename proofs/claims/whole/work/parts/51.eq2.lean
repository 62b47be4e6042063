theorem un_sg {k : Int} (h : -1 ≤ k ∧ k ≤ 5) : unN k 1 6 ↔ sg (kR k) := by
  rcases (show k = -1 ∨ k = 0 ∨ k = 1 ∨ k = 2 ∨ k = 3 ∨ k = 4 ∨ k = 5 by omega) with rfl | rfl | rfl | rfl | rfl | rfl | rfl <;> simp [unN, abv, sg, kR]
theorem vo_ct (x : WT) (n : Int) : ∀ (k : Nat) (j : Int), voF x n k j = ctN (fun o => unN (x.2.2.2.1 o) 1 6 ∧ stF x n o = j) k := by
  intro k
  induction k with
  | zero => intro j; rfl
  | succ k ih =>
    intro j
    unfold ctN
    rw [← ih j]
    rcases Classical.em (unN (x.2.2.2.1 (k : Int)) 1 6) with h | h
    · rw [vo_t h]
      by_cases c : stF x n (k : Int) = j
      · rw [← c, uI_s, b2_t ⟨h, rfl⟩]
      · rw [uI_n _ _ (fun e => c e.symm), b2_f (fun e => c e.2), Int.add_zero]
    · rw [vo_f h, b2_f (fun e => h e.1), Int.add_zero]
theorem ctN_pos {P : Int → Prop} : ∀ n : Nat, 0 < ctN P n ↔ ∃ o : Int, 0 ≤ o ∧ o < n ∧ P o := by
  intro n
  induction n with
  | zero => exact ⟨fun h => absurd h (Int.lt_irrefl 0), fun ⟨o, h0, h1, _⟩ => by omega⟩
  | succ n ih =>
    have r := ctN_r P n
    unfold ctN
    rcases Classical.em (P (n : Int)) with h | h
    · rw [b2_t h]
      exact ⟨fun _ => ⟨(n : Int), by omega, by omega, h⟩, fun _ => by omega⟩
    · rw [b2_f h, Int.add_zero, ih]
      constructor
      · rintro ⟨o, h0, h1, h2⟩
        exact ⟨o, h0, by omega, h2⟩
      · rintro ⟨o, h0, h1, h2⟩
        have : o ≠ (n : Int) := fun e => h (by rw [← e]; exact h2)
        exact ⟨o, h0, by omega, h2⟩
theorem ctN_two {P : Int → Prop} {b : Int} (hb : 0 ≤ b) (hP : P b) : ∀ n : Nat, b < n → (1 < ctN P n ↔ ∃ o : Int, 0 ≤ o ∧ o < n ∧ o ≠ b ∧ P o) := by
  intro n
  induction n with
  | zero => intro h; omega
  | succ n ih =>
    intro hn
    unfold ctN
    by_cases e : b = (n : Int)
    · have hn' : P (n : Int) := by rw [← e]; exact hP
      rw [b2_t hn', show (1 < ctN P n + 1) ↔ 0 < ctN P n by omega, ctN_pos]
      constructor
      · rintro ⟨o, h0, h1, h2⟩
        exact ⟨o, h0, by omega, by omega, h2⟩
      · rintro ⟨o, h0, h1, h2, h3⟩
        exact ⟨o, h0, by omega, h3⟩
    · have hp : 0 < ctN P n := (ctN_pos n).mpr ⟨b, hb, by omega, hP⟩
      rcases Classical.em (P (n : Int)) with h | h
      · rw [b2_t h]
        exact ⟨fun _ => ⟨(n : Int), by omega, by omega, fun z => e z.symm, h⟩, fun _ => by omega⟩
      · rw [b2_f h, Int.add_zero, ih (by omega)]
        constructor
        · rintro ⟨o, h0, h1, h2⟩
          exact ⟨o, h0, by omega, h2⟩
        · rintro ⟨o, h0, h1, h2, h3⟩
          have : o ≠ (n : Int) := fun z => h (by rw [← z]; exact h3)
          exact ⟨o, h0, by omega, h2, h3⟩
theorem pn_eq (m f : Int) : pnC m f = pln m f := by
  unfold pnC pln jmax
  (repeat' split) <;> omega
theorem sh_eq {k m f v : Int} {P : Prop} (hk : -1 ≤ k ∧ k ≤ 5) (hv : sg (kR k) → (1 < v ↔ P)) : cSh k m f v = shn (kR k) m f P := by
  have s1 : ∀ y : Int, (1 < v ↔ P) → (if 1 < v then y + y / 2 else y) = sng P y := by
    intro y e
    unfold sng
    rcases Classical.em P with h | h
    · rw [if_pos (e.mpr h), b2_t h, Int.mul_one]
    · rw [if_neg (fun z => h (e.mp z)), b2_f h, Int.mul_zero, Int.add_zero]
  unfold cSh shn
  rw [pn_eq]
  rcases (show k = -1 ∨ k = 0 ∨ k = 1 ∨ k = 2 ∨ k = 3 ∨ k = 4 ∨ k = 5 by omega) with rfl | rfl | rfl | rfl | rfl | rfl | rfl
  · rfl
  · rfl
  · exact s1 _ (hv (Or.inl rfl))
  · rfl
  · rfl
  · exact congrArg (fun z => 2 * z) (s1 _ (hv (Or.inr rfl)))
  · rfl
theorem shF_eq {w : Int → Int} {x : WT} (hc : Wc x) {n : Int} (h : Rl w (hoW x n)) {b : Int} (b0 : 0 ≤ b) (b1 : b < w 1) : shF x n b = sSh w b := by
  obtain ⟨⟨a1, a2, a3⟩, hb, hg, ht⟩ := h
  have a2 : x.2.2.1 = w 1 := a2
  have hm := hc.many
  obtain ⟨g1, g2, g3, g4, g5⟩ := hg b b0 b1
  have bc := hc.being (b := b) b0 (by omega)
  have g1 : kR (x.2.2.2.1 b) = fB w b 0 := g1
  have g2 : stF x n b = fB w b 1 := g2
  have g4 : x.2.2.2.2.2.2.1 b = fB w b 3 := g4
  have g5 : faF x n b = fB w b 4 := g5
  show cSh (x.2.2.2.1 b) (x.2.2.2.2.2.2.1 b) (faF x n b) (voF x n x.2.2.1.toNat (stF x n b)) = shn _ _ _ _
  rw [← g1, ← g4, ← g5]
  refine sh_eq bc.1 (fun hs => ?_)
  rw [vo_ct, a2, ctN_two b0 ⟨(un_sg bc.1).mpr hs, rfl⟩ (w 1).toNat (by omega)]
  constructor
  · rintro ⟨o, o0, o1, o2, o3, o4⟩
    obtain ⟨q1, q2, -⟩ := hg o o0 (by omega)
    have q1 : kR (x.2.2.2.1 o) = fB w o 0 := q1
    have q2 : stF x n o = fB w o 1 := q2
    exact ⟨o, o0, o1, o2, by rw [← q1]; exact (un_sg (hc.being (b := o) o0 (by omega)).1).mp o3, by rw [← q2, ← g2]; exact o4⟩
  · rintro ⟨o, o0, o1, o2, o3, o4⟩
    obtain ⟨q1, q2, -⟩ := hg o o0 (by omega)
    have q1 : kR (x.2.2.2.1 o) = fB w o 0 := q1
    have q2 : stF x n o = fB w o 1 := q2
    exact ⟨o, o0, o1, o2, (un_sg (hc.being (b := o) o0 (by omega)).1).mpr (by rw [q1]; exact o3), by rw [q2, g2]; exact o4⟩
theorem cGv_eq {w : Int → Int} {x : WT} (hc : Wc x) {n : Int} (h : Rl w (hoW x n)) {b : Int} (p : Int) (b0 : 0 ≤ b) (b1 : b < w 1) : cGv x n b p = sGv w b p := by
  have e1 := shF_eq hc h b0 b1
  have e2 : stF x n b = fB w b 1 := (h.2.2.1 b b0 b1).2.1
  unfold cGv sGv
  rw [e1, e2]
theorem cLt_eq {w : Int → Int} {x : WT} (hc : Wc x) {n : Int} (h : Rl w (hoW x n)) {p : Int} (p0 : 0 ≤ p) (p1 : p < 16) : cLt x n p = sLt w p := by
  have e1 : boF x n p = w (3 + p) := h.2.1 p p0 p1
  have e2 : x.2.2.1 = w 1 := h.1.2.1
  have hm := hc.many
  unfold cLt sLt
  rw [e1, e2]
  exact congrArg (fun z => w (3 + p) + z) (sumN_c _ (fun k k0 k1 => cGv_eq hc h p k0 (by omega)))
/-- sets, joined -/
theorem btI_or (P Q : Prop) (k : Int) : btI P k ||| btI Q k = btI (P ∨ Q) k := by
  rcases Classical.em P with p | p
  · rcases Classical.em Q with q | q
    · rw [btI_t p, btI_t q, btI_t (Or.inl p), Int32.or_self]
    · rw [btI_f q, or_z, btI_t p, btI_t (Or.inl p)]
  · rcases Classical.em Q with q | q
    · rw [btI_f p, Int32.or_comm, or_z, btI_t q, btI_t (Or.inr q)]
    · rw [btI_f p, btI_f q, or_z, btI_f (fun z => z.elim p q)]
theorem stN_or (P Q : Int → Prop) : ∀ n : Nat, stN P n ||| stN Q n = stN (fun t => P t ∨ Q t) n := by
  intro n
  induction n with
  | zero => exact or_z _
  | succ n ih =>
    show (stN P n ||| btI _ _) ||| (stN Q n ||| btI _ _) = stN _ n ||| btI _ _
    rw [← ih, ← btI_or]
    ac_rfl
theorem stN_cg {P Q : Int → Prop} : ∀ n : Nat, (∀ t : Int, 0 ≤ t → t < n → (P t ↔ Q t)) → stN P n = stN Q n := by
  intro n
  induction n with
  | zero => intro _; rfl
  | succ n ih =>
    intro h
    show stN P n ||| btI _ _ = stN Q n ||| btI _ _
    rw [ih (fun t t0 t1 => h t t0 (by omega)), propext (h (n : Int) (by omega) (by omega))]
theorem dnI_st (w : Int → Int) (x : Int32) : ∀ n : Nat, dnI w x n = x ||| stN (fun t => fT w t 1 = w 0 ∧ ¬ drk w t) n := by
  intro n
  induction n with
  | zero => exact (or_z x).symm
  | succ n ih =>
    show dnI w x n ||| btI _ _ = x ||| (stN _ n ||| btI _ _)
    rw [ih]
    ac_rfl
theorem dnO_st (w : Int → Int) : ∀ n : Nat, dnO w n = stN (fun t => ∃ m : Nat, m < n ∧ fT (hrs w m) t 1 = hrs w m 0 ∧ ¬ drk (hrs w m) t) (w 2).toNat := by
  intro n
  induction n with
  | zero =>
    show jI 0 = _
    have : ∀ k : Nat, stN (fun t => ∃ m : Nat, m < 0 ∧ fT (hrs w m) t 1 = hrs w m 0 ∧ ¬ drk (hrs w m) t) k = jI 0 := by
      intro k
      induction k with
      | zero => rfl
      | succ k ih =>
        show stN _ k ||| btI _ _ = _
        rw [ih, btI_f (by rintro ⟨m, hm, -⟩; omega), or_z]
    exact (this _).symm
  | succ n ih =>
    show dnI (hrs w n) (dnO w n) (w 2).toNat = _
    rw [dnI_st, ih, stN_or]
    refine stN_cg _ (fun t t0 t1 => ?_)
    constructor
    · rintro (⟨m, h1, h2⟩ | h)
      · exact ⟨m, by omega, h2⟩
      · exact ⟨n, by omega, h⟩
    · rintro ⟨m, h1, h2⟩
      by_cases e : m = n
      · subst e; exact Or.inr h2
      · exact Or.inl ⟨m, by omega, h2⟩
/-- what is done, on both sides -/
theorem dn_eq {w : Int → Int} {x : WT} (hw : Wf w) (hc : Wc x) (h : Rl w x) (h0 : w 0 ≤ 9999) : sDn w = stN (cDn x) x.2.2.2.2.2.2.2.2.1.toNat := by
  have e2 : x.2.2.2.2.2.2.2.2.1 = w 2 := h.1.2.2
  have e0 : x.1 = w 0 := h.1.1
  have hmt := hw.tasks
  unfold sDn
  rw [dnO_st, e2]
  refine stN_cg _ (fun t t0 t1 => ?_)
  have ht := h.2.2.2 t t0 (by omega)
  have hct := hc.task (t := t) t0 (by omega)
  have fx : ∀ m : Nat, m < 101 → fT (hrs w m) t 0 = x.2.2.2.2.2.2.2.2.2.1 t ∧ fT (hrs w m) t 1 = x.2.2.2.2.2.2.2.2.2.2.1 t ∧ fT (hrs w m) t 2 = x.2.2.2.2.2.2.2.2.2.2.2 t ∧ hrs w m 0 = x.1 + m ∧ sLt (hrs w m) (x.2.2.2.2.2.2.2.2.2.1 t) = cLt x (m : Int) (x.2.2.2.2.2.2.2.2.2.1 t) := by
    intro m hm
    have r := Rl_hrs hw hc h m (by omega)
    obtain ⟨i1, i2, i3, i4⟩ := hw.hrs m (by omega)
    have rt := r.2.2.2 t t0 (by rw [i4]; omega)
    exact ⟨rt.1.symm, rt.2.1.symm, rt.2.2.symm, by rw [i2, e0], (cLt_eq hc r (by omega) (by omega)).symm⟩
  constructor
  · rintro ⟨m, h1, h2, h3⟩
    obtain ⟨f1, f2, f3, f4, f5⟩ := fx m h1
    unfold drk at h3
    rw [f1, f3, f5] at h3
    rw [f2, f4] at h2
    have em : x.2.2.2.2.2.2.2.2.2.2.1 t - x.1 = (m : Int) := by omega
    unfold cDn
    rw [em]
    exact ⟨by omega, by omega⟩
  · intro hd
    unfold cDn at hd
    have hm : (((x.2.2.2.2.2.2.2.2.2.2.1 t - x.1).toNat : Nat) : Int) = x.2.2.2.2.2.2.2.2.2.2.1 t - x.1 := by omega
    obtain ⟨f1, f2, f3, f4, f5⟩ := fx (x.2.2.2.2.2.2.2.2.2.2.1 t - x.1).toNat (by omega)
    refine ⟨(x.2.2.2.2.2.2.2.2.2.2.1 t - x.1).toNat, by omega, by rw [f2, f4]; omega, ?_⟩
    unfold drk
    rw [f1, f3, f5, hm]
    omega

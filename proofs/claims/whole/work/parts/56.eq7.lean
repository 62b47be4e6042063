theorem bsN_cg {f g : Int → Int} : ∀ n : Nat, (∀ k : Int, 0 ≤ k → k < n → f k = g k) → bsN f n = bsN g n ∧ msN f n = msN g n := by
  intro n
  induction n with
  | zero => intro _; exact ⟨rfl, rfl⟩
  | succ n ih =>
    intro e
    obtain ⟨i1, i2⟩ := ih (fun k k0 k1 => e k k0 (by omega))
    refine ⟨?_, ?_⟩
    · show (if msN f n < f (n : Int) then (n : Int) else bsN f n) = (if msN g n < g (n : Int) then (n : Int) else bsN g n)
      rw [i1, i2, e (n : Int) (by omega) (by omega)]
    · show (if msN f n < f (n : Int) then f (n : Int) else msN f n) = (if msN g n < g (n : Int) then g (n : Int) else msN g n)
      rw [i2, e (n : Int) (by omega) (by omega)]
theorem nsN_cg {f g : Int → Int} {c d : Int} (hcd : c = d) : ∀ n : Nat, (∀ k : Int, 0 ≤ k → k < n → f k = g k) → nsN f c n = nsN g d n ∧ lsN f c n = lsN g d n := by
  subst hcd
  intro n
  induction n with
  | zero => intro _; exact ⟨rfl, rfl⟩
  | succ n ih =>
    intro e
    obtain ⟨i1, i2⟩ := ih (fun k k0 k1 => e k k0 (by omega))
    refine ⟨?_, ?_⟩
    · show (if f (n : Int) < lsN f c n then (n : Int) else nsN f c n) = (if g (n : Int) < lsN g c n then (n : Int) else nsN g c n)
      rw [i1, i2, e (n : Int) (by omega) (by omega)]
    · show (if f (n : Int) < lsN f c n then f (n : Int) else lsN f c n) = (if g (n : Int) < lsN g c n then g (n : Int) else lsN g c n)
      rw [i2, e (n : Int) (by omega) (by omega)]
theorem hang_eq {w : Int → Int} {x : WT} (hw : Wf w) (hc : Wc x) (h : Rl w x) (h0 : w 0 ≤ 9999) {v : Int} (hv : 1 ≤ v ∧ v ≤ 99) : bsN (fun z_ => ctN (cDn (chW 0 v z_ x)) (x.2.2.2.2.2.2.2.2.1).toNat) 16 = bsN (fun z_ => onI (sDn (uI w (3 + z_) (jmin (w (3 + z_) + v) 99))) 32) 16 := by
  refine (bsN_cg 16 (fun k k0 k1 => ?_)).1
  have hb := hw.bowl (p := k) k0 (by omega)
  have z := jmin_z (w (3 + k) + v) 99
  have e := dn_many (hw.setP (p := k) (x := jmin (w (3 + k) + v) 99) (by omega) (by omega)) (chW_w hc (y := 0) (s := v) (z := k) (by omega) (by omega) (by omega) (by omega)) (Rl_ch0 h (by omega)) (by rw [uI_n _ _ (by omega)]; exact h0)
  rw [chW_nt] at e
  exact e.symm
theorem goal_eq {w : Int → Int} {x : WT} (hw : Wf w) (hc : Wc x) (h : Rl w x) (h0 : w 0 ≤ 9999) {b : Int} (hb : 0 ≤ b ∧ b < 10) : bsN (fun z_ => ctN (cDn (chW 1 b z_ x)) (x.2.2.2.2.2.2.2.2.1).toNat) 16 = bsN (fun z_ => onI (sDn (uI w (19 + 5 * b + 2) z_)) 32) 16 := by
  refine (bsN_cg 16 (fun k k0 k1 => ?_)).1
  have e := dn_many (hw.setB (b := b) (k := 2) (x := k) (by omega) (by omega)) (chW_w hc (y := 1) (s := b) (z := k) (by omega) (by omega) (by omega) (by omega)) (Rl_ch1 h (by omega)) (by rw [uI_n _ _ (by omega)]; exact h0)
  rw [chW_nt] at e
  exact e.symm
theorem kind_eq {w : Int → Int} {x : WT} (hw : Wf w) (hc : Wc x) (h : Rl w x) (h0 : w 0 ≤ 9999) {b : Int} (hb : 0 ≤ b ∧ b < 10) : bsN (fun z_ => ctN (cDn (chW 2 b z_ x)) (x.2.2.2.2.2.2.2.2.1).toNat) 6 = bsN (fun z_ => onI (sDn (uI w (19 + 5 * b + 0) z_)) 32) 6 := by
  refine (bsN_cg 6 (fun k k0 k1 => ?_)).1
  have e := dn_many (hw.setB (b := b) (k := 0) (x := k) (by omega) (by omega)) (chW_w hc (y := 2) (s := b) (z := k) (by omega) (by omega) (by omega) (by omega)) (Rl_ch2 h (by omega) (by omega)) (by rw [uI_n _ _ (by omega)]; exact h0)
  rw [chW_nt] at e
  exact e.symm
theorem needed_eq {w : Int → Int} {x : WT} (hw : Wf w) (hc : Wc x) (h : Rl w x) (h0 : w 0 ≤ 9999) : nsN (fun z_ => ctN (cDn (woW z_ x)) x.2.2.2.2.2.2.2.2.1.toNat) (ctN (cDn x) x.2.2.2.2.2.2.2.2.1.toNat) x.2.2.1.toNat = nsN (fun z_ => onI (sDn (uI w (19 + 5 * z_ + 0) 6)) 32) (onI (sDn w) 32) (w 1).toNat := by
  have hm := hw.many
  have e1 : x.2.2.1 = w 1 := h.1.2.1
  rw [e1]
  refine (nsN_cg (dn_many hw hc h h0).symm _ (fun k k0 k1 => ?_)).1
  exact (dn_many (hw.setB (b := k) (k := 0) (x := 6) (by omega) (by omega)) (woW_w hc (by omega)) (Rl_wo h (by omega)) (by rw [uI_n _ _ (by omega)]; exact h0)).symm
theorem whom_eq {w : Int → Int} {x : WT} (hw : Wf w) (hc : Wc x) (h : Rl w x) (h0 : w 0 ≤ 9999) {t : Int} (t0 : 0 ≤ t) (t1 : t < w 2) : stN (fun z_ => ¬ cDn (woW z_ x) t) x.2.2.1.toNat = stN (fun z_ => ¬ ((sDn (uI w (19 + 5 * z_ + 0) 6) >>> (jI t &&& 31)) &&& jI 1 = jI 1)) (w 1).toNat := by
  have hm := hw.many
  have e1 : x.2.2.1 = w 1 := h.1.2.1
  rw [e1]
  refine stN_cg _ (fun k k0 k1 => not_congr ?_)
  exact (dn_bit (hw.setB (b := k) (k := 0) (x := 6) (by omega) (by omega)) (woW_w hc (by omega)) (Rl_wo h (by omega)) (by rw [uI_n _ _ (by omega)]; exact h0) t0 (by rw [uI_n _ _ (by omega)]; exact t1)).symm
theorem lstN_cg {P Q : Nat → Prop} (e : ∀ n : Nat, P n ↔ Q n) (m n : Nat) : lstN P m n = lstN Q m n := by
  have : P = Q := funext (fun n => propext (e n))
  rw [this]
theorem lstN_cg2 {P Q : Nat → Prop} : ∀ (m n : Nat), (∀ k : Nat, n ≤ k → k < n + m → (P k ↔ Q k)) → lstN P m n = lstN Q m n := by
  intro m
  induction m with
  | zero => intro n _; rfl
  | succ m ih =>
    intro n e
    unfold lstN
    rw [ih (n + 1) (fun k k0 k1 => e k (by omega) (by omega)), propext (e n (by omega) (by omega))]

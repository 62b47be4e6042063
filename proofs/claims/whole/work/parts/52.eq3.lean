set_option maxRecDepth 100000 in
theorem pc_tab : ∀ m : Fin 512, bcF (jI (m.val : Int)) = jI (onI (jI (m.val : Int)) 32) := by decide +kernel
set_option maxRecDepth 100000 in
theorem tb_tab : ∀ m : Fin 1024, ∀ t : Fin 10, ((jI (m.val : Int) >>> (jI (t.val : Int) &&& 31)) &&& jI 1 = jI 1) ↔ m.val.testBit t.val = true := by decide +kernel
/-- how many are in a set -/
theorem on_st (P : Int → Prop) (n : Nat) (h : n ≤ 8) : onI (stN P n) 32 = ctN P n := by
  obtain ⟨m, h1, h2, h3⟩ := st_mask P n (by omega)
  have h512 : m < 512 := Nat.lt_of_lt_of_le h1 (Nat.pow_le_pow_right (n := 2) (i := n) (j := 9) (by omega) (by omega))
  have t := pc_tab ⟨m, h512⟩
  have e := h3 (by omega)
  rw [show ((⟨m, h512⟩ : Fin 512).val) = m from rfl, e] at t
  rw [h2]
  have r1 := onI_r (jI (m : Int)) 32
  have r2 := ctN_r P n
  exact ((jI_eq (by omega) (by omega)).mp t).symm
theorem st_bits (P : Int → Prop) : ∀ n : Nat, n ≤ 10 → ∃ m : Nat, m < 2 ^ n ∧ stN P n = jI (m : Int) ∧ ∀ t : Nat, t < n → (m.testBit t = true ↔ P (t : Int)) := by
  intro n
  induction n with
  | zero => intro _; exact ⟨0, by decide, rfl, fun t h => by omega⟩
  | succ n ih =>
    intro hn
    obtain ⟨m, h1, h2, h3⟩ := ih (by omega)
    have h512 : m < 512 := Nat.lt_of_lt_of_le h1 (Nat.pow_le_pow_right (n := 2) (i := n) (j := 9) (by omega) (by omega))
    obtain ⟨t1, -⟩ := bit_tab ⟨n, by omega⟩ ⟨m, h512⟩ h1
    have e2 : 2 ^ (n + 1) = 2 ^ n + 2 ^ n := by rw [Nat.pow_succ]; omega
    have lo : m.testBit n = false := Nat.testBit_lt_two_pow h1
    rcases Classical.em (P (n : Int)) with q | q
    · refine ⟨m + 2 ^ n, by omega, ?_, fun t ht => ?_⟩
      · show stN P n ||| btI _ _ = _
        rw [h2, btI_t q]
        exact t1
      · rw [Nat.add_comm]
        by_cases e : t = n
        · subst e
          rw [Nat.testBit_two_pow_add_eq, lo]
          exact ⟨fun _ => q, fun _ => rfl⟩
        · rw [Nat.testBit_two_pow_add_gt (by omega)]
          exact h3 t (by omega)
    · refine ⟨m, by omega, ?_, fun t ht => ?_⟩
      · show stN P n ||| btI _ _ = _
        rw [h2, btI_f q, or_z]
      · by_cases e : t = n
        · subst e
          rw [lo]
          exact ⟨fun z => absurd z Bool.false_ne_true, fun z => absurd z q⟩
        · exact h3 t (by omega)
/-- whether one is in a set -/
theorem bit_st (P : Int → Prop) {n : Nat} (h : n ≤ 10) {t : Int} (t0 : 0 ≤ t) (t1 : t < n) : ((stN P n >>> (jI t &&& 31)) &&& jI 1 = jI 1) ↔ P t := by
  obtain ⟨m, h1, h2, h3⟩ := st_bits P n h
  have h1k : m < 1024 := Nat.lt_of_lt_of_le h1 (Nat.pow_le_pow_right (n := 2) (i := n) (j := 10) (by omega) (by omega))
  have k := tb_tab ⟨m, h1k⟩ ⟨t.toNat, by omega⟩
  have e : ((t.toNat : Nat) : Int) = t := by omega
  have k : ((jI (m : Int) >>> (jI ((t.toNat : Nat) : Int) &&& 31)) &&& jI 1 = jI 1) ↔ m.testBit t.toNat = true := k
  have b := h3 t.toNat (by omega)
  rw [e] at k b
  rw [h2]
  exact k.trans b
theorem dn_bit {w : Int → Int} {x : WT} (hw : Wf w) (hc : Wc x) (h : Rl w x) (h0 : w 0 ≤ 9999) {t : Int} (t0 : 0 ≤ t) (t1 : t < w 2) : ((sDn w >>> (jI t &&& 31)) &&& jI 1 = jI 1) ↔ cDn x t := by
  have e2 : x.2.2.2.2.2.2.2.2.1 = w 2 := h.1.2.2
  have hmt := hw.tasks
  rw [dn_eq hw hc h h0]
  exact bit_st _ (by omega) t0 (by omega)
theorem dn_many {w : Int → Int} {x : WT} (hw : Wf w) (hc : Wc x) (h : Rl w x) (h0 : w 0 ≤ 9999) : onI (sDn w) 32 = ctN (cDn x) x.2.2.2.2.2.2.2.2.1.toNat := by
  have e2 : x.2.2.2.2.2.2.2.2.1 = w 2 := h.1.2.2
  have hmt := hw.tasks
  rw [dn_eq hw hc h h0]
  exact on_st _ _ (by omega)
/-- the first of the least -/
def Bs (C : Int → Prop) (T : Int → Int) (lo hi r : Int) : Prop := (r = -1 ∧ ∀ t : Int, lo ≤ t → t < hi → ¬ C t) ∨ (lo ≤ r ∧ r < hi ∧ C r ∧ ∀ t : Int, lo ≤ t → t < hi → C t → T r < T t ∨ (T r = T t ∧ r ≤ t))
theorem Bs_eq {C : Int → Prop} {T : Int → Int} {lo hi r r' : Int} (h : Bs C T lo hi r) (h' : Bs C T lo hi r') : r = r' := by
  rcases h with ⟨a, b⟩ | ⟨a, b, c, d⟩
  · rcases h' with ⟨a', b'⟩ | ⟨a', b', c', d'⟩
    · omega
    · exact absurd c' (b r' a' b')
  · rcases h' with ⟨a', b'⟩ | ⟨a', b', c', d'⟩
    · exact absurd c (b' r a b)
    · have x1 := d r' a' b' c'
      have x2 := d' r a b c
      omega
theorem ck_B (x : WT) : ∀ k : Nat, Bs (fun t => (0 ≤ x.2.2.2.2.2.2.2.2.2.2.1 t - x.1 ∧ x.2.2.2.2.2.2.2.2.2.2.1 t - x.1 ≤ 100) ∧ ¬ cDn x t) x.2.2.2.2.2.2.2.2.2.2.1 0 (k : Int) (ckN x k) := by
  intro k
  induction k with
  | zero => exact Or.inl ⟨rfl, fun t t0 t1 => by omega⟩
  | succ k ih =>
    have hr := ckN_r x k
    rcases Classical.em (ckC x (k : Int) (ckN x k)) with q | q
    · rw [ck_t q]
      obtain ⟨q1, q2, q3⟩ := q
      refine Or.inr ⟨by omega, by omega, ⟨q1, q2⟩, fun t t0 t1 hc => ?_⟩
      by_cases e : t = (k : Int)
      · subst e; omega
      · rcases ih with ⟨a, b⟩ | ⟨a, b, c, d⟩
        · exact absurd hc (b t t0 (by omega))
        · have := d t t0 (by omega) hc
          omega
    · rw [ck_f q]
      rcases ih with ⟨a, b⟩ | ⟨a, b, c, d⟩
      · refine Or.inl ⟨a, fun t t0 t1 hc => ?_⟩
        by_cases e : t = (k : Int)
        · subst e; exact q ⟨hc.1, hc.2, Or.inl (by omega)⟩
        · exact b t t0 (by omega) hc
      · refine Or.inr ⟨a, by omega, c, fun t t0 t1 hc => ?_⟩
        by_cases e : t = (k : Int)
        · subst e
          by_cases l : x.2.2.2.2.2.2.2.2.2.2.1 (k : Int) < x.2.2.2.2.2.2.2.2.2.2.1 (ckN x k)
          · exact absurd ⟨hc.1, hc.2, Or.inr l⟩ q
          · omega
        · exact d t t0 (by omega) hc
theorem dk_B {w : Int → Int} (h2 : 0 ≤ w 2) : ∀ k : Nat, (k : Int) ≤ w 2 → Bs (fun t => (0 ≤ fT w t 1 - w 0 ∧ fT w t 1 - w 0 ≤ 100) ∧ ¬ ((sDn w >>> (jI t &&& 31)) &&& jI 1 = jI 1)) (fun t => fT w t 1) (w 2 - (k : Int)) (w 2) (dkN w k) := by
  intro k
  induction k with
  | zero => intro _; exact Or.inl ⟨rfl, fun t t0 t1 => by omega⟩
  | succ k ih =>
    intro hk
    have ih := ih (by omega)
    have hr := dkN_r w h2 k (by omega)
    rcases Classical.em (dkC w (w 2 - 1 - (k : Int)) (dkN w k)) with q | q
    · rw [dk_t q]
      obtain ⟨q1, q2, q3⟩ := q
      refine Or.inr ⟨by omega, by omega, ⟨q1, q2⟩, fun t t0 t1 hc => ?_⟩
      by_cases e : t = w 2 - 1 - (k : Int)
      · subst e; omega
      · rcases ih with ⟨a, b⟩ | ⟨a, b, c, d⟩
        · exact absurd hc (b t (by omega) t1)
        · have := d t (by omega) t1 hc
          dsimp only at this ⊢
          omega
    · rw [dk_f q]
      rcases ih with ⟨a, b⟩ | ⟨a, b, c, d⟩
      · refine Or.inl ⟨a, fun t t0 t1 hc => ?_⟩
        by_cases e : t = w 2 - 1 - (k : Int)
        · subst e; exact q ⟨hc.1, hc.2, Or.inl (by omega)⟩
        · exact b t (by omega) t1 hc
      · refine Or.inr ⟨by omega, b, c, fun t t0 t1 hc => ?_⟩
        by_cases e : t = w 2 - 1 - (k : Int)
        · subst e
          dsimp only
          by_cases l : fT w (w 2 - 1 - (k : Int)) 1 ≤ fT w (dkN w k) 1
          · exact absurd ⟨hc.1, hc.2, Or.inr l⟩ q
          · omega
        · exact d t (by omega) t1 hc
theorem dark_eq {w : Int → Int} {x : WT} (hw : Wf w) (hc : Wc x) (h : Rl w x) (h0 : w 0 ≤ 9999) : dkN w (w 2).toNat = ckN x x.2.2.2.2.2.2.2.2.1.toNat := by
  have e2 : x.2.2.2.2.2.2.2.2.1 = w 2 := h.1.2.2
  have e0 : x.1 = w 0 := h.1.1
  have hmt := hw.tasks
  have b1 := dk_B (w := w) (by omega) (w 2).toNat (by omega)
  have b2 := ck_B x x.2.2.2.2.2.2.2.2.1.toNat
  rw [show w 2 - ((w 2).toNat : Int) = 0 by omega] at b1
  rw [e2, show (((w 2).toNat : Nat) : Int) = w 2 by omega] at b2
  rw [e2]
  have th : ∀ t : Int, 0 ≤ t → t < w 2 → x.2.2.2.2.2.2.2.2.2.2.1 t = fT w t 1 := fun t t0 t1 => (h.2.2.2 t t0 t1).2.1
  have cc : ∀ t : Int, 0 ≤ t → t < w 2 → (((0 ≤ x.2.2.2.2.2.2.2.2.2.2.1 t - x.1 ∧ x.2.2.2.2.2.2.2.2.2.2.1 t - x.1 ≤ 100) ∧ ¬ cDn x t) ↔ ((0 ≤ fT w t 1 - w 0 ∧ fT w t 1 - w 0 ≤ 100) ∧ ¬ ((sDn w >>> (jI t &&& 31)) &&& jI 1 = jI 1))) := by
    intro t t0 t1
    rw [th t t0 t1, e0, dn_bit hw hc h h0 t0 t1]
  refine Bs_eq b1 ?_
  rcases b2 with ⟨a, b⟩ | ⟨a, b, c, d⟩
  · exact Or.inl ⟨a, fun t t0 t1 z => b t t0 t1 ((cc t t0 t1).mpr z)⟩
  · refine Or.inr ⟨a, b, (cc _ a b).mp c, fun t t0 t1 z => ?_⟩
    have := d t t0 t1 ((cc t t0 t1).mpr z)
    rw [th t t0 t1, th _ a b] at this
    exact this

def snN (f : Nat → Int) : Nat → Int
  | 0 => 0
  | k + 1 => snN f k + f k
theorem snN_s (f : Nat → Int) (k : Nat) : snN f (k + 1) = snN f k + f k := rfl
theorem snN_add (f : Nat → Int) (a : Nat) : ∀ b : Nat, snN f (a + b) = snN f a + snN (fun i => f (a + i)) b := by
  intro b
  induction b with
  | zero => exact (Int.add_zero _).symm
  | succ b ih => show snN f (a + b) + f (a + b) = _; rw [ih, snN_s, Int.add_assoc]
theorem snN_cg {f g : Nat → Int} : ∀ n : Nat, (∀ i : Nat, i < n → f i = g i) → snN f n = snN g n := by
  intro n
  induction n with
  | zero => intro _; rfl
  | succ n ih => intro h; rw [snN_s, snN_s, ih (fun i hi => h i (by omega)), h n (by omega)]
theorem snN_rev (f : Nat → Int) : ∀ n : Nat, snN (fun i => f (n - 1 - i)) n = snN f n := by
  intro n
  induction n with
  | zero => rfl
  | succ n ih =>
    rw [show n + 1 = 1 + n by omega, snN_add, show (1 + n : Nat) = n + 1 by omega, snN_s f n, ← ih]
    have e : snN (fun i => f (n + 1 - 1 - (1 + i))) n = snN (fun i => f (n - 1 - i)) n := snN_cg n (fun i hi => by rw [show n + 1 - 1 - (1 + i) = n - 1 - i by omega])
    rw [e]
    show 0 + f (n + 1 - 1 - 0) + _ = _
    rw [show n + 1 - 1 - 0 = n by omega]
    omega
set_option maxRecDepth 100000 in
theorem gq_ref : ∀ n : Fin 10, ∀ i : Fin 512, i.val < 2 ^ n.val → gq (2 ^ n.val + i.val) = 2 ^ n.val + gq (2 ^ n.val - 1 - i.val) := by decide +kernel
/-- Gray's order meets each set once -/
theorem gray : ∀ n : Nat, n ≤ 10 → ∀ f : Nat → Int, snN (fun i => f (gq i)) (2 ^ n) = snN f (2 ^ n) := by
  intro n
  induction n with
  | zero => intro _ f; rfl
  | succ n ih =>
    intro hn f
    have h512 : 2 ^ n ≤ 512 := Nat.pow_le_pow_right (n := 2) (i := n) (j := 9) (by omega) (by omega)
    have e2 : 2 ^ (n + 1) = 2 ^ n + 2 ^ n := by rw [Nat.pow_succ]; omega
    rw [e2, snN_add, snN_add, ih (by omega) f]
    have e3 : snN (fun i => f (gq (2 ^ n + i))) (2 ^ n) = snN (fun i => (fun j => f (2 ^ n + gq j)) (2 ^ n - 1 - i)) (2 ^ n) := snN_cg _ (fun i hi => by
      have := gq_ref ⟨n, by omega⟩ ⟨i, by omega⟩ hi
      have this : gq (2 ^ n + i) = 2 ^ n + gq (2 ^ n - 1 - i) := this
      rw [this])
    rw [e3, snN_rev (fun j => f (2 ^ n + gq j)) (2 ^ n), ih (by omega) (fun q => f (2 ^ n + q))]
theorem crN_sn (P : Nat → Prop) : ∀ n : Nat, crN P n = snN (fun i => b2 (P i)) n := by
  intro n
  induction n with
  | zero => rfl
  | succ n ih => show crN P n + _ = _; rw [ih]; rfl
theorem sumN_sn (f : Int → Int) : ∀ n : Nat, sumN f n = snN (fun i => f (i : Int)) n := by
  intro n
  induction n with
  | zero => rfl
  | succ n ih => rw [sumN_s, ih]; rfl
theorem l_just (x : Int64) (a s : Int) : x - jL a - jL s = jL 0 ↔ jL (a + s) = x := by
  rw [← jL_add]
  constructor
  · intro h
    have h2 : x - jL a - jL s + (jL s + jL a) = jL 0 + (jL s + jL a) := by rw [h]
    rw [show jL 0 = 0 from rfl, Int64.zero_add] at h2
    have h3 : x - jL a - jL s + (jL s + jL a) = x := by
      rw [← Int64.add_assoc, Int64.sub_add_cancel, Int64.sub_add_cancel]
    rw [h3] at h2
    rw [h2, Int64.add_comm]
  · intro h
    rw [← h, Int64.add_comm (jL a), Int64.add_sub_cancel, Int64.sub_self]
    rfl
theorem sb_gs {w : Int → Int} {q : Nat} (hq : q < 1024) {G : Int → Int} {p : Int} : ∀ n : Nat, n ≤ 10 → (∀ b : Int, 0 ≤ b → b < n → G b = sGv w b p) → sbN G q n = gsN w (q : Int) p n := by
  intro n
  induction n with
  | zero => intro _ _; rfl
  | succ n ih =>
    intro hn h
    unfold sbN
    rw [gsN_s, ih (by omega) (fun b b0 b1 => h b b0 (by omega)), h (n : Int) (by omega) (by omega)]
    have k : ((jI (q : Int) >>> (jI (n : Int) &&& 31)) &&& jI 1 = jI 1) ↔ q.testBit n = true := tb_tab ⟨q, hq⟩ ⟨n, by omega⟩
    by_cases c : q.testBit n = true
    · rw [if_pos c, if_pos (k.mpr c)]
    · rw [if_neg c, if_neg (fun z => c (k.mp z))]
/-- the sets that would make told lights, on both sides -/
theorem read_eq {w : Int → Int} {ce told old : Int → Int64} {k : Int} {bo : Int → Int} {G : Int → Int → Int} {P n : Nat} (hn : n ≤ 10) (e1 : n = (w 1).toNat) (hb : ∀ p : Int, 0 ≤ p → p < P → bo p = w (3 + p)) (hG : ∀ p b : Int, 0 ≤ p → p < P → 0 ≤ b → b < n → G b p = sGv w b p) (ht : ∀ p : Int, 0 ≤ p → p < P → told p = ce (40 * k + p)) : crN (fun m_ => allZ (lkF told bo G n old P (gq m_)) P) (2 ^ n) = sumN (fun z_ => b2 (jsP w ce k z_ P)) (2 ^ n) := by
  have h1k : 2 ^ n ≤ 1024 := Nat.pow_le_pow_right (n := 2) (i := n) (j := 10) (by omega) hn
  rw [crN_sn, sumN_sn, gray n hn (fun q => b2 (allZ (lkF told bo G n old P q) P))]
  refine snN_cg _ (fun q hq => ?_)
  refine b2_c ?_
  have one : ∀ p : Int, 0 ≤ p → p < P → (lkF told bo G n old P q p = jL 0 ↔ jL (w (3 + p) + gsN w (q : Int) p (w 1).toNat) = ce (40 * k + p)) := by
    intro p p0 p1
    have e : lkF told bo G n old P q p = told p - jL (bo p) - jL (sbN (fun b_ => G b_ p) q n) := if_pos p1
    rw [e, l_just, hb p p0 p1, ht p p0 p1, sb_gs (w := w) (p := p) (by omega) n hn (fun b b0 b1 => hG p b p0 p1 b0 b1), e1]
  constructor
  · intro h p p0 p1
    exact (one p p0 p1).mp (h p p0 p1)
  · intro h p p0 p1
    exact (one p p0 p1).mpr (h p p0 p1)

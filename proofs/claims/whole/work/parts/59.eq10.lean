/-- a sheet told by itself, and told flat -/
def Rs (bt lg : Int → Int) (ce : Int → Int64) (s : Int × Int × (Int → Int64)) (k : Int) : Prop := s.1 = bt k ∧ s.2.1 = lg k ∧ ∀ i : Int, 0 ≤ i → i < 40 → s.2.2 i = ce (40 * k + i)
theorem czF_v (ce : Int → Int64) (k : Int) : ∀ (n : Nat) (j : Int), czF ce k n j = if 40 * k ≤ j ∧ j < 40 * k + (n : Int) then jL 0 else ce j := by
  intro n
  induction n with
  | zero => intro j; rw [if_neg (by omega)]; rfl
  | succ n ih =>
    intro j
    show uL (czF ce k n) (40 * k + (n : Int)) (jL 0) j = _
    by_cases c : j = 40 * k + (n : Int)
    · subst c
      rw [uL_s, if_pos (by omega)]
    · rw [uL_n _ _ c, ih]
      by_cases d : 40 * k ≤ j ∧ j < 40 * k + (n : Int)
      · rw [if_pos d, if_pos (show 40 * k ≤ j ∧ j < 40 * k + ((n + 1 : Nat) : Int) by omega)]
      · rw [if_neg d, if_neg (show ¬ (40 * k ≤ j ∧ j < 40 * k + ((n + 1 : Nat) : Int)) by omega)]
theorem mpF_v (ce : Int → Int64) (k b : Int) (f : Int → Int) : ∀ (n : Nat) (j : Int), mpF ce k b f n j = if 40 * k ≤ j ∧ j < 40 * k + (n : Int) then nW b (jL (f (j - 40 * k))) else ce j := by
  intro n
  induction n with
  | zero => intro j; rw [if_neg (by omega)]; rfl
  | succ n ih =>
    intro j
    show uL (mpF ce k b f n) (40 * k + (n : Int)) (nW b (jL (f (n : Int)))) j = _
    by_cases c : j = 40 * k + (n : Int)
    · subst c
      rw [uL_s, if_pos (by omega), show 40 * k + (n : Int) - 40 * k = (n : Int) by omega]
    · rw [uL_n _ _ c, ih]
      by_cases d : 40 * k ≤ j ∧ j < 40 * k + (n : Int)
      · rw [if_pos d, if_pos (show 40 * k ≤ j ∧ j < 40 * k + ((n + 1 : Nat) : Int) by omega)]
      · rw [if_neg d, if_neg (show ¬ (40 * k ≤ j ∧ j < 40 * k + ((n + 1 : Nat) : Int)) by omega)]
theorem lyC_cg {f g : Int → Int64} : ∀ n : Nat, (∀ i : Int, 0 ≤ i → i < n → f i = g i) → lyC f n = lyC g n := by
  intro n
  induction n with
  | zero => intro _; rfl
  | succ n ih =>
    intro e
    have e1 := e (n : Int) (by omega) (by omega)
    have i := ih (fun i i0 i1 => e i i0 (by omega))
    rcases Classical.em (okL (f (n : Int))) with q | q
    · rw [(ly_t (w := fun _ => 0) q).2, (ly_t (w := fun _ => 0) (f := g) (by rw [← e1]; exact q)).2, i]
    · rw [(ly_f (w := fun _ => 0) q).2, (ly_f (w := fun _ => 0) (f := g) (by rw [← e1]; exact q)).2, i]

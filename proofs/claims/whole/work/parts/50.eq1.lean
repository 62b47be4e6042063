/-- the same world, told by rows and told flat -/
def kR (k : Int) : Int := if k = -1 then 6 else k
def Rl (w : Int → Int) (x : WT) : Prop := (x.1 = w 0 ∧ x.2.2.1 = w 1 ∧ x.2.2.2.2.2.2.2.2.1 = w 2) ∧ (∀ p : Int, 0 ≤ p → p < 16 → x.2.1 p = w (3 + p)) ∧
  (∀ b : Int, 0 ≤ b → b < w 1 → kR (x.2.2.2.1 b) = fB w b 0 ∧ x.2.2.2.2.1 b = fB w b 1 ∧ x.2.2.2.2.2.1 b = fB w b 2 ∧ x.2.2.2.2.2.2.1 b = fB w b 3 ∧ x.2.2.2.2.2.2.2.1 b = fB w b 4) ∧
  (∀ t : Int, 0 ≤ t → t < w 2 → x.2.2.2.2.2.2.2.2.2.1 t = fT w t 0 ∧ x.2.2.2.2.2.2.2.2.2.2.1 t = fT w t 1 ∧ x.2.2.2.2.2.2.2.2.2.2.2 t = fT w t 2)
def hoW (x : WT) (n : Int) : WT := (x.1 + n, boF x n, x.2.2.1, x.2.2.2.1, stF x n, x.2.2.2.2.2.1, x.2.2.2.2.2.2.1, faF x n, x.2.2.2.2.2.2.2.2.1, x.2.2.2.2.2.2.2.2.2.1, x.2.2.2.2.2.2.2.2.2.2.1, x.2.2.2.2.2.2.2.2.2.2.2)
set_option maxRecDepth 100000 in
theorem cSt_tab : ∀ a g : Fin 16, ∀ n : Fin 7, cSt (a.val : Int) (g.val : Int) ((n.val : Int) + 1) = twd (cSt (a.val : Int) (g.val : Int) (n.val : Int)) (g.val : Int) ∧ cSt (a.val : Int) (g.val : Int) 0 = (a.val : Int) := by decide +kernel
theorem twC_far {f t s : Int} (hs : 3 ≤ s) (hf : 0 ≤ f ∧ f ≤ 3) (ht : 0 ≤ t ∧ t ≤ 3) : twC f t s = t := by
  unfold twC jmin jmax
  (repeat' split) <;> omega
theorem cSt_far {a g n : Int} (hn : 6 ≤ n) (ha : 0 ≤ a ∧ a ≤ 15) (hg : 0 ≤ g ∧ g ≤ 15) : cSt a g n = g := by
  unfold cSt
  have h1 := twC_far (f := a / 4) (t := g / 4) (s := n) (by omega) (by omega) (by omega)
  have h2 := jabs_z (twC (a / 4) (g / 4) n - a / 4)
  have h3 := twC_far (f := a % 4) (t := g % 4) (s := n - jabs (twC (a / 4) (g / 4) n - a / 4)) (by omega) (by omega) (by omega)
  rw [h3, h1]
  omega
theorem cSt_0 {a g : Int} (ha : 0 ≤ a ∧ a ≤ 15) (hg : 0 ≤ g ∧ g ≤ 15) : cSt a g 0 = a := by
  have := (cSt_tab ⟨a.toNat, by omega⟩ ⟨g.toNat, by omega⟩ 0).2
  rw [show ((⟨a.toNat, by omega⟩ : Fin 16).val : Int) = a by show ((a.toNat : Nat) : Int) = a; omega, show ((⟨g.toNat, by omega⟩ : Fin 16).val : Int) = g by show ((g.toNat : Nat) : Int) = g; omega] at this
  exact this
theorem cSt_s {a g n : Int} (hn : 0 ≤ n) (ha : 0 ≤ a ∧ a ≤ 15) (hg : 0 ≤ g ∧ g ≤ 15) : cSt a g (n + 1) = twd (cSt a g n) g := by
  by_cases c : n < 7
  · have := (cSt_tab ⟨a.toNat, by omega⟩ ⟨g.toNat, by omega⟩ ⟨n.toNat, by omega⟩).1
    rw [show ((⟨a.toNat, by omega⟩ : Fin 16).val : Int) = a by show ((a.toNat : Nat) : Int) = a; omega, show ((⟨g.toNat, by omega⟩ : Fin 16).val : Int) = g by show ((g.toNat : Nat) : Int) = g; omega, show ((⟨n.toNat, by omega⟩ : Fin 7).val : Int) = n by show ((n.toNat : Nat) : Int) = n; omega] at this
    exact this
  · rw [cSt_far (by omega) ha hg, cSt_far (by omega) ha hg]
    unfold twd
    (repeat' split) <;> omega
theorem hrB_v (w : Int → Int) : ∀ n : Nat, n ≤ 10 → (∀ j : Int, (j < 19 ∨ 69 ≤ j) → hrB w n j = w j) ∧ (∀ b : Int, 0 ≤ b → b < 10 → fB (hrB w n) b 0 = fB w b 0 ∧ fB (hrB w n) b 2 = fB w b 2 ∧ fB (hrB w n) b 3 = fB w b 3 ∧ (b < n → fB (hrB w n) b 1 = twd (fB w b 1) (fB w b 2) ∧ fB (hrB w n) b 4 = fB w b 4 + (if fB w b 4 < 999 then 1 else 0)) ∧ ((n : Int) ≤ b → fB (hrB w n) b 1 = fB w b 1 ∧ fB (hrB w n) b 4 = fB w b 4)) := by
  intro n
  induction n with
  | zero => intro _; exact ⟨fun j _ => rfl, fun b _ _ => ⟨rfl, rfl, rfl, fun h => by omega, fun _ => ⟨rfl, rfl⟩⟩⟩
  | succ n ih =>
    intro hn
    obtain ⟨i1, i2⟩ := ih (by omega)
    have e : hrB w (n + 1) = uI (uI (hrB w n) (19 + 5 * (n : Int) + 1) (twd (fB (hrB w n) (n : Int) 1) (fB (hrB w n) (n : Int) 2))) (19 + 5 * (n : Int) + 4) (fB (hrB w n) (n : Int) 4 + (if fB (hrB w n) (n : Int) 4 < 999 then 1 else 0)) := rfl
    obtain ⟨-, k2, -, -, k5⟩ := i2 (n : Int) (by omega) (by omega)
    obtain ⟨k6, k7⟩ := k5 (Int.le_refl _)
    rw [k2, k6, k7] at e
    rw [e]
    refine ⟨fun j hj => ?_, fun b b0 b1 => ?_⟩
    · rw [uI_n _ _ (by omega), uI_n _ _ (by omega)]
      exact i1 j hj
    · obtain ⟨m1, m2, m3, m4, m5⟩ := i2 b b0 b1
      unfold fB at m1 m2 m3 m4 m5 ⊢
      refine ⟨?_, ?_, ?_, fun hb => ?_, fun hb => ?_⟩
      · rw [uI_n _ _ (by omega), uI_n _ _ (by omega)]; exact m1
      · rw [uI_n _ _ (by omega), uI_n _ _ (by omega)]; exact m2
      · rw [uI_n _ _ (by omega), uI_n _ _ (by omega)]; exact m3
      · by_cases c : b = (n : Int)
        · subst c
          rw [uI_n _ _ (by omega), uI_s, uI_s]
          exact ⟨rfl, rfl⟩
        · rw [uI_n _ _ (by omega), uI_n _ _ (by omega), uI_n _ _ (by omega), uI_n _ _ (by omega)]
          exact m4 (by omega)
      · rw [uI_n _ _ (by omega), uI_n _ _ (by omega), uI_n _ _ (by omega), uI_n _ _ (by omega)]
        exact m5 (by omega)
theorem hrP_v (w : Int → Int) : ∀ n : Nat, ∀ j : Int, hrP w n j = if 3 ≤ j ∧ j < 3 + (n : Int) then w j - (if 0 < w j then 1 else 0) else w j := by
  intro n
  induction n with
  | zero => intro j; rw [if_neg (by omega)]; rfl
  | succ n ih =>
    intro j
    show uI (hrP w n) (3 + (n : Int)) (hrP w n (3 + (n : Int)) - (if 0 < hrP w n (3 + (n : Int)) then 1 else 0)) j = _
    have e : hrP w n (3 + (n : Int)) = w (3 + (n : Int)) := by rw [ih, if_neg (by omega)]
    rw [e]
    by_cases c : j = 3 + (n : Int)
    · subst c
      rw [uI_s, if_pos (show 3 ≤ 3 + (n : Int) ∧ 3 + (n : Int) < 3 + ((n + 1 : Nat) : Int) by omega)]
    · rw [uI_n _ _ c, ih]
      by_cases d : 3 ≤ j ∧ j < 3 + (n : Int)
      · rw [if_pos d, if_pos (show 3 ≤ j ∧ j < 3 + ((n + 1 : Nat) : Int) by omega)]
      · rw [if_neg d, if_neg (show ¬ (3 ≤ j ∧ j < 3 + ((n + 1 : Nat) : Int)) by omega)]
/-- one hour more on both sides -/
theorem Rl_hour {w : Int → Int} {x : WT} (hw : Wf w) (hc : Wc x) {n : Int} (hn : 0 ≤ n) (h : Rl w (hoW x n)) (hx : w 1 = x.2.2.1) : Rl (sHr w) (hoW x (n + 1)) := by
  have hm := hw.many
  obtain ⟨⟨a1, a2, a3⟩, hb, hg, ht⟩ := h
  have a1 : x.1 + n = w 0 := a1
  obtain ⟨v1, v2⟩ := hrB_v w (w 1).toNat (by omega)
  have sv : ∀ j : Int, j ≠ 0 → sHr w j = if 3 ≤ j ∧ j < 19 then w j - (if 0 < w j then 1 else 0) else hrB w (w 1).toNat j := by
    intro j hj
    show uI _ 0 _ j = _
    rw [uI_n _ _ hj, hrP_v]
    by_cases c : 3 ≤ j ∧ j < 19
    · rw [if_pos (show 3 ≤ j ∧ j < 3 + ((16 : Nat) : Int) by omega), if_pos c, v1 j (by omega)]
    · rw [if_neg (show ¬ (3 ≤ j ∧ j < 3 + ((16 : Nat) : Int)) by omega), if_neg c]
  have s1 : sHr w 1 = w 1 := by rw [sv 1 (by omega), if_neg (by omega), v1 1 (by omega)]
  have s2 : sHr w 2 = w 2 := by rw [sv 2 (by omega), if_neg (by omega), v1 2 (by omega)]
  have sb : ∀ b k : Int, 0 ≤ b → 0 ≤ k → fB (sHr w) b k = fB (hrB w (w 1).toNat) b k := by
    intro b k b0 k0
    show sHr w _ = hrB w _ _
    rw [sv _ (by omega), if_neg (by omega)]
  refine ⟨⟨?_, by rw [s1]; exact a2, by rw [s2]; exact a3⟩, fun p p0 p1 => ?_, fun b b0 b1 => ?_, fun t t0 t1 => ?_⟩
  · show x.1 + (n + 1) = uI _ 0 _ 0
    rw [uI_s]
    omega
  · have e := hb p p0 p1
    have e : boF x n p = w (3 + p) := e
    have bw := hw.bowl (p := p) p0 p1
    rw [sv (3 + p) (by omega), if_pos (by omega), ← e]
    show jmax 0 (x.2.1 p - (n + 1)) = _
    have z1 := jmax_z 0 (x.2.1 p - (n + 1))
    have z2 := jmax_z 0 (x.2.1 p - n)
    have e2 : boF x n p = jmax 0 (x.2.1 p - n) := rfl
    split <;> omega
  · rw [s1] at b1
    obtain ⟨g1, g2, g3, g4, g5⟩ := hg b b0 b1
    have bc := hc.being (b := b) b0 (by omega)
    obtain ⟨u1, u2, u3, u4, u5⟩ := v2 b b0 (by omega)
    obtain ⟨u6, u7⟩ := u4 (by omega)
    rw [sb b 0 b0 (by omega), sb b 1 b0 (by omega), sb b 2 b0 (by omega), sb b 3 b0 (by omega), sb b 4 b0 (by omega), u1, u2, u3, u6, u7]
    refine ⟨g1, ?_, g3, g4, ?_⟩
    · show cSt (x.2.2.2.2.1 b) (x.2.2.2.2.2.1 b) (n + 1) = _
      rw [cSt_s hn (by omega) (by omega), ← g2, ← g3]
      rfl
    · have g5 : faF x n b = fB w b 4 := g5
      rw [← g5]
      show jmin 999 (x.2.2.2.2.2.2.2.1 b + (n + 1)) = _
      have z1 := jmin_z 999 (x.2.2.2.2.2.2.2.1 b + (n + 1))
      have z2 := jmin_z 999 (x.2.2.2.2.2.2.2.1 b + n)
      have e2 : faF x n b = jmin 999 (x.2.2.2.2.2.2.2.1 b + n) := rfl
      split <;> omega
  · rw [s2] at t1
    have ht := ht t t0 t1
    have st : ∀ k : Int, 0 ≤ k → fT (sHr w) t k = fT w t k := by
      intro k k0
      show sHr w _ = w _
      rw [sv _ (by omega), if_neg (by omega), v1 _ (by omega)]
    rw [st 0 (by omega), st 1 (by omega), st 2 (by omega)]
    exact ht
theorem Rl_0 {w : Int → Int} {x : WT} (hw : Wf w) (hc : Wc x) (h : Rl w x) : Rl w (hoW x 0) := by
  have hm := hw.many
  obtain ⟨⟨a1, a2, a3⟩, hb, hg, ht⟩ := h
  refine ⟨⟨by show x.1 + 0 = w 0; omega, a2, a3⟩, fun p p0 p1 => ?_, fun b b0 b1 => ?_, ht⟩
  · have e := hb p p0 p1
    have bw := hw.bowl (p := p) p0 p1
    show jmax 0 (x.2.1 p - 0) = _
    have z1 := jmax_z 0 (x.2.1 p - 0)
    omega
  · obtain ⟨g1, g2, g3, g4, g5⟩ := hg b b0 b1
    have bc := hc.being (b := b) b0 (by omega)
    refine ⟨g1, ?_, g3, g4, ?_⟩
    · show cSt (x.2.2.2.2.1 b) (x.2.2.2.2.2.1 b) 0 = _
      rw [cSt_0 (by omega) (by omega)]
      exact g2
    · show jmin 999 (x.2.2.2.2.2.2.2.1 b + 0) = _
      have z1 := jmin_z 999 (x.2.2.2.2.2.2.2.1 b + 0)
      omega
theorem Rl_hrs {w : Int → Int} {x : WT} (hw : Wf w) (hc : Wc x) (h : Rl w x) : ∀ n : Nat, w 0 + n ≤ 20000 → Rl (hrs w n) (hoW x (n : Int)) := by
  intro n
  induction n with
  | zero => intro _; exact Rl_0 hw hc h
  | succ n ih =>
    intro hn
    obtain ⟨i1, i2, i3, i4⟩ := hw.hrs n (by omega)
    have := Rl_hour i1 hc (n := (n : Int)) (by omega) (ih (by omega)) (by rw [i3]; exact h.1.2.1.symm)
    exact this

theorem Ch_cg {f f' : Int → Int} {t v : Int} {g : Int → Int} (e : ∀ j : Int, 0 ≤ j → j < 16 → f j = f' j) (ht : 0 ≤ t ∧ t < 16) (h : Ch f t v g) : Ch f' t v g := by
  obtain ⟨h1, h2, h3, h4⟩ := h
  refine ⟨fun j j0 j1 => ?_, fun hl => h2 (by rw [e t ht.1 ht.2]; exact hl), h3, fun z j z0 z1 j0 j1 hz ha hl => h4 z j z0 z1 j0 j1 hz ha (by rw [e j j0 j1]; exact hl)⟩
  have := h1 j j0 j1
  rw [e j j0 j1] at this
  exact this
theorem sSt_cg {f f' : Int → Int} {t v : Int} (e : ∀ j : Int, 0 ≤ j → j < 16 → f j = f' j) (ht : 0 ≤ t ∧ t < 16) (j : Int) (j0 : 0 ≤ j) (j1 : j < 16) : sSt f t v j = sSt f' t v j := Ch_eq (Ch_cg e ht (sSt_C f t v)) (sSt_C f' t v) j j0 j1
theorem mxN_cg {f f' : Int → Int} {c : Int} (e : ∀ j : Int, 0 ≤ j → j < 16 → f j = f' j) : ∀ k : Nat, k ≤ 16 → mxN f c k = mxN f' c k := by
  intro k
  induction k with
  | zero => intro _; rfl
  | succ k ih => intro hk; unfold mxN; rw [ih (by omega), e (k : Int) (by omega) (by omega)]
theorem glN_cg {f f' : Int → Int} {x t : Int} (e : ∀ j : Int, 0 ≤ j → j < 16 → f j = f' j) (hx : 0 ≤ x ∧ x < 16) (ht : 0 ≤ t ∧ t < 16) : ∀ k : Nat, k ≤ 16 → glN f x t k = glN f' x t k := by
  intro k
  induction k with
  | zero => intro _; unfold glN; rw [e x hx.1 hx.2, e t ht.1 ht.2]; exact mxN_cg e 16 (Nat.le_refl _)
  | succ k ih =>
    intro hk
    unfold glN
    rw [ih (by omega), e (k : Int) (by omega) (by omega), e x hx.1 hx.2, e t ht.1 ht.2, sSt_cg e ht x hx.1 hx.2]
set_option maxRecDepth 100000 in
theorem twd_tab : ∀ a g : Fin 16, twd (a.val : Int) (g.val : Int) = (a.val : Int) ∨ apt (a.val : Int) (twd (a.val : Int) (g.val : Int)) = 1 := by decide +kernel
/-- where no place is too light there is a way -/
theorem sSt_all {f : Int → Int} {t v : Int} (hf : ∀ j : Int, 0 ≤ j → j < 16 → f j ≤ v) (ht : 0 ≤ t ∧ t < 16) (x : Int) (hx : 0 ≤ x ∧ x < 16) : 0 ≤ sSt f t v x := by
  have hC := sSt_C f t v
  generalize sSt f t v = G at hC ⊢
  obtain ⟨h1, h2, h3, h4⟩ := hC
  have k : ∀ n : Nat, 0 ≤ G (cSt t x (n : Int)) := by
    intro n
    induction n with
    | zero =>
      have e0 : cSt t x ((0 : Nat) : Int) = t := cSt_0 (a := t) (g := x) (by omega) (by omega)
      have e1 := h2 (hf t ht.1 ht.2)
      rw [e0, e1]
      exact Int.le_refl 0
    | succ n ih =>
      have r := cSt_r (a := t) (g := x) (n := (n : Int)) (by omega) (by omega) (by omega)
      have e : cSt t x ((n + 1 : Nat) : Int) = twd (cSt t x (n : Int)) x := cSt_s (a := t) (g := x) (n := (n : Int)) (by omega) (by omega) (by omega)
      rw [e]
      generalize cSt t x (n : Int) = C at r ih ⊢
      have w := twd_r (x := C) (y := x) (by omega) (by omega)
      have tt := twd_tab ⟨C.toNat, by omega⟩ ⟨x.toNat, by omega⟩
      rw [show ((⟨C.toNat, by omega⟩ : Fin 16).val : Int) = C by show ((C.toNat : Nat) : Int) = _; omega, show ((⟨x.toNat, by omega⟩ : Fin 16).val : Int) = x by show ((x.toNat : Nat) : Int) = x; omega] at tt
      rcases tt with q | q
      · rw [q]; exact ih
      · exact (h4 _ _ r.1 (by omega) w.1 (by omega) ih q (hf _ w.1 (by omega))).1
  have e6 : cSt t x ((6 : Nat) : Int) = x := cSt_far (a := t) (g := x) (n := 6) (by omega) (by omega) (by omega)
  have := k 6
  rw [e6] at this
  exact this
theorem mxN_v {f : Int → Int} {c : Int} : ∀ k : Nat, c ≤ mxN f c k ∧ (∀ j : Int, 0 ≤ j → j < k → f j ≤ mxN f c k) ∧ (mxN f c k = c ∨ ∃ j : Int, 0 ≤ j ∧ j < k ∧ mxN f c k = f j) := by
  intro k
  induction k with
  | zero => exact ⟨Int.le_refl _, fun j j0 j1 => by omega, Or.inl rfl⟩
  | succ k ih =>
    obtain ⟨i1, i2, i3⟩ := ih
    have z := jmax_z (mxN f c k) (f (k : Int))
    have e : mxN f c (k + 1) = jmax (mxN f c k) (f (k : Int)) := rfl
    rw [e]
    refine ⟨by omega, fun j j0 j1 => ?_, ?_⟩
    · by_cases q : j = (k : Int)
      · subst q; omega
      · have := i2 j j0 (by omega); omega
    · by_cases q : mxN f c k < f (k : Int)
      · exact Or.inr ⟨(k : Int), by omega, by omega, (z.1 q).symm⟩
      · rw [← z.2 (by omega)]
        rcases i3 with q2 | ⟨j, j0, j1, j2⟩
        · exact Or.inl q2
        · exact Or.inr ⟨j, j0, by omega, j2⟩
theorem st_ends {f : Int → Int} {t v x : Int} (hx : 0 ≤ x ∧ x < 16) (h : 0 ≤ sSt f t v x) : f x ≤ v ∧ f t ≤ v := by
  obtain ⟨h1, h2, h3, h4⟩ := sSt_C f t v
  obtain ⟨z, z0, z1, z2⟩ := pd_all h3 (sSt f t v x).toNat x hx.1 hx.2 (by omega) 0 (Nat.zero_le _)
  have a := h1 z z0 z1
  have e := a.2.2 z2
  have z2 : sSt f t v z = 0 := z2
  exact ⟨(h1 x hx.1 hx.2).2.1 h, by rw [← e]; exact a.2.1 (by omega)⟩
theorem glN_v {f : Int → Int} {x t : Int} (hx : 0 ≤ x ∧ x < 16) (ht : 0 ≤ t ∧ t < 16) : ∀ k : Nat, k ≤ 16 → 0 ≤ sSt f t (glN f x t k) x ∧ (∃ j : Int, 0 ≤ j ∧ j < 16 ∧ glN f x t k = f j) ∧ ∀ j : Int, 0 ≤ j → j < k → 0 ≤ sSt f t (f j) x → glN f x t k ≤ f j := by
  intro k
  induction k with
  | zero =>
    intro _
    obtain ⟨m1, m2, m3⟩ := mxN_v (f := f) (c := jmax (f x) (f t)) 16
    refine ⟨sSt_all (fun j j0 j1 => m2 j j0 j1) ht x hx, ?_, fun j j0 j1 => by omega⟩
    rcases m3 with q | ⟨j, j0, j1, j2⟩
    · have z := jmax_z (f x) (f t)
      by_cases c : f x < f t
      · exact ⟨t, ht.1, ht.2, by show mxN _ _ _ = _; rw [q]; exact (z.1 c).symm⟩
      · exact ⟨x, hx.1, hx.2, by show mxN _ _ _ = _; rw [q]; exact (z.2 (by omega)).symm⟩
    · exact ⟨j, j0, j1, j2⟩
  | succ k ih =>
    intro hk
    obtain ⟨i1, i2, i3⟩ := ih (by omega)
    by_cases c : (jmax (f x) (f t) ≤ f (k : Int) ∧ f (k : Int) < glN f x t k) ∧ 0 ≤ sSt f t (f (k : Int)) x
    · have e : glN f x t (k + 1) = f (k : Int) := if_pos c
      rw [e]
      refine ⟨c.2, ⟨(k : Int), by omega, by omega, rfl⟩, fun j j0 j1 hj => ?_⟩
      by_cases q : j = (k : Int)
      · subst q; exact Int.le_refl _
      · have := i3 j j0 (by omega) hj; omega
    · have e : glN f x t (k + 1) = glN f x t k := if_neg c
      rw [e]
      refine ⟨i1, i2, fun j j0 j1 hj => ?_⟩
      by_cases q : j = (k : Int)
      · subst q
        have ends := st_ends hx hj
        have z := jmax_z (f x) (f t)
        by_cases l : f (k : Int) < glN f x t k
        · exact absurd ⟨⟨by omega, l⟩, hj⟩ c
        · omega
      · exact i3 j j0 (by omega) hj
theorem blN_v {f : Int → Int} {x t : Int} (h : ∀ j : Int, 0 ≤ j → j < 16 → 0 ≤ f j) : ∀ k : Nat, k ≤ 16 → (blN f x t k = -1 ∧ ∀ j : Int, 0 ≤ j → j < k → ¬ 0 ≤ sSt f t (f j) x) ∨ ((∃ j : Int, 0 ≤ j ∧ j < k ∧ blN f x t k = f j ∧ 0 ≤ sSt f t (f j) x) ∧ ∀ j : Int, 0 ≤ j → j < k → 0 ≤ sSt f t (f j) x → blN f x t k ≤ f j) := by
  intro k
  induction k with
  | zero => intro _; exact Or.inl ⟨rfl, fun j j0 j1 => by omega⟩
  | succ k ih =>
    intro hk
    have i := ih (by omega)
    by_cases c : 0 ≤ sSt f t (f (k : Int)) x ∧ (blN f x t k < 0 ∨ f (k : Int) < blN f x t k)
    · have e : blN f x t (k + 1) = f (k : Int) := if_pos c
      rw [e]
      refine Or.inr ⟨⟨(k : Int), by omega, by omega, rfl, c.1⟩, fun j j0 j1 hj => ?_⟩
      by_cases q : j = (k : Int)
      · subst q; exact Int.le_refl _
      · rcases i with ⟨a, b⟩ | ⟨⟨j', a, b, d, d'⟩, g⟩
        · exact absurd hj (b j j0 (by omega))
        · have := g j j0 (by omega) hj
          have := h j' a (by omega)
          omega
    · have e : blN f x t (k + 1) = blN f x t k := if_neg c
      rw [e]
      rcases i with ⟨a, b⟩ | ⟨⟨j', a, b, d, d'⟩, g⟩
      · refine Or.inl ⟨a, fun j j0 j1 hj => ?_⟩
        by_cases q : j = (k : Int)
        · subst q; exact c ⟨hj, Or.inl (by omega)⟩
        · exact b j j0 (by omega) hj
      · refine Or.inr ⟨⟨j', a, by omega, d, d'⟩, fun j j0 j1 hj => ?_⟩
        by_cases q : j = (k : Int)
        · subst q
          by_cases l : f (k : Int) < blN f x t k
          · exact absurd ⟨hj, Or.inr l⟩ c
          · omega
        · exact g j j0 (by omega) hj
/-- the darkest way, on both sides -/
theorem gl_eq {f : Int → Int} {x t : Int} (hx : 0 ≤ x ∧ x < 16) (ht : 0 ≤ t ∧ t < 16) (h : ∀ j : Int, 0 ≤ j → j < 16 → 0 ≤ f j) : glN f x t 16 = blN f x t 16 := by
  obtain ⟨g1, ⟨j, j0, j1, j2⟩, g3⟩ := glN_v (f := f) hx ht 16 (Nat.le_refl _)
  rw [j2] at g1
  rcases blN_v (f := f) (x := x) (t := t) h 16 (Nat.le_refl _) with ⟨a, b⟩ | ⟨⟨j', a, b, d, d'⟩, g⟩
  · exact absurd g1 (b j j0 j1)
  · have x1 := g j j0 j1 g1
    have x2 := g3 j' a b d'
    omega

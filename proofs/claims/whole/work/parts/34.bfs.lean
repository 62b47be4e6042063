/-- more things than places -/
theorem phL : ∀ (n : Nat) (f : Nat → Int), (∀ i : Nat, i ≤ n → 0 ≤ f i ∧ f i < (n : Int)) → ∃ i j : Nat, i < j ∧ j ≤ n ∧ f i = f j := by
  intro n
  induction n with
  | zero => intro f h; have := h 0 (Nat.le_refl 0); omega
  | succ n ih =>
    intro f h
    by_cases q : ∃ i : Nat, i ≤ n ∧ f i = f (n + 1)
    · obtain ⟨i, i1, i2⟩ := q
      exact ⟨i, n + 1, by omega, Nat.le_refl _, i2⟩
    · have q' : ∀ i : Nat, i ≤ n → f i ≠ f (n + 1) := fun i hi e => q ⟨i, hi, e⟩
      have hc := h (n + 1) (Nat.le_refl _)
      obtain ⟨i, j, i1, j1, e⟩ := ih (fun i => if f i = (n : Int) then f (n + 1) else f i) (by
        intro i hi
        have a := h i (by omega)
        have b := q' i hi
        try dsimp only
        split <;> omega)
      try dsimp only at e
      have a := q' i (by omega)
      have b := q' j j1
      refine ⟨i, j, i1, by omega, ?_⟩
      split at e <;> split at e <;> omega
/-- steps to t over places no lighter than v, by their marks -/
def Ch (lt : Int → Int) (t v : Int) (g : Int → Int) : Prop := (∀ j : Int, 0 ≤ j → j < 16 → -1 ≤ g j ∧ (0 ≤ g j → lt j ≤ v) ∧ (g j = 0 → j = t)) ∧ (lt t ≤ v → g t = 0) ∧ pdS g ∧ ∀ z j : Int, 0 ≤ z → z < 16 → 0 ≤ j → j < 16 → 0 ≤ g z → apt z j = 1 → lt j ≤ v → 0 ≤ g j ∧ g j ≤ g z + 1
theorem Ch_le {lt : Int → Int} {t v : Int} {g g' : Int → Int} (h : Ch lt t v g) (h' : Ch lt t v g') : ∀ (n : Nat) (j : Int), 0 ≤ j → j < 16 → g j = (n : Int) → 0 ≤ g' j ∧ g' j ≤ (n : Int) := by
  obtain ⟨ha, hd, he, hf⟩ := h
  obtain ⟨ha', hd', he', hf'⟩ := h'
  intro n
  induction n with
  | zero =>
    intro j h0 h1 e
    have a := ha j h0 h1
    have e1 := a.2.2 e
    subst e1
    have := hd' (a.2.1 (by omega))
    omega
  | succ n ih =>
    intro j h0 h1 e
    obtain ⟨z, z0, z1, z2, z3⟩ := he j h0 h1 (by omega)
    obtain ⟨i1, i2⟩ := ih z z0 z1 (by omega)
    have := hf' z j z0 z1 h0 h1 i1 (by rw [apt_c]; exact z2) ((ha j h0 h1).2.1 (by omega))
    omega
theorem Ch_eq {lt : Int → Int} {t v : Int} {g g' : Int → Int} (h : Ch lt t v g) (h' : Ch lt t v g') (j : Int) (h0 : 0 ≤ j) (h1 : j < 16) : g j = g' j := by
  have a := (h.1 j h0 h1).1
  have a' := (h'.1 j h0 h1).1
  by_cases c : 0 ≤ g j
  · have i := Ch_le h h' (g j).toNat j h0 h1 (by omega)
    have i' := Ch_le h' h (g' j).toNat j h0 h1 (by omega)
    omega
  · by_cases c' : 0 ≤ g' j
    · have i' := Ch_le h' h (g' j).toNat j h0 h1 (by omega)
      omega
    · omega
abbrev QT := (Int → Int) × (Int → Int) × Int
/-- the steps as they are spread by a queue: steps, queue, how many are queued -/
def qI (lt : Int → Int) (v e : Int) (x : QT) : Nat → QT
  | 0 => x
  | k + 1 => if (apt e (k : Int) = 1 ∧ lt (k : Int) ≤ v) ∧ (qI lt v e x k).1 (k : Int) < 0 ∧ (qI lt v e x k).2.2 < 16 then (uI (qI lt v e x k).1 (k : Int) ((qI lt v e x k).1 e + 1), uI (qI lt v e x k).2.1 (qI lt v e x k).2.2 (k : Int), (qI lt v e x k).2.2 + 1) else qI lt v e x k
def qO (lt : Int → Int) (v : Int) (x : QT) : Nat → QT
  | 0 => x
  | h + 1 => if (h : Int) < (qO lt v x h).2.2 then qI lt v ((qO lt v x h).2.1 (h : Int)) (qO lt v x h) 16 else qO lt v x h
def q0 (q : Int → Int) (t : Int) : QT := (uI (fun _ => -1) t 0, uI q 0 t, 1)
def QV (lt : Int → Int) (t v : Int) (s q : Int → Int) (n h k : Int) : Prop :=
  (1 ≤ n ∧ n ≤ 16) ∧ (∀ i : Int, 0 ≤ i → i < n → (0 ≤ q i ∧ q i < 16) ∧ 0 ≤ s (q i)) ∧
  (∀ i j : Int, 0 ≤ i → i < j → j < n → q i ≠ q j ∧ s (q i) ≤ s (q j)) ∧
  (∀ j : Int, 0 ≤ j → j < 16 → -1 ≤ s j ∧ s j < n ∧ (0 ≤ s j → lt j ≤ v ∧ ∃ i : Int, 0 ≤ i ∧ i < n ∧ q i = j) ∧ (s j = 0 → j = t)) ∧
  s t = 0 ∧ pdS s ∧ (∀ i : Int, 0 ≤ i → i < n → h < n → s (q i) ≤ s (q h) + 1) ∧
  (∀ i j : Int, 0 ≤ i → i < n → (i < h ∨ (i = h ∧ j < k)) → 0 ≤ j → j < 16 → apt (q i) j = 1 → lt j ≤ v → 0 ≤ s j ∧ s j ≤ s (q i) + 1)
theorem QV_add {lt : Int → Int} {t v : Int} {s q : Int → Int} {n h k : Int} (hk : 0 ≤ k ∧ k < 16) (hh : 0 ≤ h ∧ h < n) (hV : QV lt t v s q n h k) (hc : (apt (q h) k = 1 ∧ lt k ≤ v) ∧ s k < 0 ∧ n < 16) : QV lt t v (uI s k (s (q h) + 1)) (uI q n k) (n + 1) h (k + 1) := by
  obtain ⟨h1, h2, h3, h4, h5, h6, h7, h8⟩ := hV
  have eh := h2 h hh.1 hh.2
  have qi : ∀ i : Int, i < n → uI q n k i = q i := fun i hi => uI_n _ _ (by omega)
  have qk : ∀ i : Int, 0 ≤ i → i < n → q i ≠ k := fun i i0 i1 e => by have := (h2 i i0 i1).2; rw [e] at this; omega
  have sn : ∀ j : Int, j ≠ k → uI s k (s (q h) + 1) j = s j := fun j hj => uI_n _ _ hj
  have sk : uI s k (s (q h) + 1) k = s (q h) + 1 := uI_s _ _ _
  have qn : uI q n k n = k := uI_s _ _ _
  have eb := h4 (q h) eh.1.1 eh.1.2
  have kb := h4 k hk.1 hk.2
  refine ⟨by omega, fun i i0 i1 => ?_, fun i j i0 ij jn => ?_, fun j j0 j1 => ?_, ?_, fun j j0 j1 jp => ?_, fun i i0 i1 _ => ?_, fun i j i0 i1 hij j0 j1 ja jl => ?_⟩
  · by_cases c : i = n
    · subst c
      rw [qn, sk]
      omega
    · rw [qi i (by omega), sn _ (qk i i0 (by omega))]
      exact h2 i i0 (by omega)
  · rw [qi i (by omega), sn _ (qk i i0 (by omega))]
    by_cases c : j = n
    · subst c
      rw [qn, sk]
      exact ⟨qk i i0 (by omega), h7 i i0 (by omega) hh.2⟩
    · rw [qi j (by omega), sn _ (qk j (by omega) (by omega))]
      exact h3 i j i0 ij (by omega)
  · by_cases c : j = k
    · subst c
      rw [sk]
      exact ⟨by omega, by omega, fun _ => ⟨hc.1.2, n, by omega, by omega, qn⟩, fun z => by omega⟩
    · rw [sn j c]
      obtain ⟨a1, a2, a3, a4⟩ := h4 j j0 j1
      refine ⟨a1, by omega, fun z => ?_, a4⟩
      obtain ⟨b1, i, i0, i1, i2⟩ := a3 z
      exact ⟨b1, i, i0, by omega, by rw [qi i i1]; exact i2⟩
  · rw [sn t (fun e => by rw [e] at h5; omega)]
    exact h5
  · by_cases c : j = k
    · subst c
      refine ⟨q h, eh.1.1, eh.1.2, by rw [apt_c]; exact hc.1.1, ?_⟩
      rw [sk, sn _ (qk h hh.1 hh.2)]
      omega
    · rw [sn j c] at jp
      obtain ⟨z, z0, z1, z2, z3⟩ := h6 j j0 j1 jp
      refine ⟨z, z0, z1, z2, ?_⟩
      rw [sn j c, sn z (fun e => by rw [e] at z3; omega)]
      exact z3
  · rw [qi h hh.2, sn _ (qk h hh.1 hh.2)]
    by_cases c : i = n
    · subst c
      rw [qn, sk]
      omega
    · rw [qi i (by omega), sn _ (qk i i0 (by omega))]
      exact h7 i i0 (by omega) hh.2
  · have hi : i < n := by omega
    rw [qi i hi] at ja
    rw [qi i hi, sn _ (qk i i0 hi)]
    by_cases c : j = k
    · subst c
      rw [sk]
      by_cases ci : i = h
      · subst ci
        omega
      · have := h8 i j i0 hi (Or.inl (by omega)) j0 j1 ja jl
        omega
    · rw [sn j c]
      exact h8 i j i0 hi (by omega) j0 j1 ja jl
theorem QV_not {lt : Int → Int} {t v : Int} {s q : Int → Int} {n h k : Int} (hk : 0 ≤ k ∧ k < 16) (hh : 0 ≤ h ∧ h < n) (hV : QV lt t v s q n h k) (hc : ¬ ((apt (q h) k = 1 ∧ lt k ≤ v) ∧ s k < 0 ∧ n < 16)) : QV lt t v s q n h (k + 1) := by
  obtain ⟨h1, h2, h3, h4, h5, h6, h7, h8⟩ := hV
  refine ⟨h1, h2, h3, h4, h5, h6, h7, fun i j i0 i1 hij j0 j1 ja jl => ?_⟩
  by_cases c : i < h ∨ (i = h ∧ j < k)
  · exact h8 i j i0 i1 c j0 j1 ja jl
  · have e1 : i = h := by omega
    have e2 : j = k := by omega
    subst e1 e2
    have hp : 0 ≤ s j := by
      by_cases z : 0 ≤ s j
      · exact z
      · exfalso
        have n16 : n = 16 := by
          by_cases y : n < 16
          · exact absurd ⟨⟨ja, jl⟩, by omega, y⟩ hc
          · omega
        obtain ⟨x, y, xy, y1, e⟩ := phL 16 (fun m => if m = 16 then j else q (m : Int)) (by
          intro m hm
          try dsimp only
          split
          · exact ⟨j0, j1⟩
          · exact (h2 (m : Int) (by omega) (by omega)).1)
        try dsimp only at e
        rw [if_neg (by omega)] at e
        by_cases y2 : y = 16
        · rw [if_pos y2] at e
          have := (h2 (x : Int) (by omega) (by omega)).2
          rw [e] at this
          exact z this
        · rw [if_neg y2] at e
          exact (h3 (x : Int) (y : Int) (by omega) (by omega) (by omega)).1 e
    obtain ⟨-, m, m0, m1, m2⟩ := (h4 j j0 j1).2.2.1 hp
    have := h7 m m0 m1 hh.2
    rw [m2] at this
    exact ⟨hp, this⟩
theorem qI_V {lt : Int → Int} {t v : Int} {x : QT} {h : Nat} (hh : (h : Int) < x.2.2) (hV : QV lt t v x.1 x.2.1 x.2.2 (h : Int) 0) : ∀ k : Nat, k ≤ 16 → QV lt t v (qI lt v (x.2.1 (h : Int)) x k).1 (qI lt v (x.2.1 (h : Int)) x k).2.1 (qI lt v (x.2.1 (h : Int)) x k).2.2 (h : Int) (k : Int) ∧ x.2.2 ≤ (qI lt v (x.2.1 (h : Int)) x k).2.2 ∧ (qI lt v (x.2.1 (h : Int)) x k).2.1 (h : Int) = x.2.1 (h : Int) := by
  intro k
  induction k with
  | zero => intro _; exact ⟨hV, Int.le_refl _, rfl⟩
  | succ k ih =>
    intro hk
    obtain ⟨i1, i2, i3⟩ := ih (by omega)
    unfold qI
    split
    · rename_i c
      refine ⟨?_, ?_, ?_⟩
      · have := QV_add (k := (k : Int)) (by omega) (by omega) i1 (by rw [i3]; exact c)
        rw [i3] at this
        exact this
      · show _ ≤ _ + 1
        omega
      · show uI _ _ _ _ = _
        rw [uI_n _ _ (by omega)]
        exact i3
    · rename_i c
      refine ⟨?_, i2, i3⟩
      have := QV_not (k := (k : Int)) (by omega) (by omega) i1 (by rw [i3]; exact c)
      exact this
theorem q0_V {lt : Int → Int} {t v : Int} (q : Int → Int) (ht : 0 ≤ t ∧ t < 16) (hl : lt t ≤ v) : QV lt t v (q0 q t).1 (q0 q t).2.1 (q0 q t).2.2 0 0 := by
  have st : uI (fun _ => -1) t 0 t = 0 := uI_s _ _ _
  have sn : ∀ j : Int, j ≠ t → uI (fun _ => -1) t 0 j = -1 := fun j hj => uI_n _ _ hj
  have q1 : uI q 0 t 0 = t := uI_s _ _ _
  show QV lt t v (uI (fun _ => -1) t 0) (uI q 0 t) 1 0 0
  refine ⟨by omega, fun i i0 i1 => ?_, fun i j i0 ij jn => by omega, fun j j0 j1 => ?_, st, fun j j0 j1 jp => ?_, fun i i0 i1 _ => ?_, fun i j i0 i1 hij => by omega⟩
  · rw [show i = 0 by omega, q1, st]
    omega
  · by_cases c : j = t
    · subst c
      rw [st]
      exact ⟨by omega, by omega, fun _ => ⟨hl, 0, by omega, by omega, q1⟩, fun _ => rfl⟩
    · rw [sn j c]
      exact ⟨by omega, by omega, fun z => by omega, fun z => by omega⟩
  · by_cases c : j = t
    · subst c
      rw [st] at jp
      omega
    · rw [sn j c] at jp
      omega
  · rw [show i = 0 by omega, q1, st]
    omega
theorem qO_V {lt : Int → Int} {t v : Int} (q : Int → Int) (ht : 0 ≤ t ∧ t < 16) (hl : lt t ≤ v) : ∀ h : Nat, QV lt t v (qO lt v (q0 q t) h).1 (qO lt v (q0 q t) h).2.1 (qO lt v (q0 q t) h).2.2 (h : Int) 0 := by
  intro h
  induction h with
  | zero => exact q0_V q ht hl
  | succ h ih =>
    unfold qO
    split
    · rename_i c
      obtain ⟨⟨h1, h2, h3, h4, h5, h6, h7, h8⟩, e2, e3⟩ := qI_V c ih 16 (Nat.le_refl _)
      refine ⟨h1, h2, h3, h4, h5, h6, fun i i0 i1 hn => ?_, fun i j i0 i1 hij j0 j1 ja jl => ?_⟩
      · have a := h7 i i0 i1 (by omega)
        have b := h3 (h : Int) ((h + 1 : Nat) : Int) (by omega) (by omega) hn
        omega
      · exact h8 i j i0 i1 (by omega) j0 j1 ja jl
    · rename_i c
      obtain ⟨h1, h2, h3, h4, h5, h6, h7, h8⟩ := ih
      exact ⟨h1, h2, h3, h4, h5, h6, fun i i0 i1 hn => by omega, fun i j i0 i1 hij j0 j1 ja jl => h8 i j i0 i1 (by omega) j0 j1 ja jl⟩
/-- what stands at the end of the queue -/
theorem qO_C {lt : Int → Int} {t v : Int} (q : Int → Int) (ht : 0 ≤ t ∧ t < 16) (hl : lt t ≤ v) : Ch lt t v (qO lt v (q0 q t) 16).1 := by
  obtain ⟨h1, h2, h3, h4, h5, h6, h7, h8⟩ := qO_V q ht hl 16
  refine ⟨fun j j0 j1 => ?_, fun _ => h5, h6, fun z j z0 z1 j0 j1 hz ha hl2 => ?_⟩
  · obtain ⟨a1, a2, a3, a4⟩ := h4 j j0 j1
    exact ⟨a1, fun y => (a3 y).1, a4⟩
  · obtain ⟨-, i, i0, i1, i2⟩ := (h4 z z0 z1).2.2.1 hz
    subst i2
    exact h8 i j i0 i1 (Or.inl (by omega)) j0 j1 ha hl2
theorem no_C {lt : Int → Int} {t v : Int} (hl : ¬ lt t ≤ v) : Ch lt t v (fun _ => -1) := by
  refine ⟨fun j _ _ => ⟨Int.le_refl _, fun z => ?_, fun z => ?_⟩, fun z => absurd z hl, fun j _ _ jp => ?_, fun z j _ _ _ _ hz => ?_⟩
  · have z : (0 : Int) ≤ -1 := z
    omega
  · have z : (-1 : Int) = 0 := z
    omega
  · have jp : (0 : Int) < -1 := jp
    omega
  · have hz : (0 : Int) ≤ -1 := hz
    omega
/-- the reference's rounds -/
def RV (lt : Int → Int) (t v : Int) (g : Int → Int) (n p q : Int) : Prop :=
  (∀ j : Int, 0 ≤ j → j < 16 → (-1 ≤ g j ∧ g j ≤ n + 1) ∧ (0 ≤ g j → lt j ≤ v) ∧ (g j = 0 → j = t)) ∧ (lt t ≤ v → g t = 0) ∧
  ∀ z j : Int, 0 ≤ z → z < 16 → 0 ≤ j → j < 16 → 0 ≤ g z → (g z < n ∨ (g z = n ∧ (z < p ∨ (z = p ∧ j < q)))) → apt z j = 1 → lt j ≤ v → 0 ≤ g j ∧ g j ≤ g z + 1
theorem RV_s {lt : Int → Int} {t v : Int} {g : Int → Int} {n p q : Int} (hn : 0 ≤ n) (hp : 0 ≤ p ∧ p < 16) (hq : 0 ≤ q ∧ q < 16) (hV : RV lt t v g n p q) : RV lt t v (uI g q (if g p = n ∧ apt p q = 1 ∧ g q < 0 ∧ lt q ≤ v then n + 1 else g q)) n p (q + 1) := by
  obtain ⟨h1, h2, h3⟩ := hV
  by_cases c : g p = n ∧ apt p q = 1 ∧ g q < 0 ∧ lt q ≤ v
  · rw [if_pos c]
    have sn : ∀ j : Int, j ≠ q → uI g q (n + 1) j = g j := fun j hj => uI_n _ _ hj
    have sk : uI g q (n + 1) q = n + 1 := uI_s _ _ _
    refine ⟨fun j j0 j1 => ?_, fun hl => ?_, fun z j z0 z1 j0 j1 hz hd ha hl => ?_⟩
    · by_cases e : j = q
      · subst e
        rw [sk]
        exact ⟨by omega, fun _ => c.2.2.2, fun y => by omega⟩
      · rw [sn j e]
        exact h1 j j0 j1
    · have := h2 hl
      rw [sn t (fun e => by rw [e] at this; omega)]
      exact this
    · have zq : z ≠ q := fun e => by
        subst e
        rw [sk] at hd
        omega
      rw [sn z zq] at hz hd
      rw [sn z zq]
      by_cases e : j = q
      · subst e
        rw [sk]
        by_cases y : g z < n
        · have := h3 z j z0 z1 j0 j1 hz (Or.inl y) ha hl
          omega
        · omega
      · rw [sn j e]
        exact h3 z j z0 z1 j0 j1 hz (by omega) ha hl
  · rw [if_neg c]
    have same : ∀ y : Int, uI g q (g q) y = g y := by
      intro y
      unfold uI
      split
      · rename_i e2; rw [e2]
      · rfl
    refine ⟨fun j j0 j1 => ?_, fun hl => ?_, fun z j z0 z1 j0 j1 hz hd ha hl => ?_⟩
    · rw [same]
      exact h1 j j0 j1
    · rw [same]
      exact h2 hl
    · rw [same] at hz hd
      rw [same, same]
      by_cases y : g z < n ∨ (g z = n ∧ (z < p ∨ (z = p ∧ j < q)))
      · exact h3 z j z0 z1 j0 j1 hz y ha hl
      · have e1 : z = p := by omega
        have e2 : j = q := by omega
        subst e1 e2
        have b := (h1 j j0 j1).1
        by_cases w : g j < 0
        · exact absurd ⟨by omega, ha, w, hl⟩ c
        · omega
theorem RV_Q {lt : Int → Int} {t v : Int} {g : Int → Int} {n p : Nat} (hp : p < 16) (hV : RV lt t v g (n : Int) (p : Int) 0) : ∀ q : Nat, q ≤ 16 → RV lt t v (stQ lt v g (n : Int) (p : Int) q) (n : Int) (p : Int) (q : Int) := by
  intro q
  induction q with
  | zero => intro _; exact hV
  | succ q ih => intro hq; exact RV_s (by omega) (by omega) (by omega) (ih (by omega))
theorem RV_P {lt : Int → Int} {t v : Int} {g : Int → Int} {n : Nat} (hV : RV lt t v g (n : Int) 0 0) : ∀ p : Nat, p ≤ 16 → RV lt t v (stP lt v g (n : Int) p) (n : Int) (p : Int) 0 := by
  intro p
  induction p with
  | zero => intro _; exact hV
  | succ p ih =>
    intro hp
    obtain ⟨h1, h2, h3⟩ := RV_Q (by omega) (ih (by omega)) 16 (Nat.le_refl _)
    refine ⟨h1, h2, fun z j z0 z1 j0 j1 hz hd ha hl => h3 z j z0 z1 j0 j1 hz ?_ ha hl⟩
    have hd : stQ lt v (stP lt v g (n : Int) p) (n : Int) (p : Int) 16 z < (n : Int) ∨ (stQ lt v (stP lt v g (n : Int) p) (n : Int) (p : Int) 16 z = (n : Int) ∧ (z < ((p + 1 : Nat) : Int) ∨ (z = ((p + 1 : Nat) : Int) ∧ j < 0))) := hd
    omega
theorem RV_O (lt : Int → Int) (t v : Int) : ∀ n : Nat, RV lt t v (stO lt v (st0 lt t v) n) (n : Int) 0 0 := by
  intro n
  induction n with
  | zero =>
    have s0 : ∀ j : Int, st0 lt t v j = 0 ∧ j = t ∧ lt j ≤ v ∨ st0 lt t v j = -1 ∧ ¬ (j = t ∧ lt j ≤ v) := by
      intro j
      unfold st0
      by_cases c : j = t ∧ lt j ≤ v
      · rw [if_pos c]; exact Or.inl ⟨rfl, c⟩
      · rw [if_neg c]; exact Or.inr ⟨rfl, c⟩
    refine ⟨fun j j0 j1 => ?_, fun hl => ?_, fun z j z0 z1 j0 j1 hz hd ha hl => ?_⟩
    · show ((-1 ≤ st0 lt t v j ∧ st0 lt t v j ≤ _) ∧ (0 ≤ st0 lt t v j → _) ∧ (st0 lt t v j = 0 → _))
      have := s0 j
      refine ⟨by omega, fun y => by omega, fun y => by omega⟩
    · show st0 lt t v t = 0
      have := s0 t
      omega
    · have hz : 0 ≤ st0 lt t v z := hz
      have hd : st0 lt t v z < ((0 : Nat) : Int) ∨ (st0 lt t v z = ((0 : Nat) : Int) ∧ (z < 0 ∨ (z = 0 ∧ j < 0))) := hd
      omega
  | succ n ih =>
    obtain ⟨h1, h2, h3⟩ := RV_P ih 16 (Nat.le_refl _)
    refine ⟨fun j j0 j1 => ?_, h2, fun z j z0 z1 j0 j1 hz hd ha hl => ?_⟩
    · have a := h1 j j0 j1
      show ((-1 ≤ stP _ _ _ _ _ j ∧ stP _ _ _ _ _ j ≤ _) ∧ _)
      exact ⟨by omega, a.2⟩
    · have hz : 0 ≤ stP lt v (stO lt v (st0 lt t v) n) (n : Int) 16 z := hz
      have hd : stP lt v (stO lt v (st0 lt t v) n) (n : Int) 16 z < ((n + 1 : Nat) : Int) ∨ (stP lt v (stO lt v (st0 lt t v) n) (n : Int) 16 z = ((n + 1 : Nat) : Int) ∧ (z < 0 ∨ (z = 0 ∧ j < 0))) := hd
      exact h3 z j z0 z1 j0 j1 hz (by omega) ha hl
theorem pd_all {g : Int → Int} (h : pdS g) : ∀ (d : Nat) (j : Int), 0 ≤ j → j < 16 → g j = (d : Int) → ∀ m : Nat, m ≤ d → ∃ z : Int, 0 ≤ z ∧ z < 16 ∧ g z = (m : Int) := by
  intro d
  induction d with
  | zero => intro j j0 j1 e m hm; exact ⟨j, j0, j1, by rw [e]; omega⟩
  | succ d ih =>
    intro j j0 j1 e m hm
    by_cases c : m = d + 1
    · subst c
      exact ⟨j, j0, j1, e⟩
    · obtain ⟨z, z0, z1, z2, z3⟩ := h j j0 j1 (by omega)
      exact ih z z0 z1 (by omega) m (by omega)
theorem sSt_C (lt : Int → Int) (t v : Int) : Ch lt t v (sSt lt t v) := by
  obtain ⟨h1, h2, h3⟩ := RV_O lt t v 16
  have hpd : pdS (sSt lt t v) := fun x h0 h1 h => sSt_p lt t v x h0 h1 h
  refine ⟨fun j j0 j1 => ⟨(h1 j j0 j1).1.1, (h1 j j0 j1).2⟩, h2, hpd, fun z j z0 z1 j0 j1 hz ha hl => ?_⟩
  have hb := (sSt_r lt t v z z0 z1).2
  have h15 : sSt lt t v z < 16 := by
    by_cases c : sSt lt t v z < 16
    · exact c
    · exfalso
      have al := pd_all hpd 16 z z0 z1 (by omega)
      obtain ⟨x, y, xy, y1, e⟩ := phL 16 (fun m => if hm : m ≤ 16 then Classical.choose (al m hm) else 0) (by
        intro m hm
        try dsimp only
        rw [dif_pos hm]
        have k := Classical.choose_spec (al m hm)
        exact ⟨k.1, k.2.1⟩)
      try dsimp only at e
      rw [dif_pos (show x ≤ 16 by omega), dif_pos y1] at e
      have k1 := (Classical.choose_spec (al x (by omega))).2.2
      have k2 := (Classical.choose_spec (al y y1)).2.2
      rw [e, k2] at k1
      omega
  exact h3 z j z0 z1 j0 j1 hz (Or.inl h15) ha hl
/-- both ways of spreading tell the same -/
theorem q_st {lt : Int → Int} {t v : Int} (q : Int → Int) (ht : 0 ≤ t ∧ t < 16) (hl : lt t ≤ v) (j : Int) (h0 : 0 ≤ j) (h1 : j < 16) : (qO lt v (q0 q t) 16).1 j = sSt lt t v j := Ch_eq (qO_C q ht hl) (sSt_C lt t v) j h0 h1
theorem no_st {lt : Int → Int} {t v : Int} (hl : ¬ lt t ≤ v) (j : Int) (h0 : 0 ≤ j) (h1 : j < 16) : (-1 : Int) = sSt lt t v j := Ch_eq (no_C hl) (sSt_C lt t v) j h0 h1
/-- a queue at its end stays -/
theorem qO_end {lt : Int → Int} {v : Int} {x : QT} {h : Nat} (hn : (qO lt v x h).2.2 ≤ (h : Int)) : ∀ m : Nat, qO lt v x (h + m) = qO lt v x h := by
  intro m
  induction m with
  | zero => rfl
  | succ m ih =>
    show (if ((h + m : Nat) : Int) < (qO lt v x (h + m)).2.2 then _ else qO lt v x (h + m)) = _
    rw [ih, if_neg (by omega)]

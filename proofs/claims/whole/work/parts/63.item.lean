/-! items of a night -/
abbrev ET : Type := Int × Int × Int × Int × Int
abbrev IT : Type := Int × Int × ET
noncomputable def tkN (B : Int → Int) (n v z q : Int) : Int × Int := if (v ≤ vl B q ∧ vl B q ≤ z) ∧ cd B n q = 15 then (vl B q, nx B q) else (-1, q)
noncomputable def tkB (B : Int → Int) (n w v z q : Int) : Int × Int := if cd B n q = w then tkN B n v z (nx B q) else (-1, q)
noncomputable def tkP (B : Int → Int) (n w z d q : Int) : Int × Int := if cd B n q = w then tkN B n 0 z (nx B q) else (d, q)
theorem tkN_t {B : Int → Int} {n v z q : Int} (h : v ≤ vl B q ∧ vl B q ≤ z) (h2 : cd B n q = 15) : tkN B n v z q = (vl B q, nx B q) := if_pos ⟨h, h2⟩
theorem tkN_f {B : Int → Int} {n v z q : Int} (h : ¬ ((v ≤ vl B q ∧ vl B q ≤ z) ∧ cd B n q = 15)) : tkN B n v z q = (-1, q) := if_neg h
theorem tkB_t {B : Int → Int} {n w v z q : Int} (h : cd B n q = w) : tkB B n w v z q = tkN B n v z (nx B q) := if_pos h
theorem tkB_f {B : Int → Int} {n w v z q : Int} (h : ¬ cd B n q = w) : tkB B n w v z q = (-1, q) := if_neg h
theorem tkP_t {B : Int → Int} {n w z d q : Int} (h : cd B n q = w) : tkP B n w z d q = tkN B n 0 z (nx B q) := if_pos h
theorem tkP_f {B : Int → Int} {n w z d q : Int} (h : ¬ cd B n q = w) : tkP B n w z d q = (d, q) := if_neg h
theorem tkN_r (B : Int → Int) (n v z q : Int) (hv : 0 ≤ v) : (tkN B n v z q).1 = -1 ∨ (v ≤ (tkN B n v z q).1 ∧ (tkN B n v z q).1 ≤ z) := by
  by_cases h : (v ≤ vl B q ∧ vl B q ≤ z) ∧ cd B n q = 15
  · rw [tkN_t h.1 h.2]; exact Or.inr h.1
  · rw [tkN_f h]; exact Or.inl rfl
theorem tkB_r (B : Int → Int) (n w v z q : Int) (hv : 0 ≤ v) : (tkB B n w v z q).1 = -1 ∨ (v ≤ (tkB B n w v z q).1 ∧ (tkB B n w v z q).1 ≤ z) := by
  by_cases h : cd B n q = w
  · rw [tkB_t h]; exact tkN_r B n v z _ hv
  · rw [tkB_f h]; exact Or.inl rfl
theorem tkP_r (B : Int → Int) (n w z d q : Int) (hd : 0 ≤ d ∧ d ≤ z) : (tkP B n w z d q).1 = -1 ∨ (0 ≤ (tkP B n w z d q).1 ∧ (tkP B n w z d q).1 ≤ z) := by
  by_cases h : cd B n q = w
  · rw [tkP_t h]; exact tkN_r B n 0 z _ (by omega)
  · rw [tkP_f h]; exact Or.inr hd
def fl (q : Int) : IT := (0, q, 0, 0, 0, 0, 0)
noncomputable def itB4 (k : Int) (r1 r2 r3 r4 : Int × Int) : IT := if r4.1 < 0 then fl r4.2 else (1, r4.2, k, r1.1, r2.1, r3.1, r4.1)
noncomputable def itB3 (B : Int → Int) (n k : Int) (r1 r2 r3 : Int × Int) : IT := if r3.1 < 0 then fl r3.2 else itB4 k r1 r2 r3 (tkP B n 9 999 0 r3.2)
noncomputable def itB2 (B : Int → Int) (n k : Int) (r1 r2 : Int × Int) : IT := if r2.1 < 0 then fl r2.2 else itB3 B n k r1 r2 (tkP B n 8 99 20 r2.2)
noncomputable def itB1 (B : Int → Int) (n k : Int) (r1 : Int × Int) : IT := if r1.1 < 0 then fl r1.2 else itB2 B n k r1 (tkP B n 7 15 r1.1 r1.2)
noncomputable def itO2 (r1 r2 : Int × Int) : IT := if r2.1 < 0 then fl r2.2 else (1, r2.2, 10, r1.1, r2.1, 0, 0)
noncomputable def itO (B : Int → Int) (n : Int) (r1 : Int × Int) : IT := if r1.1 < 0 then fl r1.2 else itO2 r1 (tkN B n 0 99 r1.2)
noncomputable def itA2 (r1 r2 : Int × Int) : IT := if r2.1 < 0 then fl r2.2 else (1, r2.2, 14, r1.1, r2.1, 0, 0)
noncomputable def itA (B : Int → Int) (n : Int) (r1 : Int × Int) : IT := if r1.1 < 0 then fl r1.2 else itA2 r1 (tkN B n 0 99 r1.2)
noncomputable def itT3 (r1 r2 r3 : Int × Int) : IT := if r3.1 < 0 then fl r3.2 else (1, r3.2, 11, r1.1, r2.1, r3.1, 0)
noncomputable def itT2 (B : Int → Int) (n : Int) (r1 r2 : Int × Int) : IT := if r2.1 < 0 then fl r2.2 else itT3 r1 r2 (tkB B n 13 1 99 r2.2)
noncomputable def itT1 (B : Int → Int) (n : Int) (r1 : Int × Int) : IT := if r1.1 < 0 then fl r1.2 else itT2 B n r1 (tkB B n 12 0 99 r1.2)
noncomputable def itm (B : Int → Int) (n nb nt q : Int) : IT :=
  if 0 ≤ cd B n q ∧ cd B n q ≤ 5 then (if 10 ≤ nb then fl q else itB1 B n (cd B n q) (tkB B n 6 0 15 (nx B q)))
  else if cd B n q = 10 then itO B n (tkN B n 0 15 (nx B q))
  else if cd B n q = 11 then (if 8 ≤ nt then fl q else itT1 B n (tkB B n 6 0 15 (nx B q)))
  else if cd B n q = 14 then itA B n (tkN B n 0 (nb - 1) (nx B q))
  else fl q
section
variable {B : Int → Int} {n nb nt q k : Int} {r1 r2 r3 r4 : Int × Int}
theorem itm_bf (h : 0 ≤ cd B n q ∧ cd B n q ≤ 5) (h1 : 10 ≤ nb) : itm B n nb nt q = fl q := by unfold itm; rw [if_pos h, if_pos h1]
theorem itm_b (h : 0 ≤ cd B n q ∧ cd B n q ≤ 5) (h1 : ¬ 10 ≤ nb) : itm B n nb nt q = itB1 B n (cd B n q) (tkB B n 6 0 15 (nx B q)) := by unfold itm; rw [if_pos h, if_neg h1]
theorem itm_o (h : cd B n q = 10) : itm B n nb nt q = itO B n (tkN B n 0 15 (nx B q)) := by unfold itm; rw [if_neg (by omega), if_pos h]
theorem itm_tf (h : cd B n q = 11) (h1 : 8 ≤ nt) : itm B n nb nt q = fl q := by unfold itm; rw [if_neg (by omega), if_neg (by omega), if_pos h, if_pos h1]
theorem itm_t (h : cd B n q = 11) (h1 : ¬ 8 ≤ nt) : itm B n nb nt q = itT1 B n (tkB B n 6 0 15 (nx B q)) := by unfold itm; rw [if_neg (by omega), if_neg (by omega), if_pos h, if_neg h1]
theorem itm_a (h : cd B n q = 14) : itm B n nb nt q = itA B n (tkN B n 0 (nb - 1) (nx B q)) := by unfold itm; rw [if_neg (by omega), if_neg (by omega), if_neg (by omega), if_pos h]
theorem itm_x (h : ¬ (0 ≤ cd B n q ∧ cd B n q ≤ 5)) (h1 : cd B n q ≠ 10 ∧ cd B n q ≠ 11 ∧ cd B n q ≠ 14) : itm B n nb nt q = fl q := by unfold itm; rw [if_neg h, if_neg h1.1, if_neg h1.2.1, if_neg h1.2.2]
theorem itB1_f (h : r1.1 < 0) : itB1 B n k r1 = fl r1.2 := if_pos h
theorem itB1_t (h : 0 ≤ r1.1) : itB1 B n k r1 = itB2 B n k r1 (tkP B n 7 15 r1.1 r1.2) := if_neg (by omega)
theorem itB2_f (h : r2.1 < 0) : itB2 B n k r1 r2 = fl r2.2 := if_pos h
theorem itB2_t (h : 0 ≤ r2.1) : itB2 B n k r1 r2 = itB3 B n k r1 r2 (tkP B n 8 99 20 r2.2) := if_neg (by omega)
theorem itB3_f (h : r3.1 < 0) : itB3 B n k r1 r2 r3 = fl r3.2 := if_pos h
theorem itB3_t (h : 0 ≤ r3.1) : itB3 B n k r1 r2 r3 = itB4 k r1 r2 r3 (tkP B n 9 999 0 r3.2) := if_neg (by omega)
theorem itB4_f (h : r4.1 < 0) : itB4 k r1 r2 r3 r4 = fl r4.2 := if_pos h
theorem itB4_t (h : 0 ≤ r4.1) : itB4 k r1 r2 r3 r4 = (1, r4.2, k, r1.1, r2.1, r3.1, r4.1) := if_neg (by omega)
theorem itO_f (h : r1.1 < 0) : itO B n r1 = fl r1.2 := if_pos h
theorem itO_t (h : 0 ≤ r1.1) : itO B n r1 = itO2 r1 (tkN B n 0 99 r1.2) := if_neg (by omega)
theorem itO2_f (h : r2.1 < 0) : itO2 r1 r2 = fl r2.2 := if_pos h
theorem itO2_t (h : 0 ≤ r2.1) : itO2 r1 r2 = (1, r2.2, 10, r1.1, r2.1, 0, 0) := if_neg (by omega)
theorem itA_f (h : r1.1 < 0) : itA B n r1 = fl r1.2 := if_pos h
theorem itA_t (h : 0 ≤ r1.1) : itA B n r1 = itA2 r1 (tkN B n 0 99 r1.2) := if_neg (by omega)
theorem itA2_f (h : r2.1 < 0) : itA2 r1 r2 = fl r2.2 := if_pos h
theorem itA2_t (h : 0 ≤ r2.1) : itA2 r1 r2 = (1, r2.2, 14, r1.1, r2.1, 0, 0) := if_neg (by omega)
theorem itT1_f (h : r1.1 < 0) : itT1 B n r1 = fl r1.2 := if_pos h
theorem itT1_t (h : 0 ≤ r1.1) : itT1 B n r1 = itT2 B n r1 (tkB B n 12 0 99 r1.2) := if_neg (by omega)
theorem itT2_f (h : r2.1 < 0) : itT2 B n r1 r2 = fl r2.2 := if_pos h
theorem itT2_t (h : 0 ≤ r2.1) : itT2 B n r1 r2 = itT3 r1 r2 (tkB B n 13 1 99 r2.2) := if_neg (by omega)
theorem itT3_f (h : r3.1 < 0) : itT3 r1 r2 r3 = fl r3.2 := if_pos h
theorem itT3_t (h : 0 ≤ r3.1) : itT3 r1 r2 r3 = (1, r3.2, 11, r1.1, r2.1, r3.1, 0) := if_neg (by omega)
end
/-- positions: in the text, not at a blank -/
def Qk (B : Int → Int) (n q : Int) : Prop := (0 ≤ q ∧ q ≤ n) ∧ ¬ B q = 32
theorem Qk.nx {B : Int → Int} {n q : Int} (hB : Bk B n) (h : Qk B n q) (hc : cd B n q ≠ 17) : Qk B n (nx B q) ∧ q < nx B q := by
  have h1 : ¬ n ≤ q := fun e => hc (cd_17.mpr e)
  have h2 := nx_p hB (p := q) (by have := h.1; omega)
  have h3 := h.1
  exact ⟨⟨by omega, h2.2.2⟩, h2.1⟩
theorem tkN_q {B : Int → Int} {n v z q : Int} (hB : Bk B n) (h : Qk B n q) : Qk B n (tkN B n v z q).2 ∧ q ≤ (tkN B n v z q).2 := by
  by_cases c : (v ≤ vl B q ∧ vl B q ≤ z) ∧ cd B n q = 15
  · rw [tkN_t c.1 c.2]
    have i := h.nx hB (by omega)
    exact ⟨i.1, by show q ≤ Jvm.Pilot.@@N@@.nx B q; omega⟩
  · rw [tkN_f c]; exact ⟨h, Int.le_refl q⟩
theorem tkB_q {B : Int → Int} {n w v z q : Int} (hB : Bk B n) (h : Qk B n q) (hw : w ≠ 17) : Qk B n (tkB B n w v z q).2 ∧ q ≤ (tkB B n w v z q).2 := by
  by_cases c : cd B n q = w
  · rw [tkB_t c]
    have i := h.nx hB (by omega)
    have j := tkN_q (v := v) (z := z) hB i.1
    exact ⟨j.1, by omega⟩
  · rw [tkB_f c]; exact ⟨h, Int.le_refl q⟩
theorem tkP_q {B : Int → Int} {n w z d q : Int} (hB : Bk B n) (h : Qk B n q) (hw : w ≠ 17) : Qk B n (tkP B n w z d q).2 ∧ q ≤ (tkP B n w z d q).2 := by
  by_cases c : cd B n q = w
  · rw [tkP_t c]
    have i := h.nx hB (by omega)
    have j := tkN_q (v := 0) (z := z) hB i.1
    exact ⟨j.1, by omega⟩
  · rw [tkP_f c]; exact ⟨h, Int.le_refl q⟩
/-- what an item is like -/
def EtK (nb : Int) (e : ET) : Prop :=
  (e.1 = 10 ∧ (0 ≤ e.2.1 ∧ e.2.1 ≤ 15) ∧ 0 ≤ e.2.2.1 ∧ e.2.2.1 ≤ 99) ∨
  (e.1 = 11 ∧ (0 ≤ e.2.1 ∧ e.2.1 ≤ 15) ∧ (0 ≤ e.2.2.1 ∧ e.2.2.1 ≤ 99) ∧ 1 ≤ e.2.2.2.1 ∧ e.2.2.2.1 ≤ 99) ∨
  (e.1 = 14 ∧ (0 ≤ e.2.1 ∧ e.2.1 < nb) ∧ 0 ≤ e.2.2.1 ∧ e.2.2.1 ≤ 99) ∨
  ((0 ≤ e.1 ∧ e.1 ≤ 5) ∧ (0 ≤ e.2.1 ∧ e.2.1 ≤ 15) ∧ (0 ≤ e.2.2.1 ∧ e.2.2.1 ≤ 15) ∧ (0 ≤ e.2.2.2.1 ∧ e.2.2.2.1 ≤ 99) ∧ 0 ≤ e.2.2.2.2 ∧ e.2.2.2.2 ≤ 999)
theorem fl_1 (q : Int) : (fl q).1 = 0 := rfl
theorem fl_2 (q : Int) : (fl q).2.1 = q := rfl
/-- an item's answer, its end, what it says -/
def ItK (B : Int → Int) (n nb nt q : Int) (r : IT) : Prop := (r.1 = 0 ∨ r.1 = 1) ∧ (Qk B n r.2.1 ∧ q ≤ r.2.1) ∧ (r.1 = 1 → (q < n ∧ q < r.2.1) ∧ EtK nb r.2.2 ∧ ((0 ≤ r.2.2.1 ∧ r.2.2.1 ≤ 5) → nb < 10) ∧ (r.2.2.1 = 11 → nt < 8))
theorem ItK_f {B : Int → Int} {n nb nt q p : Int} (h : Qk B n p ∧ q ≤ p) : ItK B n nb nt q (fl p) := ⟨Or.inl rfl, h, fun e => absurd e (show ¬ (0 : Int) = 1 by decide)⟩
theorem itm_k {B : Int → Int} {n nb nt q : Int} (hB : Bk B n) (h : Qk B n q) (hnb : nb ≤ 10) : ItK B n nb nt q (itm B n nb nt q) := by
  have hq : ∀ c : Int, cd B n q = c → c ≠ 17 → q < n := fun c e z => by
    by_cases d : n ≤ q
    · have := cd_17 (B := B) (n := n) (q := q); have := this.mpr d; omega
    · omega
  by_cases c : 0 ≤ cd B n q ∧ cd B n q ≤ 5
  · by_cases d : 10 ≤ nb
    · rw [itm_bf c d]; exact ItK_f ⟨h, Int.le_refl q⟩
    · rw [itm_b c d]
      have i := h.nx hB (by omega)
      have s1 := tkB_q (w := 6) (v := 0) (z := 15) hB i.1 (by omega)
      have v1 := tkB_r B n 6 0 15 (nx B q) (by omega)
      generalize tkB B n 6 0 15 (nx B q) = r1 at s1 v1 ⊢
      by_cases e1 : r1.1 < 0
      · rw [itB1_f e1]; exact ItK_f ⟨s1.1, by omega⟩
      · rw [itB1_t (by omega)]
        have s2 := tkP_q (w := 7) (z := 15) (d := r1.1) hB s1.1 (by omega)
        have v2 := tkP_r B n 7 15 r1.1 r1.2 (by omega)
        generalize tkP B n 7 15 r1.1 r1.2 = r2 at s2 v2 ⊢
        by_cases e2 : r2.1 < 0
        · rw [itB2_f e2]; exact ItK_f ⟨s2.1, by omega⟩
        · rw [itB2_t (by omega)]
          have s3 := tkP_q (w := 8) (z := 99) (d := 20) hB s2.1 (by omega)
          have v3 := tkP_r B n 8 99 20 r2.2 (by omega)
          generalize tkP B n 8 99 20 r2.2 = r3 at s3 v3 ⊢
          by_cases e3 : r3.1 < 0
          · rw [itB3_f e3]; exact ItK_f ⟨s3.1, by omega⟩
          · rw [itB3_t (by omega)]
            have s4 := tkP_q (w := 9) (z := 999) (d := 0) hB s3.1 (by omega)
            have v4 := tkP_r B n 9 999 0 r3.2 (by omega)
            generalize tkP B n 9 999 0 r3.2 = r4 at s4 v4 ⊢
            by_cases e4 : r4.1 < 0
            · rw [itB4_f e4]; exact ItK_f ⟨s4.1, by omega⟩
            · rw [itB4_t (by omega)]
              refine ⟨Or.inr rfl, ⟨s4.1, by show q ≤ r4.2; omega⟩, fun _ => ⟨⟨hq _ rfl (by omega), by show q < r4.2; omega⟩, Or.inr (Or.inr (Or.inr ⟨c, by show 0 ≤ r1.1 ∧ r1.1 ≤ 15; omega, by show 0 ≤ r2.1 ∧ r2.1 ≤ 15; omega, by show 0 ≤ r3.1 ∧ r3.1 ≤ 99; omega, by show 0 ≤ r4.1 ∧ r4.1 ≤ 999; omega⟩)), fun _ => by omega, fun z => ?_⟩⟩
              have z : cd B n q = 11 := z
              omega
  · by_cases c10 : cd B n q = 10
    · rw [itm_o c10]
      have i := h.nx hB (by omega)
      have s1 := tkN_q (v := 0) (z := 15) hB i.1
      have v1 := tkN_r B n 0 15 (nx B q) (by omega)
      generalize tkN B n 0 15 (nx B q) = r1 at s1 v1 ⊢
      by_cases e1 : r1.1 < 0
      · rw [itO_f e1]; exact ItK_f ⟨s1.1, by omega⟩
      · rw [itO_t (by omega)]
        have s2 := tkN_q (v := 0) (z := 99) hB s1.1
        have v2 := tkN_r B n 0 99 r1.2 (by omega)
        generalize tkN B n 0 99 r1.2 = r2 at s2 v2 ⊢
        by_cases e2 : r2.1 < 0
        · rw [itO2_f e2]; exact ItK_f ⟨s2.1, by omega⟩
        · rw [itO2_t (by omega)]
          exact ⟨Or.inr rfl, ⟨s2.1, by show q ≤ r2.2; omega⟩, fun _ => ⟨⟨hq _ c10 (by omega), by show q < r2.2; omega⟩, Or.inl ⟨rfl, by show 0 ≤ r1.1 ∧ r1.1 ≤ 15; omega, by show 0 ≤ r2.1 ∧ r2.1 ≤ 99; omega⟩, fun z => absurd z.2 (show ¬ (10 : Int) ≤ 5 by decide), fun z => absurd z (show ¬ (10 : Int) = 11 by decide)⟩⟩
    · by_cases c11 : cd B n q = 11
      · by_cases d : 8 ≤ nt
        · rw [itm_tf c11 d]; exact ItK_f ⟨h, Int.le_refl q⟩
        · rw [itm_t c11 d]
          have i := h.nx hB (by omega)
          have s1 := tkB_q (w := 6) (v := 0) (z := 15) hB i.1 (by omega)
          have v1 := tkB_r B n 6 0 15 (nx B q) (by omega)
          generalize tkB B n 6 0 15 (nx B q) = r1 at s1 v1 ⊢
          by_cases e1 : r1.1 < 0
          · rw [itT1_f e1]; exact ItK_f ⟨s1.1, by omega⟩
          · rw [itT1_t (by omega)]
            have s2 := tkB_q (w := 12) (v := 0) (z := 99) hB s1.1 (by omega)
            have v2 := tkB_r B n 12 0 99 r1.2 (by omega)
            generalize tkB B n 12 0 99 r1.2 = r2 at s2 v2 ⊢
            by_cases e2 : r2.1 < 0
            · rw [itT2_f e2]; exact ItK_f ⟨s2.1, by omega⟩
            · rw [itT2_t (by omega)]
              have s3 := tkB_q (w := 13) (v := 1) (z := 99) hB s2.1 (by omega)
              have v3 := tkB_r B n 13 1 99 r2.2 (by omega)
              generalize tkB B n 13 1 99 r2.2 = r3 at s3 v3 ⊢
              by_cases e3 : r3.1 < 0
              · rw [itT3_f e3]; exact ItK_f ⟨s3.1, by omega⟩
              · rw [itT3_t (by omega)]
                exact ⟨Or.inr rfl, ⟨s3.1, by show q ≤ r3.2; omega⟩, fun _ => ⟨⟨hq _ c11 (by omega), by show q < r3.2; omega⟩, Or.inr (Or.inl ⟨rfl, by show 0 ≤ r1.1 ∧ r1.1 ≤ 15; omega, by show 0 ≤ r2.1 ∧ r2.1 ≤ 99; omega, by show 1 ≤ r3.1 ∧ r3.1 ≤ 99; omega⟩), fun z => absurd z.2 (show ¬ (11 : Int) ≤ 5 by decide), fun _ => by omega⟩⟩
      · by_cases c14 : cd B n q = 14
        · rw [itm_a c14]
          have i := h.nx hB (by omega)
          have s1 := tkN_q (v := 0) (z := nb - 1) hB i.1
          have v1 := tkN_r B n 0 (nb - 1) (nx B q) (by omega)
          generalize tkN B n 0 (nb - 1) (nx B q) = r1 at s1 v1 ⊢
          by_cases e1 : r1.1 < 0
          · rw [itA_f e1]; exact ItK_f ⟨s1.1, by omega⟩
          · rw [itA_t (by omega)]
            have s2 := tkN_q (v := 0) (z := 99) hB s1.1
            have v2 := tkN_r B n 0 99 r1.2 (by omega)
            generalize tkN B n 0 99 r1.2 = r2 at s2 v2 ⊢
            by_cases e2 : r2.1 < 0
            · rw [itA2_f e2]; exact ItK_f ⟨s2.1, by omega⟩
            · rw [itA2_t (by omega)]
              exact ⟨Or.inr rfl, ⟨s2.1, by show q ≤ r2.2; omega⟩, fun _ => ⟨⟨hq _ c14 (by omega), by show q < r2.2; omega⟩, Or.inr (Or.inr (Or.inl ⟨rfl, by show 0 ≤ r1.1 ∧ r1.1 < nb; omega, by show 0 ≤ r2.1 ∧ r2.1 ≤ 99; omega⟩)), fun z => absurd z.2 (show ¬ (14 : Int) ≤ 5 by decide), fun z => absurd z (show ¬ (14 : Int) = 11 by decide)⟩⟩
        · rw [itm_x c ⟨c10, c11, c14⟩]; exact ItK_f ⟨h, Int.le_refl q⟩
/-- what an item does to a world -/
def apC (x : WT) (e : ET) : WT :=
  if e.1 = 10 then (x.1, uI x.2.1 e.2.1 e.2.2.1, x.2.2.1, x.2.2.2.1, x.2.2.2.2.1, x.2.2.2.2.2.1, x.2.2.2.2.2.2.1, x.2.2.2.2.2.2.2.1, x.2.2.2.2.2.2.2.2.1, x.2.2.2.2.2.2.2.2.2.1, x.2.2.2.2.2.2.2.2.2.2.1, x.2.2.2.2.2.2.2.2.2.2.2)
  else if e.1 = 11 then (x.1, x.2.1, x.2.2.1, x.2.2.2.1, x.2.2.2.2.1, x.2.2.2.2.2.1, x.2.2.2.2.2.2.1, x.2.2.2.2.2.2.2.1, x.2.2.2.2.2.2.2.2.1 + 1, uI x.2.2.2.2.2.2.2.2.2.1 x.2.2.2.2.2.2.2.2.1 e.2.1, uI x.2.2.2.2.2.2.2.2.2.2.1 x.2.2.2.2.2.2.2.2.1 e.2.2.1, uI x.2.2.2.2.2.2.2.2.2.2.2 x.2.2.2.2.2.2.2.2.1 e.2.2.2.1)
  else if e.1 = 14 then (x.1, x.2.1, x.2.2.1, x.2.2.2.1, x.2.2.2.2.1, x.2.2.2.2.2.1, uI x.2.2.2.2.2.2.1 e.2.1 e.2.2.1, uI x.2.2.2.2.2.2.2.1 e.2.1 0, x.2.2.2.2.2.2.2.2.1, x.2.2.2.2.2.2.2.2.2.1, x.2.2.2.2.2.2.2.2.2.2.1, x.2.2.2.2.2.2.2.2.2.2.2)
  else (x.1, x.2.1, x.2.2.1 + 1, uI x.2.2.2.1 x.2.2.1 e.1, uI x.2.2.2.2.1 x.2.2.1 e.2.1, uI x.2.2.2.2.2.1 x.2.2.1 e.2.2.1, uI x.2.2.2.2.2.2.1 x.2.2.1 e.2.2.2.1, uI x.2.2.2.2.2.2.2.1 x.2.2.1 e.2.2.2.2, x.2.2.2.2.2.2.2.2.1, x.2.2.2.2.2.2.2.2.2.1, x.2.2.2.2.2.2.2.2.2.2.1, x.2.2.2.2.2.2.2.2.2.2.2)
def apR (w : Int → Int) (e : ET) : Int → Int :=
  if e.1 = 10 then uI w (3 + e.2.1) e.2.2.1
  else if e.1 = 11 then addTx w e.2.1 e.2.2.1 e.2.2.2.1
  else if e.1 = 14 then eatW w e.2.1 e.2.2.1
  else addBx w e.1 e.2.1 e.2.2.1 e.2.2.2.1 e.2.2.2.2
theorem apC_b {x : WT} {k a b c d : Int} (hk : 0 ≤ k ∧ k ≤ 5) : apC x (k, a, b, c, d) = (x.1, x.2.1, x.2.2.1 + 1, uI x.2.2.2.1 x.2.2.1 k, uI x.2.2.2.2.1 x.2.2.1 a, uI x.2.2.2.2.2.1 x.2.2.1 b, uI x.2.2.2.2.2.2.1 x.2.2.1 c, uI x.2.2.2.2.2.2.2.1 x.2.2.1 d, x.2.2.2.2.2.2.2.2.1, x.2.2.2.2.2.2.2.2.2.1, x.2.2.2.2.2.2.2.2.2.2.1, x.2.2.2.2.2.2.2.2.2.2.2) := by
  unfold apC
  rw [if_neg (show ¬ k = 10 by omega), if_neg (show ¬ k = 11 by omega), if_neg (show ¬ k = 14 by omega)]
theorem apR_b {w : Int → Int} {k a b c d : Int} (hk : 0 ≤ k ∧ k ≤ 5) : apR w (k, a, b, c, d) = addBx w k a b c d := by
  unfold apR
  rw [if_neg (show ¬ k = 10 by omega), if_neg (show ¬ k = 11 by omega), if_neg (show ¬ k = 14 by omega)]
/-- items one behind another -/
noncomputable def ngG {T : Type} (B : Int → Int) (n : Int) (nb nt : T → Int) (ap : T → ET → T) : Nat → Int → Int → T → Int × Int × T
  | 0, _, q, x => (0, q, x)
  | f + 1, m, q, x =>
    if (itm B n (nb x) (nt x) q).1 = 1 then
      (if cd B n (itm B n (nb x) (nt x) q).2.1 = 17 then (m + 1, (itm B n (nb x) (nt x) q).2.1, ap x (itm B n (nb x) (nt x) q).2.2)
       else if cd B n (itm B n (nb x) (nt x) q).2.1 = 16 then ngG B n nb nt ap f (m + 1) (nx B (itm B n (nb x) (nt x) q).2.1) (ap x (itm B n (nb x) (nt x) q).2.2)
       else (0, (itm B n (nb x) (nt x) q).2.1, x))
    else (0, (itm B n (nb x) (nt x) q).2.1, x)
section
variable {T : Type} {B : Int → Int} {n m q : Int} {nb nt : T → Int} {ap : T → ET → T} {f : Nat} {x : T} {r : IT}
theorem ng_f (hr : itm B n (nb x) (nt x) q = r) (h : ¬ r.1 = 1) : ngG B n nb nt ap (f + 1) m q x = (0, r.2.1, x) := by
  subst hr
  exact if_neg h
theorem ng_e (hr : itm B n (nb x) (nt x) q = r) (h : r.1 = 1) (h2 : cd B n r.2.1 = 17) : ngG B n nb nt ap (f + 1) m q x = (m + 1, r.2.1, ap x r.2.2) := by
  subst hr
  exact (if_pos h).trans (if_pos h2)
theorem ng_s (hr : itm B n (nb x) (nt x) q = r) (h : r.1 = 1) (h2 : cd B n r.2.1 = 16) : ngG B n nb nt ap (f + 1) m q x = ngG B n nb nt ap f (m + 1) (nx B r.2.1) (ap x r.2.2) := by
  subst hr
  exact (if_pos h).trans ((if_neg (by omega)).trans (if_pos h2))
theorem ng_x (hr : itm B n (nb x) (nt x) q = r) (h : r.1 = 1) (h1 : cd B n r.2.1 ≠ 17) (h2 : cd B n r.2.1 ≠ 16) : ngG B n nb nt ap (f + 1) m q x = (0, r.2.1, x) := by
  subst hr
  exact (if_pos h).trans ((if_neg h1).trans (if_neg h2))
end
noncomputable def ngC (B : Int → Int) (n : Int) : Nat → Int → Int → WT → Int × Int × WT := ngG B n (fun x => x.2.2.1) (fun x => x.2.2.2.2.2.2.2.2.1) apC
noncomputable def ngR (B : Int → Int) (n : Int) : Nat → Int → Int → (Int → Int) → Int × Int × (Int → Int) := ngG B n (fun w => w 1) (fun w => w 2) apR
theorem uI_uI (f : Int → Int) (k a b : Int) : uI (uI f k a) k b = uI f k b := by
  funext j
  by_cases h : j = k
  · subst h; rw [uI_s, uI_s]
  · rw [uI_n _ _ h, uI_n _ _ h, uI_n _ _ h]
theorem uI_id (f : Int → Int) (k : Int) : uI f k (f k) = f := by
  funext j
  by_cases h : j = k
  · subst h; rw [uI_s]
  · rw [uI_n _ _ h]
theorem Wc.ap {x : WT} (h : Wc x) {e : ET} (he : EtK x.2.2.1 e) (h1 : (0 ≤ e.1 ∧ e.1 ≤ 5) → x.2.2.1 < 10) (h2 : e.1 = 11 → x.2.2.2.2.2.2.2.2.1 < 8) : Wc (apC x e) := by
  have hm := h.many
  have hn := h.tasks
  obtain ⟨k0, k1, k2, k3, k4, k5⟩ := h
  rcases he with ⟨e0, e1, e2⟩ | ⟨e0, e1, e2, e3⟩ | ⟨e0, e1, e2⟩ | ⟨e0, e1, e2, e3, e4⟩
  · unfold apC
    rw [if_pos e0]
    refine ⟨k0, k1, k2, fun p p0 p1 => ?_, k4, k5⟩
    have := k3 p p0 p1
    show 0 ≤ uI x.2.1 e.2.1 e.2.2.1 p ∧ uI x.2.1 e.2.1 e.2.2.1 p ≤ 99
    unfold uI
    split <;> omega
  · unfold apC
    rw [if_neg (by omega), if_pos e0]
    have := h2 e0
    refine ⟨k0, k1, by show 0 ≤ x.2.2.2.2.2.2.2.2.1 + 1 ∧ x.2.2.2.2.2.2.2.2.1 + 1 ≤ 8; omega, k3, k4, fun t t0 t1 => ?_⟩
    have := k5 t t0 t1
    show (0 ≤ uI x.2.2.2.2.2.2.2.2.2.1 x.2.2.2.2.2.2.2.2.1 e.2.1 t ∧ uI x.2.2.2.2.2.2.2.2.2.1 x.2.2.2.2.2.2.2.2.1 e.2.1 t ≤ 15) ∧ (0 ≤ uI x.2.2.2.2.2.2.2.2.2.2.1 x.2.2.2.2.2.2.2.2.1 e.2.2.1 t ∧ uI x.2.2.2.2.2.2.2.2.2.2.1 x.2.2.2.2.2.2.2.2.1 e.2.2.1 t ≤ 99) ∧ (0 ≤ uI x.2.2.2.2.2.2.2.2.2.2.2 x.2.2.2.2.2.2.2.2.1 e.2.2.2.1 t ∧ uI x.2.2.2.2.2.2.2.2.2.2.2 x.2.2.2.2.2.2.2.2.1 e.2.2.2.1 t ≤ 99)
    unfold uI
    split <;> omega
  · unfold apC
    rw [if_neg (by omega), if_neg (by omega), if_pos e0]
    exact Wc.feed ⟨k0, k1, k2, k3, k4, k5⟩ (by omega) e2
  · unfold apC
    rw [if_neg (by omega), if_neg (by omega), if_neg (by omega)]
    have := h1 e0
    refine ⟨k0, by show 0 ≤ x.2.2.1 + 1 ∧ x.2.2.1 + 1 ≤ 10; omega, k2, k3, fun b b0 b1 => ?_, k5⟩
    have := k4 b b0 b1
    show (-1 ≤ uI x.2.2.2.1 x.2.2.1 e.1 b ∧ uI x.2.2.2.1 x.2.2.1 e.1 b ≤ 5) ∧ (0 ≤ uI x.2.2.2.2.1 x.2.2.1 e.2.1 b ∧ uI x.2.2.2.2.1 x.2.2.1 e.2.1 b ≤ 15) ∧ (0 ≤ uI x.2.2.2.2.2.1 x.2.2.1 e.2.2.1 b ∧ uI x.2.2.2.2.2.1 x.2.2.1 e.2.2.1 b ≤ 15) ∧ (0 ≤ uI x.2.2.2.2.2.2.1 x.2.2.1 e.2.2.2.1 b ∧ uI x.2.2.2.2.2.2.1 x.2.2.1 e.2.2.2.1 b ≤ 99) ∧ (0 ≤ uI x.2.2.2.2.2.2.2.1 x.2.2.1 e.2.2.2.2 b ∧ uI x.2.2.2.2.2.2.2.1 x.2.2.1 e.2.2.2.2 b ≤ 999)
    unfold uI
    split <;> omega
theorem Wf.ap {w : Int → Int} (h : Wf w) {e : ET} (he : EtK (w 1) e) (h1 : (0 ≤ e.1 ∧ e.1 ≤ 5) → w 1 < 10) (h2 : e.1 = 11 → w 2 < 8) : Wf (apR w e) := by
  have hm := h.many
  have hn := h.tasks
  rcases he with ⟨e0, e1, e2⟩ | ⟨e0, e1, e2, e3⟩ | ⟨e0, e1, e2⟩ | ⟨e0, e1, e2, e3, e4⟩
  · unfold apR
    rw [if_pos e0]
    exact h.setP (by omega) e2
  · unfold apR
    rw [if_neg (by omega), if_pos e0]
    exact h.addT (h2 e0) ⟨e1, e2, by omega⟩
  · unfold apR
    rw [if_neg (by omega), if_neg (by omega), if_pos e0]
    exact h.eat (by omega) e2
  · unfold apR
    rw [if_neg (by omega), if_neg (by omega), if_neg (by omega)]
    exact h.addB (h1 e0) ⟨by omega, e1, e2, e3, e4⟩

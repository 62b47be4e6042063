/-! nights equal on both sides -/
theorem Rl_addB2 {w : Int → Int} {x : WT} (h : Rl w x) {k p g m f : Int} (h1 : 0 ≤ w 1 ∧ w 1 < 10) (hk : 0 ≤ k) : Rl (addBx w k p g m f) (x.1, x.2.1, x.2.2.1 + 1, uI x.2.2.2.1 x.2.2.1 k, uI x.2.2.2.2.1 x.2.2.1 p, uI x.2.2.2.2.2.1 x.2.2.1 g, uI x.2.2.2.2.2.2.1 x.2.2.1 m, uI x.2.2.2.2.2.2.2.1 x.2.2.1 f, x.2.2.2.2.2.2.2.2.1, x.2.2.2.2.2.2.2.2.2.1, x.2.2.2.2.2.2.2.2.2.2.1, x.2.2.2.2.2.2.2.2.2.2.2) := by
  have ho : ∀ j : Int, (j < 19 + 5 * w 1 ∨ 19 + 5 * w 1 + 4 < j) → j ≠ 1 → addBx w k p g m f j = w j := by
    intro j hj j1
    unfold addBx
    rw [uI_n _ _ j1, uI_n _ _ (by omega), uI_n _ _ (by omega), uI_n _ _ (by omega), uI_n _ _ (by omega), uI_n _ _ (by omega)]
  have e1 : addBx w k p g m f 1 = w 1 + 1 := uI_s _ _ _
  have n0 : addBx w k p g m f (19 + 5 * w 1 + 0) = k := by unfold addBx; rw [uI_n _ _ (by omega), uI_n _ _ (by omega), uI_n _ _ (by omega), uI_n _ _ (by omega), uI_n _ _ (by omega), uI_s]
  have n1 : addBx w k p g m f (19 + 5 * w 1 + 1) = p := by unfold addBx; rw [uI_n _ _ (by omega), uI_n _ _ (by omega), uI_n _ _ (by omega), uI_n _ _ (by omega), uI_s]
  have n2 : addBx w k p g m f (19 + 5 * w 1 + 2) = g := by unfold addBx; rw [uI_n _ _ (by omega), uI_n _ _ (by omega), uI_n _ _ (by omega), uI_s]
  have n3 : addBx w k p g m f (19 + 5 * w 1 + 3) = m := by unfold addBx; rw [uI_n _ _ (by omega), uI_n _ _ (by omega), uI_s]
  have n4 : addBx w k p g m f (19 + 5 * w 1 + 4) = f := by unfold addBx; rw [uI_n _ _ (by omega), uI_s]
  obtain ⟨⟨a1, a2, a3⟩, hb, hg, ht⟩ := h
  refine ⟨⟨by rw [ho 0 (by omega) (by omega)]; exact a1, by rw [e1]; show x.2.2.1 + 1 = _; omega, by rw [ho 2 (by omega) (by omega)]; exact a3⟩, fun q q0 q1 => by rw [ho _ (by omega) (by omega)]; exact hb q q0 q1, fun b b0 b1 => ?_, fun t t0 t1 => ?_⟩
  · rw [e1] at b1
    show kR (uI x.2.2.2.1 x.2.2.1 k b) = _ ∧ uI x.2.2.2.2.1 x.2.2.1 p b = _ ∧ uI x.2.2.2.2.2.1 x.2.2.1 g b = _ ∧ uI x.2.2.2.2.2.2.1 x.2.2.1 m b = _ ∧ uI x.2.2.2.2.2.2.2.1 x.2.2.1 f b = _
    unfold fB
    by_cases e : b = w 1
    · have e' : b = x.2.2.1 := by omega
      rw [e', uI_s, uI_s, uI_s, uI_s, uI_s, a2, n0, n1, n2, n3, n4]
      exact ⟨if_neg (by omega), rfl, rfl, rfl, rfl⟩
    · rw [uI_n _ _ (by omega), uI_n _ _ (by omega), uI_n _ _ (by omega), uI_n _ _ (by omega), uI_n _ _ (by omega), ho _ (by omega) (by omega), ho _ (by omega) (by omega), ho _ (by omega) (by omega), ho _ (by omega) (by omega), ho _ (by omega) (by omega)]
      exact hg b b0 (by omega)
  · rw [ho 2 (by omega) (by omega)] at t1
    unfold fT
    rw [ho _ (by omega) (by omega), ho _ (by omega) (by omega), ho _ (by omega) (by omega)]
    exact ht t t0 t1
theorem Rl_ap {w : Int → Int} {x : WT} (h : Rl w x) (hw : Wf w) {e : ET} (he : EtK (w 1) e) (h1 : (0 ≤ e.1 ∧ e.1 ≤ 5) → w 1 < 10) (h2 : e.1 = 11 → w 2 < 8) : Rl (apR w e) (apC x e) := by
  have hm := hw.many
  have hn := hw.tasks
  rcases he with ⟨e0, e1, e2⟩ | ⟨e0, e1, e2, e3⟩ | ⟨e0, e1, e2⟩ | ⟨e0, e1, e2, e3, e4⟩
  · unfold apC apR
    rw [if_pos e0, if_pos e0]
    exact Rl_P h (by omega)
  · unfold apC apR
    rw [if_neg (by omega), if_pos e0, if_neg (by omega), if_pos e0]
    exact Rl_addT h hm ⟨hn.1, h2 e0⟩
  · unfold apC apR
    rw [if_neg (by omega), if_neg (by omega), if_pos e0, if_neg (by omega), if_neg (by omega), if_pos e0]
    exact Rl_eat h (by omega)
  · unfold apC apR
    rw [if_neg (by omega), if_neg (by omega), if_neg (by omega), if_neg (by omega), if_neg (by omega), if_neg (by omega)]
    exact Rl_addB2 h ⟨hm.1, h1 e0⟩ e0.1
section
variable {B : Int → Int} {n m q : Int} {f : Nat} {x : WT} {w : Int → Int} {r : IT}
theorem nC_f (hr : itm B n x.2.2.1 x.2.2.2.2.2.2.2.2.1 q = r) (h : ¬ r.1 = 1) : ngC B n (f + 1) m q x = (0, r.2.1, x) := ng_f (nb := fun x : WT => x.2.2.1) (nt := fun x : WT => x.2.2.2.2.2.2.2.2.1) (ap := apC) hr h
theorem nC_e (hr : itm B n x.2.2.1 x.2.2.2.2.2.2.2.2.1 q = r) (h : r.1 = 1) (h2 : cd B n r.2.1 = 17) : ngC B n (f + 1) m q x = (m + 1, r.2.1, apC x r.2.2) := ng_e (nb := fun x : WT => x.2.2.1) (nt := fun x : WT => x.2.2.2.2.2.2.2.2.1) (ap := apC) hr h h2
theorem nC_s (hr : itm B n x.2.2.1 x.2.2.2.2.2.2.2.2.1 q = r) (h : r.1 = 1) (h2 : cd B n r.2.1 = 16) : ngC B n (f + 1) m q x = ngC B n f (m + 1) (nx B r.2.1) (apC x r.2.2) := ng_s (nb := fun x : WT => x.2.2.1) (nt := fun x : WT => x.2.2.2.2.2.2.2.2.1) (ap := apC) hr h h2
theorem nC_x (hr : itm B n x.2.2.1 x.2.2.2.2.2.2.2.2.1 q = r) (h : r.1 = 1) (h1 : cd B n r.2.1 ≠ 17) (h2 : cd B n r.2.1 ≠ 16) : ngC B n (f + 1) m q x = (0, r.2.1, x) := ng_x (nb := fun x : WT => x.2.2.1) (nt := fun x : WT => x.2.2.2.2.2.2.2.2.1) (ap := apC) hr h h1 h2
theorem nR_f (hr : itm B n (w 1) (w 2) q = r) (h : ¬ r.1 = 1) : ngR B n (f + 1) m q w = (0, r.2.1, w) := ng_f (nb := fun w : Int → Int => w 1) (nt := fun w : Int → Int => w 2) (ap := apR) hr h
theorem nR_e (hr : itm B n (w 1) (w 2) q = r) (h : r.1 = 1) (h2 : cd B n r.2.1 = 17) : ngR B n (f + 1) m q w = (m + 1, r.2.1, apR w r.2.2) := ng_e (nb := fun w : Int → Int => w 1) (nt := fun w : Int → Int => w 2) (ap := apR) hr h h2
theorem nR_s (hr : itm B n (w 1) (w 2) q = r) (h : r.1 = 1) (h2 : cd B n r.2.1 = 16) : ngR B n (f + 1) m q w = ngR B n f (m + 1) (nx B r.2.1) (apR w r.2.2) := ng_s (nb := fun w : Int → Int => w 1) (nt := fun w : Int → Int => w 2) (ap := apR) hr h h2
theorem nR_x (hr : itm B n (w 1) (w 2) q = r) (h : r.1 = 1) (h1 : cd B n r.2.1 ≠ 17) (h2 : cd B n r.2.1 ≠ 16) : ngR B n (f + 1) m q w = (0, r.2.1, w) := ng_x (nb := fun w : Int → Int => w 1) (nt := fun w : Int → Int => w 2) (ap := apR) hr h h1 h2
end
theorem ng_eq {B : Int → Int} {n : Int} (hB : Bk B n) : ∀ (f : Nat) (m q : Int) (w : Int → Int) (x : WT), Qk B n q → Rl w x → Wf w → Wc x → (ngC B n f m q x).1 = (ngR B n f m q w).1 ∧ (ngC B n f m q x).2.1 = (ngR B n f m q w).2.1 ∧ Rl (ngR B n f m q w).2.2 (ngC B n f m q x).2.2 := by
  intro f
  induction f with
  | zero => intro m q w x _ h _ _; exact ⟨rfl, rfl, h⟩
  | succ f ih =>
    intro m q w x hq h hw hc
    have e1 : x.2.2.1 = w 1 := h.1.2.1
    have e2 : x.2.2.2.2.2.2.2.2.1 = w 2 := h.1.2.2
    have hk := itm_k (nb := w 1) (nt := w 2) hB hq hw.many.2
    have eC : itm B n x.2.2.1 x.2.2.2.2.2.2.2.2.1 q = itm B n (w 1) (w 2) q := by rw [e1, e2]
    generalize hr : itm B n (w 1) (w 2) q = r at hk eC
    by_cases c : r.1 = 1
    · have k2 := hk.2.2 c
      by_cases c17 : cd B n r.2.1 = 17
      · rw [nC_e eC c c17, nR_e hr c c17]
        exact ⟨rfl, rfl, Rl_ap h hw k2.2.1 k2.2.2.1 k2.2.2.2⟩
      · by_cases c16 : cd B n r.2.1 = 16
        · rw [nC_s eC c c16, nR_s hr c c16]
          have q2 := (hk.2.1.1.nx hB c17).1
          exact ih (m + 1) _ _ _ q2 (Rl_ap h hw k2.2.1 k2.2.2.1 k2.2.2.2) (hw.ap k2.2.1 k2.2.2.1 k2.2.2.2) (hc.ap (by rw [e1]; exact k2.2.1) (by rw [e1]; exact k2.2.2.1) (by rw [e2]; exact k2.2.2.2))
        · rw [nC_x eC c c17 c16, nR_x hr c c17 c16]
          exact ⟨rfl, rfl, h⟩
    · rw [nC_f eC c, nR_f hr c]
      exact ⟨rfl, rfl, h⟩
/-- bytes on both sides -/
def Rt (ta : (Int → Int) × Int) (tp : Int → Int) (tn : Int) : Prop := ta.2 = tn ∧ ∀ j : Int, 0 ≤ j → j < tn → ub (ta.1 j) = tp j
theorem Rt_B {ta : (Int → Int) × Int} {tp : Int → Int} {tn : Int} (h : Rt ta tp tn) : xB ta = bB tp tn := by
  funext j
  unfold xB bB
  rw [h.1]
  by_cases c : 0 ≤ j ∧ j < tn
  · rw [if_pos c, if_pos c]; exact h.2 j c.1 c.2
  · rw [if_neg c, if_neg c]
theorem night_eq {ta : (Int → Int) × Int} {tp : Int → Int} {tn : Int} {w : Int → Int} {x : WT} (h : Rt ta tp tn) (ht : Tr tp tn) (hl : Rl w x) (hw : Wf w) (hc : Wc x) : (ngC (xB ta) ta.2 120 0 (sk (xB ta) 0) x).1 = (ngR (bB tp tn) tn 120 0 (sk (bB tp tn) 0) w).1 ∧ (ngC (xB ta) ta.2 120 0 (sk (xB ta) 0) x).2.1 = (ngR (bB tp tn) tn 120 0 (sk (bB tp tn) 0) w).2.1 ∧ Rl (ngR (bB tp tn) tn 120 0 (sk (bB tp tn) 0) w).2.2 (ngC (xB ta) ta.2 120 0 (sk (xB ta) 0) x).2.2 := by
  rw [Rt_B h, h.1]
  have h1 := ht.1
  obtain ⟨u1, u2, -, u4⟩ := sk_p (Tr_k ht) (p := 0) (by omega)
  exact ng_eq (Tr_k ht) 120 0 _ w x ⟨⟨u1, u2⟩, u4⟩ hl hw hc

/-! sheets on both sides -/
def J5 (bt lg : Int → Int) (ce : Int → Int64) (s0 s1 s2 s3 : Int × Int × (Int → Int64)) : Prop := (Rs bt lg ce s0 0 ∧ Sx s0) ∧ (Rs bt lg ce s1 1 ∧ Sx s1) ∧ (Rs bt lg ce s2 2 ∧ Sx s2) ∧ (Rs bt lg ce s3 3 ∧ Sx s3)
theorem J5.hs {bt lg : Int → Int} {ce : Int → Int64} {s0 s1 s2 s3 : Int × Int × (Int → Int64)} (h : J5 bt lg ce s0 s1 s2 s3) : ∀ k_ : Int, 0 ≤ k_ → k_ < 4 → (bt k_ = 0 ∨ bt k_ = 8 ∨ bt k_ = 16 ∨ bt k_ = 64) ∧ 0 ≤ lg k_ ∧ lg k_ ≤ 40 := by
  obtain ⟨⟨⟨b0, l0, t0⟩, x0⟩, ⟨⟨b1, l1, t1⟩, x1⟩, ⟨⟨b2, l2, t2⟩, x2⟩, ⟨⟨b3, l3, t3⟩, x3⟩⟩ := h
  intro k k0 k1
  rcases (show k = 0 ∨ k = 1 ∨ k = 2 ∨ k = 3 by omega) with rfl | rfl | rfl | rfl
  · rw [← b0, ← l0]; exact x0
  · rw [← b1, ← l1]; exact x1
  · rw [← b2, ← l2]; exact x2
  · rw [← b3, ← l3]; exact x3
theorem Rs_keep {bt lg bt' lg' : Int → Int} {ce ce' : Int → Int64} {s : Int × Int × (Int → Int64)} {J : Int} (h : Rs bt lg ce s J) (e1 : bt' J = bt J) (e2 : lg' J = lg J) (e3 : ∀ i : Int, 0 ≤ i → i < 40 → ce' (40 * J + i) = ce (40 * J + i)) : Rs bt' lg' ce' s J := ⟨by rw [e1]; exact h.1, by rw [e2]; exact h.2.1, fun i i0 i1 => by rw [e3 i i0 i1]; exact h.2.2 i i0 i1⟩
theorem jm_if (x : Int) : jmin x 16 = if x < 16 then x else 16 := by
  unfold jmin
  split <;> split <;> omega
theorem Rs_w {bt lg : Int → Int} {ce : Int → Int64} {s : Int × Int × (Int → Int64)} {J i : Int} {y : Int64} (h : Rs bt lg ce s J) (hi : 0 ≤ i ∧ i < 40) : Rs bt lg (uL ce (40 * J + i) y) (s.1, s.2.1, uL s.2.2 i y) J := by
  refine ⟨h.1, h.2.1, fun j j0 j1 => ?_⟩
  show uL s.2.2 i y j = _
  by_cases c : j = i
  · rw [c, uL_s, uL_s]
  · rw [uL_n _ _ c, uL_n _ _ (by omega)]; exact h.2.2 j j0 j1
theorem Rs_z {bt lg : Int → Int} {ce : Int → Int64} {J b l : Int} (hJ : 0 ≤ J) : Rs (uI bt J b) (uI lg J l) (czF ce J 40) (b, l, fun _ => jL 0) J := by
  refine ⟨(uI_s _ _ _).symm, (uI_s _ _ _).symm, fun j j0 j1 => ?_⟩
  rw [czF_v, if_pos (by omega)]
theorem Rs_m {bt lg : Int → Int} {ce : Int → Int64} {s : Int × Int × (Int → Int64)} {J : Int} {f g : Int → Int} {P : Nat} (h : Rs bt lg ce s J) (hP : P ≤ 16) (e : ∀ j : Int, 0 ≤ j → j < P → f j = g j) : Rs bt lg (mpF ce J (bt J) g P) (s.1, s.2.1, cpL (fun j_ => nW s.1 (jL (f j_))) s.2.2 P) J := by
  refine ⟨h.1, h.2.1, fun j j0 j1 => ?_⟩
  show cpL (fun j_ => nW s.1 (jL (f j_))) s.2.2 P j = _
  rw [mpF_v]
  unfold cpL
  by_cases c : j < (P : Int)
  · rw [if_pos c, if_pos (by omega), show 40 * J + j - 40 * J = j by omega, ← h.1]
    show nW s.1 (jL (f j)) = nW s.1 (jL (g j))
    rw [e j j0 c]
  · rw [if_neg c, if_neg (by omega)]; exact h.2.2 j j0 j1
theorem Rs_c {bt lg : Int → Int} {ce : Int → Int64} {s t : Int × Int × (Int → Int64)} {K J x y n : Int} (hs : Rs bt lg ce s K) (ht : Rs bt lg ce t J) (hx : 0 ≤ x ∧ 0 ≤ n ∧ x + n ≤ 40) (hy : 0 ≤ y ∧ y + n ≤ 40) : Rs bt lg (cyF ce (40 * K + x) (40 * J + y) n.toNat) (t.1, t.2.1, cyS s.2.2 t.2.2 x y n) J := by
  refine ⟨ht.1, ht.2.1, fun j j0 j1 => ?_⟩
  show cyS s.2.2 t.2.2 x y n j = _
  unfold cyS cyF
  by_cases c : y ≤ j ∧ j < y + n
  · rw [if_pos c, if_pos (by omega), hs.2.2 _ (by omega) (by omega)]
    congr 1
    omega
  · rw [if_neg c, if_neg (by omega)]; exact ht.2.2 j j0 j1
theorem cy_o {ce : Int → Int64} {x y n j : Int} (hn : 0 ≤ n) (h : ¬ (y ≤ j ∧ j < y + n)) : cyF ce x y n.toNat j = ce j := if_neg (by omega)
theorem J1.lays {w : Int → Int} {x : WT} (h : J1 w x) {f g : Int → Int64} : ∀ P : Nat, P ≤ 16 → (∀ j : Int, 0 ≤ j → j < P → f j = g j) → J1 (lyW w g P) (x.1, lyB x.2.1 f P, x.2.2.1, x.2.2.2.1, x.2.2.2.2.1, x.2.2.2.2.2.1, x.2.2.2.2.2.2.1, x.2.2.2.2.2.2.2.1, x.2.2.2.2.2.2.2.2.1, x.2.2.2.2.2.2.2.2.2.1, x.2.2.2.2.2.2.2.2.2.2.1, x.2.2.2.2.2.2.2.2.2.2.2) := by
  intro P
  induction P with
  | zero => intro _ _; exact h
  | succ P ih =>
    intro hP e
    have i := ih (by omega) (fun j j0 j1 => e j j0 (by omega))
    have e1 := e (P : Int) (by omega) (by omega)
    rcases Classical.em (okL (f (P : Int))) with q | q
    · have q2 : okL (g (P : Int)) := by rw [← e1]; exact q
      rw [(lybbt (w := x.2.1) q).1, (ly_t (w := w) q2).1, ← e1]
      exact i.bowl (p := (P : Int)) (by omega) q
    · have q2 : ¬ okL (g (P : Int)) := by rw [← e1]; exact q
      rw [(lybbf (w := x.2.1) q).1, (ly_f (w := w) q2).1]
      exact i
set_option maxHeartbeats 4000000 in
theorem pu_write {w : Int → Int} {wd : WT} {fd fe bt lg : Int → Int} {ce : Int → Int64} {s0 s1 s2 s3 : Int × Int × (Int → Int64)} {k i : Int} {v : Int64} {rC rR : Int64} {fd2 : Int → Int} {s02 : Int × Int × (Int → Int64)} {s12 : Int × Int × (Int → Int64)} {s22 : Int × Int × (Int → Int64)} {s32 : Int × Int × (Int → Int64)} {fe2 : Int → Int} {ce2 : Int → Int64} (h : J1 w wd) (hf : J2 fd fe) (h5 : J5 bt lg ce s0 s1 s2 s3) (hC : ((¬ (0 ≤ k ∧ k ≤ 3)) ∧ rC = jL (-1000000001) ∧ fd2 = uI fd 0 (fd 0 + 1) ∧ s02 = s0 ∧ s12 = s1 ∧ s22 = s2 ∧ s32 = s3) ∨ ((k = 0 ∧ s0.1 = 0) ∧ rC = jL (-1000000006) ∧ fd2 = uI fd 5 (fd 5 + 1) ∧ s02 = s0 ∧ s12 = s1 ∧ s22 = s2 ∧ s32 = s3) ∨ (((k = 0 ∧ s0.1 ≠ 0) ∧ ¬ (0 ≤ i ∧ i ≤ s0.2.1 - 1)) ∧ rC = jL (-1000000001) ∧ fd2 = uI fd 0 (fd 0 + 1) ∧ s02 = s0 ∧ s12 = s1 ∧ s22 = s2 ∧ s32 = s3) ∨ (((k = 0 ∧ s0.1 ≠ 0) ∧ 0 ≤ i ∧ i ≤ s0.2.1 - 1) ∧ rC = s0.2.2 i ∧ fd2 = fd ∧ s02 = (s0.1, s0.2.1, uL s0.2.2 i (nW s0.1 v)) ∧ s12 = s1 ∧ s22 = s2 ∧ s32 = s3) ∨ ((k = 1 ∧ s1.1 = 0) ∧ rC = jL (-1000000006) ∧ fd2 = uI fd 5 (fd 5 + 1) ∧ s02 = s0 ∧ s12 = s1 ∧ s22 = s2 ∧ s32 = s3) ∨ (((k = 1 ∧ s1.1 ≠ 0) ∧ ¬ (0 ≤ i ∧ i ≤ s1.2.1 - 1)) ∧ rC = jL (-1000000001) ∧ fd2 = uI fd 0 (fd 0 + 1) ∧ s02 = s0 ∧ s12 = s1 ∧ s22 = s2 ∧ s32 = s3) ∨ (((k = 1 ∧ s1.1 ≠ 0) ∧ 0 ≤ i ∧ i ≤ s1.2.1 - 1) ∧ rC = s1.2.2 i ∧ fd2 = fd ∧ s02 = s0 ∧ s12 = (s1.1, s1.2.1, uL s1.2.2 i (nW s1.1 v)) ∧ s22 = s2 ∧ s32 = s3) ∨ ((k = 2 ∧ s2.1 = 0) ∧ rC = jL (-1000000006) ∧ fd2 = uI fd 5 (fd 5 + 1) ∧ s02 = s0 ∧ s12 = s1 ∧ s22 = s2 ∧ s32 = s3) ∨ (((k = 2 ∧ s2.1 ≠ 0) ∧ ¬ (0 ≤ i ∧ i ≤ s2.2.1 - 1)) ∧ rC = jL (-1000000001) ∧ fd2 = uI fd 0 (fd 0 + 1) ∧ s02 = s0 ∧ s12 = s1 ∧ s22 = s2 ∧ s32 = s3) ∨ (((k = 2 ∧ s2.1 ≠ 0) ∧ 0 ≤ i ∧ i ≤ s2.2.1 - 1) ∧ rC = s2.2.2 i ∧ fd2 = fd ∧ s02 = s0 ∧ s12 = s1 ∧ s22 = (s2.1, s2.2.1, uL s2.2.2 i (nW s2.1 v)) ∧ s32 = s3) ∨ ((k = 3 ∧ s3.1 = 0) ∧ rC = jL (-1000000006) ∧ fd2 = uI fd 5 (fd 5 + 1) ∧ s02 = s0 ∧ s12 = s1 ∧ s22 = s2 ∧ s32 = s3) ∨ (((k = 3 ∧ s3.1 ≠ 0) ∧ ¬ (0 ≤ i ∧ i ≤ s3.2.1 - 1)) ∧ rC = jL (-1000000001) ∧ fd2 = uI fd 0 (fd 0 + 1) ∧ s02 = s0 ∧ s12 = s1 ∧ s22 = s2 ∧ s32 = s3) ∨ (((k = 3 ∧ s3.1 ≠ 0) ∧ 0 ≤ i ∧ i ≤ s3.2.1 - 1) ∧ rC = s3.2.2 i ∧ fd2 = fd ∧ s02 = s0 ∧ s12 = s1 ∧ s22 = s2 ∧ s32 = (s3.1, s3.2.1, uL s3.2.2 i (nW s3.1 v)))) (hR : ((¬ (0 ≤ k ∧ k ≤ 3)) ∧ rR = jL (-1000000001) ∧ fe2 = uI fe 0 (fe 0 + 1) ∧ ce2 = ce) ∨ (((0 ≤ k ∧ k ≤ 3) ∧ bt k = 0) ∧ rR = jL (-1000000006) ∧ fe2 = uI fe 5 (fe 5 + 1) ∧ ce2 = ce) ∨ ((((0 ≤ k ∧ k ≤ 3) ∧ bt k ≠ 0) ∧ ¬ (0 ≤ i ∧ i ≤ lg k - 1)) ∧ rR = jL (-1000000001) ∧ fe2 = uI fe 0 (fe 0 + 1) ∧ ce2 = ce) ∨ ((((0 ≤ k ∧ k ≤ 3) ∧ bt k ≠ 0) ∧ (0 ≤ i ∧ i ≤ lg k - 1)) ∧ rR = ce (40 * k + i) ∧ fe2 = fe ∧ ce2 = uL ce (40 * k + i) (nW (bt k) v))) : rC = rR ∧ J5 bt lg ce2 s02 s12 s22 s32 ∧ J2 fd2 fe2 := by
  obtain ⟨⟨⟨e0, e1, e2⟩, -⟩, hw, hc, h9, -⟩ := id h
  obtain ⟨⟨⟨b0, l0, t0⟩, x0⟩, ⟨⟨b1, l1, t1⟩, x1⟩, ⟨⟨b2, l2, t2⟩, x2⟩, ⟨⟨b3, l3, t3⟩, x3⟩⟩ := id h5
  obtain ⟨z0, y0⟩ := id x0
  obtain ⟨z1, y1⟩ := id x1
  obtain ⟨z2, y2⟩ := id x2
  obtain ⟨z3, y3⟩ := id x3
  have m1 := hw.many
  rcases hC with ⟨c1, rfl, rfl, rfl, rfl, rfl, rfl⟩ | ⟨c1, rfl, rfl, rfl, rfl, rfl, rfl⟩ | ⟨c1, rfl, rfl, rfl, rfl, rfl, rfl⟩ | ⟨c1, rfl, rfl, rfl, rfl, rfl, rfl⟩ | ⟨c1, rfl, rfl, rfl, rfl, rfl, rfl⟩ | ⟨c1, rfl, rfl, rfl, rfl, rfl, rfl⟩ | ⟨c1, rfl, rfl, rfl, rfl, rfl, rfl⟩ | ⟨c1, rfl, rfl, rfl, rfl, rfl, rfl⟩ | ⟨c1, rfl, rfl, rfl, rfl, rfl, rfl⟩ | ⟨c1, rfl, rfl, rfl, rfl, rfl, rfl⟩ | ⟨c1, rfl, rfl, rfl, rfl, rfl, rfl⟩ | ⟨c1, rfl, rfl, rfl, rfl, rfl, rfl⟩ | ⟨c1, rfl, rfl, rfl, rfl, rfl, rfl⟩
  · rcases hR with ⟨c2, rfl, rfl, rfl⟩ | ⟨c2, rfl, rfl, rfl⟩ | ⟨c2, rfl, rfl, rfl⟩ | ⟨c2, rfl, rfl, rfl⟩
    · exact ⟨rfl, h5, hf.u 0 (by decide) (by decide)⟩
    · exfalso; omega
    · exact ⟨rfl, h5, hf.u 0 (by decide) (by decide)⟩
    · exfalso; omega
  · rcases hR with ⟨c2, rfl, rfl, rfl⟩ | ⟨c2, rfl, rfl, rfl⟩ | ⟨c2, rfl, rfl, rfl⟩ | ⟨c2, rfl, rfl, rfl⟩
    · exfalso; (obtain rfl : k = 0 := (by omega)); omega
    · exact ⟨rfl, h5, hf.u 5 (by decide) (by decide)⟩
    · exfalso; (obtain rfl : k = 0 := (by omega)); omega
    · exfalso; (obtain rfl : k = 0 := (by omega)); omega
  · rcases hR with ⟨c2, rfl, rfl, rfl⟩ | ⟨c2, rfl, rfl, rfl⟩ | ⟨c2, rfl, rfl, rfl⟩ | ⟨c2, rfl, rfl, rfl⟩
    · exact ⟨rfl, h5, hf.u 0 (by decide) (by decide)⟩
    · exfalso; (obtain rfl : k = 0 := (by omega)); omega
    · exact ⟨rfl, h5, hf.u 0 (by decide) (by decide)⟩
    · exfalso; (obtain rfl : k = 0 := (by omega)); omega
  · rcases hR with ⟨c2, rfl, rfl, rfl⟩ | ⟨c2, rfl, rfl, rfl⟩ | ⟨c2, rfl, rfl, rfl⟩ | ⟨c2, rfl, rfl, rfl⟩
    · exfalso; (obtain rfl : k = 0 := (by omega)); omega
    · exfalso; (obtain rfl : k = 0 := (by omega)); omega
    · exfalso; (obtain rfl : k = 0 := (by omega)); omega
    · (obtain rfl : k = 0 := (by omega)); exact ⟨t0 i (by omega) (by omega), (by rw [← b0]; exact ⟨⟨Rs_w ⟨b0, l0, t0⟩ (by omega), x0⟩, ⟨Rs_keep ⟨b1, l1, t1⟩ rfl rfl (fun j j0 j1 => uL_n _ _ (by omega)), x1⟩, ⟨Rs_keep ⟨b2, l2, t2⟩ rfl rfl (fun j j0 j1 => uL_n _ _ (by omega)), x2⟩, ⟨Rs_keep ⟨b3, l3, t3⟩ rfl rfl (fun j j0 j1 => uL_n _ _ (by omega)), x3⟩⟩), hf⟩
  · rcases hR with ⟨c2, rfl, rfl, rfl⟩ | ⟨c2, rfl, rfl, rfl⟩ | ⟨c2, rfl, rfl, rfl⟩ | ⟨c2, rfl, rfl, rfl⟩
    · exfalso; (obtain rfl : k = 1 := (by omega)); omega
    · exact ⟨rfl, h5, hf.u 5 (by decide) (by decide)⟩
    · exfalso; (obtain rfl : k = 1 := (by omega)); omega
    · exfalso; (obtain rfl : k = 1 := (by omega)); omega
  · rcases hR with ⟨c2, rfl, rfl, rfl⟩ | ⟨c2, rfl, rfl, rfl⟩ | ⟨c2, rfl, rfl, rfl⟩ | ⟨c2, rfl, rfl, rfl⟩
    · exact ⟨rfl, h5, hf.u 0 (by decide) (by decide)⟩
    · exfalso; (obtain rfl : k = 1 := (by omega)); omega
    · exact ⟨rfl, h5, hf.u 0 (by decide) (by decide)⟩
    · exfalso; (obtain rfl : k = 1 := (by omega)); omega
  · rcases hR with ⟨c2, rfl, rfl, rfl⟩ | ⟨c2, rfl, rfl, rfl⟩ | ⟨c2, rfl, rfl, rfl⟩ | ⟨c2, rfl, rfl, rfl⟩
    · exfalso; (obtain rfl : k = 1 := (by omega)); omega
    · exfalso; (obtain rfl : k = 1 := (by omega)); omega
    · exfalso; (obtain rfl : k = 1 := (by omega)); omega
    · (obtain rfl : k = 1 := (by omega)); exact ⟨t1 i (by omega) (by omega), (by rw [← b1]; exact ⟨⟨Rs_keep ⟨b0, l0, t0⟩ rfl rfl (fun j j0 j1 => uL_n _ _ (by omega)), x0⟩, ⟨Rs_w ⟨b1, l1, t1⟩ (by omega), x1⟩, ⟨Rs_keep ⟨b2, l2, t2⟩ rfl rfl (fun j j0 j1 => uL_n _ _ (by omega)), x2⟩, ⟨Rs_keep ⟨b3, l3, t3⟩ rfl rfl (fun j j0 j1 => uL_n _ _ (by omega)), x3⟩⟩), hf⟩
  · rcases hR with ⟨c2, rfl, rfl, rfl⟩ | ⟨c2, rfl, rfl, rfl⟩ | ⟨c2, rfl, rfl, rfl⟩ | ⟨c2, rfl, rfl, rfl⟩
    · exfalso; (obtain rfl : k = 2 := (by omega)); omega
    · exact ⟨rfl, h5, hf.u 5 (by decide) (by decide)⟩
    · exfalso; (obtain rfl : k = 2 := (by omega)); omega
    · exfalso; (obtain rfl : k = 2 := (by omega)); omega
  · rcases hR with ⟨c2, rfl, rfl, rfl⟩ | ⟨c2, rfl, rfl, rfl⟩ | ⟨c2, rfl, rfl, rfl⟩ | ⟨c2, rfl, rfl, rfl⟩
    · exact ⟨rfl, h5, hf.u 0 (by decide) (by decide)⟩
    · exfalso; (obtain rfl : k = 2 := (by omega)); omega
    · exact ⟨rfl, h5, hf.u 0 (by decide) (by decide)⟩
    · exfalso; (obtain rfl : k = 2 := (by omega)); omega
  · rcases hR with ⟨c2, rfl, rfl, rfl⟩ | ⟨c2, rfl, rfl, rfl⟩ | ⟨c2, rfl, rfl, rfl⟩ | ⟨c2, rfl, rfl, rfl⟩
    · exfalso; (obtain rfl : k = 2 := (by omega)); omega
    · exfalso; (obtain rfl : k = 2 := (by omega)); omega
    · exfalso; (obtain rfl : k = 2 := (by omega)); omega
    · (obtain rfl : k = 2 := (by omega)); exact ⟨t2 i (by omega) (by omega), (by rw [← b2]; exact ⟨⟨Rs_keep ⟨b0, l0, t0⟩ rfl rfl (fun j j0 j1 => uL_n _ _ (by omega)), x0⟩, ⟨Rs_keep ⟨b1, l1, t1⟩ rfl rfl (fun j j0 j1 => uL_n _ _ (by omega)), x1⟩, ⟨Rs_w ⟨b2, l2, t2⟩ (by omega), x2⟩, ⟨Rs_keep ⟨b3, l3, t3⟩ rfl rfl (fun j j0 j1 => uL_n _ _ (by omega)), x3⟩⟩), hf⟩
  · rcases hR with ⟨c2, rfl, rfl, rfl⟩ | ⟨c2, rfl, rfl, rfl⟩ | ⟨c2, rfl, rfl, rfl⟩ | ⟨c2, rfl, rfl, rfl⟩
    · exfalso; (obtain rfl : k = 3 := (by omega)); omega
    · exact ⟨rfl, h5, hf.u 5 (by decide) (by decide)⟩
    · exfalso; (obtain rfl : k = 3 := (by omega)); omega
    · exfalso; (obtain rfl : k = 3 := (by omega)); omega
  · rcases hR with ⟨c2, rfl, rfl, rfl⟩ | ⟨c2, rfl, rfl, rfl⟩ | ⟨c2, rfl, rfl, rfl⟩ | ⟨c2, rfl, rfl, rfl⟩
    · exact ⟨rfl, h5, hf.u 0 (by decide) (by decide)⟩
    · exfalso; (obtain rfl : k = 3 := (by omega)); omega
    · exact ⟨rfl, h5, hf.u 0 (by decide) (by decide)⟩
    · exfalso; (obtain rfl : k = 3 := (by omega)); omega
  · rcases hR with ⟨c2, rfl, rfl, rfl⟩ | ⟨c2, rfl, rfl, rfl⟩ | ⟨c2, rfl, rfl, rfl⟩ | ⟨c2, rfl, rfl, rfl⟩
    · exfalso; (obtain rfl : k = 3 := (by omega)); omega
    · exfalso; (obtain rfl : k = 3 := (by omega)); omega
    · exfalso; (obtain rfl : k = 3 := (by omega)); omega
    · (obtain rfl : k = 3 := (by omega)); exact ⟨t3 i (by omega) (by omega), (by rw [← b3]; exact ⟨⟨Rs_keep ⟨b0, l0, t0⟩ rfl rfl (fun j j0 j1 => uL_n _ _ (by omega)), x0⟩, ⟨Rs_keep ⟨b1, l1, t1⟩ rfl rfl (fun j j0 j1 => uL_n _ _ (by omega)), x1⟩, ⟨Rs_keep ⟨b2, l2, t2⟩ rfl rfl (fun j j0 j1 => uL_n _ _ (by omega)), x2⟩, ⟨Rs_w ⟨b3, l3, t3⟩ (by omega), x3⟩⟩), hf⟩
set_option maxHeartbeats 4000000 in
theorem pu_sheet {w : Int → Int} {wd : WT} {fd fe bt lg : Int → Int} {ce : Int → Int64} {s0 s1 s2 s3 : Int × Int × (Int → Int64)} {k bb n : Int} {rC rR : Int32} {fd2 : Int → Int} {s02 : Int × Int × (Int → Int64)} {s12 : Int × Int × (Int → Int64)} {s22 : Int × Int × (Int → Int64)} {s32 : Int × Int × (Int → Int64)} {fe2 : Int → Int} {bt2 : Int → Int} {lg2 : Int → Int} {ce2 : Int → Int64} (h : J1 w wd) (hf : J2 fd fe) (h5 : J5 bt lg ce s0 s1 s2 s3) (hC : ((¬ ((0 ≤ k ∧ k ≤ 3) ∧ (bb = 0 ∨ bb = 8 ∨ bb = 16 ∨ bb = 64))) ∧ rC = jI (-1000000001) ∧ fd2 = uI fd 0 (fd 0 + 1) ∧ s02 = s0 ∧ s12 = s1 ∧ s22 = s2 ∧ s32 = s3) ∨ ((((0 ≤ k ∧ k ≤ 3) ∧ (bb = 0 ∨ bb = 8 ∨ bb = 16 ∨ bb = 64)) ∧ n < 0) ∧ rC = jI (-1000000007) ∧ fd2 = uI fd 6 (fd 6 + 1) ∧ s02 = s0 ∧ s12 = s1 ∧ s22 = s2 ∧ s32 = s3) ∨ ((((0 ≤ k ∧ k ≤ 3) ∧ (bb = 0 ∨ bb = 8 ∨ bb = 16 ∨ bb = 64)) ∧ 40 < n) ∧ rC = jI (-1000000001) ∧ fd2 = uI fd 0 (fd 0 + 1) ∧ s02 = s0 ∧ s12 = s1 ∧ s22 = s2 ∧ s32 = s3) ∨ (((k = 0 ∧ (bb = 0 ∨ bb = 8 ∨ bb = 16 ∨ bb = 64)) ∧ 0 ≤ n ∧ n ≤ 40) ∧ rC = jI (if bb = 0 then 0 else n) ∧ fd2 = fd ∧ s02 = (bb, if bb = 0 then 0 else n, fun _ => jL 0) ∧ s12 = s1 ∧ s22 = s2 ∧ s32 = s3) ∨ (((k = 1 ∧ (bb = 0 ∨ bb = 8 ∨ bb = 16 ∨ bb = 64)) ∧ 0 ≤ n ∧ n ≤ 40) ∧ rC = jI (if bb = 0 then 0 else n) ∧ fd2 = fd ∧ s02 = s0 ∧ s12 = (bb, if bb = 0 then 0 else n, fun _ => jL 0) ∧ s22 = s2 ∧ s32 = s3) ∨ (((k = 2 ∧ (bb = 0 ∨ bb = 8 ∨ bb = 16 ∨ bb = 64)) ∧ 0 ≤ n ∧ n ≤ 40) ∧ rC = jI (if bb = 0 then 0 else n) ∧ fd2 = fd ∧ s02 = s0 ∧ s12 = s1 ∧ s22 = (bb, if bb = 0 then 0 else n, fun _ => jL 0) ∧ s32 = s3) ∨ (((k = 3 ∧ (bb = 0 ∨ bb = 8 ∨ bb = 16 ∨ bb = 64)) ∧ 0 ≤ n ∧ n ≤ 40) ∧ rC = jI (if bb = 0 then 0 else n) ∧ fd2 = fd ∧ s02 = s0 ∧ s12 = s1 ∧ s22 = s2 ∧ s32 = (bb, if bb = 0 then 0 else n, fun _ => jL 0))) (hR : ((¬ ((0 ≤ k ∧ k ≤ 3) ∧ (bb = 0 ∨ bb = 8 ∨ bb = 16 ∨ bb = 64))) ∧ rR = jI (-1000000001) ∧ fe2 = uI fe 0 (fe 0 + 1) ∧ bt2 = bt ∧ lg2 = lg ∧ ce2 = ce) ∨ ((((0 ≤ k ∧ k ≤ 3) ∧ (bb = 0 ∨ bb = 8 ∨ bb = 16 ∨ bb = 64)) ∧ n < 0) ∧ rR = jI (-1000000007) ∧ fe2 = uI fe 6 (fe 6 + 1) ∧ bt2 = bt ∧ lg2 = lg ∧ ce2 = ce) ∨ ((((0 ≤ k ∧ k ≤ 3) ∧ (bb = 0 ∨ bb = 8 ∨ bb = 16 ∨ bb = 64)) ∧ 40 < n) ∧ rR = jI (-1000000001) ∧ fe2 = uI fe 0 (fe 0 + 1) ∧ bt2 = bt ∧ lg2 = lg ∧ ce2 = ce) ∨ ((((0 ≤ k ∧ k ≤ 3) ∧ (bb = 0 ∨ bb = 8 ∨ bb = 16 ∨ bb = 64)) ∧ 0 ≤ n ∧ n ≤ 40) ∧ rR = jI (if bb = 0 then 0 else n) ∧ fe2 = fe ∧ bt2 = uI bt k bb ∧ lg2 = uI lg k (if bb = 0 then 0 else n) ∧ ce2 = czF ce k 40)) : rC = rR ∧ J5 bt2 lg2 ce2 s02 s12 s22 s32 ∧ J2 fd2 fe2 := by
  obtain ⟨⟨⟨e0, e1, e2⟩, -⟩, hw, hc, h9, -⟩ := id h
  obtain ⟨⟨⟨b0, l0, t0⟩, x0⟩, ⟨⟨b1, l1, t1⟩, x1⟩, ⟨⟨b2, l2, t2⟩, x2⟩, ⟨⟨b3, l3, t3⟩, x3⟩⟩ := id h5
  obtain ⟨z0, y0⟩ := id x0
  obtain ⟨z1, y1⟩ := id x1
  obtain ⟨z2, y2⟩ := id x2
  obtain ⟨z3, y3⟩ := id x3
  have m1 := hw.many
  rcases hC with ⟨c1, rfl, rfl, rfl, rfl, rfl, rfl⟩ | ⟨c1, rfl, rfl, rfl, rfl, rfl, rfl⟩ | ⟨c1, rfl, rfl, rfl, rfl, rfl, rfl⟩ | ⟨c1, rfl, rfl, rfl, rfl, rfl, rfl⟩ | ⟨c1, rfl, rfl, rfl, rfl, rfl, rfl⟩ | ⟨c1, rfl, rfl, rfl, rfl, rfl, rfl⟩ | ⟨c1, rfl, rfl, rfl, rfl, rfl, rfl⟩
  · rcases hR with ⟨c2, rfl, rfl, rfl, rfl, rfl⟩ | ⟨c2, rfl, rfl, rfl, rfl, rfl⟩ | ⟨c2, rfl, rfl, rfl, rfl, rfl⟩ | ⟨c2, rfl, rfl, rfl, rfl, rfl⟩
    · exact ⟨rfl, h5, hf.u 0 (by decide) (by decide)⟩
    · exfalso; omega
    · exact ⟨rfl, h5, hf.u 0 (by decide) (by decide)⟩
    · exfalso; omega
  · rcases hR with ⟨c2, rfl, rfl, rfl, rfl, rfl⟩ | ⟨c2, rfl, rfl, rfl, rfl, rfl⟩ | ⟨c2, rfl, rfl, rfl, rfl, rfl⟩ | ⟨c2, rfl, rfl, rfl, rfl, rfl⟩
    · exfalso; omega
    · exact ⟨rfl, h5, hf.u 6 (by decide) (by decide)⟩
    · exfalso; omega
    · exfalso; omega
  · rcases hR with ⟨c2, rfl, rfl, rfl, rfl, rfl⟩ | ⟨c2, rfl, rfl, rfl, rfl, rfl⟩ | ⟨c2, rfl, rfl, rfl, rfl, rfl⟩ | ⟨c2, rfl, rfl, rfl, rfl, rfl⟩
    · exact ⟨rfl, h5, hf.u 0 (by decide) (by decide)⟩
    · exfalso; omega
    · exact ⟨rfl, h5, hf.u 0 (by decide) (by decide)⟩
    · exfalso; omega
  · rcases hR with ⟨c2, rfl, rfl, rfl, rfl, rfl⟩ | ⟨c2, rfl, rfl, rfl, rfl, rfl⟩ | ⟨c2, rfl, rfl, rfl, rfl, rfl⟩ | ⟨c2, rfl, rfl, rfl, rfl, rfl⟩
    · exfalso; (obtain rfl : k = 0 := (by omega)); omega
    · exfalso; (obtain rfl : k = 0 := (by omega)); omega
    · exfalso; (obtain rfl : k = 0 := (by omega)); omega
    · (obtain rfl : k = 0 := (by omega)); exact ⟨rfl, ⟨⟨Rs_z (by omega), (by refine ⟨by dsimp only; omega, ?_⟩; dsimp only; split <;> omega)⟩, ⟨Rs_keep ⟨b1, l1, t1⟩ (uI_n _ _ (by omega)) (uI_n _ _ (by omega)) (fun j j0 j1 => by rw [czF_v, if_neg (by omega)]), x1⟩, ⟨Rs_keep ⟨b2, l2, t2⟩ (uI_n _ _ (by omega)) (uI_n _ _ (by omega)) (fun j j0 j1 => by rw [czF_v, if_neg (by omega)]), x2⟩, ⟨Rs_keep ⟨b3, l3, t3⟩ (uI_n _ _ (by omega)) (uI_n _ _ (by omega)) (fun j j0 j1 => by rw [czF_v, if_neg (by omega)]), x3⟩⟩, hf⟩
  · rcases hR with ⟨c2, rfl, rfl, rfl, rfl, rfl⟩ | ⟨c2, rfl, rfl, rfl, rfl, rfl⟩ | ⟨c2, rfl, rfl, rfl, rfl, rfl⟩ | ⟨c2, rfl, rfl, rfl, rfl, rfl⟩
    · exfalso; (obtain rfl : k = 1 := (by omega)); omega
    · exfalso; (obtain rfl : k = 1 := (by omega)); omega
    · exfalso; (obtain rfl : k = 1 := (by omega)); omega
    · (obtain rfl : k = 1 := (by omega)); exact ⟨rfl, ⟨⟨Rs_keep ⟨b0, l0, t0⟩ (uI_n _ _ (by omega)) (uI_n _ _ (by omega)) (fun j j0 j1 => by rw [czF_v, if_neg (by omega)]), x0⟩, ⟨Rs_z (by omega), (by refine ⟨by dsimp only; omega, ?_⟩; dsimp only; split <;> omega)⟩, ⟨Rs_keep ⟨b2, l2, t2⟩ (uI_n _ _ (by omega)) (uI_n _ _ (by omega)) (fun j j0 j1 => by rw [czF_v, if_neg (by omega)]), x2⟩, ⟨Rs_keep ⟨b3, l3, t3⟩ (uI_n _ _ (by omega)) (uI_n _ _ (by omega)) (fun j j0 j1 => by rw [czF_v, if_neg (by omega)]), x3⟩⟩, hf⟩
  · rcases hR with ⟨c2, rfl, rfl, rfl, rfl, rfl⟩ | ⟨c2, rfl, rfl, rfl, rfl, rfl⟩ | ⟨c2, rfl, rfl, rfl, rfl, rfl⟩ | ⟨c2, rfl, rfl, rfl, rfl, rfl⟩
    · exfalso; (obtain rfl : k = 2 := (by omega)); omega
    · exfalso; (obtain rfl : k = 2 := (by omega)); omega
    · exfalso; (obtain rfl : k = 2 := (by omega)); omega
    · (obtain rfl : k = 2 := (by omega)); exact ⟨rfl, ⟨⟨Rs_keep ⟨b0, l0, t0⟩ (uI_n _ _ (by omega)) (uI_n _ _ (by omega)) (fun j j0 j1 => by rw [czF_v, if_neg (by omega)]), x0⟩, ⟨Rs_keep ⟨b1, l1, t1⟩ (uI_n _ _ (by omega)) (uI_n _ _ (by omega)) (fun j j0 j1 => by rw [czF_v, if_neg (by omega)]), x1⟩, ⟨Rs_z (by omega), (by refine ⟨by dsimp only; omega, ?_⟩; dsimp only; split <;> omega)⟩, ⟨Rs_keep ⟨b3, l3, t3⟩ (uI_n _ _ (by omega)) (uI_n _ _ (by omega)) (fun j j0 j1 => by rw [czF_v, if_neg (by omega)]), x3⟩⟩, hf⟩
  · rcases hR with ⟨c2, rfl, rfl, rfl, rfl, rfl⟩ | ⟨c2, rfl, rfl, rfl, rfl, rfl⟩ | ⟨c2, rfl, rfl, rfl, rfl, rfl⟩ | ⟨c2, rfl, rfl, rfl, rfl, rfl⟩
    · exfalso; (obtain rfl : k = 3 := (by omega)); omega
    · exfalso; (obtain rfl : k = 3 := (by omega)); omega
    · exfalso; (obtain rfl : k = 3 := (by omega)); omega
    · (obtain rfl : k = 3 := (by omega)); exact ⟨rfl, ⟨⟨Rs_keep ⟨b0, l0, t0⟩ (uI_n _ _ (by omega)) (uI_n _ _ (by omega)) (fun j j0 j1 => by rw [czF_v, if_neg (by omega)]), x0⟩, ⟨Rs_keep ⟨b1, l1, t1⟩ (uI_n _ _ (by omega)) (uI_n _ _ (by omega)) (fun j j0 j1 => by rw [czF_v, if_neg (by omega)]), x1⟩, ⟨Rs_keep ⟨b2, l2, t2⟩ (uI_n _ _ (by omega)) (uI_n _ _ (by omega)) (fun j j0 j1 => by rw [czF_v, if_neg (by omega)]), x2⟩, ⟨Rs_z (by omega), (by refine ⟨by dsimp only; omega, ?_⟩; dsimp only; split <;> omega)⟩⟩, hf⟩
set_option maxHeartbeats 4000000 in
theorem pu_map {w : Int → Int} {wd : WT} {fd fe bt lg : Int → Int} {ce : Int → Int64} {s0 s1 s2 s3 : Int × Int × (Int → Int64)} {k : Int} {rC rR : Int32} {fd2 : Int → Int} {gl2 : GT} {li2 : Int → Int} {s02 : Int × Int × (Int → Int64)} {s12 : Int × Int × (Int → Int64)} {s22 : Int × Int × (Int → Int64)} {s32 : Int × Int × (Int → Int64)} {fe2 : Int → Int} {ce2 : Int → Int64} (h : J1 w wd) (hf : J2 fd fe) (h5 : J5 bt lg ce s0 s1 s2 s3) (hC : ((¬ (0 ≤ k ∧ k ≤ 3)) ∧ rC = jI (-1000000001) ∧ fd2 = uI fd 0 (fd 0 + 1) ∧ s02 = s0 ∧ s12 = s1 ∧ s22 = s2 ∧ s32 = s3) ∨ ((k = 0 ∧ s0.1 = 0) ∧ rC = jI (-1000000006) ∧ fd2 = uI fd 5 (fd 5 + 1) ∧ s02 = s0 ∧ s12 = s1 ∧ s22 = s2 ∧ s32 = s3) ∨ ((k = 0 ∧ s0.1 ≠ 0) ∧ rC = jI (jmin s0.2.1 16) ∧ fd2 = fd ∧ s02 = (s0.1, s0.2.1, cpL (fun j_ => nW s0.1 (jL (cLt wd 0 j_))) s0.2.2 (jmin s0.2.1 16).toNat) ∧ s12 = s1 ∧ s22 = s2 ∧ s32 = s3) ∨ ((k = 1 ∧ s1.1 = 0) ∧ rC = jI (-1000000006) ∧ fd2 = uI fd 5 (fd 5 + 1) ∧ s02 = s0 ∧ s12 = s1 ∧ s22 = s2 ∧ s32 = s3) ∨ ((k = 1 ∧ s1.1 ≠ 0) ∧ rC = jI (jmin s1.2.1 16) ∧ fd2 = fd ∧ s02 = s0 ∧ s12 = (s1.1, s1.2.1, cpL (fun j_ => nW s1.1 (jL (cLt wd 0 j_))) s1.2.2 (jmin s1.2.1 16).toNat) ∧ s22 = s2 ∧ s32 = s3) ∨ ((k = 2 ∧ s2.1 = 0) ∧ rC = jI (-1000000006) ∧ fd2 = uI fd 5 (fd 5 + 1) ∧ s02 = s0 ∧ s12 = s1 ∧ s22 = s2 ∧ s32 = s3) ∨ ((k = 2 ∧ s2.1 ≠ 0) ∧ rC = jI (jmin s2.2.1 16) ∧ fd2 = fd ∧ s02 = s0 ∧ s12 = s1 ∧ s22 = (s2.1, s2.2.1, cpL (fun j_ => nW s2.1 (jL (cLt wd 0 j_))) s2.2.2 (jmin s2.2.1 16).toNat) ∧ s32 = s3) ∨ ((k = 3 ∧ s3.1 = 0) ∧ rC = jI (-1000000006) ∧ fd2 = uI fd 5 (fd 5 + 1) ∧ s02 = s0 ∧ s12 = s1 ∧ s22 = s2 ∧ s32 = s3) ∨ ((k = 3 ∧ s3.1 ≠ 0) ∧ rC = jI (jmin s3.2.1 16) ∧ fd2 = fd ∧ s02 = s0 ∧ s12 = s1 ∧ s22 = s2 ∧ s32 = (s3.1, s3.2.1, cpL (fun j_ => nW s3.1 (jL (cLt wd 0 j_))) s3.2.2 (jmin s3.2.1 16).toNat))) (hR : ((¬ (0 ≤ k ∧ k ≤ 3)) ∧ rR = jI (-1000000001) ∧ fe2 = uI fe 0 (fe 0 + 1) ∧ ce2 = ce) ∨ (((0 ≤ k ∧ k ≤ 3) ∧ bt k = 0) ∧ rR = jI (-1000000006) ∧ fe2 = uI fe 5 (fe 5 + 1) ∧ ce2 = ce) ∨ (((0 ≤ k ∧ k ≤ 3) ∧ bt k ≠ 0) ∧ rR = jI (if lg k < 16 then lg k else 16) ∧ fe2 = fe ∧ ce2 = mpF ce k (bt k) (sLt w) (if lg k < 16 then lg k else 16).toNat)) : rC = rR ∧ J5 bt lg ce2 s02 s12 s22 s32 ∧ J2 fd2 fe2 := by
  obtain ⟨⟨⟨e0, e1, e2⟩, -⟩, hw, hc, h9, -⟩ := id h
  obtain ⟨⟨⟨b0, l0, t0⟩, x0⟩, ⟨⟨b1, l1, t1⟩, x1⟩, ⟨⟨b2, l2, t2⟩, x2⟩, ⟨⟨b3, l3, t3⟩, x3⟩⟩ := id h5
  obtain ⟨z0, y0⟩ := id x0
  obtain ⟨z1, y1⟩ := id x1
  obtain ⟨z2, y2⟩ := id x2
  obtain ⟨z3, y3⟩ := id x3
  have m1 := hw.many
  rcases hC with ⟨c1, rfl, rfl, rfl, rfl, rfl, rfl⟩ | ⟨c1, rfl, rfl, rfl, rfl, rfl, rfl⟩ | ⟨c1, rfl, rfl, rfl, rfl, rfl, rfl⟩ | ⟨c1, rfl, rfl, rfl, rfl, rfl, rfl⟩ | ⟨c1, rfl, rfl, rfl, rfl, rfl, rfl⟩ | ⟨c1, rfl, rfl, rfl, rfl, rfl, rfl⟩ | ⟨c1, rfl, rfl, rfl, rfl, rfl, rfl⟩ | ⟨c1, rfl, rfl, rfl, rfl, rfl, rfl⟩ | ⟨c1, rfl, rfl, rfl, rfl, rfl, rfl⟩
  · rcases hR with ⟨c2, rfl, rfl, rfl⟩ | ⟨c2, rfl, rfl, rfl⟩ | ⟨c2, rfl, rfl, rfl⟩
    · exact ⟨rfl, h5, hf.u 0 (by decide) (by decide)⟩
    · exfalso; omega
    · exfalso; omega
  · rcases hR with ⟨c2, rfl, rfl, rfl⟩ | ⟨c2, rfl, rfl, rfl⟩ | ⟨c2, rfl, rfl, rfl⟩
    · exfalso; (obtain rfl : k = 0 := (by omega)); omega
    · exact ⟨rfl, h5, hf.u 5 (by decide) (by decide)⟩
    · exfalso; (obtain rfl : k = 0 := (by omega)); omega
  · rcases hR with ⟨c2, rfl, rfl, rfl⟩ | ⟨c2, rfl, rfl, rfl⟩ | ⟨c2, rfl, rfl, rfl⟩
    · exfalso; (obtain rfl : k = 0 := (by omega)); omega
    · exfalso; (obtain rfl : k = 0 := (by omega)); omega
    · (obtain rfl : k = 0 := (by omega)); exact ⟨congrArg jI (by rw [← l0]; exact jm_if _), (by rw [← l0, ← jm_if]; have hj := jmin_z s0.2.1 16; exact ⟨⟨Rs_m ⟨b0, l0, t0⟩ (by omega) (fun j j0 j1 => h.lt ⟨j0, by omega⟩), x0⟩, ⟨Rs_keep ⟨b1, l1, t1⟩ rfl rfl (fun j j0 j1 => by rw [mpF_v, if_neg (by omega)]), x1⟩, ⟨Rs_keep ⟨b2, l2, t2⟩ rfl rfl (fun j j0 j1 => by rw [mpF_v, if_neg (by omega)]), x2⟩, ⟨Rs_keep ⟨b3, l3, t3⟩ rfl rfl (fun j j0 j1 => by rw [mpF_v, if_neg (by omega)]), x3⟩⟩), hf⟩
  · rcases hR with ⟨c2, rfl, rfl, rfl⟩ | ⟨c2, rfl, rfl, rfl⟩ | ⟨c2, rfl, rfl, rfl⟩
    · exfalso; (obtain rfl : k = 1 := (by omega)); omega
    · exact ⟨rfl, h5, hf.u 5 (by decide) (by decide)⟩
    · exfalso; (obtain rfl : k = 1 := (by omega)); omega
  · rcases hR with ⟨c2, rfl, rfl, rfl⟩ | ⟨c2, rfl, rfl, rfl⟩ | ⟨c2, rfl, rfl, rfl⟩
    · exfalso; (obtain rfl : k = 1 := (by omega)); omega
    · exfalso; (obtain rfl : k = 1 := (by omega)); omega
    · (obtain rfl : k = 1 := (by omega)); exact ⟨congrArg jI (by rw [← l1]; exact jm_if _), (by rw [← l1, ← jm_if]; have hj := jmin_z s1.2.1 16; exact ⟨⟨Rs_keep ⟨b0, l0, t0⟩ rfl rfl (fun j j0 j1 => by rw [mpF_v, if_neg (by omega)]), x0⟩, ⟨Rs_m ⟨b1, l1, t1⟩ (by omega) (fun j j0 j1 => h.lt ⟨j0, by omega⟩), x1⟩, ⟨Rs_keep ⟨b2, l2, t2⟩ rfl rfl (fun j j0 j1 => by rw [mpF_v, if_neg (by omega)]), x2⟩, ⟨Rs_keep ⟨b3, l3, t3⟩ rfl rfl (fun j j0 j1 => by rw [mpF_v, if_neg (by omega)]), x3⟩⟩), hf⟩
  · rcases hR with ⟨c2, rfl, rfl, rfl⟩ | ⟨c2, rfl, rfl, rfl⟩ | ⟨c2, rfl, rfl, rfl⟩
    · exfalso; (obtain rfl : k = 2 := (by omega)); omega
    · exact ⟨rfl, h5, hf.u 5 (by decide) (by decide)⟩
    · exfalso; (obtain rfl : k = 2 := (by omega)); omega
  · rcases hR with ⟨c2, rfl, rfl, rfl⟩ | ⟨c2, rfl, rfl, rfl⟩ | ⟨c2, rfl, rfl, rfl⟩
    · exfalso; (obtain rfl : k = 2 := (by omega)); omega
    · exfalso; (obtain rfl : k = 2 := (by omega)); omega
    · (obtain rfl : k = 2 := (by omega)); exact ⟨congrArg jI (by rw [← l2]; exact jm_if _), (by rw [← l2, ← jm_if]; have hj := jmin_z s2.2.1 16; exact ⟨⟨Rs_keep ⟨b0, l0, t0⟩ rfl rfl (fun j j0 j1 => by rw [mpF_v, if_neg (by omega)]), x0⟩, ⟨Rs_keep ⟨b1, l1, t1⟩ rfl rfl (fun j j0 j1 => by rw [mpF_v, if_neg (by omega)]), x1⟩, ⟨Rs_m ⟨b2, l2, t2⟩ (by omega) (fun j j0 j1 => h.lt ⟨j0, by omega⟩), x2⟩, ⟨Rs_keep ⟨b3, l3, t3⟩ rfl rfl (fun j j0 j1 => by rw [mpF_v, if_neg (by omega)]), x3⟩⟩), hf⟩
  · rcases hR with ⟨c2, rfl, rfl, rfl⟩ | ⟨c2, rfl, rfl, rfl⟩ | ⟨c2, rfl, rfl, rfl⟩
    · exfalso; (obtain rfl : k = 3 := (by omega)); omega
    · exact ⟨rfl, h5, hf.u 5 (by decide) (by decide)⟩
    · exfalso; (obtain rfl : k = 3 := (by omega)); omega
  · rcases hR with ⟨c2, rfl, rfl, rfl⟩ | ⟨c2, rfl, rfl, rfl⟩ | ⟨c2, rfl, rfl, rfl⟩
    · exfalso; (obtain rfl : k = 3 := (by omega)); omega
    · exfalso; (obtain rfl : k = 3 := (by omega)); omega
    · (obtain rfl : k = 3 := (by omega)); exact ⟨congrArg jI (by rw [← l3]; exact jm_if _), (by rw [← l3, ← jm_if]; have hj := jmin_z s3.2.1 16; exact ⟨⟨Rs_keep ⟨b0, l0, t0⟩ rfl rfl (fun j j0 j1 => by rw [mpF_v, if_neg (by omega)]), x0⟩, ⟨Rs_keep ⟨b1, l1, t1⟩ rfl rfl (fun j j0 j1 => by rw [mpF_v, if_neg (by omega)]), x1⟩, ⟨Rs_keep ⟨b2, l2, t2⟩ rfl rfl (fun j j0 j1 => by rw [mpF_v, if_neg (by omega)]), x2⟩, ⟨Rs_m ⟨b3, l3, t3⟩ (by omega) (fun j j0 j1 => h.lt ⟨j0, by omega⟩), x3⟩⟩), hf⟩
set_option maxHeartbeats 4000000 in
theorem pu_copy {w : Int → Int} {wd : WT} {fd fe bt lg : Int → Int} {ce : Int → Int64} {s0 s1 s2 s3 : Int × Int × (Int → Int64)} {k x t y n : Int} {rC rR : Int32} {fd2 : Int → Int} {s02 : Int × Int × (Int → Int64)} {s12 : Int × Int × (Int → Int64)} {s22 : Int × Int × (Int → Int64)} {s32 : Int × Int × (Int → Int64)} {fe2 : Int → Int} {ce2 : Int → Int64} {bw2 : Int → Int64} (h : J1 w wd) (hf : J2 fd fe) (h5 : J5 bt lg ce s0 s1 s2 s3) (hC : ((¬ ((0 ≤ k ∧ k ≤ 3) ∧ 0 ≤ t ∧ t ≤ 3)) ∧ rC = jI (-1000000001) ∧ fd2 = uI fd 0 (fd 0 + 1) ∧ s02 = s0 ∧ s12 = s1 ∧ s22 = s2 ∧ s32 = s3) ∨ (((k = 0 ∧ t = 0) ∧ (s0.1 = 0 ∨ s0.1 = 0)) ∧ rC = jI (-1000000006) ∧ fd2 = uI fd 5 (fd 5 + 1) ∧ s02 = s0 ∧ s12 = s1 ∧ s22 = s2 ∧ s32 = s3) ∨ ((((k = 0 ∧ t = 0) ∧ ¬ (s0.1 = 0 ∨ s0.1 = 0)) ∧ s0.1 ≠ s0.1) ∧ rC = jI (-1000000003) ∧ fd2 = uI fd 2 (fd 2 + 1) ∧ s02 = s0 ∧ s12 = s1 ∧ s22 = s2 ∧ s32 = s3) ∨ ((((k = 0 ∧ t = 0) ∧ ¬ (s0.1 = 0 ∨ s0.1 = 0) ∧ s0.1 = s0.1) ∧ ¬ ((0 ≤ x ∧ 0 ≤ n ∧ n ≤ s0.2.1 - x) ∧ 0 ≤ y ∧ 0 ≤ n ∧ n ≤ s0.2.1 - y)) ∧ rC = jI (-1000000001) ∧ fd2 = uI fd 0 (fd 0 + 1) ∧ s02 = s0 ∧ s12 = s1 ∧ s22 = s2 ∧ s32 = s3) ∨ ((((k = 0 ∧ t = 0) ∧ ¬ (s0.1 = 0 ∨ s0.1 = 0) ∧ s0.1 = s0.1) ∧ ((0 ≤ x ∧ 0 ≤ n ∧ n ≤ s0.2.1 - x) ∧ 0 ≤ y ∧ 0 ≤ n ∧ n ≤ s0.2.1 - y)) ∧ rC = jI n ∧ fd2 = fd ∧ s02 = (s0.1, s0.2.1, cyS s0.2.2 s0.2.2 x y n) ∧ s12 = s1 ∧ s22 = s2 ∧ s32 = s3) ∨ (((k = 0 ∧ t = 1) ∧ (s0.1 = 0 ∨ s1.1 = 0)) ∧ rC = jI (-1000000006) ∧ fd2 = uI fd 5 (fd 5 + 1) ∧ s02 = s0 ∧ s12 = s1 ∧ s22 = s2 ∧ s32 = s3) ∨ ((((k = 0 ∧ t = 1) ∧ ¬ (s0.1 = 0 ∨ s1.1 = 0)) ∧ s0.1 ≠ s1.1) ∧ rC = jI (-1000000003) ∧ fd2 = uI fd 2 (fd 2 + 1) ∧ s02 = s0 ∧ s12 = s1 ∧ s22 = s2 ∧ s32 = s3) ∨ ((((k = 0 ∧ t = 1) ∧ ¬ (s0.1 = 0 ∨ s1.1 = 0) ∧ s0.1 = s1.1) ∧ ¬ ((0 ≤ x ∧ 0 ≤ n ∧ n ≤ s0.2.1 - x) ∧ 0 ≤ y ∧ 0 ≤ n ∧ n ≤ s1.2.1 - y)) ∧ rC = jI (-1000000001) ∧ fd2 = uI fd 0 (fd 0 + 1) ∧ s02 = s0 ∧ s12 = s1 ∧ s22 = s2 ∧ s32 = s3) ∨ ((((k = 0 ∧ t = 1) ∧ ¬ (s0.1 = 0 ∨ s1.1 = 0) ∧ s0.1 = s1.1) ∧ ((0 ≤ x ∧ 0 ≤ n ∧ n ≤ s0.2.1 - x) ∧ 0 ≤ y ∧ 0 ≤ n ∧ n ≤ s1.2.1 - y)) ∧ rC = jI n ∧ fd2 = fd ∧ s02 = s0 ∧ s12 = (s1.1, s1.2.1, cyS s0.2.2 s1.2.2 x y n) ∧ s22 = s2 ∧ s32 = s3) ∨ (((k = 0 ∧ t = 2) ∧ (s0.1 = 0 ∨ s2.1 = 0)) ∧ rC = jI (-1000000006) ∧ fd2 = uI fd 5 (fd 5 + 1) ∧ s02 = s0 ∧ s12 = s1 ∧ s22 = s2 ∧ s32 = s3) ∨ ((((k = 0 ∧ t = 2) ∧ ¬ (s0.1 = 0 ∨ s2.1 = 0)) ∧ s0.1 ≠ s2.1) ∧ rC = jI (-1000000003) ∧ fd2 = uI fd 2 (fd 2 + 1) ∧ s02 = s0 ∧ s12 = s1 ∧ s22 = s2 ∧ s32 = s3) ∨ ((((k = 0 ∧ t = 2) ∧ ¬ (s0.1 = 0 ∨ s2.1 = 0) ∧ s0.1 = s2.1) ∧ ¬ ((0 ≤ x ∧ 0 ≤ n ∧ n ≤ s0.2.1 - x) ∧ 0 ≤ y ∧ 0 ≤ n ∧ n ≤ s2.2.1 - y)) ∧ rC = jI (-1000000001) ∧ fd2 = uI fd 0 (fd 0 + 1) ∧ s02 = s0 ∧ s12 = s1 ∧ s22 = s2 ∧ s32 = s3) ∨ ((((k = 0 ∧ t = 2) ∧ ¬ (s0.1 = 0 ∨ s2.1 = 0) ∧ s0.1 = s2.1) ∧ ((0 ≤ x ∧ 0 ≤ n ∧ n ≤ s0.2.1 - x) ∧ 0 ≤ y ∧ 0 ≤ n ∧ n ≤ s2.2.1 - y)) ∧ rC = jI n ∧ fd2 = fd ∧ s02 = s0 ∧ s12 = s1 ∧ s22 = (s2.1, s2.2.1, cyS s0.2.2 s2.2.2 x y n) ∧ s32 = s3) ∨ (((k = 0 ∧ t = 3) ∧ (s0.1 = 0 ∨ s3.1 = 0)) ∧ rC = jI (-1000000006) ∧ fd2 = uI fd 5 (fd 5 + 1) ∧ s02 = s0 ∧ s12 = s1 ∧ s22 = s2 ∧ s32 = s3) ∨ ((((k = 0 ∧ t = 3) ∧ ¬ (s0.1 = 0 ∨ s3.1 = 0)) ∧ s0.1 ≠ s3.1) ∧ rC = jI (-1000000003) ∧ fd2 = uI fd 2 (fd 2 + 1) ∧ s02 = s0 ∧ s12 = s1 ∧ s22 = s2 ∧ s32 = s3) ∨ ((((k = 0 ∧ t = 3) ∧ ¬ (s0.1 = 0 ∨ s3.1 = 0) ∧ s0.1 = s3.1) ∧ ¬ ((0 ≤ x ∧ 0 ≤ n ∧ n ≤ s0.2.1 - x) ∧ 0 ≤ y ∧ 0 ≤ n ∧ n ≤ s3.2.1 - y)) ∧ rC = jI (-1000000001) ∧ fd2 = uI fd 0 (fd 0 + 1) ∧ s02 = s0 ∧ s12 = s1 ∧ s22 = s2 ∧ s32 = s3) ∨ ((((k = 0 ∧ t = 3) ∧ ¬ (s0.1 = 0 ∨ s3.1 = 0) ∧ s0.1 = s3.1) ∧ ((0 ≤ x ∧ 0 ≤ n ∧ n ≤ s0.2.1 - x) ∧ 0 ≤ y ∧ 0 ≤ n ∧ n ≤ s3.2.1 - y)) ∧ rC = jI n ∧ fd2 = fd ∧ s02 = s0 ∧ s12 = s1 ∧ s22 = s2 ∧ s32 = (s3.1, s3.2.1, cyS s0.2.2 s3.2.2 x y n)) ∨ (((k = 1 ∧ t = 0) ∧ (s1.1 = 0 ∨ s0.1 = 0)) ∧ rC = jI (-1000000006) ∧ fd2 = uI fd 5 (fd 5 + 1) ∧ s02 = s0 ∧ s12 = s1 ∧ s22 = s2 ∧ s32 = s3) ∨ ((((k = 1 ∧ t = 0) ∧ ¬ (s1.1 = 0 ∨ s0.1 = 0)) ∧ s1.1 ≠ s0.1) ∧ rC = jI (-1000000003) ∧ fd2 = uI fd 2 (fd 2 + 1) ∧ s02 = s0 ∧ s12 = s1 ∧ s22 = s2 ∧ s32 = s3) ∨ ((((k = 1 ∧ t = 0) ∧ ¬ (s1.1 = 0 ∨ s0.1 = 0) ∧ s1.1 = s0.1) ∧ ¬ ((0 ≤ x ∧ 0 ≤ n ∧ n ≤ s1.2.1 - x) ∧ 0 ≤ y ∧ 0 ≤ n ∧ n ≤ s0.2.1 - y)) ∧ rC = jI (-1000000001) ∧ fd2 = uI fd 0 (fd 0 + 1) ∧ s02 = s0 ∧ s12 = s1 ∧ s22 = s2 ∧ s32 = s3) ∨ ((((k = 1 ∧ t = 0) ∧ ¬ (s1.1 = 0 ∨ s0.1 = 0) ∧ s1.1 = s0.1) ∧ ((0 ≤ x ∧ 0 ≤ n ∧ n ≤ s1.2.1 - x) ∧ 0 ≤ y ∧ 0 ≤ n ∧ n ≤ s0.2.1 - y)) ∧ rC = jI n ∧ fd2 = fd ∧ s02 = (s0.1, s0.2.1, cyS s1.2.2 s0.2.2 x y n) ∧ s12 = s1 ∧ s22 = s2 ∧ s32 = s3) ∨ (((k = 1 ∧ t = 1) ∧ (s1.1 = 0 ∨ s1.1 = 0)) ∧ rC = jI (-1000000006) ∧ fd2 = uI fd 5 (fd 5 + 1) ∧ s02 = s0 ∧ s12 = s1 ∧ s22 = s2 ∧ s32 = s3) ∨ ((((k = 1 ∧ t = 1) ∧ ¬ (s1.1 = 0 ∨ s1.1 = 0)) ∧ s1.1 ≠ s1.1) ∧ rC = jI (-1000000003) ∧ fd2 = uI fd 2 (fd 2 + 1) ∧ s02 = s0 ∧ s12 = s1 ∧ s22 = s2 ∧ s32 = s3) ∨ ((((k = 1 ∧ t = 1) ∧ ¬ (s1.1 = 0 ∨ s1.1 = 0) ∧ s1.1 = s1.1) ∧ ¬ ((0 ≤ x ∧ 0 ≤ n ∧ n ≤ s1.2.1 - x) ∧ 0 ≤ y ∧ 0 ≤ n ∧ n ≤ s1.2.1 - y)) ∧ rC = jI (-1000000001) ∧ fd2 = uI fd 0 (fd 0 + 1) ∧ s02 = s0 ∧ s12 = s1 ∧ s22 = s2 ∧ s32 = s3) ∨ ((((k = 1 ∧ t = 1) ∧ ¬ (s1.1 = 0 ∨ s1.1 = 0) ∧ s1.1 = s1.1) ∧ ((0 ≤ x ∧ 0 ≤ n ∧ n ≤ s1.2.1 - x) ∧ 0 ≤ y ∧ 0 ≤ n ∧ n ≤ s1.2.1 - y)) ∧ rC = jI n ∧ fd2 = fd ∧ s02 = s0 ∧ s12 = (s1.1, s1.2.1, cyS s1.2.2 s1.2.2 x y n) ∧ s22 = s2 ∧ s32 = s3) ∨ (((k = 1 ∧ t = 2) ∧ (s1.1 = 0 ∨ s2.1 = 0)) ∧ rC = jI (-1000000006) ∧ fd2 = uI fd 5 (fd 5 + 1) ∧ s02 = s0 ∧ s12 = s1 ∧ s22 = s2 ∧ s32 = s3) ∨ ((((k = 1 ∧ t = 2) ∧ ¬ (s1.1 = 0 ∨ s2.1 = 0)) ∧ s1.1 ≠ s2.1) ∧ rC = jI (-1000000003) ∧ fd2 = uI fd 2 (fd 2 + 1) ∧ s02 = s0 ∧ s12 = s1 ∧ s22 = s2 ∧ s32 = s3) ∨ ((((k = 1 ∧ t = 2) ∧ ¬ (s1.1 = 0 ∨ s2.1 = 0) ∧ s1.1 = s2.1) ∧ ¬ ((0 ≤ x ∧ 0 ≤ n ∧ n ≤ s1.2.1 - x) ∧ 0 ≤ y ∧ 0 ≤ n ∧ n ≤ s2.2.1 - y)) ∧ rC = jI (-1000000001) ∧ fd2 = uI fd 0 (fd 0 + 1) ∧ s02 = s0 ∧ s12 = s1 ∧ s22 = s2 ∧ s32 = s3) ∨ ((((k = 1 ∧ t = 2) ∧ ¬ (s1.1 = 0 ∨ s2.1 = 0) ∧ s1.1 = s2.1) ∧ ((0 ≤ x ∧ 0 ≤ n ∧ n ≤ s1.2.1 - x) ∧ 0 ≤ y ∧ 0 ≤ n ∧ n ≤ s2.2.1 - y)) ∧ rC = jI n ∧ fd2 = fd ∧ s02 = s0 ∧ s12 = s1 ∧ s22 = (s2.1, s2.2.1, cyS s1.2.2 s2.2.2 x y n) ∧ s32 = s3) ∨ (((k = 1 ∧ t = 3) ∧ (s1.1 = 0 ∨ s3.1 = 0)) ∧ rC = jI (-1000000006) ∧ fd2 = uI fd 5 (fd 5 + 1) ∧ s02 = s0 ∧ s12 = s1 ∧ s22 = s2 ∧ s32 = s3) ∨ ((((k = 1 ∧ t = 3) ∧ ¬ (s1.1 = 0 ∨ s3.1 = 0)) ∧ s1.1 ≠ s3.1) ∧ rC = jI (-1000000003) ∧ fd2 = uI fd 2 (fd 2 + 1) ∧ s02 = s0 ∧ s12 = s1 ∧ s22 = s2 ∧ s32 = s3) ∨ ((((k = 1 ∧ t = 3) ∧ ¬ (s1.1 = 0 ∨ s3.1 = 0) ∧ s1.1 = s3.1) ∧ ¬ ((0 ≤ x ∧ 0 ≤ n ∧ n ≤ s1.2.1 - x) ∧ 0 ≤ y ∧ 0 ≤ n ∧ n ≤ s3.2.1 - y)) ∧ rC = jI (-1000000001) ∧ fd2 = uI fd 0 (fd 0 + 1) ∧ s02 = s0 ∧ s12 = s1 ∧ s22 = s2 ∧ s32 = s3) ∨ ((((k = 1 ∧ t = 3) ∧ ¬ (s1.1 = 0 ∨ s3.1 = 0) ∧ s1.1 = s3.1) ∧ ((0 ≤ x ∧ 0 ≤ n ∧ n ≤ s1.2.1 - x) ∧ 0 ≤ y ∧ 0 ≤ n ∧ n ≤ s3.2.1 - y)) ∧ rC = jI n ∧ fd2 = fd ∧ s02 = s0 ∧ s12 = s1 ∧ s22 = s2 ∧ s32 = (s3.1, s3.2.1, cyS s1.2.2 s3.2.2 x y n)) ∨ (((k = 2 ∧ t = 0) ∧ (s2.1 = 0 ∨ s0.1 = 0)) ∧ rC = jI (-1000000006) ∧ fd2 = uI fd 5 (fd 5 + 1) ∧ s02 = s0 ∧ s12 = s1 ∧ s22 = s2 ∧ s32 = s3) ∨ ((((k = 2 ∧ t = 0) ∧ ¬ (s2.1 = 0 ∨ s0.1 = 0)) ∧ s2.1 ≠ s0.1) ∧ rC = jI (-1000000003) ∧ fd2 = uI fd 2 (fd 2 + 1) ∧ s02 = s0 ∧ s12 = s1 ∧ s22 = s2 ∧ s32 = s3) ∨ ((((k = 2 ∧ t = 0) ∧ ¬ (s2.1 = 0 ∨ s0.1 = 0) ∧ s2.1 = s0.1) ∧ ¬ ((0 ≤ x ∧ 0 ≤ n ∧ n ≤ s2.2.1 - x) ∧ 0 ≤ y ∧ 0 ≤ n ∧ n ≤ s0.2.1 - y)) ∧ rC = jI (-1000000001) ∧ fd2 = uI fd 0 (fd 0 + 1) ∧ s02 = s0 ∧ s12 = s1 ∧ s22 = s2 ∧ s32 = s3) ∨ ((((k = 2 ∧ t = 0) ∧ ¬ (s2.1 = 0 ∨ s0.1 = 0) ∧ s2.1 = s0.1) ∧ ((0 ≤ x ∧ 0 ≤ n ∧ n ≤ s2.2.1 - x) ∧ 0 ≤ y ∧ 0 ≤ n ∧ n ≤ s0.2.1 - y)) ∧ rC = jI n ∧ fd2 = fd ∧ s02 = (s0.1, s0.2.1, cyS s2.2.2 s0.2.2 x y n) ∧ s12 = s1 ∧ s22 = s2 ∧ s32 = s3) ∨ (((k = 2 ∧ t = 1) ∧ (s2.1 = 0 ∨ s1.1 = 0)) ∧ rC = jI (-1000000006) ∧ fd2 = uI fd 5 (fd 5 + 1) ∧ s02 = s0 ∧ s12 = s1 ∧ s22 = s2 ∧ s32 = s3) ∨ ((((k = 2 ∧ t = 1) ∧ ¬ (s2.1 = 0 ∨ s1.1 = 0)) ∧ s2.1 ≠ s1.1) ∧ rC = jI (-1000000003) ∧ fd2 = uI fd 2 (fd 2 + 1) ∧ s02 = s0 ∧ s12 = s1 ∧ s22 = s2 ∧ s32 = s3) ∨ ((((k = 2 ∧ t = 1) ∧ ¬ (s2.1 = 0 ∨ s1.1 = 0) ∧ s2.1 = s1.1) ∧ ¬ ((0 ≤ x ∧ 0 ≤ n ∧ n ≤ s2.2.1 - x) ∧ 0 ≤ y ∧ 0 ≤ n ∧ n ≤ s1.2.1 - y)) ∧ rC = jI (-1000000001) ∧ fd2 = uI fd 0 (fd 0 + 1) ∧ s02 = s0 ∧ s12 = s1 ∧ s22 = s2 ∧ s32 = s3) ∨ ((((k = 2 ∧ t = 1) ∧ ¬ (s2.1 = 0 ∨ s1.1 = 0) ∧ s2.1 = s1.1) ∧ ((0 ≤ x ∧ 0 ≤ n ∧ n ≤ s2.2.1 - x) ∧ 0 ≤ y ∧ 0 ≤ n ∧ n ≤ s1.2.1 - y)) ∧ rC = jI n ∧ fd2 = fd ∧ s02 = s0 ∧ s12 = (s1.1, s1.2.1, cyS s2.2.2 s1.2.2 x y n) ∧ s22 = s2 ∧ s32 = s3) ∨ (((k = 2 ∧ t = 2) ∧ (s2.1 = 0 ∨ s2.1 = 0)) ∧ rC = jI (-1000000006) ∧ fd2 = uI fd 5 (fd 5 + 1) ∧ s02 = s0 ∧ s12 = s1 ∧ s22 = s2 ∧ s32 = s3) ∨ ((((k = 2 ∧ t = 2) ∧ ¬ (s2.1 = 0 ∨ s2.1 = 0)) ∧ s2.1 ≠ s2.1) ∧ rC = jI (-1000000003) ∧ fd2 = uI fd 2 (fd 2 + 1) ∧ s02 = s0 ∧ s12 = s1 ∧ s22 = s2 ∧ s32 = s3) ∨ ((((k = 2 ∧ t = 2) ∧ ¬ (s2.1 = 0 ∨ s2.1 = 0) ∧ s2.1 = s2.1) ∧ ¬ ((0 ≤ x ∧ 0 ≤ n ∧ n ≤ s2.2.1 - x) ∧ 0 ≤ y ∧ 0 ≤ n ∧ n ≤ s2.2.1 - y)) ∧ rC = jI (-1000000001) ∧ fd2 = uI fd 0 (fd 0 + 1) ∧ s02 = s0 ∧ s12 = s1 ∧ s22 = s2 ∧ s32 = s3) ∨ ((((k = 2 ∧ t = 2) ∧ ¬ (s2.1 = 0 ∨ s2.1 = 0) ∧ s2.1 = s2.1) ∧ ((0 ≤ x ∧ 0 ≤ n ∧ n ≤ s2.2.1 - x) ∧ 0 ≤ y ∧ 0 ≤ n ∧ n ≤ s2.2.1 - y)) ∧ rC = jI n ∧ fd2 = fd ∧ s02 = s0 ∧ s12 = s1 ∧ s22 = (s2.1, s2.2.1, cyS s2.2.2 s2.2.2 x y n) ∧ s32 = s3) ∨ (((k = 2 ∧ t = 3) ∧ (s2.1 = 0 ∨ s3.1 = 0)) ∧ rC = jI (-1000000006) ∧ fd2 = uI fd 5 (fd 5 + 1) ∧ s02 = s0 ∧ s12 = s1 ∧ s22 = s2 ∧ s32 = s3) ∨ ((((k = 2 ∧ t = 3) ∧ ¬ (s2.1 = 0 ∨ s3.1 = 0)) ∧ s2.1 ≠ s3.1) ∧ rC = jI (-1000000003) ∧ fd2 = uI fd 2 (fd 2 + 1) ∧ s02 = s0 ∧ s12 = s1 ∧ s22 = s2 ∧ s32 = s3) ∨ ((((k = 2 ∧ t = 3) ∧ ¬ (s2.1 = 0 ∨ s3.1 = 0) ∧ s2.1 = s3.1) ∧ ¬ ((0 ≤ x ∧ 0 ≤ n ∧ n ≤ s2.2.1 - x) ∧ 0 ≤ y ∧ 0 ≤ n ∧ n ≤ s3.2.1 - y)) ∧ rC = jI (-1000000001) ∧ fd2 = uI fd 0 (fd 0 + 1) ∧ s02 = s0 ∧ s12 = s1 ∧ s22 = s2 ∧ s32 = s3) ∨ ((((k = 2 ∧ t = 3) ∧ ¬ (s2.1 = 0 ∨ s3.1 = 0) ∧ s2.1 = s3.1) ∧ ((0 ≤ x ∧ 0 ≤ n ∧ n ≤ s2.2.1 - x) ∧ 0 ≤ y ∧ 0 ≤ n ∧ n ≤ s3.2.1 - y)) ∧ rC = jI n ∧ fd2 = fd ∧ s02 = s0 ∧ s12 = s1 ∧ s22 = s2 ∧ s32 = (s3.1, s3.2.1, cyS s2.2.2 s3.2.2 x y n)) ∨ (((k = 3 ∧ t = 0) ∧ (s3.1 = 0 ∨ s0.1 = 0)) ∧ rC = jI (-1000000006) ∧ fd2 = uI fd 5 (fd 5 + 1) ∧ s02 = s0 ∧ s12 = s1 ∧ s22 = s2 ∧ s32 = s3) ∨ ((((k = 3 ∧ t = 0) ∧ ¬ (s3.1 = 0 ∨ s0.1 = 0)) ∧ s3.1 ≠ s0.1) ∧ rC = jI (-1000000003) ∧ fd2 = uI fd 2 (fd 2 + 1) ∧ s02 = s0 ∧ s12 = s1 ∧ s22 = s2 ∧ s32 = s3) ∨ ((((k = 3 ∧ t = 0) ∧ ¬ (s3.1 = 0 ∨ s0.1 = 0) ∧ s3.1 = s0.1) ∧ ¬ ((0 ≤ x ∧ 0 ≤ n ∧ n ≤ s3.2.1 - x) ∧ 0 ≤ y ∧ 0 ≤ n ∧ n ≤ s0.2.1 - y)) ∧ rC = jI (-1000000001) ∧ fd2 = uI fd 0 (fd 0 + 1) ∧ s02 = s0 ∧ s12 = s1 ∧ s22 = s2 ∧ s32 = s3) ∨ ((((k = 3 ∧ t = 0) ∧ ¬ (s3.1 = 0 ∨ s0.1 = 0) ∧ s3.1 = s0.1) ∧ ((0 ≤ x ∧ 0 ≤ n ∧ n ≤ s3.2.1 - x) ∧ 0 ≤ y ∧ 0 ≤ n ∧ n ≤ s0.2.1 - y)) ∧ rC = jI n ∧ fd2 = fd ∧ s02 = (s0.1, s0.2.1, cyS s3.2.2 s0.2.2 x y n) ∧ s12 = s1 ∧ s22 = s2 ∧ s32 = s3) ∨ (((k = 3 ∧ t = 1) ∧ (s3.1 = 0 ∨ s1.1 = 0)) ∧ rC = jI (-1000000006) ∧ fd2 = uI fd 5 (fd 5 + 1) ∧ s02 = s0 ∧ s12 = s1 ∧ s22 = s2 ∧ s32 = s3) ∨ ((((k = 3 ∧ t = 1) ∧ ¬ (s3.1 = 0 ∨ s1.1 = 0)) ∧ s3.1 ≠ s1.1) ∧ rC = jI (-1000000003) ∧ fd2 = uI fd 2 (fd 2 + 1) ∧ s02 = s0 ∧ s12 = s1 ∧ s22 = s2 ∧ s32 = s3) ∨ ((((k = 3 ∧ t = 1) ∧ ¬ (s3.1 = 0 ∨ s1.1 = 0) ∧ s3.1 = s1.1) ∧ ¬ ((0 ≤ x ∧ 0 ≤ n ∧ n ≤ s3.2.1 - x) ∧ 0 ≤ y ∧ 0 ≤ n ∧ n ≤ s1.2.1 - y)) ∧ rC = jI (-1000000001) ∧ fd2 = uI fd 0 (fd 0 + 1) ∧ s02 = s0 ∧ s12 = s1 ∧ s22 = s2 ∧ s32 = s3) ∨ ((((k = 3 ∧ t = 1) ∧ ¬ (s3.1 = 0 ∨ s1.1 = 0) ∧ s3.1 = s1.1) ∧ ((0 ≤ x ∧ 0 ≤ n ∧ n ≤ s3.2.1 - x) ∧ 0 ≤ y ∧ 0 ≤ n ∧ n ≤ s1.2.1 - y)) ∧ rC = jI n ∧ fd2 = fd ∧ s02 = s0 ∧ s12 = (s1.1, s1.2.1, cyS s3.2.2 s1.2.2 x y n) ∧ s22 = s2 ∧ s32 = s3) ∨ (((k = 3 ∧ t = 2) ∧ (s3.1 = 0 ∨ s2.1 = 0)) ∧ rC = jI (-1000000006) ∧ fd2 = uI fd 5 (fd 5 + 1) ∧ s02 = s0 ∧ s12 = s1 ∧ s22 = s2 ∧ s32 = s3) ∨ ((((k = 3 ∧ t = 2) ∧ ¬ (s3.1 = 0 ∨ s2.1 = 0)) ∧ s3.1 ≠ s2.1) ∧ rC = jI (-1000000003) ∧ fd2 = uI fd 2 (fd 2 + 1) ∧ s02 = s0 ∧ s12 = s1 ∧ s22 = s2 ∧ s32 = s3) ∨ ((((k = 3 ∧ t = 2) ∧ ¬ (s3.1 = 0 ∨ s2.1 = 0) ∧ s3.1 = s2.1) ∧ ¬ ((0 ≤ x ∧ 0 ≤ n ∧ n ≤ s3.2.1 - x) ∧ 0 ≤ y ∧ 0 ≤ n ∧ n ≤ s2.2.1 - y)) ∧ rC = jI (-1000000001) ∧ fd2 = uI fd 0 (fd 0 + 1) ∧ s02 = s0 ∧ s12 = s1 ∧ s22 = s2 ∧ s32 = s3) ∨ ((((k = 3 ∧ t = 2) ∧ ¬ (s3.1 = 0 ∨ s2.1 = 0) ∧ s3.1 = s2.1) ∧ ((0 ≤ x ∧ 0 ≤ n ∧ n ≤ s3.2.1 - x) ∧ 0 ≤ y ∧ 0 ≤ n ∧ n ≤ s2.2.1 - y)) ∧ rC = jI n ∧ fd2 = fd ∧ s02 = s0 ∧ s12 = s1 ∧ s22 = (s2.1, s2.2.1, cyS s3.2.2 s2.2.2 x y n) ∧ s32 = s3) ∨ (((k = 3 ∧ t = 3) ∧ (s3.1 = 0 ∨ s3.1 = 0)) ∧ rC = jI (-1000000006) ∧ fd2 = uI fd 5 (fd 5 + 1) ∧ s02 = s0 ∧ s12 = s1 ∧ s22 = s2 ∧ s32 = s3) ∨ ((((k = 3 ∧ t = 3) ∧ ¬ (s3.1 = 0 ∨ s3.1 = 0)) ∧ s3.1 ≠ s3.1) ∧ rC = jI (-1000000003) ∧ fd2 = uI fd 2 (fd 2 + 1) ∧ s02 = s0 ∧ s12 = s1 ∧ s22 = s2 ∧ s32 = s3) ∨ ((((k = 3 ∧ t = 3) ∧ ¬ (s3.1 = 0 ∨ s3.1 = 0) ∧ s3.1 = s3.1) ∧ ¬ ((0 ≤ x ∧ 0 ≤ n ∧ n ≤ s3.2.1 - x) ∧ 0 ≤ y ∧ 0 ≤ n ∧ n ≤ s3.2.1 - y)) ∧ rC = jI (-1000000001) ∧ fd2 = uI fd 0 (fd 0 + 1) ∧ s02 = s0 ∧ s12 = s1 ∧ s22 = s2 ∧ s32 = s3) ∨ ((((k = 3 ∧ t = 3) ∧ ¬ (s3.1 = 0 ∨ s3.1 = 0) ∧ s3.1 = s3.1) ∧ ((0 ≤ x ∧ 0 ≤ n ∧ n ≤ s3.2.1 - x) ∧ 0 ≤ y ∧ 0 ≤ n ∧ n ≤ s3.2.1 - y)) ∧ rC = jI n ∧ fd2 = fd ∧ s02 = s0 ∧ s12 = s1 ∧ s22 = s2 ∧ s32 = (s3.1, s3.2.1, cyS s3.2.2 s3.2.2 x y n))) (hR : ((¬ ((0 ≤ k ∧ k ≤ 3) ∧ 0 ≤ t ∧ t ≤ 3)) ∧ rR = jI (-1000000001) ∧ fe2 = uI fe 0 (fe 0 + 1) ∧ ce2 = ce) ∨ ((((0 ≤ k ∧ k ≤ 3) ∧ 0 ≤ t ∧ t ≤ 3) ∧ (bt k = 0 ∨ bt t = 0)) ∧ rR = jI (-1000000006) ∧ fe2 = uI fe 5 (fe 5 + 1) ∧ ce2 = ce) ∨ (((((0 ≤ k ∧ k ≤ 3) ∧ 0 ≤ t ∧ t ≤ 3) ∧ bt k ≠ 0 ∧ bt t ≠ 0) ∧ bt k ≠ bt t) ∧ rR = jI (-1000000003) ∧ fe2 = uI fe 2 (fe 2 + 1) ∧ ce2 = ce) ∨ (((((0 ≤ k ∧ k ≤ 3) ∧ 0 ≤ t ∧ t ≤ 3) ∧ bt k ≠ 0 ∧ bt t ≠ 0 ∧ bt k = bt t) ∧ ¬ (0 ≤ n ∧ 0 ≤ x ∧ 0 ≤ y ∧ x ≤ lg k - n ∧ y ≤ lg t - n)) ∧ rR = jI (-1000000001) ∧ fe2 = uI fe 0 (fe 0 + 1) ∧ ce2 = ce) ∨ (((((0 ≤ k ∧ k ≤ 3) ∧ 0 ≤ t ∧ t ≤ 3) ∧ bt k ≠ 0 ∧ bt t ≠ 0 ∧ bt k = bt t) ∧ (0 ≤ n ∧ 0 ≤ x ∧ 0 ≤ y ∧ x ≤ lg k - n ∧ y ≤ lg t - n)) ∧ rR = jI n ∧ fe2 = fe ∧ ce2 = cyF ce (40 * k + x) (40 * t + y) n.toNat)) : rC = rR ∧ J5 bt lg ce2 s02 s12 s22 s32 ∧ J2 fd2 fe2 := by
  obtain ⟨⟨⟨e0, e1, e2⟩, -⟩, hw, hc, h9, -⟩ := id h
  obtain ⟨⟨⟨b0, l0, t0⟩, x0⟩, ⟨⟨b1, l1, t1⟩, x1⟩, ⟨⟨b2, l2, t2⟩, x2⟩, ⟨⟨b3, l3, t3⟩, x3⟩⟩ := id h5
  obtain ⟨z0, y0⟩ := id x0
  obtain ⟨z1, y1⟩ := id x1
  obtain ⟨z2, y2⟩ := id x2
  obtain ⟨z3, y3⟩ := id x3
  have m1 := hw.many
  rcases hC with ⟨c1, rfl, rfl, rfl, rfl, rfl, rfl⟩ | ⟨c1, rfl, rfl, rfl, rfl, rfl, rfl⟩ | ⟨c1, rfl, rfl, rfl, rfl, rfl, rfl⟩ | ⟨c1, rfl, rfl, rfl, rfl, rfl, rfl⟩ | ⟨c1, rfl, rfl, rfl, rfl, rfl, rfl⟩ | ⟨c1, rfl, rfl, rfl, rfl, rfl, rfl⟩ | ⟨c1, rfl, rfl, rfl, rfl, rfl, rfl⟩ | ⟨c1, rfl, rfl, rfl, rfl, rfl, rfl⟩ | ⟨c1, rfl, rfl, rfl, rfl, rfl, rfl⟩ | ⟨c1, rfl, rfl, rfl, rfl, rfl, rfl⟩ | ⟨c1, rfl, rfl, rfl, rfl, rfl, rfl⟩ | ⟨c1, rfl, rfl, rfl, rfl, rfl, rfl⟩ | ⟨c1, rfl, rfl, rfl, rfl, rfl, rfl⟩ | ⟨c1, rfl, rfl, rfl, rfl, rfl, rfl⟩ | ⟨c1, rfl, rfl, rfl, rfl, rfl, rfl⟩ | ⟨c1, rfl, rfl, rfl, rfl, rfl, rfl⟩ | ⟨c1, rfl, rfl, rfl, rfl, rfl, rfl⟩ | ⟨c1, rfl, rfl, rfl, rfl, rfl, rfl⟩ | ⟨c1, rfl, rfl, rfl, rfl, rfl, rfl⟩ | ⟨c1, rfl, rfl, rfl, rfl, rfl, rfl⟩ | ⟨c1, rfl, rfl, rfl, rfl, rfl, rfl⟩ | ⟨c1, rfl, rfl, rfl, rfl, rfl, rfl⟩ | ⟨c1, rfl, rfl, rfl, rfl, rfl, rfl⟩ | ⟨c1, rfl, rfl, rfl, rfl, rfl, rfl⟩ | ⟨c1, rfl, rfl, rfl, rfl, rfl, rfl⟩ | ⟨c1, rfl, rfl, rfl, rfl, rfl, rfl⟩ | ⟨c1, rfl, rfl, rfl, rfl, rfl, rfl⟩ | ⟨c1, rfl, rfl, rfl, rfl, rfl, rfl⟩ | ⟨c1, rfl, rfl, rfl, rfl, rfl, rfl⟩ | ⟨c1, rfl, rfl, rfl, rfl, rfl, rfl⟩ | ⟨c1, rfl, rfl, rfl, rfl, rfl, rfl⟩ | ⟨c1, rfl, rfl, rfl, rfl, rfl, rfl⟩ | ⟨c1, rfl, rfl, rfl, rfl, rfl, rfl⟩ | ⟨c1, rfl, rfl, rfl, rfl, rfl, rfl⟩ | ⟨c1, rfl, rfl, rfl, rfl, rfl, rfl⟩ | ⟨c1, rfl, rfl, rfl, rfl, rfl, rfl⟩ | ⟨c1, rfl, rfl, rfl, rfl, rfl, rfl⟩ | ⟨c1, rfl, rfl, rfl, rfl, rfl, rfl⟩ | ⟨c1, rfl, rfl, rfl, rfl, rfl, rfl⟩ | ⟨c1, rfl, rfl, rfl, rfl, rfl, rfl⟩ | ⟨c1, rfl, rfl, rfl, rfl, rfl, rfl⟩ | ⟨c1, rfl, rfl, rfl, rfl, rfl, rfl⟩ | ⟨c1, rfl, rfl, rfl, rfl, rfl, rfl⟩ | ⟨c1, rfl, rfl, rfl, rfl, rfl, rfl⟩ | ⟨c1, rfl, rfl, rfl, rfl, rfl, rfl⟩ | ⟨c1, rfl, rfl, rfl, rfl, rfl, rfl⟩ | ⟨c1, rfl, rfl, rfl, rfl, rfl, rfl⟩ | ⟨c1, rfl, rfl, rfl, rfl, rfl, rfl⟩ | ⟨c1, rfl, rfl, rfl, rfl, rfl, rfl⟩ | ⟨c1, rfl, rfl, rfl, rfl, rfl, rfl⟩ | ⟨c1, rfl, rfl, rfl, rfl, rfl, rfl⟩ | ⟨c1, rfl, rfl, rfl, rfl, rfl, rfl⟩ | ⟨c1, rfl, rfl, rfl, rfl, rfl, rfl⟩ | ⟨c1, rfl, rfl, rfl, rfl, rfl, rfl⟩ | ⟨c1, rfl, rfl, rfl, rfl, rfl, rfl⟩ | ⟨c1, rfl, rfl, rfl, rfl, rfl, rfl⟩ | ⟨c1, rfl, rfl, rfl, rfl, rfl, rfl⟩ | ⟨c1, rfl, rfl, rfl, rfl, rfl, rfl⟩ | ⟨c1, rfl, rfl, rfl, rfl, rfl, rfl⟩ | ⟨c1, rfl, rfl, rfl, rfl, rfl, rfl⟩ | ⟨c1, rfl, rfl, rfl, rfl, rfl, rfl⟩ | ⟨c1, rfl, rfl, rfl, rfl, rfl, rfl⟩ | ⟨c1, rfl, rfl, rfl, rfl, rfl, rfl⟩ | ⟨c1, rfl, rfl, rfl, rfl, rfl, rfl⟩ | ⟨c1, rfl, rfl, rfl, rfl, rfl, rfl⟩
  · rcases hR with ⟨c2, rfl, rfl, rfl⟩ | ⟨c2, rfl, rfl, rfl⟩ | ⟨c2, rfl, rfl, rfl⟩ | ⟨c2, rfl, rfl, rfl⟩ | ⟨c2, rfl, rfl, rfl⟩
    · exact ⟨rfl, h5, hf.u 0 (by decide) (by decide)⟩
    · exfalso; omega
    · exfalso; omega
    · exact ⟨rfl, h5, hf.u 0 (by decide) (by decide)⟩
    · exfalso; omega
  · rcases hR with ⟨c2, rfl, rfl, rfl⟩ | ⟨c2, rfl, rfl, rfl⟩ | ⟨c2, rfl, rfl, rfl⟩ | ⟨c2, rfl, rfl, rfl⟩ | ⟨c2, rfl, rfl, rfl⟩
    · exfalso; (obtain rfl : k = 0 := (by omega)); (obtain rfl : t = 0 := (by omega)); omega
    · exact ⟨rfl, h5, hf.u 5 (by decide) (by decide)⟩
    · exfalso; (obtain rfl : k = 0 := (by omega)); (obtain rfl : t = 0 := (by omega)); omega
    · exfalso; (obtain rfl : k = 0 := (by omega)); (obtain rfl : t = 0 := (by omega)); omega
    · exfalso; (obtain rfl : k = 0 := (by omega)); (obtain rfl : t = 0 := (by omega)); omega
  · rcases hR with ⟨c2, rfl, rfl, rfl⟩ | ⟨c2, rfl, rfl, rfl⟩ | ⟨c2, rfl, rfl, rfl⟩ | ⟨c2, rfl, rfl, rfl⟩ | ⟨c2, rfl, rfl, rfl⟩
    · exfalso; (obtain rfl : k = 0 := (by omega)); (obtain rfl : t = 0 := (by omega)); omega
    · exfalso; (obtain rfl : k = 0 := (by omega)); (obtain rfl : t = 0 := (by omega)); omega
    · exact ⟨rfl, h5, hf.u 2 (by decide) (by decide)⟩
    · exfalso; (obtain rfl : k = 0 := (by omega)); (obtain rfl : t = 0 := (by omega)); omega
    · exfalso; (obtain rfl : k = 0 := (by omega)); (obtain rfl : t = 0 := (by omega)); omega
  · rcases hR with ⟨c2, rfl, rfl, rfl⟩ | ⟨c2, rfl, rfl, rfl⟩ | ⟨c2, rfl, rfl, rfl⟩ | ⟨c2, rfl, rfl, rfl⟩ | ⟨c2, rfl, rfl, rfl⟩
    · exact ⟨rfl, h5, hf.u 0 (by decide) (by decide)⟩
    · exfalso; (obtain rfl : k = 0 := (by omega)); (obtain rfl : t = 0 := (by omega)); omega
    · exfalso; (obtain rfl : k = 0 := (by omega)); (obtain rfl : t = 0 := (by omega)); omega
    · exact ⟨rfl, h5, hf.u 0 (by decide) (by decide)⟩
    · exfalso; (obtain rfl : k = 0 := (by omega)); (obtain rfl : t = 0 := (by omega)); omega
  · rcases hR with ⟨c2, rfl, rfl, rfl⟩ | ⟨c2, rfl, rfl, rfl⟩ | ⟨c2, rfl, rfl, rfl⟩ | ⟨c2, rfl, rfl, rfl⟩ | ⟨c2, rfl, rfl, rfl⟩
    · exfalso; (obtain rfl : k = 0 := (by omega)); (obtain rfl : t = 0 := (by omega)); omega
    · exfalso; (obtain rfl : k = 0 := (by omega)); (obtain rfl : t = 0 := (by omega)); omega
    · exfalso; (obtain rfl : k = 0 := (by omega)); (obtain rfl : t = 0 := (by omega)); omega
    · exfalso; (obtain rfl : k = 0 := (by omega)); (obtain rfl : t = 0 := (by omega)); omega
    · (obtain rfl : k = 0 := (by omega)); (obtain rfl : t = 0 := (by omega)); exact ⟨rfl, ⟨⟨Rs_c ⟨b0, l0, t0⟩ ⟨b0, l0, t0⟩ (by omega) (by omega), x0⟩, ⟨Rs_keep ⟨b1, l1, t1⟩ rfl rfl (fun j j0 j1 => cy_o (by omega) (by omega)), x1⟩, ⟨Rs_keep ⟨b2, l2, t2⟩ rfl rfl (fun j j0 j1 => cy_o (by omega) (by omega)), x2⟩, ⟨Rs_keep ⟨b3, l3, t3⟩ rfl rfl (fun j j0 j1 => cy_o (by omega) (by omega)), x3⟩⟩, hf⟩
  · rcases hR with ⟨c2, rfl, rfl, rfl⟩ | ⟨c2, rfl, rfl, rfl⟩ | ⟨c2, rfl, rfl, rfl⟩ | ⟨c2, rfl, rfl, rfl⟩ | ⟨c2, rfl, rfl, rfl⟩
    · exfalso; (obtain rfl : k = 0 := (by omega)); (obtain rfl : t = 1 := (by omega)); omega
    · exact ⟨rfl, h5, hf.u 5 (by decide) (by decide)⟩
    · exfalso; (obtain rfl : k = 0 := (by omega)); (obtain rfl : t = 1 := (by omega)); omega
    · exfalso; (obtain rfl : k = 0 := (by omega)); (obtain rfl : t = 1 := (by omega)); omega
    · exfalso; (obtain rfl : k = 0 := (by omega)); (obtain rfl : t = 1 := (by omega)); omega
  · rcases hR with ⟨c2, rfl, rfl, rfl⟩ | ⟨c2, rfl, rfl, rfl⟩ | ⟨c2, rfl, rfl, rfl⟩ | ⟨c2, rfl, rfl, rfl⟩ | ⟨c2, rfl, rfl, rfl⟩
    · exfalso; (obtain rfl : k = 0 := (by omega)); (obtain rfl : t = 1 := (by omega)); omega
    · exfalso; (obtain rfl : k = 0 := (by omega)); (obtain rfl : t = 1 := (by omega)); omega
    · exact ⟨rfl, h5, hf.u 2 (by decide) (by decide)⟩
    · exfalso; (obtain rfl : k = 0 := (by omega)); (obtain rfl : t = 1 := (by omega)); omega
    · exfalso; (obtain rfl : k = 0 := (by omega)); (obtain rfl : t = 1 := (by omega)); omega
  · rcases hR with ⟨c2, rfl, rfl, rfl⟩ | ⟨c2, rfl, rfl, rfl⟩ | ⟨c2, rfl, rfl, rfl⟩ | ⟨c2, rfl, rfl, rfl⟩ | ⟨c2, rfl, rfl, rfl⟩
    · exact ⟨rfl, h5, hf.u 0 (by decide) (by decide)⟩
    · exfalso; (obtain rfl : k = 0 := (by omega)); (obtain rfl : t = 1 := (by omega)); omega
    · exfalso; (obtain rfl : k = 0 := (by omega)); (obtain rfl : t = 1 := (by omega)); omega
    · exact ⟨rfl, h5, hf.u 0 (by decide) (by decide)⟩
    · exfalso; (obtain rfl : k = 0 := (by omega)); (obtain rfl : t = 1 := (by omega)); omega
  · rcases hR with ⟨c2, rfl, rfl, rfl⟩ | ⟨c2, rfl, rfl, rfl⟩ | ⟨c2, rfl, rfl, rfl⟩ | ⟨c2, rfl, rfl, rfl⟩ | ⟨c2, rfl, rfl, rfl⟩
    · exfalso; (obtain rfl : k = 0 := (by omega)); (obtain rfl : t = 1 := (by omega)); omega
    · exfalso; (obtain rfl : k = 0 := (by omega)); (obtain rfl : t = 1 := (by omega)); omega
    · exfalso; (obtain rfl : k = 0 := (by omega)); (obtain rfl : t = 1 := (by omega)); omega
    · exfalso; (obtain rfl : k = 0 := (by omega)); (obtain rfl : t = 1 := (by omega)); omega
    · (obtain rfl : k = 0 := (by omega)); (obtain rfl : t = 1 := (by omega)); exact ⟨rfl, ⟨⟨Rs_keep ⟨b0, l0, t0⟩ rfl rfl (fun j j0 j1 => cy_o (by omega) (by omega)), x0⟩, ⟨Rs_c ⟨b0, l0, t0⟩ ⟨b1, l1, t1⟩ (by omega) (by omega), x1⟩, ⟨Rs_keep ⟨b2, l2, t2⟩ rfl rfl (fun j j0 j1 => cy_o (by omega) (by omega)), x2⟩, ⟨Rs_keep ⟨b3, l3, t3⟩ rfl rfl (fun j j0 j1 => cy_o (by omega) (by omega)), x3⟩⟩, hf⟩
  · rcases hR with ⟨c2, rfl, rfl, rfl⟩ | ⟨c2, rfl, rfl, rfl⟩ | ⟨c2, rfl, rfl, rfl⟩ | ⟨c2, rfl, rfl, rfl⟩ | ⟨c2, rfl, rfl, rfl⟩
    · exfalso; (obtain rfl : k = 0 := (by omega)); (obtain rfl : t = 2 := (by omega)); omega
    · exact ⟨rfl, h5, hf.u 5 (by decide) (by decide)⟩
    · exfalso; (obtain rfl : k = 0 := (by omega)); (obtain rfl : t = 2 := (by omega)); omega
    · exfalso; (obtain rfl : k = 0 := (by omega)); (obtain rfl : t = 2 := (by omega)); omega
    · exfalso; (obtain rfl : k = 0 := (by omega)); (obtain rfl : t = 2 := (by omega)); omega
  · rcases hR with ⟨c2, rfl, rfl, rfl⟩ | ⟨c2, rfl, rfl, rfl⟩ | ⟨c2, rfl, rfl, rfl⟩ | ⟨c2, rfl, rfl, rfl⟩ | ⟨c2, rfl, rfl, rfl⟩
    · exfalso; (obtain rfl : k = 0 := (by omega)); (obtain rfl : t = 2 := (by omega)); omega
    · exfalso; (obtain rfl : k = 0 := (by omega)); (obtain rfl : t = 2 := (by omega)); omega
    · exact ⟨rfl, h5, hf.u 2 (by decide) (by decide)⟩
    · exfalso; (obtain rfl : k = 0 := (by omega)); (obtain rfl : t = 2 := (by omega)); omega
    · exfalso; (obtain rfl : k = 0 := (by omega)); (obtain rfl : t = 2 := (by omega)); omega
  · rcases hR with ⟨c2, rfl, rfl, rfl⟩ | ⟨c2, rfl, rfl, rfl⟩ | ⟨c2, rfl, rfl, rfl⟩ | ⟨c2, rfl, rfl, rfl⟩ | ⟨c2, rfl, rfl, rfl⟩
    · exact ⟨rfl, h5, hf.u 0 (by decide) (by decide)⟩
    · exfalso; (obtain rfl : k = 0 := (by omega)); (obtain rfl : t = 2 := (by omega)); omega
    · exfalso; (obtain rfl : k = 0 := (by omega)); (obtain rfl : t = 2 := (by omega)); omega
    · exact ⟨rfl, h5, hf.u 0 (by decide) (by decide)⟩
    · exfalso; (obtain rfl : k = 0 := (by omega)); (obtain rfl : t = 2 := (by omega)); omega
  · rcases hR with ⟨c2, rfl, rfl, rfl⟩ | ⟨c2, rfl, rfl, rfl⟩ | ⟨c2, rfl, rfl, rfl⟩ | ⟨c2, rfl, rfl, rfl⟩ | ⟨c2, rfl, rfl, rfl⟩
    · exfalso; (obtain rfl : k = 0 := (by omega)); (obtain rfl : t = 2 := (by omega)); omega
    · exfalso; (obtain rfl : k = 0 := (by omega)); (obtain rfl : t = 2 := (by omega)); omega
    · exfalso; (obtain rfl : k = 0 := (by omega)); (obtain rfl : t = 2 := (by omega)); omega
    · exfalso; (obtain rfl : k = 0 := (by omega)); (obtain rfl : t = 2 := (by omega)); omega
    · (obtain rfl : k = 0 := (by omega)); (obtain rfl : t = 2 := (by omega)); exact ⟨rfl, ⟨⟨Rs_keep ⟨b0, l0, t0⟩ rfl rfl (fun j j0 j1 => cy_o (by omega) (by omega)), x0⟩, ⟨Rs_keep ⟨b1, l1, t1⟩ rfl rfl (fun j j0 j1 => cy_o (by omega) (by omega)), x1⟩, ⟨Rs_c ⟨b0, l0, t0⟩ ⟨b2, l2, t2⟩ (by omega) (by omega), x2⟩, ⟨Rs_keep ⟨b3, l3, t3⟩ rfl rfl (fun j j0 j1 => cy_o (by omega) (by omega)), x3⟩⟩, hf⟩
  · rcases hR with ⟨c2, rfl, rfl, rfl⟩ | ⟨c2, rfl, rfl, rfl⟩ | ⟨c2, rfl, rfl, rfl⟩ | ⟨c2, rfl, rfl, rfl⟩ | ⟨c2, rfl, rfl, rfl⟩
    · exfalso; (obtain rfl : k = 0 := (by omega)); (obtain rfl : t = 3 := (by omega)); omega
    · exact ⟨rfl, h5, hf.u 5 (by decide) (by decide)⟩
    · exfalso; (obtain rfl : k = 0 := (by omega)); (obtain rfl : t = 3 := (by omega)); omega
    · exfalso; (obtain rfl : k = 0 := (by omega)); (obtain rfl : t = 3 := (by omega)); omega
    · exfalso; (obtain rfl : k = 0 := (by omega)); (obtain rfl : t = 3 := (by omega)); omega
  · rcases hR with ⟨c2, rfl, rfl, rfl⟩ | ⟨c2, rfl, rfl, rfl⟩ | ⟨c2, rfl, rfl, rfl⟩ | ⟨c2, rfl, rfl, rfl⟩ | ⟨c2, rfl, rfl, rfl⟩
    · exfalso; (obtain rfl : k = 0 := (by omega)); (obtain rfl : t = 3 := (by omega)); omega
    · exfalso; (obtain rfl : k = 0 := (by omega)); (obtain rfl : t = 3 := (by omega)); omega
    · exact ⟨rfl, h5, hf.u 2 (by decide) (by decide)⟩
    · exfalso; (obtain rfl : k = 0 := (by omega)); (obtain rfl : t = 3 := (by omega)); omega
    · exfalso; (obtain rfl : k = 0 := (by omega)); (obtain rfl : t = 3 := (by omega)); omega
  · rcases hR with ⟨c2, rfl, rfl, rfl⟩ | ⟨c2, rfl, rfl, rfl⟩ | ⟨c2, rfl, rfl, rfl⟩ | ⟨c2, rfl, rfl, rfl⟩ | ⟨c2, rfl, rfl, rfl⟩
    · exact ⟨rfl, h5, hf.u 0 (by decide) (by decide)⟩
    · exfalso; (obtain rfl : k = 0 := (by omega)); (obtain rfl : t = 3 := (by omega)); omega
    · exfalso; (obtain rfl : k = 0 := (by omega)); (obtain rfl : t = 3 := (by omega)); omega
    · exact ⟨rfl, h5, hf.u 0 (by decide) (by decide)⟩
    · exfalso; (obtain rfl : k = 0 := (by omega)); (obtain rfl : t = 3 := (by omega)); omega
  · rcases hR with ⟨c2, rfl, rfl, rfl⟩ | ⟨c2, rfl, rfl, rfl⟩ | ⟨c2, rfl, rfl, rfl⟩ | ⟨c2, rfl, rfl, rfl⟩ | ⟨c2, rfl, rfl, rfl⟩
    · exfalso; (obtain rfl : k = 0 := (by omega)); (obtain rfl : t = 3 := (by omega)); omega
    · exfalso; (obtain rfl : k = 0 := (by omega)); (obtain rfl : t = 3 := (by omega)); omega
    · exfalso; (obtain rfl : k = 0 := (by omega)); (obtain rfl : t = 3 := (by omega)); omega
    · exfalso; (obtain rfl : k = 0 := (by omega)); (obtain rfl : t = 3 := (by omega)); omega
    · (obtain rfl : k = 0 := (by omega)); (obtain rfl : t = 3 := (by omega)); exact ⟨rfl, ⟨⟨Rs_keep ⟨b0, l0, t0⟩ rfl rfl (fun j j0 j1 => cy_o (by omega) (by omega)), x0⟩, ⟨Rs_keep ⟨b1, l1, t1⟩ rfl rfl (fun j j0 j1 => cy_o (by omega) (by omega)), x1⟩, ⟨Rs_keep ⟨b2, l2, t2⟩ rfl rfl (fun j j0 j1 => cy_o (by omega) (by omega)), x2⟩, ⟨Rs_c ⟨b0, l0, t0⟩ ⟨b3, l3, t3⟩ (by omega) (by omega), x3⟩⟩, hf⟩
  · rcases hR with ⟨c2, rfl, rfl, rfl⟩ | ⟨c2, rfl, rfl, rfl⟩ | ⟨c2, rfl, rfl, rfl⟩ | ⟨c2, rfl, rfl, rfl⟩ | ⟨c2, rfl, rfl, rfl⟩
    · exfalso; (obtain rfl : k = 1 := (by omega)); (obtain rfl : t = 0 := (by omega)); omega
    · exact ⟨rfl, h5, hf.u 5 (by decide) (by decide)⟩
    · exfalso; (obtain rfl : k = 1 := (by omega)); (obtain rfl : t = 0 := (by omega)); omega
    · exfalso; (obtain rfl : k = 1 := (by omega)); (obtain rfl : t = 0 := (by omega)); omega
    · exfalso; (obtain rfl : k = 1 := (by omega)); (obtain rfl : t = 0 := (by omega)); omega
  · rcases hR with ⟨c2, rfl, rfl, rfl⟩ | ⟨c2, rfl, rfl, rfl⟩ | ⟨c2, rfl, rfl, rfl⟩ | ⟨c2, rfl, rfl, rfl⟩ | ⟨c2, rfl, rfl, rfl⟩
    · exfalso; (obtain rfl : k = 1 := (by omega)); (obtain rfl : t = 0 := (by omega)); omega
    · exfalso; (obtain rfl : k = 1 := (by omega)); (obtain rfl : t = 0 := (by omega)); omega
    · exact ⟨rfl, h5, hf.u 2 (by decide) (by decide)⟩
    · exfalso; (obtain rfl : k = 1 := (by omega)); (obtain rfl : t = 0 := (by omega)); omega
    · exfalso; (obtain rfl : k = 1 := (by omega)); (obtain rfl : t = 0 := (by omega)); omega
  · rcases hR with ⟨c2, rfl, rfl, rfl⟩ | ⟨c2, rfl, rfl, rfl⟩ | ⟨c2, rfl, rfl, rfl⟩ | ⟨c2, rfl, rfl, rfl⟩ | ⟨c2, rfl, rfl, rfl⟩
    · exact ⟨rfl, h5, hf.u 0 (by decide) (by decide)⟩
    · exfalso; (obtain rfl : k = 1 := (by omega)); (obtain rfl : t = 0 := (by omega)); omega
    · exfalso; (obtain rfl : k = 1 := (by omega)); (obtain rfl : t = 0 := (by omega)); omega
    · exact ⟨rfl, h5, hf.u 0 (by decide) (by decide)⟩
    · exfalso; (obtain rfl : k = 1 := (by omega)); (obtain rfl : t = 0 := (by omega)); omega
  · rcases hR with ⟨c2, rfl, rfl, rfl⟩ | ⟨c2, rfl, rfl, rfl⟩ | ⟨c2, rfl, rfl, rfl⟩ | ⟨c2, rfl, rfl, rfl⟩ | ⟨c2, rfl, rfl, rfl⟩
    · exfalso; (obtain rfl : k = 1 := (by omega)); (obtain rfl : t = 0 := (by omega)); omega
    · exfalso; (obtain rfl : k = 1 := (by omega)); (obtain rfl : t = 0 := (by omega)); omega
    · exfalso; (obtain rfl : k = 1 := (by omega)); (obtain rfl : t = 0 := (by omega)); omega
    · exfalso; (obtain rfl : k = 1 := (by omega)); (obtain rfl : t = 0 := (by omega)); omega
    · (obtain rfl : k = 1 := (by omega)); (obtain rfl : t = 0 := (by omega)); exact ⟨rfl, ⟨⟨Rs_c ⟨b1, l1, t1⟩ ⟨b0, l0, t0⟩ (by omega) (by omega), x0⟩, ⟨Rs_keep ⟨b1, l1, t1⟩ rfl rfl (fun j j0 j1 => cy_o (by omega) (by omega)), x1⟩, ⟨Rs_keep ⟨b2, l2, t2⟩ rfl rfl (fun j j0 j1 => cy_o (by omega) (by omega)), x2⟩, ⟨Rs_keep ⟨b3, l3, t3⟩ rfl rfl (fun j j0 j1 => cy_o (by omega) (by omega)), x3⟩⟩, hf⟩
  · rcases hR with ⟨c2, rfl, rfl, rfl⟩ | ⟨c2, rfl, rfl, rfl⟩ | ⟨c2, rfl, rfl, rfl⟩ | ⟨c2, rfl, rfl, rfl⟩ | ⟨c2, rfl, rfl, rfl⟩
    · exfalso; (obtain rfl : k = 1 := (by omega)); (obtain rfl : t = 1 := (by omega)); omega
    · exact ⟨rfl, h5, hf.u 5 (by decide) (by decide)⟩
    · exfalso; (obtain rfl : k = 1 := (by omega)); (obtain rfl : t = 1 := (by omega)); omega
    · exfalso; (obtain rfl : k = 1 := (by omega)); (obtain rfl : t = 1 := (by omega)); omega
    · exfalso; (obtain rfl : k = 1 := (by omega)); (obtain rfl : t = 1 := (by omega)); omega
  · rcases hR with ⟨c2, rfl, rfl, rfl⟩ | ⟨c2, rfl, rfl, rfl⟩ | ⟨c2, rfl, rfl, rfl⟩ | ⟨c2, rfl, rfl, rfl⟩ | ⟨c2, rfl, rfl, rfl⟩
    · exfalso; (obtain rfl : k = 1 := (by omega)); (obtain rfl : t = 1 := (by omega)); omega
    · exfalso; (obtain rfl : k = 1 := (by omega)); (obtain rfl : t = 1 := (by omega)); omega
    · exact ⟨rfl, h5, hf.u 2 (by decide) (by decide)⟩
    · exfalso; (obtain rfl : k = 1 := (by omega)); (obtain rfl : t = 1 := (by omega)); omega
    · exfalso; (obtain rfl : k = 1 := (by omega)); (obtain rfl : t = 1 := (by omega)); omega
  · rcases hR with ⟨c2, rfl, rfl, rfl⟩ | ⟨c2, rfl, rfl, rfl⟩ | ⟨c2, rfl, rfl, rfl⟩ | ⟨c2, rfl, rfl, rfl⟩ | ⟨c2, rfl, rfl, rfl⟩
    · exact ⟨rfl, h5, hf.u 0 (by decide) (by decide)⟩
    · exfalso; (obtain rfl : k = 1 := (by omega)); (obtain rfl : t = 1 := (by omega)); omega
    · exfalso; (obtain rfl : k = 1 := (by omega)); (obtain rfl : t = 1 := (by omega)); omega
    · exact ⟨rfl, h5, hf.u 0 (by decide) (by decide)⟩
    · exfalso; (obtain rfl : k = 1 := (by omega)); (obtain rfl : t = 1 := (by omega)); omega
  · rcases hR with ⟨c2, rfl, rfl, rfl⟩ | ⟨c2, rfl, rfl, rfl⟩ | ⟨c2, rfl, rfl, rfl⟩ | ⟨c2, rfl, rfl, rfl⟩ | ⟨c2, rfl, rfl, rfl⟩
    · exfalso; (obtain rfl : k = 1 := (by omega)); (obtain rfl : t = 1 := (by omega)); omega
    · exfalso; (obtain rfl : k = 1 := (by omega)); (obtain rfl : t = 1 := (by omega)); omega
    · exfalso; (obtain rfl : k = 1 := (by omega)); (obtain rfl : t = 1 := (by omega)); omega
    · exfalso; (obtain rfl : k = 1 := (by omega)); (obtain rfl : t = 1 := (by omega)); omega
    · (obtain rfl : k = 1 := (by omega)); (obtain rfl : t = 1 := (by omega)); exact ⟨rfl, ⟨⟨Rs_keep ⟨b0, l0, t0⟩ rfl rfl (fun j j0 j1 => cy_o (by omega) (by omega)), x0⟩, ⟨Rs_c ⟨b1, l1, t1⟩ ⟨b1, l1, t1⟩ (by omega) (by omega), x1⟩, ⟨Rs_keep ⟨b2, l2, t2⟩ rfl rfl (fun j j0 j1 => cy_o (by omega) (by omega)), x2⟩, ⟨Rs_keep ⟨b3, l3, t3⟩ rfl rfl (fun j j0 j1 => cy_o (by omega) (by omega)), x3⟩⟩, hf⟩
  · rcases hR with ⟨c2, rfl, rfl, rfl⟩ | ⟨c2, rfl, rfl, rfl⟩ | ⟨c2, rfl, rfl, rfl⟩ | ⟨c2, rfl, rfl, rfl⟩ | ⟨c2, rfl, rfl, rfl⟩
    · exfalso; (obtain rfl : k = 1 := (by omega)); (obtain rfl : t = 2 := (by omega)); omega
    · exact ⟨rfl, h5, hf.u 5 (by decide) (by decide)⟩
    · exfalso; (obtain rfl : k = 1 := (by omega)); (obtain rfl : t = 2 := (by omega)); omega
    · exfalso; (obtain rfl : k = 1 := (by omega)); (obtain rfl : t = 2 := (by omega)); omega
    · exfalso; (obtain rfl : k = 1 := (by omega)); (obtain rfl : t = 2 := (by omega)); omega
  · rcases hR with ⟨c2, rfl, rfl, rfl⟩ | ⟨c2, rfl, rfl, rfl⟩ | ⟨c2, rfl, rfl, rfl⟩ | ⟨c2, rfl, rfl, rfl⟩ | ⟨c2, rfl, rfl, rfl⟩
    · exfalso; (obtain rfl : k = 1 := (by omega)); (obtain rfl : t = 2 := (by omega)); omega
    · exfalso; (obtain rfl : k = 1 := (by omega)); (obtain rfl : t = 2 := (by omega)); omega
    · exact ⟨rfl, h5, hf.u 2 (by decide) (by decide)⟩
    · exfalso; (obtain rfl : k = 1 := (by omega)); (obtain rfl : t = 2 := (by omega)); omega
    · exfalso; (obtain rfl : k = 1 := (by omega)); (obtain rfl : t = 2 := (by omega)); omega
  · rcases hR with ⟨c2, rfl, rfl, rfl⟩ | ⟨c2, rfl, rfl, rfl⟩ | ⟨c2, rfl, rfl, rfl⟩ | ⟨c2, rfl, rfl, rfl⟩ | ⟨c2, rfl, rfl, rfl⟩
    · exact ⟨rfl, h5, hf.u 0 (by decide) (by decide)⟩
    · exfalso; (obtain rfl : k = 1 := (by omega)); (obtain rfl : t = 2 := (by omega)); omega
    · exfalso; (obtain rfl : k = 1 := (by omega)); (obtain rfl : t = 2 := (by omega)); omega
    · exact ⟨rfl, h5, hf.u 0 (by decide) (by decide)⟩
    · exfalso; (obtain rfl : k = 1 := (by omega)); (obtain rfl : t = 2 := (by omega)); omega
  · rcases hR with ⟨c2, rfl, rfl, rfl⟩ | ⟨c2, rfl, rfl, rfl⟩ | ⟨c2, rfl, rfl, rfl⟩ | ⟨c2, rfl, rfl, rfl⟩ | ⟨c2, rfl, rfl, rfl⟩
    · exfalso; (obtain rfl : k = 1 := (by omega)); (obtain rfl : t = 2 := (by omega)); omega
    · exfalso; (obtain rfl : k = 1 := (by omega)); (obtain rfl : t = 2 := (by omega)); omega
    · exfalso; (obtain rfl : k = 1 := (by omega)); (obtain rfl : t = 2 := (by omega)); omega
    · exfalso; (obtain rfl : k = 1 := (by omega)); (obtain rfl : t = 2 := (by omega)); omega
    · (obtain rfl : k = 1 := (by omega)); (obtain rfl : t = 2 := (by omega)); exact ⟨rfl, ⟨⟨Rs_keep ⟨b0, l0, t0⟩ rfl rfl (fun j j0 j1 => cy_o (by omega) (by omega)), x0⟩, ⟨Rs_keep ⟨b1, l1, t1⟩ rfl rfl (fun j j0 j1 => cy_o (by omega) (by omega)), x1⟩, ⟨Rs_c ⟨b1, l1, t1⟩ ⟨b2, l2, t2⟩ (by omega) (by omega), x2⟩, ⟨Rs_keep ⟨b3, l3, t3⟩ rfl rfl (fun j j0 j1 => cy_o (by omega) (by omega)), x3⟩⟩, hf⟩
  · rcases hR with ⟨c2, rfl, rfl, rfl⟩ | ⟨c2, rfl, rfl, rfl⟩ | ⟨c2, rfl, rfl, rfl⟩ | ⟨c2, rfl, rfl, rfl⟩ | ⟨c2, rfl, rfl, rfl⟩
    · exfalso; (obtain rfl : k = 1 := (by omega)); (obtain rfl : t = 3 := (by omega)); omega
    · exact ⟨rfl, h5, hf.u 5 (by decide) (by decide)⟩
    · exfalso; (obtain rfl : k = 1 := (by omega)); (obtain rfl : t = 3 := (by omega)); omega
    · exfalso; (obtain rfl : k = 1 := (by omega)); (obtain rfl : t = 3 := (by omega)); omega
    · exfalso; (obtain rfl : k = 1 := (by omega)); (obtain rfl : t = 3 := (by omega)); omega
  · rcases hR with ⟨c2, rfl, rfl, rfl⟩ | ⟨c2, rfl, rfl, rfl⟩ | ⟨c2, rfl, rfl, rfl⟩ | ⟨c2, rfl, rfl, rfl⟩ | ⟨c2, rfl, rfl, rfl⟩
    · exfalso; (obtain rfl : k = 1 := (by omega)); (obtain rfl : t = 3 := (by omega)); omega
    · exfalso; (obtain rfl : k = 1 := (by omega)); (obtain rfl : t = 3 := (by omega)); omega
    · exact ⟨rfl, h5, hf.u 2 (by decide) (by decide)⟩
    · exfalso; (obtain rfl : k = 1 := (by omega)); (obtain rfl : t = 3 := (by omega)); omega
    · exfalso; (obtain rfl : k = 1 := (by omega)); (obtain rfl : t = 3 := (by omega)); omega
  · rcases hR with ⟨c2, rfl, rfl, rfl⟩ | ⟨c2, rfl, rfl, rfl⟩ | ⟨c2, rfl, rfl, rfl⟩ | ⟨c2, rfl, rfl, rfl⟩ | ⟨c2, rfl, rfl, rfl⟩
    · exact ⟨rfl, h5, hf.u 0 (by decide) (by decide)⟩
    · exfalso; (obtain rfl : k = 1 := (by omega)); (obtain rfl : t = 3 := (by omega)); omega
    · exfalso; (obtain rfl : k = 1 := (by omega)); (obtain rfl : t = 3 := (by omega)); omega
    · exact ⟨rfl, h5, hf.u 0 (by decide) (by decide)⟩
    · exfalso; (obtain rfl : k = 1 := (by omega)); (obtain rfl : t = 3 := (by omega)); omega
  · rcases hR with ⟨c2, rfl, rfl, rfl⟩ | ⟨c2, rfl, rfl, rfl⟩ | ⟨c2, rfl, rfl, rfl⟩ | ⟨c2, rfl, rfl, rfl⟩ | ⟨c2, rfl, rfl, rfl⟩
    · exfalso; (obtain rfl : k = 1 := (by omega)); (obtain rfl : t = 3 := (by omega)); omega
    · exfalso; (obtain rfl : k = 1 := (by omega)); (obtain rfl : t = 3 := (by omega)); omega
    · exfalso; (obtain rfl : k = 1 := (by omega)); (obtain rfl : t = 3 := (by omega)); omega
    · exfalso; (obtain rfl : k = 1 := (by omega)); (obtain rfl : t = 3 := (by omega)); omega
    · (obtain rfl : k = 1 := (by omega)); (obtain rfl : t = 3 := (by omega)); exact ⟨rfl, ⟨⟨Rs_keep ⟨b0, l0, t0⟩ rfl rfl (fun j j0 j1 => cy_o (by omega) (by omega)), x0⟩, ⟨Rs_keep ⟨b1, l1, t1⟩ rfl rfl (fun j j0 j1 => cy_o (by omega) (by omega)), x1⟩, ⟨Rs_keep ⟨b2, l2, t2⟩ rfl rfl (fun j j0 j1 => cy_o (by omega) (by omega)), x2⟩, ⟨Rs_c ⟨b1, l1, t1⟩ ⟨b3, l3, t3⟩ (by omega) (by omega), x3⟩⟩, hf⟩
  · rcases hR with ⟨c2, rfl, rfl, rfl⟩ | ⟨c2, rfl, rfl, rfl⟩ | ⟨c2, rfl, rfl, rfl⟩ | ⟨c2, rfl, rfl, rfl⟩ | ⟨c2, rfl, rfl, rfl⟩
    · exfalso; (obtain rfl : k = 2 := (by omega)); (obtain rfl : t = 0 := (by omega)); omega
    · exact ⟨rfl, h5, hf.u 5 (by decide) (by decide)⟩
    · exfalso; (obtain rfl : k = 2 := (by omega)); (obtain rfl : t = 0 := (by omega)); omega
    · exfalso; (obtain rfl : k = 2 := (by omega)); (obtain rfl : t = 0 := (by omega)); omega
    · exfalso; (obtain rfl : k = 2 := (by omega)); (obtain rfl : t = 0 := (by omega)); omega
  · rcases hR with ⟨c2, rfl, rfl, rfl⟩ | ⟨c2, rfl, rfl, rfl⟩ | ⟨c2, rfl, rfl, rfl⟩ | ⟨c2, rfl, rfl, rfl⟩ | ⟨c2, rfl, rfl, rfl⟩
    · exfalso; (obtain rfl : k = 2 := (by omega)); (obtain rfl : t = 0 := (by omega)); omega
    · exfalso; (obtain rfl : k = 2 := (by omega)); (obtain rfl : t = 0 := (by omega)); omega
    · exact ⟨rfl, h5, hf.u 2 (by decide) (by decide)⟩
    · exfalso; (obtain rfl : k = 2 := (by omega)); (obtain rfl : t = 0 := (by omega)); omega
    · exfalso; (obtain rfl : k = 2 := (by omega)); (obtain rfl : t = 0 := (by omega)); omega
  · rcases hR with ⟨c2, rfl, rfl, rfl⟩ | ⟨c2, rfl, rfl, rfl⟩ | ⟨c2, rfl, rfl, rfl⟩ | ⟨c2, rfl, rfl, rfl⟩ | ⟨c2, rfl, rfl, rfl⟩
    · exact ⟨rfl, h5, hf.u 0 (by decide) (by decide)⟩
    · exfalso; (obtain rfl : k = 2 := (by omega)); (obtain rfl : t = 0 := (by omega)); omega
    · exfalso; (obtain rfl : k = 2 := (by omega)); (obtain rfl : t = 0 := (by omega)); omega
    · exact ⟨rfl, h5, hf.u 0 (by decide) (by decide)⟩
    · exfalso; (obtain rfl : k = 2 := (by omega)); (obtain rfl : t = 0 := (by omega)); omega
  · rcases hR with ⟨c2, rfl, rfl, rfl⟩ | ⟨c2, rfl, rfl, rfl⟩ | ⟨c2, rfl, rfl, rfl⟩ | ⟨c2, rfl, rfl, rfl⟩ | ⟨c2, rfl, rfl, rfl⟩
    · exfalso; (obtain rfl : k = 2 := (by omega)); (obtain rfl : t = 0 := (by omega)); omega
    · exfalso; (obtain rfl : k = 2 := (by omega)); (obtain rfl : t = 0 := (by omega)); omega
    · exfalso; (obtain rfl : k = 2 := (by omega)); (obtain rfl : t = 0 := (by omega)); omega
    · exfalso; (obtain rfl : k = 2 := (by omega)); (obtain rfl : t = 0 := (by omega)); omega
    · (obtain rfl : k = 2 := (by omega)); (obtain rfl : t = 0 := (by omega)); exact ⟨rfl, ⟨⟨Rs_c ⟨b2, l2, t2⟩ ⟨b0, l0, t0⟩ (by omega) (by omega), x0⟩, ⟨Rs_keep ⟨b1, l1, t1⟩ rfl rfl (fun j j0 j1 => cy_o (by omega) (by omega)), x1⟩, ⟨Rs_keep ⟨b2, l2, t2⟩ rfl rfl (fun j j0 j1 => cy_o (by omega) (by omega)), x2⟩, ⟨Rs_keep ⟨b3, l3, t3⟩ rfl rfl (fun j j0 j1 => cy_o (by omega) (by omega)), x3⟩⟩, hf⟩
  · rcases hR with ⟨c2, rfl, rfl, rfl⟩ | ⟨c2, rfl, rfl, rfl⟩ | ⟨c2, rfl, rfl, rfl⟩ | ⟨c2, rfl, rfl, rfl⟩ | ⟨c2, rfl, rfl, rfl⟩
    · exfalso; (obtain rfl : k = 2 := (by omega)); (obtain rfl : t = 1 := (by omega)); omega
    · exact ⟨rfl, h5, hf.u 5 (by decide) (by decide)⟩
    · exfalso; (obtain rfl : k = 2 := (by omega)); (obtain rfl : t = 1 := (by omega)); omega
    · exfalso; (obtain rfl : k = 2 := (by omega)); (obtain rfl : t = 1 := (by omega)); omega
    · exfalso; (obtain rfl : k = 2 := (by omega)); (obtain rfl : t = 1 := (by omega)); omega
  · rcases hR with ⟨c2, rfl, rfl, rfl⟩ | ⟨c2, rfl, rfl, rfl⟩ | ⟨c2, rfl, rfl, rfl⟩ | ⟨c2, rfl, rfl, rfl⟩ | ⟨c2, rfl, rfl, rfl⟩
    · exfalso; (obtain rfl : k = 2 := (by omega)); (obtain rfl : t = 1 := (by omega)); omega
    · exfalso; (obtain rfl : k = 2 := (by omega)); (obtain rfl : t = 1 := (by omega)); omega
    · exact ⟨rfl, h5, hf.u 2 (by decide) (by decide)⟩
    · exfalso; (obtain rfl : k = 2 := (by omega)); (obtain rfl : t = 1 := (by omega)); omega
    · exfalso; (obtain rfl : k = 2 := (by omega)); (obtain rfl : t = 1 := (by omega)); omega
  · rcases hR with ⟨c2, rfl, rfl, rfl⟩ | ⟨c2, rfl, rfl, rfl⟩ | ⟨c2, rfl, rfl, rfl⟩ | ⟨c2, rfl, rfl, rfl⟩ | ⟨c2, rfl, rfl, rfl⟩
    · exact ⟨rfl, h5, hf.u 0 (by decide) (by decide)⟩
    · exfalso; (obtain rfl : k = 2 := (by omega)); (obtain rfl : t = 1 := (by omega)); omega
    · exfalso; (obtain rfl : k = 2 := (by omega)); (obtain rfl : t = 1 := (by omega)); omega
    · exact ⟨rfl, h5, hf.u 0 (by decide) (by decide)⟩
    · exfalso; (obtain rfl : k = 2 := (by omega)); (obtain rfl : t = 1 := (by omega)); omega
  · rcases hR with ⟨c2, rfl, rfl, rfl⟩ | ⟨c2, rfl, rfl, rfl⟩ | ⟨c2, rfl, rfl, rfl⟩ | ⟨c2, rfl, rfl, rfl⟩ | ⟨c2, rfl, rfl, rfl⟩
    · exfalso; (obtain rfl : k = 2 := (by omega)); (obtain rfl : t = 1 := (by omega)); omega
    · exfalso; (obtain rfl : k = 2 := (by omega)); (obtain rfl : t = 1 := (by omega)); omega
    · exfalso; (obtain rfl : k = 2 := (by omega)); (obtain rfl : t = 1 := (by omega)); omega
    · exfalso; (obtain rfl : k = 2 := (by omega)); (obtain rfl : t = 1 := (by omega)); omega
    · (obtain rfl : k = 2 := (by omega)); (obtain rfl : t = 1 := (by omega)); exact ⟨rfl, ⟨⟨Rs_keep ⟨b0, l0, t0⟩ rfl rfl (fun j j0 j1 => cy_o (by omega) (by omega)), x0⟩, ⟨Rs_c ⟨b2, l2, t2⟩ ⟨b1, l1, t1⟩ (by omega) (by omega), x1⟩, ⟨Rs_keep ⟨b2, l2, t2⟩ rfl rfl (fun j j0 j1 => cy_o (by omega) (by omega)), x2⟩, ⟨Rs_keep ⟨b3, l3, t3⟩ rfl rfl (fun j j0 j1 => cy_o (by omega) (by omega)), x3⟩⟩, hf⟩
  · rcases hR with ⟨c2, rfl, rfl, rfl⟩ | ⟨c2, rfl, rfl, rfl⟩ | ⟨c2, rfl, rfl, rfl⟩ | ⟨c2, rfl, rfl, rfl⟩ | ⟨c2, rfl, rfl, rfl⟩
    · exfalso; (obtain rfl : k = 2 := (by omega)); (obtain rfl : t = 2 := (by omega)); omega
    · exact ⟨rfl, h5, hf.u 5 (by decide) (by decide)⟩
    · exfalso; (obtain rfl : k = 2 := (by omega)); (obtain rfl : t = 2 := (by omega)); omega
    · exfalso; (obtain rfl : k = 2 := (by omega)); (obtain rfl : t = 2 := (by omega)); omega
    · exfalso; (obtain rfl : k = 2 := (by omega)); (obtain rfl : t = 2 := (by omega)); omega
  · rcases hR with ⟨c2, rfl, rfl, rfl⟩ | ⟨c2, rfl, rfl, rfl⟩ | ⟨c2, rfl, rfl, rfl⟩ | ⟨c2, rfl, rfl, rfl⟩ | ⟨c2, rfl, rfl, rfl⟩
    · exfalso; (obtain rfl : k = 2 := (by omega)); (obtain rfl : t = 2 := (by omega)); omega
    · exfalso; (obtain rfl : k = 2 := (by omega)); (obtain rfl : t = 2 := (by omega)); omega
    · exact ⟨rfl, h5, hf.u 2 (by decide) (by decide)⟩
    · exfalso; (obtain rfl : k = 2 := (by omega)); (obtain rfl : t = 2 := (by omega)); omega
    · exfalso; (obtain rfl : k = 2 := (by omega)); (obtain rfl : t = 2 := (by omega)); omega
  · rcases hR with ⟨c2, rfl, rfl, rfl⟩ | ⟨c2, rfl, rfl, rfl⟩ | ⟨c2, rfl, rfl, rfl⟩ | ⟨c2, rfl, rfl, rfl⟩ | ⟨c2, rfl, rfl, rfl⟩
    · exact ⟨rfl, h5, hf.u 0 (by decide) (by decide)⟩
    · exfalso; (obtain rfl : k = 2 := (by omega)); (obtain rfl : t = 2 := (by omega)); omega
    · exfalso; (obtain rfl : k = 2 := (by omega)); (obtain rfl : t = 2 := (by omega)); omega
    · exact ⟨rfl, h5, hf.u 0 (by decide) (by decide)⟩
    · exfalso; (obtain rfl : k = 2 := (by omega)); (obtain rfl : t = 2 := (by omega)); omega
  · rcases hR with ⟨c2, rfl, rfl, rfl⟩ | ⟨c2, rfl, rfl, rfl⟩ | ⟨c2, rfl, rfl, rfl⟩ | ⟨c2, rfl, rfl, rfl⟩ | ⟨c2, rfl, rfl, rfl⟩
    · exfalso; (obtain rfl : k = 2 := (by omega)); (obtain rfl : t = 2 := (by omega)); omega
    · exfalso; (obtain rfl : k = 2 := (by omega)); (obtain rfl : t = 2 := (by omega)); omega
    · exfalso; (obtain rfl : k = 2 := (by omega)); (obtain rfl : t = 2 := (by omega)); omega
    · exfalso; (obtain rfl : k = 2 := (by omega)); (obtain rfl : t = 2 := (by omega)); omega
    · (obtain rfl : k = 2 := (by omega)); (obtain rfl : t = 2 := (by omega)); exact ⟨rfl, ⟨⟨Rs_keep ⟨b0, l0, t0⟩ rfl rfl (fun j j0 j1 => cy_o (by omega) (by omega)), x0⟩, ⟨Rs_keep ⟨b1, l1, t1⟩ rfl rfl (fun j j0 j1 => cy_o (by omega) (by omega)), x1⟩, ⟨Rs_c ⟨b2, l2, t2⟩ ⟨b2, l2, t2⟩ (by omega) (by omega), x2⟩, ⟨Rs_keep ⟨b3, l3, t3⟩ rfl rfl (fun j j0 j1 => cy_o (by omega) (by omega)), x3⟩⟩, hf⟩
  · rcases hR with ⟨c2, rfl, rfl, rfl⟩ | ⟨c2, rfl, rfl, rfl⟩ | ⟨c2, rfl, rfl, rfl⟩ | ⟨c2, rfl, rfl, rfl⟩ | ⟨c2, rfl, rfl, rfl⟩
    · exfalso; (obtain rfl : k = 2 := (by omega)); (obtain rfl : t = 3 := (by omega)); omega
    · exact ⟨rfl, h5, hf.u 5 (by decide) (by decide)⟩
    · exfalso; (obtain rfl : k = 2 := (by omega)); (obtain rfl : t = 3 := (by omega)); omega
    · exfalso; (obtain rfl : k = 2 := (by omega)); (obtain rfl : t = 3 := (by omega)); omega
    · exfalso; (obtain rfl : k = 2 := (by omega)); (obtain rfl : t = 3 := (by omega)); omega
  · rcases hR with ⟨c2, rfl, rfl, rfl⟩ | ⟨c2, rfl, rfl, rfl⟩ | ⟨c2, rfl, rfl, rfl⟩ | ⟨c2, rfl, rfl, rfl⟩ | ⟨c2, rfl, rfl, rfl⟩
    · exfalso; (obtain rfl : k = 2 := (by omega)); (obtain rfl : t = 3 := (by omega)); omega
    · exfalso; (obtain rfl : k = 2 := (by omega)); (obtain rfl : t = 3 := (by omega)); omega
    · exact ⟨rfl, h5, hf.u 2 (by decide) (by decide)⟩
    · exfalso; (obtain rfl : k = 2 := (by omega)); (obtain rfl : t = 3 := (by omega)); omega
    · exfalso; (obtain rfl : k = 2 := (by omega)); (obtain rfl : t = 3 := (by omega)); omega
  · rcases hR with ⟨c2, rfl, rfl, rfl⟩ | ⟨c2, rfl, rfl, rfl⟩ | ⟨c2, rfl, rfl, rfl⟩ | ⟨c2, rfl, rfl, rfl⟩ | ⟨c2, rfl, rfl, rfl⟩
    · exact ⟨rfl, h5, hf.u 0 (by decide) (by decide)⟩
    · exfalso; (obtain rfl : k = 2 := (by omega)); (obtain rfl : t = 3 := (by omega)); omega
    · exfalso; (obtain rfl : k = 2 := (by omega)); (obtain rfl : t = 3 := (by omega)); omega
    · exact ⟨rfl, h5, hf.u 0 (by decide) (by decide)⟩
    · exfalso; (obtain rfl : k = 2 := (by omega)); (obtain rfl : t = 3 := (by omega)); omega
  · rcases hR with ⟨c2, rfl, rfl, rfl⟩ | ⟨c2, rfl, rfl, rfl⟩ | ⟨c2, rfl, rfl, rfl⟩ | ⟨c2, rfl, rfl, rfl⟩ | ⟨c2, rfl, rfl, rfl⟩
    · exfalso; (obtain rfl : k = 2 := (by omega)); (obtain rfl : t = 3 := (by omega)); omega
    · exfalso; (obtain rfl : k = 2 := (by omega)); (obtain rfl : t = 3 := (by omega)); omega
    · exfalso; (obtain rfl : k = 2 := (by omega)); (obtain rfl : t = 3 := (by omega)); omega
    · exfalso; (obtain rfl : k = 2 := (by omega)); (obtain rfl : t = 3 := (by omega)); omega
    · (obtain rfl : k = 2 := (by omega)); (obtain rfl : t = 3 := (by omega)); exact ⟨rfl, ⟨⟨Rs_keep ⟨b0, l0, t0⟩ rfl rfl (fun j j0 j1 => cy_o (by omega) (by omega)), x0⟩, ⟨Rs_keep ⟨b1, l1, t1⟩ rfl rfl (fun j j0 j1 => cy_o (by omega) (by omega)), x1⟩, ⟨Rs_keep ⟨b2, l2, t2⟩ rfl rfl (fun j j0 j1 => cy_o (by omega) (by omega)), x2⟩, ⟨Rs_c ⟨b2, l2, t2⟩ ⟨b3, l3, t3⟩ (by omega) (by omega), x3⟩⟩, hf⟩
  · rcases hR with ⟨c2, rfl, rfl, rfl⟩ | ⟨c2, rfl, rfl, rfl⟩ | ⟨c2, rfl, rfl, rfl⟩ | ⟨c2, rfl, rfl, rfl⟩ | ⟨c2, rfl, rfl, rfl⟩
    · exfalso; (obtain rfl : k = 3 := (by omega)); (obtain rfl : t = 0 := (by omega)); omega
    · exact ⟨rfl, h5, hf.u 5 (by decide) (by decide)⟩
    · exfalso; (obtain rfl : k = 3 := (by omega)); (obtain rfl : t = 0 := (by omega)); omega
    · exfalso; (obtain rfl : k = 3 := (by omega)); (obtain rfl : t = 0 := (by omega)); omega
    · exfalso; (obtain rfl : k = 3 := (by omega)); (obtain rfl : t = 0 := (by omega)); omega
  · rcases hR with ⟨c2, rfl, rfl, rfl⟩ | ⟨c2, rfl, rfl, rfl⟩ | ⟨c2, rfl, rfl, rfl⟩ | ⟨c2, rfl, rfl, rfl⟩ | ⟨c2, rfl, rfl, rfl⟩
    · exfalso; (obtain rfl : k = 3 := (by omega)); (obtain rfl : t = 0 := (by omega)); omega
    · exfalso; (obtain rfl : k = 3 := (by omega)); (obtain rfl : t = 0 := (by omega)); omega
    · exact ⟨rfl, h5, hf.u 2 (by decide) (by decide)⟩
    · exfalso; (obtain rfl : k = 3 := (by omega)); (obtain rfl : t = 0 := (by omega)); omega
    · exfalso; (obtain rfl : k = 3 := (by omega)); (obtain rfl : t = 0 := (by omega)); omega
  · rcases hR with ⟨c2, rfl, rfl, rfl⟩ | ⟨c2, rfl, rfl, rfl⟩ | ⟨c2, rfl, rfl, rfl⟩ | ⟨c2, rfl, rfl, rfl⟩ | ⟨c2, rfl, rfl, rfl⟩
    · exact ⟨rfl, h5, hf.u 0 (by decide) (by decide)⟩
    · exfalso; (obtain rfl : k = 3 := (by omega)); (obtain rfl : t = 0 := (by omega)); omega
    · exfalso; (obtain rfl : k = 3 := (by omega)); (obtain rfl : t = 0 := (by omega)); omega
    · exact ⟨rfl, h5, hf.u 0 (by decide) (by decide)⟩
    · exfalso; (obtain rfl : k = 3 := (by omega)); (obtain rfl : t = 0 := (by omega)); omega
  · rcases hR with ⟨c2, rfl, rfl, rfl⟩ | ⟨c2, rfl, rfl, rfl⟩ | ⟨c2, rfl, rfl, rfl⟩ | ⟨c2, rfl, rfl, rfl⟩ | ⟨c2, rfl, rfl, rfl⟩
    · exfalso; (obtain rfl : k = 3 := (by omega)); (obtain rfl : t = 0 := (by omega)); omega
    · exfalso; (obtain rfl : k = 3 := (by omega)); (obtain rfl : t = 0 := (by omega)); omega
    · exfalso; (obtain rfl : k = 3 := (by omega)); (obtain rfl : t = 0 := (by omega)); omega
    · exfalso; (obtain rfl : k = 3 := (by omega)); (obtain rfl : t = 0 := (by omega)); omega
    · (obtain rfl : k = 3 := (by omega)); (obtain rfl : t = 0 := (by omega)); exact ⟨rfl, ⟨⟨Rs_c ⟨b3, l3, t3⟩ ⟨b0, l0, t0⟩ (by omega) (by omega), x0⟩, ⟨Rs_keep ⟨b1, l1, t1⟩ rfl rfl (fun j j0 j1 => cy_o (by omega) (by omega)), x1⟩, ⟨Rs_keep ⟨b2, l2, t2⟩ rfl rfl (fun j j0 j1 => cy_o (by omega) (by omega)), x2⟩, ⟨Rs_keep ⟨b3, l3, t3⟩ rfl rfl (fun j j0 j1 => cy_o (by omega) (by omega)), x3⟩⟩, hf⟩
  · rcases hR with ⟨c2, rfl, rfl, rfl⟩ | ⟨c2, rfl, rfl, rfl⟩ | ⟨c2, rfl, rfl, rfl⟩ | ⟨c2, rfl, rfl, rfl⟩ | ⟨c2, rfl, rfl, rfl⟩
    · exfalso; (obtain rfl : k = 3 := (by omega)); (obtain rfl : t = 1 := (by omega)); omega
    · exact ⟨rfl, h5, hf.u 5 (by decide) (by decide)⟩
    · exfalso; (obtain rfl : k = 3 := (by omega)); (obtain rfl : t = 1 := (by omega)); omega
    · exfalso; (obtain rfl : k = 3 := (by omega)); (obtain rfl : t = 1 := (by omega)); omega
    · exfalso; (obtain rfl : k = 3 := (by omega)); (obtain rfl : t = 1 := (by omega)); omega
  · rcases hR with ⟨c2, rfl, rfl, rfl⟩ | ⟨c2, rfl, rfl, rfl⟩ | ⟨c2, rfl, rfl, rfl⟩ | ⟨c2, rfl, rfl, rfl⟩ | ⟨c2, rfl, rfl, rfl⟩
    · exfalso; (obtain rfl : k = 3 := (by omega)); (obtain rfl : t = 1 := (by omega)); omega
    · exfalso; (obtain rfl : k = 3 := (by omega)); (obtain rfl : t = 1 := (by omega)); omega
    · exact ⟨rfl, h5, hf.u 2 (by decide) (by decide)⟩
    · exfalso; (obtain rfl : k = 3 := (by omega)); (obtain rfl : t = 1 := (by omega)); omega
    · exfalso; (obtain rfl : k = 3 := (by omega)); (obtain rfl : t = 1 := (by omega)); omega
  · rcases hR with ⟨c2, rfl, rfl, rfl⟩ | ⟨c2, rfl, rfl, rfl⟩ | ⟨c2, rfl, rfl, rfl⟩ | ⟨c2, rfl, rfl, rfl⟩ | ⟨c2, rfl, rfl, rfl⟩
    · exact ⟨rfl, h5, hf.u 0 (by decide) (by decide)⟩
    · exfalso; (obtain rfl : k = 3 := (by omega)); (obtain rfl : t = 1 := (by omega)); omega
    · exfalso; (obtain rfl : k = 3 := (by omega)); (obtain rfl : t = 1 := (by omega)); omega
    · exact ⟨rfl, h5, hf.u 0 (by decide) (by decide)⟩
    · exfalso; (obtain rfl : k = 3 := (by omega)); (obtain rfl : t = 1 := (by omega)); omega
  · rcases hR with ⟨c2, rfl, rfl, rfl⟩ | ⟨c2, rfl, rfl, rfl⟩ | ⟨c2, rfl, rfl, rfl⟩ | ⟨c2, rfl, rfl, rfl⟩ | ⟨c2, rfl, rfl, rfl⟩
    · exfalso; (obtain rfl : k = 3 := (by omega)); (obtain rfl : t = 1 := (by omega)); omega
    · exfalso; (obtain rfl : k = 3 := (by omega)); (obtain rfl : t = 1 := (by omega)); omega
    · exfalso; (obtain rfl : k = 3 := (by omega)); (obtain rfl : t = 1 := (by omega)); omega
    · exfalso; (obtain rfl : k = 3 := (by omega)); (obtain rfl : t = 1 := (by omega)); omega
    · (obtain rfl : k = 3 := (by omega)); (obtain rfl : t = 1 := (by omega)); exact ⟨rfl, ⟨⟨Rs_keep ⟨b0, l0, t0⟩ rfl rfl (fun j j0 j1 => cy_o (by omega) (by omega)), x0⟩, ⟨Rs_c ⟨b3, l3, t3⟩ ⟨b1, l1, t1⟩ (by omega) (by omega), x1⟩, ⟨Rs_keep ⟨b2, l2, t2⟩ rfl rfl (fun j j0 j1 => cy_o (by omega) (by omega)), x2⟩, ⟨Rs_keep ⟨b3, l3, t3⟩ rfl rfl (fun j j0 j1 => cy_o (by omega) (by omega)), x3⟩⟩, hf⟩
  · rcases hR with ⟨c2, rfl, rfl, rfl⟩ | ⟨c2, rfl, rfl, rfl⟩ | ⟨c2, rfl, rfl, rfl⟩ | ⟨c2, rfl, rfl, rfl⟩ | ⟨c2, rfl, rfl, rfl⟩
    · exfalso; (obtain rfl : k = 3 := (by omega)); (obtain rfl : t = 2 := (by omega)); omega
    · exact ⟨rfl, h5, hf.u 5 (by decide) (by decide)⟩
    · exfalso; (obtain rfl : k = 3 := (by omega)); (obtain rfl : t = 2 := (by omega)); omega
    · exfalso; (obtain rfl : k = 3 := (by omega)); (obtain rfl : t = 2 := (by omega)); omega
    · exfalso; (obtain rfl : k = 3 := (by omega)); (obtain rfl : t = 2 := (by omega)); omega
  · rcases hR with ⟨c2, rfl, rfl, rfl⟩ | ⟨c2, rfl, rfl, rfl⟩ | ⟨c2, rfl, rfl, rfl⟩ | ⟨c2, rfl, rfl, rfl⟩ | ⟨c2, rfl, rfl, rfl⟩
    · exfalso; (obtain rfl : k = 3 := (by omega)); (obtain rfl : t = 2 := (by omega)); omega
    · exfalso; (obtain rfl : k = 3 := (by omega)); (obtain rfl : t = 2 := (by omega)); omega
    · exact ⟨rfl, h5, hf.u 2 (by decide) (by decide)⟩
    · exfalso; (obtain rfl : k = 3 := (by omega)); (obtain rfl : t = 2 := (by omega)); omega
    · exfalso; (obtain rfl : k = 3 := (by omega)); (obtain rfl : t = 2 := (by omega)); omega
  · rcases hR with ⟨c2, rfl, rfl, rfl⟩ | ⟨c2, rfl, rfl, rfl⟩ | ⟨c2, rfl, rfl, rfl⟩ | ⟨c2, rfl, rfl, rfl⟩ | ⟨c2, rfl, rfl, rfl⟩
    · exact ⟨rfl, h5, hf.u 0 (by decide) (by decide)⟩
    · exfalso; (obtain rfl : k = 3 := (by omega)); (obtain rfl : t = 2 := (by omega)); omega
    · exfalso; (obtain rfl : k = 3 := (by omega)); (obtain rfl : t = 2 := (by omega)); omega
    · exact ⟨rfl, h5, hf.u 0 (by decide) (by decide)⟩
    · exfalso; (obtain rfl : k = 3 := (by omega)); (obtain rfl : t = 2 := (by omega)); omega
  · rcases hR with ⟨c2, rfl, rfl, rfl⟩ | ⟨c2, rfl, rfl, rfl⟩ | ⟨c2, rfl, rfl, rfl⟩ | ⟨c2, rfl, rfl, rfl⟩ | ⟨c2, rfl, rfl, rfl⟩
    · exfalso; (obtain rfl : k = 3 := (by omega)); (obtain rfl : t = 2 := (by omega)); omega
    · exfalso; (obtain rfl : k = 3 := (by omega)); (obtain rfl : t = 2 := (by omega)); omega
    · exfalso; (obtain rfl : k = 3 := (by omega)); (obtain rfl : t = 2 := (by omega)); omega
    · exfalso; (obtain rfl : k = 3 := (by omega)); (obtain rfl : t = 2 := (by omega)); omega
    · (obtain rfl : k = 3 := (by omega)); (obtain rfl : t = 2 := (by omega)); exact ⟨rfl, ⟨⟨Rs_keep ⟨b0, l0, t0⟩ rfl rfl (fun j j0 j1 => cy_o (by omega) (by omega)), x0⟩, ⟨Rs_keep ⟨b1, l1, t1⟩ rfl rfl (fun j j0 j1 => cy_o (by omega) (by omega)), x1⟩, ⟨Rs_c ⟨b3, l3, t3⟩ ⟨b2, l2, t2⟩ (by omega) (by omega), x2⟩, ⟨Rs_keep ⟨b3, l3, t3⟩ rfl rfl (fun j j0 j1 => cy_o (by omega) (by omega)), x3⟩⟩, hf⟩
  · rcases hR with ⟨c2, rfl, rfl, rfl⟩ | ⟨c2, rfl, rfl, rfl⟩ | ⟨c2, rfl, rfl, rfl⟩ | ⟨c2, rfl, rfl, rfl⟩ | ⟨c2, rfl, rfl, rfl⟩
    · exfalso; (obtain rfl : k = 3 := (by omega)); (obtain rfl : t = 3 := (by omega)); omega
    · exact ⟨rfl, h5, hf.u 5 (by decide) (by decide)⟩
    · exfalso; (obtain rfl : k = 3 := (by omega)); (obtain rfl : t = 3 := (by omega)); omega
    · exfalso; (obtain rfl : k = 3 := (by omega)); (obtain rfl : t = 3 := (by omega)); omega
    · exfalso; (obtain rfl : k = 3 := (by omega)); (obtain rfl : t = 3 := (by omega)); omega
  · rcases hR with ⟨c2, rfl, rfl, rfl⟩ | ⟨c2, rfl, rfl, rfl⟩ | ⟨c2, rfl, rfl, rfl⟩ | ⟨c2, rfl, rfl, rfl⟩ | ⟨c2, rfl, rfl, rfl⟩
    · exfalso; (obtain rfl : k = 3 := (by omega)); (obtain rfl : t = 3 := (by omega)); omega
    · exfalso; (obtain rfl : k = 3 := (by omega)); (obtain rfl : t = 3 := (by omega)); omega
    · exact ⟨rfl, h5, hf.u 2 (by decide) (by decide)⟩
    · exfalso; (obtain rfl : k = 3 := (by omega)); (obtain rfl : t = 3 := (by omega)); omega
    · exfalso; (obtain rfl : k = 3 := (by omega)); (obtain rfl : t = 3 := (by omega)); omega
  · rcases hR with ⟨c2, rfl, rfl, rfl⟩ | ⟨c2, rfl, rfl, rfl⟩ | ⟨c2, rfl, rfl, rfl⟩ | ⟨c2, rfl, rfl, rfl⟩ | ⟨c2, rfl, rfl, rfl⟩
    · exact ⟨rfl, h5, hf.u 0 (by decide) (by decide)⟩
    · exfalso; (obtain rfl : k = 3 := (by omega)); (obtain rfl : t = 3 := (by omega)); omega
    · exfalso; (obtain rfl : k = 3 := (by omega)); (obtain rfl : t = 3 := (by omega)); omega
    · exact ⟨rfl, h5, hf.u 0 (by decide) (by decide)⟩
    · exfalso; (obtain rfl : k = 3 := (by omega)); (obtain rfl : t = 3 := (by omega)); omega
  · rcases hR with ⟨c2, rfl, rfl, rfl⟩ | ⟨c2, rfl, rfl, rfl⟩ | ⟨c2, rfl, rfl, rfl⟩ | ⟨c2, rfl, rfl, rfl⟩ | ⟨c2, rfl, rfl, rfl⟩
    · exfalso; (obtain rfl : k = 3 := (by omega)); (obtain rfl : t = 3 := (by omega)); omega
    · exfalso; (obtain rfl : k = 3 := (by omega)); (obtain rfl : t = 3 := (by omega)); omega
    · exfalso; (obtain rfl : k = 3 := (by omega)); (obtain rfl : t = 3 := (by omega)); omega
    · exfalso; (obtain rfl : k = 3 := (by omega)); (obtain rfl : t = 3 := (by omega)); omega
    · (obtain rfl : k = 3 := (by omega)); (obtain rfl : t = 3 := (by omega)); exact ⟨rfl, ⟨⟨Rs_keep ⟨b0, l0, t0⟩ rfl rfl (fun j j0 j1 => cy_o (by omega) (by omega)), x0⟩, ⟨Rs_keep ⟨b1, l1, t1⟩ rfl rfl (fun j j0 j1 => cy_o (by omega) (by omega)), x1⟩, ⟨Rs_keep ⟨b2, l2, t2⟩ rfl rfl (fun j j0 j1 => cy_o (by omega) (by omega)), x2⟩, ⟨Rs_c ⟨b3, l3, t3⟩ ⟨b3, l3, t3⟩ (by omega) (by omega), x3⟩⟩, hf⟩
set_option maxHeartbeats 4000000 in
theorem pu_read {w : Int → Int} {wd : WT} {fd fe bt lg : Int → Int} {ce : Int → Int64} {s0 s1 s2 s3 : Int × Int × (Int → Int64)} {gl : GT} {lr : (Int → Int64) × (Int → Int)} {k : Int} {rC rR : Int32} {fd2 : Int → Int} {gl2 : GT} {lr2 : (Int → Int64) × (Int → Int)} {fe2 : Int → Int} (h : J1 w wd) (hf : J2 fd fe) (h5 : J5 bt lg ce s0 s1 s2 s3) (hC : ((¬ (0 ≤ k ∧ k ≤ 3)) ∧ rC = jI (-1000000001) ∧ fd2 = uI fd 0 (fd 0 + 1)) ∨ ((k = 0 ∧ s0.1 = 0) ∧ rC = jI (-1000000006) ∧ fd2 = uI fd 5 (fd 5 + 1)) ∨ ((k = 0 ∧ s0.1 ≠ 0) ∧ rC = jI (crN (fun m_ => allZ (lkF s0.2.2 (glS wd 0 gl).2.1 (fun b_ p_ => gvT (glS wd 0 gl) b_ p_) (glS wd 0 gl).1.toNat lr.1 (jmin s0.2.1 16).toNat (gq m_)) (jmin s0.2.1 16).toNat) (2 ^ wd.2.2.1.toNat)) ∧ fd2 = fd) ∨ ((k = 1 ∧ s1.1 = 0) ∧ rC = jI (-1000000006) ∧ fd2 = uI fd 5 (fd 5 + 1)) ∨ ((k = 1 ∧ s1.1 ≠ 0) ∧ rC = jI (crN (fun m_ => allZ (lkF s1.2.2 (glS wd 0 gl).2.1 (fun b_ p_ => gvT (glS wd 0 gl) b_ p_) (glS wd 0 gl).1.toNat lr.1 (jmin s1.2.1 16).toNat (gq m_)) (jmin s1.2.1 16).toNat) (2 ^ wd.2.2.1.toNat)) ∧ fd2 = fd) ∨ ((k = 2 ∧ s2.1 = 0) ∧ rC = jI (-1000000006) ∧ fd2 = uI fd 5 (fd 5 + 1)) ∨ ((k = 2 ∧ s2.1 ≠ 0) ∧ rC = jI (crN (fun m_ => allZ (lkF s2.2.2 (glS wd 0 gl).2.1 (fun b_ p_ => gvT (glS wd 0 gl) b_ p_) (glS wd 0 gl).1.toNat lr.1 (jmin s2.2.1 16).toNat (gq m_)) (jmin s2.2.1 16).toNat) (2 ^ wd.2.2.1.toNat)) ∧ fd2 = fd) ∨ ((k = 3 ∧ s3.1 = 0) ∧ rC = jI (-1000000006) ∧ fd2 = uI fd 5 (fd 5 + 1)) ∨ ((k = 3 ∧ s3.1 ≠ 0) ∧ rC = jI (crN (fun m_ => allZ (lkF s3.2.2 (glS wd 0 gl).2.1 (fun b_ p_ => gvT (glS wd 0 gl) b_ p_) (glS wd 0 gl).1.toNat lr.1 (jmin s3.2.1 16).toNat (gq m_)) (jmin s3.2.1 16).toNat) (2 ^ wd.2.2.1.toNat)) ∧ fd2 = fd)) (hR : ((¬ (0 ≤ k ∧ k ≤ 3)) ∧ rR = jI (-1000000001) ∧ fe2 = uI fe 0 (fe 0 + 1)) ∨ (((0 ≤ k ∧ k ≤ 3) ∧ bt k = 0) ∧ rR = jI (-1000000006) ∧ fe2 = uI fe 5 (fe 5 + 1)) ∨ (((0 ≤ k ∧ k ≤ 3) ∧ bt k ≠ 0) ∧ rR = jI (sumN (fun z_ => b2 (jsP w ce k z_ (if lg k < 16 then lg k else 16).toNat)) (2 ^ (w 1).toNat)) ∧ fe2 = fe)) : rC = rR ∧ J2 fd2 fe2 := by
  obtain ⟨⟨⟨e0, e1, e2⟩, -⟩, hw, hc, h9, -⟩ := id h
  obtain ⟨⟨⟨b0, l0, t0⟩, x0⟩, ⟨⟨b1, l1, t1⟩, x1⟩, ⟨⟨b2, l2, t2⟩, x2⟩, ⟨⟨b3, l3, t3⟩, x3⟩⟩ := id h5
  obtain ⟨z0, y0⟩ := id x0
  obtain ⟨z1, y1⟩ := id x1
  obtain ⟨z2, y2⟩ := id x2
  obtain ⟨z3, y3⟩ := id x3
  have m1 := hw.many
  rcases hC with ⟨c1, rfl, rfl⟩ | ⟨c1, rfl, rfl⟩ | ⟨c1, rfl, rfl⟩ | ⟨c1, rfl, rfl⟩ | ⟨c1, rfl, rfl⟩ | ⟨c1, rfl, rfl⟩ | ⟨c1, rfl, rfl⟩ | ⟨c1, rfl, rfl⟩ | ⟨c1, rfl, rfl⟩
  · rcases hR with ⟨c2, rfl, rfl⟩ | ⟨c2, rfl, rfl⟩ | ⟨c2, rfl, rfl⟩
    · exact ⟨rfl, hf.u 0 (by decide) (by decide)⟩
    · exfalso; omega
    · exfalso; omega
  · rcases hR with ⟨c2, rfl, rfl⟩ | ⟨c2, rfl, rfl⟩ | ⟨c2, rfl, rfl⟩
    · exfalso; (obtain rfl : k = 0 := (by omega)); omega
    · exact ⟨rfl, hf.u 5 (by decide) (by decide)⟩
    · exfalso; (obtain rfl : k = 0 := (by omega)); omega
  · rcases hR with ⟨c2, rfl, rfl⟩ | ⟨c2, rfl, rfl⟩ | ⟨c2, rfl, rfl⟩
    · exfalso; (obtain rfl : k = 0 := (by omega)); omega
    · exfalso; (obtain rfl : k = 0 := (by omega)); omega
    · (obtain rfl : k = 0 := (by omega)); exact ⟨congrArg jI (by rw [← l0, ← jm_if, ← e1]; have hj := jmin_z s0.2.1 16; exact read_eq (k := 0) (by show wd.2.2.1.toNat ≤ 10; omega) (by show wd.2.2.1.toNat = _; rw [e1]) (fun p p0 p1 => by show jmax 0 (wd.2.1 p - 0) = _; have q := h.1.2.1 p p0 (by omega); have q2 := hc.bowl p0 (show p < 16 by omega); have q3 := jmax_z 0 (wd.2.1 p - 0); omega) (fun p b p0 p1 b0 b1 => by have b1 : b < (wd.2.2.1.toNat : Int) := b1; show gvT (glS wd 0 gl) b p = _; rw [gvT_S wd 0 gl b p b0 (by omega)]; exact cGv_eq hc h.r0 p b0 (by omega)) (fun p p0 p1 => t0 p p0 (by omega))), hf⟩
  · rcases hR with ⟨c2, rfl, rfl⟩ | ⟨c2, rfl, rfl⟩ | ⟨c2, rfl, rfl⟩
    · exfalso; (obtain rfl : k = 1 := (by omega)); omega
    · exact ⟨rfl, hf.u 5 (by decide) (by decide)⟩
    · exfalso; (obtain rfl : k = 1 := (by omega)); omega
  · rcases hR with ⟨c2, rfl, rfl⟩ | ⟨c2, rfl, rfl⟩ | ⟨c2, rfl, rfl⟩
    · exfalso; (obtain rfl : k = 1 := (by omega)); omega
    · exfalso; (obtain rfl : k = 1 := (by omega)); omega
    · (obtain rfl : k = 1 := (by omega)); exact ⟨congrArg jI (by rw [← l1, ← jm_if, ← e1]; have hj := jmin_z s1.2.1 16; exact read_eq (k := 1) (by show wd.2.2.1.toNat ≤ 10; omega) (by show wd.2.2.1.toNat = _; rw [e1]) (fun p p0 p1 => by show jmax 0 (wd.2.1 p - 0) = _; have q := h.1.2.1 p p0 (by omega); have q2 := hc.bowl p0 (show p < 16 by omega); have q3 := jmax_z 0 (wd.2.1 p - 0); omega) (fun p b p0 p1 b0 b1 => by have b1 : b < (wd.2.2.1.toNat : Int) := b1; show gvT (glS wd 0 gl) b p = _; rw [gvT_S wd 0 gl b p b0 (by omega)]; exact cGv_eq hc h.r0 p b0 (by omega)) (fun p p0 p1 => t1 p p0 (by omega))), hf⟩
  · rcases hR with ⟨c2, rfl, rfl⟩ | ⟨c2, rfl, rfl⟩ | ⟨c2, rfl, rfl⟩
    · exfalso; (obtain rfl : k = 2 := (by omega)); omega
    · exact ⟨rfl, hf.u 5 (by decide) (by decide)⟩
    · exfalso; (obtain rfl : k = 2 := (by omega)); omega
  · rcases hR with ⟨c2, rfl, rfl⟩ | ⟨c2, rfl, rfl⟩ | ⟨c2, rfl, rfl⟩
    · exfalso; (obtain rfl : k = 2 := (by omega)); omega
    · exfalso; (obtain rfl : k = 2 := (by omega)); omega
    · (obtain rfl : k = 2 := (by omega)); exact ⟨congrArg jI (by rw [← l2, ← jm_if, ← e1]; have hj := jmin_z s2.2.1 16; exact read_eq (k := 2) (by show wd.2.2.1.toNat ≤ 10; omega) (by show wd.2.2.1.toNat = _; rw [e1]) (fun p p0 p1 => by show jmax 0 (wd.2.1 p - 0) = _; have q := h.1.2.1 p p0 (by omega); have q2 := hc.bowl p0 (show p < 16 by omega); have q3 := jmax_z 0 (wd.2.1 p - 0); omega) (fun p b p0 p1 b0 b1 => by have b1 : b < (wd.2.2.1.toNat : Int) := b1; show gvT (glS wd 0 gl) b p = _; rw [gvT_S wd 0 gl b p b0 (by omega)]; exact cGv_eq hc h.r0 p b0 (by omega)) (fun p p0 p1 => t2 p p0 (by omega))), hf⟩
  · rcases hR with ⟨c2, rfl, rfl⟩ | ⟨c2, rfl, rfl⟩ | ⟨c2, rfl, rfl⟩
    · exfalso; (obtain rfl : k = 3 := (by omega)); omega
    · exact ⟨rfl, hf.u 5 (by decide) (by decide)⟩
    · exfalso; (obtain rfl : k = 3 := (by omega)); omega
  · rcases hR with ⟨c2, rfl, rfl⟩ | ⟨c2, rfl, rfl⟩ | ⟨c2, rfl, rfl⟩
    · exfalso; (obtain rfl : k = 3 := (by omega)); omega
    · exfalso; (obtain rfl : k = 3 := (by omega)); omega
    · (obtain rfl : k = 3 := (by omega)); exact ⟨congrArg jI (by rw [← l3, ← jm_if, ← e1]; have hj := jmin_z s3.2.1 16; exact read_eq (k := 3) (by show wd.2.2.1.toNat ≤ 10; omega) (by show wd.2.2.1.toNat = _; rw [e1]) (fun p p0 p1 => by show jmax 0 (wd.2.1 p - 0) = _; have q := h.1.2.1 p p0 (by omega); have q2 := hc.bowl p0 (show p < 16 by omega); have q3 := jmax_z 0 (wd.2.1 p - 0); omega) (fun p b p0 p1 b0 b1 => by have b1 : b < (wd.2.2.1.toNat : Int) := b1; show gvT (glS wd 0 gl) b p = _; rw [gvT_S wd 0 gl b p b0 (by omega)]; exact cGv_eq hc h.r0 p b0 (by omega)) (fun p p0 p1 => t3 p p0 (by omega))), hf⟩
set_option maxHeartbeats 4000000 in
theorem pu_lays {w : Int → Int} {wd : WT} {fd fe bt lg : Int → Int} {ce : Int → Int64} {s0 s1 s2 s3 : Int × Int × (Int → Int64)} {k : Int} {rC rR : Int32} {wd2 : WT} {fd2 : Int → Int} {w2 : Int → Int} {fe2 : Int → Int} (h : J1 w wd) (hf : J2 fd fe) (h5 : J5 bt lg ce s0 s1 s2 s3) (hC : ((¬ (0 ≤ k ∧ k ≤ 3)) ∧ rC = jI (-1000000001) ∧ wd2 = wd ∧ fd2 = uI fd 0 (fd 0 + 1)) ∨ ((k = 0 ∧ s0.1 = 0) ∧ rC = jI (-1000000006) ∧ wd2 = wd ∧ fd2 = uI fd 5 (fd 5 + 1)) ∨ ((k = 0 ∧ s0.1 ≠ 0) ∧ rC = jI (lyC s0.2.2 (jmin s0.2.1 16).toNat) ∧ wd2 = (wd.1, lyB wd.2.1 s0.2.2 (jmin s0.2.1 16).toNat, wd.2.2.1, wd.2.2.2.1, wd.2.2.2.2.1, wd.2.2.2.2.2.1, wd.2.2.2.2.2.2.1, wd.2.2.2.2.2.2.2.1, wd.2.2.2.2.2.2.2.2.1, wd.2.2.2.2.2.2.2.2.2.1, wd.2.2.2.2.2.2.2.2.2.2.1, wd.2.2.2.2.2.2.2.2.2.2.2) ∧ fd2 = fd) ∨ ((k = 1 ∧ s1.1 = 0) ∧ rC = jI (-1000000006) ∧ wd2 = wd ∧ fd2 = uI fd 5 (fd 5 + 1)) ∨ ((k = 1 ∧ s1.1 ≠ 0) ∧ rC = jI (lyC s1.2.2 (jmin s1.2.1 16).toNat) ∧ wd2 = (wd.1, lyB wd.2.1 s1.2.2 (jmin s1.2.1 16).toNat, wd.2.2.1, wd.2.2.2.1, wd.2.2.2.2.1, wd.2.2.2.2.2.1, wd.2.2.2.2.2.2.1, wd.2.2.2.2.2.2.2.1, wd.2.2.2.2.2.2.2.2.1, wd.2.2.2.2.2.2.2.2.2.1, wd.2.2.2.2.2.2.2.2.2.2.1, wd.2.2.2.2.2.2.2.2.2.2.2) ∧ fd2 = fd) ∨ ((k = 2 ∧ s2.1 = 0) ∧ rC = jI (-1000000006) ∧ wd2 = wd ∧ fd2 = uI fd 5 (fd 5 + 1)) ∨ ((k = 2 ∧ s2.1 ≠ 0) ∧ rC = jI (lyC s2.2.2 (jmin s2.2.1 16).toNat) ∧ wd2 = (wd.1, lyB wd.2.1 s2.2.2 (jmin s2.2.1 16).toNat, wd.2.2.1, wd.2.2.2.1, wd.2.2.2.2.1, wd.2.2.2.2.2.1, wd.2.2.2.2.2.2.1, wd.2.2.2.2.2.2.2.1, wd.2.2.2.2.2.2.2.2.1, wd.2.2.2.2.2.2.2.2.2.1, wd.2.2.2.2.2.2.2.2.2.2.1, wd.2.2.2.2.2.2.2.2.2.2.2) ∧ fd2 = fd) ∨ ((k = 3 ∧ s3.1 = 0) ∧ rC = jI (-1000000006) ∧ wd2 = wd ∧ fd2 = uI fd 5 (fd 5 + 1)) ∨ ((k = 3 ∧ s3.1 ≠ 0) ∧ rC = jI (lyC s3.2.2 (jmin s3.2.1 16).toNat) ∧ wd2 = (wd.1, lyB wd.2.1 s3.2.2 (jmin s3.2.1 16).toNat, wd.2.2.1, wd.2.2.2.1, wd.2.2.2.2.1, wd.2.2.2.2.2.1, wd.2.2.2.2.2.2.1, wd.2.2.2.2.2.2.2.1, wd.2.2.2.2.2.2.2.2.1, wd.2.2.2.2.2.2.2.2.2.1, wd.2.2.2.2.2.2.2.2.2.2.1, wd.2.2.2.2.2.2.2.2.2.2.2) ∧ fd2 = fd)) (hR : ((¬ (0 ≤ k ∧ k ≤ 3)) ∧ rR = jI (-1000000001) ∧ w2 = w ∧ fe2 = uI fe 0 (fe 0 + 1)) ∨ (((0 ≤ k ∧ k ≤ 3) ∧ bt k = 0) ∧ rR = jI (-1000000006) ∧ w2 = w ∧ fe2 = uI fe 5 (fe 5 + 1)) ∨ (((0 ≤ k ∧ k ≤ 3) ∧ bt k ≠ 0) ∧ rR = jI (lyC (fun z_ => ce (40 * k + z_)) (if lg k < 16 then lg k else 16).toNat) ∧ w2 = lyW w (fun z_ => ce (40 * k + z_)) (if lg k < 16 then lg k else 16).toNat ∧ fe2 = fe)) : rC = rR ∧ J1 w2 wd2 ∧ J2 fd2 fe2 := by
  obtain ⟨⟨⟨e0, e1, e2⟩, -⟩, hw, hc, h9, -⟩ := id h
  obtain ⟨⟨⟨b0, l0, t0⟩, x0⟩, ⟨⟨b1, l1, t1⟩, x1⟩, ⟨⟨b2, l2, t2⟩, x2⟩, ⟨⟨b3, l3, t3⟩, x3⟩⟩ := id h5
  obtain ⟨z0, y0⟩ := id x0
  obtain ⟨z1, y1⟩ := id x1
  obtain ⟨z2, y2⟩ := id x2
  obtain ⟨z3, y3⟩ := id x3
  have m1 := hw.many
  rcases hC with ⟨c1, rfl, rfl, rfl⟩ | ⟨c1, rfl, rfl, rfl⟩ | ⟨c1, rfl, rfl, rfl⟩ | ⟨c1, rfl, rfl, rfl⟩ | ⟨c1, rfl, rfl, rfl⟩ | ⟨c1, rfl, rfl, rfl⟩ | ⟨c1, rfl, rfl, rfl⟩ | ⟨c1, rfl, rfl, rfl⟩ | ⟨c1, rfl, rfl, rfl⟩
  · rcases hR with ⟨c2, rfl, rfl, rfl⟩ | ⟨c2, rfl, rfl, rfl⟩ | ⟨c2, rfl, rfl, rfl⟩
    · exact ⟨rfl, h, hf.u 0 (by decide) (by decide)⟩
    · exfalso; omega
    · exfalso; omega
  · rcases hR with ⟨c2, rfl, rfl, rfl⟩ | ⟨c2, rfl, rfl, rfl⟩ | ⟨c2, rfl, rfl, rfl⟩
    · exfalso; (obtain rfl : k = 0 := (by omega)); omega
    · exact ⟨rfl, h, hf.u 5 (by decide) (by decide)⟩
    · exfalso; (obtain rfl : k = 0 := (by omega)); omega
  · rcases hR with ⟨c2, rfl, rfl, rfl⟩ | ⟨c2, rfl, rfl, rfl⟩ | ⟨c2, rfl, rfl, rfl⟩
    · exfalso; (obtain rfl : k = 0 := (by omega)); omega
    · exfalso; (obtain rfl : k = 0 := (by omega)); omega
    · (obtain rfl : k = 0 := (by omega)); exact ⟨congrArg jI (by rw [← l0, ← jm_if]; have hj := jmin_z s0.2.1 16; exact lyC_cg _ (fun j j0 j1 => t0 j j0 (by omega))), (by rw [← l0, ← jm_if]; have hj := jmin_z s0.2.1 16; exact h.lays _ (by omega) (fun j j0 j1 => t0 j j0 (by omega))), hf⟩
  · rcases hR with ⟨c2, rfl, rfl, rfl⟩ | ⟨c2, rfl, rfl, rfl⟩ | ⟨c2, rfl, rfl, rfl⟩
    · exfalso; (obtain rfl : k = 1 := (by omega)); omega
    · exact ⟨rfl, h, hf.u 5 (by decide) (by decide)⟩
    · exfalso; (obtain rfl : k = 1 := (by omega)); omega
  · rcases hR with ⟨c2, rfl, rfl, rfl⟩ | ⟨c2, rfl, rfl, rfl⟩ | ⟨c2, rfl, rfl, rfl⟩
    · exfalso; (obtain rfl : k = 1 := (by omega)); omega
    · exfalso; (obtain rfl : k = 1 := (by omega)); omega
    · (obtain rfl : k = 1 := (by omega)); exact ⟨congrArg jI (by rw [← l1, ← jm_if]; have hj := jmin_z s1.2.1 16; exact lyC_cg _ (fun j j0 j1 => t1 j j0 (by omega))), (by rw [← l1, ← jm_if]; have hj := jmin_z s1.2.1 16; exact h.lays _ (by omega) (fun j j0 j1 => t1 j j0 (by omega))), hf⟩
  · rcases hR with ⟨c2, rfl, rfl, rfl⟩ | ⟨c2, rfl, rfl, rfl⟩ | ⟨c2, rfl, rfl, rfl⟩
    · exfalso; (obtain rfl : k = 2 := (by omega)); omega
    · exact ⟨rfl, h, hf.u 5 (by decide) (by decide)⟩
    · exfalso; (obtain rfl : k = 2 := (by omega)); omega
  · rcases hR with ⟨c2, rfl, rfl, rfl⟩ | ⟨c2, rfl, rfl, rfl⟩ | ⟨c2, rfl, rfl, rfl⟩
    · exfalso; (obtain rfl : k = 2 := (by omega)); omega
    · exfalso; (obtain rfl : k = 2 := (by omega)); omega
    · (obtain rfl : k = 2 := (by omega)); exact ⟨congrArg jI (by rw [← l2, ← jm_if]; have hj := jmin_z s2.2.1 16; exact lyC_cg _ (fun j j0 j1 => t2 j j0 (by omega))), (by rw [← l2, ← jm_if]; have hj := jmin_z s2.2.1 16; exact h.lays _ (by omega) (fun j j0 j1 => t2 j j0 (by omega))), hf⟩
  · rcases hR with ⟨c2, rfl, rfl, rfl⟩ | ⟨c2, rfl, rfl, rfl⟩ | ⟨c2, rfl, rfl, rfl⟩
    · exfalso; (obtain rfl : k = 3 := (by omega)); omega
    · exact ⟨rfl, h, hf.u 5 (by decide) (by decide)⟩
    · exfalso; (obtain rfl : k = 3 := (by omega)); omega
  · rcases hR with ⟨c2, rfl, rfl, rfl⟩ | ⟨c2, rfl, rfl, rfl⟩ | ⟨c2, rfl, rfl, rfl⟩
    · exfalso; (obtain rfl : k = 3 := (by omega)); omega
    · exfalso; (obtain rfl : k = 3 := (by omega)); omega
    · (obtain rfl : k = 3 := (by omega)); exact ⟨congrArg jI (by rw [← l3, ← jm_if]; have hj := jmin_z s3.2.1 16; exact lyC_cg _ (fun j j0 j1 => t3 j j0 (by omega))), (by rw [← l3, ← jm_if]; have hj := jmin_z s3.2.1 16; exact h.lays _ (by omega) (fun j j0 j1 => t3 j j0 (by omega))), hf⟩

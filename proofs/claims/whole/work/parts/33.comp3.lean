theorem Wc.feed {x : WT} (h : Wc x) {z v : Int} (hz : 0 ≤ z ∧ z < 10) (hv : 0 ≤ v ∧ v ≤ 99) : Wc (x.1, x.2.1, x.2.2.1, x.2.2.2.1, x.2.2.2.2.1, x.2.2.2.2.2.1, uI x.2.2.2.2.2.2.1 z v, uI x.2.2.2.2.2.2.2.1 z 0, x.2.2.2.2.2.2.2.2.1, x.2.2.2.2.2.2.2.2.2.1, x.2.2.2.2.2.2.2.2.2.2.1, x.2.2.2.2.2.2.2.2.2.2.2) := by
  obtain ⟨h0, h1, h2, h3, h4, h5⟩ := h
  refine ⟨h0, h1, h2, h3, fun b b0 b1 => ?_, h5⟩
  have a := h4 b b0 b1
  refine ⟨a.1, a.2.1, a.2.2.1, ?_, ?_⟩
  · show 0 ≤ uI x.2.2.2.2.2.2.1 z v b ∧ uI x.2.2.2.2.2.2.1 z v b ≤ 99
    unfold uI; split <;> omega
  · show 0 ≤ uI x.2.2.2.2.2.2.2.1 z 0 b ∧ uI x.2.2.2.2.2.2.2.1 z 0 b ≤ 999
    unfold uI; split <;> omega
theorem Wc.hours {x : WT} (h : Wc x) {n : Int} (hn : 0 ≤ n) (hr : x.1 + n ≤ 20000) : Wc (x.1 + n, boF x n, x.2.2.1, x.2.2.2.1, cpN (stF x n) x.2.2.2.2.1 x.2.2.1.toNat, x.2.2.2.2.2.1, x.2.2.2.2.2.2.1, cpN (faF x n) x.2.2.2.2.2.2.2.1 x.2.2.1.toNat, x.2.2.2.2.2.2.2.2.1, x.2.2.2.2.2.2.2.2.2.1, x.2.2.2.2.2.2.2.2.2.2.1, x.2.2.2.2.2.2.2.2.2.2.2) := by
  have hh := h.hour
  obtain ⟨q0, q1, q2, q3, q4, q5⟩ := phX_w h hn x.2.2.1.toNat x.2.2.1.toNat 16
  refine ⟨⟨by show 0 ≤ x.1 + n; omega, hr⟩, q1, q2, fun p p0 p1 => ?_, q4, q5⟩
  have a := q3 p p0 p1
  have e : cpN (boF x n) x.2.1 16 p = boF x n p := if_pos (by omega)
  show 0 ≤ boF x n p ∧ boF x n p ≤ 99
  rw [← e]
  exact a
def ckC (x : WT) (t c : Int) : Prop := (0 ≤ x.2.2.2.2.2.2.2.2.2.2.1 t - x.1 ∧ x.2.2.2.2.2.2.2.2.2.2.1 t - x.1 ≤ 100) ∧ ¬ cDn x t ∧ (c < 0 ∨ x.2.2.2.2.2.2.2.2.2.2.1 t < x.2.2.2.2.2.2.2.2.2.2.1 c)
noncomputable def ckN (x : WT) : Nat → Int
  | 0 => -1
  | k + 1 => @ite Int (ckC x (k : Int) (ckN x k)) (Classical.propDecidable _) (k : Int) (ckN x k)
theorem ck_t {x : WT} {k : Nat} (h : ckC x (k : Int) (ckN x k)) : ckN x (k + 1) = (k : Int) := if_pos h
theorem ck_f {x : WT} {k : Nat} (h : ¬ ckC x (k : Int) (ckN x k)) : ckN x (k + 1) = ckN x k := if_neg h
theorem ckN_r (x : WT) : ∀ k : Nat, -1 ≤ ckN x k ∧ ckN x k < k := by
  intro k
  induction k with
  | zero => exact ⟨Int.le_refl _, by show (-1 : Int) < ((0 : Nat) : Int); omega⟩
  | succ k ih =>
    rcases Classical.em (ckC x (k : Int) (ckN x k)) with q | q
    · rw [ck_t q]; omega
    · rw [ck_f q]; omega
def cOut (x : WT) (n : Int) : Prop := sumN (boF x n) 16 = 0 ∧ sumN (shF x n) x.2.2.1.toNat = 0
theorem cOut_g (x : WT) (n : Int) (g : GT) : (sumN (glS x n g).2.1 16 = 0 ∧ sumN (glS x n g).2.2.2.1 (glS x n g).1.toNat = 0) ↔ cOut x n := by
  have e : sumN (glS x n g).2.2.2.1 (glS x n g).1.toNat = sumN (shF x n) x.2.2.1.toNat := by
    show sumN (cpN (shF x n) g.2.2.2.1 x.2.2.1.toNat) x.2.2.1.toNat = _
    exact sumN_c _ (fun k h0 hk => if_pos (by omega))
  rw [e]
  exact Iff.rfl
section
variable {l : Launch} {D : va_G} {cI cL cB cS : ClassId} {a b c : Nat → Nat} {x o wd kw tw : WT} {g gl : GT} {fd li : Int → Int} {ks : Int}
set_option maxHeartbeats 4000000 in
set_option maxRecDepth 100000 in
theorem c_X8_bowl (p v : Int) (hw : Wc wd) (hr : (-2147483648 ≤ p ∧ p ≤ 2147483647) ∧ (-2147483648 ≤ v ∧ v ≤ 2147483647)) : Ci l yX8_bowl wsX8_bowl { frames := 2, cells := 0, slots := 0, locals := 44 } D (jT cI cL cB cS) [.ref (a 0), .int (jI p), .int (jI v)] (gS  a ks ++ gW cI (fun i => a (1 + i)) wd ++ gF cI a fd) (S := WT × (Int → Int)) (fun u => (gS  a ks ++ gW cI (fun i => a (1 + i)) u.1 ++ gF cI a u.2)) (fun r u => ((((0 ≤ p ∧ p ≤ 15) ∧ 0 ≤ v ∧ v ≤ 99)) ∧ r = jI (wd.2.1 p) ∧ u.1 = (wd.1, uI wd.2.1 p v, wd.2.2.1, wd.2.2.2.1, wd.2.2.2.2.1, wd.2.2.2.2.2.1, wd.2.2.2.2.2.2.1, wd.2.2.2.2.2.2.2.1, wd.2.2.2.2.2.2.2.2.1, wd.2.2.2.2.2.2.2.2.2.1, wd.2.2.2.2.2.2.2.2.2.2.1, wd.2.2.2.2.2.2.2.2.2.2.2) ∧ u.2 = fd) ∨ ((¬ ((0 ≤ p ∧ p ≤ 15) ∧ 0 ≤ v ∧ v ≤ 99)) ∧ r = jI (-1000000001) ∧ u.1 = wd ∧ u.2 = uI fd 0 (fd 0 + 1))) := by
  refine Ci.mk (cc := cX8_bowl) (maxL := 4) (rt := .int) (by decide) rfl (Nat.le_of_ble_eq_true rfl) rfl ?_
  intro p_ e_ s_ m_ b_ me_ c_ A_ G hnm
  have q_0 : Cond.constant RX8 83 (-1000000001) ∈ wsX8_bowl := List.mem_of_getElem? (i := 1) rfl
  have k_X8 : ∀ w ∈ u_ws RX8 TX8 12, w ∈ wsX8_bowl := fun _ h => List.mem_cons_of_mem _ (List.mem_append_left _ (List.mem_append_right _ h))
  have q_2 : Cond.fieldLink RX8 10 "SupperLight" "world" "LSupperLight$World;" ∈ wsX8_bowl := List.mem_of_getElem? (i := 2) rfl
  have k_X7 : ∀ w ∈ u_ws RX7 TX7 12, w ∈ wsX8_bowl := fun _ h => List.mem_cons_of_mem _ (List.mem_append_right _ h)
  have q_4 : Cond.fieldLink RX8 88 "SupperLight$World" "bowls" "[I" ∈ wsX8_bowl := List.mem_of_getElem? (i := 3) rfl
  refine v_iload_n (j := 1) (x := jI p) G dX8_bowl_0 rfl rfl ?_
  refine v_ciN G (rn_S (As := [.int (jI p)]) (rest := []) G (c_X8_isPlace (p := p) (hr := (by omega))) gX8_bowl_X8_isPlace rfl hdX8_isPlace ⟨rfl, rfl, Nat.le_of_ble_eq_true rfl, Nat.le_of_ble_eq_true rfl⟩ rfl rfl (Nat.le_of_ble_eq_true rfl) ⟨Nat.zero_le _, Nat.zero_le _⟩ dX8_bowl_1) (fun r_1 u_3 e_2 => ?_)
  have e_2 : r_1 = jI (b2 (0 ≤ p ∧ p ≤ 15)) := e_2
  subst e_2
  refine v_ifb_eq (P := 0 ≤ p ∧ p ≤ 15) (tgt := 17) G dX8_bowl_4 (by decide) (fun c_4 => ?_) (fun c_4 => ?_)
  · skip
    refine v_aload_n (j := 0) (x := a 0) G dX8_bowl_17 rfl rfl ?_
    refine v_ldc (z := (-1000000001)) G q_0 (by decide) dX8_bowl_18 ?_
    refine v_ciP (w2 := (fun _ => (gS  a ks ++ gW cI (fun i => a (1 + i)) wd ++ gF cI a (uI fd 0 (fd 0 + 1))))) (wr := (gW cI (fun i => a (1 + i)) wd)) G (rn_V (As := [.int (jI (-1000000001))]) (rest := []) (q0 := 0) G (c_X8_found_0 (ks := ks) (fd := fd) (a := a) ) gX8_bowl_X8_found rfl hdX8_found ⟨rfl, rfl, Nat.le_of_ble_eq_true rfl, Nat.le_of_ble_eq_true rfl⟩ rfl rfl (Nat.le_of_ble_eq_true rfl) ⟨Nat.zero_le _, Nat.zero_le _⟩ rfl rfl dX8_bowl_20) [0, 11] [1, 2, 3, 4, 5, 6, 7, 8, 9, 10] [10, 0, 1, 2, 3, 4, 5, 6, 7, 8, 9, 11] rfl rfl (by decide) (fun _ => rfl) (fun r_5 u_7 e_6 => ?_)
    have e_6 : r_5 = jI (-1000000001) := e_6
    subst e_6
    refine v_world (ws' := (gS  a ks ++ gW cI (fun i => a (1 + i)) wd ++ gF cI a (uI fd 0 (fd 0 + 1)))) rfl ?_
    exact v_iret G (wd, uI fd 0 (fd 0 + 1)) (by first | exact Or.inl ⟨(by omega), (by first | rfl | exact congrArg jI (by omega)), rfl, rfl⟩ | exact Or.inr (⟨(by omega), (by first | rfl | exact congrArg jI (by omega)), rfl, rfl⟩)) rfl dX8_bowl_23
  · skip
    refine v_iload_n (j := 2) (x := jI v) G dX8_bowl_7 rfl rfl ?_
    refine v_iconst G dX8_bowl_8 ?_
    refine v_bipush G dX8_bowl_9 (by decide) ?_
    refine v_ciN G (rn_S (As := [.int (jI v), .int (jI 0), .int (jI 99)]) (rest := []) G (c_X8_within (v := v) (lo := 0) (hi := 99) (hr := (by omega))) gX8_bowl_X8_within rfl hdX8_within ⟨rfl, rfl, Nat.le_of_ble_eq_true rfl, Nat.le_of_ble_eq_true rfl⟩ rfl rfl (Nat.le_of_ble_eq_true rfl) ⟨Nat.zero_le _, Nat.zero_le _⟩ dX8_bowl_11) (fun r_8 u_10 e_9 => ?_)
    have e_9 : r_8 = jI (b2 ((0 : Int) ≤ v ∧ v ≤ (99 : Int))) := e_9
    subst e_9
    refine v_ifb_ne (P := (0 : Int) ≤ v ∧ v ≤ (99 : Int)) (tgt := 24) G dX8_bowl_14 (by decide) (fun c_11 => ?_) (fun c_11 => ?_)
    · skip
      refine v_aload_n (j := 0) (x := a 0) G dX8_bowl_24 rfl rfl ?_
      refine v_get (q0 := 0) (k := 0) (v := .ref (a 1)) G k_X8 rfl rfl (by decide) q_2 rfl rfl dX8_bowl_25 ?_
      refine v_get (q0 := 1) (k := 1) (v := .ref (a 2)) G k_X7 rfl rfl (by decide) q_4 rfl rfl dX8_bowl_28 ?_
      refine v_iload_n (j := 1) (x := jI p) G dX8_bowl_31 rfl rfl ?_
      refine v_iald (q0 := 2) (t0 := 0) (g := wd.2.1) (z := p) G rfl rfl (by omega) dX8_bowl_32 ?_
      refine v_istore_n (lv' := [(3, .int (jI (wd.2.1 p))), (0, .ref (a 0)), (1, .int (jI p)), (2, .int (jI v))]) G dX8_bowl_33 rfl (by decide) rfl ?_
      refine v_aload_n (j := 1) (x := a 0) G dX8_bowl_34 rfl rfl ?_
      refine v_get (q0 := 0) (k := 0) (v := .ref (a 1)) G k_X8 rfl rfl (by decide) q_2 rfl rfl dX8_bowl_35 ?_
      refine v_get (q0 := 1) (k := 1) (v := .ref (a 2)) G k_X7 rfl rfl (by decide) q_4 rfl rfl dX8_bowl_38 ?_
      refine v_iload_n (j := 2) (x := jI p) G dX8_bowl_41 rfl rfl ?_
      refine v_iload_n (j := 3) (x := jI v) G dX8_bowl_42 rfl rfl ?_
      refine v_iast (q0 := 2) (t0 := 0) (g := wd.2.1) (z := p) (x := v) (ws' := (gS  a ks ++ gW cI (fun i => a (1 + i)) (wd.1, uI wd.2.1 p v, wd.2.2.1, wd.2.2.2.1, wd.2.2.2.2.1, wd.2.2.2.2.2.1, wd.2.2.2.2.2.2.1, wd.2.2.2.2.2.2.2.1, wd.2.2.2.2.2.2.2.2.1, wd.2.2.2.2.2.2.2.2.2.1, wd.2.2.2.2.2.2.2.2.2.2.1, wd.2.2.2.2.2.2.2.2.2.2.2) ++ gF cI a fd)) G rfl rfl (by omega) rfl dX8_bowl_43 ?_
      refine v_iload_n (j := 0) (x := jI (wd.2.1 p)) G dX8_bowl_44 rfl rfl ?_
      exact v_iret G ((wd.1, uI wd.2.1 p v, wd.2.2.1, wd.2.2.2.1, wd.2.2.2.2.1, wd.2.2.2.2.2.1, wd.2.2.2.2.2.2.1, wd.2.2.2.2.2.2.2.1, wd.2.2.2.2.2.2.2.2.1, wd.2.2.2.2.2.2.2.2.2.1, wd.2.2.2.2.2.2.2.2.2.2.1, wd.2.2.2.2.2.2.2.2.2.2.2), fd) (by first | exact Or.inl ⟨(by omega), (by first | rfl | exact congrArg jI (by omega)), rfl, rfl⟩ | exact Or.inr (⟨(by omega), (by first | rfl | exact congrArg jI (by omega)), rfl, rfl⟩)) rfl dX8_bowl_45
    · skip
      refine v_aload_n (j := 0) (x := a 0) G dX8_bowl_17 rfl rfl ?_
      refine v_ldc (z := (-1000000001)) G q_0 (by decide) dX8_bowl_18 ?_
      refine v_ciP (w2 := (fun _ => (gS  a ks ++ gW cI (fun i => a (1 + i)) wd ++ gF cI a (uI fd 0 (fd 0 + 1))))) (wr := (gW cI (fun i => a (1 + i)) wd)) G (rn_V (As := [.int (jI (-1000000001))]) (rest := []) (q0 := 0) G (c_X8_found_0 (ks := ks) (fd := fd) (a := a) ) gX8_bowl_X8_found rfl hdX8_found ⟨rfl, rfl, Nat.le_of_ble_eq_true rfl, Nat.le_of_ble_eq_true rfl⟩ rfl rfl (Nat.le_of_ble_eq_true rfl) ⟨Nat.zero_le _, Nat.zero_le _⟩ rfl rfl dX8_bowl_20) [0, 11] [1, 2, 3, 4, 5, 6, 7, 8, 9, 10] [10, 0, 1, 2, 3, 4, 5, 6, 7, 8, 9, 11] rfl rfl (by decide) (fun _ => rfl) (fun r_12 u_14 e_13 => ?_)
      have e_13 : r_12 = jI (-1000000001) := e_13
      subst e_13
      refine v_world (ws' := (gS  a ks ++ gW cI (fun i => a (1 + i)) wd ++ gF cI a (uI fd 0 (fd 0 + 1)))) rfl ?_
      exact v_iret G (wd, uI fd 0 (fd 0 + 1)) (by first | exact Or.inl ⟨(by omega), (by first | rfl | exact congrArg jI (by omega)), rfl, rfl⟩ | exact Or.inr (⟨(by omega), (by first | rfl | exact congrArg jI (by omega)), rfl, rfl⟩)) rfl dX8_bowl_23

set_option maxHeartbeats 4000000 in
set_option maxRecDepth 100000 in
theorem c_X8_light (p : Int) (hw : Wc wd) (hr : (-2147483648 ≤ p ∧ p ≤ 2147483647)) : Ci l yX8_light wsX8_light { frames := 5, cells := 0, slots := 0, locals := 114 } D (jT cI cL cB cS) [.ref (a 0), .int (jI p)] (gS  a ks ++ gW cI (fun i => a (1 + i)) wd ++ gG cI (fun i => a (31 + i)) gl ++ gF cI a fd) (S := (Int → Int) × GT) (fun u => (gS  a ks ++ gW cI (fun i => a (1 + i)) wd ++ gG cI (fun i => a (31 + i)) u.2 ++ gF cI a u.1)) (fun r u => (((0 ≤ p ∧ p ≤ 15)) ∧ r = jI (cLt wd 0 p) ∧ u.1 = fd) ∨ ((¬ (0 ≤ p ∧ p ≤ 15)) ∧ r = jI (-1000000001) ∧ u.1 = uI fd 0 (fd 0 + 1))) := by
  refine Ci.mk (cc := cX8_light) (maxL := 2) (rt := .int) (by decide) rfl (Nat.le_of_ble_eq_true rfl) rfl ?_
  intro p_ e_ s_ m_ b_ me_ c_ A_ G hnm
  have q_0 : Cond.constant RX8 83 (-1000000001) ∈ wsX8_light := List.mem_of_getElem? (i := 1) rfl
  refine v_iload_n (j := 1) (x := jI p) G dX8_light_0 rfl rfl ?_
  refine v_ciN G (rn_S (As := [.int (jI p)]) (rest := []) G (c_X8_isPlace (p := p) (hr := (by omega))) gX8_light_X8_isPlace rfl hdX8_isPlace ⟨rfl, rfl, Nat.le_of_ble_eq_true rfl, Nat.le_of_ble_eq_true rfl⟩ rfl rfl (Nat.le_of_ble_eq_true rfl) ⟨Nat.zero_le _, Nat.zero_le _⟩ dX8_light_1) (fun r_1 u_3 e_2 => ?_)
  have e_2 : r_1 = jI (b2 (0 ≤ p ∧ p ≤ 15)) := e_2
  subst e_2
  refine v_ifb_eq (P := 0 ≤ p ∧ p ≤ 15) (tgt := 16) G dX8_light_4 (by decide) (fun c_4 => ?_) (fun c_4 => ?_)
  · skip
    refine v_aload_n (j := 0) (x := a 0) G dX8_light_16 rfl rfl ?_
    refine v_ldc (z := (-1000000001)) G q_0 (by decide) dX8_light_17 ?_
    refine v_ciP (w2 := (fun _ => (gS  a ks ++ gW cI (fun i => a (1 + i)) wd ++ gG cI (fun i => a (31 + i)) gl ++ gF cI a (uI fd 0 (fd 0 + 1))))) (wr := (gW cI (fun i => a (1 + i)) wd ++ gG cI (fun i => a (31 + i)) gl)) G (rn_V (As := [.int (jI (-1000000001))]) (rest := []) (q0 := 0) G (c_X8_found_0 (ks := ks) (fd := fd) (a := a) ) gX8_light_X8_found rfl hdX8_found ⟨rfl, rfl, Nat.le_of_ble_eq_true rfl, Nat.le_of_ble_eq_true rfl⟩ rfl rfl (Nat.le_of_ble_eq_true rfl) ⟨Nat.zero_le _, Nat.zero_le _⟩ rfl rfl dX8_light_19) [0, 16] [1, 2, 3, 4, 5, 6, 7, 8, 9, 10, 11, 12, 13, 14, 15] [15, 0, 1, 2, 3, 4, 5, 6, 7, 8, 9, 10, 11, 12, 13, 14, 16] rfl rfl (by decide) (fun _ => rfl) (fun r_5 u_7 e_6 => ?_)
    have e_6 : r_5 = jI (-1000000001) := e_6
    subst e_6
    refine v_world (ws' := (gS  a ks ++ gW cI (fun i => a (1 + i)) wd ++ gG cI (fun i => a (31 + i)) gl ++ gF cI a (uI fd 0 (fd 0 + 1)))) rfl ?_
    exact v_iret G (uI fd 0 (fd 0 + 1), gl) (by first | exact Or.inl ⟨(by omega), (by first | rfl | exact congrArg jI (by omega)), rfl⟩ | exact Or.inr (⟨(by omega), (by first | rfl | exact congrArg jI (by omega)), rfl⟩)) rfl dX8_light_22
  · skip
    refine v_aload_n (j := 0) (x := a 0) G dX8_light_7 rfl rfl ?_
    refine v_iload_n (j := 1) (x := jI p) G dX8_light_8 rfl rfl ?_
    refine v_iconst G dX8_light_9 ?_
    refine v_ciP (w2 := (fun _ => (gS  a ks ++ gW cI (fun i => a (1 + i)) wd ++ gG cI (fun i => a (31 + i)) (glS wd 0 gl) ++ gF cI a fd))) (wr := (gF cI a fd)) G (rn_V (As := [.int (jI p), .int (jI 0)]) (rest := []) (q0 := 0) G (c_X8_lightOn (p := p) (n := 0) (ks := ks) (wd := wd) (gl := gl) (a := a) (hw := hw) (hp := (by omega))) gX8_light_X8_lightOn rfl hdX8_lightOn ⟨rfl, rfl, Nat.le_of_ble_eq_true rfl, Nat.le_of_ble_eq_true rfl⟩ rfl rfl (Nat.le_of_ble_eq_true rfl) ⟨Nat.zero_le _, Nat.zero_le _⟩ rfl rfl dX8_light_10) [0, 1, 2, 3, 4, 5, 6, 7, 8, 9, 10, 11, 12, 13, 14, 15] [16] [1, 2, 3, 4, 5, 6, 7, 8, 9, 10, 11, 12, 13, 14, 15, 16, 0] rfl rfl (by decide) (fun _ => rfl) (fun r_8 u_10 e_9 => ?_)
    have e_9 : r_8 = jI (cLt wd 0 p) := e_9
    subst e_9
    refine v_world (ws' := (gS  a ks ++ gW cI (fun i => a (1 + i)) wd ++ gG cI (fun i => a (31 + i)) (glS wd 0 gl) ++ gF cI a fd)) rfl ?_
    refine v_goto (tgt := 22) G dX8_light_13 (by decide) ?_
    exact v_iret G (fd, (glS wd 0 gl)) (by first | exact Or.inl ⟨(by omega), (by first | rfl | exact congrArg jI (by omega)), rfl⟩ | exact Or.inr (⟨(by omega), (by first | rfl | exact congrArg jI (by omega)), rfl⟩)) rfl dX8_light_22

set_option maxHeartbeats 4000000 in
set_option maxRecDepth 100000 in
theorem c_X8_brightest  (hw : Wc wd) : Ci l yX8_brightest wsX8_brightest { frames := 5, cells := 0, slots := 0, locals := 113 } D (jT cI cL cB cS) [.ref (a 0)] (gS  a ks ++ gW cI (fun i => a (1 + i)) wd ++ gG cI (fun i => a (31 + i)) gl ++ gI cI a li) (S := GT × (Int → Int)) (fun u => (gS  a ks ++ gW cI (fun i => a (1 + i)) wd ++ gG cI (fun i => a (31 + i)) u.1 ++ gI cI a u.2)) (fun r u => ((True) ∧ r = jI (brN (cLt wd 0) 15))) := by
  refine Ci.mk (cc := cX8_brightest) (maxL := 3) (rt := .int) (by decide) rfl (Nat.le_of_ble_eq_true rfl) rfl ?_
  intro p_ e_ s_ m_ b_ me_ c_ A_ G hnm
  have k_X8 : ∀ w ∈ u_ws RX8 TX8 12, w ∈ wsX8_brightest := fun _ h => List.mem_cons_of_mem _ (List.mem_append_left _ (List.mem_append_left _ (List.mem_append_right _ h)))
  have q_1 : Cond.fieldLink RX8 68 "SupperLight" "lights" "[I" ∈ wsX8_brightest := List.mem_of_getElem? (i := 1) rfl
  refine v_aload_n (j := 0) (x := a 0) G dX8_brightest_0 rfl rfl ?_
  refine v_cvF G (rn_V (As := []) (rest := []) (q0 := 0) G (c_X8_lightAll (ks := ks) (wd := wd) (gl := gl) (li := li) (a := a) (hw := hw)) gX8_brightest_X8_lightAll rfl hdX8_lightAll ⟨rfl, rfl, Nat.le_of_ble_eq_true rfl, Nat.le_of_ble_eq_true rfl⟩ rfl rfl (Nat.le_of_ble_eq_true rfl) ⟨Nat.zero_le _, Nat.zero_le _⟩ rfl rfl dX8_brightest_1) (fun u_3 e_2 => ?_)
  refine v_world (ws' := (gS  a ks ++ gW cI (fun i => a (1 + i)) wd ++ gG cI (fun i => a (31 + i)) (glS wd 0 gl) ++ gI cI a (cLt wd 0))) rfl ?_
  refine v_iconst G dX8_brightest_4 ?_
  refine v_istore_n (lv' := [(1, .int (jI 0)), (0, .ref (a 0))]) G dX8_brightest_5 rfl (by decide) rfl ?_
  refine v_iconst G dX8_brightest_6 ?_
  refine v_istore_n (lv' := [(2, .int (jI 1)), (1, .int (jI 0)), (0, .ref (a 0))]) G dX8_brightest_7 rfl (by decide) rfl ?_
  refine v_locs (lv' := [(2, .int (jI 1)), (1, .int (jI 0)), (0, .ref (a 0))]) [0, 1, 2] rfl ?_
  refine v_loop1 (fun (k : Nat) => [(2, .int (jI ((k + 1 : Nat) : Int))), (1, .int (jI (brN (cLt wd 0) k))), (0, .ref (a 0))]) (fun (k : Nat) => (gS  a ks ++ gW cI (fun i => a (1 + i)) wd ++ gG cI (fun i => a (31 + i)) (glS wd 0 gl) ++ gI cI a (cLt wd 0))) (fun (k : Nat) => (k : Int) ≤ 15) (fun (k : Nat) => 15 - k) 0 (by decide) rfl rfl ?_
  intro k I_4 ih_5
  refine v_iload_n (j := 0) (x := jI ((k + 1 : Nat) : Int)) G dX8_brightest_8 rfl rfl ?_
  refine v_bipush G dX8_brightest_9 (by decide) ?_
  refine v_icmp_ge (a := ((k + 1 : Nat) : Int)) (b := 16) (tgt := 37) G dX8_brightest_11 (by decide) (by omega) (fun c_6 => ?_) (fun c_6 => ?_)
  · skip
    obtain rfl : k = 15 := by omega
    refine v_iload_n (j := 1) (x := jI (brN (cLt wd 0) 15)) G dX8_brightest_37 rfl rfl ?_
    exact v_iret G ((glS wd 0 gl), cLt wd 0) (by first | exact ⟨(by trivial), (by first | rfl | exact congrArg jI (by omega))⟩) rfl dX8_brightest_38
  · skip
    have hbr := brN_r (cLt wd 0) k
    have hl1 := cLt_r hw (n := 0) (p := brN (cLt wd 0) k) (by omega) (by omega) (by omega)
    have hl2 := cLt_r hw (n := 0) (p := ((k + 1 : Nat) : Int)) (by omega) (by omega) (by omega)
    refine v_aload_n (j := 2) (x := a 0) G dX8_brightest_14 rfl rfl ?_
    refine v_get (q0 := 0) (k := 10) (v := .ref (a 58)) G k_X8 rfl rfl (by decide) q_1 rfl rfl dX8_brightest_15 ?_
    refine v_iload_n (j := 0) (x := jI ((k + 1 : Nat) : Int)) G dX8_brightest_18 rfl rfl ?_
    refine v_iald (q0 := 16) (t0 := 0) (g := cLt wd 0) (z := ((k + 1 : Nat) : Int)) G rfl rfl (by omega) dX8_brightest_19 ?_
    refine v_aload_n (j := 2) (x := a 0) G dX8_brightest_20 rfl rfl ?_
    refine v_get (q0 := 0) (k := 10) (v := .ref (a 58)) G k_X8 rfl rfl (by decide) q_1 rfl rfl dX8_brightest_21 ?_
    refine v_iload_n (j := 1) (x := jI (brN (cLt wd 0) k)) G dX8_brightest_24 rfl rfl ?_
    refine v_iald (q0 := 16) (t0 := 0) (g := cLt wd 0) (z := brN (cLt wd 0) k) G rfl rfl (by omega) dX8_brightest_25 ?_
    refine v_cut (pc' := 31) (lv' := [(2, .int (jI ((k + 1 : Nat) : Int))), (1, .int (jI (brN (cLt wd 0) (k + 1)))), (0, .ref (a 0))]) (st' := []) (ws' := (gS  a ks ++ gW cI (fun i => a (1 + i)) wd ++ gG cI (fun i => a (31 + i)) (glS wd 0 gl) ++ gI cI a (cLt wd 0))) ?_ (fun J_7 => ?_)
    · skip
      refine v_iinc (k := 0) (z := ((k + 1 : Nat) : Int)) (z' := ((k + 1 + 1 : Nat) : Int)) (lv' := [(2, .int (jI ((k + 1 + 1 : Nat) : Int))), (1, .int (jI (brN (cLt wd 0) (k + 1)))), (0, .ref (a 0))]) G dX8_brightest_31 rfl (by omega) (by decide) rfl ?_
      refine v_goto (tgt := 8) G dX8_brightest_34 (by decide) ?_
      exact ih_5 (k + 1) (by omega) (by omega)
    · skip
      refine v_icmp_le (a := (cLt wd 0) ((k + 1 : Nat) : Int)) (b := (cLt wd 0) (brN (cLt wd 0) k)) (tgt := 31) G dX8_brightest_26 (by decide) (by omega) (fun c_8 => ?_) (fun c_8 => ?_)
      · skip
        refine v_eqs (lv' := [(2, .int (jI ((k + 1 : Nat) : Int))), (1, .int (jI (brN (cLt wd 0) (k + 1)))), (0, .ref (a 0))]) (by rw [show brN (cLt wd 0) (k + 1) = brN (cLt wd 0) k from (by show (if _ then _ else _) = _; split <;> first | rfl | omega)]) rfl rfl ?_
        exact J_7
      · skip
        refine v_iload_n (j := 0) (x := jI ((k + 1 : Nat) : Int)) G dX8_brightest_29 rfl rfl ?_
        refine v_istore_n (lv' := [(1, .int (jI ((k + 1 : Nat) : Int))), (2, .int (jI ((k + 1 : Nat) : Int))), (0, .ref (a 0))]) G dX8_brightest_30 rfl (by decide) rfl ?_
        refine v_locs (lv' := [(2, .int (jI ((k + 1 : Nat) : Int))), (1, .int (jI ((k + 1 : Nat) : Int))), (0, .ref (a 0))]) [1, 0, 2] rfl ?_
        refine v_eqs (lv' := [(2, .int (jI ((k + 1 : Nat) : Int))), (1, .int (jI (brN (cLt wd 0) (k + 1)))), (0, .ref (a 0))]) (by rw [show brN (cLt wd 0) (k + 1) = ((k + 1 : Nat) : Int) from (by show (if _ then _ else _) = _; split <;> first | rfl | omega)]) rfl rfl ?_
        exact J_7

set_option maxHeartbeats 4000000 in
set_option maxRecDepth 100000 in
theorem c_X8_lit (v : Int) (hw : Wc wd) (hr : (-2147483648 ≤ v ∧ v ≤ 2147483647)) : Ci l yX8_lit wsX8_lit { frames := 5, cells := 0, slots := 0, locals := 113 } D (jT cI cL cB cS) [.ref (a 0), .int (jI v)] (gS  a ks ++ gW cI (fun i => a (1 + i)) wd ++ gG cI (fun i => a (31 + i)) gl ++ gI cI a li ++ gF cI a fd) (S := (Int → Int) × GT × (Int → Int)) (fun u => (gS  a ks ++ gW cI (fun i => a (1 + i)) wd ++ gG cI (fun i => a (31 + i)) u.2.1 ++ gI cI a u.2.2 ++ gF cI a u.1)) (fun r u => ((0 ≤ v ∧ v ≤ 9999) ∧ r = stN (fun x_ => v ≤ cLt wd 0 x_) 16 ∧ u.1 = fd) ∨ ((¬ (0 ≤ v ∧ v ≤ 9999)) ∧ r = jI (-1000000001) ∧ u.1 = uI fd 0 (fd 0 + 1))) := by
  refine Ci.mk (cc := cX8_lit) (maxL := 4) (rt := .int) (by decide) rfl (Nat.le_of_ble_eq_true rfl) rfl ?_
  intro p_ e_ s_ m_ b_ me_ c_ A_ G hnm
  have k_X8 : ∀ w ∈ u_ws RX8 TX8 12, w ∈ wsX8_lit := fun _ h => List.mem_cons_of_mem _ (List.mem_append_left _ (List.mem_append_left _ (List.mem_append_right _ h)))
  have q_1 : Cond.fieldLink RX8 68 "SupperLight" "lights" "[I" ∈ wsX8_lit := List.mem_of_getElem? (i := 2) rfl
  have q_2 : Cond.constant RX8 83 (-1000000001) ∈ wsX8_lit := List.mem_of_getElem? (i := 1) rfl
  refine v_iload_n (j := 1) (x := jI v) G dX8_lit_0 rfl rfl ?_
  refine v_iconst G dX8_lit_1 ?_
  refine v_sipush G dX8_lit_2 (by decide) ?_
  refine v_ciN G (rn_S (As := [.int (jI v), .int (jI 0), .int (jI 9999)]) (rest := []) G (c_X8_within (v := v) (lo := 0) (hi := 9999) (hr := (by omega))) gX8_lit_X8_within rfl hdX8_within ⟨rfl, rfl, Nat.le_of_ble_eq_true rfl, Nat.le_of_ble_eq_true rfl⟩ rfl rfl (Nat.le_of_ble_eq_true rfl) ⟨Nat.zero_le _, Nat.zero_le _⟩ dX8_lit_5) (fun r_1 u_3 e_2 => ?_)
  have e_2 : r_1 = jI (b2 ((0 : Int) ≤ v ∧ v ≤ (9999 : Int))) := e_2
  subst e_2
  refine v_ifb_ne (P := (0 : Int) ≤ v ∧ v ≤ (9999 : Int)) (tgt := 18) G dX8_lit_8 (by decide) (fun c_4 => ?_) (fun c_4 => ?_)
  · skip
    refine v_aload_n (j := 0) (x := a 0) G dX8_lit_18 rfl rfl ?_
    refine v_cvP (w2 := (fun _ => (gS  a ks ++ gW cI (fun i => a (1 + i)) wd ++ gG cI (fun i => a (31 + i)) (glS wd 0 gl) ++ gI cI a (cLt wd 0) ++ gF cI a fd))) (wr := (gF cI a fd)) G (rn_V (As := []) (rest := []) (q0 := 0) G (c_X8_lightAll (ks := ks) (wd := wd) (gl := gl) (li := li) (a := a) (hw := hw)) gX8_lit_X8_lightAll rfl hdX8_lightAll ⟨rfl, rfl, Nat.le_of_ble_eq_true rfl, Nat.le_of_ble_eq_true rfl⟩ rfl rfl (Nat.le_of_ble_eq_true rfl) ⟨Nat.zero_le _, Nat.zero_le _⟩ rfl rfl dX8_lit_19) [0, 1, 2, 3, 4, 5, 6, 7, 8, 9, 10, 11, 12, 13, 14, 15, 16] [17] [1, 2, 3, 4, 5, 6, 7, 8, 9, 10, 11, 12, 13, 14, 15, 16, 17, 0] rfl rfl (by decide) (fun _ => rfl) (fun u_7 e_6 => ?_)
    refine v_world (ws' := (gS  a ks ++ gW cI (fun i => a (1 + i)) wd ++ gG cI (fun i => a (31 + i)) (glS wd 0 gl) ++ gI cI a (cLt wd 0) ++ gF cI a fd)) rfl ?_
    refine v_iconst G dX8_lit_22 ?_
    refine v_top (x := jI 0) (y := stN (fun x_ => v ≤ cLt wd 0 x_) 0) rfl ?_
    refine v_istore_n (lv' := [(2, .int (stN (fun x_ => v ≤ cLt wd 0 x_) 0)), (0, .ref (a 0)), (1, .int (jI v))]) G dX8_lit_23 rfl (by decide) rfl ?_
    refine v_iconst G dX8_lit_24 ?_
    refine v_istore_n (lv' := [(3, .int (jI 0)), (2, .int (stN (fun x_ => v ≤ cLt wd 0 x_) 0)), (0, .ref (a 0)), (1, .int (jI v))]) G dX8_lit_25 rfl (by decide) rfl ?_
    refine v_locs (lv' := [(3, .int (jI 0)), (2, .int (stN (fun x_ => v ≤ cLt wd 0 x_) 0)), (0, .ref (a 0)), (1, .int (jI v))]) [0, 1, 2, 3] rfl ?_
    refine v_loop1 (fun (k : Nat) => [(3, .int (jI (k : Int))), (2, .int (stN (fun x_ => v ≤ cLt wd 0 x_) k)), (0, .ref (a 0)), (1, .int (jI v))]) (fun (k : Nat) => (gS  a ks ++ gW cI (fun i => a (1 + i)) wd ++ gG cI (fun i => a (31 + i)) (glS wd 0 gl) ++ gI cI a (cLt wd 0) ++ gF cI a fd)) (fun (k : Nat) => (k : Int) ≤ 16) (fun (k : Nat) => 16 - k) 0 (by decide) rfl rfl ?_
    intro k I_8 ih_9
    refine v_iload_n (j := 0) (x := jI (k : Int)) G dX8_lit_26 rfl rfl ?_
    refine v_bipush G dX8_lit_27 (by decide) ?_
    refine v_icmp_ge (a := (k : Int)) (b := 16) (tgt := 54) G dX8_lit_29 (by decide) (by omega) (fun c_10 => ?_) (fun c_10 => ?_)
    · skip
      obtain rfl : k = 16 := by omega
      refine v_iload_n (j := 1) (x := stN (fun x_ => v ≤ cLt wd 0 x_) 16) G dX8_lit_54 rfl rfl ?_
      exact v_iret G (fd, (glS wd 0 gl), cLt wd 0) (by first | exact Or.inl ⟨(by omega), (by first | rfl | exact congrArg jI (by omega)), rfl⟩ | exact Or.inr (⟨(by omega), (by first | rfl | exact congrArg jI (by omega)), rfl⟩)) rfl dX8_lit_55
    · skip
      have hl1 := cLt_r hw (n := 0) (p := (k : Int)) (by omega) (by omega) (by omega)
      refine v_aload_n (j := 2) (x := a 0) G dX8_lit_32 rfl rfl ?_
      refine v_get (q0 := 0) (k := 10) (v := .ref (a 58)) G k_X8 rfl rfl (by decide) q_1 rfl rfl dX8_lit_33 ?_
      refine v_iload_n (j := 0) (x := jI (k : Int)) G dX8_lit_36 rfl rfl ?_
      refine v_iald (q0 := 16) (t0 := 0) (g := cLt wd 0) (z := (k : Int)) G rfl rfl (by omega) dX8_lit_37 ?_
      refine v_iload_n (j := 3) (x := jI v) G dX8_lit_38 rfl rfl ?_
      refine v_cut (pc' := 48) (lv' := [(3, .int (jI (k : Int))), (2, .int (stN (fun x_ => v ≤ cLt wd 0 x_) (k + 1))), (0, .ref (a 0)), (1, .int (jI v))]) (st' := []) (ws' := (gS  a ks ++ gW cI (fun i => a (1 + i)) wd ++ gG cI (fun i => a (31 + i)) (glS wd 0 gl) ++ gI cI a (cLt wd 0) ++ gF cI a fd)) ?_ (fun J_11 => ?_)
      · skip
        refine v_iinc (k := 0) (z := (k : Int)) (z' := ((k + 1 : Nat) : Int)) (lv' := [(3, .int (jI ((k + 1 : Nat) : Int))), (2, .int (stN (fun x_ => v ≤ cLt wd 0 x_) (k + 1))), (0, .ref (a 0)), (1, .int (jI v))]) G dX8_lit_48 rfl (by omega) (by decide) rfl ?_
        refine v_goto (tgt := 26) G dX8_lit_51 (by decide) ?_
        exact ih_9 (k + 1) (by omega) (by omega)
      · skip
        refine v_icmp_lt (a := (cLt wd 0) (k : Int)) (b := v) (tgt := 48) G dX8_lit_39 (by decide) (by omega) (fun c_12 => ?_) (fun c_12 => ?_)
        · skip
          refine v_eqs (lv' := [(3, .int (jI (k : Int))), (2, .int (stN (fun x_ => v ≤ cLt wd 0 x_) (k + 1))), (0, .ref (a 0)), (1, .int (jI v))]) (by rw [show stN (fun x_ => v ≤ cLt wd 0 x_) (k + 1) = stN (fun x_ => v ≤ cLt wd 0 x_) k from ((congrArg (fun z => _ ||| z) (btI_f (by first | omega | assumption))).trans (or_z _))]) rfl rfl ?_
          exact J_11
        · skip
          refine v_iload_n (j := 1) (x := stN (fun x_ => v ≤ cLt wd 0 x_) k) G dX8_lit_42 rfl rfl ?_
          refine v_iconst G dX8_lit_43 ?_
          refine v_iload_n (j := 0) (x := jI (k : Int)) G dX8_lit_44 rfl rfl ?_
          refine v_ishl (v := (jI 1) <<< ((jI (k : Int)) &&& 31)) G dX8_lit_45 rfl ?_
          refine v_ior (v := (stN (fun x_ => v ≤ cLt wd 0 x_) k) ||| ((jI 1) <<< ((jI (k : Int)) &&& 31))) G dX8_lit_46 rfl ?_
          refine v_istore_n (lv' := [(2, .int ((stN (fun x_ => v ≤ cLt wd 0 x_) k) ||| ((jI 1) <<< ((jI (k : Int)) &&& 31)))), (3, .int (jI (k : Int))), (0, .ref (a 0)), (1, .int (jI v))]) G dX8_lit_47 rfl (by decide) rfl ?_
          refine v_locs (lv' := [(3, .int (jI (k : Int))), (2, .int ((stN (fun x_ => v ≤ cLt wd 0 x_) k) ||| ((jI 1) <<< ((jI (k : Int)) &&& 31)))), (0, .ref (a 0)), (1, .int (jI v))]) [1, 0, 2, 3] rfl ?_
          refine v_eqs (lv' := [(3, .int (jI (k : Int))), (2, .int (stN (fun x_ => v ≤ cLt wd 0 x_) (k + 1))), (0, .ref (a 0)), (1, .int (jI v))]) (by rw [show stN (fun x_ => v ≤ cLt wd 0 x_) (k + 1) = (stN (fun x_ => v ≤ cLt wd 0 x_) k) ||| ((jI 1) <<< ((jI (k : Int)) &&& 31)) from (congrArg (fun z => _ ||| z) (btI_t (by first | omega | assumption)))]) rfl rfl ?_
          exact J_11
  · skip
    refine v_aload_n (j := 0) (x := a 0) G dX8_lit_11 rfl rfl ?_
    refine v_ldc (z := (-1000000001)) G q_2 (by decide) dX8_lit_12 ?_
    refine v_ciP (w2 := (fun _ => (gS  a ks ++ gW cI (fun i => a (1 + i)) wd ++ gG cI (fun i => a (31 + i)) gl ++ gI cI a li ++ gF cI a (uI fd 0 (fd 0 + 1))))) (wr := (gW cI (fun i => a (1 + i)) wd ++ gG cI (fun i => a (31 + i)) gl ++ gI cI a li)) G (rn_V (As := [.int (jI (-1000000001))]) (rest := []) (q0 := 0) G (c_X8_found_0 (ks := ks) (fd := fd) (a := a) ) gX8_lit_X8_found rfl hdX8_found ⟨rfl, rfl, Nat.le_of_ble_eq_true rfl, Nat.le_of_ble_eq_true rfl⟩ rfl rfl (Nat.le_of_ble_eq_true rfl) ⟨Nat.zero_le _, Nat.zero_le _⟩ rfl rfl dX8_lit_14) [0, 17] [1, 2, 3, 4, 5, 6, 7, 8, 9, 10, 11, 12, 13, 14, 15, 16] [16, 0, 1, 2, 3, 4, 5, 6, 7, 8, 9, 10, 11, 12, 13, 14, 15, 17] rfl rfl (by decide) (fun _ => rfl) (fun r_13 u_15 e_14 => ?_)
    have e_14 : r_13 = jI (-1000000001) := e_14
    subst e_14
    refine v_world (ws' := (gS  a ks ++ gW cI (fun i => a (1 + i)) wd ++ gG cI (fun i => a (31 + i)) gl ++ gI cI a li ++ gF cI a (uI fd 0 (fd 0 + 1)))) rfl ?_
    exact v_iret G (uI fd 0 (fd 0 + 1), gl, li) (by first | exact Or.inl ⟨(by omega), (by first | rfl | exact congrArg jI (by omega)), rfl⟩ | exact Or.inr (⟨(by omega), (by first | rfl | exact congrArg jI (by omega)), rfl⟩)) rfl dX8_lit_17

set_option maxHeartbeats 4000000 in
set_option maxRecDepth 100000 in
theorem c_X8_being (k p : Int) (hw : Wc wd) (hr : (-2147483648 ≤ k ∧ k ≤ 2147483647) ∧ (-2147483648 ≤ p ∧ p ≤ 2147483647)) : Ci l yX8_being wsX8_being { frames := 2, cells := 0, slots := 0, locals := 44 } D (jT cI cL cB cS) [.ref (a 0), .int (jI k), .int (jI p)] (gS  a ks ++ gW cI (fun i => a (1 + i)) wd ++ gF cI a fd) (S := WT × (Int → Int)) (fun u => (gS  a ks ++ gW cI (fun i => a (1 + i)) u.1 ++ gF cI a u.2)) (fun r u => ((¬ ((0 ≤ k ∧ k ≤ 5) ∧ (0 ≤ p ∧ p ≤ 15))) ∧ r = jI (-1000000001) ∧ u.1 = wd ∧ u.2 = uI fd 0 (fd 0 + 1)) ∨ ((((0 ≤ k ∧ k ≤ 5) ∧ (0 ≤ p ∧ p ≤ 15)) ∧ wd.2.2.1 = 10) ∧ r = jI (-1000000002) ∧ u.1 = wd ∧ u.2 = uI fd 1 (fd 1 + 1)) ∨ ((((0 ≤ k ∧ k ≤ 5) ∧ (0 ≤ p ∧ p ≤ 15)) ∧ wd.2.2.1 < 10) ∧ r = jI wd.2.2.1 ∧ u.1 = (wd.1, wd.2.1, wd.2.2.1 + 1, uI wd.2.2.2.1 wd.2.2.1 k, uI wd.2.2.2.2.1 wd.2.2.1 p, uI wd.2.2.2.2.2.1 wd.2.2.1 p, uI wd.2.2.2.2.2.2.1 wd.2.2.1 20, uI wd.2.2.2.2.2.2.2.1 wd.2.2.1 0, wd.2.2.2.2.2.2.2.2.1, wd.2.2.2.2.2.2.2.2.2.1, wd.2.2.2.2.2.2.2.2.2.2.1, wd.2.2.2.2.2.2.2.2.2.2.2) ∧ u.2 = fd)) := by
  refine Ci.mk (cc := cX8_being) (maxL := 3) (rt := .int) (by decide) rfl (Nat.le_of_ble_eq_true rfl) rfl ?_
  intro p_ e_ s_ m_ b_ me_ c_ A_ G hnm
  have hm := hw.many
  have hmt := hw.tasks
  have hh := hw.hour
  have q_0 : Cond.constant RX8 83 (-1000000001) ∈ wsX8_being := List.mem_of_getElem? (i := 1) rfl
  have k_X8 : ∀ w ∈ u_ws RX8 TX8 12, w ∈ wsX8_being := fun _ h => List.mem_cons_of_mem _ (List.mem_append_left _ (List.mem_append_right _ h))
  have q_2 : Cond.fieldLink RX8 10 "SupperLight" "world" "LSupperLight$World;" ∈ wsX8_being := List.mem_of_getElem? (i := 2) rfl
  have k_X7 : ∀ w ∈ u_ws RX7 TX7 12, w ∈ wsX8_being := fun _ h => List.mem_cons_of_mem _ (List.mem_append_right _ h)
  have q_4 : Cond.fieldLink RX8 101 "SupperLight$World" "beings" "I" ∈ wsX8_being := List.mem_of_getElem? (i := 3) rfl
  have q_5 : Cond.constant RX8 105 (-1000000002) ∈ wsX8_being := List.mem_of_getElem? (i := 4) rfl
  refine v_iload_n (j := 1) (x := jI k) G dX8_being_0 rfl rfl ?_
  refine v_ciN G (rn_S (As := [.int (jI k)]) (rest := []) G (c_X8_isKind (k := k) (hr := (by omega))) gX8_being_X8_isKind rfl hdX8_isKind ⟨rfl, rfl, Nat.le_of_ble_eq_true rfl, Nat.le_of_ble_eq_true rfl⟩ rfl rfl (Nat.le_of_ble_eq_true rfl) ⟨Nat.zero_le _, Nat.zero_le _⟩ dX8_being_1) (fun r_1 u_3 e_2 => ?_)
  have e_2 : r_1 = jI (b2 (0 ≤ k ∧ k ≤ 5)) := e_2
  subst e_2
  refine v_ifb_eq (P := 0 ≤ k ∧ k ≤ 5) (tgt := 14) G dX8_being_4 (by decide) (fun c_4 => ?_) (fun c_4 => ?_)
  · skip
    refine v_aload_n (j := 0) (x := a 0) G dX8_being_14 rfl rfl ?_
    refine v_ldc (z := (-1000000001)) G q_0 (by decide) dX8_being_15 ?_
    refine v_ciP (w2 := (fun _ => (gS  a ks ++ gW cI (fun i => a (1 + i)) wd ++ gF cI a (uI fd 0 (fd 0 + 1))))) (wr := (gW cI (fun i => a (1 + i)) wd)) G (rn_V (As := [.int (jI (-1000000001))]) (rest := []) (q0 := 0) G (c_X8_found_0 (ks := ks) (fd := fd) (a := a) ) gX8_being_X8_found rfl hdX8_found ⟨rfl, rfl, Nat.le_of_ble_eq_true rfl, Nat.le_of_ble_eq_true rfl⟩ rfl rfl (Nat.le_of_ble_eq_true rfl) ⟨Nat.zero_le _, Nat.zero_le _⟩ rfl rfl dX8_being_17) [0, 11] [1, 2, 3, 4, 5, 6, 7, 8, 9, 10] [10, 0, 1, 2, 3, 4, 5, 6, 7, 8, 9, 11] rfl rfl (by decide) (fun _ => rfl) (fun r_5 u_7 e_6 => ?_)
    have e_6 : r_5 = jI (-1000000001) := e_6
    subst e_6
    refine v_world (ws' := (gS  a ks ++ gW cI (fun i => a (1 + i)) wd ++ gF cI a (uI fd 0 (fd 0 + 1)))) rfl ?_
    exact v_iret G (wd, uI fd 0 (fd 0 + 1)) (by first | exact Or.inl ⟨(by omega), (by first | rfl | exact congrArg jI (by omega)), rfl, rfl⟩ | exact Or.inr (Or.inl ⟨(by omega), (by first | rfl | exact congrArg jI (by omega)), rfl, rfl⟩) | exact Or.inr (Or.inr (⟨(by omega), (by first | rfl | exact congrArg jI (by omega)), rfl, rfl⟩))) rfl dX8_being_20
  · skip
    refine v_iload_n (j := 2) (x := jI p) G dX8_being_7 rfl rfl ?_
    refine v_ciN G (rn_S (As := [.int (jI p)]) (rest := []) G (c_X8_isPlace (p := p) (hr := (by omega))) gX8_being_X8_isPlace rfl hdX8_isPlace ⟨rfl, rfl, Nat.le_of_ble_eq_true rfl, Nat.le_of_ble_eq_true rfl⟩ rfl rfl (Nat.le_of_ble_eq_true rfl) ⟨Nat.zero_le _, Nat.zero_le _⟩ dX8_being_8) (fun r_8 u_10 e_9 => ?_)
    have e_9 : r_8 = jI (b2 (0 ≤ p ∧ p ≤ 15)) := e_9
    subst e_9
    refine v_ifb_ne (P := 0 ≤ p ∧ p ≤ 15) (tgt := 21) G dX8_being_11 (by decide) (fun c_11 => ?_) (fun c_11 => ?_)
    · skip
      refine v_aload_n (j := 0) (x := a 0) G dX8_being_21 rfl rfl ?_
      refine v_get (q0 := 0) (k := 0) (v := .ref (a 1)) G k_X8 rfl rfl (by decide) q_2 rfl rfl dX8_being_22 ?_
      refine v_get (q0 := 1) (k := 2) (v := .int (jI wd.2.2.1)) G k_X7 rfl rfl (by decide) q_4 rfl rfl dX8_being_25 ?_
      refine v_bipush G dX8_being_28 (by decide) ?_
      refine v_icmp_lt (a := wd.2.2.1) (b := 10) (tgt := 40) G dX8_being_30 (by decide) (by omega) (fun c_12 => ?_) (fun c_12 => ?_)
      · skip
        refine v_aload_n (j := 0) (x := a 0) G dX8_being_40 rfl rfl ?_
        refine v_get (q0 := 0) (k := 0) (v := .ref (a 1)) G k_X8 rfl rfl (by decide) q_2 rfl rfl dX8_being_41 ?_
        refine v_iload_n (j := 1) (x := jI k) G dX8_being_44 rfl rfl ?_
        refine v_iload_n (j := 2) (x := jI p) G dX8_being_45 rfl rfl ?_
        refine v_ciP (w2 := (fun _ => (gS  a ks ++ gW cI (fun i => a (1 + i)) (wd.1, wd.2.1, wd.2.2.1 + 1, uI wd.2.2.2.1 wd.2.2.1 k, uI wd.2.2.2.2.1 wd.2.2.1 p, uI wd.2.2.2.2.2.1 wd.2.2.1 p, uI wd.2.2.2.2.2.2.1 wd.2.2.1 20, uI wd.2.2.2.2.2.2.2.1 wd.2.2.1 0, wd.2.2.2.2.2.2.2.2.1, wd.2.2.2.2.2.2.2.2.2.1, wd.2.2.2.2.2.2.2.2.2.2.1, wd.2.2.2.2.2.2.2.2.2.2.2) ++ gF cI a fd))) (wr := (gS  a ks ++ gF cI a fd)) G (rn_V (As := [.int (jI k), .int (jI p)]) (rest := []) (q0 := 0) G (c_X7_addBeing (k := k) (p := p) (x := wd) (b := fun i => a (1 + i)) (hn := (by omega))) gX8_being_X7_addBeing rfl hdX7_addBeing ⟨rfl, rfl, Nat.le_of_ble_eq_true rfl, Nat.le_of_ble_eq_true rfl⟩ rfl rfl (Nat.le_of_ble_eq_true rfl) ⟨Nat.zero_le _, Nat.zero_le _⟩ rfl rfl dX8_being_46) [1, 2, 3, 4, 5, 6, 7, 8, 9, 10] [0, 11] [0, 2, 3, 4, 5, 6, 7, 8, 9, 10, 11, 1] rfl rfl (by decide) (fun _ => rfl) (fun r_13 u_15 e_14 => ?_)
        have e_14 : r_13 = jI wd.2.2.1 := e_14
        subst e_14
        refine v_world (ws' := (gS  a ks ++ gW cI (fun i => a (1 + i)) (wd.1, wd.2.1, wd.2.2.1 + 1, uI wd.2.2.2.1 wd.2.2.1 k, uI wd.2.2.2.2.1 wd.2.2.1 p, uI wd.2.2.2.2.2.1 wd.2.2.1 p, uI wd.2.2.2.2.2.2.1 wd.2.2.1 20, uI wd.2.2.2.2.2.2.2.1 wd.2.2.1 0, wd.2.2.2.2.2.2.2.2.1, wd.2.2.2.2.2.2.2.2.2.1, wd.2.2.2.2.2.2.2.2.2.2.1, wd.2.2.2.2.2.2.2.2.2.2.2) ++ gF cI a fd)) rfl ?_
        exact v_iret G ((wd.1, wd.2.1, wd.2.2.1 + 1, uI wd.2.2.2.1 wd.2.2.1 k, uI wd.2.2.2.2.1 wd.2.2.1 p, uI wd.2.2.2.2.2.1 wd.2.2.1 p, uI wd.2.2.2.2.2.2.1 wd.2.2.1 20, uI wd.2.2.2.2.2.2.2.1 wd.2.2.1 0, wd.2.2.2.2.2.2.2.2.1, wd.2.2.2.2.2.2.2.2.2.1, wd.2.2.2.2.2.2.2.2.2.2.1, wd.2.2.2.2.2.2.2.2.2.2.2), fd) (by first | exact Or.inl ⟨(by omega), (by first | rfl | exact congrArg jI (by omega)), rfl, rfl⟩ | exact Or.inr (Or.inl ⟨(by omega), (by first | rfl | exact congrArg jI (by omega)), rfl, rfl⟩) | exact Or.inr (Or.inr (⟨(by omega), (by first | rfl | exact congrArg jI (by omega)), rfl, rfl⟩))) rfl dX8_being_49
      · skip
        refine v_aload_n (j := 0) (x := a 0) G dX8_being_33 rfl rfl ?_
        refine v_ldc (z := (-1000000002)) G q_5 (by decide) dX8_being_34 ?_
        refine v_ciP (w2 := (fun _ => (gS  a ks ++ gW cI (fun i => a (1 + i)) wd ++ gF cI a (uI fd 1 (fd 1 + 1))))) (wr := (gW cI (fun i => a (1 + i)) wd)) G (rn_V (As := [.int (jI (-1000000002))]) (rest := []) (q0 := 0) G (c_X8_found_1 (ks := ks) (fd := fd) (a := a) ) gX8_being_X8_found rfl hdX8_found ⟨rfl, rfl, Nat.le_of_ble_eq_true rfl, Nat.le_of_ble_eq_true rfl⟩ rfl rfl (Nat.le_of_ble_eq_true rfl) ⟨Nat.zero_le _, Nat.zero_le _⟩ rfl rfl dX8_being_36) [0, 11] [1, 2, 3, 4, 5, 6, 7, 8, 9, 10] [10, 0, 1, 2, 3, 4, 5, 6, 7, 8, 9, 11] rfl rfl (by decide) (fun _ => rfl) (fun r_16 u_18 e_17 => ?_)
        have e_17 : r_16 = jI (-1000000002) := e_17
        subst e_17
        refine v_world (ws' := (gS  a ks ++ gW cI (fun i => a (1 + i)) wd ++ gF cI a (uI fd 1 (fd 1 + 1)))) rfl ?_
        exact v_iret G (wd, uI fd 1 (fd 1 + 1)) (by first | exact Or.inl ⟨(by omega), (by first | rfl | exact congrArg jI (by omega)), rfl, rfl⟩ | exact Or.inr (Or.inl ⟨(by omega), (by first | rfl | exact congrArg jI (by omega)), rfl, rfl⟩) | exact Or.inr (Or.inr (⟨(by omega), (by first | rfl | exact congrArg jI (by omega)), rfl, rfl⟩))) rfl dX8_being_39
    · skip
      refine v_aload_n (j := 0) (x := a 0) G dX8_being_14 rfl rfl ?_
      refine v_ldc (z := (-1000000001)) G q_0 (by decide) dX8_being_15 ?_
      refine v_ciP (w2 := (fun _ => (gS  a ks ++ gW cI (fun i => a (1 + i)) wd ++ gF cI a (uI fd 0 (fd 0 + 1))))) (wr := (gW cI (fun i => a (1 + i)) wd)) G (rn_V (As := [.int (jI (-1000000001))]) (rest := []) (q0 := 0) G (c_X8_found_0 (ks := ks) (fd := fd) (a := a) ) gX8_being_X8_found rfl hdX8_found ⟨rfl, rfl, Nat.le_of_ble_eq_true rfl, Nat.le_of_ble_eq_true rfl⟩ rfl rfl (Nat.le_of_ble_eq_true rfl) ⟨Nat.zero_le _, Nat.zero_le _⟩ rfl rfl dX8_being_17) [0, 11] [1, 2, 3, 4, 5, 6, 7, 8, 9, 10] [10, 0, 1, 2, 3, 4, 5, 6, 7, 8, 9, 11] rfl rfl (by decide) (fun _ => rfl) (fun r_19 u_21 e_20 => ?_)
      have e_20 : r_19 = jI (-1000000001) := e_20
      subst e_20
      refine v_world (ws' := (gS  a ks ++ gW cI (fun i => a (1 + i)) wd ++ gF cI a (uI fd 0 (fd 0 + 1)))) rfl ?_
      exact v_iret G (wd, uI fd 0 (fd 0 + 1)) (by first | exact Or.inl ⟨(by omega), (by first | rfl | exact congrArg jI (by omega)), rfl, rfl⟩ | exact Or.inr (Or.inl ⟨(by omega), (by first | rfl | exact congrArg jI (by omega)), rfl, rfl⟩) | exact Or.inr (Or.inr (⟨(by omega), (by first | rfl | exact congrArg jI (by omega)), rfl, rfl⟩))) rfl dX8_being_20

set_option maxHeartbeats 4000000 in
set_option maxRecDepth 100000 in
theorem c_X8_of (z t : Int) (hw : Wc wd) (hr : (-2147483648 ≤ z ∧ z ≤ 2147483647) ∧ (-2147483648 ≤ t ∧ t ≤ 2147483647)) : Ci l yX8_of wsX8_of { frames := 5, cells := 0, slots := 0, locals := 113 } D (jT cI cL cB cS) [.ref (a 0), .int (jI z), .int (jI t)] (gS  a ks ++ gW cI (fun i => a (1 + i)) wd ++ gG cI (fun i => a (31 + i)) gl ++ gF cI a fd) (S := (Int → Int) × GT) (fun u => (gS  a ks ++ gW cI (fun i => a (1 + i)) wd ++ gG cI (fun i => a (31 + i)) u.2 ++ gF cI a u.1)) (fun r u => ((¬ ((0 ≤ z ∧ z < wd.2.2.1) ∧ 0 ≤ t ∧ t ≤ 6)) ∧ r = jI (-1000000001) ∧ u.1 = uI fd 0 (fd 0 + 1)) ∨ ((((0 ≤ z ∧ z < wd.2.2.1) ∧ 0 ≤ t ∧ t ≤ 6) ∧ t = 0) ∧ r = jI (wd.2.2.2.1 z) ∧ u.1 = fd) ∨ ((((0 ≤ z ∧ z < wd.2.2.1) ∧ 0 ≤ t ∧ t ≤ 6) ∧ t = 1) ∧ r = jI (wd.2.2.2.2.1 z) ∧ u.1 = fd) ∨ ((((0 ≤ z ∧ z < wd.2.2.1) ∧ 0 ≤ t ∧ t ≤ 6) ∧ t = 2) ∧ r = jI (wd.2.2.2.2.2.1 z) ∧ u.1 = fd) ∨ ((((0 ≤ z ∧ z < wd.2.2.1) ∧ 0 ≤ t ∧ t ≤ 6) ∧ t = 3) ∧ r = jI (wd.2.2.2.2.2.2.1 z) ∧ u.1 = fd) ∨ ((((0 ≤ z ∧ z < wd.2.2.1) ∧ 0 ≤ t ∧ t ≤ 6) ∧ t = 4) ∧ r = jI (wd.2.2.2.2.2.2.2.1 z) ∧ u.1 = fd) ∨ ((((0 ≤ z ∧ z < wd.2.2.1) ∧ 0 ≤ t ∧ t ≤ 6) ∧ t = 5) ∧ r = jI (shF wd 0 z) ∧ u.1 = fd) ∨ ((((0 ≤ z ∧ z < wd.2.2.1) ∧ 0 ≤ t ∧ t ≤ 6) ∧ t = 6) ∧ r = jI (apt (wd.2.2.2.2.1 z) (wd.2.2.2.2.2.1 z)) ∧ u.1 = fd)) := by
  refine Ci.mk (cc := cX8_of) (maxL := 3) (rt := .int) (by decide) rfl (Nat.le_of_ble_eq_true rfl) rfl ?_
  intro p_ e_ s_ m_ b_ me_ c_ A_ G hnm
  have hm := hw.many
  have hmt := hw.tasks
  have hh := hw.hour
  have k_X8 : ∀ w ∈ u_ws RX8 TX8 12, w ∈ wsX8_of := fun _ h => List.mem_cons_of_mem _ (List.mem_append_left _ (List.mem_append_left _ (List.mem_append_right _ h)))
  have q_1 : Cond.fieldLink RX8 10 "SupperLight" "world" "LSupperLight$World;" ∈ wsX8_of := List.mem_of_getElem? (i := 1) rfl
  have k_X7 : ∀ w ∈ u_ws RX7 TX7 12, w ∈ wsX8_of := fun _ h => List.mem_cons_of_mem _ (List.mem_append_left _ (List.mem_append_right _ h))
  have q_3 : Cond.fieldLink RX8 112 "SupperLight$World" "kinds" "[I" ∈ wsX8_of := List.mem_of_getElem? (i := 3) rfl
  have q_4 : Cond.fieldLink RX8 115 "SupperLight$World" "ats" "[I" ∈ wsX8_of := List.mem_of_getElem? (i := 4) rfl
  have q_5 : Cond.fieldLink RX8 118 "SupperLight$World" "goals" "[I" ∈ wsX8_of := List.mem_of_getElem? (i := 5) rfl
  have q_6 : Cond.fieldLink RX8 121 "SupperLight$World" "meals" "[I" ∈ wsX8_of := List.mem_of_getElem? (i := 6) rfl
  have q_7 : Cond.fieldLink RX8 124 "SupperLight$World" "fasts" "[I" ∈ wsX8_of := List.mem_of_getElem? (i := 7) rfl
  have q_8 : Cond.constant RX8 83 (-1000000001) ∈ wsX8_of := List.mem_of_getElem? (i := 2) rfl
  refine v_aload_n (j := 0) (x := a 0) G dX8_of_0 rfl rfl ?_
  refine v_get (q0 := 0) (k := 0) (v := .ref (a 1)) G k_X8 rfl rfl (by decide) q_1 rfl rfl dX8_of_1 ?_
  refine v_iload_n (j := 1) (x := jI z) G dX8_of_4 rfl rfl ?_
  refine v_ciP (w2 := (fun _ => (gS  a ks ++ gW cI (fun i => a (1 + i)) wd ++ gG cI (fun i => a (31 + i)) gl ++ gF cI a fd))) (wr := (gS  a ks ++ gG cI (fun i => a (31 + i)) gl ++ gF cI a fd)) G (rn_V (As := [.int (jI z)]) (rest := []) (q0 := 0) G (c_X7_hasBeing (z := z) (x := wd) (b := fun i => a (1 + i)) (hw := hw) (hr := (by omega))) gX8_of_X7_hasBeing rfl hdX7_hasBeing ⟨rfl, rfl, Nat.le_of_ble_eq_true rfl, Nat.le_of_ble_eq_true rfl⟩ rfl rfl (Nat.le_of_ble_eq_true rfl) ⟨Nat.zero_le _, Nat.zero_le _⟩ rfl rfl dX8_of_5) [1, 2, 3, 4, 5, 6, 7, 8, 9, 10] [0, 11, 12, 13, 14, 15, 16] [0, 7, 8, 9, 10, 11, 12, 13, 14, 15, 16, 1, 2, 3, 4, 5, 6] rfl rfl (by decide) (fun _ => rfl) (fun r_1 u_3 e_2 => ?_)
  have e_2 : r_1 = jI (b2 (0 ≤ z ∧ z < wd.2.2.1)) := e_2
  subst e_2
  refine v_world (ws' := (gS  a ks ++ gW cI (fun i => a (1 + i)) wd ++ gG cI (fun i => a (31 + i)) gl ++ gF cI a fd)) rfl ?_
  refine v_ifb_ne (P := 0 ≤ z ∧ z < wd.2.2.1) (tgt := 18) G dX8_of_8 (by decide) (fun c_4 => ?_) (fun c_4 => ?_)
  · skip
    have hk := hw.being (b := z) (by omega) (by omega)
    refine v_iload_n (j := 2) (x := jI t) G dX8_of_18 rfl rfl ?_
    rcases (show t = 0 ∨ t = 1 ∨ t = 2 ∨ t = 3 ∨ t = 4 ∨ t = 5 ∨ t = 6 ∨ (t < 0 ∨ 6 < t) by omega) with c_5 | c_5 | c_5 | c_5 | c_5 | c_5 | c_5 | c_5
    · skip
      refine v_tabIn (z := t) (v := 0) (tgt := 60) G c_5 (by decide) rfl (by decide) dX8_of_19 ?_
      refine v_aload_n (j := 0) (x := a 0) G dX8_of_60 rfl rfl ?_
      refine v_get (q0 := 0) (k := 0) (v := .ref (a 1)) G k_X8 rfl rfl (by decide) q_1 rfl rfl dX8_of_61 ?_
      refine v_get (q0 := 1) (k := 3) (v := .ref (a 3)) G k_X7 rfl rfl (by decide) q_3 rfl rfl dX8_of_64 ?_
      refine v_iload_n (j := 1) (x := jI z) G dX8_of_67 rfl rfl ?_
      refine v_iald (q0 := 3) (t0 := 0) (g := wd.2.2.2.1) (z := z) G rfl rfl (by omega) dX8_of_68 ?_
      exact v_iret G (fd, gl) (by first | exact Or.inl ⟨(by omega), (by first | rfl | exact congrArg jI (by omega)), rfl⟩ | exact Or.inr (Or.inl ⟨(by omega), (by first | rfl | exact congrArg jI (by omega)), rfl⟩) | exact Or.inr (Or.inr (Or.inl ⟨(by omega), (by first | rfl | exact congrArg jI (by omega)), rfl⟩)) | exact Or.inr (Or.inr (Or.inr (Or.inl ⟨(by omega), (by first | rfl | exact congrArg jI (by omega)), rfl⟩))) | exact Or.inr (Or.inr (Or.inr (Or.inr (Or.inl ⟨(by omega), (by first | rfl | exact congrArg jI (by omega)), rfl⟩)))) | exact Or.inr (Or.inr (Or.inr (Or.inr (Or.inr (Or.inl ⟨(by omega), (by first | rfl | exact congrArg jI (by omega)), rfl⟩))))) | exact Or.inr (Or.inr (Or.inr (Or.inr (Or.inr (Or.inr (Or.inl ⟨(by omega), (by first | rfl | exact congrArg jI (by omega)), rfl⟩)))))) | exact Or.inr (Or.inr (Or.inr (Or.inr (Or.inr (Or.inr (Or.inr (⟨(by omega), (by first | rfl | exact congrArg jI (by omega)), rfl⟩)))))))) rfl dX8_of_69
    · skip
      refine v_tabIn (z := t) (v := 1) (tgt := 70) G c_5 (by decide) rfl (by decide) dX8_of_19 ?_
      refine v_aload_n (j := 0) (x := a 0) G dX8_of_70 rfl rfl ?_
      refine v_get (q0 := 0) (k := 0) (v := .ref (a 1)) G k_X8 rfl rfl (by decide) q_1 rfl rfl dX8_of_71 ?_
      refine v_get (q0 := 1) (k := 4) (v := .ref (a 4)) G k_X7 rfl rfl (by decide) q_4 rfl rfl dX8_of_74 ?_
      refine v_iload_n (j := 1) (x := jI z) G dX8_of_77 rfl rfl ?_
      refine v_iald (q0 := 4) (t0 := 0) (g := wd.2.2.2.2.1) (z := z) G rfl rfl (by omega) dX8_of_78 ?_
      exact v_iret G (fd, gl) (by first | exact Or.inl ⟨(by omega), (by first | rfl | exact congrArg jI (by omega)), rfl⟩ | exact Or.inr (Or.inl ⟨(by omega), (by first | rfl | exact congrArg jI (by omega)), rfl⟩) | exact Or.inr (Or.inr (Or.inl ⟨(by omega), (by first | rfl | exact congrArg jI (by omega)), rfl⟩)) | exact Or.inr (Or.inr (Or.inr (Or.inl ⟨(by omega), (by first | rfl | exact congrArg jI (by omega)), rfl⟩))) | exact Or.inr (Or.inr (Or.inr (Or.inr (Or.inl ⟨(by omega), (by first | rfl | exact congrArg jI (by omega)), rfl⟩)))) | exact Or.inr (Or.inr (Or.inr (Or.inr (Or.inr (Or.inl ⟨(by omega), (by first | rfl | exact congrArg jI (by omega)), rfl⟩))))) | exact Or.inr (Or.inr (Or.inr (Or.inr (Or.inr (Or.inr (Or.inl ⟨(by omega), (by first | rfl | exact congrArg jI (by omega)), rfl⟩)))))) | exact Or.inr (Or.inr (Or.inr (Or.inr (Or.inr (Or.inr (Or.inr (⟨(by omega), (by first | rfl | exact congrArg jI (by omega)), rfl⟩)))))))) rfl dX8_of_79
    · skip
      refine v_tabIn (z := t) (v := 2) (tgt := 80) G c_5 (by decide) rfl (by decide) dX8_of_19 ?_
      refine v_aload_n (j := 0) (x := a 0) G dX8_of_80 rfl rfl ?_
      refine v_get (q0 := 0) (k := 0) (v := .ref (a 1)) G k_X8 rfl rfl (by decide) q_1 rfl rfl dX8_of_81 ?_
      refine v_get (q0 := 1) (k := 5) (v := .ref (a 5)) G k_X7 rfl rfl (by decide) q_5 rfl rfl dX8_of_84 ?_
      refine v_iload_n (j := 1) (x := jI z) G dX8_of_87 rfl rfl ?_
      refine v_iald (q0 := 5) (t0 := 0) (g := wd.2.2.2.2.2.1) (z := z) G rfl rfl (by omega) dX8_of_88 ?_
      exact v_iret G (fd, gl) (by first | exact Or.inl ⟨(by omega), (by first | rfl | exact congrArg jI (by omega)), rfl⟩ | exact Or.inr (Or.inl ⟨(by omega), (by first | rfl | exact congrArg jI (by omega)), rfl⟩) | exact Or.inr (Or.inr (Or.inl ⟨(by omega), (by first | rfl | exact congrArg jI (by omega)), rfl⟩)) | exact Or.inr (Or.inr (Or.inr (Or.inl ⟨(by omega), (by first | rfl | exact congrArg jI (by omega)), rfl⟩))) | exact Or.inr (Or.inr (Or.inr (Or.inr (Or.inl ⟨(by omega), (by first | rfl | exact congrArg jI (by omega)), rfl⟩)))) | exact Or.inr (Or.inr (Or.inr (Or.inr (Or.inr (Or.inl ⟨(by omega), (by first | rfl | exact congrArg jI (by omega)), rfl⟩))))) | exact Or.inr (Or.inr (Or.inr (Or.inr (Or.inr (Or.inr (Or.inl ⟨(by omega), (by first | rfl | exact congrArg jI (by omega)), rfl⟩)))))) | exact Or.inr (Or.inr (Or.inr (Or.inr (Or.inr (Or.inr (Or.inr (⟨(by omega), (by first | rfl | exact congrArg jI (by omega)), rfl⟩)))))))) rfl dX8_of_89
    · skip
      refine v_tabIn (z := t) (v := 3) (tgt := 90) G c_5 (by decide) rfl (by decide) dX8_of_19 ?_
      refine v_aload_n (j := 0) (x := a 0) G dX8_of_90 rfl rfl ?_
      refine v_get (q0 := 0) (k := 0) (v := .ref (a 1)) G k_X8 rfl rfl (by decide) q_1 rfl rfl dX8_of_91 ?_
      refine v_get (q0 := 1) (k := 6) (v := .ref (a 6)) G k_X7 rfl rfl (by decide) q_6 rfl rfl dX8_of_94 ?_
      refine v_iload_n (j := 1) (x := jI z) G dX8_of_97 rfl rfl ?_
      refine v_iald (q0 := 6) (t0 := 0) (g := wd.2.2.2.2.2.2.1) (z := z) G rfl rfl (by omega) dX8_of_98 ?_
      exact v_iret G (fd, gl) (by first | exact Or.inl ⟨(by omega), (by first | rfl | exact congrArg jI (by omega)), rfl⟩ | exact Or.inr (Or.inl ⟨(by omega), (by first | rfl | exact congrArg jI (by omega)), rfl⟩) | exact Or.inr (Or.inr (Or.inl ⟨(by omega), (by first | rfl | exact congrArg jI (by omega)), rfl⟩)) | exact Or.inr (Or.inr (Or.inr (Or.inl ⟨(by omega), (by first | rfl | exact congrArg jI (by omega)), rfl⟩))) | exact Or.inr (Or.inr (Or.inr (Or.inr (Or.inl ⟨(by omega), (by first | rfl | exact congrArg jI (by omega)), rfl⟩)))) | exact Or.inr (Or.inr (Or.inr (Or.inr (Or.inr (Or.inl ⟨(by omega), (by first | rfl | exact congrArg jI (by omega)), rfl⟩))))) | exact Or.inr (Or.inr (Or.inr (Or.inr (Or.inr (Or.inr (Or.inl ⟨(by omega), (by first | rfl | exact congrArg jI (by omega)), rfl⟩)))))) | exact Or.inr (Or.inr (Or.inr (Or.inr (Or.inr (Or.inr (Or.inr (⟨(by omega), (by first | rfl | exact congrArg jI (by omega)), rfl⟩)))))))) rfl dX8_of_99
    · skip
      refine v_tabIn (z := t) (v := 4) (tgt := 100) G c_5 (by decide) rfl (by decide) dX8_of_19 ?_
      refine v_aload_n (j := 0) (x := a 0) G dX8_of_100 rfl rfl ?_
      refine v_get (q0 := 0) (k := 0) (v := .ref (a 1)) G k_X8 rfl rfl (by decide) q_1 rfl rfl dX8_of_101 ?_
      refine v_get (q0 := 1) (k := 7) (v := .ref (a 7)) G k_X7 rfl rfl (by decide) q_7 rfl rfl dX8_of_104 ?_
      refine v_iload_n (j := 1) (x := jI z) G dX8_of_107 rfl rfl ?_
      refine v_iald (q0 := 7) (t0 := 0) (g := wd.2.2.2.2.2.2.2.1) (z := z) G rfl rfl (by omega) dX8_of_108 ?_
      exact v_iret G (fd, gl) (by first | exact Or.inl ⟨(by omega), (by first | rfl | exact congrArg jI (by omega)), rfl⟩ | exact Or.inr (Or.inl ⟨(by omega), (by first | rfl | exact congrArg jI (by omega)), rfl⟩) | exact Or.inr (Or.inr (Or.inl ⟨(by omega), (by first | rfl | exact congrArg jI (by omega)), rfl⟩)) | exact Or.inr (Or.inr (Or.inr (Or.inl ⟨(by omega), (by first | rfl | exact congrArg jI (by omega)), rfl⟩))) | exact Or.inr (Or.inr (Or.inr (Or.inr (Or.inl ⟨(by omega), (by first | rfl | exact congrArg jI (by omega)), rfl⟩)))) | exact Or.inr (Or.inr (Or.inr (Or.inr (Or.inr (Or.inl ⟨(by omega), (by first | rfl | exact congrArg jI (by omega)), rfl⟩))))) | exact Or.inr (Or.inr (Or.inr (Or.inr (Or.inr (Or.inr (Or.inl ⟨(by omega), (by first | rfl | exact congrArg jI (by omega)), rfl⟩)))))) | exact Or.inr (Or.inr (Or.inr (Or.inr (Or.inr (Or.inr (Or.inr (⟨(by omega), (by first | rfl | exact congrArg jI (by omega)), rfl⟩)))))))) rfl dX8_of_109
    · skip
      refine v_tabIn (z := t) (v := 5) (tgt := 110) G c_5 (by decide) rfl (by decide) dX8_of_19 ?_
      refine v_aload_n (j := 0) (x := a 0) G dX8_of_110 rfl rfl ?_
      refine v_iload_n (j := 1) (x := jI z) G dX8_of_111 rfl rfl ?_
      refine v_ciP (w2 := (fun _ => (gS  a ks ++ gW cI (fun i => a (1 + i)) wd ++ gG cI (fun i => a (31 + i)) (glS wd 0 gl) ++ gF cI a fd))) (wr := (gF cI a fd)) G (rn_V (As := [.int (jI z)]) (rest := []) (q0 := 0) G (c_X8_shinesNow (z := z) (ks := ks) (wd := wd) (gl := gl) (a := a) (hw := hw) (hz := (by omega))) gX8_of_X8_shinesNow rfl hdX8_shinesNow ⟨rfl, rfl, Nat.le_of_ble_eq_true rfl, Nat.le_of_ble_eq_true rfl⟩ rfl rfl (Nat.le_of_ble_eq_true rfl) ⟨Nat.zero_le _, Nat.zero_le _⟩ rfl rfl dX8_of_112) [0, 1, 2, 3, 4, 5, 6, 7, 8, 9, 10, 11, 12, 13, 14, 15] [16] [1, 2, 3, 4, 5, 6, 7, 8, 9, 10, 11, 12, 13, 14, 15, 16, 0] rfl rfl (by decide) (fun _ => rfl) (fun r_6 u_8 e_7 => ?_)
      have e_7 : r_6 = jI (shF wd 0 z) := e_7
      subst e_7
      refine v_world (ws' := (gS  a ks ++ gW cI (fun i => a (1 + i)) wd ++ gG cI (fun i => a (31 + i)) (glS wd 0 gl) ++ gF cI a fd)) rfl ?_
      exact v_iret G (fd, (glS wd 0 gl)) (by first | exact Or.inl ⟨(by omega), (by first | rfl | exact congrArg jI (by omega)), rfl⟩ | exact Or.inr (Or.inl ⟨(by omega), (by first | rfl | exact congrArg jI (by omega)), rfl⟩) | exact Or.inr (Or.inr (Or.inl ⟨(by omega), (by first | rfl | exact congrArg jI (by omega)), rfl⟩)) | exact Or.inr (Or.inr (Or.inr (Or.inl ⟨(by omega), (by first | rfl | exact congrArg jI (by omega)), rfl⟩))) | exact Or.inr (Or.inr (Or.inr (Or.inr (Or.inl ⟨(by omega), (by first | rfl | exact congrArg jI (by omega)), rfl⟩)))) | exact Or.inr (Or.inr (Or.inr (Or.inr (Or.inr (Or.inl ⟨(by omega), (by first | rfl | exact congrArg jI (by omega)), rfl⟩))))) | exact Or.inr (Or.inr (Or.inr (Or.inr (Or.inr (Or.inr (Or.inl ⟨(by omega), (by first | rfl | exact congrArg jI (by omega)), rfl⟩)))))) | exact Or.inr (Or.inr (Or.inr (Or.inr (Or.inr (Or.inr (Or.inr (⟨(by omega), (by first | rfl | exact congrArg jI (by omega)), rfl⟩)))))))) rfl dX8_of_115
    · skip
      refine v_tabIn (z := t) (v := 6) (tgt := 116) G c_5 (by decide) rfl (by decide) dX8_of_19 ?_
      refine v_aload_n (j := 0) (x := a 0) G dX8_of_116 rfl rfl ?_
      refine v_get (q0 := 0) (k := 0) (v := .ref (a 1)) G k_X8 rfl rfl (by decide) q_1 rfl rfl dX8_of_117 ?_
      refine v_get (q0 := 1) (k := 4) (v := .ref (a 4)) G k_X7 rfl rfl (by decide) q_4 rfl rfl dX8_of_120 ?_
      refine v_iload_n (j := 1) (x := jI z) G dX8_of_123 rfl rfl ?_
      refine v_iald (q0 := 4) (t0 := 0) (g := wd.2.2.2.2.1) (z := z) G rfl rfl (by omega) dX8_of_124 ?_
      refine v_aload_n (j := 0) (x := a 0) G dX8_of_125 rfl rfl ?_
      refine v_get (q0 := 0) (k := 0) (v := .ref (a 1)) G k_X8 rfl rfl (by decide) q_1 rfl rfl dX8_of_126 ?_
      refine v_get (q0 := 1) (k := 5) (v := .ref (a 5)) G k_X7 rfl rfl (by decide) q_5 rfl rfl dX8_of_129 ?_
      refine v_iload_n (j := 1) (x := jI z) G dX8_of_132 rfl rfl ?_
      refine v_iald (q0 := 5) (t0 := 0) (g := wd.2.2.2.2.2.1) (z := z) G rfl rfl (by omega) dX8_of_133 ?_
      refine v_ciN G (rn_S (As := [.int (jI (wd.2.2.2.2.1 z)), .int (jI (wd.2.2.2.2.2.1 z))]) (rest := []) G (c_X8_stepsBetween (x := wd.2.2.2.2.1 z) (y := wd.2.2.2.2.2.1 z) (hx := (by omega))) gX8_of_X8_stepsBetween rfl hdX8_stepsBetween ⟨rfl, rfl, Nat.le_of_ble_eq_true rfl, Nat.le_of_ble_eq_true rfl⟩ rfl rfl (Nat.le_of_ble_eq_true rfl) ⟨Nat.zero_le _, Nat.zero_le _⟩ dX8_of_134) (fun r_9 u_11 e_10 => ?_)
      have e_10 : r_9 = jI (apt (wd.2.2.2.2.1 z) (wd.2.2.2.2.2.1 z)) := e_10
      subst e_10
      exact v_iret G (fd, gl) (by first | exact Or.inl ⟨(by omega), (by first | rfl | exact congrArg jI (by omega)), rfl⟩ | exact Or.inr (Or.inl ⟨(by omega), (by first | rfl | exact congrArg jI (by omega)), rfl⟩) | exact Or.inr (Or.inr (Or.inl ⟨(by omega), (by first | rfl | exact congrArg jI (by omega)), rfl⟩)) | exact Or.inr (Or.inr (Or.inr (Or.inl ⟨(by omega), (by first | rfl | exact congrArg jI (by omega)), rfl⟩))) | exact Or.inr (Or.inr (Or.inr (Or.inr (Or.inl ⟨(by omega), (by first | rfl | exact congrArg jI (by omega)), rfl⟩)))) | exact Or.inr (Or.inr (Or.inr (Or.inr (Or.inr (Or.inl ⟨(by omega), (by first | rfl | exact congrArg jI (by omega)), rfl⟩))))) | exact Or.inr (Or.inr (Or.inr (Or.inr (Or.inr (Or.inr (Or.inl ⟨(by omega), (by first | rfl | exact congrArg jI (by omega)), rfl⟩)))))) | exact Or.inr (Or.inr (Or.inr (Or.inr (Or.inr (Or.inr (Or.inr (⟨(by omega), (by first | rfl | exact congrArg jI (by omega)), rfl⟩)))))))) rfl dX8_of_137
    · skip
      refine v_tabOut (z := t) (tgt := 138) G c_5 (by omega) (by decide) dX8_of_19 ?_
      refine v_aload_n (j := 0) (x := a 0) G dX8_of_138 rfl rfl ?_
      refine v_ldc (z := (-1000000001)) G q_8 (by decide) dX8_of_139 ?_
      refine v_ciP (w2 := (fun _ => (gS  a ks ++ gW cI (fun i => a (1 + i)) wd ++ gG cI (fun i => a (31 + i)) gl ++ gF cI a (uI fd 0 (fd 0 + 1))))) (wr := (gW cI (fun i => a (1 + i)) wd ++ gG cI (fun i => a (31 + i)) gl)) G (rn_V (As := [.int (jI (-1000000001))]) (rest := []) (q0 := 0) G (c_X8_found_0 (ks := ks) (fd := fd) (a := a) ) gX8_of_X8_found rfl hdX8_found ⟨rfl, rfl, Nat.le_of_ble_eq_true rfl, Nat.le_of_ble_eq_true rfl⟩ rfl rfl (Nat.le_of_ble_eq_true rfl) ⟨Nat.zero_le _, Nat.zero_le _⟩ rfl rfl dX8_of_141) [0, 16] [1, 2, 3, 4, 5, 6, 7, 8, 9, 10, 11, 12, 13, 14, 15] [15, 0, 1, 2, 3, 4, 5, 6, 7, 8, 9, 10, 11, 12, 13, 14, 16] rfl rfl (by decide) (fun _ => rfl) (fun r_12 u_14 e_13 => ?_)
      have e_13 : r_12 = jI (-1000000001) := e_13
      subst e_13
      refine v_world (ws' := (gS  a ks ++ gW cI (fun i => a (1 + i)) wd ++ gG cI (fun i => a (31 + i)) gl ++ gF cI a (uI fd 0 (fd 0 + 1)))) rfl ?_
      exact v_iret G (uI fd 0 (fd 0 + 1), gl) (by first | exact Or.inl ⟨(by omega), (by first | rfl | exact congrArg jI (by omega)), rfl⟩ | exact Or.inr (Or.inl ⟨(by omega), (by first | rfl | exact congrArg jI (by omega)), rfl⟩) | exact Or.inr (Or.inr (Or.inl ⟨(by omega), (by first | rfl | exact congrArg jI (by omega)), rfl⟩)) | exact Or.inr (Or.inr (Or.inr (Or.inl ⟨(by omega), (by first | rfl | exact congrArg jI (by omega)), rfl⟩))) | exact Or.inr (Or.inr (Or.inr (Or.inr (Or.inl ⟨(by omega), (by first | rfl | exact congrArg jI (by omega)), rfl⟩)))) | exact Or.inr (Or.inr (Or.inr (Or.inr (Or.inr (Or.inl ⟨(by omega), (by first | rfl | exact congrArg jI (by omega)), rfl⟩))))) | exact Or.inr (Or.inr (Or.inr (Or.inr (Or.inr (Or.inr (Or.inl ⟨(by omega), (by first | rfl | exact congrArg jI (by omega)), rfl⟩)))))) | exact Or.inr (Or.inr (Or.inr (Or.inr (Or.inr (Or.inr (Or.inr (⟨(by omega), (by first | rfl | exact congrArg jI (by omega)), rfl⟩)))))))) rfl dX8_of_144
  · skip
    refine v_aload_n (j := 0) (x := a 0) G dX8_of_11 rfl rfl ?_
    refine v_ldc (z := (-1000000001)) G q_8 (by decide) dX8_of_12 ?_
    refine v_ciP (w2 := (fun _ => (gS  a ks ++ gW cI (fun i => a (1 + i)) wd ++ gG cI (fun i => a (31 + i)) gl ++ gF cI a (uI fd 0 (fd 0 + 1))))) (wr := (gW cI (fun i => a (1 + i)) wd ++ gG cI (fun i => a (31 + i)) gl)) G (rn_V (As := [.int (jI (-1000000001))]) (rest := []) (q0 := 0) G (c_X8_found_0 (ks := ks) (fd := fd) (a := a) ) gX8_of_X8_found rfl hdX8_found ⟨rfl, rfl, Nat.le_of_ble_eq_true rfl, Nat.le_of_ble_eq_true rfl⟩ rfl rfl (Nat.le_of_ble_eq_true rfl) ⟨Nat.zero_le _, Nat.zero_le _⟩ rfl rfl dX8_of_14) [0, 16] [1, 2, 3, 4, 5, 6, 7, 8, 9, 10, 11, 12, 13, 14, 15] [15, 0, 1, 2, 3, 4, 5, 6, 7, 8, 9, 10, 11, 12, 13, 14, 16] rfl rfl (by decide) (fun _ => rfl) (fun r_15 u_17 e_16 => ?_)
    have e_16 : r_15 = jI (-1000000001) := e_16
    subst e_16
    refine v_world (ws' := (gS  a ks ++ gW cI (fun i => a (1 + i)) wd ++ gG cI (fun i => a (31 + i)) gl ++ gF cI a (uI fd 0 (fd 0 + 1)))) rfl ?_
    exact v_iret G (uI fd 0 (fd 0 + 1), gl) (by first | exact Or.inl ⟨(by omega), (by first | rfl | exact congrArg jI (by omega)), rfl⟩ | exact Or.inr (Or.inl ⟨(by omega), (by first | rfl | exact congrArg jI (by omega)), rfl⟩) | exact Or.inr (Or.inr (Or.inl ⟨(by omega), (by first | rfl | exact congrArg jI (by omega)), rfl⟩)) | exact Or.inr (Or.inr (Or.inr (Or.inl ⟨(by omega), (by first | rfl | exact congrArg jI (by omega)), rfl⟩))) | exact Or.inr (Or.inr (Or.inr (Or.inr (Or.inl ⟨(by omega), (by first | rfl | exact congrArg jI (by omega)), rfl⟩)))) | exact Or.inr (Or.inr (Or.inr (Or.inr (Or.inr (Or.inl ⟨(by omega), (by first | rfl | exact congrArg jI (by omega)), rfl⟩))))) | exact Or.inr (Or.inr (Or.inr (Or.inr (Or.inr (Or.inr (Or.inl ⟨(by omega), (by first | rfl | exact congrArg jI (by omega)), rfl⟩)))))) | exact Or.inr (Or.inr (Or.inr (Or.inr (Or.inr (Or.inr (Or.inr (⟨(by omega), (by first | rfl | exact congrArg jI (by omega)), rfl⟩)))))))) rfl dX8_of_17

set_option maxHeartbeats 4000000 in
set_option maxRecDepth 100000 in
theorem c_X8_set (z t v : Int) (hw : Wc wd) (hr : (-2147483648 ≤ z ∧ z ≤ 2147483647) ∧ (-2147483648 ≤ t ∧ t ≤ 2147483647) ∧ (-2147483648 ≤ v ∧ v ≤ 2147483647)) : Ci l yX8_set wsX8_set { frames := 2, cells := 0, slots := 0, locals := 44 } D (jT cI cL cB cS) [.ref (a 0), .int (jI z), .int (jI t), .int (jI v)] (gS  a ks ++ gW cI (fun i => a (1 + i)) wd ++ gF cI a fd) (S := WT × (Int → Int)) (fun u => (gS  a ks ++ gW cI (fun i => a (1 + i)) u.1 ++ gF cI a u.2)) (fun r u => (((((0 ≤ z ∧ z < wd.2.2.1) ∧ (((t = 1 ∨ t = 2) ∧ 0 ≤ v ∧ v ≤ 15) ∨ (t = 3 ∧ 0 ≤ v ∧ v ≤ 99) ∨ (t = 4 ∧ 0 ≤ v ∧ v ≤ 999)))) ∧ t = 1) ∧ r = jI (wd.2.2.2.2.1 z) ∧ u.1 = (wd.1, wd.2.1, wd.2.2.1, wd.2.2.2.1, uI wd.2.2.2.2.1 z v, wd.2.2.2.2.2.1, wd.2.2.2.2.2.2.1, wd.2.2.2.2.2.2.2.1, wd.2.2.2.2.2.2.2.2.1, wd.2.2.2.2.2.2.2.2.2.1, wd.2.2.2.2.2.2.2.2.2.2.1, wd.2.2.2.2.2.2.2.2.2.2.2) ∧ u.2 = fd) ∨ (((((0 ≤ z ∧ z < wd.2.2.1) ∧ (((t = 1 ∨ t = 2) ∧ 0 ≤ v ∧ v ≤ 15) ∨ (t = 3 ∧ 0 ≤ v ∧ v ≤ 99) ∨ (t = 4 ∧ 0 ≤ v ∧ v ≤ 999)))) ∧ t = 2) ∧ r = jI (wd.2.2.2.2.2.1 z) ∧ u.1 = (wd.1, wd.2.1, wd.2.2.1, wd.2.2.2.1, wd.2.2.2.2.1, uI wd.2.2.2.2.2.1 z v, wd.2.2.2.2.2.2.1, wd.2.2.2.2.2.2.2.1, wd.2.2.2.2.2.2.2.2.1, wd.2.2.2.2.2.2.2.2.2.1, wd.2.2.2.2.2.2.2.2.2.2.1, wd.2.2.2.2.2.2.2.2.2.2.2) ∧ u.2 = fd) ∨ (((((0 ≤ z ∧ z < wd.2.2.1) ∧ (((t = 1 ∨ t = 2) ∧ 0 ≤ v ∧ v ≤ 15) ∨ (t = 3 ∧ 0 ≤ v ∧ v ≤ 99) ∨ (t = 4 ∧ 0 ≤ v ∧ v ≤ 999)))) ∧ t = 3) ∧ r = jI (wd.2.2.2.2.2.2.1 z) ∧ u.1 = (wd.1, wd.2.1, wd.2.2.1, wd.2.2.2.1, wd.2.2.2.2.1, wd.2.2.2.2.2.1, uI wd.2.2.2.2.2.2.1 z v, wd.2.2.2.2.2.2.2.1, wd.2.2.2.2.2.2.2.2.1, wd.2.2.2.2.2.2.2.2.2.1, wd.2.2.2.2.2.2.2.2.2.2.1, wd.2.2.2.2.2.2.2.2.2.2.2) ∧ u.2 = fd) ∨ (((((0 ≤ z ∧ z < wd.2.2.1) ∧ (((t = 1 ∨ t = 2) ∧ 0 ≤ v ∧ v ≤ 15) ∨ (t = 3 ∧ 0 ≤ v ∧ v ≤ 99) ∨ (t = 4 ∧ 0 ≤ v ∧ v ≤ 999)))) ∧ t = 4) ∧ r = jI (wd.2.2.2.2.2.2.2.1 z) ∧ u.1 = (wd.1, wd.2.1, wd.2.2.1, wd.2.2.2.1, wd.2.2.2.2.1, wd.2.2.2.2.2.1, wd.2.2.2.2.2.2.1, uI wd.2.2.2.2.2.2.2.1 z v, wd.2.2.2.2.2.2.2.2.1, wd.2.2.2.2.2.2.2.2.2.1, wd.2.2.2.2.2.2.2.2.2.2.1, wd.2.2.2.2.2.2.2.2.2.2.2) ∧ u.2 = fd) ∨ ((¬ ((0 ≤ z ∧ z < wd.2.2.1) ∧ (((t = 1 ∨ t = 2) ∧ 0 ≤ v ∧ v ≤ 15) ∨ (t = 3 ∧ 0 ≤ v ∧ v ≤ 99) ∨ (t = 4 ∧ 0 ≤ v ∧ v ≤ 999)))) ∧ r = jI (-1000000001) ∧ u.1 = wd ∧ u.2 = uI fd 0 (fd 0 + 1))) := by
  refine Ci.mk (cc := cX8_set) (maxL := 6) (rt := .int) (by decide) rfl (Nat.le_of_ble_eq_true rfl) rfl ?_
  intro p_ e_ s_ m_ b_ me_ c_ A_ G hnm
  have hm := hw.many
  have hmt := hw.tasks
  have hh := hw.hour
  have k_X8 : ∀ w ∈ u_ws RX8 TX8 12, w ∈ wsX8_set := fun _ h => List.mem_cons_of_mem _ (List.mem_append_left _ (List.mem_append_right _ h))
  have q_1 : Cond.fieldLink RX8 10 "SupperLight" "world" "LSupperLight$World;" ∈ wsX8_set := List.mem_of_getElem? (i := 1) rfl
  have q_2 : Cond.constant RX8 83 (-1000000001) ∈ wsX8_set := List.mem_of_getElem? (i := 2) rfl
  refine v_aload_n (j := 0) (x := a 0) G dX8_set_0 rfl rfl ?_
  refine v_get (q0 := 0) (k := 0) (v := .ref (a 1)) G k_X8 rfl rfl (by decide) q_1 rfl rfl dX8_set_1 ?_
  refine v_iload_n (j := 1) (x := jI z) G dX8_set_4 rfl rfl ?_
  refine v_ciP (w2 := (fun _ => (gS  a ks ++ gW cI (fun i => a (1 + i)) wd ++ gF cI a fd))) (wr := (gS  a ks ++ gF cI a fd)) G (rn_V (As := [.int (jI z)]) (rest := []) (q0 := 0) G (c_X7_hasBeing (z := z) (x := wd) (b := fun i => a (1 + i)) (hw := hw) (hr := (by omega))) gX8_set_X7_hasBeing rfl hdX7_hasBeing ⟨rfl, rfl, Nat.le_of_ble_eq_true rfl, Nat.le_of_ble_eq_true rfl⟩ rfl rfl (Nat.le_of_ble_eq_true rfl) ⟨Nat.zero_le _, Nat.zero_le _⟩ rfl rfl dX8_set_5) [1, 2, 3, 4, 5, 6, 7, 8, 9, 10] [0, 11] [0, 2, 3, 4, 5, 6, 7, 8, 9, 10, 11, 1] rfl rfl (by decide) (fun _ => rfl) (fun r_1 u_3 e_2 => ?_)
  have e_2 : r_1 = jI (b2 (0 ≤ z ∧ z < wd.2.2.1)) := e_2
  subst e_2
  refine v_world (ws' := (gS  a ks ++ gW cI (fun i => a (1 + i)) wd ++ gF cI a fd)) rfl ?_
  refine v_ifb_eq (P := 0 ≤ z ∧ z < wd.2.2.1) (tgt := 33) G dX8_set_8 (by decide) (fun c_4 => ?_) (fun c_4 => ?_)
  · skip
    refine v_aload_n (j := 0) (x := a 0) G dX8_set_33 rfl rfl ?_
    refine v_ldc (z := (-1000000001)) G q_2 (by decide) dX8_set_34 ?_
    refine v_ciP (w2 := (fun _ => (gS  a ks ++ gW cI (fun i => a (1 + i)) wd ++ gF cI a (uI fd 0 (fd 0 + 1))))) (wr := (gW cI (fun i => a (1 + i)) wd)) G (rn_V (As := [.int (jI (-1000000001))]) (rest := []) (q0 := 0) G (c_X8_found_0 (ks := ks) (fd := fd) (a := a) ) gX8_set_X8_found rfl hdX8_found ⟨rfl, rfl, Nat.le_of_ble_eq_true rfl, Nat.le_of_ble_eq_true rfl⟩ rfl rfl (Nat.le_of_ble_eq_true rfl) ⟨Nat.zero_le _, Nat.zero_le _⟩ rfl rfl dX8_set_36) [0, 11] [1, 2, 3, 4, 5, 6, 7, 8, 9, 10] [10, 0, 1, 2, 3, 4, 5, 6, 7, 8, 9, 11] rfl rfl (by decide) (fun _ => rfl) (fun r_5 u_7 e_6 => ?_)
    have e_6 : r_5 = jI (-1000000001) := e_6
    subst e_6
    refine v_world (ws' := (gS  a ks ++ gW cI (fun i => a (1 + i)) wd ++ gF cI a (uI fd 0 (fd 0 + 1)))) rfl ?_
    exact v_iret G (wd, uI fd 0 (fd 0 + 1)) (by first | exact Or.inl ⟨(by omega), (by first | rfl | exact congrArg jI (by omega)), rfl, rfl⟩ | exact Or.inr (Or.inl ⟨(by omega), (by first | rfl | exact congrArg jI (by omega)), rfl, rfl⟩) | exact Or.inr (Or.inr (Or.inl ⟨(by omega), (by first | rfl | exact congrArg jI (by omega)), rfl, rfl⟩)) | exact Or.inr (Or.inr (Or.inr (Or.inl ⟨(by omega), (by first | rfl | exact congrArg jI (by omega)), rfl, rfl⟩))) | exact Or.inr (Or.inr (Or.inr (Or.inr (⟨(by omega), (by first | rfl | exact congrArg jI (by omega)), rfl, rfl⟩))))) rfl dX8_set_39
  · skip
    refine v_iload_n (j := 2) (x := jI t) G dX8_set_11 rfl rfl ?_
    refine v_iconst G dX8_set_12 ?_
    refine v_iconst G dX8_set_13 ?_
    refine v_ciN G (rn_S (As := [.int (jI t), .int (jI 1), .int (jI 4)]) (rest := []) G (c_X8_within (v := t) (lo := 1) (hi := 4) (hr := (by omega))) gX8_set_X8_within rfl hdX8_within ⟨rfl, rfl, Nat.le_of_ble_eq_true rfl, Nat.le_of_ble_eq_true rfl⟩ rfl rfl (Nat.le_of_ble_eq_true rfl) ⟨Nat.zero_le _, Nat.zero_le _⟩ dX8_set_14) (fun r_8 u_10 e_9 => ?_)
    have e_9 : r_8 = jI (b2 ((1 : Int) ≤ t ∧ t ≤ (4 : Int))) := e_9
    subst e_9
    refine v_ifb_eq (P := (1 : Int) ≤ t ∧ t ≤ (4 : Int)) (tgt := 33) G dX8_set_17 (by decide) (fun c_11 => ?_) (fun c_11 => ?_)
    · skip
      refine v_aload_n (j := 0) (x := a 0) G dX8_set_33 rfl rfl ?_
      refine v_ldc (z := (-1000000001)) G q_2 (by decide) dX8_set_34 ?_
      refine v_ciP (w2 := (fun _ => (gS  a ks ++ gW cI (fun i => a (1 + i)) wd ++ gF cI a (uI fd 0 (fd 0 + 1))))) (wr := (gW cI (fun i => a (1 + i)) wd)) G (rn_V (As := [.int (jI (-1000000001))]) (rest := []) (q0 := 0) G (c_X8_found_0 (ks := ks) (fd := fd) (a := a) ) gX8_set_X8_found rfl hdX8_found ⟨rfl, rfl, Nat.le_of_ble_eq_true rfl, Nat.le_of_ble_eq_true rfl⟩ rfl rfl (Nat.le_of_ble_eq_true rfl) ⟨Nat.zero_le _, Nat.zero_le _⟩ rfl rfl dX8_set_36) [0, 11] [1, 2, 3, 4, 5, 6, 7, 8, 9, 10] [10, 0, 1, 2, 3, 4, 5, 6, 7, 8, 9, 11] rfl rfl (by decide) (fun _ => rfl) (fun r_12 u_14 e_13 => ?_)
      have e_13 : r_12 = jI (-1000000001) := e_13
      subst e_13
      refine v_world (ws' := (gS  a ks ++ gW cI (fun i => a (1 + i)) wd ++ gF cI a (uI fd 0 (fd 0 + 1)))) rfl ?_
      exact v_iret G (wd, uI fd 0 (fd 0 + 1)) (by first | exact Or.inl ⟨(by omega), (by first | rfl | exact congrArg jI (by omega)), rfl, rfl⟩ | exact Or.inr (Or.inl ⟨(by omega), (by first | rfl | exact congrArg jI (by omega)), rfl, rfl⟩) | exact Or.inr (Or.inr (Or.inl ⟨(by omega), (by first | rfl | exact congrArg jI (by omega)), rfl, rfl⟩)) | exact Or.inr (Or.inr (Or.inr (Or.inl ⟨(by omega), (by first | rfl | exact congrArg jI (by omega)), rfl, rfl⟩))) | exact Or.inr (Or.inr (Or.inr (Or.inr (⟨(by omega), (by first | rfl | exact congrArg jI (by omega)), rfl, rfl⟩))))) rfl dX8_set_39
    · skip
      refine v_iload_n (j := 3) (x := jI v) G dX8_set_20 rfl rfl ?_
      refine v_iconst G dX8_set_21 ?_
      refine v_aload_n (j := 0) (x := a 0) G dX8_set_22 rfl rfl ?_
      refine v_iload_n (j := 2) (x := jI t) G dX8_set_23 rfl rfl ?_
      refine v_ciP (w2 := (fun _ => (gS  a ks ++ gW cI (fun i => a (1 + i)) wd ++ gF cI a fd))) (wr := (gW cI (fun i => a (1 + i)) wd ++ gF cI a fd)) G (rn_V (As := [.int (jI t)]) (rest := [.int (jI 0), .int (jI v)]) (q0 := 0) G (c_X8_mostOf (t := t) (ks := ks) (a := a) (hr := (by omega))) gX8_set_X8_mostOf rfl hdX8_mostOf ⟨rfl, rfl, Nat.le_of_ble_eq_true rfl, Nat.le_of_ble_eq_true rfl⟩ rfl rfl (Nat.le_of_ble_eq_true rfl) ⟨Nat.zero_le _, Nat.zero_le _⟩ rfl rfl dX8_set_24) [0] [1, 2, 3, 4, 5, 6, 7, 8, 9, 10, 11] [11, 0, 1, 2, 3, 4, 5, 6, 7, 8, 9, 10] rfl rfl (by decide) (fun _ => rfl) (fun r_15 u_17 e_16 => ?_)
      have e_16 : r_15 = jI (if t = 3 then 99 else if t = 4 then 999 else 15) := e_16
      subst e_16
      refine v_world (ws' := (gS  a ks ++ gW cI (fun i => a (1 + i)) wd ++ gF cI a fd)) rfl ?_
      have hmo : (t = 3 → (if t = 3 then 99 else if t = 4 then 999 else 15 : Int) = 99) ∧ (t = 4 → (if t = 3 then 99 else if t = 4 then 999 else 15 : Int) = 999) ∧ (t ≠ 3 → t ≠ 4 → (if t = 3 then 99 else if t = 4 then 999 else 15 : Int) = 15) := ⟨fun h => by rw [if_pos h], fun h => by rw [if_neg (by omega), if_pos h], fun h h2 => by rw [if_neg h, if_neg h2]⟩
      refine v_ciN G (rn_S (As := [.int (jI v), .int (jI 0), .int (jI (if t = 3 then 99 else if t = 4 then 999 else 15))]) (rest := []) G (c_X8_within (v := v) (lo := 0) (hi := if t = 3 then 99 else if t = 4 then 999 else 15) (hr := (by omega))) gX8_set_X8_within rfl hdX8_within ⟨rfl, rfl, Nat.le_of_ble_eq_true rfl, Nat.le_of_ble_eq_true rfl⟩ rfl rfl (Nat.le_of_ble_eq_true rfl) ⟨Nat.zero_le _, Nat.zero_le _⟩ dX8_set_27) (fun r_18 u_20 e_19 => ?_)
      have e_19 : r_18 = jI (b2 ((0 : Int) ≤ v ∧ v ≤ ((if t = 3 then 99 else if t = 4 then 999 else 15) : Int))) := e_19
      subst e_19
      refine v_ifb_ne (P := (0 : Int) ≤ v ∧ v ≤ ((if t = 3 then 99 else if t = 4 then 999 else 15) : Int)) (tgt := 40) G dX8_set_30 (by decide) (fun c_21 => ?_) (fun c_21 => ?_)
      · skip
        rcases (show t = 1 ∨ t = 2 ∨ t = 3 ∨ t = 4 by omega) with rfl | rfl | rfl | rfl
        · skip
          refine v_aload_n (j := 0) (x := a 0) G dX8_set_40 rfl rfl ?_
          refine v_iload_n (j := 2) (x := jI 1) G dX8_set_41 rfl rfl ?_
          refine v_crF G (rn_V (As := [.int (jI 1)]) (rest := []) (q0 := 0) G (c_X8_rowOf_1 (ks := ks) (wd := wd) (fd := fd) (a := a) ) gX8_set_X8_rowOf rfl hdX8_rowOf ⟨rfl, rfl, Nat.le_of_ble_eq_true rfl, Nat.le_of_ble_eq_true rfl⟩ rfl rfl (Nat.le_of_ble_eq_true rfl) ⟨Nat.zero_le _, Nat.zero_le _⟩ rfl rfl dX8_set_42) (fun r_23 t_26 _ e_24 => ?_)
          have e_24 : r_23 = a 4 := e_24
          subst e_24
          refine v_astore (lv' := [(4, .ref (a 4)), (0, .ref (a 0)), (1, .int (jI z)), (2, .int (jI 1)), (3, .int (jI v))]) G dX8_set_45 (by decide) rfl ?_
          refine v_aload (j := 0) (x := a 4) G dX8_set_47 rfl ?_
          refine v_iload_n (j := 2) (x := jI z) G dX8_set_49 rfl rfl ?_
          refine v_iald (q0 := 4) (t0 := 0) (g := wd.2.2.2.2.1) (z := z) G rfl rfl (by omega) dX8_set_50 ?_
          refine v_istore (lv' := [(5, .int (jI (wd.2.2.2.2.1 z))), (4, .ref (a 4)), (0, .ref (a 0)), (1, .int (jI z)), (2, .int (jI 1)), (3, .int (jI v))]) G dX8_set_51 (by decide) rfl ?_
          refine v_aload (j := 1) (x := a 4) G dX8_set_53 rfl ?_
          refine v_iload_n (j := 3) (x := jI z) G dX8_set_55 rfl rfl ?_
          refine v_iload_n (j := 5) (x := jI v) G dX8_set_56 rfl rfl ?_
          refine v_iast (q0 := 4) (t0 := 0) (g := wd.2.2.2.2.1) (z := z) (x := v) (ws' := (gS  a ks ++ gW cI (fun i => a (1 + i)) (wd.1, wd.2.1, wd.2.2.1, wd.2.2.2.1, uI wd.2.2.2.2.1 z v, wd.2.2.2.2.2.1, wd.2.2.2.2.2.2.1, wd.2.2.2.2.2.2.2.1, wd.2.2.2.2.2.2.2.2.1, wd.2.2.2.2.2.2.2.2.2.1, wd.2.2.2.2.2.2.2.2.2.2.1, wd.2.2.2.2.2.2.2.2.2.2.2) ++ gF cI a fd)) G rfl rfl (by omega) rfl dX8_set_57 ?_
          refine v_iload (j := 0) (x := jI (wd.2.2.2.2.1 z)) G dX8_set_58 rfl ?_
          exact v_iret G ((wd.1, wd.2.1, wd.2.2.1, wd.2.2.2.1, uI wd.2.2.2.2.1 z v, wd.2.2.2.2.2.1, wd.2.2.2.2.2.2.1, wd.2.2.2.2.2.2.2.1, wd.2.2.2.2.2.2.2.2.1, wd.2.2.2.2.2.2.2.2.2.1, wd.2.2.2.2.2.2.2.2.2.2.1, wd.2.2.2.2.2.2.2.2.2.2.2), fd) (by first | exact Or.inl ⟨(by omega), (by first | rfl | exact congrArg jI (by omega)), rfl, rfl⟩ | exact Or.inr (Or.inl ⟨(by omega), (by first | rfl | exact congrArg jI (by omega)), rfl, rfl⟩) | exact Or.inr (Or.inr (Or.inl ⟨(by omega), (by first | rfl | exact congrArg jI (by omega)), rfl, rfl⟩)) | exact Or.inr (Or.inr (Or.inr (Or.inl ⟨(by omega), (by first | rfl | exact congrArg jI (by omega)), rfl, rfl⟩))) | exact Or.inr (Or.inr (Or.inr (Or.inr (⟨(by omega), (by first | rfl | exact congrArg jI (by omega)), rfl, rfl⟩))))) rfl dX8_set_60
        · skip
          refine v_aload_n (j := 0) (x := a 0) G dX8_set_40 rfl rfl ?_
          refine v_iload_n (j := 2) (x := jI 2) G dX8_set_41 rfl rfl ?_
          refine v_crF G (rn_V (As := [.int (jI 2)]) (rest := []) (q0 := 0) G (c_X8_rowOf_2 (ks := ks) (wd := wd) (fd := fd) (a := a) ) gX8_set_X8_rowOf rfl hdX8_rowOf ⟨rfl, rfl, Nat.le_of_ble_eq_true rfl, Nat.le_of_ble_eq_true rfl⟩ rfl rfl (Nat.le_of_ble_eq_true rfl) ⟨Nat.zero_le _, Nat.zero_le _⟩ rfl rfl dX8_set_42) (fun r_27 t_30 _ e_28 => ?_)
          have e_28 : r_27 = a 5 := e_28
          subst e_28
          refine v_astore (lv' := [(4, .ref (a 5)), (0, .ref (a 0)), (1, .int (jI z)), (2, .int (jI 2)), (3, .int (jI v))]) G dX8_set_45 (by decide) rfl ?_
          refine v_aload (j := 0) (x := a 5) G dX8_set_47 rfl ?_
          refine v_iload_n (j := 2) (x := jI z) G dX8_set_49 rfl rfl ?_
          refine v_iald (q0 := 5) (t0 := 0) (g := wd.2.2.2.2.2.1) (z := z) G rfl rfl (by omega) dX8_set_50 ?_
          refine v_istore (lv' := [(5, .int (jI (wd.2.2.2.2.2.1 z))), (4, .ref (a 5)), (0, .ref (a 0)), (1, .int (jI z)), (2, .int (jI 2)), (3, .int (jI v))]) G dX8_set_51 (by decide) rfl ?_
          refine v_aload (j := 1) (x := a 5) G dX8_set_53 rfl ?_
          refine v_iload_n (j := 3) (x := jI z) G dX8_set_55 rfl rfl ?_
          refine v_iload_n (j := 5) (x := jI v) G dX8_set_56 rfl rfl ?_
          refine v_iast (q0 := 5) (t0 := 0) (g := wd.2.2.2.2.2.1) (z := z) (x := v) (ws' := (gS  a ks ++ gW cI (fun i => a (1 + i)) (wd.1, wd.2.1, wd.2.2.1, wd.2.2.2.1, wd.2.2.2.2.1, uI wd.2.2.2.2.2.1 z v, wd.2.2.2.2.2.2.1, wd.2.2.2.2.2.2.2.1, wd.2.2.2.2.2.2.2.2.1, wd.2.2.2.2.2.2.2.2.2.1, wd.2.2.2.2.2.2.2.2.2.2.1, wd.2.2.2.2.2.2.2.2.2.2.2) ++ gF cI a fd)) G rfl rfl (by omega) rfl dX8_set_57 ?_
          refine v_iload (j := 0) (x := jI (wd.2.2.2.2.2.1 z)) G dX8_set_58 rfl ?_
          exact v_iret G ((wd.1, wd.2.1, wd.2.2.1, wd.2.2.2.1, wd.2.2.2.2.1, uI wd.2.2.2.2.2.1 z v, wd.2.2.2.2.2.2.1, wd.2.2.2.2.2.2.2.1, wd.2.2.2.2.2.2.2.2.1, wd.2.2.2.2.2.2.2.2.2.1, wd.2.2.2.2.2.2.2.2.2.2.1, wd.2.2.2.2.2.2.2.2.2.2.2), fd) (by first | exact Or.inl ⟨(by omega), (by first | rfl | exact congrArg jI (by omega)), rfl, rfl⟩ | exact Or.inr (Or.inl ⟨(by omega), (by first | rfl | exact congrArg jI (by omega)), rfl, rfl⟩) | exact Or.inr (Or.inr (Or.inl ⟨(by omega), (by first | rfl | exact congrArg jI (by omega)), rfl, rfl⟩)) | exact Or.inr (Or.inr (Or.inr (Or.inl ⟨(by omega), (by first | rfl | exact congrArg jI (by omega)), rfl, rfl⟩))) | exact Or.inr (Or.inr (Or.inr (Or.inr (⟨(by omega), (by first | rfl | exact congrArg jI (by omega)), rfl, rfl⟩))))) rfl dX8_set_60
        · skip
          refine v_aload_n (j := 0) (x := a 0) G dX8_set_40 rfl rfl ?_
          refine v_iload_n (j := 2) (x := jI 3) G dX8_set_41 rfl rfl ?_
          refine v_crF G (rn_V (As := [.int (jI 3)]) (rest := []) (q0 := 0) G (c_X8_rowOf_3 (ks := ks) (wd := wd) (fd := fd) (a := a) ) gX8_set_X8_rowOf rfl hdX8_rowOf ⟨rfl, rfl, Nat.le_of_ble_eq_true rfl, Nat.le_of_ble_eq_true rfl⟩ rfl rfl (Nat.le_of_ble_eq_true rfl) ⟨Nat.zero_le _, Nat.zero_le _⟩ rfl rfl dX8_set_42) (fun r_31 t_34 _ e_32 => ?_)
          have e_32 : r_31 = a 6 := e_32
          subst e_32
          refine v_astore (lv' := [(4, .ref (a 6)), (0, .ref (a 0)), (1, .int (jI z)), (2, .int (jI 3)), (3, .int (jI v))]) G dX8_set_45 (by decide) rfl ?_
          refine v_aload (j := 0) (x := a 6) G dX8_set_47 rfl ?_
          refine v_iload_n (j := 2) (x := jI z) G dX8_set_49 rfl rfl ?_
          refine v_iald (q0 := 6) (t0 := 0) (g := wd.2.2.2.2.2.2.1) (z := z) G rfl rfl (by omega) dX8_set_50 ?_
          refine v_istore (lv' := [(5, .int (jI (wd.2.2.2.2.2.2.1 z))), (4, .ref (a 6)), (0, .ref (a 0)), (1, .int (jI z)), (2, .int (jI 3)), (3, .int (jI v))]) G dX8_set_51 (by decide) rfl ?_
          refine v_aload (j := 1) (x := a 6) G dX8_set_53 rfl ?_
          refine v_iload_n (j := 3) (x := jI z) G dX8_set_55 rfl rfl ?_
          refine v_iload_n (j := 5) (x := jI v) G dX8_set_56 rfl rfl ?_
          refine v_iast (q0 := 6) (t0 := 0) (g := wd.2.2.2.2.2.2.1) (z := z) (x := v) (ws' := (gS  a ks ++ gW cI (fun i => a (1 + i)) (wd.1, wd.2.1, wd.2.2.1, wd.2.2.2.1, wd.2.2.2.2.1, wd.2.2.2.2.2.1, uI wd.2.2.2.2.2.2.1 z v, wd.2.2.2.2.2.2.2.1, wd.2.2.2.2.2.2.2.2.1, wd.2.2.2.2.2.2.2.2.2.1, wd.2.2.2.2.2.2.2.2.2.2.1, wd.2.2.2.2.2.2.2.2.2.2.2) ++ gF cI a fd)) G rfl rfl (by omega) rfl dX8_set_57 ?_
          refine v_iload (j := 0) (x := jI (wd.2.2.2.2.2.2.1 z)) G dX8_set_58 rfl ?_
          exact v_iret G ((wd.1, wd.2.1, wd.2.2.1, wd.2.2.2.1, wd.2.2.2.2.1, wd.2.2.2.2.2.1, uI wd.2.2.2.2.2.2.1 z v, wd.2.2.2.2.2.2.2.1, wd.2.2.2.2.2.2.2.2.1, wd.2.2.2.2.2.2.2.2.2.1, wd.2.2.2.2.2.2.2.2.2.2.1, wd.2.2.2.2.2.2.2.2.2.2.2), fd) (by first | exact Or.inl ⟨(by omega), (by first | rfl | exact congrArg jI (by omega)), rfl, rfl⟩ | exact Or.inr (Or.inl ⟨(by omega), (by first | rfl | exact congrArg jI (by omega)), rfl, rfl⟩) | exact Or.inr (Or.inr (Or.inl ⟨(by omega), (by first | rfl | exact congrArg jI (by omega)), rfl, rfl⟩)) | exact Or.inr (Or.inr (Or.inr (Or.inl ⟨(by omega), (by first | rfl | exact congrArg jI (by omega)), rfl, rfl⟩))) | exact Or.inr (Or.inr (Or.inr (Or.inr (⟨(by omega), (by first | rfl | exact congrArg jI (by omega)), rfl, rfl⟩))))) rfl dX8_set_60
        · skip
          refine v_aload_n (j := 0) (x := a 0) G dX8_set_40 rfl rfl ?_
          refine v_iload_n (j := 2) (x := jI 4) G dX8_set_41 rfl rfl ?_
          refine v_crF G (rn_V (As := [.int (jI 4)]) (rest := []) (q0 := 0) G (c_X8_rowOf_4 (ks := ks) (wd := wd) (fd := fd) (a := a) ) gX8_set_X8_rowOf rfl hdX8_rowOf ⟨rfl, rfl, Nat.le_of_ble_eq_true rfl, Nat.le_of_ble_eq_true rfl⟩ rfl rfl (Nat.le_of_ble_eq_true rfl) ⟨Nat.zero_le _, Nat.zero_le _⟩ rfl rfl dX8_set_42) (fun r_35 t_38 _ e_36 => ?_)
          have e_36 : r_35 = a 7 := e_36
          subst e_36
          refine v_astore (lv' := [(4, .ref (a 7)), (0, .ref (a 0)), (1, .int (jI z)), (2, .int (jI 4)), (3, .int (jI v))]) G dX8_set_45 (by decide) rfl ?_
          refine v_aload (j := 0) (x := a 7) G dX8_set_47 rfl ?_
          refine v_iload_n (j := 2) (x := jI z) G dX8_set_49 rfl rfl ?_
          refine v_iald (q0 := 7) (t0 := 0) (g := wd.2.2.2.2.2.2.2.1) (z := z) G rfl rfl (by omega) dX8_set_50 ?_
          refine v_istore (lv' := [(5, .int (jI (wd.2.2.2.2.2.2.2.1 z))), (4, .ref (a 7)), (0, .ref (a 0)), (1, .int (jI z)), (2, .int (jI 4)), (3, .int (jI v))]) G dX8_set_51 (by decide) rfl ?_
          refine v_aload (j := 1) (x := a 7) G dX8_set_53 rfl ?_
          refine v_iload_n (j := 3) (x := jI z) G dX8_set_55 rfl rfl ?_
          refine v_iload_n (j := 5) (x := jI v) G dX8_set_56 rfl rfl ?_
          refine v_iast (q0 := 7) (t0 := 0) (g := wd.2.2.2.2.2.2.2.1) (z := z) (x := v) (ws' := (gS  a ks ++ gW cI (fun i => a (1 + i)) (wd.1, wd.2.1, wd.2.2.1, wd.2.2.2.1, wd.2.2.2.2.1, wd.2.2.2.2.2.1, wd.2.2.2.2.2.2.1, uI wd.2.2.2.2.2.2.2.1 z v, wd.2.2.2.2.2.2.2.2.1, wd.2.2.2.2.2.2.2.2.2.1, wd.2.2.2.2.2.2.2.2.2.2.1, wd.2.2.2.2.2.2.2.2.2.2.2) ++ gF cI a fd)) G rfl rfl (by omega) rfl dX8_set_57 ?_
          refine v_iload (j := 0) (x := jI (wd.2.2.2.2.2.2.2.1 z)) G dX8_set_58 rfl ?_
          exact v_iret G ((wd.1, wd.2.1, wd.2.2.1, wd.2.2.2.1, wd.2.2.2.2.1, wd.2.2.2.2.2.1, wd.2.2.2.2.2.2.1, uI wd.2.2.2.2.2.2.2.1 z v, wd.2.2.2.2.2.2.2.2.1, wd.2.2.2.2.2.2.2.2.2.1, wd.2.2.2.2.2.2.2.2.2.2.1, wd.2.2.2.2.2.2.2.2.2.2.2), fd) (by first | exact Or.inl ⟨(by omega), (by first | rfl | exact congrArg jI (by omega)), rfl, rfl⟩ | exact Or.inr (Or.inl ⟨(by omega), (by first | rfl | exact congrArg jI (by omega)), rfl, rfl⟩) | exact Or.inr (Or.inr (Or.inl ⟨(by omega), (by first | rfl | exact congrArg jI (by omega)), rfl, rfl⟩)) | exact Or.inr (Or.inr (Or.inr (Or.inl ⟨(by omega), (by first | rfl | exact congrArg jI (by omega)), rfl, rfl⟩))) | exact Or.inr (Or.inr (Or.inr (Or.inr (⟨(by omega), (by first | rfl | exact congrArg jI (by omega)), rfl, rfl⟩))))) rfl dX8_set_60
      · skip
        refine v_aload_n (j := 0) (x := a 0) G dX8_set_33 rfl rfl ?_
        refine v_ldc (z := (-1000000001)) G q_2 (by decide) dX8_set_34 ?_
        refine v_ciP (w2 := (fun _ => (gS  a ks ++ gW cI (fun i => a (1 + i)) wd ++ gF cI a (uI fd 0 (fd 0 + 1))))) (wr := (gW cI (fun i => a (1 + i)) wd)) G (rn_V (As := [.int (jI (-1000000001))]) (rest := []) (q0 := 0) G (c_X8_found_0 (ks := ks) (fd := fd) (a := a) ) gX8_set_X8_found rfl hdX8_found ⟨rfl, rfl, Nat.le_of_ble_eq_true rfl, Nat.le_of_ble_eq_true rfl⟩ rfl rfl (Nat.le_of_ble_eq_true rfl) ⟨Nat.zero_le _, Nat.zero_le _⟩ rfl rfl dX8_set_36) [0, 11] [1, 2, 3, 4, 5, 6, 7, 8, 9, 10] [10, 0, 1, 2, 3, 4, 5, 6, 7, 8, 9, 11] rfl rfl (by decide) (fun _ => rfl) (fun r_39 u_41 e_40 => ?_)
        have e_40 : r_39 = jI (-1000000001) := e_40
        subst e_40
        refine v_world (ws' := (gS  a ks ++ gW cI (fun i => a (1 + i)) wd ++ gF cI a (uI fd 0 (fd 0 + 1)))) rfl ?_
        exact v_iret G (wd, uI fd 0 (fd 0 + 1)) (by first | exact Or.inl ⟨(by omega), (by first | rfl | exact congrArg jI (by omega)), rfl, rfl⟩ | exact Or.inr (Or.inl ⟨(by omega), (by first | rfl | exact congrArg jI (by omega)), rfl, rfl⟩) | exact Or.inr (Or.inr (Or.inl ⟨(by omega), (by first | rfl | exact congrArg jI (by omega)), rfl, rfl⟩)) | exact Or.inr (Or.inr (Or.inr (Or.inl ⟨(by omega), (by first | rfl | exact congrArg jI (by omega)), rfl, rfl⟩))) | exact Or.inr (Or.inr (Or.inr (Or.inr (⟨(by omega), (by first | rfl | exact congrArg jI (by omega)), rfl, rfl⟩))))) rfl dX8_set_39

set_option maxHeartbeats 4000000 in
set_option maxRecDepth 100000 in
theorem c_X8_turn (z k : Int) (hw : Wc wd) (hr : (-2147483648 ≤ z ∧ z ≤ 2147483647) ∧ (-2147483648 ≤ k ∧ k ≤ 2147483647)) : Ci l yX8_turn wsX8_turn { frames := 2, cells := 0, slots := 0, locals := 44 } D (jT cI cL cB cS) [.ref (a 0), .int (jI z), .int (jI k)] (gS  a ks ++ gW cI (fun i => a (1 + i)) wd ++ gF cI a fd) (S := WT × (Int → Int)) (fun u => (gS  a ks ++ gW cI (fun i => a (1 + i)) u.1 ++ gF cI a u.2)) (fun r u => ((((0 ≤ z ∧ z < wd.2.2.1) ∧ 0 ≤ k ∧ k ≤ 5)) ∧ r = jI (wd.2.2.2.1 z) ∧ u.1 = (wd.1, wd.2.1, wd.2.2.1, uI wd.2.2.2.1 z k, wd.2.2.2.2.1, wd.2.2.2.2.2.1, wd.2.2.2.2.2.2.1, wd.2.2.2.2.2.2.2.1, wd.2.2.2.2.2.2.2.2.1, wd.2.2.2.2.2.2.2.2.2.1, wd.2.2.2.2.2.2.2.2.2.2.1, wd.2.2.2.2.2.2.2.2.2.2.2) ∧ u.2 = fd) ∨ ((¬ ((0 ≤ z ∧ z < wd.2.2.1) ∧ 0 ≤ k ∧ k ≤ 5)) ∧ r = jI (-1000000001) ∧ u.1 = wd ∧ u.2 = uI fd 0 (fd 0 + 1))) := by
  refine Ci.mk (cc := cX8_turn) (maxL := 4) (rt := .int) (by decide) rfl (Nat.le_of_ble_eq_true rfl) rfl ?_
  intro p_ e_ s_ m_ b_ me_ c_ A_ G hnm
  have hm := hw.many
  have hmt := hw.tasks
  have hh := hw.hour
  have k_X8 : ∀ w ∈ u_ws RX8 TX8 12, w ∈ wsX8_turn := fun _ h => List.mem_cons_of_mem _ (List.mem_append_left _ (List.mem_append_right _ h))
  have q_1 : Cond.fieldLink RX8 10 "SupperLight" "world" "LSupperLight$World;" ∈ wsX8_turn := List.mem_of_getElem? (i := 1) rfl
  have q_2 : Cond.constant RX8 83 (-1000000001) ∈ wsX8_turn := List.mem_of_getElem? (i := 2) rfl
  have k_X7 : ∀ w ∈ u_ws RX7 TX7 12, w ∈ wsX8_turn := fun _ h => List.mem_cons_of_mem _ (List.mem_append_right _ h)
  have q_4 : Cond.fieldLink RX8 112 "SupperLight$World" "kinds" "[I" ∈ wsX8_turn := List.mem_of_getElem? (i := 3) rfl
  refine v_aload_n (j := 0) (x := a 0) G dX8_turn_0 rfl rfl ?_
  refine v_get (q0 := 0) (k := 0) (v := .ref (a 1)) G k_X8 rfl rfl (by decide) q_1 rfl rfl dX8_turn_1 ?_
  refine v_iload_n (j := 1) (x := jI z) G dX8_turn_4 rfl rfl ?_
  refine v_ciP (w2 := (fun _ => (gS  a ks ++ gW cI (fun i => a (1 + i)) wd ++ gF cI a fd))) (wr := (gS  a ks ++ gF cI a fd)) G (rn_V (As := [.int (jI z)]) (rest := []) (q0 := 0) G (c_X7_hasBeing (z := z) (x := wd) (b := fun i => a (1 + i)) (hw := hw) (hr := (by omega))) gX8_turn_X7_hasBeing rfl hdX7_hasBeing ⟨rfl, rfl, Nat.le_of_ble_eq_true rfl, Nat.le_of_ble_eq_true rfl⟩ rfl rfl (Nat.le_of_ble_eq_true rfl) ⟨Nat.zero_le _, Nat.zero_le _⟩ rfl rfl dX8_turn_5) [1, 2, 3, 4, 5, 6, 7, 8, 9, 10] [0, 11] [0, 2, 3, 4, 5, 6, 7, 8, 9, 10, 11, 1] rfl rfl (by decide) (fun _ => rfl) (fun r_1 u_3 e_2 => ?_)
  have e_2 : r_1 = jI (b2 (0 ≤ z ∧ z < wd.2.2.1)) := e_2
  subst e_2
  refine v_world (ws' := (gS  a ks ++ gW cI (fun i => a (1 + i)) wd ++ gF cI a fd)) rfl ?_
  refine v_ifb_eq (P := 0 ≤ z ∧ z < wd.2.2.1) (tgt := 18) G dX8_turn_8 (by decide) (fun c_4 => ?_) (fun c_4 => ?_)
  · skip
    refine v_aload_n (j := 0) (x := a 0) G dX8_turn_18 rfl rfl ?_
    refine v_ldc (z := (-1000000001)) G q_2 (by decide) dX8_turn_19 ?_
    refine v_ciP (w2 := (fun _ => (gS  a ks ++ gW cI (fun i => a (1 + i)) wd ++ gF cI a (uI fd 0 (fd 0 + 1))))) (wr := (gW cI (fun i => a (1 + i)) wd)) G (rn_V (As := [.int (jI (-1000000001))]) (rest := []) (q0 := 0) G (c_X8_found_0 (ks := ks) (fd := fd) (a := a) ) gX8_turn_X8_found rfl hdX8_found ⟨rfl, rfl, Nat.le_of_ble_eq_true rfl, Nat.le_of_ble_eq_true rfl⟩ rfl rfl (Nat.le_of_ble_eq_true rfl) ⟨Nat.zero_le _, Nat.zero_le _⟩ rfl rfl dX8_turn_21) [0, 11] [1, 2, 3, 4, 5, 6, 7, 8, 9, 10] [10, 0, 1, 2, 3, 4, 5, 6, 7, 8, 9, 11] rfl rfl (by decide) (fun _ => rfl) (fun r_5 u_7 e_6 => ?_)
    have e_6 : r_5 = jI (-1000000001) := e_6
    subst e_6
    refine v_world (ws' := (gS  a ks ++ gW cI (fun i => a (1 + i)) wd ++ gF cI a (uI fd 0 (fd 0 + 1)))) rfl ?_
    exact v_iret G (wd, uI fd 0 (fd 0 + 1)) (by first | exact Or.inl ⟨(by omega), (by first | rfl | exact congrArg jI (by omega)), rfl, rfl⟩ | exact Or.inr (⟨(by omega), (by first | rfl | exact congrArg jI (by omega)), rfl, rfl⟩)) rfl dX8_turn_24
  · skip
    refine v_iload_n (j := 2) (x := jI k) G dX8_turn_11 rfl rfl ?_
    refine v_ciN G (rn_S (As := [.int (jI k)]) (rest := []) G (c_X8_isKind (k := k) (hr := (by omega))) gX8_turn_X8_isKind rfl hdX8_isKind ⟨rfl, rfl, Nat.le_of_ble_eq_true rfl, Nat.le_of_ble_eq_true rfl⟩ rfl rfl (Nat.le_of_ble_eq_true rfl) ⟨Nat.zero_le _, Nat.zero_le _⟩ dX8_turn_12) (fun r_8 u_10 e_9 => ?_)
    have e_9 : r_8 = jI (b2 (0 ≤ k ∧ k ≤ 5)) := e_9
    subst e_9
    refine v_ifb_ne (P := 0 ≤ k ∧ k ≤ 5) (tgt := 25) G dX8_turn_15 (by decide) (fun c_11 => ?_) (fun c_11 => ?_)
    · skip
      refine v_aload_n (j := 0) (x := a 0) G dX8_turn_25 rfl rfl ?_
      refine v_get (q0 := 0) (k := 0) (v := .ref (a 1)) G k_X8 rfl rfl (by decide) q_1 rfl rfl dX8_turn_26 ?_
      refine v_get (q0 := 1) (k := 3) (v := .ref (a 3)) G k_X7 rfl rfl (by decide) q_4 rfl rfl dX8_turn_29 ?_
      refine v_iload_n (j := 1) (x := jI z) G dX8_turn_32 rfl rfl ?_
      refine v_iald (q0 := 3) (t0 := 0) (g := wd.2.2.2.1) (z := z) G rfl rfl (by omega) dX8_turn_33 ?_
      refine v_istore_n (lv' := [(3, .int (jI (wd.2.2.2.1 z))), (0, .ref (a 0)), (1, .int (jI z)), (2, .int (jI k))]) G dX8_turn_34 rfl (by decide) rfl ?_
      refine v_aload_n (j := 1) (x := a 0) G dX8_turn_35 rfl rfl ?_
      refine v_get (q0 := 0) (k := 0) (v := .ref (a 1)) G k_X8 rfl rfl (by decide) q_1 rfl rfl dX8_turn_36 ?_
      refine v_get (q0 := 1) (k := 3) (v := .ref (a 3)) G k_X7 rfl rfl (by decide) q_4 rfl rfl dX8_turn_39 ?_
      refine v_iload_n (j := 2) (x := jI z) G dX8_turn_42 rfl rfl ?_
      refine v_iload_n (j := 3) (x := jI k) G dX8_turn_43 rfl rfl ?_
      refine v_iast (q0 := 3) (t0 := 0) (g := wd.2.2.2.1) (z := z) (x := k) (ws' := (gS  a ks ++ gW cI (fun i => a (1 + i)) (wd.1, wd.2.1, wd.2.2.1, uI wd.2.2.2.1 z k, wd.2.2.2.2.1, wd.2.2.2.2.2.1, wd.2.2.2.2.2.2.1, wd.2.2.2.2.2.2.2.1, wd.2.2.2.2.2.2.2.2.1, wd.2.2.2.2.2.2.2.2.2.1, wd.2.2.2.2.2.2.2.2.2.2.1, wd.2.2.2.2.2.2.2.2.2.2.2) ++ gF cI a fd)) G rfl rfl (by omega) rfl dX8_turn_44 ?_
      refine v_iload_n (j := 0) (x := jI (wd.2.2.2.1 z)) G dX8_turn_45 rfl rfl ?_
      exact v_iret G ((wd.1, wd.2.1, wd.2.2.1, uI wd.2.2.2.1 z k, wd.2.2.2.2.1, wd.2.2.2.2.2.1, wd.2.2.2.2.2.2.1, wd.2.2.2.2.2.2.2.1, wd.2.2.2.2.2.2.2.2.1, wd.2.2.2.2.2.2.2.2.2.1, wd.2.2.2.2.2.2.2.2.2.2.1, wd.2.2.2.2.2.2.2.2.2.2.2), fd) (by first | exact Or.inl ⟨(by omega), (by first | rfl | exact congrArg jI (by omega)), rfl, rfl⟩ | exact Or.inr (⟨(by omega), (by first | rfl | exact congrArg jI (by omega)), rfl, rfl⟩)) rfl dX8_turn_46
    · skip
      refine v_aload_n (j := 0) (x := a 0) G dX8_turn_18 rfl rfl ?_
      refine v_ldc (z := (-1000000001)) G q_2 (by decide) dX8_turn_19 ?_
      refine v_ciP (w2 := (fun _ => (gS  a ks ++ gW cI (fun i => a (1 + i)) wd ++ gF cI a (uI fd 0 (fd 0 + 1))))) (wr := (gW cI (fun i => a (1 + i)) wd)) G (rn_V (As := [.int (jI (-1000000001))]) (rest := []) (q0 := 0) G (c_X8_found_0 (ks := ks) (fd := fd) (a := a) ) gX8_turn_X8_found rfl hdX8_found ⟨rfl, rfl, Nat.le_of_ble_eq_true rfl, Nat.le_of_ble_eq_true rfl⟩ rfl rfl (Nat.le_of_ble_eq_true rfl) ⟨Nat.zero_le _, Nat.zero_le _⟩ rfl rfl dX8_turn_21) [0, 11] [1, 2, 3, 4, 5, 6, 7, 8, 9, 10] [10, 0, 1, 2, 3, 4, 5, 6, 7, 8, 9, 11] rfl rfl (by decide) (fun _ => rfl) (fun r_12 u_14 e_13 => ?_)
      have e_13 : r_12 = jI (-1000000001) := e_13
      subst e_13
      refine v_world (ws' := (gS  a ks ++ gW cI (fun i => a (1 + i)) wd ++ gF cI a (uI fd 0 (fd 0 + 1)))) rfl ?_
      exact v_iret G (wd, uI fd 0 (fd 0 + 1)) (by first | exact Or.inl ⟨(by omega), (by first | rfl | exact congrArg jI (by omega)), rfl, rfl⟩ | exact Or.inr (⟨(by omega), (by first | rfl | exact congrArg jI (by omega)), rfl, rfl⟩)) rfl dX8_turn_24

set_option maxHeartbeats 4000000 in
set_option maxRecDepth 100000 in
theorem c_X8_as (z k : Int) (hw : Wc wd) (hr : (-2147483648 ≤ z ∧ z ≤ 2147483647) ∧ (-2147483648 ≤ k ∧ k ≤ 2147483647)) : Ci l yX8_as wsX8_as { frames := 2, cells := 0, slots := 0, locals := 44 } D (jT cI cL cB cS) [.ref (a 0), .int (jI z), .int (jI k)] (gS  a ks ++ gW cI (fun i => a (1 + i)) wd ++ gF cI a fd) (S := (Int → Int)) (fun fd2 => (gS  a ks ++ gW cI (fun i => a (1 + i)) wd ++ gF cI a fd2)) (fun r fd2 => ((¬ ((0 ≤ z ∧ z < wd.2.2.1) ∧ 0 ≤ k ∧ k ≤ 5)) ∧ r = jI (-1000000001) ∧ fd2 = uI fd 0 (fd 0 + 1)) ∨ ((((0 ≤ z ∧ z < wd.2.2.1) ∧ 0 ≤ k ∧ k ≤ 5) ∧ unN (wd.2.2.2.1 z) k 6) ∧ r = jI (wd.2.2.2.2.2.2.1 z) ∧ fd2 = fd) ∨ ((((0 ≤ z ∧ z < wd.2.2.1) ∧ 0 ≤ k ∧ k ≤ 5) ∧ ¬ unN (wd.2.2.2.1 z) k 6) ∧ r = jI (-1000000003) ∧ fd2 = uI fd 2 (fd 2 + 1))) := by
  refine Ci.mk (cc := cX8_as) (maxL := 3) (rt := .int) (by decide) rfl (Nat.le_of_ble_eq_true rfl) rfl ?_
  intro p_ e_ s_ m_ b_ me_ c_ A_ G hnm
  have hm := hw.many
  have hmt := hw.tasks
  have hh := hw.hour
  have k_X8 : ∀ w ∈ u_ws RX8 TX8 12, w ∈ wsX8_as := fun _ h => List.mem_cons_of_mem _ (List.mem_append_left _ (List.mem_append_right _ h))
  have q_1 : Cond.fieldLink RX8 10 "SupperLight" "world" "LSupperLight$World;" ∈ wsX8_as := List.mem_of_getElem? (i := 1) rfl
  have q_2 : Cond.constant RX8 83 (-1000000001) ∈ wsX8_as := List.mem_of_getElem? (i := 2) rfl
  have k_X7 : ∀ w ∈ u_ws RX7 TX7 12, w ∈ wsX8_as := fun _ h => List.mem_cons_of_mem _ (List.mem_append_right _ h)
  have q_4 : Cond.fieldLink RX8 112 "SupperLight$World" "kinds" "[I" ∈ wsX8_as := List.mem_of_getElem? (i := 3) rfl
  have q_5 : Cond.fieldLink RX8 121 "SupperLight$World" "meals" "[I" ∈ wsX8_as := List.mem_of_getElem? (i := 5) rfl
  have q_6 : Cond.constant RX8 144 (-1000000003) ∈ wsX8_as := List.mem_of_getElem? (i := 4) rfl
  refine v_aload_n (j := 0) (x := a 0) G dX8_as_0 rfl rfl ?_
  refine v_get (q0 := 0) (k := 0) (v := .ref (a 1)) G k_X8 rfl rfl (by decide) q_1 rfl rfl dX8_as_1 ?_
  refine v_iload_n (j := 1) (x := jI z) G dX8_as_4 rfl rfl ?_
  refine v_ciP (w2 := (fun _ => (gS  a ks ++ gW cI (fun i => a (1 + i)) wd ++ gF cI a fd))) (wr := (gS  a ks ++ gF cI a fd)) G (rn_V (As := [.int (jI z)]) (rest := []) (q0 := 0) G (c_X7_hasBeing (z := z) (x := wd) (b := fun i => a (1 + i)) (hw := hw) (hr := (by omega))) gX8_as_X7_hasBeing rfl hdX7_hasBeing ⟨rfl, rfl, Nat.le_of_ble_eq_true rfl, Nat.le_of_ble_eq_true rfl⟩ rfl rfl (Nat.le_of_ble_eq_true rfl) ⟨Nat.zero_le _, Nat.zero_le _⟩ rfl rfl dX8_as_5) [1, 2, 3, 4, 5, 6, 7, 8, 9, 10] [0, 11] [0, 2, 3, 4, 5, 6, 7, 8, 9, 10, 11, 1] rfl rfl (by decide) (fun _ => rfl) (fun r_1 u_3 e_2 => ?_)
  have e_2 : r_1 = jI (b2 (0 ≤ z ∧ z < wd.2.2.1)) := e_2
  subst e_2
  refine v_world (ws' := (gS  a ks ++ gW cI (fun i => a (1 + i)) wd ++ gF cI a fd)) rfl ?_
  refine v_ifb_eq (P := 0 ≤ z ∧ z < wd.2.2.1) (tgt := 18) G dX8_as_8 (by decide) (fun c_4 => ?_) (fun c_4 => ?_)
  · skip
    refine v_aload_n (j := 0) (x := a 0) G dX8_as_18 rfl rfl ?_
    refine v_ldc (z := (-1000000001)) G q_2 (by decide) dX8_as_19 ?_
    refine v_ciP (w2 := (fun _ => (gS  a ks ++ gW cI (fun i => a (1 + i)) wd ++ gF cI a (uI fd 0 (fd 0 + 1))))) (wr := (gW cI (fun i => a (1 + i)) wd)) G (rn_V (As := [.int (jI (-1000000001))]) (rest := []) (q0 := 0) G (c_X8_found_0 (ks := ks) (fd := fd) (a := a) ) gX8_as_X8_found rfl hdX8_found ⟨rfl, rfl, Nat.le_of_ble_eq_true rfl, Nat.le_of_ble_eq_true rfl⟩ rfl rfl (Nat.le_of_ble_eq_true rfl) ⟨Nat.zero_le _, Nat.zero_le _⟩ rfl rfl dX8_as_21) [0, 11] [1, 2, 3, 4, 5, 6, 7, 8, 9, 10] [10, 0, 1, 2, 3, 4, 5, 6, 7, 8, 9, 11] rfl rfl (by decide) (fun _ => rfl) (fun r_5 u_7 e_6 => ?_)
    have e_6 : r_5 = jI (-1000000001) := e_6
    subst e_6
    refine v_world (ws' := (gS  a ks ++ gW cI (fun i => a (1 + i)) wd ++ gF cI a (uI fd 0 (fd 0 + 1)))) rfl ?_
    exact v_iret G (uI fd 0 (fd 0 + 1)) (by first | exact Or.inl ⟨(by first | omega | exact ⟨by omega, by assumption⟩), (by first | rfl | exact congrArg jI (by omega)), rfl⟩ | exact Or.inr (Or.inl ⟨(by first | omega | exact ⟨by omega, by assumption⟩), (by first | rfl | exact congrArg jI (by omega)), rfl⟩) | exact Or.inr (Or.inr (⟨(by first | omega | exact ⟨by omega, by assumption⟩), (by first | rfl | exact congrArg jI (by omega)), rfl⟩))) rfl dX8_as_24
  · skip
    refine v_iload_n (j := 2) (x := jI k) G dX8_as_11 rfl rfl ?_
    refine v_ciN G (rn_S (As := [.int (jI k)]) (rest := []) G (c_X8_isKind (k := k) (hr := (by omega))) gX8_as_X8_isKind rfl hdX8_isKind ⟨rfl, rfl, Nat.le_of_ble_eq_true rfl, Nat.le_of_ble_eq_true rfl⟩ rfl rfl (Nat.le_of_ble_eq_true rfl) ⟨Nat.zero_le _, Nat.zero_le _⟩ dX8_as_12) (fun r_8 u_10 e_9 => ?_)
    have e_9 : r_8 = jI (b2 (0 ≤ k ∧ k ≤ 5)) := e_9
    subst e_9
    refine v_ifb_ne (P := 0 ≤ k ∧ k ≤ 5) (tgt := 25) G dX8_as_15 (by decide) (fun c_11 => ?_) (fun c_11 => ?_)
    · skip
      have hk := hw.being (b := z) (by omega) (by omega)
      refine v_aload_n (j := 0) (x := a 0) G dX8_as_25 rfl rfl ?_
      refine v_get (q0 := 0) (k := 0) (v := .ref (a 1)) G k_X8 rfl rfl (by decide) q_1 rfl rfl dX8_as_26 ?_
      refine v_get (q0 := 1) (k := 3) (v := .ref (a 3)) G k_X7 rfl rfl (by decide) q_4 rfl rfl dX8_as_29 ?_
      refine v_iload_n (j := 1) (x := jI z) G dX8_as_32 rfl rfl ?_
      refine v_iald (q0 := 3) (t0 := 0) (g := wd.2.2.2.1) (z := z) G rfl rfl (by omega) dX8_as_33 ?_
      refine v_iload_n (j := 2) (x := jI k) G dX8_as_34 rfl rfl ?_
      refine v_ciN G (rn_S (As := [.int (jI (wd.2.2.2.1 z)), .int (jI k)]) (rest := []) G (c_X8_isUnder (k := wd.2.2.2.1 z) (u := k) (hk := (by omega))) gX8_as_X8_isUnder rfl hdX8_isUnder ⟨rfl, rfl, Nat.le_of_ble_eq_true rfl, Nat.le_of_ble_eq_true rfl⟩ rfl rfl (Nat.le_of_ble_eq_true rfl) ⟨Nat.zero_le _, Nat.zero_le _⟩ dX8_as_35) (fun r_12 u_14 e_13 => ?_)
      have e_13 : r_12 = jI (b2 (unN (wd.2.2.2.1 z) k 6)) := e_13
      subst e_13
      refine v_ifb_ne (P := unN (wd.2.2.2.1 z) k 6) (tgt := 48) G dX8_as_38 (by decide) (fun c_15 => ?_) (fun c_15 => ?_)
      · skip
        refine v_aload_n (j := 0) (x := a 0) G dX8_as_48 rfl rfl ?_
        refine v_get (q0 := 0) (k := 0) (v := .ref (a 1)) G k_X8 rfl rfl (by decide) q_1 rfl rfl dX8_as_49 ?_
        refine v_get (q0 := 1) (k := 6) (v := .ref (a 6)) G k_X7 rfl rfl (by decide) q_5 rfl rfl dX8_as_52 ?_
        refine v_iload_n (j := 1) (x := jI z) G dX8_as_55 rfl rfl ?_
        refine v_iald (q0 := 6) (t0 := 0) (g := wd.2.2.2.2.2.2.1) (z := z) G rfl rfl (by omega) dX8_as_56 ?_
        exact v_iret G (fd) (by first | exact Or.inl ⟨(by first | omega | exact ⟨by omega, by assumption⟩), (by first | rfl | exact congrArg jI (by omega)), rfl⟩ | exact Or.inr (Or.inl ⟨(by first | omega | exact ⟨by omega, by assumption⟩), (by first | rfl | exact congrArg jI (by omega)), rfl⟩) | exact Or.inr (Or.inr (⟨(by first | omega | exact ⟨by omega, by assumption⟩), (by first | rfl | exact congrArg jI (by omega)), rfl⟩))) rfl dX8_as_57
      · skip
        refine v_aload_n (j := 0) (x := a 0) G dX8_as_41 rfl rfl ?_
        refine v_ldc (z := (-1000000003)) G q_6 (by decide) dX8_as_42 ?_
        refine v_ciP (w2 := (fun _ => (gS  a ks ++ gW cI (fun i => a (1 + i)) wd ++ gF cI a (uI fd 2 (fd 2 + 1))))) (wr := (gW cI (fun i => a (1 + i)) wd)) G (rn_V (As := [.int (jI (-1000000003))]) (rest := []) (q0 := 0) G (c_X8_found_2 (ks := ks) (fd := fd) (a := a) ) gX8_as_X8_found rfl hdX8_found ⟨rfl, rfl, Nat.le_of_ble_eq_true rfl, Nat.le_of_ble_eq_true rfl⟩ rfl rfl (Nat.le_of_ble_eq_true rfl) ⟨Nat.zero_le _, Nat.zero_le _⟩ rfl rfl dX8_as_44) [0, 11] [1, 2, 3, 4, 5, 6, 7, 8, 9, 10] [10, 0, 1, 2, 3, 4, 5, 6, 7, 8, 9, 11] rfl rfl (by decide) (fun _ => rfl) (fun r_16 u_18 e_17 => ?_)
        have e_17 : r_16 = jI (-1000000003) := e_17
        subst e_17
        refine v_world (ws' := (gS  a ks ++ gW cI (fun i => a (1 + i)) wd ++ gF cI a (uI fd 2 (fd 2 + 1)))) rfl ?_
        exact v_iret G (uI fd 2 (fd 2 + 1)) (by first | exact Or.inl ⟨(by first | omega | exact ⟨by omega, by assumption⟩), (by first | rfl | exact congrArg jI (by omega)), rfl⟩ | exact Or.inr (Or.inl ⟨(by first | omega | exact ⟨by omega, by assumption⟩), (by first | rfl | exact congrArg jI (by omega)), rfl⟩) | exact Or.inr (Or.inr (⟨(by first | omega | exact ⟨by omega, by assumption⟩), (by first | rfl | exact congrArg jI (by omega)), rfl⟩))) rfl dX8_as_47
    · skip
      refine v_aload_n (j := 0) (x := a 0) G dX8_as_18 rfl rfl ?_
      refine v_ldc (z := (-1000000001)) G q_2 (by decide) dX8_as_19 ?_
      refine v_ciP (w2 := (fun _ => (gS  a ks ++ gW cI (fun i => a (1 + i)) wd ++ gF cI a (uI fd 0 (fd 0 + 1))))) (wr := (gW cI (fun i => a (1 + i)) wd)) G (rn_V (As := [.int (jI (-1000000001))]) (rest := []) (q0 := 0) G (c_X8_found_0 (ks := ks) (fd := fd) (a := a) ) gX8_as_X8_found rfl hdX8_found ⟨rfl, rfl, Nat.le_of_ble_eq_true rfl, Nat.le_of_ble_eq_true rfl⟩ rfl rfl (Nat.le_of_ble_eq_true rfl) ⟨Nat.zero_le _, Nat.zero_le _⟩ rfl rfl dX8_as_21) [0, 11] [1, 2, 3, 4, 5, 6, 7, 8, 9, 10] [10, 0, 1, 2, 3, 4, 5, 6, 7, 8, 9, 11] rfl rfl (by decide) (fun _ => rfl) (fun r_19 u_21 e_20 => ?_)
      have e_20 : r_19 = jI (-1000000001) := e_20
      subst e_20
      refine v_world (ws' := (gS  a ks ++ gW cI (fun i => a (1 + i)) wd ++ gF cI a (uI fd 0 (fd 0 + 1)))) rfl ?_
      exact v_iret G (uI fd 0 (fd 0 + 1)) (by first | exact Or.inl ⟨(by first | omega | exact ⟨by omega, by assumption⟩), (by first | rfl | exact congrArg jI (by omega)), rfl⟩ | exact Or.inr (Or.inl ⟨(by first | omega | exact ⟨by omega, by assumption⟩), (by first | rfl | exact congrArg jI (by omega)), rfl⟩) | exact Or.inr (Or.inr (⟨(by first | omega | exact ⟨by omega, by assumption⟩), (by first | rfl | exact congrArg jI (by omega)), rfl⟩))) rfl dX8_as_24

set_option maxHeartbeats 4000000 in
set_option maxRecDepth 100000 in
theorem c_X8_eat (z v : Int) (hw : Wc wd) (hr : (-2147483648 ≤ z ∧ z ≤ 2147483647) ∧ (-2147483648 ≤ v ∧ v ≤ 2147483647)) : Ci l yX8_eat wsX8_eat { frames := 5, cells := 0, slots := 0, locals := 113 } D (jT cI cL cB cS) [.ref (a 0), .int (jI z), .int (jI v)] (gS  a ks ++ gW cI (fun i => a (1 + i)) wd ++ gG cI (fun i => a (31 + i)) gl ++ gF cI a fd) (S := WT × (Int → Int) × GT) (fun u => (gS  a ks ++ gW cI (fun i => a (1 + i)) u.1 ++ gG cI (fun i => a (31 + i)) u.2.2 ++ gF cI a u.2.1)) (fun r u => ((¬ ((0 ≤ z ∧ z < wd.2.2.1) ∧ 0 ≤ v ∧ v ≤ 99)) ∧ r = jI (-1000000001) ∧ u.1 = wd ∧ u.2.1 = uI fd 0 (fd 0 + 1)) ∨ ((((0 ≤ z ∧ z < wd.2.2.1) ∧ 0 ≤ v ∧ v ≤ 99)) ∧ r = jI (shF (wd.1, wd.2.1, wd.2.2.1, wd.2.2.2.1, wd.2.2.2.2.1, wd.2.2.2.2.2.1, uI wd.2.2.2.2.2.2.1 z v, uI wd.2.2.2.2.2.2.2.1 z 0, wd.2.2.2.2.2.2.2.2.1, wd.2.2.2.2.2.2.2.2.2.1, wd.2.2.2.2.2.2.2.2.2.2.1, wd.2.2.2.2.2.2.2.2.2.2.2) 0 z) ∧ u.1 = (wd.1, wd.2.1, wd.2.2.1, wd.2.2.2.1, wd.2.2.2.2.1, wd.2.2.2.2.2.1, uI wd.2.2.2.2.2.2.1 z v, uI wd.2.2.2.2.2.2.2.1 z 0, wd.2.2.2.2.2.2.2.2.1, wd.2.2.2.2.2.2.2.2.2.1, wd.2.2.2.2.2.2.2.2.2.2.1, wd.2.2.2.2.2.2.2.2.2.2.2) ∧ u.2.1 = fd)) := by
  refine Ci.mk (cc := cX8_eat) (maxL := 3) (rt := .int) (by decide) rfl (Nat.le_of_ble_eq_true rfl) rfl ?_
  intro p_ e_ s_ m_ b_ me_ c_ A_ G hnm
  have hm := hw.many
  have hmt := hw.tasks
  have hh := hw.hour
  have k_X8 : ∀ w ∈ u_ws RX8 TX8 12, w ∈ wsX8_eat := fun _ h => List.mem_cons_of_mem _ (List.mem_append_left _ (List.mem_append_left _ (List.mem_append_right _ h)))
  have q_1 : Cond.fieldLink RX8 10 "SupperLight" "world" "LSupperLight$World;" ∈ wsX8_eat := List.mem_of_getElem? (i := 1) rfl
  have q_2 : Cond.constant RX8 83 (-1000000001) ∈ wsX8_eat := List.mem_of_getElem? (i := 2) rfl
  refine v_aload_n (j := 0) (x := a 0) G dX8_eat_0 rfl rfl ?_
  refine v_get (q0 := 0) (k := 0) (v := .ref (a 1)) G k_X8 rfl rfl (by decide) q_1 rfl rfl dX8_eat_1 ?_
  refine v_iload_n (j := 1) (x := jI z) G dX8_eat_4 rfl rfl ?_
  refine v_ciP (w2 := (fun _ => (gS  a ks ++ gW cI (fun i => a (1 + i)) wd ++ gG cI (fun i => a (31 + i)) gl ++ gF cI a fd))) (wr := (gS  a ks ++ gG cI (fun i => a (31 + i)) gl ++ gF cI a fd)) G (rn_V (As := [.int (jI z)]) (rest := []) (q0 := 0) G (c_X7_hasBeing (z := z) (x := wd) (b := fun i => a (1 + i)) (hw := hw) (hr := (by omega))) gX8_eat_X7_hasBeing rfl hdX7_hasBeing ⟨rfl, rfl, Nat.le_of_ble_eq_true rfl, Nat.le_of_ble_eq_true rfl⟩ rfl rfl (Nat.le_of_ble_eq_true rfl) ⟨Nat.zero_le _, Nat.zero_le _⟩ rfl rfl dX8_eat_5) [1, 2, 3, 4, 5, 6, 7, 8, 9, 10] [0, 11, 12, 13, 14, 15, 16] [0, 7, 8, 9, 10, 11, 12, 13, 14, 15, 16, 1, 2, 3, 4, 5, 6] rfl rfl (by decide) (fun _ => rfl) (fun r_1 u_3 e_2 => ?_)
  have e_2 : r_1 = jI (b2 (0 ≤ z ∧ z < wd.2.2.1)) := e_2
  subst e_2
  refine v_world (ws' := (gS  a ks ++ gW cI (fun i => a (1 + i)) wd ++ gG cI (fun i => a (31 + i)) gl ++ gF cI a fd)) rfl ?_
  refine v_ifb_eq (P := 0 ≤ z ∧ z < wd.2.2.1) (tgt := 21) G dX8_eat_8 (by decide) (fun c_4 => ?_) (fun c_4 => ?_)
  · skip
    refine v_aload_n (j := 0) (x := a 0) G dX8_eat_21 rfl rfl ?_
    refine v_ldc (z := (-1000000001)) G q_2 (by decide) dX8_eat_22 ?_
    refine v_ciP (w2 := (fun _ => (gS  a ks ++ gW cI (fun i => a (1 + i)) wd ++ gG cI (fun i => a (31 + i)) gl ++ gF cI a (uI fd 0 (fd 0 + 1))))) (wr := (gW cI (fun i => a (1 + i)) wd ++ gG cI (fun i => a (31 + i)) gl)) G (rn_V (As := [.int (jI (-1000000001))]) (rest := []) (q0 := 0) G (c_X8_found_0 (ks := ks) (fd := fd) (a := a) ) gX8_eat_X8_found rfl hdX8_found ⟨rfl, rfl, Nat.le_of_ble_eq_true rfl, Nat.le_of_ble_eq_true rfl⟩ rfl rfl (Nat.le_of_ble_eq_true rfl) ⟨Nat.zero_le _, Nat.zero_le _⟩ rfl rfl dX8_eat_24) [0, 16] [1, 2, 3, 4, 5, 6, 7, 8, 9, 10, 11, 12, 13, 14, 15] [15, 0, 1, 2, 3, 4, 5, 6, 7, 8, 9, 10, 11, 12, 13, 14, 16] rfl rfl (by decide) (fun _ => rfl) (fun r_5 u_7 e_6 => ?_)
    have e_6 : r_5 = jI (-1000000001) := e_6
    subst e_6
    refine v_world (ws' := (gS  a ks ++ gW cI (fun i => a (1 + i)) wd ++ gG cI (fun i => a (31 + i)) gl ++ gF cI a (uI fd 0 (fd 0 + 1)))) rfl ?_
    exact v_iret G (wd, uI fd 0 (fd 0 + 1), gl) (by first | exact Or.inl ⟨(by omega), (by first | rfl | exact congrArg jI (by omega)), rfl, rfl⟩ | exact Or.inr (⟨(by omega), (by first | rfl | exact congrArg jI (by omega)), rfl, rfl⟩)) rfl dX8_eat_27
  · skip
    refine v_iload_n (j := 2) (x := jI v) G dX8_eat_11 rfl rfl ?_
    refine v_iconst G dX8_eat_12 ?_
    refine v_bipush G dX8_eat_13 (by decide) ?_
    refine v_ciN G (rn_S (As := [.int (jI v), .int (jI 0), .int (jI 99)]) (rest := []) G (c_X8_within (v := v) (lo := 0) (hi := 99) (hr := (by omega))) gX8_eat_X8_within rfl hdX8_within ⟨rfl, rfl, Nat.le_of_ble_eq_true rfl, Nat.le_of_ble_eq_true rfl⟩ rfl rfl (Nat.le_of_ble_eq_true rfl) ⟨Nat.zero_le _, Nat.zero_le _⟩ dX8_eat_15) (fun r_8 u_10 e_9 => ?_)
    have e_9 : r_8 = jI (b2 ((0 : Int) ≤ v ∧ v ≤ (99 : Int))) := e_9
    subst e_9
    refine v_ifb_ne (P := (0 : Int) ≤ v ∧ v ≤ (99 : Int)) (tgt := 28) G dX8_eat_18 (by decide) (fun c_11 => ?_) (fun c_11 => ?_)
    · skip
      refine v_aload_n (j := 0) (x := a 0) G dX8_eat_28 rfl rfl ?_
      refine v_get (q0 := 0) (k := 0) (v := .ref (a 1)) G k_X8 rfl rfl (by decide) q_1 rfl rfl dX8_eat_29 ?_
      refine v_iload_n (j := 1) (x := jI z) G dX8_eat_32 rfl rfl ?_
      refine v_iload_n (j := 2) (x := jI v) G dX8_eat_33 rfl rfl ?_
      refine v_cvP (w2 := (fun _ => (gS  a ks ++ gW cI (fun i => a (1 + i)) (wd.1, wd.2.1, wd.2.2.1, wd.2.2.2.1, wd.2.2.2.2.1, wd.2.2.2.2.2.1, uI wd.2.2.2.2.2.2.1 z v, uI wd.2.2.2.2.2.2.2.1 z 0, wd.2.2.2.2.2.2.2.2.1, wd.2.2.2.2.2.2.2.2.2.1, wd.2.2.2.2.2.2.2.2.2.2.1, wd.2.2.2.2.2.2.2.2.2.2.2) ++ gG cI (fun i => a (31 + i)) gl ++ gF cI a fd))) (wr := (gS  a ks ++ gG cI (fun i => a (31 + i)) gl ++ gF cI a fd)) G (rn_V (As := [.int (jI z), .int (jI v)]) (rest := []) (q0 := 0) G (c_X7_feedBeing (z := z) (v := v) (x := wd) (b := fun i => a (1 + i)) (hz := (by omega))) gX8_eat_X7_feedBeing rfl hdX7_feedBeing ⟨rfl, rfl, Nat.le_of_ble_eq_true rfl, Nat.le_of_ble_eq_true rfl⟩ rfl rfl (Nat.le_of_ble_eq_true rfl) ⟨Nat.zero_le _, Nat.zero_le _⟩ rfl rfl dX8_eat_34) [1, 2, 3, 4, 5, 6, 7, 8, 9, 10] [0, 11, 12, 13, 14, 15, 16] [0, 7, 8, 9, 10, 11, 12, 13, 14, 15, 16, 1, 2, 3, 4, 5, 6] rfl rfl (by decide) (fun _ => rfl) (fun u_14 e_13 => ?_)
      refine v_world (ws' := (gS  a ks ++ gW cI (fun i => a (1 + i)) (wd.1, wd.2.1, wd.2.2.1, wd.2.2.2.1, wd.2.2.2.2.1, wd.2.2.2.2.2.1, uI wd.2.2.2.2.2.2.1 z v, uI wd.2.2.2.2.2.2.2.1 z 0, wd.2.2.2.2.2.2.2.2.1, wd.2.2.2.2.2.2.2.2.2.1, wd.2.2.2.2.2.2.2.2.2.2.1, wd.2.2.2.2.2.2.2.2.2.2.2) ++ gG cI (fun i => a (31 + i)) gl ++ gF cI a fd)) rfl ?_
      refine v_aload_n (j := 0) (x := a 0) G dX8_eat_37 rfl rfl ?_
      refine v_iload_n (j := 1) (x := jI z) G dX8_eat_38 rfl rfl ?_
      refine v_ciP (w2 := (fun _ => (gS  a ks ++ gW cI (fun i => a (1 + i)) (wd.1, wd.2.1, wd.2.2.1, wd.2.2.2.1, wd.2.2.2.2.1, wd.2.2.2.2.2.1, (uI wd.2.2.2.2.2.2.1 z v), (uI wd.2.2.2.2.2.2.2.1 z 0), wd.2.2.2.2.2.2.2.2.1, wd.2.2.2.2.2.2.2.2.2.1, wd.2.2.2.2.2.2.2.2.2.2.1, wd.2.2.2.2.2.2.2.2.2.2.2) ++ gG cI (fun i => a (31 + i)) (glS (wd.1, wd.2.1, wd.2.2.1, wd.2.2.2.1, wd.2.2.2.2.1, wd.2.2.2.2.2.1, uI wd.2.2.2.2.2.2.1 z v, uI wd.2.2.2.2.2.2.2.1 z 0, wd.2.2.2.2.2.2.2.2.1, wd.2.2.2.2.2.2.2.2.2.1, wd.2.2.2.2.2.2.2.2.2.2.1, wd.2.2.2.2.2.2.2.2.2.2.2) 0 gl) ++ gF cI a fd))) (wr := (gF cI a fd)) G (rn_V (As := [.int (jI z)]) (rest := []) (q0 := 0) G (c_X8_shinesNow (z := z) (ks := ks) (wd := (wd.1, wd.2.1, wd.2.2.1, wd.2.2.2.1, wd.2.2.2.2.1, wd.2.2.2.2.2.1, uI wd.2.2.2.2.2.2.1 z v, uI wd.2.2.2.2.2.2.2.1 z 0, wd.2.2.2.2.2.2.2.2.1, wd.2.2.2.2.2.2.2.2.2.1, wd.2.2.2.2.2.2.2.2.2.2.1, wd.2.2.2.2.2.2.2.2.2.2.2)) (gl := gl) (a := a) (hw := (hw.feed (by omega) (by omega))) (hz := (by omega))) gX8_eat_X8_shinesNow rfl hdX8_shinesNow ⟨rfl, rfl, Nat.le_of_ble_eq_true rfl, Nat.le_of_ble_eq_true rfl⟩ rfl rfl (Nat.le_of_ble_eq_true rfl) ⟨Nat.zero_le _, Nat.zero_le _⟩ rfl rfl dX8_eat_39) [0, 1, 2, 3, 4, 5, 6, 7, 8, 9, 10, 11, 12, 13, 14, 15] [16] [1, 2, 3, 4, 5, 6, 7, 8, 9, 10, 11, 12, 13, 14, 15, 16, 0] rfl rfl (by decide) (fun _ => rfl) (fun r_15 u_17 e_16 => ?_)
      have e_16 : r_15 = jI (shF (wd.1, wd.2.1, wd.2.2.1, wd.2.2.2.1, wd.2.2.2.2.1, wd.2.2.2.2.2.1, uI wd.2.2.2.2.2.2.1 z v, uI wd.2.2.2.2.2.2.2.1 z 0, wd.2.2.2.2.2.2.2.2.1, wd.2.2.2.2.2.2.2.2.2.1, wd.2.2.2.2.2.2.2.2.2.2.1, wd.2.2.2.2.2.2.2.2.2.2.2) 0 z) := e_16
      subst e_16
      refine v_world (ws' := (gS  a ks ++ gW cI (fun i => a (1 + i)) (wd.1, wd.2.1, wd.2.2.1, wd.2.2.2.1, wd.2.2.2.2.1, wd.2.2.2.2.2.1, (uI wd.2.2.2.2.2.2.1 z v), (uI wd.2.2.2.2.2.2.2.1 z 0), wd.2.2.2.2.2.2.2.2.1, wd.2.2.2.2.2.2.2.2.2.1, wd.2.2.2.2.2.2.2.2.2.2.1, wd.2.2.2.2.2.2.2.2.2.2.2) ++ gG cI (fun i => a (31 + i)) (glS (wd.1, wd.2.1, wd.2.2.1, wd.2.2.2.1, wd.2.2.2.2.1, wd.2.2.2.2.2.1, uI wd.2.2.2.2.2.2.1 z v, uI wd.2.2.2.2.2.2.2.1 z 0, wd.2.2.2.2.2.2.2.2.1, wd.2.2.2.2.2.2.2.2.2.1, wd.2.2.2.2.2.2.2.2.2.2.1, wd.2.2.2.2.2.2.2.2.2.2.2) 0 gl) ++ gF cI a fd)) rfl ?_
      exact v_iret G ((wd.1, wd.2.1, wd.2.2.1, wd.2.2.2.1, wd.2.2.2.2.1, wd.2.2.2.2.2.1, (uI wd.2.2.2.2.2.2.1 z v), (uI wd.2.2.2.2.2.2.2.1 z 0), wd.2.2.2.2.2.2.2.2.1, wd.2.2.2.2.2.2.2.2.2.1, wd.2.2.2.2.2.2.2.2.2.2.1, wd.2.2.2.2.2.2.2.2.2.2.2), fd, (glS (wd.1, wd.2.1, wd.2.2.1, wd.2.2.2.1, wd.2.2.2.2.1, wd.2.2.2.2.2.1, uI wd.2.2.2.2.2.2.1 z v, uI wd.2.2.2.2.2.2.2.1 z 0, wd.2.2.2.2.2.2.2.2.1, wd.2.2.2.2.2.2.2.2.2.1, wd.2.2.2.2.2.2.2.2.2.2.1, wd.2.2.2.2.2.2.2.2.2.2.2) 0 gl)) (by first | exact Or.inl ⟨(by omega), (by first | rfl | exact congrArg jI (by omega)), rfl, rfl⟩ | exact Or.inr (⟨(by omega), (by first | rfl | exact congrArg jI (by omega)), rfl, rfl⟩)) rfl dX8_eat_42
    · skip
      refine v_aload_n (j := 0) (x := a 0) G dX8_eat_21 rfl rfl ?_
      refine v_ldc (z := (-1000000001)) G q_2 (by decide) dX8_eat_22 ?_
      refine v_ciP (w2 := (fun _ => (gS  a ks ++ gW cI (fun i => a (1 + i)) wd ++ gG cI (fun i => a (31 + i)) gl ++ gF cI a (uI fd 0 (fd 0 + 1))))) (wr := (gW cI (fun i => a (1 + i)) wd ++ gG cI (fun i => a (31 + i)) gl)) G (rn_V (As := [.int (jI (-1000000001))]) (rest := []) (q0 := 0) G (c_X8_found_0 (ks := ks) (fd := fd) (a := a) ) gX8_eat_X8_found rfl hdX8_found ⟨rfl, rfl, Nat.le_of_ble_eq_true rfl, Nat.le_of_ble_eq_true rfl⟩ rfl rfl (Nat.le_of_ble_eq_true rfl) ⟨Nat.zero_le _, Nat.zero_le _⟩ rfl rfl dX8_eat_24) [0, 16] [1, 2, 3, 4, 5, 6, 7, 8, 9, 10, 11, 12, 13, 14, 15] [15, 0, 1, 2, 3, 4, 5, 6, 7, 8, 9, 10, 11, 12, 13, 14, 16] rfl rfl (by decide) (fun _ => rfl) (fun r_18 u_20 e_19 => ?_)
      have e_19 : r_18 = jI (-1000000001) := e_19
      subst e_19
      refine v_world (ws' := (gS  a ks ++ gW cI (fun i => a (1 + i)) wd ++ gG cI (fun i => a (31 + i)) gl ++ gF cI a (uI fd 0 (fd 0 + 1)))) rfl ?_
      exact v_iret G (wd, uI fd 0 (fd 0 + 1), gl) (by first | exact Or.inl ⟨(by omega), (by first | rfl | exact congrArg jI (by omega)), rfl, rfl⟩ | exact Or.inr (⟨(by omega), (by first | rfl | exact congrArg jI (by omega)), rfl, rfl⟩)) rfl dX8_eat_27

set_option maxHeartbeats 4000000 in
set_option maxRecDepth 100000 in
theorem c_X8_gives (z p : Int) (hw : Wc wd) (hr : (-2147483648 ≤ z ∧ z ≤ 2147483647) ∧ (-2147483648 ≤ p ∧ p ≤ 2147483647)) : Ci l yX8_gives wsX8_gives { frames := 4, cells := 0, slots := 0, locals := 92 } D (jT cI cL cB cS) [.ref (a 0), .int (jI z), .int (jI p)] (gS  a ks ++ gW cI (fun i => a (1 + i)) wd ++ gG cI (fun i => a (31 + i)) gl ++ gF cI a fd) (S := (Int → Int) × GT) (fun u => (gS  a ks ++ gW cI (fun i => a (1 + i)) wd ++ gG cI (fun i => a (31 + i)) u.2 ++ gF cI a u.1)) (fun r u => ((((0 ≤ z ∧ z < wd.2.2.1) ∧ (0 ≤ p ∧ p ≤ 15))) ∧ r = jI (cGv wd 0 z p) ∧ u.1 = fd) ∨ ((¬ ((0 ≤ z ∧ z < wd.2.2.1) ∧ (0 ≤ p ∧ p ≤ 15))) ∧ r = jI (-1000000001) ∧ u.1 = uI fd 0 (fd 0 + 1))) := by
  refine Ci.mk (cc := cX8_gives) (maxL := 3) (rt := .int) (by decide) rfl (Nat.le_of_ble_eq_true rfl) rfl ?_
  intro p_ e_ s_ m_ b_ me_ c_ A_ G hnm
  have hm := hw.many
  have hmt := hw.tasks
  have hh := hw.hour
  have k_X8 : ∀ w ∈ u_ws RX8 TX8 12, w ∈ wsX8_gives := fun _ h => List.mem_cons_of_mem _ (List.mem_append_left _ (List.mem_append_left _ (List.mem_append_right _ h)))
  have q_1 : Cond.fieldLink RX8 10 "SupperLight" "world" "LSupperLight$World;" ∈ wsX8_gives := List.mem_of_getElem? (i := 1) rfl
  have q_2 : Cond.constant RX8 83 (-1000000001) ∈ wsX8_gives := List.mem_of_getElem? (i := 2) rfl
  have q_3 : Cond.fieldLink RX8 29 "SupperLight" "glow" "LSupperLight$Glow;" ∈ wsX8_gives := List.mem_of_getElem? (i := 3) rfl
  refine v_aload_n (j := 0) (x := a 0) G dX8_gives_0 rfl rfl ?_
  refine v_get (q0 := 0) (k := 0) (v := .ref (a 1)) G k_X8 rfl rfl (by decide) q_1 rfl rfl dX8_gives_1 ?_
  refine v_iload_n (j := 1) (x := jI z) G dX8_gives_4 rfl rfl ?_
  refine v_ciP (w2 := (fun _ => (gS  a ks ++ gW cI (fun i => a (1 + i)) wd ++ gG cI (fun i => a (31 + i)) gl ++ gF cI a fd))) (wr := (gS  a ks ++ gG cI (fun i => a (31 + i)) gl ++ gF cI a fd)) G (rn_V (As := [.int (jI z)]) (rest := []) (q0 := 0) G (c_X7_hasBeing (z := z) (x := wd) (b := fun i => a (1 + i)) (hw := hw) (hr := (by omega))) gX8_gives_X7_hasBeing rfl hdX7_hasBeing ⟨rfl, rfl, Nat.le_of_ble_eq_true rfl, Nat.le_of_ble_eq_true rfl⟩ rfl rfl (Nat.le_of_ble_eq_true rfl) ⟨Nat.zero_le _, Nat.zero_le _⟩ rfl rfl dX8_gives_5) [1, 2, 3, 4, 5, 6, 7, 8, 9, 10] [0, 11, 12, 13, 14, 15, 16] [0, 7, 8, 9, 10, 11, 12, 13, 14, 15, 16, 1, 2, 3, 4, 5, 6] rfl rfl (by decide) (fun _ => rfl) (fun r_1 u_3 e_2 => ?_)
  have e_2 : r_1 = jI (b2 (0 ≤ z ∧ z < wd.2.2.1)) := e_2
  subst e_2
  refine v_world (ws' := (gS  a ks ++ gW cI (fun i => a (1 + i)) wd ++ gG cI (fun i => a (31 + i)) gl ++ gF cI a fd)) rfl ?_
  refine v_ifb_eq (P := 0 ≤ z ∧ z < wd.2.2.1) (tgt := 18) G dX8_gives_8 (by decide) (fun c_4 => ?_) (fun c_4 => ?_)
  · skip
    refine v_aload_n (j := 0) (x := a 0) G dX8_gives_18 rfl rfl ?_
    refine v_ldc (z := (-1000000001)) G q_2 (by decide) dX8_gives_19 ?_
    refine v_ciP (w2 := (fun _ => (gS  a ks ++ gW cI (fun i => a (1 + i)) wd ++ gG cI (fun i => a (31 + i)) gl ++ gF cI a (uI fd 0 (fd 0 + 1))))) (wr := (gW cI (fun i => a (1 + i)) wd ++ gG cI (fun i => a (31 + i)) gl)) G (rn_V (As := [.int (jI (-1000000001))]) (rest := []) (q0 := 0) G (c_X8_found_0 (ks := ks) (fd := fd) (a := a) ) gX8_gives_X8_found rfl hdX8_found ⟨rfl, rfl, Nat.le_of_ble_eq_true rfl, Nat.le_of_ble_eq_true rfl⟩ rfl rfl (Nat.le_of_ble_eq_true rfl) ⟨Nat.zero_le _, Nat.zero_le _⟩ rfl rfl dX8_gives_21) [0, 16] [1, 2, 3, 4, 5, 6, 7, 8, 9, 10, 11, 12, 13, 14, 15] [15, 0, 1, 2, 3, 4, 5, 6, 7, 8, 9, 10, 11, 12, 13, 14, 16] rfl rfl (by decide) (fun _ => rfl) (fun r_5 u_7 e_6 => ?_)
    have e_6 : r_5 = jI (-1000000001) := e_6
    subst e_6
    refine v_world (ws' := (gS  a ks ++ gW cI (fun i => a (1 + i)) wd ++ gG cI (fun i => a (31 + i)) gl ++ gF cI a (uI fd 0 (fd 0 + 1)))) rfl ?_
    exact v_iret G (uI fd 0 (fd 0 + 1), gl) (by first | exact Or.inl ⟨(by omega), (by first | rfl | exact congrArg jI (by omega)), rfl⟩ | exact Or.inr (⟨(by omega), (by first | rfl | exact congrArg jI (by omega)), rfl⟩)) rfl dX8_gives_24
  · skip
    refine v_iload_n (j := 2) (x := jI p) G dX8_gives_11 rfl rfl ?_
    refine v_ciN G (rn_S (As := [.int (jI p)]) (rest := []) G (c_X8_isPlace (p := p) (hr := (by omega))) gX8_gives_X8_isPlace rfl hdX8_isPlace ⟨rfl, rfl, Nat.le_of_ble_eq_true rfl, Nat.le_of_ble_eq_true rfl⟩ rfl rfl (Nat.le_of_ble_eq_true rfl) ⟨Nat.zero_le _, Nat.zero_le _⟩ dX8_gives_12) (fun r_8 u_10 e_9 => ?_)
    have e_9 : r_8 = jI (b2 (0 ≤ p ∧ p ≤ 15)) := e_9
    subst e_9
    refine v_ifb_ne (P := 0 ≤ p ∧ p ≤ 15) (tgt := 25) G dX8_gives_15 (by decide) (fun c_11 => ?_) (fun c_11 => ?_)
    · skip
      refine v_aload_n (j := 0) (x := a 0) G dX8_gives_25 rfl rfl ?_
      refine v_get (q0 := 0) (k := 4) (v := .ref (a 31)) G k_X8 rfl rfl (by decide) q_3 rfl rfl dX8_gives_26 ?_
      refine v_aload_n (j := 0) (x := a 0) G dX8_gives_29 rfl rfl ?_
      refine v_get (q0 := 0) (k := 0) (v := .ref (a 1)) G k_X8 rfl rfl (by decide) q_1 rfl rfl dX8_gives_30 ?_
      refine v_iconst G dX8_gives_33 ?_
      refine v_cvP (w2 := (fun _ => (gS  a ks ++ gW cI (fun i => a (1 + i)) wd ++ gG cI (fun i => a (31 + i)) (glS wd 0 gl) ++ gF cI a fd))) (wr := (gS  a ks ++ gF cI a fd)) G (rn_V (As := [.ref (a 1), .int (jI 0)]) (rest := []) (q0 := 0) G (c_X0_settleOn (n := 0) (g := gl) (x := wd) (c := fun i => a (31 + i)) (b := fun i => a (1 + i)) (hw := hw) (hn := (by omega))) gX8_gives_X0_settleOn rfl hdX0_settleOn ⟨rfl, rfl, Nat.le_of_ble_eq_true rfl, Nat.le_of_ble_eq_true rfl⟩ rfl rfl (Nat.le_of_ble_eq_true rfl) ⟨Nat.zero_le _, Nat.zero_le _⟩ rfl rfl dX8_gives_34) [11, 12, 13, 14, 15, 1, 2, 3, 4, 5, 6, 7, 8, 9, 10] [0, 16] [0, 7, 8, 9, 10, 11, 12, 13, 14, 15, 16, 2, 3, 4, 5, 6, 1] rfl rfl (by decide) (fun _ => rfl) (fun u_14 e_13 => ?_)
      refine v_world (ws' := (gS  a ks ++ gW cI (fun i => a (1 + i)) wd ++ gG cI (fun i => a (31 + i)) (glS wd 0 gl) ++ gF cI a fd)) rfl ?_
      refine v_aload_n (j := 0) (x := a 0) G dX8_gives_37 rfl rfl ?_
      refine v_get (q0 := 0) (k := 4) (v := .ref (a 31)) G k_X8 rfl rfl (by decide) q_3 rfl rfl dX8_gives_38 ?_
      refine v_iload_n (j := 1) (x := jI z) G dX8_gives_41 rfl rfl ?_
      refine v_iload_n (j := 2) (x := jI p) G dX8_gives_42 rfl rfl ?_
      refine v_ciP (w2 := (fun _ => (gS  a ks ++ gW cI (fun i => a (1 + i)) wd ++ gG cI (fun i => a (31 + i)) (((glS wd 0 gl).1), ((glS wd 0 gl).2.1), ((glS wd 0 gl).2.2.1), ((glS wd 0 gl).2.2.2.1), ((glS wd 0 gl).2.2.2.2)) ++ gF cI a fd))) (wr := (gS  a ks ++ gW cI (fun i => a (1 + i)) wd ++ gF cI a fd)) G (rn_V (As := [.int (jI z), .int (jI p)]) (rest := []) (q0 := 0) G (c_X0_givesTo (z := z) (p := p) (g := (glS wd 0 gl)) (c := fun i => a (31 + i)) (hg := (glS_f hw (by omega) gl)) (hz := (show (0 ≤ z ∧ z < wd.2.2.1) ∧ 0 ≤ p ∧ p < 16 by omega))) gX8_gives_X0_givesTo rfl hdX0_givesTo ⟨rfl, rfl, Nat.le_of_ble_eq_true rfl, Nat.le_of_ble_eq_true rfl⟩ rfl rfl (Nat.le_of_ble_eq_true rfl) ⟨Nat.zero_le _, Nat.zero_le _⟩ rfl rfl dX8_gives_43) [11, 12, 13, 14, 15] [0, 1, 2, 3, 4, 5, 6, 7, 8, 9, 10, 16] [0, 1, 2, 3, 4, 5, 6, 7, 8, 9, 10, 12, 13, 14, 15, 16, 11] rfl rfl (by decide) (fun _ => rfl) (fun r_15 u_17 e_16 => ?_)
      have e_16 : r_15 = jI (gvT (glS wd 0 gl) z p) := e_16
      subst e_16
      refine v_world (ws' := (gS  a ks ++ gW cI (fun i => a (1 + i)) wd ++ gG cI (fun i => a (31 + i)) (((glS wd 0 gl).1), ((glS wd 0 gl).2.1), ((glS wd 0 gl).2.2.1), ((glS wd 0 gl).2.2.2.1), ((glS wd 0 gl).2.2.2.2)) ++ gF cI a fd)) rfl ?_
      refine v_topj (x := gvT (glS wd 0 gl) z p) (y := cGv wd 0 z p) (gvT_S wd 0 gl z p (by omega) (by omega)) ?_
      exact v_iret G (fd, (((glS wd 0 gl).1), ((glS wd 0 gl).2.1), ((glS wd 0 gl).2.2.1), ((glS wd 0 gl).2.2.2.1), ((glS wd 0 gl).2.2.2.2))) (by first | exact Or.inl ⟨(by omega), (by first | rfl | exact congrArg jI (by omega)), rfl⟩ | exact Or.inr (⟨(by omega), (by first | rfl | exact congrArg jI (by omega)), rfl⟩)) rfl dX8_gives_46
    · skip
      refine v_aload_n (j := 0) (x := a 0) G dX8_gives_18 rfl rfl ?_
      refine v_ldc (z := (-1000000001)) G q_2 (by decide) dX8_gives_19 ?_
      refine v_ciP (w2 := (fun _ => (gS  a ks ++ gW cI (fun i => a (1 + i)) wd ++ gG cI (fun i => a (31 + i)) gl ++ gF cI a (uI fd 0 (fd 0 + 1))))) (wr := (gW cI (fun i => a (1 + i)) wd ++ gG cI (fun i => a (31 + i)) gl)) G (rn_V (As := [.int (jI (-1000000001))]) (rest := []) (q0 := 0) G (c_X8_found_0 (ks := ks) (fd := fd) (a := a) ) gX8_gives_X8_found rfl hdX8_found ⟨rfl, rfl, Nat.le_of_ble_eq_true rfl, Nat.le_of_ble_eq_true rfl⟩ rfl rfl (Nat.le_of_ble_eq_true rfl) ⟨Nat.zero_le _, Nat.zero_le _⟩ rfl rfl dX8_gives_21) [0, 16] [1, 2, 3, 4, 5, 6, 7, 8, 9, 10, 11, 12, 13, 14, 15] [15, 0, 1, 2, 3, 4, 5, 6, 7, 8, 9, 10, 11, 12, 13, 14, 16] rfl rfl (by decide) (fun _ => rfl) (fun r_18 u_20 e_19 => ?_)
      have e_19 : r_18 = jI (-1000000001) := e_19
      subst e_19
      refine v_world (ws' := (gS  a ks ++ gW cI (fun i => a (1 + i)) wd ++ gG cI (fun i => a (31 + i)) gl ++ gF cI a (uI fd 0 (fd 0 + 1)))) rfl ?_
      exact v_iret G (uI fd 0 (fd 0 + 1), gl) (by first | exact Or.inl ⟨(by omega), (by first | rfl | exact congrArg jI (by omega)), rfl⟩ | exact Or.inr (⟨(by omega), (by first | rfl | exact congrArg jI (by omega)), rfl⟩)) rfl dX8_gives_24

set_option maxHeartbeats 4000000 in
set_option maxRecDepth 100000 in
theorem c_X8_seen (p : Int) (hw : Wc wd) (hr : (-2147483648 ≤ p ∧ p ≤ 2147483647)) : Ci l yX8_seen wsX8_seen { frames := 4, cells := 0, slots := 0, locals := 92 } D (jT cI cL cB cS) [.ref (a 0), .int (jI p)] (gS  a ks ++ gW cI (fun i => a (1 + i)) wd ++ gG cI (fun i => a (31 + i)) gl ++ gF cI a fd) (S := (Int → Int) × GT) (fun u => (gS  a ks ++ gW cI (fun i => a (1 + i)) wd ++ gG cI (fun i => a (31 + i)) u.2 ++ gF cI a u.1)) (fun r u => ((¬ (0 ≤ p ∧ p ≤ 15)) ∧ r = jI (-1000000001) ∧ u.1 = uI fd 0 (fd 0 + 1)) ∨ (((0 ≤ p ∧ p ≤ 15)) ∧ r = stN (fun x_ => 0 < cGv wd 0 x_ p) wd.2.2.1.toNat ∧ u.1 = fd)) := by
  refine Ci.mk (cc := cX8_seen) (maxL := 4) (rt := .int) (by decide) rfl (Nat.le_of_ble_eq_true rfl) rfl ?_
  intro p_ e_ s_ m_ b_ me_ c_ A_ G hnm
  have hm := hw.many
  have hmt := hw.tasks
  have hh := hw.hour
  have k_X8 : ∀ w ∈ u_ws RX8 TX8 12, w ∈ wsX8_seen := fun _ h => List.mem_cons_of_mem _ (List.mem_append_left _ (List.mem_append_left _ (List.mem_append_right _ h)))
  have q_1 : Cond.fieldLink RX8 29 "SupperLight" "glow" "LSupperLight$Glow;" ∈ wsX8_seen := List.mem_of_getElem? (i := 2) rfl
  have q_2 : Cond.fieldLink RX8 10 "SupperLight" "world" "LSupperLight$World;" ∈ wsX8_seen := List.mem_of_getElem? (i := 3) rfl
  have k_X7 : ∀ w ∈ u_ws RX7 TX7 12, w ∈ wsX8_seen := fun _ h => List.mem_cons_of_mem _ (List.mem_append_left _ (List.mem_append_right _ h))
  have q_4 : Cond.fieldLink RX8 101 "SupperLight$World" "beings" "I" ∈ wsX8_seen := List.mem_of_getElem? (i := 4) rfl
  have q_5 : Cond.constant RX8 83 (-1000000001) ∈ wsX8_seen := List.mem_of_getElem? (i := 1) rfl
  refine v_iload_n (j := 1) (x := jI p) G dX8_seen_0 rfl rfl ?_
  refine v_ciN G (rn_S (As := [.int (jI p)]) (rest := []) G (c_X8_isPlace (p := p) (hr := (by omega))) gX8_seen_X8_isPlace rfl hdX8_isPlace ⟨rfl, rfl, Nat.le_of_ble_eq_true rfl, Nat.le_of_ble_eq_true rfl⟩ rfl rfl (Nat.le_of_ble_eq_true rfl) ⟨Nat.zero_le _, Nat.zero_le _⟩ dX8_seen_1) (fun r_1 u_3 e_2 => ?_)
  have e_2 : r_1 = jI (b2 (0 ≤ p ∧ p ≤ 15)) := e_2
  subst e_2
  refine v_ifb_ne (P := 0 ≤ p ∧ p ≤ 15) (tgt := 14) G dX8_seen_4 (by decide) (fun c_4 => ?_) (fun c_4 => ?_)
  · skip
    refine v_aload_n (j := 0) (x := a 0) G dX8_seen_14 rfl rfl ?_
    refine v_get (q0 := 0) (k := 4) (v := .ref (a 31)) G k_X8 rfl rfl (by decide) q_1 rfl rfl dX8_seen_15 ?_
    refine v_aload_n (j := 0) (x := a 0) G dX8_seen_18 rfl rfl ?_
    refine v_get (q0 := 0) (k := 0) (v := .ref (a 1)) G k_X8 rfl rfl (by decide) q_2 rfl rfl dX8_seen_19 ?_
    refine v_iconst G dX8_seen_22 ?_
    refine v_cvP (w2 := (fun _ => (gS  a ks ++ gW cI (fun i => a (1 + i)) wd ++ gG cI (fun i => a (31 + i)) (glS wd 0 gl) ++ gF cI a fd))) (wr := (gS  a ks ++ gF cI a fd)) G (rn_V (As := [.ref (a 1), .int (jI 0)]) (rest := []) (q0 := 0) G (c_X0_settleOn (n := 0) (g := gl) (x := wd) (c := fun i => a (31 + i)) (b := fun i => a (1 + i)) (hw := hw) (hn := (by omega))) gX8_seen_X0_settleOn rfl hdX0_settleOn ⟨rfl, rfl, Nat.le_of_ble_eq_true rfl, Nat.le_of_ble_eq_true rfl⟩ rfl rfl (Nat.le_of_ble_eq_true rfl) ⟨Nat.zero_le _, Nat.zero_le _⟩ rfl rfl dX8_seen_23) [11, 12, 13, 14, 15, 1, 2, 3, 4, 5, 6, 7, 8, 9, 10] [0, 16] [0, 7, 8, 9, 10, 11, 12, 13, 14, 15, 16, 2, 3, 4, 5, 6, 1] rfl rfl (by decide) (fun _ => rfl) (fun u_7 e_6 => ?_)
    refine v_world (ws' := (gS  a ks ++ gW cI (fun i => a (1 + i)) wd ++ gG cI (fun i => a (31 + i)) (glS wd 0 gl) ++ gF cI a fd)) rfl ?_
    refine v_iconst G dX8_seen_26 ?_
    refine v_top (x := jI 0) (y := stN (fun x_ => 0 < cGv wd 0 x_ p) 0) rfl ?_
    refine v_istore_n (lv' := [(2, .int (stN (fun x_ => 0 < cGv wd 0 x_ p) 0)), (0, .ref (a 0)), (1, .int (jI p))]) G dX8_seen_27 rfl (by decide) rfl ?_
    refine v_iconst G dX8_seen_28 ?_
    refine v_istore_n (lv' := [(3, .int (jI 0)), (2, .int (stN (fun x_ => 0 < cGv wd 0 x_ p) 0)), (0, .ref (a 0)), (1, .int (jI p))]) G dX8_seen_29 rfl (by decide) rfl ?_
    refine v_locs (lv' := [(3, .int (jI 0)), (2, .int (stN (fun x_ => 0 < cGv wd 0 x_ p) 0)), (0, .ref (a 0)), (1, .int (jI p))]) [0, 1, 2, 3] rfl ?_
    refine v_loop1 (fun (k : Nat) => [(3, .int (jI (k : Int))), (2, .int (stN (fun x_ => 0 < cGv wd 0 x_ p) k)), (0, .ref (a 0)), (1, .int (jI p))]) (fun (k : Nat) => (gS  a ks ++ gW cI (fun i => a (1 + i)) wd ++ gG cI (fun i => a (31 + i)) (glS wd 0 gl) ++ gF cI a fd)) (fun (k : Nat) => (k : Int) ≤ wd.2.2.1) (fun (k : Nat) => wd.2.2.1.toNat - k) 0 (by omega) rfl rfl ?_
    intro k I_8 ih_9
    refine v_iload_n (j := 0) (x := jI (k : Int)) G dX8_seen_30 rfl rfl ?_
    refine v_aload_n (j := 2) (x := a 0) G dX8_seen_31 rfl rfl ?_
    refine v_get (q0 := 0) (k := 0) (v := .ref (a 1)) G k_X8 rfl rfl (by decide) q_2 rfl rfl dX8_seen_32 ?_
    refine v_get (q0 := 1) (k := 2) (v := .int (jI wd.2.2.1)) G k_X7 rfl rfl (by decide) q_4 rfl rfl dX8_seen_35 ?_
    refine v_icmp_ge (a := (k : Int)) (b := wd.2.2.1) (tgt := 65) G dX8_seen_38 (by decide) (by omega) (fun c_10 => ?_) (fun c_10 => ?_)
    · skip
      obtain rfl : k = wd.2.2.1.toNat := by omega
      refine v_iload_n (j := 1) (x := stN (fun x_ => 0 < cGv wd 0 x_ p) wd.2.2.1.toNat) G dX8_seen_65 rfl rfl ?_
      exact v_iret G (fd, (glS wd 0 gl)) (by first | exact Or.inl ⟨(by omega), (by first | rfl | exact congrArg jI (by omega)), rfl⟩ | exact Or.inr (⟨(by omega), (by first | rfl | exact congrArg jI (by omega)), rfl⟩)) rfl dX8_seen_66
    · skip
      refine v_aload_n (j := 2) (x := a 0) G dX8_seen_41 rfl rfl ?_
      refine v_get (q0 := 0) (k := 4) (v := .ref (a 31)) G k_X8 rfl rfl (by decide) q_1 rfl rfl dX8_seen_42 ?_
      refine v_iload_n (j := 0) (x := jI (k : Int)) G dX8_seen_45 rfl rfl ?_
      refine v_iload_n (j := 3) (x := jI p) G dX8_seen_46 rfl rfl ?_
      refine v_ciP (w2 := (fun _ => (gS  a ks ++ gW cI (fun i => a (1 + i)) wd ++ gG cI (fun i => a (31 + i)) (((glS wd 0 gl).1), ((glS wd 0 gl).2.1), ((glS wd 0 gl).2.2.1), ((glS wd 0 gl).2.2.2.1), ((glS wd 0 gl).2.2.2.2)) ++ gF cI a fd))) (wr := (gS  a ks ++ gW cI (fun i => a (1 + i)) wd ++ gF cI a fd)) G (rn_V (As := [.int (jI (k : Int)), .int (jI p)]) (rest := []) (q0 := 0) G (c_X0_givesTo (z := (k : Int)) (p := p) (g := (glS wd 0 gl)) (c := fun i => a (31 + i)) (hg := (glS_f hw (by omega) gl)) (hz := (show (0 ≤ (k : Int) ∧ (k : Int) < wd.2.2.1) ∧ 0 ≤ p ∧ p < 16 by omega))) gX8_seen_X0_givesTo rfl hdX0_givesTo ⟨rfl, rfl, Nat.le_of_ble_eq_true rfl, Nat.le_of_ble_eq_true rfl⟩ rfl rfl (Nat.le_of_ble_eq_true rfl) ⟨Nat.zero_le _, Nat.zero_le _⟩ rfl rfl dX8_seen_47) [11, 12, 13, 14, 15] [0, 1, 2, 3, 4, 5, 6, 7, 8, 9, 10, 16] [0, 1, 2, 3, 4, 5, 6, 7, 8, 9, 10, 12, 13, 14, 15, 16, 11] rfl rfl (by decide) (fun _ => rfl) (fun r_11 u_13 e_12 => ?_)
      have e_12 : r_11 = jI (gvT (glS wd 0 gl) (k : Int) p) := e_12
      subst e_12
      refine v_world (ws' := (gS  a ks ++ gW cI (fun i => a (1 + i)) wd ++ gG cI (fun i => a (31 + i)) (((glS wd 0 gl).1), ((glS wd 0 gl).2.1), ((glS wd 0 gl).2.2.1), ((glS wd 0 gl).2.2.2.1), ((glS wd 0 gl).2.2.2.2)) ++ gF cI a fd)) rfl ?_
      refine v_topj (x := gvT (glS wd 0 gl) (k : Int) p) (y := cGv wd 0 (k : Int) p) (gvT_S wd 0 gl (k : Int) p (by omega) (by omega)) ?_
      have hl1 : 0 ≤ cGv wd 0 (k : Int) p ∧ cGv wd 0 (k : Int) p ≤ 297 := by rw [← gvT_S wd 0 gl (k : Int) p (by omega) (by omega)]; exact gvT_r (glS_f hw (by omega) gl) p (by omega) (show (k : Int) < wd.2.2.1 by omega)
      refine v_cut (pc' := 59) (lv' := [(3, .int (jI (k : Int))), (2, .int (stN (fun x_ => 0 < cGv wd 0 x_ p) (k + 1))), (0, .ref (a 0)), (1, .int (jI p))]) (st' := []) (ws' := (gS  a ks ++ gW cI (fun i => a (1 + i)) wd ++ gG cI (fun i => a (31 + i)) (((glS wd 0 gl).1), ((glS wd 0 gl).2.1), ((glS wd 0 gl).2.2.1), ((glS wd 0 gl).2.2.2.1), ((glS wd 0 gl).2.2.2.2)) ++ gF cI a fd)) ?_ (fun J_14 => ?_)
      · skip
        refine v_iinc (k := 0) (z := (k : Int)) (z' := ((k + 1 : Nat) : Int)) (lv' := [(3, .int (jI ((k + 1 : Nat) : Int))), (2, .int (stN (fun x_ => 0 < cGv wd 0 x_ p) (k + 1))), (0, .ref (a 0)), (1, .int (jI p))]) G dX8_seen_59 rfl (by omega) (by decide) rfl ?_
        refine v_goto (tgt := 30) G dX8_seen_62 (by decide) ?_
        exact ih_9 (k + 1) (by omega) (by omega)
      · skip
        have hl1 : 0 ≤ cGv wd 0 (k : Int) p ∧ cGv wd 0 (k : Int) p ≤ 297 := by rw [← gvT_S wd 0 gl (k : Int) p (by omega) (by omega)]; exact gvT_r (glS_f hw (by omega) gl) p (by omega) (show (k : Int) < wd.2.2.1 by omega)
        refine v_if_le (a := cGv wd 0 (k : Int) p) (tgt := 59) G dX8_seen_50 (by decide) (by omega) (fun c_15 => ?_) (fun c_15 => ?_)
        · skip
          refine v_eqs (lv' := [(3, .int (jI (k : Int))), (2, .int (stN (fun x_ => 0 < cGv wd 0 x_ p) (k + 1))), (0, .ref (a 0)), (1, .int (jI p))]) (by rw [show stN (fun x_ => 0 < cGv wd 0 x_ p) (k + 1) = stN (fun x_ => 0 < cGv wd 0 x_ p) k from ((congrArg (fun z => _ ||| z) (btI_f (by first | omega | assumption))).trans (or_z _))]) rfl rfl ?_
          exact J_14
        · skip
          refine v_iload_n (j := 1) (x := stN (fun x_ => 0 < cGv wd 0 x_ p) k) G dX8_seen_53 rfl rfl ?_
          refine v_iconst G dX8_seen_54 ?_
          refine v_iload_n (j := 0) (x := jI (k : Int)) G dX8_seen_55 rfl rfl ?_
          refine v_ishl (v := (jI 1) <<< ((jI (k : Int)) &&& 31)) G dX8_seen_56 rfl ?_
          refine v_ior (v := (stN (fun x_ => 0 < cGv wd 0 x_ p) k) ||| ((jI 1) <<< ((jI (k : Int)) &&& 31))) G dX8_seen_57 rfl ?_
          refine v_istore_n (lv' := [(2, .int ((stN (fun x_ => 0 < cGv wd 0 x_ p) k) ||| ((jI 1) <<< ((jI (k : Int)) &&& 31)))), (3, .int (jI (k : Int))), (0, .ref (a 0)), (1, .int (jI p))]) G dX8_seen_58 rfl (by decide) rfl ?_
          refine v_locs (lv' := [(3, .int (jI (k : Int))), (2, .int ((stN (fun x_ => 0 < cGv wd 0 x_ p) k) ||| ((jI 1) <<< ((jI (k : Int)) &&& 31)))), (0, .ref (a 0)), (1, .int (jI p))]) [1, 0, 2, 3] rfl ?_
          refine v_eqs (lv' := [(3, .int (jI (k : Int))), (2, .int (stN (fun x_ => 0 < cGv wd 0 x_ p) (k + 1))), (0, .ref (a 0)), (1, .int (jI p))]) (by rw [show stN (fun x_ => 0 < cGv wd 0 x_ p) (k + 1) = (stN (fun x_ => 0 < cGv wd 0 x_ p) k) ||| ((jI 1) <<< ((jI (k : Int)) &&& 31)) from (congrArg (fun z => _ ||| z) (btI_t (by first | omega | assumption)))]) rfl rfl ?_
          exact J_14
  · skip
    refine v_aload_n (j := 0) (x := a 0) G dX8_seen_7 rfl rfl ?_
    refine v_ldc (z := (-1000000001)) G q_5 (by decide) dX8_seen_8 ?_
    refine v_ciP (w2 := (fun _ => (gS  a ks ++ gW cI (fun i => a (1 + i)) wd ++ gG cI (fun i => a (31 + i)) gl ++ gF cI a (uI fd 0 (fd 0 + 1))))) (wr := (gW cI (fun i => a (1 + i)) wd ++ gG cI (fun i => a (31 + i)) gl)) G (rn_V (As := [.int (jI (-1000000001))]) (rest := []) (q0 := 0) G (c_X8_found_0 (ks := ks) (fd := fd) (a := a) ) gX8_seen_X8_found rfl hdX8_found ⟨rfl, rfl, Nat.le_of_ble_eq_true rfl, Nat.le_of_ble_eq_true rfl⟩ rfl rfl (Nat.le_of_ble_eq_true rfl) ⟨Nat.zero_le _, Nat.zero_le _⟩ rfl rfl dX8_seen_10) [0, 16] [1, 2, 3, 4, 5, 6, 7, 8, 9, 10, 11, 12, 13, 14, 15] [15, 0, 1, 2, 3, 4, 5, 6, 7, 8, 9, 10, 11, 12, 13, 14, 16] rfl rfl (by decide) (fun _ => rfl) (fun r_16 u_18 e_17 => ?_)
    have e_17 : r_16 = jI (-1000000001) := e_17
    subst e_17
    refine v_world (ws' := (gS  a ks ++ gW cI (fun i => a (1 + i)) wd ++ gG cI (fun i => a (31 + i)) gl ++ gF cI a (uI fd 0 (fd 0 + 1)))) rfl ?_
    exact v_iret G (uI fd 0 (fd 0 + 1), gl) (by first | exact Or.inl ⟨(by omega), (by first | rfl | exact congrArg jI (by omega)), rfl⟩ | exact Or.inr (⟨(by omega), (by first | rfl | exact congrArg jI (by omega)), rfl⟩)) rfl dX8_seen_13

set_option maxHeartbeats 4000000 in
set_option maxRecDepth 100000 in
theorem c_X8_task (p h n : Int) (hw : Wc wd) (hr : (-2147483648 ≤ p ∧ p ≤ 2147483647) ∧ (-2147483648 ≤ h ∧ h ≤ 2147483647) ∧ (-2147483648 ≤ n ∧ n ≤ 2147483647)) : Ci l yX8_task wsX8_task { frames := 2, cells := 0, slots := 0, locals := 44 } D (jT cI cL cB cS) [.ref (a 0), .int (jI p), .int (jI h), .int (jI n)] (gS  a ks ++ gW cI (fun i => a (1 + i)) wd ++ gF cI a fd) (S := WT × (Int → Int)) (fun u => (gS  a ks ++ gW cI (fun i => a (1 + i)) u.1 ++ gF cI a u.2)) (fun r u => ((¬ ((0 ≤ p ∧ p ≤ 15) ∧ (0 ≤ h ∧ h ≤ 99) ∧ 1 ≤ n ∧ n ≤ 99)) ∧ r = jI (-1000000001) ∧ u.1 = wd ∧ u.2 = uI fd 0 (fd 0 + 1)) ∨ ((((0 ≤ p ∧ p ≤ 15) ∧ (0 ≤ h ∧ h ≤ 99) ∧ 1 ≤ n ∧ n ≤ 99) ∧ wd.2.2.2.2.2.2.2.2.1 = 8) ∧ r = jI (-1000000002) ∧ u.1 = wd ∧ u.2 = uI fd 1 (fd 1 + 1)) ∨ ((((0 ≤ p ∧ p ≤ 15) ∧ (0 ≤ h ∧ h ≤ 99) ∧ 1 ≤ n ∧ n ≤ 99) ∧ wd.2.2.2.2.2.2.2.2.1 < 8) ∧ r = jI wd.2.2.2.2.2.2.2.2.1 ∧ u.1 = (wd.1, wd.2.1, wd.2.2.1, wd.2.2.2.1, wd.2.2.2.2.1, wd.2.2.2.2.2.1, wd.2.2.2.2.2.2.1, wd.2.2.2.2.2.2.2.1, wd.2.2.2.2.2.2.2.2.1 + 1, uI wd.2.2.2.2.2.2.2.2.2.1 wd.2.2.2.2.2.2.2.2.1 p, uI wd.2.2.2.2.2.2.2.2.2.2.1 wd.2.2.2.2.2.2.2.2.1 h, uI wd.2.2.2.2.2.2.2.2.2.2.2 wd.2.2.2.2.2.2.2.2.1 n) ∧ u.2 = fd)) := by
  refine Ci.mk (cc := cX8_task) (maxL := 4) (rt := .int) (by decide) rfl (Nat.le_of_ble_eq_true rfl) rfl ?_
  intro p_ e_ s_ m_ b_ me_ c_ A_ G hnm
  have hm := hw.many
  have hmt := hw.tasks
  have hh := hw.hour
  have q_0 : Cond.constant RX8 83 (-1000000001) ∈ wsX8_task := List.mem_of_getElem? (i := 1) rfl
  have k_X8 : ∀ w ∈ u_ws RX8 TX8 12, w ∈ wsX8_task := fun _ h => List.mem_cons_of_mem _ (List.mem_append_left _ (List.mem_append_right _ h))
  have q_2 : Cond.fieldLink RX8 10 "SupperLight" "world" "LSupperLight$World;" ∈ wsX8_task := List.mem_of_getElem? (i := 2) rfl
  have k_X7 : ∀ w ∈ u_ws RX7 TX7 12, w ∈ wsX8_task := fun _ h => List.mem_cons_of_mem _ (List.mem_append_right _ h)
  have q_4 : Cond.fieldLink RX8 156 "SupperLight$World" "tasks" "I" ∈ wsX8_task := List.mem_of_getElem? (i := 3) rfl
  have q_5 : Cond.constant RX8 105 (-1000000002) ∈ wsX8_task := List.mem_of_getElem? (i := 4) rfl
  refine v_iload_n (j := 1) (x := jI p) G dX8_task_0 rfl rfl ?_
  refine v_ciN G (rn_S (As := [.int (jI p)]) (rest := []) G (c_X8_isPlace (p := p) (hr := (by omega))) gX8_task_X8_isPlace rfl hdX8_isPlace ⟨rfl, rfl, Nat.le_of_ble_eq_true rfl, Nat.le_of_ble_eq_true rfl⟩ rfl rfl (Nat.le_of_ble_eq_true rfl) ⟨Nat.zero_le _, Nat.zero_le _⟩ dX8_task_1) (fun r_1 u_3 e_2 => ?_)
  have e_2 : r_1 = jI (b2 (0 ≤ p ∧ p ≤ 15)) := e_2
  subst e_2
  refine v_ifb_eq (P := 0 ≤ p ∧ p ≤ 15) (tgt := 27) G dX8_task_4 (by decide) (fun c_4 => ?_) (fun c_4 => ?_)
  · skip
    refine v_aload_n (j := 0) (x := a 0) G dX8_task_27 rfl rfl ?_
    refine v_ldc (z := (-1000000001)) G q_0 (by decide) dX8_task_28 ?_
    refine v_ciP (w2 := (fun _ => (gS  a ks ++ gW cI (fun i => a (1 + i)) wd ++ gF cI a (uI fd 0 (fd 0 + 1))))) (wr := (gW cI (fun i => a (1 + i)) wd)) G (rn_V (As := [.int (jI (-1000000001))]) (rest := []) (q0 := 0) G (c_X8_found_0 (ks := ks) (fd := fd) (a := a) ) gX8_task_X8_found rfl hdX8_found ⟨rfl, rfl, Nat.le_of_ble_eq_true rfl, Nat.le_of_ble_eq_true rfl⟩ rfl rfl (Nat.le_of_ble_eq_true rfl) ⟨Nat.zero_le _, Nat.zero_le _⟩ rfl rfl dX8_task_30) [0, 11] [1, 2, 3, 4, 5, 6, 7, 8, 9, 10] [10, 0, 1, 2, 3, 4, 5, 6, 7, 8, 9, 11] rfl rfl (by decide) (fun _ => rfl) (fun r_5 u_7 e_6 => ?_)
    have e_6 : r_5 = jI (-1000000001) := e_6
    subst e_6
    refine v_world (ws' := (gS  a ks ++ gW cI (fun i => a (1 + i)) wd ++ gF cI a (uI fd 0 (fd 0 + 1)))) rfl ?_
    exact v_iret G (wd, uI fd 0 (fd 0 + 1)) (by first | exact Or.inl ⟨(by omega), (by first | rfl | exact congrArg jI (by omega)), rfl, rfl⟩ | exact Or.inr (Or.inl ⟨(by omega), (by first | rfl | exact congrArg jI (by omega)), rfl, rfl⟩) | exact Or.inr (Or.inr (⟨(by omega), (by first | rfl | exact congrArg jI (by omega)), rfl, rfl⟩))) rfl dX8_task_33
  · skip
    refine v_iload_n (j := 2) (x := jI h) G dX8_task_7 rfl rfl ?_
    refine v_iconst G dX8_task_8 ?_
    refine v_bipush G dX8_task_9 (by decide) ?_
    refine v_ciN G (rn_S (As := [.int (jI h), .int (jI 0), .int (jI 99)]) (rest := []) G (c_X8_within (v := h) (lo := 0) (hi := 99) (hr := (by omega))) gX8_task_X8_within rfl hdX8_within ⟨rfl, rfl, Nat.le_of_ble_eq_true rfl, Nat.le_of_ble_eq_true rfl⟩ rfl rfl (Nat.le_of_ble_eq_true rfl) ⟨Nat.zero_le _, Nat.zero_le _⟩ dX8_task_11) (fun r_8 u_10 e_9 => ?_)
    have e_9 : r_8 = jI (b2 ((0 : Int) ≤ h ∧ h ≤ (99 : Int))) := e_9
    subst e_9
    refine v_ifb_eq (P := (0 : Int) ≤ h ∧ h ≤ (99 : Int)) (tgt := 27) G dX8_task_14 (by decide) (fun c_11 => ?_) (fun c_11 => ?_)
    · skip
      refine v_aload_n (j := 0) (x := a 0) G dX8_task_27 rfl rfl ?_
      refine v_ldc (z := (-1000000001)) G q_0 (by decide) dX8_task_28 ?_
      refine v_ciP (w2 := (fun _ => (gS  a ks ++ gW cI (fun i => a (1 + i)) wd ++ gF cI a (uI fd 0 (fd 0 + 1))))) (wr := (gW cI (fun i => a (1 + i)) wd)) G (rn_V (As := [.int (jI (-1000000001))]) (rest := []) (q0 := 0) G (c_X8_found_0 (ks := ks) (fd := fd) (a := a) ) gX8_task_X8_found rfl hdX8_found ⟨rfl, rfl, Nat.le_of_ble_eq_true rfl, Nat.le_of_ble_eq_true rfl⟩ rfl rfl (Nat.le_of_ble_eq_true rfl) ⟨Nat.zero_le _, Nat.zero_le _⟩ rfl rfl dX8_task_30) [0, 11] [1, 2, 3, 4, 5, 6, 7, 8, 9, 10] [10, 0, 1, 2, 3, 4, 5, 6, 7, 8, 9, 11] rfl rfl (by decide) (fun _ => rfl) (fun r_12 u_14 e_13 => ?_)
      have e_13 : r_12 = jI (-1000000001) := e_13
      subst e_13
      refine v_world (ws' := (gS  a ks ++ gW cI (fun i => a (1 + i)) wd ++ gF cI a (uI fd 0 (fd 0 + 1)))) rfl ?_
      exact v_iret G (wd, uI fd 0 (fd 0 + 1)) (by first | exact Or.inl ⟨(by omega), (by first | rfl | exact congrArg jI (by omega)), rfl, rfl⟩ | exact Or.inr (Or.inl ⟨(by omega), (by first | rfl | exact congrArg jI (by omega)), rfl, rfl⟩) | exact Or.inr (Or.inr (⟨(by omega), (by first | rfl | exact congrArg jI (by omega)), rfl, rfl⟩))) rfl dX8_task_33
    · skip
      refine v_iload_n (j := 3) (x := jI n) G dX8_task_17 rfl rfl ?_
      refine v_iconst G dX8_task_18 ?_
      refine v_bipush G dX8_task_19 (by decide) ?_
      refine v_ciN G (rn_S (As := [.int (jI n), .int (jI 1), .int (jI 99)]) (rest := []) G (c_X8_within (v := n) (lo := 1) (hi := 99) (hr := (by omega))) gX8_task_X8_within rfl hdX8_within ⟨rfl, rfl, Nat.le_of_ble_eq_true rfl, Nat.le_of_ble_eq_true rfl⟩ rfl rfl (Nat.le_of_ble_eq_true rfl) ⟨Nat.zero_le _, Nat.zero_le _⟩ dX8_task_21) (fun r_15 u_17 e_16 => ?_)
      have e_16 : r_15 = jI (b2 ((1 : Int) ≤ n ∧ n ≤ (99 : Int))) := e_16
      subst e_16
      refine v_ifb_ne (P := (1 : Int) ≤ n ∧ n ≤ (99 : Int)) (tgt := 34) G dX8_task_24 (by decide) (fun c_18 => ?_) (fun c_18 => ?_)
      · skip
        refine v_aload_n (j := 0) (x := a 0) G dX8_task_34 rfl rfl ?_
        refine v_get (q0 := 0) (k := 0) (v := .ref (a 1)) G k_X8 rfl rfl (by decide) q_2 rfl rfl dX8_task_35 ?_
        refine v_get (q0 := 1) (k := 8) (v := .int (jI wd.2.2.2.2.2.2.2.2.1)) G k_X7 rfl rfl (by decide) q_4 rfl rfl dX8_task_38 ?_
        refine v_bipush G dX8_task_41 (by decide) ?_
        refine v_icmp_lt (a := wd.2.2.2.2.2.2.2.2.1) (b := 8) (tgt := 53) G dX8_task_43 (by decide) (by omega) (fun c_19 => ?_) (fun c_19 => ?_)
        · skip
          refine v_aload_n (j := 0) (x := a 0) G dX8_task_53 rfl rfl ?_
          refine v_get (q0 := 0) (k := 0) (v := .ref (a 1)) G k_X8 rfl rfl (by decide) q_2 rfl rfl dX8_task_54 ?_
          refine v_iload_n (j := 1) (x := jI p) G dX8_task_57 rfl rfl ?_
          refine v_iload_n (j := 2) (x := jI h) G dX8_task_58 rfl rfl ?_
          refine v_iload_n (j := 3) (x := jI n) G dX8_task_59 rfl rfl ?_
          refine v_ciP (w2 := (fun _ => (gS  a ks ++ gW cI (fun i => a (1 + i)) (wd.1, wd.2.1, wd.2.2.1, wd.2.2.2.1, wd.2.2.2.2.1, wd.2.2.2.2.2.1, wd.2.2.2.2.2.2.1, wd.2.2.2.2.2.2.2.1, wd.2.2.2.2.2.2.2.2.1 + 1, uI wd.2.2.2.2.2.2.2.2.2.1 wd.2.2.2.2.2.2.2.2.1 p, uI wd.2.2.2.2.2.2.2.2.2.2.1 wd.2.2.2.2.2.2.2.2.1 h, uI wd.2.2.2.2.2.2.2.2.2.2.2 wd.2.2.2.2.2.2.2.2.1 n) ++ gF cI a fd))) (wr := (gS  a ks ++ gF cI a fd)) G (rn_V (As := [.int (jI p), .int (jI h), .int (jI n)]) (rest := []) (q0 := 0) G (c_X7_addTask (p := p) (h := h) (n := n) (x := wd) (b := fun i => a (1 + i)) (hn := (by omega))) gX8_task_X7_addTask rfl hdX7_addTask ⟨rfl, rfl, Nat.le_of_ble_eq_true rfl, Nat.le_of_ble_eq_true rfl⟩ rfl rfl (Nat.le_of_ble_eq_true rfl) ⟨Nat.zero_le _, Nat.zero_le _⟩ rfl rfl dX8_task_60) [1, 2, 3, 4, 5, 6, 7, 8, 9, 10] [0, 11] [0, 2, 3, 4, 5, 6, 7, 8, 9, 10, 11, 1] rfl rfl (by decide) (fun _ => rfl) (fun r_20 u_22 e_21 => ?_)
          have e_21 : r_20 = jI wd.2.2.2.2.2.2.2.2.1 := e_21
          subst e_21
          refine v_world (ws' := (gS  a ks ++ gW cI (fun i => a (1 + i)) (wd.1, wd.2.1, wd.2.2.1, wd.2.2.2.1, wd.2.2.2.2.1, wd.2.2.2.2.2.1, wd.2.2.2.2.2.2.1, wd.2.2.2.2.2.2.2.1, wd.2.2.2.2.2.2.2.2.1 + 1, uI wd.2.2.2.2.2.2.2.2.2.1 wd.2.2.2.2.2.2.2.2.1 p, uI wd.2.2.2.2.2.2.2.2.2.2.1 wd.2.2.2.2.2.2.2.2.1 h, uI wd.2.2.2.2.2.2.2.2.2.2.2 wd.2.2.2.2.2.2.2.2.1 n) ++ gF cI a fd)) rfl ?_
          exact v_iret G ((wd.1, wd.2.1, wd.2.2.1, wd.2.2.2.1, wd.2.2.2.2.1, wd.2.2.2.2.2.1, wd.2.2.2.2.2.2.1, wd.2.2.2.2.2.2.2.1, wd.2.2.2.2.2.2.2.2.1 + 1, uI wd.2.2.2.2.2.2.2.2.2.1 wd.2.2.2.2.2.2.2.2.1 p, uI wd.2.2.2.2.2.2.2.2.2.2.1 wd.2.2.2.2.2.2.2.2.1 h, uI wd.2.2.2.2.2.2.2.2.2.2.2 wd.2.2.2.2.2.2.2.2.1 n), fd) (by first | exact Or.inl ⟨(by omega), (by first | rfl | exact congrArg jI (by omega)), rfl, rfl⟩ | exact Or.inr (Or.inl ⟨(by omega), (by first | rfl | exact congrArg jI (by omega)), rfl, rfl⟩) | exact Or.inr (Or.inr (⟨(by omega), (by first | rfl | exact congrArg jI (by omega)), rfl, rfl⟩))) rfl dX8_task_63
        · skip
          refine v_aload_n (j := 0) (x := a 0) G dX8_task_46 rfl rfl ?_
          refine v_ldc (z := (-1000000002)) G q_5 (by decide) dX8_task_47 ?_
          refine v_ciP (w2 := (fun _ => (gS  a ks ++ gW cI (fun i => a (1 + i)) wd ++ gF cI a (uI fd 1 (fd 1 + 1))))) (wr := (gW cI (fun i => a (1 + i)) wd)) G (rn_V (As := [.int (jI (-1000000002))]) (rest := []) (q0 := 0) G (c_X8_found_1 (ks := ks) (fd := fd) (a := a) ) gX8_task_X8_found rfl hdX8_found ⟨rfl, rfl, Nat.le_of_ble_eq_true rfl, Nat.le_of_ble_eq_true rfl⟩ rfl rfl (Nat.le_of_ble_eq_true rfl) ⟨Nat.zero_le _, Nat.zero_le _⟩ rfl rfl dX8_task_49) [0, 11] [1, 2, 3, 4, 5, 6, 7, 8, 9, 10] [10, 0, 1, 2, 3, 4, 5, 6, 7, 8, 9, 11] rfl rfl (by decide) (fun _ => rfl) (fun r_23 u_25 e_24 => ?_)
          have e_24 : r_23 = jI (-1000000002) := e_24
          subst e_24
          refine v_world (ws' := (gS  a ks ++ gW cI (fun i => a (1 + i)) wd ++ gF cI a (uI fd 1 (fd 1 + 1)))) rfl ?_
          exact v_iret G (wd, uI fd 1 (fd 1 + 1)) (by first | exact Or.inl ⟨(by omega), (by first | rfl | exact congrArg jI (by omega)), rfl, rfl⟩ | exact Or.inr (Or.inl ⟨(by omega), (by first | rfl | exact congrArg jI (by omega)), rfl, rfl⟩) | exact Or.inr (Or.inr (⟨(by omega), (by first | rfl | exact congrArg jI (by omega)), rfl, rfl⟩))) rfl dX8_task_52
      · skip
        refine v_aload_n (j := 0) (x := a 0) G dX8_task_27 rfl rfl ?_
        refine v_ldc (z := (-1000000001)) G q_0 (by decide) dX8_task_28 ?_
        refine v_ciP (w2 := (fun _ => (gS  a ks ++ gW cI (fun i => a (1 + i)) wd ++ gF cI a (uI fd 0 (fd 0 + 1))))) (wr := (gW cI (fun i => a (1 + i)) wd)) G (rn_V (As := [.int (jI (-1000000001))]) (rest := []) (q0 := 0) G (c_X8_found_0 (ks := ks) (fd := fd) (a := a) ) gX8_task_X8_found rfl hdX8_found ⟨rfl, rfl, Nat.le_of_ble_eq_true rfl, Nat.le_of_ble_eq_true rfl⟩ rfl rfl (Nat.le_of_ble_eq_true rfl) ⟨Nat.zero_le _, Nat.zero_le _⟩ rfl rfl dX8_task_30) [0, 11] [1, 2, 3, 4, 5, 6, 7, 8, 9, 10] [10, 0, 1, 2, 3, 4, 5, 6, 7, 8, 9, 11] rfl rfl (by decide) (fun _ => rfl) (fun r_26 u_28 e_27 => ?_)
        have e_27 : r_26 = jI (-1000000001) := e_27
        subst e_27
        refine v_world (ws' := (gS  a ks ++ gW cI (fun i => a (1 + i)) wd ++ gF cI a (uI fd 0 (fd 0 + 1)))) rfl ?_
        exact v_iret G (wd, uI fd 0 (fd 0 + 1)) (by first | exact Or.inl ⟨(by omega), (by first | rfl | exact congrArg jI (by omega)), rfl, rfl⟩ | exact Or.inr (Or.inl ⟨(by omega), (by first | rfl | exact congrArg jI (by omega)), rfl, rfl⟩) | exact Or.inr (Or.inr (⟨(by omega), (by first | rfl | exact congrArg jI (by omega)), rfl, rfl⟩))) rfl dX8_task_33

set_option maxHeartbeats 4000000 in
set_option maxRecDepth 100000 in
theorem c_X8_taskOf (t k : Int) (hw : Wc wd) (hr : (-2147483648 ≤ t ∧ t ≤ 2147483647) ∧ (-2147483648 ≤ k ∧ k ≤ 2147483647)) : Ci l yX8_taskOf wsX8_taskOf { frames := 5, cells := 0, slots := 0, locals := 114 } D (jT cI cL cB cS) [.ref (a 0), .int (jI t), .int (jI k)] (gS  a ks ++ gW cI (fun i => a (1 + i)) wd ++ gG cI (fun i => a (31 + i)) gl ++ gF cI a fd) (S := (Int → Int) × GT) (fun u => (gS  a ks ++ gW cI (fun i => a (1 + i)) wd ++ gG cI (fun i => a (31 + i)) u.2 ++ gF cI a u.1)) (fun r u => ((¬ ((0 ≤ t ∧ t < wd.2.2.2.2.2.2.2.2.1) ∧ 0 ≤ k ∧ k ≤ 4)) ∧ r = jI (-1000000001) ∧ u.1 = uI fd 0 (fd 0 + 1)) ∨ ((((0 ≤ t ∧ t < wd.2.2.2.2.2.2.2.2.1) ∧ 0 ≤ k ∧ k ≤ 4) ∧ k = 0) ∧ r = jI (wd.2.2.2.2.2.2.2.2.2.1 t) ∧ u.1 = fd) ∨ ((((0 ≤ t ∧ t < wd.2.2.2.2.2.2.2.2.1) ∧ 0 ≤ k ∧ k ≤ 4) ∧ k = 1) ∧ r = jI (wd.2.2.2.2.2.2.2.2.2.2.1 t) ∧ u.1 = fd) ∨ ((((0 ≤ t ∧ t < wd.2.2.2.2.2.2.2.2.1) ∧ 0 ≤ k ∧ k ≤ 4) ∧ k = 2) ∧ r = jI (wd.2.2.2.2.2.2.2.2.2.2.2 t) ∧ u.1 = fd) ∨ ((((0 ≤ t ∧ t < wd.2.2.2.2.2.2.2.2.1) ∧ 0 ≤ k ∧ k ≤ 4) ∧ k = 3) ∧ r = jI (b2 (cLt wd 0 (wd.2.2.2.2.2.2.2.2.2.1 t) < wd.2.2.2.2.2.2.2.2.2.2.2 t)) ∧ u.1 = fd) ∨ ((((0 ≤ t ∧ t < wd.2.2.2.2.2.2.2.2.1) ∧ 0 ≤ k ∧ k ≤ 4) ∧ k = 4) ∧ r = jI (b2 (cDn wd t)) ∧ u.1 = fd)) := by
  refine Ci.mk (cc := cX8_taskOf) (maxL := 3) (rt := .int) (by decide) rfl (Nat.le_of_ble_eq_true rfl) rfl ?_
  intro p_ e_ s_ m_ b_ me_ c_ A_ G hnm
  have hm := hw.many
  have hmt := hw.tasks
  have hh := hw.hour
  have k_X8 : ∀ w ∈ u_ws RX8 TX8 12, w ∈ wsX8_taskOf := fun _ h => List.mem_cons_of_mem _ (List.mem_append_left _ (List.mem_append_left _ (List.mem_append_right _ h)))
  have q_1 : Cond.fieldLink RX8 10 "SupperLight" "world" "LSupperLight$World;" ∈ wsX8_taskOf := List.mem_of_getElem? (i := 1) rfl
  have k_X7 : ∀ w ∈ u_ws RX7 TX7 12, w ∈ wsX8_taskOf := fun _ h => List.mem_cons_of_mem _ (List.mem_append_left _ (List.mem_append_right _ h))
  have q_3 : Cond.fieldLink RX8 166 "SupperLight$World" "taskPlaces" "[I" ∈ wsX8_taskOf := List.mem_of_getElem? (i := 3) rfl
  have q_4 : Cond.fieldLink RX8 169 "SupperLight$World" "taskHours" "[I" ∈ wsX8_taskOf := List.mem_of_getElem? (i := 4) rfl
  have q_5 : Cond.fieldLink RX8 172 "SupperLight$World" "taskNeeds" "[I" ∈ wsX8_taskOf := List.mem_of_getElem? (i := 5) rfl
  have q_6 : Cond.constant RX8 83 (-1000000001) ∈ wsX8_taskOf := List.mem_of_getElem? (i := 2) rfl
  refine v_aload_n (j := 0) (x := a 0) G dX8_taskOf_0 rfl rfl ?_
  refine v_get (q0 := 0) (k := 0) (v := .ref (a 1)) G k_X8 rfl rfl (by decide) q_1 rfl rfl dX8_taskOf_1 ?_
  refine v_iload_n (j := 1) (x := jI t) G dX8_taskOf_4 rfl rfl ?_
  refine v_ciP (w2 := (fun _ => (gS  a ks ++ gW cI (fun i => a (1 + i)) wd ++ gG cI (fun i => a (31 + i)) gl ++ gF cI a fd))) (wr := (gS  a ks ++ gG cI (fun i => a (31 + i)) gl ++ gF cI a fd)) G (rn_V (As := [.int (jI t)]) (rest := []) (q0 := 0) G (c_X7_hasTask (z := t) (x := wd) (b := fun i => a (1 + i)) (hw := hw) (hr := (by omega))) gX8_taskOf_X7_hasTask rfl hdX7_hasTask ⟨rfl, rfl, Nat.le_of_ble_eq_true rfl, Nat.le_of_ble_eq_true rfl⟩ rfl rfl (Nat.le_of_ble_eq_true rfl) ⟨Nat.zero_le _, Nat.zero_le _⟩ rfl rfl dX8_taskOf_5) [1, 2, 3, 4, 5, 6, 7, 8, 9, 10] [0, 11, 12, 13, 14, 15, 16] [0, 7, 8, 9, 10, 11, 12, 13, 14, 15, 16, 1, 2, 3, 4, 5, 6] rfl rfl (by decide) (fun _ => rfl) (fun r_1 u_3 e_2 => ?_)
  have e_2 : r_1 = jI (b2 (0 ≤ t ∧ t < wd.2.2.2.2.2.2.2.2.1)) := e_2
  subst e_2
  refine v_world (ws' := (gS  a ks ++ gW cI (fun i => a (1 + i)) wd ++ gG cI (fun i => a (31 + i)) gl ++ gF cI a fd)) rfl ?_
  refine v_ifb_ne (P := 0 ≤ t ∧ t < wd.2.2.2.2.2.2.2.2.1) (tgt := 18) G dX8_taskOf_8 (by decide) (fun c_4 => ?_) (fun c_4 => ?_)
  · skip
    have hk := hw.task (t := t) (by omega) (by omega)
    have hl := cLt_r hw (n := 0) (p := wd.2.2.2.2.2.2.2.2.2.1 t) (by omega) (by omega) (by omega)
    refine v_iload_n (j := 2) (x := jI k) G dX8_taskOf_18 rfl rfl ?_
    rcases (show k = 0 ∨ k = 1 ∨ k = 2 ∨ k = 3 ∨ k = 4 ∨ (k < 0 ∨ 4 < k) by omega) with c_5 | c_5 | c_5 | c_5 | c_5 | c_5
    · skip
      refine v_tabIn (z := k) (v := 0) (tgt := 52) G c_5 (by decide) rfl (by decide) dX8_taskOf_19 ?_
      refine v_aload_n (j := 0) (x := a 0) G dX8_taskOf_52 rfl rfl ?_
      refine v_get (q0 := 0) (k := 0) (v := .ref (a 1)) G k_X8 rfl rfl (by decide) q_1 rfl rfl dX8_taskOf_53 ?_
      refine v_get (q0 := 1) (k := 9) (v := .ref (a 8)) G k_X7 rfl rfl (by decide) q_3 rfl rfl dX8_taskOf_56 ?_
      refine v_iload_n (j := 1) (x := jI t) G dX8_taskOf_59 rfl rfl ?_
      refine v_iald (q0 := 8) (t0 := 0) (g := wd.2.2.2.2.2.2.2.2.2.1) (z := t) G rfl rfl (by omega) dX8_taskOf_60 ?_
      exact v_iret G (fd, gl) (by first | exact Or.inl ⟨(by omega), (by first | rfl | exact congrArg jI (by omega) | exact congrArg jI (b2_t (by first | omega | assumption)).symm | exact congrArg jI (b2_f (by first | omega | assumption)).symm), rfl⟩ | exact Or.inr (Or.inl ⟨(by omega), (by first | rfl | exact congrArg jI (by omega) | exact congrArg jI (b2_t (by first | omega | assumption)).symm | exact congrArg jI (b2_f (by first | omega | assumption)).symm), rfl⟩) | exact Or.inr (Or.inr (Or.inl ⟨(by omega), (by first | rfl | exact congrArg jI (by omega) | exact congrArg jI (b2_t (by first | omega | assumption)).symm | exact congrArg jI (b2_f (by first | omega | assumption)).symm), rfl⟩)) | exact Or.inr (Or.inr (Or.inr (Or.inl ⟨(by omega), (by first | rfl | exact congrArg jI (by omega) | exact congrArg jI (b2_t (by first | omega | assumption)).symm | exact congrArg jI (b2_f (by first | omega | assumption)).symm), rfl⟩))) | exact Or.inr (Or.inr (Or.inr (Or.inr (Or.inl ⟨(by omega), (by first | rfl | exact congrArg jI (by omega) | exact congrArg jI (b2_t (by first | omega | assumption)).symm | exact congrArg jI (b2_f (by first | omega | assumption)).symm), rfl⟩)))) | exact Or.inr (Or.inr (Or.inr (Or.inr (Or.inr (⟨(by omega), (by first | rfl | exact congrArg jI (by omega) | exact congrArg jI (b2_t (by first | omega | assumption)).symm | exact congrArg jI (b2_f (by first | omega | assumption)).symm), rfl⟩)))))) rfl dX8_taskOf_61
    · skip
      refine v_tabIn (z := k) (v := 1) (tgt := 62) G c_5 (by decide) rfl (by decide) dX8_taskOf_19 ?_
      refine v_aload_n (j := 0) (x := a 0) G dX8_taskOf_62 rfl rfl ?_
      refine v_get (q0 := 0) (k := 0) (v := .ref (a 1)) G k_X8 rfl rfl (by decide) q_1 rfl rfl dX8_taskOf_63 ?_
      refine v_get (q0 := 1) (k := 10) (v := .ref (a 9)) G k_X7 rfl rfl (by decide) q_4 rfl rfl dX8_taskOf_66 ?_
      refine v_iload_n (j := 1) (x := jI t) G dX8_taskOf_69 rfl rfl ?_
      refine v_iald (q0 := 9) (t0 := 0) (g := wd.2.2.2.2.2.2.2.2.2.2.1) (z := t) G rfl rfl (by omega) dX8_taskOf_70 ?_
      exact v_iret G (fd, gl) (by first | exact Or.inl ⟨(by omega), (by first | rfl | exact congrArg jI (by omega) | exact congrArg jI (b2_t (by first | omega | assumption)).symm | exact congrArg jI (b2_f (by first | omega | assumption)).symm), rfl⟩ | exact Or.inr (Or.inl ⟨(by omega), (by first | rfl | exact congrArg jI (by omega) | exact congrArg jI (b2_t (by first | omega | assumption)).symm | exact congrArg jI (b2_f (by first | omega | assumption)).symm), rfl⟩) | exact Or.inr (Or.inr (Or.inl ⟨(by omega), (by first | rfl | exact congrArg jI (by omega) | exact congrArg jI (b2_t (by first | omega | assumption)).symm | exact congrArg jI (b2_f (by first | omega | assumption)).symm), rfl⟩)) | exact Or.inr (Or.inr (Or.inr (Or.inl ⟨(by omega), (by first | rfl | exact congrArg jI (by omega) | exact congrArg jI (b2_t (by first | omega | assumption)).symm | exact congrArg jI (b2_f (by first | omega | assumption)).symm), rfl⟩))) | exact Or.inr (Or.inr (Or.inr (Or.inr (Or.inl ⟨(by omega), (by first | rfl | exact congrArg jI (by omega) | exact congrArg jI (b2_t (by first | omega | assumption)).symm | exact congrArg jI (b2_f (by first | omega | assumption)).symm), rfl⟩)))) | exact Or.inr (Or.inr (Or.inr (Or.inr (Or.inr (⟨(by omega), (by first | rfl | exact congrArg jI (by omega) | exact congrArg jI (b2_t (by first | omega | assumption)).symm | exact congrArg jI (b2_f (by first | omega | assumption)).symm), rfl⟩)))))) rfl dX8_taskOf_71
    · skip
      refine v_tabIn (z := k) (v := 2) (tgt := 72) G c_5 (by decide) rfl (by decide) dX8_taskOf_19 ?_
      refine v_aload_n (j := 0) (x := a 0) G dX8_taskOf_72 rfl rfl ?_
      refine v_get (q0 := 0) (k := 0) (v := .ref (a 1)) G k_X8 rfl rfl (by decide) q_1 rfl rfl dX8_taskOf_73 ?_
      refine v_get (q0 := 1) (k := 11) (v := .ref (a 10)) G k_X7 rfl rfl (by decide) q_5 rfl rfl dX8_taskOf_76 ?_
      refine v_iload_n (j := 1) (x := jI t) G dX8_taskOf_79 rfl rfl ?_
      refine v_iald (q0 := 10) (t0 := 0) (g := wd.2.2.2.2.2.2.2.2.2.2.2) (z := t) G rfl rfl (by omega) dX8_taskOf_80 ?_
      exact v_iret G (fd, gl) (by first | exact Or.inl ⟨(by omega), (by first | rfl | exact congrArg jI (by omega) | exact congrArg jI (b2_t (by first | omega | assumption)).symm | exact congrArg jI (b2_f (by first | omega | assumption)).symm), rfl⟩ | exact Or.inr (Or.inl ⟨(by omega), (by first | rfl | exact congrArg jI (by omega) | exact congrArg jI (b2_t (by first | omega | assumption)).symm | exact congrArg jI (b2_f (by first | omega | assumption)).symm), rfl⟩) | exact Or.inr (Or.inr (Or.inl ⟨(by omega), (by first | rfl | exact congrArg jI (by omega) | exact congrArg jI (b2_t (by first | omega | assumption)).symm | exact congrArg jI (b2_f (by first | omega | assumption)).symm), rfl⟩)) | exact Or.inr (Or.inr (Or.inr (Or.inl ⟨(by omega), (by first | rfl | exact congrArg jI (by omega) | exact congrArg jI (b2_t (by first | omega | assumption)).symm | exact congrArg jI (b2_f (by first | omega | assumption)).symm), rfl⟩))) | exact Or.inr (Or.inr (Or.inr (Or.inr (Or.inl ⟨(by omega), (by first | rfl | exact congrArg jI (by omega) | exact congrArg jI (b2_t (by first | omega | assumption)).symm | exact congrArg jI (b2_f (by first | omega | assumption)).symm), rfl⟩)))) | exact Or.inr (Or.inr (Or.inr (Or.inr (Or.inr (⟨(by omega), (by first | rfl | exact congrArg jI (by omega) | exact congrArg jI (b2_t (by first | omega | assumption)).symm | exact congrArg jI (b2_f (by first | omega | assumption)).symm), rfl⟩)))))) rfl dX8_taskOf_81
    · skip
      refine v_tabIn (z := k) (v := 3) (tgt := 82) G c_5 (by decide) rfl (by decide) dX8_taskOf_19 ?_
      refine v_aload_n (j := 0) (x := a 0) G dX8_taskOf_82 rfl rfl ?_
      refine v_aload_n (j := 0) (x := a 0) G dX8_taskOf_83 rfl rfl ?_
      refine v_get (q0 := 0) (k := 0) (v := .ref (a 1)) G k_X8 rfl rfl (by decide) q_1 rfl rfl dX8_taskOf_84 ?_
      refine v_get (q0 := 1) (k := 9) (v := .ref (a 8)) G k_X7 rfl rfl (by decide) q_3 rfl rfl dX8_taskOf_87 ?_
      refine v_iload_n (j := 1) (x := jI t) G dX8_taskOf_90 rfl rfl ?_
      refine v_iald (q0 := 8) (t0 := 0) (g := wd.2.2.2.2.2.2.2.2.2.1) (z := t) G rfl rfl (by omega) dX8_taskOf_91 ?_
      refine v_iconst G dX8_taskOf_92 ?_
      refine v_ciP (w2 := (fun _ => (gS  a ks ++ gW cI (fun i => a (1 + i)) wd ++ gG cI (fun i => a (31 + i)) (glS wd 0 gl) ++ gF cI a fd))) (wr := (gF cI a fd)) G (rn_V (As := [.int (jI (wd.2.2.2.2.2.2.2.2.2.1 t)), .int (jI 0)]) (rest := []) (q0 := 0) G (c_X8_lightOn (p := wd.2.2.2.2.2.2.2.2.2.1 t) (n := 0) (ks := ks) (wd := wd) (gl := gl) (a := a) (hw := hw) (hp := (by omega))) gX8_taskOf_X8_lightOn rfl hdX8_lightOn ⟨rfl, rfl, Nat.le_of_ble_eq_true rfl, Nat.le_of_ble_eq_true rfl⟩ rfl rfl (Nat.le_of_ble_eq_true rfl) ⟨Nat.zero_le _, Nat.zero_le _⟩ rfl rfl dX8_taskOf_93) [0, 1, 2, 3, 4, 5, 6, 7, 8, 9, 10, 11, 12, 13, 14, 15] [16] [1, 2, 3, 4, 5, 6, 7, 8, 9, 10, 11, 12, 13, 14, 15, 16, 0] rfl rfl (by decide) (fun _ => rfl) (fun r_6 u_8 e_7 => ?_)
      have e_7 : r_6 = jI (cLt wd 0 (wd.2.2.2.2.2.2.2.2.2.1 t)) := e_7
      subst e_7
      refine v_world (ws' := (gS  a ks ++ gW cI (fun i => a (1 + i)) wd ++ gG cI (fun i => a (31 + i)) (glS wd 0 gl) ++ gF cI a fd)) rfl ?_
      refine v_aload_n (j := 0) (x := a 0) G dX8_taskOf_96 rfl rfl ?_
      refine v_get (q0 := 0) (k := 0) (v := .ref (a 1)) G k_X8 rfl rfl (by decide) q_1 rfl rfl dX8_taskOf_97 ?_
      refine v_get (q0 := 1) (k := 11) (v := .ref (a 10)) G k_X7 rfl rfl (by decide) q_5 rfl rfl dX8_taskOf_100 ?_
      refine v_iload_n (j := 1) (x := jI t) G dX8_taskOf_103 rfl rfl ?_
      refine v_iald (q0 := 10) (t0 := 0) (g := wd.2.2.2.2.2.2.2.2.2.2.2) (z := t) G rfl rfl (by omega) dX8_taskOf_104 ?_
      refine v_icmp_ge (a := cLt wd 0 (wd.2.2.2.2.2.2.2.2.2.1 t)) (b := wd.2.2.2.2.2.2.2.2.2.2.2 t) (tgt := 112) G dX8_taskOf_105 (by decide) (by omega) (fun c_9 => ?_) (fun c_9 => ?_)
      · skip
        refine v_iconst G dX8_taskOf_112 ?_
        exact v_iret G (fd, (glS wd 0 gl)) (by first | exact Or.inl ⟨(by omega), (by first | rfl | exact congrArg jI (by omega) | exact congrArg jI (b2_t (by first | omega | assumption)).symm | exact congrArg jI (b2_f (by first | omega | assumption)).symm), rfl⟩ | exact Or.inr (Or.inl ⟨(by omega), (by first | rfl | exact congrArg jI (by omega) | exact congrArg jI (b2_t (by first | omega | assumption)).symm | exact congrArg jI (b2_f (by first | omega | assumption)).symm), rfl⟩) | exact Or.inr (Or.inr (Or.inl ⟨(by omega), (by first | rfl | exact congrArg jI (by omega) | exact congrArg jI (b2_t (by first | omega | assumption)).symm | exact congrArg jI (b2_f (by first | omega | assumption)).symm), rfl⟩)) | exact Or.inr (Or.inr (Or.inr (Or.inl ⟨(by omega), (by first | rfl | exact congrArg jI (by omega) | exact congrArg jI (b2_t (by first | omega | assumption)).symm | exact congrArg jI (b2_f (by first | omega | assumption)).symm), rfl⟩))) | exact Or.inr (Or.inr (Or.inr (Or.inr (Or.inl ⟨(by omega), (by first | rfl | exact congrArg jI (by omega) | exact congrArg jI (b2_t (by first | omega | assumption)).symm | exact congrArg jI (b2_f (by first | omega | assumption)).symm), rfl⟩)))) | exact Or.inr (Or.inr (Or.inr (Or.inr (Or.inr (⟨(by omega), (by first | rfl | exact congrArg jI (by omega) | exact congrArg jI (b2_t (by first | omega | assumption)).symm | exact congrArg jI (b2_f (by first | omega | assumption)).symm), rfl⟩)))))) rfl dX8_taskOf_113
      · skip
        refine v_iconst G dX8_taskOf_108 ?_
        refine v_goto (tgt := 113) G dX8_taskOf_109 (by decide) ?_
        exact v_iret G (fd, (glS wd 0 gl)) (by first | exact Or.inl ⟨(by omega), (by first | rfl | exact congrArg jI (by omega) | exact congrArg jI (b2_t (by first | omega | assumption)).symm | exact congrArg jI (b2_f (by first | omega | assumption)).symm), rfl⟩ | exact Or.inr (Or.inl ⟨(by omega), (by first | rfl | exact congrArg jI (by omega) | exact congrArg jI (b2_t (by first | omega | assumption)).symm | exact congrArg jI (b2_f (by first | omega | assumption)).symm), rfl⟩) | exact Or.inr (Or.inr (Or.inl ⟨(by omega), (by first | rfl | exact congrArg jI (by omega) | exact congrArg jI (b2_t (by first | omega | assumption)).symm | exact congrArg jI (b2_f (by first | omega | assumption)).symm), rfl⟩)) | exact Or.inr (Or.inr (Or.inr (Or.inl ⟨(by omega), (by first | rfl | exact congrArg jI (by omega) | exact congrArg jI (b2_t (by first | omega | assumption)).symm | exact congrArg jI (b2_f (by first | omega | assumption)).symm), rfl⟩))) | exact Or.inr (Or.inr (Or.inr (Or.inr (Or.inl ⟨(by omega), (by first | rfl | exact congrArg jI (by omega) | exact congrArg jI (b2_t (by first | omega | assumption)).symm | exact congrArg jI (b2_f (by first | omega | assumption)).symm), rfl⟩)))) | exact Or.inr (Or.inr (Or.inr (Or.inr (Or.inr (⟨(by omega), (by first | rfl | exact congrArg jI (by omega) | exact congrArg jI (b2_t (by first | omega | assumption)).symm | exact congrArg jI (b2_f (by first | omega | assumption)).symm), rfl⟩)))))) rfl dX8_taskOf_113
    · skip
      refine v_tabIn (z := k) (v := 4) (tgt := 114) G c_5 (by decide) rfl (by decide) dX8_taskOf_19 ?_
      refine v_aload_n (j := 0) (x := a 0) G dX8_taskOf_114 rfl rfl ?_
      refine v_aload_n (j := 0) (x := a 0) G dX8_taskOf_115 rfl rfl ?_
      refine v_get (q0 := 0) (k := 0) (v := .ref (a 1)) G k_X8 rfl rfl (by decide) q_1 rfl rfl dX8_taskOf_116 ?_
      refine v_iload_n (j := 1) (x := jI t) G dX8_taskOf_119 rfl rfl ?_
      refine v_ciP (w2 := (fun gl2 => (gS  a ks ++ gW cI (fun i => a (1 + i)) wd ++ gG cI (fun i => a (31 + i)) gl2 ++ gF cI a fd))) (wr := (gF cI a fd)) G (rn_V (As := [.ref (a 1), .int (jI t)]) (rest := []) (q0 := 0) G (c_X8_isDone (t := t) (ks := ks) (x := wd) (gl := gl) (a := a) (b := fun i => a (1 + i)) (hw := hw) (ht := (by omega))) gX8_taskOf_X8_isDone rfl hdX8_isDone ⟨rfl, rfl, Nat.le_of_ble_eq_true rfl, Nat.le_of_ble_eq_true rfl⟩ rfl rfl (Nat.le_of_ble_eq_true rfl) ⟨Nat.zero_le _, Nat.zero_le _⟩ rfl rfl dX8_taskOf_120) [0, 1, 2, 3, 4, 5, 6, 7, 8, 9, 10, 11, 12, 13, 14, 15] [16] [1, 2, 3, 4, 5, 6, 7, 8, 9, 10, 11, 12, 13, 14, 15, 16, 0] rfl rfl (by decide) (fun _ => rfl) (fun r_11 u_13 e_12 => ?_)
      obtain ⟨gl2_10, rfl⟩ : ∃ z, z = u_13 := ⟨_, rfl⟩
      have e_12 : r_11 = jI (b2 (cDn wd t)) ∧ True := e_12
      obtain ⟨e_120, e_12⟩ := e_12
      subst e_120
      refine v_world (ws' := (gS  a ks ++ gW cI (fun i => a (1 + i)) wd ++ gG cI (fun i => a (31 + i)) gl2_10 ++ gF cI a fd)) rfl ?_
      refine v_ifb_eq (P := cDn wd t) (tgt := 130) G dX8_taskOf_123 (by decide) (fun c_14 => ?_) (fun c_14 => ?_)
      · skip
        refine v_iconst G dX8_taskOf_130 ?_
        exact v_iret G (fd, gl2_10) (by first | exact Or.inl ⟨(by omega), (by first | rfl | exact congrArg jI (by omega) | exact congrArg jI (b2_t (by first | omega | assumption)).symm | exact congrArg jI (b2_f (by first | omega | assumption)).symm), rfl⟩ | exact Or.inr (Or.inl ⟨(by omega), (by first | rfl | exact congrArg jI (by omega) | exact congrArg jI (b2_t (by first | omega | assumption)).symm | exact congrArg jI (b2_f (by first | omega | assumption)).symm), rfl⟩) | exact Or.inr (Or.inr (Or.inl ⟨(by omega), (by first | rfl | exact congrArg jI (by omega) | exact congrArg jI (b2_t (by first | omega | assumption)).symm | exact congrArg jI (b2_f (by first | omega | assumption)).symm), rfl⟩)) | exact Or.inr (Or.inr (Or.inr (Or.inl ⟨(by omega), (by first | rfl | exact congrArg jI (by omega) | exact congrArg jI (b2_t (by first | omega | assumption)).symm | exact congrArg jI (b2_f (by first | omega | assumption)).symm), rfl⟩))) | exact Or.inr (Or.inr (Or.inr (Or.inr (Or.inl ⟨(by omega), (by first | rfl | exact congrArg jI (by omega) | exact congrArg jI (b2_t (by first | omega | assumption)).symm | exact congrArg jI (b2_f (by first | omega | assumption)).symm), rfl⟩)))) | exact Or.inr (Or.inr (Or.inr (Or.inr (Or.inr (⟨(by omega), (by first | rfl | exact congrArg jI (by omega) | exact congrArg jI (b2_t (by first | omega | assumption)).symm | exact congrArg jI (b2_f (by first | omega | assumption)).symm), rfl⟩)))))) rfl dX8_taskOf_131
      · skip
        refine v_iconst G dX8_taskOf_126 ?_
        refine v_goto (tgt := 131) G dX8_taskOf_127 (by decide) ?_
        exact v_iret G (fd, gl2_10) (by first | exact Or.inl ⟨(by omega), (by first | rfl | exact congrArg jI (by omega) | exact congrArg jI (b2_t (by first | omega | assumption)).symm | exact congrArg jI (b2_f (by first | omega | assumption)).symm), rfl⟩ | exact Or.inr (Or.inl ⟨(by omega), (by first | rfl | exact congrArg jI (by omega) | exact congrArg jI (b2_t (by first | omega | assumption)).symm | exact congrArg jI (b2_f (by first | omega | assumption)).symm), rfl⟩) | exact Or.inr (Or.inr (Or.inl ⟨(by omega), (by first | rfl | exact congrArg jI (by omega) | exact congrArg jI (b2_t (by first | omega | assumption)).symm | exact congrArg jI (b2_f (by first | omega | assumption)).symm), rfl⟩)) | exact Or.inr (Or.inr (Or.inr (Or.inl ⟨(by omega), (by first | rfl | exact congrArg jI (by omega) | exact congrArg jI (b2_t (by first | omega | assumption)).symm | exact congrArg jI (b2_f (by first | omega | assumption)).symm), rfl⟩))) | exact Or.inr (Or.inr (Or.inr (Or.inr (Or.inl ⟨(by omega), (by first | rfl | exact congrArg jI (by omega) | exact congrArg jI (b2_t (by first | omega | assumption)).symm | exact congrArg jI (b2_f (by first | omega | assumption)).symm), rfl⟩)))) | exact Or.inr (Or.inr (Or.inr (Or.inr (Or.inr (⟨(by omega), (by first | rfl | exact congrArg jI (by omega) | exact congrArg jI (b2_t (by first | omega | assumption)).symm | exact congrArg jI (b2_f (by first | omega | assumption)).symm), rfl⟩)))))) rfl dX8_taskOf_131
    · skip
      refine v_tabOut (z := k) (tgt := 132) G c_5 (by omega) (by decide) dX8_taskOf_19 ?_
      refine v_aload_n (j := 0) (x := a 0) G dX8_taskOf_132 rfl rfl ?_
      refine v_ldc (z := (-1000000001)) G q_6 (by decide) dX8_taskOf_133 ?_
      refine v_ciP (w2 := (fun _ => (gS  a ks ++ gW cI (fun i => a (1 + i)) wd ++ gG cI (fun i => a (31 + i)) gl ++ gF cI a (uI fd 0 (fd 0 + 1))))) (wr := (gW cI (fun i => a (1 + i)) wd ++ gG cI (fun i => a (31 + i)) gl)) G (rn_V (As := [.int (jI (-1000000001))]) (rest := []) (q0 := 0) G (c_X8_found_0 (ks := ks) (fd := fd) (a := a) ) gX8_taskOf_X8_found rfl hdX8_found ⟨rfl, rfl, Nat.le_of_ble_eq_true rfl, Nat.le_of_ble_eq_true rfl⟩ rfl rfl (Nat.le_of_ble_eq_true rfl) ⟨Nat.zero_le _, Nat.zero_le _⟩ rfl rfl dX8_taskOf_135) [0, 16] [1, 2, 3, 4, 5, 6, 7, 8, 9, 10, 11, 12, 13, 14, 15] [15, 0, 1, 2, 3, 4, 5, 6, 7, 8, 9, 10, 11, 12, 13, 14, 16] rfl rfl (by decide) (fun _ => rfl) (fun r_15 u_17 e_16 => ?_)
      have e_16 : r_15 = jI (-1000000001) := e_16
      subst e_16
      refine v_world (ws' := (gS  a ks ++ gW cI (fun i => a (1 + i)) wd ++ gG cI (fun i => a (31 + i)) gl ++ gF cI a (uI fd 0 (fd 0 + 1)))) rfl ?_
      exact v_iret G (uI fd 0 (fd 0 + 1), gl) (by first | exact Or.inl ⟨(by omega), (by first | rfl | exact congrArg jI (by omega) | exact congrArg jI (b2_t (by first | omega | assumption)).symm | exact congrArg jI (b2_f (by first | omega | assumption)).symm), rfl⟩ | exact Or.inr (Or.inl ⟨(by omega), (by first | rfl | exact congrArg jI (by omega) | exact congrArg jI (b2_t (by first | omega | assumption)).symm | exact congrArg jI (b2_f (by first | omega | assumption)).symm), rfl⟩) | exact Or.inr (Or.inr (Or.inl ⟨(by omega), (by first | rfl | exact congrArg jI (by omega) | exact congrArg jI (b2_t (by first | omega | assumption)).symm | exact congrArg jI (b2_f (by first | omega | assumption)).symm), rfl⟩)) | exact Or.inr (Or.inr (Or.inr (Or.inl ⟨(by omega), (by first | rfl | exact congrArg jI (by omega) | exact congrArg jI (b2_t (by first | omega | assumption)).symm | exact congrArg jI (b2_f (by first | omega | assumption)).symm), rfl⟩))) | exact Or.inr (Or.inr (Or.inr (Or.inr (Or.inl ⟨(by omega), (by first | rfl | exact congrArg jI (by omega) | exact congrArg jI (b2_t (by first | omega | assumption)).symm | exact congrArg jI (b2_f (by first | omega | assumption)).symm), rfl⟩)))) | exact Or.inr (Or.inr (Or.inr (Or.inr (Or.inr (⟨(by omega), (by first | rfl | exact congrArg jI (by omega) | exact congrArg jI (b2_t (by first | omega | assumption)).symm | exact congrArg jI (b2_f (by first | omega | assumption)).symm), rfl⟩)))))) rfl dX8_taskOf_138
  · skip
    refine v_aload_n (j := 0) (x := a 0) G dX8_taskOf_11 rfl rfl ?_
    refine v_ldc (z := (-1000000001)) G q_6 (by decide) dX8_taskOf_12 ?_
    refine v_ciP (w2 := (fun _ => (gS  a ks ++ gW cI (fun i => a (1 + i)) wd ++ gG cI (fun i => a (31 + i)) gl ++ gF cI a (uI fd 0 (fd 0 + 1))))) (wr := (gW cI (fun i => a (1 + i)) wd ++ gG cI (fun i => a (31 + i)) gl)) G (rn_V (As := [.int (jI (-1000000001))]) (rest := []) (q0 := 0) G (c_X8_found_0 (ks := ks) (fd := fd) (a := a) ) gX8_taskOf_X8_found rfl hdX8_found ⟨rfl, rfl, Nat.le_of_ble_eq_true rfl, Nat.le_of_ble_eq_true rfl⟩ rfl rfl (Nat.le_of_ble_eq_true rfl) ⟨Nat.zero_le _, Nat.zero_le _⟩ rfl rfl dX8_taskOf_14) [0, 16] [1, 2, 3, 4, 5, 6, 7, 8, 9, 10, 11, 12, 13, 14, 15] [15, 0, 1, 2, 3, 4, 5, 6, 7, 8, 9, 10, 11, 12, 13, 14, 16] rfl rfl (by decide) (fun _ => rfl) (fun r_18 u_20 e_19 => ?_)
    have e_19 : r_18 = jI (-1000000001) := e_19
    subst e_19
    refine v_world (ws' := (gS  a ks ++ gW cI (fun i => a (1 + i)) wd ++ gG cI (fun i => a (31 + i)) gl ++ gF cI a (uI fd 0 (fd 0 + 1)))) rfl ?_
    exact v_iret G (uI fd 0 (fd 0 + 1), gl) (by first | exact Or.inl ⟨(by omega), (by first | rfl | exact congrArg jI (by omega) | exact congrArg jI (b2_t (by first | omega | assumption)).symm | exact congrArg jI (b2_f (by first | omega | assumption)).symm), rfl⟩ | exact Or.inr (Or.inl ⟨(by omega), (by first | rfl | exact congrArg jI (by omega) | exact congrArg jI (b2_t (by first | omega | assumption)).symm | exact congrArg jI (b2_f (by first | omega | assumption)).symm), rfl⟩) | exact Or.inr (Or.inr (Or.inl ⟨(by omega), (by first | rfl | exact congrArg jI (by omega) | exact congrArg jI (b2_t (by first | omega | assumption)).symm | exact congrArg jI (b2_f (by first | omega | assumption)).symm), rfl⟩)) | exact Or.inr (Or.inr (Or.inr (Or.inl ⟨(by omega), (by first | rfl | exact congrArg jI (by omega) | exact congrArg jI (b2_t (by first | omega | assumption)).symm | exact congrArg jI (b2_f (by first | omega | assumption)).symm), rfl⟩))) | exact Or.inr (Or.inr (Or.inr (Or.inr (Or.inl ⟨(by omega), (by first | rfl | exact congrArg jI (by omega) | exact congrArg jI (b2_t (by first | omega | assumption)).symm | exact congrArg jI (b2_f (by first | omega | assumption)).symm), rfl⟩)))) | exact Or.inr (Or.inr (Or.inr (Or.inr (Or.inr (⟨(by omega), (by first | rfl | exact congrArg jI (by omega) | exact congrArg jI (b2_t (by first | omega | assumption)).symm | exact congrArg jI (b2_f (by first | omega | assumption)).symm), rfl⟩)))))) rfl dX8_taskOf_17

set_option maxHeartbeats 4000000 in
set_option maxRecDepth 100000 in
theorem c_X8_hours (n : Int) (hw : Wc wd) (hr : (-2147483648 ≤ n ∧ n ≤ 2147483647)) : Ci l yX8_hours wsX8_hours { frames := 6, cells := 0, slots := 0, locals := 133 } D (jT cI cL cB cS) [.ref (a 0), .int (jI n)] (gS  a ks ++ gW cI (fun i => a (1 + i)) wd ++ gG cI (fun i => a (31 + i)) gl ++ gI cI a li ++ gF cI a fd) (S := WT × (Int → Int) × GT × (Int → Int)) (fun u => (gS  a ks ++ gW cI (fun i => a (1 + i)) u.1 ++ gG cI (fun i => a (31 + i)) u.2.2.1 ++ gI cI a u.2.2.2 ++ gF cI a u.2.1)) (fun r u => ((¬ (1 ≤ n ∧ n ≤ 100)) ∧ r = jI (-1000000001) ∧ u.1 = wd ∧ u.2.1 = uI fd 0 (fd 0 + 1)) ∨ (((1 ≤ n ∧ n ≤ 100) ∧ 9999 < wd.1 + n) ∧ r = jI (-1000000005) ∧ u.1 = wd ∧ u.2.1 = uI fd 4 (fd 4 + 1)) ∨ (((1 ≤ n ∧ n ≤ 100) ∧ wd.1 + n ≤ 9999) ∧ r = jI (sumN (cLt (wd.1 + n, boF wd n, wd.2.2.1, wd.2.2.2.1, cpN (stF wd n) wd.2.2.2.2.1 wd.2.2.1.toNat, wd.2.2.2.2.2.1, wd.2.2.2.2.2.2.1, cpN (faF wd n) wd.2.2.2.2.2.2.2.1 wd.2.2.1.toNat, wd.2.2.2.2.2.2.2.2.1, wd.2.2.2.2.2.2.2.2.2.1, wd.2.2.2.2.2.2.2.2.2.2.1, wd.2.2.2.2.2.2.2.2.2.2.2) 0) 16) ∧ u.1 = (wd.1 + n, boF wd n, wd.2.2.1, wd.2.2.2.1, cpN (stF wd n) wd.2.2.2.2.1 wd.2.2.1.toNat, wd.2.2.2.2.2.1, wd.2.2.2.2.2.2.1, cpN (faF wd n) wd.2.2.2.2.2.2.2.1 wd.2.2.1.toNat, wd.2.2.2.2.2.2.2.2.1, wd.2.2.2.2.2.2.2.2.2.1, wd.2.2.2.2.2.2.2.2.2.2.1, wd.2.2.2.2.2.2.2.2.2.2.2) ∧ u.2.1 = fd)) := by
  refine Ci.mk (cc := cX8_hours) (maxL := 2) (rt := .int) (by decide) rfl (Nat.le_of_ble_eq_true rfl) rfl ?_
  intro p_ e_ s_ m_ b_ me_ c_ A_ G hnm
  have hm := hw.many
  have hmt := hw.tasks
  have hh := hw.hour
  have k_X8 : ∀ w ∈ u_ws RX8 TX8 12, w ∈ wsX8_hours := fun _ h => List.mem_cons_of_mem _ (List.mem_append_left _ (List.mem_append_left _ (List.mem_append_right _ h)))
  have q_1 : Cond.fieldLink RX8 10 "SupperLight" "world" "LSupperLight$World;" ∈ wsX8_hours := List.mem_of_getElem? (i := 2) rfl
  have k_X7 : ∀ w ∈ u_ws RX7 TX7 12, w ∈ wsX8_hours := fun _ h => List.mem_cons_of_mem _ (List.mem_append_left _ (List.mem_append_right _ h))
  have q_3 : Cond.fieldLink RX8 179 "SupperLight$World" "hour" "I" ∈ wsX8_hours := List.mem_of_getElem? (i := 3) rfl
  have q_4 : Cond.constant RX8 182 (-1000000005) ∈ wsX8_hours := List.mem_of_getElem? (i := 4) rfl
  have q_5 : Cond.constant RX8 83 (-1000000001) ∈ wsX8_hours := List.mem_of_getElem? (i := 1) rfl
  refine v_iload_n (j := 1) (x := jI n) G dX8_hours_0 rfl rfl ?_
  refine v_iconst G dX8_hours_1 ?_
  refine v_bipush G dX8_hours_2 (by decide) ?_
  refine v_ciN G (rn_S (As := [.int (jI n), .int (jI 1), .int (jI 100)]) (rest := []) G (c_X8_within (v := n) (lo := 1) (hi := 100) (hr := (by omega))) gX8_hours_X8_within rfl hdX8_within ⟨rfl, rfl, Nat.le_of_ble_eq_true rfl, Nat.le_of_ble_eq_true rfl⟩ rfl rfl (Nat.le_of_ble_eq_true rfl) ⟨Nat.zero_le _, Nat.zero_le _⟩ dX8_hours_4) (fun r_1 u_3 e_2 => ?_)
  have e_2 : r_1 = jI (b2 ((1 : Int) ≤ n ∧ n ≤ (100 : Int))) := e_2
  subst e_2
  refine v_ifb_ne (P := (1 : Int) ≤ n ∧ n ≤ (100 : Int)) (tgt := 17) G dX8_hours_7 (by decide) (fun c_4 => ?_) (fun c_4 => ?_)
  · skip
    refine v_aload_n (j := 0) (x := a 0) G dX8_hours_17 rfl rfl ?_
    refine v_get (q0 := 0) (k := 0) (v := .ref (a 1)) G k_X8 rfl rfl (by decide) q_1 rfl rfl dX8_hours_18 ?_
    refine v_get (q0 := 1) (k := 0) (v := .int (jI wd.1)) G k_X7 rfl rfl (by decide) q_3 rfl rfl dX8_hours_21 ?_
    refine v_iload_n (j := 1) (x := jI n) G dX8_hours_24 rfl rfl ?_
    refine v_iadd (z := wd.1 + n) G dX8_hours_25 rfl ?_
    refine v_sipush G dX8_hours_26 (by decide) ?_
    refine v_icmp_le (a := wd.1 + n) (b := 9999) (tgt := 39) G dX8_hours_29 (by decide) (by omega) (fun c_5 => ?_) (fun c_5 => ?_)
    · skip
      refine v_aload_n (j := 0) (x := a 0) G dX8_hours_39 rfl rfl ?_
      refine v_get (q0 := 0) (k := 0) (v := .ref (a 1)) G k_X8 rfl rfl (by decide) q_1 rfl rfl dX8_hours_40 ?_
      refine v_iload_n (j := 1) (x := jI n) G dX8_hours_43 rfl rfl ?_
      refine v_cvP (w2 := (fun _ => (gS  a ks ++ gW cI (fun i => a (1 + i)) (wd.1 + n, boF wd n, wd.2.2.1, wd.2.2.2.1, cpN (stF wd n) wd.2.2.2.2.1 wd.2.2.1.toNat, wd.2.2.2.2.2.1, wd.2.2.2.2.2.2.1, cpN (faF wd n) wd.2.2.2.2.2.2.2.1 wd.2.2.1.toNat, wd.2.2.2.2.2.2.2.2.1, wd.2.2.2.2.2.2.2.2.2.1, wd.2.2.2.2.2.2.2.2.2.2.1, wd.2.2.2.2.2.2.2.2.2.2.2) ++ gG cI (fun i => a (31 + i)) gl ++ gI cI a li ++ gF cI a fd))) (wr := (gS  a ks ++ gG cI (fun i => a (31 + i)) gl ++ gI cI a li ++ gF cI a fd)) G (rn_V (As := [.int (jI n)]) (rest := []) (q0 := 0) G (c_X7_passHours (n := n) (x := wd) (b := fun i => a (1 + i)) (hw := hw) (hn := (by omega))) gX8_hours_X7_passHours rfl hdX7_passHours ⟨rfl, rfl, Nat.le_of_ble_eq_true rfl, Nat.le_of_ble_eq_true rfl⟩ rfl rfl (Nat.le_of_ble_eq_true rfl) ⟨Nat.zero_le _, Nat.zero_le _⟩ rfl rfl dX8_hours_44) [1, 2, 3, 4, 5, 6, 7, 8, 9, 10] [0, 11, 12, 13, 14, 15, 16, 17] [0, 8, 9, 10, 11, 12, 13, 14, 15, 16, 17, 1, 2, 3, 4, 5, 6, 7] rfl rfl (by decide) (fun _ => rfl) (fun u_8 e_7 => ?_)
      refine v_world (ws' := (gS  a ks ++ gW cI (fun i => a (1 + i)) (wd.1 + n, boF wd n, wd.2.2.1, wd.2.2.2.1, cpN (stF wd n) wd.2.2.2.2.1 wd.2.2.1.toNat, wd.2.2.2.2.2.1, wd.2.2.2.2.2.2.1, cpN (faF wd n) wd.2.2.2.2.2.2.2.1 wd.2.2.1.toNat, wd.2.2.2.2.2.2.2.2.1, wd.2.2.2.2.2.2.2.2.2.1, wd.2.2.2.2.2.2.2.2.2.2.1, wd.2.2.2.2.2.2.2.2.2.2.2) ++ gG cI (fun i => a (31 + i)) gl ++ gI cI a li ++ gF cI a fd)) rfl ?_
      refine v_aload_n (j := 0) (x := a 0) G dX8_hours_47 rfl rfl ?_
      refine v_ciP (w2 := (fun _ => (gS  a ks ++ gW cI (fun i => a (1 + i)) ((wd.1 + n), (boF wd n), wd.2.2.1, wd.2.2.2.1, (cpN (stF wd n) wd.2.2.2.2.1 wd.2.2.1.toNat), wd.2.2.2.2.2.1, wd.2.2.2.2.2.2.1, (cpN (faF wd n) wd.2.2.2.2.2.2.2.1 wd.2.2.1.toNat), wd.2.2.2.2.2.2.2.2.1, wd.2.2.2.2.2.2.2.2.2.1, wd.2.2.2.2.2.2.2.2.2.2.1, wd.2.2.2.2.2.2.2.2.2.2.2) ++ gG cI (fun i => a (31 + i)) (glS (wd.1 + n, boF wd n, wd.2.2.1, wd.2.2.2.1, cpN (stF wd n) wd.2.2.2.2.1 wd.2.2.1.toNat, wd.2.2.2.2.2.1, wd.2.2.2.2.2.2.1, cpN (faF wd n) wd.2.2.2.2.2.2.2.1 wd.2.2.1.toNat, wd.2.2.2.2.2.2.2.2.1, wd.2.2.2.2.2.2.2.2.2.1, wd.2.2.2.2.2.2.2.2.2.2.1, wd.2.2.2.2.2.2.2.2.2.2.2) 0 gl) ++ gI cI a (cLt (wd.1 + n, boF wd n, wd.2.2.1, wd.2.2.2.1, cpN (stF wd n) wd.2.2.2.2.1 wd.2.2.1.toNat, wd.2.2.2.2.2.1, wd.2.2.2.2.2.2.1, cpN (faF wd n) wd.2.2.2.2.2.2.2.1 wd.2.2.1.toNat, wd.2.2.2.2.2.2.2.2.1, wd.2.2.2.2.2.2.2.2.2.1, wd.2.2.2.2.2.2.2.2.2.2.1, wd.2.2.2.2.2.2.2.2.2.2.2) 0) ++ gF cI a fd))) (wr := (gF cI a fd)) G (rn_V (As := []) (rest := []) (q0 := 0) G (c_X8_allLight (ks := ks) (wd := (wd.1 + n, boF wd n, wd.2.2.1, wd.2.2.2.1, cpN (stF wd n) wd.2.2.2.2.1 wd.2.2.1.toNat, wd.2.2.2.2.2.1, wd.2.2.2.2.2.2.1, cpN (faF wd n) wd.2.2.2.2.2.2.2.1 wd.2.2.1.toNat, wd.2.2.2.2.2.2.2.2.1, wd.2.2.2.2.2.2.2.2.2.1, wd.2.2.2.2.2.2.2.2.2.2.1, wd.2.2.2.2.2.2.2.2.2.2.2)) (gl := gl) (li := li) (a := a) (hw := (hw.hours (by omega) (by omega)))) gX8_hours_X8_allLight rfl hdX8_allLight ⟨rfl, rfl, Nat.le_of_ble_eq_true rfl, Nat.le_of_ble_eq_true rfl⟩ rfl rfl (Nat.le_of_ble_eq_true rfl) ⟨Nat.zero_le _, Nat.zero_le _⟩ rfl rfl dX8_hours_48) [0, 1, 2, 3, 4, 5, 6, 7, 8, 9, 10, 11, 12, 13, 14, 15, 16] [17] [1, 2, 3, 4, 5, 6, 7, 8, 9, 10, 11, 12, 13, 14, 15, 16, 17, 0] rfl rfl (by decide) (fun _ => rfl) (fun r_9 u_11 e_10 => ?_)
      have e_10 : r_9 = jI (sumN (cLt (wd.1 + n, boF wd n, wd.2.2.1, wd.2.2.2.1, cpN (stF wd n) wd.2.2.2.2.1 wd.2.2.1.toNat, wd.2.2.2.2.2.1, wd.2.2.2.2.2.2.1, cpN (faF wd n) wd.2.2.2.2.2.2.2.1 wd.2.2.1.toNat, wd.2.2.2.2.2.2.2.2.1, wd.2.2.2.2.2.2.2.2.2.1, wd.2.2.2.2.2.2.2.2.2.2.1, wd.2.2.2.2.2.2.2.2.2.2.2) 0) 16) := e_10
      subst e_10
      refine v_world (ws' := (gS  a ks ++ gW cI (fun i => a (1 + i)) ((wd.1 + n), (boF wd n), wd.2.2.1, wd.2.2.2.1, (cpN (stF wd n) wd.2.2.2.2.1 wd.2.2.1.toNat), wd.2.2.2.2.2.1, wd.2.2.2.2.2.2.1, (cpN (faF wd n) wd.2.2.2.2.2.2.2.1 wd.2.2.1.toNat), wd.2.2.2.2.2.2.2.2.1, wd.2.2.2.2.2.2.2.2.2.1, wd.2.2.2.2.2.2.2.2.2.2.1, wd.2.2.2.2.2.2.2.2.2.2.2) ++ gG cI (fun i => a (31 + i)) (glS (wd.1 + n, boF wd n, wd.2.2.1, wd.2.2.2.1, cpN (stF wd n) wd.2.2.2.2.1 wd.2.2.1.toNat, wd.2.2.2.2.2.1, wd.2.2.2.2.2.2.1, cpN (faF wd n) wd.2.2.2.2.2.2.2.1 wd.2.2.1.toNat, wd.2.2.2.2.2.2.2.2.1, wd.2.2.2.2.2.2.2.2.2.1, wd.2.2.2.2.2.2.2.2.2.2.1, wd.2.2.2.2.2.2.2.2.2.2.2) 0 gl) ++ gI cI a (cLt (wd.1 + n, boF wd n, wd.2.2.1, wd.2.2.2.1, cpN (stF wd n) wd.2.2.2.2.1 wd.2.2.1.toNat, wd.2.2.2.2.2.1, wd.2.2.2.2.2.2.1, cpN (faF wd n) wd.2.2.2.2.2.2.2.1 wd.2.2.1.toNat, wd.2.2.2.2.2.2.2.2.1, wd.2.2.2.2.2.2.2.2.2.1, wd.2.2.2.2.2.2.2.2.2.2.1, wd.2.2.2.2.2.2.2.2.2.2.2) 0) ++ gF cI a fd)) rfl ?_
      exact v_iret G (((wd.1 + n), (boF wd n), wd.2.2.1, wd.2.2.2.1, (cpN (stF wd n) wd.2.2.2.2.1 wd.2.2.1.toNat), wd.2.2.2.2.2.1, wd.2.2.2.2.2.2.1, (cpN (faF wd n) wd.2.2.2.2.2.2.2.1 wd.2.2.1.toNat), wd.2.2.2.2.2.2.2.2.1, wd.2.2.2.2.2.2.2.2.2.1, wd.2.2.2.2.2.2.2.2.2.2.1, wd.2.2.2.2.2.2.2.2.2.2.2), fd, (glS (wd.1 + n, boF wd n, wd.2.2.1, wd.2.2.2.1, cpN (stF wd n) wd.2.2.2.2.1 wd.2.2.1.toNat, wd.2.2.2.2.2.1, wd.2.2.2.2.2.2.1, cpN (faF wd n) wd.2.2.2.2.2.2.2.1 wd.2.2.1.toNat, wd.2.2.2.2.2.2.2.2.1, wd.2.2.2.2.2.2.2.2.2.1, wd.2.2.2.2.2.2.2.2.2.2.1, wd.2.2.2.2.2.2.2.2.2.2.2) 0 gl), cLt (wd.1 + n, boF wd n, wd.2.2.1, wd.2.2.2.1, cpN (stF wd n) wd.2.2.2.2.1 wd.2.2.1.toNat, wd.2.2.2.2.2.1, wd.2.2.2.2.2.2.1, cpN (faF wd n) wd.2.2.2.2.2.2.2.1 wd.2.2.1.toNat, wd.2.2.2.2.2.2.2.2.1, wd.2.2.2.2.2.2.2.2.2.1, wd.2.2.2.2.2.2.2.2.2.2.1, wd.2.2.2.2.2.2.2.2.2.2.2) 0) (by first | exact Or.inl ⟨(by omega), (by first | rfl | exact congrArg jI (by omega)), rfl, rfl⟩ | exact Or.inr (Or.inl ⟨(by omega), (by first | rfl | exact congrArg jI (by omega)), rfl, rfl⟩) | exact Or.inr (Or.inr (⟨(by omega), (by first | rfl | exact congrArg jI (by omega)), rfl, rfl⟩))) rfl dX8_hours_51
    · skip
      refine v_aload_n (j := 0) (x := a 0) G dX8_hours_32 rfl rfl ?_
      refine v_ldc (z := (-1000000005)) G q_4 (by decide) dX8_hours_33 ?_
      refine v_ciP (w2 := (fun _ => (gS  a ks ++ gW cI (fun i => a (1 + i)) wd ++ gG cI (fun i => a (31 + i)) gl ++ gI cI a li ++ gF cI a (uI fd 4 (fd 4 + 1))))) (wr := (gW cI (fun i => a (1 + i)) wd ++ gG cI (fun i => a (31 + i)) gl ++ gI cI a li)) G (rn_V (As := [.int (jI (-1000000005))]) (rest := []) (q0 := 0) G (c_X8_found_4 (ks := ks) (fd := fd) (a := a) ) gX8_hours_X8_found rfl hdX8_found ⟨rfl, rfl, Nat.le_of_ble_eq_true rfl, Nat.le_of_ble_eq_true rfl⟩ rfl rfl (Nat.le_of_ble_eq_true rfl) ⟨Nat.zero_le _, Nat.zero_le _⟩ rfl rfl dX8_hours_35) [0, 17] [1, 2, 3, 4, 5, 6, 7, 8, 9, 10, 11, 12, 13, 14, 15, 16] [16, 0, 1, 2, 3, 4, 5, 6, 7, 8, 9, 10, 11, 12, 13, 14, 15, 17] rfl rfl (by decide) (fun _ => rfl) (fun r_12 u_14 e_13 => ?_)
      have e_13 : r_12 = jI (-1000000005) := e_13
      subst e_13
      refine v_world (ws' := (gS  a ks ++ gW cI (fun i => a (1 + i)) wd ++ gG cI (fun i => a (31 + i)) gl ++ gI cI a li ++ gF cI a (uI fd 4 (fd 4 + 1)))) rfl ?_
      exact v_iret G (wd, uI fd 4 (fd 4 + 1), gl, li) (by first | exact Or.inl ⟨(by omega), (by first | rfl | exact congrArg jI (by omega)), rfl, rfl⟩ | exact Or.inr (Or.inl ⟨(by omega), (by first | rfl | exact congrArg jI (by omega)), rfl, rfl⟩) | exact Or.inr (Or.inr (⟨(by omega), (by first | rfl | exact congrArg jI (by omega)), rfl, rfl⟩))) rfl dX8_hours_38
  · skip
    refine v_aload_n (j := 0) (x := a 0) G dX8_hours_10 rfl rfl ?_
    refine v_ldc (z := (-1000000001)) G q_5 (by decide) dX8_hours_11 ?_
    refine v_ciP (w2 := (fun _ => (gS  a ks ++ gW cI (fun i => a (1 + i)) wd ++ gG cI (fun i => a (31 + i)) gl ++ gI cI a li ++ gF cI a (uI fd 0 (fd 0 + 1))))) (wr := (gW cI (fun i => a (1 + i)) wd ++ gG cI (fun i => a (31 + i)) gl ++ gI cI a li)) G (rn_V (As := [.int (jI (-1000000001))]) (rest := []) (q0 := 0) G (c_X8_found_0 (ks := ks) (fd := fd) (a := a) ) gX8_hours_X8_found rfl hdX8_found ⟨rfl, rfl, Nat.le_of_ble_eq_true rfl, Nat.le_of_ble_eq_true rfl⟩ rfl rfl (Nat.le_of_ble_eq_true rfl) ⟨Nat.zero_le _, Nat.zero_le _⟩ rfl rfl dX8_hours_13) [0, 17] [1, 2, 3, 4, 5, 6, 7, 8, 9, 10, 11, 12, 13, 14, 15, 16] [16, 0, 1, 2, 3, 4, 5, 6, 7, 8, 9, 10, 11, 12, 13, 14, 15, 17] rfl rfl (by decide) (fun _ => rfl) (fun r_15 u_17 e_16 => ?_)
    have e_16 : r_15 = jI (-1000000001) := e_16
    subst e_16
    refine v_world (ws' := (gS  a ks ++ gW cI (fun i => a (1 + i)) wd ++ gG cI (fun i => a (31 + i)) gl ++ gI cI a li ++ gF cI a (uI fd 0 (fd 0 + 1)))) rfl ?_
    exact v_iret G (wd, uI fd 0 (fd 0 + 1), gl, li) (by first | exact Or.inl ⟨(by omega), (by first | rfl | exact congrArg jI (by omega)), rfl, rfl⟩ | exact Or.inr (Or.inl ⟨(by omega), (by first | rfl | exact congrArg jI (by omega)), rfl, rfl⟩) | exact Or.inr (Or.inr (⟨(by omega), (by first | rfl | exact congrArg jI (by omega)), rfl, rfl⟩))) rfl dX8_hours_16

set_option maxHeartbeats 4000000 in
set_option maxRecDepth 100000 in
theorem c_X8_now (t : Int) (hw : Wc wd) (hr : (-2147483648 ≤ t ∧ t ≤ 2147483647)) : Ci l yX8_now wsX8_now { frames := 6, cells := 0, slots := 0, locals := 137 } D (jT cI cL cB cS) [.ref (a 0), .int (jI t)] (gS  a ks ++ gW cI (fun i => a (1 + i)) wd ++ gG cI (fun i => a (31 + i)) gl ++ gI cI a li ++ gF cI a fd) (S := (Int → Int) × GT × (Int → Int)) (fun u => (gS  a ks ++ gW cI (fun i => a (1 + i)) wd ++ gG cI (fun i => a (31 + i)) u.2.1 ++ gI cI a u.2.2 ++ gF cI a u.1)) (fun r u => ((t = 0) ∧ r = jI wd.1 ∧ u.1 = fd) ∨ ((t = 1) ∧ r = jI (sumN (shF wd 0) wd.2.2.1.toNat) ∧ u.1 = fd) ∨ ((t = 2) ∧ r = jI (sumN wd.2.1 16) ∧ u.1 = fd) ∨ ((t = 3) ∧ r = jI (sumN (cLt wd 0) 16) ∧ u.1 = fd) ∨ ((t = 4) ∧ r = stN (fun x_ => wd.2.2.2.2.1 x_ = wd.2.2.2.2.2.1 x_) wd.2.2.1.toNat ∧ u.1 = fd) ∨ ((t = 5) ∧ r = stN (cDn wd) wd.2.2.2.2.2.2.2.2.1.toNat ∧ u.1 = fd) ∨ ((t < 0 ∨ 5 < t) ∧ r = jI (-1000000001) ∧ u.1 = uI fd 0 (fd 0 + 1))) := by
  refine Ci.mk (cc := cX8_now) (maxL := 2) (rt := .int) (by decide) rfl (Nat.le_of_ble_eq_true rfl) rfl ?_
  intro p_ e_ s_ m_ b_ me_ c_ A_ G hnm
  have hm := hw.many
  have hmt := hw.tasks
  have hh := hw.hour
  have k_X8 : ∀ w ∈ u_ws RX8 TX8 12, w ∈ wsX8_now := fun _ h => List.mem_cons_of_mem _ (List.mem_append_left _ (List.mem_append_left _ (List.mem_append_right _ h)))
  have q_1 : Cond.fieldLink RX8 10 "SupperLight" "world" "LSupperLight$World;" ∈ wsX8_now := List.mem_of_getElem? (i := 1) rfl
  have k_X7 : ∀ w ∈ u_ws RX7 TX7 12, w ∈ wsX8_now := fun _ h => List.mem_cons_of_mem _ (List.mem_append_left _ (List.mem_append_right _ h))
  have q_3 : Cond.fieldLink RX8 179 "SupperLight$World" "hour" "I" ∈ wsX8_now := List.mem_of_getElem? (i := 2) rfl
  have q_4 : Cond.fieldLink RX8 88 "SupperLight$World" "bowls" "[I" ∈ wsX8_now := List.mem_of_getElem? (i := 3) rfl
  have q_5 : Cond.constant RX8 83 (-1000000001) ∈ wsX8_now := List.mem_of_getElem? (i := 4) rfl
  refine v_iload_n (j := 1) (x := jI t) G dX8_now_0 rfl rfl ?_
  rcases (show t = 0 ∨ t = 1 ∨ t = 2 ∨ t = 3 ∨ t = 4 ∨ t = 5 ∨ (t < 0 ∨ 5 < t) by omega) with c_1 | c_1 | c_1 | c_1 | c_1 | c_1 | c_1
  · skip
    refine v_tabIn (z := t) (v := 0) (tgt := 40) G c_1 (by decide) rfl (by decide) dX8_now_1 ?_
    refine v_aload_n (j := 0) (x := a 0) G dX8_now_40 rfl rfl ?_
    refine v_get (q0 := 0) (k := 0) (v := .ref (a 1)) G k_X8 rfl rfl (by decide) q_1 rfl rfl dX8_now_41 ?_
    refine v_get (q0 := 1) (k := 0) (v := .int (jI wd.1)) G k_X7 rfl rfl (by decide) q_3 rfl rfl dX8_now_44 ?_
    exact v_iret G (fd, gl, li) (by first | exact Or.inl ⟨(by omega), (by first | rfl | exact congrArg jI (by omega)), rfl⟩ | exact Or.inr (Or.inl ⟨(by omega), (by first | rfl | exact congrArg jI (by omega)), rfl⟩) | exact Or.inr (Or.inr (Or.inl ⟨(by omega), (by first | rfl | exact congrArg jI (by omega)), rfl⟩)) | exact Or.inr (Or.inr (Or.inr (Or.inl ⟨(by omega), (by first | rfl | exact congrArg jI (by omega)), rfl⟩))) | exact Or.inr (Or.inr (Or.inr (Or.inr (Or.inl ⟨(by omega), (by first | rfl | exact congrArg jI (by omega)), rfl⟩)))) | exact Or.inr (Or.inr (Or.inr (Or.inr (Or.inr (Or.inl ⟨(by omega), (by first | rfl | exact congrArg jI (by omega)), rfl⟩))))) | exact Or.inr (Or.inr (Or.inr (Or.inr (Or.inr (Or.inr (⟨(by omega), (by first | rfl | exact congrArg jI (by omega)), rfl⟩))))))) rfl dX8_now_47
  · skip
    refine v_tabIn (z := t) (v := 1) (tgt := 48) G c_1 (by decide) rfl (by decide) dX8_now_1 ?_
    refine v_aload_n (j := 0) (x := a 0) G dX8_now_48 rfl rfl ?_
    refine v_ciP (w2 := (fun _ => (gS  a ks ++ gW cI (fun i => a (1 + i)) wd ++ gG cI (fun i => a (31 + i)) (glS wd 0 gl) ++ gI cI a li ++ gF cI a fd))) (wr := (gI cI a li ++ gF cI a fd)) G (rn_V (As := []) (rest := []) (q0 := 0) G (c_X8_allShine (ks := ks) (wd := wd) (gl := gl) (a := a) (hw := hw)) gX8_now_X8_allShine rfl hdX8_allShine ⟨rfl, rfl, Nat.le_of_ble_eq_true rfl, Nat.le_of_ble_eq_true rfl⟩ rfl rfl (Nat.le_of_ble_eq_true rfl) ⟨Nat.zero_le _, Nat.zero_le _⟩ rfl rfl dX8_now_49) [0, 1, 2, 3, 4, 5, 6, 7, 8, 9, 10, 11, 12, 13, 14, 15] [16, 17] [2, 3, 4, 5, 6, 7, 8, 9, 10, 11, 12, 13, 14, 15, 16, 17, 0, 1] rfl rfl (by decide) (fun _ => rfl) (fun r_2 u_4 e_3 => ?_)
    have e_3 : r_2 = jI (sumN (shF wd 0) wd.2.2.1.toNat) := e_3
    subst e_3
    refine v_world (ws' := (gS  a ks ++ gW cI (fun i => a (1 + i)) wd ++ gG cI (fun i => a (31 + i)) (glS wd 0 gl) ++ gI cI a li ++ gF cI a fd)) rfl ?_
    exact v_iret G (fd, (glS wd 0 gl), li) (by first | exact Or.inl ⟨(by omega), (by first | rfl | exact congrArg jI (by omega)), rfl⟩ | exact Or.inr (Or.inl ⟨(by omega), (by first | rfl | exact congrArg jI (by omega)), rfl⟩) | exact Or.inr (Or.inr (Or.inl ⟨(by omega), (by first | rfl | exact congrArg jI (by omega)), rfl⟩)) | exact Or.inr (Or.inr (Or.inr (Or.inl ⟨(by omega), (by first | rfl | exact congrArg jI (by omega)), rfl⟩))) | exact Or.inr (Or.inr (Or.inr (Or.inr (Or.inl ⟨(by omega), (by first | rfl | exact congrArg jI (by omega)), rfl⟩)))) | exact Or.inr (Or.inr (Or.inr (Or.inr (Or.inr (Or.inl ⟨(by omega), (by first | rfl | exact congrArg jI (by omega)), rfl⟩))))) | exact Or.inr (Or.inr (Or.inr (Or.inr (Or.inr (Or.inr (⟨(by omega), (by first | rfl | exact congrArg jI (by omega)), rfl⟩))))))) rfl dX8_now_52
  · skip
    refine v_tabIn (z := t) (v := 2) (tgt := 53) G c_1 (by decide) rfl (by decide) dX8_now_1 ?_
    refine v_aload_n (j := 0) (x := a 0) G dX8_now_53 rfl rfl ?_
    refine v_get (q0 := 0) (k := 0) (v := .ref (a 1)) G k_X8 rfl rfl (by decide) q_1 rfl rfl dX8_now_54 ?_
    refine v_get (q0 := 1) (k := 1) (v := .ref (a 2)) G k_X7 rfl rfl (by decide) q_4 rfl rfl dX8_now_57 ?_
    refine v_bipush G dX8_now_60 (by decide) ?_
    refine v_ciA (q0 := 2) G rfl (rn_S (As := [.ref (a 2), .int (jI 16)]) (rest := []) G (c_X8_sumOf (n := 16) (y := a 2) (f := wd.2.1) (N := 16) (hn := (by omega))) gX8_now_X8_sumOf rfl hdX8_sumOf ⟨rfl, rfl, Nat.le_of_ble_eq_true rfl, Nat.le_of_ble_eq_true rfl⟩ rfl rfl (Nat.le_of_ble_eq_true rfl) ⟨Nat.zero_le _, Nat.zero_le _⟩ dX8_now_62) (fun r_5 u_7 e_6 => ?_)
    have e_6 : r_5 = jI (sumN wd.2.1 16) := e_6
    subst e_6
    exact v_iret G (fd, gl, li) (by first | exact Or.inl ⟨(by omega), (by first | rfl | exact congrArg jI (by omega)), rfl⟩ | exact Or.inr (Or.inl ⟨(by omega), (by first | rfl | exact congrArg jI (by omega)), rfl⟩) | exact Or.inr (Or.inr (Or.inl ⟨(by omega), (by first | rfl | exact congrArg jI (by omega)), rfl⟩)) | exact Or.inr (Or.inr (Or.inr (Or.inl ⟨(by omega), (by first | rfl | exact congrArg jI (by omega)), rfl⟩))) | exact Or.inr (Or.inr (Or.inr (Or.inr (Or.inl ⟨(by omega), (by first | rfl | exact congrArg jI (by omega)), rfl⟩)))) | exact Or.inr (Or.inr (Or.inr (Or.inr (Or.inr (Or.inl ⟨(by omega), (by first | rfl | exact congrArg jI (by omega)), rfl⟩))))) | exact Or.inr (Or.inr (Or.inr (Or.inr (Or.inr (Or.inr (⟨(by omega), (by first | rfl | exact congrArg jI (by omega)), rfl⟩))))))) rfl dX8_now_65
  · skip
    refine v_tabIn (z := t) (v := 3) (tgt := 66) G c_1 (by decide) rfl (by decide) dX8_now_1 ?_
    refine v_aload_n (j := 0) (x := a 0) G dX8_now_66 rfl rfl ?_
    refine v_ciP (w2 := (fun _ => (gS  a ks ++ gW cI (fun i => a (1 + i)) wd ++ gG cI (fun i => a (31 + i)) (glS wd 0 gl) ++ gI cI a (cLt wd 0) ++ gF cI a fd))) (wr := (gF cI a fd)) G (rn_V (As := []) (rest := []) (q0 := 0) G (c_X8_allLight (ks := ks) (wd := wd) (gl := gl) (li := li) (a := a) (hw := hw)) gX8_now_X8_allLight rfl hdX8_allLight ⟨rfl, rfl, Nat.le_of_ble_eq_true rfl, Nat.le_of_ble_eq_true rfl⟩ rfl rfl (Nat.le_of_ble_eq_true rfl) ⟨Nat.zero_le _, Nat.zero_le _⟩ rfl rfl dX8_now_67) [0, 1, 2, 3, 4, 5, 6, 7, 8, 9, 10, 11, 12, 13, 14, 15, 16] [17] [1, 2, 3, 4, 5, 6, 7, 8, 9, 10, 11, 12, 13, 14, 15, 16, 17, 0] rfl rfl (by decide) (fun _ => rfl) (fun r_8 u_10 e_9 => ?_)
    have e_9 : r_8 = jI (sumN (cLt wd 0) 16) := e_9
    subst e_9
    refine v_world (ws' := (gS  a ks ++ gW cI (fun i => a (1 + i)) wd ++ gG cI (fun i => a (31 + i)) (glS wd 0 gl) ++ gI cI a (cLt wd 0) ++ gF cI a fd)) rfl ?_
    exact v_iret G (fd, (glS wd 0 gl), cLt wd 0) (by first | exact Or.inl ⟨(by omega), (by first | rfl | exact congrArg jI (by omega)), rfl⟩ | exact Or.inr (Or.inl ⟨(by omega), (by first | rfl | exact congrArg jI (by omega)), rfl⟩) | exact Or.inr (Or.inr (Or.inl ⟨(by omega), (by first | rfl | exact congrArg jI (by omega)), rfl⟩)) | exact Or.inr (Or.inr (Or.inr (Or.inl ⟨(by omega), (by first | rfl | exact congrArg jI (by omega)), rfl⟩))) | exact Or.inr (Or.inr (Or.inr (Or.inr (Or.inl ⟨(by omega), (by first | rfl | exact congrArg jI (by omega)), rfl⟩)))) | exact Or.inr (Or.inr (Or.inr (Or.inr (Or.inr (Or.inl ⟨(by omega), (by first | rfl | exact congrArg jI (by omega)), rfl⟩))))) | exact Or.inr (Or.inr (Or.inr (Or.inr (Or.inr (Or.inr (⟨(by omega), (by first | rfl | exact congrArg jI (by omega)), rfl⟩))))))) rfl dX8_now_70
  · skip
    refine v_tabIn (z := t) (v := 4) (tgt := 71) G c_1 (by decide) rfl (by decide) dX8_now_1 ?_
    refine v_aload_n (j := 0) (x := a 0) G dX8_now_71 rfl rfl ?_
    refine v_get (q0 := 0) (k := 0) (v := .ref (a 1)) G k_X8 rfl rfl (by decide) q_1 rfl rfl dX8_now_72 ?_
    refine v_ciP (w2 := (fun _ => (gS  a ks ++ gW cI (fun i => a (1 + i)) wd ++ gG cI (fun i => a (31 + i)) gl ++ gI cI a li ++ gF cI a fd))) (wr := (gS  a ks ++ gG cI (fun i => a (31 + i)) gl ++ gI cI a li ++ gF cI a fd)) G (rn_V (As := []) (rest := []) (q0 := 0) G (c_X7_arrivedSet (x := wd) (b := fun i => a (1 + i)) (hw := hw)) gX8_now_X7_arrivedSet rfl hdX7_arrivedSet ⟨rfl, rfl, Nat.le_of_ble_eq_true rfl, Nat.le_of_ble_eq_true rfl⟩ rfl rfl (Nat.le_of_ble_eq_true rfl) ⟨Nat.zero_le _, Nat.zero_le _⟩ rfl rfl dX8_now_75) [1, 2, 3, 4, 5, 6, 7, 8, 9, 10] [0, 11, 12, 13, 14, 15, 16, 17] [0, 8, 9, 10, 11, 12, 13, 14, 15, 16, 17, 1, 2, 3, 4, 5, 6, 7] rfl rfl (by decide) (fun _ => rfl) (fun r_11 u_13 e_12 => ?_)
    have e_12 : r_11 = stN (fun x_ => wd.2.2.2.2.1 x_ = wd.2.2.2.2.2.1 x_) wd.2.2.1.toNat := e_12
    subst e_12
    refine v_world (ws' := (gS  a ks ++ gW cI (fun i => a (1 + i)) wd ++ gG cI (fun i => a (31 + i)) gl ++ gI cI a li ++ gF cI a fd)) rfl ?_
    exact v_iret G (fd, gl, li) (by first | exact Or.inl ⟨(by omega), (by first | rfl | exact congrArg jI (by omega)), rfl⟩ | exact Or.inr (Or.inl ⟨(by omega), (by first | rfl | exact congrArg jI (by omega)), rfl⟩) | exact Or.inr (Or.inr (Or.inl ⟨(by omega), (by first | rfl | exact congrArg jI (by omega)), rfl⟩)) | exact Or.inr (Or.inr (Or.inr (Or.inl ⟨(by omega), (by first | rfl | exact congrArg jI (by omega)), rfl⟩))) | exact Or.inr (Or.inr (Or.inr (Or.inr (Or.inl ⟨(by omega), (by first | rfl | exact congrArg jI (by omega)), rfl⟩)))) | exact Or.inr (Or.inr (Or.inr (Or.inr (Or.inr (Or.inl ⟨(by omega), (by first | rfl | exact congrArg jI (by omega)), rfl⟩))))) | exact Or.inr (Or.inr (Or.inr (Or.inr (Or.inr (Or.inr (⟨(by omega), (by first | rfl | exact congrArg jI (by omega)), rfl⟩))))))) rfl dX8_now_78
  · skip
    refine v_tabIn (z := t) (v := 5) (tgt := 79) G c_1 (by decide) rfl (by decide) dX8_now_1 ?_
    refine v_aload_n (j := 0) (x := a 0) G dX8_now_79 rfl rfl ?_
    refine v_aload_n (j := 0) (x := a 0) G dX8_now_80 rfl rfl ?_
    refine v_get (q0 := 0) (k := 0) (v := .ref (a 1)) G k_X8 rfl rfl (by decide) q_1 rfl rfl dX8_now_81 ?_
    refine v_ciP (w2 := (fun gl2 => (gS  a ks ++ gW cI (fun i => a (1 + i)) wd ++ gG cI (fun i => a (31 + i)) gl2 ++ gI cI a li ++ gF cI a fd))) (wr := (gI cI a li ++ gF cI a fd)) G (rn_V (As := [.ref (a 1)]) (rest := []) (q0 := 0) G (c_X8_doneSet (ks := ks) (x := wd) (gl := gl) (a := a) (b := fun i => a (1 + i)) (hw := hw)) gX8_now_X8_doneSet rfl hdX8_doneSet ⟨rfl, rfl, Nat.le_of_ble_eq_true rfl, Nat.le_of_ble_eq_true rfl⟩ rfl rfl (Nat.le_of_ble_eq_true rfl) ⟨Nat.zero_le _, Nat.zero_le _⟩ rfl rfl dX8_now_84) [0, 1, 2, 3, 4, 5, 6, 7, 8, 9, 10, 11, 12, 13, 14, 15] [16, 17] [2, 3, 4, 5, 6, 7, 8, 9, 10, 11, 12, 13, 14, 15, 16, 17, 0, 1] rfl rfl (by decide) (fun _ => rfl) (fun r_15 u_17 e_16 => ?_)
    obtain ⟨gl2_14, rfl⟩ : ∃ z, z = u_17 := ⟨_, rfl⟩
    have e_16 : r_15 = stN (cDn wd) wd.2.2.2.2.2.2.2.2.1.toNat ∧ True := e_16
    obtain ⟨e_160, e_16⟩ := e_16
    subst e_160
    refine v_world (ws' := (gS  a ks ++ gW cI (fun i => a (1 + i)) wd ++ gG cI (fun i => a (31 + i)) gl2_14 ++ gI cI a li ++ gF cI a fd)) rfl ?_
    exact v_iret G (fd, gl2_14, li) (by first | exact Or.inl ⟨(by omega), (by first | rfl | exact congrArg jI (by omega)), rfl⟩ | exact Or.inr (Or.inl ⟨(by omega), (by first | rfl | exact congrArg jI (by omega)), rfl⟩) | exact Or.inr (Or.inr (Or.inl ⟨(by omega), (by first | rfl | exact congrArg jI (by omega)), rfl⟩)) | exact Or.inr (Or.inr (Or.inr (Or.inl ⟨(by omega), (by first | rfl | exact congrArg jI (by omega)), rfl⟩))) | exact Or.inr (Or.inr (Or.inr (Or.inr (Or.inl ⟨(by omega), (by first | rfl | exact congrArg jI (by omega)), rfl⟩)))) | exact Or.inr (Or.inr (Or.inr (Or.inr (Or.inr (Or.inl ⟨(by omega), (by first | rfl | exact congrArg jI (by omega)), rfl⟩))))) | exact Or.inr (Or.inr (Or.inr (Or.inr (Or.inr (Or.inr (⟨(by omega), (by first | rfl | exact congrArg jI (by omega)), rfl⟩))))))) rfl dX8_now_87
  · skip
    refine v_tabOut (z := t) (tgt := 88) G c_1 (by omega) (by decide) dX8_now_1 ?_
    refine v_aload_n (j := 0) (x := a 0) G dX8_now_88 rfl rfl ?_
    refine v_ldc (z := (-1000000001)) G q_5 (by decide) dX8_now_89 ?_
    refine v_ciP (w2 := (fun _ => (gS  a ks ++ gW cI (fun i => a (1 + i)) wd ++ gG cI (fun i => a (31 + i)) gl ++ gI cI a li ++ gF cI a (uI fd 0 (fd 0 + 1))))) (wr := (gW cI (fun i => a (1 + i)) wd ++ gG cI (fun i => a (31 + i)) gl ++ gI cI a li)) G (rn_V (As := [.int (jI (-1000000001))]) (rest := []) (q0 := 0) G (c_X8_found_0 (ks := ks) (fd := fd) (a := a) ) gX8_now_X8_found rfl hdX8_found ⟨rfl, rfl, Nat.le_of_ble_eq_true rfl, Nat.le_of_ble_eq_true rfl⟩ rfl rfl (Nat.le_of_ble_eq_true rfl) ⟨Nat.zero_le _, Nat.zero_le _⟩ rfl rfl dX8_now_91) [0, 17] [1, 2, 3, 4, 5, 6, 7, 8, 9, 10, 11, 12, 13, 14, 15, 16] [16, 0, 1, 2, 3, 4, 5, 6, 7, 8, 9, 10, 11, 12, 13, 14, 15, 17] rfl rfl (by decide) (fun _ => rfl) (fun r_18 u_20 e_19 => ?_)
    have e_19 : r_18 = jI (-1000000001) := e_19
    subst e_19
    refine v_world (ws' := (gS  a ks ++ gW cI (fun i => a (1 + i)) wd ++ gG cI (fun i => a (31 + i)) gl ++ gI cI a li ++ gF cI a (uI fd 0 (fd 0 + 1)))) rfl ?_
    exact v_iret G (uI fd 0 (fd 0 + 1), gl, li) (by first | exact Or.inl ⟨(by omega), (by first | rfl | exact congrArg jI (by omega)), rfl⟩ | exact Or.inr (Or.inl ⟨(by omega), (by first | rfl | exact congrArg jI (by omega)), rfl⟩) | exact Or.inr (Or.inr (Or.inl ⟨(by omega), (by first | rfl | exact congrArg jI (by omega)), rfl⟩)) | exact Or.inr (Or.inr (Or.inr (Or.inl ⟨(by omega), (by first | rfl | exact congrArg jI (by omega)), rfl⟩))) | exact Or.inr (Or.inr (Or.inr (Or.inr (Or.inl ⟨(by omega), (by first | rfl | exact congrArg jI (by omega)), rfl⟩)))) | exact Or.inr (Or.inr (Or.inr (Or.inr (Or.inr (Or.inl ⟨(by omega), (by first | rfl | exact congrArg jI (by omega)), rfl⟩))))) | exact Or.inr (Or.inr (Or.inr (Or.inr (Or.inr (Or.inr (⟨(by omega), (by first | rfl | exact congrArg jI (by omega)), rfl⟩))))))) rfl dX8_now_94

set_option maxHeartbeats 4000000 in
set_option maxRecDepth 100000 in
theorem c_X8_on (p n : Int) (hw : Wc wd) (hr : (-2147483648 ≤ p ∧ p ≤ 2147483647) ∧ (-2147483648 ≤ n ∧ n ≤ 2147483647)) : Ci l yX8_on wsX8_on { frames := 5, cells := 0, slots := 0, locals := 114 } D (jT cI cL cB cS) [.ref (a 0), .int (jI p), .int (jI n)] (gS  a ks ++ gW cI (fun i => a (1 + i)) wd ++ gG cI (fun i => a (31 + i)) gl ++ gF cI a fd) (S := (Int → Int) × GT) (fun u => (gS  a ks ++ gW cI (fun i => a (1 + i)) wd ++ gG cI (fun i => a (31 + i)) u.2 ++ gF cI a u.1)) (fun r u => ((¬ ((0 ≤ p ∧ p ≤ 15) ∧ 0 ≤ n ∧ n ≤ 100)) ∧ r = jI (-1000000001) ∧ u.1 = uI fd 0 (fd 0 + 1)) ∨ ((((0 ≤ p ∧ p ≤ 15) ∧ 0 ≤ n ∧ n ≤ 100)) ∧ r = jI (cLt wd n p) ∧ u.1 = fd)) := by
  refine Ci.mk (cc := cX8_on) (maxL := 3) (rt := .int) (by decide) rfl (Nat.le_of_ble_eq_true rfl) rfl ?_
  intro p_ e_ s_ m_ b_ me_ c_ A_ G hnm
  have q_0 : Cond.constant RX8 83 (-1000000001) ∈ wsX8_on := List.mem_of_getElem? (i := 1) rfl
  refine v_iload_n (j := 1) (x := jI p) G dX8_on_0 rfl rfl ?_
  refine v_ciN G (rn_S (As := [.int (jI p)]) (rest := []) G (c_X8_isPlace (p := p) (hr := (by omega))) gX8_on_X8_isPlace rfl hdX8_isPlace ⟨rfl, rfl, Nat.le_of_ble_eq_true rfl, Nat.le_of_ble_eq_true rfl⟩ rfl rfl (Nat.le_of_ble_eq_true rfl) ⟨Nat.zero_le _, Nat.zero_le _⟩ dX8_on_1) (fun r_1 u_3 e_2 => ?_)
  have e_2 : r_1 = jI (b2 (0 ≤ p ∧ p ≤ 15)) := e_2
  subst e_2
  refine v_ifb_eq (P := 0 ≤ p ∧ p ≤ 15) (tgt := 17) G dX8_on_4 (by decide) (fun c_4 => ?_) (fun c_4 => ?_)
  · skip
    refine v_aload_n (j := 0) (x := a 0) G dX8_on_17 rfl rfl ?_
    refine v_ldc (z := (-1000000001)) G q_0 (by decide) dX8_on_18 ?_
    refine v_ciP (w2 := (fun _ => (gS  a ks ++ gW cI (fun i => a (1 + i)) wd ++ gG cI (fun i => a (31 + i)) gl ++ gF cI a (uI fd 0 (fd 0 + 1))))) (wr := (gW cI (fun i => a (1 + i)) wd ++ gG cI (fun i => a (31 + i)) gl)) G (rn_V (As := [.int (jI (-1000000001))]) (rest := []) (q0 := 0) G (c_X8_found_0 (ks := ks) (fd := fd) (a := a) ) gX8_on_X8_found rfl hdX8_found ⟨rfl, rfl, Nat.le_of_ble_eq_true rfl, Nat.le_of_ble_eq_true rfl⟩ rfl rfl (Nat.le_of_ble_eq_true rfl) ⟨Nat.zero_le _, Nat.zero_le _⟩ rfl rfl dX8_on_20) [0, 16] [1, 2, 3, 4, 5, 6, 7, 8, 9, 10, 11, 12, 13, 14, 15] [15, 0, 1, 2, 3, 4, 5, 6, 7, 8, 9, 10, 11, 12, 13, 14, 16] rfl rfl (by decide) (fun _ => rfl) (fun r_5 u_7 e_6 => ?_)
    have e_6 : r_5 = jI (-1000000001) := e_6
    subst e_6
    refine v_world (ws' := (gS  a ks ++ gW cI (fun i => a (1 + i)) wd ++ gG cI (fun i => a (31 + i)) gl ++ gF cI a (uI fd 0 (fd 0 + 1)))) rfl ?_
    exact v_iret G (uI fd 0 (fd 0 + 1), gl) (by first | exact Or.inl ⟨(by omega), (by first | rfl | exact congrArg jI (by omega)), rfl⟩ | exact Or.inr (⟨(by omega), (by first | rfl | exact congrArg jI (by omega)), rfl⟩)) rfl dX8_on_23
  · skip
    refine v_iload_n (j := 2) (x := jI n) G dX8_on_7 rfl rfl ?_
    refine v_iconst G dX8_on_8 ?_
    refine v_bipush G dX8_on_9 (by decide) ?_
    refine v_ciN G (rn_S (As := [.int (jI n), .int (jI 0), .int (jI 100)]) (rest := []) G (c_X8_within (v := n) (lo := 0) (hi := 100) (hr := (by omega))) gX8_on_X8_within rfl hdX8_within ⟨rfl, rfl, Nat.le_of_ble_eq_true rfl, Nat.le_of_ble_eq_true rfl⟩ rfl rfl (Nat.le_of_ble_eq_true rfl) ⟨Nat.zero_le _, Nat.zero_le _⟩ dX8_on_11) (fun r_8 u_10 e_9 => ?_)
    have e_9 : r_8 = jI (b2 ((0 : Int) ≤ n ∧ n ≤ (100 : Int))) := e_9
    subst e_9
    refine v_ifb_ne (P := (0 : Int) ≤ n ∧ n ≤ (100 : Int)) (tgt := 24) G dX8_on_14 (by decide) (fun c_11 => ?_) (fun c_11 => ?_)
    · skip
      refine v_aload_n (j := 0) (x := a 0) G dX8_on_24 rfl rfl ?_
      refine v_iload_n (j := 1) (x := jI p) G dX8_on_25 rfl rfl ?_
      refine v_iload_n (j := 2) (x := jI n) G dX8_on_26 rfl rfl ?_
      refine v_ciP (w2 := (fun _ => (gS  a ks ++ gW cI (fun i => a (1 + i)) wd ++ gG cI (fun i => a (31 + i)) (glS wd n gl) ++ gF cI a fd))) (wr := (gF cI a fd)) G (rn_V (As := [.int (jI p), .int (jI n)]) (rest := []) (q0 := 0) G (c_X8_lightOn (p := p) (n := n) (ks := ks) (wd := wd) (gl := gl) (a := a) (hw := hw) (hp := (by omega))) gX8_on_X8_lightOn rfl hdX8_lightOn ⟨rfl, rfl, Nat.le_of_ble_eq_true rfl, Nat.le_of_ble_eq_true rfl⟩ rfl rfl (Nat.le_of_ble_eq_true rfl) ⟨Nat.zero_le _, Nat.zero_le _⟩ rfl rfl dX8_on_27) [0, 1, 2, 3, 4, 5, 6, 7, 8, 9, 10, 11, 12, 13, 14, 15] [16] [1, 2, 3, 4, 5, 6, 7, 8, 9, 10, 11, 12, 13, 14, 15, 16, 0] rfl rfl (by decide) (fun _ => rfl) (fun r_12 u_14 e_13 => ?_)
      have e_13 : r_12 = jI (cLt wd n p) := e_13
      subst e_13
      refine v_world (ws' := (gS  a ks ++ gW cI (fun i => a (1 + i)) wd ++ gG cI (fun i => a (31 + i)) (glS wd n gl) ++ gF cI a fd)) rfl ?_
      exact v_iret G (fd, (glS wd n gl)) (by first | exact Or.inl ⟨(by omega), (by first | rfl | exact congrArg jI (by omega)), rfl⟩ | exact Or.inr (⟨(by omega), (by first | rfl | exact congrArg jI (by omega)), rfl⟩)) rfl dX8_on_30
    · skip
      refine v_aload_n (j := 0) (x := a 0) G dX8_on_17 rfl rfl ?_
      refine v_ldc (z := (-1000000001)) G q_0 (by decide) dX8_on_18 ?_
      refine v_ciP (w2 := (fun _ => (gS  a ks ++ gW cI (fun i => a (1 + i)) wd ++ gG cI (fun i => a (31 + i)) gl ++ gF cI a (uI fd 0 (fd 0 + 1))))) (wr := (gW cI (fun i => a (1 + i)) wd ++ gG cI (fun i => a (31 + i)) gl)) G (rn_V (As := [.int (jI (-1000000001))]) (rest := []) (q0 := 0) G (c_X8_found_0 (ks := ks) (fd := fd) (a := a) ) gX8_on_X8_found rfl hdX8_found ⟨rfl, rfl, Nat.le_of_ble_eq_true rfl, Nat.le_of_ble_eq_true rfl⟩ rfl rfl (Nat.le_of_ble_eq_true rfl) ⟨Nat.zero_le _, Nat.zero_le _⟩ rfl rfl dX8_on_20) [0, 16] [1, 2, 3, 4, 5, 6, 7, 8, 9, 10, 11, 12, 13, 14, 15] [15, 0, 1, 2, 3, 4, 5, 6, 7, 8, 9, 10, 11, 12, 13, 14, 16] rfl rfl (by decide) (fun _ => rfl) (fun r_15 u_17 e_16 => ?_)
      have e_16 : r_15 = jI (-1000000001) := e_16
      subst e_16
      refine v_world (ws' := (gS  a ks ++ gW cI (fun i => a (1 + i)) wd ++ gG cI (fun i => a (31 + i)) gl ++ gF cI a (uI fd 0 (fd 0 + 1)))) rfl ?_
      exact v_iret G (uI fd 0 (fd 0 + 1), gl) (by first | exact Or.inl ⟨(by omega), (by first | rfl | exact congrArg jI (by omega)), rfl⟩ | exact Or.inr (⟨(by omega), (by first | rfl | exact congrArg jI (by omega)), rfl⟩)) rfl dX8_on_23

set_option maxHeartbeats 4000000 in
set_option maxRecDepth 100000 in
theorem c_X8_dark  (hw : Wc wd) : Ci l yX8_dark wsX8_dark { frames := 5, cells := 0, slots := 0, locals := 114 } D (jT cI cL cB cS) [.ref (a 0)] (gS  a ks ++ gW cI (fun i => a (1 + i)) wd ++ gG cI (fun i => a (31 + i)) gl ++ gF cI a fd) (S := (Int → Int) × GT) (fun u => (gS  a ks ++ gW cI (fun i => a (1 + i)) wd ++ gG cI (fun i => a (31 + i)) u.2 ++ gF cI a u.1)) (fun r u => ((0 ≤ ckN wd wd.2.2.2.2.2.2.2.2.1.toNat) ∧ r = jI (ckN wd wd.2.2.2.2.2.2.2.2.1.toNat) ∧ u.1 = fd) ∨ ((ckN wd wd.2.2.2.2.2.2.2.2.1.toNat < 0) ∧ r = jI (-1000000004) ∧ u.1 = uI fd 3 (fd 3 + 1))) := by
  refine Ci.mk (cc := cX8_dark) (maxL := 4) (rt := .int) (by decide) rfl (Nat.le_of_ble_eq_true rfl) rfl ?_
  intro p_ e_ s_ m_ b_ me_ c_ A_ G hnm
  have hm := hw.many
  have hmt := hw.tasks
  have hh := hw.hour
  have k_X8 : ∀ w ∈ u_ws RX8 TX8 12, w ∈ wsX8_dark := fun _ h => List.mem_cons_of_mem _ (List.mem_append_left _ (List.mem_append_left _ (List.mem_append_right _ h)))
  have q_1 : Cond.fieldLink RX8 10 "SupperLight" "world" "LSupperLight$World;" ∈ wsX8_dark := List.mem_of_getElem? (i := 1) rfl
  have k_X7 : ∀ w ∈ u_ws RX7 TX7 12, w ∈ wsX8_dark := fun _ h => List.mem_cons_of_mem _ (List.mem_append_left _ (List.mem_append_right _ h))
  have q_3 : Cond.fieldLink RX8 156 "SupperLight$World" "tasks" "I" ∈ wsX8_dark := List.mem_of_getElem? (i := 2) rfl
  have q_4 : Cond.constant RX8 208 (-1000000004) ∈ wsX8_dark := List.mem_of_getElem? (i := 4) rfl
  have q_5 : Cond.fieldLink RX8 169 "SupperLight$World" "taskHours" "[I" ∈ wsX8_dark := List.mem_of_getElem? (i := 3) rfl
  refine v_iconst G dX8_dark_0 ?_
  refine v_istore_n (lv' := [(1, .int (jI (-1))), (0, .ref (a 0))]) G dX8_dark_1 rfl (by decide) rfl ?_
  refine v_iconst G dX8_dark_2 ?_
  refine v_istore_n (lv' := [(2, .int (jI 0)), (1, .int (jI (-1))), (0, .ref (a 0))]) G dX8_dark_3 rfl (by decide) rfl ?_
  refine v_locs (lv' := [(2, .int (jI 0)), (1, .int (jI (-1))), (0, .ref (a 0))]) [0, 1, 2] rfl ?_
  refine v_loop2 (fun (k : Nat) (gq : GT) => [(2, .int (jI (k : Int))), (1, .int (jI (ckN wd k))), (0, .ref (a 0))]) (fun (k : Nat) (gq : GT) => (gS  a ks ++ gW cI (fun i => a (1 + i)) wd ++ gG cI (fun i => a (31 + i)) gq ++ gF cI a fd)) (fun (k : Nat) (gq : GT) => (k : Int) ≤ wd.2.2.2.2.2.2.2.2.1) (fun (k : Nat) (gq : GT) => wd.2.2.2.2.2.2.2.2.1.toNat - k) 0 gl (by omega) rfl rfl ?_
  intro k gq I_1 ih_2
  have hck := ckN_r wd k
  refine v_iload_n (j := 0) (x := jI (k : Int)) G dX8_dark_4 rfl rfl ?_
  refine v_aload_n (j := 2) (x := a 0) G dX8_dark_5 rfl rfl ?_
  refine v_get (q0 := 0) (k := 0) (v := .ref (a 1)) G k_X8 rfl rfl (by decide) q_1 rfl rfl dX8_dark_6 ?_
  refine v_get (q0 := 1) (k := 8) (v := .int (jI wd.2.2.2.2.2.2.2.2.1)) G k_X7 rfl rfl (by decide) q_3 rfl rfl dX8_dark_9 ?_
  refine v_icmp_ge (a := (k : Int)) (b := wd.2.2.2.2.2.2.2.2.1) (tgt := 81) G dX8_dark_12 (by decide) (by omega) (fun c_3 => ?_) (fun c_3 => ?_)
  · skip
    obtain rfl : k = wd.2.2.2.2.2.2.2.2.1.toNat := by omega
    refine v_iload_n (j := 1) (x := jI (ckN wd wd.2.2.2.2.2.2.2.2.1.toNat)) G dX8_dark_81 rfl rfl ?_
    refine v_if_ge (a := ckN wd wd.2.2.2.2.2.2.2.2.1.toNat) (tgt := 94) G dX8_dark_82 (by decide) (by omega) (fun c_4 => ?_) (fun c_4 => ?_)
    · skip
      refine v_iload_n (j := 1) (x := jI (ckN wd wd.2.2.2.2.2.2.2.2.1.toNat)) G dX8_dark_94 rfl rfl ?_
      exact v_iret G (fd, gq) (by first | exact Or.inl ⟨(by omega), (by first | rfl | exact congrArg jI (by omega)), rfl⟩ | exact Or.inr (⟨(by omega), (by first | rfl | exact congrArg jI (by omega)), rfl⟩)) rfl dX8_dark_95
    · skip
      refine v_aload_n (j := 2) (x := a 0) G dX8_dark_85 rfl rfl ?_
      refine v_ldc (z := (-1000000004)) G q_4 (by decide) dX8_dark_86 ?_
      refine v_ciP (w2 := (fun _ => (gS  a ks ++ gW cI (fun i => a (1 + i)) wd ++ gG cI (fun i => a (31 + i)) gq ++ gF cI a (uI fd 3 (fd 3 + 1))))) (wr := (gW cI (fun i => a (1 + i)) wd ++ gG cI (fun i => a (31 + i)) gq)) G (rn_V (As := [.int (jI (-1000000004))]) (rest := []) (q0 := 0) G (c_X8_found_3 (ks := ks) (fd := fd) (a := a) ) gX8_dark_X8_found rfl hdX8_found ⟨rfl, rfl, Nat.le_of_ble_eq_true rfl, Nat.le_of_ble_eq_true rfl⟩ rfl rfl (Nat.le_of_ble_eq_true rfl) ⟨Nat.zero_le _, Nat.zero_le _⟩ rfl rfl dX8_dark_88) [0, 16] [1, 2, 3, 4, 5, 6, 7, 8, 9, 10, 11, 12, 13, 14, 15] [15, 0, 1, 2, 3, 4, 5, 6, 7, 8, 9, 10, 11, 12, 13, 14, 16] rfl rfl (by decide) (fun _ => rfl) (fun r_5 u_7 e_6 => ?_)
      have e_6 : r_5 = jI (-1000000004) := e_6
      subst e_6
      refine v_world (ws' := (gS  a ks ++ gW cI (fun i => a (1 + i)) wd ++ gG cI (fun i => a (31 + i)) gq ++ gF cI a (uI fd 3 (fd 3 + 1)))) rfl ?_
      refine v_goto (tgt := 95) G dX8_dark_91 (by decide) ?_
      exact v_iret G (uI fd 3 (fd 3 + 1), gq) (by first | exact Or.inl ⟨(by omega), (by first | rfl | exact congrArg jI (by omega)), rfl⟩ | exact Or.inr (⟨(by omega), (by first | rfl | exact congrArg jI (by omega)), rfl⟩)) rfl dX8_dark_95
  · skip
    have hk := hw.task (t := (k : Int)) (by omega) (by omega)
    refine v_aload_n (j := 2) (x := a 0) G dX8_dark_15 rfl rfl ?_
    refine v_get (q0 := 0) (k := 0) (v := .ref (a 1)) G k_X8 rfl rfl (by decide) q_1 rfl rfl dX8_dark_16 ?_
    refine v_iload_n (j := 0) (x := jI (k : Int)) G dX8_dark_19 rfl rfl ?_
    refine v_ciP (w2 := (fun _ => (gS  a ks ++ gW cI (fun i => a (1 + i)) wd ++ gG cI (fun i => a (31 + i)) gq ++ gF cI a fd))) (wr := (gS  a ks ++ gG cI (fun i => a (31 + i)) gq ++ gF cI a fd)) G (rn_V (As := [.int (jI (k : Int))]) (rest := []) (q0 := 0) G (c_X7_comes (t := (k : Int)) (x := wd) (b := fun i => a (1 + i)) (hw := hw) (ht := (by omega))) gX8_dark_X7_comes rfl hdX7_comes ⟨rfl, rfl, Nat.le_of_ble_eq_true rfl, Nat.le_of_ble_eq_true rfl⟩ rfl rfl (Nat.le_of_ble_eq_true rfl) ⟨Nat.zero_le _, Nat.zero_le _⟩ rfl rfl dX8_dark_20) [1, 2, 3, 4, 5, 6, 7, 8, 9, 10] [0, 11, 12, 13, 14, 15, 16] [0, 7, 8, 9, 10, 11, 12, 13, 14, 15, 16, 1, 2, 3, 4, 5, 6] rfl rfl (by decide) (fun _ => rfl) (fun r_8 u_10 e_9 => ?_)
    have e_9 : r_8 = jI (b2 (0 ≤ wd.2.2.2.2.2.2.2.2.2.2.1 (k : Int) - wd.1 ∧ wd.2.2.2.2.2.2.2.2.2.2.1 (k : Int) - wd.1 ≤ 100)) := e_9
    subst e_9
    refine v_world (ws' := (gS  a ks ++ gW cI (fun i => a (1 + i)) wd ++ gG cI (fun i => a (31 + i)) gq ++ gF cI a fd)) rfl ?_
    refine v_ifb_eq (P := 0 ≤ wd.2.2.2.2.2.2.2.2.2.2.1 (k : Int) - wd.1 ∧ wd.2.2.2.2.2.2.2.2.2.2.1 (k : Int) - wd.1 ≤ 100) (tgt := 42) G dX8_dark_23 (by decide) (fun c_11 => ?_) (fun c_11 => ?_)
    · skip
      refine v_iconst G dX8_dark_42 ?_
      refine v_istore_n (lv' := [(3, .int (jI 0)), (2, .int (jI (k : Int))), (1, .int (jI (ckN wd k))), (0, .ref (a 0))]) G dX8_dark_43 rfl (by decide) rfl ?_
      refine v_iload_n (j := 0) (x := jI 0) G dX8_dark_44 rfl rfl ?_
      refine v_if_eq (a := 0) (tgt := 75) G dX8_dark_45 (by decide) (by omega) (fun c_12 => ?_) (fun c_12 => ?_)
      · skip
        refine v_eqs (lv' := [(3, .int (jI 0)), (2, .int (jI (k : Int))), (1, .int (jI (ckN wd (k + 1)))), (0, .ref (a 0))]) (by rw [show ckN wd (k + 1) = ckN wd k from (ck_f (by rintro ⟨x1, x2, x3⟩; first | exact absurd x1 (by assumption) | exact x2 (by assumption) | omega))]) rfl rfl ?_
        refine v_iinc (k := 1) (z := (k : Int)) (z' := ((k + 1 : Nat) : Int)) (lv' := [(2, .int (jI ((k + 1 : Nat) : Int))), (3, .int (jI 0)), (1, .int (jI (ckN wd (k + 1)))), (0, .ref (a 0))]) G dX8_dark_75 rfl (by omega) (by decide) rfl ?_
        refine v_goto (tgt := 4) G dX8_dark_78 (by decide) ?_
        refine v_locs (lv' := [(2, .int (jI ((k + 1 : Nat) : Int))), (1, .int (jI (ckN wd (k + 1)))), (0, .ref (a 0))]) [0, 2, 3] rfl ?_
        exact ih_2 (k + 1) gq (by omega) (by omega)
      · skip
        exfalso; omega
    · skip
      refine v_aload_n (j := 2) (x := a 0) G dX8_dark_26 rfl rfl ?_
      refine v_aload_n (j := 2) (x := a 0) G dX8_dark_27 rfl rfl ?_
      refine v_get (q0 := 0) (k := 0) (v := .ref (a 1)) G k_X8 rfl rfl (by decide) q_1 rfl rfl dX8_dark_28 ?_
      refine v_iload_n (j := 0) (x := jI (k : Int)) G dX8_dark_31 rfl rfl ?_
      refine v_ciP (w2 := (fun gl2 => (gS  a ks ++ gW cI (fun i => a (1 + i)) wd ++ gG cI (fun i => a (31 + i)) gl2 ++ gF cI a fd))) (wr := (gF cI a fd)) G (rn_V (As := [.ref (a 1), .int (jI (k : Int))]) (rest := []) (q0 := 0) G (c_X8_isDone (t := (k : Int)) (ks := ks) (x := wd) (gl := gq) (a := a) (b := fun i => a (1 + i)) (hw := hw) (ht := (by omega))) gX8_dark_X8_isDone rfl hdX8_isDone ⟨rfl, rfl, Nat.le_of_ble_eq_true rfl, Nat.le_of_ble_eq_true rfl⟩ rfl rfl (Nat.le_of_ble_eq_true rfl) ⟨Nat.zero_le _, Nat.zero_le _⟩ rfl rfl dX8_dark_32) [0, 1, 2, 3, 4, 5, 6, 7, 8, 9, 10, 11, 12, 13, 14, 15] [16] [1, 2, 3, 4, 5, 6, 7, 8, 9, 10, 11, 12, 13, 14, 15, 16, 0] rfl rfl (by decide) (fun _ => rfl) (fun r_14 u_16 e_15 => ?_)
      obtain ⟨gl2_13, rfl⟩ : ∃ z, z = u_16 := ⟨_, rfl⟩
      have e_15 : r_14 = jI (b2 (cDn wd (k : Int))) ∧ True := e_15
      obtain ⟨e_150, e_15⟩ := e_15
      subst e_150
      refine v_world (ws' := (gS  a ks ++ gW cI (fun i => a (1 + i)) wd ++ gG cI (fun i => a (31 + i)) gl2_13 ++ gF cI a fd)) rfl ?_
      refine v_ifb_ne (P := cDn wd (k : Int)) (tgt := 42) G dX8_dark_35 (by decide) (fun c_17 => ?_) (fun c_17 => ?_)
      · skip
        refine v_iconst G dX8_dark_42 ?_
        refine v_istore_n (lv' := [(3, .int (jI 0)), (2, .int (jI (k : Int))), (1, .int (jI (ckN wd k))), (0, .ref (a 0))]) G dX8_dark_43 rfl (by decide) rfl ?_
        refine v_iload_n (j := 0) (x := jI 0) G dX8_dark_44 rfl rfl ?_
        refine v_if_eq (a := 0) (tgt := 75) G dX8_dark_45 (by decide) (by omega) (fun c_18 => ?_) (fun c_18 => ?_)
        · skip
          refine v_eqs (lv' := [(3, .int (jI 0)), (2, .int (jI (k : Int))), (1, .int (jI (ckN wd (k + 1)))), (0, .ref (a 0))]) (by rw [show ckN wd (k + 1) = ckN wd k from (ck_f (by rintro ⟨x1, x2, x3⟩; first | exact absurd x1 (by assumption) | exact x2 (by assumption) | omega))]) rfl rfl ?_
          refine v_iinc (k := 1) (z := (k : Int)) (z' := ((k + 1 : Nat) : Int)) (lv' := [(2, .int (jI ((k + 1 : Nat) : Int))), (3, .int (jI 0)), (1, .int (jI (ckN wd (k + 1)))), (0, .ref (a 0))]) G dX8_dark_75 rfl (by omega) (by decide) rfl ?_
          refine v_goto (tgt := 4) G dX8_dark_78 (by decide) ?_
          refine v_locs (lv' := [(2, .int (jI ((k + 1 : Nat) : Int))), (1, .int (jI (ckN wd (k + 1)))), (0, .ref (a 0))]) [0, 2, 3] rfl ?_
          exact ih_2 (k + 1) gl2_13 (by omega) (by omega)
        · skip
          exfalso; omega
      · skip
        refine v_iconst G dX8_dark_38 ?_
        refine v_goto (tgt := 43) G dX8_dark_39 (by decide) ?_
        refine v_istore_n (lv' := [(3, .int (jI 1)), (2, .int (jI (k : Int))), (1, .int (jI (ckN wd k))), (0, .ref (a 0))]) G dX8_dark_43 rfl (by decide) rfl ?_
        refine v_iload_n (j := 0) (x := jI 1) G dX8_dark_44 rfl rfl ?_
        refine v_if_eq (a := 1) (tgt := 75) G dX8_dark_45 (by decide) (by omega) (fun c_19 => ?_) (fun c_19 => ?_)
        · skip
          exfalso; omega
        · skip
          have hk9 := True.intro
          refine v_iload_n (j := 2) (x := jI (ckN wd k)) G dX8_dark_48 rfl rfl ?_
          refine v_if_lt (a := ckN wd k) (tgt := 73) G dX8_dark_49 (by decide) (by omega) (fun c_20 => ?_) (fun c_20 => ?_)
          · skip
            refine v_iload_n (j := 1) (x := jI (k : Int)) G dX8_dark_73 rfl rfl ?_
            refine v_istore_n (lv' := [(1, .int (jI (k : Int))), (3, .int (jI 1)), (2, .int (jI (k : Int))), (0, .ref (a 0))]) G dX8_dark_74 rfl (by decide) rfl ?_
            refine v_eqs (lv' := [(1, .int (jI (ckN wd (k + 1)))), (3, .int (jI 1)), (2, .int (jI (k : Int))), (0, .ref (a 0))]) (by rw [show ckN wd (k + 1) = (k : Int) from (ck_t ⟨by assumption, by assumption, by omega⟩)]) rfl rfl ?_
            refine v_iinc (k := 2) (z := (k : Int)) (z' := ((k + 1 : Nat) : Int)) (lv' := [(2, .int (jI ((k + 1 : Nat) : Int))), (1, .int (jI (ckN wd (k + 1)))), (3, .int (jI 1)), (0, .ref (a 0))]) G dX8_dark_75 rfl (by omega) (by decide) rfl ?_
            refine v_goto (tgt := 4) G dX8_dark_78 (by decide) ?_
            refine v_locs (lv' := [(2, .int (jI ((k + 1 : Nat) : Int))), (1, .int (jI (ckN wd (k + 1)))), (0, .ref (a 0))]) [0, 1, 3] rfl ?_
            exact ih_2 (k + 1) gl2_13 (by omega) (by omega)
          · skip
            have hk2 := hw.task (t := ckN wd k) (by omega) (by omega)
            refine v_aload_n (j := 3) (x := a 0) G dX8_dark_52 rfl rfl ?_
            refine v_get (q0 := 0) (k := 0) (v := .ref (a 1)) G k_X8 rfl rfl (by decide) q_1 rfl rfl dX8_dark_53 ?_
            refine v_get (q0 := 1) (k := 10) (v := .ref (a 9)) G k_X7 rfl rfl (by decide) q_5 rfl rfl dX8_dark_56 ?_
            refine v_iload_n (j := 1) (x := jI (k : Int)) G dX8_dark_59 rfl rfl ?_
            refine v_iald (q0 := 9) (t0 := 0) (g := wd.2.2.2.2.2.2.2.2.2.2.1) (z := (k : Int)) G rfl rfl (by omega) dX8_dark_60 ?_
            refine v_aload_n (j := 3) (x := a 0) G dX8_dark_61 rfl rfl ?_
            refine v_get (q0 := 0) (k := 0) (v := .ref (a 1)) G k_X8 rfl rfl (by decide) q_1 rfl rfl dX8_dark_62 ?_
            refine v_get (q0 := 1) (k := 10) (v := .ref (a 9)) G k_X7 rfl rfl (by decide) q_5 rfl rfl dX8_dark_65 ?_
            refine v_iload_n (j := 2) (x := jI (ckN wd k)) G dX8_dark_68 rfl rfl ?_
            refine v_iald (q0 := 9) (t0 := 0) (g := wd.2.2.2.2.2.2.2.2.2.2.1) (z := ckN wd k) G rfl rfl (by omega) dX8_dark_69 ?_
            refine v_icmp_ge (a := wd.2.2.2.2.2.2.2.2.2.2.1 (k : Int)) (b := wd.2.2.2.2.2.2.2.2.2.2.1 (ckN wd k)) (tgt := 75) G dX8_dark_70 (by decide) (by omega) (fun c_21 => ?_) (fun c_21 => ?_)
            · skip
              refine v_eqs (lv' := [(3, .int (jI 1)), (2, .int (jI (k : Int))), (1, .int (jI (ckN wd (k + 1)))), (0, .ref (a 0))]) (by rw [show ckN wd (k + 1) = ckN wd k from (ck_f (by rintro ⟨x1, x2, x3⟩; first | exact absurd x1 (by assumption) | exact x2 (by assumption) | omega))]) rfl rfl ?_
              refine v_iinc (k := 1) (z := (k : Int)) (z' := ((k + 1 : Nat) : Int)) (lv' := [(2, .int (jI ((k + 1 : Nat) : Int))), (3, .int (jI 1)), (1, .int (jI (ckN wd (k + 1)))), (0, .ref (a 0))]) G dX8_dark_75 rfl (by omega) (by decide) rfl ?_
              refine v_goto (tgt := 4) G dX8_dark_78 (by decide) ?_
              refine v_locs (lv' := [(2, .int (jI ((k + 1 : Nat) : Int))), (1, .int (jI (ckN wd (k + 1)))), (0, .ref (a 0))]) [0, 2, 3] rfl ?_
              exact ih_2 (k + 1) gl2_13 (by omega) (by omega)
            · skip
              refine v_iload_n (j := 1) (x := jI (k : Int)) G dX8_dark_73 rfl rfl ?_
              refine v_istore_n (lv' := [(1, .int (jI (k : Int))), (3, .int (jI 1)), (2, .int (jI (k : Int))), (0, .ref (a 0))]) G dX8_dark_74 rfl (by decide) rfl ?_
              refine v_eqs (lv' := [(1, .int (jI (ckN wd (k + 1)))), (3, .int (jI 1)), (2, .int (jI (k : Int))), (0, .ref (a 0))]) (by rw [show ckN wd (k + 1) = (k : Int) from (ck_t ⟨by assumption, by assumption, by omega⟩)]) rfl rfl ?_
              refine v_iinc (k := 2) (z := (k : Int)) (z' := ((k + 1 : Nat) : Int)) (lv' := [(2, .int (jI ((k + 1 : Nat) : Int))), (1, .int (jI (ckN wd (k + 1)))), (3, .int (jI 1)), (0, .ref (a 0))]) G dX8_dark_75 rfl (by omega) (by decide) rfl ?_
              refine v_goto (tgt := 4) G dX8_dark_78 (by decide) ?_
              refine v_locs (lv' := [(2, .int (jI ((k + 1 : Nat) : Int))), (1, .int (jI (ckN wd (k + 1)))), (0, .ref (a 0))]) [0, 1, 3] rfl ?_
              exact ih_2 (k + 1) gl2_13 (by omega) (by omega)

set_option maxHeartbeats 4000000 in
set_option maxRecDepth 100000 in
theorem c_X8_out  (hw : Wc wd) : Ci l yX8_out wsX8_out { frames := 4, cells := 0, slots := 0, locals := 92 } D (jT cI cL cB cS) [.ref (a 0)] (gS  a ks ++ gW cI (fun i => a (1 + i)) wd ++ gG cI (fun i => a (31 + i)) gl ++ gF cI a fd) (S := (Int → Int) × GT) (fun u => (gS  a ks ++ gW cI (fun i => a (1 + i)) wd ++ gG cI (fun i => a (31 + i)) u.2 ++ gF cI a u.1)) (fun r u => ((lstN (fun q_ : Nat => cOut wd (q_ : Int)) 101 0 ≤ 100) ∧ r = jI (lstN (fun q_ : Nat => cOut wd (q_ : Int)) 101 0 : Int) ∧ u.1 = fd) ∨ ((100 < lstN (fun q_ : Nat => cOut wd (q_ : Int)) 101 0) ∧ r = jI (-1000000004) ∧ u.1 = uI fd 3 (fd 3 + 1))) := by
  refine Ci.mk (cc := cX8_out) (maxL := 2) (rt := .int) (by decide) rfl (Nat.le_of_ble_eq_true rfl) rfl ?_
  intro p_ e_ s_ m_ b_ me_ c_ A_ G hnm
  have hm := hw.many
  have hmt := hw.tasks
  have hh := hw.hour
  have q_0 : Cond.constant RX8 208 (-1000000004) ∈ wsX8_out := List.mem_of_getElem? (i := 3) rfl
  have k_X8 : ∀ w ∈ u_ws RX8 TX8 12, w ∈ wsX8_out := fun _ h => List.mem_cons_of_mem _ (List.mem_append_left _ (List.mem_append_left _ (List.mem_append_right _ h)))
  have q_2 : Cond.fieldLink RX8 29 "SupperLight" "glow" "LSupperLight$Glow;" ∈ wsX8_out := List.mem_of_getElem? (i := 1) rfl
  have q_3 : Cond.fieldLink RX8 10 "SupperLight" "world" "LSupperLight$World;" ∈ wsX8_out := List.mem_of_getElem? (i := 2) rfl
  refine v_iconst G dX8_out_0 ?_
  refine v_istore_n (lv' := [(1, .int (jI 0)), (0, .ref (a 0))]) G dX8_out_1 rfl (by decide) rfl ?_
  refine v_locs (lv' := [(1, .int (jI 0)), (0, .ref (a 0))]) [0, 1] rfl ?_
  refine v_loop2 (fun (n : Nat) (gq : GT) => [(1, .int (jI (n : Int))), (0, .ref (a 0))]) (fun (n : Nat) (gq : GT) => (gS  a ks ++ gW cI (fun i => a (1 + i)) wd ++ gG cI (fun i => a (31 + i)) gq ++ gF cI a fd)) (fun (n : Nat) (gq : GT) => n ≤ 101 ∧ lstN (fun q_ : Nat => cOut wd (q_ : Int)) (101 - n) n = lstN (fun q_ : Nat => cOut wd (q_ : Int)) 101 0) (fun (n : Nat) (gq : GT) => 101 - n) 0 gl ⟨by decide, rfl⟩ rfl rfl ?_
  intro n gq I_1 ih_2
  obtain ⟨hn, hz⟩ := id I_1
  refine v_iload_n (j := 0) (x := jI (n : Int)) G dX8_out_2 rfl rfl ?_
  refine v_bipush G dX8_out_3 (by decide) ?_
  refine v_icmp_gt (a := (n : Int)) (b := 100) (tgt := 38) G dX8_out_5 (by decide) (by omega) (fun c_3 => ?_) (fun c_3 => ?_)
  · skip
    have hres : lstN (fun q_ : Nat => cOut wd (q_ : Int)) 101 0 = n := lst_o hz (by omega)
    refine v_aload_n (j := 1) (x := a 0) G dX8_out_38 rfl rfl ?_
    refine v_ldc (z := (-1000000004)) G q_0 (by decide) dX8_out_39 ?_
    refine v_ciP (w2 := (fun _ => (gS  a ks ++ gW cI (fun i => a (1 + i)) wd ++ gG cI (fun i => a (31 + i)) gq ++ gF cI a (uI fd 3 (fd 3 + 1))))) (wr := (gW cI (fun i => a (1 + i)) wd ++ gG cI (fun i => a (31 + i)) gq)) G (rn_V (As := [.int (jI (-1000000004))]) (rest := []) (q0 := 0) G (c_X8_found_3 (ks := ks) (fd := fd) (a := a) ) gX8_out_X8_found rfl hdX8_found ⟨rfl, rfl, Nat.le_of_ble_eq_true rfl, Nat.le_of_ble_eq_true rfl⟩ rfl rfl (Nat.le_of_ble_eq_true rfl) ⟨Nat.zero_le _, Nat.zero_le _⟩ rfl rfl dX8_out_41) [0, 16] [1, 2, 3, 4, 5, 6, 7, 8, 9, 10, 11, 12, 13, 14, 15] [15, 0, 1, 2, 3, 4, 5, 6, 7, 8, 9, 10, 11, 12, 13, 14, 16] rfl rfl (by decide) (fun _ => rfl) (fun r_4 u_6 e_5 => ?_)
    have e_5 : r_4 = jI (-1000000004) := e_5
    subst e_5
    refine v_world (ws' := (gS  a ks ++ gW cI (fun i => a (1 + i)) wd ++ gG cI (fun i => a (31 + i)) gq ++ gF cI a (uI fd 3 (fd 3 + 1)))) rfl ?_
    exact v_iret G (uI fd 3 (fd 3 + 1), gq) (by first | exact Or.inl ⟨(by omega), (by first | rfl | exact congrArg jI (by omega)), rfl⟩ | exact Or.inr (⟨(by omega), (by first | rfl | exact congrArg jI (by omega)), rfl⟩)) rfl dX8_out_44
  · skip
    refine v_aload_n (j := 1) (x := a 0) G dX8_out_8 rfl rfl ?_
    refine v_get (q0 := 0) (k := 4) (v := .ref (a 31)) G k_X8 rfl rfl (by decide) q_2 rfl rfl dX8_out_9 ?_
    refine v_aload_n (j := 1) (x := a 0) G dX8_out_12 rfl rfl ?_
    refine v_get (q0 := 0) (k := 0) (v := .ref (a 1)) G k_X8 rfl rfl (by decide) q_3 rfl rfl dX8_out_13 ?_
    refine v_iload_n (j := 0) (x := jI (n : Int)) G dX8_out_16 rfl rfl ?_
    refine v_cvP (w2 := (fun _ => (gS  a ks ++ gW cI (fun i => a (1 + i)) wd ++ gG cI (fun i => a (31 + i)) (glS wd (n : Int) gq) ++ gF cI a fd))) (wr := (gS  a ks ++ gF cI a fd)) G (rn_V (As := [.ref (a 1), .int (jI (n : Int))]) (rest := []) (q0 := 0) G (c_X0_settleOn (n := (n : Int)) (g := gq) (x := wd) (c := fun i => a (31 + i)) (b := fun i => a (1 + i)) (hw := hw) (hn := (by omega))) gX8_out_X0_settleOn rfl hdX0_settleOn ⟨rfl, rfl, Nat.le_of_ble_eq_true rfl, Nat.le_of_ble_eq_true rfl⟩ rfl rfl (Nat.le_of_ble_eq_true rfl) ⟨Nat.zero_le _, Nat.zero_le _⟩ rfl rfl dX8_out_17) [11, 12, 13, 14, 15, 1, 2, 3, 4, 5, 6, 7, 8, 9, 10] [0, 16] [0, 7, 8, 9, 10, 11, 12, 13, 14, 15, 16, 2, 3, 4, 5, 6, 1] rfl rfl (by decide) (fun _ => rfl) (fun u_9 e_8 => ?_)
    refine v_world (ws' := (gS  a ks ++ gW cI (fun i => a (1 + i)) wd ++ gG cI (fun i => a (31 + i)) (glS wd (n : Int) gq) ++ gF cI a fd)) rfl ?_
    refine v_aload_n (j := 1) (x := a 0) G dX8_out_20 rfl rfl ?_
    refine v_get (q0 := 0) (k := 4) (v := .ref (a 31)) G k_X8 rfl rfl (by decide) q_2 rfl rfl dX8_out_21 ?_
    refine v_ciP (w2 := (fun _ => (gS  a ks ++ gW cI (fun i => a (1 + i)) wd ++ gG cI (fun i => a (31 + i)) (((glS wd (n : Int) gq).1), ((glS wd (n : Int) gq).2.1), ((glS wd (n : Int) gq).2.2.1), ((glS wd (n : Int) gq).2.2.2.1), ((glS wd (n : Int) gq).2.2.2.2)) ++ gF cI a fd))) (wr := (gS  a ks ++ gW cI (fun i => a (1 + i)) wd ++ gF cI a fd)) G (rn_V (As := []) (rest := []) (q0 := 0) G (c_X0_isOut (g := (glS wd (n : Int) gq)) (c := fun i => a (31 + i)) (hg := (glS_f hw (by omega) gq))) gX8_out_X0_isOut rfl hdX0_isOut ⟨rfl, rfl, Nat.le_of_ble_eq_true rfl, Nat.le_of_ble_eq_true rfl⟩ rfl rfl (Nat.le_of_ble_eq_true rfl) ⟨Nat.zero_le _, Nat.zero_le _⟩ rfl rfl dX8_out_24) [11, 12, 13, 14, 15] [0, 1, 2, 3, 4, 5, 6, 7, 8, 9, 10, 16] [0, 1, 2, 3, 4, 5, 6, 7, 8, 9, 10, 12, 13, 14, 15, 16, 11] rfl rfl (by decide) (fun _ => rfl) (fun r_10 u_12 e_11 => ?_)
    have e_11 : r_10 = jI (b2 (sumN ((glS wd (n : Int) gq).2.1) 16 = 0 ∧ sumN ((glS wd (n : Int) gq).2.2.2.1) (glS wd (n : Int) gq).1.toNat = 0)) := e_11
    subst e_11
    refine v_world (ws' := (gS  a ks ++ gW cI (fun i => a (1 + i)) wd ++ gG cI (fun i => a (31 + i)) (((glS wd (n : Int) gq).1), ((glS wd (n : Int) gq).2.1), ((glS wd (n : Int) gq).2.2.1), ((glS wd (n : Int) gq).2.2.2.1), ((glS wd (n : Int) gq).2.2.2.2)) ++ gF cI a fd)) rfl ?_
    have hco := cOut_g wd (n : Int) gq
    refine v_topj (x := b2 (sumN ((glS wd (n : Int) gq).2.1) 16 = 0 ∧ sumN ((glS wd (n : Int) gq).2.2.2.1) (glS wd (n : Int) gq).1.toNat = 0)) (y := b2 (cOut wd (n : Int))) (b2_c hco) ?_
    refine v_ifb_eq (P := cOut wd (n : Int)) (tgt := 32) G dX8_out_27 (by decide) (fun c_13 => ?_) (fun c_13 => ?_)
    · skip
      refine v_iinc (k := 0) (z := (n : Int)) (z' := ((n + 1 : Nat) : Int)) (lv' := [(1, .int (jI ((n + 1 : Nat) : Int))), (0, .ref (a 0))]) G dX8_out_32 rfl (by omega) (by decide) rfl ?_
      refine v_goto (tgt := 2) G dX8_out_35 (by decide) ?_
      exact ih_2 (n + 1) (((glS wd (n : Int) gq).1), ((glS wd (n : Int) gq).2.1), ((glS wd (n : Int) gq).2.2.1), ((glS wd (n : Int) gq).2.2.2.1), ((glS wd (n : Int) gq).2.2.2.2)) ⟨by omega, lst_s (by omega) (by assumption) I_1.2⟩ (by omega)
    · skip
      have hres : lstN (fun q_ : Nat => cOut wd (q_ : Int)) 101 0 = n := lst_i hz (by omega) (by assumption)
      refine v_iload_n (j := 0) (x := jI (n : Int)) G dX8_out_30 rfl rfl ?_
      exact v_iret G (fd, (((glS wd (n : Int) gq).1), ((glS wd (n : Int) gq).2.1), ((glS wd (n : Int) gq).2.2.1), ((glS wd (n : Int) gq).2.2.2.1), ((glS wd (n : Int) gq).2.2.2.2))) (by first | exact Or.inl ⟨(by omega), (by first | rfl | exact congrArg jI (by omega)), rfl⟩ | exact Or.inr (⟨(by omega), (by first | rfl | exact congrArg jI (by omega)), rfl⟩)) rfl dX8_out_31

set_option maxHeartbeats 4000000 in
set_option maxRecDepth 100000 in
theorem c_X8_meet (z y : Int) (hw : Wc wd) (hr : (-2147483648 ≤ z ∧ z ≤ 2147483647) ∧ (-2147483648 ≤ y ∧ y ≤ 2147483647)) : Ci l yX8_meet wsX8_meet { frames := 3, cells := 0, slots := 0, locals := 69 } D (jT cI cL cB cS) [.ref (a 0), .int (jI z), .int (jI y)] (gS  a ks ++ gW cI (fun i => a (1 + i)) wd ++ gF cI a fd) (S := (Int → Int)) (fun fd2 => (gS  a ks ++ gW cI (fun i => a (1 + i)) wd ++ gF cI a fd2)) (fun r fd2 => ((¬ (((0 ≤ z ∧ z < wd.2.2.1) ∧ 0 ≤ y ∧ y < wd.2.2.1) ∧ z ≠ y)) ∧ r = jI (-1000000001) ∧ fd2 = uI fd 0 (fd 0 + 1)) ∨ (((((0 ≤ z ∧ z < wd.2.2.1) ∧ 0 ≤ y ∧ y < wd.2.2.1) ∧ z ≠ y) ∧ lstN (fun q_ : Nat => stF wd (q_ : Int) z = stF wd (q_ : Int) y) 101 0 ≤ 100) ∧ r = jI (lstN (fun q_ : Nat => stF wd (q_ : Int) z = stF wd (q_ : Int) y) 101 0 : Int) ∧ fd2 = fd) ∨ (((((0 ≤ z ∧ z < wd.2.2.1) ∧ 0 ≤ y ∧ y < wd.2.2.1) ∧ z ≠ y) ∧ 100 < lstN (fun q_ : Nat => stF wd (q_ : Int) z = stF wd (q_ : Int) y) 101 0) ∧ r = jI (-1000000004) ∧ fd2 = uI fd 3 (fd 3 + 1))) := by
  refine Ci.mk (cc := cX8_meet) (maxL := 4) (rt := .int) (by decide) rfl (Nat.le_of_ble_eq_true rfl) rfl ?_
  intro p_ e_ s_ m_ b_ me_ c_ A_ G hnm
  have hm := hw.many
  have hmt := hw.tasks
  have hh := hw.hour
  have k_X8 : ∀ w ∈ u_ws RX8 TX8 12, w ∈ wsX8_meet := fun _ h => List.mem_cons_of_mem _ (List.mem_append_left _ (List.mem_append_right _ h))
  have q_1 : Cond.fieldLink RX8 10 "SupperLight" "world" "LSupperLight$World;" ∈ wsX8_meet := List.mem_of_getElem? (i := 1) rfl
  have q_2 : Cond.constant RX8 83 (-1000000001) ∈ wsX8_meet := List.mem_of_getElem? (i := 2) rfl
  have q_3 : Cond.constant RX8 208 (-1000000004) ∈ wsX8_meet := List.mem_of_getElem? (i := 3) rfl
  refine v_aload_n (j := 0) (x := a 0) G dX8_meet_0 rfl rfl ?_
  refine v_get (q0 := 0) (k := 0) (v := .ref (a 1)) G k_X8 rfl rfl (by decide) q_1 rfl rfl dX8_meet_1 ?_
  refine v_iload_n (j := 1) (x := jI z) G dX8_meet_4 rfl rfl ?_
  refine v_ciP (w2 := (fun _ => (gS  a ks ++ gW cI (fun i => a (1 + i)) wd ++ gF cI a fd))) (wr := (gS  a ks ++ gF cI a fd)) G (rn_V (As := [.int (jI z)]) (rest := []) (q0 := 0) G (c_X7_hasBeing (z := z) (x := wd) (b := fun i => a (1 + i)) (hw := hw) (hr := (by omega))) gX8_meet_X7_hasBeing rfl hdX7_hasBeing ⟨rfl, rfl, Nat.le_of_ble_eq_true rfl, Nat.le_of_ble_eq_true rfl⟩ rfl rfl (Nat.le_of_ble_eq_true rfl) ⟨Nat.zero_le _, Nat.zero_le _⟩ rfl rfl dX8_meet_5) [1, 2, 3, 4, 5, 6, 7, 8, 9, 10] [0, 11] [0, 2, 3, 4, 5, 6, 7, 8, 9, 10, 11, 1] rfl rfl (by decide) (fun _ => rfl) (fun r_1 u_3 e_2 => ?_)
  have e_2 : r_1 = jI (b2 (0 ≤ z ∧ z < wd.2.2.1)) := e_2
  subst e_2
  refine v_world (ws' := (gS  a ks ++ gW cI (fun i => a (1 + i)) wd ++ gF cI a fd)) rfl ?_
  refine v_ifb_eq (P := 0 ≤ z ∧ z < wd.2.2.1) (tgt := 27) G dX8_meet_8 (by decide) (fun c_4 => ?_) (fun c_4 => ?_)
  · skip
    refine v_aload_n (j := 0) (x := a 0) G dX8_meet_27 rfl rfl ?_
    refine v_ldc (z := (-1000000001)) G q_2 (by decide) dX8_meet_28 ?_
    refine v_ciP (w2 := (fun _ => (gS  a ks ++ gW cI (fun i => a (1 + i)) wd ++ gF cI a (uI fd 0 (fd 0 + 1))))) (wr := (gW cI (fun i => a (1 + i)) wd)) G (rn_V (As := [.int (jI (-1000000001))]) (rest := []) (q0 := 0) G (c_X8_found_0 (ks := ks) (fd := fd) (a := a) ) gX8_meet_X8_found rfl hdX8_found ⟨rfl, rfl, Nat.le_of_ble_eq_true rfl, Nat.le_of_ble_eq_true rfl⟩ rfl rfl (Nat.le_of_ble_eq_true rfl) ⟨Nat.zero_le _, Nat.zero_le _⟩ rfl rfl dX8_meet_30) [0, 11] [1, 2, 3, 4, 5, 6, 7, 8, 9, 10] [10, 0, 1, 2, 3, 4, 5, 6, 7, 8, 9, 11] rfl rfl (by decide) (fun _ => rfl) (fun r_5 u_7 e_6 => ?_)
    have e_6 : r_5 = jI (-1000000001) := e_6
    subst e_6
    refine v_world (ws' := (gS  a ks ++ gW cI (fun i => a (1 + i)) wd ++ gF cI a (uI fd 0 (fd 0 + 1)))) rfl ?_
    exact v_iret G (uI fd 0 (fd 0 + 1)) (by first | exact Or.inl ⟨(by omega), (by first | rfl | exact congrArg jI (by omega)), rfl⟩ | exact Or.inr (Or.inl ⟨(by omega), (by first | rfl | exact congrArg jI (by omega)), rfl⟩) | exact Or.inr (Or.inr (⟨(by omega), (by first | rfl | exact congrArg jI (by omega)), rfl⟩))) rfl dX8_meet_33
  · skip
    refine v_aload_n (j := 0) (x := a 0) G dX8_meet_11 rfl rfl ?_
    refine v_get (q0 := 0) (k := 0) (v := .ref (a 1)) G k_X8 rfl rfl (by decide) q_1 rfl rfl dX8_meet_12 ?_
    refine v_iload_n (j := 2) (x := jI y) G dX8_meet_15 rfl rfl ?_
    refine v_ciP (w2 := (fun _ => (gS  a ks ++ gW cI (fun i => a (1 + i)) wd ++ gF cI a fd))) (wr := (gS  a ks ++ gF cI a fd)) G (rn_V (As := [.int (jI y)]) (rest := []) (q0 := 0) G (c_X7_hasBeing (z := y) (x := wd) (b := fun i => a (1 + i)) (hw := hw) (hr := (by omega))) gX8_meet_X7_hasBeing rfl hdX7_hasBeing ⟨rfl, rfl, Nat.le_of_ble_eq_true rfl, Nat.le_of_ble_eq_true rfl⟩ rfl rfl (Nat.le_of_ble_eq_true rfl) ⟨Nat.zero_le _, Nat.zero_le _⟩ rfl rfl dX8_meet_16) [1, 2, 3, 4, 5, 6, 7, 8, 9, 10] [0, 11] [0, 2, 3, 4, 5, 6, 7, 8, 9, 10, 11, 1] rfl rfl (by decide) (fun _ => rfl) (fun r_8 u_10 e_9 => ?_)
    have e_9 : r_8 = jI (b2 (0 ≤ y ∧ y < wd.2.2.1)) := e_9
    subst e_9
    refine v_world (ws' := (gS  a ks ++ gW cI (fun i => a (1 + i)) wd ++ gF cI a fd)) rfl ?_
    refine v_ifb_eq (P := 0 ≤ y ∧ y < wd.2.2.1) (tgt := 27) G dX8_meet_19 (by decide) (fun c_11 => ?_) (fun c_11 => ?_)
    · skip
      refine v_aload_n (j := 0) (x := a 0) G dX8_meet_27 rfl rfl ?_
      refine v_ldc (z := (-1000000001)) G q_2 (by decide) dX8_meet_28 ?_
      refine v_ciP (w2 := (fun _ => (gS  a ks ++ gW cI (fun i => a (1 + i)) wd ++ gF cI a (uI fd 0 (fd 0 + 1))))) (wr := (gW cI (fun i => a (1 + i)) wd)) G (rn_V (As := [.int (jI (-1000000001))]) (rest := []) (q0 := 0) G (c_X8_found_0 (ks := ks) (fd := fd) (a := a) ) gX8_meet_X8_found rfl hdX8_found ⟨rfl, rfl, Nat.le_of_ble_eq_true rfl, Nat.le_of_ble_eq_true rfl⟩ rfl rfl (Nat.le_of_ble_eq_true rfl) ⟨Nat.zero_le _, Nat.zero_le _⟩ rfl rfl dX8_meet_30) [0, 11] [1, 2, 3, 4, 5, 6, 7, 8, 9, 10] [10, 0, 1, 2, 3, 4, 5, 6, 7, 8, 9, 11] rfl rfl (by decide) (fun _ => rfl) (fun r_12 u_14 e_13 => ?_)
      have e_13 : r_12 = jI (-1000000001) := e_13
      subst e_13
      refine v_world (ws' := (gS  a ks ++ gW cI (fun i => a (1 + i)) wd ++ gF cI a (uI fd 0 (fd 0 + 1)))) rfl ?_
      exact v_iret G (uI fd 0 (fd 0 + 1)) (by first | exact Or.inl ⟨(by omega), (by first | rfl | exact congrArg jI (by omega)), rfl⟩ | exact Or.inr (Or.inl ⟨(by omega), (by first | rfl | exact congrArg jI (by omega)), rfl⟩) | exact Or.inr (Or.inr (⟨(by omega), (by first | rfl | exact congrArg jI (by omega)), rfl⟩))) rfl dX8_meet_33
    · skip
      refine v_iload_n (j := 1) (x := jI z) G dX8_meet_22 rfl rfl ?_
      refine v_iload_n (j := 2) (x := jI y) G dX8_meet_23 rfl rfl ?_
      refine v_icmp_ne (a := z) (b := y) (tgt := 34) G dX8_meet_24 (by decide) (by omega) (fun c_15 => ?_) (fun c_15 => ?_)
      · skip
        refine v_iconst G dX8_meet_34 ?_
        refine v_istore_n (lv' := [(3, .int (jI 0)), (0, .ref (a 0)), (1, .int (jI z)), (2, .int (jI y))]) G dX8_meet_35 rfl (by decide) rfl ?_
        refine v_locs (lv' := [(3, .int (jI 0)), (0, .ref (a 0)), (1, .int (jI z)), (2, .int (jI y))]) [0, 1, 2, 3] rfl ?_
        refine v_loop1 (fun (n : Nat) => [(3, .int (jI (n : Int))), (0, .ref (a 0)), (1, .int (jI z)), (2, .int (jI y))]) (fun (n : Nat) => (gS  a ks ++ gW cI (fun i => a (1 + i)) wd ++ gF cI a fd)) (fun (n : Nat) => n ≤ 101 ∧ lstN (fun q_ : Nat => stF wd (q_ : Int) z = stF wd (q_ : Int) y) (101 - n) n = lstN (fun q_ : Nat => stF wd (q_ : Int) z = stF wd (q_ : Int) y) 101 0) (fun (n : Nat) => 101 - n) 0 ⟨by decide, rfl⟩ rfl rfl ?_
        intro n I_16 ih_17
        obtain ⟨hn, hz⟩ := id I_16
        refine v_iload_n (j := 0) (x := jI (n : Int)) G dX8_meet_36 rfl rfl ?_
        refine v_bipush G dX8_meet_37 (by decide) ?_
        refine v_icmp_gt (a := (n : Int)) (b := 100) (tgt := 71) G dX8_meet_39 (by decide) (by omega) (fun c_18 => ?_) (fun c_18 => ?_)
        · skip
          have hres : lstN (fun q_ : Nat => stF wd (q_ : Int) z = stF wd (q_ : Int) y) 101 0 = n := lst_o hz (by omega)
          refine v_aload_n (j := 1) (x := a 0) G dX8_meet_71 rfl rfl ?_
          refine v_ldc (z := (-1000000004)) G q_3 (by decide) dX8_meet_72 ?_
          refine v_ciP (w2 := (fun _ => (gS  a ks ++ gW cI (fun i => a (1 + i)) wd ++ gF cI a (uI fd 3 (fd 3 + 1))))) (wr := (gW cI (fun i => a (1 + i)) wd)) G (rn_V (As := [.int (jI (-1000000004))]) (rest := []) (q0 := 0) G (c_X8_found_3 (ks := ks) (fd := fd) (a := a) ) gX8_meet_X8_found rfl hdX8_found ⟨rfl, rfl, Nat.le_of_ble_eq_true rfl, Nat.le_of_ble_eq_true rfl⟩ rfl rfl (Nat.le_of_ble_eq_true rfl) ⟨Nat.zero_le _, Nat.zero_le _⟩ rfl rfl dX8_meet_74) [0, 11] [1, 2, 3, 4, 5, 6, 7, 8, 9, 10] [10, 0, 1, 2, 3, 4, 5, 6, 7, 8, 9, 11] rfl rfl (by decide) (fun _ => rfl) (fun r_19 u_21 e_20 => ?_)
          have e_20 : r_19 = jI (-1000000004) := e_20
          subst e_20
          refine v_world (ws' := (gS  a ks ++ gW cI (fun i => a (1 + i)) wd ++ gF cI a (uI fd 3 (fd 3 + 1)))) rfl ?_
          exact v_iret G (uI fd 3 (fd 3 + 1)) (by first | exact Or.inl ⟨(by omega), (by first | rfl | exact congrArg jI (by omega)), rfl⟩ | exact Or.inr (Or.inl ⟨(by omega), (by first | rfl | exact congrArg jI (by omega)), rfl⟩) | exact Or.inr (Or.inr (⟨(by omega), (by first | rfl | exact congrArg jI (by omega)), rfl⟩))) rfl dX8_meet_77
        · skip
          have hb1 := hw.being (b := z) (by omega) (by omega)
          have hb2 := hw.being (b := y) (by omega) (by omega)
          have hs1 : 0 ≤ stF wd (n : Int) z ∧ stF wd (n : Int) z ≤ 15 := cSt_r (by omega) (by omega) (by omega)
          have hs2 : 0 ≤ stF wd (n : Int) y ∧ stF wd (n : Int) y ≤ 15 := cSt_r (by omega) (by omega) (by omega)
          refine v_aload_n (j := 1) (x := a 0) G dX8_meet_42 rfl rfl ?_
          refine v_get (q0 := 0) (k := 0) (v := .ref (a 1)) G k_X8 rfl rfl (by decide) q_1 rfl rfl dX8_meet_43 ?_
          refine v_iload_n (j := 2) (x := jI z) G dX8_meet_46 rfl rfl ?_
          refine v_iload_n (j := 0) (x := jI (n : Int)) G dX8_meet_47 rfl rfl ?_
          refine v_ciP (w2 := (fun _ => (gS  a ks ++ gW cI (fun i => a (1 + i)) wd ++ gF cI a fd))) (wr := (gS  a ks ++ gF cI a fd)) G (rn_V (As := [.int (jI z), .int (jI (n : Int))]) (rest := []) (q0 := 0) G (c_X7_standsOn (z := z) (n := (n : Int)) (x := wd) (b := fun i => a (1 + i)) (hw := hw) (hz := (by omega))) gX8_meet_X7_standsOn rfl hdX7_standsOn ⟨rfl, rfl, Nat.le_of_ble_eq_true rfl, Nat.le_of_ble_eq_true rfl⟩ rfl rfl (Nat.le_of_ble_eq_true rfl) ⟨Nat.zero_le _, Nat.zero_le _⟩ rfl rfl dX8_meet_48) [1, 2, 3, 4, 5, 6, 7, 8, 9, 10] [0, 11] [0, 2, 3, 4, 5, 6, 7, 8, 9, 10, 11, 1] rfl rfl (by decide) (fun _ => rfl) (fun r_22 u_24 e_23 => ?_)
          have e_23 : r_22 = jI (stF wd (n : Int) z) := e_23
          subst e_23
          refine v_world (ws' := (gS  a ks ++ gW cI (fun i => a (1 + i)) wd ++ gF cI a fd)) rfl ?_
          refine v_aload_n (j := 1) (x := a 0) G dX8_meet_51 rfl rfl ?_
          refine v_get (q0 := 0) (k := 0) (v := .ref (a 1)) G k_X8 rfl rfl (by decide) q_1 rfl rfl dX8_meet_52 ?_
          refine v_iload_n (j := 3) (x := jI y) G dX8_meet_55 rfl rfl ?_
          refine v_iload_n (j := 0) (x := jI (n : Int)) G dX8_meet_56 rfl rfl ?_
          refine v_ciP (w2 := (fun _ => (gS  a ks ++ gW cI (fun i => a (1 + i)) wd ++ gF cI a fd))) (wr := (gS  a ks ++ gF cI a fd)) G (rn_V (As := [.int (jI y), .int (jI (n : Int))]) (rest := [.int (jI (stF wd (n : Int) z))]) (q0 := 0) G (c_X7_standsOn (z := y) (n := (n : Int)) (x := wd) (b := fun i => a (1 + i)) (hw := hw) (hz := (by omega))) gX8_meet_X7_standsOn rfl hdX7_standsOn ⟨rfl, rfl, Nat.le_of_ble_eq_true rfl, Nat.le_of_ble_eq_true rfl⟩ rfl rfl (Nat.le_of_ble_eq_true rfl) ⟨Nat.zero_le _, Nat.zero_le _⟩ rfl rfl dX8_meet_57) [1, 2, 3, 4, 5, 6, 7, 8, 9, 10] [0, 11] [0, 2, 3, 4, 5, 6, 7, 8, 9, 10, 11, 1] rfl rfl (by decide) (fun _ => rfl) (fun r_25 u_27 e_26 => ?_)
          have e_26 : r_25 = jI (stF wd (n : Int) y) := e_26
          subst e_26
          refine v_world (ws' := (gS  a ks ++ gW cI (fun i => a (1 + i)) wd ++ gF cI a fd)) rfl ?_
          refine v_icmp_ne (a := stF wd (n : Int) z) (b := stF wd (n : Int) y) (tgt := 65) G dX8_meet_60 (by decide) (by omega) (fun c_28 => ?_) (fun c_28 => ?_)
          · skip
            refine v_iinc (k := 0) (z := (n : Int)) (z' := ((n + 1 : Nat) : Int)) (lv' := [(3, .int (jI ((n + 1 : Nat) : Int))), (0, .ref (a 0)), (1, .int (jI z)), (2, .int (jI y))]) G dX8_meet_65 rfl (by omega) (by decide) rfl ?_
            refine v_goto (tgt := 36) G dX8_meet_68 (by decide) ?_
            exact ih_17 (n + 1) ⟨by omega, lst_s (by omega) (by assumption) I_16.2⟩ (by omega)
          · skip
            have hres : lstN (fun q_ : Nat => stF wd (q_ : Int) z = stF wd (q_ : Int) y) 101 0 = n := lst_i hz (by omega) (by assumption)
            refine v_iload_n (j := 0) (x := jI (n : Int)) G dX8_meet_63 rfl rfl ?_
            exact v_iret G (fd) (by first | exact Or.inl ⟨(by omega), (by first | rfl | exact congrArg jI (by omega)), rfl⟩ | exact Or.inr (Or.inl ⟨(by omega), (by first | rfl | exact congrArg jI (by omega)), rfl⟩) | exact Or.inr (Or.inr (⟨(by omega), (by first | rfl | exact congrArg jI (by omega)), rfl⟩))) rfl dX8_meet_64
      · skip
        refine v_aload_n (j := 0) (x := a 0) G dX8_meet_27 rfl rfl ?_
        refine v_ldc (z := (-1000000001)) G q_2 (by decide) dX8_meet_28 ?_
        refine v_ciP (w2 := (fun _ => (gS  a ks ++ gW cI (fun i => a (1 + i)) wd ++ gF cI a (uI fd 0 (fd 0 + 1))))) (wr := (gW cI (fun i => a (1 + i)) wd)) G (rn_V (As := [.int (jI (-1000000001))]) (rest := []) (q0 := 0) G (c_X8_found_0 (ks := ks) (fd := fd) (a := a) ) gX8_meet_X8_found rfl hdX8_found ⟨rfl, rfl, Nat.le_of_ble_eq_true rfl, Nat.le_of_ble_eq_true rfl⟩ rfl rfl (Nat.le_of_ble_eq_true rfl) ⟨Nat.zero_le _, Nat.zero_le _⟩ rfl rfl dX8_meet_30) [0, 11] [1, 2, 3, 4, 5, 6, 7, 8, 9, 10] [10, 0, 1, 2, 3, 4, 5, 6, 7, 8, 9, 11] rfl rfl (by decide) (fun _ => rfl) (fun r_29 u_31 e_30 => ?_)
        have e_30 : r_29 = jI (-1000000001) := e_30
        subst e_30
        refine v_world (ws' := (gS  a ks ++ gW cI (fun i => a (1 + i)) wd ++ gF cI a (uI fd 0 (fd 0 + 1)))) rfl ?_
        exact v_iret G (uI fd 0 (fd 0 + 1)) (by first | exact Or.inl ⟨(by omega), (by first | rfl | exact congrArg jI (by omega)), rfl⟩ | exact Or.inr (Or.inl ⟨(by omega), (by first | rfl | exact congrArg jI (by omega)), rfl⟩) | exact Or.inr (Or.inr (⟨(by omega), (by first | rfl | exact congrArg jI (by omega)), rfl⟩))) rfl dX8_meet_33
end

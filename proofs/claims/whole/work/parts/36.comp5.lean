theorem Wc.fast {x : WT} (h : Wc x) {z v : Int} (hz : 0 ≤ z ∧ z < 10) (hv : 0 ≤ v ∧ v ≤ 999) : Wc (x.1, x.2.1, x.2.2.1, x.2.2.2.1, x.2.2.2.2.1, x.2.2.2.2.2.1, x.2.2.2.2.2.2.1, uI x.2.2.2.2.2.2.2.1 z v, x.2.2.2.2.2.2.2.2.1, x.2.2.2.2.2.2.2.2.2.1, x.2.2.2.2.2.2.2.2.2.2.1, x.2.2.2.2.2.2.2.2.2.2.2) := by
  obtain ⟨h0, h1, h2, h3, h4, h5⟩ := h
  refine ⟨h0, h1, h2, h3, fun b b0 b1 => ?_, h5⟩
  have a := h4 b b0 b1
  refine ⟨a.1, a.2.1, a.2.2.1, a.2.2.2.1, ?_⟩
  show 0 ≤ uI x.2.2.2.2.2.2.2.1 z v b ∧ uI x.2.2.2.2.2.2.2.1 z v b ≤ 999
  unfold uI; split <;> omega
theorem Wc.turn {x : WT} (h : Wc x) {z v : Int} (hz : 0 ≤ z ∧ z < 10) (hv : -1 ≤ v ∧ v ≤ 5) : Wc (x.1, x.2.1, x.2.2.1, uI x.2.2.2.1 z v, x.2.2.2.2.1, x.2.2.2.2.2.1, x.2.2.2.2.2.2.1, x.2.2.2.2.2.2.2.1, x.2.2.2.2.2.2.2.2.1, x.2.2.2.2.2.2.2.2.2.1, x.2.2.2.2.2.2.2.2.2.2.1, x.2.2.2.2.2.2.2.2.2.2.2) := by
  obtain ⟨h0, h1, h2, h3, h4, h5⟩ := h
  refine ⟨h0, h1, h2, h3, fun b b0 b1 => ?_, h5⟩
  have a := h4 b b0 b1
  refine ⟨?_, a.2⟩
  show -1 ≤ uI x.2.2.2.1 z v b ∧ uI x.2.2.2.1 z v b ≤ 5
  unfold uI; split <;> omega
theorem Wc.aim {x : WT} (h : Wc x) {z v : Int} (hz : 0 ≤ z ∧ z < 10) (hv : 0 ≤ v ∧ v ≤ 15) : Wc (x.1, x.2.1, x.2.2.1, x.2.2.2.1, x.2.2.2.2.1, uI x.2.2.2.2.2.1 z v, x.2.2.2.2.2.2.1, x.2.2.2.2.2.2.2.1, x.2.2.2.2.2.2.2.2.1, x.2.2.2.2.2.2.2.2.2.1, x.2.2.2.2.2.2.2.2.2.2.1, x.2.2.2.2.2.2.2.2.2.2.2) := by
  obtain ⟨h0, h1, h2, h3, h4, h5⟩ := h
  refine ⟨h0, h1, h2, h3, fun b b0 b1 => ?_, h5⟩
  have a := h4 b b0 b1
  refine ⟨a.1, a.2.1, ?_, a.2.2.2⟩
  show 0 ≤ uI x.2.2.2.2.2.1 z v b ∧ uI x.2.2.2.2.2.1 z v b ≤ 15
  unfold uI; split <;> omega
theorem Wc.stand {x : WT} (h : Wc x) {z v : Int} (hz : 0 ≤ z ∧ z < 10) (hv : 0 ≤ v ∧ v ≤ 15) : Wc (x.1, x.2.1, x.2.2.1, x.2.2.2.1, uI x.2.2.2.2.1 z v, x.2.2.2.2.2.1, x.2.2.2.2.2.2.1, x.2.2.2.2.2.2.2.1, x.2.2.2.2.2.2.2.2.1, x.2.2.2.2.2.2.2.2.2.1, x.2.2.2.2.2.2.2.2.2.2.1, x.2.2.2.2.2.2.2.2.2.2.2) := by
  obtain ⟨h0, h1, h2, h3, h4, h5⟩ := h
  refine ⟨h0, h1, h2, h3, fun b b0 b1 => ?_, h5⟩
  have a := h4 b b0 b1
  refine ⟨a.1, ?_, a.2.2⟩
  show 0 ≤ uI x.2.2.2.2.1 z v b ∧ uI x.2.2.2.2.1 z v b ≤ 15
  unfold uI; split <;> omega
theorem Wc.fill {x : WT} (h : Wc x) {z v : Int} (hz : 0 ≤ z ∧ z < 16) (hv : 0 ≤ v ∧ v ≤ 99) : Wc (x.1, uI x.2.1 z v, x.2.2.1, x.2.2.2.1, x.2.2.2.2.1, x.2.2.2.2.2.1, x.2.2.2.2.2.2.1, x.2.2.2.2.2.2.2.1, x.2.2.2.2.2.2.2.2.1, x.2.2.2.2.2.2.2.2.2.1, x.2.2.2.2.2.2.2.2.2.2.1, x.2.2.2.2.2.2.2.2.2.2.2) := by
  obtain ⟨h0, h1, h2, h3, h4, h5⟩ := h
  refine ⟨h0, h1, h2, fun b b0 b1 => ?_, h4, h5⟩
  have a := h3 b b0 b1
  show 0 ≤ uI x.2.1 z v b ∧ uI x.2.1 z v b ≤ 99
  unfold uI; split <;> omega
theorem woW_w {x : WT} (h : Wc x) {z : Int} (hz : 0 ≤ z ∧ z < 10) : Wc (woW z x) := h.turn hz (by omega)
theorem chW_w {x : WT} (h : Wc x) {y s z : Int} (hy : 0 ≤ y ∧ y ≤ 2) (h0 : y = 0 → (0 ≤ z ∧ z < 16) ∧ 1 ≤ s ∧ s ≤ 99) (h1 : y = 1 → (0 ≤ s ∧ s < 10) ∧ 0 ≤ z ∧ z < 16) (h2 : y = 2 → (0 ≤ s ∧ s < 10) ∧ 0 ≤ z ∧ z < 6) : Wc (chW y s z x) := by
  unfold chW
  split
  · rename_i e
    have a := h.bowl (h0 e).1.1 (h0 e).1.2
    have b := jmin_z 99 (x.2.1 z + s)
    have c := h0 e
    exact h.fill c.1 (by omega)
  · split
    · rename_i e
      have c := h1 e
      exact h.aim c.1 (by omega)
    · have c := h2 (by omega)
      exact h.turn c.1 (by omega)
section
variable {l : Launch} {D : va_G} {cI cL cB cS : ClassId} {a b c : Nat → Nat} {x o wd kw tw : WT} {g gl : GT} {fd li : Int → Int} {wy : (Int → Int) × (Int → Int)} {lr : (Int → Int64) × (Int → Int)} {nx : Int} {ta : (Int → Int) × Int} {tk : (Int → Int) × (Int → Int) × (Int → Int) × Int} {s0 s1 s2 s3 : Int × Int × (Int → Int64)} {ks : Int}
set_option maxHeartbeats 4000000 in
set_option maxRecDepth 100000 in
theorem c_X8_hang (v : Int) (hw : Wc wd) (hr : (-2147483648 ≤ v ∧ v ≤ 2147483647)) : Ci l yX8_hang wsX8_hang { frames := 7, cells := 0, slots := 0, locals := 164 } D (jT cI cL cB cS) [.ref (a 0), .int (jI v)] (gS  a ks ++ gW cI (fun i => a (1 + i)) wd ++ gW cI (fun i => a (21 + i)) tw ++ gG cI (fun i => a (31 + i)) gl ++ gF cI a fd) (S := (Int → Int) × WT × GT) (fun u => (gS  a ks ++ gW cI (fun i => a (1 + i)) wd ++ gW cI (fun i => a (21 + i)) u.2.1 ++ gG cI (fun i => a (31 + i)) u.2.2 ++ gF cI a u.1)) (fun r u => ((¬ (1 ≤ v ∧ v ≤ 99)) ∧ r = jI (-1000000001) ∧ u.1 = uI fd 0 (fd 0 + 1)) ∨ ((1 ≤ v ∧ v ≤ 99) ∧ r = jI (bsN (fun z_ => ctN (cDn (chW 0 v z_ wd)) (wd.2.2.2.2.2.2.2.2.1).toNat) 16) ∧ u.1 = fd)) := by
  refine Ci.mk (cc := cX8_hang) (maxL := 2) (rt := .int) (by decide) rfl (Nat.le_of_ble_eq_true rfl) rfl ?_
  intro p_ e_ s_ m_ b_ me_ c_ A_ G hnm
  have hm := hw.many
  have hmt := hw.tasks
  have hh := hw.hour
  have q_0 : Cond.constant RX8 83 (-1000000001) ∈ wsX8_hang := List.mem_of_getElem? (i := 1) rfl
  refine v_iload_n (j := 1) (x := jI v) G dX8_hang_0 rfl rfl ?_
  refine v_iconst G dX8_hang_1 ?_
  refine v_bipush G dX8_hang_2 (by decide) ?_
  refine v_ciN G (rn_S (As := [.int (jI v), .int (jI 1), .int (jI 99)]) (rest := []) G (c_X8_within (v := v) (lo := 1) (hi := 99) (hr := (by omega))) gX8_hang_X8_within rfl hdX8_within ⟨rfl, rfl, Nat.le_of_ble_eq_true rfl, Nat.le_of_ble_eq_true rfl⟩ rfl rfl (Nat.le_of_ble_eq_true rfl) ⟨Nat.zero_le _, Nat.zero_le _⟩ dX8_hang_4) (fun r_1 u_3 e_2 => ?_)
  have e_2 : r_1 = jI (b2 ((1 : Int) ≤ v ∧ v ≤ (99 : Int))) := e_2
  subst e_2
  refine v_ifb_eq (P := (1 : Int) ≤ v ∧ v ≤ (99 : Int)) (tgt := 21) G dX8_hang_7 (by decide) (fun c_4 => ?_) (fun c_4 => ?_)
  · skip
    refine v_aload_n (j := 0) (x := a 0) G dX8_hang_21 rfl rfl ?_
    refine v_ldc (z := (-1000000001)) G q_0 (by decide) dX8_hang_22 ?_
    refine v_ciP (w2 := (fun _ => (gS  a ks ++ gW cI (fun i => a (1 + i)) wd ++ gW cI (fun i => a (21 + i)) tw ++ gG cI (fun i => a (31 + i)) gl ++ gF cI a (uI fd 0 (fd 0 + 1))))) (wr := (gW cI (fun i => a (1 + i)) wd ++ gW cI (fun i => a (21 + i)) tw ++ gG cI (fun i => a (31 + i)) gl)) G (rn_V (As := [.int (jI (-1000000001))]) (rest := []) (q0 := 0) G (c_X8_found_0 (ks := ks) (fd := fd) (a := a) ) gX8_hang_X8_found rfl hdX8_found ⟨rfl, rfl, Nat.le_of_ble_eq_true rfl, Nat.le_of_ble_eq_true rfl⟩ rfl rfl (Nat.le_of_ble_eq_true rfl) ⟨Nat.zero_le _, Nat.zero_le _⟩ rfl rfl dX8_hang_24) [0, 26] [1, 2, 3, 4, 5, 6, 7, 8, 9, 10, 11, 12, 13, 14, 15, 16, 17, 18, 19, 20, 21, 22, 23, 24, 25] [25, 0, 1, 2, 3, 4, 5, 6, 7, 8, 9, 10, 11, 12, 13, 14, 15, 16, 17, 18, 19, 20, 21, 22, 23, 24, 26] rfl rfl (by decide) (fun _ => rfl) (fun r_5 u_7 e_6 => ?_)
    have e_6 : r_5 = jI (-1000000001) := e_6
    subst e_6
    refine v_world (ws' := (gS  a ks ++ gW cI (fun i => a (1 + i)) wd ++ gW cI (fun i => a (21 + i)) tw ++ gG cI (fun i => a (31 + i)) gl ++ gF cI a (uI fd 0 (fd 0 + 1)))) rfl ?_
    exact v_iret G (uI fd 0 (fd 0 + 1), tw, gl) (by first | exact Or.inl ⟨(by omega), (by first | rfl | exact congrArg jI (by omega)), rfl⟩ | exact Or.inr (⟨(by omega), (by first | rfl | exact congrArg jI (by omega)), rfl⟩)) rfl dX8_hang_27
  · skip
    refine v_aload_n (j := 0) (x := a 0) G dX8_hang_10 rfl rfl ?_
    refine v_iconst G dX8_hang_11 ?_
    refine v_iload_n (j := 1) (x := jI v) G dX8_hang_12 rfl rfl ?_
    refine v_bipush G dX8_hang_13 (by decide) ?_
    refine v_ciP (w2 := (fun u => (gS  a ks ++ gW cI (fun i => a (1 + i)) wd ++ gW cI (fun i => a (21 + i)) u.1 ++ gG cI (fun i => a (31 + i)) u.2 ++ gF cI a fd))) (wr := (gF cI a fd)) G (rn_V (As := [.int (jI 0), .int (jI v), .int (jI 16)]) (rest := []) (q0 := 0) G (c_X8_bestChoice (y := 0) (s := v) (n := 16) (ks := ks) (wd := wd) (tw := tw) (gl := gl) (a := a) (hw := hw) (hy := (by omega)) (hws := (fun z y0 y1 => chW_w hw (by omega) (by omega) (by omega) (by omega)))) gX8_hang_X8_bestChoice rfl hdX8_bestChoice ⟨rfl, rfl, Nat.le_of_ble_eq_true rfl, Nat.le_of_ble_eq_true rfl⟩ rfl rfl (Nat.le_of_ble_eq_true rfl) ⟨Nat.zero_le _, Nat.zero_le _⟩ rfl rfl dX8_hang_15) [0, 1, 2, 3, 4, 5, 6, 7, 8, 9, 10, 11, 12, 13, 14, 15, 16, 17, 18, 19, 20, 21, 22, 23, 24, 25] [26] [1, 2, 3, 4, 5, 6, 7, 8, 9, 10, 11, 12, 13, 14, 15, 16, 17, 18, 19, 20, 21, 22, 23, 24, 25, 26, 0] rfl rfl (by decide) (fun _ => rfl) (fun r_10 u_12 e_11 => ?_)
    obtain ⟨tw2_8, gl2_9⟩ := u_12
    have e_11 : r_10 = jI (bsN (fun z_ => ctN (cDn (chW 0 v z_ wd)) (wd.2.2.2.2.2.2.2.2.1).toNat) 16) ∧ True := e_11
    obtain ⟨e_110, e_11⟩ := e_11
    subst e_110
    refine v_world (ws' := (gS  a ks ++ gW cI (fun i => a (1 + i)) wd ++ gW cI (fun i => a (21 + i)) tw2_8 ++ gG cI (fun i => a (31 + i)) gl2_9 ++ gF cI a fd)) rfl ?_
    refine v_goto (tgt := 27) G dX8_hang_18 (by decide) ?_
    exact v_iret G (fd, tw2_8, gl2_9) (by first | exact Or.inl ⟨(by omega), (by first | rfl | exact congrArg jI (by omega)), rfl⟩ | exact Or.inr (⟨(by omega), (by first | rfl | exact congrArg jI (by omega)), rfl⟩)) rfl dX8_hang_27

set_option maxHeartbeats 4000000 in
set_option maxRecDepth 100000 in
theorem c_X8_goal (z : Int) (hw : Wc wd) (hr : (-2147483648 ≤ z ∧ z ≤ 2147483647)) : Ci l yX8_goal wsX8_goal { frames := 7, cells := 0, slots := 0, locals := 164 } D (jT cI cL cB cS) [.ref (a 0), .int (jI z)] (gS  a ks ++ gW cI (fun i => a (1 + i)) wd ++ gW cI (fun i => a (21 + i)) tw ++ gG cI (fun i => a (31 + i)) gl ++ gF cI a fd) (S := (Int → Int) × WT × GT) (fun u => (gS  a ks ++ gW cI (fun i => a (1 + i)) wd ++ gW cI (fun i => a (21 + i)) u.2.1 ++ gG cI (fun i => a (31 + i)) u.2.2 ++ gF cI a u.1)) (fun r u => ((¬ (0 ≤ z ∧ z < wd.2.2.1)) ∧ r = jI (-1000000001) ∧ u.1 = uI fd 0 (fd 0 + 1)) ∨ (((0 ≤ z ∧ z < wd.2.2.1)) ∧ r = jI (bsN (fun z_ => ctN (cDn (chW 1 z z_ wd)) (wd.2.2.2.2.2.2.2.2.1).toNat) 16) ∧ u.1 = fd)) := by
  refine Ci.mk (cc := cX8_goal) (maxL := 2) (rt := .int) (by decide) rfl (Nat.le_of_ble_eq_true rfl) rfl ?_
  intro p_ e_ s_ m_ b_ me_ c_ A_ G hnm
  have hm := hw.many
  have hmt := hw.tasks
  have hh := hw.hour
  have k_X8 : ∀ w ∈ u_ws RX8 TX8 12, w ∈ wsX8_goal := fun _ h => List.mem_cons_of_mem _ (List.mem_append_left _ (List.mem_append_left _ (List.mem_append_right _ h)))
  have q_1 : Cond.fieldLink RX8 10 "SupperLight" "world" "LSupperLight$World;" ∈ wsX8_goal := List.mem_of_getElem? (i := 1) rfl
  have q_2 : Cond.constant RX8 83 (-1000000001) ∈ wsX8_goal := List.mem_of_getElem? (i := 2) rfl
  refine v_aload_n (j := 0) (x := a 0) G dX8_goal_0 rfl rfl ?_
  refine v_get (q0 := 0) (k := 0) (v := .ref (a 1)) G k_X8 rfl rfl (by decide) q_1 rfl rfl dX8_goal_1 ?_
  refine v_iload_n (j := 1) (x := jI z) G dX8_goal_4 rfl rfl ?_
  refine v_ciP (w2 := (fun _ => (gS  a ks ++ gW cI (fun i => a (1 + i)) wd ++ gW cI (fun i => a (21 + i)) tw ++ gG cI (fun i => a (31 + i)) gl ++ gF cI a fd))) (wr := (gS  a ks ++ gW cI (fun i => a (21 + i)) tw ++ gG cI (fun i => a (31 + i)) gl ++ gF cI a fd)) G (rn_V (As := [.int (jI z)]) (rest := []) (q0 := 0) G (c_X7_hasBeing (z := z) (x := wd) (b := fun i => a (1 + i)) (hw := hw) (hr := (by omega))) gX8_goal_X7_hasBeing rfl hdX7_hasBeing ⟨rfl, rfl, Nat.le_of_ble_eq_true rfl, Nat.le_of_ble_eq_true rfl⟩ rfl rfl (Nat.le_of_ble_eq_true rfl) ⟨Nat.zero_le _, Nat.zero_le _⟩ rfl rfl dX8_goal_5) [1, 2, 3, 4, 5, 6, 7, 8, 9, 10] [0, 11, 12, 13, 14, 15, 16, 17, 18, 19, 20, 21, 22, 23, 24, 25, 26] [0, 17, 18, 19, 20, 21, 22, 23, 24, 25, 26, 1, 2, 3, 4, 5, 6, 7, 8, 9, 10, 11, 12, 13, 14, 15, 16] rfl rfl (by decide) (fun _ => rfl) (fun r_1 u_3 e_2 => ?_)
  have e_2 : r_1 = jI (b2 (0 ≤ z ∧ z < wd.2.2.1)) := e_2
  subst e_2
  refine v_world (ws' := (gS  a ks ++ gW cI (fun i => a (1 + i)) wd ++ gW cI (fun i => a (21 + i)) tw ++ gG cI (fun i => a (31 + i)) gl ++ gF cI a fd)) rfl ?_
  refine v_ifb_eq (P := 0 ≤ z ∧ z < wd.2.2.1) (tgt := 22) G dX8_goal_8 (by decide) (fun c_4 => ?_) (fun c_4 => ?_)
  · skip
    refine v_aload_n (j := 0) (x := a 0) G dX8_goal_22 rfl rfl ?_
    refine v_ldc (z := (-1000000001)) G q_2 (by decide) dX8_goal_23 ?_
    refine v_ciP (w2 := (fun _ => (gS  a ks ++ gW cI (fun i => a (1 + i)) wd ++ gW cI (fun i => a (21 + i)) tw ++ gG cI (fun i => a (31 + i)) gl ++ gF cI a (uI fd 0 (fd 0 + 1))))) (wr := (gW cI (fun i => a (1 + i)) wd ++ gW cI (fun i => a (21 + i)) tw ++ gG cI (fun i => a (31 + i)) gl)) G (rn_V (As := [.int (jI (-1000000001))]) (rest := []) (q0 := 0) G (c_X8_found_0 (ks := ks) (fd := fd) (a := a) ) gX8_goal_X8_found rfl hdX8_found ⟨rfl, rfl, Nat.le_of_ble_eq_true rfl, Nat.le_of_ble_eq_true rfl⟩ rfl rfl (Nat.le_of_ble_eq_true rfl) ⟨Nat.zero_le _, Nat.zero_le _⟩ rfl rfl dX8_goal_25) [0, 26] [1, 2, 3, 4, 5, 6, 7, 8, 9, 10, 11, 12, 13, 14, 15, 16, 17, 18, 19, 20, 21, 22, 23, 24, 25] [25, 0, 1, 2, 3, 4, 5, 6, 7, 8, 9, 10, 11, 12, 13, 14, 15, 16, 17, 18, 19, 20, 21, 22, 23, 24, 26] rfl rfl (by decide) (fun _ => rfl) (fun r_5 u_7 e_6 => ?_)
    have e_6 : r_5 = jI (-1000000001) := e_6
    subst e_6
    refine v_world (ws' := (gS  a ks ++ gW cI (fun i => a (1 + i)) wd ++ gW cI (fun i => a (21 + i)) tw ++ gG cI (fun i => a (31 + i)) gl ++ gF cI a (uI fd 0 (fd 0 + 1)))) rfl ?_
    exact v_iret G (uI fd 0 (fd 0 + 1), tw, gl) (by first | exact Or.inl ⟨(by omega), (by first | rfl | exact congrArg jI (by omega)), rfl⟩ | exact Or.inr (⟨(by omega), (by first | rfl | exact congrArg jI (by omega)), rfl⟩)) rfl dX8_goal_28
  · skip
    refine v_aload_n (j := 0) (x := a 0) G dX8_goal_11 rfl rfl ?_
    refine v_iconst G dX8_goal_12 ?_
    refine v_iload_n (j := 1) (x := jI z) G dX8_goal_13 rfl rfl ?_
    refine v_bipush G dX8_goal_14 (by decide) ?_
    refine v_ciP (w2 := (fun u => (gS  a ks ++ gW cI (fun i => a (1 + i)) wd ++ gW cI (fun i => a (21 + i)) u.1 ++ gG cI (fun i => a (31 + i)) u.2 ++ gF cI a fd))) (wr := (gF cI a fd)) G (rn_V (As := [.int (jI 1), .int (jI z), .int (jI 16)]) (rest := []) (q0 := 0) G (c_X8_bestChoice (y := 1) (s := z) (n := 16) (ks := ks) (wd := wd) (tw := tw) (gl := gl) (a := a) (hw := hw) (hy := (by omega)) (hws := (fun z y0 y1 => chW_w hw (by omega) (by omega) (by omega) (by omega)))) gX8_goal_X8_bestChoice rfl hdX8_bestChoice ⟨rfl, rfl, Nat.le_of_ble_eq_true rfl, Nat.le_of_ble_eq_true rfl⟩ rfl rfl (Nat.le_of_ble_eq_true rfl) ⟨Nat.zero_le _, Nat.zero_le _⟩ rfl rfl dX8_goal_16) [0, 1, 2, 3, 4, 5, 6, 7, 8, 9, 10, 11, 12, 13, 14, 15, 16, 17, 18, 19, 20, 21, 22, 23, 24, 25] [26] [1, 2, 3, 4, 5, 6, 7, 8, 9, 10, 11, 12, 13, 14, 15, 16, 17, 18, 19, 20, 21, 22, 23, 24, 25, 26, 0] rfl rfl (by decide) (fun _ => rfl) (fun r_10 u_12 e_11 => ?_)
    obtain ⟨tw2_8, gl2_9⟩ := u_12
    have e_11 : r_10 = jI (bsN (fun z_ => ctN (cDn (chW 1 z z_ wd)) (wd.2.2.2.2.2.2.2.2.1).toNat) 16) ∧ True := e_11
    obtain ⟨e_110, e_11⟩ := e_11
    subst e_110
    refine v_world (ws' := (gS  a ks ++ gW cI (fun i => a (1 + i)) wd ++ gW cI (fun i => a (21 + i)) tw2_8 ++ gG cI (fun i => a (31 + i)) gl2_9 ++ gF cI a fd)) rfl ?_
    refine v_goto (tgt := 28) G dX8_goal_19 (by decide) ?_
    exact v_iret G (fd, tw2_8, gl2_9) (by first | exact Or.inl ⟨(by omega), (by first | rfl | exact congrArg jI (by omega)), rfl⟩ | exact Or.inr (⟨(by omega), (by first | rfl | exact congrArg jI (by omega)), rfl⟩)) rfl dX8_goal_28

set_option maxHeartbeats 4000000 in
set_option maxRecDepth 100000 in
theorem c_X8_kind (z : Int) (hw : Wc wd) (hr : (-2147483648 ≤ z ∧ z ≤ 2147483647)) : Ci l yX8_kind wsX8_kind { frames := 7, cells := 0, slots := 0, locals := 164 } D (jT cI cL cB cS) [.ref (a 0), .int (jI z)] (gS  a ks ++ gW cI (fun i => a (1 + i)) wd ++ gW cI (fun i => a (21 + i)) tw ++ gG cI (fun i => a (31 + i)) gl ++ gF cI a fd) (S := (Int → Int) × WT × GT) (fun u => (gS  a ks ++ gW cI (fun i => a (1 + i)) wd ++ gW cI (fun i => a (21 + i)) u.2.1 ++ gG cI (fun i => a (31 + i)) u.2.2 ++ gF cI a u.1)) (fun r u => ((¬ (0 ≤ z ∧ z < wd.2.2.1)) ∧ r = jI (-1000000001) ∧ u.1 = uI fd 0 (fd 0 + 1)) ∨ (((0 ≤ z ∧ z < wd.2.2.1)) ∧ r = jI (bsN (fun z_ => ctN (cDn (chW 2 z z_ wd)) (wd.2.2.2.2.2.2.2.2.1).toNat) 6) ∧ u.1 = fd)) := by
  refine Ci.mk (cc := cX8_kind) (maxL := 2) (rt := .int) (by decide) rfl (Nat.le_of_ble_eq_true rfl) rfl ?_
  intro p_ e_ s_ m_ b_ me_ c_ A_ G hnm
  have hm := hw.many
  have hmt := hw.tasks
  have hh := hw.hour
  have k_X8 : ∀ w ∈ u_ws RX8 TX8 12, w ∈ wsX8_kind := fun _ h => List.mem_cons_of_mem _ (List.mem_append_left _ (List.mem_append_left _ (List.mem_append_right _ h)))
  have q_1 : Cond.fieldLink RX8 10 "SupperLight" "world" "LSupperLight$World;" ∈ wsX8_kind := List.mem_of_getElem? (i := 1) rfl
  have q_2 : Cond.constant RX8 83 (-1000000001) ∈ wsX8_kind := List.mem_of_getElem? (i := 2) rfl
  refine v_aload_n (j := 0) (x := a 0) G dX8_kind_0 rfl rfl ?_
  refine v_get (q0 := 0) (k := 0) (v := .ref (a 1)) G k_X8 rfl rfl (by decide) q_1 rfl rfl dX8_kind_1 ?_
  refine v_iload_n (j := 1) (x := jI z) G dX8_kind_4 rfl rfl ?_
  refine v_ciP (w2 := (fun _ => (gS  a ks ++ gW cI (fun i => a (1 + i)) wd ++ gW cI (fun i => a (21 + i)) tw ++ gG cI (fun i => a (31 + i)) gl ++ gF cI a fd))) (wr := (gS  a ks ++ gW cI (fun i => a (21 + i)) tw ++ gG cI (fun i => a (31 + i)) gl ++ gF cI a fd)) G (rn_V (As := [.int (jI z)]) (rest := []) (q0 := 0) G (c_X7_hasBeing (z := z) (x := wd) (b := fun i => a (1 + i)) (hw := hw) (hr := (by omega))) gX8_kind_X7_hasBeing rfl hdX7_hasBeing ⟨rfl, rfl, Nat.le_of_ble_eq_true rfl, Nat.le_of_ble_eq_true rfl⟩ rfl rfl (Nat.le_of_ble_eq_true rfl) ⟨Nat.zero_le _, Nat.zero_le _⟩ rfl rfl dX8_kind_5) [1, 2, 3, 4, 5, 6, 7, 8, 9, 10] [0, 11, 12, 13, 14, 15, 16, 17, 18, 19, 20, 21, 22, 23, 24, 25, 26] [0, 17, 18, 19, 20, 21, 22, 23, 24, 25, 26, 1, 2, 3, 4, 5, 6, 7, 8, 9, 10, 11, 12, 13, 14, 15, 16] rfl rfl (by decide) (fun _ => rfl) (fun r_1 u_3 e_2 => ?_)
  have e_2 : r_1 = jI (b2 (0 ≤ z ∧ z < wd.2.2.1)) := e_2
  subst e_2
  refine v_world (ws' := (gS  a ks ++ gW cI (fun i => a (1 + i)) wd ++ gW cI (fun i => a (21 + i)) tw ++ gG cI (fun i => a (31 + i)) gl ++ gF cI a fd)) rfl ?_
  refine v_ifb_eq (P := 0 ≤ z ∧ z < wd.2.2.1) (tgt := 22) G dX8_kind_8 (by decide) (fun c_4 => ?_) (fun c_4 => ?_)
  · skip
    refine v_aload_n (j := 0) (x := a 0) G dX8_kind_22 rfl rfl ?_
    refine v_ldc (z := (-1000000001)) G q_2 (by decide) dX8_kind_23 ?_
    refine v_ciP (w2 := (fun _ => (gS  a ks ++ gW cI (fun i => a (1 + i)) wd ++ gW cI (fun i => a (21 + i)) tw ++ gG cI (fun i => a (31 + i)) gl ++ gF cI a (uI fd 0 (fd 0 + 1))))) (wr := (gW cI (fun i => a (1 + i)) wd ++ gW cI (fun i => a (21 + i)) tw ++ gG cI (fun i => a (31 + i)) gl)) G (rn_V (As := [.int (jI (-1000000001))]) (rest := []) (q0 := 0) G (c_X8_found_0 (ks := ks) (fd := fd) (a := a) ) gX8_kind_X8_found rfl hdX8_found ⟨rfl, rfl, Nat.le_of_ble_eq_true rfl, Nat.le_of_ble_eq_true rfl⟩ rfl rfl (Nat.le_of_ble_eq_true rfl) ⟨Nat.zero_le _, Nat.zero_le _⟩ rfl rfl dX8_kind_25) [0, 26] [1, 2, 3, 4, 5, 6, 7, 8, 9, 10, 11, 12, 13, 14, 15, 16, 17, 18, 19, 20, 21, 22, 23, 24, 25] [25, 0, 1, 2, 3, 4, 5, 6, 7, 8, 9, 10, 11, 12, 13, 14, 15, 16, 17, 18, 19, 20, 21, 22, 23, 24, 26] rfl rfl (by decide) (fun _ => rfl) (fun r_5 u_7 e_6 => ?_)
    have e_6 : r_5 = jI (-1000000001) := e_6
    subst e_6
    refine v_world (ws' := (gS  a ks ++ gW cI (fun i => a (1 + i)) wd ++ gW cI (fun i => a (21 + i)) tw ++ gG cI (fun i => a (31 + i)) gl ++ gF cI a (uI fd 0 (fd 0 + 1)))) rfl ?_
    exact v_iret G (uI fd 0 (fd 0 + 1), tw, gl) (by first | exact Or.inl ⟨(by omega), (by first | rfl | exact congrArg jI (by omega)), rfl⟩ | exact Or.inr (⟨(by omega), (by first | rfl | exact congrArg jI (by omega)), rfl⟩)) rfl dX8_kind_28
  · skip
    refine v_aload_n (j := 0) (x := a 0) G dX8_kind_11 rfl rfl ?_
    refine v_iconst G dX8_kind_12 ?_
    refine v_iload_n (j := 1) (x := jI z) G dX8_kind_13 rfl rfl ?_
    refine v_bipush G dX8_kind_14 (by decide) ?_
    refine v_ciP (w2 := (fun u => (gS  a ks ++ gW cI (fun i => a (1 + i)) wd ++ gW cI (fun i => a (21 + i)) u.1 ++ gG cI (fun i => a (31 + i)) u.2 ++ gF cI a fd))) (wr := (gF cI a fd)) G (rn_V (As := [.int (jI 2), .int (jI z), .int (jI 6)]) (rest := []) (q0 := 0) G (c_X8_bestChoice (y := 2) (s := z) (n := 6) (ks := ks) (wd := wd) (tw := tw) (gl := gl) (a := a) (hw := hw) (hy := (by omega)) (hws := (fun z y0 y1 => chW_w hw (by omega) (by omega) (by omega) (by omega)))) gX8_kind_X8_bestChoice rfl hdX8_bestChoice ⟨rfl, rfl, Nat.le_of_ble_eq_true rfl, Nat.le_of_ble_eq_true rfl⟩ rfl rfl (Nat.le_of_ble_eq_true rfl) ⟨Nat.zero_le _, Nat.zero_le _⟩ rfl rfl dX8_kind_16) [0, 1, 2, 3, 4, 5, 6, 7, 8, 9, 10, 11, 12, 13, 14, 15, 16, 17, 18, 19, 20, 21, 22, 23, 24, 25] [26] [1, 2, 3, 4, 5, 6, 7, 8, 9, 10, 11, 12, 13, 14, 15, 16, 17, 18, 19, 20, 21, 22, 23, 24, 25, 26, 0] rfl rfl (by decide) (fun _ => rfl) (fun r_10 u_12 e_11 => ?_)
    obtain ⟨tw2_8, gl2_9⟩ := u_12
    have e_11 : r_10 = jI (bsN (fun z_ => ctN (cDn (chW 2 z z_ wd)) (wd.2.2.2.2.2.2.2.2.1).toNat) 6) ∧ True := e_11
    obtain ⟨e_110, e_11⟩ := e_11
    subst e_110
    refine v_world (ws' := (gS  a ks ++ gW cI (fun i => a (1 + i)) wd ++ gW cI (fun i => a (21 + i)) tw2_8 ++ gG cI (fun i => a (31 + i)) gl2_9 ++ gF cI a fd)) rfl ?_
    refine v_goto (tgt := 28) G dX8_kind_19 (by decide) ?_
    exact v_iret G (fd, tw2_8, gl2_9) (by first | exact Or.inl ⟨(by omega), (by first | rfl | exact congrArg jI (by omega)), rfl⟩ | exact Or.inr (⟨(by omega), (by first | rfl | exact congrArg jI (by omega)), rfl⟩)) rfl dX8_kind_28

set_option maxHeartbeats 4000000 in
set_option maxRecDepth 100000 in
theorem c_X8_meal (z t : Int) (hw : Wc wd) (hr : (-2147483648 ≤ z ∧ z ≤ 2147483647) ∧ (-2147483648 ≤ t ∧ t ≤ 2147483647)) : Ci l yX8_meal wsX8_meal { frames := 5, cells := 0, slots := 0, locals := 114 } D (jT cI cL cB cS) [.ref (a 0), .int (jI z), .int (jI t)] (gS  a ks ++ gW cI (fun i => a (1 + i)) wd ++ gW cI (fun i => a (21 + i)) tw ++ gG cI (fun i => a (31 + i)) gl ++ gF cI a fd) (S := (Int → Int) × WT × GT) (fun u => (gS  a ks ++ gW cI (fun i => a (1 + i)) wd ++ gW cI (fun i => a (21 + i)) u.2.1 ++ gG cI (fun i => a (31 + i)) u.2.2 ++ gF cI a u.1)) (fun r u => ((¬ ((0 ≤ z ∧ z < wd.2.2.1) ∧ (0 ≤ t ∧ t < wd.2.2.2.2.2.2.2.2.1))) ∧ r = jI (-1000000001) ∧ u.1 = uI fd 0 (fd 0 + 1)) ∨ ((((0 ≤ z ∧ z < wd.2.2.1) ∧ (0 ≤ t ∧ t < wd.2.2.2.2.2.2.2.2.1)) ∧ lstN (fun q_ : Nat => cDn (wd.1, wd.2.1, wd.2.2.1, wd.2.2.2.1, wd.2.2.2.2.1, wd.2.2.2.2.2.1, uI wd.2.2.2.2.2.2.1 z (q_ : Int), uI wd.2.2.2.2.2.2.2.1 z 0, wd.2.2.2.2.2.2.2.2.1, wd.2.2.2.2.2.2.2.2.2.1, wd.2.2.2.2.2.2.2.2.2.2.1, wd.2.2.2.2.2.2.2.2.2.2.2) t) 100 0 ≤ 99) ∧ r = jI (lstN (fun q_ : Nat => cDn (wd.1, wd.2.1, wd.2.2.1, wd.2.2.2.1, wd.2.2.2.2.1, wd.2.2.2.2.2.1, uI wd.2.2.2.2.2.2.1 z (q_ : Int), uI wd.2.2.2.2.2.2.2.1 z 0, wd.2.2.2.2.2.2.2.2.1, wd.2.2.2.2.2.2.2.2.2.1, wd.2.2.2.2.2.2.2.2.2.2.1, wd.2.2.2.2.2.2.2.2.2.2.2) t) 100 0 : Int) ∧ u.1 = fd) ∨ ((((0 ≤ z ∧ z < wd.2.2.1) ∧ (0 ≤ t ∧ t < wd.2.2.2.2.2.2.2.2.1)) ∧ 99 < lstN (fun q_ : Nat => cDn (wd.1, wd.2.1, wd.2.2.1, wd.2.2.2.1, wd.2.2.2.2.1, wd.2.2.2.2.2.1, uI wd.2.2.2.2.2.2.1 z (q_ : Int), uI wd.2.2.2.2.2.2.2.1 z 0, wd.2.2.2.2.2.2.2.2.1, wd.2.2.2.2.2.2.2.2.2.1, wd.2.2.2.2.2.2.2.2.2.2.1, wd.2.2.2.2.2.2.2.2.2.2.2) t) 100 0) ∧ r = jI (-1000000004) ∧ u.1 = uI fd 3 (fd 3 + 1))) := by
  refine Ci.mk (cc := cX8_meal) (maxL := 4) (rt := .int) (by decide) rfl (Nat.le_of_ble_eq_true rfl) rfl ?_
  intro p_ e_ s_ m_ b_ me_ c_ A_ G hnm
  have hm := hw.many
  have hmt := hw.tasks
  have hh := hw.hour
  have k_X8 : ∀ w ∈ u_ws RX8 TX8 12, w ∈ wsX8_meal := fun _ h => List.mem_cons_of_mem _ (List.mem_append_left _ (List.mem_append_left _ (List.mem_append_right _ h)))
  have q_1 : Cond.fieldLink RX8 10 "SupperLight" "world" "LSupperLight$World;" ∈ wsX8_meal := List.mem_of_getElem? (i := 1) rfl
  have q_2 : Cond.constant RX8 83 (-1000000001) ∈ wsX8_meal := List.mem_of_getElem? (i := 2) rfl
  have q_3 : Cond.fieldLink RX8 19 "SupperLight" "trial" "LSupperLight$World;" ∈ wsX8_meal := List.mem_of_getElem? (i := 3) rfl
  have q_4 : Cond.constant RX8 208 (-1000000004) ∈ wsX8_meal := List.mem_of_getElem? (i := 4) rfl
  refine v_aload_n (j := 0) (x := a 0) G dX8_meal_0 rfl rfl ?_
  refine v_get (q0 := 0) (k := 0) (v := .ref (a 1)) G k_X8 rfl rfl (by decide) q_1 rfl rfl dX8_meal_1 ?_
  refine v_iload_n (j := 1) (x := jI z) G dX8_meal_4 rfl rfl ?_
  refine v_ciP (w2 := (fun _ => (gS  a ks ++ gW cI (fun i => a (1 + i)) wd ++ gW cI (fun i => a (21 + i)) tw ++ gG cI (fun i => a (31 + i)) gl ++ gF cI a fd))) (wr := (gS  a ks ++ gW cI (fun i => a (21 + i)) tw ++ gG cI (fun i => a (31 + i)) gl ++ gF cI a fd)) G (rn_V (As := [.int (jI z)]) (rest := []) (q0 := 0) G (c_X7_hasBeing (z := z) (x := wd) (b := fun i => a (1 + i)) (hw := hw) (hr := (by omega))) gX8_meal_X7_hasBeing rfl hdX7_hasBeing ⟨rfl, rfl, Nat.le_of_ble_eq_true rfl, Nat.le_of_ble_eq_true rfl⟩ rfl rfl (Nat.le_of_ble_eq_true rfl) ⟨Nat.zero_le _, Nat.zero_le _⟩ rfl rfl dX8_meal_5) [1, 2, 3, 4, 5, 6, 7, 8, 9, 10] [0, 11, 12, 13, 14, 15, 16, 17, 18, 19, 20, 21, 22, 23, 24, 25, 26] [0, 17, 18, 19, 20, 21, 22, 23, 24, 25, 26, 1, 2, 3, 4, 5, 6, 7, 8, 9, 10, 11, 12, 13, 14, 15, 16] rfl rfl (by decide) (fun _ => rfl) (fun r_1 u_3 e_2 => ?_)
  have e_2 : r_1 = jI (b2 (0 ≤ z ∧ z < wd.2.2.1)) := e_2
  subst e_2
  refine v_world (ws' := (gS  a ks ++ gW cI (fun i => a (1 + i)) wd ++ gW cI (fun i => a (21 + i)) tw ++ gG cI (fun i => a (31 + i)) gl ++ gF cI a fd)) rfl ?_
  refine v_ifb_eq (P := 0 ≤ z ∧ z < wd.2.2.1) (tgt := 22) G dX8_meal_8 (by decide) (fun c_4 => ?_) (fun c_4 => ?_)
  · skip
    refine v_aload_n (j := 0) (x := a 0) G dX8_meal_22 rfl rfl ?_
    refine v_ldc (z := (-1000000001)) G q_2 (by decide) dX8_meal_23 ?_
    refine v_ciP (w2 := (fun _ => (gS  a ks ++ gW cI (fun i => a (1 + i)) wd ++ gW cI (fun i => a (21 + i)) tw ++ gG cI (fun i => a (31 + i)) gl ++ gF cI a (uI fd 0 (fd 0 + 1))))) (wr := (gW cI (fun i => a (1 + i)) wd ++ gW cI (fun i => a (21 + i)) tw ++ gG cI (fun i => a (31 + i)) gl)) G (rn_V (As := [.int (jI (-1000000001))]) (rest := []) (q0 := 0) G (c_X8_found_0 (ks := ks) (fd := fd) (a := a) ) gX8_meal_X8_found rfl hdX8_found ⟨rfl, rfl, Nat.le_of_ble_eq_true rfl, Nat.le_of_ble_eq_true rfl⟩ rfl rfl (Nat.le_of_ble_eq_true rfl) ⟨Nat.zero_le _, Nat.zero_le _⟩ rfl rfl dX8_meal_25) [0, 26] [1, 2, 3, 4, 5, 6, 7, 8, 9, 10, 11, 12, 13, 14, 15, 16, 17, 18, 19, 20, 21, 22, 23, 24, 25] [25, 0, 1, 2, 3, 4, 5, 6, 7, 8, 9, 10, 11, 12, 13, 14, 15, 16, 17, 18, 19, 20, 21, 22, 23, 24, 26] rfl rfl (by decide) (fun _ => rfl) (fun r_5 u_7 e_6 => ?_)
    have e_6 : r_5 = jI (-1000000001) := e_6
    subst e_6
    refine v_world (ws' := (gS  a ks ++ gW cI (fun i => a (1 + i)) wd ++ gW cI (fun i => a (21 + i)) tw ++ gG cI (fun i => a (31 + i)) gl ++ gF cI a (uI fd 0 (fd 0 + 1)))) rfl ?_
    exact v_iret G (uI fd 0 (fd 0 + 1), tw, gl) (by first | exact Or.inl ⟨(by omega), (by first | rfl | exact congrArg jI (by omega)), rfl⟩ | exact Or.inr (Or.inl ⟨(by omega), (by first | rfl | exact congrArg jI (by omega)), rfl⟩) | exact Or.inr (Or.inr (⟨(by omega), (by first | rfl | exact congrArg jI (by omega)), rfl⟩))) rfl dX8_meal_28
  · skip
    refine v_aload_n (j := 0) (x := a 0) G dX8_meal_11 rfl rfl ?_
    refine v_get (q0 := 0) (k := 0) (v := .ref (a 1)) G k_X8 rfl rfl (by decide) q_1 rfl rfl dX8_meal_12 ?_
    refine v_iload_n (j := 2) (x := jI t) G dX8_meal_15 rfl rfl ?_
    refine v_ciP (w2 := (fun _ => (gS  a ks ++ gW cI (fun i => a (1 + i)) wd ++ gW cI (fun i => a (21 + i)) tw ++ gG cI (fun i => a (31 + i)) gl ++ gF cI a fd))) (wr := (gS  a ks ++ gW cI (fun i => a (21 + i)) tw ++ gG cI (fun i => a (31 + i)) gl ++ gF cI a fd)) G (rn_V (As := [.int (jI t)]) (rest := []) (q0 := 0) G (c_X7_hasTask (z := t) (x := wd) (b := fun i => a (1 + i)) (hw := hw) (hr := (by omega))) gX8_meal_X7_hasTask rfl hdX7_hasTask ⟨rfl, rfl, Nat.le_of_ble_eq_true rfl, Nat.le_of_ble_eq_true rfl⟩ rfl rfl (Nat.le_of_ble_eq_true rfl) ⟨Nat.zero_le _, Nat.zero_le _⟩ rfl rfl dX8_meal_16) [1, 2, 3, 4, 5, 6, 7, 8, 9, 10] [0, 11, 12, 13, 14, 15, 16, 17, 18, 19, 20, 21, 22, 23, 24, 25, 26] [0, 17, 18, 19, 20, 21, 22, 23, 24, 25, 26, 1, 2, 3, 4, 5, 6, 7, 8, 9, 10, 11, 12, 13, 14, 15, 16] rfl rfl (by decide) (fun _ => rfl) (fun r_8 u_10 e_9 => ?_)
    have e_9 : r_8 = jI (b2 (0 ≤ t ∧ t < wd.2.2.2.2.2.2.2.2.1)) := e_9
    subst e_9
    refine v_world (ws' := (gS  a ks ++ gW cI (fun i => a (1 + i)) wd ++ gW cI (fun i => a (21 + i)) tw ++ gG cI (fun i => a (31 + i)) gl ++ gF cI a fd)) rfl ?_
    refine v_ifb_ne (P := 0 ≤ t ∧ t < wd.2.2.2.2.2.2.2.2.1) (tgt := 29) G dX8_meal_19 (by decide) (fun c_11 => ?_) (fun c_11 => ?_)
    · skip
      refine v_aload_n (j := 0) (x := a 0) G dX8_meal_29 rfl rfl ?_
      refine v_get (q0 := 0) (k := 2) (v := .ref (a 21)) G k_X8 rfl rfl (by decide) q_3 rfl rfl dX8_meal_30 ?_
      refine v_aload_n (j := 0) (x := a 0) G dX8_meal_33 rfl rfl ?_
      refine v_get (q0 := 0) (k := 0) (v := .ref (a 1)) G k_X8 rfl rfl (by decide) q_1 rfl rfl dX8_meal_34 ?_
      refine v_cvP (w2 := (fun _ => (gS  a ks ++ gW cI (fun i => a (1 + i)) wd ++ gW cI (fun i => a (21 + i)) wd ++ gG cI (fun i => a (31 + i)) gl ++ gF cI a fd))) (wr := (gS  a ks ++ gG cI (fun i => a (31 + i)) gl ++ gF cI a fd)) G (rn_V (As := [.ref (a 1)]) (rest := []) (q0 := 0) G (c_X7_becomeAs (x := tw) (o := wd) (b := fun i => a (21 + i)) (c := fun i => a (1 + i)) ) gX8_meal_X7_becomeAs rfl hdX7_becomeAs ⟨rfl, rfl, Nat.le_of_ble_eq_true rfl, Nat.le_of_ble_eq_true rfl⟩ rfl rfl (Nat.le_of_ble_eq_true rfl) ⟨Nat.zero_le _, Nat.zero_le _⟩ rfl rfl dX8_meal_37) [11, 12, 13, 14, 15, 16, 17, 18, 19, 20, 1, 2, 3, 4, 5, 6, 7, 8, 9, 10] [0, 21, 22, 23, 24, 25, 26] [0, 17, 18, 19, 20, 21, 22, 23, 24, 25, 26, 7, 8, 9, 10, 11, 12, 13, 14, 15, 16, 1, 2, 3, 4, 5, 6] rfl rfl (by decide) (fun _ => rfl) (fun u_14 e_13 => ?_)
      refine v_world (ws' := (gS  a ks ++ gW cI (fun i => a (1 + i)) wd ++ gW cI (fun i => a (21 + i)) wd ++ gG cI (fun i => a (31 + i)) gl ++ gF cI a fd)) rfl ?_
      refine v_iconst G dX8_meal_40 ?_
      refine v_istore_n (lv' := [(3, .int (jI 0)), (0, .ref (a 0)), (1, .int (jI z)), (2, .int (jI t))]) G dX8_meal_41 rfl (by decide) rfl ?_
      refine v_locs (lv' := [(3, .int (jI 0)), (0, .ref (a 0)), (1, .int (jI z)), (2, .int (jI t))]) [0, 1, 2, 3] rfl ?_
      refine v_loop4 (fun (n : Nat) (mq : Int → Int) (fq : Int → Int) (gq : GT) => [(3, .int (jI (n : Int))), (0, .ref (a 0)), (1, .int (jI z)), (2, .int (jI t))]) (fun (n : Nat) (mq : Int → Int) (fq : Int → Int) (gq : GT) => (gS  a ks ++ gW cI (fun i => a (1 + i)) wd ++ gW cI (fun i => a (21 + i)) (wd.1, wd.2.1, wd.2.2.1, wd.2.2.2.1, wd.2.2.2.2.1, wd.2.2.2.2.2.1, mq, fq, wd.2.2.2.2.2.2.2.2.1, wd.2.2.2.2.2.2.2.2.2.1, wd.2.2.2.2.2.2.2.2.2.2.1, wd.2.2.2.2.2.2.2.2.2.2.2) ++ gG cI (fun i => a (31 + i)) gq ++ gF cI a fd)) (fun (n : Nat) (mq : Int → Int) (fq : Int → Int) (gq : GT) => n ≤ 100 ∧ lstN (fun q_ : Nat => cDn (wd.1, wd.2.1, wd.2.2.1, wd.2.2.2.1, wd.2.2.2.2.1, wd.2.2.2.2.2.1, uI wd.2.2.2.2.2.2.1 z (q_ : Int), uI wd.2.2.2.2.2.2.2.1 z 0, wd.2.2.2.2.2.2.2.2.1, wd.2.2.2.2.2.2.2.2.2.1, wd.2.2.2.2.2.2.2.2.2.2.1, wd.2.2.2.2.2.2.2.2.2.2.2) t) (100 - n) n = lstN (fun q_ : Nat => cDn (wd.1, wd.2.1, wd.2.2.1, wd.2.2.2.1, wd.2.2.2.2.1, wd.2.2.2.2.2.1, uI wd.2.2.2.2.2.2.1 z (q_ : Int), uI wd.2.2.2.2.2.2.2.1 z 0, wd.2.2.2.2.2.2.2.2.1, wd.2.2.2.2.2.2.2.2.2.1, wd.2.2.2.2.2.2.2.2.2.2.1, wd.2.2.2.2.2.2.2.2.2.2.2) t) 100 0 ∧ ∀ j : Int, j ≠ z → mq j = wd.2.2.2.2.2.2.1 j ∧ fq j = wd.2.2.2.2.2.2.2.1 j) (fun (n : Nat) (mq : Int → Int) (fq : Int → Int) (gq : GT) => 100 - n) 0 wd.2.2.2.2.2.2.1 wd.2.2.2.2.2.2.2.1 gl ⟨by decide, rfl, fun j _ => ⟨rfl, rfl⟩⟩ rfl rfl ?_
      intro n mq fq gq I_15 ih_16
      obtain ⟨hn, hz, hq⟩ := id I_15
      refine v_iload_n (j := 0) (x := jI (n : Int)) G dX8_meal_42 rfl rfl ?_
      refine v_bipush G dX8_meal_43 (by decide) ?_
      refine v_icmp_gt (a := (n : Int)) (b := 99) (tgt := 77) G dX8_meal_45 (by decide) (by omega) (fun c_17 => ?_) (fun c_17 => ?_)
      · skip
        have hres : lstN (fun q_ : Nat => cDn (wd.1, wd.2.1, wd.2.2.1, wd.2.2.2.1, wd.2.2.2.2.1, wd.2.2.2.2.2.1, uI wd.2.2.2.2.2.2.1 z (q_ : Int), uI wd.2.2.2.2.2.2.2.1 z 0, wd.2.2.2.2.2.2.2.2.1, wd.2.2.2.2.2.2.2.2.2.1, wd.2.2.2.2.2.2.2.2.2.2.1, wd.2.2.2.2.2.2.2.2.2.2.2) t) 100 0 = 100 := by rw [← hz, show n = 100 by omega]; rfl
        refine v_aload_n (j := 1) (x := a 0) G dX8_meal_77 rfl rfl ?_
        refine v_ldc (z := (-1000000004)) G q_4 (by decide) dX8_meal_78 ?_
        refine v_ciP (w2 := (fun _ => (gS  a ks ++ gW cI (fun i => a (1 + i)) wd ++ gW cI (fun i => a (21 + i)) (wd.1, wd.2.1, wd.2.2.1, wd.2.2.2.1, wd.2.2.2.2.1, wd.2.2.2.2.2.1, mq, fq, wd.2.2.2.2.2.2.2.2.1, wd.2.2.2.2.2.2.2.2.2.1, wd.2.2.2.2.2.2.2.2.2.2.1, wd.2.2.2.2.2.2.2.2.2.2.2) ++ gG cI (fun i => a (31 + i)) gq ++ gF cI a (uI fd 3 (fd 3 + 1))))) (wr := (gW cI (fun i => a (1 + i)) wd ++ gW cI (fun i => a (21 + i)) (wd.1, wd.2.1, wd.2.2.1, wd.2.2.2.1, wd.2.2.2.2.1, wd.2.2.2.2.2.1, mq, fq, wd.2.2.2.2.2.2.2.2.1, wd.2.2.2.2.2.2.2.2.2.1, wd.2.2.2.2.2.2.2.2.2.2.1, wd.2.2.2.2.2.2.2.2.2.2.2) ++ gG cI (fun i => a (31 + i)) gq)) G (rn_V (As := [.int (jI (-1000000004))]) (rest := []) (q0 := 0) G (c_X8_found_3 (ks := ks) (fd := fd) (a := a) ) gX8_meal_X8_found rfl hdX8_found ⟨rfl, rfl, Nat.le_of_ble_eq_true rfl, Nat.le_of_ble_eq_true rfl⟩ rfl rfl (Nat.le_of_ble_eq_true rfl) ⟨Nat.zero_le _, Nat.zero_le _⟩ rfl rfl dX8_meal_80) [0, 26] [1, 2, 3, 4, 5, 6, 7, 8, 9, 10, 11, 12, 13, 14, 15, 16, 17, 18, 19, 20, 21, 22, 23, 24, 25] [25, 0, 1, 2, 3, 4, 5, 6, 7, 8, 9, 10, 11, 12, 13, 14, 15, 16, 17, 18, 19, 20, 21, 22, 23, 24, 26] rfl rfl (by decide) (fun _ => rfl) (fun r_18 u_20 e_19 => ?_)
        have e_19 : r_18 = jI (-1000000004) := e_19
        subst e_19
        refine v_world (ws' := (gS  a ks ++ gW cI (fun i => a (1 + i)) wd ++ gW cI (fun i => a (21 + i)) (wd.1, wd.2.1, wd.2.2.1, wd.2.2.2.1, wd.2.2.2.2.1, wd.2.2.2.2.2.1, mq, fq, wd.2.2.2.2.2.2.2.2.1, wd.2.2.2.2.2.2.2.2.2.1, wd.2.2.2.2.2.2.2.2.2.2.1, wd.2.2.2.2.2.2.2.2.2.2.2) ++ gG cI (fun i => a (31 + i)) gq ++ gF cI a (uI fd 3 (fd 3 + 1)))) rfl ?_
        exact v_iret G (uI fd 3 (fd 3 + 1), (wd.1, wd.2.1, wd.2.2.1, wd.2.2.2.1, wd.2.2.2.2.1, wd.2.2.2.2.2.1, mq, fq, wd.2.2.2.2.2.2.2.2.1, wd.2.2.2.2.2.2.2.2.2.1, wd.2.2.2.2.2.2.2.2.2.2.1, wd.2.2.2.2.2.2.2.2.2.2.2), gq) (by first | exact Or.inl ⟨(by omega), (by first | rfl | exact congrArg jI (by omega)), rfl⟩ | exact Or.inr (Or.inl ⟨(by omega), (by first | rfl | exact congrArg jI (by omega)), rfl⟩) | exact Or.inr (Or.inr (⟨(by omega), (by first | rfl | exact congrArg jI (by omega)), rfl⟩))) rfl dX8_meal_83
      · skip
        refine v_aload_n (j := 1) (x := a 0) G dX8_meal_48 rfl rfl ?_
        refine v_get (q0 := 0) (k := 2) (v := .ref (a 21)) G k_X8 rfl rfl (by decide) q_3 rfl rfl dX8_meal_49 ?_
        refine v_iload_n (j := 2) (x := jI z) G dX8_meal_52 rfl rfl ?_
        refine v_iload_n (j := 0) (x := jI (n : Int)) G dX8_meal_53 rfl rfl ?_
        refine v_cvP (w2 := (fun _ => (gS  a ks ++ gW cI (fun i => a (1 + i)) wd ++ gW cI (fun i => a (21 + i)) (wd.1, wd.2.1, wd.2.2.1, wd.2.2.2.1, wd.2.2.2.2.1, wd.2.2.2.2.2.1, uI mq z (n : Int), uI fq z 0, wd.2.2.2.2.2.2.2.2.1, wd.2.2.2.2.2.2.2.2.2.1, wd.2.2.2.2.2.2.2.2.2.2.1, wd.2.2.2.2.2.2.2.2.2.2.2) ++ gG cI (fun i => a (31 + i)) gq ++ gF cI a fd))) (wr := (gS  a ks ++ gW cI (fun i => a (1 + i)) wd ++ gG cI (fun i => a (31 + i)) gq ++ gF cI a fd)) G (rn_V (As := [.int (jI z), .int (jI (n : Int))]) (rest := []) (q0 := 0) G (c_X7_feedBeing (z := z) (v := (n : Int)) (x := (wd.1, wd.2.1, wd.2.2.1, wd.2.2.2.1, wd.2.2.2.2.1, wd.2.2.2.2.2.1, mq, fq, wd.2.2.2.2.2.2.2.2.1, wd.2.2.2.2.2.2.2.2.2.1, wd.2.2.2.2.2.2.2.2.2.2.1, wd.2.2.2.2.2.2.2.2.2.2.2)) (b := fun i => a (21 + i)) (hz := (by omega))) gX8_meal_X7_feedBeing rfl hdX7_feedBeing ⟨rfl, rfl, Nat.le_of_ble_eq_true rfl, Nat.le_of_ble_eq_true rfl⟩ rfl rfl (Nat.le_of_ble_eq_true rfl) ⟨Nat.zero_le _, Nat.zero_le _⟩ rfl rfl dX8_meal_54) [11, 12, 13, 14, 15, 16, 17, 18, 19, 20] [0, 1, 2, 3, 4, 5, 6, 7, 8, 9, 10, 21, 22, 23, 24, 25, 26] [0, 1, 2, 3, 4, 5, 6, 7, 8, 9, 10, 17, 18, 19, 20, 21, 22, 23, 24, 25, 26, 11, 12, 13, 14, 15, 16] rfl rfl (by decide) (fun _ => rfl) (fun u_23 e_22 => ?_)
        refine v_world (ws' := (gS  a ks ++ gW cI (fun i => a (1 + i)) wd ++ gW cI (fun i => a (21 + i)) (wd.1, wd.2.1, wd.2.2.1, wd.2.2.2.1, wd.2.2.2.2.1, wd.2.2.2.2.2.1, uI mq z (n : Int), uI fq z 0, wd.2.2.2.2.2.2.2.2.1, wd.2.2.2.2.2.2.2.2.2.1, wd.2.2.2.2.2.2.2.2.2.2.1, wd.2.2.2.2.2.2.2.2.2.2.2) ++ gG cI (fun i => a (31 + i)) gq ++ gF cI a fd)) rfl ?_
        refine v_cell (q0 := 16) (g := uI mq z (n : Int)) (g' := uI wd.2.2.2.2.2.2.1 z (n : Int)) (ws' := (gS  a ks ++ gW cI (fun i => a (1 + i)) wd ++ gW cI (fun i => a (21 + i)) (wd.1, wd.2.1, wd.2.2.1, wd.2.2.2.1, wd.2.2.2.2.1, wd.2.2.2.2.2.1, uI wd.2.2.2.2.2.2.1 z (n : Int), uI fq z 0, wd.2.2.2.2.2.2.2.2.1, wd.2.2.2.2.2.2.2.2.2.1, wd.2.2.2.2.2.2.2.2.2.2.1, wd.2.2.2.2.2.2.2.2.2.2.2) ++ gG cI (fun i => a (31 + i)) gq ++ gF cI a fd)) rfl (fun j h0 _ => by unfold uI; split; rfl; exact (hq j (by assumption)).1) rfl ?_
        refine v_cell (q0 := 17) (g := uI fq z 0) (g' := uI wd.2.2.2.2.2.2.2.1 z 0) (ws' := (gS  a ks ++ gW cI (fun i => a (1 + i)) wd ++ gW cI (fun i => a (21 + i)) (wd.1, wd.2.1, wd.2.2.1, wd.2.2.2.1, wd.2.2.2.2.1, wd.2.2.2.2.2.1, uI wd.2.2.2.2.2.2.1 z (n : Int), uI wd.2.2.2.2.2.2.2.1 z 0, wd.2.2.2.2.2.2.2.2.1, wd.2.2.2.2.2.2.2.2.2.1, wd.2.2.2.2.2.2.2.2.2.2.1, wd.2.2.2.2.2.2.2.2.2.2.2) ++ gG cI (fun i => a (31 + i)) gq ++ gF cI a fd)) rfl (fun j h0 _ => by unfold uI; split; rfl; exact (hq j (by assumption)).2) rfl ?_
        refine v_aload_n (j := 1) (x := a 0) G dX8_meal_57 rfl rfl ?_
        refine v_aload_n (j := 1) (x := a 0) G dX8_meal_58 rfl rfl ?_
        refine v_get (q0 := 0) (k := 2) (v := .ref (a 21)) G k_X8 rfl rfl (by decide) q_3 rfl rfl dX8_meal_59 ?_
        refine v_iload_n (j := 3) (x := jI t) G dX8_meal_62 rfl rfl ?_
        refine v_ciP (w2 := (fun gl2 => (gS  a ks ++ gW cI (fun i => a (1 + i)) wd ++ gW cI (fun i => a (21 + i)) (wd.1, wd.2.1, wd.2.2.1, wd.2.2.2.1, wd.2.2.2.2.1, wd.2.2.2.2.2.1, (uI wd.2.2.2.2.2.2.1 z (n : Int)), (uI wd.2.2.2.2.2.2.2.1 z 0), wd.2.2.2.2.2.2.2.2.1, wd.2.2.2.2.2.2.2.2.2.1, wd.2.2.2.2.2.2.2.2.2.2.1, wd.2.2.2.2.2.2.2.2.2.2.2) ++ gG cI (fun i => a (31 + i)) gl2 ++ gF cI a fd))) (wr := (gW cI (fun i => a (1 + i)) wd ++ gF cI a fd)) G (rn_V (As := [.ref (a 21), .int (jI t)]) (rest := []) (q0 := 0) G (c_X8_isDone (t := t) (ks := ks) (x := (wd.1, wd.2.1, wd.2.2.1, wd.2.2.2.1, wd.2.2.2.2.1, wd.2.2.2.2.2.1, uI wd.2.2.2.2.2.2.1 z (n : Int), uI wd.2.2.2.2.2.2.2.1 z 0, wd.2.2.2.2.2.2.2.2.1, wd.2.2.2.2.2.2.2.2.2.1, wd.2.2.2.2.2.2.2.2.2.2.1, wd.2.2.2.2.2.2.2.2.2.2.2)) (gl := gq) (a := a) (b := fun i => a (21 + i)) (hw := (hw.feed (by omega) (by omega))) (ht := (by omega))) gX8_meal_X8_isDone rfl hdX8_isDone ⟨rfl, rfl, Nat.le_of_ble_eq_true rfl, Nat.le_of_ble_eq_true rfl⟩ rfl rfl (Nat.le_of_ble_eq_true rfl) ⟨Nat.zero_le _, Nat.zero_le _⟩ rfl rfl dX8_meal_63) [0, 11, 12, 13, 14, 15, 16, 17, 18, 19, 20, 21, 22, 23, 24, 25] [1, 2, 3, 4, 5, 6, 7, 8, 9, 10, 26] [11, 0, 1, 2, 3, 4, 5, 6, 7, 8, 9, 12, 13, 14, 15, 16, 17, 18, 19, 20, 21, 22, 23, 24, 25, 26, 10] rfl rfl (by decide) (fun _ => rfl) (fun r_25 u_27 e_26 => ?_)
        obtain ⟨gl2_24, rfl⟩ : ∃ z, z = u_27 := ⟨_, rfl⟩
        have e_26 : r_25 = jI (b2 (cDn (wd.1, wd.2.1, wd.2.2.1, wd.2.2.2.1, wd.2.2.2.2.1, wd.2.2.2.2.2.1, uI wd.2.2.2.2.2.2.1 z (n : Int), uI wd.2.2.2.2.2.2.2.1 z 0, wd.2.2.2.2.2.2.2.2.1, wd.2.2.2.2.2.2.2.2.2.1, wd.2.2.2.2.2.2.2.2.2.2.1, wd.2.2.2.2.2.2.2.2.2.2.2) t)) ∧ True := e_26
        obtain ⟨e_260, e_26⟩ := e_26
        subst e_260
        refine v_world (ws' := (gS  a ks ++ gW cI (fun i => a (1 + i)) wd ++ gW cI (fun i => a (21 + i)) (wd.1, wd.2.1, wd.2.2.1, wd.2.2.2.1, wd.2.2.2.2.1, wd.2.2.2.2.2.1, (uI wd.2.2.2.2.2.2.1 z (n : Int)), (uI wd.2.2.2.2.2.2.2.1 z 0), wd.2.2.2.2.2.2.2.2.1, wd.2.2.2.2.2.2.2.2.2.1, wd.2.2.2.2.2.2.2.2.2.2.1, wd.2.2.2.2.2.2.2.2.2.2.2) ++ gG cI (fun i => a (31 + i)) gl2_24 ++ gF cI a fd)) rfl ?_
        refine v_ifb_eq (P := cDn (wd.1, wd.2.1, wd.2.2.1, wd.2.2.2.1, wd.2.2.2.2.1, wd.2.2.2.2.2.1, uI wd.2.2.2.2.2.2.1 z (n : Int), uI wd.2.2.2.2.2.2.2.1 z 0, wd.2.2.2.2.2.2.2.2.1, wd.2.2.2.2.2.2.2.2.2.1, wd.2.2.2.2.2.2.2.2.2.2.1, wd.2.2.2.2.2.2.2.2.2.2.2) t) (tgt := 71) G dX8_meal_66 (by decide) (fun c_28 => ?_) (fun c_28 => ?_)
        · skip
          refine v_iinc (k := 0) (z := (n : Int)) (z' := ((n + 1 : Nat) : Int)) (lv' := [(3, .int (jI ((n + 1 : Nat) : Int))), (0, .ref (a 0)), (1, .int (jI z)), (2, .int (jI t))]) G dX8_meal_71 rfl (by omega) (by decide) rfl ?_
          refine v_goto (tgt := 42) G dX8_meal_74 (by decide) ?_
          exact ih_16 (n + 1) (uI wd.2.2.2.2.2.2.1 z (n : Int)) (uI wd.2.2.2.2.2.2.2.1 z 0) gl2_24 ⟨by omega, lsg_s (by omega) (by assumption) I_15.2.1, fun j h => ⟨uI_n _ _ h, uI_n _ _ h⟩⟩ (by omega)
        · skip
          have hres : lstN (fun q_ : Nat => cDn (wd.1, wd.2.1, wd.2.2.1, wd.2.2.2.1, wd.2.2.2.2.1, wd.2.2.2.2.2.1, uI wd.2.2.2.2.2.2.1 z (q_ : Int), uI wd.2.2.2.2.2.2.2.1 z 0, wd.2.2.2.2.2.2.2.2.1, wd.2.2.2.2.2.2.2.2.2.1, wd.2.2.2.2.2.2.2.2.2.2.1, wd.2.2.2.2.2.2.2.2.2.2.2) t) 100 0 = n := lsg_i hz (by omega) (by assumption)
          refine v_iload_n (j := 0) (x := jI (n : Int)) G dX8_meal_69 rfl rfl ?_
          exact v_iret G (fd, (wd.1, wd.2.1, wd.2.2.1, wd.2.2.2.1, wd.2.2.2.2.1, wd.2.2.2.2.2.1, (uI wd.2.2.2.2.2.2.1 z (n : Int)), (uI wd.2.2.2.2.2.2.2.1 z 0), wd.2.2.2.2.2.2.2.2.1, wd.2.2.2.2.2.2.2.2.2.1, wd.2.2.2.2.2.2.2.2.2.2.1, wd.2.2.2.2.2.2.2.2.2.2.2), gl2_24) (by first | exact Or.inl ⟨(by omega), (by first | rfl | exact congrArg jI (by omega)), rfl⟩ | exact Or.inr (Or.inl ⟨(by omega), (by first | rfl | exact congrArg jI (by omega)), rfl⟩) | exact Or.inr (Or.inr (⟨(by omega), (by first | rfl | exact congrArg jI (by omega)), rfl⟩))) rfl dX8_meal_70
    · skip
      refine v_aload_n (j := 0) (x := a 0) G dX8_meal_22 rfl rfl ?_
      refine v_ldc (z := (-1000000001)) G q_2 (by decide) dX8_meal_23 ?_
      refine v_ciP (w2 := (fun _ => (gS  a ks ++ gW cI (fun i => a (1 + i)) wd ++ gW cI (fun i => a (21 + i)) tw ++ gG cI (fun i => a (31 + i)) gl ++ gF cI a (uI fd 0 (fd 0 + 1))))) (wr := (gW cI (fun i => a (1 + i)) wd ++ gW cI (fun i => a (21 + i)) tw ++ gG cI (fun i => a (31 + i)) gl)) G (rn_V (As := [.int (jI (-1000000001))]) (rest := []) (q0 := 0) G (c_X8_found_0 (ks := ks) (fd := fd) (a := a) ) gX8_meal_X8_found rfl hdX8_found ⟨rfl, rfl, Nat.le_of_ble_eq_true rfl, Nat.le_of_ble_eq_true rfl⟩ rfl rfl (Nat.le_of_ble_eq_true rfl) ⟨Nat.zero_le _, Nat.zero_le _⟩ rfl rfl dX8_meal_25) [0, 26] [1, 2, 3, 4, 5, 6, 7, 8, 9, 10, 11, 12, 13, 14, 15, 16, 17, 18, 19, 20, 21, 22, 23, 24, 25] [25, 0, 1, 2, 3, 4, 5, 6, 7, 8, 9, 10, 11, 12, 13, 14, 15, 16, 17, 18, 19, 20, 21, 22, 23, 24, 26] rfl rfl (by decide) (fun _ => rfl) (fun r_29 u_31 e_30 => ?_)
      have e_30 : r_29 = jI (-1000000001) := e_30
      subst e_30
      refine v_world (ws' := (gS  a ks ++ gW cI (fun i => a (1 + i)) wd ++ gW cI (fun i => a (21 + i)) tw ++ gG cI (fun i => a (31 + i)) gl ++ gF cI a (uI fd 0 (fd 0 + 1)))) rfl ?_
      exact v_iret G (uI fd 0 (fd 0 + 1), tw, gl) (by first | exact Or.inl ⟨(by omega), (by first | rfl | exact congrArg jI (by omega)), rfl⟩ | exact Or.inr (Or.inl ⟨(by omega), (by first | rfl | exact congrArg jI (by omega)), rfl⟩) | exact Or.inr (Or.inr (⟨(by omega), (by first | rfl | exact congrArg jI (by omega)), rfl⟩))) rfl dX8_meal_28

set_option maxHeartbeats 4000000 in
set_option maxRecDepth 100000 in
theorem c_X8_fasted (z p v : Int) (hw : Wc wd) (hr : (-2147483648 ≤ z ∧ z ≤ 2147483647) ∧ (-2147483648 ≤ p ∧ p ≤ 2147483647) ∧ (-2147483648 ≤ v ∧ v ≤ 2147483647)) : Ci l yX8_fasted wsX8_fasted { frames := 4, cells := 0, slots := 0, locals := 92 } D (jT cI cL cB cS) [.ref (a 0), .int (jI z), .int (jI p), .int (jI v)] (gS  a ks ++ gW cI (fun i => a (1 + i)) wd ++ gW cI (fun i => a (21 + i)) tw ++ gG cI (fun i => a (31 + i)) gl ++ gF cI a fd) (S := (Int → Int) × WT × GT) (fun u => (gS  a ks ++ gW cI (fun i => a (1 + i)) wd ++ gW cI (fun i => a (21 + i)) u.2.1 ++ gG cI (fun i => a (31 + i)) u.2.2 ++ gF cI a u.1)) (fun r u => ((¬ ((0 ≤ z ∧ z < wd.2.2.1) ∧ (0 ≤ p ∧ p ≤ 15))) ∧ r = jI (-1000000001) ∧ u.1 = uI fd 0 (fd 0 + 1)) ∨ ((((0 ≤ z ∧ z < wd.2.2.1) ∧ (0 ≤ p ∧ p ≤ 15)) ∧ lstN (fun q_ : Nat => cLt (wd.1, wd.2.1, wd.2.2.1, wd.2.2.2.1, wd.2.2.2.2.1, wd.2.2.2.2.2.1, wd.2.2.2.2.2.2.1, uI wd.2.2.2.2.2.2.2.1 z (q_ : Int), wd.2.2.2.2.2.2.2.2.1, wd.2.2.2.2.2.2.2.2.2.1, wd.2.2.2.2.2.2.2.2.2.2.1, wd.2.2.2.2.2.2.2.2.2.2.2) 0 p = v) 100 0 ≤ 99) ∧ r = jI (lstN (fun q_ : Nat => cLt (wd.1, wd.2.1, wd.2.2.1, wd.2.2.2.1, wd.2.2.2.2.1, wd.2.2.2.2.2.1, wd.2.2.2.2.2.2.1, uI wd.2.2.2.2.2.2.2.1 z (q_ : Int), wd.2.2.2.2.2.2.2.2.1, wd.2.2.2.2.2.2.2.2.2.1, wd.2.2.2.2.2.2.2.2.2.2.1, wd.2.2.2.2.2.2.2.2.2.2.2) 0 p = v) 100 0 : Int) ∧ u.1 = fd) ∨ ((((0 ≤ z ∧ z < wd.2.2.1) ∧ (0 ≤ p ∧ p ≤ 15)) ∧ 99 < lstN (fun q_ : Nat => cLt (wd.1, wd.2.1, wd.2.2.1, wd.2.2.2.1, wd.2.2.2.2.1, wd.2.2.2.2.2.1, wd.2.2.2.2.2.2.1, uI wd.2.2.2.2.2.2.2.1 z (q_ : Int), wd.2.2.2.2.2.2.2.2.1, wd.2.2.2.2.2.2.2.2.2.1, wd.2.2.2.2.2.2.2.2.2.2.1, wd.2.2.2.2.2.2.2.2.2.2.2) 0 p = v) 100 0) ∧ r = jI (-1000000004) ∧ u.1 = uI fd 3 (fd 3 + 1))) := by
  refine Ci.mk (cc := cX8_fasted) (maxL := 5) (rt := .int) (by decide) rfl (Nat.le_of_ble_eq_true rfl) rfl ?_
  intro p_ e_ s_ m_ b_ me_ c_ A_ G hnm
  have hm := hw.many
  have hmt := hw.tasks
  have hh := hw.hour
  have k_X8 : ∀ w ∈ u_ws RX8 TX8 12, w ∈ wsX8_fasted := fun _ h => List.mem_cons_of_mem _ (List.mem_append_left _ (List.mem_append_left _ (List.mem_append_right _ h)))
  have q_1 : Cond.fieldLink RX8 10 "SupperLight" "world" "LSupperLight$World;" ∈ wsX8_fasted := List.mem_of_getElem? (i := 1) rfl
  have q_2 : Cond.constant RX8 83 (-1000000001) ∈ wsX8_fasted := List.mem_of_getElem? (i := 2) rfl
  have q_3 : Cond.fieldLink RX8 19 "SupperLight" "trial" "LSupperLight$World;" ∈ wsX8_fasted := List.mem_of_getElem? (i := 3) rfl
  have q_4 : Cond.constant RX8 208 (-1000000004) ∈ wsX8_fasted := List.mem_of_getElem? (i := 6) rfl
  have k_X7 : ∀ w ∈ u_ws RX7 TX7 12, w ∈ wsX8_fasted := fun _ h => List.mem_cons_of_mem _ (List.mem_append_left _ (List.mem_append_right _ h))
  have q_6 : Cond.fieldLink RX8 124 "SupperLight$World" "fasts" "[I" ∈ wsX8_fasted := List.mem_of_getElem? (i := 4) rfl
  have q_7 : Cond.fieldLink RX8 29 "SupperLight" "glow" "LSupperLight$Glow;" ∈ wsX8_fasted := List.mem_of_getElem? (i := 5) rfl
  refine v_aload_n (j := 0) (x := a 0) G dX8_fasted_0 rfl rfl ?_
  refine v_get (q0 := 0) (k := 0) (v := .ref (a 1)) G k_X8 rfl rfl (by decide) q_1 rfl rfl dX8_fasted_1 ?_
  refine v_iload_n (j := 1) (x := jI z) G dX8_fasted_4 rfl rfl ?_
  refine v_ciP (w2 := (fun _ => (gS  a ks ++ gW cI (fun i => a (1 + i)) wd ++ gW cI (fun i => a (21 + i)) tw ++ gG cI (fun i => a (31 + i)) gl ++ gF cI a fd))) (wr := (gS  a ks ++ gW cI (fun i => a (21 + i)) tw ++ gG cI (fun i => a (31 + i)) gl ++ gF cI a fd)) G (rn_V (As := [.int (jI z)]) (rest := []) (q0 := 0) G (c_X7_hasBeing (z := z) (x := wd) (b := fun i => a (1 + i)) (hw := hw) (hr := (by omega))) gX8_fasted_X7_hasBeing rfl hdX7_hasBeing ⟨rfl, rfl, Nat.le_of_ble_eq_true rfl, Nat.le_of_ble_eq_true rfl⟩ rfl rfl (Nat.le_of_ble_eq_true rfl) ⟨Nat.zero_le _, Nat.zero_le _⟩ rfl rfl dX8_fasted_5) [1, 2, 3, 4, 5, 6, 7, 8, 9, 10] [0, 11, 12, 13, 14, 15, 16, 17, 18, 19, 20, 21, 22, 23, 24, 25, 26] [0, 17, 18, 19, 20, 21, 22, 23, 24, 25, 26, 1, 2, 3, 4, 5, 6, 7, 8, 9, 10, 11, 12, 13, 14, 15, 16] rfl rfl (by decide) (fun _ => rfl) (fun r_1 u_3 e_2 => ?_)
  have e_2 : r_1 = jI (b2 (0 ≤ z ∧ z < wd.2.2.1)) := e_2
  subst e_2
  refine v_world (ws' := (gS  a ks ++ gW cI (fun i => a (1 + i)) wd ++ gW cI (fun i => a (21 + i)) tw ++ gG cI (fun i => a (31 + i)) gl ++ gF cI a fd)) rfl ?_
  refine v_ifb_eq (P := 0 ≤ z ∧ z < wd.2.2.1) (tgt := 18) G dX8_fasted_8 (by decide) (fun c_4 => ?_) (fun c_4 => ?_)
  · skip
    refine v_aload_n (j := 0) (x := a 0) G dX8_fasted_18 rfl rfl ?_
    refine v_ldc (z := (-1000000001)) G q_2 (by decide) dX8_fasted_19 ?_
    refine v_ciP (w2 := (fun _ => (gS  a ks ++ gW cI (fun i => a (1 + i)) wd ++ gW cI (fun i => a (21 + i)) tw ++ gG cI (fun i => a (31 + i)) gl ++ gF cI a (uI fd 0 (fd 0 + 1))))) (wr := (gW cI (fun i => a (1 + i)) wd ++ gW cI (fun i => a (21 + i)) tw ++ gG cI (fun i => a (31 + i)) gl)) G (rn_V (As := [.int (jI (-1000000001))]) (rest := []) (q0 := 0) G (c_X8_found_0 (ks := ks) (fd := fd) (a := a) ) gX8_fasted_X8_found rfl hdX8_found ⟨rfl, rfl, Nat.le_of_ble_eq_true rfl, Nat.le_of_ble_eq_true rfl⟩ rfl rfl (Nat.le_of_ble_eq_true rfl) ⟨Nat.zero_le _, Nat.zero_le _⟩ rfl rfl dX8_fasted_21) [0, 26] [1, 2, 3, 4, 5, 6, 7, 8, 9, 10, 11, 12, 13, 14, 15, 16, 17, 18, 19, 20, 21, 22, 23, 24, 25] [25, 0, 1, 2, 3, 4, 5, 6, 7, 8, 9, 10, 11, 12, 13, 14, 15, 16, 17, 18, 19, 20, 21, 22, 23, 24, 26] rfl rfl (by decide) (fun _ => rfl) (fun r_5 u_7 e_6 => ?_)
    have e_6 : r_5 = jI (-1000000001) := e_6
    subst e_6
    refine v_world (ws' := (gS  a ks ++ gW cI (fun i => a (1 + i)) wd ++ gW cI (fun i => a (21 + i)) tw ++ gG cI (fun i => a (31 + i)) gl ++ gF cI a (uI fd 0 (fd 0 + 1)))) rfl ?_
    exact v_iret G (uI fd 0 (fd 0 + 1), tw, gl) (by first | exact Or.inl ⟨(by omega), (by first | rfl | exact congrArg jI (by omega)), rfl⟩ | exact Or.inr (Or.inl ⟨(by omega), (by first | rfl | exact congrArg jI (by omega)), rfl⟩) | exact Or.inr (Or.inr (⟨(by omega), (by first | rfl | exact congrArg jI (by omega)), rfl⟩))) rfl dX8_fasted_24
  · skip
    refine v_iload_n (j := 2) (x := jI p) G dX8_fasted_11 rfl rfl ?_
    refine v_ciN G (rn_S (As := [.int (jI p)]) (rest := []) G (c_X8_isPlace (p := p) (hr := (by omega))) gX8_fasted_X8_isPlace rfl hdX8_isPlace ⟨rfl, rfl, Nat.le_of_ble_eq_true rfl, Nat.le_of_ble_eq_true rfl⟩ rfl rfl (Nat.le_of_ble_eq_true rfl) ⟨Nat.zero_le _, Nat.zero_le _⟩ dX8_fasted_12) (fun r_8 u_10 e_9 => ?_)
    have e_9 : r_8 = jI (b2 (0 ≤ p ∧ p ≤ 15)) := e_9
    subst e_9
    refine v_ifb_ne (P := 0 ≤ p ∧ p ≤ 15) (tgt := 25) G dX8_fasted_15 (by decide) (fun c_11 => ?_) (fun c_11 => ?_)
    · skip
      refine v_aload_n (j := 0) (x := a 0) G dX8_fasted_25 rfl rfl ?_
      refine v_get (q0 := 0) (k := 2) (v := .ref (a 21)) G k_X8 rfl rfl (by decide) q_3 rfl rfl dX8_fasted_26 ?_
      refine v_aload_n (j := 0) (x := a 0) G dX8_fasted_29 rfl rfl ?_
      refine v_get (q0 := 0) (k := 0) (v := .ref (a 1)) G k_X8 rfl rfl (by decide) q_1 rfl rfl dX8_fasted_30 ?_
      refine v_cvP (w2 := (fun _ => (gS  a ks ++ gW cI (fun i => a (1 + i)) wd ++ gW cI (fun i => a (21 + i)) wd ++ gG cI (fun i => a (31 + i)) gl ++ gF cI a fd))) (wr := (gS  a ks ++ gG cI (fun i => a (31 + i)) gl ++ gF cI a fd)) G (rn_V (As := [.ref (a 1)]) (rest := []) (q0 := 0) G (c_X7_becomeAs (x := tw) (o := wd) (b := fun i => a (21 + i)) (c := fun i => a (1 + i)) ) gX8_fasted_X7_becomeAs rfl hdX7_becomeAs ⟨rfl, rfl, Nat.le_of_ble_eq_true rfl, Nat.le_of_ble_eq_true rfl⟩ rfl rfl (Nat.le_of_ble_eq_true rfl) ⟨Nat.zero_le _, Nat.zero_le _⟩ rfl rfl dX8_fasted_33) [11, 12, 13, 14, 15, 16, 17, 18, 19, 20, 1, 2, 3, 4, 5, 6, 7, 8, 9, 10] [0, 21, 22, 23, 24, 25, 26] [0, 17, 18, 19, 20, 21, 22, 23, 24, 25, 26, 7, 8, 9, 10, 11, 12, 13, 14, 15, 16, 1, 2, 3, 4, 5, 6] rfl rfl (by decide) (fun _ => rfl) (fun u_14 e_13 => ?_)
      refine v_world (ws' := (gS  a ks ++ gW cI (fun i => a (1 + i)) wd ++ gW cI (fun i => a (21 + i)) wd ++ gG cI (fun i => a (31 + i)) gl ++ gF cI a fd)) rfl ?_
      refine v_iconst G dX8_fasted_36 ?_
      refine v_istore (lv' := [(4, .int (jI 0)), (0, .ref (a 0)), (1, .int (jI z)), (2, .int (jI p)), (3, .int (jI v))]) G dX8_fasted_37 (by decide) rfl ?_
      refine v_locs (lv' := [(4, .int (jI 0)), (0, .ref (a 0)), (1, .int (jI z)), (2, .int (jI p)), (3, .int (jI v))]) [0, 1, 2, 3, 4] rfl ?_
      refine v_loop3 (fun (n : Nat) (fq : Int → Int) (gq : GT) => [(4, .int (jI (n : Int))), (0, .ref (a 0)), (1, .int (jI z)), (2, .int (jI p)), (3, .int (jI v))]) (fun (n : Nat) (fq : Int → Int) (gq : GT) => (gS  a ks ++ gW cI (fun i => a (1 + i)) wd ++ gW cI (fun i => a (21 + i)) (wd.1, wd.2.1, wd.2.2.1, wd.2.2.2.1, wd.2.2.2.2.1, wd.2.2.2.2.2.1, wd.2.2.2.2.2.2.1, fq, wd.2.2.2.2.2.2.2.2.1, wd.2.2.2.2.2.2.2.2.2.1, wd.2.2.2.2.2.2.2.2.2.2.1, wd.2.2.2.2.2.2.2.2.2.2.2) ++ gG cI (fun i => a (31 + i)) gq ++ gF cI a fd)) (fun (n : Nat) (fq : Int → Int) (gq : GT) => n ≤ 100 ∧ lstN (fun q_ : Nat => cLt (wd.1, wd.2.1, wd.2.2.1, wd.2.2.2.1, wd.2.2.2.2.1, wd.2.2.2.2.2.1, wd.2.2.2.2.2.2.1, uI wd.2.2.2.2.2.2.2.1 z (q_ : Int), wd.2.2.2.2.2.2.2.2.1, wd.2.2.2.2.2.2.2.2.2.1, wd.2.2.2.2.2.2.2.2.2.2.1, wd.2.2.2.2.2.2.2.2.2.2.2) 0 p = v) (100 - n) n = lstN (fun q_ : Nat => cLt (wd.1, wd.2.1, wd.2.2.1, wd.2.2.2.1, wd.2.2.2.2.1, wd.2.2.2.2.2.1, wd.2.2.2.2.2.2.1, uI wd.2.2.2.2.2.2.2.1 z (q_ : Int), wd.2.2.2.2.2.2.2.2.1, wd.2.2.2.2.2.2.2.2.2.1, wd.2.2.2.2.2.2.2.2.2.2.1, wd.2.2.2.2.2.2.2.2.2.2.2) 0 p = v) 100 0 ∧ ∀ j : Int, j ≠ z → fq j = wd.2.2.2.2.2.2.2.1 j) (fun (n : Nat) (fq : Int → Int) (gq : GT) => 100 - n) 0 wd.2.2.2.2.2.2.2.1 gl ⟨by decide, rfl, fun j _ => rfl⟩ rfl rfl ?_
      intro n fq gq I_15 ih_16
      obtain ⟨hn, hz, hq⟩ := id I_15
      refine v_iload (j := 0) (x := jI (n : Int)) G dX8_fasted_39 rfl ?_
      refine v_bipush G dX8_fasted_41 (by decide) ?_
      refine v_icmp_gt (a := (n : Int)) (b := 99) (tgt := 90) G dX8_fasted_43 (by decide) (by omega) (fun c_17 => ?_) (fun c_17 => ?_)
      · skip
        have hres : lstN (fun q_ : Nat => cLt (wd.1, wd.2.1, wd.2.2.1, wd.2.2.2.1, wd.2.2.2.2.1, wd.2.2.2.2.2.1, wd.2.2.2.2.2.2.1, uI wd.2.2.2.2.2.2.2.1 z (q_ : Int), wd.2.2.2.2.2.2.2.2.1, wd.2.2.2.2.2.2.2.2.2.1, wd.2.2.2.2.2.2.2.2.2.2.1, wd.2.2.2.2.2.2.2.2.2.2.2) 0 p = v) 100 0 = 100 := by rw [← hz, show n = 100 by omega]; rfl
        refine v_aload_n (j := 1) (x := a 0) G dX8_fasted_90 rfl rfl ?_
        refine v_ldc (z := (-1000000004)) G q_4 (by decide) dX8_fasted_91 ?_
        refine v_ciP (w2 := (fun _ => (gS  a ks ++ gW cI (fun i => a (1 + i)) wd ++ gW cI (fun i => a (21 + i)) (wd.1, wd.2.1, wd.2.2.1, wd.2.2.2.1, wd.2.2.2.2.1, wd.2.2.2.2.2.1, wd.2.2.2.2.2.2.1, fq, wd.2.2.2.2.2.2.2.2.1, wd.2.2.2.2.2.2.2.2.2.1, wd.2.2.2.2.2.2.2.2.2.2.1, wd.2.2.2.2.2.2.2.2.2.2.2) ++ gG cI (fun i => a (31 + i)) gq ++ gF cI a (uI fd 3 (fd 3 + 1))))) (wr := (gW cI (fun i => a (1 + i)) wd ++ gW cI (fun i => a (21 + i)) (wd.1, wd.2.1, wd.2.2.1, wd.2.2.2.1, wd.2.2.2.2.1, wd.2.2.2.2.2.1, wd.2.2.2.2.2.2.1, fq, wd.2.2.2.2.2.2.2.2.1, wd.2.2.2.2.2.2.2.2.2.1, wd.2.2.2.2.2.2.2.2.2.2.1, wd.2.2.2.2.2.2.2.2.2.2.2) ++ gG cI (fun i => a (31 + i)) gq)) G (rn_V (As := [.int (jI (-1000000004))]) (rest := []) (q0 := 0) G (c_X8_found_3 (ks := ks) (fd := fd) (a := a) ) gX8_fasted_X8_found rfl hdX8_found ⟨rfl, rfl, Nat.le_of_ble_eq_true rfl, Nat.le_of_ble_eq_true rfl⟩ rfl rfl (Nat.le_of_ble_eq_true rfl) ⟨Nat.zero_le _, Nat.zero_le _⟩ rfl rfl dX8_fasted_93) [0, 26] [1, 2, 3, 4, 5, 6, 7, 8, 9, 10, 11, 12, 13, 14, 15, 16, 17, 18, 19, 20, 21, 22, 23, 24, 25] [25, 0, 1, 2, 3, 4, 5, 6, 7, 8, 9, 10, 11, 12, 13, 14, 15, 16, 17, 18, 19, 20, 21, 22, 23, 24, 26] rfl rfl (by decide) (fun _ => rfl) (fun r_18 u_20 e_19 => ?_)
        have e_19 : r_18 = jI (-1000000004) := e_19
        subst e_19
        refine v_world (ws' := (gS  a ks ++ gW cI (fun i => a (1 + i)) wd ++ gW cI (fun i => a (21 + i)) (wd.1, wd.2.1, wd.2.2.1, wd.2.2.2.1, wd.2.2.2.2.1, wd.2.2.2.2.2.1, wd.2.2.2.2.2.2.1, fq, wd.2.2.2.2.2.2.2.2.1, wd.2.2.2.2.2.2.2.2.2.1, wd.2.2.2.2.2.2.2.2.2.2.1, wd.2.2.2.2.2.2.2.2.2.2.2) ++ gG cI (fun i => a (31 + i)) gq ++ gF cI a (uI fd 3 (fd 3 + 1)))) rfl ?_
        exact v_iret G (uI fd 3 (fd 3 + 1), (wd.1, wd.2.1, wd.2.2.1, wd.2.2.2.1, wd.2.2.2.2.1, wd.2.2.2.2.2.1, wd.2.2.2.2.2.2.1, fq, wd.2.2.2.2.2.2.2.2.1, wd.2.2.2.2.2.2.2.2.2.1, wd.2.2.2.2.2.2.2.2.2.2.1, wd.2.2.2.2.2.2.2.2.2.2.2), gq) (by first | exact Or.inl ⟨(by omega), (by first | rfl | exact congrArg jI (by omega)), rfl⟩ | exact Or.inr (Or.inl ⟨(by omega), (by first | rfl | exact congrArg jI (by omega)), rfl⟩) | exact Or.inr (Or.inr (⟨(by omega), (by first | rfl | exact congrArg jI (by omega)), rfl⟩))) rfl dX8_fasted_96
      · skip
        refine v_aload_n (j := 1) (x := a 0) G dX8_fasted_46 rfl rfl ?_
        refine v_get (q0 := 0) (k := 2) (v := .ref (a 21)) G k_X8 rfl rfl (by decide) q_3 rfl rfl dX8_fasted_47 ?_
        refine v_get (q0 := 11) (k := 7) (v := .ref (a 27)) G k_X7 rfl rfl (by decide) q_6 rfl rfl dX8_fasted_50 ?_
        refine v_iload_n (j := 2) (x := jI z) G dX8_fasted_53 rfl rfl ?_
        refine v_iload (j := 0) (x := jI (n : Int)) G dX8_fasted_54 rfl ?_
        refine v_iast (q0 := 17) (t0 := 0) (g := fq) (z := z) (x := (n : Int)) (ws' := (gS  a ks ++ gW cI (fun i => a (1 + i)) wd ++ gW cI (fun i => a (21 + i)) (wd.1, wd.2.1, wd.2.2.1, wd.2.2.2.1, wd.2.2.2.2.1, wd.2.2.2.2.2.1, wd.2.2.2.2.2.2.1, uI fq z (n : Int), wd.2.2.2.2.2.2.2.2.1, wd.2.2.2.2.2.2.2.2.2.1, wd.2.2.2.2.2.2.2.2.2.2.1, wd.2.2.2.2.2.2.2.2.2.2.2) ++ gG cI (fun i => a (31 + i)) gq ++ gF cI a fd)) G rfl rfl (by omega) rfl dX8_fasted_56 ?_
        refine v_cell (q0 := 17) (g := uI fq z (n : Int)) (g' := uI wd.2.2.2.2.2.2.2.1 z (n : Int)) (ws' := (gS  a ks ++ gW cI (fun i => a (1 + i)) wd ++ gW cI (fun i => a (21 + i)) (wd.1, wd.2.1, wd.2.2.1, wd.2.2.2.1, wd.2.2.2.2.1, wd.2.2.2.2.2.1, wd.2.2.2.2.2.2.1, uI wd.2.2.2.2.2.2.2.1 z (n : Int), wd.2.2.2.2.2.2.2.2.1, wd.2.2.2.2.2.2.2.2.2.1, wd.2.2.2.2.2.2.2.2.2.2.1, wd.2.2.2.2.2.2.2.2.2.2.2) ++ gG cI (fun i => a (31 + i)) gq ++ gF cI a fd)) rfl (fun j h0 _ => by unfold uI; split; rfl; exact hq j (by assumption)) rfl ?_
        have hwf := hw.fast (z := z) (v := (n : Int)) (by omega) (by omega)
        refine v_aload_n (j := 1) (x := a 0) G dX8_fasted_57 rfl rfl ?_
        refine v_get (q0 := 0) (k := 4) (v := .ref (a 31)) G k_X8 rfl rfl (by decide) q_7 rfl rfl dX8_fasted_58 ?_
        refine v_aload_n (j := 1) (x := a 0) G dX8_fasted_61 rfl rfl ?_
        refine v_get (q0 := 0) (k := 2) (v := .ref (a 21)) G k_X8 rfl rfl (by decide) q_3 rfl rfl dX8_fasted_62 ?_
        refine v_iconst G dX8_fasted_65 ?_
        refine v_cvP (w2 := (fun _ => (gS  a ks ++ gW cI (fun i => a (1 + i)) wd ++ gW cI (fun i => a (21 + i)) (wd.1, wd.2.1, wd.2.2.1, wd.2.2.2.1, wd.2.2.2.2.1, wd.2.2.2.2.2.1, wd.2.2.2.2.2.2.1, (uI wd.2.2.2.2.2.2.2.1 z (n : Int)), wd.2.2.2.2.2.2.2.2.1, wd.2.2.2.2.2.2.2.2.2.1, wd.2.2.2.2.2.2.2.2.2.2.1, wd.2.2.2.2.2.2.2.2.2.2.2) ++ gG cI (fun i => a (31 + i)) (glS (wd.1, wd.2.1, wd.2.2.1, wd.2.2.2.1, wd.2.2.2.2.1, wd.2.2.2.2.2.1, wd.2.2.2.2.2.2.1, uI wd.2.2.2.2.2.2.2.1 z (n : Int), wd.2.2.2.2.2.2.2.2.1, wd.2.2.2.2.2.2.2.2.2.1, wd.2.2.2.2.2.2.2.2.2.2.1, wd.2.2.2.2.2.2.2.2.2.2.2) 0 gq) ++ gF cI a fd))) (wr := (gS  a ks ++ gW cI (fun i => a (1 + i)) wd ++ gF cI a fd)) G (rn_V (As := [.ref (a 21), .int (jI 0)]) (rest := []) (q0 := 0) G (c_X0_settleOn (n := 0) (g := gq) (x := (wd.1, wd.2.1, wd.2.2.1, wd.2.2.2.1, wd.2.2.2.2.1, wd.2.2.2.2.2.1, wd.2.2.2.2.2.2.1, uI wd.2.2.2.2.2.2.2.1 z (n : Int), wd.2.2.2.2.2.2.2.2.1, wd.2.2.2.2.2.2.2.2.2.1, wd.2.2.2.2.2.2.2.2.2.2.1, wd.2.2.2.2.2.2.2.2.2.2.2)) (c := fun i => a (31 + i)) (b := fun i => a (21 + i)) (hw := hwf) (hn := (by omega))) gX8_fasted_X0_settleOn rfl hdX0_settleOn ⟨rfl, rfl, Nat.le_of_ble_eq_true rfl, Nat.le_of_ble_eq_true rfl⟩ rfl rfl (Nat.le_of_ble_eq_true rfl) ⟨Nat.zero_le _, Nat.zero_le _⟩ rfl rfl dX8_fasted_66) [21, 22, 23, 24, 25, 11, 12, 13, 14, 15, 16, 17, 18, 19, 20] [0, 1, 2, 3, 4, 5, 6, 7, 8, 9, 10, 26] [0, 1, 2, 3, 4, 5, 6, 7, 8, 9, 10, 17, 18, 19, 20, 21, 22, 23, 24, 25, 26, 12, 13, 14, 15, 16, 11] rfl rfl (by decide) (fun _ => rfl) (fun u_23 e_22 => ?_)
        refine v_world (ws' := (gS  a ks ++ gW cI (fun i => a (1 + i)) wd ++ gW cI (fun i => a (21 + i)) (wd.1, wd.2.1, wd.2.2.1, wd.2.2.2.1, wd.2.2.2.2.1, wd.2.2.2.2.2.1, wd.2.2.2.2.2.2.1, (uI wd.2.2.2.2.2.2.2.1 z (n : Int)), wd.2.2.2.2.2.2.2.2.1, wd.2.2.2.2.2.2.2.2.2.1, wd.2.2.2.2.2.2.2.2.2.2.1, wd.2.2.2.2.2.2.2.2.2.2.2) ++ gG cI (fun i => a (31 + i)) (glS (wd.1, wd.2.1, wd.2.2.1, wd.2.2.2.1, wd.2.2.2.2.1, wd.2.2.2.2.2.1, wd.2.2.2.2.2.2.1, uI wd.2.2.2.2.2.2.2.1 z (n : Int), wd.2.2.2.2.2.2.2.2.1, wd.2.2.2.2.2.2.2.2.2.1, wd.2.2.2.2.2.2.2.2.2.2.1, wd.2.2.2.2.2.2.2.2.2.2.2) 0 gq) ++ gF cI a fd)) rfl ?_
        refine v_aload_n (j := 1) (x := a 0) G dX8_fasted_69 rfl rfl ?_
        refine v_get (q0 := 0) (k := 4) (v := .ref (a 31)) G k_X8 rfl rfl (by decide) q_7 rfl rfl dX8_fasted_70 ?_
        refine v_iload_n (j := 3) (x := jI p) G dX8_fasted_73 rfl rfl ?_
        refine v_ciP (w2 := (fun _ => (gS  a ks ++ gW cI (fun i => a (1 + i)) wd ++ gW cI (fun i => a (21 + i)) (wd.1, wd.2.1, wd.2.2.1, wd.2.2.2.1, wd.2.2.2.2.1, wd.2.2.2.2.2.1, wd.2.2.2.2.2.2.1, (uI wd.2.2.2.2.2.2.2.1 z (n : Int)), wd.2.2.2.2.2.2.2.2.1, wd.2.2.2.2.2.2.2.2.2.1, wd.2.2.2.2.2.2.2.2.2.2.1, wd.2.2.2.2.2.2.2.2.2.2.2) ++ gG cI (fun i => a (31 + i)) (((glS (wd.1, wd.2.1, wd.2.2.1, wd.2.2.2.1, wd.2.2.2.2.1, wd.2.2.2.2.2.1, wd.2.2.2.2.2.2.1, uI wd.2.2.2.2.2.2.2.1 z (n : Int), wd.2.2.2.2.2.2.2.2.1, wd.2.2.2.2.2.2.2.2.2.1, wd.2.2.2.2.2.2.2.2.2.2.1, wd.2.2.2.2.2.2.2.2.2.2.2) 0 gq).1), ((glS (wd.1, wd.2.1, wd.2.2.1, wd.2.2.2.1, wd.2.2.2.2.1, wd.2.2.2.2.2.1, wd.2.2.2.2.2.2.1, uI wd.2.2.2.2.2.2.2.1 z (n : Int), wd.2.2.2.2.2.2.2.2.1, wd.2.2.2.2.2.2.2.2.2.1, wd.2.2.2.2.2.2.2.2.2.2.1, wd.2.2.2.2.2.2.2.2.2.2.2) 0 gq).2.1), ((glS (wd.1, wd.2.1, wd.2.2.1, wd.2.2.2.1, wd.2.2.2.2.1, wd.2.2.2.2.2.1, wd.2.2.2.2.2.2.1, uI wd.2.2.2.2.2.2.2.1 z (n : Int), wd.2.2.2.2.2.2.2.2.1, wd.2.2.2.2.2.2.2.2.2.1, wd.2.2.2.2.2.2.2.2.2.2.1, wd.2.2.2.2.2.2.2.2.2.2.2) 0 gq).2.2.1), ((glS (wd.1, wd.2.1, wd.2.2.1, wd.2.2.2.1, wd.2.2.2.2.1, wd.2.2.2.2.2.1, wd.2.2.2.2.2.2.1, uI wd.2.2.2.2.2.2.2.1 z (n : Int), wd.2.2.2.2.2.2.2.2.1, wd.2.2.2.2.2.2.2.2.2.1, wd.2.2.2.2.2.2.2.2.2.2.1, wd.2.2.2.2.2.2.2.2.2.2.2) 0 gq).2.2.2.1), ((glS (wd.1, wd.2.1, wd.2.2.1, wd.2.2.2.1, wd.2.2.2.2.1, wd.2.2.2.2.2.1, wd.2.2.2.2.2.2.1, uI wd.2.2.2.2.2.2.2.1 z (n : Int), wd.2.2.2.2.2.2.2.2.1, wd.2.2.2.2.2.2.2.2.2.1, wd.2.2.2.2.2.2.2.2.2.2.1, wd.2.2.2.2.2.2.2.2.2.2.2) 0 gq).2.2.2.2)) ++ gF cI a fd))) (wr := (gS  a ks ++ gW cI (fun i => a (1 + i)) wd ++ gW cI (fun i => a (21 + i)) (wd.1, wd.2.1, wd.2.2.1, wd.2.2.2.1, wd.2.2.2.2.1, wd.2.2.2.2.2.1, wd.2.2.2.2.2.2.1, (uI wd.2.2.2.2.2.2.2.1 z (n : Int)), wd.2.2.2.2.2.2.2.2.1, wd.2.2.2.2.2.2.2.2.2.1, wd.2.2.2.2.2.2.2.2.2.2.1, wd.2.2.2.2.2.2.2.2.2.2.2) ++ gF cI a fd)) G (rn_V (As := [.int (jI p)]) (rest := []) (q0 := 0) G (c_X0_lightOf (p := p) (g := (glS (wd.1, wd.2.1, wd.2.2.1, wd.2.2.2.1, wd.2.2.2.2.1, wd.2.2.2.2.2.1, wd.2.2.2.2.2.2.1, uI wd.2.2.2.2.2.2.2.1 z (n : Int), wd.2.2.2.2.2.2.2.2.1, wd.2.2.2.2.2.2.2.2.2.1, wd.2.2.2.2.2.2.2.2.2.2.1, wd.2.2.2.2.2.2.2.2.2.2.2) 0 gq)) (c := fun i => a (31 + i)) (hg := (glS_f hwf (by omega) _)) (hp := (by omega))) gX8_fasted_X0_lightOf rfl hdX0_lightOf ⟨rfl, rfl, Nat.le_of_ble_eq_true rfl, Nat.le_of_ble_eq_true rfl⟩ rfl rfl (Nat.le_of_ble_eq_true rfl) ⟨Nat.zero_le _, Nat.zero_le _⟩ rfl rfl dX8_fasted_74) [21, 22, 23, 24, 25] [0, 1, 2, 3, 4, 5, 6, 7, 8, 9, 10, 11, 12, 13, 14, 15, 16, 17, 18, 19, 20, 26] [0, 1, 2, 3, 4, 5, 6, 7, 8, 9, 10, 11, 12, 13, 14, 15, 16, 17, 18, 19, 20, 22, 23, 24, 25, 26, 21] rfl rfl (by decide) (fun _ => rfl) (fun r_24 u_26 e_25 => ?_)
        have e_25 : r_24 = jI (ltT (glS (wd.1, wd.2.1, wd.2.2.1, wd.2.2.2.1, wd.2.2.2.2.1, wd.2.2.2.2.2.1, wd.2.2.2.2.2.2.1, uI wd.2.2.2.2.2.2.2.1 z (n : Int), wd.2.2.2.2.2.2.2.2.1, wd.2.2.2.2.2.2.2.2.2.1, wd.2.2.2.2.2.2.2.2.2.2.1, wd.2.2.2.2.2.2.2.2.2.2.2) 0 gq) p) := e_25
        subst e_25
        refine v_world (ws' := (gS  a ks ++ gW cI (fun i => a (1 + i)) wd ++ gW cI (fun i => a (21 + i)) (wd.1, wd.2.1, wd.2.2.1, wd.2.2.2.1, wd.2.2.2.2.1, wd.2.2.2.2.2.1, wd.2.2.2.2.2.2.1, (uI wd.2.2.2.2.2.2.2.1 z (n : Int)), wd.2.2.2.2.2.2.2.2.1, wd.2.2.2.2.2.2.2.2.2.1, wd.2.2.2.2.2.2.2.2.2.2.1, wd.2.2.2.2.2.2.2.2.2.2.2) ++ gG cI (fun i => a (31 + i)) (((glS (wd.1, wd.2.1, wd.2.2.1, wd.2.2.2.1, wd.2.2.2.2.1, wd.2.2.2.2.2.1, wd.2.2.2.2.2.2.1, uI wd.2.2.2.2.2.2.2.1 z (n : Int), wd.2.2.2.2.2.2.2.2.1, wd.2.2.2.2.2.2.2.2.2.1, wd.2.2.2.2.2.2.2.2.2.2.1, wd.2.2.2.2.2.2.2.2.2.2.2) 0 gq).1), ((glS (wd.1, wd.2.1, wd.2.2.1, wd.2.2.2.1, wd.2.2.2.2.1, wd.2.2.2.2.2.1, wd.2.2.2.2.2.2.1, uI wd.2.2.2.2.2.2.2.1 z (n : Int), wd.2.2.2.2.2.2.2.2.1, wd.2.2.2.2.2.2.2.2.2.1, wd.2.2.2.2.2.2.2.2.2.2.1, wd.2.2.2.2.2.2.2.2.2.2.2) 0 gq).2.1), ((glS (wd.1, wd.2.1, wd.2.2.1, wd.2.2.2.1, wd.2.2.2.2.1, wd.2.2.2.2.2.1, wd.2.2.2.2.2.2.1, uI wd.2.2.2.2.2.2.2.1 z (n : Int), wd.2.2.2.2.2.2.2.2.1, wd.2.2.2.2.2.2.2.2.2.1, wd.2.2.2.2.2.2.2.2.2.2.1, wd.2.2.2.2.2.2.2.2.2.2.2) 0 gq).2.2.1), ((glS (wd.1, wd.2.1, wd.2.2.1, wd.2.2.2.1, wd.2.2.2.2.1, wd.2.2.2.2.2.1, wd.2.2.2.2.2.2.1, uI wd.2.2.2.2.2.2.2.1 z (n : Int), wd.2.2.2.2.2.2.2.2.1, wd.2.2.2.2.2.2.2.2.2.1, wd.2.2.2.2.2.2.2.2.2.2.1, wd.2.2.2.2.2.2.2.2.2.2.2) 0 gq).2.2.2.1), ((glS (wd.1, wd.2.1, wd.2.2.1, wd.2.2.2.1, wd.2.2.2.2.1, wd.2.2.2.2.2.1, wd.2.2.2.2.2.2.1, uI wd.2.2.2.2.2.2.2.1 z (n : Int), wd.2.2.2.2.2.2.2.2.1, wd.2.2.2.2.2.2.2.2.2.1, wd.2.2.2.2.2.2.2.2.2.2.1, wd.2.2.2.2.2.2.2.2.2.2.2) 0 gq).2.2.2.2)) ++ gF cI a fd)) rfl ?_
        refine v_topj (x := ltT (glS (wd.1, wd.2.1, wd.2.2.1, wd.2.2.2.1, wd.2.2.2.2.1, wd.2.2.2.2.2.1, wd.2.2.2.2.2.2.1, uI wd.2.2.2.2.2.2.2.1 z (n : Int), wd.2.2.2.2.2.2.2.2.1, wd.2.2.2.2.2.2.2.2.2.1, wd.2.2.2.2.2.2.2.2.2.2.1, wd.2.2.2.2.2.2.2.2.2.2.2) 0 gq) p) (y := cLt (wd.1, wd.2.1, wd.2.2.1, wd.2.2.2.1, wd.2.2.2.2.1, wd.2.2.2.2.2.1, wd.2.2.2.2.2.2.1, uI wd.2.2.2.2.2.2.2.1 z (n : Int), wd.2.2.2.2.2.2.2.2.1, wd.2.2.2.2.2.2.2.2.2.1, wd.2.2.2.2.2.2.2.2.2.2.1, wd.2.2.2.2.2.2.2.2.2.2.2) 0 p) (ltT_S _ 0 _ p) ?_
        have hlr := cLt_r hwf (n := 0) (p := p) (by omega) (by omega) (by omega)
        refine v_iload_n (j := 4) (x := jI v) G dX8_fasted_77 rfl rfl ?_
        refine v_icmp_ne (a := cLt (wd.1, wd.2.1, wd.2.2.1, wd.2.2.2.1, wd.2.2.2.2.1, wd.2.2.2.2.2.1, wd.2.2.2.2.2.2.1, uI wd.2.2.2.2.2.2.2.1 z (n : Int), wd.2.2.2.2.2.2.2.2.1, wd.2.2.2.2.2.2.2.2.2.1, wd.2.2.2.2.2.2.2.2.2.2.1, wd.2.2.2.2.2.2.2.2.2.2.2) 0 p) (b := v) (tgt := 84) G dX8_fasted_78 (by decide) (by omega) (fun c_27 => ?_) (fun c_27 => ?_)
        · skip
          refine v_iinc (k := 0) (z := (n : Int)) (z' := ((n + 1 : Nat) : Int)) (lv' := [(4, .int (jI ((n + 1 : Nat) : Int))), (0, .ref (a 0)), (1, .int (jI z)), (2, .int (jI p)), (3, .int (jI v))]) G dX8_fasted_84 rfl (by omega) (by decide) rfl ?_
          refine v_goto (tgt := 39) G dX8_fasted_87 (by decide) ?_
          exact ih_16 (n + 1) (uI wd.2.2.2.2.2.2.2.1 z (n : Int)) (((glS (wd.1, wd.2.1, wd.2.2.1, wd.2.2.2.1, wd.2.2.2.2.1, wd.2.2.2.2.2.1, wd.2.2.2.2.2.2.1, uI wd.2.2.2.2.2.2.2.1 z (n : Int), wd.2.2.2.2.2.2.2.2.1, wd.2.2.2.2.2.2.2.2.2.1, wd.2.2.2.2.2.2.2.2.2.2.1, wd.2.2.2.2.2.2.2.2.2.2.2) 0 gq).1), ((glS (wd.1, wd.2.1, wd.2.2.1, wd.2.2.2.1, wd.2.2.2.2.1, wd.2.2.2.2.2.1, wd.2.2.2.2.2.2.1, uI wd.2.2.2.2.2.2.2.1 z (n : Int), wd.2.2.2.2.2.2.2.2.1, wd.2.2.2.2.2.2.2.2.2.1, wd.2.2.2.2.2.2.2.2.2.2.1, wd.2.2.2.2.2.2.2.2.2.2.2) 0 gq).2.1), ((glS (wd.1, wd.2.1, wd.2.2.1, wd.2.2.2.1, wd.2.2.2.2.1, wd.2.2.2.2.2.1, wd.2.2.2.2.2.2.1, uI wd.2.2.2.2.2.2.2.1 z (n : Int), wd.2.2.2.2.2.2.2.2.1, wd.2.2.2.2.2.2.2.2.2.1, wd.2.2.2.2.2.2.2.2.2.2.1, wd.2.2.2.2.2.2.2.2.2.2.2) 0 gq).2.2.1), ((glS (wd.1, wd.2.1, wd.2.2.1, wd.2.2.2.1, wd.2.2.2.2.1, wd.2.2.2.2.2.1, wd.2.2.2.2.2.2.1, uI wd.2.2.2.2.2.2.2.1 z (n : Int), wd.2.2.2.2.2.2.2.2.1, wd.2.2.2.2.2.2.2.2.2.1, wd.2.2.2.2.2.2.2.2.2.2.1, wd.2.2.2.2.2.2.2.2.2.2.2) 0 gq).2.2.2.1), ((glS (wd.1, wd.2.1, wd.2.2.1, wd.2.2.2.1, wd.2.2.2.2.1, wd.2.2.2.2.2.1, wd.2.2.2.2.2.2.1, uI wd.2.2.2.2.2.2.2.1 z (n : Int), wd.2.2.2.2.2.2.2.2.1, wd.2.2.2.2.2.2.2.2.2.1, wd.2.2.2.2.2.2.2.2.2.2.1, wd.2.2.2.2.2.2.2.2.2.2.2) 0 gq).2.2.2.2)) ⟨by omega, lsg_s (by omega) (by assumption) I_15.2.1, fun j h => uI_n _ _ h⟩ (by omega)
        · skip
          have hres : lstN (fun q_ : Nat => cLt (wd.1, wd.2.1, wd.2.2.1, wd.2.2.2.1, wd.2.2.2.2.1, wd.2.2.2.2.2.1, wd.2.2.2.2.2.2.1, uI wd.2.2.2.2.2.2.2.1 z (q_ : Int), wd.2.2.2.2.2.2.2.2.1, wd.2.2.2.2.2.2.2.2.2.1, wd.2.2.2.2.2.2.2.2.2.2.1, wd.2.2.2.2.2.2.2.2.2.2.2) 0 p = v) 100 0 = n := lsg_i hz (by omega) (by assumption)
          refine v_iload (j := 0) (x := jI (n : Int)) G dX8_fasted_81 rfl ?_
          exact v_iret G (fd, (wd.1, wd.2.1, wd.2.2.1, wd.2.2.2.1, wd.2.2.2.2.1, wd.2.2.2.2.2.1, wd.2.2.2.2.2.2.1, (uI wd.2.2.2.2.2.2.2.1 z (n : Int)), wd.2.2.2.2.2.2.2.2.1, wd.2.2.2.2.2.2.2.2.2.1, wd.2.2.2.2.2.2.2.2.2.2.1, wd.2.2.2.2.2.2.2.2.2.2.2), (((glS (wd.1, wd.2.1, wd.2.2.1, wd.2.2.2.1, wd.2.2.2.2.1, wd.2.2.2.2.2.1, wd.2.2.2.2.2.2.1, uI wd.2.2.2.2.2.2.2.1 z (n : Int), wd.2.2.2.2.2.2.2.2.1, wd.2.2.2.2.2.2.2.2.2.1, wd.2.2.2.2.2.2.2.2.2.2.1, wd.2.2.2.2.2.2.2.2.2.2.2) 0 gq).1), ((glS (wd.1, wd.2.1, wd.2.2.1, wd.2.2.2.1, wd.2.2.2.2.1, wd.2.2.2.2.2.1, wd.2.2.2.2.2.2.1, uI wd.2.2.2.2.2.2.2.1 z (n : Int), wd.2.2.2.2.2.2.2.2.1, wd.2.2.2.2.2.2.2.2.2.1, wd.2.2.2.2.2.2.2.2.2.2.1, wd.2.2.2.2.2.2.2.2.2.2.2) 0 gq).2.1), ((glS (wd.1, wd.2.1, wd.2.2.1, wd.2.2.2.1, wd.2.2.2.2.1, wd.2.2.2.2.2.1, wd.2.2.2.2.2.2.1, uI wd.2.2.2.2.2.2.2.1 z (n : Int), wd.2.2.2.2.2.2.2.2.1, wd.2.2.2.2.2.2.2.2.2.1, wd.2.2.2.2.2.2.2.2.2.2.1, wd.2.2.2.2.2.2.2.2.2.2.2) 0 gq).2.2.1), ((glS (wd.1, wd.2.1, wd.2.2.1, wd.2.2.2.1, wd.2.2.2.2.1, wd.2.2.2.2.2.1, wd.2.2.2.2.2.2.1, uI wd.2.2.2.2.2.2.2.1 z (n : Int), wd.2.2.2.2.2.2.2.2.1, wd.2.2.2.2.2.2.2.2.2.1, wd.2.2.2.2.2.2.2.2.2.2.1, wd.2.2.2.2.2.2.2.2.2.2.2) 0 gq).2.2.2.1), ((glS (wd.1, wd.2.1, wd.2.2.1, wd.2.2.2.1, wd.2.2.2.2.1, wd.2.2.2.2.2.1, wd.2.2.2.2.2.2.1, uI wd.2.2.2.2.2.2.2.1 z (n : Int), wd.2.2.2.2.2.2.2.2.1, wd.2.2.2.2.2.2.2.2.2.1, wd.2.2.2.2.2.2.2.2.2.2.1, wd.2.2.2.2.2.2.2.2.2.2.2) 0 gq).2.2.2.2))) (by first | exact Or.inl ⟨(by omega), (by first | rfl | exact congrArg jI (by omega)), rfl⟩ | exact Or.inr (Or.inl ⟨(by omega), (by first | rfl | exact congrArg jI (by omega)), rfl⟩) | exact Or.inr (Or.inr (⟨(by omega), (by first | rfl | exact congrArg jI (by omega)), rfl⟩))) rfl dX8_fasted_83
    · skip
      refine v_aload_n (j := 0) (x := a 0) G dX8_fasted_18 rfl rfl ?_
      refine v_ldc (z := (-1000000001)) G q_2 (by decide) dX8_fasted_19 ?_
      refine v_ciP (w2 := (fun _ => (gS  a ks ++ gW cI (fun i => a (1 + i)) wd ++ gW cI (fun i => a (21 + i)) tw ++ gG cI (fun i => a (31 + i)) gl ++ gF cI a (uI fd 0 (fd 0 + 1))))) (wr := (gW cI (fun i => a (1 + i)) wd ++ gW cI (fun i => a (21 + i)) tw ++ gG cI (fun i => a (31 + i)) gl)) G (rn_V (As := [.int (jI (-1000000001))]) (rest := []) (q0 := 0) G (c_X8_found_0 (ks := ks) (fd := fd) (a := a) ) gX8_fasted_X8_found rfl hdX8_found ⟨rfl, rfl, Nat.le_of_ble_eq_true rfl, Nat.le_of_ble_eq_true rfl⟩ rfl rfl (Nat.le_of_ble_eq_true rfl) ⟨Nat.zero_le _, Nat.zero_le _⟩ rfl rfl dX8_fasted_21) [0, 26] [1, 2, 3, 4, 5, 6, 7, 8, 9, 10, 11, 12, 13, 14, 15, 16, 17, 18, 19, 20, 21, 22, 23, 24, 25] [25, 0, 1, 2, 3, 4, 5, 6, 7, 8, 9, 10, 11, 12, 13, 14, 15, 16, 17, 18, 19, 20, 21, 22, 23, 24, 26] rfl rfl (by decide) (fun _ => rfl) (fun r_28 u_30 e_29 => ?_)
      have e_29 : r_28 = jI (-1000000001) := e_29
      subst e_29
      refine v_world (ws' := (gS  a ks ++ gW cI (fun i => a (1 + i)) wd ++ gW cI (fun i => a (21 + i)) tw ++ gG cI (fun i => a (31 + i)) gl ++ gF cI a (uI fd 0 (fd 0 + 1)))) rfl ?_
      exact v_iret G (uI fd 0 (fd 0 + 1), tw, gl) (by first | exact Or.inl ⟨(by omega), (by first | rfl | exact congrArg jI (by omega)), rfl⟩ | exact Or.inr (Or.inl ⟨(by omega), (by first | rfl | exact congrArg jI (by omega)), rfl⟩) | exact Or.inr (Or.inr (⟨(by omega), (by first | rfl | exact congrArg jI (by omega)), rfl⟩))) rfl dX8_fasted_24

set_option maxHeartbeats 4000000 in
set_option maxRecDepth 100000 in
theorem c_X8_needed  (hw : Wc wd) : Ci l yX8_needed wsX8_needed { frames := 6, cells := 0, slots := 0, locals := 137 } D (jT cI cL cB cS) [.ref (a 0)] (gS  a ks ++ gW cI (fun i => a (1 + i)) wd ++ gW cI (fun i => a (21 + i)) tw ++ gG cI (fun i => a (31 + i)) gl ++ gF cI a fd) (S := (Int → Int) × WT × GT) (fun u => (gS  a ks ++ gW cI (fun i => a (1 + i)) wd ++ gW cI (fun i => a (21 + i)) u.2.1 ++ gG cI (fun i => a (31 + i)) u.2.2 ++ gF cI a u.1)) (fun r u => ((0 ≤ nsN (fun z_ => ctN (cDn (woW z_ wd)) wd.2.2.2.2.2.2.2.2.1.toNat) (ctN (cDn wd) wd.2.2.2.2.2.2.2.2.1.toNat) wd.2.2.1.toNat) ∧ r = jI (nsN (fun z_ => ctN (cDn (woW z_ wd)) wd.2.2.2.2.2.2.2.2.1.toNat) (ctN (cDn wd) wd.2.2.2.2.2.2.2.2.1.toNat) wd.2.2.1.toNat) ∧ u.1 = fd) ∨ ((nsN (fun z_ => ctN (cDn (woW z_ wd)) wd.2.2.2.2.2.2.2.2.1.toNat) (ctN (cDn wd) wd.2.2.2.2.2.2.2.2.1.toNat) wd.2.2.1.toNat < 0) ∧ r = jI (-1000000004) ∧ u.1 = uI fd 3 (fd 3 + 1))) := by
  refine Ci.mk (cc := cX8_needed) (maxL := 5) (rt := .int) (by decide) rfl (Nat.le_of_ble_eq_true rfl) rfl ?_
  intro p_ e_ s_ m_ b_ me_ c_ A_ G hnm
  have hm := hw.many
  have hmt := hw.tasks
  have hh := hw.hour
  have k_X8 : ∀ w ∈ u_ws RX8 TX8 12, w ∈ wsX8_needed := fun _ h => List.mem_cons_of_mem _ (List.mem_append_left _ (List.mem_append_left _ (List.mem_append_right _ h)))
  have q_1 : Cond.fieldLink RX8 10 "SupperLight" "world" "LSupperLight$World;" ∈ wsX8_needed := List.mem_of_getElem? (i := 1) rfl
  have k_X7 : ∀ w ∈ u_ws RX7 TX7 12, w ∈ wsX8_needed := fun _ h => List.mem_cons_of_mem _ (List.mem_append_left _ (List.mem_append_right _ h))
  have q_3 : Cond.fieldLink RX8 101 "SupperLight$World" "beings" "I" ∈ wsX8_needed := List.mem_of_getElem? (i := 2) rfl
  have q_4 : Cond.constant RX8 208 (-1000000004) ∈ wsX8_needed := List.mem_of_getElem? (i := 4) rfl
  have q_5 : Cond.fieldLink RX8 19 "SupperLight" "trial" "LSupperLight$World;" ∈ wsX8_needed := List.mem_of_getElem? (i := 3) rfl
  refine v_iconst G dX8_needed_0 ?_
  refine v_istore_n (lv' := [(1, .int (jI (-1))), (0, .ref (a 0))]) G dX8_needed_1 rfl (by decide) rfl ?_
  refine v_aload_n (j := 1) (x := a 0) G dX8_needed_2 rfl rfl ?_
  refine v_aload_n (j := 1) (x := a 0) G dX8_needed_3 rfl rfl ?_
  refine v_get (q0 := 0) (k := 0) (v := .ref (a 1)) G k_X8 rfl rfl (by decide) q_1 rfl rfl dX8_needed_4 ?_
  refine v_ciP (w2 := (fun gl2 => (gS  a ks ++ gW cI (fun i => a (1 + i)) wd ++ gW cI (fun i => a (21 + i)) tw ++ gG cI (fun i => a (31 + i)) gl2 ++ gF cI a fd))) (wr := (gW cI (fun i => a (21 + i)) tw ++ gF cI a fd)) G (rn_V (As := [.ref (a 1)]) (rest := []) (q0 := 0) G (c_X8_doneSet (ks := ks) (x := wd) (gl := gl) (a := a) (b := fun i => a (1 + i)) (hw := hw)) gX8_needed_X8_doneSet rfl hdX8_doneSet ⟨rfl, rfl, Nat.le_of_ble_eq_true rfl, Nat.le_of_ble_eq_true rfl⟩ rfl rfl (Nat.le_of_ble_eq_true rfl) ⟨Nat.zero_le _, Nat.zero_le _⟩ rfl rfl dX8_needed_7) [0, 1, 2, 3, 4, 5, 6, 7, 8, 9, 10, 21, 22, 23, 24, 25] [11, 12, 13, 14, 15, 16, 17, 18, 19, 20, 26] [11, 12, 13, 14, 15, 16, 17, 18, 19, 20, 21, 0, 1, 2, 3, 4, 5, 6, 7, 8, 9, 22, 23, 24, 25, 26, 10] rfl rfl (by decide) (fun _ => rfl) (fun r_2 u_4 e_3 => ?_)
  obtain ⟨gl2_1, rfl⟩ : ∃ z, z = u_4 := ⟨_, rfl⟩
  have e_3 : r_2 = stN (cDn wd) wd.2.2.2.2.2.2.2.2.1.toNat ∧ True := e_3
  obtain ⟨e_30, e_3⟩ := e_3
  subst e_30
  refine v_world (ws' := (gS  a ks ++ gW cI (fun i => a (1 + i)) wd ++ gW cI (fun i => a (21 + i)) tw ++ gG cI (fun i => a (31 + i)) gl2_1 ++ gF cI a fd)) rfl ?_
  refine v_ciN G (rn_S (As := [.int (stN (cDn wd) wd.2.2.2.2.2.2.2.2.1.toNat)]) (rest := []) G (c_J6_bitCount_0f7a4 (x := stN (cDn wd) wd.2.2.2.2.2.2.2.2.1.toNat) ) gX8_needed_J6_bitCount_0f7a4 rfl hdJ6_bitCount_0f7a4 ⟨rfl, rfl, Nat.le_of_ble_eq_true rfl, Nat.le_of_ble_eq_true rfl⟩ rfl rfl (Nat.le_of_ble_eq_true rfl) ⟨Nat.zero_le _, Nat.zero_le _⟩ dX8_needed_10) (fun r_5 u_7 e_6 => ?_)
  have e_6 : r_5 = bcF (stN (cDn wd) wd.2.2.2.2.2.2.2.2.1.toNat) := e_6
  subst e_6
  refine v_top (x := bcF (stN (cDn wd) wd.2.2.2.2.2.2.2.2.1.toNat)) (y := jI (ctN (cDn wd) wd.2.2.2.2.2.2.2.2.1.toNat)) (bc_st _ _ (by omega)) ?_
  refine v_istore_n (lv' := [(2, .int (jI (ctN (cDn wd) wd.2.2.2.2.2.2.2.2.1.toNat))), (1, .int (jI (-1))), (0, .ref (a 0))]) G dX8_needed_13 rfl (by decide) rfl ?_
  refine v_iconst G dX8_needed_14 ?_
  refine v_istore_n (lv' := [(3, .int (jI 0)), (2, .int (jI (ctN (cDn wd) wd.2.2.2.2.2.2.2.2.1.toNat))), (1, .int (jI (-1))), (0, .ref (a 0))]) G dX8_needed_15 rfl (by decide) rfl ?_
  refine v_locs (lv' := [(3, .int (jI 0)), (2, .int (jI (ctN (cDn wd) wd.2.2.2.2.2.2.2.2.1.toNat))), (1, .int (jI (-1))), (0, .ref (a 0))]) [0, 1, 2, 3] rfl ?_
  refine v_loop3 (fun (k : Nat) (tq : WT) (gq : GT) => [(3, .int (jI (k : Int))), (2, .int (jI (lsN (fun z_ => ctN (cDn (woW z_ wd)) wd.2.2.2.2.2.2.2.2.1.toNat) (ctN (cDn wd) wd.2.2.2.2.2.2.2.2.1.toNat) k))), (1, .int (jI (nsN (fun z_ => ctN (cDn (woW z_ wd)) wd.2.2.2.2.2.2.2.2.1.toNat) (ctN (cDn wd) wd.2.2.2.2.2.2.2.2.1.toNat) k))), (0, .ref (a 0))]) (fun (k : Nat) (tq : WT) (gq : GT) => (gS  a ks ++ gW cI (fun i => a (1 + i)) wd ++ gW cI (fun i => a (21 + i)) tq ++ gG cI (fun i => a (31 + i)) gq ++ gF cI a fd)) (fun (k : Nat) (tq : WT) (gq : GT) => (k : Int) ≤ wd.2.2.1) (fun (k : Nat) (tq : WT) (gq : GT) => wd.2.2.1.toNat - k) 0 tw gl2_1 (by omega) rfl rfl ?_
  intro k tq gq I_8 ih_9
  have hns := nsN_r (fun z_ => ctN (cDn (woW z_ wd)) wd.2.2.2.2.2.2.2.2.1.toNat) (ctN (cDn wd) wd.2.2.2.2.2.2.2.2.1.toNat) k
  refine v_iload_n (j := 0) (x := jI (k : Int)) G dX8_needed_16 rfl rfl ?_
  refine v_aload_n (j := 3) (x := a 0) G dX8_needed_17 rfl rfl ?_
  refine v_get (q0 := 0) (k := 0) (v := .ref (a 1)) G k_X8 rfl rfl (by decide) q_1 rfl rfl dX8_needed_18 ?_
  refine v_get (q0 := 1) (k := 2) (v := .int (jI wd.2.2.1)) G k_X7 rfl rfl (by decide) q_3 rfl rfl dX8_needed_21 ?_
  refine v_icmp_ge (a := (k : Int)) (b := wd.2.2.1) (tgt := 62) G dX8_needed_24 (by decide) (by omega) (fun c_10 => ?_) (fun c_10 => ?_)
  · skip
    obtain rfl : k = wd.2.2.1.toNat := by omega
    refine v_iload_n (j := 2) (x := jI (nsN (fun z_ => ctN (cDn (woW z_ wd)) wd.2.2.2.2.2.2.2.2.1.toNat) (ctN (cDn wd) wd.2.2.2.2.2.2.2.2.1.toNat) wd.2.2.1.toNat)) G dX8_needed_62 rfl rfl ?_
    refine v_if_ge (a := nsN (fun z_ => ctN (cDn (woW z_ wd)) wd.2.2.2.2.2.2.2.2.1.toNat) (ctN (cDn wd) wd.2.2.2.2.2.2.2.2.1.toNat) wd.2.2.1.toNat) (tgt := 75) G dX8_needed_63 (by decide) (by omega) (fun c_11 => ?_) (fun c_11 => ?_)
    · skip
      refine v_iload_n (j := 2) (x := jI (nsN (fun z_ => ctN (cDn (woW z_ wd)) wd.2.2.2.2.2.2.2.2.1.toNat) (ctN (cDn wd) wd.2.2.2.2.2.2.2.2.1.toNat) wd.2.2.1.toNat)) G dX8_needed_75 rfl rfl ?_
      exact v_iret G (fd, tq, gq) (by first | exact Or.inl ⟨(by omega), (by first | rfl | exact congrArg jI (by omega)), rfl⟩ | exact Or.inr (⟨(by omega), (by first | rfl | exact congrArg jI (by omega)), rfl⟩)) rfl dX8_needed_76
    · skip
      refine v_aload_n (j := 3) (x := a 0) G dX8_needed_66 rfl rfl ?_
      refine v_ldc (z := (-1000000004)) G q_4 (by decide) dX8_needed_67 ?_
      refine v_ciP (w2 := (fun _ => (gS  a ks ++ gW cI (fun i => a (1 + i)) wd ++ gW cI (fun i => a (21 + i)) tq ++ gG cI (fun i => a (31 + i)) gq ++ gF cI a (uI fd 3 (fd 3 + 1))))) (wr := (gW cI (fun i => a (1 + i)) wd ++ gW cI (fun i => a (21 + i)) tq ++ gG cI (fun i => a (31 + i)) gq)) G (rn_V (As := [.int (jI (-1000000004))]) (rest := []) (q0 := 0) G (c_X8_found_3 (ks := ks) (fd := fd) (a := a) ) gX8_needed_X8_found rfl hdX8_found ⟨rfl, rfl, Nat.le_of_ble_eq_true rfl, Nat.le_of_ble_eq_true rfl⟩ rfl rfl (Nat.le_of_ble_eq_true rfl) ⟨Nat.zero_le _, Nat.zero_le _⟩ rfl rfl dX8_needed_69) [0, 26] [1, 2, 3, 4, 5, 6, 7, 8, 9, 10, 11, 12, 13, 14, 15, 16, 17, 18, 19, 20, 21, 22, 23, 24, 25] [25, 0, 1, 2, 3, 4, 5, 6, 7, 8, 9, 10, 11, 12, 13, 14, 15, 16, 17, 18, 19, 20, 21, 22, 23, 24, 26] rfl rfl (by decide) (fun _ => rfl) (fun r_12 u_14 e_13 => ?_)
      have e_13 : r_12 = jI (-1000000004) := e_13
      subst e_13
      refine v_world (ws' := (gS  a ks ++ gW cI (fun i => a (1 + i)) wd ++ gW cI (fun i => a (21 + i)) tq ++ gG cI (fun i => a (31 + i)) gq ++ gF cI a (uI fd 3 (fd 3 + 1)))) rfl ?_
      refine v_goto (tgt := 76) G dX8_needed_72 (by decide) ?_
      exact v_iret G (uI fd 3 (fd 3 + 1), tq, gq) (by first | exact Or.inl ⟨(by omega), (by first | rfl | exact congrArg jI (by omega)), rfl⟩ | exact Or.inr (⟨(by omega), (by first | rfl | exact congrArg jI (by omega)), rfl⟩)) rfl dX8_needed_76
  · skip
    have hwo := woW_w hw (z := (k : Int)) (by omega)
    have hls := lsN_r (f := (fun z_ => ctN (cDn (woW z_ wd)) wd.2.2.2.2.2.2.2.2.1.toNat)) (c := (ctN (cDn wd) wd.2.2.2.2.2.2.2.2.1.toNat)) (d := 8) (ctN_r8 _ (by omega)) (fun z => ctN_r8 _ (by omega)) k
    have hof : 0 ≤ (fun z_ => ctN (cDn (woW z_ wd)) wd.2.2.2.2.2.2.2.2.1.toNat) (k : Int) ∧ (fun z_ => ctN (cDn (woW z_ wd)) wd.2.2.2.2.2.2.2.2.1.toNat) (k : Int) ≤ 8 := ctN_r8 _ (by omega)
    have hof2 : (fun z_ => ctN (cDn (woW z_ wd)) wd.2.2.2.2.2.2.2.2.1.toNat) (k : Int) = ctN (cDn (woW (k : Int) wd)) wd.2.2.2.2.2.2.2.2.1.toNat := rfl
    refine v_aload_n (j := 3) (x := a 0) G dX8_needed_27 rfl rfl ?_
    refine v_iload_n (j := 0) (x := jI (k : Int)) G dX8_needed_28 rfl rfl ?_
    refine v_cvP (w2 := (fun _ => (gS  a ks ++ gW cI (fun i => a (1 + i)) wd ++ gW cI (fun i => a (21 + i)) (woW (k : Int) wd) ++ gG cI (fun i => a (31 + i)) gq ++ gF cI a fd))) (wr := (gG cI (fun i => a (31 + i)) gq ++ gF cI a fd)) G (rn_V (As := [.int (jI (k : Int))]) (rest := []) (q0 := 0) G (c_X8_tryWithout (z := (k : Int)) (ks := ks) (wd := wd) (tw := tq) (a := a) (hz := (by omega))) gX8_needed_X8_tryWithout rfl hdX8_tryWithout ⟨rfl, rfl, Nat.le_of_ble_eq_true rfl, Nat.le_of_ble_eq_true rfl⟩ rfl rfl (Nat.le_of_ble_eq_true rfl) ⟨Nat.zero_le _, Nat.zero_le _⟩ rfl rfl dX8_needed_29) [0, 1, 2, 3, 4, 5, 6, 7, 8, 9, 10, 11, 12, 13, 14, 15, 16, 17, 18, 19, 20] [21, 22, 23, 24, 25, 26] [6, 7, 8, 9, 10, 11, 12, 13, 14, 15, 16, 17, 18, 19, 20, 21, 22, 23, 24, 25, 26, 0, 1, 2, 3, 4, 5] rfl rfl (by decide) (fun _ => rfl) (fun u_17 e_16 => ?_)
    refine v_world (ws' := (gS  a ks ++ gW cI (fun i => a (1 + i)) wd ++ gW cI (fun i => a (21 + i)) (woW (k : Int) wd) ++ gG cI (fun i => a (31 + i)) gq ++ gF cI a fd)) rfl ?_
    refine v_aload_n (j := 3) (x := a 0) G dX8_needed_32 rfl rfl ?_
    refine v_aload_n (j := 3) (x := a 0) G dX8_needed_33 rfl rfl ?_
    refine v_get (q0 := 0) (k := 2) (v := .ref (a 21)) G k_X8 rfl rfl (by decide) q_5 rfl rfl dX8_needed_34 ?_
    refine v_ciP (w2 := (fun gl2 => (gS  a ks ++ gW cI (fun i => a (1 + i)) wd ++ gW cI (fun i => a (21 + i)) (((woW (k : Int) wd).1), ((woW (k : Int) wd).2.1), ((woW (k : Int) wd).2.2.1), ((woW (k : Int) wd).2.2.2.1), ((woW (k : Int) wd).2.2.2.2.1), ((woW (k : Int) wd).2.2.2.2.2.1), ((woW (k : Int) wd).2.2.2.2.2.2.1), ((woW (k : Int) wd).2.2.2.2.2.2.2.1), ((woW (k : Int) wd).2.2.2.2.2.2.2.2.1), ((woW (k : Int) wd).2.2.2.2.2.2.2.2.2.1), ((woW (k : Int) wd).2.2.2.2.2.2.2.2.2.2.1), ((woW (k : Int) wd).2.2.2.2.2.2.2.2.2.2.2)) ++ gG cI (fun i => a (31 + i)) gl2 ++ gF cI a fd))) (wr := (gW cI (fun i => a (1 + i)) wd ++ gF cI a fd)) G (rn_V (As := [.ref (a 21)]) (rest := []) (q0 := 0) G (c_X8_doneSet (ks := ks) (x := (woW (k : Int) wd)) (gl := gq) (a := a) (b := fun i => a (21 + i)) (hw := hwo)) gX8_needed_X8_doneSet rfl hdX8_doneSet ⟨rfl, rfl, Nat.le_of_ble_eq_true rfl, Nat.le_of_ble_eq_true rfl⟩ rfl rfl (Nat.le_of_ble_eq_true rfl) ⟨Nat.zero_le _, Nat.zero_le _⟩ rfl rfl dX8_needed_37) [0, 11, 12, 13, 14, 15, 16, 17, 18, 19, 20, 21, 22, 23, 24, 25] [1, 2, 3, 4, 5, 6, 7, 8, 9, 10, 26] [11, 0, 1, 2, 3, 4, 5, 6, 7, 8, 9, 12, 13, 14, 15, 16, 17, 18, 19, 20, 21, 22, 23, 24, 25, 26, 10] rfl rfl (by decide) (fun _ => rfl) (fun r_19 u_21 e_20 => ?_)
    obtain ⟨gl2_18, rfl⟩ : ∃ z, z = u_21 := ⟨_, rfl⟩
    have e_20 : r_19 = stN (cDn (woW (k : Int) wd)) (woW (k : Int) wd).2.2.2.2.2.2.2.2.1.toNat ∧ True := e_20
    obtain ⟨e_200, e_20⟩ := e_20
    subst e_200
    refine v_world (ws' := (gS  a ks ++ gW cI (fun i => a (1 + i)) wd ++ gW cI (fun i => a (21 + i)) (((woW (k : Int) wd).1), ((woW (k : Int) wd).2.1), ((woW (k : Int) wd).2.2.1), ((woW (k : Int) wd).2.2.2.1), ((woW (k : Int) wd).2.2.2.2.1), ((woW (k : Int) wd).2.2.2.2.2.1), ((woW (k : Int) wd).2.2.2.2.2.2.1), ((woW (k : Int) wd).2.2.2.2.2.2.2.1), ((woW (k : Int) wd).2.2.2.2.2.2.2.2.1), ((woW (k : Int) wd).2.2.2.2.2.2.2.2.2.1), ((woW (k : Int) wd).2.2.2.2.2.2.2.2.2.2.1), ((woW (k : Int) wd).2.2.2.2.2.2.2.2.2.2.2)) ++ gG cI (fun i => a (31 + i)) gl2_18 ++ gF cI a fd)) rfl ?_
    refine v_ciN G (rn_S (As := [.int (stN (cDn (woW (k : Int) wd)) (woW (k : Int) wd).2.2.2.2.2.2.2.2.1.toNat)]) (rest := []) G (c_J6_bitCount_0f7a4 (x := stN (cDn (woW (k : Int) wd)) (woW (k : Int) wd).2.2.2.2.2.2.2.2.1.toNat) ) gX8_needed_J6_bitCount_0f7a4 rfl hdJ6_bitCount_0f7a4 ⟨rfl, rfl, Nat.le_of_ble_eq_true rfl, Nat.le_of_ble_eq_true rfl⟩ rfl rfl (Nat.le_of_ble_eq_true rfl) ⟨Nat.zero_le _, Nat.zero_le _⟩ dX8_needed_40) (fun r_22 u_24 e_23 => ?_)
    have e_23 : r_22 = bcF (stN (cDn (woW (k : Int) wd)) (woW (k : Int) wd).2.2.2.2.2.2.2.2.1.toNat) := e_23
    subst e_23
    refine v_top (x := bcF (stN (cDn (woW (k : Int) wd)) (woW (k : Int) wd).2.2.2.2.2.2.2.2.1.toNat)) (y := jI (ctN (cDn (woW (k : Int) wd)) wd.2.2.2.2.2.2.2.2.1.toNat)) (bc_st _ wd.2.2.2.2.2.2.2.2.1.toNat (by omega)) ?_
    refine v_istore (lv' := [(4, .int (jI (ctN (cDn (woW (k : Int) wd)) wd.2.2.2.2.2.2.2.2.1.toNat))), (3, .int (jI (k : Int))), (2, .int (jI (lsN (fun z_ => ctN (cDn (woW z_ wd)) wd.2.2.2.2.2.2.2.2.1.toNat) (ctN (cDn wd) wd.2.2.2.2.2.2.2.2.1.toNat) k))), (1, .int (jI (nsN (fun z_ => ctN (cDn (woW z_ wd)) wd.2.2.2.2.2.2.2.2.1.toNat) (ctN (cDn wd) wd.2.2.2.2.2.2.2.2.1.toNat) k))), (0, .ref (a 0))]) G dX8_needed_43 (by decide) rfl ?_
    refine v_iload (j := 0) (x := jI (ctN (cDn (woW (k : Int) wd)) wd.2.2.2.2.2.2.2.2.1.toNat)) G dX8_needed_45 rfl ?_
    refine v_iload_n (j := 2) (x := jI (lsN (fun z_ => ctN (cDn (woW z_ wd)) wd.2.2.2.2.2.2.2.2.1.toNat) (ctN (cDn wd) wd.2.2.2.2.2.2.2.2.1.toNat) k)) G dX8_needed_47 rfl rfl ?_
    refine v_cut (pc' := 56) (lv' := [(4, .int (jI (ctN (cDn (woW (k : Int) wd)) wd.2.2.2.2.2.2.2.2.1.toNat))), (3, .int (jI (k : Int))), (2, .int (jI (lsN (fun z_ => ctN (cDn (woW z_ wd)) wd.2.2.2.2.2.2.2.2.1.toNat) (ctN (cDn wd) wd.2.2.2.2.2.2.2.2.1.toNat) (k + 1)))), (1, .int (jI (nsN (fun z_ => ctN (cDn (woW z_ wd)) wd.2.2.2.2.2.2.2.2.1.toNat) (ctN (cDn wd) wd.2.2.2.2.2.2.2.2.1.toNat) (k + 1)))), (0, .ref (a 0))]) (st' := []) (ws' := (gS  a ks ++ gW cI (fun i => a (1 + i)) wd ++ gW cI (fun i => a (21 + i)) (((woW (k : Int) wd).1), ((woW (k : Int) wd).2.1), ((woW (k : Int) wd).2.2.1), ((woW (k : Int) wd).2.2.2.1), ((woW (k : Int) wd).2.2.2.2.1), ((woW (k : Int) wd).2.2.2.2.2.1), ((woW (k : Int) wd).2.2.2.2.2.2.1), ((woW (k : Int) wd).2.2.2.2.2.2.2.1), ((woW (k : Int) wd).2.2.2.2.2.2.2.2.1), ((woW (k : Int) wd).2.2.2.2.2.2.2.2.2.1), ((woW (k : Int) wd).2.2.2.2.2.2.2.2.2.2.1), ((woW (k : Int) wd).2.2.2.2.2.2.2.2.2.2.2)) ++ gG cI (fun i => a (31 + i)) gl2_18 ++ gF cI a fd)) ?_ (fun J_25 => ?_)
    · skip
      refine v_iinc (k := 1) (z := (k : Int)) (z' := ((k + 1 : Nat) : Int)) (lv' := [(3, .int (jI ((k + 1 : Nat) : Int))), (4, .int (jI (ctN (cDn (woW (k : Int) wd)) wd.2.2.2.2.2.2.2.2.1.toNat))), (2, .int (jI (lsN (fun z_ => ctN (cDn (woW z_ wd)) wd.2.2.2.2.2.2.2.2.1.toNat) (ctN (cDn wd) wd.2.2.2.2.2.2.2.2.1.toNat) (k + 1)))), (1, .int (jI (nsN (fun z_ => ctN (cDn (woW z_ wd)) wd.2.2.2.2.2.2.2.2.1.toNat) (ctN (cDn wd) wd.2.2.2.2.2.2.2.2.1.toNat) (k + 1)))), (0, .ref (a 0))]) G dX8_needed_56 rfl (by omega) (by decide) rfl ?_
      refine v_goto (tgt := 16) G dX8_needed_59 (by decide) ?_
      refine v_locs (lv' := [(3, .int (jI ((k + 1 : Nat) : Int))), (2, .int (jI (lsN (fun z_ => ctN (cDn (woW z_ wd)) wd.2.2.2.2.2.2.2.2.1.toNat) (ctN (cDn wd) wd.2.2.2.2.2.2.2.2.1.toNat) (k + 1)))), (1, .int (jI (nsN (fun z_ => ctN (cDn (woW z_ wd)) wd.2.2.2.2.2.2.2.2.1.toNat) (ctN (cDn wd) wd.2.2.2.2.2.2.2.2.1.toNat) (k + 1)))), (0, .ref (a 0))]) [0, 2, 3, 4] rfl ?_
      exact ih_9 (k + 1) (((woW (k : Int) wd).1), ((woW (k : Int) wd).2.1), ((woW (k : Int) wd).2.2.1), ((woW (k : Int) wd).2.2.2.1), ((woW (k : Int) wd).2.2.2.2.1), ((woW (k : Int) wd).2.2.2.2.2.1), ((woW (k : Int) wd).2.2.2.2.2.2.1), ((woW (k : Int) wd).2.2.2.2.2.2.2.1), ((woW (k : Int) wd).2.2.2.2.2.2.2.2.1), ((woW (k : Int) wd).2.2.2.2.2.2.2.2.2.1), ((woW (k : Int) wd).2.2.2.2.2.2.2.2.2.2.1), ((woW (k : Int) wd).2.2.2.2.2.2.2.2.2.2.2)) gl2_18 (by omega) (by omega)
    · skip
      refine v_icmp_ge (a := ctN (cDn (woW (k : Int) wd)) wd.2.2.2.2.2.2.2.2.1.toNat) (b := lsN (fun z_ => ctN (cDn (woW z_ wd)) wd.2.2.2.2.2.2.2.2.1.toNat) (ctN (cDn wd) wd.2.2.2.2.2.2.2.2.1.toNat) k) (tgt := 56) G dX8_needed_48 (by decide) (by omega) (fun c_26 => ?_) (fun c_26 => ?_)
      · skip
        refine v_eqs (lv' := [(4, .int (jI (ctN (cDn (woW (k : Int) wd)) wd.2.2.2.2.2.2.2.2.1.toNat))), (3, .int (jI (k : Int))), (2, .int (jI (lsN (fun z_ => ctN (cDn (woW z_ wd)) wd.2.2.2.2.2.2.2.2.1.toNat) (ctN (cDn wd) wd.2.2.2.2.2.2.2.2.1.toNat) (k + 1)))), (1, .int (jI (nsN (fun z_ => ctN (cDn (woW z_ wd)) wd.2.2.2.2.2.2.2.2.1.toNat) (ctN (cDn wd) wd.2.2.2.2.2.2.2.2.1.toNat) (k + 1)))), (0, .ref (a 0))]) (by rw [show lsN (fun z_ => ctN (cDn (woW z_ wd)) wd.2.2.2.2.2.2.2.2.1.toNat) (ctN (cDn wd) wd.2.2.2.2.2.2.2.2.1.toNat) (k + 1) = lsN (fun z_ => ctN (cDn (woW z_ wd)) wd.2.2.2.2.2.2.2.2.1.toNat) (ctN (cDn wd) wd.2.2.2.2.2.2.2.2.1.toNat) k from (by show (if _ then _ else _) = _; split <;> omega), show nsN (fun z_ => ctN (cDn (woW z_ wd)) wd.2.2.2.2.2.2.2.2.1.toNat) (ctN (cDn wd) wd.2.2.2.2.2.2.2.2.1.toNat) (k + 1) = nsN (fun z_ => ctN (cDn (woW z_ wd)) wd.2.2.2.2.2.2.2.2.1.toNat) (ctN (cDn wd) wd.2.2.2.2.2.2.2.2.1.toNat) k from (by show (if _ then _ else _) = _; split <;> omega)]) rfl rfl ?_
        exact J_25
      · skip
        refine v_iload (j := 0) (x := jI (ctN (cDn (woW (k : Int) wd)) wd.2.2.2.2.2.2.2.2.1.toNat)) G dX8_needed_51 rfl ?_
        refine v_istore_n (lv' := [(2, .int (jI (ctN (cDn (woW (k : Int) wd)) wd.2.2.2.2.2.2.2.2.1.toNat))), (4, .int (jI (ctN (cDn (woW (k : Int) wd)) wd.2.2.2.2.2.2.2.2.1.toNat))), (3, .int (jI (k : Int))), (1, .int (jI (nsN (fun z_ => ctN (cDn (woW z_ wd)) wd.2.2.2.2.2.2.2.2.1.toNat) (ctN (cDn wd) wd.2.2.2.2.2.2.2.2.1.toNat) k))), (0, .ref (a 0))]) G dX8_needed_53 rfl (by decide) rfl ?_
        refine v_iload_n (j := 2) (x := jI (k : Int)) G dX8_needed_54 rfl rfl ?_
        refine v_istore_n (lv' := [(1, .int (jI (k : Int))), (2, .int (jI (ctN (cDn (woW (k : Int) wd)) wd.2.2.2.2.2.2.2.2.1.toNat))), (4, .int (jI (ctN (cDn (woW (k : Int) wd)) wd.2.2.2.2.2.2.2.2.1.toNat))), (3, .int (jI (k : Int))), (0, .ref (a 0))]) G dX8_needed_55 rfl (by decide) rfl ?_
        refine v_locs (lv' := [(4, .int (jI (ctN (cDn (woW (k : Int) wd)) wd.2.2.2.2.2.2.2.2.1.toNat))), (3, .int (jI (k : Int))), (2, .int (jI (ctN (cDn (woW (k : Int) wd)) wd.2.2.2.2.2.2.2.2.1.toNat))), (1, .int (jI (k : Int))), (0, .ref (a 0))]) [2, 3, 1, 0, 4] rfl ?_
        refine v_eqs (lv' := [(4, .int (jI (ctN (cDn (woW (k : Int) wd)) wd.2.2.2.2.2.2.2.2.1.toNat))), (3, .int (jI (k : Int))), (2, .int (jI (lsN (fun z_ => ctN (cDn (woW z_ wd)) wd.2.2.2.2.2.2.2.2.1.toNat) (ctN (cDn wd) wd.2.2.2.2.2.2.2.2.1.toNat) (k + 1)))), (1, .int (jI (nsN (fun z_ => ctN (cDn (woW z_ wd)) wd.2.2.2.2.2.2.2.2.1.toNat) (ctN (cDn wd) wd.2.2.2.2.2.2.2.2.1.toNat) (k + 1)))), (0, .ref (a 0))]) (by rw [show lsN (fun z_ => ctN (cDn (woW z_ wd)) wd.2.2.2.2.2.2.2.2.1.toNat) (ctN (cDn wd) wd.2.2.2.2.2.2.2.2.1.toNat) (k + 1) = ctN (cDn (woW (k : Int) wd)) wd.2.2.2.2.2.2.2.2.1.toNat from (by show (if _ then _ else _) = _; split <;> omega), show nsN (fun z_ => ctN (cDn (woW z_ wd)) wd.2.2.2.2.2.2.2.2.1.toNat) (ctN (cDn wd) wd.2.2.2.2.2.2.2.2.1.toNat) (k + 1) = (k : Int) from (by show (if _ then _ else _) = _; split <;> omega)]) rfl rfl ?_
        exact J_25

set_option maxHeartbeats 4000000 in
set_option maxRecDepth 100000 in
theorem c_X8_whom (t : Int) (hw : Wc wd) (hr : (-2147483648 ≤ t ∧ t ≤ 2147483647)) : Ci l yX8_whom wsX8_whom { frames := 5, cells := 0, slots := 0, locals := 114 } D (jT cI cL cB cS) [.ref (a 0), .int (jI t)] (gS  a ks ++ gW cI (fun i => a (1 + i)) wd ++ gW cI (fun i => a (21 + i)) tw ++ gG cI (fun i => a (31 + i)) gl ++ gF cI a fd) (S := (Int → Int) × WT × GT) (fun u => (gS  a ks ++ gW cI (fun i => a (1 + i)) wd ++ gW cI (fun i => a (21 + i)) u.2.1 ++ gG cI (fun i => a (31 + i)) u.2.2 ++ gF cI a u.1)) (fun r u => ((¬ (0 ≤ t ∧ t < wd.2.2.2.2.2.2.2.2.1)) ∧ r = jI (-1000000001) ∧ u.1 = uI fd 0 (fd 0 + 1)) ∨ (((0 ≤ t ∧ t < wd.2.2.2.2.2.2.2.2.1) ∧ ¬ cDn wd t) ∧ r = jI 0 ∧ u.1 = fd) ∨ (((0 ≤ t ∧ t < wd.2.2.2.2.2.2.2.2.1) ∧ cDn wd t) ∧ r = stN (fun z_ => ¬ cDn (woW z_ wd) t) wd.2.2.1.toNat ∧ u.1 = fd)) := by
  refine Ci.mk (cc := cX8_whom) (maxL := 4) (rt := .int) (by decide) rfl (Nat.le_of_ble_eq_true rfl) rfl ?_
  intro p_ e_ s_ m_ b_ me_ c_ A_ G hnm
  have hm := hw.many
  have hmt := hw.tasks
  have hh := hw.hour
  have k_X8 : ∀ w ∈ u_ws RX8 TX8 12, w ∈ wsX8_whom := fun _ h => List.mem_cons_of_mem _ (List.mem_append_left _ (List.mem_append_left _ (List.mem_append_right _ h)))
  have q_1 : Cond.fieldLink RX8 10 "SupperLight" "world" "LSupperLight$World;" ∈ wsX8_whom := List.mem_of_getElem? (i := 1) rfl
  have k_X7 : ∀ w ∈ u_ws RX7 TX7 12, w ∈ wsX8_whom := fun _ h => List.mem_cons_of_mem _ (List.mem_append_left _ (List.mem_append_right _ h))
  have q_3 : Cond.fieldLink RX8 101 "SupperLight$World" "beings" "I" ∈ wsX8_whom := List.mem_of_getElem? (i := 3) rfl
  have q_4 : Cond.fieldLink RX8 19 "SupperLight" "trial" "LSupperLight$World;" ∈ wsX8_whom := List.mem_of_getElem? (i := 4) rfl
  have q_5 : Cond.constant RX8 83 (-1000000001) ∈ wsX8_whom := List.mem_of_getElem? (i := 2) rfl
  refine v_aload_n (j := 0) (x := a 0) G dX8_whom_0 rfl rfl ?_
  refine v_get (q0 := 0) (k := 0) (v := .ref (a 1)) G k_X8 rfl rfl (by decide) q_1 rfl rfl dX8_whom_1 ?_
  refine v_iload_n (j := 1) (x := jI t) G dX8_whom_4 rfl rfl ?_
  refine v_ciP (w2 := (fun _ => (gS  a ks ++ gW cI (fun i => a (1 + i)) wd ++ gW cI (fun i => a (21 + i)) tw ++ gG cI (fun i => a (31 + i)) gl ++ gF cI a fd))) (wr := (gS  a ks ++ gW cI (fun i => a (21 + i)) tw ++ gG cI (fun i => a (31 + i)) gl ++ gF cI a fd)) G (rn_V (As := [.int (jI t)]) (rest := []) (q0 := 0) G (c_X7_hasTask (z := t) (x := wd) (b := fun i => a (1 + i)) (hw := hw) (hr := (by omega))) gX8_whom_X7_hasTask rfl hdX7_hasTask ⟨rfl, rfl, Nat.le_of_ble_eq_true rfl, Nat.le_of_ble_eq_true rfl⟩ rfl rfl (Nat.le_of_ble_eq_true rfl) ⟨Nat.zero_le _, Nat.zero_le _⟩ rfl rfl dX8_whom_5) [1, 2, 3, 4, 5, 6, 7, 8, 9, 10] [0, 11, 12, 13, 14, 15, 16, 17, 18, 19, 20, 21, 22, 23, 24, 25, 26] [0, 17, 18, 19, 20, 21, 22, 23, 24, 25, 26, 1, 2, 3, 4, 5, 6, 7, 8, 9, 10, 11, 12, 13, 14, 15, 16] rfl rfl (by decide) (fun _ => rfl) (fun r_1 u_3 e_2 => ?_)
  have e_2 : r_1 = jI (b2 (0 ≤ t ∧ t < wd.2.2.2.2.2.2.2.2.1)) := e_2
  subst e_2
  refine v_world (ws' := (gS  a ks ++ gW cI (fun i => a (1 + i)) wd ++ gW cI (fun i => a (21 + i)) tw ++ gG cI (fun i => a (31 + i)) gl ++ gF cI a fd)) rfl ?_
  refine v_ifb_ne (P := 0 ≤ t ∧ t < wd.2.2.2.2.2.2.2.2.1) (tgt := 18) G dX8_whom_8 (by decide) (fun c_4 => ?_) (fun c_4 => ?_)
  · skip
    refine v_iconst G dX8_whom_18 ?_
    refine v_istore_n (lv' := [(2, .int (jI 0)), (0, .ref (a 0)), (1, .int (jI t))]) G dX8_whom_19 rfl (by decide) rfl ?_
    refine v_aload_n (j := 1) (x := a 0) G dX8_whom_20 rfl rfl ?_
    refine v_aload_n (j := 1) (x := a 0) G dX8_whom_21 rfl rfl ?_
    refine v_get (q0 := 0) (k := 0) (v := .ref (a 1)) G k_X8 rfl rfl (by decide) q_1 rfl rfl dX8_whom_22 ?_
    refine v_iload_n (j := 2) (x := jI t) G dX8_whom_25 rfl rfl ?_
    refine v_ciP (w2 := (fun gl2 => (gS  a ks ++ gW cI (fun i => a (1 + i)) wd ++ gW cI (fun i => a (21 + i)) tw ++ gG cI (fun i => a (31 + i)) gl2 ++ gF cI a fd))) (wr := (gW cI (fun i => a (21 + i)) tw ++ gF cI a fd)) G (rn_V (As := [.ref (a 1), .int (jI t)]) (rest := []) (q0 := 0) G (c_X8_isDone (t := t) (ks := ks) (x := wd) (gl := gl) (a := a) (b := fun i => a (1 + i)) (hw := hw) (ht := (by omega))) gX8_whom_X8_isDone rfl hdX8_isDone ⟨rfl, rfl, Nat.le_of_ble_eq_true rfl, Nat.le_of_ble_eq_true rfl⟩ rfl rfl (Nat.le_of_ble_eq_true rfl) ⟨Nat.zero_le _, Nat.zero_le _⟩ rfl rfl dX8_whom_26) [0, 1, 2, 3, 4, 5, 6, 7, 8, 9, 10, 21, 22, 23, 24, 25] [11, 12, 13, 14, 15, 16, 17, 18, 19, 20, 26] [11, 12, 13, 14, 15, 16, 17, 18, 19, 20, 21, 0, 1, 2, 3, 4, 5, 6, 7, 8, 9, 22, 23, 24, 25, 26, 10] rfl rfl (by decide) (fun _ => rfl) (fun r_6 u_8 e_7 => ?_)
    obtain ⟨gl2_5, rfl⟩ : ∃ z, z = u_8 := ⟨_, rfl⟩
    have e_7 : r_6 = jI (b2 (cDn wd t)) ∧ True := e_7
    obtain ⟨e_70, e_7⟩ := e_7
    subst e_70
    refine v_world (ws' := (gS  a ks ++ gW cI (fun i => a (1 + i)) wd ++ gW cI (fun i => a (21 + i)) tw ++ gG cI (fun i => a (31 + i)) gl2_5 ++ gF cI a fd)) rfl ?_
    refine v_ifb_eq (P := cDn wd t) (tgt := 74) G dX8_whom_29 (by decide) (fun c_9 => ?_) (fun c_9 => ?_)
    · skip
      refine v_iload_n (j := 0) (x := jI 0) G dX8_whom_74 rfl rfl ?_
      exact v_iret G (fd, tw, gl2_5) (by first | exact Or.inl ⟨(by first | omega | exact ⟨by omega, by assumption⟩), (by first | rfl | exact congrArg jI (by omega)), rfl⟩ | exact Or.inr (Or.inl ⟨(by first | omega | exact ⟨by omega, by assumption⟩), (by first | rfl | exact congrArg jI (by omega)), rfl⟩) | exact Or.inr (Or.inr (⟨(by first | omega | exact ⟨by omega, by assumption⟩), (by first | rfl | exact congrArg jI (by omega)), rfl⟩))) rfl dX8_whom_75
    · skip
      refine v_eqs (lv' := [(2, .int (stN (fun z_ => ¬ cDn (woW z_ wd) t) 0)), (0, .ref (a 0)), (1, .int (jI t))]) rfl rfl rfl ?_
      refine v_iconst G dX8_whom_32 ?_
      refine v_istore_n (lv' := [(3, .int (jI 0)), (2, .int (stN (fun z_ => ¬ cDn (woW z_ wd) t) 0)), (0, .ref (a 0)), (1, .int (jI t))]) G dX8_whom_33 rfl (by decide) rfl ?_
      refine v_locs (lv' := [(3, .int (jI 0)), (2, .int (stN (fun z_ => ¬ cDn (woW z_ wd) t) 0)), (0, .ref (a 0)), (1, .int (jI t))]) [0, 1, 2, 3] rfl ?_
      refine v_loop3 (fun (k : Nat) (tq : WT) (gq : GT) => [(3, .int (jI (k : Int))), (2, .int (stN (fun z_ => ¬ cDn (woW z_ wd) t) k)), (0, .ref (a 0)), (1, .int (jI t))]) (fun (k : Nat) (tq : WT) (gq : GT) => (gS  a ks ++ gW cI (fun i => a (1 + i)) wd ++ gW cI (fun i => a (21 + i)) tq ++ gG cI (fun i => a (31 + i)) gq ++ gF cI a fd)) (fun (k : Nat) (tq : WT) (gq : GT) => (k : Int) ≤ wd.2.2.1) (fun (k : Nat) (tq : WT) (gq : GT) => wd.2.2.1.toNat - k) 0 tw gl2_5 (by omega) rfl rfl ?_
      intro k tq gq I_10 ih_11
      refine v_iload_n (j := 0) (x := jI (k : Int)) G dX8_whom_34 rfl rfl ?_
      refine v_aload_n (j := 2) (x := a 0) G dX8_whom_35 rfl rfl ?_
      refine v_get (q0 := 0) (k := 0) (v := .ref (a 1)) G k_X8 rfl rfl (by decide) q_1 rfl rfl dX8_whom_36 ?_
      refine v_get (q0 := 1) (k := 2) (v := .int (jI wd.2.2.1)) G k_X7 rfl rfl (by decide) q_3 rfl rfl dX8_whom_39 ?_
      refine v_icmp_ge (a := (k : Int)) (b := wd.2.2.1) (tgt := 74) G dX8_whom_42 (by decide) (by omega) (fun c_12 => ?_) (fun c_12 => ?_)
      · skip
        obtain rfl : k = wd.2.2.1.toNat := by omega
        refine v_iload_n (j := 1) (x := stN (fun z_ => ¬ cDn (woW z_ wd) t) wd.2.2.1.toNat) G dX8_whom_74 rfl rfl ?_
        exact v_iret G (fd, tq, gq) (by first | exact Or.inl ⟨(by first | omega | exact ⟨by omega, by assumption⟩), (by first | rfl | exact congrArg jI (by omega)), rfl⟩ | exact Or.inr (Or.inl ⟨(by first | omega | exact ⟨by omega, by assumption⟩), (by first | rfl | exact congrArg jI (by omega)), rfl⟩) | exact Or.inr (Or.inr (⟨(by first | omega | exact ⟨by omega, by assumption⟩), (by first | rfl | exact congrArg jI (by omega)), rfl⟩))) rfl dX8_whom_75
      · skip
        have hwo := woW_w hw (z := (k : Int)) (by omega)
        refine v_aload_n (j := 2) (x := a 0) G dX8_whom_45 rfl rfl ?_
        refine v_iload_n (j := 0) (x := jI (k : Int)) G dX8_whom_46 rfl rfl ?_
        refine v_cvP (w2 := (fun _ => (gS  a ks ++ gW cI (fun i => a (1 + i)) wd ++ gW cI (fun i => a (21 + i)) (woW (k : Int) wd) ++ gG cI (fun i => a (31 + i)) gq ++ gF cI a fd))) (wr := (gG cI (fun i => a (31 + i)) gq ++ gF cI a fd)) G (rn_V (As := [.int (jI (k : Int))]) (rest := []) (q0 := 0) G (c_X8_tryWithout (z := (k : Int)) (ks := ks) (wd := wd) (tw := tq) (a := a) (hz := (by omega))) gX8_whom_X8_tryWithout rfl hdX8_tryWithout ⟨rfl, rfl, Nat.le_of_ble_eq_true rfl, Nat.le_of_ble_eq_true rfl⟩ rfl rfl (Nat.le_of_ble_eq_true rfl) ⟨Nat.zero_le _, Nat.zero_le _⟩ rfl rfl dX8_whom_47) [0, 1, 2, 3, 4, 5, 6, 7, 8, 9, 10, 11, 12, 13, 14, 15, 16, 17, 18, 19, 20] [21, 22, 23, 24, 25, 26] [6, 7, 8, 9, 10, 11, 12, 13, 14, 15, 16, 17, 18, 19, 20, 21, 22, 23, 24, 25, 26, 0, 1, 2, 3, 4, 5] rfl rfl (by decide) (fun _ => rfl) (fun u_15 e_14 => ?_)
        refine v_world (ws' := (gS  a ks ++ gW cI (fun i => a (1 + i)) wd ++ gW cI (fun i => a (21 + i)) (woW (k : Int) wd) ++ gG cI (fun i => a (31 + i)) gq ++ gF cI a fd)) rfl ?_
        refine v_aload_n (j := 2) (x := a 0) G dX8_whom_50 rfl rfl ?_
        refine v_aload_n (j := 2) (x := a 0) G dX8_whom_51 rfl rfl ?_
        refine v_get (q0 := 0) (k := 2) (v := .ref (a 21)) G k_X8 rfl rfl (by decide) q_4 rfl rfl dX8_whom_52 ?_
        refine v_iload_n (j := 3) (x := jI t) G dX8_whom_55 rfl rfl ?_
        refine v_ciP (w2 := (fun gl2 => (gS  a ks ++ gW cI (fun i => a (1 + i)) wd ++ gW cI (fun i => a (21 + i)) (((woW (k : Int) wd).1), ((woW (k : Int) wd).2.1), ((woW (k : Int) wd).2.2.1), ((woW (k : Int) wd).2.2.2.1), ((woW (k : Int) wd).2.2.2.2.1), ((woW (k : Int) wd).2.2.2.2.2.1), ((woW (k : Int) wd).2.2.2.2.2.2.1), ((woW (k : Int) wd).2.2.2.2.2.2.2.1), ((woW (k : Int) wd).2.2.2.2.2.2.2.2.1), ((woW (k : Int) wd).2.2.2.2.2.2.2.2.2.1), ((woW (k : Int) wd).2.2.2.2.2.2.2.2.2.2.1), ((woW (k : Int) wd).2.2.2.2.2.2.2.2.2.2.2)) ++ gG cI (fun i => a (31 + i)) gl2 ++ gF cI a fd))) (wr := (gW cI (fun i => a (1 + i)) wd ++ gF cI a fd)) G (rn_V (As := [.ref (a 21), .int (jI t)]) (rest := []) (q0 := 0) G (c_X8_isDone (t := t) (ks := ks) (x := (woW (k : Int) wd)) (gl := gq) (a := a) (b := fun i => a (21 + i)) (hw := hwo) (ht := (by omega))) gX8_whom_X8_isDone rfl hdX8_isDone ⟨rfl, rfl, Nat.le_of_ble_eq_true rfl, Nat.le_of_ble_eq_true rfl⟩ rfl rfl (Nat.le_of_ble_eq_true rfl) ⟨Nat.zero_le _, Nat.zero_le _⟩ rfl rfl dX8_whom_56) [0, 11, 12, 13, 14, 15, 16, 17, 18, 19, 20, 21, 22, 23, 24, 25] [1, 2, 3, 4, 5, 6, 7, 8, 9, 10, 26] [11, 0, 1, 2, 3, 4, 5, 6, 7, 8, 9, 12, 13, 14, 15, 16, 17, 18, 19, 20, 21, 22, 23, 24, 25, 26, 10] rfl rfl (by decide) (fun _ => rfl) (fun r_17 u_19 e_18 => ?_)
        obtain ⟨gl2_16, rfl⟩ : ∃ z, z = u_19 := ⟨_, rfl⟩
        have e_18 : r_17 = jI (b2 (cDn (woW (k : Int) wd) t)) ∧ True := e_18
        obtain ⟨e_180, e_18⟩ := e_18
        subst e_180
        refine v_world (ws' := (gS  a ks ++ gW cI (fun i => a (1 + i)) wd ++ gW cI (fun i => a (21 + i)) (((woW (k : Int) wd).1), ((woW (k : Int) wd).2.1), ((woW (k : Int) wd).2.2.1), ((woW (k : Int) wd).2.2.2.1), ((woW (k : Int) wd).2.2.2.2.1), ((woW (k : Int) wd).2.2.2.2.2.1), ((woW (k : Int) wd).2.2.2.2.2.2.1), ((woW (k : Int) wd).2.2.2.2.2.2.2.1), ((woW (k : Int) wd).2.2.2.2.2.2.2.2.1), ((woW (k : Int) wd).2.2.2.2.2.2.2.2.2.1), ((woW (k : Int) wd).2.2.2.2.2.2.2.2.2.2.1), ((woW (k : Int) wd).2.2.2.2.2.2.2.2.2.2.2)) ++ gG cI (fun i => a (31 + i)) gl2_16 ++ gF cI a fd)) rfl ?_
        refine v_cut (pc' := 68) (lv' := [(3, .int (jI (k : Int))), (2, .int (stN (fun z_ => ¬ cDn (woW z_ wd) t) (k + 1))), (0, .ref (a 0)), (1, .int (jI t))]) (st' := []) (ws' := (gS  a ks ++ gW cI (fun i => a (1 + i)) wd ++ gW cI (fun i => a (21 + i)) (((woW (k : Int) wd).1), ((woW (k : Int) wd).2.1), ((woW (k : Int) wd).2.2.1), ((woW (k : Int) wd).2.2.2.1), ((woW (k : Int) wd).2.2.2.2.1), ((woW (k : Int) wd).2.2.2.2.2.1), ((woW (k : Int) wd).2.2.2.2.2.2.1), ((woW (k : Int) wd).2.2.2.2.2.2.2.1), ((woW (k : Int) wd).2.2.2.2.2.2.2.2.1), ((woW (k : Int) wd).2.2.2.2.2.2.2.2.2.1), ((woW (k : Int) wd).2.2.2.2.2.2.2.2.2.2.1), ((woW (k : Int) wd).2.2.2.2.2.2.2.2.2.2.2)) ++ gG cI (fun i => a (31 + i)) gl2_16 ++ gF cI a fd)) ?_ (fun J_20 => ?_)
        · skip
          refine v_iinc (k := 0) (z := (k : Int)) (z' := ((k + 1 : Nat) : Int)) (lv' := [(3, .int (jI ((k + 1 : Nat) : Int))), (2, .int (stN (fun z_ => ¬ cDn (woW z_ wd) t) (k + 1))), (0, .ref (a 0)), (1, .int (jI t))]) G dX8_whom_68 rfl (by omega) (by decide) rfl ?_
          refine v_goto (tgt := 34) G dX8_whom_71 (by decide) ?_
          exact ih_11 (k + 1) (((woW (k : Int) wd).1), ((woW (k : Int) wd).2.1), ((woW (k : Int) wd).2.2.1), ((woW (k : Int) wd).2.2.2.1), ((woW (k : Int) wd).2.2.2.2.1), ((woW (k : Int) wd).2.2.2.2.2.1), ((woW (k : Int) wd).2.2.2.2.2.2.1), ((woW (k : Int) wd).2.2.2.2.2.2.2.1), ((woW (k : Int) wd).2.2.2.2.2.2.2.2.1), ((woW (k : Int) wd).2.2.2.2.2.2.2.2.2.1), ((woW (k : Int) wd).2.2.2.2.2.2.2.2.2.2.1), ((woW (k : Int) wd).2.2.2.2.2.2.2.2.2.2.2)) gl2_16 (by omega) (by omega)
        · skip
          refine v_ifb_ne (P := cDn (woW (k : Int) wd) t) (tgt := 68) G dX8_whom_59 (by decide) (fun c_21 => ?_) (fun c_21 => ?_)
          · skip
            refine v_eqs (lv' := [(3, .int (jI (k : Int))), (2, .int (stN (fun z_ => ¬ cDn (woW z_ wd) t) (k + 1))), (0, .ref (a 0)), (1, .int (jI t))]) (by rw [show stN (fun z_ => ¬ cDn (woW z_ wd) t) (k + 1) = stN (fun z_ => ¬ cDn (woW z_ wd) t) k from ((congrArg (fun z => _ ||| z) (btI_f (by first | omega | assumption | exact fun z => z (by assumption)))).trans (or_z _))]) rfl rfl ?_
            exact J_20
          · skip
            refine v_iload_n (j := 1) (x := stN (fun z_ => ¬ cDn (woW z_ wd) t) k) G dX8_whom_62 rfl rfl ?_
            refine v_iconst G dX8_whom_63 ?_
            refine v_iload_n (j := 0) (x := jI (k : Int)) G dX8_whom_64 rfl rfl ?_
            refine v_ishl (v := (jI 1) <<< ((jI (k : Int)) &&& 31)) G dX8_whom_65 rfl ?_
            refine v_ior (v := (stN (fun z_ => ¬ cDn (woW z_ wd) t) k) ||| ((jI 1) <<< ((jI (k : Int)) &&& 31))) G dX8_whom_66 rfl ?_
            refine v_istore_n (lv' := [(2, .int ((stN (fun z_ => ¬ cDn (woW z_ wd) t) k) ||| ((jI 1) <<< ((jI (k : Int)) &&& 31)))), (3, .int (jI (k : Int))), (0, .ref (a 0)), (1, .int (jI t))]) G dX8_whom_67 rfl (by decide) rfl ?_
            refine v_locs (lv' := [(3, .int (jI (k : Int))), (2, .int ((stN (fun z_ => ¬ cDn (woW z_ wd) t) k) ||| ((jI 1) <<< ((jI (k : Int)) &&& 31)))), (0, .ref (a 0)), (1, .int (jI t))]) [1, 0, 2, 3] rfl ?_
            refine v_eqs (lv' := [(3, .int (jI (k : Int))), (2, .int (stN (fun z_ => ¬ cDn (woW z_ wd) t) (k + 1))), (0, .ref (a 0)), (1, .int (jI t))]) (by rw [show stN (fun z_ => ¬ cDn (woW z_ wd) t) (k + 1) = (stN (fun z_ => ¬ cDn (woW z_ wd) t) k) ||| ((jI 1) <<< ((jI (k : Int)) &&& 31)) from (congrArg (fun z => _ ||| z) (btI_t (by first | omega | assumption | exact fun z => z (by assumption))))]) rfl rfl ?_
            exact J_20
  · skip
    refine v_aload_n (j := 0) (x := a 0) G dX8_whom_11 rfl rfl ?_
    refine v_ldc (z := (-1000000001)) G q_5 (by decide) dX8_whom_12 ?_
    refine v_ciP (w2 := (fun _ => (gS  a ks ++ gW cI (fun i => a (1 + i)) wd ++ gW cI (fun i => a (21 + i)) tw ++ gG cI (fun i => a (31 + i)) gl ++ gF cI a (uI fd 0 (fd 0 + 1))))) (wr := (gW cI (fun i => a (1 + i)) wd ++ gW cI (fun i => a (21 + i)) tw ++ gG cI (fun i => a (31 + i)) gl)) G (rn_V (As := [.int (jI (-1000000001))]) (rest := []) (q0 := 0) G (c_X8_found_0 (ks := ks) (fd := fd) (a := a) ) gX8_whom_X8_found rfl hdX8_found ⟨rfl, rfl, Nat.le_of_ble_eq_true rfl, Nat.le_of_ble_eq_true rfl⟩ rfl rfl (Nat.le_of_ble_eq_true rfl) ⟨Nat.zero_le _, Nat.zero_le _⟩ rfl rfl dX8_whom_14) [0, 26] [1, 2, 3, 4, 5, 6, 7, 8, 9, 10, 11, 12, 13, 14, 15, 16, 17, 18, 19, 20, 21, 22, 23, 24, 25] [25, 0, 1, 2, 3, 4, 5, 6, 7, 8, 9, 10, 11, 12, 13, 14, 15, 16, 17, 18, 19, 20, 21, 22, 23, 24, 26] rfl rfl (by decide) (fun _ => rfl) (fun r_22 u_24 e_23 => ?_)
    have e_23 : r_22 = jI (-1000000001) := e_23
    subst e_23
    refine v_world (ws' := (gS  a ks ++ gW cI (fun i => a (1 + i)) wd ++ gW cI (fun i => a (21 + i)) tw ++ gG cI (fun i => a (31 + i)) gl ++ gF cI a (uI fd 0 (fd 0 + 1)))) rfl ?_
    exact v_iret G (uI fd 0 (fd 0 + 1), tw, gl) (by first | exact Or.inl ⟨(by first | omega | exact ⟨by omega, by assumption⟩), (by first | rfl | exact congrArg jI (by omega)), rfl⟩ | exact Or.inr (Or.inl ⟨(by first | omega | exact ⟨by omega, by assumption⟩), (by first | rfl | exact congrArg jI (by omega)), rfl⟩) | exact Or.inr (Or.inr (⟨(by first | omega | exact ⟨by omega, by assumption⟩), (by first | rfl | exact congrArg jI (by omega)), rfl⟩))) rfl dX8_whom_17
end

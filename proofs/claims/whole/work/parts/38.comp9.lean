section
variable {l : Launch} {D : va_G} {cI cL cB cS : ClassId} {a b c : Nat → Nat} {x o wd kw tw : WT} {g gl : GT} {sx : Int × Int × (Int → Int64)} {fd li : Int → Int} {wy : (Int → Int) × (Int → Int)} {lr : (Int → Int64) × (Int → Int)} {nx : Int} {ta : (Int → Int) × Int} {tk : (Int → Int) × (Int → Int) × (Int → Int) × Int} {s0 s1 s2 s3 : Int × Int × (Int → Int64)} {ks : Int}
set_option maxHeartbeats 4000000 in
set_option maxRecDepth 100000 in
theorem c_X8_image  (hw : Wc wd) : Ci l yX8_image wsX8_image { frames := 2, cells := 0, slots := 0, locals := 61 } D (jT cI cL cB cS) [.ref (a 0)] (gS  a ks ++ gW cI (fun i => a (1 + i)) wd ++ gW cI (fun i => a (11 + i)) kw ++ gF cI a fd) (S := Int × WT) (fun u => (gS  a u.1 ++ gW cI (fun i => a (1 + i)) wd ++ gW cI (fun i => a (11 + i)) u.2 ++ gF cI a fd)) (fun r u => ((True) ∧ r = jI 1 ∧ u.1 = 1 ∧ u.2 = wd)) := by
  refine Ci.mk (cc := cX8_image) (maxL := 1) (rt := .int) (by decide) rfl (Nat.le_of_ble_eq_true rfl) rfl ?_
  intro p_ e_ s_ m_ b_ me_ c_ A_ G hnm
  have k_X8 : ∀ w ∈ u_ws RX8 TX8 12, w ∈ wsX8_image := fun _ h => List.mem_cons_of_mem _ (List.mem_append_left _ (List.mem_append_right _ h))
  have q_1 : Cond.fieldLink RX8 16 "SupperLight" "kept" "LSupperLight$World;" ∈ wsX8_image := List.mem_of_getElem? (i := 1) rfl
  have q_2 : Cond.fieldLink RX8 10 "SupperLight" "world" "LSupperLight$World;" ∈ wsX8_image := List.mem_of_getElem? (i := 2) rfl
  have q_3 : Cond.fieldLink RX8 22 "SupperLight" "keeps" "Z" ∈ wsX8_image := List.mem_of_getElem? (i := 3) rfl
  refine v_aload_n (j := 0) (x := a 0) G dX8_image_0 rfl rfl ?_
  refine v_get (q0 := 0) (k := 1) (v := .ref (a 11)) G k_X8 rfl rfl (by decide) q_1 rfl rfl dX8_image_1 ?_
  refine v_aload_n (j := 0) (x := a 0) G dX8_image_4 rfl rfl ?_
  refine v_get (q0 := 0) (k := 0) (v := .ref (a 1)) G k_X8 rfl rfl (by decide) q_2 rfl rfl dX8_image_5 ?_
  refine v_cvG (w2 := (fun _ => (gS  a ks ++ gW cI (fun i => a (1 + i)) wd ++ gW cI (fun i => a (11 + i)) wd ++ gF cI a fd))) G [gS  a ks, gW cI (fun i => a (1 + i)) wd, gW cI (fun i => a (11 + i)) kw, gF cI a fd] [gW cI (fun i => a (11 + i)) kw, gW cI (fun i => a (1 + i)) wd] [gS  a ks, gF cI a fd] (fun _ => [gS  a ks, gW cI (fun i => a (1 + i)) wd, gW cI (fun i => a (11 + i)) wd, gF cI a fd]) (fun _ => [gW cI (fun i => a (11 + i)) wd, gW cI (fun i => a (1 + i)) wd]) [2, 1] (rn_V (As := [.ref (a 1)]) (rest := []) (q0 := 0) G (c_X7_becomeAs (x := kw) (o := wd) (b := fun i => a (11 + i)) (c := fun i => a (1 + i)) ) gX8_image_X7_becomeAs rfl hdX7_becomeAs ⟨rfl, rfl, Nat.le_of_ble_eq_true rfl, Nat.le_of_ble_eq_true rfl⟩ rfl rfl (Nat.le_of_ble_eq_true rfl) ⟨Nat.zero_le _, Nat.zero_le _⟩ rfl rfl dX8_image_8) rfl rfl rfl (fun _ => rfl) (fun _ => rfl) (fun _ => rfl) (fun u_3 e_2 => ?_)
  refine v_world (ws' := (gS  a ks ++ gW cI (fun i => a (1 + i)) wd ++ gW cI (fun i => a (11 + i)) wd ++ gF cI a fd)) rfl ?_
  refine v_aload_n (j := 0) (x := a 0) G dX8_image_11 rfl rfl ?_
  refine v_iconst G dX8_image_12 ?_
  refine v_put (q0 := 0) (k := 3) (ty := .boolean) (ws' := (gS  a 1 ++ gW cI (fun i => a (1 + i)) wd ++ gW cI (fun i => a (11 + i)) wd ++ gF cI a fd)) G k_X8 tyX8 tyX8_ok nmX8 rfl rfl (by decide) q_3 rfl rfl rfl nb_1 rfl (Nat.le_of_ble_eq_true rfl) rfl dX8_image_13 ?_
  refine v_iconst G dX8_image_16 ?_
  exact v_iret G (1, wd) (by first | exact ⟨(by trivial), (by first | rfl | exact congrArg jI (by omega)), rfl, rfl⟩) rfl dX8_image_17

set_option maxHeartbeats 4000000 in
set_option maxRecDepth 100000 in
theorem c_X8_undo  (hw : Wc wd) (hk : ks = 0 ∨ ks = 1) : Ci l yX8_undo wsX8_undo { frames := 2, cells := 0, slots := 0, locals := 61 } D (jT cI cL cB cS) [.ref (a 0)] (gS  a ks ++ gW cI (fun i => a (1 + i)) wd ++ gW cI (fun i => a (11 + i)) kw ++ gF cI a fd) (S := WT × (Int → Int)) (fun u => (gS  a ks ++ gW cI (fun i => a (1 + i)) u.1 ++ gW cI (fun i => a (11 + i)) kw ++ gF cI a u.2)) (fun r u => ((ks = 0) ∧ r = jI (-1000000004) ∧ u.1 = wd ∧ u.2 = uI fd 3 (fd 3 + 1)) ∨ ((ks = 1) ∧ r = jI kw.2.2.1 ∧ u.1 = kw ∧ u.2 = fd)) := by
  refine Ci.mk (cc := cX8_undo) (maxL := 1) (rt := .int) (by decide) rfl (Nat.le_of_ble_eq_true rfl) rfl ?_
  intro p_ e_ s_ m_ b_ me_ c_ A_ G hnm
  have k_X8 : ∀ w ∈ u_ws RX8 TX8 12, w ∈ wsX8_undo := fun _ h => List.mem_cons_of_mem _ (List.mem_append_left _ (List.mem_append_right _ h))
  have q_1 : Cond.fieldLink RX8 22 "SupperLight" "keeps" "Z" ∈ wsX8_undo := List.mem_of_getElem? (i := 1) rfl
  have q_2 : Cond.fieldLink RX8 10 "SupperLight" "world" "LSupperLight$World;" ∈ wsX8_undo := List.mem_of_getElem? (i := 3) rfl
  have q_3 : Cond.fieldLink RX8 16 "SupperLight" "kept" "LSupperLight$World;" ∈ wsX8_undo := List.mem_of_getElem? (i := 4) rfl
  have k_X7 : ∀ w ∈ u_ws RX7 TX7 12, w ∈ wsX8_undo := fun _ h => List.mem_cons_of_mem _ (List.mem_append_right _ h)
  have q_5 : Cond.fieldLink RX8 101 "SupperLight$World" "beings" "I" ∈ wsX8_undo := List.mem_of_getElem? (i := 5) rfl
  have q_6 : Cond.constant RX8 208 (-1000000004) ∈ wsX8_undo := List.mem_of_getElem? (i := 2) rfl
  refine v_aload_n (j := 0) (x := a 0) G dX8_undo_0 rfl rfl ?_
  refine v_get (q0 := 0) (k := 3) (v := .int (jI ks)) G k_X8 rfl rfl (by decide) q_1 rfl rfl dX8_undo_1 ?_
  refine v_if_ne (a := ks) (tgt := 14) G dX8_undo_4 (by decide) (by omega) (fun c_1 => ?_) (fun c_1 => ?_)
  · skip
    refine v_aload_n (j := 0) (x := a 0) G dX8_undo_14 rfl rfl ?_
    refine v_get (q0 := 0) (k := 0) (v := .ref (a 1)) G k_X8 rfl rfl (by decide) q_2 rfl rfl dX8_undo_15 ?_
    refine v_aload_n (j := 0) (x := a 0) G dX8_undo_18 rfl rfl ?_
    refine v_get (q0 := 0) (k := 1) (v := .ref (a 11)) G k_X8 rfl rfl (by decide) q_3 rfl rfl dX8_undo_19 ?_
    refine v_cvG (w2 := (fun _ => (gS  a ks ++ gW cI (fun i => a (1 + i)) kw ++ gW cI (fun i => a (11 + i)) kw ++ gF cI a fd))) G [gS  a ks, gW cI (fun i => a (1 + i)) wd, gW cI (fun i => a (11 + i)) kw, gF cI a fd] [gW cI (fun i => a (1 + i)) wd, gW cI (fun i => a (11 + i)) kw] [gS  a ks, gF cI a fd] (fun _ => [gS  a ks, gW cI (fun i => a (1 + i)) kw, gW cI (fun i => a (11 + i)) kw, gF cI a fd]) (fun _ => [gW cI (fun i => a (1 + i)) kw, gW cI (fun i => a (11 + i)) kw]) [1, 1] (rn_V (As := [.ref (a 11)]) (rest := []) (q0 := 0) G (c_X7_becomeAs (x := wd) (o := kw) (b := fun i => a (1 + i)) (c := fun i => a (11 + i)) ) gX8_undo_X7_becomeAs rfl hdX7_becomeAs ⟨rfl, rfl, Nat.le_of_ble_eq_true rfl, Nat.le_of_ble_eq_true rfl⟩ rfl rfl (Nat.le_of_ble_eq_true rfl) ⟨Nat.zero_le _, Nat.zero_le _⟩ rfl rfl dX8_undo_22) rfl rfl rfl (fun _ => rfl) (fun _ => rfl) (fun _ => rfl) (fun u_4 e_3 => ?_)
    refine v_world (ws' := (gS  a ks ++ gW cI (fun i => a (1 + i)) kw ++ gW cI (fun i => a (11 + i)) kw ++ gF cI a fd)) rfl ?_
    refine v_aload_n (j := 0) (x := a 0) G dX8_undo_25 rfl rfl ?_
    refine v_get (q0 := 0) (k := 0) (v := .ref (a 1)) G k_X8 rfl rfl (by decide) q_2 rfl rfl dX8_undo_26 ?_
    refine v_get (q0 := 1) (k := 2) (v := .int (jI kw.2.2.1)) G k_X7 rfl rfl (by decide) q_5 rfl rfl dX8_undo_29 ?_
    exact v_iret G (kw, fd) (by first | exact Or.inl ⟨(by omega), (by first | rfl | exact congrArg jI (by omega)), rfl, rfl⟩ | exact Or.inr (⟨(by omega), (by first | rfl | exact congrArg jI (by omega)), rfl, rfl⟩)) rfl dX8_undo_32
  · skip
    refine v_aload_n (j := 0) (x := a 0) G dX8_undo_7 rfl rfl ?_
    refine v_ldc (z := (-1000000004)) G q_6 (by decide) dX8_undo_8 ?_
    refine v_ciG (w2 := (fun _ => (gS  a ks ++ gW cI (fun i => a (1 + i)) wd ++ gW cI (fun i => a (11 + i)) kw ++ gF cI a (uI fd 3 (fd 3 + 1))))) G [gS  a ks, gW cI (fun i => a (1 + i)) wd, gW cI (fun i => a (11 + i)) kw, gF cI a fd] [gS  a ks, gF cI a fd] [gW cI (fun i => a (1 + i)) wd, gW cI (fun i => a (11 + i)) kw] (fun _ => [gS  a ks, gW cI (fun i => a (1 + i)) wd, gW cI (fun i => a (11 + i)) kw, gF cI a (uI fd 3 (fd 3 + 1))]) (fun _ => [gS  a ks, gF cI a (uI fd 3 (fd 3 + 1))]) [0, 2] (rn_V (As := [.int (jI (-1000000004))]) (rest := []) (q0 := 0) G (c_X8_found_3 (ks := ks) (fd := fd) (a := a) ) gX8_undo_X8_found rfl hdX8_found ⟨rfl, rfl, Nat.le_of_ble_eq_true rfl, Nat.le_of_ble_eq_true rfl⟩ rfl rfl (Nat.le_of_ble_eq_true rfl) ⟨Nat.zero_le _, Nat.zero_le _⟩ rfl rfl dX8_undo_10) rfl rfl rfl (fun _ => rfl) (fun _ => rfl) (fun _ => rfl) (fun r_5 u_7 e_6 => ?_)
    have e_6 : r_5 = jI (-1000000004) := e_6
    subst e_6
    refine v_world (ws' := (gS  a ks ++ gW cI (fun i => a (1 + i)) wd ++ gW cI (fun i => a (11 + i)) kw ++ gF cI a (uI fd 3 (fd 3 + 1)))) rfl ?_
    exact v_iret G (wd, uI fd 3 (fd 3 + 1)) (by first | exact Or.inl ⟨(by omega), (by first | rfl | exact congrArg jI (by omega)), rfl, rfl⟩ | exact Or.inr (⟨(by omega), (by first | rfl | exact congrArg jI (by omega)), rfl, rfl⟩)) rfl dX8_undo_13

set_option maxHeartbeats 4000000 in
set_option maxRecDepth 100000 in
theorem c_X8_tear  (hk : ks = 0 ∨ ks = 1) : Ci l yX8_tear wsX8_tear { frames := 0, cells := 0, slots := 0, locals := 0 } D (jT cI cL cB cS) [.ref (a 0)] (gS  a ks ++ gF cI a fd) (S := Int) (fun ks2 => (gS  a ks2 ++ gF cI a fd)) (fun r ks2 => ((True) ∧ r = jI ks ∧ ks2 = 0)) := by
  refine Ci.mk (cc := cX8_tear) (maxL := 2) (rt := .int) (by decide) rfl (Nat.le_of_ble_eq_true rfl) rfl ?_
  intro p_ e_ s_ m_ b_ me_ c_ A_ G hnm
  have k_X8 : ∀ w ∈ u_ws RX8 TX8 12, w ∈ wsX8_tear := fun _ h => List.mem_cons_of_mem _ (List.mem_append_right _ h)
  have q_1 : Cond.fieldLink RX8 22 "SupperLight" "keeps" "Z" ∈ wsX8_tear := List.mem_of_getElem? (i := 1) rfl
  refine v_aload_n (j := 0) (x := a 0) G dX8_tear_0 rfl rfl ?_
  refine v_get (q0 := 0) (k := 3) (v := .int (jI ks)) G k_X8 rfl rfl (by decide) q_1 rfl rfl dX8_tear_1 ?_
  refine v_cut (pc' := 12) (lv' := [(0, .ref (a 0))]) (st' := [.int (jI ks)]) (ws' := (gS  a ks ++ gF cI a fd)) ?_ (fun J_1 => ?_)
  · skip
    refine v_istore_n (lv' := [(1, .int (jI ks)), (0, .ref (a 0))]) G dX8_tear_12 rfl (by decide) rfl ?_
    refine v_aload_n (j := 1) (x := a 0) G dX8_tear_13 rfl rfl ?_
    refine v_iconst G dX8_tear_14 ?_
    refine v_put (q0 := 0) (k := 3) (ty := .boolean) (ws' := (gS  a 0 ++ gF cI a fd)) G k_X8 tyX8 tyX8_ok nmX8 rfl rfl (by decide) q_1 rfl rfl rfl nb_0 rfl (Nat.le_of_ble_eq_true rfl) rfl dX8_tear_15 ?_
    refine v_iload_n (j := 0) (x := jI ks) G dX8_tear_18 rfl rfl ?_
    exact v_iret G (0) (by first | exact ⟨(by trivial), (by first | rfl | exact congrArg jI (by omega)), rfl⟩) rfl dX8_tear_19
  · skip
    refine v_if_eq (a := ks) (tgt := 11) G dX8_tear_4 (by decide) (by omega) (fun c_2 => ?_) (fun c_2 => ?_)
    · skip
      refine v_iconst G dX8_tear_11 ?_
      refine v_topj (x := 0) (y := ks) (by omega) ?_
      exact J_1
    · skip
      refine v_iconst G dX8_tear_7 ?_
      refine v_goto (tgt := 12) G dX8_tear_8 (by decide) ?_
      refine v_topj (x := 1) (y := ks) (by omega) ?_
      exact J_1

set_option maxHeartbeats 4000000 in
set_option maxRecDepth 100000 in
theorem c_X8_count (t : Int) (hw : Wc wd) (hr : (-2147483648 ≤ t ∧ t ≤ 2147483647)) : Ci l yX8_count wsX8_count { frames := 2, cells := 0, slots := 0, locals := 44 } D (jT cI cL cB cS) [.ref (a 0), .int (jI t)] (gS  a ks ++ gW cI (fun i => a (1 + i)) wd ++ gT cB (fun i => a (36 + i)) ta ++ gF cI a fd) (S := (Int → Int)) (fun fd2 => (gS  a ks ++ gW cI (fun i => a (1 + i)) wd ++ gT cB (fun i => a (36 + i)) ta ++ gF cI a fd2)) (fun r fd2 => ((t = 0) ∧ r = jI wd.2.2.1 ∧ fd2 = fd) ∨ ((t = 1) ∧ r = jI wd.2.2.2.2.2.2.2.2.1 ∧ fd2 = fd) ∨ ((t = 2) ∧ r = jI ta.2 ∧ fd2 = fd) ∨ ((t = 3) ∧ r = jI (sumN wd.2.2.2.2.2.2.1 wd.2.2.1.toNat) ∧ fd2 = fd) ∨ ((t < 0 ∨ 3 < t) ∧ r = jI (-1000000001) ∧ fd2 = uI fd 0 (fd 0 + 1))) := by
  refine Ci.mk (cc := cX8_count) (maxL := 2) (rt := .int) (by decide) rfl (Nat.le_of_ble_eq_true rfl) rfl ?_
  intro p_ e_ s_ m_ b_ me_ c_ A_ G hnm
  have hm := hw.many
  have hmt := hw.tasks
  have hh := hw.hour
  have k_X8 : ∀ w ∈ u_ws RX8 TX8 12, w ∈ wsX8_count := fun _ h => List.mem_cons_of_mem _ (List.mem_append_left _ (List.mem_append_left _ (List.mem_append_right _ h)))
  have q_1 : Cond.fieldLink RX8 10 "SupperLight" "world" "LSupperLight$World;" ∈ wsX8_count := List.mem_of_getElem? (i := 1) rfl
  have k_X7 : ∀ w ∈ u_ws RX7 TX7 12, w ∈ wsX8_count := fun _ h => List.mem_cons_of_mem _ (List.mem_append_left _ (List.mem_append_right _ h))
  have q_3 : Cond.fieldLink RX8 101 "SupperLight$World" "beings" "I" ∈ wsX8_count := List.mem_of_getElem? (i := 2) rfl
  have q_4 : Cond.fieldLink RX8 156 "SupperLight$World" "tasks" "I" ∈ wsX8_count := List.mem_of_getElem? (i := 3) rfl
  have q_5 : Cond.fieldLink RX8 36 "SupperLight" "tape" "LSupperLight$Tape;" ∈ wsX8_count := List.mem_of_getElem? (i := 4) rfl
  have k_X4 : ∀ w ∈ u_ws RX4 TX4 2, w ∈ wsX8_count := fun _ h => List.mem_cons_of_mem _ (List.mem_append_right _ h)
  have q_7 : Cond.fieldLink RX8 248 "SupperLight$Tape" "size" "I" ∈ wsX8_count := List.mem_of_getElem? (i := 5) rfl
  have q_8 : Cond.fieldLink RX8 121 "SupperLight$World" "meals" "[I" ∈ wsX8_count := List.mem_of_getElem? (i := 6) rfl
  have q_9 : Cond.constant RX8 83 (-1000000001) ∈ wsX8_count := List.mem_of_getElem? (i := 7) rfl
  refine v_iload_n (j := 1) (x := jI t) G dX8_count_0 rfl rfl ?_
  rcases (show t = 0 ∨ t = 1 ∨ t = 2 ∨ t = 3 ∨ (t < 0 ∨ 3 < t) by omega) with c_1 | c_1 | c_1 | c_1 | c_1
  · skip
    refine v_tabIn (z := t) (v := 0) (tgt := 32) G c_1 (by decide) rfl (by decide) dX8_count_1 ?_
    refine v_aload_n (j := 0) (x := a 0) G dX8_count_32 rfl rfl ?_
    refine v_get (q0 := 0) (k := 0) (v := .ref (a 1)) G k_X8 rfl rfl (by decide) q_1 rfl rfl dX8_count_33 ?_
    refine v_get (q0 := 1) (k := 2) (v := .int (jI wd.2.2.1)) G k_X7 rfl rfl (by decide) q_3 rfl rfl dX8_count_36 ?_
    exact v_iret G (fd) (by first | exact Or.inl ⟨(by omega), (by first | rfl | exact congrArg jI (by omega)), rfl⟩ | exact Or.inr (Or.inl ⟨(by omega), (by first | rfl | exact congrArg jI (by omega)), rfl⟩) | exact Or.inr (Or.inr (Or.inl ⟨(by omega), (by first | rfl | exact congrArg jI (by omega)), rfl⟩)) | exact Or.inr (Or.inr (Or.inr (Or.inl ⟨(by omega), (by first | rfl | exact congrArg jI (by omega)), rfl⟩))) | exact Or.inr (Or.inr (Or.inr (Or.inr (⟨(by omega), (by first | rfl | exact congrArg jI (by omega)), rfl⟩))))) rfl dX8_count_39
  · skip
    refine v_tabIn (z := t) (v := 1) (tgt := 40) G c_1 (by decide) rfl (by decide) dX8_count_1 ?_
    refine v_aload_n (j := 0) (x := a 0) G dX8_count_40 rfl rfl ?_
    refine v_get (q0 := 0) (k := 0) (v := .ref (a 1)) G k_X8 rfl rfl (by decide) q_1 rfl rfl dX8_count_41 ?_
    refine v_get (q0 := 1) (k := 8) (v := .int (jI wd.2.2.2.2.2.2.2.2.1)) G k_X7 rfl rfl (by decide) q_4 rfl rfl dX8_count_44 ?_
    exact v_iret G (fd) (by first | exact Or.inl ⟨(by omega), (by first | rfl | exact congrArg jI (by omega)), rfl⟩ | exact Or.inr (Or.inl ⟨(by omega), (by first | rfl | exact congrArg jI (by omega)), rfl⟩) | exact Or.inr (Or.inr (Or.inl ⟨(by omega), (by first | rfl | exact congrArg jI (by omega)), rfl⟩)) | exact Or.inr (Or.inr (Or.inr (Or.inl ⟨(by omega), (by first | rfl | exact congrArg jI (by omega)), rfl⟩))) | exact Or.inr (Or.inr (Or.inr (Or.inr (⟨(by omega), (by first | rfl | exact congrArg jI (by omega)), rfl⟩))))) rfl dX8_count_47
  · skip
    refine v_tabIn (z := t) (v := 2) (tgt := 48) G c_1 (by decide) rfl (by decide) dX8_count_1 ?_
    refine v_aload_n (j := 0) (x := a 0) G dX8_count_48 rfl rfl ?_
    refine v_get (q0 := 0) (k := 5) (v := .ref (a 36)) G k_X8 rfl rfl (by decide) q_5 rfl rfl dX8_count_49 ?_
    refine v_get (q0 := 11) (k := 1) (v := .int (jI ta.2)) G k_X4 rfl rfl (by decide) q_7 rfl rfl dX8_count_52 ?_
    exact v_iret G (fd) (by first | exact Or.inl ⟨(by omega), (by first | rfl | exact congrArg jI (by omega)), rfl⟩ | exact Or.inr (Or.inl ⟨(by omega), (by first | rfl | exact congrArg jI (by omega)), rfl⟩) | exact Or.inr (Or.inr (Or.inl ⟨(by omega), (by first | rfl | exact congrArg jI (by omega)), rfl⟩)) | exact Or.inr (Or.inr (Or.inr (Or.inl ⟨(by omega), (by first | rfl | exact congrArg jI (by omega)), rfl⟩))) | exact Or.inr (Or.inr (Or.inr (Or.inr (⟨(by omega), (by first | rfl | exact congrArg jI (by omega)), rfl⟩))))) rfl dX8_count_55
  · skip
    refine v_tabIn (z := t) (v := 3) (tgt := 56) G c_1 (by decide) rfl (by decide) dX8_count_1 ?_
    refine v_aload_n (j := 0) (x := a 0) G dX8_count_56 rfl rfl ?_
    refine v_get (q0 := 0) (k := 0) (v := .ref (a 1)) G k_X8 rfl rfl (by decide) q_1 rfl rfl dX8_count_57 ?_
    refine v_get (q0 := 1) (k := 6) (v := .ref (a 6)) G k_X7 rfl rfl (by decide) q_8 rfl rfl dX8_count_60 ?_
    refine v_aload_n (j := 0) (x := a 0) G dX8_count_63 rfl rfl ?_
    refine v_get (q0 := 0) (k := 0) (v := .ref (a 1)) G k_X8 rfl rfl (by decide) q_1 rfl rfl dX8_count_64 ?_
    refine v_get (q0 := 1) (k := 2) (v := .int (jI wd.2.2.1)) G k_X7 rfl rfl (by decide) q_3 rfl rfl dX8_count_67 ?_
    refine v_ciA (q0 := 6) G rfl (rn_S (As := [.ref (a 6), .int (jI wd.2.2.1)]) (rest := []) G (c_X8_sumOf (n := wd.2.2.1) (y := a 6) (f := wd.2.2.2.2.2.2.1) (N := 10) (hn := (by omega))) gX8_count_X8_sumOf rfl hdX8_sumOf ⟨rfl, rfl, Nat.le_of_ble_eq_true rfl, Nat.le_of_ble_eq_true rfl⟩ rfl rfl (Nat.le_of_ble_eq_true rfl) ⟨Nat.zero_le _, Nat.zero_le _⟩ dX8_count_70) (fun r_2 u_4 e_3 => ?_)
    have e_3 : r_2 = jI (sumN wd.2.2.2.2.2.2.1 wd.2.2.1.toNat) := e_3
    subst e_3
    exact v_iret G (fd) (by first | exact Or.inl ⟨(by omega), (by first | rfl | exact congrArg jI (by omega)), rfl⟩ | exact Or.inr (Or.inl ⟨(by omega), (by first | rfl | exact congrArg jI (by omega)), rfl⟩) | exact Or.inr (Or.inr (Or.inl ⟨(by omega), (by first | rfl | exact congrArg jI (by omega)), rfl⟩)) | exact Or.inr (Or.inr (Or.inr (Or.inl ⟨(by omega), (by first | rfl | exact congrArg jI (by omega)), rfl⟩))) | exact Or.inr (Or.inr (Or.inr (Or.inr (⟨(by omega), (by first | rfl | exact congrArg jI (by omega)), rfl⟩))))) rfl dX8_count_73
  · skip
    refine v_tabOut (z := t) (tgt := 74) G c_1 (by omega) (by decide) dX8_count_1 ?_
    refine v_aload_n (j := 0) (x := a 0) G dX8_count_74 rfl rfl ?_
    refine v_ldc (z := (-1000000001)) G q_9 (by decide) dX8_count_75 ?_
    refine v_ciG (w2 := (fun _ => (gS  a ks ++ gW cI (fun i => a (1 + i)) wd ++ gT cB (fun i => a (36 + i)) ta ++ gF cI a (uI fd 0 (fd 0 + 1))))) G [gS  a ks, gW cI (fun i => a (1 + i)) wd, gT cB (fun i => a (36 + i)) ta, gF cI a fd] [gS  a ks, gF cI a fd] [gW cI (fun i => a (1 + i)) wd, gT cB (fun i => a (36 + i)) ta] (fun _ => [gS  a ks, gW cI (fun i => a (1 + i)) wd, gT cB (fun i => a (36 + i)) ta, gF cI a (uI fd 0 (fd 0 + 1))]) (fun _ => [gS  a ks, gF cI a (uI fd 0 (fd 0 + 1))]) [0, 2] (rn_V (As := [.int (jI (-1000000001))]) (rest := []) (q0 := 0) G (c_X8_found_0 (ks := ks) (fd := fd) (a := a) ) gX8_count_X8_found rfl hdX8_found ⟨rfl, rfl, Nat.le_of_ble_eq_true rfl, Nat.le_of_ble_eq_true rfl⟩ rfl rfl (Nat.le_of_ble_eq_true rfl) ⟨Nat.zero_le _, Nat.zero_le _⟩ rfl rfl dX8_count_77) rfl rfl rfl (fun _ => rfl) (fun _ => rfl) (fun _ => rfl) (fun r_5 u_7 e_6 => ?_)
    have e_6 : r_5 = jI (-1000000001) := e_6
    subst e_6
    refine v_world (ws' := (gS  a ks ++ gW cI (fun i => a (1 + i)) wd ++ gT cB (fun i => a (36 + i)) ta ++ gF cI a (uI fd 0 (fd 0 + 1)))) rfl ?_
    exact v_iret G (uI fd 0 (fd 0 + 1)) (by first | exact Or.inl ⟨(by omega), (by first | rfl | exact congrArg jI (by omega)), rfl⟩ | exact Or.inr (Or.inl ⟨(by omega), (by first | rfl | exact congrArg jI (by omega)), rfl⟩) | exact Or.inr (Or.inr (Or.inl ⟨(by omega), (by first | rfl | exact congrArg jI (by omega)), rfl⟩)) | exact Or.inr (Or.inr (Or.inr (Or.inl ⟨(by omega), (by first | rfl | exact congrArg jI (by omega)), rfl⟩))) | exact Or.inr (Or.inr (Or.inr (Or.inr (⟨(by omega), (by first | rfl | exact congrArg jI (by omega)), rfl⟩))))) rfl dX8_count_80

set_option maxHeartbeats 4000000 in
set_option maxRecDepth 100000 in
theorem c_X8_status (t : Int) (hr : (-2147483648 ≤ t ∧ t ≤ 2147483647)) : Ci l yX8_status wsX8_status { frames := 2, cells := 0, slots := 0, locals := 44 } D (jT cI cL cB cS) [.ref (a 0), .int (jI t)] (gS  a ks ++ gF cI a fd) (S := (Int → Int)) (fun fd2 => (gS  a ks ++ gF cI a fd2)) (fun r fd2 => ((¬ (-1 ≤ t ∧ t ≤ 6)) ∧ r = jI (-1000000001) ∧ fd2 = uI fd 0 (fd 0 + 1)) ∨ ((0 ≤ t ∧ t ≤ 6) ∧ r = jI (fd t) ∧ fd2 = fd) ∨ ((t = -1) ∧ r = jI (sumN fd 7) ∧ fd2 = fd)) := by
  refine Ci.mk (cc := cX8_status) (maxL := 2) (rt := .int) (by decide) rfl (Nat.le_of_ble_eq_true rfl) rfl ?_
  intro p_ e_ s_ m_ b_ me_ c_ A_ G hnm
  have k_X8 : ∀ w ∈ u_ws RX8 TX8 12, w ∈ wsX8_status := fun _ h => List.mem_cons_of_mem _ (List.mem_append_right _ h)
  have q_1 : Cond.fieldLink RX8 72 "SupperLight" "findings" "[I" ∈ wsX8_status := List.mem_of_getElem? (i := 2) rfl
  have q_2 : Cond.constant RX8 83 (-1000000001) ∈ wsX8_status := List.mem_of_getElem? (i := 1) rfl
  refine v_iload_n (j := 1) (x := jI t) G dX8_status_0 rfl rfl ?_
  refine v_iconst G dX8_status_1 ?_
  refine v_bipush G dX8_status_2 (by decide) ?_
  refine v_ciN G (rn_S (As := [.int (jI t), .int (jI (-1)), .int (jI 6)]) (rest := []) G (c_X8_within (v := t) (lo := (-1)) (hi := 6) (hr := (by omega))) gX8_status_X8_within rfl hdX8_within ⟨rfl, rfl, Nat.le_of_ble_eq_true rfl, Nat.le_of_ble_eq_true rfl⟩ rfl rfl (Nat.le_of_ble_eq_true rfl) ⟨Nat.zero_le _, Nat.zero_le _⟩ dX8_status_4) (fun r_1 u_3 e_2 => ?_)
  have e_2 : r_1 = jI (b2 (((-1) : Int) ≤ t ∧ t ≤ (6 : Int))) := e_2
  subst e_2
  refine v_ifb_ne (P := ((-1) : Int) ≤ t ∧ t ≤ (6 : Int)) (tgt := 17) G dX8_status_7 (by decide) (fun c_4 => ?_) (fun c_4 => ?_)
  · skip
    refine v_iload_n (j := 1) (x := jI t) G dX8_status_17 rfl rfl ?_
    refine v_if_lt (a := t) (tgt := 28) G dX8_status_18 (by decide) (by omega) (fun c_5 => ?_) (fun c_5 => ?_)
    · skip
      refine v_aload_n (j := 0) (x := a 0) G dX8_status_28 rfl rfl ?_
      refine v_get (q0 := 0) (k := 11) (v := .ref (a 59)) G k_X8 rfl rfl (by decide) q_1 rfl rfl dX8_status_29 ?_
      refine v_bipush G dX8_status_32 (by decide) ?_
      refine v_ciA (q0 := 1) G rfl (rn_S (As := [.ref (a 59), .int (jI 7)]) (rest := []) G (c_X8_sumOf (n := 7) (y := a 59) (f := fd) (N := 7) (hn := (by omega))) gX8_status_X8_sumOf rfl hdX8_sumOf ⟨rfl, rfl, Nat.le_of_ble_eq_true rfl, Nat.le_of_ble_eq_true rfl⟩ rfl rfl (Nat.le_of_ble_eq_true rfl) ⟨Nat.zero_le _, Nat.zero_le _⟩ dX8_status_34) (fun r_6 u_8 e_7 => ?_)
      have e_7 : r_6 = jI (sumN fd 7) := e_7
      subst e_7
      exact v_iret G (fd) (by first | exact Or.inl ⟨(by omega), (by first | rfl | exact congrArg jI (by omega)), rfl⟩ | exact Or.inr (Or.inl ⟨(by omega), (by first | rfl | exact congrArg jI (by omega)), rfl⟩) | exact Or.inr (Or.inr (⟨(by omega), (by first | rfl | exact congrArg jI (by omega)), rfl⟩))) rfl dX8_status_37
    · skip
      refine v_aload_n (j := 0) (x := a 0) G dX8_status_21 rfl rfl ?_
      refine v_get (q0 := 0) (k := 11) (v := .ref (a 59)) G k_X8 rfl rfl (by decide) q_1 rfl rfl dX8_status_22 ?_
      refine v_iload_n (j := 1) (x := jI t) G dX8_status_25 rfl rfl ?_
      refine v_iald (q0 := 1) (t0 := 0) (g := fd) (z := t) G rfl rfl (by omega) dX8_status_26 ?_
      exact v_iret G (fd) (by first | exact Or.inl ⟨(by omega), (by first | rfl | exact congrArg jI (by omega)), rfl⟩ | exact Or.inr (Or.inl ⟨(by omega), (by first | rfl | exact congrArg jI (by omega)), rfl⟩) | exact Or.inr (Or.inr (⟨(by omega), (by first | rfl | exact congrArg jI (by omega)), rfl⟩))) rfl dX8_status_27
  · skip
    refine v_aload_n (j := 0) (x := a 0) G dX8_status_10 rfl rfl ?_
    refine v_ldc (z := (-1000000001)) G q_2 (by decide) dX8_status_11 ?_
    refine v_ciF G (rn_V (As := [.int (jI (-1000000001))]) (rest := []) (q0 := 0) G (c_X8_found_0 (ks := ks) (fd := fd) (a := a) ) gX8_status_X8_found rfl hdX8_found ⟨rfl, rfl, Nat.le_of_ble_eq_true rfl, Nat.le_of_ble_eq_true rfl⟩ rfl rfl (Nat.le_of_ble_eq_true rfl) ⟨Nat.zero_le _, Nat.zero_le _⟩ rfl rfl dX8_status_13) (fun r_9 u_11 e_10 => ?_)
    have e_10 : r_9 = jI (-1000000001) := e_10
    subst e_10
    refine v_world (ws' := (gS  a ks ++ gF cI a (uI fd 0 (fd 0 + 1)))) rfl ?_
    exact v_iret G (uI fd 0 (fd 0 + 1)) (by first | exact Or.inl ⟨(by omega), (by first | rfl | exact congrArg jI (by omega)), rfl⟩ | exact Or.inr (Or.inl ⟨(by omega), (by first | rfl | exact congrArg jI (by omega)), rfl⟩) | exact Or.inr (Or.inr (⟨(by omega), (by first | rfl | exact congrArg jI (by omega)), rfl⟩))) rfl dX8_status_16

set_option maxHeartbeats 4000000 in
set_option maxRecDepth 100000 in
theorem c_X4_putLowest (x : Int32) (n : Int) (hn : (1 ≤ n ∧ n ≤ 4) ∧ 0 ≤ ta.2 ∧ ta.2 + n ≤ 120) : Cv l yX4_putLowest wsX4_putLowest { frames := 0, cells := 0, slots := 0, locals := 0 } D (jT cI cL cB cS) [.ref (b 0), .int x, .int (jI n)] (gT cB b ta) (S := Unit) (fun _ => (gT cB b (tbF ta.1 ta.2 x n n.toNat, ta.2 + n))) (fun _ => True) := by
  refine Cv.mk (cc := cX4_putLowest) (maxL := 4) (by decide) rfl (Nat.le_of_ble_eq_true rfl) rfl ?_
  intro p_ e_ s_ m_ b_ me_ c_ A_ G hnm
  have k_X4 : ∀ w ∈ u_ws RX4 TX4 2, w ∈ wsX4_putLowest := fun _ h => List.mem_cons_of_mem _ (List.mem_append_right _ h)
  have q_1 : Cond.fieldLink RX4 15 "SupperLight$Tape" "size" "I" ∈ wsX4_putLowest := List.mem_of_getElem? (i := 1) rfl
  have q_2 : Cond.fieldLink RX4 9 "SupperLight$Tape" "bytes" "[B" ∈ wsX4_putLowest := List.mem_of_getElem? (i := 2) rfl
  refine v_iload_n (j := 2) (x := jI n) G dX4_putLowest_0 rfl rfl ?_
  refine v_iconst G dX4_putLowest_1 ?_
  refine v_isub (z := n - 1) G dX4_putLowest_2 rfl ?_
  refine v_istore_n (lv' := [(3, .int (jI (n - 1))), (0, .ref (b 0)), (1, .int x), (2, .int (jI n))]) G dX4_putLowest_3 rfl (by decide) rfl ?_
  refine v_eqs (lv' := [(3, .int (jI (n - 1 - ((0 : Nat) : Int)))), (0, .ref (b 0)), (1, .int x), (2, .int (jI n))]) (by rw [show n - 1 - ((0 : Nat) : Int) = n - 1 from (by omega)]) rfl rfl ?_
  refine v_world (ws' := (gT cB b (tbF ta.1 ta.2 x n 0, ta.2 + ((0 : Nat) : Int)))) (by rw [show ta.2 + ((0 : Nat) : Int) = ta.2 by omega]; rfl) ?_
  refine v_locs (lv' := [(3, .int (jI (n - 1 - ((0 : Nat) : Int)))), (0, .ref (b 0)), (1, .int x), (2, .int (jI n))]) [0, 1, 2, 3] rfl ?_
  refine v_loop1 (fun (j : Nat) => [(3, .int (jI (n - 1 - (j : Int)))), (0, .ref (b 0)), (1, .int x), (2, .int (jI n))]) (fun (j : Nat) => (gT cB b (tbF ta.1 ta.2 x n j, ta.2 + (j : Int)))) (fun (j : Nat) => (j : Int) ≤ n) (fun (j : Nat) => n.toNat - j) 0 (by omega) rfl rfl ?_
  intro j I_1 ih_2
  refine v_iload_n (j := 0) (x := jI (n - 1 - (j : Int))) G dX4_putLowest_4 rfl rfl ?_
  refine v_if_lt (a := n - 1 - (j : Int)) (tgt := 49) G dX4_putLowest_5 (by decide) (by omega) (fun c_3 => ?_) (fun c_3 => ?_)
  · skip
    obtain rfl : j = n.toNat := by omega
    refine v_world (ws' := (gT cB b (tbF ta.1 ta.2 x n n.toNat, ta.2 + n))) (by rw [show ta.2 + (n.toNat : Int) = ta.2 + n by omega]) ?_
    exact v_vret G () trivial rfl dX4_putLowest_49
  · skip
    refine v_aload_n (j := 1) (x := b 0) G dX4_putLowest_8 rfl rfl ?_
    refine v_get (q0 := 0) (k := 1) (v := .int (jI (ta.2 + (j : Int)))) G k_X4 rfl rfl (by decide) q_1 rfl rfl dX4_putLowest_9 ?_
    refine v_bipush G dX4_putLowest_12 (by decide) ?_
    refine v_icmp_ge (a := ta.2 + (j : Int)) (b := 120) (tgt := 49) G dX4_putLowest_14 (by decide) (by omega) (fun c_4 => ?_) (fun c_4 => ?_)
    · skip
      obtain rfl : j = n.toNat := by omega
      refine v_world (ws' := (gT cB b (tbF ta.1 ta.2 x n n.toNat, ta.2 + n))) (by rw [show ta.2 + (n.toNat : Int) = ta.2 + n by omega]) ?_
      exact v_vret G () trivial rfl dX4_putLowest_49
    · skip
      refine v_aload_n (j := 1) (x := b 0) G dX4_putLowest_17 rfl rfl ?_
      refine v_get (q0 := 0) (k := 0) (v := .ref (b 1)) G k_X4 rfl rfl (by decide) q_2 rfl rfl dX4_putLowest_18 ?_
      refine v_aload_n (j := 1) (x := b 0) G dX4_putLowest_21 rfl rfl ?_
      refine v_get (q0 := 0) (k := 1) (v := .int (jI (ta.2 + (j : Int)))) G k_X4 rfl rfl (by decide) q_1 rfl rfl dX4_putLowest_22 ?_
      refine v_iload_n (j := 2) (x := x) G dX4_putLowest_25 rfl rfl ?_
      refine v_bipush G dX4_putLowest_26 (by decide) ?_
      refine v_iload_n (j := 0) (x := jI (n - 1 - (j : Int))) G dX4_putLowest_28 rfl rfl ?_
      refine v_imul (z := 8 * (n - 1 - (j : Int))) G dX4_putLowest_29 rfl ?_
      refine v_ishr (v := x >>> ((jI (8 * (n - 1 - (j : Int)))) &&& 31)) G dX4_putLowest_30 rfl ?_
      refine v_i2b (v := (x >>> ((jI (8 * (n - 1 - (j : Int)))) &&& 31)).toInt8.toInt32) G dX4_putLowest_31 rfl ?_
      refine v_top (x := (x >>> ((jI (8 * (n - 1 - (j : Int)))) &&& 31)).toInt8.toInt32) (y := jI (sby x (n - 1 - (j : Int)))) (Int32.ofInt_toInt _).symm ?_
      refine v_bast (q0 := 1) (t0 := 2) (g := tbF ta.1 ta.2 x n j) (z := ta.2 + (j : Int)) (x := sby x (n - 1 - (j : Int))) (ws' := (gT cB b (uI (tbF ta.1 ta.2 x n j) (ta.2 + (j : Int)) (sby x (n - 1 - (j : Int))), ta.2 + (j : Int)))) G rfl rfl (by omega) (sby_b _ _) rfl dX4_putLowest_32 ?_
      refine v_aload_n (j := 1) (x := b 0) G dX4_putLowest_33 rfl rfl ?_
      refine v_dup G dX4_putLowest_34 rfl ?_
      refine v_get (q0 := 0) (k := 1) (v := .int (jI (ta.2 + (j : Int)))) G k_X4 rfl rfl (by decide) q_1 rfl rfl dX4_putLowest_35 ?_
      refine v_iconst G dX4_putLowest_38 ?_
      refine v_iadd (z := (ta.2 + (j : Int)) + 1) G dX4_putLowest_39 rfl ?_
      refine v_put (q0 := 0) (k := 1) (ty := .int) (ws' := (gT cB b (uI (tbF ta.1 ta.2 x n j) (ta.2 + (j : Int)) (sby x (n - 1 - (j : Int))), (ta.2 + (j : Int)) + 1))) G k_X4 tyX4 tyX4_ok nmX4 rfl rfl (by decide) q_1 rfl rfl rfl rfl rfl (Nat.le_of_ble_eq_true rfl) rfl dX4_putLowest_40 ?_
      refine v_world (ws' := (gT cB b (tbF ta.1 ta.2 x n (j + 1), ta.2 + ((j + 1 : Nat) : Int)))) (by rw [show ta.2 + ((j + 1 : Nat) : Int) = ta.2 + (j : Int) + 1 by omega]; rfl) ?_
      refine v_iinc (k := 0) (z := n - 1 - (j : Int)) (z' := n - 1 - ((j + 1 : Nat) : Int)) (lv' := [(3, .int (jI (n - 1 - ((j + 1 : Nat) : Int)))), (0, .ref (b 0)), (1, .int x), (2, .int (jI n))]) G dX4_putLowest_43 rfl (by omega) (by decide) rfl ?_
      refine v_goto (tgt := 4) G dX4_putLowest_46 (by decide) ?_
      exact ih_2 (j + 1) (by omega) (by omega)

set_option maxHeartbeats 4000000 in
set_option maxRecDepth 100000 in
theorem c_X8_feed (x : Int32) (n : Int) (ht : 0 ≤ ta.2 ∧ ta.2 ≤ 120) (hr : (-2147483648 ≤ n ∧ n ≤ 2147483647)) : Ci l yX8_feed wsX8_feed { frames := 2, cells := 0, slots := 0, locals := 44 } D (jT cI cL cB cS) [.ref (a 0), .int x, .int (jI n)] (gS  a ks ++ gT cB (fun i => a (36 + i)) ta ++ gF cI a fd) (S := ((Int → Int) × Int) × (Int → Int)) (fun u => (gS  a ks ++ gT cB (fun i => a (36 + i)) u.1 ++ gF cI a u.2)) (fun r u => ((¬ (1 ≤ n ∧ n ≤ 4)) ∧ r = jI (-1000000001) ∧ u.1 = ta ∧ u.2 = uI fd 0 (fd 0 + 1)) ∨ (((1 ≤ n ∧ n ≤ 4) ∧ 120 < ta.2 + n) ∧ r = jI (-1000000002) ∧ u.1 = ta ∧ u.2 = uI fd 1 (fd 1 + 1)) ∨ (((1 ≤ n ∧ n ≤ 4) ∧ ta.2 + n ≤ 120) ∧ r = jI (ta.2 + n) ∧ u.1 = (tbF ta.1 ta.2 x n n.toNat, ta.2 + n) ∧ u.2 = fd)) := by
  refine Ci.mk (cc := cX8_feed) (maxL := 3) (rt := .int) (by decide) rfl (Nat.le_of_ble_eq_true rfl) rfl ?_
  intro p_ e_ s_ m_ b_ me_ c_ A_ G hnm
  have k_X8 : ∀ w ∈ u_ws RX8 TX8 12, w ∈ wsX8_feed := fun _ h => List.mem_cons_of_mem _ (List.mem_append_left _ (List.mem_append_right _ h))
  have q_1 : Cond.fieldLink RX8 36 "SupperLight" "tape" "LSupperLight$Tape;" ∈ wsX8_feed := List.mem_of_getElem? (i := 2) rfl
  have k_X4 : ∀ w ∈ u_ws RX4 TX4 2, w ∈ wsX8_feed := fun _ h => List.mem_cons_of_mem _ (List.mem_append_right _ h)
  have q_3 : Cond.fieldLink RX8 248 "SupperLight$Tape" "size" "I" ∈ wsX8_feed := List.mem_of_getElem? (i := 3) rfl
  have q_4 : Cond.constant RX8 105 (-1000000002) ∈ wsX8_feed := List.mem_of_getElem? (i := 4) rfl
  have q_5 : Cond.constant RX8 83 (-1000000001) ∈ wsX8_feed := List.mem_of_getElem? (i := 1) rfl
  refine v_iload_n (j := 2) (x := jI n) G dX8_feed_0 rfl rfl ?_
  refine v_iconst G dX8_feed_1 ?_
  refine v_iconst G dX8_feed_2 ?_
  refine v_ciN G (rn_S (As := [.int (jI n), .int (jI 1), .int (jI 4)]) (rest := []) G (c_X8_within (v := n) (lo := 1) (hi := 4) (hr := (by omega))) gX8_feed_X8_within rfl hdX8_within ⟨rfl, rfl, Nat.le_of_ble_eq_true rfl, Nat.le_of_ble_eq_true rfl⟩ rfl rfl (Nat.le_of_ble_eq_true rfl) ⟨Nat.zero_le _, Nat.zero_le _⟩ dX8_feed_3) (fun r_1 u_3 e_2 => ?_)
  have e_2 : r_1 = jI (b2 ((1 : Int) ≤ n ∧ n ≤ (4 : Int))) := e_2
  subst e_2
  refine v_ifb_ne (P := (1 : Int) ≤ n ∧ n ≤ (4 : Int)) (tgt := 16) G dX8_feed_6 (by decide) (fun c_4 => ?_) (fun c_4 => ?_)
  · skip
    refine v_aload_n (j := 0) (x := a 0) G dX8_feed_16 rfl rfl ?_
    refine v_get (q0 := 0) (k := 5) (v := .ref (a 36)) G k_X8 rfl rfl (by decide) q_1 rfl rfl dX8_feed_17 ?_
    refine v_get (q0 := 1) (k := 1) (v := .int (jI ta.2)) G k_X4 rfl rfl (by decide) q_3 rfl rfl dX8_feed_20 ?_
    refine v_iload_n (j := 2) (x := jI n) G dX8_feed_23 rfl rfl ?_
    refine v_iadd (z := ta.2 + n) G dX8_feed_24 rfl ?_
    refine v_bipush G dX8_feed_25 (by decide) ?_
    refine v_icmp_le (a := ta.2 + n) (b := 120) (tgt := 37) G dX8_feed_27 (by decide) (by omega) (fun c_5 => ?_) (fun c_5 => ?_)
    · skip
      refine v_aload_n (j := 0) (x := a 0) G dX8_feed_37 rfl rfl ?_
      refine v_get (q0 := 0) (k := 5) (v := .ref (a 36)) G k_X8 rfl rfl (by decide) q_1 rfl rfl dX8_feed_38 ?_
      refine v_iload_n (j := 1) (x := x) G dX8_feed_41 rfl rfl ?_
      refine v_iload_n (j := 2) (x := jI n) G dX8_feed_42 rfl rfl ?_
      refine v_cvG (w2 := (fun _ => (gS  a ks ++ gT cB (fun i => a (36 + i)) (tbF ta.1 ta.2 x n n.toNat, ta.2 + n) ++ gF cI a fd))) G [gS  a ks, gT cB (fun i => a (36 + i)) ta, gF cI a fd] [gT cB (fun i => a (36 + i)) ta] [gS  a ks, gF cI a fd] (fun _ => [gS  a ks, gT cB (fun i => a (36 + i)) (tbF ta.1 ta.2 x n n.toNat, ta.2 + n), gF cI a fd]) (fun _ => [gT cB (fun i => a (36 + i)) (tbF ta.1 ta.2 x n n.toNat, ta.2 + n)]) [1] (rn_V (As := [.int x, .int (jI n)]) (rest := []) (q0 := 0) G (c_X4_putLowest (x := x) (n := n) (ta := ta) (b := fun i => a (36 + i)) (hn := (by omega))) gX8_feed_X4_putLowest rfl hdX4_putLowest ⟨rfl, rfl, Nat.le_of_ble_eq_true rfl, Nat.le_of_ble_eq_true rfl⟩ rfl rfl (Nat.le_of_ble_eq_true rfl) ⟨Nat.zero_le _, Nat.zero_le _⟩ rfl rfl dX8_feed_43) rfl rfl rfl (fun _ => rfl) (fun _ => rfl) (fun _ => rfl) (fun u_8 e_7 => ?_)
      refine v_world (ws' := (gS  a ks ++ gT cB (fun i => a (36 + i)) (tbF ta.1 ta.2 x n n.toNat, ta.2 + n) ++ gF cI a fd)) rfl ?_
      refine v_aload_n (j := 0) (x := a 0) G dX8_feed_46 rfl rfl ?_
      refine v_get (q0 := 0) (k := 5) (v := .ref (a 36)) G k_X8 rfl rfl (by decide) q_1 rfl rfl dX8_feed_47 ?_
      refine v_get (q0 := 1) (k := 1) (v := .int (jI (ta.2 + n))) G k_X4 rfl rfl (by decide) q_3 rfl rfl dX8_feed_50 ?_
      exact v_iret G ((tbF ta.1 ta.2 x n n.toNat, ta.2 + n), fd) (by first | exact Or.inl ⟨(by omega), (by first | rfl | exact congrArg jI (by omega)), rfl, rfl⟩ | exact Or.inr (Or.inl ⟨(by omega), (by first | rfl | exact congrArg jI (by omega)), rfl, rfl⟩) | exact Or.inr (Or.inr (⟨(by omega), (by first | rfl | exact congrArg jI (by omega)), rfl, rfl⟩))) rfl dX8_feed_53
    · skip
      refine v_aload_n (j := 0) (x := a 0) G dX8_feed_30 rfl rfl ?_
      refine v_ldc (z := (-1000000002)) G q_4 (by decide) dX8_feed_31 ?_
      refine v_ciG (w2 := (fun _ => (gS  a ks ++ gT cB (fun i => a (36 + i)) ta ++ gF cI a (uI fd 1 (fd 1 + 1))))) G [gS  a ks, gT cB (fun i => a (36 + i)) ta, gF cI a fd] [gS  a ks, gF cI a fd] [gT cB (fun i => a (36 + i)) ta] (fun _ => [gS  a ks, gT cB (fun i => a (36 + i)) ta, gF cI a (uI fd 1 (fd 1 + 1))]) (fun _ => [gS  a ks, gF cI a (uI fd 1 (fd 1 + 1))]) [0, 1] (rn_V (As := [.int (jI (-1000000002))]) (rest := []) (q0 := 0) G (c_X8_found_1 (ks := ks) (fd := fd) (a := a) ) gX8_feed_X8_found rfl hdX8_found ⟨rfl, rfl, Nat.le_of_ble_eq_true rfl, Nat.le_of_ble_eq_true rfl⟩ rfl rfl (Nat.le_of_ble_eq_true rfl) ⟨Nat.zero_le _, Nat.zero_le _⟩ rfl rfl dX8_feed_33) rfl rfl rfl (fun _ => rfl) (fun _ => rfl) (fun _ => rfl) (fun r_9 u_11 e_10 => ?_)
      have e_10 : r_9 = jI (-1000000002) := e_10
      subst e_10
      refine v_world (ws' := (gS  a ks ++ gT cB (fun i => a (36 + i)) ta ++ gF cI a (uI fd 1 (fd 1 + 1)))) rfl ?_
      exact v_iret G (ta, uI fd 1 (fd 1 + 1)) (by first | exact Or.inl ⟨(by omega), (by first | rfl | exact congrArg jI (by omega)), rfl, rfl⟩ | exact Or.inr (Or.inl ⟨(by omega), (by first | rfl | exact congrArg jI (by omega)), rfl, rfl⟩) | exact Or.inr (Or.inr (⟨(by omega), (by first | rfl | exact congrArg jI (by omega)), rfl, rfl⟩))) rfl dX8_feed_36
  · skip
    refine v_aload_n (j := 0) (x := a 0) G dX8_feed_9 rfl rfl ?_
    refine v_ldc (z := (-1000000001)) G q_5 (by decide) dX8_feed_10 ?_
    refine v_ciG (w2 := (fun _ => (gS  a ks ++ gT cB (fun i => a (36 + i)) ta ++ gF cI a (uI fd 0 (fd 0 + 1))))) G [gS  a ks, gT cB (fun i => a (36 + i)) ta, gF cI a fd] [gS  a ks, gF cI a fd] [gT cB (fun i => a (36 + i)) ta] (fun _ => [gS  a ks, gT cB (fun i => a (36 + i)) ta, gF cI a (uI fd 0 (fd 0 + 1))]) (fun _ => [gS  a ks, gF cI a (uI fd 0 (fd 0 + 1))]) [0, 1] (rn_V (As := [.int (jI (-1000000001))]) (rest := []) (q0 := 0) G (c_X8_found_0 (ks := ks) (fd := fd) (a := a) ) gX8_feed_X8_found rfl hdX8_found ⟨rfl, rfl, Nat.le_of_ble_eq_true rfl, Nat.le_of_ble_eq_true rfl⟩ rfl rfl (Nat.le_of_ble_eq_true rfl) ⟨Nat.zero_le _, Nat.zero_le _⟩ rfl rfl dX8_feed_12) rfl rfl rfl (fun _ => rfl) (fun _ => rfl) (fun _ => rfl) (fun r_12 u_14 e_13 => ?_)
    have e_13 : r_12 = jI (-1000000001) := e_13
    subst e_13
    refine v_world (ws' := (gS  a ks ++ gT cB (fun i => a (36 + i)) ta ++ gF cI a (uI fd 0 (fd 0 + 1)))) rfl ?_
    exact v_iret G (ta, uI fd 0 (fd 0 + 1)) (by first | exact Or.inl ⟨(by omega), (by first | rfl | exact congrArg jI (by omega)), rfl, rfl⟩ | exact Or.inr (Or.inl ⟨(by omega), (by first | rfl | exact congrArg jI (by omega)), rfl, rfl⟩) | exact Or.inr (Or.inr (⟨(by omega), (by first | rfl | exact congrArg jI (by omega)), rfl, rfl⟩))) rfl dX8_feed_15

set_option maxHeartbeats 4000000 in
set_option maxRecDepth 100000 in
theorem c_X8_wipe   : Ci l yX8_wipe wsX8_wipe { frames := 0, cells := 0, slots := 0, locals := 0 } D (jT cI cL cB cS) [.ref (a 0)] (gS  a ks ++ gT cB (fun i => a (36 + i)) ta) (S := ((Int → Int) × Int)) (fun ta2 => (gS  a ks ++ gT cB (fun i => a (36 + i)) ta2)) (fun r ta2 => ((True) ∧ r = jI ta.2 ∧ ta2 = (ta.1, 0))) := by
  refine Ci.mk (cc := cX8_wipe) (maxL := 2) (rt := .int) (by decide) rfl (Nat.le_of_ble_eq_true rfl) rfl ?_
  intro p_ e_ s_ m_ b_ me_ c_ A_ G hnm
  have k_X8 : ∀ w ∈ u_ws RX8 TX8 12, w ∈ wsX8_wipe := fun _ h => List.mem_cons_of_mem _ (List.mem_append_left _ (List.mem_append_right _ h))
  have q_1 : Cond.fieldLink RX8 36 "SupperLight" "tape" "LSupperLight$Tape;" ∈ wsX8_wipe := List.mem_of_getElem? (i := 1) rfl
  have k_X4 : ∀ w ∈ u_ws RX4 TX4 2, w ∈ wsX8_wipe := fun _ h => List.mem_cons_of_mem _ (List.mem_append_right _ h)
  have q_3 : Cond.fieldLink RX8 248 "SupperLight$Tape" "size" "I" ∈ wsX8_wipe := List.mem_of_getElem? (i := 2) rfl
  refine v_aload_n (j := 0) (x := a 0) G dX8_wipe_0 rfl rfl ?_
  refine v_get (q0 := 0) (k := 5) (v := .ref (a 36)) G k_X8 rfl rfl (by decide) q_1 rfl rfl dX8_wipe_1 ?_
  refine v_get (q0 := 1) (k := 1) (v := .int (jI ta.2)) G k_X4 rfl rfl (by decide) q_3 rfl rfl dX8_wipe_4 ?_
  refine v_istore_n (lv' := [(1, .int (jI ta.2)), (0, .ref (a 0))]) G dX8_wipe_7 rfl (by decide) rfl ?_
  refine v_aload_n (j := 1) (x := a 0) G dX8_wipe_8 rfl rfl ?_
  refine v_get (q0 := 0) (k := 5) (v := .ref (a 36)) G k_X8 rfl rfl (by decide) q_1 rfl rfl dX8_wipe_9 ?_
  refine v_iconst G dX8_wipe_12 ?_
  refine v_put (q0 := 1) (k := 1) (ty := .int) (ws' := (gS  a ks ++ gT cB (fun i => a (36 + i)) (ta.1, 0))) G k_X4 tyX4 tyX4_ok nmX4 rfl rfl (by decide) q_3 rfl rfl rfl rfl rfl (Nat.le_of_ble_eq_true rfl) rfl dX8_wipe_13 ?_
  refine v_iload_n (j := 0) (x := jI ta.2) G dX8_wipe_16 rfl rfl ?_
  exact v_iret G ((ta.1, 0)) (by first | exact ⟨(by trivial), (by first | rfl | exact congrArg jI (by omega)), rfl⟩) rfl dX8_wipe_17
end

section
variable {l : Launch} {D : va_G} {cI cL cB cS : ClassId} {a b c : Nat → Nat} {x o wd kw tw : WT} {g gl : GT} {sx : Int × Int × (Int → Int64)} {fd li : Int → Int} {wy : (Int → Int) × (Int → Int)} {lr : (Int → Int64) × (Int → Int)} {nx : Int} {ta : (Int → Int) × Int} {tk : (Int → Int) × (Int → Int) × (Int → Int) × Int} {s0 s1 s2 s3 : Int × Int × (Int → Int64)} {ks : Int}
set_option maxHeartbeats 4000000 in
set_option maxRecDepth 100000 in
theorem c_X8_lays (k : Int) (hw : Wc wd) (hx0 : Sx s0) (hx1 : Sx s1) (hx2 : Sx s2) (hx3 : Sx s3) (hr : (-2147483648 ≤ k ∧ k ≤ 2147483647)) : Ci l yX8_lays wsX8_lays { frames := 2, cells := 0, slots := 0, locals := 44 } D (jT cI cL cB cS) [.ref (a 0), .int (jI k)] (gS  a ks ++ gW cI (fun i => a (1 + i)) wd ++ gF cI a fd ++ gH cS a  ++ gX cL (fun i => a (44 + i)) s0 ++ gX cL (fun i => a (46 + i)) s1 ++ gX cL (fun i => a (48 + i)) s2 ++ gX cL (fun i => a (50 + i)) s3) (S := WT × (Int → Int)) (fun u => (gS  a ks ++ gW cI (fun i => a (1 + i)) u.1 ++ gF cI a u.2 ++ gH cS a  ++ gX cL (fun i => a (44 + i)) s0 ++ gX cL (fun i => a (46 + i)) s1 ++ gX cL (fun i => a (48 + i)) s2 ++ gX cL (fun i => a (50 + i)) s3)) (fun r u => ((¬ (0 ≤ k ∧ k ≤ 3)) ∧ r = jI (-1000000001) ∧ u.1 = wd ∧ u.2 = uI fd 0 (fd 0 + 1)) ∨ ((k = 0 ∧ s0.1 = 0) ∧ r = jI (-1000000006) ∧ u.1 = wd ∧ u.2 = uI fd 5 (fd 5 + 1)) ∨ ((k = 0 ∧ s0.1 ≠ 0) ∧ r = jI (lyC s0.2.2 (jmin s0.2.1 16).toNat) ∧ u.1 = (wd.1, lyB wd.2.1 s0.2.2 (jmin s0.2.1 16).toNat, wd.2.2.1, wd.2.2.2.1, wd.2.2.2.2.1, wd.2.2.2.2.2.1, wd.2.2.2.2.2.2.1, wd.2.2.2.2.2.2.2.1, wd.2.2.2.2.2.2.2.2.1, wd.2.2.2.2.2.2.2.2.2.1, wd.2.2.2.2.2.2.2.2.2.2.1, wd.2.2.2.2.2.2.2.2.2.2.2) ∧ u.2 = fd) ∨ ((k = 1 ∧ s1.1 = 0) ∧ r = jI (-1000000006) ∧ u.1 = wd ∧ u.2 = uI fd 5 (fd 5 + 1)) ∨ ((k = 1 ∧ s1.1 ≠ 0) ∧ r = jI (lyC s1.2.2 (jmin s1.2.1 16).toNat) ∧ u.1 = (wd.1, lyB wd.2.1 s1.2.2 (jmin s1.2.1 16).toNat, wd.2.2.1, wd.2.2.2.1, wd.2.2.2.2.1, wd.2.2.2.2.2.1, wd.2.2.2.2.2.2.1, wd.2.2.2.2.2.2.2.1, wd.2.2.2.2.2.2.2.2.1, wd.2.2.2.2.2.2.2.2.2.1, wd.2.2.2.2.2.2.2.2.2.2.1, wd.2.2.2.2.2.2.2.2.2.2.2) ∧ u.2 = fd) ∨ ((k = 2 ∧ s2.1 = 0) ∧ r = jI (-1000000006) ∧ u.1 = wd ∧ u.2 = uI fd 5 (fd 5 + 1)) ∨ ((k = 2 ∧ s2.1 ≠ 0) ∧ r = jI (lyC s2.2.2 (jmin s2.2.1 16).toNat) ∧ u.1 = (wd.1, lyB wd.2.1 s2.2.2 (jmin s2.2.1 16).toNat, wd.2.2.1, wd.2.2.2.1, wd.2.2.2.2.1, wd.2.2.2.2.2.1, wd.2.2.2.2.2.2.1, wd.2.2.2.2.2.2.2.1, wd.2.2.2.2.2.2.2.2.1, wd.2.2.2.2.2.2.2.2.2.1, wd.2.2.2.2.2.2.2.2.2.2.1, wd.2.2.2.2.2.2.2.2.2.2.2) ∧ u.2 = fd) ∨ ((k = 3 ∧ s3.1 = 0) ∧ r = jI (-1000000006) ∧ u.1 = wd ∧ u.2 = uI fd 5 (fd 5 + 1)) ∨ ((k = 3 ∧ s3.1 ≠ 0) ∧ r = jI (lyC s3.2.2 (jmin s3.2.1 16).toNat) ∧ u.1 = (wd.1, lyB wd.2.1 s3.2.2 (jmin s3.2.1 16).toNat, wd.2.2.1, wd.2.2.2.1, wd.2.2.2.2.1, wd.2.2.2.2.2.1, wd.2.2.2.2.2.2.1, wd.2.2.2.2.2.2.2.1, wd.2.2.2.2.2.2.2.2.1, wd.2.2.2.2.2.2.2.2.2.1, wd.2.2.2.2.2.2.2.2.2.2.1, wd.2.2.2.2.2.2.2.2.2.2.2) ∧ u.2 = fd)) := by
  refine Ci.mk (cc := cX8_lays) (maxL := 7) (rt := .int) (by decide) rfl (Nat.le_of_ble_eq_true rfl) rfl ?_
  intro p_ e_ s_ m_ b_ me_ c_ A_ G hnm
  have hm := hw.many
  have hmt := hw.tasks
  have hh := hw.hour
  obtain ⟨hb0, hz0⟩ := id hx0
  obtain ⟨hb1, hz1⟩ := id hx1
  obtain ⟨hb2, hz2⟩ := id hx2
  obtain ⟨hb3, hz3⟩ := id hx3
  have k_X8 : ∀ w ∈ u_ws RX8 TX8 12, w ∈ wsX8_lays := fun _ h => List.mem_cons_of_mem _ (List.mem_append_left _ (List.mem_append_left _ (List.mem_append_right _ h)))
  have q_1 : Cond.fieldLink RX8 51 "SupperLight" "sheets" "[LSupperLight$Sheet;" ∈ wsX8_lays := List.mem_of_getElem? (i := 2) rfl
  have k_X3 : ∀ w ∈ u_ws RX3 TX3 3, w ∈ wsX8_lays := fun _ h => List.mem_cons_of_mem _ (List.mem_append_left _ (List.mem_append_right _ h))
  have q_3 : Cond.fieldLink RX8 274 "SupperLight$Sheet" "numbers" "[J" ∈ wsX8_lays := List.mem_of_getElem? (i := 4) rfl
  have q_4 : Cond.constantLong RX8 297 (99) ∈ wsX8_lays := List.mem_of_getElem? (i := 5) rfl
  have q_5 : Cond.fieldLink RX8 10 "SupperLight" "world" "LSupperLight$World;" ∈ wsX8_lays := List.mem_of_getElem? (i := 6) rfl
  have k_X7 : ∀ w ∈ u_ws RX7 TX7 12, w ∈ wsX8_lays := fun _ h => List.mem_cons_of_mem _ (List.mem_append_right _ h)
  have q_7 : Cond.fieldLink RX8 90 "SupperLight$World" "bowls" "[I" ∈ wsX8_lays := List.mem_of_getElem? (i := 7) rfl
  have q_8 : Cond.constant RX8 273 (-1000000006) ∈ wsX8_lays := List.mem_of_getElem? (i := 3) rfl
  have q_9 : Cond.constant RX8 85 (-1000000001) ∈ wsX8_lays := List.mem_of_getElem? (i := 1) rfl
  refine v_iload_n (j := 1) (x := jI k) G dX8_lays_0 rfl rfl ?_
  refine v_ciN G (rn_S (As := [.int (jI k)]) (rest := []) G (c_X8_isSheet (k := k) (hr := (by omega))) gX8_lays_X8_isSheet rfl hdX8_isSheet ⟨rfl, rfl, Nat.le_of_ble_eq_true rfl, Nat.le_of_ble_eq_true rfl⟩ rfl rfl (Nat.le_of_ble_eq_true rfl) ⟨Nat.zero_le _, Nat.zero_le _⟩ dX8_lays_1) (fun r_1 u_3 e_2 => ?_)
  have e_2 : r_1 = jI (b2 (0 ≤ k ∧ k ≤ 3)) := e_2
  subst e_2
  refine v_ifb_ne (P := 0 ≤ k ∧ k ≤ 3) (tgt := 14) G dX8_lays_4 (by decide) (fun c_4 => ?_) (fun c_4 => ?_)
  · skip
    rcases (show k = 0 ∨ k = 1 ∨ k = 2 ∨ k = 3 by omega) with rfl | rfl | rfl | rfl
    · skip
      refine v_aload_n (j := 0) (x := a 0) G dX8_lays_14 rfl rfl ?_
      refine v_get (q0 := 0) (k := 7) (v := .ref (a 43)) G k_X8 rfl rfl (by decide) q_1 rfl rfl dX8_lays_15 ?_
      refine v_iload_n (j := 1) (x := jI 0) G dX8_lays_18 rfl rfl ?_
      refine v_aald (q0 := 12) (t0 := 3) (y := a 44) (z := 0) G rfl rfl (by omega) rfl dX8_lays_19 ?_
      refine v_astore_n (lv' := [(2, .ref (a 44)), (0, .ref (a 0)), (1, .int (jI 0))]) G dX8_lays_20 rfl (by decide) rfl ?_
      refine v_aload_n (j := 0) (x := a 44) G dX8_lays_21 rfl rfl ?_
      refine v_ciP (w2 := (fun _ => (gS  a ks ++ gW cI (fun i => a (1 + i)) wd ++ gF cI a fd ++ gH cS a  ++ gX cL (fun i => a (44 + i)) s0 ++ gX cL (fun i => a (46 + i)) s1 ++ gX cL (fun i => a (48 + i)) s2 ++ gX cL (fun i => a (50 + i)) s3))) (wr := (gS  a ks ++ gW cI (fun i => a (1 + i)) wd ++ gF cI a fd ++ gH cS a  ++ gX cL (fun i => a (46 + i)) s1 ++ gX cL (fun i => a (48 + i)) s2 ++ gX cL (fun i => a (50 + i)) s3)) G (rn_V (As := []) (rest := []) (q0 := 0) G (c_X3_isMissing (sx := s0) (b := fun i => a (44 + i)) (hx := hx0)) gX8_lays_X3_isMissing rfl hdX3_isMissing ⟨rfl, rfl, Nat.le_of_ble_eq_true rfl, Nat.le_of_ble_eq_true rfl⟩ rfl rfl (Nat.le_of_ble_eq_true rfl) ⟨Nat.zero_le _, Nat.zero_le _⟩ rfl rfl dX8_lays_22) [13, 14] [0, 1, 2, 3, 4, 5, 6, 7, 8, 9, 10, 11, 12, 15, 16, 17, 18, 19, 20] [0, 1, 2, 3, 4, 5, 6, 7, 8, 9, 10, 11, 12, 19, 20, 13, 14, 15, 16, 17, 18] rfl rfl (by decide) (fun _ => rfl) (fun r_5 u_7 e_6 => ?_)
      have e_6 : r_5 = jI (b2 (s0.1 = 0)) := e_6
      subst e_6
      refine v_world (ws' := (gS  a ks ++ gW cI (fun i => a (1 + i)) wd ++ gF cI a fd ++ gH cS a  ++ gX cL (fun i => a (44 + i)) s0 ++ gX cL (fun i => a (46 + i)) s1 ++ gX cL (fun i => a (48 + i)) s2 ++ gX cL (fun i => a (50 + i)) s3)) rfl ?_
      refine v_ifb_eq (P := s0.1 = 0) (tgt := 36) G dX8_lays_25 (by decide) (fun c_8 => ?_) (fun c_8 => ?_)
      · skip
        refine v_iconst G dX8_lays_36 ?_
        refine v_istore_n (lv' := [(3, .int (jI 0)), (2, .ref (a 44)), (0, .ref (a 0)), (1, .int (jI 0))]) G dX8_lays_37 rfl (by decide) rfl ?_
        refine v_iconst G dX8_lays_38 ?_
        refine v_istore (lv' := [(4, .int (jI 0)), (3, .int (jI 0)), (2, .ref (a 44)), (0, .ref (a 0)), (1, .int (jI 0))]) G dX8_lays_39 (by decide) rfl ?_
        refine v_locs (lv' := [(4, .int (jI 0)), (3, .int (jI 0)), (2, .ref (a 44)), (0, .ref (a 0)), (1, .int (jI 0))]) [0, 1, 2, 3, 4] rfl ?_
        refine v_loop1 (fun (i : Nat) => [(4, .int (jI (i : Int))), (3, .int (jI (lyC s0.2.2 i))), (2, .ref (a 44)), (0, .ref (a 0)), (1, .int (jI 0))]) (fun (i : Nat) => (gS  a ks ++ gW cI (fun i => a (1 + i)) (wd.1, lyB wd.2.1 s0.2.2 i, wd.2.2.1, wd.2.2.2.1, wd.2.2.2.2.1, wd.2.2.2.2.2.1, wd.2.2.2.2.2.2.1, wd.2.2.2.2.2.2.2.1, wd.2.2.2.2.2.2.2.2.1, wd.2.2.2.2.2.2.2.2.2.1, wd.2.2.2.2.2.2.2.2.2.2.1, wd.2.2.2.2.2.2.2.2.2.2.2) ++ gF cI a fd ++ gH cS a  ++ gX cL (fun i => a (44 + i)) s0 ++ gX cL (fun i => a (46 + i)) s1 ++ gX cL (fun i => a (48 + i)) s2 ++ gX cL (fun i => a (50 + i)) s3)) (fun (i : Nat) => (i : Int) ≤ (jmin s0.2.1 16)) (fun (i : Nat) => (jmin s0.2.1 16).toNat - i) 0 (by have := jmin_z s0.2.1 16; omega) rfl rfl ?_
        intro i I_9 ih_10
        have hjm := jmin_z s0.2.1 16
        refine v_iload (j := 0) (x := jI (i : Int)) G dX8_lays_41 rfl ?_
        refine v_aload_n (j := 2) (x := a 44) G dX8_lays_43 rfl rfl ?_
        refine v_ciP (w2 := (fun _ => (gS  a ks ++ gW cI (fun i => a (1 + i)) (wd.1, lyB wd.2.1 s0.2.2 i, wd.2.2.1, wd.2.2.2.1, wd.2.2.2.2.1, wd.2.2.2.2.2.1, wd.2.2.2.2.2.2.1, wd.2.2.2.2.2.2.2.1, wd.2.2.2.2.2.2.2.2.1, wd.2.2.2.2.2.2.2.2.2.1, wd.2.2.2.2.2.2.2.2.2.2.1, wd.2.2.2.2.2.2.2.2.2.2.2) ++ gF cI a fd ++ gH cS a  ++ gX cL (fun i => a (44 + i)) s0 ++ gX cL (fun i => a (46 + i)) s1 ++ gX cL (fun i => a (48 + i)) s2 ++ gX cL (fun i => a (50 + i)) s3))) (wr := (gS  a ks ++ gW cI (fun i => a (1 + i)) (wd.1, lyB wd.2.1 s0.2.2 i, wd.2.2.1, wd.2.2.2.1, wd.2.2.2.2.1, wd.2.2.2.2.2.1, wd.2.2.2.2.2.2.1, wd.2.2.2.2.2.2.2.1, wd.2.2.2.2.2.2.2.2.1, wd.2.2.2.2.2.2.2.2.2.1, wd.2.2.2.2.2.2.2.2.2.2.1, wd.2.2.2.2.2.2.2.2.2.2.2) ++ gF cI a fd ++ gH cS a  ++ gX cL (fun i => a (46 + i)) s1 ++ gX cL (fun i => a (48 + i)) s2 ++ gX cL (fun i => a (50 + i)) s3)) G (rn_V (As := []) (rest := [.int (jI (i : Int))]) (q0 := 0) G (c_X3_places (sx := s0) (b := fun i => a (44 + i)) (hx := hx0)) gX8_lays_X3_places rfl hdX3_places ⟨rfl, rfl, Nat.le_of_ble_eq_true rfl, Nat.le_of_ble_eq_true rfl⟩ rfl rfl (Nat.le_of_ble_eq_true rfl) ⟨Nat.zero_le _, Nat.zero_le _⟩ rfl rfl dX8_lays_44) [13, 14] [0, 1, 2, 3, 4, 5, 6, 7, 8, 9, 10, 11, 12, 15, 16, 17, 18, 19, 20] [0, 1, 2, 3, 4, 5, 6, 7, 8, 9, 10, 11, 12, 19, 20, 13, 14, 15, 16, 17, 18] rfl rfl (by decide) (fun _ => rfl) (fun r_11 u_13 e_12 => ?_)
        have e_12 : r_11 = jI (jmin s0.2.1 16) := e_12
        subst e_12
        refine v_world (ws' := (gS  a ks ++ gW cI (fun i => a (1 + i)) (wd.1, lyB wd.2.1 s0.2.2 i, wd.2.2.1, wd.2.2.2.1, wd.2.2.2.2.1, wd.2.2.2.2.2.1, wd.2.2.2.2.2.2.1, wd.2.2.2.2.2.2.2.1, wd.2.2.2.2.2.2.2.2.1, wd.2.2.2.2.2.2.2.2.2.1, wd.2.2.2.2.2.2.2.2.2.2.1, wd.2.2.2.2.2.2.2.2.2.2.2) ++ gF cI a fd ++ gH cS a  ++ gX cL (fun i => a (44 + i)) s0 ++ gX cL (fun i => a (46 + i)) s1 ++ gX cL (fun i => a (48 + i)) s2 ++ gX cL (fun i => a (50 + i)) s3)) rfl ?_
        refine v_icmp_ge (a := (i : Int)) (b := jmin s0.2.1 16) (tgt := 97) G dX8_lays_47 (by decide) (by omega) (fun c_14 => ?_) (fun c_14 => ?_)
        · skip
          obtain rfl : i = (jmin s0.2.1 16).toNat := by omega
          refine v_iload_n (j := 1) (x := jI (lyC s0.2.2 ((jmin s0.2.1 16).toNat))) G dX8_lays_97 rfl rfl ?_
          exact v_iret G ((wd.1, lyB wd.2.1 s0.2.2 ((jmin s0.2.1 16).toNat), wd.2.2.1, wd.2.2.2.1, wd.2.2.2.2.1, wd.2.2.2.2.2.1, wd.2.2.2.2.2.2.1, wd.2.2.2.2.2.2.2.1, wd.2.2.2.2.2.2.2.2.1, wd.2.2.2.2.2.2.2.2.2.1, wd.2.2.2.2.2.2.2.2.2.2.1, wd.2.2.2.2.2.2.2.2.2.2.2), fd) (by first | exact Or.inr (Or.inl ⟨(by omega), (by first | rfl | exact congrArg jI (by omega)), rfl, rfl⟩) | exact Or.inr (Or.inr (Or.inl ⟨(by omega), (by first | rfl | exact congrArg jI (by omega)), rfl, rfl⟩))) rfl dX8_lays_98
        · skip
          refine v_aload_n (j := 2) (x := a 44) G dX8_lays_50 rfl rfl ?_
          refine v_get (q0 := 13) (k := 2) (v := .ref (a 45)) G k_X3 rfl rfl (by decide) q_3 rfl rfl dX8_lays_51 ?_
          refine v_iload (j := 0) (x := jI (i : Int)) G dX8_lays_54 rfl ?_
          refine v_lald (q0 := 14) (t0 := 1) (g := s0.2.2) (z := (i : Int)) G rfl rfl (by omega) dX8_lays_56 ?_
          refine v_lstore (lv' := [(5, .long (s0.2.2 (i : Int))), (4, .int (jI (i : Int))), (3, .int (jI (lyC s0.2.2 i))), (2, .ref (a 44)), (0, .ref (a 0)), (1, .int (jI 0))]) G dX8_lays_57 (by decide) rfl ?_
          have hl64 := Int64.le_toInt (s0.2.2 (i : Int))
          refine v_lload (j := 0) (x := s0.2.2 (i : Int)) G dX8_lays_59 rfl ?_
          refine v_lconst (z := 0) G dX8_lays_61 (by decide) ?_
          refine v_lcmp G dX8_lays_62 ?_
          refine v_top (lg_lc (s0.2.2 (i : Int)) (jL 0)) ?_
          have h_15 := lc_z (s0.2.2 (i : Int)) (jL 0)
          have h_16 := jL_toInt (z := 0) (by omega)
          refine v_if_lt (a := lc (s0.2.2 (i : Int)) (jL 0)) (tgt := 91) G dX8_lays_63 (by decide) (by omega) (fun c_17 => ?_) (fun c_17 => ?_)
          · skip
            refine v_world (ws' := (gS  a ks ++ gW cI (fun i => a (1 + i)) (wd.1, lyB wd.2.1 s0.2.2 (i + 1), wd.2.2.1, wd.2.2.2.1, wd.2.2.2.2.1, wd.2.2.2.2.2.1, wd.2.2.2.2.2.2.1, wd.2.2.2.2.2.2.2.1, wd.2.2.2.2.2.2.2.2.1, wd.2.2.2.2.2.2.2.2.2.1, wd.2.2.2.2.2.2.2.2.2.2.1, wd.2.2.2.2.2.2.2.2.2.2.2) ++ gF cI a fd ++ gH cS a  ++ gX cL (fun i => a (44 + i)) s0 ++ gX cL (fun i => a (46 + i)) s1 ++ gX cL (fun i => a (48 + i)) s2 ++ gX cL (fun i => a (50 + i)) s3)) (by rw [(lybbf (w := wd.2.1) (f := s0.2.2) (i := i) (by unfold okL; omega)).1]) ?_
            refine v_eqs (lv' := [(5, .long (s0.2.2 (i : Int))), (4, .int (jI (i : Int))), (3, .int (jI (lyC s0.2.2 (i + 1)))), (2, .ref (a 44)), (0, .ref (a 0)), (1, .int (jI 0))]) (by rw [show lyC s0.2.2 (i + 1) = lyC s0.2.2 i from ((lybbf (w := wd.2.1) (f := s0.2.2) (i := i) (by unfold okL; omega)).2)]) rfl rfl ?_
            refine v_iinc (k := 1) (z := (i : Int)) (z' := ((i + 1 : Nat) : Int)) (lv' := [(4, .int (jI ((i + 1 : Nat) : Int))), (5, .long (s0.2.2 (i : Int))), (3, .int (jI (lyC s0.2.2 (i + 1)))), (2, .ref (a 44)), (0, .ref (a 0)), (1, .int (jI 0))]) G dX8_lays_91 rfl (by omega) (by decide) rfl ?_
            refine v_goto (tgt := 41) G dX8_lays_94 (by decide) ?_
            refine v_locs (lv' := [(4, .int (jI ((i + 1 : Nat) : Int))), (3, .int (jI (lyC s0.2.2 (i + 1)))), (2, .ref (a 44)), (0, .ref (a 0)), (1, .int (jI 0))]) [0, 2, 3, 4, 5] rfl ?_
            exact ih_10 (i + 1) (by omega) (by omega)
          · skip
            refine v_lload (j := 0) (x := s0.2.2 (i : Int)) G dX8_lays_66 rfl ?_
            refine v_ldc2 (z := 99) G q_4 (by decide) dX8_lays_68 ?_
            refine v_lcmp G dX8_lays_71 ?_
            refine v_top (lg_lc (s0.2.2 (i : Int)) (jL 99)) ?_
            have h_18 := lc_z (s0.2.2 (i : Int)) (jL 99)
            have h_19 := jL_toInt (z := 99) (by omega)
            refine v_if_gt (a := lc (s0.2.2 (i : Int)) (jL 99)) (tgt := 91) G dX8_lays_72 (by decide) (by omega) (fun c_20 => ?_) (fun c_20 => ?_)
            · skip
              refine v_world (ws' := (gS  a ks ++ gW cI (fun i => a (1 + i)) (wd.1, lyB wd.2.1 s0.2.2 (i + 1), wd.2.2.1, wd.2.2.2.1, wd.2.2.2.2.1, wd.2.2.2.2.2.1, wd.2.2.2.2.2.2.1, wd.2.2.2.2.2.2.2.1, wd.2.2.2.2.2.2.2.2.1, wd.2.2.2.2.2.2.2.2.2.1, wd.2.2.2.2.2.2.2.2.2.2.1, wd.2.2.2.2.2.2.2.2.2.2.2) ++ gF cI a fd ++ gH cS a  ++ gX cL (fun i => a (44 + i)) s0 ++ gX cL (fun i => a (46 + i)) s1 ++ gX cL (fun i => a (48 + i)) s2 ++ gX cL (fun i => a (50 + i)) s3)) (by rw [(lybbf (w := wd.2.1) (f := s0.2.2) (i := i) (by unfold okL; omega)).1]) ?_
              refine v_eqs (lv' := [(5, .long (s0.2.2 (i : Int))), (4, .int (jI (i : Int))), (3, .int (jI (lyC s0.2.2 (i + 1)))), (2, .ref (a 44)), (0, .ref (a 0)), (1, .int (jI 0))]) (by rw [show lyC s0.2.2 (i + 1) = lyC s0.2.2 i from ((lybbf (w := wd.2.1) (f := s0.2.2) (i := i) (by unfold okL; omega)).2)]) rfl rfl ?_
              refine v_iinc (k := 1) (z := (i : Int)) (z' := ((i + 1 : Nat) : Int)) (lv' := [(4, .int (jI ((i + 1 : Nat) : Int))), (5, .long (s0.2.2 (i : Int))), (3, .int (jI (lyC s0.2.2 (i + 1)))), (2, .ref (a 44)), (0, .ref (a 0)), (1, .int (jI 0))]) G dX8_lays_91 rfl (by omega) (by decide) rfl ?_
              refine v_goto (tgt := 41) G dX8_lays_94 (by decide) ?_
              refine v_locs (lv' := [(4, .int (jI ((i + 1 : Nat) : Int))), (3, .int (jI (lyC s0.2.2 (i + 1)))), (2, .ref (a 44)), (0, .ref (a 0)), (1, .int (jI 0))]) [0, 2, 3, 4, 5] rfl ?_
              exact ih_10 (i + 1) (by omega) (by omega)
            · skip
              refine v_aload_n (j := 4) (x := a 0) G dX8_lays_75 rfl rfl ?_
              refine v_get (q0 := 0) (k := 0) (v := .ref (a 1)) G k_X8 rfl rfl (by decide) q_5 rfl rfl dX8_lays_76 ?_
              refine v_get (q0 := 1) (k := 1) (v := .ref (a 2)) G k_X7 rfl rfl (by decide) q_7 rfl rfl dX8_lays_79 ?_
              refine v_iload (j := 1) (x := jI (i : Int)) G dX8_lays_82 rfl ?_
              refine v_lload (j := 0) (x := s0.2.2 (i : Int)) G dX8_lays_84 rfl ?_
              refine v_l2i (v := (s0.2.2 (i : Int)).toInt32) G dX8_lays_86 rfl ?_
              refine v_top (x := (s0.2.2 (i : Int)).toInt32) (y := jI ((s0.2.2 (i : Int)).toInt)) rfl ?_
              refine v_iast (q0 := 2) (t0 := 0) (g := lyB wd.2.1 s0.2.2 i) (z := (i : Int)) (x := (s0.2.2 (i : Int)).toInt) (ws' := (gS  a ks ++ gW cI (fun i => a (1 + i)) (wd.1, uI (lyB wd.2.1 s0.2.2 i) (i : Int) ((s0.2.2 (i : Int)).toInt), wd.2.2.1, wd.2.2.2.1, wd.2.2.2.2.1, wd.2.2.2.2.2.1, wd.2.2.2.2.2.2.1, wd.2.2.2.2.2.2.2.1, wd.2.2.2.2.2.2.2.2.1, wd.2.2.2.2.2.2.2.2.2.1, wd.2.2.2.2.2.2.2.2.2.2.1, wd.2.2.2.2.2.2.2.2.2.2.2) ++ gF cI a fd ++ gH cS a  ++ gX cL (fun i => a (44 + i)) s0 ++ gX cL (fun i => a (46 + i)) s1 ++ gX cL (fun i => a (48 + i)) s2 ++ gX cL (fun i => a (50 + i)) s3)) G rfl rfl (by omega) rfl dX8_lays_87 ?_
              refine v_iinc (k := 2) (z := lyC s0.2.2 i) (z' := lyC s0.2.2 i + 1) (lv' := [(3, .int (jI (lyC s0.2.2 i + 1))), (5, .long (s0.2.2 (i : Int))), (4, .int (jI (i : Int))), (2, .ref (a 44)), (0, .ref (a 0)), (1, .int (jI 0))]) G dX8_lays_88 rfl rfl (by decide) rfl ?_
              refine v_world (ws' := (gS  a ks ++ gW cI (fun i => a (1 + i)) (wd.1, lyB wd.2.1 s0.2.2 (i + 1), wd.2.2.1, wd.2.2.2.1, wd.2.2.2.2.1, wd.2.2.2.2.2.1, wd.2.2.2.2.2.2.1, wd.2.2.2.2.2.2.2.1, wd.2.2.2.2.2.2.2.2.1, wd.2.2.2.2.2.2.2.2.2.1, wd.2.2.2.2.2.2.2.2.2.2.1, wd.2.2.2.2.2.2.2.2.2.2.2) ++ gF cI a fd ++ gH cS a  ++ gX cL (fun i => a (44 + i)) s0 ++ gX cL (fun i => a (46 + i)) s1 ++ gX cL (fun i => a (48 + i)) s2 ++ gX cL (fun i => a (50 + i)) s3)) (by rw [(lybbt (w := wd.2.1) (f := s0.2.2) (i := i) (by unfold okL; omega)).1]) ?_
              refine v_eqs (lv' := [(3, .int (jI (lyC s0.2.2 (i + 1)))), (5, .long (s0.2.2 (i : Int))), (4, .int (jI (i : Int))), (2, .ref (a 44)), (0, .ref (a 0)), (1, .int (jI 0))]) (by rw [show lyC s0.2.2 (i + 1) = lyC s0.2.2 i + 1 from ((lybbt (w := wd.2.1) (f := s0.2.2) (i := i) (by unfold okL; omega)).2)]) rfl rfl ?_
              refine v_iinc (k := 2) (z := (i : Int)) (z' := ((i + 1 : Nat) : Int)) (lv' := [(4, .int (jI ((i + 1 : Nat) : Int))), (3, .int (jI (lyC s0.2.2 (i + 1)))), (5, .long (s0.2.2 (i : Int))), (2, .ref (a 44)), (0, .ref (a 0)), (1, .int (jI 0))]) G dX8_lays_91 rfl (by omega) (by decide) rfl ?_
              refine v_goto (tgt := 41) G dX8_lays_94 (by decide) ?_
              refine v_locs (lv' := [(4, .int (jI ((i + 1 : Nat) : Int))), (3, .int (jI (lyC s0.2.2 (i + 1)))), (2, .ref (a 44)), (0, .ref (a 0)), (1, .int (jI 0))]) [0, 1, 3, 4, 5] rfl ?_
              exact ih_10 (i + 1) (by omega) (by omega)
      · skip
        refine v_aload_n (j := 1) (x := a 0) G dX8_lays_28 rfl rfl ?_
        refine v_ldcw (z := (-1000000006)) G q_8 (by decide) dX8_lays_29 ?_
        refine v_ciP (w2 := (fun _ => (gS  a ks ++ gW cI (fun i => a (1 + i)) wd ++ gF cI a (uI fd 5 (fd 5 + 1)) ++ gH cS a  ++ gX cL (fun i => a (44 + i)) s0 ++ gX cL (fun i => a (46 + i)) s1 ++ gX cL (fun i => a (48 + i)) s2 ++ gX cL (fun i => a (50 + i)) s3))) (wr := (gW cI (fun i => a (1 + i)) wd ++ gH cS a  ++ gX cL (fun i => a (44 + i)) s0 ++ gX cL (fun i => a (46 + i)) s1 ++ gX cL (fun i => a (48 + i)) s2 ++ gX cL (fun i => a (50 + i)) s3)) G (rn_V (As := [.int (jI (-1000000006))]) (rest := []) (q0 := 0) G (c_X8_found_5 (ks := ks) (fd := fd) (a := a) ) gX8_lays_X8_found rfl hdX8_found ⟨rfl, rfl, Nat.le_of_ble_eq_true rfl, Nat.le_of_ble_eq_true rfl⟩ rfl rfl (Nat.le_of_ble_eq_true rfl) ⟨Nat.zero_le _, Nat.zero_le _⟩ rfl rfl dX8_lays_32) [0, 11] [1, 2, 3, 4, 5, 6, 7, 8, 9, 10, 12, 13, 14, 15, 16, 17, 18, 19, 20] [19, 0, 1, 2, 3, 4, 5, 6, 7, 8, 9, 20, 10, 11, 12, 13, 14, 15, 16, 17, 18] rfl rfl (by decide) (fun _ => rfl) (fun r_21 u_23 e_22 => ?_)
        have e_22 : r_21 = jI (-1000000006) := e_22
        subst e_22
        refine v_world (ws' := (gS  a ks ++ gW cI (fun i => a (1 + i)) wd ++ gF cI a (uI fd 5 (fd 5 + 1)) ++ gH cS a  ++ gX cL (fun i => a (44 + i)) s0 ++ gX cL (fun i => a (46 + i)) s1 ++ gX cL (fun i => a (48 + i)) s2 ++ gX cL (fun i => a (50 + i)) s3)) rfl ?_
        exact v_iret G (wd, uI fd 5 (fd 5 + 1)) (by first | exact Or.inr (Or.inl ⟨(by omega), (by first | rfl | exact congrArg jI (by omega)), rfl, rfl⟩) | exact Or.inr (Or.inr (Or.inl ⟨(by omega), (by first | rfl | exact congrArg jI (by omega)), rfl, rfl⟩))) rfl dX8_lays_35
    · skip
      refine v_aload_n (j := 0) (x := a 0) G dX8_lays_14 rfl rfl ?_
      refine v_get (q0 := 0) (k := 7) (v := .ref (a 43)) G k_X8 rfl rfl (by decide) q_1 rfl rfl dX8_lays_15 ?_
      refine v_iload_n (j := 1) (x := jI 1) G dX8_lays_18 rfl rfl ?_
      refine v_aald (q0 := 12) (t0 := 3) (y := a 46) (z := 1) G rfl rfl (by omega) rfl dX8_lays_19 ?_
      refine v_astore_n (lv' := [(2, .ref (a 46)), (0, .ref (a 0)), (1, .int (jI 1))]) G dX8_lays_20 rfl (by decide) rfl ?_
      refine v_aload_n (j := 0) (x := a 46) G dX8_lays_21 rfl rfl ?_
      refine v_ciP (w2 := (fun _ => (gS  a ks ++ gW cI (fun i => a (1 + i)) wd ++ gF cI a fd ++ gH cS a  ++ gX cL (fun i => a (44 + i)) s0 ++ gX cL (fun i => a (46 + i)) s1 ++ gX cL (fun i => a (48 + i)) s2 ++ gX cL (fun i => a (50 + i)) s3))) (wr := (gS  a ks ++ gW cI (fun i => a (1 + i)) wd ++ gF cI a fd ++ gH cS a  ++ gX cL (fun i => a (44 + i)) s0 ++ gX cL (fun i => a (48 + i)) s2 ++ gX cL (fun i => a (50 + i)) s3)) G (rn_V (As := []) (rest := []) (q0 := 0) G (c_X3_isMissing (sx := s1) (b := fun i => a (46 + i)) (hx := hx1)) gX8_lays_X3_isMissing rfl hdX3_isMissing ⟨rfl, rfl, Nat.le_of_ble_eq_true rfl, Nat.le_of_ble_eq_true rfl⟩ rfl rfl (Nat.le_of_ble_eq_true rfl) ⟨Nat.zero_le _, Nat.zero_le _⟩ rfl rfl dX8_lays_22) [15, 16] [0, 1, 2, 3, 4, 5, 6, 7, 8, 9, 10, 11, 12, 13, 14, 17, 18, 19, 20] [0, 1, 2, 3, 4, 5, 6, 7, 8, 9, 10, 11, 12, 13, 14, 19, 20, 15, 16, 17, 18] rfl rfl (by decide) (fun _ => rfl) (fun r_24 u_26 e_25 => ?_)
      have e_25 : r_24 = jI (b2 (s1.1 = 0)) := e_25
      subst e_25
      refine v_world (ws' := (gS  a ks ++ gW cI (fun i => a (1 + i)) wd ++ gF cI a fd ++ gH cS a  ++ gX cL (fun i => a (44 + i)) s0 ++ gX cL (fun i => a (46 + i)) s1 ++ gX cL (fun i => a (48 + i)) s2 ++ gX cL (fun i => a (50 + i)) s3)) rfl ?_
      refine v_ifb_eq (P := s1.1 = 0) (tgt := 36) G dX8_lays_25 (by decide) (fun c_27 => ?_) (fun c_27 => ?_)
      · skip
        refine v_iconst G dX8_lays_36 ?_
        refine v_istore_n (lv' := [(3, .int (jI 0)), (2, .ref (a 46)), (0, .ref (a 0)), (1, .int (jI 1))]) G dX8_lays_37 rfl (by decide) rfl ?_
        refine v_iconst G dX8_lays_38 ?_
        refine v_istore (lv' := [(4, .int (jI 0)), (3, .int (jI 0)), (2, .ref (a 46)), (0, .ref (a 0)), (1, .int (jI 1))]) G dX8_lays_39 (by decide) rfl ?_
        refine v_locs (lv' := [(4, .int (jI 0)), (3, .int (jI 0)), (2, .ref (a 46)), (0, .ref (a 0)), (1, .int (jI 1))]) [0, 1, 2, 3, 4] rfl ?_
        refine v_loop1 (fun (i : Nat) => [(4, .int (jI (i : Int))), (3, .int (jI (lyC s1.2.2 i))), (2, .ref (a 46)), (0, .ref (a 0)), (1, .int (jI 1))]) (fun (i : Nat) => (gS  a ks ++ gW cI (fun i => a (1 + i)) (wd.1, lyB wd.2.1 s1.2.2 i, wd.2.2.1, wd.2.2.2.1, wd.2.2.2.2.1, wd.2.2.2.2.2.1, wd.2.2.2.2.2.2.1, wd.2.2.2.2.2.2.2.1, wd.2.2.2.2.2.2.2.2.1, wd.2.2.2.2.2.2.2.2.2.1, wd.2.2.2.2.2.2.2.2.2.2.1, wd.2.2.2.2.2.2.2.2.2.2.2) ++ gF cI a fd ++ gH cS a  ++ gX cL (fun i => a (44 + i)) s0 ++ gX cL (fun i => a (46 + i)) s1 ++ gX cL (fun i => a (48 + i)) s2 ++ gX cL (fun i => a (50 + i)) s3)) (fun (i : Nat) => (i : Int) ≤ (jmin s1.2.1 16)) (fun (i : Nat) => (jmin s1.2.1 16).toNat - i) 0 (by have := jmin_z s1.2.1 16; omega) rfl rfl ?_
        intro i I_28 ih_29
        have hjm := jmin_z s1.2.1 16
        refine v_iload (j := 0) (x := jI (i : Int)) G dX8_lays_41 rfl ?_
        refine v_aload_n (j := 2) (x := a 46) G dX8_lays_43 rfl rfl ?_
        refine v_ciP (w2 := (fun _ => (gS  a ks ++ gW cI (fun i => a (1 + i)) (wd.1, lyB wd.2.1 s1.2.2 i, wd.2.2.1, wd.2.2.2.1, wd.2.2.2.2.1, wd.2.2.2.2.2.1, wd.2.2.2.2.2.2.1, wd.2.2.2.2.2.2.2.1, wd.2.2.2.2.2.2.2.2.1, wd.2.2.2.2.2.2.2.2.2.1, wd.2.2.2.2.2.2.2.2.2.2.1, wd.2.2.2.2.2.2.2.2.2.2.2) ++ gF cI a fd ++ gH cS a  ++ gX cL (fun i => a (44 + i)) s0 ++ gX cL (fun i => a (46 + i)) s1 ++ gX cL (fun i => a (48 + i)) s2 ++ gX cL (fun i => a (50 + i)) s3))) (wr := (gS  a ks ++ gW cI (fun i => a (1 + i)) (wd.1, lyB wd.2.1 s1.2.2 i, wd.2.2.1, wd.2.2.2.1, wd.2.2.2.2.1, wd.2.2.2.2.2.1, wd.2.2.2.2.2.2.1, wd.2.2.2.2.2.2.2.1, wd.2.2.2.2.2.2.2.2.1, wd.2.2.2.2.2.2.2.2.2.1, wd.2.2.2.2.2.2.2.2.2.2.1, wd.2.2.2.2.2.2.2.2.2.2.2) ++ gF cI a fd ++ gH cS a  ++ gX cL (fun i => a (44 + i)) s0 ++ gX cL (fun i => a (48 + i)) s2 ++ gX cL (fun i => a (50 + i)) s3)) G (rn_V (As := []) (rest := [.int (jI (i : Int))]) (q0 := 0) G (c_X3_places (sx := s1) (b := fun i => a (46 + i)) (hx := hx1)) gX8_lays_X3_places rfl hdX3_places ⟨rfl, rfl, Nat.le_of_ble_eq_true rfl, Nat.le_of_ble_eq_true rfl⟩ rfl rfl (Nat.le_of_ble_eq_true rfl) ⟨Nat.zero_le _, Nat.zero_le _⟩ rfl rfl dX8_lays_44) [15, 16] [0, 1, 2, 3, 4, 5, 6, 7, 8, 9, 10, 11, 12, 13, 14, 17, 18, 19, 20] [0, 1, 2, 3, 4, 5, 6, 7, 8, 9, 10, 11, 12, 13, 14, 19, 20, 15, 16, 17, 18] rfl rfl (by decide) (fun _ => rfl) (fun r_30 u_32 e_31 => ?_)
        have e_31 : r_30 = jI (jmin s1.2.1 16) := e_31
        subst e_31
        refine v_world (ws' := (gS  a ks ++ gW cI (fun i => a (1 + i)) (wd.1, lyB wd.2.1 s1.2.2 i, wd.2.2.1, wd.2.2.2.1, wd.2.2.2.2.1, wd.2.2.2.2.2.1, wd.2.2.2.2.2.2.1, wd.2.2.2.2.2.2.2.1, wd.2.2.2.2.2.2.2.2.1, wd.2.2.2.2.2.2.2.2.2.1, wd.2.2.2.2.2.2.2.2.2.2.1, wd.2.2.2.2.2.2.2.2.2.2.2) ++ gF cI a fd ++ gH cS a  ++ gX cL (fun i => a (44 + i)) s0 ++ gX cL (fun i => a (46 + i)) s1 ++ gX cL (fun i => a (48 + i)) s2 ++ gX cL (fun i => a (50 + i)) s3)) rfl ?_
        refine v_icmp_ge (a := (i : Int)) (b := jmin s1.2.1 16) (tgt := 97) G dX8_lays_47 (by decide) (by omega) (fun c_33 => ?_) (fun c_33 => ?_)
        · skip
          obtain rfl : i = (jmin s1.2.1 16).toNat := by omega
          refine v_iload_n (j := 1) (x := jI (lyC s1.2.2 ((jmin s1.2.1 16).toNat))) G dX8_lays_97 rfl rfl ?_
          exact v_iret G ((wd.1, lyB wd.2.1 s1.2.2 ((jmin s1.2.1 16).toNat), wd.2.2.1, wd.2.2.2.1, wd.2.2.2.2.1, wd.2.2.2.2.2.1, wd.2.2.2.2.2.2.1, wd.2.2.2.2.2.2.2.1, wd.2.2.2.2.2.2.2.2.1, wd.2.2.2.2.2.2.2.2.2.1, wd.2.2.2.2.2.2.2.2.2.2.1, wd.2.2.2.2.2.2.2.2.2.2.2), fd) (by first | exact Or.inr (Or.inr (Or.inr (Or.inl ⟨(by omega), (by first | rfl | exact congrArg jI (by omega)), rfl, rfl⟩))) | exact Or.inr (Or.inr (Or.inr (Or.inr (Or.inl ⟨(by omega), (by first | rfl | exact congrArg jI (by omega)), rfl, rfl⟩))))) rfl dX8_lays_98
        · skip
          refine v_aload_n (j := 2) (x := a 46) G dX8_lays_50 rfl rfl ?_
          refine v_get (q0 := 15) (k := 2) (v := .ref (a 47)) G k_X3 rfl rfl (by decide) q_3 rfl rfl dX8_lays_51 ?_
          refine v_iload (j := 0) (x := jI (i : Int)) G dX8_lays_54 rfl ?_
          refine v_lald (q0 := 16) (t0 := 1) (g := s1.2.2) (z := (i : Int)) G rfl rfl (by omega) dX8_lays_56 ?_
          refine v_lstore (lv' := [(5, .long (s1.2.2 (i : Int))), (4, .int (jI (i : Int))), (3, .int (jI (lyC s1.2.2 i))), (2, .ref (a 46)), (0, .ref (a 0)), (1, .int (jI 1))]) G dX8_lays_57 (by decide) rfl ?_
          have hl64 := Int64.le_toInt (s1.2.2 (i : Int))
          refine v_lload (j := 0) (x := s1.2.2 (i : Int)) G dX8_lays_59 rfl ?_
          refine v_lconst (z := 0) G dX8_lays_61 (by decide) ?_
          refine v_lcmp G dX8_lays_62 ?_
          refine v_top (lg_lc (s1.2.2 (i : Int)) (jL 0)) ?_
          have h_34 := lc_z (s1.2.2 (i : Int)) (jL 0)
          have h_35 := jL_toInt (z := 0) (by omega)
          refine v_if_lt (a := lc (s1.2.2 (i : Int)) (jL 0)) (tgt := 91) G dX8_lays_63 (by decide) (by omega) (fun c_36 => ?_) (fun c_36 => ?_)
          · skip
            refine v_world (ws' := (gS  a ks ++ gW cI (fun i => a (1 + i)) (wd.1, lyB wd.2.1 s1.2.2 (i + 1), wd.2.2.1, wd.2.2.2.1, wd.2.2.2.2.1, wd.2.2.2.2.2.1, wd.2.2.2.2.2.2.1, wd.2.2.2.2.2.2.2.1, wd.2.2.2.2.2.2.2.2.1, wd.2.2.2.2.2.2.2.2.2.1, wd.2.2.2.2.2.2.2.2.2.2.1, wd.2.2.2.2.2.2.2.2.2.2.2) ++ gF cI a fd ++ gH cS a  ++ gX cL (fun i => a (44 + i)) s0 ++ gX cL (fun i => a (46 + i)) s1 ++ gX cL (fun i => a (48 + i)) s2 ++ gX cL (fun i => a (50 + i)) s3)) (by rw [(lybbf (w := wd.2.1) (f := s1.2.2) (i := i) (by unfold okL; omega)).1]) ?_
            refine v_eqs (lv' := [(5, .long (s1.2.2 (i : Int))), (4, .int (jI (i : Int))), (3, .int (jI (lyC s1.2.2 (i + 1)))), (2, .ref (a 46)), (0, .ref (a 0)), (1, .int (jI 1))]) (by rw [show lyC s1.2.2 (i + 1) = lyC s1.2.2 i from ((lybbf (w := wd.2.1) (f := s1.2.2) (i := i) (by unfold okL; omega)).2)]) rfl rfl ?_
            refine v_iinc (k := 1) (z := (i : Int)) (z' := ((i + 1 : Nat) : Int)) (lv' := [(4, .int (jI ((i + 1 : Nat) : Int))), (5, .long (s1.2.2 (i : Int))), (3, .int (jI (lyC s1.2.2 (i + 1)))), (2, .ref (a 46)), (0, .ref (a 0)), (1, .int (jI 1))]) G dX8_lays_91 rfl (by omega) (by decide) rfl ?_
            refine v_goto (tgt := 41) G dX8_lays_94 (by decide) ?_
            refine v_locs (lv' := [(4, .int (jI ((i + 1 : Nat) : Int))), (3, .int (jI (lyC s1.2.2 (i + 1)))), (2, .ref (a 46)), (0, .ref (a 0)), (1, .int (jI 1))]) [0, 2, 3, 4, 5] rfl ?_
            exact ih_29 (i + 1) (by omega) (by omega)
          · skip
            refine v_lload (j := 0) (x := s1.2.2 (i : Int)) G dX8_lays_66 rfl ?_
            refine v_ldc2 (z := 99) G q_4 (by decide) dX8_lays_68 ?_
            refine v_lcmp G dX8_lays_71 ?_
            refine v_top (lg_lc (s1.2.2 (i : Int)) (jL 99)) ?_
            have h_37 := lc_z (s1.2.2 (i : Int)) (jL 99)
            have h_38 := jL_toInt (z := 99) (by omega)
            refine v_if_gt (a := lc (s1.2.2 (i : Int)) (jL 99)) (tgt := 91) G dX8_lays_72 (by decide) (by omega) (fun c_39 => ?_) (fun c_39 => ?_)
            · skip
              refine v_world (ws' := (gS  a ks ++ gW cI (fun i => a (1 + i)) (wd.1, lyB wd.2.1 s1.2.2 (i + 1), wd.2.2.1, wd.2.2.2.1, wd.2.2.2.2.1, wd.2.2.2.2.2.1, wd.2.2.2.2.2.2.1, wd.2.2.2.2.2.2.2.1, wd.2.2.2.2.2.2.2.2.1, wd.2.2.2.2.2.2.2.2.2.1, wd.2.2.2.2.2.2.2.2.2.2.1, wd.2.2.2.2.2.2.2.2.2.2.2) ++ gF cI a fd ++ gH cS a  ++ gX cL (fun i => a (44 + i)) s0 ++ gX cL (fun i => a (46 + i)) s1 ++ gX cL (fun i => a (48 + i)) s2 ++ gX cL (fun i => a (50 + i)) s3)) (by rw [(lybbf (w := wd.2.1) (f := s1.2.2) (i := i) (by unfold okL; omega)).1]) ?_
              refine v_eqs (lv' := [(5, .long (s1.2.2 (i : Int))), (4, .int (jI (i : Int))), (3, .int (jI (lyC s1.2.2 (i + 1)))), (2, .ref (a 46)), (0, .ref (a 0)), (1, .int (jI 1))]) (by rw [show lyC s1.2.2 (i + 1) = lyC s1.2.2 i from ((lybbf (w := wd.2.1) (f := s1.2.2) (i := i) (by unfold okL; omega)).2)]) rfl rfl ?_
              refine v_iinc (k := 1) (z := (i : Int)) (z' := ((i + 1 : Nat) : Int)) (lv' := [(4, .int (jI ((i + 1 : Nat) : Int))), (5, .long (s1.2.2 (i : Int))), (3, .int (jI (lyC s1.2.2 (i + 1)))), (2, .ref (a 46)), (0, .ref (a 0)), (1, .int (jI 1))]) G dX8_lays_91 rfl (by omega) (by decide) rfl ?_
              refine v_goto (tgt := 41) G dX8_lays_94 (by decide) ?_
              refine v_locs (lv' := [(4, .int (jI ((i + 1 : Nat) : Int))), (3, .int (jI (lyC s1.2.2 (i + 1)))), (2, .ref (a 46)), (0, .ref (a 0)), (1, .int (jI 1))]) [0, 2, 3, 4, 5] rfl ?_
              exact ih_29 (i + 1) (by omega) (by omega)
            · skip
              refine v_aload_n (j := 4) (x := a 0) G dX8_lays_75 rfl rfl ?_
              refine v_get (q0 := 0) (k := 0) (v := .ref (a 1)) G k_X8 rfl rfl (by decide) q_5 rfl rfl dX8_lays_76 ?_
              refine v_get (q0 := 1) (k := 1) (v := .ref (a 2)) G k_X7 rfl rfl (by decide) q_7 rfl rfl dX8_lays_79 ?_
              refine v_iload (j := 1) (x := jI (i : Int)) G dX8_lays_82 rfl ?_
              refine v_lload (j := 0) (x := s1.2.2 (i : Int)) G dX8_lays_84 rfl ?_
              refine v_l2i (v := (s1.2.2 (i : Int)).toInt32) G dX8_lays_86 rfl ?_
              refine v_top (x := (s1.2.2 (i : Int)).toInt32) (y := jI ((s1.2.2 (i : Int)).toInt)) rfl ?_
              refine v_iast (q0 := 2) (t0 := 0) (g := lyB wd.2.1 s1.2.2 i) (z := (i : Int)) (x := (s1.2.2 (i : Int)).toInt) (ws' := (gS  a ks ++ gW cI (fun i => a (1 + i)) (wd.1, uI (lyB wd.2.1 s1.2.2 i) (i : Int) ((s1.2.2 (i : Int)).toInt), wd.2.2.1, wd.2.2.2.1, wd.2.2.2.2.1, wd.2.2.2.2.2.1, wd.2.2.2.2.2.2.1, wd.2.2.2.2.2.2.2.1, wd.2.2.2.2.2.2.2.2.1, wd.2.2.2.2.2.2.2.2.2.1, wd.2.2.2.2.2.2.2.2.2.2.1, wd.2.2.2.2.2.2.2.2.2.2.2) ++ gF cI a fd ++ gH cS a  ++ gX cL (fun i => a (44 + i)) s0 ++ gX cL (fun i => a (46 + i)) s1 ++ gX cL (fun i => a (48 + i)) s2 ++ gX cL (fun i => a (50 + i)) s3)) G rfl rfl (by omega) rfl dX8_lays_87 ?_
              refine v_iinc (k := 2) (z := lyC s1.2.2 i) (z' := lyC s1.2.2 i + 1) (lv' := [(3, .int (jI (lyC s1.2.2 i + 1))), (5, .long (s1.2.2 (i : Int))), (4, .int (jI (i : Int))), (2, .ref (a 46)), (0, .ref (a 0)), (1, .int (jI 1))]) G dX8_lays_88 rfl rfl (by decide) rfl ?_
              refine v_world (ws' := (gS  a ks ++ gW cI (fun i => a (1 + i)) (wd.1, lyB wd.2.1 s1.2.2 (i + 1), wd.2.2.1, wd.2.2.2.1, wd.2.2.2.2.1, wd.2.2.2.2.2.1, wd.2.2.2.2.2.2.1, wd.2.2.2.2.2.2.2.1, wd.2.2.2.2.2.2.2.2.1, wd.2.2.2.2.2.2.2.2.2.1, wd.2.2.2.2.2.2.2.2.2.2.1, wd.2.2.2.2.2.2.2.2.2.2.2) ++ gF cI a fd ++ gH cS a  ++ gX cL (fun i => a (44 + i)) s0 ++ gX cL (fun i => a (46 + i)) s1 ++ gX cL (fun i => a (48 + i)) s2 ++ gX cL (fun i => a (50 + i)) s3)) (by rw [(lybbt (w := wd.2.1) (f := s1.2.2) (i := i) (by unfold okL; omega)).1]) ?_
              refine v_eqs (lv' := [(3, .int (jI (lyC s1.2.2 (i + 1)))), (5, .long (s1.2.2 (i : Int))), (4, .int (jI (i : Int))), (2, .ref (a 46)), (0, .ref (a 0)), (1, .int (jI 1))]) (by rw [show lyC s1.2.2 (i + 1) = lyC s1.2.2 i + 1 from ((lybbt (w := wd.2.1) (f := s1.2.2) (i := i) (by unfold okL; omega)).2)]) rfl rfl ?_
              refine v_iinc (k := 2) (z := (i : Int)) (z' := ((i + 1 : Nat) : Int)) (lv' := [(4, .int (jI ((i + 1 : Nat) : Int))), (3, .int (jI (lyC s1.2.2 (i + 1)))), (5, .long (s1.2.2 (i : Int))), (2, .ref (a 46)), (0, .ref (a 0)), (1, .int (jI 1))]) G dX8_lays_91 rfl (by omega) (by decide) rfl ?_
              refine v_goto (tgt := 41) G dX8_lays_94 (by decide) ?_
              refine v_locs (lv' := [(4, .int (jI ((i + 1 : Nat) : Int))), (3, .int (jI (lyC s1.2.2 (i + 1)))), (2, .ref (a 46)), (0, .ref (a 0)), (1, .int (jI 1))]) [0, 1, 3, 4, 5] rfl ?_
              exact ih_29 (i + 1) (by omega) (by omega)
      · skip
        refine v_aload_n (j := 1) (x := a 0) G dX8_lays_28 rfl rfl ?_
        refine v_ldcw (z := (-1000000006)) G q_8 (by decide) dX8_lays_29 ?_
        refine v_ciP (w2 := (fun _ => (gS  a ks ++ gW cI (fun i => a (1 + i)) wd ++ gF cI a (uI fd 5 (fd 5 + 1)) ++ gH cS a  ++ gX cL (fun i => a (44 + i)) s0 ++ gX cL (fun i => a (46 + i)) s1 ++ gX cL (fun i => a (48 + i)) s2 ++ gX cL (fun i => a (50 + i)) s3))) (wr := (gW cI (fun i => a (1 + i)) wd ++ gH cS a  ++ gX cL (fun i => a (44 + i)) s0 ++ gX cL (fun i => a (46 + i)) s1 ++ gX cL (fun i => a (48 + i)) s2 ++ gX cL (fun i => a (50 + i)) s3)) G (rn_V (As := [.int (jI (-1000000006))]) (rest := []) (q0 := 0) G (c_X8_found_5 (ks := ks) (fd := fd) (a := a) ) gX8_lays_X8_found rfl hdX8_found ⟨rfl, rfl, Nat.le_of_ble_eq_true rfl, Nat.le_of_ble_eq_true rfl⟩ rfl rfl (Nat.le_of_ble_eq_true rfl) ⟨Nat.zero_le _, Nat.zero_le _⟩ rfl rfl dX8_lays_32) [0, 11] [1, 2, 3, 4, 5, 6, 7, 8, 9, 10, 12, 13, 14, 15, 16, 17, 18, 19, 20] [19, 0, 1, 2, 3, 4, 5, 6, 7, 8, 9, 20, 10, 11, 12, 13, 14, 15, 16, 17, 18] rfl rfl (by decide) (fun _ => rfl) (fun r_40 u_42 e_41 => ?_)
        have e_41 : r_40 = jI (-1000000006) := e_41
        subst e_41
        refine v_world (ws' := (gS  a ks ++ gW cI (fun i => a (1 + i)) wd ++ gF cI a (uI fd 5 (fd 5 + 1)) ++ gH cS a  ++ gX cL (fun i => a (44 + i)) s0 ++ gX cL (fun i => a (46 + i)) s1 ++ gX cL (fun i => a (48 + i)) s2 ++ gX cL (fun i => a (50 + i)) s3)) rfl ?_
        exact v_iret G (wd, uI fd 5 (fd 5 + 1)) (by first | exact Or.inr (Or.inr (Or.inr (Or.inl ⟨(by omega), (by first | rfl | exact congrArg jI (by omega)), rfl, rfl⟩))) | exact Or.inr (Or.inr (Or.inr (Or.inr (Or.inl ⟨(by omega), (by first | rfl | exact congrArg jI (by omega)), rfl, rfl⟩))))) rfl dX8_lays_35
    · skip
      refine v_aload_n (j := 0) (x := a 0) G dX8_lays_14 rfl rfl ?_
      refine v_get (q0 := 0) (k := 7) (v := .ref (a 43)) G k_X8 rfl rfl (by decide) q_1 rfl rfl dX8_lays_15 ?_
      refine v_iload_n (j := 1) (x := jI 2) G dX8_lays_18 rfl rfl ?_
      refine v_aald (q0 := 12) (t0 := 3) (y := a 48) (z := 2) G rfl rfl (by omega) rfl dX8_lays_19 ?_
      refine v_astore_n (lv' := [(2, .ref (a 48)), (0, .ref (a 0)), (1, .int (jI 2))]) G dX8_lays_20 rfl (by decide) rfl ?_
      refine v_aload_n (j := 0) (x := a 48) G dX8_lays_21 rfl rfl ?_
      refine v_ciP (w2 := (fun _ => (gS  a ks ++ gW cI (fun i => a (1 + i)) wd ++ gF cI a fd ++ gH cS a  ++ gX cL (fun i => a (44 + i)) s0 ++ gX cL (fun i => a (46 + i)) s1 ++ gX cL (fun i => a (48 + i)) s2 ++ gX cL (fun i => a (50 + i)) s3))) (wr := (gS  a ks ++ gW cI (fun i => a (1 + i)) wd ++ gF cI a fd ++ gH cS a  ++ gX cL (fun i => a (44 + i)) s0 ++ gX cL (fun i => a (46 + i)) s1 ++ gX cL (fun i => a (50 + i)) s3)) G (rn_V (As := []) (rest := []) (q0 := 0) G (c_X3_isMissing (sx := s2) (b := fun i => a (48 + i)) (hx := hx2)) gX8_lays_X3_isMissing rfl hdX3_isMissing ⟨rfl, rfl, Nat.le_of_ble_eq_true rfl, Nat.le_of_ble_eq_true rfl⟩ rfl rfl (Nat.le_of_ble_eq_true rfl) ⟨Nat.zero_le _, Nat.zero_le _⟩ rfl rfl dX8_lays_22) [17, 18] [0, 1, 2, 3, 4, 5, 6, 7, 8, 9, 10, 11, 12, 13, 14, 15, 16, 19, 20] [0, 1, 2, 3, 4, 5, 6, 7, 8, 9, 10, 11, 12, 13, 14, 15, 16, 19, 20, 17, 18] rfl rfl (by decide) (fun _ => rfl) (fun r_43 u_45 e_44 => ?_)
      have e_44 : r_43 = jI (b2 (s2.1 = 0)) := e_44
      subst e_44
      refine v_world (ws' := (gS  a ks ++ gW cI (fun i => a (1 + i)) wd ++ gF cI a fd ++ gH cS a  ++ gX cL (fun i => a (44 + i)) s0 ++ gX cL (fun i => a (46 + i)) s1 ++ gX cL (fun i => a (48 + i)) s2 ++ gX cL (fun i => a (50 + i)) s3)) rfl ?_
      refine v_ifb_eq (P := s2.1 = 0) (tgt := 36) G dX8_lays_25 (by decide) (fun c_46 => ?_) (fun c_46 => ?_)
      · skip
        refine v_iconst G dX8_lays_36 ?_
        refine v_istore_n (lv' := [(3, .int (jI 0)), (2, .ref (a 48)), (0, .ref (a 0)), (1, .int (jI 2))]) G dX8_lays_37 rfl (by decide) rfl ?_
        refine v_iconst G dX8_lays_38 ?_
        refine v_istore (lv' := [(4, .int (jI 0)), (3, .int (jI 0)), (2, .ref (a 48)), (0, .ref (a 0)), (1, .int (jI 2))]) G dX8_lays_39 (by decide) rfl ?_
        refine v_locs (lv' := [(4, .int (jI 0)), (3, .int (jI 0)), (2, .ref (a 48)), (0, .ref (a 0)), (1, .int (jI 2))]) [0, 1, 2, 3, 4] rfl ?_
        refine v_loop1 (fun (i : Nat) => [(4, .int (jI (i : Int))), (3, .int (jI (lyC s2.2.2 i))), (2, .ref (a 48)), (0, .ref (a 0)), (1, .int (jI 2))]) (fun (i : Nat) => (gS  a ks ++ gW cI (fun i => a (1 + i)) (wd.1, lyB wd.2.1 s2.2.2 i, wd.2.2.1, wd.2.2.2.1, wd.2.2.2.2.1, wd.2.2.2.2.2.1, wd.2.2.2.2.2.2.1, wd.2.2.2.2.2.2.2.1, wd.2.2.2.2.2.2.2.2.1, wd.2.2.2.2.2.2.2.2.2.1, wd.2.2.2.2.2.2.2.2.2.2.1, wd.2.2.2.2.2.2.2.2.2.2.2) ++ gF cI a fd ++ gH cS a  ++ gX cL (fun i => a (44 + i)) s0 ++ gX cL (fun i => a (46 + i)) s1 ++ gX cL (fun i => a (48 + i)) s2 ++ gX cL (fun i => a (50 + i)) s3)) (fun (i : Nat) => (i : Int) ≤ (jmin s2.2.1 16)) (fun (i : Nat) => (jmin s2.2.1 16).toNat - i) 0 (by have := jmin_z s2.2.1 16; omega) rfl rfl ?_
        intro i I_47 ih_48
        have hjm := jmin_z s2.2.1 16
        refine v_iload (j := 0) (x := jI (i : Int)) G dX8_lays_41 rfl ?_
        refine v_aload_n (j := 2) (x := a 48) G dX8_lays_43 rfl rfl ?_
        refine v_ciP (w2 := (fun _ => (gS  a ks ++ gW cI (fun i => a (1 + i)) (wd.1, lyB wd.2.1 s2.2.2 i, wd.2.2.1, wd.2.2.2.1, wd.2.2.2.2.1, wd.2.2.2.2.2.1, wd.2.2.2.2.2.2.1, wd.2.2.2.2.2.2.2.1, wd.2.2.2.2.2.2.2.2.1, wd.2.2.2.2.2.2.2.2.2.1, wd.2.2.2.2.2.2.2.2.2.2.1, wd.2.2.2.2.2.2.2.2.2.2.2) ++ gF cI a fd ++ gH cS a  ++ gX cL (fun i => a (44 + i)) s0 ++ gX cL (fun i => a (46 + i)) s1 ++ gX cL (fun i => a (48 + i)) s2 ++ gX cL (fun i => a (50 + i)) s3))) (wr := (gS  a ks ++ gW cI (fun i => a (1 + i)) (wd.1, lyB wd.2.1 s2.2.2 i, wd.2.2.1, wd.2.2.2.1, wd.2.2.2.2.1, wd.2.2.2.2.2.1, wd.2.2.2.2.2.2.1, wd.2.2.2.2.2.2.2.1, wd.2.2.2.2.2.2.2.2.1, wd.2.2.2.2.2.2.2.2.2.1, wd.2.2.2.2.2.2.2.2.2.2.1, wd.2.2.2.2.2.2.2.2.2.2.2) ++ gF cI a fd ++ gH cS a  ++ gX cL (fun i => a (44 + i)) s0 ++ gX cL (fun i => a (46 + i)) s1 ++ gX cL (fun i => a (50 + i)) s3)) G (rn_V (As := []) (rest := [.int (jI (i : Int))]) (q0 := 0) G (c_X3_places (sx := s2) (b := fun i => a (48 + i)) (hx := hx2)) gX8_lays_X3_places rfl hdX3_places ⟨rfl, rfl, Nat.le_of_ble_eq_true rfl, Nat.le_of_ble_eq_true rfl⟩ rfl rfl (Nat.le_of_ble_eq_true rfl) ⟨Nat.zero_le _, Nat.zero_le _⟩ rfl rfl dX8_lays_44) [17, 18] [0, 1, 2, 3, 4, 5, 6, 7, 8, 9, 10, 11, 12, 13, 14, 15, 16, 19, 20] [0, 1, 2, 3, 4, 5, 6, 7, 8, 9, 10, 11, 12, 13, 14, 15, 16, 19, 20, 17, 18] rfl rfl (by decide) (fun _ => rfl) (fun r_49 u_51 e_50 => ?_)
        have e_50 : r_49 = jI (jmin s2.2.1 16) := e_50
        subst e_50
        refine v_world (ws' := (gS  a ks ++ gW cI (fun i => a (1 + i)) (wd.1, lyB wd.2.1 s2.2.2 i, wd.2.2.1, wd.2.2.2.1, wd.2.2.2.2.1, wd.2.2.2.2.2.1, wd.2.2.2.2.2.2.1, wd.2.2.2.2.2.2.2.1, wd.2.2.2.2.2.2.2.2.1, wd.2.2.2.2.2.2.2.2.2.1, wd.2.2.2.2.2.2.2.2.2.2.1, wd.2.2.2.2.2.2.2.2.2.2.2) ++ gF cI a fd ++ gH cS a  ++ gX cL (fun i => a (44 + i)) s0 ++ gX cL (fun i => a (46 + i)) s1 ++ gX cL (fun i => a (48 + i)) s2 ++ gX cL (fun i => a (50 + i)) s3)) rfl ?_
        refine v_icmp_ge (a := (i : Int)) (b := jmin s2.2.1 16) (tgt := 97) G dX8_lays_47 (by decide) (by omega) (fun c_52 => ?_) (fun c_52 => ?_)
        · skip
          obtain rfl : i = (jmin s2.2.1 16).toNat := by omega
          refine v_iload_n (j := 1) (x := jI (lyC s2.2.2 ((jmin s2.2.1 16).toNat))) G dX8_lays_97 rfl rfl ?_
          exact v_iret G ((wd.1, lyB wd.2.1 s2.2.2 ((jmin s2.2.1 16).toNat), wd.2.2.1, wd.2.2.2.1, wd.2.2.2.2.1, wd.2.2.2.2.2.1, wd.2.2.2.2.2.2.1, wd.2.2.2.2.2.2.2.1, wd.2.2.2.2.2.2.2.2.1, wd.2.2.2.2.2.2.2.2.2.1, wd.2.2.2.2.2.2.2.2.2.2.1, wd.2.2.2.2.2.2.2.2.2.2.2), fd) (by first | exact Or.inr (Or.inr (Or.inr (Or.inr (Or.inr (Or.inl ⟨(by omega), (by first | rfl | exact congrArg jI (by omega)), rfl, rfl⟩))))) | exact Or.inr (Or.inr (Or.inr (Or.inr (Or.inr (Or.inr (Or.inl ⟨(by omega), (by first | rfl | exact congrArg jI (by omega)), rfl, rfl⟩))))))) rfl dX8_lays_98
        · skip
          refine v_aload_n (j := 2) (x := a 48) G dX8_lays_50 rfl rfl ?_
          refine v_get (q0 := 17) (k := 2) (v := .ref (a 49)) G k_X3 rfl rfl (by decide) q_3 rfl rfl dX8_lays_51 ?_
          refine v_iload (j := 0) (x := jI (i : Int)) G dX8_lays_54 rfl ?_
          refine v_lald (q0 := 18) (t0 := 1) (g := s2.2.2) (z := (i : Int)) G rfl rfl (by omega) dX8_lays_56 ?_
          refine v_lstore (lv' := [(5, .long (s2.2.2 (i : Int))), (4, .int (jI (i : Int))), (3, .int (jI (lyC s2.2.2 i))), (2, .ref (a 48)), (0, .ref (a 0)), (1, .int (jI 2))]) G dX8_lays_57 (by decide) rfl ?_
          have hl64 := Int64.le_toInt (s2.2.2 (i : Int))
          refine v_lload (j := 0) (x := s2.2.2 (i : Int)) G dX8_lays_59 rfl ?_
          refine v_lconst (z := 0) G dX8_lays_61 (by decide) ?_
          refine v_lcmp G dX8_lays_62 ?_
          refine v_top (lg_lc (s2.2.2 (i : Int)) (jL 0)) ?_
          have h_53 := lc_z (s2.2.2 (i : Int)) (jL 0)
          have h_54 := jL_toInt (z := 0) (by omega)
          refine v_if_lt (a := lc (s2.2.2 (i : Int)) (jL 0)) (tgt := 91) G dX8_lays_63 (by decide) (by omega) (fun c_55 => ?_) (fun c_55 => ?_)
          · skip
            refine v_world (ws' := (gS  a ks ++ gW cI (fun i => a (1 + i)) (wd.1, lyB wd.2.1 s2.2.2 (i + 1), wd.2.2.1, wd.2.2.2.1, wd.2.2.2.2.1, wd.2.2.2.2.2.1, wd.2.2.2.2.2.2.1, wd.2.2.2.2.2.2.2.1, wd.2.2.2.2.2.2.2.2.1, wd.2.2.2.2.2.2.2.2.2.1, wd.2.2.2.2.2.2.2.2.2.2.1, wd.2.2.2.2.2.2.2.2.2.2.2) ++ gF cI a fd ++ gH cS a  ++ gX cL (fun i => a (44 + i)) s0 ++ gX cL (fun i => a (46 + i)) s1 ++ gX cL (fun i => a (48 + i)) s2 ++ gX cL (fun i => a (50 + i)) s3)) (by rw [(lybbf (w := wd.2.1) (f := s2.2.2) (i := i) (by unfold okL; omega)).1]) ?_
            refine v_eqs (lv' := [(5, .long (s2.2.2 (i : Int))), (4, .int (jI (i : Int))), (3, .int (jI (lyC s2.2.2 (i + 1)))), (2, .ref (a 48)), (0, .ref (a 0)), (1, .int (jI 2))]) (by rw [show lyC s2.2.2 (i + 1) = lyC s2.2.2 i from ((lybbf (w := wd.2.1) (f := s2.2.2) (i := i) (by unfold okL; omega)).2)]) rfl rfl ?_
            refine v_iinc (k := 1) (z := (i : Int)) (z' := ((i + 1 : Nat) : Int)) (lv' := [(4, .int (jI ((i + 1 : Nat) : Int))), (5, .long (s2.2.2 (i : Int))), (3, .int (jI (lyC s2.2.2 (i + 1)))), (2, .ref (a 48)), (0, .ref (a 0)), (1, .int (jI 2))]) G dX8_lays_91 rfl (by omega) (by decide) rfl ?_
            refine v_goto (tgt := 41) G dX8_lays_94 (by decide) ?_
            refine v_locs (lv' := [(4, .int (jI ((i + 1 : Nat) : Int))), (3, .int (jI (lyC s2.2.2 (i + 1)))), (2, .ref (a 48)), (0, .ref (a 0)), (1, .int (jI 2))]) [0, 2, 3, 4, 5] rfl ?_
            exact ih_48 (i + 1) (by omega) (by omega)
          · skip
            refine v_lload (j := 0) (x := s2.2.2 (i : Int)) G dX8_lays_66 rfl ?_
            refine v_ldc2 (z := 99) G q_4 (by decide) dX8_lays_68 ?_
            refine v_lcmp G dX8_lays_71 ?_
            refine v_top (lg_lc (s2.2.2 (i : Int)) (jL 99)) ?_
            have h_56 := lc_z (s2.2.2 (i : Int)) (jL 99)
            have h_57 := jL_toInt (z := 99) (by omega)
            refine v_if_gt (a := lc (s2.2.2 (i : Int)) (jL 99)) (tgt := 91) G dX8_lays_72 (by decide) (by omega) (fun c_58 => ?_) (fun c_58 => ?_)
            · skip
              refine v_world (ws' := (gS  a ks ++ gW cI (fun i => a (1 + i)) (wd.1, lyB wd.2.1 s2.2.2 (i + 1), wd.2.2.1, wd.2.2.2.1, wd.2.2.2.2.1, wd.2.2.2.2.2.1, wd.2.2.2.2.2.2.1, wd.2.2.2.2.2.2.2.1, wd.2.2.2.2.2.2.2.2.1, wd.2.2.2.2.2.2.2.2.2.1, wd.2.2.2.2.2.2.2.2.2.2.1, wd.2.2.2.2.2.2.2.2.2.2.2) ++ gF cI a fd ++ gH cS a  ++ gX cL (fun i => a (44 + i)) s0 ++ gX cL (fun i => a (46 + i)) s1 ++ gX cL (fun i => a (48 + i)) s2 ++ gX cL (fun i => a (50 + i)) s3)) (by rw [(lybbf (w := wd.2.1) (f := s2.2.2) (i := i) (by unfold okL; omega)).1]) ?_
              refine v_eqs (lv' := [(5, .long (s2.2.2 (i : Int))), (4, .int (jI (i : Int))), (3, .int (jI (lyC s2.2.2 (i + 1)))), (2, .ref (a 48)), (0, .ref (a 0)), (1, .int (jI 2))]) (by rw [show lyC s2.2.2 (i + 1) = lyC s2.2.2 i from ((lybbf (w := wd.2.1) (f := s2.2.2) (i := i) (by unfold okL; omega)).2)]) rfl rfl ?_
              refine v_iinc (k := 1) (z := (i : Int)) (z' := ((i + 1 : Nat) : Int)) (lv' := [(4, .int (jI ((i + 1 : Nat) : Int))), (5, .long (s2.2.2 (i : Int))), (3, .int (jI (lyC s2.2.2 (i + 1)))), (2, .ref (a 48)), (0, .ref (a 0)), (1, .int (jI 2))]) G dX8_lays_91 rfl (by omega) (by decide) rfl ?_
              refine v_goto (tgt := 41) G dX8_lays_94 (by decide) ?_
              refine v_locs (lv' := [(4, .int (jI ((i + 1 : Nat) : Int))), (3, .int (jI (lyC s2.2.2 (i + 1)))), (2, .ref (a 48)), (0, .ref (a 0)), (1, .int (jI 2))]) [0, 2, 3, 4, 5] rfl ?_
              exact ih_48 (i + 1) (by omega) (by omega)
            · skip
              refine v_aload_n (j := 4) (x := a 0) G dX8_lays_75 rfl rfl ?_
              refine v_get (q0 := 0) (k := 0) (v := .ref (a 1)) G k_X8 rfl rfl (by decide) q_5 rfl rfl dX8_lays_76 ?_
              refine v_get (q0 := 1) (k := 1) (v := .ref (a 2)) G k_X7 rfl rfl (by decide) q_7 rfl rfl dX8_lays_79 ?_
              refine v_iload (j := 1) (x := jI (i : Int)) G dX8_lays_82 rfl ?_
              refine v_lload (j := 0) (x := s2.2.2 (i : Int)) G dX8_lays_84 rfl ?_
              refine v_l2i (v := (s2.2.2 (i : Int)).toInt32) G dX8_lays_86 rfl ?_
              refine v_top (x := (s2.2.2 (i : Int)).toInt32) (y := jI ((s2.2.2 (i : Int)).toInt)) rfl ?_
              refine v_iast (q0 := 2) (t0 := 0) (g := lyB wd.2.1 s2.2.2 i) (z := (i : Int)) (x := (s2.2.2 (i : Int)).toInt) (ws' := (gS  a ks ++ gW cI (fun i => a (1 + i)) (wd.1, uI (lyB wd.2.1 s2.2.2 i) (i : Int) ((s2.2.2 (i : Int)).toInt), wd.2.2.1, wd.2.2.2.1, wd.2.2.2.2.1, wd.2.2.2.2.2.1, wd.2.2.2.2.2.2.1, wd.2.2.2.2.2.2.2.1, wd.2.2.2.2.2.2.2.2.1, wd.2.2.2.2.2.2.2.2.2.1, wd.2.2.2.2.2.2.2.2.2.2.1, wd.2.2.2.2.2.2.2.2.2.2.2) ++ gF cI a fd ++ gH cS a  ++ gX cL (fun i => a (44 + i)) s0 ++ gX cL (fun i => a (46 + i)) s1 ++ gX cL (fun i => a (48 + i)) s2 ++ gX cL (fun i => a (50 + i)) s3)) G rfl rfl (by omega) rfl dX8_lays_87 ?_
              refine v_iinc (k := 2) (z := lyC s2.2.2 i) (z' := lyC s2.2.2 i + 1) (lv' := [(3, .int (jI (lyC s2.2.2 i + 1))), (5, .long (s2.2.2 (i : Int))), (4, .int (jI (i : Int))), (2, .ref (a 48)), (0, .ref (a 0)), (1, .int (jI 2))]) G dX8_lays_88 rfl rfl (by decide) rfl ?_
              refine v_world (ws' := (gS  a ks ++ gW cI (fun i => a (1 + i)) (wd.1, lyB wd.2.1 s2.2.2 (i + 1), wd.2.2.1, wd.2.2.2.1, wd.2.2.2.2.1, wd.2.2.2.2.2.1, wd.2.2.2.2.2.2.1, wd.2.2.2.2.2.2.2.1, wd.2.2.2.2.2.2.2.2.1, wd.2.2.2.2.2.2.2.2.2.1, wd.2.2.2.2.2.2.2.2.2.2.1, wd.2.2.2.2.2.2.2.2.2.2.2) ++ gF cI a fd ++ gH cS a  ++ gX cL (fun i => a (44 + i)) s0 ++ gX cL (fun i => a (46 + i)) s1 ++ gX cL (fun i => a (48 + i)) s2 ++ gX cL (fun i => a (50 + i)) s3)) (by rw [(lybbt (w := wd.2.1) (f := s2.2.2) (i := i) (by unfold okL; omega)).1]) ?_
              refine v_eqs (lv' := [(3, .int (jI (lyC s2.2.2 (i + 1)))), (5, .long (s2.2.2 (i : Int))), (4, .int (jI (i : Int))), (2, .ref (a 48)), (0, .ref (a 0)), (1, .int (jI 2))]) (by rw [show lyC s2.2.2 (i + 1) = lyC s2.2.2 i + 1 from ((lybbt (w := wd.2.1) (f := s2.2.2) (i := i) (by unfold okL; omega)).2)]) rfl rfl ?_
              refine v_iinc (k := 2) (z := (i : Int)) (z' := ((i + 1 : Nat) : Int)) (lv' := [(4, .int (jI ((i + 1 : Nat) : Int))), (3, .int (jI (lyC s2.2.2 (i + 1)))), (5, .long (s2.2.2 (i : Int))), (2, .ref (a 48)), (0, .ref (a 0)), (1, .int (jI 2))]) G dX8_lays_91 rfl (by omega) (by decide) rfl ?_
              refine v_goto (tgt := 41) G dX8_lays_94 (by decide) ?_
              refine v_locs (lv' := [(4, .int (jI ((i + 1 : Nat) : Int))), (3, .int (jI (lyC s2.2.2 (i + 1)))), (2, .ref (a 48)), (0, .ref (a 0)), (1, .int (jI 2))]) [0, 1, 3, 4, 5] rfl ?_
              exact ih_48 (i + 1) (by omega) (by omega)
      · skip
        refine v_aload_n (j := 1) (x := a 0) G dX8_lays_28 rfl rfl ?_
        refine v_ldcw (z := (-1000000006)) G q_8 (by decide) dX8_lays_29 ?_
        refine v_ciP (w2 := (fun _ => (gS  a ks ++ gW cI (fun i => a (1 + i)) wd ++ gF cI a (uI fd 5 (fd 5 + 1)) ++ gH cS a  ++ gX cL (fun i => a (44 + i)) s0 ++ gX cL (fun i => a (46 + i)) s1 ++ gX cL (fun i => a (48 + i)) s2 ++ gX cL (fun i => a (50 + i)) s3))) (wr := (gW cI (fun i => a (1 + i)) wd ++ gH cS a  ++ gX cL (fun i => a (44 + i)) s0 ++ gX cL (fun i => a (46 + i)) s1 ++ gX cL (fun i => a (48 + i)) s2 ++ gX cL (fun i => a (50 + i)) s3)) G (rn_V (As := [.int (jI (-1000000006))]) (rest := []) (q0 := 0) G (c_X8_found_5 (ks := ks) (fd := fd) (a := a) ) gX8_lays_X8_found rfl hdX8_found ⟨rfl, rfl, Nat.le_of_ble_eq_true rfl, Nat.le_of_ble_eq_true rfl⟩ rfl rfl (Nat.le_of_ble_eq_true rfl) ⟨Nat.zero_le _, Nat.zero_le _⟩ rfl rfl dX8_lays_32) [0, 11] [1, 2, 3, 4, 5, 6, 7, 8, 9, 10, 12, 13, 14, 15, 16, 17, 18, 19, 20] [19, 0, 1, 2, 3, 4, 5, 6, 7, 8, 9, 20, 10, 11, 12, 13, 14, 15, 16, 17, 18] rfl rfl (by decide) (fun _ => rfl) (fun r_59 u_61 e_60 => ?_)
        have e_60 : r_59 = jI (-1000000006) := e_60
        subst e_60
        refine v_world (ws' := (gS  a ks ++ gW cI (fun i => a (1 + i)) wd ++ gF cI a (uI fd 5 (fd 5 + 1)) ++ gH cS a  ++ gX cL (fun i => a (44 + i)) s0 ++ gX cL (fun i => a (46 + i)) s1 ++ gX cL (fun i => a (48 + i)) s2 ++ gX cL (fun i => a (50 + i)) s3)) rfl ?_
        exact v_iret G (wd, uI fd 5 (fd 5 + 1)) (by first | exact Or.inr (Or.inr (Or.inr (Or.inr (Or.inr (Or.inl ⟨(by omega), (by first | rfl | exact congrArg jI (by omega)), rfl, rfl⟩))))) | exact Or.inr (Or.inr (Or.inr (Or.inr (Or.inr (Or.inr (Or.inl ⟨(by omega), (by first | rfl | exact congrArg jI (by omega)), rfl, rfl⟩))))))) rfl dX8_lays_35
    · skip
      refine v_aload_n (j := 0) (x := a 0) G dX8_lays_14 rfl rfl ?_
      refine v_get (q0 := 0) (k := 7) (v := .ref (a 43)) G k_X8 rfl rfl (by decide) q_1 rfl rfl dX8_lays_15 ?_
      refine v_iload_n (j := 1) (x := jI 3) G dX8_lays_18 rfl rfl ?_
      refine v_aald (q0 := 12) (t0 := 3) (y := a 50) (z := 3) G rfl rfl (by omega) rfl dX8_lays_19 ?_
      refine v_astore_n (lv' := [(2, .ref (a 50)), (0, .ref (a 0)), (1, .int (jI 3))]) G dX8_lays_20 rfl (by decide) rfl ?_
      refine v_aload_n (j := 0) (x := a 50) G dX8_lays_21 rfl rfl ?_
      refine v_ciP (w2 := (fun _ => (gS  a ks ++ gW cI (fun i => a (1 + i)) wd ++ gF cI a fd ++ gH cS a  ++ gX cL (fun i => a (44 + i)) s0 ++ gX cL (fun i => a (46 + i)) s1 ++ gX cL (fun i => a (48 + i)) s2 ++ gX cL (fun i => a (50 + i)) s3))) (wr := (gS  a ks ++ gW cI (fun i => a (1 + i)) wd ++ gF cI a fd ++ gH cS a  ++ gX cL (fun i => a (44 + i)) s0 ++ gX cL (fun i => a (46 + i)) s1 ++ gX cL (fun i => a (48 + i)) s2)) G (rn_V (As := []) (rest := []) (q0 := 0) G (c_X3_isMissing (sx := s3) (b := fun i => a (50 + i)) (hx := hx3)) gX8_lays_X3_isMissing rfl hdX3_isMissing ⟨rfl, rfl, Nat.le_of_ble_eq_true rfl, Nat.le_of_ble_eq_true rfl⟩ rfl rfl (Nat.le_of_ble_eq_true rfl) ⟨Nat.zero_le _, Nat.zero_le _⟩ rfl rfl dX8_lays_22) [19, 20] [0, 1, 2, 3, 4, 5, 6, 7, 8, 9, 10, 11, 12, 13, 14, 15, 16, 17, 18] [0, 1, 2, 3, 4, 5, 6, 7, 8, 9, 10, 11, 12, 13, 14, 15, 16, 17, 18, 19, 20] rfl rfl (by decide) (fun _ => rfl) (fun r_62 u_64 e_63 => ?_)
      have e_63 : r_62 = jI (b2 (s3.1 = 0)) := e_63
      subst e_63
      refine v_world (ws' := (gS  a ks ++ gW cI (fun i => a (1 + i)) wd ++ gF cI a fd ++ gH cS a  ++ gX cL (fun i => a (44 + i)) s0 ++ gX cL (fun i => a (46 + i)) s1 ++ gX cL (fun i => a (48 + i)) s2 ++ gX cL (fun i => a (50 + i)) s3)) rfl ?_
      refine v_ifb_eq (P := s3.1 = 0) (tgt := 36) G dX8_lays_25 (by decide) (fun c_65 => ?_) (fun c_65 => ?_)
      · skip
        refine v_iconst G dX8_lays_36 ?_
        refine v_istore_n (lv' := [(3, .int (jI 0)), (2, .ref (a 50)), (0, .ref (a 0)), (1, .int (jI 3))]) G dX8_lays_37 rfl (by decide) rfl ?_
        refine v_iconst G dX8_lays_38 ?_
        refine v_istore (lv' := [(4, .int (jI 0)), (3, .int (jI 0)), (2, .ref (a 50)), (0, .ref (a 0)), (1, .int (jI 3))]) G dX8_lays_39 (by decide) rfl ?_
        refine v_locs (lv' := [(4, .int (jI 0)), (3, .int (jI 0)), (2, .ref (a 50)), (0, .ref (a 0)), (1, .int (jI 3))]) [0, 1, 2, 3, 4] rfl ?_
        refine v_loop1 (fun (i : Nat) => [(4, .int (jI (i : Int))), (3, .int (jI (lyC s3.2.2 i))), (2, .ref (a 50)), (0, .ref (a 0)), (1, .int (jI 3))]) (fun (i : Nat) => (gS  a ks ++ gW cI (fun i => a (1 + i)) (wd.1, lyB wd.2.1 s3.2.2 i, wd.2.2.1, wd.2.2.2.1, wd.2.2.2.2.1, wd.2.2.2.2.2.1, wd.2.2.2.2.2.2.1, wd.2.2.2.2.2.2.2.1, wd.2.2.2.2.2.2.2.2.1, wd.2.2.2.2.2.2.2.2.2.1, wd.2.2.2.2.2.2.2.2.2.2.1, wd.2.2.2.2.2.2.2.2.2.2.2) ++ gF cI a fd ++ gH cS a  ++ gX cL (fun i => a (44 + i)) s0 ++ gX cL (fun i => a (46 + i)) s1 ++ gX cL (fun i => a (48 + i)) s2 ++ gX cL (fun i => a (50 + i)) s3)) (fun (i : Nat) => (i : Int) ≤ (jmin s3.2.1 16)) (fun (i : Nat) => (jmin s3.2.1 16).toNat - i) 0 (by have := jmin_z s3.2.1 16; omega) rfl rfl ?_
        intro i I_66 ih_67
        have hjm := jmin_z s3.2.1 16
        refine v_iload (j := 0) (x := jI (i : Int)) G dX8_lays_41 rfl ?_
        refine v_aload_n (j := 2) (x := a 50) G dX8_lays_43 rfl rfl ?_
        refine v_ciP (w2 := (fun _ => (gS  a ks ++ gW cI (fun i => a (1 + i)) (wd.1, lyB wd.2.1 s3.2.2 i, wd.2.2.1, wd.2.2.2.1, wd.2.2.2.2.1, wd.2.2.2.2.2.1, wd.2.2.2.2.2.2.1, wd.2.2.2.2.2.2.2.1, wd.2.2.2.2.2.2.2.2.1, wd.2.2.2.2.2.2.2.2.2.1, wd.2.2.2.2.2.2.2.2.2.2.1, wd.2.2.2.2.2.2.2.2.2.2.2) ++ gF cI a fd ++ gH cS a  ++ gX cL (fun i => a (44 + i)) s0 ++ gX cL (fun i => a (46 + i)) s1 ++ gX cL (fun i => a (48 + i)) s2 ++ gX cL (fun i => a (50 + i)) s3))) (wr := (gS  a ks ++ gW cI (fun i => a (1 + i)) (wd.1, lyB wd.2.1 s3.2.2 i, wd.2.2.1, wd.2.2.2.1, wd.2.2.2.2.1, wd.2.2.2.2.2.1, wd.2.2.2.2.2.2.1, wd.2.2.2.2.2.2.2.1, wd.2.2.2.2.2.2.2.2.1, wd.2.2.2.2.2.2.2.2.2.1, wd.2.2.2.2.2.2.2.2.2.2.1, wd.2.2.2.2.2.2.2.2.2.2.2) ++ gF cI a fd ++ gH cS a  ++ gX cL (fun i => a (44 + i)) s0 ++ gX cL (fun i => a (46 + i)) s1 ++ gX cL (fun i => a (48 + i)) s2)) G (rn_V (As := []) (rest := [.int (jI (i : Int))]) (q0 := 0) G (c_X3_places (sx := s3) (b := fun i => a (50 + i)) (hx := hx3)) gX8_lays_X3_places rfl hdX3_places ⟨rfl, rfl, Nat.le_of_ble_eq_true rfl, Nat.le_of_ble_eq_true rfl⟩ rfl rfl (Nat.le_of_ble_eq_true rfl) ⟨Nat.zero_le _, Nat.zero_le _⟩ rfl rfl dX8_lays_44) [19, 20] [0, 1, 2, 3, 4, 5, 6, 7, 8, 9, 10, 11, 12, 13, 14, 15, 16, 17, 18] [0, 1, 2, 3, 4, 5, 6, 7, 8, 9, 10, 11, 12, 13, 14, 15, 16, 17, 18, 19, 20] rfl rfl (by decide) (fun _ => rfl) (fun r_68 u_70 e_69 => ?_)
        have e_69 : r_68 = jI (jmin s3.2.1 16) := e_69
        subst e_69
        refine v_world (ws' := (gS  a ks ++ gW cI (fun i => a (1 + i)) (wd.1, lyB wd.2.1 s3.2.2 i, wd.2.2.1, wd.2.2.2.1, wd.2.2.2.2.1, wd.2.2.2.2.2.1, wd.2.2.2.2.2.2.1, wd.2.2.2.2.2.2.2.1, wd.2.2.2.2.2.2.2.2.1, wd.2.2.2.2.2.2.2.2.2.1, wd.2.2.2.2.2.2.2.2.2.2.1, wd.2.2.2.2.2.2.2.2.2.2.2) ++ gF cI a fd ++ gH cS a  ++ gX cL (fun i => a (44 + i)) s0 ++ gX cL (fun i => a (46 + i)) s1 ++ gX cL (fun i => a (48 + i)) s2 ++ gX cL (fun i => a (50 + i)) s3)) rfl ?_
        refine v_icmp_ge (a := (i : Int)) (b := jmin s3.2.1 16) (tgt := 97) G dX8_lays_47 (by decide) (by omega) (fun c_71 => ?_) (fun c_71 => ?_)
        · skip
          obtain rfl : i = (jmin s3.2.1 16).toNat := by omega
          refine v_iload_n (j := 1) (x := jI (lyC s3.2.2 ((jmin s3.2.1 16).toNat))) G dX8_lays_97 rfl rfl ?_
          exact v_iret G ((wd.1, lyB wd.2.1 s3.2.2 ((jmin s3.2.1 16).toNat), wd.2.2.1, wd.2.2.2.1, wd.2.2.2.2.1, wd.2.2.2.2.2.1, wd.2.2.2.2.2.2.1, wd.2.2.2.2.2.2.2.1, wd.2.2.2.2.2.2.2.2.1, wd.2.2.2.2.2.2.2.2.2.1, wd.2.2.2.2.2.2.2.2.2.2.1, wd.2.2.2.2.2.2.2.2.2.2.2), fd) (by first | exact Or.inr (Or.inr (Or.inr (Or.inr (Or.inr (Or.inr (Or.inr (Or.inl ⟨(by omega), (by first | rfl | exact congrArg jI (by omega)), rfl, rfl⟩))))))) | exact Or.inr (Or.inr (Or.inr (Or.inr (Or.inr (Or.inr (Or.inr (Or.inr (⟨(by omega), (by first | rfl | exact congrArg jI (by omega)), rfl, rfl⟩))))))))) rfl dX8_lays_98
        · skip
          refine v_aload_n (j := 2) (x := a 50) G dX8_lays_50 rfl rfl ?_
          refine v_get (q0 := 19) (k := 2) (v := .ref (a 51)) G k_X3 rfl rfl (by decide) q_3 rfl rfl dX8_lays_51 ?_
          refine v_iload (j := 0) (x := jI (i : Int)) G dX8_lays_54 rfl ?_
          refine v_lald (q0 := 20) (t0 := 1) (g := s3.2.2) (z := (i : Int)) G rfl rfl (by omega) dX8_lays_56 ?_
          refine v_lstore (lv' := [(5, .long (s3.2.2 (i : Int))), (4, .int (jI (i : Int))), (3, .int (jI (lyC s3.2.2 i))), (2, .ref (a 50)), (0, .ref (a 0)), (1, .int (jI 3))]) G dX8_lays_57 (by decide) rfl ?_
          have hl64 := Int64.le_toInt (s3.2.2 (i : Int))
          refine v_lload (j := 0) (x := s3.2.2 (i : Int)) G dX8_lays_59 rfl ?_
          refine v_lconst (z := 0) G dX8_lays_61 (by decide) ?_
          refine v_lcmp G dX8_lays_62 ?_
          refine v_top (lg_lc (s3.2.2 (i : Int)) (jL 0)) ?_
          have h_72 := lc_z (s3.2.2 (i : Int)) (jL 0)
          have h_73 := jL_toInt (z := 0) (by omega)
          refine v_if_lt (a := lc (s3.2.2 (i : Int)) (jL 0)) (tgt := 91) G dX8_lays_63 (by decide) (by omega) (fun c_74 => ?_) (fun c_74 => ?_)
          · skip
            refine v_world (ws' := (gS  a ks ++ gW cI (fun i => a (1 + i)) (wd.1, lyB wd.2.1 s3.2.2 (i + 1), wd.2.2.1, wd.2.2.2.1, wd.2.2.2.2.1, wd.2.2.2.2.2.1, wd.2.2.2.2.2.2.1, wd.2.2.2.2.2.2.2.1, wd.2.2.2.2.2.2.2.2.1, wd.2.2.2.2.2.2.2.2.2.1, wd.2.2.2.2.2.2.2.2.2.2.1, wd.2.2.2.2.2.2.2.2.2.2.2) ++ gF cI a fd ++ gH cS a  ++ gX cL (fun i => a (44 + i)) s0 ++ gX cL (fun i => a (46 + i)) s1 ++ gX cL (fun i => a (48 + i)) s2 ++ gX cL (fun i => a (50 + i)) s3)) (by rw [(lybbf (w := wd.2.1) (f := s3.2.2) (i := i) (by unfold okL; omega)).1]) ?_
            refine v_eqs (lv' := [(5, .long (s3.2.2 (i : Int))), (4, .int (jI (i : Int))), (3, .int (jI (lyC s3.2.2 (i + 1)))), (2, .ref (a 50)), (0, .ref (a 0)), (1, .int (jI 3))]) (by rw [show lyC s3.2.2 (i + 1) = lyC s3.2.2 i from ((lybbf (w := wd.2.1) (f := s3.2.2) (i := i) (by unfold okL; omega)).2)]) rfl rfl ?_
            refine v_iinc (k := 1) (z := (i : Int)) (z' := ((i + 1 : Nat) : Int)) (lv' := [(4, .int (jI ((i + 1 : Nat) : Int))), (5, .long (s3.2.2 (i : Int))), (3, .int (jI (lyC s3.2.2 (i + 1)))), (2, .ref (a 50)), (0, .ref (a 0)), (1, .int (jI 3))]) G dX8_lays_91 rfl (by omega) (by decide) rfl ?_
            refine v_goto (tgt := 41) G dX8_lays_94 (by decide) ?_
            refine v_locs (lv' := [(4, .int (jI ((i + 1 : Nat) : Int))), (3, .int (jI (lyC s3.2.2 (i + 1)))), (2, .ref (a 50)), (0, .ref (a 0)), (1, .int (jI 3))]) [0, 2, 3, 4, 5] rfl ?_
            exact ih_67 (i + 1) (by omega) (by omega)
          · skip
            refine v_lload (j := 0) (x := s3.2.2 (i : Int)) G dX8_lays_66 rfl ?_
            refine v_ldc2 (z := 99) G q_4 (by decide) dX8_lays_68 ?_
            refine v_lcmp G dX8_lays_71 ?_
            refine v_top (lg_lc (s3.2.2 (i : Int)) (jL 99)) ?_
            have h_75 := lc_z (s3.2.2 (i : Int)) (jL 99)
            have h_76 := jL_toInt (z := 99) (by omega)
            refine v_if_gt (a := lc (s3.2.2 (i : Int)) (jL 99)) (tgt := 91) G dX8_lays_72 (by decide) (by omega) (fun c_77 => ?_) (fun c_77 => ?_)
            · skip
              refine v_world (ws' := (gS  a ks ++ gW cI (fun i => a (1 + i)) (wd.1, lyB wd.2.1 s3.2.2 (i + 1), wd.2.2.1, wd.2.2.2.1, wd.2.2.2.2.1, wd.2.2.2.2.2.1, wd.2.2.2.2.2.2.1, wd.2.2.2.2.2.2.2.1, wd.2.2.2.2.2.2.2.2.1, wd.2.2.2.2.2.2.2.2.2.1, wd.2.2.2.2.2.2.2.2.2.2.1, wd.2.2.2.2.2.2.2.2.2.2.2) ++ gF cI a fd ++ gH cS a  ++ gX cL (fun i => a (44 + i)) s0 ++ gX cL (fun i => a (46 + i)) s1 ++ gX cL (fun i => a (48 + i)) s2 ++ gX cL (fun i => a (50 + i)) s3)) (by rw [(lybbf (w := wd.2.1) (f := s3.2.2) (i := i) (by unfold okL; omega)).1]) ?_
              refine v_eqs (lv' := [(5, .long (s3.2.2 (i : Int))), (4, .int (jI (i : Int))), (3, .int (jI (lyC s3.2.2 (i + 1)))), (2, .ref (a 50)), (0, .ref (a 0)), (1, .int (jI 3))]) (by rw [show lyC s3.2.2 (i + 1) = lyC s3.2.2 i from ((lybbf (w := wd.2.1) (f := s3.2.2) (i := i) (by unfold okL; omega)).2)]) rfl rfl ?_
              refine v_iinc (k := 1) (z := (i : Int)) (z' := ((i + 1 : Nat) : Int)) (lv' := [(4, .int (jI ((i + 1 : Nat) : Int))), (5, .long (s3.2.2 (i : Int))), (3, .int (jI (lyC s3.2.2 (i + 1)))), (2, .ref (a 50)), (0, .ref (a 0)), (1, .int (jI 3))]) G dX8_lays_91 rfl (by omega) (by decide) rfl ?_
              refine v_goto (tgt := 41) G dX8_lays_94 (by decide) ?_
              refine v_locs (lv' := [(4, .int (jI ((i + 1 : Nat) : Int))), (3, .int (jI (lyC s3.2.2 (i + 1)))), (2, .ref (a 50)), (0, .ref (a 0)), (1, .int (jI 3))]) [0, 2, 3, 4, 5] rfl ?_
              exact ih_67 (i + 1) (by omega) (by omega)
            · skip
              refine v_aload_n (j := 4) (x := a 0) G dX8_lays_75 rfl rfl ?_
              refine v_get (q0 := 0) (k := 0) (v := .ref (a 1)) G k_X8 rfl rfl (by decide) q_5 rfl rfl dX8_lays_76 ?_
              refine v_get (q0 := 1) (k := 1) (v := .ref (a 2)) G k_X7 rfl rfl (by decide) q_7 rfl rfl dX8_lays_79 ?_
              refine v_iload (j := 1) (x := jI (i : Int)) G dX8_lays_82 rfl ?_
              refine v_lload (j := 0) (x := s3.2.2 (i : Int)) G dX8_lays_84 rfl ?_
              refine v_l2i (v := (s3.2.2 (i : Int)).toInt32) G dX8_lays_86 rfl ?_
              refine v_top (x := (s3.2.2 (i : Int)).toInt32) (y := jI ((s3.2.2 (i : Int)).toInt)) rfl ?_
              refine v_iast (q0 := 2) (t0 := 0) (g := lyB wd.2.1 s3.2.2 i) (z := (i : Int)) (x := (s3.2.2 (i : Int)).toInt) (ws' := (gS  a ks ++ gW cI (fun i => a (1 + i)) (wd.1, uI (lyB wd.2.1 s3.2.2 i) (i : Int) ((s3.2.2 (i : Int)).toInt), wd.2.2.1, wd.2.2.2.1, wd.2.2.2.2.1, wd.2.2.2.2.2.1, wd.2.2.2.2.2.2.1, wd.2.2.2.2.2.2.2.1, wd.2.2.2.2.2.2.2.2.1, wd.2.2.2.2.2.2.2.2.2.1, wd.2.2.2.2.2.2.2.2.2.2.1, wd.2.2.2.2.2.2.2.2.2.2.2) ++ gF cI a fd ++ gH cS a  ++ gX cL (fun i => a (44 + i)) s0 ++ gX cL (fun i => a (46 + i)) s1 ++ gX cL (fun i => a (48 + i)) s2 ++ gX cL (fun i => a (50 + i)) s3)) G rfl rfl (by omega) rfl dX8_lays_87 ?_
              refine v_iinc (k := 2) (z := lyC s3.2.2 i) (z' := lyC s3.2.2 i + 1) (lv' := [(3, .int (jI (lyC s3.2.2 i + 1))), (5, .long (s3.2.2 (i : Int))), (4, .int (jI (i : Int))), (2, .ref (a 50)), (0, .ref (a 0)), (1, .int (jI 3))]) G dX8_lays_88 rfl rfl (by decide) rfl ?_
              refine v_world (ws' := (gS  a ks ++ gW cI (fun i => a (1 + i)) (wd.1, lyB wd.2.1 s3.2.2 (i + 1), wd.2.2.1, wd.2.2.2.1, wd.2.2.2.2.1, wd.2.2.2.2.2.1, wd.2.2.2.2.2.2.1, wd.2.2.2.2.2.2.2.1, wd.2.2.2.2.2.2.2.2.1, wd.2.2.2.2.2.2.2.2.2.1, wd.2.2.2.2.2.2.2.2.2.2.1, wd.2.2.2.2.2.2.2.2.2.2.2) ++ gF cI a fd ++ gH cS a  ++ gX cL (fun i => a (44 + i)) s0 ++ gX cL (fun i => a (46 + i)) s1 ++ gX cL (fun i => a (48 + i)) s2 ++ gX cL (fun i => a (50 + i)) s3)) (by rw [(lybbt (w := wd.2.1) (f := s3.2.2) (i := i) (by unfold okL; omega)).1]) ?_
              refine v_eqs (lv' := [(3, .int (jI (lyC s3.2.2 (i + 1)))), (5, .long (s3.2.2 (i : Int))), (4, .int (jI (i : Int))), (2, .ref (a 50)), (0, .ref (a 0)), (1, .int (jI 3))]) (by rw [show lyC s3.2.2 (i + 1) = lyC s3.2.2 i + 1 from ((lybbt (w := wd.2.1) (f := s3.2.2) (i := i) (by unfold okL; omega)).2)]) rfl rfl ?_
              refine v_iinc (k := 2) (z := (i : Int)) (z' := ((i + 1 : Nat) : Int)) (lv' := [(4, .int (jI ((i + 1 : Nat) : Int))), (3, .int (jI (lyC s3.2.2 (i + 1)))), (5, .long (s3.2.2 (i : Int))), (2, .ref (a 50)), (0, .ref (a 0)), (1, .int (jI 3))]) G dX8_lays_91 rfl (by omega) (by decide) rfl ?_
              refine v_goto (tgt := 41) G dX8_lays_94 (by decide) ?_
              refine v_locs (lv' := [(4, .int (jI ((i + 1 : Nat) : Int))), (3, .int (jI (lyC s3.2.2 (i + 1)))), (2, .ref (a 50)), (0, .ref (a 0)), (1, .int (jI 3))]) [0, 1, 3, 4, 5] rfl ?_
              exact ih_67 (i + 1) (by omega) (by omega)
      · skip
        refine v_aload_n (j := 1) (x := a 0) G dX8_lays_28 rfl rfl ?_
        refine v_ldcw (z := (-1000000006)) G q_8 (by decide) dX8_lays_29 ?_
        refine v_ciP (w2 := (fun _ => (gS  a ks ++ gW cI (fun i => a (1 + i)) wd ++ gF cI a (uI fd 5 (fd 5 + 1)) ++ gH cS a  ++ gX cL (fun i => a (44 + i)) s0 ++ gX cL (fun i => a (46 + i)) s1 ++ gX cL (fun i => a (48 + i)) s2 ++ gX cL (fun i => a (50 + i)) s3))) (wr := (gW cI (fun i => a (1 + i)) wd ++ gH cS a  ++ gX cL (fun i => a (44 + i)) s0 ++ gX cL (fun i => a (46 + i)) s1 ++ gX cL (fun i => a (48 + i)) s2 ++ gX cL (fun i => a (50 + i)) s3)) G (rn_V (As := [.int (jI (-1000000006))]) (rest := []) (q0 := 0) G (c_X8_found_5 (ks := ks) (fd := fd) (a := a) ) gX8_lays_X8_found rfl hdX8_found ⟨rfl, rfl, Nat.le_of_ble_eq_true rfl, Nat.le_of_ble_eq_true rfl⟩ rfl rfl (Nat.le_of_ble_eq_true rfl) ⟨Nat.zero_le _, Nat.zero_le _⟩ rfl rfl dX8_lays_32) [0, 11] [1, 2, 3, 4, 5, 6, 7, 8, 9, 10, 12, 13, 14, 15, 16, 17, 18, 19, 20] [19, 0, 1, 2, 3, 4, 5, 6, 7, 8, 9, 20, 10, 11, 12, 13, 14, 15, 16, 17, 18] rfl rfl (by decide) (fun _ => rfl) (fun r_78 u_80 e_79 => ?_)
        have e_79 : r_78 = jI (-1000000006) := e_79
        subst e_79
        refine v_world (ws' := (gS  a ks ++ gW cI (fun i => a (1 + i)) wd ++ gF cI a (uI fd 5 (fd 5 + 1)) ++ gH cS a  ++ gX cL (fun i => a (44 + i)) s0 ++ gX cL (fun i => a (46 + i)) s1 ++ gX cL (fun i => a (48 + i)) s2 ++ gX cL (fun i => a (50 + i)) s3)) rfl ?_
        exact v_iret G (wd, uI fd 5 (fd 5 + 1)) (by first | exact Or.inr (Or.inr (Or.inr (Or.inr (Or.inr (Or.inr (Or.inr (Or.inl ⟨(by omega), (by first | rfl | exact congrArg jI (by omega)), rfl, rfl⟩))))))) | exact Or.inr (Or.inr (Or.inr (Or.inr (Or.inr (Or.inr (Or.inr (Or.inr (⟨(by omega), (by first | rfl | exact congrArg jI (by omega)), rfl, rfl⟩))))))))) rfl dX8_lays_35
  · skip
    refine v_aload_n (j := 0) (x := a 0) G dX8_lays_7 rfl rfl ?_
    refine v_ldc (z := (-1000000001)) G q_9 (by decide) dX8_lays_8 ?_
    refine v_ciP (w2 := (fun _ => (gS  a ks ++ gW cI (fun i => a (1 + i)) wd ++ gF cI a (uI fd 0 (fd 0 + 1)) ++ gH cS a  ++ gX cL (fun i => a (44 + i)) s0 ++ gX cL (fun i => a (46 + i)) s1 ++ gX cL (fun i => a (48 + i)) s2 ++ gX cL (fun i => a (50 + i)) s3))) (wr := (gW cI (fun i => a (1 + i)) wd ++ gH cS a  ++ gX cL (fun i => a (44 + i)) s0 ++ gX cL (fun i => a (46 + i)) s1 ++ gX cL (fun i => a (48 + i)) s2 ++ gX cL (fun i => a (50 + i)) s3)) G (rn_V (As := [.int (jI (-1000000001))]) (rest := []) (q0 := 0) G (c_X8_found_0 (ks := ks) (fd := fd) (a := a) ) gX8_lays_X8_found rfl hdX8_found ⟨rfl, rfl, Nat.le_of_ble_eq_true rfl, Nat.le_of_ble_eq_true rfl⟩ rfl rfl (Nat.le_of_ble_eq_true rfl) ⟨Nat.zero_le _, Nat.zero_le _⟩ rfl rfl dX8_lays_10) [0, 11] [1, 2, 3, 4, 5, 6, 7, 8, 9, 10, 12, 13, 14, 15, 16, 17, 18, 19, 20] [19, 0, 1, 2, 3, 4, 5, 6, 7, 8, 9, 20, 10, 11, 12, 13, 14, 15, 16, 17, 18] rfl rfl (by decide) (fun _ => rfl) (fun r_81 u_83 e_82 => ?_)
    have e_82 : r_81 = jI (-1000000001) := e_82
    subst e_82
    refine v_world (ws' := (gS  a ks ++ gW cI (fun i => a (1 + i)) wd ++ gF cI a (uI fd 0 (fd 0 + 1)) ++ gH cS a  ++ gX cL (fun i => a (44 + i)) s0 ++ gX cL (fun i => a (46 + i)) s1 ++ gX cL (fun i => a (48 + i)) s2 ++ gX cL (fun i => a (50 + i)) s3)) rfl ?_
    exact v_iret G (wd, uI fd 0 (fd 0 + 1)) (by first | exact Or.inl ⟨(by omega), (by first | rfl | exact congrArg jI (by omega)), rfl, rfl⟩) rfl dX8_lays_13

set_option maxHeartbeats 40000000 in
set_option maxRecDepth 100000 in
theorem c_X8_map (k : Int) (hw : Wc wd) (hx0 : Sx s0) (hx1 : Sx s1) (hx2 : Sx s2) (hx3 : Sx s3) (hr : (-2147483648 ≤ k ∧ k ≤ 2147483647)) : Ci l yX8_map wsX8_map { frames := 5, cells := 0, slots := 0, locals := 113 } D (jT cI cL cB cS) [.ref (a 0), .int (jI k)] (gS  a ks ++ gW cI (fun i => a (1 + i)) wd ++ gG cI (fun i => a (31 + i)) gl ++ gI cI a li ++ gF cI a fd ++ gH cS a  ++ gX cL (fun i => a (44 + i)) s0 ++ gX cL (fun i => a (46 + i)) s1 ++ gX cL (fun i => a (48 + i)) s2 ++ gX cL (fun i => a (50 + i)) s3) (S := (Int → Int) × GT × (Int → Int) × (Int × Int × (Int → Int64)) × (Int × Int × (Int → Int64)) × (Int × Int × (Int → Int64)) × (Int × Int × (Int → Int64))) (fun u => (gS  a ks ++ gW cI (fun i => a (1 + i)) wd ++ gG cI (fun i => a (31 + i)) u.2.1 ++ gI cI a u.2.2.1 ++ gF cI a u.1 ++ gH cS a  ++ gX cL (fun i => a (44 + i)) u.2.2.2.1 ++ gX cL (fun i => a (46 + i)) u.2.2.2.2.1 ++ gX cL (fun i => a (48 + i)) u.2.2.2.2.2.1 ++ gX cL (fun i => a (50 + i)) u.2.2.2.2.2.2)) (fun r u => ((¬ (0 ≤ k ∧ k ≤ 3)) ∧ r = jI (-1000000001) ∧ u.1 = uI fd 0 (fd 0 + 1) ∧ u.2.2.2.1 = s0 ∧ u.2.2.2.2.1 = s1 ∧ u.2.2.2.2.2.1 = s2 ∧ u.2.2.2.2.2.2 = s3) ∨ ((k = 0 ∧ s0.1 = 0) ∧ r = jI (-1000000006) ∧ u.1 = uI fd 5 (fd 5 + 1) ∧ u.2.2.2.1 = s0 ∧ u.2.2.2.2.1 = s1 ∧ u.2.2.2.2.2.1 = s2 ∧ u.2.2.2.2.2.2 = s3) ∨ ((k = 0 ∧ s0.1 ≠ 0) ∧ r = jI (jmin s0.2.1 16) ∧ u.1 = fd ∧ u.2.2.2.1 = (s0.1, s0.2.1, cpL (fun j_ => nW s0.1 (jL (cLt wd 0 j_))) s0.2.2 (jmin s0.2.1 16).toNat) ∧ u.2.2.2.2.1 = s1 ∧ u.2.2.2.2.2.1 = s2 ∧ u.2.2.2.2.2.2 = s3) ∨ ((k = 1 ∧ s1.1 = 0) ∧ r = jI (-1000000006) ∧ u.1 = uI fd 5 (fd 5 + 1) ∧ u.2.2.2.1 = s0 ∧ u.2.2.2.2.1 = s1 ∧ u.2.2.2.2.2.1 = s2 ∧ u.2.2.2.2.2.2 = s3) ∨ ((k = 1 ∧ s1.1 ≠ 0) ∧ r = jI (jmin s1.2.1 16) ∧ u.1 = fd ∧ u.2.2.2.1 = s0 ∧ u.2.2.2.2.1 = (s1.1, s1.2.1, cpL (fun j_ => nW s1.1 (jL (cLt wd 0 j_))) s1.2.2 (jmin s1.2.1 16).toNat) ∧ u.2.2.2.2.2.1 = s2 ∧ u.2.2.2.2.2.2 = s3) ∨ ((k = 2 ∧ s2.1 = 0) ∧ r = jI (-1000000006) ∧ u.1 = uI fd 5 (fd 5 + 1) ∧ u.2.2.2.1 = s0 ∧ u.2.2.2.2.1 = s1 ∧ u.2.2.2.2.2.1 = s2 ∧ u.2.2.2.2.2.2 = s3) ∨ ((k = 2 ∧ s2.1 ≠ 0) ∧ r = jI (jmin s2.2.1 16) ∧ u.1 = fd ∧ u.2.2.2.1 = s0 ∧ u.2.2.2.2.1 = s1 ∧ u.2.2.2.2.2.1 = (s2.1, s2.2.1, cpL (fun j_ => nW s2.1 (jL (cLt wd 0 j_))) s2.2.2 (jmin s2.2.1 16).toNat) ∧ u.2.2.2.2.2.2 = s3) ∨ ((k = 3 ∧ s3.1 = 0) ∧ r = jI (-1000000006) ∧ u.1 = uI fd 5 (fd 5 + 1) ∧ u.2.2.2.1 = s0 ∧ u.2.2.2.2.1 = s1 ∧ u.2.2.2.2.2.1 = s2 ∧ u.2.2.2.2.2.2 = s3) ∨ ((k = 3 ∧ s3.1 ≠ 0) ∧ r = jI (jmin s3.2.1 16) ∧ u.1 = fd ∧ u.2.2.2.1 = s0 ∧ u.2.2.2.2.1 = s1 ∧ u.2.2.2.2.2.1 = s2 ∧ u.2.2.2.2.2.2 = (s3.1, s3.2.1, cpL (fun j_ => nW s3.1 (jL (cLt wd 0 j_))) s3.2.2 (jmin s3.2.1 16).toNat))) := by
  refine Ci.mk (cc := cX8_map) (maxL := 4) (rt := .int) (by decide) rfl (Nat.le_of_ble_eq_true rfl) rfl ?_
  intro p_ e_ s_ m_ b_ me_ c_ A_ G hnm
  have hm := hw.many
  have hmt := hw.tasks
  have hh := hw.hour
  obtain ⟨hb0, hz0⟩ := id hx0
  obtain ⟨hb1, hz1⟩ := id hx1
  obtain ⟨hb2, hz2⟩ := id hx2
  obtain ⟨hb3, hz3⟩ := id hx3
  have k_X8 : ∀ w ∈ u_ws RX8 TX8 12, w ∈ wsX8_map := fun _ h => List.mem_cons_of_mem _ (List.mem_append_left _ (List.mem_append_left _ (List.mem_append_left _ (List.mem_append_right _ h))))
  have q_1 : Cond.fieldLink RX8 51 "SupperLight" "sheets" "[LSupperLight$Sheet;" ∈ wsX8_map := List.mem_of_getElem? (i := 2) rfl
  have q_2 : Cond.fieldLink RX8 70 "SupperLight" "lights" "[I" ∈ wsX8_map := List.mem_of_getElem? (i := 4) rfl
  have q_3 : Cond.constant RX8 273 (-1000000006) ∈ wsX8_map := List.mem_of_getElem? (i := 3) rfl
  have q_4 : Cond.constant RX8 85 (-1000000001) ∈ wsX8_map := List.mem_of_getElem? (i := 1) rfl
  refine v_iload_n (j := 1) (x := jI k) G dX8_map_0 rfl rfl ?_
  refine v_ciN G (rn_S (As := [.int (jI k)]) (rest := []) G (c_X8_isSheet (k := k) (hr := (by omega))) gX8_map_X8_isSheet rfl hdX8_isSheet ⟨rfl, rfl, Nat.le_of_ble_eq_true rfl, Nat.le_of_ble_eq_true rfl⟩ rfl rfl (Nat.le_of_ble_eq_true rfl) ⟨Nat.zero_le _, Nat.zero_le _⟩ dX8_map_1) (fun r_1 u_3 e_2 => ?_)
  have e_2 : r_1 = jI (b2 (0 ≤ k ∧ k ≤ 3)) := e_2
  subst e_2
  refine v_ifb_ne (P := 0 ≤ k ∧ k ≤ 3) (tgt := 14) G dX8_map_4 (by decide) (fun c_4 => ?_) (fun c_4 => ?_)
  · skip
    rcases (show k = 0 ∨ k = 1 ∨ k = 2 ∨ k = 3 by omega) with rfl | rfl | rfl | rfl
    · skip
      refine v_aload_n (j := 0) (x := a 0) G dX8_map_14 rfl rfl ?_
      refine v_get (q0 := 0) (k := 7) (v := .ref (a 43)) G k_X8 rfl rfl (by decide) q_1 rfl rfl dX8_map_15 ?_
      refine v_iload_n (j := 1) (x := jI 0) G dX8_map_18 rfl rfl ?_
      refine v_aald (q0 := 18) (t0 := 3) (y := a 44) (z := 0) G rfl rfl (by omega) rfl dX8_map_19 ?_
      refine v_astore_n (lv' := [(2, .ref (a 44)), (0, .ref (a 0)), (1, .int (jI 0))]) G dX8_map_20 rfl (by decide) rfl ?_
      refine v_aload_n (j := 0) (x := a 44) G dX8_map_21 rfl rfl ?_
      refine v_ciP (w2 := (fun _ => (gS  a ks ++ gW cI (fun i => a (1 + i)) wd ++ gG cI (fun i => a (31 + i)) gl ++ gI cI a li ++ gF cI a fd ++ gH cS a  ++ gX cL (fun i => a (44 + i)) s0 ++ gX cL (fun i => a (46 + i)) s1 ++ gX cL (fun i => a (48 + i)) s2 ++ gX cL (fun i => a (50 + i)) s3))) (wr := (gS  a ks ++ gW cI (fun i => a (1 + i)) wd ++ gG cI (fun i => a (31 + i)) gl ++ gI cI a li ++ gF cI a fd ++ gH cS a  ++ gX cL (fun i => a (46 + i)) s1 ++ gX cL (fun i => a (48 + i)) s2 ++ gX cL (fun i => a (50 + i)) s3)) G (rn_V (As := []) (rest := []) (q0 := 0) G (c_X3_isMissing (sx := s0) (b := fun i => a (44 + i)) (hx := ⟨hx0.1, hx0.2⟩)) gX8_map_X3_isMissing rfl hdX3_isMissing ⟨rfl, rfl, Nat.le_of_ble_eq_true rfl, Nat.le_of_ble_eq_true rfl⟩ rfl rfl (Nat.le_of_ble_eq_true rfl) ⟨Nat.zero_le _, Nat.zero_le _⟩ rfl rfl dX8_map_22) [19, 20] [0, 1, 2, 3, 4, 5, 6, 7, 8, 9, 10, 11, 12, 13, 14, 15, 16, 17, 18, 21, 22, 23, 24, 25, 26] [0, 1, 2, 3, 4, 5, 6, 7, 8, 9, 10, 11, 12, 13, 14, 15, 16, 17, 18, 25, 26, 19, 20, 21, 22, 23, 24] rfl rfl (by decide) (fun _ => rfl) (fun r_5 u_7 e_6 => ?_)
      have e_6 : r_5 = jI (b2 (s0.1 = 0)) := e_6
      subst e_6
      refine v_world (ws' := (gS  a ks ++ gW cI (fun i => a (1 + i)) wd ++ gG cI (fun i => a (31 + i)) gl ++ gI cI a li ++ gF cI a fd ++ gH cS a  ++ gX cL (fun i => a (44 + i)) s0 ++ gX cL (fun i => a (46 + i)) s1 ++ gX cL (fun i => a (48 + i)) s2 ++ gX cL (fun i => a (50 + i)) s3)) rfl ?_
      refine v_ifb_eq (P := s0.1 = 0) (tgt := 36) G dX8_map_25 (by decide) (fun c_8 => ?_) (fun c_8 => ?_)
      · skip
        refine v_aload_n (j := 1) (x := a 0) G dX8_map_36 rfl rfl ?_
        refine v_cvP (w2 := (fun _ => (gS  a ks ++ gW cI (fun i => a (1 + i)) wd ++ gG cI (fun i => a (31 + i)) (glS wd 0 gl) ++ gI cI a (cLt wd 0) ++ gF cI a fd ++ gH cS a  ++ gX cL (fun i => a (44 + i)) s0 ++ gX cL (fun i => a (46 + i)) s1 ++ gX cL (fun i => a (48 + i)) s2 ++ gX cL (fun i => a (50 + i)) s3))) (wr := (gF cI a fd ++ gH cS a  ++ gX cL (fun i => a (44 + i)) s0 ++ gX cL (fun i => a (46 + i)) s1 ++ gX cL (fun i => a (48 + i)) s2 ++ gX cL (fun i => a (50 + i)) s3)) G (rn_V (As := []) (rest := []) (q0 := 0) G (c_X8_lightAll (ks := ks) (wd := wd) (gl := gl) (li := li) (a := a) (hw := hw)) gX8_map_X8_lightAll rfl hdX8_lightAll ⟨rfl, rfl, Nat.le_of_ble_eq_true rfl, Nat.le_of_ble_eq_true rfl⟩ rfl rfl (Nat.le_of_ble_eq_true rfl) ⟨Nat.zero_le _, Nat.zero_le _⟩ rfl rfl dX8_map_37) [0, 1, 2, 3, 4, 5, 6, 7, 8, 9, 10, 11, 12, 13, 14, 15, 16] [17, 18, 19, 20, 21, 22, 23, 24, 25, 26] [10, 11, 12, 13, 14, 15, 16, 17, 18, 19, 20, 21, 22, 23, 24, 25, 26, 0, 1, 2, 3, 4, 5, 6, 7, 8, 9] rfl rfl (by decide) (fun _ => rfl) (fun u_11 e_10 => ?_)
        refine v_world (ws' := (gS  a ks ++ gW cI (fun i => a (1 + i)) wd ++ gG cI (fun i => a (31 + i)) (glS wd 0 gl) ++ gI cI a (cLt wd 0) ++ gF cI a fd ++ gH cS a  ++ gX cL (fun i => a (44 + i)) s0 ++ gX cL (fun i => a (46 + i)) s1 ++ gX cL (fun i => a (48 + i)) s2 ++ gX cL (fun i => a (50 + i)) s3)) rfl ?_
        refine v_iconst G dX8_map_40 ?_
        refine v_istore_n (lv' := [(3, .int (jI 0)), (2, .ref (a 44)), (0, .ref (a 0)), (1, .int (jI 0))]) G dX8_map_41 rfl (by decide) rfl ?_
        refine v_cellL (q0 := 20) (g := s0.2.2) (g' := cpL (fun j_ => nW s0.1 (jL (cLt wd 0 j_))) s0.2.2 0) (ws' := (gS  a ks ++ gW cI (fun i => a (1 + i)) wd ++ gG cI (fun i => a (31 + i)) (glS wd 0 gl) ++ gI cI a (cLt wd 0) ++ gF cI a fd ++ gH cS a  ++ gX cL (fun i => a (44 + i)) (s0.1, s0.2.1, cpL (fun j_ => nW s0.1 (jL (cLt wd 0 j_))) s0.2.2 0) ++ gX cL (fun i => a (46 + i)) s1 ++ gX cL (fun i => a (48 + i)) s2 ++ gX cL (fun i => a (50 + i)) s3)) rfl (fun j h0 _ => by unfold cpL; rw [if_neg (by omega)]) rfl ?_
        refine v_locs (lv' := [(3, .int (jI 0)), (2, .ref (a 44)), (0, .ref (a 0)), (1, .int (jI 0))]) [0, 1, 2, 3] rfl ?_
        refine v_loop1 (fun (i : Nat) => [(3, .int (jI (i : Int))), (2, .ref (a 44)), (0, .ref (a 0)), (1, .int (jI 0))]) (fun (i : Nat) => (gS  a ks ++ gW cI (fun i => a (1 + i)) wd ++ gG cI (fun i => a (31 + i)) (glS wd 0 gl) ++ gI cI a (cLt wd 0) ++ gF cI a fd ++ gH cS a  ++ gX cL (fun i => a (44 + i)) (s0.1, s0.2.1, cpL (fun j_ => nW s0.1 (jL (cLt wd 0 j_))) s0.2.2 i) ++ gX cL (fun i => a (46 + i)) s1 ++ gX cL (fun i => a (48 + i)) s2 ++ gX cL (fun i => a (50 + i)) s3)) (fun (i : Nat) => (i : Int) ≤ (jmin s0.2.1 16)) (fun (i : Nat) => (jmin s0.2.1 16).toNat - i) 0 (by have := jmin_z s0.2.1 16; omega) rfl rfl ?_
        intro i I_12 ih_13
        have hjm := jmin_z s0.2.1 16
        refine v_iload_n (j := 0) (x := jI (i : Int)) G dX8_map_42 rfl rfl ?_
        refine v_aload_n (j := 1) (x := a 44) G dX8_map_43 rfl rfl ?_
        refine v_ciP (w2 := (fun _ => (gS  a ks ++ gW cI (fun i => a (1 + i)) wd ++ gG cI (fun i => a (31 + i)) (glS wd 0 gl) ++ gI cI a (cLt wd 0) ++ gF cI a fd ++ gH cS a  ++ gX cL (fun i => a (44 + i)) (s0.1, s0.2.1, (cpL (fun j_ => nW s0.1 (jL (cLt wd 0 j_))) s0.2.2 i)) ++ gX cL (fun i => a (46 + i)) s1 ++ gX cL (fun i => a (48 + i)) s2 ++ gX cL (fun i => a (50 + i)) s3))) (wr := (gS  a ks ++ gW cI (fun i => a (1 + i)) wd ++ gG cI (fun i => a (31 + i)) (glS wd 0 gl) ++ gI cI a (cLt wd 0) ++ gF cI a fd ++ gH cS a  ++ gX cL (fun i => a (46 + i)) s1 ++ gX cL (fun i => a (48 + i)) s2 ++ gX cL (fun i => a (50 + i)) s3)) G (rn_V (As := []) (rest := [.int (jI (i : Int))]) (q0 := 0) G (c_X3_places (sx := (s0.1, s0.2.1, cpL (fun j_ => nW s0.1 (jL (cLt wd 0 j_))) s0.2.2 i)) (b := fun i => a (44 + i)) (hx := ⟨hx0.1, hx0.2⟩)) gX8_map_X3_places rfl hdX3_places ⟨rfl, rfl, Nat.le_of_ble_eq_true rfl, Nat.le_of_ble_eq_true rfl⟩ rfl rfl (Nat.le_of_ble_eq_true rfl) ⟨Nat.zero_le _, Nat.zero_le _⟩ rfl rfl dX8_map_44) [19, 20] [0, 1, 2, 3, 4, 5, 6, 7, 8, 9, 10, 11, 12, 13, 14, 15, 16, 17, 18, 21, 22, 23, 24, 25, 26] [0, 1, 2, 3, 4, 5, 6, 7, 8, 9, 10, 11, 12, 13, 14, 15, 16, 17, 18, 25, 26, 19, 20, 21, 22, 23, 24] rfl rfl (by decide) (fun _ => rfl) (fun r_14 u_16 e_15 => ?_)
        have e_15 : r_14 = jI (jmin s0.2.1 16) := e_15
        subst e_15
        refine v_world (ws' := (gS  a ks ++ gW cI (fun i => a (1 + i)) wd ++ gG cI (fun i => a (31 + i)) (glS wd 0 gl) ++ gI cI a (cLt wd 0) ++ gF cI a fd ++ gH cS a  ++ gX cL (fun i => a (44 + i)) (s0.1, s0.2.1, (cpL (fun j_ => nW s0.1 (jL (cLt wd 0 j_))) s0.2.2 i)) ++ gX cL (fun i => a (46 + i)) s1 ++ gX cL (fun i => a (48 + i)) s2 ++ gX cL (fun i => a (50 + i)) s3)) rfl ?_
        refine v_icmp_ge (a := (i : Int)) (b := jmin s0.2.1 16) (tgt := 68) G dX8_map_47 (by decide) (by omega) (fun c_17 => ?_) (fun c_17 => ?_)
        · skip
          obtain rfl : i = (jmin s0.2.1 16).toNat := by omega
          refine v_aload_n (j := 1) (x := a 44) G dX8_map_68 rfl rfl ?_
          refine v_ciP (w2 := (fun _ => (gS  a ks ++ gW cI (fun i => a (1 + i)) wd ++ gG cI (fun i => a (31 + i)) (glS wd 0 gl) ++ gI cI a (cLt wd 0) ++ gF cI a fd ++ gH cS a  ++ gX cL (fun i => a (44 + i)) (s0.1, s0.2.1, (cpL (fun j_ => nW s0.1 (jL (cLt wd 0 j_))) s0.2.2 ((jmin s0.2.1 16).toNat))) ++ gX cL (fun i => a (46 + i)) s1 ++ gX cL (fun i => a (48 + i)) s2 ++ gX cL (fun i => a (50 + i)) s3))) (wr := (gS  a ks ++ gW cI (fun i => a (1 + i)) wd ++ gG cI (fun i => a (31 + i)) (glS wd 0 gl) ++ gI cI a (cLt wd 0) ++ gF cI a fd ++ gH cS a  ++ gX cL (fun i => a (46 + i)) s1 ++ gX cL (fun i => a (48 + i)) s2 ++ gX cL (fun i => a (50 + i)) s3)) G (rn_V (As := []) (rest := []) (q0 := 0) G (c_X3_places (sx := (s0.1, s0.2.1, (cpL (fun j_ => nW s0.1 (jL (cLt wd 0 j_))) s0.2.2 ((jmin s0.2.1 16).toNat)))) (b := fun i => a (44 + i)) (hx := ⟨hx0.1, hx0.2⟩)) gX8_map_X3_places rfl hdX3_places ⟨rfl, rfl, Nat.le_of_ble_eq_true rfl, Nat.le_of_ble_eq_true rfl⟩ rfl rfl (Nat.le_of_ble_eq_true rfl) ⟨Nat.zero_le _, Nat.zero_le _⟩ rfl rfl dX8_map_69) [19, 20] [0, 1, 2, 3, 4, 5, 6, 7, 8, 9, 10, 11, 12, 13, 14, 15, 16, 17, 18, 21, 22, 23, 24, 25, 26] [0, 1, 2, 3, 4, 5, 6, 7, 8, 9, 10, 11, 12, 13, 14, 15, 16, 17, 18, 25, 26, 19, 20, 21, 22, 23, 24] rfl rfl (by decide) (fun _ => rfl) (fun r_18 u_20 e_19 => ?_)
          have e_19 : r_18 = jI (jmin s0.2.1 16) := e_19
          subst e_19
          refine v_world (ws' := (gS  a ks ++ gW cI (fun i => a (1 + i)) wd ++ gG cI (fun i => a (31 + i)) (glS wd 0 gl) ++ gI cI a (cLt wd 0) ++ gF cI a fd ++ gH cS a  ++ gX cL (fun i => a (44 + i)) (s0.1, s0.2.1, (cpL (fun j_ => nW s0.1 (jL (cLt wd 0 j_))) s0.2.2 ((jmin s0.2.1 16).toNat))) ++ gX cL (fun i => a (46 + i)) s1 ++ gX cL (fun i => a (48 + i)) s2 ++ gX cL (fun i => a (50 + i)) s3)) rfl ?_
          exact v_iret G (fd, (glS wd 0 gl), cLt wd 0, (s0.1, s0.2.1, (cpL (fun j_ => nW s0.1 (jL (cLt wd 0 j_))) s0.2.2 ((jmin s0.2.1 16).toNat))), s1, s2, s3) (by first | exact Or.inr (Or.inl ⟨(by omega), (by first | rfl | exact congrArg jI (by omega)), rfl, rfl, rfl, rfl, rfl⟩) | exact Or.inr (Or.inr (Or.inl ⟨(by omega), (by first | rfl | exact congrArg jI (by omega)), rfl, rfl, rfl, rfl, rfl⟩))) rfl dX8_map_72
        · skip
          refine v_aload_n (j := 1) (x := a 44) G dX8_map_50 rfl rfl ?_
          refine v_iload_n (j := 0) (x := jI (i : Int)) G dX8_map_51 rfl rfl ?_
          refine v_aload_n (j := 2) (x := a 0) G dX8_map_52 rfl rfl ?_
          refine v_get (q0 := 0) (k := 10) (v := .ref (a 58)) G k_X8 rfl rfl (by decide) q_2 rfl rfl dX8_map_53 ?_
          refine v_iload_n (j := 0) (x := jI (i : Int)) G dX8_map_56 rfl rfl ?_
          have hli := cLt_r hw (n := 0) (p := (i : Int)) (by omega) (by omega) (by omega)
          refine v_iald (q0 := 16) (t0 := 0) (g := cLt wd 0) (z := (i : Int)) G rfl rfl (by omega) dX8_map_57 ?_
          refine v_i2l (v := jL ((cLt wd 0) (i : Int))) G dX8_map_58 (jI_i2l (by omega)) ?_
          refine v_cvP (w2 := (fun _ => (gS  a ks ++ gW cI (fun i => a (1 + i)) wd ++ gG cI (fun i => a (31 + i)) (glS wd 0 gl) ++ gI cI a (cLt wd 0) ++ gF cI a fd ++ gH cS a  ++ gX cL (fun i => a (44 + i)) (s0.1, s0.2.1, uL (cpL (fun j_ => nW s0.1 (jL (cLt wd 0 j_))) s0.2.2 i) (i : Int) (nW s0.1 (jL ((cLt wd 0) (i : Int))))) ++ gX cL (fun i => a (46 + i)) s1 ++ gX cL (fun i => a (48 + i)) s2 ++ gX cL (fun i => a (50 + i)) s3))) (wr := (gS  a ks ++ gW cI (fun i => a (1 + i)) wd ++ gG cI (fun i => a (31 + i)) (glS wd 0 gl) ++ gI cI a (cLt wd 0) ++ gF cI a fd ++ gH cS a  ++ gX cL (fun i => a (46 + i)) s1 ++ gX cL (fun i => a (48 + i)) s2 ++ gX cL (fun i => a (50 + i)) s3)) G (rn_V (As := [.int (jI (i : Int)), .long (jL ((cLt wd 0) (i : Int)))]) (rest := []) (q0 := 0) G (c_X3_put (i := (i : Int)) (v := jL ((cLt wd 0) (i : Int))) (sx := (s0.1, s0.2.1, (cpL (fun j_ => nW s0.1 (jL (cLt wd 0 j_))) s0.2.2 i))) (b := fun i => a (44 + i)) (hx := ⟨hx0.1, hx0.2⟩) (hi := (by omega))) gX8_map_X3_put rfl hdX3_put ⟨rfl, rfl, Nat.le_of_ble_eq_true rfl, Nat.le_of_ble_eq_true rfl⟩ rfl rfl (Nat.le_of_ble_eq_true rfl) ⟨Nat.zero_le _, Nat.zero_le _⟩ rfl rfl dX8_map_59) [19, 20] [0, 1, 2, 3, 4, 5, 6, 7, 8, 9, 10, 11, 12, 13, 14, 15, 16, 17, 18, 21, 22, 23, 24, 25, 26] [0, 1, 2, 3, 4, 5, 6, 7, 8, 9, 10, 11, 12, 13, 14, 15, 16, 17, 18, 25, 26, 19, 20, 21, 22, 23, 24] rfl rfl (by decide) (fun _ => rfl) (fun u_23 e_22 => ?_)
          refine v_world (ws' := (gS  a ks ++ gW cI (fun i => a (1 + i)) wd ++ gG cI (fun i => a (31 + i)) (glS wd 0 gl) ++ gI cI a (cLt wd 0) ++ gF cI a fd ++ gH cS a  ++ gX cL (fun i => a (44 + i)) (s0.1, s0.2.1, uL (cpL (fun j_ => nW s0.1 (jL (cLt wd 0 j_))) s0.2.2 i) (i : Int) (nW s0.1 (jL ((cLt wd 0) (i : Int))))) ++ gX cL (fun i => a (46 + i)) s1 ++ gX cL (fun i => a (48 + i)) s2 ++ gX cL (fun i => a (50 + i)) s3)) rfl ?_
          refine v_cellL (q0 := 20) (g := uL (cpL (fun j_ => nW s0.1 (jL (cLt wd 0 j_))) s0.2.2 i) (i : Int) (nW s0.1 (jL ((cLt wd 0) (i : Int))))) (g' := cpL (fun j_ => nW s0.1 (jL (cLt wd 0 j_))) s0.2.2 (i + 1)) (ws' := (gS  a ks ++ gW cI (fun i => a (1 + i)) wd ++ gG cI (fun i => a (31 + i)) (glS wd 0 gl) ++ gI cI a (cLt wd 0) ++ gF cI a fd ++ gH cS a  ++ gX cL (fun i => a (44 + i)) (s0.1, s0.2.1, cpL (fun j_ => nW s0.1 (jL (cLt wd 0 j_))) s0.2.2 (i + 1)) ++ gX cL (fun i => a (46 + i)) s1 ++ gX cL (fun i => a (48 + i)) s2 ++ gX cL (fun i => a (50 + i)) s3)) rfl (fun j h0 _ => cpL_s (fun j_ => nW s0.1 (jL (cLt wd 0 j_))) s0.2.2 i j h0) rfl ?_
          refine v_iinc (k := 0) (z := (i : Int)) (z' := ((i + 1 : Nat) : Int)) (lv' := [(3, .int (jI ((i + 1 : Nat) : Int))), (2, .ref (a 44)), (0, .ref (a 0)), (1, .int (jI 0))]) G dX8_map_62 rfl (by omega) (by decide) rfl ?_
          refine v_goto (tgt := 42) G dX8_map_65 (by decide) ?_
          exact ih_13 (i + 1) (by omega) (by omega)
      · skip
        refine v_aload_n (j := 1) (x := a 0) G dX8_map_28 rfl rfl ?_
        refine v_ldcw (z := (-1000000006)) G q_3 (by decide) dX8_map_29 ?_
        refine v_ciP (w2 := (fun _ => (gS  a ks ++ gW cI (fun i => a (1 + i)) wd ++ gG cI (fun i => a (31 + i)) gl ++ gI cI a li ++ gF cI a (uI fd 5 (fd 5 + 1)) ++ gH cS a  ++ gX cL (fun i => a (44 + i)) s0 ++ gX cL (fun i => a (46 + i)) s1 ++ gX cL (fun i => a (48 + i)) s2 ++ gX cL (fun i => a (50 + i)) s3))) (wr := (gW cI (fun i => a (1 + i)) wd ++ gG cI (fun i => a (31 + i)) gl ++ gI cI a li ++ gH cS a  ++ gX cL (fun i => a (44 + i)) s0 ++ gX cL (fun i => a (46 + i)) s1 ++ gX cL (fun i => a (48 + i)) s2 ++ gX cL (fun i => a (50 + i)) s3)) G (rn_V (As := [.int (jI (-1000000006))]) (rest := []) (q0 := 0) G (c_X8_found_5 (ks := ks) (fd := fd) (a := a) ) gX8_map_X8_found rfl hdX8_found ⟨rfl, rfl, Nat.le_of_ble_eq_true rfl, Nat.le_of_ble_eq_true rfl⟩ rfl rfl (Nat.le_of_ble_eq_true rfl) ⟨Nat.zero_le _, Nat.zero_le _⟩ rfl rfl dX8_map_32) [0, 17] [1, 2, 3, 4, 5, 6, 7, 8, 9, 10, 11, 12, 13, 14, 15, 16, 18, 19, 20, 21, 22, 23, 24, 25, 26] [25, 0, 1, 2, 3, 4, 5, 6, 7, 8, 9, 10, 11, 12, 13, 14, 15, 26, 16, 17, 18, 19, 20, 21, 22, 23, 24] rfl rfl (by decide) (fun _ => rfl) (fun r_24 u_26 e_25 => ?_)
        have e_25 : r_24 = jI (-1000000006) := e_25
        subst e_25
        refine v_world (ws' := (gS  a ks ++ gW cI (fun i => a (1 + i)) wd ++ gG cI (fun i => a (31 + i)) gl ++ gI cI a li ++ gF cI a (uI fd 5 (fd 5 + 1)) ++ gH cS a  ++ gX cL (fun i => a (44 + i)) s0 ++ gX cL (fun i => a (46 + i)) s1 ++ gX cL (fun i => a (48 + i)) s2 ++ gX cL (fun i => a (50 + i)) s3)) rfl ?_
        exact v_iret G (uI fd 5 (fd 5 + 1), gl, li, s0, s1, s2, s3) (by first | exact Or.inr (Or.inl ⟨(by omega), (by first | rfl | exact congrArg jI (by omega)), rfl, rfl, rfl, rfl, rfl⟩) | exact Or.inr (Or.inr (Or.inl ⟨(by omega), (by first | rfl | exact congrArg jI (by omega)), rfl, rfl, rfl, rfl, rfl⟩))) rfl dX8_map_35
    · skip
      refine v_aload_n (j := 0) (x := a 0) G dX8_map_14 rfl rfl ?_
      refine v_get (q0 := 0) (k := 7) (v := .ref (a 43)) G k_X8 rfl rfl (by decide) q_1 rfl rfl dX8_map_15 ?_
      refine v_iload_n (j := 1) (x := jI 1) G dX8_map_18 rfl rfl ?_
      refine v_aald (q0 := 18) (t0 := 3) (y := a 46) (z := 1) G rfl rfl (by omega) rfl dX8_map_19 ?_
      refine v_astore_n (lv' := [(2, .ref (a 46)), (0, .ref (a 0)), (1, .int (jI 1))]) G dX8_map_20 rfl (by decide) rfl ?_
      refine v_aload_n (j := 0) (x := a 46) G dX8_map_21 rfl rfl ?_
      refine v_ciP (w2 := (fun _ => (gS  a ks ++ gW cI (fun i => a (1 + i)) wd ++ gG cI (fun i => a (31 + i)) gl ++ gI cI a li ++ gF cI a fd ++ gH cS a  ++ gX cL (fun i => a (44 + i)) s0 ++ gX cL (fun i => a (46 + i)) s1 ++ gX cL (fun i => a (48 + i)) s2 ++ gX cL (fun i => a (50 + i)) s3))) (wr := (gS  a ks ++ gW cI (fun i => a (1 + i)) wd ++ gG cI (fun i => a (31 + i)) gl ++ gI cI a li ++ gF cI a fd ++ gH cS a  ++ gX cL (fun i => a (44 + i)) s0 ++ gX cL (fun i => a (48 + i)) s2 ++ gX cL (fun i => a (50 + i)) s3)) G (rn_V (As := []) (rest := []) (q0 := 0) G (c_X3_isMissing (sx := s1) (b := fun i => a (46 + i)) (hx := ⟨hx1.1, hx1.2⟩)) gX8_map_X3_isMissing rfl hdX3_isMissing ⟨rfl, rfl, Nat.le_of_ble_eq_true rfl, Nat.le_of_ble_eq_true rfl⟩ rfl rfl (Nat.le_of_ble_eq_true rfl) ⟨Nat.zero_le _, Nat.zero_le _⟩ rfl rfl dX8_map_22) [21, 22] [0, 1, 2, 3, 4, 5, 6, 7, 8, 9, 10, 11, 12, 13, 14, 15, 16, 17, 18, 19, 20, 23, 24, 25, 26] [0, 1, 2, 3, 4, 5, 6, 7, 8, 9, 10, 11, 12, 13, 14, 15, 16, 17, 18, 19, 20, 25, 26, 21, 22, 23, 24] rfl rfl (by decide) (fun _ => rfl) (fun r_27 u_29 e_28 => ?_)
      have e_28 : r_27 = jI (b2 (s1.1 = 0)) := e_28
      subst e_28
      refine v_world (ws' := (gS  a ks ++ gW cI (fun i => a (1 + i)) wd ++ gG cI (fun i => a (31 + i)) gl ++ gI cI a li ++ gF cI a fd ++ gH cS a  ++ gX cL (fun i => a (44 + i)) s0 ++ gX cL (fun i => a (46 + i)) s1 ++ gX cL (fun i => a (48 + i)) s2 ++ gX cL (fun i => a (50 + i)) s3)) rfl ?_
      refine v_ifb_eq (P := s1.1 = 0) (tgt := 36) G dX8_map_25 (by decide) (fun c_30 => ?_) (fun c_30 => ?_)
      · skip
        refine v_aload_n (j := 1) (x := a 0) G dX8_map_36 rfl rfl ?_
        refine v_cvP (w2 := (fun _ => (gS  a ks ++ gW cI (fun i => a (1 + i)) wd ++ gG cI (fun i => a (31 + i)) (glS wd 0 gl) ++ gI cI a (cLt wd 0) ++ gF cI a fd ++ gH cS a  ++ gX cL (fun i => a (44 + i)) s0 ++ gX cL (fun i => a (46 + i)) s1 ++ gX cL (fun i => a (48 + i)) s2 ++ gX cL (fun i => a (50 + i)) s3))) (wr := (gF cI a fd ++ gH cS a  ++ gX cL (fun i => a (44 + i)) s0 ++ gX cL (fun i => a (46 + i)) s1 ++ gX cL (fun i => a (48 + i)) s2 ++ gX cL (fun i => a (50 + i)) s3)) G (rn_V (As := []) (rest := []) (q0 := 0) G (c_X8_lightAll (ks := ks) (wd := wd) (gl := gl) (li := li) (a := a) (hw := hw)) gX8_map_X8_lightAll rfl hdX8_lightAll ⟨rfl, rfl, Nat.le_of_ble_eq_true rfl, Nat.le_of_ble_eq_true rfl⟩ rfl rfl (Nat.le_of_ble_eq_true rfl) ⟨Nat.zero_le _, Nat.zero_le _⟩ rfl rfl dX8_map_37) [0, 1, 2, 3, 4, 5, 6, 7, 8, 9, 10, 11, 12, 13, 14, 15, 16] [17, 18, 19, 20, 21, 22, 23, 24, 25, 26] [10, 11, 12, 13, 14, 15, 16, 17, 18, 19, 20, 21, 22, 23, 24, 25, 26, 0, 1, 2, 3, 4, 5, 6, 7, 8, 9] rfl rfl (by decide) (fun _ => rfl) (fun u_33 e_32 => ?_)
        refine v_world (ws' := (gS  a ks ++ gW cI (fun i => a (1 + i)) wd ++ gG cI (fun i => a (31 + i)) (glS wd 0 gl) ++ gI cI a (cLt wd 0) ++ gF cI a fd ++ gH cS a  ++ gX cL (fun i => a (44 + i)) s0 ++ gX cL (fun i => a (46 + i)) s1 ++ gX cL (fun i => a (48 + i)) s2 ++ gX cL (fun i => a (50 + i)) s3)) rfl ?_
        refine v_iconst G dX8_map_40 ?_
        refine v_istore_n (lv' := [(3, .int (jI 0)), (2, .ref (a 46)), (0, .ref (a 0)), (1, .int (jI 1))]) G dX8_map_41 rfl (by decide) rfl ?_
        refine v_cellL (q0 := 22) (g := s1.2.2) (g' := cpL (fun j_ => nW s1.1 (jL (cLt wd 0 j_))) s1.2.2 0) (ws' := (gS  a ks ++ gW cI (fun i => a (1 + i)) wd ++ gG cI (fun i => a (31 + i)) (glS wd 0 gl) ++ gI cI a (cLt wd 0) ++ gF cI a fd ++ gH cS a  ++ gX cL (fun i => a (44 + i)) s0 ++ gX cL (fun i => a (46 + i)) (s1.1, s1.2.1, cpL (fun j_ => nW s1.1 (jL (cLt wd 0 j_))) s1.2.2 0) ++ gX cL (fun i => a (48 + i)) s2 ++ gX cL (fun i => a (50 + i)) s3)) rfl (fun j h0 _ => by unfold cpL; rw [if_neg (by omega)]) rfl ?_
        refine v_locs (lv' := [(3, .int (jI 0)), (2, .ref (a 46)), (0, .ref (a 0)), (1, .int (jI 1))]) [0, 1, 2, 3] rfl ?_
        refine v_loop1 (fun (i : Nat) => [(3, .int (jI (i : Int))), (2, .ref (a 46)), (0, .ref (a 0)), (1, .int (jI 1))]) (fun (i : Nat) => (gS  a ks ++ gW cI (fun i => a (1 + i)) wd ++ gG cI (fun i => a (31 + i)) (glS wd 0 gl) ++ gI cI a (cLt wd 0) ++ gF cI a fd ++ gH cS a  ++ gX cL (fun i => a (44 + i)) s0 ++ gX cL (fun i => a (46 + i)) (s1.1, s1.2.1, cpL (fun j_ => nW s1.1 (jL (cLt wd 0 j_))) s1.2.2 i) ++ gX cL (fun i => a (48 + i)) s2 ++ gX cL (fun i => a (50 + i)) s3)) (fun (i : Nat) => (i : Int) ≤ (jmin s1.2.1 16)) (fun (i : Nat) => (jmin s1.2.1 16).toNat - i) 0 (by have := jmin_z s1.2.1 16; omega) rfl rfl ?_
        intro i I_34 ih_35
        have hjm := jmin_z s1.2.1 16
        refine v_iload_n (j := 0) (x := jI (i : Int)) G dX8_map_42 rfl rfl ?_
        refine v_aload_n (j := 1) (x := a 46) G dX8_map_43 rfl rfl ?_
        refine v_ciP (w2 := (fun _ => (gS  a ks ++ gW cI (fun i => a (1 + i)) wd ++ gG cI (fun i => a (31 + i)) (glS wd 0 gl) ++ gI cI a (cLt wd 0) ++ gF cI a fd ++ gH cS a  ++ gX cL (fun i => a (44 + i)) s0 ++ gX cL (fun i => a (46 + i)) (s1.1, s1.2.1, (cpL (fun j_ => nW s1.1 (jL (cLt wd 0 j_))) s1.2.2 i)) ++ gX cL (fun i => a (48 + i)) s2 ++ gX cL (fun i => a (50 + i)) s3))) (wr := (gS  a ks ++ gW cI (fun i => a (1 + i)) wd ++ gG cI (fun i => a (31 + i)) (glS wd 0 gl) ++ gI cI a (cLt wd 0) ++ gF cI a fd ++ gH cS a  ++ gX cL (fun i => a (44 + i)) s0 ++ gX cL (fun i => a (48 + i)) s2 ++ gX cL (fun i => a (50 + i)) s3)) G (rn_V (As := []) (rest := [.int (jI (i : Int))]) (q0 := 0) G (c_X3_places (sx := (s1.1, s1.2.1, cpL (fun j_ => nW s1.1 (jL (cLt wd 0 j_))) s1.2.2 i)) (b := fun i => a (46 + i)) (hx := ⟨hx1.1, hx1.2⟩)) gX8_map_X3_places rfl hdX3_places ⟨rfl, rfl, Nat.le_of_ble_eq_true rfl, Nat.le_of_ble_eq_true rfl⟩ rfl rfl (Nat.le_of_ble_eq_true rfl) ⟨Nat.zero_le _, Nat.zero_le _⟩ rfl rfl dX8_map_44) [21, 22] [0, 1, 2, 3, 4, 5, 6, 7, 8, 9, 10, 11, 12, 13, 14, 15, 16, 17, 18, 19, 20, 23, 24, 25, 26] [0, 1, 2, 3, 4, 5, 6, 7, 8, 9, 10, 11, 12, 13, 14, 15, 16, 17, 18, 19, 20, 25, 26, 21, 22, 23, 24] rfl rfl (by decide) (fun _ => rfl) (fun r_36 u_38 e_37 => ?_)
        have e_37 : r_36 = jI (jmin s1.2.1 16) := e_37
        subst e_37
        refine v_world (ws' := (gS  a ks ++ gW cI (fun i => a (1 + i)) wd ++ gG cI (fun i => a (31 + i)) (glS wd 0 gl) ++ gI cI a (cLt wd 0) ++ gF cI a fd ++ gH cS a  ++ gX cL (fun i => a (44 + i)) s0 ++ gX cL (fun i => a (46 + i)) (s1.1, s1.2.1, (cpL (fun j_ => nW s1.1 (jL (cLt wd 0 j_))) s1.2.2 i)) ++ gX cL (fun i => a (48 + i)) s2 ++ gX cL (fun i => a (50 + i)) s3)) rfl ?_
        refine v_icmp_ge (a := (i : Int)) (b := jmin s1.2.1 16) (tgt := 68) G dX8_map_47 (by decide) (by omega) (fun c_39 => ?_) (fun c_39 => ?_)
        · skip
          obtain rfl : i = (jmin s1.2.1 16).toNat := by omega
          refine v_aload_n (j := 1) (x := a 46) G dX8_map_68 rfl rfl ?_
          refine v_ciP (w2 := (fun _ => (gS  a ks ++ gW cI (fun i => a (1 + i)) wd ++ gG cI (fun i => a (31 + i)) (glS wd 0 gl) ++ gI cI a (cLt wd 0) ++ gF cI a fd ++ gH cS a  ++ gX cL (fun i => a (44 + i)) s0 ++ gX cL (fun i => a (46 + i)) (s1.1, s1.2.1, (cpL (fun j_ => nW s1.1 (jL (cLt wd 0 j_))) s1.2.2 ((jmin s1.2.1 16).toNat))) ++ gX cL (fun i => a (48 + i)) s2 ++ gX cL (fun i => a (50 + i)) s3))) (wr := (gS  a ks ++ gW cI (fun i => a (1 + i)) wd ++ gG cI (fun i => a (31 + i)) (glS wd 0 gl) ++ gI cI a (cLt wd 0) ++ gF cI a fd ++ gH cS a  ++ gX cL (fun i => a (44 + i)) s0 ++ gX cL (fun i => a (48 + i)) s2 ++ gX cL (fun i => a (50 + i)) s3)) G (rn_V (As := []) (rest := []) (q0 := 0) G (c_X3_places (sx := (s1.1, s1.2.1, (cpL (fun j_ => nW s1.1 (jL (cLt wd 0 j_))) s1.2.2 ((jmin s1.2.1 16).toNat)))) (b := fun i => a (46 + i)) (hx := ⟨hx1.1, hx1.2⟩)) gX8_map_X3_places rfl hdX3_places ⟨rfl, rfl, Nat.le_of_ble_eq_true rfl, Nat.le_of_ble_eq_true rfl⟩ rfl rfl (Nat.le_of_ble_eq_true rfl) ⟨Nat.zero_le _, Nat.zero_le _⟩ rfl rfl dX8_map_69) [21, 22] [0, 1, 2, 3, 4, 5, 6, 7, 8, 9, 10, 11, 12, 13, 14, 15, 16, 17, 18, 19, 20, 23, 24, 25, 26] [0, 1, 2, 3, 4, 5, 6, 7, 8, 9, 10, 11, 12, 13, 14, 15, 16, 17, 18, 19, 20, 25, 26, 21, 22, 23, 24] rfl rfl (by decide) (fun _ => rfl) (fun r_40 u_42 e_41 => ?_)
          have e_41 : r_40 = jI (jmin s1.2.1 16) := e_41
          subst e_41
          refine v_world (ws' := (gS  a ks ++ gW cI (fun i => a (1 + i)) wd ++ gG cI (fun i => a (31 + i)) (glS wd 0 gl) ++ gI cI a (cLt wd 0) ++ gF cI a fd ++ gH cS a  ++ gX cL (fun i => a (44 + i)) s0 ++ gX cL (fun i => a (46 + i)) (s1.1, s1.2.1, (cpL (fun j_ => nW s1.1 (jL (cLt wd 0 j_))) s1.2.2 ((jmin s1.2.1 16).toNat))) ++ gX cL (fun i => a (48 + i)) s2 ++ gX cL (fun i => a (50 + i)) s3)) rfl ?_
          exact v_iret G (fd, (glS wd 0 gl), cLt wd 0, s0, (s1.1, s1.2.1, (cpL (fun j_ => nW s1.1 (jL (cLt wd 0 j_))) s1.2.2 ((jmin s1.2.1 16).toNat))), s2, s3) (by first | exact Or.inr (Or.inr (Or.inr (Or.inl ⟨(by omega), (by first | rfl | exact congrArg jI (by omega)), rfl, rfl, rfl, rfl, rfl⟩))) | exact Or.inr (Or.inr (Or.inr (Or.inr (Or.inl ⟨(by omega), (by first | rfl | exact congrArg jI (by omega)), rfl, rfl, rfl, rfl, rfl⟩))))) rfl dX8_map_72
        · skip
          refine v_aload_n (j := 1) (x := a 46) G dX8_map_50 rfl rfl ?_
          refine v_iload_n (j := 0) (x := jI (i : Int)) G dX8_map_51 rfl rfl ?_
          refine v_aload_n (j := 2) (x := a 0) G dX8_map_52 rfl rfl ?_
          refine v_get (q0 := 0) (k := 10) (v := .ref (a 58)) G k_X8 rfl rfl (by decide) q_2 rfl rfl dX8_map_53 ?_
          refine v_iload_n (j := 0) (x := jI (i : Int)) G dX8_map_56 rfl rfl ?_
          have hli := cLt_r hw (n := 0) (p := (i : Int)) (by omega) (by omega) (by omega)
          refine v_iald (q0 := 16) (t0 := 0) (g := cLt wd 0) (z := (i : Int)) G rfl rfl (by omega) dX8_map_57 ?_
          refine v_i2l (v := jL ((cLt wd 0) (i : Int))) G dX8_map_58 (jI_i2l (by omega)) ?_
          refine v_cvP (w2 := (fun _ => (gS  a ks ++ gW cI (fun i => a (1 + i)) wd ++ gG cI (fun i => a (31 + i)) (glS wd 0 gl) ++ gI cI a (cLt wd 0) ++ gF cI a fd ++ gH cS a  ++ gX cL (fun i => a (44 + i)) s0 ++ gX cL (fun i => a (46 + i)) (s1.1, s1.2.1, uL (cpL (fun j_ => nW s1.1 (jL (cLt wd 0 j_))) s1.2.2 i) (i : Int) (nW s1.1 (jL ((cLt wd 0) (i : Int))))) ++ gX cL (fun i => a (48 + i)) s2 ++ gX cL (fun i => a (50 + i)) s3))) (wr := (gS  a ks ++ gW cI (fun i => a (1 + i)) wd ++ gG cI (fun i => a (31 + i)) (glS wd 0 gl) ++ gI cI a (cLt wd 0) ++ gF cI a fd ++ gH cS a  ++ gX cL (fun i => a (44 + i)) s0 ++ gX cL (fun i => a (48 + i)) s2 ++ gX cL (fun i => a (50 + i)) s3)) G (rn_V (As := [.int (jI (i : Int)), .long (jL ((cLt wd 0) (i : Int)))]) (rest := []) (q0 := 0) G (c_X3_put (i := (i : Int)) (v := jL ((cLt wd 0) (i : Int))) (sx := (s1.1, s1.2.1, (cpL (fun j_ => nW s1.1 (jL (cLt wd 0 j_))) s1.2.2 i))) (b := fun i => a (46 + i)) (hx := ⟨hx1.1, hx1.2⟩) (hi := (by omega))) gX8_map_X3_put rfl hdX3_put ⟨rfl, rfl, Nat.le_of_ble_eq_true rfl, Nat.le_of_ble_eq_true rfl⟩ rfl rfl (Nat.le_of_ble_eq_true rfl) ⟨Nat.zero_le _, Nat.zero_le _⟩ rfl rfl dX8_map_59) [21, 22] [0, 1, 2, 3, 4, 5, 6, 7, 8, 9, 10, 11, 12, 13, 14, 15, 16, 17, 18, 19, 20, 23, 24, 25, 26] [0, 1, 2, 3, 4, 5, 6, 7, 8, 9, 10, 11, 12, 13, 14, 15, 16, 17, 18, 19, 20, 25, 26, 21, 22, 23, 24] rfl rfl (by decide) (fun _ => rfl) (fun u_45 e_44 => ?_)
          refine v_world (ws' := (gS  a ks ++ gW cI (fun i => a (1 + i)) wd ++ gG cI (fun i => a (31 + i)) (glS wd 0 gl) ++ gI cI a (cLt wd 0) ++ gF cI a fd ++ gH cS a  ++ gX cL (fun i => a (44 + i)) s0 ++ gX cL (fun i => a (46 + i)) (s1.1, s1.2.1, uL (cpL (fun j_ => nW s1.1 (jL (cLt wd 0 j_))) s1.2.2 i) (i : Int) (nW s1.1 (jL ((cLt wd 0) (i : Int))))) ++ gX cL (fun i => a (48 + i)) s2 ++ gX cL (fun i => a (50 + i)) s3)) rfl ?_
          refine v_cellL (q0 := 22) (g := uL (cpL (fun j_ => nW s1.1 (jL (cLt wd 0 j_))) s1.2.2 i) (i : Int) (nW s1.1 (jL ((cLt wd 0) (i : Int))))) (g' := cpL (fun j_ => nW s1.1 (jL (cLt wd 0 j_))) s1.2.2 (i + 1)) (ws' := (gS  a ks ++ gW cI (fun i => a (1 + i)) wd ++ gG cI (fun i => a (31 + i)) (glS wd 0 gl) ++ gI cI a (cLt wd 0) ++ gF cI a fd ++ gH cS a  ++ gX cL (fun i => a (44 + i)) s0 ++ gX cL (fun i => a (46 + i)) (s1.1, s1.2.1, cpL (fun j_ => nW s1.1 (jL (cLt wd 0 j_))) s1.2.2 (i + 1)) ++ gX cL (fun i => a (48 + i)) s2 ++ gX cL (fun i => a (50 + i)) s3)) rfl (fun j h0 _ => cpL_s (fun j_ => nW s1.1 (jL (cLt wd 0 j_))) s1.2.2 i j h0) rfl ?_
          refine v_iinc (k := 0) (z := (i : Int)) (z' := ((i + 1 : Nat) : Int)) (lv' := [(3, .int (jI ((i + 1 : Nat) : Int))), (2, .ref (a 46)), (0, .ref (a 0)), (1, .int (jI 1))]) G dX8_map_62 rfl (by omega) (by decide) rfl ?_
          refine v_goto (tgt := 42) G dX8_map_65 (by decide) ?_
          exact ih_35 (i + 1) (by omega) (by omega)
      · skip
        refine v_aload_n (j := 1) (x := a 0) G dX8_map_28 rfl rfl ?_
        refine v_ldcw (z := (-1000000006)) G q_3 (by decide) dX8_map_29 ?_
        refine v_ciP (w2 := (fun _ => (gS  a ks ++ gW cI (fun i => a (1 + i)) wd ++ gG cI (fun i => a (31 + i)) gl ++ gI cI a li ++ gF cI a (uI fd 5 (fd 5 + 1)) ++ gH cS a  ++ gX cL (fun i => a (44 + i)) s0 ++ gX cL (fun i => a (46 + i)) s1 ++ gX cL (fun i => a (48 + i)) s2 ++ gX cL (fun i => a (50 + i)) s3))) (wr := (gW cI (fun i => a (1 + i)) wd ++ gG cI (fun i => a (31 + i)) gl ++ gI cI a li ++ gH cS a  ++ gX cL (fun i => a (44 + i)) s0 ++ gX cL (fun i => a (46 + i)) s1 ++ gX cL (fun i => a (48 + i)) s2 ++ gX cL (fun i => a (50 + i)) s3)) G (rn_V (As := [.int (jI (-1000000006))]) (rest := []) (q0 := 0) G (c_X8_found_5 (ks := ks) (fd := fd) (a := a) ) gX8_map_X8_found rfl hdX8_found ⟨rfl, rfl, Nat.le_of_ble_eq_true rfl, Nat.le_of_ble_eq_true rfl⟩ rfl rfl (Nat.le_of_ble_eq_true rfl) ⟨Nat.zero_le _, Nat.zero_le _⟩ rfl rfl dX8_map_32) [0, 17] [1, 2, 3, 4, 5, 6, 7, 8, 9, 10, 11, 12, 13, 14, 15, 16, 18, 19, 20, 21, 22, 23, 24, 25, 26] [25, 0, 1, 2, 3, 4, 5, 6, 7, 8, 9, 10, 11, 12, 13, 14, 15, 26, 16, 17, 18, 19, 20, 21, 22, 23, 24] rfl rfl (by decide) (fun _ => rfl) (fun r_46 u_48 e_47 => ?_)
        have e_47 : r_46 = jI (-1000000006) := e_47
        subst e_47
        refine v_world (ws' := (gS  a ks ++ gW cI (fun i => a (1 + i)) wd ++ gG cI (fun i => a (31 + i)) gl ++ gI cI a li ++ gF cI a (uI fd 5 (fd 5 + 1)) ++ gH cS a  ++ gX cL (fun i => a (44 + i)) s0 ++ gX cL (fun i => a (46 + i)) s1 ++ gX cL (fun i => a (48 + i)) s2 ++ gX cL (fun i => a (50 + i)) s3)) rfl ?_
        exact v_iret G (uI fd 5 (fd 5 + 1), gl, li, s0, s1, s2, s3) (by first | exact Or.inr (Or.inr (Or.inr (Or.inl ⟨(by omega), (by first | rfl | exact congrArg jI (by omega)), rfl, rfl, rfl, rfl, rfl⟩))) | exact Or.inr (Or.inr (Or.inr (Or.inr (Or.inl ⟨(by omega), (by first | rfl | exact congrArg jI (by omega)), rfl, rfl, rfl, rfl, rfl⟩))))) rfl dX8_map_35
    · skip
      refine v_aload_n (j := 0) (x := a 0) G dX8_map_14 rfl rfl ?_
      refine v_get (q0 := 0) (k := 7) (v := .ref (a 43)) G k_X8 rfl rfl (by decide) q_1 rfl rfl dX8_map_15 ?_
      refine v_iload_n (j := 1) (x := jI 2) G dX8_map_18 rfl rfl ?_
      refine v_aald (q0 := 18) (t0 := 3) (y := a 48) (z := 2) G rfl rfl (by omega) rfl dX8_map_19 ?_
      refine v_astore_n (lv' := [(2, .ref (a 48)), (0, .ref (a 0)), (1, .int (jI 2))]) G dX8_map_20 rfl (by decide) rfl ?_
      refine v_aload_n (j := 0) (x := a 48) G dX8_map_21 rfl rfl ?_
      refine v_ciP (w2 := (fun _ => (gS  a ks ++ gW cI (fun i => a (1 + i)) wd ++ gG cI (fun i => a (31 + i)) gl ++ gI cI a li ++ gF cI a fd ++ gH cS a  ++ gX cL (fun i => a (44 + i)) s0 ++ gX cL (fun i => a (46 + i)) s1 ++ gX cL (fun i => a (48 + i)) s2 ++ gX cL (fun i => a (50 + i)) s3))) (wr := (gS  a ks ++ gW cI (fun i => a (1 + i)) wd ++ gG cI (fun i => a (31 + i)) gl ++ gI cI a li ++ gF cI a fd ++ gH cS a  ++ gX cL (fun i => a (44 + i)) s0 ++ gX cL (fun i => a (46 + i)) s1 ++ gX cL (fun i => a (50 + i)) s3)) G (rn_V (As := []) (rest := []) (q0 := 0) G (c_X3_isMissing (sx := s2) (b := fun i => a (48 + i)) (hx := ⟨hx2.1, hx2.2⟩)) gX8_map_X3_isMissing rfl hdX3_isMissing ⟨rfl, rfl, Nat.le_of_ble_eq_true rfl, Nat.le_of_ble_eq_true rfl⟩ rfl rfl (Nat.le_of_ble_eq_true rfl) ⟨Nat.zero_le _, Nat.zero_le _⟩ rfl rfl dX8_map_22) [23, 24] [0, 1, 2, 3, 4, 5, 6, 7, 8, 9, 10, 11, 12, 13, 14, 15, 16, 17, 18, 19, 20, 21, 22, 25, 26] [0, 1, 2, 3, 4, 5, 6, 7, 8, 9, 10, 11, 12, 13, 14, 15, 16, 17, 18, 19, 20, 21, 22, 25, 26, 23, 24] rfl rfl (by decide) (fun _ => rfl) (fun r_49 u_51 e_50 => ?_)
      have e_50 : r_49 = jI (b2 (s2.1 = 0)) := e_50
      subst e_50
      refine v_world (ws' := (gS  a ks ++ gW cI (fun i => a (1 + i)) wd ++ gG cI (fun i => a (31 + i)) gl ++ gI cI a li ++ gF cI a fd ++ gH cS a  ++ gX cL (fun i => a (44 + i)) s0 ++ gX cL (fun i => a (46 + i)) s1 ++ gX cL (fun i => a (48 + i)) s2 ++ gX cL (fun i => a (50 + i)) s3)) rfl ?_
      refine v_ifb_eq (P := s2.1 = 0) (tgt := 36) G dX8_map_25 (by decide) (fun c_52 => ?_) (fun c_52 => ?_)
      · skip
        refine v_aload_n (j := 1) (x := a 0) G dX8_map_36 rfl rfl ?_
        refine v_cvP (w2 := (fun _ => (gS  a ks ++ gW cI (fun i => a (1 + i)) wd ++ gG cI (fun i => a (31 + i)) (glS wd 0 gl) ++ gI cI a (cLt wd 0) ++ gF cI a fd ++ gH cS a  ++ gX cL (fun i => a (44 + i)) s0 ++ gX cL (fun i => a (46 + i)) s1 ++ gX cL (fun i => a (48 + i)) s2 ++ gX cL (fun i => a (50 + i)) s3))) (wr := (gF cI a fd ++ gH cS a  ++ gX cL (fun i => a (44 + i)) s0 ++ gX cL (fun i => a (46 + i)) s1 ++ gX cL (fun i => a (48 + i)) s2 ++ gX cL (fun i => a (50 + i)) s3)) G (rn_V (As := []) (rest := []) (q0 := 0) G (c_X8_lightAll (ks := ks) (wd := wd) (gl := gl) (li := li) (a := a) (hw := hw)) gX8_map_X8_lightAll rfl hdX8_lightAll ⟨rfl, rfl, Nat.le_of_ble_eq_true rfl, Nat.le_of_ble_eq_true rfl⟩ rfl rfl (Nat.le_of_ble_eq_true rfl) ⟨Nat.zero_le _, Nat.zero_le _⟩ rfl rfl dX8_map_37) [0, 1, 2, 3, 4, 5, 6, 7, 8, 9, 10, 11, 12, 13, 14, 15, 16] [17, 18, 19, 20, 21, 22, 23, 24, 25, 26] [10, 11, 12, 13, 14, 15, 16, 17, 18, 19, 20, 21, 22, 23, 24, 25, 26, 0, 1, 2, 3, 4, 5, 6, 7, 8, 9] rfl rfl (by decide) (fun _ => rfl) (fun u_55 e_54 => ?_)
        refine v_world (ws' := (gS  a ks ++ gW cI (fun i => a (1 + i)) wd ++ gG cI (fun i => a (31 + i)) (glS wd 0 gl) ++ gI cI a (cLt wd 0) ++ gF cI a fd ++ gH cS a  ++ gX cL (fun i => a (44 + i)) s0 ++ gX cL (fun i => a (46 + i)) s1 ++ gX cL (fun i => a (48 + i)) s2 ++ gX cL (fun i => a (50 + i)) s3)) rfl ?_
        refine v_iconst G dX8_map_40 ?_
        refine v_istore_n (lv' := [(3, .int (jI 0)), (2, .ref (a 48)), (0, .ref (a 0)), (1, .int (jI 2))]) G dX8_map_41 rfl (by decide) rfl ?_
        refine v_cellL (q0 := 24) (g := s2.2.2) (g' := cpL (fun j_ => nW s2.1 (jL (cLt wd 0 j_))) s2.2.2 0) (ws' := (gS  a ks ++ gW cI (fun i => a (1 + i)) wd ++ gG cI (fun i => a (31 + i)) (glS wd 0 gl) ++ gI cI a (cLt wd 0) ++ gF cI a fd ++ gH cS a  ++ gX cL (fun i => a (44 + i)) s0 ++ gX cL (fun i => a (46 + i)) s1 ++ gX cL (fun i => a (48 + i)) (s2.1, s2.2.1, cpL (fun j_ => nW s2.1 (jL (cLt wd 0 j_))) s2.2.2 0) ++ gX cL (fun i => a (50 + i)) s3)) rfl (fun j h0 _ => by unfold cpL; rw [if_neg (by omega)]) rfl ?_
        refine v_locs (lv' := [(3, .int (jI 0)), (2, .ref (a 48)), (0, .ref (a 0)), (1, .int (jI 2))]) [0, 1, 2, 3] rfl ?_
        refine v_loop1 (fun (i : Nat) => [(3, .int (jI (i : Int))), (2, .ref (a 48)), (0, .ref (a 0)), (1, .int (jI 2))]) (fun (i : Nat) => (gS  a ks ++ gW cI (fun i => a (1 + i)) wd ++ gG cI (fun i => a (31 + i)) (glS wd 0 gl) ++ gI cI a (cLt wd 0) ++ gF cI a fd ++ gH cS a  ++ gX cL (fun i => a (44 + i)) s0 ++ gX cL (fun i => a (46 + i)) s1 ++ gX cL (fun i => a (48 + i)) (s2.1, s2.2.1, cpL (fun j_ => nW s2.1 (jL (cLt wd 0 j_))) s2.2.2 i) ++ gX cL (fun i => a (50 + i)) s3)) (fun (i : Nat) => (i : Int) ≤ (jmin s2.2.1 16)) (fun (i : Nat) => (jmin s2.2.1 16).toNat - i) 0 (by have := jmin_z s2.2.1 16; omega) rfl rfl ?_
        intro i I_56 ih_57
        have hjm := jmin_z s2.2.1 16
        refine v_iload_n (j := 0) (x := jI (i : Int)) G dX8_map_42 rfl rfl ?_
        refine v_aload_n (j := 1) (x := a 48) G dX8_map_43 rfl rfl ?_
        refine v_ciP (w2 := (fun _ => (gS  a ks ++ gW cI (fun i => a (1 + i)) wd ++ gG cI (fun i => a (31 + i)) (glS wd 0 gl) ++ gI cI a (cLt wd 0) ++ gF cI a fd ++ gH cS a  ++ gX cL (fun i => a (44 + i)) s0 ++ gX cL (fun i => a (46 + i)) s1 ++ gX cL (fun i => a (48 + i)) (s2.1, s2.2.1, (cpL (fun j_ => nW s2.1 (jL (cLt wd 0 j_))) s2.2.2 i)) ++ gX cL (fun i => a (50 + i)) s3))) (wr := (gS  a ks ++ gW cI (fun i => a (1 + i)) wd ++ gG cI (fun i => a (31 + i)) (glS wd 0 gl) ++ gI cI a (cLt wd 0) ++ gF cI a fd ++ gH cS a  ++ gX cL (fun i => a (44 + i)) s0 ++ gX cL (fun i => a (46 + i)) s1 ++ gX cL (fun i => a (50 + i)) s3)) G (rn_V (As := []) (rest := [.int (jI (i : Int))]) (q0 := 0) G (c_X3_places (sx := (s2.1, s2.2.1, cpL (fun j_ => nW s2.1 (jL (cLt wd 0 j_))) s2.2.2 i)) (b := fun i => a (48 + i)) (hx := ⟨hx2.1, hx2.2⟩)) gX8_map_X3_places rfl hdX3_places ⟨rfl, rfl, Nat.le_of_ble_eq_true rfl, Nat.le_of_ble_eq_true rfl⟩ rfl rfl (Nat.le_of_ble_eq_true rfl) ⟨Nat.zero_le _, Nat.zero_le _⟩ rfl rfl dX8_map_44) [23, 24] [0, 1, 2, 3, 4, 5, 6, 7, 8, 9, 10, 11, 12, 13, 14, 15, 16, 17, 18, 19, 20, 21, 22, 25, 26] [0, 1, 2, 3, 4, 5, 6, 7, 8, 9, 10, 11, 12, 13, 14, 15, 16, 17, 18, 19, 20, 21, 22, 25, 26, 23, 24] rfl rfl (by decide) (fun _ => rfl) (fun r_58 u_60 e_59 => ?_)
        have e_59 : r_58 = jI (jmin s2.2.1 16) := e_59
        subst e_59
        refine v_world (ws' := (gS  a ks ++ gW cI (fun i => a (1 + i)) wd ++ gG cI (fun i => a (31 + i)) (glS wd 0 gl) ++ gI cI a (cLt wd 0) ++ gF cI a fd ++ gH cS a  ++ gX cL (fun i => a (44 + i)) s0 ++ gX cL (fun i => a (46 + i)) s1 ++ gX cL (fun i => a (48 + i)) (s2.1, s2.2.1, (cpL (fun j_ => nW s2.1 (jL (cLt wd 0 j_))) s2.2.2 i)) ++ gX cL (fun i => a (50 + i)) s3)) rfl ?_
        refine v_icmp_ge (a := (i : Int)) (b := jmin s2.2.1 16) (tgt := 68) G dX8_map_47 (by decide) (by omega) (fun c_61 => ?_) (fun c_61 => ?_)
        · skip
          obtain rfl : i = (jmin s2.2.1 16).toNat := by omega
          refine v_aload_n (j := 1) (x := a 48) G dX8_map_68 rfl rfl ?_
          refine v_ciP (w2 := (fun _ => (gS  a ks ++ gW cI (fun i => a (1 + i)) wd ++ gG cI (fun i => a (31 + i)) (glS wd 0 gl) ++ gI cI a (cLt wd 0) ++ gF cI a fd ++ gH cS a  ++ gX cL (fun i => a (44 + i)) s0 ++ gX cL (fun i => a (46 + i)) s1 ++ gX cL (fun i => a (48 + i)) (s2.1, s2.2.1, (cpL (fun j_ => nW s2.1 (jL (cLt wd 0 j_))) s2.2.2 ((jmin s2.2.1 16).toNat))) ++ gX cL (fun i => a (50 + i)) s3))) (wr := (gS  a ks ++ gW cI (fun i => a (1 + i)) wd ++ gG cI (fun i => a (31 + i)) (glS wd 0 gl) ++ gI cI a (cLt wd 0) ++ gF cI a fd ++ gH cS a  ++ gX cL (fun i => a (44 + i)) s0 ++ gX cL (fun i => a (46 + i)) s1 ++ gX cL (fun i => a (50 + i)) s3)) G (rn_V (As := []) (rest := []) (q0 := 0) G (c_X3_places (sx := (s2.1, s2.2.1, (cpL (fun j_ => nW s2.1 (jL (cLt wd 0 j_))) s2.2.2 ((jmin s2.2.1 16).toNat)))) (b := fun i => a (48 + i)) (hx := ⟨hx2.1, hx2.2⟩)) gX8_map_X3_places rfl hdX3_places ⟨rfl, rfl, Nat.le_of_ble_eq_true rfl, Nat.le_of_ble_eq_true rfl⟩ rfl rfl (Nat.le_of_ble_eq_true rfl) ⟨Nat.zero_le _, Nat.zero_le _⟩ rfl rfl dX8_map_69) [23, 24] [0, 1, 2, 3, 4, 5, 6, 7, 8, 9, 10, 11, 12, 13, 14, 15, 16, 17, 18, 19, 20, 21, 22, 25, 26] [0, 1, 2, 3, 4, 5, 6, 7, 8, 9, 10, 11, 12, 13, 14, 15, 16, 17, 18, 19, 20, 21, 22, 25, 26, 23, 24] rfl rfl (by decide) (fun _ => rfl) (fun r_62 u_64 e_63 => ?_)
          have e_63 : r_62 = jI (jmin s2.2.1 16) := e_63
          subst e_63
          refine v_world (ws' := (gS  a ks ++ gW cI (fun i => a (1 + i)) wd ++ gG cI (fun i => a (31 + i)) (glS wd 0 gl) ++ gI cI a (cLt wd 0) ++ gF cI a fd ++ gH cS a  ++ gX cL (fun i => a (44 + i)) s0 ++ gX cL (fun i => a (46 + i)) s1 ++ gX cL (fun i => a (48 + i)) (s2.1, s2.2.1, (cpL (fun j_ => nW s2.1 (jL (cLt wd 0 j_))) s2.2.2 ((jmin s2.2.1 16).toNat))) ++ gX cL (fun i => a (50 + i)) s3)) rfl ?_
          exact v_iret G (fd, (glS wd 0 gl), cLt wd 0, s0, s1, (s2.1, s2.2.1, (cpL (fun j_ => nW s2.1 (jL (cLt wd 0 j_))) s2.2.2 ((jmin s2.2.1 16).toNat))), s3) (by first | exact Or.inr (Or.inr (Or.inr (Or.inr (Or.inr (Or.inl ⟨(by omega), (by first | rfl | exact congrArg jI (by omega)), rfl, rfl, rfl, rfl, rfl⟩))))) | exact Or.inr (Or.inr (Or.inr (Or.inr (Or.inr (Or.inr (Or.inl ⟨(by omega), (by first | rfl | exact congrArg jI (by omega)), rfl, rfl, rfl, rfl, rfl⟩))))))) rfl dX8_map_72
        · skip
          refine v_aload_n (j := 1) (x := a 48) G dX8_map_50 rfl rfl ?_
          refine v_iload_n (j := 0) (x := jI (i : Int)) G dX8_map_51 rfl rfl ?_
          refine v_aload_n (j := 2) (x := a 0) G dX8_map_52 rfl rfl ?_
          refine v_get (q0 := 0) (k := 10) (v := .ref (a 58)) G k_X8 rfl rfl (by decide) q_2 rfl rfl dX8_map_53 ?_
          refine v_iload_n (j := 0) (x := jI (i : Int)) G dX8_map_56 rfl rfl ?_
          have hli := cLt_r hw (n := 0) (p := (i : Int)) (by omega) (by omega) (by omega)
          refine v_iald (q0 := 16) (t0 := 0) (g := cLt wd 0) (z := (i : Int)) G rfl rfl (by omega) dX8_map_57 ?_
          refine v_i2l (v := jL ((cLt wd 0) (i : Int))) G dX8_map_58 (jI_i2l (by omega)) ?_
          refine v_cvP (w2 := (fun _ => (gS  a ks ++ gW cI (fun i => a (1 + i)) wd ++ gG cI (fun i => a (31 + i)) (glS wd 0 gl) ++ gI cI a (cLt wd 0) ++ gF cI a fd ++ gH cS a  ++ gX cL (fun i => a (44 + i)) s0 ++ gX cL (fun i => a (46 + i)) s1 ++ gX cL (fun i => a (48 + i)) (s2.1, s2.2.1, uL (cpL (fun j_ => nW s2.1 (jL (cLt wd 0 j_))) s2.2.2 i) (i : Int) (nW s2.1 (jL ((cLt wd 0) (i : Int))))) ++ gX cL (fun i => a (50 + i)) s3))) (wr := (gS  a ks ++ gW cI (fun i => a (1 + i)) wd ++ gG cI (fun i => a (31 + i)) (glS wd 0 gl) ++ gI cI a (cLt wd 0) ++ gF cI a fd ++ gH cS a  ++ gX cL (fun i => a (44 + i)) s0 ++ gX cL (fun i => a (46 + i)) s1 ++ gX cL (fun i => a (50 + i)) s3)) G (rn_V (As := [.int (jI (i : Int)), .long (jL ((cLt wd 0) (i : Int)))]) (rest := []) (q0 := 0) G (c_X3_put (i := (i : Int)) (v := jL ((cLt wd 0) (i : Int))) (sx := (s2.1, s2.2.1, (cpL (fun j_ => nW s2.1 (jL (cLt wd 0 j_))) s2.2.2 i))) (b := fun i => a (48 + i)) (hx := ⟨hx2.1, hx2.2⟩) (hi := (by omega))) gX8_map_X3_put rfl hdX3_put ⟨rfl, rfl, Nat.le_of_ble_eq_true rfl, Nat.le_of_ble_eq_true rfl⟩ rfl rfl (Nat.le_of_ble_eq_true rfl) ⟨Nat.zero_le _, Nat.zero_le _⟩ rfl rfl dX8_map_59) [23, 24] [0, 1, 2, 3, 4, 5, 6, 7, 8, 9, 10, 11, 12, 13, 14, 15, 16, 17, 18, 19, 20, 21, 22, 25, 26] [0, 1, 2, 3, 4, 5, 6, 7, 8, 9, 10, 11, 12, 13, 14, 15, 16, 17, 18, 19, 20, 21, 22, 25, 26, 23, 24] rfl rfl (by decide) (fun _ => rfl) (fun u_67 e_66 => ?_)
          refine v_world (ws' := (gS  a ks ++ gW cI (fun i => a (1 + i)) wd ++ gG cI (fun i => a (31 + i)) (glS wd 0 gl) ++ gI cI a (cLt wd 0) ++ gF cI a fd ++ gH cS a  ++ gX cL (fun i => a (44 + i)) s0 ++ gX cL (fun i => a (46 + i)) s1 ++ gX cL (fun i => a (48 + i)) (s2.1, s2.2.1, uL (cpL (fun j_ => nW s2.1 (jL (cLt wd 0 j_))) s2.2.2 i) (i : Int) (nW s2.1 (jL ((cLt wd 0) (i : Int))))) ++ gX cL (fun i => a (50 + i)) s3)) rfl ?_
          refine v_cellL (q0 := 24) (g := uL (cpL (fun j_ => nW s2.1 (jL (cLt wd 0 j_))) s2.2.2 i) (i : Int) (nW s2.1 (jL ((cLt wd 0) (i : Int))))) (g' := cpL (fun j_ => nW s2.1 (jL (cLt wd 0 j_))) s2.2.2 (i + 1)) (ws' := (gS  a ks ++ gW cI (fun i => a (1 + i)) wd ++ gG cI (fun i => a (31 + i)) (glS wd 0 gl) ++ gI cI a (cLt wd 0) ++ gF cI a fd ++ gH cS a  ++ gX cL (fun i => a (44 + i)) s0 ++ gX cL (fun i => a (46 + i)) s1 ++ gX cL (fun i => a (48 + i)) (s2.1, s2.2.1, cpL (fun j_ => nW s2.1 (jL (cLt wd 0 j_))) s2.2.2 (i + 1)) ++ gX cL (fun i => a (50 + i)) s3)) rfl (fun j h0 _ => cpL_s (fun j_ => nW s2.1 (jL (cLt wd 0 j_))) s2.2.2 i j h0) rfl ?_
          refine v_iinc (k := 0) (z := (i : Int)) (z' := ((i + 1 : Nat) : Int)) (lv' := [(3, .int (jI ((i + 1 : Nat) : Int))), (2, .ref (a 48)), (0, .ref (a 0)), (1, .int (jI 2))]) G dX8_map_62 rfl (by omega) (by decide) rfl ?_
          refine v_goto (tgt := 42) G dX8_map_65 (by decide) ?_
          exact ih_57 (i + 1) (by omega) (by omega)
      · skip
        refine v_aload_n (j := 1) (x := a 0) G dX8_map_28 rfl rfl ?_
        refine v_ldcw (z := (-1000000006)) G q_3 (by decide) dX8_map_29 ?_
        refine v_ciP (w2 := (fun _ => (gS  a ks ++ gW cI (fun i => a (1 + i)) wd ++ gG cI (fun i => a (31 + i)) gl ++ gI cI a li ++ gF cI a (uI fd 5 (fd 5 + 1)) ++ gH cS a  ++ gX cL (fun i => a (44 + i)) s0 ++ gX cL (fun i => a (46 + i)) s1 ++ gX cL (fun i => a (48 + i)) s2 ++ gX cL (fun i => a (50 + i)) s3))) (wr := (gW cI (fun i => a (1 + i)) wd ++ gG cI (fun i => a (31 + i)) gl ++ gI cI a li ++ gH cS a  ++ gX cL (fun i => a (44 + i)) s0 ++ gX cL (fun i => a (46 + i)) s1 ++ gX cL (fun i => a (48 + i)) s2 ++ gX cL (fun i => a (50 + i)) s3)) G (rn_V (As := [.int (jI (-1000000006))]) (rest := []) (q0 := 0) G (c_X8_found_5 (ks := ks) (fd := fd) (a := a) ) gX8_map_X8_found rfl hdX8_found ⟨rfl, rfl, Nat.le_of_ble_eq_true rfl, Nat.le_of_ble_eq_true rfl⟩ rfl rfl (Nat.le_of_ble_eq_true rfl) ⟨Nat.zero_le _, Nat.zero_le _⟩ rfl rfl dX8_map_32) [0, 17] [1, 2, 3, 4, 5, 6, 7, 8, 9, 10, 11, 12, 13, 14, 15, 16, 18, 19, 20, 21, 22, 23, 24, 25, 26] [25, 0, 1, 2, 3, 4, 5, 6, 7, 8, 9, 10, 11, 12, 13, 14, 15, 26, 16, 17, 18, 19, 20, 21, 22, 23, 24] rfl rfl (by decide) (fun _ => rfl) (fun r_68 u_70 e_69 => ?_)
        have e_69 : r_68 = jI (-1000000006) := e_69
        subst e_69
        refine v_world (ws' := (gS  a ks ++ gW cI (fun i => a (1 + i)) wd ++ gG cI (fun i => a (31 + i)) gl ++ gI cI a li ++ gF cI a (uI fd 5 (fd 5 + 1)) ++ gH cS a  ++ gX cL (fun i => a (44 + i)) s0 ++ gX cL (fun i => a (46 + i)) s1 ++ gX cL (fun i => a (48 + i)) s2 ++ gX cL (fun i => a (50 + i)) s3)) rfl ?_
        exact v_iret G (uI fd 5 (fd 5 + 1), gl, li, s0, s1, s2, s3) (by first | exact Or.inr (Or.inr (Or.inr (Or.inr (Or.inr (Or.inl ⟨(by omega), (by first | rfl | exact congrArg jI (by omega)), rfl, rfl, rfl, rfl, rfl⟩))))) | exact Or.inr (Or.inr (Or.inr (Or.inr (Or.inr (Or.inr (Or.inl ⟨(by omega), (by first | rfl | exact congrArg jI (by omega)), rfl, rfl, rfl, rfl, rfl⟩))))))) rfl dX8_map_35
    · skip
      refine v_aload_n (j := 0) (x := a 0) G dX8_map_14 rfl rfl ?_
      refine v_get (q0 := 0) (k := 7) (v := .ref (a 43)) G k_X8 rfl rfl (by decide) q_1 rfl rfl dX8_map_15 ?_
      refine v_iload_n (j := 1) (x := jI 3) G dX8_map_18 rfl rfl ?_
      refine v_aald (q0 := 18) (t0 := 3) (y := a 50) (z := 3) G rfl rfl (by omega) rfl dX8_map_19 ?_
      refine v_astore_n (lv' := [(2, .ref (a 50)), (0, .ref (a 0)), (1, .int (jI 3))]) G dX8_map_20 rfl (by decide) rfl ?_
      refine v_aload_n (j := 0) (x := a 50) G dX8_map_21 rfl rfl ?_
      refine v_ciP (w2 := (fun _ => (gS  a ks ++ gW cI (fun i => a (1 + i)) wd ++ gG cI (fun i => a (31 + i)) gl ++ gI cI a li ++ gF cI a fd ++ gH cS a  ++ gX cL (fun i => a (44 + i)) s0 ++ gX cL (fun i => a (46 + i)) s1 ++ gX cL (fun i => a (48 + i)) s2 ++ gX cL (fun i => a (50 + i)) s3))) (wr := (gS  a ks ++ gW cI (fun i => a (1 + i)) wd ++ gG cI (fun i => a (31 + i)) gl ++ gI cI a li ++ gF cI a fd ++ gH cS a  ++ gX cL (fun i => a (44 + i)) s0 ++ gX cL (fun i => a (46 + i)) s1 ++ gX cL (fun i => a (48 + i)) s2)) G (rn_V (As := []) (rest := []) (q0 := 0) G (c_X3_isMissing (sx := s3) (b := fun i => a (50 + i)) (hx := ⟨hx3.1, hx3.2⟩)) gX8_map_X3_isMissing rfl hdX3_isMissing ⟨rfl, rfl, Nat.le_of_ble_eq_true rfl, Nat.le_of_ble_eq_true rfl⟩ rfl rfl (Nat.le_of_ble_eq_true rfl) ⟨Nat.zero_le _, Nat.zero_le _⟩ rfl rfl dX8_map_22) [25, 26] [0, 1, 2, 3, 4, 5, 6, 7, 8, 9, 10, 11, 12, 13, 14, 15, 16, 17, 18, 19, 20, 21, 22, 23, 24] [0, 1, 2, 3, 4, 5, 6, 7, 8, 9, 10, 11, 12, 13, 14, 15, 16, 17, 18, 19, 20, 21, 22, 23, 24, 25, 26] rfl rfl (by decide) (fun _ => rfl) (fun r_71 u_73 e_72 => ?_)
      have e_72 : r_71 = jI (b2 (s3.1 = 0)) := e_72
      subst e_72
      refine v_world (ws' := (gS  a ks ++ gW cI (fun i => a (1 + i)) wd ++ gG cI (fun i => a (31 + i)) gl ++ gI cI a li ++ gF cI a fd ++ gH cS a  ++ gX cL (fun i => a (44 + i)) s0 ++ gX cL (fun i => a (46 + i)) s1 ++ gX cL (fun i => a (48 + i)) s2 ++ gX cL (fun i => a (50 + i)) s3)) rfl ?_
      refine v_ifb_eq (P := s3.1 = 0) (tgt := 36) G dX8_map_25 (by decide) (fun c_74 => ?_) (fun c_74 => ?_)
      · skip
        refine v_aload_n (j := 1) (x := a 0) G dX8_map_36 rfl rfl ?_
        refine v_cvP (w2 := (fun _ => (gS  a ks ++ gW cI (fun i => a (1 + i)) wd ++ gG cI (fun i => a (31 + i)) (glS wd 0 gl) ++ gI cI a (cLt wd 0) ++ gF cI a fd ++ gH cS a  ++ gX cL (fun i => a (44 + i)) s0 ++ gX cL (fun i => a (46 + i)) s1 ++ gX cL (fun i => a (48 + i)) s2 ++ gX cL (fun i => a (50 + i)) s3))) (wr := (gF cI a fd ++ gH cS a  ++ gX cL (fun i => a (44 + i)) s0 ++ gX cL (fun i => a (46 + i)) s1 ++ gX cL (fun i => a (48 + i)) s2 ++ gX cL (fun i => a (50 + i)) s3)) G (rn_V (As := []) (rest := []) (q0 := 0) G (c_X8_lightAll (ks := ks) (wd := wd) (gl := gl) (li := li) (a := a) (hw := hw)) gX8_map_X8_lightAll rfl hdX8_lightAll ⟨rfl, rfl, Nat.le_of_ble_eq_true rfl, Nat.le_of_ble_eq_true rfl⟩ rfl rfl (Nat.le_of_ble_eq_true rfl) ⟨Nat.zero_le _, Nat.zero_le _⟩ rfl rfl dX8_map_37) [0, 1, 2, 3, 4, 5, 6, 7, 8, 9, 10, 11, 12, 13, 14, 15, 16] [17, 18, 19, 20, 21, 22, 23, 24, 25, 26] [10, 11, 12, 13, 14, 15, 16, 17, 18, 19, 20, 21, 22, 23, 24, 25, 26, 0, 1, 2, 3, 4, 5, 6, 7, 8, 9] rfl rfl (by decide) (fun _ => rfl) (fun u_77 e_76 => ?_)
        refine v_world (ws' := (gS  a ks ++ gW cI (fun i => a (1 + i)) wd ++ gG cI (fun i => a (31 + i)) (glS wd 0 gl) ++ gI cI a (cLt wd 0) ++ gF cI a fd ++ gH cS a  ++ gX cL (fun i => a (44 + i)) s0 ++ gX cL (fun i => a (46 + i)) s1 ++ gX cL (fun i => a (48 + i)) s2 ++ gX cL (fun i => a (50 + i)) s3)) rfl ?_
        refine v_iconst G dX8_map_40 ?_
        refine v_istore_n (lv' := [(3, .int (jI 0)), (2, .ref (a 50)), (0, .ref (a 0)), (1, .int (jI 3))]) G dX8_map_41 rfl (by decide) rfl ?_
        refine v_cellL (q0 := 26) (g := s3.2.2) (g' := cpL (fun j_ => nW s3.1 (jL (cLt wd 0 j_))) s3.2.2 0) (ws' := (gS  a ks ++ gW cI (fun i => a (1 + i)) wd ++ gG cI (fun i => a (31 + i)) (glS wd 0 gl) ++ gI cI a (cLt wd 0) ++ gF cI a fd ++ gH cS a  ++ gX cL (fun i => a (44 + i)) s0 ++ gX cL (fun i => a (46 + i)) s1 ++ gX cL (fun i => a (48 + i)) s2 ++ gX cL (fun i => a (50 + i)) (s3.1, s3.2.1, cpL (fun j_ => nW s3.1 (jL (cLt wd 0 j_))) s3.2.2 0))) rfl (fun j h0 _ => by unfold cpL; rw [if_neg (by omega)]) rfl ?_
        refine v_locs (lv' := [(3, .int (jI 0)), (2, .ref (a 50)), (0, .ref (a 0)), (1, .int (jI 3))]) [0, 1, 2, 3] rfl ?_
        refine v_loop1 (fun (i : Nat) => [(3, .int (jI (i : Int))), (2, .ref (a 50)), (0, .ref (a 0)), (1, .int (jI 3))]) (fun (i : Nat) => (gS  a ks ++ gW cI (fun i => a (1 + i)) wd ++ gG cI (fun i => a (31 + i)) (glS wd 0 gl) ++ gI cI a (cLt wd 0) ++ gF cI a fd ++ gH cS a  ++ gX cL (fun i => a (44 + i)) s0 ++ gX cL (fun i => a (46 + i)) s1 ++ gX cL (fun i => a (48 + i)) s2 ++ gX cL (fun i => a (50 + i)) (s3.1, s3.2.1, cpL (fun j_ => nW s3.1 (jL (cLt wd 0 j_))) s3.2.2 i))) (fun (i : Nat) => (i : Int) ≤ (jmin s3.2.1 16)) (fun (i : Nat) => (jmin s3.2.1 16).toNat - i) 0 (by have := jmin_z s3.2.1 16; omega) rfl rfl ?_
        intro i I_78 ih_79
        have hjm := jmin_z s3.2.1 16
        refine v_iload_n (j := 0) (x := jI (i : Int)) G dX8_map_42 rfl rfl ?_
        refine v_aload_n (j := 1) (x := a 50) G dX8_map_43 rfl rfl ?_
        refine v_ciP (w2 := (fun _ => (gS  a ks ++ gW cI (fun i => a (1 + i)) wd ++ gG cI (fun i => a (31 + i)) (glS wd 0 gl) ++ gI cI a (cLt wd 0) ++ gF cI a fd ++ gH cS a  ++ gX cL (fun i => a (44 + i)) s0 ++ gX cL (fun i => a (46 + i)) s1 ++ gX cL (fun i => a (48 + i)) s2 ++ gX cL (fun i => a (50 + i)) (s3.1, s3.2.1, (cpL (fun j_ => nW s3.1 (jL (cLt wd 0 j_))) s3.2.2 i))))) (wr := (gS  a ks ++ gW cI (fun i => a (1 + i)) wd ++ gG cI (fun i => a (31 + i)) (glS wd 0 gl) ++ gI cI a (cLt wd 0) ++ gF cI a fd ++ gH cS a  ++ gX cL (fun i => a (44 + i)) s0 ++ gX cL (fun i => a (46 + i)) s1 ++ gX cL (fun i => a (48 + i)) s2)) G (rn_V (As := []) (rest := [.int (jI (i : Int))]) (q0 := 0) G (c_X3_places (sx := (s3.1, s3.2.1, cpL (fun j_ => nW s3.1 (jL (cLt wd 0 j_))) s3.2.2 i)) (b := fun i => a (50 + i)) (hx := ⟨hx3.1, hx3.2⟩)) gX8_map_X3_places rfl hdX3_places ⟨rfl, rfl, Nat.le_of_ble_eq_true rfl, Nat.le_of_ble_eq_true rfl⟩ rfl rfl (Nat.le_of_ble_eq_true rfl) ⟨Nat.zero_le _, Nat.zero_le _⟩ rfl rfl dX8_map_44) [25, 26] [0, 1, 2, 3, 4, 5, 6, 7, 8, 9, 10, 11, 12, 13, 14, 15, 16, 17, 18, 19, 20, 21, 22, 23, 24] [0, 1, 2, 3, 4, 5, 6, 7, 8, 9, 10, 11, 12, 13, 14, 15, 16, 17, 18, 19, 20, 21, 22, 23, 24, 25, 26] rfl rfl (by decide) (fun _ => rfl) (fun r_80 u_82 e_81 => ?_)
        have e_81 : r_80 = jI (jmin s3.2.1 16) := e_81
        subst e_81
        refine v_world (ws' := (gS  a ks ++ gW cI (fun i => a (1 + i)) wd ++ gG cI (fun i => a (31 + i)) (glS wd 0 gl) ++ gI cI a (cLt wd 0) ++ gF cI a fd ++ gH cS a  ++ gX cL (fun i => a (44 + i)) s0 ++ gX cL (fun i => a (46 + i)) s1 ++ gX cL (fun i => a (48 + i)) s2 ++ gX cL (fun i => a (50 + i)) (s3.1, s3.2.1, (cpL (fun j_ => nW s3.1 (jL (cLt wd 0 j_))) s3.2.2 i)))) rfl ?_
        refine v_icmp_ge (a := (i : Int)) (b := jmin s3.2.1 16) (tgt := 68) G dX8_map_47 (by decide) (by omega) (fun c_83 => ?_) (fun c_83 => ?_)
        · skip
          obtain rfl : i = (jmin s3.2.1 16).toNat := by omega
          refine v_aload_n (j := 1) (x := a 50) G dX8_map_68 rfl rfl ?_
          refine v_ciP (w2 := (fun _ => (gS  a ks ++ gW cI (fun i => a (1 + i)) wd ++ gG cI (fun i => a (31 + i)) (glS wd 0 gl) ++ gI cI a (cLt wd 0) ++ gF cI a fd ++ gH cS a  ++ gX cL (fun i => a (44 + i)) s0 ++ gX cL (fun i => a (46 + i)) s1 ++ gX cL (fun i => a (48 + i)) s2 ++ gX cL (fun i => a (50 + i)) (s3.1, s3.2.1, (cpL (fun j_ => nW s3.1 (jL (cLt wd 0 j_))) s3.2.2 ((jmin s3.2.1 16).toNat)))))) (wr := (gS  a ks ++ gW cI (fun i => a (1 + i)) wd ++ gG cI (fun i => a (31 + i)) (glS wd 0 gl) ++ gI cI a (cLt wd 0) ++ gF cI a fd ++ gH cS a  ++ gX cL (fun i => a (44 + i)) s0 ++ gX cL (fun i => a (46 + i)) s1 ++ gX cL (fun i => a (48 + i)) s2)) G (rn_V (As := []) (rest := []) (q0 := 0) G (c_X3_places (sx := (s3.1, s3.2.1, (cpL (fun j_ => nW s3.1 (jL (cLt wd 0 j_))) s3.2.2 ((jmin s3.2.1 16).toNat)))) (b := fun i => a (50 + i)) (hx := ⟨hx3.1, hx3.2⟩)) gX8_map_X3_places rfl hdX3_places ⟨rfl, rfl, Nat.le_of_ble_eq_true rfl, Nat.le_of_ble_eq_true rfl⟩ rfl rfl (Nat.le_of_ble_eq_true rfl) ⟨Nat.zero_le _, Nat.zero_le _⟩ rfl rfl dX8_map_69) [25, 26] [0, 1, 2, 3, 4, 5, 6, 7, 8, 9, 10, 11, 12, 13, 14, 15, 16, 17, 18, 19, 20, 21, 22, 23, 24] [0, 1, 2, 3, 4, 5, 6, 7, 8, 9, 10, 11, 12, 13, 14, 15, 16, 17, 18, 19, 20, 21, 22, 23, 24, 25, 26] rfl rfl (by decide) (fun _ => rfl) (fun r_84 u_86 e_85 => ?_)
          have e_85 : r_84 = jI (jmin s3.2.1 16) := e_85
          subst e_85
          refine v_world (ws' := (gS  a ks ++ gW cI (fun i => a (1 + i)) wd ++ gG cI (fun i => a (31 + i)) (glS wd 0 gl) ++ gI cI a (cLt wd 0) ++ gF cI a fd ++ gH cS a  ++ gX cL (fun i => a (44 + i)) s0 ++ gX cL (fun i => a (46 + i)) s1 ++ gX cL (fun i => a (48 + i)) s2 ++ gX cL (fun i => a (50 + i)) (s3.1, s3.2.1, (cpL (fun j_ => nW s3.1 (jL (cLt wd 0 j_))) s3.2.2 ((jmin s3.2.1 16).toNat))))) rfl ?_
          exact v_iret G (fd, (glS wd 0 gl), cLt wd 0, s0, s1, s2, (s3.1, s3.2.1, (cpL (fun j_ => nW s3.1 (jL (cLt wd 0 j_))) s3.2.2 ((jmin s3.2.1 16).toNat)))) (by first | exact Or.inr (Or.inr (Or.inr (Or.inr (Or.inr (Or.inr (Or.inr (Or.inl ⟨(by omega), (by first | rfl | exact congrArg jI (by omega)), rfl, rfl, rfl, rfl, rfl⟩))))))) | exact Or.inr (Or.inr (Or.inr (Or.inr (Or.inr (Or.inr (Or.inr (Or.inr (⟨(by omega), (by first | rfl | exact congrArg jI (by omega)), rfl, rfl, rfl, rfl, rfl⟩))))))))) rfl dX8_map_72
        · skip
          refine v_aload_n (j := 1) (x := a 50) G dX8_map_50 rfl rfl ?_
          refine v_iload_n (j := 0) (x := jI (i : Int)) G dX8_map_51 rfl rfl ?_
          refine v_aload_n (j := 2) (x := a 0) G dX8_map_52 rfl rfl ?_
          refine v_get (q0 := 0) (k := 10) (v := .ref (a 58)) G k_X8 rfl rfl (by decide) q_2 rfl rfl dX8_map_53 ?_
          refine v_iload_n (j := 0) (x := jI (i : Int)) G dX8_map_56 rfl rfl ?_
          have hli := cLt_r hw (n := 0) (p := (i : Int)) (by omega) (by omega) (by omega)
          refine v_iald (q0 := 16) (t0 := 0) (g := cLt wd 0) (z := (i : Int)) G rfl rfl (by omega) dX8_map_57 ?_
          refine v_i2l (v := jL ((cLt wd 0) (i : Int))) G dX8_map_58 (jI_i2l (by omega)) ?_
          refine v_cvP (w2 := (fun _ => (gS  a ks ++ gW cI (fun i => a (1 + i)) wd ++ gG cI (fun i => a (31 + i)) (glS wd 0 gl) ++ gI cI a (cLt wd 0) ++ gF cI a fd ++ gH cS a  ++ gX cL (fun i => a (44 + i)) s0 ++ gX cL (fun i => a (46 + i)) s1 ++ gX cL (fun i => a (48 + i)) s2 ++ gX cL (fun i => a (50 + i)) (s3.1, s3.2.1, uL (cpL (fun j_ => nW s3.1 (jL (cLt wd 0 j_))) s3.2.2 i) (i : Int) (nW s3.1 (jL ((cLt wd 0) (i : Int)))))))) (wr := (gS  a ks ++ gW cI (fun i => a (1 + i)) wd ++ gG cI (fun i => a (31 + i)) (glS wd 0 gl) ++ gI cI a (cLt wd 0) ++ gF cI a fd ++ gH cS a  ++ gX cL (fun i => a (44 + i)) s0 ++ gX cL (fun i => a (46 + i)) s1 ++ gX cL (fun i => a (48 + i)) s2)) G (rn_V (As := [.int (jI (i : Int)), .long (jL ((cLt wd 0) (i : Int)))]) (rest := []) (q0 := 0) G (c_X3_put (i := (i : Int)) (v := jL ((cLt wd 0) (i : Int))) (sx := (s3.1, s3.2.1, (cpL (fun j_ => nW s3.1 (jL (cLt wd 0 j_))) s3.2.2 i))) (b := fun i => a (50 + i)) (hx := ⟨hx3.1, hx3.2⟩) (hi := (by omega))) gX8_map_X3_put rfl hdX3_put ⟨rfl, rfl, Nat.le_of_ble_eq_true rfl, Nat.le_of_ble_eq_true rfl⟩ rfl rfl (Nat.le_of_ble_eq_true rfl) ⟨Nat.zero_le _, Nat.zero_le _⟩ rfl rfl dX8_map_59) [25, 26] [0, 1, 2, 3, 4, 5, 6, 7, 8, 9, 10, 11, 12, 13, 14, 15, 16, 17, 18, 19, 20, 21, 22, 23, 24] [0, 1, 2, 3, 4, 5, 6, 7, 8, 9, 10, 11, 12, 13, 14, 15, 16, 17, 18, 19, 20, 21, 22, 23, 24, 25, 26] rfl rfl (by decide) (fun _ => rfl) (fun u_89 e_88 => ?_)
          refine v_world (ws' := (gS  a ks ++ gW cI (fun i => a (1 + i)) wd ++ gG cI (fun i => a (31 + i)) (glS wd 0 gl) ++ gI cI a (cLt wd 0) ++ gF cI a fd ++ gH cS a  ++ gX cL (fun i => a (44 + i)) s0 ++ gX cL (fun i => a (46 + i)) s1 ++ gX cL (fun i => a (48 + i)) s2 ++ gX cL (fun i => a (50 + i)) (s3.1, s3.2.1, uL (cpL (fun j_ => nW s3.1 (jL (cLt wd 0 j_))) s3.2.2 i) (i : Int) (nW s3.1 (jL ((cLt wd 0) (i : Int))))))) rfl ?_
          refine v_cellL (q0 := 26) (g := uL (cpL (fun j_ => nW s3.1 (jL (cLt wd 0 j_))) s3.2.2 i) (i : Int) (nW s3.1 (jL ((cLt wd 0) (i : Int))))) (g' := cpL (fun j_ => nW s3.1 (jL (cLt wd 0 j_))) s3.2.2 (i + 1)) (ws' := (gS  a ks ++ gW cI (fun i => a (1 + i)) wd ++ gG cI (fun i => a (31 + i)) (glS wd 0 gl) ++ gI cI a (cLt wd 0) ++ gF cI a fd ++ gH cS a  ++ gX cL (fun i => a (44 + i)) s0 ++ gX cL (fun i => a (46 + i)) s1 ++ gX cL (fun i => a (48 + i)) s2 ++ gX cL (fun i => a (50 + i)) (s3.1, s3.2.1, cpL (fun j_ => nW s3.1 (jL (cLt wd 0 j_))) s3.2.2 (i + 1)))) rfl (fun j h0 _ => cpL_s (fun j_ => nW s3.1 (jL (cLt wd 0 j_))) s3.2.2 i j h0) rfl ?_
          refine v_iinc (k := 0) (z := (i : Int)) (z' := ((i + 1 : Nat) : Int)) (lv' := [(3, .int (jI ((i + 1 : Nat) : Int))), (2, .ref (a 50)), (0, .ref (a 0)), (1, .int (jI 3))]) G dX8_map_62 rfl (by omega) (by decide) rfl ?_
          refine v_goto (tgt := 42) G dX8_map_65 (by decide) ?_
          exact ih_79 (i + 1) (by omega) (by omega)
      · skip
        refine v_aload_n (j := 1) (x := a 0) G dX8_map_28 rfl rfl ?_
        refine v_ldcw (z := (-1000000006)) G q_3 (by decide) dX8_map_29 ?_
        refine v_ciP (w2 := (fun _ => (gS  a ks ++ gW cI (fun i => a (1 + i)) wd ++ gG cI (fun i => a (31 + i)) gl ++ gI cI a li ++ gF cI a (uI fd 5 (fd 5 + 1)) ++ gH cS a  ++ gX cL (fun i => a (44 + i)) s0 ++ gX cL (fun i => a (46 + i)) s1 ++ gX cL (fun i => a (48 + i)) s2 ++ gX cL (fun i => a (50 + i)) s3))) (wr := (gW cI (fun i => a (1 + i)) wd ++ gG cI (fun i => a (31 + i)) gl ++ gI cI a li ++ gH cS a  ++ gX cL (fun i => a (44 + i)) s0 ++ gX cL (fun i => a (46 + i)) s1 ++ gX cL (fun i => a (48 + i)) s2 ++ gX cL (fun i => a (50 + i)) s3)) G (rn_V (As := [.int (jI (-1000000006))]) (rest := []) (q0 := 0) G (c_X8_found_5 (ks := ks) (fd := fd) (a := a) ) gX8_map_X8_found rfl hdX8_found ⟨rfl, rfl, Nat.le_of_ble_eq_true rfl, Nat.le_of_ble_eq_true rfl⟩ rfl rfl (Nat.le_of_ble_eq_true rfl) ⟨Nat.zero_le _, Nat.zero_le _⟩ rfl rfl dX8_map_32) [0, 17] [1, 2, 3, 4, 5, 6, 7, 8, 9, 10, 11, 12, 13, 14, 15, 16, 18, 19, 20, 21, 22, 23, 24, 25, 26] [25, 0, 1, 2, 3, 4, 5, 6, 7, 8, 9, 10, 11, 12, 13, 14, 15, 26, 16, 17, 18, 19, 20, 21, 22, 23, 24] rfl rfl (by decide) (fun _ => rfl) (fun r_90 u_92 e_91 => ?_)
        have e_91 : r_90 = jI (-1000000006) := e_91
        subst e_91
        refine v_world (ws' := (gS  a ks ++ gW cI (fun i => a (1 + i)) wd ++ gG cI (fun i => a (31 + i)) gl ++ gI cI a li ++ gF cI a (uI fd 5 (fd 5 + 1)) ++ gH cS a  ++ gX cL (fun i => a (44 + i)) s0 ++ gX cL (fun i => a (46 + i)) s1 ++ gX cL (fun i => a (48 + i)) s2 ++ gX cL (fun i => a (50 + i)) s3)) rfl ?_
        exact v_iret G (uI fd 5 (fd 5 + 1), gl, li, s0, s1, s2, s3) (by first | exact Or.inr (Or.inr (Or.inr (Or.inr (Or.inr (Or.inr (Or.inr (Or.inl ⟨(by omega), (by first | rfl | exact congrArg jI (by omega)), rfl, rfl, rfl, rfl, rfl⟩))))))) | exact Or.inr (Or.inr (Or.inr (Or.inr (Or.inr (Or.inr (Or.inr (Or.inr (⟨(by omega), (by first | rfl | exact congrArg jI (by omega)), rfl, rfl, rfl, rfl, rfl⟩))))))))) rfl dX8_map_35
  · skip
    refine v_aload_n (j := 0) (x := a 0) G dX8_map_7 rfl rfl ?_
    refine v_ldc (z := (-1000000001)) G q_4 (by decide) dX8_map_8 ?_
    refine v_ciP (w2 := (fun _ => (gS  a ks ++ gW cI (fun i => a (1 + i)) wd ++ gG cI (fun i => a (31 + i)) gl ++ gI cI a li ++ gF cI a (uI fd 0 (fd 0 + 1)) ++ gH cS a  ++ gX cL (fun i => a (44 + i)) s0 ++ gX cL (fun i => a (46 + i)) s1 ++ gX cL (fun i => a (48 + i)) s2 ++ gX cL (fun i => a (50 + i)) s3))) (wr := (gW cI (fun i => a (1 + i)) wd ++ gG cI (fun i => a (31 + i)) gl ++ gI cI a li ++ gH cS a  ++ gX cL (fun i => a (44 + i)) s0 ++ gX cL (fun i => a (46 + i)) s1 ++ gX cL (fun i => a (48 + i)) s2 ++ gX cL (fun i => a (50 + i)) s3)) G (rn_V (As := [.int (jI (-1000000001))]) (rest := []) (q0 := 0) G (c_X8_found_0 (ks := ks) (fd := fd) (a := a) ) gX8_map_X8_found rfl hdX8_found ⟨rfl, rfl, Nat.le_of_ble_eq_true rfl, Nat.le_of_ble_eq_true rfl⟩ rfl rfl (Nat.le_of_ble_eq_true rfl) ⟨Nat.zero_le _, Nat.zero_le _⟩ rfl rfl dX8_map_10) [0, 17] [1, 2, 3, 4, 5, 6, 7, 8, 9, 10, 11, 12, 13, 14, 15, 16, 18, 19, 20, 21, 22, 23, 24, 25, 26] [25, 0, 1, 2, 3, 4, 5, 6, 7, 8, 9, 10, 11, 12, 13, 14, 15, 26, 16, 17, 18, 19, 20, 21, 22, 23, 24] rfl rfl (by decide) (fun _ => rfl) (fun r_93 u_95 e_94 => ?_)
    have e_94 : r_93 = jI (-1000000001) := e_94
    subst e_94
    refine v_world (ws' := (gS  a ks ++ gW cI (fun i => a (1 + i)) wd ++ gG cI (fun i => a (31 + i)) gl ++ gI cI a li ++ gF cI a (uI fd 0 (fd 0 + 1)) ++ gH cS a  ++ gX cL (fun i => a (44 + i)) s0 ++ gX cL (fun i => a (46 + i)) s1 ++ gX cL (fun i => a (48 + i)) s2 ++ gX cL (fun i => a (50 + i)) s3)) rfl ?_
    exact v_iret G (uI fd 0 (fd 0 + 1), gl, li, s0, s1, s2, s3) (by first | exact Or.inl ⟨(by omega), (by first | rfl | exact congrArg jI (by omega)), rfl, rfl, rfl, rfl, rfl⟩) rfl dX8_map_13
end

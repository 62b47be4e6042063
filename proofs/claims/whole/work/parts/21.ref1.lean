section
variable {l : Launch} {D : va_G} {cI cL cB cS : ClassId} {a : Nat → Nat} {w kp bf ah fd sp lt tp bt lg : Int → Int} {ik tn he ft vl : Int} {ce bw : Int → Int64}
def onesN (x : Int32) : Nat → Int32
  | 0 => jI 0
  | k + 1 => onesN x k + ((x.toUInt32 >>> ((jI (k : Int)).toUInt32 &&& Int32.toUInt32 31)).toInt32 &&& jI 1)
theorem hrd_0 (w : Int → Int) (b : Int) : ¬ hrd w b 0 := by
  rintro ⟨o, h1, h2, -⟩
  omega
theorem hrd_s (w : Int → Int) (b : Int) (k : Nat) : (hrd w b k ∨ ((k : Int) ≠ b ∧ sg (fB w (k : Int) 0) ∧ fB w (k : Int) 1 = fB w b 1)) ↔ hrd w b (k + 1) := by
  constructor
  · rintro (⟨o, h1, h2, h3⟩ | ⟨h3, h4, h5⟩)
    · exact ⟨o, h1, by omega, h3⟩
    · exact ⟨(k : Int), by omega, by omega, h3, h4, h5⟩
  · rintro ⟨o, h1, h2, h3⟩
    by_cases e : o = (k : Int)
    · subst e; exact Or.inr h3
    · exact Or.inl ⟨o, h1, by omega, h3⟩
set_option maxHeartbeats 4000000 in
set_option maxRecDepth 100000 in
theorem c_X9_in (v lo hi : Int) (hr : (-2147483648 ≤ v ∧ v ≤ 2147483647) ∧ (-2147483648 ≤ lo ∧ lo ≤ 2147483647) ∧ (-2147483648 ≤ hi ∧ hi ≤ 2147483647)) : Ci l yX9_in wsX9_in { frames := 0, cells := 0, slots := 0, locals := 0 } D (jT cI cL cB cS) [.int (jI v), .int (jI lo), .int (jI hi)] [] (S := Unit) (fun _ => []) (fun r _ => r = jI (b2 (lo ≤ v ∧ v ≤ hi))) := by
  refine Ci.mk (cc := cX9_in) (maxL := 3) (rt := .boolean) (by decide) rfl (Nat.le_of_ble_eq_true rfl) rfl ?_
  intro p_ e_ s_ m_ b_ me_ c_ A_ G hnm
  refine v_iload_n (j := 0) (x := jI v) G dX9_in_0 rfl rfl ?_
  refine v_iload_n (j := 1) (x := jI lo) G dX9_in_1 rfl rfl ?_
  refine v_icmp_lt (a := v) (b := lo) (tgt := 14) G dX9_in_2 (by decide) (by omega) (fun c_1 => ?_) (fun c_1 => ?_)
  · skip
    refine v_iconst G dX9_in_14 ?_
    exact v_zret G () nb_0 (show jI 0 = jI (b2 (lo ≤ v ∧ v ≤ hi)) from congrArg jI (b2_f (P := lo ≤ v ∧ v ≤ hi) (by omega)).symm) rfl dX9_in_15
  · skip
    refine v_iload_n (j := 0) (x := jI v) G dX9_in_5 rfl rfl ?_
    refine v_iload_n (j := 2) (x := jI hi) G dX9_in_6 rfl rfl ?_
    refine v_icmp_gt (a := v) (b := hi) (tgt := 14) G dX9_in_7 (by decide) (by omega) (fun c_2 => ?_) (fun c_2 => ?_)
    · skip
      refine v_iconst G dX9_in_14 ?_
      exact v_zret G () nb_0 (show jI 0 = jI (b2 (lo ≤ v ∧ v ≤ hi)) from congrArg jI (b2_f (P := lo ≤ v ∧ v ≤ hi) (by omega)).symm) rfl dX9_in_15
    · skip
      refine v_iconst G dX9_in_10 ?_
      refine v_goto (tgt := 15) G dX9_in_11 (by decide) ?_
      exact v_zret G () nb_1 (show jI 1 = jI (b2 (lo ≤ v ∧ v ≤ hi)) from congrArg jI (b2_t (P := lo ≤ v ∧ v ≤ hi) (by omega)).symm) rfl dX9_in_15

set_option maxHeartbeats 4000000 in
set_option maxRecDepth 100000 in
theorem c_X9_no (k : Int) (hk : 0 ≤ k ∧ k < 7) : Ci l yX9_no wsX9_no { frames := 0, cells := 0, slots := 0, locals := 0 } D (jT cI cL cB cS) [.ref (a 0), .int (jI k)] (wR cI cL a w kp bf ah ik fd sp lt tp tn he ft vl bt lg ce bw) (S := Unit) (fun _ => (wR cI cL a w kp bf ah ik (uI fd k (fd k + 1)) sp lt tp tn he ft vl bt lg ce bw)) (fun r _ => r = jI ((-1000000001) - k)) := by
  refine Ci.mk (cc := cX9_no) (maxL := 2) (rt := .int) (by decide) rfl (Nat.le_of_ble_eq_true rfl) rfl ?_
  intro p_ e_ s_ m_ b_ me_ c_ A_ G hnm
  have k_X9 : ∀ w ∈ u_ws RX9 TX9 17, w ∈ wsX9_no := fun _ h => List.mem_cons_of_mem _ (List.mem_append_right _ h)
  have q_1 : Cond.fieldLink RX9 22 "SupperLightModel" "findings" "[I" ∈ wsX9_no := List.mem_of_getElem? (i := 1) rfl
  have q_2 : Cond.constant RX9 47 (-1000000001) ∈ wsX9_no := List.mem_of_getElem? (i := 2) rfl
  refine v_aload_n (j := 0) (x := a 0) G dX9_no_0 rfl rfl ?_
  refine v_get (q0 := 0) (k := 5) (v := .ref (a 5)) G k_X9 rfl rfl (by decide) q_1 rfl rfl dX9_no_1 ?_
  refine v_iload_n (j := 1) (x := jI k) G dX9_no_4 rfl rfl ?_
  refine v_dup2 G dX9_no_5 rfl rfl ?_
  refine v_iald (q0 := 5) (t0 := 0) (g := fd) (z := k) G rfl rfl (by omega) dX9_no_6 ?_
  refine v_iconst G dX9_no_7 ?_
  refine v_iadd (z := (fd k) + 1) G dX9_no_8 rfl ?_
  refine v_iast (q0 := 5) (t0 := 0) (g := fd) (z := k) (x := (fd k) + 1) (ws' := (wR cI cL a w kp bf ah ik (uI fd k ((fd k) + 1)) sp lt tp tn he ft vl bt lg ce bw)) G rfl rfl (by omega) rfl dX9_no_9 ?_
  refine v_ldc (z := (-1000000001)) G q_2 (by decide) dX9_no_10 ?_
  refine v_iload_n (j := 1) (x := jI k) G dX9_no_12 rfl rfl ?_
  refine v_isub (z := (-1000000001) - k) G dX9_no_13 rfl ?_
  exact v_iret G () rfl rfl dX9_no_14

set_option maxHeartbeats 4000000 in
set_option maxRecDepth 100000 in
theorem c_X9_lay_w_ah   : Cv l yX9_lay wsX9_lay { frames := 0, cells := 0, slots := 0, locals := 0 } D (jT cI cL cB cS) [.ref (a 1), .ref (a 4)] (wR cI cL a w kp bf ah ik fd sp lt tp tn he ft vl bt lg ce bw) (S := Unit) (fun _ => (wR cI cL a w kp bf w ik fd sp lt tp tn he ft vl bt lg ce bw)) (fun _ => True) := by
  refine Cv.mk (cc := cX9_lay) (maxL := 3) (by decide) rfl (Nat.le_of_ble_eq_true rfl) rfl ?_
  intro p_ e_ s_ m_ b_ me_ c_ A_ G hnm
  refine v_iconst G dX9_lay_0 ?_
  refine v_istore_n (lv' := [(2, .int (jI 0)), (0, .ref (a 1)), (1, .ref (a 4))]) G dX9_lay_1 rfl (by decide) rfl ?_
  refine v_cell (q0 := 4) (g := ah) (g' := cpN w ah 0) (ws' := (wR cI cL a w kp bf (cpN w ah 0) ik fd sp lt tp tn he ft vl bt lg ce bw)) rfl (fun j h0 _ => by unfold cpN; rw [if_neg (by omega)]) rfl ?_
  refine v_locs (lv' := [(2, .int (jI 0)), (0, .ref (a 1)), (1, .ref (a 4))]) [0, 1, 2] rfl ?_
  refine v_loop1 (fun (k : Nat) => [(2, .int (jI (k : Int))), (0, .ref (a 1)), (1, .ref (a 4))]) (fun (k : Nat) => (wR cI cL a w kp bf (cpN w ah k) ik fd sp lt tp tn he ft vl bt lg ce bw)) (fun (k : Nat) => (k : Int) ≤ 93) (fun (k : Nat) => 93 - k) 0 (by decide) rfl rfl ?_
  intro k I_1 ih_2
  refine v_iload_n (j := 0) (x := jI (k : Int)) G dX9_lay_2 rfl rfl ?_
  refine v_bipush G dX9_lay_3 (by decide) ?_
  refine v_icmp_ge (a := (k : Int)) (b := 93) (tgt := 20) G dX9_lay_5 (by decide) (by omega) (fun c_3 => ?_) (fun c_3 => ?_)
  · skip
    refine v_cell (q0 := 4) (g := cpN w ah k) (g' := w) (ws' := (wR cI cL a w kp bf w ik fd sp lt tp tn he ft vl bt lg ce bw)) rfl (fun j h0 _ => by unfold cpN; rw [if_pos (by omega)]) rfl ?_
    exact v_vret G () trivial rfl dX9_lay_20
  · skip
    refine v_aload_n (j := 2) (x := a 4) G dX9_lay_8 rfl rfl ?_
    refine v_iload_n (j := 0) (x := jI (k : Int)) G dX9_lay_9 rfl rfl ?_
    refine v_aload_n (j := 1) (x := a 1) G dX9_lay_10 rfl rfl ?_
    refine v_iload_n (j := 0) (x := jI (k : Int)) G dX9_lay_11 rfl rfl ?_
    refine v_iald (q0 := 1) (t0 := 0) (g := w) (z := (k : Int)) G rfl rfl (by omega) dX9_lay_12 ?_
    refine v_iast (q0 := 4) (t0 := 0) (g := cpN w ah k) (z := (k : Int)) (x := w (k : Int)) (ws' := (wR cI cL a w kp bf (uI (cpN w ah k) (k : Int) (w (k : Int))) ik fd sp lt tp tn he ft vl bt lg ce bw)) G rfl rfl (by omega) rfl dX9_lay_13 ?_
    refine v_cell (q0 := 4) (g := uI (cpN w ah k) (k : Int) (w (k : Int))) (g' := cpN w ah (k + 1)) (ws' := (wR cI cL a w kp bf (cpN w ah (k + 1)) ik fd sp lt tp tn he ft vl bt lg ce bw)) rfl (fun j h0 _ => cpN_s w ah k j h0) rfl ?_
    refine v_iinc (k := 0) (z := (k : Int)) (z' := ((k + 1 : Nat) : Int)) (lv' := [(2, .int (jI ((k + 1 : Nat) : Int))), (0, .ref (a 1)), (1, .ref (a 4))]) G dX9_lay_14 rfl (by omega) (by decide) rfl ?_
    refine v_goto (tgt := 2) G dX9_lay_17 (by decide) ?_
    exact ih_2 (k + 1) (by omega) (by omega)

set_option maxHeartbeats 4000000 in
set_option maxRecDepth 100000 in
theorem c_X9_lay_ah_w   : Cv l yX9_lay wsX9_lay { frames := 0, cells := 0, slots := 0, locals := 0 } D (jT cI cL cB cS) [.ref (a 4), .ref (a 1)] (wR cI cL a w kp bf ah ik fd sp lt tp tn he ft vl bt lg ce bw) (S := Unit) (fun _ => (wR cI cL a ah kp bf ah ik fd sp lt tp tn he ft vl bt lg ce bw)) (fun _ => True) := by
  refine Cv.mk (cc := cX9_lay) (maxL := 3) (by decide) rfl (Nat.le_of_ble_eq_true rfl) rfl ?_
  intro p_ e_ s_ m_ b_ me_ c_ A_ G hnm
  refine v_iconst G dX9_lay_0 ?_
  refine v_istore_n (lv' := [(2, .int (jI 0)), (0, .ref (a 4)), (1, .ref (a 1))]) G dX9_lay_1 rfl (by decide) rfl ?_
  refine v_cell (q0 := 1) (g := w) (g' := cpN ah w 0) (ws' := (wR cI cL a (cpN ah w 0) kp bf ah ik fd sp lt tp tn he ft vl bt lg ce bw)) rfl (fun j h0 _ => by unfold cpN; rw [if_neg (by omega)]) rfl ?_
  refine v_locs (lv' := [(2, .int (jI 0)), (0, .ref (a 4)), (1, .ref (a 1))]) [0, 1, 2] rfl ?_
  refine v_loop1 (fun (k : Nat) => [(2, .int (jI (k : Int))), (0, .ref (a 4)), (1, .ref (a 1))]) (fun (k : Nat) => (wR cI cL a (cpN ah w k) kp bf ah ik fd sp lt tp tn he ft vl bt lg ce bw)) (fun (k : Nat) => (k : Int) ≤ 93) (fun (k : Nat) => 93 - k) 0 (by decide) rfl rfl ?_
  intro k I_1 ih_2
  refine v_iload_n (j := 0) (x := jI (k : Int)) G dX9_lay_2 rfl rfl ?_
  refine v_bipush G dX9_lay_3 (by decide) ?_
  refine v_icmp_ge (a := (k : Int)) (b := 93) (tgt := 20) G dX9_lay_5 (by decide) (by omega) (fun c_3 => ?_) (fun c_3 => ?_)
  · skip
    refine v_cell (q0 := 1) (g := cpN ah w k) (g' := ah) (ws' := (wR cI cL a ah kp bf ah ik fd sp lt tp tn he ft vl bt lg ce bw)) rfl (fun j h0 _ => by unfold cpN; rw [if_pos (by omega)]) rfl ?_
    exact v_vret G () trivial rfl dX9_lay_20
  · skip
    refine v_aload_n (j := 2) (x := a 1) G dX9_lay_8 rfl rfl ?_
    refine v_iload_n (j := 0) (x := jI (k : Int)) G dX9_lay_9 rfl rfl ?_
    refine v_aload_n (j := 1) (x := a 4) G dX9_lay_10 rfl rfl ?_
    refine v_iload_n (j := 0) (x := jI (k : Int)) G dX9_lay_11 rfl rfl ?_
    refine v_iald (q0 := 4) (t0 := 0) (g := ah) (z := (k : Int)) G rfl rfl (by omega) dX9_lay_12 ?_
    refine v_iast (q0 := 1) (t0 := 0) (g := cpN ah w k) (z := (k : Int)) (x := ah (k : Int)) (ws' := (wR cI cL a (uI (cpN ah w k) (k : Int) (ah (k : Int))) kp bf ah ik fd sp lt tp tn he ft vl bt lg ce bw)) G rfl rfl (by omega) rfl dX9_lay_13 ?_
    refine v_cell (q0 := 1) (g := uI (cpN ah w k) (k : Int) (ah (k : Int))) (g' := cpN ah w (k + 1)) (ws' := (wR cI cL a (cpN ah w (k + 1)) kp bf ah ik fd sp lt tp tn he ft vl bt lg ce bw)) rfl (fun j h0 _ => cpN_s ah w k j h0) rfl ?_
    refine v_iinc (k := 0) (z := (k : Int)) (z' := ((k + 1 : Nat) : Int)) (lv' := [(2, .int (jI ((k + 1 : Nat) : Int))), (0, .ref (a 4)), (1, .ref (a 1))]) G dX9_lay_14 rfl (by omega) (by decide) rfl ?_
    refine v_goto (tgt := 2) G dX9_lay_17 (by decide) ?_
    exact ih_2 (k + 1) (by omega) (by omega)

set_option maxHeartbeats 4000000 in
set_option maxRecDepth 100000 in
theorem c_X9_lay_w_bf   : Cv l yX9_lay wsX9_lay { frames := 0, cells := 0, slots := 0, locals := 0 } D (jT cI cL cB cS) [.ref (a 1), .ref (a 3)] (wR cI cL a w kp bf ah ik fd sp lt tp tn he ft vl bt lg ce bw) (S := Unit) (fun _ => (wR cI cL a w kp w ah ik fd sp lt tp tn he ft vl bt lg ce bw)) (fun _ => True) := by
  refine Cv.mk (cc := cX9_lay) (maxL := 3) (by decide) rfl (Nat.le_of_ble_eq_true rfl) rfl ?_
  intro p_ e_ s_ m_ b_ me_ c_ A_ G hnm
  refine v_iconst G dX9_lay_0 ?_
  refine v_istore_n (lv' := [(2, .int (jI 0)), (0, .ref (a 1)), (1, .ref (a 3))]) G dX9_lay_1 rfl (by decide) rfl ?_
  refine v_cell (q0 := 3) (g := bf) (g' := cpN w bf 0) (ws' := (wR cI cL a w kp (cpN w bf 0) ah ik fd sp lt tp tn he ft vl bt lg ce bw)) rfl (fun j h0 _ => by unfold cpN; rw [if_neg (by omega)]) rfl ?_
  refine v_locs (lv' := [(2, .int (jI 0)), (0, .ref (a 1)), (1, .ref (a 3))]) [0, 1, 2] rfl ?_
  refine v_loop1 (fun (k : Nat) => [(2, .int (jI (k : Int))), (0, .ref (a 1)), (1, .ref (a 3))]) (fun (k : Nat) => (wR cI cL a w kp (cpN w bf k) ah ik fd sp lt tp tn he ft vl bt lg ce bw)) (fun (k : Nat) => (k : Int) ≤ 93) (fun (k : Nat) => 93 - k) 0 (by decide) rfl rfl ?_
  intro k I_1 ih_2
  refine v_iload_n (j := 0) (x := jI (k : Int)) G dX9_lay_2 rfl rfl ?_
  refine v_bipush G dX9_lay_3 (by decide) ?_
  refine v_icmp_ge (a := (k : Int)) (b := 93) (tgt := 20) G dX9_lay_5 (by decide) (by omega) (fun c_3 => ?_) (fun c_3 => ?_)
  · skip
    refine v_cell (q0 := 3) (g := cpN w bf k) (g' := w) (ws' := (wR cI cL a w kp w ah ik fd sp lt tp tn he ft vl bt lg ce bw)) rfl (fun j h0 _ => by unfold cpN; rw [if_pos (by omega)]) rfl ?_
    exact v_vret G () trivial rfl dX9_lay_20
  · skip
    refine v_aload_n (j := 2) (x := a 3) G dX9_lay_8 rfl rfl ?_
    refine v_iload_n (j := 0) (x := jI (k : Int)) G dX9_lay_9 rfl rfl ?_
    refine v_aload_n (j := 1) (x := a 1) G dX9_lay_10 rfl rfl ?_
    refine v_iload_n (j := 0) (x := jI (k : Int)) G dX9_lay_11 rfl rfl ?_
    refine v_iald (q0 := 1) (t0 := 0) (g := w) (z := (k : Int)) G rfl rfl (by omega) dX9_lay_12 ?_
    refine v_iast (q0 := 3) (t0 := 0) (g := cpN w bf k) (z := (k : Int)) (x := w (k : Int)) (ws' := (wR cI cL a w kp (uI (cpN w bf k) (k : Int) (w (k : Int))) ah ik fd sp lt tp tn he ft vl bt lg ce bw)) G rfl rfl (by omega) rfl dX9_lay_13 ?_
    refine v_cell (q0 := 3) (g := uI (cpN w bf k) (k : Int) (w (k : Int))) (g' := cpN w bf (k + 1)) (ws' := (wR cI cL a w kp (cpN w bf (k + 1)) ah ik fd sp lt tp tn he ft vl bt lg ce bw)) rfl (fun j h0 _ => cpN_s w bf k j h0) rfl ?_
    refine v_iinc (k := 0) (z := (k : Int)) (z' := ((k + 1 : Nat) : Int)) (lv' := [(2, .int (jI ((k + 1 : Nat) : Int))), (0, .ref (a 1)), (1, .ref (a 3))]) G dX9_lay_14 rfl (by omega) (by decide) rfl ?_
    refine v_goto (tgt := 2) G dX9_lay_17 (by decide) ?_
    exact ih_2 (k + 1) (by omega) (by omega)

set_option maxHeartbeats 4000000 in
set_option maxRecDepth 100000 in
theorem c_X9_lay_bf_w   : Cv l yX9_lay wsX9_lay { frames := 0, cells := 0, slots := 0, locals := 0 } D (jT cI cL cB cS) [.ref (a 3), .ref (a 1)] (wR cI cL a w kp bf ah ik fd sp lt tp tn he ft vl bt lg ce bw) (S := Unit) (fun _ => (wR cI cL a bf kp bf ah ik fd sp lt tp tn he ft vl bt lg ce bw)) (fun _ => True) := by
  refine Cv.mk (cc := cX9_lay) (maxL := 3) (by decide) rfl (Nat.le_of_ble_eq_true rfl) rfl ?_
  intro p_ e_ s_ m_ b_ me_ c_ A_ G hnm
  refine v_iconst G dX9_lay_0 ?_
  refine v_istore_n (lv' := [(2, .int (jI 0)), (0, .ref (a 3)), (1, .ref (a 1))]) G dX9_lay_1 rfl (by decide) rfl ?_
  refine v_cell (q0 := 1) (g := w) (g' := cpN bf w 0) (ws' := (wR cI cL a (cpN bf w 0) kp bf ah ik fd sp lt tp tn he ft vl bt lg ce bw)) rfl (fun j h0 _ => by unfold cpN; rw [if_neg (by omega)]) rfl ?_
  refine v_locs (lv' := [(2, .int (jI 0)), (0, .ref (a 3)), (1, .ref (a 1))]) [0, 1, 2] rfl ?_
  refine v_loop1 (fun (k : Nat) => [(2, .int (jI (k : Int))), (0, .ref (a 3)), (1, .ref (a 1))]) (fun (k : Nat) => (wR cI cL a (cpN bf w k) kp bf ah ik fd sp lt tp tn he ft vl bt lg ce bw)) (fun (k : Nat) => (k : Int) ≤ 93) (fun (k : Nat) => 93 - k) 0 (by decide) rfl rfl ?_
  intro k I_1 ih_2
  refine v_iload_n (j := 0) (x := jI (k : Int)) G dX9_lay_2 rfl rfl ?_
  refine v_bipush G dX9_lay_3 (by decide) ?_
  refine v_icmp_ge (a := (k : Int)) (b := 93) (tgt := 20) G dX9_lay_5 (by decide) (by omega) (fun c_3 => ?_) (fun c_3 => ?_)
  · skip
    refine v_cell (q0 := 1) (g := cpN bf w k) (g' := bf) (ws' := (wR cI cL a bf kp bf ah ik fd sp lt tp tn he ft vl bt lg ce bw)) rfl (fun j h0 _ => by unfold cpN; rw [if_pos (by omega)]) rfl ?_
    exact v_vret G () trivial rfl dX9_lay_20
  · skip
    refine v_aload_n (j := 2) (x := a 1) G dX9_lay_8 rfl rfl ?_
    refine v_iload_n (j := 0) (x := jI (k : Int)) G dX9_lay_9 rfl rfl ?_
    refine v_aload_n (j := 1) (x := a 3) G dX9_lay_10 rfl rfl ?_
    refine v_iload_n (j := 0) (x := jI (k : Int)) G dX9_lay_11 rfl rfl ?_
    refine v_iald (q0 := 3) (t0 := 0) (g := bf) (z := (k : Int)) G rfl rfl (by omega) dX9_lay_12 ?_
    refine v_iast (q0 := 1) (t0 := 0) (g := cpN bf w k) (z := (k : Int)) (x := bf (k : Int)) (ws' := (wR cI cL a (uI (cpN bf w k) (k : Int) (bf (k : Int))) kp bf ah ik fd sp lt tp tn he ft vl bt lg ce bw)) G rfl rfl (by omega) rfl dX9_lay_13 ?_
    refine v_cell (q0 := 1) (g := uI (cpN bf w k) (k : Int) (bf (k : Int))) (g' := cpN bf w (k + 1)) (ws' := (wR cI cL a (cpN bf w (k + 1)) kp bf ah ik fd sp lt tp tn he ft vl bt lg ce bw)) rfl (fun j h0 _ => cpN_s bf w k j h0) rfl ?_
    refine v_iinc (k := 0) (z := (k : Int)) (z' := ((k + 1 : Nat) : Int)) (lv' := [(2, .int (jI ((k + 1 : Nat) : Int))), (0, .ref (a 3)), (1, .ref (a 1))]) G dX9_lay_14 rfl (by omega) (by decide) rfl ?_
    refine v_goto (tgt := 2) G dX9_lay_17 (by decide) ?_
    exact ih_2 (k + 1) (by omega) (by omega)

set_option maxHeartbeats 4000000 in
set_option maxRecDepth 100000 in
theorem c_X9_lay_w_kp   : Cv l yX9_lay wsX9_lay { frames := 0, cells := 0, slots := 0, locals := 0 } D (jT cI cL cB cS) [.ref (a 1), .ref (a 2)] (wR cI cL a w kp bf ah ik fd sp lt tp tn he ft vl bt lg ce bw) (S := Unit) (fun _ => (wR cI cL a w w bf ah ik fd sp lt tp tn he ft vl bt lg ce bw)) (fun _ => True) := by
  refine Cv.mk (cc := cX9_lay) (maxL := 3) (by decide) rfl (Nat.le_of_ble_eq_true rfl) rfl ?_
  intro p_ e_ s_ m_ b_ me_ c_ A_ G hnm
  refine v_iconst G dX9_lay_0 ?_
  refine v_istore_n (lv' := [(2, .int (jI 0)), (0, .ref (a 1)), (1, .ref (a 2))]) G dX9_lay_1 rfl (by decide) rfl ?_
  refine v_cell (q0 := 2) (g := kp) (g' := cpN w kp 0) (ws' := (wR cI cL a w (cpN w kp 0) bf ah ik fd sp lt tp tn he ft vl bt lg ce bw)) rfl (fun j h0 _ => by unfold cpN; rw [if_neg (by omega)]) rfl ?_
  refine v_locs (lv' := [(2, .int (jI 0)), (0, .ref (a 1)), (1, .ref (a 2))]) [0, 1, 2] rfl ?_
  refine v_loop1 (fun (k : Nat) => [(2, .int (jI (k : Int))), (0, .ref (a 1)), (1, .ref (a 2))]) (fun (k : Nat) => (wR cI cL a w (cpN w kp k) bf ah ik fd sp lt tp tn he ft vl bt lg ce bw)) (fun (k : Nat) => (k : Int) ≤ 93) (fun (k : Nat) => 93 - k) 0 (by decide) rfl rfl ?_
  intro k I_1 ih_2
  refine v_iload_n (j := 0) (x := jI (k : Int)) G dX9_lay_2 rfl rfl ?_
  refine v_bipush G dX9_lay_3 (by decide) ?_
  refine v_icmp_ge (a := (k : Int)) (b := 93) (tgt := 20) G dX9_lay_5 (by decide) (by omega) (fun c_3 => ?_) (fun c_3 => ?_)
  · skip
    refine v_cell (q0 := 2) (g := cpN w kp k) (g' := w) (ws' := (wR cI cL a w w bf ah ik fd sp lt tp tn he ft vl bt lg ce bw)) rfl (fun j h0 _ => by unfold cpN; rw [if_pos (by omega)]) rfl ?_
    exact v_vret G () trivial rfl dX9_lay_20
  · skip
    refine v_aload_n (j := 2) (x := a 2) G dX9_lay_8 rfl rfl ?_
    refine v_iload_n (j := 0) (x := jI (k : Int)) G dX9_lay_9 rfl rfl ?_
    refine v_aload_n (j := 1) (x := a 1) G dX9_lay_10 rfl rfl ?_
    refine v_iload_n (j := 0) (x := jI (k : Int)) G dX9_lay_11 rfl rfl ?_
    refine v_iald (q0 := 1) (t0 := 0) (g := w) (z := (k : Int)) G rfl rfl (by omega) dX9_lay_12 ?_
    refine v_iast (q0 := 2) (t0 := 0) (g := cpN w kp k) (z := (k : Int)) (x := w (k : Int)) (ws' := (wR cI cL a w (uI (cpN w kp k) (k : Int) (w (k : Int))) bf ah ik fd sp lt tp tn he ft vl bt lg ce bw)) G rfl rfl (by omega) rfl dX9_lay_13 ?_
    refine v_cell (q0 := 2) (g := uI (cpN w kp k) (k : Int) (w (k : Int))) (g' := cpN w kp (k + 1)) (ws' := (wR cI cL a w (cpN w kp (k + 1)) bf ah ik fd sp lt tp tn he ft vl bt lg ce bw)) rfl (fun j h0 _ => cpN_s w kp k j h0) rfl ?_
    refine v_iinc (k := 0) (z := (k : Int)) (z' := ((k + 1 : Nat) : Int)) (lv' := [(2, .int (jI ((k + 1 : Nat) : Int))), (0, .ref (a 1)), (1, .ref (a 2))]) G dX9_lay_14 rfl (by omega) (by decide) rfl ?_
    refine v_goto (tgt := 2) G dX9_lay_17 (by decide) ?_
    exact ih_2 (k + 1) (by omega) (by omega)

set_option maxHeartbeats 4000000 in
set_option maxRecDepth 100000 in
theorem c_X9_lay_kp_w   : Cv l yX9_lay wsX9_lay { frames := 0, cells := 0, slots := 0, locals := 0 } D (jT cI cL cB cS) [.ref (a 2), .ref (a 1)] (wR cI cL a w kp bf ah ik fd sp lt tp tn he ft vl bt lg ce bw) (S := Unit) (fun _ => (wR cI cL a kp kp bf ah ik fd sp lt tp tn he ft vl bt lg ce bw)) (fun _ => True) := by
  refine Cv.mk (cc := cX9_lay) (maxL := 3) (by decide) rfl (Nat.le_of_ble_eq_true rfl) rfl ?_
  intro p_ e_ s_ m_ b_ me_ c_ A_ G hnm
  refine v_iconst G dX9_lay_0 ?_
  refine v_istore_n (lv' := [(2, .int (jI 0)), (0, .ref (a 2)), (1, .ref (a 1))]) G dX9_lay_1 rfl (by decide) rfl ?_
  refine v_cell (q0 := 1) (g := w) (g' := cpN kp w 0) (ws' := (wR cI cL a (cpN kp w 0) kp bf ah ik fd sp lt tp tn he ft vl bt lg ce bw)) rfl (fun j h0 _ => by unfold cpN; rw [if_neg (by omega)]) rfl ?_
  refine v_locs (lv' := [(2, .int (jI 0)), (0, .ref (a 2)), (1, .ref (a 1))]) [0, 1, 2] rfl ?_
  refine v_loop1 (fun (k : Nat) => [(2, .int (jI (k : Int))), (0, .ref (a 2)), (1, .ref (a 1))]) (fun (k : Nat) => (wR cI cL a (cpN kp w k) kp bf ah ik fd sp lt tp tn he ft vl bt lg ce bw)) (fun (k : Nat) => (k : Int) ≤ 93) (fun (k : Nat) => 93 - k) 0 (by decide) rfl rfl ?_
  intro k I_1 ih_2
  refine v_iload_n (j := 0) (x := jI (k : Int)) G dX9_lay_2 rfl rfl ?_
  refine v_bipush G dX9_lay_3 (by decide) ?_
  refine v_icmp_ge (a := (k : Int)) (b := 93) (tgt := 20) G dX9_lay_5 (by decide) (by omega) (fun c_3 => ?_) (fun c_3 => ?_)
  · skip
    refine v_cell (q0 := 1) (g := cpN kp w k) (g' := kp) (ws' := (wR cI cL a kp kp bf ah ik fd sp lt tp tn he ft vl bt lg ce bw)) rfl (fun j h0 _ => by unfold cpN; rw [if_pos (by omega)]) rfl ?_
    exact v_vret G () trivial rfl dX9_lay_20
  · skip
    refine v_aload_n (j := 2) (x := a 1) G dX9_lay_8 rfl rfl ?_
    refine v_iload_n (j := 0) (x := jI (k : Int)) G dX9_lay_9 rfl rfl ?_
    refine v_aload_n (j := 1) (x := a 2) G dX9_lay_10 rfl rfl ?_
    refine v_iload_n (j := 0) (x := jI (k : Int)) G dX9_lay_11 rfl rfl ?_
    refine v_iald (q0 := 2) (t0 := 0) (g := kp) (z := (k : Int)) G rfl rfl (by omega) dX9_lay_12 ?_
    refine v_iast (q0 := 1) (t0 := 0) (g := cpN kp w k) (z := (k : Int)) (x := kp (k : Int)) (ws' := (wR cI cL a (uI (cpN kp w k) (k : Int) (kp (k : Int))) kp bf ah ik fd sp lt tp tn he ft vl bt lg ce bw)) G rfl rfl (by omega) rfl dX9_lay_13 ?_
    refine v_cell (q0 := 1) (g := uI (cpN kp w k) (k : Int) (kp (k : Int))) (g' := cpN kp w (k + 1)) (ws' := (wR cI cL a (cpN kp w (k + 1)) kp bf ah ik fd sp lt tp tn he ft vl bt lg ce bw)) rfl (fun j h0 _ => cpN_s kp w k j h0) rfl ?_
    refine v_iinc (k := 0) (z := (k : Int)) (z' := ((k + 1 : Nat) : Int)) (lv' := [(2, .int (jI ((k + 1 : Nat) : Int))), (0, .ref (a 2)), (1, .ref (a 1))]) G dX9_lay_14 rfl (by omega) (by decide) rfl ?_
    refine v_goto (tgt := 2) G dX9_lay_17 (by decide) ?_
    exact ih_2 (k + 1) (by omega) (by omega)

set_option maxHeartbeats 4000000 in
set_option maxRecDepth 100000 in
theorem c_X9_puts (x v : Int) (hx : 0 ≤ x ∧ x < 93) : Ci l yX9_puts wsX9_puts { frames := 0, cells := 0, slots := 0, locals := 0 } D (jT cI cL cB cS) [.ref (a 0), .int (jI x), .int (jI v)] (wR cI cL a w kp bf ah ik fd sp lt tp tn he ft vl bt lg ce bw) (S := Unit) (fun _ => (wR cI cL a (uI w x v) kp bf ah ik fd sp lt tp tn he ft vl bt lg ce bw)) (fun r _ => r = jI (w x)) := by
  refine Ci.mk (cc := cX9_puts) (maxL := 4) (rt := .int) (by decide) rfl (Nat.le_of_ble_eq_true rfl) rfl ?_
  intro p_ e_ s_ m_ b_ me_ c_ A_ G hnm
  have k_X9 : ∀ w ∈ u_ws RX9 TX9 17, w ∈ wsX9_puts := fun _ h => List.mem_cons_of_mem _ (List.mem_append_right _ h)
  have q_1 : Cond.fieldLink RX9 9 "SupperLightModel" "s" "[I" ∈ wsX9_puts := List.mem_of_getElem? (i := 1) rfl
  refine v_aload_n (j := 0) (x := a 0) G dX9_puts_0 rfl rfl ?_
  refine v_get (q0 := 0) (k := 0) (v := .ref (a 1)) G k_X9 rfl rfl (by decide) q_1 rfl rfl dX9_puts_1 ?_
  refine v_iload_n (j := 1) (x := jI x) G dX9_puts_4 rfl rfl ?_
  refine v_iald (q0 := 1) (t0 := 0) (g := w) (z := x) G rfl rfl (by omega) dX9_puts_5 ?_
  refine v_istore_n (lv' := [(3, .int (jI (w x))), (0, .ref (a 0)), (1, .int (jI x)), (2, .int (jI v))]) G dX9_puts_6 rfl (by decide) rfl ?_
  refine v_aload_n (j := 1) (x := a 0) G dX9_puts_7 rfl rfl ?_
  refine v_get (q0 := 0) (k := 0) (v := .ref (a 1)) G k_X9 rfl rfl (by decide) q_1 rfl rfl dX9_puts_8 ?_
  refine v_iload_n (j := 2) (x := jI x) G dX9_puts_11 rfl rfl ?_
  refine v_iload_n (j := 3) (x := jI v) G dX9_puts_12 rfl rfl ?_
  refine v_iast (q0 := 1) (t0 := 0) (g := w) (z := x) (x := v) (ws' := (wR cI cL a (uI w x v) kp bf ah ik fd sp lt tp tn he ft vl bt lg ce bw)) G rfl rfl (by omega) rfl dX9_puts_13 ?_
  refine v_iload_n (j := 0) (x := jI (w x)) G dX9_puts_14 rfl rfl ?_
  exact v_iret G () rfl rfl dX9_puts_15

set_option maxHeartbeats 4000000 in
set_option maxRecDepth 100000 in
theorem c_X9_isPlace (p : Int) (hr : (-2147483648 ≤ p ∧ p ≤ 2147483647)) : Ci l yX9_isPlace wsX9_isPlace { frames := 1, cells := 0, slots := 0, locals := 22 } D (jT cI cL cB cS) [.int (jI p)] [] (S := Unit) (fun _ => []) (fun r _ => r = jI (b2 (0 ≤ p ∧ p ≤ 15))) := by
  refine Ci.mk (cc := cX9_isPlace) (maxL := 1) (rt := .boolean) (by decide) rfl (Nat.le_of_ble_eq_true rfl) rfl ?_
  intro p_ e_ s_ m_ b_ me_ c_ A_ G hnm
  refine v_iload_n (j := 0) (x := jI p) G dX9_isPlace_0 rfl rfl ?_
  refine v_iconst G dX9_isPlace_1 ?_
  refine v_bipush G dX9_isPlace_2 (by decide) ?_
  refine v_ciF G (rn_S (As := [.int (jI p), .int (jI 0), .int (jI 15)]) (rest := []) G (c_X9_in (v := p) (lo := 0) (hi := 15) (hr := (by omega))) gX9_isPlace_X9_in rfl hdX9_in ⟨rfl, rfl, Nat.le_of_ble_eq_true rfl, Nat.le_of_ble_eq_true rfl⟩ rfl rfl (Nat.le_of_ble_eq_true rfl) ⟨Nat.zero_le _, Nat.zero_le _⟩ dX9_isPlace_4) (fun r_1 u_3 e_2 => ?_)
  have e_2 : r_1 = jI (b2 (0 ≤ p ∧ p ≤ 15)) := e_2
  subst e_2
  exact v_zret G () (nb_b2 _) rfl rfl dX9_isPlace_7

set_option maxHeartbeats 4000000 in
set_option maxRecDepth 100000 in
theorem c_X9_isKind (k : Int) (hr : (-2147483648 ≤ k ∧ k ≤ 2147483647)) : Ci l yX9_isKind wsX9_isKind { frames := 1, cells := 0, slots := 0, locals := 22 } D (jT cI cL cB cS) [.int (jI k)] [] (S := Unit) (fun _ => []) (fun r _ => r = jI (b2 (0 ≤ k ∧ k ≤ 5))) := by
  refine Ci.mk (cc := cX9_isKind) (maxL := 1) (rt := .boolean) (by decide) rfl (Nat.le_of_ble_eq_true rfl) rfl ?_
  intro p_ e_ s_ m_ b_ me_ c_ A_ G hnm
  refine v_iload_n (j := 0) (x := jI k) G dX9_isKind_0 rfl rfl ?_
  refine v_iconst G dX9_isKind_1 ?_
  refine v_iconst G dX9_isKind_2 ?_
  refine v_ciF G (rn_S (As := [.int (jI k), .int (jI 0), .int (jI 5)]) (rest := []) G (c_X9_in (v := k) (lo := 0) (hi := 5) (hr := (by omega))) gX9_isKind_X9_in rfl hdX9_in ⟨rfl, rfl, Nat.le_of_ble_eq_true rfl, Nat.le_of_ble_eq_true rfl⟩ rfl rfl (Nat.le_of_ble_eq_true rfl) ⟨Nat.zero_le _, Nat.zero_le _⟩ dX9_isKind_3) (fun r_1 u_3 e_2 => ?_)
  have e_2 : r_1 = jI (b2 (0 ≤ k ∧ k ≤ 5)) := e_2
  subst e_2
  exact v_zret G () (nb_b2 _) rfl rfl dX9_isKind_6

set_option maxHeartbeats 4000000 in
set_option maxRecDepth 100000 in
theorem c_X9_isBeing (b : Int) (hw : Wf w) (hr : (-2147483648 ≤ b ∧ b ≤ 2147483647)) : Ci l yX9_isBeing wsX9_isBeing { frames := 1, cells := 0, slots := 0, locals := 22 } D (jT cI cL cB cS) [.ref (a 0), .int (jI b)] (wR cI cL a w kp bf ah ik fd sp lt tp tn he ft vl bt lg ce bw) (S := Unit) (fun _ => (wR cI cL a w kp bf ah ik fd sp lt tp tn he ft vl bt lg ce bw)) (fun r _ => r = jI (b2 (0 ≤ b ∧ b ≤ w 1 - 1))) := by
  refine Ci.mk (cc := cX9_isBeing) (maxL := 2) (rt := .boolean) (by decide) rfl (Nat.le_of_ble_eq_true rfl) rfl ?_
  intro p_ e_ s_ m_ b_ me_ c_ A_ G hnm
  have hm := hw.many
  have k_X9 : ∀ w ∈ u_ws RX9 TX9 17, w ∈ wsX9_isBeing := fun _ h => List.mem_cons_of_mem _ (List.mem_append_right _ h)
  have q_1 : Cond.fieldLink RX9 9 "SupperLightModel" "s" "[I" ∈ wsX9_isBeing := List.mem_of_getElem? (i := 1) rfl
  refine v_iload_n (j := 1) (x := jI b) G dX9_isBeing_0 rfl rfl ?_
  refine v_iconst G dX9_isBeing_1 ?_
  refine v_aload_n (j := 0) (x := a 0) G dX9_isBeing_2 rfl rfl ?_
  refine v_get (q0 := 0) (k := 0) (v := .ref (a 1)) G k_X9 rfl rfl (by decide) q_1 rfl rfl dX9_isBeing_3 ?_
  refine v_iconst G dX9_isBeing_6 ?_
  refine v_iald (q0 := 1) (t0 := 0) (g := w) (z := 1) G rfl rfl (by omega) dX9_isBeing_7 ?_
  refine v_iconst G dX9_isBeing_8 ?_
  refine v_isub (z := (w 1) - 1) G dX9_isBeing_9 rfl ?_
  refine v_ciN G (rn_S (As := [.int (jI b), .int (jI 0), .int (jI ((w 1) - 1))]) (rest := []) G (c_X9_in (v := b) (lo := 0) (hi := (w 1) - 1) (hr := (by omega))) gX9_isBeing_X9_in rfl hdX9_in ⟨rfl, rfl, Nat.le_of_ble_eq_true rfl, Nat.le_of_ble_eq_true rfl⟩ rfl rfl (Nat.le_of_ble_eq_true rfl) ⟨Nat.zero_le _, Nat.zero_le _⟩ dX9_isBeing_10) (fun r_1 u_3 e_2 => ?_)
  have e_2 : r_1 = jI (b2 (0 ≤ b ∧ b ≤ ((w 1) - 1))) := e_2
  subst e_2
  exact v_zret G () (nb_b2 _) (show jI (b2 (0 ≤ b ∧ b ≤ ((w 1) - 1))) = jI (b2 (0 ≤ b ∧ b ≤ w 1 - 1)) from congrArg jI (by omega)) rfl dX9_isBeing_13

set_option maxHeartbeats 4000000 in
set_option maxRecDepth 100000 in
theorem c_X9_isTask (t : Int) (hw : Wf w) (hr : (-2147483648 ≤ t ∧ t ≤ 2147483647)) : Ci l yX9_isTask wsX9_isTask { frames := 1, cells := 0, slots := 0, locals := 22 } D (jT cI cL cB cS) [.ref (a 0), .int (jI t)] (wR cI cL a w kp bf ah ik fd sp lt tp tn he ft vl bt lg ce bw) (S := Unit) (fun _ => (wR cI cL a w kp bf ah ik fd sp lt tp tn he ft vl bt lg ce bw)) (fun r _ => r = jI (b2 (0 ≤ t ∧ t ≤ w 2 - 1))) := by
  refine Ci.mk (cc := cX9_isTask) (maxL := 2) (rt := .boolean) (by decide) rfl (Nat.le_of_ble_eq_true rfl) rfl ?_
  intro p_ e_ s_ m_ b_ me_ c_ A_ G hnm
  have hm := hw.tasks
  have k_X9 : ∀ w ∈ u_ws RX9 TX9 17, w ∈ wsX9_isTask := fun _ h => List.mem_cons_of_mem _ (List.mem_append_right _ h)
  have q_1 : Cond.fieldLink RX9 9 "SupperLightModel" "s" "[I" ∈ wsX9_isTask := List.mem_of_getElem? (i := 1) rfl
  refine v_iload_n (j := 1) (x := jI t) G dX9_isTask_0 rfl rfl ?_
  refine v_iconst G dX9_isTask_1 ?_
  refine v_aload_n (j := 0) (x := a 0) G dX9_isTask_2 rfl rfl ?_
  refine v_get (q0 := 0) (k := 0) (v := .ref (a 1)) G k_X9 rfl rfl (by decide) q_1 rfl rfl dX9_isTask_3 ?_
  refine v_iconst G dX9_isTask_6 ?_
  refine v_iald (q0 := 1) (t0 := 0) (g := w) (z := 2) G rfl rfl (by omega) dX9_isTask_7 ?_
  refine v_iconst G dX9_isTask_8 ?_
  refine v_isub (z := (w 2) - 1) G dX9_isTask_9 rfl ?_
  refine v_ciN G (rn_S (As := [.int (jI t), .int (jI 0), .int (jI ((w 2) - 1))]) (rest := []) G (c_X9_in (v := t) (lo := 0) (hi := (w 2) - 1) (hr := (by omega))) gX9_isTask_X9_in rfl hdX9_in ⟨rfl, rfl, Nat.le_of_ble_eq_true rfl, Nat.le_of_ble_eq_true rfl⟩ rfl rfl (Nat.le_of_ble_eq_true rfl) ⟨Nat.zero_le _, Nat.zero_le _⟩ dX9_isTask_10) (fun r_1 u_3 e_2 => ?_)
  have e_2 : r_1 = jI (b2 (0 ≤ t ∧ t ≤ ((w 2) - 1))) := e_2
  subst e_2
  exact v_zret G () (nb_b2 _) (show jI (b2 (0 ≤ t ∧ t ≤ ((w 2) - 1))) = jI (b2 (0 ≤ t ∧ t ≤ w 2 - 1)) from congrArg jI (by omega)) rfl dX9_isTask_13

set_option maxHeartbeats 4000000 in
set_option maxRecDepth 100000 in
theorem c_X9_has (x : Int32) (k : Int)  : Ci l yX9_has wsX9_has { frames := 0, cells := 0, slots := 0, locals := 0 } D (jT cI cL cB cS) [.int x, .int (jI k)] [] (S := Unit) (fun _ => []) (fun r _ => r = jI (b2 ((x >>> (jI k &&& 31)) &&& jI 1 = jI 1))) := by
  refine Ci.mk (cc := cX9_has) (maxL := 2) (rt := .boolean) (by decide) rfl (Nat.le_of_ble_eq_true rfl) rfl ?_
  intro p_ e_ s_ m_ b_ me_ c_ A_ G hnm
  refine v_iload_n (j := 0) (x := x) G dX9_has_0 rfl rfl ?_
  refine v_iload_n (j := 1) (x := jI k) G dX9_has_1 rfl rfl ?_
  refine v_ishr (v := x >>> ((jI k) &&& 31)) G dX9_has_2 rfl ?_
  refine v_iconst G dX9_has_3 ?_
  refine v_iand (v := (x >>> ((jI k) &&& 31)) &&& (jI 1)) G dX9_has_4 rfl ?_
  refine v_iconst G dX9_has_5 ?_
  refine v_ricmp_ne (tgt := 13) G dX9_has_6 (by decide) (fun c_1 => ?_) (fun c_1 => ?_)
  · skip
    refine v_iconst G dX9_has_13 ?_
    exact v_zret G () nb_0 (show jI 0 = jI (b2 ((x >>> (jI k &&& 31)) &&& jI 1 = jI 1)) from congrArg jI (b2_f (P := (x >>> (jI k &&& 31)) &&& jI 1 = jI 1) (by assumption)).symm) rfl dX9_has_14
  · skip
    refine v_iconst G dX9_has_9 ?_
    refine v_goto (tgt := 14) G dX9_has_10 (by decide) ?_
    exact v_zret G () nb_1 (show jI 1 = jI (b2 ((x >>> (jI k &&& 31)) &&& jI 1 = jI 1)) from congrArg jI (b2_t (P := (x >>> (jI k &&& 31)) &&& jI 1 = jI 1) (by assumption)).symm) rfl dX9_has_14

set_option maxHeartbeats 4000000 in
set_option maxRecDepth 100000 in
theorem c_X9_ones (x : Int32)  : Ci l yX9_ones wsX9_ones { frames := 0, cells := 0, slots := 0, locals := 0 } D (jT cI cL cB cS) [.int x] [] (S := Unit) (fun _ => []) (fun r _ => r = onesN x 32) := by
  refine Ci.mk (cc := cX9_ones) (maxL := 3) (rt := .int) (by decide) rfl (Nat.le_of_ble_eq_true rfl) rfl ?_
  intro p_ e_ s_ m_ b_ me_ c_ A_ G hnm
  refine v_iconst G dX9_ones_0 ?_
  refine v_istore_n (lv' := [(1, .int (jI 0)), (0, .int x)]) G dX9_ones_1 rfl (by decide) rfl ?_
  refine v_iconst G dX9_ones_2 ?_
  refine v_istore_n (lv' := [(2, .int (jI 0)), (1, .int (jI 0)), (0, .int x)]) G dX9_ones_3 rfl (by decide) rfl ?_
  refine v_locs (lv' := [(2, .int (jI 0)), (1, .int (jI 0)), (0, .int x)]) [0, 1, 2] rfl ?_
  refine v_loop1 (fun (k : Nat) => [(2, .int (jI (k : Int))), (1, .int (onesN x k)), (0, .int x)]) (fun (k : Nat) => []) (fun (k : Nat) => (k : Int) ≤ 32) (fun (k : Nat) => 32 - k) 0 (by decide) rfl rfl ?_
  intro k I_1 ih_2
  refine v_iload_n (j := 0) (x := jI (k : Int)) G dX9_ones_4 rfl rfl ?_
  refine v_bipush G dX9_ones_5 (by decide) ?_
  refine v_icmp_ge (a := (k : Int)) (b := 32) (tgt := 24) G dX9_ones_7 (by decide) (by omega) (fun c_3 => ?_) (fun c_3 => ?_)
  · skip
    refine v_iload_n (j := 1) (x := onesN x k) G dX9_ones_24 rfl rfl ?_
    exact v_iret G () (show onesN x k = onesN x 32 from by rw [show k = 32 by omega]) rfl dX9_ones_25
  · skip
    refine v_iload_n (j := 1) (x := onesN x k) G dX9_ones_10 rfl rfl ?_
    refine v_iload_n (j := 2) (x := x) G dX9_ones_11 rfl rfl ?_
    refine v_iload_n (j := 0) (x := jI (k : Int)) G dX9_ones_12 rfl rfl ?_
    refine v_iushr (v := (x.toUInt32 >>> ((jI (k : Int)).toUInt32 &&& Int32.toUInt32 31)).toInt32) G dX9_ones_13 rfl ?_
    refine v_iconst G dX9_ones_14 ?_
    refine v_iand (v := ((x.toUInt32 >>> ((jI (k : Int)).toUInt32 &&& Int32.toUInt32 31)).toInt32) &&& (jI 1)) G dX9_ones_15 rfl ?_
    refine v_riadd (v := (onesN x k) + (((x.toUInt32 >>> ((jI (k : Int)).toUInt32 &&& Int32.toUInt32 31)).toInt32) &&& (jI 1))) G dX9_ones_16 rfl ?_
    refine v_top (x := (onesN x k) + (((x.toUInt32 >>> ((jI (k : Int)).toUInt32 &&& Int32.toUInt32 31)).toInt32) &&& (jI 1))) (y := onesN x (k + 1)) rfl ?_
    refine v_istore_n (lv' := [(1, .int (onesN x (k + 1))), (2, .int (jI (k : Int))), (0, .int x)]) G dX9_ones_17 rfl (by decide) rfl ?_
    refine v_iinc (k := 1) (z := (k : Int)) (z' := ((k + 1 : Nat) : Int)) (lv' := [(2, .int (jI ((k + 1 : Nat) : Int))), (1, .int (onesN x (k + 1))), (0, .int x)]) G dX9_ones_18 rfl (by omega) (by decide) rfl ?_
    refine v_goto (tgt := 4) G dX9_ones_21 (by decide) ?_
    exact ih_2 (k + 1) (by omega) (by omega)

set_option maxHeartbeats 4000000 in
set_option maxRecDepth 100000 in
theorem c_X9_at (b k : Int)  : Ci l yX9_at wsX9_at { frames := 0, cells := 0, slots := 0, locals := 0 } D (jT cI cL cB cS) [.ref (a 0), .int (jI b), .int (jI k)] (wR cI cL a w kp bf ah ik fd sp lt tp tn he ft vl bt lg ce bw) (S := Unit) (fun _ => (wR cI cL a w kp bf ah ik fd sp lt tp tn he ft vl bt lg ce bw)) (fun r _ => r = jI (19 + 5 * b + k)) := by
  refine Ci.mk (cc := cX9_at) (maxL := 3) (rt := .int) (by decide) rfl (Nat.le_of_ble_eq_true rfl) rfl ?_
  intro p_ e_ s_ m_ b_ me_ c_ A_ G hnm
  refine v_bipush G dX9_at_0 (by decide) ?_
  refine v_iconst G dX9_at_2 ?_
  refine v_iload_n (j := 1) (x := jI b) G dX9_at_3 rfl rfl ?_
  refine v_imul (z := 5 * b) G dX9_at_4 rfl ?_
  refine v_iadd (z := 19 + (5 * b)) G dX9_at_5 rfl ?_
  refine v_iload_n (j := 2) (x := jI k) G dX9_at_6 rfl rfl ?_
  refine v_iadd (z := (19 + (5 * b)) + k) G dX9_at_7 rfl ?_
  exact v_iret G () (show jI ((19 + (5 * b)) + k) = jI (19 + 5 * b + k) from congrArg jI (by omega)) rfl dX9_at_8

set_option maxHeartbeats 4000000 in
set_option maxRecDepth 100000 in
theorem c_X9_is (b k : Int) (hb : (0 ≤ b ∧ b < 10) ∧ 0 ≤ k ∧ k < 5) : Ci l yX9_is wsX9_is { frames := 0, cells := 0, slots := 0, locals := 0 } D (jT cI cL cB cS) [.ref (a 0), .int (jI b), .int (jI k)] (wR cI cL a w kp bf ah ik fd sp lt tp tn he ft vl bt lg ce bw) (S := Unit) (fun _ => (wR cI cL a w kp bf ah ik fd sp lt tp tn he ft vl bt lg ce bw)) (fun r _ => r = jI (fB w b k)) := by
  refine Ci.mk (cc := cX9_is) (maxL := 3) (rt := .int) (by decide) rfl (Nat.le_of_ble_eq_true rfl) rfl ?_
  intro p_ e_ s_ m_ b_ me_ c_ A_ G hnm
  have k_X9 : ∀ w ∈ u_ws RX9 TX9 17, w ∈ wsX9_is := fun _ h => List.mem_cons_of_mem _ (List.mem_append_right _ h)
  have q_1 : Cond.fieldLink RX9 9 "SupperLightModel" "s" "[I" ∈ wsX9_is := List.mem_of_getElem? (i := 1) rfl
  refine v_aload_n (j := 0) (x := a 0) G dX9_is_0 rfl rfl ?_
  refine v_get (q0 := 0) (k := 0) (v := .ref (a 1)) G k_X9 rfl rfl (by decide) q_1 rfl rfl dX9_is_1 ?_
  refine v_bipush G dX9_is_4 (by decide) ?_
  refine v_iconst G dX9_is_6 ?_
  refine v_iload_n (j := 1) (x := jI b) G dX9_is_7 rfl rfl ?_
  refine v_imul (z := 5 * b) G dX9_is_8 rfl ?_
  refine v_iadd (z := 19 + (5 * b)) G dX9_is_9 rfl ?_
  refine v_iload_n (j := 2) (x := jI k) G dX9_is_10 rfl rfl ?_
  refine v_iadd (z := (19 + (5 * b)) + k) G dX9_is_11 rfl ?_
  refine v_iald (q0 := 1) (t0 := 0) (g := w) (z := (19 + (5 * b)) + k) G rfl rfl (by omega) dX9_is_12 ?_
  exact v_iret G () (show jI (w ((19 + (5 * b)) + k)) = jI (fB w b k) from rfl) rfl dX9_is_13

set_option maxHeartbeats 4000000 in
set_option maxRecDepth 100000 in
theorem c_X9_taskIs (t k : Int) (ht : (0 ≤ t ∧ t < 8) ∧ 0 ≤ k ∧ k < 3) : Ci l yX9_taskIs wsX9_taskIs { frames := 0, cells := 0, slots := 0, locals := 0 } D (jT cI cL cB cS) [.ref (a 0), .int (jI t), .int (jI k)] (wR cI cL a w kp bf ah ik fd sp lt tp tn he ft vl bt lg ce bw) (S := Unit) (fun _ => (wR cI cL a w kp bf ah ik fd sp lt tp tn he ft vl bt lg ce bw)) (fun r _ => r = jI (fT w t k)) := by
  refine Ci.mk (cc := cX9_taskIs) (maxL := 3) (rt := .int) (by decide) rfl (Nat.le_of_ble_eq_true rfl) rfl ?_
  intro p_ e_ s_ m_ b_ me_ c_ A_ G hnm
  have k_X9 : ∀ w ∈ u_ws RX9 TX9 17, w ∈ wsX9_taskIs := fun _ h => List.mem_cons_of_mem _ (List.mem_append_right _ h)
  have q_1 : Cond.fieldLink RX9 9 "SupperLightModel" "s" "[I" ∈ wsX9_taskIs := List.mem_of_getElem? (i := 1) rfl
  refine v_aload_n (j := 0) (x := a 0) G dX9_taskIs_0 rfl rfl ?_
  refine v_get (q0 := 0) (k := 0) (v := .ref (a 1)) G k_X9 rfl rfl (by decide) q_1 rfl rfl dX9_taskIs_1 ?_
  refine v_bipush G dX9_taskIs_4 (by decide) ?_
  refine v_iconst G dX9_taskIs_6 ?_
  refine v_iload_n (j := 1) (x := jI t) G dX9_taskIs_7 rfl rfl ?_
  refine v_imul (z := 3 * t) G dX9_taskIs_8 rfl ?_
  refine v_iadd (z := 69 + (3 * t)) G dX9_taskIs_9 rfl ?_
  refine v_iload_n (j := 2) (x := jI k) G dX9_taskIs_10 rfl rfl ?_
  refine v_iadd (z := (69 + (3 * t)) + k) G dX9_taskIs_11 rfl ?_
  refine v_iald (q0 := 1) (t0 := 0) (g := w) (z := (69 + (3 * t)) + k) G rfl rfl (by omega) dX9_taskIs_12 ?_
  exact v_iret G () (show jI (w ((69 + (3 * t)) + k)) = jI (fT w t k) from rfl) rfl dX9_taskIs_13

set_option maxHeartbeats 4000000 in
set_option maxRecDepth 100000 in
theorem c_X9_apart (x y : Int) (hx : (0 ≤ x ∧ x ≤ 15) ∧ 0 ≤ y ∧ y ≤ 15) : Ci l yX9_apart wsX9_apart { frames := 0, cells := 0, slots := 0, locals := 0 } D (jT cI cL cB cS) [.int (jI x), .int (jI y)] [] (S := Unit) (fun _ => []) (fun r _ => r = jI (apt x y)) := by
  refine Ci.mk (cc := cX9_apart) (maxL := 4) (rt := .int) (by decide) rfl (Nat.le_of_ble_eq_true rfl) rfl ?_
  intro p_ e_ s_ m_ b_ me_ c_ A_ G hnm
  refine v_iload_n (j := 0) (x := jI x) G dX9_apart_0 rfl rfl ?_
  refine v_iconst G dX9_apart_1 ?_
  refine v_idiv (z := x / 4) G dX9_apart_2 (by omega) rfl ?_
  refine v_iload_n (j := 1) (x := jI y) G dX9_apart_3 rfl rfl ?_
  refine v_iconst G dX9_apart_4 ?_
  refine v_idiv (z := y / 4) G dX9_apart_5 (by omega) rfl ?_
  refine v_isub (z := (x / 4) - (y / 4)) G dX9_apart_6 rfl ?_
  refine v_istore_n (lv' := [(2, .int (jI ((x / 4) - (y / 4)))), (0, .int (jI x)), (1, .int (jI y))]) G dX9_apart_7 rfl (by decide) rfl ?_
  refine v_iload_n (j := 1) (x := jI x) G dX9_apart_8 rfl rfl ?_
  refine v_iconst G dX9_apart_9 ?_
  refine v_irem (z := x % 4) G dX9_apart_10 (by omega) rfl ?_
  refine v_iload_n (j := 2) (x := jI y) G dX9_apart_11 rfl rfl ?_
  refine v_iconst G dX9_apart_12 ?_
  refine v_irem (z := y % 4) G dX9_apart_13 (by omega) rfl ?_
  refine v_isub (z := (x % 4) - (y % 4)) G dX9_apart_14 rfl ?_
  refine v_istore_n (lv' := [(3, .int (jI ((x % 4) - (y % 4)))), (2, .int (jI ((x / 4) - (y / 4)))), (0, .int (jI x)), (1, .int (jI y))]) G dX9_apart_15 rfl (by decide) rfl ?_
  refine v_iload_n (j := 1) (x := jI ((x / 4) - (y / 4))) G dX9_apart_16 rfl rfl ?_
  refine v_if_ge (a := (x / 4) - (y / 4)) (tgt := 25) G dX9_apart_17 (by decide) (by omega) (fun c_1 => ?_) (fun c_1 => ?_)
  · skip
    refine v_iload_n (j := 1) (x := jI ((x / 4) - (y / 4))) G dX9_apart_25 rfl rfl ?_
    refine v_iload_n (j := 0) (x := jI ((x % 4) - (y % 4))) G dX9_apart_26 rfl rfl ?_
    refine v_if_ge (a := (x % 4) - (y % 4)) (tgt := 35) G dX9_apart_27 (by decide) (by omega) (fun c_2 => ?_) (fun c_2 => ?_)
    · skip
      refine v_iload_n (j := 0) (x := jI ((x % 4) - (y % 4))) G dX9_apart_35 rfl rfl ?_
      refine v_iadd (z := ((x / 4) - (y / 4)) + ((x % 4) - (y % 4))) G dX9_apart_36 rfl ?_
      exact v_iret G () (show jI (((x / 4) - (y / 4)) + ((x % 4) - (y % 4))) = jI (apt x y) from congrArg jI (by have := jabs_z (x / 4 - y / 4); have := jabs_z (x % 4 - y % 4); unfold apt; omega)) rfl dX9_apart_37
    · skip
      refine v_iload_n (j := 0) (x := jI ((x % 4) - (y % 4))) G dX9_apart_30 rfl rfl ?_
      refine v_ineg (z := -((x % 4) - (y % 4))) G dX9_apart_31 rfl ?_
      refine v_goto (tgt := 36) G dX9_apart_32 (by decide) ?_
      refine v_iadd (z := ((x / 4) - (y / 4)) + (-((x % 4) - (y % 4)))) G dX9_apart_36 rfl ?_
      exact v_iret G () (show jI (((x / 4) - (y / 4)) + (-((x % 4) - (y % 4)))) = jI (apt x y) from congrArg jI (by have := jabs_z (x / 4 - y / 4); have := jabs_z (x % 4 - y % 4); unfold apt; omega)) rfl dX9_apart_37
  · skip
    refine v_iload_n (j := 1) (x := jI ((x / 4) - (y / 4))) G dX9_apart_20 rfl rfl ?_
    refine v_ineg (z := -((x / 4) - (y / 4))) G dX9_apart_21 rfl ?_
    refine v_goto (tgt := 26) G dX9_apart_22 (by decide) ?_
    refine v_iload_n (j := 0) (x := jI ((x % 4) - (y % 4))) G dX9_apart_26 rfl rfl ?_
    refine v_if_ge (a := (x % 4) - (y % 4)) (tgt := 35) G dX9_apart_27 (by decide) (by omega) (fun c_3 => ?_) (fun c_3 => ?_)
    · skip
      refine v_iload_n (j := 0) (x := jI ((x % 4) - (y % 4))) G dX9_apart_35 rfl rfl ?_
      refine v_iadd (z := (-((x / 4) - (y / 4))) + ((x % 4) - (y % 4))) G dX9_apart_36 rfl ?_
      exact v_iret G () (show jI ((-((x / 4) - (y / 4))) + ((x % 4) - (y % 4))) = jI (apt x y) from congrArg jI (by have := jabs_z (x / 4 - y / 4); have := jabs_z (x % 4 - y % 4); unfold apt; omega)) rfl dX9_apart_37
    · skip
      refine v_iload_n (j := 0) (x := jI ((x % 4) - (y % 4))) G dX9_apart_30 rfl rfl ?_
      refine v_ineg (z := -((x % 4) - (y % 4))) G dX9_apart_31 rfl ?_
      refine v_goto (tgt := 36) G dX9_apart_32 (by decide) ?_
      refine v_iadd (z := (-((x / 4) - (y / 4))) + (-((x % 4) - (y % 4)))) G dX9_apart_36 rfl ?_
      exact v_iret G () (show jI ((-((x / 4) - (y / 4))) + (-((x % 4) - (y % 4)))) = jI (apt x y) from congrArg jI (by have := jabs_z (x / 4 - y / 4); have := jabs_z (x % 4 - y % 4); unfold apt; omega)) rfl dX9_apart_37

set_option maxHeartbeats 4000000 in
set_option maxRecDepth 100000 in
theorem c_X9_sings (k : Int) (hr : (-2147483648 ≤ k ∧ k ≤ 2147483647)) : Ci l yX9_sings wsX9_sings { frames := 0, cells := 0, slots := 0, locals := 0 } D (jT cI cL cB cS) [.int (jI k)] [] (S := Unit) (fun _ => []) (fun r _ => r = jI (b2 (sg k))) := by
  refine Ci.mk (cc := cX9_sings) (maxL := 1) (rt := .boolean) (by decide) rfl (Nat.le_of_ble_eq_true rfl) rfl ?_
  intro p_ e_ s_ m_ b_ me_ c_ A_ G hnm
  refine v_iload_n (j := 0) (x := jI k) G dX9_sings_0 rfl rfl ?_
  refine v_iconst G dX9_sings_1 ?_
  refine v_icmp_eq (a := k) (b := 1) (tgt := 10) G dX9_sings_2 (by decide) (by omega) (fun c_1 => ?_) (fun c_1 => ?_)
  · skip
    refine v_iconst G dX9_sings_10 ?_
    refine v_goto (tgt := 15) G dX9_sings_11 (by decide) ?_
    exact v_zret G () nb_1 (show jI 1 = jI (b2 (sg k)) from congrArg jI (b2_t (P := sg k) (by unfold sg; omega)).symm) rfl dX9_sings_15
  · skip
    refine v_iload_n (j := 0) (x := jI k) G dX9_sings_5 rfl rfl ?_
    refine v_iconst G dX9_sings_6 ?_
    refine v_icmp_ne (a := k) (b := 4) (tgt := 14) G dX9_sings_7 (by decide) (by omega) (fun c_2 => ?_) (fun c_2 => ?_)
    · skip
      refine v_iconst G dX9_sings_14 ?_
      exact v_zret G () nb_0 (show jI 0 = jI (b2 (sg k)) from congrArg jI (b2_f (P := sg k) (by unfold sg; omega)).symm) rfl dX9_sings_15
    · skip
      refine v_iconst G dX9_sings_10 ?_
      refine v_goto (tgt := 15) G dX9_sings_11 (by decide) ?_
      exact v_zret G () nb_1 (show jI 1 = jI (b2 (sg k)) from congrArg jI (b2_t (P := sg k) (by unfold sg; omega)).symm) rfl dX9_sings_15

set_option maxHeartbeats 4000000 in
set_option maxRecDepth 100000 in
theorem c_X9_isHeard (b : Int) (hw : Wf w) (hb : 0 ≤ b ∧ b < 10) : Ci l yX9_isHeard wsX9_isHeard { frames := 1, cells := 0, slots := 0, locals := 22 } D (jT cI cL cB cS) [.ref (a 0), .int (jI b)] (wR cI cL a w kp bf ah ik fd sp lt tp tn he ft vl bt lg ce bw) (S := Unit) (fun _ => (wR cI cL a w kp bf ah ik fd sp lt tp tn he ft vl bt lg ce bw)) (fun r _ => r = jI (b2 (hrd w b (w 1).toNat))) := by
  refine Ci.mk (cc := cX9_isHeard) (maxL := 4) (rt := .boolean) (by decide) rfl (Nat.le_of_ble_eq_true rfl) rfl ?_
  intro p_ e_ s_ m_ b_ me_ c_ A_ G hnm
  have hm := hw.many
  have k_X9 : ∀ w ∈ u_ws RX9 TX9 17, w ∈ wsX9_isHeard := fun _ h => List.mem_cons_of_mem _ (List.mem_append_right _ h)
  have q_1 : Cond.fieldLink RX9 9 "SupperLightModel" "s" "[I" ∈ wsX9_isHeard := List.mem_of_getElem? (i := 1) rfl
  refine v_iconst G dX9_isHeard_0 ?_
  refine v_topj (x := 0) (y := b2 (hrd w b 0)) (b2_f (hrd_0 w b)).symm ?_
  refine v_istore_n (lv' := [(2, .int (jI (b2 (hrd w b 0)))), (0, .ref (a 0)), (1, .int (jI b))]) G dX9_isHeard_1 rfl (by decide) rfl ?_
  refine v_iconst G dX9_isHeard_2 ?_
  refine v_istore_n (lv' := [(3, .int (jI 0)), (2, .int (jI (b2 (hrd w b 0)))), (0, .ref (a 0)), (1, .int (jI b))]) G dX9_isHeard_3 rfl (by decide) rfl ?_
  refine v_locs (lv' := [(3, .int (jI 0)), (2, .int (jI (b2 (hrd w b 0)))), (0, .ref (a 0)), (1, .int (jI b))]) [0, 1, 2, 3] rfl ?_
  refine v_loop1 (fun (k : Nat) => [(3, .int (jI (k : Int))), (2, .int (jI (b2 (hrd w b k)))), (0, .ref (a 0)), (1, .int (jI b))]) (fun (k : Nat) => (wR cI cL a w kp bf ah ik fd sp lt tp tn he ft vl bt lg ce bw)) (fun (k : Nat) => (k : Int) ≤ w 1) (fun (k : Nat) => (w 1).toNat - k) 0 (by omega) rfl rfl ?_
  intro k I_1 ih_2
  refine v_iload_n (j := 0) (x := jI (k : Int)) G dX9_isHeard_4 rfl rfl ?_
  refine v_aload_n (j := 2) (x := a 0) G dX9_isHeard_5 rfl rfl ?_
  refine v_get (q0 := 0) (k := 0) (v := .ref (a 1)) G k_X9 rfl rfl (by decide) q_1 rfl rfl dX9_isHeard_6 ?_
  refine v_iconst G dX9_isHeard_9 ?_
  refine v_iald (q0 := 1) (t0 := 0) (g := w) (z := 1) G rfl rfl (by omega) dX9_isHeard_10 ?_
  refine v_icmp_ge (a := (k : Int)) (b := w 1) (tgt := 60) G dX9_isHeard_11 (by decide) (by omega) (fun c_3 => ?_) (fun c_3 => ?_)
  · skip
    refine v_iload_n (j := 1) (x := jI (b2 (hrd w b k))) G dX9_isHeard_60 rfl rfl ?_
    exact v_zret G () (nb_b2 _) (show jI (b2 (hrd w b k)) = jI (b2 (hrd w b (w 1).toNat)) from by rw [show k = (w 1).toNat by omega]) rfl dX9_isHeard_61
  · skip
    have hk := hw.being (b := (k : Int)) (by omega) (by omega)
    have hb1 := hw.being (b := b) (by omega) (by omega)
    refine v_iload_n (j := 1) (x := jI (b2 (hrd w b k))) G dX9_isHeard_14 rfl rfl ?_
    refine v_iload_n (j := 0) (x := jI (k : Int)) G dX9_isHeard_15 rfl rfl ?_
    refine v_iload_n (j := 3) (x := jI b) G dX9_isHeard_16 rfl rfl ?_
    refine v_cut (pc' := 52) (lv' := [(3, .int (jI (k : Int))), (2, .int (jI (b2 (hrd w b k)))), (0, .ref (a 0)), (1, .int (jI b))]) (st' := [.int (jI (b2 ((k : Int) ≠ b ∧ sg (fB w (k : Int) 0) ∧ fB w (k : Int) 1 = fB w b 1))), .int (jI (b2 (hrd w b k)))]) (ws' := (wR cI cL a w kp bf ah ik fd sp lt tp tn he ft vl bt lg ce bw)) ?_ (fun J_4 => ?_)
    · skip
      refine v_ior (v := (jI (b2 (hrd w b k))) ||| (jI (b2 ((k : Int) ≠ b ∧ sg (fB w (k : Int) 0) ∧ fB w (k : Int) 1 = fB w b 1)))) G dX9_isHeard_52 rfl ?_
      refine v_top (x := (jI (b2 (hrd w b k))) ||| (jI (b2 ((k : Int) ≠ b ∧ sg (fB w (k : Int) 0) ∧ fB w (k : Int) 1 = fB w b 1)))) (y := jI (b2 (hrd w b (k + 1)))) ((or_b2 _ _).trans (congrArg jI (b2_c (hrd_s w b k)))) ?_
      refine v_istore_n (lv' := [(2, .int (jI (b2 (hrd w b (k + 1))))), (3, .int (jI (k : Int))), (0, .ref (a 0)), (1, .int (jI b))]) G dX9_isHeard_53 rfl (by decide) rfl ?_
      refine v_iinc (k := 1) (z := (k : Int)) (z' := ((k + 1 : Nat) : Int)) (lv' := [(3, .int (jI ((k + 1 : Nat) : Int))), (2, .int (jI (b2 (hrd w b (k + 1))))), (0, .ref (a 0)), (1, .int (jI b))]) G dX9_isHeard_54 rfl (by omega) (by decide) rfl ?_
      refine v_goto (tgt := 4) G dX9_isHeard_57 (by decide) ?_
      exact ih_2 (k + 1) (by omega) (by omega)
    · skip
      refine v_icmp_eq (a := (k : Int)) (b := b) (tgt := 51) G dX9_isHeard_17 (by decide) (by omega) (fun c_5 => ?_) (fun c_5 => ?_)
      · skip
        refine v_iconst G dX9_isHeard_51 ?_
        refine v_topj (x := 0) (y := b2 ((k : Int) ≠ b ∧ sg (fB w (k : Int) 0) ∧ fB w (k : Int) 1 = fB w b 1)) (b2_f (P := (k : Int) ≠ b ∧ sg (fB w (k : Int) 0) ∧ fB w (k : Int) 1 = fB w b 1) (by rintro ⟨x1, x2, x3⟩; first | exact absurd x2 (by assumption) | omega)).symm ?_
        exact J_4
      · skip
        refine v_aload_n (j := 2) (x := a 0) G dX9_isHeard_20 rfl rfl ?_
        refine v_iload_n (j := 0) (x := jI (k : Int)) G dX9_isHeard_21 rfl rfl ?_
        refine v_iconst G dX9_isHeard_22 ?_
        refine v_ciF G (rn_V (As := [.int (jI (k : Int)), .int (jI 0)]) (rest := [.int (jI (b2 (hrd w b k)))]) (q0 := 0) G (c_X9_is (b := (k : Int)) (k := 0) (w := w) (kp := kp) (bf := bf) (ah := ah) (ik := ik) (fd := fd) (sp := sp) (lt := lt) (tp := tp) (tn := tn) (he := he) (ft := ft) (vl := vl) (bt := bt) (lg := lg) (ce := ce) (bw := bw) (a := a) (hb := (by omega))) gX9_isHeard_X9_is rfl hdX9_is ⟨rfl, rfl, Nat.le_of_ble_eq_true rfl, Nat.le_of_ble_eq_true rfl⟩ rfl rfl (Nat.le_of_ble_eq_true rfl) ⟨Nat.zero_le _, Nat.zero_le _⟩ rfl rfl dX9_isHeard_23) (fun r_6 u_8 e_7 => ?_)
        have e_7 : r_6 = jI (fB w (k : Int) 0) := e_7
        subst e_7
        refine v_world (ws' := (wR cI cL a w kp bf ah ik fd sp lt tp tn he ft vl bt lg ce bw)) rfl ?_
        refine v_ciN G (rn_S (As := [.int (jI (fB w (k : Int) 0))]) (rest := [.int (jI (b2 (hrd w b k)))]) G (c_X9_sings (k := fB w (k : Int) 0) (hr := (by omega))) gX9_isHeard_X9_sings rfl hdX9_sings ⟨rfl, rfl, Nat.le_of_ble_eq_true rfl, Nat.le_of_ble_eq_true rfl⟩ rfl rfl (Nat.le_of_ble_eq_true rfl) ⟨Nat.zero_le _, Nat.zero_le _⟩ dX9_isHeard_26) (fun r_9 u_11 e_10 => ?_)
        have e_10 : r_9 = jI (b2 (sg (fB w (k : Int) 0))) := e_10
        subst e_10
        refine v_ifb_eq (P := sg (fB w (k : Int) 0)) (tgt := 51) G dX9_isHeard_29 (by decide) (fun c_12 => ?_) (fun c_12 => ?_)
        · skip
          refine v_iconst G dX9_isHeard_51 ?_
          refine v_topj (x := 0) (y := b2 ((k : Int) ≠ b ∧ sg (fB w (k : Int) 0) ∧ fB w (k : Int) 1 = fB w b 1)) (b2_f (P := (k : Int) ≠ b ∧ sg (fB w (k : Int) 0) ∧ fB w (k : Int) 1 = fB w b 1) (by rintro ⟨x1, x2, x3⟩; first | exact absurd x2 (by assumption) | omega)).symm ?_
          exact J_4
        · skip
          refine v_aload_n (j := 2) (x := a 0) G dX9_isHeard_32 rfl rfl ?_
          refine v_iload_n (j := 0) (x := jI (k : Int)) G dX9_isHeard_33 rfl rfl ?_
          refine v_iconst G dX9_isHeard_34 ?_
          refine v_ciF G (rn_V (As := [.int (jI (k : Int)), .int (jI 1)]) (rest := [.int (jI (b2 (hrd w b k)))]) (q0 := 0) G (c_X9_is (b := (k : Int)) (k := 1) (w := w) (kp := kp) (bf := bf) (ah := ah) (ik := ik) (fd := fd) (sp := sp) (lt := lt) (tp := tp) (tn := tn) (he := he) (ft := ft) (vl := vl) (bt := bt) (lg := lg) (ce := ce) (bw := bw) (a := a) (hb := (by omega))) gX9_isHeard_X9_is rfl hdX9_is ⟨rfl, rfl, Nat.le_of_ble_eq_true rfl, Nat.le_of_ble_eq_true rfl⟩ rfl rfl (Nat.le_of_ble_eq_true rfl) ⟨Nat.zero_le _, Nat.zero_le _⟩ rfl rfl dX9_isHeard_35) (fun r_13 u_15 e_14 => ?_)
          have e_14 : r_13 = jI (fB w (k : Int) 1) := e_14
          subst e_14
          refine v_world (ws' := (wR cI cL a w kp bf ah ik fd sp lt tp tn he ft vl bt lg ce bw)) rfl ?_
          refine v_aload_n (j := 2) (x := a 0) G dX9_isHeard_38 rfl rfl ?_
          refine v_iload_n (j := 3) (x := jI b) G dX9_isHeard_39 rfl rfl ?_
          refine v_iconst G dX9_isHeard_40 ?_
          refine v_ciF G (rn_V (As := [.int (jI b), .int (jI 1)]) (rest := [.int (jI (fB w (k : Int) 1)), .int (jI (b2 (hrd w b k)))]) (q0 := 0) G (c_X9_is (b := b) (k := 1) (w := w) (kp := kp) (bf := bf) (ah := ah) (ik := ik) (fd := fd) (sp := sp) (lt := lt) (tp := tp) (tn := tn) (he := he) (ft := ft) (vl := vl) (bt := bt) (lg := lg) (ce := ce) (bw := bw) (a := a) (hb := (by omega))) gX9_isHeard_X9_is rfl hdX9_is ⟨rfl, rfl, Nat.le_of_ble_eq_true rfl, Nat.le_of_ble_eq_true rfl⟩ rfl rfl (Nat.le_of_ble_eq_true rfl) ⟨Nat.zero_le _, Nat.zero_le _⟩ rfl rfl dX9_isHeard_41) (fun r_16 u_18 e_17 => ?_)
          have e_17 : r_16 = jI (fB w b 1) := e_17
          subst e_17
          refine v_world (ws' := (wR cI cL a w kp bf ah ik fd sp lt tp tn he ft vl bt lg ce bw)) rfl ?_
          refine v_icmp_ne (a := fB w (k : Int) 1) (b := fB w b 1) (tgt := 51) G dX9_isHeard_44 (by decide) (by omega) (fun c_19 => ?_) (fun c_19 => ?_)
          · skip
            refine v_iconst G dX9_isHeard_51 ?_
            refine v_topj (x := 0) (y := b2 ((k : Int) ≠ b ∧ sg (fB w (k : Int) 0) ∧ fB w (k : Int) 1 = fB w b 1)) (b2_f (P := (k : Int) ≠ b ∧ sg (fB w (k : Int) 0) ∧ fB w (k : Int) 1 = fB w b 1) (by rintro ⟨x1, x2, x3⟩; first | exact absurd x2 (by assumption) | omega)).symm ?_
            exact J_4
          · skip
            refine v_iconst G dX9_isHeard_47 ?_
            refine v_goto (tgt := 52) G dX9_isHeard_48 (by decide) ?_
            refine v_topj (x := 1) (y := b2 ((k : Int) ≠ b ∧ sg (fB w (k : Int) 0) ∧ fB w (k : Int) 1 = fB w b 1)) (b2_t (P := (k : Int) ≠ b ∧ sg (fB w (k : Int) 0) ∧ fB w (k : Int) 1 = fB w b 1) (by exact ⟨by assumption, by assumption, by assumption⟩)).symm ?_
            exact J_4

set_option maxHeartbeats 4000000 in
set_option maxRecDepth 100000 in
theorem c_X9_shines (b : Int) (hw : Wf w) (hb : 0 ≤ b ∧ b < 10) : Ci l yX9_shines wsX9_shines { frames := 2, cells := 0, slots := 0, locals := 45 } D (jT cI cL cB cS) [.ref (a 0), .int (jI b)] (wR cI cL a w kp bf ah ik fd sp lt tp tn he ft vl bt lg ce bw) (S := Unit) (fun _ => (wR cI cL a w kp bf ah ik fd sp lt tp tn he ft vl bt lg ce bw)) (fun r _ => r = jI (sSh w b)) := by
  refine Ci.mk (cc := cX9_shines) (maxL := 4) (rt := .int) (by decide) rfl (Nat.le_of_ble_eq_true rfl) rfl ?_
  intro p_ e_ s_ m_ b_ me_ c_ A_ G hnm
  have hk := hw.being (b := b) (by omega) (by omega)
  have hp := pln_r (m := fB w b 3) (f := fB w b 4) (by omega) (by omega)
  refine v_aload_n (j := 0) (x := a 0) G dX9_shines_0 rfl rfl ?_
  refine v_iload_n (j := 1) (x := jI b) G dX9_shines_1 rfl rfl ?_
  refine v_iconst G dX9_shines_2 ?_
  refine v_ciF G (rn_V (As := [.int (jI b), .int (jI 3)]) (rest := []) (q0 := 0) G (c_X9_is (b := b) (k := 3) (w := w) (kp := kp) (bf := bf) (ah := ah) (ik := ik) (fd := fd) (sp := sp) (lt := lt) (tp := tp) (tn := tn) (he := he) (ft := ft) (vl := vl) (bt := bt) (lg := lg) (ce := ce) (bw := bw) (a := a) (hb := (by omega))) gX9_shines_X9_is rfl hdX9_is ⟨rfl, rfl, Nat.le_of_ble_eq_true rfl, Nat.le_of_ble_eq_true rfl⟩ rfl rfl (Nat.le_of_ble_eq_true rfl) ⟨Nat.zero_le _, Nat.zero_le _⟩ rfl rfl dX9_shines_3) (fun r_1 u_3 e_2 => ?_)
  have e_2 : r_1 = jI (fB w b 3) := e_2
  subst e_2
  refine v_world (ws' := (wR cI cL a w kp bf ah ik fd sp lt tp tn he ft vl bt lg ce bw)) rfl ?_
  refine v_aload_n (j := 0) (x := a 0) G dX9_shines_6 rfl rfl ?_
  refine v_iload_n (j := 1) (x := jI b) G dX9_shines_7 rfl rfl ?_
  refine v_iconst G dX9_shines_8 ?_
  refine v_ciF G (rn_V (As := [.int (jI b), .int (jI 4)]) (rest := [.int (jI (fB w b 3))]) (q0 := 0) G (c_X9_is (b := b) (k := 4) (w := w) (kp := kp) (bf := bf) (ah := ah) (ik := ik) (fd := fd) (sp := sp) (lt := lt) (tp := tp) (tn := tn) (he := he) (ft := ft) (vl := vl) (bt := bt) (lg := lg) (ce := ce) (bw := bw) (a := a) (hb := (by omega))) gX9_shines_X9_is rfl hdX9_is ⟨rfl, rfl, Nat.le_of_ble_eq_true rfl, Nat.le_of_ble_eq_true rfl⟩ rfl rfl (Nat.le_of_ble_eq_true rfl) ⟨Nat.zero_le _, Nat.zero_le _⟩ rfl rfl dX9_shines_9) (fun r_4 u_6 e_5 => ?_)
  have e_5 : r_4 = jI (fB w b 4) := e_5
  subst e_5
  refine v_world (ws' := (wR cI cL a w kp bf ah ik fd sp lt tp tn he ft vl bt lg ce bw)) rfl ?_
  refine v_cut (pc' := 32) (lv' := [(0, .ref (a 0)), (1, .int (jI b))]) (st' := [.int (jI (pln (fB w b 3) (fB w b 4)))]) (ws' := (wR cI cL a w kp bf ah ik fd sp lt tp tn he ft vl bt lg ce bw)) ?_ (fun J_7 => ?_)
  · skip
    refine v_istore_n (lv' := [(2, .int (jI (pln (fB w b 3) (fB w b 4)))), (0, .ref (a 0)), (1, .int (jI b))]) G dX9_shines_32 rfl (by decide) rfl ?_
    refine v_aload_n (j := 1) (x := a 0) G dX9_shines_33 rfl rfl ?_
    refine v_iload_n (j := 2) (x := jI b) G dX9_shines_34 rfl rfl ?_
    refine v_ciF G (rn_V (As := [.int (jI b)]) (rest := []) (q0 := 0) G (c_X9_isHeard (b := b) (w := w) (kp := kp) (bf := bf) (ah := ah) (ik := ik) (fd := fd) (sp := sp) (lt := lt) (tp := tp) (tn := tn) (he := he) (ft := ft) (vl := vl) (bt := bt) (lg := lg) (ce := ce) (bw := bw) (a := a) (hw := hw) (hb := (by omega))) gX9_shines_X9_isHeard rfl hdX9_isHeard ⟨rfl, rfl, Nat.le_of_ble_eq_true rfl, Nat.le_of_ble_eq_true rfl⟩ rfl rfl (Nat.le_of_ble_eq_true rfl) ⟨Nat.zero_le _, Nat.zero_le _⟩ rfl rfl dX9_shines_35) (fun r_8 u_10 e_9 => ?_)
    have e_9 : r_8 = jI (b2 (hrd w b (w 1).toNat)) := e_9
    subst e_9
    refine v_world (ws' := (wR cI cL a w kp bf ah ik fd sp lt tp tn he ft vl bt lg ce bw)) rfl ?_
    refine v_cut (pc' := 50) (lv' := [(2, .int (jI (pln (fB w b 3) (fB w b 4)))), (0, .ref (a 0)), (1, .int (jI b))]) (st' := [.int (jI (sng (hrd w b (w 1).toNat) (pln (fB w b 3) (fB w b 4))))]) (ws' := (wR cI cL a w kp bf ah ik fd sp lt tp tn he ft vl bt lg ce bw)) ?_ (fun J_11 => ?_)
    · skip
      refine v_istore_n (lv' := [(3, .int (jI (sng (hrd w b (w 1).toNat) (pln (fB w b 3) (fB w b 4))))), (2, .int (jI (pln (fB w b 3) (fB w b 4)))), (0, .ref (a 0)), (1, .int (jI b))]) G dX9_shines_50 rfl (by decide) rfl ?_
      refine v_aload_n (j := 2) (x := a 0) G dX9_shines_51 rfl rfl ?_
      refine v_iload_n (j := 3) (x := jI b) G dX9_shines_52 rfl rfl ?_
      refine v_iconst G dX9_shines_53 ?_
      refine v_ciF G (rn_V (As := [.int (jI b), .int (jI 0)]) (rest := []) (q0 := 0) G (c_X9_is (b := b) (k := 0) (w := w) (kp := kp) (bf := bf) (ah := ah) (ik := ik) (fd := fd) (sp := sp) (lt := lt) (tp := tp) (tn := tn) (he := he) (ft := ft) (vl := vl) (bt := bt) (lg := lg) (ce := ce) (bw := bw) (a := a) (hb := (by omega))) gX9_shines_X9_is rfl hdX9_is ⟨rfl, rfl, Nat.le_of_ble_eq_true rfl, Nat.le_of_ble_eq_true rfl⟩ rfl rfl (Nat.le_of_ble_eq_true rfl) ⟨Nat.zero_le _, Nat.zero_le _⟩ rfl rfl dX9_shines_54) (fun r_12 u_14 e_13 => ?_)
      have e_13 : r_12 = jI (fB w b 0) := e_13
      subst e_13
      refine v_world (ws' := (wR cI cL a w kp bf ah ik fd sp lt tp tn he ft vl bt lg ce bw)) rfl ?_
      rcases (show fB w b 0 = 0 ∨ fB w b 0 = 1 ∨ fB w b 0 = 2 ∨ fB w b 0 = 3 ∨ fB w b 0 = 4 ∨ (fB w b 0 < 0 ∨ 4 < fB w b 0) by omega) with c_15 | c_15 | c_15 | c_15 | c_15 | c_15
      · skip
        refine v_tabIn (z := fB w b 0) (v := 0) (tgt := 92) G c_15 (by decide) rfl (by decide) dX9_shines_57 ?_
        refine v_iload_n (j := 1) (x := jI (pln (fB w b 3) (fB w b 4))) G dX9_shines_92 rfl rfl ?_
        exact v_iret G () (show jI (pln (fB w b 3) (fB w b 4)) = jI (sSh w b) from congrArg jI (by unfold sSh shn; (repeat' split) <;> omega)) rfl dX9_shines_93
      · skip
        refine v_tabIn (z := fB w b 0) (v := 1) (tgt := 94) G c_15 (by decide) rfl (by decide) dX9_shines_57 ?_
        refine v_iload_n (j := 0) (x := jI (sng (hrd w b (w 1).toNat) (pln (fB w b 3) (fB w b 4)))) G dX9_shines_94 rfl rfl ?_
        exact v_iret G () (show jI (sng (hrd w b (w 1).toNat) (pln (fB w b 3) (fB w b 4))) = jI (sSh w b) from congrArg jI (by unfold sSh shn; (repeat' split) <;> omega)) rfl dX9_shines_95
      · skip
        refine v_tabIn (z := fB w b 0) (v := 2) (tgt := 96) G c_15 (by decide) rfl (by decide) dX9_shines_57 ?_
        refine v_aload_n (j := 2) (x := a 0) G dX9_shines_96 rfl rfl ?_
        refine v_iload_n (j := 3) (x := jI b) G dX9_shines_97 rfl rfl ?_
        refine v_iconst G dX9_shines_98 ?_
        refine v_ciF G (rn_V (As := [.int (jI b), .int (jI 4)]) (rest := []) (q0 := 0) G (c_X9_is (b := b) (k := 4) (w := w) (kp := kp) (bf := bf) (ah := ah) (ik := ik) (fd := fd) (sp := sp) (lt := lt) (tp := tp) (tn := tn) (he := he) (ft := ft) (vl := vl) (bt := bt) (lg := lg) (ce := ce) (bw := bw) (a := a) (hb := (by omega))) gX9_shines_X9_is rfl hdX9_is ⟨rfl, rfl, Nat.le_of_ble_eq_true rfl, Nat.le_of_ble_eq_true rfl⟩ rfl rfl (Nat.le_of_ble_eq_true rfl) ⟨Nat.zero_le _, Nat.zero_le _⟩ rfl rfl dX9_shines_99) (fun r_16 u_18 e_17 => ?_)
        have e_17 : r_16 = jI (fB w b 4) := e_17
        subst e_17
        refine v_world (ws' := (wR cI cL a w kp bf ah ik fd sp lt tp tn he ft vl bt lg ce bw)) rfl ?_
        refine v_bipush G dX9_shines_102 (by decide) ?_
        refine v_icmp_lt (a := fB w b 4) (b := 6) (tgt := 111) G dX9_shines_104 (by decide) (by omega) (fun c_19 => ?_) (fun c_19 => ?_)
        · skip
          refine v_iload_n (j := 1) (x := jI (pln (fB w b 3) (fB w b 4))) G dX9_shines_111 rfl rfl ?_
          exact v_iret G () (show jI (pln (fB w b 3) (fB w b 4)) = jI (sSh w b) from congrArg jI (by unfold sSh shn; (repeat' split) <;> omega)) rfl dX9_shines_112
        · skip
          refine v_iconst G dX9_shines_107 ?_
          refine v_goto (tgt := 112) G dX9_shines_108 (by decide) ?_
          exact v_iret G () (show jI 0 = jI (sSh w b) from congrArg jI (by unfold sSh shn; (repeat' split) <;> omega)) rfl dX9_shines_112
      · skip
        refine v_tabIn (z := fB w b 0) (v := 3) (tgt := 113) G c_15 (by decide) rfl (by decide) dX9_shines_57 ?_
        refine v_iconst G dX9_shines_113 ?_
        refine v_iload_n (j := 1) (x := jI (pln (fB w b 3) (fB w b 4))) G dX9_shines_114 rfl rfl ?_
        refine v_imul (z := 3 * (pln (fB w b 3) (fB w b 4))) G dX9_shines_115 rfl ?_
        exact v_iret G () (show jI (3 * (pln (fB w b 3) (fB w b 4))) = jI (sSh w b) from congrArg jI (by unfold sSh shn; (repeat' split) <;> omega)) rfl dX9_shines_116
      · skip
        refine v_tabIn (z := fB w b 0) (v := 4) (tgt := 117) G c_15 (by decide) rfl (by decide) dX9_shines_57 ?_
        refine v_iconst G dX9_shines_117 ?_
        refine v_iload_n (j := 0) (x := jI (sng (hrd w b (w 1).toNat) (pln (fB w b 3) (fB w b 4)))) G dX9_shines_118 rfl rfl ?_
        refine v_imul (z := 2 * (sng (hrd w b (w 1).toNat) (pln (fB w b 3) (fB w b 4)))) G dX9_shines_119 rfl ?_
        exact v_iret G () (show jI (2 * (sng (hrd w b (w 1).toNat) (pln (fB w b 3) (fB w b 4)))) = jI (sSh w b) from congrArg jI (by unfold sSh shn; (repeat' split) <;> omega)) rfl dX9_shines_120
      · skip
        refine v_tabOut (z := fB w b 0) (tgt := 121) G c_15 (by omega) (by decide) dX9_shines_57 ?_
        refine v_iconst G dX9_shines_121 ?_
        exact v_iret G () (show jI 0 = jI (sSh w b) from congrArg jI (by unfold sSh shn; (repeat' split) <;> omega)) rfl dX9_shines_122
    · skip
      refine v_ifb_eq (P := hrd w b (w 1).toNat) (tgt := 49) G dX9_shines_38 (by decide) (fun c_20 => ?_) (fun c_20 => ?_)
      · skip
        refine v_iload_n (j := 0) (x := jI (pln (fB w b 3) (fB w b 4))) G dX9_shines_49 rfl rfl ?_
        refine v_topj (x := pln (fB w b 3) (fB w b 4)) (y := sng (hrd w b (w 1).toNat) (pln (fB w b 3) (fB w b 4))) (by first | (unfold sng; rw [b2_t (by assumption)]; omega) | (unfold sng; rw [b2_f (by assumption)]; omega)) ?_
        exact J_11
      · skip
        refine v_iload_n (j := 0) (x := jI (pln (fB w b 3) (fB w b 4))) G dX9_shines_41 rfl rfl ?_
        refine v_iload_n (j := 0) (x := jI (pln (fB w b 3) (fB w b 4))) G dX9_shines_42 rfl rfl ?_
        refine v_iconst G dX9_shines_43 ?_
        refine v_idiv (z := (pln (fB w b 3) (fB w b 4)) / 2) G dX9_shines_44 (by omega) rfl ?_
        refine v_iadd (z := (pln (fB w b 3) (fB w b 4)) + ((pln (fB w b 3) (fB w b 4)) / 2)) G dX9_shines_45 rfl ?_
        refine v_goto (tgt := 50) G dX9_shines_46 (by decide) ?_
        refine v_topj (x := (pln (fB w b 3) (fB w b 4)) + ((pln (fB w b 3) (fB w b 4)) / 2)) (y := sng (hrd w b (w 1).toNat) (pln (fB w b 3) (fB w b 4))) (by first | (unfold sng; rw [b2_t (by assumption)]; omega) | (unfold sng; rw [b2_f (by assumption)]; omega)) ?_
        exact J_11
  · skip
    refine v_icmp_le (a := fB w b 3) (b := fB w b 4) (tgt := 31) G dX9_shines_12 (by decide) (by omega) (fun c_21 => ?_) (fun c_21 => ?_)
    · skip
      refine v_iconst G dX9_shines_31 ?_
      refine v_topj (x := 0) (y := pln (fB w b 3) (fB w b 4)) (by unfold pln; split <;> omega) ?_
      exact J_7
    · skip
      refine v_aload_n (j := 0) (x := a 0) G dX9_shines_15 rfl rfl ?_
      refine v_iload_n (j := 1) (x := jI b) G dX9_shines_16 rfl rfl ?_
      refine v_iconst G dX9_shines_17 ?_
      refine v_ciF G (rn_V (As := [.int (jI b), .int (jI 3)]) (rest := []) (q0 := 0) G (c_X9_is (b := b) (k := 3) (w := w) (kp := kp) (bf := bf) (ah := ah) (ik := ik) (fd := fd) (sp := sp) (lt := lt) (tp := tp) (tn := tn) (he := he) (ft := ft) (vl := vl) (bt := bt) (lg := lg) (ce := ce) (bw := bw) (a := a) (hb := (by omega))) gX9_shines_X9_is rfl hdX9_is ⟨rfl, rfl, Nat.le_of_ble_eq_true rfl, Nat.le_of_ble_eq_true rfl⟩ rfl rfl (Nat.le_of_ble_eq_true rfl) ⟨Nat.zero_le _, Nat.zero_le _⟩ rfl rfl dX9_shines_18) (fun r_22 u_24 e_23 => ?_)
      have e_23 : r_22 = jI (fB w b 3) := e_23
      subst e_23
      refine v_world (ws' := (wR cI cL a w kp bf ah ik fd sp lt tp tn he ft vl bt lg ce bw)) rfl ?_
      refine v_aload_n (j := 0) (x := a 0) G dX9_shines_21 rfl rfl ?_
      refine v_iload_n (j := 1) (x := jI b) G dX9_shines_22 rfl rfl ?_
      refine v_iconst G dX9_shines_23 ?_
      refine v_ciF G (rn_V (As := [.int (jI b), .int (jI 4)]) (rest := [.int (jI (fB w b 3))]) (q0 := 0) G (c_X9_is (b := b) (k := 4) (w := w) (kp := kp) (bf := bf) (ah := ah) (ik := ik) (fd := fd) (sp := sp) (lt := lt) (tp := tp) (tn := tn) (he := he) (ft := ft) (vl := vl) (bt := bt) (lg := lg) (ce := ce) (bw := bw) (a := a) (hb := (by omega))) gX9_shines_X9_is rfl hdX9_is ⟨rfl, rfl, Nat.le_of_ble_eq_true rfl, Nat.le_of_ble_eq_true rfl⟩ rfl rfl (Nat.le_of_ble_eq_true rfl) ⟨Nat.zero_le _, Nat.zero_le _⟩ rfl rfl dX9_shines_24) (fun r_25 u_27 e_26 => ?_)
      have e_26 : r_25 = jI (fB w b 4) := e_26
      subst e_26
      refine v_world (ws' := (wR cI cL a w kp bf ah ik fd sp lt tp tn he ft vl bt lg ce bw)) rfl ?_
      refine v_isub (z := (fB w b 3) - (fB w b 4)) G dX9_shines_27 rfl ?_
      refine v_goto (tgt := 32) G dX9_shines_28 (by decide) ?_
      refine v_topj (x := (fB w b 3) - (fB w b 4)) (y := pln (fB w b 3) (fB w b 4)) (by unfold pln; split <;> omega) ?_
      exact J_7

set_option maxHeartbeats 4000000 in
set_option maxRecDepth 100000 in
theorem c_X9_givesTo (b p : Int) (hw : Wf w) (hb : (0 ≤ b ∧ b < 10) ∧ 0 ≤ p ∧ p < 16) : Ci l yX9_givesTo wsX9_givesTo { frames := 3, cells := 0, slots := 0, locals := 68 } D (jT cI cL cB cS) [.ref (a 0), .int (jI b), .int (jI p)] (wR cI cL a w kp bf ah ik fd sp lt tp tn he ft vl bt lg ce bw) (S := Unit) (fun _ => (wR cI cL a w kp bf ah ik fd sp lt tp tn he ft vl bt lg ce bw)) (fun r _ => r = jI (sGv w b p)) := by
  refine Ci.mk (cc := cX9_givesTo) (maxL := 3) (rt := .int) (by decide) rfl (Nat.le_of_ble_eq_true rfl) rfl ?_
  intro p_ e_ s_ m_ b_ me_ c_ A_ G hnm
  have hk := hw.being (b := b) (by omega) (by omega)
  have hs := sSh_r hw (b := b) (by omega) (by omega)
  have hq := apt_r (a := fB w b 1) (b := p) (by omega) (by omega)
  refine v_aload_n (j := 0) (x := a 0) G dX9_givesTo_0 rfl rfl ?_
  refine v_iload_n (j := 1) (x := jI b) G dX9_givesTo_1 rfl rfl ?_
  refine v_ciF G (rn_V (As := [.int (jI b)]) (rest := []) (q0 := 0) G (c_X9_shines (b := b) (w := w) (kp := kp) (bf := bf) (ah := ah) (ik := ik) (fd := fd) (sp := sp) (lt := lt) (tp := tp) (tn := tn) (he := he) (ft := ft) (vl := vl) (bt := bt) (lg := lg) (ce := ce) (bw := bw) (a := a) (hw := hw) (hb := (by omega))) gX9_givesTo_X9_shines rfl hdX9_shines ⟨rfl, rfl, Nat.le_of_ble_eq_true rfl, Nat.le_of_ble_eq_true rfl⟩ rfl rfl (Nat.le_of_ble_eq_true rfl) ⟨Nat.zero_le _, Nat.zero_le _⟩ rfl rfl dX9_givesTo_2) (fun r_1 u_3 e_2 => ?_)
  have e_2 : r_1 = jI (sSh w b) := e_2
  subst e_2
  refine v_world (ws' := (wR cI cL a w kp bf ah ik fd sp lt tp tn he ft vl bt lg ce bw)) rfl ?_
  refine v_aload_n (j := 0) (x := a 0) G dX9_givesTo_5 rfl rfl ?_
  refine v_iload_n (j := 1) (x := jI b) G dX9_givesTo_6 rfl rfl ?_
  refine v_iconst G dX9_givesTo_7 ?_
  refine v_ciF G (rn_V (As := [.int (jI b), .int (jI 1)]) (rest := [.int (jI (sSh w b))]) (q0 := 0) G (c_X9_is (b := b) (k := 1) (w := w) (kp := kp) (bf := bf) (ah := ah) (ik := ik) (fd := fd) (sp := sp) (lt := lt) (tp := tp) (tn := tn) (he := he) (ft := ft) (vl := vl) (bt := bt) (lg := lg) (ce := ce) (bw := bw) (a := a) (hb := (by omega))) gX9_givesTo_X9_is rfl hdX9_is ⟨rfl, rfl, Nat.le_of_ble_eq_true rfl, Nat.le_of_ble_eq_true rfl⟩ rfl rfl (Nat.le_of_ble_eq_true rfl) ⟨Nat.zero_le _, Nat.zero_le _⟩ rfl rfl dX9_givesTo_8) (fun r_4 u_6 e_5 => ?_)
  have e_5 : r_4 = jI (fB w b 1) := e_5
  subst e_5
  refine v_world (ws' := (wR cI cL a w kp bf ah ik fd sp lt tp tn he ft vl bt lg ce bw)) rfl ?_
  refine v_iload_n (j := 2) (x := jI p) G dX9_givesTo_11 rfl rfl ?_
  refine v_ciN G (rn_S (As := [.int (jI (fB w b 1)), .int (jI p)]) (rest := [.int (jI (sSh w b))]) G (c_X9_apart (x := fB w b 1) (y := p) (hx := (by omega))) gX9_givesTo_X9_apart rfl hdX9_apart ⟨rfl, rfl, Nat.le_of_ble_eq_true rfl, Nat.le_of_ble_eq_true rfl⟩ rfl rfl (Nat.le_of_ble_eq_true rfl) ⟨Nat.zero_le _, Nat.zero_le _⟩ dX9_givesTo_12) (fun r_7 u_9 e_8 => ?_)
  have e_8 : r_7 = jI (apt (fB w b 1) p) := e_8
  subst e_8
  refine v_ishr (v := (jI (sSh w b)) >>> ((jI (apt (fB w b 1) p)) &&& 31)) G dX9_givesTo_15 rfl ?_
  refine v_top (x := (jI (sSh w b)) >>> ((jI (apt (fB w b 1) p)) &&& 31)) (y := jI (sGv w b p)) (jI_shrI (by omega) (by omega)) ?_
  exact v_iret G () rfl rfl dX9_givesTo_16

set_option maxHeartbeats 4000000 in
set_option maxRecDepth 100000 in
theorem c_X9_lightOf (p : Int) (hw : Wf w) (hp : 0 ≤ p ∧ p < 16) : Ci l yX9_lightOf wsX9_lightOf { frames := 4, cells := 0, slots := 0, locals := 90 } D (jT cI cL cB cS) [.ref (a 0), .int (jI p)] (wR cI cL a w kp bf ah ik fd sp lt tp tn he ft vl bt lg ce bw) (S := Unit) (fun _ => (wR cI cL a w kp bf ah ik fd sp lt tp tn he ft vl bt lg ce bw)) (fun r _ => r = jI (sLt w p)) := by
  refine Ci.mk (cc := cX9_lightOf) (maxL := 4) (rt := .int) (by decide) rfl (Nat.le_of_ble_eq_true rfl) rfl ?_
  intro p_ e_ s_ m_ b_ me_ c_ A_ G hnm
  have hm := hw.many
  have k_X9 : ∀ w ∈ u_ws RX9 TX9 17, w ∈ wsX9_lightOf := fun _ h => List.mem_cons_of_mem _ (List.mem_append_right _ h)
  have q_1 : Cond.fieldLink RX9 9 "SupperLightModel" "s" "[I" ∈ wsX9_lightOf := List.mem_of_getElem? (i := 1) rfl
  refine v_aload_n (j := 0) (x := a 0) G dX9_lightOf_0 rfl rfl ?_
  refine v_get (q0 := 0) (k := 0) (v := .ref (a 1)) G k_X9 rfl rfl (by decide) q_1 rfl rfl dX9_lightOf_1 ?_
  refine v_iconst G dX9_lightOf_4 ?_
  refine v_iload_n (j := 1) (x := jI p) G dX9_lightOf_5 rfl rfl ?_
  refine v_iadd (z := 3 + p) G dX9_lightOf_6 rfl ?_
  refine v_iald (q0 := 1) (t0 := 0) (g := w) (z := 3 + p) G rfl rfl (by omega) dX9_lightOf_7 ?_
  refine v_topj (x := w (3 + p)) (y := w (3 + p) + sumN (fun x_ => sGv w x_ p) 0) (Int.add_zero _).symm ?_
  refine v_istore_n (lv' := [(2, .int (jI (w (3 + p) + sumN (fun x_ => sGv w x_ p) 0))), (0, .ref (a 0)), (1, .int (jI p))]) G dX9_lightOf_8 rfl (by decide) rfl ?_
  refine v_iconst G dX9_lightOf_9 ?_
  refine v_istore_n (lv' := [(3, .int (jI 0)), (2, .int (jI (w (3 + p) + sumN (fun x_ => sGv w x_ p) 0))), (0, .ref (a 0)), (1, .int (jI p))]) G dX9_lightOf_10 rfl (by decide) rfl ?_
  refine v_locs (lv' := [(3, .int (jI 0)), (2, .int (jI (w (3 + p) + sumN (fun x_ => sGv w x_ p) 0))), (0, .ref (a 0)), (1, .int (jI p))]) [0, 1, 2, 3] rfl ?_
  refine v_loop1 (fun (k : Nat) => [(3, .int (jI (k : Int))), (2, .int (jI (w (3 + p) + sumN (fun x_ => sGv w x_ p) k))), (0, .ref (a 0)), (1, .int (jI p))]) (fun (k : Nat) => (wR cI cL a w kp bf ah ik fd sp lt tp tn he ft vl bt lg ce bw)) (fun (k : Nat) => (k : Int) ≤ w 1) (fun (k : Nat) => (w 1).toNat - k) 0 (by omega) rfl rfl ?_
  intro k I_1 ih_2
  refine v_iload_n (j := 0) (x := jI (k : Int)) G dX9_lightOf_11 rfl rfl ?_
  refine v_aload_n (j := 2) (x := a 0) G dX9_lightOf_12 rfl rfl ?_
  refine v_get (q0 := 0) (k := 0) (v := .ref (a 1)) G k_X9 rfl rfl (by decide) q_1 rfl rfl dX9_lightOf_13 ?_
  refine v_iconst G dX9_lightOf_16 ?_
  refine v_iald (q0 := 1) (t0 := 0) (g := w) (z := 1) G rfl rfl (by omega) dX9_lightOf_17 ?_
  refine v_icmp_ge (a := (k : Int)) (b := w 1) (tgt := 36) G dX9_lightOf_18 (by decide) (by omega) (fun c_3 => ?_) (fun c_3 => ?_)
  · skip
    refine v_iload_n (j := 1) (x := jI (w (3 + p) + sumN (fun x_ => sGv w x_ p) k)) G dX9_lightOf_36 rfl rfl ?_
    exact v_iret G () (show jI (w (3 + p) + sumN (fun x_ => sGv w x_ p) k) = jI (sLt w p) from by rw [show k = (w 1).toNat by omega]; rfl) rfl dX9_lightOf_37
  · skip
    refine v_iload_n (j := 1) (x := jI (w (3 + p) + sumN (fun x_ => sGv w x_ p) k)) G dX9_lightOf_21 rfl rfl ?_
    refine v_aload_n (j := 2) (x := a 0) G dX9_lightOf_22 rfl rfl ?_
    refine v_iload_n (j := 0) (x := jI (k : Int)) G dX9_lightOf_23 rfl rfl ?_
    refine v_iload_n (j := 3) (x := jI p) G dX9_lightOf_24 rfl rfl ?_
    refine v_ciF G (rn_V (As := [.int (jI (k : Int)), .int (jI p)]) (rest := [.int (jI (w (3 + p) + sumN (fun x_ => sGv w x_ p) k))]) (q0 := 0) G (c_X9_givesTo (b := (k : Int)) (p := p) (w := w) (kp := kp) (bf := bf) (ah := ah) (ik := ik) (fd := fd) (sp := sp) (lt := lt) (tp := tp) (tn := tn) (he := he) (ft := ft) (vl := vl) (bt := bt) (lg := lg) (ce := ce) (bw := bw) (a := a) (hw := hw) (hb := (by omega))) gX9_lightOf_X9_givesTo rfl hdX9_givesTo ⟨rfl, rfl, Nat.le_of_ble_eq_true rfl, Nat.le_of_ble_eq_true rfl⟩ rfl rfl (Nat.le_of_ble_eq_true rfl) ⟨Nat.zero_le _, Nat.zero_le _⟩ rfl rfl dX9_lightOf_25) (fun r_4 u_6 e_5 => ?_)
    have e_5 : r_4 = jI (sGv w (k : Int) p) := e_5
    subst e_5
    refine v_world (ws' := (wR cI cL a w kp bf ah ik fd sp lt tp tn he ft vl bt lg ce bw)) rfl ?_
    refine v_iadd (z := (w (3 + p) + sumN (fun x_ => sGv w x_ p) k) + (sGv w (k : Int) p)) G dX9_lightOf_28 rfl ?_
    refine v_topj (x := (w (3 + p) + sumN (fun x_ => sGv w x_ p) k) + (sGv w (k : Int) p)) (y := w (3 + p) + sumN (fun x_ => sGv w x_ p) (k + 1)) (by rw [sumN_s]; omega) ?_
    refine v_istore_n (lv' := [(2, .int (jI (w (3 + p) + sumN (fun x_ => sGv w x_ p) (k + 1)))), (3, .int (jI (k : Int))), (0, .ref (a 0)), (1, .int (jI p))]) G dX9_lightOf_29 rfl (by decide) rfl ?_
    refine v_iinc (k := 1) (z := (k : Int)) (z' := ((k + 1 : Nat) : Int)) (lv' := [(3, .int (jI ((k + 1 : Nat) : Int))), (2, .int (jI (w (3 + p) + sumN (fun x_ => sGv w x_ p) (k + 1)))), (0, .ref (a 0)), (1, .int (jI p))]) G dX9_lightOf_30 rfl (by omega) (by decide) rfl ?_
    refine v_goto (tgt := 11) G dX9_lightOf_33 (by decide) ?_
    exact ih_2 (k + 1) (by omega) (by omega)

set_option maxHeartbeats 4000000 in
set_option maxRecDepth 100000 in
theorem c_X9_lightOfAll  (hw : Wf w) : Ci l yX9_lightOfAll wsX9_lightOfAll { frames := 5, cells := 0, slots := 0, locals := 113 } D (jT cI cL cB cS) [.ref (a 0)] (wR cI cL a w kp bf ah ik fd sp lt tp tn he ft vl bt lg ce bw) (S := Unit) (fun _ => (wR cI cL a w kp bf ah ik fd sp lt tp tn he ft vl bt lg ce bw)) (fun r _ => r = jI (sLtAll w)) := by
  refine Ci.mk (cc := cX9_lightOfAll) (maxL := 3) (rt := .int) (by decide) rfl (Nat.le_of_ble_eq_true rfl) rfl ?_
  intro p_ e_ s_ m_ b_ me_ c_ A_ G hnm
  refine v_iconst G dX9_lightOfAll_0 ?_
  refine v_topj (x := 0) (y := sumN (sLt w) 0) rfl ?_
  refine v_istore_n (lv' := [(1, .int (jI (sumN (sLt w) 0))), (0, .ref (a 0))]) G dX9_lightOfAll_1 rfl (by decide) rfl ?_
  refine v_iconst G dX9_lightOfAll_2 ?_
  refine v_istore_n (lv' := [(2, .int (jI 0)), (1, .int (jI (sumN (sLt w) 0))), (0, .ref (a 0))]) G dX9_lightOfAll_3 rfl (by decide) rfl ?_
  refine v_locs (lv' := [(2, .int (jI 0)), (1, .int (jI (sumN (sLt w) 0))), (0, .ref (a 0))]) [0, 1, 2] rfl ?_
  refine v_loop1 (fun (k : Nat) => [(2, .int (jI (k : Int))), (1, .int (jI (sumN (sLt w) k))), (0, .ref (a 0))]) (fun (k : Nat) => (wR cI cL a w kp bf ah ik fd sp lt tp tn he ft vl bt lg ce bw)) (fun (k : Nat) => (k : Int) ≤ 16) (fun (k : Nat) => 16 - k) 0 (by decide) rfl rfl ?_
  intro k I_1 ih_2
  refine v_iload_n (j := 0) (x := jI (k : Int)) G dX9_lightOfAll_4 rfl rfl ?_
  refine v_bipush G dX9_lightOfAll_5 (by decide) ?_
  refine v_icmp_ge (a := (k : Int)) (b := 16) (tgt := 24) G dX9_lightOfAll_7 (by decide) (by omega) (fun c_3 => ?_) (fun c_3 => ?_)
  · skip
    refine v_iload_n (j := 1) (x := jI (sumN (sLt w) k)) G dX9_lightOfAll_24 rfl rfl ?_
    exact v_iret G () (show jI (sumN (sLt w) k) = jI (sLtAll w) from by rw [show k = 16 by omega]; rfl) rfl dX9_lightOfAll_25
  · skip
    refine v_iload_n (j := 1) (x := jI (sumN (sLt w) k)) G dX9_lightOfAll_10 rfl rfl ?_
    refine v_aload_n (j := 2) (x := a 0) G dX9_lightOfAll_11 rfl rfl ?_
    refine v_iload_n (j := 0) (x := jI (k : Int)) G dX9_lightOfAll_12 rfl rfl ?_
    refine v_ciF G (rn_V (As := [.int (jI (k : Int))]) (rest := [.int (jI (sumN (sLt w) k))]) (q0 := 0) G (c_X9_lightOf (p := (k : Int)) (w := w) (kp := kp) (bf := bf) (ah := ah) (ik := ik) (fd := fd) (sp := sp) (lt := lt) (tp := tp) (tn := tn) (he := he) (ft := ft) (vl := vl) (bt := bt) (lg := lg) (ce := ce) (bw := bw) (a := a) (hw := hw) (hp := (by omega))) gX9_lightOfAll_X9_lightOf rfl hdX9_lightOf ⟨rfl, rfl, Nat.le_of_ble_eq_true rfl, Nat.le_of_ble_eq_true rfl⟩ rfl rfl (Nat.le_of_ble_eq_true rfl) ⟨Nat.zero_le _, Nat.zero_le _⟩ rfl rfl dX9_lightOfAll_13) (fun r_4 u_6 e_5 => ?_)
    have e_5 : r_4 = jI (sLt w (k : Int)) := e_5
    subst e_5
    refine v_world (ws' := (wR cI cL a w kp bf ah ik fd sp lt tp tn he ft vl bt lg ce bw)) rfl ?_
    refine v_iadd (z := (sumN (sLt w) k) + (sLt w (k : Int))) G dX9_lightOfAll_16 rfl ?_
    refine v_topj (x := (sumN (sLt w) k) + (sLt w (k : Int))) (y := sumN (sLt w) (k + 1)) rfl ?_
    refine v_istore_n (lv' := [(1, .int (jI (sumN (sLt w) (k + 1)))), (2, .int (jI (k : Int))), (0, .ref (a 0))]) G dX9_lightOfAll_17 rfl (by decide) rfl ?_
    refine v_iinc (k := 1) (z := (k : Int)) (z' := ((k + 1 : Nat) : Int)) (lv' := [(2, .int (jI ((k + 1 : Nat) : Int))), (1, .int (jI (sumN (sLt w) (k + 1)))), (0, .ref (a 0))]) G dX9_lightOfAll_18 rfl (by omega) (by decide) rfl ?_
    refine v_goto (tgt := 4) G dX9_lightOfAll_21 (by decide) ?_
    exact ih_2 (k + 1) (by omega) (by omega)
end

section
variable {l : Launch} {D : va_G} {cI cL cB cS : ClassId} {a b c : Nat → Nat} {x o : WT} {g : GT}
set_option maxHeartbeats 4000000 in
set_option maxRecDepth 100000 in
theorem c_X8_within (v lo hi : Int) (hr : (-2147483648 ≤ v ∧ v ≤ 2147483647) ∧ (-2147483648 ≤ lo ∧ lo ≤ 2147483647) ∧ (-2147483648 ≤ hi ∧ hi ≤ 2147483647)) : Ci l yX8_within wsX8_within { frames := 0, cells := 0, slots := 0, locals := 0 } D (jT cI cL cB cS) [.int (jI v), .int (jI lo), .int (jI hi)] [] (S := Unit) (fun _ => []) (fun r _ => r = jI (b2 ((lo : Int) ≤ v ∧ v ≤ (hi : Int)))) := by
  refine Ci.mk (cc := cX8_within) (maxL := 3) (rt := .boolean) (by decide) rfl (Nat.le_of_ble_eq_true rfl) rfl ?_
  intro p_ e_ s_ m_ b_ me_ c_ A_ G hnm
  refine v_iload_n (j := 0) (x := jI v) G dX8_within_0 rfl rfl ?_
  refine v_iload_n (j := 1) (x := jI lo) G dX8_within_1 rfl rfl ?_
  refine v_icmp_lt (a := v) (b := lo) (tgt := 14) G dX8_within_2 (by decide) (by omega) (fun c_1 => ?_) (fun c_1 => ?_)
  · skip
    refine v_iconst G dX8_within_14 ?_
    exact v_zret G () nb_0 (show jI 0 = jI (b2 ((lo : Int) ≤ v ∧ v ≤ (hi : Int))) from congrArg jI (b2_f (P := (lo : Int) ≤ v ∧ v ≤ (hi : Int)) (by omega)).symm) rfl dX8_within_15
  · skip
    refine v_iload_n (j := 0) (x := jI v) G dX8_within_5 rfl rfl ?_
    refine v_iload_n (j := 2) (x := jI hi) G dX8_within_6 rfl rfl ?_
    refine v_icmp_gt (a := v) (b := hi) (tgt := 14) G dX8_within_7 (by decide) (by omega) (fun c_2 => ?_) (fun c_2 => ?_)
    · skip
      refine v_iconst G dX8_within_14 ?_
      exact v_zret G () nb_0 (show jI 0 = jI (b2 ((lo : Int) ≤ v ∧ v ≤ (hi : Int))) from congrArg jI (b2_f (P := (lo : Int) ≤ v ∧ v ≤ (hi : Int)) (by omega)).symm) rfl dX8_within_15
    · skip
      refine v_iconst G dX8_within_10 ?_
      refine v_goto (tgt := 15) G dX8_within_11 (by decide) ?_
      exact v_zret G () nb_1 (show jI 1 = jI (b2 ((lo : Int) ≤ v ∧ v ≤ (hi : Int))) from congrArg jI (b2_t (P := (lo : Int) ≤ v ∧ v ≤ (hi : Int)) (by omega)).symm) rfl dX8_within_15

set_option maxHeartbeats 4000000 in
set_option maxRecDepth 100000 in
theorem c_X8_isPlace (p : Int) (hr : (-2147483648 ≤ p ∧ p ≤ 2147483647)) : Ci l yX8_isPlace wsX8_isPlace { frames := 1, cells := 0, slots := 0, locals := 22 } D (jT cI cL cB cS) [.int (jI p)] [] (S := Unit) (fun _ => []) (fun r _ => r = jI (b2 (0 ≤ p ∧ p ≤ 15))) := by
  refine Ci.mk (cc := cX8_isPlace) (maxL := 1) (rt := .boolean) (by decide) rfl (Nat.le_of_ble_eq_true rfl) rfl ?_
  intro p_ e_ s_ m_ b_ me_ c_ A_ G hnm
  refine v_iload_n (j := 0) (x := jI p) G dX8_isPlace_0 rfl rfl ?_
  refine v_iconst G dX8_isPlace_1 ?_
  refine v_bipush G dX8_isPlace_2 (by decide) ?_
  refine v_ciF G (rn_S (As := [.int (jI p), .int (jI 0), .int (jI 15)]) (rest := []) G (c_X8_within (v := p) (lo := 0) (hi := 15) (hr := (by omega))) gX8_isPlace_X8_within rfl hdX8_within ⟨rfl, rfl, Nat.le_of_ble_eq_true rfl, Nat.le_of_ble_eq_true rfl⟩ rfl rfl (Nat.le_of_ble_eq_true rfl) ⟨Nat.zero_le _, Nat.zero_le _⟩ dX8_isPlace_4) (fun r_1 u_3 e_2 => ?_)
  have e_2 : r_1 = jI (b2 ((0 : Int) ≤ p ∧ p ≤ (15 : Int))) := e_2
  subst e_2
  exact v_zret G () (nb_b2 _) (show jI (b2 ((0 : Int) ≤ p ∧ p ≤ (15 : Int))) = jI (b2 (0 ≤ p ∧ p ≤ 15)) from congrArg jI (by omega)) rfl dX8_isPlace_7

set_option maxHeartbeats 4000000 in
set_option maxRecDepth 100000 in
theorem c_X8_isKind (k : Int) (hr : (-2147483648 ≤ k ∧ k ≤ 2147483647)) : Ci l yX8_isKind wsX8_isKind { frames := 1, cells := 0, slots := 0, locals := 22 } D (jT cI cL cB cS) [.int (jI k)] [] (S := Unit) (fun _ => []) (fun r _ => r = jI (b2 (0 ≤ k ∧ k ≤ 5))) := by
  refine Ci.mk (cc := cX8_isKind) (maxL := 1) (rt := .boolean) (by decide) rfl (Nat.le_of_ble_eq_true rfl) rfl ?_
  intro p_ e_ s_ m_ b_ me_ c_ A_ G hnm
  refine v_iload_n (j := 0) (x := jI k) G dX8_isKind_0 rfl rfl ?_
  refine v_iconst G dX8_isKind_1 ?_
  refine v_iconst G dX8_isKind_2 ?_
  refine v_ciF G (rn_S (As := [.int (jI k), .int (jI 0), .int (jI 5)]) (rest := []) G (c_X8_within (v := k) (lo := 0) (hi := 5) (hr := (by omega))) gX8_isKind_X8_within rfl hdX8_within ⟨rfl, rfl, Nat.le_of_ble_eq_true rfl, Nat.le_of_ble_eq_true rfl⟩ rfl rfl (Nat.le_of_ble_eq_true rfl) ⟨Nat.zero_le _, Nat.zero_le _⟩ dX8_isKind_3) (fun r_1 u_3 e_2 => ?_)
  have e_2 : r_1 = jI (b2 ((0 : Int) ≤ k ∧ k ≤ (5 : Int))) := e_2
  subst e_2
  exact v_zret G () (nb_b2 _) (show jI (b2 ((0 : Int) ≤ k ∧ k ≤ (5 : Int))) = jI (b2 (0 ≤ k ∧ k ≤ 5)) from congrArg jI (by omega)) rfl dX8_isKind_6

set_option maxHeartbeats 4000000 in
set_option maxRecDepth 100000 in
theorem c_X8_isSheet (k : Int) (hr : (-2147483648 ≤ k ∧ k ≤ 2147483647)) : Ci l yX8_isSheet wsX8_isSheet { frames := 1, cells := 0, slots := 0, locals := 22 } D (jT cI cL cB cS) [.int (jI k)] [] (S := Unit) (fun _ => []) (fun r _ => r = jI (b2 (0 ≤ k ∧ k ≤ 3))) := by
  refine Ci.mk (cc := cX8_isSheet) (maxL := 1) (rt := .boolean) (by decide) rfl (Nat.le_of_ble_eq_true rfl) rfl ?_
  intro p_ e_ s_ m_ b_ me_ c_ A_ G hnm
  refine v_iload_n (j := 0) (x := jI k) G dX8_isSheet_0 rfl rfl ?_
  refine v_iconst G dX8_isSheet_1 ?_
  refine v_iconst G dX8_isSheet_2 ?_
  refine v_ciF G (rn_S (As := [.int (jI k), .int (jI 0), .int (jI 3)]) (rest := []) G (c_X8_within (v := k) (lo := 0) (hi := 3) (hr := (by omega))) gX8_isSheet_X8_within rfl hdX8_within ⟨rfl, rfl, Nat.le_of_ble_eq_true rfl, Nat.le_of_ble_eq_true rfl⟩ rfl rfl (Nat.le_of_ble_eq_true rfl) ⟨Nat.zero_le _, Nat.zero_le _⟩ dX8_isSheet_3) (fun r_1 u_3 e_2 => ?_)
  have e_2 : r_1 = jI (b2 ((0 : Int) ≤ k ∧ k ≤ (3 : Int))) := e_2
  subst e_2
  exact v_zret G () (nb_b2 _) (show jI (b2 ((0 : Int) ≤ k ∧ k ≤ (3 : Int))) = jI (b2 (0 ≤ k ∧ k ≤ 3)) from congrArg jI (by omega)) rfl dX8_isSheet_6

set_option maxHeartbeats 4000000 in
set_option maxRecDepth 100000 in
theorem c_X8_sumOf (y : Nat) (f : Int → Int) (N : Nat) (n : Int) (hn : 0 ≤ n ∧ n ≤ N ∧ N ≤ 1000) : Ci l yX8_sumOf wsX8_sumOf { frames := 0, cells := 0, slots := 0, locals := 0 } D (jT cI cL cB cS) [.ref y, .int (jI n)] (gA1 cI y N f) (S := Unit) (fun _ => (gA1 cI y N f)) (fun r _ => r = jI (sumN f n.toNat)) := by
  refine Ci.mk (cc := cX8_sumOf) (maxL := 4) (rt := .int) (by decide) rfl (Nat.le_of_ble_eq_true rfl) rfl ?_
  intro p_ e_ s_ m_ b_ me_ c_ A_ G hnm
  refine v_iconst G dX8_sumOf_0 ?_
  refine v_topj (x := 0) (y := sumN f 0) rfl ?_
  refine v_istore_n (lv' := [(2, .int (jI (sumN f 0))), (0, .ref y), (1, .int (jI n))]) G dX8_sumOf_1 rfl (by decide) rfl ?_
  refine v_iconst G dX8_sumOf_2 ?_
  refine v_istore_n (lv' := [(3, .int (jI 0)), (2, .int (jI (sumN f 0))), (0, .ref y), (1, .int (jI n))]) G dX8_sumOf_3 rfl (by decide) rfl ?_
  refine v_locs (lv' := [(3, .int (jI 0)), (2, .int (jI (sumN f 0))), (0, .ref y), (1, .int (jI n))]) [0, 1, 2, 3] rfl ?_
  refine v_loop1 (fun (k : Nat) => [(3, .int (jI (k : Int))), (2, .int (jI (sumN f k))), (0, .ref y), (1, .int (jI n))]) (fun (k : Nat) => (gA1 cI y N f)) (fun (k : Nat) => (k : Int) ≤ n) (fun (k : Nat) => n.toNat - k) 0 (by omega) rfl rfl ?_
  intro k I_1 ih_2
  refine v_iload_n (j := 0) (x := jI (k : Int)) G dX8_sumOf_4 rfl rfl ?_
  refine v_iload_n (j := 3) (x := jI n) G dX8_sumOf_5 rfl rfl ?_
  refine v_icmp_ge (a := (k : Int)) (b := n) (tgt := 27) G dX8_sumOf_6 (by decide) (by omega) (fun c_3 => ?_) (fun c_3 => ?_)
  · skip
    obtain rfl : k = n.toNat := by omega
    refine v_iload_n (j := 1) (x := jI (sumN f n.toNat)) G dX8_sumOf_27 rfl rfl ?_
    exact v_iret G () rfl rfl dX8_sumOf_28
  · skip
    refine v_iload_n (j := 0) (x := jI (k : Int)) G dX8_sumOf_9 rfl rfl ?_
    refine v_aload_n (j := 2) (x := y) G dX8_sumOf_10 rfl rfl ?_
    refine v_alen (q0 := 0) (t0 := 0) (z := (N : Int)) G rfl rfl rfl dX8_sumOf_11 ?_
    refine v_icmp_ge (a := (k : Int)) (b := (N : Int)) (tgt := 27) G dX8_sumOf_12 (by decide) (by omega) (fun c_4 => ?_) (fun c_4 => ?_)
    · skip
      obtain rfl : k = n.toNat := by omega
      refine v_iload_n (j := 1) (x := jI (sumN f n.toNat)) G dX8_sumOf_27 rfl rfl ?_
      exact v_iret G () rfl rfl dX8_sumOf_28
    · skip
      refine v_iload_n (j := 1) (x := jI (sumN f k)) G dX8_sumOf_15 rfl rfl ?_
      refine v_aload_n (j := 2) (x := y) G dX8_sumOf_16 rfl rfl ?_
      refine v_iload_n (j := 0) (x := jI (k : Int)) G dX8_sumOf_17 rfl rfl ?_
      refine v_iald (q0 := 0) (t0 := 0) (g := f) (z := (k : Int)) G rfl rfl (by omega) dX8_sumOf_18 ?_
      refine v_iadd (z := (sumN f k) + (f (k : Int))) G dX8_sumOf_19 rfl ?_
      refine v_topj (x := (sumN f k) + (f (k : Int))) (y := sumN f (k + 1)) rfl ?_
      refine v_istore_n (lv' := [(2, .int (jI (sumN f (k + 1)))), (3, .int (jI (k : Int))), (0, .ref y), (1, .int (jI n))]) G dX8_sumOf_20 rfl (by decide) rfl ?_
      refine v_iinc (k := 1) (z := (k : Int)) (z' := ((k + 1 : Nat) : Int)) (lv' := [(3, .int (jI ((k + 1 : Nat) : Int))), (2, .int (jI (sumN f (k + 1)))), (0, .ref y), (1, .int (jI n))]) G dX8_sumOf_21 rfl (by omega) (by decide) rfl ?_
      refine v_goto (tgt := 4) G dX8_sumOf_24 (by decide) ?_
      exact ih_2 (k + 1) (by omega) (by omega)

set_option maxHeartbeats 4000000 in
set_option maxRecDepth 100000 in
theorem c_X8_stepsBetween (x y : Int) (hx : (0 ≤ x ∧ x ≤ 15) ∧ 0 ≤ y ∧ y ≤ 15) : Ci l yX8_stepsBetween wsX8_stepsBetween { frames := 1, cells := 0, slots := 0, locals := 21 } D (jT cI cL cB cS) [.int (jI x), .int (jI y)] [] (S := Unit) (fun _ => []) (fun r _ => r = jI (apt x y)) := by
  refine Ci.mk (cc := cX8_stepsBetween) (maxL := 2) (rt := .int) (by decide) rfl (Nat.le_of_ble_eq_true rfl) rfl ?_
  intro p_ e_ s_ m_ b_ me_ c_ A_ G hnm
  have q_0 : Cond.methodLink RX8 317 Lib.Math.abs.name ∈ wsX8_stepsBetween := List.mem_of_getElem? (i := 1) rfl
  have q_1 : Cond.static Lib.Math.abs.name ∈ wsX8_stepsBetween := List.mem_of_getElem? (i := 2) rfl
  have q_2 : Cond.initialized "java/lang/Math" ∈ wsX8_stepsBetween := List.mem_of_getElem? (i := 3) rfl
  have q_3 : Cond.code Lib.Math.abs.name Lib.Math.abs.code 1 (some .int) ∈ wsX8_stepsBetween := List.mem_of_getElem? (i := 4) rfl
  refine v_iload_n (j := 0) (x := jI x) G dX8_stepsBetween_0 rfl rfl ?_
  refine v_iconst G dX8_stepsBetween_1 ?_
  refine v_idiv (z := x / 4) G dX8_stepsBetween_2 (by omega) rfl ?_
  refine v_iload_n (j := 1) (x := jI y) G dX8_stepsBetween_3 rfl rfl ?_
  refine v_iconst G dX8_stepsBetween_4 ?_
  refine v_idiv (z := y / 4) G dX8_stepsBetween_5 (by omega) rfl ?_
  refine v_isub (z := (x / 4) - (y / 4)) G dX8_stepsBetween_6 rfl ?_
  refine v_mabs (z := jabs ((x / 4) - (y / 4))) G q_0 q_1 q_2 q_3 ⟨Nat.le_of_ble_eq_true rfl, Nat.le_of_ble_eq_true rfl, Nat.zero_le _, Nat.zero_le _⟩ (by omega) (jabs_z ((x / 4) - (y / 4))) dX8_stepsBetween_7 ?_
  refine v_iload_n (j := 0) (x := jI x) G dX8_stepsBetween_10 rfl rfl ?_
  refine v_iconst G dX8_stepsBetween_11 ?_
  refine v_irem (z := x % 4) G dX8_stepsBetween_12 (by omega) rfl ?_
  refine v_iload_n (j := 1) (x := jI y) G dX8_stepsBetween_13 rfl rfl ?_
  refine v_iconst G dX8_stepsBetween_14 ?_
  refine v_irem (z := y % 4) G dX8_stepsBetween_15 (by omega) rfl ?_
  refine v_isub (z := (x % 4) - (y % 4)) G dX8_stepsBetween_16 rfl ?_
  refine v_mabs (z := jabs ((x % 4) - (y % 4))) G q_0 q_1 q_2 q_3 ⟨Nat.le_of_ble_eq_true rfl, Nat.le_of_ble_eq_true rfl, Nat.zero_le _, Nat.zero_le _⟩ (by omega) (jabs_z ((x % 4) - (y % 4))) dX8_stepsBetween_17 ?_
  refine v_iadd (z := (jabs ((x / 4) - (y / 4))) + (jabs ((x % 4) - (y % 4)))) G dX8_stepsBetween_20 rfl ?_
  exact v_iret G () (show jI ((jabs ((x / 4) - (y / 4))) + (jabs ((x % 4) - (y % 4)))) = jI (apt x y) from rfl) rfl dX8_stepsBetween_21

set_option maxHeartbeats 4000000 in
set_option maxRecDepth 100000 in
theorem c_X8_isUnder (k u : Int) (hk : (-1 ≤ k ∧ k ≤ 5) ∧ 0 ≤ u ∧ u ≤ 5) : Ci l yX8_isUnder wsX8_isUnder { frames := 0, cells := 0, slots := 0, locals := 0 } D (jT cI cL cB cS) [.int (jI k), .int (jI u)] [] (S := Unit) (fun _ => []) (fun r _ => r = jI (b2 (unN k u 6))) := by
  refine Ci.mk (cc := cX8_isUnder) (maxL := 4) (rt := .boolean) (by decide) rfl (Nat.le_of_ble_eq_true rfl) rfl ?_
  intro p_ e_ s_ m_ b_ me_ c_ A_ G hnm
  have q_0 : Cond.fieldLink RX8 320 "SupperLight" "ABOVE" "[I" ∈ wsX8_isUnder := List.mem_of_getElem? (i := 1) rfl
  refine v_iload_n (j := 0) (x := jI k) G dX8_isUnder_0 rfl rfl ?_
  refine v_istore_n (lv' := [(2, .int (jI k)), (0, .int (jI k)), (1, .int (jI u))]) G dX8_isUnder_1 rfl (by decide) rfl ?_
  refine v_iconst G dX8_isUnder_2 ?_
  refine v_istore_n (lv' := [(3, .int (jI 0)), (2, .int (jI k)), (0, .int (jI k)), (1, .int (jI u))]) G dX8_isUnder_3 rfl (by decide) rfl ?_
  refine v_locs (lv' := [(3, .int (jI 0)), (2, .int (jI k)), (0, .int (jI k)), (1, .int (jI u))]) [0, 1, 2, 3] rfl ?_
  refine v_loop2 (fun (n : Nat) (z : Int) => [(3, .int (jI (n : Int))), (2, .int (jI z)), (0, .int (jI k)), (1, .int (jI u))]) (fun (n : Nat) (z : Int) => []) (fun (n : Nat) (z : Int) => n ≤ 6 ∧ (-1 ≤ z ∧ z ≤ 5) ∧ (unN z u (6 - n) ↔ unN k u 6)) (fun (n : Nat) (z : Int) => 6 - n) 0 k ⟨by decide, by omega, Iff.rfl⟩ rfl rfl ?_
  intro n z I_1 ih_2
  obtain ⟨hn, hz, hu⟩ := id I_1
  refine v_iload_n (j := 0) (x := jI (n : Int)) G dX8_isUnder_4 rfl rfl ?_
  refine v_bipush G dX8_isUnder_5 (by decide) ?_
  refine v_icmp_ge (a := (n : Int)) (b := 6) (tgt := 39) G dX8_isUnder_7 (by decide) (by omega) (fun c_3 => ?_) (fun c_3 => ?_)
  · skip
    have hno : ¬ unN k u 6 := by rw [← hu]; intro q; rcases (show n = 6 ∨ n < 6 by omega) with rfl | h6; exact q; rw [show 6 - n = (6 - (n + 1)) + 1 by omega] at q; have := q.1; omega
    refine v_iconst G dX8_isUnder_39 ?_
    exact v_zret G () nb_0 (show jI 0 = jI (b2 (unN k u 6)) from congrArg jI (b2_f (P := unN k u 6) (by exact hno)).symm) rfl dX8_isUnder_40
  · skip
    refine v_iload_n (j := 1) (x := jI z) G dX8_isUnder_10 rfl rfl ?_
    refine v_if_lt (a := z) (tgt := 39) G dX8_isUnder_11 (by decide) (by omega) (fun c_4 => ?_) (fun c_4 => ?_)
    · skip
      have hno : ¬ unN k u 6 := by rw [← hu]; intro q; rcases (show n = 6 ∨ n < 6 by omega) with rfl | h6; exact q; rw [show 6 - n = (6 - (n + 1)) + 1 by omega] at q; have := q.1; omega
      refine v_iconst G dX8_isUnder_39 ?_
      exact v_zret G () nb_0 (show jI 0 = jI (b2 (unN k u 6)) from congrArg jI (b2_f (P := unN k u 6) (by exact hno)).symm) rfl dX8_isUnder_40
    · skip
      refine v_iload_n (j := 1) (x := jI z) G dX8_isUnder_14 rfl rfl ?_
      refine v_bipush G dX8_isUnder_15 (by decide) ?_
      refine v_icmp_ge (a := z) (b := 6) (tgt := 39) G dX8_isUnder_17 (by decide) (by omega) (fun c_5 => ?_) (fun c_5 => ?_)
      · skip
        have hno : ¬ unN k u 6 := by rw [← hu]; intro q; rcases (show n = 6 ∨ n < 6 by omega) with rfl | h6; exact q; rw [show 6 - n = (6 - (n + 1)) + 1 by omega] at q; have := q.1; omega
        refine v_iconst G dX8_isUnder_39 ?_
        exact v_zret G () nb_0 (show jI 0 = jI (b2 (unN k u 6)) from congrArg jI (b2_f (P := unN k u 6) (by exact hno)).symm) rfl dX8_isUnder_40
      · skip
        refine v_iload_n (j := 1) (x := jI z) G dX8_isUnder_20 rfl rfl ?_
        refine v_iload_n (j := 3) (x := jI u) G dX8_isUnder_21 rfl rfl ?_
        refine v_icmp_ne (a := z) (b := u) (tgt := 27) G dX8_isUnder_22 (by decide) (by omega) (fun c_6 => ?_) (fun c_6 => ?_)
        · skip
          refine v_getA G q_0 dX8_isUnder_27 (fun t_7 hT_8 => ?_)
          refine v_iload_n (j := 1) (x := jI z) G dX8_isUnder_30 rfl rfl ?_
          refine v_tali (z := z) (v := abv z) G hT_8 (by omega) (abv_t (by omega)) dX8_isUnder_31 ?_
          refine v_istore_n (lv' := [(2, .int (jI (abv z))), (3, .int (jI (n : Int))), (0, .int (jI k)), (1, .int (jI u))]) G dX8_isUnder_32 rfl (by decide) rfl ?_
          refine v_iinc (k := 1) (z := (n : Int)) (z' := ((n + 1 : Nat) : Int)) (lv' := [(3, .int (jI ((n + 1 : Nat) : Int))), (2, .int (jI (abv z))), (0, .int (jI k)), (1, .int (jI u))]) G dX8_isUnder_33 rfl (by omega) (by decide) rfl ?_
          refine v_goto (tgt := 4) G dX8_isUnder_36 (by decide) ?_
          exact ih_2 (n + 1) (abv z) ⟨by omega, by have := abv_r z; omega, by rw [← I_1.2.2, show 6 - n = (6 - (n + 1)) + 1 by omega]; exact ⟨fun q => ⟨by omega, Or.inr q⟩, fun q => q.2.elim (fun q2 => absurd q2 (by omega)) id⟩⟩ (by omega)
        · skip
          have hyes : unN k u 6 := by rw [← hu, show 6 - n = (6 - (n + 1)) + 1 by omega]; exact ⟨by omega, Or.inl (by omega)⟩
          refine v_iconst G dX8_isUnder_25 ?_
          exact v_zret G () nb_1 (show jI 1 = jI (b2 (unN k u 6)) from congrArg jI (b2_t (P := unN k u 6) (by exact hyes)).symm) rfl dX8_isUnder_26

set_option maxHeartbeats 4000000 in
set_option maxRecDepth 100000 in
theorem c_X8_towards (f t s : Int) (hx : (0 ≤ f ∧ f ≤ 3) ∧ (0 ≤ t ∧ t ≤ 3) ∧ 0 ≤ s ∧ s ≤ 1000) : Ci l yX8_towards wsX8_towards { frames := 1, cells := 0, slots := 0, locals := 21 } D (jT cI cL cB cS) [.int (jI f), .int (jI t), .int (jI s)] [] (S := Unit) (fun _ => []) (fun r _ => r = jI (twC f t s)) := by
  refine Ci.mk (cc := cX8_towards) (maxL := 3) (rt := .int) (by decide) rfl (Nat.le_of_ble_eq_true rfl) rfl ?_
  intro p_ e_ s_ m_ b_ me_ c_ A_ G hnm
  have q_0 : Cond.methodLink RX8 323 Lib.Math.max.name ∈ wsX8_towards := List.mem_of_getElem? (i := 5) rfl
  have q_1 : Cond.static Lib.Math.max.name ∈ wsX8_towards := List.mem_of_getElem? (i := 6) rfl
  have q_2 : Cond.initialized "java/lang/Math" ∈ wsX8_towards := List.mem_of_getElem? (i := 3) rfl
  have q_3 : Cond.code Lib.Math.max.name Lib.Math.max.code 2 (some .int) ∈ wsX8_towards := List.mem_of_getElem? (i := 7) rfl
  have q_4 : Cond.methodLink RX8 312 Lib.Math.min.name ∈ wsX8_towards := List.mem_of_getElem? (i := 1) rfl
  have q_5 : Cond.static Lib.Math.min.name ∈ wsX8_towards := List.mem_of_getElem? (i := 2) rfl
  have q_6 : Cond.code Lib.Math.min.name Lib.Math.min.code 2 (some .int) ∈ wsX8_towards := List.mem_of_getElem? (i := 4) rfl
  refine v_iload_n (j := 0) (x := jI f) G dX8_towards_0 rfl rfl ?_
  refine v_iload_n (j := 1) (x := jI t) G dX8_towards_1 rfl rfl ?_
  refine v_icmp_ge (a := f) (b := t) (tgt := 15) G dX8_towards_2 (by decide) (by omega) (fun c_1 => ?_) (fun c_1 => ?_)
  · skip
    refine v_iload_n (j := 0) (x := jI f) G dX8_towards_15 rfl rfl ?_
    refine v_iload_n (j := 2) (x := jI s) G dX8_towards_16 rfl rfl ?_
    refine v_isub (z := f - s) G dX8_towards_17 rfl ?_
    refine v_iload_n (j := 1) (x := jI t) G dX8_towards_18 rfl rfl ?_
    refine v_mmax (z := jmax (f - s) t) G q_0 q_1 q_2 q_3 ⟨Nat.le_of_ble_eq_true rfl, Nat.le_of_ble_eq_true rfl, Nat.zero_le _, Nat.zero_le _⟩ (by omega) (jmax_z (f - s) t) dX8_towards_19 ?_
    exact v_iret G () (show jI (jmax (f - s) t) = jI (twC f t s) from congrArg jI (by unfold twC; first | rw [if_pos (by omega)] | rw [if_neg (by omega)])) rfl dX8_towards_22
  · skip
    refine v_iload_n (j := 0) (x := jI f) G dX8_towards_5 rfl rfl ?_
    refine v_iload_n (j := 2) (x := jI s) G dX8_towards_6 rfl rfl ?_
    refine v_iadd (z := f + s) G dX8_towards_7 rfl ?_
    refine v_iload_n (j := 1) (x := jI t) G dX8_towards_8 rfl rfl ?_
    refine v_mmin (z := jmin (f + s) t) G q_4 q_5 q_2 q_6 ⟨Nat.le_of_ble_eq_true rfl, Nat.le_of_ble_eq_true rfl, Nat.zero_le _, Nat.zero_le _⟩ (by omega) (jmin_z (f + s) t) dX8_towards_9 ?_
    refine v_goto (tgt := 22) G dX8_towards_12 (by decide) ?_
    exact v_iret G () (show jI (jmin (f + s) t) = jI (twC f t s) from congrArg jI (by unfold twC; first | rw [if_pos (by omega)] | rw [if_neg (by omega)])) rfl dX8_towards_22

set_option maxHeartbeats 4000000 in
set_option maxRecDepth 100000 in
theorem c_X7_hasBeing (z : Int) (hw : Wc x) (hr : (-2147483648 ≤ z ∧ z ≤ 2147483647)) : Ci l yX7_hasBeing wsX7_hasBeing { frames := 0, cells := 0, slots := 0, locals := 0 } D (jT cI cL cB cS) [.ref (b 0), .int (jI z)] (gW cI b x) (S := Unit) (fun _ => (gW cI b x)) (fun r _ => r = jI (b2 (0 ≤ z ∧ z < x.2.2.1))) := by
  refine Ci.mk (cc := cX7_hasBeing) (maxL := 2) (rt := .boolean) (by decide) rfl (Nat.le_of_ble_eq_true rfl) rfl ?_
  intro p_ e_ s_ m_ b_ me_ c_ A_ G hnm
  have hm := hw.many
  have k_X7 : ∀ w ∈ u_ws RX7 TX7 12, w ∈ wsX7_hasBeing := fun _ h => List.mem_cons_of_mem _ (List.mem_append_right _ h)
  have q_1 : Cond.fieldLink RX7 19 "SupperLight$World" "beings" "I" ∈ wsX7_hasBeing := List.mem_of_getElem? (i := 1) rfl
  refine v_iload_n (j := 1) (x := jI z) G dX7_hasBeing_0 rfl rfl ?_
  refine v_if_lt (a := z) (tgt := 16) G dX7_hasBeing_1 (by decide) (by omega) (fun c_1 => ?_) (fun c_1 => ?_)
  · skip
    refine v_iconst G dX7_hasBeing_16 ?_
    exact v_zret G () nb_0 (show jI 0 = jI (b2 (0 ≤ z ∧ z < x.2.2.1)) from congrArg jI (b2_f (P := 0 ≤ z ∧ z < x.2.2.1) (by omega)).symm) rfl dX7_hasBeing_17
  · skip
    refine v_iload_n (j := 1) (x := jI z) G dX7_hasBeing_4 rfl rfl ?_
    refine v_aload_n (j := 0) (x := b 0) G dX7_hasBeing_5 rfl rfl ?_
    refine v_get (q0 := 0) (k := 2) (v := .int (jI x.2.2.1)) G k_X7 rfl rfl (by decide) q_1 rfl rfl dX7_hasBeing_6 ?_
    refine v_icmp_ge (a := z) (b := x.2.2.1) (tgt := 16) G dX7_hasBeing_9 (by decide) (by omega) (fun c_2 => ?_) (fun c_2 => ?_)
    · skip
      refine v_iconst G dX7_hasBeing_16 ?_
      exact v_zret G () nb_0 (show jI 0 = jI (b2 (0 ≤ z ∧ z < x.2.2.1)) from congrArg jI (b2_f (P := 0 ≤ z ∧ z < x.2.2.1) (by omega)).symm) rfl dX7_hasBeing_17
    · skip
      refine v_iconst G dX7_hasBeing_12 ?_
      refine v_goto (tgt := 17) G dX7_hasBeing_13 (by decide) ?_
      exact v_zret G () nb_1 (show jI 1 = jI (b2 (0 ≤ z ∧ z < x.2.2.1)) from congrArg jI (b2_t (P := 0 ≤ z ∧ z < x.2.2.1) (by omega)).symm) rfl dX7_hasBeing_17

set_option maxHeartbeats 4000000 in
set_option maxRecDepth 100000 in
theorem c_X7_hasTask (z : Int) (hw : Wc x) (hr : (-2147483648 ≤ z ∧ z ≤ 2147483647)) : Ci l yX7_hasTask wsX7_hasTask { frames := 0, cells := 0, slots := 0, locals := 0 } D (jT cI cL cB cS) [.ref (b 0), .int (jI z)] (gW cI b x) (S := Unit) (fun _ => (gW cI b x)) (fun r _ => r = jI (b2 (0 ≤ z ∧ z < x.2.2.2.2.2.2.2.2.1))) := by
  refine Ci.mk (cc := cX7_hasTask) (maxL := 2) (rt := .boolean) (by decide) rfl (Nat.le_of_ble_eq_true rfl) rfl ?_
  intro p_ e_ s_ m_ b_ me_ c_ A_ G hnm
  have hm := hw.tasks
  have k_X7 : ∀ w ∈ u_ws RX7 TX7 12, w ∈ wsX7_hasTask := fun _ h => List.mem_cons_of_mem _ (List.mem_append_right _ h)
  have q_1 : Cond.fieldLink RX7 37 "SupperLight$World" "tasks" "I" ∈ wsX7_hasTask := List.mem_of_getElem? (i := 1) rfl
  refine v_iload_n (j := 1) (x := jI z) G dX7_hasTask_0 rfl rfl ?_
  refine v_if_lt (a := z) (tgt := 16) G dX7_hasTask_1 (by decide) (by omega) (fun c_1 => ?_) (fun c_1 => ?_)
  · skip
    refine v_iconst G dX7_hasTask_16 ?_
    exact v_zret G () nb_0 (show jI 0 = jI (b2 (0 ≤ z ∧ z < x.2.2.2.2.2.2.2.2.1)) from congrArg jI (b2_f (P := 0 ≤ z ∧ z < x.2.2.2.2.2.2.2.2.1) (by omega)).symm) rfl dX7_hasTask_17
  · skip
    refine v_iload_n (j := 1) (x := jI z) G dX7_hasTask_4 rfl rfl ?_
    refine v_aload_n (j := 0) (x := b 0) G dX7_hasTask_5 rfl rfl ?_
    refine v_get (q0 := 0) (k := 8) (v := .int (jI x.2.2.2.2.2.2.2.2.1)) G k_X7 rfl rfl (by decide) q_1 rfl rfl dX7_hasTask_6 ?_
    refine v_icmp_ge (a := z) (b := x.2.2.2.2.2.2.2.2.1) (tgt := 16) G dX7_hasTask_9 (by decide) (by omega) (fun c_2 => ?_) (fun c_2 => ?_)
    · skip
      refine v_iconst G dX7_hasTask_16 ?_
      exact v_zret G () nb_0 (show jI 0 = jI (b2 (0 ≤ z ∧ z < x.2.2.2.2.2.2.2.2.1)) from congrArg jI (b2_f (P := 0 ≤ z ∧ z < x.2.2.2.2.2.2.2.2.1) (by omega)).symm) rfl dX7_hasTask_17
    · skip
      refine v_iconst G dX7_hasTask_12 ?_
      refine v_goto (tgt := 17) G dX7_hasTask_13 (by decide) ?_
      exact v_zret G () nb_1 (show jI 1 = jI (b2 (0 ≤ z ∧ z < x.2.2.2.2.2.2.2.2.1)) from congrArg jI (b2_t (P := 0 ≤ z ∧ z < x.2.2.2.2.2.2.2.2.1) (by omega)).symm) rfl dX7_hasTask_17

set_option maxHeartbeats 4000000 in
set_option maxRecDepth 100000 in
theorem c_X7_addBeing (k p : Int) (hn : 0 ≤ x.2.2.1 ∧ x.2.2.1 < 10) : Ci l yX7_addBeing wsX7_addBeing { frames := 0, cells := 0, slots := 0, locals := 0 } D (jT cI cL cB cS) [.ref (b 0), .int (jI k), .int (jI p)] (gW cI b x) (S := Unit) (fun _ => (gW cI b (x.1, x.2.1, x.2.2.1 + 1, uI x.2.2.2.1 x.2.2.1 k, uI x.2.2.2.2.1 x.2.2.1 p, uI x.2.2.2.2.2.1 x.2.2.1 p, uI x.2.2.2.2.2.2.1 x.2.2.1 20, uI x.2.2.2.2.2.2.2.1 x.2.2.1 0, x.2.2.2.2.2.2.2.2.1, x.2.2.2.2.2.2.2.2.2.1, x.2.2.2.2.2.2.2.2.2.2.1, x.2.2.2.2.2.2.2.2.2.2.2))) (fun r _ => r = jI x.2.2.1) := by
  refine Ci.mk (cc := cX7_addBeing) (maxL := 3) (rt := .int) (by decide) rfl (Nat.le_of_ble_eq_true rfl) rfl ?_
  intro p_ e_ s_ m_ b_ me_ c_ A_ G hnm
  have k_X7 : ∀ w ∈ u_ws RX7 TX7 12, w ∈ wsX7_addBeing := fun _ h => List.mem_cons_of_mem _ (List.mem_append_right _ h)
  have q_1 : Cond.fieldLink RX7 19 "SupperLight$World" "beings" "I" ∈ wsX7_addBeing := List.mem_of_getElem? (i := 1) rfl
  have q_2 : Cond.fieldLink RX7 22 "SupperLight$World" "kinds" "[I" ∈ wsX7_addBeing := List.mem_of_getElem? (i := 2) rfl
  have q_3 : Cond.fieldLink RX7 25 "SupperLight$World" "ats" "[I" ∈ wsX7_addBeing := List.mem_of_getElem? (i := 3) rfl
  have q_4 : Cond.fieldLink RX7 28 "SupperLight$World" "goals" "[I" ∈ wsX7_addBeing := List.mem_of_getElem? (i := 4) rfl
  have q_5 : Cond.fieldLink RX7 31 "SupperLight$World" "meals" "[I" ∈ wsX7_addBeing := List.mem_of_getElem? (i := 5) rfl
  have q_6 : Cond.fieldLink RX7 34 "SupperLight$World" "fasts" "[I" ∈ wsX7_addBeing := List.mem_of_getElem? (i := 6) rfl
  refine v_aload_n (j := 0) (x := b 0) G dX7_addBeing_0 rfl rfl ?_
  refine v_get (q0 := 0) (k := 2) (v := .int (jI x.2.2.1)) G k_X7 rfl rfl (by decide) q_1 rfl rfl dX7_addBeing_1 ?_
  refine v_bipush G dX7_addBeing_4 (by decide) ?_
  refine v_icmp_lt (a := x.2.2.1) (b := 10) (tgt := 11) G dX7_addBeing_6 (by decide) (by omega) (fun c_1 => ?_) (fun c_1 => ?_)
  · skip
    refine v_aload_n (j := 0) (x := b 0) G dX7_addBeing_11 rfl rfl ?_
    refine v_get (q0 := 0) (k := 3) (v := .ref (b 2)) G k_X7 rfl rfl (by decide) q_2 rfl rfl dX7_addBeing_12 ?_
    refine v_aload_n (j := 0) (x := b 0) G dX7_addBeing_15 rfl rfl ?_
    refine v_get (q0 := 0) (k := 2) (v := .int (jI x.2.2.1)) G k_X7 rfl rfl (by decide) q_1 rfl rfl dX7_addBeing_16 ?_
    refine v_iload_n (j := 1) (x := jI k) G dX7_addBeing_19 rfl rfl ?_
    refine v_iast (q0 := 2) (t0 := 0) (g := x.2.2.2.1) (z := x.2.2.1) (x := k) (ws' := (gW cI b (x.1, x.2.1, x.2.2.1, uI x.2.2.2.1 x.2.2.1 k, x.2.2.2.2.1, x.2.2.2.2.2.1, x.2.2.2.2.2.2.1, x.2.2.2.2.2.2.2.1, x.2.2.2.2.2.2.2.2.1, x.2.2.2.2.2.2.2.2.2.1, x.2.2.2.2.2.2.2.2.2.2.1, x.2.2.2.2.2.2.2.2.2.2.2))) G rfl rfl (by omega) rfl dX7_addBeing_20 ?_
    refine v_aload_n (j := 0) (x := b 0) G dX7_addBeing_21 rfl rfl ?_
    refine v_get (q0 := 0) (k := 4) (v := .ref (b 3)) G k_X7 rfl rfl (by decide) q_3 rfl rfl dX7_addBeing_22 ?_
    refine v_aload_n (j := 0) (x := b 0) G dX7_addBeing_25 rfl rfl ?_
    refine v_get (q0 := 0) (k := 2) (v := .int (jI x.2.2.1)) G k_X7 rfl rfl (by decide) q_1 rfl rfl dX7_addBeing_26 ?_
    refine v_iload_n (j := 2) (x := jI p) G dX7_addBeing_29 rfl rfl ?_
    refine v_iast (q0 := 3) (t0 := 0) (g := x.2.2.2.2.1) (z := x.2.2.1) (x := p) (ws' := (gW cI b (x.1, x.2.1, x.2.2.1, uI x.2.2.2.1 x.2.2.1 k, uI x.2.2.2.2.1 x.2.2.1 p, x.2.2.2.2.2.1, x.2.2.2.2.2.2.1, x.2.2.2.2.2.2.2.1, x.2.2.2.2.2.2.2.2.1, x.2.2.2.2.2.2.2.2.2.1, x.2.2.2.2.2.2.2.2.2.2.1, x.2.2.2.2.2.2.2.2.2.2.2))) G rfl rfl (by omega) rfl dX7_addBeing_30 ?_
    refine v_aload_n (j := 0) (x := b 0) G dX7_addBeing_31 rfl rfl ?_
    refine v_get (q0 := 0) (k := 5) (v := .ref (b 4)) G k_X7 rfl rfl (by decide) q_4 rfl rfl dX7_addBeing_32 ?_
    refine v_aload_n (j := 0) (x := b 0) G dX7_addBeing_35 rfl rfl ?_
    refine v_get (q0 := 0) (k := 2) (v := .int (jI x.2.2.1)) G k_X7 rfl rfl (by decide) q_1 rfl rfl dX7_addBeing_36 ?_
    refine v_iload_n (j := 2) (x := jI p) G dX7_addBeing_39 rfl rfl ?_
    refine v_iast (q0 := 4) (t0 := 0) (g := x.2.2.2.2.2.1) (z := x.2.2.1) (x := p) (ws' := (gW cI b (x.1, x.2.1, x.2.2.1, uI x.2.2.2.1 x.2.2.1 k, uI x.2.2.2.2.1 x.2.2.1 p, uI x.2.2.2.2.2.1 x.2.2.1 p, x.2.2.2.2.2.2.1, x.2.2.2.2.2.2.2.1, x.2.2.2.2.2.2.2.2.1, x.2.2.2.2.2.2.2.2.2.1, x.2.2.2.2.2.2.2.2.2.2.1, x.2.2.2.2.2.2.2.2.2.2.2))) G rfl rfl (by omega) rfl dX7_addBeing_40 ?_
    refine v_aload_n (j := 0) (x := b 0) G dX7_addBeing_41 rfl rfl ?_
    refine v_get (q0 := 0) (k := 6) (v := .ref (b 5)) G k_X7 rfl rfl (by decide) q_5 rfl rfl dX7_addBeing_42 ?_
    refine v_aload_n (j := 0) (x := b 0) G dX7_addBeing_45 rfl rfl ?_
    refine v_get (q0 := 0) (k := 2) (v := .int (jI x.2.2.1)) G k_X7 rfl rfl (by decide) q_1 rfl rfl dX7_addBeing_46 ?_
    refine v_bipush G dX7_addBeing_49 (by decide) ?_
    refine v_iast (q0 := 5) (t0 := 0) (g := x.2.2.2.2.2.2.1) (z := x.2.2.1) (x := 20) (ws' := (gW cI b (x.1, x.2.1, x.2.2.1, uI x.2.2.2.1 x.2.2.1 k, uI x.2.2.2.2.1 x.2.2.1 p, uI x.2.2.2.2.2.1 x.2.2.1 p, uI x.2.2.2.2.2.2.1 x.2.2.1 20, x.2.2.2.2.2.2.2.1, x.2.2.2.2.2.2.2.2.1, x.2.2.2.2.2.2.2.2.2.1, x.2.2.2.2.2.2.2.2.2.2.1, x.2.2.2.2.2.2.2.2.2.2.2))) G rfl rfl (by omega) rfl dX7_addBeing_51 ?_
    refine v_aload_n (j := 0) (x := b 0) G dX7_addBeing_52 rfl rfl ?_
    refine v_get (q0 := 0) (k := 7) (v := .ref (b 6)) G k_X7 rfl rfl (by decide) q_6 rfl rfl dX7_addBeing_53 ?_
    refine v_aload_n (j := 0) (x := b 0) G dX7_addBeing_56 rfl rfl ?_
    refine v_get (q0 := 0) (k := 2) (v := .int (jI x.2.2.1)) G k_X7 rfl rfl (by decide) q_1 rfl rfl dX7_addBeing_57 ?_
    refine v_iconst G dX7_addBeing_60 ?_
    refine v_iast (q0 := 6) (t0 := 0) (g := x.2.2.2.2.2.2.2.1) (z := x.2.2.1) (x := 0) (ws' := (gW cI b (x.1, x.2.1, x.2.2.1, uI x.2.2.2.1 x.2.2.1 k, uI x.2.2.2.2.1 x.2.2.1 p, uI x.2.2.2.2.2.1 x.2.2.1 p, uI x.2.2.2.2.2.2.1 x.2.2.1 20, uI x.2.2.2.2.2.2.2.1 x.2.2.1 0, x.2.2.2.2.2.2.2.2.1, x.2.2.2.2.2.2.2.2.2.1, x.2.2.2.2.2.2.2.2.2.2.1, x.2.2.2.2.2.2.2.2.2.2.2))) G rfl rfl (by omega) rfl dX7_addBeing_61 ?_
    refine v_aload_n (j := 0) (x := b 0) G dX7_addBeing_62 rfl rfl ?_
    refine v_dup G dX7_addBeing_63 rfl ?_
    refine v_get (q0 := 0) (k := 2) (v := .int (jI x.2.2.1)) G k_X7 rfl rfl (by decide) q_1 rfl rfl dX7_addBeing_64 ?_
    refine v_iconst G dX7_addBeing_67 ?_
    refine v_iadd (z := x.2.2.1 + 1) G dX7_addBeing_68 rfl ?_
    refine v_put (q0 := 0) (k := 2) (ty := .int) (ws' := (gW cI b (x.1, x.2.1, x.2.2.1 + 1, uI x.2.2.2.1 x.2.2.1 k, uI x.2.2.2.2.1 x.2.2.1 p, uI x.2.2.2.2.2.1 x.2.2.1 p, uI x.2.2.2.2.2.2.1 x.2.2.1 20, uI x.2.2.2.2.2.2.2.1 x.2.2.1 0, x.2.2.2.2.2.2.2.2.1, x.2.2.2.2.2.2.2.2.2.1, x.2.2.2.2.2.2.2.2.2.2.1, x.2.2.2.2.2.2.2.2.2.2.2))) G k_X7 tyX7 tyX7_ok nmX7 rfl rfl (by decide) q_1 rfl rfl rfl rfl rfl (Nat.le_of_ble_eq_true rfl) rfl dX7_addBeing_69 ?_
    refine v_aload_n (j := 0) (x := b 0) G dX7_addBeing_72 rfl rfl ?_
    refine v_get (q0 := 0) (k := 2) (v := .int (jI (x.2.2.1 + 1))) G k_X7 rfl rfl (by decide) q_1 rfl rfl dX7_addBeing_73 ?_
    refine v_iconst G dX7_addBeing_76 ?_
    refine v_isub (z := (x.2.2.1 + 1) - 1) G dX7_addBeing_77 rfl ?_
    exact v_iret G () (show jI ((x.2.2.1 + 1) - 1) = jI x.2.2.1 from congrArg jI (by omega)) rfl dX7_addBeing_78
  · skip
    exfalso; omega

set_option maxHeartbeats 4000000 in
set_option maxRecDepth 100000 in
theorem c_X7_addTask (p h n : Int) (hn : 0 ≤ x.2.2.2.2.2.2.2.2.1 ∧ x.2.2.2.2.2.2.2.2.1 < 8) : Ci l yX7_addTask wsX7_addTask { frames := 0, cells := 0, slots := 0, locals := 0 } D (jT cI cL cB cS) [.ref (b 0), .int (jI p), .int (jI h), .int (jI n)] (gW cI b x) (S := Unit) (fun _ => (gW cI b (x.1, x.2.1, x.2.2.1, x.2.2.2.1, x.2.2.2.2.1, x.2.2.2.2.2.1, x.2.2.2.2.2.2.1, x.2.2.2.2.2.2.2.1, x.2.2.2.2.2.2.2.2.1 + 1, uI x.2.2.2.2.2.2.2.2.2.1 x.2.2.2.2.2.2.2.2.1 p, uI x.2.2.2.2.2.2.2.2.2.2.1 x.2.2.2.2.2.2.2.2.1 h, uI x.2.2.2.2.2.2.2.2.2.2.2 x.2.2.2.2.2.2.2.2.1 n))) (fun r _ => r = jI x.2.2.2.2.2.2.2.2.1) := by
  refine Ci.mk (cc := cX7_addTask) (maxL := 4) (rt := .int) (by decide) rfl (Nat.le_of_ble_eq_true rfl) rfl ?_
  intro p_ e_ s_ m_ b_ me_ c_ A_ G hnm
  have k_X7 : ∀ w ∈ u_ws RX7 TX7 12, w ∈ wsX7_addTask := fun _ h => List.mem_cons_of_mem _ (List.mem_append_right _ h)
  have q_1 : Cond.fieldLink RX7 37 "SupperLight$World" "tasks" "I" ∈ wsX7_addTask := List.mem_of_getElem? (i := 1) rfl
  have q_2 : Cond.fieldLink RX7 40 "SupperLight$World" "taskPlaces" "[I" ∈ wsX7_addTask := List.mem_of_getElem? (i := 2) rfl
  have q_3 : Cond.fieldLink RX7 43 "SupperLight$World" "taskHours" "[I" ∈ wsX7_addTask := List.mem_of_getElem? (i := 3) rfl
  have q_4 : Cond.fieldLink RX7 46 "SupperLight$World" "taskNeeds" "[I" ∈ wsX7_addTask := List.mem_of_getElem? (i := 4) rfl
  refine v_aload_n (j := 0) (x := b 0) G dX7_addTask_0 rfl rfl ?_
  refine v_get (q0 := 0) (k := 8) (v := .int (jI x.2.2.2.2.2.2.2.2.1)) G k_X7 rfl rfl (by decide) q_1 rfl rfl dX7_addTask_1 ?_
  refine v_bipush G dX7_addTask_4 (by decide) ?_
  refine v_icmp_lt (a := x.2.2.2.2.2.2.2.2.1) (b := 8) (tgt := 11) G dX7_addTask_6 (by decide) (by omega) (fun c_1 => ?_) (fun c_1 => ?_)
  · skip
    refine v_aload_n (j := 0) (x := b 0) G dX7_addTask_11 rfl rfl ?_
    refine v_get (q0 := 0) (k := 9) (v := .ref (b 7)) G k_X7 rfl rfl (by decide) q_2 rfl rfl dX7_addTask_12 ?_
    refine v_aload_n (j := 0) (x := b 0) G dX7_addTask_15 rfl rfl ?_
    refine v_get (q0 := 0) (k := 8) (v := .int (jI x.2.2.2.2.2.2.2.2.1)) G k_X7 rfl rfl (by decide) q_1 rfl rfl dX7_addTask_16 ?_
    refine v_iload_n (j := 1) (x := jI p) G dX7_addTask_19 rfl rfl ?_
    refine v_iast (q0 := 7) (t0 := 0) (g := x.2.2.2.2.2.2.2.2.2.1) (z := x.2.2.2.2.2.2.2.2.1) (x := p) (ws' := (gW cI b (x.1, x.2.1, x.2.2.1, x.2.2.2.1, x.2.2.2.2.1, x.2.2.2.2.2.1, x.2.2.2.2.2.2.1, x.2.2.2.2.2.2.2.1, x.2.2.2.2.2.2.2.2.1, uI x.2.2.2.2.2.2.2.2.2.1 x.2.2.2.2.2.2.2.2.1 p, x.2.2.2.2.2.2.2.2.2.2.1, x.2.2.2.2.2.2.2.2.2.2.2))) G rfl rfl (by omega) rfl dX7_addTask_20 ?_
    refine v_aload_n (j := 0) (x := b 0) G dX7_addTask_21 rfl rfl ?_
    refine v_get (q0 := 0) (k := 10) (v := .ref (b 8)) G k_X7 rfl rfl (by decide) q_3 rfl rfl dX7_addTask_22 ?_
    refine v_aload_n (j := 0) (x := b 0) G dX7_addTask_25 rfl rfl ?_
    refine v_get (q0 := 0) (k := 8) (v := .int (jI x.2.2.2.2.2.2.2.2.1)) G k_X7 rfl rfl (by decide) q_1 rfl rfl dX7_addTask_26 ?_
    refine v_iload_n (j := 2) (x := jI h) G dX7_addTask_29 rfl rfl ?_
    refine v_iast (q0 := 8) (t0 := 0) (g := x.2.2.2.2.2.2.2.2.2.2.1) (z := x.2.2.2.2.2.2.2.2.1) (x := h) (ws' := (gW cI b (x.1, x.2.1, x.2.2.1, x.2.2.2.1, x.2.2.2.2.1, x.2.2.2.2.2.1, x.2.2.2.2.2.2.1, x.2.2.2.2.2.2.2.1, x.2.2.2.2.2.2.2.2.1, uI x.2.2.2.2.2.2.2.2.2.1 x.2.2.2.2.2.2.2.2.1 p, uI x.2.2.2.2.2.2.2.2.2.2.1 x.2.2.2.2.2.2.2.2.1 h, x.2.2.2.2.2.2.2.2.2.2.2))) G rfl rfl (by omega) rfl dX7_addTask_30 ?_
    refine v_aload_n (j := 0) (x := b 0) G dX7_addTask_31 rfl rfl ?_
    refine v_get (q0 := 0) (k := 11) (v := .ref (b 9)) G k_X7 rfl rfl (by decide) q_4 rfl rfl dX7_addTask_32 ?_
    refine v_aload_n (j := 0) (x := b 0) G dX7_addTask_35 rfl rfl ?_
    refine v_get (q0 := 0) (k := 8) (v := .int (jI x.2.2.2.2.2.2.2.2.1)) G k_X7 rfl rfl (by decide) q_1 rfl rfl dX7_addTask_36 ?_
    refine v_iload_n (j := 3) (x := jI n) G dX7_addTask_39 rfl rfl ?_
    refine v_iast (q0 := 9) (t0 := 0) (g := x.2.2.2.2.2.2.2.2.2.2.2) (z := x.2.2.2.2.2.2.2.2.1) (x := n) (ws' := (gW cI b (x.1, x.2.1, x.2.2.1, x.2.2.2.1, x.2.2.2.2.1, x.2.2.2.2.2.1, x.2.2.2.2.2.2.1, x.2.2.2.2.2.2.2.1, x.2.2.2.2.2.2.2.2.1, uI x.2.2.2.2.2.2.2.2.2.1 x.2.2.2.2.2.2.2.2.1 p, uI x.2.2.2.2.2.2.2.2.2.2.1 x.2.2.2.2.2.2.2.2.1 h, uI x.2.2.2.2.2.2.2.2.2.2.2 x.2.2.2.2.2.2.2.2.1 n))) G rfl rfl (by omega) rfl dX7_addTask_40 ?_
    refine v_aload_n (j := 0) (x := b 0) G dX7_addTask_41 rfl rfl ?_
    refine v_dup G dX7_addTask_42 rfl ?_
    refine v_get (q0 := 0) (k := 8) (v := .int (jI x.2.2.2.2.2.2.2.2.1)) G k_X7 rfl rfl (by decide) q_1 rfl rfl dX7_addTask_43 ?_
    refine v_iconst G dX7_addTask_46 ?_
    refine v_iadd (z := x.2.2.2.2.2.2.2.2.1 + 1) G dX7_addTask_47 rfl ?_
    refine v_put (q0 := 0) (k := 8) (ty := .int) (ws' := (gW cI b (x.1, x.2.1, x.2.2.1, x.2.2.2.1, x.2.2.2.2.1, x.2.2.2.2.2.1, x.2.2.2.2.2.2.1, x.2.2.2.2.2.2.2.1, x.2.2.2.2.2.2.2.2.1 + 1, uI x.2.2.2.2.2.2.2.2.2.1 x.2.2.2.2.2.2.2.2.1 p, uI x.2.2.2.2.2.2.2.2.2.2.1 x.2.2.2.2.2.2.2.2.1 h, uI x.2.2.2.2.2.2.2.2.2.2.2 x.2.2.2.2.2.2.2.2.1 n))) G k_X7 tyX7 tyX7_ok nmX7 rfl rfl (by decide) q_1 rfl rfl rfl rfl rfl (Nat.le_of_ble_eq_true rfl) rfl dX7_addTask_48 ?_
    refine v_aload_n (j := 0) (x := b 0) G dX7_addTask_51 rfl rfl ?_
    refine v_get (q0 := 0) (k := 8) (v := .int (jI (x.2.2.2.2.2.2.2.2.1 + 1))) G k_X7 rfl rfl (by decide) q_1 rfl rfl dX7_addTask_52 ?_
    refine v_iconst G dX7_addTask_55 ?_
    refine v_isub (z := (x.2.2.2.2.2.2.2.2.1 + 1) - 1) G dX7_addTask_56 rfl ?_
    exact v_iret G () (show jI ((x.2.2.2.2.2.2.2.2.1 + 1) - 1) = jI x.2.2.2.2.2.2.2.2.1 from congrArg jI (by omega)) rfl dX7_addTask_57
  · skip
    exfalso; omega

set_option maxHeartbeats 4000000 in
set_option maxRecDepth 100000 in
theorem c_X7_feedBeing (z v : Int) (hz : 0 ≤ z ∧ z < 10) : Cv l yX7_feedBeing wsX7_feedBeing { frames := 0, cells := 0, slots := 0, locals := 0 } D (jT cI cL cB cS) [.ref (b 0), .int (jI z), .int (jI v)] (gW cI b x) (S := Unit) (fun _ => (gW cI b (x.1, x.2.1, x.2.2.1, x.2.2.2.1, x.2.2.2.2.1, x.2.2.2.2.2.1, uI x.2.2.2.2.2.2.1 z v, uI x.2.2.2.2.2.2.2.1 z 0, x.2.2.2.2.2.2.2.2.1, x.2.2.2.2.2.2.2.2.2.1, x.2.2.2.2.2.2.2.2.2.2.1, x.2.2.2.2.2.2.2.2.2.2.2))) (fun _ => True) := by
  refine Cv.mk (cc := cX7_feedBeing) (maxL := 3) (by decide) rfl (Nat.le_of_ble_eq_true rfl) rfl ?_
  intro p_ e_ s_ m_ b_ me_ c_ A_ G hnm
  have k_X7 : ∀ w ∈ u_ws RX7 TX7 12, w ∈ wsX7_feedBeing := fun _ h => List.mem_cons_of_mem _ (List.mem_append_right _ h)
  have q_1 : Cond.fieldLink RX7 31 "SupperLight$World" "meals" "[I" ∈ wsX7_feedBeing := List.mem_of_getElem? (i := 1) rfl
  have q_2 : Cond.fieldLink RX7 34 "SupperLight$World" "fasts" "[I" ∈ wsX7_feedBeing := List.mem_of_getElem? (i := 2) rfl
  refine v_aload_n (j := 0) (x := b 0) G dX7_feedBeing_0 rfl rfl ?_
  refine v_get (q0 := 0) (k := 6) (v := .ref (b 5)) G k_X7 rfl rfl (by decide) q_1 rfl rfl dX7_feedBeing_1 ?_
  refine v_iload_n (j := 1) (x := jI z) G dX7_feedBeing_4 rfl rfl ?_
  refine v_iload_n (j := 2) (x := jI v) G dX7_feedBeing_5 rfl rfl ?_
  refine v_iast (q0 := 5) (t0 := 0) (g := x.2.2.2.2.2.2.1) (z := z) (x := v) (ws' := (gW cI b (x.1, x.2.1, x.2.2.1, x.2.2.2.1, x.2.2.2.2.1, x.2.2.2.2.2.1, uI x.2.2.2.2.2.2.1 z v, x.2.2.2.2.2.2.2.1, x.2.2.2.2.2.2.2.2.1, x.2.2.2.2.2.2.2.2.2.1, x.2.2.2.2.2.2.2.2.2.2.1, x.2.2.2.2.2.2.2.2.2.2.2))) G rfl rfl (by omega) rfl dX7_feedBeing_6 ?_
  refine v_aload_n (j := 0) (x := b 0) G dX7_feedBeing_7 rfl rfl ?_
  refine v_get (q0 := 0) (k := 7) (v := .ref (b 6)) G k_X7 rfl rfl (by decide) q_2 rfl rfl dX7_feedBeing_8 ?_
  refine v_iload_n (j := 1) (x := jI z) G dX7_feedBeing_11 rfl rfl ?_
  refine v_iconst G dX7_feedBeing_12 ?_
  refine v_iast (q0 := 6) (t0 := 0) (g := x.2.2.2.2.2.2.2.1) (z := z) (x := 0) (ws' := (gW cI b (x.1, x.2.1, x.2.2.1, x.2.2.2.1, x.2.2.2.2.1, x.2.2.2.2.2.1, uI x.2.2.2.2.2.2.1 z v, uI x.2.2.2.2.2.2.2.1 z 0, x.2.2.2.2.2.2.2.2.1, x.2.2.2.2.2.2.2.2.2.1, x.2.2.2.2.2.2.2.2.2.2.1, x.2.2.2.2.2.2.2.2.2.2.2))) G rfl rfl (by omega) rfl dX7_feedBeing_13 ?_
  exact v_vret G () trivial rfl dX7_feedBeing_14

set_option maxHeartbeats 4000000 in
set_option maxRecDepth 100000 in
theorem c_X7_bowlOn (p n : Int) (hw : Wc x) (hp : (0 ≤ p ∧ p < 16) ∧ 0 ≤ n ∧ n ≤ 200) : Ci l yX7_bowlOn wsX7_bowlOn { frames := 1, cells := 0, slots := 0, locals := 21 } D (jT cI cL cB cS) [.ref (b 0), .int (jI p), .int (jI n)] (gW cI b x) (S := Unit) (fun _ => (gW cI b x)) (fun r _ => r = jI (boF x n p)) := by
  refine Ci.mk (cc := cX7_bowlOn) (maxL := 3) (rt := .int) (by decide) rfl (Nat.le_of_ble_eq_true rfl) rfl ?_
  intro p_ e_ s_ m_ b_ me_ c_ A_ G hnm
  have hb := hw.bowl (p := p) (by omega) (by omega)
  have k_X7 : ∀ w ∈ u_ws RX7 TX7 12, w ∈ wsX7_bowlOn := fun _ h => List.mem_cons_of_mem _ (List.mem_append_right _ h)
  have q_1 : Cond.fieldLink RX7 15 "SupperLight$World" "bowls" "[I" ∈ wsX7_bowlOn := List.mem_of_getElem? (i := 1) rfl
  have q_2 : Cond.methodLink RX7 65 Lib.Math.max.name ∈ wsX7_bowlOn := List.mem_of_getElem? (i := 2) rfl
  have q_3 : Cond.static Lib.Math.max.name ∈ wsX7_bowlOn := List.mem_of_getElem? (i := 3) rfl
  have q_4 : Cond.initialized "java/lang/Math" ∈ wsX7_bowlOn := List.mem_of_getElem? (i := 4) rfl
  have q_5 : Cond.code Lib.Math.max.name Lib.Math.max.code 2 (some .int) ∈ wsX7_bowlOn := List.mem_of_getElem? (i := 5) rfl
  refine v_iconst G dX7_bowlOn_0 ?_
  refine v_aload_n (j := 0) (x := b 0) G dX7_bowlOn_1 rfl rfl ?_
  refine v_get (q0 := 0) (k := 1) (v := .ref (b 1)) G k_X7 rfl rfl (by decide) q_1 rfl rfl dX7_bowlOn_2 ?_
  refine v_iload_n (j := 1) (x := jI p) G dX7_bowlOn_5 rfl rfl ?_
  refine v_iald (q0 := 1) (t0 := 0) (g := x.2.1) (z := p) G rfl rfl (by omega) dX7_bowlOn_6 ?_
  refine v_iload_n (j := 2) (x := jI n) G dX7_bowlOn_7 rfl rfl ?_
  refine v_isub (z := (x.2.1 p) - n) G dX7_bowlOn_8 rfl ?_
  refine v_mmax (z := jmax 0 ((x.2.1 p) - n)) G q_2 q_3 q_4 q_5 ⟨Nat.le_of_ble_eq_true rfl, Nat.le_of_ble_eq_true rfl, Nat.zero_le _, Nat.zero_le _⟩ (by omega) (jmax_z 0 ((x.2.1 p) - n)) dX7_bowlOn_9 ?_
  exact v_iret G () (show jI (jmax 0 ((x.2.1 p) - n)) = jI (boF x n p) from rfl) rfl dX7_bowlOn_12

set_option maxHeartbeats 4000000 in
set_option maxRecDepth 100000 in
theorem c_X7_fastsOn (z n : Int) (hw : Wc x) (hz : (0 ≤ z ∧ z < 10) ∧ 0 ≤ n ∧ n ≤ 200) : Ci l yX7_fastsOn wsX7_fastsOn { frames := 1, cells := 0, slots := 0, locals := 21 } D (jT cI cL cB cS) [.ref (b 0), .int (jI z), .int (jI n)] (gW cI b x) (S := Unit) (fun _ => (gW cI b x)) (fun r _ => r = jI (faF x n z)) := by
  refine Ci.mk (cc := cX7_fastsOn) (maxL := 3) (rt := .int) (by decide) rfl (Nat.le_of_ble_eq_true rfl) rfl ?_
  intro p_ e_ s_ m_ b_ me_ c_ A_ G hnm
  have hb := hw.being (b := z) (by omega) (by omega)
  have k_X7 : ∀ w ∈ u_ws RX7 TX7 12, w ∈ wsX7_fastsOn := fun _ h => List.mem_cons_of_mem _ (List.mem_append_right _ h)
  have q_1 : Cond.fieldLink RX7 34 "SupperLight$World" "fasts" "[I" ∈ wsX7_fastsOn := List.mem_of_getElem? (i := 1) rfl
  have q_2 : Cond.methodLink RX7 70 Lib.Math.min.name ∈ wsX7_fastsOn := List.mem_of_getElem? (i := 2) rfl
  have q_3 : Cond.static Lib.Math.min.name ∈ wsX7_fastsOn := List.mem_of_getElem? (i := 3) rfl
  have q_4 : Cond.initialized "java/lang/Math" ∈ wsX7_fastsOn := List.mem_of_getElem? (i := 4) rfl
  have q_5 : Cond.code Lib.Math.min.name Lib.Math.min.code 2 (some .int) ∈ wsX7_fastsOn := List.mem_of_getElem? (i := 5) rfl
  refine v_sipush G dX7_fastsOn_0 (by decide) ?_
  refine v_aload_n (j := 0) (x := b 0) G dX7_fastsOn_3 rfl rfl ?_
  refine v_get (q0 := 0) (k := 7) (v := .ref (b 6)) G k_X7 rfl rfl (by decide) q_1 rfl rfl dX7_fastsOn_4 ?_
  refine v_iload_n (j := 1) (x := jI z) G dX7_fastsOn_7 rfl rfl ?_
  refine v_iald (q0 := 6) (t0 := 0) (g := x.2.2.2.2.2.2.2.1) (z := z) G rfl rfl (by omega) dX7_fastsOn_8 ?_
  refine v_iload_n (j := 2) (x := jI n) G dX7_fastsOn_9 rfl rfl ?_
  refine v_iadd (z := (x.2.2.2.2.2.2.2.1 z) + n) G dX7_fastsOn_10 rfl ?_
  refine v_mmin (z := jmin 999 ((x.2.2.2.2.2.2.2.1 z) + n)) G q_2 q_3 q_4 q_5 ⟨Nat.le_of_ble_eq_true rfl, Nat.le_of_ble_eq_true rfl, Nat.zero_le _, Nat.zero_le _⟩ (by omega) (jmin_z 999 ((x.2.2.2.2.2.2.2.1 z) + n)) dX7_fastsOn_11 ?_
  exact v_iret G () (show jI (jmin 999 ((x.2.2.2.2.2.2.2.1 z) + n)) = jI (faF x n z) from rfl) rfl dX7_fastsOn_14

set_option maxHeartbeats 4000000 in
set_option maxRecDepth 100000 in
theorem c_X7_standsOn (z n : Int) (hw : Wc x) (hz : (0 ≤ z ∧ z < 10) ∧ 0 ≤ n ∧ n ≤ 200) : Ci l yX7_standsOn wsX7_standsOn { frames := 2, cells := 0, slots := 0, locals := 43 } D (jT cI cL cB cS) [.ref (b 0), .int (jI z), .int (jI n)] (gW cI b x) (S := Unit) (fun _ => (gW cI b x)) (fun r _ => r = jI (stF x n z)) := by
  refine Ci.mk (cc := cX7_standsOn) (maxL := 7) (rt := .int) (by decide) rfl (Nat.le_of_ble_eq_true rfl) rfl ?_
  intro p_ e_ s_ m_ b_ me_ c_ A_ G hnm
  have hb := hw.being (b := z) (by omega) (by omega)
  have k_X7 : ∀ w ∈ u_ws RX7 TX7 12, w ∈ wsX7_standsOn := fun _ h => List.mem_cons_of_mem _ (List.mem_append_right _ h)
  have q_1 : Cond.fieldLink RX7 25 "SupperLight$World" "ats" "[I" ∈ wsX7_standsOn := List.mem_of_getElem? (i := 1) rfl
  have q_2 : Cond.fieldLink RX7 28 "SupperLight$World" "goals" "[I" ∈ wsX7_standsOn := List.mem_of_getElem? (i := 2) rfl
  have q_3 : Cond.initialized RX8 ∈ wsX7_standsOn := List.mem_of_getElem? (i := 8) rfl
  have q_4 : Cond.static yX8_towards ∈ wsX7_standsOn := List.mem_of_getElem? (i := 7) rfl
  have q_5 : Cond.methodLink RX7 77 Lib.Math.abs.name ∈ wsX7_standsOn := List.mem_of_getElem? (i := 3) rfl
  have q_6 : Cond.static Lib.Math.abs.name ∈ wsX7_standsOn := List.mem_of_getElem? (i := 4) rfl
  have q_7 : Cond.initialized "java/lang/Math" ∈ wsX7_standsOn := List.mem_of_getElem? (i := 5) rfl
  have q_8 : Cond.code Lib.Math.abs.name Lib.Math.abs.code 1 (some .int) ∈ wsX7_standsOn := List.mem_of_getElem? (i := 6) rfl
  refine v_aload_n (j := 0) (x := b 0) G dX7_standsOn_0 rfl rfl ?_
  refine v_get (q0 := 0) (k := 4) (v := .ref (b 3)) G k_X7 rfl rfl (by decide) q_1 rfl rfl dX7_standsOn_1 ?_
  refine v_iload_n (j := 1) (x := jI z) G dX7_standsOn_4 rfl rfl ?_
  refine v_iald (q0 := 3) (t0 := 0) (g := x.2.2.2.2.1) (z := z) G rfl rfl (by omega) dX7_standsOn_5 ?_
  refine v_iconst G dX7_standsOn_6 ?_
  refine v_idiv (z := (x.2.2.2.2.1 z) / 4) G dX7_standsOn_7 (by omega) rfl ?_
  refine v_istore_n (lv' := [(3, .int (jI ((x.2.2.2.2.1 z) / 4))), (0, .ref (b 0)), (1, .int (jI z)), (2, .int (jI n))]) G dX7_standsOn_8 rfl (by decide) rfl ?_
  refine v_iload_n (j := 0) (x := jI ((x.2.2.2.2.1 z) / 4)) G dX7_standsOn_9 rfl rfl ?_
  refine v_aload_n (j := 1) (x := b 0) G dX7_standsOn_10 rfl rfl ?_
  refine v_get (q0 := 0) (k := 5) (v := .ref (b 4)) G k_X7 rfl rfl (by decide) q_2 rfl rfl dX7_standsOn_11 ?_
  refine v_iload_n (j := 2) (x := jI z) G dX7_standsOn_14 rfl rfl ?_
  refine v_iald (q0 := 4) (t0 := 0) (g := x.2.2.2.2.2.1) (z := z) G rfl rfl (by omega) dX7_standsOn_15 ?_
  refine v_iconst G dX7_standsOn_16 ?_
  refine v_idiv (z := (x.2.2.2.2.2.1 z) / 4) G dX7_standsOn_17 (by omega) rfl ?_
  refine v_iload_n (j := 3) (x := jI n) G dX7_standsOn_18 rfl rfl ?_
  refine v_ciN G (rn_N (As := [.int (jI ((x.2.2.2.2.1 z) / 4)), .int (jI ((x.2.2.2.2.2.1 z) / 4)), .int (jI n)]) (rest := []) G (c_X8_towards (f := (x.2.2.2.2.1 z) / 4) (t := (x.2.2.2.2.2.1 z) / 4) (s := n) (hx := (by omega))) gX7_standsOn_X8_towards_n73 rfl (List.mem_of_getElem? (i := 8) rfl) q_3 q_4 hdX8_towards ⟨rfl, rfl, Nat.le_of_ble_eq_true rfl, Nat.le_of_ble_eq_true rfl⟩ rfl rfl (Nat.le_of_ble_eq_true rfl) ⟨Nat.zero_le _, Nat.zero_le _⟩ dX7_standsOn_19) (fun r_1 u_3 e_2 => ?_)
  have e_2 : r_1 = jI (twC ((x.2.2.2.2.1 z) / 4) ((x.2.2.2.2.2.1 z) / 4) n) := e_2
  subst e_2
  have ht1 := twC_r (f := x.2.2.2.2.1 z / 4) (t := x.2.2.2.2.2.1 z / 4) (s := n) (by omega) (by omega) (by omega)
  refine v_istore (lv' := [(4, .int (jI (twC ((x.2.2.2.2.1 z) / 4) ((x.2.2.2.2.2.1 z) / 4) n))), (3, .int (jI ((x.2.2.2.2.1 z) / 4))), (0, .ref (b 0)), (1, .int (jI z)), (2, .int (jI n))]) G dX7_standsOn_22 (by decide) rfl ?_
  refine v_iload_n (j := 4) (x := jI n) G dX7_standsOn_24 rfl rfl ?_
  refine v_iload (j := 0) (x := jI (twC ((x.2.2.2.2.1 z) / 4) ((x.2.2.2.2.2.1 z) / 4) n)) G dX7_standsOn_25 rfl ?_
  refine v_iload_n (j := 1) (x := jI ((x.2.2.2.2.1 z) / 4)) G dX7_standsOn_27 rfl rfl ?_
  refine v_isub (z := (twC ((x.2.2.2.2.1 z) / 4) ((x.2.2.2.2.2.1 z) / 4) n) - ((x.2.2.2.2.1 z) / 4)) G dX7_standsOn_28 rfl ?_
  refine v_mabs (z := jabs ((twC ((x.2.2.2.2.1 z) / 4) ((x.2.2.2.2.2.1 z) / 4) n) - ((x.2.2.2.2.1 z) / 4))) G q_5 q_6 q_7 q_8 ⟨Nat.le_of_ble_eq_true rfl, Nat.le_of_ble_eq_true rfl, Nat.zero_le _, Nat.zero_le _⟩ (by omega) (jabs_z ((twC ((x.2.2.2.2.1 z) / 4) ((x.2.2.2.2.2.1 z) / 4) n) - ((x.2.2.2.2.1 z) / 4))) dX7_standsOn_29 ?_
  refine v_isub (z := n - (jabs ((twC ((x.2.2.2.2.1 z) / 4) ((x.2.2.2.2.2.1 z) / 4) n) - ((x.2.2.2.2.1 z) / 4)))) G dX7_standsOn_32 rfl ?_
  have hja := jabs_z (twC (x.2.2.2.2.1 z / 4) (x.2.2.2.2.2.1 z / 4) n - x.2.2.2.2.1 z / 4)
  refine v_istore (lv' := [(5, .int (jI (n - (jabs ((twC ((x.2.2.2.2.1 z) / 4) ((x.2.2.2.2.2.1 z) / 4) n) - ((x.2.2.2.2.1 z) / 4)))))), (4, .int (jI (twC ((x.2.2.2.2.1 z) / 4) ((x.2.2.2.2.2.1 z) / 4) n))), (3, .int (jI ((x.2.2.2.2.1 z) / 4))), (0, .ref (b 0)), (1, .int (jI z)), (2, .int (jI n))]) G dX7_standsOn_33 (by decide) rfl ?_
  refine v_aload_n (j := 3) (x := b 0) G dX7_standsOn_35 rfl rfl ?_
  refine v_get (q0 := 0) (k := 4) (v := .ref (b 3)) G k_X7 rfl rfl (by decide) q_1 rfl rfl dX7_standsOn_36 ?_
  refine v_iload_n (j := 4) (x := jI z) G dX7_standsOn_39 rfl rfl ?_
  refine v_iald (q0 := 3) (t0 := 0) (g := x.2.2.2.2.1) (z := z) G rfl rfl (by omega) dX7_standsOn_40 ?_
  refine v_iconst G dX7_standsOn_41 ?_
  refine v_irem (z := (x.2.2.2.2.1 z) % 4) G dX7_standsOn_42 (by omega) rfl ?_
  refine v_aload_n (j := 3) (x := b 0) G dX7_standsOn_43 rfl rfl ?_
  refine v_get (q0 := 0) (k := 5) (v := .ref (b 4)) G k_X7 rfl rfl (by decide) q_2 rfl rfl dX7_standsOn_44 ?_
  refine v_iload_n (j := 4) (x := jI z) G dX7_standsOn_47 rfl rfl ?_
  refine v_iald (q0 := 4) (t0 := 0) (g := x.2.2.2.2.2.1) (z := z) G rfl rfl (by omega) dX7_standsOn_48 ?_
  refine v_iconst G dX7_standsOn_49 ?_
  refine v_irem (z := (x.2.2.2.2.2.1 z) % 4) G dX7_standsOn_50 (by omega) rfl ?_
  refine v_iload (j := 0) (x := jI (n - (jabs ((twC ((x.2.2.2.2.1 z) / 4) ((x.2.2.2.2.2.1 z) / 4) n) - ((x.2.2.2.2.1 z) / 4))))) G dX7_standsOn_51 rfl ?_
  refine v_ciN G (rn_N (As := [.int (jI ((x.2.2.2.2.1 z) % 4)), .int (jI ((x.2.2.2.2.2.1 z) % 4)), .int (jI (n - (jabs ((twC ((x.2.2.2.2.1 z) / 4) ((x.2.2.2.2.2.1 z) / 4) n) - ((x.2.2.2.2.1 z) / 4)))))]) (rest := []) G (c_X8_towards (f := (x.2.2.2.2.1 z) % 4) (t := (x.2.2.2.2.2.1 z) % 4) (s := n - (jabs ((twC ((x.2.2.2.2.1 z) / 4) ((x.2.2.2.2.2.1 z) / 4) n) - ((x.2.2.2.2.1 z) / 4)))) (hx := (by omega))) gX7_standsOn_X8_towards_n73 rfl (List.mem_of_getElem? (i := 8) rfl) q_3 q_4 hdX8_towards ⟨rfl, rfl, Nat.le_of_ble_eq_true rfl, Nat.le_of_ble_eq_true rfl⟩ rfl rfl (Nat.le_of_ble_eq_true rfl) ⟨Nat.zero_le _, Nat.zero_le _⟩ dX7_standsOn_53) (fun r_4 u_6 e_5 => ?_)
  have e_5 : r_4 = jI (twC ((x.2.2.2.2.1 z) % 4) ((x.2.2.2.2.2.1 z) % 4) (n - (jabs ((twC ((x.2.2.2.2.1 z) / 4) ((x.2.2.2.2.2.1 z) / 4) n) - ((x.2.2.2.2.1 z) / 4))))) := e_5
  subst e_5
  refine v_istore (lv' := [(6, .int (jI (twC ((x.2.2.2.2.1 z) % 4) ((x.2.2.2.2.2.1 z) % 4) (n - (jabs ((twC ((x.2.2.2.2.1 z) / 4) ((x.2.2.2.2.2.1 z) / 4) n) - ((x.2.2.2.2.1 z) / 4))))))), (5, .int (jI (n - (jabs ((twC ((x.2.2.2.2.1 z) / 4) ((x.2.2.2.2.2.1 z) / 4) n) - ((x.2.2.2.2.1 z) / 4)))))), (4, .int (jI (twC ((x.2.2.2.2.1 z) / 4) ((x.2.2.2.2.2.1 z) / 4) n))), (3, .int (jI ((x.2.2.2.2.1 z) / 4))), (0, .ref (b 0)), (1, .int (jI z)), (2, .int (jI n))]) G dX7_standsOn_56 (by decide) rfl ?_
  refine v_iload (j := 2) (x := jI (twC ((x.2.2.2.2.1 z) / 4) ((x.2.2.2.2.2.1 z) / 4) n)) G dX7_standsOn_58 rfl ?_
  refine v_iconst G dX7_standsOn_60 ?_
  refine v_imul (z := (twC ((x.2.2.2.2.1 z) / 4) ((x.2.2.2.2.2.1 z) / 4) n) * 4) G dX7_standsOn_61 rfl ?_
  refine v_iload (j := 0) (x := jI (twC ((x.2.2.2.2.1 z) % 4) ((x.2.2.2.2.2.1 z) % 4) (n - (jabs ((twC ((x.2.2.2.2.1 z) / 4) ((x.2.2.2.2.2.1 z) / 4) n) - ((x.2.2.2.2.1 z) / 4)))))) G dX7_standsOn_62 rfl ?_
  refine v_iadd (z := ((twC ((x.2.2.2.2.1 z) / 4) ((x.2.2.2.2.2.1 z) / 4) n) * 4) + (twC ((x.2.2.2.2.1 z) % 4) ((x.2.2.2.2.2.1 z) % 4) (n - (jabs ((twC ((x.2.2.2.2.1 z) / 4) ((x.2.2.2.2.2.1 z) / 4) n) - ((x.2.2.2.2.1 z) / 4)))))) G dX7_standsOn_64 rfl ?_
  exact v_iret G () (show jI (((twC ((x.2.2.2.2.1 z) / 4) ((x.2.2.2.2.2.1 z) / 4) n) * 4) + (twC ((x.2.2.2.2.1 z) % 4) ((x.2.2.2.2.2.1 z) % 4) (n - (jabs ((twC ((x.2.2.2.2.1 z) / 4) ((x.2.2.2.2.2.1 z) / 4) n) - ((x.2.2.2.2.1 z) / 4)))))) = jI (stF x n z) from rfl) rfl dX7_standsOn_65

set_option maxHeartbeats 4000000 in
set_option maxRecDepth 100000 in
theorem c_X7_comes (t : Int) (hw : Wc x) (ht : 0 ≤ t ∧ t < 8) : Ci l yX7_comes wsX7_comes { frames := 1, cells := 0, slots := 0, locals := 22 } D (jT cI cL cB cS) [.ref (b 0), .int (jI t)] (gW cI b x) (S := Unit) (fun _ => (gW cI b x)) (fun r _ => r = jI (b2 (0 ≤ x.2.2.2.2.2.2.2.2.2.2.1 t - x.1 ∧ x.2.2.2.2.2.2.2.2.2.2.1 t - x.1 ≤ 100))) := by
  refine Ci.mk (cc := cX7_comes) (maxL := 2) (rt := .boolean) (by decide) rfl (Nat.le_of_ble_eq_true rfl) rfl ?_
  intro p_ e_ s_ m_ b_ me_ c_ A_ G hnm
  have hb := hw.task (t := t) (by omega) (by omega)
  have hh := hw.hour
  have k_X7 : ∀ w ∈ u_ws RX7 TX7 12, w ∈ wsX7_comes := fun _ h => List.mem_cons_of_mem _ (List.mem_append_right _ h)
  have q_1 : Cond.fieldLink RX7 43 "SupperLight$World" "taskHours" "[I" ∈ wsX7_comes := List.mem_of_getElem? (i := 1) rfl
  have q_2 : Cond.fieldLink RX7 9 "SupperLight$World" "hour" "I" ∈ wsX7_comes := List.mem_of_getElem? (i := 2) rfl
  have q_3 : Cond.initialized RX8 ∈ wsX7_comes := List.mem_of_getElem? (i := 4) rfl
  have q_4 : Cond.static yX8_within ∈ wsX7_comes := List.mem_of_getElem? (i := 3) rfl
  refine v_aload_n (j := 0) (x := b 0) G dX7_comes_0 rfl rfl ?_
  refine v_get (q0 := 0) (k := 10) (v := .ref (b 8)) G k_X7 rfl rfl (by decide) q_1 rfl rfl dX7_comes_1 ?_
  refine v_iload_n (j := 1) (x := jI t) G dX7_comes_4 rfl rfl ?_
  refine v_iald (q0 := 8) (t0 := 0) (g := x.2.2.2.2.2.2.2.2.2.2.1) (z := t) G rfl rfl (by omega) dX7_comes_5 ?_
  refine v_aload_n (j := 0) (x := b 0) G dX7_comes_6 rfl rfl ?_
  refine v_get (q0 := 0) (k := 0) (v := .int (jI x.1)) G k_X7 rfl rfl (by decide) q_2 rfl rfl dX7_comes_7 ?_
  refine v_isub (z := (x.2.2.2.2.2.2.2.2.2.2.1 t) - x.1) G dX7_comes_10 rfl ?_
  refine v_iconst G dX7_comes_11 ?_
  refine v_bipush G dX7_comes_12 (by decide) ?_
  refine v_ciN G (rn_N (As := [.int (jI ((x.2.2.2.2.2.2.2.2.2.2.1 t) - x.1)), .int (jI 0), .int (jI 100)]) (rest := []) G (c_X8_within (v := (x.2.2.2.2.2.2.2.2.2.2.1 t) - x.1) (lo := 0) (hi := 100) (hr := (by omega))) gX7_comes_X8_within_n81 rfl (List.mem_of_getElem? (i := 9) rfl) q_3 q_4 hdX8_within ⟨rfl, rfl, Nat.le_of_ble_eq_true rfl, Nat.le_of_ble_eq_true rfl⟩ rfl rfl (Nat.le_of_ble_eq_true rfl) ⟨Nat.zero_le _, Nat.zero_le _⟩ dX7_comes_14) (fun r_1 u_3 e_2 => ?_)
  have e_2 : r_1 = jI (b2 ((0 : Int) ≤ ((x.2.2.2.2.2.2.2.2.2.2.1 t) - x.1) ∧ ((x.2.2.2.2.2.2.2.2.2.2.1 t) - x.1) ≤ (100 : Int))) := e_2
  subst e_2
  exact v_zret G () (nb_b2 _) (show jI (b2 ((0 : Int) ≤ ((x.2.2.2.2.2.2.2.2.2.2.1 t) - x.1) ∧ ((x.2.2.2.2.2.2.2.2.2.2.1 t) - x.1) ≤ (100 : Int))) = jI (b2 (0 ≤ x.2.2.2.2.2.2.2.2.2.2.1 t - x.1 ∧ x.2.2.2.2.2.2.2.2.2.2.1 t - x.1 ≤ 100)) from congrArg jI (by omega)) rfl dX7_comes_17

set_option maxHeartbeats 4000000 in
set_option maxRecDepth 100000 in
theorem c_X7_arrivedSet  (hw : Wc x) : Ci l yX7_arrivedSet wsX7_arrivedSet { frames := 0, cells := 0, slots := 0, locals := 0 } D (jT cI cL cB cS) [.ref (b 0)] (gW cI b x) (S := Unit) (fun _ => (gW cI b x)) (fun r _ => r = stN (fun x_ => x.2.2.2.2.1 x_ = x.2.2.2.2.2.1 x_) x.2.2.1.toNat) := by
  refine Ci.mk (cc := cX7_arrivedSet) (maxL := 3) (rt := .int) (by decide) rfl (Nat.le_of_ble_eq_true rfl) rfl ?_
  intro p_ e_ s_ m_ b_ me_ c_ A_ G hnm
  have hm := hw.many
  have k_X7 : ∀ w ∈ u_ws RX7 TX7 12, w ∈ wsX7_arrivedSet := fun _ h => List.mem_cons_of_mem _ (List.mem_append_right _ h)
  have q_1 : Cond.fieldLink RX7 19 "SupperLight$World" "beings" "I" ∈ wsX7_arrivedSet := List.mem_of_getElem? (i := 1) rfl
  have q_2 : Cond.fieldLink RX7 25 "SupperLight$World" "ats" "[I" ∈ wsX7_arrivedSet := List.mem_of_getElem? (i := 2) rfl
  have q_3 : Cond.fieldLink RX7 28 "SupperLight$World" "goals" "[I" ∈ wsX7_arrivedSet := List.mem_of_getElem? (i := 3) rfl
  refine v_iconst G dX7_arrivedSet_0 ?_
  refine v_top (x := jI 0) (y := stN (fun x_ => x.2.2.2.2.1 x_ = x.2.2.2.2.2.1 x_) 0) rfl ?_
  refine v_istore_n (lv' := [(1, .int (stN (fun x_ => x.2.2.2.2.1 x_ = x.2.2.2.2.2.1 x_) 0)), (0, .ref (b 0))]) G dX7_arrivedSet_1 rfl (by decide) rfl ?_
  refine v_iconst G dX7_arrivedSet_2 ?_
  refine v_istore_n (lv' := [(2, .int (jI 0)), (1, .int (stN (fun x_ => x.2.2.2.2.1 x_ = x.2.2.2.2.2.1 x_) 0)), (0, .ref (b 0))]) G dX7_arrivedSet_3 rfl (by decide) rfl ?_
  refine v_locs (lv' := [(2, .int (jI 0)), (1, .int (stN (fun x_ => x.2.2.2.2.1 x_ = x.2.2.2.2.2.1 x_) 0)), (0, .ref (b 0))]) [0, 1, 2] rfl ?_
  refine v_loop1 (fun (k : Nat) => [(2, .int (jI (k : Int))), (1, .int (stN (fun x_ => x.2.2.2.2.1 x_ = x.2.2.2.2.2.1 x_) k)), (0, .ref (b 0))]) (fun (k : Nat) => (gW cI b x)) (fun (k : Nat) => (k : Int) ≤ x.2.2.1) (fun (k : Nat) => x.2.2.1.toNat - k) 0 (by omega) rfl rfl ?_
  intro k I_1 ih_2
  refine v_iload_n (j := 0) (x := jI (k : Int)) G dX7_arrivedSet_4 rfl rfl ?_
  refine v_aload_n (j := 2) (x := b 0) G dX7_arrivedSet_5 rfl rfl ?_
  refine v_get (q0 := 0) (k := 2) (v := .int (jI x.2.2.1)) G k_X7 rfl rfl (by decide) q_1 rfl rfl dX7_arrivedSet_6 ?_
  refine v_icmp_ge (a := (k : Int)) (b := x.2.2.1) (tgt := 39) G dX7_arrivedSet_9 (by decide) (by omega) (fun c_3 => ?_) (fun c_3 => ?_)
  · skip
    obtain rfl : k = x.2.2.1.toNat := by omega
    refine v_iload_n (j := 1) (x := stN (fun x_ => x.2.2.2.2.1 x_ = x.2.2.2.2.2.1 x_) x.2.2.1.toNat) G dX7_arrivedSet_39 rfl rfl ?_
    exact v_iret G () rfl rfl dX7_arrivedSet_40
  · skip
    have hb := hw.being (b := (k : Int)) (by omega) (by omega)
    refine v_aload_n (j := 2) (x := b 0) G dX7_arrivedSet_12 rfl rfl ?_
    refine v_get (q0 := 0) (k := 4) (v := .ref (b 3)) G k_X7 rfl rfl (by decide) q_2 rfl rfl dX7_arrivedSet_13 ?_
    refine v_iload_n (j := 0) (x := jI (k : Int)) G dX7_arrivedSet_16 rfl rfl ?_
    refine v_iald (q0 := 3) (t0 := 0) (g := x.2.2.2.2.1) (z := (k : Int)) G rfl rfl (by omega) dX7_arrivedSet_17 ?_
    refine v_aload_n (j := 2) (x := b 0) G dX7_arrivedSet_18 rfl rfl ?_
    refine v_get (q0 := 0) (k := 5) (v := .ref (b 4)) G k_X7 rfl rfl (by decide) q_3 rfl rfl dX7_arrivedSet_19 ?_
    refine v_iload_n (j := 0) (x := jI (k : Int)) G dX7_arrivedSet_22 rfl rfl ?_
    refine v_iald (q0 := 4) (t0 := 0) (g := x.2.2.2.2.2.1) (z := (k : Int)) G rfl rfl (by omega) dX7_arrivedSet_23 ?_
    refine v_cut (pc' := 33) (lv' := [(2, .int (jI (k : Int))), (1, .int (stN (fun x_ => x.2.2.2.2.1 x_ = x.2.2.2.2.2.1 x_) (k + 1))), (0, .ref (b 0))]) (st' := []) (ws' := (gW cI b x)) ?_ (fun J_4 => ?_)
    · skip
      refine v_iinc (k := 0) (z := (k : Int)) (z' := ((k + 1 : Nat) : Int)) (lv' := [(2, .int (jI ((k + 1 : Nat) : Int))), (1, .int (stN (fun x_ => x.2.2.2.2.1 x_ = x.2.2.2.2.2.1 x_) (k + 1))), (0, .ref (b 0))]) G dX7_arrivedSet_33 rfl (by omega) (by decide) rfl ?_
      refine v_goto (tgt := 4) G dX7_arrivedSet_36 (by decide) ?_
      exact ih_2 (k + 1) (by omega) (by omega)
    · skip
      refine v_icmp_ne (a := x.2.2.2.2.1 (k : Int)) (b := x.2.2.2.2.2.1 (k : Int)) (tgt := 33) G dX7_arrivedSet_24 (by decide) (by omega) (fun c_5 => ?_) (fun c_5 => ?_)
      · skip
        refine v_eqs (lv' := [(2, .int (jI (k : Int))), (1, .int (stN (fun x_ => x.2.2.2.2.1 x_ = x.2.2.2.2.2.1 x_) (k + 1))), (0, .ref (b 0))]) (by rw [show stN (fun x_ => x.2.2.2.2.1 x_ = x.2.2.2.2.2.1 x_) (k + 1) = stN (fun x_ => x.2.2.2.2.1 x_ = x.2.2.2.2.2.1 x_) k from ((congrArg (fun z => _ ||| z) (btI_f (by first | omega | assumption))).trans (or_z _))]) rfl rfl ?_
        exact J_4
      · skip
        refine v_iload_n (j := 1) (x := stN (fun x_ => x.2.2.2.2.1 x_ = x.2.2.2.2.2.1 x_) k) G dX7_arrivedSet_27 rfl rfl ?_
        refine v_iconst G dX7_arrivedSet_28 ?_
        refine v_iload_n (j := 0) (x := jI (k : Int)) G dX7_arrivedSet_29 rfl rfl ?_
        refine v_ishl (v := (jI 1) <<< ((jI (k : Int)) &&& 31)) G dX7_arrivedSet_30 rfl ?_
        refine v_ior (v := (stN (fun x_ => x.2.2.2.2.1 x_ = x.2.2.2.2.2.1 x_) k) ||| ((jI 1) <<< ((jI (k : Int)) &&& 31))) G dX7_arrivedSet_31 rfl ?_
        refine v_istore_n (lv' := [(1, .int ((stN (fun x_ => x.2.2.2.2.1 x_ = x.2.2.2.2.2.1 x_) k) ||| ((jI 1) <<< ((jI (k : Int)) &&& 31)))), (2, .int (jI (k : Int))), (0, .ref (b 0))]) G dX7_arrivedSet_32 rfl (by decide) rfl ?_
        refine v_locs (lv' := [(2, .int (jI (k : Int))), (1, .int ((stN (fun x_ => x.2.2.2.2.1 x_ = x.2.2.2.2.2.1 x_) k) ||| ((jI 1) <<< ((jI (k : Int)) &&& 31)))), (0, .ref (b 0))]) [1, 0, 2] rfl ?_
        refine v_eqs (lv' := [(2, .int (jI (k : Int))), (1, .int (stN (fun x_ => x.2.2.2.2.1 x_ = x.2.2.2.2.2.1 x_) (k + 1))), (0, .ref (b 0))]) (by rw [show stN (fun x_ => x.2.2.2.2.1 x_ = x.2.2.2.2.2.1 x_) (k + 1) = (stN (fun x_ => x.2.2.2.2.1 x_ = x.2.2.2.2.2.1 x_) k) ||| ((jI 1) <<< ((jI (k : Int)) &&& 31)) from (congrArg (fun z => _ ||| z) (btI_t (by first | omega | assumption)))]) rfl rfl ?_
        exact J_4
end

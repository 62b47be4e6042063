section
variable {l : Launch} {D : va_G} {cI cL cB cS : ClassId} {a : Nat → Nat} {w kp bf ah fd sp lt tp bt lg : Int → Int} {ik tn he ft vl : Int} {ce bw : Int → Int64}
def eatW (w : Int → Int) (b v : Int) : Int → Int := uI (uI w (19 + 5 * b + 3) v) (19 + 5 * b + 4) 0
theorem Wf.eat {w : Int → Int} (h : Wf w) {b v : Int} (hb : 0 ≤ b ∧ b < 10) (hv : 0 ≤ v ∧ v ≤ 99) : Wf (eatW w b v) := (h.setB (by omega) (by omega)).setB (by omega) (by omega)
set_option maxHeartbeats 4000000 in
set_option maxRecDepth 100000 in
theorem c_X9_bowl (p v : Int) (hw : Wf w) (hr : (-2147483648 ≤ p ∧ p ≤ 2147483647) ∧ (-2147483648 ≤ v ∧ v ≤ 2147483647)) : Ci l yX9_bowl wsX9_bowl { frames := 2, cells := 0, slots := 0, locals := 42 } D (jT cI cL cB cS) [.ref (a 0), .int (jI p), .int (jI v)] (wR cI cL a w kp bf ah ik fd sp lt tp tn he ft vl bt lg ce bw) (S := (Int → Int) × (Int → Int)) (fun u => (wR cI cL a u.1 kp bf ah ik u.2 sp lt tp tn he ft vl bt lg ce bw)) (fun r u => (((0 ≤ p ∧ p ≤ 15) ∧ 0 ≤ v ∧ v ≤ 99) ∧ r = jI (w (3 + p)) ∧ u.1 = uI w (3 + p) v ∧ u.2 = fd) ∨ ((¬ ((0 ≤ p ∧ p ≤ 15) ∧ 0 ≤ v ∧ v ≤ 99)) ∧ r = jI (-1000000001) ∧ u.1 = w ∧ u.2 = uI fd 0 (fd 0 + 1))) := by
  refine Ci.mk (cc := cX9_bowl) (maxL := 3) (rt := .int) (by decide) rfl (Nat.le_of_ble_eq_true rfl) rfl ?_
  intro p_ e_ s_ m_ b_ me_ c_ A_ G hnm
  refine v_iload_n (j := 1) (x := jI p) G dX9_bowl_0 rfl rfl ?_
  refine v_ciN G (rn_S (As := [.int (jI p)]) (rest := []) G (c_X9_isPlace (p := p) (hr := (by omega))) gX9_bowl_X9_isPlace rfl hdX9_isPlace ⟨rfl, rfl, Nat.le_of_ble_eq_true rfl, Nat.le_of_ble_eq_true rfl⟩ rfl rfl (Nat.le_of_ble_eq_true rfl) ⟨Nat.zero_le _, Nat.zero_le _⟩ dX9_bowl_1) (fun r_1 u_3 e_2 => ?_)
  have e_2 : r_1 = jI (b2 (0 ≤ p ∧ p ≤ 15)) := e_2
  subst e_2
  refine v_ifb_eq (P := 0 ≤ p ∧ p ≤ 15) (tgt := 28) G dX9_bowl_4 (by decide) (fun c_4 => ?_) (fun c_4 => ?_)
  · skip
    refine v_aload_n (j := 0) (x := a 0) G dX9_bowl_28 rfl rfl ?_
    refine v_iconst G dX9_bowl_29 ?_
    refine v_ciF G (rn_V (As := [.int (jI 0)]) (rest := []) (q0 := 0) G (c_X9_no (k := 0) (w := w) (kp := kp) (bf := bf) (ah := ah) (ik := ik) (fd := fd) (sp := sp) (lt := lt) (tp := tp) (tn := tn) (he := he) (ft := ft) (vl := vl) (bt := bt) (lg := lg) (ce := ce) (bw := bw) (a := a) (hk := (by omega))) gX9_bowl_X9_no rfl hdX9_no ⟨rfl, rfl, Nat.le_of_ble_eq_true rfl, Nat.le_of_ble_eq_true rfl⟩ rfl rfl (Nat.le_of_ble_eq_true rfl) ⟨Nat.zero_le _, Nat.zero_le _⟩ rfl rfl dX9_bowl_30) (fun r_5 u_7 e_6 => ?_)
    have e_6 : r_5 = jI ((-1000000001) - 0) := e_6
    subst e_6
    refine v_world (ws' := (wR cI cL a w kp bf ah ik (uI fd 0 (fd 0 + 1)) sp lt tp tn he ft vl bt lg ce bw)) rfl ?_
    exact v_iret G (w, uI fd 0 (fd 0 + 1)) (by first | exact Or.inl ⟨(by omega), (by first | rfl | exact congrArg jI (by omega)), rfl, rfl⟩ | exact Or.inr ⟨(by omega), (by first | rfl | exact congrArg jI (by omega)), rfl, rfl⟩) rfl dX9_bowl_33
  · skip
    refine v_iload_n (j := 2) (x := jI v) G dX9_bowl_7 rfl rfl ?_
    refine v_iconst G dX9_bowl_8 ?_
    refine v_bipush G dX9_bowl_9 (by decide) ?_
    refine v_ciN G (rn_S (As := [.int (jI v), .int (jI 0), .int (jI 99)]) (rest := []) G (c_X9_in (v := v) (lo := 0) (hi := 99) (hr := (by omega))) gX9_bowl_X9_in rfl hdX9_in ⟨rfl, rfl, Nat.le_of_ble_eq_true rfl, Nat.le_of_ble_eq_true rfl⟩ rfl rfl (Nat.le_of_ble_eq_true rfl) ⟨Nat.zero_le _, Nat.zero_le _⟩ dX9_bowl_11) (fun r_8 u_10 e_9 => ?_)
    have e_9 : r_8 = jI (b2 (0 ≤ v ∧ v ≤ 99)) := e_9
    subst e_9
    refine v_ifb_eq (P := 0 ≤ v ∧ v ≤ 99) (tgt := 28) G dX9_bowl_14 (by decide) (fun c_11 => ?_) (fun c_11 => ?_)
    · skip
      refine v_aload_n (j := 0) (x := a 0) G dX9_bowl_28 rfl rfl ?_
      refine v_iconst G dX9_bowl_29 ?_
      refine v_ciF G (rn_V (As := [.int (jI 0)]) (rest := []) (q0 := 0) G (c_X9_no (k := 0) (w := w) (kp := kp) (bf := bf) (ah := ah) (ik := ik) (fd := fd) (sp := sp) (lt := lt) (tp := tp) (tn := tn) (he := he) (ft := ft) (vl := vl) (bt := bt) (lg := lg) (ce := ce) (bw := bw) (a := a) (hk := (by omega))) gX9_bowl_X9_no rfl hdX9_no ⟨rfl, rfl, Nat.le_of_ble_eq_true rfl, Nat.le_of_ble_eq_true rfl⟩ rfl rfl (Nat.le_of_ble_eq_true rfl) ⟨Nat.zero_le _, Nat.zero_le _⟩ rfl rfl dX9_bowl_30) (fun r_12 u_14 e_13 => ?_)
      have e_13 : r_12 = jI ((-1000000001) - 0) := e_13
      subst e_13
      refine v_world (ws' := (wR cI cL a w kp bf ah ik (uI fd 0 (fd 0 + 1)) sp lt tp tn he ft vl bt lg ce bw)) rfl ?_
      exact v_iret G (w, uI fd 0 (fd 0 + 1)) (by first | exact Or.inl ⟨(by omega), (by first | rfl | exact congrArg jI (by omega)), rfl, rfl⟩ | exact Or.inr ⟨(by omega), (by first | rfl | exact congrArg jI (by omega)), rfl, rfl⟩) rfl dX9_bowl_33
    · skip
      refine v_aload_n (j := 0) (x := a 0) G dX9_bowl_17 rfl rfl ?_
      refine v_iconst G dX9_bowl_18 ?_
      refine v_iload_n (j := 1) (x := jI p) G dX9_bowl_19 rfl rfl ?_
      refine v_iadd (z := 3 + p) G dX9_bowl_20 rfl ?_
      refine v_iload_n (j := 2) (x := jI v) G dX9_bowl_21 rfl rfl ?_
      refine v_ciF G (rn_V (As := [.int (jI (3 + p)), .int (jI v)]) (rest := []) (q0 := 0) G (c_X9_puts (x := 3 + p) (v := v) (w := w) (kp := kp) (bf := bf) (ah := ah) (ik := ik) (fd := fd) (sp := sp) (lt := lt) (tp := tp) (tn := tn) (he := he) (ft := ft) (vl := vl) (bt := bt) (lg := lg) (ce := ce) (bw := bw) (a := a) (hx := (by omega))) gX9_bowl_X9_puts rfl hdX9_puts ⟨rfl, rfl, Nat.le_of_ble_eq_true rfl, Nat.le_of_ble_eq_true rfl⟩ rfl rfl (Nat.le_of_ble_eq_true rfl) ⟨Nat.zero_le _, Nat.zero_le _⟩ rfl rfl dX9_bowl_22) (fun r_15 u_17 e_16 => ?_)
      have e_16 : r_15 = jI (w (3 + p)) := e_16
      subst e_16
      refine v_world (ws' := (wR cI cL a (uI w (3 + p) v) kp bf ah ik fd sp lt tp tn he ft vl bt lg ce bw)) rfl ?_
      refine v_goto (tgt := 33) G dX9_bowl_25 (by decide) ?_
      exact v_iret G (uI w (3 + p) v, fd) (by first | exact Or.inl ⟨(by omega), (by first | rfl | exact congrArg jI (by omega)), rfl, rfl⟩ | exact Or.inr ⟨(by omega), (by first | rfl | exact congrArg jI (by omega)), rfl, rfl⟩) rfl dX9_bowl_33

set_option maxHeartbeats 4000000 in
set_option maxRecDepth 100000 in
theorem c_X9_light (p : Int) (hw : Wf w) (hr : (-2147483648 ≤ p ∧ p ≤ 2147483647)) : Ci l yX9_light wsX9_light { frames := 5, cells := 0, slots := 0, locals := 113 } D (jT cI cL cB cS) [.ref (a 0), .int (jI p)] (wR cI cL a w kp bf ah ik fd sp lt tp tn he ft vl bt lg ce bw) (S := (Int → Int)) (fun fd2 => (wR cI cL a w kp bf ah ik fd2 sp lt tp tn he ft vl bt lg ce bw)) (fun r fd2 => (((0 ≤ p ∧ p ≤ 15)) ∧ r = jI (sLt w p) ∧ fd2 = fd) ∨ ((¬ (0 ≤ p ∧ p ≤ 15)) ∧ r = jI (-1000000001) ∧ fd2 = uI fd 0 (fd 0 + 1))) := by
  refine Ci.mk (cc := cX9_light) (maxL := 2) (rt := .int) (by decide) rfl (Nat.le_of_ble_eq_true rfl) rfl ?_
  intro p_ e_ s_ m_ b_ me_ c_ A_ G hnm
  refine v_iload_n (j := 1) (x := jI p) G dX9_light_0 rfl rfl ?_
  refine v_ciN G (rn_S (As := [.int (jI p)]) (rest := []) G (c_X9_isPlace (p := p) (hr := (by omega))) gX9_light_X9_isPlace rfl hdX9_isPlace ⟨rfl, rfl, Nat.le_of_ble_eq_true rfl, Nat.le_of_ble_eq_true rfl⟩ rfl rfl (Nat.le_of_ble_eq_true rfl) ⟨Nat.zero_le _, Nat.zero_le _⟩ dX9_light_1) (fun r_1 u_3 e_2 => ?_)
  have e_2 : r_1 = jI (b2 (0 ≤ p ∧ p ≤ 15)) := e_2
  subst e_2
  refine v_ifb_eq (P := 0 ≤ p ∧ p ≤ 15) (tgt := 15) G dX9_light_4 (by decide) (fun c_4 => ?_) (fun c_4 => ?_)
  · skip
    refine v_aload_n (j := 0) (x := a 0) G dX9_light_15 rfl rfl ?_
    refine v_iconst G dX9_light_16 ?_
    refine v_ciF G (rn_V (As := [.int (jI 0)]) (rest := []) (q0 := 0) G (c_X9_no (k := 0) (w := w) (kp := kp) (bf := bf) (ah := ah) (ik := ik) (fd := fd) (sp := sp) (lt := lt) (tp := tp) (tn := tn) (he := he) (ft := ft) (vl := vl) (bt := bt) (lg := lg) (ce := ce) (bw := bw) (a := a) (hk := (by omega))) gX9_light_X9_no rfl hdX9_no ⟨rfl, rfl, Nat.le_of_ble_eq_true rfl, Nat.le_of_ble_eq_true rfl⟩ rfl rfl (Nat.le_of_ble_eq_true rfl) ⟨Nat.zero_le _, Nat.zero_le _⟩ rfl rfl dX9_light_17) (fun r_5 u_7 e_6 => ?_)
    have e_6 : r_5 = jI ((-1000000001) - 0) := e_6
    subst e_6
    refine v_world (ws' := (wR cI cL a w kp bf ah ik (uI fd 0 (fd 0 + 1)) sp lt tp tn he ft vl bt lg ce bw)) rfl ?_
    exact v_iret G (uI fd 0 (fd 0 + 1)) (by first | exact Or.inl ⟨(by omega), (by first | rfl | exact congrArg jI (by omega)), rfl⟩ | exact Or.inr ⟨(by omega), (by first | rfl | exact congrArg jI (by omega)), rfl⟩) rfl dX9_light_20
  · skip
    refine v_aload_n (j := 0) (x := a 0) G dX9_light_7 rfl rfl ?_
    refine v_iload_n (j := 1) (x := jI p) G dX9_light_8 rfl rfl ?_
    refine v_ciF G (rn_V (As := [.int (jI p)]) (rest := []) (q0 := 0) G (c_X9_lightOf (p := p) (w := w) (kp := kp) (bf := bf) (ah := ah) (ik := ik) (fd := fd) (sp := sp) (lt := lt) (tp := tp) (tn := tn) (he := he) (ft := ft) (vl := vl) (bt := bt) (lg := lg) (ce := ce) (bw := bw) (a := a) (hw := hw) (hp := (by omega))) gX9_light_X9_lightOf rfl hdX9_lightOf ⟨rfl, rfl, Nat.le_of_ble_eq_true rfl, Nat.le_of_ble_eq_true rfl⟩ rfl rfl (Nat.le_of_ble_eq_true rfl) ⟨Nat.zero_le _, Nat.zero_le _⟩ rfl rfl dX9_light_9) (fun r_8 u_10 e_9 => ?_)
    have e_9 : r_8 = jI (sLt w p) := e_9
    subst e_9
    refine v_world (ws' := (wR cI cL a w kp bf ah ik fd sp lt tp tn he ft vl bt lg ce bw)) rfl ?_
    refine v_goto (tgt := 20) G dX9_light_12 (by decide) ?_
    exact v_iret G (fd) (by first | exact Or.inl ⟨(by omega), (by first | rfl | exact congrArg jI (by omega)), rfl⟩ | exact Or.inr ⟨(by omega), (by first | rfl | exact congrArg jI (by omega)), rfl⟩) rfl dX9_light_20

set_option maxHeartbeats 4000000 in
set_option maxRecDepth 100000 in
theorem c_X9_brightest  (hw : Wf w) : Ci l yX9_brightest wsX9_brightest { frames := 5, cells := 0, slots := 0, locals := 113 } D (jT cI cL cB cS) [.ref (a 0)] (wR cI cL a w kp bf ah ik fd sp lt tp tn he ft vl bt lg ce bw) (S := Unit) (fun _ => (wR cI cL a w kp bf ah ik fd sp lt tp tn he ft vl bt lg ce bw)) (fun r _ => r = jI (brN (sLt w) 15)) := by
  refine Ci.mk (cc := cX9_brightest) (maxL := 3) (rt := .int) (by decide) rfl (Nat.le_of_ble_eq_true rfl) rfl ?_
  intro p_ e_ s_ m_ b_ me_ c_ A_ G hnm
  refine v_iconst G dX9_brightest_0 ?_
  refine v_istore_n (lv' := [(1, .int (jI 0)), (0, .ref (a 0))]) G dX9_brightest_1 rfl (by decide) rfl ?_
  refine v_iconst G dX9_brightest_2 ?_
  refine v_istore_n (lv' := [(2, .int (jI 1)), (1, .int (jI 0)), (0, .ref (a 0))]) G dX9_brightest_3 rfl (by decide) rfl ?_
  refine v_locs (lv' := [(2, .int (jI 1)), (1, .int (jI 0)), (0, .ref (a 0))]) [0, 1, 2] rfl ?_
  refine v_loop1 (fun (k : Nat) => [(2, .int (jI ((k + 1 : Nat) : Int))), (1, .int (jI (brN (sLt w) k))), (0, .ref (a 0))]) (fun (k : Nat) => (wR cI cL a w kp bf ah ik fd sp lt tp tn he ft vl bt lg ce bw)) (fun (k : Nat) => (k : Int) ≤ 15) (fun (k : Nat) => 15 - k) 0 (by decide) rfl rfl ?_
  intro k I_1 ih_2
  refine v_iload_n (j := 0) (x := jI ((k + 1 : Nat) : Int)) G dX9_brightest_4 rfl rfl ?_
  refine v_bipush G dX9_brightest_5 (by decide) ?_
  refine v_icmp_ge (a := ((k + 1 : Nat) : Int)) (b := 16) (tgt := 35) G dX9_brightest_7 (by decide) (by omega) (fun c_3 => ?_) (fun c_3 => ?_)
  · skip
    refine v_iload_n (j := 1) (x := jI (brN (sLt w) k)) G dX9_brightest_35 rfl rfl ?_
    exact v_iret G () (show jI (brN (sLt w) k) = jI (brN (sLt w) 15) from by rw [show k = 15 by omega]) rfl dX9_brightest_36
  · skip
    have hbr := brN_r (sLt w) k
    have hl1 := sLt_r hw (p := brN (sLt w) k) (by omega) (by omega)
    have hl2 := sLt_r hw (p := ((k + 1 : Nat) : Int)) (by omega) (by omega)
    refine v_aload_n (j := 2) (x := a 0) G dX9_brightest_10 rfl rfl ?_
    refine v_iload_n (j := 0) (x := jI ((k + 1 : Nat) : Int)) G dX9_brightest_11 rfl rfl ?_
    refine v_ciF G (rn_V (As := [.int (jI ((k + 1 : Nat) : Int))]) (rest := []) (q0 := 0) G (c_X9_lightOf (p := ((k + 1 : Nat) : Int)) (w := w) (kp := kp) (bf := bf) (ah := ah) (ik := ik) (fd := fd) (sp := sp) (lt := lt) (tp := tp) (tn := tn) (he := he) (ft := ft) (vl := vl) (bt := bt) (lg := lg) (ce := ce) (bw := bw) (a := a) (hw := hw) (hp := (by omega))) gX9_brightest_X9_lightOf rfl hdX9_lightOf ⟨rfl, rfl, Nat.le_of_ble_eq_true rfl, Nat.le_of_ble_eq_true rfl⟩ rfl rfl (Nat.le_of_ble_eq_true rfl) ⟨Nat.zero_le _, Nat.zero_le _⟩ rfl rfl dX9_brightest_12) (fun r_4 u_6 e_5 => ?_)
    have e_5 : r_4 = jI (sLt w ((k + 1 : Nat) : Int)) := e_5
    subst e_5
    refine v_world (ws' := (wR cI cL a w kp bf ah ik fd sp lt tp tn he ft vl bt lg ce bw)) rfl ?_
    refine v_aload_n (j := 2) (x := a 0) G dX9_brightest_15 rfl rfl ?_
    refine v_iload_n (j := 1) (x := jI (brN (sLt w) k)) G dX9_brightest_16 rfl rfl ?_
    refine v_ciF G (rn_V (As := [.int (jI (brN (sLt w) k))]) (rest := [.int (jI (sLt w ((k + 1 : Nat) : Int)))]) (q0 := 0) G (c_X9_lightOf (p := brN (sLt w) k) (w := w) (kp := kp) (bf := bf) (ah := ah) (ik := ik) (fd := fd) (sp := sp) (lt := lt) (tp := tp) (tn := tn) (he := he) (ft := ft) (vl := vl) (bt := bt) (lg := lg) (ce := ce) (bw := bw) (a := a) (hw := hw) (hp := (by omega))) gX9_brightest_X9_lightOf rfl hdX9_lightOf ⟨rfl, rfl, Nat.le_of_ble_eq_true rfl, Nat.le_of_ble_eq_true rfl⟩ rfl rfl (Nat.le_of_ble_eq_true rfl) ⟨Nat.zero_le _, Nat.zero_le _⟩ rfl rfl dX9_brightest_17) (fun r_7 u_9 e_8 => ?_)
    have e_8 : r_7 = jI (sLt w (brN (sLt w) k)) := e_8
    subst e_8
    refine v_world (ws' := (wR cI cL a w kp bf ah ik fd sp lt tp tn he ft vl bt lg ce bw)) rfl ?_
    refine v_cut (pc' := 28) (lv' := [(2, .int (jI ((k + 1 : Nat) : Int))), (1, .int (jI (brN (sLt w) k))), (0, .ref (a 0))]) (st' := [.int (jI (brN (sLt w) (k + 1)))]) (ws' := (wR cI cL a w kp bf ah ik fd sp lt tp tn he ft vl bt lg ce bw)) ?_ (fun J_10 => ?_)
    · skip
      refine v_istore_n (lv' := [(1, .int (jI (brN (sLt w) (k + 1)))), (2, .int (jI ((k + 1 : Nat) : Int))), (0, .ref (a 0))]) G dX9_brightest_28 rfl (by decide) rfl ?_
      refine v_iinc (k := 1) (z := ((k + 1 : Nat) : Int)) (z' := ((k + 1 + 1 : Nat) : Int)) (lv' := [(2, .int (jI ((k + 1 + 1 : Nat) : Int))), (1, .int (jI (brN (sLt w) (k + 1)))), (0, .ref (a 0))]) G dX9_brightest_29 rfl (by omega) (by decide) rfl ?_
      refine v_goto (tgt := 4) G dX9_brightest_32 (by decide) ?_
      exact ih_2 (k + 1) (by omega) (by omega)
    · skip
      refine v_icmp_le (a := sLt w ((k + 1 : Nat) : Int)) (b := sLt w (brN (sLt w) k)) (tgt := 27) G dX9_brightest_20 (by decide) (by omega) (fun c_11 => ?_) (fun c_11 => ?_)
      · skip
        refine v_iload_n (j := 1) (x := jI (brN (sLt w) k)) G dX9_brightest_27 rfl rfl ?_
        refine v_topj (x := brN (sLt w) k) (y := brN (sLt w) (k + 1)) (by show _ = (if _ then _ else _); split <;> first | rfl | omega) ?_
        exact J_10
      · skip
        refine v_iload_n (j := 0) (x := jI ((k + 1 : Nat) : Int)) G dX9_brightest_23 rfl rfl ?_
        refine v_goto (tgt := 28) G dX9_brightest_24 (by decide) ?_
        refine v_topj (x := ((k + 1 : Nat) : Int)) (y := brN (sLt w) (k + 1)) (by show _ = (if _ then _ else _); split <;> first | rfl | omega) ?_
        exact J_10

set_option maxHeartbeats 4000000 in
set_option maxRecDepth 100000 in
theorem c_X9_lit (v : Int) (hw : Wf w) (hr : (-2147483648 ≤ v ∧ v ≤ 2147483647)) : Ci l yX9_lit wsX9_lit { frames := 5, cells := 0, slots := 0, locals := 113 } D (jT cI cL cB cS) [.ref (a 0), .int (jI v)] (wR cI cL a w kp bf ah ik fd sp lt tp tn he ft vl bt lg ce bw) (S := (Int → Int)) (fun fd2 => (wR cI cL a w kp bf ah ik fd2 sp lt tp tn he ft vl bt lg ce bw)) (fun r fd2 => ((0 ≤ v ∧ v ≤ 9999) ∧ r = stN (fun x_ => v ≤ sLt w x_) 16 ∧ fd2 = fd) ∨ ((¬ (0 ≤ v ∧ v ≤ 9999)) ∧ r = jI (-1000000001) ∧ fd2 = uI fd 0 (fd 0 + 1))) := by
  refine Ci.mk (cc := cX9_lit) (maxL := 4) (rt := .int) (by decide) rfl (Nat.le_of_ble_eq_true rfl) rfl ?_
  intro p_ e_ s_ m_ b_ me_ c_ A_ G hnm
  refine v_iload_n (j := 1) (x := jI v) G dX9_lit_0 rfl rfl ?_
  refine v_iconst G dX9_lit_1 ?_
  refine v_sipush G dX9_lit_2 (by decide) ?_
  refine v_ciN G (rn_S (As := [.int (jI v), .int (jI 0), .int (jI 9999)]) (rest := []) G (c_X9_in (v := v) (lo := 0) (hi := 9999) (hr := (by omega))) gX9_lit_X9_in rfl hdX9_in ⟨rfl, rfl, Nat.le_of_ble_eq_true rfl, Nat.le_of_ble_eq_true rfl⟩ rfl rfl (Nat.le_of_ble_eq_true rfl) ⟨Nat.zero_le _, Nat.zero_le _⟩ dX9_lit_5) (fun r_1 u_3 e_2 => ?_)
  have e_2 : r_1 = jI (b2 (0 ≤ v ∧ v ≤ 9999)) := e_2
  subst e_2
  refine v_ifb_ne (P := 0 ≤ v ∧ v ≤ 9999) (tgt := 17) G dX9_lit_8 (by decide) (fun c_4 => ?_) (fun c_4 => ?_)
  · skip
    refine v_iconst G dX9_lit_17 ?_
    refine v_top (x := jI 0) (y := stN (fun x_ => v ≤ sLt w x_) 0) rfl ?_
    refine v_istore_n (lv' := [(2, .int (stN (fun x_ => v ≤ sLt w x_) 0)), (0, .ref (a 0)), (1, .int (jI v))]) G dX9_lit_18 rfl (by decide) rfl ?_
    refine v_iconst G dX9_lit_19 ?_
    refine v_istore_n (lv' := [(3, .int (jI 0)), (2, .int (stN (fun x_ => v ≤ sLt w x_) 0)), (0, .ref (a 0)), (1, .int (jI v))]) G dX9_lit_20 rfl (by decide) rfl ?_
    refine v_locs (lv' := [(3, .int (jI 0)), (2, .int (stN (fun x_ => v ≤ sLt w x_) 0)), (0, .ref (a 0)), (1, .int (jI v))]) [0, 1, 2, 3] rfl ?_
    refine v_loop1 (fun (k : Nat) => [(3, .int (jI (k : Int))), (2, .int (stN (fun x_ => v ≤ sLt w x_) k)), (0, .ref (a 0)), (1, .int (jI v))]) (fun (k : Nat) => (wR cI cL a w kp bf ah ik fd sp lt tp tn he ft vl bt lg ce bw)) (fun (k : Nat) => (k : Int) ≤ 16) (fun (k : Nat) => 16 - k) 0 (by decide) rfl rfl ?_
    intro k I_5 ih_6
    refine v_iload_n (j := 0) (x := jI (k : Int)) G dX9_lit_21 rfl rfl ?_
    refine v_bipush G dX9_lit_22 (by decide) ?_
    refine v_icmp_ge (a := (k : Int)) (b := 16) (tgt := 52) G dX9_lit_24 (by decide) (by omega) (fun c_7 => ?_) (fun c_7 => ?_)
    · skip
      obtain rfl : k = 16 := by omega
      refine v_iload_n (j := 1) (x := stN (fun x_ => v ≤ sLt w x_) 16) G dX9_lit_52 rfl rfl ?_
      exact v_iret G (fd) (by first | exact Or.inl ⟨(by omega), (by first | rfl | exact congrArg jI (by omega)), rfl⟩ | exact Or.inr ⟨(by omega), (by first | rfl | exact congrArg jI (by omega)), rfl⟩) rfl dX9_lit_53
    · skip
      have hl1 := sLt_r hw (p := (k : Int)) (by omega) (by omega)
      refine v_iload_n (j := 1) (x := stN (fun x_ => v ≤ sLt w x_) k) G dX9_lit_27 rfl rfl ?_
      refine v_aload_n (j := 2) (x := a 0) G dX9_lit_28 rfl rfl ?_
      refine v_iload_n (j := 0) (x := jI (k : Int)) G dX9_lit_29 rfl rfl ?_
      refine v_ciF G (rn_V (As := [.int (jI (k : Int))]) (rest := [.int (stN (fun x_ => v ≤ sLt w x_) k)]) (q0 := 0) G (c_X9_lightOf (p := (k : Int)) (w := w) (kp := kp) (bf := bf) (ah := ah) (ik := ik) (fd := fd) (sp := sp) (lt := lt) (tp := tp) (tn := tn) (he := he) (ft := ft) (vl := vl) (bt := bt) (lg := lg) (ce := ce) (bw := bw) (a := a) (hw := hw) (hp := (by omega))) gX9_lit_X9_lightOf rfl hdX9_lightOf ⟨rfl, rfl, Nat.le_of_ble_eq_true rfl, Nat.le_of_ble_eq_true rfl⟩ rfl rfl (Nat.le_of_ble_eq_true rfl) ⟨Nat.zero_le _, Nat.zero_le _⟩ rfl rfl dX9_lit_30) (fun r_8 u_10 e_9 => ?_)
      have e_9 : r_8 = jI (sLt w (k : Int)) := e_9
      subst e_9
      refine v_world (ws' := (wR cI cL a w kp bf ah ik fd sp lt tp tn he ft vl bt lg ce bw)) rfl ?_
      refine v_iload_n (j := 3) (x := jI v) G dX9_lit_33 rfl rfl ?_
      refine v_cut (pc' := 44) (lv' := [(3, .int (jI (k : Int))), (2, .int (stN (fun x_ => v ≤ sLt w x_) k)), (0, .ref (a 0)), (1, .int (jI v))]) (st' := [.int (btI (v ≤ sLt w (k : Int)) (k : Int)), .int (stN (fun x_ => v ≤ sLt w x_) k)]) (ws' := (wR cI cL a w kp bf ah ik fd sp lt tp tn he ft vl bt lg ce bw)) ?_ (fun J_11 => ?_)
      · skip
        refine v_ior (v := (stN (fun x_ => v ≤ sLt w x_) k) ||| (btI (v ≤ sLt w (k : Int)) (k : Int))) G dX9_lit_44 rfl ?_
        refine v_top (x := (stN (fun x_ => v ≤ sLt w x_) k) ||| (btI (v ≤ sLt w (k : Int)) (k : Int))) (y := stN (fun x_ => v ≤ sLt w x_) (k + 1)) rfl ?_
        refine v_istore_n (lv' := [(2, .int (stN (fun x_ => v ≤ sLt w x_) (k + 1))), (3, .int (jI (k : Int))), (0, .ref (a 0)), (1, .int (jI v))]) G dX9_lit_45 rfl (by decide) rfl ?_
        refine v_iinc (k := 1) (z := (k : Int)) (z' := ((k + 1 : Nat) : Int)) (lv' := [(3, .int (jI ((k + 1 : Nat) : Int))), (2, .int (stN (fun x_ => v ≤ sLt w x_) (k + 1))), (0, .ref (a 0)), (1, .int (jI v))]) G dX9_lit_46 rfl (by omega) (by decide) rfl ?_
        refine v_goto (tgt := 21) G dX9_lit_49 (by decide) ?_
        exact ih_6 (k + 1) (by omega) (by omega)
      · skip
        refine v_icmp_lt (a := sLt w (k : Int)) (b := v) (tgt := 43) G dX9_lit_34 (by decide) (by omega) (fun c_12 => ?_) (fun c_12 => ?_)
        · skip
          refine v_iconst G dX9_lit_43 ?_
          refine v_top (x := jI 0) (y := btI (v ≤ sLt w (k : Int)) (k : Int)) (btI_f (by omega)).symm ?_
          exact J_11
        · skip
          refine v_iconst G dX9_lit_37 ?_
          refine v_iload_n (j := 0) (x := jI (k : Int)) G dX9_lit_38 rfl rfl ?_
          refine v_ishl (v := (jI 1) <<< ((jI (k : Int)) &&& 31)) G dX9_lit_39 rfl ?_
          refine v_goto (tgt := 44) G dX9_lit_40 (by decide) ?_
          refine v_top (x := (jI 1) <<< ((jI (k : Int)) &&& 31)) (y := btI (v ≤ sLt w (k : Int)) (k : Int)) (btI_t (by omega)).symm ?_
          exact J_11
  · skip
    refine v_aload_n (j := 0) (x := a 0) G dX9_lit_11 rfl rfl ?_
    refine v_iconst G dX9_lit_12 ?_
    refine v_ciF G (rn_V (As := [.int (jI 0)]) (rest := []) (q0 := 0) G (c_X9_no (k := 0) (w := w) (kp := kp) (bf := bf) (ah := ah) (ik := ik) (fd := fd) (sp := sp) (lt := lt) (tp := tp) (tn := tn) (he := he) (ft := ft) (vl := vl) (bt := bt) (lg := lg) (ce := ce) (bw := bw) (a := a) (hk := (by omega))) gX9_lit_X9_no rfl hdX9_no ⟨rfl, rfl, Nat.le_of_ble_eq_true rfl, Nat.le_of_ble_eq_true rfl⟩ rfl rfl (Nat.le_of_ble_eq_true rfl) ⟨Nat.zero_le _, Nat.zero_le _⟩ rfl rfl dX9_lit_13) (fun r_13 u_15 e_14 => ?_)
    have e_14 : r_13 = jI ((-1000000001) - 0) := e_14
    subst e_14
    refine v_world (ws' := (wR cI cL a w kp bf ah ik (uI fd 0 (fd 0 + 1)) sp lt tp tn he ft vl bt lg ce bw)) rfl ?_
    exact v_iret G (uI fd 0 (fd 0 + 1)) (by first | exact Or.inl ⟨(by omega), (by first | rfl | exact congrArg jI (by omega)), rfl⟩ | exact Or.inr ⟨(by omega), (by first | rfl | exact congrArg jI (by omega)), rfl⟩) rfl dX9_lit_16

set_option maxHeartbeats 4000000 in
set_option maxRecDepth 100000 in
theorem c_X9_adds (k p g m f : Int) (hw : Wf w) (hn : w 1 < 10) : Cv l yX9_adds wsX9_adds { frames := 1, cells := 0, slots := 0, locals := 22 } D (jT cI cL cB cS) [.ref (a 0), .int (jI k), .int (jI p), .int (jI g), .int (jI m), .int (jI f)] (wR cI cL a w kp bf ah ik fd sp lt tp tn he ft vl bt lg ce bw) (S := Unit) (fun _ => (wR cI cL a (addBx w k p g m f) kp bf ah ik fd sp lt tp tn he ft vl bt lg ce bw)) (fun _ => True) := by
  refine Cv.mk (cc := cX9_adds) (maxL := 7) (by decide) rfl (Nat.le_of_ble_eq_true rfl) rfl ?_
  intro p_ e_ s_ m_ b_ me_ c_ A_ G hnm
  have hm := hw.many
  have k_X9 : ∀ w ∈ u_ws RX9 TX9 17, w ∈ wsX9_adds := fun _ h => List.mem_cons_of_mem _ (List.mem_append_right _ h)
  have q_1 : Cond.fieldLink RX9 9 "SupperLightModel" "s" "[I" ∈ wsX9_adds := List.mem_of_getElem? (i := 1) rfl
  refine v_aload_n (j := 0) (x := a 0) G dX9_adds_0 rfl rfl ?_
  refine v_aload_n (j := 0) (x := a 0) G dX9_adds_1 rfl rfl ?_
  refine v_get (q0 := 0) (k := 0) (v := .ref (a 1)) G k_X9 rfl rfl (by decide) q_1 rfl rfl dX9_adds_2 ?_
  refine v_iconst G dX9_adds_5 ?_
  refine v_iald (q0 := 1) (t0 := 0) (g := w) (z := 1) G rfl rfl (by omega) dX9_adds_6 ?_
  refine v_iconst G dX9_adds_7 ?_
  refine v_ciF G (rn_V (As := [.int (jI (w 1)), .int (jI 0)]) (rest := []) (q0 := 0) G (c_X9_at (b := w 1) (k := 0) (w := w) (kp := kp) (bf := bf) (ah := ah) (ik := ik) (fd := fd) (sp := sp) (lt := lt) (tp := tp) (tn := tn) (he := he) (ft := ft) (vl := vl) (bt := bt) (lg := lg) (ce := ce) (bw := bw) (a := a) ) gX9_adds_X9_at rfl hdX9_at ⟨rfl, rfl, Nat.le_of_ble_eq_true rfl, Nat.le_of_ble_eq_true rfl⟩ rfl rfl (Nat.le_of_ble_eq_true rfl) ⟨Nat.zero_le _, Nat.zero_le _⟩ rfl rfl dX9_adds_8) (fun r_1 u_3 e_2 => ?_)
  have e_2 : r_1 = jI (19 + 5 * (w 1) + 0) := e_2
  subst e_2
  refine v_world (ws' := (wR cI cL a w kp bf ah ik fd sp lt tp tn he ft vl bt lg ce bw)) rfl ?_
  refine v_istore (lv' := [(6, .int (jI (19 + 5 * (w 1) + 0))), (0, .ref (a 0)), (1, .int (jI k)), (2, .int (jI p)), (3, .int (jI g)), (4, .int (jI m)), (5, .int (jI f))]) G dX9_adds_11 (by decide) rfl ?_
  refine v_aload_n (j := 1) (x := a 0) G dX9_adds_13 rfl rfl ?_
  refine v_get (q0 := 0) (k := 0) (v := .ref (a 1)) G k_X9 rfl rfl (by decide) q_1 rfl rfl dX9_adds_14 ?_
  refine v_iload (j := 0) (x := jI (19 + 5 * (w 1) + 0)) G dX9_adds_17 rfl ?_
  refine v_iconst G dX9_adds_19 ?_
  refine v_iadd (z := (19 + 5 * (w 1) + 0) + 0) G dX9_adds_20 rfl ?_
  refine v_iload_n (j := 2) (x := jI k) G dX9_adds_21 rfl rfl ?_
  refine v_iast (q0 := 1) (t0 := 0) (g := w) (z := (19 + 5 * (w 1) + 0) + 0) (x := k) (ws' := (wR cI cL a (uI w ((19 + 5 * (w 1) + 0) + 0) k) kp bf ah ik fd sp lt tp tn he ft vl bt lg ce bw)) G rfl rfl (by omega) rfl dX9_adds_22 ?_
  refine v_cell (q0 := 1) (g := uI w ((19 + 5 * (w 1) + 0) + 0) k) (g' := uI w (19 + 5 * w 1 + 0) k) (ws' := (wR cI cL a (uI w (19 + 5 * w 1 + 0) k) kp bf ah ik fd sp lt tp tn he ft vl bt lg ce bw)) rfl (fun j _ _ => by rw [show 19 + 5 * w 1 + 0 + 0 = 19 + 5 * w 1 + 0 by omega]) rfl ?_
  refine v_aload_n (j := 1) (x := a 0) G dX9_adds_23 rfl rfl ?_
  refine v_get (q0 := 0) (k := 0) (v := .ref (a 1)) G k_X9 rfl rfl (by decide) q_1 rfl rfl dX9_adds_24 ?_
  refine v_iload (j := 0) (x := jI (19 + 5 * (w 1) + 0)) G dX9_adds_27 rfl ?_
  refine v_iconst G dX9_adds_29 ?_
  refine v_iadd (z := (19 + 5 * (w 1) + 0) + 1) G dX9_adds_30 rfl ?_
  refine v_iload_n (j := 3) (x := jI p) G dX9_adds_31 rfl rfl ?_
  refine v_iast (q0 := 1) (t0 := 0) (g := uI w (19 + 5 * w 1 + 0) k) (z := (19 + 5 * (w 1) + 0) + 1) (x := p) (ws' := (wR cI cL a (uI (uI w (19 + 5 * w 1 + 0) k) ((19 + 5 * (w 1) + 0) + 1) p) kp bf ah ik fd sp lt tp tn he ft vl bt lg ce bw)) G rfl rfl (by omega) rfl dX9_adds_32 ?_
  refine v_cell (q0 := 1) (g := uI (uI w (19 + 5 * w 1 + 0) k) ((19 + 5 * (w 1) + 0) + 1) p) (g' := uI (uI w (19 + 5 * w 1 + 0) k) (19 + 5 * w 1 + 1) p) (ws' := (wR cI cL a (uI (uI w (19 + 5 * w 1 + 0) k) (19 + 5 * w 1 + 1) p) kp bf ah ik fd sp lt tp tn he ft vl bt lg ce bw)) rfl (fun j _ _ => by rw [show 19 + 5 * w 1 + 0 + 1 = 19 + 5 * w 1 + 1 by omega]) rfl ?_
  refine v_aload_n (j := 1) (x := a 0) G dX9_adds_33 rfl rfl ?_
  refine v_get (q0 := 0) (k := 0) (v := .ref (a 1)) G k_X9 rfl rfl (by decide) q_1 rfl rfl dX9_adds_34 ?_
  refine v_iload (j := 0) (x := jI (19 + 5 * (w 1) + 0)) G dX9_adds_37 rfl ?_
  refine v_iconst G dX9_adds_39 ?_
  refine v_iadd (z := (19 + 5 * (w 1) + 0) + 2) G dX9_adds_40 rfl ?_
  refine v_iload_n (j := 4) (x := jI g) G dX9_adds_41 rfl rfl ?_
  refine v_iast (q0 := 1) (t0 := 0) (g := uI (uI w (19 + 5 * w 1 + 0) k) (19 + 5 * w 1 + 1) p) (z := (19 + 5 * (w 1) + 0) + 2) (x := g) (ws' := (wR cI cL a (uI (uI (uI w (19 + 5 * w 1 + 0) k) (19 + 5 * w 1 + 1) p) ((19 + 5 * (w 1) + 0) + 2) g) kp bf ah ik fd sp lt tp tn he ft vl bt lg ce bw)) G rfl rfl (by omega) rfl dX9_adds_42 ?_
  refine v_cell (q0 := 1) (g := uI (uI (uI w (19 + 5 * w 1 + 0) k) (19 + 5 * w 1 + 1) p) ((19 + 5 * (w 1) + 0) + 2) g) (g' := uI (uI (uI w (19 + 5 * w 1 + 0) k) (19 + 5 * w 1 + 1) p) (19 + 5 * w 1 + 2) g) (ws' := (wR cI cL a (uI (uI (uI w (19 + 5 * w 1 + 0) k) (19 + 5 * w 1 + 1) p) (19 + 5 * w 1 + 2) g) kp bf ah ik fd sp lt tp tn he ft vl bt lg ce bw)) rfl (fun j _ _ => by rw [show 19 + 5 * w 1 + 0 + 2 = 19 + 5 * w 1 + 2 by omega]) rfl ?_
  refine v_aload_n (j := 1) (x := a 0) G dX9_adds_43 rfl rfl ?_
  refine v_get (q0 := 0) (k := 0) (v := .ref (a 1)) G k_X9 rfl rfl (by decide) q_1 rfl rfl dX9_adds_44 ?_
  refine v_iload (j := 0) (x := jI (19 + 5 * (w 1) + 0)) G dX9_adds_47 rfl ?_
  refine v_iconst G dX9_adds_49 ?_
  refine v_iadd (z := (19 + 5 * (w 1) + 0) + 3) G dX9_adds_50 rfl ?_
  refine v_iload (j := 5) (x := jI m) G dX9_adds_51 rfl ?_
  refine v_iast (q0 := 1) (t0 := 0) (g := uI (uI (uI w (19 + 5 * w 1 + 0) k) (19 + 5 * w 1 + 1) p) (19 + 5 * w 1 + 2) g) (z := (19 + 5 * (w 1) + 0) + 3) (x := m) (ws' := (wR cI cL a (uI (uI (uI (uI w (19 + 5 * w 1 + 0) k) (19 + 5 * w 1 + 1) p) (19 + 5 * w 1 + 2) g) ((19 + 5 * (w 1) + 0) + 3) m) kp bf ah ik fd sp lt tp tn he ft vl bt lg ce bw)) G rfl rfl (by omega) rfl dX9_adds_53 ?_
  refine v_cell (q0 := 1) (g := uI (uI (uI (uI w (19 + 5 * w 1 + 0) k) (19 + 5 * w 1 + 1) p) (19 + 5 * w 1 + 2) g) ((19 + 5 * (w 1) + 0) + 3) m) (g' := uI (uI (uI (uI w (19 + 5 * w 1 + 0) k) (19 + 5 * w 1 + 1) p) (19 + 5 * w 1 + 2) g) (19 + 5 * w 1 + 3) m) (ws' := (wR cI cL a (uI (uI (uI (uI w (19 + 5 * w 1 + 0) k) (19 + 5 * w 1 + 1) p) (19 + 5 * w 1 + 2) g) (19 + 5 * w 1 + 3) m) kp bf ah ik fd sp lt tp tn he ft vl bt lg ce bw)) rfl (fun j _ _ => by rw [show 19 + 5 * w 1 + 0 + 3 = 19 + 5 * w 1 + 3 by omega]) rfl ?_
  refine v_aload_n (j := 1) (x := a 0) G dX9_adds_54 rfl rfl ?_
  refine v_get (q0 := 0) (k := 0) (v := .ref (a 1)) G k_X9 rfl rfl (by decide) q_1 rfl rfl dX9_adds_55 ?_
  refine v_iload (j := 0) (x := jI (19 + 5 * (w 1) + 0)) G dX9_adds_58 rfl ?_
  refine v_iconst G dX9_adds_60 ?_
  refine v_iadd (z := (19 + 5 * (w 1) + 0) + 4) G dX9_adds_61 rfl ?_
  refine v_iload (j := 6) (x := jI f) G dX9_adds_62 rfl ?_
  refine v_iast (q0 := 1) (t0 := 0) (g := uI (uI (uI (uI w (19 + 5 * w 1 + 0) k) (19 + 5 * w 1 + 1) p) (19 + 5 * w 1 + 2) g) (19 + 5 * w 1 + 3) m) (z := (19 + 5 * (w 1) + 0) + 4) (x := f) (ws' := (wR cI cL a (uI (uI (uI (uI (uI w (19 + 5 * w 1 + 0) k) (19 + 5 * w 1 + 1) p) (19 + 5 * w 1 + 2) g) (19 + 5 * w 1 + 3) m) ((19 + 5 * (w 1) + 0) + 4) f) kp bf ah ik fd sp lt tp tn he ft vl bt lg ce bw)) G rfl rfl (by omega) rfl dX9_adds_64 ?_
  refine v_cell (q0 := 1) (g := uI (uI (uI (uI (uI w (19 + 5 * w 1 + 0) k) (19 + 5 * w 1 + 1) p) (19 + 5 * w 1 + 2) g) (19 + 5 * w 1 + 3) m) ((19 + 5 * (w 1) + 0) + 4) f) (g' := uI (uI (uI (uI (uI w (19 + 5 * w 1 + 0) k) (19 + 5 * w 1 + 1) p) (19 + 5 * w 1 + 2) g) (19 + 5 * w 1 + 3) m) (19 + 5 * w 1 + 4) f) (ws' := (wR cI cL a (uI (uI (uI (uI (uI w (19 + 5 * w 1 + 0) k) (19 + 5 * w 1 + 1) p) (19 + 5 * w 1 + 2) g) (19 + 5 * w 1 + 3) m) (19 + 5 * w 1 + 4) f) kp bf ah ik fd sp lt tp tn he ft vl bt lg ce bw)) rfl (fun j _ _ => by rw [show 19 + 5 * w 1 + 0 + 4 = 19 + 5 * w 1 + 4 by omega]) rfl ?_
  refine v_aload_n (j := 1) (x := a 0) G dX9_adds_65 rfl rfl ?_
  refine v_get (q0 := 0) (k := 0) (v := .ref (a 1)) G k_X9 rfl rfl (by decide) q_1 rfl rfl dX9_adds_66 ?_
  refine v_iconst G dX9_adds_69 ?_
  refine v_dup2 G dX9_adds_70 rfl rfl ?_
  refine v_iald (q0 := 1) (t0 := 0) (g := uI (uI (uI (uI (uI w (19 + 5 * w 1 + 0) k) (19 + 5 * w 1 + 1) p) (19 + 5 * w 1 + 2) g) (19 + 5 * w 1 + 3) m) (19 + 5 * w 1 + 4) f) (z := 1) G rfl rfl (by omega) dX9_adds_71 ?_
  refine v_iconst G dX9_adds_72 ?_
  refine v_iadd (z := ((uI (uI (uI (uI (uI w (19 + 5 * w 1 + 0) k) (19 + 5 * w 1 + 1) p) (19 + 5 * w 1 + 2) g) (19 + 5 * w 1 + 3) m) (19 + 5 * w 1 + 4) f) 1) + 1) G dX9_adds_73 rfl ?_
  refine v_topj (x := ((uI (uI (uI (uI (uI w (19 + 5 * w 1 + 0) k) (19 + 5 * w 1 + 1) p) (19 + 5 * w 1 + 2) g) (19 + 5 * w 1 + 3) m) (19 + 5 * w 1 + 4) f) 1) + 1) (y := w 1 + 1) (by rw [uI_n _ _ (by omega), uI_n _ _ (by omega), uI_n _ _ (by omega), uI_n _ _ (by omega), uI_n _ _ (by omega)]) ?_
  refine v_iast (q0 := 1) (t0 := 0) (g := uI (uI (uI (uI (uI w (19 + 5 * w 1 + 0) k) (19 + 5 * w 1 + 1) p) (19 + 5 * w 1 + 2) g) (19 + 5 * w 1 + 3) m) (19 + 5 * w 1 + 4) f) (z := 1) (x := w 1 + 1) (ws' := (wR cI cL a (uI (uI (uI (uI (uI (uI w (19 + 5 * w 1 + 0) k) (19 + 5 * w 1 + 1) p) (19 + 5 * w 1 + 2) g) (19 + 5 * w 1 + 3) m) (19 + 5 * w 1 + 4) f) 1 (w 1 + 1)) kp bf ah ik fd sp lt tp tn he ft vl bt lg ce bw)) G rfl rfl (by omega) rfl dX9_adds_74 ?_
  refine v_world (ws' := (wR cI cL a (addBx w k p g m f) kp bf ah ik fd sp lt tp tn he ft vl bt lg ce bw)) rfl ?_
  exact v_vret G () trivial rfl dX9_adds_75

set_option maxHeartbeats 4000000 in
set_option maxRecDepth 100000 in
theorem c_X9_being (k p : Int) (hw : Wf w) (hr : (-2147483648 ≤ k ∧ k ≤ 2147483647) ∧ (-2147483648 ≤ p ∧ p ≤ 2147483647)) : Ci l yX9_being wsX9_being { frames := 2, cells := 0, slots := 0, locals := 48 } D (jT cI cL cB cS) [.ref (a 0), .int (jI k), .int (jI p)] (wR cI cL a w kp bf ah ik fd sp lt tp tn he ft vl bt lg ce bw) (S := (Int → Int) × (Int → Int)) (fun u => (wR cI cL a u.1 kp bf ah ik u.2 sp lt tp tn he ft vl bt lg ce bw)) (fun r u => ((¬ ((0 ≤ k ∧ k ≤ 5) ∧ (0 ≤ p ∧ p ≤ 15))) ∧ r = jI (-1000000001) ∧ u.1 = w ∧ u.2 = uI fd 0 (fd 0 + 1)) ∨ ((((0 ≤ k ∧ k ≤ 5) ∧ (0 ≤ p ∧ p ≤ 15)) ∧ w 1 = 10) ∧ r = jI (-1000000002) ∧ u.1 = w ∧ u.2 = uI fd 1 (fd 1 + 1)) ∨ ((((0 ≤ k ∧ k ≤ 5) ∧ (0 ≤ p ∧ p ≤ 15)) ∧ w 1 < 10) ∧ r = jI (w 1) ∧ u.1 = addBx w k p p 20 0 ∧ u.2 = fd)) := by
  refine Ci.mk (cc := cX9_being) (maxL := 3) (rt := .int) (by decide) rfl (Nat.le_of_ble_eq_true rfl) rfl ?_
  intro p_ e_ s_ m_ b_ me_ c_ A_ G hnm
  have hm := hw.many
  have k_X9 : ∀ w ∈ u_ws RX9 TX9 17, w ∈ wsX9_being := fun _ h => List.mem_cons_of_mem _ (List.mem_append_right _ h)
  have q_1 : Cond.fieldLink RX9 9 "SupperLightModel" "s" "[I" ∈ wsX9_being := List.mem_of_getElem? (i := 1) rfl
  refine v_iload_n (j := 1) (x := jI k) G dX9_being_0 rfl rfl ?_
  refine v_ciN G (rn_S (As := [.int (jI k)]) (rest := []) G (c_X9_isKind (k := k) (hr := (by omega))) gX9_being_X9_isKind rfl hdX9_isKind ⟨rfl, rfl, Nat.le_of_ble_eq_true rfl, Nat.le_of_ble_eq_true rfl⟩ rfl rfl (Nat.le_of_ble_eq_true rfl) ⟨Nat.zero_le _, Nat.zero_le _⟩ dX9_being_1) (fun r_1 u_3 e_2 => ?_)
  have e_2 : r_1 = jI (b2 (0 ≤ k ∧ k ≤ 5)) := e_2
  subst e_2
  refine v_ifb_eq (P := 0 ≤ k ∧ k ≤ 5) (tgt := 14) G dX9_being_4 (by decide) (fun c_4 => ?_) (fun c_4 => ?_)
  · skip
    refine v_aload_n (j := 0) (x := a 0) G dX9_being_14 rfl rfl ?_
    refine v_iconst G dX9_being_15 ?_
    refine v_ciF G (rn_V (As := [.int (jI 0)]) (rest := []) (q0 := 0) G (c_X9_no (k := 0) (w := w) (kp := kp) (bf := bf) (ah := ah) (ik := ik) (fd := fd) (sp := sp) (lt := lt) (tp := tp) (tn := tn) (he := he) (ft := ft) (vl := vl) (bt := bt) (lg := lg) (ce := ce) (bw := bw) (a := a) (hk := (by omega))) gX9_being_X9_no rfl hdX9_no ⟨rfl, rfl, Nat.le_of_ble_eq_true rfl, Nat.le_of_ble_eq_true rfl⟩ rfl rfl (Nat.le_of_ble_eq_true rfl) ⟨Nat.zero_le _, Nat.zero_le _⟩ rfl rfl dX9_being_16) (fun r_5 u_7 e_6 => ?_)
    have e_6 : r_5 = jI ((-1000000001) - 0) := e_6
    subst e_6
    refine v_world (ws' := (wR cI cL a w kp bf ah ik (uI fd 0 (fd 0 + 1)) sp lt tp tn he ft vl bt lg ce bw)) rfl ?_
    exact v_iret G (w, uI fd 0 (fd 0 + 1)) (by first | exact Or.inl ⟨(by omega), (by first | rfl | exact congrArg jI (by omega)), rfl, rfl⟩ | exact Or.inr (Or.inl ⟨(by omega), (by first | rfl | exact congrArg jI (by omega)), rfl, rfl⟩) | exact Or.inr (Or.inr ⟨(by omega), (by first | rfl | exact congrArg jI (by omega)), rfl, rfl⟩)) rfl dX9_being_19
  · skip
    refine v_iload_n (j := 2) (x := jI p) G dX9_being_7 rfl rfl ?_
    refine v_ciN G (rn_S (As := [.int (jI p)]) (rest := []) G (c_X9_isPlace (p := p) (hr := (by omega))) gX9_being_X9_isPlace rfl hdX9_isPlace ⟨rfl, rfl, Nat.le_of_ble_eq_true rfl, Nat.le_of_ble_eq_true rfl⟩ rfl rfl (Nat.le_of_ble_eq_true rfl) ⟨Nat.zero_le _, Nat.zero_le _⟩ dX9_being_8) (fun r_8 u_10 e_9 => ?_)
    have e_9 : r_8 = jI (b2 (0 ≤ p ∧ p ≤ 15)) := e_9
    subst e_9
    refine v_ifb_ne (P := 0 ≤ p ∧ p ≤ 15) (tgt := 20) G dX9_being_11 (by decide) (fun c_11 => ?_) (fun c_11 => ?_)
    · skip
      refine v_aload_n (j := 0) (x := a 0) G dX9_being_20 rfl rfl ?_
      refine v_get (q0 := 0) (k := 0) (v := .ref (a 1)) G k_X9 rfl rfl (by decide) q_1 rfl rfl dX9_being_21 ?_
      refine v_iconst G dX9_being_24 ?_
      refine v_iald (q0 := 1) (t0 := 0) (g := w) (z := 1) G rfl rfl (by omega) dX9_being_25 ?_
      refine v_bipush G dX9_being_26 (by decide) ?_
      refine v_icmp_ne (a := w 1) (b := 10) (tgt := 37) G dX9_being_28 (by decide) (by omega) (fun c_12 => ?_) (fun c_12 => ?_)
      · skip
        refine v_aload_n (j := 0) (x := a 0) G dX9_being_37 rfl rfl ?_
        refine v_iload_n (j := 1) (x := jI k) G dX9_being_38 rfl rfl ?_
        refine v_iload_n (j := 2) (x := jI p) G dX9_being_39 rfl rfl ?_
        refine v_iload_n (j := 2) (x := jI p) G dX9_being_40 rfl rfl ?_
        refine v_bipush G dX9_being_41 (by decide) ?_
        refine v_iconst G dX9_being_43 ?_
        refine v_cvF G (rn_V (As := [.int (jI k), .int (jI p), .int (jI p), .int (jI 20), .int (jI 0)]) (rest := []) (q0 := 0) G (c_X9_adds (k := k) (p := p) (g := p) (m := 20) (f := 0) (w := w) (kp := kp) (bf := bf) (ah := ah) (ik := ik) (fd := fd) (sp := sp) (lt := lt) (tp := tp) (tn := tn) (he := he) (ft := ft) (vl := vl) (bt := bt) (lg := lg) (ce := ce) (bw := bw) (a := a) (hw := hw) (hn := (by omega))) gX9_being_X9_adds rfl hdX9_adds ⟨rfl, rfl, Nat.le_of_ble_eq_true rfl, Nat.le_of_ble_eq_true rfl⟩ rfl rfl (Nat.le_of_ble_eq_true rfl) ⟨Nat.zero_le _, Nat.zero_le _⟩ rfl rfl dX9_being_44) (fun u_15 e_14 => ?_)
        refine v_world (ws' := (wR cI cL a (addBx w k p p 20 0) kp bf ah ik fd sp lt tp tn he ft vl bt lg ce bw)) rfl ?_
        refine v_aload_n (j := 0) (x := a 0) G dX9_being_47 rfl rfl ?_
        refine v_get (q0 := 0) (k := 0) (v := .ref (a 1)) G k_X9 rfl rfl (by decide) q_1 rfl rfl dX9_being_48 ?_
        refine v_iconst G dX9_being_51 ?_
        refine v_iald (q0 := 1) (t0 := 0) (g := addBx w k p p 20 0) (z := 1) G rfl rfl (by omega) dX9_being_52 ?_
        refine v_iconst G dX9_being_53 ?_
        refine v_isub (z := ((addBx w k p p 20 0) 1) - 1) G dX9_being_54 rfl ?_
        refine v_topj (x := ((addBx w k p p 20 0) 1) - 1) (y := w 1) (by have e : addBx w k p p 20 0 1 = w 1 + 1 := uI_s _ _ _; rw [e]; omega) ?_
        exact v_iret G (addBx w k p p 20 0, fd) (by first | exact Or.inl ⟨(by omega), (by first | rfl | exact congrArg jI (by omega)), rfl, rfl⟩ | exact Or.inr (Or.inl ⟨(by omega), (by first | rfl | exact congrArg jI (by omega)), rfl, rfl⟩) | exact Or.inr (Or.inr ⟨(by omega), (by first | rfl | exact congrArg jI (by omega)), rfl, rfl⟩)) rfl dX9_being_55
      · skip
        refine v_aload_n (j := 0) (x := a 0) G dX9_being_31 rfl rfl ?_
        refine v_iconst G dX9_being_32 ?_
        refine v_ciF G (rn_V (As := [.int (jI 1)]) (rest := []) (q0 := 0) G (c_X9_no (k := 1) (w := w) (kp := kp) (bf := bf) (ah := ah) (ik := ik) (fd := fd) (sp := sp) (lt := lt) (tp := tp) (tn := tn) (he := he) (ft := ft) (vl := vl) (bt := bt) (lg := lg) (ce := ce) (bw := bw) (a := a) (hk := (by omega))) gX9_being_X9_no rfl hdX9_no ⟨rfl, rfl, Nat.le_of_ble_eq_true rfl, Nat.le_of_ble_eq_true rfl⟩ rfl rfl (Nat.le_of_ble_eq_true rfl) ⟨Nat.zero_le _, Nat.zero_le _⟩ rfl rfl dX9_being_33) (fun r_16 u_18 e_17 => ?_)
        have e_17 : r_16 = jI ((-1000000001) - 1) := e_17
        subst e_17
        refine v_world (ws' := (wR cI cL a w kp bf ah ik (uI fd 1 (fd 1 + 1)) sp lt tp tn he ft vl bt lg ce bw)) rfl ?_
        exact v_iret G (w, uI fd 1 (fd 1 + 1)) (by first | exact Or.inl ⟨(by omega), (by first | rfl | exact congrArg jI (by omega)), rfl, rfl⟩ | exact Or.inr (Or.inl ⟨(by omega), (by first | rfl | exact congrArg jI (by omega)), rfl, rfl⟩) | exact Or.inr (Or.inr ⟨(by omega), (by first | rfl | exact congrArg jI (by omega)), rfl, rfl⟩)) rfl dX9_being_36
    · skip
      refine v_aload_n (j := 0) (x := a 0) G dX9_being_14 rfl rfl ?_
      refine v_iconst G dX9_being_15 ?_
      refine v_ciF G (rn_V (As := [.int (jI 0)]) (rest := []) (q0 := 0) G (c_X9_no (k := 0) (w := w) (kp := kp) (bf := bf) (ah := ah) (ik := ik) (fd := fd) (sp := sp) (lt := lt) (tp := tp) (tn := tn) (he := he) (ft := ft) (vl := vl) (bt := bt) (lg := lg) (ce := ce) (bw := bw) (a := a) (hk := (by omega))) gX9_being_X9_no rfl hdX9_no ⟨rfl, rfl, Nat.le_of_ble_eq_true rfl, Nat.le_of_ble_eq_true rfl⟩ rfl rfl (Nat.le_of_ble_eq_true rfl) ⟨Nat.zero_le _, Nat.zero_le _⟩ rfl rfl dX9_being_16) (fun r_19 u_21 e_20 => ?_)
      have e_20 : r_19 = jI ((-1000000001) - 0) := e_20
      subst e_20
      refine v_world (ws' := (wR cI cL a w kp bf ah ik (uI fd 0 (fd 0 + 1)) sp lt tp tn he ft vl bt lg ce bw)) rfl ?_
      exact v_iret G (w, uI fd 0 (fd 0 + 1)) (by first | exact Or.inl ⟨(by omega), (by first | rfl | exact congrArg jI (by omega)), rfl, rfl⟩ | exact Or.inr (Or.inl ⟨(by omega), (by first | rfl | exact congrArg jI (by omega)), rfl, rfl⟩) | exact Or.inr (Or.inr ⟨(by omega), (by first | rfl | exact congrArg jI (by omega)), rfl, rfl⟩)) rfl dX9_being_19

set_option maxHeartbeats 4000000 in
set_option maxRecDepth 100000 in
theorem c_X9_of (b t : Int) (hw : Wf w) (hr : (-2147483648 ≤ b ∧ b ≤ 2147483647) ∧ (-2147483648 ≤ t ∧ t ≤ 2147483647)) : Ci l yX9_of wsX9_of { frames := 3, cells := 0, slots := 0, locals := 68 } D (jT cI cL cB cS) [.ref (a 0), .int (jI b), .int (jI t)] (wR cI cL a w kp bf ah ik fd sp lt tp tn he ft vl bt lg ce bw) (S := (Int → Int)) (fun fd2 => (wR cI cL a w kp bf ah ik fd2 sp lt tp tn he ft vl bt lg ce bw)) (fun r fd2 => ((¬ ((0 ≤ b ∧ b ≤ w 1 - 1) ∧ 0 ≤ t ∧ t ≤ 6)) ∧ r = jI (-1000000001) ∧ fd2 = uI fd 0 (fd 0 + 1)) ∨ ((((0 ≤ b ∧ b ≤ w 1 - 1) ∧ 0 ≤ t ∧ t ≤ 6) ∧ t = 5) ∧ r = jI (sSh w b) ∧ fd2 = fd) ∨ ((((0 ≤ b ∧ b ≤ w 1 - 1) ∧ 0 ≤ t ∧ t ≤ 6) ∧ t = 6) ∧ r = jI (apt (fB w b 1) (fB w b 2)) ∧ fd2 = fd) ∨ ((((0 ≤ b ∧ b ≤ w 1 - 1) ∧ 0 ≤ t ∧ t ≤ 6) ∧ t < 5) ∧ r = jI (fB w b t) ∧ fd2 = fd)) := by
  refine Ci.mk (cc := cX9_of) (maxL := 3) (rt := .int) (by decide) rfl (Nat.le_of_ble_eq_true rfl) rfl ?_
  intro p_ e_ s_ m_ b_ me_ c_ A_ G hnm
  have hm := hw.many
  refine v_aload_n (j := 0) (x := a 0) G dX9_of_0 rfl rfl ?_
  refine v_iload_n (j := 1) (x := jI b) G dX9_of_1 rfl rfl ?_
  refine v_ciF G (rn_V (As := [.int (jI b)]) (rest := []) (q0 := 0) G (c_X9_isBeing (b := b) (w := w) (kp := kp) (bf := bf) (ah := ah) (ik := ik) (fd := fd) (sp := sp) (lt := lt) (tp := tp) (tn := tn) (he := he) (ft := ft) (vl := vl) (bt := bt) (lg := lg) (ce := ce) (bw := bw) (a := a) (hw := hw) (hr := (by omega))) gX9_of_X9_isBeing rfl hdX9_isBeing ⟨rfl, rfl, Nat.le_of_ble_eq_true rfl, Nat.le_of_ble_eq_true rfl⟩ rfl rfl (Nat.le_of_ble_eq_true rfl) ⟨Nat.zero_le _, Nat.zero_le _⟩ rfl rfl dX9_of_2) (fun r_1 u_3 e_2 => ?_)
  have e_2 : r_1 = jI (b2 (0 ≤ b ∧ b ≤ w 1 - 1)) := e_2
  subst e_2
  refine v_world (ws' := (wR cI cL a w kp bf ah ik fd sp lt tp tn he ft vl bt lg ce bw)) rfl ?_
  refine v_ifb_eq (P := 0 ≤ b ∧ b ≤ w 1 - 1) (tgt := 18) G dX9_of_5 (by decide) (fun c_4 => ?_) (fun c_4 => ?_)
  · skip
    refine v_aload_n (j := 0) (x := a 0) G dX9_of_18 rfl rfl ?_
    refine v_iconst G dX9_of_19 ?_
    refine v_ciF G (rn_V (As := [.int (jI 0)]) (rest := []) (q0 := 0) G (c_X9_no (k := 0) (w := w) (kp := kp) (bf := bf) (ah := ah) (ik := ik) (fd := fd) (sp := sp) (lt := lt) (tp := tp) (tn := tn) (he := he) (ft := ft) (vl := vl) (bt := bt) (lg := lg) (ce := ce) (bw := bw) (a := a) (hk := (by omega))) gX9_of_X9_no rfl hdX9_no ⟨rfl, rfl, Nat.le_of_ble_eq_true rfl, Nat.le_of_ble_eq_true rfl⟩ rfl rfl (Nat.le_of_ble_eq_true rfl) ⟨Nat.zero_le _, Nat.zero_le _⟩ rfl rfl dX9_of_20) (fun r_5 u_7 e_6 => ?_)
    have e_6 : r_5 = jI ((-1000000001) - 0) := e_6
    subst e_6
    refine v_world (ws' := (wR cI cL a w kp bf ah ik (uI fd 0 (fd 0 + 1)) sp lt tp tn he ft vl bt lg ce bw)) rfl ?_
    exact v_iret G (uI fd 0 (fd 0 + 1)) (by first | exact Or.inl ⟨(by omega), (by first | rfl | exact congrArg jI (by omega)), rfl⟩ | exact Or.inr (Or.inl ⟨(by omega), (by first | rfl | exact congrArg jI (by omega)), rfl⟩) | exact Or.inr (Or.inr (Or.inl ⟨(by omega), (by first | rfl | exact congrArg jI (by omega)), rfl⟩)) | exact Or.inr (Or.inr (Or.inr ⟨(by omega), (by first | rfl | exact congrArg jI (by omega)), rfl⟩))) rfl dX9_of_23
  · skip
    refine v_iload_n (j := 2) (x := jI t) G dX9_of_8 rfl rfl ?_
    refine v_iconst G dX9_of_9 ?_
    refine v_bipush G dX9_of_10 (by decide) ?_
    refine v_ciN G (rn_S (As := [.int (jI t), .int (jI 0), .int (jI 6)]) (rest := []) G (c_X9_in (v := t) (lo := 0) (hi := 6) (hr := (by omega))) gX9_of_X9_in rfl hdX9_in ⟨rfl, rfl, Nat.le_of_ble_eq_true rfl, Nat.le_of_ble_eq_true rfl⟩ rfl rfl (Nat.le_of_ble_eq_true rfl) ⟨Nat.zero_le _, Nat.zero_le _⟩ dX9_of_12) (fun r_8 u_10 e_9 => ?_)
    have e_9 : r_8 = jI (b2 (0 ≤ t ∧ t ≤ 6)) := e_9
    subst e_9
    refine v_ifb_ne (P := 0 ≤ t ∧ t ≤ 6) (tgt := 24) G dX9_of_15 (by decide) (fun c_11 => ?_) (fun c_11 => ?_)
    · skip
      have hk := hw.being (b := b) (by omega) (by omega)
      refine v_iload_n (j := 2) (x := jI t) G dX9_of_24 rfl rfl ?_
      refine v_iconst G dX9_of_25 ?_
      refine v_icmp_ne (a := t) (b := 5) (tgt := 37) G dX9_of_26 (by decide) (by omega) (fun c_12 => ?_) (fun c_12 => ?_)
      · skip
        refine v_iload_n (j := 2) (x := jI t) G dX9_of_37 rfl rfl ?_
        refine v_bipush G dX9_of_38 (by decide) ?_
        refine v_icmp_ne (a := t) (b := 6) (tgt := 61) G dX9_of_40 (by decide) (by omega) (fun c_13 => ?_) (fun c_13 => ?_)
        · skip
          refine v_aload_n (j := 0) (x := a 0) G dX9_of_61 rfl rfl ?_
          refine v_iload_n (j := 1) (x := jI b) G dX9_of_62 rfl rfl ?_
          refine v_iload_n (j := 2) (x := jI t) G dX9_of_63 rfl rfl ?_
          refine v_ciF G (rn_V (As := [.int (jI b), .int (jI t)]) (rest := []) (q0 := 0) G (c_X9_is (b := b) (k := t) (w := w) (kp := kp) (bf := bf) (ah := ah) (ik := ik) (fd := fd) (sp := sp) (lt := lt) (tp := tp) (tn := tn) (he := he) (ft := ft) (vl := vl) (bt := bt) (lg := lg) (ce := ce) (bw := bw) (a := a) (hb := (by omega))) gX9_of_X9_is rfl hdX9_is ⟨rfl, rfl, Nat.le_of_ble_eq_true rfl, Nat.le_of_ble_eq_true rfl⟩ rfl rfl (Nat.le_of_ble_eq_true rfl) ⟨Nat.zero_le _, Nat.zero_le _⟩ rfl rfl dX9_of_64) (fun r_14 u_16 e_15 => ?_)
          have e_15 : r_14 = jI (fB w b t) := e_15
          subst e_15
          refine v_world (ws' := (wR cI cL a w kp bf ah ik fd sp lt tp tn he ft vl bt lg ce bw)) rfl ?_
          exact v_iret G (fd) (by first | exact Or.inl ⟨(by omega), (by first | rfl | exact congrArg jI (by omega)), rfl⟩ | exact Or.inr (Or.inl ⟨(by omega), (by first | rfl | exact congrArg jI (by omega)), rfl⟩) | exact Or.inr (Or.inr (Or.inl ⟨(by omega), (by first | rfl | exact congrArg jI (by omega)), rfl⟩)) | exact Or.inr (Or.inr (Or.inr ⟨(by omega), (by first | rfl | exact congrArg jI (by omega)), rfl⟩))) rfl dX9_of_67
        · skip
          refine v_aload_n (j := 0) (x := a 0) G dX9_of_43 rfl rfl ?_
          refine v_iload_n (j := 1) (x := jI b) G dX9_of_44 rfl rfl ?_
          refine v_iconst G dX9_of_45 ?_
          refine v_ciF G (rn_V (As := [.int (jI b), .int (jI 1)]) (rest := []) (q0 := 0) G (c_X9_is (b := b) (k := 1) (w := w) (kp := kp) (bf := bf) (ah := ah) (ik := ik) (fd := fd) (sp := sp) (lt := lt) (tp := tp) (tn := tn) (he := he) (ft := ft) (vl := vl) (bt := bt) (lg := lg) (ce := ce) (bw := bw) (a := a) (hb := (by omega))) gX9_of_X9_is rfl hdX9_is ⟨rfl, rfl, Nat.le_of_ble_eq_true rfl, Nat.le_of_ble_eq_true rfl⟩ rfl rfl (Nat.le_of_ble_eq_true rfl) ⟨Nat.zero_le _, Nat.zero_le _⟩ rfl rfl dX9_of_46) (fun r_17 u_19 e_18 => ?_)
          have e_18 : r_17 = jI (fB w b 1) := e_18
          subst e_18
          refine v_world (ws' := (wR cI cL a w kp bf ah ik fd sp lt tp tn he ft vl bt lg ce bw)) rfl ?_
          refine v_aload_n (j := 0) (x := a 0) G dX9_of_49 rfl rfl ?_
          refine v_iload_n (j := 1) (x := jI b) G dX9_of_50 rfl rfl ?_
          refine v_iconst G dX9_of_51 ?_
          refine v_ciF G (rn_V (As := [.int (jI b), .int (jI 2)]) (rest := [.int (jI (fB w b 1))]) (q0 := 0) G (c_X9_is (b := b) (k := 2) (w := w) (kp := kp) (bf := bf) (ah := ah) (ik := ik) (fd := fd) (sp := sp) (lt := lt) (tp := tp) (tn := tn) (he := he) (ft := ft) (vl := vl) (bt := bt) (lg := lg) (ce := ce) (bw := bw) (a := a) (hb := (by omega))) gX9_of_X9_is rfl hdX9_is ⟨rfl, rfl, Nat.le_of_ble_eq_true rfl, Nat.le_of_ble_eq_true rfl⟩ rfl rfl (Nat.le_of_ble_eq_true rfl) ⟨Nat.zero_le _, Nat.zero_le _⟩ rfl rfl dX9_of_52) (fun r_20 u_22 e_21 => ?_)
          have e_21 : r_20 = jI (fB w b 2) := e_21
          subst e_21
          refine v_world (ws' := (wR cI cL a w kp bf ah ik fd sp lt tp tn he ft vl bt lg ce bw)) rfl ?_
          refine v_ciN G (rn_S (As := [.int (jI (fB w b 1)), .int (jI (fB w b 2))]) (rest := []) G (c_X9_apart (x := fB w b 1) (y := fB w b 2) (hx := (by omega))) gX9_of_X9_apart rfl hdX9_apart ⟨rfl, rfl, Nat.le_of_ble_eq_true rfl, Nat.le_of_ble_eq_true rfl⟩ rfl rfl (Nat.le_of_ble_eq_true rfl) ⟨Nat.zero_le _, Nat.zero_le _⟩ dX9_of_55) (fun r_23 u_25 e_24 => ?_)
          have e_24 : r_23 = jI (apt (fB w b 1) (fB w b 2)) := e_24
          subst e_24
          refine v_goto (tgt := 67) G dX9_of_58 (by decide) ?_
          exact v_iret G (fd) (by first | exact Or.inl ⟨(by omega), (by first | rfl | exact congrArg jI (by omega)), rfl⟩ | exact Or.inr (Or.inl ⟨(by omega), (by first | rfl | exact congrArg jI (by omega)), rfl⟩) | exact Or.inr (Or.inr (Or.inl ⟨(by omega), (by first | rfl | exact congrArg jI (by omega)), rfl⟩)) | exact Or.inr (Or.inr (Or.inr ⟨(by omega), (by first | rfl | exact congrArg jI (by omega)), rfl⟩))) rfl dX9_of_67
      · skip
        refine v_aload_n (j := 0) (x := a 0) G dX9_of_29 rfl rfl ?_
        refine v_iload_n (j := 1) (x := jI b) G dX9_of_30 rfl rfl ?_
        refine v_ciF G (rn_V (As := [.int (jI b)]) (rest := []) (q0 := 0) G (c_X9_shines (b := b) (w := w) (kp := kp) (bf := bf) (ah := ah) (ik := ik) (fd := fd) (sp := sp) (lt := lt) (tp := tp) (tn := tn) (he := he) (ft := ft) (vl := vl) (bt := bt) (lg := lg) (ce := ce) (bw := bw) (a := a) (hw := hw) (hb := (by omega))) gX9_of_X9_shines rfl hdX9_shines ⟨rfl, rfl, Nat.le_of_ble_eq_true rfl, Nat.le_of_ble_eq_true rfl⟩ rfl rfl (Nat.le_of_ble_eq_true rfl) ⟨Nat.zero_le _, Nat.zero_le _⟩ rfl rfl dX9_of_31) (fun r_26 u_28 e_27 => ?_)
        have e_27 : r_26 = jI (sSh w b) := e_27
        subst e_27
        refine v_world (ws' := (wR cI cL a w kp bf ah ik fd sp lt tp tn he ft vl bt lg ce bw)) rfl ?_
        refine v_goto (tgt := 67) G dX9_of_34 (by decide) ?_
        exact v_iret G (fd) (by first | exact Or.inl ⟨(by omega), (by first | rfl | exact congrArg jI (by omega)), rfl⟩ | exact Or.inr (Or.inl ⟨(by omega), (by first | rfl | exact congrArg jI (by omega)), rfl⟩) | exact Or.inr (Or.inr (Or.inl ⟨(by omega), (by first | rfl | exact congrArg jI (by omega)), rfl⟩)) | exact Or.inr (Or.inr (Or.inr ⟨(by omega), (by first | rfl | exact congrArg jI (by omega)), rfl⟩))) rfl dX9_of_67
    · skip
      refine v_aload_n (j := 0) (x := a 0) G dX9_of_18 rfl rfl ?_
      refine v_iconst G dX9_of_19 ?_
      refine v_ciF G (rn_V (As := [.int (jI 0)]) (rest := []) (q0 := 0) G (c_X9_no (k := 0) (w := w) (kp := kp) (bf := bf) (ah := ah) (ik := ik) (fd := fd) (sp := sp) (lt := lt) (tp := tp) (tn := tn) (he := he) (ft := ft) (vl := vl) (bt := bt) (lg := lg) (ce := ce) (bw := bw) (a := a) (hk := (by omega))) gX9_of_X9_no rfl hdX9_no ⟨rfl, rfl, Nat.le_of_ble_eq_true rfl, Nat.le_of_ble_eq_true rfl⟩ rfl rfl (Nat.le_of_ble_eq_true rfl) ⟨Nat.zero_le _, Nat.zero_le _⟩ rfl rfl dX9_of_20) (fun r_29 u_31 e_30 => ?_)
      have e_30 : r_29 = jI ((-1000000001) - 0) := e_30
      subst e_30
      refine v_world (ws' := (wR cI cL a w kp bf ah ik (uI fd 0 (fd 0 + 1)) sp lt tp tn he ft vl bt lg ce bw)) rfl ?_
      exact v_iret G (uI fd 0 (fd 0 + 1)) (by first | exact Or.inl ⟨(by omega), (by first | rfl | exact congrArg jI (by omega)), rfl⟩ | exact Or.inr (Or.inl ⟨(by omega), (by first | rfl | exact congrArg jI (by omega)), rfl⟩) | exact Or.inr (Or.inr (Or.inl ⟨(by omega), (by first | rfl | exact congrArg jI (by omega)), rfl⟩)) | exact Or.inr (Or.inr (Or.inr ⟨(by omega), (by first | rfl | exact congrArg jI (by omega)), rfl⟩))) rfl dX9_of_23

set_option maxHeartbeats 4000000 in
set_option maxRecDepth 100000 in
theorem c_X9_may (t v : Int) (hr : (-2147483648 ≤ t ∧ t ≤ 2147483647) ∧ (-2147483648 ≤ v ∧ v ≤ 2147483647)) : Ci l yX9_may wsX9_may { frames := 2, cells := 0, slots := 0, locals := 42 } D (jT cI cL cB cS) [.int (jI t), .int (jI v)] [] (S := Unit) (fun _ => []) (fun r _ => r = jI (b2 (((t = 1 ∨ t = 2) ∧ 0 ≤ v ∧ v ≤ 15) ∨ (t = 3 ∧ 0 ≤ v ∧ v ≤ 99) ∨ (t = 4 ∧ 0 ≤ v ∧ v ≤ 999)))) := by
  refine Ci.mk (cc := cX9_may) (maxL := 2) (rt := .boolean) (by decide) rfl (Nat.le_of_ble_eq_true rfl) rfl ?_
  intro p_ e_ s_ m_ b_ me_ c_ A_ G hnm
  refine v_iload_n (j := 0) (x := jI t) G dX9_may_0 rfl rfl ?_
  rcases (show t = 1 ∨ t = 2 ∨ t = 3 ∨ t = 4 ∨ (t < 1 ∨ 4 < t) by omega) with c_1 | c_1 | c_1 | c_1 | c_1
  · skip
    refine v_tabIn (z := t) (v := 1) (tgt := 32) G c_1 (by decide) rfl (by decide) dX9_may_1 ?_
    refine v_iload_n (j := 1) (x := jI v) G dX9_may_32 rfl rfl ?_
    refine v_ciF G (rn_S (As := [.int (jI v)]) (rest := []) G (c_X9_isPlace (p := v) (hr := (by omega))) gX9_may_X9_isPlace rfl hdX9_isPlace ⟨rfl, rfl, Nat.le_of_ble_eq_true rfl, Nat.le_of_ble_eq_true rfl⟩ rfl rfl (Nat.le_of_ble_eq_true rfl) ⟨Nat.zero_le _, Nat.zero_le _⟩ dX9_may_33) (fun r_2 u_4 e_3 => ?_)
    have e_3 : r_2 = jI (b2 (0 ≤ v ∧ v ≤ 15)) := e_3
    subst e_3
    exact v_zret G () (nb_b2 _) (show jI (b2 (0 ≤ v ∧ v ≤ 15)) = jI (b2 (((t = 1 ∨ t = 2) ∧ 0 ≤ v ∧ v ≤ 15) ∨ (t = 3 ∧ 0 ≤ v ∧ v ≤ 99) ∨ (t = 4 ∧ 0 ≤ v ∧ v ≤ 999))) from congrArg jI (b2_c (by omega))) rfl dX9_may_36
  · skip
    refine v_tabIn (z := t) (v := 2) (tgt := 32) G c_1 (by decide) rfl (by decide) dX9_may_1 ?_
    refine v_iload_n (j := 1) (x := jI v) G dX9_may_32 rfl rfl ?_
    refine v_ciF G (rn_S (As := [.int (jI v)]) (rest := []) G (c_X9_isPlace (p := v) (hr := (by omega))) gX9_may_X9_isPlace rfl hdX9_isPlace ⟨rfl, rfl, Nat.le_of_ble_eq_true rfl, Nat.le_of_ble_eq_true rfl⟩ rfl rfl (Nat.le_of_ble_eq_true rfl) ⟨Nat.zero_le _, Nat.zero_le _⟩ dX9_may_33) (fun r_5 u_7 e_6 => ?_)
    have e_6 : r_5 = jI (b2 (0 ≤ v ∧ v ≤ 15)) := e_6
    subst e_6
    exact v_zret G () (nb_b2 _) (show jI (b2 (0 ≤ v ∧ v ≤ 15)) = jI (b2 (((t = 1 ∨ t = 2) ∧ 0 ≤ v ∧ v ≤ 15) ∨ (t = 3 ∧ 0 ≤ v ∧ v ≤ 99) ∨ (t = 4 ∧ 0 ≤ v ∧ v ≤ 999))) from congrArg jI (b2_c (by omega))) rfl dX9_may_36
  · skip
    refine v_tabIn (z := t) (v := 3) (tgt := 37) G c_1 (by decide) rfl (by decide) dX9_may_1 ?_
    refine v_iload_n (j := 1) (x := jI v) G dX9_may_37 rfl rfl ?_
    refine v_iconst G dX9_may_38 ?_
    refine v_bipush G dX9_may_39 (by decide) ?_
    refine v_ciF G (rn_S (As := [.int (jI v), .int (jI 0), .int (jI 99)]) (rest := []) G (c_X9_in (v := v) (lo := 0) (hi := 99) (hr := (by omega))) gX9_may_X9_in rfl hdX9_in ⟨rfl, rfl, Nat.le_of_ble_eq_true rfl, Nat.le_of_ble_eq_true rfl⟩ rfl rfl (Nat.le_of_ble_eq_true rfl) ⟨Nat.zero_le _, Nat.zero_le _⟩ dX9_may_41) (fun r_8 u_10 e_9 => ?_)
    have e_9 : r_8 = jI (b2 (0 ≤ v ∧ v ≤ 99)) := e_9
    subst e_9
    exact v_zret G () (nb_b2 _) (show jI (b2 (0 ≤ v ∧ v ≤ 99)) = jI (b2 (((t = 1 ∨ t = 2) ∧ 0 ≤ v ∧ v ≤ 15) ∨ (t = 3 ∧ 0 ≤ v ∧ v ≤ 99) ∨ (t = 4 ∧ 0 ≤ v ∧ v ≤ 999))) from congrArg jI (b2_c (by omega))) rfl dX9_may_44
  · skip
    refine v_tabIn (z := t) (v := 4) (tgt := 45) G c_1 (by decide) rfl (by decide) dX9_may_1 ?_
    refine v_iload_n (j := 1) (x := jI v) G dX9_may_45 rfl rfl ?_
    refine v_iconst G dX9_may_46 ?_
    refine v_sipush G dX9_may_47 (by decide) ?_
    refine v_ciF G (rn_S (As := [.int (jI v), .int (jI 0), .int (jI 999)]) (rest := []) G (c_X9_in (v := v) (lo := 0) (hi := 999) (hr := (by omega))) gX9_may_X9_in rfl hdX9_in ⟨rfl, rfl, Nat.le_of_ble_eq_true rfl, Nat.le_of_ble_eq_true rfl⟩ rfl rfl (Nat.le_of_ble_eq_true rfl) ⟨Nat.zero_le _, Nat.zero_le _⟩ dX9_may_50) (fun r_11 u_13 e_12 => ?_)
    have e_12 : r_11 = jI (b2 (0 ≤ v ∧ v ≤ 999)) := e_12
    subst e_12
    exact v_zret G () (nb_b2 _) (show jI (b2 (0 ≤ v ∧ v ≤ 999)) = jI (b2 (((t = 1 ∨ t = 2) ∧ 0 ≤ v ∧ v ≤ 15) ∨ (t = 3 ∧ 0 ≤ v ∧ v ≤ 99) ∨ (t = 4 ∧ 0 ≤ v ∧ v ≤ 999))) from congrArg jI (b2_c (by omega))) rfl dX9_may_53
  · skip
    refine v_tabOut (z := t) (tgt := 54) G c_1 (by omega) (by decide) dX9_may_1 ?_
    refine v_iconst G dX9_may_54 ?_
    exact v_zret G () nb_0 (show jI 0 = jI (b2 (((t = 1 ∨ t = 2) ∧ 0 ≤ v ∧ v ≤ 15) ∨ (t = 3 ∧ 0 ≤ v ∧ v ≤ 99) ∨ (t = 4 ∧ 0 ≤ v ∧ v ≤ 999))) from congrArg jI (b2_f (P := ((t = 1 ∨ t = 2) ∧ 0 ≤ v ∧ v ≤ 15) ∨ (t = 3 ∧ 0 ≤ v ∧ v ≤ 99) ∨ (t = 4 ∧ 0 ≤ v ∧ v ≤ 999)) (by omega)).symm) rfl dX9_may_55

set_option maxHeartbeats 4000000 in
set_option maxRecDepth 100000 in
theorem c_X9_set (b t v : Int) (hw : Wf w) (hr : (-2147483648 ≤ b ∧ b ≤ 2147483647) ∧ (-2147483648 ≤ t ∧ t ≤ 2147483647) ∧ (-2147483648 ≤ v ∧ v ≤ 2147483647)) : Ci l yX9_set wsX9_set { frames := 3, cells := 0, slots := 0, locals := 63 } D (jT cI cL cB cS) [.ref (a 0), .int (jI b), .int (jI t), .int (jI v)] (wR cI cL a w kp bf ah ik fd sp lt tp tn he ft vl bt lg ce bw) (S := (Int → Int) × (Int → Int)) (fun u => (wR cI cL a u.1 kp bf ah ik u.2 sp lt tp tn he ft vl bt lg ce bw)) (fun r u => ((((0 ≤ b ∧ b ≤ w 1 - 1) ∧ (((t = 1 ∨ t = 2) ∧ 0 ≤ v ∧ v ≤ 15) ∨ (t = 3 ∧ 0 ≤ v ∧ v ≤ 99) ∨ (t = 4 ∧ 0 ≤ v ∧ v ≤ 999)))) ∧ r = jI (fB w b t) ∧ u.1 = uI w (19 + 5 * b + t) v ∧ u.2 = fd) ∨ ((¬ ((0 ≤ b ∧ b ≤ w 1 - 1) ∧ (((t = 1 ∨ t = 2) ∧ 0 ≤ v ∧ v ≤ 15) ∨ (t = 3 ∧ 0 ≤ v ∧ v ≤ 99) ∨ (t = 4 ∧ 0 ≤ v ∧ v ≤ 999)))) ∧ r = jI (-1000000001) ∧ u.1 = w ∧ u.2 = uI fd 0 (fd 0 + 1))) := by
  refine Ci.mk (cc := cX9_set) (maxL := 4) (rt := .int) (by decide) rfl (Nat.le_of_ble_eq_true rfl) rfl ?_
  intro p_ e_ s_ m_ b_ me_ c_ A_ G hnm
  have hm := hw.many
  refine v_aload_n (j := 0) (x := a 0) G dX9_set_0 rfl rfl ?_
  refine v_iload_n (j := 1) (x := jI b) G dX9_set_1 rfl rfl ?_
  refine v_ciF G (rn_V (As := [.int (jI b)]) (rest := []) (q0 := 0) G (c_X9_isBeing (b := b) (w := w) (kp := kp) (bf := bf) (ah := ah) (ik := ik) (fd := fd) (sp := sp) (lt := lt) (tp := tp) (tn := tn) (he := he) (ft := ft) (vl := vl) (bt := bt) (lg := lg) (ce := ce) (bw := bw) (a := a) (hw := hw) (hr := (by omega))) gX9_set_X9_isBeing rfl hdX9_isBeing ⟨rfl, rfl, Nat.le_of_ble_eq_true rfl, Nat.le_of_ble_eq_true rfl⟩ rfl rfl (Nat.le_of_ble_eq_true rfl) ⟨Nat.zero_le _, Nat.zero_le _⟩ rfl rfl dX9_set_2) (fun r_1 u_3 e_2 => ?_)
  have e_2 : r_1 = jI (b2 (0 ≤ b ∧ b ≤ w 1 - 1)) := e_2
  subst e_2
  refine v_world (ws' := (wR cI cL a w kp bf ah ik fd sp lt tp tn he ft vl bt lg ce bw)) rfl ?_
  refine v_ifb_eq (P := 0 ≤ b ∧ b ≤ w 1 - 1) (tgt := 30) G dX9_set_5 (by decide) (fun c_4 => ?_) (fun c_4 => ?_)
  · skip
    refine v_aload_n (j := 0) (x := a 0) G dX9_set_30 rfl rfl ?_
    refine v_iconst G dX9_set_31 ?_
    refine v_ciF G (rn_V (As := [.int (jI 0)]) (rest := []) (q0 := 0) G (c_X9_no (k := 0) (w := w) (kp := kp) (bf := bf) (ah := ah) (ik := ik) (fd := fd) (sp := sp) (lt := lt) (tp := tp) (tn := tn) (he := he) (ft := ft) (vl := vl) (bt := bt) (lg := lg) (ce := ce) (bw := bw) (a := a) (hk := (by omega))) gX9_set_X9_no rfl hdX9_no ⟨rfl, rfl, Nat.le_of_ble_eq_true rfl, Nat.le_of_ble_eq_true rfl⟩ rfl rfl (Nat.le_of_ble_eq_true rfl) ⟨Nat.zero_le _, Nat.zero_le _⟩ rfl rfl dX9_set_32) (fun r_5 u_7 e_6 => ?_)
    have e_6 : r_5 = jI ((-1000000001) - 0) := e_6
    subst e_6
    refine v_world (ws' := (wR cI cL a w kp bf ah ik (uI fd 0 (fd 0 + 1)) sp lt tp tn he ft vl bt lg ce bw)) rfl ?_
    exact v_iret G (w, uI fd 0 (fd 0 + 1)) (by first | exact Or.inl ⟨(by omega), (by first | rfl | exact congrArg jI (by omega)), rfl, rfl⟩ | exact Or.inr ⟨(by omega), (by first | rfl | exact congrArg jI (by omega)), rfl, rfl⟩) rfl dX9_set_35
  · skip
    refine v_iload_n (j := 2) (x := jI t) G dX9_set_8 rfl rfl ?_
    refine v_iload_n (j := 3) (x := jI v) G dX9_set_9 rfl rfl ?_
    refine v_ciN G (rn_S (As := [.int (jI t), .int (jI v)]) (rest := []) G (c_X9_may (t := t) (v := v) (hr := (by omega))) gX9_set_X9_may rfl hdX9_may ⟨rfl, rfl, Nat.le_of_ble_eq_true rfl, Nat.le_of_ble_eq_true rfl⟩ rfl rfl (Nat.le_of_ble_eq_true rfl) ⟨Nat.zero_le _, Nat.zero_le _⟩ dX9_set_10) (fun r_8 u_10 e_9 => ?_)
    have e_9 : r_8 = jI (b2 (((t = 1 ∨ t = 2) ∧ 0 ≤ v ∧ v ≤ 15) ∨ (t = 3 ∧ 0 ≤ v ∧ v ≤ 99) ∨ (t = 4 ∧ 0 ≤ v ∧ v ≤ 999))) := e_9
    subst e_9
    refine v_ifb_eq (P := ((t = 1 ∨ t = 2) ∧ 0 ≤ v ∧ v ≤ 15) ∨ (t = 3 ∧ 0 ≤ v ∧ v ≤ 99) ∨ (t = 4 ∧ 0 ≤ v ∧ v ≤ 999)) (tgt := 30) G dX9_set_13 (by decide) (fun c_11 => ?_) (fun c_11 => ?_)
    · skip
      refine v_aload_n (j := 0) (x := a 0) G dX9_set_30 rfl rfl ?_
      refine v_iconst G dX9_set_31 ?_
      refine v_ciF G (rn_V (As := [.int (jI 0)]) (rest := []) (q0 := 0) G (c_X9_no (k := 0) (w := w) (kp := kp) (bf := bf) (ah := ah) (ik := ik) (fd := fd) (sp := sp) (lt := lt) (tp := tp) (tn := tn) (he := he) (ft := ft) (vl := vl) (bt := bt) (lg := lg) (ce := ce) (bw := bw) (a := a) (hk := (by omega))) gX9_set_X9_no rfl hdX9_no ⟨rfl, rfl, Nat.le_of_ble_eq_true rfl, Nat.le_of_ble_eq_true rfl⟩ rfl rfl (Nat.le_of_ble_eq_true rfl) ⟨Nat.zero_le _, Nat.zero_le _⟩ rfl rfl dX9_set_32) (fun r_12 u_14 e_13 => ?_)
      have e_13 : r_12 = jI ((-1000000001) - 0) := e_13
      subst e_13
      refine v_world (ws' := (wR cI cL a w kp bf ah ik (uI fd 0 (fd 0 + 1)) sp lt tp tn he ft vl bt lg ce bw)) rfl ?_
      exact v_iret G (w, uI fd 0 (fd 0 + 1)) (by first | exact Or.inl ⟨(by omega), (by first | rfl | exact congrArg jI (by omega)), rfl, rfl⟩ | exact Or.inr ⟨(by omega), (by first | rfl | exact congrArg jI (by omega)), rfl, rfl⟩) rfl dX9_set_35
    · skip
      refine v_aload_n (j := 0) (x := a 0) G dX9_set_16 rfl rfl ?_
      refine v_aload_n (j := 0) (x := a 0) G dX9_set_17 rfl rfl ?_
      refine v_iload_n (j := 1) (x := jI b) G dX9_set_18 rfl rfl ?_
      refine v_iload_n (j := 2) (x := jI t) G dX9_set_19 rfl rfl ?_
      refine v_ciF G (rn_V (As := [.int (jI b), .int (jI t)]) (rest := [.ref (a 0)]) (q0 := 0) G (c_X9_at (b := b) (k := t) (w := w) (kp := kp) (bf := bf) (ah := ah) (ik := ik) (fd := fd) (sp := sp) (lt := lt) (tp := tp) (tn := tn) (he := he) (ft := ft) (vl := vl) (bt := bt) (lg := lg) (ce := ce) (bw := bw) (a := a) ) gX9_set_X9_at rfl hdX9_at ⟨rfl, rfl, Nat.le_of_ble_eq_true rfl, Nat.le_of_ble_eq_true rfl⟩ rfl rfl (Nat.le_of_ble_eq_true rfl) ⟨Nat.zero_le _, Nat.zero_le _⟩ rfl rfl dX9_set_20) (fun r_15 u_17 e_16 => ?_)
      have e_16 : r_15 = jI (19 + 5 * b + t) := e_16
      subst e_16
      refine v_world (ws' := (wR cI cL a w kp bf ah ik fd sp lt tp tn he ft vl bt lg ce bw)) rfl ?_
      refine v_iload_n (j := 3) (x := jI v) G dX9_set_23 rfl rfl ?_
      refine v_ciF G (rn_V (As := [.int (jI (19 + 5 * b + t)), .int (jI v)]) (rest := []) (q0 := 0) G (c_X9_puts (x := 19 + 5 * b + t) (v := v) (w := w) (kp := kp) (bf := bf) (ah := ah) (ik := ik) (fd := fd) (sp := sp) (lt := lt) (tp := tp) (tn := tn) (he := he) (ft := ft) (vl := vl) (bt := bt) (lg := lg) (ce := ce) (bw := bw) (a := a) (hx := (by omega))) gX9_set_X9_puts rfl hdX9_puts ⟨rfl, rfl, Nat.le_of_ble_eq_true rfl, Nat.le_of_ble_eq_true rfl⟩ rfl rfl (Nat.le_of_ble_eq_true rfl) ⟨Nat.zero_le _, Nat.zero_le _⟩ rfl rfl dX9_set_24) (fun r_18 u_20 e_19 => ?_)
      have e_19 : r_18 = jI (w (19 + 5 * b + t)) := e_19
      subst e_19
      refine v_world (ws' := (wR cI cL a (uI w (19 + 5 * b + t) v) kp bf ah ik fd sp lt tp tn he ft vl bt lg ce bw)) rfl ?_
      refine v_goto (tgt := 35) G dX9_set_27 (by decide) ?_
      exact v_iret G (uI w (19 + 5 * b + t) v, fd) (by first | exact Or.inl ⟨(by omega), (by first | rfl | exact congrArg jI (by omega)), rfl, rfl⟩ | exact Or.inr ⟨(by omega), (by first | rfl | exact congrArg jI (by omega)), rfl, rfl⟩) rfl dX9_set_35

set_option maxHeartbeats 4000000 in
set_option maxRecDepth 100000 in
theorem c_X9_turn (b k : Int) (hw : Wf w) (hr : (-2147483648 ≤ b ∧ b ≤ 2147483647) ∧ (-2147483648 ≤ k ∧ k ≤ 2147483647)) : Ci l yX9_turn wsX9_turn { frames := 2, cells := 0, slots := 0, locals := 43 } D (jT cI cL cB cS) [.ref (a 0), .int (jI b), .int (jI k)] (wR cI cL a w kp bf ah ik fd sp lt tp tn he ft vl bt lg ce bw) (S := (Int → Int) × (Int → Int)) (fun u => (wR cI cL a u.1 kp bf ah ik u.2 sp lt tp tn he ft vl bt lg ce bw)) (fun r u => ((((0 ≤ b ∧ b ≤ w 1 - 1) ∧ 0 ≤ k ∧ k ≤ 5)) ∧ r = jI (fB w b 0) ∧ u.1 = uI w (19 + 5 * b + 0) k ∧ u.2 = fd) ∨ ((¬ ((0 ≤ b ∧ b ≤ w 1 - 1) ∧ 0 ≤ k ∧ k ≤ 5)) ∧ r = jI (-1000000001) ∧ u.1 = w ∧ u.2 = uI fd 0 (fd 0 + 1))) := by
  refine Ci.mk (cc := cX9_turn) (maxL := 3) (rt := .int) (by decide) rfl (Nat.le_of_ble_eq_true rfl) rfl ?_
  intro p_ e_ s_ m_ b_ me_ c_ A_ G hnm
  have hm := hw.many
  refine v_aload_n (j := 0) (x := a 0) G dX9_turn_0 rfl rfl ?_
  refine v_iload_n (j := 1) (x := jI b) G dX9_turn_1 rfl rfl ?_
  refine v_ciF G (rn_V (As := [.int (jI b)]) (rest := []) (q0 := 0) G (c_X9_isBeing (b := b) (w := w) (kp := kp) (bf := bf) (ah := ah) (ik := ik) (fd := fd) (sp := sp) (lt := lt) (tp := tp) (tn := tn) (he := he) (ft := ft) (vl := vl) (bt := bt) (lg := lg) (ce := ce) (bw := bw) (a := a) (hw := hw) (hr := (by omega))) gX9_turn_X9_isBeing rfl hdX9_isBeing ⟨rfl, rfl, Nat.le_of_ble_eq_true rfl, Nat.le_of_ble_eq_true rfl⟩ rfl rfl (Nat.le_of_ble_eq_true rfl) ⟨Nat.zero_le _, Nat.zero_le _⟩ rfl rfl dX9_turn_2) (fun r_1 u_3 e_2 => ?_)
  have e_2 : r_1 = jI (b2 (0 ≤ b ∧ b ≤ w 1 - 1)) := e_2
  subst e_2
  refine v_world (ws' := (wR cI cL a w kp bf ah ik fd sp lt tp tn he ft vl bt lg ce bw)) rfl ?_
  refine v_ifb_eq (P := 0 ≤ b ∧ b ≤ w 1 - 1) (tgt := 29) G dX9_turn_5 (by decide) (fun c_4 => ?_) (fun c_4 => ?_)
  · skip
    refine v_aload_n (j := 0) (x := a 0) G dX9_turn_29 rfl rfl ?_
    refine v_iconst G dX9_turn_30 ?_
    refine v_ciF G (rn_V (As := [.int (jI 0)]) (rest := []) (q0 := 0) G (c_X9_no (k := 0) (w := w) (kp := kp) (bf := bf) (ah := ah) (ik := ik) (fd := fd) (sp := sp) (lt := lt) (tp := tp) (tn := tn) (he := he) (ft := ft) (vl := vl) (bt := bt) (lg := lg) (ce := ce) (bw := bw) (a := a) (hk := (by omega))) gX9_turn_X9_no rfl hdX9_no ⟨rfl, rfl, Nat.le_of_ble_eq_true rfl, Nat.le_of_ble_eq_true rfl⟩ rfl rfl (Nat.le_of_ble_eq_true rfl) ⟨Nat.zero_le _, Nat.zero_le _⟩ rfl rfl dX9_turn_31) (fun r_5 u_7 e_6 => ?_)
    have e_6 : r_5 = jI ((-1000000001) - 0) := e_6
    subst e_6
    refine v_world (ws' := (wR cI cL a w kp bf ah ik (uI fd 0 (fd 0 + 1)) sp lt tp tn he ft vl bt lg ce bw)) rfl ?_
    exact v_iret G (w, uI fd 0 (fd 0 + 1)) (by first | exact Or.inl ⟨(by omega), (by first | rfl | exact congrArg jI (by omega)), rfl, rfl⟩ | exact Or.inr ⟨(by omega), (by first | rfl | exact congrArg jI (by omega)), rfl, rfl⟩) rfl dX9_turn_34
  · skip
    refine v_iload_n (j := 2) (x := jI k) G dX9_turn_8 rfl rfl ?_
    refine v_ciN G (rn_S (As := [.int (jI k)]) (rest := []) G (c_X9_isKind (k := k) (hr := (by omega))) gX9_turn_X9_isKind rfl hdX9_isKind ⟨rfl, rfl, Nat.le_of_ble_eq_true rfl, Nat.le_of_ble_eq_true rfl⟩ rfl rfl (Nat.le_of_ble_eq_true rfl) ⟨Nat.zero_le _, Nat.zero_le _⟩ dX9_turn_9) (fun r_8 u_10 e_9 => ?_)
    have e_9 : r_8 = jI (b2 (0 ≤ k ∧ k ≤ 5)) := e_9
    subst e_9
    refine v_ifb_eq (P := 0 ≤ k ∧ k ≤ 5) (tgt := 29) G dX9_turn_12 (by decide) (fun c_11 => ?_) (fun c_11 => ?_)
    · skip
      refine v_aload_n (j := 0) (x := a 0) G dX9_turn_29 rfl rfl ?_
      refine v_iconst G dX9_turn_30 ?_
      refine v_ciF G (rn_V (As := [.int (jI 0)]) (rest := []) (q0 := 0) G (c_X9_no (k := 0) (w := w) (kp := kp) (bf := bf) (ah := ah) (ik := ik) (fd := fd) (sp := sp) (lt := lt) (tp := tp) (tn := tn) (he := he) (ft := ft) (vl := vl) (bt := bt) (lg := lg) (ce := ce) (bw := bw) (a := a) (hk := (by omega))) gX9_turn_X9_no rfl hdX9_no ⟨rfl, rfl, Nat.le_of_ble_eq_true rfl, Nat.le_of_ble_eq_true rfl⟩ rfl rfl (Nat.le_of_ble_eq_true rfl) ⟨Nat.zero_le _, Nat.zero_le _⟩ rfl rfl dX9_turn_31) (fun r_12 u_14 e_13 => ?_)
      have e_13 : r_12 = jI ((-1000000001) - 0) := e_13
      subst e_13
      refine v_world (ws' := (wR cI cL a w kp bf ah ik (uI fd 0 (fd 0 + 1)) sp lt tp tn he ft vl bt lg ce bw)) rfl ?_
      exact v_iret G (w, uI fd 0 (fd 0 + 1)) (by first | exact Or.inl ⟨(by omega), (by first | rfl | exact congrArg jI (by omega)), rfl, rfl⟩ | exact Or.inr ⟨(by omega), (by first | rfl | exact congrArg jI (by omega)), rfl, rfl⟩) rfl dX9_turn_34
    · skip
      refine v_aload_n (j := 0) (x := a 0) G dX9_turn_15 rfl rfl ?_
      refine v_aload_n (j := 0) (x := a 0) G dX9_turn_16 rfl rfl ?_
      refine v_iload_n (j := 1) (x := jI b) G dX9_turn_17 rfl rfl ?_
      refine v_iconst G dX9_turn_18 ?_
      refine v_ciF G (rn_V (As := [.int (jI b), .int (jI 0)]) (rest := [.ref (a 0)]) (q0 := 0) G (c_X9_at (b := b) (k := 0) (w := w) (kp := kp) (bf := bf) (ah := ah) (ik := ik) (fd := fd) (sp := sp) (lt := lt) (tp := tp) (tn := tn) (he := he) (ft := ft) (vl := vl) (bt := bt) (lg := lg) (ce := ce) (bw := bw) (a := a) ) gX9_turn_X9_at rfl hdX9_at ⟨rfl, rfl, Nat.le_of_ble_eq_true rfl, Nat.le_of_ble_eq_true rfl⟩ rfl rfl (Nat.le_of_ble_eq_true rfl) ⟨Nat.zero_le _, Nat.zero_le _⟩ rfl rfl dX9_turn_19) (fun r_15 u_17 e_16 => ?_)
      have e_16 : r_15 = jI (19 + 5 * b + 0) := e_16
      subst e_16
      refine v_world (ws' := (wR cI cL a w kp bf ah ik fd sp lt tp tn he ft vl bt lg ce bw)) rfl ?_
      refine v_iload_n (j := 2) (x := jI k) G dX9_turn_22 rfl rfl ?_
      refine v_ciF G (rn_V (As := [.int (jI (19 + 5 * b + 0)), .int (jI k)]) (rest := []) (q0 := 0) G (c_X9_puts (x := 19 + 5 * b + 0) (v := k) (w := w) (kp := kp) (bf := bf) (ah := ah) (ik := ik) (fd := fd) (sp := sp) (lt := lt) (tp := tp) (tn := tn) (he := he) (ft := ft) (vl := vl) (bt := bt) (lg := lg) (ce := ce) (bw := bw) (a := a) (hx := (by omega))) gX9_turn_X9_puts rfl hdX9_puts ⟨rfl, rfl, Nat.le_of_ble_eq_true rfl, Nat.le_of_ble_eq_true rfl⟩ rfl rfl (Nat.le_of_ble_eq_true rfl) ⟨Nat.zero_le _, Nat.zero_le _⟩ rfl rfl dX9_turn_23) (fun r_18 u_20 e_19 => ?_)
      have e_19 : r_18 = jI (w (19 + 5 * b + 0)) := e_19
      subst e_19
      refine v_world (ws' := (wR cI cL a (uI w (19 + 5 * b + 0) k) kp bf ah ik fd sp lt tp tn he ft vl bt lg ce bw)) rfl ?_
      refine v_goto (tgt := 34) G dX9_turn_26 (by decide) ?_
      exact v_iret G (uI w (19 + 5 * b + 0) k, fd) (by first | exact Or.inl ⟨(by omega), (by first | rfl | exact congrArg jI (by omega)), rfl, rfl⟩ | exact Or.inr ⟨(by omega), (by first | rfl | exact congrArg jI (by omega)), rfl, rfl⟩) rfl dX9_turn_34

set_option maxHeartbeats 4000000 in
set_option maxRecDepth 100000 in
theorem c_X9_isUnder (k o : Int) (hr : (-2147483648 ≤ k ∧ k ≤ 2147483647) ∧ (-2147483648 ≤ o ∧ o ≤ 2147483647)) : Ci l yX9_isUnder wsX9_isUnder { frames := 0, cells := 0, slots := 0, locals := 0 } D (jT cI cL cB cS) [.int (jI k), .int (jI o)] [] (S := Unit) (fun _ => []) (fun r _ => r = jI (b2 (o = 0 ∨ k = o ∨ (k = 4 ∧ o = 1) ∨ (k = 5 ∧ o = 2)))) := by
  refine Ci.mk (cc := cX9_isUnder) (maxL := 2) (rt := .boolean) (by decide) rfl (Nat.le_of_ble_eq_true rfl) rfl ?_
  intro p_ e_ s_ m_ b_ me_ c_ A_ G hnm
  refine v_iload_n (j := 1) (x := jI o) G dX9_isUnder_0 rfl rfl ?_
  refine v_if_eq (a := o) (tgt := 29) G dX9_isUnder_1 (by decide) (by omega) (fun c_1 => ?_) (fun c_1 => ?_)
  · skip
    refine v_iconst G dX9_isUnder_29 ?_
    refine v_goto (tgt := 34) G dX9_isUnder_30 (by decide) ?_
    exact v_zret G () nb_1 (show jI 1 = jI (b2 (o = 0 ∨ k = o ∨ (k = 4 ∧ o = 1) ∨ (k = 5 ∧ o = 2))) from congrArg jI (b2_t (P := o = 0 ∨ k = o ∨ (k = 4 ∧ o = 1) ∨ (k = 5 ∧ o = 2)) (by omega)).symm) rfl dX9_isUnder_34
  · skip
    refine v_iload_n (j := 0) (x := jI k) G dX9_isUnder_4 rfl rfl ?_
    refine v_iload_n (j := 1) (x := jI o) G dX9_isUnder_5 rfl rfl ?_
    refine v_icmp_eq (a := k) (b := o) (tgt := 29) G dX9_isUnder_6 (by decide) (by omega) (fun c_2 => ?_) (fun c_2 => ?_)
    · skip
      refine v_iconst G dX9_isUnder_29 ?_
      refine v_goto (tgt := 34) G dX9_isUnder_30 (by decide) ?_
      exact v_zret G () nb_1 (show jI 1 = jI (b2 (o = 0 ∨ k = o ∨ (k = 4 ∧ o = 1) ∨ (k = 5 ∧ o = 2))) from congrArg jI (b2_t (P := o = 0 ∨ k = o ∨ (k = 4 ∧ o = 1) ∨ (k = 5 ∧ o = 2)) (by omega)).symm) rfl dX9_isUnder_34
    · skip
      refine v_iload_n (j := 0) (x := jI k) G dX9_isUnder_9 rfl rfl ?_
      refine v_iconst G dX9_isUnder_10 ?_
      refine v_icmp_ne (a := k) (b := 4) (tgt := 19) G dX9_isUnder_11 (by decide) (by omega) (fun c_3 => ?_) (fun c_3 => ?_)
      · skip
        refine v_iload_n (j := 0) (x := jI k) G dX9_isUnder_19 rfl rfl ?_
        refine v_iconst G dX9_isUnder_20 ?_
        refine v_icmp_ne (a := k) (b := 5) (tgt := 33) G dX9_isUnder_21 (by decide) (by omega) (fun c_4 => ?_) (fun c_4 => ?_)
        · skip
          refine v_iconst G dX9_isUnder_33 ?_
          exact v_zret G () nb_0 (show jI 0 = jI (b2 (o = 0 ∨ k = o ∨ (k = 4 ∧ o = 1) ∨ (k = 5 ∧ o = 2))) from congrArg jI (b2_f (P := o = 0 ∨ k = o ∨ (k = 4 ∧ o = 1) ∨ (k = 5 ∧ o = 2)) (by omega)).symm) rfl dX9_isUnder_34
        · skip
          refine v_iload_n (j := 1) (x := jI o) G dX9_isUnder_24 rfl rfl ?_
          refine v_iconst G dX9_isUnder_25 ?_
          refine v_icmp_ne (a := o) (b := 2) (tgt := 33) G dX9_isUnder_26 (by decide) (by omega) (fun c_5 => ?_) (fun c_5 => ?_)
          · skip
            refine v_iconst G dX9_isUnder_33 ?_
            exact v_zret G () nb_0 (show jI 0 = jI (b2 (o = 0 ∨ k = o ∨ (k = 4 ∧ o = 1) ∨ (k = 5 ∧ o = 2))) from congrArg jI (b2_f (P := o = 0 ∨ k = o ∨ (k = 4 ∧ o = 1) ∨ (k = 5 ∧ o = 2)) (by omega)).symm) rfl dX9_isUnder_34
          · skip
            refine v_iconst G dX9_isUnder_29 ?_
            refine v_goto (tgt := 34) G dX9_isUnder_30 (by decide) ?_
            exact v_zret G () nb_1 (show jI 1 = jI (b2 (o = 0 ∨ k = o ∨ (k = 4 ∧ o = 1) ∨ (k = 5 ∧ o = 2))) from congrArg jI (b2_t (P := o = 0 ∨ k = o ∨ (k = 4 ∧ o = 1) ∨ (k = 5 ∧ o = 2)) (by omega)).symm) rfl dX9_isUnder_34
      · skip
        refine v_iload_n (j := 1) (x := jI o) G dX9_isUnder_14 rfl rfl ?_
        refine v_iconst G dX9_isUnder_15 ?_
        refine v_icmp_eq (a := o) (b := 1) (tgt := 29) G dX9_isUnder_16 (by decide) (by omega) (fun c_6 => ?_) (fun c_6 => ?_)
        · skip
          refine v_iconst G dX9_isUnder_29 ?_
          refine v_goto (tgt := 34) G dX9_isUnder_30 (by decide) ?_
          exact v_zret G () nb_1 (show jI 1 = jI (b2 (o = 0 ∨ k = o ∨ (k = 4 ∧ o = 1) ∨ (k = 5 ∧ o = 2))) from congrArg jI (b2_t (P := o = 0 ∨ k = o ∨ (k = 4 ∧ o = 1) ∨ (k = 5 ∧ o = 2)) (by omega)).symm) rfl dX9_isUnder_34
        · skip
          refine v_iload_n (j := 0) (x := jI k) G dX9_isUnder_19 rfl rfl ?_
          refine v_iconst G dX9_isUnder_20 ?_
          refine v_icmp_ne (a := k) (b := 5) (tgt := 33) G dX9_isUnder_21 (by decide) (by omega) (fun c_7 => ?_) (fun c_7 => ?_)
          · skip
            refine v_iconst G dX9_isUnder_33 ?_
            exact v_zret G () nb_0 (show jI 0 = jI (b2 (o = 0 ∨ k = o ∨ (k = 4 ∧ o = 1) ∨ (k = 5 ∧ o = 2))) from congrArg jI (b2_f (P := o = 0 ∨ k = o ∨ (k = 4 ∧ o = 1) ∨ (k = 5 ∧ o = 2)) (by omega)).symm) rfl dX9_isUnder_34
          · skip
            refine v_iload_n (j := 1) (x := jI o) G dX9_isUnder_24 rfl rfl ?_
            refine v_iconst G dX9_isUnder_25 ?_
            refine v_icmp_ne (a := o) (b := 2) (tgt := 33) G dX9_isUnder_26 (by decide) (by omega) (fun c_8 => ?_) (fun c_8 => ?_)
            · skip
              refine v_iconst G dX9_isUnder_33 ?_
              exact v_zret G () nb_0 (show jI 0 = jI (b2 (o = 0 ∨ k = o ∨ (k = 4 ∧ o = 1) ∨ (k = 5 ∧ o = 2))) from congrArg jI (b2_f (P := o = 0 ∨ k = o ∨ (k = 4 ∧ o = 1) ∨ (k = 5 ∧ o = 2)) (by omega)).symm) rfl dX9_isUnder_34
            · skip
              refine v_iconst G dX9_isUnder_29 ?_
              refine v_goto (tgt := 34) G dX9_isUnder_30 (by decide) ?_
              exact v_zret G () nb_1 (show jI 1 = jI (b2 (o = 0 ∨ k = o ∨ (k = 4 ∧ o = 1) ∨ (k = 5 ∧ o = 2))) from congrArg jI (b2_t (P := o = 0 ∨ k = o ∨ (k = 4 ∧ o = 1) ∨ (k = 5 ∧ o = 2)) (by omega)).symm) rfl dX9_isUnder_34

set_option maxHeartbeats 4000000 in
set_option maxRecDepth 100000 in
theorem c_X9_as (b k : Int) (hw : Wf w) (hr : (-2147483648 ≤ b ∧ b ≤ 2147483647) ∧ (-2147483648 ≤ k ∧ k ≤ 2147483647)) : Ci l yX9_as wsX9_as { frames := 2, cells := 0, slots := 0, locals := 43 } D (jT cI cL cB cS) [.ref (a 0), .int (jI b), .int (jI k)] (wR cI cL a w kp bf ah ik fd sp lt tp tn he ft vl bt lg ce bw) (S := (Int → Int)) (fun fd2 => (wR cI cL a w kp bf ah ik fd2 sp lt tp tn he ft vl bt lg ce bw)) (fun r fd2 => ((¬ ((0 ≤ b ∧ b ≤ w 1 - 1) ∧ 0 ≤ k ∧ k ≤ 5)) ∧ r = jI (-1000000001) ∧ fd2 = uI fd 0 (fd 0 + 1)) ∨ ((((0 ≤ b ∧ b ≤ w 1 - 1) ∧ 0 ≤ k ∧ k ≤ 5) ∧ (k = 0 ∨ fB w b 0 = k ∨ (fB w b 0 = 4 ∧ k = 1) ∨ (fB w b 0 = 5 ∧ k = 2))) ∧ r = jI (fB w b 3) ∧ fd2 = fd) ∨ ((((0 ≤ b ∧ b ≤ w 1 - 1) ∧ 0 ≤ k ∧ k ≤ 5) ∧ ¬ (k = 0 ∨ fB w b 0 = k ∨ (fB w b 0 = 4 ∧ k = 1) ∨ (fB w b 0 = 5 ∧ k = 2))) ∧ r = jI (-1000000003) ∧ fd2 = uI fd 2 (fd 2 + 1))) := by
  refine Ci.mk (cc := cX9_as) (maxL := 3) (rt := .int) (by decide) rfl (Nat.le_of_ble_eq_true rfl) rfl ?_
  intro p_ e_ s_ m_ b_ me_ c_ A_ G hnm
  have hm := hw.many
  refine v_aload_n (j := 0) (x := a 0) G dX9_as_0 rfl rfl ?_
  refine v_iload_n (j := 1) (x := jI b) G dX9_as_1 rfl rfl ?_
  refine v_ciF G (rn_V (As := [.int (jI b)]) (rest := []) (q0 := 0) G (c_X9_isBeing (b := b) (w := w) (kp := kp) (bf := bf) (ah := ah) (ik := ik) (fd := fd) (sp := sp) (lt := lt) (tp := tp) (tn := tn) (he := he) (ft := ft) (vl := vl) (bt := bt) (lg := lg) (ce := ce) (bw := bw) (a := a) (hw := hw) (hr := (by omega))) gX9_as_X9_isBeing rfl hdX9_isBeing ⟨rfl, rfl, Nat.le_of_ble_eq_true rfl, Nat.le_of_ble_eq_true rfl⟩ rfl rfl (Nat.le_of_ble_eq_true rfl) ⟨Nat.zero_le _, Nat.zero_le _⟩ rfl rfl dX9_as_2) (fun r_1 u_3 e_2 => ?_)
  have e_2 : r_1 = jI (b2 (0 ≤ b ∧ b ≤ w 1 - 1)) := e_2
  subst e_2
  refine v_world (ws' := (wR cI cL a w kp bf ah ik fd sp lt tp tn he ft vl bt lg ce bw)) rfl ?_
  refine v_ifb_eq (P := 0 ≤ b ∧ b ≤ w 1 - 1) (tgt := 15) G dX9_as_5 (by decide) (fun c_4 => ?_) (fun c_4 => ?_)
  · skip
    refine v_aload_n (j := 0) (x := a 0) G dX9_as_15 rfl rfl ?_
    refine v_iconst G dX9_as_16 ?_
    refine v_ciF G (rn_V (As := [.int (jI 0)]) (rest := []) (q0 := 0) G (c_X9_no (k := 0) (w := w) (kp := kp) (bf := bf) (ah := ah) (ik := ik) (fd := fd) (sp := sp) (lt := lt) (tp := tp) (tn := tn) (he := he) (ft := ft) (vl := vl) (bt := bt) (lg := lg) (ce := ce) (bw := bw) (a := a) (hk := (by omega))) gX9_as_X9_no rfl hdX9_no ⟨rfl, rfl, Nat.le_of_ble_eq_true rfl, Nat.le_of_ble_eq_true rfl⟩ rfl rfl (Nat.le_of_ble_eq_true rfl) ⟨Nat.zero_le _, Nat.zero_le _⟩ rfl rfl dX9_as_17) (fun r_5 u_7 e_6 => ?_)
    have e_6 : r_5 = jI ((-1000000001) - 0) := e_6
    subst e_6
    refine v_world (ws' := (wR cI cL a w kp bf ah ik (uI fd 0 (fd 0 + 1)) sp lt tp tn he ft vl bt lg ce bw)) rfl ?_
    exact v_iret G (uI fd 0 (fd 0 + 1)) (by first | exact Or.inl ⟨(by omega), (by first | rfl | exact congrArg jI (by omega)), rfl⟩ | exact Or.inr (Or.inl ⟨(by omega), (by first | rfl | exact congrArg jI (by omega)), rfl⟩) | exact Or.inr (Or.inr ⟨(by omega), (by first | rfl | exact congrArg jI (by omega)), rfl⟩)) rfl dX9_as_20
  · skip
    refine v_iload_n (j := 2) (x := jI k) G dX9_as_8 rfl rfl ?_
    refine v_ciN G (rn_S (As := [.int (jI k)]) (rest := []) G (c_X9_isKind (k := k) (hr := (by omega))) gX9_as_X9_isKind rfl hdX9_isKind ⟨rfl, rfl, Nat.le_of_ble_eq_true rfl, Nat.le_of_ble_eq_true rfl⟩ rfl rfl (Nat.le_of_ble_eq_true rfl) ⟨Nat.zero_le _, Nat.zero_le _⟩ dX9_as_9) (fun r_8 u_10 e_9 => ?_)
    have e_9 : r_8 = jI (b2 (0 ≤ k ∧ k ≤ 5)) := e_9
    subst e_9
    refine v_ifb_ne (P := 0 ≤ k ∧ k ≤ 5) (tgt := 21) G dX9_as_12 (by decide) (fun c_11 => ?_) (fun c_11 => ?_)
    · skip
      have hk := hw.being (b := b) (by omega) (by omega)
      refine v_aload_n (j := 0) (x := a 0) G dX9_as_21 rfl rfl ?_
      refine v_iload_n (j := 1) (x := jI b) G dX9_as_22 rfl rfl ?_
      refine v_iconst G dX9_as_23 ?_
      refine v_ciF G (rn_V (As := [.int (jI b), .int (jI 0)]) (rest := []) (q0 := 0) G (c_X9_is (b := b) (k := 0) (w := w) (kp := kp) (bf := bf) (ah := ah) (ik := ik) (fd := fd) (sp := sp) (lt := lt) (tp := tp) (tn := tn) (he := he) (ft := ft) (vl := vl) (bt := bt) (lg := lg) (ce := ce) (bw := bw) (a := a) (hb := (by omega))) gX9_as_X9_is rfl hdX9_is ⟨rfl, rfl, Nat.le_of_ble_eq_true rfl, Nat.le_of_ble_eq_true rfl⟩ rfl rfl (Nat.le_of_ble_eq_true rfl) ⟨Nat.zero_le _, Nat.zero_le _⟩ rfl rfl dX9_as_24) (fun r_12 u_14 e_13 => ?_)
      have e_13 : r_12 = jI (fB w b 0) := e_13
      subst e_13
      refine v_world (ws' := (wR cI cL a w kp bf ah ik fd sp lt tp tn he ft vl bt lg ce bw)) rfl ?_
      refine v_iload_n (j := 2) (x := jI k) G dX9_as_27 rfl rfl ?_
      refine v_ciN G (rn_S (As := [.int (jI (fB w b 0)), .int (jI k)]) (rest := []) G (c_X9_isUnder (k := fB w b 0) (o := k) (hr := (by omega))) gX9_as_X9_isUnder rfl hdX9_isUnder ⟨rfl, rfl, Nat.le_of_ble_eq_true rfl, Nat.le_of_ble_eq_true rfl⟩ rfl rfl (Nat.le_of_ble_eq_true rfl) ⟨Nat.zero_le _, Nat.zero_le _⟩ dX9_as_28) (fun r_15 u_17 e_16 => ?_)
      have e_16 : r_15 = jI (b2 (k = 0 ∨ (fB w b 0) = k ∨ ((fB w b 0) = 4 ∧ k = 1) ∨ ((fB w b 0) = 5 ∧ k = 2))) := e_16
      subst e_16
      refine v_ifb_eq (P := k = 0 ∨ (fB w b 0) = k ∨ ((fB w b 0) = 4 ∧ k = 1) ∨ ((fB w b 0) = 5 ∧ k = 2)) (tgt := 43) G dX9_as_31 (by decide) (fun c_18 => ?_) (fun c_18 => ?_)
      · skip
        refine v_aload_n (j := 0) (x := a 0) G dX9_as_43 rfl rfl ?_
        refine v_iconst G dX9_as_44 ?_
        refine v_ciF G (rn_V (As := [.int (jI 2)]) (rest := []) (q0 := 0) G (c_X9_no (k := 2) (w := w) (kp := kp) (bf := bf) (ah := ah) (ik := ik) (fd := fd) (sp := sp) (lt := lt) (tp := tp) (tn := tn) (he := he) (ft := ft) (vl := vl) (bt := bt) (lg := lg) (ce := ce) (bw := bw) (a := a) (hk := (by omega))) gX9_as_X9_no rfl hdX9_no ⟨rfl, rfl, Nat.le_of_ble_eq_true rfl, Nat.le_of_ble_eq_true rfl⟩ rfl rfl (Nat.le_of_ble_eq_true rfl) ⟨Nat.zero_le _, Nat.zero_le _⟩ rfl rfl dX9_as_45) (fun r_19 u_21 e_20 => ?_)
        have e_20 : r_19 = jI ((-1000000001) - 2) := e_20
        subst e_20
        refine v_world (ws' := (wR cI cL a w kp bf ah ik (uI fd 2 (fd 2 + 1)) sp lt tp tn he ft vl bt lg ce bw)) rfl ?_
        exact v_iret G (uI fd 2 (fd 2 + 1)) (by first | exact Or.inl ⟨(by omega), (by first | rfl | exact congrArg jI (by omega)), rfl⟩ | exact Or.inr (Or.inl ⟨(by omega), (by first | rfl | exact congrArg jI (by omega)), rfl⟩) | exact Or.inr (Or.inr ⟨(by omega), (by first | rfl | exact congrArg jI (by omega)), rfl⟩)) rfl dX9_as_48
      · skip
        refine v_aload_n (j := 0) (x := a 0) G dX9_as_34 rfl rfl ?_
        refine v_iload_n (j := 1) (x := jI b) G dX9_as_35 rfl rfl ?_
        refine v_iconst G dX9_as_36 ?_
        refine v_ciF G (rn_V (As := [.int (jI b), .int (jI 3)]) (rest := []) (q0 := 0) G (c_X9_is (b := b) (k := 3) (w := w) (kp := kp) (bf := bf) (ah := ah) (ik := ik) (fd := fd) (sp := sp) (lt := lt) (tp := tp) (tn := tn) (he := he) (ft := ft) (vl := vl) (bt := bt) (lg := lg) (ce := ce) (bw := bw) (a := a) (hb := (by omega))) gX9_as_X9_is rfl hdX9_is ⟨rfl, rfl, Nat.le_of_ble_eq_true rfl, Nat.le_of_ble_eq_true rfl⟩ rfl rfl (Nat.le_of_ble_eq_true rfl) ⟨Nat.zero_le _, Nat.zero_le _⟩ rfl rfl dX9_as_37) (fun r_22 u_24 e_23 => ?_)
        have e_23 : r_22 = jI (fB w b 3) := e_23
        subst e_23
        refine v_world (ws' := (wR cI cL a w kp bf ah ik fd sp lt tp tn he ft vl bt lg ce bw)) rfl ?_
        refine v_goto (tgt := 48) G dX9_as_40 (by decide) ?_
        exact v_iret G (fd) (by first | exact Or.inl ⟨(by omega), (by first | rfl | exact congrArg jI (by omega)), rfl⟩ | exact Or.inr (Or.inl ⟨(by omega), (by first | rfl | exact congrArg jI (by omega)), rfl⟩) | exact Or.inr (Or.inr ⟨(by omega), (by first | rfl | exact congrArg jI (by omega)), rfl⟩)) rfl dX9_as_48
    · skip
      refine v_aload_n (j := 0) (x := a 0) G dX9_as_15 rfl rfl ?_
      refine v_iconst G dX9_as_16 ?_
      refine v_ciF G (rn_V (As := [.int (jI 0)]) (rest := []) (q0 := 0) G (c_X9_no (k := 0) (w := w) (kp := kp) (bf := bf) (ah := ah) (ik := ik) (fd := fd) (sp := sp) (lt := lt) (tp := tp) (tn := tn) (he := he) (ft := ft) (vl := vl) (bt := bt) (lg := lg) (ce := ce) (bw := bw) (a := a) (hk := (by omega))) gX9_as_X9_no rfl hdX9_no ⟨rfl, rfl, Nat.le_of_ble_eq_true rfl, Nat.le_of_ble_eq_true rfl⟩ rfl rfl (Nat.le_of_ble_eq_true rfl) ⟨Nat.zero_le _, Nat.zero_le _⟩ rfl rfl dX9_as_17) (fun r_25 u_27 e_26 => ?_)
      have e_26 : r_25 = jI ((-1000000001) - 0) := e_26
      subst e_26
      refine v_world (ws' := (wR cI cL a w kp bf ah ik (uI fd 0 (fd 0 + 1)) sp lt tp tn he ft vl bt lg ce bw)) rfl ?_
      exact v_iret G (uI fd 0 (fd 0 + 1)) (by first | exact Or.inl ⟨(by omega), (by first | rfl | exact congrArg jI (by omega)), rfl⟩ | exact Or.inr (Or.inl ⟨(by omega), (by first | rfl | exact congrArg jI (by omega)), rfl⟩) | exact Or.inr (Or.inr ⟨(by omega), (by first | rfl | exact congrArg jI (by omega)), rfl⟩)) rfl dX9_as_20

set_option maxHeartbeats 4000000 in
set_option maxRecDepth 100000 in
theorem c_X9_eats (b v : Int) (hb : 0 ≤ b ∧ b < 10) : Cv l yX9_eats wsX9_eats { frames := 1, cells := 0, slots := 0, locals := 22 } D (jT cI cL cB cS) [.ref (a 0), .int (jI b), .int (jI v)] (wR cI cL a w kp bf ah ik fd sp lt tp tn he ft vl bt lg ce bw) (S := Unit) (fun _ => (wR cI cL a (eatW w b v) kp bf ah ik fd sp lt tp tn he ft vl bt lg ce bw)) (fun _ => True) := by
  refine Cv.mk (cc := cX9_eats) (maxL := 3) (by decide) rfl (Nat.le_of_ble_eq_true rfl) rfl ?_
  intro p_ e_ s_ m_ b_ me_ c_ A_ G hnm
  have k_X9 : ∀ w ∈ u_ws RX9 TX9 17, w ∈ wsX9_eats := fun _ h => List.mem_cons_of_mem _ (List.mem_append_right _ h)
  have q_1 : Cond.fieldLink RX9 9 "SupperLightModel" "s" "[I" ∈ wsX9_eats := List.mem_of_getElem? (i := 1) rfl
  refine v_aload_n (j := 0) (x := a 0) G dX9_eats_0 rfl rfl ?_
  refine v_get (q0 := 0) (k := 0) (v := .ref (a 1)) G k_X9 rfl rfl (by decide) q_1 rfl rfl dX9_eats_1 ?_
  refine v_aload_n (j := 0) (x := a 0) G dX9_eats_4 rfl rfl ?_
  refine v_iload_n (j := 1) (x := jI b) G dX9_eats_5 rfl rfl ?_
  refine v_iconst G dX9_eats_6 ?_
  refine v_ciF G (rn_V (As := [.int (jI b), .int (jI 3)]) (rest := [.ref (a 1)]) (q0 := 0) G (c_X9_at (b := b) (k := 3) (w := w) (kp := kp) (bf := bf) (ah := ah) (ik := ik) (fd := fd) (sp := sp) (lt := lt) (tp := tp) (tn := tn) (he := he) (ft := ft) (vl := vl) (bt := bt) (lg := lg) (ce := ce) (bw := bw) (a := a) ) gX9_eats_X9_at rfl hdX9_at ⟨rfl, rfl, Nat.le_of_ble_eq_true rfl, Nat.le_of_ble_eq_true rfl⟩ rfl rfl (Nat.le_of_ble_eq_true rfl) ⟨Nat.zero_le _, Nat.zero_le _⟩ rfl rfl dX9_eats_7) (fun r_1 u_3 e_2 => ?_)
  have e_2 : r_1 = jI (19 + 5 * b + 3) := e_2
  subst e_2
  refine v_world (ws' := (wR cI cL a w kp bf ah ik fd sp lt tp tn he ft vl bt lg ce bw)) rfl ?_
  refine v_iload_n (j := 2) (x := jI v) G dX9_eats_10 rfl rfl ?_
  refine v_iast (q0 := 1) (t0 := 0) (g := w) (z := 19 + 5 * b + 3) (x := v) (ws' := (wR cI cL a (uI w (19 + 5 * b + 3) v) kp bf ah ik fd sp lt tp tn he ft vl bt lg ce bw)) G rfl rfl (by omega) rfl dX9_eats_11 ?_
  refine v_aload_n (j := 0) (x := a 0) G dX9_eats_12 rfl rfl ?_
  refine v_get (q0 := 0) (k := 0) (v := .ref (a 1)) G k_X9 rfl rfl (by decide) q_1 rfl rfl dX9_eats_13 ?_
  refine v_aload_n (j := 0) (x := a 0) G dX9_eats_16 rfl rfl ?_
  refine v_iload_n (j := 1) (x := jI b) G dX9_eats_17 rfl rfl ?_
  refine v_iconst G dX9_eats_18 ?_
  refine v_ciF G (rn_V (As := [.int (jI b), .int (jI 4)]) (rest := [.ref (a 1)]) (q0 := 0) G (c_X9_at (b := b) (k := 4) (w := uI w (19 + 5 * b + 3) v) (kp := kp) (bf := bf) (ah := ah) (ik := ik) (fd := fd) (sp := sp) (lt := lt) (tp := tp) (tn := tn) (he := he) (ft := ft) (vl := vl) (bt := bt) (lg := lg) (ce := ce) (bw := bw) (a := a) ) gX9_eats_X9_at rfl hdX9_at ⟨rfl, rfl, Nat.le_of_ble_eq_true rfl, Nat.le_of_ble_eq_true rfl⟩ rfl rfl (Nat.le_of_ble_eq_true rfl) ⟨Nat.zero_le _, Nat.zero_le _⟩ rfl rfl dX9_eats_19) (fun r_4 u_6 e_5 => ?_)
  have e_5 : r_4 = jI (19 + 5 * b + 4) := e_5
  subst e_5
  refine v_world (ws' := (wR cI cL a (uI w (19 + 5 * b + 3) v) kp bf ah ik fd sp lt tp tn he ft vl bt lg ce bw)) rfl ?_
  refine v_iconst G dX9_eats_22 ?_
  refine v_iast (q0 := 1) (t0 := 0) (g := (uI w (19 + 5 * b + 3) v)) (z := 19 + 5 * b + 4) (x := 0) (ws' := (wR cI cL a (uI (uI w (19 + 5 * b + 3) v) (19 + 5 * b + 4) 0) kp bf ah ik fd sp lt tp tn he ft vl bt lg ce bw)) G rfl rfl (by omega) rfl dX9_eats_23 ?_
  refine v_world (ws' := (wR cI cL a (eatW w b v) kp bf ah ik fd sp lt tp tn he ft vl bt lg ce bw)) rfl ?_
  exact v_vret G () trivial rfl dX9_eats_24

set_option maxHeartbeats 4000000 in
set_option maxRecDepth 100000 in
theorem c_X9_eat (b v : Int) (hw : Wf w) (hr : (-2147483648 ≤ b ∧ b ≤ 2147483647) ∧ (-2147483648 ≤ v ∧ v ≤ 2147483647)) : Ci l yX9_eat wsX9_eat { frames := 3, cells := 0, slots := 0, locals := 68 } D (jT cI cL cB cS) [.ref (a 0), .int (jI b), .int (jI v)] (wR cI cL a w kp bf ah ik fd sp lt tp tn he ft vl bt lg ce bw) (S := (Int → Int) × (Int → Int)) (fun u => (wR cI cL a u.1 kp bf ah ik u.2 sp lt tp tn he ft vl bt lg ce bw)) (fun r u => ((¬ ((0 ≤ b ∧ b ≤ w 1 - 1) ∧ 0 ≤ v ∧ v ≤ 99)) ∧ r = jI (-1000000001) ∧ u.1 = w ∧ u.2 = uI fd 0 (fd 0 + 1)) ∨ ((((0 ≤ b ∧ b ≤ w 1 - 1) ∧ 0 ≤ v ∧ v ≤ 99)) ∧ r = jI (sSh (eatW w b v) b) ∧ u.1 = eatW w b v ∧ u.2 = fd)) := by
  refine Ci.mk (cc := cX9_eat) (maxL := 3) (rt := .int) (by decide) rfl (Nat.le_of_ble_eq_true rfl) rfl ?_
  intro p_ e_ s_ m_ b_ me_ c_ A_ G hnm
  have hm := hw.many
  refine v_aload_n (j := 0) (x := a 0) G dX9_eat_0 rfl rfl ?_
  refine v_iload_n (j := 1) (x := jI b) G dX9_eat_1 rfl rfl ?_
  refine v_ciF G (rn_V (As := [.int (jI b)]) (rest := []) (q0 := 0) G (c_X9_isBeing (b := b) (w := w) (kp := kp) (bf := bf) (ah := ah) (ik := ik) (fd := fd) (sp := sp) (lt := lt) (tp := tp) (tn := tn) (he := he) (ft := ft) (vl := vl) (bt := bt) (lg := lg) (ce := ce) (bw := bw) (a := a) (hw := hw) (hr := (by omega))) gX9_eat_X9_isBeing rfl hdX9_isBeing ⟨rfl, rfl, Nat.le_of_ble_eq_true rfl, Nat.le_of_ble_eq_true rfl⟩ rfl rfl (Nat.le_of_ble_eq_true rfl) ⟨Nat.zero_le _, Nat.zero_le _⟩ rfl rfl dX9_eat_2) (fun r_1 u_3 e_2 => ?_)
  have e_2 : r_1 = jI (b2 (0 ≤ b ∧ b ≤ w 1 - 1)) := e_2
  subst e_2
  refine v_world (ws' := (wR cI cL a w kp bf ah ik fd sp lt tp tn he ft vl bt lg ce bw)) rfl ?_
  refine v_ifb_eq (P := 0 ≤ b ∧ b ≤ w 1 - 1) (tgt := 18) G dX9_eat_5 (by decide) (fun c_4 => ?_) (fun c_4 => ?_)
  · skip
    refine v_aload_n (j := 0) (x := a 0) G dX9_eat_18 rfl rfl ?_
    refine v_iconst G dX9_eat_19 ?_
    refine v_ciF G (rn_V (As := [.int (jI 0)]) (rest := []) (q0 := 0) G (c_X9_no (k := 0) (w := w) (kp := kp) (bf := bf) (ah := ah) (ik := ik) (fd := fd) (sp := sp) (lt := lt) (tp := tp) (tn := tn) (he := he) (ft := ft) (vl := vl) (bt := bt) (lg := lg) (ce := ce) (bw := bw) (a := a) (hk := (by omega))) gX9_eat_X9_no rfl hdX9_no ⟨rfl, rfl, Nat.le_of_ble_eq_true rfl, Nat.le_of_ble_eq_true rfl⟩ rfl rfl (Nat.le_of_ble_eq_true rfl) ⟨Nat.zero_le _, Nat.zero_le _⟩ rfl rfl dX9_eat_20) (fun r_5 u_7 e_6 => ?_)
    have e_6 : r_5 = jI ((-1000000001) - 0) := e_6
    subst e_6
    refine v_world (ws' := (wR cI cL a w kp bf ah ik (uI fd 0 (fd 0 + 1)) sp lt tp tn he ft vl bt lg ce bw)) rfl ?_
    exact v_iret G (w, uI fd 0 (fd 0 + 1)) (by first | exact Or.inl ⟨(by omega), (by first | rfl | exact congrArg jI (by omega)), rfl, rfl⟩ | exact Or.inr ⟨(by omega), (by first | rfl | exact congrArg jI (by omega)), rfl, rfl⟩) rfl dX9_eat_23
  · skip
    refine v_iload_n (j := 2) (x := jI v) G dX9_eat_8 rfl rfl ?_
    refine v_iconst G dX9_eat_9 ?_
    refine v_bipush G dX9_eat_10 (by decide) ?_
    refine v_ciN G (rn_S (As := [.int (jI v), .int (jI 0), .int (jI 99)]) (rest := []) G (c_X9_in (v := v) (lo := 0) (hi := 99) (hr := (by omega))) gX9_eat_X9_in rfl hdX9_in ⟨rfl, rfl, Nat.le_of_ble_eq_true rfl, Nat.le_of_ble_eq_true rfl⟩ rfl rfl (Nat.le_of_ble_eq_true rfl) ⟨Nat.zero_le _, Nat.zero_le _⟩ dX9_eat_12) (fun r_8 u_10 e_9 => ?_)
    have e_9 : r_8 = jI (b2 (0 ≤ v ∧ v ≤ 99)) := e_9
    subst e_9
    refine v_ifb_ne (P := 0 ≤ v ∧ v ≤ 99) (tgt := 24) G dX9_eat_15 (by decide) (fun c_11 => ?_) (fun c_11 => ?_)
    · skip
      refine v_aload_n (j := 0) (x := a 0) G dX9_eat_24 rfl rfl ?_
      refine v_iload_n (j := 1) (x := jI b) G dX9_eat_25 rfl rfl ?_
      refine v_iload_n (j := 2) (x := jI v) G dX9_eat_26 rfl rfl ?_
      refine v_cvF G (rn_V (As := [.int (jI b), .int (jI v)]) (rest := []) (q0 := 0) G (c_X9_eats (b := b) (v := v) (w := w) (kp := kp) (bf := bf) (ah := ah) (ik := ik) (fd := fd) (sp := sp) (lt := lt) (tp := tp) (tn := tn) (he := he) (ft := ft) (vl := vl) (bt := bt) (lg := lg) (ce := ce) (bw := bw) (a := a) (hb := (by omega))) gX9_eat_X9_eats rfl hdX9_eats ⟨rfl, rfl, Nat.le_of_ble_eq_true rfl, Nat.le_of_ble_eq_true rfl⟩ rfl rfl (Nat.le_of_ble_eq_true rfl) ⟨Nat.zero_le _, Nat.zero_le _⟩ rfl rfl dX9_eat_27) (fun u_14 e_13 => ?_)
      refine v_world (ws' := (wR cI cL a (eatW w b v) kp bf ah ik fd sp lt tp tn he ft vl bt lg ce bw)) rfl ?_
      refine v_aload_n (j := 0) (x := a 0) G dX9_eat_30 rfl rfl ?_
      refine v_iload_n (j := 1) (x := jI b) G dX9_eat_31 rfl rfl ?_
      refine v_ciF G (rn_V (As := [.int (jI b)]) (rest := []) (q0 := 0) G (c_X9_shines (b := b) (w := eatW w b v) (kp := kp) (bf := bf) (ah := ah) (ik := ik) (fd := fd) (sp := sp) (lt := lt) (tp := tp) (tn := tn) (he := he) (ft := ft) (vl := vl) (bt := bt) (lg := lg) (ce := ce) (bw := bw) (a := a) (hw := (hw.eat (by omega) (by omega))) (hb := (by omega))) gX9_eat_X9_shines rfl hdX9_shines ⟨rfl, rfl, Nat.le_of_ble_eq_true rfl, Nat.le_of_ble_eq_true rfl⟩ rfl rfl (Nat.le_of_ble_eq_true rfl) ⟨Nat.zero_le _, Nat.zero_le _⟩ rfl rfl dX9_eat_32) (fun r_15 u_17 e_16 => ?_)
      have e_16 : r_15 = jI (sSh (eatW w b v) b) := e_16
      subst e_16
      refine v_world (ws' := (wR cI cL a (eatW w b v) kp bf ah ik fd sp lt tp tn he ft vl bt lg ce bw)) rfl ?_
      exact v_iret G ((eatW w b v), fd) (by first | exact Or.inl ⟨(by omega), (by first | rfl | exact congrArg jI (by omega)), rfl, rfl⟩ | exact Or.inr ⟨(by omega), (by first | rfl | exact congrArg jI (by omega)), rfl, rfl⟩) rfl dX9_eat_35
    · skip
      refine v_aload_n (j := 0) (x := a 0) G dX9_eat_18 rfl rfl ?_
      refine v_iconst G dX9_eat_19 ?_
      refine v_ciF G (rn_V (As := [.int (jI 0)]) (rest := []) (q0 := 0) G (c_X9_no (k := 0) (w := w) (kp := kp) (bf := bf) (ah := ah) (ik := ik) (fd := fd) (sp := sp) (lt := lt) (tp := tp) (tn := tn) (he := he) (ft := ft) (vl := vl) (bt := bt) (lg := lg) (ce := ce) (bw := bw) (a := a) (hk := (by omega))) gX9_eat_X9_no rfl hdX9_no ⟨rfl, rfl, Nat.le_of_ble_eq_true rfl, Nat.le_of_ble_eq_true rfl⟩ rfl rfl (Nat.le_of_ble_eq_true rfl) ⟨Nat.zero_le _, Nat.zero_le _⟩ rfl rfl dX9_eat_20) (fun r_18 u_20 e_19 => ?_)
      have e_19 : r_18 = jI ((-1000000001) - 0) := e_19
      subst e_19
      refine v_world (ws' := (wR cI cL a w kp bf ah ik (uI fd 0 (fd 0 + 1)) sp lt tp tn he ft vl bt lg ce bw)) rfl ?_
      exact v_iret G (w, uI fd 0 (fd 0 + 1)) (by first | exact Or.inl ⟨(by omega), (by first | rfl | exact congrArg jI (by omega)), rfl, rfl⟩ | exact Or.inr ⟨(by omega), (by first | rfl | exact congrArg jI (by omega)), rfl, rfl⟩) rfl dX9_eat_23

set_option maxHeartbeats 4000000 in
set_option maxRecDepth 100000 in
theorem c_X9_gives (b p : Int) (hw : Wf w) (hr : (-2147483648 ≤ b ∧ b ≤ 2147483647) ∧ (-2147483648 ≤ p ∧ p ≤ 2147483647)) : Ci l yX9_gives wsX9_gives { frames := 4, cells := 0, slots := 0, locals := 90 } D (jT cI cL cB cS) [.ref (a 0), .int (jI b), .int (jI p)] (wR cI cL a w kp bf ah ik fd sp lt tp tn he ft vl bt lg ce bw) (S := (Int → Int)) (fun fd2 => (wR cI cL a w kp bf ah ik fd2 sp lt tp tn he ft vl bt lg ce bw)) (fun r fd2 => ((((0 ≤ b ∧ b ≤ w 1 - 1) ∧ (0 ≤ p ∧ p ≤ 15))) ∧ r = jI (sGv w b p) ∧ fd2 = fd) ∨ ((¬ ((0 ≤ b ∧ b ≤ w 1 - 1) ∧ (0 ≤ p ∧ p ≤ 15))) ∧ r = jI (-1000000001) ∧ fd2 = uI fd 0 (fd 0 + 1))) := by
  refine Ci.mk (cc := cX9_gives) (maxL := 3) (rt := .int) (by decide) rfl (Nat.le_of_ble_eq_true rfl) rfl ?_
  intro p_ e_ s_ m_ b_ me_ c_ A_ G hnm
  have hm := hw.many
  refine v_aload_n (j := 0) (x := a 0) G dX9_gives_0 rfl rfl ?_
  refine v_iload_n (j := 1) (x := jI b) G dX9_gives_1 rfl rfl ?_
  refine v_ciF G (rn_V (As := [.int (jI b)]) (rest := []) (q0 := 0) G (c_X9_isBeing (b := b) (w := w) (kp := kp) (bf := bf) (ah := ah) (ik := ik) (fd := fd) (sp := sp) (lt := lt) (tp := tp) (tn := tn) (he := he) (ft := ft) (vl := vl) (bt := bt) (lg := lg) (ce := ce) (bw := bw) (a := a) (hw := hw) (hr := (by omega))) gX9_gives_X9_isBeing rfl hdX9_isBeing ⟨rfl, rfl, Nat.le_of_ble_eq_true rfl, Nat.le_of_ble_eq_true rfl⟩ rfl rfl (Nat.le_of_ble_eq_true rfl) ⟨Nat.zero_le _, Nat.zero_le _⟩ rfl rfl dX9_gives_2) (fun r_1 u_3 e_2 => ?_)
  have e_2 : r_1 = jI (b2 (0 ≤ b ∧ b ≤ w 1 - 1)) := e_2
  subst e_2
  refine v_world (ws' := (wR cI cL a w kp bf ah ik fd sp lt tp tn he ft vl bt lg ce bw)) rfl ?_
  refine v_ifb_eq (P := 0 ≤ b ∧ b ≤ w 1 - 1) (tgt := 24) G dX9_gives_5 (by decide) (fun c_4 => ?_) (fun c_4 => ?_)
  · skip
    refine v_aload_n (j := 0) (x := a 0) G dX9_gives_24 rfl rfl ?_
    refine v_iconst G dX9_gives_25 ?_
    refine v_ciF G (rn_V (As := [.int (jI 0)]) (rest := []) (q0 := 0) G (c_X9_no (k := 0) (w := w) (kp := kp) (bf := bf) (ah := ah) (ik := ik) (fd := fd) (sp := sp) (lt := lt) (tp := tp) (tn := tn) (he := he) (ft := ft) (vl := vl) (bt := bt) (lg := lg) (ce := ce) (bw := bw) (a := a) (hk := (by omega))) gX9_gives_X9_no rfl hdX9_no ⟨rfl, rfl, Nat.le_of_ble_eq_true rfl, Nat.le_of_ble_eq_true rfl⟩ rfl rfl (Nat.le_of_ble_eq_true rfl) ⟨Nat.zero_le _, Nat.zero_le _⟩ rfl rfl dX9_gives_26) (fun r_5 u_7 e_6 => ?_)
    have e_6 : r_5 = jI ((-1000000001) - 0) := e_6
    subst e_6
    refine v_world (ws' := (wR cI cL a w kp bf ah ik (uI fd 0 (fd 0 + 1)) sp lt tp tn he ft vl bt lg ce bw)) rfl ?_
    exact v_iret G (uI fd 0 (fd 0 + 1)) (by first | exact Or.inl ⟨(by omega), (by first | rfl | exact congrArg jI (by omega)), rfl⟩ | exact Or.inr ⟨(by omega), (by first | rfl | exact congrArg jI (by omega)), rfl⟩) rfl dX9_gives_29
  · skip
    refine v_iload_n (j := 2) (x := jI p) G dX9_gives_8 rfl rfl ?_
    refine v_ciN G (rn_S (As := [.int (jI p)]) (rest := []) G (c_X9_isPlace (p := p) (hr := (by omega))) gX9_gives_X9_isPlace rfl hdX9_isPlace ⟨rfl, rfl, Nat.le_of_ble_eq_true rfl, Nat.le_of_ble_eq_true rfl⟩ rfl rfl (Nat.le_of_ble_eq_true rfl) ⟨Nat.zero_le _, Nat.zero_le _⟩ dX9_gives_9) (fun r_8 u_10 e_9 => ?_)
    have e_9 : r_8 = jI (b2 (0 ≤ p ∧ p ≤ 15)) := e_9
    subst e_9
    refine v_ifb_eq (P := 0 ≤ p ∧ p ≤ 15) (tgt := 24) G dX9_gives_12 (by decide) (fun c_11 => ?_) (fun c_11 => ?_)
    · skip
      refine v_aload_n (j := 0) (x := a 0) G dX9_gives_24 rfl rfl ?_
      refine v_iconst G dX9_gives_25 ?_
      refine v_ciF G (rn_V (As := [.int (jI 0)]) (rest := []) (q0 := 0) G (c_X9_no (k := 0) (w := w) (kp := kp) (bf := bf) (ah := ah) (ik := ik) (fd := fd) (sp := sp) (lt := lt) (tp := tp) (tn := tn) (he := he) (ft := ft) (vl := vl) (bt := bt) (lg := lg) (ce := ce) (bw := bw) (a := a) (hk := (by omega))) gX9_gives_X9_no rfl hdX9_no ⟨rfl, rfl, Nat.le_of_ble_eq_true rfl, Nat.le_of_ble_eq_true rfl⟩ rfl rfl (Nat.le_of_ble_eq_true rfl) ⟨Nat.zero_le _, Nat.zero_le _⟩ rfl rfl dX9_gives_26) (fun r_12 u_14 e_13 => ?_)
      have e_13 : r_12 = jI ((-1000000001) - 0) := e_13
      subst e_13
      refine v_world (ws' := (wR cI cL a w kp bf ah ik (uI fd 0 (fd 0 + 1)) sp lt tp tn he ft vl bt lg ce bw)) rfl ?_
      exact v_iret G (uI fd 0 (fd 0 + 1)) (by first | exact Or.inl ⟨(by omega), (by first | rfl | exact congrArg jI (by omega)), rfl⟩ | exact Or.inr ⟨(by omega), (by first | rfl | exact congrArg jI (by omega)), rfl⟩) rfl dX9_gives_29
    · skip
      refine v_aload_n (j := 0) (x := a 0) G dX9_gives_15 rfl rfl ?_
      refine v_iload_n (j := 1) (x := jI b) G dX9_gives_16 rfl rfl ?_
      refine v_iload_n (j := 2) (x := jI p) G dX9_gives_17 rfl rfl ?_
      refine v_ciF G (rn_V (As := [.int (jI b), .int (jI p)]) (rest := []) (q0 := 0) G (c_X9_givesTo (b := b) (p := p) (w := w) (kp := kp) (bf := bf) (ah := ah) (ik := ik) (fd := fd) (sp := sp) (lt := lt) (tp := tp) (tn := tn) (he := he) (ft := ft) (vl := vl) (bt := bt) (lg := lg) (ce := ce) (bw := bw) (a := a) (hw := hw) (hb := (by omega))) gX9_gives_X9_givesTo rfl hdX9_givesTo ⟨rfl, rfl, Nat.le_of_ble_eq_true rfl, Nat.le_of_ble_eq_true rfl⟩ rfl rfl (Nat.le_of_ble_eq_true rfl) ⟨Nat.zero_le _, Nat.zero_le _⟩ rfl rfl dX9_gives_18) (fun r_15 u_17 e_16 => ?_)
      have e_16 : r_15 = jI (sGv w b p) := e_16
      subst e_16
      refine v_world (ws' := (wR cI cL a w kp bf ah ik fd sp lt tp tn he ft vl bt lg ce bw)) rfl ?_
      refine v_goto (tgt := 29) G dX9_gives_21 (by decide) ?_
      exact v_iret G (fd) (by first | exact Or.inl ⟨(by omega), (by first | rfl | exact congrArg jI (by omega)), rfl⟩ | exact Or.inr ⟨(by omega), (by first | rfl | exact congrArg jI (by omega)), rfl⟩) rfl dX9_gives_29

set_option maxHeartbeats 4000000 in
set_option maxRecDepth 100000 in
theorem c_X9_seen (p : Int) (hw : Wf w) (hr : (-2147483648 ≤ p ∧ p ≤ 2147483647)) : Ci l yX9_seen wsX9_seen { frames := 4, cells := 0, slots := 0, locals := 90 } D (jT cI cL cB cS) [.ref (a 0), .int (jI p)] (wR cI cL a w kp bf ah ik fd sp lt tp tn he ft vl bt lg ce bw) (S := (Int → Int)) (fun fd2 => (wR cI cL a w kp bf ah ik fd2 sp lt tp tn he ft vl bt lg ce bw)) (fun r fd2 => ((¬ (0 ≤ p ∧ p ≤ 15)) ∧ r = jI (-1000000001) ∧ fd2 = uI fd 0 (fd 0 + 1)) ∨ (((0 ≤ p ∧ p ≤ 15)) ∧ r = stN (fun x_ => 1 ≤ sGv w x_ p) (w 1).toNat ∧ fd2 = fd)) := by
  refine Ci.mk (cc := cX9_seen) (maxL := 4) (rt := .int) (by decide) rfl (Nat.le_of_ble_eq_true rfl) rfl ?_
  intro p_ e_ s_ m_ b_ me_ c_ A_ G hnm
  have hm := hw.many
  have k_X9 : ∀ w ∈ u_ws RX9 TX9 17, w ∈ wsX9_seen := fun _ h => List.mem_cons_of_mem _ (List.mem_append_right _ h)
  have q_1 : Cond.fieldLink RX9 9 "SupperLightModel" "s" "[I" ∈ wsX9_seen := List.mem_of_getElem? (i := 1) rfl
  refine v_iload_n (j := 1) (x := jI p) G dX9_seen_0 rfl rfl ?_
  refine v_ciN G (rn_S (As := [.int (jI p)]) (rest := []) G (c_X9_isPlace (p := p) (hr := (by omega))) gX9_seen_X9_isPlace rfl hdX9_isPlace ⟨rfl, rfl, Nat.le_of_ble_eq_true rfl, Nat.le_of_ble_eq_true rfl⟩ rfl rfl (Nat.le_of_ble_eq_true rfl) ⟨Nat.zero_le _, Nat.zero_le _⟩ dX9_seen_1) (fun r_1 u_3 e_2 => ?_)
  have e_2 : r_1 = jI (b2 (0 ≤ p ∧ p ≤ 15)) := e_2
  subst e_2
  refine v_ifb_ne (P := 0 ≤ p ∧ p ≤ 15) (tgt := 13) G dX9_seen_4 (by decide) (fun c_4 => ?_) (fun c_4 => ?_)
  · skip
    refine v_iconst G dX9_seen_13 ?_
    refine v_top (x := jI 0) (y := stN (fun x_ => 1 ≤ sGv w x_ p) 0) rfl ?_
    refine v_istore_n (lv' := [(2, .int (stN (fun x_ => 1 ≤ sGv w x_ p) 0)), (0, .ref (a 0)), (1, .int (jI p))]) G dX9_seen_14 rfl (by decide) rfl ?_
    refine v_iconst G dX9_seen_15 ?_
    refine v_istore_n (lv' := [(3, .int (jI 0)), (2, .int (stN (fun x_ => 1 ≤ sGv w x_ p) 0)), (0, .ref (a 0)), (1, .int (jI p))]) G dX9_seen_16 rfl (by decide) rfl ?_
    refine v_locs (lv' := [(3, .int (jI 0)), (2, .int (stN (fun x_ => 1 ≤ sGv w x_ p) 0)), (0, .ref (a 0)), (1, .int (jI p))]) [0, 1, 2, 3] rfl ?_
    refine v_loop1 (fun (k : Nat) => [(3, .int (jI (k : Int))), (2, .int (stN (fun x_ => 1 ≤ sGv w x_ p) k)), (0, .ref (a 0)), (1, .int (jI p))]) (fun (k : Nat) => (wR cI cL a w kp bf ah ik fd sp lt tp tn he ft vl bt lg ce bw)) (fun (k : Nat) => (k : Int) ≤ w 1) (fun (k : Nat) => (w 1).toNat - k) 0 (by omega) rfl rfl ?_
    intro k I_5 ih_6
    refine v_iload_n (j := 0) (x := jI (k : Int)) G dX9_seen_17 rfl rfl ?_
    refine v_aload_n (j := 2) (x := a 0) G dX9_seen_18 rfl rfl ?_
    refine v_get (q0 := 0) (k := 0) (v := .ref (a 1)) G k_X9 rfl rfl (by decide) q_1 rfl rfl dX9_seen_19 ?_
    refine v_iconst G dX9_seen_22 ?_
    refine v_iald (q0 := 1) (t0 := 0) (g := w) (z := 1) G rfl rfl (by omega) dX9_seen_23 ?_
    refine v_icmp_ge (a := (k : Int)) (b := w 1) (tgt := 53) G dX9_seen_24 (by decide) (by omega) (fun c_7 => ?_) (fun c_7 => ?_)
    · skip
      obtain rfl : k = (w 1).toNat := by omega
      refine v_iload_n (j := 1) (x := stN (fun x_ => 1 ≤ sGv w x_ p) ((w 1).toNat)) G dX9_seen_53 rfl rfl ?_
      exact v_iret G (fd) (by first | exact Or.inl ⟨(by omega), (by first | rfl | exact congrArg jI (by omega)), rfl⟩ | exact Or.inr ⟨(by omega), (by first | rfl | exact congrArg jI (by omega)), rfl⟩) rfl dX9_seen_54
    · skip
      have hl1 := sGv_r hw (b := (k : Int)) (p := p) (by omega) (by omega)
      refine v_iload_n (j := 1) (x := stN (fun x_ => 1 ≤ sGv w x_ p) k) G dX9_seen_27 rfl rfl ?_
      refine v_aload_n (j := 2) (x := a 0) G dX9_seen_28 rfl rfl ?_
      refine v_iload_n (j := 0) (x := jI (k : Int)) G dX9_seen_29 rfl rfl ?_
      refine v_iload_n (j := 3) (x := jI p) G dX9_seen_30 rfl rfl ?_
      refine v_ciF G (rn_V (As := [.int (jI (k : Int)), .int (jI p)]) (rest := [.int (stN (fun x_ => 1 ≤ sGv w x_ p) k)]) (q0 := 0) G (c_X9_givesTo (b := (k : Int)) (p := p) (w := w) (kp := kp) (bf := bf) (ah := ah) (ik := ik) (fd := fd) (sp := sp) (lt := lt) (tp := tp) (tn := tn) (he := he) (ft := ft) (vl := vl) (bt := bt) (lg := lg) (ce := ce) (bw := bw) (a := a) (hw := hw) (hb := (by omega))) gX9_seen_X9_givesTo rfl hdX9_givesTo ⟨rfl, rfl, Nat.le_of_ble_eq_true rfl, Nat.le_of_ble_eq_true rfl⟩ rfl rfl (Nat.le_of_ble_eq_true rfl) ⟨Nat.zero_le _, Nat.zero_le _⟩ rfl rfl dX9_seen_31) (fun r_8 u_10 e_9 => ?_)
      have e_9 : r_8 = jI (sGv w (k : Int) p) := e_9
      subst e_9
      refine v_world (ws' := (wR cI cL a w kp bf ah ik fd sp lt tp tn he ft vl bt lg ce bw)) rfl ?_
      refine v_iconst G dX9_seen_34 ?_
      refine v_cut (pc' := 45) (lv' := [(3, .int (jI (k : Int))), (2, .int (stN (fun x_ => 1 ≤ sGv w x_ p) k)), (0, .ref (a 0)), (1, .int (jI p))]) (st' := [.int (btI (1 ≤ sGv w (k : Int) p) (k : Int)), .int (stN (fun x_ => 1 ≤ sGv w x_ p) k)]) (ws' := (wR cI cL a w kp bf ah ik fd sp lt tp tn he ft vl bt lg ce bw)) ?_ (fun J_11 => ?_)
      · skip
        refine v_ior (v := (stN (fun x_ => 1 ≤ sGv w x_ p) k) ||| (btI (1 ≤ sGv w (k : Int) p) (k : Int))) G dX9_seen_45 rfl ?_
        refine v_top (x := (stN (fun x_ => 1 ≤ sGv w x_ p) k) ||| (btI (1 ≤ sGv w (k : Int) p) (k : Int))) (y := stN (fun x_ => 1 ≤ sGv w x_ p) (k + 1)) rfl ?_
        refine v_istore_n (lv' := [(2, .int (stN (fun x_ => 1 ≤ sGv w x_ p) (k + 1))), (3, .int (jI (k : Int))), (0, .ref (a 0)), (1, .int (jI p))]) G dX9_seen_46 rfl (by decide) rfl ?_
        refine v_iinc (k := 1) (z := (k : Int)) (z' := ((k + 1 : Nat) : Int)) (lv' := [(3, .int (jI ((k + 1 : Nat) : Int))), (2, .int (stN (fun x_ => 1 ≤ sGv w x_ p) (k + 1))), (0, .ref (a 0)), (1, .int (jI p))]) G dX9_seen_47 rfl (by omega) (by decide) rfl ?_
        refine v_goto (tgt := 17) G dX9_seen_50 (by decide) ?_
        exact ih_6 (k + 1) (by omega) (by omega)
      · skip
        refine v_icmp_lt (a := sGv w (k : Int) p) (b := 1) (tgt := 44) G dX9_seen_35 (by decide) (by omega) (fun c_12 => ?_) (fun c_12 => ?_)
        · skip
          refine v_iconst G dX9_seen_44 ?_
          refine v_top (x := jI 0) (y := btI (1 ≤ sGv w (k : Int) p) (k : Int)) (btI_f (by omega)).symm ?_
          exact J_11
        · skip
          refine v_iconst G dX9_seen_38 ?_
          refine v_iload_n (j := 0) (x := jI (k : Int)) G dX9_seen_39 rfl rfl ?_
          refine v_ishl (v := (jI 1) <<< ((jI (k : Int)) &&& 31)) G dX9_seen_40 rfl ?_
          refine v_goto (tgt := 45) G dX9_seen_41 (by decide) ?_
          refine v_top (x := (jI 1) <<< ((jI (k : Int)) &&& 31)) (y := btI (1 ≤ sGv w (k : Int) p) (k : Int)) (btI_t (by omega)).symm ?_
          exact J_11
  · skip
    refine v_aload_n (j := 0) (x := a 0) G dX9_seen_7 rfl rfl ?_
    refine v_iconst G dX9_seen_8 ?_
    refine v_ciF G (rn_V (As := [.int (jI 0)]) (rest := []) (q0 := 0) G (c_X9_no (k := 0) (w := w) (kp := kp) (bf := bf) (ah := ah) (ik := ik) (fd := fd) (sp := sp) (lt := lt) (tp := tp) (tn := tn) (he := he) (ft := ft) (vl := vl) (bt := bt) (lg := lg) (ce := ce) (bw := bw) (a := a) (hk := (by omega))) gX9_seen_X9_no rfl hdX9_no ⟨rfl, rfl, Nat.le_of_ble_eq_true rfl, Nat.le_of_ble_eq_true rfl⟩ rfl rfl (Nat.le_of_ble_eq_true rfl) ⟨Nat.zero_le _, Nat.zero_le _⟩ rfl rfl dX9_seen_9) (fun r_13 u_15 e_14 => ?_)
    have e_14 : r_13 = jI ((-1000000001) - 0) := e_14
    subst e_14
    refine v_world (ws' := (wR cI cL a w kp bf ah ik (uI fd 0 (fd 0 + 1)) sp lt tp tn he ft vl bt lg ce bw)) rfl ?_
    exact v_iret G (uI fd 0 (fd 0 + 1)) (by first | exact Or.inl ⟨(by omega), (by first | rfl | exact congrArg jI (by omega)), rfl⟩ | exact Or.inr ⟨(by omega), (by first | rfl | exact congrArg jI (by omega)), rfl⟩) rfl dX9_seen_12

set_option maxHeartbeats 4000000 in
set_option maxRecDepth 100000 in
theorem c_X9_addsTask (p h n : Int) (hw : Wf w) (hn : w 2 < 8) : Cv l yX9_addsTask wsX9_addsTask { frames := 0, cells := 0, slots := 0, locals := 0 } D (jT cI cL cB cS) [.ref (a 0), .int (jI p), .int (jI h), .int (jI n)] (wR cI cL a w kp bf ah ik fd sp lt tp tn he ft vl bt lg ce bw) (S := Unit) (fun _ => (wR cI cL a (addTx w p h n) kp bf ah ik fd sp lt tp tn he ft vl bt lg ce bw)) (fun _ => True) := by
  refine Cv.mk (cc := cX9_addsTask) (maxL := 5) (by decide) rfl (Nat.le_of_ble_eq_true rfl) rfl ?_
  intro p_ e_ s_ m_ b_ me_ c_ A_ G hnm
  have hm := hw.many
  have hmt := hw.tasks
  have hh := hw.hour
  have k_X9 : ∀ w ∈ u_ws RX9 TX9 17, w ∈ wsX9_addsTask := fun _ h => List.mem_cons_of_mem _ (List.mem_append_right _ h)
  have q_1 : Cond.fieldLink RX9 9 "SupperLightModel" "s" "[I" ∈ wsX9_addsTask := List.mem_of_getElem? (i := 1) rfl
  refine v_bipush G dX9_addsTask_0 (by decide) ?_
  refine v_iconst G dX9_addsTask_2 ?_
  refine v_aload_n (j := 0) (x := a 0) G dX9_addsTask_3 rfl rfl ?_
  refine v_get (q0 := 0) (k := 0) (v := .ref (a 1)) G k_X9 rfl rfl (by decide) q_1 rfl rfl dX9_addsTask_4 ?_
  refine v_iconst G dX9_addsTask_7 ?_
  refine v_iald (q0 := 1) (t0 := 0) (g := w) (z := 2) G rfl rfl (by omega) dX9_addsTask_8 ?_
  refine v_imul (z := 3 * (w 2)) G dX9_addsTask_9 rfl ?_
  refine v_iadd (z := 69 + (3 * (w 2))) G dX9_addsTask_10 rfl ?_
  refine v_istore (lv' := [(4, .int (jI (69 + (3 * (w 2))))), (0, .ref (a 0)), (1, .int (jI p)), (2, .int (jI h)), (3, .int (jI n))]) G dX9_addsTask_11 (by decide) rfl ?_
  refine v_aload_n (j := 1) (x := a 0) G dX9_addsTask_13 rfl rfl ?_
  refine v_get (q0 := 0) (k := 0) (v := .ref (a 1)) G k_X9 rfl rfl (by decide) q_1 rfl rfl dX9_addsTask_14 ?_
  refine v_iload (j := 0) (x := jI (69 + (3 * (w 2)))) G dX9_addsTask_17 rfl ?_
  refine v_iconst G dX9_addsTask_19 ?_
  refine v_iadd (z := (69 + (3 * (w 2))) + 0) G dX9_addsTask_20 rfl ?_
  refine v_iload_n (j := 2) (x := jI p) G dX9_addsTask_21 rfl rfl ?_
  refine v_iast (q0 := 1) (t0 := 0) (g := w) (z := (69 + (3 * (w 2))) + 0) (x := p) (ws' := (wR cI cL a (uI w ((69 + (3 * (w 2))) + 0) p) kp bf ah ik fd sp lt tp tn he ft vl bt lg ce bw)) G rfl rfl (by omega) rfl dX9_addsTask_22 ?_
  refine v_world (ws' := (wR cI cL a (uI w (69 + 3 * w 2 + 0) p) kp bf ah ik fd sp lt tp tn he ft vl bt lg ce bw)) rfl ?_
  refine v_aload_n (j := 1) (x := a 0) G dX9_addsTask_23 rfl rfl ?_
  refine v_get (q0 := 0) (k := 0) (v := .ref (a 1)) G k_X9 rfl rfl (by decide) q_1 rfl rfl dX9_addsTask_24 ?_
  refine v_iload (j := 0) (x := jI (69 + (3 * (w 2)))) G dX9_addsTask_27 rfl ?_
  refine v_iconst G dX9_addsTask_29 ?_
  refine v_iadd (z := (69 + (3 * (w 2))) + 1) G dX9_addsTask_30 rfl ?_
  refine v_iload_n (j := 3) (x := jI h) G dX9_addsTask_31 rfl rfl ?_
  refine v_iast (q0 := 1) (t0 := 0) (g := uI w (69 + 3 * w 2 + 0) p) (z := (69 + (3 * (w 2))) + 1) (x := h) (ws' := (wR cI cL a (uI (uI w (69 + 3 * w 2 + 0) p) ((69 + (3 * (w 2))) + 1) h) kp bf ah ik fd sp lt tp tn he ft vl bt lg ce bw)) G rfl rfl (by omega) rfl dX9_addsTask_32 ?_
  refine v_world (ws' := (wR cI cL a (uI (uI w (69 + 3 * w 2 + 0) p) (69 + 3 * w 2 + 1) h) kp bf ah ik fd sp lt tp tn he ft vl bt lg ce bw)) rfl ?_
  refine v_aload_n (j := 1) (x := a 0) G dX9_addsTask_33 rfl rfl ?_
  refine v_get (q0 := 0) (k := 0) (v := .ref (a 1)) G k_X9 rfl rfl (by decide) q_1 rfl rfl dX9_addsTask_34 ?_
  refine v_iload (j := 0) (x := jI (69 + (3 * (w 2)))) G dX9_addsTask_37 rfl ?_
  refine v_iconst G dX9_addsTask_39 ?_
  refine v_iadd (z := (69 + (3 * (w 2))) + 2) G dX9_addsTask_40 rfl ?_
  refine v_iload_n (j := 4) (x := jI n) G dX9_addsTask_41 rfl rfl ?_
  refine v_iast (q0 := 1) (t0 := 0) (g := uI (uI w (69 + 3 * w 2 + 0) p) (69 + 3 * w 2 + 1) h) (z := (69 + (3 * (w 2))) + 2) (x := n) (ws' := (wR cI cL a (uI (uI (uI w (69 + 3 * w 2 + 0) p) (69 + 3 * w 2 + 1) h) ((69 + (3 * (w 2))) + 2) n) kp bf ah ik fd sp lt tp tn he ft vl bt lg ce bw)) G rfl rfl (by omega) rfl dX9_addsTask_42 ?_
  refine v_world (ws' := (wR cI cL a (uI (uI (uI w (69 + 3 * w 2 + 0) p) (69 + 3 * w 2 + 1) h) (69 + 3 * w 2 + 2) n) kp bf ah ik fd sp lt tp tn he ft vl bt lg ce bw)) rfl ?_
  refine v_aload_n (j := 1) (x := a 0) G dX9_addsTask_43 rfl rfl ?_
  refine v_get (q0 := 0) (k := 0) (v := .ref (a 1)) G k_X9 rfl rfl (by decide) q_1 rfl rfl dX9_addsTask_44 ?_
  refine v_iconst G dX9_addsTask_47 ?_
  refine v_dup2 G dX9_addsTask_48 rfl rfl ?_
  refine v_iald (q0 := 1) (t0 := 0) (g := uI (uI (uI w (69 + 3 * w 2 + 0) p) (69 + 3 * w 2 + 1) h) (69 + 3 * w 2 + 2) n) (z := 2) G rfl rfl (by omega) dX9_addsTask_49 ?_
  refine v_iconst G dX9_addsTask_50 ?_
  refine v_iadd (z := ((uI (uI (uI w (69 + 3 * w 2 + 0) p) (69 + 3 * w 2 + 1) h) (69 + 3 * w 2 + 2) n) 2) + 1) G dX9_addsTask_51 rfl ?_
  refine v_topj (x := ((uI (uI (uI w (69 + 3 * w 2 + 0) p) (69 + 3 * w 2 + 1) h) (69 + 3 * w 2 + 2) n) 2) + 1) (y := w 2 + 1) (by rw [uI_n _ _ (by omega), uI_n _ _ (by omega), uI_n _ _ (by omega)]) ?_
  refine v_iast (q0 := 1) (t0 := 0) (g := uI (uI (uI w (69 + 3 * w 2 + 0) p) (69 + 3 * w 2 + 1) h) (69 + 3 * w 2 + 2) n) (z := 2) (x := w 2 + 1) (ws' := (wR cI cL a (uI (uI (uI (uI w (69 + 3 * w 2 + 0) p) (69 + 3 * w 2 + 1) h) (69 + 3 * w 2 + 2) n) 2 (w 2 + 1)) kp bf ah ik fd sp lt tp tn he ft vl bt lg ce bw)) G rfl rfl (by omega) rfl dX9_addsTask_52 ?_
  refine v_world (ws' := (wR cI cL a (addTx w p h n) kp bf ah ik fd sp lt tp tn he ft vl bt lg ce bw)) rfl ?_
  exact v_vret G () trivial rfl dX9_addsTask_53

set_option maxHeartbeats 4000000 in
set_option maxRecDepth 100000 in
theorem c_X9_task (p h n : Int) (hw : Wf w) (hr : (-2147483648 ≤ p ∧ p ≤ 2147483647) ∧ (-2147483648 ≤ h ∧ h ≤ 2147483647) ∧ (-2147483648 ≤ n ∧ n ≤ 2147483647)) : Ci l yX9_task wsX9_task { frames := 2, cells := 0, slots := 0, locals := 42 } D (jT cI cL cB cS) [.ref (a 0), .int (jI p), .int (jI h), .int (jI n)] (wR cI cL a w kp bf ah ik fd sp lt tp tn he ft vl bt lg ce bw) (S := (Int → Int) × (Int → Int)) (fun u => (wR cI cL a u.1 kp bf ah ik u.2 sp lt tp tn he ft vl bt lg ce bw)) (fun r u => ((¬ ((0 ≤ p ∧ p ≤ 15) ∧ (0 ≤ h ∧ h ≤ 99) ∧ 1 ≤ n ∧ n ≤ 99)) ∧ r = jI (-1000000001) ∧ u.1 = w ∧ u.2 = uI fd 0 (fd 0 + 1)) ∨ ((((0 ≤ p ∧ p ≤ 15) ∧ (0 ≤ h ∧ h ≤ 99) ∧ 1 ≤ n ∧ n ≤ 99) ∧ w 2 = 8) ∧ r = jI (-1000000002) ∧ u.1 = w ∧ u.2 = uI fd 1 (fd 1 + 1)) ∨ ((((0 ≤ p ∧ p ≤ 15) ∧ (0 ≤ h ∧ h ≤ 99) ∧ 1 ≤ n ∧ n ≤ 99) ∧ w 2 < 8) ∧ r = jI (w 2) ∧ u.1 = addTx w p h n ∧ u.2 = fd)) := by
  refine Ci.mk (cc := cX9_task) (maxL := 4) (rt := .int) (by decide) rfl (Nat.le_of_ble_eq_true rfl) rfl ?_
  intro p_ e_ s_ m_ b_ me_ c_ A_ G hnm
  have hm := hw.many
  have hmt := hw.tasks
  have hh := hw.hour
  have k_X9 : ∀ w ∈ u_ws RX9 TX9 17, w ∈ wsX9_task := fun _ h => List.mem_cons_of_mem _ (List.mem_append_right _ h)
  have q_1 : Cond.fieldLink RX9 9 "SupperLightModel" "s" "[I" ∈ wsX9_task := List.mem_of_getElem? (i := 1) rfl
  refine v_iload_n (j := 1) (x := jI p) G dX9_task_0 rfl rfl ?_
  refine v_ciN G (rn_S (As := [.int (jI p)]) (rest := []) G (c_X9_isPlace (p := p) (hr := (by omega))) gX9_task_X9_isPlace rfl hdX9_isPlace ⟨rfl, rfl, Nat.le_of_ble_eq_true rfl, Nat.le_of_ble_eq_true rfl⟩ rfl rfl (Nat.le_of_ble_eq_true rfl) ⟨Nat.zero_le _, Nat.zero_le _⟩ dX9_task_1) (fun r_1 u_3 e_2 => ?_)
  have e_2 : r_1 = jI (b2 (0 ≤ p ∧ p ≤ 15)) := e_2
  subst e_2
  refine v_ifb_eq (P := 0 ≤ p ∧ p ≤ 15) (tgt := 27) G dX9_task_4 (by decide) (fun c_4 => ?_) (fun c_4 => ?_)
  · skip
    refine v_aload_n (j := 0) (x := a 0) G dX9_task_27 rfl rfl ?_
    refine v_iconst G dX9_task_28 ?_
    refine v_ciF G (rn_V (As := [.int (jI 0)]) (rest := []) (q0 := 0) G (c_X9_no (k := 0) (w := w) (kp := kp) (bf := bf) (ah := ah) (ik := ik) (fd := fd) (sp := sp) (lt := lt) (tp := tp) (tn := tn) (he := he) (ft := ft) (vl := vl) (bt := bt) (lg := lg) (ce := ce) (bw := bw) (a := a) (hk := (by omega))) gX9_task_X9_no rfl hdX9_no ⟨rfl, rfl, Nat.le_of_ble_eq_true rfl, Nat.le_of_ble_eq_true rfl⟩ rfl rfl (Nat.le_of_ble_eq_true rfl) ⟨Nat.zero_le _, Nat.zero_le _⟩ rfl rfl dX9_task_29) (fun r_5 u_7 e_6 => ?_)
    have e_6 : r_5 = jI ((-1000000001) - 0) := e_6
    subst e_6
    refine v_world (ws' := (wR cI cL a w kp bf ah ik (uI fd 0 (fd 0 + 1)) sp lt tp tn he ft vl bt lg ce bw)) rfl ?_
    exact v_iret G (w, uI fd 0 (fd 0 + 1)) (by first | exact Or.inl ⟨(by omega), (by first | rfl | exact congrArg jI (by omega)), rfl, rfl⟩ | exact Or.inr (Or.inl ⟨(by omega), (by first | rfl | exact congrArg jI (by omega)), rfl, rfl⟩) | exact Or.inr (Or.inr ⟨(by omega), (by first | rfl | exact congrArg jI (by omega)), rfl, rfl⟩)) rfl dX9_task_32
  · skip
    refine v_iload_n (j := 2) (x := jI h) G dX9_task_7 rfl rfl ?_
    refine v_iconst G dX9_task_8 ?_
    refine v_bipush G dX9_task_9 (by decide) ?_
    refine v_ciN G (rn_S (As := [.int (jI h), .int (jI 0), .int (jI 99)]) (rest := []) G (c_X9_in (v := h) (lo := 0) (hi := 99) (hr := (by omega))) gX9_task_X9_in rfl hdX9_in ⟨rfl, rfl, Nat.le_of_ble_eq_true rfl, Nat.le_of_ble_eq_true rfl⟩ rfl rfl (Nat.le_of_ble_eq_true rfl) ⟨Nat.zero_le _, Nat.zero_le _⟩ dX9_task_11) (fun r_8 u_10 e_9 => ?_)
    have e_9 : r_8 = jI (b2 (0 ≤ h ∧ h ≤ 99)) := e_9
    subst e_9
    refine v_ifb_eq (P := 0 ≤ h ∧ h ≤ 99) (tgt := 27) G dX9_task_14 (by decide) (fun c_11 => ?_) (fun c_11 => ?_)
    · skip
      refine v_aload_n (j := 0) (x := a 0) G dX9_task_27 rfl rfl ?_
      refine v_iconst G dX9_task_28 ?_
      refine v_ciF G (rn_V (As := [.int (jI 0)]) (rest := []) (q0 := 0) G (c_X9_no (k := 0) (w := w) (kp := kp) (bf := bf) (ah := ah) (ik := ik) (fd := fd) (sp := sp) (lt := lt) (tp := tp) (tn := tn) (he := he) (ft := ft) (vl := vl) (bt := bt) (lg := lg) (ce := ce) (bw := bw) (a := a) (hk := (by omega))) gX9_task_X9_no rfl hdX9_no ⟨rfl, rfl, Nat.le_of_ble_eq_true rfl, Nat.le_of_ble_eq_true rfl⟩ rfl rfl (Nat.le_of_ble_eq_true rfl) ⟨Nat.zero_le _, Nat.zero_le _⟩ rfl rfl dX9_task_29) (fun r_12 u_14 e_13 => ?_)
      have e_13 : r_12 = jI ((-1000000001) - 0) := e_13
      subst e_13
      refine v_world (ws' := (wR cI cL a w kp bf ah ik (uI fd 0 (fd 0 + 1)) sp lt tp tn he ft vl bt lg ce bw)) rfl ?_
      exact v_iret G (w, uI fd 0 (fd 0 + 1)) (by first | exact Or.inl ⟨(by omega), (by first | rfl | exact congrArg jI (by omega)), rfl, rfl⟩ | exact Or.inr (Or.inl ⟨(by omega), (by first | rfl | exact congrArg jI (by omega)), rfl, rfl⟩) | exact Or.inr (Or.inr ⟨(by omega), (by first | rfl | exact congrArg jI (by omega)), rfl, rfl⟩)) rfl dX9_task_32
    · skip
      refine v_iload_n (j := 3) (x := jI n) G dX9_task_17 rfl rfl ?_
      refine v_iconst G dX9_task_18 ?_
      refine v_bipush G dX9_task_19 (by decide) ?_
      refine v_ciN G (rn_S (As := [.int (jI n), .int (jI 1), .int (jI 99)]) (rest := []) G (c_X9_in (v := n) (lo := 1) (hi := 99) (hr := (by omega))) gX9_task_X9_in rfl hdX9_in ⟨rfl, rfl, Nat.le_of_ble_eq_true rfl, Nat.le_of_ble_eq_true rfl⟩ rfl rfl (Nat.le_of_ble_eq_true rfl) ⟨Nat.zero_le _, Nat.zero_le _⟩ dX9_task_21) (fun r_15 u_17 e_16 => ?_)
      have e_16 : r_15 = jI (b2 (1 ≤ n ∧ n ≤ 99)) := e_16
      subst e_16
      refine v_ifb_ne (P := 1 ≤ n ∧ n ≤ 99) (tgt := 33) G dX9_task_24 (by decide) (fun c_18 => ?_) (fun c_18 => ?_)
      · skip
        refine v_aload_n (j := 0) (x := a 0) G dX9_task_33 rfl rfl ?_
        refine v_get (q0 := 0) (k := 0) (v := .ref (a 1)) G k_X9 rfl rfl (by decide) q_1 rfl rfl dX9_task_34 ?_
        refine v_iconst G dX9_task_37 ?_
        refine v_iald (q0 := 1) (t0 := 0) (g := w) (z := 2) G rfl rfl (by omega) dX9_task_38 ?_
        refine v_bipush G dX9_task_39 (by decide) ?_
        refine v_icmp_ne (a := w 2) (b := 8) (tgt := 50) G dX9_task_41 (by decide) (by omega) (fun c_19 => ?_) (fun c_19 => ?_)
        · skip
          refine v_aload_n (j := 0) (x := a 0) G dX9_task_50 rfl rfl ?_
          refine v_iload_n (j := 1) (x := jI p) G dX9_task_51 rfl rfl ?_
          refine v_iload_n (j := 2) (x := jI h) G dX9_task_52 rfl rfl ?_
          refine v_iload_n (j := 3) (x := jI n) G dX9_task_53 rfl rfl ?_
          refine v_cvF G (rn_V (As := [.int (jI p), .int (jI h), .int (jI n)]) (rest := []) (q0 := 0) G (c_X9_addsTask (p := p) (h := h) (n := n) (w := w) (kp := kp) (bf := bf) (ah := ah) (ik := ik) (fd := fd) (sp := sp) (lt := lt) (tp := tp) (tn := tn) (he := he) (ft := ft) (vl := vl) (bt := bt) (lg := lg) (ce := ce) (bw := bw) (a := a) (hw := hw) (hn := (by omega))) gX9_task_X9_addsTask rfl hdX9_addsTask ⟨rfl, rfl, Nat.le_of_ble_eq_true rfl, Nat.le_of_ble_eq_true rfl⟩ rfl rfl (Nat.le_of_ble_eq_true rfl) ⟨Nat.zero_le _, Nat.zero_le _⟩ rfl rfl dX9_task_54) (fun u_22 e_21 => ?_)
          refine v_world (ws' := (wR cI cL a (addTx w p h n) kp bf ah ik fd sp lt tp tn he ft vl bt lg ce bw)) rfl ?_
          refine v_aload_n (j := 0) (x := a 0) G dX9_task_57 rfl rfl ?_
          refine v_get (q0 := 0) (k := 0) (v := .ref (a 1)) G k_X9 rfl rfl (by decide) q_1 rfl rfl dX9_task_58 ?_
          refine v_iconst G dX9_task_61 ?_
          refine v_iald (q0 := 1) (t0 := 0) (g := addTx w p h n) (z := 2) G rfl rfl (by omega) dX9_task_62 ?_
          refine v_iconst G dX9_task_63 ?_
          refine v_isub (z := ((addTx w p h n) 2) - 1) G dX9_task_64 rfl ?_
          refine v_topj (x := ((addTx w p h n) 2) - 1) (y := w 2) (by have e : addTx w p h n 2 = w 2 + 1 := uI_s _ _ _; rw [e]; omega) ?_
          exact v_iret G (addTx w p h n, fd) (by first | exact Or.inl ⟨(by omega), (by first | rfl | exact congrArg jI (by omega)), rfl, rfl⟩ | exact Or.inr (Or.inl ⟨(by omega), (by first | rfl | exact congrArg jI (by omega)), rfl, rfl⟩) | exact Or.inr (Or.inr ⟨(by omega), (by first | rfl | exact congrArg jI (by omega)), rfl, rfl⟩)) rfl dX9_task_65
        · skip
          refine v_aload_n (j := 0) (x := a 0) G dX9_task_44 rfl rfl ?_
          refine v_iconst G dX9_task_45 ?_
          refine v_ciF G (rn_V (As := [.int (jI 1)]) (rest := []) (q0 := 0) G (c_X9_no (k := 1) (w := w) (kp := kp) (bf := bf) (ah := ah) (ik := ik) (fd := fd) (sp := sp) (lt := lt) (tp := tp) (tn := tn) (he := he) (ft := ft) (vl := vl) (bt := bt) (lg := lg) (ce := ce) (bw := bw) (a := a) (hk := (by omega))) gX9_task_X9_no rfl hdX9_no ⟨rfl, rfl, Nat.le_of_ble_eq_true rfl, Nat.le_of_ble_eq_true rfl⟩ rfl rfl (Nat.le_of_ble_eq_true rfl) ⟨Nat.zero_le _, Nat.zero_le _⟩ rfl rfl dX9_task_46) (fun r_23 u_25 e_24 => ?_)
          have e_24 : r_23 = jI ((-1000000001) - 1) := e_24
          subst e_24
          refine v_world (ws' := (wR cI cL a w kp bf ah ik (uI fd 1 (fd 1 + 1)) sp lt tp tn he ft vl bt lg ce bw)) rfl ?_
          exact v_iret G (w, uI fd 1 (fd 1 + 1)) (by first | exact Or.inl ⟨(by omega), (by first | rfl | exact congrArg jI (by omega)), rfl, rfl⟩ | exact Or.inr (Or.inl ⟨(by omega), (by first | rfl | exact congrArg jI (by omega)), rfl, rfl⟩) | exact Or.inr (Or.inr ⟨(by omega), (by first | rfl | exact congrArg jI (by omega)), rfl, rfl⟩)) rfl dX9_task_49
      · skip
        refine v_aload_n (j := 0) (x := a 0) G dX9_task_27 rfl rfl ?_
        refine v_iconst G dX9_task_28 ?_
        refine v_ciF G (rn_V (As := [.int (jI 0)]) (rest := []) (q0 := 0) G (c_X9_no (k := 0) (w := w) (kp := kp) (bf := bf) (ah := ah) (ik := ik) (fd := fd) (sp := sp) (lt := lt) (tp := tp) (tn := tn) (he := he) (ft := ft) (vl := vl) (bt := bt) (lg := lg) (ce := ce) (bw := bw) (a := a) (hk := (by omega))) gX9_task_X9_no rfl hdX9_no ⟨rfl, rfl, Nat.le_of_ble_eq_true rfl, Nat.le_of_ble_eq_true rfl⟩ rfl rfl (Nat.le_of_ble_eq_true rfl) ⟨Nat.zero_le _, Nat.zero_le _⟩ rfl rfl dX9_task_29) (fun r_26 u_28 e_27 => ?_)
        have e_27 : r_26 = jI ((-1000000001) - 0) := e_27
        subst e_27
        refine v_world (ws' := (wR cI cL a w kp bf ah ik (uI fd 0 (fd 0 + 1)) sp lt tp tn he ft vl bt lg ce bw)) rfl ?_
        exact v_iret G (w, uI fd 0 (fd 0 + 1)) (by first | exact Or.inl ⟨(by omega), (by first | rfl | exact congrArg jI (by omega)), rfl, rfl⟩ | exact Or.inr (Or.inl ⟨(by omega), (by first | rfl | exact congrArg jI (by omega)), rfl, rfl⟩) | exact Or.inr (Or.inr ⟨(by omega), (by first | rfl | exact congrArg jI (by omega)), rfl, rfl⟩)) rfl dX9_task_32

set_option maxHeartbeats 4000000 in
set_option maxRecDepth 100000 in
theorem c_X9_isDark (t : Int) (hw : Wf w) (ht : 0 ≤ t ∧ t < 8) : Ci l yX9_isDark wsX9_isDark { frames := 5, cells := 0, slots := 0, locals := 113 } D (jT cI cL cB cS) [.ref (a 0), .int (jI t)] (wR cI cL a w kp bf ah ik fd sp lt tp tn he ft vl bt lg ce bw) (S := Unit) (fun _ => (wR cI cL a w kp bf ah ik fd sp lt tp tn he ft vl bt lg ce bw)) (fun r _ => r = jI (b2 (drk w t))) := by
  refine Ci.mk (cc := cX9_isDark) (maxL := 2) (rt := .boolean) (by decide) rfl (Nat.le_of_ble_eq_true rfl) rfl ?_
  intro p_ e_ s_ m_ b_ me_ c_ A_ G hnm
  have hk := hw.task (t := t) (by omega) (by omega)
  have hl := sLt_r hw (p := fT w t 0) (by omega) (by omega)
  refine v_aload_n (j := 0) (x := a 0) G dX9_isDark_0 rfl rfl ?_
  refine v_aload_n (j := 0) (x := a 0) G dX9_isDark_1 rfl rfl ?_
  refine v_iload_n (j := 1) (x := jI t) G dX9_isDark_2 rfl rfl ?_
  refine v_iconst G dX9_isDark_3 ?_
  refine v_ciF G (rn_V (As := [.int (jI t), .int (jI 0)]) (rest := [.ref (a 0)]) (q0 := 0) G (c_X9_taskIs (t := t) (k := 0) (w := w) (kp := kp) (bf := bf) (ah := ah) (ik := ik) (fd := fd) (sp := sp) (lt := lt) (tp := tp) (tn := tn) (he := he) (ft := ft) (vl := vl) (bt := bt) (lg := lg) (ce := ce) (bw := bw) (a := a) (ht := (by omega))) gX9_isDark_X9_taskIs rfl hdX9_taskIs ⟨rfl, rfl, Nat.le_of_ble_eq_true rfl, Nat.le_of_ble_eq_true rfl⟩ rfl rfl (Nat.le_of_ble_eq_true rfl) ⟨Nat.zero_le _, Nat.zero_le _⟩ rfl rfl dX9_isDark_4) (fun r_1 u_3 e_2 => ?_)
  have e_2 : r_1 = jI (fT w t 0) := e_2
  subst e_2
  refine v_world (ws' := (wR cI cL a w kp bf ah ik fd sp lt tp tn he ft vl bt lg ce bw)) rfl ?_
  refine v_ciF G (rn_V (As := [.int (jI (fT w t 0))]) (rest := []) (q0 := 0) G (c_X9_lightOf (p := fT w t 0) (w := w) (kp := kp) (bf := bf) (ah := ah) (ik := ik) (fd := fd) (sp := sp) (lt := lt) (tp := tp) (tn := tn) (he := he) (ft := ft) (vl := vl) (bt := bt) (lg := lg) (ce := ce) (bw := bw) (a := a) (hw := hw) (hp := (by omega))) gX9_isDark_X9_lightOf rfl hdX9_lightOf ⟨rfl, rfl, Nat.le_of_ble_eq_true rfl, Nat.le_of_ble_eq_true rfl⟩ rfl rfl (Nat.le_of_ble_eq_true rfl) ⟨Nat.zero_le _, Nat.zero_le _⟩ rfl rfl dX9_isDark_7) (fun r_4 u_6 e_5 => ?_)
  have e_5 : r_4 = jI (sLt w (fT w t 0)) := e_5
  subst e_5
  refine v_world (ws' := (wR cI cL a w kp bf ah ik fd sp lt tp tn he ft vl bt lg ce bw)) rfl ?_
  refine v_aload_n (j := 0) (x := a 0) G dX9_isDark_10 rfl rfl ?_
  refine v_iload_n (j := 1) (x := jI t) G dX9_isDark_11 rfl rfl ?_
  refine v_iconst G dX9_isDark_12 ?_
  refine v_ciF G (rn_V (As := [.int (jI t), .int (jI 2)]) (rest := [.int (jI (sLt w (fT w t 0)))]) (q0 := 0) G (c_X9_taskIs (t := t) (k := 2) (w := w) (kp := kp) (bf := bf) (ah := ah) (ik := ik) (fd := fd) (sp := sp) (lt := lt) (tp := tp) (tn := tn) (he := he) (ft := ft) (vl := vl) (bt := bt) (lg := lg) (ce := ce) (bw := bw) (a := a) (ht := (by omega))) gX9_isDark_X9_taskIs rfl hdX9_taskIs ⟨rfl, rfl, Nat.le_of_ble_eq_true rfl, Nat.le_of_ble_eq_true rfl⟩ rfl rfl (Nat.le_of_ble_eq_true rfl) ⟨Nat.zero_le _, Nat.zero_le _⟩ rfl rfl dX9_isDark_13) (fun r_7 u_9 e_8 => ?_)
  have e_8 : r_7 = jI (fT w t 2) := e_8
  subst e_8
  refine v_world (ws' := (wR cI cL a w kp bf ah ik fd sp lt tp tn he ft vl bt lg ce bw)) rfl ?_
  refine v_icmp_ge (a := sLt w (fT w t 0)) (b := fT w t 2) (tgt := 23) G dX9_isDark_16 (by decide) (by omega) (fun c_10 => ?_) (fun c_10 => ?_)
  · skip
    refine v_iconst G dX9_isDark_23 ?_
    exact v_zret G () nb_0 (show jI 0 = jI (b2 (drk w t)) from congrArg jI (b2_f (P := drk w t) (by unfold drk; omega)).symm) rfl dX9_isDark_24
  · skip
    refine v_iconst G dX9_isDark_19 ?_
    refine v_goto (tgt := 24) G dX9_isDark_20 (by decide) ?_
    exact v_zret G () nb_1 (show jI 1 = jI (b2 (drk w t)) from congrArg jI (b2_t (P := drk w t) (by unfold drk; omega)).symm) rfl dX9_isDark_24

set_option maxHeartbeats 4000000 in
set_option maxRecDepth 100000 in
theorem c_X9_towards (x y : Int) (hx : (0 ≤ x ∧ x ≤ 15) ∧ 0 ≤ y ∧ y ≤ 15) : Ci l yX9_towards wsX9_towards { frames := 0, cells := 0, slots := 0, locals := 0 } D (jT cI cL cB cS) [.ref (a 0), .int (jI x), .int (jI y)] (wR cI cL a w kp bf ah ik fd sp lt tp tn he ft vl bt lg ce bw) (S := Unit) (fun _ => (wR cI cL a w kp bf ah ik fd sp lt tp tn he ft vl bt lg ce bw)) (fun r _ => r = jI (twd x y)) := by
  refine Ci.mk (cc := cX9_towards) (maxL := 3) (rt := .int) (by decide) rfl (Nat.le_of_ble_eq_true rfl) rfl ?_
  intro p_ e_ s_ m_ b_ me_ c_ A_ G hnm
  refine v_iload_n (j := 1) (x := jI x) G dX9_towards_0 rfl rfl ?_
  refine v_iconst G dX9_towards_1 ?_
  refine v_idiv (z := x / 4) G dX9_towards_2 (by omega) rfl ?_
  refine v_iload_n (j := 2) (x := jI y) G dX9_towards_3 rfl rfl ?_
  refine v_iconst G dX9_towards_4 ?_
  refine v_idiv (z := y / 4) G dX9_towards_5 (by omega) rfl ?_
  refine v_icmp_eq (a := x / 4) (b := y / 4) (tgt := 28) G dX9_towards_6 (by decide) (by omega) (fun c_1 => ?_) (fun c_1 => ?_)
  · skip
    refine v_iload_n (j := 1) (x := jI x) G dX9_towards_28 rfl rfl ?_
    refine v_iload_n (j := 2) (x := jI y) G dX9_towards_29 rfl rfl ?_
    refine v_icmp_ne (a := x) (b := y) (tgt := 37) G dX9_towards_30 (by decide) (by omega) (fun c_2 => ?_) (fun c_2 => ?_)
    · skip
      refine v_iload_n (j := 1) (x := jI x) G dX9_towards_37 rfl rfl ?_
      refine v_iload_n (j := 2) (x := jI y) G dX9_towards_38 rfl rfl ?_
      refine v_icmp_ge (a := x) (b := y) (tgt := 48) G dX9_towards_39 (by decide) (by omega) (fun c_3 => ?_) (fun c_3 => ?_)
      · skip
        refine v_iload_n (j := 1) (x := jI x) G dX9_towards_48 rfl rfl ?_
        refine v_iconst G dX9_towards_49 ?_
        refine v_isub (z := x - 1) G dX9_towards_50 rfl ?_
        exact v_iret G () (show jI (x - 1) = jI (twd x y) from congrArg jI (by unfold twd; (repeat' split) <;> omega)) rfl dX9_towards_51
      · skip
        refine v_iload_n (j := 1) (x := jI x) G dX9_towards_42 rfl rfl ?_
        refine v_iconst G dX9_towards_43 ?_
        refine v_iadd (z := x + 1) G dX9_towards_44 rfl ?_
        refine v_goto (tgt := 51) G dX9_towards_45 (by decide) ?_
        exact v_iret G () (show jI (x + 1) = jI (twd x y) from congrArg jI (by unfold twd; (repeat' split) <;> omega)) rfl dX9_towards_51
    · skip
      refine v_iload_n (j := 1) (x := jI x) G dX9_towards_33 rfl rfl ?_
      refine v_goto (tgt := 51) G dX9_towards_34 (by decide) ?_
      exact v_iret G () (show jI x = jI (twd x y) from congrArg jI (by unfold twd; (repeat' split) <;> omega)) rfl dX9_towards_51
  · skip
    refine v_iload_n (j := 1) (x := jI x) G dX9_towards_9 rfl rfl ?_
    refine v_iconst G dX9_towards_10 ?_
    refine v_idiv (z := x / 4) G dX9_towards_11 (by omega) rfl ?_
    refine v_iload_n (j := 2) (x := jI y) G dX9_towards_12 rfl rfl ?_
    refine v_iconst G dX9_towards_13 ?_
    refine v_idiv (z := y / 4) G dX9_towards_14 (by omega) rfl ?_
    refine v_icmp_ge (a := x / 4) (b := y / 4) (tgt := 24) G dX9_towards_15 (by decide) (by omega) (fun c_4 => ?_) (fun c_4 => ?_)
    · skip
      refine v_iload_n (j := 1) (x := jI x) G dX9_towards_24 rfl rfl ?_
      refine v_iconst G dX9_towards_25 ?_
      refine v_isub (z := x - 4) G dX9_towards_26 rfl ?_
      exact v_iret G () (show jI (x - 4) = jI (twd x y) from congrArg jI (by unfold twd; (repeat' split) <;> omega)) rfl dX9_towards_27
    · skip
      refine v_iload_n (j := 1) (x := jI x) G dX9_towards_18 rfl rfl ?_
      refine v_iconst G dX9_towards_19 ?_
      refine v_iadd (z := x + 4) G dX9_towards_20 rfl ?_
      refine v_goto (tgt := 27) G dX9_towards_21 (by decide) ?_
      exact v_iret G () (show jI (x + 4) = jI (twd x y) from congrArg jI (by unfold twd; (repeat' split) <;> omega)) rfl dX9_towards_27

set_option maxHeartbeats 4000000 in
set_option maxRecDepth 100000 in
theorem c_X9_hour  (hw : Wf w) (h0 : w 0 < 20000) : Cv l yX9_hour wsX9_hour { frames := 1, cells := 0, slots := 0, locals := 22 } D (jT cI cL cB cS) [.ref (a 0)] (wR cI cL a w kp bf ah ik fd sp lt tp tn he ft vl bt lg ce bw) (S := Unit) (fun _ => (wR cI cL a (sHr w) kp bf ah ik fd sp lt tp tn he ft vl bt lg ce bw)) (fun _ => True) := by
  refine Cv.mk (cc := cX9_hour) (maxL := 2) (by decide) rfl (Nat.le_of_ble_eq_true rfl) rfl ?_
  intro p_ e_ s_ m_ b_ me_ c_ A_ G hnm
  have hm := hw.many
  have k_X9 : ∀ w ∈ u_ws RX9 TX9 17, w ∈ wsX9_hour := fun _ h => List.mem_cons_of_mem _ (List.mem_append_right _ h)
  have q_1 : Cond.fieldLink RX9 9 "SupperLightModel" "s" "[I" ∈ wsX9_hour := List.mem_of_getElem? (i := 1) rfl
  refine v_iconst G dX9_hour_0 ?_
  refine v_istore_n (lv' := [(1, .int (jI 0)), (0, .ref (a 0))]) G dX9_hour_1 rfl (by decide) rfl ?_
  refine v_locs (lv' := [(1, .int (jI 0)), (0, .ref (a 0))]) [0, 1] rfl ?_
  refine v_loop1 (fun (k : Nat) => [(1, .int (jI (k : Int))), (0, .ref (a 0))]) (fun (k : Nat) => (wR cI cL a (hrB w k) kp bf ah ik fd sp lt tp tn he ft vl bt lg ce bw)) (fun (k : Nat) => (k : Int) ≤ w 1) (fun (k : Nat) => (w 1).toNat - k) 0 (by omega) rfl rfl ?_
  intro k I_1 ih_2
  obtain ⟨i1, i2, i3, i4⟩ := hw.hrB k (by omega)
  refine v_iload_n (j := 0) (x := jI (k : Int)) G dX9_hour_2 rfl rfl ?_
  refine v_aload_n (j := 1) (x := a 0) G dX9_hour_3 rfl rfl ?_
  refine v_get (q0 := 0) (k := 0) (v := .ref (a 1)) G k_X9 rfl rfl (by decide) q_1 rfl rfl dX9_hour_4 ?_
  refine v_iconst G dX9_hour_7 ?_
  refine v_iald (q0 := 1) (t0 := 0) (g := hrB w k) (z := 1) G rfl rfl (by omega) dX9_hour_8 ?_
  refine v_icmp_ge (a := (k : Int)) (b := (hrB w k) 1) (tgt := 76) G dX9_hour_9 (by decide) (by omega) (fun c_3 => ?_) (fun c_3 => ?_)
  · skip
    obtain rfl : k = (w 1).toNat := by omega
    refine v_iconst G dX9_hour_76 ?_
    refine v_istore_n (lv' := [(1, .int (jI 0)), (0, .ref (a 0))]) G dX9_hour_77 rfl (by decide) rfl ?_
    refine v_locs (lv' := [(1, .int (jI 0)), (0, .ref (a 0))]) [0, 1] rfl ?_
    refine v_loop1 (fun (q : Nat) => [(1, .int (jI (q : Int))), (0, .ref (a 0))]) (fun (q : Nat) => (wR cI cL a (hrP (hrB w (w 1).toNat) q) kp bf ah ik fd sp lt tp tn he ft vl bt lg ce bw)) (fun (q : Nat) => (q : Int) ≤ 16) (fun (q : Nat) => 16 - q) 0 (by decide) rfl rfl ?_
    intro q I_4 ih_5
    obtain ⟨j1, j2, j3, j4⟩ := i1.hrP q (by omega)
    refine v_iload_n (j := 0) (x := jI (q : Int)) G dX9_hour_78 rfl rfl ?_
    refine v_bipush G dX9_hour_79 (by decide) ?_
    refine v_icmp_ge (a := (q : Int)) (b := 16) (tgt := 117) G dX9_hour_81 (by decide) (by omega) (fun c_6 => ?_) (fun c_6 => ?_)
    · skip
      obtain rfl : q = 16 := by omega
      refine v_aload_n (j := 1) (x := a 0) G dX9_hour_117 rfl rfl ?_
      refine v_get (q0 := 0) (k := 0) (v := .ref (a 1)) G k_X9 rfl rfl (by decide) q_1 rfl rfl dX9_hour_118 ?_
      refine v_iconst G dX9_hour_121 ?_
      refine v_dup2 G dX9_hour_122 rfl rfl ?_
      refine v_iald (q0 := 1) (t0 := 0) (g := hrP (hrB w (w 1).toNat) 16) (z := 0) G rfl rfl (by omega) dX9_hour_123 ?_
      refine v_iconst G dX9_hour_124 ?_
      refine v_iadd (z := ((hrP (hrB w (w 1).toNat) 16) 0) + 1) G dX9_hour_125 rfl ?_
      refine v_topj (x := ((hrP (hrB w (w 1).toNat) 16) 0) + 1) (y := w 0 + 1) (by rw [j2, i2]) ?_
      refine v_iast (q0 := 1) (t0 := 0) (g := hrP (hrB w (w 1).toNat) 16) (z := 0) (x := w 0 + 1) (ws' := (wR cI cL a (uI (hrP (hrB w (w 1).toNat) 16) 0 (w 0 + 1)) kp bf ah ik fd sp lt tp tn he ft vl bt lg ce bw)) G rfl rfl (by omega) rfl dX9_hour_126 ?_
      refine v_world (ws' := (wR cI cL a (sHr w) kp bf ah ik fd sp lt tp tn he ft vl bt lg ce bw)) rfl ?_
      exact v_vret G () trivial rfl dX9_hour_127
    · skip
      have hk := j1.bowl (p := (q : Int)) (by omega) (by omega)
      refine v_aload_n (j := 1) (x := a 0) G dX9_hour_84 rfl rfl ?_
      refine v_get (q0 := 0) (k := 0) (v := .ref (a 1)) G k_X9 rfl rfl (by decide) q_1 rfl rfl dX9_hour_85 ?_
      refine v_iconst G dX9_hour_88 ?_
      refine v_iload_n (j := 0) (x := jI (q : Int)) G dX9_hour_89 rfl rfl ?_
      refine v_iadd (z := 3 + (q : Int)) G dX9_hour_90 rfl ?_
      refine v_dup2 G dX9_hour_91 rfl rfl ?_
      refine v_iald (q0 := 1) (t0 := 0) (g := hrP (hrB w (w 1).toNat) q) (z := 3 + (q : Int)) G rfl rfl (by omega) dX9_hour_92 ?_
      refine v_aload_n (j := 1) (x := a 0) G dX9_hour_93 rfl rfl ?_
      refine v_get (q0 := 0) (k := 0) (v := .ref (a 1)) G k_X9 rfl rfl (by decide) q_1 rfl rfl dX9_hour_94 ?_
      refine v_iconst G dX9_hour_97 ?_
      refine v_iload_n (j := 0) (x := jI (q : Int)) G dX9_hour_98 rfl rfl ?_
      refine v_iadd (z := 3 + (q : Int)) G dX9_hour_99 rfl ?_
      refine v_iald (q0 := 1) (t0 := 0) (g := hrP (hrB w (w 1).toNat) q) (z := 3 + (q : Int)) G rfl rfl (by omega) dX9_hour_100 ?_
      refine v_cut (pc' := 109) (lv' := [(1, .int (jI (q : Int))), (0, .ref (a 0))]) (st' := [.int (jI (if 0 < hrP (hrB w (w 1).toNat) q (3 + (q : Int)) then 1 else 0)), .int (jI ((hrP (hrB w (w 1).toNat) q) (3 + (q : Int)))), .int (jI (3 + (q : Int))), .ref (a 1)]) (ws' := (wR cI cL a (hrP (hrB w (w 1).toNat) q) kp bf ah ik fd sp lt tp tn he ft vl bt lg ce bw)) ?_ (fun J_7 => ?_)
      · skip
        refine v_isub (z := ((hrP (hrB w (w 1).toNat) q) (3 + (q : Int))) - (if 0 < hrP (hrB w (w 1).toNat) q (3 + (q : Int)) then 1 else 0)) G dX9_hour_109 rfl ?_
        refine v_iast (q0 := 1) (t0 := 0) (g := hrP (hrB w (w 1).toNat) q) (z := 3 + (q : Int)) (x := ((hrP (hrB w (w 1).toNat) q) (3 + (q : Int))) - (if 0 < hrP (hrB w (w 1).toNat) q (3 + (q : Int)) then 1 else 0)) (ws' := (wR cI cL a (uI (hrP (hrB w (w 1).toNat) q) (3 + (q : Int)) (((hrP (hrB w (w 1).toNat) q) (3 + (q : Int))) - (if 0 < hrP (hrB w (w 1).toNat) q (3 + (q : Int)) then 1 else 0))) kp bf ah ik fd sp lt tp tn he ft vl bt lg ce bw)) G rfl rfl (by omega) rfl dX9_hour_110 ?_
        refine v_world (ws' := (wR cI cL a (hrP (hrB w (w 1).toNat) (q + 1)) kp bf ah ik fd sp lt tp tn he ft vl bt lg ce bw)) rfl ?_
        refine v_iinc (k := 0) (z := (q : Int)) (z' := ((q + 1 : Nat) : Int)) (lv' := [(1, .int (jI ((q + 1 : Nat) : Int))), (0, .ref (a 0))]) G dX9_hour_111 rfl (by omega) (by decide) rfl ?_
        refine v_goto (tgt := 78) G dX9_hour_114 (by decide) ?_
        exact ih_5 (q + 1) (by omega) (by omega)
      · skip
        refine v_if_le (a := (hrP (hrB w (w 1).toNat) q) (3 + (q : Int))) (tgt := 108) G dX9_hour_101 (by decide) (by omega) (fun c_8 => ?_) (fun c_8 => ?_)
        · skip
          refine v_iconst G dX9_hour_108 ?_
          refine v_topj (x := 0) (y := if 0 < hrP (hrB w (w 1).toNat) q (3 + (q : Int)) then 1 else 0) (by split <;> omega) ?_
          exact J_7
        · skip
          refine v_iconst G dX9_hour_104 ?_
          refine v_goto (tgt := 109) G dX9_hour_105 (by decide) ?_
          refine v_topj (x := 1) (y := if 0 < hrP (hrB w (w 1).toNat) q (3 + (q : Int)) then 1 else 0) (by split <;> omega) ?_
          exact J_7
  · skip
    have hk := i1.being (b := (k : Int)) (by omega) (by omega)
    refine v_aload_n (j := 1) (x := a 0) G dX9_hour_12 rfl rfl ?_
    refine v_get (q0 := 0) (k := 0) (v := .ref (a 1)) G k_X9 rfl rfl (by decide) q_1 rfl rfl dX9_hour_13 ?_
    refine v_aload_n (j := 1) (x := a 0) G dX9_hour_16 rfl rfl ?_
    refine v_iload_n (j := 0) (x := jI (k : Int)) G dX9_hour_17 rfl rfl ?_
    refine v_iconst G dX9_hour_18 ?_
    refine v_ciF G (rn_V (As := [.int (jI (k : Int)), .int (jI 1)]) (rest := [.ref (a 1)]) (q0 := 0) G (c_X9_at (b := (k : Int)) (k := 1) (w := hrB w k) (kp := kp) (bf := bf) (ah := ah) (ik := ik) (fd := fd) (sp := sp) (lt := lt) (tp := tp) (tn := tn) (he := he) (ft := ft) (vl := vl) (bt := bt) (lg := lg) (ce := ce) (bw := bw) (a := a) ) gX9_hour_X9_at rfl hdX9_at ⟨rfl, rfl, Nat.le_of_ble_eq_true rfl, Nat.le_of_ble_eq_true rfl⟩ rfl rfl (Nat.le_of_ble_eq_true rfl) ⟨Nat.zero_le _, Nat.zero_le _⟩ rfl rfl dX9_hour_19) (fun r_9 u_11 e_10 => ?_)
    have e_10 : r_9 = jI (19 + 5 * (k : Int) + 1) := e_10
    subst e_10
    refine v_world (ws' := (wR cI cL a (hrB w k) kp bf ah ik fd sp lt tp tn he ft vl bt lg ce bw)) rfl ?_
    refine v_aload_n (j := 1) (x := a 0) G dX9_hour_22 rfl rfl ?_
    refine v_aload_n (j := 1) (x := a 0) G dX9_hour_23 rfl rfl ?_
    refine v_iload_n (j := 0) (x := jI (k : Int)) G dX9_hour_24 rfl rfl ?_
    refine v_iconst G dX9_hour_25 ?_
    refine v_ciF G (rn_V (As := [.int (jI (k : Int)), .int (jI 1)]) (rest := [.ref (a 0), .int (jI (19 + 5 * (k : Int) + 1)), .ref (a 1)]) (q0 := 0) G (c_X9_is (b := (k : Int)) (k := 1) (w := (hrB w k)) (kp := kp) (bf := bf) (ah := ah) (ik := ik) (fd := fd) (sp := sp) (lt := lt) (tp := tp) (tn := tn) (he := he) (ft := ft) (vl := vl) (bt := bt) (lg := lg) (ce := ce) (bw := bw) (a := a) (hb := (by omega))) gX9_hour_X9_is rfl hdX9_is ⟨rfl, rfl, Nat.le_of_ble_eq_true rfl, Nat.le_of_ble_eq_true rfl⟩ rfl rfl (Nat.le_of_ble_eq_true rfl) ⟨Nat.zero_le _, Nat.zero_le _⟩ rfl rfl dX9_hour_26) (fun r_12 u_14 e_13 => ?_)
    have e_13 : r_12 = jI (fB (hrB w k) (k : Int) 1) := e_13
    subst e_13
    refine v_world (ws' := (wR cI cL a (hrB w k) kp bf ah ik fd sp lt tp tn he ft vl bt lg ce bw)) rfl ?_
    refine v_aload_n (j := 1) (x := a 0) G dX9_hour_29 rfl rfl ?_
    refine v_iload_n (j := 0) (x := jI (k : Int)) G dX9_hour_30 rfl rfl ?_
    refine v_iconst G dX9_hour_31 ?_
    refine v_ciF G (rn_V (As := [.int (jI (k : Int)), .int (jI 2)]) (rest := [.int (jI (fB (hrB w k) (k : Int) 1)), .ref (a 0), .int (jI (19 + 5 * (k : Int) + 1)), .ref (a 1)]) (q0 := 0) G (c_X9_is (b := (k : Int)) (k := 2) (w := (hrB w k)) (kp := kp) (bf := bf) (ah := ah) (ik := ik) (fd := fd) (sp := sp) (lt := lt) (tp := tp) (tn := tn) (he := he) (ft := ft) (vl := vl) (bt := bt) (lg := lg) (ce := ce) (bw := bw) (a := a) (hb := (by omega))) gX9_hour_X9_is rfl hdX9_is ⟨rfl, rfl, Nat.le_of_ble_eq_true rfl, Nat.le_of_ble_eq_true rfl⟩ rfl rfl (Nat.le_of_ble_eq_true rfl) ⟨Nat.zero_le _, Nat.zero_le _⟩ rfl rfl dX9_hour_32) (fun r_15 u_17 e_16 => ?_)
    have e_16 : r_15 = jI (fB (hrB w k) (k : Int) 2) := e_16
    subst e_16
    refine v_world (ws' := (wR cI cL a (hrB w k) kp bf ah ik fd sp lt tp tn he ft vl bt lg ce bw)) rfl ?_
    refine v_ciF G (rn_V (As := [.int (jI (fB (hrB w k) (k : Int) 1)), .int (jI (fB (hrB w k) (k : Int) 2))]) (rest := [.int (jI (19 + 5 * (k : Int) + 1)), .ref (a 1)]) (q0 := 0) G (c_X9_towards (x := fB (hrB w k) (k : Int) 1) (y := fB (hrB w k) (k : Int) 2) (w := (hrB w k)) (kp := kp) (bf := bf) (ah := ah) (ik := ik) (fd := fd) (sp := sp) (lt := lt) (tp := tp) (tn := tn) (he := he) (ft := ft) (vl := vl) (bt := bt) (lg := lg) (ce := ce) (bw := bw) (a := a) (hx := (by omega))) gX9_hour_X9_towards rfl hdX9_towards ⟨rfl, rfl, Nat.le_of_ble_eq_true rfl, Nat.le_of_ble_eq_true rfl⟩ rfl rfl (Nat.le_of_ble_eq_true rfl) ⟨Nat.zero_le _, Nat.zero_le _⟩ rfl rfl dX9_hour_35) (fun r_18 u_20 e_19 => ?_)
    have e_19 : r_18 = jI (twd (fB (hrB w k) (k : Int) 1) (fB (hrB w k) (k : Int) 2)) := e_19
    subst e_19
    refine v_world (ws' := (wR cI cL a (hrB w k) kp bf ah ik fd sp lt tp tn he ft vl bt lg ce bw)) rfl ?_
    refine v_iast (q0 := 1) (t0 := 0) (g := (hrB w k)) (z := 19 + 5 * (k : Int) + 1) (x := twd (fB (hrB w k) (k : Int) 1) (fB (hrB w k) (k : Int) 2)) (ws' := (wR cI cL a (uI (hrB w k) (19 + 5 * (k : Int) + 1) (twd (fB (hrB w k) (k : Int) 1) (fB (hrB w k) (k : Int) 2))) kp bf ah ik fd sp lt tp tn he ft vl bt lg ce bw)) G rfl rfl (by omega) rfl dX9_hour_38 ?_
    refine v_aload_n (j := 1) (x := a 0) G dX9_hour_39 rfl rfl ?_
    refine v_get (q0 := 0) (k := 0) (v := .ref (a 1)) G k_X9 rfl rfl (by decide) q_1 rfl rfl dX9_hour_40 ?_
    refine v_aload_n (j := 1) (x := a 0) G dX9_hour_43 rfl rfl ?_
    refine v_iload_n (j := 0) (x := jI (k : Int)) G dX9_hour_44 rfl rfl ?_
    refine v_iconst G dX9_hour_45 ?_
    refine v_ciF G (rn_V (As := [.int (jI (k : Int)), .int (jI 4)]) (rest := [.ref (a 1)]) (q0 := 0) G (c_X9_at (b := (k : Int)) (k := 4) (w := uI (hrB w k) (19 + 5 * (k : Int) + 1) (twd (fB (hrB w k) (k : Int) 1) (fB (hrB w k) (k : Int) 2))) (kp := kp) (bf := bf) (ah := ah) (ik := ik) (fd := fd) (sp := sp) (lt := lt) (tp := tp) (tn := tn) (he := he) (ft := ft) (vl := vl) (bt := bt) (lg := lg) (ce := ce) (bw := bw) (a := a) ) gX9_hour_X9_at rfl hdX9_at ⟨rfl, rfl, Nat.le_of_ble_eq_true rfl, Nat.le_of_ble_eq_true rfl⟩ rfl rfl (Nat.le_of_ble_eq_true rfl) ⟨Nat.zero_le _, Nat.zero_le _⟩ rfl rfl dX9_hour_46) (fun r_21 u_23 e_22 => ?_)
    have e_22 : r_21 = jI (19 + 5 * (k : Int) + 4) := e_22
    subst e_22
    refine v_world (ws' := (wR cI cL a (uI (hrB w k) (19 + 5 * (k : Int) + 1) (twd (fB (hrB w k) (k : Int) 1) (fB (hrB w k) (k : Int) 2))) kp bf ah ik fd sp lt tp tn he ft vl bt lg ce bw)) rfl ?_
    have hq : fB (uI (hrB w k) (19 + (5 * (k : Int)) + 1) (twd (fB (hrB w k) (k : Int) 1) (fB (hrB w k) (k : Int) 2))) (k : Int) 4 = fB (hrB w k) (k : Int) 4 := uI_n _ _ (by omega)
    refine v_dup2 G dX9_hour_49 rfl rfl ?_
    refine v_iald (q0 := 1) (t0 := 0) (g := (uI (hrB w k) (19 + 5 * (k : Int) + 1) (twd (fB (hrB w k) (k : Int) 1) (fB (hrB w k) (k : Int) 2)))) (z := 19 + 5 * (k : Int) + 4) G rfl rfl (by omega) dX9_hour_50 ?_
    refine v_aload_n (j := 1) (x := a 0) G dX9_hour_51 rfl rfl ?_
    refine v_iload_n (j := 0) (x := jI (k : Int)) G dX9_hour_52 rfl rfl ?_
    refine v_iconst G dX9_hour_53 ?_
    refine v_ciF G (rn_V (As := [.int (jI (k : Int)), .int (jI 4)]) (rest := [.int (jI ((uI (hrB w k) (19 + 5 * (k : Int) + 1) (twd (fB (hrB w k) (k : Int) 1) (fB (hrB w k) (k : Int) 2))) (19 + 5 * (k : Int) + 4))), .int (jI (19 + 5 * (k : Int) + 4)), .ref (a 1)]) (q0 := 0) G (c_X9_is (b := (k : Int)) (k := 4) (w := (uI (hrB w k) (19 + 5 * (k : Int) + 1) (twd (fB (hrB w k) (k : Int) 1) (fB (hrB w k) (k : Int) 2)))) (kp := kp) (bf := bf) (ah := ah) (ik := ik) (fd := fd) (sp := sp) (lt := lt) (tp := tp) (tn := tn) (he := he) (ft := ft) (vl := vl) (bt := bt) (lg := lg) (ce := ce) (bw := bw) (a := a) (hb := (by omega))) gX9_hour_X9_is rfl hdX9_is ⟨rfl, rfl, Nat.le_of_ble_eq_true rfl, Nat.le_of_ble_eq_true rfl⟩ rfl rfl (Nat.le_of_ble_eq_true rfl) ⟨Nat.zero_le _, Nat.zero_le _⟩ rfl rfl dX9_hour_54) (fun r_24 u_26 e_25 => ?_)
    have e_25 : r_24 = jI (fB (uI (hrB w k) (19 + 5 * (k : Int) + 1) (twd (fB (hrB w k) (k : Int) 1) (fB (hrB w k) (k : Int) 2))) (k : Int) 4) := e_25
    subst e_25
    refine v_world (ws' := (wR cI cL a (uI (hrB w k) (19 + 5 * (k : Int) + 1) (twd (fB (hrB w k) (k : Int) 1) (fB (hrB w k) (k : Int) 2))) kp bf ah ik fd sp lt tp tn he ft vl bt lg ce bw)) rfl ?_
    refine v_sipush G dX9_hour_57 (by decide) ?_
    refine v_cut (pc' := 68) (lv' := [(1, .int (jI (k : Int))), (0, .ref (a 0))]) (st' := [.int (jI (if fB (hrB w k) (k : Int) 4 < 999 then 1 else 0)), .int (jI ((uI (hrB w k) (19 + 5 * (k : Int) + 1) (twd (fB (hrB w k) (k : Int) 1) (fB (hrB w k) (k : Int) 2))) (19 + 5 * (k : Int) + 4))), .int (jI (19 + 5 * (k : Int) + 4)), .ref (a 1)]) (ws' := (wR cI cL a (uI (hrB w k) (19 + 5 * (k : Int) + 1) (twd (fB (hrB w k) (k : Int) 1) (fB (hrB w k) (k : Int) 2))) kp bf ah ik fd sp lt tp tn he ft vl bt lg ce bw)) ?_ (fun J_27 => ?_)
    · skip
      refine v_iadd (z := ((uI (hrB w k) (19 + 5 * (k : Int) + 1) (twd (fB (hrB w k) (k : Int) 1) (fB (hrB w k) (k : Int) 2))) (19 + 5 * (k : Int) + 4)) + (if fB (hrB w k) (k : Int) 4 < 999 then 1 else 0)) G dX9_hour_68 rfl ?_
      refine v_topj (x := ((uI (hrB w k) (19 + 5 * (k : Int) + 1) (twd (fB (hrB w k) (k : Int) 1) (fB (hrB w k) (k : Int) 2))) (19 + 5 * (k : Int) + 4)) + (if fB (hrB w k) (k : Int) 4 < 999 then 1 else 0)) (y := fB (hrB w k) (k : Int) 4 + (if fB (hrB w k) (k : Int) 4 < 999 then 1 else 0)) (congrArg (fun z => z + (if fB (hrB w k) (k : Int) 4 < 999 then (1 : Int) else 0)) hq) ?_
      refine v_iast (q0 := 1) (t0 := 0) (g := (uI (hrB w k) (19 + 5 * (k : Int) + 1) (twd (fB (hrB w k) (k : Int) 1) (fB (hrB w k) (k : Int) 2)))) (z := 19 + 5 * (k : Int) + 4) (x := fB (hrB w k) (k : Int) 4 + (if fB (hrB w k) (k : Int) 4 < 999 then 1 else 0)) (ws' := (wR cI cL a (uI (uI (hrB w k) (19 + 5 * (k : Int) + 1) (twd (fB (hrB w k) (k : Int) 1) (fB (hrB w k) (k : Int) 2))) (19 + 5 * (k : Int) + 4) (fB (hrB w k) (k : Int) 4 + (if fB (hrB w k) (k : Int) 4 < 999 then 1 else 0))) kp bf ah ik fd sp lt tp tn he ft vl bt lg ce bw)) G rfl rfl (by omega) rfl dX9_hour_69 ?_
      refine v_world (ws' := (wR cI cL a (hrB w (k + 1)) kp bf ah ik fd sp lt tp tn he ft vl bt lg ce bw)) rfl ?_
      refine v_iinc (k := 0) (z := (k : Int)) (z' := ((k + 1 : Nat) : Int)) (lv' := [(1, .int (jI ((k + 1 : Nat) : Int))), (0, .ref (a 0))]) G dX9_hour_70 rfl (by omega) (by decide) rfl ?_
      refine v_goto (tgt := 2) G dX9_hour_73 (by decide) ?_
      exact ih_2 (k + 1) (by omega) (by omega)
    · skip
      refine v_icmp_ge (a := fB (uI (hrB w k) (19 + 5 * (k : Int) + 1) (twd (fB (hrB w k) (k : Int) 1) (fB (hrB w k) (k : Int) 2))) (k : Int) 4) (b := 999) (tgt := 67) G dX9_hour_60 (by decide) (by omega) (fun c_28 => ?_) (fun c_28 => ?_)
      · skip
        refine v_iconst G dX9_hour_67 ?_
        refine v_topj (x := 0) (y := if fB (hrB w k) (k : Int) 4 < 999 then 1 else 0) (by split <;> omega) ?_
        exact J_27
      · skip
        refine v_iconst G dX9_hour_63 ?_
        refine v_goto (tgt := 68) G dX9_hour_64 (by decide) ?_
        refine v_topj (x := 1) (y := if fB (hrB w k) (k : Int) 4 < 999 then 1 else 0) (by split <;> omega) ?_
        exact J_27

set_option maxHeartbeats 4000000 in
set_option maxRecDepth 100000 in
theorem c_X9_doneAhead  (hw : Wf w) (h0 : w 0 ≤ 9999) : Ci l yX9_doneAhead wsX9_doneAhead { frames := 6, cells := 0, slots := 0, locals := 134 } D (jT cI cL cB cS) [.ref (a 0)] (wR cI cL a w kp bf ah ik fd sp lt tp tn he ft vl bt lg ce bw) (S := Unit) (fun _ => (wR cI cL a w kp bf w ik fd sp lt tp tn he ft vl bt lg ce bw)) (fun r _ => r = sDn w) := by
  refine Ci.mk (cc := cX9_doneAhead) (maxL := 4) (rt := .int) (by decide) rfl (Nat.le_of_ble_eq_true rfl) rfl ?_
  intro p_ e_ s_ m_ b_ me_ c_ A_ G hnm
  have hm := hw.many
  have hmt := hw.tasks
  have hh := hw.hour
  have k_X9 : ∀ w ∈ u_ws RX9 TX9 17, w ∈ wsX9_doneAhead := fun _ h => List.mem_cons_of_mem _ (List.mem_append_right _ h)
  have q_1 : Cond.fieldLink RX9 9 "SupperLightModel" "s" "[I" ∈ wsX9_doneAhead := List.mem_of_getElem? (i := 1) rfl
  have q_2 : Cond.fieldLink RX9 19 "SupperLightModel" "ahead" "[I" ∈ wsX9_doneAhead := List.mem_of_getElem? (i := 2) rfl
  refine v_aload_n (j := 0) (x := a 0) G dX9_doneAhead_0 rfl rfl ?_
  refine v_get (q0 := 0) (k := 0) (v := .ref (a 1)) G k_X9 rfl rfl (by decide) q_1 rfl rfl dX9_doneAhead_1 ?_
  refine v_aload_n (j := 0) (x := a 0) G dX9_doneAhead_4 rfl rfl ?_
  refine v_get (q0 := 0) (k := 3) (v := .ref (a 4)) G k_X9 rfl rfl (by decide) q_2 rfl rfl dX9_doneAhead_5 ?_
  refine v_cvF G (rn_S (As := [.ref (a 1), .ref (a 4)]) (rest := []) G (c_X9_lay_w_ah (w := w) (kp := kp) (bf := bf) (ah := ah) (ik := ik) (fd := fd) (sp := sp) (lt := lt) (tp := tp) (tn := tn) (he := he) (ft := ft) (vl := vl) (bt := bt) (lg := lg) (ce := ce) (bw := bw) (a := a) ) gX9_doneAhead_X9_lay rfl hdX9_lay ⟨rfl, rfl, Nat.le_of_ble_eq_true rfl, Nat.le_of_ble_eq_true rfl⟩ rfl rfl (Nat.le_of_ble_eq_true rfl) ⟨Nat.zero_le _, Nat.zero_le _⟩ dX9_doneAhead_8) (fun u_3 e_2 => ?_)
  refine v_world (ws' := (wR cI cL a w kp bf w ik fd sp lt tp tn he ft vl bt lg ce bw)) rfl ?_
  refine v_iconst G dX9_doneAhead_11 ?_
  refine v_top (x := jI 0) (y := dnO w 0) rfl ?_
  refine v_istore_n (lv' := [(1, .int (dnO w 0)), (0, .ref (a 0))]) G dX9_doneAhead_12 rfl (by decide) rfl ?_
  refine v_iconst G dX9_doneAhead_13 ?_
  refine v_istore_n (lv' := [(2, .int (jI 0)), (1, .int (dnO w 0)), (0, .ref (a 0))]) G dX9_doneAhead_14 rfl (by decide) rfl ?_
  refine v_locs (lv' := [(2, .int (jI 0)), (1, .int (dnO w 0)), (0, .ref (a 0))]) [0, 1, 2] rfl ?_
  refine v_loop1 (fun (n : Nat) => [(2, .int (jI (n : Int))), (1, .int (dnO w n)), (0, .ref (a 0))]) (fun (n : Nat) => (wR cI cL a (hrs w n) kp bf w ik fd sp lt tp tn he ft vl bt lg ce bw)) (fun (n : Nat) => (n : Int) ≤ 101) (fun (n : Nat) => 101 - n) 0 (by decide) rfl rfl ?_
  intro n I_4 ih_5
  obtain ⟨i1, i2, i3, i4⟩ := hw.hrs n (by omega)
  refine v_iload_n (j := 0) (x := jI (n : Int)) G dX9_doneAhead_15 rfl rfl ?_
  refine v_bipush G dX9_doneAhead_16 (by decide) ?_
  refine v_icmp_gt (a := (n : Int)) (b := 100) (tgt := 82) G dX9_doneAhead_18 (by decide) (by omega) (fun c_6 => ?_) (fun c_6 => ?_)
  · skip
    obtain rfl : n = 101 := by omega
    refine v_aload_n (j := 2) (x := a 0) G dX9_doneAhead_82 rfl rfl ?_
    refine v_get (q0 := 0) (k := 3) (v := .ref (a 4)) G k_X9 rfl rfl (by decide) q_2 rfl rfl dX9_doneAhead_83 ?_
    refine v_aload_n (j := 2) (x := a 0) G dX9_doneAhead_86 rfl rfl ?_
    refine v_get (q0 := 0) (k := 0) (v := .ref (a 1)) G k_X9 rfl rfl (by decide) q_1 rfl rfl dX9_doneAhead_87 ?_
    refine v_cvF G (rn_S (As := [.ref (a 4), .ref (a 1)]) (rest := []) G (c_X9_lay_ah_w (w := hrs w 101) (kp := kp) (bf := bf) (ah := w) (ik := ik) (fd := fd) (sp := sp) (lt := lt) (tp := tp) (tn := tn) (he := he) (ft := ft) (vl := vl) (bt := bt) (lg := lg) (ce := ce) (bw := bw) (a := a) ) gX9_doneAhead_X9_lay rfl hdX9_lay ⟨rfl, rfl, Nat.le_of_ble_eq_true rfl, Nat.le_of_ble_eq_true rfl⟩ rfl rfl (Nat.le_of_ble_eq_true rfl) ⟨Nat.zero_le _, Nat.zero_le _⟩ dX9_doneAhead_90) (fun u_9 e_8 => ?_)
    refine v_world (ws' := (wR cI cL a w kp bf w ik fd sp lt tp tn he ft vl bt lg ce bw)) rfl ?_
    refine v_iload_n (j := 1) (x := dnO w 101) G dX9_doneAhead_93 rfl rfl ?_
    exact v_iret G () (show dnO w 101 = sDn w from rfl) rfl dX9_doneAhead_94
  · skip
    refine v_iconst G dX9_doneAhead_21 ?_
    refine v_istore_n (lv' := [(3, .int (jI 0)), (2, .int (jI (n : Int))), (1, .int (dnO w n)), (0, .ref (a 0))]) G dX9_doneAhead_22 rfl (by decide) rfl ?_
    refine v_locs (lv' := [(3, .int (jI 0)), (1, .int (dnO w n)), (2, .int (jI (n : Int))), (0, .ref (a 0))]) [0, 2, 1, 3] rfl ?_
    refine v_loop1 (fun (k : Nat) => [(3, .int (jI (k : Int))), (1, .int (dnI (hrs w n) (dnO w n) k)), (2, .int (jI (n : Int))), (0, .ref (a 0))]) (fun (k : Nat) => (wR cI cL a (hrs w n) kp bf w ik fd sp lt tp tn he ft vl bt lg ce bw)) (fun (k : Nat) => (k : Int) ≤ w 2) (fun (k : Nat) => (w 2).toNat - k) 0 (by omega) rfl rfl ?_
    intro k I_10 ih_11
    refine v_iload_n (j := 0) (x := jI (k : Int)) G dX9_doneAhead_23 rfl rfl ?_
    refine v_aload_n (j := 3) (x := a 0) G dX9_doneAhead_24 rfl rfl ?_
    refine v_get (q0 := 0) (k := 0) (v := .ref (a 1)) G k_X9 rfl rfl (by decide) q_1 rfl rfl dX9_doneAhead_25 ?_
    refine v_iconst G dX9_doneAhead_28 ?_
    refine v_iald (q0 := 1) (t0 := 0) (g := hrs w n) (z := 2) G rfl rfl (by omega) dX9_doneAhead_29 ?_
    refine v_icmp_ge (a := (k : Int)) (b := (hrs w n) 2) (tgt := 72) G dX9_doneAhead_30 (by decide) (by omega) (fun c_12 => ?_) (fun c_12 => ?_)
    · skip
      obtain rfl : k = (w 2).toNat := by omega
      refine v_aload_n (j := 3) (x := a 0) G dX9_doneAhead_72 rfl rfl ?_
      refine v_cvF G (rn_V (As := []) (rest := []) (q0 := 0) G (c_X9_hour (w := hrs w n) (kp := kp) (bf := bf) (ah := w) (ik := ik) (fd := fd) (sp := sp) (lt := lt) (tp := tp) (tn := tn) (he := he) (ft := ft) (vl := vl) (bt := bt) (lg := lg) (ce := ce) (bw := bw) (a := a) (hw := i1) (h0 := (by omega))) gX9_doneAhead_X9_hour rfl hdX9_hour ⟨rfl, rfl, Nat.le_of_ble_eq_true rfl, Nat.le_of_ble_eq_true rfl⟩ rfl rfl (Nat.le_of_ble_eq_true rfl) ⟨Nat.zero_le _, Nat.zero_le _⟩ rfl rfl dX9_doneAhead_73) (fun u_15 e_14 => ?_)
      refine v_world (ws' := (wR cI cL a (sHr (hrs w n)) kp bf w ik fd sp lt tp tn he ft vl bt lg ce bw)) rfl ?_
      refine v_world (ws' := (wR cI cL a (hrs w (n + 1)) kp bf w ik fd sp lt tp tn he ft vl bt lg ce bw)) rfl ?_
      refine v_iinc (k := 2) (z := (n : Int)) (z' := ((n + 1 : Nat) : Int)) (lv' := [(2, .int (jI ((n + 1 : Nat) : Int))), (3, .int (jI (((w 2).toNat) : Int))), (1, .int (dnI (hrs w n) (dnO w n) ((w 2).toNat))), (0, .ref (a 0))]) G dX9_doneAhead_76 rfl (by omega) (by decide) rfl ?_
      refine v_goto (tgt := 15) G dX9_doneAhead_79 (by decide) ?_
      refine v_locs (lv' := [(2, .int (jI ((n + 1 : Nat) : Int))), (1, .int (dnI (hrs w n) (dnO w n) ((w 2).toNat))), (0, .ref (a 0))]) [0, 2, 3] rfl ?_
      exact ih_5 (n + 1) (by omega) (by omega)
    · skip
      have hk := i1.task (t := (k : Int)) (by omega) (by omega)
      refine v_iload_n (j := 1) (x := dnI (hrs w n) (dnO w n) k) G dX9_doneAhead_33 rfl rfl ?_
      refine v_aload_n (j := 3) (x := a 0) G dX9_doneAhead_34 rfl rfl ?_
      refine v_iload_n (j := 0) (x := jI (k : Int)) G dX9_doneAhead_35 rfl rfl ?_
      refine v_iconst G dX9_doneAhead_36 ?_
      refine v_ciF G (rn_V (As := [.int (jI (k : Int)), .int (jI 1)]) (rest := [.int (dnI (hrs w n) (dnO w n) k)]) (q0 := 0) G (c_X9_taskIs (t := (k : Int)) (k := 1) (w := hrs w n) (kp := kp) (bf := bf) (ah := w) (ik := ik) (fd := fd) (sp := sp) (lt := lt) (tp := tp) (tn := tn) (he := he) (ft := ft) (vl := vl) (bt := bt) (lg := lg) (ce := ce) (bw := bw) (a := a) (ht := (by omega))) gX9_doneAhead_X9_taskIs rfl hdX9_taskIs ⟨rfl, rfl, Nat.le_of_ble_eq_true rfl, Nat.le_of_ble_eq_true rfl⟩ rfl rfl (Nat.le_of_ble_eq_true rfl) ⟨Nat.zero_le _, Nat.zero_le _⟩ rfl rfl dX9_doneAhead_37) (fun r_16 u_18 e_17 => ?_)
      have e_17 : r_16 = jI (fT (hrs w n) (k : Int) 1) := e_17
      subst e_17
      refine v_world (ws' := (wR cI cL a (hrs w n) kp bf w ik fd sp lt tp tn he ft vl bt lg ce bw)) rfl ?_
      refine v_aload_n (j := 3) (x := a 0) G dX9_doneAhead_40 rfl rfl ?_
      refine v_get (q0 := 0) (k := 0) (v := .ref (a 1)) G k_X9 rfl rfl (by decide) q_1 rfl rfl dX9_doneAhead_41 ?_
      refine v_iconst G dX9_doneAhead_44 ?_
      refine v_iald (q0 := 1) (t0 := 0) (g := (hrs w n)) (z := 0) G rfl rfl (by omega) dX9_doneAhead_45 ?_
      refine v_cut (pc' := 64) (lv' := [(3, .int (jI (k : Int))), (1, .int (dnI (hrs w n) (dnO w n) k)), (2, .int (jI (n : Int))), (0, .ref (a 0))]) (st' := [.int (btI (fT (hrs w n) (k : Int) 1 = hrs w n 0 ∧ ¬ drk (hrs w n) (k : Int)) (k : Int)), .int (dnI (hrs w n) (dnO w n) k)]) (ws' := (wR cI cL a (hrs w n) kp bf w ik fd sp lt tp tn he ft vl bt lg ce bw)) ?_ (fun J_19 => ?_)
      · skip
        refine v_ior (v := (dnI (hrs w n) (dnO w n) k) ||| (btI (fT (hrs w n) (k : Int) 1 = hrs w n 0 ∧ ¬ drk (hrs w n) (k : Int)) (k : Int))) G dX9_doneAhead_64 rfl ?_
        refine v_top (x := (dnI (hrs w n) (dnO w n) k) ||| (btI (fT (hrs w n) (k : Int) 1 = hrs w n 0 ∧ ¬ drk (hrs w n) (k : Int)) (k : Int))) (y := dnI (hrs w n) (dnO w n) (k + 1)) rfl ?_
        refine v_istore_n (lv' := [(1, .int (dnI (hrs w n) (dnO w n) (k + 1))), (3, .int (jI (k : Int))), (2, .int (jI (n : Int))), (0, .ref (a 0))]) G dX9_doneAhead_65 rfl (by decide) rfl ?_
        refine v_iinc (k := 1) (z := (k : Int)) (z' := ((k + 1 : Nat) : Int)) (lv' := [(3, .int (jI ((k + 1 : Nat) : Int))), (1, .int (dnI (hrs w n) (dnO w n) (k + 1))), (2, .int (jI (n : Int))), (0, .ref (a 0))]) G dX9_doneAhead_66 rfl (by omega) (by decide) rfl ?_
        refine v_goto (tgt := 23) G dX9_doneAhead_69 (by decide) ?_
        exact ih_11 (k + 1) (by omega) (by omega)
      · skip
        refine v_icmp_ne (a := fT (hrs w n) (k : Int) 1) (b := (hrs w n) 0) (tgt := 63) G dX9_doneAhead_46 (by decide) (by omega) (fun c_20 => ?_) (fun c_20 => ?_)
        · skip
          refine v_iconst G dX9_doneAhead_63 ?_
          refine v_top (x := jI 0) (y := btI (fT (hrs w n) (k : Int) 1 = hrs w n 0 ∧ ¬ drk (hrs w n) (k : Int)) (k : Int)) (btI_f (by rintro ⟨x1, x2⟩; first | exact absurd x1 (by assumption) | exact x2 (by assumption))).symm ?_
          exact J_19
        · skip
          refine v_aload_n (j := 3) (x := a 0) G dX9_doneAhead_49 rfl rfl ?_
          refine v_iload_n (j := 0) (x := jI (k : Int)) G dX9_doneAhead_50 rfl rfl ?_
          refine v_ciF G (rn_V (As := [.int (jI (k : Int))]) (rest := [.int (dnI (hrs w n) (dnO w n) k)]) (q0 := 0) G (c_X9_isDark (t := (k : Int)) (w := (hrs w n)) (kp := kp) (bf := bf) (ah := w) (ik := ik) (fd := fd) (sp := sp) (lt := lt) (tp := tp) (tn := tn) (he := he) (ft := ft) (vl := vl) (bt := bt) (lg := lg) (ce := ce) (bw := bw) (a := a) (hw := i1) (ht := (by omega))) gX9_doneAhead_X9_isDark rfl hdX9_isDark ⟨rfl, rfl, Nat.le_of_ble_eq_true rfl, Nat.le_of_ble_eq_true rfl⟩ rfl rfl (Nat.le_of_ble_eq_true rfl) ⟨Nat.zero_le _, Nat.zero_le _⟩ rfl rfl dX9_doneAhead_51) (fun r_21 u_23 e_22 => ?_)
          have e_22 : r_21 = jI (b2 (drk (hrs w n) (k : Int))) := e_22
          subst e_22
          refine v_world (ws' := (wR cI cL a (hrs w n) kp bf w ik fd sp lt tp tn he ft vl bt lg ce bw)) rfl ?_
          refine v_ifb_ne (P := drk (hrs w n) (k : Int)) (tgt := 63) G dX9_doneAhead_54 (by decide) (fun c_24 => ?_) (fun c_24 => ?_)
          · skip
            refine v_iconst G dX9_doneAhead_63 ?_
            refine v_top (x := jI 0) (y := btI (fT (hrs w n) (k : Int) 1 = hrs w n 0 ∧ ¬ drk (hrs w n) (k : Int)) (k : Int)) (btI_f (by rintro ⟨x1, x2⟩; first | exact absurd x1 (by assumption) | exact x2 (by assumption))).symm ?_
            exact J_19
          · skip
            refine v_iconst G dX9_doneAhead_57 ?_
            refine v_iload_n (j := 0) (x := jI (k : Int)) G dX9_doneAhead_58 rfl rfl ?_
            refine v_ishl (v := (jI 1) <<< ((jI (k : Int)) &&& 31)) G dX9_doneAhead_59 rfl ?_
            refine v_goto (tgt := 64) G dX9_doneAhead_60 (by decide) ?_
            refine v_top (x := (jI 1) <<< ((jI (k : Int)) &&& 31)) (y := btI (fT (hrs w n) (k : Int) 1 = hrs w n 0 ∧ ¬ drk (hrs w n) (k : Int)) (k : Int)) (btI_t (by exact ⟨by assumption, by assumption⟩)).symm ?_
            exact J_19
end

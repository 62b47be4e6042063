section
variable {l : Launch} {D : va_G} {cI cL cB cS : ClassId} {a : Nat → Nat} {w kp bf ah fd sp lt tp bt lg : Int → Int} {ik tn he ft vl : Int} {ce bw : Int → Int64}
def dkC (w : Int → Int) (t c : Int) : Prop := (0 ≤ fT w t 1 - w 0 ∧ fT w t 1 - w 0 ≤ 100) ∧ ¬ ((sDn w >>> (jI t &&& 31)) &&& jI 1 = jI 1) ∧ (c < 0 ∨ fT w t 1 ≤ fT w c 1)
noncomputable def dkN (w : Int → Int) : Nat → Int
  | 0 => -1
  | k + 1 => @ite Int (dkC w (w 2 - 1 - (k : Int)) (dkN w k)) (Classical.propDecidable _) (w 2 - 1 - (k : Int)) (dkN w k)
theorem dk_t {w : Int → Int} {k : Nat} (h : dkC w (w 2 - 1 - (k : Int)) (dkN w k)) : dkN w (k + 1) = w 2 - 1 - (k : Int) := if_pos h
theorem dk_f {w : Int → Int} {k : Nat} (h : ¬ dkC w (w 2 - 1 - (k : Int)) (dkN w k)) : dkN w (k + 1) = dkN w k := if_neg h
theorem dkN_r (w : Int → Int) (h2 : 0 ≤ w 2) : ∀ k : Nat, (k : Int) ≤ w 2 → -1 ≤ dkN w k ∧ dkN w k < w 2 := by
  intro k
  induction k with
  | zero => intro _; exact ⟨Int.le_refl _, by show (-1 : Int) < w 2; omega⟩
  | succ k ih =>
    intro h
    have i := ih (by omega)
    rcases Classical.em (dkC w (w 2 - 1 - (k : Int)) (dkN w k)) with q | q
    · rw [dk_t q]; omega
    · rw [dk_f q]; exact i
def sOut (w : Int → Int) : Prop := sumN (sSh w) (w 1).toNat + sumN (fun x_ => w (3 + x_)) 16 = 0
/-- the first place from n on, of m, at which P holds; n + m if there is none -/
noncomputable def lstN (P : Nat → Prop) : Nat → Nat → Nat
  | 0, n => n
  | m + 1, n => @ite Nat (P n) (Classical.propDecidable _) n (lstN P m (n + 1))
theorem lst_s {P : Nat → Prop} {n x : Nat} (hn : n ≤ 100) (h : ¬ P n) (e : lstN P (101 - n) n = x) : lstN P (101 - (n + 1)) (n + 1) = x := by
  rw [show 101 - n = (101 - (n + 1)) + 1 by omega] at e
  rw [← e]
  exact (if_neg h).symm
theorem lst_i {P : Nat → Prop} {n x : Nat} (e : lstN P (101 - n) n = x) (hn : n ≤ 100) (h : P n) : x = n := by
  rw [show 101 - n = (101 - (n + 1)) + 1 by omega] at e
  rw [← e]
  exact if_pos h
theorem lst_o {P : Nat → Prop} {n x : Nat} (e : lstN P (101 - n) n = x) (hn : n = 101) : x = n := by
  subst hn
  exact e.symm
set_option maxHeartbeats 4000000 in
set_option maxRecDepth 100000 in
theorem c_X9_taskOf (t k : Int) (hw : Wf w) (h0 : w 0 ≤ 9999) (hr : (-2147483648 ≤ t ∧ t ≤ 2147483647) ∧ (-2147483648 ≤ k ∧ k ≤ 2147483647)) : Ci l yX9_taskOf wsX9_taskOf { frames := 7, cells := 0, slots := 0, locals := 157 } D (jT cI cL cB cS) [.ref (a 0), .int (jI t), .int (jI k)] (wR cI cL a w kp bf ah ik fd sp lt tp tn he ft vl bt lg ce bw) (S := (Int → Int) × (Int → Int)) (fun u => (wR cI cL a w kp bf u.2 ik u.1 sp lt tp tn he ft vl bt lg ce bw)) (fun r u => ((¬ ((0 ≤ t ∧ t ≤ w 2 - 1) ∧ 0 ≤ k ∧ k ≤ 4)) ∧ r = jI (-1000000001) ∧ u.1 = uI fd 0 (fd 0 + 1)) ∨ ((((0 ≤ t ∧ t ≤ w 2 - 1) ∧ 0 ≤ k ∧ k ≤ 4) ∧ k < 3) ∧ r = jI (fT w t k) ∧ u.1 = fd) ∨ ((((0 ≤ t ∧ t ≤ w 2 - 1) ∧ 0 ≤ k ∧ k ≤ 4) ∧ k = 3) ∧ r = jI (b2 (drk w t)) ∧ u.1 = fd) ∨ ((((0 ≤ t ∧ t ≤ w 2 - 1) ∧ 0 ≤ k ∧ k ≤ 4) ∧ k = 4) ∧ r = (sDn w >>> (jI t &&& 31)) &&& jI 1 ∧ u.1 = fd)) := by
  refine Ci.mk (cc := cX9_taskOf) (maxL := 3) (rt := .int) (by decide) rfl (Nat.le_of_ble_eq_true rfl) rfl ?_
  intro p_ e_ s_ m_ b_ me_ c_ A_ G hnm
  have hm := hw.many
  have hmt := hw.tasks
  have hh := hw.hour
  refine v_aload_n (j := 0) (x := a 0) G dX9_taskOf_0 rfl rfl ?_
  refine v_iload_n (j := 1) (x := jI t) G dX9_taskOf_1 rfl rfl ?_
  refine v_ciF G (rn_V (As := [.int (jI t)]) (rest := []) (q0 := 0) G (c_X9_isTask (t := t) (w := w) (kp := kp) (bf := bf) (ah := ah) (ik := ik) (fd := fd) (sp := sp) (lt := lt) (tp := tp) (tn := tn) (he := he) (ft := ft) (vl := vl) (bt := bt) (lg := lg) (ce := ce) (bw := bw) (a := a) (hw := hw) (hr := (by omega))) gX9_taskOf_X9_isTask rfl hdX9_isTask ⟨rfl, rfl, Nat.le_of_ble_eq_true rfl, Nat.le_of_ble_eq_true rfl⟩ rfl rfl (Nat.le_of_ble_eq_true rfl) ⟨Nat.zero_le _, Nat.zero_le _⟩ rfl rfl dX9_taskOf_2) (fun r_1 u_3 e_2 => ?_)
  have e_2 : r_1 = jI (b2 (0 ≤ t ∧ t ≤ w 2 - 1)) := e_2
  subst e_2
  refine v_world (ws' := (wR cI cL a w kp bf ah ik fd sp lt tp tn he ft vl bt lg ce bw)) rfl ?_
  refine v_ifb_eq (P := 0 ≤ t ∧ t ≤ w 2 - 1) (tgt := 17) G dX9_taskOf_5 (by decide) (fun c_4 => ?_) (fun c_4 => ?_)
  · skip
    refine v_aload_n (j := 0) (x := a 0) G dX9_taskOf_17 rfl rfl ?_
    refine v_iconst G dX9_taskOf_18 ?_
    refine v_ciF G (rn_V (As := [.int (jI 0)]) (rest := []) (q0 := 0) G (c_X9_no (k := 0) (w := w) (kp := kp) (bf := bf) (ah := ah) (ik := ik) (fd := fd) (sp := sp) (lt := lt) (tp := tp) (tn := tn) (he := he) (ft := ft) (vl := vl) (bt := bt) (lg := lg) (ce := ce) (bw := bw) (a := a) (hk := (by omega))) gX9_taskOf_X9_no rfl hdX9_no ⟨rfl, rfl, Nat.le_of_ble_eq_true rfl, Nat.le_of_ble_eq_true rfl⟩ rfl rfl (Nat.le_of_ble_eq_true rfl) ⟨Nat.zero_le _, Nat.zero_le _⟩ rfl rfl dX9_taskOf_19) (fun r_5 u_7 e_6 => ?_)
    have e_6 : r_5 = jI ((-1000000001) - 0) := e_6
    subst e_6
    refine v_world (ws' := (wR cI cL a w kp bf ah ik (uI fd 0 (fd 0 + 1)) sp lt tp tn he ft vl bt lg ce bw)) rfl ?_
    exact v_iret G (uI fd 0 (fd 0 + 1), ah) (by first | exact Or.inl ⟨(by omega), (by first | rfl | exact congrArg jI (by omega) | exact congrArg jI (b2_t (by assumption)).symm | exact congrArg jI (b2_f (by assumption)).symm), rfl⟩ | exact Or.inr (Or.inl ⟨(by omega), (by first | rfl | exact congrArg jI (by omega) | exact congrArg jI (b2_t (by assumption)).symm | exact congrArg jI (b2_f (by assumption)).symm), rfl⟩) | exact Or.inr (Or.inr (Or.inl ⟨(by omega), (by first | rfl | exact congrArg jI (by omega) | exact congrArg jI (b2_t (by assumption)).symm | exact congrArg jI (b2_f (by assumption)).symm), rfl⟩)) | exact Or.inr (Or.inr (Or.inr ⟨(by omega), (by first | rfl | exact congrArg jI (by omega) | exact congrArg jI (b2_t (by assumption)).symm | exact congrArg jI (b2_f (by assumption)).symm), rfl⟩))) rfl dX9_taskOf_22
  · skip
    refine v_iload_n (j := 2) (x := jI k) G dX9_taskOf_8 rfl rfl ?_
    refine v_iconst G dX9_taskOf_9 ?_
    refine v_iconst G dX9_taskOf_10 ?_
    refine v_ciN G (rn_S (As := [.int (jI k), .int (jI 0), .int (jI 4)]) (rest := []) G (c_X9_in (v := k) (lo := 0) (hi := 4) (hr := (by omega))) gX9_taskOf_X9_in rfl hdX9_in ⟨rfl, rfl, Nat.le_of_ble_eq_true rfl, Nat.le_of_ble_eq_true rfl⟩ rfl rfl (Nat.le_of_ble_eq_true rfl) ⟨Nat.zero_le _, Nat.zero_le _⟩ dX9_taskOf_11) (fun r_8 u_10 e_9 => ?_)
    have e_9 : r_8 = jI (b2 (0 ≤ k ∧ k ≤ 4)) := e_9
    subst e_9
    refine v_ifb_ne (P := 0 ≤ k ∧ k ≤ 4) (tgt := 23) G dX9_taskOf_14 (by decide) (fun c_11 => ?_) (fun c_11 => ?_)
    · skip
      refine v_iload_n (j := 2) (x := jI k) G dX9_taskOf_23 rfl rfl ?_
      refine v_iconst G dX9_taskOf_24 ?_
      refine v_icmp_ge (a := k) (b := 3) (tgt := 37) G dX9_taskOf_25 (by decide) (by omega) (fun c_12 => ?_) (fun c_12 => ?_)
      · skip
        refine v_iload_n (j := 2) (x := jI k) G dX9_taskOf_37 rfl rfl ?_
        refine v_iconst G dX9_taskOf_38 ?_
        refine v_icmp_ne (a := k) (b := 3) (tgt := 58) G dX9_taskOf_39 (by decide) (by omega) (fun c_13 => ?_) (fun c_13 => ?_)
        · skip
          refine v_aload_n (j := 0) (x := a 0) G dX9_taskOf_58 rfl rfl ?_
          refine v_ciF G (rn_V (As := []) (rest := []) (q0 := 0) G (c_X9_doneAhead (w := w) (kp := kp) (bf := bf) (ah := ah) (ik := ik) (fd := fd) (sp := sp) (lt := lt) (tp := tp) (tn := tn) (he := he) (ft := ft) (vl := vl) (bt := bt) (lg := lg) (ce := ce) (bw := bw) (a := a) (hw := hw) (h0 := (by omega))) gX9_taskOf_X9_doneAhead rfl hdX9_doneAhead ⟨rfl, rfl, Nat.le_of_ble_eq_true rfl, Nat.le_of_ble_eq_true rfl⟩ rfl rfl (Nat.le_of_ble_eq_true rfl) ⟨Nat.zero_le _, Nat.zero_le _⟩ rfl rfl dX9_taskOf_59) (fun r_14 u_16 e_15 => ?_)
          have e_15 : r_14 = sDn w := e_15
          subst e_15
          refine v_world (ws' := (wR cI cL a w kp bf w ik fd sp lt tp tn he ft vl bt lg ce bw)) rfl ?_
          refine v_iload_n (j := 1) (x := jI t) G dX9_taskOf_62 rfl rfl ?_
          refine v_ishr (v := (sDn w) >>> ((jI t) &&& 31)) G dX9_taskOf_63 rfl ?_
          refine v_iconst G dX9_taskOf_64 ?_
          refine v_iand (v := ((sDn w) >>> ((jI t) &&& 31)) &&& (jI 1)) G dX9_taskOf_65 rfl ?_
          exact v_iret G (fd, w) (by first | exact Or.inl ⟨(by omega), (by first | rfl | exact congrArg jI (by omega) | exact congrArg jI (b2_t (by assumption)).symm | exact congrArg jI (b2_f (by assumption)).symm), rfl⟩ | exact Or.inr (Or.inl ⟨(by omega), (by first | rfl | exact congrArg jI (by omega) | exact congrArg jI (b2_t (by assumption)).symm | exact congrArg jI (b2_f (by assumption)).symm), rfl⟩) | exact Or.inr (Or.inr (Or.inl ⟨(by omega), (by first | rfl | exact congrArg jI (by omega) | exact congrArg jI (b2_t (by assumption)).symm | exact congrArg jI (b2_f (by assumption)).symm), rfl⟩)) | exact Or.inr (Or.inr (Or.inr ⟨(by omega), (by first | rfl | exact congrArg jI (by omega) | exact congrArg jI (b2_t (by assumption)).symm | exact congrArg jI (b2_f (by assumption)).symm), rfl⟩))) rfl dX9_taskOf_66
        · skip
          refine v_aload_n (j := 0) (x := a 0) G dX9_taskOf_42 rfl rfl ?_
          refine v_iload_n (j := 1) (x := jI t) G dX9_taskOf_43 rfl rfl ?_
          refine v_ciF G (rn_V (As := [.int (jI t)]) (rest := []) (q0 := 0) G (c_X9_isDark (t := t) (w := w) (kp := kp) (bf := bf) (ah := ah) (ik := ik) (fd := fd) (sp := sp) (lt := lt) (tp := tp) (tn := tn) (he := he) (ft := ft) (vl := vl) (bt := bt) (lg := lg) (ce := ce) (bw := bw) (a := a) (hw := hw) (ht := (by omega))) gX9_taskOf_X9_isDark rfl hdX9_isDark ⟨rfl, rfl, Nat.le_of_ble_eq_true rfl, Nat.le_of_ble_eq_true rfl⟩ rfl rfl (Nat.le_of_ble_eq_true rfl) ⟨Nat.zero_le _, Nat.zero_le _⟩ rfl rfl dX9_taskOf_44) (fun r_17 u_19 e_18 => ?_)
          have e_18 : r_17 = jI (b2 (drk w t)) := e_18
          subst e_18
          refine v_world (ws' := (wR cI cL a w kp bf ah ik fd sp lt tp tn he ft vl bt lg ce bw)) rfl ?_
          refine v_ifb_eq (P := drk w t) (tgt := 54) G dX9_taskOf_47 (by decide) (fun c_20 => ?_) (fun c_20 => ?_)
          · skip
            refine v_iconst G dX9_taskOf_54 ?_
            refine v_goto (tgt := 66) G dX9_taskOf_55 (by decide) ?_
            exact v_iret G (fd, ah) (by first | exact Or.inl ⟨(by omega), (by first | rfl | exact congrArg jI (by omega) | exact congrArg jI (b2_t (by assumption)).symm | exact congrArg jI (b2_f (by assumption)).symm), rfl⟩ | exact Or.inr (Or.inl ⟨(by omega), (by first | rfl | exact congrArg jI (by omega) | exact congrArg jI (b2_t (by assumption)).symm | exact congrArg jI (b2_f (by assumption)).symm), rfl⟩) | exact Or.inr (Or.inr (Or.inl ⟨(by omega), (by first | rfl | exact congrArg jI (by omega) | exact congrArg jI (b2_t (by assumption)).symm | exact congrArg jI (b2_f (by assumption)).symm), rfl⟩)) | exact Or.inr (Or.inr (Or.inr ⟨(by omega), (by first | rfl | exact congrArg jI (by omega) | exact congrArg jI (b2_t (by assumption)).symm | exact congrArg jI (b2_f (by assumption)).symm), rfl⟩))) rfl dX9_taskOf_66
          · skip
            refine v_iconst G dX9_taskOf_50 ?_
            refine v_goto (tgt := 66) G dX9_taskOf_51 (by decide) ?_
            exact v_iret G (fd, ah) (by first | exact Or.inl ⟨(by omega), (by first | rfl | exact congrArg jI (by omega) | exact congrArg jI (b2_t (by assumption)).symm | exact congrArg jI (b2_f (by assumption)).symm), rfl⟩ | exact Or.inr (Or.inl ⟨(by omega), (by first | rfl | exact congrArg jI (by omega) | exact congrArg jI (b2_t (by assumption)).symm | exact congrArg jI (b2_f (by assumption)).symm), rfl⟩) | exact Or.inr (Or.inr (Or.inl ⟨(by omega), (by first | rfl | exact congrArg jI (by omega) | exact congrArg jI (b2_t (by assumption)).symm | exact congrArg jI (b2_f (by assumption)).symm), rfl⟩)) | exact Or.inr (Or.inr (Or.inr ⟨(by omega), (by first | rfl | exact congrArg jI (by omega) | exact congrArg jI (b2_t (by assumption)).symm | exact congrArg jI (b2_f (by assumption)).symm), rfl⟩))) rfl dX9_taskOf_66
      · skip
        refine v_aload_n (j := 0) (x := a 0) G dX9_taskOf_28 rfl rfl ?_
        refine v_iload_n (j := 1) (x := jI t) G dX9_taskOf_29 rfl rfl ?_
        refine v_iload_n (j := 2) (x := jI k) G dX9_taskOf_30 rfl rfl ?_
        refine v_ciF G (rn_V (As := [.int (jI t), .int (jI k)]) (rest := []) (q0 := 0) G (c_X9_taskIs (t := t) (k := k) (w := w) (kp := kp) (bf := bf) (ah := ah) (ik := ik) (fd := fd) (sp := sp) (lt := lt) (tp := tp) (tn := tn) (he := he) (ft := ft) (vl := vl) (bt := bt) (lg := lg) (ce := ce) (bw := bw) (a := a) (ht := (by omega))) gX9_taskOf_X9_taskIs rfl hdX9_taskIs ⟨rfl, rfl, Nat.le_of_ble_eq_true rfl, Nat.le_of_ble_eq_true rfl⟩ rfl rfl (Nat.le_of_ble_eq_true rfl) ⟨Nat.zero_le _, Nat.zero_le _⟩ rfl rfl dX9_taskOf_31) (fun r_21 u_23 e_22 => ?_)
        have e_22 : r_21 = jI (fT w t k) := e_22
        subst e_22
        refine v_world (ws' := (wR cI cL a w kp bf ah ik fd sp lt tp tn he ft vl bt lg ce bw)) rfl ?_
        refine v_goto (tgt := 66) G dX9_taskOf_34 (by decide) ?_
        exact v_iret G (fd, ah) (by first | exact Or.inl ⟨(by omega), (by first | rfl | exact congrArg jI (by omega) | exact congrArg jI (b2_t (by assumption)).symm | exact congrArg jI (b2_f (by assumption)).symm), rfl⟩ | exact Or.inr (Or.inl ⟨(by omega), (by first | rfl | exact congrArg jI (by omega) | exact congrArg jI (b2_t (by assumption)).symm | exact congrArg jI (b2_f (by assumption)).symm), rfl⟩) | exact Or.inr (Or.inr (Or.inl ⟨(by omega), (by first | rfl | exact congrArg jI (by omega) | exact congrArg jI (b2_t (by assumption)).symm | exact congrArg jI (b2_f (by assumption)).symm), rfl⟩)) | exact Or.inr (Or.inr (Or.inr ⟨(by omega), (by first | rfl | exact congrArg jI (by omega) | exact congrArg jI (b2_t (by assumption)).symm | exact congrArg jI (b2_f (by assumption)).symm), rfl⟩))) rfl dX9_taskOf_66
    · skip
      refine v_aload_n (j := 0) (x := a 0) G dX9_taskOf_17 rfl rfl ?_
      refine v_iconst G dX9_taskOf_18 ?_
      refine v_ciF G (rn_V (As := [.int (jI 0)]) (rest := []) (q0 := 0) G (c_X9_no (k := 0) (w := w) (kp := kp) (bf := bf) (ah := ah) (ik := ik) (fd := fd) (sp := sp) (lt := lt) (tp := tp) (tn := tn) (he := he) (ft := ft) (vl := vl) (bt := bt) (lg := lg) (ce := ce) (bw := bw) (a := a) (hk := (by omega))) gX9_taskOf_X9_no rfl hdX9_no ⟨rfl, rfl, Nat.le_of_ble_eq_true rfl, Nat.le_of_ble_eq_true rfl⟩ rfl rfl (Nat.le_of_ble_eq_true rfl) ⟨Nat.zero_le _, Nat.zero_le _⟩ rfl rfl dX9_taskOf_19) (fun r_24 u_26 e_25 => ?_)
      have e_25 : r_24 = jI ((-1000000001) - 0) := e_25
      subst e_25
      refine v_world (ws' := (wR cI cL a w kp bf ah ik (uI fd 0 (fd 0 + 1)) sp lt tp tn he ft vl bt lg ce bw)) rfl ?_
      exact v_iret G (uI fd 0 (fd 0 + 1), ah) (by first | exact Or.inl ⟨(by omega), (by first | rfl | exact congrArg jI (by omega) | exact congrArg jI (b2_t (by assumption)).symm | exact congrArg jI (b2_f (by assumption)).symm), rfl⟩ | exact Or.inr (Or.inl ⟨(by omega), (by first | rfl | exact congrArg jI (by omega) | exact congrArg jI (b2_t (by assumption)).symm | exact congrArg jI (b2_f (by assumption)).symm), rfl⟩) | exact Or.inr (Or.inr (Or.inl ⟨(by omega), (by first | rfl | exact congrArg jI (by omega) | exact congrArg jI (b2_t (by assumption)).symm | exact congrArg jI (b2_f (by assumption)).symm), rfl⟩)) | exact Or.inr (Or.inr (Or.inr ⟨(by omega), (by first | rfl | exact congrArg jI (by omega) | exact congrArg jI (b2_t (by assumption)).symm | exact congrArg jI (b2_f (by assumption)).symm), rfl⟩))) rfl dX9_taskOf_22

set_option maxHeartbeats 4000000 in
set_option maxRecDepth 100000 in
theorem c_X9_hours (n : Int) (hw : Wf w) (h0 : w 0 ≤ 9999) (hr : (-2147483648 ≤ n ∧ n ≤ 2147483647)) : Ci l yX9_hours wsX9_hours { frames := 6, cells := 0, slots := 0, locals := 135 } D (jT cI cL cB cS) [.ref (a 0), .int (jI n)] (wR cI cL a w kp bf ah ik fd sp lt tp tn he ft vl bt lg ce bw) (S := (Int → Int) × (Int → Int)) (fun u => (wR cI cL a u.1 kp bf ah ik u.2 sp lt tp tn he ft vl bt lg ce bw)) (fun r u => ((¬ (1 ≤ n ∧ n ≤ 100)) ∧ r = jI (-1000000001) ∧ u.1 = w ∧ u.2 = uI fd 0 (fd 0 + 1)) ∨ (((1 ≤ n ∧ n ≤ 100) ∧ 9999 < w 0 + n) ∧ r = jI (-1000000005) ∧ u.1 = w ∧ u.2 = uI fd 4 (fd 4 + 1)) ∨ (((1 ≤ n ∧ n ≤ 100) ∧ w 0 + n ≤ 9999) ∧ r = jI (sLtAll (hrs w n.toNat)) ∧ u.1 = hrs w n.toNat ∧ u.2 = fd)) := by
  refine Ci.mk (cc := cX9_hours) (maxL := 3) (rt := .int) (by decide) rfl (Nat.le_of_ble_eq_true rfl) rfl ?_
  intro p_ e_ s_ m_ b_ me_ c_ A_ G hnm
  have hm := hw.many
  have hmt := hw.tasks
  have hh := hw.hour
  have k_X9 : ∀ w ∈ u_ws RX9 TX9 17, w ∈ wsX9_hours := fun _ h => List.mem_cons_of_mem _ (List.mem_append_right _ h)
  have q_1 : Cond.fieldLink RX9 9 "SupperLightModel" "s" "[I" ∈ wsX9_hours := List.mem_of_getElem? (i := 1) rfl
  refine v_iload_n (j := 1) (x := jI n) G dX9_hours_0 rfl rfl ?_
  refine v_iconst G dX9_hours_1 ?_
  refine v_bipush G dX9_hours_2 (by decide) ?_
  refine v_ciN G (rn_S (As := [.int (jI n), .int (jI 1), .int (jI 100)]) (rest := []) G (c_X9_in (v := n) (lo := 1) (hi := 100) (hr := (by omega))) gX9_hours_X9_in rfl hdX9_in ⟨rfl, rfl, Nat.le_of_ble_eq_true rfl, Nat.le_of_ble_eq_true rfl⟩ rfl rfl (Nat.le_of_ble_eq_true rfl) ⟨Nat.zero_le _, Nat.zero_le _⟩ dX9_hours_4) (fun r_1 u_3 e_2 => ?_)
  have e_2 : r_1 = jI (b2 (1 ≤ n ∧ n ≤ 100)) := e_2
  subst e_2
  refine v_ifb_ne (P := 1 ≤ n ∧ n ≤ 100) (tgt := 16) G dX9_hours_7 (by decide) (fun c_4 => ?_) (fun c_4 => ?_)
  · skip
    refine v_aload_n (j := 0) (x := a 0) G dX9_hours_16 rfl rfl ?_
    refine v_get (q0 := 0) (k := 0) (v := .ref (a 1)) G k_X9 rfl rfl (by decide) q_1 rfl rfl dX9_hours_17 ?_
    refine v_iconst G dX9_hours_20 ?_
    refine v_iald (q0 := 1) (t0 := 0) (g := w) (z := 0) G rfl rfl (by omega) dX9_hours_21 ?_
    refine v_iload_n (j := 1) (x := jI n) G dX9_hours_22 rfl rfl ?_
    refine v_iadd (z := (w 0) + n) G dX9_hours_23 rfl ?_
    refine v_sipush G dX9_hours_24 (by decide) ?_
    refine v_icmp_le (a := (w 0) + n) (b := 9999) (tgt := 36) G dX9_hours_27 (by decide) (by omega) (fun c_5 => ?_) (fun c_5 => ?_)
    · skip
      refine v_iconst G dX9_hours_36 ?_
      refine v_istore_n (lv' := [(2, .int (jI 0)), (0, .ref (a 0)), (1, .int (jI n))]) G dX9_hours_37 rfl (by decide) rfl ?_
      refine v_locs (lv' := [(2, .int (jI 0)), (0, .ref (a 0)), (1, .int (jI n))]) [0, 1, 2] rfl ?_
      refine v_loop1 (fun (q : Nat) => [(2, .int (jI (q : Int))), (0, .ref (a 0)), (1, .int (jI n))]) (fun (q : Nat) => (wR cI cL a (hrs w q) kp bf ah ik fd sp lt tp tn he ft vl bt lg ce bw)) (fun (q : Nat) => (q : Int) ≤ n) (fun (q : Nat) => n.toNat - q) 0 (by omega) rfl rfl ?_
      intro q I_6 ih_7
      obtain ⟨i1, i2, i3, i4⟩ := hw.hrs q (by omega)
      refine v_iload_n (j := 0) (x := jI (q : Int)) G dX9_hours_38 rfl rfl ?_
      refine v_iload_n (j := 2) (x := jI n) G dX9_hours_39 rfl rfl ?_
      refine v_icmp_ge (a := (q : Int)) (b := n) (tgt := 53) G dX9_hours_40 (by decide) (by omega) (fun c_8 => ?_) (fun c_8 => ?_)
      · skip
        obtain rfl : q = n.toNat := by omega
        refine v_aload_n (j := 1) (x := a 0) G dX9_hours_53 rfl rfl ?_
        refine v_ciF G (rn_V (As := []) (rest := []) (q0 := 0) G (c_X9_lightOfAll (w := hrs w n.toNat) (kp := kp) (bf := bf) (ah := ah) (ik := ik) (fd := fd) (sp := sp) (lt := lt) (tp := tp) (tn := tn) (he := he) (ft := ft) (vl := vl) (bt := bt) (lg := lg) (ce := ce) (bw := bw) (a := a) (hw := i1)) gX9_hours_X9_lightOfAll rfl hdX9_lightOfAll ⟨rfl, rfl, Nat.le_of_ble_eq_true rfl, Nat.le_of_ble_eq_true rfl⟩ rfl rfl (Nat.le_of_ble_eq_true rfl) ⟨Nat.zero_le _, Nat.zero_le _⟩ rfl rfl dX9_hours_54) (fun r_9 u_11 e_10 => ?_)
        have e_10 : r_9 = jI (sLtAll (hrs w n.toNat)) := e_10
        subst e_10
        refine v_world (ws' := (wR cI cL a (hrs w n.toNat) kp bf ah ik fd sp lt tp tn he ft vl bt lg ce bw)) rfl ?_
        exact v_iret G ((hrs w n.toNat), fd) (by first | exact Or.inl ⟨(by omega), (by first | rfl | exact congrArg jI (by omega)), rfl, rfl⟩ | exact Or.inr (Or.inl ⟨(by omega), (by first | rfl | exact congrArg jI (by omega)), rfl, rfl⟩) | exact Or.inr (Or.inr ⟨(by omega), (by first | rfl | exact congrArg jI (by omega)), rfl, rfl⟩)) rfl dX9_hours_57
      · skip
        refine v_aload_n (j := 1) (x := a 0) G dX9_hours_43 rfl rfl ?_
        refine v_cvF G (rn_V (As := []) (rest := []) (q0 := 0) G (c_X9_hour (w := hrs w q) (kp := kp) (bf := bf) (ah := ah) (ik := ik) (fd := fd) (sp := sp) (lt := lt) (tp := tp) (tn := tn) (he := he) (ft := ft) (vl := vl) (bt := bt) (lg := lg) (ce := ce) (bw := bw) (a := a) (hw := i1) (h0 := (by omega))) gX9_hours_X9_hour rfl hdX9_hour ⟨rfl, rfl, Nat.le_of_ble_eq_true rfl, Nat.le_of_ble_eq_true rfl⟩ rfl rfl (Nat.le_of_ble_eq_true rfl) ⟨Nat.zero_le _, Nat.zero_le _⟩ rfl rfl dX9_hours_44) (fun u_14 e_13 => ?_)
        refine v_world (ws' := (wR cI cL a (sHr (hrs w q)) kp bf ah ik fd sp lt tp tn he ft vl bt lg ce bw)) rfl ?_
        refine v_world (ws' := (wR cI cL a (hrs w (q + 1)) kp bf ah ik fd sp lt tp tn he ft vl bt lg ce bw)) rfl ?_
        refine v_iinc (k := 0) (z := (q : Int)) (z' := ((q + 1 : Nat) : Int)) (lv' := [(2, .int (jI ((q + 1 : Nat) : Int))), (0, .ref (a 0)), (1, .int (jI n))]) G dX9_hours_47 rfl (by omega) (by decide) rfl ?_
        refine v_goto (tgt := 38) G dX9_hours_50 (by decide) ?_
        exact ih_7 (q + 1) (by omega) (by omega)
    · skip
      refine v_aload_n (j := 0) (x := a 0) G dX9_hours_30 rfl rfl ?_
      refine v_iconst G dX9_hours_31 ?_
      refine v_ciF G (rn_V (As := [.int (jI 4)]) (rest := []) (q0 := 0) G (c_X9_no (k := 4) (w := w) (kp := kp) (bf := bf) (ah := ah) (ik := ik) (fd := fd) (sp := sp) (lt := lt) (tp := tp) (tn := tn) (he := he) (ft := ft) (vl := vl) (bt := bt) (lg := lg) (ce := ce) (bw := bw) (a := a) (hk := (by omega))) gX9_hours_X9_no rfl hdX9_no ⟨rfl, rfl, Nat.le_of_ble_eq_true rfl, Nat.le_of_ble_eq_true rfl⟩ rfl rfl (Nat.le_of_ble_eq_true rfl) ⟨Nat.zero_le _, Nat.zero_le _⟩ rfl rfl dX9_hours_32) (fun r_15 u_17 e_16 => ?_)
      have e_16 : r_15 = jI ((-1000000001) - 4) := e_16
      subst e_16
      refine v_world (ws' := (wR cI cL a w kp bf ah ik (uI fd 4 (fd 4 + 1)) sp lt tp tn he ft vl bt lg ce bw)) rfl ?_
      exact v_iret G (w, uI fd 4 (fd 4 + 1)) (by first | exact Or.inl ⟨(by omega), (by first | rfl | exact congrArg jI (by omega)), rfl, rfl⟩ | exact Or.inr (Or.inl ⟨(by omega), (by first | rfl | exact congrArg jI (by omega)), rfl, rfl⟩) | exact Or.inr (Or.inr ⟨(by omega), (by first | rfl | exact congrArg jI (by omega)), rfl, rfl⟩)) rfl dX9_hours_35
  · skip
    refine v_aload_n (j := 0) (x := a 0) G dX9_hours_10 rfl rfl ?_
    refine v_iconst G dX9_hours_11 ?_
    refine v_ciF G (rn_V (As := [.int (jI 0)]) (rest := []) (q0 := 0) G (c_X9_no (k := 0) (w := w) (kp := kp) (bf := bf) (ah := ah) (ik := ik) (fd := fd) (sp := sp) (lt := lt) (tp := tp) (tn := tn) (he := he) (ft := ft) (vl := vl) (bt := bt) (lg := lg) (ce := ce) (bw := bw) (a := a) (hk := (by omega))) gX9_hours_X9_no rfl hdX9_no ⟨rfl, rfl, Nat.le_of_ble_eq_true rfl, Nat.le_of_ble_eq_true rfl⟩ rfl rfl (Nat.le_of_ble_eq_true rfl) ⟨Nat.zero_le _, Nat.zero_le _⟩ rfl rfl dX9_hours_12) (fun r_18 u_20 e_19 => ?_)
    have e_19 : r_18 = jI ((-1000000001) - 0) := e_19
    subst e_19
    refine v_world (ws' := (wR cI cL a w kp bf ah ik (uI fd 0 (fd 0 + 1)) sp lt tp tn he ft vl bt lg ce bw)) rfl ?_
    exact v_iret G (w, uI fd 0 (fd 0 + 1)) (by first | exact Or.inl ⟨(by omega), (by first | rfl | exact congrArg jI (by omega)), rfl, rfl⟩ | exact Or.inr (Or.inl ⟨(by omega), (by first | rfl | exact congrArg jI (by omega)), rfl, rfl⟩) | exact Or.inr (Or.inr ⟨(by omega), (by first | rfl | exact congrArg jI (by omega)), rfl, rfl⟩)) rfl dX9_hours_15

set_option maxHeartbeats 4000000 in
set_option maxRecDepth 100000 in
theorem c_X9_now (t : Int) (hw : Wf w) (h0 : w 0 ≤ 9999) (hr : (-2147483648 ≤ t ∧ t ≤ 2147483647)) : Ci l yX9_now wsX9_now { frames := 7, cells := 0, slots := 0, locals := 157 } D (jT cI cL cB cS) [.ref (a 0), .int (jI t)] (wR cI cL a w kp bf ah ik fd sp lt tp tn he ft vl bt lg ce bw) (S := (Int → Int) × (Int → Int)) (fun u => (wR cI cL a w kp bf u.2 ik u.1 sp lt tp tn he ft vl bt lg ce bw)) (fun r u => ((t = 0) ∧ r = jI (w 0) ∧ u.1 = fd) ∨ ((t = 1) ∧ r = jI (sumN (sSh w) (w 1).toNat) ∧ u.1 = fd) ∨ ((t = 2) ∧ r = jI (sumN (fun x_ => w (3 + x_)) 16) ∧ u.1 = fd) ∨ ((t = 3) ∧ r = jI (sLtAll w) ∧ u.1 = fd) ∨ ((t = 4) ∧ r = stN (fun x_ => fB w x_ 1 = fB w x_ 2) (w 1).toNat ∧ u.1 = fd) ∨ ((t = 5) ∧ r = sDn w ∧ u.1 = fd) ∨ ((t < 0 ∨ 5 < t) ∧ r = jI (-1000000001) ∧ u.1 = uI fd 0 (fd 0 + 1))) := by
  refine Ci.mk (cc := cX9_now) (maxL := 6) (rt := .int) (by decide) rfl (Nat.le_of_ble_eq_true rfl) rfl ?_
  intro p_ e_ s_ m_ b_ me_ c_ A_ G hnm
  have hm := hw.many
  have hmt := hw.tasks
  have hh := hw.hour
  have k_X9 : ∀ w ∈ u_ws RX9 TX9 17, w ∈ wsX9_now := fun _ h => List.mem_cons_of_mem _ (List.mem_append_right _ h)
  have q_1 : Cond.fieldLink RX9 9 "SupperLightModel" "s" "[I" ∈ wsX9_now := List.mem_of_getElem? (i := 1) rfl
  refine v_iconst G dX9_now_0 ?_
  refine v_topj (x := 0) (y := sumN (sSh w) 0) rfl ?_
  refine v_istore_n (lv' := [(2, .int (jI (sumN (sSh w) 0))), (0, .ref (a 0)), (1, .int (jI t))]) G dX9_now_1 rfl (by decide) rfl ?_
  refine v_iconst G dX9_now_2 ?_
  refine v_top (x := jI 0) (y := stN (fun x_ => fB w x_ 1 = fB w x_ 2) 0) rfl ?_
  refine v_istore_n (lv' := [(3, .int (stN (fun x_ => fB w x_ 1 = fB w x_ 2) 0)), (2, .int (jI (sumN (sSh w) 0))), (0, .ref (a 0)), (1, .int (jI t))]) G dX9_now_3 rfl (by decide) rfl ?_
  refine v_iconst G dX9_now_4 ?_
  refine v_istore (lv' := [(4, .int (jI 0)), (3, .int (stN (fun x_ => fB w x_ 1 = fB w x_ 2) 0)), (2, .int (jI (sumN (sSh w) 0))), (0, .ref (a 0)), (1, .int (jI t))]) G dX9_now_5 (by decide) rfl ?_
  refine v_locs (lv' := [(4, .int (jI 0)), (3, .int (stN (fun x_ => fB w x_ 1 = fB w x_ 2) 0)), (2, .int (jI (sumN (sSh w) 0))), (0, .ref (a 0)), (1, .int (jI t))]) [0, 1, 2, 3, 4] rfl ?_
  refine v_loop1 (fun (k : Nat) => [(4, .int (jI (k : Int))), (3, .int (stN (fun x_ => fB w x_ 1 = fB w x_ 2) k)), (2, .int (jI (sumN (sSh w) k))), (0, .ref (a 0)), (1, .int (jI t))]) (fun (k : Nat) => (wR cI cL a w kp bf ah ik fd sp lt tp tn he ft vl bt lg ce bw)) (fun (k : Nat) => (k : Int) ≤ w 1) (fun (k : Nat) => (w 1).toNat - k) 0 (by omega) rfl rfl ?_
  intro k I_1 ih_2
  refine v_iload (j := 0) (x := jI (k : Int)) G dX9_now_7 rfl ?_
  refine v_aload_n (j := 3) (x := a 0) G dX9_now_9 rfl rfl ?_
  refine v_get (q0 := 0) (k := 0) (v := .ref (a 1)) G k_X9 rfl rfl (by decide) q_1 rfl rfl dX9_now_10 ?_
  refine v_iconst G dX9_now_13 ?_
  refine v_iald (q0 := 1) (t0 := 0) (g := w) (z := 1) G rfl rfl (by omega) dX9_now_14 ?_
  refine v_icmp_ge (a := (k : Int)) (b := w 1) (tgt := 61) G dX9_now_15 (by decide) (by omega) (fun c_3 => ?_) (fun c_3 => ?_)
  · skip
    obtain rfl : k = (w 1).toNat := by omega
    refine v_iconst G dX9_now_61 ?_
    refine v_topj (x := 0) (y := sumN (fun x_ => w (3 + x_)) 0) rfl ?_
    refine v_istore (lv' := [(4, .int (jI (sumN (fun x_ => w (3 + x_)) 0))), (3, .int (stN (fun x_ => fB w x_ 1 = fB w x_ 2) ((w 1).toNat))), (2, .int (jI (sumN (sSh w) ((w 1).toNat)))), (0, .ref (a 0)), (1, .int (jI t))]) G dX9_now_62 (by decide) rfl ?_
    refine v_iconst G dX9_now_64 ?_
    refine v_istore (lv' := [(5, .int (jI 0)), (4, .int (jI (sumN (fun x_ => w (3 + x_)) 0))), (3, .int (stN (fun x_ => fB w x_ 1 = fB w x_ 2) ((w 1).toNat))), (2, .int (jI (sumN (sSh w) ((w 1).toNat)))), (0, .ref (a 0)), (1, .int (jI t))]) G dX9_now_65 (by decide) rfl ?_
    refine v_locs (lv' := [(5, .int (jI 0)), (4, .int (jI (sumN (fun x_ => w (3 + x_)) 0))), (3, .int (stN (fun x_ => fB w x_ 1 = fB w x_ 2) ((w 1).toNat))), (2, .int (jI (sumN (sSh w) ((w 1).toNat)))), (0, .ref (a 0)), (1, .int (jI t))]) [0, 1, 2, 3, 4, 5] rfl ?_
    refine v_loop1 (fun (q : Nat) => [(5, .int (jI (q : Int))), (4, .int (jI (sumN (fun x_ => w (3 + x_)) q))), (3, .int (stN (fun x_ => fB w x_ 1 = fB w x_ 2) ((w 1).toNat))), (2, .int (jI (sumN (sSh w) ((w 1).toNat)))), (0, .ref (a 0)), (1, .int (jI t))]) (fun (q : Nat) => (wR cI cL a w kp bf ah ik fd sp lt tp tn he ft vl bt lg ce bw)) (fun (q : Nat) => (q : Int) ≤ 16) (fun (q : Nat) => 16 - q) 0 (by decide) rfl rfl ?_
    intro q I_4 ih_5
    refine v_iload (j := 0) (x := jI (q : Int)) G dX9_now_67 rfl ?_
    refine v_bipush G dX9_now_69 (by decide) ?_
    refine v_icmp_ge (a := (q : Int)) (b := 16) (tgt := 94) G dX9_now_71 (by decide) (by omega) (fun c_6 => ?_) (fun c_6 => ?_)
    · skip
      obtain rfl : q = 16 := by omega
      refine v_iload_n (j := 5) (x := jI t) G dX9_now_94 rfl rfl ?_
      rcases (show t = 0 ∨ t = 1 ∨ t = 2 ∨ t = 3 ∨ t = 4 ∨ t = 5 ∨ (t < 0 ∨ 5 < t) by omega) with c_7 | c_7 | c_7 | c_7 | c_7 | c_7 | c_7
      · skip
        refine v_tabIn (z := t) (v := 0) (tgt := 132) G c_7 (by decide) rfl (by decide) dX9_now_95 ?_
        refine v_aload_n (j := 4) (x := a 0) G dX9_now_132 rfl rfl ?_
        refine v_get (q0 := 0) (k := 0) (v := .ref (a 1)) G k_X9 rfl rfl (by decide) q_1 rfl rfl dX9_now_133 ?_
        refine v_iconst G dX9_now_136 ?_
        refine v_iald (q0 := 1) (t0 := 0) (g := w) (z := 0) G rfl rfl (by omega) dX9_now_137 ?_
        exact v_iret G (fd, ah) (by first | exact Or.inl ⟨(by omega), (by first | rfl | exact congrArg jI (by omega)), rfl⟩ | exact Or.inr (Or.inl ⟨(by omega), (by first | rfl | exact congrArg jI (by omega)), rfl⟩) | exact Or.inr (Or.inr (Or.inl ⟨(by omega), (by first | rfl | exact congrArg jI (by omega)), rfl⟩)) | exact Or.inr (Or.inr (Or.inr (Or.inl ⟨(by omega), (by first | rfl | exact congrArg jI (by omega)), rfl⟩))) | exact Or.inr (Or.inr (Or.inr (Or.inr (Or.inl ⟨(by omega), (by first | rfl | exact congrArg jI (by omega)), rfl⟩)))) | exact Or.inr (Or.inr (Or.inr (Or.inr (Or.inr (Or.inl ⟨(by omega), (by first | rfl | exact congrArg jI (by omega)), rfl⟩))))) | exact Or.inr (Or.inr (Or.inr (Or.inr (Or.inr (Or.inr ⟨(by omega), (by first | rfl | exact congrArg jI (by omega)), rfl⟩)))))) rfl dX9_now_138
      · skip
        refine v_tabIn (z := t) (v := 1) (tgt := 139) G c_7 (by decide) rfl (by decide) dX9_now_95 ?_
        refine v_iload_n (j := 3) (x := jI (sumN (sSh w) ((w 1).toNat))) G dX9_now_139 rfl rfl ?_
        exact v_iret G (fd, ah) (by first | exact Or.inl ⟨(by omega), (by first | rfl | exact congrArg jI (by omega)), rfl⟩ | exact Or.inr (Or.inl ⟨(by omega), (by first | rfl | exact congrArg jI (by omega)), rfl⟩) | exact Or.inr (Or.inr (Or.inl ⟨(by omega), (by first | rfl | exact congrArg jI (by omega)), rfl⟩)) | exact Or.inr (Or.inr (Or.inr (Or.inl ⟨(by omega), (by first | rfl | exact congrArg jI (by omega)), rfl⟩))) | exact Or.inr (Or.inr (Or.inr (Or.inr (Or.inl ⟨(by omega), (by first | rfl | exact congrArg jI (by omega)), rfl⟩)))) | exact Or.inr (Or.inr (Or.inr (Or.inr (Or.inr (Or.inl ⟨(by omega), (by first | rfl | exact congrArg jI (by omega)), rfl⟩))))) | exact Or.inr (Or.inr (Or.inr (Or.inr (Or.inr (Or.inr ⟨(by omega), (by first | rfl | exact congrArg jI (by omega)), rfl⟩)))))) rfl dX9_now_140
      · skip
        refine v_tabIn (z := t) (v := 2) (tgt := 141) G c_7 (by decide) rfl (by decide) dX9_now_95 ?_
        refine v_iload (j := 1) (x := jI (sumN (fun x_ => w (3 + x_)) 16)) G dX9_now_141 rfl ?_
        exact v_iret G (fd, ah) (by first | exact Or.inl ⟨(by omega), (by first | rfl | exact congrArg jI (by omega)), rfl⟩ | exact Or.inr (Or.inl ⟨(by omega), (by first | rfl | exact congrArg jI (by omega)), rfl⟩) | exact Or.inr (Or.inr (Or.inl ⟨(by omega), (by first | rfl | exact congrArg jI (by omega)), rfl⟩)) | exact Or.inr (Or.inr (Or.inr (Or.inl ⟨(by omega), (by first | rfl | exact congrArg jI (by omega)), rfl⟩))) | exact Or.inr (Or.inr (Or.inr (Or.inr (Or.inl ⟨(by omega), (by first | rfl | exact congrArg jI (by omega)), rfl⟩)))) | exact Or.inr (Or.inr (Or.inr (Or.inr (Or.inr (Or.inl ⟨(by omega), (by first | rfl | exact congrArg jI (by omega)), rfl⟩))))) | exact Or.inr (Or.inr (Or.inr (Or.inr (Or.inr (Or.inr ⟨(by omega), (by first | rfl | exact congrArg jI (by omega)), rfl⟩)))))) rfl dX9_now_143
      · skip
        refine v_tabIn (z := t) (v := 3) (tgt := 144) G c_7 (by decide) rfl (by decide) dX9_now_95 ?_
        refine v_aload_n (j := 4) (x := a 0) G dX9_now_144 rfl rfl ?_
        refine v_ciF G (rn_V (As := []) (rest := []) (q0 := 0) G (c_X9_lightOfAll (w := w) (kp := kp) (bf := bf) (ah := ah) (ik := ik) (fd := fd) (sp := sp) (lt := lt) (tp := tp) (tn := tn) (he := he) (ft := ft) (vl := vl) (bt := bt) (lg := lg) (ce := ce) (bw := bw) (a := a) (hw := hw)) gX9_now_X9_lightOfAll rfl hdX9_lightOfAll ⟨rfl, rfl, Nat.le_of_ble_eq_true rfl, Nat.le_of_ble_eq_true rfl⟩ rfl rfl (Nat.le_of_ble_eq_true rfl) ⟨Nat.zero_le _, Nat.zero_le _⟩ rfl rfl dX9_now_145) (fun r_8 u_10 e_9 => ?_)
        have e_9 : r_8 = jI (sLtAll w) := e_9
        subst e_9
        refine v_world (ws' := (wR cI cL a w kp bf ah ik fd sp lt tp tn he ft vl bt lg ce bw)) rfl ?_
        exact v_iret G (fd, ah) (by first | exact Or.inl ⟨(by omega), (by first | rfl | exact congrArg jI (by omega)), rfl⟩ | exact Or.inr (Or.inl ⟨(by omega), (by first | rfl | exact congrArg jI (by omega)), rfl⟩) | exact Or.inr (Or.inr (Or.inl ⟨(by omega), (by first | rfl | exact congrArg jI (by omega)), rfl⟩)) | exact Or.inr (Or.inr (Or.inr (Or.inl ⟨(by omega), (by first | rfl | exact congrArg jI (by omega)), rfl⟩))) | exact Or.inr (Or.inr (Or.inr (Or.inr (Or.inl ⟨(by omega), (by first | rfl | exact congrArg jI (by omega)), rfl⟩)))) | exact Or.inr (Or.inr (Or.inr (Or.inr (Or.inr (Or.inl ⟨(by omega), (by first | rfl | exact congrArg jI (by omega)), rfl⟩))))) | exact Or.inr (Or.inr (Or.inr (Or.inr (Or.inr (Or.inr ⟨(by omega), (by first | rfl | exact congrArg jI (by omega)), rfl⟩)))))) rfl dX9_now_148
      · skip
        refine v_tabIn (z := t) (v := 4) (tgt := 149) G c_7 (by decide) rfl (by decide) dX9_now_95 ?_
        refine v_iload_n (j := 2) (x := stN (fun x_ => fB w x_ 1 = fB w x_ 2) ((w 1).toNat)) G dX9_now_149 rfl rfl ?_
        exact v_iret G (fd, ah) (by first | exact Or.inl ⟨(by omega), (by first | rfl | exact congrArg jI (by omega)), rfl⟩ | exact Or.inr (Or.inl ⟨(by omega), (by first | rfl | exact congrArg jI (by omega)), rfl⟩) | exact Or.inr (Or.inr (Or.inl ⟨(by omega), (by first | rfl | exact congrArg jI (by omega)), rfl⟩)) | exact Or.inr (Or.inr (Or.inr (Or.inl ⟨(by omega), (by first | rfl | exact congrArg jI (by omega)), rfl⟩))) | exact Or.inr (Or.inr (Or.inr (Or.inr (Or.inl ⟨(by omega), (by first | rfl | exact congrArg jI (by omega)), rfl⟩)))) | exact Or.inr (Or.inr (Or.inr (Or.inr (Or.inr (Or.inl ⟨(by omega), (by first | rfl | exact congrArg jI (by omega)), rfl⟩))))) | exact Or.inr (Or.inr (Or.inr (Or.inr (Or.inr (Or.inr ⟨(by omega), (by first | rfl | exact congrArg jI (by omega)), rfl⟩)))))) rfl dX9_now_150
      · skip
        refine v_tabIn (z := t) (v := 5) (tgt := 151) G c_7 (by decide) rfl (by decide) dX9_now_95 ?_
        refine v_aload_n (j := 4) (x := a 0) G dX9_now_151 rfl rfl ?_
        refine v_ciF G (rn_V (As := []) (rest := []) (q0 := 0) G (c_X9_doneAhead (w := w) (kp := kp) (bf := bf) (ah := ah) (ik := ik) (fd := fd) (sp := sp) (lt := lt) (tp := tp) (tn := tn) (he := he) (ft := ft) (vl := vl) (bt := bt) (lg := lg) (ce := ce) (bw := bw) (a := a) (hw := hw) (h0 := (by omega))) gX9_now_X9_doneAhead rfl hdX9_doneAhead ⟨rfl, rfl, Nat.le_of_ble_eq_true rfl, Nat.le_of_ble_eq_true rfl⟩ rfl rfl (Nat.le_of_ble_eq_true rfl) ⟨Nat.zero_le _, Nat.zero_le _⟩ rfl rfl dX9_now_152) (fun r_11 u_13 e_12 => ?_)
        have e_12 : r_11 = sDn w := e_12
        subst e_12
        refine v_world (ws' := (wR cI cL a w kp bf w ik fd sp lt tp tn he ft vl bt lg ce bw)) rfl ?_
        exact v_iret G (fd, w) (by first | exact Or.inl ⟨(by omega), (by first | rfl | exact congrArg jI (by omega)), rfl⟩ | exact Or.inr (Or.inl ⟨(by omega), (by first | rfl | exact congrArg jI (by omega)), rfl⟩) | exact Or.inr (Or.inr (Or.inl ⟨(by omega), (by first | rfl | exact congrArg jI (by omega)), rfl⟩)) | exact Or.inr (Or.inr (Or.inr (Or.inl ⟨(by omega), (by first | rfl | exact congrArg jI (by omega)), rfl⟩))) | exact Or.inr (Or.inr (Or.inr (Or.inr (Or.inl ⟨(by omega), (by first | rfl | exact congrArg jI (by omega)), rfl⟩)))) | exact Or.inr (Or.inr (Or.inr (Or.inr (Or.inr (Or.inl ⟨(by omega), (by first | rfl | exact congrArg jI (by omega)), rfl⟩))))) | exact Or.inr (Or.inr (Or.inr (Or.inr (Or.inr (Or.inr ⟨(by omega), (by first | rfl | exact congrArg jI (by omega)), rfl⟩)))))) rfl dX9_now_155
      · skip
        refine v_tabOut (z := t) (tgt := 156) G c_7 (by omega) (by decide) dX9_now_95 ?_
        refine v_aload_n (j := 4) (x := a 0) G dX9_now_156 rfl rfl ?_
        refine v_iconst G dX9_now_157 ?_
        refine v_ciF G (rn_V (As := [.int (jI 0)]) (rest := []) (q0 := 0) G (c_X9_no (k := 0) (w := w) (kp := kp) (bf := bf) (ah := ah) (ik := ik) (fd := fd) (sp := sp) (lt := lt) (tp := tp) (tn := tn) (he := he) (ft := ft) (vl := vl) (bt := bt) (lg := lg) (ce := ce) (bw := bw) (a := a) (hk := (by omega))) gX9_now_X9_no rfl hdX9_no ⟨rfl, rfl, Nat.le_of_ble_eq_true rfl, Nat.le_of_ble_eq_true rfl⟩ rfl rfl (Nat.le_of_ble_eq_true rfl) ⟨Nat.zero_le _, Nat.zero_le _⟩ rfl rfl dX9_now_158) (fun r_14 u_16 e_15 => ?_)
        have e_15 : r_14 = jI ((-1000000001) - 0) := e_15
        subst e_15
        refine v_world (ws' := (wR cI cL a w kp bf ah ik (uI fd 0 (fd 0 + 1)) sp lt tp tn he ft vl bt lg ce bw)) rfl ?_
        exact v_iret G (uI fd 0 (fd 0 + 1), ah) (by first | exact Or.inl ⟨(by omega), (by first | rfl | exact congrArg jI (by omega)), rfl⟩ | exact Or.inr (Or.inl ⟨(by omega), (by first | rfl | exact congrArg jI (by omega)), rfl⟩) | exact Or.inr (Or.inr (Or.inl ⟨(by omega), (by first | rfl | exact congrArg jI (by omega)), rfl⟩)) | exact Or.inr (Or.inr (Or.inr (Or.inl ⟨(by omega), (by first | rfl | exact congrArg jI (by omega)), rfl⟩))) | exact Or.inr (Or.inr (Or.inr (Or.inr (Or.inl ⟨(by omega), (by first | rfl | exact congrArg jI (by omega)), rfl⟩)))) | exact Or.inr (Or.inr (Or.inr (Or.inr (Or.inr (Or.inl ⟨(by omega), (by first | rfl | exact congrArg jI (by omega)), rfl⟩))))) | exact Or.inr (Or.inr (Or.inr (Or.inr (Or.inr (Or.inr ⟨(by omega), (by first | rfl | exact congrArg jI (by omega)), rfl⟩)))))) rfl dX9_now_161
    · skip
      refine v_iload (j := 1) (x := jI (sumN (fun x_ => w (3 + x_)) q)) G dX9_now_74 rfl ?_
      refine v_aload_n (j := 4) (x := a 0) G dX9_now_76 rfl rfl ?_
      refine v_get (q0 := 0) (k := 0) (v := .ref (a 1)) G k_X9 rfl rfl (by decide) q_1 rfl rfl dX9_now_77 ?_
      refine v_iconst G dX9_now_80 ?_
      refine v_iload (j := 0) (x := jI (q : Int)) G dX9_now_81 rfl ?_
      refine v_iadd (z := 3 + (q : Int)) G dX9_now_83 rfl ?_
      refine v_iald (q0 := 1) (t0 := 0) (g := w) (z := 3 + (q : Int)) G rfl rfl (by omega) dX9_now_84 ?_
      refine v_iadd (z := (sumN (fun x_ => w (3 + x_)) q) + (w (3 + (q : Int)))) G dX9_now_85 rfl ?_
      refine v_topj (x := (sumN (fun x_ => w (3 + x_)) q) + (w (3 + (q : Int)))) (y := sumN (fun x_ => w (3 + x_)) (q + 1)) rfl ?_
      refine v_istore (lv' := [(4, .int (jI (sumN (fun x_ => w (3 + x_)) (q + 1)))), (5, .int (jI (q : Int))), (3, .int (stN (fun x_ => fB w x_ 1 = fB w x_ 2) ((w 1).toNat))), (2, .int (jI (sumN (sSh w) ((w 1).toNat)))), (0, .ref (a 0)), (1, .int (jI t))]) G dX9_now_86 (by decide) rfl ?_
      refine v_iinc (k := 1) (z := (q : Int)) (z' := ((q + 1 : Nat) : Int)) (lv' := [(5, .int (jI ((q + 1 : Nat) : Int))), (4, .int (jI (sumN (fun x_ => w (3 + x_)) (q + 1)))), (3, .int (stN (fun x_ => fB w x_ 1 = fB w x_ 2) ((w 1).toNat))), (2, .int (jI (sumN (sSh w) ((w 1).toNat)))), (0, .ref (a 0)), (1, .int (jI t))]) G dX9_now_88 rfl (by omega) (by decide) rfl ?_
      refine v_goto (tgt := 67) G dX9_now_91 (by decide) ?_
      exact ih_5 (q + 1) (by omega) (by omega)
  · skip
    have hk := hw.being (b := (k : Int)) (by omega) (by omega)
    refine v_iload_n (j := 2) (x := jI (sumN (sSh w) k)) G dX9_now_18 rfl rfl ?_
    refine v_aload_n (j := 3) (x := a 0) G dX9_now_19 rfl rfl ?_
    refine v_iload (j := 0) (x := jI (k : Int)) G dX9_now_20 rfl ?_
    refine v_ciF G (rn_V (As := [.int (jI (k : Int))]) (rest := [.int (jI (sumN (sSh w) k))]) (q0 := 0) G (c_X9_shines (b := (k : Int)) (w := w) (kp := kp) (bf := bf) (ah := ah) (ik := ik) (fd := fd) (sp := sp) (lt := lt) (tp := tp) (tn := tn) (he := he) (ft := ft) (vl := vl) (bt := bt) (lg := lg) (ce := ce) (bw := bw) (a := a) (hw := hw) (hb := (by omega))) gX9_now_X9_shines rfl hdX9_shines ⟨rfl, rfl, Nat.le_of_ble_eq_true rfl, Nat.le_of_ble_eq_true rfl⟩ rfl rfl (Nat.le_of_ble_eq_true rfl) ⟨Nat.zero_le _, Nat.zero_le _⟩ rfl rfl dX9_now_22) (fun r_17 u_19 e_18 => ?_)
    have e_18 : r_17 = jI (sSh w (k : Int)) := e_18
    subst e_18
    refine v_world (ws' := (wR cI cL a w kp bf ah ik fd sp lt tp tn he ft vl bt lg ce bw)) rfl ?_
    refine v_iadd (z := (sumN (sSh w) k) + (sSh w (k : Int))) G dX9_now_25 rfl ?_
    refine v_topj (x := (sumN (sSh w) k) + (sSh w (k : Int))) (y := sumN (sSh w) (k + 1)) rfl ?_
    refine v_istore_n (lv' := [(2, .int (jI (sumN (sSh w) (k + 1)))), (4, .int (jI (k : Int))), (3, .int (stN (fun x_ => fB w x_ 1 = fB w x_ 2) k)), (0, .ref (a 0)), (1, .int (jI t))]) G dX9_now_26 rfl (by decide) rfl ?_
    refine v_iload_n (j := 2) (x := stN (fun x_ => fB w x_ 1 = fB w x_ 2) k) G dX9_now_27 rfl rfl ?_
    refine v_aload_n (j := 3) (x := a 0) G dX9_now_28 rfl rfl ?_
    refine v_iload (j := 1) (x := jI (k : Int)) G dX9_now_29 rfl ?_
    refine v_iconst G dX9_now_31 ?_
    refine v_ciF G (rn_V (As := [.int (jI (k : Int)), .int (jI 1)]) (rest := [.int (stN (fun x_ => fB w x_ 1 = fB w x_ 2) k)]) (q0 := 0) G (c_X9_is (b := (k : Int)) (k := 1) (w := w) (kp := kp) (bf := bf) (ah := ah) (ik := ik) (fd := fd) (sp := sp) (lt := lt) (tp := tp) (tn := tn) (he := he) (ft := ft) (vl := vl) (bt := bt) (lg := lg) (ce := ce) (bw := bw) (a := a) (hb := (by omega))) gX9_now_X9_is rfl hdX9_is ⟨rfl, rfl, Nat.le_of_ble_eq_true rfl, Nat.le_of_ble_eq_true rfl⟩ rfl rfl (Nat.le_of_ble_eq_true rfl) ⟨Nat.zero_le _, Nat.zero_le _⟩ rfl rfl dX9_now_32) (fun r_20 u_22 e_21 => ?_)
    have e_21 : r_20 = jI (fB w (k : Int) 1) := e_21
    subst e_21
    refine v_world (ws' := (wR cI cL a w kp bf ah ik fd sp lt tp tn he ft vl bt lg ce bw)) rfl ?_
    refine v_aload_n (j := 3) (x := a 0) G dX9_now_35 rfl rfl ?_
    refine v_iload (j := 1) (x := jI (k : Int)) G dX9_now_36 rfl ?_
    refine v_iconst G dX9_now_38 ?_
    refine v_ciF G (rn_V (As := [.int (jI (k : Int)), .int (jI 2)]) (rest := [.int (jI (fB w (k : Int) 1)), .int (stN (fun x_ => fB w x_ 1 = fB w x_ 2) k)]) (q0 := 0) G (c_X9_is (b := (k : Int)) (k := 2) (w := w) (kp := kp) (bf := bf) (ah := ah) (ik := ik) (fd := fd) (sp := sp) (lt := lt) (tp := tp) (tn := tn) (he := he) (ft := ft) (vl := vl) (bt := bt) (lg := lg) (ce := ce) (bw := bw) (a := a) (hb := (by omega))) gX9_now_X9_is rfl hdX9_is ⟨rfl, rfl, Nat.le_of_ble_eq_true rfl, Nat.le_of_ble_eq_true rfl⟩ rfl rfl (Nat.le_of_ble_eq_true rfl) ⟨Nat.zero_le _, Nat.zero_le _⟩ rfl rfl dX9_now_39) (fun r_23 u_25 e_24 => ?_)
    have e_24 : r_23 = jI (fB w (k : Int) 2) := e_24
    subst e_24
    refine v_world (ws' := (wR cI cL a w kp bf ah ik fd sp lt tp tn he ft vl bt lg ce bw)) rfl ?_
    refine v_cut (pc' := 53) (lv' := [(2, .int (jI (sumN (sSh w) (k + 1)))), (4, .int (jI (k : Int))), (3, .int (stN (fun x_ => fB w x_ 1 = fB w x_ 2) k)), (0, .ref (a 0)), (1, .int (jI t))]) (st' := [.int (btI (fB w (k : Int) 1 = fB w (k : Int) 2) (k : Int)), .int (stN (fun x_ => fB w x_ 1 = fB w x_ 2) k)]) (ws' := (wR cI cL a w kp bf ah ik fd sp lt tp tn he ft vl bt lg ce bw)) ?_ (fun J_26 => ?_)
    · skip
      refine v_ior (v := (stN (fun x_ => fB w x_ 1 = fB w x_ 2) k) ||| (btI (fB w (k : Int) 1 = fB w (k : Int) 2) (k : Int))) G dX9_now_53 rfl ?_
      refine v_top (x := (stN (fun x_ => fB w x_ 1 = fB w x_ 2) k) ||| (btI (fB w (k : Int) 1 = fB w (k : Int) 2) (k : Int))) (y := stN (fun x_ => fB w x_ 1 = fB w x_ 2) (k + 1)) rfl ?_
      refine v_istore_n (lv' := [(3, .int (stN (fun x_ => fB w x_ 1 = fB w x_ 2) (k + 1))), (2, .int (jI (sumN (sSh w) (k + 1)))), (4, .int (jI (k : Int))), (0, .ref (a 0)), (1, .int (jI t))]) G dX9_now_54 rfl (by decide) rfl ?_
      refine v_iinc (k := 2) (z := (k : Int)) (z' := ((k + 1 : Nat) : Int)) (lv' := [(4, .int (jI ((k + 1 : Nat) : Int))), (3, .int (stN (fun x_ => fB w x_ 1 = fB w x_ 2) (k + 1))), (2, .int (jI (sumN (sSh w) (k + 1)))), (0, .ref (a 0)), (1, .int (jI t))]) G dX9_now_55 rfl (by omega) (by decide) rfl ?_
      refine v_goto (tgt := 7) G dX9_now_58 (by decide) ?_
      exact ih_2 (k + 1) (by omega) (by omega)
    · skip
      refine v_icmp_ne (a := fB w (k : Int) 1) (b := fB w (k : Int) 2) (tgt := 52) G dX9_now_42 (by decide) (by omega) (fun c_27 => ?_) (fun c_27 => ?_)
      · skip
        refine v_iconst G dX9_now_52 ?_
        refine v_top (x := jI 0) (y := btI (fB w (k : Int) 1 = fB w (k : Int) 2) (k : Int)) (btI_f (by omega)).symm ?_
        exact J_26
      · skip
        refine v_iconst G dX9_now_45 ?_
        refine v_iload (j := 1) (x := jI (k : Int)) G dX9_now_46 rfl ?_
        refine v_ishl (v := (jI 1) <<< ((jI (k : Int)) &&& 31)) G dX9_now_48 rfl ?_
        refine v_goto (tgt := 53) G dX9_now_49 (by decide) ?_
        refine v_top (x := (jI 1) <<< ((jI (k : Int)) &&& 31)) (y := btI (fB w (k : Int) 1 = fB w (k : Int) 2) (k : Int)) (btI_t (by omega)).symm ?_
        exact J_26

set_option maxHeartbeats 4000000 in
set_option maxRecDepth 100000 in
theorem c_X9_on (p n : Int) (hw : Wf w) (h0 : w 0 ≤ 9999) (hr : (-2147483648 ≤ p ∧ p ≤ 2147483647) ∧ (-2147483648 ≤ n ∧ n ≤ 2147483647)) : Ci l yX9_on wsX9_on { frames := 5, cells := 0, slots := 0, locals := 113 } D (jT cI cL cB cS) [.ref (a 0), .int (jI p), .int (jI n)] (wR cI cL a w kp bf ah ik fd sp lt tp tn he ft vl bt lg ce bw) (S := (Int → Int) × (Int → Int)) (fun u => (wR cI cL a w kp bf u.2 ik u.1 sp lt tp tn he ft vl bt lg ce bw)) (fun r u => ((¬ ((0 ≤ p ∧ p ≤ 15) ∧ 0 ≤ n ∧ n ≤ 100)) ∧ r = jI (-1000000001) ∧ u.1 = uI fd 0 (fd 0 + 1)) ∨ ((((0 ≤ p ∧ p ≤ 15) ∧ 0 ≤ n ∧ n ≤ 100)) ∧ r = jI (sLt (hrs w n.toNat) p) ∧ u.1 = fd)) := by
  refine Ci.mk (cc := cX9_on) (maxL := 4) (rt := .int) (by decide) rfl (Nat.le_of_ble_eq_true rfl) rfl ?_
  intro p_ e_ s_ m_ b_ me_ c_ A_ G hnm
  have hm := hw.many
  have hmt := hw.tasks
  have hh := hw.hour
  have k_X9 : ∀ w ∈ u_ws RX9 TX9 17, w ∈ wsX9_on := fun _ h => List.mem_cons_of_mem _ (List.mem_append_right _ h)
  have q_1 : Cond.fieldLink RX9 9 "SupperLightModel" "s" "[I" ∈ wsX9_on := List.mem_of_getElem? (i := 1) rfl
  have q_2 : Cond.fieldLink RX9 19 "SupperLightModel" "ahead" "[I" ∈ wsX9_on := List.mem_of_getElem? (i := 2) rfl
  refine v_iload_n (j := 1) (x := jI p) G dX9_on_0 rfl rfl ?_
  refine v_ciN G (rn_S (As := [.int (jI p)]) (rest := []) G (c_X9_isPlace (p := p) (hr := (by omega))) gX9_on_X9_isPlace rfl hdX9_isPlace ⟨rfl, rfl, Nat.le_of_ble_eq_true rfl, Nat.le_of_ble_eq_true rfl⟩ rfl rfl (Nat.le_of_ble_eq_true rfl) ⟨Nat.zero_le _, Nat.zero_le _⟩ dX9_on_1) (fun r_1 u_3 e_2 => ?_)
  have e_2 : r_1 = jI (b2 (0 ≤ p ∧ p ≤ 15)) := e_2
  subst e_2
  refine v_ifb_eq (P := 0 ≤ p ∧ p ≤ 15) (tgt := 17) G dX9_on_4 (by decide) (fun c_4 => ?_) (fun c_4 => ?_)
  · skip
    refine v_aload_n (j := 0) (x := a 0) G dX9_on_17 rfl rfl ?_
    refine v_iconst G dX9_on_18 ?_
    refine v_ciF G (rn_V (As := [.int (jI 0)]) (rest := []) (q0 := 0) G (c_X9_no (k := 0) (w := w) (kp := kp) (bf := bf) (ah := ah) (ik := ik) (fd := fd) (sp := sp) (lt := lt) (tp := tp) (tn := tn) (he := he) (ft := ft) (vl := vl) (bt := bt) (lg := lg) (ce := ce) (bw := bw) (a := a) (hk := (by omega))) gX9_on_X9_no rfl hdX9_no ⟨rfl, rfl, Nat.le_of_ble_eq_true rfl, Nat.le_of_ble_eq_true rfl⟩ rfl rfl (Nat.le_of_ble_eq_true rfl) ⟨Nat.zero_le _, Nat.zero_le _⟩ rfl rfl dX9_on_19) (fun r_5 u_7 e_6 => ?_)
    have e_6 : r_5 = jI ((-1000000001) - 0) := e_6
    subst e_6
    refine v_world (ws' := (wR cI cL a w kp bf ah ik (uI fd 0 (fd 0 + 1)) sp lt tp tn he ft vl bt lg ce bw)) rfl ?_
    exact v_iret G (uI fd 0 (fd 0 + 1), ah) (by first | exact Or.inl ⟨(by omega), (by first | rfl | exact congrArg jI (by omega)), rfl⟩ | exact Or.inr ⟨(by omega), (by first | rfl | exact congrArg jI (by omega)), rfl⟩) rfl dX9_on_22
  · skip
    refine v_iload_n (j := 2) (x := jI n) G dX9_on_7 rfl rfl ?_
    refine v_iconst G dX9_on_8 ?_
    refine v_bipush G dX9_on_9 (by decide) ?_
    refine v_ciN G (rn_S (As := [.int (jI n), .int (jI 0), .int (jI 100)]) (rest := []) G (c_X9_in (v := n) (lo := 0) (hi := 100) (hr := (by omega))) gX9_on_X9_in rfl hdX9_in ⟨rfl, rfl, Nat.le_of_ble_eq_true rfl, Nat.le_of_ble_eq_true rfl⟩ rfl rfl (Nat.le_of_ble_eq_true rfl) ⟨Nat.zero_le _, Nat.zero_le _⟩ dX9_on_11) (fun r_8 u_10 e_9 => ?_)
    have e_9 : r_8 = jI (b2 (0 ≤ n ∧ n ≤ 100)) := e_9
    subst e_9
    refine v_ifb_ne (P := 0 ≤ n ∧ n ≤ 100) (tgt := 23) G dX9_on_14 (by decide) (fun c_11 => ?_) (fun c_11 => ?_)
    · skip
      refine v_aload_n (j := 0) (x := a 0) G dX9_on_23 rfl rfl ?_
      refine v_get (q0 := 0) (k := 0) (v := .ref (a 1)) G k_X9 rfl rfl (by decide) q_1 rfl rfl dX9_on_24 ?_
      refine v_aload_n (j := 0) (x := a 0) G dX9_on_27 rfl rfl ?_
      refine v_get (q0 := 0) (k := 3) (v := .ref (a 4)) G k_X9 rfl rfl (by decide) q_2 rfl rfl dX9_on_28 ?_
      refine v_cvF G (rn_S (As := [.ref (a 1), .ref (a 4)]) (rest := []) G (c_X9_lay_w_ah (w := w) (kp := kp) (bf := bf) (ah := ah) (ik := ik) (fd := fd) (sp := sp) (lt := lt) (tp := tp) (tn := tn) (he := he) (ft := ft) (vl := vl) (bt := bt) (lg := lg) (ce := ce) (bw := bw) (a := a) ) gX9_on_X9_lay rfl hdX9_lay ⟨rfl, rfl, Nat.le_of_ble_eq_true rfl, Nat.le_of_ble_eq_true rfl⟩ rfl rfl (Nat.le_of_ble_eq_true rfl) ⟨Nat.zero_le _, Nat.zero_le _⟩ dX9_on_31) (fun u_14 e_13 => ?_)
      refine v_world (ws' := (wR cI cL a w kp bf w ik fd sp lt tp tn he ft vl bt lg ce bw)) rfl ?_
      refine v_iconst G dX9_on_34 ?_
      refine v_istore_n (lv' := [(3, .int (jI 0)), (0, .ref (a 0)), (1, .int (jI p)), (2, .int (jI n))]) G dX9_on_35 rfl (by decide) rfl ?_
      refine v_locs (lv' := [(3, .int (jI 0)), (0, .ref (a 0)), (1, .int (jI p)), (2, .int (jI n))]) [0, 1, 2, 3] rfl ?_
      refine v_loop1 (fun (q : Nat) => [(3, .int (jI (q : Int))), (0, .ref (a 0)), (1, .int (jI p)), (2, .int (jI n))]) (fun (q : Nat) => (wR cI cL a (hrs w q) kp bf w ik fd sp lt tp tn he ft vl bt lg ce bw)) (fun (q : Nat) => (q : Int) ≤ n) (fun (q : Nat) => n.toNat - q) 0 (by omega) rfl rfl ?_
      intro q I_15 ih_16
      obtain ⟨i1, i2, i3, i4⟩ := hw.hrs q (by omega)
      refine v_iload_n (j := 0) (x := jI (q : Int)) G dX9_on_36 rfl rfl ?_
      refine v_iload_n (j := 3) (x := jI n) G dX9_on_37 rfl rfl ?_
      refine v_icmp_ge (a := (q : Int)) (b := n) (tgt := 51) G dX9_on_38 (by decide) (by omega) (fun c_17 => ?_) (fun c_17 => ?_)
      · skip
        obtain rfl : q = n.toNat := by omega
        refine v_aload_n (j := 1) (x := a 0) G dX9_on_51 rfl rfl ?_
        refine v_iload_n (j := 2) (x := jI p) G dX9_on_52 rfl rfl ?_
        refine v_ciF G (rn_V (As := [.int (jI p)]) (rest := []) (q0 := 0) G (c_X9_lightOf (p := p) (w := hrs w n.toNat) (kp := kp) (bf := bf) (ah := w) (ik := ik) (fd := fd) (sp := sp) (lt := lt) (tp := tp) (tn := tn) (he := he) (ft := ft) (vl := vl) (bt := bt) (lg := lg) (ce := ce) (bw := bw) (a := a) (hw := i1) (hp := (by omega))) gX9_on_X9_lightOf rfl hdX9_lightOf ⟨rfl, rfl, Nat.le_of_ble_eq_true rfl, Nat.le_of_ble_eq_true rfl⟩ rfl rfl (Nat.le_of_ble_eq_true rfl) ⟨Nat.zero_le _, Nat.zero_le _⟩ rfl rfl dX9_on_53) (fun r_18 u_20 e_19 => ?_)
        have e_19 : r_18 = jI (sLt (hrs w n.toNat) p) := e_19
        subst e_19
        refine v_world (ws' := (wR cI cL a (hrs w n.toNat) kp bf w ik fd sp lt tp tn he ft vl bt lg ce bw)) rfl ?_
        refine v_istore_n (lv' := [(3, .int (jI (sLt (hrs w n.toNat) p))), (0, .ref (a 0)), (1, .int (jI p)), (2, .int (jI n))]) G dX9_on_56 rfl (by decide) rfl ?_
        refine v_aload_n (j := 1) (x := a 0) G dX9_on_57 rfl rfl ?_
        refine v_get (q0 := 0) (k := 3) (v := .ref (a 4)) G k_X9 rfl rfl (by decide) q_2 rfl rfl dX9_on_58 ?_
        refine v_aload_n (j := 1) (x := a 0) G dX9_on_61 rfl rfl ?_
        refine v_get (q0 := 0) (k := 0) (v := .ref (a 1)) G k_X9 rfl rfl (by decide) q_1 rfl rfl dX9_on_62 ?_
        refine v_cvF G (rn_S (As := [.ref (a 4), .ref (a 1)]) (rest := []) G (c_X9_lay_ah_w (w := (hrs w n.toNat)) (kp := kp) (bf := bf) (ah := w) (ik := ik) (fd := fd) (sp := sp) (lt := lt) (tp := tp) (tn := tn) (he := he) (ft := ft) (vl := vl) (bt := bt) (lg := lg) (ce := ce) (bw := bw) (a := a) ) gX9_on_X9_lay rfl hdX9_lay ⟨rfl, rfl, Nat.le_of_ble_eq_true rfl, Nat.le_of_ble_eq_true rfl⟩ rfl rfl (Nat.le_of_ble_eq_true rfl) ⟨Nat.zero_le _, Nat.zero_le _⟩ dX9_on_65) (fun u_23 e_22 => ?_)
        refine v_world (ws' := (wR cI cL a w kp bf w ik fd sp lt tp tn he ft vl bt lg ce bw)) rfl ?_
        refine v_iload_n (j := 0) (x := jI (sLt (hrs w n.toNat) p)) G dX9_on_68 rfl rfl ?_
        exact v_iret G (fd, w) (by first | exact Or.inl ⟨(by omega), (by first | rfl | exact congrArg jI (by omega)), rfl⟩ | exact Or.inr ⟨(by omega), (by first | rfl | exact congrArg jI (by omega)), rfl⟩) rfl dX9_on_69
      · skip
        refine v_aload_n (j := 1) (x := a 0) G dX9_on_41 rfl rfl ?_
        refine v_cvF G (rn_V (As := []) (rest := []) (q0 := 0) G (c_X9_hour (w := hrs w q) (kp := kp) (bf := bf) (ah := w) (ik := ik) (fd := fd) (sp := sp) (lt := lt) (tp := tp) (tn := tn) (he := he) (ft := ft) (vl := vl) (bt := bt) (lg := lg) (ce := ce) (bw := bw) (a := a) (hw := i1) (h0 := (by omega))) gX9_on_X9_hour rfl hdX9_hour ⟨rfl, rfl, Nat.le_of_ble_eq_true rfl, Nat.le_of_ble_eq_true rfl⟩ rfl rfl (Nat.le_of_ble_eq_true rfl) ⟨Nat.zero_le _, Nat.zero_le _⟩ rfl rfl dX9_on_42) (fun u_26 e_25 => ?_)
        refine v_world (ws' := (wR cI cL a (sHr (hrs w q)) kp bf w ik fd sp lt tp tn he ft vl bt lg ce bw)) rfl ?_
        refine v_world (ws' := (wR cI cL a (hrs w (q + 1)) kp bf w ik fd sp lt tp tn he ft vl bt lg ce bw)) rfl ?_
        refine v_iinc (k := 0) (z := (q : Int)) (z' := ((q + 1 : Nat) : Int)) (lv' := [(3, .int (jI ((q + 1 : Nat) : Int))), (0, .ref (a 0)), (1, .int (jI p)), (2, .int (jI n))]) G dX9_on_45 rfl (by omega) (by decide) rfl ?_
        refine v_goto (tgt := 36) G dX9_on_48 (by decide) ?_
        exact ih_16 (q + 1) (by omega) (by omega)
    · skip
      refine v_aload_n (j := 0) (x := a 0) G dX9_on_17 rfl rfl ?_
      refine v_iconst G dX9_on_18 ?_
      refine v_ciF G (rn_V (As := [.int (jI 0)]) (rest := []) (q0 := 0) G (c_X9_no (k := 0) (w := w) (kp := kp) (bf := bf) (ah := ah) (ik := ik) (fd := fd) (sp := sp) (lt := lt) (tp := tp) (tn := tn) (he := he) (ft := ft) (vl := vl) (bt := bt) (lg := lg) (ce := ce) (bw := bw) (a := a) (hk := (by omega))) gX9_on_X9_no rfl hdX9_no ⟨rfl, rfl, Nat.le_of_ble_eq_true rfl, Nat.le_of_ble_eq_true rfl⟩ rfl rfl (Nat.le_of_ble_eq_true rfl) ⟨Nat.zero_le _, Nat.zero_le _⟩ rfl rfl dX9_on_19) (fun r_27 u_29 e_28 => ?_)
      have e_28 : r_27 = jI ((-1000000001) - 0) := e_28
      subst e_28
      refine v_world (ws' := (wR cI cL a w kp bf ah ik (uI fd 0 (fd 0 + 1)) sp lt tp tn he ft vl bt lg ce bw)) rfl ?_
      exact v_iret G (uI fd 0 (fd 0 + 1), ah) (by first | exact Or.inl ⟨(by omega), (by first | rfl | exact congrArg jI (by omega)), rfl⟩ | exact Or.inr ⟨(by omega), (by first | rfl | exact congrArg jI (by omega)), rfl⟩) rfl dX9_on_22

set_option maxHeartbeats 4000000 in
set_option maxRecDepth 100000 in
theorem c_X9_comes (t : Int) (hw : Wf w) (ht : 0 ≤ t ∧ t < 8) : Ci l yX9_comes wsX9_comes { frames := 1, cells := 0, slots := 0, locals := 22 } D (jT cI cL cB cS) [.ref (a 0), .int (jI t)] (wR cI cL a w kp bf ah ik fd sp lt tp tn he ft vl bt lg ce bw) (S := Unit) (fun _ => (wR cI cL a w kp bf ah ik fd sp lt tp tn he ft vl bt lg ce bw)) (fun r _ => r = jI (b2 (0 ≤ fT w t 1 - w 0 ∧ fT w t 1 - w 0 ≤ 100))) := by
  refine Ci.mk (cc := cX9_comes) (maxL := 2) (rt := .boolean) (by decide) rfl (Nat.le_of_ble_eq_true rfl) rfl ?_
  intro p_ e_ s_ m_ b_ me_ c_ A_ G hnm
  have hk := hw.task (t := t) (by omega) (by omega)
  have hh := hw.hour
  have k_X9 : ∀ w ∈ u_ws RX9 TX9 17, w ∈ wsX9_comes := fun _ h => List.mem_cons_of_mem _ (List.mem_append_right _ h)
  have q_1 : Cond.fieldLink RX9 9 "SupperLightModel" "s" "[I" ∈ wsX9_comes := List.mem_of_getElem? (i := 1) rfl
  refine v_aload_n (j := 0) (x := a 0) G dX9_comes_0 rfl rfl ?_
  refine v_iload_n (j := 1) (x := jI t) G dX9_comes_1 rfl rfl ?_
  refine v_iconst G dX9_comes_2 ?_
  refine v_ciF G (rn_V (As := [.int (jI t), .int (jI 1)]) (rest := []) (q0 := 0) G (c_X9_taskIs (t := t) (k := 1) (w := w) (kp := kp) (bf := bf) (ah := ah) (ik := ik) (fd := fd) (sp := sp) (lt := lt) (tp := tp) (tn := tn) (he := he) (ft := ft) (vl := vl) (bt := bt) (lg := lg) (ce := ce) (bw := bw) (a := a) (ht := (by omega))) gX9_comes_X9_taskIs rfl hdX9_taskIs ⟨rfl, rfl, Nat.le_of_ble_eq_true rfl, Nat.le_of_ble_eq_true rfl⟩ rfl rfl (Nat.le_of_ble_eq_true rfl) ⟨Nat.zero_le _, Nat.zero_le _⟩ rfl rfl dX9_comes_3) (fun r_1 u_3 e_2 => ?_)
  have e_2 : r_1 = jI (fT w t 1) := e_2
  subst e_2
  refine v_world (ws' := (wR cI cL a w kp bf ah ik fd sp lt tp tn he ft vl bt lg ce bw)) rfl ?_
  refine v_aload_n (j := 0) (x := a 0) G dX9_comes_6 rfl rfl ?_
  refine v_get (q0 := 0) (k := 0) (v := .ref (a 1)) G k_X9 rfl rfl (by decide) q_1 rfl rfl dX9_comes_7 ?_
  refine v_iconst G dX9_comes_10 ?_
  refine v_iald (q0 := 1) (t0 := 0) (g := w) (z := 0) G rfl rfl (by omega) dX9_comes_11 ?_
  refine v_isub (z := (fT w t 1) - (w 0)) G dX9_comes_12 rfl ?_
  refine v_iconst G dX9_comes_13 ?_
  refine v_bipush G dX9_comes_14 (by decide) ?_
  refine v_ciN G (rn_S (As := [.int (jI ((fT w t 1) - (w 0))), .int (jI 0), .int (jI 100)]) (rest := []) G (c_X9_in (v := (fT w t 1) - (w 0)) (lo := 0) (hi := 100) (hr := (by omega))) gX9_comes_X9_in rfl hdX9_in ⟨rfl, rfl, Nat.le_of_ble_eq_true rfl, Nat.le_of_ble_eq_true rfl⟩ rfl rfl (Nat.le_of_ble_eq_true rfl) ⟨Nat.zero_le _, Nat.zero_le _⟩ dX9_comes_16) (fun r_4 u_6 e_5 => ?_)
  have e_5 : r_4 = jI (b2 (0 ≤ ((fT w t 1) - (w 0)) ∧ ((fT w t 1) - (w 0)) ≤ 100)) := e_5
  subst e_5
  exact v_zret G () (nb_b2 _) (show jI (b2 (0 ≤ ((fT w t 1) - (w 0)) ∧ ((fT w t 1) - (w 0)) ≤ 100)) = jI (b2 (0 ≤ fT w t 1 - w 0 ∧ fT w t 1 - w 0 ≤ 100)) from congrArg jI (by omega)) rfl dX9_comes_19

set_option maxHeartbeats 4000000 in
set_option maxRecDepth 100000 in
theorem c_X9_dark  (hw : Wf w) (h0 : w 0 ≤ 9999) : Ci l yX9_dark wsX9_dark { frames := 7, cells := 0, slots := 0, locals := 157 } D (jT cI cL cB cS) [.ref (a 0)] (wR cI cL a w kp bf ah ik fd sp lt tp tn he ft vl bt lg ce bw) (S := (Int → Int) × (Int → Int)) (fun u => (wR cI cL a w kp bf u.2 ik u.1 sp lt tp tn he ft vl bt lg ce bw)) (fun r u => ((0 ≤ dkN w (w 2).toNat) ∧ r = jI (dkN w (w 2).toNat) ∧ u.1 = fd) ∨ ((dkN w (w 2).toNat < 0) ∧ r = jI (-1000000004) ∧ u.1 = uI fd 3 (fd 3 + 1))) := by
  refine Ci.mk (cc := cX9_dark) (maxL := 4) (rt := .int) (by decide) rfl (Nat.le_of_ble_eq_true rfl) rfl ?_
  intro p_ e_ s_ m_ b_ me_ c_ A_ G hnm
  have hm := hw.many
  have hmt := hw.tasks
  have hh := hw.hour
  have k_X9 : ∀ w ∈ u_ws RX9 TX9 17, w ∈ wsX9_dark := fun _ h => List.mem_cons_of_mem _ (List.mem_append_right _ h)
  have q_1 : Cond.fieldLink RX9 9 "SupperLightModel" "s" "[I" ∈ wsX9_dark := List.mem_of_getElem? (i := 1) rfl
  refine v_aload_n (j := 0) (x := a 0) G dX9_dark_0 rfl rfl ?_
  refine v_ciF G (rn_V (As := []) (rest := []) (q0 := 0) G (c_X9_doneAhead (w := w) (kp := kp) (bf := bf) (ah := ah) (ik := ik) (fd := fd) (sp := sp) (lt := lt) (tp := tp) (tn := tn) (he := he) (ft := ft) (vl := vl) (bt := bt) (lg := lg) (ce := ce) (bw := bw) (a := a) (hw := hw) (h0 := (by omega))) gX9_dark_X9_doneAhead rfl hdX9_doneAhead ⟨rfl, rfl, Nat.le_of_ble_eq_true rfl, Nat.le_of_ble_eq_true rfl⟩ rfl rfl (Nat.le_of_ble_eq_true rfl) ⟨Nat.zero_le _, Nat.zero_le _⟩ rfl rfl dX9_dark_1) (fun r_1 u_3 e_2 => ?_)
  have e_2 : r_1 = sDn w := e_2
  subst e_2
  refine v_world (ws' := (wR cI cL a w kp bf w ik fd sp lt tp tn he ft vl bt lg ce bw)) rfl ?_
  refine v_istore_n (lv' := [(1, .int (sDn w)), (0, .ref (a 0))]) G dX9_dark_4 rfl (by decide) rfl ?_
  refine v_iconst G dX9_dark_5 ?_
  refine v_istore_n (lv' := [(2, .int (jI (-1))), (1, .int (sDn w)), (0, .ref (a 0))]) G dX9_dark_6 rfl (by decide) rfl ?_
  refine v_aload_n (j := 2) (x := a 0) G dX9_dark_7 rfl rfl ?_
  refine v_get (q0 := 0) (k := 0) (v := .ref (a 1)) G k_X9 rfl rfl (by decide) q_1 rfl rfl dX9_dark_8 ?_
  refine v_iconst G dX9_dark_11 ?_
  refine v_iald (q0 := 1) (t0 := 0) (g := w) (z := 2) G rfl rfl (by omega) dX9_dark_12 ?_
  refine v_iconst G dX9_dark_13 ?_
  refine v_isub (z := (w 2) - 1) G dX9_dark_14 rfl ?_
  refine v_istore_n (lv' := [(3, .int (jI ((w 2) - 1))), (2, .int (jI (-1))), (1, .int (sDn w)), (0, .ref (a 0))]) G dX9_dark_15 rfl (by decide) rfl ?_
  refine v_eqs (lv' := [(3, .int (jI (w 2 - 1 - ((0 : Nat) : Int)))), (2, .int (jI (dkN w 0))), (1, .int (sDn w)), (0, .ref (a 0))]) (by rw [show w 2 - 1 - ((0 : Nat) : Int) = w 2 - 1 by omega]; rfl) rfl rfl ?_
  refine v_locs (lv' := [(3, .int (jI (w 2 - 1 - ((0 : Nat) : Int)))), (2, .int (jI (dkN w 0))), (1, .int (sDn w)), (0, .ref (a 0))]) [0, 1, 2, 3] rfl ?_
  refine v_loop1 (fun (k : Nat) => [(3, .int (jI (w 2 - 1 - (k : Int)))), (2, .int (jI (dkN w k))), (1, .int (sDn w)), (0, .ref (a 0))]) (fun (k : Nat) => (wR cI cL a w kp bf w ik fd sp lt tp tn he ft vl bt lg ce bw)) (fun (k : Nat) => (k : Int) ≤ w 2) (fun (k : Nat) => (w 2).toNat - k) 0 (by omega) rfl rfl ?_
  intro k I_4 ih_5
  have hd := dkN_r w (by omega) k (by omega)
  refine v_iload_n (j := 0) (x := jI (w 2 - 1 - (k : Int))) G dX9_dark_16 rfl rfl ?_
  refine v_if_lt (a := w 2 - 1 - (k : Int)) (tgt := 63) G dX9_dark_17 (by decide) (by omega) (fun c_6 => ?_) (fun c_6 => ?_)
  · skip
    obtain rfl : k = (w 2).toNat := by omega
    refine v_iload_n (j := 1) (x := jI (dkN w ((w 2).toNat))) G dX9_dark_63 rfl rfl ?_
    refine v_if_ge (a := dkN w ((w 2).toNat)) (tgt := 75) G dX9_dark_64 (by decide) (by omega) (fun c_7 => ?_) (fun c_7 => ?_)
    · skip
      refine v_iload_n (j := 1) (x := jI (dkN w ((w 2).toNat))) G dX9_dark_75 rfl rfl ?_
      exact v_iret G (fd, w) (by first | exact Or.inl ⟨(by omega), (by first | rfl | exact congrArg jI (by omega)), rfl⟩ | exact Or.inr ⟨(by omega), (by first | rfl | exact congrArg jI (by omega)), rfl⟩) rfl dX9_dark_76
    · skip
      refine v_aload_n (j := 3) (x := a 0) G dX9_dark_67 rfl rfl ?_
      refine v_iconst G dX9_dark_68 ?_
      refine v_ciF G (rn_V (As := [.int (jI 3)]) (rest := []) (q0 := 0) G (c_X9_no (k := 3) (w := w) (kp := kp) (bf := bf) (ah := w) (ik := ik) (fd := fd) (sp := sp) (lt := lt) (tp := tp) (tn := tn) (he := he) (ft := ft) (vl := vl) (bt := bt) (lg := lg) (ce := ce) (bw := bw) (a := a) (hk := (by omega))) gX9_dark_X9_no rfl hdX9_no ⟨rfl, rfl, Nat.le_of_ble_eq_true rfl, Nat.le_of_ble_eq_true rfl⟩ rfl rfl (Nat.le_of_ble_eq_true rfl) ⟨Nat.zero_le _, Nat.zero_le _⟩ rfl rfl dX9_dark_69) (fun r_8 u_10 e_9 => ?_)
      have e_9 : r_8 = jI ((-1000000001) - 3) := e_9
      subst e_9
      refine v_world (ws' := (wR cI cL a w kp bf w ik (uI fd 3 (fd 3 + 1)) sp lt tp tn he ft vl bt lg ce bw)) rfl ?_
      refine v_goto (tgt := 76) G dX9_dark_72 (by decide) ?_
      exact v_iret G (uI fd 3 (fd 3 + 1), w) (by first | exact Or.inl ⟨(by omega), (by first | rfl | exact congrArg jI (by omega)), rfl⟩ | exact Or.inr ⟨(by omega), (by first | rfl | exact congrArg jI (by omega)), rfl⟩) rfl dX9_dark_76
  · skip
    have hk := hw.task (t := (w 2 - 1 - (k : Int))) (by omega) (by omega)
    refine v_aload_n (j := 3) (x := a 0) G dX9_dark_20 rfl rfl ?_
    refine v_iload_n (j := 0) (x := jI (w 2 - 1 - (k : Int))) G dX9_dark_21 rfl rfl ?_
    refine v_ciF G (rn_V (As := [.int (jI (w 2 - 1 - (k : Int)))]) (rest := []) (q0 := 0) G (c_X9_comes (t := w 2 - 1 - (k : Int)) (w := w) (kp := kp) (bf := bf) (ah := w) (ik := ik) (fd := fd) (sp := sp) (lt := lt) (tp := tp) (tn := tn) (he := he) (ft := ft) (vl := vl) (bt := bt) (lg := lg) (ce := ce) (bw := bw) (a := a) (hw := hw) (ht := (by omega))) gX9_dark_X9_comes rfl hdX9_comes ⟨rfl, rfl, Nat.le_of_ble_eq_true rfl, Nat.le_of_ble_eq_true rfl⟩ rfl rfl (Nat.le_of_ble_eq_true rfl) ⟨Nat.zero_le _, Nat.zero_le _⟩ rfl rfl dX9_dark_22) (fun r_11 u_13 e_12 => ?_)
    have e_12 : r_11 = jI (b2 (0 ≤ fT w (w 2 - 1 - (k : Int)) 1 - w 0 ∧ fT w (w 2 - 1 - (k : Int)) 1 - w 0 ≤ 100)) := e_12
    subst e_12
    refine v_world (ws' := (wR cI cL a w kp bf w ik fd sp lt tp tn he ft vl bt lg ce bw)) rfl ?_
    refine v_cut (pc' := 57) (lv' := [(3, .int (jI (w 2 - 1 - (k : Int)))), (2, .int (jI (dkN w (k + 1)))), (1, .int (sDn w)), (0, .ref (a 0))]) (st' := []) (ws' := (wR cI cL a w kp bf w ik fd sp lt tp tn he ft vl bt lg ce bw)) ?_ (fun J_14 => ?_)
    · skip
      refine v_iinc (k := 0) (z := w 2 - 1 - (k : Int)) (z' := w 2 - 1 - ((k + 1 : Nat) : Int)) (lv' := [(3, .int (jI (w 2 - 1 - ((k + 1 : Nat) : Int)))), (2, .int (jI (dkN w (k + 1)))), (1, .int (sDn w)), (0, .ref (a 0))]) G dX9_dark_57 rfl (by omega) (by decide) rfl ?_
      refine v_goto (tgt := 16) G dX9_dark_60 (by decide) ?_
      exact ih_5 (k + 1) (by omega) (by omega)
    · skip
      refine v_ifb_eq (P := 0 ≤ fT w (w 2 - 1 - (k : Int)) 1 - w 0 ∧ fT w (w 2 - 1 - (k : Int)) 1 - w 0 ≤ 100) (tgt := 57) G dX9_dark_25 (by decide) (fun c_15 => ?_) (fun c_15 => ?_)
      · skip
        refine v_eqs (lv' := [(3, .int (jI (w 2 - 1 - (k : Int)))), (2, .int (jI (dkN w (k + 1)))), (1, .int (sDn w)), (0, .ref (a 0))]) (by rw [show dkN w (k + 1) = dkN w k from (dk_f (by rintro ⟨x1, x2, x3⟩; first | exact absurd x1 (by assumption) | exact x2 (by assumption) | omega))]) rfl rfl ?_
        exact J_14
      · skip
        refine v_iload_n (j := 2) (x := sDn w) G dX9_dark_28 rfl rfl ?_
        refine v_iload_n (j := 0) (x := jI (w 2 - 1 - (k : Int))) G dX9_dark_29 rfl rfl ?_
        refine v_ciN G (rn_S (As := [.int (sDn w), .int (jI (w 2 - 1 - (k : Int)))]) (rest := []) G (c_X9_has (x := sDn w) (k := w 2 - 1 - (k : Int)) ) gX9_dark_X9_has rfl hdX9_has ⟨rfl, rfl, Nat.le_of_ble_eq_true rfl, Nat.le_of_ble_eq_true rfl⟩ rfl rfl (Nat.le_of_ble_eq_true rfl) ⟨Nat.zero_le _, Nat.zero_le _⟩ dX9_dark_30) (fun r_16 u_18 e_17 => ?_)
        have e_17 : r_16 = jI (b2 (((sDn w) >>> (jI (w 2 - 1 - (k : Int)) &&& 31)) &&& jI 1 = jI 1)) := e_17
        subst e_17
        refine v_ifb_ne (P := ((sDn w) >>> (jI (w 2 - 1 - (k : Int)) &&& 31)) &&& jI 1 = jI 1) (tgt := 57) G dX9_dark_33 (by decide) (fun c_19 => ?_) (fun c_19 => ?_)
        · skip
          refine v_eqs (lv' := [(3, .int (jI (w 2 - 1 - (k : Int)))), (2, .int (jI (dkN w (k + 1)))), (1, .int (sDn w)), (0, .ref (a 0))]) (by rw [show dkN w (k + 1) = dkN w k from (dk_f (by rintro ⟨x1, x2, x3⟩; first | exact absurd x1 (by assumption) | exact x2 (by assumption) | omega))]) rfl rfl ?_
          exact J_14
        · skip
          refine v_iload_n (j := 1) (x := jI (dkN w k)) G dX9_dark_36 rfl rfl ?_
          refine v_if_lt (a := dkN w k) (tgt := 55) G dX9_dark_37 (by decide) (by omega) (fun c_20 => ?_) (fun c_20 => ?_)
          · skip
            refine v_iload_n (j := 0) (x := jI (w 2 - 1 - (k : Int))) G dX9_dark_55 rfl rfl ?_
            refine v_istore_n (lv' := [(2, .int (jI (w 2 - 1 - (k : Int)))), (3, .int (jI (w 2 - 1 - (k : Int)))), (1, .int (sDn w)), (0, .ref (a 0))]) G dX9_dark_56 rfl (by decide) rfl ?_
            refine v_locs (lv' := [(3, .int (jI (w 2 - 1 - (k : Int)))), (2, .int (jI (w 2 - 1 - (k : Int)))), (1, .int (sDn w)), (0, .ref (a 0))]) [1, 0, 2, 3] rfl ?_
            refine v_eqs (lv' := [(3, .int (jI (w 2 - 1 - (k : Int)))), (2, .int (jI (dkN w (k + 1)))), (1, .int (sDn w)), (0, .ref (a 0))]) (by rw [show dkN w (k + 1) = w 2 - 1 - (k : Int) from (dk_t ⟨by assumption, by assumption, by omega⟩)]) rfl rfl ?_
            exact J_14
          · skip
            have hk2 := hw.task (t := dkN w k) (by omega) (by omega)
            refine v_aload_n (j := 3) (x := a 0) G dX9_dark_40 rfl rfl ?_
            refine v_iload_n (j := 0) (x := jI (w 2 - 1 - (k : Int))) G dX9_dark_41 rfl rfl ?_
            refine v_iconst G dX9_dark_42 ?_
            refine v_ciF G (rn_V (As := [.int (jI (w 2 - 1 - (k : Int))), .int (jI 1)]) (rest := []) (q0 := 0) G (c_X9_taskIs (t := w 2 - 1 - (k : Int)) (k := 1) (w := w) (kp := kp) (bf := bf) (ah := w) (ik := ik) (fd := fd) (sp := sp) (lt := lt) (tp := tp) (tn := tn) (he := he) (ft := ft) (vl := vl) (bt := bt) (lg := lg) (ce := ce) (bw := bw) (a := a) (ht := (by omega))) gX9_dark_X9_taskIs rfl hdX9_taskIs ⟨rfl, rfl, Nat.le_of_ble_eq_true rfl, Nat.le_of_ble_eq_true rfl⟩ rfl rfl (Nat.le_of_ble_eq_true rfl) ⟨Nat.zero_le _, Nat.zero_le _⟩ rfl rfl dX9_dark_43) (fun r_21 u_23 e_22 => ?_)
            have e_22 : r_21 = jI (fT w (w 2 - 1 - (k : Int)) 1) := e_22
            subst e_22
            refine v_world (ws' := (wR cI cL a w kp bf w ik fd sp lt tp tn he ft vl bt lg ce bw)) rfl ?_
            refine v_aload_n (j := 3) (x := a 0) G dX9_dark_46 rfl rfl ?_
            refine v_iload_n (j := 1) (x := jI (dkN w k)) G dX9_dark_47 rfl rfl ?_
            refine v_iconst G dX9_dark_48 ?_
            refine v_ciF G (rn_V (As := [.int (jI (dkN w k)), .int (jI 1)]) (rest := [.int (jI (fT w (w 2 - 1 - (k : Int)) 1))]) (q0 := 0) G (c_X9_taskIs (t := dkN w k) (k := 1) (w := w) (kp := kp) (bf := bf) (ah := w) (ik := ik) (fd := fd) (sp := sp) (lt := lt) (tp := tp) (tn := tn) (he := he) (ft := ft) (vl := vl) (bt := bt) (lg := lg) (ce := ce) (bw := bw) (a := a) (ht := (by omega))) gX9_dark_X9_taskIs rfl hdX9_taskIs ⟨rfl, rfl, Nat.le_of_ble_eq_true rfl, Nat.le_of_ble_eq_true rfl⟩ rfl rfl (Nat.le_of_ble_eq_true rfl) ⟨Nat.zero_le _, Nat.zero_le _⟩ rfl rfl dX9_dark_49) (fun r_24 u_26 e_25 => ?_)
            have e_25 : r_24 = jI (fT w (dkN w k) 1) := e_25
            subst e_25
            refine v_world (ws' := (wR cI cL a w kp bf w ik fd sp lt tp tn he ft vl bt lg ce bw)) rfl ?_
            refine v_icmp_gt (a := fT w (w 2 - 1 - (k : Int)) 1) (b := fT w (dkN w k) 1) (tgt := 57) G dX9_dark_52 (by decide) (by omega) (fun c_27 => ?_) (fun c_27 => ?_)
            · skip
              refine v_eqs (lv' := [(3, .int (jI (w 2 - 1 - (k : Int)))), (2, .int (jI (dkN w (k + 1)))), (1, .int (sDn w)), (0, .ref (a 0))]) (by rw [show dkN w (k + 1) = dkN w k from (dk_f (by rintro ⟨x1, x2, x3⟩; first | exact absurd x1 (by assumption) | exact x2 (by assumption) | omega))]) rfl rfl ?_
              exact J_14
            · skip
              refine v_iload_n (j := 0) (x := jI (w 2 - 1 - (k : Int))) G dX9_dark_55 rfl rfl ?_
              refine v_istore_n (lv' := [(2, .int (jI (w 2 - 1 - (k : Int)))), (3, .int (jI (w 2 - 1 - (k : Int)))), (1, .int (sDn w)), (0, .ref (a 0))]) G dX9_dark_56 rfl (by decide) rfl ?_
              refine v_locs (lv' := [(3, .int (jI (w 2 - 1 - (k : Int)))), (2, .int (jI (w 2 - 1 - (k : Int)))), (1, .int (sDn w)), (0, .ref (a 0))]) [1, 0, 2, 3] rfl ?_
              refine v_eqs (lv' := [(3, .int (jI (w 2 - 1 - (k : Int)))), (2, .int (jI (dkN w (k + 1)))), (1, .int (sDn w)), (0, .ref (a 0))]) (by rw [show dkN w (k + 1) = w 2 - 1 - (k : Int) from (dk_t ⟨by assumption, by assumption, by omega⟩)]) rfl rfl ?_
              exact J_14

set_option maxHeartbeats 4000000 in
set_option maxRecDepth 100000 in
theorem c_X9_isOut  (hw : Wf w) : Ci l yX9_isOut wsX9_isOut { frames := 3, cells := 0, slots := 0, locals := 68 } D (jT cI cL cB cS) [.ref (a 0)] (wR cI cL a w kp bf ah ik fd sp lt tp tn he ft vl bt lg ce bw) (S := Unit) (fun _ => (wR cI cL a w kp bf ah ik fd sp lt tp tn he ft vl bt lg ce bw)) (fun r _ => r = jI (b2 (sOut w))) := by
  refine Ci.mk (cc := cX9_isOut) (maxL := 3) (rt := .boolean) (by decide) rfl (Nat.le_of_ble_eq_true rfl) rfl ?_
  intro p_ e_ s_ m_ b_ me_ c_ A_ G hnm
  have hm := hw.many
  have k_X9 : ∀ w ∈ u_ws RX9 TX9 17, w ∈ wsX9_isOut := fun _ h => List.mem_cons_of_mem _ (List.mem_append_right _ h)
  have q_1 : Cond.fieldLink RX9 9 "SupperLightModel" "s" "[I" ∈ wsX9_isOut := List.mem_of_getElem? (i := 1) rfl
  refine v_iconst G dX9_isOut_0 ?_
  refine v_topj (x := 0) (y := sumN (sSh w) 0) rfl ?_
  refine v_istore_n (lv' := [(1, .int (jI (sumN (sSh w) 0))), (0, .ref (a 0))]) G dX9_isOut_1 rfl (by decide) rfl ?_
  refine v_iconst G dX9_isOut_2 ?_
  refine v_istore_n (lv' := [(2, .int (jI 0)), (1, .int (jI (sumN (sSh w) 0))), (0, .ref (a 0))]) G dX9_isOut_3 rfl (by decide) rfl ?_
  refine v_locs (lv' := [(2, .int (jI 0)), (1, .int (jI (sumN (sSh w) 0))), (0, .ref (a 0))]) [0, 1, 2] rfl ?_
  refine v_loop1 (fun (k : Nat) => [(2, .int (jI (k : Int))), (1, .int (jI (sumN (sSh w) k))), (0, .ref (a 0))]) (fun (k : Nat) => (wR cI cL a w kp bf ah ik fd sp lt tp tn he ft vl bt lg ce bw)) (fun (k : Nat) => (k : Int) ≤ w 1) (fun (k : Nat) => (w 1).toNat - k) 0 (by omega) rfl rfl ?_
  intro k I_1 ih_2
  refine v_iload_n (j := 0) (x := jI (k : Int)) G dX9_isOut_4 rfl rfl ?_
  refine v_aload_n (j := 2) (x := a 0) G dX9_isOut_5 rfl rfl ?_
  refine v_get (q0 := 0) (k := 0) (v := .ref (a 1)) G k_X9 rfl rfl (by decide) q_1 rfl rfl dX9_isOut_6 ?_
  refine v_iconst G dX9_isOut_9 ?_
  refine v_iald (q0 := 1) (t0 := 0) (g := w) (z := 1) G rfl rfl (by omega) dX9_isOut_10 ?_
  refine v_icmp_ge (a := (k : Int)) (b := w 1) (tgt := 28) G dX9_isOut_11 (by decide) (by omega) (fun c_3 => ?_) (fun c_3 => ?_)
  · skip
    obtain rfl : k = (w 1).toNat := by omega
    refine v_iconst G dX9_isOut_28 ?_
    refine v_istore_n (lv' := [(2, .int (jI 0)), (1, .int (jI (sumN (sSh w) ((w 1).toNat)))), (0, .ref (a 0))]) G dX9_isOut_29 rfl (by decide) rfl ?_
    refine v_eqs (lv' := [(2, .int (jI 0)), (1, .int (jI (sumN (sSh w) (w 1).toNat + sumN (fun x_ => w (3 + x_)) 0))), (0, .ref (a 0))]) (by rw [show sumN (sSh w) (w 1).toNat + sumN (fun x_ => w (3 + x_)) 0 = sumN (sSh w) (w 1).toNat from Int.add_zero _]) rfl rfl ?_
    refine v_locs (lv' := [(2, .int (jI 0)), (1, .int (jI (sumN (sSh w) (w 1).toNat + sumN (fun x_ => w (3 + x_)) 0))), (0, .ref (a 0))]) [0, 1, 2] rfl ?_
    refine v_loop1 (fun (q : Nat) => [(2, .int (jI (q : Int))), (1, .int (jI (sumN (sSh w) (w 1).toNat + sumN (fun x_ => w (3 + x_)) q))), (0, .ref (a 0))]) (fun (q : Nat) => (wR cI cL a w kp bf ah ik fd sp lt tp tn he ft vl bt lg ce bw)) (fun (q : Nat) => (q : Int) ≤ 16) (fun (q : Nat) => 16 - q) 0 (by decide) rfl rfl ?_
    intro q I_4 ih_5
    refine v_iload_n (j := 0) (x := jI (q : Int)) G dX9_isOut_30 rfl rfl ?_
    refine v_bipush G dX9_isOut_31 (by decide) ?_
    refine v_icmp_ge (a := (q : Int)) (b := 16) (tgt := 53) G dX9_isOut_33 (by decide) (by omega) (fun c_6 => ?_) (fun c_6 => ?_)
    · skip
      obtain rfl : q = 16 := by omega
      have hs1 := sumN_le (f := sSh w) (c := 297) (by omega) (w 1).toNat (fun z y0 y1 => sSh_r hw y0 (by omega))
      have hs2 := sumN_le (f := fun x_ => w (3 + x_)) (c := 99) (by omega) 16 (fun z y0 y1 => hw.bowl y0 (by omega))
      refine v_iload_n (j := 1) (x := jI (sumN (sSh w) (w 1).toNat + sumN (fun x_ => w (3 + x_)) 16)) G dX9_isOut_53 rfl rfl ?_
      refine v_if_ne (a := sumN (sSh w) (w 1).toNat + sumN (fun x_ => w (3 + x_)) 16) (tgt := 61) G dX9_isOut_54 (by decide) (by omega) (fun c_7 => ?_) (fun c_7 => ?_)
      · skip
        refine v_iconst G dX9_isOut_61 ?_
        exact v_zret G () nb_0 (show jI 0 = jI (b2 (sOut w)) from congrArg jI (b2_f (P := sOut w) (by unfold sOut; omega)).symm) rfl dX9_isOut_62
      · skip
        refine v_iconst G dX9_isOut_57 ?_
        refine v_goto (tgt := 62) G dX9_isOut_58 (by decide) ?_
        exact v_zret G () nb_1 (show jI 1 = jI (b2 (sOut w)) from congrArg jI (b2_t (P := sOut w) (by unfold sOut; omega)).symm) rfl dX9_isOut_62
    · skip
      refine v_iload_n (j := 1) (x := jI (sumN (sSh w) (w 1).toNat + sumN (fun x_ => w (3 + x_)) q)) G dX9_isOut_36 rfl rfl ?_
      refine v_aload_n (j := 2) (x := a 0) G dX9_isOut_37 rfl rfl ?_
      refine v_get (q0 := 0) (k := 0) (v := .ref (a 1)) G k_X9 rfl rfl (by decide) q_1 rfl rfl dX9_isOut_38 ?_
      refine v_iconst G dX9_isOut_41 ?_
      refine v_iload_n (j := 0) (x := jI (q : Int)) G dX9_isOut_42 rfl rfl ?_
      refine v_iadd (z := 3 + (q : Int)) G dX9_isOut_43 rfl ?_
      refine v_iald (q0 := 1) (t0 := 0) (g := w) (z := 3 + (q : Int)) G rfl rfl (by omega) dX9_isOut_44 ?_
      refine v_iadd (z := (sumN (sSh w) (w 1).toNat + sumN (fun x_ => w (3 + x_)) q) + (w (3 + (q : Int)))) G dX9_isOut_45 rfl ?_
      refine v_topj (x := (sumN (sSh w) (w 1).toNat + sumN (fun x_ => w (3 + x_)) q) + (w (3 + (q : Int)))) (y := sumN (sSh w) (w 1).toNat + sumN (fun x_ => w (3 + x_)) (q + 1)) (by rw [sumN_s]; omega) ?_
      refine v_istore_n (lv' := [(1, .int (jI (sumN (sSh w) (w 1).toNat + sumN (fun x_ => w (3 + x_)) (q + 1)))), (2, .int (jI (q : Int))), (0, .ref (a 0))]) G dX9_isOut_46 rfl (by decide) rfl ?_
      refine v_iinc (k := 1) (z := (q : Int)) (z' := ((q + 1 : Nat) : Int)) (lv' := [(2, .int (jI ((q + 1 : Nat) : Int))), (1, .int (jI (sumN (sSh w) (w 1).toNat + sumN (fun x_ => w (3 + x_)) (q + 1)))), (0, .ref (a 0))]) G dX9_isOut_47 rfl (by omega) (by decide) rfl ?_
      refine v_goto (tgt := 30) G dX9_isOut_50 (by decide) ?_
      exact ih_5 (q + 1) (by omega) (by omega)
  · skip
    refine v_iload_n (j := 1) (x := jI (sumN (sSh w) k)) G dX9_isOut_14 rfl rfl ?_
    refine v_aload_n (j := 2) (x := a 0) G dX9_isOut_15 rfl rfl ?_
    refine v_iload_n (j := 0) (x := jI (k : Int)) G dX9_isOut_16 rfl rfl ?_
    refine v_ciF G (rn_V (As := [.int (jI (k : Int))]) (rest := [.int (jI (sumN (sSh w) k))]) (q0 := 0) G (c_X9_shines (b := (k : Int)) (w := w) (kp := kp) (bf := bf) (ah := ah) (ik := ik) (fd := fd) (sp := sp) (lt := lt) (tp := tp) (tn := tn) (he := he) (ft := ft) (vl := vl) (bt := bt) (lg := lg) (ce := ce) (bw := bw) (a := a) (hw := hw) (hb := (by omega))) gX9_isOut_X9_shines rfl hdX9_shines ⟨rfl, rfl, Nat.le_of_ble_eq_true rfl, Nat.le_of_ble_eq_true rfl⟩ rfl rfl (Nat.le_of_ble_eq_true rfl) ⟨Nat.zero_le _, Nat.zero_le _⟩ rfl rfl dX9_isOut_17) (fun r_8 u_10 e_9 => ?_)
    have e_9 : r_8 = jI (sSh w (k : Int)) := e_9
    subst e_9
    refine v_world (ws' := (wR cI cL a w kp bf ah ik fd sp lt tp tn he ft vl bt lg ce bw)) rfl ?_
    refine v_iadd (z := (sumN (sSh w) k) + (sSh w (k : Int))) G dX9_isOut_20 rfl ?_
    refine v_topj (x := (sumN (sSh w) k) + (sSh w (k : Int))) (y := sumN (sSh w) (k + 1)) rfl ?_
    refine v_istore_n (lv' := [(1, .int (jI (sumN (sSh w) (k + 1)))), (2, .int (jI (k : Int))), (0, .ref (a 0))]) G dX9_isOut_21 rfl (by decide) rfl ?_
    refine v_iinc (k := 1) (z := (k : Int)) (z' := ((k + 1 : Nat) : Int)) (lv' := [(2, .int (jI ((k + 1 : Nat) : Int))), (1, .int (jI (sumN (sSh w) (k + 1)))), (0, .ref (a 0))]) G dX9_isOut_22 rfl (by omega) (by decide) rfl ?_
    refine v_goto (tgt := 4) G dX9_isOut_25 (by decide) ?_
    exact ih_2 (k + 1) (by omega) (by omega)

set_option maxHeartbeats 4000000 in
set_option maxRecDepth 100000 in
theorem c_X9_out  (hw : Wf w) (h0 : w 0 ≤ 9999) : Ci l yX9_out wsX9_out { frames := 4, cells := 0, slots := 0, locals := 90 } D (jT cI cL cB cS) [.ref (a 0)] (wR cI cL a w kp bf ah ik fd sp lt tp tn he ft vl bt lg ce bw) (S := (Int → Int) × (Int → Int)) (fun u => (wR cI cL a w kp bf u.2 ik u.1 sp lt tp tn he ft vl bt lg ce bw)) (fun r u => ((lstN (fun q_ => sOut (hrs w q_)) 101 0 ≤ 100) ∧ r = jI (lstN (fun q_ => sOut (hrs w q_)) 101 0 : Int) ∧ u.1 = fd) ∨ ((100 < lstN (fun q_ => sOut (hrs w q_)) 101 0) ∧ r = jI (-1000000004) ∧ u.1 = uI fd 3 (fd 3 + 1))) := by
  refine Ci.mk (cc := cX9_out) (maxL := 2) (rt := .int) (by decide) rfl (Nat.le_of_ble_eq_true rfl) rfl ?_
  intro p_ e_ s_ m_ b_ me_ c_ A_ G hnm
  have hm := hw.many
  have hmt := hw.tasks
  have hh := hw.hour
  have k_X9 : ∀ w ∈ u_ws RX9 TX9 17, w ∈ wsX9_out := fun _ h => List.mem_cons_of_mem _ (List.mem_append_right _ h)
  have q_1 : Cond.fieldLink RX9 9 "SupperLightModel" "s" "[I" ∈ wsX9_out := List.mem_of_getElem? (i := 1) rfl
  have q_2 : Cond.fieldLink RX9 19 "SupperLightModel" "ahead" "[I" ∈ wsX9_out := List.mem_of_getElem? (i := 2) rfl
  refine v_aload_n (j := 0) (x := a 0) G dX9_out_0 rfl rfl ?_
  refine v_get (q0 := 0) (k := 0) (v := .ref (a 1)) G k_X9 rfl rfl (by decide) q_1 rfl rfl dX9_out_1 ?_
  refine v_aload_n (j := 0) (x := a 0) G dX9_out_4 rfl rfl ?_
  refine v_get (q0 := 0) (k := 3) (v := .ref (a 4)) G k_X9 rfl rfl (by decide) q_2 rfl rfl dX9_out_5 ?_
  refine v_cvF G (rn_S (As := [.ref (a 1), .ref (a 4)]) (rest := []) G (c_X9_lay_w_ah (w := w) (kp := kp) (bf := bf) (ah := ah) (ik := ik) (fd := fd) (sp := sp) (lt := lt) (tp := tp) (tn := tn) (he := he) (ft := ft) (vl := vl) (bt := bt) (lg := lg) (ce := ce) (bw := bw) (a := a) ) gX9_out_X9_lay rfl hdX9_lay ⟨rfl, rfl, Nat.le_of_ble_eq_true rfl, Nat.le_of_ble_eq_true rfl⟩ rfl rfl (Nat.le_of_ble_eq_true rfl) ⟨Nat.zero_le _, Nat.zero_le _⟩ dX9_out_8) (fun u_3 e_2 => ?_)
  refine v_world (ws' := (wR cI cL a w kp bf w ik fd sp lt tp tn he ft vl bt lg ce bw)) rfl ?_
  refine v_iconst G dX9_out_11 ?_
  refine v_istore_n (lv' := [(1, .int (jI 0)), (0, .ref (a 0))]) G dX9_out_12 rfl (by decide) rfl ?_
  refine v_locs (lv' := [(1, .int (jI 0)), (0, .ref (a 0))]) [0, 1] rfl ?_
  refine v_loop1 (fun (n : Nat) => [(1, .int (jI (n : Int))), (0, .ref (a 0))]) (fun (n : Nat) => (wR cI cL a (hrs w n) kp bf w ik fd sp lt tp tn he ft vl bt lg ce bw)) (fun (n : Nat) => n ≤ 101 ∧ lstN (fun q_ => sOut (hrs w q_)) (101 - n) n = lstN (fun q_ => sOut (hrs w q_)) 101 0) (fun (n : Nat) => 101 - n) 0 ⟨by decide, rfl⟩ rfl rfl ?_
  intro n I_4 ih_5
  obtain ⟨i1, i2, i3, i4⟩ := hw.hrs n (by omega)
  obtain ⟨hn, hz⟩ := id I_4
  refine v_iload_n (j := 0) (x := jI (n : Int)) G dX9_out_13 rfl rfl ?_
  refine v_bipush G dX9_out_14 (by decide) ?_
  refine v_icmp_gt (a := (n : Int)) (b := 100) (tgt := 36) G dX9_out_16 (by decide) (by omega) (fun c_6 => ?_) (fun c_6 => ?_)
  · skip
    have hres : lstN (fun q_ => sOut (hrs w q_)) 101 0 = n := by first | exact lst_o hz (by omega) | exact lst_i hz (by omega) (by assumption)
    refine v_aload_n (j := 1) (x := a 0) G dX9_out_36 rfl rfl ?_
    refine v_get (q0 := 0) (k := 3) (v := .ref (a 4)) G k_X9 rfl rfl (by decide) q_2 rfl rfl dX9_out_37 ?_
    refine v_aload_n (j := 1) (x := a 0) G dX9_out_40 rfl rfl ?_
    refine v_get (q0 := 0) (k := 0) (v := .ref (a 1)) G k_X9 rfl rfl (by decide) q_1 rfl rfl dX9_out_41 ?_
    refine v_cvF G (rn_S (As := [.ref (a 4), .ref (a 1)]) (rest := []) G (c_X9_lay_ah_w (w := hrs w n) (kp := kp) (bf := bf) (ah := w) (ik := ik) (fd := fd) (sp := sp) (lt := lt) (tp := tp) (tn := tn) (he := he) (ft := ft) (vl := vl) (bt := bt) (lg := lg) (ce := ce) (bw := bw) (a := a) ) gX9_out_X9_lay rfl hdX9_lay ⟨rfl, rfl, Nat.le_of_ble_eq_true rfl, Nat.le_of_ble_eq_true rfl⟩ rfl rfl (Nat.le_of_ble_eq_true rfl) ⟨Nat.zero_le _, Nat.zero_le _⟩ dX9_out_44) (fun u_9 e_8 => ?_)
    refine v_world (ws' := (wR cI cL a w kp bf w ik fd sp lt tp tn he ft vl bt lg ce bw)) rfl ?_
    refine v_iload_n (j := 0) (x := jI (n : Int)) G dX9_out_47 rfl rfl ?_
    refine v_bipush G dX9_out_48 (by decide) ?_
    refine v_icmp_gt (a := (n : Int)) (b := 100) (tgt := 57) G dX9_out_50 (by decide) (by omega) (fun c_10 => ?_) (fun c_10 => ?_)
    · skip
      refine v_aload_n (j := 1) (x := a 0) G dX9_out_57 rfl rfl ?_
      refine v_iconst G dX9_out_58 ?_
      refine v_ciF G (rn_V (As := [.int (jI 3)]) (rest := []) (q0 := 0) G (c_X9_no (k := 3) (w := w) (kp := kp) (bf := bf) (ah := w) (ik := ik) (fd := fd) (sp := sp) (lt := lt) (tp := tp) (tn := tn) (he := he) (ft := ft) (vl := vl) (bt := bt) (lg := lg) (ce := ce) (bw := bw) (a := a) (hk := (by omega))) gX9_out_X9_no rfl hdX9_no ⟨rfl, rfl, Nat.le_of_ble_eq_true rfl, Nat.le_of_ble_eq_true rfl⟩ rfl rfl (Nat.le_of_ble_eq_true rfl) ⟨Nat.zero_le _, Nat.zero_le _⟩ rfl rfl dX9_out_59) (fun r_11 u_13 e_12 => ?_)
      have e_12 : r_11 = jI ((-1000000001) - 3) := e_12
      subst e_12
      refine v_world (ws' := (wR cI cL a w kp bf w ik (uI fd 3 (fd 3 + 1)) sp lt tp tn he ft vl bt lg ce bw)) rfl ?_
      exact v_iret G (uI fd 3 (fd 3 + 1), w) (by first | exact Or.inl ⟨(by omega), (by first | rfl | exact congrArg jI (by omega)), rfl⟩ | exact Or.inr ⟨(by omega), (by first | rfl | exact congrArg jI (by omega)), rfl⟩) rfl dX9_out_62
    · skip
      refine v_iload_n (j := 0) (x := jI (n : Int)) G dX9_out_53 rfl rfl ?_
      refine v_goto (tgt := 62) G dX9_out_54 (by decide) ?_
      exact v_iret G (fd, w) (by first | exact Or.inl ⟨(by omega), (by first | rfl | exact congrArg jI (by omega)), rfl⟩ | exact Or.inr ⟨(by omega), (by first | rfl | exact congrArg jI (by omega)), rfl⟩) rfl dX9_out_62
  · skip
    refine v_aload_n (j := 1) (x := a 0) G dX9_out_19 rfl rfl ?_
    refine v_ciF G (rn_V (As := []) (rest := []) (q0 := 0) G (c_X9_isOut (w := hrs w n) (kp := kp) (bf := bf) (ah := w) (ik := ik) (fd := fd) (sp := sp) (lt := lt) (tp := tp) (tn := tn) (he := he) (ft := ft) (vl := vl) (bt := bt) (lg := lg) (ce := ce) (bw := bw) (a := a) (hw := i1)) gX9_out_X9_isOut rfl hdX9_isOut ⟨rfl, rfl, Nat.le_of_ble_eq_true rfl, Nat.le_of_ble_eq_true rfl⟩ rfl rfl (Nat.le_of_ble_eq_true rfl) ⟨Nat.zero_le _, Nat.zero_le _⟩ rfl rfl dX9_out_20) (fun r_14 u_16 e_15 => ?_)
    have e_15 : r_14 = jI (b2 (sOut (hrs w n))) := e_15
    subst e_15
    refine v_world (ws' := (wR cI cL a (hrs w n) kp bf w ik fd sp lt tp tn he ft vl bt lg ce bw)) rfl ?_
    refine v_ifb_ne (P := sOut (hrs w n)) (tgt := 36) G dX9_out_23 (by decide) (fun c_17 => ?_) (fun c_17 => ?_)
    · skip
      have hres : lstN (fun q_ => sOut (hrs w q_)) 101 0 = n := by first | exact lst_o hz (by omega) | exact lst_i hz (by omega) (by assumption)
      refine v_aload_n (j := 1) (x := a 0) G dX9_out_36 rfl rfl ?_
      refine v_get (q0 := 0) (k := 3) (v := .ref (a 4)) G k_X9 rfl rfl (by decide) q_2 rfl rfl dX9_out_37 ?_
      refine v_aload_n (j := 1) (x := a 0) G dX9_out_40 rfl rfl ?_
      refine v_get (q0 := 0) (k := 0) (v := .ref (a 1)) G k_X9 rfl rfl (by decide) q_1 rfl rfl dX9_out_41 ?_
      refine v_cvF G (rn_S (As := [.ref (a 4), .ref (a 1)]) (rest := []) G (c_X9_lay_ah_w (w := (hrs w n)) (kp := kp) (bf := bf) (ah := w) (ik := ik) (fd := fd) (sp := sp) (lt := lt) (tp := tp) (tn := tn) (he := he) (ft := ft) (vl := vl) (bt := bt) (lg := lg) (ce := ce) (bw := bw) (a := a) ) gX9_out_X9_lay rfl hdX9_lay ⟨rfl, rfl, Nat.le_of_ble_eq_true rfl, Nat.le_of_ble_eq_true rfl⟩ rfl rfl (Nat.le_of_ble_eq_true rfl) ⟨Nat.zero_le _, Nat.zero_le _⟩ dX9_out_44) (fun u_20 e_19 => ?_)
      refine v_world (ws' := (wR cI cL a w kp bf w ik fd sp lt tp tn he ft vl bt lg ce bw)) rfl ?_
      refine v_iload_n (j := 0) (x := jI (n : Int)) G dX9_out_47 rfl rfl ?_
      refine v_bipush G dX9_out_48 (by decide) ?_
      refine v_icmp_gt (a := (n : Int)) (b := 100) (tgt := 57) G dX9_out_50 (by decide) (by omega) (fun c_21 => ?_) (fun c_21 => ?_)
      · skip
        refine v_aload_n (j := 1) (x := a 0) G dX9_out_57 rfl rfl ?_
        refine v_iconst G dX9_out_58 ?_
        refine v_ciF G (rn_V (As := [.int (jI 3)]) (rest := []) (q0 := 0) G (c_X9_no (k := 3) (w := w) (kp := kp) (bf := bf) (ah := w) (ik := ik) (fd := fd) (sp := sp) (lt := lt) (tp := tp) (tn := tn) (he := he) (ft := ft) (vl := vl) (bt := bt) (lg := lg) (ce := ce) (bw := bw) (a := a) (hk := (by omega))) gX9_out_X9_no rfl hdX9_no ⟨rfl, rfl, Nat.le_of_ble_eq_true rfl, Nat.le_of_ble_eq_true rfl⟩ rfl rfl (Nat.le_of_ble_eq_true rfl) ⟨Nat.zero_le _, Nat.zero_le _⟩ rfl rfl dX9_out_59) (fun r_22 u_24 e_23 => ?_)
        have e_23 : r_22 = jI ((-1000000001) - 3) := e_23
        subst e_23
        refine v_world (ws' := (wR cI cL a w kp bf w ik (uI fd 3 (fd 3 + 1)) sp lt tp tn he ft vl bt lg ce bw)) rfl ?_
        exact v_iret G (uI fd 3 (fd 3 + 1), w) (by first | exact Or.inl ⟨(by omega), (by first | rfl | exact congrArg jI (by omega)), rfl⟩ | exact Or.inr ⟨(by omega), (by first | rfl | exact congrArg jI (by omega)), rfl⟩) rfl dX9_out_62
      · skip
        refine v_iload_n (j := 0) (x := jI (n : Int)) G dX9_out_53 rfl rfl ?_
        refine v_goto (tgt := 62) G dX9_out_54 (by decide) ?_
        exact v_iret G (fd, w) (by first | exact Or.inl ⟨(by omega), (by first | rfl | exact congrArg jI (by omega)), rfl⟩ | exact Or.inr ⟨(by omega), (by first | rfl | exact congrArg jI (by omega)), rfl⟩) rfl dX9_out_62
    · skip
      refine v_aload_n (j := 1) (x := a 0) G dX9_out_26 rfl rfl ?_
      refine v_cvF G (rn_V (As := []) (rest := []) (q0 := 0) G (c_X9_hour (w := (hrs w n)) (kp := kp) (bf := bf) (ah := w) (ik := ik) (fd := fd) (sp := sp) (lt := lt) (tp := tp) (tn := tn) (he := he) (ft := ft) (vl := vl) (bt := bt) (lg := lg) (ce := ce) (bw := bw) (a := a) (hw := i1) (h0 := (by omega))) gX9_out_X9_hour rfl hdX9_hour ⟨rfl, rfl, Nat.le_of_ble_eq_true rfl, Nat.le_of_ble_eq_true rfl⟩ rfl rfl (Nat.le_of_ble_eq_true rfl) ⟨Nat.zero_le _, Nat.zero_le _⟩ rfl rfl dX9_out_27) (fun u_27 e_26 => ?_)
      refine v_world (ws' := (wR cI cL a (sHr (hrs w n)) kp bf w ik fd sp lt tp tn he ft vl bt lg ce bw)) rfl ?_
      refine v_world (ws' := (wR cI cL a (hrs w (n + 1)) kp bf w ik fd sp lt tp tn he ft vl bt lg ce bw)) rfl ?_
      refine v_iinc (k := 0) (z := (n : Int)) (z' := ((n + 1 : Nat) : Int)) (lv' := [(1, .int (jI ((n + 1 : Nat) : Int))), (0, .ref (a 0))]) G dX9_out_30 rfl (by omega) (by decide) rfl ?_
      refine v_goto (tgt := 13) G dX9_out_33 (by decide) ?_
      exact ih_5 (n + 1) ⟨by omega, lst_s (by omega) (by assumption) I_4.2⟩ (by omega)

set_option maxHeartbeats 4000000 in
set_option maxRecDepth 100000 in
theorem c_X9_meet (x y : Int) (hw : Wf w) (h0 : w 0 ≤ 9999) (hr : (-2147483648 ≤ x ∧ x ≤ 2147483647) ∧ (-2147483648 ≤ y ∧ y ≤ 2147483647)) : Ci l yX9_meet wsX9_meet { frames := 2, cells := 0, slots := 0, locals := 43 } D (jT cI cL cB cS) [.ref (a 0), .int (jI x), .int (jI y)] (wR cI cL a w kp bf ah ik fd sp lt tp tn he ft vl bt lg ce bw) (S := (Int → Int) × (Int → Int)) (fun u => (wR cI cL a w kp bf u.2 ik u.1 sp lt tp tn he ft vl bt lg ce bw)) (fun r u => ((¬ (((0 ≤ x ∧ x ≤ w 1 - 1) ∧ 0 ≤ y ∧ y ≤ w 1 - 1) ∧ x ≠ y)) ∧ r = jI (-1000000001) ∧ u.1 = uI fd 0 (fd 0 + 1)) ∨ (((((0 ≤ x ∧ x ≤ w 1 - 1) ∧ 0 ≤ y ∧ y ≤ w 1 - 1) ∧ x ≠ y) ∧ lstN (fun q_ => fB (hrs w q_) x 1 = fB (hrs w q_) y 1) 101 0 ≤ 100) ∧ r = jI (lstN (fun q_ => fB (hrs w q_) x 1 = fB (hrs w q_) y 1) 101 0 : Int) ∧ u.1 = fd) ∨ (((((0 ≤ x ∧ x ≤ w 1 - 1) ∧ 0 ≤ y ∧ y ≤ w 1 - 1) ∧ x ≠ y) ∧ 100 < lstN (fun q_ => fB (hrs w q_) x 1 = fB (hrs w q_) y 1) 101 0) ∧ r = jI (-1000000004) ∧ u.1 = uI fd 3 (fd 3 + 1))) := by
  refine Ci.mk (cc := cX9_meet) (maxL := 4) (rt := .int) (by decide) rfl (Nat.le_of_ble_eq_true rfl) rfl ?_
  intro p_ e_ s_ m_ b_ me_ c_ A_ G hnm
  have hm := hw.many
  have hmt := hw.tasks
  have hh := hw.hour
  have k_X9 : ∀ w ∈ u_ws RX9 TX9 17, w ∈ wsX9_meet := fun _ h => List.mem_cons_of_mem _ (List.mem_append_right _ h)
  have q_1 : Cond.fieldLink RX9 9 "SupperLightModel" "s" "[I" ∈ wsX9_meet := List.mem_of_getElem? (i := 1) rfl
  have q_2 : Cond.fieldLink RX9 19 "SupperLightModel" "ahead" "[I" ∈ wsX9_meet := List.mem_of_getElem? (i := 2) rfl
  refine v_aload_n (j := 0) (x := a 0) G dX9_meet_0 rfl rfl ?_
  refine v_iload_n (j := 1) (x := jI x) G dX9_meet_1 rfl rfl ?_
  refine v_ciF G (rn_V (As := [.int (jI x)]) (rest := []) (q0 := 0) G (c_X9_isBeing (b := x) (w := w) (kp := kp) (bf := bf) (ah := ah) (ik := ik) (fd := fd) (sp := sp) (lt := lt) (tp := tp) (tn := tn) (he := he) (ft := ft) (vl := vl) (bt := bt) (lg := lg) (ce := ce) (bw := bw) (a := a) (hw := hw) (hr := (by omega))) gX9_meet_X9_isBeing rfl hdX9_isBeing ⟨rfl, rfl, Nat.le_of_ble_eq_true rfl, Nat.le_of_ble_eq_true rfl⟩ rfl rfl (Nat.le_of_ble_eq_true rfl) ⟨Nat.zero_le _, Nat.zero_le _⟩ rfl rfl dX9_meet_2) (fun r_1 u_3 e_2 => ?_)
  have e_2 : r_1 = jI (b2 (0 ≤ x ∧ x ≤ w 1 - 1)) := e_2
  subst e_2
  refine v_world (ws' := (wR cI cL a w kp bf ah ik fd sp lt tp tn he ft vl bt lg ce bw)) rfl ?_
  refine v_ifb_eq (P := 0 ≤ x ∧ x ≤ w 1 - 1) (tgt := 21) G dX9_meet_5 (by decide) (fun c_4 => ?_) (fun c_4 => ?_)
  · skip
    refine v_aload_n (j := 0) (x := a 0) G dX9_meet_21 rfl rfl ?_
    refine v_iconst G dX9_meet_22 ?_
    refine v_ciF G (rn_V (As := [.int (jI 0)]) (rest := []) (q0 := 0) G (c_X9_no (k := 0) (w := w) (kp := kp) (bf := bf) (ah := ah) (ik := ik) (fd := fd) (sp := sp) (lt := lt) (tp := tp) (tn := tn) (he := he) (ft := ft) (vl := vl) (bt := bt) (lg := lg) (ce := ce) (bw := bw) (a := a) (hk := (by omega))) gX9_meet_X9_no rfl hdX9_no ⟨rfl, rfl, Nat.le_of_ble_eq_true rfl, Nat.le_of_ble_eq_true rfl⟩ rfl rfl (Nat.le_of_ble_eq_true rfl) ⟨Nat.zero_le _, Nat.zero_le _⟩ rfl rfl dX9_meet_23) (fun r_5 u_7 e_6 => ?_)
    have e_6 : r_5 = jI ((-1000000001) - 0) := e_6
    subst e_6
    refine v_world (ws' := (wR cI cL a w kp bf ah ik (uI fd 0 (fd 0 + 1)) sp lt tp tn he ft vl bt lg ce bw)) rfl ?_
    exact v_iret G (uI fd 0 (fd 0 + 1), ah) (by first | exact Or.inl ⟨(by omega), (by first | rfl | exact congrArg jI (by omega)), rfl⟩ | exact Or.inr (Or.inl ⟨(by omega), (by first | rfl | exact congrArg jI (by omega)), rfl⟩) | exact Or.inr (Or.inr ⟨(by omega), (by first | rfl | exact congrArg jI (by omega)), rfl⟩)) rfl dX9_meet_26
  · skip
    refine v_aload_n (j := 0) (x := a 0) G dX9_meet_8 rfl rfl ?_
    refine v_iload_n (j := 2) (x := jI y) G dX9_meet_9 rfl rfl ?_
    refine v_ciF G (rn_V (As := [.int (jI y)]) (rest := []) (q0 := 0) G (c_X9_isBeing (b := y) (w := w) (kp := kp) (bf := bf) (ah := ah) (ik := ik) (fd := fd) (sp := sp) (lt := lt) (tp := tp) (tn := tn) (he := he) (ft := ft) (vl := vl) (bt := bt) (lg := lg) (ce := ce) (bw := bw) (a := a) (hw := hw) (hr := (by omega))) gX9_meet_X9_isBeing rfl hdX9_isBeing ⟨rfl, rfl, Nat.le_of_ble_eq_true rfl, Nat.le_of_ble_eq_true rfl⟩ rfl rfl (Nat.le_of_ble_eq_true rfl) ⟨Nat.zero_le _, Nat.zero_le _⟩ rfl rfl dX9_meet_10) (fun r_8 u_10 e_9 => ?_)
    have e_9 : r_8 = jI (b2 (0 ≤ y ∧ y ≤ w 1 - 1)) := e_9
    subst e_9
    refine v_world (ws' := (wR cI cL a w kp bf ah ik fd sp lt tp tn he ft vl bt lg ce bw)) rfl ?_
    refine v_ifb_eq (P := 0 ≤ y ∧ y ≤ w 1 - 1) (tgt := 21) G dX9_meet_13 (by decide) (fun c_11 => ?_) (fun c_11 => ?_)
    · skip
      refine v_aload_n (j := 0) (x := a 0) G dX9_meet_21 rfl rfl ?_
      refine v_iconst G dX9_meet_22 ?_
      refine v_ciF G (rn_V (As := [.int (jI 0)]) (rest := []) (q0 := 0) G (c_X9_no (k := 0) (w := w) (kp := kp) (bf := bf) (ah := ah) (ik := ik) (fd := fd) (sp := sp) (lt := lt) (tp := tp) (tn := tn) (he := he) (ft := ft) (vl := vl) (bt := bt) (lg := lg) (ce := ce) (bw := bw) (a := a) (hk := (by omega))) gX9_meet_X9_no rfl hdX9_no ⟨rfl, rfl, Nat.le_of_ble_eq_true rfl, Nat.le_of_ble_eq_true rfl⟩ rfl rfl (Nat.le_of_ble_eq_true rfl) ⟨Nat.zero_le _, Nat.zero_le _⟩ rfl rfl dX9_meet_23) (fun r_12 u_14 e_13 => ?_)
      have e_13 : r_12 = jI ((-1000000001) - 0) := e_13
      subst e_13
      refine v_world (ws' := (wR cI cL a w kp bf ah ik (uI fd 0 (fd 0 + 1)) sp lt tp tn he ft vl bt lg ce bw)) rfl ?_
      exact v_iret G (uI fd 0 (fd 0 + 1), ah) (by first | exact Or.inl ⟨(by omega), (by first | rfl | exact congrArg jI (by omega)), rfl⟩ | exact Or.inr (Or.inl ⟨(by omega), (by first | rfl | exact congrArg jI (by omega)), rfl⟩) | exact Or.inr (Or.inr ⟨(by omega), (by first | rfl | exact congrArg jI (by omega)), rfl⟩)) rfl dX9_meet_26
    · skip
      refine v_iload_n (j := 1) (x := jI x) G dX9_meet_16 rfl rfl ?_
      refine v_iload_n (j := 2) (x := jI y) G dX9_meet_17 rfl rfl ?_
      refine v_icmp_ne (a := x) (b := y) (tgt := 27) G dX9_meet_18 (by decide) (by omega) (fun c_15 => ?_) (fun c_15 => ?_)
      · skip
        refine v_aload_n (j := 0) (x := a 0) G dX9_meet_27 rfl rfl ?_
        refine v_get (q0 := 0) (k := 0) (v := .ref (a 1)) G k_X9 rfl rfl (by decide) q_1 rfl rfl dX9_meet_28 ?_
        refine v_aload_n (j := 0) (x := a 0) G dX9_meet_31 rfl rfl ?_
        refine v_get (q0 := 0) (k := 3) (v := .ref (a 4)) G k_X9 rfl rfl (by decide) q_2 rfl rfl dX9_meet_32 ?_
        refine v_cvF G (rn_S (As := [.ref (a 1), .ref (a 4)]) (rest := []) G (c_X9_lay_w_ah (w := w) (kp := kp) (bf := bf) (ah := ah) (ik := ik) (fd := fd) (sp := sp) (lt := lt) (tp := tp) (tn := tn) (he := he) (ft := ft) (vl := vl) (bt := bt) (lg := lg) (ce := ce) (bw := bw) (a := a) ) gX9_meet_X9_lay rfl hdX9_lay ⟨rfl, rfl, Nat.le_of_ble_eq_true rfl, Nat.le_of_ble_eq_true rfl⟩ rfl rfl (Nat.le_of_ble_eq_true rfl) ⟨Nat.zero_le _, Nat.zero_le _⟩ dX9_meet_35) (fun u_18 e_17 => ?_)
        refine v_world (ws' := (wR cI cL a w kp bf w ik fd sp lt tp tn he ft vl bt lg ce bw)) rfl ?_
        refine v_iconst G dX9_meet_38 ?_
        refine v_istore_n (lv' := [(3, .int (jI 0)), (0, .ref (a 0)), (1, .int (jI x)), (2, .int (jI y))]) G dX9_meet_39 rfl (by decide) rfl ?_
        refine v_locs (lv' := [(3, .int (jI 0)), (0, .ref (a 0)), (1, .int (jI x)), (2, .int (jI y))]) [0, 1, 2, 3] rfl ?_
        refine v_loop1 (fun (n : Nat) => [(3, .int (jI (n : Int))), (0, .ref (a 0)), (1, .int (jI x)), (2, .int (jI y))]) (fun (n : Nat) => (wR cI cL a (hrs w n) kp bf w ik fd sp lt tp tn he ft vl bt lg ce bw)) (fun (n : Nat) => n ≤ 101 ∧ lstN (fun q_ => fB (hrs w q_) x 1 = fB (hrs w q_) y 1) (101 - n) n = lstN (fun q_ => fB (hrs w q_) x 1 = fB (hrs w q_) y 1) 101 0) (fun (n : Nat) => 101 - n) 0 ⟨by decide, rfl⟩ rfl rfl ?_
        intro n I_19 ih_20
        obtain ⟨i1, i2, i3, i4⟩ := hw.hrs n (by omega)
        obtain ⟨hn, hz⟩ := id I_19
        refine v_iload_n (j := 0) (x := jI (n : Int)) G dX9_meet_40 rfl rfl ?_
        refine v_bipush G dX9_meet_41 (by decide) ?_
        refine v_icmp_gt (a := (n : Int)) (b := 100) (tgt := 71) G dX9_meet_43 (by decide) (by omega) (fun c_21 => ?_) (fun c_21 => ?_)
        · skip
          have hres : lstN (fun q_ => fB (hrs w q_) x 1 = fB (hrs w q_) y 1) 101 0 = n := by first | exact lst_o hz (by omega) | exact lst_i hz (by omega) (by assumption)
          refine v_aload_n (j := 1) (x := a 0) G dX9_meet_71 rfl rfl ?_
          refine v_get (q0 := 0) (k := 3) (v := .ref (a 4)) G k_X9 rfl rfl (by decide) q_2 rfl rfl dX9_meet_72 ?_
          refine v_aload_n (j := 1) (x := a 0) G dX9_meet_75 rfl rfl ?_
          refine v_get (q0 := 0) (k := 0) (v := .ref (a 1)) G k_X9 rfl rfl (by decide) q_1 rfl rfl dX9_meet_76 ?_
          refine v_cvF G (rn_S (As := [.ref (a 4), .ref (a 1)]) (rest := []) G (c_X9_lay_ah_w (w := hrs w n) (kp := kp) (bf := bf) (ah := w) (ik := ik) (fd := fd) (sp := sp) (lt := lt) (tp := tp) (tn := tn) (he := he) (ft := ft) (vl := vl) (bt := bt) (lg := lg) (ce := ce) (bw := bw) (a := a) ) gX9_meet_X9_lay rfl hdX9_lay ⟨rfl, rfl, Nat.le_of_ble_eq_true rfl, Nat.le_of_ble_eq_true rfl⟩ rfl rfl (Nat.le_of_ble_eq_true rfl) ⟨Nat.zero_le _, Nat.zero_le _⟩ dX9_meet_79) (fun u_24 e_23 => ?_)
          refine v_world (ws' := (wR cI cL a w kp bf w ik fd sp lt tp tn he ft vl bt lg ce bw)) rfl ?_
          refine v_iload_n (j := 0) (x := jI (n : Int)) G dX9_meet_82 rfl rfl ?_
          refine v_bipush G dX9_meet_83 (by decide) ?_
          refine v_icmp_gt (a := (n : Int)) (b := 100) (tgt := 92) G dX9_meet_85 (by decide) (by omega) (fun c_25 => ?_) (fun c_25 => ?_)
          · skip
            refine v_aload_n (j := 1) (x := a 0) G dX9_meet_92 rfl rfl ?_
            refine v_iconst G dX9_meet_93 ?_
            refine v_ciF G (rn_V (As := [.int (jI 3)]) (rest := []) (q0 := 0) G (c_X9_no (k := 3) (w := w) (kp := kp) (bf := bf) (ah := w) (ik := ik) (fd := fd) (sp := sp) (lt := lt) (tp := tp) (tn := tn) (he := he) (ft := ft) (vl := vl) (bt := bt) (lg := lg) (ce := ce) (bw := bw) (a := a) (hk := (by omega))) gX9_meet_X9_no rfl hdX9_no ⟨rfl, rfl, Nat.le_of_ble_eq_true rfl, Nat.le_of_ble_eq_true rfl⟩ rfl rfl (Nat.le_of_ble_eq_true rfl) ⟨Nat.zero_le _, Nat.zero_le _⟩ rfl rfl dX9_meet_94) (fun r_26 u_28 e_27 => ?_)
            have e_27 : r_26 = jI ((-1000000001) - 3) := e_27
            subst e_27
            refine v_world (ws' := (wR cI cL a w kp bf w ik (uI fd 3 (fd 3 + 1)) sp lt tp tn he ft vl bt lg ce bw)) rfl ?_
            exact v_iret G (uI fd 3 (fd 3 + 1), w) (by first | exact Or.inl ⟨(by omega), (by first | rfl | exact congrArg jI (by omega)), rfl⟩ | exact Or.inr (Or.inl ⟨(by omega), (by first | rfl | exact congrArg jI (by omega)), rfl⟩) | exact Or.inr (Or.inr ⟨(by omega), (by first | rfl | exact congrArg jI (by omega)), rfl⟩)) rfl dX9_meet_97
          · skip
            refine v_iload_n (j := 0) (x := jI (n : Int)) G dX9_meet_88 rfl rfl ?_
            refine v_goto (tgt := 97) G dX9_meet_89 (by decide) ?_
            exact v_iret G (fd, w) (by first | exact Or.inl ⟨(by omega), (by first | rfl | exact congrArg jI (by omega)), rfl⟩ | exact Or.inr (Or.inl ⟨(by omega), (by first | rfl | exact congrArg jI (by omega)), rfl⟩) | exact Or.inr (Or.inr ⟨(by omega), (by first | rfl | exact congrArg jI (by omega)), rfl⟩)) rfl dX9_meet_97
        · skip
          have hk1 := i1.being (b := x) (by omega) (by omega)
          have hk2 := i1.being (b := y) (by omega) (by omega)
          refine v_aload_n (j := 1) (x := a 0) G dX9_meet_46 rfl rfl ?_
          refine v_iload_n (j := 2) (x := jI x) G dX9_meet_47 rfl rfl ?_
          refine v_iconst G dX9_meet_48 ?_
          refine v_ciF G (rn_V (As := [.int (jI x), .int (jI 1)]) (rest := []) (q0 := 0) G (c_X9_is (b := x) (k := 1) (w := hrs w n) (kp := kp) (bf := bf) (ah := w) (ik := ik) (fd := fd) (sp := sp) (lt := lt) (tp := tp) (tn := tn) (he := he) (ft := ft) (vl := vl) (bt := bt) (lg := lg) (ce := ce) (bw := bw) (a := a) (hb := (by omega))) gX9_meet_X9_is rfl hdX9_is ⟨rfl, rfl, Nat.le_of_ble_eq_true rfl, Nat.le_of_ble_eq_true rfl⟩ rfl rfl (Nat.le_of_ble_eq_true rfl) ⟨Nat.zero_le _, Nat.zero_le _⟩ rfl rfl dX9_meet_49) (fun r_29 u_31 e_30 => ?_)
          have e_30 : r_29 = jI (fB (hrs w n) x 1) := e_30
          subst e_30
          refine v_world (ws' := (wR cI cL a (hrs w n) kp bf w ik fd sp lt tp tn he ft vl bt lg ce bw)) rfl ?_
          refine v_aload_n (j := 1) (x := a 0) G dX9_meet_52 rfl rfl ?_
          refine v_iload_n (j := 3) (x := jI y) G dX9_meet_53 rfl rfl ?_
          refine v_iconst G dX9_meet_54 ?_
          refine v_ciF G (rn_V (As := [.int (jI y), .int (jI 1)]) (rest := [.int (jI (fB (hrs w n) x 1))]) (q0 := 0) G (c_X9_is (b := y) (k := 1) (w := (hrs w n)) (kp := kp) (bf := bf) (ah := w) (ik := ik) (fd := fd) (sp := sp) (lt := lt) (tp := tp) (tn := tn) (he := he) (ft := ft) (vl := vl) (bt := bt) (lg := lg) (ce := ce) (bw := bw) (a := a) (hb := (by omega))) gX9_meet_X9_is rfl hdX9_is ⟨rfl, rfl, Nat.le_of_ble_eq_true rfl, Nat.le_of_ble_eq_true rfl⟩ rfl rfl (Nat.le_of_ble_eq_true rfl) ⟨Nat.zero_le _, Nat.zero_le _⟩ rfl rfl dX9_meet_55) (fun r_32 u_34 e_33 => ?_)
          have e_33 : r_32 = jI (fB (hrs w n) y 1) := e_33
          subst e_33
          refine v_world (ws' := (wR cI cL a (hrs w n) kp bf w ik fd sp lt tp tn he ft vl bt lg ce bw)) rfl ?_
          refine v_icmp_eq (a := fB (hrs w n) x 1) (b := fB (hrs w n) y 1) (tgt := 71) G dX9_meet_58 (by decide) (by omega) (fun c_35 => ?_) (fun c_35 => ?_)
          · skip
            have hres : lstN (fun q_ => fB (hrs w q_) x 1 = fB (hrs w q_) y 1) 101 0 = n := by first | exact lst_o hz (by omega) | exact lst_i hz (by omega) (by assumption)
            refine v_aload_n (j := 1) (x := a 0) G dX9_meet_71 rfl rfl ?_
            refine v_get (q0 := 0) (k := 3) (v := .ref (a 4)) G k_X9 rfl rfl (by decide) q_2 rfl rfl dX9_meet_72 ?_
            refine v_aload_n (j := 1) (x := a 0) G dX9_meet_75 rfl rfl ?_
            refine v_get (q0 := 0) (k := 0) (v := .ref (a 1)) G k_X9 rfl rfl (by decide) q_1 rfl rfl dX9_meet_76 ?_
            refine v_cvF G (rn_S (As := [.ref (a 4), .ref (a 1)]) (rest := []) G (c_X9_lay_ah_w (w := (hrs w n)) (kp := kp) (bf := bf) (ah := w) (ik := ik) (fd := fd) (sp := sp) (lt := lt) (tp := tp) (tn := tn) (he := he) (ft := ft) (vl := vl) (bt := bt) (lg := lg) (ce := ce) (bw := bw) (a := a) ) gX9_meet_X9_lay rfl hdX9_lay ⟨rfl, rfl, Nat.le_of_ble_eq_true rfl, Nat.le_of_ble_eq_true rfl⟩ rfl rfl (Nat.le_of_ble_eq_true rfl) ⟨Nat.zero_le _, Nat.zero_le _⟩ dX9_meet_79) (fun u_38 e_37 => ?_)
            refine v_world (ws' := (wR cI cL a w kp bf w ik fd sp lt tp tn he ft vl bt lg ce bw)) rfl ?_
            refine v_iload_n (j := 0) (x := jI (n : Int)) G dX9_meet_82 rfl rfl ?_
            refine v_bipush G dX9_meet_83 (by decide) ?_
            refine v_icmp_gt (a := (n : Int)) (b := 100) (tgt := 92) G dX9_meet_85 (by decide) (by omega) (fun c_39 => ?_) (fun c_39 => ?_)
            · skip
              refine v_aload_n (j := 1) (x := a 0) G dX9_meet_92 rfl rfl ?_
              refine v_iconst G dX9_meet_93 ?_
              refine v_ciF G (rn_V (As := [.int (jI 3)]) (rest := []) (q0 := 0) G (c_X9_no (k := 3) (w := w) (kp := kp) (bf := bf) (ah := w) (ik := ik) (fd := fd) (sp := sp) (lt := lt) (tp := tp) (tn := tn) (he := he) (ft := ft) (vl := vl) (bt := bt) (lg := lg) (ce := ce) (bw := bw) (a := a) (hk := (by omega))) gX9_meet_X9_no rfl hdX9_no ⟨rfl, rfl, Nat.le_of_ble_eq_true rfl, Nat.le_of_ble_eq_true rfl⟩ rfl rfl (Nat.le_of_ble_eq_true rfl) ⟨Nat.zero_le _, Nat.zero_le _⟩ rfl rfl dX9_meet_94) (fun r_40 u_42 e_41 => ?_)
              have e_41 : r_40 = jI ((-1000000001) - 3) := e_41
              subst e_41
              refine v_world (ws' := (wR cI cL a w kp bf w ik (uI fd 3 (fd 3 + 1)) sp lt tp tn he ft vl bt lg ce bw)) rfl ?_
              exact v_iret G (uI fd 3 (fd 3 + 1), w) (by first | exact Or.inl ⟨(by omega), (by first | rfl | exact congrArg jI (by omega)), rfl⟩ | exact Or.inr (Or.inl ⟨(by omega), (by first | rfl | exact congrArg jI (by omega)), rfl⟩) | exact Or.inr (Or.inr ⟨(by omega), (by first | rfl | exact congrArg jI (by omega)), rfl⟩)) rfl dX9_meet_97
            · skip
              refine v_iload_n (j := 0) (x := jI (n : Int)) G dX9_meet_88 rfl rfl ?_
              refine v_goto (tgt := 97) G dX9_meet_89 (by decide) ?_
              exact v_iret G (fd, w) (by first | exact Or.inl ⟨(by omega), (by first | rfl | exact congrArg jI (by omega)), rfl⟩ | exact Or.inr (Or.inl ⟨(by omega), (by first | rfl | exact congrArg jI (by omega)), rfl⟩) | exact Or.inr (Or.inr ⟨(by omega), (by first | rfl | exact congrArg jI (by omega)), rfl⟩)) rfl dX9_meet_97
          · skip
            refine v_aload_n (j := 1) (x := a 0) G dX9_meet_61 rfl rfl ?_
            refine v_cvF G (rn_V (As := []) (rest := []) (q0 := 0) G (c_X9_hour (w := (hrs w n)) (kp := kp) (bf := bf) (ah := w) (ik := ik) (fd := fd) (sp := sp) (lt := lt) (tp := tp) (tn := tn) (he := he) (ft := ft) (vl := vl) (bt := bt) (lg := lg) (ce := ce) (bw := bw) (a := a) (hw := i1) (h0 := (by omega))) gX9_meet_X9_hour rfl hdX9_hour ⟨rfl, rfl, Nat.le_of_ble_eq_true rfl, Nat.le_of_ble_eq_true rfl⟩ rfl rfl (Nat.le_of_ble_eq_true rfl) ⟨Nat.zero_le _, Nat.zero_le _⟩ rfl rfl dX9_meet_62) (fun u_45 e_44 => ?_)
            refine v_world (ws' := (wR cI cL a (sHr (hrs w n)) kp bf w ik fd sp lt tp tn he ft vl bt lg ce bw)) rfl ?_
            refine v_world (ws' := (wR cI cL a (hrs w (n + 1)) kp bf w ik fd sp lt tp tn he ft vl bt lg ce bw)) rfl ?_
            refine v_iinc (k := 0) (z := (n : Int)) (z' := ((n + 1 : Nat) : Int)) (lv' := [(3, .int (jI ((n + 1 : Nat) : Int))), (0, .ref (a 0)), (1, .int (jI x)), (2, .int (jI y))]) G dX9_meet_65 rfl (by omega) (by decide) rfl ?_
            refine v_goto (tgt := 40) G dX9_meet_68 (by decide) ?_
            exact ih_20 (n + 1) ⟨by omega, lst_s (by omega) (by assumption) I_19.2⟩ (by omega)
      · skip
        refine v_aload_n (j := 0) (x := a 0) G dX9_meet_21 rfl rfl ?_
        refine v_iconst G dX9_meet_22 ?_
        refine v_ciF G (rn_V (As := [.int (jI 0)]) (rest := []) (q0 := 0) G (c_X9_no (k := 0) (w := w) (kp := kp) (bf := bf) (ah := ah) (ik := ik) (fd := fd) (sp := sp) (lt := lt) (tp := tp) (tn := tn) (he := he) (ft := ft) (vl := vl) (bt := bt) (lg := lg) (ce := ce) (bw := bw) (a := a) (hk := (by omega))) gX9_meet_X9_no rfl hdX9_no ⟨rfl, rfl, Nat.le_of_ble_eq_true rfl, Nat.le_of_ble_eq_true rfl⟩ rfl rfl (Nat.le_of_ble_eq_true rfl) ⟨Nat.zero_le _, Nat.zero_le _⟩ rfl rfl dX9_meet_23) (fun r_46 u_48 e_47 => ?_)
        have e_47 : r_46 = jI ((-1000000001) - 0) := e_47
        subst e_47
        refine v_world (ws' := (wR cI cL a w kp bf ah ik (uI fd 0 (fd 0 + 1)) sp lt tp tn he ft vl bt lg ce bw)) rfl ?_
        exact v_iret G (uI fd 0 (fd 0 + 1), ah) (by first | exact Or.inl ⟨(by omega), (by first | rfl | exact congrArg jI (by omega)), rfl⟩ | exact Or.inr (Or.inl ⟨(by omega), (by first | rfl | exact congrArg jI (by omega)), rfl⟩) | exact Or.inr (Or.inr ⟨(by omega), (by first | rfl | exact congrArg jI (by omega)), rfl⟩)) rfl dX9_meet_26
end

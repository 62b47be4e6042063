/-! the reference's night -/
noncomputable def nmU (mo : Prop) (m : Nat) : Nat := @ite Nat mo (Classical.propDecidable mo) (2 * (121 - m) + 1) (2 * (121 - m))
theorem nmU_lt {mo mo2 : Prop} {m : Nat} (hm : m < 121) (h : mo) : nmU mo2 (m + 1) < nmU mo m := by
  have e : nmU mo m = 2 * (121 - m) + 1 := if_pos h
  have e2 : nmU mo2 (m + 1) ≤ 2 * (121 - (m + 1)) + 1 := by unfold nmU; split <;> omega
  omega
theorem ngR_b {B : Int → Int} {n q : Int} {m : Nat} {y : Int → Int} {Z : Int × Int × (Int → Int)} (hB : Bk B n) (hq : Qk B n q) (hm : (m : Int) ≤ q) (hz : ngR B n (120 - m) (m : Int) q y = Z) (h : ¬ (itm B n (y 1) (y 2) q).1 = 1) : Z.1 = 0 ∧ Z.2.1 = (itm B n (y 1) (y 2) q).2.1 := by
  have h1 := hB.1
  have h2 := hq.1
  by_cases c : m < 120
  · rw [← hz, ngR_f c h]
    exact ⟨rfl, rfl⟩
  · have e : m = 120 := by omega
    subst e
    have c17 : cd B n q = 17 := cd_17.mpr (by omega)
    rw [← hz, ngR_z, itm_x (by omega) (by omega)]
    exact ⟨rfl, rfl⟩
section
variable {l : Launch} {D : va_G} {cI cL cB cS : ClassId} {a : Nat → Nat} {w kp bf ah fd sp lt tp bt lg : Int → Int} {ik tn he ft vz : Int} {ce bw : Int → Int64}
set_option maxHeartbeats 4000000 in
set_option maxRecDepth 100000 in
theorem c_X9_night  (ht : Tr tp tn) (hw : Wf w) : Ci l yX9_night wsX9_night { frames := 10, cells := 0, slots := 0, locals := 220 } D (jT cI cL cB cS) [.ref (a 0)] (wR cI cL a w kp bf ah ik fd sp lt tp tn he ft vz bt lg ce bw) (S := (Int → Int) × Int × Int × Int × (Int → Int)) (fun (u : (Int → Int) × Int × Int × Int × (Int → Int)) => (wR cI cL a u.2.2.2.2 kp u.1 ah ik fd sp lt tp 0 u.2.1 u.2.2.1 u.2.2.2.1 bt lg ce bw)) (fun r (u : (Int → Int) × Int × Int × Int × (Int → Int)) => (0 < (ngR (bB tp tn) tn 120 0 (sk (bB tp tn) 0) w).1 ∧ r = jI (ngR (bB tp tn) tn 120 0 (sk (bB tp tn) 0) w).1 ∧ u.2.2.2.2 = (ngR (bB tp tn) tn 120 0 (sk (bB tp tn) 0) w).2.2 ∧ Wf u.2.2.2.2) ∨ ((ngR (bB tp tn) tn 120 0 (sk (bB tp tn) 0) w).1 = 0 ∧ r = jI (-1 - (ngR (bB tp tn) tn 120 0 (sk (bB tp tn) 0) w).2.1) ∧ u.2.2.2.2 = w)) := by
  refine Ci.mk (cc := cX9_night) (maxL := 3) (rt := .int) (by decide) rfl (Nat.le_of_ble_eq_true rfl) rfl ?_
  intro p_ e_ s_ m_ b_ me_ c_ A_ G hnm
  have hn := ht.1
  have hB := Tr_k ht
  have hZ0 := ngR_0 (B := (bB tp tn)) (n := tn) (x := w)
  generalize ngR (bB tp tn) tn 120 0 (sk (bB tp tn) 0) w = Z at hZ0 ⊢
  have k_X9 : ∀ w ∈ u_ws RX9 TX9 17, w ∈ wsX9_night := fun _ h => List.mem_cons_of_mem _ (List.mem_append_right _ h)
  have q_1 : Cond.fieldLink RX9 174 "SupperLightModel" "here" "I" ∈ wsX9_night := List.mem_of_getElem? (i := 1) rfl
  have q_2 : Cond.fieldLink RX9 180 "SupperLightModel" "fault" "I" ∈ wsX9_night := List.mem_of_getElem? (i := 2) rfl
  have q_3 : Cond.fieldLink RX9 9 "SupperLightModel" "s" "[I" ∈ wsX9_night := List.mem_of_getElem? (i := 3) rfl
  have q_4 : Cond.fieldLink RX9 16 "SupperLightModel" "before" "[I" ∈ wsX9_night := List.mem_of_getElem? (i := 4) rfl
  have q_5 : Cond.fieldLink RX9 170 "SupperLightModel" "taped" "I" ∈ wsX9_night := List.mem_of_getElem? (i := 5) rfl
  refine v_aload_n (j := 0) (x := a 0) G dX9_night_0 rfl rfl ?_
  refine v_iconst G dX9_night_1 ?_
  refine v_put (q0 := 0) (k := 10) (ty := .int) (ws' := (wR cI cL a w kp bf ah ik fd sp lt tp tn 0 ft vz bt lg ce bw)) G k_X9 tyX9 tyX9_ok nmX9 rfl rfl (by decide) q_1 rfl rfl rfl rfl rfl (Nat.le_of_ble_eq_true rfl) rfl dX9_night_2 ?_
  refine v_aload_n (j := 0) (x := a 0) G dX9_night_5 rfl rfl ?_
  refine v_iconst G dX9_night_6 ?_
  refine v_put (q0 := 0) (k := 11) (ty := .int) (ws' := (wR cI cL a w kp bf ah ik fd sp lt tp tn 0 (-1) vz bt lg ce bw)) G k_X9 tyX9 tyX9_ok nmX9 rfl rfl (by decide) q_2 rfl rfl rfl rfl rfl (Nat.le_of_ble_eq_true rfl) rfl dX9_night_7 ?_
  refine v_aload_n (j := 0) (x := a 0) G dX9_night_10 rfl rfl ?_
  refine v_get (q0 := 0) (k := 0) (v := .ref (a 1)) G k_X9 rfl rfl (by decide) q_3 rfl rfl dX9_night_11 ?_
  refine v_aload_n (j := 0) (x := a 0) G dX9_night_14 rfl rfl ?_
  refine v_get (q0 := 0) (k := 2) (v := .ref (a 3)) G k_X9 rfl rfl (by decide) q_4 rfl rfl dX9_night_15 ?_
  refine v_cvF G (rn_S (As := [.ref (a 1), .ref (a 3)]) (rest := []) G (c_X9_lay_w_bf (w := w) (kp := kp) (bf := bf) (ah := ah) (ik := ik) (fd := fd) (sp := sp) (lt := lt) (tp := tp) (tn := tn) (he := 0) (ft := (-1)) (vl := vz) (bt := bt) (lg := lg) (ce := ce) (bw := bw) (a := a) ) gX9_night_X9_lay rfl hdX9_lay ⟨rfl, rfl, Nat.le_of_ble_eq_true rfl, Nat.le_of_ble_eq_true rfl⟩ rfl rfl (Nat.le_of_ble_eq_true rfl) ⟨Nat.zero_le _, Nat.zero_le _⟩ dX9_night_18) (fun u_3 e_2 => ?_)
  refine v_world (ws' := (wR cI cL a w kp w ah ik fd sp lt tp tn 0 (-1) vz bt lg ce bw)) rfl ?_
  refine v_iconst G dX9_night_21 ?_
  refine v_istore_n (lv' := [(1, .int (jI 0)), (0, .ref (a 0))]) G dX9_night_22 rfl (by decide) rfl ?_
  refine v_iconst G dX9_night_23 ?_
  refine v_istore_n (lv' := [(2, .int (jI 1)), (1, .int (jI 0)), (0, .ref (a 0))]) G dX9_night_24 rfl (by decide) rfl ?_
  refine v_eqs (lv' := [(2, .int (jI (b2 True))), (1, .int (jI 0)), (0, .ref (a 0))]) (by rw [b2_t trivial]) rfl rfl ?_
  refine v_locs (lv' := [(1, .int (jI 0)), (2, .int (jI (b2 True))), (0, .ref (a 0))]) [1, 0, 2] rfl ?_
  refine v_loop5 (fun (m : Nat) (h : Int) (v : Int) (y : Int → Int) (mo : Prop) => [(1, .int (jI (m : Int))), (2, .int (jI (b2 mo))), (0, .ref (a 0))]) (fun (m : Nat) (h : Int) (v : Int) (y : Int → Int) (mo : Prop) => (wR cI cL a y kp w ah ik fd sp lt tp tn h (-1) v bt lg ce bw)) (fun (m : Nat) (h : Int) (v : Int) (y : Int → Int) (mo : Prop) => (0 ≤ h ∧ h ≤ tn) ∧ Wf y ∧ ((mo ∧ (m : Int) ≤ sk (bB tp tn) h ∧ ngR (bB tp tn) tn (120 - m) (m : Int) (sk (bB tp tn) h) y = Z) ∨ (¬ mo ∧ (1 ≤ m ∧ m ≤ 120) ∧ (h < tn → Z.1 = 0 ∧ Z.2.1 = h) ∧ (tn ≤ h → Z = ((m : Int), h, y))))) (fun (m : Nat) (h : Int) (v : Int) (y : Int → Int) (mo : Prop) => nmU mo m) 0 0 vz w True ⟨by omega, hw, Or.inl ⟨trivial, by have e9 := (sk_p hB (p := 0) (by omega)).1; show ((0 : Nat) : Int) ≤ sk (bB tp tn) 0; omega, hZ0⟩⟩ rfl rfl ?_
  intro m h v y mo I_4 ih_5
  have hI := id I_4
  obtain ⟨hhh, hwy, -⟩ := id hI
  have hqh : Qk (bB tp tn) tn (sk (bB tp tn) h) := (by obtain ⟨u1, u2, -, u4⟩ := sk_p hB hhh; exact ⟨⟨by omega, u2⟩, u4⟩)
  have hqr := hqh.1
  have hmm : (m : Int) ≤ 120 := hI.2.2.elim (fun z_ => by have e9 := z_.2.1; omega) (fun z_ => by have e9 := z_.2.1; omega)
  refine v_iload_n (j := 1) (x := jI (b2 mo)) G dX9_night_25 rfl rfl ?_
  refine v_ifb_eq (P := mo) (tgt := 83) G dX9_night_26 (by decide) (fun c_6 => ?_) (fun c_6 => ?_)
  · skip
    have hfin := hI.2.2.elim (fun z_ => absurd z_.1 (by assumption)) id
    refine v_aload_n (j := 2) (x := a 0) G dX9_night_83 rfl rfl ?_
    refine v_get (q0 := 0) (k := 11) (v := .int (jI (-1))) G k_X9 rfl rfl (by decide) q_2 rfl rfl dX9_night_84 ?_
    refine v_if_ge (a := (-1)) (tgt := 106) G dX9_night_87 (by decide) (by omega) (fun c_7 => ?_) (fun c_7 => ?_)
    · skip
      exfalso; omega
    · skip
      refine v_aload_n (j := 2) (x := a 0) G dX9_night_90 rfl rfl ?_
      refine v_get (q0 := 0) (k := 10) (v := .int (jI h)) G k_X9 rfl rfl (by decide) q_1 rfl rfl dX9_night_91 ?_
      refine v_aload_n (j := 2) (x := a 0) G dX9_night_94 rfl rfl ?_
      refine v_get (q0 := 0) (k := 9) (v := .int (jI tn)) G k_X9 rfl rfl (by decide) q_5 rfl rfl dX9_night_95 ?_
      refine v_icmp_ge (a := h) (b := tn) (tgt := 106) G dX9_night_98 (by decide) (by omega) (fun c_8 => ?_) (fun c_8 => ?_)
      · skip
        refine v_aload_n (j := 2) (x := a 0) G dX9_night_106 rfl rfl ?_
        refine v_iconst G dX9_night_107 ?_
        refine v_put (q0 := 0) (k := 9) (ty := .int) (ws' := (wR cI cL a y kp w ah ik fd sp lt tp 0 h (-1) v bt lg ce bw)) G k_X9 tyX9 tyX9_ok nmX9 rfl rfl (by decide) q_5 rfl rfl rfl rfl rfl (Nat.le_of_ble_eq_true rfl) rfl dX9_night_108 ?_
        refine v_aload_n (j := 2) (x := a 0) G dX9_night_111 rfl rfl ?_
        refine v_get (q0 := 0) (k := 11) (v := .int (jI (-1))) G k_X9 rfl rfl (by decide) q_2 rfl rfl dX9_night_112 ?_
        refine v_if_lt (a := (-1)) (tgt := 136) G dX9_night_115 (by decide) (by omega) (fun c_9 => ?_) (fun c_9 => ?_)
        · skip
          refine v_iload_n (j := 0) (x := jI (m : Int)) G dX9_night_136 rfl rfl ?_
          exact v_iret G (w, h, (-1), v, y) (by have hz9 := hfin.2.2.2 (by omega); exact Or.inl ⟨by rw [hz9]; show 0 < (m : Int); omega, by rw [hz9], by rw [hz9], hwy⟩) rfl dX9_night_137
        · skip
          exfalso; omega
      · skip
        refine v_aload_n (j := 2) (x := a 0) G dX9_night_101 rfl rfl ?_
        refine v_ciF G (rn_V (As := []) (rest := []) (q0 := 0) G (c_X9_fails (w := y) (kp := kp) (bf := w) (ah := ah) (ik := ik) (fd := fd) (sp := sp) (lt := lt) (tp := tp) (tn := tn) (he := h) (ft := (-1)) (vz := v) (bt := bt) (lg := lg) (ce := ce) (bw := bw) (a := a) (hh := hhh) (hf := rfl)) gX9_night_X9_fails rfl hdX9_fails ⟨rfl, rfl, Nat.le_of_ble_eq_true rfl, Nat.le_of_ble_eq_true rfl⟩ rfl rfl (Nat.le_of_ble_eq_true rfl) ⟨Nat.zero_le _, Nat.zero_le _⟩ rfl rfl dX9_night_102) (fun r_10 u_12 e_11 => ?_)
        have e_11 : r_10 = jI 0 := e_11
        subst e_11
        refine v_world (ws' := (wR cI cL a y kp w ah ik fd sp lt tp tn h h v bt lg ce bw)) rfl ?_
        refine v_pop G dX9_night_105 rfl ?_
        refine v_aload_n (j := 2) (x := a 0) G dX9_night_106 rfl rfl ?_
        refine v_iconst G dX9_night_107 ?_
        refine v_put (q0 := 0) (k := 9) (ty := .int) (ws' := (wR cI cL a y kp w ah ik fd sp lt tp 0 h h v bt lg ce bw)) G k_X9 tyX9 tyX9_ok nmX9 rfl rfl (by decide) q_5 rfl rfl rfl rfl rfl (Nat.le_of_ble_eq_true rfl) rfl dX9_night_108 ?_
        refine v_aload_n (j := 2) (x := a 0) G dX9_night_111 rfl rfl ?_
        refine v_get (q0 := 0) (k := 11) (v := .int (jI h)) G k_X9 rfl rfl (by decide) q_2 rfl rfl dX9_night_112 ?_
        refine v_if_lt (a := h) (tgt := 136) G dX9_night_115 (by decide) (by omega) (fun c_13 => ?_) (fun c_13 => ?_)
        · skip
          refine v_iload_n (j := 0) (x := jI (m : Int)) G dX9_night_136 rfl rfl ?_
          exact v_iret G (w, h, h, v, y) (by have hz9 := hfin.2.2.2 (by omega); exact Or.inl ⟨by rw [hz9]; show 0 < (m : Int); omega, by rw [hz9], by rw [hz9], hwy⟩) rfl dX9_night_137
        · skip
          refine v_aload_n (j := 2) (x := a 0) G dX9_night_118 rfl rfl ?_
          refine v_get (q0 := 0) (k := 2) (v := .ref (a 3)) G k_X9 rfl rfl (by decide) q_4 rfl rfl dX9_night_119 ?_
          refine v_aload_n (j := 2) (x := a 0) G dX9_night_122 rfl rfl ?_
          refine v_get (q0 := 0) (k := 0) (v := .ref (a 1)) G k_X9 rfl rfl (by decide) q_3 rfl rfl dX9_night_123 ?_
          refine v_cvF G (rn_S (As := [.ref (a 3), .ref (a 1)]) (rest := []) G (c_X9_lay_bf_w (w := y) (kp := kp) (bf := w) (ah := ah) (ik := ik) (fd := fd) (sp := sp) (lt := lt) (tp := tp) (tn := 0) (he := h) (ft := h) (vl := v) (bt := bt) (lg := lg) (ce := ce) (bw := bw) (a := a) ) gX9_night_X9_lay rfl hdX9_lay ⟨rfl, rfl, Nat.le_of_ble_eq_true rfl, Nat.le_of_ble_eq_true rfl⟩ rfl rfl (Nat.le_of_ble_eq_true rfl) ⟨Nat.zero_le _, Nat.zero_le _⟩ dX9_night_126) (fun u_16 e_15 => ?_)
          refine v_world (ws' := (wR cI cL a w kp w ah ik fd sp lt tp 0 h h v bt lg ce bw)) rfl ?_
          refine v_iconst G dX9_night_129 ?_
          refine v_aload_n (j := 2) (x := a 0) G dX9_night_130 rfl rfl ?_
          refine v_get (q0 := 0) (k := 11) (v := .int (jI h)) G k_X9 rfl rfl (by decide) q_2 rfl rfl dX9_night_131 ?_
          refine v_isub (z := (-1) - h) G dX9_night_134 rfl ?_
          exact v_iret G (w, h, h, v, w) (Or.inr ⟨(hfin.2.2.1 (by omega)).1, congrArg jI (by rw [(hfin.2.2.1 (by omega)).2]), rfl⟩) rfl dX9_night_135
  · skip
    refine v_aload_n (j := 2) (x := a 0) G dX9_night_29 rfl rfl ?_
    refine v_ciF G (rn_V (As := []) (rest := []) (q0 := 0) G (c_X9_item (w := y) (kp := kp) (bf := w) (ah := ah) (ik := ik) (fd := fd) (sp := sp) (lt := lt) (tp := tp) (tn := tn) (he := h) (ft := (-1)) (vz := v) (bt := bt) (lg := lg) (ce := ce) (bw := bw) (a := a) (q := sk (bB tp tn) h) (ht := ht) (hh := hhh) (hf := rfl) (hq := rfl) (hw := hwy)) gX9_night_X9_item rfl hdX9_item ⟨rfl, rfl, Nat.le_of_ble_eq_true rfl, Nat.le_of_ble_eq_true rfl⟩ rfl rfl (Nat.le_of_ble_eq_true rfl) ⟨Nat.zero_le _, Nat.zero_le _⟩ rfl rfl dX9_night_30) (fun r_21 u_23 e_22 => ?_)
    obtain ⟨he2_17, ft2_18, vl2_19, w2_20⟩ := u_23
    have e_22 : r_21 = jI (b2 ((itm (bB tp tn) tn (y 1) (y 2) (sk (bB tp tn) h)).1 = 1)) ∧ (0 ≤ he2_17 ∧ he2_17 ≤ tn) ∧ ((itm (bB tp tn) tn (y 1) (y 2) (sk (bB tp tn) h)).1 = 1 → ft2_18 = -1 ∧ sk (bB tp tn) he2_17 = (itm (bB tp tn) tn (y 1) (y 2) (sk (bB tp tn) h)).2.1 ∧ w2_20 = apR y (itm (bB tp tn) tn (y 1) (y 2) (sk (bB tp tn) h)).2.2) ∧ (¬ (itm (bB tp tn) tn (y 1) (y 2) (sk (bB tp tn) h)).1 = 1 → ft2_18 = (itm (bB tp tn) tn (y 1) (y 2) (sk (bB tp tn) h)).2.1) := e_22
    obtain ⟨e_220, e_22f⟩ := e_22
    subst e_220
    refine v_world (ws' := (wR cI cL a w2_20 kp w ah ik fd sp lt tp tn he2_17 ft2_18 vl2_19 bt lg ce bw)) rfl ?_
    refine v_ifb_eq (P := (itm (bB tp tn) tn (y 1) (y 2) (sk (bB tp tn) h)).1 = 1) (tgt := 83) G dX9_night_33 (by decide) (fun c_24 => ?_) (fun c_24 => ?_)
    · skip
      have hit := itm_k (nb := y 1) (nt := y 2) hB hqh hwy.many.2
      have hip := hit.2.1.1.1
      have hff := e_22f.2.2 (by assumption)
      have hmo : mo ∧ (m : Int) ≤ sk (bB tp tn) h ∧ ngR (bB tp tn) tn (120 - m) (m : Int) (sk (bB tp tn) h) y = Z := hI.2.2.elim id (fun z_ => absurd (by assumption) z_.1)
      have hzf : Z.1 = 0 ∧ Z.2.1 = (itm (bB tp tn) tn (y 1) (y 2) (sk (bB tp tn) h)).2.1 := ngR_b hB hqh hmo.2.1 hmo.2.2 (by assumption)
      refine v_aload_n (j := 2) (x := a 0) G dX9_night_83 rfl rfl ?_
      refine v_get (q0 := 0) (k := 11) (v := .int (jI ft2_18)) G k_X9 rfl rfl (by decide) q_2 rfl rfl dX9_night_84 ?_
      refine v_if_ge (a := ft2_18) (tgt := 106) G dX9_night_87 (by decide) (by omega) (fun c_25 => ?_) (fun c_25 => ?_)
      · skip
        refine v_aload_n (j := 2) (x := a 0) G dX9_night_106 rfl rfl ?_
        refine v_iconst G dX9_night_107 ?_
        refine v_put (q0 := 0) (k := 9) (ty := .int) (ws' := (wR cI cL a w2_20 kp w ah ik fd sp lt tp 0 he2_17 ft2_18 vl2_19 bt lg ce bw)) G k_X9 tyX9 tyX9_ok nmX9 rfl rfl (by decide) q_5 rfl rfl rfl rfl rfl (Nat.le_of_ble_eq_true rfl) rfl dX9_night_108 ?_
        refine v_aload_n (j := 2) (x := a 0) G dX9_night_111 rfl rfl ?_
        refine v_get (q0 := 0) (k := 11) (v := .int (jI ft2_18)) G k_X9 rfl rfl (by decide) q_2 rfl rfl dX9_night_112 ?_
        refine v_if_lt (a := ft2_18) (tgt := 136) G dX9_night_115 (by decide) (by omega) (fun c_26 => ?_) (fun c_26 => ?_)
        · skip
          exfalso; omega
        · skip
          refine v_aload_n (j := 2) (x := a 0) G dX9_night_118 rfl rfl ?_
          refine v_get (q0 := 0) (k := 2) (v := .ref (a 3)) G k_X9 rfl rfl (by decide) q_4 rfl rfl dX9_night_119 ?_
          refine v_aload_n (j := 2) (x := a 0) G dX9_night_122 rfl rfl ?_
          refine v_get (q0 := 0) (k := 0) (v := .ref (a 1)) G k_X9 rfl rfl (by decide) q_3 rfl rfl dX9_night_123 ?_
          refine v_cvF G (rn_S (As := [.ref (a 3), .ref (a 1)]) (rest := []) G (c_X9_lay_bf_w (w := w2_20) (kp := kp) (bf := w) (ah := ah) (ik := ik) (fd := fd) (sp := sp) (lt := lt) (tp := tp) (tn := 0) (he := he2_17) (ft := ft2_18) (vl := vl2_19) (bt := bt) (lg := lg) (ce := ce) (bw := bw) (a := a) ) gX9_night_X9_lay rfl hdX9_lay ⟨rfl, rfl, Nat.le_of_ble_eq_true rfl, Nat.le_of_ble_eq_true rfl⟩ rfl rfl (Nat.le_of_ble_eq_true rfl) ⟨Nat.zero_le _, Nat.zero_le _⟩ dX9_night_126) (fun u_29 e_28 => ?_)
          refine v_world (ws' := (wR cI cL a w kp w ah ik fd sp lt tp 0 he2_17 ft2_18 vl2_19 bt lg ce bw)) rfl ?_
          refine v_iconst G dX9_night_129 ?_
          refine v_aload_n (j := 2) (x := a 0) G dX9_night_130 rfl rfl ?_
          refine v_get (q0 := 0) (k := 11) (v := .int (jI ft2_18)) G k_X9 rfl rfl (by decide) q_2 rfl rfl dX9_night_131 ?_
          refine v_isub (z := (-1) - ft2_18) G dX9_night_134 rfl ?_
          exact v_iret G (w, he2_17, ft2_18, vl2_19, w) (Or.inr ⟨hzf.1, congrArg jI (by rw [hzf.2, e_22f.2.2 (by assumption)]), rfl⟩) rfl dX9_night_135
      · skip
        exfalso; omega
    · skip
      have hok := e_22f.2.1 (by assumption)
      have hmo : mo ∧ (m : Int) ≤ sk (bB tp tn) h ∧ ngR (bB tp tn) tn (120 - m) (m : Int) (sk (bB tp tn) h) y = Z := hI.2.2.elim id (fun z_ => absurd (by assumption) z_.1)
      have hit := itm_k (nb := y 1) (nt := y 2) hB hqh hwy.many.2
      have hit2 := hit.2.2 (by assumption)
      have hip := hit.2.1.1.1
      have hwy2 : Wf w2_20 := (by rw [hok.2.2]; exact hwy.ap hit2.2.1 hit2.2.2.1 hit2.2.2.2)
      refine v_iinc (k := 0) (z := (m : Int)) (z' := ((m + 1 : Nat) : Int)) (lv' := [(1, .int (jI ((m + 1 : Nat) : Int))), (2, .int (jI (b2 mo))), (0, .ref (a 0))]) G dX9_night_36 rfl (by omega) (by decide) rfl ?_
      refine v_aload_n (j := 2) (x := a 0) G dX9_night_39 rfl rfl ?_
      refine v_cvF G (rn_V (As := []) (rest := []) (q0 := 0) G (c_X9_blanks (w := w2_20) (kp := kp) (bf := w) (ah := ah) (ik := ik) (fd := fd) (sp := sp) (lt := lt) (tp := tp) (tn := tn) (he := he2_17) (ft := ft2_18) (vz := vl2_19) (bt := bt) (lg := lg) (ce := ce) (bw := bw) (a := a) (ht := ht) (hh := e_22f.1)) gX9_night_X9_blanks rfl hdX9_blanks ⟨rfl, rfl, Nat.le_of_ble_eq_true rfl, Nat.le_of_ble_eq_true rfl⟩ rfl rfl (Nat.le_of_ble_eq_true rfl) ⟨Nat.zero_le _, Nat.zero_le _⟩ rfl rfl dX9_night_40) (fun u_32 e_31 => ?_)
      refine v_world (ws' := (wR cI cL a w2_20 kp w ah ik fd sp lt tp tn (sk (bB tp tn) he2_17) ft2_18 vl2_19 bt lg ce bw)) rfl ?_
      refine v_world (ws' := (wR cI cL a w2_20 kp w ah ik fd sp lt tp tn ((itm (bB tp tn) tn (y 1) (y 2) (sk (bB tp tn) h)).2.1) (-1) vl2_19 bt lg ce bw)) (by rw [hok.2.1, hok.1]) ?_
      refine v_aload_n (j := 2) (x := a 0) G dX9_night_43 rfl rfl ?_
      refine v_aload_n (j := 2) (x := a 0) G dX9_night_44 rfl rfl ?_
      refine v_get (q0 := 0) (k := 10) (v := .int (jI ((itm (bB tp tn) tn (y 1) (y 2) (sk (bB tp tn) h)).2.1))) G k_X9 rfl rfl (by decide) q_1 rfl rfl dX9_night_45 ?_
      refine v_ciF G (rn_V (As := [.int (jI ((itm (bB tp tn) tn (y 1) (y 2) (sk (bB tp tn) h)).2.1))]) (rest := []) (q0 := 0) G (c_X9_byteAt (j := (itm (bB tp tn) tn (y 1) (y 2) (sk (bB tp tn) h)).2.1) (w := w2_20) (kp := kp) (bf := w) (ah := ah) (ik := ik) (fd := fd) (sp := sp) (lt := lt) (tp := tp) (tn := tn) (he := (itm (bB tp tn) tn (y 1) (y 2) (sk (bB tp tn) h)).2.1) (ft := (-1)) (vz := vl2_19) (bt := bt) (lg := lg) (ce := ce) (bw := bw) (a := a) (ht := ht) (hj := (by omega))) gX9_night_X9_byteAt rfl hdX9_byteAt ⟨rfl, rfl, Nat.le_of_ble_eq_true rfl, Nat.le_of_ble_eq_true rfl⟩ rfl rfl (Nat.le_of_ble_eq_true rfl) ⟨Nat.zero_le _, Nat.zero_le _⟩ rfl rfl dX9_night_48) (fun r_33 u_35 e_34 => ?_)
      have e_34 : r_33 = jI ((bB tp tn) ((itm (bB tp tn) tn (y 1) (y 2) (sk (bB tp tn) h)).2.1)) := e_34
      subst e_34
      refine v_world (ws' := (wR cI cL a w2_20 kp w ah ik fd sp lt tp tn ((itm (bB tp tn) tn (y 1) (y 2) (sk (bB tp tn) h)).2.1) (-1) vl2_19 bt lg ce bw)) rfl ?_
      have hbr := bB_r ht (itm (bB tp tn) tn (y 1) (y 2) (sk (bB tp tn) h)).2.1
      refine v_bipush G dX9_night_51 (by decide) ?_
      refine v_icmp_ne (a := (bB tp tn) ((itm (bB tp tn) tn (y 1) (y 2) (sk (bB tp tn) h)).2.1)) (b := 59) (tgt := 60) G dX9_night_53 (by decide) (by omega) (fun c_36 => ?_) (fun c_36 => ?_)
      · skip
        refine v_iconst G dX9_night_60 ?_
        refine v_istore_n (lv' := [(2, .int (jI 0)), (1, .int (jI ((m + 1 : Nat) : Int))), (0, .ref (a 0))]) G dX9_night_61 rfl (by decide) rfl ?_
        refine v_aload_n (j := 2) (x := a 0) G dX9_night_62 rfl rfl ?_
        refine v_dup G dX9_night_63 rfl ?_
        refine v_get (q0 := 0) (k := 10) (v := .int (jI ((itm (bB tp tn) tn (y 1) (y 2) (sk (bB tp tn) h)).2.1))) G k_X9 rfl rfl (by decide) q_1 rfl rfl dX9_night_64 ?_
        refine v_iload_n (j := 0) (x := jI 0) G dX9_night_67 rfl rfl ?_
        refine v_if_eq (a := 0) (tgt := 75) G dX9_night_68 (by decide) (by omega) (fun c_37 => ?_) (fun c_37 => ?_)
        · skip
          refine v_iconst G dX9_night_75 ?_
          refine v_iadd (z := ((itm (bB tp tn) tn (y 1) (y 2) (sk (bB tp tn) h)).2.1) + 0) G dX9_night_76 rfl ?_
          refine v_put (q0 := 0) (k := 10) (ty := .int) (ws' := (wR cI cL a w2_20 kp w ah ik fd sp lt tp tn (((itm (bB tp tn) tn (y 1) (y 2) (sk (bB tp tn) h)).2.1) + 0) (-1) vl2_19 bt lg ce bw)) G k_X9 tyX9 tyX9_ok nmX9 rfl rfl (by decide) q_1 rfl rfl rfl rfl rfl (Nat.le_of_ble_eq_true rfl) rfl dX9_night_77 ?_
          have hzx : (itm (bB tp tn) tn (y 1) (y 2) (sk (bB tp tn) h)).2.1 < tn → Z.1 = 0 ∧ Z.2.1 = ((itm (bB tp tn) tn (y 1) (y 2) (sk (bB tp tn) h)).2.1) + 0 := fun z_ => (by rw [← hmo.2.2, ngR_x (by omega) (by assumption) (fun z9 => by have e9 := cd_17.mp z9; omega) (fun z9 => absurd ((cd_16 hB).mp z9) (by assumption))]; exact ⟨rfl, by show (itm (bB tp tn) tn (y 1) (y 2) (sk (bB tp tn) h)).2.1 = ((itm (bB tp tn) tn (y 1) (y 2) (sk (bB tp tn) h)).2.1) + 0; omega⟩)
          have hze : tn ≤ (itm (bB tp tn) tn (y 1) (y 2) (sk (bB tp tn) h)).2.1 → Z = (((m + 1 : Nat) : Int), (itm (bB tp tn) tn (y 1) (y 2) (sk (bB tp tn) h)).2.1, apR y (itm (bB tp tn) tn (y 1) (y 2) (sk (bB tp tn) h)).2.2) := fun z_ => (by rw [← hmo.2.2, ngR_e (by omega) (by assumption) (cd_17.mpr z_)]; rfl)
          refine v_eqs (lv' := [(2, .int (jI (b2 False))), (1, .int (jI ((m + 1 : Nat) : Int))), (0, .ref (a 0))]) (by rw [b2_f id]) rfl rfl ?_
          refine v_goto (tgt := 25) G dX9_night_80 (by decide) ?_
          refine v_locs (lv' := [(1, .int (jI ((m + 1 : Nat) : Int))), (2, .int (jI (b2 False))), (0, .ref (a 0))]) [1, 0, 2] rfl ?_
          exact ih_5 (m + 1) (((itm (bB tp tn) tn (y 1) (y 2) (sk (bB tp tn) h)).2.1) + 0) vl2_19 w2_20 False ⟨by omega, hwy2, Or.inr ⟨id, by omega, fun z_ => hzx (by omega), fun z_ => by rw [show ((itm (bB tp tn) tn (y 1) (y 2) (sk (bB tp tn) h)).2.1) + 0 = (itm (bB tp tn) tn (y 1) (y 2) (sk (bB tp tn) h)).2.1 by omega, hok.2.2]; exact hze (by omega)⟩⟩ (nmU_lt (by omega) hmo.1)
        · skip
          exfalso; omega
      · skip
        refine v_iconst G dX9_night_56 ?_
        refine v_goto (tgt := 61) G dX9_night_57 (by decide) ?_
        refine v_istore_n (lv' := [(2, .int (jI 1)), (1, .int (jI ((m + 1 : Nat) : Int))), (0, .ref (a 0))]) G dX9_night_61 rfl (by decide) rfl ?_
        refine v_aload_n (j := 2) (x := a 0) G dX9_night_62 rfl rfl ?_
        refine v_dup G dX9_night_63 rfl ?_
        refine v_get (q0 := 0) (k := 10) (v := .int (jI ((itm (bB tp tn) tn (y 1) (y 2) (sk (bB tp tn) h)).2.1))) G k_X9 rfl rfl (by decide) q_1 rfl rfl dX9_night_64 ?_
        refine v_iload_n (j := 0) (x := jI 1) G dX9_night_67 rfl rfl ?_
        refine v_if_eq (a := 1) (tgt := 75) G dX9_night_68 (by decide) (by omega) (fun c_38 => ?_) (fun c_38 => ?_)
        · skip
          exfalso; omega
        · skip
          refine v_iconst G dX9_night_71 ?_
          refine v_goto (tgt := 76) G dX9_night_72 (by decide) ?_
          refine v_iadd (z := ((itm (bB tp tn) tn (y 1) (y 2) (sk (bB tp tn) h)).2.1) + 1) G dX9_night_76 rfl ?_
          refine v_put (q0 := 0) (k := 10) (ty := .int) (ws' := (wR cI cL a w2_20 kp w ah ik fd sp lt tp tn (((itm (bB tp tn) tn (y 1) (y 2) (sk (bB tp tn) h)).2.1) + 1) (-1) vl2_19 bt lg ce bw)) G k_X9 tyX9 tyX9_ok nmX9 rfl rfl (by decide) q_1 rfl rfl rfl rfl rfl (Nat.le_of_ble_eq_true rfl) rfl dX9_night_77 ?_
          have hlt9 := bB_n ht (j := (itm (bB tp tn) tn (y 1) (y 2) (sk (bB tp tn) h)).2.1)
          have hnx : sk (bB tp tn) (((itm (bB tp tn) tn (y 1) (y 2) (sk (bB tp tn) h)).2.1) + 1) = nx (bB tp tn) (itm (bB tp tn) tn (y 1) (y 2) (sk (bB tp tn) h)).2.1 := (by unfold nx; rw [te_o (by omega) (by omega)])
          refine v_eqs (lv' := [(2, .int (jI (b2 True))), (1, .int (jI ((m + 1 : Nat) : Int))), (0, .ref (a 0))]) (by rw [b2_t trivial]) rfl rfl ?_
          refine v_goto (tgt := 25) G dX9_night_80 (by decide) ?_
          refine v_locs (lv' := [(1, .int (jI ((m + 1 : Nat) : Int))), (2, .int (jI (b2 True))), (0, .ref (a 0))]) [1, 0, 2] rfl ?_
          exact ih_5 (m + 1) (((itm (bB tp tn) tn (y 1) (y 2) (sk (bB tp tn) h)).2.1) + 1) vl2_19 w2_20 True ⟨by omega, hwy2, Or.inl ⟨trivial, by rw [hnx]; have e9 := (nx_p hB (p := (itm (bB tp tn) tn (y 1) (y 2) (sk (bB tp tn) h)).2.1) (by omega)).1; omega, by rw [hnx, hok.2.2]; exact (ngR_s (by omega) (by assumption) ((cd_16 hB).mpr (by assumption))).symm.trans hmo.2.2⟩⟩ (nmU_lt (by omega) hmo.1)
end

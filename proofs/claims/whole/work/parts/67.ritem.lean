theorem jS_tab9 : ∀ k : Fin 6, (RX9, 229 + 2 * k.val, txC k.val, (wdC k.val).map jI) ∈ jStrL := by decide +kernel
section
variable {p : Program} {R : Room} {s : State} {m : MethodId} {args : Array Value} {meth : Method} {c : Code} {D : va_G} {tys : List (ClassId × FieldType)} {A : Nat → Prop} {cc : ByteArray} {nL : Nat} {own : String} {Ts : List Cond} {ret : Option FieldType}
theorem jS_X9 (G : Gx p R s m args meth c D tys A cc nL own Ts ret) (k : Nat) (hk : k < 6) : ∃ q : Nat, vk_R RX9 (229 + 2 * k) (txC k) q s ∧ jStr q ((wdC k).map jI) A s s.heap := by
  obtain ⟨hx0, hb, hml, hown, hts, hr, hlk, hK, hE, hA⟩ := G
  exact hE.2.2.2.2 _ (jS_tab9 ⟨k, hk⟩)
end
section
variable {l : Launch} {D : va_G} {tys : List (ClassId × FieldType)}
set_option maxRecDepth 100000 in
theorem c_X9_kindName_0 {q : Nat} : CrX (xR RX9 229 (txC 0) q) l yX9_kindName wsX9_kindName { frames := 0, cells := 0, slots := 0, locals := 0 } D tys [.int (jI 0)] [] (fun _ r => r = q) := by
  refine CrX.mk (cc := cX9_kindName) (maxL := 1) (rt := .object "java/lang/String") (by decide) rfl (Nat.le_of_ble_eq_true rfl) rfl ?_
  intro p_ e_ s_ m_ b_ me_ c_ A_ G hX
  refine v_iload_n (j := 0) (x := jI 0) G dX9_kindName_0 rfl rfl ?_
  refine v_tabIn (z := 0) (v := 0) (tgt := 36) G rfl (by decide) rfl (by decide) dX9_kindName_1 ?_
  refine v_ldcR (q := q) G hX dX9_kindName_36 ?_
  exact v_aret G (Or.inl ⟨_, rfl⟩) (fun _ _ => rfl) dX9_kindName_38
set_option maxRecDepth 100000 in
theorem c_X9_kindName_1 {q : Nat} : CrX (xR RX9 231 (txC 1) q) l yX9_kindName wsX9_kindName { frames := 0, cells := 0, slots := 0, locals := 0 } D tys [.int (jI 1)] [] (fun _ r => r = q) := by
  refine CrX.mk (cc := cX9_kindName) (maxL := 1) (rt := .object "java/lang/String") (by decide) rfl (Nat.le_of_ble_eq_true rfl) rfl ?_
  intro p_ e_ s_ m_ b_ me_ c_ A_ G hX
  refine v_iload_n (j := 0) (x := jI 1) G dX9_kindName_0 rfl rfl ?_
  refine v_tabIn (z := 1) (v := 1) (tgt := 39) G rfl (by decide) rfl (by decide) dX9_kindName_1 ?_
  refine v_ldcR (q := q) G hX dX9_kindName_39 ?_
  exact v_aret G (Or.inl ⟨_, rfl⟩) (fun _ _ => rfl) dX9_kindName_41
set_option maxRecDepth 100000 in
theorem c_X9_kindName_2 {q : Nat} : CrX (xR RX9 233 (txC 2) q) l yX9_kindName wsX9_kindName { frames := 0, cells := 0, slots := 0, locals := 0 } D tys [.int (jI 2)] [] (fun _ r => r = q) := by
  refine CrX.mk (cc := cX9_kindName) (maxL := 1) (rt := .object "java/lang/String") (by decide) rfl (Nat.le_of_ble_eq_true rfl) rfl ?_
  intro p_ e_ s_ m_ b_ me_ c_ A_ G hX
  refine v_iload_n (j := 0) (x := jI 2) G dX9_kindName_0 rfl rfl ?_
  refine v_tabIn (z := 2) (v := 2) (tgt := 42) G rfl (by decide) rfl (by decide) dX9_kindName_1 ?_
  refine v_ldcR (q := q) G hX dX9_kindName_42 ?_
  exact v_aret G (Or.inl ⟨_, rfl⟩) (fun _ _ => rfl) dX9_kindName_44
set_option maxRecDepth 100000 in
theorem c_X9_kindName_3 {q : Nat} : CrX (xR RX9 235 (txC 3) q) l yX9_kindName wsX9_kindName { frames := 0, cells := 0, slots := 0, locals := 0 } D tys [.int (jI 3)] [] (fun _ r => r = q) := by
  refine CrX.mk (cc := cX9_kindName) (maxL := 1) (rt := .object "java/lang/String") (by decide) rfl (Nat.le_of_ble_eq_true rfl) rfl ?_
  intro p_ e_ s_ m_ b_ me_ c_ A_ G hX
  refine v_iload_n (j := 0) (x := jI 3) G dX9_kindName_0 rfl rfl ?_
  refine v_tabIn (z := 3) (v := 3) (tgt := 45) G rfl (by decide) rfl (by decide) dX9_kindName_1 ?_
  refine v_ldcR (q := q) G hX dX9_kindName_45 ?_
  exact v_aret G (Or.inl ⟨_, rfl⟩) (fun _ _ => rfl) dX9_kindName_47
set_option maxRecDepth 100000 in
theorem c_X9_kindName_4 {q : Nat} : CrX (xR RX9 237 (txC 4) q) l yX9_kindName wsX9_kindName { frames := 0, cells := 0, slots := 0, locals := 0 } D tys [.int (jI 4)] [] (fun _ r => r = q) := by
  refine CrX.mk (cc := cX9_kindName) (maxL := 1) (rt := .object "java/lang/String") (by decide) rfl (Nat.le_of_ble_eq_true rfl) rfl ?_
  intro p_ e_ s_ m_ b_ me_ c_ A_ G hX
  refine v_iload_n (j := 0) (x := jI 4) G dX9_kindName_0 rfl rfl ?_
  refine v_tabIn (z := 4) (v := 4) (tgt := 48) G rfl (by decide) rfl (by decide) dX9_kindName_1 ?_
  refine v_ldcR (q := q) G hX dX9_kindName_48 ?_
  exact v_aret G (Or.inl ⟨_, rfl⟩) (fun _ _ => rfl) dX9_kindName_50
set_option maxRecDepth 100000 in
theorem c_X9_kindName_5 {q : Nat} : CrX (xR RX9 239 (txC 5) q) l yX9_kindName wsX9_kindName { frames := 0, cells := 0, slots := 0, locals := 0 } D tys [.int (jI 5)] [] (fun _ r => r = q) := by
  refine CrX.mk (cc := cX9_kindName) (maxL := 1) (rt := .object "java/lang/String") (by decide) rfl (Nat.le_of_ble_eq_true rfl) rfl ?_
  intro p_ e_ s_ m_ b_ me_ c_ A_ G hX
  refine v_iload_n (j := 0) (x := jI 5) G dX9_kindName_0 rfl rfl ?_
  refine v_tabOut (z := 5) (tgt := 51) G (by decide) (by decide) (by decide) dX9_kindName_1 ?_
  refine v_ldcR (q := q) G hX dX9_kindName_51 ?_
  exact v_aret G (Or.inl ⟨_, rfl⟩) (fun _ _ => rfl) dX9_kindName_53
theorem c_X9_kindName {k q : Nat} (hk : k < 6) : CrX (xR RX9 (229 + 2 * k) (txC k) q) l yX9_kindName wsX9_kindName { frames := 0, cells := 0, slots := 0, locals := 0 } D tys [.int (jI (k : Int))] [] (fun _ r => r = q) := by
  rcases (show k = 0 ∨ k = 1 ∨ k = 2 ∨ k = 3 ∨ k = 4 ∨ k = 5 by omega) with rfl | rfl | rfl | rfl | rfl | rfl
  · exact c_X9_kindName_0
  · exact c_X9_kindName_1
  · exact c_X9_kindName_2
  · exact c_X9_kindName_3
  · exact c_X9_kindName_4
  · exact c_X9_kindName_5
end
section
variable {l : Launch} {D : va_G} {cI cL cB cS : ClassId} {a : Nat → Nat} {w kp bf ah fd sp lt tp bt lg : Int → Int} {ik tn he ft vz : Int} {ce bw : Int → Int64}
set_option maxHeartbeats 4000000 in
set_option maxRecDepth 100000 in
theorem c_X9_bowlTold  {q : Int} (ht : Tr tp tn) (hh : 0 ≤ he ∧ he ≤ tn) (hf : ft = -1) (hq : sk (bB tp tn) he = q) : Ci l yX9_bowlTold wsX9_bowlTold { frames := 3, cells := 0, slots := 0, locals := 67 } D (jT cI cL cB cS) [.ref (a 0)] (wR cI cL a w kp bf ah ik fd sp lt tp tn he ft vz bt lg ce bw) (S := Int × Int × Int × (Int → Int)) (fun (u : Int × Int × Int × (Int → Int)) => (wR cI cL a u.2.2.2 kp bf ah ik fd sp lt tp tn u.1 u.2.1 u.2.2.1 bt lg ce bw)) (fun r (u : Int × Int × Int × (Int → Int)) => r = jI (b2 ((itO (bB tp tn) tn (tkN (bB tp tn) tn 0 15 q)).1 = 1)) ∧ (0 ≤ u.1 ∧ u.1 ≤ tn) ∧ ((itO (bB tp tn) tn (tkN (bB tp tn) tn 0 15 q)).1 = 1 → u.2.1 = -1 ∧ sk (bB tp tn) u.1 = (itO (bB tp tn) tn (tkN (bB tp tn) tn 0 15 q)).2.1 ∧ u.2.2.2 = apR w (itO (bB tp tn) tn (tkN (bB tp tn) tn 0 15 q)).2.2) ∧ (¬ (itO (bB tp tn) tn (tkN (bB tp tn) tn 0 15 q)).1 = 1 → u.2.1 = (itO (bB tp tn) tn (tkN (bB tp tn) tn 0 15 q)).2.1)) := by
  refine Ci.mk (cc := cX9_bowlTold) (maxL := 2) (rt := .boolean) (by decide) rfl (Nat.le_of_ble_eq_true rfl) rfl ?_
  intro p_ e_ s_ m_ b_ me_ c_ A_ G hnm
  have hn := ht.1
  have hB := Tr_k ht
  obtain ⟨hq1, hq2, hq3, hq4⟩ := sk_p hB hh
  rw [hq] at hq1 hq2 hq3 hq4
  have hqq : sk (bB tp tn) q = q := sk_i hq4
  have hQ : Qk (bB tp tn) tn q := ⟨⟨by omega, hq2⟩, hq4⟩
  have k_X9 : ∀ w ∈ u_ws RX9 TX9 17, w ∈ wsX9_bowlTold := fun _ h => List.mem_cons_of_mem _ (List.mem_append_right _ h)
  have q_1 : Cond.fieldLink RX9 226 "SupperLightModel" "value" "I" ∈ wsX9_bowlTold := List.mem_of_getElem? (i := 1) rfl
  have q_2 : Cond.fieldLink RX9 9 "SupperLightModel" "s" "[I" ∈ wsX9_bowlTold := List.mem_of_getElem? (i := 2) rfl
  refine v_aload_n (j := 0) (x := a 0) G dX9_bowlTold_0 rfl rfl ?_
  refine v_iconst G dX9_bowlTold_1 ?_
  refine v_bipush G dX9_bowlTold_2 (by decide) ?_
  refine v_ciF G (rn_V (As := [.int (jI 0), .int (jI 15)]) (rest := []) (q0 := 0) G (c_X9_number (v := 0) (z := 15) (w := w) (kp := kp) (bf := bf) (ah := ah) (ik := ik) (fd := fd) (sp := sp) (lt := lt) (tp := tp) (tn := tn) (he := he) (ft := ft) (vz := vz) (bt := bt) (lg := lg) (ce := ce) (bw := bw) (a := a) (q := q) (ht := ht) (hh := hh) (hf := hf) (hq := hq) (hv := (by omega))) gX9_bowlTold_X9_number rfl hdX9_number ⟨rfl, rfl, Nat.le_of_ble_eq_true rfl, Nat.le_of_ble_eq_true rfl⟩ rfl rfl (Nat.le_of_ble_eq_true rfl) ⟨Nat.zero_le _, Nat.zero_le _⟩ rfl rfl dX9_bowlTold_4) (fun r_4 u_6 e_5 => ?_)
  obtain ⟨he2_1, ft2_2, vl2_3⟩ := u_6
  have e_5 : r_4 = jI (b2 (0 ≤ (tkN (bB tp tn) tn 0 15 q).1)) ∧ (0 ≤ he2_1 ∧ he2_1 ≤ tn) ∧ (0 ≤ (tkN (bB tp tn) tn 0 15 q).1 → ft2_2 = -1 ∧ vl2_3 = (tkN (bB tp tn) tn 0 15 q).1 ∧ sk (bB tp tn) he2_1 = (tkN (bB tp tn) tn 0 15 q).2) ∧ (¬ 0 ≤ (tkN (bB tp tn) tn 0 15 q).1 → ft2_2 = (tkN (bB tp tn) tn 0 15 q).2) := e_5
  obtain ⟨e_50, e_5f⟩ := e_5
  subst e_50
  refine v_world (ws' := (wR cI cL a w kp bf ah ik fd sp lt tp tn he2_1 ft2_2 vl2_3 bt lg ce bw)) rfl ?_
  have v1 := tkN_r (bB tp tn) tn 0 15 q (by omega)
  refine v_ifb_ne (P := 0 ≤ (tkN (bB tp tn) tn 0 15 q).1) (tgt := 12) G dX9_bowlTold_7 (by decide) (fun c_7 => ?_) (fun c_7 => ?_)
  · skip
    have hv1 := (e_5f.2.1 (by omega)).2.1
    refine v_aload_n (j := 0) (x := a 0) G dX9_bowlTold_12 rfl rfl ?_
    refine v_get (q0 := 0) (k := 12) (v := .int (jI vl2_3)) G k_X9 rfl rfl (by decide) q_1 rfl rfl dX9_bowlTold_13 ?_
    refine v_istore_n (lv' := [(1, .int (jI vl2_3)), (0, .ref (a 0))]) G dX9_bowlTold_16 rfl (by decide) rfl ?_
    refine v_aload_n (j := 1) (x := a 0) G dX9_bowlTold_17 rfl rfl ?_
    refine v_iconst G dX9_bowlTold_18 ?_
    refine v_bipush G dX9_bowlTold_19 (by decide) ?_
    refine v_ciF G (rn_V (As := [.int (jI 0), .int (jI 99)]) (rest := []) (q0 := 0) G (c_X9_number (v := 0) (z := 99) (w := w) (kp := kp) (bf := bf) (ah := ah) (ik := ik) (fd := fd) (sp := sp) (lt := lt) (tp := tp) (tn := tn) (he := he2_1) (ft := ft2_2) (vz := vl2_3) (bt := bt) (lg := lg) (ce := ce) (bw := bw) (a := a) (q := (tkN (bB tp tn) tn 0 15 q).2) (ht := ht) (hh := e_5f.1) (hf := (e_5f.2.1 (by omega)).1) (hq := (e_5f.2.1 (by omega)).2.2) (hv := (by omega))) gX9_bowlTold_X9_number rfl hdX9_number ⟨rfl, rfl, Nat.le_of_ble_eq_true rfl, Nat.le_of_ble_eq_true rfl⟩ rfl rfl (Nat.le_of_ble_eq_true rfl) ⟨Nat.zero_le _, Nat.zero_le _⟩ rfl rfl dX9_bowlTold_21) (fun r_11 u_13 e_12 => ?_)
    obtain ⟨he2_8, ft2_9, vl2_10⟩ := u_13
    have e_12 : r_11 = jI (b2 (0 ≤ (tkN (bB tp tn) tn 0 99 ((tkN (bB tp tn) tn 0 15 q).2)).1)) ∧ (0 ≤ he2_8 ∧ he2_8 ≤ tn) ∧ (0 ≤ (tkN (bB tp tn) tn 0 99 ((tkN (bB tp tn) tn 0 15 q).2)).1 → ft2_9 = -1 ∧ vl2_10 = (tkN (bB tp tn) tn 0 99 ((tkN (bB tp tn) tn 0 15 q).2)).1 ∧ sk (bB tp tn) he2_8 = (tkN (bB tp tn) tn 0 99 ((tkN (bB tp tn) tn 0 15 q).2)).2) ∧ (¬ 0 ≤ (tkN (bB tp tn) tn 0 99 ((tkN (bB tp tn) tn 0 15 q).2)).1 → ft2_9 = (tkN (bB tp tn) tn 0 99 ((tkN (bB tp tn) tn 0 15 q).2)).2) := e_12
    obtain ⟨e_120, e_12f⟩ := e_12
    subst e_120
    refine v_world (ws' := (wR cI cL a w kp bf ah ik fd sp lt tp tn he2_8 ft2_9 vl2_10 bt lg ce bw)) rfl ?_
    have v2 := tkN_r (bB tp tn) tn 0 99 (tkN (bB tp tn) tn 0 15 q).2 (by omega)
    refine v_ifb_ne (P := 0 ≤ (tkN (bB tp tn) tn 0 99 ((tkN (bB tp tn) tn 0 15 q).2)).1) (tgt := 29) G dX9_bowlTold_24 (by decide) (fun c_14 => ?_) (fun c_14 => ?_)
    · skip
      refine v_aload_n (j := 1) (x := a 0) G dX9_bowlTold_29 rfl rfl ?_
      refine v_get (q0 := 0) (k := 0) (v := .ref (a 1)) G k_X9 rfl rfl (by decide) q_2 rfl rfl dX9_bowlTold_30 ?_
      refine v_iconst G dX9_bowlTold_33 ?_
      refine v_iload_n (j := 0) (x := jI vl2_3) G dX9_bowlTold_34 rfl rfl ?_
      refine v_iadd (z := 3 + vl2_3) G dX9_bowlTold_35 rfl ?_
      refine v_aload_n (j := 1) (x := a 0) G dX9_bowlTold_36 rfl rfl ?_
      refine v_get (q0 := 0) (k := 12) (v := .int (jI vl2_10)) G k_X9 rfl rfl (by decide) q_1 rfl rfl dX9_bowlTold_37 ?_
      refine v_iast (q0 := 1) (t0 := 0) (g := w) (z := 3 + vl2_3) (x := vl2_10) (ws' := (wR cI cL a (uI w (3 + vl2_3) vl2_10) kp bf ah ik fd sp lt tp tn he2_8 ft2_9 vl2_10 bt lg ce bw)) G rfl rfl (by omega) rfl dX9_bowlTold_40 ?_
      refine v_iconst G dX9_bowlTold_41 ?_
      exact v_zret G (he2_8, ft2_9, vl2_10, uI w (3 + vl2_3) vl2_10) nb_1 (by have hit : (itO (bB tp tn) tn (tkN (bB tp tn) tn 0 15 q)) = (1, (tkN (bB tp tn) tn 0 99 (tkN (bB tp tn) tn 0 15 q).2).2, 10, (tkN (bB tp tn) tn 0 15 q).1, (tkN (bB tp tn) tn 0 99 (tkN (bB tp tn) tn 0 15 q).2).1, 0, 0) := (by rw [itO_t (by omega)]; exact itO2_t (by omega)); rw [hit]; exact ⟨congrArg jI (b2_t (P := (1 : Int) = 1) rfl).symm, e_12f.1, fun _ => ⟨(e_12f.2.1 (by omega)).1, (e_12f.2.1 (by omega)).2.2, by rw [(e_5f.2.1 (by omega)).2.1, (e_12f.2.1 (by omega)).2.1]; rfl⟩, fun z_ => absurd rfl z_⟩) rfl dX9_bowlTold_42
    · skip
      refine v_iconst G dX9_bowlTold_27 ?_
      exact v_zret G (he2_8, ft2_9, vl2_10, w) nb_0 (by have hit : (itO (bB tp tn) tn (tkN (bB tp tn) tn 0 15 q)) = fl (tkN (bB tp tn) tn 0 99 (tkN (bB tp tn) tn 0 15 q).2).2 := (by rw [itO_t (by omega)]; exact itO2_f (by omega)); rw [hit]; exact ⟨congrArg jI (b2_f (P := (fl (tkN (bB tp tn) tn 0 99 (tkN (bB tp tn) tn 0 15 q).2).2).1 = 1) (by rw [fl_1]; omega)).symm, e_12f.1, fun z_ => absurd z_ (by rw [fl_1]; omega), fun _ => e_12f.2.2 (by omega)⟩) rfl dX9_bowlTold_28
  · skip
    refine v_iconst G dX9_bowlTold_10 ?_
    exact v_zret G (he2_1, ft2_2, vl2_3, w) nb_0 (by have hit : (itO (bB tp tn) tn (tkN (bB tp tn) tn 0 15 q)) = fl (tkN (bB tp tn) tn 0 15 q).2 := (itO_f (by omega)); rw [hit]; exact ⟨congrArg jI (b2_f (P := (fl (tkN (bB tp tn) tn 0 15 q).2).1 = 1) (by rw [fl_1]; omega)).symm, e_5f.1, fun z_ => absurd z_ (by rw [fl_1]; omega), fun _ => e_5f.2.2 (by omega)⟩) rfl dX9_bowlTold_11

set_option maxHeartbeats 4000000 in
set_option maxRecDepth 100000 in
theorem c_X9_taskTold  {q : Int} (ht : Tr tp tn) (hh : 0 ≤ he ∧ he ≤ tn) (hf : ft = -1) (hq : sk (bB tp tn) he = q) (hw : Wf w) (hn8 : w 2 < 8) : Ci l yX9_taskTold wsX9_taskTold { frames := 8, cells := 0, slots := 0, locals := 174 } D (jT cI cL cB cS) [.ref (a 0)] (wR cI cL a w kp bf ah ik fd sp lt tp tn he ft vz bt lg ce bw) (S := Int × Int × Int × (Int → Int)) (fun (u : Int × Int × Int × (Int → Int)) => (wR cI cL a u.2.2.2 kp bf ah ik fd sp lt tp tn u.1 u.2.1 u.2.2.1 bt lg ce bw)) (fun r (u : Int × Int × Int × (Int → Int)) => r = jI (b2 ((itT1 (bB tp tn) tn (tkB (bB tp tn) tn 6 0 15 q)).1 = 1)) ∧ (0 ≤ u.1 ∧ u.1 ≤ tn) ∧ ((itT1 (bB tp tn) tn (tkB (bB tp tn) tn 6 0 15 q)).1 = 1 → u.2.1 = -1 ∧ sk (bB tp tn) u.1 = (itT1 (bB tp tn) tn (tkB (bB tp tn) tn 6 0 15 q)).2.1 ∧ u.2.2.2 = apR w (itT1 (bB tp tn) tn (tkB (bB tp tn) tn 6 0 15 q)).2.2) ∧ (¬ (itT1 (bB tp tn) tn (tkB (bB tp tn) tn 6 0 15 q)).1 = 1 → u.2.1 = (itT1 (bB tp tn) tn (tkB (bB tp tn) tn 6 0 15 q)).2.1)) := by
  refine Ci.mk (cc := cX9_taskTold) (maxL := 3) (rt := .boolean) (by decide) rfl (Nat.le_of_ble_eq_true rfl) rfl ?_
  intro p_ e_ s_ m_ b_ me_ c_ A_ G hnm
  have hn := ht.1
  have hB := Tr_k ht
  obtain ⟨hq1, hq2, hq3, hq4⟩ := sk_p hB hh
  rw [hq] at hq1 hq2 hq3 hq4
  have hqq : sk (bB tp tn) q = q := sk_i hq4
  have hQ : Qk (bB tp tn) tn q := ⟨⟨by omega, hq2⟩, hq4⟩
  have k_X9 : ∀ w ∈ u_ws RX9 TX9 17, w ∈ wsX9_taskTold := fun _ h => List.mem_cons_of_mem _ (List.mem_append_right _ h)
  have q_1 : Cond.fieldLink RX9 226 "SupperLightModel" "value" "I" ∈ wsX9_taskTold := List.mem_of_getElem? (i := 1) rfl
  refine v_aload_n (j := 0) (x := a 0) G dX9_taskTold_0 rfl rfl ?_
  refine v_ldcS (tx := txC 6) (bs := (wdC 6).map jI) G jS9_6 dX9_taskTold_1 (fun sq_1 hR_2 hS_3 => ?_)
  refine v_iconst G dX9_taskTold_3 ?_
  refine v_bipush G dX9_taskTold_4 (by decide) ?_
  refine v_ciF G (rn_VX (X := xStr sq_1 ((wdC 6).map jI)) (xStr_s sq_1 ((wdC 6).map jI)) hS_3 (As := [.ref sq_1, .int (jI 0), .int (jI 15)]) (rest := []) (q0 := 0) G (c_X9_told (v := 0) (z := 15) (w := w) (kp := kp) (bf := bf) (ah := ah) (ik := ik) (fd := fd) (sp := sp) (lt := lt) (tp := tp) (tn := tn) (he := he) (ft := ft) (vz := vz) (bt := bt) (lg := lg) (ce := ce) (bw := bw) (a := a) (q := q) (tq := sq_1) (tc := 6) (ht := ht) (hh := hh) (hf := hf) (hq := hq) (htc := (by decide)) (hv := (by omega))) gX9_taskTold_X9_told rfl hdX9_told ⟨rfl, rfl, Nat.le_of_ble_eq_true rfl, Nat.le_of_ble_eq_true rfl⟩ rfl rfl (Nat.le_of_ble_eq_true rfl) ⟨Nat.zero_le _, Nat.zero_le _⟩ rfl rfl dX9_taskTold_6) (fun r_7 u_9 e_8 => ?_)
  obtain ⟨he2_4, ft2_5, vl2_6⟩ := u_9
  have e_8 : r_7 = jI (b2 (0 ≤ (tkB (bB tp tn) tn (6 : Int) 0 15 q).1)) ∧ (0 ≤ he2_4 ∧ he2_4 ≤ tn) ∧ (0 ≤ (tkB (bB tp tn) tn (6 : Int) 0 15 q).1 → ft2_5 = -1 ∧ vl2_6 = (tkB (bB tp tn) tn (6 : Int) 0 15 q).1 ∧ sk (bB tp tn) he2_4 = (tkB (bB tp tn) tn (6 : Int) 0 15 q).2) ∧ (¬ 0 ≤ (tkB (bB tp tn) tn (6 : Int) 0 15 q).1 → ft2_5 = (tkB (bB tp tn) tn (6 : Int) 0 15 q).2) := e_8
  obtain ⟨e_80, e_8f⟩ := e_8
  subst e_80
  refine v_world (ws' := (wR cI cL a w kp bf ah ik fd sp lt tp tn he2_4 ft2_5 vl2_6 bt lg ce bw)) rfl ?_
  have v1 := tkB_r (bB tp tn) tn 6 0 15 q (by omega)
  refine v_ifb_ne (P := 0 ≤ (tkB (bB tp tn) tn (6 : Int) 0 15 q).1) (tgt := 14) G dX9_taskTold_9 (by decide) (fun c_10 => ?_) (fun c_10 => ?_)
  · skip
    refine v_aload_n (j := 0) (x := a 0) G dX9_taskTold_14 rfl rfl ?_
    refine v_get (q0 := 0) (k := 12) (v := .int (jI vl2_6)) G k_X9 rfl rfl (by decide) q_1 rfl rfl dX9_taskTold_15 ?_
    refine v_istore_n (lv' := [(1, .int (jI vl2_6)), (0, .ref (a 0))]) G dX9_taskTold_18 rfl (by decide) rfl ?_
    refine v_aload_n (j := 1) (x := a 0) G dX9_taskTold_19 rfl rfl ?_
    refine v_ldcSw (tx := txC 12) (bs := (wdC 12).map jI) G jS9_12 dX9_taskTold_20 (fun sq_11 hR_12 hS_13 => ?_)
    refine v_iconst G dX9_taskTold_23 ?_
    refine v_bipush G dX9_taskTold_24 (by decide) ?_
    refine v_ciF G (rn_VX (X := xStr sq_11 ((wdC 12).map jI)) (xStr_s sq_11 ((wdC 12).map jI)) hS_13 (As := [.ref sq_11, .int (jI 0), .int (jI 99)]) (rest := []) (q0 := 0) G (c_X9_told (v := 0) (z := 99) (w := w) (kp := kp) (bf := bf) (ah := ah) (ik := ik) (fd := fd) (sp := sp) (lt := lt) (tp := tp) (tn := tn) (he := he2_4) (ft := ft2_5) (vz := vl2_6) (bt := bt) (lg := lg) (ce := ce) (bw := bw) (a := a) (q := (tkB (bB tp tn) tn 6 0 15 q).2) (tq := sq_11) (tc := 12) (ht := ht) (hh := e_8f.1) (hf := (e_8f.2.1 (by omega)).1) (hq := (e_8f.2.1 (by omega)).2.2) (htc := (by decide)) (hv := (by omega))) gX9_taskTold_X9_told rfl hdX9_told ⟨rfl, rfl, Nat.le_of_ble_eq_true rfl, Nat.le_of_ble_eq_true rfl⟩ rfl rfl (Nat.le_of_ble_eq_true rfl) ⟨Nat.zero_le _, Nat.zero_le _⟩ rfl rfl dX9_taskTold_26) (fun r_17 u_19 e_18 => ?_)
    obtain ⟨he2_14, ft2_15, vl2_16⟩ := u_19
    have e_18 : r_17 = jI (b2 (0 ≤ (tkB (bB tp tn) tn (12 : Int) 0 99 ((tkB (bB tp tn) tn 6 0 15 q).2)).1)) ∧ (0 ≤ he2_14 ∧ he2_14 ≤ tn) ∧ (0 ≤ (tkB (bB tp tn) tn (12 : Int) 0 99 ((tkB (bB tp tn) tn 6 0 15 q).2)).1 → ft2_15 = -1 ∧ vl2_16 = (tkB (bB tp tn) tn (12 : Int) 0 99 ((tkB (bB tp tn) tn 6 0 15 q).2)).1 ∧ sk (bB tp tn) he2_14 = (tkB (bB tp tn) tn (12 : Int) 0 99 ((tkB (bB tp tn) tn 6 0 15 q).2)).2) ∧ (¬ 0 ≤ (tkB (bB tp tn) tn (12 : Int) 0 99 ((tkB (bB tp tn) tn 6 0 15 q).2)).1 → ft2_15 = (tkB (bB tp tn) tn (12 : Int) 0 99 ((tkB (bB tp tn) tn 6 0 15 q).2)).2) := e_18
    obtain ⟨e_180, e_18f⟩ := e_18
    subst e_180
    refine v_world (ws' := (wR cI cL a w kp bf ah ik fd sp lt tp tn he2_14 ft2_15 vl2_16 bt lg ce bw)) rfl ?_
    have v2 := tkB_r (bB tp tn) tn 12 0 99 (tkB (bB tp tn) tn 6 0 15 q).2 (by omega)
    refine v_ifb_ne (P := 0 ≤ (tkB (bB tp tn) tn (12 : Int) 0 99 ((tkB (bB tp tn) tn 6 0 15 q).2)).1) (tgt := 34) G dX9_taskTold_29 (by decide) (fun c_20 => ?_) (fun c_20 => ?_)
    · skip
      refine v_aload_n (j := 1) (x := a 0) G dX9_taskTold_34 rfl rfl ?_
      refine v_get (q0 := 0) (k := 12) (v := .int (jI vl2_16)) G k_X9 rfl rfl (by decide) q_1 rfl rfl dX9_taskTold_35 ?_
      refine v_istore_n (lv' := [(2, .int (jI vl2_16)), (1, .int (jI vl2_6)), (0, .ref (a 0))]) G dX9_taskTold_38 rfl (by decide) rfl ?_
      refine v_aload_n (j := 2) (x := a 0) G dX9_taskTold_39 rfl rfl ?_
      refine v_ldcSw (tx := txC 13) (bs := (wdC 13).map jI) G jS9_13 dX9_taskTold_40 (fun sq_21 hR_22 hS_23 => ?_)
      refine v_iconst G dX9_taskTold_43 ?_
      refine v_bipush G dX9_taskTold_44 (by decide) ?_
      refine v_ciF G (rn_VX (X := xStr sq_21 ((wdC 13).map jI)) (xStr_s sq_21 ((wdC 13).map jI)) hS_23 (As := [.ref sq_21, .int (jI 1), .int (jI 99)]) (rest := []) (q0 := 0) G (c_X9_told (v := 1) (z := 99) (w := w) (kp := kp) (bf := bf) (ah := ah) (ik := ik) (fd := fd) (sp := sp) (lt := lt) (tp := tp) (tn := tn) (he := he2_14) (ft := ft2_15) (vz := vl2_16) (bt := bt) (lg := lg) (ce := ce) (bw := bw) (a := a) (q := (tkB (bB tp tn) tn 12 0 99 (tkB (bB tp tn) tn 6 0 15 q).2).2) (tq := sq_21) (tc := 13) (ht := ht) (hh := e_18f.1) (hf := (e_18f.2.1 (by omega)).1) (hq := (e_18f.2.1 (by omega)).2.2) (htc := (by decide)) (hv := (by omega))) gX9_taskTold_X9_told rfl hdX9_told ⟨rfl, rfl, Nat.le_of_ble_eq_true rfl, Nat.le_of_ble_eq_true rfl⟩ rfl rfl (Nat.le_of_ble_eq_true rfl) ⟨Nat.zero_le _, Nat.zero_le _⟩ rfl rfl dX9_taskTold_46) (fun r_27 u_29 e_28 => ?_)
      obtain ⟨he2_24, ft2_25, vl2_26⟩ := u_29
      have e_28 : r_27 = jI (b2 (0 ≤ (tkB (bB tp tn) tn (13 : Int) 1 99 ((tkB (bB tp tn) tn 12 0 99 (tkB (bB tp tn) tn 6 0 15 q).2).2)).1)) ∧ (0 ≤ he2_24 ∧ he2_24 ≤ tn) ∧ (0 ≤ (tkB (bB tp tn) tn (13 : Int) 1 99 ((tkB (bB tp tn) tn 12 0 99 (tkB (bB tp tn) tn 6 0 15 q).2).2)).1 → ft2_25 = -1 ∧ vl2_26 = (tkB (bB tp tn) tn (13 : Int) 1 99 ((tkB (bB tp tn) tn 12 0 99 (tkB (bB tp tn) tn 6 0 15 q).2).2)).1 ∧ sk (bB tp tn) he2_24 = (tkB (bB tp tn) tn (13 : Int) 1 99 ((tkB (bB tp tn) tn 12 0 99 (tkB (bB tp tn) tn 6 0 15 q).2).2)).2) ∧ (¬ 0 ≤ (tkB (bB tp tn) tn (13 : Int) 1 99 ((tkB (bB tp tn) tn 12 0 99 (tkB (bB tp tn) tn 6 0 15 q).2).2)).1 → ft2_25 = (tkB (bB tp tn) tn (13 : Int) 1 99 ((tkB (bB tp tn) tn 12 0 99 (tkB (bB tp tn) tn 6 0 15 q).2).2)).2) := e_28
      obtain ⟨e_280, e_28f⟩ := e_28
      subst e_280
      refine v_world (ws' := (wR cI cL a w kp bf ah ik fd sp lt tp tn he2_24 ft2_25 vl2_26 bt lg ce bw)) rfl ?_
      have v3 := tkB_r (bB tp tn) tn 13 1 99 (tkB (bB tp tn) tn 12 0 99 (tkB (bB tp tn) tn 6 0 15 q).2).2 (by omega)
      refine v_ifb_ne (P := 0 ≤ (tkB (bB tp tn) tn (13 : Int) 1 99 ((tkB (bB tp tn) tn 12 0 99 (tkB (bB tp tn) tn 6 0 15 q).2).2)).1) (tgt := 54) G dX9_taskTold_49 (by decide) (fun c_30 => ?_) (fun c_30 => ?_)
      · skip
        refine v_aload_n (j := 2) (x := a 0) G dX9_taskTold_54 rfl rfl ?_
        refine v_iload_n (j := 1) (x := jI vl2_6) G dX9_taskTold_55 rfl rfl ?_
        refine v_iload_n (j := 0) (x := jI vl2_16) G dX9_taskTold_56 rfl rfl ?_
        refine v_aload_n (j := 2) (x := a 0) G dX9_taskTold_57 rfl rfl ?_
        refine v_get (q0 := 0) (k := 12) (v := .int (jI vl2_26)) G k_X9 rfl rfl (by decide) q_1 rfl rfl dX9_taskTold_58 ?_
        refine v_cvF G (rn_V (As := [.int (jI vl2_6), .int (jI vl2_16), .int (jI vl2_26)]) (rest := []) (q0 := 0) G (c_X9_addsTask (p := vl2_6) (h := vl2_16) (n := vl2_26) (w := w) (kp := kp) (bf := bf) (ah := ah) (ik := ik) (fd := fd) (sp := sp) (lt := lt) (tp := tp) (tn := tn) (he := he2_24) (ft := ft2_25) (vl := vl2_26) (bt := bt) (lg := lg) (ce := ce) (bw := bw) (a := a) (hw := hw) (hn := hn8)) gX9_taskTold_X9_addsTask rfl hdX9_addsTask ⟨rfl, rfl, Nat.le_of_ble_eq_true rfl, Nat.le_of_ble_eq_true rfl⟩ rfl rfl (Nat.le_of_ble_eq_true rfl) ⟨Nat.zero_le _, Nat.zero_le _⟩ rfl rfl dX9_taskTold_61) (fun u_33 e_32 => ?_)
        refine v_world (ws' := (wR cI cL a (addTx w vl2_6 vl2_16 vl2_26) kp bf ah ik fd sp lt tp tn he2_24 ft2_25 vl2_26 bt lg ce bw)) rfl ?_
        refine v_iconst G dX9_taskTold_64 ?_
        exact v_zret G (he2_24, ft2_25, vl2_26, addTx w vl2_6 vl2_16 vl2_26) nb_1 (by have hit : (itT1 (bB tp tn) tn (tkB (bB tp tn) tn 6 0 15 q)) = (1, (tkB (bB tp tn) tn 13 1 99 (tkB (bB tp tn) tn 12 0 99 (tkB (bB tp tn) tn 6 0 15 q).2).2).2, 11, (tkB (bB tp tn) tn 6 0 15 q).1, (tkB (bB tp tn) tn 12 0 99 (tkB (bB tp tn) tn 6 0 15 q).2).1, (tkB (bB tp tn) tn 13 1 99 (tkB (bB tp tn) tn 12 0 99 (tkB (bB tp tn) tn 6 0 15 q).2).2).1, 0) := (by rw [itT1_t (by omega), itT2_t (by omega)]; exact itT3_t (by omega)); rw [hit]; exact ⟨congrArg jI (b2_t (P := (1 : Int) = 1) rfl).symm, e_28f.1, fun _ => ⟨(e_28f.2.1 (by omega)).1, (e_28f.2.1 (by omega)).2.2, by rw [(e_8f.2.1 (by omega)).2.1, (e_18f.2.1 (by omega)).2.1, (e_28f.2.1 (by omega)).2.1]; rfl⟩, fun z_ => absurd rfl z_⟩) rfl dX9_taskTold_65
      · skip
        refine v_iconst G dX9_taskTold_52 ?_
        exact v_zret G (he2_24, ft2_25, vl2_26, w) nb_0 (by have hit : (itT1 (bB tp tn) tn (tkB (bB tp tn) tn 6 0 15 q)) = fl (tkB (bB tp tn) tn 13 1 99 (tkB (bB tp tn) tn 12 0 99 (tkB (bB tp tn) tn 6 0 15 q).2).2).2 := (by rw [itT1_t (by omega), itT2_t (by omega)]; exact itT3_f (by omega)); rw [hit]; exact ⟨congrArg jI (b2_f (P := (fl (tkB (bB tp tn) tn 13 1 99 (tkB (bB tp tn) tn 12 0 99 (tkB (bB tp tn) tn 6 0 15 q).2).2).2).1 = 1) (by rw [fl_1]; omega)).symm, e_28f.1, fun z_ => absurd z_ (by rw [fl_1]; omega), fun _ => e_28f.2.2 (by omega)⟩) rfl dX9_taskTold_53
    · skip
      refine v_iconst G dX9_taskTold_32 ?_
      exact v_zret G (he2_14, ft2_15, vl2_16, w) nb_0 (by have hit : (itT1 (bB tp tn) tn (tkB (bB tp tn) tn 6 0 15 q)) = fl (tkB (bB tp tn) tn 12 0 99 (tkB (bB tp tn) tn 6 0 15 q).2).2 := (by rw [itT1_t (by omega)]; exact itT2_f (by omega)); rw [hit]; exact ⟨congrArg jI (b2_f (P := (fl (tkB (bB tp tn) tn 12 0 99 (tkB (bB tp tn) tn 6 0 15 q).2).2).1 = 1) (by rw [fl_1]; omega)).symm, e_18f.1, fun z_ => absurd z_ (by rw [fl_1]; omega), fun _ => e_18f.2.2 (by omega)⟩) rfl dX9_taskTold_33
  · skip
    refine v_iconst G dX9_taskTold_12 ?_
    exact v_zret G (he2_4, ft2_5, vl2_6, w) nb_0 (by have hit : (itT1 (bB tp tn) tn (tkB (bB tp tn) tn 6 0 15 q)) = fl (tkB (bB tp tn) tn 6 0 15 q).2 := (itT1_f (by omega)); rw [hit]; exact ⟨congrArg jI (b2_f (P := (fl (tkB (bB tp tn) tn 6 0 15 q).2).1 = 1) (by rw [fl_1]; omega)).symm, e_8f.1, fun z_ => absurd z_ (by rw [fl_1]; omega), fun _ => e_8f.2.2 (by omega)⟩) rfl dX9_taskTold_13

set_option maxHeartbeats 4000000 in
set_option maxRecDepth 100000 in
theorem c_X9_beingTold (k : Int) {q : Int} (ht : Tr tp tn) (hh : 0 ≤ he ∧ he ≤ tn) (hf : ft = -1) (hq : sk (bB tp tn) he = q) (hw : Wf w) (hkd : 0 ≤ k ∧ k ≤ 5) (hn9 : w 1 < 10) : Ci l yX9_beingTold wsX9_beingTold { frames := 8, cells := 0, slots := 0, locals := 174 } D (jT cI cL cB cS) [.ref (a 0), .int (jI k)] (wR cI cL a w kp bf ah ik fd sp lt tp tn he ft vz bt lg ce bw) (S := Int × Int × Int × (Int → Int)) (fun (u : Int × Int × Int × (Int → Int)) => (wR cI cL a u.2.2.2 kp bf ah ik fd sp lt tp tn u.1 u.2.1 u.2.2.1 bt lg ce bw)) (fun r (u : Int × Int × Int × (Int → Int)) => r = jI (b2 ((itB1 (bB tp tn) tn k (tkB (bB tp tn) tn 6 0 15 q)).1 = 1)) ∧ (0 ≤ u.1 ∧ u.1 ≤ tn) ∧ ((itB1 (bB tp tn) tn k (tkB (bB tp tn) tn 6 0 15 q)).1 = 1 → u.2.1 = -1 ∧ sk (bB tp tn) u.1 = (itB1 (bB tp tn) tn k (tkB (bB tp tn) tn 6 0 15 q)).2.1 ∧ u.2.2.2 = apR w (itB1 (bB tp tn) tn k (tkB (bB tp tn) tn 6 0 15 q)).2.2) ∧ (¬ (itB1 (bB tp tn) tn k (tkB (bB tp tn) tn 6 0 15 q)).1 = 1 → u.2.1 = (itB1 (bB tp tn) tn k (tkB (bB tp tn) tn 6 0 15 q)).2.1)) := by
  refine Ci.mk (cc := cX9_beingTold) (maxL := 6) (rt := .boolean) (by decide) rfl (Nat.le_of_ble_eq_true rfl) rfl ?_
  intro p_ e_ s_ m_ b_ me_ c_ A_ G hnm
  have hn := ht.1
  have hB := Tr_k ht
  obtain ⟨hq1, hq2, hq3, hq4⟩ := sk_p hB hh
  rw [hq] at hq1 hq2 hq3 hq4
  have hqq : sk (bB tp tn) q = q := sk_i hq4
  have hQ : Qk (bB tp tn) tn q := ⟨⟨by omega, hq2⟩, hq4⟩
  have k_X9 : ∀ w ∈ u_ws RX9 TX9 17, w ∈ wsX9_beingTold := fun _ h => List.mem_cons_of_mem _ (List.mem_append_right _ h)
  have q_1 : Cond.fieldLink RX9 226 "SupperLightModel" "value" "I" ∈ wsX9_beingTold := List.mem_of_getElem? (i := 1) rfl
  have q_2 : Cond.fieldLink RX9 180 "SupperLightModel" "fault" "I" ∈ wsX9_beingTold := List.mem_of_getElem? (i := 2) rfl
  refine v_aload_n (j := 0) (x := a 0) G dX9_beingTold_0 rfl rfl ?_
  refine v_ldcS (tx := txC 6) (bs := (wdC 6).map jI) G jS9_6 dX9_beingTold_1 (fun sq_1 hR_2 hS_3 => ?_)
  refine v_iconst G dX9_beingTold_3 ?_
  refine v_bipush G dX9_beingTold_4 (by decide) ?_
  refine v_ciF G (rn_VX (X := xStr sq_1 ((wdC 6).map jI)) (xStr_s sq_1 ((wdC 6).map jI)) hS_3 (As := [.ref sq_1, .int (jI 0), .int (jI 15)]) (rest := []) (q0 := 0) G (c_X9_told (v := 0) (z := 15) (w := w) (kp := kp) (bf := bf) (ah := ah) (ik := ik) (fd := fd) (sp := sp) (lt := lt) (tp := tp) (tn := tn) (he := he) (ft := ft) (vz := vz) (bt := bt) (lg := lg) (ce := ce) (bw := bw) (a := a) (q := q) (tq := sq_1) (tc := 6) (ht := ht) (hh := hh) (hf := hf) (hq := hq) (htc := (by decide)) (hv := (by omega))) gX9_beingTold_X9_told rfl hdX9_told ⟨rfl, rfl, Nat.le_of_ble_eq_true rfl, Nat.le_of_ble_eq_true rfl⟩ rfl rfl (Nat.le_of_ble_eq_true rfl) ⟨Nat.zero_le _, Nat.zero_le _⟩ rfl rfl dX9_beingTold_6) (fun r_7 u_9 e_8 => ?_)
  obtain ⟨he2_4, ft2_5, vl2_6⟩ := u_9
  have e_8 : r_7 = jI (b2 (0 ≤ (tkB (bB tp tn) tn (6 : Int) 0 15 q).1)) ∧ (0 ≤ he2_4 ∧ he2_4 ≤ tn) ∧ (0 ≤ (tkB (bB tp tn) tn (6 : Int) 0 15 q).1 → ft2_5 = -1 ∧ vl2_6 = (tkB (bB tp tn) tn (6 : Int) 0 15 q).1 ∧ sk (bB tp tn) he2_4 = (tkB (bB tp tn) tn (6 : Int) 0 15 q).2) ∧ (¬ 0 ≤ (tkB (bB tp tn) tn (6 : Int) 0 15 q).1 → ft2_5 = (tkB (bB tp tn) tn (6 : Int) 0 15 q).2) := e_8
  obtain ⟨e_80, e_8f⟩ := e_8
  subst e_80
  refine v_world (ws' := (wR cI cL a w kp bf ah ik fd sp lt tp tn he2_4 ft2_5 vl2_6 bt lg ce bw)) rfl ?_
  have v1 := tkB_r (bB tp tn) tn 6 0 15 q (by omega)
  have s1 := tkB_q (w := 6) (v := 0) (z := 15) hB hQ (by omega)
  have s1r := s1.1.1
  refine v_ifb_ne (P := 0 ≤ (tkB (bB tp tn) tn (6 : Int) 0 15 q).1) (tgt := 14) G dX9_beingTold_9 (by decide) (fun c_10 => ?_) (fun c_10 => ?_)
  · skip
    refine v_aload_n (j := 0) (x := a 0) G dX9_beingTold_14 rfl rfl ?_
    refine v_get (q0 := 0) (k := 12) (v := .int (jI vl2_6)) G k_X9 rfl rfl (by decide) q_1 rfl rfl dX9_beingTold_15 ?_
    have hv1 := (e_8f.2.1 (by omega)).2.1
    refine v_topj (x := vl2_6) (y := (tkB (bB tp tn) tn 6 0 15 q).1) hv1 ?_
    refine v_istore_n (lv' := [(2, .int (jI ((tkB (bB tp tn) tn 6 0 15 q).1))), (0, .ref (a 0)), (1, .int (jI k))]) G dX9_beingTold_18 rfl (by decide) rfl ?_
    refine v_aload_n (j := 1) (x := a 0) G dX9_beingTold_19 rfl rfl ?_
    refine v_ldcS (tx := txC 7) (bs := (wdC 7).map jI) G jS9_7 dX9_beingTold_20 (fun sq_11 hR_12 hS_13 => ?_)
    refine v_bipush G dX9_beingTold_22 (by decide) ?_
    refine v_iload_n (j := 0) (x := jI ((tkB (bB tp tn) tn 6 0 15 q).1)) G dX9_beingTold_24 rfl rfl ?_
    refine v_ciF G (rn_VX (X := xStr sq_11 ((wdC 7).map jI)) (xStr_s sq_11 ((wdC 7).map jI)) hS_13 (As := [.ref sq_11, .int (jI 15), .int (jI ((tkB (bB tp tn) tn 6 0 15 q).1))]) (rest := []) (q0 := 0) G (c_X9_perhaps (z := 15) (d := (tkB (bB tp tn) tn 6 0 15 q).1) (w := w) (kp := kp) (bf := bf) (ah := ah) (ik := ik) (fd := fd) (sp := sp) (lt := lt) (tp := tp) (tn := tn) (he := he2_4) (ft := ft2_5) (vz := vl2_6) (bt := bt) (lg := lg) (ce := ce) (bw := bw) (a := a) (q := (tkB (bB tp tn) tn 6 0 15 q).2) (tq := sq_11) (tc := 7) (ht := ht) (hh := e_8f.1) (hf := (e_8f.2.1 (by omega)).1) (hq := (e_8f.2.1 (by omega)).2.2) (htc := (by decide)) (hv := (by omega))) gX9_beingTold_X9_perhaps rfl hdX9_perhaps ⟨rfl, rfl, Nat.le_of_ble_eq_true rfl, Nat.le_of_ble_eq_true rfl⟩ rfl rfl (Nat.le_of_ble_eq_true rfl) ⟨Nat.zero_le _, Nat.zero_le _⟩ rfl rfl dX9_beingTold_25) (fun r_17 u_19 e_18 => ?_)
    obtain ⟨he2_14, ft2_15, vl2_16⟩ := u_19
    have e_18 : r_17 = jI ((tkP (bB tp tn) tn (7 : Int) 15 ((tkB (bB tp tn) tn 6 0 15 q).1) ((tkB (bB tp tn) tn 6 0 15 q).2)).1) ∧ (0 ≤ he2_14 ∧ he2_14 ≤ tn) ∧ (0 ≤ (tkP (bB tp tn) tn (7 : Int) 15 ((tkB (bB tp tn) tn 6 0 15 q).1) ((tkB (bB tp tn) tn 6 0 15 q).2)).1 → ft2_15 = -1 ∧ sk (bB tp tn) he2_14 = (tkP (bB tp tn) tn (7 : Int) 15 ((tkB (bB tp tn) tn 6 0 15 q).1) ((tkB (bB tp tn) tn 6 0 15 q).2)).2) ∧ (¬ 0 ≤ (tkP (bB tp tn) tn (7 : Int) 15 ((tkB (bB tp tn) tn 6 0 15 q).1) ((tkB (bB tp tn) tn 6 0 15 q).2)).1 → ft2_15 = (tkP (bB tp tn) tn (7 : Int) 15 ((tkB (bB tp tn) tn 6 0 15 q).1) ((tkB (bB tp tn) tn 6 0 15 q).2)).2) := e_18
    obtain ⟨e_180, e_18f⟩ := e_18
    subst e_180
    refine v_world (ws' := (wR cI cL a w kp bf ah ik fd sp lt tp tn he2_14 ft2_15 vl2_16 bt lg ce bw)) rfl ?_
    have v2 := tkP_r (bB tp tn) tn 7 15 (tkB (bB tp tn) tn 6 0 15 q).1 (tkB (bB tp tn) tn 6 0 15 q).2 (by omega)
    have s2 := tkP_q (w := 7) (z := 15) (d := (tkB (bB tp tn) tn 6 0 15 q).1) hB s1.1 (by omega)
    have s2r := s2.1.1
    refine v_istore_n (lv' := [(3, .int (jI ((tkP (bB tp tn) tn (7 : Int) 15 ((tkB (bB tp tn) tn 6 0 15 q).1) ((tkB (bB tp tn) tn 6 0 15 q).2)).1))), (2, .int (jI ((tkB (bB tp tn) tn 6 0 15 q).1))), (0, .ref (a 0)), (1, .int (jI k))]) G dX9_beingTold_28 rfl (by decide) rfl ?_
    refine v_aload_n (j := 2) (x := a 0) G dX9_beingTold_29 rfl rfl ?_
    refine v_get (q0 := 0) (k := 11) (v := .int (jI ft2_15)) G k_X9 rfl rfl (by decide) q_2 rfl rfl dX9_beingTold_30 ?_
    refine v_if_ge (a := ft2_15) (tgt := 50) G dX9_beingTold_33 (by decide) (by omega) (fun c_20 => ?_) (fun c_20 => ?_)
    · skip
      have g1 : ¬ 0 ≤ (tkP (bB tp tn) tn 7 15 (tkB (bB tp tn) tn 6 0 15 q).1 (tkB (bB tp tn) tn 6 0 15 q).2).1 := fun z_ => by have e9 := (e_18f.2.1 z_).1; omega
      refine v_iconst G dX9_beingTold_50 ?_
      refine v_istore (lv' := [(4, .int (jI (-1))), (3, .int (jI ((tkP (bB tp tn) tn (7 : Int) 15 ((tkB (bB tp tn) tn 6 0 15 q).1) ((tkB (bB tp tn) tn 6 0 15 q).2)).1))), (2, .int (jI ((tkB (bB tp tn) tn 6 0 15 q).1))), (0, .ref (a 0)), (1, .int (jI k))]) G dX9_beingTold_51 (by decide) rfl ?_
      refine v_aload_n (j := 3) (x := a 0) G dX9_beingTold_53 rfl rfl ?_
      refine v_get (q0 := 0) (k := 11) (v := .int (jI ft2_15)) G k_X9 rfl rfl (by decide) q_2 rfl rfl dX9_beingTold_54 ?_
      refine v_if_ge (a := ft2_15) (tgt := 74) G dX9_beingTold_57 (by decide) (by omega) (fun c_21 => ?_) (fun c_21 => ?_)
      · skip
        refine v_iconst G dX9_beingTold_74 ?_
        refine v_istore (lv' := [(5, .int (jI (-1))), (4, .int (jI (-1))), (3, .int (jI ((tkP (bB tp tn) tn (7 : Int) 15 ((tkB (bB tp tn) tn 6 0 15 q).1) ((tkB (bB tp tn) tn 6 0 15 q).2)).1))), (2, .int (jI ((tkB (bB tp tn) tn 6 0 15 q).1))), (0, .ref (a 0)), (1, .int (jI k))]) G dX9_beingTold_75 (by decide) rfl ?_
        refine v_aload_n (j := 4) (x := a 0) G dX9_beingTold_77 rfl rfl ?_
        refine v_get (q0 := 0) (k := 11) (v := .int (jI ft2_15)) G k_X9 rfl rfl (by decide) q_2 rfl rfl dX9_beingTold_78 ?_
        refine v_if_lt (a := ft2_15) (tgt := 86) G dX9_beingTold_81 (by decide) (by omega) (fun c_22 => ?_) (fun c_22 => ?_)
        · skip
          exfalso; omega
        · skip
          refine v_iconst G dX9_beingTold_84 ?_
          exact v_zret G (he2_14, ft2_15, vl2_16, w) nb_0 (by have hit : (itB1 (bB tp tn) tn k (tkB (bB tp tn) tn 6 0 15 q)) = fl (tkP (bB tp tn) tn 7 15 (tkB (bB tp tn) tn 6 0 15 q).1 (tkB (bB tp tn) tn 6 0 15 q).2).2 := (by rw [itB1_t (by omega)]; exact itB2_f (by omega)); rw [hit]; exact ⟨congrArg jI (b2_f (P := (fl (tkP (bB tp tn) tn 7 15 (tkB (bB tp tn) tn 6 0 15 q).1 (tkB (bB tp tn) tn 6 0 15 q).2).2).1 = 1) (by rw [fl_1]; omega)).symm, e_18f.1, fun z_ => absurd z_ (by rw [fl_1]; omega), fun _ => e_18f.2.2 (by omega)⟩) rfl dX9_beingTold_85
      · skip
        exfalso; omega
    · skip
      have g1 : 0 ≤ (tkP (bB tp tn) tn 7 15 (tkB (bB tp tn) tn 6 0 15 q).1 (tkB (bB tp tn) tn 6 0 15 q).2).1 := Classical.byContradiction (fun z_ => by have e9 := e_18f.2.2 z_; omega)
      refine v_aload_n (j := 2) (x := a 0) G dX9_beingTold_36 rfl rfl ?_
      refine v_ldcSw (tx := txC 8) (bs := (wdC 8).map jI) G jS9_8 dX9_beingTold_37 (fun sq_23 hR_24 hS_25 => ?_)
      refine v_bipush G dX9_beingTold_40 (by decide) ?_
      refine v_bipush G dX9_beingTold_42 (by decide) ?_
      refine v_ciF G (rn_VX (X := xStr sq_23 ((wdC 8).map jI)) (xStr_s sq_23 ((wdC 8).map jI)) hS_25 (As := [.ref sq_23, .int (jI 99), .int (jI 20)]) (rest := []) (q0 := 0) G (c_X9_perhaps (z := 99) (d := 20) (w := w) (kp := kp) (bf := bf) (ah := ah) (ik := ik) (fd := fd) (sp := sp) (lt := lt) (tp := tp) (tn := tn) (he := he2_14) (ft := ft2_15) (vz := vl2_16) (bt := bt) (lg := lg) (ce := ce) (bw := bw) (a := a) (q := (tkP (bB tp tn) tn 7 15 (tkB (bB tp tn) tn 6 0 15 q).1 (tkB (bB tp tn) tn 6 0 15 q).2).2) (tq := sq_23) (tc := 8) (ht := ht) (hh := e_18f.1) (hf := (e_18f.2.1 (by assumption)).1) (hq := (e_18f.2.1 (by assumption)).2) (htc := (by decide)) (hv := (by omega))) gX9_beingTold_X9_perhaps rfl hdX9_perhaps ⟨rfl, rfl, Nat.le_of_ble_eq_true rfl, Nat.le_of_ble_eq_true rfl⟩ rfl rfl (Nat.le_of_ble_eq_true rfl) ⟨Nat.zero_le _, Nat.zero_le _⟩ rfl rfl dX9_beingTold_44) (fun r_29 u_31 e_30 => ?_)
      obtain ⟨he2_26, ft2_27, vl2_28⟩ := u_31
      have e_30 : r_29 = jI ((tkP (bB tp tn) tn (8 : Int) 99 20 ((tkP (bB tp tn) tn 7 15 (tkB (bB tp tn) tn 6 0 15 q).1 (tkB (bB tp tn) tn 6 0 15 q).2).2)).1) ∧ (0 ≤ he2_26 ∧ he2_26 ≤ tn) ∧ (0 ≤ (tkP (bB tp tn) tn (8 : Int) 99 20 ((tkP (bB tp tn) tn 7 15 (tkB (bB tp tn) tn 6 0 15 q).1 (tkB (bB tp tn) tn 6 0 15 q).2).2)).1 → ft2_27 = -1 ∧ sk (bB tp tn) he2_26 = (tkP (bB tp tn) tn (8 : Int) 99 20 ((tkP (bB tp tn) tn 7 15 (tkB (bB tp tn) tn 6 0 15 q).1 (tkB (bB tp tn) tn 6 0 15 q).2).2)).2) ∧ (¬ 0 ≤ (tkP (bB tp tn) tn (8 : Int) 99 20 ((tkP (bB tp tn) tn 7 15 (tkB (bB tp tn) tn 6 0 15 q).1 (tkB (bB tp tn) tn 6 0 15 q).2).2)).1 → ft2_27 = (tkP (bB tp tn) tn (8 : Int) 99 20 ((tkP (bB tp tn) tn 7 15 (tkB (bB tp tn) tn 6 0 15 q).1 (tkB (bB tp tn) tn 6 0 15 q).2).2)).2) := e_30
      obtain ⟨e_300, e_30f⟩ := e_30
      subst e_300
      refine v_world (ws' := (wR cI cL a w kp bf ah ik fd sp lt tp tn he2_26 ft2_27 vl2_28 bt lg ce bw)) rfl ?_
      have v3 := tkP_r (bB tp tn) tn 8 99 20 (tkP (bB tp tn) tn 7 15 (tkB (bB tp tn) tn 6 0 15 q).1 (tkB (bB tp tn) tn 6 0 15 q).2).2 (by omega)
      have s3 := tkP_q (w := 8) (z := 99) (d := 20) hB s2.1 (by omega)
      have s3r := s3.1.1
      refine v_goto (tgt := 51) G dX9_beingTold_47 (by decide) ?_
      refine v_istore (lv' := [(4, .int (jI ((tkP (bB tp tn) tn (8 : Int) 99 20 ((tkP (bB tp tn) tn 7 15 (tkB (bB tp tn) tn 6 0 15 q).1 (tkB (bB tp tn) tn 6 0 15 q).2).2)).1))), (3, .int (jI ((tkP (bB tp tn) tn (7 : Int) 15 ((tkB (bB tp tn) tn 6 0 15 q).1) ((tkB (bB tp tn) tn 6 0 15 q).2)).1))), (2, .int (jI ((tkB (bB tp tn) tn 6 0 15 q).1))), (0, .ref (a 0)), (1, .int (jI k))]) G dX9_beingTold_51 (by decide) rfl ?_
      refine v_aload_n (j := 3) (x := a 0) G dX9_beingTold_53 rfl rfl ?_
      refine v_get (q0 := 0) (k := 11) (v := .int (jI ft2_27)) G k_X9 rfl rfl (by decide) q_2 rfl rfl dX9_beingTold_54 ?_
      refine v_if_ge (a := ft2_27) (tgt := 74) G dX9_beingTold_57 (by decide) (by omega) (fun c_32 => ?_) (fun c_32 => ?_)
      · skip
        have g2 : ¬ 0 ≤ (tkP (bB tp tn) tn 8 99 20 (tkP (bB tp tn) tn 7 15 (tkB (bB tp tn) tn 6 0 15 q).1 (tkB (bB tp tn) tn 6 0 15 q).2).2).1 := fun z_ => by have e9 := (e_30f.2.1 z_).1; omega
        refine v_iconst G dX9_beingTold_74 ?_
        refine v_istore (lv' := [(5, .int (jI (-1))), (4, .int (jI ((tkP (bB tp tn) tn (8 : Int) 99 20 ((tkP (bB tp tn) tn 7 15 (tkB (bB tp tn) tn 6 0 15 q).1 (tkB (bB tp tn) tn 6 0 15 q).2).2)).1))), (3, .int (jI ((tkP (bB tp tn) tn (7 : Int) 15 ((tkB (bB tp tn) tn 6 0 15 q).1) ((tkB (bB tp tn) tn 6 0 15 q).2)).1))), (2, .int (jI ((tkB (bB tp tn) tn 6 0 15 q).1))), (0, .ref (a 0)), (1, .int (jI k))]) G dX9_beingTold_75 (by decide) rfl ?_
        refine v_aload_n (j := 4) (x := a 0) G dX9_beingTold_77 rfl rfl ?_
        refine v_get (q0 := 0) (k := 11) (v := .int (jI ft2_27)) G k_X9 rfl rfl (by decide) q_2 rfl rfl dX9_beingTold_78 ?_
        refine v_if_lt (a := ft2_27) (tgt := 86) G dX9_beingTold_81 (by decide) (by omega) (fun c_33 => ?_) (fun c_33 => ?_)
        · skip
          exfalso; omega
        · skip
          refine v_iconst G dX9_beingTold_84 ?_
          exact v_zret G (he2_26, ft2_27, vl2_28, w) nb_0 (by have hit : (itB1 (bB tp tn) tn k (tkB (bB tp tn) tn 6 0 15 q)) = fl (tkP (bB tp tn) tn 8 99 20 (tkP (bB tp tn) tn 7 15 (tkB (bB tp tn) tn 6 0 15 q).1 (tkB (bB tp tn) tn 6 0 15 q).2).2).2 := (by rw [itB1_t (by omega), itB2_t (by omega)]; exact itB3_f (by omega)); rw [hit]; exact ⟨congrArg jI (b2_f (P := (fl (tkP (bB tp tn) tn 8 99 20 (tkP (bB tp tn) tn 7 15 (tkB (bB tp tn) tn 6 0 15 q).1 (tkB (bB tp tn) tn 6 0 15 q).2).2).2).1 = 1) (by rw [fl_1]; omega)).symm, e_30f.1, fun z_ => absurd z_ (by rw [fl_1]; omega), fun _ => e_30f.2.2 (by omega)⟩) rfl dX9_beingTold_85
      · skip
        have g2 : 0 ≤ (tkP (bB tp tn) tn 8 99 20 (tkP (bB tp tn) tn 7 15 (tkB (bB tp tn) tn 6 0 15 q).1 (tkB (bB tp tn) tn 6 0 15 q).2).2).1 := Classical.byContradiction (fun z_ => by have e9 := e_30f.2.2 z_; omega)
        refine v_aload_n (j := 3) (x := a 0) G dX9_beingTold_60 rfl rfl ?_
        refine v_ldcSw (tx := txC 9) (bs := (wdC 9).map jI) G jS9_9 dX9_beingTold_61 (fun sq_34 hR_35 hS_36 => ?_)
        refine v_sipush G dX9_beingTold_64 (by decide) ?_
        refine v_iconst G dX9_beingTold_67 ?_
        refine v_ciF G (rn_VX (X := xStr sq_34 ((wdC 9).map jI)) (xStr_s sq_34 ((wdC 9).map jI)) hS_36 (As := [.ref sq_34, .int (jI 999), .int (jI 0)]) (rest := []) (q0 := 0) G (c_X9_perhaps (z := 999) (d := 0) (w := w) (kp := kp) (bf := bf) (ah := ah) (ik := ik) (fd := fd) (sp := sp) (lt := lt) (tp := tp) (tn := tn) (he := he2_26) (ft := ft2_27) (vz := vl2_28) (bt := bt) (lg := lg) (ce := ce) (bw := bw) (a := a) (q := (tkP (bB tp tn) tn 8 99 20 (tkP (bB tp tn) tn 7 15 (tkB (bB tp tn) tn 6 0 15 q).1 (tkB (bB tp tn) tn 6 0 15 q).2).2).2) (tq := sq_34) (tc := 9) (ht := ht) (hh := e_30f.1) (hf := (e_30f.2.1 (by assumption)).1) (hq := (e_30f.2.1 (by assumption)).2) (htc := (by decide)) (hv := (by omega))) gX9_beingTold_X9_perhaps rfl hdX9_perhaps ⟨rfl, rfl, Nat.le_of_ble_eq_true rfl, Nat.le_of_ble_eq_true rfl⟩ rfl rfl (Nat.le_of_ble_eq_true rfl) ⟨Nat.zero_le _, Nat.zero_le _⟩ rfl rfl dX9_beingTold_68) (fun r_40 u_42 e_41 => ?_)
        obtain ⟨he2_37, ft2_38, vl2_39⟩ := u_42
        have e_41 : r_40 = jI ((tkP (bB tp tn) tn (9 : Int) 999 0 ((tkP (bB tp tn) tn 8 99 20 (tkP (bB tp tn) tn 7 15 (tkB (bB tp tn) tn 6 0 15 q).1 (tkB (bB tp tn) tn 6 0 15 q).2).2).2)).1) ∧ (0 ≤ he2_37 ∧ he2_37 ≤ tn) ∧ (0 ≤ (tkP (bB tp tn) tn (9 : Int) 999 0 ((tkP (bB tp tn) tn 8 99 20 (tkP (bB tp tn) tn 7 15 (tkB (bB tp tn) tn 6 0 15 q).1 (tkB (bB tp tn) tn 6 0 15 q).2).2).2)).1 → ft2_38 = -1 ∧ sk (bB tp tn) he2_37 = (tkP (bB tp tn) tn (9 : Int) 999 0 ((tkP (bB tp tn) tn 8 99 20 (tkP (bB tp tn) tn 7 15 (tkB (bB tp tn) tn 6 0 15 q).1 (tkB (bB tp tn) tn 6 0 15 q).2).2).2)).2) ∧ (¬ 0 ≤ (tkP (bB tp tn) tn (9 : Int) 999 0 ((tkP (bB tp tn) tn 8 99 20 (tkP (bB tp tn) tn 7 15 (tkB (bB tp tn) tn 6 0 15 q).1 (tkB (bB tp tn) tn 6 0 15 q).2).2).2)).1 → ft2_38 = (tkP (bB tp tn) tn (9 : Int) 999 0 ((tkP (bB tp tn) tn 8 99 20 (tkP (bB tp tn) tn 7 15 (tkB (bB tp tn) tn 6 0 15 q).1 (tkB (bB tp tn) tn 6 0 15 q).2).2).2)).2) := e_41
        obtain ⟨e_410, e_41f⟩ := e_41
        subst e_410
        refine v_world (ws' := (wR cI cL a w kp bf ah ik fd sp lt tp tn he2_37 ft2_38 vl2_39 bt lg ce bw)) rfl ?_
        have v4 := tkP_r (bB tp tn) tn 9 999 0 (tkP (bB tp tn) tn 8 99 20 (tkP (bB tp tn) tn 7 15 (tkB (bB tp tn) tn 6 0 15 q).1 (tkB (bB tp tn) tn 6 0 15 q).2).2).2 (by omega)
        have s4 := tkP_q (w := 9) (z := 999) (d := 0) hB s3.1 (by omega)
        have s4r := s4.1.1
        refine v_goto (tgt := 75) G dX9_beingTold_71 (by decide) ?_
        refine v_istore (lv' := [(5, .int (jI ((tkP (bB tp tn) tn (9 : Int) 999 0 ((tkP (bB tp tn) tn 8 99 20 (tkP (bB tp tn) tn 7 15 (tkB (bB tp tn) tn 6 0 15 q).1 (tkB (bB tp tn) tn 6 0 15 q).2).2).2)).1))), (4, .int (jI ((tkP (bB tp tn) tn (8 : Int) 99 20 ((tkP (bB tp tn) tn 7 15 (tkB (bB tp tn) tn 6 0 15 q).1 (tkB (bB tp tn) tn 6 0 15 q).2).2)).1))), (3, .int (jI ((tkP (bB tp tn) tn (7 : Int) 15 ((tkB (bB tp tn) tn 6 0 15 q).1) ((tkB (bB tp tn) tn 6 0 15 q).2)).1))), (2, .int (jI ((tkB (bB tp tn) tn 6 0 15 q).1))), (0, .ref (a 0)), (1, .int (jI k))]) G dX9_beingTold_75 (by decide) rfl ?_
        refine v_aload_n (j := 4) (x := a 0) G dX9_beingTold_77 rfl rfl ?_
        refine v_get (q0 := 0) (k := 11) (v := .int (jI ft2_38)) G k_X9 rfl rfl (by decide) q_2 rfl rfl dX9_beingTold_78 ?_
        refine v_if_lt (a := ft2_38) (tgt := 86) G dX9_beingTold_81 (by decide) (by omega) (fun c_43 => ?_) (fun c_43 => ?_)
        · skip
          have g3 : 0 ≤ (tkP (bB tp tn) tn 9 999 0 (tkP (bB tp tn) tn 8 99 20 (tkP (bB tp tn) tn 7 15 (tkB (bB tp tn) tn 6 0 15 q).1 (tkB (bB tp tn) tn 6 0 15 q).2).2).2).1 := Classical.byContradiction (fun z_ => by have e9 := e_41f.2.2 z_; omega)
          refine v_aload_n (j := 4) (x := a 0) G dX9_beingTold_86 rfl rfl ?_
          refine v_iload_n (j := 5) (x := jI k) G dX9_beingTold_87 rfl rfl ?_
          refine v_iload_n (j := 3) (x := jI ((tkB (bB tp tn) tn 6 0 15 q).1)) G dX9_beingTold_88 rfl rfl ?_
          refine v_iload_n (j := 2) (x := jI ((tkP (bB tp tn) tn (7 : Int) 15 ((tkB (bB tp tn) tn 6 0 15 q).1) ((tkB (bB tp tn) tn 6 0 15 q).2)).1)) G dX9_beingTold_89 rfl rfl ?_
          refine v_iload (j := 1) (x := jI ((tkP (bB tp tn) tn (8 : Int) 99 20 ((tkP (bB tp tn) tn 7 15 (tkB (bB tp tn) tn 6 0 15 q).1 (tkB (bB tp tn) tn 6 0 15 q).2).2)).1)) G dX9_beingTold_90 rfl ?_
          refine v_iload (j := 0) (x := jI ((tkP (bB tp tn) tn (9 : Int) 999 0 ((tkP (bB tp tn) tn 8 99 20 (tkP (bB tp tn) tn 7 15 (tkB (bB tp tn) tn 6 0 15 q).1 (tkB (bB tp tn) tn 6 0 15 q).2).2).2)).1)) G dX9_beingTold_92 rfl ?_
          refine v_cvF G (rn_V (As := [.int (jI k), .int (jI ((tkB (bB tp tn) tn 6 0 15 q).1)), .int (jI ((tkP (bB tp tn) tn (7 : Int) 15 ((tkB (bB tp tn) tn 6 0 15 q).1) ((tkB (bB tp tn) tn 6 0 15 q).2)).1)), .int (jI ((tkP (bB tp tn) tn (8 : Int) 99 20 ((tkP (bB tp tn) tn 7 15 (tkB (bB tp tn) tn 6 0 15 q).1 (tkB (bB tp tn) tn 6 0 15 q).2).2)).1)), .int (jI ((tkP (bB tp tn) tn (9 : Int) 999 0 ((tkP (bB tp tn) tn 8 99 20 (tkP (bB tp tn) tn 7 15 (tkB (bB tp tn) tn 6 0 15 q).1 (tkB (bB tp tn) tn 6 0 15 q).2).2).2)).1))]) (rest := []) (q0 := 0) G (c_X9_adds (k := k) (p := (tkB (bB tp tn) tn 6 0 15 q).1) (g := (tkP (bB tp tn) tn (7 : Int) 15 ((tkB (bB tp tn) tn 6 0 15 q).1) ((tkB (bB tp tn) tn 6 0 15 q).2)).1) (m := (tkP (bB tp tn) tn (8 : Int) 99 20 ((tkP (bB tp tn) tn 7 15 (tkB (bB tp tn) tn 6 0 15 q).1 (tkB (bB tp tn) tn 6 0 15 q).2).2)).1) (f := (tkP (bB tp tn) tn (9 : Int) 999 0 ((tkP (bB tp tn) tn 8 99 20 (tkP (bB tp tn) tn 7 15 (tkB (bB tp tn) tn 6 0 15 q).1 (tkB (bB tp tn) tn 6 0 15 q).2).2).2)).1) (w := w) (kp := kp) (bf := bf) (ah := ah) (ik := ik) (fd := fd) (sp := sp) (lt := lt) (tp := tp) (tn := tn) (he := he2_37) (ft := ft2_38) (vl := vl2_39) (bt := bt) (lg := lg) (ce := ce) (bw := bw) (a := a) (hw := hw) (hn := hn9)) gX9_beingTold_X9_adds rfl hdX9_adds ⟨rfl, rfl, Nat.le_of_ble_eq_true rfl, Nat.le_of_ble_eq_true rfl⟩ rfl rfl (Nat.le_of_ble_eq_true rfl) ⟨Nat.zero_le _, Nat.zero_le _⟩ rfl rfl dX9_beingTold_94) (fun u_46 e_45 => ?_)
          refine v_world (ws' := (wR cI cL a (addBx w k ((tkB (bB tp tn) tn 6 0 15 q).1) ((tkP (bB tp tn) tn (7 : Int) 15 ((tkB (bB tp tn) tn 6 0 15 q).1) ((tkB (bB tp tn) tn 6 0 15 q).2)).1) ((tkP (bB tp tn) tn (8 : Int) 99 20 ((tkP (bB tp tn) tn 7 15 (tkB (bB tp tn) tn 6 0 15 q).1 (tkB (bB tp tn) tn 6 0 15 q).2).2)).1) ((tkP (bB tp tn) tn (9 : Int) 999 0 ((tkP (bB tp tn) tn 8 99 20 (tkP (bB tp tn) tn 7 15 (tkB (bB tp tn) tn 6 0 15 q).1 (tkB (bB tp tn) tn 6 0 15 q).2).2).2)).1)) kp bf ah ik fd sp lt tp tn he2_37 ft2_38 vl2_39 bt lg ce bw)) rfl ?_
          refine v_iconst G dX9_beingTold_97 ?_
          exact v_zret G (he2_37, ft2_38, vl2_39, addBx w k ((tkB (bB tp tn) tn 6 0 15 q).1) ((tkP (bB tp tn) tn (7 : Int) 15 ((tkB (bB tp tn) tn 6 0 15 q).1) ((tkB (bB tp tn) tn 6 0 15 q).2)).1) ((tkP (bB tp tn) tn (8 : Int) 99 20 ((tkP (bB tp tn) tn 7 15 (tkB (bB tp tn) tn 6 0 15 q).1 (tkB (bB tp tn) tn 6 0 15 q).2).2)).1) ((tkP (bB tp tn) tn (9 : Int) 999 0 ((tkP (bB tp tn) tn 8 99 20 (tkP (bB tp tn) tn 7 15 (tkB (bB tp tn) tn 6 0 15 q).1 (tkB (bB tp tn) tn 6 0 15 q).2).2).2)).1)) nb_1 (by have hit : (itB1 (bB tp tn) tn k (tkB (bB tp tn) tn 6 0 15 q)) = (1, (tkP (bB tp tn) tn 9 999 0 (tkP (bB tp tn) tn 8 99 20 (tkP (bB tp tn) tn 7 15 (tkB (bB tp tn) tn 6 0 15 q).1 (tkB (bB tp tn) tn 6 0 15 q).2).2).2).2, k, (tkB (bB tp tn) tn 6 0 15 q).1, (tkP (bB tp tn) tn 7 15 (tkB (bB tp tn) tn 6 0 15 q).1 (tkB (bB tp tn) tn 6 0 15 q).2).1, (tkP (bB tp tn) tn 8 99 20 (tkP (bB tp tn) tn 7 15 (tkB (bB tp tn) tn 6 0 15 q).1 (tkB (bB tp tn) tn 6 0 15 q).2).2).1, (tkP (bB tp tn) tn 9 999 0 (tkP (bB tp tn) tn 8 99 20 (tkP (bB tp tn) tn 7 15 (tkB (bB tp tn) tn 6 0 15 q).1 (tkB (bB tp tn) tn 6 0 15 q).2).2).2).1) := (by rw [itB1_t (by omega), itB2_t (by omega), itB3_t (by omega)]; exact itB4_t (by omega)); rw [hit]; exact ⟨congrArg jI (b2_t (P := (1 : Int) = 1) rfl).symm, e_41f.1, fun _ => ⟨(e_41f.2.1 (by omega)).1, (e_41f.2.1 (by omega)).2, by rw [apR_b hkd]⟩, fun z_ => absurd rfl z_⟩) rfl dX9_beingTold_98
        · skip
          have g3 : ¬ 0 ≤ (tkP (bB tp tn) tn 9 999 0 (tkP (bB tp tn) tn 8 99 20 (tkP (bB tp tn) tn 7 15 (tkB (bB tp tn) tn 6 0 15 q).1 (tkB (bB tp tn) tn 6 0 15 q).2).2).2).1 := fun z_ => by have e9 := (e_41f.2.1 z_).1; omega
          refine v_iconst G dX9_beingTold_84 ?_
          exact v_zret G (he2_37, ft2_38, vl2_39, w) nb_0 (by have hit : (itB1 (bB tp tn) tn k (tkB (bB tp tn) tn 6 0 15 q)) = fl (tkP (bB tp tn) tn 9 999 0 (tkP (bB tp tn) tn 8 99 20 (tkP (bB tp tn) tn 7 15 (tkB (bB tp tn) tn 6 0 15 q).1 (tkB (bB tp tn) tn 6 0 15 q).2).2).2).2 := (by rw [itB1_t (by omega), itB2_t (by omega), itB3_t (by omega)]; exact itB4_f (by omega)); rw [hit]; exact ⟨congrArg jI (b2_f (P := (fl (tkP (bB tp tn) tn 9 999 0 (tkP (bB tp tn) tn 8 99 20 (tkP (bB tp tn) tn 7 15 (tkB (bB tp tn) tn 6 0 15 q).1 (tkB (bB tp tn) tn 6 0 15 q).2).2).2).2).1 = 1) (by rw [fl_1]; omega)).symm, e_41f.1, fun z_ => absurd z_ (by rw [fl_1]; omega), fun _ => e_41f.2.2 (by omega)⟩) rfl dX9_beingTold_85
  · skip
    refine v_iconst G dX9_beingTold_12 ?_
    exact v_zret G (he2_4, ft2_5, vl2_6, w) nb_0 (by have hit : (itB1 (bB tp tn) tn k (tkB (bB tp tn) tn 6 0 15 q)) = fl (tkB (bB tp tn) tn 6 0 15 q).2 := (itB1_f (by omega)); rw [hit]; exact ⟨congrArg jI (b2_f (P := (fl (tkB (bB tp tn) tn 6 0 15 q).2).1 = 1) (by rw [fl_1]; omega)).symm, e_8f.1, fun z_ => absurd z_ (by rw [fl_1]; omega), fun _ => e_8f.2.2 (by omega)⟩) rfl dX9_beingTold_13

set_option maxHeartbeats 4000000 in
set_option maxRecDepth 100000 in
theorem c_X9_item  {q : Int} (ht : Tr tp tn) (hh : 0 ≤ he ∧ he ≤ tn) (hf : ft = -1) (hq : sk (bB tp tn) he = q) (hw : Wf w) : Ci l yX9_item wsX9_item { frames := 9, cells := 0, slots := 0, locals := 199 } D (jT cI cL cB cS) [.ref (a 0)] (wR cI cL a w kp bf ah ik fd sp lt tp tn he ft vz bt lg ce bw) (S := Int × Int × Int × (Int → Int)) (fun (u : Int × Int × Int × (Int → Int)) => (wR cI cL a u.2.2.2 kp bf ah ik fd sp lt tp tn u.1 u.2.1 u.2.2.1 bt lg ce bw)) (fun r (u : Int × Int × Int × (Int → Int)) => r = jI (b2 ((itm (bB tp tn) tn (w 1) (w 2) q).1 = 1)) ∧ (0 ≤ u.1 ∧ u.1 ≤ tn) ∧ ((itm (bB tp tn) tn (w 1) (w 2) q).1 = 1 → u.2.1 = -1 ∧ sk (bB tp tn) u.1 = (itm (bB tp tn) tn (w 1) (w 2) q).2.1 ∧ u.2.2.2 = apR w (itm (bB tp tn) tn (w 1) (w 2) q).2.2) ∧ (¬ (itm (bB tp tn) tn (w 1) (w 2) q).1 = 1 → u.2.1 = (itm (bB tp tn) tn (w 1) (w 2) q).2.1)) := by
  refine Ci.mk (cc := cX9_item) (maxL := 2) (rt := .boolean) (by decide) rfl (Nat.le_of_ble_eq_true rfl) rfl ?_
  intro p_ e_ s_ m_ b_ me_ c_ A_ G hnm
  have hn := ht.1
  have hB := Tr_k ht
  obtain ⟨hq1, hq2, hq3, hq4⟩ := sk_p hB hh
  rw [hq] at hq1 hq2 hq3 hq4
  have hqq : sk (bB tp tn) q = q := sk_i hq4
  have hQ : Qk (bB tp tn) tn q := ⟨⟨by omega, hq2⟩, hq4⟩
  have hm := hw.many
  have hm2 := hw.tasks
  have k_X9 : ∀ w ∈ u_ws RX9 TX9 17, w ∈ wsX9_item := fun _ h => List.mem_cons_of_mem _ (List.mem_append_right _ h)
  have q_1 : Cond.fieldLink RX9 9 "SupperLightModel" "s" "[I" ∈ wsX9_item := List.mem_of_getElem? (i := 1) rfl
  have q_2 : Cond.fieldLink RX9 226 "SupperLightModel" "value" "I" ∈ wsX9_item := List.mem_of_getElem? (i := 2) rfl
  refine v_iconst G dX9_item_0 ?_
  refine v_istore_n (lv' := [(1, .int (jI 0)), (0, .ref (a 0))]) G dX9_item_1 rfl (by decide) rfl ?_
  refine v_locs (lv' := [(1, .int (jI 0)), (0, .ref (a 0))]) [0, 1] rfl ?_
  refine v_loop2 (fun (k : Nat) (h : Int) => [(1, .int (jI (k : Int))), (0, .ref (a 0))]) (fun (k : Nat) (h : Int) => (wR cI cL a w kp bf ah ik fd sp lt tp tn h ft vz bt lg ce bw)) (fun (k : Nat) (h : Int) => k ≤ 6 ∧ (0 ≤ h ∧ h ≤ tn) ∧ sk (bB tp tn) h = q ∧ ∀ j_ : Nat, j_ < k → cd (bB tp tn) tn q ≠ (j_ : Int)) (fun (k : Nat) (h : Int) => 6 - k) 0 he ⟨by omega, hh, hq, fun j_ z_ => by omega⟩ rfl rfl ?_
  intro k h I_1 ih_2
  obtain ⟨hk1, hhh, hhq, hnk⟩ := id I_1
  refine v_iload_n (j := 0) (x := jI (k : Int)) G dX9_item_2 rfl rfl ?_
  refine v_iconst G dX9_item_3 ?_
  refine v_icmp_gt (a := (k : Int)) (b := 5) (tgt := 57) G dX9_item_4 (by decide) (by omega) (fun c_3 => ?_) (fun c_3 => ?_)
  · skip
    have hcr := cd_r (bB tp tn) tn q
    have hx6 : ¬ (0 ≤ cd (bB tp tn) tn q ∧ cd (bB tp tn) tn q ≤ 5) := fun z_ => hnk (cd (bB tp tn) tn q).toNat (by omega) (by omega)
    refine v_aload_n (j := 1) (x := a 0) G dX9_item_57 rfl rfl ?_
    refine v_ldcSw (tx := txC 11) (bs := (wdC 11).map jI) G jS9_11 dX9_item_58 (fun sq_4 hR_5 hS_6 => ?_)
    refine v_ciF G (rn_VX (X := xStr sq_4 ((wdC 11).map jI)) (xStr_s sq_4 ((wdC 11).map jI)) hS_6 (As := [.ref sq_4]) (rest := []) (q0 := 0) G (c_X9_isWord (w := w) (kp := kp) (bf := bf) (ah := ah) (ik := ik) (fd := fd) (sp := sp) (lt := lt) (tp := tp) (tn := tn) (he := h) (ft := ft) (vz := vz) (bt := bt) (lg := lg) (ce := ce) (bw := bw) (a := a) (q := q) (tq := sq_4) (tc := 11) (ht := ht) (hh := hhh) (hq := hhq) (htc := (by decide))) gX9_item_X9_isWord rfl hdX9_isWord ⟨rfl, rfl, Nat.le_of_ble_eq_true rfl, Nat.le_of_ble_eq_true rfl⟩ rfl rfl (Nat.le_of_ble_eq_true rfl) ⟨Nat.zero_le _, Nat.zero_le _⟩ rfl rfl dX9_item_61) (fun r_7 u_9 e_8 => ?_)
    have e_8 : r_7 = jI (b2 (cd (bB tp tn) tn q = (11 : Int))) := e_8
    subst e_8
    refine v_world (ws' := (wR cI cL a w kp bf ah ik fd sp lt tp tn q ft vz bt lg ce bw)) rfl ?_
    refine v_ifb_eq (P := cd (bB tp tn) tn q = (11 : Int)) (tgt := 83) G dX9_item_64 (by decide) (fun c_10 => ?_) (fun c_10 => ?_)
    · skip
      refine v_aload_n (j := 1) (x := a 0) G dX9_item_83 rfl rfl ?_
      refine v_ldcSw (tx := txC 11) (bs := (wdC 11).map jI) G jS9_11 dX9_item_84 (fun sq_11 hR_12 hS_13 => ?_)
      refine v_ciF G (rn_VX (X := xStr sq_11 ((wdC 11).map jI)) (xStr_s sq_11 ((wdC 11).map jI)) hS_13 (As := [.ref sq_11]) (rest := []) (q0 := 0) G (c_X9_takes (w := w) (kp := kp) (bf := bf) (ah := ah) (ik := ik) (fd := fd) (sp := sp) (lt := lt) (tp := tp) (tn := tn) (he := q) (ft := ft) (vz := vz) (bt := bt) (lg := lg) (ce := ce) (bw := bw) (a := a) (q := q) (tq := sq_11) (tc := 11) (ht := ht) (hh := hQ.1) (hf := hf) (hq := hqq) (htc := (by decide))) gX9_item_X9_takes rfl hdX9_takes ⟨rfl, rfl, Nat.le_of_ble_eq_true rfl, Nat.le_of_ble_eq_true rfl⟩ rfl rfl (Nat.le_of_ble_eq_true rfl) ⟨Nat.zero_le _, Nat.zero_le _⟩ rfl rfl dX9_item_87) (fun r_15 u_17 e_16 => ?_)
      obtain ⟨he2_14, rfl⟩ : ∃ z, z = u_17 := ⟨_, rfl⟩
      have e_16 : r_15 = jI (b2 (cd (bB tp tn) tn q = (11 : Int))) ∧ (0 ≤ he2_14 ∧ he2_14 ≤ tn) ∧ (cd (bB tp tn) tn q = (11 : Int) → sk (bB tp tn) he2_14 = nx (bB tp tn) q) ∧ (¬ cd (bB tp tn) tn q = (11 : Int) → he2_14 = q) := e_16
      obtain ⟨e_160, e_16f⟩ := e_16
      subst e_160
      refine v_world (ws' := (wR cI cL a w kp bf ah ik fd sp lt tp tn he2_14 ft vz bt lg ce bw)) rfl ?_
      refine v_ifb_eq (P := cd (bB tp tn) tn q = (11 : Int)) (tgt := 98) G dX9_item_90 (by decide) (fun c_18 => ?_) (fun c_18 => ?_)
      · skip
        refine v_aload_n (j := 1) (x := a 0) G dX9_item_98 rfl rfl ?_
        refine v_ldcSw (tx := txC 10) (bs := (wdC 10).map jI) G jS9_10 dX9_item_99 (fun sq_19 hR_20 hS_21 => ?_)
        refine v_ciF G (rn_VX (X := xStr sq_19 ((wdC 10).map jI)) (xStr_s sq_19 ((wdC 10).map jI)) hS_21 (As := [.ref sq_19]) (rest := []) (q0 := 0) G (c_X9_takes (w := w) (kp := kp) (bf := bf) (ah := ah) (ik := ik) (fd := fd) (sp := sp) (lt := lt) (tp := tp) (tn := tn) (he := he2_14) (ft := ft) (vz := vz) (bt := bt) (lg := lg) (ce := ce) (bw := bw) (a := a) (q := q) (tq := sq_19) (tc := 10) (ht := ht) (hh := e_16f.1) (hf := hf) (hq := (by rw [e_16f.2.2 (by assumption)]; exact hqq)) (htc := (by decide))) gX9_item_X9_takes rfl hdX9_takes ⟨rfl, rfl, Nat.le_of_ble_eq_true rfl, Nat.le_of_ble_eq_true rfl⟩ rfl rfl (Nat.le_of_ble_eq_true rfl) ⟨Nat.zero_le _, Nat.zero_le _⟩ rfl rfl dX9_item_102) (fun r_23 u_25 e_24 => ?_)
        obtain ⟨he2_22, rfl⟩ : ∃ z, z = u_25 := ⟨_, rfl⟩
        have e_24 : r_23 = jI (b2 (cd (bB tp tn) tn q = (10 : Int))) ∧ (0 ≤ he2_22 ∧ he2_22 ≤ tn) ∧ (cd (bB tp tn) tn q = (10 : Int) → sk (bB tp tn) he2_22 = nx (bB tp tn) q) ∧ (¬ cd (bB tp tn) tn q = (10 : Int) → he2_22 = q) := e_24
        obtain ⟨e_240, e_24f⟩ := e_24
        subst e_240
        refine v_world (ws' := (wR cI cL a w kp bf ah ik fd sp lt tp tn he2_22 ft vz bt lg ce bw)) rfl ?_
        refine v_ifb_eq (P := cd (bB tp tn) tn q = (10 : Int)) (tgt := 113) G dX9_item_105 (by decide) (fun c_26 => ?_) (fun c_26 => ?_)
        · skip
          refine v_aload_n (j := 1) (x := a 0) G dX9_item_113 rfl rfl ?_
          refine v_ldcSw (tx := txC 14) (bs := (wdC 14).map jI) G jS9_14 dX9_item_114 (fun sq_27 hR_28 hS_29 => ?_)
          refine v_ciF G (rn_VX (X := xStr sq_27 ((wdC 14).map jI)) (xStr_s sq_27 ((wdC 14).map jI)) hS_29 (As := [.ref sq_27]) (rest := []) (q0 := 0) G (c_X9_must (w := w) (kp := kp) (bf := bf) (ah := ah) (ik := ik) (fd := fd) (sp := sp) (lt := lt) (tp := tp) (tn := tn) (he := he2_22) (ft := ft) (vz := vz) (bt := bt) (lg := lg) (ce := ce) (bw := bw) (a := a) (q := q) (tq := sq_27) (tc := 14) (ht := ht) (hh := e_24f.1) (hf := hf) (hq := (by rw [e_24f.2.2 (by assumption)]; exact hqq)) (htc := (by decide))) gX9_item_X9_must rfl hdX9_must ⟨rfl, rfl, Nat.le_of_ble_eq_true rfl, Nat.le_of_ble_eq_true rfl⟩ rfl rfl (Nat.le_of_ble_eq_true rfl) ⟨Nat.zero_le _, Nat.zero_le _⟩ rfl rfl dX9_item_117) (fun r_32 u_34 e_33 => ?_)
          obtain ⟨he2_30, ft2_31⟩ := u_34
          have e_33 : r_32 = jI (b2 (cd (bB tp tn) tn q = (14 : Int))) ∧ (0 ≤ he2_30 ∧ he2_30 ≤ tn) ∧ (cd (bB tp tn) tn q = (14 : Int) → ft2_31 = -1 ∧ sk (bB tp tn) he2_30 = nx (bB tp tn) q) ∧ (¬ cd (bB tp tn) tn q = (14 : Int) → ft2_31 = q) := e_33
          obtain ⟨e_330, e_33f⟩ := e_33
          subst e_330
          refine v_world (ws' := (wR cI cL a w kp bf ah ik fd sp lt tp tn he2_30 ft2_31 vz bt lg ce bw)) rfl ?_
          refine v_ifb_eq (P := cd (bB tp tn) tn q = (14 : Int)) (tgt := 139) G dX9_item_120 (by decide) (fun c_35 => ?_) (fun c_35 => ?_)
          · skip
            refine v_iconst G dX9_item_139 ?_
            exact v_zret G (he2_30, ft2_31, vz, w) nb_0 (by have hit : (itm (bB tp tn) tn (w 1) (w 2) q) = fl q := (itm_x hx6 ⟨by assumption, by assumption, by assumption⟩); rw [hit]; exact ⟨congrArg jI (b2_f (P := (fl q).1 = 1) (by rw [fl_1]; omega)).symm, e_33f.1, fun z_ => absurd z_ (by rw [fl_1]; omega), fun _ => e_33f.2.2 (by assumption)⟩) rfl dX9_item_140
          · skip
            refine v_aload_n (j := 1) (x := a 0) G dX9_item_123 rfl rfl ?_
            refine v_iconst G dX9_item_124 ?_
            refine v_aload_n (j := 1) (x := a 0) G dX9_item_125 rfl rfl ?_
            refine v_get (q0 := 0) (k := 0) (v := .ref (a 1)) G k_X9 rfl rfl (by decide) q_1 rfl rfl dX9_item_126 ?_
            refine v_iconst G dX9_item_129 ?_
            refine v_iald (q0 := 1) (t0 := 0) (g := w) (z := 1) G rfl rfl (by omega) dX9_item_130 ?_
            refine v_iconst G dX9_item_131 ?_
            refine v_isub (z := (w 1) - 1) G dX9_item_132 rfl ?_
            refine v_ciF G (rn_V (As := [.int (jI 0), .int (jI ((w 1) - 1))]) (rest := []) (q0 := 0) G (c_X9_number (v := 0) (z := (w 1) - 1) (w := w) (kp := kp) (bf := bf) (ah := ah) (ik := ik) (fd := fd) (sp := sp) (lt := lt) (tp := tp) (tn := tn) (he := he2_30) (ft := ft2_31) (vz := vz) (bt := bt) (lg := lg) (ce := ce) (bw := bw) (a := a) (q := nx (bB tp tn) q) (ht := ht) (hh := e_33f.1) (hf := (e_33f.2.1 (by assumption)).1) (hq := (e_33f.2.1 (by assumption)).2) (hv := (by omega))) gX9_item_X9_number rfl hdX9_number ⟨rfl, rfl, Nat.le_of_ble_eq_true rfl, Nat.le_of_ble_eq_true rfl⟩ rfl rfl (Nat.le_of_ble_eq_true rfl) ⟨Nat.zero_le _, Nat.zero_le _⟩ rfl rfl dX9_item_133) (fun r_39 u_41 e_40 => ?_)
            obtain ⟨he2_36, ft2_37, vl2_38⟩ := u_41
            have e_40 : r_39 = jI (b2 (0 ≤ (tkN (bB tp tn) tn 0 ((w 1) - 1) (nx (bB tp tn) q)).1)) ∧ (0 ≤ he2_36 ∧ he2_36 ≤ tn) ∧ (0 ≤ (tkN (bB tp tn) tn 0 ((w 1) - 1) (nx (bB tp tn) q)).1 → ft2_37 = -1 ∧ vl2_38 = (tkN (bB tp tn) tn 0 ((w 1) - 1) (nx (bB tp tn) q)).1 ∧ sk (bB tp tn) he2_36 = (tkN (bB tp tn) tn 0 ((w 1) - 1) (nx (bB tp tn) q)).2) ∧ (¬ 0 ≤ (tkN (bB tp tn) tn 0 ((w 1) - 1) (nx (bB tp tn) q)).1 → ft2_37 = (tkN (bB tp tn) tn 0 ((w 1) - 1) (nx (bB tp tn) q)).2) := e_40
            obtain ⟨e_400, e_40f⟩ := e_40
            subst e_400
            refine v_world (ws' := (wR cI cL a w kp bf ah ik fd sp lt tp tn he2_36 ft2_37 vl2_38 bt lg ce bw)) rfl ?_
            have v1 := tkN_r (bB tp tn) tn 0 (w 1 - 1) (nx (bB tp tn) q) (by omega)
            refine v_ifb_ne (P := 0 ≤ (tkN (bB tp tn) tn 0 ((w 1) - 1) (nx (bB tp tn) q)).1) (tgt := 141) G dX9_item_136 (by decide) (fun c_42 => ?_) (fun c_42 => ?_)
            · skip
              refine v_aload_n (j := 1) (x := a 0) G dX9_item_141 rfl rfl ?_
              refine v_get (q0 := 0) (k := 12) (v := .int (jI vl2_38)) G k_X9 rfl rfl (by decide) q_2 rfl rfl dX9_item_142 ?_
              refine v_istore_n (lv' := [(1, .int (jI vl2_38)), (0, .ref (a 0))]) G dX9_item_145 rfl (by decide) rfl ?_
              refine v_aload_n (j := 1) (x := a 0) G dX9_item_146 rfl rfl ?_
              refine v_iconst G dX9_item_147 ?_
              refine v_bipush G dX9_item_148 (by decide) ?_
              refine v_ciF G (rn_V (As := [.int (jI 0), .int (jI 99)]) (rest := []) (q0 := 0) G (c_X9_number (v := 0) (z := 99) (w := w) (kp := kp) (bf := bf) (ah := ah) (ik := ik) (fd := fd) (sp := sp) (lt := lt) (tp := tp) (tn := tn) (he := he2_36) (ft := ft2_37) (vz := vl2_38) (bt := bt) (lg := lg) (ce := ce) (bw := bw) (a := a) (q := (tkN (bB tp tn) tn 0 (w 1 - 1) (nx (bB tp tn) q)).2) (ht := ht) (hh := e_40f.1) (hf := (e_40f.2.1 (by omega)).1) (hq := (e_40f.2.1 (by omega)).2.2) (hv := (by omega))) gX9_item_X9_number rfl hdX9_number ⟨rfl, rfl, Nat.le_of_ble_eq_true rfl, Nat.le_of_ble_eq_true rfl⟩ rfl rfl (Nat.le_of_ble_eq_true rfl) ⟨Nat.zero_le _, Nat.zero_le _⟩ rfl rfl dX9_item_150) (fun r_46 u_48 e_47 => ?_)
              obtain ⟨he2_43, ft2_44, vl2_45⟩ := u_48
              have e_47 : r_46 = jI (b2 (0 ≤ (tkN (bB tp tn) tn 0 99 ((tkN (bB tp tn) tn 0 (w 1 - 1) (nx (bB tp tn) q)).2)).1)) ∧ (0 ≤ he2_43 ∧ he2_43 ≤ tn) ∧ (0 ≤ (tkN (bB tp tn) tn 0 99 ((tkN (bB tp tn) tn 0 (w 1 - 1) (nx (bB tp tn) q)).2)).1 → ft2_44 = -1 ∧ vl2_45 = (tkN (bB tp tn) tn 0 99 ((tkN (bB tp tn) tn 0 (w 1 - 1) (nx (bB tp tn) q)).2)).1 ∧ sk (bB tp tn) he2_43 = (tkN (bB tp tn) tn 0 99 ((tkN (bB tp tn) tn 0 (w 1 - 1) (nx (bB tp tn) q)).2)).2) ∧ (¬ 0 ≤ (tkN (bB tp tn) tn 0 99 ((tkN (bB tp tn) tn 0 (w 1 - 1) (nx (bB tp tn) q)).2)).1 → ft2_44 = (tkN (bB tp tn) tn 0 99 ((tkN (bB tp tn) tn 0 (w 1 - 1) (nx (bB tp tn) q)).2)).2) := e_47
              obtain ⟨e_470, e_47f⟩ := e_47
              subst e_470
              refine v_world (ws' := (wR cI cL a w kp bf ah ik fd sp lt tp tn he2_43 ft2_44 vl2_45 bt lg ce bw)) rfl ?_
              have v2 := tkN_r (bB tp tn) tn 0 99 (tkN (bB tp tn) tn 0 (w 1 - 1) (nx (bB tp tn) q)).2 (by omega)
              refine v_ifb_ne (P := 0 ≤ (tkN (bB tp tn) tn 0 99 ((tkN (bB tp tn) tn 0 (w 1 - 1) (nx (bB tp tn) q)).2)).1) (tgt := 158) G dX9_item_153 (by decide) (fun c_49 => ?_) (fun c_49 => ?_)
              · skip
                refine v_aload_n (j := 1) (x := a 0) G dX9_item_158 rfl rfl ?_
                refine v_iload_n (j := 0) (x := jI vl2_38) G dX9_item_159 rfl rfl ?_
                refine v_aload_n (j := 1) (x := a 0) G dX9_item_160 rfl rfl ?_
                refine v_get (q0 := 0) (k := 12) (v := .int (jI vl2_45)) G k_X9 rfl rfl (by decide) q_2 rfl rfl dX9_item_161 ?_
                refine v_cvF G (rn_V (As := [.int (jI vl2_38), .int (jI vl2_45)]) (rest := []) (q0 := 0) G (c_X9_eats (b := vl2_38) (v := vl2_45) (w := w) (kp := kp) (bf := bf) (ah := ah) (ik := ik) (fd := fd) (sp := sp) (lt := lt) (tp := tp) (tn := tn) (he := he2_43) (ft := ft2_44) (vl := vl2_45) (bt := bt) (lg := lg) (ce := ce) (bw := bw) (a := a) (hb := (by have e9 := (e_40f.2.1 (by omega)).2.1; omega))) gX9_item_X9_eats rfl hdX9_eats ⟨rfl, rfl, Nat.le_of_ble_eq_true rfl, Nat.le_of_ble_eq_true rfl⟩ rfl rfl (Nat.le_of_ble_eq_true rfl) ⟨Nat.zero_le _, Nat.zero_le _⟩ rfl rfl dX9_item_164) (fun u_52 e_51 => ?_)
                refine v_world (ws' := (wR cI cL a (eatW w vl2_38 vl2_45) kp bf ah ik fd sp lt tp tn he2_43 ft2_44 vl2_45 bt lg ce bw)) rfl ?_
                refine v_iconst G dX9_item_167 ?_
                exact v_zret G (he2_43, ft2_44, vl2_45, eatW w vl2_38 vl2_45) nb_1 (by have hit : (itm (bB tp tn) tn (w 1) (w 2) q) = (1, (tkN (bB tp tn) tn 0 99 (tkN (bB tp tn) tn 0 (w 1 - 1) (nx (bB tp tn) q)).2).2, 14, (tkN (bB tp tn) tn 0 (w 1 - 1) (nx (bB tp tn) q)).1, (tkN (bB tp tn) tn 0 99 (tkN (bB tp tn) tn 0 (w 1 - 1) (nx (bB tp tn) q)).2).1, 0, 0) := (by rw [itm_a (by assumption), itA_t (by omega)]; exact itA2_t (by omega)); rw [hit]; exact ⟨congrArg jI (b2_t (P := (1 : Int) = 1) rfl).symm, e_47f.1, fun _ => ⟨(e_47f.2.1 (by omega)).1, (e_47f.2.1 (by omega)).2.2, by rw [(e_40f.2.1 (by omega)).2.1, (e_47f.2.1 (by omega)).2.1]; rfl⟩, fun z_ => absurd rfl z_⟩) rfl dX9_item_168
              · skip
                refine v_iconst G dX9_item_156 ?_
                exact v_zret G (he2_43, ft2_44, vl2_45, w) nb_0 (by have hit : (itm (bB tp tn) tn (w 1) (w 2) q) = fl (tkN (bB tp tn) tn 0 99 (tkN (bB tp tn) tn 0 (w 1 - 1) (nx (bB tp tn) q)).2).2 := (by rw [itm_a (by assumption), itA_t (by omega)]; exact itA2_f (by omega)); rw [hit]; exact ⟨congrArg jI (b2_f (P := (fl (tkN (bB tp tn) tn 0 99 (tkN (bB tp tn) tn 0 (w 1 - 1) (nx (bB tp tn) q)).2).2).1 = 1) (by rw [fl_1]; omega)).symm, e_47f.1, fun z_ => absurd z_ (by rw [fl_1]; omega), fun _ => e_47f.2.2 (by omega)⟩) rfl dX9_item_157
            · skip
              refine v_iconst G dX9_item_139 ?_
              exact v_zret G (he2_36, ft2_37, vl2_38, w) nb_0 (by have hit : (itm (bB tp tn) tn (w 1) (w 2) q) = fl (tkN (bB tp tn) tn 0 (w 1 - 1) (nx (bB tp tn) q)).2 := (by rw [itm_a (by assumption)]; exact itA_f (by omega)); rw [hit]; exact ⟨congrArg jI (b2_f (P := (fl (tkN (bB tp tn) tn 0 (w 1 - 1) (nx (bB tp tn) q)).2).1 = 1) (by rw [fl_1]; omega)).symm, e_40f.1, fun z_ => absurd z_ (by rw [fl_1]; omega), fun _ => e_40f.2.2 (by omega)⟩) rfl dX9_item_140
        · skip
          refine v_aload_n (j := 1) (x := a 0) G dX9_item_108 rfl rfl ?_
          refine v_ciF G (rn_V (As := []) (rest := []) (q0 := 0) G (c_X9_bowlTold (w := w) (kp := kp) (bf := bf) (ah := ah) (ik := ik) (fd := fd) (sp := sp) (lt := lt) (tp := tp) (tn := tn) (he := he2_22) (ft := ft) (vz := vz) (bt := bt) (lg := lg) (ce := ce) (bw := bw) (a := a) (q := nx (bB tp tn) q) (ht := ht) (hh := e_24f.1) (hf := hf) (hq := (e_24f.2.1 (by assumption)))) gX9_item_X9_bowlTold rfl hdX9_bowlTold ⟨rfl, rfl, Nat.le_of_ble_eq_true rfl, Nat.le_of_ble_eq_true rfl⟩ rfl rfl (Nat.le_of_ble_eq_true rfl) ⟨Nat.zero_le _, Nat.zero_le _⟩ rfl rfl dX9_item_109) (fun r_57 u_59 e_58 => ?_)
          obtain ⟨he2_53, ft2_54, vl2_55, w2_56⟩ := u_59
          have e_58 : r_57 = jI (b2 ((itO (bB tp tn) tn (tkN (bB tp tn) tn 0 15 (nx (bB tp tn) q))).1 = 1)) ∧ (0 ≤ he2_53 ∧ he2_53 ≤ tn) ∧ ((itO (bB tp tn) tn (tkN (bB tp tn) tn 0 15 (nx (bB tp tn) q))).1 = 1 → ft2_54 = -1 ∧ sk (bB tp tn) he2_53 = (itO (bB tp tn) tn (tkN (bB tp tn) tn 0 15 (nx (bB tp tn) q))).2.1 ∧ w2_56 = apR w (itO (bB tp tn) tn (tkN (bB tp tn) tn 0 15 (nx (bB tp tn) q))).2.2) ∧ (¬ (itO (bB tp tn) tn (tkN (bB tp tn) tn 0 15 (nx (bB tp tn) q))).1 = 1 → ft2_54 = (itO (bB tp tn) tn (tkN (bB tp tn) tn 0 15 (nx (bB tp tn) q))).2.1) := e_58
          obtain ⟨e_580, e_58f⟩ := e_58
          subst e_580
          refine v_world (ws' := (wR cI cL a w2_56 kp bf ah ik fd sp lt tp tn he2_53 ft2_54 vl2_55 bt lg ce bw)) rfl ?_
          exact v_zret G (he2_53, ft2_54, vl2_55, w2_56) (nb_b2 _) (by rw [itm_o (by assumption)]; exact ⟨rfl, e_58f⟩) rfl dX9_item_112
      · skip
        refine v_aload_n (j := 1) (x := a 0) G dX9_item_93 rfl rfl ?_
        refine v_ciF G (rn_V (As := []) (rest := []) (q0 := 0) G (c_X9_taskTold (w := w) (kp := kp) (bf := bf) (ah := ah) (ik := ik) (fd := fd) (sp := sp) (lt := lt) (tp := tp) (tn := tn) (he := he2_14) (ft := ft) (vz := vz) (bt := bt) (lg := lg) (ce := ce) (bw := bw) (a := a) (q := nx (bB tp tn) q) (ht := ht) (hh := e_16f.1) (hf := hf) (hq := (e_16f.2.1 (by assumption))) (hw := hw) (hn8 := (by omega))) gX9_item_X9_taskTold rfl hdX9_taskTold ⟨rfl, rfl, Nat.le_of_ble_eq_true rfl, Nat.le_of_ble_eq_true rfl⟩ rfl rfl (Nat.le_of_ble_eq_true rfl) ⟨Nat.zero_le _, Nat.zero_le _⟩ rfl rfl dX9_item_94) (fun r_64 u_66 e_65 => ?_)
        obtain ⟨he2_60, ft2_61, vl2_62, w2_63⟩ := u_66
        have e_65 : r_64 = jI (b2 ((itT1 (bB tp tn) tn (tkB (bB tp tn) tn 6 0 15 (nx (bB tp tn) q))).1 = 1)) ∧ (0 ≤ he2_60 ∧ he2_60 ≤ tn) ∧ ((itT1 (bB tp tn) tn (tkB (bB tp tn) tn 6 0 15 (nx (bB tp tn) q))).1 = 1 → ft2_61 = -1 ∧ sk (bB tp tn) he2_60 = (itT1 (bB tp tn) tn (tkB (bB tp tn) tn 6 0 15 (nx (bB tp tn) q))).2.1 ∧ w2_63 = apR w (itT1 (bB tp tn) tn (tkB (bB tp tn) tn 6 0 15 (nx (bB tp tn) q))).2.2) ∧ (¬ (itT1 (bB tp tn) tn (tkB (bB tp tn) tn 6 0 15 (nx (bB tp tn) q))).1 = 1 → ft2_61 = (itT1 (bB tp tn) tn (tkB (bB tp tn) tn 6 0 15 (nx (bB tp tn) q))).2.1) := e_65
        obtain ⟨e_650, e_65f⟩ := e_65
        subst e_650
        refine v_world (ws' := (wR cI cL a w2_63 kp bf ah ik fd sp lt tp tn he2_60 ft2_61 vl2_62 bt lg ce bw)) rfl ?_
        exact v_zret G (he2_60, ft2_61, vl2_62, w2_63) (nb_b2 _) (by rw [itm_t (by assumption) (by omega)]; exact ⟨rfl, e_65f⟩) rfl dX9_item_97
    · skip
      refine v_aload_n (j := 1) (x := a 0) G dX9_item_67 rfl rfl ?_
      refine v_get (q0 := 0) (k := 0) (v := .ref (a 1)) G k_X9 rfl rfl (by decide) q_1 rfl rfl dX9_item_68 ?_
      refine v_iconst G dX9_item_71 ?_
      refine v_iald (q0 := 1) (t0 := 0) (g := w) (z := 2) G rfl rfl (by omega) dX9_item_72 ?_
      refine v_bipush G dX9_item_73 (by decide) ?_
      refine v_icmp_ne (a := w 2) (b := 8) (tgt := 83) G dX9_item_75 (by decide) (by omega) (fun c_67 => ?_) (fun c_67 => ?_)
      · skip
        refine v_aload_n (j := 1) (x := a 0) G dX9_item_83 rfl rfl ?_
        refine v_ldcSw (tx := txC 11) (bs := (wdC 11).map jI) G jS9_11 dX9_item_84 (fun sq_68 hR_69 hS_70 => ?_)
        refine v_ciF G (rn_VX (X := xStr sq_68 ((wdC 11).map jI)) (xStr_s sq_68 ((wdC 11).map jI)) hS_70 (As := [.ref sq_68]) (rest := []) (q0 := 0) G (c_X9_takes (w := w) (kp := kp) (bf := bf) (ah := ah) (ik := ik) (fd := fd) (sp := sp) (lt := lt) (tp := tp) (tn := tn) (he := q) (ft := ft) (vz := vz) (bt := bt) (lg := lg) (ce := ce) (bw := bw) (a := a) (q := q) (tq := sq_68) (tc := 11) (ht := ht) (hh := hQ.1) (hf := hf) (hq := hqq) (htc := (by decide))) gX9_item_X9_takes rfl hdX9_takes ⟨rfl, rfl, Nat.le_of_ble_eq_true rfl, Nat.le_of_ble_eq_true rfl⟩ rfl rfl (Nat.le_of_ble_eq_true rfl) ⟨Nat.zero_le _, Nat.zero_le _⟩ rfl rfl dX9_item_87) (fun r_72 u_74 e_73 => ?_)
        obtain ⟨he2_71, rfl⟩ : ∃ z, z = u_74 := ⟨_, rfl⟩
        have e_73 : r_72 = jI (b2 (cd (bB tp tn) tn q = (11 : Int))) ∧ (0 ≤ he2_71 ∧ he2_71 ≤ tn) ∧ (cd (bB tp tn) tn q = (11 : Int) → sk (bB tp tn) he2_71 = nx (bB tp tn) q) ∧ (¬ cd (bB tp tn) tn q = (11 : Int) → he2_71 = q) := e_73
        obtain ⟨e_730, e_73f⟩ := e_73
        subst e_730
        refine v_world (ws' := (wR cI cL a w kp bf ah ik fd sp lt tp tn he2_71 ft vz bt lg ce bw)) rfl ?_
        refine v_ifb_eq (P := cd (bB tp tn) tn q = (11 : Int)) (tgt := 98) G dX9_item_90 (by decide) (fun c_75 => ?_) (fun c_75 => ?_)
        · skip
          refine v_aload_n (j := 1) (x := a 0) G dX9_item_98 rfl rfl ?_
          refine v_ldcSw (tx := txC 10) (bs := (wdC 10).map jI) G jS9_10 dX9_item_99 (fun sq_76 hR_77 hS_78 => ?_)
          refine v_ciF G (rn_VX (X := xStr sq_76 ((wdC 10).map jI)) (xStr_s sq_76 ((wdC 10).map jI)) hS_78 (As := [.ref sq_76]) (rest := []) (q0 := 0) G (c_X9_takes (w := w) (kp := kp) (bf := bf) (ah := ah) (ik := ik) (fd := fd) (sp := sp) (lt := lt) (tp := tp) (tn := tn) (he := he2_71) (ft := ft) (vz := vz) (bt := bt) (lg := lg) (ce := ce) (bw := bw) (a := a) (q := q) (tq := sq_76) (tc := 10) (ht := ht) (hh := e_73f.1) (hf := hf) (hq := (by rw [e_73f.2.2 (by assumption)]; exact hqq)) (htc := (by decide))) gX9_item_X9_takes rfl hdX9_takes ⟨rfl, rfl, Nat.le_of_ble_eq_true rfl, Nat.le_of_ble_eq_true rfl⟩ rfl rfl (Nat.le_of_ble_eq_true rfl) ⟨Nat.zero_le _, Nat.zero_le _⟩ rfl rfl dX9_item_102) (fun r_80 u_82 e_81 => ?_)
          obtain ⟨he2_79, rfl⟩ : ∃ z, z = u_82 := ⟨_, rfl⟩
          have e_81 : r_80 = jI (b2 (cd (bB tp tn) tn q = (10 : Int))) ∧ (0 ≤ he2_79 ∧ he2_79 ≤ tn) ∧ (cd (bB tp tn) tn q = (10 : Int) → sk (bB tp tn) he2_79 = nx (bB tp tn) q) ∧ (¬ cd (bB tp tn) tn q = (10 : Int) → he2_79 = q) := e_81
          obtain ⟨e_810, e_81f⟩ := e_81
          subst e_810
          refine v_world (ws' := (wR cI cL a w kp bf ah ik fd sp lt tp tn he2_79 ft vz bt lg ce bw)) rfl ?_
          refine v_ifb_eq (P := cd (bB tp tn) tn q = (10 : Int)) (tgt := 113) G dX9_item_105 (by decide) (fun c_83 => ?_) (fun c_83 => ?_)
          · skip
            refine v_aload_n (j := 1) (x := a 0) G dX9_item_113 rfl rfl ?_
            refine v_ldcSw (tx := txC 14) (bs := (wdC 14).map jI) G jS9_14 dX9_item_114 (fun sq_84 hR_85 hS_86 => ?_)
            refine v_ciF G (rn_VX (X := xStr sq_84 ((wdC 14).map jI)) (xStr_s sq_84 ((wdC 14).map jI)) hS_86 (As := [.ref sq_84]) (rest := []) (q0 := 0) G (c_X9_must (w := w) (kp := kp) (bf := bf) (ah := ah) (ik := ik) (fd := fd) (sp := sp) (lt := lt) (tp := tp) (tn := tn) (he := he2_79) (ft := ft) (vz := vz) (bt := bt) (lg := lg) (ce := ce) (bw := bw) (a := a) (q := q) (tq := sq_84) (tc := 14) (ht := ht) (hh := e_81f.1) (hf := hf) (hq := (by rw [e_81f.2.2 (by assumption)]; exact hqq)) (htc := (by decide))) gX9_item_X9_must rfl hdX9_must ⟨rfl, rfl, Nat.le_of_ble_eq_true rfl, Nat.le_of_ble_eq_true rfl⟩ rfl rfl (Nat.le_of_ble_eq_true rfl) ⟨Nat.zero_le _, Nat.zero_le _⟩ rfl rfl dX9_item_117) (fun r_89 u_91 e_90 => ?_)
            obtain ⟨he2_87, ft2_88⟩ := u_91
            have e_90 : r_89 = jI (b2 (cd (bB tp tn) tn q = (14 : Int))) ∧ (0 ≤ he2_87 ∧ he2_87 ≤ tn) ∧ (cd (bB tp tn) tn q = (14 : Int) → ft2_88 = -1 ∧ sk (bB tp tn) he2_87 = nx (bB tp tn) q) ∧ (¬ cd (bB tp tn) tn q = (14 : Int) → ft2_88 = q) := e_90
            obtain ⟨e_900, e_90f⟩ := e_90
            subst e_900
            refine v_world (ws' := (wR cI cL a w kp bf ah ik fd sp lt tp tn he2_87 ft2_88 vz bt lg ce bw)) rfl ?_
            refine v_ifb_eq (P := cd (bB tp tn) tn q = (14 : Int)) (tgt := 139) G dX9_item_120 (by decide) (fun c_92 => ?_) (fun c_92 => ?_)
            · skip
              refine v_iconst G dX9_item_139 ?_
              exact v_zret G (he2_87, ft2_88, vz, w) nb_0 (by have hit : (itm (bB tp tn) tn (w 1) (w 2) q) = fl q := (itm_x hx6 ⟨by assumption, by assumption, by assumption⟩); rw [hit]; exact ⟨congrArg jI (b2_f (P := (fl q).1 = 1) (by rw [fl_1]; omega)).symm, e_90f.1, fun z_ => absurd z_ (by rw [fl_1]; omega), fun _ => e_90f.2.2 (by assumption)⟩) rfl dX9_item_140
            · skip
              refine v_aload_n (j := 1) (x := a 0) G dX9_item_123 rfl rfl ?_
              refine v_iconst G dX9_item_124 ?_
              refine v_aload_n (j := 1) (x := a 0) G dX9_item_125 rfl rfl ?_
              refine v_get (q0 := 0) (k := 0) (v := .ref (a 1)) G k_X9 rfl rfl (by decide) q_1 rfl rfl dX9_item_126 ?_
              refine v_iconst G dX9_item_129 ?_
              refine v_iald (q0 := 1) (t0 := 0) (g := w) (z := 1) G rfl rfl (by omega) dX9_item_130 ?_
              refine v_iconst G dX9_item_131 ?_
              refine v_isub (z := (w 1) - 1) G dX9_item_132 rfl ?_
              refine v_ciF G (rn_V (As := [.int (jI 0), .int (jI ((w 1) - 1))]) (rest := []) (q0 := 0) G (c_X9_number (v := 0) (z := (w 1) - 1) (w := w) (kp := kp) (bf := bf) (ah := ah) (ik := ik) (fd := fd) (sp := sp) (lt := lt) (tp := tp) (tn := tn) (he := he2_87) (ft := ft2_88) (vz := vz) (bt := bt) (lg := lg) (ce := ce) (bw := bw) (a := a) (q := nx (bB tp tn) q) (ht := ht) (hh := e_90f.1) (hf := (e_90f.2.1 (by assumption)).1) (hq := (e_90f.2.1 (by assumption)).2) (hv := (by omega))) gX9_item_X9_number rfl hdX9_number ⟨rfl, rfl, Nat.le_of_ble_eq_true rfl, Nat.le_of_ble_eq_true rfl⟩ rfl rfl (Nat.le_of_ble_eq_true rfl) ⟨Nat.zero_le _, Nat.zero_le _⟩ rfl rfl dX9_item_133) (fun r_96 u_98 e_97 => ?_)
              obtain ⟨he2_93, ft2_94, vl2_95⟩ := u_98
              have e_97 : r_96 = jI (b2 (0 ≤ (tkN (bB tp tn) tn 0 ((w 1) - 1) (nx (bB tp tn) q)).1)) ∧ (0 ≤ he2_93 ∧ he2_93 ≤ tn) ∧ (0 ≤ (tkN (bB tp tn) tn 0 ((w 1) - 1) (nx (bB tp tn) q)).1 → ft2_94 = -1 ∧ vl2_95 = (tkN (bB tp tn) tn 0 ((w 1) - 1) (nx (bB tp tn) q)).1 ∧ sk (bB tp tn) he2_93 = (tkN (bB tp tn) tn 0 ((w 1) - 1) (nx (bB tp tn) q)).2) ∧ (¬ 0 ≤ (tkN (bB tp tn) tn 0 ((w 1) - 1) (nx (bB tp tn) q)).1 → ft2_94 = (tkN (bB tp tn) tn 0 ((w 1) - 1) (nx (bB tp tn) q)).2) := e_97
              obtain ⟨e_970, e_97f⟩ := e_97
              subst e_970
              refine v_world (ws' := (wR cI cL a w kp bf ah ik fd sp lt tp tn he2_93 ft2_94 vl2_95 bt lg ce bw)) rfl ?_
              have v1 := tkN_r (bB tp tn) tn 0 (w 1 - 1) (nx (bB tp tn) q) (by omega)
              refine v_ifb_ne (P := 0 ≤ (tkN (bB tp tn) tn 0 ((w 1) - 1) (nx (bB tp tn) q)).1) (tgt := 141) G dX9_item_136 (by decide) (fun c_99 => ?_) (fun c_99 => ?_)
              · skip
                refine v_aload_n (j := 1) (x := a 0) G dX9_item_141 rfl rfl ?_
                refine v_get (q0 := 0) (k := 12) (v := .int (jI vl2_95)) G k_X9 rfl rfl (by decide) q_2 rfl rfl dX9_item_142 ?_
                refine v_istore_n (lv' := [(1, .int (jI vl2_95)), (0, .ref (a 0))]) G dX9_item_145 rfl (by decide) rfl ?_
                refine v_aload_n (j := 1) (x := a 0) G dX9_item_146 rfl rfl ?_
                refine v_iconst G dX9_item_147 ?_
                refine v_bipush G dX9_item_148 (by decide) ?_
                refine v_ciF G (rn_V (As := [.int (jI 0), .int (jI 99)]) (rest := []) (q0 := 0) G (c_X9_number (v := 0) (z := 99) (w := w) (kp := kp) (bf := bf) (ah := ah) (ik := ik) (fd := fd) (sp := sp) (lt := lt) (tp := tp) (tn := tn) (he := he2_93) (ft := ft2_94) (vz := vl2_95) (bt := bt) (lg := lg) (ce := ce) (bw := bw) (a := a) (q := (tkN (bB tp tn) tn 0 (w 1 - 1) (nx (bB tp tn) q)).2) (ht := ht) (hh := e_97f.1) (hf := (e_97f.2.1 (by omega)).1) (hq := (e_97f.2.1 (by omega)).2.2) (hv := (by omega))) gX9_item_X9_number rfl hdX9_number ⟨rfl, rfl, Nat.le_of_ble_eq_true rfl, Nat.le_of_ble_eq_true rfl⟩ rfl rfl (Nat.le_of_ble_eq_true rfl) ⟨Nat.zero_le _, Nat.zero_le _⟩ rfl rfl dX9_item_150) (fun r_103 u_105 e_104 => ?_)
                obtain ⟨he2_100, ft2_101, vl2_102⟩ := u_105
                have e_104 : r_103 = jI (b2 (0 ≤ (tkN (bB tp tn) tn 0 99 ((tkN (bB tp tn) tn 0 (w 1 - 1) (nx (bB tp tn) q)).2)).1)) ∧ (0 ≤ he2_100 ∧ he2_100 ≤ tn) ∧ (0 ≤ (tkN (bB tp tn) tn 0 99 ((tkN (bB tp tn) tn 0 (w 1 - 1) (nx (bB tp tn) q)).2)).1 → ft2_101 = -1 ∧ vl2_102 = (tkN (bB tp tn) tn 0 99 ((tkN (bB tp tn) tn 0 (w 1 - 1) (nx (bB tp tn) q)).2)).1 ∧ sk (bB tp tn) he2_100 = (tkN (bB tp tn) tn 0 99 ((tkN (bB tp tn) tn 0 (w 1 - 1) (nx (bB tp tn) q)).2)).2) ∧ (¬ 0 ≤ (tkN (bB tp tn) tn 0 99 ((tkN (bB tp tn) tn 0 (w 1 - 1) (nx (bB tp tn) q)).2)).1 → ft2_101 = (tkN (bB tp tn) tn 0 99 ((tkN (bB tp tn) tn 0 (w 1 - 1) (nx (bB tp tn) q)).2)).2) := e_104
                obtain ⟨e_1040, e_104f⟩ := e_104
                subst e_1040
                refine v_world (ws' := (wR cI cL a w kp bf ah ik fd sp lt tp tn he2_100 ft2_101 vl2_102 bt lg ce bw)) rfl ?_
                have v2 := tkN_r (bB tp tn) tn 0 99 (tkN (bB tp tn) tn 0 (w 1 - 1) (nx (bB tp tn) q)).2 (by omega)
                refine v_ifb_ne (P := 0 ≤ (tkN (bB tp tn) tn 0 99 ((tkN (bB tp tn) tn 0 (w 1 - 1) (nx (bB tp tn) q)).2)).1) (tgt := 158) G dX9_item_153 (by decide) (fun c_106 => ?_) (fun c_106 => ?_)
                · skip
                  refine v_aload_n (j := 1) (x := a 0) G dX9_item_158 rfl rfl ?_
                  refine v_iload_n (j := 0) (x := jI vl2_95) G dX9_item_159 rfl rfl ?_
                  refine v_aload_n (j := 1) (x := a 0) G dX9_item_160 rfl rfl ?_
                  refine v_get (q0 := 0) (k := 12) (v := .int (jI vl2_102)) G k_X9 rfl rfl (by decide) q_2 rfl rfl dX9_item_161 ?_
                  refine v_cvF G (rn_V (As := [.int (jI vl2_95), .int (jI vl2_102)]) (rest := []) (q0 := 0) G (c_X9_eats (b := vl2_95) (v := vl2_102) (w := w) (kp := kp) (bf := bf) (ah := ah) (ik := ik) (fd := fd) (sp := sp) (lt := lt) (tp := tp) (tn := tn) (he := he2_100) (ft := ft2_101) (vl := vl2_102) (bt := bt) (lg := lg) (ce := ce) (bw := bw) (a := a) (hb := (by have e9 := (e_97f.2.1 (by omega)).2.1; omega))) gX9_item_X9_eats rfl hdX9_eats ⟨rfl, rfl, Nat.le_of_ble_eq_true rfl, Nat.le_of_ble_eq_true rfl⟩ rfl rfl (Nat.le_of_ble_eq_true rfl) ⟨Nat.zero_le _, Nat.zero_le _⟩ rfl rfl dX9_item_164) (fun u_109 e_108 => ?_)
                  refine v_world (ws' := (wR cI cL a (eatW w vl2_95 vl2_102) kp bf ah ik fd sp lt tp tn he2_100 ft2_101 vl2_102 bt lg ce bw)) rfl ?_
                  refine v_iconst G dX9_item_167 ?_
                  exact v_zret G (he2_100, ft2_101, vl2_102, eatW w vl2_95 vl2_102) nb_1 (by have hit : (itm (bB tp tn) tn (w 1) (w 2) q) = (1, (tkN (bB tp tn) tn 0 99 (tkN (bB tp tn) tn 0 (w 1 - 1) (nx (bB tp tn) q)).2).2, 14, (tkN (bB tp tn) tn 0 (w 1 - 1) (nx (bB tp tn) q)).1, (tkN (bB tp tn) tn 0 99 (tkN (bB tp tn) tn 0 (w 1 - 1) (nx (bB tp tn) q)).2).1, 0, 0) := (by rw [itm_a (by assumption), itA_t (by omega)]; exact itA2_t (by omega)); rw [hit]; exact ⟨congrArg jI (b2_t (P := (1 : Int) = 1) rfl).symm, e_104f.1, fun _ => ⟨(e_104f.2.1 (by omega)).1, (e_104f.2.1 (by omega)).2.2, by rw [(e_97f.2.1 (by omega)).2.1, (e_104f.2.1 (by omega)).2.1]; rfl⟩, fun z_ => absurd rfl z_⟩) rfl dX9_item_168
                · skip
                  refine v_iconst G dX9_item_156 ?_
                  exact v_zret G (he2_100, ft2_101, vl2_102, w) nb_0 (by have hit : (itm (bB tp tn) tn (w 1) (w 2) q) = fl (tkN (bB tp tn) tn 0 99 (tkN (bB tp tn) tn 0 (w 1 - 1) (nx (bB tp tn) q)).2).2 := (by rw [itm_a (by assumption), itA_t (by omega)]; exact itA2_f (by omega)); rw [hit]; exact ⟨congrArg jI (b2_f (P := (fl (tkN (bB tp tn) tn 0 99 (tkN (bB tp tn) tn 0 (w 1 - 1) (nx (bB tp tn) q)).2).2).1 = 1) (by rw [fl_1]; omega)).symm, e_104f.1, fun z_ => absurd z_ (by rw [fl_1]; omega), fun _ => e_104f.2.2 (by omega)⟩) rfl dX9_item_157
              · skip
                refine v_iconst G dX9_item_139 ?_
                exact v_zret G (he2_93, ft2_94, vl2_95, w) nb_0 (by have hit : (itm (bB tp tn) tn (w 1) (w 2) q) = fl (tkN (bB tp tn) tn 0 (w 1 - 1) (nx (bB tp tn) q)).2 := (by rw [itm_a (by assumption)]; exact itA_f (by omega)); rw [hit]; exact ⟨congrArg jI (b2_f (P := (fl (tkN (bB tp tn) tn 0 (w 1 - 1) (nx (bB tp tn) q)).2).1 = 1) (by rw [fl_1]; omega)).symm, e_97f.1, fun z_ => absurd z_ (by rw [fl_1]; omega), fun _ => e_97f.2.2 (by omega)⟩) rfl dX9_item_140
          · skip
            refine v_aload_n (j := 1) (x := a 0) G dX9_item_108 rfl rfl ?_
            refine v_ciF G (rn_V (As := []) (rest := []) (q0 := 0) G (c_X9_bowlTold (w := w) (kp := kp) (bf := bf) (ah := ah) (ik := ik) (fd := fd) (sp := sp) (lt := lt) (tp := tp) (tn := tn) (he := he2_79) (ft := ft) (vz := vz) (bt := bt) (lg := lg) (ce := ce) (bw := bw) (a := a) (q := nx (bB tp tn) q) (ht := ht) (hh := e_81f.1) (hf := hf) (hq := (e_81f.2.1 (by assumption)))) gX9_item_X9_bowlTold rfl hdX9_bowlTold ⟨rfl, rfl, Nat.le_of_ble_eq_true rfl, Nat.le_of_ble_eq_true rfl⟩ rfl rfl (Nat.le_of_ble_eq_true rfl) ⟨Nat.zero_le _, Nat.zero_le _⟩ rfl rfl dX9_item_109) (fun r_114 u_116 e_115 => ?_)
            obtain ⟨he2_110, ft2_111, vl2_112, w2_113⟩ := u_116
            have e_115 : r_114 = jI (b2 ((itO (bB tp tn) tn (tkN (bB tp tn) tn 0 15 (nx (bB tp tn) q))).1 = 1)) ∧ (0 ≤ he2_110 ∧ he2_110 ≤ tn) ∧ ((itO (bB tp tn) tn (tkN (bB tp tn) tn 0 15 (nx (bB tp tn) q))).1 = 1 → ft2_111 = -1 ∧ sk (bB tp tn) he2_110 = (itO (bB tp tn) tn (tkN (bB tp tn) tn 0 15 (nx (bB tp tn) q))).2.1 ∧ w2_113 = apR w (itO (bB tp tn) tn (tkN (bB tp tn) tn 0 15 (nx (bB tp tn) q))).2.2) ∧ (¬ (itO (bB tp tn) tn (tkN (bB tp tn) tn 0 15 (nx (bB tp tn) q))).1 = 1 → ft2_111 = (itO (bB tp tn) tn (tkN (bB tp tn) tn 0 15 (nx (bB tp tn) q))).2.1) := e_115
            obtain ⟨e_1150, e_115f⟩ := e_115
            subst e_1150
            refine v_world (ws' := (wR cI cL a w2_113 kp bf ah ik fd sp lt tp tn he2_110 ft2_111 vl2_112 bt lg ce bw)) rfl ?_
            exact v_zret G (he2_110, ft2_111, vl2_112, w2_113) (nb_b2 _) (by rw [itm_o (by assumption)]; exact ⟨rfl, e_115f⟩) rfl dX9_item_112
        · skip
          refine v_aload_n (j := 1) (x := a 0) G dX9_item_93 rfl rfl ?_
          refine v_ciF G (rn_V (As := []) (rest := []) (q0 := 0) G (c_X9_taskTold (w := w) (kp := kp) (bf := bf) (ah := ah) (ik := ik) (fd := fd) (sp := sp) (lt := lt) (tp := tp) (tn := tn) (he := he2_71) (ft := ft) (vz := vz) (bt := bt) (lg := lg) (ce := ce) (bw := bw) (a := a) (q := nx (bB tp tn) q) (ht := ht) (hh := e_73f.1) (hf := hf) (hq := (e_73f.2.1 (by assumption))) (hw := hw) (hn8 := (by omega))) gX9_item_X9_taskTold rfl hdX9_taskTold ⟨rfl, rfl, Nat.le_of_ble_eq_true rfl, Nat.le_of_ble_eq_true rfl⟩ rfl rfl (Nat.le_of_ble_eq_true rfl) ⟨Nat.zero_le _, Nat.zero_le _⟩ rfl rfl dX9_item_94) (fun r_121 u_123 e_122 => ?_)
          obtain ⟨he2_117, ft2_118, vl2_119, w2_120⟩ := u_123
          have e_122 : r_121 = jI (b2 ((itT1 (bB tp tn) tn (tkB (bB tp tn) tn 6 0 15 (nx (bB tp tn) q))).1 = 1)) ∧ (0 ≤ he2_117 ∧ he2_117 ≤ tn) ∧ ((itT1 (bB tp tn) tn (tkB (bB tp tn) tn 6 0 15 (nx (bB tp tn) q))).1 = 1 → ft2_118 = -1 ∧ sk (bB tp tn) he2_117 = (itT1 (bB tp tn) tn (tkB (bB tp tn) tn 6 0 15 (nx (bB tp tn) q))).2.1 ∧ w2_120 = apR w (itT1 (bB tp tn) tn (tkB (bB tp tn) tn 6 0 15 (nx (bB tp tn) q))).2.2) ∧ (¬ (itT1 (bB tp tn) tn (tkB (bB tp tn) tn 6 0 15 (nx (bB tp tn) q))).1 = 1 → ft2_118 = (itT1 (bB tp tn) tn (tkB (bB tp tn) tn 6 0 15 (nx (bB tp tn) q))).2.1) := e_122
          obtain ⟨e_1220, e_122f⟩ := e_122
          subst e_1220
          refine v_world (ws' := (wR cI cL a w2_120 kp bf ah ik fd sp lt tp tn he2_117 ft2_118 vl2_119 bt lg ce bw)) rfl ?_
          exact v_zret G (he2_117, ft2_118, vl2_119, w2_120) (nb_b2 _) (by rw [itm_t (by assumption) (by omega)]; exact ⟨rfl, e_122f⟩) rfl dX9_item_97
      · skip
        refine v_aload_n (j := 1) (x := a 0) G dX9_item_78 rfl rfl ?_
        refine v_ciF G (rn_V (As := []) (rest := []) (q0 := 0) G (c_X9_fails (w := w) (kp := kp) (bf := bf) (ah := ah) (ik := ik) (fd := fd) (sp := sp) (lt := lt) (tp := tp) (tn := tn) (he := q) (ft := ft) (vz := vz) (bt := bt) (lg := lg) (ce := ce) (bw := bw) (a := a) (hh := hQ.1) (hf := hf)) gX9_item_X9_fails rfl hdX9_fails ⟨rfl, rfl, Nat.le_of_ble_eq_true rfl, Nat.le_of_ble_eq_true rfl⟩ rfl rfl (Nat.le_of_ble_eq_true rfl) ⟨Nat.zero_le _, Nat.zero_le _⟩ rfl rfl dX9_item_79) (fun r_124 u_126 e_125 => ?_)
        have e_125 : r_124 = jI 0 := e_125
        subst e_125
        refine v_world (ws' := (wR cI cL a w kp bf ah ik fd sp lt tp tn q q vz bt lg ce bw)) rfl ?_
        exact v_zret G (q, q, vz, w) nb_0 (by have hit : (itm (bB tp tn) tn (w 1) (w 2) q) = fl q := (itm_tf (by assumption) (by omega)); rw [hit]; exact ⟨congrArg jI (b2_f (P := (fl q).1 = 1) (by rw [fl_1]; omega)).symm, hQ.1, fun z_ => absurd z_ (by rw [fl_1]; omega), fun _ => rfl⟩) rfl dX9_item_82
  · skip
    refine v_aload_n (j := 1) (x := a 0) G dX9_item_7 rfl rfl ?_
    refine v_iload_n (j := 0) (x := jI (k : Int)) G dX9_item_8 rfl rfl ?_
    obtain ⟨qs_129, hRs_129, hSs_129⟩ := jS_X9 G k (by omega)
    refine v_crN G (rn_SX (X := xR RX9 (229 + 2 * k) (txC k) qs_129) (xR_s RX9 (229 + 2 * k) (txC k) qs_129) hRs_129 (As := [.int (jI (k : Int))]) (rest := [.ref (a 0)]) G (c_X9_kindName (k := k) (q := qs_129) (by omega)) gX9_item_X9_kindName rfl hdX9_kindName ⟨rfl, rfl, Nat.le_of_ble_eq_true rfl, Nat.le_of_ble_eq_true rfl⟩ rfl rfl (Nat.le_of_ble_eq_true rfl) ⟨Nat.zero_le _, Nat.zero_le _⟩ dX9_item_9) (fun r_127 _ _ e_128 => ?_)
    have e_128 : r_127 = qs_129 := e_128
    subst e_128
    refine v_ciF G (rn_VX (X := xStr r_127 ((wdC k).map jI)) (xStr_s r_127 ((wdC k).map jI)) hSs_129 (As := [.ref r_127]) (rest := []) (q0 := 0) G (c_X9_isWord (w := w) (kp := kp) (bf := bf) (ah := ah) (ik := ik) (fd := fd) (sp := sp) (lt := lt) (tp := tp) (tn := tn) (he := h) (ft := ft) (vz := vz) (bt := bt) (lg := lg) (ce := ce) (bw := bw) (a := a) (q := q) (tq := r_127) (tc := k) (ht := ht) (hh := hhh) (hq := hhq) (htc := (by omega))) gX9_item_X9_isWord rfl hdX9_isWord ⟨rfl, rfl, Nat.le_of_ble_eq_true rfl, Nat.le_of_ble_eq_true rfl⟩ rfl rfl (Nat.le_of_ble_eq_true rfl) ⟨Nat.zero_le _, Nat.zero_le _⟩ rfl rfl dX9_item_12) (fun r_130 u_132 e_131 => ?_)
    have e_131 : r_130 = jI (b2 (cd (bB tp tn) tn q = (k : Int))) := e_131
    subst e_131
    refine v_world (ws' := (wR cI cL a w kp bf ah ik fd sp lt tp tn q ft vz bt lg ce bw)) rfl ?_
    refine v_ifb_eq (P := cd (bB tp tn) tn q = (k : Int)) (tgt := 34) G dX9_item_15 (by decide) (fun c_133 => ?_) (fun c_133 => ?_)
    · skip
      refine v_aload_n (j := 1) (x := a 0) G dX9_item_34 rfl rfl ?_
      refine v_iload_n (j := 0) (x := jI (k : Int)) G dX9_item_35 rfl rfl ?_
      obtain ⟨qs_136, hRs_136, hSs_136⟩ := jS_X9 G k (by omega)
      refine v_crN G (rn_SX (X := xR RX9 (229 + 2 * k) (txC k) qs_136) (xR_s RX9 (229 + 2 * k) (txC k) qs_136) hRs_136 (As := [.int (jI (k : Int))]) (rest := [.ref (a 0)]) G (c_X9_kindName (k := k) (q := qs_136) (by omega)) gX9_item_X9_kindName rfl hdX9_kindName ⟨rfl, rfl, Nat.le_of_ble_eq_true rfl, Nat.le_of_ble_eq_true rfl⟩ rfl rfl (Nat.le_of_ble_eq_true rfl) ⟨Nat.zero_le _, Nat.zero_le _⟩ dX9_item_36) (fun r_134 _ _ e_135 => ?_)
      have e_135 : r_134 = qs_136 := e_135
      subst e_135
      refine v_ciF G (rn_VX (X := xStr r_134 ((wdC k).map jI)) (xStr_s r_134 ((wdC k).map jI)) hSs_136 (As := [.ref r_134]) (rest := []) (q0 := 0) G (c_X9_takes (w := w) (kp := kp) (bf := bf) (ah := ah) (ik := ik) (fd := fd) (sp := sp) (lt := lt) (tp := tp) (tn := tn) (he := q) (ft := ft) (vz := vz) (bt := bt) (lg := lg) (ce := ce) (bw := bw) (a := a) (q := q) (tq := r_134) (tc := k) (ht := ht) (hh := hQ.1) (hf := hf) (hq := hqq) (htc := (by omega))) gX9_item_X9_takes rfl hdX9_takes ⟨rfl, rfl, Nat.le_of_ble_eq_true rfl, Nat.le_of_ble_eq_true rfl⟩ rfl rfl (Nat.le_of_ble_eq_true rfl) ⟨Nat.zero_le _, Nat.zero_le _⟩ rfl rfl dX9_item_39) (fun r_138 u_140 e_139 => ?_)
      obtain ⟨he2_137, rfl⟩ : ∃ z, z = u_140 := ⟨_, rfl⟩
      have e_139 : r_138 = jI (b2 (cd (bB tp tn) tn q = (k : Int))) ∧ (0 ≤ he2_137 ∧ he2_137 ≤ tn) ∧ (cd (bB tp tn) tn q = (k : Int) → sk (bB tp tn) he2_137 = nx (bB tp tn) q) ∧ (¬ cd (bB tp tn) tn q = (k : Int) → he2_137 = q) := e_139
      obtain ⟨e_1390, e_139f⟩ := e_139
      subst e_1390
      refine v_world (ws' := (wR cI cL a w kp bf ah ik fd sp lt tp tn he2_137 ft vz bt lg ce bw)) rfl ?_
      refine v_ifb_eq (P := cd (bB tp tn) tn q = (k : Int)) (tgt := 51) G dX9_item_42 (by decide) (fun c_141 => ?_) (fun c_141 => ?_)
      · skip
        refine v_iinc (k := 0) (z := (k : Int)) (z' := ((k + 1 : Nat) : Int)) (lv' := [(1, .int (jI ((k + 1 : Nat) : Int))), (0, .ref (a 0))]) G dX9_item_51 rfl (by omega) (by decide) rfl ?_
        refine v_goto (tgt := 2) G dX9_item_54 (by decide) ?_
        exact ih_2 (k + 1) he2_137 ⟨by omega, e_139f.1, by rw [e_139f.2.2 (by assumption)]; exact hqq, fun j_ z_ => by by_cases qe : j_ = k; subst qe; assumption; exact I_1.2.2.2 j_ (by omega)⟩ (by omega)
      · skip
        refine v_aload_n (j := 1) (x := a 0) G dX9_item_45 rfl rfl ?_
        refine v_iload_n (j := 0) (x := jI (k : Int)) G dX9_item_46 rfl rfl ?_
        refine v_ciF G (rn_V (As := [.int (jI (k : Int))]) (rest := []) (q0 := 0) G (c_X9_beingTold (k := (k : Int)) (w := w) (kp := kp) (bf := bf) (ah := ah) (ik := ik) (fd := fd) (sp := sp) (lt := lt) (tp := tp) (tn := tn) (he := he2_137) (ft := ft) (vz := vz) (bt := bt) (lg := lg) (ce := ce) (bw := bw) (a := a) (q := nx (bB tp tn) q) (ht := ht) (hh := e_139f.1) (hf := hf) (hq := (e_139f.2.1 (by assumption))) (hw := hw) (hkd := (by omega)) (hn9 := (by omega))) gX9_item_X9_beingTold rfl hdX9_beingTold ⟨rfl, rfl, Nat.le_of_ble_eq_true rfl, Nat.le_of_ble_eq_true rfl⟩ rfl rfl (Nat.le_of_ble_eq_true rfl) ⟨Nat.zero_le _, Nat.zero_le _⟩ rfl rfl dX9_item_47) (fun r_146 u_148 e_147 => ?_)
        obtain ⟨he2_142, ft2_143, vl2_144, w2_145⟩ := u_148
        have e_147 : r_146 = jI (b2 ((itB1 (bB tp tn) tn (k : Int) (tkB (bB tp tn) tn 6 0 15 (nx (bB tp tn) q))).1 = 1)) ∧ (0 ≤ he2_142 ∧ he2_142 ≤ tn) ∧ ((itB1 (bB tp tn) tn (k : Int) (tkB (bB tp tn) tn 6 0 15 (nx (bB tp tn) q))).1 = 1 → ft2_143 = -1 ∧ sk (bB tp tn) he2_142 = (itB1 (bB tp tn) tn (k : Int) (tkB (bB tp tn) tn 6 0 15 (nx (bB tp tn) q))).2.1 ∧ w2_145 = apR w (itB1 (bB tp tn) tn (k : Int) (tkB (bB tp tn) tn 6 0 15 (nx (bB tp tn) q))).2.2) ∧ (¬ (itB1 (bB tp tn) tn (k : Int) (tkB (bB tp tn) tn 6 0 15 (nx (bB tp tn) q))).1 = 1 → ft2_143 = (itB1 (bB tp tn) tn (k : Int) (tkB (bB tp tn) tn 6 0 15 (nx (bB tp tn) q))).2.1) := e_147
        obtain ⟨e_1470, e_147f⟩ := e_147
        subst e_1470
        refine v_world (ws' := (wR cI cL a w2_145 kp bf ah ik fd sp lt tp tn he2_142 ft2_143 vl2_144 bt lg ce bw)) rfl ?_
        exact v_zret G (he2_142, ft2_143, vl2_144, w2_145) (nb_b2 _) (by have hit : (itm (bB tp tn) tn (w 1) (w 2) q) = itB1 (bB tp tn) tn (k : Int) (tkB (bB tp tn) tn 6 0 15 (nx (bB tp tn) q)) := (by rw [itm_b (by omega) (by omega)]; congr 1); rw [hit]; exact ⟨rfl, e_147f⟩) rfl dX9_item_50
    · skip
      refine v_aload_n (j := 1) (x := a 0) G dX9_item_18 rfl rfl ?_
      refine v_get (q0 := 0) (k := 0) (v := .ref (a 1)) G k_X9 rfl rfl (by decide) q_1 rfl rfl dX9_item_19 ?_
      refine v_iconst G dX9_item_22 ?_
      refine v_iald (q0 := 1) (t0 := 0) (g := w) (z := 1) G rfl rfl (by omega) dX9_item_23 ?_
      refine v_bipush G dX9_item_24 (by decide) ?_
      refine v_icmp_ne (a := w 1) (b := 10) (tgt := 34) G dX9_item_26 (by decide) (by omega) (fun c_149 => ?_) (fun c_149 => ?_)
      · skip
        refine v_aload_n (j := 1) (x := a 0) G dX9_item_34 rfl rfl ?_
        refine v_iload_n (j := 0) (x := jI (k : Int)) G dX9_item_35 rfl rfl ?_
        obtain ⟨qs_152, hRs_152, hSs_152⟩ := jS_X9 G k (by omega)
        refine v_crN G (rn_SX (X := xR RX9 (229 + 2 * k) (txC k) qs_152) (xR_s RX9 (229 + 2 * k) (txC k) qs_152) hRs_152 (As := [.int (jI (k : Int))]) (rest := [.ref (a 0)]) G (c_X9_kindName (k := k) (q := qs_152) (by omega)) gX9_item_X9_kindName rfl hdX9_kindName ⟨rfl, rfl, Nat.le_of_ble_eq_true rfl, Nat.le_of_ble_eq_true rfl⟩ rfl rfl (Nat.le_of_ble_eq_true rfl) ⟨Nat.zero_le _, Nat.zero_le _⟩ dX9_item_36) (fun r_150 _ _ e_151 => ?_)
        have e_151 : r_150 = qs_152 := e_151
        subst e_151
        refine v_ciF G (rn_VX (X := xStr r_150 ((wdC k).map jI)) (xStr_s r_150 ((wdC k).map jI)) hSs_152 (As := [.ref r_150]) (rest := []) (q0 := 0) G (c_X9_takes (w := w) (kp := kp) (bf := bf) (ah := ah) (ik := ik) (fd := fd) (sp := sp) (lt := lt) (tp := tp) (tn := tn) (he := q) (ft := ft) (vz := vz) (bt := bt) (lg := lg) (ce := ce) (bw := bw) (a := a) (q := q) (tq := r_150) (tc := k) (ht := ht) (hh := hQ.1) (hf := hf) (hq := hqq) (htc := (by omega))) gX9_item_X9_takes rfl hdX9_takes ⟨rfl, rfl, Nat.le_of_ble_eq_true rfl, Nat.le_of_ble_eq_true rfl⟩ rfl rfl (Nat.le_of_ble_eq_true rfl) ⟨Nat.zero_le _, Nat.zero_le _⟩ rfl rfl dX9_item_39) (fun r_154 u_156 e_155 => ?_)
        obtain ⟨he2_153, rfl⟩ : ∃ z, z = u_156 := ⟨_, rfl⟩
        have e_155 : r_154 = jI (b2 (cd (bB tp tn) tn q = (k : Int))) ∧ (0 ≤ he2_153 ∧ he2_153 ≤ tn) ∧ (cd (bB tp tn) tn q = (k : Int) → sk (bB tp tn) he2_153 = nx (bB tp tn) q) ∧ (¬ cd (bB tp tn) tn q = (k : Int) → he2_153 = q) := e_155
        obtain ⟨e_1550, e_155f⟩ := e_155
        subst e_1550
        refine v_world (ws' := (wR cI cL a w kp bf ah ik fd sp lt tp tn he2_153 ft vz bt lg ce bw)) rfl ?_
        refine v_ifb_eq (P := cd (bB tp tn) tn q = (k : Int)) (tgt := 51) G dX9_item_42 (by decide) (fun c_157 => ?_) (fun c_157 => ?_)
        · skip
          refine v_iinc (k := 0) (z := (k : Int)) (z' := ((k + 1 : Nat) : Int)) (lv' := [(1, .int (jI ((k + 1 : Nat) : Int))), (0, .ref (a 0))]) G dX9_item_51 rfl (by omega) (by decide) rfl ?_
          refine v_goto (tgt := 2) G dX9_item_54 (by decide) ?_
          exact ih_2 (k + 1) he2_153 ⟨by omega, e_155f.1, by rw [e_155f.2.2 (by assumption)]; exact hqq, fun j_ z_ => by by_cases qe : j_ = k; subst qe; assumption; exact I_1.2.2.2 j_ (by omega)⟩ (by omega)
        · skip
          refine v_aload_n (j := 1) (x := a 0) G dX9_item_45 rfl rfl ?_
          refine v_iload_n (j := 0) (x := jI (k : Int)) G dX9_item_46 rfl rfl ?_
          refine v_ciF G (rn_V (As := [.int (jI (k : Int))]) (rest := []) (q0 := 0) G (c_X9_beingTold (k := (k : Int)) (w := w) (kp := kp) (bf := bf) (ah := ah) (ik := ik) (fd := fd) (sp := sp) (lt := lt) (tp := tp) (tn := tn) (he := he2_153) (ft := ft) (vz := vz) (bt := bt) (lg := lg) (ce := ce) (bw := bw) (a := a) (q := nx (bB tp tn) q) (ht := ht) (hh := e_155f.1) (hf := hf) (hq := (e_155f.2.1 (by assumption))) (hw := hw) (hkd := (by omega)) (hn9 := (by omega))) gX9_item_X9_beingTold rfl hdX9_beingTold ⟨rfl, rfl, Nat.le_of_ble_eq_true rfl, Nat.le_of_ble_eq_true rfl⟩ rfl rfl (Nat.le_of_ble_eq_true rfl) ⟨Nat.zero_le _, Nat.zero_le _⟩ rfl rfl dX9_item_47) (fun r_162 u_164 e_163 => ?_)
          obtain ⟨he2_158, ft2_159, vl2_160, w2_161⟩ := u_164
          have e_163 : r_162 = jI (b2 ((itB1 (bB tp tn) tn (k : Int) (tkB (bB tp tn) tn 6 0 15 (nx (bB tp tn) q))).1 = 1)) ∧ (0 ≤ he2_158 ∧ he2_158 ≤ tn) ∧ ((itB1 (bB tp tn) tn (k : Int) (tkB (bB tp tn) tn 6 0 15 (nx (bB tp tn) q))).1 = 1 → ft2_159 = -1 ∧ sk (bB tp tn) he2_158 = (itB1 (bB tp tn) tn (k : Int) (tkB (bB tp tn) tn 6 0 15 (nx (bB tp tn) q))).2.1 ∧ w2_161 = apR w (itB1 (bB tp tn) tn (k : Int) (tkB (bB tp tn) tn 6 0 15 (nx (bB tp tn) q))).2.2) ∧ (¬ (itB1 (bB tp tn) tn (k : Int) (tkB (bB tp tn) tn 6 0 15 (nx (bB tp tn) q))).1 = 1 → ft2_159 = (itB1 (bB tp tn) tn (k : Int) (tkB (bB tp tn) tn 6 0 15 (nx (bB tp tn) q))).2.1) := e_163
          obtain ⟨e_1630, e_163f⟩ := e_163
          subst e_1630
          refine v_world (ws' := (wR cI cL a w2_161 kp bf ah ik fd sp lt tp tn he2_158 ft2_159 vl2_160 bt lg ce bw)) rfl ?_
          exact v_zret G (he2_158, ft2_159, vl2_160, w2_161) (nb_b2 _) (by have hit : (itm (bB tp tn) tn (w 1) (w 2) q) = itB1 (bB tp tn) tn (k : Int) (tkB (bB tp tn) tn 6 0 15 (nx (bB tp tn) q)) := (by rw [itm_b (by omega) (by omega)]; congr 1); rw [hit]; exact ⟨rfl, e_163f⟩) rfl dX9_item_50
      · skip
        refine v_aload_n (j := 1) (x := a 0) G dX9_item_29 rfl rfl ?_
        refine v_ciF G (rn_V (As := []) (rest := []) (q0 := 0) G (c_X9_fails (w := w) (kp := kp) (bf := bf) (ah := ah) (ik := ik) (fd := fd) (sp := sp) (lt := lt) (tp := tp) (tn := tn) (he := q) (ft := ft) (vz := vz) (bt := bt) (lg := lg) (ce := ce) (bw := bw) (a := a) (hh := hQ.1) (hf := hf)) gX9_item_X9_fails rfl hdX9_fails ⟨rfl, rfl, Nat.le_of_ble_eq_true rfl, Nat.le_of_ble_eq_true rfl⟩ rfl rfl (Nat.le_of_ble_eq_true rfl) ⟨Nat.zero_le _, Nat.zero_le _⟩ rfl rfl dX9_item_30) (fun r_165 u_167 e_166 => ?_)
        have e_166 : r_165 = jI 0 := e_166
        subst e_166
        refine v_world (ws' := (wR cI cL a w kp bf ah ik fd sp lt tp tn q q vz bt lg ce bw)) rfl ?_
        exact v_zret G (q, q, vz, w) nb_0 (by have hit : (itm (bB tp tn) tn (w 1) (w 2) q) = fl q := (itm_bf (by omega) (by omega)); rw [hit]; exact ⟨congrArg jI (b2_f (P := (fl q).1 = 1) (by rw [fl_1]; omega)).symm, hQ.1, fun z_ => absurd z_ (by rw [fl_1]; omega), fun _ => rfl⟩) rfl dX9_item_33
end

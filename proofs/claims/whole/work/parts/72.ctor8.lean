section
variable {p : Program} {l : Launch} {e : Env} {R : Room} {s : State} {m : MethodId} {args : Array Value} {below : List Frame} {meth : Method} {c : Code} {D : va_G} {A : Nat → Prop} {nL cs sl : Nat} {Q : State → Prop} {pc : Nat} {lv : List (Nat × Value)} {st : List Value} {ws : va_W}
theorem v_cellQ {q0 a n : Nat} {cA : ClassId} {f g : Nat → Option Nat} {ws' : va_W} (ha : ws[q0]? = some (a, .inl (cA, n, .inr (.inr (.inr (.inr f)))))) (hg : ∀ j : Nat, j < n → f j = g j) (hws : ws.set q0 (a, .inl (cA, n, .inr (.inr (.inr (.inr g))))) = ws') (kk : V p l e R s m args below meth c D A nL cs sl Q pc lv st ws') : V p l e R s m args below meth c D A nL cs sl Q pc lv st ws := by
  intro H locs ls hP hD hS hl
  subst hws
  refine kk H locs ls (fun k q hk => ?_) (hD.set ha) hS hl
  by_cases h : q0 = k
  · subst h
    rw [List.getElem?_set_self (by exact (List.getElem?_eq_some_iff.mp ha).1)] at hk
    cases hk
    have h1 : H[a]? = some (vp_cell cA (n, .inr (.inr (.inr (.inr f))))) := hP q0 _ ha
    show H[a]? = some (vp_cell cA (n, .inr (.inr (.inr (.inr g)))))
    rw [h1, vp_cell_q, vp_cell_q]
    exact congrArg some (arrV_cg (fun j hj => by rw [hg j hj]))
  · rw [List.getElem?_set_ne h] at hk
    exact hP k q hk
end
theorem w8_eq {cI cL cB cS : ClassId} (u2 u5 u8 u11 u14 u17 u33 u36 u21 u24 u27 u30 : Nat → Nat) (h0 q19 q38 q39 : Nat) : ((((((((((((((([(h0, .inr (8, [.ref (u2 0), .ref (u5 0), .ref (u8 0), .int (jI 0), .ref (u11 0), .ref (u14 0), .ref (u17 0), .ref q19, .ref (u33 0), .ref (u36 0), .ref q38, .ref q39]))] ++ gW cI u2 W0) ++ gW cI u5 W0) ++ gW cI u8 W0) ++ gG cI u11 G0) ++ gT cB u14 T0) ++ ([(u17 0, .inr (2, [.ref (u17 1), .ref (u17 11), .int (jI 0)]))] ++ gW cI (fun i => u17 (1 + i)) W0 ++ gK cI (fun i => u17 (11 + i)) K0)) ++ [(q19, .inl (cS, 4, .inr (.inr (.inr (.inr (fun j => some (([h0, u2 0, u2 1, u2 2, u2 3, u2 4, u2 5, u2 6, u2 7, u2 8, u2 9, u5 0, u5 1, u5 2, u5 3, u5 4, u5 5, u5 6, u5 7, u5 8, u5 9, u8 0, u8 1, u8 2, u8 3, u8 4, u8 5, u8 6, u8 7, u8 8, u8 9, u11 0, u11 1, u11 2, u11 3, u11 4, u14 0, u14 1, u17 0, u17 11, u17 12, u17 13, u17 14, q19, u21 0, u21 1, u24 0, u24 1, u27 0, u27 1, u30 0, u30 1, u33 0, u33 1, u33 2, u36 0, u36 1, u36 2, q38, q39, u17 1, u17 2, u17 3, u17 4, u17 5, u17 6, u17 7, u17 8, u17 9, u17 10] : List Nat).getD (44 + 2 * j) 0)))))))]) ++ gX cL u21 X0) ++ gX cL u24 X0) ++ gX cL u27 X0) ++ gX cL u30 X0) ++ gL cI cL u33 L0) ++ gY cI u36 Y0) ++ [(q38, .inl (cI, 16, .inl (jA (fun _ => 0))))]) ++ [(q39, .inl (cI, 7, .inl (jA (fun _ => 0))))]) = (fun u : Nat → Nat => gS u 0 ++ gW cI (fun i => u (1 + i)) W0 ++ gW cI (fun i => u (11 + i)) W0 ++ gW cI (fun i => u (21 + i)) W0 ++ gG cI (fun i => u (31 + i)) G0 ++ gT cB (fun i => u (36 + i)) T0 ++ gN u 0 ++ gW cI (fun i => u (60 + i)) W0 ++ gK cI (fun i => u (39 + i)) K0 ++ gH cS u ++ gX cL (fun i => u (44 + i)) X0 ++ gX cL (fun i => u (46 + i)) X0 ++ gX cL (fun i => u (48 + i)) X0 ++ gX cL (fun i => u (50 + i)) X0 ++ gL cI cL (fun i => u (52 + i)) L0 ++ gY cI (fun i => u (55 + i)) Y0 ++ gI cI u (fun _ => 0) ++ gF cI u (fun _ => 0)) (fun i => ([h0, u2 0, u2 1, u2 2, u2 3, u2 4, u2 5, u2 6, u2 7, u2 8, u2 9, u5 0, u5 1, u5 2, u5 3, u5 4, u5 5, u5 6, u5 7, u5 8, u5 9, u8 0, u8 1, u8 2, u8 3, u8 4, u8 5, u8 6, u8 7, u8 8, u8 9, u11 0, u11 1, u11 2, u11 3, u11 4, u14 0, u14 1, u17 0, u17 11, u17 12, u17 13, u17 14, q19, u21 0, u21 1, u24 0, u24 1, u27 0, u27 1, u30 0, u30 1, u33 0, u33 1, u33 2, u36 0, u36 1, u36 2, q38, q39, u17 1, u17 2, u17 3, u17 4, u17 5, u17 6, u17 7, u17 8, u17 9, u17 10] : List Nat).getD i 0) := by
  simp only [gW, gG, gT, gK, gX, gL, gY, gS, gN, gH, gI, gF, List.append_assoc, List.cons_append, List.nil_append]
  rfl
section
variable {l : Launch} {D : va_G} {cI cL cB cS : ClassId}
set_option maxHeartbeats 8000000 in
set_option maxRecDepth 100000 in
theorem c_X8_init {h0 : Nat} : CnX (fun _ U => va_AO RX3 U) l yX8_init wsX8_init { frames := 3, cells := 69, slots := 1368, locals := 60 } D (jT cI cL cB cS) [.ref h0] [(h0, .inr (8, [.null, .null, .null, .int 0, .null, .null, .null, .null, .null, .null, .null, .null]))] 69 1368 (S := Nat → Nat) (fun u => gS u 0 ++ gW cI (fun i => u (1 + i)) W0 ++ gW cI (fun i => u (11 + i)) W0 ++ gW cI (fun i => u (21 + i)) W0 ++ gG cI (fun i => u (31 + i)) G0 ++ gT cB (fun i => u (36 + i)) T0 ++ gN u 0 ++ gW cI (fun i => u (60 + i)) W0 ++ gK cI (fun i => u (39 + i)) K0 ++ gH cS u ++ gX cL (fun i => u (44 + i)) X0 ++ gX cL (fun i => u (46 + i)) X0 ++ gX cL (fun i => u (48 + i)) X0 ++ gX cL (fun i => u (50 + i)) X0 ++ gL cI cL (fun i => u (52 + i)) L0 ++ gY cI (fun i => u (55 + i)) Y0 ++ gI cI u (fun _ => 0) ++ gF cI u (fun _ => 0)) (fun u => u 0 = h0) := by
  refine CnX.mk (cc := cX8_init) (maxL := 2) (by decide) rfl (Nat.le_of_ble_eq_true rfl) rfl ?_
  intro p_ e_ s_ m_ b_ me_ c_ A_ G hnm hX
  have q_0 : Cond.methodLink RX8 1 objectInit ∈ wsX8_init := List.mem_of_getElem? (i := 1) rfl
  have q_1 : Cond.instanceMethod objectInit ∈ wsX8_init := List.mem_of_getElem? (i := 2) rfl
  have q_2 : Cond.code objectInit ⟨#[0xb1]⟩ 1 none ∈ wsX8_init := List.mem_of_getElem? (i := 3) rfl
  have k_X7 : ∀ w ∈ u_ws RX7 TX7 12, w ∈ wsX8_init := fun _ h => List.mem_cons_of_mem _ (List.mem_append_left _ (List.mem_append_left _ (List.mem_append_left _ (List.mem_append_left _ (List.mem_append_left _ (List.mem_append_left _ (List.mem_append_left _ (List.mem_append_left _ (List.mem_append_right _ h)))))))))
  have q_4 : Cond.classLink RX8 7 RX7 ∈ wsX8_init := List.mem_of_getElem? (i := 4) rfl
  have q_5 : Cond.instantiable RX7 12 ∈ wsX8_init := List.mem_of_getElem? (i := 5) rfl
  have q_6 : Cond.initialized RX7 ∈ wsX8_init := List.mem_of_getElem? (i := 6) rfl
  have q_7 : Cond.instanceMethod yX7_init ∈ wsX8_init := List.mem_of_getElem? (i := 38) rfl
  have k_X8 : ∀ w ∈ u_ws RX8 TX8 12, w ∈ wsX8_init := fun _ h => List.mem_cons_of_mem _ (List.mem_append_left _ (List.mem_append_left _ (List.mem_append_left _ (List.mem_append_left _ (List.mem_append_left _ (List.mem_append_left _ (List.mem_append_left _ (List.mem_append_right _ h))))))))
  have q_9 : Cond.fieldLink RX8 10 "SupperLight" "world" "LSupperLight$World;" ∈ wsX8_init := List.mem_of_getElem? (i := 7) rfl
  have q_10 : Cond.fieldLink RX8 16 "SupperLight" "kept" "LSupperLight$World;" ∈ wsX8_init := List.mem_of_getElem? (i := 8) rfl
  have q_11 : Cond.fieldLink RX8 19 "SupperLight" "trial" "LSupperLight$World;" ∈ wsX8_init := List.mem_of_getElem? (i := 9) rfl
  have q_12 : Cond.fieldLink RX8 22 "SupperLight" "keeps" "Z" ∈ wsX8_init := List.mem_of_getElem? (i := 10) rfl
  have k_X0 : ∀ w ∈ u_ws RX0 TX0 5, w ∈ wsX8_init := fun _ h => List.mem_cons_of_mem _ (List.mem_append_left _ (List.mem_append_left _ (List.mem_append_left _ (List.mem_append_left _ (List.mem_append_left _ (List.mem_append_left _ (List.mem_append_right _ h)))))))
  have q_14 : Cond.classLink RX8 26 RX0 ∈ wsX8_init := List.mem_of_getElem? (i := 11) rfl
  have q_15 : Cond.instantiable RX0 5 ∈ wsX8_init := List.mem_of_getElem? (i := 12) rfl
  have q_16 : Cond.initialized RX0 ∈ wsX8_init := List.mem_of_getElem? (i := 13) rfl
  have q_17 : Cond.instanceMethod yX0_init ∈ wsX8_init := List.mem_of_getElem? (i := 53) rfl
  have q_18 : Cond.fieldLink RX8 29 "SupperLight" "glow" "LSupperLight$Glow;" ∈ wsX8_init := List.mem_of_getElem? (i := 14) rfl
  have k_X4 : ∀ w ∈ u_ws RX4 TX4 2, w ∈ wsX8_init := fun _ h => List.mem_cons_of_mem _ (List.mem_append_left _ (List.mem_append_left _ (List.mem_append_left _ (List.mem_append_left _ (List.mem_append_left _ (List.mem_append_right _ h))))))
  have q_20 : Cond.classLink RX8 33 RX4 ∈ wsX8_init := List.mem_of_getElem? (i := 15) rfl
  have q_21 : Cond.instantiable RX4 2 ∈ wsX8_init := List.mem_of_getElem? (i := 16) rfl
  have q_22 : Cond.initialized RX4 ∈ wsX8_init := List.mem_of_getElem? (i := 17) rfl
  have q_23 : Cond.instanceMethod yX4_init ∈ wsX8_init := List.mem_of_getElem? (i := 61) rfl
  have q_24 : Cond.fieldLink RX8 36 "SupperLight" "tape" "LSupperLight$Tape;" ∈ wsX8_init := List.mem_of_getElem? (i := 18) rfl
  have k_X2 : ∀ w ∈ u_ws RX2 TX2 3, w ∈ wsX8_init := fun _ h => List.mem_cons_of_mem _ (List.mem_append_left _ (List.mem_append_left _ (List.mem_append_left _ (List.mem_append_left _ (List.mem_append_right _ h)))))
  have q_26 : Cond.classLink RX8 40 RX2 ∈ wsX8_init := List.mem_of_getElem? (i := 19) rfl
  have q_27 : Cond.instantiable RX2 3 ∈ wsX8_init := List.mem_of_getElem? (i := 20) rfl
  have q_28 : Cond.initialized RX2 ∈ wsX8_init := List.mem_of_getElem? (i := 21) rfl
  have q_29 : Cond.instanceMethod yX2_init ∈ wsX8_init := List.mem_of_getElem? (i := 67) rfl
  have q_30 : Cond.fieldLink RX8 43 "SupperLight" "nightReader" "LSupperLight$NightReader;" ∈ wsX8_init := List.mem_of_getElem? (i := 22) rfl
  have q_31 : Cond.classLink RX8 47 RX3 ∈ wsX8_init := List.mem_of_getElem? (i := 23) rfl
  have q_32 : Cond.fieldLink RX8 49 "SupperLight" "sheets" "[LSupperLight$Sheet;" ∈ wsX8_init := List.mem_of_getElem? (i := 24) rfl
  have k_X3 : ∀ w ∈ u_ws RX3 TX3 3, w ∈ wsX8_init := fun _ h => List.mem_cons_of_mem _ (List.mem_append_left _ (List.mem_append_left _ (List.mem_append_left _ (List.mem_append_right _ h))))
  have q_34 : Cond.instantiable RX3 3 ∈ wsX8_init := List.mem_of_getElem? (i := 25) rfl
  have q_35 : Cond.initialized RX3 ∈ wsX8_init := List.mem_of_getElem? (i := 26) rfl
  have q_36 : Cond.instanceMethod yX3_init ∈ wsX8_init := List.mem_of_getElem? (i := 84) rfl
  have k_X1 : ∀ w ∈ u_ws RX1 TX1 2, w ∈ wsX8_init := fun _ h => List.mem_cons_of_mem _ (List.mem_append_left _ (List.mem_append_left _ (List.mem_append_right _ h)))
  have q_38 : Cond.classLink RX8 54 RX1 ∈ wsX8_init := List.mem_of_getElem? (i := 27) rfl
  have q_39 : Cond.instantiable RX1 2 ∈ wsX8_init := List.mem_of_getElem? (i := 28) rfl
  have q_40 : Cond.initialized RX1 ∈ wsX8_init := List.mem_of_getElem? (i := 29) rfl
  have q_41 : Cond.instanceMethod yX1_init ∈ wsX8_init := List.mem_of_getElem? (i := 91) rfl
  have q_42 : Cond.fieldLink RX8 57 "SupperLight" "lightReader" "LSupperLight$LightReader;" ∈ wsX8_init := List.mem_of_getElem? (i := 30) rfl
  have k_X6 : ∀ w ∈ u_ws RX6 TX6 2, w ∈ wsX8_init := fun _ h => List.mem_cons_of_mem _ (List.mem_append_left _ (List.mem_append_right _ h))
  have q_44 : Cond.classLink RX8 61 RX6 ∈ wsX8_init := List.mem_of_getElem? (i := 31) rfl
  have q_45 : Cond.instantiable RX6 2 ∈ wsX8_init := List.mem_of_getElem? (i := 32) rfl
  have q_46 : Cond.initialized RX6 ∈ wsX8_init := List.mem_of_getElem? (i := 33) rfl
  have q_47 : Cond.instanceMethod yX6_init ∈ wsX8_init := List.mem_of_getElem? (i := 96) rfl
  have q_48 : Cond.fieldLink RX8 64 "SupperLight" "ways" "LSupperLight$Ways;" ∈ wsX8_init := List.mem_of_getElem? (i := 34) rfl
  have q_49 : Cond.arrayClass .int ∈ wsX8_init := List.mem_of_getElem? (i := 35) rfl
  have q_50 : Cond.fieldLink RX8 68 "SupperLight" "lights" "[I" ∈ wsX8_init := List.mem_of_getElem? (i := 36) rfl
  have q_51 : Cond.fieldLink RX8 72 "SupperLight" "findings" "[I" ∈ wsX8_init := List.mem_of_getElem? (i := 37) rfl
  refine v_aload_n (j := 0) (x := h0) G dX8_init_0 rfl rfl ?_
  refine v_obj G q_0 q_1 q_2 ⟨Nat.le_of_ble_eq_true rfl, Nat.le_of_ble_eq_true rfl⟩ dX8_init_1 ?_
  refine v_aload_n (j := 0) (x := h0) G dX8_init_4 rfl rfl ?_
  refine v_new (ci := 7) (fs := [.int 0, .null, .int 0, .null, .null, .null, .null, .null, .int 0, .null, .null, .null]) G k_X7 tyX7 tyX7_ok q_4 q_5 q_6 rfl (by decide) ⟨Nat.le_of_ble_eq_true rfl, Nat.le_of_ble_eq_true rfl⟩ dX8_init_5 (fun q1 => ?_)
  refine v_dup G dX8_init_8 rfl ?_
  refine v_init (cs := 1) (sl := 12) (w0 := [(h0, .inr (8, [.null, .null, .null, .int 0, .null, .null, .null, .null, .null, .null, .null, .null]))]) G (rn_IN (As := []) (rest := [.ref q1, .ref h0]) G (c_X7_init (h0 := q1)) gX8_init_X7_init_n9 rfl (List.mem_of_getElem? (i := 10) rfl) q_6 q_7 rfl hdiX7_init ⟨rfl, rfl, Nat.le_of_ble_eq_true rfl, Nat.le_of_ble_eq_true rfl⟩ rfl rfl (Nat.le_of_ble_eq_true rfl) (by exact ⟨Nat.le_of_ble_eq_true rfl, Nat.le_of_ble_eq_true rfl⟩) dX8_init_9) (fun u2 hu3 => ?_)
  have hu3 : u2 0 = q1 := hu3
  subst hu3
  refine v_putF (q0 := 0) (k := 0) (ty := .object "SupperLight$World") (ws' := ([(h0, .inr (8, [.ref (u2 0), .null, .null, .int 0, .null, .null, .null, .null, .null, .null, .null, .null]))] ++ gW cI u2 W0)) G hnm k_X8 tyX8 tyX8_ok nmX8 rfl rfl (by decide) q_9 rfl rfl rfl rfl rfl rfl (Nat.le_of_ble_eq_true rfl) rfl dX8_init_12 ?_
  refine v_aload_n (j := 0) (x := h0) G dX8_init_15 rfl rfl ?_
  refine v_new (ci := 7) (fs := [.int 0, .null, .int 0, .null, .null, .null, .null, .null, .int 0, .null, .null, .null]) G k_X7 tyX7 tyX7_ok q_4 q_5 q_6 rfl (by decide) ⟨Nat.le_of_ble_eq_true rfl, Nat.le_of_ble_eq_true rfl⟩ dX8_init_16 (fun q4 => ?_)
  refine v_dup G dX8_init_19 rfl ?_
  refine v_init (cs := 11) (sl := 114) (w0 := ([(h0, .inr (8, [.ref (u2 0), .null, .null, .int 0, .null, .null, .null, .null, .null, .null, .null, .null]))] ++ gW cI u2 W0)) G (rn_IN (As := []) (rest := [.ref q4, .ref h0]) G (c_X7_init (h0 := q4)) gX8_init_X7_init_n9 rfl (List.mem_of_getElem? (i := 10) rfl) q_6 q_7 rfl hdiX7_init ⟨rfl, rfl, Nat.le_of_ble_eq_true rfl, Nat.le_of_ble_eq_true rfl⟩ rfl rfl (Nat.le_of_ble_eq_true rfl) (by exact ⟨Nat.le_of_ble_eq_true rfl, Nat.le_of_ble_eq_true rfl⟩) dX8_init_20) (fun u5 hu6 => ?_)
  have hu6 : u5 0 = q4 := hu6
  subst hu6
  refine v_putF (q0 := 0) (k := 1) (ty := .object "SupperLight$World") (ws' := (([(h0, .inr (8, [.ref (u2 0), .ref (u5 0), .null, .int 0, .null, .null, .null, .null, .null, .null, .null, .null]))] ++ gW cI u2 W0) ++ gW cI u5 W0)) G hnm k_X8 tyX8 tyX8_ok nmX8 rfl rfl (by decide) q_10 rfl rfl rfl rfl rfl rfl (Nat.le_of_ble_eq_true rfl) rfl dX8_init_23 ?_
  refine v_aload_n (j := 0) (x := h0) G dX8_init_26 rfl rfl ?_
  refine v_new (ci := 7) (fs := [.int 0, .null, .int 0, .null, .null, .null, .null, .null, .int 0, .null, .null, .null]) G k_X7 tyX7 tyX7_ok q_4 q_5 q_6 rfl (by decide) ⟨Nat.le_of_ble_eq_true rfl, Nat.le_of_ble_eq_true rfl⟩ dX8_init_27 (fun q7 => ?_)
  refine v_dup G dX8_init_30 rfl ?_
  refine v_init (cs := 21) (sl := 216) (w0 := (([(h0, .inr (8, [.ref (u2 0), .ref (u5 0), .null, .int 0, .null, .null, .null, .null, .null, .null, .null, .null]))] ++ gW cI u2 W0) ++ gW cI u5 W0)) G (rn_IN (As := []) (rest := [.ref q7, .ref h0]) G (c_X7_init (h0 := q7)) gX8_init_X7_init_n9 rfl (List.mem_of_getElem? (i := 10) rfl) q_6 q_7 rfl hdiX7_init ⟨rfl, rfl, Nat.le_of_ble_eq_true rfl, Nat.le_of_ble_eq_true rfl⟩ rfl rfl (Nat.le_of_ble_eq_true rfl) (by exact ⟨Nat.le_of_ble_eq_true rfl, Nat.le_of_ble_eq_true rfl⟩) dX8_init_31) (fun u8 hu9 => ?_)
  have hu9 : u8 0 = q7 := hu9
  subst hu9
  refine v_putF (q0 := 0) (k := 2) (ty := .object "SupperLight$World") (ws' := ((([(h0, .inr (8, [.ref (u2 0), .ref (u5 0), .ref (u8 0), .int 0, .null, .null, .null, .null, .null, .null, .null, .null]))] ++ gW cI u2 W0) ++ gW cI u5 W0) ++ gW cI u8 W0)) G hnm k_X8 tyX8 tyX8_ok nmX8 rfl rfl (by decide) q_11 rfl rfl rfl rfl rfl rfl (Nat.le_of_ble_eq_true rfl) rfl dX8_init_34 ?_
  refine v_aload_n (j := 0) (x := h0) G dX8_init_37 rfl rfl ?_
  refine v_iconst G dX8_init_38 ?_
  refine v_put (q0 := 0) (k := 3) (ty := .boolean) (ws' := ((([(h0, .inr (8, [.ref (u2 0), .ref (u5 0), .ref (u8 0), .int (jI 0), .null, .null, .null, .null, .null, .null, .null, .null]))] ++ gW cI u2 W0) ++ gW cI u5 W0) ++ gW cI u8 W0)) G k_X8 tyX8 tyX8_ok nmX8 rfl rfl (by decide) q_12 rfl rfl rfl nb_0 rfl (Nat.le_of_ble_eq_true rfl) rfl dX8_init_39 ?_
  refine v_aload_n (j := 0) (x := h0) G dX8_init_42 rfl rfl ?_
  refine v_new (ci := 0) (fs := [.int 0, .null, .null, .null, .null]) G k_X0 tyX0 tyX0_ok q_14 q_15 q_16 rfl (by decide) ⟨Nat.le_of_ble_eq_true rfl, Nat.le_of_ble_eq_true rfl⟩ dX8_init_43 (fun q10 => ?_)
  refine v_dup G dX8_init_46 rfl ?_
  refine v_init (cs := 31) (sl := 311) (w0 := ((([(h0, .inr (8, [.ref (u2 0), .ref (u5 0), .ref (u8 0), .int (jI 0), .null, .null, .null, .null, .null, .null, .null, .null]))] ++ gW cI u2 W0) ++ gW cI u5 W0) ++ gW cI u8 W0)) G (rn_IN (As := []) (rest := [.ref q10, .ref h0]) G (c_X0_init (h0 := q10)) gX8_init_X0_init_n28 rfl (List.mem_of_getElem? (i := 11) rfl) q_16 q_17 rfl hdiX0_init ⟨rfl, rfl, Nat.le_of_ble_eq_true rfl, Nat.le_of_ble_eq_true rfl⟩ rfl rfl (Nat.le_of_ble_eq_true rfl) (by exact ⟨Nat.le_of_ble_eq_true rfl, Nat.le_of_ble_eq_true rfl⟩) dX8_init_47) (fun u11 hu12 => ?_)
  have hu12 : u11 0 = q10 := hu12
  subst hu12
  refine v_putF (q0 := 0) (k := 4) (ty := .object "SupperLight$Glow") (ws' := (((([(h0, .inr (8, [.ref (u2 0), .ref (u5 0), .ref (u8 0), .int (jI 0), .ref (u11 0), .null, .null, .null, .null, .null, .null, .null]))] ++ gW cI u2 W0) ++ gW cI u5 W0) ++ gW cI u8 W0) ++ gG cI u11 G0)) G hnm k_X8 tyX8 tyX8_ok nmX8 rfl rfl (by decide) q_18 rfl rfl rfl rfl rfl rfl (Nat.le_of_ble_eq_true rfl) rfl dX8_init_50 ?_
  refine v_aload_n (j := 0) (x := h0) G dX8_init_53 rfl rfl ?_
  refine v_new (ci := 4) (fs := [.null, .int 0]) G k_X4 tyX4 tyX4_ok q_20 q_21 q_22 rfl (by decide) ⟨Nat.le_of_ble_eq_true rfl, Nat.le_of_ble_eq_true rfl⟩ dX8_init_54 (fun q13 => ?_)
  refine v_dup G dX8_init_57 rfl ?_
  refine v_init (cs := 36) (sl := 365) (w0 := (((([(h0, .inr (8, [.ref (u2 0), .ref (u5 0), .ref (u8 0), .int (jI 0), .ref (u11 0), .null, .null, .null, .null, .null, .null, .null]))] ++ gW cI u2 W0) ++ gW cI u5 W0) ++ gW cI u8 W0) ++ gG cI u11 G0)) G (rn_IN (As := []) (rest := [.ref q13, .ref h0]) G (c_X4_init (h0 := q13)) gX8_init_X4_init_n35 rfl (List.mem_of_getElem? (i := 12) rfl) q_22 q_23 rfl hdiX4_init ⟨rfl, rfl, Nat.le_of_ble_eq_true rfl, Nat.le_of_ble_eq_true rfl⟩ rfl rfl (Nat.le_of_ble_eq_true rfl) (by exact ⟨Nat.le_of_ble_eq_true rfl, Nat.le_of_ble_eq_true rfl⟩) dX8_init_58) (fun u14 hu15 => ?_)
  have hu15 : u14 0 = q13 := hu15
  subst hu15
  refine v_putF (q0 := 0) (k := 5) (ty := .object "SupperLight$Tape") (ws' := ((((([(h0, .inr (8, [.ref (u2 0), .ref (u5 0), .ref (u8 0), .int (jI 0), .ref (u11 0), .ref (u14 0), .null, .null, .null, .null, .null, .null]))] ++ gW cI u2 W0) ++ gW cI u5 W0) ++ gW cI u8 W0) ++ gG cI u11 G0) ++ gT cB u14 T0)) G hnm k_X8 tyX8 tyX8_ok nmX8 rfl rfl (by decide) q_24 rfl rfl rfl rfl rfl rfl (Nat.le_of_ble_eq_true rfl) rfl dX8_init_61 ?_
  refine v_aload_n (j := 0) (x := h0) G dX8_init_64 rfl rfl ?_
  refine v_new (ci := 2) (fs := [.null, .null, .int 0]) G k_X2 tyX2 tyX2_ok q_26 q_27 q_28 rfl (by decide) ⟨Nat.le_of_ble_eq_true rfl, Nat.le_of_ble_eq_true rfl⟩ dX8_init_65 (fun q16 => ?_)
  refine v_dup G dX8_init_68 rfl ?_
  refine v_init (cs := 38) (sl := 488) (w0 := ((((([(h0, .inr (8, [.ref (u2 0), .ref (u5 0), .ref (u8 0), .int (jI 0), .ref (u11 0), .ref (u14 0), .null, .null, .null, .null, .null, .null]))] ++ gW cI u2 W0) ++ gW cI u5 W0) ++ gW cI u8 W0) ++ gG cI u11 G0) ++ gT cB u14 T0)) G (rn_IN (As := []) (rest := [.ref q16, .ref h0]) G (c_X2_init (h0 := q16)) gX8_init_X2_init_n42 rfl (List.mem_of_getElem? (i := 13) rfl) q_28 q_29 rfl hdiX2_init ⟨rfl, rfl, Nat.le_of_ble_eq_true rfl, Nat.le_of_ble_eq_true rfl⟩ rfl rfl (Nat.le_of_ble_eq_true rfl) (by exact ⟨Nat.le_of_ble_eq_true rfl, Nat.le_of_ble_eq_true rfl⟩) dX8_init_69) (fun u17 hu18 => ?_)
  have hu18 : u17 0 = q16 := hu18
  subst hu18
  refine v_putF (q0 := 0) (k := 6) (ty := .object "SupperLight$NightReader") (ws' := (((((([(h0, .inr (8, [.ref (u2 0), .ref (u5 0), .ref (u8 0), .int (jI 0), .ref (u11 0), .ref (u14 0), .ref (u17 0), .null, .null, .null, .null, .null]))] ++ gW cI u2 W0) ++ gW cI u5 W0) ++ gW cI u8 W0) ++ gG cI u11 G0) ++ gT cB u14 T0) ++ ([(u17 0, .inr (2, [.ref (u17 1), .ref (u17 11), .int (jI 0)]))] ++ gW cI (fun i => u17 (1 + i)) W0 ++ gK cI (fun i => u17 (11 + i)) K0))) G hnm k_X8 tyX8 tyX8_ok nmX8 rfl rfl (by decide) q_30 rfl rfl rfl rfl rfl rfl (Nat.le_of_ble_eq_true rfl) rfl dX8_init_72 ?_
  refine v_aload_n (j := 0) (x := h0) G dX8_init_75 rfl rfl ?_
  refine v_iconst G dX8_init_76 ?_
  refine v_newq (n := 4) (N := 4) G q_31 hX rfl (by decide) ⟨Nat.le_of_ble_eq_true rfl, Nat.le_of_ble_eq_true rfl⟩ dX8_init_77 (fun q19 => ?_)
  refine v_putF (q0 := 0) (k := 7) (ty := .array (.object "SupperLight$Sheet")) (ws' := ((((((([(h0, .inr (8, [.ref (u2 0), .ref (u5 0), .ref (u8 0), .int (jI 0), .ref (u11 0), .ref (u14 0), .ref (u17 0), .ref q19, .null, .null, .null, .null]))] ++ gW cI u2 W0) ++ gW cI u5 W0) ++ gW cI u8 W0) ++ gG cI u11 G0) ++ gT cB u14 T0) ++ ([(u17 0, .inr (2, [.ref (u17 1), .ref (u17 11), .int (jI 0)]))] ++ gW cI (fun i => u17 (1 + i)) W0 ++ gK cI (fun i => u17 (11 + i)) K0)) ++ [(q19, .inl (cS, 4, .inr (.inr (.inr (.inr (fun _ => none))))))])) G hnm k_X8 tyX8 tyX8_ok nmX8 rfl rfl (by decide) q_32 rfl rfl rfl rfl rfl rfl (Nat.le_of_ble_eq_true rfl) rfl dX8_init_80 ?_
  refine v_iconst G dX8_init_83 ?_
  refine v_istore_n (lv' := [(1, .int (jI 0)), (0, .ref h0)]) G dX8_init_84 rfl (by decide) rfl ?_
  refine v_iload_n (j := 0) (x := jI 0) G dX8_init_85 rfl rfl ?_
  refine v_iconst G dX8_init_86 ?_
  refine v_icmp_ge (a := 0) (b := 4) (tgt := 109) G dX8_init_87 (by decide) (by omega) (fun h_ => by exfalso; omega) (fun h_ => ?_)
  refine v_aload_n (j := 1) (x := h0) G dX8_init_90 rfl rfl ?_
  refine v_get (q0 := 0) (k := 7) (v := .ref q19) G k_X8 rfl rfl (by decide) q_32 rfl rfl dX8_init_91 ?_
  refine v_iload_n (j := 0) (x := jI 0) G dX8_init_94 rfl rfl ?_
  refine v_new (ci := 3) (fs := [.int 0, .int 0, .null]) G k_X3 tyX3 tyX3_ok q_31 q_34 q_35 rfl (by decide) ⟨Nat.le_of_ble_eq_true rfl, Nat.le_of_ble_eq_true rfl⟩ dX8_init_95 (fun q20 => ?_)
  refine v_dup G dX8_init_98 rfl ?_
  refine v_init (cs := 54) (sl := 964) (w0 := ((((((([(h0, .inr (8, [.ref (u2 0), .ref (u5 0), .ref (u8 0), .int (jI 0), .ref (u11 0), .ref (u14 0), .ref (u17 0), .ref q19, .null, .null, .null, .null]))] ++ gW cI u2 W0) ++ gW cI u5 W0) ++ gW cI u8 W0) ++ gG cI u11 G0) ++ gT cB u14 T0) ++ ([(u17 0, .inr (2, [.ref (u17 1), .ref (u17 11), .int (jI 0)]))] ++ gW cI (fun i => u17 (1 + i)) W0 ++ gK cI (fun i => u17 (11 + i)) K0)) ++ [(q19, .inl (cS, 4, .inr (.inr (.inr (.inr (fun _ => none))))))])) G (rn_IN (As := []) (rest := [.ref q20, .int (jI 0), .ref q19]) G (c_X3_init (h0 := q20)) gX8_init_X3_init_n53 rfl (List.mem_of_getElem? (i := 14) rfl) q_35 q_36 rfl hdiX3_init ⟨rfl, rfl, Nat.le_of_ble_eq_true rfl, Nat.le_of_ble_eq_true rfl⟩ rfl rfl (Nat.le_of_ble_eq_true rfl) (by exact ⟨Nat.le_of_ble_eq_true rfl, Nat.le_of_ble_eq_true rfl⟩) dX8_init_99) (fun u21 hu22 => ?_)
  have hu22 : u21 0 = q20 := hu22
  subst hu22
  refine v_aast (q0 := 53) (t0 := 3) (qk := 54) (z := 0) (f := fun _ => none) (g := fun j => ([some (u21 0)] : List (Option Nat)).getD j none) (ws' := (((((((([(h0, .inr (8, [.ref (u2 0), .ref (u5 0), .ref (u8 0), .int (jI 0), .ref (u11 0), .ref (u14 0), .ref (u17 0), .ref q19, .null, .null, .null, .null]))] ++ gW cI u2 W0) ++ gW cI u5 W0) ++ gW cI u8 W0) ++ gG cI u11 G0) ++ gT cB u14 T0) ++ ([(u17 0, .inr (2, [.ref (u17 1), .ref (u17 11), .int (jI 0)]))] ++ gW cI (fun i => u17 (1 + i)) W0 ++ gK cI (fun i => u17 (11 + i)) K0)) ++ [(q19, .inl (cS, 4, .inr (.inr (.inr (.inr (fun j => ([some (u21 0)] : List (Option Nat)).getD j none))))))]) ++ gX cL u21 X0)) G rfl rfl rfl rfl (by omega) (upS1 _) rfl dX8_init_102 ?_
  refine v_iinc (k := 0) (z := 0) (z' := 1) (lv' := [(1, .int (jI 1)), (0, .ref h0)]) G dX8_init_103 rfl (by omega) (by decide) rfl ?_
  refine v_goto (tgt := 85) G dX8_init_106 (by decide) ?_
  refine v_iload_n (j := 0) (x := jI 1) G dX8_init_85 rfl rfl ?_
  refine v_iconst G dX8_init_86 ?_
  refine v_icmp_ge (a := 1) (b := 4) (tgt := 109) G dX8_init_87 (by decide) (by omega) (fun h_ => by exfalso; omega) (fun h_ => ?_)
  refine v_aload_n (j := 1) (x := h0) G dX8_init_90 rfl rfl ?_
  refine v_get (q0 := 0) (k := 7) (v := .ref q19) G k_X8 rfl rfl (by decide) q_32 rfl rfl dX8_init_91 ?_
  refine v_iload_n (j := 0) (x := jI 1) G dX8_init_94 rfl rfl ?_
  refine v_new (ci := 3) (fs := [.int 0, .int 0, .null]) G k_X3 tyX3 tyX3_ok q_31 q_34 q_35 rfl (by decide) ⟨Nat.le_of_ble_eq_true rfl, Nat.le_of_ble_eq_true rfl⟩ dX8_init_95 (fun q23 => ?_)
  refine v_dup G dX8_init_98 rfl ?_
  refine v_init (cs := 56) (sl := 1007) (w0 := (((((((([(h0, .inr (8, [.ref (u2 0), .ref (u5 0), .ref (u8 0), .int (jI 0), .ref (u11 0), .ref (u14 0), .ref (u17 0), .ref q19, .null, .null, .null, .null]))] ++ gW cI u2 W0) ++ gW cI u5 W0) ++ gW cI u8 W0) ++ gG cI u11 G0) ++ gT cB u14 T0) ++ ([(u17 0, .inr (2, [.ref (u17 1), .ref (u17 11), .int (jI 0)]))] ++ gW cI (fun i => u17 (1 + i)) W0 ++ gK cI (fun i => u17 (11 + i)) K0)) ++ [(q19, .inl (cS, 4, .inr (.inr (.inr (.inr (fun j => ([some (u21 0)] : List (Option Nat)).getD j none))))))]) ++ gX cL u21 X0)) G (rn_IN (As := []) (rest := [.ref q23, .int (jI 1), .ref q19]) G (c_X3_init (h0 := q23)) gX8_init_X3_init_n53 rfl (List.mem_of_getElem? (i := 14) rfl) q_35 q_36 rfl hdiX3_init ⟨rfl, rfl, Nat.le_of_ble_eq_true rfl, Nat.le_of_ble_eq_true rfl⟩ rfl rfl (Nat.le_of_ble_eq_true rfl) (by exact ⟨Nat.le_of_ble_eq_true rfl, Nat.le_of_ble_eq_true rfl⟩) dX8_init_99) (fun u24 hu25 => ?_)
  have hu25 : u24 0 = q23 := hu25
  subst hu25
  refine v_aast (q0 := 53) (t0 := 3) (qk := 56) (z := 1) (f := fun j => ([some (u21 0)] : List (Option Nat)).getD j none) (g := fun j => ([some (u21 0), some (u24 0)] : List (Option Nat)).getD j none) (ws' := ((((((((([(h0, .inr (8, [.ref (u2 0), .ref (u5 0), .ref (u8 0), .int (jI 0), .ref (u11 0), .ref (u14 0), .ref (u17 0), .ref q19, .null, .null, .null, .null]))] ++ gW cI u2 W0) ++ gW cI u5 W0) ++ gW cI u8 W0) ++ gG cI u11 G0) ++ gT cB u14 T0) ++ ([(u17 0, .inr (2, [.ref (u17 1), .ref (u17 11), .int (jI 0)]))] ++ gW cI (fun i => u17 (1 + i)) W0 ++ gK cI (fun i => u17 (11 + i)) K0)) ++ [(q19, .inl (cS, 4, .inr (.inr (.inr (.inr (fun j => ([some (u21 0), some (u24 0)] : List (Option Nat)).getD j none))))))]) ++ gX cL u21 X0) ++ gX cL u24 X0)) G rfl rfl rfl rfl (by omega) (upS2 _ _) rfl dX8_init_102 ?_
  refine v_iinc (k := 0) (z := 1) (z' := 2) (lv' := [(1, .int (jI 2)), (0, .ref h0)]) G dX8_init_103 rfl (by omega) (by decide) rfl ?_
  refine v_goto (tgt := 85) G dX8_init_106 (by decide) ?_
  refine v_iload_n (j := 0) (x := jI 2) G dX8_init_85 rfl rfl ?_
  refine v_iconst G dX8_init_86 ?_
  refine v_icmp_ge (a := 2) (b := 4) (tgt := 109) G dX8_init_87 (by decide) (by omega) (fun h_ => by exfalso; omega) (fun h_ => ?_)
  refine v_aload_n (j := 1) (x := h0) G dX8_init_90 rfl rfl ?_
  refine v_get (q0 := 0) (k := 7) (v := .ref q19) G k_X8 rfl rfl (by decide) q_32 rfl rfl dX8_init_91 ?_
  refine v_iload_n (j := 0) (x := jI 2) G dX8_init_94 rfl rfl ?_
  refine v_new (ci := 3) (fs := [.int 0, .int 0, .null]) G k_X3 tyX3 tyX3_ok q_31 q_34 q_35 rfl (by decide) ⟨Nat.le_of_ble_eq_true rfl, Nat.le_of_ble_eq_true rfl⟩ dX8_init_95 (fun q26 => ?_)
  refine v_dup G dX8_init_98 rfl ?_
  refine v_init (cs := 58) (sl := 1050) (w0 := ((((((((([(h0, .inr (8, [.ref (u2 0), .ref (u5 0), .ref (u8 0), .int (jI 0), .ref (u11 0), .ref (u14 0), .ref (u17 0), .ref q19, .null, .null, .null, .null]))] ++ gW cI u2 W0) ++ gW cI u5 W0) ++ gW cI u8 W0) ++ gG cI u11 G0) ++ gT cB u14 T0) ++ ([(u17 0, .inr (2, [.ref (u17 1), .ref (u17 11), .int (jI 0)]))] ++ gW cI (fun i => u17 (1 + i)) W0 ++ gK cI (fun i => u17 (11 + i)) K0)) ++ [(q19, .inl (cS, 4, .inr (.inr (.inr (.inr (fun j => ([some (u21 0), some (u24 0)] : List (Option Nat)).getD j none))))))]) ++ gX cL u21 X0) ++ gX cL u24 X0)) G (rn_IN (As := []) (rest := [.ref q26, .int (jI 2), .ref q19]) G (c_X3_init (h0 := q26)) gX8_init_X3_init_n53 rfl (List.mem_of_getElem? (i := 14) rfl) q_35 q_36 rfl hdiX3_init ⟨rfl, rfl, Nat.le_of_ble_eq_true rfl, Nat.le_of_ble_eq_true rfl⟩ rfl rfl (Nat.le_of_ble_eq_true rfl) (by exact ⟨Nat.le_of_ble_eq_true rfl, Nat.le_of_ble_eq_true rfl⟩) dX8_init_99) (fun u27 hu28 => ?_)
  have hu28 : u27 0 = q26 := hu28
  subst hu28
  refine v_aast (q0 := 53) (t0 := 3) (qk := 58) (z := 2) (f := fun j => ([some (u21 0), some (u24 0)] : List (Option Nat)).getD j none) (g := fun j => ([some (u21 0), some (u24 0), some (u27 0)] : List (Option Nat)).getD j none) (ws' := (((((((((([(h0, .inr (8, [.ref (u2 0), .ref (u5 0), .ref (u8 0), .int (jI 0), .ref (u11 0), .ref (u14 0), .ref (u17 0), .ref q19, .null, .null, .null, .null]))] ++ gW cI u2 W0) ++ gW cI u5 W0) ++ gW cI u8 W0) ++ gG cI u11 G0) ++ gT cB u14 T0) ++ ([(u17 0, .inr (2, [.ref (u17 1), .ref (u17 11), .int (jI 0)]))] ++ gW cI (fun i => u17 (1 + i)) W0 ++ gK cI (fun i => u17 (11 + i)) K0)) ++ [(q19, .inl (cS, 4, .inr (.inr (.inr (.inr (fun j => ([some (u21 0), some (u24 0), some (u27 0)] : List (Option Nat)).getD j none))))))]) ++ gX cL u21 X0) ++ gX cL u24 X0) ++ gX cL u27 X0)) G rfl rfl rfl rfl (by omega) (upS3 _ _ _) rfl dX8_init_102 ?_
  refine v_iinc (k := 0) (z := 2) (z' := 3) (lv' := [(1, .int (jI 3)), (0, .ref h0)]) G dX8_init_103 rfl (by omega) (by decide) rfl ?_
  refine v_goto (tgt := 85) G dX8_init_106 (by decide) ?_
  refine v_iload_n (j := 0) (x := jI 3) G dX8_init_85 rfl rfl ?_
  refine v_iconst G dX8_init_86 ?_
  refine v_icmp_ge (a := 3) (b := 4) (tgt := 109) G dX8_init_87 (by decide) (by omega) (fun h_ => by exfalso; omega) (fun h_ => ?_)
  refine v_aload_n (j := 1) (x := h0) G dX8_init_90 rfl rfl ?_
  refine v_get (q0 := 0) (k := 7) (v := .ref q19) G k_X8 rfl rfl (by decide) q_32 rfl rfl dX8_init_91 ?_
  refine v_iload_n (j := 0) (x := jI 3) G dX8_init_94 rfl rfl ?_
  refine v_new (ci := 3) (fs := [.int 0, .int 0, .null]) G k_X3 tyX3 tyX3_ok q_31 q_34 q_35 rfl (by decide) ⟨Nat.le_of_ble_eq_true rfl, Nat.le_of_ble_eq_true rfl⟩ dX8_init_95 (fun q29 => ?_)
  refine v_dup G dX8_init_98 rfl ?_
  refine v_init (cs := 60) (sl := 1093) (w0 := (((((((((([(h0, .inr (8, [.ref (u2 0), .ref (u5 0), .ref (u8 0), .int (jI 0), .ref (u11 0), .ref (u14 0), .ref (u17 0), .ref q19, .null, .null, .null, .null]))] ++ gW cI u2 W0) ++ gW cI u5 W0) ++ gW cI u8 W0) ++ gG cI u11 G0) ++ gT cB u14 T0) ++ ([(u17 0, .inr (2, [.ref (u17 1), .ref (u17 11), .int (jI 0)]))] ++ gW cI (fun i => u17 (1 + i)) W0 ++ gK cI (fun i => u17 (11 + i)) K0)) ++ [(q19, .inl (cS, 4, .inr (.inr (.inr (.inr (fun j => ([some (u21 0), some (u24 0), some (u27 0)] : List (Option Nat)).getD j none))))))]) ++ gX cL u21 X0) ++ gX cL u24 X0) ++ gX cL u27 X0)) G (rn_IN (As := []) (rest := [.ref q29, .int (jI 3), .ref q19]) G (c_X3_init (h0 := q29)) gX8_init_X3_init_n53 rfl (List.mem_of_getElem? (i := 14) rfl) q_35 q_36 rfl hdiX3_init ⟨rfl, rfl, Nat.le_of_ble_eq_true rfl, Nat.le_of_ble_eq_true rfl⟩ rfl rfl (Nat.le_of_ble_eq_true rfl) (by exact ⟨Nat.le_of_ble_eq_true rfl, Nat.le_of_ble_eq_true rfl⟩) dX8_init_99) (fun u30 hu31 => ?_)
  have hu31 : u30 0 = q29 := hu31
  subst hu31
  refine v_aast (q0 := 53) (t0 := 3) (qk := 60) (z := 3) (f := fun j => ([some (u21 0), some (u24 0), some (u27 0)] : List (Option Nat)).getD j none) (g := fun j => ([some (u21 0), some (u24 0), some (u27 0), some (u30 0)] : List (Option Nat)).getD j none) (ws' := ((((((((((([(h0, .inr (8, [.ref (u2 0), .ref (u5 0), .ref (u8 0), .int (jI 0), .ref (u11 0), .ref (u14 0), .ref (u17 0), .ref q19, .null, .null, .null, .null]))] ++ gW cI u2 W0) ++ gW cI u5 W0) ++ gW cI u8 W0) ++ gG cI u11 G0) ++ gT cB u14 T0) ++ ([(u17 0, .inr (2, [.ref (u17 1), .ref (u17 11), .int (jI 0)]))] ++ gW cI (fun i => u17 (1 + i)) W0 ++ gK cI (fun i => u17 (11 + i)) K0)) ++ [(q19, .inl (cS, 4, .inr (.inr (.inr (.inr (fun j => ([some (u21 0), some (u24 0), some (u27 0), some (u30 0)] : List (Option Nat)).getD j none))))))]) ++ gX cL u21 X0) ++ gX cL u24 X0) ++ gX cL u27 X0) ++ gX cL u30 X0)) G rfl rfl rfl rfl (by omega) (upS4 _ _ _ _) rfl dX8_init_102 ?_
  refine v_iinc (k := 0) (z := 3) (z' := 4) (lv' := [(1, .int (jI 4)), (0, .ref h0)]) G dX8_init_103 rfl (by omega) (by decide) rfl ?_
  refine v_goto (tgt := 85) G dX8_init_106 (by decide) ?_
  refine v_iload_n (j := 0) (x := jI 4) G dX8_init_85 rfl rfl ?_
  refine v_iconst G dX8_init_86 ?_
  refine v_icmp_ge (a := 4) (b := 4) (tgt := 109) G dX8_init_87 (by decide) (by omega) (fun h_ => ?_) (fun h_ => by exfalso; omega)
  refine v_aload_n (j := 1) (x := h0) G dX8_init_109 rfl rfl ?_
  refine v_new (ci := 1) (fs := [.null, .null]) G k_X1 tyX1 tyX1_ok q_38 q_39 q_40 rfl (by decide) ⟨Nat.le_of_ble_eq_true rfl, Nat.le_of_ble_eq_true rfl⟩ dX8_init_110 (fun q32 => ?_)
  refine v_dup G dX8_init_113 rfl ?_
  refine v_init (cs := 62) (sl := 1135) (w0 := ((((((((((([(h0, .inr (8, [.ref (u2 0), .ref (u5 0), .ref (u8 0), .int (jI 0), .ref (u11 0), .ref (u14 0), .ref (u17 0), .ref q19, .null, .null, .null, .null]))] ++ gW cI u2 W0) ++ gW cI u5 W0) ++ gW cI u8 W0) ++ gG cI u11 G0) ++ gT cB u14 T0) ++ ([(u17 0, .inr (2, [.ref (u17 1), .ref (u17 11), .int (jI 0)]))] ++ gW cI (fun i => u17 (1 + i)) W0 ++ gK cI (fun i => u17 (11 + i)) K0)) ++ [(q19, .inl (cS, 4, .inr (.inr (.inr (.inr (fun j => ([some (u21 0), some (u24 0), some (u27 0), some (u30 0)] : List (Option Nat)).getD j none))))))]) ++ gX cL u21 X0) ++ gX cL u24 X0) ++ gX cL u27 X0) ++ gX cL u30 X0)) G (rn_IN (As := []) (rest := [.ref q32, .ref h0]) G (c_X1_init (h0 := q32)) gX8_init_X1_init_n56 rfl (List.mem_of_getElem? (i := 15) rfl) q_40 q_41 rfl hdiX1_init ⟨rfl, rfl, Nat.le_of_ble_eq_true rfl, Nat.le_of_ble_eq_true rfl⟩ rfl rfl (Nat.le_of_ble_eq_true rfl) (by exact ⟨Nat.le_of_ble_eq_true rfl, Nat.le_of_ble_eq_true rfl⟩) dX8_init_114) (fun u33 hu34 => ?_)
  have hu34 : u33 0 = q32 := hu34
  subst hu34
  refine v_putF (q0 := 0) (k := 8) (ty := .object "SupperLight$LightReader") (ws' := (((((((((((([(h0, .inr (8, [.ref (u2 0), .ref (u5 0), .ref (u8 0), .int (jI 0), .ref (u11 0), .ref (u14 0), .ref (u17 0), .ref q19, .ref (u33 0), .null, .null, .null]))] ++ gW cI u2 W0) ++ gW cI u5 W0) ++ gW cI u8 W0) ++ gG cI u11 G0) ++ gT cB u14 T0) ++ ([(u17 0, .inr (2, [.ref (u17 1), .ref (u17 11), .int (jI 0)]))] ++ gW cI (fun i => u17 (1 + i)) W0 ++ gK cI (fun i => u17 (11 + i)) K0)) ++ [(q19, .inl (cS, 4, .inr (.inr (.inr (.inr (fun j => ([some (u21 0), some (u24 0), some (u27 0), some (u30 0)] : List (Option Nat)).getD j none))))))]) ++ gX cL u21 X0) ++ gX cL u24 X0) ++ gX cL u27 X0) ++ gX cL u30 X0) ++ gL cI cL u33 L0)) G hnm k_X8 tyX8 tyX8_ok nmX8 rfl rfl (by decide) q_42 rfl rfl rfl rfl rfl rfl (Nat.le_of_ble_eq_true rfl) rfl dX8_init_117 ?_
  refine v_aload_n (j := 1) (x := h0) G dX8_init_120 rfl rfl ?_
  refine v_new (ci := 6) (fs := [.null, .null]) G k_X6 tyX6 tyX6_ok q_44 q_45 q_46 rfl (by decide) ⟨Nat.le_of_ble_eq_true rfl, Nat.le_of_ble_eq_true rfl⟩ dX8_init_121 (fun q35 => ?_)
  refine v_dup G dX8_init_124 rfl ?_
  refine v_init (cs := 65) (sl := 1313) (w0 := (((((((((((([(h0, .inr (8, [.ref (u2 0), .ref (u5 0), .ref (u8 0), .int (jI 0), .ref (u11 0), .ref (u14 0), .ref (u17 0), .ref q19, .ref (u33 0), .null, .null, .null]))] ++ gW cI u2 W0) ++ gW cI u5 W0) ++ gW cI u8 W0) ++ gG cI u11 G0) ++ gT cB u14 T0) ++ ([(u17 0, .inr (2, [.ref (u17 1), .ref (u17 11), .int (jI 0)]))] ++ gW cI (fun i => u17 (1 + i)) W0 ++ gK cI (fun i => u17 (11 + i)) K0)) ++ [(q19, .inl (cS, 4, .inr (.inr (.inr (.inr (fun j => ([some (u21 0), some (u24 0), some (u27 0), some (u30 0)] : List (Option Nat)).getD j none))))))]) ++ gX cL u21 X0) ++ gX cL u24 X0) ++ gX cL u27 X0) ++ gX cL u30 X0) ++ gL cI cL u33 L0)) G (rn_IN (As := []) (rest := [.ref q35, .ref h0]) G (c_X6_init (h0 := q35)) gX8_init_X6_init_n63 rfl (List.mem_of_getElem? (i := 16) rfl) q_46 q_47 rfl hdiX6_init ⟨rfl, rfl, Nat.le_of_ble_eq_true rfl, Nat.le_of_ble_eq_true rfl⟩ rfl rfl (Nat.le_of_ble_eq_true rfl) (by exact ⟨Nat.le_of_ble_eq_true rfl, Nat.le_of_ble_eq_true rfl⟩) dX8_init_125) (fun u36 hu37 => ?_)
  have hu37 : u36 0 = q35 := hu37
  subst hu37
  refine v_putF (q0 := 0) (k := 9) (ty := .object "SupperLight$Ways") (ws' := ((((((((((((([(h0, .inr (8, [.ref (u2 0), .ref (u5 0), .ref (u8 0), .int (jI 0), .ref (u11 0), .ref (u14 0), .ref (u17 0), .ref q19, .ref (u33 0), .ref (u36 0), .null, .null]))] ++ gW cI u2 W0) ++ gW cI u5 W0) ++ gW cI u8 W0) ++ gG cI u11 G0) ++ gT cB u14 T0) ++ ([(u17 0, .inr (2, [.ref (u17 1), .ref (u17 11), .int (jI 0)]))] ++ gW cI (fun i => u17 (1 + i)) W0 ++ gK cI (fun i => u17 (11 + i)) K0)) ++ [(q19, .inl (cS, 4, .inr (.inr (.inr (.inr (fun j => ([some (u21 0), some (u24 0), some (u27 0), some (u30 0)] : List (Option Nat)).getD j none))))))]) ++ gX cL u21 X0) ++ gX cL u24 X0) ++ gX cL u27 X0) ++ gX cL u30 X0) ++ gL cI cL u33 L0) ++ gY cI u36 Y0)) G hnm k_X8 tyX8 tyX8_ok nmX8 rfl rfl (by decide) q_48 rfl rfl rfl rfl rfl rfl (Nat.le_of_ble_eq_true rfl) rfl dX8_init_128 ?_
  refine v_aload_n (j := 1) (x := h0) G dX8_init_131 rfl rfl ?_
  refine v_bipush G dX8_init_132 (by decide) ?_
  refine v_newaI (n := 16) (N := 16) G q_49 rfl (by decide) ⟨Nat.le_of_ble_eq_true rfl, Nat.le_of_ble_eq_true rfl⟩ dX8_init_134 (fun q38 => ?_)
  refine v_putF (q0 := 0) (k := 10) (ty := .array .int) (ws' := (((((((((((((([(h0, .inr (8, [.ref (u2 0), .ref (u5 0), .ref (u8 0), .int (jI 0), .ref (u11 0), .ref (u14 0), .ref (u17 0), .ref q19, .ref (u33 0), .ref (u36 0), .ref q38, .null]))] ++ gW cI u2 W0) ++ gW cI u5 W0) ++ gW cI u8 W0) ++ gG cI u11 G0) ++ gT cB u14 T0) ++ ([(u17 0, .inr (2, [.ref (u17 1), .ref (u17 11), .int (jI 0)]))] ++ gW cI (fun i => u17 (1 + i)) W0 ++ gK cI (fun i => u17 (11 + i)) K0)) ++ [(q19, .inl (cS, 4, .inr (.inr (.inr (.inr (fun j => ([some (u21 0), some (u24 0), some (u27 0), some (u30 0)] : List (Option Nat)).getD j none))))))]) ++ gX cL u21 X0) ++ gX cL u24 X0) ++ gX cL u27 X0) ++ gX cL u30 X0) ++ gL cI cL u33 L0) ++ gY cI u36 Y0) ++ [(q38, .inl (cI, 16, .inl (jA (fun _ => 0))))])) G hnm k_X8 tyX8 tyX8_ok nmX8 rfl rfl (by decide) q_50 rfl rfl rfl rfl rfl rfl (Nat.le_of_ble_eq_true rfl) rfl dX8_init_136 ?_
  refine v_aload_n (j := 1) (x := h0) G dX8_init_139 rfl rfl ?_
  refine v_bipush G dX8_init_140 (by decide) ?_
  refine v_newaI (n := 7) (N := 7) G q_49 rfl (by decide) ⟨Nat.le_of_ble_eq_true rfl, Nat.le_of_ble_eq_true rfl⟩ dX8_init_142 (fun q39 => ?_)
  refine v_putF (q0 := 0) (k := 11) (ty := .array .int) (ws' := ((((((((((((((([(h0, .inr (8, [.ref (u2 0), .ref (u5 0), .ref (u8 0), .int (jI 0), .ref (u11 0), .ref (u14 0), .ref (u17 0), .ref q19, .ref (u33 0), .ref (u36 0), .ref q38, .ref q39]))] ++ gW cI u2 W0) ++ gW cI u5 W0) ++ gW cI u8 W0) ++ gG cI u11 G0) ++ gT cB u14 T0) ++ ([(u17 0, .inr (2, [.ref (u17 1), .ref (u17 11), .int (jI 0)]))] ++ gW cI (fun i => u17 (1 + i)) W0 ++ gK cI (fun i => u17 (11 + i)) K0)) ++ [(q19, .inl (cS, 4, .inr (.inr (.inr (.inr (fun j => ([some (u21 0), some (u24 0), some (u27 0), some (u30 0)] : List (Option Nat)).getD j none))))))]) ++ gX cL u21 X0) ++ gX cL u24 X0) ++ gX cL u27 X0) ++ gX cL u30 X0) ++ gL cI cL u33 L0) ++ gY cI u36 Y0) ++ [(q38, .inl (cI, 16, .inl (jA (fun _ => 0))))]) ++ [(q39, .inl (cI, 7, .inl (jA (fun _ => 0))))])) G hnm k_X8 tyX8 tyX8_ok nmX8 rfl rfl (by decide) q_51 rfl rfl rfl rfl rfl rfl (Nat.le_of_ble_eq_true rfl) rfl dX8_init_144 ?_
  refine v_cellQ (q0 := 53) (f := fun j => ([some (u21 0), some (u24 0), some (u27 0), some (u30 0)] : List (Option Nat)).getD j none) (g := fun j => some (([h0, u2 0, u2 1, u2 2, u2 3, u2 4, u2 5, u2 6, u2 7, u2 8, u2 9, u5 0, u5 1, u5 2, u5 3, u5 4, u5 5, u5 6, u5 7, u5 8, u5 9, u8 0, u8 1, u8 2, u8 3, u8 4, u8 5, u8 6, u8 7, u8 8, u8 9, u11 0, u11 1, u11 2, u11 3, u11 4, u14 0, u14 1, u17 0, u17 11, u17 12, u17 13, u17 14, q19, u21 0, u21 1, u24 0, u24 1, u27 0, u27 1, u30 0, u30 1, u33 0, u33 1, u33 2, u36 0, u36 1, u36 2, q38, q39, u17 1, u17 2, u17 3, u17 4, u17 5, u17 6, u17 7, u17 8, u17 9, u17 10] : List Nat).getD (44 + 2 * j) 0)) (ws' := ((((((((((((((([(h0, .inr (8, [.ref (u2 0), .ref (u5 0), .ref (u8 0), .int (jI 0), .ref (u11 0), .ref (u14 0), .ref (u17 0), .ref q19, .ref (u33 0), .ref (u36 0), .ref q38, .ref q39]))] ++ gW cI u2 W0) ++ gW cI u5 W0) ++ gW cI u8 W0) ++ gG cI u11 G0) ++ gT cB u14 T0) ++ ([(u17 0, .inr (2, [.ref (u17 1), .ref (u17 11), .int (jI 0)]))] ++ gW cI (fun i => u17 (1 + i)) W0 ++ gK cI (fun i => u17 (11 + i)) K0)) ++ [(q19, .inl (cS, 4, .inr (.inr (.inr (.inr (fun j => some (([h0, u2 0, u2 1, u2 2, u2 3, u2 4, u2 5, u2 6, u2 7, u2 8, u2 9, u5 0, u5 1, u5 2, u5 3, u5 4, u5 5, u5 6, u5 7, u5 8, u5 9, u8 0, u8 1, u8 2, u8 3, u8 4, u8 5, u8 6, u8 7, u8 8, u8 9, u11 0, u11 1, u11 2, u11 3, u11 4, u14 0, u14 1, u17 0, u17 11, u17 12, u17 13, u17 14, q19, u21 0, u21 1, u24 0, u24 1, u27 0, u27 1, u30 0, u30 1, u33 0, u33 1, u33 2, u36 0, u36 1, u36 2, q38, q39, u17 1, u17 2, u17 3, u17 4, u17 5, u17 6, u17 7, u17 8, u17 9, u17 10] : List Nat).getD (44 + 2 * j) 0)))))))]) ++ gX cL u21 X0) ++ gX cL u24 X0) ++ gX cL u27 X0) ++ gX cL u30 X0) ++ gL cI cL u33 L0) ++ gY cI u36 Y0) ++ [(q38, .inl (cI, 16, .inl (jA (fun _ => 0))))]) ++ [(q39, .inl (cI, 7, .inl (jA (fun _ => 0))))])) rfl (fun j hj => by rcases (show j = 0 ∨ j = 1 ∨ j = 2 ∨ j = 3 by omega) with rfl | rfl | rfl | rfl <;> rfl) rfl ?_
  exact v_vret G (fun i => ([h0, u2 0, u2 1, u2 2, u2 3, u2 4, u2 5, u2 6, u2 7, u2 8, u2 9, u5 0, u5 1, u5 2, u5 3, u5 4, u5 5, u5 6, u5 7, u5 8, u5 9, u8 0, u8 1, u8 2, u8 3, u8 4, u8 5, u8 6, u8 7, u8 8, u8 9, u11 0, u11 1, u11 2, u11 3, u11 4, u14 0, u14 1, u17 0, u17 11, u17 12, u17 13, u17 14, q19, u21 0, u21 1, u24 0, u24 1, u27 0, u27 1, u30 0, u30 1, u33 0, u33 1, u33 2, u36 0, u36 1, u36 2, q38, q39, u17 1, u17 2, u17 3, u17 4, u17 5, u17 6, u17 7, u17 8, u17 9, u17 10] : List Nat).getD i 0) rfl (w8_eq u2 u5 u8 u11 u14 u17 u33 u36 u21 u24 u27 u30 h0 q19 q38 q39) dX8_init_147
end

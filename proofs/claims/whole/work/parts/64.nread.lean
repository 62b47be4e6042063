/-! the reader of nights -/
def TkK (B : Int → Int) (n : Int) (tk : (Int → Int) × (Int → Int) × (Int → Int) × Int) (K : Nat) : Prop :=
  ((K : Int) ≤ n ∧ n ≤ 120) ∧ St B K = n ∧ (∀ q : Nat, q < K → 0 ≤ St B q ∧ St B q < n) ∧ ∀ q : Nat, q ≤ K → tk.1 (q : Int) = cd B n (St B q) ∧ tk.2.1 (q : Int) = vl B (St B q) ∧ tk.2.2.1 (q : Int) = St B q
theorem TkK.q {B : Int → Int} {n : Int} {tk : (Int → Int) × (Int → Int) × (Int → Int) × Int} {K : Nat} (h : TkK B n tk K) (hB : Bk B n) {i : Nat} (hi : i ≤ K) : Qk B n (St B i) := by
  obtain ⟨h1, h2, h3, -⟩ := h
  have hn := hB.1
  rcases i with _ | i
  · obtain ⟨a1, a2, -, a4⟩ := sk_p hB (p := 0) (by omega)
    exact ⟨⟨a1, a2⟩, a4⟩
  · have a := h3 i (by omega)
    have b := nx_p hB a
    exact ⟨⟨by show 0 ≤ nx B (St B i); omega, b.2.1⟩, b.2.2⟩
theorem TkK.lt {B : Int → Int} {n : Int} {tk : (Int → Int) × (Int → Int) × (Int → Int) × Int} {K : Nat} (h : TkK B n tk K) {i : Nat} (hi : i ≤ K) (hc : cd B n (St B i) ≠ 17) : i < K := by
  refine Nat.lt_of_le_of_ne hi (fun z => hc ?_)
  subst z
  rw [h.2.1]
  exact cd_17.mpr (Int.le_refl n)
theorem tkP_B {B : Int → Int} {n w z d q : Int} (h : cd B n q = w) : tkP B n w z d q = tkB B n w 0 z q := by rw [tkP_t h, tkB_t h]
section
variable {l : Launch} {D : va_G} {cI cL cB cS : ClassId} {a b c : Nat → Nat} {x o wd kw tw : WT} {g gl : GT} {sx : Int × Int × (Int → Int64)} {fd li : Int → Int} {wy : (Int → Int) × (Int → Int)} {lr : (Int → Int64) × (Int → Int)} {i K : Nat} {B : Int → Int} {n : Int} {t ta : (Int → Int) × Int} {tk : (Int → Int) × (Int → Int) × (Int → Int) × Int} {s0 s1 s2 s3 : Int × Int × (Int → Int64)} {ks : Int}
set_option maxHeartbeats 4000000 in
set_option maxRecDepth 100000 in
theorem c_X2_take (v : Int) (hB : Bk B n) (hk : TkK B n tk K) (hi : i ≤ K) (hv : 0 ≤ v ∧ v ≤ 16) : Ci l yX2_take wsX2_take { frames := 0, cells := 0, slots := 0, locals := 0 } D (jT cI cL cB cS) [.ref (a 38), .int (jI v)] (gN  a (i : Int) ++ gK cI (fun i => a (39 + i)) tk) (S := Nat) (fun (i2 : Nat) => (gN  a (i2 : Int) ++ gK cI (fun i => a (39 + i)) tk)) (fun r (i2 : Nat) => r = jI (b2 (cd B n (St B i) = v)) ∧ i2 ≤ K ∧ (cd B n (St B i) = v → St B i2 = nx B (St B i)) ∧ (¬ cd B n (St B i) = v → St B i2 = (St B i))) := by
  refine Ci.mk (cc := cX2_take) (maxL := 3) (rt := .boolean) (by decide) rfl (Nat.le_of_ble_eq_true rfl) rfl ?_
  intro p_ e_ s_ m_ b_ me_ c_ A_ G hnm
  have hK := hk.1
  have hq := hk.q hB hi
  have hqr := hq.1
  have hcr := cd_r B n (St B i)
  have k_X2 : ∀ w ∈ u_ws RX2 TX2 3, w ∈ wsX2_take := fun _ h => List.mem_cons_of_mem _ (List.mem_append_left _ (List.mem_append_right _ h))
  have q_1 : Cond.fieldLink RX2 21 "SupperLight$NightReader" "text" "LSupperLight$Tokens;" ∈ wsX2_take := List.mem_of_getElem? (i := 1) rfl
  have k_X5 : ∀ w ∈ u_ws RX5 TX5 4, w ∈ wsX2_take := fun _ h => List.mem_cons_of_mem _ (List.mem_append_right _ h)
  have q_3 : Cond.fieldLink RX2 41 "SupperLight$Tokens" "codes" "[I" ∈ wsX2_take := List.mem_of_getElem? (i := 2) rfl
  have q_4 : Cond.fieldLink RX2 25 "SupperLight$NightReader" "next" "I" ∈ wsX2_take := List.mem_of_getElem? (i := 3) rfl
  refine v_aload_n (j := 0) (x := a 38) G dX2_take_0 rfl rfl ?_
  refine v_get (q0 := 0) (k := 1) (v := .ref (a 39)) G k_X2 rfl rfl (by decide) q_1 rfl rfl dX2_take_1 ?_
  refine v_get (q0 := 1) (k := 0) (v := .ref (a 40)) G k_X5 rfl rfl (by decide) q_3 rfl rfl dX2_take_4 ?_
  refine v_aload_n (j := 0) (x := a 38) G dX2_take_7 rfl rfl ?_
  refine v_get (q0 := 0) (k := 2) (v := .int (jI (i : Int))) G k_X2 rfl rfl (by decide) q_4 rfl rfl dX2_take_8 ?_
  refine v_iald (q0 := 2) (t0 := 0) (g := tk.1) (z := (i : Int)) G rfl rfl (by omega) dX2_take_11 ?_
  refine v_topj (x := tk.1 (i : Int)) (y := cd B n (St B i)) (hk.2.2.2 i hi).1 ?_
  refine v_cut (pc' := 36) (lv' := [(0, .ref (a 38)), (1, .int (jI v))]) (st' := [.int (jI (b2 (cd B n (St B i) = v)))]) (ws' := (gN  a (i : Int) ++ gK cI (fun i => a (39 + i)) tk)) ?_ (fun J_1 => ?_)
  · skip
    refine v_istore_n (lv' := [(2, .int (jI (b2 (cd B n (St B i) = v)))), (0, .ref (a 38)), (1, .int (jI v))]) G dX2_take_36 rfl (by decide) rfl ?_
    refine v_aload_n (j := 1) (x := a 38) G dX2_take_37 rfl rfl ?_
    refine v_dup G dX2_take_38 rfl ?_
    refine v_get (q0 := 0) (k := 2) (v := .int (jI (i : Int))) G k_X2 rfl rfl (by decide) q_4 rfl rfl dX2_take_39 ?_
    refine v_iload_n (j := 0) (x := jI (b2 (cd B n (St B i) = v))) G dX2_take_42 rfl rfl ?_
    refine v_ifb_eq (P := cd B n (St B i) = v) (tgt := 50) G dX2_take_43 (by decide) (fun c_2 => ?_) (fun c_2 => ?_)
    · skip
      refine v_iconst G dX2_take_50 ?_
      refine v_iadd (z := (i : Int) + 0) G dX2_take_51 rfl ?_
      refine v_put (q0 := 0) (k := 2) (ty := .int) (ws' := (gN  a ((i : Int) + 0) ++ gK cI (fun i => a (39 + i)) tk)) G k_X2 tyX2 tyX2_ok nmX2 rfl rfl (by decide) q_4 rfl rfl rfl rfl rfl (Nat.le_of_ble_eq_true rfl) rfl dX2_take_52 ?_
      refine v_world (ws' := (gN  a (i : Int) ++ gK cI (fun i => a (39 + i)) tk)) rfl ?_
      refine v_iload_n (j := 0) (x := jI (b2 (cd B n (St B i) = v))) G dX2_take_55 rfl rfl ?_
      exact v_zret G i (nb_b2 _) ⟨rfl, hi, fun z => absurd z (by assumption), fun _ => rfl⟩ rfl dX2_take_56
    · skip
      refine v_iconst G dX2_take_46 ?_
      refine v_goto (tgt := 51) G dX2_take_47 (by decide) ?_
      refine v_iadd (z := (i : Int) + 1) G dX2_take_51 rfl ?_
      refine v_put (q0 := 0) (k := 2) (ty := .int) (ws' := (gN  a ((i : Int) + 1) ++ gK cI (fun i => a (39 + i)) tk)) G k_X2 tyX2 tyX2_ok nmX2 rfl rfl (by decide) q_4 rfl rfl rfl rfl rfl (Nat.le_of_ble_eq_true rfl) rfl dX2_take_52 ?_
      refine v_world (ws' := (gN  a ((i + 1 : Nat) : Int) ++ gK cI (fun i => a (39 + i)) tk)) rfl ?_
      refine v_iload_n (j := 0) (x := jI (b2 (cd B n (St B i) = v))) G dX2_take_55 rfl rfl ?_
      exact v_zret G (i + 1) (nb_b2 _) ⟨rfl, hk.lt hi (by omega), fun _ => rfl, fun z => absurd (by assumption) z⟩ rfl dX2_take_56
  · skip
    refine v_iload_n (j := 1) (x := jI v) G dX2_take_12 rfl rfl ?_
    refine v_icmp_ne (a := cd B n (St B i)) (b := v) (tgt := 35) G dX2_take_13 (by decide) (by omega) (fun c_3 => ?_) (fun c_3 => ?_)
    · skip
      refine v_iconst G dX2_take_35 ?_
      refine v_topj (x := 0) (y := b2 (cd B n (St B i) = v)) (b2_f (P := cd B n (St B i) = v) (by omega)).symm ?_
      exact J_1
    · skip
      refine v_iload_n (j := 1) (x := jI v) G dX2_take_16 rfl rfl ?_
      refine v_bipush G dX2_take_17 (by decide) ?_
      refine v_icmp_eq (a := v) (b := 17) (tgt := 35) G dX2_take_19 (by decide) (by omega) (fun c_4 => ?_) (fun c_4 => ?_)
      · skip
        exfalso; omega
      · skip
        have hlt := hk.lt hi (by omega)
        refine v_aload_n (j := 0) (x := a 38) G dX2_take_22 rfl rfl ?_
        refine v_get (q0 := 0) (k := 2) (v := .int (jI (i : Int))) G k_X2 rfl rfl (by decide) q_4 rfl rfl dX2_take_23 ?_
        refine v_bipush G dX2_take_26 (by decide) ?_
        refine v_icmp_ge (a := (i : Int)) (b := 120) (tgt := 35) G dX2_take_28 (by decide) (by omega) (fun c_5 => ?_) (fun c_5 => ?_)
        · skip
          exfalso; omega
        · skip
          refine v_iconst G dX2_take_31 ?_
          refine v_goto (tgt := 36) G dX2_take_32 (by decide) ?_
          refine v_topj (x := 1) (y := b2 (cd B n (St B i) = v)) (b2_t (P := cd B n (St B i) = v) (by omega)).symm ?_
          exact J_1

set_option maxHeartbeats 4000000 in
set_option maxRecDepth 100000 in
theorem c_X2_takeNumber (v z : Int) (hB : Bk B n) (hk : TkK B n tk K) (hi : i ≤ K) (hv : (0 ≤ v ∧ v ≤ 1) ∧ -1 ≤ z ∧ z ≤ 999) : Ci l yX2_takeNumber wsX2_takeNumber { frames := 1, cells := 0, slots := 0, locals := 22 } D (jT cI cL cB cS) [.ref (a 38), .int (jI v), .int (jI z)] (gN  a (i : Int) ++ gK cI (fun i => a (39 + i)) tk) (S := Nat) (fun (i2 : Nat) => (gN  a (i2 : Int) ++ gK cI (fun i => a (39 + i)) tk)) (fun r (i2 : Nat) => r = jI ((tkN B n v z (St B i)).1) ∧ i2 ≤ K ∧ St B i2 = (tkN B n v z (St B i)).2) := by
  refine Ci.mk (cc := cX2_takeNumber) (maxL := 4) (rt := .int) (by decide) rfl (Nat.le_of_ble_eq_true rfl) rfl ?_
  intro p_ e_ s_ m_ b_ me_ c_ A_ G hnm
  have hK := hk.1
  have hq := hk.q hB hi
  have hqr := hq.1
  have hcr := cd_r B n (St B i)
  have hvl := vl_r hB hqr
  have k_X2 : ∀ w ∈ u_ws RX2 TX2 3, w ∈ wsX2_takeNumber := fun _ h => List.mem_cons_of_mem _ (List.mem_append_left _ (List.mem_append_right _ h))
  have q_1 : Cond.fieldLink RX2 21 "SupperLight$NightReader" "text" "LSupperLight$Tokens;" ∈ wsX2_takeNumber := List.mem_of_getElem? (i := 1) rfl
  have k_X5 : ∀ w ∈ u_ws RX5 TX5 4, w ∈ wsX2_takeNumber := fun _ h => List.mem_cons_of_mem _ (List.mem_append_right _ h)
  have q_3 : Cond.fieldLink RX2 107 "SupperLight$Tokens" "values" "[I" ∈ wsX2_takeNumber := List.mem_of_getElem? (i := 2) rfl
  have q_4 : Cond.fieldLink RX2 25 "SupperLight$NightReader" "next" "I" ∈ wsX2_takeNumber := List.mem_of_getElem? (i := 3) rfl
  have q_5 : Cond.initialized RX8 ∈ wsX2_takeNumber := List.mem_of_getElem? (i := 5) rfl
  have q_6 : Cond.static yX8_within ∈ wsX2_takeNumber := List.mem_of_getElem? (i := 4) rfl
  refine v_aload_n (j := 0) (x := a 38) G dX2_takeNumber_0 rfl rfl ?_
  refine v_get (q0 := 0) (k := 1) (v := .ref (a 39)) G k_X2 rfl rfl (by decide) q_1 rfl rfl dX2_takeNumber_1 ?_
  refine v_get (q0 := 1) (k := 1) (v := .ref (a 41)) G k_X5 rfl rfl (by decide) q_3 rfl rfl dX2_takeNumber_4 ?_
  refine v_aload_n (j := 0) (x := a 38) G dX2_takeNumber_7 rfl rfl ?_
  refine v_get (q0 := 0) (k := 2) (v := .int (jI (i : Int))) G k_X2 rfl rfl (by decide) q_4 rfl rfl dX2_takeNumber_8 ?_
  refine v_iald (q0 := 3) (t0 := 0) (g := tk.2.1) (z := (i : Int)) G rfl rfl (by omega) dX2_takeNumber_11 ?_
  refine v_topj (x := tk.2.1 (i : Int)) (y := vl B (St B i)) (hk.2.2.2 i hi).2.1 ?_
  refine v_istore_n (lv' := [(3, .int (jI (vl B (St B i)))), (0, .ref (a 38)), (1, .int (jI v)), (2, .int (jI z))]) G dX2_takeNumber_12 rfl (by decide) rfl ?_
  refine v_iload_n (j := 0) (x := jI (vl B (St B i))) G dX2_takeNumber_13 rfl rfl ?_
  refine v_iload_n (j := 2) (x := jI v) G dX2_takeNumber_14 rfl rfl ?_
  refine v_iload_n (j := 3) (x := jI z) G dX2_takeNumber_15 rfl rfl ?_
  refine v_ciN G (rn_N (As := [.int (jI (vl B (St B i))), .int (jI v), .int (jI z)]) (rest := []) G (c_X8_within (v := vl B (St B i)) (lo := v) (hi := z) (hr := (by omega))) gX2_takeNumber_X8_within_n110 rfl (List.mem_of_getElem? (i := 6) rfl) q_5 q_6 hdX8_within ⟨rfl, rfl, Nat.le_of_ble_eq_true rfl, Nat.le_of_ble_eq_true rfl⟩ rfl rfl (Nat.le_of_ble_eq_true rfl) ⟨Nat.zero_le _, Nat.zero_le _⟩ dX2_takeNumber_16) (fun r_1 u_3 e_2 => ?_)
  have e_2 : r_1 = jI (b2 ((v : Int) ≤ (vl B (St B i)) ∧ (vl B (St B i)) ≤ (z : Int))) := e_2
  subst e_2
  refine v_ifb_eq (P := (v : Int) ≤ (vl B (St B i)) ∧ (vl B (St B i)) ≤ (z : Int)) (tgt := 31) G dX2_takeNumber_19 (by decide) (fun c_4 => ?_) (fun c_4 => ?_)
  · skip
    refine v_iconst G dX2_takeNumber_31 ?_
    exact v_iret G i ⟨congrArg jI (congrArg Prod.fst (tkN_f (v := v) (z := z) (by omega))).symm, hi, (congrArg Prod.snd (tkN_f (v := v) (z := z) (by omega))).symm⟩ rfl dX2_takeNumber_32
  · skip
    refine v_aload_n (j := 1) (x := a 38) G dX2_takeNumber_22 rfl rfl ?_
    refine v_bipush G dX2_takeNumber_23 (by decide) ?_
    refine v_ciF G (rn_V (As := [.int (jI 15)]) (rest := []) (q0 := 0) G (c_X2_take (v := 15) (tk := tk) (a := a) (i := i) (hB := hB) (hk := hk) (hi := hi) (hv := (by omega))) gX2_takeNumber_X2_take rfl hdX2_take ⟨rfl, rfl, Nat.le_of_ble_eq_true rfl, Nat.le_of_ble_eq_true rfl⟩ rfl rfl (Nat.le_of_ble_eq_true rfl) ⟨Nat.zero_le _, Nat.zero_le _⟩ rfl rfl dX2_takeNumber_25) (fun r_6 u_8 e_7 => ?_)
    obtain ⟨i2_5, rfl⟩ : ∃ z, z = u_8 := ⟨_, rfl⟩
    have e_7 : r_6 = jI (b2 (cd B n (St B i) = 15)) ∧ i2_5 ≤ K ∧ (cd B n (St B i) = 15 → St B i2_5 = nx B (St B i)) ∧ (¬ cd B n (St B i) = 15 → St B i2_5 = (St B i)) := e_7
    obtain ⟨e_70, e_7f⟩ := e_7
    subst e_70
    refine v_world (ws' := (gN  a (i2_5 : Int) ++ gK cI (fun i => a (39 + i)) tk)) rfl ?_
    refine v_ifb_ne (P := cd B n (St B i) = 15) (tgt := 33) G dX2_takeNumber_28 (by decide) (fun c_9 => ?_) (fun c_9 => ?_)
    · skip
      refine v_iload_n (j := 0) (x := jI (vl B (St B i))) G dX2_takeNumber_33 rfl rfl ?_
      exact v_iret G i2_5 ⟨congrArg jI (congrArg Prod.fst (tkN_t (v := v) (z := z) (by omega) (by omega))).symm, e_7f.1, (e_7f.2.1 (by assumption)).trans (congrArg Prod.snd (tkN_t (v := v) (z := z) (by omega) (by omega))).symm⟩ rfl dX2_takeNumber_34
    · skip
      refine v_iconst G dX2_takeNumber_31 ?_
      exact v_iret G i2_5 ⟨congrArg jI (congrArg Prod.fst (tkN_f (v := v) (z := z) (by omega))).symm, e_7f.1, (e_7f.2.2 (by assumption)).trans (congrArg Prod.snd (tkN_f (v := v) (z := z) (by omega))).symm⟩ rfl dX2_takeNumber_32

set_option maxHeartbeats 4000000 in
set_option maxRecDepth 100000 in
theorem c_X2_takeNumberBehind (y v z : Int) (hB : Bk B n) (hk : TkK B n tk K) (hi : i ≤ K) (hy : 0 ≤ y ∧ y ≤ 16) (hv : (0 ≤ v ∧ v ≤ 1) ∧ -1 ≤ z ∧ z ≤ 999) : Ci l yX2_takeNumberBehind wsX2_takeNumberBehind { frames := 2, cells := 0, slots := 0, locals := 45 } D (jT cI cL cB cS) [.ref (a 38), .int (jI y), .int (jI v), .int (jI z)] (gN  a (i : Int) ++ gK cI (fun i => a (39 + i)) tk) (S := Nat) (fun (i2 : Nat) => (gN  a (i2 : Int) ++ gK cI (fun i => a (39 + i)) tk)) (fun r (i2 : Nat) => r = jI ((tkB B n y v z (St B i)).1) ∧ i2 ≤ K ∧ St B i2 = (tkB B n y v z (St B i)).2) := by
  refine Ci.mk (cc := cX2_takeNumberBehind) (maxL := 4) (rt := .int) (by decide) rfl (Nat.le_of_ble_eq_true rfl) rfl ?_
  intro p_ e_ s_ m_ b_ me_ c_ A_ G hnm
  have hK := hk.1
  have hq := hk.q hB hi
  have hqr := hq.1
  have hcr := cd_r B n (St B i)
  refine v_aload_n (j := 0) (x := a 38) G dX2_takeNumberBehind_0 rfl rfl ?_
  refine v_iload_n (j := 1) (x := jI y) G dX2_takeNumberBehind_1 rfl rfl ?_
  refine v_ciF G (rn_V (As := [.int (jI y)]) (rest := []) (q0 := 0) G (c_X2_take (v := y) (tk := tk) (a := a) (i := i) (hB := hB) (hk := hk) (hi := hi) (hv := (by omega))) gX2_takeNumberBehind_X2_take rfl hdX2_take ⟨rfl, rfl, Nat.le_of_ble_eq_true rfl, Nat.le_of_ble_eq_true rfl⟩ rfl rfl (Nat.le_of_ble_eq_true rfl) ⟨Nat.zero_le _, Nat.zero_le _⟩ rfl rfl dX2_takeNumberBehind_2) (fun r_2 u_4 e_3 => ?_)
  obtain ⟨i2_1, rfl⟩ : ∃ z, z = u_4 := ⟨_, rfl⟩
  have e_3 : r_2 = jI (b2 (cd B n (St B i) = y)) ∧ i2_1 ≤ K ∧ (cd B n (St B i) = y → St B i2_1 = nx B (St B i)) ∧ (¬ cd B n (St B i) = y → St B i2_1 = (St B i)) := e_3
  obtain ⟨e_30, e_3f⟩ := e_3
  subst e_30
  refine v_world (ws' := (gN  a (i2_1 : Int) ++ gK cI (fun i => a (39 + i)) tk)) rfl ?_
  refine v_ifb_eq (P := cd B n (St B i) = y) (tgt := 17) G dX2_takeNumberBehind_5 (by decide) (fun c_5 => ?_) (fun c_5 => ?_)
  · skip
    refine v_iconst G dX2_takeNumberBehind_17 ?_
    exact v_iret G i2_1 ⟨congrArg jI (congrArg Prod.fst (tkB_f (v := v) (z := z) (by assumption))).symm, e_3f.1, (e_3f.2.2 (by assumption)).trans (congrArg Prod.snd (tkB_f (v := v) (z := z) (by assumption))).symm⟩ rfl dX2_takeNumberBehind_18
  · skip
    refine v_aload_n (j := 0) (x := a 38) G dX2_takeNumberBehind_8 rfl rfl ?_
    refine v_iload_n (j := 2) (x := jI v) G dX2_takeNumberBehind_9 rfl rfl ?_
    refine v_iload_n (j := 3) (x := jI z) G dX2_takeNumberBehind_10 rfl rfl ?_
    refine v_ciF G (rn_V (As := [.int (jI v), .int (jI z)]) (rest := []) (q0 := 0) G (c_X2_takeNumber (v := v) (z := z) (tk := tk) (a := a) (i := i2_1) (hB := hB) (hk := hk) (hi := e_3f.1) (hv := hv)) gX2_takeNumberBehind_X2_takeNumber rfl hdX2_takeNumber ⟨rfl, rfl, Nat.le_of_ble_eq_true rfl, Nat.le_of_ble_eq_true rfl⟩ rfl rfl (Nat.le_of_ble_eq_true rfl) ⟨Nat.zero_le _, Nat.zero_le _⟩ rfl rfl dX2_takeNumberBehind_11) (fun r_7 u_9 e_8 => ?_)
    obtain ⟨i2_6, rfl⟩ : ∃ z, z = u_9 := ⟨_, rfl⟩
    have e_8 : r_7 = jI ((tkN B n v z (St B i2_1)).1) ∧ i2_6 ≤ K ∧ St B i2_6 = (tkN B n v z (St B i2_1)).2 := e_8
    obtain ⟨e_80, e_8f⟩ := e_8
    subst e_80
    refine v_world (ws' := (gN  a (i2_6 : Int) ++ gK cI (fun i => a (39 + i)) tk)) rfl ?_
    refine v_goto (tgt := 18) G dX2_takeNumberBehind_14 (by decide) ?_
    exact v_iret G i2_6 ⟨congrArg jI (by rw [tkB_t (v := v) (z := z) (by assumption), ← e_3f.2.1 (by assumption)]), e_8f.1, by rw [e_8f.2, tkB_t (v := v) (z := z) (by assumption), ← e_3f.2.1 (by assumption)]⟩ rfl dX2_takeNumberBehind_18

set_option maxHeartbeats 4000000 in
set_option maxRecDepth 100000 in
theorem c_X2_takePart_gx (y z v : Int) (hB : Bk B n) (hk : TkK B n tk K) (hi : i ≤ K) (hy : 0 ≤ y ∧ y ≤ 16) (hv : (0 ≤ z ∧ z < 10) ∧ 0 ≤ v ∧ v ≤ 999) (hd : 0 ≤ x.2.2.2.2.2.1 z) : Ci l yX2_takePart wsX2_takePart { frames := 3, cells := 0, slots := 0, locals := 68 } D (jT cI cL cB cS) [.ref (a 38), .int (jI y), .ref (a 64), .int (jI z), .int (jI v)] (gN  a (i : Int) ++ gK cI (fun i => a (39 + i)) tk ++ gW cI (fun i => a (60 + i)) x) (S := Nat × (Int → Int)) (fun (u : Nat × (Int → Int)) => (gN  a (u.1 : Int) ++ gK cI (fun i => a (39 + i)) tk ++ gW cI (fun i => a (60 + i)) (x.1, x.2.1, x.2.2.1, x.2.2.2.1, x.2.2.2.2.1, u.2, x.2.2.2.2.2.2.1, x.2.2.2.2.2.2.2.1, x.2.2.2.2.2.2.2.2.1, x.2.2.2.2.2.2.2.2.2.1, x.2.2.2.2.2.2.2.2.2.2.1, x.2.2.2.2.2.2.2.2.2.2.2))) (fun r (u : Nat × (Int → Int)) => r = jI (b2 (0 ≤ (tkP B n y v (x.2.2.2.2.2.1 z) (St B i)).1)) ∧ u.1 ≤ K ∧ St B u.1 = (tkP B n y v (x.2.2.2.2.2.1 z) (St B i)).2 ∧ (0 ≤ (tkP B n y v (x.2.2.2.2.2.1 z) (St B i)).1 → u.2 = uI x.2.2.2.2.2.1 z (tkP B n y v (x.2.2.2.2.2.1 z) (St B i)).1)) := by
  refine Ci.mk (cc := cX2_takePart) (maxL := 6) (rt := .boolean) (by decide) rfl (Nat.le_of_ble_eq_true rfl) rfl ?_
  intro p_ e_ s_ m_ b_ me_ c_ A_ G hnm
  have hK := hk.1
  have hq := hk.q hB hi
  have hqr := hq.1
  have hcr := cd_r B n (St B i)
  have k_X2 : ∀ w ∈ u_ws RX2 TX2 3, w ∈ wsX2_takePart := fun _ h => List.mem_cons_of_mem _ (List.mem_append_left _ (List.mem_append_right _ h))
  have q_1 : Cond.fieldLink RX2 21 "SupperLight$NightReader" "text" "LSupperLight$Tokens;" ∈ wsX2_takePart := List.mem_of_getElem? (i := 1) rfl
  have k_X5 : ∀ w ∈ u_ws RX5 TX5 4, w ∈ wsX2_takePart := fun _ h => List.mem_cons_of_mem _ (List.mem_append_right _ h)
  have q_3 : Cond.fieldLink RX2 41 "SupperLight$Tokens" "codes" "[I" ∈ wsX2_takePart := List.mem_of_getElem? (i := 2) rfl
  have q_4 : Cond.fieldLink RX2 25 "SupperLight$NightReader" "next" "I" ∈ wsX2_takePart := List.mem_of_getElem? (i := 3) rfl
  refine v_aload_n (j := 0) (x := a 38) G dX2_takePart_0 rfl rfl ?_
  refine v_get (q0 := 0) (k := 1) (v := .ref (a 39)) G k_X2 rfl rfl (by decide) q_1 rfl rfl dX2_takePart_1 ?_
  refine v_get (q0 := 1) (k := 0) (v := .ref (a 40)) G k_X5 rfl rfl (by decide) q_3 rfl rfl dX2_takePart_4 ?_
  refine v_aload_n (j := 0) (x := a 38) G dX2_takePart_7 rfl rfl ?_
  refine v_get (q0 := 0) (k := 2) (v := .int (jI (i : Int))) G k_X2 rfl rfl (by decide) q_4 rfl rfl dX2_takePart_8 ?_
  refine v_iald (q0 := 2) (t0 := 0) (g := tk.1) (z := (i : Int)) G rfl rfl (by omega) dX2_takePart_11 ?_
  refine v_topj (x := tk.1 (i : Int)) (y := cd B n (St B i)) (hk.2.2.2 i hi).1 ?_
  refine v_iload_n (j := 1) (x := jI y) G dX2_takePart_12 rfl rfl ?_
  refine v_icmp_eq (a := cd B n (St B i)) (b := y) (tgt := 18) G dX2_takePart_13 (by decide) (by omega) (fun c_1 => ?_) (fun c_1 => ?_)
  · skip
    refine v_aload_n (j := 0) (x := a 38) G dX2_takePart_18 rfl rfl ?_
    refine v_iload_n (j := 1) (x := jI y) G dX2_takePart_19 rfl rfl ?_
    refine v_iconst G dX2_takePart_20 ?_
    refine v_iload (j := 4) (x := jI v) G dX2_takePart_21 rfl ?_
    refine v_ciG (w2 := (fun (i2 : Nat) => (gN  a (i2 : Int) ++ gK cI (fun i => a (39 + i)) tk ++ gW cI (fun i => a (60 + i)) x))) G [gN  a (i : Int), gK cI (fun i => a (39 + i)) tk, gW cI (fun i => a (60 + i)) x] [gN  a (i : Int), gK cI (fun i => a (39 + i)) tk] [gW cI (fun i => a (60 + i)) x] (fun (i2 : Nat) => [gN  a (i2 : Int), gK cI (fun i => a (39 + i)) tk, gW cI (fun i => a (60 + i)) x]) (fun (i2 : Nat) => [gN  a (i2 : Int), gK cI (fun i => a (39 + i)) tk]) [0, 0] (rn_V (As := [.int (jI y), .int (jI 0), .int (jI v)]) (rest := []) (q0 := 0) G (c_X2_takeNumberBehind (y := y) (v := 0) (z := v) (tk := tk) (a := a) (i := i) (hB := hB) (hk := hk) (hi := hi) (hy := (by omega)) (hv := (by omega))) gX2_takePart_X2_takeNumberBehind rfl hdX2_takeNumberBehind ⟨rfl, rfl, Nat.le_of_ble_eq_true rfl, Nat.le_of_ble_eq_true rfl⟩ rfl rfl (Nat.le_of_ble_eq_true rfl) ⟨Nat.zero_le _, Nat.zero_le _⟩ rfl rfl dX2_takePart_23) rfl rfl rfl (fun _ => rfl) (fun _ => rfl) (fun _ => rfl) (fun r_3 u_5 e_4 => ?_)
    obtain ⟨i2_2, rfl⟩ : ∃ z, z = u_5 := ⟨_, rfl⟩
    have e_4 : r_3 = jI ((tkB B n y 0 v (St B i)).1) ∧ i2_2 ≤ K ∧ St B i2_2 = (tkB B n y 0 v (St B i)).2 := e_4
    obtain ⟨e_40, e_4f⟩ := e_4
    subst e_40
    refine v_world (ws' := (gN  a (i2_2 : Int) ++ gK cI (fun i => a (39 + i)) tk ++ gW cI (fun i => a (60 + i)) x)) rfl ?_
    refine v_istore (lv' := [(5, .int (jI ((tkB B n y 0 v (St B i)).1))), (0, .ref (a 38)), (1, .int (jI y)), (2, .ref (a 64)), (3, .int (jI z)), (4, .int (jI v))]) G dX2_takePart_26 (by decide) rfl ?_
    have htr := tkB_r B n y 0 v (St B i) (by omega)
    refine v_iload (j := 0) (x := jI ((tkB B n y 0 v (St B i)).1)) G dX2_takePart_28 rfl ?_
    refine v_if_lt (a := (tkB B n y 0 v (St B i)).1) (tgt := 43) G dX2_takePart_30 (by decide) (by omega) (fun c_6 => ?_) (fun c_6 => ?_)
    · skip
      refine v_iconst G dX2_takePart_43 ?_
      exact v_zret G (i2_2, x.2.2.2.2.2.1) nb_0 ⟨congrArg jI (b2_f (P := 0 ≤ (tkP B n y v (x.2.2.2.2.2.1 z) (St B i)).1) (by rw [tkP_B (by omega)]; omega)).symm, e_4f.1, by rw [e_4f.2, tkP_B (by omega)], fun z_ => by rw [tkP_B (by omega)] at z_; omega⟩ rfl dX2_takePart_44
    · skip
      refine v_iload_n (j := 4) (x := jI z) G dX2_takePart_33 rfl rfl ?_
      refine v_if_lt (a := z) (tgt := 43) G dX2_takePart_34 (by decide) (by omega) (fun c_7 => ?_) (fun c_7 => ?_)
      · skip
        exfalso; omega
      · skip
        refine v_iload_n (j := 4) (x := jI z) G dX2_takePart_37 rfl rfl ?_
        refine v_aload_n (j := 3) (x := a 64) G dX2_takePart_38 rfl rfl ?_
        refine v_alen (q0 := 9) (t0 := 0) (z := 10) G rfl rfl rfl dX2_takePart_39 ?_
        refine v_icmp_lt (a := z) (b := 10) (tgt := 45) G dX2_takePart_40 (by decide) (by omega) (fun c_8 => ?_) (fun c_8 => ?_)
        · skip
          refine v_aload_n (j := 3) (x := a 64) G dX2_takePart_45 rfl rfl ?_
          refine v_iload_n (j := 4) (x := jI z) G dX2_takePart_46 rfl rfl ?_
          refine v_iload (j := 0) (x := jI ((tkB B n y 0 v (St B i)).1)) G dX2_takePart_47 rfl ?_
          refine v_iast (q0 := 9) (t0 := 0) (g := x.2.2.2.2.2.1) (z := z) (x := (tkB B n y 0 v (St B i)).1) (ws' := (gN  a (i2_2 : Int) ++ gK cI (fun i => a (39 + i)) tk ++ gW cI (fun i => a (60 + i)) (x.1, x.2.1, x.2.2.1, x.2.2.2.1, x.2.2.2.2.1, uI x.2.2.2.2.2.1 z ((tkB B n y 0 v (St B i)).1), x.2.2.2.2.2.2.1, x.2.2.2.2.2.2.2.1, x.2.2.2.2.2.2.2.2.1, x.2.2.2.2.2.2.2.2.2.1, x.2.2.2.2.2.2.2.2.2.2.1, x.2.2.2.2.2.2.2.2.2.2.2))) G rfl rfl (by omega) rfl dX2_takePart_49 ?_
          refine v_iconst G dX2_takePart_50 ?_
          exact v_zret G (i2_2, uI x.2.2.2.2.2.1 z ((tkB B n y 0 v (St B i)).1)) nb_1 ⟨congrArg jI (b2_t (P := 0 ≤ (tkP B n y v (x.2.2.2.2.2.1 z) (St B i)).1) (by rw [tkP_B (by omega)]; omega)).symm, e_4f.1, by rw [e_4f.2, tkP_B (by omega)], fun _ => by rw [tkP_B (by omega)]⟩ rfl dX2_takePart_51
        · skip
          refine v_iconst G dX2_takePart_43 ?_
          exact v_zret G (i2_2, x.2.2.2.2.2.1) nb_0 ⟨congrArg jI (b2_f (P := 0 ≤ (tkP B n y v (x.2.2.2.2.2.1 z) (St B i)).1) (by rw [tkP_B (by omega)]; omega)).symm, e_4f.1, by rw [e_4f.2, tkP_B (by omega)], fun z_ => by rw [tkP_B (by omega)] at z_; omega⟩ rfl dX2_takePart_44
  · skip
    refine v_iconst G dX2_takePart_16 ?_
    exact v_zret G (i, x.2.2.2.2.2.1) nb_1 ⟨congrArg jI (b2_t (P := 0 ≤ (tkP B n y v (x.2.2.2.2.2.1 z) (St B i)).1) (by rw [tkP_f (by assumption)]; exact hd)).symm, hi, (congrArg Prod.snd (tkP_f (by assumption))).symm, fun _ => by rw [tkP_f (by assumption)]; exact (uI_id _ _).symm⟩ rfl dX2_takePart_17

set_option maxHeartbeats 4000000 in
set_option maxRecDepth 100000 in
theorem c_X2_takePart_mx (y z v : Int) (hB : Bk B n) (hk : TkK B n tk K) (hi : i ≤ K) (hy : 0 ≤ y ∧ y ≤ 16) (hv : (0 ≤ z ∧ z < 10) ∧ 0 ≤ v ∧ v ≤ 999) (hd : 0 ≤ x.2.2.2.2.2.2.1 z) : Ci l yX2_takePart wsX2_takePart { frames := 3, cells := 0, slots := 0, locals := 68 } D (jT cI cL cB cS) [.ref (a 38), .int (jI y), .ref (a 65), .int (jI z), .int (jI v)] (gN  a (i : Int) ++ gK cI (fun i => a (39 + i)) tk ++ gW cI (fun i => a (60 + i)) x) (S := Nat × (Int → Int)) (fun (u : Nat × (Int → Int)) => (gN  a (u.1 : Int) ++ gK cI (fun i => a (39 + i)) tk ++ gW cI (fun i => a (60 + i)) (x.1, x.2.1, x.2.2.1, x.2.2.2.1, x.2.2.2.2.1, x.2.2.2.2.2.1, u.2, x.2.2.2.2.2.2.2.1, x.2.2.2.2.2.2.2.2.1, x.2.2.2.2.2.2.2.2.2.1, x.2.2.2.2.2.2.2.2.2.2.1, x.2.2.2.2.2.2.2.2.2.2.2))) (fun r (u : Nat × (Int → Int)) => r = jI (b2 (0 ≤ (tkP B n y v (x.2.2.2.2.2.2.1 z) (St B i)).1)) ∧ u.1 ≤ K ∧ St B u.1 = (tkP B n y v (x.2.2.2.2.2.2.1 z) (St B i)).2 ∧ (0 ≤ (tkP B n y v (x.2.2.2.2.2.2.1 z) (St B i)).1 → u.2 = uI x.2.2.2.2.2.2.1 z (tkP B n y v (x.2.2.2.2.2.2.1 z) (St B i)).1)) := by
  refine Ci.mk (cc := cX2_takePart) (maxL := 6) (rt := .boolean) (by decide) rfl (Nat.le_of_ble_eq_true rfl) rfl ?_
  intro p_ e_ s_ m_ b_ me_ c_ A_ G hnm
  have hK := hk.1
  have hq := hk.q hB hi
  have hqr := hq.1
  have hcr := cd_r B n (St B i)
  have k_X2 : ∀ w ∈ u_ws RX2 TX2 3, w ∈ wsX2_takePart := fun _ h => List.mem_cons_of_mem _ (List.mem_append_left _ (List.mem_append_right _ h))
  have q_1 : Cond.fieldLink RX2 21 "SupperLight$NightReader" "text" "LSupperLight$Tokens;" ∈ wsX2_takePart := List.mem_of_getElem? (i := 1) rfl
  have k_X5 : ∀ w ∈ u_ws RX5 TX5 4, w ∈ wsX2_takePart := fun _ h => List.mem_cons_of_mem _ (List.mem_append_right _ h)
  have q_3 : Cond.fieldLink RX2 41 "SupperLight$Tokens" "codes" "[I" ∈ wsX2_takePart := List.mem_of_getElem? (i := 2) rfl
  have q_4 : Cond.fieldLink RX2 25 "SupperLight$NightReader" "next" "I" ∈ wsX2_takePart := List.mem_of_getElem? (i := 3) rfl
  refine v_aload_n (j := 0) (x := a 38) G dX2_takePart_0 rfl rfl ?_
  refine v_get (q0 := 0) (k := 1) (v := .ref (a 39)) G k_X2 rfl rfl (by decide) q_1 rfl rfl dX2_takePart_1 ?_
  refine v_get (q0 := 1) (k := 0) (v := .ref (a 40)) G k_X5 rfl rfl (by decide) q_3 rfl rfl dX2_takePart_4 ?_
  refine v_aload_n (j := 0) (x := a 38) G dX2_takePart_7 rfl rfl ?_
  refine v_get (q0 := 0) (k := 2) (v := .int (jI (i : Int))) G k_X2 rfl rfl (by decide) q_4 rfl rfl dX2_takePart_8 ?_
  refine v_iald (q0 := 2) (t0 := 0) (g := tk.1) (z := (i : Int)) G rfl rfl (by omega) dX2_takePart_11 ?_
  refine v_topj (x := tk.1 (i : Int)) (y := cd B n (St B i)) (hk.2.2.2 i hi).1 ?_
  refine v_iload_n (j := 1) (x := jI y) G dX2_takePart_12 rfl rfl ?_
  refine v_icmp_eq (a := cd B n (St B i)) (b := y) (tgt := 18) G dX2_takePart_13 (by decide) (by omega) (fun c_1 => ?_) (fun c_1 => ?_)
  · skip
    refine v_aload_n (j := 0) (x := a 38) G dX2_takePart_18 rfl rfl ?_
    refine v_iload_n (j := 1) (x := jI y) G dX2_takePart_19 rfl rfl ?_
    refine v_iconst G dX2_takePart_20 ?_
    refine v_iload (j := 4) (x := jI v) G dX2_takePart_21 rfl ?_
    refine v_ciG (w2 := (fun (i2 : Nat) => (gN  a (i2 : Int) ++ gK cI (fun i => a (39 + i)) tk ++ gW cI (fun i => a (60 + i)) x))) G [gN  a (i : Int), gK cI (fun i => a (39 + i)) tk, gW cI (fun i => a (60 + i)) x] [gN  a (i : Int), gK cI (fun i => a (39 + i)) tk] [gW cI (fun i => a (60 + i)) x] (fun (i2 : Nat) => [gN  a (i2 : Int), gK cI (fun i => a (39 + i)) tk, gW cI (fun i => a (60 + i)) x]) (fun (i2 : Nat) => [gN  a (i2 : Int), gK cI (fun i => a (39 + i)) tk]) [0, 0] (rn_V (As := [.int (jI y), .int (jI 0), .int (jI v)]) (rest := []) (q0 := 0) G (c_X2_takeNumberBehind (y := y) (v := 0) (z := v) (tk := tk) (a := a) (i := i) (hB := hB) (hk := hk) (hi := hi) (hy := (by omega)) (hv := (by omega))) gX2_takePart_X2_takeNumberBehind rfl hdX2_takeNumberBehind ⟨rfl, rfl, Nat.le_of_ble_eq_true rfl, Nat.le_of_ble_eq_true rfl⟩ rfl rfl (Nat.le_of_ble_eq_true rfl) ⟨Nat.zero_le _, Nat.zero_le _⟩ rfl rfl dX2_takePart_23) rfl rfl rfl (fun _ => rfl) (fun _ => rfl) (fun _ => rfl) (fun r_3 u_5 e_4 => ?_)
    obtain ⟨i2_2, rfl⟩ : ∃ z, z = u_5 := ⟨_, rfl⟩
    have e_4 : r_3 = jI ((tkB B n y 0 v (St B i)).1) ∧ i2_2 ≤ K ∧ St B i2_2 = (tkB B n y 0 v (St B i)).2 := e_4
    obtain ⟨e_40, e_4f⟩ := e_4
    subst e_40
    refine v_world (ws' := (gN  a (i2_2 : Int) ++ gK cI (fun i => a (39 + i)) tk ++ gW cI (fun i => a (60 + i)) x)) rfl ?_
    refine v_istore (lv' := [(5, .int (jI ((tkB B n y 0 v (St B i)).1))), (0, .ref (a 38)), (1, .int (jI y)), (2, .ref (a 65)), (3, .int (jI z)), (4, .int (jI v))]) G dX2_takePart_26 (by decide) rfl ?_
    have htr := tkB_r B n y 0 v (St B i) (by omega)
    refine v_iload (j := 0) (x := jI ((tkB B n y 0 v (St B i)).1)) G dX2_takePart_28 rfl ?_
    refine v_if_lt (a := (tkB B n y 0 v (St B i)).1) (tgt := 43) G dX2_takePart_30 (by decide) (by omega) (fun c_6 => ?_) (fun c_6 => ?_)
    · skip
      refine v_iconst G dX2_takePart_43 ?_
      exact v_zret G (i2_2, x.2.2.2.2.2.2.1) nb_0 ⟨congrArg jI (b2_f (P := 0 ≤ (tkP B n y v (x.2.2.2.2.2.2.1 z) (St B i)).1) (by rw [tkP_B (by omega)]; omega)).symm, e_4f.1, by rw [e_4f.2, tkP_B (by omega)], fun z_ => by rw [tkP_B (by omega)] at z_; omega⟩ rfl dX2_takePart_44
    · skip
      refine v_iload_n (j := 4) (x := jI z) G dX2_takePart_33 rfl rfl ?_
      refine v_if_lt (a := z) (tgt := 43) G dX2_takePart_34 (by decide) (by omega) (fun c_7 => ?_) (fun c_7 => ?_)
      · skip
        exfalso; omega
      · skip
        refine v_iload_n (j := 4) (x := jI z) G dX2_takePart_37 rfl rfl ?_
        refine v_aload_n (j := 3) (x := a 65) G dX2_takePart_38 rfl rfl ?_
        refine v_alen (q0 := 10) (t0 := 0) (z := 10) G rfl rfl rfl dX2_takePart_39 ?_
        refine v_icmp_lt (a := z) (b := 10) (tgt := 45) G dX2_takePart_40 (by decide) (by omega) (fun c_8 => ?_) (fun c_8 => ?_)
        · skip
          refine v_aload_n (j := 3) (x := a 65) G dX2_takePart_45 rfl rfl ?_
          refine v_iload_n (j := 4) (x := jI z) G dX2_takePart_46 rfl rfl ?_
          refine v_iload (j := 0) (x := jI ((tkB B n y 0 v (St B i)).1)) G dX2_takePart_47 rfl ?_
          refine v_iast (q0 := 10) (t0 := 0) (g := x.2.2.2.2.2.2.1) (z := z) (x := (tkB B n y 0 v (St B i)).1) (ws' := (gN  a (i2_2 : Int) ++ gK cI (fun i => a (39 + i)) tk ++ gW cI (fun i => a (60 + i)) (x.1, x.2.1, x.2.2.1, x.2.2.2.1, x.2.2.2.2.1, x.2.2.2.2.2.1, uI x.2.2.2.2.2.2.1 z ((tkB B n y 0 v (St B i)).1), x.2.2.2.2.2.2.2.1, x.2.2.2.2.2.2.2.2.1, x.2.2.2.2.2.2.2.2.2.1, x.2.2.2.2.2.2.2.2.2.2.1, x.2.2.2.2.2.2.2.2.2.2.2))) G rfl rfl (by omega) rfl dX2_takePart_49 ?_
          refine v_iconst G dX2_takePart_50 ?_
          exact v_zret G (i2_2, uI x.2.2.2.2.2.2.1 z ((tkB B n y 0 v (St B i)).1)) nb_1 ⟨congrArg jI (b2_t (P := 0 ≤ (tkP B n y v (x.2.2.2.2.2.2.1 z) (St B i)).1) (by rw [tkP_B (by omega)]; omega)).symm, e_4f.1, by rw [e_4f.2, tkP_B (by omega)], fun _ => by rw [tkP_B (by omega)]⟩ rfl dX2_takePart_51
        · skip
          refine v_iconst G dX2_takePart_43 ?_
          exact v_zret G (i2_2, x.2.2.2.2.2.2.1) nb_0 ⟨congrArg jI (b2_f (P := 0 ≤ (tkP B n y v (x.2.2.2.2.2.2.1 z) (St B i)).1) (by rw [tkP_B (by omega)]; omega)).symm, e_4f.1, by rw [e_4f.2, tkP_B (by omega)], fun z_ => by rw [tkP_B (by omega)] at z_; omega⟩ rfl dX2_takePart_44
  · skip
    refine v_iconst G dX2_takePart_16 ?_
    exact v_zret G (i, x.2.2.2.2.2.2.1) nb_1 ⟨congrArg jI (b2_t (P := 0 ≤ (tkP B n y v (x.2.2.2.2.2.2.1 z) (St B i)).1) (by rw [tkP_f (by assumption)]; exact hd)).symm, hi, (congrArg Prod.snd (tkP_f (by assumption))).symm, fun _ => by rw [tkP_f (by assumption)]; exact (uI_id _ _).symm⟩ rfl dX2_takePart_17

set_option maxHeartbeats 4000000 in
set_option maxRecDepth 100000 in
theorem c_X2_takePart_fx (y z v : Int) (hB : Bk B n) (hk : TkK B n tk K) (hi : i ≤ K) (hy : 0 ≤ y ∧ y ≤ 16) (hv : (0 ≤ z ∧ z < 10) ∧ 0 ≤ v ∧ v ≤ 999) (hd : 0 ≤ x.2.2.2.2.2.2.2.1 z) : Ci l yX2_takePart wsX2_takePart { frames := 3, cells := 0, slots := 0, locals := 68 } D (jT cI cL cB cS) [.ref (a 38), .int (jI y), .ref (a 66), .int (jI z), .int (jI v)] (gN  a (i : Int) ++ gK cI (fun i => a (39 + i)) tk ++ gW cI (fun i => a (60 + i)) x) (S := Nat × (Int → Int)) (fun (u : Nat × (Int → Int)) => (gN  a (u.1 : Int) ++ gK cI (fun i => a (39 + i)) tk ++ gW cI (fun i => a (60 + i)) (x.1, x.2.1, x.2.2.1, x.2.2.2.1, x.2.2.2.2.1, x.2.2.2.2.2.1, x.2.2.2.2.2.2.1, u.2, x.2.2.2.2.2.2.2.2.1, x.2.2.2.2.2.2.2.2.2.1, x.2.2.2.2.2.2.2.2.2.2.1, x.2.2.2.2.2.2.2.2.2.2.2))) (fun r (u : Nat × (Int → Int)) => r = jI (b2 (0 ≤ (tkP B n y v (x.2.2.2.2.2.2.2.1 z) (St B i)).1)) ∧ u.1 ≤ K ∧ St B u.1 = (tkP B n y v (x.2.2.2.2.2.2.2.1 z) (St B i)).2 ∧ (0 ≤ (tkP B n y v (x.2.2.2.2.2.2.2.1 z) (St B i)).1 → u.2 = uI x.2.2.2.2.2.2.2.1 z (tkP B n y v (x.2.2.2.2.2.2.2.1 z) (St B i)).1)) := by
  refine Ci.mk (cc := cX2_takePart) (maxL := 6) (rt := .boolean) (by decide) rfl (Nat.le_of_ble_eq_true rfl) rfl ?_
  intro p_ e_ s_ m_ b_ me_ c_ A_ G hnm
  have hK := hk.1
  have hq := hk.q hB hi
  have hqr := hq.1
  have hcr := cd_r B n (St B i)
  have k_X2 : ∀ w ∈ u_ws RX2 TX2 3, w ∈ wsX2_takePart := fun _ h => List.mem_cons_of_mem _ (List.mem_append_left _ (List.mem_append_right _ h))
  have q_1 : Cond.fieldLink RX2 21 "SupperLight$NightReader" "text" "LSupperLight$Tokens;" ∈ wsX2_takePart := List.mem_of_getElem? (i := 1) rfl
  have k_X5 : ∀ w ∈ u_ws RX5 TX5 4, w ∈ wsX2_takePart := fun _ h => List.mem_cons_of_mem _ (List.mem_append_right _ h)
  have q_3 : Cond.fieldLink RX2 41 "SupperLight$Tokens" "codes" "[I" ∈ wsX2_takePart := List.mem_of_getElem? (i := 2) rfl
  have q_4 : Cond.fieldLink RX2 25 "SupperLight$NightReader" "next" "I" ∈ wsX2_takePart := List.mem_of_getElem? (i := 3) rfl
  refine v_aload_n (j := 0) (x := a 38) G dX2_takePart_0 rfl rfl ?_
  refine v_get (q0 := 0) (k := 1) (v := .ref (a 39)) G k_X2 rfl rfl (by decide) q_1 rfl rfl dX2_takePart_1 ?_
  refine v_get (q0 := 1) (k := 0) (v := .ref (a 40)) G k_X5 rfl rfl (by decide) q_3 rfl rfl dX2_takePart_4 ?_
  refine v_aload_n (j := 0) (x := a 38) G dX2_takePart_7 rfl rfl ?_
  refine v_get (q0 := 0) (k := 2) (v := .int (jI (i : Int))) G k_X2 rfl rfl (by decide) q_4 rfl rfl dX2_takePart_8 ?_
  refine v_iald (q0 := 2) (t0 := 0) (g := tk.1) (z := (i : Int)) G rfl rfl (by omega) dX2_takePart_11 ?_
  refine v_topj (x := tk.1 (i : Int)) (y := cd B n (St B i)) (hk.2.2.2 i hi).1 ?_
  refine v_iload_n (j := 1) (x := jI y) G dX2_takePart_12 rfl rfl ?_
  refine v_icmp_eq (a := cd B n (St B i)) (b := y) (tgt := 18) G dX2_takePart_13 (by decide) (by omega) (fun c_1 => ?_) (fun c_1 => ?_)
  · skip
    refine v_aload_n (j := 0) (x := a 38) G dX2_takePart_18 rfl rfl ?_
    refine v_iload_n (j := 1) (x := jI y) G dX2_takePart_19 rfl rfl ?_
    refine v_iconst G dX2_takePart_20 ?_
    refine v_iload (j := 4) (x := jI v) G dX2_takePart_21 rfl ?_
    refine v_ciG (w2 := (fun (i2 : Nat) => (gN  a (i2 : Int) ++ gK cI (fun i => a (39 + i)) tk ++ gW cI (fun i => a (60 + i)) x))) G [gN  a (i : Int), gK cI (fun i => a (39 + i)) tk, gW cI (fun i => a (60 + i)) x] [gN  a (i : Int), gK cI (fun i => a (39 + i)) tk] [gW cI (fun i => a (60 + i)) x] (fun (i2 : Nat) => [gN  a (i2 : Int), gK cI (fun i => a (39 + i)) tk, gW cI (fun i => a (60 + i)) x]) (fun (i2 : Nat) => [gN  a (i2 : Int), gK cI (fun i => a (39 + i)) tk]) [0, 0] (rn_V (As := [.int (jI y), .int (jI 0), .int (jI v)]) (rest := []) (q0 := 0) G (c_X2_takeNumberBehind (y := y) (v := 0) (z := v) (tk := tk) (a := a) (i := i) (hB := hB) (hk := hk) (hi := hi) (hy := (by omega)) (hv := (by omega))) gX2_takePart_X2_takeNumberBehind rfl hdX2_takeNumberBehind ⟨rfl, rfl, Nat.le_of_ble_eq_true rfl, Nat.le_of_ble_eq_true rfl⟩ rfl rfl (Nat.le_of_ble_eq_true rfl) ⟨Nat.zero_le _, Nat.zero_le _⟩ rfl rfl dX2_takePart_23) rfl rfl rfl (fun _ => rfl) (fun _ => rfl) (fun _ => rfl) (fun r_3 u_5 e_4 => ?_)
    obtain ⟨i2_2, rfl⟩ : ∃ z, z = u_5 := ⟨_, rfl⟩
    have e_4 : r_3 = jI ((tkB B n y 0 v (St B i)).1) ∧ i2_2 ≤ K ∧ St B i2_2 = (tkB B n y 0 v (St B i)).2 := e_4
    obtain ⟨e_40, e_4f⟩ := e_4
    subst e_40
    refine v_world (ws' := (gN  a (i2_2 : Int) ++ gK cI (fun i => a (39 + i)) tk ++ gW cI (fun i => a (60 + i)) x)) rfl ?_
    refine v_istore (lv' := [(5, .int (jI ((tkB B n y 0 v (St B i)).1))), (0, .ref (a 38)), (1, .int (jI y)), (2, .ref (a 66)), (3, .int (jI z)), (4, .int (jI v))]) G dX2_takePart_26 (by decide) rfl ?_
    have htr := tkB_r B n y 0 v (St B i) (by omega)
    refine v_iload (j := 0) (x := jI ((tkB B n y 0 v (St B i)).1)) G dX2_takePart_28 rfl ?_
    refine v_if_lt (a := (tkB B n y 0 v (St B i)).1) (tgt := 43) G dX2_takePart_30 (by decide) (by omega) (fun c_6 => ?_) (fun c_6 => ?_)
    · skip
      refine v_iconst G dX2_takePart_43 ?_
      exact v_zret G (i2_2, x.2.2.2.2.2.2.2.1) nb_0 ⟨congrArg jI (b2_f (P := 0 ≤ (tkP B n y v (x.2.2.2.2.2.2.2.1 z) (St B i)).1) (by rw [tkP_B (by omega)]; omega)).symm, e_4f.1, by rw [e_4f.2, tkP_B (by omega)], fun z_ => by rw [tkP_B (by omega)] at z_; omega⟩ rfl dX2_takePart_44
    · skip
      refine v_iload_n (j := 4) (x := jI z) G dX2_takePart_33 rfl rfl ?_
      refine v_if_lt (a := z) (tgt := 43) G dX2_takePart_34 (by decide) (by omega) (fun c_7 => ?_) (fun c_7 => ?_)
      · skip
        exfalso; omega
      · skip
        refine v_iload_n (j := 4) (x := jI z) G dX2_takePart_37 rfl rfl ?_
        refine v_aload_n (j := 3) (x := a 66) G dX2_takePart_38 rfl rfl ?_
        refine v_alen (q0 := 11) (t0 := 0) (z := 10) G rfl rfl rfl dX2_takePart_39 ?_
        refine v_icmp_lt (a := z) (b := 10) (tgt := 45) G dX2_takePart_40 (by decide) (by omega) (fun c_8 => ?_) (fun c_8 => ?_)
        · skip
          refine v_aload_n (j := 3) (x := a 66) G dX2_takePart_45 rfl rfl ?_
          refine v_iload_n (j := 4) (x := jI z) G dX2_takePart_46 rfl rfl ?_
          refine v_iload (j := 0) (x := jI ((tkB B n y 0 v (St B i)).1)) G dX2_takePart_47 rfl ?_
          refine v_iast (q0 := 11) (t0 := 0) (g := x.2.2.2.2.2.2.2.1) (z := z) (x := (tkB B n y 0 v (St B i)).1) (ws' := (gN  a (i2_2 : Int) ++ gK cI (fun i => a (39 + i)) tk ++ gW cI (fun i => a (60 + i)) (x.1, x.2.1, x.2.2.1, x.2.2.2.1, x.2.2.2.2.1, x.2.2.2.2.2.1, x.2.2.2.2.2.2.1, uI x.2.2.2.2.2.2.2.1 z ((tkB B n y 0 v (St B i)).1), x.2.2.2.2.2.2.2.2.1, x.2.2.2.2.2.2.2.2.2.1, x.2.2.2.2.2.2.2.2.2.2.1, x.2.2.2.2.2.2.2.2.2.2.2))) G rfl rfl (by omega) rfl dX2_takePart_49 ?_
          refine v_iconst G dX2_takePart_50 ?_
          exact v_zret G (i2_2, uI x.2.2.2.2.2.2.2.1 z ((tkB B n y 0 v (St B i)).1)) nb_1 ⟨congrArg jI (b2_t (P := 0 ≤ (tkP B n y v (x.2.2.2.2.2.2.2.1 z) (St B i)).1) (by rw [tkP_B (by omega)]; omega)).symm, e_4f.1, by rw [e_4f.2, tkP_B (by omega)], fun _ => by rw [tkP_B (by omega)]⟩ rfl dX2_takePart_51
        · skip
          refine v_iconst G dX2_takePart_43 ?_
          exact v_zret G (i2_2, x.2.2.2.2.2.2.2.1) nb_0 ⟨congrArg jI (b2_f (P := 0 ≤ (tkP B n y v (x.2.2.2.2.2.2.2.1 z) (St B i)).1) (by rw [tkP_B (by omega)]; omega)).symm, e_4f.1, by rw [e_4f.2, tkP_B (by omega)], fun z_ => by rw [tkP_B (by omega)] at z_; omega⟩ rfl dX2_takePart_44
  · skip
    refine v_iconst G dX2_takePart_16 ?_
    exact v_zret G (i, x.2.2.2.2.2.2.2.1) nb_1 ⟨congrArg jI (b2_t (P := 0 ≤ (tkP B n y v (x.2.2.2.2.2.2.2.1 z) (St B i)).1) (by rw [tkP_f (by assumption)]; exact hd)).symm, hi, (congrArg Prod.snd (tkP_f (by assumption))).symm, fun _ => by rw [tkP_f (by assumption)]; exact (uI_id _ _).symm⟩ rfl dX2_takePart_17

set_option maxHeartbeats 4000000 in
set_option maxRecDepth 100000 in
theorem c_X2_takeBowl  (hB : Bk B n) (hk : TkK B n tk K) (hi : i ≤ K) (hc : cd B n (St B i) = 10) : Ci l yX2_takeBowl wsX2_takeBowl { frames := 3, cells := 0, slots := 0, locals := 68 } D (jT cI cL cB cS) [.ref (a 38)] (gN  a (i : Int) ++ gK cI (fun i => a (39 + i)) tk ++ gW cI (fun i => a (60 + i)) x) (S := Nat × WT) (fun (u : Nat × WT) => (gN  a (u.1 : Int) ++ gK cI (fun i => a (39 + i)) tk ++ gW cI (fun i => a (60 + i)) u.2)) (fun r (u : Nat × WT) => r = jI (b2 ((itm B n x.2.2.1 x.2.2.2.2.2.2.2.2.1 (St B i)).1 = 1)) ∧ u.1 ≤ K ∧ St B u.1 = (itm B n x.2.2.1 x.2.2.2.2.2.2.2.2.1 (St B i)).2.1 ∧ ((itm B n x.2.2.1 x.2.2.2.2.2.2.2.2.1 (St B i)).1 = 1 → u.2 = apC x (itm B n x.2.2.1 x.2.2.2.2.2.2.2.2.1 (St B i)).2.2)) := by
  refine Ci.mk (cc := cX2_takeBowl) (maxL := 3) (rt := .boolean) (by decide) rfl (Nat.le_of_ble_eq_true rfl) rfl ?_
  intro p_ e_ s_ m_ b_ me_ c_ A_ G hnm
  have hK := hk.1
  have hq := hk.q hB hi
  have hqr := hq.1
  have hcr := cd_r B n (St B i)
  have k_X2 : ∀ w ∈ u_ws RX2 TX2 3, w ∈ wsX2_takeBowl := fun _ h => List.mem_cons_of_mem _ (List.mem_append_left _ (List.mem_append_left _ (List.mem_append_right _ h)))
  have q_1 : Cond.fieldLink RX2 12 "SupperLight$NightReader" "draft" "LSupperLight$World;" ∈ wsX2_takeBowl := List.mem_of_getElem? (i := 1) rfl
  have k_X7 : ∀ w ∈ u_ws RX7 TX7 12, w ∈ wsX2_takeBowl := fun _ h => List.mem_cons_of_mem _ (List.mem_append_left _ (List.mem_append_right _ h))
  have q_3 : Cond.fieldLink RX2 94 "SupperLight$World" "bowls" "[I" ∈ wsX2_takeBowl := List.mem_of_getElem? (i := 2) rfl
  refine v_aload_n (j := 0) (x := a 38) G dX2_takeBowl_0 rfl rfl ?_
  refine v_bipush G dX2_takeBowl_1 (by decide) ?_
  refine v_iconst G dX2_takeBowl_3 ?_
  refine v_bipush G dX2_takeBowl_4 (by decide) ?_
  refine v_ciG (w2 := (fun (i2 : Nat) => (gN  a (i2 : Int) ++ gK cI (fun i => a (39 + i)) tk ++ gW cI (fun i => a (60 + i)) x))) G [gN  a (i : Int), gK cI (fun i => a (39 + i)) tk, gW cI (fun i => a (60 + i)) x] [gN  a (i : Int), gK cI (fun i => a (39 + i)) tk] [gW cI (fun i => a (60 + i)) x] (fun (i2 : Nat) => [gN  a (i2 : Int), gK cI (fun i => a (39 + i)) tk, gW cI (fun i => a (60 + i)) x]) (fun (i2 : Nat) => [gN  a (i2 : Int), gK cI (fun i => a (39 + i)) tk]) [0, 0] (rn_V (As := [.int (jI 10), .int (jI 0), .int (jI 15)]) (rest := []) (q0 := 0) G (c_X2_takeNumberBehind (y := 10) (v := 0) (z := 15) (tk := tk) (a := a) (i := i) (hB := hB) (hk := hk) (hi := hi) (hy := (by omega)) (hv := (by omega))) gX2_takeBowl_X2_takeNumberBehind rfl hdX2_takeNumberBehind ⟨rfl, rfl, Nat.le_of_ble_eq_true rfl, Nat.le_of_ble_eq_true rfl⟩ rfl rfl (Nat.le_of_ble_eq_true rfl) ⟨Nat.zero_le _, Nat.zero_le _⟩ rfl rfl dX2_takeBowl_6) rfl rfl rfl (fun _ => rfl) (fun _ => rfl) (fun _ => rfl) (fun r_2 u_4 e_3 => ?_)
  obtain ⟨i2_1, rfl⟩ : ∃ z, z = u_4 := ⟨_, rfl⟩
  have e_3 : r_2 = jI ((tkB B n 10 0 15 (St B i)).1) ∧ i2_1 ≤ K ∧ St B i2_1 = (tkB B n 10 0 15 (St B i)).2 := e_3
  obtain ⟨e_30, e_3f⟩ := e_3
  subst e_30
  refine v_world (ws' := (gN  a (i2_1 : Int) ++ gK cI (fun i => a (39 + i)) tk ++ gW cI (fun i => a (60 + i)) x)) rfl ?_
  have v1 := tkB_r B n 10 0 15 (St B i) (by omega)
  refine v_istore_n (lv' := [(1, .int (jI ((tkB B n 10 0 15 (St B i)).1))), (0, .ref (a 38))]) G dX2_takeBowl_9 rfl (by decide) rfl ?_
  refine v_iload_n (j := 0) (x := jI ((tkB B n 10 0 15 (St B i)).1)) G dX2_takeBowl_10 rfl rfl ?_
  refine v_if_ge (a := (tkB B n 10 0 15 (St B i)).1) (tgt := 16) G dX2_takeBowl_11 (by decide) (by omega) (fun c_5 => ?_) (fun c_5 => ?_)
  · skip
    refine v_aload_n (j := 1) (x := a 38) G dX2_takeBowl_16 rfl rfl ?_
    refine v_iconst G dX2_takeBowl_17 ?_
    refine v_bipush G dX2_takeBowl_18 (by decide) ?_
    refine v_ciG (w2 := (fun (i2 : Nat) => (gN  a (i2 : Int) ++ gK cI (fun i => a (39 + i)) tk ++ gW cI (fun i => a (60 + i)) x))) G [gN  a (i2_1 : Int), gK cI (fun i => a (39 + i)) tk, gW cI (fun i => a (60 + i)) x] [gN  a (i2_1 : Int), gK cI (fun i => a (39 + i)) tk] [gW cI (fun i => a (60 + i)) x] (fun (i2 : Nat) => [gN  a (i2 : Int), gK cI (fun i => a (39 + i)) tk, gW cI (fun i => a (60 + i)) x]) (fun (i2 : Nat) => [gN  a (i2 : Int), gK cI (fun i => a (39 + i)) tk]) [0, 0] (rn_V (As := [.int (jI 0), .int (jI 99)]) (rest := []) (q0 := 0) G (c_X2_takeNumber (v := 0) (z := 99) (tk := tk) (a := a) (i := i2_1) (hB := hB) (hk := hk) (hi := e_3f.1) (hv := (by omega))) gX2_takeBowl_X2_takeNumber rfl hdX2_takeNumber ⟨rfl, rfl, Nat.le_of_ble_eq_true rfl, Nat.le_of_ble_eq_true rfl⟩ rfl rfl (Nat.le_of_ble_eq_true rfl) ⟨Nat.zero_le _, Nat.zero_le _⟩ rfl rfl dX2_takeBowl_20) rfl rfl rfl (fun _ => rfl) (fun _ => rfl) (fun _ => rfl) (fun r_7 u_9 e_8 => ?_)
    obtain ⟨i2_6, rfl⟩ : ∃ z, z = u_9 := ⟨_, rfl⟩
    have e_8 : r_7 = jI ((tkN B n 0 99 (St B i2_1)).1) ∧ i2_6 ≤ K ∧ St B i2_6 = (tkN B n 0 99 (St B i2_1)).2 := e_8
    obtain ⟨e_80, e_8f⟩ := e_8
    subst e_80
    refine v_world (ws' := (gN  a (i2_6 : Int) ++ gK cI (fun i => a (39 + i)) tk ++ gW cI (fun i => a (60 + i)) x)) rfl ?_
    have v2 := tkN_r B n 0 99 (St B i2_1) (by omega)
    refine v_istore_n (lv' := [(2, .int (jI ((tkN B n 0 99 (St B i2_1)).1))), (1, .int (jI ((tkB B n 10 0 15 (St B i)).1))), (0, .ref (a 38))]) G dX2_takeBowl_23 rfl (by decide) rfl ?_
    refine v_iload_n (j := 0) (x := jI ((tkN B n 0 99 (St B i2_1)).1)) G dX2_takeBowl_24 rfl rfl ?_
    refine v_if_ge (a := (tkN B n 0 99 (St B i2_1)).1) (tgt := 30) G dX2_takeBowl_25 (by decide) (by omega) (fun c_10 => ?_) (fun c_10 => ?_)
    · skip
      refine v_aload_n (j := 2) (x := a 38) G dX2_takeBowl_30 rfl rfl ?_
      refine v_get (q0 := 0) (k := 0) (v := .ref (a 60)) G k_X2 rfl rfl (by decide) q_1 rfl rfl dX2_takeBowl_31 ?_
      refine v_get (q0 := 5) (k := 1) (v := .ref (a 61)) G k_X7 rfl rfl (by decide) q_3 rfl rfl dX2_takeBowl_34 ?_
      refine v_iload_n (j := 1) (x := jI ((tkB B n 10 0 15 (St B i)).1)) G dX2_takeBowl_37 rfl rfl ?_
      refine v_iload_n (j := 0) (x := jI ((tkN B n 0 99 (St B i2_1)).1)) G dX2_takeBowl_38 rfl rfl ?_
      refine v_iast (q0 := 6) (t0 := 0) (g := x.2.1) (z := (tkB B n 10 0 15 (St B i)).1) (x := (tkN B n 0 99 (St B i2_1)).1) (ws' := (gN  a (i2_6 : Int) ++ gK cI (fun i => a (39 + i)) tk ++ gW cI (fun i => a (60 + i)) (x.1, uI x.2.1 ((tkB B n 10 0 15 (St B i)).1) ((tkN B n 0 99 (St B i2_1)).1), x.2.2.1, x.2.2.2.1, x.2.2.2.2.1, x.2.2.2.2.2.1, x.2.2.2.2.2.2.1, x.2.2.2.2.2.2.2.1, x.2.2.2.2.2.2.2.2.1, x.2.2.2.2.2.2.2.2.2.1, x.2.2.2.2.2.2.2.2.2.2.1, x.2.2.2.2.2.2.2.2.2.2.2))) G rfl rfl (by omega) rfl dX2_takeBowl_39 ?_
      refine v_iconst G dX2_takeBowl_40 ?_
      exact v_zret G (i2_6, (x.1, uI x.2.1 ((tkB B n 10 0 15 (St B i)).1) ((tkN B n 0 99 (St B i2_1)).1), x.2.2.1, x.2.2.2.1, x.2.2.2.2.1, x.2.2.2.2.2.1, x.2.2.2.2.2.2.1, x.2.2.2.2.2.2.2.1, x.2.2.2.2.2.2.2.2.1, x.2.2.2.2.2.2.2.2.2.1, x.2.2.2.2.2.2.2.2.2.2.1, x.2.2.2.2.2.2.2.2.2.2.2)) nb_1 (by have hit : (itm B n x.2.2.1 x.2.2.2.2.2.2.2.2.1 (St B i)) = (1, (tkN B n 0 99 (St B i2_1)).2, 10, (tkB B n 10 0 15 (St B i)).1, (tkN B n 0 99 (St B i2_1)).1, 0, 0) := (by rw [itm_o hc, ← tkB_t hc, itO_t (by omega), ← e_3f.2]; exact itO2_t (by omega)); rw [hit]; exact ⟨congrArg jI (b2_t (P := (1 : Int) = 1) rfl).symm, e_8f.1, e_8f.2, fun _ => rfl⟩) rfl dX2_takeBowl_41
    · skip
      refine v_iconst G dX2_takeBowl_28 ?_
      exact v_zret G (i2_6, x) nb_0 (by have hit : (itm B n x.2.2.1 x.2.2.2.2.2.2.2.2.1 (St B i)) = fl (tkN B n 0 99 (St B i2_1)).2 := (by rw [itm_o hc, ← tkB_t hc, itO_t (by omega), ← e_3f.2]; exact itO2_f (by omega)); rw [hit]; exact ⟨congrArg jI (b2_f (P := (fl (tkN B n 0 99 (St B i2_1)).2).1 = 1) (by rw [fl_1]; omega)).symm, e_8f.1, e_8f.2, fun z_ => absurd z_ (by rw [fl_1]; omega)⟩) rfl dX2_takeBowl_29
  · skip
    refine v_iconst G dX2_takeBowl_14 ?_
    exact v_zret G (i2_1, x) nb_0 (by have hit : (itm B n x.2.2.1 x.2.2.2.2.2.2.2.2.1 (St B i)) = fl (tkB B n 10 0 15 (St B i)).2 := (by rw [itm_o hc, ← tkB_t hc]; exact itO_f (by omega)); rw [hit]; exact ⟨congrArg jI (b2_f (P := (fl (tkB B n 10 0 15 (St B i)).2).1 = 1) (by rw [fl_1]; omega)).symm, e_3f.1, e_3f.2, fun z_ => absurd z_ (by rw [fl_1]; omega)⟩) rfl dX2_takeBowl_15

set_option maxHeartbeats 4000000 in
set_option maxRecDepth 100000 in
theorem c_X2_takeEating  (hB : Bk B n) (hk : TkK B n tk K) (hi : i ≤ K) (hw : Wc x) (hc : cd B n (St B i) = 14) : Ci l yX2_takeEating wsX2_takeEating { frames := 3, cells := 0, slots := 0, locals := 68 } D (jT cI cL cB cS) [.ref (a 38)] (gN  a (i : Int) ++ gK cI (fun i => a (39 + i)) tk ++ gW cI (fun i => a (60 + i)) x) (S := Nat × WT) (fun (u : Nat × WT) => (gN  a (u.1 : Int) ++ gK cI (fun i => a (39 + i)) tk ++ gW cI (fun i => a (60 + i)) u.2)) (fun r (u : Nat × WT) => r = jI (b2 ((itm B n x.2.2.1 x.2.2.2.2.2.2.2.2.1 (St B i)).1 = 1)) ∧ u.1 ≤ K ∧ St B u.1 = (itm B n x.2.2.1 x.2.2.2.2.2.2.2.2.1 (St B i)).2.1 ∧ ((itm B n x.2.2.1 x.2.2.2.2.2.2.2.2.1 (St B i)).1 = 1 → u.2 = apC x (itm B n x.2.2.1 x.2.2.2.2.2.2.2.2.1 (St B i)).2.2)) := by
  refine Ci.mk (cc := cX2_takeEating) (maxL := 3) (rt := .boolean) (by decide) rfl (Nat.le_of_ble_eq_true rfl) rfl ?_
  intro p_ e_ s_ m_ b_ me_ c_ A_ G hnm
  have hK := hk.1
  have hq := hk.q hB hi
  have hqr := hq.1
  have hcr := cd_r B n (St B i)
  have hm := hw.many
  have k_X2 : ∀ w ∈ u_ws RX2 TX2 3, w ∈ wsX2_takeEating := fun _ h => List.mem_cons_of_mem _ (List.mem_append_left _ (List.mem_append_left _ (List.mem_append_right _ h)))
  have q_1 : Cond.fieldLink RX2 12 "SupperLight$NightReader" "draft" "LSupperLight$World;" ∈ wsX2_takeEating := List.mem_of_getElem? (i := 1) rfl
  have k_X7 : ∀ w ∈ u_ws RX7 TX7 12, w ∈ wsX2_takeEating := fun _ h => List.mem_cons_of_mem _ (List.mem_append_left _ (List.mem_append_right _ h))
  have q_3 : Cond.fieldLink RX2 67 "SupperLight$World" "beings" "I" ∈ wsX2_takeEating := List.mem_of_getElem? (i := 2) rfl
  refine v_aload_n (j := 0) (x := a 38) G dX2_takeEating_0 rfl rfl ?_
  refine v_bipush G dX2_takeEating_1 (by decide) ?_
  refine v_iconst G dX2_takeEating_3 ?_
  refine v_aload_n (j := 0) (x := a 38) G dX2_takeEating_4 rfl rfl ?_
  refine v_get (q0 := 0) (k := 0) (v := .ref (a 60)) G k_X2 rfl rfl (by decide) q_1 rfl rfl dX2_takeEating_5 ?_
  refine v_get (q0 := 5) (k := 2) (v := .int (jI x.2.2.1)) G k_X7 rfl rfl (by decide) q_3 rfl rfl dX2_takeEating_8 ?_
  refine v_iconst G dX2_takeEating_11 ?_
  refine v_isub (z := x.2.2.1 - 1) G dX2_takeEating_12 rfl ?_
  refine v_ciG (w2 := (fun (i2 : Nat) => (gN  a (i2 : Int) ++ gK cI (fun i => a (39 + i)) tk ++ gW cI (fun i => a (60 + i)) x))) G [gN  a (i : Int), gK cI (fun i => a (39 + i)) tk, gW cI (fun i => a (60 + i)) x] [gN  a (i : Int), gK cI (fun i => a (39 + i)) tk] [gW cI (fun i => a (60 + i)) x] (fun (i2 : Nat) => [gN  a (i2 : Int), gK cI (fun i => a (39 + i)) tk, gW cI (fun i => a (60 + i)) x]) (fun (i2 : Nat) => [gN  a (i2 : Int), gK cI (fun i => a (39 + i)) tk]) [0, 0] (rn_V (As := [.int (jI 14), .int (jI 0), .int (jI (x.2.2.1 - 1))]) (rest := []) (q0 := 0) G (c_X2_takeNumberBehind (y := 14) (v := 0) (z := x.2.2.1 - 1) (tk := tk) (a := a) (i := i) (hB := hB) (hk := hk) (hi := hi) (hy := (by omega)) (hv := (by omega))) gX2_takeEating_X2_takeNumberBehind rfl hdX2_takeNumberBehind ⟨rfl, rfl, Nat.le_of_ble_eq_true rfl, Nat.le_of_ble_eq_true rfl⟩ rfl rfl (Nat.le_of_ble_eq_true rfl) ⟨Nat.zero_le _, Nat.zero_le _⟩ rfl rfl dX2_takeEating_13) rfl rfl rfl (fun _ => rfl) (fun _ => rfl) (fun _ => rfl) (fun r_2 u_4 e_3 => ?_)
  obtain ⟨i2_1, rfl⟩ : ∃ z, z = u_4 := ⟨_, rfl⟩
  have e_3 : r_2 = jI ((tkB B n 14 0 (x.2.2.1 - 1) (St B i)).1) ∧ i2_1 ≤ K ∧ St B i2_1 = (tkB B n 14 0 (x.2.2.1 - 1) (St B i)).2 := e_3
  obtain ⟨e_30, e_3f⟩ := e_3
  subst e_30
  refine v_world (ws' := (gN  a (i2_1 : Int) ++ gK cI (fun i => a (39 + i)) tk ++ gW cI (fun i => a (60 + i)) x)) rfl ?_
  have v1 := tkB_r B n 14 0 (x.2.2.1 - 1) (St B i) (by omega)
  refine v_istore_n (lv' := [(1, .int (jI ((tkB B n 14 0 (x.2.2.1 - 1) (St B i)).1))), (0, .ref (a 38))]) G dX2_takeEating_16 rfl (by decide) rfl ?_
  refine v_iload_n (j := 0) (x := jI ((tkB B n 14 0 (x.2.2.1 - 1) (St B i)).1)) G dX2_takeEating_17 rfl rfl ?_
  refine v_if_ge (a := (tkB B n 14 0 (x.2.2.1 - 1) (St B i)).1) (tgt := 23) G dX2_takeEating_18 (by decide) (by omega) (fun c_5 => ?_) (fun c_5 => ?_)
  · skip
    refine v_aload_n (j := 1) (x := a 38) G dX2_takeEating_23 rfl rfl ?_
    refine v_iconst G dX2_takeEating_24 ?_
    refine v_bipush G dX2_takeEating_25 (by decide) ?_
    refine v_ciG (w2 := (fun (i2 : Nat) => (gN  a (i2 : Int) ++ gK cI (fun i => a (39 + i)) tk ++ gW cI (fun i => a (60 + i)) x))) G [gN  a (i2_1 : Int), gK cI (fun i => a (39 + i)) tk, gW cI (fun i => a (60 + i)) x] [gN  a (i2_1 : Int), gK cI (fun i => a (39 + i)) tk] [gW cI (fun i => a (60 + i)) x] (fun (i2 : Nat) => [gN  a (i2 : Int), gK cI (fun i => a (39 + i)) tk, gW cI (fun i => a (60 + i)) x]) (fun (i2 : Nat) => [gN  a (i2 : Int), gK cI (fun i => a (39 + i)) tk]) [0, 0] (rn_V (As := [.int (jI 0), .int (jI 99)]) (rest := []) (q0 := 0) G (c_X2_takeNumber (v := 0) (z := 99) (tk := tk) (a := a) (i := i2_1) (hB := hB) (hk := hk) (hi := e_3f.1) (hv := (by omega))) gX2_takeEating_X2_takeNumber rfl hdX2_takeNumber ⟨rfl, rfl, Nat.le_of_ble_eq_true rfl, Nat.le_of_ble_eq_true rfl⟩ rfl rfl (Nat.le_of_ble_eq_true rfl) ⟨Nat.zero_le _, Nat.zero_le _⟩ rfl rfl dX2_takeEating_27) rfl rfl rfl (fun _ => rfl) (fun _ => rfl) (fun _ => rfl) (fun r_7 u_9 e_8 => ?_)
    obtain ⟨i2_6, rfl⟩ : ∃ z, z = u_9 := ⟨_, rfl⟩
    have e_8 : r_7 = jI ((tkN B n 0 99 (St B i2_1)).1) ∧ i2_6 ≤ K ∧ St B i2_6 = (tkN B n 0 99 (St B i2_1)).2 := e_8
    obtain ⟨e_80, e_8f⟩ := e_8
    subst e_80
    refine v_world (ws' := (gN  a (i2_6 : Int) ++ gK cI (fun i => a (39 + i)) tk ++ gW cI (fun i => a (60 + i)) x)) rfl ?_
    have v2 := tkN_r B n 0 99 (St B i2_1) (by omega)
    refine v_istore_n (lv' := [(2, .int (jI ((tkN B n 0 99 (St B i2_1)).1))), (1, .int (jI ((tkB B n 14 0 (x.2.2.1 - 1) (St B i)).1))), (0, .ref (a 38))]) G dX2_takeEating_30 rfl (by decide) rfl ?_
    refine v_iload_n (j := 0) (x := jI ((tkN B n 0 99 (St B i2_1)).1)) G dX2_takeEating_31 rfl rfl ?_
    refine v_if_ge (a := (tkN B n 0 99 (St B i2_1)).1) (tgt := 37) G dX2_takeEating_32 (by decide) (by omega) (fun c_10 => ?_) (fun c_10 => ?_)
    · skip
      refine v_aload_n (j := 2) (x := a 38) G dX2_takeEating_37 rfl rfl ?_
      refine v_get (q0 := 0) (k := 0) (v := .ref (a 60)) G k_X2 rfl rfl (by decide) q_1 rfl rfl dX2_takeEating_38 ?_
      refine v_iload_n (j := 1) (x := jI ((tkB B n 14 0 (x.2.2.1 - 1) (St B i)).1)) G dX2_takeEating_41 rfl rfl ?_
      refine v_iload_n (j := 0) (x := jI ((tkN B n 0 99 (St B i2_1)).1)) G dX2_takeEating_42 rfl rfl ?_
      refine v_cvG (w2 := (fun _ => (gN  a (i2_6 : Int) ++ gK cI (fun i => a (39 + i)) tk ++ gW cI (fun i => a (60 + i)) (x.1, x.2.1, x.2.2.1, x.2.2.2.1, x.2.2.2.2.1, x.2.2.2.2.2.1, uI x.2.2.2.2.2.2.1 ((tkB B n 14 0 (x.2.2.1 - 1) (St B i)).1) ((tkN B n 0 99 (St B i2_1)).1), uI x.2.2.2.2.2.2.2.1 ((tkB B n 14 0 (x.2.2.1 - 1) (St B i)).1) 0, x.2.2.2.2.2.2.2.2.1, x.2.2.2.2.2.2.2.2.2.1, x.2.2.2.2.2.2.2.2.2.2.1, x.2.2.2.2.2.2.2.2.2.2.2)))) G [gN  a (i2_6 : Int), gK cI (fun i => a (39 + i)) tk, gW cI (fun i => a (60 + i)) x] [gW cI (fun i => a (60 + i)) x] [gN  a (i2_6 : Int), gK cI (fun i => a (39 + i)) tk] (fun _ => [gN  a (i2_6 : Int), gK cI (fun i => a (39 + i)) tk, gW cI (fun i => a (60 + i)) (x.1, x.2.1, x.2.2.1, x.2.2.2.1, x.2.2.2.2.1, x.2.2.2.2.2.1, uI x.2.2.2.2.2.2.1 ((tkB B n 14 0 (x.2.2.1 - 1) (St B i)).1) ((tkN B n 0 99 (St B i2_1)).1), uI x.2.2.2.2.2.2.2.1 ((tkB B n 14 0 (x.2.2.1 - 1) (St B i)).1) 0, x.2.2.2.2.2.2.2.2.1, x.2.2.2.2.2.2.2.2.2.1, x.2.2.2.2.2.2.2.2.2.2.1, x.2.2.2.2.2.2.2.2.2.2.2)]) (fun _ => [gW cI (fun i => a (60 + i)) (x.1, x.2.1, x.2.2.1, x.2.2.2.1, x.2.2.2.2.1, x.2.2.2.2.2.1, uI x.2.2.2.2.2.2.1 ((tkB B n 14 0 (x.2.2.1 - 1) (St B i)).1) ((tkN B n 0 99 (St B i2_1)).1), uI x.2.2.2.2.2.2.2.1 ((tkB B n 14 0 (x.2.2.1 - 1) (St B i)).1) 0, x.2.2.2.2.2.2.2.2.1, x.2.2.2.2.2.2.2.2.2.1, x.2.2.2.2.2.2.2.2.2.2.1, x.2.2.2.2.2.2.2.2.2.2.2)]) [2] (rn_V (As := [.int (jI ((tkB B n 14 0 (x.2.2.1 - 1) (St B i)).1)), .int (jI ((tkN B n 0 99 (St B i2_1)).1))]) (rest := []) (q0 := 0) G (c_X7_feedBeing (z := (tkB B n 14 0 (x.2.2.1 - 1) (St B i)).1) (v := (tkN B n 0 99 (St B i2_1)).1) (x := x) (b := fun i => a (60 + i)) (hz := (by omega))) gX2_takeEating_X7_feedBeing rfl hdX7_feedBeing ⟨rfl, rfl, Nat.le_of_ble_eq_true rfl, Nat.le_of_ble_eq_true rfl⟩ rfl rfl (Nat.le_of_ble_eq_true rfl) ⟨Nat.zero_le _, Nat.zero_le _⟩ rfl rfl dX2_takeEating_43) rfl rfl rfl (fun _ => rfl) (fun _ => rfl) (fun _ => rfl) (fun u_13 e_12 => ?_)
      refine v_world (ws' := (gN  a (i2_6 : Int) ++ gK cI (fun i => a (39 + i)) tk ++ gW cI (fun i => a (60 + i)) (x.1, x.2.1, x.2.2.1, x.2.2.2.1, x.2.2.2.2.1, x.2.2.2.2.2.1, uI x.2.2.2.2.2.2.1 ((tkB B n 14 0 (x.2.2.1 - 1) (St B i)).1) ((tkN B n 0 99 (St B i2_1)).1), uI x.2.2.2.2.2.2.2.1 ((tkB B n 14 0 (x.2.2.1 - 1) (St B i)).1) 0, x.2.2.2.2.2.2.2.2.1, x.2.2.2.2.2.2.2.2.2.1, x.2.2.2.2.2.2.2.2.2.2.1, x.2.2.2.2.2.2.2.2.2.2.2))) rfl ?_
      refine v_iconst G dX2_takeEating_46 ?_
      exact v_zret G (i2_6, (x.1, x.2.1, x.2.2.1, x.2.2.2.1, x.2.2.2.2.1, x.2.2.2.2.2.1, uI x.2.2.2.2.2.2.1 ((tkB B n 14 0 (x.2.2.1 - 1) (St B i)).1) ((tkN B n 0 99 (St B i2_1)).1), uI x.2.2.2.2.2.2.2.1 ((tkB B n 14 0 (x.2.2.1 - 1) (St B i)).1) 0, x.2.2.2.2.2.2.2.2.1, x.2.2.2.2.2.2.2.2.2.1, x.2.2.2.2.2.2.2.2.2.2.1, x.2.2.2.2.2.2.2.2.2.2.2)) nb_1 (by have hit : (itm B n x.2.2.1 x.2.2.2.2.2.2.2.2.1 (St B i)) = (1, (tkN B n 0 99 (St B i2_1)).2, 14, (tkB B n 14 0 (x.2.2.1 - 1) (St B i)).1, (tkN B n 0 99 (St B i2_1)).1, 0, 0) := (by rw [itm_a hc, ← tkB_t hc, itA_t (by omega), ← e_3f.2]; exact itA2_t (by omega)); rw [hit]; exact ⟨congrArg jI (b2_t (P := (1 : Int) = 1) rfl).symm, e_8f.1, e_8f.2, fun _ => rfl⟩) rfl dX2_takeEating_47
    · skip
      refine v_iconst G dX2_takeEating_35 ?_
      exact v_zret G (i2_6, x) nb_0 (by have hit : (itm B n x.2.2.1 x.2.2.2.2.2.2.2.2.1 (St B i)) = fl (tkN B n 0 99 (St B i2_1)).2 := (by rw [itm_a hc, ← tkB_t hc, itA_t (by omega), ← e_3f.2]; exact itA2_f (by omega)); rw [hit]; exact ⟨congrArg jI (b2_f (P := (fl (tkN B n 0 99 (St B i2_1)).2).1 = 1) (by rw [fl_1]; omega)).symm, e_8f.1, e_8f.2, fun z_ => absurd z_ (by rw [fl_1]; omega)⟩) rfl dX2_takeEating_36
  · skip
    refine v_iconst G dX2_takeEating_21 ?_
    exact v_zret G (i2_1, x) nb_0 (by have hit : (itm B n x.2.2.1 x.2.2.2.2.2.2.2.2.1 (St B i)) = fl (tkB B n 14 0 (x.2.2.1 - 1) (St B i)).2 := (by rw [itm_a hc, ← tkB_t hc]; exact itA_f (by omega)); rw [hit]; exact ⟨congrArg jI (b2_f (P := (fl (tkB B n 14 0 (x.2.2.1 - 1) (St B i)).2).1 = 1) (by rw [fl_1]; omega)).symm, e_3f.1, e_3f.2, fun z_ => absurd z_ (by rw [fl_1]; omega)⟩) rfl dX2_takeEating_22

set_option maxHeartbeats 4000000 in
set_option maxRecDepth 100000 in
theorem c_X2_takeTask  (hB : Bk B n) (hk : TkK B n tk K) (hi : i ≤ K) (hw : Wc x) (hc : cd B n (St B i) = 11) : Ci l yX2_takeTask wsX2_takeTask { frames := 3, cells := 0, slots := 0, locals := 68 } D (jT cI cL cB cS) [.ref (a 38)] (gN  a (i : Int) ++ gK cI (fun i => a (39 + i)) tk ++ gW cI (fun i => a (60 + i)) x) (S := Nat × WT) (fun (u : Nat × WT) => (gN  a (u.1 : Int) ++ gK cI (fun i => a (39 + i)) tk ++ gW cI (fun i => a (60 + i)) u.2)) (fun r (u : Nat × WT) => r = jI (b2 ((itm B n x.2.2.1 x.2.2.2.2.2.2.2.2.1 (St B i)).1 = 1)) ∧ u.1 ≤ K ∧ St B u.1 = (itm B n x.2.2.1 x.2.2.2.2.2.2.2.2.1 (St B i)).2.1 ∧ ((itm B n x.2.2.1 x.2.2.2.2.2.2.2.2.1 (St B i)).1 = 1 → u.2 = apC x (itm B n x.2.2.1 x.2.2.2.2.2.2.2.2.1 (St B i)).2.2)) := by
  refine Ci.mk (cc := cX2_takeTask) (maxL := 4) (rt := .boolean) (by decide) rfl (Nat.le_of_ble_eq_true rfl) rfl ?_
  intro p_ e_ s_ m_ b_ me_ c_ A_ G hnm
  have hK := hk.1
  have hq := hk.q hB hi
  have hqr := hq.1
  have hcr := cd_r B n (St B i)
  have hm := hw.tasks
  have k_X2 : ∀ w ∈ u_ws RX2 TX2 3, w ∈ wsX2_takeTask := fun _ h => List.mem_cons_of_mem _ (List.mem_append_left _ (List.mem_append_left _ (List.mem_append_right _ h)))
  have q_1 : Cond.fieldLink RX2 12 "SupperLight$NightReader" "draft" "LSupperLight$World;" ∈ wsX2_takeTask := List.mem_of_getElem? (i := 1) rfl
  have k_X7 : ∀ w ∈ u_ws RX7 TX7 12, w ∈ wsX2_takeTask := fun _ h => List.mem_cons_of_mem _ (List.mem_append_left _ (List.mem_append_right _ h))
  have q_3 : Cond.fieldLink RX2 97 "SupperLight$World" "tasks" "I" ∈ wsX2_takeTask := List.mem_of_getElem? (i := 2) rfl
  refine v_aload_n (j := 0) (x := a 38) G dX2_takeTask_0 rfl rfl ?_
  refine v_get (q0 := 0) (k := 0) (v := .ref (a 60)) G k_X2 rfl rfl (by decide) q_1 rfl rfl dX2_takeTask_1 ?_
  refine v_get (q0 := 5) (k := 8) (v := .int (jI x.2.2.2.2.2.2.2.2.1)) G k_X7 rfl rfl (by decide) q_3 rfl rfl dX2_takeTask_4 ?_
  refine v_bipush G dX2_takeTask_7 (by decide) ?_
  refine v_icmp_ge (a := x.2.2.2.2.2.2.2.2.1) (b := 8) (tgt := 21) G dX2_takeTask_9 (by decide) (by omega) (fun c_1 => ?_) (fun c_1 => ?_)
  · skip
    refine v_iconst G dX2_takeTask_21 ?_
    exact v_zret G (i, x) nb_0 (by have hit : (itm B n x.2.2.1 x.2.2.2.2.2.2.2.2.1 (St B i)) = fl (St B i) := (itm_tf hc (by omega)); rw [hit]; exact ⟨congrArg jI (b2_f (P := (fl (St B i)).1 = 1) (by rw [fl_1]; omega)).symm, hi, rfl, fun z_ => absurd z_ (by rw [fl_1]; omega)⟩) rfl dX2_takeTask_22
  · skip
    refine v_aload_n (j := 0) (x := a 38) G dX2_takeTask_12 rfl rfl ?_
    refine v_bipush G dX2_takeTask_13 (by decide) ?_
    refine v_ciG (w2 := (fun (i2 : Nat) => (gN  a (i2 : Int) ++ gK cI (fun i => a (39 + i)) tk ++ gW cI (fun i => a (60 + i)) x))) G [gN  a (i : Int), gK cI (fun i => a (39 + i)) tk, gW cI (fun i => a (60 + i)) x] [gN  a (i : Int), gK cI (fun i => a (39 + i)) tk] [gW cI (fun i => a (60 + i)) x] (fun (i2 : Nat) => [gN  a (i2 : Int), gK cI (fun i => a (39 + i)) tk, gW cI (fun i => a (60 + i)) x]) (fun (i2 : Nat) => [gN  a (i2 : Int), gK cI (fun i => a (39 + i)) tk]) [0, 0] (rn_V (As := [.int (jI 11)]) (rest := []) (q0 := 0) G (c_X2_take (v := 11) (tk := tk) (a := a) (i := i) (hB := hB) (hk := hk) (hi := hi) (hv := (by omega))) gX2_takeTask_X2_take rfl hdX2_take ⟨rfl, rfl, Nat.le_of_ble_eq_true rfl, Nat.le_of_ble_eq_true rfl⟩ rfl rfl (Nat.le_of_ble_eq_true rfl) ⟨Nat.zero_le _, Nat.zero_le _⟩ rfl rfl dX2_takeTask_15) rfl rfl rfl (fun _ => rfl) (fun _ => rfl) (fun _ => rfl) (fun r_3 u_5 e_4 => ?_)
    obtain ⟨i2_2, rfl⟩ : ∃ z, z = u_5 := ⟨_, rfl⟩
    have e_4 : r_3 = jI (b2 (cd B n (St B i) = 11)) ∧ i2_2 ≤ K ∧ (cd B n (St B i) = 11 → St B i2_2 = nx B (St B i)) ∧ (¬ cd B n (St B i) = 11 → St B i2_2 = (St B i)) := e_4
    obtain ⟨e_40, e_4f⟩ := e_4
    subst e_40
    refine v_world (ws' := (gN  a (i2_2 : Int) ++ gK cI (fun i => a (39 + i)) tk ++ gW cI (fun i => a (60 + i)) x)) rfl ?_
    refine v_ifb_ne (P := cd B n (St B i) = 11) (tgt := 23) G dX2_takeTask_18 (by decide) (fun c_6 => ?_) (fun c_6 => ?_)
    · skip
      refine v_aload_n (j := 0) (x := a 38) G dX2_takeTask_23 rfl rfl ?_
      refine v_bipush G dX2_takeTask_24 (by decide) ?_
      refine v_iconst G dX2_takeTask_26 ?_
      refine v_bipush G dX2_takeTask_27 (by decide) ?_
      refine v_ciG (w2 := (fun (i2 : Nat) => (gN  a (i2 : Int) ++ gK cI (fun i => a (39 + i)) tk ++ gW cI (fun i => a (60 + i)) x))) G [gN  a (i2_2 : Int), gK cI (fun i => a (39 + i)) tk, gW cI (fun i => a (60 + i)) x] [gN  a (i2_2 : Int), gK cI (fun i => a (39 + i)) tk] [gW cI (fun i => a (60 + i)) x] (fun (i2 : Nat) => [gN  a (i2 : Int), gK cI (fun i => a (39 + i)) tk, gW cI (fun i => a (60 + i)) x]) (fun (i2 : Nat) => [gN  a (i2 : Int), gK cI (fun i => a (39 + i)) tk]) [0, 0] (rn_V (As := [.int (jI 6), .int (jI 0), .int (jI 15)]) (rest := []) (q0 := 0) G (c_X2_takeNumberBehind (y := 6) (v := 0) (z := 15) (tk := tk) (a := a) (i := i2_2) (hB := hB) (hk := hk) (hi := e_4f.1) (hy := (by omega)) (hv := (by omega))) gX2_takeTask_X2_takeNumberBehind rfl hdX2_takeNumberBehind ⟨rfl, rfl, Nat.le_of_ble_eq_true rfl, Nat.le_of_ble_eq_true rfl⟩ rfl rfl (Nat.le_of_ble_eq_true rfl) ⟨Nat.zero_le _, Nat.zero_le _⟩ rfl rfl dX2_takeTask_29) rfl rfl rfl (fun _ => rfl) (fun _ => rfl) (fun _ => rfl) (fun r_8 u_10 e_9 => ?_)
      obtain ⟨i2_7, rfl⟩ : ∃ z, z = u_10 := ⟨_, rfl⟩
      have e_9 : r_8 = jI ((tkB B n 6 0 15 (St B i2_2)).1) ∧ i2_7 ≤ K ∧ St B i2_7 = (tkB B n 6 0 15 (St B i2_2)).2 := e_9
      obtain ⟨e_90, e_9f⟩ := e_9
      subst e_90
      refine v_world (ws' := (gN  a (i2_7 : Int) ++ gK cI (fun i => a (39 + i)) tk ++ gW cI (fun i => a (60 + i)) x)) rfl ?_
      have v1 := tkB_r B n 6 0 15 (St B i2_2) (by omega)
      refine v_istore_n (lv' := [(1, .int (jI ((tkB B n 6 0 15 (St B i2_2)).1))), (0, .ref (a 38))]) G dX2_takeTask_32 rfl (by decide) rfl ?_
      refine v_iload_n (j := 0) (x := jI ((tkB B n 6 0 15 (St B i2_2)).1)) G dX2_takeTask_33 rfl rfl ?_
      refine v_if_ge (a := (tkB B n 6 0 15 (St B i2_2)).1) (tgt := 39) G dX2_takeTask_34 (by decide) (by omega) (fun c_11 => ?_) (fun c_11 => ?_)
      · skip
        refine v_aload_n (j := 1) (x := a 38) G dX2_takeTask_39 rfl rfl ?_
        refine v_bipush G dX2_takeTask_40 (by decide) ?_
        refine v_iconst G dX2_takeTask_42 ?_
        refine v_bipush G dX2_takeTask_43 (by decide) ?_
        refine v_ciG (w2 := (fun (i2 : Nat) => (gN  a (i2 : Int) ++ gK cI (fun i => a (39 + i)) tk ++ gW cI (fun i => a (60 + i)) x))) G [gN  a (i2_7 : Int), gK cI (fun i => a (39 + i)) tk, gW cI (fun i => a (60 + i)) x] [gN  a (i2_7 : Int), gK cI (fun i => a (39 + i)) tk] [gW cI (fun i => a (60 + i)) x] (fun (i2 : Nat) => [gN  a (i2 : Int), gK cI (fun i => a (39 + i)) tk, gW cI (fun i => a (60 + i)) x]) (fun (i2 : Nat) => [gN  a (i2 : Int), gK cI (fun i => a (39 + i)) tk]) [0, 0] (rn_V (As := [.int (jI 12), .int (jI 0), .int (jI 99)]) (rest := []) (q0 := 0) G (c_X2_takeNumberBehind (y := 12) (v := 0) (z := 99) (tk := tk) (a := a) (i := i2_7) (hB := hB) (hk := hk) (hi := e_9f.1) (hy := (by omega)) (hv := (by omega))) gX2_takeTask_X2_takeNumberBehind rfl hdX2_takeNumberBehind ⟨rfl, rfl, Nat.le_of_ble_eq_true rfl, Nat.le_of_ble_eq_true rfl⟩ rfl rfl (Nat.le_of_ble_eq_true rfl) ⟨Nat.zero_le _, Nat.zero_le _⟩ rfl rfl dX2_takeTask_45) rfl rfl rfl (fun _ => rfl) (fun _ => rfl) (fun _ => rfl) (fun r_13 u_15 e_14 => ?_)
        obtain ⟨i2_12, rfl⟩ : ∃ z, z = u_15 := ⟨_, rfl⟩
        have e_14 : r_13 = jI ((tkB B n 12 0 99 (St B i2_7)).1) ∧ i2_12 ≤ K ∧ St B i2_12 = (tkB B n 12 0 99 (St B i2_7)).2 := e_14
        obtain ⟨e_140, e_14f⟩ := e_14
        subst e_140
        refine v_world (ws' := (gN  a (i2_12 : Int) ++ gK cI (fun i => a (39 + i)) tk ++ gW cI (fun i => a (60 + i)) x)) rfl ?_
        have v2 := tkB_r B n 12 0 99 (St B i2_7) (by omega)
        refine v_istore_n (lv' := [(2, .int (jI ((tkB B n 12 0 99 (St B i2_7)).1))), (1, .int (jI ((tkB B n 6 0 15 (St B i2_2)).1))), (0, .ref (a 38))]) G dX2_takeTask_48 rfl (by decide) rfl ?_
        refine v_iload_n (j := 0) (x := jI ((tkB B n 12 0 99 (St B i2_7)).1)) G dX2_takeTask_49 rfl rfl ?_
        refine v_if_ge (a := (tkB B n 12 0 99 (St B i2_7)).1) (tgt := 55) G dX2_takeTask_50 (by decide) (by omega) (fun c_16 => ?_) (fun c_16 => ?_)
        · skip
          refine v_aload_n (j := 2) (x := a 38) G dX2_takeTask_55 rfl rfl ?_
          refine v_bipush G dX2_takeTask_56 (by decide) ?_
          refine v_iconst G dX2_takeTask_58 ?_
          refine v_bipush G dX2_takeTask_59 (by decide) ?_
          refine v_ciG (w2 := (fun (i2 : Nat) => (gN  a (i2 : Int) ++ gK cI (fun i => a (39 + i)) tk ++ gW cI (fun i => a (60 + i)) x))) G [gN  a (i2_12 : Int), gK cI (fun i => a (39 + i)) tk, gW cI (fun i => a (60 + i)) x] [gN  a (i2_12 : Int), gK cI (fun i => a (39 + i)) tk] [gW cI (fun i => a (60 + i)) x] (fun (i2 : Nat) => [gN  a (i2 : Int), gK cI (fun i => a (39 + i)) tk, gW cI (fun i => a (60 + i)) x]) (fun (i2 : Nat) => [gN  a (i2 : Int), gK cI (fun i => a (39 + i)) tk]) [0, 0] (rn_V (As := [.int (jI 13), .int (jI 1), .int (jI 99)]) (rest := []) (q0 := 0) G (c_X2_takeNumberBehind (y := 13) (v := 1) (z := 99) (tk := tk) (a := a) (i := i2_12) (hB := hB) (hk := hk) (hi := e_14f.1) (hy := (by omega)) (hv := (by omega))) gX2_takeTask_X2_takeNumberBehind rfl hdX2_takeNumberBehind ⟨rfl, rfl, Nat.le_of_ble_eq_true rfl, Nat.le_of_ble_eq_true rfl⟩ rfl rfl (Nat.le_of_ble_eq_true rfl) ⟨Nat.zero_le _, Nat.zero_le _⟩ rfl rfl dX2_takeTask_61) rfl rfl rfl (fun _ => rfl) (fun _ => rfl) (fun _ => rfl) (fun r_18 u_20 e_19 => ?_)
          obtain ⟨i2_17, rfl⟩ : ∃ z, z = u_20 := ⟨_, rfl⟩
          have e_19 : r_18 = jI ((tkB B n 13 1 99 (St B i2_12)).1) ∧ i2_17 ≤ K ∧ St B i2_17 = (tkB B n 13 1 99 (St B i2_12)).2 := e_19
          obtain ⟨e_190, e_19f⟩ := e_19
          subst e_190
          refine v_world (ws' := (gN  a (i2_17 : Int) ++ gK cI (fun i => a (39 + i)) tk ++ gW cI (fun i => a (60 + i)) x)) rfl ?_
          have v3 := tkB_r B n 13 1 99 (St B i2_12) (by omega)
          refine v_istore_n (lv' := [(3, .int (jI ((tkB B n 13 1 99 (St B i2_12)).1))), (2, .int (jI ((tkB B n 12 0 99 (St B i2_7)).1))), (1, .int (jI ((tkB B n 6 0 15 (St B i2_2)).1))), (0, .ref (a 38))]) G dX2_takeTask_64 rfl (by decide) rfl ?_
          refine v_iload_n (j := 0) (x := jI ((tkB B n 13 1 99 (St B i2_12)).1)) G dX2_takeTask_65 rfl rfl ?_
          refine v_if_ge (a := (tkB B n 13 1 99 (St B i2_12)).1) (tgt := 71) G dX2_takeTask_66 (by decide) (by omega) (fun c_21 => ?_) (fun c_21 => ?_)
          · skip
            refine v_aload_n (j := 3) (x := a 38) G dX2_takeTask_71 rfl rfl ?_
            refine v_get (q0 := 0) (k := 0) (v := .ref (a 60)) G k_X2 rfl rfl (by decide) q_1 rfl rfl dX2_takeTask_72 ?_
            refine v_iload_n (j := 2) (x := jI ((tkB B n 6 0 15 (St B i2_2)).1)) G dX2_takeTask_75 rfl rfl ?_
            refine v_iload_n (j := 1) (x := jI ((tkB B n 12 0 99 (St B i2_7)).1)) G dX2_takeTask_76 rfl rfl ?_
            refine v_iload_n (j := 0) (x := jI ((tkB B n 13 1 99 (St B i2_12)).1)) G dX2_takeTask_77 rfl rfl ?_
            refine v_ciG (w2 := (fun _ => (gN  a (i2_17 : Int) ++ gK cI (fun i => a (39 + i)) tk ++ gW cI (fun i => a (60 + i)) (x.1, x.2.1, x.2.2.1, x.2.2.2.1, x.2.2.2.2.1, x.2.2.2.2.2.1, x.2.2.2.2.2.2.1, x.2.2.2.2.2.2.2.1, x.2.2.2.2.2.2.2.2.1 + 1, uI x.2.2.2.2.2.2.2.2.2.1 x.2.2.2.2.2.2.2.2.1 ((tkB B n 6 0 15 (St B i2_2)).1), uI x.2.2.2.2.2.2.2.2.2.2.1 x.2.2.2.2.2.2.2.2.1 ((tkB B n 12 0 99 (St B i2_7)).1), uI x.2.2.2.2.2.2.2.2.2.2.2 x.2.2.2.2.2.2.2.2.1 ((tkB B n 13 1 99 (St B i2_12)).1))))) G [gN  a (i2_17 : Int), gK cI (fun i => a (39 + i)) tk, gW cI (fun i => a (60 + i)) x] [gW cI (fun i => a (60 + i)) x] [gN  a (i2_17 : Int), gK cI (fun i => a (39 + i)) tk] (fun _ => [gN  a (i2_17 : Int), gK cI (fun i => a (39 + i)) tk, gW cI (fun i => a (60 + i)) (x.1, x.2.1, x.2.2.1, x.2.2.2.1, x.2.2.2.2.1, x.2.2.2.2.2.1, x.2.2.2.2.2.2.1, x.2.2.2.2.2.2.2.1, x.2.2.2.2.2.2.2.2.1 + 1, uI x.2.2.2.2.2.2.2.2.2.1 x.2.2.2.2.2.2.2.2.1 ((tkB B n 6 0 15 (St B i2_2)).1), uI x.2.2.2.2.2.2.2.2.2.2.1 x.2.2.2.2.2.2.2.2.1 ((tkB B n 12 0 99 (St B i2_7)).1), uI x.2.2.2.2.2.2.2.2.2.2.2 x.2.2.2.2.2.2.2.2.1 ((tkB B n 13 1 99 (St B i2_12)).1))]) (fun _ => [gW cI (fun i => a (60 + i)) (x.1, x.2.1, x.2.2.1, x.2.2.2.1, x.2.2.2.2.1, x.2.2.2.2.2.1, x.2.2.2.2.2.2.1, x.2.2.2.2.2.2.2.1, x.2.2.2.2.2.2.2.2.1 + 1, uI x.2.2.2.2.2.2.2.2.2.1 x.2.2.2.2.2.2.2.2.1 ((tkB B n 6 0 15 (St B i2_2)).1), uI x.2.2.2.2.2.2.2.2.2.2.1 x.2.2.2.2.2.2.2.2.1 ((tkB B n 12 0 99 (St B i2_7)).1), uI x.2.2.2.2.2.2.2.2.2.2.2 x.2.2.2.2.2.2.2.2.1 ((tkB B n 13 1 99 (St B i2_12)).1))]) [2] (rn_V (As := [.int (jI ((tkB B n 6 0 15 (St B i2_2)).1)), .int (jI ((tkB B n 12 0 99 (St B i2_7)).1)), .int (jI ((tkB B n 13 1 99 (St B i2_12)).1))]) (rest := []) (q0 := 0) G (c_X7_addTask (p := (tkB B n 6 0 15 (St B i2_2)).1) (h := (tkB B n 12 0 99 (St B i2_7)).1) (n := (tkB B n 13 1 99 (St B i2_12)).1) (x := x) (b := fun i => a (60 + i)) (hn := (by omega))) gX2_takeTask_X7_addTask rfl hdX7_addTask ⟨rfl, rfl, Nat.le_of_ble_eq_true rfl, Nat.le_of_ble_eq_true rfl⟩ rfl rfl (Nat.le_of_ble_eq_true rfl) ⟨Nat.zero_le _, Nat.zero_le _⟩ rfl rfl dX2_takeTask_78) rfl rfl rfl (fun _ => rfl) (fun _ => rfl) (fun _ => rfl) (fun r_22 u_24 e_23 => ?_)
            have e_23 : r_22 = jI x.2.2.2.2.2.2.2.2.1 := e_23
            subst e_23
            refine v_world (ws' := (gN  a (i2_17 : Int) ++ gK cI (fun i => a (39 + i)) tk ++ gW cI (fun i => a (60 + i)) (x.1, x.2.1, x.2.2.1, x.2.2.2.1, x.2.2.2.2.1, x.2.2.2.2.2.1, x.2.2.2.2.2.2.1, x.2.2.2.2.2.2.2.1, x.2.2.2.2.2.2.2.2.1 + 1, uI x.2.2.2.2.2.2.2.2.2.1 x.2.2.2.2.2.2.2.2.1 ((tkB B n 6 0 15 (St B i2_2)).1), uI x.2.2.2.2.2.2.2.2.2.2.1 x.2.2.2.2.2.2.2.2.1 ((tkB B n 12 0 99 (St B i2_7)).1), uI x.2.2.2.2.2.2.2.2.2.2.2 x.2.2.2.2.2.2.2.2.1 ((tkB B n 13 1 99 (St B i2_12)).1)))) rfl ?_
            refine v_pop G dX2_takeTask_81 rfl ?_
            refine v_iconst G dX2_takeTask_82 ?_
            exact v_zret G (i2_17, (x.1, x.2.1, x.2.2.1, x.2.2.2.1, x.2.2.2.2.1, x.2.2.2.2.2.1, x.2.2.2.2.2.2.1, x.2.2.2.2.2.2.2.1, x.2.2.2.2.2.2.2.2.1 + 1, uI x.2.2.2.2.2.2.2.2.2.1 x.2.2.2.2.2.2.2.2.1 ((tkB B n 6 0 15 (St B i2_2)).1), uI x.2.2.2.2.2.2.2.2.2.2.1 x.2.2.2.2.2.2.2.2.1 ((tkB B n 12 0 99 (St B i2_7)).1), uI x.2.2.2.2.2.2.2.2.2.2.2 x.2.2.2.2.2.2.2.2.1 ((tkB B n 13 1 99 (St B i2_12)).1))) nb_1 (by have hit : (itm B n x.2.2.1 x.2.2.2.2.2.2.2.2.1 (St B i)) = (1, (tkB B n 13 1 99 (St B i2_12)).2, 11, (tkB B n 6 0 15 (St B i2_2)).1, (tkB B n 12 0 99 (St B i2_7)).1, (tkB B n 13 1 99 (St B i2_12)).1, 0) := (by rw [itm_t hc (by omega), ← e_4f.2.1 hc, itT1_t (by omega), ← e_9f.2, itT2_t (by omega), ← e_14f.2]; exact itT3_t (by omega)); rw [hit]; exact ⟨congrArg jI (b2_t (P := (1 : Int) = 1) rfl).symm, e_19f.1, e_19f.2, fun _ => rfl⟩) rfl dX2_takeTask_83
          · skip
            refine v_iconst G dX2_takeTask_69 ?_
            exact v_zret G (i2_17, x) nb_0 (by have hit : (itm B n x.2.2.1 x.2.2.2.2.2.2.2.2.1 (St B i)) = fl (tkB B n 13 1 99 (St B i2_12)).2 := (by rw [itm_t hc (by omega), ← e_4f.2.1 hc, itT1_t (by omega), ← e_9f.2, itT2_t (by omega), ← e_14f.2]; exact itT3_f (by omega)); rw [hit]; exact ⟨congrArg jI (b2_f (P := (fl (tkB B n 13 1 99 (St B i2_12)).2).1 = 1) (by rw [fl_1]; omega)).symm, e_19f.1, e_19f.2, fun z_ => absurd z_ (by rw [fl_1]; omega)⟩) rfl dX2_takeTask_70
        · skip
          refine v_iconst G dX2_takeTask_53 ?_
          exact v_zret G (i2_12, x) nb_0 (by have hit : (itm B n x.2.2.1 x.2.2.2.2.2.2.2.2.1 (St B i)) = fl (tkB B n 12 0 99 (St B i2_7)).2 := (by rw [itm_t hc (by omega), ← e_4f.2.1 hc, itT1_t (by omega), ← e_9f.2]; exact itT2_f (by omega)); rw [hit]; exact ⟨congrArg jI (b2_f (P := (fl (tkB B n 12 0 99 (St B i2_7)).2).1 = 1) (by rw [fl_1]; omega)).symm, e_14f.1, e_14f.2, fun z_ => absurd z_ (by rw [fl_1]; omega)⟩) rfl dX2_takeTask_54
      · skip
        refine v_iconst G dX2_takeTask_37 ?_
        exact v_zret G (i2_7, x) nb_0 (by have hit : (itm B n x.2.2.1 x.2.2.2.2.2.2.2.2.1 (St B i)) = fl (tkB B n 6 0 15 (St B i2_2)).2 := (by rw [itm_t hc (by omega), ← e_4f.2.1 hc]; exact itT1_f (by omega)); rw [hit]; exact ⟨congrArg jI (b2_f (P := (fl (tkB B n 6 0 15 (St B i2_2)).2).1 = 1) (by rw [fl_1]; omega)).symm, e_9f.1, e_9f.2, fun z_ => absurd z_ (by rw [fl_1]; omega)⟩) rfl dX2_takeTask_38
    · skip
      exfalso; omega

set_option maxHeartbeats 4000000 in
set_option maxRecDepth 100000 in
theorem c_X2_takeBeing (k : Int) (hB : Bk B n) (hk : TkK B n tk K) (hi : i ≤ K) (hw : Wc x) (hkd : 0 ≤ k ∧ k ≤ 5) (hc : cd B n (St B i) = k) : Ci l yX2_takeBeing wsX2_takeBeing { frames := 4, cells := 0, slots := 0, locals := 93 } D (jT cI cL cB cS) [.ref (a 38), .int (jI k)] (gN  a (i : Int) ++ gK cI (fun i => a (39 + i)) tk ++ gW cI (fun i => a (60 + i)) x) (S := Nat × WT) (fun (u : Nat × WT) => (gN  a (u.1 : Int) ++ gK cI (fun i => a (39 + i)) tk ++ gW cI (fun i => a (60 + i)) u.2)) (fun r (u : Nat × WT) => r = jI (b2 ((itm B n x.2.2.1 x.2.2.2.2.2.2.2.2.1 (St B i)).1 = 1)) ∧ u.1 ≤ K ∧ St B u.1 = (itm B n x.2.2.1 x.2.2.2.2.2.2.2.2.1 (St B i)).2.1 ∧ ((itm B n x.2.2.1 x.2.2.2.2.2.2.2.2.1 (St B i)).1 = 1 → u.2 = apC x (itm B n x.2.2.1 x.2.2.2.2.2.2.2.2.1 (St B i)).2.2)) := by
  refine Ci.mk (cc := cX2_takeBeing) (maxL := 4) (rt := .boolean) (by decide) rfl (Nat.le_of_ble_eq_true rfl) rfl ?_
  intro p_ e_ s_ m_ b_ me_ c_ A_ G hnm
  have hK := hk.1
  have hq := hk.q hB hi
  have hqr := hq.1
  have hcr := cd_r B n (St B i)
  have hm := hw.many
  have k_X2 : ∀ w ∈ u_ws RX2 TX2 3, w ∈ wsX2_takeBeing := fun _ h => List.mem_cons_of_mem _ (List.mem_append_left _ (List.mem_append_left _ (List.mem_append_right _ h)))
  have q_1 : Cond.fieldLink RX2 12 "SupperLight$NightReader" "draft" "LSupperLight$World;" ∈ wsX2_takeBeing := List.mem_of_getElem? (i := 1) rfl
  have k_X7 : ∀ w ∈ u_ws RX7 TX7 12, w ∈ wsX2_takeBeing := fun _ h => List.mem_cons_of_mem _ (List.mem_append_left _ (List.mem_append_right _ h))
  have q_3 : Cond.fieldLink RX2 67 "SupperLight$World" "beings" "I" ∈ wsX2_takeBeing := List.mem_of_getElem? (i := 2) rfl
  have q_4 : Cond.fieldLink RX2 78 "SupperLight$World" "goals" "[I" ∈ wsX2_takeBeing := List.mem_of_getElem? (i := 3) rfl
  have q_5 : Cond.fieldLink RX2 85 "SupperLight$World" "meals" "[I" ∈ wsX2_takeBeing := List.mem_of_getElem? (i := 4) rfl
  have q_6 : Cond.fieldLink RX2 88 "SupperLight$World" "fasts" "[I" ∈ wsX2_takeBeing := List.mem_of_getElem? (i := 5) rfl
  refine v_aload_n (j := 0) (x := a 38) G dX2_takeBeing_0 rfl rfl ?_
  refine v_get (q0 := 0) (k := 0) (v := .ref (a 60)) G k_X2 rfl rfl (by decide) q_1 rfl rfl dX2_takeBeing_1 ?_
  refine v_get (q0 := 5) (k := 2) (v := .int (jI x.2.2.1)) G k_X7 rfl rfl (by decide) q_3 rfl rfl dX2_takeBeing_4 ?_
  refine v_bipush G dX2_takeBeing_7 (by decide) ?_
  refine v_icmp_ge (a := x.2.2.1) (b := 10) (tgt := 20) G dX2_takeBeing_9 (by decide) (by omega) (fun c_1 => ?_) (fun c_1 => ?_)
  · skip
    refine v_iconst G dX2_takeBeing_20 ?_
    exact v_zret G (i, x) nb_0 (by have hit : (itm B n x.2.2.1 x.2.2.2.2.2.2.2.2.1 (St B i)) = fl (St B i) := (itm_bf (by omega) (by omega)); rw [hit]; exact ⟨congrArg jI (b2_f (P := (fl (St B i)).1 = 1) (by rw [fl_1]; omega)).symm, hi, rfl, fun z_ => absurd z_ (by rw [fl_1]; omega)⟩) rfl dX2_takeBeing_21
  · skip
    refine v_aload_n (j := 0) (x := a 38) G dX2_takeBeing_12 rfl rfl ?_
    refine v_iload_n (j := 1) (x := jI k) G dX2_takeBeing_13 rfl rfl ?_
    refine v_ciG (w2 := (fun (i2 : Nat) => (gN  a (i2 : Int) ++ gK cI (fun i => a (39 + i)) tk ++ gW cI (fun i => a (60 + i)) x))) G [gN  a (i : Int), gK cI (fun i => a (39 + i)) tk, gW cI (fun i => a (60 + i)) x] [gN  a (i : Int), gK cI (fun i => a (39 + i)) tk] [gW cI (fun i => a (60 + i)) x] (fun (i2 : Nat) => [gN  a (i2 : Int), gK cI (fun i => a (39 + i)) tk, gW cI (fun i => a (60 + i)) x]) (fun (i2 : Nat) => [gN  a (i2 : Int), gK cI (fun i => a (39 + i)) tk]) [0, 0] (rn_V (As := [.int (jI k)]) (rest := []) (q0 := 0) G (c_X2_take (v := k) (tk := tk) (a := a) (i := i) (hB := hB) (hk := hk) (hi := hi) (hv := (by omega))) gX2_takeBeing_X2_take rfl hdX2_take ⟨rfl, rfl, Nat.le_of_ble_eq_true rfl, Nat.le_of_ble_eq_true rfl⟩ rfl rfl (Nat.le_of_ble_eq_true rfl) ⟨Nat.zero_le _, Nat.zero_le _⟩ rfl rfl dX2_takeBeing_14) rfl rfl rfl (fun _ => rfl) (fun _ => rfl) (fun _ => rfl) (fun r_3 u_5 e_4 => ?_)
    obtain ⟨i2_2, rfl⟩ : ∃ z, z = u_5 := ⟨_, rfl⟩
    have e_4 : r_3 = jI (b2 (cd B n (St B i) = k)) ∧ i2_2 ≤ K ∧ (cd B n (St B i) = k → St B i2_2 = nx B (St B i)) ∧ (¬ cd B n (St B i) = k → St B i2_2 = (St B i)) := e_4
    obtain ⟨e_40, e_4f⟩ := e_4
    subst e_40
    refine v_world (ws' := (gN  a (i2_2 : Int) ++ gK cI (fun i => a (39 + i)) tk ++ gW cI (fun i => a (60 + i)) x)) rfl ?_
    refine v_ifb_ne (P := cd B n (St B i) = k) (tgt := 22) G dX2_takeBeing_17 (by decide) (fun c_6 => ?_) (fun c_6 => ?_)
    · skip
      refine v_aload_n (j := 0) (x := a 38) G dX2_takeBeing_22 rfl rfl ?_
      refine v_bipush G dX2_takeBeing_23 (by decide) ?_
      refine v_iconst G dX2_takeBeing_25 ?_
      refine v_bipush G dX2_takeBeing_26 (by decide) ?_
      refine v_ciG (w2 := (fun (i2 : Nat) => (gN  a (i2 : Int) ++ gK cI (fun i => a (39 + i)) tk ++ gW cI (fun i => a (60 + i)) x))) G [gN  a (i2_2 : Int), gK cI (fun i => a (39 + i)) tk, gW cI (fun i => a (60 + i)) x] [gN  a (i2_2 : Int), gK cI (fun i => a (39 + i)) tk] [gW cI (fun i => a (60 + i)) x] (fun (i2 : Nat) => [gN  a (i2 : Int), gK cI (fun i => a (39 + i)) tk, gW cI (fun i => a (60 + i)) x]) (fun (i2 : Nat) => [gN  a (i2 : Int), gK cI (fun i => a (39 + i)) tk]) [0, 0] (rn_V (As := [.int (jI 6), .int (jI 0), .int (jI 15)]) (rest := []) (q0 := 0) G (c_X2_takeNumberBehind (y := 6) (v := 0) (z := 15) (tk := tk) (a := a) (i := i2_2) (hB := hB) (hk := hk) (hi := e_4f.1) (hy := (by omega)) (hv := (by omega))) gX2_takeBeing_X2_takeNumberBehind rfl hdX2_takeNumberBehind ⟨rfl, rfl, Nat.le_of_ble_eq_true rfl, Nat.le_of_ble_eq_true rfl⟩ rfl rfl (Nat.le_of_ble_eq_true rfl) ⟨Nat.zero_le _, Nat.zero_le _⟩ rfl rfl dX2_takeBeing_28) rfl rfl rfl (fun _ => rfl) (fun _ => rfl) (fun _ => rfl) (fun r_8 u_10 e_9 => ?_)
      obtain ⟨i2_7, rfl⟩ : ∃ z, z = u_10 := ⟨_, rfl⟩
      have e_9 : r_8 = jI ((tkB B n 6 0 15 (St B i2_2)).1) ∧ i2_7 ≤ K ∧ St B i2_7 = (tkB B n 6 0 15 (St B i2_2)).2 := e_9
      obtain ⟨e_90, e_9f⟩ := e_9
      subst e_90
      refine v_world (ws' := (gN  a (i2_7 : Int) ++ gK cI (fun i => a (39 + i)) tk ++ gW cI (fun i => a (60 + i)) x)) rfl ?_
      have v1 := tkB_r B n 6 0 15 (St B i2_2) (by omega)
      refine v_istore_n (lv' := [(2, .int (jI ((tkB B n 6 0 15 (St B i2_2)).1))), (0, .ref (a 38)), (1, .int (jI k))]) G dX2_takeBeing_31 rfl (by decide) rfl ?_
      refine v_iload_n (j := 0) (x := jI ((tkB B n 6 0 15 (St B i2_2)).1)) G dX2_takeBeing_32 rfl rfl ?_
      refine v_if_ge (a := (tkB B n 6 0 15 (St B i2_2)).1) (tgt := 38) G dX2_takeBeing_33 (by decide) (by omega) (fun c_11 => ?_) (fun c_11 => ?_)
      · skip
        refine v_aload_n (j := 1) (x := a 38) G dX2_takeBeing_38 rfl rfl ?_
        refine v_get (q0 := 0) (k := 0) (v := .ref (a 60)) G k_X2 rfl rfl (by decide) q_1 rfl rfl dX2_takeBeing_39 ?_
        refine v_iload_n (j := 2) (x := jI k) G dX2_takeBeing_42 rfl rfl ?_
        refine v_iload_n (j := 0) (x := jI ((tkB B n 6 0 15 (St B i2_2)).1)) G dX2_takeBeing_43 rfl rfl ?_
        refine v_ciG (w2 := (fun _ => (gN  a (i2_7 : Int) ++ gK cI (fun i => a (39 + i)) tk ++ gW cI (fun i => a (60 + i)) (x.1, x.2.1, x.2.2.1 + 1, uI x.2.2.2.1 x.2.2.1 k, uI x.2.2.2.2.1 x.2.2.1 ((tkB B n 6 0 15 (St B i2_2)).1), uI x.2.2.2.2.2.1 x.2.2.1 ((tkB B n 6 0 15 (St B i2_2)).1), uI x.2.2.2.2.2.2.1 x.2.2.1 20, uI x.2.2.2.2.2.2.2.1 x.2.2.1 0, x.2.2.2.2.2.2.2.2.1, x.2.2.2.2.2.2.2.2.2.1, x.2.2.2.2.2.2.2.2.2.2.1, x.2.2.2.2.2.2.2.2.2.2.2)))) G [gN  a (i2_7 : Int), gK cI (fun i => a (39 + i)) tk, gW cI (fun i => a (60 + i)) x] [gW cI (fun i => a (60 + i)) x] [gN  a (i2_7 : Int), gK cI (fun i => a (39 + i)) tk] (fun _ => [gN  a (i2_7 : Int), gK cI (fun i => a (39 + i)) tk, gW cI (fun i => a (60 + i)) (x.1, x.2.1, x.2.2.1 + 1, uI x.2.2.2.1 x.2.2.1 k, uI x.2.2.2.2.1 x.2.2.1 ((tkB B n 6 0 15 (St B i2_2)).1), uI x.2.2.2.2.2.1 x.2.2.1 ((tkB B n 6 0 15 (St B i2_2)).1), uI x.2.2.2.2.2.2.1 x.2.2.1 20, uI x.2.2.2.2.2.2.2.1 x.2.2.1 0, x.2.2.2.2.2.2.2.2.1, x.2.2.2.2.2.2.2.2.2.1, x.2.2.2.2.2.2.2.2.2.2.1, x.2.2.2.2.2.2.2.2.2.2.2)]) (fun _ => [gW cI (fun i => a (60 + i)) (x.1, x.2.1, x.2.2.1 + 1, uI x.2.2.2.1 x.2.2.1 k, uI x.2.2.2.2.1 x.2.2.1 ((tkB B n 6 0 15 (St B i2_2)).1), uI x.2.2.2.2.2.1 x.2.2.1 ((tkB B n 6 0 15 (St B i2_2)).1), uI x.2.2.2.2.2.2.1 x.2.2.1 20, uI x.2.2.2.2.2.2.2.1 x.2.2.1 0, x.2.2.2.2.2.2.2.2.1, x.2.2.2.2.2.2.2.2.2.1, x.2.2.2.2.2.2.2.2.2.2.1, x.2.2.2.2.2.2.2.2.2.2.2)]) [2] (rn_V (As := [.int (jI k), .int (jI ((tkB B n 6 0 15 (St B i2_2)).1))]) (rest := []) (q0 := 0) G (c_X7_addBeing (k := k) (p := (tkB B n 6 0 15 (St B i2_2)).1) (x := x) (b := fun i => a (60 + i)) (hn := (by omega))) gX2_takeBeing_X7_addBeing rfl hdX7_addBeing ⟨rfl, rfl, Nat.le_of_ble_eq_true rfl, Nat.le_of_ble_eq_true rfl⟩ rfl rfl (Nat.le_of_ble_eq_true rfl) ⟨Nat.zero_le _, Nat.zero_le _⟩ rfl rfl dX2_takeBeing_44) rfl rfl rfl (fun _ => rfl) (fun _ => rfl) (fun _ => rfl) (fun r_12 u_14 e_13 => ?_)
        have e_13 : r_12 = jI x.2.2.1 := e_13
        subst e_13
        refine v_world (ws' := (gN  a (i2_7 : Int) ++ gK cI (fun i => a (39 + i)) tk ++ gW cI (fun i => a (60 + i)) (x.1, x.2.1, x.2.2.1 + 1, uI x.2.2.2.1 x.2.2.1 k, uI x.2.2.2.2.1 x.2.2.1 ((tkB B n 6 0 15 (St B i2_2)).1), uI x.2.2.2.2.2.1 x.2.2.1 ((tkB B n 6 0 15 (St B i2_2)).1), uI x.2.2.2.2.2.2.1 x.2.2.1 20, uI x.2.2.2.2.2.2.2.1 x.2.2.1 0, x.2.2.2.2.2.2.2.2.1, x.2.2.2.2.2.2.2.2.2.1, x.2.2.2.2.2.2.2.2.2.2.1, x.2.2.2.2.2.2.2.2.2.2.2))) rfl ?_
        refine v_istore_n (lv' := [(3, .int (jI x.2.2.1)), (2, .int (jI ((tkB B n 6 0 15 (St B i2_2)).1))), (0, .ref (a 38)), (1, .int (jI k))]) G dX2_takeBeing_47 rfl (by decide) rfl ?_
        refine v_aload_n (j := 2) (x := a 38) G dX2_takeBeing_48 rfl rfl ?_
        refine v_bipush G dX2_takeBeing_49 (by decide) ?_
        refine v_aload_n (j := 2) (x := a 38) G dX2_takeBeing_51 rfl rfl ?_
        refine v_get (q0 := 0) (k := 0) (v := .ref (a 60)) G k_X2 rfl rfl (by decide) q_1 rfl rfl dX2_takeBeing_52 ?_
        refine v_get (q0 := 5) (k := 5) (v := .ref (a 64)) G k_X7 rfl rfl (by decide) q_4 rfl rfl dX2_takeBeing_55 ?_
        refine v_iload_n (j := 0) (x := jI x.2.2.1) G dX2_takeBeing_58 rfl rfl ?_
        refine v_bipush G dX2_takeBeing_59 (by decide) ?_
        refine v_ciF G (rn_V (As := [.int (jI 7), .ref (a 64), .int (jI x.2.2.1), .int (jI 15)]) (rest := []) (q0 := 0) G (c_X2_takePart_gx (y := 7) (z := x.2.2.1) (v := 15) (tk := tk) (x := (x.1, x.2.1, x.2.2.1 + 1, uI x.2.2.2.1 x.2.2.1 k, uI x.2.2.2.2.1 x.2.2.1 ((tkB B n 6 0 15 (St B i2_2)).1), uI x.2.2.2.2.2.1 x.2.2.1 ((tkB B n 6 0 15 (St B i2_2)).1), uI x.2.2.2.2.2.2.1 x.2.2.1 20, uI x.2.2.2.2.2.2.2.1 x.2.2.1 0, x.2.2.2.2.2.2.2.2.1, x.2.2.2.2.2.2.2.2.2.1, x.2.2.2.2.2.2.2.2.2.2.1, x.2.2.2.2.2.2.2.2.2.2.2)) (a := a) (i := i2_7) (hB := hB) (hk := hk) (hi := e_9f.1) (hy := (by omega)) (hv := (by omega)) (hd := (by dsimp only; rw [uI_s]; omega))) gX2_takeBeing_X2_takePart rfl hdX2_takePart ⟨rfl, rfl, Nat.le_of_ble_eq_true rfl, Nat.le_of_ble_eq_true rfl⟩ rfl rfl (Nat.le_of_ble_eq_true rfl) ⟨Nat.zero_le _, Nat.zero_le _⟩ rfl rfl dX2_takeBeing_61) (fun r_17 u_19 e_18 => ?_)
        obtain ⟨i2_15, f2_16⟩ := u_19
        have e_18 : r_17 = jI (b2 (0 ≤ (tkP B n 7 15 ((uI x.2.2.2.2.2.1 x.2.2.1 ((tkB B n 6 0 15 (St B i2_2)).1)) x.2.2.1) (St B i2_7)).1)) ∧ i2_15 ≤ K ∧ St B i2_15 = (tkP B n 7 15 ((uI x.2.2.2.2.2.1 x.2.2.1 ((tkB B n 6 0 15 (St B i2_2)).1)) x.2.2.1) (St B i2_7)).2 ∧ (0 ≤ (tkP B n 7 15 ((uI x.2.2.2.2.2.1 x.2.2.1 ((tkB B n 6 0 15 (St B i2_2)).1)) x.2.2.1) (St B i2_7)).1 → f2_16 = uI (uI x.2.2.2.2.2.1 x.2.2.1 ((tkB B n 6 0 15 (St B i2_2)).1)) x.2.2.1 (tkP B n 7 15 ((uI x.2.2.2.2.2.1 x.2.2.1 ((tkB B n 6 0 15 (St B i2_2)).1)) x.2.2.1) (St B i2_7)).1) := e_18
        obtain ⟨e_180, e_18f⟩ := e_18
        subst e_180
        refine v_world (ws' := (gN  a (i2_15 : Int) ++ gK cI (fun i => a (39 + i)) tk ++ gW cI (fun i => a (60 + i)) (x.1, x.2.1, (x.2.2.1 + 1), (uI x.2.2.2.1 x.2.2.1 k), (uI x.2.2.2.2.1 x.2.2.1 ((tkB B n 6 0 15 (St B i2_2)).1)), f2_16, (uI x.2.2.2.2.2.2.1 x.2.2.1 20), (uI x.2.2.2.2.2.2.2.1 x.2.2.1 0), x.2.2.2.2.2.2.2.2.1, x.2.2.2.2.2.2.2.2.2.1, x.2.2.2.2.2.2.2.2.2.2.1, x.2.2.2.2.2.2.2.2.2.2.2))) rfl ?_
        rw [uI_s] at e_18f
        refine v_topj (x := b2 (0 ≤ (tkP B n 7 15 ((uI x.2.2.2.2.2.1 x.2.2.1 ((tkB B n 6 0 15 (St B i2_2)).1)) x.2.2.1) (St B i2_7)).1)) (y := b2 (0 ≤ (tkP B n 7 15 (tkB B n 6 0 15 (St B i2_2)).1 (St B i2_7)).1)) (by rw [uI_s]) ?_
        have v4 := tkP_r B n 7 15 (tkB B n 6 0 15 (St B i2_2)).1 (St B i2_7) (by omega)
        refine v_ifb_eq (P := 0 ≤ (tkP B n 7 15 (tkB B n 6 0 15 (St B i2_2)).1 (St B i2_7)).1) (tgt := 110) G dX2_takeBeing_64 (by decide) (fun c_20 => ?_) (fun c_20 => ?_)
        · skip
          refine v_iconst G dX2_takeBeing_110 ?_
          exact v_zret G (i2_15, (x.1, x.2.1, (x.2.2.1 + 1), (uI x.2.2.2.1 x.2.2.1 k), (uI x.2.2.2.2.1 x.2.2.1 ((tkB B n 6 0 15 (St B i2_2)).1)), f2_16, (uI x.2.2.2.2.2.2.1 x.2.2.1 20), (uI x.2.2.2.2.2.2.2.1 x.2.2.1 0), x.2.2.2.2.2.2.2.2.1, x.2.2.2.2.2.2.2.2.2.1, x.2.2.2.2.2.2.2.2.2.2.1, x.2.2.2.2.2.2.2.2.2.2.2)) nb_0 (by have hit : (itm B n x.2.2.1 x.2.2.2.2.2.2.2.2.1 (St B i)) = fl (tkP B n 7 15 (tkB B n 6 0 15 (St B i2_2)).1 (St B i2_7)).2 := (by rw [itm_b (by omega) (by omega), ← e_4f.2.1 hc, hc, itB1_t (by omega), ← e_9f.2]; exact itB2_f (by omega)); rw [hit]; exact ⟨congrArg jI (b2_f (P := (fl (tkP B n 7 15 (tkB B n 6 0 15 (St B i2_2)).1 (St B i2_7)).2).1 = 1) (by rw [fl_1]; omega)).symm, e_18f.1, e_18f.2.1, fun z_ => absurd z_ (by rw [fl_1]; omega)⟩) rfl dX2_takeBeing_111
        · skip
          refine v_aload_n (j := 2) (x := a 38) G dX2_takeBeing_67 rfl rfl ?_
          refine v_bipush G dX2_takeBeing_68 (by decide) ?_
          refine v_aload_n (j := 2) (x := a 38) G dX2_takeBeing_70 rfl rfl ?_
          refine v_get (q0 := 0) (k := 0) (v := .ref (a 60)) G k_X2 rfl rfl (by decide) q_1 rfl rfl dX2_takeBeing_71 ?_
          refine v_get (q0 := 5) (k := 6) (v := .ref (a 65)) G k_X7 rfl rfl (by decide) q_5 rfl rfl dX2_takeBeing_74 ?_
          refine v_iload_n (j := 0) (x := jI x.2.2.1) G dX2_takeBeing_77 rfl rfl ?_
          refine v_bipush G dX2_takeBeing_78 (by decide) ?_
          refine v_ciF G (rn_V (As := [.int (jI 8), .ref (a 65), .int (jI x.2.2.1), .int (jI 99)]) (rest := []) (q0 := 0) G (c_X2_takePart_mx (y := 8) (z := x.2.2.1) (v := 99) (tk := tk) (x := (x.1, x.2.1, (x.2.2.1 + 1), (uI x.2.2.2.1 x.2.2.1 k), (uI x.2.2.2.2.1 x.2.2.1 ((tkB B n 6 0 15 (St B i2_2)).1)), f2_16, (uI x.2.2.2.2.2.2.1 x.2.2.1 20), (uI x.2.2.2.2.2.2.2.1 x.2.2.1 0), x.2.2.2.2.2.2.2.2.1, x.2.2.2.2.2.2.2.2.2.1, x.2.2.2.2.2.2.2.2.2.2.1, x.2.2.2.2.2.2.2.2.2.2.2)) (a := a) (i := i2_15) (hB := hB) (hk := hk) (hi := e_18f.1) (hy := (by omega)) (hv := (by omega)) (hd := (by dsimp only; rw [uI_s]; omega))) gX2_takeBeing_X2_takePart rfl hdX2_takePart ⟨rfl, rfl, Nat.le_of_ble_eq_true rfl, Nat.le_of_ble_eq_true rfl⟩ rfl rfl (Nat.le_of_ble_eq_true rfl) ⟨Nat.zero_le _, Nat.zero_le _⟩ rfl rfl dX2_takeBeing_80) (fun r_23 u_25 e_24 => ?_)
          obtain ⟨i2_21, f2_22⟩ := u_25
          have e_24 : r_23 = jI (b2 (0 ≤ (tkP B n 8 99 ((uI x.2.2.2.2.2.2.1 x.2.2.1 20) x.2.2.1) (St B i2_15)).1)) ∧ i2_21 ≤ K ∧ St B i2_21 = (tkP B n 8 99 ((uI x.2.2.2.2.2.2.1 x.2.2.1 20) x.2.2.1) (St B i2_15)).2 ∧ (0 ≤ (tkP B n 8 99 ((uI x.2.2.2.2.2.2.1 x.2.2.1 20) x.2.2.1) (St B i2_15)).1 → f2_22 = uI (uI x.2.2.2.2.2.2.1 x.2.2.1 20) x.2.2.1 (tkP B n 8 99 ((uI x.2.2.2.2.2.2.1 x.2.2.1 20) x.2.2.1) (St B i2_15)).1) := e_24
          obtain ⟨e_240, e_24f⟩ := e_24
          subst e_240
          refine v_world (ws' := (gN  a (i2_21 : Int) ++ gK cI (fun i => a (39 + i)) tk ++ gW cI (fun i => a (60 + i)) (x.1, x.2.1, (x.2.2.1 + 1), (uI x.2.2.2.1 x.2.2.1 k), (uI x.2.2.2.2.1 x.2.2.1 ((tkB B n 6 0 15 (St B i2_2)).1)), f2_16, f2_22, (uI x.2.2.2.2.2.2.2.1 x.2.2.1 0), x.2.2.2.2.2.2.2.2.1, x.2.2.2.2.2.2.2.2.2.1, x.2.2.2.2.2.2.2.2.2.2.1, x.2.2.2.2.2.2.2.2.2.2.2))) rfl ?_
          rw [uI_s] at e_24f
          refine v_topj (x := b2 (0 ≤ (tkP B n 8 99 ((uI x.2.2.2.2.2.2.1 x.2.2.1 20) x.2.2.1) (St B i2_15)).1)) (y := b2 (0 ≤ (tkP B n 8 99 20 (St B i2_15)).1)) (by rw [uI_s]) ?_
          have v5 := tkP_r B n 8 99 20 (St B i2_15) (by omega)
          refine v_ifb_eq (P := 0 ≤ (tkP B n 8 99 20 (St B i2_15)).1) (tgt := 110) G dX2_takeBeing_83 (by decide) (fun c_26 => ?_) (fun c_26 => ?_)
          · skip
            refine v_iconst G dX2_takeBeing_110 ?_
            exact v_zret G (i2_21, (x.1, x.2.1, (x.2.2.1 + 1), (uI x.2.2.2.1 x.2.2.1 k), (uI x.2.2.2.2.1 x.2.2.1 ((tkB B n 6 0 15 (St B i2_2)).1)), f2_16, f2_22, (uI x.2.2.2.2.2.2.2.1 x.2.2.1 0), x.2.2.2.2.2.2.2.2.1, x.2.2.2.2.2.2.2.2.2.1, x.2.2.2.2.2.2.2.2.2.2.1, x.2.2.2.2.2.2.2.2.2.2.2)) nb_0 (by have hit : (itm B n x.2.2.1 x.2.2.2.2.2.2.2.2.1 (St B i)) = fl (tkP B n 8 99 20 (St B i2_15)).2 := (by rw [itm_b (by omega) (by omega), ← e_4f.2.1 hc, hc, itB1_t (by omega), ← e_9f.2, itB2_t (by omega), ← e_18f.2.1]; exact itB3_f (by omega)); rw [hit]; exact ⟨congrArg jI (b2_f (P := (fl (tkP B n 8 99 20 (St B i2_15)).2).1 = 1) (by rw [fl_1]; omega)).symm, e_24f.1, e_24f.2.1, fun z_ => absurd z_ (by rw [fl_1]; omega)⟩) rfl dX2_takeBeing_111
          · skip
            refine v_aload_n (j := 2) (x := a 38) G dX2_takeBeing_86 rfl rfl ?_
            refine v_bipush G dX2_takeBeing_87 (by decide) ?_
            refine v_aload_n (j := 2) (x := a 38) G dX2_takeBeing_89 rfl rfl ?_
            refine v_get (q0 := 0) (k := 0) (v := .ref (a 60)) G k_X2 rfl rfl (by decide) q_1 rfl rfl dX2_takeBeing_90 ?_
            refine v_get (q0 := 5) (k := 7) (v := .ref (a 66)) G k_X7 rfl rfl (by decide) q_6 rfl rfl dX2_takeBeing_93 ?_
            refine v_iload_n (j := 0) (x := jI x.2.2.1) G dX2_takeBeing_96 rfl rfl ?_
            refine v_sipush G dX2_takeBeing_97 (by decide) ?_
            refine v_ciF G (rn_V (As := [.int (jI 9), .ref (a 66), .int (jI x.2.2.1), .int (jI 999)]) (rest := []) (q0 := 0) G (c_X2_takePart_fx (y := 9) (z := x.2.2.1) (v := 999) (tk := tk) (x := (x.1, x.2.1, (x.2.2.1 + 1), (uI x.2.2.2.1 x.2.2.1 k), (uI x.2.2.2.2.1 x.2.2.1 ((tkB B n 6 0 15 (St B i2_2)).1)), f2_16, f2_22, (uI x.2.2.2.2.2.2.2.1 x.2.2.1 0), x.2.2.2.2.2.2.2.2.1, x.2.2.2.2.2.2.2.2.2.1, x.2.2.2.2.2.2.2.2.2.2.1, x.2.2.2.2.2.2.2.2.2.2.2)) (a := a) (i := i2_21) (hB := hB) (hk := hk) (hi := e_24f.1) (hy := (by omega)) (hv := (by omega)) (hd := (by dsimp only; rw [uI_s]; omega))) gX2_takeBeing_X2_takePart rfl hdX2_takePart ⟨rfl, rfl, Nat.le_of_ble_eq_true rfl, Nat.le_of_ble_eq_true rfl⟩ rfl rfl (Nat.le_of_ble_eq_true rfl) ⟨Nat.zero_le _, Nat.zero_le _⟩ rfl rfl dX2_takeBeing_100) (fun r_29 u_31 e_30 => ?_)
            obtain ⟨i2_27, f2_28⟩ := u_31
            have e_30 : r_29 = jI (b2 (0 ≤ (tkP B n 9 999 ((uI x.2.2.2.2.2.2.2.1 x.2.2.1 0) x.2.2.1) (St B i2_21)).1)) ∧ i2_27 ≤ K ∧ St B i2_27 = (tkP B n 9 999 ((uI x.2.2.2.2.2.2.2.1 x.2.2.1 0) x.2.2.1) (St B i2_21)).2 ∧ (0 ≤ (tkP B n 9 999 ((uI x.2.2.2.2.2.2.2.1 x.2.2.1 0) x.2.2.1) (St B i2_21)).1 → f2_28 = uI (uI x.2.2.2.2.2.2.2.1 x.2.2.1 0) x.2.2.1 (tkP B n 9 999 ((uI x.2.2.2.2.2.2.2.1 x.2.2.1 0) x.2.2.1) (St B i2_21)).1) := e_30
            obtain ⟨e_300, e_30f⟩ := e_30
            subst e_300
            refine v_world (ws' := (gN  a (i2_27 : Int) ++ gK cI (fun i => a (39 + i)) tk ++ gW cI (fun i => a (60 + i)) (x.1, x.2.1, (x.2.2.1 + 1), (uI x.2.2.2.1 x.2.2.1 k), (uI x.2.2.2.2.1 x.2.2.1 ((tkB B n 6 0 15 (St B i2_2)).1)), f2_16, f2_22, f2_28, x.2.2.2.2.2.2.2.2.1, x.2.2.2.2.2.2.2.2.2.1, x.2.2.2.2.2.2.2.2.2.2.1, x.2.2.2.2.2.2.2.2.2.2.2))) rfl ?_
            rw [uI_s] at e_30f
            refine v_topj (x := b2 (0 ≤ (tkP B n 9 999 ((uI x.2.2.2.2.2.2.2.1 x.2.2.1 0) x.2.2.1) (St B i2_21)).1)) (y := b2 (0 ≤ (tkP B n 9 999 0 (St B i2_21)).1)) (by rw [uI_s]) ?_
            have v6 := tkP_r B n 9 999 0 (St B i2_21) (by omega)
            refine v_ifb_eq (P := 0 ≤ (tkP B n 9 999 0 (St B i2_21)).1) (tgt := 110) G dX2_takeBeing_103 (by decide) (fun c_32 => ?_) (fun c_32 => ?_)
            · skip
              refine v_iconst G dX2_takeBeing_110 ?_
              exact v_zret G (i2_27, (x.1, x.2.1, (x.2.2.1 + 1), (uI x.2.2.2.1 x.2.2.1 k), (uI x.2.2.2.2.1 x.2.2.1 ((tkB B n 6 0 15 (St B i2_2)).1)), f2_16, f2_22, f2_28, x.2.2.2.2.2.2.2.2.1, x.2.2.2.2.2.2.2.2.2.1, x.2.2.2.2.2.2.2.2.2.2.1, x.2.2.2.2.2.2.2.2.2.2.2)) nb_0 (by have hit : (itm B n x.2.2.1 x.2.2.2.2.2.2.2.2.1 (St B i)) = fl (tkP B n 9 999 0 (St B i2_21)).2 := (by rw [itm_b (by omega) (by omega), ← e_4f.2.1 hc, hc, itB1_t (by omega), ← e_9f.2, itB2_t (by omega), ← e_18f.2.1, itB3_t (by omega), ← e_24f.2.1]; exact itB4_f (by omega)); rw [hit]; exact ⟨congrArg jI (b2_f (P := (fl (tkP B n 9 999 0 (St B i2_21)).2).1 = 1) (by rw [fl_1]; omega)).symm, e_30f.1, e_30f.2.1, fun z_ => absurd z_ (by rw [fl_1]; omega)⟩) rfl dX2_takeBeing_111
            · skip
              refine v_iconst G dX2_takeBeing_106 ?_
              refine v_goto (tgt := 111) G dX2_takeBeing_107 (by decide) ?_
              exact v_zret G (i2_27, (x.1, x.2.1, (x.2.2.1 + 1), (uI x.2.2.2.1 x.2.2.1 k), (uI x.2.2.2.2.1 x.2.2.1 ((tkB B n 6 0 15 (St B i2_2)).1)), f2_16, f2_22, f2_28, x.2.2.2.2.2.2.2.2.1, x.2.2.2.2.2.2.2.2.2.1, x.2.2.2.2.2.2.2.2.2.2.1, x.2.2.2.2.2.2.2.2.2.2.2)) nb_1 (by have hit : (itm B n x.2.2.1 x.2.2.2.2.2.2.2.2.1 (St B i)) = (1, (tkP B n 9 999 0 (St B i2_21)).2, k, (tkB B n 6 0 15 (St B i2_2)).1, (tkP B n 7 15 (tkB B n 6 0 15 (St B i2_2)).1 (St B i2_7)).1, (tkP B n 8 99 20 (St B i2_15)).1, (tkP B n 9 999 0 (St B i2_21)).1) := (by rw [itm_b (by omega) (by omega), ← e_4f.2.1 hc, hc, itB1_t (by omega), ← e_9f.2, itB2_t (by omega), ← e_18f.2.1, itB3_t (by omega), ← e_24f.2.1]; exact itB4_t (by omega)); rw [hit]; exact ⟨congrArg jI (b2_t (P := (1 : Int) = 1) rfl).symm, e_30f.1, e_30f.2.1, fun _ => by rw [apC_b hkd, e_18f.2.2 (by omega), e_24f.2.2 (by omega), e_30f.2.2 (by omega), uI_uI, uI_uI, uI_uI]⟩) rfl dX2_takeBeing_111
      · skip
        refine v_iconst G dX2_takeBeing_36 ?_
        exact v_zret G (i2_7, x) nb_0 (by have hit : (itm B n x.2.2.1 x.2.2.2.2.2.2.2.2.1 (St B i)) = fl (tkB B n 6 0 15 (St B i2_2)).2 := (by rw [itm_b (by omega) (by omega), ← e_4f.2.1 hc, hc]; exact itB1_f (by omega)); rw [hit]; exact ⟨congrArg jI (b2_f (P := (fl (tkB B n 6 0 15 (St B i2_2)).2).1 = 1) (by rw [fl_1]; omega)).symm, e_9f.1, e_9f.2, fun z_ => absurd z_ (by rw [fl_1]; omega)⟩) rfl dX2_takeBeing_37
    · skip
      exfalso; omega

set_option maxHeartbeats 4000000 in
set_option maxRecDepth 100000 in
theorem c_X2_takeItem  (hB : Bk B n) (hk : TkK B n tk K) (hi : i ≤ K) (hw : Wc x) : Ci l yX2_takeItem wsX2_takeItem { frames := 5, cells := 0, slots := 0, locals := 116 } D (jT cI cL cB cS) [.ref (a 38)] (gN  a (i : Int) ++ gK cI (fun i => a (39 + i)) tk ++ gW cI (fun i => a (60 + i)) x) (S := Nat × WT) (fun (u : Nat × WT) => (gN  a (u.1 : Int) ++ gK cI (fun i => a (39 + i)) tk ++ gW cI (fun i => a (60 + i)) u.2)) (fun r (u : Nat × WT) => r = jI (b2 ((itm B n x.2.2.1 x.2.2.2.2.2.2.2.2.1 (St B i)).1 = 1)) ∧ u.1 ≤ K ∧ St B u.1 = (itm B n x.2.2.1 x.2.2.2.2.2.2.2.2.1 (St B i)).2.1 ∧ ((itm B n x.2.2.1 x.2.2.2.2.2.2.2.2.1 (St B i)).1 = 1 → u.2 = apC x (itm B n x.2.2.1 x.2.2.2.2.2.2.2.2.1 (St B i)).2.2)) := by
  refine Ci.mk (cc := cX2_takeItem) (maxL := 2) (rt := .boolean) (by decide) rfl (Nat.le_of_ble_eq_true rfl) rfl ?_
  intro p_ e_ s_ m_ b_ me_ c_ A_ G hnm
  have hK := hk.1
  have hq := hk.q hB hi
  have hqr := hq.1
  have hcr := cd_r B n (St B i)
  have k_X2 : ∀ w ∈ u_ws RX2 TX2 3, w ∈ wsX2_takeItem := fun _ h => List.mem_cons_of_mem _ (List.mem_append_left _ (List.mem_append_left _ (List.mem_append_right _ h)))
  have q_1 : Cond.fieldLink RX2 21 "SupperLight$NightReader" "text" "LSupperLight$Tokens;" ∈ wsX2_takeItem := List.mem_of_getElem? (i := 1) rfl
  have k_X5 : ∀ w ∈ u_ws RX5 TX5 4, w ∈ wsX2_takeItem := fun _ h => List.mem_cons_of_mem _ (List.mem_append_left _ (List.mem_append_right _ h))
  have q_3 : Cond.fieldLink RX2 41 "SupperLight$Tokens" "codes" "[I" ∈ wsX2_takeItem := List.mem_of_getElem? (i := 2) rfl
  have q_4 : Cond.fieldLink RX2 25 "SupperLight$NightReader" "next" "I" ∈ wsX2_takeItem := List.mem_of_getElem? (i := 3) rfl
  have q_5 : Cond.initialized RX8 ∈ wsX2_takeItem := List.mem_of_getElem? (i := 5) rfl
  have q_6 : Cond.static yX8_isKind ∈ wsX2_takeItem := List.mem_of_getElem? (i := 4) rfl
  refine v_aload_n (j := 0) (x := a 38) G dX2_takeItem_0 rfl rfl ?_
  refine v_get (q0 := 0) (k := 1) (v := .ref (a 39)) G k_X2 rfl rfl (by decide) q_1 rfl rfl dX2_takeItem_1 ?_
  refine v_get (q0 := 1) (k := 0) (v := .ref (a 40)) G k_X5 rfl rfl (by decide) q_3 rfl rfl dX2_takeItem_4 ?_
  refine v_aload_n (j := 0) (x := a 38) G dX2_takeItem_7 rfl rfl ?_
  refine v_get (q0 := 0) (k := 2) (v := .int (jI (i : Int))) G k_X2 rfl rfl (by decide) q_4 rfl rfl dX2_takeItem_8 ?_
  refine v_iald (q0 := 2) (t0 := 0) (g := tk.1) (z := (i : Int)) G rfl rfl (by omega) dX2_takeItem_11 ?_
  refine v_topj (x := tk.1 (i : Int)) (y := cd B n (St B i)) (hk.2.2.2 i hi).1 ?_
  refine v_istore_n (lv' := [(1, .int (jI (cd B n (St B i)))), (0, .ref (a 38))]) G dX2_takeItem_12 rfl (by decide) rfl ?_
  refine v_iload_n (j := 0) (x := jI (cd B n (St B i))) G dX2_takeItem_13 rfl rfl ?_
  refine v_ciN G (rn_N (As := [.int (jI (cd B n (St B i)))]) (rest := []) G (c_X8_isKind (k := cd B n (St B i)) (hr := (by omega))) gX2_takeItem_X8_isKind_n52 rfl (List.mem_of_getElem? (i := 5) rfl) q_5 q_6 hdX8_isKind ⟨rfl, rfl, Nat.le_of_ble_eq_true rfl, Nat.le_of_ble_eq_true rfl⟩ rfl rfl (Nat.le_of_ble_eq_true rfl) ⟨Nat.zero_le _, Nat.zero_le _⟩ dX2_takeItem_14) (fun r_1 u_3 e_2 => ?_)
  have e_2 : r_1 = jI (b2 (0 ≤ (cd B n (St B i)) ∧ (cd B n (St B i)) ≤ 5)) := e_2
  subst e_2
  refine v_ifb_eq (P := 0 ≤ (cd B n (St B i)) ∧ (cd B n (St B i)) ≤ 5) (tgt := 26) G dX2_takeItem_17 (by decide) (fun c_4 => ?_) (fun c_4 => ?_)
  · skip
    refine v_iload_n (j := 0) (x := jI (cd B n (St B i))) G dX2_takeItem_26 rfl rfl ?_
    rcases (show cd B n (St B i) = 10 ∨ cd B n (St B i) = 11 ∨ cd B n (St B i) = 12 ∨ cd B n (St B i) = 13 ∨ cd B n (St B i) = 14 ∨ (cd B n (St B i) < 10 ∨ 14 < cd B n (St B i)) by omega) with c_5 | c_5 | c_5 | c_5 | c_5 | c_5
    · skip
      refine v_tabIn (z := cd B n (St B i)) (v := 10) (tgt := 60) G c_5 (by decide) rfl (by decide) dX2_takeItem_27 ?_
      refine v_aload_n (j := 1) (x := a 38) G dX2_takeItem_60 rfl rfl ?_
      refine v_ciF G (rn_V (As := []) (rest := []) (q0 := 0) G (c_X2_takeBowl (tk := tk) (x := x) (a := a) (i := i) (hB := hB) (hk := hk) (hi := hi) (hc := (by assumption))) gX2_takeItem_X2_takeBowl rfl hdX2_takeBowl ⟨rfl, rfl, Nat.le_of_ble_eq_true rfl, Nat.le_of_ble_eq_true rfl⟩ rfl rfl (Nat.le_of_ble_eq_true rfl) ⟨Nat.zero_le _, Nat.zero_le _⟩ rfl rfl dX2_takeItem_61) (fun r_8 u_10 e_9 => ?_)
      obtain ⟨i2_6, y2_7⟩ := u_10
      have e_9 : r_8 = jI (b2 ((itm B n x.2.2.1 x.2.2.2.2.2.2.2.2.1 (St B i)).1 = 1)) ∧ i2_6 ≤ K ∧ St B i2_6 = (itm B n x.2.2.1 x.2.2.2.2.2.2.2.2.1 (St B i)).2.1 ∧ ((itm B n x.2.2.1 x.2.2.2.2.2.2.2.2.1 (St B i)).1 = 1 → y2_7 = apC x (itm B n x.2.2.1 x.2.2.2.2.2.2.2.2.1 (St B i)).2.2) := e_9
      obtain ⟨e_90, e_9f⟩ := e_9
      subst e_90
      refine v_world (ws' := (gN  a (i2_6 : Int) ++ gK cI (fun i => a (39 + i)) tk ++ gW cI (fun i => a (60 + i)) y2_7)) rfl ?_
      exact v_zret G (i2_6, y2_7) (nb_b2 _) ⟨rfl, e_9f⟩ rfl dX2_takeItem_64
    · skip
      refine v_tabIn (z := cd B n (St B i)) (v := 11) (tgt := 65) G c_5 (by decide) rfl (by decide) dX2_takeItem_27 ?_
      refine v_aload_n (j := 1) (x := a 38) G dX2_takeItem_65 rfl rfl ?_
      refine v_ciF G (rn_V (As := []) (rest := []) (q0 := 0) G (c_X2_takeTask (tk := tk) (x := x) (a := a) (i := i) (hB := hB) (hk := hk) (hi := hi) (hw := hw) (hc := (by assumption))) gX2_takeItem_X2_takeTask rfl hdX2_takeTask ⟨rfl, rfl, Nat.le_of_ble_eq_true rfl, Nat.le_of_ble_eq_true rfl⟩ rfl rfl (Nat.le_of_ble_eq_true rfl) ⟨Nat.zero_le _, Nat.zero_le _⟩ rfl rfl dX2_takeItem_66) (fun r_13 u_15 e_14 => ?_)
      obtain ⟨i2_11, y2_12⟩ := u_15
      have e_14 : r_13 = jI (b2 ((itm B n x.2.2.1 x.2.2.2.2.2.2.2.2.1 (St B i)).1 = 1)) ∧ i2_11 ≤ K ∧ St B i2_11 = (itm B n x.2.2.1 x.2.2.2.2.2.2.2.2.1 (St B i)).2.1 ∧ ((itm B n x.2.2.1 x.2.2.2.2.2.2.2.2.1 (St B i)).1 = 1 → y2_12 = apC x (itm B n x.2.2.1 x.2.2.2.2.2.2.2.2.1 (St B i)).2.2) := e_14
      obtain ⟨e_140, e_14f⟩ := e_14
      subst e_140
      refine v_world (ws' := (gN  a (i2_11 : Int) ++ gK cI (fun i => a (39 + i)) tk ++ gW cI (fun i => a (60 + i)) y2_12)) rfl ?_
      exact v_zret G (i2_11, y2_12) (nb_b2 _) ⟨rfl, e_14f⟩ rfl dX2_takeItem_69
    · skip
      refine v_tabIn (z := cd B n (St B i)) (v := 12) (tgt := 75) G c_5 (by decide) rfl (by decide) dX2_takeItem_27 ?_
      refine v_iconst G dX2_takeItem_75 ?_
      exact v_zret G (i, x) nb_0 (by have hit : (itm B n x.2.2.1 x.2.2.2.2.2.2.2.2.1 (St B i)) = fl (St B i) := (itm_x (by assumption) (by omega)); rw [hit]; exact ⟨congrArg jI (b2_f (P := (fl (St B i)).1 = 1) (by rw [fl_1]; omega)).symm, hi, rfl, fun z_ => absurd z_ (by rw [fl_1]; omega)⟩) rfl dX2_takeItem_76
    · skip
      refine v_tabIn (z := cd B n (St B i)) (v := 13) (tgt := 75) G c_5 (by decide) rfl (by decide) dX2_takeItem_27 ?_
      refine v_iconst G dX2_takeItem_75 ?_
      exact v_zret G (i, x) nb_0 (by have hit : (itm B n x.2.2.1 x.2.2.2.2.2.2.2.2.1 (St B i)) = fl (St B i) := (itm_x (by assumption) (by omega)); rw [hit]; exact ⟨congrArg jI (b2_f (P := (fl (St B i)).1 = 1) (by rw [fl_1]; omega)).symm, hi, rfl, fun z_ => absurd z_ (by rw [fl_1]; omega)⟩) rfl dX2_takeItem_76
    · skip
      refine v_tabIn (z := cd B n (St B i)) (v := 14) (tgt := 70) G c_5 (by decide) rfl (by decide) dX2_takeItem_27 ?_
      refine v_aload_n (j := 1) (x := a 38) G dX2_takeItem_70 rfl rfl ?_
      refine v_ciF G (rn_V (As := []) (rest := []) (q0 := 0) G (c_X2_takeEating (tk := tk) (x := x) (a := a) (i := i) (hB := hB) (hk := hk) (hi := hi) (hw := hw) (hc := (by assumption))) gX2_takeItem_X2_takeEating rfl hdX2_takeEating ⟨rfl, rfl, Nat.le_of_ble_eq_true rfl, Nat.le_of_ble_eq_true rfl⟩ rfl rfl (Nat.le_of_ble_eq_true rfl) ⟨Nat.zero_le _, Nat.zero_le _⟩ rfl rfl dX2_takeItem_71) (fun r_18 u_20 e_19 => ?_)
      obtain ⟨i2_16, y2_17⟩ := u_20
      have e_19 : r_18 = jI (b2 ((itm B n x.2.2.1 x.2.2.2.2.2.2.2.2.1 (St B i)).1 = 1)) ∧ i2_16 ≤ K ∧ St B i2_16 = (itm B n x.2.2.1 x.2.2.2.2.2.2.2.2.1 (St B i)).2.1 ∧ ((itm B n x.2.2.1 x.2.2.2.2.2.2.2.2.1 (St B i)).1 = 1 → y2_17 = apC x (itm B n x.2.2.1 x.2.2.2.2.2.2.2.2.1 (St B i)).2.2) := e_19
      obtain ⟨e_190, e_19f⟩ := e_19
      subst e_190
      refine v_world (ws' := (gN  a (i2_16 : Int) ++ gK cI (fun i => a (39 + i)) tk ++ gW cI (fun i => a (60 + i)) y2_17)) rfl ?_
      exact v_zret G (i2_16, y2_17) (nb_b2 _) ⟨rfl, e_19f⟩ rfl dX2_takeItem_74
    · skip
      refine v_tabOut (z := cd B n (St B i)) (tgt := 75) G c_5 (by omega) (by decide) dX2_takeItem_27 ?_
      refine v_iconst G dX2_takeItem_75 ?_
      exact v_zret G (i, x) nb_0 (by have hit : (itm B n x.2.2.1 x.2.2.2.2.2.2.2.2.1 (St B i)) = fl (St B i) := (itm_x (by assumption) (by omega)); rw [hit]; exact ⟨congrArg jI (b2_f (P := (fl (St B i)).1 = 1) (by rw [fl_1]; omega)).symm, hi, rfl, fun z_ => absurd z_ (by rw [fl_1]; omega)⟩) rfl dX2_takeItem_76
  · skip
    refine v_aload_n (j := 1) (x := a 38) G dX2_takeItem_20 rfl rfl ?_
    refine v_iload_n (j := 0) (x := jI (cd B n (St B i))) G dX2_takeItem_21 rfl rfl ?_
    refine v_ciF G (rn_V (As := [.int (jI (cd B n (St B i)))]) (rest := []) (q0 := 0) G (c_X2_takeBeing (k := cd B n (St B i)) (tk := tk) (x := x) (a := a) (i := i) (hB := hB) (hk := hk) (hi := hi) (hw := hw) (hkd := (by assumption)) (hc := rfl)) gX2_takeItem_X2_takeBeing rfl hdX2_takeBeing ⟨rfl, rfl, Nat.le_of_ble_eq_true rfl, Nat.le_of_ble_eq_true rfl⟩ rfl rfl (Nat.le_of_ble_eq_true rfl) ⟨Nat.zero_le _, Nat.zero_le _⟩ rfl rfl dX2_takeItem_22) (fun r_23 u_25 e_24 => ?_)
    obtain ⟨i2_21, y2_22⟩ := u_25
    have e_24 : r_23 = jI (b2 ((itm B n x.2.2.1 x.2.2.2.2.2.2.2.2.1 (St B i)).1 = 1)) ∧ i2_21 ≤ K ∧ St B i2_21 = (itm B n x.2.2.1 x.2.2.2.2.2.2.2.2.1 (St B i)).2.1 ∧ ((itm B n x.2.2.1 x.2.2.2.2.2.2.2.2.1 (St B i)).1 = 1 → y2_22 = apC x (itm B n x.2.2.1 x.2.2.2.2.2.2.2.2.1 (St B i)).2.2) := e_24
    obtain ⟨e_240, e_24f⟩ := e_24
    subst e_240
    refine v_world (ws' := (gN  a (i2_21 : Int) ++ gK cI (fun i => a (39 + i)) tk ++ gW cI (fun i => a (60 + i)) y2_22)) rfl ?_
    exact v_zret G (i2_21, y2_22) (nb_b2 _) ⟨rfl, e_24f⟩ rfl dX2_takeItem_25

set_option maxHeartbeats 4000000 in
set_option maxRecDepth 100000 in
theorem c_X2_faultPlace  (hB : Bk B n) (hk : TkK B n tk K) (hi : i ≤ K) : Ci l yX2_faultPlace wsX2_faultPlace { frames := 0, cells := 0, slots := 0, locals := 0 } D (jT cI cL cB cS) [.ref (a 38)] (gN  a (i : Int) ++ gK cI (fun i => a (39 + i)) tk) (S := Unit) (fun _ => (gN  a (i : Int) ++ gK cI (fun i => a (39 + i)) tk)) (fun r _ => r = jI (St B i)) := by
  refine Ci.mk (cc := cX2_faultPlace) (maxL := 1) (rt := .int) (by decide) rfl (Nat.le_of_ble_eq_true rfl) rfl ?_
  intro p_ e_ s_ m_ b_ me_ c_ A_ G hnm
  have hK := hk.1
  have hq := hk.q hB hi
  have hqr := hq.1
  have hcr := cd_r B n (St B i)
  have k_X2 : ∀ w ∈ u_ws RX2 TX2 3, w ∈ wsX2_faultPlace := fun _ h => List.mem_cons_of_mem _ (List.mem_append_left _ (List.mem_append_right _ h))
  have q_1 : Cond.fieldLink RX2 21 "SupperLight$NightReader" "text" "LSupperLight$Tokens;" ∈ wsX2_faultPlace := List.mem_of_getElem? (i := 1) rfl
  have k_X5 : ∀ w ∈ u_ws RX5 TX5 4, w ∈ wsX2_faultPlace := fun _ h => List.mem_cons_of_mem _ (List.mem_append_right _ h)
  have q_3 : Cond.fieldLink RX2 49 "SupperLight$Tokens" "starts" "[I" ∈ wsX2_faultPlace := List.mem_of_getElem? (i := 2) rfl
  have q_4 : Cond.fieldLink RX2 25 "SupperLight$NightReader" "next" "I" ∈ wsX2_faultPlace := List.mem_of_getElem? (i := 3) rfl
  refine v_aload_n (j := 0) (x := a 38) G dX2_faultPlace_0 rfl rfl ?_
  refine v_get (q0 := 0) (k := 1) (v := .ref (a 39)) G k_X2 rfl rfl (by decide) q_1 rfl rfl dX2_faultPlace_1 ?_
  refine v_get (q0 := 1) (k := 2) (v := .ref (a 42)) G k_X5 rfl rfl (by decide) q_3 rfl rfl dX2_faultPlace_4 ?_
  refine v_aload_n (j := 0) (x := a 38) G dX2_faultPlace_7 rfl rfl ?_
  refine v_get (q0 := 0) (k := 2) (v := .int (jI (i : Int))) G k_X2 rfl rfl (by decide) q_4 rfl rfl dX2_faultPlace_8 ?_
  refine v_iald (q0 := 4) (t0 := 0) (g := tk.2.2.1) (z := (i : Int)) G rfl rfl (by omega) dX2_faultPlace_11 ?_
  refine v_topj (x := tk.2.2.1 (i : Int)) (y := St B i) (hk.2.2.2 i hi).2.2 ?_
  exact v_iret G () rfl rfl dX2_faultPlace_12
end

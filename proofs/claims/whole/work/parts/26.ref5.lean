section
variable {l : Launch} {D : va_G} {cI cL cB cS : ClassId} {a : Nat → Nat} {w kp bf ah fd sp lt tp bt lg : Int → Int} {ik tn he ft vl : Int} {ce bw : Int → Int64}
def tpF (tp : Int → Int) (tn : Int) (x : Int32) (n : Int) : Nat → (Int → Int)
  | 0 => tp
  | j + 1 => uI (tpF tp tn x n j) (tn + (j : Int)) (byt x (n - 1 - (j : Int)))
def czF (ce : Int → Int64) (k : Int) : Nat → (Int → Int64)
  | 0 => ce
  | j + 1 => uL (czF ce k j) (40 * k + (j : Int)) (jL 0)
def okL (x : Int64) : Prop := 0 ≤ x.toInt ∧ x.toInt ≤ 99
noncomputable def lyW (w : Int → Int) (f : Int → Int64) : Nat → (Int → Int)
  | 0 => w
  | i + 1 => @ite (Int → Int) (okL (f (i : Int))) (Classical.propDecidable _) (uI (lyW w f i) (3 + (i : Int)) (f (i : Int)).toInt) (lyW w f i)
noncomputable def lyC (f : Int → Int64) : Nat → Int
  | 0 => 0
  | i + 1 => @ite Int (okL (f (i : Int))) (Classical.propDecidable _) (lyC f i + 1) (lyC f i)
theorem ly_t {w : Int → Int} {f : Int → Int64} {i : Nat} (h : okL (f (i : Int))) : lyW w f (i + 1) = uI (lyW w f i) (3 + (i : Int)) (f (i : Int)).toInt ∧ lyC f (i + 1) = lyC f i + 1 := ⟨if_pos h, if_pos h⟩
theorem ly_f {w : Int → Int} {f : Int → Int64} {i : Nat} (h : ¬ okL (f (i : Int))) : lyW w f (i + 1) = lyW w f i ∧ lyC f (i + 1) = lyC f i := ⟨if_neg h, if_neg h⟩
noncomputable def mpF (ce : Int → Int64) (k b : Int) (f : Int → Int) : Nat → (Int → Int64)
  | 0 => ce
  | i + 1 => uL (mpF ce k b f i) (40 * k + (i : Int)) (nW b (jL (f (i : Int))))
noncomputable def gsN (w : Int → Int) (q p : Int) : Nat → Int
  | 0 => 0
  | b + 1 => gsN w q p b + (if (jI q >>> (jI (b : Int) &&& 31)) &&& jI 1 = jI 1 then sGv w (b : Int) p else 0)
theorem gsN_s (w : Int → Int) (q p : Int) (b : Nat) : gsN w q p (b + 1) = gsN w q p b + (if (jI q >>> (jI (b : Int) &&& 31)) &&& jI 1 = jI 1 then sGv w (b : Int) p else 0) := rfl
theorem gsN_r {w : Int → Int} (hw : Wf w) (q p : Int) : ∀ n : Nat, n ≤ 10 → 0 ≤ gsN w q p n ∧ gsN w q p n ≤ 297 * n := by
  intro n
  induction n with
  | zero => intro _; exact ⟨Int.le_refl 0, Int.le_refl 0⟩
  | succ n ih =>
    intro hn
    have i := ih (by omega)
    have g := sGv_r hw (b := (n : Int)) (p := p) (by omega) (by omega)
    rw [gsN_s]
    split <;> omega
def jsP (w : Int → Int) (ce : Int → Int64) (k q : Int) (n : Nat) : Prop := ∀ p : Int, 0 ≤ p → p < n → jL (w (3 + p) + gsN w q p (w 1).toNat) = ce (40 * k + p)
theorem js_s {w : Int → Int} {ce : Int → Int64} {k q : Int} {n : Nat} (_ : True) (h : jsP w ce k q n) : jsP w ce k q (n + 1) ↔ jL (w (3 + (n : Int)) + gsN w q (n : Int) (w 1).toNat) = ce (40 * k + (n : Int)) := by
  constructor
  · intro z; exact z (n : Int) (by omega) (by omega)
  · intro z p h0 h1
    by_cases e : p = (n : Int)
    · subst e; exact z
    · exact h p h0 (by omega)
theorem cyF_s (ce : Int → Int64) (x y : Int) (q : Nat) (bw : Int → Int64) (n : Nat) (hq : q < n) : ∀ j : Int, uL (cyF ce x y q) (y + (q : Int)) (cpL (fun z_ => ce (x + z_)) bw n (q : Int)) j = cyF ce x y (q + 1) j := by
  intro j
  by_cases h : j = y + (q : Int)
  · subst h
    rw [uL_s]
    unfold cyF cpL
    rw [if_pos (by omega), if_pos (by omega)]
    congr 1
    omega
  · rw [uL_n _ _ h]
    unfold cyF
    by_cases h2 : y ≤ j ∧ j < y + (q : Int)
    · rw [if_pos h2, if_pos (by omega)]
    · rw [if_neg h2, if_neg (by omega)]
set_option maxHeartbeats 4000000 in
set_option maxRecDepth 100000 in
theorem c_X9_feed (x : Int32) (n : Int) (hw : Wf w) (htn : 0 ≤ tn ∧ tn ≤ 120) (hr : (-2147483648 ≤ n ∧ n ≤ 2147483647)) : Ci l yX9_feed wsX9_feed { frames := 1, cells := 0, slots := 0, locals := 22 } D (jT cI cL cB cS) [.ref (a 0), .int x, .int (jI n)] (wR cI cL a w kp bf ah ik fd sp lt tp tn he ft vl bt lg ce bw) (S := (Int → Int) × Int × (Int → Int)) (fun u => (wR cI cL a w kp bf ah ik u.2.2 sp lt u.1 u.2.1 he ft vl bt lg ce bw)) (fun r u => ((¬ (1 ≤ n ∧ n ≤ 4)) ∧ r = jI (-1000000001) ∧ u.1 = tp ∧ u.2.1 = tn ∧ u.2.2 = uI fd 0 (fd 0 + 1)) ∨ (((1 ≤ n ∧ n ≤ 4) ∧ 120 < tn + n) ∧ r = jI (-1000000002) ∧ u.1 = tp ∧ u.2.1 = tn ∧ u.2.2 = uI fd 1 (fd 1 + 1)) ∨ (((1 ≤ n ∧ n ≤ 4) ∧ tn + n ≤ 120) ∧ r = jI (tn + n) ∧ u.1 = tpF tp tn x n n.toNat ∧ u.2.1 = tn + n ∧ u.2.2 = fd)) := by
  refine Ci.mk (cc := cX9_feed) (maxL := 4) (rt := .int) (by decide) rfl (Nat.le_of_ble_eq_true rfl) rfl ?_
  intro p_ e_ s_ m_ b_ me_ c_ A_ G hnm
  have k_X9 : ∀ w ∈ u_ws RX9 TX9 17, w ∈ wsX9_feed := fun _ h => List.mem_cons_of_mem _ (List.mem_append_right _ h)
  have q_1 : Cond.fieldLink RX9 170 "SupperLightModel" "taped" "I" ∈ wsX9_feed := List.mem_of_getElem? (i := 1) rfl
  have q_2 : Cond.fieldLink RX9 31 "SupperLightModel" "tape" "[I" ∈ wsX9_feed := List.mem_of_getElem? (i := 2) rfl
  refine v_iload_n (j := 2) (x := jI n) G dX9_feed_0 rfl rfl ?_
  refine v_iconst G dX9_feed_1 ?_
  refine v_iconst G dX9_feed_2 ?_
  refine v_ciN G (rn_S (As := [.int (jI n), .int (jI 1), .int (jI 4)]) (rest := []) G (c_X9_in (v := n) (lo := 1) (hi := 4) (hr := (by omega))) gX9_feed_X9_in rfl hdX9_in ⟨rfl, rfl, Nat.le_of_ble_eq_true rfl, Nat.le_of_ble_eq_true rfl⟩ rfl rfl (Nat.le_of_ble_eq_true rfl) ⟨Nat.zero_le _, Nat.zero_le _⟩ dX9_feed_3) (fun r_1 u_3 e_2 => ?_)
  have e_2 : r_1 = jI (b2 (1 ≤ n ∧ n ≤ 4)) := e_2
  subst e_2
  refine v_ifb_ne (P := 1 ≤ n ∧ n ≤ 4) (tgt := 15) G dX9_feed_6 (by decide) (fun c_4 => ?_) (fun c_4 => ?_)
  · skip
    refine v_aload_n (j := 0) (x := a 0) G dX9_feed_15 rfl rfl ?_
    refine v_get (q0 := 0) (k := 9) (v := .int (jI tn)) G k_X9 rfl rfl (by decide) q_1 rfl rfl dX9_feed_16 ?_
    refine v_iload_n (j := 2) (x := jI n) G dX9_feed_19 rfl rfl ?_
    refine v_iadd (z := tn + n) G dX9_feed_20 rfl ?_
    refine v_bipush G dX9_feed_21 (by decide) ?_
    refine v_icmp_le (a := tn + n) (b := 120) (tgt := 32) G dX9_feed_23 (by decide) (by omega) (fun c_5 => ?_) (fun c_5 => ?_)
    · skip
      refine v_iload_n (j := 2) (x := jI n) G dX9_feed_32 rfl rfl ?_
      refine v_iconst G dX9_feed_33 ?_
      refine v_isub (z := n - 1) G dX9_feed_34 rfl ?_
      refine v_istore_n (lv' := [(3, .int (jI (n - 1))), (0, .ref (a 0)), (1, .int x), (2, .int (jI n))]) G dX9_feed_35 rfl (by decide) rfl ?_
      refine v_eqs (lv' := [(3, .int (jI (n - 1 - ((0 : Nat) : Int)))), (0, .ref (a 0)), (1, .int x), (2, .int (jI n))]) (by rw [show n - 1 - ((0 : Nat) : Int) = n - 1 from (by omega)]) rfl rfl ?_
      refine v_world (ws' := (wR cI cL a w kp bf ah ik fd sp lt tp (tn + ((0 : Nat) : Int)) he ft vl bt lg ce bw)) (by rw [show tn + ((0 : Nat) : Int) = tn by omega]) ?_
      refine v_locs (lv' := [(3, .int (jI (n - 1 - ((0 : Nat) : Int)))), (0, .ref (a 0)), (1, .int x), (2, .int (jI n))]) [0, 1, 2, 3] rfl ?_
      refine v_loop1 (fun (j : Nat) => [(3, .int (jI (n - 1 - (j : Int)))), (0, .ref (a 0)), (1, .int x), (2, .int (jI n))]) (fun (j : Nat) => (wR cI cL a w kp bf ah ik fd sp lt (tpF tp tn x n j) (tn + (j : Int)) he ft vl bt lg ce bw)) (fun (j : Nat) => (j : Int) ≤ n) (fun (j : Nat) => n.toNat - j) 0 (by omega) rfl rfl ?_
      intro j I_6 ih_7
      refine v_iload_n (j := 0) (x := jI (n - 1 - (j : Int))) G dX9_feed_36 rfl rfl ?_
      refine v_if_lt (a := n - 1 - (j : Int)) (tgt := 75) G dX9_feed_37 (by decide) (by omega) (fun c_8 => ?_) (fun c_8 => ?_)
      · skip
        obtain rfl : j = n.toNat := by omega
        refine v_world (ws' := (wR cI cL a w kp bf ah ik fd sp lt (tpF tp tn x n n.toNat) (tn + n) he ft vl bt lg ce bw)) (by rw [show tn + (n.toNat : Int) = tn + n by omega]) ?_
        refine v_aload_n (j := 1) (x := a 0) G dX9_feed_75 rfl rfl ?_
        refine v_get (q0 := 0) (k := 9) (v := .int (jI (tn + n))) G k_X9 rfl rfl (by decide) q_1 rfl rfl dX9_feed_76 ?_
        exact v_iret G (tpF tp tn x n n.toNat, tn + n, fd) (by first | exact Or.inl ⟨(by omega), (by first | rfl | exact congrArg jI (by omega)), rfl, rfl, rfl⟩ | exact Or.inr (Or.inl ⟨(by omega), (by first | rfl | exact congrArg jI (by omega)), rfl, rfl, rfl⟩) | exact Or.inr (Or.inr ⟨(by omega), (by first | rfl | exact congrArg jI (by omega)), rfl, rfl, rfl⟩)) rfl dX9_feed_79
      · skip
        refine v_aload_n (j := 1) (x := a 0) G dX9_feed_40 rfl rfl ?_
        refine v_get (q0 := 0) (k := 8) (v := .ref (a 8)) G k_X9 rfl rfl (by decide) q_2 rfl rfl dX9_feed_41 ?_
        refine v_aload_n (j := 1) (x := a 0) G dX9_feed_44 rfl rfl ?_
        refine v_get (q0 := 0) (k := 9) (v := .int (jI (tn + (j : Int)))) G k_X9 rfl rfl (by decide) q_1 rfl rfl dX9_feed_45 ?_
        refine v_iload_n (j := 2) (x := x) G dX9_feed_48 rfl rfl ?_
        refine v_bipush G dX9_feed_49 (by decide) ?_
        refine v_iload_n (j := 0) (x := jI (n - 1 - (j : Int))) G dX9_feed_51 rfl rfl ?_
        refine v_imul (z := 8 * (n - 1 - (j : Int))) G dX9_feed_52 rfl ?_
        refine v_ishr (v := x >>> ((jI (8 * (n - 1 - (j : Int)))) &&& 31)) G dX9_feed_53 rfl ?_
        refine v_sipush G dX9_feed_54 (by decide) ?_
        refine v_iand (v := (x >>> ((jI (8 * (n - 1 - (j : Int)))) &&& 31)) &&& (jI 255)) G dX9_feed_57 rfl ?_
        refine v_top (x := (x >>> ((jI (8 * (n - 1 - (j : Int)))) &&& 31)) &&& (jI 255)) (y := jI (byt x (n - 1 - (j : Int)))) (Int32.ofInt_toInt _).symm ?_
        refine v_iast (q0 := 8) (t0 := 0) (g := tpF tp tn x n j) (z := tn + (j : Int)) (x := byt x (n - 1 - (j : Int))) (ws' := (wR cI cL a w kp bf ah ik fd sp lt (uI (tpF tp tn x n j) (tn + (j : Int)) (byt x (n - 1 - (j : Int)))) (tn + (j : Int)) he ft vl bt lg ce bw)) G rfl rfl (by omega) rfl dX9_feed_58 ?_
        refine v_aload_n (j := 1) (x := a 0) G dX9_feed_59 rfl rfl ?_
        refine v_dup G dX9_feed_60 rfl ?_
        refine v_get (q0 := 0) (k := 9) (v := .int (jI (tn + (j : Int)))) G k_X9 rfl rfl (by decide) q_1 rfl rfl dX9_feed_61 ?_
        refine v_iconst G dX9_feed_64 ?_
        refine v_iadd (z := (tn + (j : Int)) + 1) G dX9_feed_65 rfl ?_
        refine v_put (q0 := 0) (k := 9) (ty := .int) (ws' := (wR cI cL a w kp bf ah ik fd sp lt (uI (tpF tp tn x n j) (tn + (j : Int)) (byt x (n - 1 - (j : Int)))) ((tn + (j : Int)) + 1) he ft vl bt lg ce bw)) G k_X9 tyX9 tyX9_ok nmX9 rfl rfl (by decide) q_1 rfl rfl rfl rfl rfl (Nat.le_of_ble_eq_true rfl) rfl dX9_feed_66 ?_
        refine v_world (ws' := (wR cI cL a w kp bf ah ik fd sp lt (tpF tp tn x n (j + 1)) (tn + ((j + 1 : Nat) : Int)) he ft vl bt lg ce bw)) (by rw [show tn + ((j + 1 : Nat) : Int) = tn + (j : Int) + 1 by omega]; rfl) ?_
        refine v_iinc (k := 0) (z := n - 1 - (j : Int)) (z' := n - 1 - ((j + 1 : Nat) : Int)) (lv' := [(3, .int (jI (n - 1 - ((j + 1 : Nat) : Int)))), (0, .ref (a 0)), (1, .int x), (2, .int (jI n))]) G dX9_feed_69 rfl (by omega) (by decide) rfl ?_
        refine v_goto (tgt := 36) G dX9_feed_72 (by decide) ?_
        exact ih_7 (j + 1) (by omega) (by omega)
    · skip
      refine v_aload_n (j := 0) (x := a 0) G dX9_feed_26 rfl rfl ?_
      refine v_iconst G dX9_feed_27 ?_
      refine v_ciF G (rn_V (As := [.int (jI 1)]) (rest := []) (q0 := 0) G (c_X9_no (k := 1) (w := w) (kp := kp) (bf := bf) (ah := ah) (ik := ik) (fd := fd) (sp := sp) (lt := lt) (tp := tp) (tn := tn) (he := he) (ft := ft) (vl := vl) (bt := bt) (lg := lg) (ce := ce) (bw := bw) (a := a) (hk := (by omega))) gX9_feed_X9_no rfl hdX9_no ⟨rfl, rfl, Nat.le_of_ble_eq_true rfl, Nat.le_of_ble_eq_true rfl⟩ rfl rfl (Nat.le_of_ble_eq_true rfl) ⟨Nat.zero_le _, Nat.zero_le _⟩ rfl rfl dX9_feed_28) (fun r_9 u_11 e_10 => ?_)
      have e_10 : r_9 = jI ((-1000000001) - 1) := e_10
      subst e_10
      refine v_world (ws' := (wR cI cL a w kp bf ah ik (uI fd 1 (fd 1 + 1)) sp lt tp tn he ft vl bt lg ce bw)) rfl ?_
      exact v_iret G (tp, tn, uI fd 1 (fd 1 + 1)) (by first | exact Or.inl ⟨(by omega), (by first | rfl | exact congrArg jI (by omega)), rfl, rfl, rfl⟩ | exact Or.inr (Or.inl ⟨(by omega), (by first | rfl | exact congrArg jI (by omega)), rfl, rfl, rfl⟩) | exact Or.inr (Or.inr ⟨(by omega), (by first | rfl | exact congrArg jI (by omega)), rfl, rfl, rfl⟩)) rfl dX9_feed_31
  · skip
    refine v_aload_n (j := 0) (x := a 0) G dX9_feed_9 rfl rfl ?_
    refine v_iconst G dX9_feed_10 ?_
    refine v_ciF G (rn_V (As := [.int (jI 0)]) (rest := []) (q0 := 0) G (c_X9_no (k := 0) (w := w) (kp := kp) (bf := bf) (ah := ah) (ik := ik) (fd := fd) (sp := sp) (lt := lt) (tp := tp) (tn := tn) (he := he) (ft := ft) (vl := vl) (bt := bt) (lg := lg) (ce := ce) (bw := bw) (a := a) (hk := (by omega))) gX9_feed_X9_no rfl hdX9_no ⟨rfl, rfl, Nat.le_of_ble_eq_true rfl, Nat.le_of_ble_eq_true rfl⟩ rfl rfl (Nat.le_of_ble_eq_true rfl) ⟨Nat.zero_le _, Nat.zero_le _⟩ rfl rfl dX9_feed_11) (fun r_12 u_14 e_13 => ?_)
    have e_13 : r_12 = jI ((-1000000001) - 0) := e_13
    subst e_13
    refine v_world (ws' := (wR cI cL a w kp bf ah ik (uI fd 0 (fd 0 + 1)) sp lt tp tn he ft vl bt lg ce bw)) rfl ?_
    exact v_iret G (tp, tn, uI fd 0 (fd 0 + 1)) (by first | exact Or.inl ⟨(by omega), (by first | rfl | exact congrArg jI (by omega)), rfl, rfl, rfl⟩ | exact Or.inr (Or.inl ⟨(by omega), (by first | rfl | exact congrArg jI (by omega)), rfl, rfl, rfl⟩) | exact Or.inr (Or.inr ⟨(by omega), (by first | rfl | exact congrArg jI (by omega)), rfl, rfl, rfl⟩)) rfl dX9_feed_14

set_option maxHeartbeats 4000000 in
set_option maxRecDepth 100000 in
theorem c_X9_wipe  (hw : Wf w) : Ci l yX9_wipe wsX9_wipe { frames := 0, cells := 0, slots := 0, locals := 0 } D (jT cI cL cB cS) [.ref (a 0)] (wR cI cL a w kp bf ah ik fd sp lt tp tn he ft vl bt lg ce bw) (S := Int) (fun tn2 => (wR cI cL a w kp bf ah ik fd sp lt tp tn2 he ft vl bt lg ce bw)) (fun r tn2 => ((True) ∧ r = jI tn ∧ tn2 = 0)) := by
  refine Ci.mk (cc := cX9_wipe) (maxL := 2) (rt := .int) (by decide) rfl (Nat.le_of_ble_eq_true rfl) rfl ?_
  intro p_ e_ s_ m_ b_ me_ c_ A_ G hnm
  have k_X9 : ∀ w ∈ u_ws RX9 TX9 17, w ∈ wsX9_wipe := fun _ h => List.mem_cons_of_mem _ (List.mem_append_right _ h)
  have q_1 : Cond.fieldLink RX9 170 "SupperLightModel" "taped" "I" ∈ wsX9_wipe := List.mem_of_getElem? (i := 1) rfl
  refine v_aload_n (j := 0) (x := a 0) G dX9_wipe_0 rfl rfl ?_
  refine v_get (q0 := 0) (k := 9) (v := .int (jI tn)) G k_X9 rfl rfl (by decide) q_1 rfl rfl dX9_wipe_1 ?_
  refine v_istore_n (lv' := [(1, .int (jI tn)), (0, .ref (a 0))]) G dX9_wipe_4 rfl (by decide) rfl ?_
  refine v_aload_n (j := 1) (x := a 0) G dX9_wipe_5 rfl rfl ?_
  refine v_iconst G dX9_wipe_6 ?_
  refine v_put (q0 := 0) (k := 9) (ty := .int) (ws' := (wR cI cL a w kp bf ah ik fd sp lt tp 0 he ft vl bt lg ce bw)) G k_X9 tyX9 tyX9_ok nmX9 rfl rfl (by decide) q_1 rfl rfl rfl rfl rfl (Nat.le_of_ble_eq_true rfl) rfl dX9_wipe_7 ?_
  refine v_iload_n (j := 0) (x := jI tn) G dX9_wipe_10 rfl rfl ?_
  exact v_iret G (0) (by first | exact ⟨(by trivial), (by first | rfl | exact congrArg jI (by omega)), rfl⟩) rfl dX9_wipe_11

set_option maxHeartbeats 4000000 in
set_option maxRecDepth 100000 in
theorem c_X9_isSheet (k : Int) (hr : (-2147483648 ≤ k ∧ k ≤ 2147483647)) : Ci l yX9_isSheet wsX9_isSheet { frames := 1, cells := 0, slots := 0, locals := 22 } D (jT cI cL cB cS) [.int (jI k)] [] (S := Unit) (fun _ => []) (fun r _ => r = jI (b2 (0 ≤ k ∧ k ≤ 3))) := by
  refine Ci.mk (cc := cX9_isSheet) (maxL := 1) (rt := .boolean) (by decide) rfl (Nat.le_of_ble_eq_true rfl) rfl ?_
  intro p_ e_ s_ m_ b_ me_ c_ A_ G hnm
  refine v_iload_n (j := 0) (x := jI k) G dX9_isSheet_0 rfl rfl ?_
  refine v_iconst G dX9_isSheet_1 ?_
  refine v_iconst G dX9_isSheet_2 ?_
  refine v_ciF G (rn_S (As := [.int (jI k), .int (jI 0), .int (jI 3)]) (rest := []) G (c_X9_in (v := k) (lo := 0) (hi := 3) (hr := (by omega))) gX9_isSheet_X9_in rfl hdX9_in ⟨rfl, rfl, Nat.le_of_ble_eq_true rfl, Nat.le_of_ble_eq_true rfl⟩ rfl rfl (Nat.le_of_ble_eq_true rfl) ⟨Nat.zero_le _, Nat.zero_le _⟩ dX9_isSheet_3) (fun r_1 u_3 e_2 => ?_)
  have e_2 : r_1 = jI (b2 (0 ≤ k ∧ k ≤ 3)) := e_2
  subst e_2
  exact v_zret G () (nb_b2 _) rfl rfl dX9_isSheet_6

set_option maxHeartbeats 4000000 in
set_option maxRecDepth 100000 in
theorem c_X9_sheet (k b n : Int) (hw : Wf w) (hs : ∀ k_ : Int, 0 ≤ k_ → k_ < 4 → (bt k_ = 0 ∨ bt k_ = 8 ∨ bt k_ = 16 ∨ bt k_ = 64) ∧ 0 ≤ lg k_ ∧ lg k_ ≤ 40) (hr : (-2147483648 ≤ k ∧ k ≤ 2147483647) ∧ (-2147483648 ≤ b ∧ b ≤ 2147483647) ∧ (-2147483648 ≤ n ∧ n ≤ 2147483647)) : Ci l yX9_sheet wsX9_sheet { frames := 2, cells := 0, slots := 0, locals := 42 } D (jT cI cL cB cS) [.ref (a 0), .int (jI k), .int (jI b), .int (jI n)] (wR cI cL a w kp bf ah ik fd sp lt tp tn he ft vl bt lg ce bw) (S := (Int → Int) × (Int → Int) × (Int → Int) × (Int → Int64)) (fun u => (wR cI cL a w kp bf ah ik u.1 sp lt tp tn he ft vl u.2.1 u.2.2.1 u.2.2.2 bw)) (fun r u => ((¬ ((0 ≤ k ∧ k ≤ 3) ∧ (b = 0 ∨ b = 8 ∨ b = 16 ∨ b = 64))) ∧ r = jI (-1000000001) ∧ u.1 = uI fd 0 (fd 0 + 1) ∧ u.2.1 = bt ∧ u.2.2.1 = lg ∧ u.2.2.2 = ce) ∨ ((((0 ≤ k ∧ k ≤ 3) ∧ (b = 0 ∨ b = 8 ∨ b = 16 ∨ b = 64)) ∧ n < 0) ∧ r = jI (-1000000007) ∧ u.1 = uI fd 6 (fd 6 + 1) ∧ u.2.1 = bt ∧ u.2.2.1 = lg ∧ u.2.2.2 = ce) ∨ ((((0 ≤ k ∧ k ≤ 3) ∧ (b = 0 ∨ b = 8 ∨ b = 16 ∨ b = 64)) ∧ 40 < n) ∧ r = jI (-1000000001) ∧ u.1 = uI fd 0 (fd 0 + 1) ∧ u.2.1 = bt ∧ u.2.2.1 = lg ∧ u.2.2.2 = ce) ∨ ((((0 ≤ k ∧ k ≤ 3) ∧ (b = 0 ∨ b = 8 ∨ b = 16 ∨ b = 64)) ∧ 0 ≤ n ∧ n ≤ 40) ∧ r = jI (if b = 0 then 0 else n) ∧ u.1 = fd ∧ u.2.1 = uI bt k b ∧ u.2.2.1 = uI lg k (if b = 0 then 0 else n) ∧ u.2.2.2 = czF ce k 40)) := by
  refine Ci.mk (cc := cX9_sheet) (maxL := 5) (rt := .int) (by decide) rfl (Nat.le_of_ble_eq_true rfl) rfl ?_
  intro p_ e_ s_ m_ b_ me_ c_ A_ G hnm
  have k_X9 : ∀ w ∈ u_ws RX9 TX9 17, w ∈ wsX9_sheet := fun _ h => List.mem_cons_of_mem _ (List.mem_append_right _ h)
  have q_1 : Cond.fieldLink RX9 34 "SupperLightModel" "bits" "[I" ∈ wsX9_sheet := List.mem_of_getElem? (i := 1) rfl
  have q_2 : Cond.fieldLink RX9 37 "SupperLightModel" "longs" "[I" ∈ wsX9_sheet := List.mem_of_getElem? (i := 2) rfl
  have q_3 : Cond.fieldLink RX9 40 "SupperLightModel" "cells" "[J" ∈ wsX9_sheet := List.mem_of_getElem? (i := 3) rfl
  refine v_iload_n (j := 1) (x := jI k) G dX9_sheet_0 rfl rfl ?_
  refine v_ciN G (rn_S (As := [.int (jI k)]) (rest := []) G (c_X9_isSheet (k := k) (hr := (by omega))) gX9_sheet_X9_isSheet rfl hdX9_isSheet ⟨rfl, rfl, Nat.le_of_ble_eq_true rfl, Nat.le_of_ble_eq_true rfl⟩ rfl rfl (Nat.le_of_ble_eq_true rfl) ⟨Nat.zero_le _, Nat.zero_le _⟩ dX9_sheet_1) (fun r_1 u_3 e_2 => ?_)
  have e_2 : r_1 = jI (b2 (0 ≤ k ∧ k ≤ 3)) := e_2
  subst e_2
  refine v_ifb_eq (P := 0 ≤ k ∧ k ≤ 3) (tgt := 29) G dX9_sheet_4 (by decide) (fun c_4 => ?_) (fun c_4 => ?_)
  · skip
    refine v_aload_n (j := 0) (x := a 0) G dX9_sheet_29 rfl rfl ?_
    refine v_iconst G dX9_sheet_30 ?_
    refine v_ciF G (rn_V (As := [.int (jI 0)]) (rest := []) (q0 := 0) G (c_X9_no (k := 0) (w := w) (kp := kp) (bf := bf) (ah := ah) (ik := ik) (fd := fd) (sp := sp) (lt := lt) (tp := tp) (tn := tn) (he := he) (ft := ft) (vl := vl) (bt := bt) (lg := lg) (ce := ce) (bw := bw) (a := a) (hk := (by omega))) gX9_sheet_X9_no rfl hdX9_no ⟨rfl, rfl, Nat.le_of_ble_eq_true rfl, Nat.le_of_ble_eq_true rfl⟩ rfl rfl (Nat.le_of_ble_eq_true rfl) ⟨Nat.zero_le _, Nat.zero_le _⟩ rfl rfl dX9_sheet_31) (fun r_5 u_7 e_6 => ?_)
    have e_6 : r_5 = jI ((-1000000001) - 0) := e_6
    subst e_6
    refine v_world (ws' := (wR cI cL a w kp bf ah ik (uI fd 0 (fd 0 + 1)) sp lt tp tn he ft vl bt lg ce bw)) rfl ?_
    exact v_iret G (uI fd 0 (fd 0 + 1), bt, lg, ce) (by first | exact Or.inl ⟨(by omega), (by first | rfl | exact congrArg jI (by omega)), rfl, rfl, rfl, rfl⟩ | exact Or.inr (Or.inl ⟨(by omega), (by first | rfl | exact congrArg jI (by omega)), rfl, rfl, rfl, rfl⟩) | exact Or.inr (Or.inr (Or.inl ⟨(by omega), (by first | rfl | exact congrArg jI (by omega)), rfl, rfl, rfl, rfl⟩)) | exact Or.inr (Or.inr (Or.inr ⟨(by omega), (by first | rfl | exact congrArg jI (by omega)), rfl, rfl, rfl, rfl⟩))) rfl dX9_sheet_34
  · skip
    refine v_iload_n (j := 2) (x := jI b) G dX9_sheet_7 rfl rfl ?_
    refine v_if_eq (a := b) (tgt := 35) G dX9_sheet_8 (by decide) (by omega) (fun c_8 => ?_) (fun c_8 => ?_)
    · skip
      refine v_iload_n (j := 3) (x := jI n) G dX9_sheet_35 rfl rfl ?_
      refine v_if_ge (a := n) (tgt := 46) G dX9_sheet_36 (by decide) (by omega) (fun c_9 => ?_) (fun c_9 => ?_)
      · skip
        refine v_iload_n (j := 3) (x := jI n) G dX9_sheet_46 rfl rfl ?_
        refine v_bipush G dX9_sheet_47 (by decide) ?_
        refine v_icmp_le (a := n) (b := 40) (tgt := 58) G dX9_sheet_49 (by decide) (by omega) (fun c_10 => ?_) (fun c_10 => ?_)
        · skip
          refine v_aload_n (j := 0) (x := a 0) G dX9_sheet_58 rfl rfl ?_
          refine v_get (q0 := 0) (k := 13) (v := .ref (a 9)) G k_X9 rfl rfl (by decide) q_1 rfl rfl dX9_sheet_59 ?_
          refine v_iload_n (j := 1) (x := jI k) G dX9_sheet_62 rfl rfl ?_
          refine v_iload_n (j := 2) (x := jI b) G dX9_sheet_63 rfl rfl ?_
          refine v_iast (q0 := 9) (t0 := 0) (g := bt) (z := k) (x := b) (ws' := (wR cI cL a w kp bf ah ik fd sp lt tp tn he ft vl (uI bt k b) lg ce bw)) G rfl rfl (by omega) rfl dX9_sheet_64 ?_
          refine v_aload_n (j := 0) (x := a 0) G dX9_sheet_65 rfl rfl ?_
          refine v_get (q0 := 0) (k := 14) (v := .ref (a 10)) G k_X9 rfl rfl (by decide) q_2 rfl rfl dX9_sheet_66 ?_
          refine v_iload_n (j := 1) (x := jI k) G dX9_sheet_69 rfl rfl ?_
          refine v_iload_n (j := 2) (x := jI b) G dX9_sheet_70 rfl rfl ?_
          refine v_cut (pc' := 79) (lv' := [(0, .ref (a 0)), (1, .int (jI k)), (2, .int (jI b)), (3, .int (jI n))]) (st' := [.int (jI (if b = 0 then 0 else n)), .int (jI k), .ref (a 10)]) (ws' := (wR cI cL a w kp bf ah ik fd sp lt tp tn he ft vl (uI bt k b) lg ce bw)) ?_ (fun J_11 => ?_)
          · skip
            refine v_iast (q0 := 10) (t0 := 0) (g := lg) (z := k) (x := if b = 0 then 0 else n) (ws' := (wR cI cL a w kp bf ah ik fd sp lt tp tn he ft vl (uI bt k b) (uI lg k (if b = 0 then 0 else n)) ce bw)) G rfl rfl (by omega) rfl dX9_sheet_79 ?_
            refine v_iconst G dX9_sheet_80 ?_
            refine v_istore (lv' := [(4, .int (jI 0)), (0, .ref (a 0)), (1, .int (jI k)), (2, .int (jI b)), (3, .int (jI n))]) G dX9_sheet_81 (by decide) rfl ?_
            refine v_world (ws' := (wR cI cL a w kp bf ah ik fd sp lt tp tn he ft vl (uI bt k b) (uI lg k (if b = 0 then 0 else n)) (czF ce k 0) bw)) rfl ?_
            refine v_locs (lv' := [(4, .int (jI 0)), (0, .ref (a 0)), (1, .int (jI k)), (2, .int (jI b)), (3, .int (jI n))]) [0, 1, 2, 3, 4] rfl ?_
            refine v_loop1 (fun (j : Nat) => [(4, .int (jI (j : Int))), (0, .ref (a 0)), (1, .int (jI k)), (2, .int (jI b)), (3, .int (jI n))]) (fun (j : Nat) => (wR cI cL a w kp bf ah ik fd sp lt tp tn he ft vl (uI bt k b) (uI lg k (if b = 0 then 0 else n)) (czF ce k j) bw)) (fun (j : Nat) => (j : Int) ≤ 40) (fun (j : Nat) => 40 - j) 0 (by decide) rfl rfl ?_
            intro j I_12 ih_13
            refine v_iload (j := 0) (x := jI (j : Int)) G dX9_sheet_83 rfl ?_
            refine v_bipush G dX9_sheet_85 (by decide) ?_
            refine v_icmp_ge (a := (j : Int)) (b := 40) (tgt := 109) G dX9_sheet_87 (by decide) (by omega) (fun c_14 => ?_) (fun c_14 => ?_)
            · skip
              obtain rfl : j = 40 := by omega
              refine v_aload_n (j := 1) (x := a 0) G dX9_sheet_109 rfl rfl ?_
              refine v_get (q0 := 0) (k := 14) (v := .ref (a 10)) G k_X9 rfl rfl (by decide) q_2 rfl rfl dX9_sheet_110 ?_
              refine v_iload_n (j := 2) (x := jI k) G dX9_sheet_113 rfl rfl ?_
              refine v_iald (q0 := 10) (t0 := 0) (g := uI lg k (if b = 0 then 0 else n)) (z := k) G rfl rfl (by omega) dX9_sheet_114 ?_
              refine v_topj (x := (uI lg k (if b = 0 then 0 else n)) k) (y := if b = 0 then 0 else n) (uI_s _ _ _) ?_
              exact v_iret G (fd, uI bt k b, uI lg k (if b = 0 then 0 else n), czF ce k 40) (by first | exact Or.inl ⟨(by omega), (by first | rfl | exact congrArg jI (by omega)), rfl, rfl, rfl, rfl⟩ | exact Or.inr (Or.inl ⟨(by omega), (by first | rfl | exact congrArg jI (by omega)), rfl, rfl, rfl, rfl⟩) | exact Or.inr (Or.inr (Or.inl ⟨(by omega), (by first | rfl | exact congrArg jI (by omega)), rfl, rfl, rfl, rfl⟩)) | exact Or.inr (Or.inr (Or.inr ⟨(by omega), (by first | rfl | exact congrArg jI (by omega)), rfl, rfl, rfl, rfl⟩))) rfl dX9_sheet_115
            · skip
              refine v_aload_n (j := 1) (x := a 0) G dX9_sheet_90 rfl rfl ?_
              refine v_get (q0 := 0) (k := 15) (v := .ref (a 11)) G k_X9 rfl rfl (by decide) q_3 rfl rfl dX9_sheet_91 ?_
              refine v_bipush G dX9_sheet_94 (by decide) ?_
              refine v_iload_n (j := 2) (x := jI k) G dX9_sheet_96 rfl rfl ?_
              refine v_imul (z := 40 * k) G dX9_sheet_97 rfl ?_
              refine v_iload (j := 0) (x := jI (j : Int)) G dX9_sheet_98 rfl ?_
              refine v_iadd (z := (40 * k) + (j : Int)) G dX9_sheet_100 rfl ?_
              refine v_lconst (z := 0) G dX9_sheet_101 (by decide) ?_
              refine v_last (q0 := 11) (t0 := 1) (g := czF ce k j) (z := (40 * k) + (j : Int)) (x := jL 0) (ws' := (wR cI cL a w kp bf ah ik fd sp lt tp tn he ft vl (uI bt k b) (uI lg k (if b = 0 then 0 else n)) (uL (czF ce k j) ((40 * k) + (j : Int)) (jL 0)) bw)) G rfl rfl (by omega) rfl dX9_sheet_102 ?_
              refine v_world (ws' := (wR cI cL a w kp bf ah ik fd sp lt tp tn he ft vl (uI bt k b) (uI lg k (if b = 0 then 0 else n)) (czF ce k (j + 1)) bw)) rfl ?_
              refine v_iinc (k := 0) (z := (j : Int)) (z' := ((j + 1 : Nat) : Int)) (lv' := [(4, .int (jI ((j + 1 : Nat) : Int))), (0, .ref (a 0)), (1, .int (jI k)), (2, .int (jI b)), (3, .int (jI n))]) G dX9_sheet_103 rfl (by omega) (by decide) rfl ?_
              refine v_goto (tgt := 83) G dX9_sheet_106 (by decide) ?_
              exact ih_13 (j + 1) (by omega) (by omega)
          · skip
            refine v_if_ne (a := b) (tgt := 78) G dX9_sheet_71 (by decide) (by omega) (fun c_15 => ?_) (fun c_15 => ?_)
            · skip
              refine v_iload_n (j := 3) (x := jI n) G dX9_sheet_78 rfl rfl ?_
              refine v_topj (x := n) (y := if b = 0 then 0 else n) (by split <;> omega) ?_
              exact J_11
            · skip
              refine v_iconst G dX9_sheet_74 ?_
              refine v_goto (tgt := 79) G dX9_sheet_75 (by decide) ?_
              refine v_topj (x := 0) (y := if b = 0 then 0 else n) (by split <;> omega) ?_
              exact J_11
        · skip
          refine v_aload_n (j := 0) (x := a 0) G dX9_sheet_52 rfl rfl ?_
          refine v_iconst G dX9_sheet_53 ?_
          refine v_ciF G (rn_V (As := [.int (jI 0)]) (rest := []) (q0 := 0) G (c_X9_no (k := 0) (w := w) (kp := kp) (bf := bf) (ah := ah) (ik := ik) (fd := fd) (sp := sp) (lt := lt) (tp := tp) (tn := tn) (he := he) (ft := ft) (vl := vl) (bt := bt) (lg := lg) (ce := ce) (bw := bw) (a := a) (hk := (by omega))) gX9_sheet_X9_no rfl hdX9_no ⟨rfl, rfl, Nat.le_of_ble_eq_true rfl, Nat.le_of_ble_eq_true rfl⟩ rfl rfl (Nat.le_of_ble_eq_true rfl) ⟨Nat.zero_le _, Nat.zero_le _⟩ rfl rfl dX9_sheet_54) (fun r_16 u_18 e_17 => ?_)
          have e_17 : r_16 = jI ((-1000000001) - 0) := e_17
          subst e_17
          refine v_world (ws' := (wR cI cL a w kp bf ah ik (uI fd 0 (fd 0 + 1)) sp lt tp tn he ft vl bt lg ce bw)) rfl ?_
          exact v_iret G (uI fd 0 (fd 0 + 1), bt, lg, ce) (by first | exact Or.inl ⟨(by omega), (by first | rfl | exact congrArg jI (by omega)), rfl, rfl, rfl, rfl⟩ | exact Or.inr (Or.inl ⟨(by omega), (by first | rfl | exact congrArg jI (by omega)), rfl, rfl, rfl, rfl⟩) | exact Or.inr (Or.inr (Or.inl ⟨(by omega), (by first | rfl | exact congrArg jI (by omega)), rfl, rfl, rfl, rfl⟩)) | exact Or.inr (Or.inr (Or.inr ⟨(by omega), (by first | rfl | exact congrArg jI (by omega)), rfl, rfl, rfl, rfl⟩))) rfl dX9_sheet_57
      · skip
        refine v_aload_n (j := 0) (x := a 0) G dX9_sheet_39 rfl rfl ?_
        refine v_bipush G dX9_sheet_40 (by decide) ?_
        refine v_ciF G (rn_V (As := [.int (jI 6)]) (rest := []) (q0 := 0) G (c_X9_no (k := 6) (w := w) (kp := kp) (bf := bf) (ah := ah) (ik := ik) (fd := fd) (sp := sp) (lt := lt) (tp := tp) (tn := tn) (he := he) (ft := ft) (vl := vl) (bt := bt) (lg := lg) (ce := ce) (bw := bw) (a := a) (hk := (by omega))) gX9_sheet_X9_no rfl hdX9_no ⟨rfl, rfl, Nat.le_of_ble_eq_true rfl, Nat.le_of_ble_eq_true rfl⟩ rfl rfl (Nat.le_of_ble_eq_true rfl) ⟨Nat.zero_le _, Nat.zero_le _⟩ rfl rfl dX9_sheet_42) (fun r_19 u_21 e_20 => ?_)
        have e_20 : r_19 = jI ((-1000000001) - 6) := e_20
        subst e_20
        refine v_world (ws' := (wR cI cL a w kp bf ah ik (uI fd 6 (fd 6 + 1)) sp lt tp tn he ft vl bt lg ce bw)) rfl ?_
        exact v_iret G (uI fd 6 (fd 6 + 1), bt, lg, ce) (by first | exact Or.inl ⟨(by omega), (by first | rfl | exact congrArg jI (by omega)), rfl, rfl, rfl, rfl⟩ | exact Or.inr (Or.inl ⟨(by omega), (by first | rfl | exact congrArg jI (by omega)), rfl, rfl, rfl, rfl⟩) | exact Or.inr (Or.inr (Or.inl ⟨(by omega), (by first | rfl | exact congrArg jI (by omega)), rfl, rfl, rfl, rfl⟩)) | exact Or.inr (Or.inr (Or.inr ⟨(by omega), (by first | rfl | exact congrArg jI (by omega)), rfl, rfl, rfl, rfl⟩))) rfl dX9_sheet_45
    · skip
      refine v_iload_n (j := 2) (x := jI b) G dX9_sheet_11 rfl rfl ?_
      refine v_bipush G dX9_sheet_12 (by decide) ?_
      refine v_icmp_eq (a := b) (b := 8) (tgt := 35) G dX9_sheet_14 (by decide) (by omega) (fun c_22 => ?_) (fun c_22 => ?_)
      · skip
        refine v_iload_n (j := 3) (x := jI n) G dX9_sheet_35 rfl rfl ?_
        refine v_if_ge (a := n) (tgt := 46) G dX9_sheet_36 (by decide) (by omega) (fun c_23 => ?_) (fun c_23 => ?_)
        · skip
          refine v_iload_n (j := 3) (x := jI n) G dX9_sheet_46 rfl rfl ?_
          refine v_bipush G dX9_sheet_47 (by decide) ?_
          refine v_icmp_le (a := n) (b := 40) (tgt := 58) G dX9_sheet_49 (by decide) (by omega) (fun c_24 => ?_) (fun c_24 => ?_)
          · skip
            refine v_aload_n (j := 0) (x := a 0) G dX9_sheet_58 rfl rfl ?_
            refine v_get (q0 := 0) (k := 13) (v := .ref (a 9)) G k_X9 rfl rfl (by decide) q_1 rfl rfl dX9_sheet_59 ?_
            refine v_iload_n (j := 1) (x := jI k) G dX9_sheet_62 rfl rfl ?_
            refine v_iload_n (j := 2) (x := jI b) G dX9_sheet_63 rfl rfl ?_
            refine v_iast (q0 := 9) (t0 := 0) (g := bt) (z := k) (x := b) (ws' := (wR cI cL a w kp bf ah ik fd sp lt tp tn he ft vl (uI bt k b) lg ce bw)) G rfl rfl (by omega) rfl dX9_sheet_64 ?_
            refine v_aload_n (j := 0) (x := a 0) G dX9_sheet_65 rfl rfl ?_
            refine v_get (q0 := 0) (k := 14) (v := .ref (a 10)) G k_X9 rfl rfl (by decide) q_2 rfl rfl dX9_sheet_66 ?_
            refine v_iload_n (j := 1) (x := jI k) G dX9_sheet_69 rfl rfl ?_
            refine v_iload_n (j := 2) (x := jI b) G dX9_sheet_70 rfl rfl ?_
            refine v_cut (pc' := 79) (lv' := [(0, .ref (a 0)), (1, .int (jI k)), (2, .int (jI b)), (3, .int (jI n))]) (st' := [.int (jI (if b = 0 then 0 else n)), .int (jI k), .ref (a 10)]) (ws' := (wR cI cL a w kp bf ah ik fd sp lt tp tn he ft vl (uI bt k b) lg ce bw)) ?_ (fun J_25 => ?_)
            · skip
              refine v_iast (q0 := 10) (t0 := 0) (g := lg) (z := k) (x := if b = 0 then 0 else n) (ws' := (wR cI cL a w kp bf ah ik fd sp lt tp tn he ft vl (uI bt k b) (uI lg k (if b = 0 then 0 else n)) ce bw)) G rfl rfl (by omega) rfl dX9_sheet_79 ?_
              refine v_iconst G dX9_sheet_80 ?_
              refine v_istore (lv' := [(4, .int (jI 0)), (0, .ref (a 0)), (1, .int (jI k)), (2, .int (jI b)), (3, .int (jI n))]) G dX9_sheet_81 (by decide) rfl ?_
              refine v_world (ws' := (wR cI cL a w kp bf ah ik fd sp lt tp tn he ft vl (uI bt k b) (uI lg k (if b = 0 then 0 else n)) (czF ce k 0) bw)) rfl ?_
              refine v_locs (lv' := [(4, .int (jI 0)), (0, .ref (a 0)), (1, .int (jI k)), (2, .int (jI b)), (3, .int (jI n))]) [0, 1, 2, 3, 4] rfl ?_
              refine v_loop1 (fun (j : Nat) => [(4, .int (jI (j : Int))), (0, .ref (a 0)), (1, .int (jI k)), (2, .int (jI b)), (3, .int (jI n))]) (fun (j : Nat) => (wR cI cL a w kp bf ah ik fd sp lt tp tn he ft vl (uI bt k b) (uI lg k (if b = 0 then 0 else n)) (czF ce k j) bw)) (fun (j : Nat) => (j : Int) ≤ 40) (fun (j : Nat) => 40 - j) 0 (by decide) rfl rfl ?_
              intro j I_26 ih_27
              refine v_iload (j := 0) (x := jI (j : Int)) G dX9_sheet_83 rfl ?_
              refine v_bipush G dX9_sheet_85 (by decide) ?_
              refine v_icmp_ge (a := (j : Int)) (b := 40) (tgt := 109) G dX9_sheet_87 (by decide) (by omega) (fun c_28 => ?_) (fun c_28 => ?_)
              · skip
                obtain rfl : j = 40 := by omega
                refine v_aload_n (j := 1) (x := a 0) G dX9_sheet_109 rfl rfl ?_
                refine v_get (q0 := 0) (k := 14) (v := .ref (a 10)) G k_X9 rfl rfl (by decide) q_2 rfl rfl dX9_sheet_110 ?_
                refine v_iload_n (j := 2) (x := jI k) G dX9_sheet_113 rfl rfl ?_
                refine v_iald (q0 := 10) (t0 := 0) (g := uI lg k (if b = 0 then 0 else n)) (z := k) G rfl rfl (by omega) dX9_sheet_114 ?_
                refine v_topj (x := (uI lg k (if b = 0 then 0 else n)) k) (y := if b = 0 then 0 else n) (uI_s _ _ _) ?_
                exact v_iret G (fd, uI bt k b, uI lg k (if b = 0 then 0 else n), czF ce k 40) (by first | exact Or.inl ⟨(by omega), (by first | rfl | exact congrArg jI (by omega)), rfl, rfl, rfl, rfl⟩ | exact Or.inr (Or.inl ⟨(by omega), (by first | rfl | exact congrArg jI (by omega)), rfl, rfl, rfl, rfl⟩) | exact Or.inr (Or.inr (Or.inl ⟨(by omega), (by first | rfl | exact congrArg jI (by omega)), rfl, rfl, rfl, rfl⟩)) | exact Or.inr (Or.inr (Or.inr ⟨(by omega), (by first | rfl | exact congrArg jI (by omega)), rfl, rfl, rfl, rfl⟩))) rfl dX9_sheet_115
              · skip
                refine v_aload_n (j := 1) (x := a 0) G dX9_sheet_90 rfl rfl ?_
                refine v_get (q0 := 0) (k := 15) (v := .ref (a 11)) G k_X9 rfl rfl (by decide) q_3 rfl rfl dX9_sheet_91 ?_
                refine v_bipush G dX9_sheet_94 (by decide) ?_
                refine v_iload_n (j := 2) (x := jI k) G dX9_sheet_96 rfl rfl ?_
                refine v_imul (z := 40 * k) G dX9_sheet_97 rfl ?_
                refine v_iload (j := 0) (x := jI (j : Int)) G dX9_sheet_98 rfl ?_
                refine v_iadd (z := (40 * k) + (j : Int)) G dX9_sheet_100 rfl ?_
                refine v_lconst (z := 0) G dX9_sheet_101 (by decide) ?_
                refine v_last (q0 := 11) (t0 := 1) (g := czF ce k j) (z := (40 * k) + (j : Int)) (x := jL 0) (ws' := (wR cI cL a w kp bf ah ik fd sp lt tp tn he ft vl (uI bt k b) (uI lg k (if b = 0 then 0 else n)) (uL (czF ce k j) ((40 * k) + (j : Int)) (jL 0)) bw)) G rfl rfl (by omega) rfl dX9_sheet_102 ?_
                refine v_world (ws' := (wR cI cL a w kp bf ah ik fd sp lt tp tn he ft vl (uI bt k b) (uI lg k (if b = 0 then 0 else n)) (czF ce k (j + 1)) bw)) rfl ?_
                refine v_iinc (k := 0) (z := (j : Int)) (z' := ((j + 1 : Nat) : Int)) (lv' := [(4, .int (jI ((j + 1 : Nat) : Int))), (0, .ref (a 0)), (1, .int (jI k)), (2, .int (jI b)), (3, .int (jI n))]) G dX9_sheet_103 rfl (by omega) (by decide) rfl ?_
                refine v_goto (tgt := 83) G dX9_sheet_106 (by decide) ?_
                exact ih_27 (j + 1) (by omega) (by omega)
            · skip
              refine v_if_ne (a := b) (tgt := 78) G dX9_sheet_71 (by decide) (by omega) (fun c_29 => ?_) (fun c_29 => ?_)
              · skip
                refine v_iload_n (j := 3) (x := jI n) G dX9_sheet_78 rfl rfl ?_
                refine v_topj (x := n) (y := if b = 0 then 0 else n) (by split <;> omega) ?_
                exact J_25
              · skip
                refine v_iconst G dX9_sheet_74 ?_
                refine v_goto (tgt := 79) G dX9_sheet_75 (by decide) ?_
                refine v_topj (x := 0) (y := if b = 0 then 0 else n) (by split <;> omega) ?_
                exact J_25
          · skip
            refine v_aload_n (j := 0) (x := a 0) G dX9_sheet_52 rfl rfl ?_
            refine v_iconst G dX9_sheet_53 ?_
            refine v_ciF G (rn_V (As := [.int (jI 0)]) (rest := []) (q0 := 0) G (c_X9_no (k := 0) (w := w) (kp := kp) (bf := bf) (ah := ah) (ik := ik) (fd := fd) (sp := sp) (lt := lt) (tp := tp) (tn := tn) (he := he) (ft := ft) (vl := vl) (bt := bt) (lg := lg) (ce := ce) (bw := bw) (a := a) (hk := (by omega))) gX9_sheet_X9_no rfl hdX9_no ⟨rfl, rfl, Nat.le_of_ble_eq_true rfl, Nat.le_of_ble_eq_true rfl⟩ rfl rfl (Nat.le_of_ble_eq_true rfl) ⟨Nat.zero_le _, Nat.zero_le _⟩ rfl rfl dX9_sheet_54) (fun r_30 u_32 e_31 => ?_)
            have e_31 : r_30 = jI ((-1000000001) - 0) := e_31
            subst e_31
            refine v_world (ws' := (wR cI cL a w kp bf ah ik (uI fd 0 (fd 0 + 1)) sp lt tp tn he ft vl bt lg ce bw)) rfl ?_
            exact v_iret G (uI fd 0 (fd 0 + 1), bt, lg, ce) (by first | exact Or.inl ⟨(by omega), (by first | rfl | exact congrArg jI (by omega)), rfl, rfl, rfl, rfl⟩ | exact Or.inr (Or.inl ⟨(by omega), (by first | rfl | exact congrArg jI (by omega)), rfl, rfl, rfl, rfl⟩) | exact Or.inr (Or.inr (Or.inl ⟨(by omega), (by first | rfl | exact congrArg jI (by omega)), rfl, rfl, rfl, rfl⟩)) | exact Or.inr (Or.inr (Or.inr ⟨(by omega), (by first | rfl | exact congrArg jI (by omega)), rfl, rfl, rfl, rfl⟩))) rfl dX9_sheet_57
        · skip
          refine v_aload_n (j := 0) (x := a 0) G dX9_sheet_39 rfl rfl ?_
          refine v_bipush G dX9_sheet_40 (by decide) ?_
          refine v_ciF G (rn_V (As := [.int (jI 6)]) (rest := []) (q0 := 0) G (c_X9_no (k := 6) (w := w) (kp := kp) (bf := bf) (ah := ah) (ik := ik) (fd := fd) (sp := sp) (lt := lt) (tp := tp) (tn := tn) (he := he) (ft := ft) (vl := vl) (bt := bt) (lg := lg) (ce := ce) (bw := bw) (a := a) (hk := (by omega))) gX9_sheet_X9_no rfl hdX9_no ⟨rfl, rfl, Nat.le_of_ble_eq_true rfl, Nat.le_of_ble_eq_true rfl⟩ rfl rfl (Nat.le_of_ble_eq_true rfl) ⟨Nat.zero_le _, Nat.zero_le _⟩ rfl rfl dX9_sheet_42) (fun r_33 u_35 e_34 => ?_)
          have e_34 : r_33 = jI ((-1000000001) - 6) := e_34
          subst e_34
          refine v_world (ws' := (wR cI cL a w kp bf ah ik (uI fd 6 (fd 6 + 1)) sp lt tp tn he ft vl bt lg ce bw)) rfl ?_
          exact v_iret G (uI fd 6 (fd 6 + 1), bt, lg, ce) (by first | exact Or.inl ⟨(by omega), (by first | rfl | exact congrArg jI (by omega)), rfl, rfl, rfl, rfl⟩ | exact Or.inr (Or.inl ⟨(by omega), (by first | rfl | exact congrArg jI (by omega)), rfl, rfl, rfl, rfl⟩) | exact Or.inr (Or.inr (Or.inl ⟨(by omega), (by first | rfl | exact congrArg jI (by omega)), rfl, rfl, rfl, rfl⟩)) | exact Or.inr (Or.inr (Or.inr ⟨(by omega), (by first | rfl | exact congrArg jI (by omega)), rfl, rfl, rfl, rfl⟩))) rfl dX9_sheet_45
      · skip
        refine v_iload_n (j := 2) (x := jI b) G dX9_sheet_17 rfl rfl ?_
        refine v_bipush G dX9_sheet_18 (by decide) ?_
        refine v_icmp_eq (a := b) (b := 16) (tgt := 35) G dX9_sheet_20 (by decide) (by omega) (fun c_36 => ?_) (fun c_36 => ?_)
        · skip
          refine v_iload_n (j := 3) (x := jI n) G dX9_sheet_35 rfl rfl ?_
          refine v_if_ge (a := n) (tgt := 46) G dX9_sheet_36 (by decide) (by omega) (fun c_37 => ?_) (fun c_37 => ?_)
          · skip
            refine v_iload_n (j := 3) (x := jI n) G dX9_sheet_46 rfl rfl ?_
            refine v_bipush G dX9_sheet_47 (by decide) ?_
            refine v_icmp_le (a := n) (b := 40) (tgt := 58) G dX9_sheet_49 (by decide) (by omega) (fun c_38 => ?_) (fun c_38 => ?_)
            · skip
              refine v_aload_n (j := 0) (x := a 0) G dX9_sheet_58 rfl rfl ?_
              refine v_get (q0 := 0) (k := 13) (v := .ref (a 9)) G k_X9 rfl rfl (by decide) q_1 rfl rfl dX9_sheet_59 ?_
              refine v_iload_n (j := 1) (x := jI k) G dX9_sheet_62 rfl rfl ?_
              refine v_iload_n (j := 2) (x := jI b) G dX9_sheet_63 rfl rfl ?_
              refine v_iast (q0 := 9) (t0 := 0) (g := bt) (z := k) (x := b) (ws' := (wR cI cL a w kp bf ah ik fd sp lt tp tn he ft vl (uI bt k b) lg ce bw)) G rfl rfl (by omega) rfl dX9_sheet_64 ?_
              refine v_aload_n (j := 0) (x := a 0) G dX9_sheet_65 rfl rfl ?_
              refine v_get (q0 := 0) (k := 14) (v := .ref (a 10)) G k_X9 rfl rfl (by decide) q_2 rfl rfl dX9_sheet_66 ?_
              refine v_iload_n (j := 1) (x := jI k) G dX9_sheet_69 rfl rfl ?_
              refine v_iload_n (j := 2) (x := jI b) G dX9_sheet_70 rfl rfl ?_
              refine v_cut (pc' := 79) (lv' := [(0, .ref (a 0)), (1, .int (jI k)), (2, .int (jI b)), (3, .int (jI n))]) (st' := [.int (jI (if b = 0 then 0 else n)), .int (jI k), .ref (a 10)]) (ws' := (wR cI cL a w kp bf ah ik fd sp lt tp tn he ft vl (uI bt k b) lg ce bw)) ?_ (fun J_39 => ?_)
              · skip
                refine v_iast (q0 := 10) (t0 := 0) (g := lg) (z := k) (x := if b = 0 then 0 else n) (ws' := (wR cI cL a w kp bf ah ik fd sp lt tp tn he ft vl (uI bt k b) (uI lg k (if b = 0 then 0 else n)) ce bw)) G rfl rfl (by omega) rfl dX9_sheet_79 ?_
                refine v_iconst G dX9_sheet_80 ?_
                refine v_istore (lv' := [(4, .int (jI 0)), (0, .ref (a 0)), (1, .int (jI k)), (2, .int (jI b)), (3, .int (jI n))]) G dX9_sheet_81 (by decide) rfl ?_
                refine v_world (ws' := (wR cI cL a w kp bf ah ik fd sp lt tp tn he ft vl (uI bt k b) (uI lg k (if b = 0 then 0 else n)) (czF ce k 0) bw)) rfl ?_
                refine v_locs (lv' := [(4, .int (jI 0)), (0, .ref (a 0)), (1, .int (jI k)), (2, .int (jI b)), (3, .int (jI n))]) [0, 1, 2, 3, 4] rfl ?_
                refine v_loop1 (fun (j : Nat) => [(4, .int (jI (j : Int))), (0, .ref (a 0)), (1, .int (jI k)), (2, .int (jI b)), (3, .int (jI n))]) (fun (j : Nat) => (wR cI cL a w kp bf ah ik fd sp lt tp tn he ft vl (uI bt k b) (uI lg k (if b = 0 then 0 else n)) (czF ce k j) bw)) (fun (j : Nat) => (j : Int) ≤ 40) (fun (j : Nat) => 40 - j) 0 (by decide) rfl rfl ?_
                intro j I_40 ih_41
                refine v_iload (j := 0) (x := jI (j : Int)) G dX9_sheet_83 rfl ?_
                refine v_bipush G dX9_sheet_85 (by decide) ?_
                refine v_icmp_ge (a := (j : Int)) (b := 40) (tgt := 109) G dX9_sheet_87 (by decide) (by omega) (fun c_42 => ?_) (fun c_42 => ?_)
                · skip
                  obtain rfl : j = 40 := by omega
                  refine v_aload_n (j := 1) (x := a 0) G dX9_sheet_109 rfl rfl ?_
                  refine v_get (q0 := 0) (k := 14) (v := .ref (a 10)) G k_X9 rfl rfl (by decide) q_2 rfl rfl dX9_sheet_110 ?_
                  refine v_iload_n (j := 2) (x := jI k) G dX9_sheet_113 rfl rfl ?_
                  refine v_iald (q0 := 10) (t0 := 0) (g := uI lg k (if b = 0 then 0 else n)) (z := k) G rfl rfl (by omega) dX9_sheet_114 ?_
                  refine v_topj (x := (uI lg k (if b = 0 then 0 else n)) k) (y := if b = 0 then 0 else n) (uI_s _ _ _) ?_
                  exact v_iret G (fd, uI bt k b, uI lg k (if b = 0 then 0 else n), czF ce k 40) (by first | exact Or.inl ⟨(by omega), (by first | rfl | exact congrArg jI (by omega)), rfl, rfl, rfl, rfl⟩ | exact Or.inr (Or.inl ⟨(by omega), (by first | rfl | exact congrArg jI (by omega)), rfl, rfl, rfl, rfl⟩) | exact Or.inr (Or.inr (Or.inl ⟨(by omega), (by first | rfl | exact congrArg jI (by omega)), rfl, rfl, rfl, rfl⟩)) | exact Or.inr (Or.inr (Or.inr ⟨(by omega), (by first | rfl | exact congrArg jI (by omega)), rfl, rfl, rfl, rfl⟩))) rfl dX9_sheet_115
                · skip
                  refine v_aload_n (j := 1) (x := a 0) G dX9_sheet_90 rfl rfl ?_
                  refine v_get (q0 := 0) (k := 15) (v := .ref (a 11)) G k_X9 rfl rfl (by decide) q_3 rfl rfl dX9_sheet_91 ?_
                  refine v_bipush G dX9_sheet_94 (by decide) ?_
                  refine v_iload_n (j := 2) (x := jI k) G dX9_sheet_96 rfl rfl ?_
                  refine v_imul (z := 40 * k) G dX9_sheet_97 rfl ?_
                  refine v_iload (j := 0) (x := jI (j : Int)) G dX9_sheet_98 rfl ?_
                  refine v_iadd (z := (40 * k) + (j : Int)) G dX9_sheet_100 rfl ?_
                  refine v_lconst (z := 0) G dX9_sheet_101 (by decide) ?_
                  refine v_last (q0 := 11) (t0 := 1) (g := czF ce k j) (z := (40 * k) + (j : Int)) (x := jL 0) (ws' := (wR cI cL a w kp bf ah ik fd sp lt tp tn he ft vl (uI bt k b) (uI lg k (if b = 0 then 0 else n)) (uL (czF ce k j) ((40 * k) + (j : Int)) (jL 0)) bw)) G rfl rfl (by omega) rfl dX9_sheet_102 ?_
                  refine v_world (ws' := (wR cI cL a w kp bf ah ik fd sp lt tp tn he ft vl (uI bt k b) (uI lg k (if b = 0 then 0 else n)) (czF ce k (j + 1)) bw)) rfl ?_
                  refine v_iinc (k := 0) (z := (j : Int)) (z' := ((j + 1 : Nat) : Int)) (lv' := [(4, .int (jI ((j + 1 : Nat) : Int))), (0, .ref (a 0)), (1, .int (jI k)), (2, .int (jI b)), (3, .int (jI n))]) G dX9_sheet_103 rfl (by omega) (by decide) rfl ?_
                  refine v_goto (tgt := 83) G dX9_sheet_106 (by decide) ?_
                  exact ih_41 (j + 1) (by omega) (by omega)
              · skip
                refine v_if_ne (a := b) (tgt := 78) G dX9_sheet_71 (by decide) (by omega) (fun c_43 => ?_) (fun c_43 => ?_)
                · skip
                  refine v_iload_n (j := 3) (x := jI n) G dX9_sheet_78 rfl rfl ?_
                  refine v_topj (x := n) (y := if b = 0 then 0 else n) (by split <;> omega) ?_
                  exact J_39
                · skip
                  refine v_iconst G dX9_sheet_74 ?_
                  refine v_goto (tgt := 79) G dX9_sheet_75 (by decide) ?_
                  refine v_topj (x := 0) (y := if b = 0 then 0 else n) (by split <;> omega) ?_
                  exact J_39
            · skip
              refine v_aload_n (j := 0) (x := a 0) G dX9_sheet_52 rfl rfl ?_
              refine v_iconst G dX9_sheet_53 ?_
              refine v_ciF G (rn_V (As := [.int (jI 0)]) (rest := []) (q0 := 0) G (c_X9_no (k := 0) (w := w) (kp := kp) (bf := bf) (ah := ah) (ik := ik) (fd := fd) (sp := sp) (lt := lt) (tp := tp) (tn := tn) (he := he) (ft := ft) (vl := vl) (bt := bt) (lg := lg) (ce := ce) (bw := bw) (a := a) (hk := (by omega))) gX9_sheet_X9_no rfl hdX9_no ⟨rfl, rfl, Nat.le_of_ble_eq_true rfl, Nat.le_of_ble_eq_true rfl⟩ rfl rfl (Nat.le_of_ble_eq_true rfl) ⟨Nat.zero_le _, Nat.zero_le _⟩ rfl rfl dX9_sheet_54) (fun r_44 u_46 e_45 => ?_)
              have e_45 : r_44 = jI ((-1000000001) - 0) := e_45
              subst e_45
              refine v_world (ws' := (wR cI cL a w kp bf ah ik (uI fd 0 (fd 0 + 1)) sp lt tp tn he ft vl bt lg ce bw)) rfl ?_
              exact v_iret G (uI fd 0 (fd 0 + 1), bt, lg, ce) (by first | exact Or.inl ⟨(by omega), (by first | rfl | exact congrArg jI (by omega)), rfl, rfl, rfl, rfl⟩ | exact Or.inr (Or.inl ⟨(by omega), (by first | rfl | exact congrArg jI (by omega)), rfl, rfl, rfl, rfl⟩) | exact Or.inr (Or.inr (Or.inl ⟨(by omega), (by first | rfl | exact congrArg jI (by omega)), rfl, rfl, rfl, rfl⟩)) | exact Or.inr (Or.inr (Or.inr ⟨(by omega), (by first | rfl | exact congrArg jI (by omega)), rfl, rfl, rfl, rfl⟩))) rfl dX9_sheet_57
          · skip
            refine v_aload_n (j := 0) (x := a 0) G dX9_sheet_39 rfl rfl ?_
            refine v_bipush G dX9_sheet_40 (by decide) ?_
            refine v_ciF G (rn_V (As := [.int (jI 6)]) (rest := []) (q0 := 0) G (c_X9_no (k := 6) (w := w) (kp := kp) (bf := bf) (ah := ah) (ik := ik) (fd := fd) (sp := sp) (lt := lt) (tp := tp) (tn := tn) (he := he) (ft := ft) (vl := vl) (bt := bt) (lg := lg) (ce := ce) (bw := bw) (a := a) (hk := (by omega))) gX9_sheet_X9_no rfl hdX9_no ⟨rfl, rfl, Nat.le_of_ble_eq_true rfl, Nat.le_of_ble_eq_true rfl⟩ rfl rfl (Nat.le_of_ble_eq_true rfl) ⟨Nat.zero_le _, Nat.zero_le _⟩ rfl rfl dX9_sheet_42) (fun r_47 u_49 e_48 => ?_)
            have e_48 : r_47 = jI ((-1000000001) - 6) := e_48
            subst e_48
            refine v_world (ws' := (wR cI cL a w kp bf ah ik (uI fd 6 (fd 6 + 1)) sp lt tp tn he ft vl bt lg ce bw)) rfl ?_
            exact v_iret G (uI fd 6 (fd 6 + 1), bt, lg, ce) (by first | exact Or.inl ⟨(by omega), (by first | rfl | exact congrArg jI (by omega)), rfl, rfl, rfl, rfl⟩ | exact Or.inr (Or.inl ⟨(by omega), (by first | rfl | exact congrArg jI (by omega)), rfl, rfl, rfl, rfl⟩) | exact Or.inr (Or.inr (Or.inl ⟨(by omega), (by first | rfl | exact congrArg jI (by omega)), rfl, rfl, rfl, rfl⟩)) | exact Or.inr (Or.inr (Or.inr ⟨(by omega), (by first | rfl | exact congrArg jI (by omega)), rfl, rfl, rfl, rfl⟩))) rfl dX9_sheet_45
        · skip
          refine v_iload_n (j := 2) (x := jI b) G dX9_sheet_23 rfl rfl ?_
          refine v_bipush G dX9_sheet_24 (by decide) ?_
          refine v_icmp_eq (a := b) (b := 64) (tgt := 35) G dX9_sheet_26 (by decide) (by omega) (fun c_50 => ?_) (fun c_50 => ?_)
          · skip
            refine v_iload_n (j := 3) (x := jI n) G dX9_sheet_35 rfl rfl ?_
            refine v_if_ge (a := n) (tgt := 46) G dX9_sheet_36 (by decide) (by omega) (fun c_51 => ?_) (fun c_51 => ?_)
            · skip
              refine v_iload_n (j := 3) (x := jI n) G dX9_sheet_46 rfl rfl ?_
              refine v_bipush G dX9_sheet_47 (by decide) ?_
              refine v_icmp_le (a := n) (b := 40) (tgt := 58) G dX9_sheet_49 (by decide) (by omega) (fun c_52 => ?_) (fun c_52 => ?_)
              · skip
                refine v_aload_n (j := 0) (x := a 0) G dX9_sheet_58 rfl rfl ?_
                refine v_get (q0 := 0) (k := 13) (v := .ref (a 9)) G k_X9 rfl rfl (by decide) q_1 rfl rfl dX9_sheet_59 ?_
                refine v_iload_n (j := 1) (x := jI k) G dX9_sheet_62 rfl rfl ?_
                refine v_iload_n (j := 2) (x := jI b) G dX9_sheet_63 rfl rfl ?_
                refine v_iast (q0 := 9) (t0 := 0) (g := bt) (z := k) (x := b) (ws' := (wR cI cL a w kp bf ah ik fd sp lt tp tn he ft vl (uI bt k b) lg ce bw)) G rfl rfl (by omega) rfl dX9_sheet_64 ?_
                refine v_aload_n (j := 0) (x := a 0) G dX9_sheet_65 rfl rfl ?_
                refine v_get (q0 := 0) (k := 14) (v := .ref (a 10)) G k_X9 rfl rfl (by decide) q_2 rfl rfl dX9_sheet_66 ?_
                refine v_iload_n (j := 1) (x := jI k) G dX9_sheet_69 rfl rfl ?_
                refine v_iload_n (j := 2) (x := jI b) G dX9_sheet_70 rfl rfl ?_
                refine v_cut (pc' := 79) (lv' := [(0, .ref (a 0)), (1, .int (jI k)), (2, .int (jI b)), (3, .int (jI n))]) (st' := [.int (jI (if b = 0 then 0 else n)), .int (jI k), .ref (a 10)]) (ws' := (wR cI cL a w kp bf ah ik fd sp lt tp tn he ft vl (uI bt k b) lg ce bw)) ?_ (fun J_53 => ?_)
                · skip
                  refine v_iast (q0 := 10) (t0 := 0) (g := lg) (z := k) (x := if b = 0 then 0 else n) (ws' := (wR cI cL a w kp bf ah ik fd sp lt tp tn he ft vl (uI bt k b) (uI lg k (if b = 0 then 0 else n)) ce bw)) G rfl rfl (by omega) rfl dX9_sheet_79 ?_
                  refine v_iconst G dX9_sheet_80 ?_
                  refine v_istore (lv' := [(4, .int (jI 0)), (0, .ref (a 0)), (1, .int (jI k)), (2, .int (jI b)), (3, .int (jI n))]) G dX9_sheet_81 (by decide) rfl ?_
                  refine v_world (ws' := (wR cI cL a w kp bf ah ik fd sp lt tp tn he ft vl (uI bt k b) (uI lg k (if b = 0 then 0 else n)) (czF ce k 0) bw)) rfl ?_
                  refine v_locs (lv' := [(4, .int (jI 0)), (0, .ref (a 0)), (1, .int (jI k)), (2, .int (jI b)), (3, .int (jI n))]) [0, 1, 2, 3, 4] rfl ?_
                  refine v_loop1 (fun (j : Nat) => [(4, .int (jI (j : Int))), (0, .ref (a 0)), (1, .int (jI k)), (2, .int (jI b)), (3, .int (jI n))]) (fun (j : Nat) => (wR cI cL a w kp bf ah ik fd sp lt tp tn he ft vl (uI bt k b) (uI lg k (if b = 0 then 0 else n)) (czF ce k j) bw)) (fun (j : Nat) => (j : Int) ≤ 40) (fun (j : Nat) => 40 - j) 0 (by decide) rfl rfl ?_
                  intro j I_54 ih_55
                  refine v_iload (j := 0) (x := jI (j : Int)) G dX9_sheet_83 rfl ?_
                  refine v_bipush G dX9_sheet_85 (by decide) ?_
                  refine v_icmp_ge (a := (j : Int)) (b := 40) (tgt := 109) G dX9_sheet_87 (by decide) (by omega) (fun c_56 => ?_) (fun c_56 => ?_)
                  · skip
                    obtain rfl : j = 40 := by omega
                    refine v_aload_n (j := 1) (x := a 0) G dX9_sheet_109 rfl rfl ?_
                    refine v_get (q0 := 0) (k := 14) (v := .ref (a 10)) G k_X9 rfl rfl (by decide) q_2 rfl rfl dX9_sheet_110 ?_
                    refine v_iload_n (j := 2) (x := jI k) G dX9_sheet_113 rfl rfl ?_
                    refine v_iald (q0 := 10) (t0 := 0) (g := uI lg k (if b = 0 then 0 else n)) (z := k) G rfl rfl (by omega) dX9_sheet_114 ?_
                    refine v_topj (x := (uI lg k (if b = 0 then 0 else n)) k) (y := if b = 0 then 0 else n) (uI_s _ _ _) ?_
                    exact v_iret G (fd, uI bt k b, uI lg k (if b = 0 then 0 else n), czF ce k 40) (by first | exact Or.inl ⟨(by omega), (by first | rfl | exact congrArg jI (by omega)), rfl, rfl, rfl, rfl⟩ | exact Or.inr (Or.inl ⟨(by omega), (by first | rfl | exact congrArg jI (by omega)), rfl, rfl, rfl, rfl⟩) | exact Or.inr (Or.inr (Or.inl ⟨(by omega), (by first | rfl | exact congrArg jI (by omega)), rfl, rfl, rfl, rfl⟩)) | exact Or.inr (Or.inr (Or.inr ⟨(by omega), (by first | rfl | exact congrArg jI (by omega)), rfl, rfl, rfl, rfl⟩))) rfl dX9_sheet_115
                  · skip
                    refine v_aload_n (j := 1) (x := a 0) G dX9_sheet_90 rfl rfl ?_
                    refine v_get (q0 := 0) (k := 15) (v := .ref (a 11)) G k_X9 rfl rfl (by decide) q_3 rfl rfl dX9_sheet_91 ?_
                    refine v_bipush G dX9_sheet_94 (by decide) ?_
                    refine v_iload_n (j := 2) (x := jI k) G dX9_sheet_96 rfl rfl ?_
                    refine v_imul (z := 40 * k) G dX9_sheet_97 rfl ?_
                    refine v_iload (j := 0) (x := jI (j : Int)) G dX9_sheet_98 rfl ?_
                    refine v_iadd (z := (40 * k) + (j : Int)) G dX9_sheet_100 rfl ?_
                    refine v_lconst (z := 0) G dX9_sheet_101 (by decide) ?_
                    refine v_last (q0 := 11) (t0 := 1) (g := czF ce k j) (z := (40 * k) + (j : Int)) (x := jL 0) (ws' := (wR cI cL a w kp bf ah ik fd sp lt tp tn he ft vl (uI bt k b) (uI lg k (if b = 0 then 0 else n)) (uL (czF ce k j) ((40 * k) + (j : Int)) (jL 0)) bw)) G rfl rfl (by omega) rfl dX9_sheet_102 ?_
                    refine v_world (ws' := (wR cI cL a w kp bf ah ik fd sp lt tp tn he ft vl (uI bt k b) (uI lg k (if b = 0 then 0 else n)) (czF ce k (j + 1)) bw)) rfl ?_
                    refine v_iinc (k := 0) (z := (j : Int)) (z' := ((j + 1 : Nat) : Int)) (lv' := [(4, .int (jI ((j + 1 : Nat) : Int))), (0, .ref (a 0)), (1, .int (jI k)), (2, .int (jI b)), (3, .int (jI n))]) G dX9_sheet_103 rfl (by omega) (by decide) rfl ?_
                    refine v_goto (tgt := 83) G dX9_sheet_106 (by decide) ?_
                    exact ih_55 (j + 1) (by omega) (by omega)
                · skip
                  refine v_if_ne (a := b) (tgt := 78) G dX9_sheet_71 (by decide) (by omega) (fun c_57 => ?_) (fun c_57 => ?_)
                  · skip
                    refine v_iload_n (j := 3) (x := jI n) G dX9_sheet_78 rfl rfl ?_
                    refine v_topj (x := n) (y := if b = 0 then 0 else n) (by split <;> omega) ?_
                    exact J_53
                  · skip
                    refine v_iconst G dX9_sheet_74 ?_
                    refine v_goto (tgt := 79) G dX9_sheet_75 (by decide) ?_
                    refine v_topj (x := 0) (y := if b = 0 then 0 else n) (by split <;> omega) ?_
                    exact J_53
              · skip
                refine v_aload_n (j := 0) (x := a 0) G dX9_sheet_52 rfl rfl ?_
                refine v_iconst G dX9_sheet_53 ?_
                refine v_ciF G (rn_V (As := [.int (jI 0)]) (rest := []) (q0 := 0) G (c_X9_no (k := 0) (w := w) (kp := kp) (bf := bf) (ah := ah) (ik := ik) (fd := fd) (sp := sp) (lt := lt) (tp := tp) (tn := tn) (he := he) (ft := ft) (vl := vl) (bt := bt) (lg := lg) (ce := ce) (bw := bw) (a := a) (hk := (by omega))) gX9_sheet_X9_no rfl hdX9_no ⟨rfl, rfl, Nat.le_of_ble_eq_true rfl, Nat.le_of_ble_eq_true rfl⟩ rfl rfl (Nat.le_of_ble_eq_true rfl) ⟨Nat.zero_le _, Nat.zero_le _⟩ rfl rfl dX9_sheet_54) (fun r_58 u_60 e_59 => ?_)
                have e_59 : r_58 = jI ((-1000000001) - 0) := e_59
                subst e_59
                refine v_world (ws' := (wR cI cL a w kp bf ah ik (uI fd 0 (fd 0 + 1)) sp lt tp tn he ft vl bt lg ce bw)) rfl ?_
                exact v_iret G (uI fd 0 (fd 0 + 1), bt, lg, ce) (by first | exact Or.inl ⟨(by omega), (by first | rfl | exact congrArg jI (by omega)), rfl, rfl, rfl, rfl⟩ | exact Or.inr (Or.inl ⟨(by omega), (by first | rfl | exact congrArg jI (by omega)), rfl, rfl, rfl, rfl⟩) | exact Or.inr (Or.inr (Or.inl ⟨(by omega), (by first | rfl | exact congrArg jI (by omega)), rfl, rfl, rfl, rfl⟩)) | exact Or.inr (Or.inr (Or.inr ⟨(by omega), (by first | rfl | exact congrArg jI (by omega)), rfl, rfl, rfl, rfl⟩))) rfl dX9_sheet_57
            · skip
              refine v_aload_n (j := 0) (x := a 0) G dX9_sheet_39 rfl rfl ?_
              refine v_bipush G dX9_sheet_40 (by decide) ?_
              refine v_ciF G (rn_V (As := [.int (jI 6)]) (rest := []) (q0 := 0) G (c_X9_no (k := 6) (w := w) (kp := kp) (bf := bf) (ah := ah) (ik := ik) (fd := fd) (sp := sp) (lt := lt) (tp := tp) (tn := tn) (he := he) (ft := ft) (vl := vl) (bt := bt) (lg := lg) (ce := ce) (bw := bw) (a := a) (hk := (by omega))) gX9_sheet_X9_no rfl hdX9_no ⟨rfl, rfl, Nat.le_of_ble_eq_true rfl, Nat.le_of_ble_eq_true rfl⟩ rfl rfl (Nat.le_of_ble_eq_true rfl) ⟨Nat.zero_le _, Nat.zero_le _⟩ rfl rfl dX9_sheet_42) (fun r_61 u_63 e_62 => ?_)
              have e_62 : r_61 = jI ((-1000000001) - 6) := e_62
              subst e_62
              refine v_world (ws' := (wR cI cL a w kp bf ah ik (uI fd 6 (fd 6 + 1)) sp lt tp tn he ft vl bt lg ce bw)) rfl ?_
              exact v_iret G (uI fd 6 (fd 6 + 1), bt, lg, ce) (by first | exact Or.inl ⟨(by omega), (by first | rfl | exact congrArg jI (by omega)), rfl, rfl, rfl, rfl⟩ | exact Or.inr (Or.inl ⟨(by omega), (by first | rfl | exact congrArg jI (by omega)), rfl, rfl, rfl, rfl⟩) | exact Or.inr (Or.inr (Or.inl ⟨(by omega), (by first | rfl | exact congrArg jI (by omega)), rfl, rfl, rfl, rfl⟩)) | exact Or.inr (Or.inr (Or.inr ⟨(by omega), (by first | rfl | exact congrArg jI (by omega)), rfl, rfl, rfl, rfl⟩))) rfl dX9_sheet_45
          · skip
            refine v_aload_n (j := 0) (x := a 0) G dX9_sheet_29 rfl rfl ?_
            refine v_iconst G dX9_sheet_30 ?_
            refine v_ciF G (rn_V (As := [.int (jI 0)]) (rest := []) (q0 := 0) G (c_X9_no (k := 0) (w := w) (kp := kp) (bf := bf) (ah := ah) (ik := ik) (fd := fd) (sp := sp) (lt := lt) (tp := tp) (tn := tn) (he := he) (ft := ft) (vl := vl) (bt := bt) (lg := lg) (ce := ce) (bw := bw) (a := a) (hk := (by omega))) gX9_sheet_X9_no rfl hdX9_no ⟨rfl, rfl, Nat.le_of_ble_eq_true rfl, Nat.le_of_ble_eq_true rfl⟩ rfl rfl (Nat.le_of_ble_eq_true rfl) ⟨Nat.zero_le _, Nat.zero_le _⟩ rfl rfl dX9_sheet_31) (fun r_64 u_66 e_65 => ?_)
            have e_65 : r_64 = jI ((-1000000001) - 0) := e_65
            subst e_65
            refine v_world (ws' := (wR cI cL a w kp bf ah ik (uI fd 0 (fd 0 + 1)) sp lt tp tn he ft vl bt lg ce bw)) rfl ?_
            exact v_iret G (uI fd 0 (fd 0 + 1), bt, lg, ce) (by first | exact Or.inl ⟨(by omega), (by first | rfl | exact congrArg jI (by omega)), rfl, rfl, rfl, rfl⟩ | exact Or.inr (Or.inl ⟨(by omega), (by first | rfl | exact congrArg jI (by omega)), rfl, rfl, rfl, rfl⟩) | exact Or.inr (Or.inr (Or.inl ⟨(by omega), (by first | rfl | exact congrArg jI (by omega)), rfl, rfl, rfl, rfl⟩)) | exact Or.inr (Or.inr (Or.inr ⟨(by omega), (by first | rfl | exact congrArg jI (by omega)), rfl, rfl, rfl, rfl⟩))) rfl dX9_sheet_34

set_option maxHeartbeats 4000000 in
set_option maxRecDepth 100000 in
theorem c_X9_writes (k i : Int) (v : Int64) (hk : (0 ≤ k ∧ k ≤ 3) ∧ 0 ≤ i ∧ i < 40) (hs : ∀ k_ : Int, 0 ≤ k_ → k_ < 4 → (bt k_ = 0 ∨ bt k_ = 8 ∨ bt k_ = 16 ∨ bt k_ = 64) ∧ 0 ≤ lg k_ ∧ lg k_ ≤ 40) : Cv l yX9_writes wsX9_writes { frames := 0, cells := 0, slots := 0, locals := 0 } D (jT cI cL cB cS) [.ref (a 0), .int (jI k), .int (jI i), .long v] (wR cI cL a w kp bf ah ik fd sp lt tp tn he ft vl bt lg ce bw) (S := Unit) (fun _ => (wR cI cL a w kp bf ah ik fd sp lt tp tn he ft vl bt lg (uL ce (40 * k + i) (nW (bt k) v)) bw)) (fun _ => True) := by
  refine Cv.mk (cc := cX9_writes) (maxL := 5) (by decide) rfl (Nat.le_of_ble_eq_true rfl) rfl ?_
  intro p_ e_ s_ m_ b_ me_ c_ A_ G hnm
  have hb := hs k (by omega) (by omega)
  have k_X9 : ∀ w ∈ u_ws RX9 TX9 17, w ∈ wsX9_writes := fun _ h => List.mem_cons_of_mem _ (List.mem_append_right _ h)
  have q_1 : Cond.fieldLink RX9 40 "SupperLightModel" "cells" "[J" ∈ wsX9_writes := List.mem_of_getElem? (i := 1) rfl
  have q_2 : Cond.fieldLink RX9 34 "SupperLightModel" "bits" "[I" ∈ wsX9_writes := List.mem_of_getElem? (i := 2) rfl
  refine v_aload_n (j := 0) (x := a 0) G dX9_writes_0 rfl rfl ?_
  refine v_get (q0 := 0) (k := 15) (v := .ref (a 11)) G k_X9 rfl rfl (by decide) q_1 rfl rfl dX9_writes_1 ?_
  refine v_bipush G dX9_writes_4 (by decide) ?_
  refine v_iload_n (j := 1) (x := jI k) G dX9_writes_6 rfl rfl ?_
  refine v_imul (z := 40 * k) G dX9_writes_7 rfl ?_
  refine v_iload_n (j := 2) (x := jI i) G dX9_writes_8 rfl rfl ?_
  refine v_iadd (z := (40 * k) + i) G dX9_writes_9 rfl ?_
  refine v_aload_n (j := 0) (x := a 0) G dX9_writes_10 rfl rfl ?_
  refine v_get (q0 := 0) (k := 13) (v := .ref (a 9)) G k_X9 rfl rfl (by decide) q_2 rfl rfl dX9_writes_11 ?_
  refine v_iload_n (j := 1) (x := jI k) G dX9_writes_14 rfl rfl ?_
  refine v_iald (q0 := 9) (t0 := 0) (g := bt) (z := k) G rfl rfl (by omega) dX9_writes_15 ?_
  refine v_bipush G dX9_writes_16 (by decide) ?_
  refine v_cut (pc' := 47) (lv' := [(0, .ref (a 0)), (1, .int (jI k)), (2, .int (jI i)), (3, .long v)]) (st' := [.long (nW (bt k) v), .int (jI ((40 * k) + i)), .ref (a 11)]) (ws' := (wR cI cL a w kp bf ah ik fd sp lt tp tn he ft vl bt lg ce bw)) ?_ (fun J_1 => ?_)
  · skip
    refine v_last (q0 := 11) (t0 := 1) (g := ce) (z := (40 * k) + i) (x := nW (bt k) v) (ws' := (wR cI cL a w kp bf ah ik fd sp lt tp tn he ft vl bt lg (uL ce ((40 * k) + i) (nW (bt k) v)) bw)) G rfl rfl (by omega) rfl dX9_writes_47 ?_
    exact v_vret G () trivial rfl dX9_writes_48
  · skip
    refine v_icmp_ne (a := bt k) (b := 8) (tgt := 28) G dX9_writes_18 (by decide) (by omega) (fun c_2 => ?_) (fun c_2 => ?_)
    · skip
      refine v_aload_n (j := 0) (x := a 0) G dX9_writes_28 rfl rfl ?_
      refine v_get (q0 := 0) (k := 13) (v := .ref (a 9)) G k_X9 rfl rfl (by decide) q_2 rfl rfl dX9_writes_29 ?_
      refine v_iload_n (j := 1) (x := jI k) G dX9_writes_32 rfl rfl ?_
      refine v_iald (q0 := 9) (t0 := 0) (g := bt) (z := k) G rfl rfl (by omega) dX9_writes_33 ?_
      refine v_bipush G dX9_writes_34 (by decide) ?_
      refine v_icmp_ne (a := bt k) (b := 16) (tgt := 46) G dX9_writes_36 (by decide) (by omega) (fun c_3 => ?_) (fun c_3 => ?_)
      · skip
        refine v_lload_n (j := 3) (x := v) G dX9_writes_46 rfl rfl ?_
        refine v_topl (x := v) (y := nW (bt k) v) (by unfold nW; (repeat' split) <;> first | rfl | omega) ?_
        exact J_1
      · skip
        refine v_lload_n (j := 3) (x := v) G dX9_writes_39 rfl rfl ?_
        refine v_l2i (v := v.toInt32) G dX9_writes_40 rfl ?_
        refine v_i2s (v := v.toInt32.toInt16.toInt32) G dX9_writes_41 rfl ?_
        refine v_i2l (v := v.toInt32.toInt16.toInt32.toInt64) G dX9_writes_42 rfl ?_
        refine v_goto (tgt := 47) G dX9_writes_43 (by decide) ?_
        refine v_topl (x := v.toInt32.toInt16.toInt32.toInt64) (y := nW (bt k) v) (by unfold nW; (repeat' split) <;> first | rfl | omega) ?_
        exact J_1
    · skip
      refine v_lload_n (j := 3) (x := v) G dX9_writes_21 rfl rfl ?_
      refine v_l2i (v := v.toInt32) G dX9_writes_22 rfl ?_
      refine v_i2b (v := v.toInt32.toInt8.toInt32) G dX9_writes_23 rfl ?_
      refine v_i2l (v := v.toInt32.toInt8.toInt32.toInt64) G dX9_writes_24 rfl ?_
      refine v_goto (tgt := 47) G dX9_writes_25 (by decide) ?_
      refine v_topl (x := v.toInt32.toInt8.toInt32.toInt64) (y := nW (bt k) v) (by unfold nW; (repeat' split) <;> first | rfl | omega) ?_
      exact J_1

set_option maxHeartbeats 4000000 in
set_option maxRecDepth 100000 in
theorem c_X9_write (k i : Int) (v : Int64) (hw : Wf w) (hs : ∀ k_ : Int, 0 ≤ k_ → k_ < 4 → (bt k_ = 0 ∨ bt k_ = 8 ∨ bt k_ = 16 ∨ bt k_ = 64) ∧ 0 ≤ lg k_ ∧ lg k_ ≤ 40) (hr : (-2147483648 ≤ k ∧ k ≤ 2147483647) ∧ (-2147483648 ≤ i ∧ i ≤ 2147483647)) : Cl l yX9_write wsX9_write { frames := 2, cells := 0, slots := 0, locals := 42 } D (jT cI cL cB cS) [.ref (a 0), .int (jI k), .int (jI i), .long v] (wR cI cL a w kp bf ah ik fd sp lt tp tn he ft vl bt lg ce bw) (S := (Int → Int) × (Int → Int64)) (fun u => (wR cI cL a w kp bf ah ik u.1 sp lt tp tn he ft vl bt lg u.2 bw)) (fun r u => ((¬ (0 ≤ k ∧ k ≤ 3)) ∧ r = jL (-1000000001) ∧ u.1 = uI fd 0 (fd 0 + 1) ∧ u.2 = ce) ∨ (((0 ≤ k ∧ k ≤ 3) ∧ bt k = 0) ∧ r = jL (-1000000006) ∧ u.1 = uI fd 5 (fd 5 + 1) ∧ u.2 = ce) ∨ ((((0 ≤ k ∧ k ≤ 3) ∧ bt k ≠ 0) ∧ ¬ (0 ≤ i ∧ i ≤ lg k - 1)) ∧ r = jL (-1000000001) ∧ u.1 = uI fd 0 (fd 0 + 1) ∧ u.2 = ce) ∨ ((((0 ≤ k ∧ k ≤ 3) ∧ bt k ≠ 0) ∧ (0 ≤ i ∧ i ≤ lg k - 1)) ∧ r = ce (40 * k + i) ∧ u.1 = fd ∧ u.2 = uL ce (40 * k + i) (nW (bt k) v))) := by
  refine Cl.mk (cc := cX9_write) (maxL := 7) (by decide) rfl (Nat.le_of_ble_eq_true rfl) rfl ?_
  intro p_ e_ s_ m_ b_ me_ c_ A_ G hnm
  have k_X9 : ∀ w ∈ u_ws RX9 TX9 17, w ∈ wsX9_write := fun _ h => List.mem_cons_of_mem _ (List.mem_append_right _ h)
  have q_1 : Cond.fieldLink RX9 34 "SupperLightModel" "bits" "[I" ∈ wsX9_write := List.mem_of_getElem? (i := 1) rfl
  have q_2 : Cond.fieldLink RX9 37 "SupperLightModel" "longs" "[I" ∈ wsX9_write := List.mem_of_getElem? (i := 2) rfl
  have q_3 : Cond.fieldLink RX9 40 "SupperLightModel" "cells" "[J" ∈ wsX9_write := List.mem_of_getElem? (i := 3) rfl
  refine v_iload_n (j := 1) (x := jI k) G dX9_write_0 rfl rfl ?_
  refine v_ciN G (rn_S (As := [.int (jI k)]) (rest := []) G (c_X9_isSheet (k := k) (hr := (by omega))) gX9_write_X9_isSheet rfl hdX9_isSheet ⟨rfl, rfl, Nat.le_of_ble_eq_true rfl, Nat.le_of_ble_eq_true rfl⟩ rfl rfl (Nat.le_of_ble_eq_true rfl) ⟨Nat.zero_le _, Nat.zero_le _⟩ dX9_write_1) (fun r_1 u_3 e_2 => ?_)
  have e_2 : r_1 = jI (b2 (0 ≤ k ∧ k ≤ 3)) := e_2
  subst e_2
  refine v_ifb_ne (P := 0 ≤ k ∧ k ≤ 3) (tgt := 14) G dX9_write_4 (by decide) (fun c_4 => ?_) (fun c_4 => ?_)
  · skip
    have hb := hs k (by omega) (by omega)
    refine v_aload_n (j := 0) (x := a 0) G dX9_write_14 rfl rfl ?_
    refine v_get (q0 := 0) (k := 13) (v := .ref (a 9)) G k_X9 rfl rfl (by decide) q_1 rfl rfl dX9_write_15 ?_
    refine v_iload_n (j := 1) (x := jI k) G dX9_write_18 rfl rfl ?_
    refine v_iald (q0 := 9) (t0 := 0) (g := bt) (z := k) G rfl rfl (by omega) dX9_write_19 ?_
    refine v_if_ne (a := bt k) (tgt := 30) G dX9_write_20 (by decide) (by omega) (fun c_5 => ?_) (fun c_5 => ?_)
    · skip
      refine v_iload_n (j := 2) (x := jI i) G dX9_write_30 rfl rfl ?_
      refine v_iconst G dX9_write_31 ?_
      refine v_aload_n (j := 0) (x := a 0) G dX9_write_32 rfl rfl ?_
      refine v_get (q0 := 0) (k := 14) (v := .ref (a 10)) G k_X9 rfl rfl (by decide) q_2 rfl rfl dX9_write_33 ?_
      refine v_iload_n (j := 1) (x := jI k) G dX9_write_36 rfl rfl ?_
      refine v_iald (q0 := 10) (t0 := 0) (g := lg) (z := k) G rfl rfl (by omega) dX9_write_37 ?_
      refine v_iconst G dX9_write_38 ?_
      refine v_isub (z := (lg k) - 1) G dX9_write_39 rfl ?_
      refine v_ciN G (rn_S (As := [.int (jI i), .int (jI 0), .int (jI ((lg k) - 1))]) (rest := []) G (c_X9_in (v := i) (lo := 0) (hi := (lg k) - 1) (hr := (by omega))) gX9_write_X9_in rfl hdX9_in ⟨rfl, rfl, Nat.le_of_ble_eq_true rfl, Nat.le_of_ble_eq_true rfl⟩ rfl rfl (Nat.le_of_ble_eq_true rfl) ⟨Nat.zero_le _, Nat.zero_le _⟩ dX9_write_40) (fun r_6 u_8 e_7 => ?_)
      have e_7 : r_6 = jI (b2 (0 ≤ i ∧ i ≤ ((lg k) - 1))) := e_7
      subst e_7
      refine v_ifb_ne (P := 0 ≤ i ∧ i ≤ ((lg k) - 1)) (tgt := 53) G dX9_write_43 (by decide) (fun c_9 => ?_) (fun c_9 => ?_)
      · skip
        refine v_aload_n (j := 0) (x := a 0) G dX9_write_53 rfl rfl ?_
        refine v_get (q0 := 0) (k := 15) (v := .ref (a 11)) G k_X9 rfl rfl (by decide) q_3 rfl rfl dX9_write_54 ?_
        refine v_bipush G dX9_write_57 (by decide) ?_
        refine v_iload_n (j := 1) (x := jI k) G dX9_write_59 rfl rfl ?_
        refine v_imul (z := 40 * k) G dX9_write_60 rfl ?_
        refine v_iload_n (j := 2) (x := jI i) G dX9_write_61 rfl rfl ?_
        refine v_iadd (z := (40 * k) + i) G dX9_write_62 rfl ?_
        refine v_lald (q0 := 11) (t0 := 1) (g := ce) (z := (40 * k) + i) G rfl rfl (by omega) dX9_write_63 ?_
        refine v_lstore (lv' := [(5, .long (ce ((40 * k) + i))), (0, .ref (a 0)), (1, .int (jI k)), (2, .int (jI i)), (3, .long v)]) G dX9_write_64 (by decide) rfl ?_
        refine v_aload_n (j := 1) (x := a 0) G dX9_write_66 rfl rfl ?_
        refine v_iload_n (j := 2) (x := jI k) G dX9_write_67 rfl rfl ?_
        refine v_iload_n (j := 3) (x := jI i) G dX9_write_68 rfl rfl ?_
        refine v_lload_n (j := 4) (x := v) G dX9_write_69 rfl rfl ?_
        refine v_cvF G (rn_V (As := [.int (jI k), .int (jI i), .long v]) (rest := []) (q0 := 0) G (c_X9_writes (k := k) (i := i) (v := v) (w := w) (kp := kp) (bf := bf) (ah := ah) (ik := ik) (fd := fd) (sp := sp) (lt := lt) (tp := tp) (tn := tn) (he := he) (ft := ft) (vl := vl) (bt := bt) (lg := lg) (ce := ce) (bw := bw) (a := a) (hk := (by omega)) (hs := hs)) gX9_write_X9_writes rfl hdX9_writes ⟨rfl, rfl, Nat.le_of_ble_eq_true rfl, Nat.le_of_ble_eq_true rfl⟩ rfl rfl (Nat.le_of_ble_eq_true rfl) ⟨Nat.zero_le _, Nat.zero_le _⟩ rfl rfl dX9_write_70) (fun u_12 e_11 => ?_)
        refine v_world (ws' := (wR cI cL a w kp bf ah ik fd sp lt tp tn he ft vl bt lg (uL ce (40 * k + i) (nW (bt k) v)) bw)) rfl ?_
        refine v_lload (j := 0) (x := ce ((40 * k) + i)) G dX9_write_73 rfl ?_
        exact v_lret G (fd, uL ce (40 * k + i) (nW (bt k) v)) (by first | exact Or.inl ⟨by omega, rfl, rfl, rfl⟩ | exact Or.inr (Or.inl ⟨by omega, rfl, rfl, rfl⟩) | exact Or.inr (Or.inr (Or.inl ⟨by omega, rfl, rfl, rfl⟩)) | exact Or.inr (Or.inr (Or.inr (⟨by omega, rfl, rfl, rfl⟩)))) rfl dX9_write_75
      · skip
        refine v_aload_n (j := 0) (x := a 0) G dX9_write_46 rfl rfl ?_
        refine v_iconst G dX9_write_47 ?_
        refine v_ciF G (rn_V (As := [.int (jI 0)]) (rest := []) (q0 := 0) G (c_X9_no (k := 0) (w := w) (kp := kp) (bf := bf) (ah := ah) (ik := ik) (fd := fd) (sp := sp) (lt := lt) (tp := tp) (tn := tn) (he := he) (ft := ft) (vl := vl) (bt := bt) (lg := lg) (ce := ce) (bw := bw) (a := a) (hk := (by omega))) gX9_write_X9_no rfl hdX9_no ⟨rfl, rfl, Nat.le_of_ble_eq_true rfl, Nat.le_of_ble_eq_true rfl⟩ rfl rfl (Nat.le_of_ble_eq_true rfl) ⟨Nat.zero_le _, Nat.zero_le _⟩ rfl rfl dX9_write_48) (fun r_13 u_15 e_14 => ?_)
        have e_14 : r_13 = jI ((-1000000001) - 0) := e_14
        subst e_14
        refine v_world (ws' := (wR cI cL a w kp bf ah ik (uI fd 0 (fd 0 + 1)) sp lt tp tn he ft vl bt lg ce bw)) rfl ?_
        refine v_i2l (v := jL ((-1000000001) - 0)) G dX9_write_51 (jI_i2l (by omega)) ?_
        exact v_lret G (uI fd 0 (fd 0 + 1), ce) (by first | exact Or.inl ⟨by omega, rfl, rfl, rfl⟩ | exact Or.inr (Or.inl ⟨by omega, rfl, rfl, rfl⟩) | exact Or.inr (Or.inr (Or.inl ⟨by omega, rfl, rfl, rfl⟩)) | exact Or.inr (Or.inr (Or.inr (⟨by omega, rfl, rfl, rfl⟩)))) rfl dX9_write_52
    · skip
      refine v_aload_n (j := 0) (x := a 0) G dX9_write_23 rfl rfl ?_
      refine v_iconst G dX9_write_24 ?_
      refine v_ciF G (rn_V (As := [.int (jI 5)]) (rest := []) (q0 := 0) G (c_X9_no (k := 5) (w := w) (kp := kp) (bf := bf) (ah := ah) (ik := ik) (fd := fd) (sp := sp) (lt := lt) (tp := tp) (tn := tn) (he := he) (ft := ft) (vl := vl) (bt := bt) (lg := lg) (ce := ce) (bw := bw) (a := a) (hk := (by omega))) gX9_write_X9_no rfl hdX9_no ⟨rfl, rfl, Nat.le_of_ble_eq_true rfl, Nat.le_of_ble_eq_true rfl⟩ rfl rfl (Nat.le_of_ble_eq_true rfl) ⟨Nat.zero_le _, Nat.zero_le _⟩ rfl rfl dX9_write_25) (fun r_16 u_18 e_17 => ?_)
      have e_17 : r_16 = jI ((-1000000001) - 5) := e_17
      subst e_17
      refine v_world (ws' := (wR cI cL a w kp bf ah ik (uI fd 5 (fd 5 + 1)) sp lt tp tn he ft vl bt lg ce bw)) rfl ?_
      refine v_i2l (v := jL ((-1000000001) - 5)) G dX9_write_28 (jI_i2l (by omega)) ?_
      exact v_lret G (uI fd 5 (fd 5 + 1), ce) (by first | exact Or.inl ⟨by omega, rfl, rfl, rfl⟩ | exact Or.inr (Or.inl ⟨by omega, rfl, rfl, rfl⟩) | exact Or.inr (Or.inr (Or.inl ⟨by omega, rfl, rfl, rfl⟩)) | exact Or.inr (Or.inr (Or.inr (⟨by omega, rfl, rfl, rfl⟩)))) rfl dX9_write_29
  · skip
    refine v_aload_n (j := 0) (x := a 0) G dX9_write_7 rfl rfl ?_
    refine v_iconst G dX9_write_8 ?_
    refine v_ciF G (rn_V (As := [.int (jI 0)]) (rest := []) (q0 := 0) G (c_X9_no (k := 0) (w := w) (kp := kp) (bf := bf) (ah := ah) (ik := ik) (fd := fd) (sp := sp) (lt := lt) (tp := tp) (tn := tn) (he := he) (ft := ft) (vl := vl) (bt := bt) (lg := lg) (ce := ce) (bw := bw) (a := a) (hk := (by omega))) gX9_write_X9_no rfl hdX9_no ⟨rfl, rfl, Nat.le_of_ble_eq_true rfl, Nat.le_of_ble_eq_true rfl⟩ rfl rfl (Nat.le_of_ble_eq_true rfl) ⟨Nat.zero_le _, Nat.zero_le _⟩ rfl rfl dX9_write_9) (fun r_19 u_21 e_20 => ?_)
    have e_20 : r_19 = jI ((-1000000001) - 0) := e_20
    subst e_20
    refine v_world (ws' := (wR cI cL a w kp bf ah ik (uI fd 0 (fd 0 + 1)) sp lt tp tn he ft vl bt lg ce bw)) rfl ?_
    refine v_i2l (v := jL ((-1000000001) - 0)) G dX9_write_12 (jI_i2l (by omega)) ?_
    exact v_lret G (uI fd 0 (fd 0 + 1), ce) (by first | exact Or.inl ⟨by omega, rfl, rfl, rfl⟩ | exact Or.inr (Or.inl ⟨by omega, rfl, rfl, rfl⟩) | exact Or.inr (Or.inr (Or.inl ⟨by omega, rfl, rfl, rfl⟩)) | exact Or.inr (Or.inr (Or.inr (⟨by omega, rfl, rfl, rfl⟩)))) rfl dX9_write_13

set_option maxHeartbeats 4000000 in
set_option maxRecDepth 100000 in
theorem c_X9_copy (k x t y n : Int) (hw : Wf w) (hs : ∀ k_ : Int, 0 ≤ k_ → k_ < 4 → (bt k_ = 0 ∨ bt k_ = 8 ∨ bt k_ = 16 ∨ bt k_ = 64) ∧ 0 ≤ lg k_ ∧ lg k_ ≤ 40) (hr : (-2147483648 ≤ k ∧ k ≤ 2147483647) ∧ (-2147483648 ≤ x ∧ x ≤ 2147483647) ∧ (-2147483648 ≤ t ∧ t ≤ 2147483647) ∧ (-2147483648 ≤ y ∧ y ≤ 2147483647) ∧ (-2147483648 ≤ n ∧ n ≤ 2147483647)) : Ci l yX9_copy wsX9_copy { frames := 2, cells := 0, slots := 0, locals := 42 } D (jT cI cL cB cS) [.ref (a 0), .int (jI k), .int (jI x), .int (jI t), .int (jI y), .int (jI n)] (wR cI cL a w kp bf ah ik fd sp lt tp tn he ft vl bt lg ce bw) (S := (Int → Int) × (Int → Int64) × (Int → Int64)) (fun u => (wR cI cL a w kp bf ah ik u.1 sp lt tp tn he ft vl bt lg u.2.1 u.2.2)) (fun r u => ((¬ ((0 ≤ k ∧ k ≤ 3) ∧ 0 ≤ t ∧ t ≤ 3)) ∧ r = jI (-1000000001) ∧ u.1 = uI fd 0 (fd 0 + 1) ∧ u.2.1 = ce) ∨ ((((0 ≤ k ∧ k ≤ 3) ∧ 0 ≤ t ∧ t ≤ 3) ∧ (bt k = 0 ∨ bt t = 0)) ∧ r = jI (-1000000006) ∧ u.1 = uI fd 5 (fd 5 + 1) ∧ u.2.1 = ce) ∨ (((((0 ≤ k ∧ k ≤ 3) ∧ 0 ≤ t ∧ t ≤ 3) ∧ bt k ≠ 0 ∧ bt t ≠ 0) ∧ bt k ≠ bt t) ∧ r = jI (-1000000003) ∧ u.1 = uI fd 2 (fd 2 + 1) ∧ u.2.1 = ce) ∨ (((((0 ≤ k ∧ k ≤ 3) ∧ 0 ≤ t ∧ t ≤ 3) ∧ bt k ≠ 0 ∧ bt t ≠ 0 ∧ bt k = bt t) ∧ ¬ (0 ≤ n ∧ 0 ≤ x ∧ 0 ≤ y ∧ x ≤ lg k - n ∧ y ≤ lg t - n)) ∧ r = jI (-1000000001) ∧ u.1 = uI fd 0 (fd 0 + 1) ∧ u.2.1 = ce) ∨ (((((0 ≤ k ∧ k ≤ 3) ∧ 0 ≤ t ∧ t ≤ 3) ∧ bt k ≠ 0 ∧ bt t ≠ 0 ∧ bt k = bt t) ∧ (0 ≤ n ∧ 0 ≤ x ∧ 0 ≤ y ∧ x ≤ lg k - n ∧ y ≤ lg t - n)) ∧ r = jI n ∧ u.1 = fd ∧ u.2.1 = cyF ce (40 * k + x) (40 * t + y) n.toNat)) := by
  refine Ci.mk (cc := cX9_copy) (maxL := 7) (rt := .int) (by decide) rfl (Nat.le_of_ble_eq_true rfl) rfl ?_
  intro p_ e_ s_ m_ b_ me_ c_ A_ G hnm
  have k_X9 : ∀ w ∈ u_ws RX9 TX9 17, w ∈ wsX9_copy := fun _ h => List.mem_cons_of_mem _ (List.mem_append_right _ h)
  have q_1 : Cond.fieldLink RX9 34 "SupperLightModel" "bits" "[I" ∈ wsX9_copy := List.mem_of_getElem? (i := 1) rfl
  have q_2 : Cond.fieldLink RX9 37 "SupperLightModel" "longs" "[I" ∈ wsX9_copy := List.mem_of_getElem? (i := 2) rfl
  have q_3 : Cond.fieldLink RX9 40 "SupperLightModel" "cells" "[J" ∈ wsX9_copy := List.mem_of_getElem? (i := 4) rfl
  have q_4 : Cond.fieldLink RX9 44 "SupperLightModel" "between" "[J" ∈ wsX9_copy := List.mem_of_getElem? (i := 3) rfl
  refine v_iload_n (j := 1) (x := jI k) G dX9_copy_0 rfl rfl ?_
  refine v_ciN G (rn_S (As := [.int (jI k)]) (rest := []) G (c_X9_isSheet (k := k) (hr := (by omega))) gX9_copy_X9_isSheet rfl hdX9_isSheet ⟨rfl, rfl, Nat.le_of_ble_eq_true rfl, Nat.le_of_ble_eq_true rfl⟩ rfl rfl (Nat.le_of_ble_eq_true rfl) ⟨Nat.zero_le _, Nat.zero_le _⟩ dX9_copy_1) (fun r_1 u_3 e_2 => ?_)
  have e_2 : r_1 = jI (b2 (0 ≤ k ∧ k ≤ 3)) := e_2
  subst e_2
  refine v_ifb_eq (P := 0 ≤ k ∧ k ≤ 3) (tgt := 14) G dX9_copy_4 (by decide) (fun c_4 => ?_) (fun c_4 => ?_)
  · skip
    refine v_aload_n (j := 0) (x := a 0) G dX9_copy_14 rfl rfl ?_
    refine v_iconst G dX9_copy_15 ?_
    refine v_ciF G (rn_V (As := [.int (jI 0)]) (rest := []) (q0 := 0) G (c_X9_no (k := 0) (w := w) (kp := kp) (bf := bf) (ah := ah) (ik := ik) (fd := fd) (sp := sp) (lt := lt) (tp := tp) (tn := tn) (he := he) (ft := ft) (vl := vl) (bt := bt) (lg := lg) (ce := ce) (bw := bw) (a := a) (hk := (by omega))) gX9_copy_X9_no rfl hdX9_no ⟨rfl, rfl, Nat.le_of_ble_eq_true rfl, Nat.le_of_ble_eq_true rfl⟩ rfl rfl (Nat.le_of_ble_eq_true rfl) ⟨Nat.zero_le _, Nat.zero_le _⟩ rfl rfl dX9_copy_16) (fun r_5 u_7 e_6 => ?_)
    have e_6 : r_5 = jI ((-1000000001) - 0) := e_6
    subst e_6
    refine v_world (ws' := (wR cI cL a w kp bf ah ik (uI fd 0 (fd 0 + 1)) sp lt tp tn he ft vl bt lg ce bw)) rfl ?_
    exact v_iret G (uI fd 0 (fd 0 + 1), ce, bw) (by first | exact Or.inl ⟨(by omega), (by first | rfl | exact congrArg jI (by omega)), rfl, rfl⟩ | exact Or.inr (Or.inl ⟨(by omega), (by first | rfl | exact congrArg jI (by omega)), rfl, rfl⟩) | exact Or.inr (Or.inr (Or.inl ⟨(by omega), (by first | rfl | exact congrArg jI (by omega)), rfl, rfl⟩)) | exact Or.inr (Or.inr (Or.inr (Or.inl ⟨(by omega), (by first | rfl | exact congrArg jI (by omega)), rfl, rfl⟩))) | exact Or.inr (Or.inr (Or.inr (Or.inr ⟨(by omega), (by first | rfl | exact congrArg jI (by omega)), rfl, rfl⟩)))) rfl dX9_copy_19
  · skip
    refine v_iload_n (j := 3) (x := jI t) G dX9_copy_7 rfl rfl ?_
    refine v_ciN G (rn_S (As := [.int (jI t)]) (rest := []) G (c_X9_isSheet (k := t) (hr := (by omega))) gX9_copy_X9_isSheet rfl hdX9_isSheet ⟨rfl, rfl, Nat.le_of_ble_eq_true rfl, Nat.le_of_ble_eq_true rfl⟩ rfl rfl (Nat.le_of_ble_eq_true rfl) ⟨Nat.zero_le _, Nat.zero_le _⟩ dX9_copy_8) (fun r_8 u_10 e_9 => ?_)
    have e_9 : r_8 = jI (b2 (0 ≤ t ∧ t ≤ 3)) := e_9
    subst e_9
    refine v_ifb_ne (P := 0 ≤ t ∧ t ≤ 3) (tgt := 20) G dX9_copy_11 (by decide) (fun c_11 => ?_) (fun c_11 => ?_)
    · skip
      have hb := hs k (by omega) (by omega)
      have hb2 := hs t (by omega) (by omega)
      refine v_aload_n (j := 0) (x := a 0) G dX9_copy_20 rfl rfl ?_
      refine v_get (q0 := 0) (k := 13) (v := .ref (a 9)) G k_X9 rfl rfl (by decide) q_1 rfl rfl dX9_copy_21 ?_
      refine v_iload_n (j := 1) (x := jI k) G dX9_copy_24 rfl rfl ?_
      refine v_iald (q0 := 9) (t0 := 0) (g := bt) (z := k) G rfl rfl (by omega) dX9_copy_25 ?_
      refine v_if_eq (a := bt k) (tgt := 38) G dX9_copy_26 (by decide) (by omega) (fun c_12 => ?_) (fun c_12 => ?_)
      · skip
        refine v_aload_n (j := 0) (x := a 0) G dX9_copy_38 rfl rfl ?_
        refine v_iconst G dX9_copy_39 ?_
        refine v_ciF G (rn_V (As := [.int (jI 5)]) (rest := []) (q0 := 0) G (c_X9_no (k := 5) (w := w) (kp := kp) (bf := bf) (ah := ah) (ik := ik) (fd := fd) (sp := sp) (lt := lt) (tp := tp) (tn := tn) (he := he) (ft := ft) (vl := vl) (bt := bt) (lg := lg) (ce := ce) (bw := bw) (a := a) (hk := (by omega))) gX9_copy_X9_no rfl hdX9_no ⟨rfl, rfl, Nat.le_of_ble_eq_true rfl, Nat.le_of_ble_eq_true rfl⟩ rfl rfl (Nat.le_of_ble_eq_true rfl) ⟨Nat.zero_le _, Nat.zero_le _⟩ rfl rfl dX9_copy_40) (fun r_13 u_15 e_14 => ?_)
        have e_14 : r_13 = jI ((-1000000001) - 5) := e_14
        subst e_14
        refine v_world (ws' := (wR cI cL a w kp bf ah ik (uI fd 5 (fd 5 + 1)) sp lt tp tn he ft vl bt lg ce bw)) rfl ?_
        exact v_iret G (uI fd 5 (fd 5 + 1), ce, bw) (by first | exact Or.inl ⟨(by omega), (by first | rfl | exact congrArg jI (by omega)), rfl, rfl⟩ | exact Or.inr (Or.inl ⟨(by omega), (by first | rfl | exact congrArg jI (by omega)), rfl, rfl⟩) | exact Or.inr (Or.inr (Or.inl ⟨(by omega), (by first | rfl | exact congrArg jI (by omega)), rfl, rfl⟩)) | exact Or.inr (Or.inr (Or.inr (Or.inl ⟨(by omega), (by first | rfl | exact congrArg jI (by omega)), rfl, rfl⟩))) | exact Or.inr (Or.inr (Or.inr (Or.inr ⟨(by omega), (by first | rfl | exact congrArg jI (by omega)), rfl, rfl⟩)))) rfl dX9_copy_43
      · skip
        refine v_aload_n (j := 0) (x := a 0) G dX9_copy_29 rfl rfl ?_
        refine v_get (q0 := 0) (k := 13) (v := .ref (a 9)) G k_X9 rfl rfl (by decide) q_1 rfl rfl dX9_copy_30 ?_
        refine v_iload_n (j := 3) (x := jI t) G dX9_copy_33 rfl rfl ?_
        refine v_iald (q0 := 9) (t0 := 0) (g := bt) (z := t) G rfl rfl (by omega) dX9_copy_34 ?_
        refine v_if_ne (a := bt t) (tgt := 44) G dX9_copy_35 (by decide) (by omega) (fun c_16 => ?_) (fun c_16 => ?_)
        · skip
          refine v_aload_n (j := 0) (x := a 0) G dX9_copy_44 rfl rfl ?_
          refine v_get (q0 := 0) (k := 13) (v := .ref (a 9)) G k_X9 rfl rfl (by decide) q_1 rfl rfl dX9_copy_45 ?_
          refine v_iload_n (j := 1) (x := jI k) G dX9_copy_48 rfl rfl ?_
          refine v_iald (q0 := 9) (t0 := 0) (g := bt) (z := k) G rfl rfl (by omega) dX9_copy_49 ?_
          refine v_aload_n (j := 0) (x := a 0) G dX9_copy_50 rfl rfl ?_
          refine v_get (q0 := 0) (k := 13) (v := .ref (a 9)) G k_X9 rfl rfl (by decide) q_1 rfl rfl dX9_copy_51 ?_
          refine v_iload_n (j := 3) (x := jI t) G dX9_copy_54 rfl rfl ?_
          refine v_iald (q0 := 9) (t0 := 0) (g := bt) (z := t) G rfl rfl (by omega) dX9_copy_55 ?_
          refine v_icmp_eq (a := bt k) (b := bt t) (tgt := 65) G dX9_copy_56 (by decide) (by omega) (fun c_17 => ?_) (fun c_17 => ?_)
          · skip
            refine v_iload (j := 5) (x := jI n) G dX9_copy_65 rfl ?_
            refine v_if_lt (a := n) (tgt := 106) G dX9_copy_67 (by decide) (by omega) (fun c_18 => ?_) (fun c_18 => ?_)
            · skip
              refine v_aload_n (j := 0) (x := a 0) G dX9_copy_106 rfl rfl ?_
              refine v_iconst G dX9_copy_107 ?_
              refine v_ciF G (rn_V (As := [.int (jI 0)]) (rest := []) (q0 := 0) G (c_X9_no (k := 0) (w := w) (kp := kp) (bf := bf) (ah := ah) (ik := ik) (fd := fd) (sp := sp) (lt := lt) (tp := tp) (tn := tn) (he := he) (ft := ft) (vl := vl) (bt := bt) (lg := lg) (ce := ce) (bw := bw) (a := a) (hk := (by omega))) gX9_copy_X9_no rfl hdX9_no ⟨rfl, rfl, Nat.le_of_ble_eq_true rfl, Nat.le_of_ble_eq_true rfl⟩ rfl rfl (Nat.le_of_ble_eq_true rfl) ⟨Nat.zero_le _, Nat.zero_le _⟩ rfl rfl dX9_copy_108) (fun r_19 u_21 e_20 => ?_)
              have e_20 : r_19 = jI ((-1000000001) - 0) := e_20
              subst e_20
              refine v_world (ws' := (wR cI cL a w kp bf ah ik (uI fd 0 (fd 0 + 1)) sp lt tp tn he ft vl bt lg ce bw)) rfl ?_
              exact v_iret G (uI fd 0 (fd 0 + 1), ce, bw) (by first | exact Or.inl ⟨(by omega), (by first | rfl | exact congrArg jI (by omega)), rfl, rfl⟩ | exact Or.inr (Or.inl ⟨(by omega), (by first | rfl | exact congrArg jI (by omega)), rfl, rfl⟩) | exact Or.inr (Or.inr (Or.inl ⟨(by omega), (by first | rfl | exact congrArg jI (by omega)), rfl, rfl⟩)) | exact Or.inr (Or.inr (Or.inr (Or.inl ⟨(by omega), (by first | rfl | exact congrArg jI (by omega)), rfl, rfl⟩))) | exact Or.inr (Or.inr (Or.inr (Or.inr ⟨(by omega), (by first | rfl | exact congrArg jI (by omega)), rfl, rfl⟩)))) rfl dX9_copy_111
            · skip
              refine v_iload_n (j := 2) (x := jI x) G dX9_copy_70 rfl rfl ?_
              refine v_if_lt (a := x) (tgt := 106) G dX9_copy_71 (by decide) (by omega) (fun c_22 => ?_) (fun c_22 => ?_)
              · skip
                refine v_aload_n (j := 0) (x := a 0) G dX9_copy_106 rfl rfl ?_
                refine v_iconst G dX9_copy_107 ?_
                refine v_ciF G (rn_V (As := [.int (jI 0)]) (rest := []) (q0 := 0) G (c_X9_no (k := 0) (w := w) (kp := kp) (bf := bf) (ah := ah) (ik := ik) (fd := fd) (sp := sp) (lt := lt) (tp := tp) (tn := tn) (he := he) (ft := ft) (vl := vl) (bt := bt) (lg := lg) (ce := ce) (bw := bw) (a := a) (hk := (by omega))) gX9_copy_X9_no rfl hdX9_no ⟨rfl, rfl, Nat.le_of_ble_eq_true rfl, Nat.le_of_ble_eq_true rfl⟩ rfl rfl (Nat.le_of_ble_eq_true rfl) ⟨Nat.zero_le _, Nat.zero_le _⟩ rfl rfl dX9_copy_108) (fun r_23 u_25 e_24 => ?_)
                have e_24 : r_23 = jI ((-1000000001) - 0) := e_24
                subst e_24
                refine v_world (ws' := (wR cI cL a w kp bf ah ik (uI fd 0 (fd 0 + 1)) sp lt tp tn he ft vl bt lg ce bw)) rfl ?_
                exact v_iret G (uI fd 0 (fd 0 + 1), ce, bw) (by first | exact Or.inl ⟨(by omega), (by first | rfl | exact congrArg jI (by omega)), rfl, rfl⟩ | exact Or.inr (Or.inl ⟨(by omega), (by first | rfl | exact congrArg jI (by omega)), rfl, rfl⟩) | exact Or.inr (Or.inr (Or.inl ⟨(by omega), (by first | rfl | exact congrArg jI (by omega)), rfl, rfl⟩)) | exact Or.inr (Or.inr (Or.inr (Or.inl ⟨(by omega), (by first | rfl | exact congrArg jI (by omega)), rfl, rfl⟩))) | exact Or.inr (Or.inr (Or.inr (Or.inr ⟨(by omega), (by first | rfl | exact congrArg jI (by omega)), rfl, rfl⟩)))) rfl dX9_copy_111
              · skip
                refine v_iload (j := 4) (x := jI y) G dX9_copy_74 rfl ?_
                refine v_if_lt (a := y) (tgt := 106) G dX9_copy_76 (by decide) (by omega) (fun c_26 => ?_) (fun c_26 => ?_)
                · skip
                  refine v_aload_n (j := 0) (x := a 0) G dX9_copy_106 rfl rfl ?_
                  refine v_iconst G dX9_copy_107 ?_
                  refine v_ciF G (rn_V (As := [.int (jI 0)]) (rest := []) (q0 := 0) G (c_X9_no (k := 0) (w := w) (kp := kp) (bf := bf) (ah := ah) (ik := ik) (fd := fd) (sp := sp) (lt := lt) (tp := tp) (tn := tn) (he := he) (ft := ft) (vl := vl) (bt := bt) (lg := lg) (ce := ce) (bw := bw) (a := a) (hk := (by omega))) gX9_copy_X9_no rfl hdX9_no ⟨rfl, rfl, Nat.le_of_ble_eq_true rfl, Nat.le_of_ble_eq_true rfl⟩ rfl rfl (Nat.le_of_ble_eq_true rfl) ⟨Nat.zero_le _, Nat.zero_le _⟩ rfl rfl dX9_copy_108) (fun r_27 u_29 e_28 => ?_)
                  have e_28 : r_27 = jI ((-1000000001) - 0) := e_28
                  subst e_28
                  refine v_world (ws' := (wR cI cL a w kp bf ah ik (uI fd 0 (fd 0 + 1)) sp lt tp tn he ft vl bt lg ce bw)) rfl ?_
                  exact v_iret G (uI fd 0 (fd 0 + 1), ce, bw) (by first | exact Or.inl ⟨(by omega), (by first | rfl | exact congrArg jI (by omega)), rfl, rfl⟩ | exact Or.inr (Or.inl ⟨(by omega), (by first | rfl | exact congrArg jI (by omega)), rfl, rfl⟩) | exact Or.inr (Or.inr (Or.inl ⟨(by omega), (by first | rfl | exact congrArg jI (by omega)), rfl, rfl⟩)) | exact Or.inr (Or.inr (Or.inr (Or.inl ⟨(by omega), (by first | rfl | exact congrArg jI (by omega)), rfl, rfl⟩))) | exact Or.inr (Or.inr (Or.inr (Or.inr ⟨(by omega), (by first | rfl | exact congrArg jI (by omega)), rfl, rfl⟩)))) rfl dX9_copy_111
                · skip
                  refine v_iload_n (j := 2) (x := jI x) G dX9_copy_79 rfl rfl ?_
                  refine v_aload_n (j := 0) (x := a 0) G dX9_copy_80 rfl rfl ?_
                  refine v_get (q0 := 0) (k := 14) (v := .ref (a 10)) G k_X9 rfl rfl (by decide) q_2 rfl rfl dX9_copy_81 ?_
                  refine v_iload_n (j := 1) (x := jI k) G dX9_copy_84 rfl rfl ?_
                  refine v_iald (q0 := 10) (t0 := 0) (g := lg) (z := k) G rfl rfl (by omega) dX9_copy_85 ?_
                  refine v_iload (j := 5) (x := jI n) G dX9_copy_86 rfl ?_
                  refine v_isub (z := (lg k) - n) G dX9_copy_88 rfl ?_
                  refine v_icmp_gt (a := x) (b := (lg k) - n) (tgt := 106) G dX9_copy_89 (by decide) (by omega) (fun c_30 => ?_) (fun c_30 => ?_)
                  · skip
                    refine v_aload_n (j := 0) (x := a 0) G dX9_copy_106 rfl rfl ?_
                    refine v_iconst G dX9_copy_107 ?_
                    refine v_ciF G (rn_V (As := [.int (jI 0)]) (rest := []) (q0 := 0) G (c_X9_no (k := 0) (w := w) (kp := kp) (bf := bf) (ah := ah) (ik := ik) (fd := fd) (sp := sp) (lt := lt) (tp := tp) (tn := tn) (he := he) (ft := ft) (vl := vl) (bt := bt) (lg := lg) (ce := ce) (bw := bw) (a := a) (hk := (by omega))) gX9_copy_X9_no rfl hdX9_no ⟨rfl, rfl, Nat.le_of_ble_eq_true rfl, Nat.le_of_ble_eq_true rfl⟩ rfl rfl (Nat.le_of_ble_eq_true rfl) ⟨Nat.zero_le _, Nat.zero_le _⟩ rfl rfl dX9_copy_108) (fun r_31 u_33 e_32 => ?_)
                    have e_32 : r_31 = jI ((-1000000001) - 0) := e_32
                    subst e_32
                    refine v_world (ws' := (wR cI cL a w kp bf ah ik (uI fd 0 (fd 0 + 1)) sp lt tp tn he ft vl bt lg ce bw)) rfl ?_
                    exact v_iret G (uI fd 0 (fd 0 + 1), ce, bw) (by first | exact Or.inl ⟨(by omega), (by first | rfl | exact congrArg jI (by omega)), rfl, rfl⟩ | exact Or.inr (Or.inl ⟨(by omega), (by first | rfl | exact congrArg jI (by omega)), rfl, rfl⟩) | exact Or.inr (Or.inr (Or.inl ⟨(by omega), (by first | rfl | exact congrArg jI (by omega)), rfl, rfl⟩)) | exact Or.inr (Or.inr (Or.inr (Or.inl ⟨(by omega), (by first | rfl | exact congrArg jI (by omega)), rfl, rfl⟩))) | exact Or.inr (Or.inr (Or.inr (Or.inr ⟨(by omega), (by first | rfl | exact congrArg jI (by omega)), rfl, rfl⟩)))) rfl dX9_copy_111
                  · skip
                    refine v_iload (j := 4) (x := jI y) G dX9_copy_92 rfl ?_
                    refine v_aload_n (j := 0) (x := a 0) G dX9_copy_94 rfl rfl ?_
                    refine v_get (q0 := 0) (k := 14) (v := .ref (a 10)) G k_X9 rfl rfl (by decide) q_2 rfl rfl dX9_copy_95 ?_
                    refine v_iload_n (j := 3) (x := jI t) G dX9_copy_98 rfl rfl ?_
                    refine v_iald (q0 := 10) (t0 := 0) (g := lg) (z := t) G rfl rfl (by omega) dX9_copy_99 ?_
                    refine v_iload (j := 5) (x := jI n) G dX9_copy_100 rfl ?_
                    refine v_isub (z := (lg t) - n) G dX9_copy_102 rfl ?_
                    refine v_icmp_le (a := y) (b := (lg t) - n) (tgt := 112) G dX9_copy_103 (by decide) (by omega) (fun c_34 => ?_) (fun c_34 => ?_)
                    · skip
                      refine v_iconst G dX9_copy_112 ?_
                      refine v_istore (lv' := [(6, .int (jI 0)), (0, .ref (a 0)), (1, .int (jI k)), (2, .int (jI x)), (3, .int (jI t)), (4, .int (jI y)), (5, .int (jI n))]) G dX9_copy_113 (by decide) rfl ?_
                      refine v_cellL (q0 := 12) (g := bw) (g' := cpL (fun z_ => ce (40 * k + x + z_)) bw 0) (ws' := (wR cI cL a w kp bf ah ik fd sp lt tp tn he ft vl bt lg ce (cpL (fun z_ => ce (40 * k + x + z_)) bw 0))) rfl (fun j h0 _ => by unfold cpL; rw [if_neg (by omega)]) rfl ?_
                      refine v_locs (lv' := [(6, .int (jI 0)), (0, .ref (a 0)), (1, .int (jI k)), (2, .int (jI x)), (3, .int (jI t)), (4, .int (jI y)), (5, .int (jI n))]) [0, 1, 2, 3, 4, 5, 6] rfl ?_
                      refine v_loop1 (fun (j : Nat) => [(6, .int (jI (j : Int))), (0, .ref (a 0)), (1, .int (jI k)), (2, .int (jI x)), (3, .int (jI t)), (4, .int (jI y)), (5, .int (jI n))]) (fun (j : Nat) => (wR cI cL a w kp bf ah ik fd sp lt tp tn he ft vl bt lg ce (cpL (fun z_ => ce (40 * k + x + z_)) bw j))) (fun (j : Nat) => (j : Int) ≤ n) (fun (j : Nat) => n.toNat - j) 0 (by omega) rfl rfl ?_
                      intro j I_35 ih_36
                      refine v_iload (j := 0) (x := jI (j : Int)) G dX9_copy_115 rfl ?_
                      refine v_iload (j := 6) (x := jI n) G dX9_copy_117 rfl ?_
                      refine v_icmp_ge (a := (j : Int)) (b := n) (tgt := 149) G dX9_copy_119 (by decide) (by omega) (fun c_37 => ?_) (fun c_37 => ?_)
                      · skip
                        obtain rfl : j = n.toNat := by omega
                        refine v_iconst G dX9_copy_149 ?_
                        refine v_istore (lv' := [(6, .int (jI 0)), (0, .ref (a 0)), (1, .int (jI k)), (2, .int (jI x)), (3, .int (jI t)), (4, .int (jI y)), (5, .int (jI n))]) G dX9_copy_150 (by decide) rfl ?_
                        refine v_cellL (q0 := 11) (g := ce) (g' := cyF ce (40 * k + x) (40 * t + y) 0) (ws' := (wR cI cL a w kp bf ah ik fd sp lt tp tn he ft vl bt lg (cyF ce (40 * k + x) (40 * t + y) 0) (cpL (fun z_ => ce (40 * k + x + z_)) bw n.toNat))) rfl (fun j h0 _ => by unfold cyF; rw [if_neg (by omega)]) rfl ?_
                        refine v_locs (lv' := [(6, .int (jI 0)), (0, .ref (a 0)), (1, .int (jI k)), (2, .int (jI x)), (3, .int (jI t)), (4, .int (jI y)), (5, .int (jI n))]) [0, 1, 2, 3, 4, 5, 6] rfl ?_
                        refine v_loop1 (fun (q : Nat) => [(6, .int (jI (q : Int))), (0, .ref (a 0)), (1, .int (jI k)), (2, .int (jI x)), (3, .int (jI t)), (4, .int (jI y)), (5, .int (jI n))]) (fun (q : Nat) => (wR cI cL a w kp bf ah ik fd sp lt tp tn he ft vl bt lg (cyF ce (40 * k + x) (40 * t + y) q) (cpL (fun z_ => ce (40 * k + x + z_)) bw n.toNat))) (fun (q : Nat) => (q : Int) ≤ n) (fun (q : Nat) => n.toNat - q) 0 (by omega) rfl rfl ?_
                        intro q I_38 ih_39
                        refine v_iload (j := 0) (x := jI (q : Int)) G dX9_copy_152 rfl ?_
                        refine v_iload (j := 6) (x := jI n) G dX9_copy_154 rfl ?_
                        refine v_icmp_ge (a := (q : Int)) (b := n) (tgt := 187) G dX9_copy_156 (by decide) (by omega) (fun c_40 => ?_) (fun c_40 => ?_)
                        · skip
                          obtain rfl : q = n.toNat := by omega
                          refine v_iload (j := 6) (x := jI n) G dX9_copy_187 rfl ?_
                          exact v_iret G (fd, cyF ce (40 * k + x) (40 * t + y) n.toNat, cpL (fun z_ => ce (40 * k + x + z_)) bw n.toNat) (by first | exact Or.inl ⟨(by omega), (by first | rfl | exact congrArg jI (by omega)), rfl, rfl⟩ | exact Or.inr (Or.inl ⟨(by omega), (by first | rfl | exact congrArg jI (by omega)), rfl, rfl⟩) | exact Or.inr (Or.inr (Or.inl ⟨(by omega), (by first | rfl | exact congrArg jI (by omega)), rfl, rfl⟩)) | exact Or.inr (Or.inr (Or.inr (Or.inl ⟨(by omega), (by first | rfl | exact congrArg jI (by omega)), rfl, rfl⟩))) | exact Or.inr (Or.inr (Or.inr (Or.inr ⟨(by omega), (by first | rfl | exact congrArg jI (by omega)), rfl, rfl⟩)))) rfl dX9_copy_189
                        · skip
                          refine v_aload_n (j := 1) (x := a 0) G dX9_copy_159 rfl rfl ?_
                          refine v_get (q0 := 0) (k := 15) (v := .ref (a 11)) G k_X9 rfl rfl (by decide) q_3 rfl rfl dX9_copy_160 ?_
                          refine v_bipush G dX9_copy_163 (by decide) ?_
                          refine v_iload_n (j := 4) (x := jI t) G dX9_copy_165 rfl rfl ?_
                          refine v_imul (z := 40 * t) G dX9_copy_166 rfl ?_
                          refine v_iload (j := 5) (x := jI y) G dX9_copy_167 rfl ?_
                          refine v_iadd (z := (40 * t) + y) G dX9_copy_169 rfl ?_
                          refine v_iload (j := 0) (x := jI (q : Int)) G dX9_copy_170 rfl ?_
                          refine v_iadd (z := ((40 * t) + y) + (q : Int)) G dX9_copy_172 rfl ?_
                          refine v_aload_n (j := 1) (x := a 0) G dX9_copy_173 rfl rfl ?_
                          refine v_get (q0 := 0) (k := 16) (v := .ref (a 12)) G k_X9 rfl rfl (by decide) q_4 rfl rfl dX9_copy_174 ?_
                          refine v_iload (j := 0) (x := jI (q : Int)) G dX9_copy_177 rfl ?_
                          refine v_lald (q0 := 12) (t0 := 1) (g := cpL (fun z_ => ce (40 * k + x + z_)) bw n.toNat) (z := (q : Int)) G rfl rfl (by omega) dX9_copy_179 ?_
                          refine v_last (q0 := 11) (t0 := 1) (g := cyF ce (40 * k + x) (40 * t + y) q) (z := ((40 * t) + y) + (q : Int)) (x := (cpL (fun z_ => ce (40 * k + x + z_)) bw n.toNat) (q : Int)) (ws' := (wR cI cL a w kp bf ah ik fd sp lt tp tn he ft vl bt lg (uL (cyF ce (40 * k + x) (40 * t + y) q) (((40 * t) + y) + (q : Int)) ((cpL (fun z_ => ce (40 * k + x + z_)) bw n.toNat) (q : Int))) (cpL (fun z_ => ce (40 * k + x + z_)) bw n.toNat))) G rfl rfl (by omega) rfl dX9_copy_180 ?_
                          refine v_cellL (q0 := 11) (g := uL (cyF ce (40 * k + x) (40 * t + y) q) (((40 * t) + y) + (q : Int)) ((cpL (fun z_ => ce (40 * k + x + z_)) bw n.toNat) (q : Int))) (g' := cyF ce (40 * k + x) (40 * t + y) (q + 1)) (ws' := (wR cI cL a w kp bf ah ik fd sp lt tp tn he ft vl bt lg (cyF ce (40 * k + x) (40 * t + y) (q + 1)) (cpL (fun z_ => ce (40 * k + x + z_)) bw n.toNat))) rfl (fun j h0 _ => cyF_s ce (40 * k + x) (40 * t + y) q bw n.toNat (by omega) j) rfl ?_
                          refine v_iinc (k := 0) (z := (q : Int)) (z' := ((q + 1 : Nat) : Int)) (lv' := [(6, .int (jI ((q + 1 : Nat) : Int))), (0, .ref (a 0)), (1, .int (jI k)), (2, .int (jI x)), (3, .int (jI t)), (4, .int (jI y)), (5, .int (jI n))]) G dX9_copy_181 rfl (by omega) (by decide) rfl ?_
                          refine v_goto (tgt := 152) G dX9_copy_184 (by decide) ?_
                          exact ih_39 (q + 1) (by omega) (by omega)
                      · skip
                        refine v_aload_n (j := 1) (x := a 0) G dX9_copy_122 rfl rfl ?_
                        refine v_get (q0 := 0) (k := 16) (v := .ref (a 12)) G k_X9 rfl rfl (by decide) q_4 rfl rfl dX9_copy_123 ?_
                        refine v_iload (j := 0) (x := jI (j : Int)) G dX9_copy_126 rfl ?_
                        refine v_aload_n (j := 1) (x := a 0) G dX9_copy_128 rfl rfl ?_
                        refine v_get (q0 := 0) (k := 15) (v := .ref (a 11)) G k_X9 rfl rfl (by decide) q_3 rfl rfl dX9_copy_129 ?_
                        refine v_bipush G dX9_copy_132 (by decide) ?_
                        refine v_iload_n (j := 2) (x := jI k) G dX9_copy_134 rfl rfl ?_
                        refine v_imul (z := 40 * k) G dX9_copy_135 rfl ?_
                        refine v_iload_n (j := 3) (x := jI x) G dX9_copy_136 rfl rfl ?_
                        refine v_iadd (z := (40 * k) + x) G dX9_copy_137 rfl ?_
                        refine v_iload (j := 0) (x := jI (j : Int)) G dX9_copy_138 rfl ?_
                        refine v_iadd (z := ((40 * k) + x) + (j : Int)) G dX9_copy_140 rfl ?_
                        refine v_lald (q0 := 11) (t0 := 1) (g := ce) (z := ((40 * k) + x) + (j : Int)) G rfl rfl (by omega) dX9_copy_141 ?_
                        refine v_last (q0 := 12) (t0 := 1) (g := cpL (fun z_ => ce (40 * k + x + z_)) bw j) (z := (j : Int)) (x := ce (((40 * k) + x) + (j : Int))) (ws' := (wR cI cL a w kp bf ah ik fd sp lt tp tn he ft vl bt lg ce (uL (cpL (fun z_ => ce (40 * k + x + z_)) bw j) (j : Int) (ce (((40 * k) + x) + (j : Int)))))) G rfl rfl (by omega) rfl dX9_copy_142 ?_
                        refine v_cellL (q0 := 12) (g := uL (cpL (fun z_ => ce (40 * k + x + z_)) bw j) (j : Int) (ce (((40 * k) + x) + (j : Int)))) (g' := cpL (fun z_ => ce (40 * k + x + z_)) bw (j + 1)) (ws' := (wR cI cL a w kp bf ah ik fd sp lt tp tn he ft vl bt lg ce (cpL (fun z_ => ce (40 * k + x + z_)) bw (j + 1)))) rfl (fun q h0 _ => cpL_s (fun z_ => ce (40 * k + x + z_)) bw j q h0) rfl ?_
                        refine v_iinc (k := 0) (z := (j : Int)) (z' := ((j + 1 : Nat) : Int)) (lv' := [(6, .int (jI ((j + 1 : Nat) : Int))), (0, .ref (a 0)), (1, .int (jI k)), (2, .int (jI x)), (3, .int (jI t)), (4, .int (jI y)), (5, .int (jI n))]) G dX9_copy_143 rfl (by omega) (by decide) rfl ?_
                        refine v_goto (tgt := 115) G dX9_copy_146 (by decide) ?_
                        exact ih_36 (j + 1) (by omega) (by omega)
                    · skip
                      refine v_aload_n (j := 0) (x := a 0) G dX9_copy_106 rfl rfl ?_
                      refine v_iconst G dX9_copy_107 ?_
                      refine v_ciF G (rn_V (As := [.int (jI 0)]) (rest := []) (q0 := 0) G (c_X9_no (k := 0) (w := w) (kp := kp) (bf := bf) (ah := ah) (ik := ik) (fd := fd) (sp := sp) (lt := lt) (tp := tp) (tn := tn) (he := he) (ft := ft) (vl := vl) (bt := bt) (lg := lg) (ce := ce) (bw := bw) (a := a) (hk := (by omega))) gX9_copy_X9_no rfl hdX9_no ⟨rfl, rfl, Nat.le_of_ble_eq_true rfl, Nat.le_of_ble_eq_true rfl⟩ rfl rfl (Nat.le_of_ble_eq_true rfl) ⟨Nat.zero_le _, Nat.zero_le _⟩ rfl rfl dX9_copy_108) (fun r_41 u_43 e_42 => ?_)
                      have e_42 : r_41 = jI ((-1000000001) - 0) := e_42
                      subst e_42
                      refine v_world (ws' := (wR cI cL a w kp bf ah ik (uI fd 0 (fd 0 + 1)) sp lt tp tn he ft vl bt lg ce bw)) rfl ?_
                      exact v_iret G (uI fd 0 (fd 0 + 1), ce, bw) (by first | exact Or.inl ⟨(by omega), (by first | rfl | exact congrArg jI (by omega)), rfl, rfl⟩ | exact Or.inr (Or.inl ⟨(by omega), (by first | rfl | exact congrArg jI (by omega)), rfl, rfl⟩) | exact Or.inr (Or.inr (Or.inl ⟨(by omega), (by first | rfl | exact congrArg jI (by omega)), rfl, rfl⟩)) | exact Or.inr (Or.inr (Or.inr (Or.inl ⟨(by omega), (by first | rfl | exact congrArg jI (by omega)), rfl, rfl⟩))) | exact Or.inr (Or.inr (Or.inr (Or.inr ⟨(by omega), (by first | rfl | exact congrArg jI (by omega)), rfl, rfl⟩)))) rfl dX9_copy_111
          · skip
            refine v_aload_n (j := 0) (x := a 0) G dX9_copy_59 rfl rfl ?_
            refine v_iconst G dX9_copy_60 ?_
            refine v_ciF G (rn_V (As := [.int (jI 2)]) (rest := []) (q0 := 0) G (c_X9_no (k := 2) (w := w) (kp := kp) (bf := bf) (ah := ah) (ik := ik) (fd := fd) (sp := sp) (lt := lt) (tp := tp) (tn := tn) (he := he) (ft := ft) (vl := vl) (bt := bt) (lg := lg) (ce := ce) (bw := bw) (a := a) (hk := (by omega))) gX9_copy_X9_no rfl hdX9_no ⟨rfl, rfl, Nat.le_of_ble_eq_true rfl, Nat.le_of_ble_eq_true rfl⟩ rfl rfl (Nat.le_of_ble_eq_true rfl) ⟨Nat.zero_le _, Nat.zero_le _⟩ rfl rfl dX9_copy_61) (fun r_44 u_46 e_45 => ?_)
            have e_45 : r_44 = jI ((-1000000001) - 2) := e_45
            subst e_45
            refine v_world (ws' := (wR cI cL a w kp bf ah ik (uI fd 2 (fd 2 + 1)) sp lt tp tn he ft vl bt lg ce bw)) rfl ?_
            exact v_iret G (uI fd 2 (fd 2 + 1), ce, bw) (by first | exact Or.inl ⟨(by omega), (by first | rfl | exact congrArg jI (by omega)), rfl, rfl⟩ | exact Or.inr (Or.inl ⟨(by omega), (by first | rfl | exact congrArg jI (by omega)), rfl, rfl⟩) | exact Or.inr (Or.inr (Or.inl ⟨(by omega), (by first | rfl | exact congrArg jI (by omega)), rfl, rfl⟩)) | exact Or.inr (Or.inr (Or.inr (Or.inl ⟨(by omega), (by first | rfl | exact congrArg jI (by omega)), rfl, rfl⟩))) | exact Or.inr (Or.inr (Or.inr (Or.inr ⟨(by omega), (by first | rfl | exact congrArg jI (by omega)), rfl, rfl⟩)))) rfl dX9_copy_64
        · skip
          refine v_aload_n (j := 0) (x := a 0) G dX9_copy_38 rfl rfl ?_
          refine v_iconst G dX9_copy_39 ?_
          refine v_ciF G (rn_V (As := [.int (jI 5)]) (rest := []) (q0 := 0) G (c_X9_no (k := 5) (w := w) (kp := kp) (bf := bf) (ah := ah) (ik := ik) (fd := fd) (sp := sp) (lt := lt) (tp := tp) (tn := tn) (he := he) (ft := ft) (vl := vl) (bt := bt) (lg := lg) (ce := ce) (bw := bw) (a := a) (hk := (by omega))) gX9_copy_X9_no rfl hdX9_no ⟨rfl, rfl, Nat.le_of_ble_eq_true rfl, Nat.le_of_ble_eq_true rfl⟩ rfl rfl (Nat.le_of_ble_eq_true rfl) ⟨Nat.zero_le _, Nat.zero_le _⟩ rfl rfl dX9_copy_40) (fun r_47 u_49 e_48 => ?_)
          have e_48 : r_47 = jI ((-1000000001) - 5) := e_48
          subst e_48
          refine v_world (ws' := (wR cI cL a w kp bf ah ik (uI fd 5 (fd 5 + 1)) sp lt tp tn he ft vl bt lg ce bw)) rfl ?_
          exact v_iret G (uI fd 5 (fd 5 + 1), ce, bw) (by first | exact Or.inl ⟨(by omega), (by first | rfl | exact congrArg jI (by omega)), rfl, rfl⟩ | exact Or.inr (Or.inl ⟨(by omega), (by first | rfl | exact congrArg jI (by omega)), rfl, rfl⟩) | exact Or.inr (Or.inr (Or.inl ⟨(by omega), (by first | rfl | exact congrArg jI (by omega)), rfl, rfl⟩)) | exact Or.inr (Or.inr (Or.inr (Or.inl ⟨(by omega), (by first | rfl | exact congrArg jI (by omega)), rfl, rfl⟩))) | exact Or.inr (Or.inr (Or.inr (Or.inr ⟨(by omega), (by first | rfl | exact congrArg jI (by omega)), rfl, rfl⟩)))) rfl dX9_copy_43
    · skip
      refine v_aload_n (j := 0) (x := a 0) G dX9_copy_14 rfl rfl ?_
      refine v_iconst G dX9_copy_15 ?_
      refine v_ciF G (rn_V (As := [.int (jI 0)]) (rest := []) (q0 := 0) G (c_X9_no (k := 0) (w := w) (kp := kp) (bf := bf) (ah := ah) (ik := ik) (fd := fd) (sp := sp) (lt := lt) (tp := tp) (tn := tn) (he := he) (ft := ft) (vl := vl) (bt := bt) (lg := lg) (ce := ce) (bw := bw) (a := a) (hk := (by omega))) gX9_copy_X9_no rfl hdX9_no ⟨rfl, rfl, Nat.le_of_ble_eq_true rfl, Nat.le_of_ble_eq_true rfl⟩ rfl rfl (Nat.le_of_ble_eq_true rfl) ⟨Nat.zero_le _, Nat.zero_le _⟩ rfl rfl dX9_copy_16) (fun r_50 u_52 e_51 => ?_)
      have e_51 : r_50 = jI ((-1000000001) - 0) := e_51
      subst e_51
      refine v_world (ws' := (wR cI cL a w kp bf ah ik (uI fd 0 (fd 0 + 1)) sp lt tp tn he ft vl bt lg ce bw)) rfl ?_
      exact v_iret G (uI fd 0 (fd 0 + 1), ce, bw) (by first | exact Or.inl ⟨(by omega), (by first | rfl | exact congrArg jI (by omega)), rfl, rfl⟩ | exact Or.inr (Or.inl ⟨(by omega), (by first | rfl | exact congrArg jI (by omega)), rfl, rfl⟩) | exact Or.inr (Or.inr (Or.inl ⟨(by omega), (by first | rfl | exact congrArg jI (by omega)), rfl, rfl⟩)) | exact Or.inr (Or.inr (Or.inr (Or.inl ⟨(by omega), (by first | rfl | exact congrArg jI (by omega)), rfl, rfl⟩))) | exact Or.inr (Or.inr (Or.inr (Or.inr ⟨(by omega), (by first | rfl | exact congrArg jI (by omega)), rfl, rfl⟩)))) rfl dX9_copy_19

set_option maxHeartbeats 4000000 in
set_option maxRecDepth 100000 in
theorem c_X9_lays (k : Int) (hw : Wf w) (hs : ∀ k_ : Int, 0 ≤ k_ → k_ < 4 → (bt k_ = 0 ∨ bt k_ = 8 ∨ bt k_ = 16 ∨ bt k_ = 64) ∧ 0 ≤ lg k_ ∧ lg k_ ≤ 40) (hr : (-2147483648 ≤ k ∧ k ≤ 2147483647)) : Ci l yX9_lays wsX9_lays { frames := 2, cells := 0, slots := 0, locals := 42 } D (jT cI cL cB cS) [.ref (a 0), .int (jI k)] (wR cI cL a w kp bf ah ik fd sp lt tp tn he ft vl bt lg ce bw) (S := (Int → Int) × (Int → Int)) (fun u => (wR cI cL a u.1 kp bf ah ik u.2 sp lt tp tn he ft vl bt lg ce bw)) (fun r u => ((¬ (0 ≤ k ∧ k ≤ 3)) ∧ r = jI (-1000000001) ∧ u.1 = w ∧ u.2 = uI fd 0 (fd 0 + 1)) ∨ (((0 ≤ k ∧ k ≤ 3) ∧ bt k = 0) ∧ r = jI (-1000000006) ∧ u.1 = w ∧ u.2 = uI fd 5 (fd 5 + 1)) ∨ (((0 ≤ k ∧ k ≤ 3) ∧ bt k ≠ 0) ∧ r = jI (lyC (fun z_ => ce (40 * k + z_)) (if lg k < 16 then lg k else 16).toNat) ∧ u.1 = lyW w (fun z_ => ce (40 * k + z_)) (if lg k < 16 then lg k else 16).toNat ∧ u.2 = fd)) := by
  refine Ci.mk (cc := cX9_lays) (maxL := 6) (rt := .int) (by decide) rfl (Nat.le_of_ble_eq_true rfl) rfl ?_
  intro p_ e_ s_ m_ b_ me_ c_ A_ G hnm
  have k_X9 : ∀ w ∈ u_ws RX9 TX9 17, w ∈ wsX9_lays := fun _ h => List.mem_cons_of_mem _ (List.mem_append_right _ h)
  have q_1 : Cond.fieldLink RX9 34 "SupperLightModel" "bits" "[I" ∈ wsX9_lays := List.mem_of_getElem? (i := 1) rfl
  have q_2 : Cond.fieldLink RX9 37 "SupperLightModel" "longs" "[I" ∈ wsX9_lays := List.mem_of_getElem? (i := 2) rfl
  have q_3 : Cond.fieldLink RX9 40 "SupperLightModel" "cells" "[J" ∈ wsX9_lays := List.mem_of_getElem? (i := 3) rfl
  have q_4 : Cond.constantLong RX9 294 (99) ∈ wsX9_lays := List.mem_of_getElem? (i := 4) rfl
  have q_5 : Cond.fieldLink RX9 9 "SupperLightModel" "s" "[I" ∈ wsX9_lays := List.mem_of_getElem? (i := 5) rfl
  refine v_iload_n (j := 1) (x := jI k) G dX9_lays_0 rfl rfl ?_
  refine v_ciN G (rn_S (As := [.int (jI k)]) (rest := []) G (c_X9_isSheet (k := k) (hr := (by omega))) gX9_lays_X9_isSheet rfl hdX9_isSheet ⟨rfl, rfl, Nat.le_of_ble_eq_true rfl, Nat.le_of_ble_eq_true rfl⟩ rfl rfl (Nat.le_of_ble_eq_true rfl) ⟨Nat.zero_le _, Nat.zero_le _⟩ dX9_lays_1) (fun r_1 u_3 e_2 => ?_)
  have e_2 : r_1 = jI (b2 (0 ≤ k ∧ k ≤ 3)) := e_2
  subst e_2
  refine v_ifb_ne (P := 0 ≤ k ∧ k ≤ 3) (tgt := 13) G dX9_lays_4 (by decide) (fun c_4 => ?_) (fun c_4 => ?_)
  · skip
    have hb := hs k (by omega) (by omega)
    refine v_aload_n (j := 0) (x := a 0) G dX9_lays_13 rfl rfl ?_
    refine v_get (q0 := 0) (k := 13) (v := .ref (a 9)) G k_X9 rfl rfl (by decide) q_1 rfl rfl dX9_lays_14 ?_
    refine v_iload_n (j := 1) (x := jI k) G dX9_lays_17 rfl rfl ?_
    refine v_iald (q0 := 9) (t0 := 0) (g := bt) (z := k) G rfl rfl (by omega) dX9_lays_18 ?_
    refine v_if_ne (a := bt k) (tgt := 28) G dX9_lays_19 (by decide) (by omega) (fun c_5 => ?_) (fun c_5 => ?_)
    · skip
      refine v_iconst G dX9_lays_28 ?_
      refine v_istore_n (lv' := [(2, .int (jI 0)), (0, .ref (a 0)), (1, .int (jI k))]) G dX9_lays_29 rfl (by decide) rfl ?_
      refine v_iconst G dX9_lays_30 ?_
      refine v_istore_n (lv' := [(3, .int (jI 0)), (2, .int (jI 0)), (0, .ref (a 0)), (1, .int (jI k))]) G dX9_lays_31 rfl (by decide) rfl ?_
      refine v_world (ws' := (wR cI cL a (lyW w (fun z_ => ce (40 * k + z_)) 0) kp bf ah ik fd sp lt tp tn he ft vl bt lg ce bw)) rfl ?_
      refine v_locs (lv' := [(3, .int (jI 0)), (2, .int (jI 0)), (0, .ref (a 0)), (1, .int (jI k))]) [0, 1, 2, 3] rfl ?_
      refine v_loop1 (fun (i : Nat) => [(3, .int (jI (i : Int))), (2, .int (jI (lyC (fun z_ => ce (40 * k + z_)) i))), (0, .ref (a 0)), (1, .int (jI k))]) (fun (i : Nat) => (wR cI cL a (lyW w (fun z_ => ce (40 * k + z_)) i) kp bf ah ik fd sp lt tp tn he ft vl bt lg ce bw)) (fun (i : Nat) => (i : Int) ≤ lg k ∧ i ≤ 16) (fun (i : Nat) => 16 - i) 0 ⟨by omega, by decide⟩ rfl rfl ?_
      intro i I_6 ih_7
      refine v_iload_n (j := 0) (x := jI (i : Int)) G dX9_lays_32 rfl rfl ?_
      refine v_aload_n (j := 2) (x := a 0) G dX9_lays_33 rfl rfl ?_
      refine v_get (q0 := 0) (k := 14) (v := .ref (a 10)) G k_X9 rfl rfl (by decide) q_2 rfl rfl dX9_lays_34 ?_
      refine v_iload_n (j := 3) (x := jI k) G dX9_lays_37 rfl rfl ?_
      refine v_iald (q0 := 10) (t0 := 0) (g := lg) (z := k) G rfl rfl (by omega) dX9_lays_38 ?_
      refine v_icmp_ge (a := (i : Int)) (b := lg k) (tgt := 97) G dX9_lays_39 (by decide) (by omega) (fun c_8 => ?_) (fun c_8 => ?_)
      · skip
        obtain rfl : i = (if lg k < 16 then lg k else 16).toNat := by split <;> omega
        refine v_iload_n (j := 1) (x := jI (lyC (fun z_ => ce (40 * k + z_)) ((if lg k < 16 then lg k else 16).toNat))) G dX9_lays_97 rfl rfl ?_
        exact v_iret G (lyW w (fun z_ => ce (40 * k + z_)) ((if lg k < 16 then lg k else 16).toNat), fd) (by first | exact Or.inl ⟨(by omega), (by first | rfl | exact congrArg jI (by omega)), rfl, rfl⟩ | exact Or.inr (Or.inl ⟨(by omega), (by first | rfl | exact congrArg jI (by omega)), rfl, rfl⟩) | exact Or.inr (Or.inr ⟨(by omega), (by first | rfl | exact congrArg jI (by omega)), rfl, rfl⟩)) rfl dX9_lays_98
      · skip
        refine v_iload_n (j := 0) (x := jI (i : Int)) G dX9_lays_42 rfl rfl ?_
        refine v_bipush G dX9_lays_43 (by decide) ?_
        refine v_icmp_ge (a := (i : Int)) (b := 16) (tgt := 97) G dX9_lays_45 (by decide) (by omega) (fun c_9 => ?_) (fun c_9 => ?_)
        · skip
          obtain rfl : i = (if lg k < 16 then lg k else 16).toNat := by split <;> omega
          refine v_iload_n (j := 1) (x := jI (lyC (fun z_ => ce (40 * k + z_)) ((if lg k < 16 then lg k else 16).toNat))) G dX9_lays_97 rfl rfl ?_
          exact v_iret G (lyW w (fun z_ => ce (40 * k + z_)) ((if lg k < 16 then lg k else 16).toNat), fd) (by first | exact Or.inl ⟨(by omega), (by first | rfl | exact congrArg jI (by omega)), rfl, rfl⟩ | exact Or.inr (Or.inl ⟨(by omega), (by first | rfl | exact congrArg jI (by omega)), rfl, rfl⟩) | exact Or.inr (Or.inr ⟨(by omega), (by first | rfl | exact congrArg jI (by omega)), rfl, rfl⟩)) rfl dX9_lays_98
        · skip
          refine v_aload_n (j := 2) (x := a 0) G dX9_lays_48 rfl rfl ?_
          refine v_get (q0 := 0) (k := 15) (v := .ref (a 11)) G k_X9 rfl rfl (by decide) q_3 rfl rfl dX9_lays_49 ?_
          refine v_bipush G dX9_lays_52 (by decide) ?_
          refine v_iload_n (j := 3) (x := jI k) G dX9_lays_54 rfl rfl ?_
          refine v_imul (z := 40 * k) G dX9_lays_55 rfl ?_
          refine v_iload_n (j := 0) (x := jI (i : Int)) G dX9_lays_56 rfl rfl ?_
          refine v_iadd (z := (40 * k) + (i : Int)) G dX9_lays_57 rfl ?_
          refine v_lald (q0 := 11) (t0 := 1) (g := ce) (z := (40 * k) + (i : Int)) G rfl rfl (by omega) dX9_lays_58 ?_
          have hl64 := Int64.le_toInt (ce (40 * k + (i : Int)))
          refine v_lstore (lv' := [(4, .long (ce ((40 * k) + (i : Int)))), (3, .int (jI (i : Int))), (2, .int (jI (lyC (fun z_ => ce (40 * k + z_)) i))), (0, .ref (a 0)), (1, .int (jI k))]) G dX9_lays_59 (by decide) rfl ?_
          refine v_lload (j := 0) (x := ce ((40 * k) + (i : Int))) G dX9_lays_61 rfl ?_
          refine v_lconst (z := 0) G dX9_lays_63 (by decide) ?_
          refine v_lcmp G dX9_lays_64 ?_
          refine v_top (lg_lc (ce ((40 * k) + (i : Int))) (jL 0)) ?_
          have h_10 := lc_z (ce ((40 * k) + (i : Int))) (jL 0)
          have h_11 := jL_toInt (z := 0) (by omega)
          refine v_if_lt (a := lc (ce ((40 * k) + (i : Int))) (jL 0)) (tgt := 91) G dX9_lays_65 (by decide) (by omega) (fun c_12 => ?_) (fun c_12 => ?_)
          · skip
            refine v_world (ws' := (wR cI cL a (lyW w (fun z_ => ce (40 * k + z_)) (i + 1)) kp bf ah ik fd sp lt tp tn he ft vl bt lg ce bw)) (by rw [(ly_f (w := w) (f := fun z_ => ce (40 * k + z_)) (i := i) (by unfold okL; omega)).1]) ?_
            refine v_eqs (lv' := [(4, .long (ce ((40 * k) + (i : Int)))), (3, .int (jI (i : Int))), (2, .int (jI (lyC (fun z_ => ce (40 * k + z_)) (i + 1)))), (0, .ref (a 0)), (1, .int (jI k))]) (by rw [show lyC (fun z_ => ce (40 * k + z_)) (i + 1) = lyC (fun z_ => ce (40 * k + z_)) i from ((ly_f (w := w) (f := fun z_ => ce (40 * k + z_)) (i := i) (by unfold okL; omega)).2)]) rfl rfl ?_
            refine v_iinc (k := 1) (z := (i : Int)) (z' := ((i + 1 : Nat) : Int)) (lv' := [(3, .int (jI ((i + 1 : Nat) : Int))), (4, .long (ce ((40 * k) + (i : Int)))), (2, .int (jI (lyC (fun z_ => ce (40 * k + z_)) (i + 1)))), (0, .ref (a 0)), (1, .int (jI k))]) G dX9_lays_91 rfl (by omega) (by decide) rfl ?_
            refine v_goto (tgt := 32) G dX9_lays_94 (by decide) ?_
            refine v_locs (lv' := [(3, .int (jI ((i + 1 : Nat) : Int))), (2, .int (jI (lyC (fun z_ => ce (40 * k + z_)) (i + 1)))), (0, .ref (a 0)), (1, .int (jI k))]) [0, 2, 3, 4] rfl ?_
            exact ih_7 (i + 1) ⟨by omega, by omega⟩ (by omega)
          · skip
            refine v_lload (j := 0) (x := ce ((40 * k) + (i : Int))) G dX9_lays_68 rfl ?_
            refine v_ldc2 (z := 99) G q_4 (by decide) dX9_lays_70 ?_
            refine v_lcmp G dX9_lays_73 ?_
            refine v_top (lg_lc (ce ((40 * k) + (i : Int))) (jL 99)) ?_
            have h_13 := lc_z (ce ((40 * k) + (i : Int))) (jL 99)
            have h_14 := jL_toInt (z := 99) (by omega)
            refine v_if_gt (a := lc (ce ((40 * k) + (i : Int))) (jL 99)) (tgt := 91) G dX9_lays_74 (by decide) (by omega) (fun c_15 => ?_) (fun c_15 => ?_)
            · skip
              refine v_world (ws' := (wR cI cL a (lyW w (fun z_ => ce (40 * k + z_)) (i + 1)) kp bf ah ik fd sp lt tp tn he ft vl bt lg ce bw)) (by rw [(ly_f (w := w) (f := fun z_ => ce (40 * k + z_)) (i := i) (by unfold okL; omega)).1]) ?_
              refine v_eqs (lv' := [(4, .long (ce ((40 * k) + (i : Int)))), (3, .int (jI (i : Int))), (2, .int (jI (lyC (fun z_ => ce (40 * k + z_)) (i + 1)))), (0, .ref (a 0)), (1, .int (jI k))]) (by rw [show lyC (fun z_ => ce (40 * k + z_)) (i + 1) = lyC (fun z_ => ce (40 * k + z_)) i from ((ly_f (w := w) (f := fun z_ => ce (40 * k + z_)) (i := i) (by unfold okL; omega)).2)]) rfl rfl ?_
              refine v_iinc (k := 1) (z := (i : Int)) (z' := ((i + 1 : Nat) : Int)) (lv' := [(3, .int (jI ((i + 1 : Nat) : Int))), (4, .long (ce ((40 * k) + (i : Int)))), (2, .int (jI (lyC (fun z_ => ce (40 * k + z_)) (i + 1)))), (0, .ref (a 0)), (1, .int (jI k))]) G dX9_lays_91 rfl (by omega) (by decide) rfl ?_
              refine v_goto (tgt := 32) G dX9_lays_94 (by decide) ?_
              refine v_locs (lv' := [(3, .int (jI ((i + 1 : Nat) : Int))), (2, .int (jI (lyC (fun z_ => ce (40 * k + z_)) (i + 1)))), (0, .ref (a 0)), (1, .int (jI k))]) [0, 2, 3, 4] rfl ?_
              exact ih_7 (i + 1) ⟨by omega, by omega⟩ (by omega)
            · skip
              refine v_aload_n (j := 3) (x := a 0) G dX9_lays_77 rfl rfl ?_
              refine v_get (q0 := 0) (k := 0) (v := .ref (a 1)) G k_X9 rfl rfl (by decide) q_5 rfl rfl dX9_lays_78 ?_
              refine v_iconst G dX9_lays_81 ?_
              refine v_iload_n (j := 1) (x := jI (i : Int)) G dX9_lays_82 rfl rfl ?_
              refine v_iadd (z := 3 + (i : Int)) G dX9_lays_83 rfl ?_
              refine v_lload (j := 0) (x := ce ((40 * k) + (i : Int))) G dX9_lays_84 rfl ?_
              refine v_l2i (v := (ce ((40 * k) + (i : Int))).toInt32) G dX9_lays_86 rfl ?_
              refine v_top (x := (ce ((40 * k) + (i : Int))).toInt32) (y := jI ((ce (40 * k + (i : Int))).toInt)) rfl ?_
              refine v_iast (q0 := 1) (t0 := 0) (g := lyW w (fun z_ => ce (40 * k + z_)) i) (z := 3 + (i : Int)) (x := (ce (40 * k + (i : Int))).toInt) (ws' := (wR cI cL a (uI (lyW w (fun z_ => ce (40 * k + z_)) i) (3 + (i : Int)) ((ce (40 * k + (i : Int))).toInt)) kp bf ah ik fd sp lt tp tn he ft vl bt lg ce bw)) G rfl rfl (by omega) rfl dX9_lays_87 ?_
              refine v_iinc (k := 2) (z := lyC (fun z_ => ce (40 * k + z_)) i) (z' := lyC (fun z_ => ce (40 * k + z_)) i + 1) (lv' := [(2, .int (jI (lyC (fun z_ => ce (40 * k + z_)) i + 1))), (4, .long (ce ((40 * k) + (i : Int)))), (3, .int (jI (i : Int))), (0, .ref (a 0)), (1, .int (jI k))]) G dX9_lays_88 rfl rfl (by decide) rfl ?_
              refine v_world (ws' := (wR cI cL a (lyW w (fun z_ => ce (40 * k + z_)) (i + 1)) kp bf ah ik fd sp lt tp tn he ft vl bt lg ce bw)) (by rw [(ly_t (w := w) (f := fun z_ => ce (40 * k + z_)) (i := i) (by unfold okL; omega)).1]) ?_
              refine v_eqs (lv' := [(2, .int (jI (lyC (fun z_ => ce (40 * k + z_)) (i + 1)))), (4, .long (ce ((40 * k) + (i : Int)))), (3, .int (jI (i : Int))), (0, .ref (a 0)), (1, .int (jI k))]) (by rw [show lyC (fun z_ => ce (40 * k + z_)) (i + 1) = lyC (fun z_ => ce (40 * k + z_)) i + 1 from ((ly_t (w := w) (f := fun z_ => ce (40 * k + z_)) (i := i) (by unfold okL; omega)).2)]) rfl rfl ?_
              refine v_iinc (k := 2) (z := (i : Int)) (z' := ((i + 1 : Nat) : Int)) (lv' := [(3, .int (jI ((i + 1 : Nat) : Int))), (2, .int (jI (lyC (fun z_ => ce (40 * k + z_)) (i + 1)))), (4, .long (ce ((40 * k) + (i : Int)))), (0, .ref (a 0)), (1, .int (jI k))]) G dX9_lays_91 rfl (by omega) (by decide) rfl ?_
              refine v_goto (tgt := 32) G dX9_lays_94 (by decide) ?_
              refine v_locs (lv' := [(3, .int (jI ((i + 1 : Nat) : Int))), (2, .int (jI (lyC (fun z_ => ce (40 * k + z_)) (i + 1)))), (0, .ref (a 0)), (1, .int (jI k))]) [0, 1, 3, 4] rfl ?_
              exact ih_7 (i + 1) ⟨by omega, by omega⟩ (by omega)
    · skip
      refine v_aload_n (j := 0) (x := a 0) G dX9_lays_22 rfl rfl ?_
      refine v_iconst G dX9_lays_23 ?_
      refine v_ciF G (rn_V (As := [.int (jI 5)]) (rest := []) (q0 := 0) G (c_X9_no (k := 5) (w := w) (kp := kp) (bf := bf) (ah := ah) (ik := ik) (fd := fd) (sp := sp) (lt := lt) (tp := tp) (tn := tn) (he := he) (ft := ft) (vl := vl) (bt := bt) (lg := lg) (ce := ce) (bw := bw) (a := a) (hk := (by omega))) gX9_lays_X9_no rfl hdX9_no ⟨rfl, rfl, Nat.le_of_ble_eq_true rfl, Nat.le_of_ble_eq_true rfl⟩ rfl rfl (Nat.le_of_ble_eq_true rfl) ⟨Nat.zero_le _, Nat.zero_le _⟩ rfl rfl dX9_lays_24) (fun r_16 u_18 e_17 => ?_)
      have e_17 : r_16 = jI ((-1000000001) - 5) := e_17
      subst e_17
      refine v_world (ws' := (wR cI cL a w kp bf ah ik (uI fd 5 (fd 5 + 1)) sp lt tp tn he ft vl bt lg ce bw)) rfl ?_
      exact v_iret G (w, uI fd 5 (fd 5 + 1)) (by first | exact Or.inl ⟨(by omega), (by first | rfl | exact congrArg jI (by omega)), rfl, rfl⟩ | exact Or.inr (Or.inl ⟨(by omega), (by first | rfl | exact congrArg jI (by omega)), rfl, rfl⟩) | exact Or.inr (Or.inr ⟨(by omega), (by first | rfl | exact congrArg jI (by omega)), rfl, rfl⟩)) rfl dX9_lays_27
  · skip
    refine v_aload_n (j := 0) (x := a 0) G dX9_lays_7 rfl rfl ?_
    refine v_iconst G dX9_lays_8 ?_
    refine v_ciF G (rn_V (As := [.int (jI 0)]) (rest := []) (q0 := 0) G (c_X9_no (k := 0) (w := w) (kp := kp) (bf := bf) (ah := ah) (ik := ik) (fd := fd) (sp := sp) (lt := lt) (tp := tp) (tn := tn) (he := he) (ft := ft) (vl := vl) (bt := bt) (lg := lg) (ce := ce) (bw := bw) (a := a) (hk := (by omega))) gX9_lays_X9_no rfl hdX9_no ⟨rfl, rfl, Nat.le_of_ble_eq_true rfl, Nat.le_of_ble_eq_true rfl⟩ rfl rfl (Nat.le_of_ble_eq_true rfl) ⟨Nat.zero_le _, Nat.zero_le _⟩ rfl rfl dX9_lays_9) (fun r_19 u_21 e_20 => ?_)
    have e_20 : r_19 = jI ((-1000000001) - 0) := e_20
    subst e_20
    refine v_world (ws' := (wR cI cL a w kp bf ah ik (uI fd 0 (fd 0 + 1)) sp lt tp tn he ft vl bt lg ce bw)) rfl ?_
    exact v_iret G (w, uI fd 0 (fd 0 + 1)) (by first | exact Or.inl ⟨(by omega), (by first | rfl | exact congrArg jI (by omega)), rfl, rfl⟩ | exact Or.inr (Or.inl ⟨(by omega), (by first | rfl | exact congrArg jI (by omega)), rfl, rfl⟩) | exact Or.inr (Or.inr ⟨(by omega), (by first | rfl | exact congrArg jI (by omega)), rfl, rfl⟩)) rfl dX9_lays_12

set_option maxHeartbeats 4000000 in
set_option maxRecDepth 100000 in
theorem c_X9_map (k : Int) (hw : Wf w) (hs : ∀ k_ : Int, 0 ≤ k_ → k_ < 4 → (bt k_ = 0 ∨ bt k_ = 8 ∨ bt k_ = 16 ∨ bt k_ = 64) ∧ 0 ≤ lg k_ ∧ lg k_ ≤ 40) (hr : (-2147483648 ≤ k ∧ k ≤ 2147483647)) : Ci l yX9_map wsX9_map { frames := 5, cells := 0, slots := 0, locals := 113 } D (jT cI cL cB cS) [.ref (a 0), .int (jI k)] (wR cI cL a w kp bf ah ik fd sp lt tp tn he ft vl bt lg ce bw) (S := (Int → Int) × (Int → Int64)) (fun u => (wR cI cL a w kp bf ah ik u.1 sp lt tp tn he ft vl bt lg u.2 bw)) (fun r u => ((¬ (0 ≤ k ∧ k ≤ 3)) ∧ r = jI (-1000000001) ∧ u.1 = uI fd 0 (fd 0 + 1) ∧ u.2 = ce) ∨ (((0 ≤ k ∧ k ≤ 3) ∧ bt k = 0) ∧ r = jI (-1000000006) ∧ u.1 = uI fd 5 (fd 5 + 1) ∧ u.2 = ce) ∨ (((0 ≤ k ∧ k ≤ 3) ∧ bt k ≠ 0) ∧ r = jI (if lg k < 16 then lg k else 16) ∧ u.1 = fd ∧ u.2 = mpF ce k (bt k) (sLt w) (if lg k < 16 then lg k else 16).toNat)) := by
  refine Ci.mk (cc := cX9_map) (maxL := 4) (rt := .int) (by decide) rfl (Nat.le_of_ble_eq_true rfl) rfl ?_
  intro p_ e_ s_ m_ b_ me_ c_ A_ G hnm
  have k_X9 : ∀ w ∈ u_ws RX9 TX9 17, w ∈ wsX9_map := fun _ h => List.mem_cons_of_mem _ (List.mem_append_right _ h)
  have q_1 : Cond.fieldLink RX9 34 "SupperLightModel" "bits" "[I" ∈ wsX9_map := List.mem_of_getElem? (i := 1) rfl
  have q_2 : Cond.fieldLink RX9 37 "SupperLightModel" "longs" "[I" ∈ wsX9_map := List.mem_of_getElem? (i := 2) rfl
  refine v_iload_n (j := 1) (x := jI k) G dX9_map_0 rfl rfl ?_
  refine v_ciN G (rn_S (As := [.int (jI k)]) (rest := []) G (c_X9_isSheet (k := k) (hr := (by omega))) gX9_map_X9_isSheet rfl hdX9_isSheet ⟨rfl, rfl, Nat.le_of_ble_eq_true rfl, Nat.le_of_ble_eq_true rfl⟩ rfl rfl (Nat.le_of_ble_eq_true rfl) ⟨Nat.zero_le _, Nat.zero_le _⟩ dX9_map_1) (fun r_1 u_3 e_2 => ?_)
  have e_2 : r_1 = jI (b2 (0 ≤ k ∧ k ≤ 3)) := e_2
  subst e_2
  refine v_ifb_ne (P := 0 ≤ k ∧ k ≤ 3) (tgt := 13) G dX9_map_4 (by decide) (fun c_4 => ?_) (fun c_4 => ?_)
  · skip
    have hb := hs k (by omega) (by omega)
    refine v_aload_n (j := 0) (x := a 0) G dX9_map_13 rfl rfl ?_
    refine v_get (q0 := 0) (k := 13) (v := .ref (a 9)) G k_X9 rfl rfl (by decide) q_1 rfl rfl dX9_map_14 ?_
    refine v_iload_n (j := 1) (x := jI k) G dX9_map_17 rfl rfl ?_
    refine v_iald (q0 := 9) (t0 := 0) (g := bt) (z := k) G rfl rfl (by omega) dX9_map_18 ?_
    refine v_if_ne (a := bt k) (tgt := 28) G dX9_map_19 (by decide) (by omega) (fun c_5 => ?_) (fun c_5 => ?_)
    · skip
      refine v_aload_n (j := 0) (x := a 0) G dX9_map_28 rfl rfl ?_
      refine v_get (q0 := 0) (k := 14) (v := .ref (a 10)) G k_X9 rfl rfl (by decide) q_2 rfl rfl dX9_map_29 ?_
      refine v_iload_n (j := 1) (x := jI k) G dX9_map_32 rfl rfl ?_
      refine v_iald (q0 := 10) (t0 := 0) (g := lg) (z := k) G rfl rfl (by omega) dX9_map_33 ?_
      refine v_bipush G dX9_map_34 (by decide) ?_
      refine v_cut (pc' := 50) (lv' := [(0, .ref (a 0)), (1, .int (jI k))]) (st' := [.int (jI (if lg k < 16 then lg k else 16))]) (ws' := (wR cI cL a w kp bf ah ik fd sp lt tp tn he ft vl bt lg ce bw)) ?_ (fun J_6 => ?_)
      · skip
        have hmn : 0 ≤ (if lg k < 16 then lg k else 16) ∧ (if lg k < 16 then lg k else 16) ≤ 16 ∧ (if lg k < 16 then lg k else 16) ≤ lg k := by split <;> omega
        refine v_istore_n (lv' := [(2, .int (jI (if lg k < 16 then lg k else 16))), (0, .ref (a 0)), (1, .int (jI k))]) G dX9_map_50 rfl (by decide) rfl ?_
        refine v_iconst G dX9_map_51 ?_
        refine v_istore_n (lv' := [(3, .int (jI 0)), (2, .int (jI (if lg k < 16 then lg k else 16))), (0, .ref (a 0)), (1, .int (jI k))]) G dX9_map_52 rfl (by decide) rfl ?_
        refine v_world (ws' := (wR cI cL a w kp bf ah ik fd sp lt tp tn he ft vl bt lg (mpF ce k (bt k) (sLt w) 0) bw)) rfl ?_
        refine v_locs (lv' := [(3, .int (jI 0)), (2, .int (jI (if lg k < 16 then lg k else 16))), (0, .ref (a 0)), (1, .int (jI k))]) [0, 1, 2, 3] rfl ?_
        refine v_loop1 (fun (i : Nat) => [(3, .int (jI (i : Int))), (2, .int (jI (if lg k < 16 then lg k else 16))), (0, .ref (a 0)), (1, .int (jI k))]) (fun (i : Nat) => (wR cI cL a w kp bf ah ik fd sp lt tp tn he ft vl bt lg (mpF ce k (bt k) (sLt w) i) bw)) (fun (i : Nat) => (i : Int) ≤ (if lg k < 16 then lg k else 16)) (fun (i : Nat) => (if lg k < 16 then lg k else 16).toNat - i) 0 (by omega) rfl rfl ?_
        intro i I_7 ih_8
        refine v_iload_n (j := 0) (x := jI (i : Int)) G dX9_map_53 rfl rfl ?_
        refine v_iload_n (j := 1) (x := jI (if lg k < 16 then lg k else 16)) G dX9_map_54 rfl rfl ?_
        refine v_icmp_ge (a := (i : Int)) (b := (if lg k < 16 then lg k else 16)) (tgt := 76) G dX9_map_55 (by decide) (by omega) (fun c_9 => ?_) (fun c_9 => ?_)
        · skip
          obtain rfl : i = (if lg k < 16 then lg k else 16).toNat := by omega
          refine v_iload_n (j := 1) (x := jI (if lg k < 16 then lg k else 16)) G dX9_map_76 rfl rfl ?_
          exact v_iret G (fd, mpF ce k (bt k) (sLt w) ((if lg k < 16 then lg k else 16).toNat)) (by first | exact Or.inl ⟨(by omega), (by first | rfl | exact congrArg jI (by omega)), rfl, rfl⟩ | exact Or.inr (Or.inl ⟨(by omega), (by first | rfl | exact congrArg jI (by omega)), rfl, rfl⟩) | exact Or.inr (Or.inr ⟨(by omega), (by first | rfl | exact congrArg jI (by omega)), rfl, rfl⟩)) rfl dX9_map_77
        · skip
          refine v_aload_n (j := 2) (x := a 0) G dX9_map_58 rfl rfl ?_
          refine v_iload_n (j := 3) (x := jI k) G dX9_map_59 rfl rfl ?_
          refine v_iload_n (j := 0) (x := jI (i : Int)) G dX9_map_60 rfl rfl ?_
          refine v_aload_n (j := 2) (x := a 0) G dX9_map_61 rfl rfl ?_
          refine v_iload_n (j := 0) (x := jI (i : Int)) G dX9_map_62 rfl rfl ?_
          refine v_ciF G (rn_V (As := [.int (jI (i : Int))]) (rest := [.int (jI (i : Int)), .int (jI k), .ref (a 0)]) (q0 := 0) G (c_X9_lightOf (p := (i : Int)) (w := w) (kp := kp) (bf := bf) (ah := ah) (ik := ik) (fd := fd) (sp := sp) (lt := lt) (tp := tp) (tn := tn) (he := he) (ft := ft) (vl := vl) (bt := bt) (lg := lg) (ce := mpF ce k (bt k) (sLt w) i) (bw := bw) (a := a) (hw := hw) (hp := (by omega))) gX9_map_X9_lightOf rfl hdX9_lightOf ⟨rfl, rfl, Nat.le_of_ble_eq_true rfl, Nat.le_of_ble_eq_true rfl⟩ rfl rfl (Nat.le_of_ble_eq_true rfl) ⟨Nat.zero_le _, Nat.zero_le _⟩ rfl rfl dX9_map_63) (fun r_10 u_12 e_11 => ?_)
          have e_11 : r_10 = jI (sLt w (i : Int)) := e_11
          subst e_11
          refine v_world (ws' := (wR cI cL a w kp bf ah ik fd sp lt tp tn he ft vl bt lg (mpF ce k (bt k) (sLt w) i) bw)) rfl ?_
          have hli := sLt_r hw (p := (i : Int)) (by omega) (by omega)
          refine v_i2l (v := jL (sLt w (i : Int))) G dX9_map_66 (jI_i2l (by omega)) ?_
          refine v_cvF G (rn_V (As := [.int (jI k), .int (jI (i : Int)), .long (jL (sLt w (i : Int)))]) (rest := []) (q0 := 0) G (c_X9_writes (k := k) (i := (i : Int)) (v := jL (sLt w (i : Int))) (w := w) (kp := kp) (bf := bf) (ah := ah) (ik := ik) (fd := fd) (sp := sp) (lt := lt) (tp := tp) (tn := tn) (he := he) (ft := ft) (vl := vl) (bt := bt) (lg := lg) (ce := (mpF ce k (bt k) (sLt w) i)) (bw := bw) (a := a) (hk := (by omega)) (hs := hs)) gX9_map_X9_writes rfl hdX9_writes ⟨rfl, rfl, Nat.le_of_ble_eq_true rfl, Nat.le_of_ble_eq_true rfl⟩ rfl rfl (Nat.le_of_ble_eq_true rfl) ⟨Nat.zero_le _, Nat.zero_le _⟩ rfl rfl dX9_map_67) (fun u_15 e_14 => ?_)
          refine v_world (ws' := (wR cI cL a w kp bf ah ik fd sp lt tp tn he ft vl bt lg (uL (mpF ce k (bt k) (sLt w) i) (40 * k + (i : Int)) (nW (bt k) (jL (sLt w (i : Int))))) bw)) rfl ?_
          refine v_world (ws' := (wR cI cL a w kp bf ah ik fd sp lt tp tn he ft vl bt lg (mpF ce k (bt k) (sLt w) (i + 1)) bw)) rfl ?_
          refine v_iinc (k := 0) (z := (i : Int)) (z' := ((i + 1 : Nat) : Int)) (lv' := [(3, .int (jI ((i + 1 : Nat) : Int))), (2, .int (jI (if lg k < 16 then lg k else 16))), (0, .ref (a 0)), (1, .int (jI k))]) G dX9_map_70 rfl (by omega) (by decide) rfl ?_
          refine v_goto (tgt := 53) G dX9_map_73 (by decide) ?_
          exact ih_8 (i + 1) (by omega) (by omega)
      · skip
        refine v_icmp_ge (a := lg k) (b := 16) (tgt := 48) G dX9_map_36 (by decide) (by omega) (fun c_16 => ?_) (fun c_16 => ?_)
        · skip
          refine v_bipush G dX9_map_48 (by decide) ?_
          refine v_topj (x := 16) (y := (if lg k < 16 then lg k else 16)) (by split <;> omega) ?_
          exact J_6
        · skip
          refine v_aload_n (j := 0) (x := a 0) G dX9_map_39 rfl rfl ?_
          refine v_get (q0 := 0) (k := 14) (v := .ref (a 10)) G k_X9 rfl rfl (by decide) q_2 rfl rfl dX9_map_40 ?_
          refine v_iload_n (j := 1) (x := jI k) G dX9_map_43 rfl rfl ?_
          refine v_iald (q0 := 10) (t0 := 0) (g := lg) (z := k) G rfl rfl (by omega) dX9_map_44 ?_
          refine v_goto (tgt := 50) G dX9_map_45 (by decide) ?_
          refine v_topj (x := lg k) (y := (if lg k < 16 then lg k else 16)) (by split <;> omega) ?_
          exact J_6
    · skip
      refine v_aload_n (j := 0) (x := a 0) G dX9_map_22 rfl rfl ?_
      refine v_iconst G dX9_map_23 ?_
      refine v_ciF G (rn_V (As := [.int (jI 5)]) (rest := []) (q0 := 0) G (c_X9_no (k := 5) (w := w) (kp := kp) (bf := bf) (ah := ah) (ik := ik) (fd := fd) (sp := sp) (lt := lt) (tp := tp) (tn := tn) (he := he) (ft := ft) (vl := vl) (bt := bt) (lg := lg) (ce := ce) (bw := bw) (a := a) (hk := (by omega))) gX9_map_X9_no rfl hdX9_no ⟨rfl, rfl, Nat.le_of_ble_eq_true rfl, Nat.le_of_ble_eq_true rfl⟩ rfl rfl (Nat.le_of_ble_eq_true rfl) ⟨Nat.zero_le _, Nat.zero_le _⟩ rfl rfl dX9_map_24) (fun r_17 u_19 e_18 => ?_)
      have e_18 : r_17 = jI ((-1000000001) - 5) := e_18
      subst e_18
      refine v_world (ws' := (wR cI cL a w kp bf ah ik (uI fd 5 (fd 5 + 1)) sp lt tp tn he ft vl bt lg ce bw)) rfl ?_
      exact v_iret G (uI fd 5 (fd 5 + 1), ce) (by first | exact Or.inl ⟨(by omega), (by first | rfl | exact congrArg jI (by omega)), rfl, rfl⟩ | exact Or.inr (Or.inl ⟨(by omega), (by first | rfl | exact congrArg jI (by omega)), rfl, rfl⟩) | exact Or.inr (Or.inr ⟨(by omega), (by first | rfl | exact congrArg jI (by omega)), rfl, rfl⟩)) rfl dX9_map_27
  · skip
    refine v_aload_n (j := 0) (x := a 0) G dX9_map_7 rfl rfl ?_
    refine v_iconst G dX9_map_8 ?_
    refine v_ciF G (rn_V (As := [.int (jI 0)]) (rest := []) (q0 := 0) G (c_X9_no (k := 0) (w := w) (kp := kp) (bf := bf) (ah := ah) (ik := ik) (fd := fd) (sp := sp) (lt := lt) (tp := tp) (tn := tn) (he := he) (ft := ft) (vl := vl) (bt := bt) (lg := lg) (ce := ce) (bw := bw) (a := a) (hk := (by omega))) gX9_map_X9_no rfl hdX9_no ⟨rfl, rfl, Nat.le_of_ble_eq_true rfl, Nat.le_of_ble_eq_true rfl⟩ rfl rfl (Nat.le_of_ble_eq_true rfl) ⟨Nat.zero_le _, Nat.zero_le _⟩ rfl rfl dX9_map_9) (fun r_20 u_22 e_21 => ?_)
    have e_21 : r_20 = jI ((-1000000001) - 0) := e_21
    subst e_21
    refine v_world (ws' := (wR cI cL a w kp bf ah ik (uI fd 0 (fd 0 + 1)) sp lt tp tn he ft vl bt lg ce bw)) rfl ?_
    exact v_iret G (uI fd 0 (fd 0 + 1), ce) (by first | exact Or.inl ⟨(by omega), (by first | rfl | exact congrArg jI (by omega)), rfl, rfl⟩ | exact Or.inr (Or.inl ⟨(by omega), (by first | rfl | exact congrArg jI (by omega)), rfl, rfl⟩) | exact Or.inr (Or.inr ⟨(by omega), (by first | rfl | exact congrArg jI (by omega)), rfl, rfl⟩)) rfl dX9_map_12

set_option maxHeartbeats 4000000 in
set_option maxRecDepth 100000 in
theorem c_X9_isJust (k q : Int) (hw : Wf w) (hk : 0 ≤ k ∧ k ≤ 3) (hs : ∀ k_ : Int, 0 ≤ k_ → k_ < 4 → (bt k_ = 0 ∨ bt k_ = 8 ∨ bt k_ = 16 ∨ bt k_ = 64) ∧ 0 ≤ lg k_ ∧ lg k_ ≤ 40) : Ci l yX9_isJust wsX9_isJust { frames := 4, cells := 0, slots := 0, locals := 90 } D (jT cI cL cB cS) [.ref (a 0), .int (jI k), .int (jI q)] (wR cI cL a w kp bf ah ik fd sp lt tp tn he ft vl bt lg ce bw) (S := Unit) (fun _ => (wR cI cL a w kp bf ah ik fd sp lt tp tn he ft vl bt lg ce bw)) (fun r _ => r = jI (b2 (jsP w ce k q (if lg k < 16 then lg k else 16).toNat))) := by
  refine Ci.mk (cc := cX9_isJust) (maxL := 8) (rt := .boolean) (by decide) rfl (Nat.le_of_ble_eq_true rfl) rfl ?_
  intro p_ e_ s_ m_ b_ me_ c_ A_ G hnm
  have hm := hw.many
  have hb := hs k (by omega) (by omega)
  have hlg : True := trivial
  have k_X9 : ∀ w ∈ u_ws RX9 TX9 17, w ∈ wsX9_isJust := fun _ h => List.mem_cons_of_mem _ (List.mem_append_right _ h)
  have q_1 : Cond.fieldLink RX9 37 "SupperLightModel" "longs" "[I" ∈ wsX9_isJust := List.mem_of_getElem? (i := 1) rfl
  have q_2 : Cond.fieldLink RX9 9 "SupperLightModel" "s" "[I" ∈ wsX9_isJust := List.mem_of_getElem? (i := 2) rfl
  have q_3 : Cond.fieldLink RX9 40 "SupperLightModel" "cells" "[J" ∈ wsX9_isJust := List.mem_of_getElem? (i := 3) rfl
  refine v_iconst G dX9_isJust_0 ?_
  refine v_topj (x := 1) (y := b2 (jsP w ce k q 0)) (b2_t (fun z z0 z1 => by omega)).symm ?_
  refine v_istore_n (lv' := [(3, .int (jI (b2 (jsP w ce k q 0)))), (0, .ref (a 0)), (1, .int (jI k)), (2, .int (jI q))]) G dX9_isJust_1 rfl (by decide) rfl ?_
  refine v_iconst G dX9_isJust_2 ?_
  refine v_istore (lv' := [(4, .int (jI 0)), (3, .int (jI (b2 (jsP w ce k q 0)))), (0, .ref (a 0)), (1, .int (jI k)), (2, .int (jI q))]) G dX9_isJust_3 (by decide) rfl ?_
  refine v_locs (lv' := [(4, .int (jI 0)), (3, .int (jI (b2 (jsP w ce k q 0)))), (0, .ref (a 0)), (1, .int (jI k)), (2, .int (jI q))]) [0, 1, 2, 3, 4] rfl ?_
  refine v_loop1 (fun (p : Nat) => [(4, .int (jI (p : Int))), (3, .int (jI (b2 (jsP w ce k q p)))), (0, .ref (a 0)), (1, .int (jI k)), (2, .int (jI q))]) (fun (p : Nat) => (wR cI cL a w kp bf ah ik fd sp lt tp tn he ft vl bt lg ce bw)) (fun (p : Nat) => (p : Int) ≤ lg k ∧ p ≤ 16) (fun (p : Nat) => 16 - p) 0 ⟨by omega, by decide⟩ rfl rfl ?_
  intro p I_1 ih_2
  refine v_iload (j := 0) (x := jI (p : Int)) G dX9_isJust_5 rfl ?_
  refine v_aload_n (j := 2) (x := a 0) G dX9_isJust_7 rfl rfl ?_
  refine v_get (q0 := 0) (k := 14) (v := .ref (a 10)) G k_X9 rfl rfl (by decide) q_1 rfl rfl dX9_isJust_8 ?_
  refine v_iload_n (j := 3) (x := jI k) G dX9_isJust_11 rfl rfl ?_
  refine v_iald (q0 := 10) (t0 := 0) (g := lg) (z := k) G rfl rfl (by omega) dX9_isJust_12 ?_
  refine v_icmp_ge (a := (p : Int)) (b := lg k) (tgt := 116) G dX9_isJust_13 (by decide) (by omega) (fun c_3 => ?_) (fun c_3 => ?_)
  · skip
    have hend : jsP w ce k q p ↔ jsP w ce k q (if lg k < 16 then lg k else 16).toNat := by
      by_cases hpp : p = (if lg k < 16 then lg k else 16).toNat
      · rw [← hpp]
      · have hlt : ¬ (lg k ≤ p ∨ 16 ≤ p) := fun z => hpp (by split <;> omega)
        first | (exfalso; omega) | exact ⟨fun z => absurd z (by assumption), fun z => absurd (show jsP w ce k q p from fun y y0 y1 => z y y0 (by split <;> omega)) (by assumption)⟩
    refine v_iload_n (j := 1) (x := jI (b2 (jsP w ce k q p))) G dX9_isJust_116 rfl rfl ?_
    exact v_zret G () (nb_b2 _) (show jI (b2 (jsP w ce k q p)) = jI (b2 (jsP w ce k q (if lg k < 16 then lg k else 16).toNat)) from congrArg jI (b2_c hend)) rfl dX9_isJust_117
  · skip
    refine v_iload (j := 0) (x := jI (p : Int)) G dX9_isJust_16 rfl ?_
    refine v_bipush G dX9_isJust_18 (by decide) ?_
    refine v_icmp_ge (a := (p : Int)) (b := 16) (tgt := 116) G dX9_isJust_20 (by decide) (by omega) (fun c_4 => ?_) (fun c_4 => ?_)
    · skip
      have hend : jsP w ce k q p ↔ jsP w ce k q (if lg k < 16 then lg k else 16).toNat := by
        by_cases hpp : p = (if lg k < 16 then lg k else 16).toNat
        · rw [← hpp]
        · have hlt : ¬ (lg k ≤ p ∨ 16 ≤ p) := fun z => hpp (by split <;> omega)
          first | (exfalso; omega) | exact ⟨fun z => absurd z (by assumption), fun z => absurd (show jsP w ce k q p from fun y y0 y1 => z y y0 (by split <;> omega)) (by assumption)⟩
      refine v_iload_n (j := 1) (x := jI (b2 (jsP w ce k q p))) G dX9_isJust_116 rfl rfl ?_
      exact v_zret G () (nb_b2 _) (show jI (b2 (jsP w ce k q p)) = jI (b2 (jsP w ce k q (if lg k < 16 then lg k else 16).toNat)) from congrArg jI (b2_c hend)) rfl dX9_isJust_117
    · skip
      refine v_iload_n (j := 1) (x := jI (b2 (jsP w ce k q p))) G dX9_isJust_23 rfl rfl ?_
      refine v_ifb_eq (P := jsP w ce k q p) (tgt := 116) G dX9_isJust_24 (by decide) (fun c_5 => ?_) (fun c_5 => ?_)
      · skip
        have hend : jsP w ce k q p ↔ jsP w ce k q (if lg k < 16 then lg k else 16).toNat := by
          by_cases hpp : p = (if lg k < 16 then lg k else 16).toNat
          · rw [← hpp]
          · have hlt : ¬ (lg k ≤ p ∨ 16 ≤ p) := fun z => hpp (by split <;> omega)
            first | (exfalso; omega) | exact ⟨fun z => absurd z (by assumption), fun z => absurd (show jsP w ce k q p from fun y y0 y1 => z y y0 (by split <;> omega)) (by assumption)⟩
        refine v_iload_n (j := 1) (x := jI (b2 (jsP w ce k q p))) G dX9_isJust_116 rfl rfl ?_
        exact v_zret G () (nb_b2 _) (show jI (b2 (jsP w ce k q p)) = jI (b2 (jsP w ce k q (if lg k < 16 then lg k else 16).toNat)) from congrArg jI (b2_c hend)) rfl dX9_isJust_117
      · skip
        have hbo := hw.bowl (p := (p : Int)) (by omega) (by omega)
        refine v_aload_n (j := 2) (x := a 0) G dX9_isJust_27 rfl rfl ?_
        refine v_get (q0 := 0) (k := 0) (v := .ref (a 1)) G k_X9 rfl rfl (by decide) q_2 rfl rfl dX9_isJust_28 ?_
        refine v_iconst G dX9_isJust_31 ?_
        refine v_iload (j := 0) (x := jI (p : Int)) G dX9_isJust_32 rfl ?_
        refine v_iadd (z := 3 + (p : Int)) G dX9_isJust_34 rfl ?_
        refine v_iald (q0 := 1) (t0 := 0) (g := w) (z := 3 + (p : Int)) G rfl rfl (by omega) dX9_isJust_35 ?_
        refine v_i2l (v := jL (w (3 + (p : Int)))) G dX9_isJust_36 (jI_i2l (by omega)) ?_
        refine v_topl (x := jL (w (3 + (p : Int)))) (y := jL (w (3 + (p : Int)) + gsN w q (p : Int) 0)) (by rw [show gsN w q (p : Int) 0 = 0 from rfl, Int.add_zero]) ?_
        refine v_lstore (lv' := [(5, .long (jL (w (3 + (p : Int)) + gsN w q (p : Int) 0))), (4, .int (jI (p : Int))), (3, .int (jI (b2 (jsP w ce k q p)))), (0, .ref (a 0)), (1, .int (jI k)), (2, .int (jI q))]) G dX9_isJust_37 (by decide) rfl ?_
        refine v_iconst G dX9_isJust_39 ?_
        refine v_istore (lv' := [(7, .int (jI 0)), (5, .long (jL (w (3 + (p : Int)) + gsN w q (p : Int) 0))), (4, .int (jI (p : Int))), (3, .int (jI (b2 (jsP w ce k q p)))), (0, .ref (a 0)), (1, .int (jI k)), (2, .int (jI q))]) G dX9_isJust_40 (by decide) rfl ?_
        refine v_locs (lv' := [(7, .int (jI 0)), (5, .long (jL (w (3 + (p : Int)) + gsN w q (p : Int) 0))), (4, .int (jI (p : Int))), (3, .int (jI (b2 (jsP w ce k q p)))), (0, .ref (a 0)), (1, .int (jI k)), (2, .int (jI q))]) [0, 1, 2, 3, 4, 5, 6] rfl ?_
        refine v_loop1 (fun (b : Nat) => [(7, .int (jI (b : Int))), (5, .long (jL (w (3 + (p : Int)) + gsN w q (p : Int) b))), (4, .int (jI (p : Int))), (3, .int (jI (b2 (jsP w ce k q p)))), (0, .ref (a 0)), (1, .int (jI k)), (2, .int (jI q))]) (fun (b : Nat) => (wR cI cL a w kp bf ah ik fd sp lt tp tn he ft vl bt lg ce bw)) (fun (b : Nat) => (b : Int) ≤ w 1) (fun (b : Nat) => (w 1).toNat - b) 0 (by omega) rfl rfl ?_
        intro b I_6 ih_7
        refine v_iload (j := 0) (x := jI (b : Int)) G dX9_isJust_42 rfl ?_
        refine v_aload_n (j := 4) (x := a 0) G dX9_isJust_44 rfl rfl ?_
        refine v_get (q0 := 0) (k := 0) (v := .ref (a 1)) G k_X9 rfl rfl (by decide) q_2 rfl rfl dX9_isJust_45 ?_
        refine v_iconst G dX9_isJust_48 ?_
        refine v_iald (q0 := 1) (t0 := 0) (g := w) (z := 1) G rfl rfl (by omega) dX9_isJust_49 ?_
        refine v_icmp_ge (a := (b : Int)) (b := w 1) (tgt := 86) G dX9_isJust_50 (by decide) (by omega) (fun c_8 => ?_) (fun c_8 => ?_)
        · skip
          obtain rfl : b = (w 1).toNat := by omega
          have hgs := gsN_r hw q (p : Int) (w 1).toNat (by omega)
          refine v_lload (j := 1) (x := jL (w (3 + (p : Int)) + gsN w q (p : Int) ((w 1).toNat))) G dX9_isJust_86 rfl ?_
          refine v_aload_n (j := 4) (x := a 0) G dX9_isJust_88 rfl rfl ?_
          refine v_get (q0 := 0) (k := 15) (v := .ref (a 11)) G k_X9 rfl rfl (by decide) q_3 rfl rfl dX9_isJust_89 ?_
          refine v_bipush G dX9_isJust_92 (by decide) ?_
          refine v_iload_n (j := 5) (x := jI k) G dX9_isJust_94 rfl rfl ?_
          refine v_imul (z := 40 * k) G dX9_isJust_95 rfl ?_
          refine v_iload (j := 2) (x := jI (p : Int)) G dX9_isJust_96 rfl ?_
          refine v_iadd (z := (40 * k) + (p : Int)) G dX9_isJust_98 rfl ?_
          refine v_lald (q0 := 11) (t0 := 1) (g := ce) (z := (40 * k) + (p : Int)) G rfl rfl (by omega) dX9_isJust_99 ?_
          refine v_lcmp G dX9_isJust_100 ?_
          refine v_top (lg_lc (jL (w (3 + (p : Int)) + gsN w q (p : Int) ((w 1).toNat))) (ce ((40 * k) + (p : Int)))) ?_
          have h_9 := lc_z (jL (w (3 + (p : Int)) + gsN w q (p : Int) ((w 1).toNat))) (ce ((40 * k) + (p : Int)))
          have h_10 := jL_toInt (z := w (3 + (p : Int)) + gsN w q (p : Int) ((w 1).toNat)) (by omega)
          refine v_cut (pc' := 109) (lv' := [(7, .int (jI (((w 1).toNat) : Int))), (5, .long (jL (w (3 + (p : Int)) + gsN w q (p : Int) ((w 1).toNat)))), (4, .int (jI (p : Int))), (3, .int (jI (b2 (jsP w ce k q p)))), (0, .ref (a 0)), (1, .int (jI k)), (2, .int (jI q))]) (st' := [.int (jI (b2 (jsP w ce k q (p + 1))))]) (ws' := (wR cI cL a w kp bf ah ik fd sp lt tp tn he ft vl bt lg ce bw)) ?_ (fun J_11 => ?_)
          · skip
            refine v_istore_n (lv' := [(3, .int (jI (b2 (jsP w ce k q (p + 1))))), (7, .int (jI (((w 1).toNat) : Int))), (5, .long (jL (w (3 + (p : Int)) + gsN w q (p : Int) ((w 1).toNat)))), (4, .int (jI (p : Int))), (0, .ref (a 0)), (1, .int (jI k)), (2, .int (jI q))]) G dX9_isJust_109 rfl (by decide) rfl ?_
            refine v_iinc (k := 3) (z := (p : Int)) (z' := ((p + 1 : Nat) : Int)) (lv' := [(4, .int (jI ((p + 1 : Nat) : Int))), (3, .int (jI (b2 (jsP w ce k q (p + 1))))), (7, .int (jI (((w 1).toNat) : Int))), (5, .long (jL (w (3 + (p : Int)) + gsN w q (p : Int) ((w 1).toNat)))), (0, .ref (a 0)), (1, .int (jI k)), (2, .int (jI q))]) G dX9_isJust_110 rfl (by omega) (by decide) rfl ?_
            refine v_goto (tgt := 5) G dX9_isJust_113 (by decide) ?_
            refine v_locs (lv' := [(4, .int (jI ((p + 1 : Nat) : Int))), (3, .int (jI (b2 (jsP w ce k q (p + 1))))), (0, .ref (a 0)), (1, .int (jI k)), (2, .int (jI q))]) [0, 1, 4, 5, 6] rfl ?_
            exact ih_2 (p + 1) ⟨by omega, by omega⟩ (by omega)
          · skip
            refine v_if_ne (a := lc (jL (w (3 + (p : Int)) + gsN w q (p : Int) ((w 1).toNat))) (ce ((40 * k) + (p : Int)))) (tgt := 108) G dX9_isJust_101 (by decide) (by omega) (fun c_12 => ?_) (fun c_12 => ?_)
            · skip
              refine v_iconst G dX9_isJust_108 ?_
              refine v_topj (x := 0) (y := b2 (jsP w ce k q (p + 1))) (b2_f (P := jsP w ce k q (p + 1)) (by intro z; have z2 := congrArg Int64.toInt ((js_s hlg (by assumption)).mp z); omega)).symm ?_
              exact J_11
            · skip
              refine v_iconst G dX9_isJust_104 ?_
              refine v_goto (tgt := 109) G dX9_isJust_105 (by decide) ?_
              refine v_topj (x := 1) (y := b2 (jsP w ce k q (p + 1))) (b2_t (P := jsP w ce k q (p + 1)) (by exact (js_s hlg (by assumption)).mpr (Int64.toInt_inj.mp (by omega)))).symm ?_
              exact J_11
        · skip
          have hgv := sGv_r hw (b := (b : Int)) (p := (p : Int)) (by omega) (by omega)
          refine v_lload (j := 1) (x := jL (w (3 + (p : Int)) + gsN w q (p : Int) b)) G dX9_isJust_53 rfl ?_
          refine v_iload_n (j := 6) (x := jI q) G dX9_isJust_55 rfl rfl ?_
          refine v_iload (j := 0) (x := jI (b : Int)) G dX9_isJust_56 rfl ?_
          refine v_ciN G (rn_S (As := [.int (jI q), .int (jI (b : Int))]) (rest := [.long (jL (w (3 + (p : Int)) + gsN w q (p : Int) b))]) G (c_X9_has (x := jI q) (k := (b : Int)) ) gX9_isJust_X9_has rfl hdX9_has ⟨rfl, rfl, Nat.le_of_ble_eq_true rfl, Nat.le_of_ble_eq_true rfl⟩ rfl rfl (Nat.le_of_ble_eq_true rfl) ⟨Nat.zero_le _, Nat.zero_le _⟩ dX9_isJust_58) (fun r_13 u_15 e_14 => ?_)
          have e_14 : r_13 = jI (b2 (((jI q) >>> (jI (b : Int) &&& 31)) &&& jI 1 = jI 1)) := e_14
          subst e_14
          refine v_cut (pc' := 77) (lv' := [(7, .int (jI (b : Int))), (5, .long (jL (w (3 + (p : Int)) + gsN w q (p : Int) b))), (4, .int (jI (p : Int))), (3, .int (jI (b2 (jsP w ce k q p)))), (0, .ref (a 0)), (1, .int (jI k)), (2, .int (jI q))]) (st' := [.long (jL (if ((jI q >>> (jI (b : Int) &&& 31)) &&& jI 1 = jI 1) then sGv w (b : Int) (p : Int) else 0)), .long (jL (w (3 + (p : Int)) + gsN w q (p : Int) b))]) (ws' := (wR cI cL a w kp bf ah ik fd sp lt tp tn he ft vl bt lg ce bw)) ?_ (fun J_16 => ?_)
          · skip
            refine v_ladd (v := jL ((w (3 + (p : Int)) + gsN w q (p : Int) b) + (if ((jI q >>> (jI (b : Int) &&& 31)) &&& jI 1 = jI 1) then sGv w (b : Int) (p : Int) else 0))) G dX9_isJust_77 (jL_add _ _) ?_
            refine v_topl (x := jL ((w (3 + (p : Int)) + gsN w q (p : Int) b) + (if ((jI q >>> (jI (b : Int) &&& 31)) &&& jI 1 = jI 1) then sGv w (b : Int) (p : Int) else 0))) (y := jL (w (3 + (p : Int)) + gsN w q (p : Int) (b + 1))) (by rw [gsN_s, Int.add_assoc]) ?_
            refine v_lstore (lv' := [(5, .long (jL (w (3 + (p : Int)) + gsN w q (p : Int) (b + 1)))), (7, .int (jI (b : Int))), (4, .int (jI (p : Int))), (3, .int (jI (b2 (jsP w ce k q p)))), (0, .ref (a 0)), (1, .int (jI k)), (2, .int (jI q))]) G dX9_isJust_78 (by decide) rfl ?_
            refine v_iinc (k := 1) (z := (b : Int)) (z' := ((b + 1 : Nat) : Int)) (lv' := [(7, .int (jI ((b + 1 : Nat) : Int))), (5, .long (jL (w (3 + (p : Int)) + gsN w q (p : Int) (b + 1)))), (4, .int (jI (p : Int))), (3, .int (jI (b2 (jsP w ce k q p)))), (0, .ref (a 0)), (1, .int (jI k)), (2, .int (jI q))]) G dX9_isJust_80 rfl (by omega) (by decide) rfl ?_
            refine v_goto (tgt := 42) G dX9_isJust_83 (by decide) ?_
            exact ih_7 (b + 1) (by omega) (by omega)
          · skip
            refine v_ifb_eq (P := ((jI q) >>> (jI (b : Int) &&& 31)) &&& jI 1 = jI 1) (tgt := 76) G dX9_isJust_61 (by decide) (fun c_17 => ?_) (fun c_17 => ?_)
            · skip
              refine v_lconst (z := 0) G dX9_isJust_76 (by decide) ?_
              refine v_topl (x := jL 0) (y := jL (if ((jI q >>> (jI (b : Int) &&& 31)) &&& jI 1 = jI 1) then sGv w (b : Int) (p : Int) else 0)) (by first | rw [if_pos (by assumption)] | rw [if_neg (by assumption)]) ?_
              exact J_16
            · skip
              refine v_aload_n (j := 4) (x := a 0) G dX9_isJust_64 rfl rfl ?_
              refine v_iload (j := 0) (x := jI (b : Int)) G dX9_isJust_65 rfl ?_
              refine v_iload (j := 2) (x := jI (p : Int)) G dX9_isJust_67 rfl ?_
              refine v_ciF G (rn_V (As := [.int (jI (b : Int)), .int (jI (p : Int))]) (rest := [.long (jL (w (3 + (p : Int)) + gsN w q (p : Int) b))]) (q0 := 0) G (c_X9_givesTo (b := (b : Int)) (p := (p : Int)) (w := w) (kp := kp) (bf := bf) (ah := ah) (ik := ik) (fd := fd) (sp := sp) (lt := lt) (tp := tp) (tn := tn) (he := he) (ft := ft) (vl := vl) (bt := bt) (lg := lg) (ce := ce) (bw := bw) (a := a) (hw := hw) (hb := (by omega))) gX9_isJust_X9_givesTo rfl hdX9_givesTo ⟨rfl, rfl, Nat.le_of_ble_eq_true rfl, Nat.le_of_ble_eq_true rfl⟩ rfl rfl (Nat.le_of_ble_eq_true rfl) ⟨Nat.zero_le _, Nat.zero_le _⟩ rfl rfl dX9_isJust_69) (fun r_18 u_20 e_19 => ?_)
              have e_19 : r_18 = jI (sGv w (b : Int) (p : Int)) := e_19
              subst e_19
              refine v_world (ws' := (wR cI cL a w kp bf ah ik fd sp lt tp tn he ft vl bt lg ce bw)) rfl ?_
              refine v_i2l (v := jL (sGv w (b : Int) (p : Int))) G dX9_isJust_72 (jI_i2l (by omega)) ?_
              refine v_goto (tgt := 77) G dX9_isJust_73 (by decide) ?_
              refine v_topl (x := jL (sGv w (b : Int) (p : Int))) (y := jL (if ((jI q >>> (jI (b : Int) &&& 31)) &&& jI 1 = jI 1) then sGv w (b : Int) (p : Int) else 0)) (by first | rw [if_pos (by assumption)] | rw [if_neg (by assumption)]) ?_
              exact J_16

set_option maxHeartbeats 4000000 in
set_option maxRecDepth 100000 in
theorem c_X9_read (k : Int) (hw : Wf w) (hs : ∀ k_ : Int, 0 ≤ k_ → k_ < 4 → (bt k_ = 0 ∨ bt k_ = 8 ∨ bt k_ = 16 ∨ bt k_ = 64) ∧ 0 ≤ lg k_ ∧ lg k_ ≤ 40) (hr : (-2147483648 ≤ k ∧ k ≤ 2147483647)) : Ci l yX9_read wsX9_read { frames := 5, cells := 0, slots := 0, locals := 117 } D (jT cI cL cB cS) [.ref (a 0), .int (jI k)] (wR cI cL a w kp bf ah ik fd sp lt tp tn he ft vl bt lg ce bw) (S := (Int → Int)) (fun fd2 => (wR cI cL a w kp bf ah ik fd2 sp lt tp tn he ft vl bt lg ce bw)) (fun r fd2 => ((¬ (0 ≤ k ∧ k ≤ 3)) ∧ r = jI (-1000000001) ∧ fd2 = uI fd 0 (fd 0 + 1)) ∨ (((0 ≤ k ∧ k ≤ 3) ∧ bt k = 0) ∧ r = jI (-1000000006) ∧ fd2 = uI fd 5 (fd 5 + 1)) ∨ (((0 ≤ k ∧ k ≤ 3) ∧ bt k ≠ 0) ∧ r = jI (sumN (fun z_ => b2 (jsP w ce k z_ (if lg k < 16 then lg k else 16).toNat)) (2 ^ (w 1).toNat)) ∧ fd2 = fd)) := by
  refine Ci.mk (cc := cX9_read) (maxL := 4) (rt := .int) (by decide) rfl (Nat.le_of_ble_eq_true rfl) rfl ?_
  intro p_ e_ s_ m_ b_ me_ c_ A_ G hnm
  have hm := hw.many
  have k_X9 : ∀ w ∈ u_ws RX9 TX9 17, w ∈ wsX9_read := fun _ h => List.mem_cons_of_mem _ (List.mem_append_right _ h)
  have q_1 : Cond.fieldLink RX9 34 "SupperLightModel" "bits" "[I" ∈ wsX9_read := List.mem_of_getElem? (i := 1) rfl
  have q_2 : Cond.fieldLink RX9 9 "SupperLightModel" "s" "[I" ∈ wsX9_read := List.mem_of_getElem? (i := 2) rfl
  refine v_iload_n (j := 1) (x := jI k) G dX9_read_0 rfl rfl ?_
  refine v_ciN G (rn_S (As := [.int (jI k)]) (rest := []) G (c_X9_isSheet (k := k) (hr := (by omega))) gX9_read_X9_isSheet rfl hdX9_isSheet ⟨rfl, rfl, Nat.le_of_ble_eq_true rfl, Nat.le_of_ble_eq_true rfl⟩ rfl rfl (Nat.le_of_ble_eq_true rfl) ⟨Nat.zero_le _, Nat.zero_le _⟩ dX9_read_1) (fun r_1 u_3 e_2 => ?_)
  have e_2 : r_1 = jI (b2 (0 ≤ k ∧ k ≤ 3)) := e_2
  subst e_2
  refine v_ifb_ne (P := 0 ≤ k ∧ k ≤ 3) (tgt := 13) G dX9_read_4 (by decide) (fun c_4 => ?_) (fun c_4 => ?_)
  · skip
    have hb := hs k (by omega) (by omega)
    have hpw : 2 ^ (w 1).toNat ≤ 1024 := Nat.pow_le_pow_right (n := 2) (i := (w 1).toNat) (j := 10) (by omega) (by omega)
    refine v_aload_n (j := 0) (x := a 0) G dX9_read_13 rfl rfl ?_
    refine v_get (q0 := 0) (k := 13) (v := .ref (a 9)) G k_X9 rfl rfl (by decide) q_1 rfl rfl dX9_read_14 ?_
    refine v_iload_n (j := 1) (x := jI k) G dX9_read_17 rfl rfl ?_
    refine v_iald (q0 := 9) (t0 := 0) (g := bt) (z := k) G rfl rfl (by omega) dX9_read_18 ?_
    refine v_if_ne (a := bt k) (tgt := 28) G dX9_read_19 (by decide) (by omega) (fun c_5 => ?_) (fun c_5 => ?_)
    · skip
      refine v_iconst G dX9_read_28 ?_
      refine v_topj (x := 0) (y := sumN (fun z_ => b2 (jsP w ce k z_ (if lg k < 16 then lg k else 16).toNat)) 0) rfl ?_
      refine v_istore_n (lv' := [(2, .int (jI (sumN (fun z_ => b2 (jsP w ce k z_ (if lg k < 16 then lg k else 16).toNat)) 0))), (0, .ref (a 0)), (1, .int (jI k))]) G dX9_read_29 rfl (by decide) rfl ?_
      refine v_iconst G dX9_read_30 ?_
      refine v_istore_n (lv' := [(3, .int (jI 0)), (2, .int (jI (sumN (fun z_ => b2 (jsP w ce k z_ (if lg k < 16 then lg k else 16).toNat)) 0))), (0, .ref (a 0)), (1, .int (jI k))]) G dX9_read_31 rfl (by decide) rfl ?_
      refine v_locs (lv' := [(3, .int (jI 0)), (2, .int (jI (sumN (fun z_ => b2 (jsP w ce k z_ (if lg k < 16 then lg k else 16).toNat)) 0))), (0, .ref (a 0)), (1, .int (jI k))]) [0, 1, 2, 3] rfl ?_
      refine v_loop1 (fun (q : Nat) => [(3, .int (jI (q : Int))), (2, .int (jI (sumN (fun z_ => b2 (jsP w ce k z_ (if lg k < 16 then lg k else 16).toNat)) q))), (0, .ref (a 0)), (1, .int (jI k))]) (fun (q : Nat) => (wR cI cL a w kp bf ah ik fd sp lt tp tn he ft vl bt lg ce bw)) (fun (q : Nat) => q ≤ 2 ^ (w 1).toNat) (fun (q : Nat) => 2 ^ (w 1).toNat - q) 0 (Nat.zero_le _) rfl rfl ?_
      intro q I_6 ih_7
      refine v_iload_n (j := 0) (x := jI (q : Int)) G dX9_read_32 rfl rfl ?_
      refine v_iconst G dX9_read_33 ?_
      refine v_aload_n (j := 2) (x := a 0) G dX9_read_34 rfl rfl ?_
      refine v_get (q0 := 0) (k := 0) (v := .ref (a 1)) G k_X9 rfl rfl (by decide) q_2 rfl rfl dX9_read_35 ?_
      refine v_iconst G dX9_read_38 ?_
      refine v_iald (q0 := 1) (t0 := 0) (g := w) (z := 1) G rfl rfl (by omega) dX9_read_39 ?_
      refine v_ishl (v := (jI 1) <<< ((jI (w 1)) &&& 31)) G dX9_read_40 rfl ?_
      refine v_top (x := (jI 1) <<< ((jI (w 1)) &&& 31)) (y := jI ((2 ^ (w 1).toNat : Nat) : Int)) (by have e := pow_m (w 1).toNat (by omega); rw [Int.toNat_of_nonneg (by omega)] at e; exact e) ?_
      refine v_icmp_ge (a := (q : Int)) (b := ((2 ^ (w 1).toNat : Nat) : Int)) (tgt := 67) G dX9_read_41 (by decide) (by omega) (fun c_8 => ?_) (fun c_8 => ?_)
      · skip
        obtain rfl : q = (2 ^ (w 1).toNat) := by omega
        refine v_iload_n (j := 1) (x := jI (sumN (fun z_ => b2 (jsP w ce k z_ (if lg k < 16 then lg k else 16).toNat)) (2 ^ (w 1).toNat))) G dX9_read_67 rfl rfl ?_
        exact v_iret G (fd) (by first | exact Or.inl ⟨(by omega), (by first | rfl | exact congrArg jI (by omega)), rfl⟩ | exact Or.inr (Or.inl ⟨(by omega), (by first | rfl | exact congrArg jI (by omega)), rfl⟩) | exact Or.inr (Or.inr ⟨(by omega), (by first | rfl | exact congrArg jI (by omega)), rfl⟩)) rfl dX9_read_68
      · skip
        refine v_iload_n (j := 1) (x := jI (sumN (fun z_ => b2 (jsP w ce k z_ (if lg k < 16 then lg k else 16).toNat)) q)) G dX9_read_44 rfl rfl ?_
        refine v_aload_n (j := 2) (x := a 0) G dX9_read_45 rfl rfl ?_
        refine v_iload_n (j := 3) (x := jI k) G dX9_read_46 rfl rfl ?_
        refine v_iload_n (j := 0) (x := jI (q : Int)) G dX9_read_47 rfl rfl ?_
        refine v_ciF G (rn_V (As := [.int (jI k), .int (jI (q : Int))]) (rest := [.int (jI (sumN (fun z_ => b2 (jsP w ce k z_ (if lg k < 16 then lg k else 16).toNat)) q))]) (q0 := 0) G (c_X9_isJust (k := k) (q := (q : Int)) (w := w) (kp := kp) (bf := bf) (ah := ah) (ik := ik) (fd := fd) (sp := sp) (lt := lt) (tp := tp) (tn := tn) (he := he) (ft := ft) (vl := vl) (bt := bt) (lg := lg) (ce := ce) (bw := bw) (a := a) (hw := hw) (hk := (by omega)) (hs := hs)) gX9_read_X9_isJust rfl hdX9_isJust ⟨rfl, rfl, Nat.le_of_ble_eq_true rfl, Nat.le_of_ble_eq_true rfl⟩ rfl rfl (Nat.le_of_ble_eq_true rfl) ⟨Nat.zero_le _, Nat.zero_le _⟩ rfl rfl dX9_read_48) (fun r_9 u_11 e_10 => ?_)
        have e_10 : r_9 = jI (b2 (jsP w ce k (q : Int) (if lg k < 16 then lg k else 16).toNat)) := e_10
        subst e_10
        refine v_world (ws' := (wR cI cL a w kp bf ah ik fd sp lt tp tn he ft vl bt lg ce bw)) rfl ?_
        refine v_cut (pc' := 59) (lv' := [(3, .int (jI (q : Int))), (2, .int (jI (sumN (fun z_ => b2 (jsP w ce k z_ (if lg k < 16 then lg k else 16).toNat)) q))), (0, .ref (a 0)), (1, .int (jI k))]) (st' := [.int (jI (b2 (jsP w ce k (q : Int) (if lg k < 16 then lg k else 16).toNat))), .int (jI (sumN (fun z_ => b2 (jsP w ce k z_ (if lg k < 16 then lg k else 16).toNat)) q))]) (ws' := (wR cI cL a w kp bf ah ik fd sp lt tp tn he ft vl bt lg ce bw)) ?_ (fun J_12 => ?_)
        · skip
          refine v_iadd (z := (sumN (fun z_ => b2 (jsP w ce k z_ (if lg k < 16 then lg k else 16).toNat)) q) + (b2 (jsP w ce k (q : Int) (if lg k < 16 then lg k else 16).toNat))) G dX9_read_59 rfl ?_
          refine v_topj (x := (sumN (fun z_ => b2 (jsP w ce k z_ (if lg k < 16 then lg k else 16).toNat)) q) + (b2 (jsP w ce k (q : Int) (if lg k < 16 then lg k else 16).toNat))) (y := sumN (fun z_ => b2 (jsP w ce k z_ (if lg k < 16 then lg k else 16).toNat)) (q + 1)) rfl ?_
          refine v_istore_n (lv' := [(2, .int (jI (sumN (fun z_ => b2 (jsP w ce k z_ (if lg k < 16 then lg k else 16).toNat)) (q + 1)))), (3, .int (jI (q : Int))), (0, .ref (a 0)), (1, .int (jI k))]) G dX9_read_60 rfl (by decide) rfl ?_
          refine v_iinc (k := 1) (z := (q : Int)) (z' := ((q + 1 : Nat) : Int)) (lv' := [(3, .int (jI ((q + 1 : Nat) : Int))), (2, .int (jI (sumN (fun z_ => b2 (jsP w ce k z_ (if lg k < 16 then lg k else 16).toNat)) (q + 1)))), (0, .ref (a 0)), (1, .int (jI k))]) G dX9_read_61 rfl (by omega) (by decide) rfl ?_
          refine v_goto (tgt := 32) G dX9_read_64 (by decide) ?_
          exact ih_7 (q + 1) (by omega) (by omega)
        · skip
          refine v_ifb_eq (P := jsP w ce k (q : Int) (if lg k < 16 then lg k else 16).toNat) (tgt := 58) G dX9_read_51 (by decide) (fun c_13 => ?_) (fun c_13 => ?_)
          · skip
            refine v_iconst G dX9_read_58 ?_
            refine v_topj (x := 0) (y := b2 (jsP w ce k (q : Int) (if lg k < 16 then lg k else 16).toNat)) (b2_f (P := jsP w ce k (q : Int) (if lg k < 16 then lg k else 16).toNat) (by assumption)).symm ?_
            exact J_12
          · skip
            refine v_iconst G dX9_read_54 ?_
            refine v_goto (tgt := 59) G dX9_read_55 (by decide) ?_
            refine v_topj (x := 1) (y := b2 (jsP w ce k (q : Int) (if lg k < 16 then lg k else 16).toNat)) (b2_t (P := jsP w ce k (q : Int) (if lg k < 16 then lg k else 16).toNat) (by assumption)).symm ?_
            exact J_12
    · skip
      refine v_aload_n (j := 0) (x := a 0) G dX9_read_22 rfl rfl ?_
      refine v_iconst G dX9_read_23 ?_
      refine v_ciF G (rn_V (As := [.int (jI 5)]) (rest := []) (q0 := 0) G (c_X9_no (k := 5) (w := w) (kp := kp) (bf := bf) (ah := ah) (ik := ik) (fd := fd) (sp := sp) (lt := lt) (tp := tp) (tn := tn) (he := he) (ft := ft) (vl := vl) (bt := bt) (lg := lg) (ce := ce) (bw := bw) (a := a) (hk := (by omega))) gX9_read_X9_no rfl hdX9_no ⟨rfl, rfl, Nat.le_of_ble_eq_true rfl, Nat.le_of_ble_eq_true rfl⟩ rfl rfl (Nat.le_of_ble_eq_true rfl) ⟨Nat.zero_le _, Nat.zero_le _⟩ rfl rfl dX9_read_24) (fun r_14 u_16 e_15 => ?_)
      have e_15 : r_14 = jI ((-1000000001) - 5) := e_15
      subst e_15
      refine v_world (ws' := (wR cI cL a w kp bf ah ik (uI fd 5 (fd 5 + 1)) sp lt tp tn he ft vl bt lg ce bw)) rfl ?_
      exact v_iret G (uI fd 5 (fd 5 + 1)) (by first | exact Or.inl ⟨(by omega), (by first | rfl | exact congrArg jI (by omega)), rfl⟩ | exact Or.inr (Or.inl ⟨(by omega), (by first | rfl | exact congrArg jI (by omega)), rfl⟩) | exact Or.inr (Or.inr ⟨(by omega), (by first | rfl | exact congrArg jI (by omega)), rfl⟩)) rfl dX9_read_27
  · skip
    refine v_aload_n (j := 0) (x := a 0) G dX9_read_7 rfl rfl ?_
    refine v_iconst G dX9_read_8 ?_
    refine v_ciF G (rn_V (As := [.int (jI 0)]) (rest := []) (q0 := 0) G (c_X9_no (k := 0) (w := w) (kp := kp) (bf := bf) (ah := ah) (ik := ik) (fd := fd) (sp := sp) (lt := lt) (tp := tp) (tn := tn) (he := he) (ft := ft) (vl := vl) (bt := bt) (lg := lg) (ce := ce) (bw := bw) (a := a) (hk := (by omega))) gX9_read_X9_no rfl hdX9_no ⟨rfl, rfl, Nat.le_of_ble_eq_true rfl, Nat.le_of_ble_eq_true rfl⟩ rfl rfl (Nat.le_of_ble_eq_true rfl) ⟨Nat.zero_le _, Nat.zero_le _⟩ rfl rfl dX9_read_9) (fun r_17 u_19 e_18 => ?_)
    have e_18 : r_17 = jI ((-1000000001) - 0) := e_18
    subst e_18
    refine v_world (ws' := (wR cI cL a w kp bf ah ik (uI fd 0 (fd 0 + 1)) sp lt tp tn he ft vl bt lg ce bw)) rfl ?_
    exact v_iret G (uI fd 0 (fd 0 + 1)) (by first | exact Or.inl ⟨(by omega), (by first | rfl | exact congrArg jI (by omega)), rfl⟩ | exact Or.inr (Or.inl ⟨(by omega), (by first | rfl | exact congrArg jI (by omega)), rfl⟩) | exact Or.inr (Or.inr ⟨(by omega), (by first | rfl | exact congrArg jI (by omega)), rfl⟩)) rfl dX9_read_12

set_option maxHeartbeats 4000000 in
set_option maxRecDepth 100000 in
theorem c_X9_image  (hw : Wf w) : Ci l yX9_image wsX9_image { frames := 1, cells := 0, slots := 0, locals := 22 } D (jT cI cL cB cS) [.ref (a 0)] (wR cI cL a w kp bf ah ik fd sp lt tp tn he ft vl bt lg ce bw) (S := (Int → Int) × Int) (fun u => (wR cI cL a w u.1 bf ah u.2 fd sp lt tp tn he ft vl bt lg ce bw)) (fun r u => ((True) ∧ r = jI 1 ∧ u.1 = w ∧ u.2 = 1)) := by
  refine Ci.mk (cc := cX9_image) (maxL := 1) (rt := .int) (by decide) rfl (Nat.le_of_ble_eq_true rfl) rfl ?_
  intro p_ e_ s_ m_ b_ me_ c_ A_ G hnm
  have k_X9 : ∀ w ∈ u_ws RX9 TX9 17, w ∈ wsX9_image := fun _ h => List.mem_cons_of_mem _ (List.mem_append_right _ h)
  have q_1 : Cond.fieldLink RX9 9 "SupperLightModel" "s" "[I" ∈ wsX9_image := List.mem_of_getElem? (i := 1) rfl
  have q_2 : Cond.fieldLink RX9 13 "SupperLightModel" "kept" "[I" ∈ wsX9_image := List.mem_of_getElem? (i := 2) rfl
  have q_3 : Cond.fieldLink RX9 299 "SupperLightModel" "isKept" "Z" ∈ wsX9_image := List.mem_of_getElem? (i := 3) rfl
  refine v_aload_n (j := 0) (x := a 0) G dX9_image_0 rfl rfl ?_
  refine v_get (q0 := 0) (k := 0) (v := .ref (a 1)) G k_X9 rfl rfl (by decide) q_1 rfl rfl dX9_image_1 ?_
  refine v_aload_n (j := 0) (x := a 0) G dX9_image_4 rfl rfl ?_
  refine v_get (q0 := 0) (k := 1) (v := .ref (a 2)) G k_X9 rfl rfl (by decide) q_2 rfl rfl dX9_image_5 ?_
  refine v_cvF G (rn_S (As := [.ref (a 1), .ref (a 2)]) (rest := []) G (c_X9_lay_w_kp (w := w) (kp := kp) (bf := bf) (ah := ah) (ik := ik) (fd := fd) (sp := sp) (lt := lt) (tp := tp) (tn := tn) (he := he) (ft := ft) (vl := vl) (bt := bt) (lg := lg) (ce := ce) (bw := bw) (a := a) ) gX9_image_X9_lay rfl hdX9_lay ⟨rfl, rfl, Nat.le_of_ble_eq_true rfl, Nat.le_of_ble_eq_true rfl⟩ rfl rfl (Nat.le_of_ble_eq_true rfl) ⟨Nat.zero_le _, Nat.zero_le _⟩ dX9_image_8) (fun u_3 e_2 => ?_)
  refine v_world (ws' := (wR cI cL a w w bf ah ik fd sp lt tp tn he ft vl bt lg ce bw)) rfl ?_
  refine v_aload_n (j := 0) (x := a 0) G dX9_image_11 rfl rfl ?_
  refine v_iconst G dX9_image_12 ?_
  refine v_put (q0 := 0) (k := 4) (ty := .boolean) (ws' := (wR cI cL a w w bf ah 1 fd sp lt tp tn he ft vl bt lg ce bw)) G k_X9 tyX9 tyX9_ok nmX9 rfl rfl (by decide) q_3 rfl rfl rfl nb_1 rfl (Nat.le_of_ble_eq_true rfl) rfl dX9_image_13 ?_
  refine v_iconst G dX9_image_16 ?_
  exact v_iret G (w, 1) (by first | exact ⟨(by trivial), (by first | rfl | exact congrArg jI (by omega)), rfl, rfl⟩) rfl dX9_image_17

set_option maxHeartbeats 4000000 in
set_option maxRecDepth 100000 in
theorem c_X9_undo  (hw : Wf w) (hik : ik = 0 ∨ ik = 1) : Ci l yX9_undo wsX9_undo { frames := 1, cells := 0, slots := 0, locals := 22 } D (jT cI cL cB cS) [.ref (a 0)] (wR cI cL a w kp bf ah ik fd sp lt tp tn he ft vl bt lg ce bw) (S := (Int → Int) × (Int → Int)) (fun u => (wR cI cL a u.1 kp bf ah ik u.2 sp lt tp tn he ft vl bt lg ce bw)) (fun r u => ((ik = 0) ∧ r = jI (-1000000004) ∧ u.1 = w ∧ u.2 = uI fd 3 (fd 3 + 1)) ∨ ((ik = 1) ∧ r = jI (kp 1) ∧ u.1 = kp ∧ u.2 = fd)) := by
  refine Ci.mk (cc := cX9_undo) (maxL := 1) (rt := .int) (by decide) rfl (Nat.le_of_ble_eq_true rfl) rfl ?_
  intro p_ e_ s_ m_ b_ me_ c_ A_ G hnm
  have k_X9 : ∀ w ∈ u_ws RX9 TX9 17, w ∈ wsX9_undo := fun _ h => List.mem_cons_of_mem _ (List.mem_append_right _ h)
  have q_1 : Cond.fieldLink RX9 299 "SupperLightModel" "isKept" "Z" ∈ wsX9_undo := List.mem_of_getElem? (i := 1) rfl
  have q_2 : Cond.fieldLink RX9 13 "SupperLightModel" "kept" "[I" ∈ wsX9_undo := List.mem_of_getElem? (i := 2) rfl
  have q_3 : Cond.fieldLink RX9 9 "SupperLightModel" "s" "[I" ∈ wsX9_undo := List.mem_of_getElem? (i := 3) rfl
  refine v_aload_n (j := 0) (x := a 0) G dX9_undo_0 rfl rfl ?_
  refine v_get (q0 := 0) (k := 4) (v := .int (jI ik)) G k_X9 rfl rfl (by decide) q_1 rfl rfl dX9_undo_1 ?_
  refine v_if_ne (a := ik) (tgt := 13) G dX9_undo_4 (by decide) (by omega) (fun c_1 => ?_) (fun c_1 => ?_)
  · skip
    refine v_aload_n (j := 0) (x := a 0) G dX9_undo_13 rfl rfl ?_
    refine v_get (q0 := 0) (k := 1) (v := .ref (a 2)) G k_X9 rfl rfl (by decide) q_2 rfl rfl dX9_undo_14 ?_
    refine v_aload_n (j := 0) (x := a 0) G dX9_undo_17 rfl rfl ?_
    refine v_get (q0 := 0) (k := 0) (v := .ref (a 1)) G k_X9 rfl rfl (by decide) q_3 rfl rfl dX9_undo_18 ?_
    refine v_cvF G (rn_S (As := [.ref (a 2), .ref (a 1)]) (rest := []) G (c_X9_lay_kp_w (w := w) (kp := kp) (bf := bf) (ah := ah) (ik := ik) (fd := fd) (sp := sp) (lt := lt) (tp := tp) (tn := tn) (he := he) (ft := ft) (vl := vl) (bt := bt) (lg := lg) (ce := ce) (bw := bw) (a := a) ) gX9_undo_X9_lay rfl hdX9_lay ⟨rfl, rfl, Nat.le_of_ble_eq_true rfl, Nat.le_of_ble_eq_true rfl⟩ rfl rfl (Nat.le_of_ble_eq_true rfl) ⟨Nat.zero_le _, Nat.zero_le _⟩ dX9_undo_21) (fun u_4 e_3 => ?_)
    refine v_world (ws' := (wR cI cL a kp kp bf ah ik fd sp lt tp tn he ft vl bt lg ce bw)) rfl ?_
    refine v_aload_n (j := 0) (x := a 0) G dX9_undo_24 rfl rfl ?_
    refine v_get (q0 := 0) (k := 0) (v := .ref (a 1)) G k_X9 rfl rfl (by decide) q_3 rfl rfl dX9_undo_25 ?_
    refine v_iconst G dX9_undo_28 ?_
    refine v_iald (q0 := 1) (t0 := 0) (g := kp) (z := 1) G rfl rfl (by omega) dX9_undo_29 ?_
    exact v_iret G (kp, fd) (by first | exact Or.inl ⟨(by omega), (by first | rfl | exact congrArg jI (by omega)), rfl, rfl⟩ | exact Or.inr ⟨(by omega), (by first | rfl | exact congrArg jI (by omega)), rfl, rfl⟩) rfl dX9_undo_30
  · skip
    refine v_aload_n (j := 0) (x := a 0) G dX9_undo_7 rfl rfl ?_
    refine v_iconst G dX9_undo_8 ?_
    refine v_ciF G (rn_V (As := [.int (jI 3)]) (rest := []) (q0 := 0) G (c_X9_no (k := 3) (w := w) (kp := kp) (bf := bf) (ah := ah) (ik := ik) (fd := fd) (sp := sp) (lt := lt) (tp := tp) (tn := tn) (he := he) (ft := ft) (vl := vl) (bt := bt) (lg := lg) (ce := ce) (bw := bw) (a := a) (hk := (by omega))) gX9_undo_X9_no rfl hdX9_no ⟨rfl, rfl, Nat.le_of_ble_eq_true rfl, Nat.le_of_ble_eq_true rfl⟩ rfl rfl (Nat.le_of_ble_eq_true rfl) ⟨Nat.zero_le _, Nat.zero_le _⟩ rfl rfl dX9_undo_9) (fun r_5 u_7 e_6 => ?_)
    have e_6 : r_5 = jI ((-1000000001) - 3) := e_6
    subst e_6
    refine v_world (ws' := (wR cI cL a w kp bf ah ik (uI fd 3 (fd 3 + 1)) sp lt tp tn he ft vl bt lg ce bw)) rfl ?_
    exact v_iret G (w, uI fd 3 (fd 3 + 1)) (by first | exact Or.inl ⟨(by omega), (by first | rfl | exact congrArg jI (by omega)), rfl, rfl⟩ | exact Or.inr ⟨(by omega), (by first | rfl | exact congrArg jI (by omega)), rfl, rfl⟩) rfl dX9_undo_12

set_option maxHeartbeats 4000000 in
set_option maxRecDepth 100000 in
theorem c_X9_tear  (hw : Wf w) (hik : ik = 0 ∨ ik = 1) : Ci l yX9_tear wsX9_tear { frames := 0, cells := 0, slots := 0, locals := 0 } D (jT cI cL cB cS) [.ref (a 0)] (wR cI cL a w kp bf ah ik fd sp lt tp tn he ft vl bt lg ce bw) (S := Int) (fun ik2 => (wR cI cL a w kp bf ah ik2 fd sp lt tp tn he ft vl bt lg ce bw)) (fun r ik2 => ((True) ∧ r = jI ik ∧ ik2 = 0)) := by
  refine Ci.mk (cc := cX9_tear) (maxL := 2) (rt := .int) (by decide) rfl (Nat.le_of_ble_eq_true rfl) rfl ?_
  intro p_ e_ s_ m_ b_ me_ c_ A_ G hnm
  have k_X9 : ∀ w ∈ u_ws RX9 TX9 17, w ∈ wsX9_tear := fun _ h => List.mem_cons_of_mem _ (List.mem_append_right _ h)
  have q_1 : Cond.fieldLink RX9 299 "SupperLightModel" "isKept" "Z" ∈ wsX9_tear := List.mem_of_getElem? (i := 1) rfl
  refine v_aload_n (j := 0) (x := a 0) G dX9_tear_0 rfl rfl ?_
  refine v_get (q0 := 0) (k := 4) (v := .int (jI ik)) G k_X9 rfl rfl (by decide) q_1 rfl rfl dX9_tear_1 ?_
  refine v_cut (pc' := 12) (lv' := [(0, .ref (a 0))]) (st' := [.int (jI ik)]) (ws' := (wR cI cL a w kp bf ah ik fd sp lt tp tn he ft vl bt lg ce bw)) ?_ (fun J_1 => ?_)
  · skip
    refine v_istore_n (lv' := [(1, .int (jI ik)), (0, .ref (a 0))]) G dX9_tear_12 rfl (by decide) rfl ?_
    refine v_aload_n (j := 1) (x := a 0) G dX9_tear_13 rfl rfl ?_
    refine v_iconst G dX9_tear_14 ?_
    refine v_put (q0 := 0) (k := 4) (ty := .boolean) (ws' := (wR cI cL a w kp bf ah 0 fd sp lt tp tn he ft vl bt lg ce bw)) G k_X9 tyX9 tyX9_ok nmX9 rfl rfl (by decide) q_1 rfl rfl rfl nb_0 rfl (Nat.le_of_ble_eq_true rfl) rfl dX9_tear_15 ?_
    refine v_iload_n (j := 0) (x := jI ik) G dX9_tear_18 rfl rfl ?_
    exact v_iret G (0) (by first | exact ⟨(by trivial), (by first | rfl | exact congrArg jI (by omega)), rfl⟩) rfl dX9_tear_19
  · skip
    refine v_if_eq (a := ik) (tgt := 11) G dX9_tear_4 (by decide) (by omega) (fun c_2 => ?_) (fun c_2 => ?_)
    · skip
      refine v_iconst G dX9_tear_11 ?_
      refine v_topj (x := 0) (y := ik) (by omega) ?_
      exact J_1
    · skip
      refine v_iconst G dX9_tear_7 ?_
      refine v_goto (tgt := 12) G dX9_tear_8 (by decide) ?_
      refine v_topj (x := 1) (y := ik) (by omega) ?_
      exact J_1

set_option maxHeartbeats 4000000 in
set_option maxRecDepth 100000 in
theorem c_X9_mealsOfAll  (hw : Wf w) : Ci l yX9_mealsOfAll wsX9_mealsOfAll { frames := 1, cells := 0, slots := 0, locals := 22 } D (jT cI cL cB cS) [.ref (a 0)] (wR cI cL a w kp bf ah ik fd sp lt tp tn he ft vl bt lg ce bw) (S := Unit) (fun _ => (wR cI cL a w kp bf ah ik fd sp lt tp tn he ft vl bt lg ce bw)) (fun r _ => r = jI (sumN (fun x_ => fB w x_ 3) (w 1).toNat)) := by
  refine Ci.mk (cc := cX9_mealsOfAll) (maxL := 3) (rt := .int) (by decide) rfl (Nat.le_of_ble_eq_true rfl) rfl ?_
  intro p_ e_ s_ m_ b_ me_ c_ A_ G hnm
  have hm := hw.many
  have k_X9 : ∀ w ∈ u_ws RX9 TX9 17, w ∈ wsX9_mealsOfAll := fun _ h => List.mem_cons_of_mem _ (List.mem_append_right _ h)
  have q_1 : Cond.fieldLink RX9 9 "SupperLightModel" "s" "[I" ∈ wsX9_mealsOfAll := List.mem_of_getElem? (i := 1) rfl
  refine v_iconst G dX9_mealsOfAll_0 ?_
  refine v_topj (x := 0) (y := sumN (fun x_ => fB w x_ 3) 0) rfl ?_
  refine v_istore_n (lv' := [(1, .int (jI (sumN (fun x_ => fB w x_ 3) 0))), (0, .ref (a 0))]) G dX9_mealsOfAll_1 rfl (by decide) rfl ?_
  refine v_iconst G dX9_mealsOfAll_2 ?_
  refine v_istore_n (lv' := [(2, .int (jI 0)), (1, .int (jI (sumN (fun x_ => fB w x_ 3) 0))), (0, .ref (a 0))]) G dX9_mealsOfAll_3 rfl (by decide) rfl ?_
  refine v_locs (lv' := [(2, .int (jI 0)), (1, .int (jI (sumN (fun x_ => fB w x_ 3) 0))), (0, .ref (a 0))]) [0, 1, 2] rfl ?_
  refine v_loop1 (fun (k : Nat) => [(2, .int (jI (k : Int))), (1, .int (jI (sumN (fun x_ => fB w x_ 3) k))), (0, .ref (a 0))]) (fun (k : Nat) => (wR cI cL a w kp bf ah ik fd sp lt tp tn he ft vl bt lg ce bw)) (fun (k : Nat) => (k : Int) ≤ w 1) (fun (k : Nat) => (w 1).toNat - k) 0 (by omega) rfl rfl ?_
  intro k I_1 ih_2
  refine v_iload_n (j := 0) (x := jI (k : Int)) G dX9_mealsOfAll_4 rfl rfl ?_
  refine v_aload_n (j := 2) (x := a 0) G dX9_mealsOfAll_5 rfl rfl ?_
  refine v_get (q0 := 0) (k := 0) (v := .ref (a 1)) G k_X9 rfl rfl (by decide) q_1 rfl rfl dX9_mealsOfAll_6 ?_
  refine v_iconst G dX9_mealsOfAll_9 ?_
  refine v_iald (q0 := 1) (t0 := 0) (g := w) (z := 1) G rfl rfl (by omega) dX9_mealsOfAll_10 ?_
  refine v_icmp_ge (a := (k : Int)) (b := w 1) (tgt := 29) G dX9_mealsOfAll_11 (by decide) (by omega) (fun c_3 => ?_) (fun c_3 => ?_)
  · skip
    obtain rfl : k = (w 1).toNat := by omega
    refine v_iload_n (j := 1) (x := jI (sumN (fun x_ => fB w x_ 3) ((w 1).toNat))) G dX9_mealsOfAll_29 rfl rfl ?_
    exact v_iret G () (show jI (sumN (fun x_ => fB w x_ 3) ((w 1).toNat)) = jI (sumN (fun x_ => fB w x_ 3) (w 1).toNat) from congrArg jI (by omega)) rfl dX9_mealsOfAll_30
  · skip
    refine v_iload_n (j := 1) (x := jI (sumN (fun x_ => fB w x_ 3) k)) G dX9_mealsOfAll_14 rfl rfl ?_
    refine v_aload_n (j := 2) (x := a 0) G dX9_mealsOfAll_15 rfl rfl ?_
    refine v_iload_n (j := 0) (x := jI (k : Int)) G dX9_mealsOfAll_16 rfl rfl ?_
    refine v_iconst G dX9_mealsOfAll_17 ?_
    refine v_ciF G (rn_V (As := [.int (jI (k : Int)), .int (jI 3)]) (rest := [.int (jI (sumN (fun x_ => fB w x_ 3) k))]) (q0 := 0) G (c_X9_is (b := (k : Int)) (k := 3) (w := w) (kp := kp) (bf := bf) (ah := ah) (ik := ik) (fd := fd) (sp := sp) (lt := lt) (tp := tp) (tn := tn) (he := he) (ft := ft) (vl := vl) (bt := bt) (lg := lg) (ce := ce) (bw := bw) (a := a) (hb := (by omega))) gX9_mealsOfAll_X9_is rfl hdX9_is ⟨rfl, rfl, Nat.le_of_ble_eq_true rfl, Nat.le_of_ble_eq_true rfl⟩ rfl rfl (Nat.le_of_ble_eq_true rfl) ⟨Nat.zero_le _, Nat.zero_le _⟩ rfl rfl dX9_mealsOfAll_18) (fun r_4 u_6 e_5 => ?_)
    have e_5 : r_4 = jI (fB w (k : Int) 3) := e_5
    subst e_5
    refine v_world (ws' := (wR cI cL a w kp bf ah ik fd sp lt tp tn he ft vl bt lg ce bw)) rfl ?_
    refine v_iadd (z := (sumN (fun x_ => fB w x_ 3) k) + (fB w (k : Int) 3)) G dX9_mealsOfAll_21 rfl ?_
    refine v_topj (x := (sumN (fun x_ => fB w x_ 3) k) + (fB w (k : Int) 3)) (y := sumN (fun x_ => fB w x_ 3) (k + 1)) rfl ?_
    refine v_istore_n (lv' := [(1, .int (jI (sumN (fun x_ => fB w x_ 3) (k + 1)))), (2, .int (jI (k : Int))), (0, .ref (a 0))]) G dX9_mealsOfAll_22 rfl (by decide) rfl ?_
    refine v_iinc (k := 1) (z := (k : Int)) (z' := ((k + 1 : Nat) : Int)) (lv' := [(2, .int (jI ((k + 1 : Nat) : Int))), (1, .int (jI (sumN (fun x_ => fB w x_ 3) (k + 1)))), (0, .ref (a 0))]) G dX9_mealsOfAll_23 rfl (by omega) (by decide) rfl ?_
    refine v_goto (tgt := 4) G dX9_mealsOfAll_26 (by decide) ?_
    exact ih_2 (k + 1) (by omega) (by omega)

set_option maxHeartbeats 4000000 in
set_option maxRecDepth 100000 in
theorem c_X9_count (t : Int) (hw : Wf w) (hr : (-2147483648 ≤ t ∧ t ≤ 2147483647)) : Ci l yX9_count wsX9_count { frames := 2, cells := 0, slots := 0, locals := 44 } D (jT cI cL cB cS) [.ref (a 0), .int (jI t)] (wR cI cL a w kp bf ah ik fd sp lt tp tn he ft vl bt lg ce bw) (S := (Int → Int)) (fun fd2 => (wR cI cL a w kp bf ah ik fd2 sp lt tp tn he ft vl bt lg ce bw)) (fun r fd2 => ((t = 0) ∧ r = jI (w 1) ∧ fd2 = fd) ∨ ((t = 1) ∧ r = jI (w 2) ∧ fd2 = fd) ∨ ((t = 2) ∧ r = jI tn ∧ fd2 = fd) ∨ ((t = 3) ∧ r = jI (sumN (fun x_ => fB w x_ 3) (w 1).toNat) ∧ fd2 = fd) ∨ ((t < 0 ∨ 3 < t) ∧ r = jI (-1000000001) ∧ fd2 = uI fd 0 (fd 0 + 1))) := by
  refine Ci.mk (cc := cX9_count) (maxL := 2) (rt := .int) (by decide) rfl (Nat.le_of_ble_eq_true rfl) rfl ?_
  intro p_ e_ s_ m_ b_ me_ c_ A_ G hnm
  have k_X9 : ∀ w ∈ u_ws RX9 TX9 17, w ∈ wsX9_count := fun _ h => List.mem_cons_of_mem _ (List.mem_append_right _ h)
  have q_1 : Cond.fieldLink RX9 9 "SupperLightModel" "s" "[I" ∈ wsX9_count := List.mem_of_getElem? (i := 1) rfl
  have q_2 : Cond.fieldLink RX9 170 "SupperLightModel" "taped" "I" ∈ wsX9_count := List.mem_of_getElem? (i := 2) rfl
  refine v_iload_n (j := 1) (x := jI t) G dX9_count_0 rfl rfl ?_
  rcases (show t = 0 ∨ t = 1 ∨ t = 2 ∨ t = 3 ∨ (t < 0 ∨ 3 < t) by omega) with c_1 | c_1 | c_1 | c_1 | c_1
  · skip
    refine v_tabIn (z := t) (v := 0) (tgt := 32) G c_1 (by decide) rfl (by decide) dX9_count_1 ?_
    refine v_aload_n (j := 0) (x := a 0) G dX9_count_32 rfl rfl ?_
    refine v_get (q0 := 0) (k := 0) (v := .ref (a 1)) G k_X9 rfl rfl (by decide) q_1 rfl rfl dX9_count_33 ?_
    refine v_iconst G dX9_count_36 ?_
    refine v_iald (q0 := 1) (t0 := 0) (g := w) (z := 1) G rfl rfl (by omega) dX9_count_37 ?_
    exact v_iret G (fd) (by first | exact Or.inl ⟨(by omega), (by first | rfl | exact congrArg jI (by omega)), rfl⟩ | exact Or.inr (Or.inl ⟨(by omega), (by first | rfl | exact congrArg jI (by omega)), rfl⟩) | exact Or.inr (Or.inr (Or.inl ⟨(by omega), (by first | rfl | exact congrArg jI (by omega)), rfl⟩)) | exact Or.inr (Or.inr (Or.inr (Or.inl ⟨(by omega), (by first | rfl | exact congrArg jI (by omega)), rfl⟩))) | exact Or.inr (Or.inr (Or.inr (Or.inr ⟨(by omega), (by first | rfl | exact congrArg jI (by omega)), rfl⟩)))) rfl dX9_count_38
  · skip
    refine v_tabIn (z := t) (v := 1) (tgt := 39) G c_1 (by decide) rfl (by decide) dX9_count_1 ?_
    refine v_aload_n (j := 0) (x := a 0) G dX9_count_39 rfl rfl ?_
    refine v_get (q0 := 0) (k := 0) (v := .ref (a 1)) G k_X9 rfl rfl (by decide) q_1 rfl rfl dX9_count_40 ?_
    refine v_iconst G dX9_count_43 ?_
    refine v_iald (q0 := 1) (t0 := 0) (g := w) (z := 2) G rfl rfl (by omega) dX9_count_44 ?_
    exact v_iret G (fd) (by first | exact Or.inl ⟨(by omega), (by first | rfl | exact congrArg jI (by omega)), rfl⟩ | exact Or.inr (Or.inl ⟨(by omega), (by first | rfl | exact congrArg jI (by omega)), rfl⟩) | exact Or.inr (Or.inr (Or.inl ⟨(by omega), (by first | rfl | exact congrArg jI (by omega)), rfl⟩)) | exact Or.inr (Or.inr (Or.inr (Or.inl ⟨(by omega), (by first | rfl | exact congrArg jI (by omega)), rfl⟩))) | exact Or.inr (Or.inr (Or.inr (Or.inr ⟨(by omega), (by first | rfl | exact congrArg jI (by omega)), rfl⟩)))) rfl dX9_count_45
  · skip
    refine v_tabIn (z := t) (v := 2) (tgt := 46) G c_1 (by decide) rfl (by decide) dX9_count_1 ?_
    refine v_aload_n (j := 0) (x := a 0) G dX9_count_46 rfl rfl ?_
    refine v_get (q0 := 0) (k := 9) (v := .int (jI tn)) G k_X9 rfl rfl (by decide) q_2 rfl rfl dX9_count_47 ?_
    exact v_iret G (fd) (by first | exact Or.inl ⟨(by omega), (by first | rfl | exact congrArg jI (by omega)), rfl⟩ | exact Or.inr (Or.inl ⟨(by omega), (by first | rfl | exact congrArg jI (by omega)), rfl⟩) | exact Or.inr (Or.inr (Or.inl ⟨(by omega), (by first | rfl | exact congrArg jI (by omega)), rfl⟩)) | exact Or.inr (Or.inr (Or.inr (Or.inl ⟨(by omega), (by first | rfl | exact congrArg jI (by omega)), rfl⟩))) | exact Or.inr (Or.inr (Or.inr (Or.inr ⟨(by omega), (by first | rfl | exact congrArg jI (by omega)), rfl⟩)))) rfl dX9_count_50
  · skip
    refine v_tabIn (z := t) (v := 3) (tgt := 51) G c_1 (by decide) rfl (by decide) dX9_count_1 ?_
    refine v_aload_n (j := 0) (x := a 0) G dX9_count_51 rfl rfl ?_
    refine v_ciF G (rn_V (As := []) (rest := []) (q0 := 0) G (c_X9_mealsOfAll (w := w) (kp := kp) (bf := bf) (ah := ah) (ik := ik) (fd := fd) (sp := sp) (lt := lt) (tp := tp) (tn := tn) (he := he) (ft := ft) (vl := vl) (bt := bt) (lg := lg) (ce := ce) (bw := bw) (a := a) (hw := hw)) gX9_count_X9_mealsOfAll rfl hdX9_mealsOfAll ⟨rfl, rfl, Nat.le_of_ble_eq_true rfl, Nat.le_of_ble_eq_true rfl⟩ rfl rfl (Nat.le_of_ble_eq_true rfl) ⟨Nat.zero_le _, Nat.zero_le _⟩ rfl rfl dX9_count_52) (fun r_2 u_4 e_3 => ?_)
    have e_3 : r_2 = jI (sumN (fun x_ => fB w x_ 3) (w 1).toNat) := e_3
    subst e_3
    refine v_world (ws' := (wR cI cL a w kp bf ah ik fd sp lt tp tn he ft vl bt lg ce bw)) rfl ?_
    exact v_iret G (fd) (by first | exact Or.inl ⟨(by omega), (by first | rfl | exact congrArg jI (by omega)), rfl⟩ | exact Or.inr (Or.inl ⟨(by omega), (by first | rfl | exact congrArg jI (by omega)), rfl⟩) | exact Or.inr (Or.inr (Or.inl ⟨(by omega), (by first | rfl | exact congrArg jI (by omega)), rfl⟩)) | exact Or.inr (Or.inr (Or.inr (Or.inl ⟨(by omega), (by first | rfl | exact congrArg jI (by omega)), rfl⟩))) | exact Or.inr (Or.inr (Or.inr (Or.inr ⟨(by omega), (by first | rfl | exact congrArg jI (by omega)), rfl⟩)))) rfl dX9_count_55
  · skip
    refine v_tabOut (z := t) (tgt := 56) G c_1 (by omega) (by decide) dX9_count_1 ?_
    refine v_aload_n (j := 0) (x := a 0) G dX9_count_56 rfl rfl ?_
    refine v_iconst G dX9_count_57 ?_
    refine v_ciF G (rn_V (As := [.int (jI 0)]) (rest := []) (q0 := 0) G (c_X9_no (k := 0) (w := w) (kp := kp) (bf := bf) (ah := ah) (ik := ik) (fd := fd) (sp := sp) (lt := lt) (tp := tp) (tn := tn) (he := he) (ft := ft) (vl := vl) (bt := bt) (lg := lg) (ce := ce) (bw := bw) (a := a) (hk := (by omega))) gX9_count_X9_no rfl hdX9_no ⟨rfl, rfl, Nat.le_of_ble_eq_true rfl, Nat.le_of_ble_eq_true rfl⟩ rfl rfl (Nat.le_of_ble_eq_true rfl) ⟨Nat.zero_le _, Nat.zero_le _⟩ rfl rfl dX9_count_58) (fun r_5 u_7 e_6 => ?_)
    have e_6 : r_5 = jI ((-1000000001) - 0) := e_6
    subst e_6
    refine v_world (ws' := (wR cI cL a w kp bf ah ik (uI fd 0 (fd 0 + 1)) sp lt tp tn he ft vl bt lg ce bw)) rfl ?_
    exact v_iret G (uI fd 0 (fd 0 + 1)) (by first | exact Or.inl ⟨(by omega), (by first | rfl | exact congrArg jI (by omega)), rfl⟩ | exact Or.inr (Or.inl ⟨(by omega), (by first | rfl | exact congrArg jI (by omega)), rfl⟩) | exact Or.inr (Or.inr (Or.inl ⟨(by omega), (by first | rfl | exact congrArg jI (by omega)), rfl⟩)) | exact Or.inr (Or.inr (Or.inr (Or.inl ⟨(by omega), (by first | rfl | exact congrArg jI (by omega)), rfl⟩))) | exact Or.inr (Or.inr (Or.inr (Or.inr ⟨(by omega), (by first | rfl | exact congrArg jI (by omega)), rfl⟩)))) rfl dX9_count_61

set_option maxHeartbeats 4000000 in
set_option maxRecDepth 100000 in
theorem c_X9_status (t : Int) (hw : Wf w) (hr : (-2147483648 ≤ t ∧ t ≤ 2147483647)) : Ci l yX9_status wsX9_status { frames := 1, cells := 0, slots := 0, locals := 22 } D (jT cI cL cB cS) [.ref (a 0), .int (jI t)] (wR cI cL a w kp bf ah ik fd sp lt tp tn he ft vl bt lg ce bw) (S := (Int → Int)) (fun fd2 => (wR cI cL a w kp bf ah ik fd2 sp lt tp tn he ft vl bt lg ce bw)) (fun r fd2 => ((¬ (-1 ≤ t ∧ t ≤ 6)) ∧ r = jI (-1000000001) ∧ fd2 = uI fd 0 (fd 0 + 1)) ∨ ((-1 ≤ t ∧ t ≤ 6) ∧ r = jI (sumN (fun x_ => if t = -1 ∨ t = x_ then fd x_ else 0) 7) ∧ fd2 = fd)) := by
  refine Ci.mk (cc := cX9_status) (maxL := 4) (rt := .int) (by decide) rfl (Nat.le_of_ble_eq_true rfl) rfl ?_
  intro p_ e_ s_ m_ b_ me_ c_ A_ G hnm
  have k_X9 : ∀ w ∈ u_ws RX9 TX9 17, w ∈ wsX9_status := fun _ h => List.mem_cons_of_mem _ (List.mem_append_right _ h)
  have q_1 : Cond.fieldLink RX9 22 "SupperLightModel" "findings" "[I" ∈ wsX9_status := List.mem_of_getElem? (i := 1) rfl
  refine v_iload_n (j := 1) (x := jI t) G dX9_status_0 rfl rfl ?_
  refine v_iconst G dX9_status_1 ?_
  refine v_bipush G dX9_status_2 (by decide) ?_
  refine v_ciN G (rn_S (As := [.int (jI t), .int (jI (-1)), .int (jI 6)]) (rest := []) G (c_X9_in (v := t) (lo := (-1)) (hi := 6) (hr := (by omega))) gX9_status_X9_in rfl hdX9_in ⟨rfl, rfl, Nat.le_of_ble_eq_true rfl, Nat.le_of_ble_eq_true rfl⟩ rfl rfl (Nat.le_of_ble_eq_true rfl) ⟨Nat.zero_le _, Nat.zero_le _⟩ dX9_status_4) (fun r_1 u_3 e_2 => ?_)
  have e_2 : r_1 = jI (b2 ((-1) ≤ t ∧ t ≤ 6)) := e_2
  subst e_2
  refine v_ifb_ne (P := (-1) ≤ t ∧ t ≤ 6) (tgt := 16) G dX9_status_7 (by decide) (fun c_4 => ?_) (fun c_4 => ?_)
  · skip
    refine v_iconst G dX9_status_16 ?_
    refine v_topj (x := 0) (y := sumN (fun x_ => if t = -1 ∨ t = x_ then fd x_ else 0) 0) rfl ?_
    refine v_istore_n (lv' := [(2, .int (jI (sumN (fun x_ => if t = -1 ∨ t = x_ then fd x_ else 0) 0))), (0, .ref (a 0)), (1, .int (jI t))]) G dX9_status_17 rfl (by decide) rfl ?_
    refine v_iconst G dX9_status_18 ?_
    refine v_istore_n (lv' := [(3, .int (jI 0)), (2, .int (jI (sumN (fun x_ => if t = -1 ∨ t = x_ then fd x_ else 0) 0))), (0, .ref (a 0)), (1, .int (jI t))]) G dX9_status_19 rfl (by decide) rfl ?_
    refine v_locs (lv' := [(3, .int (jI 0)), (2, .int (jI (sumN (fun x_ => if t = -1 ∨ t = x_ then fd x_ else 0) 0))), (0, .ref (a 0)), (1, .int (jI t))]) [0, 1, 2, 3] rfl ?_
    refine v_loop1 (fun (k : Nat) => [(3, .int (jI (k : Int))), (2, .int (jI (sumN (fun x_ => if t = -1 ∨ t = x_ then fd x_ else 0) k))), (0, .ref (a 0)), (1, .int (jI t))]) (fun (k : Nat) => (wR cI cL a w kp bf ah ik fd sp lt tp tn he ft vl bt lg ce bw)) (fun (k : Nat) => (k : Int) ≤ 7) (fun (k : Nat) => 7 - k) 0 (by decide) rfl rfl ?_
    intro k I_5 ih_6
    refine v_iload_n (j := 0) (x := jI (k : Int)) G dX9_status_20 rfl rfl ?_
    refine v_bipush G dX9_status_21 (by decide) ?_
    refine v_icmp_ge (a := (k : Int)) (b := 7) (tgt := 55) G dX9_status_23 (by decide) (by omega) (fun c_7 => ?_) (fun c_7 => ?_)
    · skip
      obtain rfl : k = 7 := by omega
      refine v_iload_n (j := 1) (x := jI (sumN (fun x_ => if t = -1 ∨ t = x_ then fd x_ else 0) 7)) G dX9_status_55 rfl rfl ?_
      exact v_iret G (fd) (by first | exact Or.inl ⟨(by omega), (by first | rfl | exact congrArg jI (by omega)), rfl⟩ | exact Or.inr ⟨(by omega), (by first | rfl | exact congrArg jI (by omega)), rfl⟩) rfl dX9_status_56
    · skip
      refine v_iload_n (j := 1) (x := jI (sumN (fun x_ => if t = -1 ∨ t = x_ then fd x_ else 0) k)) G dX9_status_26 rfl rfl ?_
      refine v_iload_n (j := 3) (x := jI t) G dX9_status_27 rfl rfl ?_
      refine v_iconst G dX9_status_28 ?_
      refine v_cut (pc' := 47) (lv' := [(3, .int (jI (k : Int))), (2, .int (jI (sumN (fun x_ => if t = -1 ∨ t = x_ then fd x_ else 0) k))), (0, .ref (a 0)), (1, .int (jI t))]) (st' := [.int (jI (if t = -1 ∨ t = (k : Int) then fd (k : Int) else 0)), .int (jI (sumN (fun x_ => if t = -1 ∨ t = x_ then fd x_ else 0) k))]) (ws' := (wR cI cL a w kp bf ah ik fd sp lt tp tn he ft vl bt lg ce bw)) ?_ (fun J_8 => ?_)
      · skip
        refine v_iadd (z := (sumN (fun x_ => if t = -1 ∨ t = x_ then fd x_ else 0) k) + (if t = -1 ∨ t = (k : Int) then fd (k : Int) else 0)) G dX9_status_47 rfl ?_
        refine v_topj (x := (sumN (fun x_ => if t = -1 ∨ t = x_ then fd x_ else 0) k) + (if t = -1 ∨ t = (k : Int) then fd (k : Int) else 0)) (y := sumN (fun x_ => if t = -1 ∨ t = x_ then fd x_ else 0) (k + 1)) rfl ?_
        refine v_istore_n (lv' := [(2, .int (jI (sumN (fun x_ => if t = -1 ∨ t = x_ then fd x_ else 0) (k + 1)))), (3, .int (jI (k : Int))), (0, .ref (a 0)), (1, .int (jI t))]) G dX9_status_48 rfl (by decide) rfl ?_
        refine v_iinc (k := 1) (z := (k : Int)) (z' := ((k + 1 : Nat) : Int)) (lv' := [(3, .int (jI ((k + 1 : Nat) : Int))), (2, .int (jI (sumN (fun x_ => if t = -1 ∨ t = x_ then fd x_ else 0) (k + 1)))), (0, .ref (a 0)), (1, .int (jI t))]) G dX9_status_49 rfl (by omega) (by decide) rfl ?_
        refine v_goto (tgt := 20) G dX9_status_52 (by decide) ?_
        exact ih_6 (k + 1) (by omega) (by omega)
      · skip
        refine v_icmp_eq (a := t) (b := (-1)) (tgt := 37) G dX9_status_29 (by decide) (by omega) (fun c_9 => ?_) (fun c_9 => ?_)
        · skip
          refine v_aload_n (j := 2) (x := a 0) G dX9_status_37 rfl rfl ?_
          refine v_get (q0 := 0) (k := 5) (v := .ref (a 5)) G k_X9 rfl rfl (by decide) q_1 rfl rfl dX9_status_38 ?_
          refine v_iload_n (j := 0) (x := jI (k : Int)) G dX9_status_41 rfl rfl ?_
          refine v_iald (q0 := 5) (t0 := 0) (g := fd) (z := (k : Int)) G rfl rfl (by omega) dX9_status_42 ?_
          refine v_goto (tgt := 47) G dX9_status_43 (by decide) ?_
          refine v_topj (x := fd (k : Int)) (y := if t = -1 ∨ t = (k : Int) then fd (k : Int) else 0) (by split <;> omega) ?_
          exact J_8
        · skip
          refine v_iload_n (j := 3) (x := jI t) G dX9_status_32 rfl rfl ?_
          refine v_iload_n (j := 0) (x := jI (k : Int)) G dX9_status_33 rfl rfl ?_
          refine v_icmp_ne (a := t) (b := (k : Int)) (tgt := 46) G dX9_status_34 (by decide) (by omega) (fun c_10 => ?_) (fun c_10 => ?_)
          · skip
            refine v_iconst G dX9_status_46 ?_
            refine v_topj (x := 0) (y := if t = -1 ∨ t = (k : Int) then fd (k : Int) else 0) (by split <;> omega) ?_
            exact J_8
          · skip
            refine v_aload_n (j := 2) (x := a 0) G dX9_status_37 rfl rfl ?_
            refine v_get (q0 := 0) (k := 5) (v := .ref (a 5)) G k_X9 rfl rfl (by decide) q_1 rfl rfl dX9_status_38 ?_
            refine v_iload_n (j := 0) (x := jI (k : Int)) G dX9_status_41 rfl rfl ?_
            refine v_iald (q0 := 5) (t0 := 0) (g := fd) (z := (k : Int)) G rfl rfl (by omega) dX9_status_42 ?_
            refine v_goto (tgt := 47) G dX9_status_43 (by decide) ?_
            refine v_topj (x := fd (k : Int)) (y := if t = -1 ∨ t = (k : Int) then fd (k : Int) else 0) (by split <;> omega) ?_
            exact J_8
  · skip
    refine v_aload_n (j := 0) (x := a 0) G dX9_status_10 rfl rfl ?_
    refine v_iconst G dX9_status_11 ?_
    refine v_ciF G (rn_V (As := [.int (jI 0)]) (rest := []) (q0 := 0) G (c_X9_no (k := 0) (w := w) (kp := kp) (bf := bf) (ah := ah) (ik := ik) (fd := fd) (sp := sp) (lt := lt) (tp := tp) (tn := tn) (he := he) (ft := ft) (vl := vl) (bt := bt) (lg := lg) (ce := ce) (bw := bw) (a := a) (hk := (by omega))) gX9_status_X9_no rfl hdX9_no ⟨rfl, rfl, Nat.le_of_ble_eq_true rfl, Nat.le_of_ble_eq_true rfl⟩ rfl rfl (Nat.le_of_ble_eq_true rfl) ⟨Nat.zero_le _, Nat.zero_le _⟩ rfl rfl dX9_status_12) (fun r_11 u_13 e_12 => ?_)
    have e_12 : r_11 = jI ((-1000000001) - 0) := e_12
    subst e_12
    refine v_world (ws' := (wR cI cL a w kp bf ah ik (uI fd 0 (fd 0 + 1)) sp lt tp tn he ft vl bt lg ce bw)) rfl ?_
    exact v_iret G (uI fd 0 (fd 0 + 1)) (by first | exact Or.inl ⟨(by omega), (by first | rfl | exact congrArg jI (by omega)), rfl⟩ | exact Or.inr ⟨(by omega), (by first | rfl | exact congrArg jI (by omega)), rfl⟩) rfl dX9_status_15
end

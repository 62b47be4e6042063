def Sx (x : Int × Int × (Int → Int64)) : Prop := (x.1 = 0 ∨ x.1 = 8 ∨ x.1 = 16 ∨ x.1 = 64) ∧ 0 ≤ x.2.1 ∧ x.2.1 ≤ 40
def cyS (f g : Int → Int64) (x y n : Int) : Int → Int64 := fun j => if y ≤ j ∧ j < y + n then f (x + (j - y)) else g j
noncomputable def lyB (w : Int → Int) (f : Int → Int64) : Nat → (Int → Int)
  | 0 => w
  | i + 1 => @ite (Int → Int) (okL (f (i : Int))) (Classical.propDecidable _) (uI (lyB w f i) (i : Int) (f (i : Int)).toInt) (lyB w f i)
theorem lybbt {w : Int → Int} {f : Int → Int64} {i : Nat} (h : okL (f (i : Int))) : lyB w f (i + 1) = uI (lyB w f i) (i : Int) (f (i : Int)).toInt ∧ lyC f (i + 1) = lyC f i + 1 := ⟨if_pos h, if_pos h⟩
theorem lybbf {w : Int → Int} {f : Int → Int64} {i : Nat} (h : ¬ okL (f (i : Int))) : lyB w f (i + 1) = lyB w f i ∧ lyC f (i + 1) = lyC f i := ⟨if_neg h, if_neg h⟩
/-- a byte with its sign -/
def sby (x : Int32) (k : Int) : Int := ((x >>> (jI (8 * k) &&& 31)).toInt8.toInt32).toInt
theorem sby_b (x : Int32) (k : Int) : vp_nar .byte (jI (sby x k)) = jI (sby x k) := by
  have e : jI (sby x k) = (x >>> (jI (8 * k) &&& 31)).toInt8.toInt32 := Int32.ofInt_toInt _
  rw [e]
  show ((x >>> (jI (8 * k) &&& 31)).toInt8.toInt32).toInt8.toInt32 = _
  rw [Int8.toInt8_toInt32]
def tbF (tp : Int → Int) (tn : Int) (x : Int32) (n : Int) : Nat → (Int → Int)
  | 0 => tp
  | j + 1 => uI (tbF tp tn x n j) (tn + (j : Int)) (sby x (n - 1 - (j : Int)))
section
variable {l : Launch} {D : va_G} {cI cL cB cS : ClassId} {a b c : Nat → Nat} {x o wd kw tw : WT} {g gl : GT} {sx : Int × Int × (Int → Int64)} {fd li : Int → Int} {wy : (Int → Int) × (Int → Int)} {lr : (Int → Int64) × (Int → Int)} {nx : Int} {ta : (Int → Int) × Int} {tk : (Int → Int) × (Int → Int) × (Int → Int) × Int} {s0 s1 s2 s3 : Int × Int × (Int → Int64)} {ks : Int}
set_option maxHeartbeats 4000000 in
set_option maxRecDepth 100000 in
theorem c_J7_fill_d0a16 (y : Nat) (f : Int → Int64) (N : Nat) (x : Int64) (hn : N ≤ 1000) : Cv l yJ7_fill_d0a16 wsJ7_fill_d0a16 { frames := 0, cells := 0, slots := 0, locals := 0 } D (jT cI cL cB cS) [.ref y, .long x] (gAL cL y N f) (S := Unit) (fun _ => (gAL cL y N (fun _ => x))) (fun _ => True) := by
  refine Cv.mk (cc := cJ7_fill_d0a16) (maxL := 5) (by decide) rfl (Nat.le_of_ble_eq_true rfl) rfl ?_
  intro p_ e_ s_ m_ b_ me_ c_ A_ G hnm
  refine v_iconst G dJ7_fill_d0a16_0 ?_
  refine v_istore_n (lv' := [(3, .int (jI 0)), (0, .ref y), (1, .long x)]) G dJ7_fill_d0a16_1 rfl (by decide) rfl ?_
  refine v_aload_n (j := 1) (x := y) G dJ7_fill_d0a16_2 rfl rfl ?_
  refine v_alen (q0 := 0) (t0 := 1) (z := (N : Int)) G rfl rfl rfl dJ7_fill_d0a16_3 ?_
  refine v_istore (lv' := [(4, .int (jI (N : Int))), (3, .int (jI 0)), (0, .ref y), (1, .long x)]) G dJ7_fill_d0a16_4 (by decide) rfl ?_
  refine v_cellL (q0 := 0) (g := f) (g' := cpL (fun _ => x) f 0) (ws' := (gAL cL y N (cpL (fun _ => x) f 0))) rfl (fun j h0 _ => by unfold cpL; rw [if_neg (by omega)]) rfl ?_
  refine v_locs (lv' := [(3, .int (jI 0)), (4, .int (jI (N : Int))), (0, .ref y), (1, .long x)]) [1, 0, 2, 3] rfl ?_
  refine v_loop1 (fun (k : Nat) => [(3, .int (jI (k : Int))), (4, .int (jI (N : Int))), (0, .ref y), (1, .long x)]) (fun (k : Nat) => (gAL cL y N (cpL (fun _ => x) f k))) (fun (k : Nat) => k ≤ N) (fun (k : Nat) => N - k) 0 (by omega) rfl rfl ?_
  intro k I_1 ih_2
  refine v_iload_n (j := 0) (x := jI (k : Int)) G dJ7_fill_d0a16_6 rfl rfl ?_
  refine v_iload (j := 1) (x := jI (N : Int)) G dJ7_fill_d0a16_7 rfl ?_
  refine v_icmp_ge (a := (k : Int)) (b := (N : Int)) (tgt := 22) G dJ7_fill_d0a16_9 (by decide) (by omega) (fun c_3 => ?_) (fun c_3 => ?_)
  · skip
    refine v_cellL (q0 := 0) (g := cpL (fun _ => x) f k) (g' := fun _ => x) (ws' := (gAL cL y N (fun _ => x))) rfl (fun j h0 _ => by unfold cpL; rw [if_pos (by omega)]) rfl ?_
    exact v_vret G () trivial rfl dJ7_fill_d0a16_22
  · skip
    refine v_aload_n (j := 2) (x := y) G dJ7_fill_d0a16_12 rfl rfl ?_
    refine v_iload_n (j := 0) (x := jI (k : Int)) G dJ7_fill_d0a16_13 rfl rfl ?_
    refine v_lload_n (j := 3) (x := x) G dJ7_fill_d0a16_14 rfl rfl ?_
    refine v_last (q0 := 0) (t0 := 1) (g := cpL (fun _ => x) f k) (z := (k : Int)) (x := x) (ws' := (gAL cL y N (uL (cpL (fun _ => x) f k) (k : Int) x))) G rfl rfl (by omega) rfl dJ7_fill_d0a16_15 ?_
    refine v_cellL (q0 := 0) (g := uL (cpL (fun _ => x) f k) (k : Int) x) (g' := cpL (fun _ => x) f (k + 1)) (ws' := (gAL cL y N (cpL (fun _ => x) f (k + 1)))) rfl (fun j h0 _ => cpL_s (fun _ => x) f k j h0) rfl ?_
    refine v_iinc (k := 0) (z := (k : Int)) (z' := ((k + 1 : Nat) : Int)) (lv' := [(3, .int (jI ((k + 1 : Nat) : Int))), (4, .int (jI (N : Int))), (0, .ref y), (1, .long x)]) G dJ7_fill_d0a16_16 rfl (by omega) (by decide) rfl ?_
    refine v_goto (tgt := 6) G dJ7_fill_d0a16_19 (by decide) ?_
    exact ih_2 (k + 1) (by omega) (by omega)

set_option maxHeartbeats 4000000 in
set_option maxRecDepth 100000 in
theorem c_X3_isMissing  (hx : Sx sx) : Ci l yX3_isMissing wsX3_isMissing { frames := 0, cells := 0, slots := 0, locals := 0 } D (jT cI cL cB cS) [.ref (b 0)] (gX cL b sx) (S := Unit) (fun _ => (gX cL b sx)) (fun r _ => r = jI (b2 (sx.1 = 0))) := by
  refine Ci.mk (cc := cX3_isMissing) (maxL := 1) (rt := .boolean) (by decide) rfl (Nat.le_of_ble_eq_true rfl) rfl ?_
  intro p_ e_ s_ m_ b_ me_ c_ A_ G hnm
  obtain ⟨hb, hz⟩ := id hx
  have k_X3 : ∀ w ∈ u_ws RX3 TX3 3, w ∈ wsX3_isMissing := fun _ h => List.mem_cons_of_mem _ (List.mem_append_right _ h)
  have q_1 : Cond.fieldLink RX3 9 "SupperLight$Sheet" "bits" "I" ∈ wsX3_isMissing := List.mem_of_getElem? (i := 1) rfl
  refine v_aload_n (j := 0) (x := b 0) G dX3_isMissing_0 rfl rfl ?_
  refine v_get (q0 := 0) (k := 0) (v := .int (jI sx.1)) G k_X3 rfl rfl (by decide) q_1 rfl rfl dX3_isMissing_1 ?_
  refine v_if_ne (a := sx.1) (tgt := 11) G dX3_isMissing_4 (by decide) (by omega) (fun c_1 => ?_) (fun c_1 => ?_)
  · skip
    refine v_iconst G dX3_isMissing_11 ?_
    exact v_zret G () nb_0 (show jI 0 = jI (b2 (sx.1 = 0)) from congrArg jI (b2_f (P := sx.1 = 0) (by omega)).symm) rfl dX3_isMissing_12
  · skip
    refine v_iconst G dX3_isMissing_7 ?_
    refine v_goto (tgt := 12) G dX3_isMissing_8 (by decide) ?_
    exact v_zret G () nb_1 (show jI 1 = jI (b2 (sx.1 = 0)) from congrArg jI (b2_t (P := sx.1 = 0) (by omega)).symm) rfl dX3_isMissing_12

set_option maxHeartbeats 4000000 in
set_option maxRecDepth 100000 in
theorem c_X3_layOut (bb n : Int) (hr : (-2147483648 ≤ bb ∧ bb ≤ 2147483647) ∧ (-2147483648 ≤ n ∧ n ≤ 2147483647)) : Cv l yX3_layOut wsX3_layOut { frames := 1, cells := 0, slots := 0, locals := 24 } D (jT cI cL cB cS) [.ref (b 0), .int (jI bb), .int (jI n)] (gX cL b sx) (S := Unit) (fun _ => (gX cL b (bb, if bb = 0 then 0 else n, fun _ => jL 0))) (fun _ => True) := by
  refine Cv.mk (cc := cX3_layOut) (maxL := 3) (by decide) rfl (Nat.le_of_ble_eq_true rfl) rfl ?_
  intro p_ e_ s_ m_ b_ me_ c_ A_ G hnm
  have k_X3 : ∀ w ∈ u_ws RX3 TX3 3, w ∈ wsX3_layOut := fun _ h => List.mem_cons_of_mem _ (List.mem_append_right _ h)
  have q_1 : Cond.fieldLink RX3 9 "SupperLight$Sheet" "bits" "I" ∈ wsX3_layOut := List.mem_of_getElem? (i := 1) rfl
  have q_2 : Cond.fieldLink RX3 15 "SupperLight$Sheet" "size" "I" ∈ wsX3_layOut := List.mem_of_getElem? (i := 2) rfl
  have q_3 : Cond.fieldLink RX3 18 "SupperLight$Sheet" "numbers" "[J" ∈ wsX3_layOut := List.mem_of_getElem? (i := 3) rfl
  refine v_aload_n (j := 0) (x := b 0) G dX3_layOut_0 rfl rfl ?_
  refine v_iload_n (j := 1) (x := jI bb) G dX3_layOut_1 rfl rfl ?_
  refine v_put (q0 := 0) (k := 0) (ty := .int) (ws' := (gX cL b (bb, sx.2.1, sx.2.2))) G k_X3 tyX3 tyX3_ok nmX3 rfl rfl (by decide) q_1 rfl rfl rfl rfl rfl (Nat.le_of_ble_eq_true rfl) rfl dX3_layOut_2 ?_
  refine v_aload_n (j := 0) (x := b 0) G dX3_layOut_5 rfl rfl ?_
  refine v_iload_n (j := 1) (x := jI bb) G dX3_layOut_6 rfl rfl ?_
  refine v_cut (pc' := 15) (lv' := [(0, .ref (b 0)), (1, .int (jI bb)), (2, .int (jI n))]) (st' := [.int (jI (if bb = 0 then 0 else n)), .ref (b 0)]) (ws' := (gX cL b (bb, sx.2.1, sx.2.2))) ?_ (fun J_1 => ?_)
  · skip
    refine v_put (q0 := 0) (k := 1) (ty := .int) (ws' := (gX cL b (bb, if bb = 0 then 0 else n, sx.2.2))) G k_X3 tyX3 tyX3_ok nmX3 rfl rfl (by decide) q_2 rfl rfl rfl rfl rfl (Nat.le_of_ble_eq_true rfl) rfl dX3_layOut_15 ?_
    refine v_aload_n (j := 0) (x := b 0) G dX3_layOut_18 rfl rfl ?_
    refine v_get (q0 := 0) (k := 2) (v := .ref (b 1)) G k_X3 rfl rfl (by decide) q_3 rfl rfl dX3_layOut_19 ?_
    refine v_lconst (z := 0) G dX3_layOut_22 (by decide) ?_
    refine v_cvA (q0 := 1) (ws' := (gX cL b (bb, if bb = 0 then 0 else n, fun _ => (jL 0)))) G rfl rfl (rn_S (As := [.ref (b 1), .long (jL 0)]) (rest := []) G (c_J7_fill_d0a16 (x := jL 0) (y := b 1) (f := sx.2.2) (N := 40) (hn := (by omega))) gX3_layOut_J7_fill_d0a16 rfl hdJ7_fill_d0a16 ⟨rfl, rfl, Nat.le_of_ble_eq_true rfl, Nat.le_of_ble_eq_true rfl⟩ rfl rfl (Nat.le_of_ble_eq_true rfl) ⟨Nat.zero_le _, Nat.zero_le _⟩ dX3_layOut_23) (fun u_4 e_3 => ?_)
    exact v_vret G () trivial rfl dX3_layOut_26
  · skip
    refine v_if_ne (a := bb) (tgt := 14) G dX3_layOut_7 (by decide) (by omega) (fun c_5 => ?_) (fun c_5 => ?_)
    · skip
      refine v_iload_n (j := 2) (x := jI n) G dX3_layOut_14 rfl rfl ?_
      refine v_topj (x := n) (y := if bb = 0 then 0 else n) (by split <;> omega) ?_
      exact J_1
    · skip
      refine v_iconst G dX3_layOut_10 ?_
      refine v_goto (tgt := 15) G dX3_layOut_11 (by decide) ?_
      refine v_topj (x := 0) (y := if bb = 0 then 0 else n) (by split <;> omega) ?_
      exact J_1

set_option maxHeartbeats 4000000 in
set_option maxRecDepth 100000 in
theorem c_X3_put (i : Int) (v : Int64) (hx : Sx sx) (hi : 0 ≤ i ∧ i < 40) : Cv l yX3_put wsX3_put { frames := 0, cells := 0, slots := 0, locals := 0 } D (jT cI cL cB cS) [.ref (b 0), .int (jI i), .long v] (gX cL b sx) (S := Unit) (fun _ => (gX cL b (sx.1, sx.2.1, uL sx.2.2 i (nW sx.1 v)))) (fun _ => True) := by
  refine Cv.mk (cc := cX3_put) (maxL := 4) (by decide) rfl (Nat.le_of_ble_eq_true rfl) rfl ?_
  intro p_ e_ s_ m_ b_ me_ c_ A_ G hnm
  obtain ⟨hb, hz⟩ := id hx
  have k_X3 : ∀ w ∈ u_ws RX3 TX3 3, w ∈ wsX3_put := fun _ h => List.mem_cons_of_mem _ (List.mem_append_right _ h)
  have q_1 : Cond.fieldLink RX3 9 "SupperLight$Sheet" "bits" "I" ∈ wsX3_put := List.mem_of_getElem? (i := 1) rfl
  have q_2 : Cond.fieldLink RX3 18 "SupperLight$Sheet" "numbers" "[J" ∈ wsX3_put := List.mem_of_getElem? (i := 2) rfl
  refine v_aload_n (j := 0) (x := b 0) G dX3_put_0 rfl rfl ?_
  refine v_get (q0 := 0) (k := 0) (v := .int (jI sx.1)) G k_X3 rfl rfl (by decide) q_1 rfl rfl dX3_put_1 ?_
  rcases (show sx.1 = 8 ∨ sx.1 = 16 ∨ (sx.1 ≠ 8 ∧ sx.1 ≠ 16) by omega) with c_1 | c_1 | c_1
  · skip
    refine v_lookIn (z := sx.1) (v := 8) (off := 28) (tgt := 32) G c_1 (by decide) (by decide) (by decide) (by decide) dX3_put_4 ?_
    refine v_aload_n (j := 0) (x := b 0) G dX3_put_32 rfl rfl ?_
    refine v_get (q0 := 0) (k := 2) (v := .ref (b 1)) G k_X3 rfl rfl (by decide) q_2 rfl rfl dX3_put_33 ?_
    refine v_iload_n (j := 1) (x := jI i) G dX3_put_36 rfl rfl ?_
    refine v_lload_n (j := 2) (x := v) G dX3_put_37 rfl rfl ?_
    refine v_l2i (v := v.toInt32) G dX3_put_38 rfl ?_
    refine v_i2b (v := v.toInt32.toInt8.toInt32) G dX3_put_39 rfl ?_
    refine v_i2l (v := v.toInt32.toInt8.toInt32.toInt64) G dX3_put_40 rfl ?_
    refine v_last (q0 := 1) (t0 := 1) (g := sx.2.2) (z := i) (x := v.toInt32.toInt8.toInt32.toInt64) (ws' := (gX cL b (sx.1, sx.2.1, uL sx.2.2 i v.toInt32.toInt8.toInt32.toInt64))) G rfl rfl (by omega) rfl dX3_put_41 ?_
    refine v_goto (tgt := 65) G dX3_put_42 (by decide) ?_
    refine v_world (ws' := (gX cL b (sx.1, sx.2.1, uL sx.2.2 i (nW sx.1 v)))) (by unfold nW; first | rw [if_pos (by omega)] | rw [if_neg (by omega), if_pos (by omega)] | rw [if_neg (by omega), if_neg (by omega)]) ?_
    exact v_vret G () trivial rfl dX3_put_65
  · skip
    refine v_lookIn (z := sx.1) (v := 16) (off := 41) (tgt := 45) G c_1 (by decide) (by decide) (by decide) (by decide) dX3_put_4 ?_
    refine v_aload_n (j := 0) (x := b 0) G dX3_put_45 rfl rfl ?_
    refine v_get (q0 := 0) (k := 2) (v := .ref (b 1)) G k_X3 rfl rfl (by decide) q_2 rfl rfl dX3_put_46 ?_
    refine v_iload_n (j := 1) (x := jI i) G dX3_put_49 rfl rfl ?_
    refine v_lload_n (j := 2) (x := v) G dX3_put_50 rfl rfl ?_
    refine v_l2i (v := v.toInt32) G dX3_put_51 rfl ?_
    refine v_i2s (v := v.toInt32.toInt16.toInt32) G dX3_put_52 rfl ?_
    refine v_i2l (v := v.toInt32.toInt16.toInt32.toInt64) G dX3_put_53 rfl ?_
    refine v_last (q0 := 1) (t0 := 1) (g := sx.2.2) (z := i) (x := v.toInt32.toInt16.toInt32.toInt64) (ws' := (gX cL b (sx.1, sx.2.1, uL sx.2.2 i v.toInt32.toInt16.toInt32.toInt64))) G rfl rfl (by omega) rfl dX3_put_54 ?_
    refine v_goto (tgt := 65) G dX3_put_55 (by decide) ?_
    refine v_world (ws' := (gX cL b (sx.1, sx.2.1, uL sx.2.2 i (nW sx.1 v)))) (by unfold nW; first | rw [if_pos (by omega)] | rw [if_neg (by omega), if_pos (by omega)] | rw [if_neg (by omega), if_neg (by omega)]) ?_
    exact v_vret G () trivial rfl dX3_put_65
  · skip
    refine v_lookOut (z := sx.1) (tgt := 58) G (by decide) (by simp only [List.mem_cons, List.not_mem_nil, or_false, forall_eq_or_imp, forall_eq]; omega) (by omega) (by decide) dX3_put_4 ?_
    refine v_aload_n (j := 0) (x := b 0) G dX3_put_58 rfl rfl ?_
    refine v_get (q0 := 0) (k := 2) (v := .ref (b 1)) G k_X3 rfl rfl (by decide) q_2 rfl rfl dX3_put_59 ?_
    refine v_iload_n (j := 1) (x := jI i) G dX3_put_62 rfl rfl ?_
    refine v_lload_n (j := 2) (x := v) G dX3_put_63 rfl rfl ?_
    refine v_last (q0 := 1) (t0 := 1) (g := sx.2.2) (z := i) (x := v) (ws' := (gX cL b (sx.1, sx.2.1, uL sx.2.2 i v))) G rfl rfl (by omega) rfl dX3_put_64 ?_
    refine v_world (ws' := (gX cL b (sx.1, sx.2.1, uL sx.2.2 i (nW sx.1 v)))) (by unfold nW; first | rw [if_pos (by omega)] | rw [if_neg (by omega), if_pos (by omega)] | rw [if_neg (by omega), if_neg (by omega)]) ?_
    exact v_vret G () trivial rfl dX3_put_65

set_option maxHeartbeats 4000000 in
set_option maxRecDepth 100000 in
theorem c_X3_hasSpan (f n : Int) (hx : Sx sx) (hr : (-2147483648 ≤ f ∧ f ≤ 2147483647) ∧ (-2147483648 ≤ n ∧ n ≤ 2147483647)) : Ci l yX3_hasSpan wsX3_hasSpan { frames := 0, cells := 0, slots := 0, locals := 0 } D (jT cI cL cB cS) [.ref (b 0), .int (jI f), .int (jI n)] (gX cL b sx) (S := Unit) (fun _ => (gX cL b sx)) (fun r _ => r = jI (b2 (0 ≤ f ∧ 0 ≤ n ∧ n ≤ sx.2.1 - f))) := by
  refine Ci.mk (cc := cX3_hasSpan) (maxL := 3) (rt := .boolean) (by decide) rfl (Nat.le_of_ble_eq_true rfl) rfl ?_
  intro p_ e_ s_ m_ b_ me_ c_ A_ G hnm
  obtain ⟨hb, hz⟩ := id hx
  have k_X3 : ∀ w ∈ u_ws RX3 TX3 3, w ∈ wsX3_hasSpan := fun _ h => List.mem_cons_of_mem _ (List.mem_append_right _ h)
  have q_1 : Cond.fieldLink RX3 15 "SupperLight$Sheet" "size" "I" ∈ wsX3_hasSpan := List.mem_of_getElem? (i := 1) rfl
  refine v_iload_n (j := 1) (x := jI f) G dX3_hasSpan_0 rfl rfl ?_
  refine v_if_lt (a := f) (tgt := 22) G dX3_hasSpan_1 (by decide) (by omega) (fun c_1 => ?_) (fun c_1 => ?_)
  · skip
    refine v_iconst G dX3_hasSpan_22 ?_
    exact v_zret G () nb_0 (show jI 0 = jI (b2 (0 ≤ f ∧ 0 ≤ n ∧ n ≤ sx.2.1 - f)) from congrArg jI (b2_f (P := 0 ≤ f ∧ 0 ≤ n ∧ n ≤ sx.2.1 - f) (by omega)).symm) rfl dX3_hasSpan_23
  · skip
    refine v_iload_n (j := 2) (x := jI n) G dX3_hasSpan_4 rfl rfl ?_
    refine v_if_lt (a := n) (tgt := 22) G dX3_hasSpan_5 (by decide) (by omega) (fun c_2 => ?_) (fun c_2 => ?_)
    · skip
      refine v_iconst G dX3_hasSpan_22 ?_
      exact v_zret G () nb_0 (show jI 0 = jI (b2 (0 ≤ f ∧ 0 ≤ n ∧ n ≤ sx.2.1 - f)) from congrArg jI (b2_f (P := 0 ≤ f ∧ 0 ≤ n ∧ n ≤ sx.2.1 - f) (by omega)).symm) rfl dX3_hasSpan_23
    · skip
      refine v_iload_n (j := 2) (x := jI n) G dX3_hasSpan_8 rfl rfl ?_
      refine v_aload_n (j := 0) (x := b 0) G dX3_hasSpan_9 rfl rfl ?_
      refine v_get (q0 := 0) (k := 1) (v := .int (jI sx.2.1)) G k_X3 rfl rfl (by decide) q_1 rfl rfl dX3_hasSpan_10 ?_
      refine v_iload_n (j := 1) (x := jI f) G dX3_hasSpan_13 rfl rfl ?_
      refine v_isub (z := sx.2.1 - f) G dX3_hasSpan_14 rfl ?_
      refine v_icmp_gt (a := n) (b := sx.2.1 - f) (tgt := 22) G dX3_hasSpan_15 (by decide) (by omega) (fun c_3 => ?_) (fun c_3 => ?_)
      · skip
        refine v_iconst G dX3_hasSpan_22 ?_
        exact v_zret G () nb_0 (show jI 0 = jI (b2 (0 ≤ f ∧ 0 ≤ n ∧ n ≤ sx.2.1 - f)) from congrArg jI (b2_f (P := 0 ≤ f ∧ 0 ≤ n ∧ n ≤ sx.2.1 - f) (by omega)).symm) rfl dX3_hasSpan_23
      · skip
        refine v_iconst G dX3_hasSpan_18 ?_
        refine v_goto (tgt := 23) G dX3_hasSpan_19 (by decide) ?_
        exact v_zret G () nb_1 (show jI 1 = jI (b2 (0 ≤ f ∧ 0 ≤ n ∧ n ≤ sx.2.1 - f)) from congrArg jI (b2_t (P := 0 ≤ f ∧ 0 ≤ n ∧ n ≤ sx.2.1 - f) (by omega)).symm) rfl dX3_hasSpan_23

set_option maxHeartbeats 4000000 in
set_option maxRecDepth 100000 in
theorem c_X3_places  (hx : Sx sx) : Ci l yX3_places wsX3_places { frames := 1, cells := 0, slots := 0, locals := 21 } D (jT cI cL cB cS) [.ref (b 0)] (gX cL b sx) (S := Unit) (fun _ => (gX cL b sx)) (fun r _ => r = jI (jmin sx.2.1 16)) := by
  refine Ci.mk (cc := cX3_places) (maxL := 1) (rt := .int) (by decide) rfl (Nat.le_of_ble_eq_true rfl) rfl ?_
  intro p_ e_ s_ m_ b_ me_ c_ A_ G hnm
  obtain ⟨hb, hz⟩ := id hx
  have k_X3 : ∀ w ∈ u_ws RX3 TX3 3, w ∈ wsX3_places := fun _ h => List.mem_cons_of_mem _ (List.mem_append_right _ h)
  have q_1 : Cond.fieldLink RX3 15 "SupperLight$Sheet" "size" "I" ∈ wsX3_places := List.mem_of_getElem? (i := 1) rfl
  have q_2 : Cond.methodLink RX3 28 Lib.Math.min.name ∈ wsX3_places := List.mem_of_getElem? (i := 2) rfl
  have q_3 : Cond.static Lib.Math.min.name ∈ wsX3_places := List.mem_of_getElem? (i := 3) rfl
  have q_4 : Cond.initialized "java/lang/Math" ∈ wsX3_places := List.mem_of_getElem? (i := 4) rfl
  have q_5 : Cond.code Lib.Math.min.name Lib.Math.min.code 2 (some .int) ∈ wsX3_places := List.mem_of_getElem? (i := 5) rfl
  refine v_aload_n (j := 0) (x := b 0) G dX3_places_0 rfl rfl ?_
  refine v_get (q0 := 0) (k := 1) (v := .int (jI sx.2.1)) G k_X3 rfl rfl (by decide) q_1 rfl rfl dX3_places_1 ?_
  refine v_bipush G dX3_places_4 (by decide) ?_
  refine v_mmin (z := jmin sx.2.1 16) G q_2 q_3 q_4 q_5 ⟨Nat.le_of_ble_eq_true rfl, Nat.le_of_ble_eq_true rfl, Nat.zero_le _, Nat.zero_le _⟩ (by omega) (jmin_z sx.2.1 16) dX3_places_6 ?_
  exact v_iret G () rfl rfl dX3_places_9

set_option maxHeartbeats 4000000 in
set_option maxRecDepth 100000 in
theorem c_X8_sheet (k bb n : Int) (hx0 : Sx s0) (hx1 : Sx s1) (hx2 : Sx s2) (hx3 : Sx s3) (hr : (-2147483648 ≤ k ∧ k ≤ 2147483647) ∧ (-2147483648 ≤ bb ∧ bb ≤ 2147483647) ∧ (-2147483648 ≤ n ∧ n ≤ 2147483647)) : Ci l yX8_sheet wsX8_sheet { frames := 2, cells := 0, slots := 0, locals := 46 } D (jT cI cL cB cS) [.ref (a 0), .int (jI k), .int (jI bb), .int (jI n)] (gS  a ks ++ gF cI a fd ++ gH cS a  ++ gX cL (fun i => a (44 + i)) s0 ++ gX cL (fun i => a (46 + i)) s1 ++ gX cL (fun i => a (48 + i)) s2 ++ gX cL (fun i => a (50 + i)) s3) (S := (Int → Int) × (Int × Int × (Int → Int64)) × (Int × Int × (Int → Int64)) × (Int × Int × (Int → Int64)) × (Int × Int × (Int → Int64))) (fun u => (gS  a ks ++ gF cI a u.1 ++ gH cS a  ++ gX cL (fun i => a (44 + i)) u.2.1 ++ gX cL (fun i => a (46 + i)) u.2.2.1 ++ gX cL (fun i => a (48 + i)) u.2.2.2.1 ++ gX cL (fun i => a (50 + i)) u.2.2.2.2)) (fun r u => ((¬ ((0 ≤ k ∧ k ≤ 3) ∧ (bb = 0 ∨ bb = 8 ∨ bb = 16 ∨ bb = 64))) ∧ r = jI (-1000000001) ∧ u.1 = uI fd 0 (fd 0 + 1) ∧ u.2.1 = s0 ∧ u.2.2.1 = s1 ∧ u.2.2.2.1 = s2 ∧ u.2.2.2.2 = s3) ∨ ((((0 ≤ k ∧ k ≤ 3) ∧ (bb = 0 ∨ bb = 8 ∨ bb = 16 ∨ bb = 64)) ∧ n < 0) ∧ r = jI (-1000000007) ∧ u.1 = uI fd 6 (fd 6 + 1) ∧ u.2.1 = s0 ∧ u.2.2.1 = s1 ∧ u.2.2.2.1 = s2 ∧ u.2.2.2.2 = s3) ∨ ((((0 ≤ k ∧ k ≤ 3) ∧ (bb = 0 ∨ bb = 8 ∨ bb = 16 ∨ bb = 64)) ∧ 40 < n) ∧ r = jI (-1000000001) ∧ u.1 = uI fd 0 (fd 0 + 1) ∧ u.2.1 = s0 ∧ u.2.2.1 = s1 ∧ u.2.2.2.1 = s2 ∧ u.2.2.2.2 = s3) ∨ (((k = 0 ∧ (bb = 0 ∨ bb = 8 ∨ bb = 16 ∨ bb = 64)) ∧ 0 ≤ n ∧ n ≤ 40) ∧ r = jI (if bb = 0 then 0 else n) ∧ u.1 = fd ∧ u.2.1 = (bb, if bb = 0 then 0 else n, fun _ => jL 0) ∧ u.2.2.1 = s1 ∧ u.2.2.2.1 = s2 ∧ u.2.2.2.2 = s3) ∨ (((k = 1 ∧ (bb = 0 ∨ bb = 8 ∨ bb = 16 ∨ bb = 64)) ∧ 0 ≤ n ∧ n ≤ 40) ∧ r = jI (if bb = 0 then 0 else n) ∧ u.1 = fd ∧ u.2.1 = s0 ∧ u.2.2.1 = (bb, if bb = 0 then 0 else n, fun _ => jL 0) ∧ u.2.2.2.1 = s2 ∧ u.2.2.2.2 = s3) ∨ (((k = 2 ∧ (bb = 0 ∨ bb = 8 ∨ bb = 16 ∨ bb = 64)) ∧ 0 ≤ n ∧ n ≤ 40) ∧ r = jI (if bb = 0 then 0 else n) ∧ u.1 = fd ∧ u.2.1 = s0 ∧ u.2.2.1 = s1 ∧ u.2.2.2.1 = (bb, if bb = 0 then 0 else n, fun _ => jL 0) ∧ u.2.2.2.2 = s3) ∨ (((k = 3 ∧ (bb = 0 ∨ bb = 8 ∨ bb = 16 ∨ bb = 64)) ∧ 0 ≤ n ∧ n ≤ 40) ∧ r = jI (if bb = 0 then 0 else n) ∧ u.1 = fd ∧ u.2.1 = s0 ∧ u.2.2.1 = s1 ∧ u.2.2.2.1 = s2 ∧ u.2.2.2.2 = (bb, if bb = 0 then 0 else n, fun _ => jL 0))) := by
  refine Ci.mk (cc := cX8_sheet) (maxL := 4) (rt := .int) (by decide) rfl (Nat.le_of_ble_eq_true rfl) rfl ?_
  intro p_ e_ s_ m_ b_ me_ c_ A_ G hnm
  obtain ⟨hb0, hz0⟩ := id hx0
  obtain ⟨hb1, hz1⟩ := id hx1
  obtain ⟨hb2, hz2⟩ := id hx2
  obtain ⟨hb3, hz3⟩ := id hx3
  have q_0 : Cond.constant RX8 83 (-1000000001) ∈ wsX8_sheet := List.mem_of_getElem? (i := 1) rfl
  have k_X8 : ∀ w ∈ u_ws RX8 TX8 12, w ∈ wsX8_sheet := fun _ h => List.mem_cons_of_mem _ (List.mem_append_left _ (List.mem_append_right _ h))
  have q_2 : Cond.fieldLink RX8 49 "SupperLight" "sheets" "[LSupperLight$Sheet;" ∈ wsX8_sheet := List.mem_of_getElem? (i := 3) rfl
  have k_X3 : ∀ w ∈ u_ws RX3 TX3 3, w ∈ wsX8_sheet := fun _ h => List.mem_cons_of_mem _ (List.mem_append_right _ h)
  have q_4 : Cond.fieldLink RX8 271 "SupperLight$Sheet" "size" "I" ∈ wsX8_sheet := List.mem_of_getElem? (i := 4) rfl
  have q_5 : Cond.constant RX8 267 (-1000000007) ∈ wsX8_sheet := List.mem_of_getElem? (i := 2) rfl
  refine v_iload_n (j := 1) (x := jI k) G dX8_sheet_0 rfl rfl ?_
  refine v_ciN G (rn_S (As := [.int (jI k)]) (rest := []) G (c_X8_isSheet (k := k) (hr := (by omega))) gX8_sheet_X8_isSheet rfl hdX8_isSheet ⟨rfl, rfl, Nat.le_of_ble_eq_true rfl, Nat.le_of_ble_eq_true rfl⟩ rfl rfl (Nat.le_of_ble_eq_true rfl) ⟨Nat.zero_le _, Nat.zero_le _⟩ dX8_sheet_1) (fun r_1 u_3 e_2 => ?_)
  have e_2 : r_1 = jI (b2 (0 ≤ k ∧ k ≤ 3)) := e_2
  subst e_2
  refine v_ifb_eq (P := 0 ≤ k ∧ k ≤ 3) (tgt := 29) G dX8_sheet_4 (by decide) (fun c_4 => ?_) (fun c_4 => ?_)
  · skip
    refine v_aload_n (j := 0) (x := a 0) G dX8_sheet_29 rfl rfl ?_
    refine v_ldc (z := (-1000000001)) G q_0 (by decide) dX8_sheet_30 ?_
    refine v_ciG (w2 := (fun _ => (gS  a ks ++ gF cI a (uI fd 0 (fd 0 + 1)) ++ gH cS a  ++ gX cL (fun i => a (44 + i)) s0 ++ gX cL (fun i => a (46 + i)) s1 ++ gX cL (fun i => a (48 + i)) s2 ++ gX cL (fun i => a (50 + i)) s3))) G [gS  a ks, gF cI a fd, gH cS a , gX cL (fun i => a (44 + i)) s0, gX cL (fun i => a (46 + i)) s1, gX cL (fun i => a (48 + i)) s2, gX cL (fun i => a (50 + i)) s3] [gS  a ks, gF cI a fd] [gH cS a , gX cL (fun i => a (44 + i)) s0, gX cL (fun i => a (46 + i)) s1, gX cL (fun i => a (48 + i)) s2, gX cL (fun i => a (50 + i)) s3] (fun _ => [gS  a ks, gF cI a (uI fd 0 (fd 0 + 1)), gH cS a , gX cL (fun i => a (44 + i)) s0, gX cL (fun i => a (46 + i)) s1, gX cL (fun i => a (48 + i)) s2, gX cL (fun i => a (50 + i)) s3]) (fun _ => [gS  a ks, gF cI a (uI fd 0 (fd 0 + 1))]) [0, 0] (rn_V (As := [.int (jI (-1000000001))]) (rest := []) (q0 := 0) G (c_X8_found_0 (ks := ks) (fd := fd) (a := a) ) gX8_sheet_X8_found rfl hdX8_found ⟨rfl, rfl, Nat.le_of_ble_eq_true rfl, Nat.le_of_ble_eq_true rfl⟩ rfl rfl (Nat.le_of_ble_eq_true rfl) ⟨Nat.zero_le _, Nat.zero_le _⟩ rfl rfl dX8_sheet_32) rfl rfl rfl (fun _ => rfl) (fun _ => rfl) (fun _ => rfl) (fun r_5 u_7 e_6 => ?_)
    have e_6 : r_5 = jI (-1000000001) := e_6
    subst e_6
    refine v_world (ws' := (gS  a ks ++ gF cI a (uI fd 0 (fd 0 + 1)) ++ gH cS a  ++ gX cL (fun i => a (44 + i)) s0 ++ gX cL (fun i => a (46 + i)) s1 ++ gX cL (fun i => a (48 + i)) s2 ++ gX cL (fun i => a (50 + i)) s3)) rfl ?_
    exact v_iret G (uI fd 0 (fd 0 + 1), s0, s1, s2, s3) (by first | exact Or.inl ⟨(by omega), (by first | rfl | exact congrArg jI (by omega)), rfl, rfl, rfl, rfl, rfl⟩ | exact Or.inr (Or.inl ⟨(by omega), (by first | rfl | exact congrArg jI (by omega)), rfl, rfl, rfl, rfl, rfl⟩) | exact Or.inr (Or.inr (Or.inl ⟨(by omega), (by first | rfl | exact congrArg jI (by omega)), rfl, rfl, rfl, rfl, rfl⟩))) rfl dX8_sheet_35
  · skip
    refine v_iload_n (j := 2) (x := jI bb) G dX8_sheet_7 rfl rfl ?_
    refine v_if_eq (a := bb) (tgt := 36) G dX8_sheet_8 (by decide) (by omega) (fun c_8 => ?_) (fun c_8 => ?_)
    · skip
      refine v_iload_n (j := 3) (x := jI n) G dX8_sheet_36 rfl rfl ?_
      refine v_if_ge (a := n) (tgt := 48) G dX8_sheet_37 (by decide) (by omega) (fun c_9 => ?_) (fun c_9 => ?_)
      · skip
        refine v_iload_n (j := 3) (x := jI n) G dX8_sheet_48 rfl rfl ?_
        refine v_bipush G dX8_sheet_49 (by decide) ?_
        refine v_icmp_le (a := n) (b := 40) (tgt := 61) G dX8_sheet_51 (by decide) (by omega) (fun c_10 => ?_) (fun c_10 => ?_)
        · skip
          rcases (show k = 0 ∨ k = 1 ∨ k = 2 ∨ k = 3 by omega) with rfl | rfl | rfl | rfl
          · skip
            refine v_aload_n (j := 0) (x := a 0) G dX8_sheet_61 rfl rfl ?_
            refine v_get (q0 := 0) (k := 7) (v := .ref (a 43)) G k_X8 rfl rfl (by decide) q_2 rfl rfl dX8_sheet_62 ?_
            refine v_iload_n (j := 1) (x := jI 0) G dX8_sheet_65 rfl rfl ?_
            refine v_aald (q0 := 2) (t0 := 3) (y := a 44) (z := 0) G rfl rfl (by omega) rfl dX8_sheet_66 ?_
            refine v_iload_n (j := 2) (x := jI bb) G dX8_sheet_67 rfl rfl ?_
            refine v_iload_n (j := 3) (x := jI n) G dX8_sheet_68 rfl rfl ?_
            refine v_cvG (w2 := (fun _ => (gS  a ks ++ gF cI a fd ++ gH cS a  ++ gX cL (fun i => a (44 + i)) (bb, if bb = 0 then 0 else n, fun _ => jL 0) ++ gX cL (fun i => a (46 + i)) s1 ++ gX cL (fun i => a (48 + i)) s2 ++ gX cL (fun i => a (50 + i)) s3))) G [gS  a ks, gF cI a fd, gH cS a , gX cL (fun i => a (44 + i)) s0, gX cL (fun i => a (46 + i)) s1, gX cL (fun i => a (48 + i)) s2, gX cL (fun i => a (50 + i)) s3] [gX cL (fun i => a (44 + i)) s0] [gS  a ks, gF cI a fd, gH cS a , gX cL (fun i => a (46 + i)) s1, gX cL (fun i => a (48 + i)) s2, gX cL (fun i => a (50 + i)) s3] (fun _ => [gS  a ks, gF cI a fd, gH cS a , gX cL (fun i => a (44 + i)) (bb, if bb = 0 then 0 else n, fun _ => jL 0), gX cL (fun i => a (46 + i)) s1, gX cL (fun i => a (48 + i)) s2, gX cL (fun i => a (50 + i)) s3]) (fun _ => [gX cL (fun i => a (44 + i)) (bb, if bb = 0 then 0 else n, fun _ => jL 0)]) [3] (rn_V (As := [.int (jI bb), .int (jI n)]) (rest := []) (q0 := 0) G (c_X3_layOut (bb := bb) (n := n) (sx := s0) (b := fun i => a (44 + i)) (hr := (by omega))) gX8_sheet_X3_layOut rfl hdX3_layOut ⟨rfl, rfl, Nat.le_of_ble_eq_true rfl, Nat.le_of_ble_eq_true rfl⟩ rfl rfl (Nat.le_of_ble_eq_true rfl) ⟨Nat.zero_le _, Nat.zero_le _⟩ rfl rfl dX8_sheet_69) rfl rfl rfl (fun _ => rfl) (fun _ => rfl) (fun _ => rfl) (fun u_13 e_12 => ?_)
            refine v_world (ws' := (gS  a ks ++ gF cI a fd ++ gH cS a  ++ gX cL (fun i => a (44 + i)) (bb, if bb = 0 then 0 else n, fun _ => jL 0) ++ gX cL (fun i => a (46 + i)) s1 ++ gX cL (fun i => a (48 + i)) s2 ++ gX cL (fun i => a (50 + i)) s3)) rfl ?_
            refine v_aload_n (j := 0) (x := a 0) G dX8_sheet_72 rfl rfl ?_
            refine v_get (q0 := 0) (k := 7) (v := .ref (a 43)) G k_X8 rfl rfl (by decide) q_2 rfl rfl dX8_sheet_73 ?_
            refine v_iload_n (j := 1) (x := jI 0) G dX8_sheet_76 rfl rfl ?_
            refine v_aald (q0 := 2) (t0 := 3) (y := a 44) (z := 0) G rfl rfl (by omega) rfl dX8_sheet_77 ?_
            refine v_get (q0 := 3) (k := 1) (v := .int (jI (if bb = 0 then 0 else n))) G k_X3 rfl rfl (by decide) q_4 rfl rfl dX8_sheet_78 ?_
            exact v_iret G (fd, (bb, if bb = 0 then 0 else n, fun _ => jL 0), s1, s2, s3) (by first | exact Or.inr (Or.inr (Or.inr (Or.inl ⟨(by omega), (by first | rfl | exact congrArg jI (by omega)), rfl, rfl, rfl, rfl, rfl⟩)))) rfl dX8_sheet_81
          · skip
            refine v_aload_n (j := 0) (x := a 0) G dX8_sheet_61 rfl rfl ?_
            refine v_get (q0 := 0) (k := 7) (v := .ref (a 43)) G k_X8 rfl rfl (by decide) q_2 rfl rfl dX8_sheet_62 ?_
            refine v_iload_n (j := 1) (x := jI 1) G dX8_sheet_65 rfl rfl ?_
            refine v_aald (q0 := 2) (t0 := 3) (y := a 46) (z := 1) G rfl rfl (by omega) rfl dX8_sheet_66 ?_
            refine v_iload_n (j := 2) (x := jI bb) G dX8_sheet_67 rfl rfl ?_
            refine v_iload_n (j := 3) (x := jI n) G dX8_sheet_68 rfl rfl ?_
            refine v_cvG (w2 := (fun _ => (gS  a ks ++ gF cI a fd ++ gH cS a  ++ gX cL (fun i => a (44 + i)) s0 ++ gX cL (fun i => a (46 + i)) (bb, if bb = 0 then 0 else n, fun _ => jL 0) ++ gX cL (fun i => a (48 + i)) s2 ++ gX cL (fun i => a (50 + i)) s3))) G [gS  a ks, gF cI a fd, gH cS a , gX cL (fun i => a (44 + i)) s0, gX cL (fun i => a (46 + i)) s1, gX cL (fun i => a (48 + i)) s2, gX cL (fun i => a (50 + i)) s3] [gX cL (fun i => a (46 + i)) s1] [gS  a ks, gF cI a fd, gH cS a , gX cL (fun i => a (44 + i)) s0, gX cL (fun i => a (48 + i)) s2, gX cL (fun i => a (50 + i)) s3] (fun _ => [gS  a ks, gF cI a fd, gH cS a , gX cL (fun i => a (44 + i)) s0, gX cL (fun i => a (46 + i)) (bb, if bb = 0 then 0 else n, fun _ => jL 0), gX cL (fun i => a (48 + i)) s2, gX cL (fun i => a (50 + i)) s3]) (fun _ => [gX cL (fun i => a (46 + i)) (bb, if bb = 0 then 0 else n, fun _ => jL 0)]) [4] (rn_V (As := [.int (jI bb), .int (jI n)]) (rest := []) (q0 := 0) G (c_X3_layOut (bb := bb) (n := n) (sx := s1) (b := fun i => a (46 + i)) (hr := (by omega))) gX8_sheet_X3_layOut rfl hdX3_layOut ⟨rfl, rfl, Nat.le_of_ble_eq_true rfl, Nat.le_of_ble_eq_true rfl⟩ rfl rfl (Nat.le_of_ble_eq_true rfl) ⟨Nat.zero_le _, Nat.zero_le _⟩ rfl rfl dX8_sheet_69) rfl rfl rfl (fun _ => rfl) (fun _ => rfl) (fun _ => rfl) (fun u_16 e_15 => ?_)
            refine v_world (ws' := (gS  a ks ++ gF cI a fd ++ gH cS a  ++ gX cL (fun i => a (44 + i)) s0 ++ gX cL (fun i => a (46 + i)) (bb, if bb = 0 then 0 else n, fun _ => jL 0) ++ gX cL (fun i => a (48 + i)) s2 ++ gX cL (fun i => a (50 + i)) s3)) rfl ?_
            refine v_aload_n (j := 0) (x := a 0) G dX8_sheet_72 rfl rfl ?_
            refine v_get (q0 := 0) (k := 7) (v := .ref (a 43)) G k_X8 rfl rfl (by decide) q_2 rfl rfl dX8_sheet_73 ?_
            refine v_iload_n (j := 1) (x := jI 1) G dX8_sheet_76 rfl rfl ?_
            refine v_aald (q0 := 2) (t0 := 3) (y := a 46) (z := 1) G rfl rfl (by omega) rfl dX8_sheet_77 ?_
            refine v_get (q0 := 5) (k := 1) (v := .int (jI (if bb = 0 then 0 else n))) G k_X3 rfl rfl (by decide) q_4 rfl rfl dX8_sheet_78 ?_
            exact v_iret G (fd, s0, (bb, if bb = 0 then 0 else n, fun _ => jL 0), s2, s3) (by first | exact Or.inr (Or.inr (Or.inr (Or.inr (Or.inl ⟨(by omega), (by first | rfl | exact congrArg jI (by omega)), rfl, rfl, rfl, rfl, rfl⟩))))) rfl dX8_sheet_81
          · skip
            refine v_aload_n (j := 0) (x := a 0) G dX8_sheet_61 rfl rfl ?_
            refine v_get (q0 := 0) (k := 7) (v := .ref (a 43)) G k_X8 rfl rfl (by decide) q_2 rfl rfl dX8_sheet_62 ?_
            refine v_iload_n (j := 1) (x := jI 2) G dX8_sheet_65 rfl rfl ?_
            refine v_aald (q0 := 2) (t0 := 3) (y := a 48) (z := 2) G rfl rfl (by omega) rfl dX8_sheet_66 ?_
            refine v_iload_n (j := 2) (x := jI bb) G dX8_sheet_67 rfl rfl ?_
            refine v_iload_n (j := 3) (x := jI n) G dX8_sheet_68 rfl rfl ?_
            refine v_cvG (w2 := (fun _ => (gS  a ks ++ gF cI a fd ++ gH cS a  ++ gX cL (fun i => a (44 + i)) s0 ++ gX cL (fun i => a (46 + i)) s1 ++ gX cL (fun i => a (48 + i)) (bb, if bb = 0 then 0 else n, fun _ => jL 0) ++ gX cL (fun i => a (50 + i)) s3))) G [gS  a ks, gF cI a fd, gH cS a , gX cL (fun i => a (44 + i)) s0, gX cL (fun i => a (46 + i)) s1, gX cL (fun i => a (48 + i)) s2, gX cL (fun i => a (50 + i)) s3] [gX cL (fun i => a (48 + i)) s2] [gS  a ks, gF cI a fd, gH cS a , gX cL (fun i => a (44 + i)) s0, gX cL (fun i => a (46 + i)) s1, gX cL (fun i => a (50 + i)) s3] (fun _ => [gS  a ks, gF cI a fd, gH cS a , gX cL (fun i => a (44 + i)) s0, gX cL (fun i => a (46 + i)) s1, gX cL (fun i => a (48 + i)) (bb, if bb = 0 then 0 else n, fun _ => jL 0), gX cL (fun i => a (50 + i)) s3]) (fun _ => [gX cL (fun i => a (48 + i)) (bb, if bb = 0 then 0 else n, fun _ => jL 0)]) [5] (rn_V (As := [.int (jI bb), .int (jI n)]) (rest := []) (q0 := 0) G (c_X3_layOut (bb := bb) (n := n) (sx := s2) (b := fun i => a (48 + i)) (hr := (by omega))) gX8_sheet_X3_layOut rfl hdX3_layOut ⟨rfl, rfl, Nat.le_of_ble_eq_true rfl, Nat.le_of_ble_eq_true rfl⟩ rfl rfl (Nat.le_of_ble_eq_true rfl) ⟨Nat.zero_le _, Nat.zero_le _⟩ rfl rfl dX8_sheet_69) rfl rfl rfl (fun _ => rfl) (fun _ => rfl) (fun _ => rfl) (fun u_19 e_18 => ?_)
            refine v_world (ws' := (gS  a ks ++ gF cI a fd ++ gH cS a  ++ gX cL (fun i => a (44 + i)) s0 ++ gX cL (fun i => a (46 + i)) s1 ++ gX cL (fun i => a (48 + i)) (bb, if bb = 0 then 0 else n, fun _ => jL 0) ++ gX cL (fun i => a (50 + i)) s3)) rfl ?_
            refine v_aload_n (j := 0) (x := a 0) G dX8_sheet_72 rfl rfl ?_
            refine v_get (q0 := 0) (k := 7) (v := .ref (a 43)) G k_X8 rfl rfl (by decide) q_2 rfl rfl dX8_sheet_73 ?_
            refine v_iload_n (j := 1) (x := jI 2) G dX8_sheet_76 rfl rfl ?_
            refine v_aald (q0 := 2) (t0 := 3) (y := a 48) (z := 2) G rfl rfl (by omega) rfl dX8_sheet_77 ?_
            refine v_get (q0 := 7) (k := 1) (v := .int (jI (if bb = 0 then 0 else n))) G k_X3 rfl rfl (by decide) q_4 rfl rfl dX8_sheet_78 ?_
            exact v_iret G (fd, s0, s1, (bb, if bb = 0 then 0 else n, fun _ => jL 0), s3) (by first | exact Or.inr (Or.inr (Or.inr (Or.inr (Or.inr (Or.inl ⟨(by omega), (by first | rfl | exact congrArg jI (by omega)), rfl, rfl, rfl, rfl, rfl⟩)))))) rfl dX8_sheet_81
          · skip
            refine v_aload_n (j := 0) (x := a 0) G dX8_sheet_61 rfl rfl ?_
            refine v_get (q0 := 0) (k := 7) (v := .ref (a 43)) G k_X8 rfl rfl (by decide) q_2 rfl rfl dX8_sheet_62 ?_
            refine v_iload_n (j := 1) (x := jI 3) G dX8_sheet_65 rfl rfl ?_
            refine v_aald (q0 := 2) (t0 := 3) (y := a 50) (z := 3) G rfl rfl (by omega) rfl dX8_sheet_66 ?_
            refine v_iload_n (j := 2) (x := jI bb) G dX8_sheet_67 rfl rfl ?_
            refine v_iload_n (j := 3) (x := jI n) G dX8_sheet_68 rfl rfl ?_
            refine v_cvG (w2 := (fun _ => (gS  a ks ++ gF cI a fd ++ gH cS a  ++ gX cL (fun i => a (44 + i)) s0 ++ gX cL (fun i => a (46 + i)) s1 ++ gX cL (fun i => a (48 + i)) s2 ++ gX cL (fun i => a (50 + i)) (bb, if bb = 0 then 0 else n, fun _ => jL 0)))) G [gS  a ks, gF cI a fd, gH cS a , gX cL (fun i => a (44 + i)) s0, gX cL (fun i => a (46 + i)) s1, gX cL (fun i => a (48 + i)) s2, gX cL (fun i => a (50 + i)) s3] [gX cL (fun i => a (50 + i)) s3] [gS  a ks, gF cI a fd, gH cS a , gX cL (fun i => a (44 + i)) s0, gX cL (fun i => a (46 + i)) s1, gX cL (fun i => a (48 + i)) s2] (fun _ => [gS  a ks, gF cI a fd, gH cS a , gX cL (fun i => a (44 + i)) s0, gX cL (fun i => a (46 + i)) s1, gX cL (fun i => a (48 + i)) s2, gX cL (fun i => a (50 + i)) (bb, if bb = 0 then 0 else n, fun _ => jL 0)]) (fun _ => [gX cL (fun i => a (50 + i)) (bb, if bb = 0 then 0 else n, fun _ => jL 0)]) [6] (rn_V (As := [.int (jI bb), .int (jI n)]) (rest := []) (q0 := 0) G (c_X3_layOut (bb := bb) (n := n) (sx := s3) (b := fun i => a (50 + i)) (hr := (by omega))) gX8_sheet_X3_layOut rfl hdX3_layOut ⟨rfl, rfl, Nat.le_of_ble_eq_true rfl, Nat.le_of_ble_eq_true rfl⟩ rfl rfl (Nat.le_of_ble_eq_true rfl) ⟨Nat.zero_le _, Nat.zero_le _⟩ rfl rfl dX8_sheet_69) rfl rfl rfl (fun _ => rfl) (fun _ => rfl) (fun _ => rfl) (fun u_22 e_21 => ?_)
            refine v_world (ws' := (gS  a ks ++ gF cI a fd ++ gH cS a  ++ gX cL (fun i => a (44 + i)) s0 ++ gX cL (fun i => a (46 + i)) s1 ++ gX cL (fun i => a (48 + i)) s2 ++ gX cL (fun i => a (50 + i)) (bb, if bb = 0 then 0 else n, fun _ => jL 0))) rfl ?_
            refine v_aload_n (j := 0) (x := a 0) G dX8_sheet_72 rfl rfl ?_
            refine v_get (q0 := 0) (k := 7) (v := .ref (a 43)) G k_X8 rfl rfl (by decide) q_2 rfl rfl dX8_sheet_73 ?_
            refine v_iload_n (j := 1) (x := jI 3) G dX8_sheet_76 rfl rfl ?_
            refine v_aald (q0 := 2) (t0 := 3) (y := a 50) (z := 3) G rfl rfl (by omega) rfl dX8_sheet_77 ?_
            refine v_get (q0 := 9) (k := 1) (v := .int (jI (if bb = 0 then 0 else n))) G k_X3 rfl rfl (by decide) q_4 rfl rfl dX8_sheet_78 ?_
            exact v_iret G (fd, s0, s1, s2, (bb, if bb = 0 then 0 else n, fun _ => jL 0)) (by first | exact Or.inr (Or.inr (Or.inr (Or.inr (Or.inr (Or.inr (⟨(by omega), (by first | rfl | exact congrArg jI (by omega)), rfl, rfl, rfl, rfl, rfl⟩))))))) rfl dX8_sheet_81
        · skip
          refine v_aload_n (j := 0) (x := a 0) G dX8_sheet_54 rfl rfl ?_
          refine v_ldc (z := (-1000000001)) G q_0 (by decide) dX8_sheet_55 ?_
          refine v_ciG (w2 := (fun _ => (gS  a ks ++ gF cI a (uI fd 0 (fd 0 + 1)) ++ gH cS a  ++ gX cL (fun i => a (44 + i)) s0 ++ gX cL (fun i => a (46 + i)) s1 ++ gX cL (fun i => a (48 + i)) s2 ++ gX cL (fun i => a (50 + i)) s3))) G [gS  a ks, gF cI a fd, gH cS a , gX cL (fun i => a (44 + i)) s0, gX cL (fun i => a (46 + i)) s1, gX cL (fun i => a (48 + i)) s2, gX cL (fun i => a (50 + i)) s3] [gS  a ks, gF cI a fd] [gH cS a , gX cL (fun i => a (44 + i)) s0, gX cL (fun i => a (46 + i)) s1, gX cL (fun i => a (48 + i)) s2, gX cL (fun i => a (50 + i)) s3] (fun _ => [gS  a ks, gF cI a (uI fd 0 (fd 0 + 1)), gH cS a , gX cL (fun i => a (44 + i)) s0, gX cL (fun i => a (46 + i)) s1, gX cL (fun i => a (48 + i)) s2, gX cL (fun i => a (50 + i)) s3]) (fun _ => [gS  a ks, gF cI a (uI fd 0 (fd 0 + 1))]) [0, 0] (rn_V (As := [.int (jI (-1000000001))]) (rest := []) (q0 := 0) G (c_X8_found_0 (ks := ks) (fd := fd) (a := a) ) gX8_sheet_X8_found rfl hdX8_found ⟨rfl, rfl, Nat.le_of_ble_eq_true rfl, Nat.le_of_ble_eq_true rfl⟩ rfl rfl (Nat.le_of_ble_eq_true rfl) ⟨Nat.zero_le _, Nat.zero_le _⟩ rfl rfl dX8_sheet_57) rfl rfl rfl (fun _ => rfl) (fun _ => rfl) (fun _ => rfl) (fun r_23 u_25 e_24 => ?_)
          have e_24 : r_23 = jI (-1000000001) := e_24
          subst e_24
          refine v_world (ws' := (gS  a ks ++ gF cI a (uI fd 0 (fd 0 + 1)) ++ gH cS a  ++ gX cL (fun i => a (44 + i)) s0 ++ gX cL (fun i => a (46 + i)) s1 ++ gX cL (fun i => a (48 + i)) s2 ++ gX cL (fun i => a (50 + i)) s3)) rfl ?_
          exact v_iret G (uI fd 0 (fd 0 + 1), s0, s1, s2, s3) (by first | exact Or.inl ⟨(by omega), (by first | rfl | exact congrArg jI (by omega)), rfl, rfl, rfl, rfl, rfl⟩ | exact Or.inr (Or.inl ⟨(by omega), (by first | rfl | exact congrArg jI (by omega)), rfl, rfl, rfl, rfl, rfl⟩) | exact Or.inr (Or.inr (Or.inl ⟨(by omega), (by first | rfl | exact congrArg jI (by omega)), rfl, rfl, rfl, rfl, rfl⟩))) rfl dX8_sheet_60
      · skip
        refine v_aload_n (j := 0) (x := a 0) G dX8_sheet_40 rfl rfl ?_
        refine v_ldcw (z := (-1000000007)) G q_5 (by decide) dX8_sheet_41 ?_
        refine v_ciG (w2 := (fun _ => (gS  a ks ++ gF cI a (uI fd 6 (fd 6 + 1)) ++ gH cS a  ++ gX cL (fun i => a (44 + i)) s0 ++ gX cL (fun i => a (46 + i)) s1 ++ gX cL (fun i => a (48 + i)) s2 ++ gX cL (fun i => a (50 + i)) s3))) G [gS  a ks, gF cI a fd, gH cS a , gX cL (fun i => a (44 + i)) s0, gX cL (fun i => a (46 + i)) s1, gX cL (fun i => a (48 + i)) s2, gX cL (fun i => a (50 + i)) s3] [gS  a ks, gF cI a fd] [gH cS a , gX cL (fun i => a (44 + i)) s0, gX cL (fun i => a (46 + i)) s1, gX cL (fun i => a (48 + i)) s2, gX cL (fun i => a (50 + i)) s3] (fun _ => [gS  a ks, gF cI a (uI fd 6 (fd 6 + 1)), gH cS a , gX cL (fun i => a (44 + i)) s0, gX cL (fun i => a (46 + i)) s1, gX cL (fun i => a (48 + i)) s2, gX cL (fun i => a (50 + i)) s3]) (fun _ => [gS  a ks, gF cI a (uI fd 6 (fd 6 + 1))]) [0, 0] (rn_V (As := [.int (jI (-1000000007))]) (rest := []) (q0 := 0) G (c_X8_found_6 (ks := ks) (fd := fd) (a := a) ) gX8_sheet_X8_found rfl hdX8_found ⟨rfl, rfl, Nat.le_of_ble_eq_true rfl, Nat.le_of_ble_eq_true rfl⟩ rfl rfl (Nat.le_of_ble_eq_true rfl) ⟨Nat.zero_le _, Nat.zero_le _⟩ rfl rfl dX8_sheet_44) rfl rfl rfl (fun _ => rfl) (fun _ => rfl) (fun _ => rfl) (fun r_26 u_28 e_27 => ?_)
        have e_27 : r_26 = jI (-1000000007) := e_27
        subst e_27
        refine v_world (ws' := (gS  a ks ++ gF cI a (uI fd 6 (fd 6 + 1)) ++ gH cS a  ++ gX cL (fun i => a (44 + i)) s0 ++ gX cL (fun i => a (46 + i)) s1 ++ gX cL (fun i => a (48 + i)) s2 ++ gX cL (fun i => a (50 + i)) s3)) rfl ?_
        exact v_iret G (uI fd 6 (fd 6 + 1), s0, s1, s2, s3) (by first | exact Or.inl ⟨(by omega), (by first | rfl | exact congrArg jI (by omega)), rfl, rfl, rfl, rfl, rfl⟩ | exact Or.inr (Or.inl ⟨(by omega), (by first | rfl | exact congrArg jI (by omega)), rfl, rfl, rfl, rfl, rfl⟩) | exact Or.inr (Or.inr (Or.inl ⟨(by omega), (by first | rfl | exact congrArg jI (by omega)), rfl, rfl, rfl, rfl, rfl⟩))) rfl dX8_sheet_47
    · skip
      refine v_iload_n (j := 2) (x := jI bb) G dX8_sheet_11 rfl rfl ?_
      refine v_bipush G dX8_sheet_12 (by decide) ?_
      refine v_icmp_eq (a := bb) (b := 8) (tgt := 36) G dX8_sheet_14 (by decide) (by omega) (fun c_29 => ?_) (fun c_29 => ?_)
      · skip
        refine v_iload_n (j := 3) (x := jI n) G dX8_sheet_36 rfl rfl ?_
        refine v_if_ge (a := n) (tgt := 48) G dX8_sheet_37 (by decide) (by omega) (fun c_30 => ?_) (fun c_30 => ?_)
        · skip
          refine v_iload_n (j := 3) (x := jI n) G dX8_sheet_48 rfl rfl ?_
          refine v_bipush G dX8_sheet_49 (by decide) ?_
          refine v_icmp_le (a := n) (b := 40) (tgt := 61) G dX8_sheet_51 (by decide) (by omega) (fun c_31 => ?_) (fun c_31 => ?_)
          · skip
            rcases (show k = 0 ∨ k = 1 ∨ k = 2 ∨ k = 3 by omega) with rfl | rfl | rfl | rfl
            · skip
              refine v_aload_n (j := 0) (x := a 0) G dX8_sheet_61 rfl rfl ?_
              refine v_get (q0 := 0) (k := 7) (v := .ref (a 43)) G k_X8 rfl rfl (by decide) q_2 rfl rfl dX8_sheet_62 ?_
              refine v_iload_n (j := 1) (x := jI 0) G dX8_sheet_65 rfl rfl ?_
              refine v_aald (q0 := 2) (t0 := 3) (y := a 44) (z := 0) G rfl rfl (by omega) rfl dX8_sheet_66 ?_
              refine v_iload_n (j := 2) (x := jI bb) G dX8_sheet_67 rfl rfl ?_
              refine v_iload_n (j := 3) (x := jI n) G dX8_sheet_68 rfl rfl ?_
              refine v_cvG (w2 := (fun _ => (gS  a ks ++ gF cI a fd ++ gH cS a  ++ gX cL (fun i => a (44 + i)) (bb, if bb = 0 then 0 else n, fun _ => jL 0) ++ gX cL (fun i => a (46 + i)) s1 ++ gX cL (fun i => a (48 + i)) s2 ++ gX cL (fun i => a (50 + i)) s3))) G [gS  a ks, gF cI a fd, gH cS a , gX cL (fun i => a (44 + i)) s0, gX cL (fun i => a (46 + i)) s1, gX cL (fun i => a (48 + i)) s2, gX cL (fun i => a (50 + i)) s3] [gX cL (fun i => a (44 + i)) s0] [gS  a ks, gF cI a fd, gH cS a , gX cL (fun i => a (46 + i)) s1, gX cL (fun i => a (48 + i)) s2, gX cL (fun i => a (50 + i)) s3] (fun _ => [gS  a ks, gF cI a fd, gH cS a , gX cL (fun i => a (44 + i)) (bb, if bb = 0 then 0 else n, fun _ => jL 0), gX cL (fun i => a (46 + i)) s1, gX cL (fun i => a (48 + i)) s2, gX cL (fun i => a (50 + i)) s3]) (fun _ => [gX cL (fun i => a (44 + i)) (bb, if bb = 0 then 0 else n, fun _ => jL 0)]) [3] (rn_V (As := [.int (jI bb), .int (jI n)]) (rest := []) (q0 := 0) G (c_X3_layOut (bb := bb) (n := n) (sx := s0) (b := fun i => a (44 + i)) (hr := (by omega))) gX8_sheet_X3_layOut rfl hdX3_layOut ⟨rfl, rfl, Nat.le_of_ble_eq_true rfl, Nat.le_of_ble_eq_true rfl⟩ rfl rfl (Nat.le_of_ble_eq_true rfl) ⟨Nat.zero_le _, Nat.zero_le _⟩ rfl rfl dX8_sheet_69) rfl rfl rfl (fun _ => rfl) (fun _ => rfl) (fun _ => rfl) (fun u_34 e_33 => ?_)
              refine v_world (ws' := (gS  a ks ++ gF cI a fd ++ gH cS a  ++ gX cL (fun i => a (44 + i)) (bb, if bb = 0 then 0 else n, fun _ => jL 0) ++ gX cL (fun i => a (46 + i)) s1 ++ gX cL (fun i => a (48 + i)) s2 ++ gX cL (fun i => a (50 + i)) s3)) rfl ?_
              refine v_aload_n (j := 0) (x := a 0) G dX8_sheet_72 rfl rfl ?_
              refine v_get (q0 := 0) (k := 7) (v := .ref (a 43)) G k_X8 rfl rfl (by decide) q_2 rfl rfl dX8_sheet_73 ?_
              refine v_iload_n (j := 1) (x := jI 0) G dX8_sheet_76 rfl rfl ?_
              refine v_aald (q0 := 2) (t0 := 3) (y := a 44) (z := 0) G rfl rfl (by omega) rfl dX8_sheet_77 ?_
              refine v_get (q0 := 3) (k := 1) (v := .int (jI (if bb = 0 then 0 else n))) G k_X3 rfl rfl (by decide) q_4 rfl rfl dX8_sheet_78 ?_
              exact v_iret G (fd, (bb, if bb = 0 then 0 else n, fun _ => jL 0), s1, s2, s3) (by first | exact Or.inr (Or.inr (Or.inr (Or.inl ⟨(by omega), (by first | rfl | exact congrArg jI (by omega)), rfl, rfl, rfl, rfl, rfl⟩)))) rfl dX8_sheet_81
            · skip
              refine v_aload_n (j := 0) (x := a 0) G dX8_sheet_61 rfl rfl ?_
              refine v_get (q0 := 0) (k := 7) (v := .ref (a 43)) G k_X8 rfl rfl (by decide) q_2 rfl rfl dX8_sheet_62 ?_
              refine v_iload_n (j := 1) (x := jI 1) G dX8_sheet_65 rfl rfl ?_
              refine v_aald (q0 := 2) (t0 := 3) (y := a 46) (z := 1) G rfl rfl (by omega) rfl dX8_sheet_66 ?_
              refine v_iload_n (j := 2) (x := jI bb) G dX8_sheet_67 rfl rfl ?_
              refine v_iload_n (j := 3) (x := jI n) G dX8_sheet_68 rfl rfl ?_
              refine v_cvG (w2 := (fun _ => (gS  a ks ++ gF cI a fd ++ gH cS a  ++ gX cL (fun i => a (44 + i)) s0 ++ gX cL (fun i => a (46 + i)) (bb, if bb = 0 then 0 else n, fun _ => jL 0) ++ gX cL (fun i => a (48 + i)) s2 ++ gX cL (fun i => a (50 + i)) s3))) G [gS  a ks, gF cI a fd, gH cS a , gX cL (fun i => a (44 + i)) s0, gX cL (fun i => a (46 + i)) s1, gX cL (fun i => a (48 + i)) s2, gX cL (fun i => a (50 + i)) s3] [gX cL (fun i => a (46 + i)) s1] [gS  a ks, gF cI a fd, gH cS a , gX cL (fun i => a (44 + i)) s0, gX cL (fun i => a (48 + i)) s2, gX cL (fun i => a (50 + i)) s3] (fun _ => [gS  a ks, gF cI a fd, gH cS a , gX cL (fun i => a (44 + i)) s0, gX cL (fun i => a (46 + i)) (bb, if bb = 0 then 0 else n, fun _ => jL 0), gX cL (fun i => a (48 + i)) s2, gX cL (fun i => a (50 + i)) s3]) (fun _ => [gX cL (fun i => a (46 + i)) (bb, if bb = 0 then 0 else n, fun _ => jL 0)]) [4] (rn_V (As := [.int (jI bb), .int (jI n)]) (rest := []) (q0 := 0) G (c_X3_layOut (bb := bb) (n := n) (sx := s1) (b := fun i => a (46 + i)) (hr := (by omega))) gX8_sheet_X3_layOut rfl hdX3_layOut ⟨rfl, rfl, Nat.le_of_ble_eq_true rfl, Nat.le_of_ble_eq_true rfl⟩ rfl rfl (Nat.le_of_ble_eq_true rfl) ⟨Nat.zero_le _, Nat.zero_le _⟩ rfl rfl dX8_sheet_69) rfl rfl rfl (fun _ => rfl) (fun _ => rfl) (fun _ => rfl) (fun u_37 e_36 => ?_)
              refine v_world (ws' := (gS  a ks ++ gF cI a fd ++ gH cS a  ++ gX cL (fun i => a (44 + i)) s0 ++ gX cL (fun i => a (46 + i)) (bb, if bb = 0 then 0 else n, fun _ => jL 0) ++ gX cL (fun i => a (48 + i)) s2 ++ gX cL (fun i => a (50 + i)) s3)) rfl ?_
              refine v_aload_n (j := 0) (x := a 0) G dX8_sheet_72 rfl rfl ?_
              refine v_get (q0 := 0) (k := 7) (v := .ref (a 43)) G k_X8 rfl rfl (by decide) q_2 rfl rfl dX8_sheet_73 ?_
              refine v_iload_n (j := 1) (x := jI 1) G dX8_sheet_76 rfl rfl ?_
              refine v_aald (q0 := 2) (t0 := 3) (y := a 46) (z := 1) G rfl rfl (by omega) rfl dX8_sheet_77 ?_
              refine v_get (q0 := 5) (k := 1) (v := .int (jI (if bb = 0 then 0 else n))) G k_X3 rfl rfl (by decide) q_4 rfl rfl dX8_sheet_78 ?_
              exact v_iret G (fd, s0, (bb, if bb = 0 then 0 else n, fun _ => jL 0), s2, s3) (by first | exact Or.inr (Or.inr (Or.inr (Or.inr (Or.inl ⟨(by omega), (by first | rfl | exact congrArg jI (by omega)), rfl, rfl, rfl, rfl, rfl⟩))))) rfl dX8_sheet_81
            · skip
              refine v_aload_n (j := 0) (x := a 0) G dX8_sheet_61 rfl rfl ?_
              refine v_get (q0 := 0) (k := 7) (v := .ref (a 43)) G k_X8 rfl rfl (by decide) q_2 rfl rfl dX8_sheet_62 ?_
              refine v_iload_n (j := 1) (x := jI 2) G dX8_sheet_65 rfl rfl ?_
              refine v_aald (q0 := 2) (t0 := 3) (y := a 48) (z := 2) G rfl rfl (by omega) rfl dX8_sheet_66 ?_
              refine v_iload_n (j := 2) (x := jI bb) G dX8_sheet_67 rfl rfl ?_
              refine v_iload_n (j := 3) (x := jI n) G dX8_sheet_68 rfl rfl ?_
              refine v_cvG (w2 := (fun _ => (gS  a ks ++ gF cI a fd ++ gH cS a  ++ gX cL (fun i => a (44 + i)) s0 ++ gX cL (fun i => a (46 + i)) s1 ++ gX cL (fun i => a (48 + i)) (bb, if bb = 0 then 0 else n, fun _ => jL 0) ++ gX cL (fun i => a (50 + i)) s3))) G [gS  a ks, gF cI a fd, gH cS a , gX cL (fun i => a (44 + i)) s0, gX cL (fun i => a (46 + i)) s1, gX cL (fun i => a (48 + i)) s2, gX cL (fun i => a (50 + i)) s3] [gX cL (fun i => a (48 + i)) s2] [gS  a ks, gF cI a fd, gH cS a , gX cL (fun i => a (44 + i)) s0, gX cL (fun i => a (46 + i)) s1, gX cL (fun i => a (50 + i)) s3] (fun _ => [gS  a ks, gF cI a fd, gH cS a , gX cL (fun i => a (44 + i)) s0, gX cL (fun i => a (46 + i)) s1, gX cL (fun i => a (48 + i)) (bb, if bb = 0 then 0 else n, fun _ => jL 0), gX cL (fun i => a (50 + i)) s3]) (fun _ => [gX cL (fun i => a (48 + i)) (bb, if bb = 0 then 0 else n, fun _ => jL 0)]) [5] (rn_V (As := [.int (jI bb), .int (jI n)]) (rest := []) (q0 := 0) G (c_X3_layOut (bb := bb) (n := n) (sx := s2) (b := fun i => a (48 + i)) (hr := (by omega))) gX8_sheet_X3_layOut rfl hdX3_layOut ⟨rfl, rfl, Nat.le_of_ble_eq_true rfl, Nat.le_of_ble_eq_true rfl⟩ rfl rfl (Nat.le_of_ble_eq_true rfl) ⟨Nat.zero_le _, Nat.zero_le _⟩ rfl rfl dX8_sheet_69) rfl rfl rfl (fun _ => rfl) (fun _ => rfl) (fun _ => rfl) (fun u_40 e_39 => ?_)
              refine v_world (ws' := (gS  a ks ++ gF cI a fd ++ gH cS a  ++ gX cL (fun i => a (44 + i)) s0 ++ gX cL (fun i => a (46 + i)) s1 ++ gX cL (fun i => a (48 + i)) (bb, if bb = 0 then 0 else n, fun _ => jL 0) ++ gX cL (fun i => a (50 + i)) s3)) rfl ?_
              refine v_aload_n (j := 0) (x := a 0) G dX8_sheet_72 rfl rfl ?_
              refine v_get (q0 := 0) (k := 7) (v := .ref (a 43)) G k_X8 rfl rfl (by decide) q_2 rfl rfl dX8_sheet_73 ?_
              refine v_iload_n (j := 1) (x := jI 2) G dX8_sheet_76 rfl rfl ?_
              refine v_aald (q0 := 2) (t0 := 3) (y := a 48) (z := 2) G rfl rfl (by omega) rfl dX8_sheet_77 ?_
              refine v_get (q0 := 7) (k := 1) (v := .int (jI (if bb = 0 then 0 else n))) G k_X3 rfl rfl (by decide) q_4 rfl rfl dX8_sheet_78 ?_
              exact v_iret G (fd, s0, s1, (bb, if bb = 0 then 0 else n, fun _ => jL 0), s3) (by first | exact Or.inr (Or.inr (Or.inr (Or.inr (Or.inr (Or.inl ⟨(by omega), (by first | rfl | exact congrArg jI (by omega)), rfl, rfl, rfl, rfl, rfl⟩)))))) rfl dX8_sheet_81
            · skip
              refine v_aload_n (j := 0) (x := a 0) G dX8_sheet_61 rfl rfl ?_
              refine v_get (q0 := 0) (k := 7) (v := .ref (a 43)) G k_X8 rfl rfl (by decide) q_2 rfl rfl dX8_sheet_62 ?_
              refine v_iload_n (j := 1) (x := jI 3) G dX8_sheet_65 rfl rfl ?_
              refine v_aald (q0 := 2) (t0 := 3) (y := a 50) (z := 3) G rfl rfl (by omega) rfl dX8_sheet_66 ?_
              refine v_iload_n (j := 2) (x := jI bb) G dX8_sheet_67 rfl rfl ?_
              refine v_iload_n (j := 3) (x := jI n) G dX8_sheet_68 rfl rfl ?_
              refine v_cvG (w2 := (fun _ => (gS  a ks ++ gF cI a fd ++ gH cS a  ++ gX cL (fun i => a (44 + i)) s0 ++ gX cL (fun i => a (46 + i)) s1 ++ gX cL (fun i => a (48 + i)) s2 ++ gX cL (fun i => a (50 + i)) (bb, if bb = 0 then 0 else n, fun _ => jL 0)))) G [gS  a ks, gF cI a fd, gH cS a , gX cL (fun i => a (44 + i)) s0, gX cL (fun i => a (46 + i)) s1, gX cL (fun i => a (48 + i)) s2, gX cL (fun i => a (50 + i)) s3] [gX cL (fun i => a (50 + i)) s3] [gS  a ks, gF cI a fd, gH cS a , gX cL (fun i => a (44 + i)) s0, gX cL (fun i => a (46 + i)) s1, gX cL (fun i => a (48 + i)) s2] (fun _ => [gS  a ks, gF cI a fd, gH cS a , gX cL (fun i => a (44 + i)) s0, gX cL (fun i => a (46 + i)) s1, gX cL (fun i => a (48 + i)) s2, gX cL (fun i => a (50 + i)) (bb, if bb = 0 then 0 else n, fun _ => jL 0)]) (fun _ => [gX cL (fun i => a (50 + i)) (bb, if bb = 0 then 0 else n, fun _ => jL 0)]) [6] (rn_V (As := [.int (jI bb), .int (jI n)]) (rest := []) (q0 := 0) G (c_X3_layOut (bb := bb) (n := n) (sx := s3) (b := fun i => a (50 + i)) (hr := (by omega))) gX8_sheet_X3_layOut rfl hdX3_layOut ⟨rfl, rfl, Nat.le_of_ble_eq_true rfl, Nat.le_of_ble_eq_true rfl⟩ rfl rfl (Nat.le_of_ble_eq_true rfl) ⟨Nat.zero_le _, Nat.zero_le _⟩ rfl rfl dX8_sheet_69) rfl rfl rfl (fun _ => rfl) (fun _ => rfl) (fun _ => rfl) (fun u_43 e_42 => ?_)
              refine v_world (ws' := (gS  a ks ++ gF cI a fd ++ gH cS a  ++ gX cL (fun i => a (44 + i)) s0 ++ gX cL (fun i => a (46 + i)) s1 ++ gX cL (fun i => a (48 + i)) s2 ++ gX cL (fun i => a (50 + i)) (bb, if bb = 0 then 0 else n, fun _ => jL 0))) rfl ?_
              refine v_aload_n (j := 0) (x := a 0) G dX8_sheet_72 rfl rfl ?_
              refine v_get (q0 := 0) (k := 7) (v := .ref (a 43)) G k_X8 rfl rfl (by decide) q_2 rfl rfl dX8_sheet_73 ?_
              refine v_iload_n (j := 1) (x := jI 3) G dX8_sheet_76 rfl rfl ?_
              refine v_aald (q0 := 2) (t0 := 3) (y := a 50) (z := 3) G rfl rfl (by omega) rfl dX8_sheet_77 ?_
              refine v_get (q0 := 9) (k := 1) (v := .int (jI (if bb = 0 then 0 else n))) G k_X3 rfl rfl (by decide) q_4 rfl rfl dX8_sheet_78 ?_
              exact v_iret G (fd, s0, s1, s2, (bb, if bb = 0 then 0 else n, fun _ => jL 0)) (by first | exact Or.inr (Or.inr (Or.inr (Or.inr (Or.inr (Or.inr (⟨(by omega), (by first | rfl | exact congrArg jI (by omega)), rfl, rfl, rfl, rfl, rfl⟩))))))) rfl dX8_sheet_81
          · skip
            refine v_aload_n (j := 0) (x := a 0) G dX8_sheet_54 rfl rfl ?_
            refine v_ldc (z := (-1000000001)) G q_0 (by decide) dX8_sheet_55 ?_
            refine v_ciG (w2 := (fun _ => (gS  a ks ++ gF cI a (uI fd 0 (fd 0 + 1)) ++ gH cS a  ++ gX cL (fun i => a (44 + i)) s0 ++ gX cL (fun i => a (46 + i)) s1 ++ gX cL (fun i => a (48 + i)) s2 ++ gX cL (fun i => a (50 + i)) s3))) G [gS  a ks, gF cI a fd, gH cS a , gX cL (fun i => a (44 + i)) s0, gX cL (fun i => a (46 + i)) s1, gX cL (fun i => a (48 + i)) s2, gX cL (fun i => a (50 + i)) s3] [gS  a ks, gF cI a fd] [gH cS a , gX cL (fun i => a (44 + i)) s0, gX cL (fun i => a (46 + i)) s1, gX cL (fun i => a (48 + i)) s2, gX cL (fun i => a (50 + i)) s3] (fun _ => [gS  a ks, gF cI a (uI fd 0 (fd 0 + 1)), gH cS a , gX cL (fun i => a (44 + i)) s0, gX cL (fun i => a (46 + i)) s1, gX cL (fun i => a (48 + i)) s2, gX cL (fun i => a (50 + i)) s3]) (fun _ => [gS  a ks, gF cI a (uI fd 0 (fd 0 + 1))]) [0, 0] (rn_V (As := [.int (jI (-1000000001))]) (rest := []) (q0 := 0) G (c_X8_found_0 (ks := ks) (fd := fd) (a := a) ) gX8_sheet_X8_found rfl hdX8_found ⟨rfl, rfl, Nat.le_of_ble_eq_true rfl, Nat.le_of_ble_eq_true rfl⟩ rfl rfl (Nat.le_of_ble_eq_true rfl) ⟨Nat.zero_le _, Nat.zero_le _⟩ rfl rfl dX8_sheet_57) rfl rfl rfl (fun _ => rfl) (fun _ => rfl) (fun _ => rfl) (fun r_44 u_46 e_45 => ?_)
            have e_45 : r_44 = jI (-1000000001) := e_45
            subst e_45
            refine v_world (ws' := (gS  a ks ++ gF cI a (uI fd 0 (fd 0 + 1)) ++ gH cS a  ++ gX cL (fun i => a (44 + i)) s0 ++ gX cL (fun i => a (46 + i)) s1 ++ gX cL (fun i => a (48 + i)) s2 ++ gX cL (fun i => a (50 + i)) s3)) rfl ?_
            exact v_iret G (uI fd 0 (fd 0 + 1), s0, s1, s2, s3) (by first | exact Or.inl ⟨(by omega), (by first | rfl | exact congrArg jI (by omega)), rfl, rfl, rfl, rfl, rfl⟩ | exact Or.inr (Or.inl ⟨(by omega), (by first | rfl | exact congrArg jI (by omega)), rfl, rfl, rfl, rfl, rfl⟩) | exact Or.inr (Or.inr (Or.inl ⟨(by omega), (by first | rfl | exact congrArg jI (by omega)), rfl, rfl, rfl, rfl, rfl⟩))) rfl dX8_sheet_60
        · skip
          refine v_aload_n (j := 0) (x := a 0) G dX8_sheet_40 rfl rfl ?_
          refine v_ldcw (z := (-1000000007)) G q_5 (by decide) dX8_sheet_41 ?_
          refine v_ciG (w2 := (fun _ => (gS  a ks ++ gF cI a (uI fd 6 (fd 6 + 1)) ++ gH cS a  ++ gX cL (fun i => a (44 + i)) s0 ++ gX cL (fun i => a (46 + i)) s1 ++ gX cL (fun i => a (48 + i)) s2 ++ gX cL (fun i => a (50 + i)) s3))) G [gS  a ks, gF cI a fd, gH cS a , gX cL (fun i => a (44 + i)) s0, gX cL (fun i => a (46 + i)) s1, gX cL (fun i => a (48 + i)) s2, gX cL (fun i => a (50 + i)) s3] [gS  a ks, gF cI a fd] [gH cS a , gX cL (fun i => a (44 + i)) s0, gX cL (fun i => a (46 + i)) s1, gX cL (fun i => a (48 + i)) s2, gX cL (fun i => a (50 + i)) s3] (fun _ => [gS  a ks, gF cI a (uI fd 6 (fd 6 + 1)), gH cS a , gX cL (fun i => a (44 + i)) s0, gX cL (fun i => a (46 + i)) s1, gX cL (fun i => a (48 + i)) s2, gX cL (fun i => a (50 + i)) s3]) (fun _ => [gS  a ks, gF cI a (uI fd 6 (fd 6 + 1))]) [0, 0] (rn_V (As := [.int (jI (-1000000007))]) (rest := []) (q0 := 0) G (c_X8_found_6 (ks := ks) (fd := fd) (a := a) ) gX8_sheet_X8_found rfl hdX8_found ⟨rfl, rfl, Nat.le_of_ble_eq_true rfl, Nat.le_of_ble_eq_true rfl⟩ rfl rfl (Nat.le_of_ble_eq_true rfl) ⟨Nat.zero_le _, Nat.zero_le _⟩ rfl rfl dX8_sheet_44) rfl rfl rfl (fun _ => rfl) (fun _ => rfl) (fun _ => rfl) (fun r_47 u_49 e_48 => ?_)
          have e_48 : r_47 = jI (-1000000007) := e_48
          subst e_48
          refine v_world (ws' := (gS  a ks ++ gF cI a (uI fd 6 (fd 6 + 1)) ++ gH cS a  ++ gX cL (fun i => a (44 + i)) s0 ++ gX cL (fun i => a (46 + i)) s1 ++ gX cL (fun i => a (48 + i)) s2 ++ gX cL (fun i => a (50 + i)) s3)) rfl ?_
          exact v_iret G (uI fd 6 (fd 6 + 1), s0, s1, s2, s3) (by first | exact Or.inl ⟨(by omega), (by first | rfl | exact congrArg jI (by omega)), rfl, rfl, rfl, rfl, rfl⟩ | exact Or.inr (Or.inl ⟨(by omega), (by first | rfl | exact congrArg jI (by omega)), rfl, rfl, rfl, rfl, rfl⟩) | exact Or.inr (Or.inr (Or.inl ⟨(by omega), (by first | rfl | exact congrArg jI (by omega)), rfl, rfl, rfl, rfl, rfl⟩))) rfl dX8_sheet_47
      · skip
        refine v_iload_n (j := 2) (x := jI bb) G dX8_sheet_17 rfl rfl ?_
        refine v_bipush G dX8_sheet_18 (by decide) ?_
        refine v_icmp_eq (a := bb) (b := 16) (tgt := 36) G dX8_sheet_20 (by decide) (by omega) (fun c_50 => ?_) (fun c_50 => ?_)
        · skip
          refine v_iload_n (j := 3) (x := jI n) G dX8_sheet_36 rfl rfl ?_
          refine v_if_ge (a := n) (tgt := 48) G dX8_sheet_37 (by decide) (by omega) (fun c_51 => ?_) (fun c_51 => ?_)
          · skip
            refine v_iload_n (j := 3) (x := jI n) G dX8_sheet_48 rfl rfl ?_
            refine v_bipush G dX8_sheet_49 (by decide) ?_
            refine v_icmp_le (a := n) (b := 40) (tgt := 61) G dX8_sheet_51 (by decide) (by omega) (fun c_52 => ?_) (fun c_52 => ?_)
            · skip
              rcases (show k = 0 ∨ k = 1 ∨ k = 2 ∨ k = 3 by omega) with rfl | rfl | rfl | rfl
              · skip
                refine v_aload_n (j := 0) (x := a 0) G dX8_sheet_61 rfl rfl ?_
                refine v_get (q0 := 0) (k := 7) (v := .ref (a 43)) G k_X8 rfl rfl (by decide) q_2 rfl rfl dX8_sheet_62 ?_
                refine v_iload_n (j := 1) (x := jI 0) G dX8_sheet_65 rfl rfl ?_
                refine v_aald (q0 := 2) (t0 := 3) (y := a 44) (z := 0) G rfl rfl (by omega) rfl dX8_sheet_66 ?_
                refine v_iload_n (j := 2) (x := jI bb) G dX8_sheet_67 rfl rfl ?_
                refine v_iload_n (j := 3) (x := jI n) G dX8_sheet_68 rfl rfl ?_
                refine v_cvG (w2 := (fun _ => (gS  a ks ++ gF cI a fd ++ gH cS a  ++ gX cL (fun i => a (44 + i)) (bb, if bb = 0 then 0 else n, fun _ => jL 0) ++ gX cL (fun i => a (46 + i)) s1 ++ gX cL (fun i => a (48 + i)) s2 ++ gX cL (fun i => a (50 + i)) s3))) G [gS  a ks, gF cI a fd, gH cS a , gX cL (fun i => a (44 + i)) s0, gX cL (fun i => a (46 + i)) s1, gX cL (fun i => a (48 + i)) s2, gX cL (fun i => a (50 + i)) s3] [gX cL (fun i => a (44 + i)) s0] [gS  a ks, gF cI a fd, gH cS a , gX cL (fun i => a (46 + i)) s1, gX cL (fun i => a (48 + i)) s2, gX cL (fun i => a (50 + i)) s3] (fun _ => [gS  a ks, gF cI a fd, gH cS a , gX cL (fun i => a (44 + i)) (bb, if bb = 0 then 0 else n, fun _ => jL 0), gX cL (fun i => a (46 + i)) s1, gX cL (fun i => a (48 + i)) s2, gX cL (fun i => a (50 + i)) s3]) (fun _ => [gX cL (fun i => a (44 + i)) (bb, if bb = 0 then 0 else n, fun _ => jL 0)]) [3] (rn_V (As := [.int (jI bb), .int (jI n)]) (rest := []) (q0 := 0) G (c_X3_layOut (bb := bb) (n := n) (sx := s0) (b := fun i => a (44 + i)) (hr := (by omega))) gX8_sheet_X3_layOut rfl hdX3_layOut ⟨rfl, rfl, Nat.le_of_ble_eq_true rfl, Nat.le_of_ble_eq_true rfl⟩ rfl rfl (Nat.le_of_ble_eq_true rfl) ⟨Nat.zero_le _, Nat.zero_le _⟩ rfl rfl dX8_sheet_69) rfl rfl rfl (fun _ => rfl) (fun _ => rfl) (fun _ => rfl) (fun u_55 e_54 => ?_)
                refine v_world (ws' := (gS  a ks ++ gF cI a fd ++ gH cS a  ++ gX cL (fun i => a (44 + i)) (bb, if bb = 0 then 0 else n, fun _ => jL 0) ++ gX cL (fun i => a (46 + i)) s1 ++ gX cL (fun i => a (48 + i)) s2 ++ gX cL (fun i => a (50 + i)) s3)) rfl ?_
                refine v_aload_n (j := 0) (x := a 0) G dX8_sheet_72 rfl rfl ?_
                refine v_get (q0 := 0) (k := 7) (v := .ref (a 43)) G k_X8 rfl rfl (by decide) q_2 rfl rfl dX8_sheet_73 ?_
                refine v_iload_n (j := 1) (x := jI 0) G dX8_sheet_76 rfl rfl ?_
                refine v_aald (q0 := 2) (t0 := 3) (y := a 44) (z := 0) G rfl rfl (by omega) rfl dX8_sheet_77 ?_
                refine v_get (q0 := 3) (k := 1) (v := .int (jI (if bb = 0 then 0 else n))) G k_X3 rfl rfl (by decide) q_4 rfl rfl dX8_sheet_78 ?_
                exact v_iret G (fd, (bb, if bb = 0 then 0 else n, fun _ => jL 0), s1, s2, s3) (by first | exact Or.inr (Or.inr (Or.inr (Or.inl ⟨(by omega), (by first | rfl | exact congrArg jI (by omega)), rfl, rfl, rfl, rfl, rfl⟩)))) rfl dX8_sheet_81
              · skip
                refine v_aload_n (j := 0) (x := a 0) G dX8_sheet_61 rfl rfl ?_
                refine v_get (q0 := 0) (k := 7) (v := .ref (a 43)) G k_X8 rfl rfl (by decide) q_2 rfl rfl dX8_sheet_62 ?_
                refine v_iload_n (j := 1) (x := jI 1) G dX8_sheet_65 rfl rfl ?_
                refine v_aald (q0 := 2) (t0 := 3) (y := a 46) (z := 1) G rfl rfl (by omega) rfl dX8_sheet_66 ?_
                refine v_iload_n (j := 2) (x := jI bb) G dX8_sheet_67 rfl rfl ?_
                refine v_iload_n (j := 3) (x := jI n) G dX8_sheet_68 rfl rfl ?_
                refine v_cvG (w2 := (fun _ => (gS  a ks ++ gF cI a fd ++ gH cS a  ++ gX cL (fun i => a (44 + i)) s0 ++ gX cL (fun i => a (46 + i)) (bb, if bb = 0 then 0 else n, fun _ => jL 0) ++ gX cL (fun i => a (48 + i)) s2 ++ gX cL (fun i => a (50 + i)) s3))) G [gS  a ks, gF cI a fd, gH cS a , gX cL (fun i => a (44 + i)) s0, gX cL (fun i => a (46 + i)) s1, gX cL (fun i => a (48 + i)) s2, gX cL (fun i => a (50 + i)) s3] [gX cL (fun i => a (46 + i)) s1] [gS  a ks, gF cI a fd, gH cS a , gX cL (fun i => a (44 + i)) s0, gX cL (fun i => a (48 + i)) s2, gX cL (fun i => a (50 + i)) s3] (fun _ => [gS  a ks, gF cI a fd, gH cS a , gX cL (fun i => a (44 + i)) s0, gX cL (fun i => a (46 + i)) (bb, if bb = 0 then 0 else n, fun _ => jL 0), gX cL (fun i => a (48 + i)) s2, gX cL (fun i => a (50 + i)) s3]) (fun _ => [gX cL (fun i => a (46 + i)) (bb, if bb = 0 then 0 else n, fun _ => jL 0)]) [4] (rn_V (As := [.int (jI bb), .int (jI n)]) (rest := []) (q0 := 0) G (c_X3_layOut (bb := bb) (n := n) (sx := s1) (b := fun i => a (46 + i)) (hr := (by omega))) gX8_sheet_X3_layOut rfl hdX3_layOut ⟨rfl, rfl, Nat.le_of_ble_eq_true rfl, Nat.le_of_ble_eq_true rfl⟩ rfl rfl (Nat.le_of_ble_eq_true rfl) ⟨Nat.zero_le _, Nat.zero_le _⟩ rfl rfl dX8_sheet_69) rfl rfl rfl (fun _ => rfl) (fun _ => rfl) (fun _ => rfl) (fun u_58 e_57 => ?_)
                refine v_world (ws' := (gS  a ks ++ gF cI a fd ++ gH cS a  ++ gX cL (fun i => a (44 + i)) s0 ++ gX cL (fun i => a (46 + i)) (bb, if bb = 0 then 0 else n, fun _ => jL 0) ++ gX cL (fun i => a (48 + i)) s2 ++ gX cL (fun i => a (50 + i)) s3)) rfl ?_
                refine v_aload_n (j := 0) (x := a 0) G dX8_sheet_72 rfl rfl ?_
                refine v_get (q0 := 0) (k := 7) (v := .ref (a 43)) G k_X8 rfl rfl (by decide) q_2 rfl rfl dX8_sheet_73 ?_
                refine v_iload_n (j := 1) (x := jI 1) G dX8_sheet_76 rfl rfl ?_
                refine v_aald (q0 := 2) (t0 := 3) (y := a 46) (z := 1) G rfl rfl (by omega) rfl dX8_sheet_77 ?_
                refine v_get (q0 := 5) (k := 1) (v := .int (jI (if bb = 0 then 0 else n))) G k_X3 rfl rfl (by decide) q_4 rfl rfl dX8_sheet_78 ?_
                exact v_iret G (fd, s0, (bb, if bb = 0 then 0 else n, fun _ => jL 0), s2, s3) (by first | exact Or.inr (Or.inr (Or.inr (Or.inr (Or.inl ⟨(by omega), (by first | rfl | exact congrArg jI (by omega)), rfl, rfl, rfl, rfl, rfl⟩))))) rfl dX8_sheet_81
              · skip
                refine v_aload_n (j := 0) (x := a 0) G dX8_sheet_61 rfl rfl ?_
                refine v_get (q0 := 0) (k := 7) (v := .ref (a 43)) G k_X8 rfl rfl (by decide) q_2 rfl rfl dX8_sheet_62 ?_
                refine v_iload_n (j := 1) (x := jI 2) G dX8_sheet_65 rfl rfl ?_
                refine v_aald (q0 := 2) (t0 := 3) (y := a 48) (z := 2) G rfl rfl (by omega) rfl dX8_sheet_66 ?_
                refine v_iload_n (j := 2) (x := jI bb) G dX8_sheet_67 rfl rfl ?_
                refine v_iload_n (j := 3) (x := jI n) G dX8_sheet_68 rfl rfl ?_
                refine v_cvG (w2 := (fun _ => (gS  a ks ++ gF cI a fd ++ gH cS a  ++ gX cL (fun i => a (44 + i)) s0 ++ gX cL (fun i => a (46 + i)) s1 ++ gX cL (fun i => a (48 + i)) (bb, if bb = 0 then 0 else n, fun _ => jL 0) ++ gX cL (fun i => a (50 + i)) s3))) G [gS  a ks, gF cI a fd, gH cS a , gX cL (fun i => a (44 + i)) s0, gX cL (fun i => a (46 + i)) s1, gX cL (fun i => a (48 + i)) s2, gX cL (fun i => a (50 + i)) s3] [gX cL (fun i => a (48 + i)) s2] [gS  a ks, gF cI a fd, gH cS a , gX cL (fun i => a (44 + i)) s0, gX cL (fun i => a (46 + i)) s1, gX cL (fun i => a (50 + i)) s3] (fun _ => [gS  a ks, gF cI a fd, gH cS a , gX cL (fun i => a (44 + i)) s0, gX cL (fun i => a (46 + i)) s1, gX cL (fun i => a (48 + i)) (bb, if bb = 0 then 0 else n, fun _ => jL 0), gX cL (fun i => a (50 + i)) s3]) (fun _ => [gX cL (fun i => a (48 + i)) (bb, if bb = 0 then 0 else n, fun _ => jL 0)]) [5] (rn_V (As := [.int (jI bb), .int (jI n)]) (rest := []) (q0 := 0) G (c_X3_layOut (bb := bb) (n := n) (sx := s2) (b := fun i => a (48 + i)) (hr := (by omega))) gX8_sheet_X3_layOut rfl hdX3_layOut ⟨rfl, rfl, Nat.le_of_ble_eq_true rfl, Nat.le_of_ble_eq_true rfl⟩ rfl rfl (Nat.le_of_ble_eq_true rfl) ⟨Nat.zero_le _, Nat.zero_le _⟩ rfl rfl dX8_sheet_69) rfl rfl rfl (fun _ => rfl) (fun _ => rfl) (fun _ => rfl) (fun u_61 e_60 => ?_)
                refine v_world (ws' := (gS  a ks ++ gF cI a fd ++ gH cS a  ++ gX cL (fun i => a (44 + i)) s0 ++ gX cL (fun i => a (46 + i)) s1 ++ gX cL (fun i => a (48 + i)) (bb, if bb = 0 then 0 else n, fun _ => jL 0) ++ gX cL (fun i => a (50 + i)) s3)) rfl ?_
                refine v_aload_n (j := 0) (x := a 0) G dX8_sheet_72 rfl rfl ?_
                refine v_get (q0 := 0) (k := 7) (v := .ref (a 43)) G k_X8 rfl rfl (by decide) q_2 rfl rfl dX8_sheet_73 ?_
                refine v_iload_n (j := 1) (x := jI 2) G dX8_sheet_76 rfl rfl ?_
                refine v_aald (q0 := 2) (t0 := 3) (y := a 48) (z := 2) G rfl rfl (by omega) rfl dX8_sheet_77 ?_
                refine v_get (q0 := 7) (k := 1) (v := .int (jI (if bb = 0 then 0 else n))) G k_X3 rfl rfl (by decide) q_4 rfl rfl dX8_sheet_78 ?_
                exact v_iret G (fd, s0, s1, (bb, if bb = 0 then 0 else n, fun _ => jL 0), s3) (by first | exact Or.inr (Or.inr (Or.inr (Or.inr (Or.inr (Or.inl ⟨(by omega), (by first | rfl | exact congrArg jI (by omega)), rfl, rfl, rfl, rfl, rfl⟩)))))) rfl dX8_sheet_81
              · skip
                refine v_aload_n (j := 0) (x := a 0) G dX8_sheet_61 rfl rfl ?_
                refine v_get (q0 := 0) (k := 7) (v := .ref (a 43)) G k_X8 rfl rfl (by decide) q_2 rfl rfl dX8_sheet_62 ?_
                refine v_iload_n (j := 1) (x := jI 3) G dX8_sheet_65 rfl rfl ?_
                refine v_aald (q0 := 2) (t0 := 3) (y := a 50) (z := 3) G rfl rfl (by omega) rfl dX8_sheet_66 ?_
                refine v_iload_n (j := 2) (x := jI bb) G dX8_sheet_67 rfl rfl ?_
                refine v_iload_n (j := 3) (x := jI n) G dX8_sheet_68 rfl rfl ?_
                refine v_cvG (w2 := (fun _ => (gS  a ks ++ gF cI a fd ++ gH cS a  ++ gX cL (fun i => a (44 + i)) s0 ++ gX cL (fun i => a (46 + i)) s1 ++ gX cL (fun i => a (48 + i)) s2 ++ gX cL (fun i => a (50 + i)) (bb, if bb = 0 then 0 else n, fun _ => jL 0)))) G [gS  a ks, gF cI a fd, gH cS a , gX cL (fun i => a (44 + i)) s0, gX cL (fun i => a (46 + i)) s1, gX cL (fun i => a (48 + i)) s2, gX cL (fun i => a (50 + i)) s3] [gX cL (fun i => a (50 + i)) s3] [gS  a ks, gF cI a fd, gH cS a , gX cL (fun i => a (44 + i)) s0, gX cL (fun i => a (46 + i)) s1, gX cL (fun i => a (48 + i)) s2] (fun _ => [gS  a ks, gF cI a fd, gH cS a , gX cL (fun i => a (44 + i)) s0, gX cL (fun i => a (46 + i)) s1, gX cL (fun i => a (48 + i)) s2, gX cL (fun i => a (50 + i)) (bb, if bb = 0 then 0 else n, fun _ => jL 0)]) (fun _ => [gX cL (fun i => a (50 + i)) (bb, if bb = 0 then 0 else n, fun _ => jL 0)]) [6] (rn_V (As := [.int (jI bb), .int (jI n)]) (rest := []) (q0 := 0) G (c_X3_layOut (bb := bb) (n := n) (sx := s3) (b := fun i => a (50 + i)) (hr := (by omega))) gX8_sheet_X3_layOut rfl hdX3_layOut ⟨rfl, rfl, Nat.le_of_ble_eq_true rfl, Nat.le_of_ble_eq_true rfl⟩ rfl rfl (Nat.le_of_ble_eq_true rfl) ⟨Nat.zero_le _, Nat.zero_le _⟩ rfl rfl dX8_sheet_69) rfl rfl rfl (fun _ => rfl) (fun _ => rfl) (fun _ => rfl) (fun u_64 e_63 => ?_)
                refine v_world (ws' := (gS  a ks ++ gF cI a fd ++ gH cS a  ++ gX cL (fun i => a (44 + i)) s0 ++ gX cL (fun i => a (46 + i)) s1 ++ gX cL (fun i => a (48 + i)) s2 ++ gX cL (fun i => a (50 + i)) (bb, if bb = 0 then 0 else n, fun _ => jL 0))) rfl ?_
                refine v_aload_n (j := 0) (x := a 0) G dX8_sheet_72 rfl rfl ?_
                refine v_get (q0 := 0) (k := 7) (v := .ref (a 43)) G k_X8 rfl rfl (by decide) q_2 rfl rfl dX8_sheet_73 ?_
                refine v_iload_n (j := 1) (x := jI 3) G dX8_sheet_76 rfl rfl ?_
                refine v_aald (q0 := 2) (t0 := 3) (y := a 50) (z := 3) G rfl rfl (by omega) rfl dX8_sheet_77 ?_
                refine v_get (q0 := 9) (k := 1) (v := .int (jI (if bb = 0 then 0 else n))) G k_X3 rfl rfl (by decide) q_4 rfl rfl dX8_sheet_78 ?_
                exact v_iret G (fd, s0, s1, s2, (bb, if bb = 0 then 0 else n, fun _ => jL 0)) (by first | exact Or.inr (Or.inr (Or.inr (Or.inr (Or.inr (Or.inr (⟨(by omega), (by first | rfl | exact congrArg jI (by omega)), rfl, rfl, rfl, rfl, rfl⟩))))))) rfl dX8_sheet_81
            · skip
              refine v_aload_n (j := 0) (x := a 0) G dX8_sheet_54 rfl rfl ?_
              refine v_ldc (z := (-1000000001)) G q_0 (by decide) dX8_sheet_55 ?_
              refine v_ciG (w2 := (fun _ => (gS  a ks ++ gF cI a (uI fd 0 (fd 0 + 1)) ++ gH cS a  ++ gX cL (fun i => a (44 + i)) s0 ++ gX cL (fun i => a (46 + i)) s1 ++ gX cL (fun i => a (48 + i)) s2 ++ gX cL (fun i => a (50 + i)) s3))) G [gS  a ks, gF cI a fd, gH cS a , gX cL (fun i => a (44 + i)) s0, gX cL (fun i => a (46 + i)) s1, gX cL (fun i => a (48 + i)) s2, gX cL (fun i => a (50 + i)) s3] [gS  a ks, gF cI a fd] [gH cS a , gX cL (fun i => a (44 + i)) s0, gX cL (fun i => a (46 + i)) s1, gX cL (fun i => a (48 + i)) s2, gX cL (fun i => a (50 + i)) s3] (fun _ => [gS  a ks, gF cI a (uI fd 0 (fd 0 + 1)), gH cS a , gX cL (fun i => a (44 + i)) s0, gX cL (fun i => a (46 + i)) s1, gX cL (fun i => a (48 + i)) s2, gX cL (fun i => a (50 + i)) s3]) (fun _ => [gS  a ks, gF cI a (uI fd 0 (fd 0 + 1))]) [0, 0] (rn_V (As := [.int (jI (-1000000001))]) (rest := []) (q0 := 0) G (c_X8_found_0 (ks := ks) (fd := fd) (a := a) ) gX8_sheet_X8_found rfl hdX8_found ⟨rfl, rfl, Nat.le_of_ble_eq_true rfl, Nat.le_of_ble_eq_true rfl⟩ rfl rfl (Nat.le_of_ble_eq_true rfl) ⟨Nat.zero_le _, Nat.zero_le _⟩ rfl rfl dX8_sheet_57) rfl rfl rfl (fun _ => rfl) (fun _ => rfl) (fun _ => rfl) (fun r_65 u_67 e_66 => ?_)
              have e_66 : r_65 = jI (-1000000001) := e_66
              subst e_66
              refine v_world (ws' := (gS  a ks ++ gF cI a (uI fd 0 (fd 0 + 1)) ++ gH cS a  ++ gX cL (fun i => a (44 + i)) s0 ++ gX cL (fun i => a (46 + i)) s1 ++ gX cL (fun i => a (48 + i)) s2 ++ gX cL (fun i => a (50 + i)) s3)) rfl ?_
              exact v_iret G (uI fd 0 (fd 0 + 1), s0, s1, s2, s3) (by first | exact Or.inl ⟨(by omega), (by first | rfl | exact congrArg jI (by omega)), rfl, rfl, rfl, rfl, rfl⟩ | exact Or.inr (Or.inl ⟨(by omega), (by first | rfl | exact congrArg jI (by omega)), rfl, rfl, rfl, rfl, rfl⟩) | exact Or.inr (Or.inr (Or.inl ⟨(by omega), (by first | rfl | exact congrArg jI (by omega)), rfl, rfl, rfl, rfl, rfl⟩))) rfl dX8_sheet_60
          · skip
            refine v_aload_n (j := 0) (x := a 0) G dX8_sheet_40 rfl rfl ?_
            refine v_ldcw (z := (-1000000007)) G q_5 (by decide) dX8_sheet_41 ?_
            refine v_ciG (w2 := (fun _ => (gS  a ks ++ gF cI a (uI fd 6 (fd 6 + 1)) ++ gH cS a  ++ gX cL (fun i => a (44 + i)) s0 ++ gX cL (fun i => a (46 + i)) s1 ++ gX cL (fun i => a (48 + i)) s2 ++ gX cL (fun i => a (50 + i)) s3))) G [gS  a ks, gF cI a fd, gH cS a , gX cL (fun i => a (44 + i)) s0, gX cL (fun i => a (46 + i)) s1, gX cL (fun i => a (48 + i)) s2, gX cL (fun i => a (50 + i)) s3] [gS  a ks, gF cI a fd] [gH cS a , gX cL (fun i => a (44 + i)) s0, gX cL (fun i => a (46 + i)) s1, gX cL (fun i => a (48 + i)) s2, gX cL (fun i => a (50 + i)) s3] (fun _ => [gS  a ks, gF cI a (uI fd 6 (fd 6 + 1)), gH cS a , gX cL (fun i => a (44 + i)) s0, gX cL (fun i => a (46 + i)) s1, gX cL (fun i => a (48 + i)) s2, gX cL (fun i => a (50 + i)) s3]) (fun _ => [gS  a ks, gF cI a (uI fd 6 (fd 6 + 1))]) [0, 0] (rn_V (As := [.int (jI (-1000000007))]) (rest := []) (q0 := 0) G (c_X8_found_6 (ks := ks) (fd := fd) (a := a) ) gX8_sheet_X8_found rfl hdX8_found ⟨rfl, rfl, Nat.le_of_ble_eq_true rfl, Nat.le_of_ble_eq_true rfl⟩ rfl rfl (Nat.le_of_ble_eq_true rfl) ⟨Nat.zero_le _, Nat.zero_le _⟩ rfl rfl dX8_sheet_44) rfl rfl rfl (fun _ => rfl) (fun _ => rfl) (fun _ => rfl) (fun r_68 u_70 e_69 => ?_)
            have e_69 : r_68 = jI (-1000000007) := e_69
            subst e_69
            refine v_world (ws' := (gS  a ks ++ gF cI a (uI fd 6 (fd 6 + 1)) ++ gH cS a  ++ gX cL (fun i => a (44 + i)) s0 ++ gX cL (fun i => a (46 + i)) s1 ++ gX cL (fun i => a (48 + i)) s2 ++ gX cL (fun i => a (50 + i)) s3)) rfl ?_
            exact v_iret G (uI fd 6 (fd 6 + 1), s0, s1, s2, s3) (by first | exact Or.inl ⟨(by omega), (by first | rfl | exact congrArg jI (by omega)), rfl, rfl, rfl, rfl, rfl⟩ | exact Or.inr (Or.inl ⟨(by omega), (by first | rfl | exact congrArg jI (by omega)), rfl, rfl, rfl, rfl, rfl⟩) | exact Or.inr (Or.inr (Or.inl ⟨(by omega), (by first | rfl | exact congrArg jI (by omega)), rfl, rfl, rfl, rfl, rfl⟩))) rfl dX8_sheet_47
        · skip
          refine v_iload_n (j := 2) (x := jI bb) G dX8_sheet_23 rfl rfl ?_
          refine v_bipush G dX8_sheet_24 (by decide) ?_
          refine v_icmp_eq (a := bb) (b := 64) (tgt := 36) G dX8_sheet_26 (by decide) (by omega) (fun c_71 => ?_) (fun c_71 => ?_)
          · skip
            refine v_iload_n (j := 3) (x := jI n) G dX8_sheet_36 rfl rfl ?_
            refine v_if_ge (a := n) (tgt := 48) G dX8_sheet_37 (by decide) (by omega) (fun c_72 => ?_) (fun c_72 => ?_)
            · skip
              refine v_iload_n (j := 3) (x := jI n) G dX8_sheet_48 rfl rfl ?_
              refine v_bipush G dX8_sheet_49 (by decide) ?_
              refine v_icmp_le (a := n) (b := 40) (tgt := 61) G dX8_sheet_51 (by decide) (by omega) (fun c_73 => ?_) (fun c_73 => ?_)
              · skip
                rcases (show k = 0 ∨ k = 1 ∨ k = 2 ∨ k = 3 by omega) with rfl | rfl | rfl | rfl
                · skip
                  refine v_aload_n (j := 0) (x := a 0) G dX8_sheet_61 rfl rfl ?_
                  refine v_get (q0 := 0) (k := 7) (v := .ref (a 43)) G k_X8 rfl rfl (by decide) q_2 rfl rfl dX8_sheet_62 ?_
                  refine v_iload_n (j := 1) (x := jI 0) G dX8_sheet_65 rfl rfl ?_
                  refine v_aald (q0 := 2) (t0 := 3) (y := a 44) (z := 0) G rfl rfl (by omega) rfl dX8_sheet_66 ?_
                  refine v_iload_n (j := 2) (x := jI bb) G dX8_sheet_67 rfl rfl ?_
                  refine v_iload_n (j := 3) (x := jI n) G dX8_sheet_68 rfl rfl ?_
                  refine v_cvG (w2 := (fun _ => (gS  a ks ++ gF cI a fd ++ gH cS a  ++ gX cL (fun i => a (44 + i)) (bb, if bb = 0 then 0 else n, fun _ => jL 0) ++ gX cL (fun i => a (46 + i)) s1 ++ gX cL (fun i => a (48 + i)) s2 ++ gX cL (fun i => a (50 + i)) s3))) G [gS  a ks, gF cI a fd, gH cS a , gX cL (fun i => a (44 + i)) s0, gX cL (fun i => a (46 + i)) s1, gX cL (fun i => a (48 + i)) s2, gX cL (fun i => a (50 + i)) s3] [gX cL (fun i => a (44 + i)) s0] [gS  a ks, gF cI a fd, gH cS a , gX cL (fun i => a (46 + i)) s1, gX cL (fun i => a (48 + i)) s2, gX cL (fun i => a (50 + i)) s3] (fun _ => [gS  a ks, gF cI a fd, gH cS a , gX cL (fun i => a (44 + i)) (bb, if bb = 0 then 0 else n, fun _ => jL 0), gX cL (fun i => a (46 + i)) s1, gX cL (fun i => a (48 + i)) s2, gX cL (fun i => a (50 + i)) s3]) (fun _ => [gX cL (fun i => a (44 + i)) (bb, if bb = 0 then 0 else n, fun _ => jL 0)]) [3] (rn_V (As := [.int (jI bb), .int (jI n)]) (rest := []) (q0 := 0) G (c_X3_layOut (bb := bb) (n := n) (sx := s0) (b := fun i => a (44 + i)) (hr := (by omega))) gX8_sheet_X3_layOut rfl hdX3_layOut ⟨rfl, rfl, Nat.le_of_ble_eq_true rfl, Nat.le_of_ble_eq_true rfl⟩ rfl rfl (Nat.le_of_ble_eq_true rfl) ⟨Nat.zero_le _, Nat.zero_le _⟩ rfl rfl dX8_sheet_69) rfl rfl rfl (fun _ => rfl) (fun _ => rfl) (fun _ => rfl) (fun u_76 e_75 => ?_)
                  refine v_world (ws' := (gS  a ks ++ gF cI a fd ++ gH cS a  ++ gX cL (fun i => a (44 + i)) (bb, if bb = 0 then 0 else n, fun _ => jL 0) ++ gX cL (fun i => a (46 + i)) s1 ++ gX cL (fun i => a (48 + i)) s2 ++ gX cL (fun i => a (50 + i)) s3)) rfl ?_
                  refine v_aload_n (j := 0) (x := a 0) G dX8_sheet_72 rfl rfl ?_
                  refine v_get (q0 := 0) (k := 7) (v := .ref (a 43)) G k_X8 rfl rfl (by decide) q_2 rfl rfl dX8_sheet_73 ?_
                  refine v_iload_n (j := 1) (x := jI 0) G dX8_sheet_76 rfl rfl ?_
                  refine v_aald (q0 := 2) (t0 := 3) (y := a 44) (z := 0) G rfl rfl (by omega) rfl dX8_sheet_77 ?_
                  refine v_get (q0 := 3) (k := 1) (v := .int (jI (if bb = 0 then 0 else n))) G k_X3 rfl rfl (by decide) q_4 rfl rfl dX8_sheet_78 ?_
                  exact v_iret G (fd, (bb, if bb = 0 then 0 else n, fun _ => jL 0), s1, s2, s3) (by first | exact Or.inr (Or.inr (Or.inr (Or.inl ⟨(by omega), (by first | rfl | exact congrArg jI (by omega)), rfl, rfl, rfl, rfl, rfl⟩)))) rfl dX8_sheet_81
                · skip
                  refine v_aload_n (j := 0) (x := a 0) G dX8_sheet_61 rfl rfl ?_
                  refine v_get (q0 := 0) (k := 7) (v := .ref (a 43)) G k_X8 rfl rfl (by decide) q_2 rfl rfl dX8_sheet_62 ?_
                  refine v_iload_n (j := 1) (x := jI 1) G dX8_sheet_65 rfl rfl ?_
                  refine v_aald (q0 := 2) (t0 := 3) (y := a 46) (z := 1) G rfl rfl (by omega) rfl dX8_sheet_66 ?_
                  refine v_iload_n (j := 2) (x := jI bb) G dX8_sheet_67 rfl rfl ?_
                  refine v_iload_n (j := 3) (x := jI n) G dX8_sheet_68 rfl rfl ?_
                  refine v_cvG (w2 := (fun _ => (gS  a ks ++ gF cI a fd ++ gH cS a  ++ gX cL (fun i => a (44 + i)) s0 ++ gX cL (fun i => a (46 + i)) (bb, if bb = 0 then 0 else n, fun _ => jL 0) ++ gX cL (fun i => a (48 + i)) s2 ++ gX cL (fun i => a (50 + i)) s3))) G [gS  a ks, gF cI a fd, gH cS a , gX cL (fun i => a (44 + i)) s0, gX cL (fun i => a (46 + i)) s1, gX cL (fun i => a (48 + i)) s2, gX cL (fun i => a (50 + i)) s3] [gX cL (fun i => a (46 + i)) s1] [gS  a ks, gF cI a fd, gH cS a , gX cL (fun i => a (44 + i)) s0, gX cL (fun i => a (48 + i)) s2, gX cL (fun i => a (50 + i)) s3] (fun _ => [gS  a ks, gF cI a fd, gH cS a , gX cL (fun i => a (44 + i)) s0, gX cL (fun i => a (46 + i)) (bb, if bb = 0 then 0 else n, fun _ => jL 0), gX cL (fun i => a (48 + i)) s2, gX cL (fun i => a (50 + i)) s3]) (fun _ => [gX cL (fun i => a (46 + i)) (bb, if bb = 0 then 0 else n, fun _ => jL 0)]) [4] (rn_V (As := [.int (jI bb), .int (jI n)]) (rest := []) (q0 := 0) G (c_X3_layOut (bb := bb) (n := n) (sx := s1) (b := fun i => a (46 + i)) (hr := (by omega))) gX8_sheet_X3_layOut rfl hdX3_layOut ⟨rfl, rfl, Nat.le_of_ble_eq_true rfl, Nat.le_of_ble_eq_true rfl⟩ rfl rfl (Nat.le_of_ble_eq_true rfl) ⟨Nat.zero_le _, Nat.zero_le _⟩ rfl rfl dX8_sheet_69) rfl rfl rfl (fun _ => rfl) (fun _ => rfl) (fun _ => rfl) (fun u_79 e_78 => ?_)
                  refine v_world (ws' := (gS  a ks ++ gF cI a fd ++ gH cS a  ++ gX cL (fun i => a (44 + i)) s0 ++ gX cL (fun i => a (46 + i)) (bb, if bb = 0 then 0 else n, fun _ => jL 0) ++ gX cL (fun i => a (48 + i)) s2 ++ gX cL (fun i => a (50 + i)) s3)) rfl ?_
                  refine v_aload_n (j := 0) (x := a 0) G dX8_sheet_72 rfl rfl ?_
                  refine v_get (q0 := 0) (k := 7) (v := .ref (a 43)) G k_X8 rfl rfl (by decide) q_2 rfl rfl dX8_sheet_73 ?_
                  refine v_iload_n (j := 1) (x := jI 1) G dX8_sheet_76 rfl rfl ?_
                  refine v_aald (q0 := 2) (t0 := 3) (y := a 46) (z := 1) G rfl rfl (by omega) rfl dX8_sheet_77 ?_
                  refine v_get (q0 := 5) (k := 1) (v := .int (jI (if bb = 0 then 0 else n))) G k_X3 rfl rfl (by decide) q_4 rfl rfl dX8_sheet_78 ?_
                  exact v_iret G (fd, s0, (bb, if bb = 0 then 0 else n, fun _ => jL 0), s2, s3) (by first | exact Or.inr (Or.inr (Or.inr (Or.inr (Or.inl ⟨(by omega), (by first | rfl | exact congrArg jI (by omega)), rfl, rfl, rfl, rfl, rfl⟩))))) rfl dX8_sheet_81
                · skip
                  refine v_aload_n (j := 0) (x := a 0) G dX8_sheet_61 rfl rfl ?_
                  refine v_get (q0 := 0) (k := 7) (v := .ref (a 43)) G k_X8 rfl rfl (by decide) q_2 rfl rfl dX8_sheet_62 ?_
                  refine v_iload_n (j := 1) (x := jI 2) G dX8_sheet_65 rfl rfl ?_
                  refine v_aald (q0 := 2) (t0 := 3) (y := a 48) (z := 2) G rfl rfl (by omega) rfl dX8_sheet_66 ?_
                  refine v_iload_n (j := 2) (x := jI bb) G dX8_sheet_67 rfl rfl ?_
                  refine v_iload_n (j := 3) (x := jI n) G dX8_sheet_68 rfl rfl ?_
                  refine v_cvG (w2 := (fun _ => (gS  a ks ++ gF cI a fd ++ gH cS a  ++ gX cL (fun i => a (44 + i)) s0 ++ gX cL (fun i => a (46 + i)) s1 ++ gX cL (fun i => a (48 + i)) (bb, if bb = 0 then 0 else n, fun _ => jL 0) ++ gX cL (fun i => a (50 + i)) s3))) G [gS  a ks, gF cI a fd, gH cS a , gX cL (fun i => a (44 + i)) s0, gX cL (fun i => a (46 + i)) s1, gX cL (fun i => a (48 + i)) s2, gX cL (fun i => a (50 + i)) s3] [gX cL (fun i => a (48 + i)) s2] [gS  a ks, gF cI a fd, gH cS a , gX cL (fun i => a (44 + i)) s0, gX cL (fun i => a (46 + i)) s1, gX cL (fun i => a (50 + i)) s3] (fun _ => [gS  a ks, gF cI a fd, gH cS a , gX cL (fun i => a (44 + i)) s0, gX cL (fun i => a (46 + i)) s1, gX cL (fun i => a (48 + i)) (bb, if bb = 0 then 0 else n, fun _ => jL 0), gX cL (fun i => a (50 + i)) s3]) (fun _ => [gX cL (fun i => a (48 + i)) (bb, if bb = 0 then 0 else n, fun _ => jL 0)]) [5] (rn_V (As := [.int (jI bb), .int (jI n)]) (rest := []) (q0 := 0) G (c_X3_layOut (bb := bb) (n := n) (sx := s2) (b := fun i => a (48 + i)) (hr := (by omega))) gX8_sheet_X3_layOut rfl hdX3_layOut ⟨rfl, rfl, Nat.le_of_ble_eq_true rfl, Nat.le_of_ble_eq_true rfl⟩ rfl rfl (Nat.le_of_ble_eq_true rfl) ⟨Nat.zero_le _, Nat.zero_le _⟩ rfl rfl dX8_sheet_69) rfl rfl rfl (fun _ => rfl) (fun _ => rfl) (fun _ => rfl) (fun u_82 e_81 => ?_)
                  refine v_world (ws' := (gS  a ks ++ gF cI a fd ++ gH cS a  ++ gX cL (fun i => a (44 + i)) s0 ++ gX cL (fun i => a (46 + i)) s1 ++ gX cL (fun i => a (48 + i)) (bb, if bb = 0 then 0 else n, fun _ => jL 0) ++ gX cL (fun i => a (50 + i)) s3)) rfl ?_
                  refine v_aload_n (j := 0) (x := a 0) G dX8_sheet_72 rfl rfl ?_
                  refine v_get (q0 := 0) (k := 7) (v := .ref (a 43)) G k_X8 rfl rfl (by decide) q_2 rfl rfl dX8_sheet_73 ?_
                  refine v_iload_n (j := 1) (x := jI 2) G dX8_sheet_76 rfl rfl ?_
                  refine v_aald (q0 := 2) (t0 := 3) (y := a 48) (z := 2) G rfl rfl (by omega) rfl dX8_sheet_77 ?_
                  refine v_get (q0 := 7) (k := 1) (v := .int (jI (if bb = 0 then 0 else n))) G k_X3 rfl rfl (by decide) q_4 rfl rfl dX8_sheet_78 ?_
                  exact v_iret G (fd, s0, s1, (bb, if bb = 0 then 0 else n, fun _ => jL 0), s3) (by first | exact Or.inr (Or.inr (Or.inr (Or.inr (Or.inr (Or.inl ⟨(by omega), (by first | rfl | exact congrArg jI (by omega)), rfl, rfl, rfl, rfl, rfl⟩)))))) rfl dX8_sheet_81
                · skip
                  refine v_aload_n (j := 0) (x := a 0) G dX8_sheet_61 rfl rfl ?_
                  refine v_get (q0 := 0) (k := 7) (v := .ref (a 43)) G k_X8 rfl rfl (by decide) q_2 rfl rfl dX8_sheet_62 ?_
                  refine v_iload_n (j := 1) (x := jI 3) G dX8_sheet_65 rfl rfl ?_
                  refine v_aald (q0 := 2) (t0 := 3) (y := a 50) (z := 3) G rfl rfl (by omega) rfl dX8_sheet_66 ?_
                  refine v_iload_n (j := 2) (x := jI bb) G dX8_sheet_67 rfl rfl ?_
                  refine v_iload_n (j := 3) (x := jI n) G dX8_sheet_68 rfl rfl ?_
                  refine v_cvG (w2 := (fun _ => (gS  a ks ++ gF cI a fd ++ gH cS a  ++ gX cL (fun i => a (44 + i)) s0 ++ gX cL (fun i => a (46 + i)) s1 ++ gX cL (fun i => a (48 + i)) s2 ++ gX cL (fun i => a (50 + i)) (bb, if bb = 0 then 0 else n, fun _ => jL 0)))) G [gS  a ks, gF cI a fd, gH cS a , gX cL (fun i => a (44 + i)) s0, gX cL (fun i => a (46 + i)) s1, gX cL (fun i => a (48 + i)) s2, gX cL (fun i => a (50 + i)) s3] [gX cL (fun i => a (50 + i)) s3] [gS  a ks, gF cI a fd, gH cS a , gX cL (fun i => a (44 + i)) s0, gX cL (fun i => a (46 + i)) s1, gX cL (fun i => a (48 + i)) s2] (fun _ => [gS  a ks, gF cI a fd, gH cS a , gX cL (fun i => a (44 + i)) s0, gX cL (fun i => a (46 + i)) s1, gX cL (fun i => a (48 + i)) s2, gX cL (fun i => a (50 + i)) (bb, if bb = 0 then 0 else n, fun _ => jL 0)]) (fun _ => [gX cL (fun i => a (50 + i)) (bb, if bb = 0 then 0 else n, fun _ => jL 0)]) [6] (rn_V (As := [.int (jI bb), .int (jI n)]) (rest := []) (q0 := 0) G (c_X3_layOut (bb := bb) (n := n) (sx := s3) (b := fun i => a (50 + i)) (hr := (by omega))) gX8_sheet_X3_layOut rfl hdX3_layOut ⟨rfl, rfl, Nat.le_of_ble_eq_true rfl, Nat.le_of_ble_eq_true rfl⟩ rfl rfl (Nat.le_of_ble_eq_true rfl) ⟨Nat.zero_le _, Nat.zero_le _⟩ rfl rfl dX8_sheet_69) rfl rfl rfl (fun _ => rfl) (fun _ => rfl) (fun _ => rfl) (fun u_85 e_84 => ?_)
                  refine v_world (ws' := (gS  a ks ++ gF cI a fd ++ gH cS a  ++ gX cL (fun i => a (44 + i)) s0 ++ gX cL (fun i => a (46 + i)) s1 ++ gX cL (fun i => a (48 + i)) s2 ++ gX cL (fun i => a (50 + i)) (bb, if bb = 0 then 0 else n, fun _ => jL 0))) rfl ?_
                  refine v_aload_n (j := 0) (x := a 0) G dX8_sheet_72 rfl rfl ?_
                  refine v_get (q0 := 0) (k := 7) (v := .ref (a 43)) G k_X8 rfl rfl (by decide) q_2 rfl rfl dX8_sheet_73 ?_
                  refine v_iload_n (j := 1) (x := jI 3) G dX8_sheet_76 rfl rfl ?_
                  refine v_aald (q0 := 2) (t0 := 3) (y := a 50) (z := 3) G rfl rfl (by omega) rfl dX8_sheet_77 ?_
                  refine v_get (q0 := 9) (k := 1) (v := .int (jI (if bb = 0 then 0 else n))) G k_X3 rfl rfl (by decide) q_4 rfl rfl dX8_sheet_78 ?_
                  exact v_iret G (fd, s0, s1, s2, (bb, if bb = 0 then 0 else n, fun _ => jL 0)) (by first | exact Or.inr (Or.inr (Or.inr (Or.inr (Or.inr (Or.inr (⟨(by omega), (by first | rfl | exact congrArg jI (by omega)), rfl, rfl, rfl, rfl, rfl⟩))))))) rfl dX8_sheet_81
              · skip
                refine v_aload_n (j := 0) (x := a 0) G dX8_sheet_54 rfl rfl ?_
                refine v_ldc (z := (-1000000001)) G q_0 (by decide) dX8_sheet_55 ?_
                refine v_ciG (w2 := (fun _ => (gS  a ks ++ gF cI a (uI fd 0 (fd 0 + 1)) ++ gH cS a  ++ gX cL (fun i => a (44 + i)) s0 ++ gX cL (fun i => a (46 + i)) s1 ++ gX cL (fun i => a (48 + i)) s2 ++ gX cL (fun i => a (50 + i)) s3))) G [gS  a ks, gF cI a fd, gH cS a , gX cL (fun i => a (44 + i)) s0, gX cL (fun i => a (46 + i)) s1, gX cL (fun i => a (48 + i)) s2, gX cL (fun i => a (50 + i)) s3] [gS  a ks, gF cI a fd] [gH cS a , gX cL (fun i => a (44 + i)) s0, gX cL (fun i => a (46 + i)) s1, gX cL (fun i => a (48 + i)) s2, gX cL (fun i => a (50 + i)) s3] (fun _ => [gS  a ks, gF cI a (uI fd 0 (fd 0 + 1)), gH cS a , gX cL (fun i => a (44 + i)) s0, gX cL (fun i => a (46 + i)) s1, gX cL (fun i => a (48 + i)) s2, gX cL (fun i => a (50 + i)) s3]) (fun _ => [gS  a ks, gF cI a (uI fd 0 (fd 0 + 1))]) [0, 0] (rn_V (As := [.int (jI (-1000000001))]) (rest := []) (q0 := 0) G (c_X8_found_0 (ks := ks) (fd := fd) (a := a) ) gX8_sheet_X8_found rfl hdX8_found ⟨rfl, rfl, Nat.le_of_ble_eq_true rfl, Nat.le_of_ble_eq_true rfl⟩ rfl rfl (Nat.le_of_ble_eq_true rfl) ⟨Nat.zero_le _, Nat.zero_le _⟩ rfl rfl dX8_sheet_57) rfl rfl rfl (fun _ => rfl) (fun _ => rfl) (fun _ => rfl) (fun r_86 u_88 e_87 => ?_)
                have e_87 : r_86 = jI (-1000000001) := e_87
                subst e_87
                refine v_world (ws' := (gS  a ks ++ gF cI a (uI fd 0 (fd 0 + 1)) ++ gH cS a  ++ gX cL (fun i => a (44 + i)) s0 ++ gX cL (fun i => a (46 + i)) s1 ++ gX cL (fun i => a (48 + i)) s2 ++ gX cL (fun i => a (50 + i)) s3)) rfl ?_
                exact v_iret G (uI fd 0 (fd 0 + 1), s0, s1, s2, s3) (by first | exact Or.inl ⟨(by omega), (by first | rfl | exact congrArg jI (by omega)), rfl, rfl, rfl, rfl, rfl⟩ | exact Or.inr (Or.inl ⟨(by omega), (by first | rfl | exact congrArg jI (by omega)), rfl, rfl, rfl, rfl, rfl⟩) | exact Or.inr (Or.inr (Or.inl ⟨(by omega), (by first | rfl | exact congrArg jI (by omega)), rfl, rfl, rfl, rfl, rfl⟩))) rfl dX8_sheet_60
            · skip
              refine v_aload_n (j := 0) (x := a 0) G dX8_sheet_40 rfl rfl ?_
              refine v_ldcw (z := (-1000000007)) G q_5 (by decide) dX8_sheet_41 ?_
              refine v_ciG (w2 := (fun _ => (gS  a ks ++ gF cI a (uI fd 6 (fd 6 + 1)) ++ gH cS a  ++ gX cL (fun i => a (44 + i)) s0 ++ gX cL (fun i => a (46 + i)) s1 ++ gX cL (fun i => a (48 + i)) s2 ++ gX cL (fun i => a (50 + i)) s3))) G [gS  a ks, gF cI a fd, gH cS a , gX cL (fun i => a (44 + i)) s0, gX cL (fun i => a (46 + i)) s1, gX cL (fun i => a (48 + i)) s2, gX cL (fun i => a (50 + i)) s3] [gS  a ks, gF cI a fd] [gH cS a , gX cL (fun i => a (44 + i)) s0, gX cL (fun i => a (46 + i)) s1, gX cL (fun i => a (48 + i)) s2, gX cL (fun i => a (50 + i)) s3] (fun _ => [gS  a ks, gF cI a (uI fd 6 (fd 6 + 1)), gH cS a , gX cL (fun i => a (44 + i)) s0, gX cL (fun i => a (46 + i)) s1, gX cL (fun i => a (48 + i)) s2, gX cL (fun i => a (50 + i)) s3]) (fun _ => [gS  a ks, gF cI a (uI fd 6 (fd 6 + 1))]) [0, 0] (rn_V (As := [.int (jI (-1000000007))]) (rest := []) (q0 := 0) G (c_X8_found_6 (ks := ks) (fd := fd) (a := a) ) gX8_sheet_X8_found rfl hdX8_found ⟨rfl, rfl, Nat.le_of_ble_eq_true rfl, Nat.le_of_ble_eq_true rfl⟩ rfl rfl (Nat.le_of_ble_eq_true rfl) ⟨Nat.zero_le _, Nat.zero_le _⟩ rfl rfl dX8_sheet_44) rfl rfl rfl (fun _ => rfl) (fun _ => rfl) (fun _ => rfl) (fun r_89 u_91 e_90 => ?_)
              have e_90 : r_89 = jI (-1000000007) := e_90
              subst e_90
              refine v_world (ws' := (gS  a ks ++ gF cI a (uI fd 6 (fd 6 + 1)) ++ gH cS a  ++ gX cL (fun i => a (44 + i)) s0 ++ gX cL (fun i => a (46 + i)) s1 ++ gX cL (fun i => a (48 + i)) s2 ++ gX cL (fun i => a (50 + i)) s3)) rfl ?_
              exact v_iret G (uI fd 6 (fd 6 + 1), s0, s1, s2, s3) (by first | exact Or.inl ⟨(by omega), (by first | rfl | exact congrArg jI (by omega)), rfl, rfl, rfl, rfl, rfl⟩ | exact Or.inr (Or.inl ⟨(by omega), (by first | rfl | exact congrArg jI (by omega)), rfl, rfl, rfl, rfl, rfl⟩) | exact Or.inr (Or.inr (Or.inl ⟨(by omega), (by first | rfl | exact congrArg jI (by omega)), rfl, rfl, rfl, rfl, rfl⟩))) rfl dX8_sheet_47
          · skip
            refine v_aload_n (j := 0) (x := a 0) G dX8_sheet_29 rfl rfl ?_
            refine v_ldc (z := (-1000000001)) G q_0 (by decide) dX8_sheet_30 ?_
            refine v_ciG (w2 := (fun _ => (gS  a ks ++ gF cI a (uI fd 0 (fd 0 + 1)) ++ gH cS a  ++ gX cL (fun i => a (44 + i)) s0 ++ gX cL (fun i => a (46 + i)) s1 ++ gX cL (fun i => a (48 + i)) s2 ++ gX cL (fun i => a (50 + i)) s3))) G [gS  a ks, gF cI a fd, gH cS a , gX cL (fun i => a (44 + i)) s0, gX cL (fun i => a (46 + i)) s1, gX cL (fun i => a (48 + i)) s2, gX cL (fun i => a (50 + i)) s3] [gS  a ks, gF cI a fd] [gH cS a , gX cL (fun i => a (44 + i)) s0, gX cL (fun i => a (46 + i)) s1, gX cL (fun i => a (48 + i)) s2, gX cL (fun i => a (50 + i)) s3] (fun _ => [gS  a ks, gF cI a (uI fd 0 (fd 0 + 1)), gH cS a , gX cL (fun i => a (44 + i)) s0, gX cL (fun i => a (46 + i)) s1, gX cL (fun i => a (48 + i)) s2, gX cL (fun i => a (50 + i)) s3]) (fun _ => [gS  a ks, gF cI a (uI fd 0 (fd 0 + 1))]) [0, 0] (rn_V (As := [.int (jI (-1000000001))]) (rest := []) (q0 := 0) G (c_X8_found_0 (ks := ks) (fd := fd) (a := a) ) gX8_sheet_X8_found rfl hdX8_found ⟨rfl, rfl, Nat.le_of_ble_eq_true rfl, Nat.le_of_ble_eq_true rfl⟩ rfl rfl (Nat.le_of_ble_eq_true rfl) ⟨Nat.zero_le _, Nat.zero_le _⟩ rfl rfl dX8_sheet_32) rfl rfl rfl (fun _ => rfl) (fun _ => rfl) (fun _ => rfl) (fun r_92 u_94 e_93 => ?_)
            have e_93 : r_92 = jI (-1000000001) := e_93
            subst e_93
            refine v_world (ws' := (gS  a ks ++ gF cI a (uI fd 0 (fd 0 + 1)) ++ gH cS a  ++ gX cL (fun i => a (44 + i)) s0 ++ gX cL (fun i => a (46 + i)) s1 ++ gX cL (fun i => a (48 + i)) s2 ++ gX cL (fun i => a (50 + i)) s3)) rfl ?_
            exact v_iret G (uI fd 0 (fd 0 + 1), s0, s1, s2, s3) (by first | exact Or.inl ⟨(by omega), (by first | rfl | exact congrArg jI (by omega)), rfl, rfl, rfl, rfl, rfl⟩ | exact Or.inr (Or.inl ⟨(by omega), (by first | rfl | exact congrArg jI (by omega)), rfl, rfl, rfl, rfl, rfl⟩) | exact Or.inr (Or.inr (Or.inl ⟨(by omega), (by first | rfl | exact congrArg jI (by omega)), rfl, rfl, rfl, rfl, rfl⟩))) rfl dX8_sheet_35

set_option maxHeartbeats 4000000 in
set_option maxRecDepth 100000 in
theorem c_X8_write (k i : Int) (v : Int64) (hx0 : Sx s0) (hx1 : Sx s1) (hx2 : Sx s2) (hx3 : Sx s3) (hr : (-2147483648 ≤ k ∧ k ≤ 2147483647) ∧ (-2147483648 ≤ i ∧ i ≤ 2147483647)) : Cl l yX8_write wsX8_write { frames := 2, cells := 0, slots := 0, locals := 44 } D (jT cI cL cB cS) [.ref (a 0), .int (jI k), .int (jI i), .long v] (gS  a ks ++ gF cI a fd ++ gH cS a  ++ gX cL (fun i => a (44 + i)) s0 ++ gX cL (fun i => a (46 + i)) s1 ++ gX cL (fun i => a (48 + i)) s2 ++ gX cL (fun i => a (50 + i)) s3) (S := (Int → Int) × (Int × Int × (Int → Int64)) × (Int × Int × (Int → Int64)) × (Int × Int × (Int → Int64)) × (Int × Int × (Int → Int64))) (fun u => (gS  a ks ++ gF cI a u.1 ++ gH cS a  ++ gX cL (fun i => a (44 + i)) u.2.1 ++ gX cL (fun i => a (46 + i)) u.2.2.1 ++ gX cL (fun i => a (48 + i)) u.2.2.2.1 ++ gX cL (fun i => a (50 + i)) u.2.2.2.2)) (fun r u => ((¬ (0 ≤ k ∧ k ≤ 3)) ∧ r = jL (-1000000001) ∧ u.1 = uI fd 0 (fd 0 + 1) ∧ u.2.1 = s0 ∧ u.2.2.1 = s1 ∧ u.2.2.2.1 = s2 ∧ u.2.2.2.2 = s3) ∨ ((k = 0 ∧ s0.1 = 0) ∧ r = jL (-1000000006) ∧ u.1 = uI fd 5 (fd 5 + 1) ∧ u.2.1 = s0 ∧ u.2.2.1 = s1 ∧ u.2.2.2.1 = s2 ∧ u.2.2.2.2 = s3) ∨ (((k = 0 ∧ s0.1 ≠ 0) ∧ ¬ (0 ≤ i ∧ i ≤ s0.2.1 - 1)) ∧ r = jL (-1000000001) ∧ u.1 = uI fd 0 (fd 0 + 1) ∧ u.2.1 = s0 ∧ u.2.2.1 = s1 ∧ u.2.2.2.1 = s2 ∧ u.2.2.2.2 = s3) ∨ (((k = 0 ∧ s0.1 ≠ 0) ∧ 0 ≤ i ∧ i ≤ s0.2.1 - 1) ∧ r = s0.2.2 i ∧ u.1 = fd ∧ u.2.1 = (s0.1, s0.2.1, uL s0.2.2 i (nW s0.1 v)) ∧ u.2.2.1 = s1 ∧ u.2.2.2.1 = s2 ∧ u.2.2.2.2 = s3) ∨ ((k = 1 ∧ s1.1 = 0) ∧ r = jL (-1000000006) ∧ u.1 = uI fd 5 (fd 5 + 1) ∧ u.2.1 = s0 ∧ u.2.2.1 = s1 ∧ u.2.2.2.1 = s2 ∧ u.2.2.2.2 = s3) ∨ (((k = 1 ∧ s1.1 ≠ 0) ∧ ¬ (0 ≤ i ∧ i ≤ s1.2.1 - 1)) ∧ r = jL (-1000000001) ∧ u.1 = uI fd 0 (fd 0 + 1) ∧ u.2.1 = s0 ∧ u.2.2.1 = s1 ∧ u.2.2.2.1 = s2 ∧ u.2.2.2.2 = s3) ∨ (((k = 1 ∧ s1.1 ≠ 0) ∧ 0 ≤ i ∧ i ≤ s1.2.1 - 1) ∧ r = s1.2.2 i ∧ u.1 = fd ∧ u.2.1 = s0 ∧ u.2.2.1 = (s1.1, s1.2.1, uL s1.2.2 i (nW s1.1 v)) ∧ u.2.2.2.1 = s2 ∧ u.2.2.2.2 = s3) ∨ ((k = 2 ∧ s2.1 = 0) ∧ r = jL (-1000000006) ∧ u.1 = uI fd 5 (fd 5 + 1) ∧ u.2.1 = s0 ∧ u.2.2.1 = s1 ∧ u.2.2.2.1 = s2 ∧ u.2.2.2.2 = s3) ∨ (((k = 2 ∧ s2.1 ≠ 0) ∧ ¬ (0 ≤ i ∧ i ≤ s2.2.1 - 1)) ∧ r = jL (-1000000001) ∧ u.1 = uI fd 0 (fd 0 + 1) ∧ u.2.1 = s0 ∧ u.2.2.1 = s1 ∧ u.2.2.2.1 = s2 ∧ u.2.2.2.2 = s3) ∨ (((k = 2 ∧ s2.1 ≠ 0) ∧ 0 ≤ i ∧ i ≤ s2.2.1 - 1) ∧ r = s2.2.2 i ∧ u.1 = fd ∧ u.2.1 = s0 ∧ u.2.2.1 = s1 ∧ u.2.2.2.1 = (s2.1, s2.2.1, uL s2.2.2 i (nW s2.1 v)) ∧ u.2.2.2.2 = s3) ∨ ((k = 3 ∧ s3.1 = 0) ∧ r = jL (-1000000006) ∧ u.1 = uI fd 5 (fd 5 + 1) ∧ u.2.1 = s0 ∧ u.2.2.1 = s1 ∧ u.2.2.2.1 = s2 ∧ u.2.2.2.2 = s3) ∨ (((k = 3 ∧ s3.1 ≠ 0) ∧ ¬ (0 ≤ i ∧ i ≤ s3.2.1 - 1)) ∧ r = jL (-1000000001) ∧ u.1 = uI fd 0 (fd 0 + 1) ∧ u.2.1 = s0 ∧ u.2.2.1 = s1 ∧ u.2.2.2.1 = s2 ∧ u.2.2.2.2 = s3) ∨ (((k = 3 ∧ s3.1 ≠ 0) ∧ 0 ≤ i ∧ i ≤ s3.2.1 - 1) ∧ r = s3.2.2 i ∧ u.1 = fd ∧ u.2.1 = s0 ∧ u.2.2.1 = s1 ∧ u.2.2.2.1 = s2 ∧ u.2.2.2.2 = (s3.1, s3.2.1, uL s3.2.2 i (nW s3.1 v)))) := by
  refine Cl.mk (cc := cX8_write) (maxL := 7) (by decide) rfl (Nat.le_of_ble_eq_true rfl) rfl ?_
  intro p_ e_ s_ m_ b_ me_ c_ A_ G hnm
  obtain ⟨hb0, hz0⟩ := id hx0
  obtain ⟨hb1, hz1⟩ := id hx1
  obtain ⟨hb2, hz2⟩ := id hx2
  obtain ⟨hb3, hz3⟩ := id hx3
  have k_X8 : ∀ w ∈ u_ws RX8 TX8 12, w ∈ wsX8_write := fun _ h => List.mem_cons_of_mem _ (List.mem_append_left _ (List.mem_append_right _ h))
  have q_1 : Cond.fieldLink RX8 49 "SupperLight" "sheets" "[LSupperLight$Sheet;" ∈ wsX8_write := List.mem_of_getElem? (i := 2) rfl
  have k_X3 : ∀ w ∈ u_ws RX3 TX3 3, w ∈ wsX8_write := fun _ h => List.mem_cons_of_mem _ (List.mem_append_right _ h)
  have q_3 : Cond.fieldLink RX8 271 "SupperLight$Sheet" "size" "I" ∈ wsX8_write := List.mem_of_getElem? (i := 4) rfl
  have q_4 : Cond.fieldLink RX8 276 "SupperLight$Sheet" "numbers" "[J" ∈ wsX8_write := List.mem_of_getElem? (i := 5) rfl
  have q_5 : Cond.constant RX8 83 (-1000000001) ∈ wsX8_write := List.mem_of_getElem? (i := 1) rfl
  have q_6 : Cond.constant RX8 275 (-1000000006) ∈ wsX8_write := List.mem_of_getElem? (i := 3) rfl
  refine v_iload_n (j := 1) (x := jI k) G dX8_write_0 rfl rfl ?_
  refine v_ciN G (rn_S (As := [.int (jI k)]) (rest := []) G (c_X8_isSheet (k := k) (hr := (by omega))) gX8_write_X8_isSheet rfl hdX8_isSheet ⟨rfl, rfl, Nat.le_of_ble_eq_true rfl, Nat.le_of_ble_eq_true rfl⟩ rfl rfl (Nat.le_of_ble_eq_true rfl) ⟨Nat.zero_le _, Nat.zero_le _⟩ dX8_write_1) (fun r_1 u_3 e_2 => ?_)
  have e_2 : r_1 = jI (b2 (0 ≤ k ∧ k ≤ 3)) := e_2
  subst e_2
  refine v_ifb_ne (P := 0 ≤ k ∧ k ≤ 3) (tgt := 15) G dX8_write_4 (by decide) (fun c_4 => ?_) (fun c_4 => ?_)
  · skip
    rcases (show k = 0 ∨ k = 1 ∨ k = 2 ∨ k = 3 by omega) with rfl | rfl | rfl | rfl
    · skip
      refine v_aload_n (j := 0) (x := a 0) G dX8_write_15 rfl rfl ?_
      refine v_get (q0 := 0) (k := 7) (v := .ref (a 43)) G k_X8 rfl rfl (by decide) q_1 rfl rfl dX8_write_16 ?_
      refine v_iload_n (j := 1) (x := jI 0) G dX8_write_19 rfl rfl ?_
      refine v_aald (q0 := 2) (t0 := 3) (y := a 44) (z := 0) G rfl rfl (by omega) rfl dX8_write_20 ?_
      refine v_ciG (w2 := (fun _ => (gS  a ks ++ gF cI a fd ++ gH cS a  ++ gX cL (fun i => a (44 + i)) s0 ++ gX cL (fun i => a (46 + i)) s1 ++ gX cL (fun i => a (48 + i)) s2 ++ gX cL (fun i => a (50 + i)) s3))) G [gS  a ks, gF cI a fd, gH cS a , gX cL (fun i => a (44 + i)) s0, gX cL (fun i => a (46 + i)) s1, gX cL (fun i => a (48 + i)) s2, gX cL (fun i => a (50 + i)) s3] [gX cL (fun i => a (44 + i)) s0] [gS  a ks, gF cI a fd, gH cS a , gX cL (fun i => a (46 + i)) s1, gX cL (fun i => a (48 + i)) s2, gX cL (fun i => a (50 + i)) s3] (fun _ => [gS  a ks, gF cI a fd, gH cS a , gX cL (fun i => a (44 + i)) s0, gX cL (fun i => a (46 + i)) s1, gX cL (fun i => a (48 + i)) s2, gX cL (fun i => a (50 + i)) s3]) (fun _ => [gX cL (fun i => a (44 + i)) s0]) [3] (rn_V (As := []) (rest := []) (q0 := 0) G (c_X3_isMissing (sx := s0) (b := fun i => a (44 + i)) (hx := hx0)) gX8_write_X3_isMissing rfl hdX3_isMissing ⟨rfl, rfl, Nat.le_of_ble_eq_true rfl, Nat.le_of_ble_eq_true rfl⟩ rfl rfl (Nat.le_of_ble_eq_true rfl) ⟨Nat.zero_le _, Nat.zero_le _⟩ rfl rfl dX8_write_21) rfl rfl rfl (fun _ => rfl) (fun _ => rfl) (fun _ => rfl) (fun r_5 u_7 e_6 => ?_)
      have e_6 : r_5 = jI (b2 (s0.1 = 0)) := e_6
      subst e_6
      refine v_world (ws' := (gS  a ks ++ gF cI a fd ++ gH cS a  ++ gX cL (fun i => a (44 + i)) s0 ++ gX cL (fun i => a (46 + i)) s1 ++ gX cL (fun i => a (48 + i)) s2 ++ gX cL (fun i => a (50 + i)) s3)) rfl ?_
      refine v_ifb_eq (P := s0.1 = 0) (tgt := 36) G dX8_write_24 (by decide) (fun c_8 => ?_) (fun c_8 => ?_)
      · skip
        refine v_iload_n (j := 2) (x := jI i) G dX8_write_36 rfl rfl ?_
        refine v_iconst G dX8_write_37 ?_
        refine v_aload_n (j := 0) (x := a 0) G dX8_write_38 rfl rfl ?_
        refine v_get (q0 := 0) (k := 7) (v := .ref (a 43)) G k_X8 rfl rfl (by decide) q_1 rfl rfl dX8_write_39 ?_
        refine v_iload_n (j := 1) (x := jI 0) G dX8_write_42 rfl rfl ?_
        refine v_aald (q0 := 2) (t0 := 3) (y := a 44) (z := 0) G rfl rfl (by omega) rfl dX8_write_43 ?_
        refine v_get (q0 := 3) (k := 1) (v := .int (jI s0.2.1)) G k_X3 rfl rfl (by decide) q_3 rfl rfl dX8_write_44 ?_
        refine v_iconst G dX8_write_47 ?_
        refine v_isub (z := s0.2.1 - 1) G dX8_write_48 rfl ?_
        refine v_ciN G (rn_S (As := [.int (jI i), .int (jI 0), .int (jI (s0.2.1 - 1))]) (rest := []) G (c_X8_within (v := i) (lo := 0) (hi := s0.2.1 - 1) (hr := (by omega))) gX8_write_X8_within rfl hdX8_within ⟨rfl, rfl, Nat.le_of_ble_eq_true rfl, Nat.le_of_ble_eq_true rfl⟩ rfl rfl (Nat.le_of_ble_eq_true rfl) ⟨Nat.zero_le _, Nat.zero_le _⟩ dX8_write_49) (fun r_9 u_11 e_10 => ?_)
        have e_10 : r_9 = jI (b2 ((0 : Int) ≤ i ∧ i ≤ ((s0.2.1 - 1) : Int))) := e_10
        subst e_10
        refine v_ifb_ne (P := (0 : Int) ≤ i ∧ i ≤ ((s0.2.1 - 1) : Int)) (tgt := 63) G dX8_write_52 (by decide) (fun c_12 => ?_) (fun c_12 => ?_)
        · skip
          refine v_aload_n (j := 0) (x := a 0) G dX8_write_63 rfl rfl ?_
          refine v_get (q0 := 0) (k := 7) (v := .ref (a 43)) G k_X8 rfl rfl (by decide) q_1 rfl rfl dX8_write_64 ?_
          refine v_iload_n (j := 1) (x := jI 0) G dX8_write_67 rfl rfl ?_
          refine v_aald (q0 := 2) (t0 := 3) (y := a 44) (z := 0) G rfl rfl (by omega) rfl dX8_write_68 ?_
          refine v_get (q0 := 3) (k := 2) (v := .ref (a 45)) G k_X3 rfl rfl (by decide) q_4 rfl rfl dX8_write_69 ?_
          refine v_iload_n (j := 2) (x := jI i) G dX8_write_72 rfl rfl ?_
          refine v_lald (q0 := 4) (t0 := 1) (g := s0.2.2) (z := i) G rfl rfl (by omega) dX8_write_73 ?_
          refine v_lstore (lv' := [(5, .long (s0.2.2 i)), (0, .ref (a 0)), (1, .int (jI 0)), (2, .int (jI i)), (3, .long v)]) G dX8_write_74 (by decide) rfl ?_
          refine v_aload_n (j := 1) (x := a 0) G dX8_write_76 rfl rfl ?_
          refine v_get (q0 := 0) (k := 7) (v := .ref (a 43)) G k_X8 rfl rfl (by decide) q_1 rfl rfl dX8_write_77 ?_
          refine v_iload_n (j := 2) (x := jI 0) G dX8_write_80 rfl rfl ?_
          refine v_aald (q0 := 2) (t0 := 3) (y := a 44) (z := 0) G rfl rfl (by omega) rfl dX8_write_81 ?_
          refine v_iload_n (j := 3) (x := jI i) G dX8_write_82 rfl rfl ?_
          refine v_lload_n (j := 4) (x := v) G dX8_write_83 rfl rfl ?_
          refine v_cvG (w2 := (fun _ => (gS  a ks ++ gF cI a fd ++ gH cS a  ++ gX cL (fun i => a (44 + i)) (s0.1, s0.2.1, uL s0.2.2 i (nW s0.1 v)) ++ gX cL (fun i => a (46 + i)) s1 ++ gX cL (fun i => a (48 + i)) s2 ++ gX cL (fun i => a (50 + i)) s3))) G [gS  a ks, gF cI a fd, gH cS a , gX cL (fun i => a (44 + i)) s0, gX cL (fun i => a (46 + i)) s1, gX cL (fun i => a (48 + i)) s2, gX cL (fun i => a (50 + i)) s3] [gX cL (fun i => a (44 + i)) s0] [gS  a ks, gF cI a fd, gH cS a , gX cL (fun i => a (46 + i)) s1, gX cL (fun i => a (48 + i)) s2, gX cL (fun i => a (50 + i)) s3] (fun _ => [gS  a ks, gF cI a fd, gH cS a , gX cL (fun i => a (44 + i)) (s0.1, s0.2.1, uL s0.2.2 i (nW s0.1 v)), gX cL (fun i => a (46 + i)) s1, gX cL (fun i => a (48 + i)) s2, gX cL (fun i => a (50 + i)) s3]) (fun _ => [gX cL (fun i => a (44 + i)) (s0.1, s0.2.1, uL s0.2.2 i (nW s0.1 v))]) [3] (rn_V (As := [.int (jI i), .long v]) (rest := []) (q0 := 0) G (c_X3_put (i := i) (v := v) (sx := s0) (b := fun i => a (44 + i)) (hx := hx0) (hi := (by omega))) gX8_write_X3_put rfl hdX3_put ⟨rfl, rfl, Nat.le_of_ble_eq_true rfl, Nat.le_of_ble_eq_true rfl⟩ rfl rfl (Nat.le_of_ble_eq_true rfl) ⟨Nat.zero_le _, Nat.zero_le _⟩ rfl rfl dX8_write_84) rfl rfl rfl (fun _ => rfl) (fun _ => rfl) (fun _ => rfl) (fun u_15 e_14 => ?_)
          refine v_world (ws' := (gS  a ks ++ gF cI a fd ++ gH cS a  ++ gX cL (fun i => a (44 + i)) (s0.1, s0.2.1, uL s0.2.2 i (nW s0.1 v)) ++ gX cL (fun i => a (46 + i)) s1 ++ gX cL (fun i => a (48 + i)) s2 ++ gX cL (fun i => a (50 + i)) s3)) rfl ?_
          refine v_lload (j := 0) (x := s0.2.2 i) G dX8_write_87 rfl ?_
          exact v_lret G (fd, (s0.1, s0.2.1, uL s0.2.2 i (nW s0.1 v)), s1, s2, s3) (by first | exact Or.inr (Or.inl ⟨(by omega), (by first | rfl | exact congrArg jI (by omega)), rfl, rfl, rfl, rfl, rfl⟩) | exact Or.inr (Or.inr (Or.inl ⟨(by omega), (by first | rfl | exact congrArg jI (by omega)), rfl, rfl, rfl, rfl, rfl⟩)) | exact Or.inr (Or.inr (Or.inr (Or.inl ⟨(by omega), (by first | rfl | exact congrArg jI (by omega)), rfl, rfl, rfl, rfl, rfl⟩)))) rfl dX8_write_89
        · skip
          refine v_aload_n (j := 0) (x := a 0) G dX8_write_55 rfl rfl ?_
          refine v_ldc (z := (-1000000001)) G q_5 (by decide) dX8_write_56 ?_
          refine v_ciG (w2 := (fun _ => (gS  a ks ++ gF cI a (uI fd 0 (fd 0 + 1)) ++ gH cS a  ++ gX cL (fun i => a (44 + i)) s0 ++ gX cL (fun i => a (46 + i)) s1 ++ gX cL (fun i => a (48 + i)) s2 ++ gX cL (fun i => a (50 + i)) s3))) G [gS  a ks, gF cI a fd, gH cS a , gX cL (fun i => a (44 + i)) s0, gX cL (fun i => a (46 + i)) s1, gX cL (fun i => a (48 + i)) s2, gX cL (fun i => a (50 + i)) s3] [gS  a ks, gF cI a fd] [gH cS a , gX cL (fun i => a (44 + i)) s0, gX cL (fun i => a (46 + i)) s1, gX cL (fun i => a (48 + i)) s2, gX cL (fun i => a (50 + i)) s3] (fun _ => [gS  a ks, gF cI a (uI fd 0 (fd 0 + 1)), gH cS a , gX cL (fun i => a (44 + i)) s0, gX cL (fun i => a (46 + i)) s1, gX cL (fun i => a (48 + i)) s2, gX cL (fun i => a (50 + i)) s3]) (fun _ => [gS  a ks, gF cI a (uI fd 0 (fd 0 + 1))]) [0, 0] (rn_V (As := [.int (jI (-1000000001))]) (rest := []) (q0 := 0) G (c_X8_found_0 (ks := ks) (fd := fd) (a := a) ) gX8_write_X8_found rfl hdX8_found ⟨rfl, rfl, Nat.le_of_ble_eq_true rfl, Nat.le_of_ble_eq_true rfl⟩ rfl rfl (Nat.le_of_ble_eq_true rfl) ⟨Nat.zero_le _, Nat.zero_le _⟩ rfl rfl dX8_write_58) rfl rfl rfl (fun _ => rfl) (fun _ => rfl) (fun _ => rfl) (fun r_16 u_18 e_17 => ?_)
          have e_17 : r_16 = jI (-1000000001) := e_17
          subst e_17
          refine v_world (ws' := (gS  a ks ++ gF cI a (uI fd 0 (fd 0 + 1)) ++ gH cS a  ++ gX cL (fun i => a (44 + i)) s0 ++ gX cL (fun i => a (46 + i)) s1 ++ gX cL (fun i => a (48 + i)) s2 ++ gX cL (fun i => a (50 + i)) s3)) rfl ?_
          refine v_i2l (v := jL (-1000000001)) G dX8_write_61 (jI_i2l (by omega)) ?_
          exact v_lret G (uI fd 0 (fd 0 + 1), s0, s1, s2, s3) (by first | exact Or.inr (Or.inl ⟨(by omega), (by first | rfl | exact congrArg jI (by omega)), rfl, rfl, rfl, rfl, rfl⟩) | exact Or.inr (Or.inr (Or.inl ⟨(by omega), (by first | rfl | exact congrArg jI (by omega)), rfl, rfl, rfl, rfl, rfl⟩)) | exact Or.inr (Or.inr (Or.inr (Or.inl ⟨(by omega), (by first | rfl | exact congrArg jI (by omega)), rfl, rfl, rfl, rfl, rfl⟩)))) rfl dX8_write_62
      · skip
        refine v_aload_n (j := 0) (x := a 0) G dX8_write_27 rfl rfl ?_
        refine v_ldcw (z := (-1000000006)) G q_6 (by decide) dX8_write_28 ?_
        refine v_ciG (w2 := (fun _ => (gS  a ks ++ gF cI a (uI fd 5 (fd 5 + 1)) ++ gH cS a  ++ gX cL (fun i => a (44 + i)) s0 ++ gX cL (fun i => a (46 + i)) s1 ++ gX cL (fun i => a (48 + i)) s2 ++ gX cL (fun i => a (50 + i)) s3))) G [gS  a ks, gF cI a fd, gH cS a , gX cL (fun i => a (44 + i)) s0, gX cL (fun i => a (46 + i)) s1, gX cL (fun i => a (48 + i)) s2, gX cL (fun i => a (50 + i)) s3] [gS  a ks, gF cI a fd] [gH cS a , gX cL (fun i => a (44 + i)) s0, gX cL (fun i => a (46 + i)) s1, gX cL (fun i => a (48 + i)) s2, gX cL (fun i => a (50 + i)) s3] (fun _ => [gS  a ks, gF cI a (uI fd 5 (fd 5 + 1)), gH cS a , gX cL (fun i => a (44 + i)) s0, gX cL (fun i => a (46 + i)) s1, gX cL (fun i => a (48 + i)) s2, gX cL (fun i => a (50 + i)) s3]) (fun _ => [gS  a ks, gF cI a (uI fd 5 (fd 5 + 1))]) [0, 0] (rn_V (As := [.int (jI (-1000000006))]) (rest := []) (q0 := 0) G (c_X8_found_5 (ks := ks) (fd := fd) (a := a) ) gX8_write_X8_found rfl hdX8_found ⟨rfl, rfl, Nat.le_of_ble_eq_true rfl, Nat.le_of_ble_eq_true rfl⟩ rfl rfl (Nat.le_of_ble_eq_true rfl) ⟨Nat.zero_le _, Nat.zero_le _⟩ rfl rfl dX8_write_31) rfl rfl rfl (fun _ => rfl) (fun _ => rfl) (fun _ => rfl) (fun r_19 u_21 e_20 => ?_)
        have e_20 : r_19 = jI (-1000000006) := e_20
        subst e_20
        refine v_world (ws' := (gS  a ks ++ gF cI a (uI fd 5 (fd 5 + 1)) ++ gH cS a  ++ gX cL (fun i => a (44 + i)) s0 ++ gX cL (fun i => a (46 + i)) s1 ++ gX cL (fun i => a (48 + i)) s2 ++ gX cL (fun i => a (50 + i)) s3)) rfl ?_
        refine v_i2l (v := jL (-1000000006)) G dX8_write_34 (jI_i2l (by omega)) ?_
        exact v_lret G (uI fd 5 (fd 5 + 1), s0, s1, s2, s3) (by first | exact Or.inr (Or.inl ⟨(by omega), (by first | rfl | exact congrArg jI (by omega)), rfl, rfl, rfl, rfl, rfl⟩) | exact Or.inr (Or.inr (Or.inl ⟨(by omega), (by first | rfl | exact congrArg jI (by omega)), rfl, rfl, rfl, rfl, rfl⟩)) | exact Or.inr (Or.inr (Or.inr (Or.inl ⟨(by omega), (by first | rfl | exact congrArg jI (by omega)), rfl, rfl, rfl, rfl, rfl⟩)))) rfl dX8_write_35
    · skip
      refine v_aload_n (j := 0) (x := a 0) G dX8_write_15 rfl rfl ?_
      refine v_get (q0 := 0) (k := 7) (v := .ref (a 43)) G k_X8 rfl rfl (by decide) q_1 rfl rfl dX8_write_16 ?_
      refine v_iload_n (j := 1) (x := jI 1) G dX8_write_19 rfl rfl ?_
      refine v_aald (q0 := 2) (t0 := 3) (y := a 46) (z := 1) G rfl rfl (by omega) rfl dX8_write_20 ?_
      refine v_ciG (w2 := (fun _ => (gS  a ks ++ gF cI a fd ++ gH cS a  ++ gX cL (fun i => a (44 + i)) s0 ++ gX cL (fun i => a (46 + i)) s1 ++ gX cL (fun i => a (48 + i)) s2 ++ gX cL (fun i => a (50 + i)) s3))) G [gS  a ks, gF cI a fd, gH cS a , gX cL (fun i => a (44 + i)) s0, gX cL (fun i => a (46 + i)) s1, gX cL (fun i => a (48 + i)) s2, gX cL (fun i => a (50 + i)) s3] [gX cL (fun i => a (46 + i)) s1] [gS  a ks, gF cI a fd, gH cS a , gX cL (fun i => a (44 + i)) s0, gX cL (fun i => a (48 + i)) s2, gX cL (fun i => a (50 + i)) s3] (fun _ => [gS  a ks, gF cI a fd, gH cS a , gX cL (fun i => a (44 + i)) s0, gX cL (fun i => a (46 + i)) s1, gX cL (fun i => a (48 + i)) s2, gX cL (fun i => a (50 + i)) s3]) (fun _ => [gX cL (fun i => a (46 + i)) s1]) [4] (rn_V (As := []) (rest := []) (q0 := 0) G (c_X3_isMissing (sx := s1) (b := fun i => a (46 + i)) (hx := hx1)) gX8_write_X3_isMissing rfl hdX3_isMissing ⟨rfl, rfl, Nat.le_of_ble_eq_true rfl, Nat.le_of_ble_eq_true rfl⟩ rfl rfl (Nat.le_of_ble_eq_true rfl) ⟨Nat.zero_le _, Nat.zero_le _⟩ rfl rfl dX8_write_21) rfl rfl rfl (fun _ => rfl) (fun _ => rfl) (fun _ => rfl) (fun r_22 u_24 e_23 => ?_)
      have e_23 : r_22 = jI (b2 (s1.1 = 0)) := e_23
      subst e_23
      refine v_world (ws' := (gS  a ks ++ gF cI a fd ++ gH cS a  ++ gX cL (fun i => a (44 + i)) s0 ++ gX cL (fun i => a (46 + i)) s1 ++ gX cL (fun i => a (48 + i)) s2 ++ gX cL (fun i => a (50 + i)) s3)) rfl ?_
      refine v_ifb_eq (P := s1.1 = 0) (tgt := 36) G dX8_write_24 (by decide) (fun c_25 => ?_) (fun c_25 => ?_)
      · skip
        refine v_iload_n (j := 2) (x := jI i) G dX8_write_36 rfl rfl ?_
        refine v_iconst G dX8_write_37 ?_
        refine v_aload_n (j := 0) (x := a 0) G dX8_write_38 rfl rfl ?_
        refine v_get (q0 := 0) (k := 7) (v := .ref (a 43)) G k_X8 rfl rfl (by decide) q_1 rfl rfl dX8_write_39 ?_
        refine v_iload_n (j := 1) (x := jI 1) G dX8_write_42 rfl rfl ?_
        refine v_aald (q0 := 2) (t0 := 3) (y := a 46) (z := 1) G rfl rfl (by omega) rfl dX8_write_43 ?_
        refine v_get (q0 := 5) (k := 1) (v := .int (jI s1.2.1)) G k_X3 rfl rfl (by decide) q_3 rfl rfl dX8_write_44 ?_
        refine v_iconst G dX8_write_47 ?_
        refine v_isub (z := s1.2.1 - 1) G dX8_write_48 rfl ?_
        refine v_ciN G (rn_S (As := [.int (jI i), .int (jI 0), .int (jI (s1.2.1 - 1))]) (rest := []) G (c_X8_within (v := i) (lo := 0) (hi := s1.2.1 - 1) (hr := (by omega))) gX8_write_X8_within rfl hdX8_within ⟨rfl, rfl, Nat.le_of_ble_eq_true rfl, Nat.le_of_ble_eq_true rfl⟩ rfl rfl (Nat.le_of_ble_eq_true rfl) ⟨Nat.zero_le _, Nat.zero_le _⟩ dX8_write_49) (fun r_26 u_28 e_27 => ?_)
        have e_27 : r_26 = jI (b2 ((0 : Int) ≤ i ∧ i ≤ ((s1.2.1 - 1) : Int))) := e_27
        subst e_27
        refine v_ifb_ne (P := (0 : Int) ≤ i ∧ i ≤ ((s1.2.1 - 1) : Int)) (tgt := 63) G dX8_write_52 (by decide) (fun c_29 => ?_) (fun c_29 => ?_)
        · skip
          refine v_aload_n (j := 0) (x := a 0) G dX8_write_63 rfl rfl ?_
          refine v_get (q0 := 0) (k := 7) (v := .ref (a 43)) G k_X8 rfl rfl (by decide) q_1 rfl rfl dX8_write_64 ?_
          refine v_iload_n (j := 1) (x := jI 1) G dX8_write_67 rfl rfl ?_
          refine v_aald (q0 := 2) (t0 := 3) (y := a 46) (z := 1) G rfl rfl (by omega) rfl dX8_write_68 ?_
          refine v_get (q0 := 5) (k := 2) (v := .ref (a 47)) G k_X3 rfl rfl (by decide) q_4 rfl rfl dX8_write_69 ?_
          refine v_iload_n (j := 2) (x := jI i) G dX8_write_72 rfl rfl ?_
          refine v_lald (q0 := 6) (t0 := 1) (g := s1.2.2) (z := i) G rfl rfl (by omega) dX8_write_73 ?_
          refine v_lstore (lv' := [(5, .long (s1.2.2 i)), (0, .ref (a 0)), (1, .int (jI 1)), (2, .int (jI i)), (3, .long v)]) G dX8_write_74 (by decide) rfl ?_
          refine v_aload_n (j := 1) (x := a 0) G dX8_write_76 rfl rfl ?_
          refine v_get (q0 := 0) (k := 7) (v := .ref (a 43)) G k_X8 rfl rfl (by decide) q_1 rfl rfl dX8_write_77 ?_
          refine v_iload_n (j := 2) (x := jI 1) G dX8_write_80 rfl rfl ?_
          refine v_aald (q0 := 2) (t0 := 3) (y := a 46) (z := 1) G rfl rfl (by omega) rfl dX8_write_81 ?_
          refine v_iload_n (j := 3) (x := jI i) G dX8_write_82 rfl rfl ?_
          refine v_lload_n (j := 4) (x := v) G dX8_write_83 rfl rfl ?_
          refine v_cvG (w2 := (fun _ => (gS  a ks ++ gF cI a fd ++ gH cS a  ++ gX cL (fun i => a (44 + i)) s0 ++ gX cL (fun i => a (46 + i)) (s1.1, s1.2.1, uL s1.2.2 i (nW s1.1 v)) ++ gX cL (fun i => a (48 + i)) s2 ++ gX cL (fun i => a (50 + i)) s3))) G [gS  a ks, gF cI a fd, gH cS a , gX cL (fun i => a (44 + i)) s0, gX cL (fun i => a (46 + i)) s1, gX cL (fun i => a (48 + i)) s2, gX cL (fun i => a (50 + i)) s3] [gX cL (fun i => a (46 + i)) s1] [gS  a ks, gF cI a fd, gH cS a , gX cL (fun i => a (44 + i)) s0, gX cL (fun i => a (48 + i)) s2, gX cL (fun i => a (50 + i)) s3] (fun _ => [gS  a ks, gF cI a fd, gH cS a , gX cL (fun i => a (44 + i)) s0, gX cL (fun i => a (46 + i)) (s1.1, s1.2.1, uL s1.2.2 i (nW s1.1 v)), gX cL (fun i => a (48 + i)) s2, gX cL (fun i => a (50 + i)) s3]) (fun _ => [gX cL (fun i => a (46 + i)) (s1.1, s1.2.1, uL s1.2.2 i (nW s1.1 v))]) [4] (rn_V (As := [.int (jI i), .long v]) (rest := []) (q0 := 0) G (c_X3_put (i := i) (v := v) (sx := s1) (b := fun i => a (46 + i)) (hx := hx1) (hi := (by omega))) gX8_write_X3_put rfl hdX3_put ⟨rfl, rfl, Nat.le_of_ble_eq_true rfl, Nat.le_of_ble_eq_true rfl⟩ rfl rfl (Nat.le_of_ble_eq_true rfl) ⟨Nat.zero_le _, Nat.zero_le _⟩ rfl rfl dX8_write_84) rfl rfl rfl (fun _ => rfl) (fun _ => rfl) (fun _ => rfl) (fun u_32 e_31 => ?_)
          refine v_world (ws' := (gS  a ks ++ gF cI a fd ++ gH cS a  ++ gX cL (fun i => a (44 + i)) s0 ++ gX cL (fun i => a (46 + i)) (s1.1, s1.2.1, uL s1.2.2 i (nW s1.1 v)) ++ gX cL (fun i => a (48 + i)) s2 ++ gX cL (fun i => a (50 + i)) s3)) rfl ?_
          refine v_lload (j := 0) (x := s1.2.2 i) G dX8_write_87 rfl ?_
          exact v_lret G (fd, s0, (s1.1, s1.2.1, uL s1.2.2 i (nW s1.1 v)), s2, s3) (by first | exact Or.inr (Or.inr (Or.inr (Or.inr (Or.inl ⟨(by omega), (by first | rfl | exact congrArg jI (by omega)), rfl, rfl, rfl, rfl, rfl⟩)))) | exact Or.inr (Or.inr (Or.inr (Or.inr (Or.inr (Or.inl ⟨(by omega), (by first | rfl | exact congrArg jI (by omega)), rfl, rfl, rfl, rfl, rfl⟩))))) | exact Or.inr (Or.inr (Or.inr (Or.inr (Or.inr (Or.inr (Or.inl ⟨(by omega), (by first | rfl | exact congrArg jI (by omega)), rfl, rfl, rfl, rfl, rfl⟩))))))) rfl dX8_write_89
        · skip
          refine v_aload_n (j := 0) (x := a 0) G dX8_write_55 rfl rfl ?_
          refine v_ldc (z := (-1000000001)) G q_5 (by decide) dX8_write_56 ?_
          refine v_ciG (w2 := (fun _ => (gS  a ks ++ gF cI a (uI fd 0 (fd 0 + 1)) ++ gH cS a  ++ gX cL (fun i => a (44 + i)) s0 ++ gX cL (fun i => a (46 + i)) s1 ++ gX cL (fun i => a (48 + i)) s2 ++ gX cL (fun i => a (50 + i)) s3))) G [gS  a ks, gF cI a fd, gH cS a , gX cL (fun i => a (44 + i)) s0, gX cL (fun i => a (46 + i)) s1, gX cL (fun i => a (48 + i)) s2, gX cL (fun i => a (50 + i)) s3] [gS  a ks, gF cI a fd] [gH cS a , gX cL (fun i => a (44 + i)) s0, gX cL (fun i => a (46 + i)) s1, gX cL (fun i => a (48 + i)) s2, gX cL (fun i => a (50 + i)) s3] (fun _ => [gS  a ks, gF cI a (uI fd 0 (fd 0 + 1)), gH cS a , gX cL (fun i => a (44 + i)) s0, gX cL (fun i => a (46 + i)) s1, gX cL (fun i => a (48 + i)) s2, gX cL (fun i => a (50 + i)) s3]) (fun _ => [gS  a ks, gF cI a (uI fd 0 (fd 0 + 1))]) [0, 0] (rn_V (As := [.int (jI (-1000000001))]) (rest := []) (q0 := 0) G (c_X8_found_0 (ks := ks) (fd := fd) (a := a) ) gX8_write_X8_found rfl hdX8_found ⟨rfl, rfl, Nat.le_of_ble_eq_true rfl, Nat.le_of_ble_eq_true rfl⟩ rfl rfl (Nat.le_of_ble_eq_true rfl) ⟨Nat.zero_le _, Nat.zero_le _⟩ rfl rfl dX8_write_58) rfl rfl rfl (fun _ => rfl) (fun _ => rfl) (fun _ => rfl) (fun r_33 u_35 e_34 => ?_)
          have e_34 : r_33 = jI (-1000000001) := e_34
          subst e_34
          refine v_world (ws' := (gS  a ks ++ gF cI a (uI fd 0 (fd 0 + 1)) ++ gH cS a  ++ gX cL (fun i => a (44 + i)) s0 ++ gX cL (fun i => a (46 + i)) s1 ++ gX cL (fun i => a (48 + i)) s2 ++ gX cL (fun i => a (50 + i)) s3)) rfl ?_
          refine v_i2l (v := jL (-1000000001)) G dX8_write_61 (jI_i2l (by omega)) ?_
          exact v_lret G (uI fd 0 (fd 0 + 1), s0, s1, s2, s3) (by first | exact Or.inr (Or.inr (Or.inr (Or.inr (Or.inl ⟨(by omega), (by first | rfl | exact congrArg jI (by omega)), rfl, rfl, rfl, rfl, rfl⟩)))) | exact Or.inr (Or.inr (Or.inr (Or.inr (Or.inr (Or.inl ⟨(by omega), (by first | rfl | exact congrArg jI (by omega)), rfl, rfl, rfl, rfl, rfl⟩))))) | exact Or.inr (Or.inr (Or.inr (Or.inr (Or.inr (Or.inr (Or.inl ⟨(by omega), (by first | rfl | exact congrArg jI (by omega)), rfl, rfl, rfl, rfl, rfl⟩))))))) rfl dX8_write_62
      · skip
        refine v_aload_n (j := 0) (x := a 0) G dX8_write_27 rfl rfl ?_
        refine v_ldcw (z := (-1000000006)) G q_6 (by decide) dX8_write_28 ?_
        refine v_ciG (w2 := (fun _ => (gS  a ks ++ gF cI a (uI fd 5 (fd 5 + 1)) ++ gH cS a  ++ gX cL (fun i => a (44 + i)) s0 ++ gX cL (fun i => a (46 + i)) s1 ++ gX cL (fun i => a (48 + i)) s2 ++ gX cL (fun i => a (50 + i)) s3))) G [gS  a ks, gF cI a fd, gH cS a , gX cL (fun i => a (44 + i)) s0, gX cL (fun i => a (46 + i)) s1, gX cL (fun i => a (48 + i)) s2, gX cL (fun i => a (50 + i)) s3] [gS  a ks, gF cI a fd] [gH cS a , gX cL (fun i => a (44 + i)) s0, gX cL (fun i => a (46 + i)) s1, gX cL (fun i => a (48 + i)) s2, gX cL (fun i => a (50 + i)) s3] (fun _ => [gS  a ks, gF cI a (uI fd 5 (fd 5 + 1)), gH cS a , gX cL (fun i => a (44 + i)) s0, gX cL (fun i => a (46 + i)) s1, gX cL (fun i => a (48 + i)) s2, gX cL (fun i => a (50 + i)) s3]) (fun _ => [gS  a ks, gF cI a (uI fd 5 (fd 5 + 1))]) [0, 0] (rn_V (As := [.int (jI (-1000000006))]) (rest := []) (q0 := 0) G (c_X8_found_5 (ks := ks) (fd := fd) (a := a) ) gX8_write_X8_found rfl hdX8_found ⟨rfl, rfl, Nat.le_of_ble_eq_true rfl, Nat.le_of_ble_eq_true rfl⟩ rfl rfl (Nat.le_of_ble_eq_true rfl) ⟨Nat.zero_le _, Nat.zero_le _⟩ rfl rfl dX8_write_31) rfl rfl rfl (fun _ => rfl) (fun _ => rfl) (fun _ => rfl) (fun r_36 u_38 e_37 => ?_)
        have e_37 : r_36 = jI (-1000000006) := e_37
        subst e_37
        refine v_world (ws' := (gS  a ks ++ gF cI a (uI fd 5 (fd 5 + 1)) ++ gH cS a  ++ gX cL (fun i => a (44 + i)) s0 ++ gX cL (fun i => a (46 + i)) s1 ++ gX cL (fun i => a (48 + i)) s2 ++ gX cL (fun i => a (50 + i)) s3)) rfl ?_
        refine v_i2l (v := jL (-1000000006)) G dX8_write_34 (jI_i2l (by omega)) ?_
        exact v_lret G (uI fd 5 (fd 5 + 1), s0, s1, s2, s3) (by first | exact Or.inr (Or.inr (Or.inr (Or.inr (Or.inl ⟨(by omega), (by first | rfl | exact congrArg jI (by omega)), rfl, rfl, rfl, rfl, rfl⟩)))) | exact Or.inr (Or.inr (Or.inr (Or.inr (Or.inr (Or.inl ⟨(by omega), (by first | rfl | exact congrArg jI (by omega)), rfl, rfl, rfl, rfl, rfl⟩))))) | exact Or.inr (Or.inr (Or.inr (Or.inr (Or.inr (Or.inr (Or.inl ⟨(by omega), (by first | rfl | exact congrArg jI (by omega)), rfl, rfl, rfl, rfl, rfl⟩))))))) rfl dX8_write_35
    · skip
      refine v_aload_n (j := 0) (x := a 0) G dX8_write_15 rfl rfl ?_
      refine v_get (q0 := 0) (k := 7) (v := .ref (a 43)) G k_X8 rfl rfl (by decide) q_1 rfl rfl dX8_write_16 ?_
      refine v_iload_n (j := 1) (x := jI 2) G dX8_write_19 rfl rfl ?_
      refine v_aald (q0 := 2) (t0 := 3) (y := a 48) (z := 2) G rfl rfl (by omega) rfl dX8_write_20 ?_
      refine v_ciG (w2 := (fun _ => (gS  a ks ++ gF cI a fd ++ gH cS a  ++ gX cL (fun i => a (44 + i)) s0 ++ gX cL (fun i => a (46 + i)) s1 ++ gX cL (fun i => a (48 + i)) s2 ++ gX cL (fun i => a (50 + i)) s3))) G [gS  a ks, gF cI a fd, gH cS a , gX cL (fun i => a (44 + i)) s0, gX cL (fun i => a (46 + i)) s1, gX cL (fun i => a (48 + i)) s2, gX cL (fun i => a (50 + i)) s3] [gX cL (fun i => a (48 + i)) s2] [gS  a ks, gF cI a fd, gH cS a , gX cL (fun i => a (44 + i)) s0, gX cL (fun i => a (46 + i)) s1, gX cL (fun i => a (50 + i)) s3] (fun _ => [gS  a ks, gF cI a fd, gH cS a , gX cL (fun i => a (44 + i)) s0, gX cL (fun i => a (46 + i)) s1, gX cL (fun i => a (48 + i)) s2, gX cL (fun i => a (50 + i)) s3]) (fun _ => [gX cL (fun i => a (48 + i)) s2]) [5] (rn_V (As := []) (rest := []) (q0 := 0) G (c_X3_isMissing (sx := s2) (b := fun i => a (48 + i)) (hx := hx2)) gX8_write_X3_isMissing rfl hdX3_isMissing ⟨rfl, rfl, Nat.le_of_ble_eq_true rfl, Nat.le_of_ble_eq_true rfl⟩ rfl rfl (Nat.le_of_ble_eq_true rfl) ⟨Nat.zero_le _, Nat.zero_le _⟩ rfl rfl dX8_write_21) rfl rfl rfl (fun _ => rfl) (fun _ => rfl) (fun _ => rfl) (fun r_39 u_41 e_40 => ?_)
      have e_40 : r_39 = jI (b2 (s2.1 = 0)) := e_40
      subst e_40
      refine v_world (ws' := (gS  a ks ++ gF cI a fd ++ gH cS a  ++ gX cL (fun i => a (44 + i)) s0 ++ gX cL (fun i => a (46 + i)) s1 ++ gX cL (fun i => a (48 + i)) s2 ++ gX cL (fun i => a (50 + i)) s3)) rfl ?_
      refine v_ifb_eq (P := s2.1 = 0) (tgt := 36) G dX8_write_24 (by decide) (fun c_42 => ?_) (fun c_42 => ?_)
      · skip
        refine v_iload_n (j := 2) (x := jI i) G dX8_write_36 rfl rfl ?_
        refine v_iconst G dX8_write_37 ?_
        refine v_aload_n (j := 0) (x := a 0) G dX8_write_38 rfl rfl ?_
        refine v_get (q0 := 0) (k := 7) (v := .ref (a 43)) G k_X8 rfl rfl (by decide) q_1 rfl rfl dX8_write_39 ?_
        refine v_iload_n (j := 1) (x := jI 2) G dX8_write_42 rfl rfl ?_
        refine v_aald (q0 := 2) (t0 := 3) (y := a 48) (z := 2) G rfl rfl (by omega) rfl dX8_write_43 ?_
        refine v_get (q0 := 7) (k := 1) (v := .int (jI s2.2.1)) G k_X3 rfl rfl (by decide) q_3 rfl rfl dX8_write_44 ?_
        refine v_iconst G dX8_write_47 ?_
        refine v_isub (z := s2.2.1 - 1) G dX8_write_48 rfl ?_
        refine v_ciN G (rn_S (As := [.int (jI i), .int (jI 0), .int (jI (s2.2.1 - 1))]) (rest := []) G (c_X8_within (v := i) (lo := 0) (hi := s2.2.1 - 1) (hr := (by omega))) gX8_write_X8_within rfl hdX8_within ⟨rfl, rfl, Nat.le_of_ble_eq_true rfl, Nat.le_of_ble_eq_true rfl⟩ rfl rfl (Nat.le_of_ble_eq_true rfl) ⟨Nat.zero_le _, Nat.zero_le _⟩ dX8_write_49) (fun r_43 u_45 e_44 => ?_)
        have e_44 : r_43 = jI (b2 ((0 : Int) ≤ i ∧ i ≤ ((s2.2.1 - 1) : Int))) := e_44
        subst e_44
        refine v_ifb_ne (P := (0 : Int) ≤ i ∧ i ≤ ((s2.2.1 - 1) : Int)) (tgt := 63) G dX8_write_52 (by decide) (fun c_46 => ?_) (fun c_46 => ?_)
        · skip
          refine v_aload_n (j := 0) (x := a 0) G dX8_write_63 rfl rfl ?_
          refine v_get (q0 := 0) (k := 7) (v := .ref (a 43)) G k_X8 rfl rfl (by decide) q_1 rfl rfl dX8_write_64 ?_
          refine v_iload_n (j := 1) (x := jI 2) G dX8_write_67 rfl rfl ?_
          refine v_aald (q0 := 2) (t0 := 3) (y := a 48) (z := 2) G rfl rfl (by omega) rfl dX8_write_68 ?_
          refine v_get (q0 := 7) (k := 2) (v := .ref (a 49)) G k_X3 rfl rfl (by decide) q_4 rfl rfl dX8_write_69 ?_
          refine v_iload_n (j := 2) (x := jI i) G dX8_write_72 rfl rfl ?_
          refine v_lald (q0 := 8) (t0 := 1) (g := s2.2.2) (z := i) G rfl rfl (by omega) dX8_write_73 ?_
          refine v_lstore (lv' := [(5, .long (s2.2.2 i)), (0, .ref (a 0)), (1, .int (jI 2)), (2, .int (jI i)), (3, .long v)]) G dX8_write_74 (by decide) rfl ?_
          refine v_aload_n (j := 1) (x := a 0) G dX8_write_76 rfl rfl ?_
          refine v_get (q0 := 0) (k := 7) (v := .ref (a 43)) G k_X8 rfl rfl (by decide) q_1 rfl rfl dX8_write_77 ?_
          refine v_iload_n (j := 2) (x := jI 2) G dX8_write_80 rfl rfl ?_
          refine v_aald (q0 := 2) (t0 := 3) (y := a 48) (z := 2) G rfl rfl (by omega) rfl dX8_write_81 ?_
          refine v_iload_n (j := 3) (x := jI i) G dX8_write_82 rfl rfl ?_
          refine v_lload_n (j := 4) (x := v) G dX8_write_83 rfl rfl ?_
          refine v_cvG (w2 := (fun _ => (gS  a ks ++ gF cI a fd ++ gH cS a  ++ gX cL (fun i => a (44 + i)) s0 ++ gX cL (fun i => a (46 + i)) s1 ++ gX cL (fun i => a (48 + i)) (s2.1, s2.2.1, uL s2.2.2 i (nW s2.1 v)) ++ gX cL (fun i => a (50 + i)) s3))) G [gS  a ks, gF cI a fd, gH cS a , gX cL (fun i => a (44 + i)) s0, gX cL (fun i => a (46 + i)) s1, gX cL (fun i => a (48 + i)) s2, gX cL (fun i => a (50 + i)) s3] [gX cL (fun i => a (48 + i)) s2] [gS  a ks, gF cI a fd, gH cS a , gX cL (fun i => a (44 + i)) s0, gX cL (fun i => a (46 + i)) s1, gX cL (fun i => a (50 + i)) s3] (fun _ => [gS  a ks, gF cI a fd, gH cS a , gX cL (fun i => a (44 + i)) s0, gX cL (fun i => a (46 + i)) s1, gX cL (fun i => a (48 + i)) (s2.1, s2.2.1, uL s2.2.2 i (nW s2.1 v)), gX cL (fun i => a (50 + i)) s3]) (fun _ => [gX cL (fun i => a (48 + i)) (s2.1, s2.2.1, uL s2.2.2 i (nW s2.1 v))]) [5] (rn_V (As := [.int (jI i), .long v]) (rest := []) (q0 := 0) G (c_X3_put (i := i) (v := v) (sx := s2) (b := fun i => a (48 + i)) (hx := hx2) (hi := (by omega))) gX8_write_X3_put rfl hdX3_put ⟨rfl, rfl, Nat.le_of_ble_eq_true rfl, Nat.le_of_ble_eq_true rfl⟩ rfl rfl (Nat.le_of_ble_eq_true rfl) ⟨Nat.zero_le _, Nat.zero_le _⟩ rfl rfl dX8_write_84) rfl rfl rfl (fun _ => rfl) (fun _ => rfl) (fun _ => rfl) (fun u_49 e_48 => ?_)
          refine v_world (ws' := (gS  a ks ++ gF cI a fd ++ gH cS a  ++ gX cL (fun i => a (44 + i)) s0 ++ gX cL (fun i => a (46 + i)) s1 ++ gX cL (fun i => a (48 + i)) (s2.1, s2.2.1, uL s2.2.2 i (nW s2.1 v)) ++ gX cL (fun i => a (50 + i)) s3)) rfl ?_
          refine v_lload (j := 0) (x := s2.2.2 i) G dX8_write_87 rfl ?_
          exact v_lret G (fd, s0, s1, (s2.1, s2.2.1, uL s2.2.2 i (nW s2.1 v)), s3) (by first | exact Or.inr (Or.inr (Or.inr (Or.inr (Or.inr (Or.inr (Or.inr (Or.inl ⟨(by omega), (by first | rfl | exact congrArg jI (by omega)), rfl, rfl, rfl, rfl, rfl⟩))))))) | exact Or.inr (Or.inr (Or.inr (Or.inr (Or.inr (Or.inr (Or.inr (Or.inr (Or.inl ⟨(by omega), (by first | rfl | exact congrArg jI (by omega)), rfl, rfl, rfl, rfl, rfl⟩)))))))) | exact Or.inr (Or.inr (Or.inr (Or.inr (Or.inr (Or.inr (Or.inr (Or.inr (Or.inr (Or.inl ⟨(by omega), (by first | rfl | exact congrArg jI (by omega)), rfl, rfl, rfl, rfl, rfl⟩)))))))))) rfl dX8_write_89
        · skip
          refine v_aload_n (j := 0) (x := a 0) G dX8_write_55 rfl rfl ?_
          refine v_ldc (z := (-1000000001)) G q_5 (by decide) dX8_write_56 ?_
          refine v_ciG (w2 := (fun _ => (gS  a ks ++ gF cI a (uI fd 0 (fd 0 + 1)) ++ gH cS a  ++ gX cL (fun i => a (44 + i)) s0 ++ gX cL (fun i => a (46 + i)) s1 ++ gX cL (fun i => a (48 + i)) s2 ++ gX cL (fun i => a (50 + i)) s3))) G [gS  a ks, gF cI a fd, gH cS a , gX cL (fun i => a (44 + i)) s0, gX cL (fun i => a (46 + i)) s1, gX cL (fun i => a (48 + i)) s2, gX cL (fun i => a (50 + i)) s3] [gS  a ks, gF cI a fd] [gH cS a , gX cL (fun i => a (44 + i)) s0, gX cL (fun i => a (46 + i)) s1, gX cL (fun i => a (48 + i)) s2, gX cL (fun i => a (50 + i)) s3] (fun _ => [gS  a ks, gF cI a (uI fd 0 (fd 0 + 1)), gH cS a , gX cL (fun i => a (44 + i)) s0, gX cL (fun i => a (46 + i)) s1, gX cL (fun i => a (48 + i)) s2, gX cL (fun i => a (50 + i)) s3]) (fun _ => [gS  a ks, gF cI a (uI fd 0 (fd 0 + 1))]) [0, 0] (rn_V (As := [.int (jI (-1000000001))]) (rest := []) (q0 := 0) G (c_X8_found_0 (ks := ks) (fd := fd) (a := a) ) gX8_write_X8_found rfl hdX8_found ⟨rfl, rfl, Nat.le_of_ble_eq_true rfl, Nat.le_of_ble_eq_true rfl⟩ rfl rfl (Nat.le_of_ble_eq_true rfl) ⟨Nat.zero_le _, Nat.zero_le _⟩ rfl rfl dX8_write_58) rfl rfl rfl (fun _ => rfl) (fun _ => rfl) (fun _ => rfl) (fun r_50 u_52 e_51 => ?_)
          have e_51 : r_50 = jI (-1000000001) := e_51
          subst e_51
          refine v_world (ws' := (gS  a ks ++ gF cI a (uI fd 0 (fd 0 + 1)) ++ gH cS a  ++ gX cL (fun i => a (44 + i)) s0 ++ gX cL (fun i => a (46 + i)) s1 ++ gX cL (fun i => a (48 + i)) s2 ++ gX cL (fun i => a (50 + i)) s3)) rfl ?_
          refine v_i2l (v := jL (-1000000001)) G dX8_write_61 (jI_i2l (by omega)) ?_
          exact v_lret G (uI fd 0 (fd 0 + 1), s0, s1, s2, s3) (by first | exact Or.inr (Or.inr (Or.inr (Or.inr (Or.inr (Or.inr (Or.inr (Or.inl ⟨(by omega), (by first | rfl | exact congrArg jI (by omega)), rfl, rfl, rfl, rfl, rfl⟩))))))) | exact Or.inr (Or.inr (Or.inr (Or.inr (Or.inr (Or.inr (Or.inr (Or.inr (Or.inl ⟨(by omega), (by first | rfl | exact congrArg jI (by omega)), rfl, rfl, rfl, rfl, rfl⟩)))))))) | exact Or.inr (Or.inr (Or.inr (Or.inr (Or.inr (Or.inr (Or.inr (Or.inr (Or.inr (Or.inl ⟨(by omega), (by first | rfl | exact congrArg jI (by omega)), rfl, rfl, rfl, rfl, rfl⟩)))))))))) rfl dX8_write_62
      · skip
        refine v_aload_n (j := 0) (x := a 0) G dX8_write_27 rfl rfl ?_
        refine v_ldcw (z := (-1000000006)) G q_6 (by decide) dX8_write_28 ?_
        refine v_ciG (w2 := (fun _ => (gS  a ks ++ gF cI a (uI fd 5 (fd 5 + 1)) ++ gH cS a  ++ gX cL (fun i => a (44 + i)) s0 ++ gX cL (fun i => a (46 + i)) s1 ++ gX cL (fun i => a (48 + i)) s2 ++ gX cL (fun i => a (50 + i)) s3))) G [gS  a ks, gF cI a fd, gH cS a , gX cL (fun i => a (44 + i)) s0, gX cL (fun i => a (46 + i)) s1, gX cL (fun i => a (48 + i)) s2, gX cL (fun i => a (50 + i)) s3] [gS  a ks, gF cI a fd] [gH cS a , gX cL (fun i => a (44 + i)) s0, gX cL (fun i => a (46 + i)) s1, gX cL (fun i => a (48 + i)) s2, gX cL (fun i => a (50 + i)) s3] (fun _ => [gS  a ks, gF cI a (uI fd 5 (fd 5 + 1)), gH cS a , gX cL (fun i => a (44 + i)) s0, gX cL (fun i => a (46 + i)) s1, gX cL (fun i => a (48 + i)) s2, gX cL (fun i => a (50 + i)) s3]) (fun _ => [gS  a ks, gF cI a (uI fd 5 (fd 5 + 1))]) [0, 0] (rn_V (As := [.int (jI (-1000000006))]) (rest := []) (q0 := 0) G (c_X8_found_5 (ks := ks) (fd := fd) (a := a) ) gX8_write_X8_found rfl hdX8_found ⟨rfl, rfl, Nat.le_of_ble_eq_true rfl, Nat.le_of_ble_eq_true rfl⟩ rfl rfl (Nat.le_of_ble_eq_true rfl) ⟨Nat.zero_le _, Nat.zero_le _⟩ rfl rfl dX8_write_31) rfl rfl rfl (fun _ => rfl) (fun _ => rfl) (fun _ => rfl) (fun r_53 u_55 e_54 => ?_)
        have e_54 : r_53 = jI (-1000000006) := e_54
        subst e_54
        refine v_world (ws' := (gS  a ks ++ gF cI a (uI fd 5 (fd 5 + 1)) ++ gH cS a  ++ gX cL (fun i => a (44 + i)) s0 ++ gX cL (fun i => a (46 + i)) s1 ++ gX cL (fun i => a (48 + i)) s2 ++ gX cL (fun i => a (50 + i)) s3)) rfl ?_
        refine v_i2l (v := jL (-1000000006)) G dX8_write_34 (jI_i2l (by omega)) ?_
        exact v_lret G (uI fd 5 (fd 5 + 1), s0, s1, s2, s3) (by first | exact Or.inr (Or.inr (Or.inr (Or.inr (Or.inr (Or.inr (Or.inr (Or.inl ⟨(by omega), (by first | rfl | exact congrArg jI (by omega)), rfl, rfl, rfl, rfl, rfl⟩))))))) | exact Or.inr (Or.inr (Or.inr (Or.inr (Or.inr (Or.inr (Or.inr (Or.inr (Or.inl ⟨(by omega), (by first | rfl | exact congrArg jI (by omega)), rfl, rfl, rfl, rfl, rfl⟩)))))))) | exact Or.inr (Or.inr (Or.inr (Or.inr (Or.inr (Or.inr (Or.inr (Or.inr (Or.inr (Or.inl ⟨(by omega), (by first | rfl | exact congrArg jI (by omega)), rfl, rfl, rfl, rfl, rfl⟩)))))))))) rfl dX8_write_35
    · skip
      refine v_aload_n (j := 0) (x := a 0) G dX8_write_15 rfl rfl ?_
      refine v_get (q0 := 0) (k := 7) (v := .ref (a 43)) G k_X8 rfl rfl (by decide) q_1 rfl rfl dX8_write_16 ?_
      refine v_iload_n (j := 1) (x := jI 3) G dX8_write_19 rfl rfl ?_
      refine v_aald (q0 := 2) (t0 := 3) (y := a 50) (z := 3) G rfl rfl (by omega) rfl dX8_write_20 ?_
      refine v_ciG (w2 := (fun _ => (gS  a ks ++ gF cI a fd ++ gH cS a  ++ gX cL (fun i => a (44 + i)) s0 ++ gX cL (fun i => a (46 + i)) s1 ++ gX cL (fun i => a (48 + i)) s2 ++ gX cL (fun i => a (50 + i)) s3))) G [gS  a ks, gF cI a fd, gH cS a , gX cL (fun i => a (44 + i)) s0, gX cL (fun i => a (46 + i)) s1, gX cL (fun i => a (48 + i)) s2, gX cL (fun i => a (50 + i)) s3] [gX cL (fun i => a (50 + i)) s3] [gS  a ks, gF cI a fd, gH cS a , gX cL (fun i => a (44 + i)) s0, gX cL (fun i => a (46 + i)) s1, gX cL (fun i => a (48 + i)) s2] (fun _ => [gS  a ks, gF cI a fd, gH cS a , gX cL (fun i => a (44 + i)) s0, gX cL (fun i => a (46 + i)) s1, gX cL (fun i => a (48 + i)) s2, gX cL (fun i => a (50 + i)) s3]) (fun _ => [gX cL (fun i => a (50 + i)) s3]) [6] (rn_V (As := []) (rest := []) (q0 := 0) G (c_X3_isMissing (sx := s3) (b := fun i => a (50 + i)) (hx := hx3)) gX8_write_X3_isMissing rfl hdX3_isMissing ⟨rfl, rfl, Nat.le_of_ble_eq_true rfl, Nat.le_of_ble_eq_true rfl⟩ rfl rfl (Nat.le_of_ble_eq_true rfl) ⟨Nat.zero_le _, Nat.zero_le _⟩ rfl rfl dX8_write_21) rfl rfl rfl (fun _ => rfl) (fun _ => rfl) (fun _ => rfl) (fun r_56 u_58 e_57 => ?_)
      have e_57 : r_56 = jI (b2 (s3.1 = 0)) := e_57
      subst e_57
      refine v_world (ws' := (gS  a ks ++ gF cI a fd ++ gH cS a  ++ gX cL (fun i => a (44 + i)) s0 ++ gX cL (fun i => a (46 + i)) s1 ++ gX cL (fun i => a (48 + i)) s2 ++ gX cL (fun i => a (50 + i)) s3)) rfl ?_
      refine v_ifb_eq (P := s3.1 = 0) (tgt := 36) G dX8_write_24 (by decide) (fun c_59 => ?_) (fun c_59 => ?_)
      · skip
        refine v_iload_n (j := 2) (x := jI i) G dX8_write_36 rfl rfl ?_
        refine v_iconst G dX8_write_37 ?_
        refine v_aload_n (j := 0) (x := a 0) G dX8_write_38 rfl rfl ?_
        refine v_get (q0 := 0) (k := 7) (v := .ref (a 43)) G k_X8 rfl rfl (by decide) q_1 rfl rfl dX8_write_39 ?_
        refine v_iload_n (j := 1) (x := jI 3) G dX8_write_42 rfl rfl ?_
        refine v_aald (q0 := 2) (t0 := 3) (y := a 50) (z := 3) G rfl rfl (by omega) rfl dX8_write_43 ?_
        refine v_get (q0 := 9) (k := 1) (v := .int (jI s3.2.1)) G k_X3 rfl rfl (by decide) q_3 rfl rfl dX8_write_44 ?_
        refine v_iconst G dX8_write_47 ?_
        refine v_isub (z := s3.2.1 - 1) G dX8_write_48 rfl ?_
        refine v_ciN G (rn_S (As := [.int (jI i), .int (jI 0), .int (jI (s3.2.1 - 1))]) (rest := []) G (c_X8_within (v := i) (lo := 0) (hi := s3.2.1 - 1) (hr := (by omega))) gX8_write_X8_within rfl hdX8_within ⟨rfl, rfl, Nat.le_of_ble_eq_true rfl, Nat.le_of_ble_eq_true rfl⟩ rfl rfl (Nat.le_of_ble_eq_true rfl) ⟨Nat.zero_le _, Nat.zero_le _⟩ dX8_write_49) (fun r_60 u_62 e_61 => ?_)
        have e_61 : r_60 = jI (b2 ((0 : Int) ≤ i ∧ i ≤ ((s3.2.1 - 1) : Int))) := e_61
        subst e_61
        refine v_ifb_ne (P := (0 : Int) ≤ i ∧ i ≤ ((s3.2.1 - 1) : Int)) (tgt := 63) G dX8_write_52 (by decide) (fun c_63 => ?_) (fun c_63 => ?_)
        · skip
          refine v_aload_n (j := 0) (x := a 0) G dX8_write_63 rfl rfl ?_
          refine v_get (q0 := 0) (k := 7) (v := .ref (a 43)) G k_X8 rfl rfl (by decide) q_1 rfl rfl dX8_write_64 ?_
          refine v_iload_n (j := 1) (x := jI 3) G dX8_write_67 rfl rfl ?_
          refine v_aald (q0 := 2) (t0 := 3) (y := a 50) (z := 3) G rfl rfl (by omega) rfl dX8_write_68 ?_
          refine v_get (q0 := 9) (k := 2) (v := .ref (a 51)) G k_X3 rfl rfl (by decide) q_4 rfl rfl dX8_write_69 ?_
          refine v_iload_n (j := 2) (x := jI i) G dX8_write_72 rfl rfl ?_
          refine v_lald (q0 := 10) (t0 := 1) (g := s3.2.2) (z := i) G rfl rfl (by omega) dX8_write_73 ?_
          refine v_lstore (lv' := [(5, .long (s3.2.2 i)), (0, .ref (a 0)), (1, .int (jI 3)), (2, .int (jI i)), (3, .long v)]) G dX8_write_74 (by decide) rfl ?_
          refine v_aload_n (j := 1) (x := a 0) G dX8_write_76 rfl rfl ?_
          refine v_get (q0 := 0) (k := 7) (v := .ref (a 43)) G k_X8 rfl rfl (by decide) q_1 rfl rfl dX8_write_77 ?_
          refine v_iload_n (j := 2) (x := jI 3) G dX8_write_80 rfl rfl ?_
          refine v_aald (q0 := 2) (t0 := 3) (y := a 50) (z := 3) G rfl rfl (by omega) rfl dX8_write_81 ?_
          refine v_iload_n (j := 3) (x := jI i) G dX8_write_82 rfl rfl ?_
          refine v_lload_n (j := 4) (x := v) G dX8_write_83 rfl rfl ?_
          refine v_cvG (w2 := (fun _ => (gS  a ks ++ gF cI a fd ++ gH cS a  ++ gX cL (fun i => a (44 + i)) s0 ++ gX cL (fun i => a (46 + i)) s1 ++ gX cL (fun i => a (48 + i)) s2 ++ gX cL (fun i => a (50 + i)) (s3.1, s3.2.1, uL s3.2.2 i (nW s3.1 v))))) G [gS  a ks, gF cI a fd, gH cS a , gX cL (fun i => a (44 + i)) s0, gX cL (fun i => a (46 + i)) s1, gX cL (fun i => a (48 + i)) s2, gX cL (fun i => a (50 + i)) s3] [gX cL (fun i => a (50 + i)) s3] [gS  a ks, gF cI a fd, gH cS a , gX cL (fun i => a (44 + i)) s0, gX cL (fun i => a (46 + i)) s1, gX cL (fun i => a (48 + i)) s2] (fun _ => [gS  a ks, gF cI a fd, gH cS a , gX cL (fun i => a (44 + i)) s0, gX cL (fun i => a (46 + i)) s1, gX cL (fun i => a (48 + i)) s2, gX cL (fun i => a (50 + i)) (s3.1, s3.2.1, uL s3.2.2 i (nW s3.1 v))]) (fun _ => [gX cL (fun i => a (50 + i)) (s3.1, s3.2.1, uL s3.2.2 i (nW s3.1 v))]) [6] (rn_V (As := [.int (jI i), .long v]) (rest := []) (q0 := 0) G (c_X3_put (i := i) (v := v) (sx := s3) (b := fun i => a (50 + i)) (hx := hx3) (hi := (by omega))) gX8_write_X3_put rfl hdX3_put ⟨rfl, rfl, Nat.le_of_ble_eq_true rfl, Nat.le_of_ble_eq_true rfl⟩ rfl rfl (Nat.le_of_ble_eq_true rfl) ⟨Nat.zero_le _, Nat.zero_le _⟩ rfl rfl dX8_write_84) rfl rfl rfl (fun _ => rfl) (fun _ => rfl) (fun _ => rfl) (fun u_66 e_65 => ?_)
          refine v_world (ws' := (gS  a ks ++ gF cI a fd ++ gH cS a  ++ gX cL (fun i => a (44 + i)) s0 ++ gX cL (fun i => a (46 + i)) s1 ++ gX cL (fun i => a (48 + i)) s2 ++ gX cL (fun i => a (50 + i)) (s3.1, s3.2.1, uL s3.2.2 i (nW s3.1 v)))) rfl ?_
          refine v_lload (j := 0) (x := s3.2.2 i) G dX8_write_87 rfl ?_
          exact v_lret G (fd, s0, s1, s2, (s3.1, s3.2.1, uL s3.2.2 i (nW s3.1 v))) (by first | exact Or.inr (Or.inr (Or.inr (Or.inr (Or.inr (Or.inr (Or.inr (Or.inr (Or.inr (Or.inr (Or.inl ⟨(by omega), (by first | rfl | exact congrArg jI (by omega)), rfl, rfl, rfl, rfl, rfl⟩)))))))))) | exact Or.inr (Or.inr (Or.inr (Or.inr (Or.inr (Or.inr (Or.inr (Or.inr (Or.inr (Or.inr (Or.inr (Or.inl ⟨(by omega), (by first | rfl | exact congrArg jI (by omega)), rfl, rfl, rfl, rfl, rfl⟩))))))))))) | exact Or.inr (Or.inr (Or.inr (Or.inr (Or.inr (Or.inr (Or.inr (Or.inr (Or.inr (Or.inr (Or.inr (Or.inr (⟨(by omega), (by first | rfl | exact congrArg jI (by omega)), rfl, rfl, rfl, rfl, rfl⟩))))))))))))) rfl dX8_write_89
        · skip
          refine v_aload_n (j := 0) (x := a 0) G dX8_write_55 rfl rfl ?_
          refine v_ldc (z := (-1000000001)) G q_5 (by decide) dX8_write_56 ?_
          refine v_ciG (w2 := (fun _ => (gS  a ks ++ gF cI a (uI fd 0 (fd 0 + 1)) ++ gH cS a  ++ gX cL (fun i => a (44 + i)) s0 ++ gX cL (fun i => a (46 + i)) s1 ++ gX cL (fun i => a (48 + i)) s2 ++ gX cL (fun i => a (50 + i)) s3))) G [gS  a ks, gF cI a fd, gH cS a , gX cL (fun i => a (44 + i)) s0, gX cL (fun i => a (46 + i)) s1, gX cL (fun i => a (48 + i)) s2, gX cL (fun i => a (50 + i)) s3] [gS  a ks, gF cI a fd] [gH cS a , gX cL (fun i => a (44 + i)) s0, gX cL (fun i => a (46 + i)) s1, gX cL (fun i => a (48 + i)) s2, gX cL (fun i => a (50 + i)) s3] (fun _ => [gS  a ks, gF cI a (uI fd 0 (fd 0 + 1)), gH cS a , gX cL (fun i => a (44 + i)) s0, gX cL (fun i => a (46 + i)) s1, gX cL (fun i => a (48 + i)) s2, gX cL (fun i => a (50 + i)) s3]) (fun _ => [gS  a ks, gF cI a (uI fd 0 (fd 0 + 1))]) [0, 0] (rn_V (As := [.int (jI (-1000000001))]) (rest := []) (q0 := 0) G (c_X8_found_0 (ks := ks) (fd := fd) (a := a) ) gX8_write_X8_found rfl hdX8_found ⟨rfl, rfl, Nat.le_of_ble_eq_true rfl, Nat.le_of_ble_eq_true rfl⟩ rfl rfl (Nat.le_of_ble_eq_true rfl) ⟨Nat.zero_le _, Nat.zero_le _⟩ rfl rfl dX8_write_58) rfl rfl rfl (fun _ => rfl) (fun _ => rfl) (fun _ => rfl) (fun r_67 u_69 e_68 => ?_)
          have e_68 : r_67 = jI (-1000000001) := e_68
          subst e_68
          refine v_world (ws' := (gS  a ks ++ gF cI a (uI fd 0 (fd 0 + 1)) ++ gH cS a  ++ gX cL (fun i => a (44 + i)) s0 ++ gX cL (fun i => a (46 + i)) s1 ++ gX cL (fun i => a (48 + i)) s2 ++ gX cL (fun i => a (50 + i)) s3)) rfl ?_
          refine v_i2l (v := jL (-1000000001)) G dX8_write_61 (jI_i2l (by omega)) ?_
          exact v_lret G (uI fd 0 (fd 0 + 1), s0, s1, s2, s3) (by first | exact Or.inr (Or.inr (Or.inr (Or.inr (Or.inr (Or.inr (Or.inr (Or.inr (Or.inr (Or.inr (Or.inl ⟨(by omega), (by first | rfl | exact congrArg jI (by omega)), rfl, rfl, rfl, rfl, rfl⟩)))))))))) | exact Or.inr (Or.inr (Or.inr (Or.inr (Or.inr (Or.inr (Or.inr (Or.inr (Or.inr (Or.inr (Or.inr (Or.inl ⟨(by omega), (by first | rfl | exact congrArg jI (by omega)), rfl, rfl, rfl, rfl, rfl⟩))))))))))) | exact Or.inr (Or.inr (Or.inr (Or.inr (Or.inr (Or.inr (Or.inr (Or.inr (Or.inr (Or.inr (Or.inr (Or.inr (⟨(by omega), (by first | rfl | exact congrArg jI (by omega)), rfl, rfl, rfl, rfl, rfl⟩))))))))))))) rfl dX8_write_62
      · skip
        refine v_aload_n (j := 0) (x := a 0) G dX8_write_27 rfl rfl ?_
        refine v_ldcw (z := (-1000000006)) G q_6 (by decide) dX8_write_28 ?_
        refine v_ciG (w2 := (fun _ => (gS  a ks ++ gF cI a (uI fd 5 (fd 5 + 1)) ++ gH cS a  ++ gX cL (fun i => a (44 + i)) s0 ++ gX cL (fun i => a (46 + i)) s1 ++ gX cL (fun i => a (48 + i)) s2 ++ gX cL (fun i => a (50 + i)) s3))) G [gS  a ks, gF cI a fd, gH cS a , gX cL (fun i => a (44 + i)) s0, gX cL (fun i => a (46 + i)) s1, gX cL (fun i => a (48 + i)) s2, gX cL (fun i => a (50 + i)) s3] [gS  a ks, gF cI a fd] [gH cS a , gX cL (fun i => a (44 + i)) s0, gX cL (fun i => a (46 + i)) s1, gX cL (fun i => a (48 + i)) s2, gX cL (fun i => a (50 + i)) s3] (fun _ => [gS  a ks, gF cI a (uI fd 5 (fd 5 + 1)), gH cS a , gX cL (fun i => a (44 + i)) s0, gX cL (fun i => a (46 + i)) s1, gX cL (fun i => a (48 + i)) s2, gX cL (fun i => a (50 + i)) s3]) (fun _ => [gS  a ks, gF cI a (uI fd 5 (fd 5 + 1))]) [0, 0] (rn_V (As := [.int (jI (-1000000006))]) (rest := []) (q0 := 0) G (c_X8_found_5 (ks := ks) (fd := fd) (a := a) ) gX8_write_X8_found rfl hdX8_found ⟨rfl, rfl, Nat.le_of_ble_eq_true rfl, Nat.le_of_ble_eq_true rfl⟩ rfl rfl (Nat.le_of_ble_eq_true rfl) ⟨Nat.zero_le _, Nat.zero_le _⟩ rfl rfl dX8_write_31) rfl rfl rfl (fun _ => rfl) (fun _ => rfl) (fun _ => rfl) (fun r_70 u_72 e_71 => ?_)
        have e_71 : r_70 = jI (-1000000006) := e_71
        subst e_71
        refine v_world (ws' := (gS  a ks ++ gF cI a (uI fd 5 (fd 5 + 1)) ++ gH cS a  ++ gX cL (fun i => a (44 + i)) s0 ++ gX cL (fun i => a (46 + i)) s1 ++ gX cL (fun i => a (48 + i)) s2 ++ gX cL (fun i => a (50 + i)) s3)) rfl ?_
        refine v_i2l (v := jL (-1000000006)) G dX8_write_34 (jI_i2l (by omega)) ?_
        exact v_lret G (uI fd 5 (fd 5 + 1), s0, s1, s2, s3) (by first | exact Or.inr (Or.inr (Or.inr (Or.inr (Or.inr (Or.inr (Or.inr (Or.inr (Or.inr (Or.inr (Or.inl ⟨(by omega), (by first | rfl | exact congrArg jI (by omega)), rfl, rfl, rfl, rfl, rfl⟩)))))))))) | exact Or.inr (Or.inr (Or.inr (Or.inr (Or.inr (Or.inr (Or.inr (Or.inr (Or.inr (Or.inr (Or.inr (Or.inl ⟨(by omega), (by first | rfl | exact congrArg jI (by omega)), rfl, rfl, rfl, rfl, rfl⟩))))))))))) | exact Or.inr (Or.inr (Or.inr (Or.inr (Or.inr (Or.inr (Or.inr (Or.inr (Or.inr (Or.inr (Or.inr (Or.inr (⟨(by omega), (by first | rfl | exact congrArg jI (by omega)), rfl, rfl, rfl, rfl, rfl⟩))))))))))))) rfl dX8_write_35
  · skip
    refine v_aload_n (j := 0) (x := a 0) G dX8_write_7 rfl rfl ?_
    refine v_ldc (z := (-1000000001)) G q_5 (by decide) dX8_write_8 ?_
    refine v_ciG (w2 := (fun _ => (gS  a ks ++ gF cI a (uI fd 0 (fd 0 + 1)) ++ gH cS a  ++ gX cL (fun i => a (44 + i)) s0 ++ gX cL (fun i => a (46 + i)) s1 ++ gX cL (fun i => a (48 + i)) s2 ++ gX cL (fun i => a (50 + i)) s3))) G [gS  a ks, gF cI a fd, gH cS a , gX cL (fun i => a (44 + i)) s0, gX cL (fun i => a (46 + i)) s1, gX cL (fun i => a (48 + i)) s2, gX cL (fun i => a (50 + i)) s3] [gS  a ks, gF cI a fd] [gH cS a , gX cL (fun i => a (44 + i)) s0, gX cL (fun i => a (46 + i)) s1, gX cL (fun i => a (48 + i)) s2, gX cL (fun i => a (50 + i)) s3] (fun _ => [gS  a ks, gF cI a (uI fd 0 (fd 0 + 1)), gH cS a , gX cL (fun i => a (44 + i)) s0, gX cL (fun i => a (46 + i)) s1, gX cL (fun i => a (48 + i)) s2, gX cL (fun i => a (50 + i)) s3]) (fun _ => [gS  a ks, gF cI a (uI fd 0 (fd 0 + 1))]) [0, 0] (rn_V (As := [.int (jI (-1000000001))]) (rest := []) (q0 := 0) G (c_X8_found_0 (ks := ks) (fd := fd) (a := a) ) gX8_write_X8_found rfl hdX8_found ⟨rfl, rfl, Nat.le_of_ble_eq_true rfl, Nat.le_of_ble_eq_true rfl⟩ rfl rfl (Nat.le_of_ble_eq_true rfl) ⟨Nat.zero_le _, Nat.zero_le _⟩ rfl rfl dX8_write_10) rfl rfl rfl (fun _ => rfl) (fun _ => rfl) (fun _ => rfl) (fun r_73 u_75 e_74 => ?_)
    have e_74 : r_73 = jI (-1000000001) := e_74
    subst e_74
    refine v_world (ws' := (gS  a ks ++ gF cI a (uI fd 0 (fd 0 + 1)) ++ gH cS a  ++ gX cL (fun i => a (44 + i)) s0 ++ gX cL (fun i => a (46 + i)) s1 ++ gX cL (fun i => a (48 + i)) s2 ++ gX cL (fun i => a (50 + i)) s3)) rfl ?_
    refine v_i2l (v := jL (-1000000001)) G dX8_write_13 (jI_i2l (by omega)) ?_
    exact v_lret G (uI fd 0 (fd 0 + 1), s0, s1, s2, s3) (by first | exact Or.inl ⟨(by omega), (by first | rfl | exact congrArg jI (by omega)), rfl, rfl, rfl, rfl, rfl⟩) rfl dX8_write_14
end

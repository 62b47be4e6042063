def phW (x : WT) (n : Int) (i j p : Nat) : WT := (x.1, cpN (boF x n) x.2.1 p, x.2.2.1, x.2.2.2.1, cpN (stF x n) x.2.2.2.2.1 i, x.2.2.2.2.2.1, x.2.2.2.2.2.2.1, cpN (faF x n) x.2.2.2.2.2.2.2.1 j, x.2.2.2.2.2.2.2.2.1, x.2.2.2.2.2.2.2.2.2.1, x.2.2.2.2.2.2.2.2.2.2.1, x.2.2.2.2.2.2.2.2.2.2.2)
theorem phX_w {x : WT} (h : Wc x) {n : Int} (hn : 0 ≤ n) (i j p : Nat) : Wc (phW x n i j p) := by
  obtain ⟨h0, h1, h2, h3, h4, h5⟩ := h
  refine ⟨h0, h1, h2, fun q q0 q1 => ?_, fun b b0 b1 => ?_, h5⟩
  · have a := h3 q q0 q1
    have z := jmax_z 0 (x.2.1 q - n)
    show 0 ≤ cpN (boF x n) x.2.1 p q ∧ cpN (boF x n) x.2.1 p q ≤ 99
    have e : boF x n q = jmax 0 (x.2.1 q - n) := rfl
    unfold cpN
    split <;> omega
  · have a := h4 b b0 b1
    have z := jmin_z 999 (x.2.2.2.2.2.2.2.1 b + n)
    have s := cSt_r (a := x.2.2.2.2.1 b) (g := x.2.2.2.2.2.1 b) hn (by omega) (by omega)
    have e1 : stF x n b = cSt (x.2.2.2.2.1 b) (x.2.2.2.2.2.1 b) n := rfl
    have e2 : faF x n b = jmin 999 (x.2.2.2.2.2.2.2.1 b + n) := rfl
    refine ⟨a.1, ?_, a.2.2.1, a.2.2.2.1, ?_⟩
    · show 0 ≤ cpN (stF x n) x.2.2.2.2.1 i b ∧ cpN (stF x n) x.2.2.2.2.1 i b ≤ 15
      unfold cpN
      split <;> omega
    · show 0 ≤ cpN (faF x n) x.2.2.2.2.2.2.2.1 j b ∧ cpN (faF x n) x.2.2.2.2.2.2.2.1 j b ≤ 999
      unfold cpN
      split <;> omega
theorem cpN_0 (f g : Int → Int) : ∀ j : Int, 0 ≤ j → cpN f g 0 j = g j := fun j h => if_neg (by omega)
theorem phW_w {x : WT} (h : Wc x) {n : Int} (hn : 0 ≤ n) (i j p : Nat) (_ : i ≤ 10) (_ : j ≤ 10) (_ : p ≤ 16) : Wc (x.1, x.2.1, x.2.2.1, x.2.2.2.1, cpN (stF x n) x.2.2.2.2.1 i, x.2.2.2.2.2.1, x.2.2.2.2.2.2.1, cpN (faF x n) x.2.2.2.2.2.2.2.1 j, x.2.2.2.2.2.2.2.2.1, x.2.2.2.2.2.2.2.2.2.1, x.2.2.2.2.2.2.2.2.2.2.1, x.2.2.2.2.2.2.2.2.2.2.2) := by
  obtain ⟨q0, q1, q2, q3, q4, q5⟩ := phX_w h hn i j 0
  exact ⟨q0, q1, q2, h.2.2.2.1, q4, q5⟩
theorem phV_w {x : WT} (h : Wc x) {n : Int} (hn : 0 ≤ n) (p : Nat) (_ : p ≤ 16) : Wc (x.1, cpN (boF x n) x.2.1 p, x.2.2.1, x.2.2.2.1, cpN (stF x n) x.2.2.2.2.1 x.2.2.1.toNat, x.2.2.2.2.2.1, x.2.2.2.2.2.2.1, cpN (faF x n) x.2.2.2.2.2.2.2.1 x.2.2.1.toNat, x.2.2.2.2.2.2.2.2.1, x.2.2.2.2.2.2.2.2.2.1, x.2.2.2.2.2.2.2.2.2.2.1, x.2.2.2.2.2.2.2.2.2.2.2) := phX_w h hn _ _ p
def bcF (x : Int32) : Int32 :=
  let us (a b : Int32) : Int32 := (a.toUInt32 >>> (b.toUInt32 &&& Int32.toUInt32 31)).toInt32
  let x1 := x - (us x (jI 1) &&& jI 1431655765)
  let x2 := (x1 &&& jI 858993459) + (us x1 (jI 2) &&& jI 858993459)
  let x3 := (x2 + us x2 (jI 4)) &&& jI 252645135
  let x4 := x3 + us x3 (jI 8)
  let x5 := x4 + us x4 (jI 16)
  x5 &&& jI 63
/-- what is done -/
def cDn (x : WT) (t : Int) : Prop := (0 ≤ x.2.2.2.2.2.2.2.2.2.2.1 t - x.1 ∧ x.2.2.2.2.2.2.2.2.2.2.1 t - x.1 ≤ 100) ∧ x.2.2.2.2.2.2.2.2.2.2.2 t ≤ cLt x (x.2.2.2.2.2.2.2.2.2.2.1 t - x.1) (x.2.2.2.2.2.2.2.2.2.1 t)
def woW (z : Int) (x : WT) : WT := (x.1, x.2.1, x.2.2.1, uI x.2.2.2.1 z (-1), x.2.2.2.2.1, x.2.2.2.2.2.1, x.2.2.2.2.2.2.1, x.2.2.2.2.2.2.2.1, x.2.2.2.2.2.2.2.2.1, x.2.2.2.2.2.2.2.2.2.1, x.2.2.2.2.2.2.2.2.2.2.1, x.2.2.2.2.2.2.2.2.2.2.2)
def chW (y s z : Int) (x : WT) : WT := if y = 0 then (x.1, uI x.2.1 z (jmin 99 (x.2.1 z + s)), x.2.2.1, x.2.2.2.1, x.2.2.2.2.1, x.2.2.2.2.2.1, x.2.2.2.2.2.2.1, x.2.2.2.2.2.2.2.1, x.2.2.2.2.2.2.2.2.1, x.2.2.2.2.2.2.2.2.2.1, x.2.2.2.2.2.2.2.2.2.2.1, x.2.2.2.2.2.2.2.2.2.2.2) else if y = 1 then (x.1, x.2.1, x.2.2.1, x.2.2.2.1, x.2.2.2.2.1, uI x.2.2.2.2.2.1 s z, x.2.2.2.2.2.2.1, x.2.2.2.2.2.2.2.1, x.2.2.2.2.2.2.2.2.1, x.2.2.2.2.2.2.2.2.2.1, x.2.2.2.2.2.2.2.2.2.2.1, x.2.2.2.2.2.2.2.2.2.2.2) else (x.1, x.2.1, x.2.2.1, uI x.2.2.2.1 s z, x.2.2.2.2.1, x.2.2.2.2.2.1, x.2.2.2.2.2.2.1, x.2.2.2.2.2.2.2.1, x.2.2.2.2.2.2.2.2.1, x.2.2.2.2.2.2.2.2.2.1, x.2.2.2.2.2.2.2.2.2.2.1, x.2.2.2.2.2.2.2.2.2.2.2)
theorem chW_nt (y s z : Int) (x : WT) : (chW y s z x).2.2.2.2.2.2.2.2.1 = x.2.2.2.2.2.2.2.2.1 := by
  unfold chW
  (repeat' split) <;> rfl
/-- how many of the first n -/
noncomputable def ctN (P : Int → Prop) : Nat → Int
  | 0 => 0
  | n + 1 => ctN P n + b2 (P (n : Int))
theorem ctN_r (P : Int → Prop) : ∀ n : Nat, 0 ≤ ctN P n ∧ ctN P n ≤ n := by
  intro n
  induction n with
  | zero => exact ⟨Int.le_refl 0, Int.le_refl 0⟩
  | succ n ih => have := b2_r (P (n : Int)); unfold ctN; omega
theorem ctN_r8 (P : Int → Prop) {n : Nat} (h : n ≤ 8) : 0 ≤ ctN P n ∧ ctN P n ≤ 8 := by have := ctN_r P n; omega
set_option maxRecDepth 100000 in
theorem bit_tab : ∀ n : Fin 10, ∀ m : Fin 512, m.val < 2 ^ n.val → (jI (m.val : Int) ||| (jI 1 <<< (jI (n.val : Int) &&& 31)) = jI ((m.val + 2 ^ n.val : Nat) : Int) ∧ bcF (jI ((m.val + 2 ^ n.val : Nat) : Int)) = bcF (jI (m.val : Int)) + jI 1) := by decide +kernel
theorem st_mask (P : Int → Prop) : ∀ n : Nat, n ≤ 10 → ∃ m : Nat, m < 2 ^ n ∧ stN P n = jI (m : Int) ∧ (n ≤ 9 → bcF (jI (m : Int)) = jI (ctN P n)) := by
  intro n
  induction n with
  | zero => intro _; exact ⟨0, by decide, rfl, fun _ => by show bcF (jI 0) = jI 0; decide⟩
  | succ n ih =>
    intro hn
    obtain ⟨m, h1, h2, h3⟩ := ih (by omega)
    have h512 : m < 512 := Nat.lt_of_lt_of_le h1 (Nat.pow_le_pow_right (n := 2) (i := n) (j := 9) (by omega) (by omega))
    obtain ⟨t1, t2⟩ := bit_tab ⟨n, by omega⟩ ⟨m, h512⟩ h1
    have e2 : 2 ^ (n + 1) = 2 ^ n + 2 ^ n := by rw [Nat.pow_succ]; omega
    rcases Classical.em (P (n : Int)) with q | q
    · refine ⟨m + 2 ^ n, by omega, ?_, fun h9 => ?_⟩
      · show stN P n ||| btI _ _ = _
        rw [h2, btI_t q]
        exact t1
      · show _ = jI (ctN P n + b2 _)
        rw [b2_t q, ← jI_add, ← h3 (by omega)]
        exact t2
    · refine ⟨m, by omega, ?_, fun h9 => ?_⟩
      · show stN P n ||| btI _ _ = _
        rw [h2, btI_f q, or_z]
      · show _ = jI (ctN P n + b2 _)
        rw [b2_f q, Int.add_zero]
        exact h3 (by omega)
theorem bc_st (P : Int → Prop) (n : Nat) (h : n ≤ 9) : bcF (stN P n) = jI (ctN P n) := by
  obtain ⟨m, -, h2, h3⟩ := st_mask P n (by omega)
  rw [h2]
  exact h3 h
section
variable {l : Launch} {D : va_G} {cI cL cB cS : ClassId} {a b c : Nat → Nat} {x o wd kw tw : WT} {g gl : GT} {fd li : Int → Int} {ks : Int}
set_option maxHeartbeats 4000000 in
set_option maxRecDepth 100000 in
theorem c_X7_passHours (n : Int) (hw : Wc x) (hn : 0 ≤ n ∧ n ≤ 100) : Cv l yX7_passHours wsX7_passHours { frames := 3, cells := 0, slots := 0, locals := 69 } D (jT cI cL cB cS) [.ref (b 0), .int (jI n)] (gW cI b x) (S := Unit) (fun _ => (gW cI b (x.1 + n, boF x n, x.2.2.1, x.2.2.2.1, cpN (stF x n) x.2.2.2.2.1 x.2.2.1.toNat, x.2.2.2.2.2.1, x.2.2.2.2.2.2.1, cpN (faF x n) x.2.2.2.2.2.2.2.1 x.2.2.1.toNat, x.2.2.2.2.2.2.2.2.1, x.2.2.2.2.2.2.2.2.2.1, x.2.2.2.2.2.2.2.2.2.2.1, x.2.2.2.2.2.2.2.2.2.2.2))) (fun _ => True) := by
  refine Cv.mk (cc := cX7_passHours) (maxL := 3) (by decide) rfl (Nat.le_of_ble_eq_true rfl) rfl ?_
  intro p_ e_ s_ m_ b_ me_ c_ A_ G hnm
  have hm := hw.many
  have k_X7 : ∀ w ∈ u_ws RX7 TX7 12, w ∈ wsX7_passHours := fun _ h => List.mem_cons_of_mem _ (List.mem_append_right _ h)
  have q_1 : Cond.fieldLink RX7 19 "SupperLight$World" "beings" "I" ∈ wsX7_passHours := List.mem_of_getElem? (i := 1) rfl
  have q_2 : Cond.fieldLink RX7 9 "SupperLight$World" "hour" "I" ∈ wsX7_passHours := List.mem_of_getElem? (i := 5) rfl
  have q_3 : Cond.fieldLink RX7 15 "SupperLight$World" "bowls" "[I" ∈ wsX7_passHours := List.mem_of_getElem? (i := 4) rfl
  have q_4 : Cond.fieldLink RX7 25 "SupperLight$World" "ats" "[I" ∈ wsX7_passHours := List.mem_of_getElem? (i := 2) rfl
  have q_5 : Cond.fieldLink RX7 34 "SupperLight$World" "fasts" "[I" ∈ wsX7_passHours := List.mem_of_getElem? (i := 3) rfl
  refine v_iconst G dX7_passHours_0 ?_
  refine v_istore_n (lv' := [(2, .int (jI 0)), (0, .ref (b 0)), (1, .int (jI n))]) G dX7_passHours_1 rfl (by decide) rfl ?_
  refine v_cell (q0 := 3) (g := x.2.2.2.2.1) (g' := cpN (stF x n) x.2.2.2.2.1 0) (ws' := (gW cI b (x.1, x.2.1, x.2.2.1, x.2.2.2.1, cpN (stF x n) x.2.2.2.2.1 0, x.2.2.2.2.2.1, x.2.2.2.2.2.2.1, x.2.2.2.2.2.2.2.1, x.2.2.2.2.2.2.2.2.1, x.2.2.2.2.2.2.2.2.2.1, x.2.2.2.2.2.2.2.2.2.2.1, x.2.2.2.2.2.2.2.2.2.2.2))) rfl (fun j h0 _ => by unfold cpN; rw [if_neg (by omega)]) rfl ?_
  refine v_cell (q0 := 6) (g := x.2.2.2.2.2.2.2.1) (g' := cpN (faF x n) x.2.2.2.2.2.2.2.1 0) (ws' := (gW cI b (x.1, x.2.1, x.2.2.1, x.2.2.2.1, cpN (stF x n) x.2.2.2.2.1 0, x.2.2.2.2.2.1, x.2.2.2.2.2.2.1, cpN (faF x n) x.2.2.2.2.2.2.2.1 0, x.2.2.2.2.2.2.2.2.1, x.2.2.2.2.2.2.2.2.2.1, x.2.2.2.2.2.2.2.2.2.2.1, x.2.2.2.2.2.2.2.2.2.2.2))) rfl (fun j h0 _ => by unfold cpN; rw [if_neg (by omega)]) rfl ?_
  refine v_locs (lv' := [(2, .int (jI 0)), (0, .ref (b 0)), (1, .int (jI n))]) [0, 1, 2] rfl ?_
  refine v_loop1 (fun (k : Nat) => [(2, .int (jI (k : Int))), (0, .ref (b 0)), (1, .int (jI n))]) (fun (k : Nat) => (gW cI b (x.1, x.2.1, x.2.2.1, x.2.2.2.1, cpN (stF x n) x.2.2.2.2.1 k, x.2.2.2.2.2.1, x.2.2.2.2.2.2.1, cpN (faF x n) x.2.2.2.2.2.2.2.1 k, x.2.2.2.2.2.2.2.2.1, x.2.2.2.2.2.2.2.2.2.1, x.2.2.2.2.2.2.2.2.2.2.1, x.2.2.2.2.2.2.2.2.2.2.2))) (fun (k : Nat) => (k : Int) ≤ x.2.2.1) (fun (k : Nat) => x.2.2.1.toNat - k) 0 (by omega) rfl rfl ?_
  intro k I_1 ih_2
  refine v_iload_n (j := 0) (x := jI (k : Int)) G dX7_passHours_2 rfl rfl ?_
  refine v_aload_n (j := 1) (x := b 0) G dX7_passHours_3 rfl rfl ?_
  refine v_get (q0 := 0) (k := 2) (v := .int (jI x.2.2.1)) G k_X7 rfl rfl (by decide) q_1 rfl rfl dX7_passHours_4 ?_
  refine v_icmp_ge (a := (k : Int)) (b := x.2.2.1) (tgt := 40) G dX7_passHours_7 (by decide) (by omega) (fun c_3 => ?_) (fun c_3 => ?_)
  · skip
    obtain rfl : k = x.2.2.1.toNat := by omega
    refine v_iconst G dX7_passHours_40 ?_
    refine v_istore_n (lv' := [(2, .int (jI 0)), (0, .ref (b 0)), (1, .int (jI n))]) G dX7_passHours_41 rfl (by decide) rfl ?_
    refine v_cell (q0 := 1) (g := x.2.1) (g' := cpN (boF x n) x.2.1 0) (ws' := (gW cI b (x.1, cpN (boF x n) x.2.1 0, x.2.2.1, x.2.2.2.1, cpN (stF x n) x.2.2.2.2.1 x.2.2.1.toNat, x.2.2.2.2.2.1, x.2.2.2.2.2.2.1, cpN (faF x n) x.2.2.2.2.2.2.2.1 x.2.2.1.toNat, x.2.2.2.2.2.2.2.2.1, x.2.2.2.2.2.2.2.2.2.1, x.2.2.2.2.2.2.2.2.2.2.1, x.2.2.2.2.2.2.2.2.2.2.2))) rfl (fun j h0 _ => by unfold cpN; rw [if_neg (by omega)]) rfl ?_
    refine v_locs (lv' := [(2, .int (jI 0)), (0, .ref (b 0)), (1, .int (jI n))]) [0, 1, 2] rfl ?_
    refine v_loop1 (fun (q : Nat) => [(2, .int (jI (q : Int))), (0, .ref (b 0)), (1, .int (jI n))]) (fun (q : Nat) => (gW cI b (x.1, cpN (boF x n) x.2.1 q, x.2.2.1, x.2.2.2.1, cpN (stF x n) x.2.2.2.2.1 x.2.2.1.toNat, x.2.2.2.2.2.1, x.2.2.2.2.2.2.1, cpN (faF x n) x.2.2.2.2.2.2.2.1 x.2.2.1.toNat, x.2.2.2.2.2.2.2.2.1, x.2.2.2.2.2.2.2.2.2.1, x.2.2.2.2.2.2.2.2.2.2.1, x.2.2.2.2.2.2.2.2.2.2.2))) (fun (q : Nat) => (q : Int) ≤ 16) (fun (q : Nat) => 16 - q) 0 (by decide) rfl rfl ?_
    intro q I_4 ih_5
    refine v_iload_n (j := 0) (x := jI (q : Int)) G dX7_passHours_42 rfl rfl ?_
    refine v_bipush G dX7_passHours_43 (by decide) ?_
    refine v_icmp_ge (a := (q : Int)) (b := 16) (tgt := 66) G dX7_passHours_45 (by decide) (by omega) (fun c_6 => ?_) (fun c_6 => ?_)
    · skip
      refine v_cell (q0 := 1) (g := cpN (boF x n) x.2.1 q) (g' := boF x n) (ws' := (gW cI b (x.1, boF x n, x.2.2.1, x.2.2.2.1, cpN (stF x n) x.2.2.2.2.1 x.2.2.1.toNat, x.2.2.2.2.2.1, x.2.2.2.2.2.2.1, cpN (faF x n) x.2.2.2.2.2.2.2.1 x.2.2.1.toNat, x.2.2.2.2.2.2.2.2.1, x.2.2.2.2.2.2.2.2.2.1, x.2.2.2.2.2.2.2.2.2.2.1, x.2.2.2.2.2.2.2.2.2.2.2))) rfl (fun j h0 _ => by unfold cpN; rw [if_pos (by omega)]) rfl ?_
      refine v_aload_n (j := 1) (x := b 0) G dX7_passHours_66 rfl rfl ?_
      refine v_dup G dX7_passHours_67 rfl ?_
      refine v_get (q0 := 0) (k := 0) (v := .int (jI x.1)) G k_X7 rfl rfl (by decide) q_2 rfl rfl dX7_passHours_68 ?_
      refine v_iload_n (j := 2) (x := jI n) G dX7_passHours_71 rfl rfl ?_
      refine v_iadd (z := x.1 + n) G dX7_passHours_72 rfl ?_
      refine v_put (q0 := 0) (k := 0) (ty := .int) (ws' := (gW cI b (x.1 + n, boF x n, x.2.2.1, x.2.2.2.1, cpN (stF x n) x.2.2.2.2.1 x.2.2.1.toNat, x.2.2.2.2.2.1, x.2.2.2.2.2.2.1, cpN (faF x n) x.2.2.2.2.2.2.2.1 x.2.2.1.toNat, x.2.2.2.2.2.2.2.2.1, x.2.2.2.2.2.2.2.2.2.1, x.2.2.2.2.2.2.2.2.2.2.1, x.2.2.2.2.2.2.2.2.2.2.2))) G k_X7 tyX7 tyX7_ok nmX7 rfl rfl (by decide) q_2 rfl rfl rfl rfl rfl (Nat.le_of_ble_eq_true rfl) rfl dX7_passHours_73 ?_
      exact v_vret G () trivial rfl dX7_passHours_76
    · skip
      refine v_aload_n (j := 1) (x := b 0) G dX7_passHours_48 rfl rfl ?_
      refine v_get (q0 := 0) (k := 1) (v := .ref (b 1)) G k_X7 rfl rfl (by decide) q_3 rfl rfl dX7_passHours_49 ?_
      refine v_iload_n (j := 0) (x := jI (q : Int)) G dX7_passHours_52 rfl rfl ?_
      refine v_aload_n (j := 1) (x := b 0) G dX7_passHours_53 rfl rfl ?_
      refine v_iload_n (j := 0) (x := jI (q : Int)) G dX7_passHours_54 rfl rfl ?_
      refine v_iload_n (j := 2) (x := jI n) G dX7_passHours_55 rfl rfl ?_
      refine v_ciF G (rn_V (As := [.int (jI (q : Int)), .int (jI n)]) (rest := [.int (jI (q : Int)), .ref (b 1)]) (q0 := 0) G (c_X7_bowlOn (p := (q : Int)) (n := n) (x := (x.1, cpN (boF x n) x.2.1 q, x.2.2.1, x.2.2.2.1, cpN (stF x n) x.2.2.2.2.1 x.2.2.1.toNat, x.2.2.2.2.2.1, x.2.2.2.2.2.2.1, cpN (faF x n) x.2.2.2.2.2.2.2.1 x.2.2.1.toNat, x.2.2.2.2.2.2.2.2.1, x.2.2.2.2.2.2.2.2.2.1, x.2.2.2.2.2.2.2.2.2.2.1, x.2.2.2.2.2.2.2.2.2.2.2)) (b := b) (hw := (phV_w hw hn.1 q (by omega))) (hp := (by omega))) gX7_passHours_X7_bowlOn rfl hdX7_bowlOn ⟨rfl, rfl, Nat.le_of_ble_eq_true rfl, Nat.le_of_ble_eq_true rfl⟩ rfl rfl (Nat.le_of_ble_eq_true rfl) ⟨Nat.zero_le _, Nat.zero_le _⟩ rfl rfl dX7_passHours_56) (fun r_7 u_9 e_8 => ?_)
      have e_8 : r_7 = jI (boF (x.1, cpN (boF x n) x.2.1 q, x.2.2.1, x.2.2.2.1, cpN (stF x n) x.2.2.2.2.1 x.2.2.1.toNat, x.2.2.2.2.2.1, x.2.2.2.2.2.2.1, cpN (faF x n) x.2.2.2.2.2.2.2.1 x.2.2.1.toNat, x.2.2.2.2.2.2.2.2.1, x.2.2.2.2.2.2.2.2.2.1, x.2.2.2.2.2.2.2.2.2.2.1, x.2.2.2.2.2.2.2.2.2.2.2) n (q : Int)) := e_8
      subst e_8
      refine v_world (ws' := (gW cI b (x.1, (cpN (boF x n) x.2.1 q), x.2.2.1, x.2.2.2.1, (cpN (stF x n) x.2.2.2.2.1 x.2.2.1.toNat), x.2.2.2.2.2.1, x.2.2.2.2.2.2.1, (cpN (faF x n) x.2.2.2.2.2.2.2.1 x.2.2.1.toNat), x.2.2.2.2.2.2.2.2.1, x.2.2.2.2.2.2.2.2.2.1, x.2.2.2.2.2.2.2.2.2.2.1, x.2.2.2.2.2.2.2.2.2.2.2))) rfl ?_
      refine v_topj (x := boF (x.1, cpN (boF x n) x.2.1 q, x.2.2.1, x.2.2.2.1, cpN (stF x n) x.2.2.2.2.1 x.2.2.1.toNat, x.2.2.2.2.2.1, x.2.2.2.2.2.2.1, cpN (faF x n) x.2.2.2.2.2.2.2.1 x.2.2.1.toNat, x.2.2.2.2.2.2.2.2.1, x.2.2.2.2.2.2.2.2.2.1, x.2.2.2.2.2.2.2.2.2.2.1, x.2.2.2.2.2.2.2.2.2.2.2) n (q : Int)) (y := boF x n (q : Int)) (by show jmax 0 (cpN (boF x n) x.2.1 q (q : Int) - n) = _; unfold cpN; rw [if_neg (by omega)]; rfl) ?_
      refine v_iast (q0 := 1) (t0 := 0) (g := (cpN (boF x n) x.2.1 q)) (z := (q : Int)) (x := boF x n (q : Int)) (ws' := (gW cI b (x.1, uI (cpN (boF x n) x.2.1 q) (q : Int) (boF x n (q : Int)), x.2.2.1, x.2.2.2.1, (cpN (stF x n) x.2.2.2.2.1 x.2.2.1.toNat), x.2.2.2.2.2.1, x.2.2.2.2.2.2.1, (cpN (faF x n) x.2.2.2.2.2.2.2.1 x.2.2.1.toNat), x.2.2.2.2.2.2.2.2.1, x.2.2.2.2.2.2.2.2.2.1, x.2.2.2.2.2.2.2.2.2.2.1, x.2.2.2.2.2.2.2.2.2.2.2))) G rfl rfl (by omega) rfl dX7_passHours_59 ?_
      refine v_cell (q0 := 1) (g := uI (cpN (boF x n) x.2.1 q) (q : Int) (boF x n (q : Int))) (g' := cpN (boF x n) x.2.1 (q + 1)) (ws' := (gW cI b (x.1, cpN (boF x n) x.2.1 (q + 1), x.2.2.1, x.2.2.2.1, (cpN (stF x n) x.2.2.2.2.1 x.2.2.1.toNat), x.2.2.2.2.2.1, x.2.2.2.2.2.2.1, (cpN (faF x n) x.2.2.2.2.2.2.2.1 x.2.2.1.toNat), x.2.2.2.2.2.2.2.2.1, x.2.2.2.2.2.2.2.2.2.1, x.2.2.2.2.2.2.2.2.2.2.1, x.2.2.2.2.2.2.2.2.2.2.2))) rfl (fun j h0 _ => cpN_s (boF x n) x.2.1 q j h0) rfl ?_
      refine v_iinc (k := 0) (z := (q : Int)) (z' := ((q + 1 : Nat) : Int)) (lv' := [(2, .int (jI ((q + 1 : Nat) : Int))), (0, .ref (b 0)), (1, .int (jI n))]) G dX7_passHours_60 rfl (by omega) (by decide) rfl ?_
      refine v_goto (tgt := 42) G dX7_passHours_63 (by decide) ?_
      exact ih_5 (q + 1) (by omega) (by omega)
  · skip
    refine v_aload_n (j := 1) (x := b 0) G dX7_passHours_10 rfl rfl ?_
    refine v_get (q0 := 0) (k := 4) (v := .ref (b 3)) G k_X7 rfl rfl (by decide) q_4 rfl rfl dX7_passHours_11 ?_
    refine v_iload_n (j := 0) (x := jI (k : Int)) G dX7_passHours_14 rfl rfl ?_
    refine v_aload_n (j := 1) (x := b 0) G dX7_passHours_15 rfl rfl ?_
    refine v_iload_n (j := 0) (x := jI (k : Int)) G dX7_passHours_16 rfl rfl ?_
    refine v_iload_n (j := 2) (x := jI n) G dX7_passHours_17 rfl rfl ?_
    refine v_ciF G (rn_V (As := [.int (jI (k : Int)), .int (jI n)]) (rest := [.int (jI (k : Int)), .ref (b 3)]) (q0 := 0) G (c_X7_standsOn (z := (k : Int)) (n := n) (x := (x.1, x.2.1, x.2.2.1, x.2.2.2.1, cpN (stF x n) x.2.2.2.2.1 k, x.2.2.2.2.2.1, x.2.2.2.2.2.2.1, cpN (faF x n) x.2.2.2.2.2.2.2.1 k, x.2.2.2.2.2.2.2.2.1, x.2.2.2.2.2.2.2.2.2.1, x.2.2.2.2.2.2.2.2.2.2.1, x.2.2.2.2.2.2.2.2.2.2.2)) (b := b) (hw := (phW_w hw hn.1 k k 0 (by omega) (by omega) (by omega))) (hz := (by omega))) gX7_passHours_X7_standsOn rfl hdX7_standsOn ⟨rfl, rfl, Nat.le_of_ble_eq_true rfl, Nat.le_of_ble_eq_true rfl⟩ rfl rfl (Nat.le_of_ble_eq_true rfl) ⟨Nat.zero_le _, Nat.zero_le _⟩ rfl rfl dX7_passHours_18) (fun r_10 u_12 e_11 => ?_)
    have e_11 : r_10 = jI (stF (x.1, x.2.1, x.2.2.1, x.2.2.2.1, cpN (stF x n) x.2.2.2.2.1 k, x.2.2.2.2.2.1, x.2.2.2.2.2.2.1, cpN (faF x n) x.2.2.2.2.2.2.2.1 k, x.2.2.2.2.2.2.2.2.1, x.2.2.2.2.2.2.2.2.2.1, x.2.2.2.2.2.2.2.2.2.2.1, x.2.2.2.2.2.2.2.2.2.2.2) n (k : Int)) := e_11
    subst e_11
    refine v_world (ws' := (gW cI b (x.1, x.2.1, x.2.2.1, x.2.2.2.1, (cpN (stF x n) x.2.2.2.2.1 k), x.2.2.2.2.2.1, x.2.2.2.2.2.2.1, (cpN (faF x n) x.2.2.2.2.2.2.2.1 k), x.2.2.2.2.2.2.2.2.1, x.2.2.2.2.2.2.2.2.2.1, x.2.2.2.2.2.2.2.2.2.2.1, x.2.2.2.2.2.2.2.2.2.2.2))) rfl ?_
    refine v_topj (x := stF (x.1, x.2.1, x.2.2.1, x.2.2.2.1, cpN (stF x n) x.2.2.2.2.1 k, x.2.2.2.2.2.1, x.2.2.2.2.2.2.1, cpN (faF x n) x.2.2.2.2.2.2.2.1 k, x.2.2.2.2.2.2.2.2.1, x.2.2.2.2.2.2.2.2.2.1, x.2.2.2.2.2.2.2.2.2.2.1, x.2.2.2.2.2.2.2.2.2.2.2) n (k : Int)) (y := stF x n (k : Int)) (by show cSt (cpN (stF x n) x.2.2.2.2.1 k (k : Int)) _ _ = _; unfold cpN; rw [if_neg (by omega)]; rfl) ?_
    refine v_iast (q0 := 3) (t0 := 0) (g := (cpN (stF x n) x.2.2.2.2.1 k)) (z := (k : Int)) (x := stF x n (k : Int)) (ws' := (gW cI b (x.1, x.2.1, x.2.2.1, x.2.2.2.1, uI (cpN (stF x n) x.2.2.2.2.1 k) (k : Int) (stF x n (k : Int)), x.2.2.2.2.2.1, x.2.2.2.2.2.2.1, (cpN (faF x n) x.2.2.2.2.2.2.2.1 k), x.2.2.2.2.2.2.2.2.1, x.2.2.2.2.2.2.2.2.2.1, x.2.2.2.2.2.2.2.2.2.2.1, x.2.2.2.2.2.2.2.2.2.2.2))) G rfl rfl (by omega) rfl dX7_passHours_21 ?_
    refine v_cell (q0 := 3) (g := uI (cpN (stF x n) x.2.2.2.2.1 k) (k : Int) (stF x n (k : Int))) (g' := cpN (stF x n) x.2.2.2.2.1 (k + 1)) (ws' := (gW cI b (x.1, x.2.1, x.2.2.1, x.2.2.2.1, cpN (stF x n) x.2.2.2.2.1 (k + 1), x.2.2.2.2.2.1, x.2.2.2.2.2.2.1, (cpN (faF x n) x.2.2.2.2.2.2.2.1 k), x.2.2.2.2.2.2.2.2.1, x.2.2.2.2.2.2.2.2.2.1, x.2.2.2.2.2.2.2.2.2.2.1, x.2.2.2.2.2.2.2.2.2.2.2))) rfl (fun j h0 _ => cpN_s (stF x n) x.2.2.2.2.1 k j h0) rfl ?_
    refine v_aload_n (j := 1) (x := b 0) G dX7_passHours_22 rfl rfl ?_
    refine v_get (q0 := 0) (k := 7) (v := .ref (b 6)) G k_X7 rfl rfl (by decide) q_5 rfl rfl dX7_passHours_23 ?_
    refine v_iload_n (j := 0) (x := jI (k : Int)) G dX7_passHours_26 rfl rfl ?_
    refine v_aload_n (j := 1) (x := b 0) G dX7_passHours_27 rfl rfl ?_
    refine v_iload_n (j := 0) (x := jI (k : Int)) G dX7_passHours_28 rfl rfl ?_
    refine v_iload_n (j := 2) (x := jI n) G dX7_passHours_29 rfl rfl ?_
    refine v_ciF G (rn_V (As := [.int (jI (k : Int)), .int (jI n)]) (rest := [.int (jI (k : Int)), .ref (b 6)]) (q0 := 0) G (c_X7_fastsOn (z := (k : Int)) (n := n) (x := (x.1, x.2.1, x.2.2.1, x.2.2.2.1, cpN (stF x n) x.2.2.2.2.1 (k + 1), x.2.2.2.2.2.1, x.2.2.2.2.2.2.1, (cpN (faF x n) x.2.2.2.2.2.2.2.1 k), x.2.2.2.2.2.2.2.2.1, x.2.2.2.2.2.2.2.2.2.1, x.2.2.2.2.2.2.2.2.2.2.1, x.2.2.2.2.2.2.2.2.2.2.2)) (b := b) (hw := (phW_w hw hn.1 (k + 1) k 0 (by omega) (by omega) (by omega))) (hz := (by omega))) gX7_passHours_X7_fastsOn rfl hdX7_fastsOn ⟨rfl, rfl, Nat.le_of_ble_eq_true rfl, Nat.le_of_ble_eq_true rfl⟩ rfl rfl (Nat.le_of_ble_eq_true rfl) ⟨Nat.zero_le _, Nat.zero_le _⟩ rfl rfl dX7_passHours_30) (fun r_13 u_15 e_14 => ?_)
    have e_14 : r_13 = jI (faF (x.1, x.2.1, x.2.2.1, x.2.2.2.1, cpN (stF x n) x.2.2.2.2.1 (k + 1), x.2.2.2.2.2.1, x.2.2.2.2.2.2.1, (cpN (faF x n) x.2.2.2.2.2.2.2.1 k), x.2.2.2.2.2.2.2.2.1, x.2.2.2.2.2.2.2.2.2.1, x.2.2.2.2.2.2.2.2.2.2.1, x.2.2.2.2.2.2.2.2.2.2.2) n (k : Int)) := e_14
    subst e_14
    refine v_world (ws' := (gW cI b (x.1, x.2.1, x.2.2.1, x.2.2.2.1, (cpN (stF x n) x.2.2.2.2.1 (k + 1)), x.2.2.2.2.2.1, x.2.2.2.2.2.2.1, (cpN (faF x n) x.2.2.2.2.2.2.2.1 k), x.2.2.2.2.2.2.2.2.1, x.2.2.2.2.2.2.2.2.2.1, x.2.2.2.2.2.2.2.2.2.2.1, x.2.2.2.2.2.2.2.2.2.2.2))) rfl ?_
    refine v_topj (x := faF (x.1, x.2.1, x.2.2.1, x.2.2.2.1, cpN (stF x n) x.2.2.2.2.1 (k + 1), x.2.2.2.2.2.1, x.2.2.2.2.2.2.1, (cpN (faF x n) x.2.2.2.2.2.2.2.1 k), x.2.2.2.2.2.2.2.2.1, x.2.2.2.2.2.2.2.2.2.1, x.2.2.2.2.2.2.2.2.2.2.1, x.2.2.2.2.2.2.2.2.2.2.2) n (k : Int)) (y := faF x n (k : Int)) (by show jmin 999 (cpN (faF x n) x.2.2.2.2.2.2.2.1 k (k : Int) + n) = _; unfold cpN; rw [if_neg (by omega)]; rfl) ?_
    refine v_iast (q0 := 6) (t0 := 0) (g := (cpN (faF x n) x.2.2.2.2.2.2.2.1 k)) (z := (k : Int)) (x := faF x n (k : Int)) (ws' := (gW cI b (x.1, x.2.1, x.2.2.1, x.2.2.2.1, (cpN (stF x n) x.2.2.2.2.1 (k + 1)), x.2.2.2.2.2.1, x.2.2.2.2.2.2.1, uI (cpN (faF x n) x.2.2.2.2.2.2.2.1 k) (k : Int) (faF x n (k : Int)), x.2.2.2.2.2.2.2.2.1, x.2.2.2.2.2.2.2.2.2.1, x.2.2.2.2.2.2.2.2.2.2.1, x.2.2.2.2.2.2.2.2.2.2.2))) G rfl rfl (by omega) rfl dX7_passHours_33 ?_
    refine v_cell (q0 := 6) (g := uI (cpN (faF x n) x.2.2.2.2.2.2.2.1 k) (k : Int) (faF x n (k : Int))) (g' := cpN (faF x n) x.2.2.2.2.2.2.2.1 (k + 1)) (ws' := (gW cI b (x.1, x.2.1, x.2.2.1, x.2.2.2.1, (cpN (stF x n) x.2.2.2.2.1 (k + 1)), x.2.2.2.2.2.1, x.2.2.2.2.2.2.1, cpN (faF x n) x.2.2.2.2.2.2.2.1 (k + 1), x.2.2.2.2.2.2.2.2.1, x.2.2.2.2.2.2.2.2.2.1, x.2.2.2.2.2.2.2.2.2.2.1, x.2.2.2.2.2.2.2.2.2.2.2))) rfl (fun j h0 _ => cpN_s (faF x n) x.2.2.2.2.2.2.2.1 k j h0) rfl ?_
    refine v_iinc (k := 0) (z := (k : Int)) (z' := ((k + 1 : Nat) : Int)) (lv' := [(2, .int (jI ((k + 1 : Nat) : Int))), (0, .ref (b 0)), (1, .int (jI n))]) G dX7_passHours_34 rfl (by omega) (by decide) rfl ?_
    refine v_goto (tgt := 2) G dX7_passHours_37 (by decide) ?_
    exact ih_2 (k + 1) (by omega) (by omega)

set_option maxHeartbeats 4000000 in
set_option maxRecDepth 100000 in
theorem c_X7_becomeAs   : Cv l yX7_becomeAs wsX7_becomeAs { frames := 1, cells := 0, slots := 0, locals := 40 } D (jT cI cL cB cS) [.ref (b 0), .ref (c 0)] (gW cI b x ++ gW cI c o) (S := Unit) (fun _ => (gW cI b o ++ gW cI c o)) (fun _ => True) := by
  refine Cv.mk (cc := cX7_becomeAs) (maxL := 2) (by decide) rfl (Nat.le_of_ble_eq_true rfl) rfl ?_
  intro p_ e_ s_ m_ b_ me_ c_ A_ G hnm
  have k_X7 : ∀ w ∈ u_ws RX7 TX7 12, w ∈ wsX7_becomeAs := fun _ h => List.mem_cons_of_mem _ (List.mem_append_right _ h)
  have q_1 : Cond.fieldLink RX7 9 "SupperLight$World" "hour" "I" ∈ wsX7_becomeAs := List.mem_of_getElem? (i := 1) rfl
  have q_2 : Cond.fieldLink RX7 15 "SupperLight$World" "bowls" "[I" ∈ wsX7_becomeAs := List.mem_of_getElem? (i := 2) rfl
  have q_3 : Cond.methodLink RX7 49 arraycopyName ∈ wsX7_becomeAs := List.mem_of_getElem? (i := 3) rfl
  have q_4 : Cond.native arraycopyName ∈ wsX7_becomeAs := List.mem_of_getElem? (i := 4) rfl
  have q_5 : Cond.static arraycopyName ∈ wsX7_becomeAs := List.mem_of_getElem? (i := 5) rfl
  have q_6 : Cond.initialized "java/lang/System" ∈ wsX7_becomeAs := List.mem_of_getElem? (i := 6) rfl
  have q_7 : Cond.fieldLink RX7 19 "SupperLight$World" "beings" "I" ∈ wsX7_becomeAs := List.mem_of_getElem? (i := 7) rfl
  have q_8 : Cond.fieldLink RX7 22 "SupperLight$World" "kinds" "[I" ∈ wsX7_becomeAs := List.mem_of_getElem? (i := 8) rfl
  have q_9 : Cond.fieldLink RX7 25 "SupperLight$World" "ats" "[I" ∈ wsX7_becomeAs := List.mem_of_getElem? (i := 9) rfl
  have q_10 : Cond.fieldLink RX7 28 "SupperLight$World" "goals" "[I" ∈ wsX7_becomeAs := List.mem_of_getElem? (i := 10) rfl
  have q_11 : Cond.fieldLink RX7 31 "SupperLight$World" "meals" "[I" ∈ wsX7_becomeAs := List.mem_of_getElem? (i := 11) rfl
  have q_12 : Cond.fieldLink RX7 34 "SupperLight$World" "fasts" "[I" ∈ wsX7_becomeAs := List.mem_of_getElem? (i := 12) rfl
  have q_13 : Cond.fieldLink RX7 37 "SupperLight$World" "tasks" "I" ∈ wsX7_becomeAs := List.mem_of_getElem? (i := 13) rfl
  have q_14 : Cond.fieldLink RX7 40 "SupperLight$World" "taskPlaces" "[I" ∈ wsX7_becomeAs := List.mem_of_getElem? (i := 14) rfl
  have q_15 : Cond.fieldLink RX7 43 "SupperLight$World" "taskHours" "[I" ∈ wsX7_becomeAs := List.mem_of_getElem? (i := 15) rfl
  have q_16 : Cond.fieldLink RX7 46 "SupperLight$World" "taskNeeds" "[I" ∈ wsX7_becomeAs := List.mem_of_getElem? (i := 16) rfl
  refine v_aload_n (j := 0) (x := b 0) G dX7_becomeAs_0 rfl rfl ?_
  refine v_aload_n (j := 1) (x := c 0) G dX7_becomeAs_1 rfl rfl ?_
  refine v_get (q0 := 10) (k := 0) (v := .int (jI o.1)) G k_X7 rfl rfl (by decide) q_1 rfl rfl dX7_becomeAs_2 ?_
  refine v_put (q0 := 0) (k := 0) (ty := .int) (ws' := (gW cI b (o.1, x.2.1, x.2.2.1, x.2.2.2.1, x.2.2.2.2.1, x.2.2.2.2.2.1, x.2.2.2.2.2.2.1, x.2.2.2.2.2.2.2.1, x.2.2.2.2.2.2.2.2.1, x.2.2.2.2.2.2.2.2.2.1, x.2.2.2.2.2.2.2.2.2.2.1, x.2.2.2.2.2.2.2.2.2.2.2) ++ gW cI c o)) G k_X7 tyX7 tyX7_ok nmX7 rfl rfl (by decide) q_1 rfl rfl rfl rfl rfl (Nat.le_of_ble_eq_true rfl) rfl dX7_becomeAs_5 ?_
  refine v_aload_n (j := 1) (x := c 0) G dX7_becomeAs_8 rfl rfl ?_
  refine v_get (q0 := 10) (k := 1) (v := .ref (c 1)) G k_X7 rfl rfl (by decide) q_2 rfl rfl dX7_becomeAs_9 ?_
  refine v_iconst G dX7_becomeAs_12 ?_
  refine v_aload_n (j := 0) (x := b 0) G dX7_becomeAs_13 rfl rfl ?_
  refine v_get (q0 := 0) (k := 1) (v := .ref (b 1)) G k_X7 rfl rfl (by decide) q_2 rfl rfl dX7_becomeAs_14 ?_
  refine v_iconst G dX7_becomeAs_17 ?_
  refine v_bipush G dX7_becomeAs_18 (by decide) ?_
  refine v_copyi (q0 := 11) (q1 := 1) (f := o.2.1) (g := x.2.1) (g' := o.2.1) (sp := 0) (dp := 0) (n := 16) (ws' := (gW cI b (o.1, o.2.1, x.2.2.1, x.2.2.2.1, x.2.2.2.2.1, x.2.2.2.2.2.1, x.2.2.2.2.2.2.1, x.2.2.2.2.2.2.2.1, x.2.2.2.2.2.2.2.2.1, x.2.2.2.2.2.2.2.2.2.1, x.2.2.2.2.2.2.2.2.2.2.1, x.2.2.2.2.2.2.2.2.2.2.2) ++ gW cI c o)) G q_3 q_4 q_5 q_6 rfl rfl rfl (by omega) (fun j _ _ => by rw [if_pos (by omega), show (0 : Int) + (j - 0) = j by omega]) ⟨Nat.le_of_ble_eq_true rfl, Nat.le_of_ble_eq_true rfl⟩ rfl dX7_becomeAs_20 ?_
  refine v_aload_n (j := 0) (x := b 0) G dX7_becomeAs_23 rfl rfl ?_
  refine v_aload_n (j := 1) (x := c 0) G dX7_becomeAs_24 rfl rfl ?_
  refine v_get (q0 := 10) (k := 2) (v := .int (jI o.2.2.1)) G k_X7 rfl rfl (by decide) q_7 rfl rfl dX7_becomeAs_25 ?_
  refine v_put (q0 := 0) (k := 2) (ty := .int) (ws' := (gW cI b (o.1, o.2.1, o.2.2.1, x.2.2.2.1, x.2.2.2.2.1, x.2.2.2.2.2.1, x.2.2.2.2.2.2.1, x.2.2.2.2.2.2.2.1, x.2.2.2.2.2.2.2.2.1, x.2.2.2.2.2.2.2.2.2.1, x.2.2.2.2.2.2.2.2.2.2.1, x.2.2.2.2.2.2.2.2.2.2.2) ++ gW cI c o)) G k_X7 tyX7 tyX7_ok nmX7 rfl rfl (by decide) q_7 rfl rfl rfl rfl rfl (Nat.le_of_ble_eq_true rfl) rfl dX7_becomeAs_28 ?_
  refine v_aload_n (j := 1) (x := c 0) G dX7_becomeAs_31 rfl rfl ?_
  refine v_get (q0 := 10) (k := 3) (v := .ref (c 2)) G k_X7 rfl rfl (by decide) q_8 rfl rfl dX7_becomeAs_32 ?_
  refine v_iconst G dX7_becomeAs_35 ?_
  refine v_aload_n (j := 0) (x := b 0) G dX7_becomeAs_36 rfl rfl ?_
  refine v_get (q0 := 0) (k := 3) (v := .ref (b 2)) G k_X7 rfl rfl (by decide) q_8 rfl rfl dX7_becomeAs_37 ?_
  refine v_iconst G dX7_becomeAs_40 ?_
  refine v_bipush G dX7_becomeAs_41 (by decide) ?_
  refine v_copyi (q0 := 12) (q1 := 2) (f := o.2.2.2.1) (g := x.2.2.2.1) (g' := o.2.2.2.1) (sp := 0) (dp := 0) (n := 10) (ws' := (gW cI b (o.1, o.2.1, o.2.2.1, o.2.2.2.1, x.2.2.2.2.1, x.2.2.2.2.2.1, x.2.2.2.2.2.2.1, x.2.2.2.2.2.2.2.1, x.2.2.2.2.2.2.2.2.1, x.2.2.2.2.2.2.2.2.2.1, x.2.2.2.2.2.2.2.2.2.2.1, x.2.2.2.2.2.2.2.2.2.2.2) ++ gW cI c o)) G q_3 q_4 q_5 q_6 rfl rfl rfl (by omega) (fun j _ _ => by rw [if_pos (by omega), show (0 : Int) + (j - 0) = j by omega]) ⟨Nat.le_of_ble_eq_true rfl, Nat.le_of_ble_eq_true rfl⟩ rfl dX7_becomeAs_43 ?_
  refine v_aload_n (j := 1) (x := c 0) G dX7_becomeAs_46 rfl rfl ?_
  refine v_get (q0 := 10) (k := 4) (v := .ref (c 3)) G k_X7 rfl rfl (by decide) q_9 rfl rfl dX7_becomeAs_47 ?_
  refine v_iconst G dX7_becomeAs_50 ?_
  refine v_aload_n (j := 0) (x := b 0) G dX7_becomeAs_51 rfl rfl ?_
  refine v_get (q0 := 0) (k := 4) (v := .ref (b 3)) G k_X7 rfl rfl (by decide) q_9 rfl rfl dX7_becomeAs_52 ?_
  refine v_iconst G dX7_becomeAs_55 ?_
  refine v_bipush G dX7_becomeAs_56 (by decide) ?_
  refine v_copyi (q0 := 13) (q1 := 3) (f := o.2.2.2.2.1) (g := x.2.2.2.2.1) (g' := o.2.2.2.2.1) (sp := 0) (dp := 0) (n := 10) (ws' := (gW cI b (o.1, o.2.1, o.2.2.1, o.2.2.2.1, o.2.2.2.2.1, x.2.2.2.2.2.1, x.2.2.2.2.2.2.1, x.2.2.2.2.2.2.2.1, x.2.2.2.2.2.2.2.2.1, x.2.2.2.2.2.2.2.2.2.1, x.2.2.2.2.2.2.2.2.2.2.1, x.2.2.2.2.2.2.2.2.2.2.2) ++ gW cI c o)) G q_3 q_4 q_5 q_6 rfl rfl rfl (by omega) (fun j _ _ => by rw [if_pos (by omega), show (0 : Int) + (j - 0) = j by omega]) ⟨Nat.le_of_ble_eq_true rfl, Nat.le_of_ble_eq_true rfl⟩ rfl dX7_becomeAs_58 ?_
  refine v_aload_n (j := 1) (x := c 0) G dX7_becomeAs_61 rfl rfl ?_
  refine v_get (q0 := 10) (k := 5) (v := .ref (c 4)) G k_X7 rfl rfl (by decide) q_10 rfl rfl dX7_becomeAs_62 ?_
  refine v_iconst G dX7_becomeAs_65 ?_
  refine v_aload_n (j := 0) (x := b 0) G dX7_becomeAs_66 rfl rfl ?_
  refine v_get (q0 := 0) (k := 5) (v := .ref (b 4)) G k_X7 rfl rfl (by decide) q_10 rfl rfl dX7_becomeAs_67 ?_
  refine v_iconst G dX7_becomeAs_70 ?_
  refine v_bipush G dX7_becomeAs_71 (by decide) ?_
  refine v_copyi (q0 := 14) (q1 := 4) (f := o.2.2.2.2.2.1) (g := x.2.2.2.2.2.1) (g' := o.2.2.2.2.2.1) (sp := 0) (dp := 0) (n := 10) (ws' := (gW cI b (o.1, o.2.1, o.2.2.1, o.2.2.2.1, o.2.2.2.2.1, o.2.2.2.2.2.1, x.2.2.2.2.2.2.1, x.2.2.2.2.2.2.2.1, x.2.2.2.2.2.2.2.2.1, x.2.2.2.2.2.2.2.2.2.1, x.2.2.2.2.2.2.2.2.2.2.1, x.2.2.2.2.2.2.2.2.2.2.2) ++ gW cI c o)) G q_3 q_4 q_5 q_6 rfl rfl rfl (by omega) (fun j _ _ => by rw [if_pos (by omega), show (0 : Int) + (j - 0) = j by omega]) ⟨Nat.le_of_ble_eq_true rfl, Nat.le_of_ble_eq_true rfl⟩ rfl dX7_becomeAs_73 ?_
  refine v_aload_n (j := 1) (x := c 0) G dX7_becomeAs_76 rfl rfl ?_
  refine v_get (q0 := 10) (k := 6) (v := .ref (c 5)) G k_X7 rfl rfl (by decide) q_11 rfl rfl dX7_becomeAs_77 ?_
  refine v_iconst G dX7_becomeAs_80 ?_
  refine v_aload_n (j := 0) (x := b 0) G dX7_becomeAs_81 rfl rfl ?_
  refine v_get (q0 := 0) (k := 6) (v := .ref (b 5)) G k_X7 rfl rfl (by decide) q_11 rfl rfl dX7_becomeAs_82 ?_
  refine v_iconst G dX7_becomeAs_85 ?_
  refine v_bipush G dX7_becomeAs_86 (by decide) ?_
  refine v_copyi (q0 := 15) (q1 := 5) (f := o.2.2.2.2.2.2.1) (g := x.2.2.2.2.2.2.1) (g' := o.2.2.2.2.2.2.1) (sp := 0) (dp := 0) (n := 10) (ws' := (gW cI b (o.1, o.2.1, o.2.2.1, o.2.2.2.1, o.2.2.2.2.1, o.2.2.2.2.2.1, o.2.2.2.2.2.2.1, x.2.2.2.2.2.2.2.1, x.2.2.2.2.2.2.2.2.1, x.2.2.2.2.2.2.2.2.2.1, x.2.2.2.2.2.2.2.2.2.2.1, x.2.2.2.2.2.2.2.2.2.2.2) ++ gW cI c o)) G q_3 q_4 q_5 q_6 rfl rfl rfl (by omega) (fun j _ _ => by rw [if_pos (by omega), show (0 : Int) + (j - 0) = j by omega]) ⟨Nat.le_of_ble_eq_true rfl, Nat.le_of_ble_eq_true rfl⟩ rfl dX7_becomeAs_88 ?_
  refine v_aload_n (j := 1) (x := c 0) G dX7_becomeAs_91 rfl rfl ?_
  refine v_get (q0 := 10) (k := 7) (v := .ref (c 6)) G k_X7 rfl rfl (by decide) q_12 rfl rfl dX7_becomeAs_92 ?_
  refine v_iconst G dX7_becomeAs_95 ?_
  refine v_aload_n (j := 0) (x := b 0) G dX7_becomeAs_96 rfl rfl ?_
  refine v_get (q0 := 0) (k := 7) (v := .ref (b 6)) G k_X7 rfl rfl (by decide) q_12 rfl rfl dX7_becomeAs_97 ?_
  refine v_iconst G dX7_becomeAs_100 ?_
  refine v_bipush G dX7_becomeAs_101 (by decide) ?_
  refine v_copyi (q0 := 16) (q1 := 6) (f := o.2.2.2.2.2.2.2.1) (g := x.2.2.2.2.2.2.2.1) (g' := o.2.2.2.2.2.2.2.1) (sp := 0) (dp := 0) (n := 10) (ws' := (gW cI b (o.1, o.2.1, o.2.2.1, o.2.2.2.1, o.2.2.2.2.1, o.2.2.2.2.2.1, o.2.2.2.2.2.2.1, o.2.2.2.2.2.2.2.1, x.2.2.2.2.2.2.2.2.1, x.2.2.2.2.2.2.2.2.2.1, x.2.2.2.2.2.2.2.2.2.2.1, x.2.2.2.2.2.2.2.2.2.2.2) ++ gW cI c o)) G q_3 q_4 q_5 q_6 rfl rfl rfl (by omega) (fun j _ _ => by rw [if_pos (by omega), show (0 : Int) + (j - 0) = j by omega]) ⟨Nat.le_of_ble_eq_true rfl, Nat.le_of_ble_eq_true rfl⟩ rfl dX7_becomeAs_103 ?_
  refine v_aload_n (j := 0) (x := b 0) G dX7_becomeAs_106 rfl rfl ?_
  refine v_aload_n (j := 1) (x := c 0) G dX7_becomeAs_107 rfl rfl ?_
  refine v_get (q0 := 10) (k := 8) (v := .int (jI o.2.2.2.2.2.2.2.2.1)) G k_X7 rfl rfl (by decide) q_13 rfl rfl dX7_becomeAs_108 ?_
  refine v_put (q0 := 0) (k := 8) (ty := .int) (ws' := (gW cI b (o.1, o.2.1, o.2.2.1, o.2.2.2.1, o.2.2.2.2.1, o.2.2.2.2.2.1, o.2.2.2.2.2.2.1, o.2.2.2.2.2.2.2.1, o.2.2.2.2.2.2.2.2.1, x.2.2.2.2.2.2.2.2.2.1, x.2.2.2.2.2.2.2.2.2.2.1, x.2.2.2.2.2.2.2.2.2.2.2) ++ gW cI c o)) G k_X7 tyX7 tyX7_ok nmX7 rfl rfl (by decide) q_13 rfl rfl rfl rfl rfl (Nat.le_of_ble_eq_true rfl) rfl dX7_becomeAs_111 ?_
  refine v_aload_n (j := 1) (x := c 0) G dX7_becomeAs_114 rfl rfl ?_
  refine v_get (q0 := 10) (k := 9) (v := .ref (c 7)) G k_X7 rfl rfl (by decide) q_14 rfl rfl dX7_becomeAs_115 ?_
  refine v_iconst G dX7_becomeAs_118 ?_
  refine v_aload_n (j := 0) (x := b 0) G dX7_becomeAs_119 rfl rfl ?_
  refine v_get (q0 := 0) (k := 9) (v := .ref (b 7)) G k_X7 rfl rfl (by decide) q_14 rfl rfl dX7_becomeAs_120 ?_
  refine v_iconst G dX7_becomeAs_123 ?_
  refine v_bipush G dX7_becomeAs_124 (by decide) ?_
  refine v_copyi (q0 := 17) (q1 := 7) (f := o.2.2.2.2.2.2.2.2.2.1) (g := x.2.2.2.2.2.2.2.2.2.1) (g' := o.2.2.2.2.2.2.2.2.2.1) (sp := 0) (dp := 0) (n := 8) (ws' := (gW cI b (o.1, o.2.1, o.2.2.1, o.2.2.2.1, o.2.2.2.2.1, o.2.2.2.2.2.1, o.2.2.2.2.2.2.1, o.2.2.2.2.2.2.2.1, o.2.2.2.2.2.2.2.2.1, o.2.2.2.2.2.2.2.2.2.1, x.2.2.2.2.2.2.2.2.2.2.1, x.2.2.2.2.2.2.2.2.2.2.2) ++ gW cI c o)) G q_3 q_4 q_5 q_6 rfl rfl rfl (by omega) (fun j _ _ => by rw [if_pos (by omega), show (0 : Int) + (j - 0) = j by omega]) ⟨Nat.le_of_ble_eq_true rfl, Nat.le_of_ble_eq_true rfl⟩ rfl dX7_becomeAs_126 ?_
  refine v_aload_n (j := 1) (x := c 0) G dX7_becomeAs_129 rfl rfl ?_
  refine v_get (q0 := 10) (k := 10) (v := .ref (c 8)) G k_X7 rfl rfl (by decide) q_15 rfl rfl dX7_becomeAs_130 ?_
  refine v_iconst G dX7_becomeAs_133 ?_
  refine v_aload_n (j := 0) (x := b 0) G dX7_becomeAs_134 rfl rfl ?_
  refine v_get (q0 := 0) (k := 10) (v := .ref (b 8)) G k_X7 rfl rfl (by decide) q_15 rfl rfl dX7_becomeAs_135 ?_
  refine v_iconst G dX7_becomeAs_138 ?_
  refine v_bipush G dX7_becomeAs_139 (by decide) ?_
  refine v_copyi (q0 := 18) (q1 := 8) (f := o.2.2.2.2.2.2.2.2.2.2.1) (g := x.2.2.2.2.2.2.2.2.2.2.1) (g' := o.2.2.2.2.2.2.2.2.2.2.1) (sp := 0) (dp := 0) (n := 8) (ws' := (gW cI b (o.1, o.2.1, o.2.2.1, o.2.2.2.1, o.2.2.2.2.1, o.2.2.2.2.2.1, o.2.2.2.2.2.2.1, o.2.2.2.2.2.2.2.1, o.2.2.2.2.2.2.2.2.1, o.2.2.2.2.2.2.2.2.2.1, o.2.2.2.2.2.2.2.2.2.2.1, x.2.2.2.2.2.2.2.2.2.2.2) ++ gW cI c o)) G q_3 q_4 q_5 q_6 rfl rfl rfl (by omega) (fun j _ _ => by rw [if_pos (by omega), show (0 : Int) + (j - 0) = j by omega]) ⟨Nat.le_of_ble_eq_true rfl, Nat.le_of_ble_eq_true rfl⟩ rfl dX7_becomeAs_141 ?_
  refine v_aload_n (j := 1) (x := c 0) G dX7_becomeAs_144 rfl rfl ?_
  refine v_get (q0 := 10) (k := 11) (v := .ref (c 9)) G k_X7 rfl rfl (by decide) q_16 rfl rfl dX7_becomeAs_145 ?_
  refine v_iconst G dX7_becomeAs_148 ?_
  refine v_aload_n (j := 0) (x := b 0) G dX7_becomeAs_149 rfl rfl ?_
  refine v_get (q0 := 0) (k := 11) (v := .ref (b 9)) G k_X7 rfl rfl (by decide) q_16 rfl rfl dX7_becomeAs_150 ?_
  refine v_iconst G dX7_becomeAs_153 ?_
  refine v_bipush G dX7_becomeAs_154 (by decide) ?_
  refine v_copyi (q0 := 19) (q1 := 9) (f := o.2.2.2.2.2.2.2.2.2.2.2) (g := x.2.2.2.2.2.2.2.2.2.2.2) (g' := o.2.2.2.2.2.2.2.2.2.2.2) (sp := 0) (dp := 0) (n := 8) (ws' := (gW cI b o ++ gW cI c o)) G q_3 q_4 q_5 q_6 rfl rfl rfl (by omega) (fun j _ _ => by rw [if_pos (by omega), show (0 : Int) + (j - 0) = j by omega]) ⟨Nat.le_of_ble_eq_true rfl, Nat.le_of_ble_eq_true rfl⟩ rfl dX7_becomeAs_156 ?_
  exact v_vret G () trivial rfl dX7_becomeAs_159

set_option maxHeartbeats 4000000 in
set_option maxRecDepth 100000 in
theorem c_X0_shineOf (k m f v : Int) (hr : (-1 ≤ k ∧ k ≤ 5) ∧ (0 ≤ m ∧ m ≤ 99) ∧ (0 ≤ f ∧ f ≤ 2000) ∧ 0 ≤ v ∧ v ≤ 100) : Ci l yX0_shineOf wsX0_shineOf { frames := 1, cells := 0, slots := 0, locals := 21 } D (jT cI cL cB cS) [.int (jI k), .int (jI m), .int (jI f), .int (jI v)] [] (S := Unit) (fun _ => []) (fun r _ => r = jI (cSh k m f v)) := by
  refine Ci.mk (cc := cX0_shineOf) (maxL := 6) (rt := .int) (by decide) rfl (Nat.le_of_ble_eq_true rfl) rfl ?_
  intro p_ e_ s_ m_ b_ me_ c_ A_ G hnm
  have q_0 : Cond.methodLink RX0 55 Lib.Math.max.name ∈ wsX0_shineOf := List.mem_of_getElem? (i := 1) rfl
  have q_1 : Cond.static Lib.Math.max.name ∈ wsX0_shineOf := List.mem_of_getElem? (i := 2) rfl
  have q_2 : Cond.initialized "java/lang/Math" ∈ wsX0_shineOf := List.mem_of_getElem? (i := 3) rfl
  have q_3 : Cond.code Lib.Math.max.name Lib.Math.max.code 2 (some .int) ∈ wsX0_shineOf := List.mem_of_getElem? (i := 4) rfl
  refine v_iconst G dX0_shineOf_0 ?_
  refine v_iload_n (j := 1) (x := jI m) G dX0_shineOf_1 rfl rfl ?_
  refine v_iload_n (j := 2) (x := jI f) G dX0_shineOf_2 rfl rfl ?_
  refine v_isub (z := m - f) G dX0_shineOf_3 rfl ?_
  refine v_mmax (z := jmax 0 (m - f)) G q_0 q_1 q_2 q_3 ⟨Nat.le_of_ble_eq_true rfl, Nat.le_of_ble_eq_true rfl, Nat.zero_le _, Nat.zero_le _⟩ (by omega) (jmax_z 0 (m - f)) dX0_shineOf_4 ?_
  have hz := jmax_z 0 (m - f)
  refine v_istore (lv' := [(4, .int (jI (jmax 0 (m - f)))), (0, .int (jI k)), (1, .int (jI m)), (2, .int (jI f)), (3, .int (jI v))]) G dX0_shineOf_7 (by decide) rfl ?_
  refine v_iload_n (j := 4) (x := jI v) G dX0_shineOf_9 rfl rfl ?_
  refine v_iconst G dX0_shineOf_10 ?_
  refine v_cut (pc' := 26) (lv' := [(4, .int (jI (jmax 0 (m - f)))), (0, .int (jI k)), (1, .int (jI m)), (2, .int (jI f)), (3, .int (jI v))]) (st' := [.int (jI (if 1 < v then pnC m f + pnC m f / 2 else pnC m f))]) (ws' := []) ?_ (fun J_1 => ?_)
  · skip
    refine v_istore (lv' := [(5, .int (jI (if 1 < v then pnC m f + pnC m f / 2 else pnC m f))), (4, .int (jI (jmax 0 (m - f)))), (0, .int (jI k)), (1, .int (jI m)), (2, .int (jI f)), (3, .int (jI v))]) G dX0_shineOf_26 (by decide) rfl ?_
    refine v_iload_n (j := 2) (x := jI k) G dX0_shineOf_28 rfl rfl ?_
    rcases (show k = 0 ∨ k = 1 ∨ k = 2 ∨ k = 3 ∨ k = 4 ∨ k = 5 ∨ (k < 0 ∨ 5 < k) by omega) with c_2 | c_2 | c_2 | c_2 | c_2 | c_2 | c_2
    · skip
      refine v_tabIn (z := k) (v := 0) (tgt := 68) G c_2 (by decide) rfl (by decide) dX0_shineOf_29 ?_
      refine v_iload (j := 1) (x := jI (jmax 0 (m - f))) G dX0_shineOf_68 rfl ?_
      exact v_iret G () (show jI (jmax 0 (m - f)) = jI (cSh k m f v) from congrArg jI (by unfold cSh; unfold pnC at *; (repeat' split) <;> omega)) rfl dX0_shineOf_70
    · skip
      refine v_tabIn (z := k) (v := 1) (tgt := 71) G c_2 (by decide) rfl (by decide) dX0_shineOf_29 ?_
      refine v_iload (j := 0) (x := jI (if 1 < v then pnC m f + pnC m f / 2 else pnC m f)) G dX0_shineOf_71 rfl ?_
      exact v_iret G () (show jI (if 1 < v then pnC m f + pnC m f / 2 else pnC m f) = jI (cSh k m f v) from congrArg jI (by unfold cSh; unfold pnC at *; (repeat' split) <;> omega)) rfl dX0_shineOf_73
    · skip
      refine v_tabIn (z := k) (v := 2) (tgt := 74) G c_2 (by decide) rfl (by decide) dX0_shineOf_29 ?_
      refine v_iload_n (j := 4) (x := jI f) G dX0_shineOf_74 rfl rfl ?_
      refine v_bipush G dX0_shineOf_75 (by decide) ?_
      refine v_icmp_lt (a := f) (b := 6) (tgt := 84) G dX0_shineOf_77 (by decide) (by omega) (fun c_3 => ?_) (fun c_3 => ?_)
      · skip
        refine v_iload (j := 1) (x := jI (jmax 0 (m - f))) G dX0_shineOf_84 rfl ?_
        exact v_iret G () (show jI (jmax 0 (m - f)) = jI (cSh k m f v) from congrArg jI (by unfold cSh; unfold pnC at *; (repeat' split) <;> omega)) rfl dX0_shineOf_86
      · skip
        refine v_iconst G dX0_shineOf_80 ?_
        refine v_goto (tgt := 86) G dX0_shineOf_81 (by decide) ?_
        exact v_iret G () (show jI 0 = jI (cSh k m f v) from congrArg jI (by unfold cSh; unfold pnC at *; (repeat' split) <;> omega)) rfl dX0_shineOf_86
    · skip
      refine v_tabIn (z := k) (v := 3) (tgt := 87) G c_2 (by decide) rfl (by decide) dX0_shineOf_29 ?_
      refine v_iconst G dX0_shineOf_87 ?_
      refine v_iload (j := 1) (x := jI (jmax 0 (m - f))) G dX0_shineOf_88 rfl ?_
      refine v_imul (z := 3 * (jmax 0 (m - f))) G dX0_shineOf_90 rfl ?_
      exact v_iret G () (show jI (3 * (jmax 0 (m - f))) = jI (cSh k m f v) from congrArg jI (by unfold cSh; unfold pnC at *; (repeat' split) <;> omega)) rfl dX0_shineOf_91
    · skip
      refine v_tabIn (z := k) (v := 4) (tgt := 92) G c_2 (by decide) rfl (by decide) dX0_shineOf_29 ?_
      refine v_iconst G dX0_shineOf_92 ?_
      refine v_iload (j := 0) (x := jI (if 1 < v then pnC m f + pnC m f / 2 else pnC m f)) G dX0_shineOf_93 rfl ?_
      refine v_imul (z := 2 * (if 1 < v then pnC m f + pnC m f / 2 else pnC m f)) G dX0_shineOf_95 rfl ?_
      exact v_iret G () (show jI (2 * (if 1 < v then pnC m f + pnC m f / 2 else pnC m f)) = jI (cSh k m f v) from congrArg jI (by unfold cSh; unfold pnC at *; (repeat' split) <;> omega)) rfl dX0_shineOf_96
    · skip
      refine v_tabIn (z := k) (v := 5) (tgt := 97) G c_2 (by decide) rfl (by decide) dX0_shineOf_29 ?_
      refine v_iconst G dX0_shineOf_97 ?_
      exact v_iret G () (show jI 0 = jI (cSh k m f v) from congrArg jI (by unfold cSh; unfold pnC at *; (repeat' split) <;> omega)) rfl dX0_shineOf_98
    · skip
      refine v_tabOut (z := k) (tgt := 99) G c_2 (by omega) (by decide) dX0_shineOf_29 ?_
      refine v_iconst G dX0_shineOf_99 ?_
      exact v_iret G () (show jI 0 = jI (cSh k m f v) from congrArg jI (by unfold cSh; unfold pnC at *; (repeat' split) <;> omega)) rfl dX0_shineOf_100
  · skip
    refine v_icmp_le (a := v) (b := 1) (tgt := 24) G dX0_shineOf_11 (by decide) (by omega) (fun c_4 => ?_) (fun c_4 => ?_)
    · skip
      refine v_iload (j := 0) (x := jI (jmax 0 (m - f))) G dX0_shineOf_24 rfl ?_
      refine v_topj (x := jmax 0 (m - f)) (y := if 1 < v then pnC m f + pnC m f / 2 else pnC m f) (by unfold pnC; split <;> omega) ?_
      exact J_1
    · skip
      refine v_iload (j := 0) (x := jI (jmax 0 (m - f))) G dX0_shineOf_14 rfl ?_
      refine v_iload (j := 0) (x := jI (jmax 0 (m - f))) G dX0_shineOf_16 rfl ?_
      refine v_iconst G dX0_shineOf_18 ?_
      refine v_idiv (z := (jmax 0 (m - f)) / 2) G dX0_shineOf_19 (by omega) rfl ?_
      refine v_iadd (z := (jmax 0 (m - f)) + ((jmax 0 (m - f)) / 2)) G dX0_shineOf_20 rfl ?_
      refine v_goto (tgt := 26) G dX0_shineOf_21 (by decide) ?_
      refine v_topj (x := (jmax 0 (m - f)) + ((jmax 0 (m - f)) / 2)) (y := if 1 < v then pnC m f + pnC m f / 2 else pnC m f) (by unfold pnC; split <;> omega) ?_
      exact J_1

set_option maxHeartbeats 4000000 in
set_option maxRecDepth 100000 in
theorem c_X0_settleOn (n : Int) (hw : Wc x) (hn : 0 ≤ n ∧ n ≤ 100) : Cv l yX0_settleOn wsX0_settleOn { frames := 3, cells := 0, slots := 0, locals := 69 } D (jT cI cL cB cS) [.ref (c 0), .ref (b 0), .int (jI n)] (gG cI c g ++ gW cI b x) (S := Unit) (fun _ => (gG cI c (glS x n g) ++ gW cI b x)) (fun _ => True) := by
  refine Cv.mk (cc := cX0_settleOn) (maxL := 4) (by decide) rfl (Nat.le_of_ble_eq_true rfl) rfl ?_
  intro p_ e_ s_ m_ b_ me_ c_ A_ G hnm
  have hm := hw.many
  have k_X7 : ∀ w ∈ u_ws RX7 TX7 12, w ∈ wsX0_settleOn := fun _ h => List.mem_cons_of_mem _ (List.mem_append_left _ (List.mem_append_right _ h))
  have q_1 : Cond.fieldLink RX0 28 "SupperLight$World" "beings" "I" ∈ wsX0_settleOn := List.mem_of_getElem? (i := 1) rfl
  have k_X0 : ∀ w ∈ u_ws RX0 TX0 5, w ∈ wsX0_settleOn := fun _ h => List.mem_cons_of_mem _ (List.mem_append_right _ h)
  have q_3 : Cond.fieldLink RX0 9 "SupperLight$Glow" "beings" "I" ∈ wsX0_settleOn := List.mem_of_getElem? (i := 2) rfl
  have q_4 : Cond.fieldLink RX0 22 "SupperLight$Glow" "shines" "[I" ∈ wsX0_settleOn := List.mem_of_getElem? (i := 7) rfl
  have q_5 : Cond.fieldLink RX0 38 "SupperLight$World" "kinds" "[I" ∈ wsX0_settleOn := List.mem_of_getElem? (i := 6) rfl
  have q_6 : Cond.fieldLink RX0 45 "SupperLight$World" "meals" "[I" ∈ wsX0_settleOn := List.mem_of_getElem? (i := 8) rfl
  have q_7 : Cond.fieldLink RX0 25 "SupperLight$Glow" "voices" "[I" ∈ wsX0_settleOn := List.mem_of_getElem? (i := 4) rfl
  have q_8 : Cond.fieldLink RX0 19 "SupperLight$Glow" "stands" "[I" ∈ wsX0_settleOn := List.mem_of_getElem? (i := 5) rfl
  have q_9 : Cond.initialized RX8 ∈ wsX0_settleOn := List.mem_of_getElem? (i := 29) rfl
  have q_10 : Cond.static yX8_isUnder ∈ wsX0_settleOn := List.mem_of_getElem? (i := 35) rfl
  have q_11 : Cond.fieldLink RX0 15 "SupperLight$Glow" "bowls" "[I" ∈ wsX0_settleOn := List.mem_of_getElem? (i := 3) rfl
  refine v_aload_n (j := 0) (x := c 0) G dX0_settleOn_0 rfl rfl ?_
  refine v_aload_n (j := 1) (x := b 0) G dX0_settleOn_1 rfl rfl ?_
  refine v_get (q0 := 5) (k := 2) (v := .int (jI x.2.2.1)) G k_X7 rfl rfl (by decide) q_1 rfl rfl dX0_settleOn_2 ?_
  refine v_put (q0 := 0) (k := 0) (ty := .int) (ws' := (gG cI c (x.2.2.1, g.2.1, g.2.2.1, g.2.2.2.1, g.2.2.2.2) ++ gW cI b x)) G k_X0 tyX0 tyX0_ok nmX0 rfl rfl (by decide) q_3 rfl rfl rfl rfl rfl (Nat.le_of_ble_eq_true rfl) rfl dX0_settleOn_5 ?_
  refine v_iconst G dX0_settleOn_8 ?_
  refine v_istore_n (lv' := [(3, .int (jI 0)), (0, .ref (c 0)), (1, .ref (b 0)), (2, .int (jI n))]) G dX0_settleOn_9 rfl (by decide) rfl ?_
  refine v_cell (q0 := 1) (g := g.2.1) (g' := cpN (boF x n) g.2.1 0) (ws' := (gG cI c (x.2.2.1, cpN (boF x n) g.2.1 0, g.2.2.1, g.2.2.2.1, g.2.2.2.2) ++ gW cI b x)) rfl (fun j h0 _ => by unfold cpN; rw [if_neg (by omega)]) rfl ?_
  refine v_cell (q0 := 4) (g := g.2.2.2.2) (g' := cpN (fun _ => 0) g.2.2.2.2 0) (ws' := (gG cI c (x.2.2.1, cpN (boF x n) g.2.1 0, g.2.2.1, g.2.2.2.1, cpN (fun _ => 0) g.2.2.2.2 0) ++ gW cI b x)) rfl (fun j h0 _ => by unfold cpN; rw [if_neg (by omega)]) rfl ?_
  refine v_locs (lv' := [(3, .int (jI 0)), (0, .ref (c 0)), (1, .ref (b 0)), (2, .int (jI n))]) [0, 1, 2, 3] rfl ?_
  refine v_loop1 (fun (q : Nat) => [(3, .int (jI (q : Int))), (0, .ref (c 0)), (1, .ref (b 0)), (2, .int (jI n))]) (fun (q : Nat) => (gG cI c (x.2.2.1, cpN (boF x n) g.2.1 q, g.2.2.1, g.2.2.2.1, cpN (fun _ => 0) g.2.2.2.2 q) ++ gW cI b x)) (fun (q : Nat) => (q : Int) ≤ 16) (fun (q : Nat) => 16 - q) 0 (by decide) rfl rfl ?_
  intro q I_1 ih_2
  refine v_iload_n (j := 0) (x := jI (q : Int)) G dX0_settleOn_10 rfl rfl ?_
  refine v_bipush G dX0_settleOn_11 (by decide) ?_
  refine v_icmp_ge (a := (q : Int)) (b := 16) (tgt := 41) G dX0_settleOn_13 (by decide) (by omega) (fun c_3 => ?_) (fun c_3 => ?_)
  · skip
    obtain rfl : q = 16 := by omega
    refine v_cell (q0 := 1) (g := cpN (boF x n) g.2.1 16) (g' := boF x n) (ws' := (gG cI c (x.2.2.1, boF x n, g.2.2.1, g.2.2.2.1, cpN (fun _ => 0) g.2.2.2.2 16) ++ gW cI b x)) rfl (fun j h0 _ => by unfold cpN; rw [if_pos (by omega)]) rfl ?_
    refine v_cell (q0 := 4) (g := cpN (fun _ => 0) g.2.2.2.2 16) (g' := voF x n 0) (ws' := (gG cI c (x.2.2.1, boF x n, g.2.2.1, g.2.2.2.1, voF x n 0) ++ gW cI b x)) rfl (fun j h0 _ => by unfold cpN; rw [if_pos (by omega)]; rfl) rfl ?_
    refine v_cell (q0 := 2) (g := g.2.2.1) (g' := cpN (stF x n) g.2.2.1 0) (ws' := (gG cI c (x.2.2.1, boF x n, cpN (stF x n) g.2.2.1 0, g.2.2.2.1, voF x n 0) ++ gW cI b x)) rfl (fun j h0 _ => by unfold cpN; rw [if_neg (by omega)]) rfl ?_
    refine v_iconst G dX0_settleOn_41 ?_
    refine v_istore_n (lv' := [(3, .int (jI 0)), (0, .ref (c 0)), (1, .ref (b 0)), (2, .int (jI n))]) G dX0_settleOn_42 rfl (by decide) rfl ?_
    refine v_locs (lv' := [(3, .int (jI 0)), (0, .ref (c 0)), (1, .ref (b 0)), (2, .int (jI n))]) [0, 1, 2, 3] rfl ?_
    refine v_loop1 (fun (k : Nat) => [(3, .int (jI (k : Int))), (0, .ref (c 0)), (1, .ref (b 0)), (2, .int (jI n))]) (fun (k : Nat) => (gG cI c (x.2.2.1, boF x n, cpN (stF x n) g.2.2.1 k, g.2.2.2.1, voF x n k) ++ gW cI b x)) (fun (k : Nat) => (k : Int) ≤ x.2.2.1) (fun (k : Nat) => x.2.2.1.toNat - k) 0 (by omega) rfl rfl ?_
    intro k I_4 ih_5
    refine v_iload_n (j := 0) (x := jI (k : Int)) G dX0_settleOn_43 rfl rfl ?_
    refine v_aload_n (j := 1) (x := c 0) G dX0_settleOn_44 rfl rfl ?_
    refine v_get (q0 := 0) (k := 0) (v := .int (jI x.2.2.1)) G k_X0 rfl rfl (by decide) q_3 rfl rfl dX0_settleOn_45 ?_
    refine v_icmp_ge (a := (k : Int)) (b := x.2.2.1) (tgt := 97) G dX0_settleOn_48 (by decide) (by omega) (fun c_6 => ?_) (fun c_6 => ?_)
    · skip
      obtain rfl : k = x.2.2.1.toNat := by omega
      refine v_cell (q0 := 3) (g := g.2.2.2.1) (g' := cpN (shF x n) g.2.2.2.1 0) (ws' := (gG cI c (x.2.2.1, boF x n, cpN (stF x n) g.2.2.1 x.2.2.1.toNat, cpN (shF x n) g.2.2.2.1 0, voF x n x.2.2.1.toNat) ++ gW cI b x)) rfl (fun j h0 _ => by unfold cpN; rw [if_neg (by omega)]) rfl ?_
      refine v_iconst G dX0_settleOn_97 ?_
      refine v_istore_n (lv' := [(3, .int (jI 0)), (0, .ref (c 0)), (1, .ref (b 0)), (2, .int (jI n))]) G dX0_settleOn_98 rfl (by decide) rfl ?_
      refine v_locs (lv' := [(3, .int (jI 0)), (0, .ref (c 0)), (1, .ref (b 0)), (2, .int (jI n))]) [0, 1, 2, 3] rfl ?_
      refine v_loop1 (fun (r : Nat) => [(3, .int (jI (r : Int))), (0, .ref (c 0)), (1, .ref (b 0)), (2, .int (jI n))]) (fun (r : Nat) => (gG cI c (x.2.2.1, boF x n, cpN (stF x n) g.2.2.1 x.2.2.1.toNat, cpN (shF x n) g.2.2.2.1 r, voF x n x.2.2.1.toNat) ++ gW cI b x)) (fun (r : Nat) => (r : Int) ≤ x.2.2.1) (fun (r : Nat) => x.2.2.1.toNat - r) 0 (by omega) rfl rfl ?_
      intro r I_7 ih_8
      refine v_iload_n (j := 0) (x := jI (r : Int)) G dX0_settleOn_99 rfl rfl ?_
      refine v_aload_n (j := 1) (x := c 0) G dX0_settleOn_100 rfl rfl ?_
      refine v_get (q0 := 0) (k := 0) (v := .int (jI x.2.2.1)) G k_X0 rfl rfl (by decide) q_3 rfl rfl dX0_settleOn_101 ?_
      refine v_icmp_ge (a := (r : Int)) (b := x.2.2.1) (tgt := 151) G dX0_settleOn_104 (by decide) (by omega) (fun c_9 => ?_) (fun c_9 => ?_)
      · skip
        obtain rfl : r = x.2.2.1.toNat := by omega
        refine v_world (ws' := (gG cI c (glS x n g) ++ gW cI b x)) rfl ?_
        exact v_vret G () trivial rfl dX0_settleOn_151
      · skip
        have hb := hw.being (b := (r : Int)) (by omega) (by omega)
        have hsr : 0 ≤ stF x n (r : Int) ∧ stF x n (r : Int) ≤ 15 := cSt_r hn.1 (by omega) (by omega)
        have hfz := jmin_z 999 (x.2.2.2.2.2.2.2.1 (r : Int) + n)
        have hff : faF x n (r : Int) = jmin 999 (x.2.2.2.2.2.2.2.1 (r : Int) + n) := rfl
        have hvo := vo_r x n x.2.2.1.toNat (stF x n (r : Int))
        refine v_aload_n (j := 1) (x := c 0) G dX0_settleOn_107 rfl rfl ?_
        refine v_get (q0 := 0) (k := 3) (v := .ref (c 3)) G k_X0 rfl rfl (by decide) q_4 rfl rfl dX0_settleOn_108 ?_
        refine v_iload_n (j := 0) (x := jI (r : Int)) G dX0_settleOn_111 rfl rfl ?_
        refine v_aload_n (j := 2) (x := b 0) G dX0_settleOn_112 rfl rfl ?_
        refine v_get (q0 := 5) (k := 3) (v := .ref (b 2)) G k_X7 rfl rfl (by decide) q_5 rfl rfl dX0_settleOn_113 ?_
        refine v_iload_n (j := 0) (x := jI (r : Int)) G dX0_settleOn_116 rfl rfl ?_
        refine v_iald (q0 := 7) (t0 := 0) (g := x.2.2.2.1) (z := (r : Int)) G rfl rfl (by omega) dX0_settleOn_117 ?_
        refine v_aload_n (j := 2) (x := b 0) G dX0_settleOn_118 rfl rfl ?_
        refine v_get (q0 := 5) (k := 6) (v := .ref (b 5)) G k_X7 rfl rfl (by decide) q_6 rfl rfl dX0_settleOn_119 ?_
        refine v_iload_n (j := 0) (x := jI (r : Int)) G dX0_settleOn_122 rfl rfl ?_
        refine v_iald (q0 := 10) (t0 := 0) (g := x.2.2.2.2.2.2.1) (z := (r : Int)) G rfl rfl (by omega) dX0_settleOn_123 ?_
        refine v_aload_n (j := 2) (x := b 0) G dX0_settleOn_124 rfl rfl ?_
        refine v_iload_n (j := 0) (x := jI (r : Int)) G dX0_settleOn_125 rfl rfl ?_
        refine v_iload_n (j := 3) (x := jI n) G dX0_settleOn_126 rfl rfl ?_
        refine v_ciP (w2 := (fun _ => (gG cI c (x.2.2.1, boF x n, cpN (stF x n) g.2.2.1 x.2.2.1.toNat, cpN (shF x n) g.2.2.2.1 r, voF x n x.2.2.1.toNat) ++ gW cI b x))) (wr := (gG cI c (x.2.2.1, boF x n, cpN (stF x n) g.2.2.1 x.2.2.1.toNat, cpN (shF x n) g.2.2.2.1 r, voF x n x.2.2.1.toNat))) G (rn_V (As := [.int (jI (r : Int)), .int (jI n)]) (rest := [.int (jI (x.2.2.2.2.2.2.1 (r : Int))), .int (jI (x.2.2.2.1 (r : Int))), .int (jI (r : Int)), .ref (c 3)]) (q0 := 0) G (c_X7_fastsOn (z := (r : Int)) (n := n) (x := x) (b := b) (hw := hw) (hz := (by omega))) gX0_settleOn_X7_fastsOn rfl hdX7_fastsOn ⟨rfl, rfl, Nat.le_of_ble_eq_true rfl, Nat.le_of_ble_eq_true rfl⟩ rfl rfl (Nat.le_of_ble_eq_true rfl) ⟨Nat.zero_le _, Nat.zero_le _⟩ rfl rfl dX0_settleOn_127) [5, 6, 7, 8, 9, 10, 11, 12, 13, 14] [0, 1, 2, 3, 4] [0, 1, 2, 3, 4, 5, 6, 7, 8, 9, 10, 11, 12, 13, 14] rfl rfl (by decide) (fun _ => rfl) (fun r_10 u_12 e_11 => ?_)
        have e_11 : r_10 = jI (faF x n (r : Int)) := e_11
        subst e_11
        refine v_world (ws' := (gG cI c (x.2.2.1, boF x n, cpN (stF x n) g.2.2.1 x.2.2.1.toNat, cpN (shF x n) g.2.2.2.1 r, voF x n x.2.2.1.toNat) ++ gW cI b x)) rfl ?_
        refine v_aload_n (j := 1) (x := c 0) G dX0_settleOn_130 rfl rfl ?_
        refine v_get (q0 := 0) (k := 4) (v := .ref (c 4)) G k_X0 rfl rfl (by decide) q_7 rfl rfl dX0_settleOn_131 ?_
        refine v_aload_n (j := 1) (x := c 0) G dX0_settleOn_134 rfl rfl ?_
        refine v_get (q0 := 0) (k := 2) (v := .ref (c 2)) G k_X0 rfl rfl (by decide) q_8 rfl rfl dX0_settleOn_135 ?_
        refine v_iload_n (j := 0) (x := jI (r : Int)) G dX0_settleOn_138 rfl rfl ?_
        refine v_iald (q0 := 2) (t0 := 0) (g := cpN (stF x n) g.2.2.1 x.2.2.1.toNat) (z := (r : Int)) G rfl rfl (by omega) dX0_settleOn_139 ?_
        refine v_topj (x := (cpN (stF x n) g.2.2.1 x.2.2.1.toNat) (r : Int)) (y := stF x n (r : Int)) (if_pos (by omega)) ?_
        refine v_iald (q0 := 4) (t0 := 0) (g := voF x n x.2.2.1.toNat) (z := stF x n (r : Int)) G rfl rfl (by omega) dX0_settleOn_140 ?_
        refine v_ciN G (rn_S (As := [.int (jI (x.2.2.2.1 (r : Int))), .int (jI (x.2.2.2.2.2.2.1 (r : Int))), .int (jI (faF x n (r : Int))), .int (jI ((voF x n x.2.2.1.toNat) (stF x n (r : Int))))]) (rest := [.int (jI (r : Int)), .ref (c 3)]) G (c_X0_shineOf (k := x.2.2.2.1 (r : Int)) (m := x.2.2.2.2.2.2.1 (r : Int)) (f := faF x n (r : Int)) (v := (voF x n x.2.2.1.toNat) (stF x n (r : Int))) (hr := (by omega))) gX0_settleOn_X0_shineOf rfl hdX0_shineOf ⟨rfl, rfl, Nat.le_of_ble_eq_true rfl, Nat.le_of_ble_eq_true rfl⟩ rfl rfl (Nat.le_of_ble_eq_true rfl) ⟨Nat.zero_le _, Nat.zero_le _⟩ dX0_settleOn_141) (fun r_13 u_15 e_14 => ?_)
        have e_14 : r_13 = jI (cSh (x.2.2.2.1 (r : Int)) (x.2.2.2.2.2.2.1 (r : Int)) (faF x n (r : Int)) ((voF x n x.2.2.1.toNat) (stF x n (r : Int)))) := e_14
        subst e_14
        refine v_topj (x := cSh (x.2.2.2.1 (r : Int)) (x.2.2.2.2.2.2.1 (r : Int)) (faF x n (r : Int)) ((voF x n x.2.2.1.toNat) (stF x n (r : Int)))) (y := shF x n (r : Int)) rfl ?_
        refine v_iast (q0 := 3) (t0 := 0) (g := cpN (shF x n) g.2.2.2.1 r) (z := (r : Int)) (x := shF x n (r : Int)) (ws' := (gG cI c (x.2.2.1, boF x n, cpN (stF x n) g.2.2.1 x.2.2.1.toNat, uI (cpN (shF x n) g.2.2.2.1 r) (r : Int) (shF x n (r : Int)), voF x n x.2.2.1.toNat) ++ gW cI b x)) G rfl rfl (by omega) rfl dX0_settleOn_144 ?_
        refine v_cell (q0 := 3) (g := uI (cpN (shF x n) g.2.2.2.1 r) (r : Int) (shF x n (r : Int))) (g' := cpN (shF x n) g.2.2.2.1 (r + 1)) (ws' := (gG cI c (x.2.2.1, boF x n, cpN (stF x n) g.2.2.1 x.2.2.1.toNat, cpN (shF x n) g.2.2.2.1 (r + 1), voF x n x.2.2.1.toNat) ++ gW cI b x)) rfl (fun j h0 _ => cpN_s (shF x n) g.2.2.2.1 r j h0) rfl ?_
        refine v_iinc (k := 0) (z := (r : Int)) (z' := ((r + 1 : Nat) : Int)) (lv' := [(3, .int (jI ((r + 1 : Nat) : Int))), (0, .ref (c 0)), (1, .ref (b 0)), (2, .int (jI n))]) G dX0_settleOn_145 rfl (by omega) (by decide) rfl ?_
        refine v_goto (tgt := 99) G dX0_settleOn_148 (by decide) ?_
        exact ih_8 (r + 1) (by omega) (by omega)
    · skip
      have hb := hw.being (b := (k : Int)) (by omega) (by omega)
      have hsr : 0 ≤ stF x n (k : Int) ∧ stF x n (k : Int) ≤ 15 := cSt_r hn.1 (by omega) (by omega)
      refine v_aload_n (j := 1) (x := c 0) G dX0_settleOn_51 rfl rfl ?_
      refine v_get (q0 := 0) (k := 2) (v := .ref (c 2)) G k_X0 rfl rfl (by decide) q_8 rfl rfl dX0_settleOn_52 ?_
      refine v_iload_n (j := 0) (x := jI (k : Int)) G dX0_settleOn_55 rfl rfl ?_
      refine v_aload_n (j := 2) (x := b 0) G dX0_settleOn_56 rfl rfl ?_
      refine v_iload_n (j := 0) (x := jI (k : Int)) G dX0_settleOn_57 rfl rfl ?_
      refine v_iload_n (j := 3) (x := jI n) G dX0_settleOn_58 rfl rfl ?_
      refine v_ciP (w2 := (fun _ => (gG cI c (x.2.2.1, boF x n, cpN (stF x n) g.2.2.1 k, g.2.2.2.1, voF x n k) ++ gW cI b x))) (wr := (gG cI c (x.2.2.1, boF x n, cpN (stF x n) g.2.2.1 k, g.2.2.2.1, voF x n k))) G (rn_V (As := [.int (jI (k : Int)), .int (jI n)]) (rest := [.int (jI (k : Int)), .ref (c 2)]) (q0 := 0) G (c_X7_standsOn (z := (k : Int)) (n := n) (x := x) (b := b) (hw := hw) (hz := (by omega))) gX0_settleOn_X7_standsOn rfl hdX7_standsOn ⟨rfl, rfl, Nat.le_of_ble_eq_true rfl, Nat.le_of_ble_eq_true rfl⟩ rfl rfl (Nat.le_of_ble_eq_true rfl) ⟨Nat.zero_le _, Nat.zero_le _⟩ rfl rfl dX0_settleOn_59) [5, 6, 7, 8, 9, 10, 11, 12, 13, 14] [0, 1, 2, 3, 4] [0, 1, 2, 3, 4, 5, 6, 7, 8, 9, 10, 11, 12, 13, 14] rfl rfl (by decide) (fun _ => rfl) (fun r_16 u_18 e_17 => ?_)
      have e_17 : r_16 = jI (stF x n (k : Int)) := e_17
      subst e_17
      refine v_world (ws' := (gG cI c (x.2.2.1, boF x n, cpN (stF x n) g.2.2.1 k, g.2.2.2.1, voF x n k) ++ gW cI b x)) rfl ?_
      refine v_iast (q0 := 2) (t0 := 0) (g := cpN (stF x n) g.2.2.1 k) (z := (k : Int)) (x := stF x n (k : Int)) (ws' := (gG cI c (x.2.2.1, boF x n, uI (cpN (stF x n) g.2.2.1 k) (k : Int) (stF x n (k : Int)), g.2.2.2.1, voF x n k) ++ gW cI b x)) G rfl rfl (by omega) rfl dX0_settleOn_62 ?_
      refine v_cell (q0 := 2) (g := uI (cpN (stF x n) g.2.2.1 k) (k : Int) (stF x n (k : Int))) (g' := cpN (stF x n) g.2.2.1 (k + 1)) (ws' := (gG cI c (x.2.2.1, boF x n, cpN (stF x n) g.2.2.1 (k + 1), g.2.2.2.1, voF x n k) ++ gW cI b x)) rfl (fun j h0 _ => cpN_s (stF x n) g.2.2.1 k j h0) rfl ?_
      refine v_aload_n (j := 2) (x := b 0) G dX0_settleOn_63 rfl rfl ?_
      refine v_get (q0 := 5) (k := 3) (v := .ref (b 2)) G k_X7 rfl rfl (by decide) q_5 rfl rfl dX0_settleOn_64 ?_
      refine v_iload_n (j := 0) (x := jI (k : Int)) G dX0_settleOn_67 rfl rfl ?_
      refine v_iald (q0 := 7) (t0 := 0) (g := x.2.2.2.1) (z := (k : Int)) G rfl rfl (by omega) dX0_settleOn_68 ?_
      refine v_iconst G dX0_settleOn_69 ?_
      refine v_ciN G (rn_N (As := [.int (jI (x.2.2.2.1 (k : Int))), .int (jI 1)]) (rest := []) G (c_X8_isUnder (k := x.2.2.2.1 (k : Int)) (u := 1) (hk := (by omega))) gX0_settleOn_X8_isUnder_n41 rfl (List.mem_of_getElem? (i := 0) rfl) q_9 q_10 hdX8_isUnder ⟨rfl, rfl, Nat.le_of_ble_eq_true rfl, Nat.le_of_ble_eq_true rfl⟩ rfl rfl (Nat.le_of_ble_eq_true rfl) ⟨Nat.zero_le _, Nat.zero_le _⟩ dX0_settleOn_70) (fun r_19 u_21 e_20 => ?_)
      have e_20 : r_19 = jI (b2 (unN (x.2.2.2.1 (k : Int)) 1 6)) := e_20
      subst e_20
      refine v_ifb_eq (P := unN (x.2.2.2.1 (k : Int)) 1 6) (tgt := 91) G dX0_settleOn_73 (by decide) (fun c_22 => ?_) (fun c_22 => ?_)
      · skip
        refine v_world (ws' := (gG cI c (x.2.2.1, boF x n, cpN (stF x n) g.2.2.1 (k + 1), g.2.2.2.1, voF x n (k + 1)) ++ gW cI b x)) (by rw [vo_f (x := x) (n := n) (k := k) (by assumption)]) ?_
        refine v_iinc (k := 0) (z := (k : Int)) (z' := ((k + 1 : Nat) : Int)) (lv' := [(3, .int (jI ((k + 1 : Nat) : Int))), (0, .ref (c 0)), (1, .ref (b 0)), (2, .int (jI n))]) G dX0_settleOn_91 rfl (by omega) (by decide) rfl ?_
        refine v_goto (tgt := 43) G dX0_settleOn_94 (by decide) ?_
        exact ih_5 (k + 1) (by omega) (by omega)
      · skip
        refine v_aload_n (j := 1) (x := c 0) G dX0_settleOn_76 rfl rfl ?_
        refine v_get (q0 := 0) (k := 4) (v := .ref (c 4)) G k_X0 rfl rfl (by decide) q_7 rfl rfl dX0_settleOn_77 ?_
        refine v_aload_n (j := 1) (x := c 0) G dX0_settleOn_80 rfl rfl ?_
        refine v_get (q0 := 0) (k := 2) (v := .ref (c 2)) G k_X0 rfl rfl (by decide) q_8 rfl rfl dX0_settleOn_81 ?_
        refine v_iload_n (j := 0) (x := jI (k : Int)) G dX0_settleOn_84 rfl rfl ?_
        refine v_iald (q0 := 2) (t0 := 0) (g := cpN (stF x n) g.2.2.1 (k + 1)) (z := (k : Int)) G rfl rfl (by omega) dX0_settleOn_85 ?_
        refine v_topj (x := (cpN (stF x n) g.2.2.1 (k + 1)) (k : Int)) (y := stF x n (k : Int)) (if_pos (by omega)) ?_
        refine v_dup2 G dX0_settleOn_86 rfl rfl ?_
        refine v_iald (q0 := 4) (t0 := 0) (g := voF x n k) (z := stF x n (k : Int)) G rfl rfl (by omega) dX0_settleOn_87 ?_
        refine v_iconst G dX0_settleOn_88 ?_
        refine v_iadd (z := ((voF x n k) (stF x n (k : Int))) + 1) G dX0_settleOn_89 rfl ?_
        refine v_iast (q0 := 4) (t0 := 0) (g := voF x n k) (z := stF x n (k : Int)) (x := ((voF x n k) (stF x n (k : Int))) + 1) (ws' := (gG cI c (x.2.2.1, boF x n, cpN (stF x n) g.2.2.1 (k + 1), g.2.2.2.1, uI (voF x n k) (stF x n (k : Int)) (((voF x n k) (stF x n (k : Int))) + 1)) ++ gW cI b x)) G rfl rfl (by omega) rfl dX0_settleOn_90 ?_
        refine v_world (ws' := (gG cI c (x.2.2.1, boF x n, cpN (stF x n) g.2.2.1 (k + 1), g.2.2.2.1, voF x n (k + 1)) ++ gW cI b x)) (by rw [vo_t (x := x) (n := n) (k := k) (by assumption)]) ?_
        refine v_iinc (k := 0) (z := (k : Int)) (z' := ((k + 1 : Nat) : Int)) (lv' := [(3, .int (jI ((k + 1 : Nat) : Int))), (0, .ref (c 0)), (1, .ref (b 0)), (2, .int (jI n))]) G dX0_settleOn_91 rfl (by omega) (by decide) rfl ?_
        refine v_goto (tgt := 43) G dX0_settleOn_94 (by decide) ?_
        exact ih_5 (k + 1) (by omega) (by omega)
  · skip
    refine v_aload_n (j := 1) (x := c 0) G dX0_settleOn_16 rfl rfl ?_
    refine v_get (q0 := 0) (k := 1) (v := .ref (c 1)) G k_X0 rfl rfl (by decide) q_11 rfl rfl dX0_settleOn_17 ?_
    refine v_iload_n (j := 0) (x := jI (q : Int)) G dX0_settleOn_20 rfl rfl ?_
    refine v_aload_n (j := 2) (x := b 0) G dX0_settleOn_21 rfl rfl ?_
    refine v_iload_n (j := 0) (x := jI (q : Int)) G dX0_settleOn_22 rfl rfl ?_
    refine v_iload_n (j := 3) (x := jI n) G dX0_settleOn_23 rfl rfl ?_
    refine v_ciP (w2 := (fun _ => (gG cI c (x.2.2.1, cpN (boF x n) g.2.1 q, g.2.2.1, g.2.2.2.1, cpN (fun _ => 0) g.2.2.2.2 q) ++ gW cI b x))) (wr := (gG cI c (x.2.2.1, cpN (boF x n) g.2.1 q, g.2.2.1, g.2.2.2.1, cpN (fun _ => 0) g.2.2.2.2 q))) G (rn_V (As := [.int (jI (q : Int)), .int (jI n)]) (rest := [.int (jI (q : Int)), .ref (c 1)]) (q0 := 0) G (c_X7_bowlOn (p := (q : Int)) (n := n) (x := x) (b := b) (hw := hw) (hp := (by omega))) gX0_settleOn_X7_bowlOn rfl hdX7_bowlOn ⟨rfl, rfl, Nat.le_of_ble_eq_true rfl, Nat.le_of_ble_eq_true rfl⟩ rfl rfl (Nat.le_of_ble_eq_true rfl) ⟨Nat.zero_le _, Nat.zero_le _⟩ rfl rfl dX0_settleOn_24) [5, 6, 7, 8, 9, 10, 11, 12, 13, 14] [0, 1, 2, 3, 4] [0, 1, 2, 3, 4, 5, 6, 7, 8, 9, 10, 11, 12, 13, 14] rfl rfl (by decide) (fun _ => rfl) (fun r_23 u_25 e_24 => ?_)
    have e_24 : r_23 = jI (boF x n (q : Int)) := e_24
    subst e_24
    refine v_world (ws' := (gG cI c (x.2.2.1, cpN (boF x n) g.2.1 q, g.2.2.1, g.2.2.2.1, cpN (fun _ => 0) g.2.2.2.2 q) ++ gW cI b x)) rfl ?_
    refine v_iast (q0 := 1) (t0 := 0) (g := cpN (boF x n) g.2.1 q) (z := (q : Int)) (x := boF x n (q : Int)) (ws' := (gG cI c (x.2.2.1, uI (cpN (boF x n) g.2.1 q) (q : Int) (boF x n (q : Int)), g.2.2.1, g.2.2.2.1, cpN (fun _ => 0) g.2.2.2.2 q) ++ gW cI b x)) G rfl rfl (by omega) rfl dX0_settleOn_27 ?_
    refine v_cell (q0 := 1) (g := uI (cpN (boF x n) g.2.1 q) (q : Int) (boF x n (q : Int))) (g' := cpN (boF x n) g.2.1 (q + 1)) (ws' := (gG cI c (x.2.2.1, cpN (boF x n) g.2.1 (q + 1), g.2.2.1, g.2.2.2.1, cpN (fun _ => 0) g.2.2.2.2 q) ++ gW cI b x)) rfl (fun j h0 _ => cpN_s (boF x n) g.2.1 q j h0) rfl ?_
    refine v_aload_n (j := 1) (x := c 0) G dX0_settleOn_28 rfl rfl ?_
    refine v_get (q0 := 0) (k := 4) (v := .ref (c 4)) G k_X0 rfl rfl (by decide) q_7 rfl rfl dX0_settleOn_29 ?_
    refine v_iload_n (j := 0) (x := jI (q : Int)) G dX0_settleOn_32 rfl rfl ?_
    refine v_iconst G dX0_settleOn_33 ?_
    refine v_iast (q0 := 4) (t0 := 0) (g := cpN (fun _ => 0) g.2.2.2.2 q) (z := (q : Int)) (x := 0) (ws' := (gG cI c (x.2.2.1, cpN (boF x n) g.2.1 (q + 1), g.2.2.1, g.2.2.2.1, uI (cpN (fun _ => 0) g.2.2.2.2 q) (q : Int) 0) ++ gW cI b x)) G rfl rfl (by omega) rfl dX0_settleOn_34 ?_
    refine v_cell (q0 := 4) (g := uI (cpN (fun _ => 0) g.2.2.2.2 q) (q : Int) 0) (g' := cpN (fun _ => 0) g.2.2.2.2 (q + 1)) (ws' := (gG cI c (x.2.2.1, cpN (boF x n) g.2.1 (q + 1), g.2.2.1, g.2.2.2.1, cpN (fun _ => 0) g.2.2.2.2 (q + 1)) ++ gW cI b x)) rfl (fun j h0 _ => cpN_s (fun _ => 0) g.2.2.2.2 q j h0) rfl ?_
    refine v_iinc (k := 0) (z := (q : Int)) (z' := ((q + 1 : Nat) : Int)) (lv' := [(3, .int (jI ((q + 1 : Nat) : Int))), (0, .ref (c 0)), (1, .ref (b 0)), (2, .int (jI n))]) G dX0_settleOn_35 rfl (by omega) (by decide) rfl ?_
    refine v_goto (tgt := 10) G dX0_settleOn_38 (by decide) ?_
    exact ih_2 (q + 1) (by omega) (by omega)

set_option maxHeartbeats 4000000 in
set_option maxRecDepth 100000 in
theorem c_X0_givesTo (z p : Int) (hg : Gf g) (hz : (0 ≤ z ∧ z < g.1) ∧ 0 ≤ p ∧ p < 16) : Ci l yX0_givesTo wsX0_givesTo { frames := 2, cells := 0, slots := 0, locals := 42 } D (jT cI cL cB cS) [.ref (c 0), .int (jI z), .int (jI p)] (gG cI c g) (S := Unit) (fun _ => (gG cI c g)) (fun r _ => r = jI (gvT g z p)) := by
  refine Ci.mk (cc := cX0_givesTo) (maxL := 3) (rt := .int) (by decide) rfl (Nat.le_of_ble_eq_true rfl) rfl ?_
  intro p_ e_ s_ m_ b_ me_ c_ A_ G hnm
  have h1 := hg.1
  have h2 := hg.2.2 z (by omega) (by omega)
  have hq := apt_r (a := g.2.2.1 z) (b := p) (by omega) (by omega)
  have k_X0 : ∀ w ∈ u_ws RX0 TX0 5, w ∈ wsX0_givesTo := fun _ h => List.mem_cons_of_mem _ (List.mem_append_right _ h)
  have q_1 : Cond.fieldLink RX0 22 "SupperLight$Glow" "shines" "[I" ∈ wsX0_givesTo := List.mem_of_getElem? (i := 1) rfl
  have q_2 : Cond.fieldLink RX0 19 "SupperLight$Glow" "stands" "[I" ∈ wsX0_givesTo := List.mem_of_getElem? (i := 2) rfl
  have q_3 : Cond.initialized RX8 ∈ wsX0_givesTo := List.mem_of_getElem? (i := 4) rfl
  have q_4 : Cond.static yX8_stepsBetween ∈ wsX0_givesTo := List.mem_of_getElem? (i := 3) rfl
  refine v_aload_n (j := 0) (x := c 0) G dX0_givesTo_0 rfl rfl ?_
  refine v_get (q0 := 0) (k := 3) (v := .ref (c 3)) G k_X0 rfl rfl (by decide) q_1 rfl rfl dX0_givesTo_1 ?_
  refine v_iload_n (j := 1) (x := jI z) G dX0_givesTo_4 rfl rfl ?_
  refine v_iald (q0 := 3) (t0 := 0) (g := g.2.2.2.1) (z := z) G rfl rfl (by omega) dX0_givesTo_5 ?_
  refine v_aload_n (j := 0) (x := c 0) G dX0_givesTo_6 rfl rfl ?_
  refine v_get (q0 := 0) (k := 2) (v := .ref (c 2)) G k_X0 rfl rfl (by decide) q_2 rfl rfl dX0_givesTo_7 ?_
  refine v_iload_n (j := 1) (x := jI z) G dX0_givesTo_10 rfl rfl ?_
  refine v_iald (q0 := 2) (t0 := 0) (g := g.2.2.1) (z := z) G rfl rfl (by omega) dX0_givesTo_11 ?_
  refine v_iload_n (j := 2) (x := jI p) G dX0_givesTo_12 rfl rfl ?_
  refine v_ciN G (rn_N (As := [.int (jI (g.2.2.1 z)), .int (jI p)]) (rest := [.int (jI (g.2.2.2.1 z))]) G (c_X8_stepsBetween (x := g.2.2.1 z) (y := p) (hx := (by omega))) gX0_givesTo_X8_stepsBetween_n60 rfl (List.mem_of_getElem? (i := 1) rfl) q_3 q_4 hdX8_stepsBetween ⟨rfl, rfl, Nat.le_of_ble_eq_true rfl, Nat.le_of_ble_eq_true rfl⟩ rfl rfl (Nat.le_of_ble_eq_true rfl) ⟨Nat.zero_le _, Nat.zero_le _⟩ dX0_givesTo_13) (fun r_1 u_3 e_2 => ?_)
  have e_2 : r_1 = jI (apt (g.2.2.1 z) p) := e_2
  subst e_2
  refine v_ishr (v := (jI (g.2.2.2.1 z)) >>> ((jI (apt (g.2.2.1 z) p)) &&& 31)) G dX0_givesTo_16 rfl ?_
  refine v_top (x := (jI (g.2.2.2.1 z)) >>> ((jI (apt (g.2.2.1 z) p)) &&& 31)) (y := jI (gvT g z p)) (jI_shrI (by omega) (by omega)) ?_
  exact v_iret G () rfl rfl dX0_givesTo_17

set_option maxHeartbeats 4000000 in
set_option maxRecDepth 100000 in
theorem c_X0_lightOf (p : Int) (hg : Gf g) (hp : 0 ≤ p ∧ p < 16) : Ci l yX0_lightOf wsX0_lightOf { frames := 3, cells := 0, slots := 0, locals := 64 } D (jT cI cL cB cS) [.ref (c 0), .int (jI p)] (gG cI c g) (S := Unit) (fun _ => (gG cI c g)) (fun r _ => r = jI (ltT g p)) := by
  refine Ci.mk (cc := cX0_lightOf) (maxL := 4) (rt := .int) (by decide) rfl (Nat.le_of_ble_eq_true rfl) rfl ?_
  intro p_ e_ s_ m_ b_ me_ c_ A_ G hnm
  have h1 := hg.1
  have k_X0 : ∀ w ∈ u_ws RX0 TX0 5, w ∈ wsX0_lightOf := fun _ h => List.mem_cons_of_mem _ (List.mem_append_right _ h)
  have q_1 : Cond.fieldLink RX0 15 "SupperLight$Glow" "bowls" "[I" ∈ wsX0_lightOf := List.mem_of_getElem? (i := 1) rfl
  have q_2 : Cond.fieldLink RX0 9 "SupperLight$Glow" "beings" "I" ∈ wsX0_lightOf := List.mem_of_getElem? (i := 2) rfl
  refine v_aload_n (j := 0) (x := c 0) G dX0_lightOf_0 rfl rfl ?_
  refine v_get (q0 := 0) (k := 1) (v := .ref (c 1)) G k_X0 rfl rfl (by decide) q_1 rfl rfl dX0_lightOf_1 ?_
  refine v_iload_n (j := 1) (x := jI p) G dX0_lightOf_4 rfl rfl ?_
  refine v_iald (q0 := 1) (t0 := 0) (g := g.2.1) (z := p) G rfl rfl (by omega) dX0_lightOf_5 ?_
  refine v_topj (x := g.2.1 p) (y := g.2.1 p + sumN (fun x_ => gvT g x_ p) 0) (Int.add_zero _).symm ?_
  refine v_istore_n (lv' := [(2, .int (jI (g.2.1 p + sumN (fun x_ => gvT g x_ p) 0))), (0, .ref (c 0)), (1, .int (jI p))]) G dX0_lightOf_6 rfl (by decide) rfl ?_
  refine v_iconst G dX0_lightOf_7 ?_
  refine v_istore_n (lv' := [(3, .int (jI 0)), (2, .int (jI (g.2.1 p + sumN (fun x_ => gvT g x_ p) 0))), (0, .ref (c 0)), (1, .int (jI p))]) G dX0_lightOf_8 rfl (by decide) rfl ?_
  refine v_locs (lv' := [(3, .int (jI 0)), (2, .int (jI (g.2.1 p + sumN (fun x_ => gvT g x_ p) 0))), (0, .ref (c 0)), (1, .int (jI p))]) [0, 1, 2, 3] rfl ?_
  refine v_loop1 (fun (k : Nat) => [(3, .int (jI (k : Int))), (2, .int (jI (g.2.1 p + sumN (fun x_ => gvT g x_ p) k))), (0, .ref (c 0)), (1, .int (jI p))]) (fun (k : Nat) => (gG cI c g)) (fun (k : Nat) => (k : Int) ≤ g.1) (fun (k : Nat) => g.1.toNat - k) 0 (by omega) rfl rfl ?_
  intro k I_1 ih_2
  refine v_iload_n (j := 0) (x := jI (k : Int)) G dX0_lightOf_9 rfl rfl ?_
  refine v_aload_n (j := 2) (x := c 0) G dX0_lightOf_10 rfl rfl ?_
  refine v_get (q0 := 0) (k := 0) (v := .int (jI g.1)) G k_X0 rfl rfl (by decide) q_2 rfl rfl dX0_lightOf_11 ?_
  refine v_icmp_ge (a := (k : Int)) (b := g.1) (tgt := 32) G dX0_lightOf_14 (by decide) (by omega) (fun c_3 => ?_) (fun c_3 => ?_)
  · skip
    obtain rfl : k = g.1.toNat := by omega
    refine v_iload_n (j := 1) (x := jI (g.2.1 p + sumN (fun x_ => gvT g x_ p) g.1.toNat)) G dX0_lightOf_32 rfl rfl ?_
    exact v_iret G () (show jI (g.2.1 p + sumN (fun x_ => gvT g x_ p) g.1.toNat) = jI (ltT g p) from rfl) rfl dX0_lightOf_33
  · skip
    refine v_iload_n (j := 1) (x := jI (g.2.1 p + sumN (fun x_ => gvT g x_ p) k)) G dX0_lightOf_17 rfl rfl ?_
    refine v_aload_n (j := 2) (x := c 0) G dX0_lightOf_18 rfl rfl ?_
    refine v_iload_n (j := 0) (x := jI (k : Int)) G dX0_lightOf_19 rfl rfl ?_
    refine v_iload_n (j := 3) (x := jI p) G dX0_lightOf_20 rfl rfl ?_
    refine v_ciF G (rn_V (As := [.int (jI (k : Int)), .int (jI p)]) (rest := [.int (jI (g.2.1 p + sumN (fun x_ => gvT g x_ p) k))]) (q0 := 0) G (c_X0_givesTo (z := (k : Int)) (p := p) (g := g) (c := c) (hg := hg) (hz := (by omega))) gX0_lightOf_X0_givesTo rfl hdX0_givesTo ⟨rfl, rfl, Nat.le_of_ble_eq_true rfl, Nat.le_of_ble_eq_true rfl⟩ rfl rfl (Nat.le_of_ble_eq_true rfl) ⟨Nat.zero_le _, Nat.zero_le _⟩ rfl rfl dX0_lightOf_21) (fun r_4 u_6 e_5 => ?_)
    have e_5 : r_4 = jI (gvT g (k : Int) p) := e_5
    subst e_5
    refine v_world (ws' := (gG cI c g)) rfl ?_
    refine v_iadd (z := (g.2.1 p + sumN (fun x_ => gvT g x_ p) k) + (gvT g (k : Int) p)) G dX0_lightOf_24 rfl ?_
    refine v_topj (x := (g.2.1 p + sumN (fun x_ => gvT g x_ p) k) + (gvT g (k : Int) p)) (y := g.2.1 p + sumN (fun x_ => gvT g x_ p) (k + 1)) (by rw [sumN_s]; omega) ?_
    refine v_istore_n (lv' := [(2, .int (jI (g.2.1 p + sumN (fun x_ => gvT g x_ p) (k + 1)))), (3, .int (jI (k : Int))), (0, .ref (c 0)), (1, .int (jI p))]) G dX0_lightOf_25 rfl (by decide) rfl ?_
    refine v_iinc (k := 1) (z := (k : Int)) (z' := ((k + 1 : Nat) : Int)) (lv' := [(3, .int (jI ((k + 1 : Nat) : Int))), (2, .int (jI (g.2.1 p + sumN (fun x_ => gvT g x_ p) (k + 1)))), (0, .ref (c 0)), (1, .int (jI p))]) G dX0_lightOf_26 rfl (by omega) (by decide) rfl ?_
    refine v_goto (tgt := 9) G dX0_lightOf_29 (by decide) ?_
    exact ih_2 (k + 1) (by omega) (by omega)

set_option maxHeartbeats 4000000 in
set_option maxRecDepth 100000 in
theorem c_X0_isOut  (hg : Gf g) : Ci l yX0_isOut wsX0_isOut { frames := 1, cells := 0, slots := 0, locals := 23 } D (jT cI cL cB cS) [.ref (c 0)] (gG cI c g) (S := Unit) (fun _ => (gG cI c g)) (fun r _ => r = jI (b2 (sumN g.2.1 16 = 0 ∧ sumN g.2.2.2.1 g.1.toNat = 0))) := by
  refine Ci.mk (cc := cX0_isOut) (maxL := 1) (rt := .boolean) (by decide) rfl (Nat.le_of_ble_eq_true rfl) rfl ?_
  intro p_ e_ s_ m_ b_ me_ c_ A_ G hnm
  have h1 := hg.1
  have k_X0 : ∀ w ∈ u_ws RX0 TX0 5, w ∈ wsX0_isOut := fun _ h => List.mem_cons_of_mem _ (List.mem_append_right _ h)
  have q_1 : Cond.fieldLink RX0 15 "SupperLight$Glow" "bowls" "[I" ∈ wsX0_isOut := List.mem_of_getElem? (i := 1) rfl
  have q_2 : Cond.initialized RX8 ∈ wsX0_isOut := List.mem_of_getElem? (i := 5) rfl
  have q_3 : Cond.static yX8_sumOf ∈ wsX0_isOut := List.mem_of_getElem? (i := 4) rfl
  have q_4 : Cond.fieldLink RX0 22 "SupperLight$Glow" "shines" "[I" ∈ wsX0_isOut := List.mem_of_getElem? (i := 2) rfl
  have q_5 : Cond.fieldLink RX0 9 "SupperLight$Glow" "beings" "I" ∈ wsX0_isOut := List.mem_of_getElem? (i := 3) rfl
  refine v_aload_n (j := 0) (x := c 0) G dX0_isOut_0 rfl rfl ?_
  refine v_get (q0 := 0) (k := 1) (v := .ref (c 1)) G k_X0 rfl rfl (by decide) q_1 rfl rfl dX0_isOut_1 ?_
  refine v_bipush G dX0_isOut_4 (by decide) ?_
  refine v_ciA (q0 := 1) G rfl (rn_N (As := [.ref (c 1), .int (jI 16)]) (rest := []) G (c_X8_sumOf (n := 16) (y := c 1) (f := g.2.1) (N := 16) (hn := (by omega))) gX0_isOut_X8_sumOf_n66 rfl (List.mem_of_getElem? (i := 2) rfl) q_2 q_3 hdX8_sumOf ⟨rfl, rfl, Nat.le_of_ble_eq_true rfl, Nat.le_of_ble_eq_true rfl⟩ rfl rfl (Nat.le_of_ble_eq_true rfl) ⟨Nat.zero_le _, Nat.zero_le _⟩ dX0_isOut_6) (fun r_1 u_3 e_2 => ?_)
  have e_2 : r_1 = jI (sumN g.2.1 16) := e_2
  subst e_2
  have hs1 := sumN_le (f := g.2.1) (c := 99) (by omega) 16 (fun z y0 y1 => hg.2.1 z y0 (by omega))
  have hs2 := sumN_le (f := g.2.2.2.1) (c := 297) (by omega) g.1.toNat (fun z y0 y1 => (hg.2.2 z y0 (by omega)).2)
  refine v_if_ne (a := sumN g.2.1 16) (tgt := 30) G dX0_isOut_9 (by decide) (by omega) (fun c_4 => ?_) (fun c_4 => ?_)
  · skip
    refine v_iconst G dX0_isOut_30 ?_
    exact v_zret G () nb_0 (show jI 0 = jI (b2 (sumN g.2.1 16 = 0 ∧ sumN g.2.2.2.1 g.1.toNat = 0)) from congrArg jI (b2_f (P := sumN g.2.1 16 = 0 ∧ sumN g.2.2.2.1 g.1.toNat = 0) (by omega)).symm) rfl dX0_isOut_31
  · skip
    refine v_aload_n (j := 0) (x := c 0) G dX0_isOut_12 rfl rfl ?_
    refine v_get (q0 := 0) (k := 3) (v := .ref (c 3)) G k_X0 rfl rfl (by decide) q_4 rfl rfl dX0_isOut_13 ?_
    refine v_aload_n (j := 0) (x := c 0) G dX0_isOut_16 rfl rfl ?_
    refine v_get (q0 := 0) (k := 0) (v := .int (jI g.1)) G k_X0 rfl rfl (by decide) q_5 rfl rfl dX0_isOut_17 ?_
    refine v_ciA (q0 := 3) G rfl (rn_N (As := [.ref (c 3), .int (jI g.1)]) (rest := []) G (c_X8_sumOf (n := g.1) (y := c 3) (f := g.2.2.2.1) (N := 10) (hn := (by omega))) gX0_isOut_X8_sumOf_n66 rfl (List.mem_of_getElem? (i := 2) rfl) q_2 q_3 hdX8_sumOf ⟨rfl, rfl, Nat.le_of_ble_eq_true rfl, Nat.le_of_ble_eq_true rfl⟩ rfl rfl (Nat.le_of_ble_eq_true rfl) ⟨Nat.zero_le _, Nat.zero_le _⟩ dX0_isOut_20) (fun r_5 u_7 e_6 => ?_)
    have e_6 : r_5 = jI (sumN g.2.2.2.1 g.1.toNat) := e_6
    subst e_6
    refine v_if_ne (a := sumN g.2.2.2.1 g.1.toNat) (tgt := 30) G dX0_isOut_23 (by decide) (by omega) (fun c_8 => ?_) (fun c_8 => ?_)
    · skip
      refine v_iconst G dX0_isOut_30 ?_
      exact v_zret G () nb_0 (show jI 0 = jI (b2 (sumN g.2.1 16 = 0 ∧ sumN g.2.2.2.1 g.1.toNat = 0)) from congrArg jI (b2_f (P := sumN g.2.1 16 = 0 ∧ sumN g.2.2.2.1 g.1.toNat = 0) (by omega)).symm) rfl dX0_isOut_31
    · skip
      refine v_iconst G dX0_isOut_26 ?_
      refine v_goto (tgt := 31) G dX0_isOut_27 (by decide) ?_
      exact v_zret G () nb_1 (show jI 1 = jI (b2 (sumN g.2.1 16 = 0 ∧ sumN g.2.2.2.1 g.1.toNat = 0)) from congrArg jI (b2_t (P := sumN g.2.1 16 = 0 ∧ sumN g.2.2.2.1 g.1.toNat = 0) (by omega)).symm) rfl dX0_isOut_31

set_option maxHeartbeats 4000000 in
set_option maxRecDepth 100000 in
theorem c_J6_bitCount_0f7a4 (x : Int32)  : Ci l yJ6_bitCount_0f7a4 wsJ6_bitCount_0f7a4 { frames := 0, cells := 0, slots := 0, locals := 0 } D (jT cI cL cB cS) [.int x] [] (S := Unit) (fun _ => []) (fun r _ => r = bcF x) := by
  refine Ci.mk (cc := cJ6_bitCount_0f7a4) (maxL := 1) (rt := .int) (by decide) rfl (Nat.le_of_ble_eq_true rfl) rfl ?_
  intro p_ e_ s_ m_ b_ me_ c_ A_ G hnm
  have q_0 : Cond.constant RJ6 265 (1431655765) ∈ wsJ6_bitCount_0f7a4 := List.mem_of_getElem? (i := 1) rfl
  have q_1 : Cond.constant RJ6 266 (858993459) ∈ wsJ6_bitCount_0f7a4 := List.mem_of_getElem? (i := 2) rfl
  have q_2 : Cond.constant RJ6 267 (252645135) ∈ wsJ6_bitCount_0f7a4 := List.mem_of_getElem? (i := 3) rfl
  refine v_iload_n (j := 0) (x := x) G dJ6_bitCount_0f7a4_0 rfl rfl ?_
  refine v_iload_n (j := 0) (x := x) G dJ6_bitCount_0f7a4_1 rfl rfl ?_
  refine v_iconst G dJ6_bitCount_0f7a4_2 ?_
  refine v_iushr (v := (x.toUInt32 >>> ((jI 1).toUInt32 &&& Int32.toUInt32 31)).toInt32) G dJ6_bitCount_0f7a4_3 rfl ?_
  refine v_ldcw (z := 1431655765) G q_0 (by decide) dJ6_bitCount_0f7a4_4 ?_
  refine v_iand (v := ((x.toUInt32 >>> ((jI 1).toUInt32 &&& Int32.toUInt32 31)).toInt32) &&& (jI 1431655765)) G dJ6_bitCount_0f7a4_7 rfl ?_
  refine v_risub (v := x - (((x.toUInt32 >>> ((jI 1).toUInt32 &&& Int32.toUInt32 31)).toInt32) &&& (jI 1431655765))) G dJ6_bitCount_0f7a4_8 rfl ?_
  refine v_istore_n (lv' := [(0, .int (x - (((x.toUInt32 >>> ((jI 1).toUInt32 &&& Int32.toUInt32 31)).toInt32) &&& (jI 1431655765))))]) G dJ6_bitCount_0f7a4_9 rfl (by decide) rfl ?_
  refine v_iload_n (j := 0) (x := x - (((x.toUInt32 >>> ((jI 1).toUInt32 &&& Int32.toUInt32 31)).toInt32) &&& (jI 1431655765))) G dJ6_bitCount_0f7a4_10 rfl rfl ?_
  refine v_ldcw (z := 858993459) G q_1 (by decide) dJ6_bitCount_0f7a4_11 ?_
  refine v_iand (v := (x - (((x.toUInt32 >>> ((jI 1).toUInt32 &&& Int32.toUInt32 31)).toInt32) &&& (jI 1431655765))) &&& (jI 858993459)) G dJ6_bitCount_0f7a4_14 rfl ?_
  refine v_iload_n (j := 0) (x := x - (((x.toUInt32 >>> ((jI 1).toUInt32 &&& Int32.toUInt32 31)).toInt32) &&& (jI 1431655765))) G dJ6_bitCount_0f7a4_15 rfl rfl ?_
  refine v_iconst G dJ6_bitCount_0f7a4_16 ?_
  refine v_iushr (v := ((x - (((x.toUInt32 >>> ((jI 1).toUInt32 &&& Int32.toUInt32 31)).toInt32) &&& (jI 1431655765))).toUInt32 >>> ((jI 2).toUInt32 &&& Int32.toUInt32 31)).toInt32) G dJ6_bitCount_0f7a4_17 rfl ?_
  refine v_ldcw (z := 858993459) G q_1 (by decide) dJ6_bitCount_0f7a4_18 ?_
  refine v_iand (v := (((x - (((x.toUInt32 >>> ((jI 1).toUInt32 &&& Int32.toUInt32 31)).toInt32) &&& (jI 1431655765))).toUInt32 >>> ((jI 2).toUInt32 &&& Int32.toUInt32 31)).toInt32) &&& (jI 858993459)) G dJ6_bitCount_0f7a4_21 rfl ?_
  refine v_riadd (v := ((x - (((x.toUInt32 >>> ((jI 1).toUInt32 &&& Int32.toUInt32 31)).toInt32) &&& (jI 1431655765))) &&& (jI 858993459)) + ((((x - (((x.toUInt32 >>> ((jI 1).toUInt32 &&& Int32.toUInt32 31)).toInt32) &&& (jI 1431655765))).toUInt32 >>> ((jI 2).toUInt32 &&& Int32.toUInt32 31)).toInt32) &&& (jI 858993459))) G dJ6_bitCount_0f7a4_22 rfl ?_
  refine v_istore_n (lv' := [(0, .int (((x - (((x.toUInt32 >>> ((jI 1).toUInt32 &&& Int32.toUInt32 31)).toInt32) &&& (jI 1431655765))) &&& (jI 858993459)) + ((((x - (((x.toUInt32 >>> ((jI 1).toUInt32 &&& Int32.toUInt32 31)).toInt32) &&& (jI 1431655765))).toUInt32 >>> ((jI 2).toUInt32 &&& Int32.toUInt32 31)).toInt32) &&& (jI 858993459))))]) G dJ6_bitCount_0f7a4_23 rfl (by decide) rfl ?_
  refine v_iload_n (j := 0) (x := ((x - (((x.toUInt32 >>> ((jI 1).toUInt32 &&& Int32.toUInt32 31)).toInt32) &&& (jI 1431655765))) &&& (jI 858993459)) + ((((x - (((x.toUInt32 >>> ((jI 1).toUInt32 &&& Int32.toUInt32 31)).toInt32) &&& (jI 1431655765))).toUInt32 >>> ((jI 2).toUInt32 &&& Int32.toUInt32 31)).toInt32) &&& (jI 858993459))) G dJ6_bitCount_0f7a4_24 rfl rfl ?_
  refine v_iload_n (j := 0) (x := ((x - (((x.toUInt32 >>> ((jI 1).toUInt32 &&& Int32.toUInt32 31)).toInt32) &&& (jI 1431655765))) &&& (jI 858993459)) + ((((x - (((x.toUInt32 >>> ((jI 1).toUInt32 &&& Int32.toUInt32 31)).toInt32) &&& (jI 1431655765))).toUInt32 >>> ((jI 2).toUInt32 &&& Int32.toUInt32 31)).toInt32) &&& (jI 858993459))) G dJ6_bitCount_0f7a4_25 rfl rfl ?_
  refine v_iconst G dJ6_bitCount_0f7a4_26 ?_
  refine v_iushr (v := ((((x - (((x.toUInt32 >>> ((jI 1).toUInt32 &&& Int32.toUInt32 31)).toInt32) &&& (jI 1431655765))) &&& (jI 858993459)) + ((((x - (((x.toUInt32 >>> ((jI 1).toUInt32 &&& Int32.toUInt32 31)).toInt32) &&& (jI 1431655765))).toUInt32 >>> ((jI 2).toUInt32 &&& Int32.toUInt32 31)).toInt32) &&& (jI 858993459))).toUInt32 >>> ((jI 4).toUInt32 &&& Int32.toUInt32 31)).toInt32) G dJ6_bitCount_0f7a4_27 rfl ?_
  refine v_riadd (v := (((x - (((x.toUInt32 >>> ((jI 1).toUInt32 &&& Int32.toUInt32 31)).toInt32) &&& (jI 1431655765))) &&& (jI 858993459)) + ((((x - (((x.toUInt32 >>> ((jI 1).toUInt32 &&& Int32.toUInt32 31)).toInt32) &&& (jI 1431655765))).toUInt32 >>> ((jI 2).toUInt32 &&& Int32.toUInt32 31)).toInt32) &&& (jI 858993459))) + (((((x - (((x.toUInt32 >>> ((jI 1).toUInt32 &&& Int32.toUInt32 31)).toInt32) &&& (jI 1431655765))) &&& (jI 858993459)) + ((((x - (((x.toUInt32 >>> ((jI 1).toUInt32 &&& Int32.toUInt32 31)).toInt32) &&& (jI 1431655765))).toUInt32 >>> ((jI 2).toUInt32 &&& Int32.toUInt32 31)).toInt32) &&& (jI 858993459))).toUInt32 >>> ((jI 4).toUInt32 &&& Int32.toUInt32 31)).toInt32)) G dJ6_bitCount_0f7a4_28 rfl ?_
  refine v_ldcw (z := 252645135) G q_2 (by decide) dJ6_bitCount_0f7a4_29 ?_
  refine v_iand (v := ((((x - (((x.toUInt32 >>> ((jI 1).toUInt32 &&& Int32.toUInt32 31)).toInt32) &&& (jI 1431655765))) &&& (jI 858993459)) + ((((x - (((x.toUInt32 >>> ((jI 1).toUInt32 &&& Int32.toUInt32 31)).toInt32) &&& (jI 1431655765))).toUInt32 >>> ((jI 2).toUInt32 &&& Int32.toUInt32 31)).toInt32) &&& (jI 858993459))) + (((((x - (((x.toUInt32 >>> ((jI 1).toUInt32 &&& Int32.toUInt32 31)).toInt32) &&& (jI 1431655765))) &&& (jI 858993459)) + ((((x - (((x.toUInt32 >>> ((jI 1).toUInt32 &&& Int32.toUInt32 31)).toInt32) &&& (jI 1431655765))).toUInt32 >>> ((jI 2).toUInt32 &&& Int32.toUInt32 31)).toInt32) &&& (jI 858993459))).toUInt32 >>> ((jI 4).toUInt32 &&& Int32.toUInt32 31)).toInt32)) &&& (jI 252645135)) G dJ6_bitCount_0f7a4_32 rfl ?_
  refine v_istore_n (lv' := [(0, .int (((((x - (((x.toUInt32 >>> ((jI 1).toUInt32 &&& Int32.toUInt32 31)).toInt32) &&& (jI 1431655765))) &&& (jI 858993459)) + ((((x - (((x.toUInt32 >>> ((jI 1).toUInt32 &&& Int32.toUInt32 31)).toInt32) &&& (jI 1431655765))).toUInt32 >>> ((jI 2).toUInt32 &&& Int32.toUInt32 31)).toInt32) &&& (jI 858993459))) + (((((x - (((x.toUInt32 >>> ((jI 1).toUInt32 &&& Int32.toUInt32 31)).toInt32) &&& (jI 1431655765))) &&& (jI 858993459)) + ((((x - (((x.toUInt32 >>> ((jI 1).toUInt32 &&& Int32.toUInt32 31)).toInt32) &&& (jI 1431655765))).toUInt32 >>> ((jI 2).toUInt32 &&& Int32.toUInt32 31)).toInt32) &&& (jI 858993459))).toUInt32 >>> ((jI 4).toUInt32 &&& Int32.toUInt32 31)).toInt32)) &&& (jI 252645135)))]) G dJ6_bitCount_0f7a4_33 rfl (by decide) rfl ?_
  refine v_iload_n (j := 0) (x := ((((x - (((x.toUInt32 >>> ((jI 1).toUInt32 &&& Int32.toUInt32 31)).toInt32) &&& (jI 1431655765))) &&& (jI 858993459)) + ((((x - (((x.toUInt32 >>> ((jI 1).toUInt32 &&& Int32.toUInt32 31)).toInt32) &&& (jI 1431655765))).toUInt32 >>> ((jI 2).toUInt32 &&& Int32.toUInt32 31)).toInt32) &&& (jI 858993459))) + (((((x - (((x.toUInt32 >>> ((jI 1).toUInt32 &&& Int32.toUInt32 31)).toInt32) &&& (jI 1431655765))) &&& (jI 858993459)) + ((((x - (((x.toUInt32 >>> ((jI 1).toUInt32 &&& Int32.toUInt32 31)).toInt32) &&& (jI 1431655765))).toUInt32 >>> ((jI 2).toUInt32 &&& Int32.toUInt32 31)).toInt32) &&& (jI 858993459))).toUInt32 >>> ((jI 4).toUInt32 &&& Int32.toUInt32 31)).toInt32)) &&& (jI 252645135)) G dJ6_bitCount_0f7a4_34 rfl rfl ?_
  refine v_iload_n (j := 0) (x := ((((x - (((x.toUInt32 >>> ((jI 1).toUInt32 &&& Int32.toUInt32 31)).toInt32) &&& (jI 1431655765))) &&& (jI 858993459)) + ((((x - (((x.toUInt32 >>> ((jI 1).toUInt32 &&& Int32.toUInt32 31)).toInt32) &&& (jI 1431655765))).toUInt32 >>> ((jI 2).toUInt32 &&& Int32.toUInt32 31)).toInt32) &&& (jI 858993459))) + (((((x - (((x.toUInt32 >>> ((jI 1).toUInt32 &&& Int32.toUInt32 31)).toInt32) &&& (jI 1431655765))) &&& (jI 858993459)) + ((((x - (((x.toUInt32 >>> ((jI 1).toUInt32 &&& Int32.toUInt32 31)).toInt32) &&& (jI 1431655765))).toUInt32 >>> ((jI 2).toUInt32 &&& Int32.toUInt32 31)).toInt32) &&& (jI 858993459))).toUInt32 >>> ((jI 4).toUInt32 &&& Int32.toUInt32 31)).toInt32)) &&& (jI 252645135)) G dJ6_bitCount_0f7a4_35 rfl rfl ?_
  refine v_bipush G dJ6_bitCount_0f7a4_36 (by decide) ?_
  refine v_iushr (v := ((((((x - (((x.toUInt32 >>> ((jI 1).toUInt32 &&& Int32.toUInt32 31)).toInt32) &&& (jI 1431655765))) &&& (jI 858993459)) + ((((x - (((x.toUInt32 >>> ((jI 1).toUInt32 &&& Int32.toUInt32 31)).toInt32) &&& (jI 1431655765))).toUInt32 >>> ((jI 2).toUInt32 &&& Int32.toUInt32 31)).toInt32) &&& (jI 858993459))) + (((((x - (((x.toUInt32 >>> ((jI 1).toUInt32 &&& Int32.toUInt32 31)).toInt32) &&& (jI 1431655765))) &&& (jI 858993459)) + ((((x - (((x.toUInt32 >>> ((jI 1).toUInt32 &&& Int32.toUInt32 31)).toInt32) &&& (jI 1431655765))).toUInt32 >>> ((jI 2).toUInt32 &&& Int32.toUInt32 31)).toInt32) &&& (jI 858993459))).toUInt32 >>> ((jI 4).toUInt32 &&& Int32.toUInt32 31)).toInt32)) &&& (jI 252645135)).toUInt32 >>> ((jI 8).toUInt32 &&& Int32.toUInt32 31)).toInt32) G dJ6_bitCount_0f7a4_38 rfl ?_
  refine v_riadd (v := (((((x - (((x.toUInt32 >>> ((jI 1).toUInt32 &&& Int32.toUInt32 31)).toInt32) &&& (jI 1431655765))) &&& (jI 858993459)) + ((((x - (((x.toUInt32 >>> ((jI 1).toUInt32 &&& Int32.toUInt32 31)).toInt32) &&& (jI 1431655765))).toUInt32 >>> ((jI 2).toUInt32 &&& Int32.toUInt32 31)).toInt32) &&& (jI 858993459))) + (((((x - (((x.toUInt32 >>> ((jI 1).toUInt32 &&& Int32.toUInt32 31)).toInt32) &&& (jI 1431655765))) &&& (jI 858993459)) + ((((x - (((x.toUInt32 >>> ((jI 1).toUInt32 &&& Int32.toUInt32 31)).toInt32) &&& (jI 1431655765))).toUInt32 >>> ((jI 2).toUInt32 &&& Int32.toUInt32 31)).toInt32) &&& (jI 858993459))).toUInt32 >>> ((jI 4).toUInt32 &&& Int32.toUInt32 31)).toInt32)) &&& (jI 252645135)) + (((((((x - (((x.toUInt32 >>> ((jI 1).toUInt32 &&& Int32.toUInt32 31)).toInt32) &&& (jI 1431655765))) &&& (jI 858993459)) + ((((x - (((x.toUInt32 >>> ((jI 1).toUInt32 &&& Int32.toUInt32 31)).toInt32) &&& (jI 1431655765))).toUInt32 >>> ((jI 2).toUInt32 &&& Int32.toUInt32 31)).toInt32) &&& (jI 858993459))) + (((((x - (((x.toUInt32 >>> ((jI 1).toUInt32 &&& Int32.toUInt32 31)).toInt32) &&& (jI 1431655765))) &&& (jI 858993459)) + ((((x - (((x.toUInt32 >>> ((jI 1).toUInt32 &&& Int32.toUInt32 31)).toInt32) &&& (jI 1431655765))).toUInt32 >>> ((jI 2).toUInt32 &&& Int32.toUInt32 31)).toInt32) &&& (jI 858993459))).toUInt32 >>> ((jI 4).toUInt32 &&& Int32.toUInt32 31)).toInt32)) &&& (jI 252645135)).toUInt32 >>> ((jI 8).toUInt32 &&& Int32.toUInt32 31)).toInt32)) G dJ6_bitCount_0f7a4_39 rfl ?_
  refine v_istore_n (lv' := [(0, .int ((((((x - (((x.toUInt32 >>> ((jI 1).toUInt32 &&& Int32.toUInt32 31)).toInt32) &&& (jI 1431655765))) &&& (jI 858993459)) + ((((x - (((x.toUInt32 >>> ((jI 1).toUInt32 &&& Int32.toUInt32 31)).toInt32) &&& (jI 1431655765))).toUInt32 >>> ((jI 2).toUInt32 &&& Int32.toUInt32 31)).toInt32) &&& (jI 858993459))) + (((((x - (((x.toUInt32 >>> ((jI 1).toUInt32 &&& Int32.toUInt32 31)).toInt32) &&& (jI 1431655765))) &&& (jI 858993459)) + ((((x - (((x.toUInt32 >>> ((jI 1).toUInt32 &&& Int32.toUInt32 31)).toInt32) &&& (jI 1431655765))).toUInt32 >>> ((jI 2).toUInt32 &&& Int32.toUInt32 31)).toInt32) &&& (jI 858993459))).toUInt32 >>> ((jI 4).toUInt32 &&& Int32.toUInt32 31)).toInt32)) &&& (jI 252645135)) + (((((((x - (((x.toUInt32 >>> ((jI 1).toUInt32 &&& Int32.toUInt32 31)).toInt32) &&& (jI 1431655765))) &&& (jI 858993459)) + ((((x - (((x.toUInt32 >>> ((jI 1).toUInt32 &&& Int32.toUInt32 31)).toInt32) &&& (jI 1431655765))).toUInt32 >>> ((jI 2).toUInt32 &&& Int32.toUInt32 31)).toInt32) &&& (jI 858993459))) + (((((x - (((x.toUInt32 >>> ((jI 1).toUInt32 &&& Int32.toUInt32 31)).toInt32) &&& (jI 1431655765))) &&& (jI 858993459)) + ((((x - (((x.toUInt32 >>> ((jI 1).toUInt32 &&& Int32.toUInt32 31)).toInt32) &&& (jI 1431655765))).toUInt32 >>> ((jI 2).toUInt32 &&& Int32.toUInt32 31)).toInt32) &&& (jI 858993459))).toUInt32 >>> ((jI 4).toUInt32 &&& Int32.toUInt32 31)).toInt32)) &&& (jI 252645135)).toUInt32 >>> ((jI 8).toUInt32 &&& Int32.toUInt32 31)).toInt32)))]) G dJ6_bitCount_0f7a4_40 rfl (by decide) rfl ?_
  refine v_iload_n (j := 0) (x := (((((x - (((x.toUInt32 >>> ((jI 1).toUInt32 &&& Int32.toUInt32 31)).toInt32) &&& (jI 1431655765))) &&& (jI 858993459)) + ((((x - (((x.toUInt32 >>> ((jI 1).toUInt32 &&& Int32.toUInt32 31)).toInt32) &&& (jI 1431655765))).toUInt32 >>> ((jI 2).toUInt32 &&& Int32.toUInt32 31)).toInt32) &&& (jI 858993459))) + (((((x - (((x.toUInt32 >>> ((jI 1).toUInt32 &&& Int32.toUInt32 31)).toInt32) &&& (jI 1431655765))) &&& (jI 858993459)) + ((((x - (((x.toUInt32 >>> ((jI 1).toUInt32 &&& Int32.toUInt32 31)).toInt32) &&& (jI 1431655765))).toUInt32 >>> ((jI 2).toUInt32 &&& Int32.toUInt32 31)).toInt32) &&& (jI 858993459))).toUInt32 >>> ((jI 4).toUInt32 &&& Int32.toUInt32 31)).toInt32)) &&& (jI 252645135)) + (((((((x - (((x.toUInt32 >>> ((jI 1).toUInt32 &&& Int32.toUInt32 31)).toInt32) &&& (jI 1431655765))) &&& (jI 858993459)) + ((((x - (((x.toUInt32 >>> ((jI 1).toUInt32 &&& Int32.toUInt32 31)).toInt32) &&& (jI 1431655765))).toUInt32 >>> ((jI 2).toUInt32 &&& Int32.toUInt32 31)).toInt32) &&& (jI 858993459))) + (((((x - (((x.toUInt32 >>> ((jI 1).toUInt32 &&& Int32.toUInt32 31)).toInt32) &&& (jI 1431655765))) &&& (jI 858993459)) + ((((x - (((x.toUInt32 >>> ((jI 1).toUInt32 &&& Int32.toUInt32 31)).toInt32) &&& (jI 1431655765))).toUInt32 >>> ((jI 2).toUInt32 &&& Int32.toUInt32 31)).toInt32) &&& (jI 858993459))).toUInt32 >>> ((jI 4).toUInt32 &&& Int32.toUInt32 31)).toInt32)) &&& (jI 252645135)).toUInt32 >>> ((jI 8).toUInt32 &&& Int32.toUInt32 31)).toInt32)) G dJ6_bitCount_0f7a4_41 rfl rfl ?_
  refine v_iload_n (j := 0) (x := (((((x - (((x.toUInt32 >>> ((jI 1).toUInt32 &&& Int32.toUInt32 31)).toInt32) &&& (jI 1431655765))) &&& (jI 858993459)) + ((((x - (((x.toUInt32 >>> ((jI 1).toUInt32 &&& Int32.toUInt32 31)).toInt32) &&& (jI 1431655765))).toUInt32 >>> ((jI 2).toUInt32 &&& Int32.toUInt32 31)).toInt32) &&& (jI 858993459))) + (((((x - (((x.toUInt32 >>> ((jI 1).toUInt32 &&& Int32.toUInt32 31)).toInt32) &&& (jI 1431655765))) &&& (jI 858993459)) + ((((x - (((x.toUInt32 >>> ((jI 1).toUInt32 &&& Int32.toUInt32 31)).toInt32) &&& (jI 1431655765))).toUInt32 >>> ((jI 2).toUInt32 &&& Int32.toUInt32 31)).toInt32) &&& (jI 858993459))).toUInt32 >>> ((jI 4).toUInt32 &&& Int32.toUInt32 31)).toInt32)) &&& (jI 252645135)) + (((((((x - (((x.toUInt32 >>> ((jI 1).toUInt32 &&& Int32.toUInt32 31)).toInt32) &&& (jI 1431655765))) &&& (jI 858993459)) + ((((x - (((x.toUInt32 >>> ((jI 1).toUInt32 &&& Int32.toUInt32 31)).toInt32) &&& (jI 1431655765))).toUInt32 >>> ((jI 2).toUInt32 &&& Int32.toUInt32 31)).toInt32) &&& (jI 858993459))) + (((((x - (((x.toUInt32 >>> ((jI 1).toUInt32 &&& Int32.toUInt32 31)).toInt32) &&& (jI 1431655765))) &&& (jI 858993459)) + ((((x - (((x.toUInt32 >>> ((jI 1).toUInt32 &&& Int32.toUInt32 31)).toInt32) &&& (jI 1431655765))).toUInt32 >>> ((jI 2).toUInt32 &&& Int32.toUInt32 31)).toInt32) &&& (jI 858993459))).toUInt32 >>> ((jI 4).toUInt32 &&& Int32.toUInt32 31)).toInt32)) &&& (jI 252645135)).toUInt32 >>> ((jI 8).toUInt32 &&& Int32.toUInt32 31)).toInt32)) G dJ6_bitCount_0f7a4_42 rfl rfl ?_
  refine v_bipush G dJ6_bitCount_0f7a4_43 (by decide) ?_
  refine v_iushr (v := (((((((x - (((x.toUInt32 >>> ((jI 1).toUInt32 &&& Int32.toUInt32 31)).toInt32) &&& (jI 1431655765))) &&& (jI 858993459)) + ((((x - (((x.toUInt32 >>> ((jI 1).toUInt32 &&& Int32.toUInt32 31)).toInt32) &&& (jI 1431655765))).toUInt32 >>> ((jI 2).toUInt32 &&& Int32.toUInt32 31)).toInt32) &&& (jI 858993459))) + (((((x - (((x.toUInt32 >>> ((jI 1).toUInt32 &&& Int32.toUInt32 31)).toInt32) &&& (jI 1431655765))) &&& (jI 858993459)) + ((((x - (((x.toUInt32 >>> ((jI 1).toUInt32 &&& Int32.toUInt32 31)).toInt32) &&& (jI 1431655765))).toUInt32 >>> ((jI 2).toUInt32 &&& Int32.toUInt32 31)).toInt32) &&& (jI 858993459))).toUInt32 >>> ((jI 4).toUInt32 &&& Int32.toUInt32 31)).toInt32)) &&& (jI 252645135)) + (((((((x - (((x.toUInt32 >>> ((jI 1).toUInt32 &&& Int32.toUInt32 31)).toInt32) &&& (jI 1431655765))) &&& (jI 858993459)) + ((((x - (((x.toUInt32 >>> ((jI 1).toUInt32 &&& Int32.toUInt32 31)).toInt32) &&& (jI 1431655765))).toUInt32 >>> ((jI 2).toUInt32 &&& Int32.toUInt32 31)).toInt32) &&& (jI 858993459))) + (((((x - (((x.toUInt32 >>> ((jI 1).toUInt32 &&& Int32.toUInt32 31)).toInt32) &&& (jI 1431655765))) &&& (jI 858993459)) + ((((x - (((x.toUInt32 >>> ((jI 1).toUInt32 &&& Int32.toUInt32 31)).toInt32) &&& (jI 1431655765))).toUInt32 >>> ((jI 2).toUInt32 &&& Int32.toUInt32 31)).toInt32) &&& (jI 858993459))).toUInt32 >>> ((jI 4).toUInt32 &&& Int32.toUInt32 31)).toInt32)) &&& (jI 252645135)).toUInt32 >>> ((jI 8).toUInt32 &&& Int32.toUInt32 31)).toInt32)).toUInt32 >>> ((jI 16).toUInt32 &&& Int32.toUInt32 31)).toInt32) G dJ6_bitCount_0f7a4_45 rfl ?_
  refine v_riadd (v := ((((((x - (((x.toUInt32 >>> ((jI 1).toUInt32 &&& Int32.toUInt32 31)).toInt32) &&& (jI 1431655765))) &&& (jI 858993459)) + ((((x - (((x.toUInt32 >>> ((jI 1).toUInt32 &&& Int32.toUInt32 31)).toInt32) &&& (jI 1431655765))).toUInt32 >>> ((jI 2).toUInt32 &&& Int32.toUInt32 31)).toInt32) &&& (jI 858993459))) + (((((x - (((x.toUInt32 >>> ((jI 1).toUInt32 &&& Int32.toUInt32 31)).toInt32) &&& (jI 1431655765))) &&& (jI 858993459)) + ((((x - (((x.toUInt32 >>> ((jI 1).toUInt32 &&& Int32.toUInt32 31)).toInt32) &&& (jI 1431655765))).toUInt32 >>> ((jI 2).toUInt32 &&& Int32.toUInt32 31)).toInt32) &&& (jI 858993459))).toUInt32 >>> ((jI 4).toUInt32 &&& Int32.toUInt32 31)).toInt32)) &&& (jI 252645135)) + (((((((x - (((x.toUInt32 >>> ((jI 1).toUInt32 &&& Int32.toUInt32 31)).toInt32) &&& (jI 1431655765))) &&& (jI 858993459)) + ((((x - (((x.toUInt32 >>> ((jI 1).toUInt32 &&& Int32.toUInt32 31)).toInt32) &&& (jI 1431655765))).toUInt32 >>> ((jI 2).toUInt32 &&& Int32.toUInt32 31)).toInt32) &&& (jI 858993459))) + (((((x - (((x.toUInt32 >>> ((jI 1).toUInt32 &&& Int32.toUInt32 31)).toInt32) &&& (jI 1431655765))) &&& (jI 858993459)) + ((((x - (((x.toUInt32 >>> ((jI 1).toUInt32 &&& Int32.toUInt32 31)).toInt32) &&& (jI 1431655765))).toUInt32 >>> ((jI 2).toUInt32 &&& Int32.toUInt32 31)).toInt32) &&& (jI 858993459))).toUInt32 >>> ((jI 4).toUInt32 &&& Int32.toUInt32 31)).toInt32)) &&& (jI 252645135)).toUInt32 >>> ((jI 8).toUInt32 &&& Int32.toUInt32 31)).toInt32)) + ((((((((x - (((x.toUInt32 >>> ((jI 1).toUInt32 &&& Int32.toUInt32 31)).toInt32) &&& (jI 1431655765))) &&& (jI 858993459)) + ((((x - (((x.toUInt32 >>> ((jI 1).toUInt32 &&& Int32.toUInt32 31)).toInt32) &&& (jI 1431655765))).toUInt32 >>> ((jI 2).toUInt32 &&& Int32.toUInt32 31)).toInt32) &&& (jI 858993459))) + (((((x - (((x.toUInt32 >>> ((jI 1).toUInt32 &&& Int32.toUInt32 31)).toInt32) &&& (jI 1431655765))) &&& (jI 858993459)) + ((((x - (((x.toUInt32 >>> ((jI 1).toUInt32 &&& Int32.toUInt32 31)).toInt32) &&& (jI 1431655765))).toUInt32 >>> ((jI 2).toUInt32 &&& Int32.toUInt32 31)).toInt32) &&& (jI 858993459))).toUInt32 >>> ((jI 4).toUInt32 &&& Int32.toUInt32 31)).toInt32)) &&& (jI 252645135)) + (((((((x - (((x.toUInt32 >>> ((jI 1).toUInt32 &&& Int32.toUInt32 31)).toInt32) &&& (jI 1431655765))) &&& (jI 858993459)) + ((((x - (((x.toUInt32 >>> ((jI 1).toUInt32 &&& Int32.toUInt32 31)).toInt32) &&& (jI 1431655765))).toUInt32 >>> ((jI 2).toUInt32 &&& Int32.toUInt32 31)).toInt32) &&& (jI 858993459))) + (((((x - (((x.toUInt32 >>> ((jI 1).toUInt32 &&& Int32.toUInt32 31)).toInt32) &&& (jI 1431655765))) &&& (jI 858993459)) + ((((x - (((x.toUInt32 >>> ((jI 1).toUInt32 &&& Int32.toUInt32 31)).toInt32) &&& (jI 1431655765))).toUInt32 >>> ((jI 2).toUInt32 &&& Int32.toUInt32 31)).toInt32) &&& (jI 858993459))).toUInt32 >>> ((jI 4).toUInt32 &&& Int32.toUInt32 31)).toInt32)) &&& (jI 252645135)).toUInt32 >>> ((jI 8).toUInt32 &&& Int32.toUInt32 31)).toInt32)).toUInt32 >>> ((jI 16).toUInt32 &&& Int32.toUInt32 31)).toInt32)) G dJ6_bitCount_0f7a4_46 rfl ?_
  refine v_istore_n (lv' := [(0, .int (((((((x - (((x.toUInt32 >>> ((jI 1).toUInt32 &&& Int32.toUInt32 31)).toInt32) &&& (jI 1431655765))) &&& (jI 858993459)) + ((((x - (((x.toUInt32 >>> ((jI 1).toUInt32 &&& Int32.toUInt32 31)).toInt32) &&& (jI 1431655765))).toUInt32 >>> ((jI 2).toUInt32 &&& Int32.toUInt32 31)).toInt32) &&& (jI 858993459))) + (((((x - (((x.toUInt32 >>> ((jI 1).toUInt32 &&& Int32.toUInt32 31)).toInt32) &&& (jI 1431655765))) &&& (jI 858993459)) + ((((x - (((x.toUInt32 >>> ((jI 1).toUInt32 &&& Int32.toUInt32 31)).toInt32) &&& (jI 1431655765))).toUInt32 >>> ((jI 2).toUInt32 &&& Int32.toUInt32 31)).toInt32) &&& (jI 858993459))).toUInt32 >>> ((jI 4).toUInt32 &&& Int32.toUInt32 31)).toInt32)) &&& (jI 252645135)) + (((((((x - (((x.toUInt32 >>> ((jI 1).toUInt32 &&& Int32.toUInt32 31)).toInt32) &&& (jI 1431655765))) &&& (jI 858993459)) + ((((x - (((x.toUInt32 >>> ((jI 1).toUInt32 &&& Int32.toUInt32 31)).toInt32) &&& (jI 1431655765))).toUInt32 >>> ((jI 2).toUInt32 &&& Int32.toUInt32 31)).toInt32) &&& (jI 858993459))) + (((((x - (((x.toUInt32 >>> ((jI 1).toUInt32 &&& Int32.toUInt32 31)).toInt32) &&& (jI 1431655765))) &&& (jI 858993459)) + ((((x - (((x.toUInt32 >>> ((jI 1).toUInt32 &&& Int32.toUInt32 31)).toInt32) &&& (jI 1431655765))).toUInt32 >>> ((jI 2).toUInt32 &&& Int32.toUInt32 31)).toInt32) &&& (jI 858993459))).toUInt32 >>> ((jI 4).toUInt32 &&& Int32.toUInt32 31)).toInt32)) &&& (jI 252645135)).toUInt32 >>> ((jI 8).toUInt32 &&& Int32.toUInt32 31)).toInt32)) + ((((((((x - (((x.toUInt32 >>> ((jI 1).toUInt32 &&& Int32.toUInt32 31)).toInt32) &&& (jI 1431655765))) &&& (jI 858993459)) + ((((x - (((x.toUInt32 >>> ((jI 1).toUInt32 &&& Int32.toUInt32 31)).toInt32) &&& (jI 1431655765))).toUInt32 >>> ((jI 2).toUInt32 &&& Int32.toUInt32 31)).toInt32) &&& (jI 858993459))) + (((((x - (((x.toUInt32 >>> ((jI 1).toUInt32 &&& Int32.toUInt32 31)).toInt32) &&& (jI 1431655765))) &&& (jI 858993459)) + ((((x - (((x.toUInt32 >>> ((jI 1).toUInt32 &&& Int32.toUInt32 31)).toInt32) &&& (jI 1431655765))).toUInt32 >>> ((jI 2).toUInt32 &&& Int32.toUInt32 31)).toInt32) &&& (jI 858993459))).toUInt32 >>> ((jI 4).toUInt32 &&& Int32.toUInt32 31)).toInt32)) &&& (jI 252645135)) + (((((((x - (((x.toUInt32 >>> ((jI 1).toUInt32 &&& Int32.toUInt32 31)).toInt32) &&& (jI 1431655765))) &&& (jI 858993459)) + ((((x - (((x.toUInt32 >>> ((jI 1).toUInt32 &&& Int32.toUInt32 31)).toInt32) &&& (jI 1431655765))).toUInt32 >>> ((jI 2).toUInt32 &&& Int32.toUInt32 31)).toInt32) &&& (jI 858993459))) + (((((x - (((x.toUInt32 >>> ((jI 1).toUInt32 &&& Int32.toUInt32 31)).toInt32) &&& (jI 1431655765))) &&& (jI 858993459)) + ((((x - (((x.toUInt32 >>> ((jI 1).toUInt32 &&& Int32.toUInt32 31)).toInt32) &&& (jI 1431655765))).toUInt32 >>> ((jI 2).toUInt32 &&& Int32.toUInt32 31)).toInt32) &&& (jI 858993459))).toUInt32 >>> ((jI 4).toUInt32 &&& Int32.toUInt32 31)).toInt32)) &&& (jI 252645135)).toUInt32 >>> ((jI 8).toUInt32 &&& Int32.toUInt32 31)).toInt32)).toUInt32 >>> ((jI 16).toUInt32 &&& Int32.toUInt32 31)).toInt32)))]) G dJ6_bitCount_0f7a4_47 rfl (by decide) rfl ?_
  refine v_iload_n (j := 0) (x := ((((((x - (((x.toUInt32 >>> ((jI 1).toUInt32 &&& Int32.toUInt32 31)).toInt32) &&& (jI 1431655765))) &&& (jI 858993459)) + ((((x - (((x.toUInt32 >>> ((jI 1).toUInt32 &&& Int32.toUInt32 31)).toInt32) &&& (jI 1431655765))).toUInt32 >>> ((jI 2).toUInt32 &&& Int32.toUInt32 31)).toInt32) &&& (jI 858993459))) + (((((x - (((x.toUInt32 >>> ((jI 1).toUInt32 &&& Int32.toUInt32 31)).toInt32) &&& (jI 1431655765))) &&& (jI 858993459)) + ((((x - (((x.toUInt32 >>> ((jI 1).toUInt32 &&& Int32.toUInt32 31)).toInt32) &&& (jI 1431655765))).toUInt32 >>> ((jI 2).toUInt32 &&& Int32.toUInt32 31)).toInt32) &&& (jI 858993459))).toUInt32 >>> ((jI 4).toUInt32 &&& Int32.toUInt32 31)).toInt32)) &&& (jI 252645135)) + (((((((x - (((x.toUInt32 >>> ((jI 1).toUInt32 &&& Int32.toUInt32 31)).toInt32) &&& (jI 1431655765))) &&& (jI 858993459)) + ((((x - (((x.toUInt32 >>> ((jI 1).toUInt32 &&& Int32.toUInt32 31)).toInt32) &&& (jI 1431655765))).toUInt32 >>> ((jI 2).toUInt32 &&& Int32.toUInt32 31)).toInt32) &&& (jI 858993459))) + (((((x - (((x.toUInt32 >>> ((jI 1).toUInt32 &&& Int32.toUInt32 31)).toInt32) &&& (jI 1431655765))) &&& (jI 858993459)) + ((((x - (((x.toUInt32 >>> ((jI 1).toUInt32 &&& Int32.toUInt32 31)).toInt32) &&& (jI 1431655765))).toUInt32 >>> ((jI 2).toUInt32 &&& Int32.toUInt32 31)).toInt32) &&& (jI 858993459))).toUInt32 >>> ((jI 4).toUInt32 &&& Int32.toUInt32 31)).toInt32)) &&& (jI 252645135)).toUInt32 >>> ((jI 8).toUInt32 &&& Int32.toUInt32 31)).toInt32)) + ((((((((x - (((x.toUInt32 >>> ((jI 1).toUInt32 &&& Int32.toUInt32 31)).toInt32) &&& (jI 1431655765))) &&& (jI 858993459)) + ((((x - (((x.toUInt32 >>> ((jI 1).toUInt32 &&& Int32.toUInt32 31)).toInt32) &&& (jI 1431655765))).toUInt32 >>> ((jI 2).toUInt32 &&& Int32.toUInt32 31)).toInt32) &&& (jI 858993459))) + (((((x - (((x.toUInt32 >>> ((jI 1).toUInt32 &&& Int32.toUInt32 31)).toInt32) &&& (jI 1431655765))) &&& (jI 858993459)) + ((((x - (((x.toUInt32 >>> ((jI 1).toUInt32 &&& Int32.toUInt32 31)).toInt32) &&& (jI 1431655765))).toUInt32 >>> ((jI 2).toUInt32 &&& Int32.toUInt32 31)).toInt32) &&& (jI 858993459))).toUInt32 >>> ((jI 4).toUInt32 &&& Int32.toUInt32 31)).toInt32)) &&& (jI 252645135)) + (((((((x - (((x.toUInt32 >>> ((jI 1).toUInt32 &&& Int32.toUInt32 31)).toInt32) &&& (jI 1431655765))) &&& (jI 858993459)) + ((((x - (((x.toUInt32 >>> ((jI 1).toUInt32 &&& Int32.toUInt32 31)).toInt32) &&& (jI 1431655765))).toUInt32 >>> ((jI 2).toUInt32 &&& Int32.toUInt32 31)).toInt32) &&& (jI 858993459))) + (((((x - (((x.toUInt32 >>> ((jI 1).toUInt32 &&& Int32.toUInt32 31)).toInt32) &&& (jI 1431655765))) &&& (jI 858993459)) + ((((x - (((x.toUInt32 >>> ((jI 1).toUInt32 &&& Int32.toUInt32 31)).toInt32) &&& (jI 1431655765))).toUInt32 >>> ((jI 2).toUInt32 &&& Int32.toUInt32 31)).toInt32) &&& (jI 858993459))).toUInt32 >>> ((jI 4).toUInt32 &&& Int32.toUInt32 31)).toInt32)) &&& (jI 252645135)).toUInt32 >>> ((jI 8).toUInt32 &&& Int32.toUInt32 31)).toInt32)).toUInt32 >>> ((jI 16).toUInt32 &&& Int32.toUInt32 31)).toInt32)) G dJ6_bitCount_0f7a4_48 rfl rfl ?_
  refine v_bipush G dJ6_bitCount_0f7a4_49 (by decide) ?_
  refine v_iand (v := (((((((x - (((x.toUInt32 >>> ((jI 1).toUInt32 &&& Int32.toUInt32 31)).toInt32) &&& (jI 1431655765))) &&& (jI 858993459)) + ((((x - (((x.toUInt32 >>> ((jI 1).toUInt32 &&& Int32.toUInt32 31)).toInt32) &&& (jI 1431655765))).toUInt32 >>> ((jI 2).toUInt32 &&& Int32.toUInt32 31)).toInt32) &&& (jI 858993459))) + (((((x - (((x.toUInt32 >>> ((jI 1).toUInt32 &&& Int32.toUInt32 31)).toInt32) &&& (jI 1431655765))) &&& (jI 858993459)) + ((((x - (((x.toUInt32 >>> ((jI 1).toUInt32 &&& Int32.toUInt32 31)).toInt32) &&& (jI 1431655765))).toUInt32 >>> ((jI 2).toUInt32 &&& Int32.toUInt32 31)).toInt32) &&& (jI 858993459))).toUInt32 >>> ((jI 4).toUInt32 &&& Int32.toUInt32 31)).toInt32)) &&& (jI 252645135)) + (((((((x - (((x.toUInt32 >>> ((jI 1).toUInt32 &&& Int32.toUInt32 31)).toInt32) &&& (jI 1431655765))) &&& (jI 858993459)) + ((((x - (((x.toUInt32 >>> ((jI 1).toUInt32 &&& Int32.toUInt32 31)).toInt32) &&& (jI 1431655765))).toUInt32 >>> ((jI 2).toUInt32 &&& Int32.toUInt32 31)).toInt32) &&& (jI 858993459))) + (((((x - (((x.toUInt32 >>> ((jI 1).toUInt32 &&& Int32.toUInt32 31)).toInt32) &&& (jI 1431655765))) &&& (jI 858993459)) + ((((x - (((x.toUInt32 >>> ((jI 1).toUInt32 &&& Int32.toUInt32 31)).toInt32) &&& (jI 1431655765))).toUInt32 >>> ((jI 2).toUInt32 &&& Int32.toUInt32 31)).toInt32) &&& (jI 858993459))).toUInt32 >>> ((jI 4).toUInt32 &&& Int32.toUInt32 31)).toInt32)) &&& (jI 252645135)).toUInt32 >>> ((jI 8).toUInt32 &&& Int32.toUInt32 31)).toInt32)) + ((((((((x - (((x.toUInt32 >>> ((jI 1).toUInt32 &&& Int32.toUInt32 31)).toInt32) &&& (jI 1431655765))) &&& (jI 858993459)) + ((((x - (((x.toUInt32 >>> ((jI 1).toUInt32 &&& Int32.toUInt32 31)).toInt32) &&& (jI 1431655765))).toUInt32 >>> ((jI 2).toUInt32 &&& Int32.toUInt32 31)).toInt32) &&& (jI 858993459))) + (((((x - (((x.toUInt32 >>> ((jI 1).toUInt32 &&& Int32.toUInt32 31)).toInt32) &&& (jI 1431655765))) &&& (jI 858993459)) + ((((x - (((x.toUInt32 >>> ((jI 1).toUInt32 &&& Int32.toUInt32 31)).toInt32) &&& (jI 1431655765))).toUInt32 >>> ((jI 2).toUInt32 &&& Int32.toUInt32 31)).toInt32) &&& (jI 858993459))).toUInt32 >>> ((jI 4).toUInt32 &&& Int32.toUInt32 31)).toInt32)) &&& (jI 252645135)) + (((((((x - (((x.toUInt32 >>> ((jI 1).toUInt32 &&& Int32.toUInt32 31)).toInt32) &&& (jI 1431655765))) &&& (jI 858993459)) + ((((x - (((x.toUInt32 >>> ((jI 1).toUInt32 &&& Int32.toUInt32 31)).toInt32) &&& (jI 1431655765))).toUInt32 >>> ((jI 2).toUInt32 &&& Int32.toUInt32 31)).toInt32) &&& (jI 858993459))) + (((((x - (((x.toUInt32 >>> ((jI 1).toUInt32 &&& Int32.toUInt32 31)).toInt32) &&& (jI 1431655765))) &&& (jI 858993459)) + ((((x - (((x.toUInt32 >>> ((jI 1).toUInt32 &&& Int32.toUInt32 31)).toInt32) &&& (jI 1431655765))).toUInt32 >>> ((jI 2).toUInt32 &&& Int32.toUInt32 31)).toInt32) &&& (jI 858993459))).toUInt32 >>> ((jI 4).toUInt32 &&& Int32.toUInt32 31)).toInt32)) &&& (jI 252645135)).toUInt32 >>> ((jI 8).toUInt32 &&& Int32.toUInt32 31)).toInt32)).toUInt32 >>> ((jI 16).toUInt32 &&& Int32.toUInt32 31)).toInt32)) &&& (jI 63)) G dJ6_bitCount_0f7a4_51 rfl ?_
  exact v_iret G () (show (((((((x - (((x.toUInt32 >>> ((jI 1).toUInt32 &&& Int32.toUInt32 31)).toInt32) &&& (jI 1431655765))) &&& (jI 858993459)) + ((((x - (((x.toUInt32 >>> ((jI 1).toUInt32 &&& Int32.toUInt32 31)).toInt32) &&& (jI 1431655765))).toUInt32 >>> ((jI 2).toUInt32 &&& Int32.toUInt32 31)).toInt32) &&& (jI 858993459))) + (((((x - (((x.toUInt32 >>> ((jI 1).toUInt32 &&& Int32.toUInt32 31)).toInt32) &&& (jI 1431655765))) &&& (jI 858993459)) + ((((x - (((x.toUInt32 >>> ((jI 1).toUInt32 &&& Int32.toUInt32 31)).toInt32) &&& (jI 1431655765))).toUInt32 >>> ((jI 2).toUInt32 &&& Int32.toUInt32 31)).toInt32) &&& (jI 858993459))).toUInt32 >>> ((jI 4).toUInt32 &&& Int32.toUInt32 31)).toInt32)) &&& (jI 252645135)) + (((((((x - (((x.toUInt32 >>> ((jI 1).toUInt32 &&& Int32.toUInt32 31)).toInt32) &&& (jI 1431655765))) &&& (jI 858993459)) + ((((x - (((x.toUInt32 >>> ((jI 1).toUInt32 &&& Int32.toUInt32 31)).toInt32) &&& (jI 1431655765))).toUInt32 >>> ((jI 2).toUInt32 &&& Int32.toUInt32 31)).toInt32) &&& (jI 858993459))) + (((((x - (((x.toUInt32 >>> ((jI 1).toUInt32 &&& Int32.toUInt32 31)).toInt32) &&& (jI 1431655765))) &&& (jI 858993459)) + ((((x - (((x.toUInt32 >>> ((jI 1).toUInt32 &&& Int32.toUInt32 31)).toInt32) &&& (jI 1431655765))).toUInt32 >>> ((jI 2).toUInt32 &&& Int32.toUInt32 31)).toInt32) &&& (jI 858993459))).toUInt32 >>> ((jI 4).toUInt32 &&& Int32.toUInt32 31)).toInt32)) &&& (jI 252645135)).toUInt32 >>> ((jI 8).toUInt32 &&& Int32.toUInt32 31)).toInt32)) + ((((((((x - (((x.toUInt32 >>> ((jI 1).toUInt32 &&& Int32.toUInt32 31)).toInt32) &&& (jI 1431655765))) &&& (jI 858993459)) + ((((x - (((x.toUInt32 >>> ((jI 1).toUInt32 &&& Int32.toUInt32 31)).toInt32) &&& (jI 1431655765))).toUInt32 >>> ((jI 2).toUInt32 &&& Int32.toUInt32 31)).toInt32) &&& (jI 858993459))) + (((((x - (((x.toUInt32 >>> ((jI 1).toUInt32 &&& Int32.toUInt32 31)).toInt32) &&& (jI 1431655765))) &&& (jI 858993459)) + ((((x - (((x.toUInt32 >>> ((jI 1).toUInt32 &&& Int32.toUInt32 31)).toInt32) &&& (jI 1431655765))).toUInt32 >>> ((jI 2).toUInt32 &&& Int32.toUInt32 31)).toInt32) &&& (jI 858993459))).toUInt32 >>> ((jI 4).toUInt32 &&& Int32.toUInt32 31)).toInt32)) &&& (jI 252645135)) + (((((((x - (((x.toUInt32 >>> ((jI 1).toUInt32 &&& Int32.toUInt32 31)).toInt32) &&& (jI 1431655765))) &&& (jI 858993459)) + ((((x - (((x.toUInt32 >>> ((jI 1).toUInt32 &&& Int32.toUInt32 31)).toInt32) &&& (jI 1431655765))).toUInt32 >>> ((jI 2).toUInt32 &&& Int32.toUInt32 31)).toInt32) &&& (jI 858993459))) + (((((x - (((x.toUInt32 >>> ((jI 1).toUInt32 &&& Int32.toUInt32 31)).toInt32) &&& (jI 1431655765))) &&& (jI 858993459)) + ((((x - (((x.toUInt32 >>> ((jI 1).toUInt32 &&& Int32.toUInt32 31)).toInt32) &&& (jI 1431655765))).toUInt32 >>> ((jI 2).toUInt32 &&& Int32.toUInt32 31)).toInt32) &&& (jI 858993459))).toUInt32 >>> ((jI 4).toUInt32 &&& Int32.toUInt32 31)).toInt32)) &&& (jI 252645135)).toUInt32 >>> ((jI 8).toUInt32 &&& Int32.toUInt32 31)).toInt32)).toUInt32 >>> ((jI 16).toUInt32 &&& Int32.toUInt32 31)).toInt32)) &&& (jI 63) = bcF x from rfl) rfl dJ6_bitCount_0f7a4_52

set_option maxHeartbeats 4000000 in
set_option maxRecDepth 100000 in
theorem c_X8_found_0   : Ci l yX8_found wsX8_found { frames := 1, cells := 0, slots := 0, locals := 22 } D (jT cI cL cB cS) [.ref (a 0), .int (jI (-1000000001))] (gS  a ks ++ gF cI a fd) (S := Unit) (fun _ => (gS  a ks ++ gF cI a (uI fd 0 (fd 0 + 1)))) (fun r _ => r = jI (-1000000001)) := by
  refine Ci.mk (cc := cX8_found) (maxL := 3) (rt := .int) (by decide) rfl (Nat.le_of_ble_eq_true rfl) rfl ?_
  intro p_ e_ s_ m_ b_ me_ c_ A_ G hnm
  have q_0 : Cond.constant RX8 83 (-1000000001) ∈ wsX8_found := List.mem_of_getElem? (i := 1) rfl
  have k_X8 : ∀ w ∈ u_ws RX8 TX8 12, w ∈ wsX8_found := fun _ h => List.mem_cons_of_mem _ (List.mem_append_right _ h)
  have q_2 : Cond.fieldLink RX8 72 "SupperLight" "findings" "[I" ∈ wsX8_found := List.mem_of_getElem? (i := 2) rfl
  refine v_ldc (z := (-1000000001)) G q_0 (by decide) dX8_found_0 ?_
  refine v_iload_n (j := 1) (x := jI (-1000000001)) G dX8_found_2 rfl rfl ?_
  refine v_isub (z := 0) G dX8_found_3 (by omega) ?_
  refine v_istore_n (lv' := [(2, .int (jI 0)), (0, .ref (a 0)), (1, .int (jI (-1000000001)))]) G dX8_found_4 rfl (by decide) rfl ?_
  refine v_iload_n (j := 0) (x := jI 0) G dX8_found_5 rfl rfl ?_
  refine v_iconst G dX8_found_6 ?_
  refine v_bipush G dX8_found_7 (by decide) ?_
  refine v_ciN G (rn_S (As := [.int (jI 0), .int (jI 0), .int (jI 6)]) (rest := []) G (c_X8_within (v := 0) (lo := 0) (hi := 6) (hr := (by omega))) gX8_found_X8_within rfl hdX8_within ⟨rfl, rfl, Nat.le_of_ble_eq_true rfl, Nat.le_of_ble_eq_true rfl⟩ rfl rfl (Nat.le_of_ble_eq_true rfl) ⟨Nat.zero_le _, Nat.zero_le _⟩ dX8_found_9) (fun r_1 u_3 e_2 => ?_)
  have e_2 : r_1 = jI (b2 ((0 : Int) ≤ 0 ∧ 0 ≤ (6 : Int))) := e_2
  subst e_2
  refine v_ifb_eq (P := (0 : Int) ≤ 0 ∧ 0 ≤ (6 : Int)) (tgt := 25) G dX8_found_12 (by decide) (fun c_4 => ?_) (fun c_4 => ?_)
  · skip
    exfalso; omega
  · skip
    refine v_aload_n (j := 1) (x := a 0) G dX8_found_15 rfl rfl ?_
    refine v_get (q0 := 0) (k := 11) (v := .ref (a 59)) G k_X8 rfl rfl (by decide) q_2 rfl rfl dX8_found_16 ?_
    refine v_iload_n (j := 0) (x := jI 0) G dX8_found_19 rfl rfl ?_
    refine v_dup2 G dX8_found_20 rfl rfl ?_
    refine v_iald (q0 := 1) (t0 := 0) (g := fd) (z := 0) G rfl rfl (by omega) dX8_found_21 ?_
    refine v_iconst G dX8_found_22 ?_
    refine v_iadd (z := (fd 0) + 1) G dX8_found_23 rfl ?_
    refine v_iast (q0 := 1) (t0 := 0) (g := fd) (z := 0) (x := (fd 0) + 1) (ws' := (gS  a ks ++ gF cI a (uI fd 0 ((fd 0) + 1)))) G rfl rfl (by omega) rfl dX8_found_24 ?_
    refine v_iload_n (j := 2) (x := jI (-1000000001)) G dX8_found_25 rfl rfl ?_
    exact v_iret G () rfl rfl dX8_found_26

set_option maxHeartbeats 4000000 in
set_option maxRecDepth 100000 in
theorem c_X8_found_1   : Ci l yX8_found wsX8_found { frames := 1, cells := 0, slots := 0, locals := 22 } D (jT cI cL cB cS) [.ref (a 0), .int (jI (-1000000002))] (gS  a ks ++ gF cI a fd) (S := Unit) (fun _ => (gS  a ks ++ gF cI a (uI fd 1 (fd 1 + 1)))) (fun r _ => r = jI (-1000000002)) := by
  refine Ci.mk (cc := cX8_found) (maxL := 3) (rt := .int) (by decide) rfl (Nat.le_of_ble_eq_true rfl) rfl ?_
  intro p_ e_ s_ m_ b_ me_ c_ A_ G hnm
  have q_0 : Cond.constant RX8 83 (-1000000001) ∈ wsX8_found := List.mem_of_getElem? (i := 1) rfl
  have k_X8 : ∀ w ∈ u_ws RX8 TX8 12, w ∈ wsX8_found := fun _ h => List.mem_cons_of_mem _ (List.mem_append_right _ h)
  have q_2 : Cond.fieldLink RX8 72 "SupperLight" "findings" "[I" ∈ wsX8_found := List.mem_of_getElem? (i := 2) rfl
  refine v_ldc (z := (-1000000001)) G q_0 (by decide) dX8_found_0 ?_
  refine v_iload_n (j := 1) (x := jI (-1000000002)) G dX8_found_2 rfl rfl ?_
  refine v_isub (z := 1) G dX8_found_3 (by omega) ?_
  refine v_istore_n (lv' := [(2, .int (jI 1)), (0, .ref (a 0)), (1, .int (jI (-1000000002)))]) G dX8_found_4 rfl (by decide) rfl ?_
  refine v_iload_n (j := 0) (x := jI 1) G dX8_found_5 rfl rfl ?_
  refine v_iconst G dX8_found_6 ?_
  refine v_bipush G dX8_found_7 (by decide) ?_
  refine v_ciN G (rn_S (As := [.int (jI 1), .int (jI 0), .int (jI 6)]) (rest := []) G (c_X8_within (v := 1) (lo := 0) (hi := 6) (hr := (by omega))) gX8_found_X8_within rfl hdX8_within ⟨rfl, rfl, Nat.le_of_ble_eq_true rfl, Nat.le_of_ble_eq_true rfl⟩ rfl rfl (Nat.le_of_ble_eq_true rfl) ⟨Nat.zero_le _, Nat.zero_le _⟩ dX8_found_9) (fun r_1 u_3 e_2 => ?_)
  have e_2 : r_1 = jI (b2 ((0 : Int) ≤ 1 ∧ 1 ≤ (6 : Int))) := e_2
  subst e_2
  refine v_ifb_eq (P := (0 : Int) ≤ 1 ∧ 1 ≤ (6 : Int)) (tgt := 25) G dX8_found_12 (by decide) (fun c_4 => ?_) (fun c_4 => ?_)
  · skip
    exfalso; omega
  · skip
    refine v_aload_n (j := 1) (x := a 0) G dX8_found_15 rfl rfl ?_
    refine v_get (q0 := 0) (k := 11) (v := .ref (a 59)) G k_X8 rfl rfl (by decide) q_2 rfl rfl dX8_found_16 ?_
    refine v_iload_n (j := 0) (x := jI 1) G dX8_found_19 rfl rfl ?_
    refine v_dup2 G dX8_found_20 rfl rfl ?_
    refine v_iald (q0 := 1) (t0 := 0) (g := fd) (z := 1) G rfl rfl (by omega) dX8_found_21 ?_
    refine v_iconst G dX8_found_22 ?_
    refine v_iadd (z := (fd 1) + 1) G dX8_found_23 rfl ?_
    refine v_iast (q0 := 1) (t0 := 0) (g := fd) (z := 1) (x := (fd 1) + 1) (ws' := (gS  a ks ++ gF cI a (uI fd 1 ((fd 1) + 1)))) G rfl rfl (by omega) rfl dX8_found_24 ?_
    refine v_iload_n (j := 2) (x := jI (-1000000002)) G dX8_found_25 rfl rfl ?_
    exact v_iret G () rfl rfl dX8_found_26

set_option maxHeartbeats 4000000 in
set_option maxRecDepth 100000 in
theorem c_X8_found_2   : Ci l yX8_found wsX8_found { frames := 1, cells := 0, slots := 0, locals := 22 } D (jT cI cL cB cS) [.ref (a 0), .int (jI (-1000000003))] (gS  a ks ++ gF cI a fd) (S := Unit) (fun _ => (gS  a ks ++ gF cI a (uI fd 2 (fd 2 + 1)))) (fun r _ => r = jI (-1000000003)) := by
  refine Ci.mk (cc := cX8_found) (maxL := 3) (rt := .int) (by decide) rfl (Nat.le_of_ble_eq_true rfl) rfl ?_
  intro p_ e_ s_ m_ b_ me_ c_ A_ G hnm
  have q_0 : Cond.constant RX8 83 (-1000000001) ∈ wsX8_found := List.mem_of_getElem? (i := 1) rfl
  have k_X8 : ∀ w ∈ u_ws RX8 TX8 12, w ∈ wsX8_found := fun _ h => List.mem_cons_of_mem _ (List.mem_append_right _ h)
  have q_2 : Cond.fieldLink RX8 72 "SupperLight" "findings" "[I" ∈ wsX8_found := List.mem_of_getElem? (i := 2) rfl
  refine v_ldc (z := (-1000000001)) G q_0 (by decide) dX8_found_0 ?_
  refine v_iload_n (j := 1) (x := jI (-1000000003)) G dX8_found_2 rfl rfl ?_
  refine v_isub (z := 2) G dX8_found_3 (by omega) ?_
  refine v_istore_n (lv' := [(2, .int (jI 2)), (0, .ref (a 0)), (1, .int (jI (-1000000003)))]) G dX8_found_4 rfl (by decide) rfl ?_
  refine v_iload_n (j := 0) (x := jI 2) G dX8_found_5 rfl rfl ?_
  refine v_iconst G dX8_found_6 ?_
  refine v_bipush G dX8_found_7 (by decide) ?_
  refine v_ciN G (rn_S (As := [.int (jI 2), .int (jI 0), .int (jI 6)]) (rest := []) G (c_X8_within (v := 2) (lo := 0) (hi := 6) (hr := (by omega))) gX8_found_X8_within rfl hdX8_within ⟨rfl, rfl, Nat.le_of_ble_eq_true rfl, Nat.le_of_ble_eq_true rfl⟩ rfl rfl (Nat.le_of_ble_eq_true rfl) ⟨Nat.zero_le _, Nat.zero_le _⟩ dX8_found_9) (fun r_1 u_3 e_2 => ?_)
  have e_2 : r_1 = jI (b2 ((0 : Int) ≤ 2 ∧ 2 ≤ (6 : Int))) := e_2
  subst e_2
  refine v_ifb_eq (P := (0 : Int) ≤ 2 ∧ 2 ≤ (6 : Int)) (tgt := 25) G dX8_found_12 (by decide) (fun c_4 => ?_) (fun c_4 => ?_)
  · skip
    exfalso; omega
  · skip
    refine v_aload_n (j := 1) (x := a 0) G dX8_found_15 rfl rfl ?_
    refine v_get (q0 := 0) (k := 11) (v := .ref (a 59)) G k_X8 rfl rfl (by decide) q_2 rfl rfl dX8_found_16 ?_
    refine v_iload_n (j := 0) (x := jI 2) G dX8_found_19 rfl rfl ?_
    refine v_dup2 G dX8_found_20 rfl rfl ?_
    refine v_iald (q0 := 1) (t0 := 0) (g := fd) (z := 2) G rfl rfl (by omega) dX8_found_21 ?_
    refine v_iconst G dX8_found_22 ?_
    refine v_iadd (z := (fd 2) + 1) G dX8_found_23 rfl ?_
    refine v_iast (q0 := 1) (t0 := 0) (g := fd) (z := 2) (x := (fd 2) + 1) (ws' := (gS  a ks ++ gF cI a (uI fd 2 ((fd 2) + 1)))) G rfl rfl (by omega) rfl dX8_found_24 ?_
    refine v_iload_n (j := 2) (x := jI (-1000000003)) G dX8_found_25 rfl rfl ?_
    exact v_iret G () rfl rfl dX8_found_26

set_option maxHeartbeats 4000000 in
set_option maxRecDepth 100000 in
theorem c_X8_found_3   : Ci l yX8_found wsX8_found { frames := 1, cells := 0, slots := 0, locals := 22 } D (jT cI cL cB cS) [.ref (a 0), .int (jI (-1000000004))] (gS  a ks ++ gF cI a fd) (S := Unit) (fun _ => (gS  a ks ++ gF cI a (uI fd 3 (fd 3 + 1)))) (fun r _ => r = jI (-1000000004)) := by
  refine Ci.mk (cc := cX8_found) (maxL := 3) (rt := .int) (by decide) rfl (Nat.le_of_ble_eq_true rfl) rfl ?_
  intro p_ e_ s_ m_ b_ me_ c_ A_ G hnm
  have q_0 : Cond.constant RX8 83 (-1000000001) ∈ wsX8_found := List.mem_of_getElem? (i := 1) rfl
  have k_X8 : ∀ w ∈ u_ws RX8 TX8 12, w ∈ wsX8_found := fun _ h => List.mem_cons_of_mem _ (List.mem_append_right _ h)
  have q_2 : Cond.fieldLink RX8 72 "SupperLight" "findings" "[I" ∈ wsX8_found := List.mem_of_getElem? (i := 2) rfl
  refine v_ldc (z := (-1000000001)) G q_0 (by decide) dX8_found_0 ?_
  refine v_iload_n (j := 1) (x := jI (-1000000004)) G dX8_found_2 rfl rfl ?_
  refine v_isub (z := 3) G dX8_found_3 (by omega) ?_
  refine v_istore_n (lv' := [(2, .int (jI 3)), (0, .ref (a 0)), (1, .int (jI (-1000000004)))]) G dX8_found_4 rfl (by decide) rfl ?_
  refine v_iload_n (j := 0) (x := jI 3) G dX8_found_5 rfl rfl ?_
  refine v_iconst G dX8_found_6 ?_
  refine v_bipush G dX8_found_7 (by decide) ?_
  refine v_ciN G (rn_S (As := [.int (jI 3), .int (jI 0), .int (jI 6)]) (rest := []) G (c_X8_within (v := 3) (lo := 0) (hi := 6) (hr := (by omega))) gX8_found_X8_within rfl hdX8_within ⟨rfl, rfl, Nat.le_of_ble_eq_true rfl, Nat.le_of_ble_eq_true rfl⟩ rfl rfl (Nat.le_of_ble_eq_true rfl) ⟨Nat.zero_le _, Nat.zero_le _⟩ dX8_found_9) (fun r_1 u_3 e_2 => ?_)
  have e_2 : r_1 = jI (b2 ((0 : Int) ≤ 3 ∧ 3 ≤ (6 : Int))) := e_2
  subst e_2
  refine v_ifb_eq (P := (0 : Int) ≤ 3 ∧ 3 ≤ (6 : Int)) (tgt := 25) G dX8_found_12 (by decide) (fun c_4 => ?_) (fun c_4 => ?_)
  · skip
    exfalso; omega
  · skip
    refine v_aload_n (j := 1) (x := a 0) G dX8_found_15 rfl rfl ?_
    refine v_get (q0 := 0) (k := 11) (v := .ref (a 59)) G k_X8 rfl rfl (by decide) q_2 rfl rfl dX8_found_16 ?_
    refine v_iload_n (j := 0) (x := jI 3) G dX8_found_19 rfl rfl ?_
    refine v_dup2 G dX8_found_20 rfl rfl ?_
    refine v_iald (q0 := 1) (t0 := 0) (g := fd) (z := 3) G rfl rfl (by omega) dX8_found_21 ?_
    refine v_iconst G dX8_found_22 ?_
    refine v_iadd (z := (fd 3) + 1) G dX8_found_23 rfl ?_
    refine v_iast (q0 := 1) (t0 := 0) (g := fd) (z := 3) (x := (fd 3) + 1) (ws' := (gS  a ks ++ gF cI a (uI fd 3 ((fd 3) + 1)))) G rfl rfl (by omega) rfl dX8_found_24 ?_
    refine v_iload_n (j := 2) (x := jI (-1000000004)) G dX8_found_25 rfl rfl ?_
    exact v_iret G () rfl rfl dX8_found_26

set_option maxHeartbeats 4000000 in
set_option maxRecDepth 100000 in
theorem c_X8_found_4   : Ci l yX8_found wsX8_found { frames := 1, cells := 0, slots := 0, locals := 22 } D (jT cI cL cB cS) [.ref (a 0), .int (jI (-1000000005))] (gS  a ks ++ gF cI a fd) (S := Unit) (fun _ => (gS  a ks ++ gF cI a (uI fd 4 (fd 4 + 1)))) (fun r _ => r = jI (-1000000005)) := by
  refine Ci.mk (cc := cX8_found) (maxL := 3) (rt := .int) (by decide) rfl (Nat.le_of_ble_eq_true rfl) rfl ?_
  intro p_ e_ s_ m_ b_ me_ c_ A_ G hnm
  have q_0 : Cond.constant RX8 83 (-1000000001) ∈ wsX8_found := List.mem_of_getElem? (i := 1) rfl
  have k_X8 : ∀ w ∈ u_ws RX8 TX8 12, w ∈ wsX8_found := fun _ h => List.mem_cons_of_mem _ (List.mem_append_right _ h)
  have q_2 : Cond.fieldLink RX8 72 "SupperLight" "findings" "[I" ∈ wsX8_found := List.mem_of_getElem? (i := 2) rfl
  refine v_ldc (z := (-1000000001)) G q_0 (by decide) dX8_found_0 ?_
  refine v_iload_n (j := 1) (x := jI (-1000000005)) G dX8_found_2 rfl rfl ?_
  refine v_isub (z := 4) G dX8_found_3 (by omega) ?_
  refine v_istore_n (lv' := [(2, .int (jI 4)), (0, .ref (a 0)), (1, .int (jI (-1000000005)))]) G dX8_found_4 rfl (by decide) rfl ?_
  refine v_iload_n (j := 0) (x := jI 4) G dX8_found_5 rfl rfl ?_
  refine v_iconst G dX8_found_6 ?_
  refine v_bipush G dX8_found_7 (by decide) ?_
  refine v_ciN G (rn_S (As := [.int (jI 4), .int (jI 0), .int (jI 6)]) (rest := []) G (c_X8_within (v := 4) (lo := 0) (hi := 6) (hr := (by omega))) gX8_found_X8_within rfl hdX8_within ⟨rfl, rfl, Nat.le_of_ble_eq_true rfl, Nat.le_of_ble_eq_true rfl⟩ rfl rfl (Nat.le_of_ble_eq_true rfl) ⟨Nat.zero_le _, Nat.zero_le _⟩ dX8_found_9) (fun r_1 u_3 e_2 => ?_)
  have e_2 : r_1 = jI (b2 ((0 : Int) ≤ 4 ∧ 4 ≤ (6 : Int))) := e_2
  subst e_2
  refine v_ifb_eq (P := (0 : Int) ≤ 4 ∧ 4 ≤ (6 : Int)) (tgt := 25) G dX8_found_12 (by decide) (fun c_4 => ?_) (fun c_4 => ?_)
  · skip
    exfalso; omega
  · skip
    refine v_aload_n (j := 1) (x := a 0) G dX8_found_15 rfl rfl ?_
    refine v_get (q0 := 0) (k := 11) (v := .ref (a 59)) G k_X8 rfl rfl (by decide) q_2 rfl rfl dX8_found_16 ?_
    refine v_iload_n (j := 0) (x := jI 4) G dX8_found_19 rfl rfl ?_
    refine v_dup2 G dX8_found_20 rfl rfl ?_
    refine v_iald (q0 := 1) (t0 := 0) (g := fd) (z := 4) G rfl rfl (by omega) dX8_found_21 ?_
    refine v_iconst G dX8_found_22 ?_
    refine v_iadd (z := (fd 4) + 1) G dX8_found_23 rfl ?_
    refine v_iast (q0 := 1) (t0 := 0) (g := fd) (z := 4) (x := (fd 4) + 1) (ws' := (gS  a ks ++ gF cI a (uI fd 4 ((fd 4) + 1)))) G rfl rfl (by omega) rfl dX8_found_24 ?_
    refine v_iload_n (j := 2) (x := jI (-1000000005)) G dX8_found_25 rfl rfl ?_
    exact v_iret G () rfl rfl dX8_found_26

set_option maxHeartbeats 4000000 in
set_option maxRecDepth 100000 in
theorem c_X8_found_5   : Ci l yX8_found wsX8_found { frames := 1, cells := 0, slots := 0, locals := 22 } D (jT cI cL cB cS) [.ref (a 0), .int (jI (-1000000006))] (gS  a ks ++ gF cI a fd) (S := Unit) (fun _ => (gS  a ks ++ gF cI a (uI fd 5 (fd 5 + 1)))) (fun r _ => r = jI (-1000000006)) := by
  refine Ci.mk (cc := cX8_found) (maxL := 3) (rt := .int) (by decide) rfl (Nat.le_of_ble_eq_true rfl) rfl ?_
  intro p_ e_ s_ m_ b_ me_ c_ A_ G hnm
  have q_0 : Cond.constant RX8 83 (-1000000001) ∈ wsX8_found := List.mem_of_getElem? (i := 1) rfl
  have k_X8 : ∀ w ∈ u_ws RX8 TX8 12, w ∈ wsX8_found := fun _ h => List.mem_cons_of_mem _ (List.mem_append_right _ h)
  have q_2 : Cond.fieldLink RX8 72 "SupperLight" "findings" "[I" ∈ wsX8_found := List.mem_of_getElem? (i := 2) rfl
  refine v_ldc (z := (-1000000001)) G q_0 (by decide) dX8_found_0 ?_
  refine v_iload_n (j := 1) (x := jI (-1000000006)) G dX8_found_2 rfl rfl ?_
  refine v_isub (z := 5) G dX8_found_3 (by omega) ?_
  refine v_istore_n (lv' := [(2, .int (jI 5)), (0, .ref (a 0)), (1, .int (jI (-1000000006)))]) G dX8_found_4 rfl (by decide) rfl ?_
  refine v_iload_n (j := 0) (x := jI 5) G dX8_found_5 rfl rfl ?_
  refine v_iconst G dX8_found_6 ?_
  refine v_bipush G dX8_found_7 (by decide) ?_
  refine v_ciN G (rn_S (As := [.int (jI 5), .int (jI 0), .int (jI 6)]) (rest := []) G (c_X8_within (v := 5) (lo := 0) (hi := 6) (hr := (by omega))) gX8_found_X8_within rfl hdX8_within ⟨rfl, rfl, Nat.le_of_ble_eq_true rfl, Nat.le_of_ble_eq_true rfl⟩ rfl rfl (Nat.le_of_ble_eq_true rfl) ⟨Nat.zero_le _, Nat.zero_le _⟩ dX8_found_9) (fun r_1 u_3 e_2 => ?_)
  have e_2 : r_1 = jI (b2 ((0 : Int) ≤ 5 ∧ 5 ≤ (6 : Int))) := e_2
  subst e_2
  refine v_ifb_eq (P := (0 : Int) ≤ 5 ∧ 5 ≤ (6 : Int)) (tgt := 25) G dX8_found_12 (by decide) (fun c_4 => ?_) (fun c_4 => ?_)
  · skip
    exfalso; omega
  · skip
    refine v_aload_n (j := 1) (x := a 0) G dX8_found_15 rfl rfl ?_
    refine v_get (q0 := 0) (k := 11) (v := .ref (a 59)) G k_X8 rfl rfl (by decide) q_2 rfl rfl dX8_found_16 ?_
    refine v_iload_n (j := 0) (x := jI 5) G dX8_found_19 rfl rfl ?_
    refine v_dup2 G dX8_found_20 rfl rfl ?_
    refine v_iald (q0 := 1) (t0 := 0) (g := fd) (z := 5) G rfl rfl (by omega) dX8_found_21 ?_
    refine v_iconst G dX8_found_22 ?_
    refine v_iadd (z := (fd 5) + 1) G dX8_found_23 rfl ?_
    refine v_iast (q0 := 1) (t0 := 0) (g := fd) (z := 5) (x := (fd 5) + 1) (ws' := (gS  a ks ++ gF cI a (uI fd 5 ((fd 5) + 1)))) G rfl rfl (by omega) rfl dX8_found_24 ?_
    refine v_iload_n (j := 2) (x := jI (-1000000006)) G dX8_found_25 rfl rfl ?_
    exact v_iret G () rfl rfl dX8_found_26

set_option maxHeartbeats 4000000 in
set_option maxRecDepth 100000 in
theorem c_X8_found_6   : Ci l yX8_found wsX8_found { frames := 1, cells := 0, slots := 0, locals := 22 } D (jT cI cL cB cS) [.ref (a 0), .int (jI (-1000000007))] (gS  a ks ++ gF cI a fd) (S := Unit) (fun _ => (gS  a ks ++ gF cI a (uI fd 6 (fd 6 + 1)))) (fun r _ => r = jI (-1000000007)) := by
  refine Ci.mk (cc := cX8_found) (maxL := 3) (rt := .int) (by decide) rfl (Nat.le_of_ble_eq_true rfl) rfl ?_
  intro p_ e_ s_ m_ b_ me_ c_ A_ G hnm
  have q_0 : Cond.constant RX8 83 (-1000000001) ∈ wsX8_found := List.mem_of_getElem? (i := 1) rfl
  have k_X8 : ∀ w ∈ u_ws RX8 TX8 12, w ∈ wsX8_found := fun _ h => List.mem_cons_of_mem _ (List.mem_append_right _ h)
  have q_2 : Cond.fieldLink RX8 72 "SupperLight" "findings" "[I" ∈ wsX8_found := List.mem_of_getElem? (i := 2) rfl
  refine v_ldc (z := (-1000000001)) G q_0 (by decide) dX8_found_0 ?_
  refine v_iload_n (j := 1) (x := jI (-1000000007)) G dX8_found_2 rfl rfl ?_
  refine v_isub (z := 6) G dX8_found_3 (by omega) ?_
  refine v_istore_n (lv' := [(2, .int (jI 6)), (0, .ref (a 0)), (1, .int (jI (-1000000007)))]) G dX8_found_4 rfl (by decide) rfl ?_
  refine v_iload_n (j := 0) (x := jI 6) G dX8_found_5 rfl rfl ?_
  refine v_iconst G dX8_found_6 ?_
  refine v_bipush G dX8_found_7 (by decide) ?_
  refine v_ciN G (rn_S (As := [.int (jI 6), .int (jI 0), .int (jI 6)]) (rest := []) G (c_X8_within (v := 6) (lo := 0) (hi := 6) (hr := (by omega))) gX8_found_X8_within rfl hdX8_within ⟨rfl, rfl, Nat.le_of_ble_eq_true rfl, Nat.le_of_ble_eq_true rfl⟩ rfl rfl (Nat.le_of_ble_eq_true rfl) ⟨Nat.zero_le _, Nat.zero_le _⟩ dX8_found_9) (fun r_1 u_3 e_2 => ?_)
  have e_2 : r_1 = jI (b2 ((0 : Int) ≤ 6 ∧ 6 ≤ (6 : Int))) := e_2
  subst e_2
  refine v_ifb_eq (P := (0 : Int) ≤ 6 ∧ 6 ≤ (6 : Int)) (tgt := 25) G dX8_found_12 (by decide) (fun c_4 => ?_) (fun c_4 => ?_)
  · skip
    exfalso; omega
  · skip
    refine v_aload_n (j := 1) (x := a 0) G dX8_found_15 rfl rfl ?_
    refine v_get (q0 := 0) (k := 11) (v := .ref (a 59)) G k_X8 rfl rfl (by decide) q_2 rfl rfl dX8_found_16 ?_
    refine v_iload_n (j := 0) (x := jI 6) G dX8_found_19 rfl rfl ?_
    refine v_dup2 G dX8_found_20 rfl rfl ?_
    refine v_iald (q0 := 1) (t0 := 0) (g := fd) (z := 6) G rfl rfl (by omega) dX8_found_21 ?_
    refine v_iconst G dX8_found_22 ?_
    refine v_iadd (z := (fd 6) + 1) G dX8_found_23 rfl ?_
    refine v_iast (q0 := 1) (t0 := 0) (g := fd) (z := 6) (x := (fd 6) + 1) (ws' := (gS  a ks ++ gF cI a (uI fd 6 ((fd 6) + 1)))) G rfl rfl (by omega) rfl dX8_found_24 ?_
    refine v_iload_n (j := 2) (x := jI (-1000000007)) G dX8_found_25 rfl rfl ?_
    exact v_iret G () rfl rfl dX8_found_26

set_option maxHeartbeats 4000000 in
set_option maxRecDepth 100000 in
theorem c_X8_mostOf (t : Int) (hr : (-2147483648 ≤ t ∧ t ≤ 2147483647)) : Ci l yX8_mostOf wsX8_mostOf { frames := 0, cells := 0, slots := 0, locals := 0 } D (jT cI cL cB cS) [.ref (a 0), .int (jI t)] (gS  a ks) (S := Unit) (fun _ => (gS  a ks)) (fun r _ => r = jI (if t = 3 then 99 else if t = 4 then 999 else 15)) := by
  refine Ci.mk (cc := cX8_mostOf) (maxL := 2) (rt := .int) (by decide) rfl (Nat.le_of_ble_eq_true rfl) rfl ?_
  intro p_ e_ s_ m_ b_ me_ c_ A_ G hnm
  refine v_iload_n (j := 1) (x := jI t) G dX8_mostOf_0 rfl rfl ?_
  rcases (show t = 3 ∨ t = 4 ∨ (t ≠ 3 ∧ t ≠ 4) by omega) with c_1 | c_1 | c_1
  · skip
    refine v_lookIn (z := t) (v := 3) (off := 27) (tgt := 28) G c_1 (by decide) (by decide) (by decide) (by decide) dX8_mostOf_1 ?_
    refine v_bipush G dX8_mostOf_28 (by decide) ?_
    exact v_iret G () (show jI 99 = jI (if t = 3 then 99 else if t = 4 then 999 else 15) from congrArg jI (by (repeat' split) <;> omega)) rfl dX8_mostOf_30
  · skip
    refine v_lookIn (z := t) (v := 4) (off := 30) (tgt := 31) G c_1 (by decide) (by decide) (by decide) (by decide) dX8_mostOf_1 ?_
    refine v_sipush G dX8_mostOf_31 (by decide) ?_
    exact v_iret G () (show jI 999 = jI (if t = 3 then 99 else if t = 4 then 999 else 15) from congrArg jI (by (repeat' split) <;> omega)) rfl dX8_mostOf_34
  · skip
    refine v_lookOut (z := t) (tgt := 35) G (by decide) (by simp only [List.mem_cons, List.not_mem_nil, or_false, forall_eq_or_imp, forall_eq]; omega) (by omega) (by decide) dX8_mostOf_1 ?_
    refine v_bipush G dX8_mostOf_35 (by decide) ?_
    exact v_iret G () (show jI 15 = jI (if t = 3 then 99 else if t = 4 then 999 else 15) from congrArg jI (by (repeat' split) <;> omega)) rfl dX8_mostOf_37

set_option maxHeartbeats 4000000 in
set_option maxRecDepth 100000 in
theorem c_X8_rowOf_1   : Cr l yX8_rowOf wsX8_rowOf { frames := 0, cells := 0, slots := 0, locals := 0 } D (jT cI cL cB cS) [.ref (a 0), .int (jI 1)] (gS  a ks ++ gW cI (fun i => a (1 + i)) wd ++ gF cI a fd) (fun _ r => r = a 4) := by
  refine Cr.mk (cc := cX8_rowOf) (maxL := 2) (rt := (.array .int)) (by decide) rfl (Nat.le_of_ble_eq_true rfl) rfl ?_
  intro p_ e_ s_ m_ b_ me_ c_ A_ G
  have k_X8 : ∀ w ∈ u_ws RX8 TX8 12, w ∈ wsX8_rowOf := fun _ h => List.mem_cons_of_mem _ (List.mem_append_left _ (List.mem_append_right _ h))
  have q_1 : Cond.fieldLink RX8 10 "SupperLight" "world" "LSupperLight$World;" ∈ wsX8_rowOf := List.mem_of_getElem? (i := 1) rfl
  have k_X7 : ∀ w ∈ u_ws RX7 TX7 12, w ∈ wsX8_rowOf := fun _ h => List.mem_cons_of_mem _ (List.mem_append_right _ h)
  have q_3 : Cond.fieldLink RX8 115 "SupperLight$World" "ats" "[I" ∈ wsX8_rowOf := List.mem_of_getElem? (i := 2) rfl
  refine v_iload_n (j := 1) (x := jI 1) G dX8_rowOf_0 rfl rfl ?_
  rcases (show (1 : Int) = 1 by omega) with c_1
  · skip
    refine v_tabIn (z := 1) (v := 1) (tgt := 28) G c_1 (by decide) rfl (by decide) dX8_rowOf_1 ?_
    refine v_aload_n (j := 0) (x := a 0) G dX8_rowOf_28 rfl rfl ?_
    refine v_get (q0 := 0) (k := 0) (v := .ref (a 1)) G k_X8 rfl rfl (by decide) q_1 rfl rfl dX8_rowOf_29 ?_
    refine v_get (q0 := 1) (k := 4) (v := .ref (a 4)) G k_X7 rfl rfl (by decide) q_3 rfl rfl dX8_rowOf_32 ?_
    exact v_aret G (Or.inr ⟨_, rfl⟩) (fun _ _ => rfl) dX8_rowOf_35

set_option maxHeartbeats 4000000 in
set_option maxRecDepth 100000 in
theorem c_X8_rowOf_2   : Cr l yX8_rowOf wsX8_rowOf { frames := 0, cells := 0, slots := 0, locals := 0 } D (jT cI cL cB cS) [.ref (a 0), .int (jI 2)] (gS  a ks ++ gW cI (fun i => a (1 + i)) wd ++ gF cI a fd) (fun _ r => r = a 5) := by
  refine Cr.mk (cc := cX8_rowOf) (maxL := 2) (rt := (.array .int)) (by decide) rfl (Nat.le_of_ble_eq_true rfl) rfl ?_
  intro p_ e_ s_ m_ b_ me_ c_ A_ G
  have k_X8 : ∀ w ∈ u_ws RX8 TX8 12, w ∈ wsX8_rowOf := fun _ h => List.mem_cons_of_mem _ (List.mem_append_left _ (List.mem_append_right _ h))
  have q_1 : Cond.fieldLink RX8 10 "SupperLight" "world" "LSupperLight$World;" ∈ wsX8_rowOf := List.mem_of_getElem? (i := 1) rfl
  have k_X7 : ∀ w ∈ u_ws RX7 TX7 12, w ∈ wsX8_rowOf := fun _ h => List.mem_cons_of_mem _ (List.mem_append_right _ h)
  have q_3 : Cond.fieldLink RX8 118 "SupperLight$World" "goals" "[I" ∈ wsX8_rowOf := List.mem_of_getElem? (i := 3) rfl
  refine v_iload_n (j := 1) (x := jI 2) G dX8_rowOf_0 rfl rfl ?_
  rcases (show (2 : Int) = 2 by omega) with c_1
  · skip
    refine v_tabIn (z := 2) (v := 2) (tgt := 36) G c_1 (by decide) rfl (by decide) dX8_rowOf_1 ?_
    refine v_aload_n (j := 0) (x := a 0) G dX8_rowOf_36 rfl rfl ?_
    refine v_get (q0 := 0) (k := 0) (v := .ref (a 1)) G k_X8 rfl rfl (by decide) q_1 rfl rfl dX8_rowOf_37 ?_
    refine v_get (q0 := 1) (k := 5) (v := .ref (a 5)) G k_X7 rfl rfl (by decide) q_3 rfl rfl dX8_rowOf_40 ?_
    exact v_aret G (Or.inr ⟨_, rfl⟩) (fun _ _ => rfl) dX8_rowOf_43

set_option maxHeartbeats 4000000 in
set_option maxRecDepth 100000 in
theorem c_X8_rowOf_3   : Cr l yX8_rowOf wsX8_rowOf { frames := 0, cells := 0, slots := 0, locals := 0 } D (jT cI cL cB cS) [.ref (a 0), .int (jI 3)] (gS  a ks ++ gW cI (fun i => a (1 + i)) wd ++ gF cI a fd) (fun _ r => r = a 6) := by
  refine Cr.mk (cc := cX8_rowOf) (maxL := 2) (rt := (.array .int)) (by decide) rfl (Nat.le_of_ble_eq_true rfl) rfl ?_
  intro p_ e_ s_ m_ b_ me_ c_ A_ G
  have k_X8 : ∀ w ∈ u_ws RX8 TX8 12, w ∈ wsX8_rowOf := fun _ h => List.mem_cons_of_mem _ (List.mem_append_left _ (List.mem_append_right _ h))
  have q_1 : Cond.fieldLink RX8 10 "SupperLight" "world" "LSupperLight$World;" ∈ wsX8_rowOf := List.mem_of_getElem? (i := 1) rfl
  have k_X7 : ∀ w ∈ u_ws RX7 TX7 12, w ∈ wsX8_rowOf := fun _ h => List.mem_cons_of_mem _ (List.mem_append_right _ h)
  have q_3 : Cond.fieldLink RX8 121 "SupperLight$World" "meals" "[I" ∈ wsX8_rowOf := List.mem_of_getElem? (i := 4) rfl
  refine v_iload_n (j := 1) (x := jI 3) G dX8_rowOf_0 rfl rfl ?_
  rcases (show (3 : Int) = 3 by omega) with c_1
  · skip
    refine v_tabIn (z := 3) (v := 3) (tgt := 44) G c_1 (by decide) rfl (by decide) dX8_rowOf_1 ?_
    refine v_aload_n (j := 0) (x := a 0) G dX8_rowOf_44 rfl rfl ?_
    refine v_get (q0 := 0) (k := 0) (v := .ref (a 1)) G k_X8 rfl rfl (by decide) q_1 rfl rfl dX8_rowOf_45 ?_
    refine v_get (q0 := 1) (k := 6) (v := .ref (a 6)) G k_X7 rfl rfl (by decide) q_3 rfl rfl dX8_rowOf_48 ?_
    exact v_aret G (Or.inr ⟨_, rfl⟩) (fun _ _ => rfl) dX8_rowOf_51

set_option maxHeartbeats 4000000 in
set_option maxRecDepth 100000 in
theorem c_X8_rowOf_4   : Cr l yX8_rowOf wsX8_rowOf { frames := 0, cells := 0, slots := 0, locals := 0 } D (jT cI cL cB cS) [.ref (a 0), .int (jI 4)] (gS  a ks ++ gW cI (fun i => a (1 + i)) wd ++ gF cI a fd) (fun _ r => r = a 7) := by
  refine Cr.mk (cc := cX8_rowOf) (maxL := 2) (rt := (.array .int)) (by decide) rfl (Nat.le_of_ble_eq_true rfl) rfl ?_
  intro p_ e_ s_ m_ b_ me_ c_ A_ G
  have k_X8 : ∀ w ∈ u_ws RX8 TX8 12, w ∈ wsX8_rowOf := fun _ h => List.mem_cons_of_mem _ (List.mem_append_left _ (List.mem_append_right _ h))
  have q_1 : Cond.fieldLink RX8 10 "SupperLight" "world" "LSupperLight$World;" ∈ wsX8_rowOf := List.mem_of_getElem? (i := 1) rfl
  have k_X7 : ∀ w ∈ u_ws RX7 TX7 12, w ∈ wsX8_rowOf := fun _ h => List.mem_cons_of_mem _ (List.mem_append_right _ h)
  have q_3 : Cond.fieldLink RX8 124 "SupperLight$World" "fasts" "[I" ∈ wsX8_rowOf := List.mem_of_getElem? (i := 5) rfl
  refine v_iload_n (j := 1) (x := jI 4) G dX8_rowOf_0 rfl rfl ?_
  rcases (show ((4 : Int) < 1 ∨ 3 < (4 : Int)) by omega) with c_1
  · skip
    refine v_tabOut (z := 4) (tgt := 52) G c_1 (by omega) (by decide) dX8_rowOf_1 ?_
    refine v_aload_n (j := 0) (x := a 0) G dX8_rowOf_52 rfl rfl ?_
    refine v_get (q0 := 0) (k := 0) (v := .ref (a 1)) G k_X8 rfl rfl (by decide) q_1 rfl rfl dX8_rowOf_53 ?_
    refine v_get (q0 := 1) (k := 7) (v := .ref (a 7)) G k_X7 rfl rfl (by decide) q_3 rfl rfl dX8_rowOf_56 ?_
    exact v_aret G (Or.inr ⟨_, rfl⟩) (fun _ _ => rfl) dX8_rowOf_59

set_option maxHeartbeats 4000000 in
set_option maxRecDepth 100000 in
theorem c_X8_lightOn (p n : Int) (hw : Wc wd) (hp : (0 ≤ p ∧ p < 16) ∧ 0 ≤ n ∧ n ≤ 100) : Ci l yX8_lightOn wsX8_lightOn { frames := 4, cells := 0, slots := 0, locals := 92 } D (jT cI cL cB cS) [.ref (a 0), .int (jI p), .int (jI n)] (gS  a ks ++ gW cI (fun i => a (1 + i)) wd ++ gG cI (fun i => a (31 + i)) gl) (S := Unit) (fun _ => (gS  a ks ++ gW cI (fun i => a (1 + i)) wd ++ gG cI (fun i => a (31 + i)) (glS wd n gl))) (fun r _ => r = jI (cLt wd n p)) := by
  refine Ci.mk (cc := cX8_lightOn) (maxL := 3) (rt := .int) (by decide) rfl (Nat.le_of_ble_eq_true rfl) rfl ?_
  intro p_ e_ s_ m_ b_ me_ c_ A_ G hnm
  have k_X8 : ∀ w ∈ u_ws RX8 TX8 12, w ∈ wsX8_lightOn := fun _ h => List.mem_cons_of_mem _ (List.mem_append_left _ (List.mem_append_left _ (List.mem_append_right _ h)))
  have q_1 : Cond.fieldLink RX8 29 "SupperLight" "glow" "LSupperLight$Glow;" ∈ wsX8_lightOn := List.mem_of_getElem? (i := 1) rfl
  have q_2 : Cond.fieldLink RX8 10 "SupperLight" "world" "LSupperLight$World;" ∈ wsX8_lightOn := List.mem_of_getElem? (i := 2) rfl
  refine v_aload_n (j := 0) (x := a 0) G dX8_lightOn_0 rfl rfl ?_
  refine v_get (q0 := 0) (k := 4) (v := .ref (a 31)) G k_X8 rfl rfl (by decide) q_1 rfl rfl dX8_lightOn_1 ?_
  refine v_aload_n (j := 0) (x := a 0) G dX8_lightOn_4 rfl rfl ?_
  refine v_get (q0 := 0) (k := 0) (v := .ref (a 1)) G k_X8 rfl rfl (by decide) q_2 rfl rfl dX8_lightOn_5 ?_
  refine v_iload_n (j := 2) (x := jI n) G dX8_lightOn_8 rfl rfl ?_
  refine v_cvP (w2 := (fun _ => (gS  a ks ++ gW cI (fun i => a (1 + i)) wd ++ gG cI (fun i => a (31 + i)) (glS wd n gl)))) (wr := (gS  a ks)) G (rn_V (As := [.ref (a 1), .int (jI n)]) (rest := []) (q0 := 0) G (c_X0_settleOn (n := n) (g := gl) (x := wd) (c := fun i => a (31 + i)) (b := fun i => a (1 + i)) (hw := hw) (hn := (by omega))) gX8_lightOn_X0_settleOn rfl hdX0_settleOn ⟨rfl, rfl, Nat.le_of_ble_eq_true rfl, Nat.le_of_ble_eq_true rfl⟩ rfl rfl (Nat.le_of_ble_eq_true rfl) ⟨Nat.zero_le _, Nat.zero_le _⟩ rfl rfl dX8_lightOn_9) [11, 12, 13, 14, 15, 1, 2, 3, 4, 5, 6, 7, 8, 9, 10] [0] [0, 6, 7, 8, 9, 10, 11, 12, 13, 14, 15, 1, 2, 3, 4, 5] rfl rfl (by decide) (fun _ => rfl) (fun u_3 e_2 => ?_)
  refine v_world (ws' := (gS  a ks ++ gW cI (fun i => a (1 + i)) wd ++ gG cI (fun i => a (31 + i)) (glS wd n gl))) rfl ?_
  refine v_aload_n (j := 0) (x := a 0) G dX8_lightOn_12 rfl rfl ?_
  refine v_get (q0 := 0) (k := 4) (v := .ref (a 31)) G k_X8 rfl rfl (by decide) q_1 rfl rfl dX8_lightOn_13 ?_
  refine v_iload_n (j := 1) (x := jI p) G dX8_lightOn_16 rfl rfl ?_
  refine v_ciP (w2 := (fun _ => (gS  a ks ++ gW cI (fun i => a (1 + i)) wd ++ gG cI (fun i => a (31 + i)) (((glS wd n gl).1), ((glS wd n gl).2.1), ((glS wd n gl).2.2.1), ((glS wd n gl).2.2.2.1), ((glS wd n gl).2.2.2.2))))) (wr := (gS  a ks ++ gW cI (fun i => a (1 + i)) wd)) G (rn_V (As := [.int (jI p)]) (rest := []) (q0 := 0) G (c_X0_lightOf (p := p) (g := (glS wd n gl)) (c := fun i => a (31 + i)) (hg := (glS_f hw (by omega) gl)) (hp := (by omega))) gX8_lightOn_X0_lightOf rfl hdX0_lightOf ⟨rfl, rfl, Nat.le_of_ble_eq_true rfl, Nat.le_of_ble_eq_true rfl⟩ rfl rfl (Nat.le_of_ble_eq_true rfl) ⟨Nat.zero_le _, Nat.zero_le _⟩ rfl rfl dX8_lightOn_17) [11, 12, 13, 14, 15] [0, 1, 2, 3, 4, 5, 6, 7, 8, 9, 10] [0, 1, 2, 3, 4, 5, 6, 7, 8, 9, 10, 11, 12, 13, 14, 15] rfl rfl (by decide) (fun _ => rfl) (fun r_4 u_6 e_5 => ?_)
  have e_5 : r_4 = jI (ltT (glS wd n gl) p) := e_5
  subst e_5
  refine v_world (ws' := (gS  a ks ++ gW cI (fun i => a (1 + i)) wd ++ gG cI (fun i => a (31 + i)) (((glS wd n gl).1), ((glS wd n gl).2.1), ((glS wd n gl).2.2.1), ((glS wd n gl).2.2.2.1), ((glS wd n gl).2.2.2.2)))) rfl ?_
  exact v_iret G () (show jI (ltT (glS wd n gl) p) = jI (cLt wd n p) from congrArg jI (ltT_S wd n gl p)) rfl dX8_lightOn_20

set_option maxHeartbeats 4000000 in
set_option maxRecDepth 100000 in
theorem c_X8_lightAll  (hw : Wc wd) : Cv l yX8_lightAll wsX8_lightAll { frames := 4, cells := 0, slots := 0, locals := 92 } D (jT cI cL cB cS) [.ref (a 0)] (gS  a ks ++ gW cI (fun i => a (1 + i)) wd ++ gG cI (fun i => a (31 + i)) gl ++ gI cI a li) (S := Unit) (fun _ => (gS  a ks ++ gW cI (fun i => a (1 + i)) wd ++ gG cI (fun i => a (31 + i)) (glS wd 0 gl) ++ gI cI a (cLt wd 0))) (fun _ => True) := by
  refine Cv.mk (cc := cX8_lightAll) (maxL := 2) (by decide) rfl (Nat.le_of_ble_eq_true rfl) rfl ?_
  intro p_ e_ s_ m_ b_ me_ c_ A_ G hnm
  have k_X8 : ∀ w ∈ u_ws RX8 TX8 12, w ∈ wsX8_lightAll := fun _ h => List.mem_cons_of_mem _ (List.mem_append_left _ (List.mem_append_left _ (List.mem_append_right _ h)))
  have q_1 : Cond.fieldLink RX8 29 "SupperLight" "glow" "LSupperLight$Glow;" ∈ wsX8_lightAll := List.mem_of_getElem? (i := 1) rfl
  have q_2 : Cond.fieldLink RX8 10 "SupperLight" "world" "LSupperLight$World;" ∈ wsX8_lightAll := List.mem_of_getElem? (i := 2) rfl
  have q_3 : Cond.fieldLink RX8 68 "SupperLight" "lights" "[I" ∈ wsX8_lightAll := List.mem_of_getElem? (i := 3) rfl
  refine v_aload_n (j := 0) (x := a 0) G dX8_lightAll_0 rfl rfl ?_
  refine v_get (q0 := 0) (k := 4) (v := .ref (a 31)) G k_X8 rfl rfl (by decide) q_1 rfl rfl dX8_lightAll_1 ?_
  refine v_aload_n (j := 0) (x := a 0) G dX8_lightAll_4 rfl rfl ?_
  refine v_get (q0 := 0) (k := 0) (v := .ref (a 1)) G k_X8 rfl rfl (by decide) q_2 rfl rfl dX8_lightAll_5 ?_
  refine v_iconst G dX8_lightAll_8 ?_
  refine v_cvP (w2 := (fun _ => (gS  a ks ++ gW cI (fun i => a (1 + i)) wd ++ gG cI (fun i => a (31 + i)) (glS wd 0 gl) ++ gI cI a li))) (wr := (gS  a ks ++ gI cI a li)) G (rn_V (As := [.ref (a 1), .int (jI 0)]) (rest := []) (q0 := 0) G (c_X0_settleOn (n := 0) (g := gl) (x := wd) (c := fun i => a (31 + i)) (b := fun i => a (1 + i)) (hw := hw) (hn := (by omega))) gX8_lightAll_X0_settleOn rfl hdX0_settleOn ⟨rfl, rfl, Nat.le_of_ble_eq_true rfl, Nat.le_of_ble_eq_true rfl⟩ rfl rfl (Nat.le_of_ble_eq_true rfl) ⟨Nat.zero_le _, Nat.zero_le _⟩ rfl rfl dX8_lightAll_9) [11, 12, 13, 14, 15, 1, 2, 3, 4, 5, 6, 7, 8, 9, 10] [0, 16] [0, 7, 8, 9, 10, 11, 12, 13, 14, 15, 16, 2, 3, 4, 5, 6, 1] rfl rfl (by decide) (fun _ => rfl) (fun u_3 e_2 => ?_)
  refine v_world (ws' := (gS  a ks ++ gW cI (fun i => a (1 + i)) wd ++ gG cI (fun i => a (31 + i)) (glS wd 0 gl) ++ gI cI a li)) rfl ?_
  refine v_iconst G dX8_lightAll_12 ?_
  refine v_istore_n (lv' := [(1, .int (jI 0)), (0, .ref (a 0))]) G dX8_lightAll_13 rfl (by decide) rfl ?_
  refine v_cell (q0 := 16) (g := li) (g' := cpN (cLt wd 0) li 0) (ws' := (gS  a ks ++ gW cI (fun i => a (1 + i)) wd ++ gG cI (fun i => a (31 + i)) (glS wd 0 gl) ++ gI cI a (cpN (cLt wd 0) li 0))) rfl (fun j h0 _ => by unfold cpN; rw [if_neg (by omega)]) rfl ?_
  refine v_locs (lv' := [(1, .int (jI 0)), (0, .ref (a 0))]) [0, 1] rfl ?_
  refine v_loop1 (fun (q : Nat) => [(1, .int (jI (q : Int))), (0, .ref (a 0))]) (fun (q : Nat) => (gS  a ks ++ gW cI (fun i => a (1 + i)) wd ++ gG cI (fun i => a (31 + i)) (glS wd 0 gl) ++ gI cI a (cpN (cLt wd 0) li q))) (fun (q : Nat) => (q : Int) ≤ 16) (fun (q : Nat) => 16 - q) 0 (by decide) rfl rfl ?_
  intro q I_4 ih_5
  refine v_iload_n (j := 0) (x := jI (q : Int)) G dX8_lightAll_14 rfl rfl ?_
  refine v_bipush G dX8_lightAll_15 (by decide) ?_
  refine v_icmp_ge (a := (q : Int)) (b := 16) (tgt := 40) G dX8_lightAll_17 (by decide) (by omega) (fun c_6 => ?_) (fun c_6 => ?_)
  · skip
    refine v_cell (q0 := 16) (g := cpN (cLt wd 0) li q) (g' := cLt wd 0) (ws' := (gS  a ks ++ gW cI (fun i => a (1 + i)) wd ++ gG cI (fun i => a (31 + i)) (glS wd 0 gl) ++ gI cI a (cLt wd 0))) rfl (fun j h0 _ => by unfold cpN; rw [if_pos (by omega)]) rfl ?_
    exact v_vret G () trivial rfl dX8_lightAll_40
  · skip
    refine v_aload_n (j := 1) (x := a 0) G dX8_lightAll_20 rfl rfl ?_
    refine v_get (q0 := 0) (k := 10) (v := .ref (a 58)) G k_X8 rfl rfl (by decide) q_3 rfl rfl dX8_lightAll_21 ?_
    refine v_iload_n (j := 0) (x := jI (q : Int)) G dX8_lightAll_24 rfl rfl ?_
    refine v_aload_n (j := 1) (x := a 0) G dX8_lightAll_25 rfl rfl ?_
    refine v_get (q0 := 0) (k := 4) (v := .ref (a 31)) G k_X8 rfl rfl (by decide) q_1 rfl rfl dX8_lightAll_26 ?_
    refine v_iload_n (j := 0) (x := jI (q : Int)) G dX8_lightAll_29 rfl rfl ?_
    refine v_ciP (w2 := (fun _ => (gS  a ks ++ gW cI (fun i => a (1 + i)) wd ++ gG cI (fun i => a (31 + i)) (((glS wd 0 gl).1), ((glS wd 0 gl).2.1), ((glS wd 0 gl).2.2.1), ((glS wd 0 gl).2.2.2.1), ((glS wd 0 gl).2.2.2.2)) ++ gI cI a (cpN (cLt wd 0) li q)))) (wr := (gS  a ks ++ gW cI (fun i => a (1 + i)) wd ++ gI cI a (cpN (cLt wd 0) li q))) G (rn_V (As := [.int (jI (q : Int))]) (rest := [.int (jI (q : Int)), .ref (a 58)]) (q0 := 0) G (c_X0_lightOf (p := (q : Int)) (g := (glS wd 0 gl)) (c := fun i => a (31 + i)) (hg := (glS_f hw (by omega) gl)) (hp := (by omega))) gX8_lightAll_X0_lightOf rfl hdX0_lightOf ⟨rfl, rfl, Nat.le_of_ble_eq_true rfl, Nat.le_of_ble_eq_true rfl⟩ rfl rfl (Nat.le_of_ble_eq_true rfl) ⟨Nat.zero_le _, Nat.zero_le _⟩ rfl rfl dX8_lightAll_30) [11, 12, 13, 14, 15] [0, 1, 2, 3, 4, 5, 6, 7, 8, 9, 10, 16] [0, 1, 2, 3, 4, 5, 6, 7, 8, 9, 10, 12, 13, 14, 15, 16, 11] rfl rfl (by decide) (fun _ => rfl) (fun r_7 u_9 e_8 => ?_)
    have e_8 : r_7 = jI (ltT (glS wd 0 gl) (q : Int)) := e_8
    subst e_8
    refine v_world (ws' := (gS  a ks ++ gW cI (fun i => a (1 + i)) wd ++ gG cI (fun i => a (31 + i)) (((glS wd 0 gl).1), ((glS wd 0 gl).2.1), ((glS wd 0 gl).2.2.1), ((glS wd 0 gl).2.2.2.1), ((glS wd 0 gl).2.2.2.2)) ++ gI cI a (cpN (cLt wd 0) li q))) rfl ?_
    refine v_topj (x := ltT (glS wd 0 gl) (q : Int)) (y := cLt wd 0 (q : Int)) (ltT_S wd 0 gl (q : Int)) ?_
    refine v_iast (q0 := 16) (t0 := 0) (g := cpN (cLt wd 0) li q) (z := (q : Int)) (x := cLt wd 0 (q : Int)) (ws' := (gS  a ks ++ gW cI (fun i => a (1 + i)) wd ++ gG cI (fun i => a (31 + i)) (((glS wd 0 gl).1), ((glS wd 0 gl).2.1), ((glS wd 0 gl).2.2.1), ((glS wd 0 gl).2.2.2.1), ((glS wd 0 gl).2.2.2.2)) ++ gI cI a (uI (cpN (cLt wd 0) li q) (q : Int) (cLt wd 0 (q : Int))))) G rfl rfl (by omega) rfl dX8_lightAll_33 ?_
    refine v_cell (q0 := 16) (g := uI (cpN (cLt wd 0) li q) (q : Int) (cLt wd 0 (q : Int))) (g' := cpN (cLt wd 0) li (q + 1)) (ws' := (gS  a ks ++ gW cI (fun i => a (1 + i)) wd ++ gG cI (fun i => a (31 + i)) (((glS wd 0 gl).1), ((glS wd 0 gl).2.1), ((glS wd 0 gl).2.2.1), ((glS wd 0 gl).2.2.2.1), ((glS wd 0 gl).2.2.2.2)) ++ gI cI a (cpN (cLt wd 0) li (q + 1)))) rfl (fun j h0 _ => cpN_s (cLt wd 0) li q j h0) rfl ?_
    refine v_iinc (k := 0) (z := (q : Int)) (z' := ((q + 1 : Nat) : Int)) (lv' := [(1, .int (jI ((q + 1 : Nat) : Int))), (0, .ref (a 0))]) G dX8_lightAll_34 rfl (by omega) (by decide) rfl ?_
    refine v_goto (tgt := 14) G dX8_lightAll_37 (by decide) ?_
    exact ih_5 (q + 1) (by omega) (by omega)

set_option maxHeartbeats 4000000 in
set_option maxRecDepth 100000 in
theorem c_X8_allLight  (hw : Wc wd) : Ci l yX8_allLight wsX8_allLight { frames := 5, cells := 0, slots := 0, locals := 113 } D (jT cI cL cB cS) [.ref (a 0)] (gS  a ks ++ gW cI (fun i => a (1 + i)) wd ++ gG cI (fun i => a (31 + i)) gl ++ gI cI a li) (S := Unit) (fun _ => (gS  a ks ++ gW cI (fun i => a (1 + i)) wd ++ gG cI (fun i => a (31 + i)) (glS wd 0 gl) ++ gI cI a (cLt wd 0))) (fun r _ => r = jI (sumN (cLt wd 0) 16)) := by
  refine Ci.mk (cc := cX8_allLight) (maxL := 1) (rt := .int) (by decide) rfl (Nat.le_of_ble_eq_true rfl) rfl ?_
  intro p_ e_ s_ m_ b_ me_ c_ A_ G hnm
  have k_X8 : ∀ w ∈ u_ws RX8 TX8 12, w ∈ wsX8_allLight := fun _ h => List.mem_cons_of_mem _ (List.mem_append_left _ (List.mem_append_left _ (List.mem_append_right _ h)))
  have q_1 : Cond.fieldLink RX8 68 "SupperLight" "lights" "[I" ∈ wsX8_allLight := List.mem_of_getElem? (i := 1) rfl
  refine v_aload_n (j := 0) (x := a 0) G dX8_allLight_0 rfl rfl ?_
  refine v_cvF G (rn_V (As := []) (rest := []) (q0 := 0) G (c_X8_lightAll (ks := ks) (wd := wd) (gl := gl) (li := li) (a := a) (hw := hw)) gX8_allLight_X8_lightAll rfl hdX8_lightAll ⟨rfl, rfl, Nat.le_of_ble_eq_true rfl, Nat.le_of_ble_eq_true rfl⟩ rfl rfl (Nat.le_of_ble_eq_true rfl) ⟨Nat.zero_le _, Nat.zero_le _⟩ rfl rfl dX8_allLight_1) (fun u_3 e_2 => ?_)
  refine v_world (ws' := (gS  a ks ++ gW cI (fun i => a (1 + i)) wd ++ gG cI (fun i => a (31 + i)) (glS wd 0 gl) ++ gI cI a (cLt wd 0))) rfl ?_
  refine v_aload_n (j := 0) (x := a 0) G dX8_allLight_4 rfl rfl ?_
  refine v_get (q0 := 0) (k := 10) (v := .ref (a 58)) G k_X8 rfl rfl (by decide) q_1 rfl rfl dX8_allLight_5 ?_
  refine v_bipush G dX8_allLight_8 (by decide) ?_
  refine v_ciA (q0 := 16) G rfl (rn_S (As := [.ref (a 58), .int (jI 16)]) (rest := []) G (c_X8_sumOf (n := 16) (y := a 58) (f := cLt wd 0) (N := 16) (hn := (by omega))) gX8_allLight_X8_sumOf rfl hdX8_sumOf ⟨rfl, rfl, Nat.le_of_ble_eq_true rfl, Nat.le_of_ble_eq_true rfl⟩ rfl rfl (Nat.le_of_ble_eq_true rfl) ⟨Nat.zero_le _, Nat.zero_le _⟩ dX8_allLight_10) (fun r_4 u_6 e_5 => ?_)
  have e_5 : r_4 = jI (sumN (cLt wd 0) 16) := e_5
  subst e_5
  exact v_iret G () rfl rfl dX8_allLight_13

set_option maxHeartbeats 4000000 in
set_option maxRecDepth 100000 in
theorem c_X8_shinesNow (z : Int) (hw : Wc wd) (hz : 0 ≤ z ∧ z < wd.2.2.1) : Ci l yX8_shinesNow wsX8_shinesNow { frames := 4, cells := 0, slots := 0, locals := 92 } D (jT cI cL cB cS) [.ref (a 0), .int (jI z)] (gS  a ks ++ gW cI (fun i => a (1 + i)) wd ++ gG cI (fun i => a (31 + i)) gl) (S := Unit) (fun _ => (gS  a ks ++ gW cI (fun i => a (1 + i)) wd ++ gG cI (fun i => a (31 + i)) (glS wd 0 gl))) (fun r _ => r = jI (shF wd 0 z)) := by
  refine Ci.mk (cc := cX8_shinesNow) (maxL := 2) (rt := .int) (by decide) rfl (Nat.le_of_ble_eq_true rfl) rfl ?_
  intro p_ e_ s_ m_ b_ me_ c_ A_ G hnm
  have hm := hw.many
  have k_X8 : ∀ w ∈ u_ws RX8 TX8 12, w ∈ wsX8_shinesNow := fun _ h => List.mem_cons_of_mem _ (List.mem_append_left _ (List.mem_append_left _ (List.mem_append_right _ h)))
  have q_1 : Cond.fieldLink RX8 29 "SupperLight" "glow" "LSupperLight$Glow;" ∈ wsX8_shinesNow := List.mem_of_getElem? (i := 1) rfl
  have q_2 : Cond.fieldLink RX8 10 "SupperLight" "world" "LSupperLight$World;" ∈ wsX8_shinesNow := List.mem_of_getElem? (i := 2) rfl
  have k_X0 : ∀ w ∈ u_ws RX0 TX0 5, w ∈ wsX8_shinesNow := fun _ h => List.mem_cons_of_mem _ (List.mem_append_left _ (List.mem_append_right _ h))
  have q_4 : Cond.fieldLink RX8 305 "SupperLight$Glow" "shines" "[I" ∈ wsX8_shinesNow := List.mem_of_getElem? (i := 3) rfl
  refine v_aload_n (j := 0) (x := a 0) G dX8_shinesNow_0 rfl rfl ?_
  refine v_get (q0 := 0) (k := 4) (v := .ref (a 31)) G k_X8 rfl rfl (by decide) q_1 rfl rfl dX8_shinesNow_1 ?_
  refine v_aload_n (j := 0) (x := a 0) G dX8_shinesNow_4 rfl rfl ?_
  refine v_get (q0 := 0) (k := 0) (v := .ref (a 1)) G k_X8 rfl rfl (by decide) q_2 rfl rfl dX8_shinesNow_5 ?_
  refine v_iconst G dX8_shinesNow_8 ?_
  refine v_cvP (w2 := (fun _ => (gS  a ks ++ gW cI (fun i => a (1 + i)) wd ++ gG cI (fun i => a (31 + i)) (glS wd 0 gl)))) (wr := (gS  a ks)) G (rn_V (As := [.ref (a 1), .int (jI 0)]) (rest := []) (q0 := 0) G (c_X0_settleOn (n := 0) (g := gl) (x := wd) (c := fun i => a (31 + i)) (b := fun i => a (1 + i)) (hw := hw) (hn := (by omega))) gX8_shinesNow_X0_settleOn rfl hdX0_settleOn ⟨rfl, rfl, Nat.le_of_ble_eq_true rfl, Nat.le_of_ble_eq_true rfl⟩ rfl rfl (Nat.le_of_ble_eq_true rfl) ⟨Nat.zero_le _, Nat.zero_le _⟩ rfl rfl dX8_shinesNow_9) [11, 12, 13, 14, 15, 1, 2, 3, 4, 5, 6, 7, 8, 9, 10] [0] [0, 6, 7, 8, 9, 10, 11, 12, 13, 14, 15, 1, 2, 3, 4, 5] rfl rfl (by decide) (fun _ => rfl) (fun u_3 e_2 => ?_)
  refine v_world (ws' := (gS  a ks ++ gW cI (fun i => a (1 + i)) wd ++ gG cI (fun i => a (31 + i)) (glS wd 0 gl))) rfl ?_
  refine v_aload_n (j := 0) (x := a 0) G dX8_shinesNow_12 rfl rfl ?_
  refine v_get (q0 := 0) (k := 4) (v := .ref (a 31)) G k_X8 rfl rfl (by decide) q_1 rfl rfl dX8_shinesNow_13 ?_
  refine v_get (q0 := 11) (k := 3) (v := .ref (a 34)) G k_X0 rfl rfl (by decide) q_4 rfl rfl dX8_shinesNow_16 ?_
  refine v_iload_n (j := 1) (x := jI z) G dX8_shinesNow_19 rfl rfl ?_
  refine v_iald (q0 := 14) (t0 := 0) (g := (glS wd 0 gl).2.2.2.1) (z := z) G rfl rfl (by omega) dX8_shinesNow_20 ?_
  exact v_iret G () (show jI (((glS wd 0 gl).2.2.2.1) z) = jI (shF wd 0 z) from congrArg jI (if_pos (by omega))) rfl dX8_shinesNow_21

set_option maxHeartbeats 4000000 in
set_option maxRecDepth 100000 in
theorem c_X8_allShine  (hw : Wc wd) : Ci l yX8_allShine wsX8_allShine { frames := 4, cells := 0, slots := 0, locals := 92 } D (jT cI cL cB cS) [.ref (a 0)] (gS  a ks ++ gW cI (fun i => a (1 + i)) wd ++ gG cI (fun i => a (31 + i)) gl) (S := Unit) (fun _ => (gS  a ks ++ gW cI (fun i => a (1 + i)) wd ++ gG cI (fun i => a (31 + i)) (glS wd 0 gl))) (fun r _ => r = jI (sumN (shF wd 0) wd.2.2.1.toNat)) := by
  refine Ci.mk (cc := cX8_allShine) (maxL := 1) (rt := .int) (by decide) rfl (Nat.le_of_ble_eq_true rfl) rfl ?_
  intro p_ e_ s_ m_ b_ me_ c_ A_ G hnm
  have hm := hw.many
  have k_X8 : ∀ w ∈ u_ws RX8 TX8 12, w ∈ wsX8_allShine := fun _ h => List.mem_cons_of_mem _ (List.mem_append_left _ (List.mem_append_left _ (List.mem_append_right _ h)))
  have q_1 : Cond.fieldLink RX8 29 "SupperLight" "glow" "LSupperLight$Glow;" ∈ wsX8_allShine := List.mem_of_getElem? (i := 1) rfl
  have q_2 : Cond.fieldLink RX8 10 "SupperLight" "world" "LSupperLight$World;" ∈ wsX8_allShine := List.mem_of_getElem? (i := 2) rfl
  have k_X0 : ∀ w ∈ u_ws RX0 TX0 5, w ∈ wsX8_allShine := fun _ h => List.mem_cons_of_mem _ (List.mem_append_left _ (List.mem_append_right _ h))
  have q_4 : Cond.fieldLink RX8 305 "SupperLight$Glow" "shines" "[I" ∈ wsX8_allShine := List.mem_of_getElem? (i := 3) rfl
  have k_X7 : ∀ w ∈ u_ws RX7 TX7 12, w ∈ wsX8_allShine := fun _ h => List.mem_cons_of_mem _ (List.mem_append_right _ h)
  have q_6 : Cond.fieldLink RX8 101 "SupperLight$World" "beings" "I" ∈ wsX8_allShine := List.mem_of_getElem? (i := 4) rfl
  refine v_aload_n (j := 0) (x := a 0) G dX8_allShine_0 rfl rfl ?_
  refine v_get (q0 := 0) (k := 4) (v := .ref (a 31)) G k_X8 rfl rfl (by decide) q_1 rfl rfl dX8_allShine_1 ?_
  refine v_aload_n (j := 0) (x := a 0) G dX8_allShine_4 rfl rfl ?_
  refine v_get (q0 := 0) (k := 0) (v := .ref (a 1)) G k_X8 rfl rfl (by decide) q_2 rfl rfl dX8_allShine_5 ?_
  refine v_iconst G dX8_allShine_8 ?_
  refine v_cvP (w2 := (fun _ => (gS  a ks ++ gW cI (fun i => a (1 + i)) wd ++ gG cI (fun i => a (31 + i)) (glS wd 0 gl)))) (wr := (gS  a ks)) G (rn_V (As := [.ref (a 1), .int (jI 0)]) (rest := []) (q0 := 0) G (c_X0_settleOn (n := 0) (g := gl) (x := wd) (c := fun i => a (31 + i)) (b := fun i => a (1 + i)) (hw := hw) (hn := (by omega))) gX8_allShine_X0_settleOn rfl hdX0_settleOn ⟨rfl, rfl, Nat.le_of_ble_eq_true rfl, Nat.le_of_ble_eq_true rfl⟩ rfl rfl (Nat.le_of_ble_eq_true rfl) ⟨Nat.zero_le _, Nat.zero_le _⟩ rfl rfl dX8_allShine_9) [11, 12, 13, 14, 15, 1, 2, 3, 4, 5, 6, 7, 8, 9, 10] [0] [0, 6, 7, 8, 9, 10, 11, 12, 13, 14, 15, 1, 2, 3, 4, 5] rfl rfl (by decide) (fun _ => rfl) (fun u_3 e_2 => ?_)
  refine v_world (ws' := (gS  a ks ++ gW cI (fun i => a (1 + i)) wd ++ gG cI (fun i => a (31 + i)) (glS wd 0 gl))) rfl ?_
  refine v_aload_n (j := 0) (x := a 0) G dX8_allShine_12 rfl rfl ?_
  refine v_get (q0 := 0) (k := 4) (v := .ref (a 31)) G k_X8 rfl rfl (by decide) q_1 rfl rfl dX8_allShine_13 ?_
  refine v_get (q0 := 11) (k := 3) (v := .ref (a 34)) G k_X0 rfl rfl (by decide) q_4 rfl rfl dX8_allShine_16 ?_
  refine v_aload_n (j := 0) (x := a 0) G dX8_allShine_19 rfl rfl ?_
  refine v_get (q0 := 0) (k := 0) (v := .ref (a 1)) G k_X8 rfl rfl (by decide) q_2 rfl rfl dX8_allShine_20 ?_
  refine v_get (q0 := 1) (k := 2) (v := .int (jI wd.2.2.1)) G k_X7 rfl rfl (by decide) q_6 rfl rfl dX8_allShine_23 ?_
  refine v_ciA (q0 := 14) G rfl (rn_S (As := [.ref (a 34), .int (jI wd.2.2.1)]) (rest := []) G (c_X8_sumOf (n := wd.2.2.1) (y := a 34) (f := (glS wd 0 gl).2.2.2.1) (N := 10) (hn := (by omega))) gX8_allShine_X8_sumOf rfl hdX8_sumOf ⟨rfl, rfl, Nat.le_of_ble_eq_true rfl, Nat.le_of_ble_eq_true rfl⟩ rfl rfl (Nat.le_of_ble_eq_true rfl) ⟨Nat.zero_le _, Nat.zero_le _⟩ dX8_allShine_26) (fun r_4 u_6 e_5 => ?_)
  have e_5 : r_4 = jI (sumN ((glS wd 0 gl).2.2.2.1) wd.2.2.1.toNat) := e_5
  subst e_5
  exact v_iret G () (show jI (sumN ((glS wd 0 gl).2.2.2.1) wd.2.2.1.toNat) = jI (sumN (shF wd 0) wd.2.2.1.toNat) from congrArg jI (sumN_c _ (fun k h0 hk => if_pos (by omega)))) rfl dX8_allShine_29

set_option maxHeartbeats 4000000 in
set_option maxRecDepth 100000 in
theorem c_X8_isDone (t : Int) (hw : Wc x) (ht : 0 ≤ t ∧ t < 8) : Ci l yX8_isDone wsX8_isDone { frames := 4, cells := 0, slots := 0, locals := 92 } D (jT cI cL cB cS) [.ref (a 0), .ref (b 0), .int (jI t)] (gS  a ks ++ gW cI b x ++ gG cI (fun i => a (31 + i)) gl) (S := GT) (fun gl2 => (gS  a ks ++ gW cI b x ++ gG cI (fun i => a (31 + i)) gl2)) (fun r gl2 => r = jI (b2 (cDn x t)) ∧ True) := by
  refine Ci.mk (cc := cX8_isDone) (maxL := 3) (rt := .boolean) (by decide) rfl (Nat.le_of_ble_eq_true rfl) rfl ?_
  intro p_ e_ s_ m_ b_ me_ c_ A_ G hnm
  have hb := hw.task (t := t) (by omega) (by omega)
  have hh := hw.hour
  have k_X8 : ∀ w ∈ u_ws RX8 TX8 12, w ∈ wsX8_isDone := fun _ h => List.mem_cons_of_mem _ (List.mem_append_left _ (List.mem_append_left _ (List.mem_append_right _ h)))
  have q_1 : Cond.fieldLink RX8 29 "SupperLight" "glow" "LSupperLight$Glow;" ∈ wsX8_isDone := List.mem_of_getElem? (i := 1) rfl
  have k_X7 : ∀ w ∈ u_ws RX7 TX7 12, w ∈ wsX8_isDone := fun _ h => List.mem_cons_of_mem _ (List.mem_append_left _ (List.mem_append_right _ h))
  have q_3 : Cond.fieldLink RX8 169 "SupperLight$World" "taskHours" "[I" ∈ wsX8_isDone := List.mem_of_getElem? (i := 2) rfl
  have q_4 : Cond.fieldLink RX8 179 "SupperLight$World" "hour" "I" ∈ wsX8_isDone := List.mem_of_getElem? (i := 3) rfl
  have q_5 : Cond.fieldLink RX8 166 "SupperLight$World" "taskPlaces" "[I" ∈ wsX8_isDone := List.mem_of_getElem? (i := 4) rfl
  have q_6 : Cond.fieldLink RX8 172 "SupperLight$World" "taskNeeds" "[I" ∈ wsX8_isDone := List.mem_of_getElem? (i := 5) rfl
  refine v_aload_n (j := 1) (x := b 0) G dX8_isDone_0 rfl rfl ?_
  refine v_iload_n (j := 2) (x := jI t) G dX8_isDone_1 rfl rfl ?_
  refine v_ciP (w2 := (fun _ => (gS  a ks ++ gW cI b x ++ gG cI (fun i => a (31 + i)) gl))) (wr := (gS  a ks ++ gG cI (fun i => a (31 + i)) gl)) G (rn_V (As := [.int (jI t)]) (rest := []) (q0 := 0) G (c_X7_comes (t := t) (x := x) (b := b) (hw := hw) (ht := (by omega))) gX8_isDone_X7_comes rfl hdX7_comes ⟨rfl, rfl, Nat.le_of_ble_eq_true rfl, Nat.le_of_ble_eq_true rfl⟩ rfl rfl (Nat.le_of_ble_eq_true rfl) ⟨Nat.zero_le _, Nat.zero_le _⟩ rfl rfl dX8_isDone_2) [1, 2, 3, 4, 5, 6, 7, 8, 9, 10] [0, 11, 12, 13, 14, 15] [0, 6, 7, 8, 9, 10, 11, 12, 13, 14, 15, 1, 2, 3, 4, 5] rfl rfl (by decide) (fun _ => rfl) (fun r_1 u_3 e_2 => ?_)
  have e_2 : r_1 = jI (b2 (0 ≤ x.2.2.2.2.2.2.2.2.2.2.1 t - x.1 ∧ x.2.2.2.2.2.2.2.2.2.2.1 t - x.1 ≤ 100)) := e_2
  subst e_2
  refine v_world (ws' := (gS  a ks ++ gW cI b x ++ gG cI (fun i => a (31 + i)) gl)) rfl ?_
  refine v_ifb_ne (P := 0 ≤ x.2.2.2.2.2.2.2.2.2.2.1 t - x.1 ∧ x.2.2.2.2.2.2.2.2.2.2.1 t - x.1 ≤ 100) (tgt := 10) G dX8_isDone_5 (by decide) (fun c_4 => ?_) (fun c_4 => ?_)
  · skip
    refine v_aload_n (j := 0) (x := a 0) G dX8_isDone_10 rfl rfl ?_
    refine v_get (q0 := 0) (k := 4) (v := .ref (a 31)) G k_X8 rfl rfl (by decide) q_1 rfl rfl dX8_isDone_11 ?_
    refine v_aload_n (j := 1) (x := b 0) G dX8_isDone_14 rfl rfl ?_
    refine v_aload_n (j := 1) (x := b 0) G dX8_isDone_15 rfl rfl ?_
    refine v_get (q0 := 1) (k := 10) (v := .ref (b 8)) G k_X7 rfl rfl (by decide) q_3 rfl rfl dX8_isDone_16 ?_
    refine v_iload_n (j := 2) (x := jI t) G dX8_isDone_19 rfl rfl ?_
    refine v_iald (q0 := 9) (t0 := 0) (g := x.2.2.2.2.2.2.2.2.2.2.1) (z := t) G rfl rfl (by omega) dX8_isDone_20 ?_
    refine v_aload_n (j := 1) (x := b 0) G dX8_isDone_21 rfl rfl ?_
    refine v_get (q0 := 1) (k := 0) (v := .int (jI x.1)) G k_X7 rfl rfl (by decide) q_4 rfl rfl dX8_isDone_22 ?_
    refine v_isub (z := (x.2.2.2.2.2.2.2.2.2.2.1 t) - x.1) G dX8_isDone_25 rfl ?_
    refine v_cvP (w2 := (fun _ => (gS  a ks ++ gW cI b x ++ gG cI (fun i => a (31 + i)) (glS x ((x.2.2.2.2.2.2.2.2.2.2.1 t) - x.1) gl)))) (wr := (gS  a ks)) G (rn_V (As := [.ref (b 0), .int (jI ((x.2.2.2.2.2.2.2.2.2.2.1 t) - x.1))]) (rest := []) (q0 := 0) G (c_X0_settleOn (n := (x.2.2.2.2.2.2.2.2.2.2.1 t) - x.1) (g := gl) (x := x) (c := fun i => a (31 + i)) (b := b) (hw := hw) (hn := (by omega))) gX8_isDone_X0_settleOn rfl hdX0_settleOn ⟨rfl, rfl, Nat.le_of_ble_eq_true rfl, Nat.le_of_ble_eq_true rfl⟩ rfl rfl (Nat.le_of_ble_eq_true rfl) ⟨Nat.zero_le _, Nat.zero_le _⟩ rfl rfl dX8_isDone_26) [11, 12, 13, 14, 15, 1, 2, 3, 4, 5, 6, 7, 8, 9, 10] [0] [0, 6, 7, 8, 9, 10, 11, 12, 13, 14, 15, 1, 2, 3, 4, 5] rfl rfl (by decide) (fun _ => rfl) (fun u_7 e_6 => ?_)
    refine v_world (ws' := (gS  a ks ++ gW cI b x ++ gG cI (fun i => a (31 + i)) (glS x ((x.2.2.2.2.2.2.2.2.2.2.1 t) - x.1) gl))) rfl ?_
    refine v_aload_n (j := 0) (x := a 0) G dX8_isDone_29 rfl rfl ?_
    refine v_get (q0 := 0) (k := 4) (v := .ref (a 31)) G k_X8 rfl rfl (by decide) q_1 rfl rfl dX8_isDone_30 ?_
    refine v_aload_n (j := 1) (x := b 0) G dX8_isDone_33 rfl rfl ?_
    refine v_get (q0 := 1) (k := 9) (v := .ref (b 7)) G k_X7 rfl rfl (by decide) q_5 rfl rfl dX8_isDone_34 ?_
    refine v_iload_n (j := 2) (x := jI t) G dX8_isDone_37 rfl rfl ?_
    refine v_iald (q0 := 8) (t0 := 0) (g := x.2.2.2.2.2.2.2.2.2.1) (z := t) G rfl rfl (by omega) dX8_isDone_38 ?_
    refine v_ciP (w2 := (fun _ => (gS  a ks ++ gW cI b x ++ gG cI (fun i => a (31 + i)) (((glS x ((x.2.2.2.2.2.2.2.2.2.2.1 t) - x.1) gl).1), ((glS x ((x.2.2.2.2.2.2.2.2.2.2.1 t) - x.1) gl).2.1), ((glS x ((x.2.2.2.2.2.2.2.2.2.2.1 t) - x.1) gl).2.2.1), ((glS x ((x.2.2.2.2.2.2.2.2.2.2.1 t) - x.1) gl).2.2.2.1), ((glS x ((x.2.2.2.2.2.2.2.2.2.2.1 t) - x.1) gl).2.2.2.2))))) (wr := (gS  a ks ++ gW cI b x)) G (rn_V (As := [.int (jI (x.2.2.2.2.2.2.2.2.2.1 t))]) (rest := []) (q0 := 0) G (c_X0_lightOf (p := x.2.2.2.2.2.2.2.2.2.1 t) (g := (glS x ((x.2.2.2.2.2.2.2.2.2.2.1 t) - x.1) gl)) (c := fun i => a (31 + i)) (hg := (glS_f hw (by omega) gl)) (hp := (by omega))) gX8_isDone_X0_lightOf rfl hdX0_lightOf ⟨rfl, rfl, Nat.le_of_ble_eq_true rfl, Nat.le_of_ble_eq_true rfl⟩ rfl rfl (Nat.le_of_ble_eq_true rfl) ⟨Nat.zero_le _, Nat.zero_le _⟩ rfl rfl dX8_isDone_39) [11, 12, 13, 14, 15] [0, 1, 2, 3, 4, 5, 6, 7, 8, 9, 10] [0, 1, 2, 3, 4, 5, 6, 7, 8, 9, 10, 11, 12, 13, 14, 15] rfl rfl (by decide) (fun _ => rfl) (fun r_8 u_10 e_9 => ?_)
    have e_9 : r_8 = jI (ltT (glS x ((x.2.2.2.2.2.2.2.2.2.2.1 t) - x.1) gl) (x.2.2.2.2.2.2.2.2.2.1 t)) := e_9
    subst e_9
    refine v_world (ws' := (gS  a ks ++ gW cI b x ++ gG cI (fun i => a (31 + i)) (((glS x ((x.2.2.2.2.2.2.2.2.2.2.1 t) - x.1) gl).1), ((glS x ((x.2.2.2.2.2.2.2.2.2.2.1 t) - x.1) gl).2.1), ((glS x ((x.2.2.2.2.2.2.2.2.2.2.1 t) - x.1) gl).2.2.1), ((glS x ((x.2.2.2.2.2.2.2.2.2.2.1 t) - x.1) gl).2.2.2.1), ((glS x ((x.2.2.2.2.2.2.2.2.2.2.1 t) - x.1) gl).2.2.2.2)))) rfl ?_
    have hltr := ltT_r (glS_f hw (n := (x.2.2.2.2.2.2.2.2.2.2.1 t - x.1)) (by omega) gl) (p := x.2.2.2.2.2.2.2.2.2.1 t) (by omega) (by omega)
    refine v_aload_n (j := 1) (x := b 0) G dX8_isDone_42 rfl rfl ?_
    refine v_get (q0 := 1) (k := 11) (v := .ref (b 9)) G k_X7 rfl rfl (by decide) q_6 rfl rfl dX8_isDone_43 ?_
    refine v_iload_n (j := 2) (x := jI t) G dX8_isDone_46 rfl rfl ?_
    refine v_iald (q0 := 10) (t0 := 0) (g := x.2.2.2.2.2.2.2.2.2.2.2) (z := t) G rfl rfl (by omega) dX8_isDone_47 ?_
    refine v_icmp_lt (a := ltT (glS x ((x.2.2.2.2.2.2.2.2.2.2.1 t) - x.1) gl) (x.2.2.2.2.2.2.2.2.2.1 t)) (b := x.2.2.2.2.2.2.2.2.2.2.2 t) (tgt := 55) G dX8_isDone_48 (by decide) (by omega) (fun c_11 => ?_) (fun c_11 => ?_)
    · skip
      refine v_iconst G dX8_isDone_55 ?_
      exact v_zret G (((glS x ((x.2.2.2.2.2.2.2.2.2.2.1 t) - x.1) gl).1), ((glS x ((x.2.2.2.2.2.2.2.2.2.2.1 t) - x.1) gl).2.1), ((glS x ((x.2.2.2.2.2.2.2.2.2.2.1 t) - x.1) gl).2.2.1), ((glS x ((x.2.2.2.2.2.2.2.2.2.2.1 t) - x.1) gl).2.2.2.1), ((glS x ((x.2.2.2.2.2.2.2.2.2.2.1 t) - x.1) gl).2.2.2.2)) nb_0 ⟨congrArg jI (b2_f (P := cDn x t) (by first | (unfold cDn; rw [← ltT_S x (x.2.2.2.2.2.2.2.2.2.2.1 t - x.1) gl]; omega) | (unfold cDn; omega))).symm, trivial⟩ rfl dX8_isDone_56
    · skip
      refine v_iconst G dX8_isDone_51 ?_
      refine v_goto (tgt := 56) G dX8_isDone_52 (by decide) ?_
      exact v_zret G (((glS x ((x.2.2.2.2.2.2.2.2.2.2.1 t) - x.1) gl).1), ((glS x ((x.2.2.2.2.2.2.2.2.2.2.1 t) - x.1) gl).2.1), ((glS x ((x.2.2.2.2.2.2.2.2.2.2.1 t) - x.1) gl).2.2.1), ((glS x ((x.2.2.2.2.2.2.2.2.2.2.1 t) - x.1) gl).2.2.2.1), ((glS x ((x.2.2.2.2.2.2.2.2.2.2.1 t) - x.1) gl).2.2.2.2)) nb_1 ⟨congrArg jI (b2_t (P := cDn x t) (by unfold cDn; rw [← ltT_S x (x.2.2.2.2.2.2.2.2.2.2.1 t - x.1) gl]; omega)).symm, trivial⟩ rfl dX8_isDone_56
  · skip
    refine v_iconst G dX8_isDone_8 ?_
    exact v_zret G gl nb_0 ⟨congrArg jI (b2_f (P := cDn x t) (by first | (unfold cDn; rw [← ltT_S x (x.2.2.2.2.2.2.2.2.2.2.1 t - x.1) gl]; omega) | (unfold cDn; omega))).symm, trivial⟩ rfl dX8_isDone_9

set_option maxHeartbeats 4000000 in
set_option maxRecDepth 100000 in
theorem c_X8_doneSet  (hw : Wc x) : Ci l yX8_doneSet wsX8_doneSet { frames := 5, cells := 0, slots := 0, locals := 114 } D (jT cI cL cB cS) [.ref (a 0), .ref (b 0)] (gS  a ks ++ gW cI b x ++ gG cI (fun i => a (31 + i)) gl) (S := GT) (fun gl2 => (gS  a ks ++ gW cI b x ++ gG cI (fun i => a (31 + i)) gl2)) (fun r gl2 => r = stN (cDn x) x.2.2.2.2.2.2.2.2.1.toNat ∧ True) := by
  refine Ci.mk (cc := cX8_doneSet) (maxL := 4) (rt := .int) (by decide) rfl (Nat.le_of_ble_eq_true rfl) rfl ?_
  intro p_ e_ s_ m_ b_ me_ c_ A_ G hnm
  have hm := hw.tasks
  have k_X7 : ∀ w ∈ u_ws RX7 TX7 12, w ∈ wsX8_doneSet := fun _ h => List.mem_cons_of_mem _ (List.mem_append_left _ (List.mem_append_left _ (List.mem_append_right _ h)))
  have q_1 : Cond.fieldLink RX8 156 "SupperLight$World" "tasks" "I" ∈ wsX8_doneSet := List.mem_of_getElem? (i := 1) rfl
  refine v_iconst G dX8_doneSet_0 ?_
  refine v_top (x := jI 0) (y := stN (cDn x) 0) rfl ?_
  refine v_istore_n (lv' := [(2, .int (stN (cDn x) 0)), (0, .ref (a 0)), (1, .ref (b 0))]) G dX8_doneSet_1 rfl (by decide) rfl ?_
  refine v_iconst G dX8_doneSet_2 ?_
  refine v_istore_n (lv' := [(3, .int (jI 0)), (2, .int (stN (cDn x) 0)), (0, .ref (a 0)), (1, .ref (b 0))]) G dX8_doneSet_3 rfl (by decide) rfl ?_
  refine v_locs (lv' := [(3, .int (jI 0)), (2, .int (stN (cDn x) 0)), (0, .ref (a 0)), (1, .ref (b 0))]) [0, 1, 2, 3] rfl ?_
  refine v_loop2 (fun (k : Nat) (gq : GT) => [(3, .int (jI (k : Int))), (2, .int (stN (cDn x) k)), (0, .ref (a 0)), (1, .ref (b 0))]) (fun (k : Nat) (gq : GT) => (gS  a ks ++ gW cI b x ++ gG cI (fun i => a (31 + i)) gq)) (fun (k : Nat) (gq : GT) => (k : Int) ≤ x.2.2.2.2.2.2.2.2.1) (fun (k : Nat) (gq : GT) => x.2.2.2.2.2.2.2.2.1.toNat - k) 0 gl (by omega) rfl rfl ?_
  intro k gq I_1 ih_2
  refine v_iload_n (j := 0) (x := jI (k : Int)) G dX8_doneSet_4 rfl rfl ?_
  refine v_aload_n (j := 3) (x := b 0) G dX8_doneSet_5 rfl rfl ?_
  refine v_get (q0 := 1) (k := 8) (v := .int (jI x.2.2.2.2.2.2.2.2.1)) G k_X7 rfl rfl (by decide) q_1 rfl rfl dX8_doneSet_6 ?_
  refine v_icmp_ge (a := (k : Int)) (b := x.2.2.2.2.2.2.2.2.1) (tgt := 33) G dX8_doneSet_9 (by decide) (by omega) (fun c_3 => ?_) (fun c_3 => ?_)
  · skip
    obtain rfl : k = x.2.2.2.2.2.2.2.2.1.toNat := by omega
    refine v_iload_n (j := 1) (x := stN (cDn x) x.2.2.2.2.2.2.2.2.1.toNat) G dX8_doneSet_33 rfl rfl ?_
    exact v_iret G gq ⟨rfl, trivial⟩ rfl dX8_doneSet_34
  · skip
    refine v_aload_n (j := 2) (x := a 0) G dX8_doneSet_12 rfl rfl ?_
    refine v_aload_n (j := 3) (x := b 0) G dX8_doneSet_13 rfl rfl ?_
    refine v_iload_n (j := 0) (x := jI (k : Int)) G dX8_doneSet_14 rfl rfl ?_
    refine v_ciF G (rn_V (As := [.ref (b 0), .int (jI (k : Int))]) (rest := []) (q0 := 0) G (c_X8_isDone (t := (k : Int)) (ks := ks) (x := x) (gl := gq) (a := a) (b := b) (hw := hw) (ht := (by omega))) gX8_doneSet_X8_isDone rfl hdX8_isDone ⟨rfl, rfl, Nat.le_of_ble_eq_true rfl, Nat.le_of_ble_eq_true rfl⟩ rfl rfl (Nat.le_of_ble_eq_true rfl) ⟨Nat.zero_le _, Nat.zero_le _⟩ rfl rfl dX8_doneSet_15) (fun r_5 u_7 e_6 => ?_)
    obtain ⟨gl2_4, rfl⟩ : ∃ z, z = u_7 := ⟨_, rfl⟩
    have e_6 : r_5 = jI (b2 (cDn x (k : Int))) ∧ True := e_6
    obtain ⟨e_60, e_6⟩ := e_6
    subst e_60
    refine v_world (ws' := (gS  a ks ++ gW cI b x ++ gG cI (fun i => a (31 + i)) gl2_4)) rfl ?_
    refine v_cut (pc' := 27) (lv' := [(3, .int (jI (k : Int))), (2, .int (stN (cDn x) (k + 1))), (0, .ref (a 0)), (1, .ref (b 0))]) (st' := []) (ws' := (gS  a ks ++ gW cI b x ++ gG cI (fun i => a (31 + i)) gl2_4)) ?_ (fun J_8 => ?_)
    · skip
      refine v_iinc (k := 0) (z := (k : Int)) (z' := ((k + 1 : Nat) : Int)) (lv' := [(3, .int (jI ((k + 1 : Nat) : Int))), (2, .int (stN (cDn x) (k + 1))), (0, .ref (a 0)), (1, .ref (b 0))]) G dX8_doneSet_27 rfl (by omega) (by decide) rfl ?_
      refine v_goto (tgt := 4) G dX8_doneSet_30 (by decide) ?_
      exact ih_2 (k + 1) gl2_4 (by omega) (by omega)
    · skip
      refine v_ifb_eq (P := cDn x (k : Int)) (tgt := 27) G dX8_doneSet_18 (by decide) (fun c_9 => ?_) (fun c_9 => ?_)
      · skip
        refine v_eqs (lv' := [(3, .int (jI (k : Int))), (2, .int (stN (cDn x) (k + 1))), (0, .ref (a 0)), (1, .ref (b 0))]) (by rw [show stN (cDn x) (k + 1) = stN (cDn x) k from ((congrArg (fun z => _ ||| z) (btI_f (by first | omega | assumption))).trans (or_z _))]) rfl rfl ?_
        exact J_8
      · skip
        refine v_iload_n (j := 1) (x := stN (cDn x) k) G dX8_doneSet_21 rfl rfl ?_
        refine v_iconst G dX8_doneSet_22 ?_
        refine v_iload_n (j := 0) (x := jI (k : Int)) G dX8_doneSet_23 rfl rfl ?_
        refine v_ishl (v := (jI 1) <<< ((jI (k : Int)) &&& 31)) G dX8_doneSet_24 rfl ?_
        refine v_ior (v := (stN (cDn x) k) ||| ((jI 1) <<< ((jI (k : Int)) &&& 31))) G dX8_doneSet_25 rfl ?_
        refine v_istore_n (lv' := [(2, .int ((stN (cDn x) k) ||| ((jI 1) <<< ((jI (k : Int)) &&& 31)))), (3, .int (jI (k : Int))), (0, .ref (a 0)), (1, .ref (b 0))]) G dX8_doneSet_26 rfl (by decide) rfl ?_
        refine v_locs (lv' := [(3, .int (jI (k : Int))), (2, .int ((stN (cDn x) k) ||| ((jI 1) <<< ((jI (k : Int)) &&& 31)))), (0, .ref (a 0)), (1, .ref (b 0))]) [1, 0, 2, 3] rfl ?_
        refine v_eqs (lv' := [(3, .int (jI (k : Int))), (2, .int (stN (cDn x) (k + 1))), (0, .ref (a 0)), (1, .ref (b 0))]) (by rw [show stN (cDn x) (k + 1) = (stN (cDn x) k) ||| ((jI 1) <<< ((jI (k : Int)) &&& 31)) from (congrArg (fun z => _ ||| z) (btI_t (by first | omega | assumption)))]) rfl rfl ?_
        exact J_8

set_option maxHeartbeats 4000000 in
set_option maxRecDepth 100000 in
theorem c_X8_tryWithout (z : Int) (hz : 0 ≤ z ∧ z < 10) : Cv l yX8_tryWithout wsX8_tryWithout { frames := 2, cells := 0, slots := 0, locals := 61 } D (jT cI cL cB cS) [.ref (a 0), .int (jI z)] (gS  a ks ++ gW cI (fun i => a (1 + i)) wd ++ gW cI (fun i => a (21 + i)) tw) (S := Unit) (fun _ => (gS  a ks ++ gW cI (fun i => a (1 + i)) wd ++ gW cI (fun i => a (21 + i)) (woW z wd))) (fun _ => True) := by
  refine Cv.mk (cc := cX8_tryWithout) (maxL := 2) (by decide) rfl (Nat.le_of_ble_eq_true rfl) rfl ?_
  intro p_ e_ s_ m_ b_ me_ c_ A_ G hnm
  have k_X8 : ∀ w ∈ u_ws RX8 TX8 12, w ∈ wsX8_tryWithout := fun _ h => List.mem_cons_of_mem _ (List.mem_append_left _ (List.mem_append_right _ h))
  have q_1 : Cond.fieldLink RX8 19 "SupperLight" "trial" "LSupperLight$World;" ∈ wsX8_tryWithout := List.mem_of_getElem? (i := 1) rfl
  have q_2 : Cond.fieldLink RX8 10 "SupperLight" "world" "LSupperLight$World;" ∈ wsX8_tryWithout := List.mem_of_getElem? (i := 2) rfl
  have k_X7 : ∀ w ∈ u_ws RX7 TX7 12, w ∈ wsX8_tryWithout := fun _ h => List.mem_cons_of_mem _ (List.mem_append_right _ h)
  have q_4 : Cond.fieldLink RX8 112 "SupperLight$World" "kinds" "[I" ∈ wsX8_tryWithout := List.mem_of_getElem? (i := 3) rfl
  refine v_aload_n (j := 0) (x := a 0) G dX8_tryWithout_0 rfl rfl ?_
  refine v_get (q0 := 0) (k := 2) (v := .ref (a 21)) G k_X8 rfl rfl (by decide) q_1 rfl rfl dX8_tryWithout_1 ?_
  refine v_aload_n (j := 0) (x := a 0) G dX8_tryWithout_4 rfl rfl ?_
  refine v_get (q0 := 0) (k := 0) (v := .ref (a 1)) G k_X8 rfl rfl (by decide) q_2 rfl rfl dX8_tryWithout_5 ?_
  refine v_cvP (w2 := (fun _ => (gS  a ks ++ gW cI (fun i => a (1 + i)) wd ++ gW cI (fun i => a (21 + i)) wd))) (wr := (gS  a ks)) G (rn_V (As := [.ref (a 1)]) (rest := []) (q0 := 0) G (c_X7_becomeAs (x := tw) (o := wd) (b := fun i => a (21 + i)) (c := fun i => a (1 + i)) ) gX8_tryWithout_X7_becomeAs rfl hdX7_becomeAs ⟨rfl, rfl, Nat.le_of_ble_eq_true rfl, Nat.le_of_ble_eq_true rfl⟩ rfl rfl (Nat.le_of_ble_eq_true rfl) ⟨Nat.zero_le _, Nat.zero_le _⟩ rfl rfl dX8_tryWithout_8) [11, 12, 13, 14, 15, 16, 17, 18, 19, 20, 1, 2, 3, 4, 5, 6, 7, 8, 9, 10] [0] [0, 11, 12, 13, 14, 15, 16, 17, 18, 19, 20, 1, 2, 3, 4, 5, 6, 7, 8, 9, 10] rfl rfl (by decide) (fun _ => rfl) (fun u_3 e_2 => ?_)
  refine v_world (ws' := (gS  a ks ++ gW cI (fun i => a (1 + i)) wd ++ gW cI (fun i => a (21 + i)) wd)) rfl ?_
  refine v_aload_n (j := 0) (x := a 0) G dX8_tryWithout_11 rfl rfl ?_
  refine v_get (q0 := 0) (k := 2) (v := .ref (a 21)) G k_X8 rfl rfl (by decide) q_1 rfl rfl dX8_tryWithout_12 ?_
  refine v_get (q0 := 11) (k := 3) (v := .ref (a 23)) G k_X7 rfl rfl (by decide) q_4 rfl rfl dX8_tryWithout_15 ?_
  refine v_iload_n (j := 1) (x := jI z) G dX8_tryWithout_18 rfl rfl ?_
  refine v_iconst G dX8_tryWithout_19 ?_
  refine v_iast (q0 := 13) (t0 := 0) (g := wd.2.2.2.1) (z := z) (x := (-1)) (ws' := (gS  a ks ++ gW cI (fun i => a (1 + i)) wd ++ gW cI (fun i => a (21 + i)) (wd.1, wd.2.1, wd.2.2.1, uI wd.2.2.2.1 z (-1), wd.2.2.2.2.1, wd.2.2.2.2.2.1, wd.2.2.2.2.2.2.1, wd.2.2.2.2.2.2.2.1, wd.2.2.2.2.2.2.2.2.1, wd.2.2.2.2.2.2.2.2.2.1, wd.2.2.2.2.2.2.2.2.2.2.1, wd.2.2.2.2.2.2.2.2.2.2.2))) G rfl rfl (by omega) rfl dX8_tryWithout_20 ?_
  refine v_world (ws' := (gS  a ks ++ gW cI (fun i => a (1 + i)) wd ++ gW cI (fun i => a (21 + i)) (woW z wd))) rfl ?_
  exact v_vret G () trivial rfl dX8_tryWithout_21

set_option maxHeartbeats 4000000 in
set_option maxRecDepth 100000 in
theorem c_X8_tryChoice (y s z : Int) (hw : Wc wd) (hy : (0 ≤ y ∧ y ≤ 2) ∧ (y = 0 → (0 ≤ z ∧ z < 16) ∧ 1 ≤ s ∧ s ≤ 99) ∧ (y ≠ 0 → 0 ≤ s ∧ s < 10)) : Cv l yX8_tryChoice wsX8_tryChoice { frames := 2, cells := 0, slots := 0, locals := 61 } D (jT cI cL cB cS) [.ref (a 0), .int (jI y), .int (jI s), .int (jI z)] (gS  a ks ++ gW cI (fun i => a (1 + i)) wd ++ gW cI (fun i => a (21 + i)) tw) (S := Unit) (fun _ => (gS  a ks ++ gW cI (fun i => a (1 + i)) wd ++ gW cI (fun i => a (21 + i)) (chW y s z wd))) (fun _ => True) := by
  refine Cv.mk (cc := cX8_tryChoice) (maxL := 4) (by decide) rfl (Nat.le_of_ble_eq_true rfl) rfl ?_
  intro p_ e_ s_ m_ b_ me_ c_ A_ G hnm
  have k_X8 : ∀ w ∈ u_ws RX8 TX8 12, w ∈ wsX8_tryChoice := fun _ h => List.mem_cons_of_mem _ (List.mem_append_left _ (List.mem_append_right _ h))
  have q_1 : Cond.fieldLink RX8 19 "SupperLight" "trial" "LSupperLight$World;" ∈ wsX8_tryChoice := List.mem_of_getElem? (i := 1) rfl
  have q_2 : Cond.fieldLink RX8 10 "SupperLight" "world" "LSupperLight$World;" ∈ wsX8_tryChoice := List.mem_of_getElem? (i := 2) rfl
  have k_X7 : ∀ w ∈ u_ws RX7 TX7 12, w ∈ wsX8_tryChoice := fun _ h => List.mem_cons_of_mem _ (List.mem_append_right _ h)
  have q_4 : Cond.fieldLink RX8 88 "SupperLight$World" "bowls" "[I" ∈ wsX8_tryChoice := List.mem_of_getElem? (i := 3) rfl
  have q_5 : Cond.methodLink RX8 312 Lib.Math.min.name ∈ wsX8_tryChoice := List.mem_of_getElem? (i := 4) rfl
  have q_6 : Cond.static Lib.Math.min.name ∈ wsX8_tryChoice := List.mem_of_getElem? (i := 5) rfl
  have q_7 : Cond.initialized "java/lang/Math" ∈ wsX8_tryChoice := List.mem_of_getElem? (i := 6) rfl
  have q_8 : Cond.code Lib.Math.min.name Lib.Math.min.code 2 (some .int) ∈ wsX8_tryChoice := List.mem_of_getElem? (i := 7) rfl
  have q_9 : Cond.fieldLink RX8 118 "SupperLight$World" "goals" "[I" ∈ wsX8_tryChoice := List.mem_of_getElem? (i := 8) rfl
  have q_10 : Cond.fieldLink RX8 112 "SupperLight$World" "kinds" "[I" ∈ wsX8_tryChoice := List.mem_of_getElem? (i := 9) rfl
  refine v_aload_n (j := 0) (x := a 0) G dX8_tryChoice_0 rfl rfl ?_
  refine v_get (q0 := 0) (k := 2) (v := .ref (a 21)) G k_X8 rfl rfl (by decide) q_1 rfl rfl dX8_tryChoice_1 ?_
  refine v_aload_n (j := 0) (x := a 0) G dX8_tryChoice_4 rfl rfl ?_
  refine v_get (q0 := 0) (k := 0) (v := .ref (a 1)) G k_X8 rfl rfl (by decide) q_2 rfl rfl dX8_tryChoice_5 ?_
  refine v_cvP (w2 := (fun _ => (gS  a ks ++ gW cI (fun i => a (1 + i)) wd ++ gW cI (fun i => a (21 + i)) wd))) (wr := (gS  a ks)) G (rn_V (As := [.ref (a 1)]) (rest := []) (q0 := 0) G (c_X7_becomeAs (x := tw) (o := wd) (b := fun i => a (21 + i)) (c := fun i => a (1 + i)) ) gX8_tryChoice_X7_becomeAs rfl hdX7_becomeAs ⟨rfl, rfl, Nat.le_of_ble_eq_true rfl, Nat.le_of_ble_eq_true rfl⟩ rfl rfl (Nat.le_of_ble_eq_true rfl) ⟨Nat.zero_le _, Nat.zero_le _⟩ rfl rfl dX8_tryChoice_8) [11, 12, 13, 14, 15, 16, 17, 18, 19, 20, 1, 2, 3, 4, 5, 6, 7, 8, 9, 10] [0] [0, 11, 12, 13, 14, 15, 16, 17, 18, 19, 20, 1, 2, 3, 4, 5, 6, 7, 8, 9, 10] rfl rfl (by decide) (fun _ => rfl) (fun u_3 e_2 => ?_)
  refine v_world (ws' := (gS  a ks ++ gW cI (fun i => a (1 + i)) wd ++ gW cI (fun i => a (21 + i)) wd)) rfl ?_
  refine v_iload_n (j := 1) (x := jI y) G dX8_tryChoice_11 rfl rfl ?_
  rcases (show y = 0 ∨ y = 1 ∨ (y ≠ 0 ∧ y ≠ 1) by omega) with c_4 | c_4 | c_4
  · skip
    refine v_lookIn (z := y) (v := 0) (off := 28) (tgt := 40) G c_4 (by decide) (by decide) (by decide) (by decide) dX8_tryChoice_12 ?_
    have hbo := hw.bowl (p := z) (by omega) (by omega)
    refine v_aload_n (j := 0) (x := a 0) G dX8_tryChoice_40 rfl rfl ?_
    refine v_get (q0 := 0) (k := 2) (v := .ref (a 21)) G k_X8 rfl rfl (by decide) q_1 rfl rfl dX8_tryChoice_41 ?_
    refine v_get (q0 := 11) (k := 1) (v := .ref (a 22)) G k_X7 rfl rfl (by decide) q_4 rfl rfl dX8_tryChoice_44 ?_
    refine v_iload_n (j := 3) (x := jI z) G dX8_tryChoice_47 rfl rfl ?_
    refine v_bipush G dX8_tryChoice_48 (by decide) ?_
    refine v_aload_n (j := 0) (x := a 0) G dX8_tryChoice_50 rfl rfl ?_
    refine v_get (q0 := 0) (k := 2) (v := .ref (a 21)) G k_X8 rfl rfl (by decide) q_1 rfl rfl dX8_tryChoice_51 ?_
    refine v_get (q0 := 11) (k := 1) (v := .ref (a 22)) G k_X7 rfl rfl (by decide) q_4 rfl rfl dX8_tryChoice_54 ?_
    refine v_iload_n (j := 3) (x := jI z) G dX8_tryChoice_57 rfl rfl ?_
    refine v_iald (q0 := 12) (t0 := 0) (g := wd.2.1) (z := z) G rfl rfl (by omega) dX8_tryChoice_58 ?_
    refine v_iload_n (j := 2) (x := jI s) G dX8_tryChoice_59 rfl rfl ?_
    refine v_iadd (z := (wd.2.1 z) + s) G dX8_tryChoice_60 rfl ?_
    refine v_mmin (z := jmin 99 ((wd.2.1 z) + s)) G q_5 q_6 q_7 q_8 ⟨Nat.le_of_ble_eq_true rfl, Nat.le_of_ble_eq_true rfl, Nat.zero_le _, Nat.zero_le _⟩ (by omega) (jmin_z 99 ((wd.2.1 z) + s)) dX8_tryChoice_61 ?_
    refine v_iast (q0 := 12) (t0 := 0) (g := wd.2.1) (z := z) (x := jmin 99 ((wd.2.1 z) + s)) (ws' := (gS  a ks ++ gW cI (fun i => a (1 + i)) wd ++ gW cI (fun i => a (21 + i)) (wd.1, uI wd.2.1 z (jmin 99 ((wd.2.1 z) + s)), wd.2.2.1, wd.2.2.2.1, wd.2.2.2.2.1, wd.2.2.2.2.2.1, wd.2.2.2.2.2.2.1, wd.2.2.2.2.2.2.2.1, wd.2.2.2.2.2.2.2.2.1, wd.2.2.2.2.2.2.2.2.2.1, wd.2.2.2.2.2.2.2.2.2.2.1, wd.2.2.2.2.2.2.2.2.2.2.2))) G rfl rfl (by omega) rfl dX8_tryChoice_64 ?_
    refine v_goto (tgt := 91) G dX8_tryChoice_65 (by decide) ?_
    refine v_world (ws' := (gS  a ks ++ gW cI (fun i => a (1 + i)) wd ++ gW cI (fun i => a (21 + i)) (chW y s z wd))) (by rw [show chW y s z wd = (wd.1, uI wd.2.1 z (jmin 99 ((wd.2.1 z) + s)), wd.2.2.1, wd.2.2.2.1, wd.2.2.2.2.1, wd.2.2.2.2.2.1, wd.2.2.2.2.2.2.1, wd.2.2.2.2.2.2.2.1, wd.2.2.2.2.2.2.2.2.1, wd.2.2.2.2.2.2.2.2.2.1, wd.2.2.2.2.2.2.2.2.2.2.1, wd.2.2.2.2.2.2.2.2.2.2.2) by unfold chW; first | rw [if_pos (by omega)] | rw [if_neg (by omega), if_pos (by omega)] | rw [if_neg (by omega), if_neg (by omega)]]) ?_
    exact v_vret G () trivial rfl dX8_tryChoice_91
  · skip
    refine v_lookIn (z := y) (v := 1) (off := 56) (tgt := 68) G c_4 (by decide) (by decide) (by decide) (by decide) dX8_tryChoice_12 ?_
    refine v_aload_n (j := 0) (x := a 0) G dX8_tryChoice_68 rfl rfl ?_
    refine v_get (q0 := 0) (k := 2) (v := .ref (a 21)) G k_X8 rfl rfl (by decide) q_1 rfl rfl dX8_tryChoice_69 ?_
    refine v_get (q0 := 11) (k := 5) (v := .ref (a 25)) G k_X7 rfl rfl (by decide) q_9 rfl rfl dX8_tryChoice_72 ?_
    refine v_iload_n (j := 2) (x := jI s) G dX8_tryChoice_75 rfl rfl ?_
    refine v_iload_n (j := 3) (x := jI z) G dX8_tryChoice_76 rfl rfl ?_
    refine v_iast (q0 := 15) (t0 := 0) (g := wd.2.2.2.2.2.1) (z := s) (x := z) (ws' := (gS  a ks ++ gW cI (fun i => a (1 + i)) wd ++ gW cI (fun i => a (21 + i)) (wd.1, wd.2.1, wd.2.2.1, wd.2.2.2.1, wd.2.2.2.2.1, uI wd.2.2.2.2.2.1 s z, wd.2.2.2.2.2.2.1, wd.2.2.2.2.2.2.2.1, wd.2.2.2.2.2.2.2.2.1, wd.2.2.2.2.2.2.2.2.2.1, wd.2.2.2.2.2.2.2.2.2.2.1, wd.2.2.2.2.2.2.2.2.2.2.2))) G rfl rfl (by omega) rfl dX8_tryChoice_77 ?_
    refine v_goto (tgt := 91) G dX8_tryChoice_78 (by decide) ?_
    refine v_world (ws' := (gS  a ks ++ gW cI (fun i => a (1 + i)) wd ++ gW cI (fun i => a (21 + i)) (chW y s z wd))) (by rw [show chW y s z wd = (wd.1, wd.2.1, wd.2.2.1, wd.2.2.2.1, wd.2.2.2.2.1, uI wd.2.2.2.2.2.1 s z, wd.2.2.2.2.2.2.1, wd.2.2.2.2.2.2.2.1, wd.2.2.2.2.2.2.2.2.1, wd.2.2.2.2.2.2.2.2.2.1, wd.2.2.2.2.2.2.2.2.2.2.1, wd.2.2.2.2.2.2.2.2.2.2.2) by unfold chW; first | rw [if_pos (by omega)] | rw [if_neg (by omega), if_pos (by omega)] | rw [if_neg (by omega), if_neg (by omega)]]) ?_
    exact v_vret G () trivial rfl dX8_tryChoice_91
  · skip
    refine v_lookOut (z := y) (tgt := 81) G (by decide) (by simp only [List.mem_cons, List.not_mem_nil, or_false, forall_eq_or_imp, forall_eq]; omega) (by omega) (by decide) dX8_tryChoice_12 ?_
    refine v_aload_n (j := 0) (x := a 0) G dX8_tryChoice_81 rfl rfl ?_
    refine v_get (q0 := 0) (k := 2) (v := .ref (a 21)) G k_X8 rfl rfl (by decide) q_1 rfl rfl dX8_tryChoice_82 ?_
    refine v_get (q0 := 11) (k := 3) (v := .ref (a 23)) G k_X7 rfl rfl (by decide) q_10 rfl rfl dX8_tryChoice_85 ?_
    refine v_iload_n (j := 2) (x := jI s) G dX8_tryChoice_88 rfl rfl ?_
    refine v_iload_n (j := 3) (x := jI z) G dX8_tryChoice_89 rfl rfl ?_
    refine v_iast (q0 := 13) (t0 := 0) (g := wd.2.2.2.1) (z := s) (x := z) (ws' := (gS  a ks ++ gW cI (fun i => a (1 + i)) wd ++ gW cI (fun i => a (21 + i)) (wd.1, wd.2.1, wd.2.2.1, uI wd.2.2.2.1 s z, wd.2.2.2.2.1, wd.2.2.2.2.2.1, wd.2.2.2.2.2.2.1, wd.2.2.2.2.2.2.2.1, wd.2.2.2.2.2.2.2.2.1, wd.2.2.2.2.2.2.2.2.2.1, wd.2.2.2.2.2.2.2.2.2.2.1, wd.2.2.2.2.2.2.2.2.2.2.2))) G rfl rfl (by omega) rfl dX8_tryChoice_90 ?_
    refine v_world (ws' := (gS  a ks ++ gW cI (fun i => a (1 + i)) wd ++ gW cI (fun i => a (21 + i)) (chW y s z wd))) (by rw [show chW y s z wd = (wd.1, wd.2.1, wd.2.2.1, uI wd.2.2.2.1 s z, wd.2.2.2.2.1, wd.2.2.2.2.2.1, wd.2.2.2.2.2.2.1, wd.2.2.2.2.2.2.2.1, wd.2.2.2.2.2.2.2.2.1, wd.2.2.2.2.2.2.2.2.2.1, wd.2.2.2.2.2.2.2.2.2.2.1, wd.2.2.2.2.2.2.2.2.2.2.2) by unfold chW; first | rw [if_pos (by omega)] | rw [if_neg (by omega), if_pos (by omega)] | rw [if_neg (by omega), if_neg (by omega)]]) ?_
    exact v_vret G () trivial rfl dX8_tryChoice_91

set_option maxHeartbeats 4000000 in
set_option maxRecDepth 100000 in
theorem c_X8_bestChoice (y s n : Int) (hw : Wc wd) (hy : ((0 ≤ y ∧ y ≤ 2) ∧ 0 ≤ n ∧ n ≤ 16) ∧ (y = 0 → 1 ≤ s ∧ s ≤ 99) ∧ (y ≠ 0 → 0 ≤ s ∧ s < 10)) (hws : ∀ z : Int, 0 ≤ z → z < n → Wc (chW y s z wd)) : Ci l yX8_bestChoice wsX8_bestChoice { frames := 6, cells := 0, slots := 0, locals := 137 } D (jT cI cL cB cS) [.ref (a 0), .int (jI y), .int (jI s), .int (jI n)] (gS  a ks ++ gW cI (fun i => a (1 + i)) wd ++ gW cI (fun i => a (21 + i)) tw ++ gG cI (fun i => a (31 + i)) gl) (S := WT × GT) (fun u => (gS  a ks ++ gW cI (fun i => a (1 + i)) wd ++ gW cI (fun i => a (21 + i)) u.1 ++ gG cI (fun i => a (31 + i)) u.2)) (fun r u => r = jI (bsN (fun z_ => ctN (cDn (chW y s z_ wd)) (wd.2.2.2.2.2.2.2.2.1).toNat) n.toNat) ∧ True) := by
  refine Ci.mk (cc := cX8_bestChoice) (maxL := 8) (rt := .int) (by decide) rfl (Nat.le_of_ble_eq_true rfl) rfl ?_
  intro p_ e_ s_ m_ b_ me_ c_ A_ G hnm
  have hm := hw.tasks
  have k_X8 : ∀ w ∈ u_ws RX8 TX8 12, w ∈ wsX8_bestChoice := fun _ h => List.mem_cons_of_mem _ (List.mem_append_left _ (List.mem_append_left _ (List.mem_append_right _ h)))
  have q_1 : Cond.fieldLink RX8 19 "SupperLight" "trial" "LSupperLight$World;" ∈ wsX8_bestChoice := List.mem_of_getElem? (i := 1) rfl
  refine v_iconst G dX8_bestChoice_0 ?_
  refine v_istore (lv' := [(4, .int (jI 0)), (0, .ref (a 0)), (1, .int (jI y)), (2, .int (jI s)), (3, .int (jI n))]) G dX8_bestChoice_1 (by decide) rfl ?_
  refine v_iconst G dX8_bestChoice_3 ?_
  refine v_istore (lv' := [(5, .int (jI (-1))), (4, .int (jI 0)), (0, .ref (a 0)), (1, .int (jI y)), (2, .int (jI s)), (3, .int (jI n))]) G dX8_bestChoice_4 (by decide) rfl ?_
  refine v_iconst G dX8_bestChoice_6 ?_
  refine v_istore (lv' := [(6, .int (jI 0)), (5, .int (jI (-1))), (4, .int (jI 0)), (0, .ref (a 0)), (1, .int (jI y)), (2, .int (jI s)), (3, .int (jI n))]) G dX8_bestChoice_7 (by decide) rfl ?_
  refine v_locs (lv' := [(6, .int (jI 0)), (5, .int (jI (-1))), (4, .int (jI 0)), (0, .ref (a 0)), (1, .int (jI y)), (2, .int (jI s)), (3, .int (jI n))]) [0, 1, 2, 3, 4, 5, 6] rfl ?_
  refine v_loop3 (fun (k : Nat) (tq : WT) (gq : GT) => [(6, .int (jI (k : Int))), (5, .int (jI (msN (fun z_ => ctN (cDn (chW y s z_ wd)) (wd.2.2.2.2.2.2.2.2.1).toNat) k))), (4, .int (jI (bsN (fun z_ => ctN (cDn (chW y s z_ wd)) (wd.2.2.2.2.2.2.2.2.1).toNat) k))), (0, .ref (a 0)), (1, .int (jI y)), (2, .int (jI s)), (3, .int (jI n))]) (fun (k : Nat) (tq : WT) (gq : GT) => (gS  a ks ++ gW cI (fun i => a (1 + i)) wd ++ gW cI (fun i => a (21 + i)) tq ++ gG cI (fun i => a (31 + i)) gq)) (fun (k : Nat) (tq : WT) (gq : GT) => (k : Int) ≤ n) (fun (k : Nat) (tq : WT) (gq : GT) => n.toNat - k) 0 tw gl (by omega) rfl rfl ?_
  intro k tq gq I_1 ih_2
  refine v_iload (j := 0) (x := jI (k : Int)) G dX8_bestChoice_9 rfl ?_
  refine v_iload_n (j := 6) (x := jI n) G dX8_bestChoice_11 rfl rfl ?_
  refine v_icmp_ge (a := (k : Int)) (b := n) (tgt := 57) G dX8_bestChoice_12 (by decide) (by omega) (fun c_3 => ?_) (fun c_3 => ?_)
  · skip
    obtain rfl : k = n.toNat := by omega
    refine v_iload (j := 2) (x := jI (bsN (fun z_ => ctN (cDn (chW y s z_ wd)) (wd.2.2.2.2.2.2.2.2.1).toNat) n.toNat)) G dX8_bestChoice_57 rfl ?_
    exact v_iret G (tq, gq) ⟨rfl, trivial⟩ rfl dX8_bestChoice_59
  · skip
    have hwz := hws (k : Int) (by omega) (by omega)
    have hms := msN_r (f := (fun z_ => ctN (cDn (chW y s z_ wd)) (wd.2.2.2.2.2.2.2.2.1).toNat)) (c := 8) (by omega) (fun z => ctN_r8 _ (by omega)) k
    have hof : 0 ≤ (fun z_ => ctN (cDn (chW y s z_ wd)) (wd.2.2.2.2.2.2.2.2.1).toNat) (k : Int) ∧ (fun z_ => ctN (cDn (chW y s z_ wd)) (wd.2.2.2.2.2.2.2.2.1).toNat) (k : Int) ≤ 8 := ctN_r8 _ (by omega)
    have hof2 : (fun z_ => ctN (cDn (chW y s z_ wd)) (wd.2.2.2.2.2.2.2.2.1).toNat) (k : Int) = ctN (cDn (chW y s (k : Int) wd)) (wd.2.2.2.2.2.2.2.2.1).toNat := rfl
    refine v_aload_n (j := 3) (x := a 0) G dX8_bestChoice_15 rfl rfl ?_
    refine v_iload_n (j := 4) (x := jI y) G dX8_bestChoice_16 rfl rfl ?_
    refine v_iload_n (j := 5) (x := jI s) G dX8_bestChoice_17 rfl rfl ?_
    refine v_iload (j := 0) (x := jI (k : Int)) G dX8_bestChoice_18 rfl ?_
    refine v_cvP (w2 := (fun _ => (gS  a ks ++ gW cI (fun i => a (1 + i)) wd ++ gW cI (fun i => a (21 + i)) (chW y s (k : Int) wd) ++ gG cI (fun i => a (31 + i)) gq))) (wr := (gG cI (fun i => a (31 + i)) gq)) G (rn_V (As := [.int (jI y), .int (jI s), .int (jI (k : Int))]) (rest := []) (q0 := 0) G (c_X8_tryChoice (y := y) (s := s) (z := (k : Int)) (ks := ks) (wd := wd) (tw := tq) (a := a) (hw := hw) (hy := (by omega))) gX8_bestChoice_X8_tryChoice rfl hdX8_tryChoice ⟨rfl, rfl, Nat.le_of_ble_eq_true rfl, Nat.le_of_ble_eq_true rfl⟩ rfl rfl (Nat.le_of_ble_eq_true rfl) ⟨Nat.zero_le _, Nat.zero_le _⟩ rfl rfl dX8_bestChoice_20) [0, 1, 2, 3, 4, 5, 6, 7, 8, 9, 10, 11, 12, 13, 14, 15, 16, 17, 18, 19, 20] [21, 22, 23, 24, 25] [5, 6, 7, 8, 9, 10, 11, 12, 13, 14, 15, 16, 17, 18, 19, 20, 21, 22, 23, 24, 25, 0, 1, 2, 3, 4] rfl rfl (by decide) (fun _ => rfl) (fun u_6 e_5 => ?_)
    refine v_world (ws' := (gS  a ks ++ gW cI (fun i => a (1 + i)) wd ++ gW cI (fun i => a (21 + i)) (chW y s (k : Int) wd) ++ gG cI (fun i => a (31 + i)) gq)) rfl ?_
    refine v_aload_n (j := 3) (x := a 0) G dX8_bestChoice_23 rfl rfl ?_
    refine v_aload_n (j := 3) (x := a 0) G dX8_bestChoice_24 rfl rfl ?_
    refine v_get (q0 := 0) (k := 2) (v := .ref (a 21)) G k_X8 rfl rfl (by decide) q_1 rfl rfl dX8_bestChoice_25 ?_
    refine v_ciP (w2 := (fun gl2 => (gS  a ks ++ gW cI (fun i => a (1 + i)) wd ++ gW cI (fun i => a (21 + i)) (((chW y s (k : Int) wd).1), ((chW y s (k : Int) wd).2.1), ((chW y s (k : Int) wd).2.2.1), ((chW y s (k : Int) wd).2.2.2.1), ((chW y s (k : Int) wd).2.2.2.2.1), ((chW y s (k : Int) wd).2.2.2.2.2.1), ((chW y s (k : Int) wd).2.2.2.2.2.2.1), ((chW y s (k : Int) wd).2.2.2.2.2.2.2.1), ((chW y s (k : Int) wd).2.2.2.2.2.2.2.2.1), ((chW y s (k : Int) wd).2.2.2.2.2.2.2.2.2.1), ((chW y s (k : Int) wd).2.2.2.2.2.2.2.2.2.2.1), ((chW y s (k : Int) wd).2.2.2.2.2.2.2.2.2.2.2)) ++ gG cI (fun i => a (31 + i)) gl2))) (wr := (gW cI (fun i => a (1 + i)) wd)) G (rn_V (As := [.ref (a 21)]) (rest := []) (q0 := 0) G (c_X8_doneSet (ks := ks) (x := (chW y s (k : Int) wd)) (gl := gq) (a := a) (b := fun i => a (21 + i)) (hw := hwz)) gX8_bestChoice_X8_doneSet rfl hdX8_doneSet ⟨rfl, rfl, Nat.le_of_ble_eq_true rfl, Nat.le_of_ble_eq_true rfl⟩ rfl rfl (Nat.le_of_ble_eq_true rfl) ⟨Nat.zero_le _, Nat.zero_le _⟩ rfl rfl dX8_bestChoice_28) [0, 11, 12, 13, 14, 15, 16, 17, 18, 19, 20, 21, 22, 23, 24, 25] [1, 2, 3, 4, 5, 6, 7, 8, 9, 10] [10, 0, 1, 2, 3, 4, 5, 6, 7, 8, 9, 11, 12, 13, 14, 15, 16, 17, 18, 19, 20, 21, 22, 23, 24, 25] rfl rfl (by decide) (fun _ => rfl) (fun r_8 u_10 e_9 => ?_)
    obtain ⟨gl2_7, rfl⟩ : ∃ z, z = u_10 := ⟨_, rfl⟩
    have e_9 : r_8 = stN (cDn (chW y s (k : Int) wd)) (chW y s (k : Int) wd).2.2.2.2.2.2.2.2.1.toNat ∧ True := e_9
    obtain ⟨e_90, e_9⟩ := e_9
    subst e_90
    refine v_world (ws' := (gS  a ks ++ gW cI (fun i => a (1 + i)) wd ++ gW cI (fun i => a (21 + i)) (((chW y s (k : Int) wd).1), ((chW y s (k : Int) wd).2.1), ((chW y s (k : Int) wd).2.2.1), ((chW y s (k : Int) wd).2.2.2.1), ((chW y s (k : Int) wd).2.2.2.2.1), ((chW y s (k : Int) wd).2.2.2.2.2.1), ((chW y s (k : Int) wd).2.2.2.2.2.2.1), ((chW y s (k : Int) wd).2.2.2.2.2.2.2.1), ((chW y s (k : Int) wd).2.2.2.2.2.2.2.2.1), ((chW y s (k : Int) wd).2.2.2.2.2.2.2.2.2.1), ((chW y s (k : Int) wd).2.2.2.2.2.2.2.2.2.2.1), ((chW y s (k : Int) wd).2.2.2.2.2.2.2.2.2.2.2)) ++ gG cI (fun i => a (31 + i)) gl2_7)) rfl ?_
    refine v_ciN G (rn_S (As := [.int (stN (cDn (chW y s (k : Int) wd)) (chW y s (k : Int) wd).2.2.2.2.2.2.2.2.1.toNat)]) (rest := []) G (c_J6_bitCount_0f7a4 (x := stN (cDn (chW y s (k : Int) wd)) (chW y s (k : Int) wd).2.2.2.2.2.2.2.2.1.toNat) ) gX8_bestChoice_J6_bitCount_0f7a4 rfl hdJ6_bitCount_0f7a4 ⟨rfl, rfl, Nat.le_of_ble_eq_true rfl, Nat.le_of_ble_eq_true rfl⟩ rfl rfl (Nat.le_of_ble_eq_true rfl) ⟨Nat.zero_le _, Nat.zero_le _⟩ dX8_bestChoice_31) (fun r_11 u_13 e_12 => ?_)
    have e_12 : r_11 = bcF (stN (cDn (chW y s (k : Int) wd)) (chW y s (k : Int) wd).2.2.2.2.2.2.2.2.1.toNat) := e_12
    subst e_12
    refine v_top (x := bcF (stN (cDn (chW y s (k : Int) wd)) (chW y s (k : Int) wd).2.2.2.2.2.2.2.2.1.toNat)) (y := jI (ctN (cDn (chW y s (k : Int) wd)) (wd.2.2.2.2.2.2.2.2.1).toNat)) (by rw [chW_nt]; exact bc_st _ _ (by omega)) ?_
    refine v_istore (lv' := [(7, .int (jI (ctN (cDn (chW y s (k : Int) wd)) (wd.2.2.2.2.2.2.2.2.1).toNat))), (6, .int (jI (k : Int))), (5, .int (jI (msN (fun z_ => ctN (cDn (chW y s z_ wd)) (wd.2.2.2.2.2.2.2.2.1).toNat) k))), (4, .int (jI (bsN (fun z_ => ctN (cDn (chW y s z_ wd)) (wd.2.2.2.2.2.2.2.2.1).toNat) k))), (0, .ref (a 0)), (1, .int (jI y)), (2, .int (jI s)), (3, .int (jI n))]) G dX8_bestChoice_34 (by decide) rfl ?_
    refine v_iload (j := 0) (x := jI (ctN (cDn (chW y s (k : Int) wd)) (wd.2.2.2.2.2.2.2.2.1).toNat)) G dX8_bestChoice_36 rfl ?_
    refine v_iload (j := 2) (x := jI (msN (fun z_ => ctN (cDn (chW y s z_ wd)) (wd.2.2.2.2.2.2.2.2.1).toNat) k)) G dX8_bestChoice_38 rfl ?_
    refine v_cut (pc' := 51) (lv' := [(7, .int (jI (ctN (cDn (chW y s (k : Int) wd)) (wd.2.2.2.2.2.2.2.2.1).toNat))), (6, .int (jI (k : Int))), (5, .int (jI (msN (fun z_ => ctN (cDn (chW y s z_ wd)) (wd.2.2.2.2.2.2.2.2.1).toNat) (k + 1)))), (4, .int (jI (bsN (fun z_ => ctN (cDn (chW y s z_ wd)) (wd.2.2.2.2.2.2.2.2.1).toNat) (k + 1)))), (0, .ref (a 0)), (1, .int (jI y)), (2, .int (jI s)), (3, .int (jI n))]) (st' := []) (ws' := (gS  a ks ++ gW cI (fun i => a (1 + i)) wd ++ gW cI (fun i => a (21 + i)) (((chW y s (k : Int) wd).1), ((chW y s (k : Int) wd).2.1), ((chW y s (k : Int) wd).2.2.1), ((chW y s (k : Int) wd).2.2.2.1), ((chW y s (k : Int) wd).2.2.2.2.1), ((chW y s (k : Int) wd).2.2.2.2.2.1), ((chW y s (k : Int) wd).2.2.2.2.2.2.1), ((chW y s (k : Int) wd).2.2.2.2.2.2.2.1), ((chW y s (k : Int) wd).2.2.2.2.2.2.2.2.1), ((chW y s (k : Int) wd).2.2.2.2.2.2.2.2.2.1), ((chW y s (k : Int) wd).2.2.2.2.2.2.2.2.2.2.1), ((chW y s (k : Int) wd).2.2.2.2.2.2.2.2.2.2.2)) ++ gG cI (fun i => a (31 + i)) gl2_7)) ?_ (fun J_14 => ?_)
    · skip
      refine v_iinc (k := 1) (z := (k : Int)) (z' := ((k + 1 : Nat) : Int)) (lv' := [(6, .int (jI ((k + 1 : Nat) : Int))), (7, .int (jI (ctN (cDn (chW y s (k : Int) wd)) (wd.2.2.2.2.2.2.2.2.1).toNat))), (5, .int (jI (msN (fun z_ => ctN (cDn (chW y s z_ wd)) (wd.2.2.2.2.2.2.2.2.1).toNat) (k + 1)))), (4, .int (jI (bsN (fun z_ => ctN (cDn (chW y s z_ wd)) (wd.2.2.2.2.2.2.2.2.1).toNat) (k + 1)))), (0, .ref (a 0)), (1, .int (jI y)), (2, .int (jI s)), (3, .int (jI n))]) G dX8_bestChoice_51 rfl (by omega) (by decide) rfl ?_
      refine v_goto (tgt := 9) G dX8_bestChoice_54 (by decide) ?_
      refine v_locs (lv' := [(6, .int (jI ((k + 1 : Nat) : Int))), (5, .int (jI (msN (fun z_ => ctN (cDn (chW y s z_ wd)) (wd.2.2.2.2.2.2.2.2.1).toNat) (k + 1)))), (4, .int (jI (bsN (fun z_ => ctN (cDn (chW y s z_ wd)) (wd.2.2.2.2.2.2.2.2.1).toNat) (k + 1)))), (0, .ref (a 0)), (1, .int (jI y)), (2, .int (jI s)), (3, .int (jI n))]) [0, 2, 3, 4, 5, 6, 7] rfl ?_
      exact ih_2 (k + 1) (((chW y s (k : Int) wd).1), ((chW y s (k : Int) wd).2.1), ((chW y s (k : Int) wd).2.2.1), ((chW y s (k : Int) wd).2.2.2.1), ((chW y s (k : Int) wd).2.2.2.2.1), ((chW y s (k : Int) wd).2.2.2.2.2.1), ((chW y s (k : Int) wd).2.2.2.2.2.2.1), ((chW y s (k : Int) wd).2.2.2.2.2.2.2.1), ((chW y s (k : Int) wd).2.2.2.2.2.2.2.2.1), ((chW y s (k : Int) wd).2.2.2.2.2.2.2.2.2.1), ((chW y s (k : Int) wd).2.2.2.2.2.2.2.2.2.2.1), ((chW y s (k : Int) wd).2.2.2.2.2.2.2.2.2.2.2)) gl2_7 (by omega) (by omega)
    · skip
      refine v_icmp_le (a := ctN (cDn (chW y s (k : Int) wd)) (wd.2.2.2.2.2.2.2.2.1).toNat) (b := msN (fun z_ => ctN (cDn (chW y s z_ wd)) (wd.2.2.2.2.2.2.2.2.1).toNat) k) (tgt := 51) G dX8_bestChoice_40 (by decide) (by omega) (fun c_15 => ?_) (fun c_15 => ?_)
      · skip
        refine v_eqs (lv' := [(7, .int (jI (ctN (cDn (chW y s (k : Int) wd)) (wd.2.2.2.2.2.2.2.2.1).toNat))), (6, .int (jI (k : Int))), (5, .int (jI (msN (fun z_ => ctN (cDn (chW y s z_ wd)) (wd.2.2.2.2.2.2.2.2.1).toNat) (k + 1)))), (4, .int (jI (bsN (fun z_ => ctN (cDn (chW y s z_ wd)) (wd.2.2.2.2.2.2.2.2.1).toNat) (k + 1)))), (0, .ref (a 0)), (1, .int (jI y)), (2, .int (jI s)), (3, .int (jI n))]) (by rw [show msN (fun z_ => ctN (cDn (chW y s z_ wd)) (wd.2.2.2.2.2.2.2.2.1).toNat) (k + 1) = msN (fun z_ => ctN (cDn (chW y s z_ wd)) (wd.2.2.2.2.2.2.2.2.1).toNat) k from (by show (if _ then _ else _) = _; split <;> omega), show bsN (fun z_ => ctN (cDn (chW y s z_ wd)) (wd.2.2.2.2.2.2.2.2.1).toNat) (k + 1) = bsN (fun z_ => ctN (cDn (chW y s z_ wd)) (wd.2.2.2.2.2.2.2.2.1).toNat) k from (by show (if _ then _ else _) = _; split <;> omega)]) rfl rfl ?_
        exact J_14
      · skip
        refine v_iload (j := 0) (x := jI (ctN (cDn (chW y s (k : Int) wd)) (wd.2.2.2.2.2.2.2.2.1).toNat)) G dX8_bestChoice_43 rfl ?_
        refine v_istore (lv' := [(5, .int (jI (ctN (cDn (chW y s (k : Int) wd)) (wd.2.2.2.2.2.2.2.2.1).toNat))), (7, .int (jI (ctN (cDn (chW y s (k : Int) wd)) (wd.2.2.2.2.2.2.2.2.1).toNat))), (6, .int (jI (k : Int))), (4, .int (jI (bsN (fun z_ => ctN (cDn (chW y s z_ wd)) (wd.2.2.2.2.2.2.2.2.1).toNat) k))), (0, .ref (a 0)), (1, .int (jI y)), (2, .int (jI s)), (3, .int (jI n))]) G dX8_bestChoice_45 (by decide) rfl ?_
        refine v_iload (j := 2) (x := jI (k : Int)) G dX8_bestChoice_47 rfl ?_
        refine v_istore (lv' := [(4, .int (jI (k : Int))), (5, .int (jI (ctN (cDn (chW y s (k : Int) wd)) (wd.2.2.2.2.2.2.2.2.1).toNat))), (7, .int (jI (ctN (cDn (chW y s (k : Int) wd)) (wd.2.2.2.2.2.2.2.2.1).toNat))), (6, .int (jI (k : Int))), (0, .ref (a 0)), (1, .int (jI y)), (2, .int (jI s)), (3, .int (jI n))]) G dX8_bestChoice_49 (by decide) rfl ?_
        refine v_locs (lv' := [(7, .int (jI (ctN (cDn (chW y s (k : Int) wd)) (wd.2.2.2.2.2.2.2.2.1).toNat))), (6, .int (jI (k : Int))), (5, .int (jI (ctN (cDn (chW y s (k : Int) wd)) (wd.2.2.2.2.2.2.2.2.1).toNat))), (4, .int (jI (k : Int))), (0, .ref (a 0)), (1, .int (jI y)), (2, .int (jI s)), (3, .int (jI n))]) [2, 3, 1, 0, 4, 5, 6, 7] rfl ?_
        refine v_eqs (lv' := [(7, .int (jI (ctN (cDn (chW y s (k : Int) wd)) (wd.2.2.2.2.2.2.2.2.1).toNat))), (6, .int (jI (k : Int))), (5, .int (jI (msN (fun z_ => ctN (cDn (chW y s z_ wd)) (wd.2.2.2.2.2.2.2.2.1).toNat) (k + 1)))), (4, .int (jI (bsN (fun z_ => ctN (cDn (chW y s z_ wd)) (wd.2.2.2.2.2.2.2.2.1).toNat) (k + 1)))), (0, .ref (a 0)), (1, .int (jI y)), (2, .int (jI s)), (3, .int (jI n))]) (by rw [show msN (fun z_ => ctN (cDn (chW y s z_ wd)) (wd.2.2.2.2.2.2.2.2.1).toNat) (k + 1) = ctN (cDn (chW y s (k : Int) wd)) (wd.2.2.2.2.2.2.2.2.1).toNat from (by show (if _ then _ else _) = _; split <;> omega), show bsN (fun z_ => ctN (cDn (chW y s z_ wd)) (wd.2.2.2.2.2.2.2.2.1).toNat) (k + 1) = (k : Int) from (by show (if _ then _ else _) = _; split <;> omega)]) rfl rfl ?_
        exact J_14
end

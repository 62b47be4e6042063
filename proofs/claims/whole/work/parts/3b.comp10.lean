/-- where the lowest bit of a number is -/
def lbF (z : Int) : Nat → Nat → Nat
  | 0, b => b
  | f + 1, b => if (jI z >>> (jI (b : Int) &&& 31)) &&& jI 1 = jI 1 then b else lbF z f (b + 1)
theorem lb_s {z : Int} {b x : Nat} (hb : b < 9) (h : ¬ ((jI z >>> (jI (b : Int) &&& 31)) &&& jI 1 = jI 1)) (e : lbF z (9 - b) b = x) : lbF z (9 - (b + 1)) (b + 1) = x := by
  rw [show 9 - b = (9 - (b + 1)) + 1 by omega] at e
  rw [← e]
  exact (if_neg h).symm
theorem lb_i {z : Int} {b x : Nat} (e : lbF z (9 - b) b = x) (hb : b < 9) (h : (jI z >>> (jI (b : Int) &&& 31)) &&& jI 1 = jI 1) : x = b := by
  rw [show 9 - b = (9 - (b + 1)) + 1 by omega] at e
  rw [← e]
  exact if_pos h
theorem lb_o {z : Int} {b x : Nat} (e : lbF z (9 - b) b = x) (hb : 9 ≤ b) : x = b := by
  rw [show 9 - b = 0 by omega] at e
  exact e.symm
def allZ (f : Int → Int64) (n : Nat) : Prop := ∀ p : Int, 0 ≤ p → p < n → f p = jL 0
theorem allZ_s {f : Int → Int64} {n : Nat} (h : allZ f n) (e : f (n : Int) = jL 0) : allZ f (n + 1) := by
  intro p h0 h1
  by_cases q : p = (n : Int)
  · subst q; exact e
  · exact h p h0 (by omega)
/-- what beings of a set give -/
def sbN (f : Int → Int) (q : Nat) : Nat → Int
  | 0 => 0
  | b + 1 => sbN f q b + (if q.testBit b then f (b : Int) else 0)
theorem sbN_0 (f : Int → Int) : ∀ n : Nat, sbN f 0 n = 0 := by
  intro n
  induction n with
  | zero => rfl
  | succ n ih => unfold sbN; rw [ih]; simp
theorem sbN_x (f : Int → Int) (q b : Nat) : ∀ n : Nat, sbN f (q ^^^ 2 ^ b) n = sbN f q n + (if b < n then (if q.testBit b then - f (b : Int) else f (b : Int)) else 0) := by
  intro n
  induction n with
  | zero => rfl
  | succ n ih =>
    unfold sbN
    rw [ih, Nat.testBit_xor, Nat.testBit_two_pow]
    by_cases e : b = n
    · subst e
      rw [if_neg (Nat.lt_irrefl b), if_pos (Nat.lt_succ_self b)]
      cases h : q.testBit b <;> simp <;> omega
    · have : decide (b = n) = false := by simp [e]
      rw [this]
      by_cases l : b < n
      · rw [if_pos l, if_pos (show b < n + 1 by omega)]
        cases h : q.testBit n <;> simp <;> omega
      · rw [if_neg l, if_neg (show ¬ b < n + 1 by omega)]
        cases h : q.testBit n <;> simp
/-- Gray's order -/
def gq (m : Nat) : Nat := m ^^^ (m / 2)
set_option maxRecDepth 100000 in
theorem gq_tab0 : ∀ m : Fin 1023, jI ((gq m.val : Nat) : Int) ^^^ (jI 1 <<< (jI ((lbF ((m.val + 1 : Nat) : Int) 9 0 : Nat) : Int) &&& 31)) = jI ((gq (m.val + 1) : Nat) : Int) ∧ ((jI ((gq (m.val + 1) : Nat) : Int) >>> (jI ((lbF ((m.val + 1 : Nat) : Int) 9 0 : Nat) : Int) &&& 31)) &&& jI 1 = jI 1 ↔ (gq m.val).testBit (lbF ((m.val + 1 : Nat) : Int) 9 0) = false) ∧ gq (m.val + 1) = gq m.val ^^^ 2 ^ (lbF ((m.val + 1 : Nat) : Int) 9 0) ∧ 2 ^ (lbF ((m.val + 1 : Nat) : Int) 9 0) ≤ m.val + 1 ∧ gq m.val < 1024 := by decide +kernel
theorem gq_tab (m : Nat) (hm : m < 1023) : jI ((gq m : Nat) : Int) ^^^ (jI 1 <<< (jI ((lbF ((m + 1 : Nat) : Int) 9 0 : Nat) : Int) &&& 31)) = jI ((gq (m + 1) : Nat) : Int) ∧ ((jI ((gq (m + 1) : Nat) : Int) >>> (jI ((lbF ((m + 1 : Nat) : Int) 9 0 : Nat) : Int) &&& 31)) &&& jI 1 = jI 1 ↔ (gq m).testBit (lbF ((m + 1 : Nat) : Int) 9 0) = false) ∧ gq (m + 1) = gq m ^^^ 2 ^ (lbF ((m + 1 : Nat) : Int) 9 0) ∧ 2 ^ (lbF ((m + 1 : Nat) : Int) 9 0) ≤ m + 1 ∧ gq m < 1024 := gq_tab0 ⟨m, hm⟩
def lkF (told : Int → Int64) (bo : Int → Int) (G : Int → Int → Int) (n : Nat) (old : Int → Int64) (P q : Nat) : Int → Int64 := cpL (fun p_ => told p_ - jL (bo p_) - jL (sbN (fun b_ => G b_ p_) q n)) old P
theorem lk_0 {told : Int → Int64} {bo : Int → Int} {G : Int → Int → Int} {n : Nat} {old : Int → Int64} {P : Nat} (j : Int) : cpL (fun p_ => told p_ - jL (bo p_)) old P j = lkF told bo G n old P (gq 0) j := by
  unfold lkF cpL
  dsimp only
  rw [show gq 0 = 0 from rfl, sbN_0]
  split
  · rw [show jL 0 = 0 from rfl, Int64.sub_zero]
  · rfl
theorem l_sub (x : Int64) (a c : Int) : x - jL a + jL c = x - jL (a - c) := by
  rw [← jL_sub]
  simp only [Int64.sub_eq_add_neg, Int64.neg_add, Int64.neg_neg, Int64.add_assoc]
theorem lk_s {told : Int → Int64} {bo : Int → Int} {G : Int → Int → Int} {n : Nat} {old : Int → Int64} {P q b : Nat} {s : Int} {gv : Int → Int} (hb : b < n) (hs : s = if q.testBit b then 1 else -1) (hgv : ∀ p : Int, 0 ≤ p → p < P → gv ((b : Int) * 16 + p) = G (b : Int) p) (j : Int) (h0 : 0 ≤ j) : cpL (fun p_ => lkF told bo G n old P q p_ + jL (s * gv ((b : Int) * 16 + p_))) (lkF told bo G n old P q) P j = lkF told bo G n old P (q ^^^ 2 ^ b) j := by
  by_cases c : j < (P : Int)
  · have e1 : cpL (fun p_ => lkF told bo G n old P q p_ + jL (s * gv ((b : Int) * 16 + p_))) (lkF told bo G n old P q) P j = lkF told bo G n old P q j + jL (s * gv ((b : Int) * 16 + j)) := if_pos c
    have e2 : ∀ q : Nat, lkF told bo G n old P q j = told j - jL (bo j) - jL (sbN (fun b_ => G b_ j) q n) := fun q => if_pos c
    rw [e1, e2, e2, sbN_x, if_pos hb, hgv j h0 c, l_sub]
    congr 2
    subst hs
    cases h : q.testBit b <;> simp <;> omega
  · have e1 : cpL (fun p_ => lkF told bo G n old P q p_ + jL (s * gv ((b : Int) * 16 + p_))) (lkF told bo G n old P q) P j = lkF told bo G n old P q j := if_neg c
    have e2 : ∀ q : Nat, lkF told bo G n old P q j = old j := fun q => if_neg c
    rw [e1, e2, e2]
def gvC (g : GT) (old : Int → Int) (P b p : Int) : Int → Int := fun j => if (j / 16 < b ∧ j % 16 < P) ∨ (j / 16 = b ∧ j % 16 < p) then gvT g (j / 16) (j % 16) else old j
theorem gvC_s (g : GT) (old : Int → Int) {P b p : Int} (hb : 0 ≤ b) (hp : 0 ≤ p ∧ p < P) (hP : P ≤ 16) (j : Int) : uI (gvC g old P b p) (b * 16 + p) (gvT g b p) j = gvC g old P b (p + 1) j := by
  by_cases e : j = b * 16 + p
  · subst e
    rw [uI_s]
    unfold gvC
    rw [if_pos (by omega), show (b * 16 + p) / 16 = b by omega, show (b * 16 + p) % 16 = p by omega]
  · rw [uI_n _ _ e]
    unfold gvC
    by_cases c : (j / 16 < b ∧ j % 16 < P) ∨ (j / 16 = b ∧ j % 16 < p)
    · rw [if_pos c, if_pos (by omega)]
    · rw [if_neg c, if_neg (by omega)]
theorem gvC_e (g : GT) (old : Int → Int) {P b p b1 : Int} (hb : b1 = b + 1) (hp : p = P) (hP : 0 ≤ P) (j : Int) : gvC g old P b p j = gvC g old P b1 0 j := by
  unfold gvC
  by_cases c : (j / 16 < b ∧ j % 16 < P) ∨ (j / 16 = b ∧ j % 16 < p)
  · rw [if_pos c, if_pos (by omega)]
  · rw [if_neg c, if_neg (by omega)]
theorem gvC_v (g : GT) (old : Int → Int) {P n z j : Int} (hz : 0 ≤ z ∧ z < n) (hj : 0 ≤ j ∧ j < P ∧ P ≤ 16) : gvC g old P n 0 (z * 16 + j) = gvT g z j := by
  unfold gvC
  rw [if_pos (by omega), show (z * 16 + j) / 16 = z by omega, show (z * 16 + j) % 16 = j by omega]
/-- how many, in Gray's order -/
noncomputable def crN (P : Nat → Prop) : Nat → Int
  | 0 => 0
  | m + 1 => crN P m + b2 (P m)
theorem crN_t {P : Nat → Prop} (h : P 0) : crN P 1 = 1 := by
  show 0 + b2 (P 0) = 1
  rw [b2_t h]; rfl
theorem crN_f {P : Nat → Prop} (h : ¬ P 0) : crN P 1 = 0 := by
  show 0 + b2 (P 0) = 0
  rw [b2_f h]; rfl
section
variable {l : Launch} {D : va_G} {cI cL cB cS : ClassId} {a b c : Nat → Nat} {x o wd kw tw : WT} {g gl : GT} {sx : Int × Int × (Int → Int64)} {fd li : Int → Int} {wy : (Int → Int) × (Int → Int)} {lr : (Int → Int64) × (Int → Int)} {nx : Int} {ta : (Int → Int) × Int} {tk : (Int → Int) × (Int → Int) × (Int → Int) × Int} {s0 s1 s2 s3 : Int × Int × (Int → Int64)} {ks : Int}
set_option maxHeartbeats 4000000 in
set_option maxRecDepth 100000 in
theorem c_X1_lowestBit (z : Int)  : Ci l yX1_lowestBit wsX1_lowestBit { frames := 0, cells := 0, slots := 0, locals := 0 } D (jT cI cL cB cS) [.int (jI z)] [] (S := Unit) (fun _ => []) (fun r _ => r = jI (lbF z 9 0 : Int)) := by
  refine Ci.mk (cc := cX1_lowestBit) (maxL := 2) (rt := .int) (by decide) rfl (Nat.le_of_ble_eq_true rfl) rfl ?_
  intro p_ e_ s_ m_ b_ me_ c_ A_ G hnm
  refine v_iconst G dX1_lowestBit_0 ?_
  refine v_istore_n (lv' := [(1, .int (jI 0)), (0, .int (jI z))]) G dX1_lowestBit_1 rfl (by decide) rfl ?_
  refine v_locs (lv' := [(1, .int (jI 0)), (0, .int (jI z))]) [0, 1] rfl ?_
  refine v_loop1 (fun (b : Nat) => [(1, .int (jI (b : Int))), (0, .int (jI z))]) (fun (b : Nat) => []) (fun (b : Nat) => b ≤ 9 ∧ lbF z (9 - b) b = lbF z 9 0) (fun (b : Nat) => 9 - b) 0 ⟨by decide, rfl⟩ rfl rfl ?_
  intro b I_1 ih_2
  obtain ⟨hn, hz⟩ := id I_1
  refine v_iload_n (j := 0) (x := jI (b : Int)) G dX1_lowestBit_2 rfl rfl ?_
  refine v_bipush G dX1_lowestBit_3 (by decide) ?_
  refine v_icmp_ge (a := (b : Int)) (b := 9) (tgt := 22) G dX1_lowestBit_5 (by decide) (by omega) (fun c_3 => ?_) (fun c_3 => ?_)
  · skip
    have hres : lbF z 9 0 = b := by first | exact lb_o hz (by omega) | exact lb_i hz (by omega) (by by_cases q : (jI z >>> (jI (b : Int) &&& 31)) &&& jI 1 = jI 1; exact q; rw [if_neg q] at *; omega)
    refine v_iload_n (j := 0) (x := jI (b : Int)) G dX1_lowestBit_22 rfl rfl ?_
    exact v_iret G () (show jI (b : Int) = jI (lbF z 9 0 : Int) from congrArg jI (by omega)) rfl dX1_lowestBit_23
  · skip
    refine v_iload_n (j := 1) (x := jI z) G dX1_lowestBit_8 rfl rfl ?_
    refine v_iload_n (j := 0) (x := jI (b : Int)) G dX1_lowestBit_9 rfl rfl ?_
    refine v_ishr (v := (jI z) >>> ((jI (b : Int)) &&& 31)) G dX1_lowestBit_10 rfl ?_
    refine v_iconst G dX1_lowestBit_11 ?_
    refine v_iand (v := ((jI z) >>> ((jI (b : Int)) &&& 31)) &&& (jI 1)) G dX1_lowestBit_12 rfl ?_
    refine v_top (x := ((jI z) >>> ((jI (b : Int)) &&& 31)) &&& (jI 1)) (y := jI (if (jI z >>> (jI (b : Int) &&& 31)) &&& jI 1 = jI 1 then 1 else 0)) (bit01 _) ?_
    refine v_if_ne (a := (if (jI z >>> (jI (b : Int) &&& 31)) &&& jI 1 = jI 1 then 1 else 0)) (tgt := 22) G dX1_lowestBit_13 (by decide) (by omega) (fun c_4 => ?_) (fun c_4 => ?_)
    · skip
      have hres : lbF z 9 0 = b := by first | exact lb_o hz (by omega) | exact lb_i hz (by omega) (by by_cases q : (jI z >>> (jI (b : Int) &&& 31)) &&& jI 1 = jI 1; exact q; rw [if_neg q] at *; omega)
      refine v_iload_n (j := 0) (x := jI (b : Int)) G dX1_lowestBit_22 rfl rfl ?_
      exact v_iret G () (show jI (b : Int) = jI (lbF z 9 0 : Int) from congrArg jI (by omega)) rfl dX1_lowestBit_23
    · skip
      refine v_iinc (k := 0) (z := (b : Int)) (z' := ((b + 1 : Nat) : Int)) (lv' := [(1, .int (jI ((b + 1 : Nat) : Int))), (0, .int (jI z))]) G dX1_lowestBit_16 rfl (by omega) (by decide) rfl ?_
      refine v_goto (tgt := 2) G dX1_lowestBit_19 (by decide) ?_
      exact ih_2 (b + 1) ⟨by omega, lb_s (by omega) (by intro q; rw [if_pos q] at *; omega) I_1.2⟩ (by omega)

set_option maxHeartbeats 4000000 in
set_option maxRecDepth 100000 in
theorem c_X1_isJust (n : Int) (hn : 0 ≤ n ∧ n ≤ 16) : Ci l yX1_isJust wsX1_isJust { frames := 0, cells := 0, slots := 0, locals := 0 } D (jT cI cL cB cS) [.ref (a 52), .int (jI n)] (gL cI cL (fun i => a (52 + i)) lr) (S := Unit) (fun _ => (gL cI cL (fun i => a (52 + i)) lr)) (fun r _ => r = jI (b2 (allZ lr.1 n.toNat))) := by
  refine Ci.mk (cc := cX1_isJust) (maxL := 3) (rt := .boolean) (by decide) rfl (Nat.le_of_ble_eq_true rfl) rfl ?_
  intro p_ e_ s_ m_ b_ me_ c_ A_ G hnm
  have k_X1 : ∀ w ∈ u_ws RX1 TX1 2, w ∈ wsX1_isJust := fun _ h => List.mem_cons_of_mem _ (List.mem_append_right _ h)
  have q_1 : Cond.fieldLink RX1 9 "SupperLight$LightReader" "lacks" "[J" ∈ wsX1_isJust := List.mem_of_getElem? (i := 1) rfl
  refine v_iconst G dX1_isJust_0 ?_
  refine v_istore_n (lv' := [(2, .int (jI 0)), (0, .ref (a 52)), (1, .int (jI n))]) G dX1_isJust_1 rfl (by decide) rfl ?_
  refine v_locs (lv' := [(2, .int (jI 0)), (0, .ref (a 52)), (1, .int (jI n))]) [0, 1, 2] rfl ?_
  refine v_loop1 (fun (k : Nat) => [(2, .int (jI (k : Int))), (0, .ref (a 52)), (1, .int (jI n))]) (fun (k : Nat) => (gL cI cL (fun i => a (52 + i)) lr)) (fun (k : Nat) => (k : Int) ≤ n ∧ allZ lr.1 k) (fun (k : Nat) => n.toNat - k) 0 ⟨by omega, fun p h0 h1 => by omega⟩ rfl rfl ?_
  intro k I_1 ih_2
  obtain ⟨hk1, hk2⟩ := id I_1
  refine v_iload_n (j := 0) (x := jI (k : Int)) G dX1_isJust_2 rfl rfl ?_
  refine v_iload_n (j := 2) (x := jI n) G dX1_isJust_3 rfl rfl ?_
  refine v_icmp_ge (a := (k : Int)) (b := n) (tgt := 26) G dX1_isJust_4 (by decide) (by omega) (fun c_3 => ?_) (fun c_3 => ?_)
  · skip
    obtain rfl : k = n.toNat := by omega
    refine v_iconst G dX1_isJust_26 ?_
    exact v_zret G () nb_1 (show jI 1 = jI (b2 (allZ lr.1 n.toNat)) from congrArg jI (b2_t (P := allZ lr.1 n.toNat) (by assumption)).symm) rfl dX1_isJust_27
  · skip
    refine v_aload_n (j := 1) (x := a 52) G dX1_isJust_7 rfl rfl ?_
    refine v_get (q0 := 0) (k := 0) (v := .ref (a 53)) G k_X1 rfl rfl (by decide) q_1 rfl rfl dX1_isJust_8 ?_
    refine v_iload_n (j := 0) (x := jI (k : Int)) G dX1_isJust_11 rfl rfl ?_
    refine v_lald (q0 := 1) (t0 := 1) (g := lr.1) (z := (k : Int)) G rfl rfl (by omega) dX1_isJust_12 ?_
    refine v_lconst (z := 0) G dX1_isJust_13 (by decide) ?_
    refine v_lcmp G dX1_isJust_14 ?_
    refine v_top (lg_lc (lr.1 (k : Int)) (jL 0)) ?_
    have h_4 := lc_z (lr.1 (k : Int)) (jL 0)
    have h_5 := jL_toInt (z := 0) (by omega)
    refine v_if_eq (a := lc (lr.1 (k : Int)) (jL 0)) (tgt := 20) G dX1_isJust_15 (by decide) (by omega) (fun c_6 => ?_) (fun c_6 => ?_)
    · skip
      refine v_iinc (k := 0) (z := (k : Int)) (z' := ((k + 1 : Nat) : Int)) (lv' := [(2, .int (jI ((k + 1 : Nat) : Int))), (0, .ref (a 52)), (1, .int (jI n))]) G dX1_isJust_20 rfl (by omega) (by decide) rfl ?_
      refine v_goto (tgt := 2) G dX1_isJust_23 (by decide) ?_
      exact ih_2 (k + 1) ⟨by omega, allZ_s I_1.2 (Int64.toInt_inj.mp (by omega))⟩ (by omega)
    · skip
      have hno : ¬ allZ lr.1 n.toNat := fun q => by have e := congrArg Int64.toInt (q (k : Int) (by omega) (by omega)); omega
      refine v_iconst G dX1_isJust_18 ?_
      exact v_zret G () nb_0 (show jI 0 = jI (b2 (allZ lr.1 n.toNat)) from congrArg jI (b2_f (P := allZ lr.1 n.toNat) hno).symm) rfl dX1_isJust_19

set_option maxHeartbeats 4000000 in
set_option maxRecDepth 100000 in
theorem c_X1_change (z s n : Int) (hn : (0 ≤ n ∧ n ≤ 16) ∧ 0 ≤ z ∧ z < 10) (hs : s = 1 ∨ s = -1) (hg : ∀ j : Int, 0 ≤ j → j < n → 0 ≤ lr.2 (z * 16 + j) ∧ lr.2 (z * 16 + j) ≤ 297) : Cv l yX1_change wsX1_change { frames := 0, cells := 0, slots := 0, locals := 0 } D (jT cI cL cB cS) [.ref (a 52), .int (jI z), .int (jI s), .int (jI n)] (gL cI cL (fun i => a (52 + i)) lr) (S := Unit) (fun _ => (gL cI cL (fun i => a (52 + i)) (cpL (fun p_ => lr.1 p_ + jL (s * lr.2 (z * 16 + p_))) lr.1 n.toNat, lr.2))) (fun _ => True) := by
  refine Cv.mk (cc := cX1_change) (maxL := 5) (by decide) rfl (Nat.le_of_ble_eq_true rfl) rfl ?_
  intro p_ e_ s_ m_ b_ me_ c_ A_ G hnm
  have k_X1 : ∀ w ∈ u_ws RX1 TX1 2, w ∈ wsX1_change := fun _ h => List.mem_cons_of_mem _ (List.mem_append_right _ h)
  have q_1 : Cond.fieldLink RX1 9 "SupperLight$LightReader" "lacks" "[J" ∈ wsX1_change := List.mem_of_getElem? (i := 1) rfl
  have q_2 : Cond.fieldLink RX1 15 "SupperLight$LightReader" "given" "[I" ∈ wsX1_change := List.mem_of_getElem? (i := 2) rfl
  refine v_iconst G dX1_change_0 ?_
  refine v_istore (lv' := [(4, .int (jI 0)), (0, .ref (a 52)), (1, .int (jI z)), (2, .int (jI s)), (3, .int (jI n))]) G dX1_change_1 (by decide) rfl ?_
  refine v_cellL (q0 := 1) (g := lr.1) (g' := cpL (fun p_ => lr.1 p_ + jL (s * lr.2 (z * 16 + p_))) lr.1 0) (ws' := (gL cI cL (fun i => a (52 + i)) (cpL (fun p_ => lr.1 p_ + jL (s * lr.2 (z * 16 + p_))) lr.1 0, lr.2))) rfl (fun j h0 _ => by unfold cpL; rw [if_neg (by omega)]) rfl ?_
  refine v_locs (lv' := [(4, .int (jI 0)), (0, .ref (a 52)), (1, .int (jI z)), (2, .int (jI s)), (3, .int (jI n))]) [0, 1, 2, 3, 4] rfl ?_
  refine v_loop1 (fun (k : Nat) => [(4, .int (jI (k : Int))), (0, .ref (a 52)), (1, .int (jI z)), (2, .int (jI s)), (3, .int (jI n))]) (fun (k : Nat) => (gL cI cL (fun i => a (52 + i)) (cpL (fun p_ => lr.1 p_ + jL (s * lr.2 (z * 16 + p_))) lr.1 k, lr.2))) (fun (k : Nat) => (k : Int) ≤ n) (fun (k : Nat) => n.toNat - k) 0 (by omega) rfl rfl ?_
  intro k I_1 ih_2
  refine v_iload (j := 0) (x := jI (k : Int)) G dX1_change_3 rfl ?_
  refine v_iload_n (j := 4) (x := jI n) G dX1_change_5 rfl rfl ?_
  refine v_icmp_ge (a := (k : Int)) (b := n) (tgt := 40) G dX1_change_6 (by decide) (by omega) (fun c_3 => ?_) (fun c_3 => ?_)
  · skip
    obtain rfl : k = n.toNat := by omega
    exact v_vret G () trivial rfl dX1_change_40
  · skip
    refine v_aload_n (j := 1) (x := a 52) G dX1_change_9 rfl rfl ?_
    refine v_get (q0 := 0) (k := 0) (v := .ref (a 53)) G k_X1 rfl rfl (by decide) q_1 rfl rfl dX1_change_10 ?_
    refine v_iload (j := 0) (x := jI (k : Int)) G dX1_change_13 rfl ?_
    refine v_dup2 G dX1_change_15 rfl rfl ?_
    refine v_lald (q0 := 1) (t0 := 1) (g := cpL (fun p_ => lr.1 p_ + jL (s * lr.2 (z * 16 + p_))) lr.1 k) (z := (k : Int)) G rfl rfl (by omega) dX1_change_16 ?_
    refine v_iload_n (j := 3) (x := jI s) G dX1_change_17 rfl rfl ?_
    refine v_aload_n (j := 1) (x := a 52) G dX1_change_18 rfl rfl ?_
    refine v_get (q0 := 0) (k := 1) (v := .ref (a 54)) G k_X1 rfl rfl (by decide) q_2 rfl rfl dX1_change_19 ?_
    refine v_iload_n (j := 2) (x := jI z) G dX1_change_22 rfl rfl ?_
    refine v_bipush G dX1_change_23 (by decide) ?_
    refine v_imul (z := z * 16) G dX1_change_25 rfl ?_
    refine v_iload (j := 0) (x := jI (k : Int)) G dX1_change_26 rfl ?_
    refine v_iadd (z := (z * 16) + (k : Int)) G dX1_change_28 rfl ?_
    refine v_iald (q0 := 2) (t0 := 0) (g := lr.2) (z := (z * 16) + (k : Int)) G rfl rfl (by omega) dX1_change_29 ?_
    refine v_imul (z := s * (lr.2 ((z * 16) + (k : Int)))) G dX1_change_30 rfl ?_
    have hgk := hg (k : Int) (by omega) (by omega)
    have hmul : -297 ≤ s * lr.2 (z * 16 + (k : Int)) ∧ s * lr.2 (z * 16 + (k : Int)) ≤ 297 := by rcases hs with rfl | rfl <;> omega
    refine v_i2l (v := jL (s * (lr.2 ((z * 16) + (k : Int))))) G dX1_change_31 (jI_i2l (by omega)) ?_
    refine v_ladd (v := ((cpL (fun p_ => lr.1 p_ + jL (s * lr.2 (z * 16 + p_))) lr.1 k) (k : Int)) + (jL (s * (lr.2 ((z * 16) + (k : Int)))))) G dX1_change_32 rfl ?_
    refine v_topl (x := ((cpL (fun p_ => lr.1 p_ + jL (s * lr.2 (z * 16 + p_))) lr.1 k) (k : Int)) + (jL (s * (lr.2 ((z * 16) + (k : Int)))))) (y := (fun p_ => lr.1 p_ + jL (s * lr.2 (z * 16 + p_))) (k : Int)) (by show cpL _ _ _ _ + _ = lr.1 (k : Int) + _; unfold cpL; rw [if_neg (by omega)]) ?_
    refine v_last (q0 := 1) (t0 := 1) (g := cpL (fun p_ => lr.1 p_ + jL (s * lr.2 (z * 16 + p_))) lr.1 k) (z := (k : Int)) (x := (fun p_ => lr.1 p_ + jL (s * lr.2 (z * 16 + p_))) (k : Int)) (ws' := (gL cI cL (fun i => a (52 + i)) (uL (cpL (fun p_ => lr.1 p_ + jL (s * lr.2 (z * 16 + p_))) lr.1 k) (k : Int) ((fun p_ => lr.1 p_ + jL (s * lr.2 (z * 16 + p_))) (k : Int)), lr.2))) G rfl rfl (by omega) rfl dX1_change_33 ?_
    refine v_cellL (q0 := 1) (g := uL (cpL (fun p_ => lr.1 p_ + jL (s * lr.2 (z * 16 + p_))) lr.1 k) (k : Int) ((fun p_ => lr.1 p_ + jL (s * lr.2 (z * 16 + p_))) (k : Int))) (g' := cpL (fun p_ => lr.1 p_ + jL (s * lr.2 (z * 16 + p_))) lr.1 (k + 1)) (ws' := (gL cI cL (fun i => a (52 + i)) (cpL (fun p_ => lr.1 p_ + jL (s * lr.2 (z * 16 + p_))) lr.1 (k + 1), lr.2))) rfl (fun j h0 _ => cpL_s (fun p_ => lr.1 p_ + jL (s * lr.2 (z * 16 + p_))) lr.1 k j h0) rfl ?_
    refine v_iinc (k := 0) (z := (k : Int)) (z' := ((k + 1 : Nat) : Int)) (lv' := [(4, .int (jI ((k + 1 : Nat) : Int))), (0, .ref (a 52)), (1, .int (jI z)), (2, .int (jI s)), (3, .int (jI n))]) G dX1_change_34 rfl (by omega) (by decide) rfl ?_
    refine v_goto (tgt := 3) G dX1_change_37 (by decide) ?_
    exact ih_2 (k + 1) (by omega) (by omega)

set_option maxHeartbeats 4000000 in
set_option maxRecDepth 100000 in
theorem c_X1_countSets  (hg : Gf gl) (hx : Sx sx) : Ci l yX1_countSets wsX1_countSets { frames := 3, cells := 0, slots := 0, locals := 64 } D (jT cI cL cB cS) [.ref (a 52), .ref (a 31), .ref (b 0)] (gL cI cL (fun i => a (52 + i)) lr ++ gG cI (fun i => a (31 + i)) gl ++ gX cL b sx) (S := ((Int → Int64) × (Int → Int))) (fun lr2 => (gL cI cL (fun i => a (52 + i)) lr2 ++ gG cI (fun i => a (31 + i)) gl ++ gX cL b sx)) (fun r lr2 => r = jI (crN (fun m_ => allZ (lkF sx.2.2 gl.2.1 (fun b_ p_ => gvT gl b_ p_) gl.1.toNat lr.1 (jmin sx.2.1 16).toNat (gq m_)) (jmin sx.2.1 16).toNat) (2 ^ gl.1.toNat)) ∧ True) := by
  refine Ci.mk (cc := cX1_countSets) (maxL := 8) (rt := .int) (by decide) rfl (Nat.le_of_ble_eq_true rfl) rfl ?_
  intro p_ e_ s_ m_ b_ me_ c_ A_ G hnm
  have hm := hg.1
  obtain ⟨hb, hz⟩ := id hx
  have k_X0 : ∀ w ∈ u_ws RX0 TX0 5, w ∈ wsX1_countSets := fun _ h => List.mem_cons_of_mem _ (List.mem_append_right _ h)
  have q_1 : Cond.fieldLink RX1 33 "SupperLight$Glow" "beings" "I" ∈ wsX1_countSets := List.mem_of_getElem? (i := 4) rfl
  have k_X1 : ∀ w ∈ u_ws RX1 TX1 2, w ∈ wsX1_countSets := fun _ h => List.mem_cons_of_mem _ (List.mem_append_left _ (List.mem_append_left _ (List.mem_append_right _ h)))
  have q_3 : Cond.fieldLink RX1 15 "SupperLight$LightReader" "given" "[I" ∈ wsX1_countSets := List.mem_of_getElem? (i := 5) rfl
  have q_4 : Cond.fieldLink RX1 9 "SupperLight$LightReader" "lacks" "[J" ∈ wsX1_countSets := List.mem_of_getElem? (i := 1) rfl
  have k_X3 : ∀ w ∈ u_ws RX3 TX3 3, w ∈ wsX1_countSets := fun _ h => List.mem_cons_of_mem _ (List.mem_append_left _ (List.mem_append_right _ h))
  have q_6 : Cond.fieldLink RX1 25 "SupperLight$Sheet" "numbers" "[J" ∈ wsX1_countSets := List.mem_of_getElem? (i := 2) rfl
  have q_7 : Cond.fieldLink RX1 28 "SupperLight$Glow" "bowls" "[I" ∈ wsX1_countSets := List.mem_of_getElem? (i := 3) rfl
  refine v_aload_n (j := 2) (x := b 0) G dX1_countSets_0 rfl rfl ?_
  refine v_ciG (w2 := (fun _ => (gL cI cL (fun i => a (52 + i)) lr ++ gG cI (fun i => a (31 + i)) gl ++ gX cL b sx))) G [gL cI cL (fun i => a (52 + i)) lr, gG cI (fun i => a (31 + i)) gl, gX cL b sx] [gX cL b sx] [gL cI cL (fun i => a (52 + i)) lr, gG cI (fun i => a (31 + i)) gl] (fun _ => [gL cI cL (fun i => a (52 + i)) lr, gG cI (fun i => a (31 + i)) gl, gX cL b sx]) (fun _ => [gX cL b sx]) [2] (rn_V (As := []) (rest := []) (q0 := 0) G (c_X3_places (sx := sx) (b := b) (hx := hx)) gX1_countSets_X3_places rfl hdX3_places ⟨rfl, rfl, Nat.le_of_ble_eq_true rfl, Nat.le_of_ble_eq_true rfl⟩ rfl rfl (Nat.le_of_ble_eq_true rfl) ⟨Nat.zero_le _, Nat.zero_le _⟩ rfl rfl dX1_countSets_1) rfl rfl rfl (fun _ => rfl) (fun _ => rfl) (fun _ => rfl) (fun r_1 u_3 e_2 => ?_)
  have e_2 : r_1 = jI (jmin sx.2.1 16) := e_2
  subst e_2
  refine v_world (ws' := (gL cI cL (fun i => a (52 + i)) lr ++ gG cI (fun i => a (31 + i)) gl ++ gX cL b sx)) rfl ?_
  have hjm := jmin_z sx.2.1 16
  refine v_istore_n (lv' := [(3, .int (jI (jmin sx.2.1 16))), (0, .ref (a 52)), (1, .ref (a 31)), (2, .ref (b 0))]) G dX1_countSets_4 rfl (by decide) rfl ?_
  refine v_iconst G dX1_countSets_5 ?_
  refine v_istore (lv' := [(4, .int (jI 0)), (3, .int (jI (jmin sx.2.1 16))), (0, .ref (a 52)), (1, .ref (a 31)), (2, .ref (b 0))]) G dX1_countSets_6 (by decide) rfl ?_
  refine v_cellL (q0 := 1) (g := lr.1) (g' := cpL (fun p_ => sx.2.2 p_ - jL (gl.2.1 p_)) lr.1 0) (ws' := (gL cI cL (fun i => a (52 + i)) (cpL (fun p_ => sx.2.2 p_ - jL (gl.2.1 p_)) lr.1 0, lr.2) ++ gG cI (fun i => a (31 + i)) gl ++ gX cL b sx)) rfl (fun j h0 _ => by unfold cpL; rw [if_neg (by omega)]) rfl ?_
  refine v_locs (lv' := [(4, .int (jI 0)), (3, .int (jI (jmin sx.2.1 16))), (0, .ref (a 52)), (1, .ref (a 31)), (2, .ref (b 0))]) [0, 1, 2, 3, 4] rfl ?_
  refine v_loop1 (fun (k : Nat) => [(4, .int (jI (k : Int))), (3, .int (jI (jmin sx.2.1 16))), (0, .ref (a 52)), (1, .ref (a 31)), (2, .ref (b 0))]) (fun (k : Nat) => (gL cI cL (fun i => a (52 + i)) (cpL (fun p_ => sx.2.2 p_ - jL (gl.2.1 p_)) lr.1 k, lr.2) ++ gG cI (fun i => a (31 + i)) gl ++ gX cL b sx)) (fun (k : Nat) => (k : Int) ≤ (jmin sx.2.1 16)) (fun (k : Nat) => (jmin sx.2.1 16).toNat - k) 0 (by omega) rfl rfl ?_
  intro k I_4 ih_5
  refine v_iload (j := 0) (x := jI (k : Int)) G dX1_countSets_8 rfl ?_
  refine v_iload_n (j := 1) (x := jI (jmin sx.2.1 16)) G dX1_countSets_10 rfl rfl ?_
  refine v_icmp_ge (a := (k : Int)) (b := jmin sx.2.1 16) (tgt := 43) G dX1_countSets_11 (by decide) (by omega) (fun c_6 => ?_) (fun c_6 => ?_)
  · skip
    obtain rfl : k = (jmin sx.2.1 16).toNat := by omega
    refine v_cellL (q0 := 1) (g := cpL (fun p_ => sx.2.2 p_ - jL (gl.2.1 p_)) lr.1 ((jmin sx.2.1 16).toNat)) (g' := lkF sx.2.2 gl.2.1 (fun b_ p_ => gvT gl b_ p_) gl.1.toNat lr.1 (jmin sx.2.1 16).toNat (gq 0)) (ws' := (gL cI cL (fun i => a (52 + i)) (lkF sx.2.2 gl.2.1 (fun b_ p_ => gvT gl b_ p_) gl.1.toNat lr.1 (jmin sx.2.1 16).toNat (gq 0), lr.2) ++ gG cI (fun i => a (31 + i)) gl ++ gX cL b sx)) rfl (fun j h0 _ => lk_0 j) rfl ?_
    refine v_cell (q0 := 2) (g := lr.2) (g' := gvC gl lr.2 (jmin sx.2.1 16) ((0 : Nat) : Int) 0) (ws' := (gL cI cL (fun i => a (52 + i)) (lkF sx.2.2 gl.2.1 (fun b_ p_ => gvT gl b_ p_) gl.1.toNat lr.1 (jmin sx.2.1 16).toNat (gq 0), gvC gl lr.2 (jmin sx.2.1 16) ((0 : Nat) : Int) 0) ++ gG cI (fun i => a (31 + i)) gl ++ gX cL b sx)) rfl (fun j h0 _ => by unfold gvC; rw [if_neg (by omega)]) rfl ?_
    refine v_iconst G dX1_countSets_43 ?_
    refine v_istore (lv' := [(4, .int (jI 0)), (3, .int (jI (jmin sx.2.1 16))), (0, .ref (a 52)), (1, .ref (a 31)), (2, .ref (b 0))]) G dX1_countSets_44 (by decide) rfl ?_
    refine v_locs (lv' := [(4, .int (jI 0)), (3, .int (jI (jmin sx.2.1 16))), (0, .ref (a 52)), (1, .ref (a 31)), (2, .ref (b 0))]) [0, 1, 2, 3, 4] rfl ?_
    refine v_loop1 (fun (y : Nat) => [(4, .int (jI (y : Int))), (3, .int (jI (jmin sx.2.1 16))), (0, .ref (a 52)), (1, .ref (a 31)), (2, .ref (b 0))]) (fun (y : Nat) => (gL cI cL (fun i => a (52 + i)) (lkF sx.2.2 gl.2.1 (fun b_ p_ => gvT gl b_ p_) gl.1.toNat lr.1 (jmin sx.2.1 16).toNat (gq 0), gvC gl lr.2 (jmin sx.2.1 16) (y : Int) 0) ++ gG cI (fun i => a (31 + i)) gl ++ gX cL b sx)) (fun (y : Nat) => (y : Int) ≤ gl.1) (fun (y : Nat) => gl.1.toNat - y) 0 (by omega) rfl rfl ?_
    intro y I_7 ih_8
    refine v_iload (j := 0) (x := jI (y : Int)) G dX1_countSets_46 rfl ?_
    refine v_aload_n (j := 3) (x := a 31) G dX1_countSets_48 rfl rfl ?_
    refine v_get (q0 := 3) (k := 0) (v := .int (jI gl.1)) G k_X0 rfl rfl (by decide) q_1 rfl rfl dX1_countSets_49 ?_
    refine v_icmp_ge (a := (y : Int)) (b := gl.1) (tgt := 97) G dX1_countSets_52 (by decide) (by omega) (fun c_9 => ?_) (fun c_9 => ?_)
    · skip
      obtain rfl : y = gl.1.toNat := by omega
      have hpw : 2 ^ gl.1.toNat ≤ 1024 := Nat.pow_le_pow_right (n := 2) (i := gl.1.toNat) (j := 10) (by omega) (by omega)
      have hpw1 : 1 ≤ 2 ^ gl.1.toNat := Nat.one_le_two_pow
      refine v_aload_n (j := 2) (x := a 52) G dX1_countSets_97 rfl rfl ?_
      refine v_iload_n (j := 1) (x := jI (jmin sx.2.1 16)) G dX1_countSets_98 rfl rfl ?_
      refine v_ciG (w2 := (fun _ => (gL cI cL (fun i => a (52 + i)) ((lkF sx.2.2 gl.2.1 (fun b_ p_ => gvT gl b_ p_) gl.1.toNat lr.1 (jmin sx.2.1 16).toNat (gq 0)), (gvC gl lr.2 (jmin sx.2.1 16) (gl.1.toNat : Int) 0)) ++ gG cI (fun i => a (31 + i)) gl ++ gX cL b sx))) G [gL cI cL (fun i => a (52 + i)) (lkF sx.2.2 gl.2.1 (fun b_ p_ => gvT gl b_ p_) gl.1.toNat lr.1 (jmin sx.2.1 16).toNat (gq 0), gvC gl lr.2 (jmin sx.2.1 16) (gl.1.toNat : Int) 0), gG cI (fun i => a (31 + i)) gl, gX cL b sx] [gL cI cL (fun i => a (52 + i)) (lkF sx.2.2 gl.2.1 (fun b_ p_ => gvT gl b_ p_) gl.1.toNat lr.1 (jmin sx.2.1 16).toNat (gq 0), gvC gl lr.2 (jmin sx.2.1 16) (gl.1.toNat : Int) 0)] [gG cI (fun i => a (31 + i)) gl, gX cL b sx] (fun _ => [gL cI cL (fun i => a (52 + i)) ((lkF sx.2.2 gl.2.1 (fun b_ p_ => gvT gl b_ p_) gl.1.toNat lr.1 (jmin sx.2.1 16).toNat (gq 0)), (gvC gl lr.2 (jmin sx.2.1 16) (gl.1.toNat : Int) 0)), gG cI (fun i => a (31 + i)) gl, gX cL b sx]) (fun _ => [gL cI cL (fun i => a (52 + i)) ((lkF sx.2.2 gl.2.1 (fun b_ p_ => gvT gl b_ p_) gl.1.toNat lr.1 (jmin sx.2.1 16).toNat (gq 0)), (gvC gl lr.2 (jmin sx.2.1 16) (gl.1.toNat : Int) 0))]) [0] (rn_V (As := [.int (jI (jmin sx.2.1 16))]) (rest := []) (q0 := 0) G (c_X1_isJust (n := jmin sx.2.1 16) (lr := (lkF sx.2.2 gl.2.1 (fun b_ p_ => gvT gl b_ p_) gl.1.toNat lr.1 (jmin sx.2.1 16).toNat (gq 0), gvC gl lr.2 (jmin sx.2.1 16) (gl.1.toNat : Int) 0)) (a := a) (hn := (by omega))) gX1_countSets_X1_isJust rfl hdX1_isJust ⟨rfl, rfl, Nat.le_of_ble_eq_true rfl, Nat.le_of_ble_eq_true rfl⟩ rfl rfl (Nat.le_of_ble_eq_true rfl) ⟨Nat.zero_le _, Nat.zero_le _⟩ rfl rfl dX1_countSets_99) rfl rfl rfl (fun _ => rfl) (fun _ => rfl) (fun _ => rfl) (fun r_10 u_12 e_11 => ?_)
      have e_11 : r_10 = jI (b2 (allZ (lkF sx.2.2 gl.2.1 (fun b_ p_ => gvT gl b_ p_) gl.1.toNat lr.1 (jmin sx.2.1 16).toNat (gq 0)) (jmin sx.2.1 16).toNat)) := e_11
      subst e_11
      refine v_world (ws' := (gL cI cL (fun i => a (52 + i)) ((lkF sx.2.2 gl.2.1 (fun b_ p_ => gvT gl b_ p_) gl.1.toNat lr.1 (jmin sx.2.1 16).toNat (gq 0)), (gvC gl lr.2 (jmin sx.2.1 16) (gl.1.toNat : Int) 0)) ++ gG cI (fun i => a (31 + i)) gl ++ gX cL b sx)) rfl ?_
      refine v_cut (pc' := 110) (lv' := [(4, .int (jI (gl.1.toNat : Int))), (3, .int (jI (jmin sx.2.1 16))), (0, .ref (a 52)), (1, .ref (a 31)), (2, .ref (b 0))]) (st' := [.int (jI (crN (fun m_ => allZ (lkF sx.2.2 gl.2.1 (fun b_ p_ => gvT gl b_ p_) gl.1.toNat lr.1 (jmin sx.2.1 16).toNat (gq m_)) (jmin sx.2.1 16).toNat) 1))]) (ws' := (gL cI cL (fun i => a (52 + i)) ((lkF sx.2.2 gl.2.1 (fun b_ p_ => gvT gl b_ p_) gl.1.toNat lr.1 (jmin sx.2.1 16).toNat (gq 0)), (gvC gl lr.2 (jmin sx.2.1 16) (gl.1.toNat : Int) 0)) ++ gG cI (fun i => a (31 + i)) gl ++ gX cL b sx)) ?_ (fun J_13 => ?_)
      · skip
        refine v_istore (lv' := [(4, .int (jI (crN (fun m_ => allZ (lkF sx.2.2 gl.2.1 (fun b_ p_ => gvT gl b_ p_) gl.1.toNat lr.1 (jmin sx.2.1 16).toNat (gq m_)) (jmin sx.2.1 16).toNat) 1))), (3, .int (jI (jmin sx.2.1 16))), (0, .ref (a 52)), (1, .ref (a 31)), (2, .ref (b 0))]) G dX1_countSets_110 (by decide) rfl ?_
        refine v_iconst G dX1_countSets_112 ?_
        refine v_istore (lv' := [(5, .int (jI 0)), (4, .int (jI (crN (fun m_ => allZ (lkF sx.2.2 gl.2.1 (fun b_ p_ => gvT gl b_ p_) gl.1.toNat lr.1 (jmin sx.2.1 16).toNat (gq m_)) (jmin sx.2.1 16).toNat) 1))), (3, .int (jI (jmin sx.2.1 16))), (0, .ref (a 52)), (1, .ref (a 31)), (2, .ref (b 0))]) G dX1_countSets_113 (by decide) rfl ?_
        refine v_iconst G dX1_countSets_115 ?_
        refine v_istore (lv' := [(6, .int (jI 1)), (5, .int (jI 0)), (4, .int (jI (crN (fun m_ => allZ (lkF sx.2.2 gl.2.1 (fun b_ p_ => gvT gl b_ p_) gl.1.toNat lr.1 (jmin sx.2.1 16).toNat (gq m_)) (jmin sx.2.1 16).toNat) 1))), (3, .int (jI (jmin sx.2.1 16))), (0, .ref (a 52)), (1, .ref (a 31)), (2, .ref (b 0))]) G dX1_countSets_116 (by decide) rfl ?_
        refine v_locs (lv' := [(6, .int (jI 1)), (5, .int (jI 0)), (4, .int (jI (crN (fun m_ => allZ (lkF sx.2.2 gl.2.1 (fun b_ p_ => gvT gl b_ p_) gl.1.toNat lr.1 (jmin sx.2.1 16).toNat (gq m_)) (jmin sx.2.1 16).toNat) 1))), (3, .int (jI (jmin sx.2.1 16))), (0, .ref (a 52)), (1, .ref (a 31)), (2, .ref (b 0))]) [0, 1, 2, 3, 4, 5, 6] rfl ?_
        refine v_loop1 (fun (m : Nat) => [(6, .int (jI ((m + 1 : Nat) : Int))), (5, .int (jI ((gq m : Nat) : Int))), (4, .int (jI (crN (fun m_ => allZ (lkF sx.2.2 gl.2.1 (fun b_ p_ => gvT gl b_ p_) gl.1.toNat lr.1 (jmin sx.2.1 16).toNat (gq m_)) (jmin sx.2.1 16).toNat) (m + 1)))), (3, .int (jI (jmin sx.2.1 16))), (0, .ref (a 52)), (1, .ref (a 31)), (2, .ref (b 0))]) (fun (m : Nat) => (gL cI cL (fun i => a (52 + i)) (lkF sx.2.2 gl.2.1 (fun b_ p_ => gvT gl b_ p_) gl.1.toNat lr.1 (jmin sx.2.1 16).toNat (gq m), (gvC gl lr.2 (jmin sx.2.1 16) (gl.1.toNat : Int) 0)) ++ gG cI (fun i => a (31 + i)) gl ++ gX cL b sx)) (fun (m : Nat) => m + 1 ≤ 2 ^ gl.1.toNat) (fun (m : Nat) => 2 ^ gl.1.toNat - m) 0 hpw1 rfl rfl ?_
        intro m I_14 ih_15
        refine v_iload (j := 0) (x := jI ((m + 1 : Nat) : Int)) G dX1_countSets_118 rfl ?_
        refine v_iconst G dX1_countSets_120 ?_
        refine v_aload_n (j := 5) (x := a 31) G dX1_countSets_121 rfl rfl ?_
        refine v_get (q0 := 3) (k := 0) (v := .int (jI gl.1)) G k_X0 rfl rfl (by decide) q_1 rfl rfl dX1_countSets_122 ?_
        refine v_ishl (v := (jI 1) <<< ((jI gl.1) &&& 31)) G dX1_countSets_125 rfl ?_
        refine v_top (x := (jI 1) <<< ((jI gl.1) &&& 31)) (y := jI ((2 ^ gl.1.toNat : Nat) : Int)) (by have e := pow_m gl.1.toNat (by omega); rw [Int.toNat_of_nonneg (by omega)] at e; exact e) ?_
        refine v_icmp_ge (a := ((m + 1 : Nat) : Int)) (b := ((2 ^ gl.1.toNat : Nat) : Int)) (tgt := 192) G dX1_countSets_126 (by decide) (by omega) (fun c_16 => ?_) (fun c_16 => ?_)
        · skip
          have hme : m + 1 = 2 ^ gl.1.toNat := by omega
          refine v_iload (j := 2) (x := jI (crN (fun m_ => allZ (lkF sx.2.2 gl.2.1 (fun b_ p_ => gvT gl b_ p_) gl.1.toNat lr.1 (jmin sx.2.1 16).toNat (gq m_)) (jmin sx.2.1 16).toNat) (m + 1))) G dX1_countSets_192 rfl ?_
          exact v_iret G (lkF sx.2.2 gl.2.1 (fun b_ p_ => gvT gl b_ p_) gl.1.toNat lr.1 (jmin sx.2.1 16).toNat (gq m), (gvC gl lr.2 (jmin sx.2.1 16) (gl.1.toNat : Int) 0)) ⟨congrArg (fun z => jI (crN (fun m_ => allZ (lkF sx.2.2 gl.2.1 (fun b_ p_ => gvT gl b_ p_) gl.1.toNat lr.1 (jmin sx.2.1 16).toNat (gq m_)) (jmin sx.2.1 16).toNat) z)) hme, trivial⟩ rfl dX1_countSets_194
        · skip
          obtain ⟨hg1, hg2, hg3, hg4, hg5⟩ := gq_tab m (by omega)
          have hg6 : (lbF ((m + 1 : Nat) : Int) 9 0) < gl.1.toNat := (Nat.pow_lt_pow_iff_right (a := 2) (by omega)).mp (Nat.lt_of_le_of_lt hg4 (by omega))
          refine v_iload (j := 0) (x := jI ((m + 1 : Nat) : Int)) G dX1_countSets_129 rfl ?_
          refine v_ciN G (rn_S (As := [.int (jI ((m + 1 : Nat) : Int))]) (rest := []) G (c_X1_lowestBit (z := ((m + 1 : Nat) : Int)) ) gX1_countSets_X1_lowestBit rfl hdX1_lowestBit ⟨rfl, rfl, Nat.le_of_ble_eq_true rfl, Nat.le_of_ble_eq_true rfl⟩ rfl rfl (Nat.le_of_ble_eq_true rfl) ⟨Nat.zero_le _, Nat.zero_le _⟩ dX1_countSets_131) (fun r_17 u_19 e_18 => ?_)
          have e_18 : r_17 = jI (lbF ((m + 1 : Nat) : Int) 9 0 : Int) := e_18
          subst e_18
          refine v_istore (lv' := [(7, .int (jI (lbF ((m + 1 : Nat) : Int) 9 0 : Int))), (6, .int (jI ((m + 1 : Nat) : Int))), (5, .int (jI ((gq m : Nat) : Int))), (4, .int (jI (crN (fun m_ => allZ (lkF sx.2.2 gl.2.1 (fun b_ p_ => gvT gl b_ p_) gl.1.toNat lr.1 (jmin sx.2.1 16).toNat (gq m_)) (jmin sx.2.1 16).toNat) (m + 1)))), (3, .int (jI (jmin sx.2.1 16))), (0, .ref (a 52)), (1, .ref (a 31)), (2, .ref (b 0))]) G dX1_countSets_134 (by decide) rfl ?_
          refine v_iload (j := 2) (x := jI ((gq m : Nat) : Int)) G dX1_countSets_136 rfl ?_
          refine v_iconst G dX1_countSets_138 ?_
          refine v_iload (j := 0) (x := jI (lbF ((m + 1 : Nat) : Int) 9 0 : Int)) G dX1_countSets_139 rfl ?_
          refine v_ishl (v := (jI 1) <<< ((jI (lbF ((m + 1 : Nat) : Int) 9 0 : Int)) &&& 31)) G dX1_countSets_141 rfl ?_
          refine v_ixor (v := (jI ((gq m : Nat) : Int)) ^^^ ((jI 1) <<< ((jI (lbF ((m + 1 : Nat) : Int) 9 0 : Int)) &&& 31))) G dX1_countSets_142 rfl ?_
          refine v_top (x := (jI ((gq m : Nat) : Int)) ^^^ ((jI 1) <<< ((jI (lbF ((m + 1 : Nat) : Int) 9 0 : Int)) &&& 31))) (y := jI ((gq (m + 1) : Nat) : Int)) hg1 ?_
          refine v_istore (lv' := [(5, .int (jI ((gq (m + 1) : Nat) : Int))), (7, .int (jI (lbF ((m + 1 : Nat) : Int) 9 0 : Int))), (6, .int (jI ((m + 1 : Nat) : Int))), (4, .int (jI (crN (fun m_ => allZ (lkF sx.2.2 gl.2.1 (fun b_ p_ => gvT gl b_ p_) gl.1.toNat lr.1 (jmin sx.2.1 16).toNat (gq m_)) (jmin sx.2.1 16).toNat) (m + 1)))), (3, .int (jI (jmin sx.2.1 16))), (0, .ref (a 52)), (1, .ref (a 31)), (2, .ref (b 0))]) G dX1_countSets_143 (by decide) rfl ?_
          refine v_aload_n (j := 5) (x := a 52) G dX1_countSets_145 rfl rfl ?_
          refine v_iload (j := 1) (x := jI (lbF ((m + 1 : Nat) : Int) 9 0 : Int)) G dX1_countSets_146 rfl ?_
          refine v_iload (j := 0) (x := jI ((gq (m + 1) : Nat) : Int)) G dX1_countSets_148 rfl ?_
          refine v_iload (j := 1) (x := jI (lbF ((m + 1 : Nat) : Int) 9 0 : Int)) G dX1_countSets_150 rfl ?_
          refine v_ishr (v := (jI ((gq (m + 1) : Nat) : Int)) >>> ((jI (lbF ((m + 1 : Nat) : Int) 9 0 : Int)) &&& 31)) G dX1_countSets_152 rfl ?_
          refine v_iconst G dX1_countSets_153 ?_
          refine v_iand (v := ((jI ((gq (m + 1) : Nat) : Int)) >>> ((jI (lbF ((m + 1 : Nat) : Int) 9 0 : Int)) &&& 31)) &&& (jI 1)) G dX1_countSets_154 rfl ?_
          refine v_iconst G dX1_countSets_155 ?_
          refine v_cut (pc' := 164) (lv' := [(5, .int (jI ((gq (m + 1) : Nat) : Int))), (7, .int (jI (lbF ((m + 1 : Nat) : Int) 9 0 : Int))), (6, .int (jI ((m + 1 : Nat) : Int))), (4, .int (jI (crN (fun m_ => allZ (lkF sx.2.2 gl.2.1 (fun b_ p_ => gvT gl b_ p_) gl.1.toNat lr.1 (jmin sx.2.1 16).toNat (gq m_)) (jmin sx.2.1 16).toNat) (m + 1)))), (3, .int (jI (jmin sx.2.1 16))), (0, .ref (a 52)), (1, .ref (a 31)), (2, .ref (b 0))]) (st' := [.int (jI (if (gq m).testBit (lbF ((m + 1 : Nat) : Int) 9 0) then 1 else -1)), .int (jI (lbF ((m + 1 : Nat) : Int) 9 0 : Int)), .ref (a 52)]) (ws' := (gL cI cL (fun i => a (52 + i)) (lkF sx.2.2 gl.2.1 (fun b_ p_ => gvT gl b_ p_) gl.1.toNat lr.1 (jmin sx.2.1 16).toNat (gq m), (gvC gl lr.2 (jmin sx.2.1 16) (gl.1.toNat : Int) 0)) ++ gG cI (fun i => a (31 + i)) gl ++ gX cL b sx)) ?_ (fun J_20 => ?_)
          · skip
            refine v_iload_n (j := 4) (x := jI (jmin sx.2.1 16)) G dX1_countSets_164 rfl rfl ?_
            refine v_cvG (w2 := (fun _ => (gL cI cL (fun i => a (52 + i)) (cpL (fun p_ => (lkF sx.2.2 gl.2.1 (fun b_ p_ => gvT gl b_ p_) gl.1.toNat lr.1 (jmin sx.2.1 16).toNat (gq m)) p_ + jL ((if (gq m).testBit (lbF ((m + 1 : Nat) : Int) 9 0) then 1 else -1) * (gvC gl lr.2 (jmin sx.2.1 16) (gl.1.toNat : Int) 0) ((lbF ((m + 1 : Nat) : Int) 9 0 : Int) * 16 + p_))) (lkF sx.2.2 gl.2.1 (fun b_ p_ => gvT gl b_ p_) gl.1.toNat lr.1 (jmin sx.2.1 16).toNat (gq m)) (jmin sx.2.1 16).toNat, (gvC gl lr.2 (jmin sx.2.1 16) (gl.1.toNat : Int) 0)) ++ gG cI (fun i => a (31 + i)) gl ++ gX cL b sx))) G [gL cI cL (fun i => a (52 + i)) (lkF sx.2.2 gl.2.1 (fun b_ p_ => gvT gl b_ p_) gl.1.toNat lr.1 (jmin sx.2.1 16).toNat (gq m), (gvC gl lr.2 (jmin sx.2.1 16) (gl.1.toNat : Int) 0)), gG cI (fun i => a (31 + i)) gl, gX cL b sx] [gL cI cL (fun i => a (52 + i)) (lkF sx.2.2 gl.2.1 (fun b_ p_ => gvT gl b_ p_) gl.1.toNat lr.1 (jmin sx.2.1 16).toNat (gq m), (gvC gl lr.2 (jmin sx.2.1 16) (gl.1.toNat : Int) 0))] [gG cI (fun i => a (31 + i)) gl, gX cL b sx] (fun _ => [gL cI cL (fun i => a (52 + i)) (cpL (fun p_ => (lkF sx.2.2 gl.2.1 (fun b_ p_ => gvT gl b_ p_) gl.1.toNat lr.1 (jmin sx.2.1 16).toNat (gq m)) p_ + jL ((if (gq m).testBit (lbF ((m + 1 : Nat) : Int) 9 0) then 1 else -1) * (gvC gl lr.2 (jmin sx.2.1 16) (gl.1.toNat : Int) 0) ((lbF ((m + 1 : Nat) : Int) 9 0 : Int) * 16 + p_))) (lkF sx.2.2 gl.2.1 (fun b_ p_ => gvT gl b_ p_) gl.1.toNat lr.1 (jmin sx.2.1 16).toNat (gq m)) (jmin sx.2.1 16).toNat, (gvC gl lr.2 (jmin sx.2.1 16) (gl.1.toNat : Int) 0)), gG cI (fun i => a (31 + i)) gl, gX cL b sx]) (fun _ => [gL cI cL (fun i => a (52 + i)) (cpL (fun p_ => (lkF sx.2.2 gl.2.1 (fun b_ p_ => gvT gl b_ p_) gl.1.toNat lr.1 (jmin sx.2.1 16).toNat (gq m)) p_ + jL ((if (gq m).testBit (lbF ((m + 1 : Nat) : Int) 9 0) then 1 else -1) * (gvC gl lr.2 (jmin sx.2.1 16) (gl.1.toNat : Int) 0) ((lbF ((m + 1 : Nat) : Int) 9 0 : Int) * 16 + p_))) (lkF sx.2.2 gl.2.1 (fun b_ p_ => gvT gl b_ p_) gl.1.toNat lr.1 (jmin sx.2.1 16).toNat (gq m)) (jmin sx.2.1 16).toNat, (gvC gl lr.2 (jmin sx.2.1 16) (gl.1.toNat : Int) 0))]) [0] (rn_V (As := [.int (jI (lbF ((m + 1 : Nat) : Int) 9 0 : Int)), .int (jI (if (gq m).testBit (lbF ((m + 1 : Nat) : Int) 9 0) then 1 else -1)), .int (jI (jmin sx.2.1 16))]) (rest := []) (q0 := 0) G (c_X1_change (z := (lbF ((m + 1 : Nat) : Int) 9 0 : Int)) (s := (if (gq m).testBit (lbF ((m + 1 : Nat) : Int) 9 0) then 1 else -1)) (n := jmin sx.2.1 16) (lr := (lkF sx.2.2 gl.2.1 (fun b_ p_ => gvT gl b_ p_) gl.1.toNat lr.1 (jmin sx.2.1 16).toNat (gq m), (gvC gl lr.2 (jmin sx.2.1 16) (gl.1.toNat : Int) 0))) (a := a) (hn := (by omega)) (hs := (by split <;> omega)) (hg := (fun j j0 j1 => by have e := gvC_v gl lr.2 (P := (jmin sx.2.1 16)) (n := (gl.1.toNat : Int)) (z := ((lbF ((m + 1 : Nat) : Int) 9 0) : Int)) (j := j) (by omega) (by omega); have r := gvT_r hg (b := ((lbF ((m + 1 : Nat) : Int) 9 0) : Int)) j (by omega) (by omega); rw [← e] at r; exact r))) gX1_countSets_X1_change rfl hdX1_change ⟨rfl, rfl, Nat.le_of_ble_eq_true rfl, Nat.le_of_ble_eq_true rfl⟩ rfl rfl (Nat.le_of_ble_eq_true rfl) ⟨Nat.zero_le _, Nat.zero_le _⟩ rfl rfl dX1_countSets_165) rfl rfl rfl (fun _ => rfl) (fun _ => rfl) (fun _ => rfl) (fun u_23 e_22 => ?_)
            refine v_world (ws' := (gL cI cL (fun i => a (52 + i)) (cpL (fun p_ => (lkF sx.2.2 gl.2.1 (fun b_ p_ => gvT gl b_ p_) gl.1.toNat lr.1 (jmin sx.2.1 16).toNat (gq m)) p_ + jL ((if (gq m).testBit (lbF ((m + 1 : Nat) : Int) 9 0) then 1 else -1) * (gvC gl lr.2 (jmin sx.2.1 16) (gl.1.toNat : Int) 0) ((lbF ((m + 1 : Nat) : Int) 9 0 : Int) * 16 + p_))) (lkF sx.2.2 gl.2.1 (fun b_ p_ => gvT gl b_ p_) gl.1.toNat lr.1 (jmin sx.2.1 16).toNat (gq m)) (jmin sx.2.1 16).toNat, (gvC gl lr.2 (jmin sx.2.1 16) (gl.1.toNat : Int) 0)) ++ gG cI (fun i => a (31 + i)) gl ++ gX cL b sx)) rfl ?_
            refine v_cellL (q0 := 1) (g := cpL (fun p_ => (lkF sx.2.2 gl.2.1 (fun b_ p_ => gvT gl b_ p_) gl.1.toNat lr.1 (jmin sx.2.1 16).toNat (gq m)) p_ + jL ((if (gq m).testBit (lbF ((m + 1 : Nat) : Int) 9 0) then 1 else -1) * (gvC gl lr.2 (jmin sx.2.1 16) (gl.1.toNat : Int) 0) ((lbF ((m + 1 : Nat) : Int) 9 0 : Int) * 16 + p_))) (lkF sx.2.2 gl.2.1 (fun b_ p_ => gvT gl b_ p_) gl.1.toNat lr.1 (jmin sx.2.1 16).toNat (gq m)) (jmin sx.2.1 16).toNat) (g' := lkF sx.2.2 gl.2.1 (fun b_ p_ => gvT gl b_ p_) gl.1.toNat lr.1 (jmin sx.2.1 16).toNat (gq (m + 1))) (ws' := (gL cI cL (fun i => a (52 + i)) (lkF sx.2.2 gl.2.1 (fun b_ p_ => gvT gl b_ p_) gl.1.toNat lr.1 (jmin sx.2.1 16).toNat (gq (m + 1)), (gvC gl lr.2 (jmin sx.2.1 16) (gl.1.toNat : Int) 0)) ++ gG cI (fun i => a (31 + i)) gl ++ gX cL b sx)) rfl (fun j h0 _ => by rw [hg3]; exact lk_s (P := (jmin sx.2.1 16).toNat) hg6 rfl (fun p p0 p1 => gvC_v gl lr.2 (P := (jmin sx.2.1 16)) (n := (gl.1.toNat : Int)) (by omega) (by omega)) j h0) rfl ?_
            refine v_iload (j := 3) (x := jI (crN (fun m_ => allZ (lkF sx.2.2 gl.2.1 (fun b_ p_ => gvT gl b_ p_) gl.1.toNat lr.1 (jmin sx.2.1 16).toNat (gq m_)) (jmin sx.2.1 16).toNat) (m + 1))) G dX1_countSets_168 rfl ?_
            refine v_aload_n (j := 5) (x := a 52) G dX1_countSets_170 rfl rfl ?_
            refine v_iload_n (j := 4) (x := jI (jmin sx.2.1 16)) G dX1_countSets_171 rfl rfl ?_
            refine v_ciG (w2 := (fun _ => (gL cI cL (fun i => a (52 + i)) ((lkF sx.2.2 gl.2.1 (fun b_ p_ => gvT gl b_ p_) gl.1.toNat lr.1 (jmin sx.2.1 16).toNat (gq (m + 1))), (gvC gl lr.2 (jmin sx.2.1 16) (gl.1.toNat : Int) 0)) ++ gG cI (fun i => a (31 + i)) gl ++ gX cL b sx))) G [gL cI cL (fun i => a (52 + i)) (lkF sx.2.2 gl.2.1 (fun b_ p_ => gvT gl b_ p_) gl.1.toNat lr.1 (jmin sx.2.1 16).toNat (gq (m + 1)), (gvC gl lr.2 (jmin sx.2.1 16) (gl.1.toNat : Int) 0)), gG cI (fun i => a (31 + i)) gl, gX cL b sx] [gL cI cL (fun i => a (52 + i)) (lkF sx.2.2 gl.2.1 (fun b_ p_ => gvT gl b_ p_) gl.1.toNat lr.1 (jmin sx.2.1 16).toNat (gq (m + 1)), (gvC gl lr.2 (jmin sx.2.1 16) (gl.1.toNat : Int) 0))] [gG cI (fun i => a (31 + i)) gl, gX cL b sx] (fun _ => [gL cI cL (fun i => a (52 + i)) ((lkF sx.2.2 gl.2.1 (fun b_ p_ => gvT gl b_ p_) gl.1.toNat lr.1 (jmin sx.2.1 16).toNat (gq (m + 1))), (gvC gl lr.2 (jmin sx.2.1 16) (gl.1.toNat : Int) 0)), gG cI (fun i => a (31 + i)) gl, gX cL b sx]) (fun _ => [gL cI cL (fun i => a (52 + i)) ((lkF sx.2.2 gl.2.1 (fun b_ p_ => gvT gl b_ p_) gl.1.toNat lr.1 (jmin sx.2.1 16).toNat (gq (m + 1))), (gvC gl lr.2 (jmin sx.2.1 16) (gl.1.toNat : Int) 0))]) [0] (rn_V (As := [.int (jI (jmin sx.2.1 16))]) (rest := [.int (jI (crN (fun m_ => allZ (lkF sx.2.2 gl.2.1 (fun b_ p_ => gvT gl b_ p_) gl.1.toNat lr.1 (jmin sx.2.1 16).toNat (gq m_)) (jmin sx.2.1 16).toNat) (m + 1)))]) (q0 := 0) G (c_X1_isJust (n := jmin sx.2.1 16) (lr := (lkF sx.2.2 gl.2.1 (fun b_ p_ => gvT gl b_ p_) gl.1.toNat lr.1 (jmin sx.2.1 16).toNat (gq (m + 1)), (gvC gl lr.2 (jmin sx.2.1 16) (gl.1.toNat : Int) 0))) (a := a) (hn := (by omega))) gX1_countSets_X1_isJust rfl hdX1_isJust ⟨rfl, rfl, Nat.le_of_ble_eq_true rfl, Nat.le_of_ble_eq_true rfl⟩ rfl rfl (Nat.le_of_ble_eq_true rfl) ⟨Nat.zero_le _, Nat.zero_le _⟩ rfl rfl dX1_countSets_172) rfl rfl rfl (fun _ => rfl) (fun _ => rfl) (fun _ => rfl) (fun r_24 u_26 e_25 => ?_)
            have e_25 : r_24 = jI (b2 (allZ (lkF sx.2.2 gl.2.1 (fun b_ p_ => gvT gl b_ p_) gl.1.toNat lr.1 (jmin sx.2.1 16).toNat (gq (m + 1))) (jmin sx.2.1 16).toNat)) := e_25
            subst e_25
            refine v_world (ws' := (gL cI cL (fun i => a (52 + i)) ((lkF sx.2.2 gl.2.1 (fun b_ p_ => gvT gl b_ p_) gl.1.toNat lr.1 (jmin sx.2.1 16).toNat (gq (m + 1))), (gvC gl lr.2 (jmin sx.2.1 16) (gl.1.toNat : Int) 0)) ++ gG cI (fun i => a (31 + i)) gl ++ gX cL b sx)) rfl ?_
            refine v_cut (pc' := 183) (lv' := [(5, .int (jI ((gq (m + 1) : Nat) : Int))), (7, .int (jI (lbF ((m + 1 : Nat) : Int) 9 0 : Int))), (6, .int (jI ((m + 1 : Nat) : Int))), (4, .int (jI (crN (fun m_ => allZ (lkF sx.2.2 gl.2.1 (fun b_ p_ => gvT gl b_ p_) gl.1.toNat lr.1 (jmin sx.2.1 16).toNat (gq m_)) (jmin sx.2.1 16).toNat) (m + 1)))), (3, .int (jI (jmin sx.2.1 16))), (0, .ref (a 52)), (1, .ref (a 31)), (2, .ref (b 0))]) (st' := [.int (jI (b2 ((fun m_ => allZ (lkF sx.2.2 gl.2.1 (fun b_ p_ => gvT gl b_ p_) gl.1.toNat lr.1 (jmin sx.2.1 16).toNat (gq m_)) (jmin sx.2.1 16).toNat) (m + 1)))), .int (jI (crN (fun m_ => allZ (lkF sx.2.2 gl.2.1 (fun b_ p_ => gvT gl b_ p_) gl.1.toNat lr.1 (jmin sx.2.1 16).toNat (gq m_)) (jmin sx.2.1 16).toNat) (m + 1)))]) (ws' := (gL cI cL (fun i => a (52 + i)) ((lkF sx.2.2 gl.2.1 (fun b_ p_ => gvT gl b_ p_) gl.1.toNat lr.1 (jmin sx.2.1 16).toNat (gq (m + 1))), (gvC gl lr.2 (jmin sx.2.1 16) (gl.1.toNat : Int) 0)) ++ gG cI (fun i => a (31 + i)) gl ++ gX cL b sx)) ?_ (fun J_27 => ?_)
            · skip
              refine v_iadd (z := (crN (fun m_ => allZ (lkF sx.2.2 gl.2.1 (fun b_ p_ => gvT gl b_ p_) gl.1.toNat lr.1 (jmin sx.2.1 16).toNat (gq m_)) (jmin sx.2.1 16).toNat) (m + 1)) + (b2 ((fun m_ => allZ (lkF sx.2.2 gl.2.1 (fun b_ p_ => gvT gl b_ p_) gl.1.toNat lr.1 (jmin sx.2.1 16).toNat (gq m_)) (jmin sx.2.1 16).toNat) (m + 1)))) G dX1_countSets_183 rfl ?_
              refine v_topj (x := (crN (fun m_ => allZ (lkF sx.2.2 gl.2.1 (fun b_ p_ => gvT gl b_ p_) gl.1.toNat lr.1 (jmin sx.2.1 16).toNat (gq m_)) (jmin sx.2.1 16).toNat) (m + 1)) + (b2 ((fun m_ => allZ (lkF sx.2.2 gl.2.1 (fun b_ p_ => gvT gl b_ p_) gl.1.toNat lr.1 (jmin sx.2.1 16).toNat (gq m_)) (jmin sx.2.1 16).toNat) (m + 1)))) (y := crN (fun m_ => allZ (lkF sx.2.2 gl.2.1 (fun b_ p_ => gvT gl b_ p_) gl.1.toNat lr.1 (jmin sx.2.1 16).toNat (gq m_)) (jmin sx.2.1 16).toNat) (m + 1 + 1)) rfl ?_
              refine v_istore (lv' := [(4, .int (jI (crN (fun m_ => allZ (lkF sx.2.2 gl.2.1 (fun b_ p_ => gvT gl b_ p_) gl.1.toNat lr.1 (jmin sx.2.1 16).toNat (gq m_)) (jmin sx.2.1 16).toNat) (m + 1 + 1)))), (5, .int (jI ((gq (m + 1) : Nat) : Int))), (7, .int (jI (lbF ((m + 1 : Nat) : Int) 9 0 : Int))), (6, .int (jI ((m + 1 : Nat) : Int))), (3, .int (jI (jmin sx.2.1 16))), (0, .ref (a 52)), (1, .ref (a 31)), (2, .ref (b 0))]) G dX1_countSets_184 (by decide) rfl ?_
              refine v_iinc (k := 3) (z := ((m + 1 : Nat) : Int)) (z' := ((m + 1 + 1 : Nat) : Int)) (lv' := [(6, .int (jI ((m + 1 + 1 : Nat) : Int))), (4, .int (jI (crN (fun m_ => allZ (lkF sx.2.2 gl.2.1 (fun b_ p_ => gvT gl b_ p_) gl.1.toNat lr.1 (jmin sx.2.1 16).toNat (gq m_)) (jmin sx.2.1 16).toNat) (m + 1 + 1)))), (5, .int (jI ((gq (m + 1) : Nat) : Int))), (7, .int (jI (lbF ((m + 1 : Nat) : Int) 9 0 : Int))), (3, .int (jI (jmin sx.2.1 16))), (0, .ref (a 52)), (1, .ref (a 31)), (2, .ref (b 0))]) G dX1_countSets_186 rfl (by omega) (by decide) rfl ?_
              refine v_goto (tgt := 118) G dX1_countSets_189 (by decide) ?_
              refine v_locs (lv' := [(6, .int (jI ((m + 1 + 1 : Nat) : Int))), (5, .int (jI ((gq (m + 1) : Nat) : Int))), (4, .int (jI (crN (fun m_ => allZ (lkF sx.2.2 gl.2.1 (fun b_ p_ => gvT gl b_ p_) gl.1.toNat lr.1 (jmin sx.2.1 16).toNat (gq m_)) (jmin sx.2.1 16).toNat) (m + 1 + 1)))), (3, .int (jI (jmin sx.2.1 16))), (0, .ref (a 52)), (1, .ref (a 31)), (2, .ref (b 0))]) [0, 2, 1, 4, 5, 6, 7] rfl ?_
              exact ih_15 (m + 1) (by omega) (by omega)
            · skip
              refine v_ifb_eq (P := allZ (lkF sx.2.2 gl.2.1 (fun b_ p_ => gvT gl b_ p_) gl.1.toNat lr.1 (jmin sx.2.1 16).toNat (gq (m + 1))) (jmin sx.2.1 16).toNat) (tgt := 182) G dX1_countSets_175 (by decide) (fun c_28 => ?_) (fun c_28 => ?_)
              · skip
                refine v_iconst G dX1_countSets_182 ?_
                refine v_topj (x := 0) (y := b2 ((fun m_ => allZ (lkF sx.2.2 gl.2.1 (fun b_ p_ => gvT gl b_ p_) gl.1.toNat lr.1 (jmin sx.2.1 16).toNat (gq m_)) (jmin sx.2.1 16).toNat) (m + 1))) (b2_f (P := (fun m_ => allZ (lkF sx.2.2 gl.2.1 (fun b_ p_ => gvT gl b_ p_) gl.1.toNat lr.1 (jmin sx.2.1 16).toNat (gq m_)) (jmin sx.2.1 16).toNat) (m + 1)) (by assumption)).symm ?_
                exact J_27
              · skip
                refine v_iconst G dX1_countSets_178 ?_
                refine v_goto (tgt := 183) G dX1_countSets_179 (by decide) ?_
                refine v_topj (x := 1) (y := b2 ((fun m_ => allZ (lkF sx.2.2 gl.2.1 (fun b_ p_ => gvT gl b_ p_) gl.1.toNat lr.1 (jmin sx.2.1 16).toNat (gq m_)) (jmin sx.2.1 16).toNat) (m + 1))) (b2_t (P := (fun m_ => allZ (lkF sx.2.2 gl.2.1 (fun b_ p_ => gvT gl b_ p_) gl.1.toNat lr.1 (jmin sx.2.1 16).toNat (gq m_)) (jmin sx.2.1 16).toNat) (m + 1)) (by assumption)).symm ?_
                exact J_27
          · skip
            refine v_ricmp_ne (tgt := 163) G dX1_countSets_156 (by decide) (fun c_29 => ?_) (fun c_29 => ?_)
            · skip
              refine v_iconst G dX1_countSets_163 ?_
              refine v_topj (x := 1) (y := (if (gq m).testBit (lbF ((m + 1 : Nat) : Int) 9 0) then 1 else -1)) (by rw [if_pos (by by_cases q : (gq m).testBit (lbF ((m + 1 : Nat) : Int) 9 0) = true; exact q; exact absurd (hg2.mpr (Bool.eq_false_iff.mpr q)) (by assumption))]) ?_
              exact J_20
            · skip
              refine v_iconst G dX1_countSets_159 ?_
              refine v_goto (tgt := 164) G dX1_countSets_160 (by decide) ?_
              refine v_topj (x := (-1)) (y := (if (gq m).testBit (lbF ((m + 1 : Nat) : Int) 9 0) then 1 else -1)) (by rw [if_neg (by have := hg2.mp (by assumption); rw [this]; exact Bool.false_ne_true)]) ?_
              exact J_20
      · skip
        refine v_ifb_eq (P := allZ (lkF sx.2.2 gl.2.1 (fun b_ p_ => gvT gl b_ p_) gl.1.toNat lr.1 (jmin sx.2.1 16).toNat (gq 0)) (jmin sx.2.1 16).toNat) (tgt := 109) G dX1_countSets_102 (by decide) (fun c_30 => ?_) (fun c_30 => ?_)
        · skip
          refine v_iconst G dX1_countSets_109 ?_
          refine v_topj (x := 0) (y := crN (fun m_ => allZ (lkF sx.2.2 gl.2.1 (fun b_ p_ => gvT gl b_ p_) gl.1.toNat lr.1 (jmin sx.2.1 16).toNat (gq m_)) (jmin sx.2.1 16).toNat) 1) (by exact (crN_f (by assumption)).symm) ?_
          exact J_13
        · skip
          refine v_iconst G dX1_countSets_105 ?_
          refine v_goto (tgt := 110) G dX1_countSets_106 (by decide) ?_
          refine v_topj (x := 1) (y := crN (fun m_ => allZ (lkF sx.2.2 gl.2.1 (fun b_ p_ => gvT gl b_ p_) gl.1.toNat lr.1 (jmin sx.2.1 16).toNat (gq m_)) (jmin sx.2.1 16).toNat) 1) (by exact (crN_t (by assumption)).symm) ?_
          exact J_13
    · skip
      refine v_cell (q0 := 2) (g := gvC gl lr.2 (jmin sx.2.1 16) (y : Int) 0) (g' := gvC gl lr.2 (jmin sx.2.1 16) (y : Int) ((0 : Nat) : Int)) (ws' := (gL cI cL (fun i => a (52 + i)) (lkF sx.2.2 gl.2.1 (fun b_ p_ => gvT gl b_ p_) gl.1.toNat lr.1 (jmin sx.2.1 16).toNat (gq 0), gvC gl lr.2 (jmin sx.2.1 16) (y : Int) ((0 : Nat) : Int)) ++ gG cI (fun i => a (31 + i)) gl ++ gX cL b sx)) rfl (fun j h0 _ => rfl) rfl ?_
      refine v_iconst G dX1_countSets_55 ?_
      refine v_istore (lv' := [(5, .int (jI 0)), (4, .int (jI (y : Int))), (3, .int (jI (jmin sx.2.1 16))), (0, .ref (a 52)), (1, .ref (a 31)), (2, .ref (b 0))]) G dX1_countSets_56 (by decide) rfl ?_
      refine v_locs (lv' := [(5, .int (jI 0)), (4, .int (jI (y : Int))), (3, .int (jI (jmin sx.2.1 16))), (0, .ref (a 52)), (1, .ref (a 31)), (2, .ref (b 0))]) [0, 1, 2, 3, 4, 5] rfl ?_
      refine v_loop1 (fun (v : Nat) => [(5, .int (jI (v : Int))), (4, .int (jI (y : Int))), (3, .int (jI (jmin sx.2.1 16))), (0, .ref (a 52)), (1, .ref (a 31)), (2, .ref (b 0))]) (fun (v : Nat) => (gL cI cL (fun i => a (52 + i)) (lkF sx.2.2 gl.2.1 (fun b_ p_ => gvT gl b_ p_) gl.1.toNat lr.1 (jmin sx.2.1 16).toNat (gq 0), gvC gl lr.2 (jmin sx.2.1 16) (y : Int) (v : Int)) ++ gG cI (fun i => a (31 + i)) gl ++ gX cL b sx)) (fun (v : Nat) => (v : Int) ≤ (jmin sx.2.1 16)) (fun (v : Nat) => (jmin sx.2.1 16).toNat - v) 0 (by omega) rfl rfl ?_
      intro v I_31 ih_32
      refine v_iload (j := 0) (x := jI (v : Int)) G dX1_countSets_58 rfl ?_
      refine v_iload_n (j := 2) (x := jI (jmin sx.2.1 16)) G dX1_countSets_60 rfl rfl ?_
      refine v_icmp_ge (a := (v : Int)) (b := jmin sx.2.1 16) (tgt := 91) G dX1_countSets_61 (by decide) (by omega) (fun c_33 => ?_) (fun c_33 => ?_)
      · skip
        obtain rfl : v = (jmin sx.2.1 16).toNat := by omega
        refine v_cell (q0 := 2) (g := gvC gl lr.2 (jmin sx.2.1 16) (y : Int) (((jmin sx.2.1 16).toNat) : Int)) (g' := gvC gl lr.2 (jmin sx.2.1 16) ((y + 1 : Nat) : Int) 0) (ws' := (gL cI cL (fun i => a (52 + i)) (lkF sx.2.2 gl.2.1 (fun b_ p_ => gvT gl b_ p_) gl.1.toNat lr.1 (jmin sx.2.1 16).toNat (gq 0), gvC gl lr.2 (jmin sx.2.1 16) ((y + 1 : Nat) : Int) 0) ++ gG cI (fun i => a (31 + i)) gl ++ gX cL b sx)) rfl (fun j h0 _ => gvC_e gl lr.2 (by omega) (by omega) (by omega) j) rfl ?_
        refine v_iinc (k := 1) (z := (y : Int)) (z' := ((y + 1 : Nat) : Int)) (lv' := [(4, .int (jI ((y + 1 : Nat) : Int))), (5, .int (jI (((jmin sx.2.1 16).toNat) : Int))), (3, .int (jI (jmin sx.2.1 16))), (0, .ref (a 52)), (1, .ref (a 31)), (2, .ref (b 0))]) G dX1_countSets_91 rfl (by omega) (by decide) rfl ?_
        refine v_goto (tgt := 46) G dX1_countSets_94 (by decide) ?_
        refine v_locs (lv' := [(4, .int (jI ((y + 1 : Nat) : Int))), (3, .int (jI (jmin sx.2.1 16))), (0, .ref (a 52)), (1, .ref (a 31)), (2, .ref (b 0))]) [0, 2, 3, 4, 5] rfl ?_
        exact ih_8 (y + 1) (by omega) (by omega)
      · skip
        refine v_aload_n (j := 3) (x := a 52) G dX1_countSets_64 rfl rfl ?_
        refine v_get (q0 := 0) (k := 1) (v := .ref (a 54)) G k_X1 rfl rfl (by decide) q_3 rfl rfl dX1_countSets_65 ?_
        refine v_iload (j := 1) (x := jI (y : Int)) G dX1_countSets_68 rfl ?_
        refine v_bipush G dX1_countSets_70 (by decide) ?_
        refine v_imul (z := (y : Int) * 16) G dX1_countSets_72 rfl ?_
        refine v_iload (j := 0) (x := jI (v : Int)) G dX1_countSets_73 rfl ?_
        refine v_iadd (z := ((y : Int) * 16) + (v : Int)) G dX1_countSets_75 rfl ?_
        refine v_aload_n (j := 4) (x := a 31) G dX1_countSets_76 rfl rfl ?_
        refine v_iload (j := 1) (x := jI (y : Int)) G dX1_countSets_77 rfl ?_
        refine v_iload (j := 0) (x := jI (v : Int)) G dX1_countSets_79 rfl ?_
        refine v_ciG (w2 := (fun _ => (gL cI cL (fun i => a (52 + i)) (lkF sx.2.2 gl.2.1 (fun b_ p_ => gvT gl b_ p_) gl.1.toNat lr.1 (jmin sx.2.1 16).toNat (gq 0), gvC gl lr.2 (jmin sx.2.1 16) (y : Int) (v : Int)) ++ gG cI (fun i => a (31 + i)) gl ++ gX cL b sx))) G [gL cI cL (fun i => a (52 + i)) (lkF sx.2.2 gl.2.1 (fun b_ p_ => gvT gl b_ p_) gl.1.toNat lr.1 (jmin sx.2.1 16).toNat (gq 0), gvC gl lr.2 (jmin sx.2.1 16) (y : Int) (v : Int)), gG cI (fun i => a (31 + i)) gl, gX cL b sx] [gG cI (fun i => a (31 + i)) gl] [gL cI cL (fun i => a (52 + i)) (lkF sx.2.2 gl.2.1 (fun b_ p_ => gvT gl b_ p_) gl.1.toNat lr.1 (jmin sx.2.1 16).toNat (gq 0), gvC gl lr.2 (jmin sx.2.1 16) (y : Int) (v : Int)), gX cL b sx] (fun _ => [gL cI cL (fun i => a (52 + i)) (lkF sx.2.2 gl.2.1 (fun b_ p_ => gvT gl b_ p_) gl.1.toNat lr.1 (jmin sx.2.1 16).toNat (gq 0), gvC gl lr.2 (jmin sx.2.1 16) (y : Int) (v : Int)), gG cI (fun i => a (31 + i)) gl, gX cL b sx]) (fun _ => [gG cI (fun i => a (31 + i)) gl]) [1] (rn_V (As := [.int (jI (y : Int)), .int (jI (v : Int))]) (rest := [.int (jI (((y : Int) * 16) + (v : Int))), .ref (a 54)]) (q0 := 0) G (c_X0_givesTo (z := (y : Int)) (p := (v : Int)) (g := gl) (c := fun i => a (31 + i)) (hg := hg) (hz := (by omega))) gX1_countSets_X0_givesTo rfl hdX0_givesTo ⟨rfl, rfl, Nat.le_of_ble_eq_true rfl, Nat.le_of_ble_eq_true rfl⟩ rfl rfl (Nat.le_of_ble_eq_true rfl) ⟨Nat.zero_le _, Nat.zero_le _⟩ rfl rfl dX1_countSets_81) rfl rfl rfl (fun _ => rfl) (fun _ => rfl) (fun _ => rfl) (fun r_34 u_36 e_35 => ?_)
        have e_35 : r_34 = jI (gvT gl (y : Int) (v : Int)) := e_35
        subst e_35
        refine v_world (ws' := (gL cI cL (fun i => a (52 + i)) (lkF sx.2.2 gl.2.1 (fun b_ p_ => gvT gl b_ p_) gl.1.toNat lr.1 (jmin sx.2.1 16).toNat (gq 0), gvC gl lr.2 (jmin sx.2.1 16) (y : Int) (v : Int)) ++ gG cI (fun i => a (31 + i)) gl ++ gX cL b sx)) rfl ?_
        refine v_iast (q0 := 2) (t0 := 0) (g := gvC gl lr.2 (jmin sx.2.1 16) (y : Int) (v : Int)) (z := ((y : Int) * 16) + (v : Int)) (x := gvT gl (y : Int) (v : Int)) (ws' := (gL cI cL (fun i => a (52 + i)) (lkF sx.2.2 gl.2.1 (fun b_ p_ => gvT gl b_ p_) gl.1.toNat lr.1 (jmin sx.2.1 16).toNat (gq 0), uI (gvC gl lr.2 (jmin sx.2.1 16) (y : Int) (v : Int)) (((y : Int) * 16) + (v : Int)) (gvT gl (y : Int) (v : Int))) ++ gG cI (fun i => a (31 + i)) gl ++ gX cL b sx)) G rfl rfl (by omega) rfl dX1_countSets_84 ?_
        refine v_cell (q0 := 2) (g := uI (gvC gl lr.2 (jmin sx.2.1 16) (y : Int) (v : Int)) (((y : Int) * 16) + (v : Int)) (gvT gl (y : Int) (v : Int))) (g' := gvC gl lr.2 (jmin sx.2.1 16) (y : Int) ((v + 1 : Nat) : Int)) (ws' := (gL cI cL (fun i => a (52 + i)) (lkF sx.2.2 gl.2.1 (fun b_ p_ => gvT gl b_ p_) gl.1.toNat lr.1 (jmin sx.2.1 16).toNat (gq 0), gvC gl lr.2 (jmin sx.2.1 16) (y : Int) ((v + 1 : Nat) : Int)) ++ gG cI (fun i => a (31 + i)) gl ++ gX cL b sx)) rfl (fun j h0 _ => gvC_s gl lr.2 (by omega) (by omega) (by omega) j) rfl ?_
        refine v_iinc (k := 0) (z := (v : Int)) (z' := ((v + 1 : Nat) : Int)) (lv' := [(5, .int (jI ((v + 1 : Nat) : Int))), (4, .int (jI (y : Int))), (3, .int (jI (jmin sx.2.1 16))), (0, .ref (a 52)), (1, .ref (a 31)), (2, .ref (b 0))]) G dX1_countSets_85 rfl (by omega) (by decide) rfl ?_
        refine v_goto (tgt := 58) G dX1_countSets_88 (by decide) ?_
        exact ih_32 (v + 1) (by omega) (by omega)
  · skip
    refine v_aload_n (j := 2) (x := a 52) G dX1_countSets_14 rfl rfl ?_
    refine v_get (q0 := 0) (k := 0) (v := .ref (a 53)) G k_X1 rfl rfl (by decide) q_4 rfl rfl dX1_countSets_15 ?_
    refine v_iload (j := 0) (x := jI (k : Int)) G dX1_countSets_18 rfl ?_
    refine v_aload_n (j := 4) (x := b 0) G dX1_countSets_20 rfl rfl ?_
    refine v_get (q0 := 8) (k := 2) (v := .ref (b 1)) G k_X3 rfl rfl (by decide) q_6 rfl rfl dX1_countSets_21 ?_
    refine v_iload (j := 0) (x := jI (k : Int)) G dX1_countSets_24 rfl ?_
    refine v_lald (q0 := 9) (t0 := 1) (g := sx.2.2) (z := (k : Int)) G rfl rfl (by omega) dX1_countSets_26 ?_
    refine v_aload_n (j := 3) (x := a 31) G dX1_countSets_27 rfl rfl ?_
    refine v_get (q0 := 3) (k := 1) (v := .ref (a 32)) G k_X0 rfl rfl (by decide) q_7 rfl rfl dX1_countSets_28 ?_
    refine v_iload (j := 0) (x := jI (k : Int)) G dX1_countSets_31 rfl ?_
    refine v_iald (q0 := 4) (t0 := 0) (g := gl.2.1) (z := (k : Int)) G rfl rfl (by omega) dX1_countSets_33 ?_
    have hbk := hg.2.1 (k : Int) (by omega) (by omega)
    refine v_i2l (v := jL (gl.2.1 (k : Int))) G dX1_countSets_34 (jI_i2l (by omega)) ?_
    refine v_lsub (v := (sx.2.2 (k : Int)) - (jL (gl.2.1 (k : Int)))) G dX1_countSets_35 rfl ?_
    refine v_last (q0 := 1) (t0 := 1) (g := cpL (fun p_ => sx.2.2 p_ - jL (gl.2.1 p_)) lr.1 k) (z := (k : Int)) (x := (sx.2.2 (k : Int)) - (jL (gl.2.1 (k : Int)))) (ws' := (gL cI cL (fun i => a (52 + i)) (uL (cpL (fun p_ => sx.2.2 p_ - jL (gl.2.1 p_)) lr.1 k) (k : Int) ((sx.2.2 (k : Int)) - (jL (gl.2.1 (k : Int)))), lr.2) ++ gG cI (fun i => a (31 + i)) gl ++ gX cL b sx)) G rfl rfl (by omega) rfl dX1_countSets_36 ?_
    refine v_cellL (q0 := 1) (g := uL (cpL (fun p_ => sx.2.2 p_ - jL (gl.2.1 p_)) lr.1 k) (k : Int) ((sx.2.2 (k : Int)) - (jL (gl.2.1 (k : Int))))) (g' := cpL (fun p_ => sx.2.2 p_ - jL (gl.2.1 p_)) lr.1 (k + 1)) (ws' := (gL cI cL (fun i => a (52 + i)) (cpL (fun p_ => sx.2.2 p_ - jL (gl.2.1 p_)) lr.1 (k + 1), lr.2) ++ gG cI (fun i => a (31 + i)) gl ++ gX cL b sx)) rfl (fun j h0 _ => cpL_s (fun p_ => sx.2.2 p_ - jL (gl.2.1 p_)) lr.1 k j h0) rfl ?_
    refine v_iinc (k := 0) (z := (k : Int)) (z' := ((k + 1 : Nat) : Int)) (lv' := [(4, .int (jI ((k + 1 : Nat) : Int))), (3, .int (jI (jmin sx.2.1 16))), (0, .ref (a 52)), (1, .ref (a 31)), (2, .ref (b 0))]) G dX1_countSets_37 rfl (by omega) (by decide) rfl ?_
    refine v_goto (tgt := 8) G dX1_countSets_40 (by decide) ?_
    exact ih_5 (k + 1) (by omega) (by omega)

set_option maxHeartbeats 40000000 in
set_option maxRecDepth 100000 in
theorem c_X8_read (k : Int) (hw : Wc wd) (hx0 : Sx s0) (hx1 : Sx s1) (hx2 : Sx s2) (hx3 : Sx s3) (hr : (-2147483648 ≤ k ∧ k ≤ 2147483647)) : Ci l yX8_read wsX8_read { frames := 4, cells := 0, slots := 0, locals := 92 } D (jT cI cL cB cS) [.ref (a 0), .int (jI k)] (gS  a ks ++ gF cI a fd ++ gH cS a  ++ gX cL (fun i => a (44 + i)) s0 ++ gX cL (fun i => a (46 + i)) s1 ++ gX cL (fun i => a (48 + i)) s2 ++ gX cL (fun i => a (50 + i)) s3 ++ gW cI (fun i => a (1 + i)) wd ++ gG cI (fun i => a (31 + i)) gl ++ gL cI cL (fun i => a (52 + i)) lr) (S := (Int → Int) × GT × ((Int → Int64) × (Int → Int))) (fun u => (gS  a ks ++ gF cI a u.1 ++ gH cS a  ++ gX cL (fun i => a (44 + i)) s0 ++ gX cL (fun i => a (46 + i)) s1 ++ gX cL (fun i => a (48 + i)) s2 ++ gX cL (fun i => a (50 + i)) s3 ++ gW cI (fun i => a (1 + i)) wd ++ gG cI (fun i => a (31 + i)) u.2.1 ++ gL cI cL (fun i => a (52 + i)) u.2.2)) (fun r u => ((¬ (0 ≤ k ∧ k ≤ 3)) ∧ r = jI (-1000000001) ∧ u.1 = uI fd 0 (fd 0 + 1)) ∨ ((k = 0 ∧ s0.1 = 0) ∧ r = jI (-1000000006) ∧ u.1 = uI fd 5 (fd 5 + 1)) ∨ ((k = 0 ∧ s0.1 ≠ 0) ∧ r = jI (crN (fun m_ => allZ (lkF s0.2.2 (glS wd 0 gl).2.1 (fun b_ p_ => gvT (glS wd 0 gl) b_ p_) (glS wd 0 gl).1.toNat lr.1 (jmin s0.2.1 16).toNat (gq m_)) (jmin s0.2.1 16).toNat) (2 ^ wd.2.2.1.toNat)) ∧ u.1 = fd) ∨ ((k = 1 ∧ s1.1 = 0) ∧ r = jI (-1000000006) ∧ u.1 = uI fd 5 (fd 5 + 1)) ∨ ((k = 1 ∧ s1.1 ≠ 0) ∧ r = jI (crN (fun m_ => allZ (lkF s1.2.2 (glS wd 0 gl).2.1 (fun b_ p_ => gvT (glS wd 0 gl) b_ p_) (glS wd 0 gl).1.toNat lr.1 (jmin s1.2.1 16).toNat (gq m_)) (jmin s1.2.1 16).toNat) (2 ^ wd.2.2.1.toNat)) ∧ u.1 = fd) ∨ ((k = 2 ∧ s2.1 = 0) ∧ r = jI (-1000000006) ∧ u.1 = uI fd 5 (fd 5 + 1)) ∨ ((k = 2 ∧ s2.1 ≠ 0) ∧ r = jI (crN (fun m_ => allZ (lkF s2.2.2 (glS wd 0 gl).2.1 (fun b_ p_ => gvT (glS wd 0 gl) b_ p_) (glS wd 0 gl).1.toNat lr.1 (jmin s2.2.1 16).toNat (gq m_)) (jmin s2.2.1 16).toNat) (2 ^ wd.2.2.1.toNat)) ∧ u.1 = fd) ∨ ((k = 3 ∧ s3.1 = 0) ∧ r = jI (-1000000006) ∧ u.1 = uI fd 5 (fd 5 + 1)) ∨ ((k = 3 ∧ s3.1 ≠ 0) ∧ r = jI (crN (fun m_ => allZ (lkF s3.2.2 (glS wd 0 gl).2.1 (fun b_ p_ => gvT (glS wd 0 gl) b_ p_) (glS wd 0 gl).1.toNat lr.1 (jmin s3.2.1 16).toNat (gq m_)) (jmin s3.2.1 16).toNat) (2 ^ wd.2.2.1.toNat)) ∧ u.1 = fd)) := by
  refine Ci.mk (cc := cX8_read) (maxL := 2) (rt := .int) (by decide) rfl (Nat.le_of_ble_eq_true rfl) rfl ?_
  intro p_ e_ s_ m_ b_ me_ c_ A_ G hnm
  have hm := hw.many
  have hmt := hw.tasks
  have hh := hw.hour
  obtain ⟨hb0, hz0⟩ := id hx0
  obtain ⟨hb1, hz1⟩ := id hx1
  obtain ⟨hb2, hz2⟩ := id hx2
  obtain ⟨hb3, hz3⟩ := id hx3
  have k_X8 : ∀ w ∈ u_ws RX8 TX8 12, w ∈ wsX8_read := fun _ h => List.mem_cons_of_mem _ (List.mem_append_left _ (List.mem_append_left _ (List.mem_append_left _ (List.mem_append_left _ (List.mem_append_right _ h)))))
  have q_1 : Cond.fieldLink RX8 49 "SupperLight" "sheets" "[LSupperLight$Sheet;" ∈ wsX8_read := List.mem_of_getElem? (i := 2) rfl
  have q_2 : Cond.fieldLink RX8 29 "SupperLight" "glow" "LSupperLight$Glow;" ∈ wsX8_read := List.mem_of_getElem? (i := 4) rfl
  have q_3 : Cond.fieldLink RX8 10 "SupperLight" "world" "LSupperLight$World;" ∈ wsX8_read := List.mem_of_getElem? (i := 5) rfl
  have q_4 : Cond.fieldLink RX8 57 "SupperLight" "lightReader" "LSupperLight$LightReader;" ∈ wsX8_read := List.mem_of_getElem? (i := 6) rfl
  have q_5 : Cond.constant RX8 275 (-1000000006) ∈ wsX8_read := List.mem_of_getElem? (i := 3) rfl
  have q_6 : Cond.constant RX8 83 (-1000000001) ∈ wsX8_read := List.mem_of_getElem? (i := 1) rfl
  refine v_iload_n (j := 1) (x := jI k) G dX8_read_0 rfl rfl ?_
  refine v_ciN G (rn_S (As := [.int (jI k)]) (rest := []) G (c_X8_isSheet (k := k) (hr := (by omega))) gX8_read_X8_isSheet rfl hdX8_isSheet ⟨rfl, rfl, Nat.le_of_ble_eq_true rfl, Nat.le_of_ble_eq_true rfl⟩ rfl rfl (Nat.le_of_ble_eq_true rfl) ⟨Nat.zero_le _, Nat.zero_le _⟩ dX8_read_1) (fun r_1 u_3 e_2 => ?_)
  have e_2 : r_1 = jI (b2 (0 ≤ k ∧ k ≤ 3)) := e_2
  subst e_2
  refine v_ifb_ne (P := 0 ≤ k ∧ k ≤ 3) (tgt := 14) G dX8_read_4 (by decide) (fun c_4 => ?_) (fun c_4 => ?_)
  · skip
    rcases (show k = 0 ∨ k = 1 ∨ k = 2 ∨ k = 3 by omega) with rfl | rfl | rfl | rfl
    · skip
      refine v_aload_n (j := 0) (x := a 0) G dX8_read_14 rfl rfl ?_
      refine v_get (q0 := 0) (k := 7) (v := .ref (a 43)) G k_X8 rfl rfl (by decide) q_1 rfl rfl dX8_read_15 ?_
      refine v_iload_n (j := 1) (x := jI 0) G dX8_read_18 rfl rfl ?_
      refine v_aald (q0 := 2) (t0 := 3) (y := a 44) (z := 0) G rfl rfl (by omega) rfl dX8_read_19 ?_
      refine v_ciG (w2 := (fun _ => (gS  a ks ++ gF cI a fd ++ gH cS a  ++ gX cL (fun i => a (44 + i)) s0 ++ gX cL (fun i => a (46 + i)) s1 ++ gX cL (fun i => a (48 + i)) s2 ++ gX cL (fun i => a (50 + i)) s3 ++ gW cI (fun i => a (1 + i)) wd ++ gG cI (fun i => a (31 + i)) gl ++ gL cI cL (fun i => a (52 + i)) lr))) G [gS  a ks, gF cI a fd, gH cS a , gX cL (fun i => a (44 + i)) s0, gX cL (fun i => a (46 + i)) s1, gX cL (fun i => a (48 + i)) s2, gX cL (fun i => a (50 + i)) s3, gW cI (fun i => a (1 + i)) wd, gG cI (fun i => a (31 + i)) gl, gL cI cL (fun i => a (52 + i)) lr] [gX cL (fun i => a (44 + i)) s0] [gS  a ks, gF cI a fd, gH cS a , gX cL (fun i => a (46 + i)) s1, gX cL (fun i => a (48 + i)) s2, gX cL (fun i => a (50 + i)) s3, gW cI (fun i => a (1 + i)) wd, gG cI (fun i => a (31 + i)) gl, gL cI cL (fun i => a (52 + i)) lr] (fun _ => [gS  a ks, gF cI a fd, gH cS a , gX cL (fun i => a (44 + i)) s0, gX cL (fun i => a (46 + i)) s1, gX cL (fun i => a (48 + i)) s2, gX cL (fun i => a (50 + i)) s3, gW cI (fun i => a (1 + i)) wd, gG cI (fun i => a (31 + i)) gl, gL cI cL (fun i => a (52 + i)) lr]) (fun _ => [gX cL (fun i => a (44 + i)) s0]) [3] (rn_V (As := []) (rest := []) (q0 := 0) G (c_X3_isMissing (sx := s0) (b := fun i => a (44 + i)) (hx := hx0)) gX8_read_X3_isMissing rfl hdX3_isMissing ⟨rfl, rfl, Nat.le_of_ble_eq_true rfl, Nat.le_of_ble_eq_true rfl⟩ rfl rfl (Nat.le_of_ble_eq_true rfl) ⟨Nat.zero_le _, Nat.zero_le _⟩ rfl rfl dX8_read_20) rfl rfl rfl (fun _ => rfl) (fun _ => rfl) (fun _ => rfl) (fun r_5 u_7 e_6 => ?_)
      have e_6 : r_5 = jI (b2 (s0.1 = 0)) := e_6
      subst e_6
      refine v_world (ws' := (gS  a ks ++ gF cI a fd ++ gH cS a  ++ gX cL (fun i => a (44 + i)) s0 ++ gX cL (fun i => a (46 + i)) s1 ++ gX cL (fun i => a (48 + i)) s2 ++ gX cL (fun i => a (50 + i)) s3 ++ gW cI (fun i => a (1 + i)) wd ++ gG cI (fun i => a (31 + i)) gl ++ gL cI cL (fun i => a (52 + i)) lr)) rfl ?_
      refine v_ifb_eq (P := s0.1 = 0) (tgt := 34) G dX8_read_23 (by decide) (fun c_8 => ?_) (fun c_8 => ?_)
      · skip
        refine v_aload_n (j := 0) (x := a 0) G dX8_read_34 rfl rfl ?_
        refine v_get (q0 := 0) (k := 4) (v := .ref (a 31)) G k_X8 rfl rfl (by decide) q_2 rfl rfl dX8_read_35 ?_
        refine v_aload_n (j := 0) (x := a 0) G dX8_read_38 rfl rfl ?_
        refine v_get (q0 := 0) (k := 0) (v := .ref (a 1)) G k_X8 rfl rfl (by decide) q_3 rfl rfl dX8_read_39 ?_
        refine v_iconst G dX8_read_42 ?_
        refine v_cvG (w2 := (fun _ => (gS  a ks ++ gF cI a fd ++ gH cS a  ++ gX cL (fun i => a (44 + i)) s0 ++ gX cL (fun i => a (46 + i)) s1 ++ gX cL (fun i => a (48 + i)) s2 ++ gX cL (fun i => a (50 + i)) s3 ++ gW cI (fun i => a (1 + i)) wd ++ gG cI (fun i => a (31 + i)) (glS wd 0 gl) ++ gL cI cL (fun i => a (52 + i)) lr))) G [gS  a ks, gF cI a fd, gH cS a , gX cL (fun i => a (44 + i)) s0, gX cL (fun i => a (46 + i)) s1, gX cL (fun i => a (48 + i)) s2, gX cL (fun i => a (50 + i)) s3, gW cI (fun i => a (1 + i)) wd, gG cI (fun i => a (31 + i)) gl, gL cI cL (fun i => a (52 + i)) lr] [gG cI (fun i => a (31 + i)) gl, gW cI (fun i => a (1 + i)) wd] [gS  a ks, gF cI a fd, gH cS a , gX cL (fun i => a (44 + i)) s0, gX cL (fun i => a (46 + i)) s1, gX cL (fun i => a (48 + i)) s2, gX cL (fun i => a (50 + i)) s3, gL cI cL (fun i => a (52 + i)) lr] (fun _ => [gS  a ks, gF cI a fd, gH cS a , gX cL (fun i => a (44 + i)) s0, gX cL (fun i => a (46 + i)) s1, gX cL (fun i => a (48 + i)) s2, gX cL (fun i => a (50 + i)) s3, gW cI (fun i => a (1 + i)) wd, gG cI (fun i => a (31 + i)) (glS wd 0 gl), gL cI cL (fun i => a (52 + i)) lr]) (fun _ => [gG cI (fun i => a (31 + i)) (glS wd 0 gl), gW cI (fun i => a (1 + i)) wd]) [8, 7] (rn_V (As := [.ref (a 1), .int (jI 0)]) (rest := []) (q0 := 0) G (c_X0_settleOn (n := 0) (g := gl) (x := wd) (c := fun i => a (31 + i)) (b := fun i => a (1 + i)) (hw := hw) (hn := (by omega))) gX8_read_X0_settleOn rfl hdX0_settleOn ⟨rfl, rfl, Nat.le_of_ble_eq_true rfl, Nat.le_of_ble_eq_true rfl⟩ rfl rfl (Nat.le_of_ble_eq_true rfl) ⟨Nat.zero_le _, Nat.zero_le _⟩ rfl rfl dX8_read_43) rfl rfl rfl (fun _ => rfl) (fun _ => rfl) (fun _ => rfl) (fun u_11 e_10 => ?_)
        refine v_world (ws' := (gS  a ks ++ gF cI a fd ++ gH cS a  ++ gX cL (fun i => a (44 + i)) s0 ++ gX cL (fun i => a (46 + i)) s1 ++ gX cL (fun i => a (48 + i)) s2 ++ gX cL (fun i => a (50 + i)) s3 ++ gW cI (fun i => a (1 + i)) wd ++ gG cI (fun i => a (31 + i)) (glS wd 0 gl) ++ gL cI cL (fun i => a (52 + i)) lr)) rfl ?_
        refine v_aload_n (j := 0) (x := a 0) G dX8_read_46 rfl rfl ?_
        refine v_get (q0 := 0) (k := 8) (v := .ref (a 52)) G k_X8 rfl rfl (by decide) q_4 rfl rfl dX8_read_47 ?_
        refine v_aload_n (j := 0) (x := a 0) G dX8_read_50 rfl rfl ?_
        refine v_get (q0 := 0) (k := 4) (v := .ref (a 31)) G k_X8 rfl rfl (by decide) q_2 rfl rfl dX8_read_51 ?_
        refine v_aload_n (j := 0) (x := a 0) G dX8_read_54 rfl rfl ?_
        refine v_get (q0 := 0) (k := 7) (v := .ref (a 43)) G k_X8 rfl rfl (by decide) q_1 rfl rfl dX8_read_55 ?_
        refine v_iload_n (j := 1) (x := jI 0) G dX8_read_58 rfl rfl ?_
        refine v_aald (q0 := 2) (t0 := 3) (y := a 44) (z := 0) G rfl rfl (by omega) rfl dX8_read_59 ?_
        refine v_ciG (w2 := (fun lr2 => (gS  a ks ++ gF cI a fd ++ gH cS a  ++ gX cL (fun i => a (44 + i)) s0 ++ gX cL (fun i => a (46 + i)) s1 ++ gX cL (fun i => a (48 + i)) s2 ++ gX cL (fun i => a (50 + i)) s3 ++ gW cI (fun i => a (1 + i)) wd ++ gG cI (fun i => a (31 + i)) (((glS wd 0 gl).1), ((glS wd 0 gl).2.1), ((glS wd 0 gl).2.2.1), ((glS wd 0 gl).2.2.2.1), ((glS wd 0 gl).2.2.2.2)) ++ gL cI cL (fun i => a (52 + i)) lr2))) G [gS  a ks, gF cI a fd, gH cS a , gX cL (fun i => a (44 + i)) s0, gX cL (fun i => a (46 + i)) s1, gX cL (fun i => a (48 + i)) s2, gX cL (fun i => a (50 + i)) s3, gW cI (fun i => a (1 + i)) wd, gG cI (fun i => a (31 + i)) (glS wd 0 gl), gL cI cL (fun i => a (52 + i)) lr] [gL cI cL (fun i => a (52 + i)) lr, gG cI (fun i => a (31 + i)) (glS wd 0 gl), gX cL (fun i => a (44 + i)) s0] [gS  a ks, gF cI a fd, gH cS a , gX cL (fun i => a (46 + i)) s1, gX cL (fun i => a (48 + i)) s2, gX cL (fun i => a (50 + i)) s3, gW cI (fun i => a (1 + i)) wd] (fun lr2 => [gS  a ks, gF cI a fd, gH cS a , gX cL (fun i => a (44 + i)) s0, gX cL (fun i => a (46 + i)) s1, gX cL (fun i => a (48 + i)) s2, gX cL (fun i => a (50 + i)) s3, gW cI (fun i => a (1 + i)) wd, gG cI (fun i => a (31 + i)) (((glS wd 0 gl).1), ((glS wd 0 gl).2.1), ((glS wd 0 gl).2.2.1), ((glS wd 0 gl).2.2.2.1), ((glS wd 0 gl).2.2.2.2)), gL cI cL (fun i => a (52 + i)) lr2]) (fun lr2 => [gL cI cL (fun i => a (52 + i)) lr2, gG cI (fun i => a (31 + i)) (((glS wd 0 gl).1), ((glS wd 0 gl).2.1), ((glS wd 0 gl).2.2.1), ((glS wd 0 gl).2.2.2.1), ((glS wd 0 gl).2.2.2.2)), gX cL (fun i => a (44 + i)) s0]) [9, 8, 3] (rn_V (As := [.ref (a 31), .ref (a 44)]) (rest := []) (q0 := 0) G (c_X1_countSets (lr := lr) (gl := (glS wd 0 gl)) (sx := s0) (a := a) (b := fun i => a (44 + i)) (hg := (glS_f hw (by omega) gl)) (hx := hx0)) gX8_read_X1_countSets rfl hdX1_countSets ⟨rfl, rfl, Nat.le_of_ble_eq_true rfl, Nat.le_of_ble_eq_true rfl⟩ rfl rfl (Nat.le_of_ble_eq_true rfl) ⟨Nat.zero_le _, Nat.zero_le _⟩ rfl rfl dX8_read_60) rfl rfl rfl (fun _ => rfl) (fun _ => rfl) (fun _ => rfl) (fun r_13 u_15 e_14 => ?_)
        obtain ⟨lr2_12, rfl⟩ : ∃ z, z = u_15 := ⟨_, rfl⟩
        have e_14 : r_13 = jI (crN (fun m_ => allZ (lkF s0.2.2 ((glS wd 0 gl).2.1) (fun b_ p_ => gvT (glS wd 0 gl) b_ p_) (glS wd 0 gl).1.toNat lr.1 (jmin s0.2.1 16).toNat (gq m_)) (jmin s0.2.1 16).toNat) (2 ^ (glS wd 0 gl).1.toNat)) ∧ True := e_14
        obtain ⟨e_140, e_14⟩ := e_14
        subst e_140
        refine v_world (ws' := (gS  a ks ++ gF cI a fd ++ gH cS a  ++ gX cL (fun i => a (44 + i)) s0 ++ gX cL (fun i => a (46 + i)) s1 ++ gX cL (fun i => a (48 + i)) s2 ++ gX cL (fun i => a (50 + i)) s3 ++ gW cI (fun i => a (1 + i)) wd ++ gG cI (fun i => a (31 + i)) (((glS wd 0 gl).1), ((glS wd 0 gl).2.1), ((glS wd 0 gl).2.2.1), ((glS wd 0 gl).2.2.2.1), ((glS wd 0 gl).2.2.2.2)) ++ gL cI cL (fun i => a (52 + i)) lr2_12)) rfl ?_
        exact v_iret G (fd, (((glS wd 0 gl).1), ((glS wd 0 gl).2.1), ((glS wd 0 gl).2.2.1), ((glS wd 0 gl).2.2.2.1), ((glS wd 0 gl).2.2.2.2)), lr2_12) (by first | exact Or.inr (Or.inl ⟨(by omega), (by first | rfl | exact congrArg jI (by omega)), rfl⟩) | exact Or.inr (Or.inr (Or.inl ⟨(by omega), (by first | rfl | exact congrArg jI (by omega)), rfl⟩))) rfl dX8_read_63
      · skip
        refine v_aload_n (j := 0) (x := a 0) G dX8_read_26 rfl rfl ?_
        refine v_ldcw (z := (-1000000006)) G q_5 (by decide) dX8_read_27 ?_
        refine v_ciG (w2 := (fun _ => (gS  a ks ++ gF cI a (uI fd 5 (fd 5 + 1)) ++ gH cS a  ++ gX cL (fun i => a (44 + i)) s0 ++ gX cL (fun i => a (46 + i)) s1 ++ gX cL (fun i => a (48 + i)) s2 ++ gX cL (fun i => a (50 + i)) s3 ++ gW cI (fun i => a (1 + i)) wd ++ gG cI (fun i => a (31 + i)) gl ++ gL cI cL (fun i => a (52 + i)) lr))) G [gS  a ks, gF cI a fd, gH cS a , gX cL (fun i => a (44 + i)) s0, gX cL (fun i => a (46 + i)) s1, gX cL (fun i => a (48 + i)) s2, gX cL (fun i => a (50 + i)) s3, gW cI (fun i => a (1 + i)) wd, gG cI (fun i => a (31 + i)) gl, gL cI cL (fun i => a (52 + i)) lr] [gS  a ks, gF cI a fd] [gH cS a , gX cL (fun i => a (44 + i)) s0, gX cL (fun i => a (46 + i)) s1, gX cL (fun i => a (48 + i)) s2, gX cL (fun i => a (50 + i)) s3, gW cI (fun i => a (1 + i)) wd, gG cI (fun i => a (31 + i)) gl, gL cI cL (fun i => a (52 + i)) lr] (fun _ => [gS  a ks, gF cI a (uI fd 5 (fd 5 + 1)), gH cS a , gX cL (fun i => a (44 + i)) s0, gX cL (fun i => a (46 + i)) s1, gX cL (fun i => a (48 + i)) s2, gX cL (fun i => a (50 + i)) s3, gW cI (fun i => a (1 + i)) wd, gG cI (fun i => a (31 + i)) gl, gL cI cL (fun i => a (52 + i)) lr]) (fun _ => [gS  a ks, gF cI a (uI fd 5 (fd 5 + 1))]) [0, 0] (rn_V (As := [.int (jI (-1000000006))]) (rest := []) (q0 := 0) G (c_X8_found_5 (ks := ks) (fd := fd) (a := a) ) gX8_read_X8_found rfl hdX8_found ⟨rfl, rfl, Nat.le_of_ble_eq_true rfl, Nat.le_of_ble_eq_true rfl⟩ rfl rfl (Nat.le_of_ble_eq_true rfl) ⟨Nat.zero_le _, Nat.zero_le _⟩ rfl rfl dX8_read_30) rfl rfl rfl (fun _ => rfl) (fun _ => rfl) (fun _ => rfl) (fun r_16 u_18 e_17 => ?_)
        have e_17 : r_16 = jI (-1000000006) := e_17
        subst e_17
        refine v_world (ws' := (gS  a ks ++ gF cI a (uI fd 5 (fd 5 + 1)) ++ gH cS a  ++ gX cL (fun i => a (44 + i)) s0 ++ gX cL (fun i => a (46 + i)) s1 ++ gX cL (fun i => a (48 + i)) s2 ++ gX cL (fun i => a (50 + i)) s3 ++ gW cI (fun i => a (1 + i)) wd ++ gG cI (fun i => a (31 + i)) gl ++ gL cI cL (fun i => a (52 + i)) lr)) rfl ?_
        exact v_iret G (uI fd 5 (fd 5 + 1), gl, lr) (by first | exact Or.inr (Or.inl ⟨(by omega), (by first | rfl | exact congrArg jI (by omega)), rfl⟩) | exact Or.inr (Or.inr (Or.inl ⟨(by omega), (by first | rfl | exact congrArg jI (by omega)), rfl⟩))) rfl dX8_read_33
    · skip
      refine v_aload_n (j := 0) (x := a 0) G dX8_read_14 rfl rfl ?_
      refine v_get (q0 := 0) (k := 7) (v := .ref (a 43)) G k_X8 rfl rfl (by decide) q_1 rfl rfl dX8_read_15 ?_
      refine v_iload_n (j := 1) (x := jI 1) G dX8_read_18 rfl rfl ?_
      refine v_aald (q0 := 2) (t0 := 3) (y := a 46) (z := 1) G rfl rfl (by omega) rfl dX8_read_19 ?_
      refine v_ciG (w2 := (fun _ => (gS  a ks ++ gF cI a fd ++ gH cS a  ++ gX cL (fun i => a (44 + i)) s0 ++ gX cL (fun i => a (46 + i)) s1 ++ gX cL (fun i => a (48 + i)) s2 ++ gX cL (fun i => a (50 + i)) s3 ++ gW cI (fun i => a (1 + i)) wd ++ gG cI (fun i => a (31 + i)) gl ++ gL cI cL (fun i => a (52 + i)) lr))) G [gS  a ks, gF cI a fd, gH cS a , gX cL (fun i => a (44 + i)) s0, gX cL (fun i => a (46 + i)) s1, gX cL (fun i => a (48 + i)) s2, gX cL (fun i => a (50 + i)) s3, gW cI (fun i => a (1 + i)) wd, gG cI (fun i => a (31 + i)) gl, gL cI cL (fun i => a (52 + i)) lr] [gX cL (fun i => a (46 + i)) s1] [gS  a ks, gF cI a fd, gH cS a , gX cL (fun i => a (44 + i)) s0, gX cL (fun i => a (48 + i)) s2, gX cL (fun i => a (50 + i)) s3, gW cI (fun i => a (1 + i)) wd, gG cI (fun i => a (31 + i)) gl, gL cI cL (fun i => a (52 + i)) lr] (fun _ => [gS  a ks, gF cI a fd, gH cS a , gX cL (fun i => a (44 + i)) s0, gX cL (fun i => a (46 + i)) s1, gX cL (fun i => a (48 + i)) s2, gX cL (fun i => a (50 + i)) s3, gW cI (fun i => a (1 + i)) wd, gG cI (fun i => a (31 + i)) gl, gL cI cL (fun i => a (52 + i)) lr]) (fun _ => [gX cL (fun i => a (46 + i)) s1]) [4] (rn_V (As := []) (rest := []) (q0 := 0) G (c_X3_isMissing (sx := s1) (b := fun i => a (46 + i)) (hx := hx1)) gX8_read_X3_isMissing rfl hdX3_isMissing ⟨rfl, rfl, Nat.le_of_ble_eq_true rfl, Nat.le_of_ble_eq_true rfl⟩ rfl rfl (Nat.le_of_ble_eq_true rfl) ⟨Nat.zero_le _, Nat.zero_le _⟩ rfl rfl dX8_read_20) rfl rfl rfl (fun _ => rfl) (fun _ => rfl) (fun _ => rfl) (fun r_19 u_21 e_20 => ?_)
      have e_20 : r_19 = jI (b2 (s1.1 = 0)) := e_20
      subst e_20
      refine v_world (ws' := (gS  a ks ++ gF cI a fd ++ gH cS a  ++ gX cL (fun i => a (44 + i)) s0 ++ gX cL (fun i => a (46 + i)) s1 ++ gX cL (fun i => a (48 + i)) s2 ++ gX cL (fun i => a (50 + i)) s3 ++ gW cI (fun i => a (1 + i)) wd ++ gG cI (fun i => a (31 + i)) gl ++ gL cI cL (fun i => a (52 + i)) lr)) rfl ?_
      refine v_ifb_eq (P := s1.1 = 0) (tgt := 34) G dX8_read_23 (by decide) (fun c_22 => ?_) (fun c_22 => ?_)
      · skip
        refine v_aload_n (j := 0) (x := a 0) G dX8_read_34 rfl rfl ?_
        refine v_get (q0 := 0) (k := 4) (v := .ref (a 31)) G k_X8 rfl rfl (by decide) q_2 rfl rfl dX8_read_35 ?_
        refine v_aload_n (j := 0) (x := a 0) G dX8_read_38 rfl rfl ?_
        refine v_get (q0 := 0) (k := 0) (v := .ref (a 1)) G k_X8 rfl rfl (by decide) q_3 rfl rfl dX8_read_39 ?_
        refine v_iconst G dX8_read_42 ?_
        refine v_cvG (w2 := (fun _ => (gS  a ks ++ gF cI a fd ++ gH cS a  ++ gX cL (fun i => a (44 + i)) s0 ++ gX cL (fun i => a (46 + i)) s1 ++ gX cL (fun i => a (48 + i)) s2 ++ gX cL (fun i => a (50 + i)) s3 ++ gW cI (fun i => a (1 + i)) wd ++ gG cI (fun i => a (31 + i)) (glS wd 0 gl) ++ gL cI cL (fun i => a (52 + i)) lr))) G [gS  a ks, gF cI a fd, gH cS a , gX cL (fun i => a (44 + i)) s0, gX cL (fun i => a (46 + i)) s1, gX cL (fun i => a (48 + i)) s2, gX cL (fun i => a (50 + i)) s3, gW cI (fun i => a (1 + i)) wd, gG cI (fun i => a (31 + i)) gl, gL cI cL (fun i => a (52 + i)) lr] [gG cI (fun i => a (31 + i)) gl, gW cI (fun i => a (1 + i)) wd] [gS  a ks, gF cI a fd, gH cS a , gX cL (fun i => a (44 + i)) s0, gX cL (fun i => a (46 + i)) s1, gX cL (fun i => a (48 + i)) s2, gX cL (fun i => a (50 + i)) s3, gL cI cL (fun i => a (52 + i)) lr] (fun _ => [gS  a ks, gF cI a fd, gH cS a , gX cL (fun i => a (44 + i)) s0, gX cL (fun i => a (46 + i)) s1, gX cL (fun i => a (48 + i)) s2, gX cL (fun i => a (50 + i)) s3, gW cI (fun i => a (1 + i)) wd, gG cI (fun i => a (31 + i)) (glS wd 0 gl), gL cI cL (fun i => a (52 + i)) lr]) (fun _ => [gG cI (fun i => a (31 + i)) (glS wd 0 gl), gW cI (fun i => a (1 + i)) wd]) [8, 7] (rn_V (As := [.ref (a 1), .int (jI 0)]) (rest := []) (q0 := 0) G (c_X0_settleOn (n := 0) (g := gl) (x := wd) (c := fun i => a (31 + i)) (b := fun i => a (1 + i)) (hw := hw) (hn := (by omega))) gX8_read_X0_settleOn rfl hdX0_settleOn ⟨rfl, rfl, Nat.le_of_ble_eq_true rfl, Nat.le_of_ble_eq_true rfl⟩ rfl rfl (Nat.le_of_ble_eq_true rfl) ⟨Nat.zero_le _, Nat.zero_le _⟩ rfl rfl dX8_read_43) rfl rfl rfl (fun _ => rfl) (fun _ => rfl) (fun _ => rfl) (fun u_25 e_24 => ?_)
        refine v_world (ws' := (gS  a ks ++ gF cI a fd ++ gH cS a  ++ gX cL (fun i => a (44 + i)) s0 ++ gX cL (fun i => a (46 + i)) s1 ++ gX cL (fun i => a (48 + i)) s2 ++ gX cL (fun i => a (50 + i)) s3 ++ gW cI (fun i => a (1 + i)) wd ++ gG cI (fun i => a (31 + i)) (glS wd 0 gl) ++ gL cI cL (fun i => a (52 + i)) lr)) rfl ?_
        refine v_aload_n (j := 0) (x := a 0) G dX8_read_46 rfl rfl ?_
        refine v_get (q0 := 0) (k := 8) (v := .ref (a 52)) G k_X8 rfl rfl (by decide) q_4 rfl rfl dX8_read_47 ?_
        refine v_aload_n (j := 0) (x := a 0) G dX8_read_50 rfl rfl ?_
        refine v_get (q0 := 0) (k := 4) (v := .ref (a 31)) G k_X8 rfl rfl (by decide) q_2 rfl rfl dX8_read_51 ?_
        refine v_aload_n (j := 0) (x := a 0) G dX8_read_54 rfl rfl ?_
        refine v_get (q0 := 0) (k := 7) (v := .ref (a 43)) G k_X8 rfl rfl (by decide) q_1 rfl rfl dX8_read_55 ?_
        refine v_iload_n (j := 1) (x := jI 1) G dX8_read_58 rfl rfl ?_
        refine v_aald (q0 := 2) (t0 := 3) (y := a 46) (z := 1) G rfl rfl (by omega) rfl dX8_read_59 ?_
        refine v_ciG (w2 := (fun lr2 => (gS  a ks ++ gF cI a fd ++ gH cS a  ++ gX cL (fun i => a (44 + i)) s0 ++ gX cL (fun i => a (46 + i)) s1 ++ gX cL (fun i => a (48 + i)) s2 ++ gX cL (fun i => a (50 + i)) s3 ++ gW cI (fun i => a (1 + i)) wd ++ gG cI (fun i => a (31 + i)) (((glS wd 0 gl).1), ((glS wd 0 gl).2.1), ((glS wd 0 gl).2.2.1), ((glS wd 0 gl).2.2.2.1), ((glS wd 0 gl).2.2.2.2)) ++ gL cI cL (fun i => a (52 + i)) lr2))) G [gS  a ks, gF cI a fd, gH cS a , gX cL (fun i => a (44 + i)) s0, gX cL (fun i => a (46 + i)) s1, gX cL (fun i => a (48 + i)) s2, gX cL (fun i => a (50 + i)) s3, gW cI (fun i => a (1 + i)) wd, gG cI (fun i => a (31 + i)) (glS wd 0 gl), gL cI cL (fun i => a (52 + i)) lr] [gL cI cL (fun i => a (52 + i)) lr, gG cI (fun i => a (31 + i)) (glS wd 0 gl), gX cL (fun i => a (46 + i)) s1] [gS  a ks, gF cI a fd, gH cS a , gX cL (fun i => a (44 + i)) s0, gX cL (fun i => a (48 + i)) s2, gX cL (fun i => a (50 + i)) s3, gW cI (fun i => a (1 + i)) wd] (fun lr2 => [gS  a ks, gF cI a fd, gH cS a , gX cL (fun i => a (44 + i)) s0, gX cL (fun i => a (46 + i)) s1, gX cL (fun i => a (48 + i)) s2, gX cL (fun i => a (50 + i)) s3, gW cI (fun i => a (1 + i)) wd, gG cI (fun i => a (31 + i)) (((glS wd 0 gl).1), ((glS wd 0 gl).2.1), ((glS wd 0 gl).2.2.1), ((glS wd 0 gl).2.2.2.1), ((glS wd 0 gl).2.2.2.2)), gL cI cL (fun i => a (52 + i)) lr2]) (fun lr2 => [gL cI cL (fun i => a (52 + i)) lr2, gG cI (fun i => a (31 + i)) (((glS wd 0 gl).1), ((glS wd 0 gl).2.1), ((glS wd 0 gl).2.2.1), ((glS wd 0 gl).2.2.2.1), ((glS wd 0 gl).2.2.2.2)), gX cL (fun i => a (46 + i)) s1]) [9, 8, 4] (rn_V (As := [.ref (a 31), .ref (a 46)]) (rest := []) (q0 := 0) G (c_X1_countSets (lr := lr) (gl := (glS wd 0 gl)) (sx := s1) (a := a) (b := fun i => a (46 + i)) (hg := (glS_f hw (by omega) gl)) (hx := hx1)) gX8_read_X1_countSets rfl hdX1_countSets ⟨rfl, rfl, Nat.le_of_ble_eq_true rfl, Nat.le_of_ble_eq_true rfl⟩ rfl rfl (Nat.le_of_ble_eq_true rfl) ⟨Nat.zero_le _, Nat.zero_le _⟩ rfl rfl dX8_read_60) rfl rfl rfl (fun _ => rfl) (fun _ => rfl) (fun _ => rfl) (fun r_27 u_29 e_28 => ?_)
        obtain ⟨lr2_26, rfl⟩ : ∃ z, z = u_29 := ⟨_, rfl⟩
        have e_28 : r_27 = jI (crN (fun m_ => allZ (lkF s1.2.2 ((glS wd 0 gl).2.1) (fun b_ p_ => gvT (glS wd 0 gl) b_ p_) (glS wd 0 gl).1.toNat lr.1 (jmin s1.2.1 16).toNat (gq m_)) (jmin s1.2.1 16).toNat) (2 ^ (glS wd 0 gl).1.toNat)) ∧ True := e_28
        obtain ⟨e_280, e_28⟩ := e_28
        subst e_280
        refine v_world (ws' := (gS  a ks ++ gF cI a fd ++ gH cS a  ++ gX cL (fun i => a (44 + i)) s0 ++ gX cL (fun i => a (46 + i)) s1 ++ gX cL (fun i => a (48 + i)) s2 ++ gX cL (fun i => a (50 + i)) s3 ++ gW cI (fun i => a (1 + i)) wd ++ gG cI (fun i => a (31 + i)) (((glS wd 0 gl).1), ((glS wd 0 gl).2.1), ((glS wd 0 gl).2.2.1), ((glS wd 0 gl).2.2.2.1), ((glS wd 0 gl).2.2.2.2)) ++ gL cI cL (fun i => a (52 + i)) lr2_26)) rfl ?_
        exact v_iret G (fd, (((glS wd 0 gl).1), ((glS wd 0 gl).2.1), ((glS wd 0 gl).2.2.1), ((glS wd 0 gl).2.2.2.1), ((glS wd 0 gl).2.2.2.2)), lr2_26) (by first | exact Or.inr (Or.inr (Or.inr (Or.inl ⟨(by omega), (by first | rfl | exact congrArg jI (by omega)), rfl⟩))) | exact Or.inr (Or.inr (Or.inr (Or.inr (Or.inl ⟨(by omega), (by first | rfl | exact congrArg jI (by omega)), rfl⟩))))) rfl dX8_read_63
      · skip
        refine v_aload_n (j := 0) (x := a 0) G dX8_read_26 rfl rfl ?_
        refine v_ldcw (z := (-1000000006)) G q_5 (by decide) dX8_read_27 ?_
        refine v_ciG (w2 := (fun _ => (gS  a ks ++ gF cI a (uI fd 5 (fd 5 + 1)) ++ gH cS a  ++ gX cL (fun i => a (44 + i)) s0 ++ gX cL (fun i => a (46 + i)) s1 ++ gX cL (fun i => a (48 + i)) s2 ++ gX cL (fun i => a (50 + i)) s3 ++ gW cI (fun i => a (1 + i)) wd ++ gG cI (fun i => a (31 + i)) gl ++ gL cI cL (fun i => a (52 + i)) lr))) G [gS  a ks, gF cI a fd, gH cS a , gX cL (fun i => a (44 + i)) s0, gX cL (fun i => a (46 + i)) s1, gX cL (fun i => a (48 + i)) s2, gX cL (fun i => a (50 + i)) s3, gW cI (fun i => a (1 + i)) wd, gG cI (fun i => a (31 + i)) gl, gL cI cL (fun i => a (52 + i)) lr] [gS  a ks, gF cI a fd] [gH cS a , gX cL (fun i => a (44 + i)) s0, gX cL (fun i => a (46 + i)) s1, gX cL (fun i => a (48 + i)) s2, gX cL (fun i => a (50 + i)) s3, gW cI (fun i => a (1 + i)) wd, gG cI (fun i => a (31 + i)) gl, gL cI cL (fun i => a (52 + i)) lr] (fun _ => [gS  a ks, gF cI a (uI fd 5 (fd 5 + 1)), gH cS a , gX cL (fun i => a (44 + i)) s0, gX cL (fun i => a (46 + i)) s1, gX cL (fun i => a (48 + i)) s2, gX cL (fun i => a (50 + i)) s3, gW cI (fun i => a (1 + i)) wd, gG cI (fun i => a (31 + i)) gl, gL cI cL (fun i => a (52 + i)) lr]) (fun _ => [gS  a ks, gF cI a (uI fd 5 (fd 5 + 1))]) [0, 0] (rn_V (As := [.int (jI (-1000000006))]) (rest := []) (q0 := 0) G (c_X8_found_5 (ks := ks) (fd := fd) (a := a) ) gX8_read_X8_found rfl hdX8_found ⟨rfl, rfl, Nat.le_of_ble_eq_true rfl, Nat.le_of_ble_eq_true rfl⟩ rfl rfl (Nat.le_of_ble_eq_true rfl) ⟨Nat.zero_le _, Nat.zero_le _⟩ rfl rfl dX8_read_30) rfl rfl rfl (fun _ => rfl) (fun _ => rfl) (fun _ => rfl) (fun r_30 u_32 e_31 => ?_)
        have e_31 : r_30 = jI (-1000000006) := e_31
        subst e_31
        refine v_world (ws' := (gS  a ks ++ gF cI a (uI fd 5 (fd 5 + 1)) ++ gH cS a  ++ gX cL (fun i => a (44 + i)) s0 ++ gX cL (fun i => a (46 + i)) s1 ++ gX cL (fun i => a (48 + i)) s2 ++ gX cL (fun i => a (50 + i)) s3 ++ gW cI (fun i => a (1 + i)) wd ++ gG cI (fun i => a (31 + i)) gl ++ gL cI cL (fun i => a (52 + i)) lr)) rfl ?_
        exact v_iret G (uI fd 5 (fd 5 + 1), gl, lr) (by first | exact Or.inr (Or.inr (Or.inr (Or.inl ⟨(by omega), (by first | rfl | exact congrArg jI (by omega)), rfl⟩))) | exact Or.inr (Or.inr (Or.inr (Or.inr (Or.inl ⟨(by omega), (by first | rfl | exact congrArg jI (by omega)), rfl⟩))))) rfl dX8_read_33
    · skip
      refine v_aload_n (j := 0) (x := a 0) G dX8_read_14 rfl rfl ?_
      refine v_get (q0 := 0) (k := 7) (v := .ref (a 43)) G k_X8 rfl rfl (by decide) q_1 rfl rfl dX8_read_15 ?_
      refine v_iload_n (j := 1) (x := jI 2) G dX8_read_18 rfl rfl ?_
      refine v_aald (q0 := 2) (t0 := 3) (y := a 48) (z := 2) G rfl rfl (by omega) rfl dX8_read_19 ?_
      refine v_ciG (w2 := (fun _ => (gS  a ks ++ gF cI a fd ++ gH cS a  ++ gX cL (fun i => a (44 + i)) s0 ++ gX cL (fun i => a (46 + i)) s1 ++ gX cL (fun i => a (48 + i)) s2 ++ gX cL (fun i => a (50 + i)) s3 ++ gW cI (fun i => a (1 + i)) wd ++ gG cI (fun i => a (31 + i)) gl ++ gL cI cL (fun i => a (52 + i)) lr))) G [gS  a ks, gF cI a fd, gH cS a , gX cL (fun i => a (44 + i)) s0, gX cL (fun i => a (46 + i)) s1, gX cL (fun i => a (48 + i)) s2, gX cL (fun i => a (50 + i)) s3, gW cI (fun i => a (1 + i)) wd, gG cI (fun i => a (31 + i)) gl, gL cI cL (fun i => a (52 + i)) lr] [gX cL (fun i => a (48 + i)) s2] [gS  a ks, gF cI a fd, gH cS a , gX cL (fun i => a (44 + i)) s0, gX cL (fun i => a (46 + i)) s1, gX cL (fun i => a (50 + i)) s3, gW cI (fun i => a (1 + i)) wd, gG cI (fun i => a (31 + i)) gl, gL cI cL (fun i => a (52 + i)) lr] (fun _ => [gS  a ks, gF cI a fd, gH cS a , gX cL (fun i => a (44 + i)) s0, gX cL (fun i => a (46 + i)) s1, gX cL (fun i => a (48 + i)) s2, gX cL (fun i => a (50 + i)) s3, gW cI (fun i => a (1 + i)) wd, gG cI (fun i => a (31 + i)) gl, gL cI cL (fun i => a (52 + i)) lr]) (fun _ => [gX cL (fun i => a (48 + i)) s2]) [5] (rn_V (As := []) (rest := []) (q0 := 0) G (c_X3_isMissing (sx := s2) (b := fun i => a (48 + i)) (hx := hx2)) gX8_read_X3_isMissing rfl hdX3_isMissing ⟨rfl, rfl, Nat.le_of_ble_eq_true rfl, Nat.le_of_ble_eq_true rfl⟩ rfl rfl (Nat.le_of_ble_eq_true rfl) ⟨Nat.zero_le _, Nat.zero_le _⟩ rfl rfl dX8_read_20) rfl rfl rfl (fun _ => rfl) (fun _ => rfl) (fun _ => rfl) (fun r_33 u_35 e_34 => ?_)
      have e_34 : r_33 = jI (b2 (s2.1 = 0)) := e_34
      subst e_34
      refine v_world (ws' := (gS  a ks ++ gF cI a fd ++ gH cS a  ++ gX cL (fun i => a (44 + i)) s0 ++ gX cL (fun i => a (46 + i)) s1 ++ gX cL (fun i => a (48 + i)) s2 ++ gX cL (fun i => a (50 + i)) s3 ++ gW cI (fun i => a (1 + i)) wd ++ gG cI (fun i => a (31 + i)) gl ++ gL cI cL (fun i => a (52 + i)) lr)) rfl ?_
      refine v_ifb_eq (P := s2.1 = 0) (tgt := 34) G dX8_read_23 (by decide) (fun c_36 => ?_) (fun c_36 => ?_)
      · skip
        refine v_aload_n (j := 0) (x := a 0) G dX8_read_34 rfl rfl ?_
        refine v_get (q0 := 0) (k := 4) (v := .ref (a 31)) G k_X8 rfl rfl (by decide) q_2 rfl rfl dX8_read_35 ?_
        refine v_aload_n (j := 0) (x := a 0) G dX8_read_38 rfl rfl ?_
        refine v_get (q0 := 0) (k := 0) (v := .ref (a 1)) G k_X8 rfl rfl (by decide) q_3 rfl rfl dX8_read_39 ?_
        refine v_iconst G dX8_read_42 ?_
        refine v_cvG (w2 := (fun _ => (gS  a ks ++ gF cI a fd ++ gH cS a  ++ gX cL (fun i => a (44 + i)) s0 ++ gX cL (fun i => a (46 + i)) s1 ++ gX cL (fun i => a (48 + i)) s2 ++ gX cL (fun i => a (50 + i)) s3 ++ gW cI (fun i => a (1 + i)) wd ++ gG cI (fun i => a (31 + i)) (glS wd 0 gl) ++ gL cI cL (fun i => a (52 + i)) lr))) G [gS  a ks, gF cI a fd, gH cS a , gX cL (fun i => a (44 + i)) s0, gX cL (fun i => a (46 + i)) s1, gX cL (fun i => a (48 + i)) s2, gX cL (fun i => a (50 + i)) s3, gW cI (fun i => a (1 + i)) wd, gG cI (fun i => a (31 + i)) gl, gL cI cL (fun i => a (52 + i)) lr] [gG cI (fun i => a (31 + i)) gl, gW cI (fun i => a (1 + i)) wd] [gS  a ks, gF cI a fd, gH cS a , gX cL (fun i => a (44 + i)) s0, gX cL (fun i => a (46 + i)) s1, gX cL (fun i => a (48 + i)) s2, gX cL (fun i => a (50 + i)) s3, gL cI cL (fun i => a (52 + i)) lr] (fun _ => [gS  a ks, gF cI a fd, gH cS a , gX cL (fun i => a (44 + i)) s0, gX cL (fun i => a (46 + i)) s1, gX cL (fun i => a (48 + i)) s2, gX cL (fun i => a (50 + i)) s3, gW cI (fun i => a (1 + i)) wd, gG cI (fun i => a (31 + i)) (glS wd 0 gl), gL cI cL (fun i => a (52 + i)) lr]) (fun _ => [gG cI (fun i => a (31 + i)) (glS wd 0 gl), gW cI (fun i => a (1 + i)) wd]) [8, 7] (rn_V (As := [.ref (a 1), .int (jI 0)]) (rest := []) (q0 := 0) G (c_X0_settleOn (n := 0) (g := gl) (x := wd) (c := fun i => a (31 + i)) (b := fun i => a (1 + i)) (hw := hw) (hn := (by omega))) gX8_read_X0_settleOn rfl hdX0_settleOn ⟨rfl, rfl, Nat.le_of_ble_eq_true rfl, Nat.le_of_ble_eq_true rfl⟩ rfl rfl (Nat.le_of_ble_eq_true rfl) ⟨Nat.zero_le _, Nat.zero_le _⟩ rfl rfl dX8_read_43) rfl rfl rfl (fun _ => rfl) (fun _ => rfl) (fun _ => rfl) (fun u_39 e_38 => ?_)
        refine v_world (ws' := (gS  a ks ++ gF cI a fd ++ gH cS a  ++ gX cL (fun i => a (44 + i)) s0 ++ gX cL (fun i => a (46 + i)) s1 ++ gX cL (fun i => a (48 + i)) s2 ++ gX cL (fun i => a (50 + i)) s3 ++ gW cI (fun i => a (1 + i)) wd ++ gG cI (fun i => a (31 + i)) (glS wd 0 gl) ++ gL cI cL (fun i => a (52 + i)) lr)) rfl ?_
        refine v_aload_n (j := 0) (x := a 0) G dX8_read_46 rfl rfl ?_
        refine v_get (q0 := 0) (k := 8) (v := .ref (a 52)) G k_X8 rfl rfl (by decide) q_4 rfl rfl dX8_read_47 ?_
        refine v_aload_n (j := 0) (x := a 0) G dX8_read_50 rfl rfl ?_
        refine v_get (q0 := 0) (k := 4) (v := .ref (a 31)) G k_X8 rfl rfl (by decide) q_2 rfl rfl dX8_read_51 ?_
        refine v_aload_n (j := 0) (x := a 0) G dX8_read_54 rfl rfl ?_
        refine v_get (q0 := 0) (k := 7) (v := .ref (a 43)) G k_X8 rfl rfl (by decide) q_1 rfl rfl dX8_read_55 ?_
        refine v_iload_n (j := 1) (x := jI 2) G dX8_read_58 rfl rfl ?_
        refine v_aald (q0 := 2) (t0 := 3) (y := a 48) (z := 2) G rfl rfl (by omega) rfl dX8_read_59 ?_
        refine v_ciG (w2 := (fun lr2 => (gS  a ks ++ gF cI a fd ++ gH cS a  ++ gX cL (fun i => a (44 + i)) s0 ++ gX cL (fun i => a (46 + i)) s1 ++ gX cL (fun i => a (48 + i)) s2 ++ gX cL (fun i => a (50 + i)) s3 ++ gW cI (fun i => a (1 + i)) wd ++ gG cI (fun i => a (31 + i)) (((glS wd 0 gl).1), ((glS wd 0 gl).2.1), ((glS wd 0 gl).2.2.1), ((glS wd 0 gl).2.2.2.1), ((glS wd 0 gl).2.2.2.2)) ++ gL cI cL (fun i => a (52 + i)) lr2))) G [gS  a ks, gF cI a fd, gH cS a , gX cL (fun i => a (44 + i)) s0, gX cL (fun i => a (46 + i)) s1, gX cL (fun i => a (48 + i)) s2, gX cL (fun i => a (50 + i)) s3, gW cI (fun i => a (1 + i)) wd, gG cI (fun i => a (31 + i)) (glS wd 0 gl), gL cI cL (fun i => a (52 + i)) lr] [gL cI cL (fun i => a (52 + i)) lr, gG cI (fun i => a (31 + i)) (glS wd 0 gl), gX cL (fun i => a (48 + i)) s2] [gS  a ks, gF cI a fd, gH cS a , gX cL (fun i => a (44 + i)) s0, gX cL (fun i => a (46 + i)) s1, gX cL (fun i => a (50 + i)) s3, gW cI (fun i => a (1 + i)) wd] (fun lr2 => [gS  a ks, gF cI a fd, gH cS a , gX cL (fun i => a (44 + i)) s0, gX cL (fun i => a (46 + i)) s1, gX cL (fun i => a (48 + i)) s2, gX cL (fun i => a (50 + i)) s3, gW cI (fun i => a (1 + i)) wd, gG cI (fun i => a (31 + i)) (((glS wd 0 gl).1), ((glS wd 0 gl).2.1), ((glS wd 0 gl).2.2.1), ((glS wd 0 gl).2.2.2.1), ((glS wd 0 gl).2.2.2.2)), gL cI cL (fun i => a (52 + i)) lr2]) (fun lr2 => [gL cI cL (fun i => a (52 + i)) lr2, gG cI (fun i => a (31 + i)) (((glS wd 0 gl).1), ((glS wd 0 gl).2.1), ((glS wd 0 gl).2.2.1), ((glS wd 0 gl).2.2.2.1), ((glS wd 0 gl).2.2.2.2)), gX cL (fun i => a (48 + i)) s2]) [9, 8, 5] (rn_V (As := [.ref (a 31), .ref (a 48)]) (rest := []) (q0 := 0) G (c_X1_countSets (lr := lr) (gl := (glS wd 0 gl)) (sx := s2) (a := a) (b := fun i => a (48 + i)) (hg := (glS_f hw (by omega) gl)) (hx := hx2)) gX8_read_X1_countSets rfl hdX1_countSets ⟨rfl, rfl, Nat.le_of_ble_eq_true rfl, Nat.le_of_ble_eq_true rfl⟩ rfl rfl (Nat.le_of_ble_eq_true rfl) ⟨Nat.zero_le _, Nat.zero_le _⟩ rfl rfl dX8_read_60) rfl rfl rfl (fun _ => rfl) (fun _ => rfl) (fun _ => rfl) (fun r_41 u_43 e_42 => ?_)
        obtain ⟨lr2_40, rfl⟩ : ∃ z, z = u_43 := ⟨_, rfl⟩
        have e_42 : r_41 = jI (crN (fun m_ => allZ (lkF s2.2.2 ((glS wd 0 gl).2.1) (fun b_ p_ => gvT (glS wd 0 gl) b_ p_) (glS wd 0 gl).1.toNat lr.1 (jmin s2.2.1 16).toNat (gq m_)) (jmin s2.2.1 16).toNat) (2 ^ (glS wd 0 gl).1.toNat)) ∧ True := e_42
        obtain ⟨e_420, e_42⟩ := e_42
        subst e_420
        refine v_world (ws' := (gS  a ks ++ gF cI a fd ++ gH cS a  ++ gX cL (fun i => a (44 + i)) s0 ++ gX cL (fun i => a (46 + i)) s1 ++ gX cL (fun i => a (48 + i)) s2 ++ gX cL (fun i => a (50 + i)) s3 ++ gW cI (fun i => a (1 + i)) wd ++ gG cI (fun i => a (31 + i)) (((glS wd 0 gl).1), ((glS wd 0 gl).2.1), ((glS wd 0 gl).2.2.1), ((glS wd 0 gl).2.2.2.1), ((glS wd 0 gl).2.2.2.2)) ++ gL cI cL (fun i => a (52 + i)) lr2_40)) rfl ?_
        exact v_iret G (fd, (((glS wd 0 gl).1), ((glS wd 0 gl).2.1), ((glS wd 0 gl).2.2.1), ((glS wd 0 gl).2.2.2.1), ((glS wd 0 gl).2.2.2.2)), lr2_40) (by first | exact Or.inr (Or.inr (Or.inr (Or.inr (Or.inr (Or.inl ⟨(by omega), (by first | rfl | exact congrArg jI (by omega)), rfl⟩))))) | exact Or.inr (Or.inr (Or.inr (Or.inr (Or.inr (Or.inr (Or.inl ⟨(by omega), (by first | rfl | exact congrArg jI (by omega)), rfl⟩))))))) rfl dX8_read_63
      · skip
        refine v_aload_n (j := 0) (x := a 0) G dX8_read_26 rfl rfl ?_
        refine v_ldcw (z := (-1000000006)) G q_5 (by decide) dX8_read_27 ?_
        refine v_ciG (w2 := (fun _ => (gS  a ks ++ gF cI a (uI fd 5 (fd 5 + 1)) ++ gH cS a  ++ gX cL (fun i => a (44 + i)) s0 ++ gX cL (fun i => a (46 + i)) s1 ++ gX cL (fun i => a (48 + i)) s2 ++ gX cL (fun i => a (50 + i)) s3 ++ gW cI (fun i => a (1 + i)) wd ++ gG cI (fun i => a (31 + i)) gl ++ gL cI cL (fun i => a (52 + i)) lr))) G [gS  a ks, gF cI a fd, gH cS a , gX cL (fun i => a (44 + i)) s0, gX cL (fun i => a (46 + i)) s1, gX cL (fun i => a (48 + i)) s2, gX cL (fun i => a (50 + i)) s3, gW cI (fun i => a (1 + i)) wd, gG cI (fun i => a (31 + i)) gl, gL cI cL (fun i => a (52 + i)) lr] [gS  a ks, gF cI a fd] [gH cS a , gX cL (fun i => a (44 + i)) s0, gX cL (fun i => a (46 + i)) s1, gX cL (fun i => a (48 + i)) s2, gX cL (fun i => a (50 + i)) s3, gW cI (fun i => a (1 + i)) wd, gG cI (fun i => a (31 + i)) gl, gL cI cL (fun i => a (52 + i)) lr] (fun _ => [gS  a ks, gF cI a (uI fd 5 (fd 5 + 1)), gH cS a , gX cL (fun i => a (44 + i)) s0, gX cL (fun i => a (46 + i)) s1, gX cL (fun i => a (48 + i)) s2, gX cL (fun i => a (50 + i)) s3, gW cI (fun i => a (1 + i)) wd, gG cI (fun i => a (31 + i)) gl, gL cI cL (fun i => a (52 + i)) lr]) (fun _ => [gS  a ks, gF cI a (uI fd 5 (fd 5 + 1))]) [0, 0] (rn_V (As := [.int (jI (-1000000006))]) (rest := []) (q0 := 0) G (c_X8_found_5 (ks := ks) (fd := fd) (a := a) ) gX8_read_X8_found rfl hdX8_found ⟨rfl, rfl, Nat.le_of_ble_eq_true rfl, Nat.le_of_ble_eq_true rfl⟩ rfl rfl (Nat.le_of_ble_eq_true rfl) ⟨Nat.zero_le _, Nat.zero_le _⟩ rfl rfl dX8_read_30) rfl rfl rfl (fun _ => rfl) (fun _ => rfl) (fun _ => rfl) (fun r_44 u_46 e_45 => ?_)
        have e_45 : r_44 = jI (-1000000006) := e_45
        subst e_45
        refine v_world (ws' := (gS  a ks ++ gF cI a (uI fd 5 (fd 5 + 1)) ++ gH cS a  ++ gX cL (fun i => a (44 + i)) s0 ++ gX cL (fun i => a (46 + i)) s1 ++ gX cL (fun i => a (48 + i)) s2 ++ gX cL (fun i => a (50 + i)) s3 ++ gW cI (fun i => a (1 + i)) wd ++ gG cI (fun i => a (31 + i)) gl ++ gL cI cL (fun i => a (52 + i)) lr)) rfl ?_
        exact v_iret G (uI fd 5 (fd 5 + 1), gl, lr) (by first | exact Or.inr (Or.inr (Or.inr (Or.inr (Or.inr (Or.inl ⟨(by omega), (by first | rfl | exact congrArg jI (by omega)), rfl⟩))))) | exact Or.inr (Or.inr (Or.inr (Or.inr (Or.inr (Or.inr (Or.inl ⟨(by omega), (by first | rfl | exact congrArg jI (by omega)), rfl⟩))))))) rfl dX8_read_33
    · skip
      refine v_aload_n (j := 0) (x := a 0) G dX8_read_14 rfl rfl ?_
      refine v_get (q0 := 0) (k := 7) (v := .ref (a 43)) G k_X8 rfl rfl (by decide) q_1 rfl rfl dX8_read_15 ?_
      refine v_iload_n (j := 1) (x := jI 3) G dX8_read_18 rfl rfl ?_
      refine v_aald (q0 := 2) (t0 := 3) (y := a 50) (z := 3) G rfl rfl (by omega) rfl dX8_read_19 ?_
      refine v_ciG (w2 := (fun _ => (gS  a ks ++ gF cI a fd ++ gH cS a  ++ gX cL (fun i => a (44 + i)) s0 ++ gX cL (fun i => a (46 + i)) s1 ++ gX cL (fun i => a (48 + i)) s2 ++ gX cL (fun i => a (50 + i)) s3 ++ gW cI (fun i => a (1 + i)) wd ++ gG cI (fun i => a (31 + i)) gl ++ gL cI cL (fun i => a (52 + i)) lr))) G [gS  a ks, gF cI a fd, gH cS a , gX cL (fun i => a (44 + i)) s0, gX cL (fun i => a (46 + i)) s1, gX cL (fun i => a (48 + i)) s2, gX cL (fun i => a (50 + i)) s3, gW cI (fun i => a (1 + i)) wd, gG cI (fun i => a (31 + i)) gl, gL cI cL (fun i => a (52 + i)) lr] [gX cL (fun i => a (50 + i)) s3] [gS  a ks, gF cI a fd, gH cS a , gX cL (fun i => a (44 + i)) s0, gX cL (fun i => a (46 + i)) s1, gX cL (fun i => a (48 + i)) s2, gW cI (fun i => a (1 + i)) wd, gG cI (fun i => a (31 + i)) gl, gL cI cL (fun i => a (52 + i)) lr] (fun _ => [gS  a ks, gF cI a fd, gH cS a , gX cL (fun i => a (44 + i)) s0, gX cL (fun i => a (46 + i)) s1, gX cL (fun i => a (48 + i)) s2, gX cL (fun i => a (50 + i)) s3, gW cI (fun i => a (1 + i)) wd, gG cI (fun i => a (31 + i)) gl, gL cI cL (fun i => a (52 + i)) lr]) (fun _ => [gX cL (fun i => a (50 + i)) s3]) [6] (rn_V (As := []) (rest := []) (q0 := 0) G (c_X3_isMissing (sx := s3) (b := fun i => a (50 + i)) (hx := hx3)) gX8_read_X3_isMissing rfl hdX3_isMissing ⟨rfl, rfl, Nat.le_of_ble_eq_true rfl, Nat.le_of_ble_eq_true rfl⟩ rfl rfl (Nat.le_of_ble_eq_true rfl) ⟨Nat.zero_le _, Nat.zero_le _⟩ rfl rfl dX8_read_20) rfl rfl rfl (fun _ => rfl) (fun _ => rfl) (fun _ => rfl) (fun r_47 u_49 e_48 => ?_)
      have e_48 : r_47 = jI (b2 (s3.1 = 0)) := e_48
      subst e_48
      refine v_world (ws' := (gS  a ks ++ gF cI a fd ++ gH cS a  ++ gX cL (fun i => a (44 + i)) s0 ++ gX cL (fun i => a (46 + i)) s1 ++ gX cL (fun i => a (48 + i)) s2 ++ gX cL (fun i => a (50 + i)) s3 ++ gW cI (fun i => a (1 + i)) wd ++ gG cI (fun i => a (31 + i)) gl ++ gL cI cL (fun i => a (52 + i)) lr)) rfl ?_
      refine v_ifb_eq (P := s3.1 = 0) (tgt := 34) G dX8_read_23 (by decide) (fun c_50 => ?_) (fun c_50 => ?_)
      · skip
        refine v_aload_n (j := 0) (x := a 0) G dX8_read_34 rfl rfl ?_
        refine v_get (q0 := 0) (k := 4) (v := .ref (a 31)) G k_X8 rfl rfl (by decide) q_2 rfl rfl dX8_read_35 ?_
        refine v_aload_n (j := 0) (x := a 0) G dX8_read_38 rfl rfl ?_
        refine v_get (q0 := 0) (k := 0) (v := .ref (a 1)) G k_X8 rfl rfl (by decide) q_3 rfl rfl dX8_read_39 ?_
        refine v_iconst G dX8_read_42 ?_
        refine v_cvG (w2 := (fun _ => (gS  a ks ++ gF cI a fd ++ gH cS a  ++ gX cL (fun i => a (44 + i)) s0 ++ gX cL (fun i => a (46 + i)) s1 ++ gX cL (fun i => a (48 + i)) s2 ++ gX cL (fun i => a (50 + i)) s3 ++ gW cI (fun i => a (1 + i)) wd ++ gG cI (fun i => a (31 + i)) (glS wd 0 gl) ++ gL cI cL (fun i => a (52 + i)) lr))) G [gS  a ks, gF cI a fd, gH cS a , gX cL (fun i => a (44 + i)) s0, gX cL (fun i => a (46 + i)) s1, gX cL (fun i => a (48 + i)) s2, gX cL (fun i => a (50 + i)) s3, gW cI (fun i => a (1 + i)) wd, gG cI (fun i => a (31 + i)) gl, gL cI cL (fun i => a (52 + i)) lr] [gG cI (fun i => a (31 + i)) gl, gW cI (fun i => a (1 + i)) wd] [gS  a ks, gF cI a fd, gH cS a , gX cL (fun i => a (44 + i)) s0, gX cL (fun i => a (46 + i)) s1, gX cL (fun i => a (48 + i)) s2, gX cL (fun i => a (50 + i)) s3, gL cI cL (fun i => a (52 + i)) lr] (fun _ => [gS  a ks, gF cI a fd, gH cS a , gX cL (fun i => a (44 + i)) s0, gX cL (fun i => a (46 + i)) s1, gX cL (fun i => a (48 + i)) s2, gX cL (fun i => a (50 + i)) s3, gW cI (fun i => a (1 + i)) wd, gG cI (fun i => a (31 + i)) (glS wd 0 gl), gL cI cL (fun i => a (52 + i)) lr]) (fun _ => [gG cI (fun i => a (31 + i)) (glS wd 0 gl), gW cI (fun i => a (1 + i)) wd]) [8, 7] (rn_V (As := [.ref (a 1), .int (jI 0)]) (rest := []) (q0 := 0) G (c_X0_settleOn (n := 0) (g := gl) (x := wd) (c := fun i => a (31 + i)) (b := fun i => a (1 + i)) (hw := hw) (hn := (by omega))) gX8_read_X0_settleOn rfl hdX0_settleOn ⟨rfl, rfl, Nat.le_of_ble_eq_true rfl, Nat.le_of_ble_eq_true rfl⟩ rfl rfl (Nat.le_of_ble_eq_true rfl) ⟨Nat.zero_le _, Nat.zero_le _⟩ rfl rfl dX8_read_43) rfl rfl rfl (fun _ => rfl) (fun _ => rfl) (fun _ => rfl) (fun u_53 e_52 => ?_)
        refine v_world (ws' := (gS  a ks ++ gF cI a fd ++ gH cS a  ++ gX cL (fun i => a (44 + i)) s0 ++ gX cL (fun i => a (46 + i)) s1 ++ gX cL (fun i => a (48 + i)) s2 ++ gX cL (fun i => a (50 + i)) s3 ++ gW cI (fun i => a (1 + i)) wd ++ gG cI (fun i => a (31 + i)) (glS wd 0 gl) ++ gL cI cL (fun i => a (52 + i)) lr)) rfl ?_
        refine v_aload_n (j := 0) (x := a 0) G dX8_read_46 rfl rfl ?_
        refine v_get (q0 := 0) (k := 8) (v := .ref (a 52)) G k_X8 rfl rfl (by decide) q_4 rfl rfl dX8_read_47 ?_
        refine v_aload_n (j := 0) (x := a 0) G dX8_read_50 rfl rfl ?_
        refine v_get (q0 := 0) (k := 4) (v := .ref (a 31)) G k_X8 rfl rfl (by decide) q_2 rfl rfl dX8_read_51 ?_
        refine v_aload_n (j := 0) (x := a 0) G dX8_read_54 rfl rfl ?_
        refine v_get (q0 := 0) (k := 7) (v := .ref (a 43)) G k_X8 rfl rfl (by decide) q_1 rfl rfl dX8_read_55 ?_
        refine v_iload_n (j := 1) (x := jI 3) G dX8_read_58 rfl rfl ?_
        refine v_aald (q0 := 2) (t0 := 3) (y := a 50) (z := 3) G rfl rfl (by omega) rfl dX8_read_59 ?_
        refine v_ciG (w2 := (fun lr2 => (gS  a ks ++ gF cI a fd ++ gH cS a  ++ gX cL (fun i => a (44 + i)) s0 ++ gX cL (fun i => a (46 + i)) s1 ++ gX cL (fun i => a (48 + i)) s2 ++ gX cL (fun i => a (50 + i)) s3 ++ gW cI (fun i => a (1 + i)) wd ++ gG cI (fun i => a (31 + i)) (((glS wd 0 gl).1), ((glS wd 0 gl).2.1), ((glS wd 0 gl).2.2.1), ((glS wd 0 gl).2.2.2.1), ((glS wd 0 gl).2.2.2.2)) ++ gL cI cL (fun i => a (52 + i)) lr2))) G [gS  a ks, gF cI a fd, gH cS a , gX cL (fun i => a (44 + i)) s0, gX cL (fun i => a (46 + i)) s1, gX cL (fun i => a (48 + i)) s2, gX cL (fun i => a (50 + i)) s3, gW cI (fun i => a (1 + i)) wd, gG cI (fun i => a (31 + i)) (glS wd 0 gl), gL cI cL (fun i => a (52 + i)) lr] [gL cI cL (fun i => a (52 + i)) lr, gG cI (fun i => a (31 + i)) (glS wd 0 gl), gX cL (fun i => a (50 + i)) s3] [gS  a ks, gF cI a fd, gH cS a , gX cL (fun i => a (44 + i)) s0, gX cL (fun i => a (46 + i)) s1, gX cL (fun i => a (48 + i)) s2, gW cI (fun i => a (1 + i)) wd] (fun lr2 => [gS  a ks, gF cI a fd, gH cS a , gX cL (fun i => a (44 + i)) s0, gX cL (fun i => a (46 + i)) s1, gX cL (fun i => a (48 + i)) s2, gX cL (fun i => a (50 + i)) s3, gW cI (fun i => a (1 + i)) wd, gG cI (fun i => a (31 + i)) (((glS wd 0 gl).1), ((glS wd 0 gl).2.1), ((glS wd 0 gl).2.2.1), ((glS wd 0 gl).2.2.2.1), ((glS wd 0 gl).2.2.2.2)), gL cI cL (fun i => a (52 + i)) lr2]) (fun lr2 => [gL cI cL (fun i => a (52 + i)) lr2, gG cI (fun i => a (31 + i)) (((glS wd 0 gl).1), ((glS wd 0 gl).2.1), ((glS wd 0 gl).2.2.1), ((glS wd 0 gl).2.2.2.1), ((glS wd 0 gl).2.2.2.2)), gX cL (fun i => a (50 + i)) s3]) [9, 8, 6] (rn_V (As := [.ref (a 31), .ref (a 50)]) (rest := []) (q0 := 0) G (c_X1_countSets (lr := lr) (gl := (glS wd 0 gl)) (sx := s3) (a := a) (b := fun i => a (50 + i)) (hg := (glS_f hw (by omega) gl)) (hx := hx3)) gX8_read_X1_countSets rfl hdX1_countSets ⟨rfl, rfl, Nat.le_of_ble_eq_true rfl, Nat.le_of_ble_eq_true rfl⟩ rfl rfl (Nat.le_of_ble_eq_true rfl) ⟨Nat.zero_le _, Nat.zero_le _⟩ rfl rfl dX8_read_60) rfl rfl rfl (fun _ => rfl) (fun _ => rfl) (fun _ => rfl) (fun r_55 u_57 e_56 => ?_)
        obtain ⟨lr2_54, rfl⟩ : ∃ z, z = u_57 := ⟨_, rfl⟩
        have e_56 : r_55 = jI (crN (fun m_ => allZ (lkF s3.2.2 ((glS wd 0 gl).2.1) (fun b_ p_ => gvT (glS wd 0 gl) b_ p_) (glS wd 0 gl).1.toNat lr.1 (jmin s3.2.1 16).toNat (gq m_)) (jmin s3.2.1 16).toNat) (2 ^ (glS wd 0 gl).1.toNat)) ∧ True := e_56
        obtain ⟨e_560, e_56⟩ := e_56
        subst e_560
        refine v_world (ws' := (gS  a ks ++ gF cI a fd ++ gH cS a  ++ gX cL (fun i => a (44 + i)) s0 ++ gX cL (fun i => a (46 + i)) s1 ++ gX cL (fun i => a (48 + i)) s2 ++ gX cL (fun i => a (50 + i)) s3 ++ gW cI (fun i => a (1 + i)) wd ++ gG cI (fun i => a (31 + i)) (((glS wd 0 gl).1), ((glS wd 0 gl).2.1), ((glS wd 0 gl).2.2.1), ((glS wd 0 gl).2.2.2.1), ((glS wd 0 gl).2.2.2.2)) ++ gL cI cL (fun i => a (52 + i)) lr2_54)) rfl ?_
        exact v_iret G (fd, (((glS wd 0 gl).1), ((glS wd 0 gl).2.1), ((glS wd 0 gl).2.2.1), ((glS wd 0 gl).2.2.2.1), ((glS wd 0 gl).2.2.2.2)), lr2_54) (by first | exact Or.inr (Or.inr (Or.inr (Or.inr (Or.inr (Or.inr (Or.inr (Or.inl ⟨(by omega), (by first | rfl | exact congrArg jI (by omega)), rfl⟩))))))) | exact Or.inr (Or.inr (Or.inr (Or.inr (Or.inr (Or.inr (Or.inr (Or.inr (⟨(by omega), (by first | rfl | exact congrArg jI (by omega)), rfl⟩))))))))) rfl dX8_read_63
      · skip
        refine v_aload_n (j := 0) (x := a 0) G dX8_read_26 rfl rfl ?_
        refine v_ldcw (z := (-1000000006)) G q_5 (by decide) dX8_read_27 ?_
        refine v_ciG (w2 := (fun _ => (gS  a ks ++ gF cI a (uI fd 5 (fd 5 + 1)) ++ gH cS a  ++ gX cL (fun i => a (44 + i)) s0 ++ gX cL (fun i => a (46 + i)) s1 ++ gX cL (fun i => a (48 + i)) s2 ++ gX cL (fun i => a (50 + i)) s3 ++ gW cI (fun i => a (1 + i)) wd ++ gG cI (fun i => a (31 + i)) gl ++ gL cI cL (fun i => a (52 + i)) lr))) G [gS  a ks, gF cI a fd, gH cS a , gX cL (fun i => a (44 + i)) s0, gX cL (fun i => a (46 + i)) s1, gX cL (fun i => a (48 + i)) s2, gX cL (fun i => a (50 + i)) s3, gW cI (fun i => a (1 + i)) wd, gG cI (fun i => a (31 + i)) gl, gL cI cL (fun i => a (52 + i)) lr] [gS  a ks, gF cI a fd] [gH cS a , gX cL (fun i => a (44 + i)) s0, gX cL (fun i => a (46 + i)) s1, gX cL (fun i => a (48 + i)) s2, gX cL (fun i => a (50 + i)) s3, gW cI (fun i => a (1 + i)) wd, gG cI (fun i => a (31 + i)) gl, gL cI cL (fun i => a (52 + i)) lr] (fun _ => [gS  a ks, gF cI a (uI fd 5 (fd 5 + 1)), gH cS a , gX cL (fun i => a (44 + i)) s0, gX cL (fun i => a (46 + i)) s1, gX cL (fun i => a (48 + i)) s2, gX cL (fun i => a (50 + i)) s3, gW cI (fun i => a (1 + i)) wd, gG cI (fun i => a (31 + i)) gl, gL cI cL (fun i => a (52 + i)) lr]) (fun _ => [gS  a ks, gF cI a (uI fd 5 (fd 5 + 1))]) [0, 0] (rn_V (As := [.int (jI (-1000000006))]) (rest := []) (q0 := 0) G (c_X8_found_5 (ks := ks) (fd := fd) (a := a) ) gX8_read_X8_found rfl hdX8_found ⟨rfl, rfl, Nat.le_of_ble_eq_true rfl, Nat.le_of_ble_eq_true rfl⟩ rfl rfl (Nat.le_of_ble_eq_true rfl) ⟨Nat.zero_le _, Nat.zero_le _⟩ rfl rfl dX8_read_30) rfl rfl rfl (fun _ => rfl) (fun _ => rfl) (fun _ => rfl) (fun r_58 u_60 e_59 => ?_)
        have e_59 : r_58 = jI (-1000000006) := e_59
        subst e_59
        refine v_world (ws' := (gS  a ks ++ gF cI a (uI fd 5 (fd 5 + 1)) ++ gH cS a  ++ gX cL (fun i => a (44 + i)) s0 ++ gX cL (fun i => a (46 + i)) s1 ++ gX cL (fun i => a (48 + i)) s2 ++ gX cL (fun i => a (50 + i)) s3 ++ gW cI (fun i => a (1 + i)) wd ++ gG cI (fun i => a (31 + i)) gl ++ gL cI cL (fun i => a (52 + i)) lr)) rfl ?_
        exact v_iret G (uI fd 5 (fd 5 + 1), gl, lr) (by first | exact Or.inr (Or.inr (Or.inr (Or.inr (Or.inr (Or.inr (Or.inr (Or.inl ⟨(by omega), (by first | rfl | exact congrArg jI (by omega)), rfl⟩))))))) | exact Or.inr (Or.inr (Or.inr (Or.inr (Or.inr (Or.inr (Or.inr (Or.inr (⟨(by omega), (by first | rfl | exact congrArg jI (by omega)), rfl⟩))))))))) rfl dX8_read_33
  · skip
    refine v_aload_n (j := 0) (x := a 0) G dX8_read_7 rfl rfl ?_
    refine v_ldc (z := (-1000000001)) G q_6 (by decide) dX8_read_8 ?_
    refine v_ciG (w2 := (fun _ => (gS  a ks ++ gF cI a (uI fd 0 (fd 0 + 1)) ++ gH cS a  ++ gX cL (fun i => a (44 + i)) s0 ++ gX cL (fun i => a (46 + i)) s1 ++ gX cL (fun i => a (48 + i)) s2 ++ gX cL (fun i => a (50 + i)) s3 ++ gW cI (fun i => a (1 + i)) wd ++ gG cI (fun i => a (31 + i)) gl ++ gL cI cL (fun i => a (52 + i)) lr))) G [gS  a ks, gF cI a fd, gH cS a , gX cL (fun i => a (44 + i)) s0, gX cL (fun i => a (46 + i)) s1, gX cL (fun i => a (48 + i)) s2, gX cL (fun i => a (50 + i)) s3, gW cI (fun i => a (1 + i)) wd, gG cI (fun i => a (31 + i)) gl, gL cI cL (fun i => a (52 + i)) lr] [gS  a ks, gF cI a fd] [gH cS a , gX cL (fun i => a (44 + i)) s0, gX cL (fun i => a (46 + i)) s1, gX cL (fun i => a (48 + i)) s2, gX cL (fun i => a (50 + i)) s3, gW cI (fun i => a (1 + i)) wd, gG cI (fun i => a (31 + i)) gl, gL cI cL (fun i => a (52 + i)) lr] (fun _ => [gS  a ks, gF cI a (uI fd 0 (fd 0 + 1)), gH cS a , gX cL (fun i => a (44 + i)) s0, gX cL (fun i => a (46 + i)) s1, gX cL (fun i => a (48 + i)) s2, gX cL (fun i => a (50 + i)) s3, gW cI (fun i => a (1 + i)) wd, gG cI (fun i => a (31 + i)) gl, gL cI cL (fun i => a (52 + i)) lr]) (fun _ => [gS  a ks, gF cI a (uI fd 0 (fd 0 + 1))]) [0, 0] (rn_V (As := [.int (jI (-1000000001))]) (rest := []) (q0 := 0) G (c_X8_found_0 (ks := ks) (fd := fd) (a := a) ) gX8_read_X8_found rfl hdX8_found ⟨rfl, rfl, Nat.le_of_ble_eq_true rfl, Nat.le_of_ble_eq_true rfl⟩ rfl rfl (Nat.le_of_ble_eq_true rfl) ⟨Nat.zero_le _, Nat.zero_le _⟩ rfl rfl dX8_read_10) rfl rfl rfl (fun _ => rfl) (fun _ => rfl) (fun _ => rfl) (fun r_61 u_63 e_62 => ?_)
    have e_62 : r_61 = jI (-1000000001) := e_62
    subst e_62
    refine v_world (ws' := (gS  a ks ++ gF cI a (uI fd 0 (fd 0 + 1)) ++ gH cS a  ++ gX cL (fun i => a (44 + i)) s0 ++ gX cL (fun i => a (46 + i)) s1 ++ gX cL (fun i => a (48 + i)) s2 ++ gX cL (fun i => a (50 + i)) s3 ++ gW cI (fun i => a (1 + i)) wd ++ gG cI (fun i => a (31 + i)) gl ++ gL cI cL (fun i => a (52 + i)) lr)) rfl ?_
    exact v_iret G (uI fd 0 (fd 0 + 1), gl, lr) (by first | exact Or.inl ⟨(by omega), (by first | rfl | exact congrArg jI (by omega)), rfl⟩) rfl dX8_read_13
end

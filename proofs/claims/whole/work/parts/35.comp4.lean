def gAL (cL : ClassId) (x : Nat) (N : Nat) (f : Int → Int64) : va_W := [(x, .inl (cL, N, .inr (.inl (jLA f))))]
/-- the most of the first n, and c -/
def mxN (f : Int → Int) (e : Int) : Nat → Int
  | 0 => e
  | k + 1 => jmax (mxN f e k) (f (k : Int))
theorem mxN_r {f : Int → Int} {e : Int} (he : 0 ≤ e ∧ e ≤ 3069) (h : ∀ j : Int, 0 ≤ j → j < 16 → 0 ≤ f j ∧ f j ≤ 3069) : ∀ k : Nat, k ≤ 16 → 0 ≤ mxN f e k ∧ mxN f e k ≤ 3069 := by
  intro k
  induction k with
  | zero => intro _; exact he
  | succ k ih =>
    intro hk
    have i := ih (by omega)
    have j := h (k : Int) (by omega) (by omega)
    have z := jmax_z (mxN f e k) (f (k : Int))
    show 0 ≤ jmax _ _ ∧ jmax _ _ ≤ 3069
    omega
/-- the least bound under which there is a way -/
def glN (f : Int → Int) (x t : Int) : Nat → Int
  | 0 => mxN f (jmax (f x) (f t)) 16
  | k + 1 => if (jmax (f x) (f t) ≤ f (k : Int) ∧ f (k : Int) < glN f x t k) ∧ 0 ≤ sSt f t (f (k : Int)) x then f (k : Int) else glN f x t k
theorem glN_r {f : Int → Int} {x t : Int} (hx : 0 ≤ x ∧ x < 16) (ht : 0 ≤ t ∧ t < 16) (h : ∀ j : Int, 0 ≤ j → j < 16 → 0 ≤ f j ∧ f j ≤ 3069) : ∀ k : Nat, k ≤ 16 → 0 ≤ glN f x t k ∧ glN f x t k ≤ 3069 := by
  intro k
  induction k with
  | zero =>
    intro _
    have a := h x hx.1 hx.2
    have b := h t ht.1 ht.2
    have c := jmax_z (f x) (f t)
    exact mxN_r (by omega) h 16 (Nat.le_refl _)
  | succ k ih =>
    intro hk
    have i := ih (by omega)
    have j := h (k : Int) (by omega) (by omega)
    unfold glN
    split <;> omega
section
variable {l : Launch} {D : va_G} {cI cL cB cS : ClassId} {a b c : Nat → Nat} {x o wd kw tw : WT} {g gl : GT} {fd li : Int → Int} {wy : (Int → Int) × (Int → Int)} {lr : (Int → Int64) × (Int → Int)} {nx : Int} {ta : (Int → Int) × Int} {tk : (Int → Int) × (Int → Int) × (Int → Int) × Int} {s0 s1 s2 s3 : Int × Int × (Int → Int64)} {ks : Int}
set_option maxHeartbeats 4000000 in
set_option maxRecDepth 100000 in
theorem c_J7_fill_53178 (y : Nat) (f : Int → Int) (N : Nat) (x : Int) (hn : N ≤ 1000) : Cv l yJ7_fill_53178 wsJ7_fill_53178 { frames := 0, cells := 0, slots := 0, locals := 0 } D (jT cI cL cB cS) [.ref y, .int (jI x)] (gA1 cI y N f) (S := Unit) (fun _ => (gA1 cI y N (fun _ => x))) (fun _ => True) := by
  refine Cv.mk (cc := cJ7_fill_53178) (maxL := 4) (by decide) rfl (Nat.le_of_ble_eq_true rfl) rfl ?_
  intro p_ e_ s_ m_ b_ me_ c_ A_ G hnm
  refine v_iconst G dJ7_fill_53178_0 ?_
  refine v_istore_n (lv' := [(2, .int (jI 0)), (0, .ref y), (1, .int (jI x))]) G dJ7_fill_53178_1 rfl (by decide) rfl ?_
  refine v_aload_n (j := 1) (x := y) G dJ7_fill_53178_2 rfl rfl ?_
  refine v_alen (q0 := 0) (t0 := 0) (z := (N : Int)) G rfl rfl rfl dJ7_fill_53178_3 ?_
  refine v_istore_n (lv' := [(3, .int (jI (N : Int))), (2, .int (jI 0)), (0, .ref y), (1, .int (jI x))]) G dJ7_fill_53178_4 rfl (by decide) rfl ?_
  refine v_cell (q0 := 0) (g := f) (g' := cpN (fun _ => x) f 0) (ws' := (gA1 cI y N (cpN (fun _ => x) f 0))) rfl (fun j h0 _ => by unfold cpN; rw [if_neg (by omega)]) rfl ?_
  refine v_locs (lv' := [(2, .int (jI 0)), (3, .int (jI (N : Int))), (0, .ref y), (1, .int (jI x))]) [1, 0, 2, 3] rfl ?_
  refine v_loop1 (fun (k : Nat) => [(2, .int (jI (k : Int))), (3, .int (jI (N : Int))), (0, .ref y), (1, .int (jI x))]) (fun (k : Nat) => (gA1 cI y N (cpN (fun _ => x) f k))) (fun (k : Nat) => k ≤ N) (fun (k : Nat) => N - k) 0 (by omega) rfl rfl ?_
  intro k I_1 ih_2
  refine v_iload_n (j := 0) (x := jI (k : Int)) G dJ7_fill_53178_5 rfl rfl ?_
  refine v_iload_n (j := 1) (x := jI (N : Int)) G dJ7_fill_53178_6 rfl rfl ?_
  refine v_icmp_ge (a := (k : Int)) (b := (N : Int)) (tgt := 20) G dJ7_fill_53178_7 (by decide) (by omega) (fun c_3 => ?_) (fun c_3 => ?_)
  · skip
    refine v_cell (q0 := 0) (g := cpN (fun _ => x) f k) (g' := fun _ => x) (ws' := (gA1 cI y N (fun _ => x))) rfl (fun j h0 _ => by unfold cpN; rw [if_pos (by omega)]) rfl ?_
    exact v_vret G () trivial rfl dJ7_fill_53178_20
  · skip
    refine v_aload_n (j := 2) (x := y) G dJ7_fill_53178_10 rfl rfl ?_
    refine v_iload_n (j := 0) (x := jI (k : Int)) G dJ7_fill_53178_11 rfl rfl ?_
    refine v_iload_n (j := 3) (x := jI x) G dJ7_fill_53178_12 rfl rfl ?_
    refine v_iast (q0 := 0) (t0 := 0) (g := cpN (fun _ => x) f k) (z := (k : Int)) (x := x) (ws' := (gA1 cI y N (uI (cpN (fun _ => x) f k) (k : Int) x))) G rfl rfl (by omega) rfl dJ7_fill_53178_13 ?_
    refine v_cell (q0 := 0) (g := uI (cpN (fun _ => x) f k) (k : Int) x) (g' := cpN (fun _ => x) f (k + 1)) (ws' := (gA1 cI y N (cpN (fun _ => x) f (k + 1)))) rfl (fun j h0 _ => cpN_s (fun _ => x) f k j h0) rfl ?_
    refine v_iinc (k := 0) (z := (k : Int)) (z' := ((k + 1 : Nat) : Int)) (lv' := [(2, .int (jI ((k + 1 : Nat) : Int))), (3, .int (jI (N : Int))), (0, .ref y), (1, .int (jI x))]) G dJ7_fill_53178_14 rfl (by omega) (by decide) rfl ?_
    refine v_goto (tgt := 5) G dJ7_fill_53178_17 (by decide) ?_
    exact ih_2 (k + 1) (by omega) (by omega)

set_option maxHeartbeats 4000000 in
set_option maxRecDepth 100000 in
theorem c_X6_spreadFrom (t v : Int) (hl : ∀ j : Int, 0 ≤ j → j < 16 → 0 ≤ li j ∧ li j ≤ 3069) (ht : (0 ≤ t ∧ t < 16) ∧ 0 ≤ v ∧ v ≤ 9999) : Cv l yX6_spreadFrom wsX6_spreadFrom { frames := 2, cells := 0, slots := 0, locals := 42 } D (jT cI cL cB cS) [.ref (a 55), .ref (a 58), .int (jI t), .int (jI v)] (gY cI (fun i => a (55 + i)) wy ++ gI cI a li) (S := (Int → Int)) (fun yq2 => (gY cI (fun i => a (55 + i)) (sSt li t v, yq2) ++ gI cI a li)) (fun yq2 => True) := by
  refine Cv.mk (cc := cX6_spreadFrom) (maxL := 9) (by decide) rfl (Nat.le_of_ble_eq_true rfl) rfl ?_
  intro p_ e_ s_ m_ b_ me_ c_ A_ G hnm
  have k_X6 : ∀ w ∈ u_ws RX6 TX6 2, w ∈ wsX6_spreadFrom := fun _ h => List.mem_cons_of_mem _ (List.mem_append_right _ h)
  have q_1 : Cond.fieldLink RX6 9 "SupperLight$Ways" "steps" "[I" ∈ wsX6_spreadFrom := List.mem_of_getElem? (i := 1) rfl
  have q_2 : Cond.fieldLink RX6 15 "SupperLight$Ways" "queue" "[I" ∈ wsX6_spreadFrom := List.mem_of_getElem? (i := 2) rfl
  have q_3 : Cond.initialized RX8 ∈ wsX6_spreadFrom := List.mem_of_getElem? (i := 8) rfl
  have q_4 : Cond.static yX8_stepsBetween ∈ wsX6_spreadFrom := List.mem_of_getElem? (i := 7) rfl
  refine v_aload_n (j := 0) (x := a 55) G dX6_spreadFrom_0 rfl rfl ?_
  refine v_get (q0 := 0) (k := 0) (v := .ref (a 56)) G k_X6 rfl rfl (by decide) q_1 rfl rfl dX6_spreadFrom_1 ?_
  refine v_iconst G dX6_spreadFrom_4 ?_
  refine v_cvA (q0 := 1) (ws' := (gY cI (fun i => a (55 + i)) (fun _ => (-1), wy.2) ++ gI cI a li)) G rfl rfl (rn_S (As := [.ref (a 56), .int (jI (-1))]) (rest := []) G (c_J7_fill_53178 (x := (-1)) (y := a 56) (f := wy.1) (N := 16) (hn := (by omega))) gX6_spreadFrom_J7_fill_53178 rfl hdJ7_fill_53178 ⟨rfl, rfl, Nat.le_of_ble_eq_true rfl, Nat.le_of_ble_eq_true rfl⟩ rfl rfl (Nat.le_of_ble_eq_true rfl) ⟨Nat.zero_le _, Nat.zero_le _⟩ dX6_spreadFrom_5) (fun u_3 e_2 => ?_)
  refine v_aload_n (j := 1) (x := a 58) G dX6_spreadFrom_8 rfl rfl ?_
  refine v_iload_n (j := 2) (x := jI t) G dX6_spreadFrom_9 rfl rfl ?_
  refine v_iald (q0 := 3) (t0 := 0) (g := li) (z := t) G rfl rfl (by omega) dX6_spreadFrom_10 ?_
  have hlt := hl t (by omega) (by omega)
  refine v_iload_n (j := 3) (x := jI v) G dX6_spreadFrom_11 rfl rfl ?_
  refine v_icmp_le (a := li t) (b := v) (tgt := 16) G dX6_spreadFrom_12 (by decide) (by omega) (fun c_4 => ?_) (fun c_4 => ?_)
  · skip
    refine v_iconst G dX6_spreadFrom_16 ?_
    refine v_istore (lv' := [(4, .int (jI 0)), (0, .ref (a 55)), (1, .ref (a 58)), (2, .int (jI t)), (3, .int (jI v))]) G dX6_spreadFrom_17 (by decide) rfl ?_
    refine v_aload_n (j := 1) (x := a 55) G dX6_spreadFrom_19 rfl rfl ?_
    refine v_get (q0 := 0) (k := 0) (v := .ref (a 56)) G k_X6 rfl rfl (by decide) q_1 rfl rfl dX6_spreadFrom_20 ?_
    refine v_iload_n (j := 3) (x := jI t) G dX6_spreadFrom_23 rfl rfl ?_
    refine v_iconst G dX6_spreadFrom_24 ?_
    refine v_iast (q0 := 1) (t0 := 0) (g := fun _ => (-1)) (z := t) (x := 0) (ws' := (gY cI (fun i => a (55 + i)) (uI (fun _ => (-1)) t 0, wy.2) ++ gI cI a li)) G rfl rfl (by omega) rfl dX6_spreadFrom_25 ?_
    refine v_aload_n (j := 1) (x := a 55) G dX6_spreadFrom_26 rfl rfl ?_
    refine v_get (q0 := 0) (k := 1) (v := .ref (a 57)) G k_X6 rfl rfl (by decide) q_2 rfl rfl dX6_spreadFrom_27 ?_
    refine v_iload (j := 0) (x := jI 0) G dX6_spreadFrom_30 rfl ?_
    refine v_iinc (k := 0) (z := 0) (z' := 1) (lv' := [(4, .int (jI 1)), (0, .ref (a 55)), (1, .ref (a 58)), (2, .int (jI t)), (3, .int (jI v))]) G dX6_spreadFrom_32 rfl (by omega) (by decide) rfl ?_
    refine v_iload_n (j := 3) (x := jI t) G dX6_spreadFrom_35 rfl rfl ?_
    refine v_iast (q0 := 2) (t0 := 0) (g := wy.2) (z := 0) (x := t) (ws' := (gY cI (fun i => a (55 + i)) (uI (fun _ => (-1)) t 0, uI wy.2 0 t) ++ gI cI a li)) G rfl rfl (by omega) rfl dX6_spreadFrom_36 ?_
    refine v_iconst G dX6_spreadFrom_37 ?_
    refine v_istore (lv' := [(5, .int (jI 0)), (4, .int (jI 1)), (0, .ref (a 55)), (1, .ref (a 58)), (2, .int (jI t)), (3, .int (jI v))]) G dX6_spreadFrom_38 (by decide) rfl ?_
    refine v_locs (lv' := [(5, .int (jI 0)), (4, .int (jI 1)), (0, .ref (a 55)), (1, .ref (a 58)), (2, .int (jI t)), (3, .int (jI v))]) [0, 1, 2, 3, 4, 5] rfl ?_
    refine v_loop1 (fun (h : Nat) => [(5, .int (jI (h : Int))), (4, .int (jI ((qO li v (q0 wy.2 t) h).2.2))), (0, .ref (a 55)), (1, .ref (a 58)), (2, .int (jI t)), (3, .int (jI v))]) (fun (h : Nat) => (gY cI (fun i => a (55 + i)) ((qO li v (q0 wy.2 t) h).1, (qO li v (q0 wy.2 t) h).2.1) ++ gI cI a li)) (fun (h : Nat) => h ≤ 16) (fun (h : Nat) => 16 - h) 0 (by omega) rfl rfl ?_
    intro h I_5 ih_6
    have hV := qO_V (lt := li) (v := v) wy.2 ht.1 (by omega) h
    have hn := hV.1
    refine v_iload (j := 0) (x := jI (h : Int)) G dX6_spreadFrom_40 rfl ?_
    refine v_iload (j := 1) (x := jI ((qO li v (q0 wy.2 t) h).2.2)) G dX6_spreadFrom_42 rfl ?_
    refine v_icmp_ge (a := (h : Int)) (b := (qO li v (q0 wy.2 t) h).2.2) (tgt := 161) G dX6_spreadFrom_44 (by decide) (by omega) (fun c_7 => ?_) (fun c_7 => ?_)
    · skip
      have hqe := qO_end (lt := li) (v := v) (x := q0 wy.2 t) (h := h) (by omega) (16 - h)
      rw [show h + (16 - h) = 16 by omega] at hqe
      refine v_cell (q0 := 1) (g := (qO li v (q0 wy.2 t) h).1) (g' := sSt li t v) (ws' := (gY cI (fun i => a (55 + i)) (sSt li t v, (qO li v (q0 wy.2 t) h).2.1) ++ gI cI a li)) rfl (fun j h0 h1 => by rw [← hqe]; exact q_st wy.2 ht.1 (by omega) j h0 (by omega)) rfl ?_
      exact v_vret G (qO li v (q0 wy.2 t) h).2.1 trivial rfl dX6_spreadFrom_161
    · skip
      refine v_iload (j := 0) (x := jI (h : Int)) G dX6_spreadFrom_47 rfl ?_
      refine v_bipush G dX6_spreadFrom_49 (by decide) ?_
      refine v_icmp_ge (a := (h : Int)) (b := 16) (tgt := 161) G dX6_spreadFrom_51 (by decide) (by omega) (fun c_8 => ?_) (fun c_8 => ?_)
      · skip
        have hqe := qO_end (lt := li) (v := v) (x := q0 wy.2 t) (h := h) (by omega) (16 - h)
        rw [show h + (16 - h) = 16 by omega] at hqe
        refine v_cell (q0 := 1) (g := (qO li v (q0 wy.2 t) h).1) (g' := sSt li t v) (ws' := (gY cI (fun i => a (55 + i)) (sSt li t v, (qO li v (q0 wy.2 t) h).2.1) ++ gI cI a li)) rfl (fun j h0 h1 => by rw [← hqe]; exact q_st wy.2 ht.1 (by omega) j h0 (by omega)) rfl ?_
        exact v_vret G (qO li v (q0 wy.2 t) h).2.1 trivial rfl dX6_spreadFrom_161
      · skip
        refine v_aload_n (j := 2) (x := a 55) G dX6_spreadFrom_54 rfl rfl ?_
        refine v_get (q0 := 0) (k := 1) (v := .ref (a 57)) G k_X6 rfl rfl (by decide) q_2 rfl rfl dX6_spreadFrom_55 ?_
        refine v_iload (j := 0) (x := jI (h : Int)) G dX6_spreadFrom_58 rfl ?_
        refine v_iald (q0 := 2) (t0 := 0) (g := (qO li v (q0 wy.2 t) h).2.1) (z := (h : Int)) G rfl rfl (by omega) dX6_spreadFrom_60 ?_
        have he := hV.2.1 (h : Int) (by omega) (by omega)
        refine v_istore (lv' := [(6, .int (jI (((qO li v (q0 wy.2 t) h).2.1) (h : Int)))), (5, .int (jI (h : Int))), (4, .int (jI ((qO li v (q0 wy.2 t) h).2.2))), (0, .ref (a 55)), (1, .ref (a 58)), (2, .int (jI t)), (3, .int (jI v))]) G dX6_spreadFrom_61 (by decide) rfl ?_
        refine v_iconst G dX6_spreadFrom_63 ?_
        refine v_istore (lv' := [(7, .int (jI 0)), (6, .int (jI (((qO li v (q0 wy.2 t) h).2.1) (h : Int)))), (5, .int (jI (h : Int))), (4, .int (jI ((qO li v (q0 wy.2 t) h).2.2))), (0, .ref (a 55)), (1, .ref (a 58)), (2, .int (jI t)), (3, .int (jI v))]) G dX6_spreadFrom_64 (by decide) rfl ?_
        refine v_locs (lv' := [(7, .int (jI 0)), (4, .int (jI ((qO li v (q0 wy.2 t) h).2.2))), (6, .int (jI (((qO li v (q0 wy.2 t) h).2.1) (h : Int)))), (5, .int (jI (h : Int))), (0, .ref (a 55)), (1, .ref (a 58)), (2, .int (jI t)), (3, .int (jI v))]) [0, 3, 1, 2, 4, 5, 6, 7] rfl ?_
        refine v_loop1 (fun (k : Nat) => [(7, .int (jI (k : Int))), (4, .int (jI ((qI li v ((qO li v (q0 wy.2 t) h).2.1 (h : Int)) (qO li v (q0 wy.2 t) h) k).2.2))), (6, .int (jI (((qO li v (q0 wy.2 t) h).2.1) (h : Int)))), (5, .int (jI (h : Int))), (0, .ref (a 55)), (1, .ref (a 58)), (2, .int (jI t)), (3, .int (jI v))]) (fun (k : Nat) => (gY cI (fun i => a (55 + i)) ((qI li v ((qO li v (q0 wy.2 t) h).2.1 (h : Int)) (qO li v (q0 wy.2 t) h) k).1, (qI li v ((qO li v (q0 wy.2 t) h).2.1 (h : Int)) (qO li v (q0 wy.2 t) h) k).2.1) ++ gI cI a li)) (fun (k : Nat) => k ≤ 16) (fun (k : Nat) => 16 - k) 0 (by omega) rfl rfl ?_
        intro k I_9 ih_10
        obtain ⟨hW, hW2, hW3⟩ := qI_V (h := h) (by omega) hV k (by omega)
        have hn2 := hW.1
        refine v_iload (j := 0) (x := jI (k : Int)) G dX6_spreadFrom_66 rfl ?_
        refine v_bipush G dX6_spreadFrom_68 (by decide) ?_
        refine v_icmp_ge (a := (k : Int)) (b := 16) (tgt := 155) G dX6_spreadFrom_70 (by decide) (by omega) (fun c_11 => ?_) (fun c_11 => ?_)
        · skip
          obtain rfl : k = 16 := by omega
          have hqo : qO li v (q0 wy.2 t) (h + 1) = (qI li v ((qO li v (q0 wy.2 t) h).2.1 (h : Int)) (qO li v (q0 wy.2 t) h) 16) := if_pos (by omega)
          refine v_eqs (lv' := [(7, .int (jI (16 : Int))), (4, .int (jI ((qO li v (q0 wy.2 t) (h + 1)).2.2))), (6, .int (jI (((qO li v (q0 wy.2 t) h).2.1) (h : Int)))), (5, .int (jI (h : Int))), (0, .ref (a 55)), (1, .ref (a 58)), (2, .int (jI t)), (3, .int (jI v))]) (ws' := (gY cI (fun i => a (55 + i)) ((qO li v (q0 wy.2 t) (h + 1)).1, (qO li v (q0 wy.2 t) (h + 1)).2.1) ++ gI cI a li)) (by rw [hqo]; try rfl) rfl (by rw [hqo]; try rfl) ?_
          refine v_iinc (k := 3) (z := (h : Int)) (z' := ((h + 1 : Nat) : Int)) (lv' := [(5, .int (jI ((h + 1 : Nat) : Int))), (7, .int (jI (16 : Int))), (4, .int (jI ((qO li v (q0 wy.2 t) (h + 1)).2.2))), (6, .int (jI (((qO li v (q0 wy.2 t) h).2.1) (h : Int)))), (0, .ref (a 55)), (1, .ref (a 58)), (2, .int (jI t)), (3, .int (jI v))]) G dX6_spreadFrom_155 rfl (by omega) (by decide) rfl ?_
          refine v_goto (tgt := 40) G dX6_spreadFrom_158 (by decide) ?_
          refine v_locs (lv' := [(5, .int (jI ((h + 1 : Nat) : Int))), (4, .int (jI ((qO li v (q0 wy.2 t) (h + 1)).2.2))), (0, .ref (a 55)), (1, .ref (a 58)), (2, .int (jI t)), (3, .int (jI v))]) [0, 2, 4, 5, 6, 7] rfl ?_
          exact ih_6 (h + 1) (by omega) (by omega)
        · skip
          have hap := apt_r (a := ((qO li v (q0 wy.2 t) h).2.1 (h : Int))) (b := (k : Int)) (by omega) (by omega)
          have hlk := hl (k : Int) (by omega) (by omega)
          have hsk := hW.2.2.2.1 (k : Int) (by omega) (by omega)
          refine v_iload (j := 2) (x := jI (((qO li v (q0 wy.2 t) h).2.1) (h : Int))) G dX6_spreadFrom_73 rfl ?_
          refine v_iload (j := 0) (x := jI (k : Int)) G dX6_spreadFrom_75 rfl ?_
          refine v_ciN G (rn_N (As := [.int (jI (((qO li v (q0 wy.2 t) h).2.1) (h : Int))), .int (jI (k : Int))]) (rest := []) G (c_X8_stepsBetween (x := ((qO li v (q0 wy.2 t) h).2.1) (h : Int)) (y := (k : Int)) (hx := (by omega))) gX6_spreadFrom_X8_stepsBetween_n24 rfl (List.mem_of_getElem? (i := 7) rfl) q_3 q_4 hdX8_stepsBetween ⟨rfl, rfl, Nat.le_of_ble_eq_true rfl, Nat.le_of_ble_eq_true rfl⟩ rfl rfl (Nat.le_of_ble_eq_true rfl) ⟨Nat.zero_le _, Nat.zero_le _⟩ dX6_spreadFrom_77) (fun r_12 u_14 e_13 => ?_)
          have e_13 : r_12 = jI (apt (((qO li v (q0 wy.2 t) h).2.1) (h : Int)) (k : Int)) := e_13
          subst e_13
          refine v_iconst G dX6_spreadFrom_80 ?_
          refine v_cut (pc' := 97) (lv' := [(7, .int (jI (k : Int))), (4, .int (jI ((qI li v ((qO li v (q0 wy.2 t) h).2.1 (h : Int)) (qO li v (q0 wy.2 t) h) k).2.2))), (6, .int (jI (((qO li v (q0 wy.2 t) h).2.1) (h : Int)))), (5, .int (jI (h : Int))), (0, .ref (a 55)), (1, .ref (a 58)), (2, .int (jI t)), (3, .int (jI v))]) (st' := [.int (jI (b2 (apt ((qO li v (q0 wy.2 t) h).2.1 (h : Int)) (k : Int) = 1 ∧ li (k : Int) ≤ v)))]) (ws' := (gY cI (fun i => a (55 + i)) ((qI li v ((qO li v (q0 wy.2 t) h).2.1 (h : Int)) (qO li v (q0 wy.2 t) h) k).1, (qI li v ((qO li v (q0 wy.2 t) h).2.1 (h : Int)) (qO li v (q0 wy.2 t) h) k).2.1) ++ gI cI a li)) ?_ (fun J_15 => ?_)
          · skip
            refine v_istore (lv' := [(8, .int (jI (b2 (apt ((qO li v (q0 wy.2 t) h).2.1 (h : Int)) (k : Int) = 1 ∧ li (k : Int) ≤ v)))), (7, .int (jI (k : Int))), (4, .int (jI ((qI li v ((qO li v (q0 wy.2 t) h).2.1 (h : Int)) (qO li v (q0 wy.2 t) h) k).2.2))), (6, .int (jI (((qO li v (q0 wy.2 t) h).2.1) (h : Int)))), (5, .int (jI (h : Int))), (0, .ref (a 55)), (1, .ref (a 58)), (2, .int (jI t)), (3, .int (jI v))]) G dX6_spreadFrom_97 (by decide) rfl ?_
            refine v_iload (j := 0) (x := jI (b2 (apt ((qO li v (q0 wy.2 t) h).2.1 (h : Int)) (k : Int) = 1 ∧ li (k : Int) ≤ v))) G dX6_spreadFrom_99 rfl ?_
            refine v_cut (pc' := 149) (lv' := [(8, .int (jI (b2 (apt ((qO li v (q0 wy.2 t) h).2.1 (h : Int)) (k : Int) = 1 ∧ li (k : Int) ≤ v)))), (7, .int (jI (k : Int))), (4, .int (jI ((qI li v ((qO li v (q0 wy.2 t) h).2.1 (h : Int)) (qO li v (q0 wy.2 t) h) (k + 1)).2.2))), (6, .int (jI (((qO li v (q0 wy.2 t) h).2.1) (h : Int)))), (5, .int (jI (h : Int))), (0, .ref (a 55)), (1, .ref (a 58)), (2, .int (jI t)), (3, .int (jI v))]) (st' := []) (ws' := (gY cI (fun i => a (55 + i)) ((qI li v ((qO li v (q0 wy.2 t) h).2.1 (h : Int)) (qO li v (q0 wy.2 t) h) (k + 1)).1, (qI li v ((qO li v (q0 wy.2 t) h).2.1 (h : Int)) (qO li v (q0 wy.2 t) h) (k + 1)).2.1) ++ gI cI a li)) ?_ (fun J_16 => ?_)
            · skip
              refine v_iinc (k := 1) (z := (k : Int)) (z' := ((k + 1 : Nat) : Int)) (lv' := [(7, .int (jI ((k + 1 : Nat) : Int))), (8, .int (jI (b2 (apt ((qO li v (q0 wy.2 t) h).2.1 (h : Int)) (k : Int) = 1 ∧ li (k : Int) ≤ v)))), (4, .int (jI ((qI li v ((qO li v (q0 wy.2 t) h).2.1 (h : Int)) (qO li v (q0 wy.2 t) h) (k + 1)).2.2))), (6, .int (jI (((qO li v (q0 wy.2 t) h).2.1) (h : Int)))), (5, .int (jI (h : Int))), (0, .ref (a 55)), (1, .ref (a 58)), (2, .int (jI t)), (3, .int (jI v))]) G dX6_spreadFrom_149 rfl (by omega) (by decide) rfl ?_
              refine v_goto (tgt := 66) G dX6_spreadFrom_152 (by decide) ?_
              refine v_locs (lv' := [(7, .int (jI ((k + 1 : Nat) : Int))), (4, .int (jI ((qI li v ((qO li v (q0 wy.2 t) h).2.1 (h : Int)) (qO li v (q0 wy.2 t) h) (k + 1)).2.2))), (6, .int (jI (((qO li v (q0 wy.2 t) h).2.1) (h : Int)))), (5, .int (jI (h : Int))), (0, .ref (a 55)), (1, .ref (a 58)), (2, .int (jI t)), (3, .int (jI v))]) [0, 2, 3, 4, 5, 6, 7, 8] rfl ?_
              exact ih_10 (k + 1) (by omega) (by omega)
            · skip
              refine v_ifb_eq (P := apt ((qO li v (q0 wy.2 t) h).2.1 (h : Int)) (k : Int) = 1 ∧ li (k : Int) ≤ v) (tgt := 149) G dX6_spreadFrom_101 (by decide) (fun c_17 => ?_) (fun c_17 => ?_)
              · skip
                have hq_18 : (qI li v ((qO li v (q0 wy.2 t) h).2.1 (h : Int)) (qO li v (q0 wy.2 t) h) (k + 1)) = (qI li v ((qO li v (q0 wy.2 t) h).2.1 (h : Int)) (qO li v (q0 wy.2 t) h) k) := if_neg (by rintro ⟨x1, x2, x3⟩; first | exact absurd x1 (by assumption) | omega)
                refine v_eqs (lv' := [(8, .int (jI (b2 (apt ((qO li v (q0 wy.2 t) h).2.1 (h : Int)) (k : Int) = 1 ∧ li (k : Int) ≤ v)))), (7, .int (jI (k : Int))), (4, .int (jI ((qI li v ((qO li v (q0 wy.2 t) h).2.1 (h : Int)) (qO li v (q0 wy.2 t) h) (k + 1)).2.2))), (6, .int (jI (((qO li v (q0 wy.2 t) h).2.1) (h : Int)))), (5, .int (jI (h : Int))), (0, .ref (a 55)), (1, .ref (a 58)), (2, .int (jI t)), (3, .int (jI v))]) (ws' := (gY cI (fun i => a (55 + i)) ((qI li v ((qO li v (q0 wy.2 t) h).2.1 (h : Int)) (qO li v (q0 wy.2 t) h) (k + 1)).1, (qI li v ((qO li v (q0 wy.2 t) h).2.1 (h : Int)) (qO li v (q0 wy.2 t) h) (k + 1)).2.1) ++ gI cI a li)) (by rw [hq_18]) rfl (by rw [hq_18]) ?_
                exact J_16
              · skip
                refine v_aload_n (j := 5) (x := a 55) G dX6_spreadFrom_104 rfl rfl ?_
                refine v_get (q0 := 0) (k := 0) (v := .ref (a 56)) G k_X6 rfl rfl (by decide) q_1 rfl rfl dX6_spreadFrom_105 ?_
                refine v_iload (j := 1) (x := jI (k : Int)) G dX6_spreadFrom_108 rfl ?_
                refine v_iald (q0 := 1) (t0 := 0) (g := (qI li v ((qO li v (q0 wy.2 t) h).2.1 (h : Int)) (qO li v (q0 wy.2 t) h) k).1) (z := (k : Int)) G rfl rfl (by omega) dX6_spreadFrom_110 ?_
                refine v_if_ge (a := ((qI li v ((qO li v (q0 wy.2 t) h).2.1 (h : Int)) (qO li v (q0 wy.2 t) h) k).1) (k : Int)) (tgt := 149) G dX6_spreadFrom_111 (by decide) (by omega) (fun c_19 => ?_) (fun c_19 => ?_)
                · skip
                  have hq_20 : (qI li v ((qO li v (q0 wy.2 t) h).2.1 (h : Int)) (qO li v (q0 wy.2 t) h) (k + 1)) = (qI li v ((qO li v (q0 wy.2 t) h).2.1 (h : Int)) (qO li v (q0 wy.2 t) h) k) := if_neg (by rintro ⟨x1, x2, x3⟩; first | exact absurd x1 (by assumption) | omega)
                  refine v_eqs (lv' := [(8, .int (jI (b2 (apt ((qO li v (q0 wy.2 t) h).2.1 (h : Int)) (k : Int) = 1 ∧ li (k : Int) ≤ v)))), (7, .int (jI (k : Int))), (4, .int (jI ((qI li v ((qO li v (q0 wy.2 t) h).2.1 (h : Int)) (qO li v (q0 wy.2 t) h) (k + 1)).2.2))), (6, .int (jI (((qO li v (q0 wy.2 t) h).2.1) (h : Int)))), (5, .int (jI (h : Int))), (0, .ref (a 55)), (1, .ref (a 58)), (2, .int (jI t)), (3, .int (jI v))]) (ws' := (gY cI (fun i => a (55 + i)) ((qI li v ((qO li v (q0 wy.2 t) h).2.1 (h : Int)) (qO li v (q0 wy.2 t) h) (k + 1)).1, (qI li v ((qO li v (q0 wy.2 t) h).2.1 (h : Int)) (qO li v (q0 wy.2 t) h) (k + 1)).2.1) ++ gI cI a li)) (by rw [hq_20]) rfl (by rw [hq_20]) ?_
                  exact J_16
                · skip
                  refine v_iload (j := 2) (x := jI ((qI li v ((qO li v (q0 wy.2 t) h).2.1 (h : Int)) (qO li v (q0 wy.2 t) h) k).2.2)) G dX6_spreadFrom_114 rfl ?_
                  refine v_bipush G dX6_spreadFrom_116 (by decide) ?_
                  refine v_icmp_ge (a := (qI li v ((qO li v (q0 wy.2 t) h).2.1 (h : Int)) (qO li v (q0 wy.2 t) h) k).2.2) (b := 16) (tgt := 149) G dX6_spreadFrom_118 (by decide) (by omega) (fun c_21 => ?_) (fun c_21 => ?_)
                  · skip
                    have hq_22 : (qI li v ((qO li v (q0 wy.2 t) h).2.1 (h : Int)) (qO li v (q0 wy.2 t) h) (k + 1)) = (qI li v ((qO li v (q0 wy.2 t) h).2.1 (h : Int)) (qO li v (q0 wy.2 t) h) k) := if_neg (by rintro ⟨x1, x2, x3⟩; first | exact absurd x1 (by assumption) | omega)
                    refine v_eqs (lv' := [(8, .int (jI (b2 (apt ((qO li v (q0 wy.2 t) h).2.1 (h : Int)) (k : Int) = 1 ∧ li (k : Int) ≤ v)))), (7, .int (jI (k : Int))), (4, .int (jI ((qI li v ((qO li v (q0 wy.2 t) h).2.1 (h : Int)) (qO li v (q0 wy.2 t) h) (k + 1)).2.2))), (6, .int (jI (((qO li v (q0 wy.2 t) h).2.1) (h : Int)))), (5, .int (jI (h : Int))), (0, .ref (a 55)), (1, .ref (a 58)), (2, .int (jI t)), (3, .int (jI v))]) (ws' := (gY cI (fun i => a (55 + i)) ((qI li v ((qO li v (q0 wy.2 t) h).2.1 (h : Int)) (qO li v (q0 wy.2 t) h) (k + 1)).1, (qI li v ((qO li v (q0 wy.2 t) h).2.1 (h : Int)) (qO li v (q0 wy.2 t) h) (k + 1)).2.1) ++ gI cI a li)) (by rw [hq_22]) rfl (by rw [hq_22]) ?_
                    exact J_16
                  · skip
                    refine v_aload_n (j := 5) (x := a 55) G dX6_spreadFrom_121 rfl rfl ?_
                    refine v_get (q0 := 0) (k := 0) (v := .ref (a 56)) G k_X6 rfl rfl (by decide) q_1 rfl rfl dX6_spreadFrom_122 ?_
                    refine v_iload (j := 1) (x := jI (k : Int)) G dX6_spreadFrom_125 rfl ?_
                    refine v_aload_n (j := 5) (x := a 55) G dX6_spreadFrom_127 rfl rfl ?_
                    refine v_get (q0 := 0) (k := 0) (v := .ref (a 56)) G k_X6 rfl rfl (by decide) q_1 rfl rfl dX6_spreadFrom_128 ?_
                    refine v_iload (j := 3) (x := jI (((qO li v (q0 wy.2 t) h).2.1) (h : Int))) G dX6_spreadFrom_131 rfl ?_
                    refine v_iald (q0 := 1) (t0 := 0) (g := (qI li v ((qO li v (q0 wy.2 t) h).2.1 (h : Int)) (qO li v (q0 wy.2 t) h) k).1) (z := ((qO li v (q0 wy.2 t) h).2.1) (h : Int)) G rfl rfl (by omega) dX6_spreadFrom_133 ?_
                    refine v_iconst G dX6_spreadFrom_134 ?_
                    refine v_iadd (z := (((qI li v ((qO li v (q0 wy.2 t) h).2.1 (h : Int)) (qO li v (q0 wy.2 t) h) k).1) (((qO li v (q0 wy.2 t) h).2.1) (h : Int))) + 1) G dX6_spreadFrom_135 rfl ?_
                    refine v_iast (q0 := 1) (t0 := 0) (g := (qI li v ((qO li v (q0 wy.2 t) h).2.1 (h : Int)) (qO li v (q0 wy.2 t) h) k).1) (z := (k : Int)) (x := (((qI li v ((qO li v (q0 wy.2 t) h).2.1 (h : Int)) (qO li v (q0 wy.2 t) h) k).1) (((qO li v (q0 wy.2 t) h).2.1) (h : Int))) + 1) (ws' := (gY cI (fun i => a (55 + i)) (uI ((qI li v ((qO li v (q0 wy.2 t) h).2.1 (h : Int)) (qO li v (q0 wy.2 t) h) k).1) (k : Int) ((((qI li v ((qO li v (q0 wy.2 t) h).2.1 (h : Int)) (qO li v (q0 wy.2 t) h) k).1) (((qO li v (q0 wy.2 t) h).2.1) (h : Int))) + 1), (qI li v ((qO li v (q0 wy.2 t) h).2.1 (h : Int)) (qO li v (q0 wy.2 t) h) k).2.1) ++ gI cI a li)) G rfl rfl (by omega) rfl dX6_spreadFrom_136 ?_
                    refine v_aload_n (j := 5) (x := a 55) G dX6_spreadFrom_137 rfl rfl ?_
                    refine v_get (q0 := 0) (k := 1) (v := .ref (a 57)) G k_X6 rfl rfl (by decide) q_2 rfl rfl dX6_spreadFrom_138 ?_
                    refine v_iload (j := 2) (x := jI ((qI li v ((qO li v (q0 wy.2 t) h).2.1 (h : Int)) (qO li v (q0 wy.2 t) h) k).2.2)) G dX6_spreadFrom_141 rfl ?_
                    refine v_iinc (k := 2) (z := (qI li v ((qO li v (q0 wy.2 t) h).2.1 (h : Int)) (qO li v (q0 wy.2 t) h) k).2.2) (z' := (qI li v ((qO li v (q0 wy.2 t) h).2.1 (h : Int)) (qO li v (q0 wy.2 t) h) k).2.2 + 1) (lv' := [(4, .int (jI ((qI li v ((qO li v (q0 wy.2 t) h).2.1 (h : Int)) (qO li v (q0 wy.2 t) h) k).2.2 + 1))), (8, .int (jI (b2 (apt ((qO li v (q0 wy.2 t) h).2.1 (h : Int)) (k : Int) = 1 ∧ li (k : Int) ≤ v)))), (7, .int (jI (k : Int))), (6, .int (jI (((qO li v (q0 wy.2 t) h).2.1) (h : Int)))), (5, .int (jI (h : Int))), (0, .ref (a 55)), (1, .ref (a 58)), (2, .int (jI t)), (3, .int (jI v))]) G dX6_spreadFrom_143 rfl rfl (by decide) rfl ?_
                    refine v_iload (j := 2) (x := jI (k : Int)) G dX6_spreadFrom_146 rfl ?_
                    refine v_iast (q0 := 2) (t0 := 0) (g := (qI li v ((qO li v (q0 wy.2 t) h).2.1 (h : Int)) (qO li v (q0 wy.2 t) h) k).2.1) (z := (qI li v ((qO li v (q0 wy.2 t) h).2.1 (h : Int)) (qO li v (q0 wy.2 t) h) k).2.2) (x := (k : Int)) (ws' := (gY cI (fun i => a (55 + i)) (uI ((qI li v ((qO li v (q0 wy.2 t) h).2.1 (h : Int)) (qO li v (q0 wy.2 t) h) k).1) (k : Int) ((((qI li v ((qO li v (q0 wy.2 t) h).2.1 (h : Int)) (qO li v (q0 wy.2 t) h) k).1) (((qO li v (q0 wy.2 t) h).2.1) (h : Int))) + 1), uI ((qI li v ((qO li v (q0 wy.2 t) h).2.1 (h : Int)) (qO li v (q0 wy.2 t) h) k).2.1) ((qI li v ((qO li v (q0 wy.2 t) h).2.1 (h : Int)) (qO li v (q0 wy.2 t) h) k).2.2) (k : Int)) ++ gI cI a li)) G rfl rfl (by omega) rfl dX6_spreadFrom_148 ?_
                    refine v_locs (lv' := [(8, .int (jI (b2 (apt ((qO li v (q0 wy.2 t) h).2.1 (h : Int)) (k : Int) = 1 ∧ li (k : Int) ≤ v)))), (7, .int (jI (k : Int))), (4, .int (jI ((qI li v ((qO li v (q0 wy.2 t) h).2.1 (h : Int)) (qO li v (q0 wy.2 t) h) k).2.2 + 1))), (6, .int (jI (((qO li v (q0 wy.2 t) h).2.1) (h : Int)))), (5, .int (jI (h : Int))), (0, .ref (a 55)), (1, .ref (a 58)), (2, .int (jI t)), (3, .int (jI v))]) [1, 2, 0, 3, 4, 5, 6, 7, 8] rfl ?_
                    have hq_23 : (qI li v ((qO li v (q0 wy.2 t) h).2.1 (h : Int)) (qO li v (q0 wy.2 t) h) (k + 1)) = (uI (qI li v ((qO li v (q0 wy.2 t) h).2.1 (h : Int)) (qO li v (q0 wy.2 t) h) k).1 (k : Int) ((qI li v ((qO li v (q0 wy.2 t) h).2.1 (h : Int)) (qO li v (q0 wy.2 t) h) k).1 ((qO li v (q0 wy.2 t) h).2.1 (h : Int)) + 1), uI (qI li v ((qO li v (q0 wy.2 t) h).2.1 (h : Int)) (qO li v (q0 wy.2 t) h) k).2.1 (qI li v ((qO li v (q0 wy.2 t) h).2.1 (h : Int)) (qO li v (q0 wy.2 t) h) k).2.2 (k : Int), (qI li v ((qO li v (q0 wy.2 t) h).2.1 (h : Int)) (qO li v (q0 wy.2 t) h) k).2.2 + 1) := if_pos ⟨by assumption, by omega, by omega⟩
                    refine v_eqs (lv' := [(8, .int (jI (b2 (apt ((qO li v (q0 wy.2 t) h).2.1 (h : Int)) (k : Int) = 1 ∧ li (k : Int) ≤ v)))), (7, .int (jI (k : Int))), (4, .int (jI ((qI li v ((qO li v (q0 wy.2 t) h).2.1 (h : Int)) (qO li v (q0 wy.2 t) h) (k + 1)).2.2))), (6, .int (jI (((qO li v (q0 wy.2 t) h).2.1) (h : Int)))), (5, .int (jI (h : Int))), (0, .ref (a 55)), (1, .ref (a 58)), (2, .int (jI t)), (3, .int (jI v))]) (ws' := (gY cI (fun i => a (55 + i)) ((qI li v ((qO li v (q0 wy.2 t) h).2.1 (h : Int)) (qO li v (q0 wy.2 t) h) (k + 1)).1, (qI li v ((qO li v (q0 wy.2 t) h).2.1 (h : Int)) (qO li v (q0 wy.2 t) h) (k + 1)).2.1) ++ gI cI a li)) (by rw [hq_23]) rfl (by rw [hq_23]) ?_
                    exact J_16
          · skip
            refine v_icmp_ne (a := apt (((qO li v (q0 wy.2 t) h).2.1) (h : Int)) (k : Int)) (b := 1) (tgt := 96) G dX6_spreadFrom_81 (by decide) (by omega) (fun c_24 => ?_) (fun c_24 => ?_)
            · skip
              refine v_iconst G dX6_spreadFrom_96 ?_
              refine v_topj (x := 0) (y := b2 (apt ((qO li v (q0 wy.2 t) h).2.1 (h : Int)) (k : Int) = 1 ∧ li (k : Int) ≤ v)) (b2_f (P := apt ((qO li v (q0 wy.2 t) h).2.1 (h : Int)) (k : Int) = 1 ∧ li (k : Int) ≤ v) (by omega)).symm ?_
              exact J_15
            · skip
              refine v_aload_n (j := 5) (x := a 58) G dX6_spreadFrom_84 rfl rfl ?_
              refine v_iload (j := 0) (x := jI (k : Int)) G dX6_spreadFrom_85 rfl ?_
              refine v_iald (q0 := 3) (t0 := 0) (g := li) (z := (k : Int)) G rfl rfl (by omega) dX6_spreadFrom_87 ?_
              refine v_iload_n (j := 7) (x := jI v) G dX6_spreadFrom_88 rfl rfl ?_
              refine v_icmp_gt (a := li (k : Int)) (b := v) (tgt := 96) G dX6_spreadFrom_89 (by decide) (by omega) (fun c_25 => ?_) (fun c_25 => ?_)
              · skip
                refine v_iconst G dX6_spreadFrom_96 ?_
                refine v_topj (x := 0) (y := b2 (apt ((qO li v (q0 wy.2 t) h).2.1 (h : Int)) (k : Int) = 1 ∧ li (k : Int) ≤ v)) (b2_f (P := apt ((qO li v (q0 wy.2 t) h).2.1 (h : Int)) (k : Int) = 1 ∧ li (k : Int) ≤ v) (by omega)).symm ?_
                exact J_15
              · skip
                refine v_iconst G dX6_spreadFrom_92 ?_
                refine v_goto (tgt := 97) G dX6_spreadFrom_93 (by decide) ?_
                refine v_topj (x := 1) (y := b2 (apt ((qO li v (q0 wy.2 t) h).2.1 (h : Int)) (k : Int) = 1 ∧ li (k : Int) ≤ v)) (b2_t (P := apt ((qO li v (q0 wy.2 t) h).2.1 (h : Int)) (k : Int) = 1 ∧ li (k : Int) ≤ v) (by omega)).symm ?_
                exact J_15
  · skip
    refine v_cell (q0 := 1) (g := fun _ => (-1)) (g' := sSt li t v) (ws' := (gY cI (fun i => a (55 + i)) (sSt li t v, wy.2) ++ gI cI a li)) rfl (fun j h0 h1 => no_st (by omega) j h0 (by omega)) rfl ?_
    exact v_vret G wy.2 trivial rfl dX6_spreadFrom_15

set_option maxHeartbeats 4000000 in
set_option maxRecDepth 100000 in
theorem c_X6_nextFrom (x : Int) (hx : 0 ≤ x ∧ x < 16) (hg : rgS wy.1) : Ci l yX6_nextFrom wsX6_nextFrom { frames := 2, cells := 0, slots := 0, locals := 42 } D (jT cI cL cB cS) [.ref (a 55), .int (jI x)] (gY cI (fun i => a (55 + i)) wy) (S := Unit) (fun _ => (gY cI (fun i => a (55 + i)) wy)) (fun r _ => r = jI (if wy.1 x ≤ 0 then -1 else if lstN (fun q_ : Nat => apt x (q_ : Int) = 1 ∧ wy.1 (q_ : Int) = wy.1 x - 1) 16 0 < 16 then (lstN (fun q_ : Nat => apt x (q_ : Int) = 1 ∧ wy.1 (q_ : Int) = wy.1 x - 1) 16 0 : Int) else -1)) := by
  refine Ci.mk (cc := cX6_nextFrom) (maxL := 3) (rt := .int) (by decide) rfl (Nat.le_of_ble_eq_true rfl) rfl ?_
  intro p_ e_ s_ m_ b_ me_ c_ A_ G hnm
  have k_X6 : ∀ w ∈ u_ws RX6 TX6 2, w ∈ wsX6_nextFrom := fun _ h => List.mem_cons_of_mem _ (List.mem_append_right _ h)
  have q_1 : Cond.fieldLink RX6 9 "SupperLight$Ways" "steps" "[I" ∈ wsX6_nextFrom := List.mem_of_getElem? (i := 1) rfl
  have q_2 : Cond.initialized RX8 ∈ wsX6_nextFrom := List.mem_of_getElem? (i := 3) rfl
  have q_3 : Cond.static yX8_stepsBetween ∈ wsX6_nextFrom := List.mem_of_getElem? (i := 2) rfl
  refine v_aload_n (j := 0) (x := a 55) G dX6_nextFrom_0 rfl rfl ?_
  refine v_get (q0 := 0) (k := 0) (v := .ref (a 56)) G k_X6 rfl rfl (by decide) q_1 rfl rfl dX6_nextFrom_1 ?_
  refine v_iload_n (j := 1) (x := jI x) G dX6_nextFrom_4 rfl rfl ?_
  refine v_iald (q0 := 1) (t0 := 0) (g := wy.1) (z := x) G rfl rfl (by omega) dX6_nextFrom_5 ?_
  have hgx := hg x (by omega) (by omega)
  refine v_if_gt (a := wy.1 x) (tgt := 11) G dX6_nextFrom_6 (by decide) (by omega) (fun c_1 => ?_) (fun c_1 => ?_)
  · skip
    refine v_iconst G dX6_nextFrom_11 ?_
    refine v_istore_n (lv' := [(2, .int (jI 0)), (0, .ref (a 55)), (1, .int (jI x))]) G dX6_nextFrom_12 rfl (by decide) rfl ?_
    refine v_locs (lv' := [(2, .int (jI 0)), (0, .ref (a 55)), (1, .int (jI x))]) [0, 1, 2] rfl ?_
    refine v_loop1 (fun (n : Nat) => [(2, .int (jI (n : Int))), (0, .ref (a 55)), (1, .int (jI x))]) (fun (n : Nat) => (gY cI (fun i => a (55 + i)) wy)) (fun (n : Nat) => n ≤ 16 ∧ lstN (fun q_ : Nat => apt x (q_ : Int) = 1 ∧ wy.1 (q_ : Int) = wy.1 x - 1) (16 - n) n = lstN (fun q_ : Nat => apt x (q_ : Int) = 1 ∧ wy.1 (q_ : Int) = wy.1 x - 1) 16 0) (fun (n : Nat) => 16 - n) 0 ⟨by decide, rfl⟩ rfl rfl ?_
    intro n I_2 ih_3
    obtain ⟨hn, hz⟩ := id I_2
    refine v_iload_n (j := 0) (x := jI (n : Int)) G dX6_nextFrom_13 rfl rfl ?_
    refine v_bipush G dX6_nextFrom_14 (by decide) ?_
    refine v_icmp_ge (a := (n : Int)) (b := 16) (tgt := 53) G dX6_nextFrom_16 (by decide) (by omega) (fun c_4 => ?_) (fun c_4 => ?_)
    · skip
      have hres : lstN (fun q_ : Nat => apt x (q_ : Int) = 1 ∧ wy.1 (q_ : Int) = wy.1 x - 1) 16 0 = 16 := by rw [← hz, show n = 16 by omega]; rfl
      refine v_iconst G dX6_nextFrom_53 ?_
      exact v_iret G () (show jI (-1) = jI (if wy.1 x ≤ 0 then -1 else if lstN (fun q_ : Nat => apt x (q_ : Int) = 1 ∧ wy.1 (q_ : Int) = wy.1 x - 1) 16 0 < 16 then (lstN (fun q_ : Nat => apt x (q_ : Int) = 1 ∧ wy.1 (q_ : Int) = wy.1 x - 1) 16 0 : Int) else -1) from congrArg jI (by (repeat' split) <;> omega)) rfl dX6_nextFrom_54
    · skip
      have hgn := hg (n : Int) (by omega) (by omega)
      have hap := apt_r (a := x) (b := (n : Int)) (by omega) (by omega)
      refine v_iload_n (j := 2) (x := jI x) G dX6_nextFrom_19 rfl rfl ?_
      refine v_iload_n (j := 0) (x := jI (n : Int)) G dX6_nextFrom_20 rfl rfl ?_
      refine v_ciN G (rn_N (As := [.int (jI x), .int (jI (n : Int))]) (rest := []) G (c_X8_stepsBetween (x := x) (y := (n : Int)) (hx := (by omega))) gX6_nextFrom_X8_stepsBetween_n24 rfl (List.mem_of_getElem? (i := 7) rfl) q_2 q_3 hdX8_stepsBetween ⟨rfl, rfl, Nat.le_of_ble_eq_true rfl, Nat.le_of_ble_eq_true rfl⟩ rfl rfl (Nat.le_of_ble_eq_true rfl) ⟨Nat.zero_le _, Nat.zero_le _⟩ dX6_nextFrom_21) (fun r_5 u_7 e_6 => ?_)
      have e_6 : r_5 = jI (apt x (n : Int)) := e_6
      subst e_6
      refine v_iconst G dX6_nextFrom_24 ?_
      refine v_icmp_ne (a := apt x (n : Int)) (b := 1) (tgt := 47) G dX6_nextFrom_25 (by decide) (by omega) (fun c_8 => ?_) (fun c_8 => ?_)
      · skip
        refine v_iinc (k := 0) (z := (n : Int)) (z' := ((n + 1 : Nat) : Int)) (lv' := [(2, .int (jI ((n + 1 : Nat) : Int))), (0, .ref (a 55)), (1, .int (jI x))]) G dX6_nextFrom_47 rfl (by omega) (by decide) rfl ?_
        refine v_goto (tgt := 13) G dX6_nextFrom_50 (by decide) ?_
        exact ih_3 (n + 1) ⟨by omega, lsg_s (by omega) (by rintro ⟨z1, z2⟩; omega) I_2.2⟩ (by omega)
      · skip
        refine v_aload_n (j := 1) (x := a 55) G dX6_nextFrom_28 rfl rfl ?_
        refine v_get (q0 := 0) (k := 0) (v := .ref (a 56)) G k_X6 rfl rfl (by decide) q_1 rfl rfl dX6_nextFrom_29 ?_
        refine v_iload_n (j := 0) (x := jI (n : Int)) G dX6_nextFrom_32 rfl rfl ?_
        refine v_iald (q0 := 1) (t0 := 0) (g := wy.1) (z := (n : Int)) G rfl rfl (by omega) dX6_nextFrom_33 ?_
        refine v_aload_n (j := 1) (x := a 55) G dX6_nextFrom_34 rfl rfl ?_
        refine v_get (q0 := 0) (k := 0) (v := .ref (a 56)) G k_X6 rfl rfl (by decide) q_1 rfl rfl dX6_nextFrom_35 ?_
        refine v_iload_n (j := 2) (x := jI x) G dX6_nextFrom_38 rfl rfl ?_
        refine v_iald (q0 := 1) (t0 := 0) (g := wy.1) (z := x) G rfl rfl (by omega) dX6_nextFrom_39 ?_
        refine v_iconst G dX6_nextFrom_40 ?_
        refine v_isub (z := (wy.1 x) - 1) G dX6_nextFrom_41 rfl ?_
        refine v_icmp_ne (a := wy.1 (n : Int)) (b := (wy.1 x) - 1) (tgt := 47) G dX6_nextFrom_42 (by decide) (by omega) (fun c_9 => ?_) (fun c_9 => ?_)
        · skip
          refine v_iinc (k := 0) (z := (n : Int)) (z' := ((n + 1 : Nat) : Int)) (lv' := [(2, .int (jI ((n + 1 : Nat) : Int))), (0, .ref (a 55)), (1, .int (jI x))]) G dX6_nextFrom_47 rfl (by omega) (by decide) rfl ?_
          refine v_goto (tgt := 13) G dX6_nextFrom_50 (by decide) ?_
          exact ih_3 (n + 1) ⟨by omega, lsg_s (by omega) (by rintro ⟨z1, z2⟩; omega) I_2.2⟩ (by omega)
        · skip
          have hres : lstN (fun q_ : Nat => apt x (q_ : Int) = 1 ∧ wy.1 (q_ : Int) = wy.1 x - 1) 16 0 = n := lsg_i hz (by omega) ⟨by omega, by omega⟩
          refine v_iload_n (j := 0) (x := jI (n : Int)) G dX6_nextFrom_45 rfl rfl ?_
          exact v_iret G () (show jI (n : Int) = jI (if wy.1 x ≤ 0 then -1 else if lstN (fun q_ : Nat => apt x (q_ : Int) = 1 ∧ wy.1 (q_ : Int) = wy.1 x - 1) 16 0 < 16 then (lstN (fun q_ : Nat => apt x (q_ : Int) = 1 ∧ wy.1 (q_ : Int) = wy.1 x - 1) 16 0 : Int) else -1) from congrArg jI (by (repeat' split) <;> omega)) rfl dX6_nextFrom_46
  · skip
    refine v_iconst G dX6_nextFrom_9 ?_
    exact v_iret G () (show jI (-1) = jI (if wy.1 x ≤ 0 then -1 else if lstN (fun q_ : Nat => apt x (q_ : Int) = 1 ∧ wy.1 (q_ : Int) = wy.1 x - 1) 16 0 < 16 then (lstN (fun q_ : Nat => apt x (q_ : Int) = 1 ∧ wy.1 (q_ : Int) = wy.1 x - 1) 16 0 : Int) else -1) from congrArg jI (by (repeat' split) <;> omega)) rfl dX6_nextFrom_10

set_option maxHeartbeats 4000000 in
set_option maxRecDepth 100000 in
theorem c_X6_leastGlare (x t : Int) (hl : ∀ j : Int, 0 ≤ j → j < 16 → 0 ≤ li j ∧ li j ≤ 3069) (hx : (0 ≤ x ∧ x < 16) ∧ 0 ≤ t ∧ t < 16) : Ci l yX6_leastGlare wsX6_leastGlare { frames := 3, cells := 0, slots := 0, locals := 70 } D (jT cI cL cB cS) [.ref (a 55), .ref (a 58), .int (jI x), .int (jI t)] (gY cI (fun i => a (55 + i)) wy ++ gI cI a li) (S := ((Int → Int) × (Int → Int))) (fun wy2 => (gY cI (fun i => a (55 + i)) wy2 ++ gI cI a li)) (fun r wy2 => r = jI (glN li x t 16) ∧ True) := by
  refine Ci.mk (cc := cX6_leastGlare) (maxL := 8) (rt := .int) (by decide) rfl (Nat.le_of_ble_eq_true rfl) rfl ?_
  intro p_ e_ s_ m_ b_ me_ c_ A_ G hnm
  have q_0 : Cond.methodLink RX6 28 Lib.Math.max.name ∈ wsX6_leastGlare := List.mem_of_getElem? (i := 1) rfl
  have q_1 : Cond.static Lib.Math.max.name ∈ wsX6_leastGlare := List.mem_of_getElem? (i := 2) rfl
  have q_2 : Cond.initialized "java/lang/Math" ∈ wsX6_leastGlare := List.mem_of_getElem? (i := 3) rfl
  have q_3 : Cond.code Lib.Math.max.name Lib.Math.max.code 2 (some .int) ∈ wsX6_leastGlare := List.mem_of_getElem? (i := 4) rfl
  have k_X6 : ∀ w ∈ u_ws RX6 TX6 2, w ∈ wsX6_leastGlare := fun _ h => List.mem_cons_of_mem _ (List.mem_append_right _ h)
  have q_5 : Cond.fieldLink RX6 9 "SupperLight$Ways" "steps" "[I" ∈ wsX6_leastGlare := List.mem_of_getElem? (i := 5) rfl
  refine v_aload_n (j := 1) (x := a 58) G dX6_leastGlare_0 rfl rfl ?_
  refine v_iload_n (j := 2) (x := jI x) G dX6_leastGlare_1 rfl rfl ?_
  refine v_iald (q0 := 3) (t0 := 0) (g := li) (z := x) G rfl rfl (by omega) dX6_leastGlare_2 ?_
  refine v_aload_n (j := 1) (x := a 58) G dX6_leastGlare_3 rfl rfl ?_
  refine v_iload_n (j := 3) (x := jI t) G dX6_leastGlare_4 rfl rfl ?_
  refine v_iald (q0 := 3) (t0 := 0) (g := li) (z := t) G rfl rfl (by omega) dX6_leastGlare_5 ?_
  have hlx := hl x (by omega) (by omega)
  have hlt := hl t (by omega) (by omega)
  refine v_mmax (z := jmax (li x) (li t)) G q_0 q_1 q_2 q_3 ⟨Nat.le_of_ble_eq_true rfl, Nat.le_of_ble_eq_true rfl, Nat.zero_le _, Nat.zero_le _⟩ (by omega) (jmax_z (li x) (li t)) dX6_leastGlare_6 ?_
  have hjm := jmax_z (li x) (li t)
  refine v_istore (lv' := [(4, .int (jI (jmax (li x) (li t)))), (0, .ref (a 55)), (1, .ref (a 58)), (2, .int (jI x)), (3, .int (jI t))]) G dX6_leastGlare_9 (by decide) rfl ?_
  refine v_iload (j := 0) (x := jI (jmax (li x) (li t))) G dX6_leastGlare_11 rfl ?_
  refine v_istore (lv' := [(5, .int (jI (jmax (li x) (li t)))), (4, .int (jI (jmax (li x) (li t)))), (0, .ref (a 55)), (1, .ref (a 58)), (2, .int (jI x)), (3, .int (jI t))]) G dX6_leastGlare_13 (by decide) rfl ?_
  refine v_iconst G dX6_leastGlare_15 ?_
  refine v_istore (lv' := [(6, .int (jI 0)), (5, .int (jI (jmax (li x) (li t)))), (4, .int (jI (jmax (li x) (li t)))), (0, .ref (a 55)), (1, .ref (a 58)), (2, .int (jI x)), (3, .int (jI t))]) G dX6_leastGlare_16 (by decide) rfl ?_
  refine v_locs (lv' := [(6, .int (jI 0)), (5, .int (jI (jmax (li x) (li t)))), (4, .int (jI (jmax (li x) (li t)))), (0, .ref (a 55)), (1, .ref (a 58)), (2, .int (jI x)), (3, .int (jI t))]) [0, 1, 2, 3, 4, 5, 6] rfl ?_
  refine v_loop1 (fun (k : Nat) => [(6, .int (jI (k : Int))), (5, .int (jI (mxN li (jmax (li x) (li t)) k))), (4, .int (jI (jmax (li x) (li t)))), (0, .ref (a 55)), (1, .ref (a 58)), (2, .int (jI x)), (3, .int (jI t))]) (fun (k : Nat) => (gY cI (fun i => a (55 + i)) wy ++ gI cI a li)) (fun (k : Nat) => k ≤ 16) (fun (k : Nat) => 16 - k) 0 (by omega) rfl rfl ?_
  intro k I_1 ih_2
  have hmx := mxN_r (f := li) (e := (jmax (li x) (li t))) (by omega) hl k (by omega)
  refine v_iload (j := 0) (x := jI (k : Int)) G dX6_leastGlare_18 rfl ?_
  refine v_bipush G dX6_leastGlare_20 (by decide) ?_
  refine v_icmp_ge (a := (k : Int)) (b := 16) (tgt := 42) G dX6_leastGlare_22 (by decide) (by omega) (fun c_3 => ?_) (fun c_3 => ?_)
  · skip
    obtain rfl : k = 16 := by omega
    refine v_iconst G dX6_leastGlare_42 ?_
    refine v_istore (lv' := [(6, .int (jI 0)), (5, .int (jI (mxN li (jmax (li x) (li t)) 16))), (4, .int (jI (jmax (li x) (li t)))), (0, .ref (a 55)), (1, .ref (a 58)), (2, .int (jI x)), (3, .int (jI t))]) G dX6_leastGlare_43 (by decide) rfl ?_
    refine v_locs (lv' := [(6, .int (jI 0)), (5, .int (jI (mxN li (jmax (li x) (li t)) 16))), (4, .int (jI (jmax (li x) (li t)))), (0, .ref (a 55)), (1, .ref (a 58)), (2, .int (jI x)), (3, .int (jI t))]) [0, 1, 2, 3, 4, 5, 6] rfl ?_
    refine v_loop2 (fun (k : Nat) (yq : (Int → Int) × (Int → Int)) => [(6, .int (jI (k : Int))), (5, .int (jI (glN li x t k))), (4, .int (jI (jmax (li x) (li t)))), (0, .ref (a 55)), (1, .ref (a 58)), (2, .int (jI x)), (3, .int (jI t))]) (fun (k : Nat) (yq : (Int → Int) × (Int → Int)) => (gY cI (fun i => a (55 + i)) yq ++ gI cI a li)) (fun (k : Nat) (yq : (Int → Int) × (Int → Int)) => k ≤ 16) (fun (k : Nat) (yq : (Int → Int) × (Int → Int)) => 16 - k) 0 wy (by omega) rfl rfl ?_
    intro k yq I_4 ih_5
    have hgl := glN_r (x := x) (t := t) (by omega) (by omega) hl k (by omega)
    refine v_iload (j := 0) (x := jI (k : Int)) G dX6_leastGlare_45 rfl ?_
    refine v_bipush G dX6_leastGlare_47 (by decide) ?_
    refine v_icmp_ge (a := (k : Int)) (b := 16) (tgt := 104) G dX6_leastGlare_49 (by decide) (by omega) (fun c_6 => ?_) (fun c_6 => ?_)
    · skip
      obtain rfl : k = 16 := by omega
      refine v_iload (j := 1) (x := jI (glN li x t 16)) G dX6_leastGlare_104 rfl ?_
      exact v_iret G yq ⟨rfl, trivial⟩ rfl dX6_leastGlare_106
    · skip
      have hlk := hl (k : Int) (by omega) (by omega)
      refine v_aload_n (j := 4) (x := a 58) G dX6_leastGlare_52 rfl rfl ?_
      refine v_iload (j := 0) (x := jI (k : Int)) G dX6_leastGlare_53 rfl ?_
      refine v_iald (q0 := 3) (t0 := 0) (g := li) (z := (k : Int)) G rfl rfl (by omega) dX6_leastGlare_55 ?_
      refine v_istore (lv' := [(7, .int (jI (li (k : Int)))), (6, .int (jI (k : Int))), (5, .int (jI (glN li x t k))), (4, .int (jI (jmax (li x) (li t)))), (0, .ref (a 55)), (1, .ref (a 58)), (2, .int (jI x)), (3, .int (jI t))]) G dX6_leastGlare_56 (by decide) rfl ?_
      refine v_iload (j := 0) (x := jI (li (k : Int))) G dX6_leastGlare_58 rfl ?_
      refine v_iload (j := 3) (x := jI (jmax (li x) (li t))) G dX6_leastGlare_60 rfl ?_
      refine v_icmp_lt (a := li (k : Int)) (b := jmax (li x) (li t)) (tgt := 98) G dX6_leastGlare_62 (by decide) (by omega) (fun c_7 => ?_) (fun c_7 => ?_)
      · skip
        refine v_eqs (lv' := [(7, .int (jI (li (k : Int)))), (6, .int (jI (k : Int))), (5, .int (jI (glN li x t (k + 1)))), (4, .int (jI (jmax (li x) (li t)))), (0, .ref (a 55)), (1, .ref (a 58)), (2, .int (jI x)), (3, .int (jI t))]) (by rw [show glN li x t (k + 1) = glN li x t k from (by show (if _ then _ else _) = _; split <;> omega)]) rfl rfl ?_
        refine v_iinc (k := 1) (z := (k : Int)) (z' := ((k + 1 : Nat) : Int)) (lv' := [(6, .int (jI ((k + 1 : Nat) : Int))), (7, .int (jI (li (k : Int)))), (5, .int (jI (glN li x t (k + 1)))), (4, .int (jI (jmax (li x) (li t)))), (0, .ref (a 55)), (1, .ref (a 58)), (2, .int (jI x)), (3, .int (jI t))]) G dX6_leastGlare_98 rfl (by omega) (by decide) rfl ?_
        refine v_goto (tgt := 45) G dX6_leastGlare_101 (by decide) ?_
        refine v_locs (lv' := [(6, .int (jI ((k + 1 : Nat) : Int))), (5, .int (jI (glN li x t (k + 1)))), (4, .int (jI (jmax (li x) (li t)))), (0, .ref (a 55)), (1, .ref (a 58)), (2, .int (jI x)), (3, .int (jI t))]) [0, 2, 3, 4, 5, 6, 7] rfl ?_
        exact ih_5 (k + 1) yq (by omega) (by omega)
      · skip
        refine v_iload (j := 0) (x := jI (li (k : Int))) G dX6_leastGlare_65 rfl ?_
        refine v_iload (j := 2) (x := jI (glN li x t k)) G dX6_leastGlare_67 rfl ?_
        refine v_icmp_ge (a := li (k : Int)) (b := glN li x t k) (tgt := 98) G dX6_leastGlare_69 (by decide) (by omega) (fun c_8 => ?_) (fun c_8 => ?_)
        · skip
          refine v_eqs (lv' := [(7, .int (jI (li (k : Int)))), (6, .int (jI (k : Int))), (5, .int (jI (glN li x t (k + 1)))), (4, .int (jI (jmax (li x) (li t)))), (0, .ref (a 55)), (1, .ref (a 58)), (2, .int (jI x)), (3, .int (jI t))]) (by rw [show glN li x t (k + 1) = glN li x t k from (by show (if _ then _ else _) = _; split <;> omega)]) rfl rfl ?_
          refine v_iinc (k := 1) (z := (k : Int)) (z' := ((k + 1 : Nat) : Int)) (lv' := [(6, .int (jI ((k + 1 : Nat) : Int))), (7, .int (jI (li (k : Int)))), (5, .int (jI (glN li x t (k + 1)))), (4, .int (jI (jmax (li x) (li t)))), (0, .ref (a 55)), (1, .ref (a 58)), (2, .int (jI x)), (3, .int (jI t))]) G dX6_leastGlare_98 rfl (by omega) (by decide) rfl ?_
          refine v_goto (tgt := 45) G dX6_leastGlare_101 (by decide) ?_
          refine v_locs (lv' := [(6, .int (jI ((k + 1 : Nat) : Int))), (5, .int (jI (glN li x t (k + 1)))), (4, .int (jI (jmax (li x) (li t)))), (0, .ref (a 55)), (1, .ref (a 58)), (2, .int (jI x)), (3, .int (jI t))]) [0, 2, 3, 4, 5, 6, 7] rfl ?_
          exact ih_5 (k + 1) yq (by omega) (by omega)
        · skip
          refine v_aload_n (j := 4) (x := a 55) G dX6_leastGlare_72 rfl rfl ?_
          refine v_aload_n (j := 5) (x := a 58) G dX6_leastGlare_73 rfl rfl ?_
          refine v_iload_n (j := 7) (x := jI t) G dX6_leastGlare_74 rfl rfl ?_
          refine v_iload (j := 0) (x := jI (li (k : Int))) G dX6_leastGlare_75 rfl ?_
          refine v_cvF G (rn_V (As := [.ref (a 58), .int (jI t), .int (jI (li (k : Int)))]) (rest := []) (q0 := 0) G (c_X6_spreadFrom (t := t) (v := li (k : Int)) (wy := yq) (li := li) (a := a) (hl := hl) (ht := ⟨⟨by omega, by omega⟩, by omega, by omega⟩)) gX6_leastGlare_X6_spreadFrom rfl hdX6_spreadFrom ⟨rfl, rfl, Nat.le_of_ble_eq_true rfl, Nat.le_of_ble_eq_true rfl⟩ rfl rfl (Nat.le_of_ble_eq_true rfl) ⟨Nat.zero_le _, Nat.zero_le _⟩ rfl rfl dX6_leastGlare_77) (fun u_12 e_11 => ?_)
          obtain ⟨yq2_9, rfl⟩ : ∃ z, z = u_12 := ⟨_, rfl⟩
          refine v_world (ws' := (gY cI (fun i => a (55 + i)) (sSt li t (li (k : Int)), yq2_9) ++ gI cI a li)) rfl ?_
          have hsx := sSt_r li t (li (k : Int)) x (by omega) (by omega)
          refine v_aload_n (j := 4) (x := a 55) G dX6_leastGlare_80 rfl rfl ?_
          refine v_get (q0 := 0) (k := 0) (v := .ref (a 56)) G k_X6 rfl rfl (by decide) q_5 rfl rfl dX6_leastGlare_81 ?_
          refine v_iload_n (j := 6) (x := jI x) G dX6_leastGlare_84 rfl rfl ?_
          refine v_iald (q0 := 1) (t0 := 0) (g := sSt li t (li (k : Int))) (z := x) G rfl rfl (by omega) dX6_leastGlare_85 ?_
          refine v_if_lt (a := (sSt li t (li (k : Int))) x) (tgt := 94) G dX6_leastGlare_86 (by decide) (by omega) (fun c_13 => ?_) (fun c_13 => ?_)
          · skip
            refine v_iload (j := 2) (x := jI (glN li x t k)) G dX6_leastGlare_94 rfl ?_
            refine v_istore (lv' := [(5, .int (jI (glN li x t k))), (7, .int (jI (li (k : Int)))), (6, .int (jI (k : Int))), (4, .int (jI (jmax (li x) (li t)))), (0, .ref (a 55)), (1, .ref (a 58)), (2, .int (jI x)), (3, .int (jI t))]) G dX6_leastGlare_96 (by decide) rfl ?_
            refine v_eqs (lv' := [(5, .int (jI (glN li x t (k + 1)))), (7, .int (jI (li (k : Int)))), (6, .int (jI (k : Int))), (4, .int (jI (jmax (li x) (li t)))), (0, .ref (a 55)), (1, .ref (a 58)), (2, .int (jI x)), (3, .int (jI t))]) (by rw [show glN li x t (k + 1) = glN li x t k from (by show (if _ then _ else _) = _; split <;> omega)]) rfl rfl ?_
            refine v_iinc (k := 2) (z := (k : Int)) (z' := ((k + 1 : Nat) : Int)) (lv' := [(6, .int (jI ((k + 1 : Nat) : Int))), (5, .int (jI (glN li x t (k + 1)))), (7, .int (jI (li (k : Int)))), (4, .int (jI (jmax (li x) (li t)))), (0, .ref (a 55)), (1, .ref (a 58)), (2, .int (jI x)), (3, .int (jI t))]) G dX6_leastGlare_98 rfl (by omega) (by decide) rfl ?_
            refine v_goto (tgt := 45) G dX6_leastGlare_101 (by decide) ?_
            refine v_locs (lv' := [(6, .int (jI ((k + 1 : Nat) : Int))), (5, .int (jI (glN li x t (k + 1)))), (4, .int (jI (jmax (li x) (li t)))), (0, .ref (a 55)), (1, .ref (a 58)), (2, .int (jI x)), (3, .int (jI t))]) [0, 1, 3, 4, 5, 6, 7] rfl ?_
            exact ih_5 (k + 1) (sSt li t (li (k : Int)), yq2_9) (by omega) (by omega)
          · skip
            refine v_iload (j := 0) (x := jI (li (k : Int))) G dX6_leastGlare_89 rfl ?_
            refine v_goto (tgt := 96) G dX6_leastGlare_91 (by decide) ?_
            refine v_istore (lv' := [(5, .int (jI (li (k : Int)))), (7, .int (jI (li (k : Int)))), (6, .int (jI (k : Int))), (4, .int (jI (jmax (li x) (li t)))), (0, .ref (a 55)), (1, .ref (a 58)), (2, .int (jI x)), (3, .int (jI t))]) G dX6_leastGlare_96 (by decide) rfl ?_
            refine v_eqs (lv' := [(5, .int (jI (glN li x t (k + 1)))), (7, .int (jI (li (k : Int)))), (6, .int (jI (k : Int))), (4, .int (jI (jmax (li x) (li t)))), (0, .ref (a 55)), (1, .ref (a 58)), (2, .int (jI x)), (3, .int (jI t))]) (by rw [show glN li x t (k + 1) = li (k : Int) from (by show (if _ then _ else _) = _; split <;> omega)]) rfl rfl ?_
            refine v_iinc (k := 2) (z := (k : Int)) (z' := ((k + 1 : Nat) : Int)) (lv' := [(6, .int (jI ((k + 1 : Nat) : Int))), (5, .int (jI (glN li x t (k + 1)))), (7, .int (jI (li (k : Int)))), (4, .int (jI (jmax (li x) (li t)))), (0, .ref (a 55)), (1, .ref (a 58)), (2, .int (jI x)), (3, .int (jI t))]) G dX6_leastGlare_98 rfl (by omega) (by decide) rfl ?_
            refine v_goto (tgt := 45) G dX6_leastGlare_101 (by decide) ?_
            refine v_locs (lv' := [(6, .int (jI ((k + 1 : Nat) : Int))), (5, .int (jI (glN li x t (k + 1)))), (4, .int (jI (jmax (li x) (li t)))), (0, .ref (a 55)), (1, .ref (a 58)), (2, .int (jI x)), (3, .int (jI t))]) [0, 1, 3, 4, 5, 6, 7] rfl ?_
            exact ih_5 (k + 1) (sSt li t (li (k : Int)), yq2_9) (by omega) (by omega)
  · skip
    have hlk := hl (k : Int) (by omega) (by omega)
    refine v_iload (j := 1) (x := jI (mxN li (jmax (li x) (li t)) k)) G dX6_leastGlare_25 rfl ?_
    refine v_aload_n (j := 4) (x := a 58) G dX6_leastGlare_27 rfl rfl ?_
    refine v_iload (j := 0) (x := jI (k : Int)) G dX6_leastGlare_28 rfl ?_
    refine v_iald (q0 := 3) (t0 := 0) (g := li) (z := (k : Int)) G rfl rfl (by omega) dX6_leastGlare_30 ?_
    refine v_mmax (z := jmax (mxN li (jmax (li x) (li t)) k) (li (k : Int))) G q_0 q_1 q_2 q_3 ⟨Nat.le_of_ble_eq_true rfl, Nat.le_of_ble_eq_true rfl, Nat.zero_le _, Nat.zero_le _⟩ (by omega) (jmax_z (mxN li (jmax (li x) (li t)) k) (li (k : Int))) dX6_leastGlare_31 ?_
    refine v_topj (x := jmax (mxN li (jmax (li x) (li t)) k) (li (k : Int))) (y := mxN li (jmax (li x) (li t)) (k + 1)) rfl ?_
    refine v_istore (lv' := [(5, .int (jI (mxN li (jmax (li x) (li t)) (k + 1)))), (6, .int (jI (k : Int))), (4, .int (jI (jmax (li x) (li t)))), (0, .ref (a 55)), (1, .ref (a 58)), (2, .int (jI x)), (3, .int (jI t))]) G dX6_leastGlare_34 (by decide) rfl ?_
    refine v_iinc (k := 1) (z := (k : Int)) (z' := ((k + 1 : Nat) : Int)) (lv' := [(6, .int (jI ((k + 1 : Nat) : Int))), (5, .int (jI (mxN li (jmax (li x) (li t)) (k + 1)))), (4, .int (jI (jmax (li x) (li t)))), (0, .ref (a 55)), (1, .ref (a 58)), (2, .int (jI x)), (3, .int (jI t))]) G dX6_leastGlare_36 rfl (by omega) (by decide) rfl ?_
    refine v_goto (tgt := 18) G dX6_leastGlare_39 (by decide) ?_
    exact ih_2 (k + 1) (by omega) (by omega)

set_option maxHeartbeats 4000000 in
set_option maxRecDepth 100000 in
theorem c_X8_stealth (x t : Int) (hw : Wc wd) (hr : (-2147483648 ≤ x ∧ x ≤ 2147483647) ∧ (-2147483648 ≤ t ∧ t ≤ 2147483647)) : Ci l yX8_stealth wsX8_stealth { frames := 5, cells := 0, slots := 0, locals := 113 } D (jT cI cL cB cS) [.ref (a 0), .int (jI x), .int (jI t)] (gS  a ks ++ gW cI (fun i => a (1 + i)) wd ++ gG cI (fun i => a (31 + i)) gl ++ gY cI (fun i => a (55 + i)) wy ++ gI cI a li ++ gF cI a fd) (S := (Int → Int) × GT × ((Int → Int) × (Int → Int)) × (Int → Int)) (fun u => (gS  a ks ++ gW cI (fun i => a (1 + i)) wd ++ gG cI (fun i => a (31 + i)) u.2.1 ++ gY cI (fun i => a (55 + i)) u.2.2.1 ++ gI cI a u.2.2.2 ++ gF cI a u.1)) (fun r u => ((¬ ((0 ≤ x ∧ x ≤ 15) ∧ 0 ≤ t ∧ t ≤ 15)) ∧ r = jI (-1000000001) ∧ u.1 = uI fd 0 (fd 0 + 1)) ∨ ((((0 ≤ x ∧ x ≤ 15) ∧ 0 ≤ t ∧ t ≤ 15)) ∧ r = jI (glN (cLt wd 0) x t 16) ∧ u.1 = fd)) := by
  refine Ci.mk (cc := cX8_stealth) (maxL := 3) (rt := .int) (by decide) rfl (Nat.le_of_ble_eq_true rfl) rfl ?_
  intro p_ e_ s_ m_ b_ me_ c_ A_ G hnm
  have q_0 : Cond.constant RX8 83 (-1000000001) ∈ wsX8_stealth := List.mem_of_getElem? (i := 1) rfl
  have k_X8 : ∀ w ∈ u_ws RX8 TX8 12, w ∈ wsX8_stealth := fun _ h => List.mem_cons_of_mem _ (List.mem_append_left _ (List.mem_append_left _ (List.mem_append_left _ (List.mem_append_right _ h))))
  have q_2 : Cond.fieldLink RX8 64 "SupperLight" "ways" "LSupperLight$Ways;" ∈ wsX8_stealth := List.mem_of_getElem? (i := 2) rfl
  have q_3 : Cond.fieldLink RX8 68 "SupperLight" "lights" "[I" ∈ wsX8_stealth := List.mem_of_getElem? (i := 3) rfl
  refine v_iload_n (j := 1) (x := jI x) G dX8_stealth_0 rfl rfl ?_
  refine v_ciN G (rn_S (As := [.int (jI x)]) (rest := []) G (c_X8_isPlace (p := x) (hr := (by omega))) gX8_stealth_X8_isPlace rfl hdX8_isPlace ⟨rfl, rfl, Nat.le_of_ble_eq_true rfl, Nat.le_of_ble_eq_true rfl⟩ rfl rfl (Nat.le_of_ble_eq_true rfl) ⟨Nat.zero_le _, Nat.zero_le _⟩ dX8_stealth_1) (fun r_1 u_3 e_2 => ?_)
  have e_2 : r_1 = jI (b2 (0 ≤ x ∧ x ≤ 15)) := e_2
  subst e_2
  refine v_ifb_eq (P := 0 ≤ x ∧ x ≤ 15) (tgt := 14) G dX8_stealth_4 (by decide) (fun c_4 => ?_) (fun c_4 => ?_)
  · skip
    refine v_aload_n (j := 0) (x := a 0) G dX8_stealth_14 rfl rfl ?_
    refine v_ldc (z := (-1000000001)) G q_0 (by decide) dX8_stealth_15 ?_
    refine v_ciP (w2 := (fun _ => (gS  a ks ++ gW cI (fun i => a (1 + i)) wd ++ gG cI (fun i => a (31 + i)) gl ++ gY cI (fun i => a (55 + i)) wy ++ gI cI a li ++ gF cI a (uI fd 0 (fd 0 + 1))))) (wr := (gW cI (fun i => a (1 + i)) wd ++ gG cI (fun i => a (31 + i)) gl ++ gY cI (fun i => a (55 + i)) wy ++ gI cI a li)) G (rn_V (As := [.int (jI (-1000000001))]) (rest := []) (q0 := 0) G (c_X8_found_0 (ks := ks) (fd := fd) (a := a) ) gX8_stealth_X8_found rfl hdX8_found ⟨rfl, rfl, Nat.le_of_ble_eq_true rfl, Nat.le_of_ble_eq_true rfl⟩ rfl rfl (Nat.le_of_ble_eq_true rfl) ⟨Nat.zero_le _, Nat.zero_le _⟩ rfl rfl dX8_stealth_17) [0, 20] [1, 2, 3, 4, 5, 6, 7, 8, 9, 10, 11, 12, 13, 14, 15, 16, 17, 18, 19] [19, 0, 1, 2, 3, 4, 5, 6, 7, 8, 9, 10, 11, 12, 13, 14, 15, 16, 17, 18, 20] rfl rfl (by decide) (fun _ => rfl) (fun r_5 u_7 e_6 => ?_)
    have e_6 : r_5 = jI (-1000000001) := e_6
    subst e_6
    refine v_world (ws' := (gS  a ks ++ gW cI (fun i => a (1 + i)) wd ++ gG cI (fun i => a (31 + i)) gl ++ gY cI (fun i => a (55 + i)) wy ++ gI cI a li ++ gF cI a (uI fd 0 (fd 0 + 1)))) rfl ?_
    exact v_iret G (uI fd 0 (fd 0 + 1), gl, wy, li) (by first | exact Or.inl ⟨(by omega), (by first | rfl | exact congrArg jI (by omega)), rfl⟩ | exact Or.inr (⟨(by omega), (by first | rfl | exact congrArg jI (by omega)), rfl⟩)) rfl dX8_stealth_20
  · skip
    refine v_iload_n (j := 2) (x := jI t) G dX8_stealth_7 rfl rfl ?_
    refine v_ciN G (rn_S (As := [.int (jI t)]) (rest := []) G (c_X8_isPlace (p := t) (hr := (by omega))) gX8_stealth_X8_isPlace rfl hdX8_isPlace ⟨rfl, rfl, Nat.le_of_ble_eq_true rfl, Nat.le_of_ble_eq_true rfl⟩ rfl rfl (Nat.le_of_ble_eq_true rfl) ⟨Nat.zero_le _, Nat.zero_le _⟩ dX8_stealth_8) (fun r_8 u_10 e_9 => ?_)
    have e_9 : r_8 = jI (b2 (0 ≤ t ∧ t ≤ 15)) := e_9
    subst e_9
    refine v_ifb_ne (P := 0 ≤ t ∧ t ≤ 15) (tgt := 21) G dX8_stealth_11 (by decide) (fun c_11 => ?_) (fun c_11 => ?_)
    · skip
      refine v_aload_n (j := 0) (x := a 0) G dX8_stealth_21 rfl rfl ?_
      refine v_cvP (w2 := (fun _ => (gS  a ks ++ gW cI (fun i => a (1 + i)) wd ++ gG cI (fun i => a (31 + i)) (glS wd 0 gl) ++ gY cI (fun i => a (55 + i)) wy ++ gI cI a (cLt wd 0) ++ gF cI a fd))) (wr := (gY cI (fun i => a (55 + i)) wy ++ gF cI a fd)) G (rn_V (As := []) (rest := []) (q0 := 0) G (c_X8_lightAll (ks := ks) (wd := wd) (gl := gl) (li := li) (a := a) (hw := hw)) gX8_stealth_X8_lightAll rfl hdX8_lightAll ⟨rfl, rfl, Nat.le_of_ble_eq_true rfl, Nat.le_of_ble_eq_true rfl⟩ rfl rfl (Nat.le_of_ble_eq_true rfl) ⟨Nat.zero_le _, Nat.zero_le _⟩ rfl rfl dX8_stealth_22) [0, 1, 2, 3, 4, 5, 6, 7, 8, 9, 10, 11, 12, 13, 14, 15, 19] [16, 17, 18, 20] [4, 5, 6, 7, 8, 9, 10, 11, 12, 13, 14, 15, 16, 17, 18, 19, 0, 1, 2, 20, 3] rfl rfl (by decide) (fun _ => rfl) (fun u_14 e_13 => ?_)
      refine v_world (ws' := (gS  a ks ++ gW cI (fun i => a (1 + i)) wd ++ gG cI (fun i => a (31 + i)) (glS wd 0 gl) ++ gY cI (fun i => a (55 + i)) wy ++ gI cI a (cLt wd 0) ++ gF cI a fd)) rfl ?_
      refine v_aload_n (j := 0) (x := a 0) G dX8_stealth_25 rfl rfl ?_
      refine v_get (q0 := 0) (k := 9) (v := .ref (a 55)) G k_X8 rfl rfl (by decide) q_2 rfl rfl dX8_stealth_26 ?_
      refine v_aload_n (j := 0) (x := a 0) G dX8_stealth_29 rfl rfl ?_
      refine v_get (q0 := 0) (k := 10) (v := .ref (a 58)) G k_X8 rfl rfl (by decide) q_3 rfl rfl dX8_stealth_30 ?_
      refine v_iload_n (j := 1) (x := jI x) G dX8_stealth_33 rfl rfl ?_
      refine v_iload_n (j := 2) (x := jI t) G dX8_stealth_34 rfl rfl ?_
      refine v_ciP (w2 := (fun wy2 => (gS  a ks ++ gW cI (fun i => a (1 + i)) wd ++ gG cI (fun i => a (31 + i)) (glS wd 0 gl) ++ gY cI (fun i => a (55 + i)) wy2 ++ gI cI a (cLt wd 0) ++ gF cI a fd))) (wr := (gS  a ks ++ gW cI (fun i => a (1 + i)) wd ++ gG cI (fun i => a (31 + i)) (glS wd 0 gl) ++ gF cI a fd)) G (rn_V (As := [.ref (a 58), .int (jI x), .int (jI t)]) (rest := []) (q0 := 0) G (c_X6_leastGlare (x := x) (t := t) (wy := wy) (li := cLt wd 0) (a := a) (hl := (fun j y0 y1 => cLt_r hw (n := 0) (p := j) (by omega) y0 y1)) (hx := (by omega))) gX8_stealth_X6_leastGlare rfl hdX6_leastGlare ⟨rfl, rfl, Nat.le_of_ble_eq_true rfl, Nat.le_of_ble_eq_true rfl⟩ rfl rfl (Nat.le_of_ble_eq_true rfl) ⟨Nat.zero_le _, Nat.zero_le _⟩ rfl rfl dX8_stealth_35) [16, 17, 18, 19] [0, 1, 2, 3, 4, 5, 6, 7, 8, 9, 10, 11, 12, 13, 14, 15, 20] [0, 1, 2, 3, 4, 5, 6, 7, 8, 9, 10, 11, 12, 13, 14, 15, 17, 18, 19, 20, 16] rfl rfl (by decide) (fun _ => rfl) (fun r_16 u_18 e_17 => ?_)
      obtain ⟨wy2_15, rfl⟩ : ∃ z, z = u_18 := ⟨_, rfl⟩
      have e_17 : r_16 = jI (glN (cLt wd 0) x t 16) ∧ True := e_17
      obtain ⟨e_170, e_17⟩ := e_17
      subst e_170
      refine v_world (ws' := (gS  a ks ++ gW cI (fun i => a (1 + i)) wd ++ gG cI (fun i => a (31 + i)) (glS wd 0 gl) ++ gY cI (fun i => a (55 + i)) wy2_15 ++ gI cI a (cLt wd 0) ++ gF cI a fd)) rfl ?_
      exact v_iret G (fd, (glS wd 0 gl), wy2_15, (cLt wd 0)) (by first | exact Or.inl ⟨(by omega), (by first | rfl | exact congrArg jI (by omega)), rfl⟩ | exact Or.inr (⟨(by omega), (by first | rfl | exact congrArg jI (by omega)), rfl⟩)) rfl dX8_stealth_38
    · skip
      refine v_aload_n (j := 0) (x := a 0) G dX8_stealth_14 rfl rfl ?_
      refine v_ldc (z := (-1000000001)) G q_0 (by decide) dX8_stealth_15 ?_
      refine v_ciP (w2 := (fun _ => (gS  a ks ++ gW cI (fun i => a (1 + i)) wd ++ gG cI (fun i => a (31 + i)) gl ++ gY cI (fun i => a (55 + i)) wy ++ gI cI a li ++ gF cI a (uI fd 0 (fd 0 + 1))))) (wr := (gW cI (fun i => a (1 + i)) wd ++ gG cI (fun i => a (31 + i)) gl ++ gY cI (fun i => a (55 + i)) wy ++ gI cI a li)) G (rn_V (As := [.int (jI (-1000000001))]) (rest := []) (q0 := 0) G (c_X8_found_0 (ks := ks) (fd := fd) (a := a) ) gX8_stealth_X8_found rfl hdX8_found ⟨rfl, rfl, Nat.le_of_ble_eq_true rfl, Nat.le_of_ble_eq_true rfl⟩ rfl rfl (Nat.le_of_ble_eq_true rfl) ⟨Nat.zero_le _, Nat.zero_le _⟩ rfl rfl dX8_stealth_17) [0, 20] [1, 2, 3, 4, 5, 6, 7, 8, 9, 10, 11, 12, 13, 14, 15, 16, 17, 18, 19] [19, 0, 1, 2, 3, 4, 5, 6, 7, 8, 9, 10, 11, 12, 13, 14, 15, 16, 17, 18, 20] rfl rfl (by decide) (fun _ => rfl) (fun r_19 u_21 e_20 => ?_)
      have e_20 : r_19 = jI (-1000000001) := e_20
      subst e_20
      refine v_world (ws' := (gS  a ks ++ gW cI (fun i => a (1 + i)) wd ++ gG cI (fun i => a (31 + i)) gl ++ gY cI (fun i => a (55 + i)) wy ++ gI cI a li ++ gF cI a (uI fd 0 (fd 0 + 1)))) rfl ?_
      exact v_iret G (uI fd 0 (fd 0 + 1), gl, wy, li) (by first | exact Or.inl ⟨(by omega), (by first | rfl | exact congrArg jI (by omega)), rfl⟩ | exact Or.inr (⟨(by omega), (by first | rfl | exact congrArg jI (by omega)), rfl⟩)) rfl dX8_stealth_20

set_option maxHeartbeats 4000000 in
set_option maxRecDepth 100000 in
theorem c_X8_way (x t v : Int) (hw : Wc wd) (hr : (-2147483648 ≤ x ∧ x ≤ 2147483647) ∧ (-2147483648 ≤ t ∧ t ≤ 2147483647) ∧ (-2147483648 ≤ v ∧ v ≤ 2147483647)) : Ci l yX8_way wsX8_way { frames := 5, cells := 0, slots := 0, locals := 113 } D (jT cI cL cB cS) [.ref (a 0), .int (jI x), .int (jI t), .int (jI v)] (gS  a ks ++ gW cI (fun i => a (1 + i)) wd ++ gG cI (fun i => a (31 + i)) gl ++ gY cI (fun i => a (55 + i)) wy ++ gI cI a li ++ gF cI a fd) (S := (Int → Int) × GT × ((Int → Int) × (Int → Int)) × (Int → Int)) (fun u => (gS  a ks ++ gW cI (fun i => a (1 + i)) wd ++ gG cI (fun i => a (31 + i)) u.2.1 ++ gY cI (fun i => a (55 + i)) u.2.2.1 ++ gI cI a u.2.2.2 ++ gF cI a u.1)) (fun r u => ((¬ (((0 ≤ x ∧ x ≤ 15) ∧ 0 ≤ t ∧ t ≤ 15) ∧ 0 ≤ v ∧ v ≤ 9999)) ∧ r = jI (-1000000001) ∧ u.1 = uI fd 0 (fd 0 + 1)) ∨ (((((0 ≤ x ∧ x ≤ 15) ∧ 0 ≤ t ∧ t ≤ 15) ∧ 0 ≤ v ∧ v ≤ 9999) ∧ sSt (cLt wd 0) t v x < 0) ∧ r = jI (-1000000004) ∧ u.1 = uI fd 3 (fd 3 + 1)) ∨ (((((0 ≤ x ∧ x ≤ 15) ∧ 0 ≤ t ∧ t ≤ 15) ∧ 0 ≤ v ∧ v ≤ 9999) ∧ 0 ≤ sSt (cLt wd 0) t v x) ∧ r = jI (sSt (cLt wd 0) t v x) ∧ u.1 = fd)) := by
  refine Ci.mk (cc := cX8_way) (maxL := 4) (rt := .int) (by decide) rfl (Nat.le_of_ble_eq_true rfl) rfl ?_
  intro p_ e_ s_ m_ b_ me_ c_ A_ G hnm
  have q_0 : Cond.constant RX8 83 (-1000000001) ∈ wsX8_way := List.mem_of_getElem? (i := 1) rfl
  have k_X8 : ∀ w ∈ u_ws RX8 TX8 12, w ∈ wsX8_way := fun _ h => List.mem_cons_of_mem _ (List.mem_append_left _ (List.mem_append_left _ (List.mem_append_left _ (List.mem_append_right _ h))))
  have q_2 : Cond.fieldLink RX8 64 "SupperLight" "ways" "LSupperLight$Ways;" ∈ wsX8_way := List.mem_of_getElem? (i := 2) rfl
  have q_3 : Cond.fieldLink RX8 68 "SupperLight" "lights" "[I" ∈ wsX8_way := List.mem_of_getElem? (i := 3) rfl
  have k_X6 : ∀ w ∈ u_ws RX6 TX6 2, w ∈ wsX8_way := fun _ h => List.mem_cons_of_mem _ (List.mem_append_left _ (List.mem_append_left _ (List.mem_append_right _ h)))
  have q_5 : Cond.fieldLink RX8 224 "SupperLight$Ways" "steps" "[I" ∈ wsX8_way := List.mem_of_getElem? (i := 4) rfl
  have q_6 : Cond.constant RX8 208 (-1000000004) ∈ wsX8_way := List.mem_of_getElem? (i := 5) rfl
  refine v_iload_n (j := 1) (x := jI x) G dX8_way_0 rfl rfl ?_
  refine v_ciN G (rn_S (As := [.int (jI x)]) (rest := []) G (c_X8_isPlace (p := x) (hr := (by omega))) gX8_way_X8_isPlace rfl hdX8_isPlace ⟨rfl, rfl, Nat.le_of_ble_eq_true rfl, Nat.le_of_ble_eq_true rfl⟩ rfl rfl (Nat.le_of_ble_eq_true rfl) ⟨Nat.zero_le _, Nat.zero_le _⟩ dX8_way_1) (fun r_1 u_3 e_2 => ?_)
  have e_2 : r_1 = jI (b2 (0 ≤ x ∧ x ≤ 15)) := e_2
  subst e_2
  refine v_ifb_eq (P := 0 ≤ x ∧ x ≤ 15) (tgt := 25) G dX8_way_4 (by decide) (fun c_4 => ?_) (fun c_4 => ?_)
  · skip
    refine v_aload_n (j := 0) (x := a 0) G dX8_way_25 rfl rfl ?_
    refine v_ldc (z := (-1000000001)) G q_0 (by decide) dX8_way_26 ?_
    refine v_ciP (w2 := (fun _ => (gS  a ks ++ gW cI (fun i => a (1 + i)) wd ++ gG cI (fun i => a (31 + i)) gl ++ gY cI (fun i => a (55 + i)) wy ++ gI cI a li ++ gF cI a (uI fd 0 (fd 0 + 1))))) (wr := (gW cI (fun i => a (1 + i)) wd ++ gG cI (fun i => a (31 + i)) gl ++ gY cI (fun i => a (55 + i)) wy ++ gI cI a li)) G (rn_V (As := [.int (jI (-1000000001))]) (rest := []) (q0 := 0) G (c_X8_found_0 (ks := ks) (fd := fd) (a := a) ) gX8_way_X8_found rfl hdX8_found ⟨rfl, rfl, Nat.le_of_ble_eq_true rfl, Nat.le_of_ble_eq_true rfl⟩ rfl rfl (Nat.le_of_ble_eq_true rfl) ⟨Nat.zero_le _, Nat.zero_le _⟩ rfl rfl dX8_way_28) [0, 20] [1, 2, 3, 4, 5, 6, 7, 8, 9, 10, 11, 12, 13, 14, 15, 16, 17, 18, 19] [19, 0, 1, 2, 3, 4, 5, 6, 7, 8, 9, 10, 11, 12, 13, 14, 15, 16, 17, 18, 20] rfl rfl (by decide) (fun _ => rfl) (fun r_5 u_7 e_6 => ?_)
    have e_6 : r_5 = jI (-1000000001) := e_6
    subst e_6
    refine v_world (ws' := (gS  a ks ++ gW cI (fun i => a (1 + i)) wd ++ gG cI (fun i => a (31 + i)) gl ++ gY cI (fun i => a (55 + i)) wy ++ gI cI a li ++ gF cI a (uI fd 0 (fd 0 + 1)))) rfl ?_
    exact v_iret G (uI fd 0 (fd 0 + 1), gl, wy, li) (by first | exact Or.inl ⟨(by omega), (by first | rfl | exact congrArg jI (by omega)), rfl⟩ | exact Or.inr (Or.inl ⟨(by omega), (by first | rfl | exact congrArg jI (by omega)), rfl⟩) | exact Or.inr (Or.inr (⟨(by omega), (by first | rfl | exact congrArg jI (by omega)), rfl⟩))) rfl dX8_way_31
  · skip
    refine v_iload_n (j := 2) (x := jI t) G dX8_way_7 rfl rfl ?_
    refine v_ciN G (rn_S (As := [.int (jI t)]) (rest := []) G (c_X8_isPlace (p := t) (hr := (by omega))) gX8_way_X8_isPlace rfl hdX8_isPlace ⟨rfl, rfl, Nat.le_of_ble_eq_true rfl, Nat.le_of_ble_eq_true rfl⟩ rfl rfl (Nat.le_of_ble_eq_true rfl) ⟨Nat.zero_le _, Nat.zero_le _⟩ dX8_way_8) (fun r_8 u_10 e_9 => ?_)
    have e_9 : r_8 = jI (b2 (0 ≤ t ∧ t ≤ 15)) := e_9
    subst e_9
    refine v_ifb_eq (P := 0 ≤ t ∧ t ≤ 15) (tgt := 25) G dX8_way_11 (by decide) (fun c_11 => ?_) (fun c_11 => ?_)
    · skip
      refine v_aload_n (j := 0) (x := a 0) G dX8_way_25 rfl rfl ?_
      refine v_ldc (z := (-1000000001)) G q_0 (by decide) dX8_way_26 ?_
      refine v_ciP (w2 := (fun _ => (gS  a ks ++ gW cI (fun i => a (1 + i)) wd ++ gG cI (fun i => a (31 + i)) gl ++ gY cI (fun i => a (55 + i)) wy ++ gI cI a li ++ gF cI a (uI fd 0 (fd 0 + 1))))) (wr := (gW cI (fun i => a (1 + i)) wd ++ gG cI (fun i => a (31 + i)) gl ++ gY cI (fun i => a (55 + i)) wy ++ gI cI a li)) G (rn_V (As := [.int (jI (-1000000001))]) (rest := []) (q0 := 0) G (c_X8_found_0 (ks := ks) (fd := fd) (a := a) ) gX8_way_X8_found rfl hdX8_found ⟨rfl, rfl, Nat.le_of_ble_eq_true rfl, Nat.le_of_ble_eq_true rfl⟩ rfl rfl (Nat.le_of_ble_eq_true rfl) ⟨Nat.zero_le _, Nat.zero_le _⟩ rfl rfl dX8_way_28) [0, 20] [1, 2, 3, 4, 5, 6, 7, 8, 9, 10, 11, 12, 13, 14, 15, 16, 17, 18, 19] [19, 0, 1, 2, 3, 4, 5, 6, 7, 8, 9, 10, 11, 12, 13, 14, 15, 16, 17, 18, 20] rfl rfl (by decide) (fun _ => rfl) (fun r_12 u_14 e_13 => ?_)
      have e_13 : r_12 = jI (-1000000001) := e_13
      subst e_13
      refine v_world (ws' := (gS  a ks ++ gW cI (fun i => a (1 + i)) wd ++ gG cI (fun i => a (31 + i)) gl ++ gY cI (fun i => a (55 + i)) wy ++ gI cI a li ++ gF cI a (uI fd 0 (fd 0 + 1)))) rfl ?_
      exact v_iret G (uI fd 0 (fd 0 + 1), gl, wy, li) (by first | exact Or.inl ⟨(by omega), (by first | rfl | exact congrArg jI (by omega)), rfl⟩ | exact Or.inr (Or.inl ⟨(by omega), (by first | rfl | exact congrArg jI (by omega)), rfl⟩) | exact Or.inr (Or.inr (⟨(by omega), (by first | rfl | exact congrArg jI (by omega)), rfl⟩))) rfl dX8_way_31
    · skip
      refine v_iload_n (j := 3) (x := jI v) G dX8_way_14 rfl rfl ?_
      refine v_iconst G dX8_way_15 ?_
      refine v_sipush G dX8_way_16 (by decide) ?_
      refine v_ciN G (rn_S (As := [.int (jI v), .int (jI 0), .int (jI 9999)]) (rest := []) G (c_X8_within (v := v) (lo := 0) (hi := 9999) (hr := (by omega))) gX8_way_X8_within rfl hdX8_within ⟨rfl, rfl, Nat.le_of_ble_eq_true rfl, Nat.le_of_ble_eq_true rfl⟩ rfl rfl (Nat.le_of_ble_eq_true rfl) ⟨Nat.zero_le _, Nat.zero_le _⟩ dX8_way_19) (fun r_15 u_17 e_16 => ?_)
      have e_16 : r_15 = jI (b2 ((0 : Int) ≤ v ∧ v ≤ (9999 : Int))) := e_16
      subst e_16
      refine v_ifb_ne (P := (0 : Int) ≤ v ∧ v ≤ (9999 : Int)) (tgt := 32) G dX8_way_22 (by decide) (fun c_18 => ?_) (fun c_18 => ?_)
      · skip
        refine v_aload_n (j := 0) (x := a 0) G dX8_way_32 rfl rfl ?_
        refine v_cvP (w2 := (fun _ => (gS  a ks ++ gW cI (fun i => a (1 + i)) wd ++ gG cI (fun i => a (31 + i)) (glS wd 0 gl) ++ gY cI (fun i => a (55 + i)) wy ++ gI cI a (cLt wd 0) ++ gF cI a fd))) (wr := (gY cI (fun i => a (55 + i)) wy ++ gF cI a fd)) G (rn_V (As := []) (rest := []) (q0 := 0) G (c_X8_lightAll (ks := ks) (wd := wd) (gl := gl) (li := li) (a := a) (hw := hw)) gX8_way_X8_lightAll rfl hdX8_lightAll ⟨rfl, rfl, Nat.le_of_ble_eq_true rfl, Nat.le_of_ble_eq_true rfl⟩ rfl rfl (Nat.le_of_ble_eq_true rfl) ⟨Nat.zero_le _, Nat.zero_le _⟩ rfl rfl dX8_way_33) [0, 1, 2, 3, 4, 5, 6, 7, 8, 9, 10, 11, 12, 13, 14, 15, 19] [16, 17, 18, 20] [4, 5, 6, 7, 8, 9, 10, 11, 12, 13, 14, 15, 16, 17, 18, 19, 0, 1, 2, 20, 3] rfl rfl (by decide) (fun _ => rfl) (fun u_21 e_20 => ?_)
        refine v_world (ws' := (gS  a ks ++ gW cI (fun i => a (1 + i)) wd ++ gG cI (fun i => a (31 + i)) (glS wd 0 gl) ++ gY cI (fun i => a (55 + i)) wy ++ gI cI a (cLt wd 0) ++ gF cI a fd)) rfl ?_
        refine v_aload_n (j := 0) (x := a 0) G dX8_way_36 rfl rfl ?_
        refine v_get (q0 := 0) (k := 9) (v := .ref (a 55)) G k_X8 rfl rfl (by decide) q_2 rfl rfl dX8_way_37 ?_
        refine v_aload_n (j := 0) (x := a 0) G dX8_way_40 rfl rfl ?_
        refine v_get (q0 := 0) (k := 10) (v := .ref (a 58)) G k_X8 rfl rfl (by decide) q_3 rfl rfl dX8_way_41 ?_
        refine v_iload_n (j := 2) (x := jI t) G dX8_way_44 rfl rfl ?_
        refine v_iload_n (j := 3) (x := jI v) G dX8_way_45 rfl rfl ?_
        refine v_cvP (w2 := (fun yq2 => (gS  a ks ++ gW cI (fun i => a (1 + i)) wd ++ gG cI (fun i => a (31 + i)) (glS wd 0 gl) ++ gY cI (fun i => a (55 + i)) (sSt (cLt wd 0) t v, yq2) ++ gI cI a (cLt wd 0) ++ gF cI a fd))) (wr := (gS  a ks ++ gW cI (fun i => a (1 + i)) wd ++ gG cI (fun i => a (31 + i)) (glS wd 0 gl) ++ gF cI a fd)) G (rn_V (As := [.ref (a 58), .int (jI t), .int (jI v)]) (rest := []) (q0 := 0) G (c_X6_spreadFrom (t := t) (v := v) (wy := wy) (li := cLt wd 0) (a := a) (hl := (fun j y0 y1 => cLt_r hw (n := 0) (p := j) (by omega) y0 y1)) (ht := (by omega))) gX8_way_X6_spreadFrom rfl hdX6_spreadFrom ⟨rfl, rfl, Nat.le_of_ble_eq_true rfl, Nat.le_of_ble_eq_true rfl⟩ rfl rfl (Nat.le_of_ble_eq_true rfl) ⟨Nat.zero_le _, Nat.zero_le _⟩ rfl rfl dX8_way_46) [16, 17, 18, 19] [0, 1, 2, 3, 4, 5, 6, 7, 8, 9, 10, 11, 12, 13, 14, 15, 20] [0, 1, 2, 3, 4, 5, 6, 7, 8, 9, 10, 11, 12, 13, 14, 15, 17, 18, 19, 20, 16] rfl rfl (by decide) (fun _ => rfl) (fun u_25 e_24 => ?_)
        obtain ⟨yq2_22, rfl⟩ : ∃ z, z = u_25 := ⟨_, rfl⟩
        refine v_world (ws' := (gS  a ks ++ gW cI (fun i => a (1 + i)) wd ++ gG cI (fun i => a (31 + i)) (glS wd 0 gl) ++ gY cI (fun i => a (55 + i)) (sSt (cLt wd 0) t v, yq2_22) ++ gI cI a (cLt wd 0) ++ gF cI a fd)) rfl ?_
        have hsx := sSt_r (cLt wd 0) t v x (by omega) (by omega)
        refine v_aload_n (j := 0) (x := a 0) G dX8_way_49 rfl rfl ?_
        refine v_get (q0 := 0) (k := 9) (v := .ref (a 55)) G k_X8 rfl rfl (by decide) q_2 rfl rfl dX8_way_50 ?_
        refine v_get (q0 := 16) (k := 0) (v := .ref (a 56)) G k_X6 rfl rfl (by decide) q_5 rfl rfl dX8_way_53 ?_
        refine v_iload_n (j := 1) (x := jI x) G dX8_way_56 rfl rfl ?_
        refine v_iald (q0 := 17) (t0 := 0) (g := sSt (cLt wd 0) t v) (z := x) G rfl rfl (by omega) dX8_way_57 ?_
        refine v_if_ge (a := (sSt (cLt wd 0) t v) x) (tgt := 70) G dX8_way_58 (by decide) (by omega) (fun c_26 => ?_) (fun c_26 => ?_)
        · skip
          refine v_aload_n (j := 0) (x := a 0) G dX8_way_70 rfl rfl ?_
          refine v_get (q0 := 0) (k := 9) (v := .ref (a 55)) G k_X8 rfl rfl (by decide) q_2 rfl rfl dX8_way_71 ?_
          refine v_get (q0 := 16) (k := 0) (v := .ref (a 56)) G k_X6 rfl rfl (by decide) q_5 rfl rfl dX8_way_74 ?_
          refine v_iload_n (j := 1) (x := jI x) G dX8_way_77 rfl rfl ?_
          refine v_iald (q0 := 17) (t0 := 0) (g := sSt (cLt wd 0) t v) (z := x) G rfl rfl (by omega) dX8_way_78 ?_
          exact v_iret G (fd, (glS wd 0 gl), (sSt (cLt wd 0) t v, yq2_22), (cLt wd 0)) (by first | exact Or.inl ⟨(by omega), (by first | rfl | exact congrArg jI (by omega)), rfl⟩ | exact Or.inr (Or.inl ⟨(by omega), (by first | rfl | exact congrArg jI (by omega)), rfl⟩) | exact Or.inr (Or.inr (⟨(by omega), (by first | rfl | exact congrArg jI (by omega)), rfl⟩))) rfl dX8_way_79
        · skip
          refine v_aload_n (j := 0) (x := a 0) G dX8_way_61 rfl rfl ?_
          refine v_ldc (z := (-1000000004)) G q_6 (by decide) dX8_way_62 ?_
          refine v_ciP (w2 := (fun _ => (gS  a ks ++ gW cI (fun i => a (1 + i)) wd ++ gG cI (fun i => a (31 + i)) (glS wd 0 gl) ++ gY cI (fun i => a (55 + i)) (sSt (cLt wd 0) t v, yq2_22) ++ gI cI a (cLt wd 0) ++ gF cI a (uI fd 3 (fd 3 + 1))))) (wr := (gW cI (fun i => a (1 + i)) wd ++ gG cI (fun i => a (31 + i)) (glS wd 0 gl) ++ gY cI (fun i => a (55 + i)) (sSt (cLt wd 0) t v, yq2_22) ++ gI cI a (cLt wd 0))) G (rn_V (As := [.int (jI (-1000000004))]) (rest := []) (q0 := 0) G (c_X8_found_3 (ks := ks) (fd := fd) (a := a) ) gX8_way_X8_found rfl hdX8_found ⟨rfl, rfl, Nat.le_of_ble_eq_true rfl, Nat.le_of_ble_eq_true rfl⟩ rfl rfl (Nat.le_of_ble_eq_true rfl) ⟨Nat.zero_le _, Nat.zero_le _⟩ rfl rfl dX8_way_64) [0, 20] [1, 2, 3, 4, 5, 6, 7, 8, 9, 10, 11, 12, 13, 14, 15, 16, 17, 18, 19] [19, 0, 1, 2, 3, 4, 5, 6, 7, 8, 9, 10, 11, 12, 13, 14, 15, 16, 17, 18, 20] rfl rfl (by decide) (fun _ => rfl) (fun r_27 u_29 e_28 => ?_)
          have e_28 : r_27 = jI (-1000000004) := e_28
          subst e_28
          refine v_world (ws' := (gS  a ks ++ gW cI (fun i => a (1 + i)) wd ++ gG cI (fun i => a (31 + i)) (glS wd 0 gl) ++ gY cI (fun i => a (55 + i)) (sSt (cLt wd 0) t v, yq2_22) ++ gI cI a (cLt wd 0) ++ gF cI a (uI fd 3 (fd 3 + 1)))) rfl ?_
          refine v_goto (tgt := 79) G dX8_way_67 (by decide) ?_
          exact v_iret G (uI fd 3 (fd 3 + 1), (glS wd 0 gl), (sSt (cLt wd 0) t v, yq2_22), (cLt wd 0)) (by first | exact Or.inl ⟨(by omega), (by first | rfl | exact congrArg jI (by omega)), rfl⟩ | exact Or.inr (Or.inl ⟨(by omega), (by first | rfl | exact congrArg jI (by omega)), rfl⟩) | exact Or.inr (Or.inr (⟨(by omega), (by first | rfl | exact congrArg jI (by omega)), rfl⟩))) rfl dX8_way_79
      · skip
        refine v_aload_n (j := 0) (x := a 0) G dX8_way_25 rfl rfl ?_
        refine v_ldc (z := (-1000000001)) G q_0 (by decide) dX8_way_26 ?_
        refine v_ciP (w2 := (fun _ => (gS  a ks ++ gW cI (fun i => a (1 + i)) wd ++ gG cI (fun i => a (31 + i)) gl ++ gY cI (fun i => a (55 + i)) wy ++ gI cI a li ++ gF cI a (uI fd 0 (fd 0 + 1))))) (wr := (gW cI (fun i => a (1 + i)) wd ++ gG cI (fun i => a (31 + i)) gl ++ gY cI (fun i => a (55 + i)) wy ++ gI cI a li)) G (rn_V (As := [.int (jI (-1000000001))]) (rest := []) (q0 := 0) G (c_X8_found_0 (ks := ks) (fd := fd) (a := a) ) gX8_way_X8_found rfl hdX8_found ⟨rfl, rfl, Nat.le_of_ble_eq_true rfl, Nat.le_of_ble_eq_true rfl⟩ rfl rfl (Nat.le_of_ble_eq_true rfl) ⟨Nat.zero_le _, Nat.zero_le _⟩ rfl rfl dX8_way_28) [0, 20] [1, 2, 3, 4, 5, 6, 7, 8, 9, 10, 11, 12, 13, 14, 15, 16, 17, 18, 19] [19, 0, 1, 2, 3, 4, 5, 6, 7, 8, 9, 10, 11, 12, 13, 14, 15, 16, 17, 18, 20] rfl rfl (by decide) (fun _ => rfl) (fun r_30 u_32 e_31 => ?_)
        have e_31 : r_30 = jI (-1000000001) := e_31
        subst e_31
        refine v_world (ws' := (gS  a ks ++ gW cI (fun i => a (1 + i)) wd ++ gG cI (fun i => a (31 + i)) gl ++ gY cI (fun i => a (55 + i)) wy ++ gI cI a li ++ gF cI a (uI fd 0 (fd 0 + 1)))) rfl ?_
        exact v_iret G (uI fd 0 (fd 0 + 1), gl, wy, li) (by first | exact Or.inl ⟨(by omega), (by first | rfl | exact congrArg jI (by omega)), rfl⟩ | exact Or.inr (Or.inl ⟨(by omega), (by first | rfl | exact congrArg jI (by omega)), rfl⟩) | exact Or.inr (Or.inr (⟨(by omega), (by first | rfl | exact congrArg jI (by omega)), rfl⟩))) rfl dX8_way_31

set_option maxHeartbeats 4000000 in
set_option maxRecDepth 100000 in
theorem c_X8_first (x t v : Int) (hw : Wc wd) (hr : (-2147483648 ≤ x ∧ x ≤ 2147483647) ∧ (-2147483648 ≤ t ∧ t ≤ 2147483647) ∧ (-2147483648 ≤ v ∧ v ≤ 2147483647)) : Ci l yX8_first wsX8_first { frames := 5, cells := 0, slots := 0, locals := 113 } D (jT cI cL cB cS) [.ref (a 0), .int (jI x), .int (jI t), .int (jI v)] (gS  a ks ++ gW cI (fun i => a (1 + i)) wd ++ gG cI (fun i => a (31 + i)) gl ++ gY cI (fun i => a (55 + i)) wy ++ gI cI a li ++ gF cI a fd) (S := (Int → Int) × GT × ((Int → Int) × (Int → Int)) × (Int → Int)) (fun u => (gS  a ks ++ gW cI (fun i => a (1 + i)) wd ++ gG cI (fun i => a (31 + i)) u.2.1 ++ gY cI (fun i => a (55 + i)) u.2.2.1 ++ gI cI a u.2.2.2 ++ gF cI a u.1)) (fun r u => ((¬ (((0 ≤ x ∧ x ≤ 15) ∧ 0 ≤ t ∧ t ≤ 15) ∧ 0 ≤ v ∧ v ≤ 9999)) ∧ r = jI (-1000000001) ∧ u.1 = uI fd 0 (fd 0 + 1)) ∨ (((((0 ≤ x ∧ x ≤ 15) ∧ 0 ≤ t ∧ t ≤ 15) ∧ 0 ≤ v ∧ v ≤ 9999) ∧ (if sSt (cLt wd 0) t v x ≤ 0 then -1 else if lstN (fun q_ : Nat => apt x (q_ : Int) = 1 ∧ sSt (cLt wd 0) t v (q_ : Int) = sSt (cLt wd 0) t v x - 1) 16 0 < 16 then (lstN (fun q_ : Nat => apt x (q_ : Int) = 1 ∧ sSt (cLt wd 0) t v (q_ : Int) = sSt (cLt wd 0) t v x - 1) 16 0 : Int) else -1) < 0) ∧ r = jI (-1000000004) ∧ u.1 = uI fd 3 (fd 3 + 1)) ∨ (((((0 ≤ x ∧ x ≤ 15) ∧ 0 ≤ t ∧ t ≤ 15) ∧ 0 ≤ v ∧ v ≤ 9999) ∧ 0 ≤ (if sSt (cLt wd 0) t v x ≤ 0 then -1 else if lstN (fun q_ : Nat => apt x (q_ : Int) = 1 ∧ sSt (cLt wd 0) t v (q_ : Int) = sSt (cLt wd 0) t v x - 1) 16 0 < 16 then (lstN (fun q_ : Nat => apt x (q_ : Int) = 1 ∧ sSt (cLt wd 0) t v (q_ : Int) = sSt (cLt wd 0) t v x - 1) 16 0 : Int) else -1)) ∧ r = jI ((if sSt (cLt wd 0) t v x ≤ 0 then -1 else if lstN (fun q_ : Nat => apt x (q_ : Int) = 1 ∧ sSt (cLt wd 0) t v (q_ : Int) = sSt (cLt wd 0) t v x - 1) 16 0 < 16 then (lstN (fun q_ : Nat => apt x (q_ : Int) = 1 ∧ sSt (cLt wd 0) t v (q_ : Int) = sSt (cLt wd 0) t v x - 1) 16 0 : Int) else -1)) ∧ u.1 = fd)) := by
  refine Ci.mk (cc := cX8_first) (maxL := 5) (rt := .int) (by decide) rfl (Nat.le_of_ble_eq_true rfl) rfl ?_
  intro p_ e_ s_ m_ b_ me_ c_ A_ G hnm
  have q_0 : Cond.constant RX8 83 (-1000000001) ∈ wsX8_first := List.mem_of_getElem? (i := 1) rfl
  have k_X8 : ∀ w ∈ u_ws RX8 TX8 12, w ∈ wsX8_first := fun _ h => List.mem_cons_of_mem _ (List.mem_append_left _ (List.mem_append_left _ (List.mem_append_left _ (List.mem_append_right _ h))))
  have q_2 : Cond.fieldLink RX8 64 "SupperLight" "ways" "LSupperLight$Ways;" ∈ wsX8_first := List.mem_of_getElem? (i := 2) rfl
  have q_3 : Cond.fieldLink RX8 68 "SupperLight" "lights" "[I" ∈ wsX8_first := List.mem_of_getElem? (i := 3) rfl
  have q_4 : Cond.constant RX8 208 (-1000000004) ∈ wsX8_first := List.mem_of_getElem? (i := 4) rfl
  refine v_iload_n (j := 1) (x := jI x) G dX8_first_0 rfl rfl ?_
  refine v_ciN G (rn_S (As := [.int (jI x)]) (rest := []) G (c_X8_isPlace (p := x) (hr := (by omega))) gX8_first_X8_isPlace rfl hdX8_isPlace ⟨rfl, rfl, Nat.le_of_ble_eq_true rfl, Nat.le_of_ble_eq_true rfl⟩ rfl rfl (Nat.le_of_ble_eq_true rfl) ⟨Nat.zero_le _, Nat.zero_le _⟩ dX8_first_1) (fun r_1 u_3 e_2 => ?_)
  have e_2 : r_1 = jI (b2 (0 ≤ x ∧ x ≤ 15)) := e_2
  subst e_2
  refine v_ifb_eq (P := 0 ≤ x ∧ x ≤ 15) (tgt := 25) G dX8_first_4 (by decide) (fun c_4 => ?_) (fun c_4 => ?_)
  · skip
    refine v_aload_n (j := 0) (x := a 0) G dX8_first_25 rfl rfl ?_
    refine v_ldc (z := (-1000000001)) G q_0 (by decide) dX8_first_26 ?_
    refine v_ciP (w2 := (fun _ => (gS  a ks ++ gW cI (fun i => a (1 + i)) wd ++ gG cI (fun i => a (31 + i)) gl ++ gY cI (fun i => a (55 + i)) wy ++ gI cI a li ++ gF cI a (uI fd 0 (fd 0 + 1))))) (wr := (gW cI (fun i => a (1 + i)) wd ++ gG cI (fun i => a (31 + i)) gl ++ gY cI (fun i => a (55 + i)) wy ++ gI cI a li)) G (rn_V (As := [.int (jI (-1000000001))]) (rest := []) (q0 := 0) G (c_X8_found_0 (ks := ks) (fd := fd) (a := a) ) gX8_first_X8_found rfl hdX8_found ⟨rfl, rfl, Nat.le_of_ble_eq_true rfl, Nat.le_of_ble_eq_true rfl⟩ rfl rfl (Nat.le_of_ble_eq_true rfl) ⟨Nat.zero_le _, Nat.zero_le _⟩ rfl rfl dX8_first_28) [0, 20] [1, 2, 3, 4, 5, 6, 7, 8, 9, 10, 11, 12, 13, 14, 15, 16, 17, 18, 19] [19, 0, 1, 2, 3, 4, 5, 6, 7, 8, 9, 10, 11, 12, 13, 14, 15, 16, 17, 18, 20] rfl rfl (by decide) (fun _ => rfl) (fun r_5 u_7 e_6 => ?_)
    have e_6 : r_5 = jI (-1000000001) := e_6
    subst e_6
    refine v_world (ws' := (gS  a ks ++ gW cI (fun i => a (1 + i)) wd ++ gG cI (fun i => a (31 + i)) gl ++ gY cI (fun i => a (55 + i)) wy ++ gI cI a li ++ gF cI a (uI fd 0 (fd 0 + 1)))) rfl ?_
    exact v_iret G (uI fd 0 (fd 0 + 1), gl, wy, li) (by first | exact Or.inl ⟨(by omega), (by first | rfl | exact congrArg jI (by omega)), rfl⟩ | exact Or.inr (Or.inl ⟨(by omega), (by first | rfl | exact congrArg jI (by omega)), rfl⟩) | exact Or.inr (Or.inr (⟨(by omega), (by first | rfl | exact congrArg jI (by omega)), rfl⟩))) rfl dX8_first_31
  · skip
    refine v_iload_n (j := 2) (x := jI t) G dX8_first_7 rfl rfl ?_
    refine v_ciN G (rn_S (As := [.int (jI t)]) (rest := []) G (c_X8_isPlace (p := t) (hr := (by omega))) gX8_first_X8_isPlace rfl hdX8_isPlace ⟨rfl, rfl, Nat.le_of_ble_eq_true rfl, Nat.le_of_ble_eq_true rfl⟩ rfl rfl (Nat.le_of_ble_eq_true rfl) ⟨Nat.zero_le _, Nat.zero_le _⟩ dX8_first_8) (fun r_8 u_10 e_9 => ?_)
    have e_9 : r_8 = jI (b2 (0 ≤ t ∧ t ≤ 15)) := e_9
    subst e_9
    refine v_ifb_eq (P := 0 ≤ t ∧ t ≤ 15) (tgt := 25) G dX8_first_11 (by decide) (fun c_11 => ?_) (fun c_11 => ?_)
    · skip
      refine v_aload_n (j := 0) (x := a 0) G dX8_first_25 rfl rfl ?_
      refine v_ldc (z := (-1000000001)) G q_0 (by decide) dX8_first_26 ?_
      refine v_ciP (w2 := (fun _ => (gS  a ks ++ gW cI (fun i => a (1 + i)) wd ++ gG cI (fun i => a (31 + i)) gl ++ gY cI (fun i => a (55 + i)) wy ++ gI cI a li ++ gF cI a (uI fd 0 (fd 0 + 1))))) (wr := (gW cI (fun i => a (1 + i)) wd ++ gG cI (fun i => a (31 + i)) gl ++ gY cI (fun i => a (55 + i)) wy ++ gI cI a li)) G (rn_V (As := [.int (jI (-1000000001))]) (rest := []) (q0 := 0) G (c_X8_found_0 (ks := ks) (fd := fd) (a := a) ) gX8_first_X8_found rfl hdX8_found ⟨rfl, rfl, Nat.le_of_ble_eq_true rfl, Nat.le_of_ble_eq_true rfl⟩ rfl rfl (Nat.le_of_ble_eq_true rfl) ⟨Nat.zero_le _, Nat.zero_le _⟩ rfl rfl dX8_first_28) [0, 20] [1, 2, 3, 4, 5, 6, 7, 8, 9, 10, 11, 12, 13, 14, 15, 16, 17, 18, 19] [19, 0, 1, 2, 3, 4, 5, 6, 7, 8, 9, 10, 11, 12, 13, 14, 15, 16, 17, 18, 20] rfl rfl (by decide) (fun _ => rfl) (fun r_12 u_14 e_13 => ?_)
      have e_13 : r_12 = jI (-1000000001) := e_13
      subst e_13
      refine v_world (ws' := (gS  a ks ++ gW cI (fun i => a (1 + i)) wd ++ gG cI (fun i => a (31 + i)) gl ++ gY cI (fun i => a (55 + i)) wy ++ gI cI a li ++ gF cI a (uI fd 0 (fd 0 + 1)))) rfl ?_
      exact v_iret G (uI fd 0 (fd 0 + 1), gl, wy, li) (by first | exact Or.inl ⟨(by omega), (by first | rfl | exact congrArg jI (by omega)), rfl⟩ | exact Or.inr (Or.inl ⟨(by omega), (by first | rfl | exact congrArg jI (by omega)), rfl⟩) | exact Or.inr (Or.inr (⟨(by omega), (by first | rfl | exact congrArg jI (by omega)), rfl⟩))) rfl dX8_first_31
    · skip
      refine v_iload_n (j := 3) (x := jI v) G dX8_first_14 rfl rfl ?_
      refine v_iconst G dX8_first_15 ?_
      refine v_sipush G dX8_first_16 (by decide) ?_
      refine v_ciN G (rn_S (As := [.int (jI v), .int (jI 0), .int (jI 9999)]) (rest := []) G (c_X8_within (v := v) (lo := 0) (hi := 9999) (hr := (by omega))) gX8_first_X8_within rfl hdX8_within ⟨rfl, rfl, Nat.le_of_ble_eq_true rfl, Nat.le_of_ble_eq_true rfl⟩ rfl rfl (Nat.le_of_ble_eq_true rfl) ⟨Nat.zero_le _, Nat.zero_le _⟩ dX8_first_19) (fun r_15 u_17 e_16 => ?_)
      have e_16 : r_15 = jI (b2 ((0 : Int) ≤ v ∧ v ≤ (9999 : Int))) := e_16
      subst e_16
      refine v_ifb_ne (P := (0 : Int) ≤ v ∧ v ≤ (9999 : Int)) (tgt := 32) G dX8_first_22 (by decide) (fun c_18 => ?_) (fun c_18 => ?_)
      · skip
        refine v_aload_n (j := 0) (x := a 0) G dX8_first_32 rfl rfl ?_
        refine v_cvP (w2 := (fun _ => (gS  a ks ++ gW cI (fun i => a (1 + i)) wd ++ gG cI (fun i => a (31 + i)) (glS wd 0 gl) ++ gY cI (fun i => a (55 + i)) wy ++ gI cI a (cLt wd 0) ++ gF cI a fd))) (wr := (gY cI (fun i => a (55 + i)) wy ++ gF cI a fd)) G (rn_V (As := []) (rest := []) (q0 := 0) G (c_X8_lightAll (ks := ks) (wd := wd) (gl := gl) (li := li) (a := a) (hw := hw)) gX8_first_X8_lightAll rfl hdX8_lightAll ⟨rfl, rfl, Nat.le_of_ble_eq_true rfl, Nat.le_of_ble_eq_true rfl⟩ rfl rfl (Nat.le_of_ble_eq_true rfl) ⟨Nat.zero_le _, Nat.zero_le _⟩ rfl rfl dX8_first_33) [0, 1, 2, 3, 4, 5, 6, 7, 8, 9, 10, 11, 12, 13, 14, 15, 19] [16, 17, 18, 20] [4, 5, 6, 7, 8, 9, 10, 11, 12, 13, 14, 15, 16, 17, 18, 19, 0, 1, 2, 20, 3] rfl rfl (by decide) (fun _ => rfl) (fun u_21 e_20 => ?_)
        refine v_world (ws' := (gS  a ks ++ gW cI (fun i => a (1 + i)) wd ++ gG cI (fun i => a (31 + i)) (glS wd 0 gl) ++ gY cI (fun i => a (55 + i)) wy ++ gI cI a (cLt wd 0) ++ gF cI a fd)) rfl ?_
        refine v_aload_n (j := 0) (x := a 0) G dX8_first_36 rfl rfl ?_
        refine v_get (q0 := 0) (k := 9) (v := .ref (a 55)) G k_X8 rfl rfl (by decide) q_2 rfl rfl dX8_first_37 ?_
        refine v_aload_n (j := 0) (x := a 0) G dX8_first_40 rfl rfl ?_
        refine v_get (q0 := 0) (k := 10) (v := .ref (a 58)) G k_X8 rfl rfl (by decide) q_3 rfl rfl dX8_first_41 ?_
        refine v_iload_n (j := 2) (x := jI t) G dX8_first_44 rfl rfl ?_
        refine v_iload_n (j := 3) (x := jI v) G dX8_first_45 rfl rfl ?_
        refine v_cvP (w2 := (fun yq2 => (gS  a ks ++ gW cI (fun i => a (1 + i)) wd ++ gG cI (fun i => a (31 + i)) (glS wd 0 gl) ++ gY cI (fun i => a (55 + i)) (sSt (cLt wd 0) t v, yq2) ++ gI cI a (cLt wd 0) ++ gF cI a fd))) (wr := (gS  a ks ++ gW cI (fun i => a (1 + i)) wd ++ gG cI (fun i => a (31 + i)) (glS wd 0 gl) ++ gF cI a fd)) G (rn_V (As := [.ref (a 58), .int (jI t), .int (jI v)]) (rest := []) (q0 := 0) G (c_X6_spreadFrom (t := t) (v := v) (wy := wy) (li := cLt wd 0) (a := a) (hl := (fun j y0 y1 => cLt_r hw (n := 0) (p := j) (by omega) y0 y1)) (ht := (by omega))) gX8_first_X6_spreadFrom rfl hdX6_spreadFrom ⟨rfl, rfl, Nat.le_of_ble_eq_true rfl, Nat.le_of_ble_eq_true rfl⟩ rfl rfl (Nat.le_of_ble_eq_true rfl) ⟨Nat.zero_le _, Nat.zero_le _⟩ rfl rfl dX8_first_46) [16, 17, 18, 19] [0, 1, 2, 3, 4, 5, 6, 7, 8, 9, 10, 11, 12, 13, 14, 15, 20] [0, 1, 2, 3, 4, 5, 6, 7, 8, 9, 10, 11, 12, 13, 14, 15, 17, 18, 19, 20, 16] rfl rfl (by decide) (fun _ => rfl) (fun u_25 e_24 => ?_)
        obtain ⟨yq2_22, rfl⟩ : ∃ z, z = u_25 := ⟨_, rfl⟩
        refine v_world (ws' := (gS  a ks ++ gW cI (fun i => a (1 + i)) wd ++ gG cI (fun i => a (31 + i)) (glS wd 0 gl) ++ gY cI (fun i => a (55 + i)) (sSt (cLt wd 0) t v, yq2_22) ++ gI cI a (cLt wd 0) ++ gF cI a fd)) rfl ?_
        have hsx := sSt_r (cLt wd 0) t v x (by omega) (by omega)
        refine v_aload_n (j := 0) (x := a 0) G dX8_first_49 rfl rfl ?_
        refine v_get (q0 := 0) (k := 9) (v := .ref (a 55)) G k_X8 rfl rfl (by decide) q_2 rfl rfl dX8_first_50 ?_
        refine v_iload_n (j := 1) (x := jI x) G dX8_first_53 rfl rfl ?_
        refine v_ciP (w2 := (fun _ => (gS  a ks ++ gW cI (fun i => a (1 + i)) wd ++ gG cI (fun i => a (31 + i)) (glS wd 0 gl) ++ gY cI (fun i => a (55 + i)) ((sSt (cLt wd 0) t v), yq2_22) ++ gI cI a (cLt wd 0) ++ gF cI a fd))) (wr := (gS  a ks ++ gW cI (fun i => a (1 + i)) wd ++ gG cI (fun i => a (31 + i)) (glS wd 0 gl) ++ gI cI a (cLt wd 0) ++ gF cI a fd)) G (rn_V (As := [.int (jI x)]) (rest := []) (q0 := 0) G (c_X6_nextFrom (x := x) (wy := (sSt (cLt wd 0) t v, yq2_22)) (a := a) (hx := (by omega)) (hg := (fun j y0 y1 => sSt_r (cLt wd 0) t v j y0 y1))) gX8_first_X6_nextFrom rfl hdX6_nextFrom ⟨rfl, rfl, Nat.le_of_ble_eq_true rfl, Nat.le_of_ble_eq_true rfl⟩ rfl rfl (Nat.le_of_ble_eq_true rfl) ⟨Nat.zero_le _, Nat.zero_le _⟩ rfl rfl dX8_first_54) [16, 17, 18] [0, 1, 2, 3, 4, 5, 6, 7, 8, 9, 10, 11, 12, 13, 14, 15, 19, 20] [0, 1, 2, 3, 4, 5, 6, 7, 8, 9, 10, 11, 12, 13, 14, 15, 18, 19, 20, 16, 17] rfl rfl (by decide) (fun _ => rfl) (fun r_26 u_28 e_27 => ?_)
        have e_27 : r_26 = jI (if (sSt (cLt wd 0) t v) x ≤ 0 then -1 else if lstN (fun q_ : Nat => apt x (q_ : Int) = 1 ∧ (sSt (cLt wd 0) t v) (q_ : Int) = (sSt (cLt wd 0) t v) x - 1) 16 0 < 16 then (lstN (fun q_ : Nat => apt x (q_ : Int) = 1 ∧ (sSt (cLt wd 0) t v) (q_ : Int) = (sSt (cLt wd 0) t v) x - 1) 16 0 : Int) else -1) := e_27
        subst e_27
        refine v_world (ws' := (gS  a ks ++ gW cI (fun i => a (1 + i)) wd ++ gG cI (fun i => a (31 + i)) (glS wd 0 gl) ++ gY cI (fun i => a (55 + i)) ((sSt (cLt wd 0) t v), yq2_22) ++ gI cI a (cLt wd 0) ++ gF cI a fd)) rfl ?_
        have hnx : -1 ≤ (if sSt (cLt wd 0) t v x ≤ 0 then -1 else if lstN (fun q_ : Nat => apt x (q_ : Int) = 1 ∧ sSt (cLt wd 0) t v (q_ : Int) = sSt (cLt wd 0) t v x - 1) 16 0 < 16 then (lstN (fun q_ : Nat => apt x (q_ : Int) = 1 ∧ sSt (cLt wd 0) t v (q_ : Int) = sSt (cLt wd 0) t v x - 1) 16 0 : Int) else -1) ∧ (if sSt (cLt wd 0) t v x ≤ 0 then -1 else if lstN (fun q_ : Nat => apt x (q_ : Int) = 1 ∧ sSt (cLt wd 0) t v (q_ : Int) = sSt (cLt wd 0) t v x - 1) 16 0 < 16 then (lstN (fun q_ : Nat => apt x (q_ : Int) = 1 ∧ sSt (cLt wd 0) t v (q_ : Int) = sSt (cLt wd 0) t v x - 1) 16 0 : Int) else -1) ≤ 16 := by constructor <;> (repeat' split) <;> omega
        refine v_istore (lv' := [(4, .int (jI (if (sSt (cLt wd 0) t v) x ≤ 0 then -1 else if lstN (fun q_ : Nat => apt x (q_ : Int) = 1 ∧ (sSt (cLt wd 0) t v) (q_ : Int) = (sSt (cLt wd 0) t v) x - 1) 16 0 < 16 then (lstN (fun q_ : Nat => apt x (q_ : Int) = 1 ∧ (sSt (cLt wd 0) t v) (q_ : Int) = (sSt (cLt wd 0) t v) x - 1) 16 0 : Int) else -1))), (0, .ref (a 0)), (1, .int (jI x)), (2, .int (jI t)), (3, .int (jI v))]) G dX8_first_57 (by decide) rfl ?_
        refine v_iload (j := 0) (x := jI (if (sSt (cLt wd 0) t v) x ≤ 0 then -1 else if lstN (fun q_ : Nat => apt x (q_ : Int) = 1 ∧ (sSt (cLt wd 0) t v) (q_ : Int) = (sSt (cLt wd 0) t v) x - 1) 16 0 < 16 then (lstN (fun q_ : Nat => apt x (q_ : Int) = 1 ∧ (sSt (cLt wd 0) t v) (q_ : Int) = (sSt (cLt wd 0) t v) x - 1) 16 0 : Int) else -1)) G dX8_first_59 rfl ?_
        refine v_if_ge (a := if (sSt (cLt wd 0) t v) x ≤ 0 then -1 else if lstN (fun q_ : Nat => apt x (q_ : Int) = 1 ∧ (sSt (cLt wd 0) t v) (q_ : Int) = (sSt (cLt wd 0) t v) x - 1) 16 0 < 16 then (lstN (fun q_ : Nat => apt x (q_ : Int) = 1 ∧ (sSt (cLt wd 0) t v) (q_ : Int) = (sSt (cLt wd 0) t v) x - 1) 16 0 : Int) else -1) (tgt := 73) G dX8_first_61 (by decide) (by omega) (fun c_29 => ?_) (fun c_29 => ?_)
        · skip
          refine v_iload (j := 0) (x := jI (if (sSt (cLt wd 0) t v) x ≤ 0 then -1 else if lstN (fun q_ : Nat => apt x (q_ : Int) = 1 ∧ (sSt (cLt wd 0) t v) (q_ : Int) = (sSt (cLt wd 0) t v) x - 1) 16 0 < 16 then (lstN (fun q_ : Nat => apt x (q_ : Int) = 1 ∧ (sSt (cLt wd 0) t v) (q_ : Int) = (sSt (cLt wd 0) t v) x - 1) 16 0 : Int) else -1)) G dX8_first_73 rfl ?_
          exact v_iret G (fd, (glS wd 0 gl), ((sSt (cLt wd 0) t v), yq2_22), (cLt wd 0)) (by first | exact Or.inl ⟨(by omega), (by first | rfl | exact congrArg jI (by omega)), rfl⟩ | exact Or.inr (Or.inl ⟨(by omega), (by first | rfl | exact congrArg jI (by omega)), rfl⟩) | exact Or.inr (Or.inr (⟨(by omega), (by first | rfl | exact congrArg jI (by omega)), rfl⟩))) rfl dX8_first_75
        · skip
          refine v_aload_n (j := 1) (x := a 0) G dX8_first_64 rfl rfl ?_
          refine v_ldc (z := (-1000000004)) G q_4 (by decide) dX8_first_65 ?_
          refine v_ciP (w2 := (fun _ => (gS  a ks ++ gW cI (fun i => a (1 + i)) wd ++ gG cI (fun i => a (31 + i)) (glS wd 0 gl) ++ gY cI (fun i => a (55 + i)) ((sSt (cLt wd 0) t v), yq2_22) ++ gI cI a (cLt wd 0) ++ gF cI a (uI fd 3 (fd 3 + 1))))) (wr := (gW cI (fun i => a (1 + i)) wd ++ gG cI (fun i => a (31 + i)) (glS wd 0 gl) ++ gY cI (fun i => a (55 + i)) ((sSt (cLt wd 0) t v), yq2_22) ++ gI cI a (cLt wd 0))) G (rn_V (As := [.int (jI (-1000000004))]) (rest := []) (q0 := 0) G (c_X8_found_3 (ks := ks) (fd := fd) (a := a) ) gX8_first_X8_found rfl hdX8_found ⟨rfl, rfl, Nat.le_of_ble_eq_true rfl, Nat.le_of_ble_eq_true rfl⟩ rfl rfl (Nat.le_of_ble_eq_true rfl) ⟨Nat.zero_le _, Nat.zero_le _⟩ rfl rfl dX8_first_67) [0, 20] [1, 2, 3, 4, 5, 6, 7, 8, 9, 10, 11, 12, 13, 14, 15, 16, 17, 18, 19] [19, 0, 1, 2, 3, 4, 5, 6, 7, 8, 9, 10, 11, 12, 13, 14, 15, 16, 17, 18, 20] rfl rfl (by decide) (fun _ => rfl) (fun r_30 u_32 e_31 => ?_)
          have e_31 : r_30 = jI (-1000000004) := e_31
          subst e_31
          refine v_world (ws' := (gS  a ks ++ gW cI (fun i => a (1 + i)) wd ++ gG cI (fun i => a (31 + i)) (glS wd 0 gl) ++ gY cI (fun i => a (55 + i)) ((sSt (cLt wd 0) t v), yq2_22) ++ gI cI a (cLt wd 0) ++ gF cI a (uI fd 3 (fd 3 + 1)))) rfl ?_
          refine v_goto (tgt := 75) G dX8_first_70 (by decide) ?_
          exact v_iret G (uI fd 3 (fd 3 + 1), (glS wd 0 gl), ((sSt (cLt wd 0) t v), yq2_22), (cLt wd 0)) (by first | exact Or.inl ⟨(by omega), (by first | rfl | exact congrArg jI (by omega)), rfl⟩ | exact Or.inr (Or.inl ⟨(by omega), (by first | rfl | exact congrArg jI (by omega)), rfl⟩) | exact Or.inr (Or.inr (⟨(by omega), (by first | rfl | exact congrArg jI (by omega)), rfl⟩))) rfl dX8_first_75
      · skip
        refine v_aload_n (j := 0) (x := a 0) G dX8_first_25 rfl rfl ?_
        refine v_ldc (z := (-1000000001)) G q_0 (by decide) dX8_first_26 ?_
        refine v_ciP (w2 := (fun _ => (gS  a ks ++ gW cI (fun i => a (1 + i)) wd ++ gG cI (fun i => a (31 + i)) gl ++ gY cI (fun i => a (55 + i)) wy ++ gI cI a li ++ gF cI a (uI fd 0 (fd 0 + 1))))) (wr := (gW cI (fun i => a (1 + i)) wd ++ gG cI (fun i => a (31 + i)) gl ++ gY cI (fun i => a (55 + i)) wy ++ gI cI a li)) G (rn_V (As := [.int (jI (-1000000001))]) (rest := []) (q0 := 0) G (c_X8_found_0 (ks := ks) (fd := fd) (a := a) ) gX8_first_X8_found rfl hdX8_found ⟨rfl, rfl, Nat.le_of_ble_eq_true rfl, Nat.le_of_ble_eq_true rfl⟩ rfl rfl (Nat.le_of_ble_eq_true rfl) ⟨Nat.zero_le _, Nat.zero_le _⟩ rfl rfl dX8_first_28) [0, 20] [1, 2, 3, 4, 5, 6, 7, 8, 9, 10, 11, 12, 13, 14, 15, 16, 17, 18, 19] [19, 0, 1, 2, 3, 4, 5, 6, 7, 8, 9, 10, 11, 12, 13, 14, 15, 16, 17, 18, 20] rfl rfl (by decide) (fun _ => rfl) (fun r_33 u_35 e_34 => ?_)
        have e_34 : r_33 = jI (-1000000001) := e_34
        subst e_34
        refine v_world (ws' := (gS  a ks ++ gW cI (fun i => a (1 + i)) wd ++ gG cI (fun i => a (31 + i)) gl ++ gY cI (fun i => a (55 + i)) wy ++ gI cI a li ++ gF cI a (uI fd 0 (fd 0 + 1)))) rfl ?_
        exact v_iret G (uI fd 0 (fd 0 + 1), gl, wy, li) (by first | exact Or.inl ⟨(by omega), (by first | rfl | exact congrArg jI (by omega)), rfl⟩ | exact Or.inr (Or.inl ⟨(by omega), (by first | rfl | exact congrArg jI (by omega)), rfl⟩) | exact Or.inr (Or.inr (⟨(by omega), (by first | rfl | exact congrArg jI (by omega)), rfl⟩))) rfl dX8_first_31
end

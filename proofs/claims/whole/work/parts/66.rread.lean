/-! the reference's bytes -/
def Tr (tp : Int → Int) (tn : Int) : Prop := (0 ≤ tn ∧ tn ≤ 120) ∧ ∀ j : Int, 0 ≤ j → j < 120 → 0 ≤ tp j ∧ tp j ≤ 255
theorem bB_i {g : Int → Int} {n j : Int} (h : 0 ≤ j ∧ j < n) : bB g n j = g j := if_pos h
theorem bB_o {g : Int → Int} {n j : Int} (h : n ≤ j) : bB g n j = -1 := if_neg (by omega)
theorem Tr_k {tp : Int → Int} {tn : Int} (h : Tr tp tn) : Bk (bB tp tn) tn := ⟨h.1, fun j hj => bB_o hj⟩
theorem bB_r {tp : Int → Int} {tn : Int} (h : Tr tp tn) (j : Int) : -1 ≤ bB tp tn j ∧ bB tp tn j ≤ 255 := by
  have h1 := h.1
  unfold bB
  split
  · have := h.2 j (by omega) (by omega); omega
  · omega
theorem bB_n {tp : Int → Int} {tn j : Int} (h : Tr tp tn) : tn ≤ j → bB tp tn j = -1 := bB_o
def wn (B : Int → Int) (q : Int) (w : List Int) (k : Nat) : Prop := we B q - q = (w.length : Int) ∧ ∀ i : Nat, i < k → i < w.length → B (q + (i : Int)) = w.getD i 0
theorem wn_s {B : Int → Int} {q : Int} {w : List Int} {k : Nat} (h : wn B q w k) (e : B (q + (k : Int)) = w.getD k 0) : wn B q w (k + 1) := by
  refine ⟨h.1, fun i h1 h2 => ?_⟩
  by_cases c : i = k
  · subst c; exact e
  · exact h.2 i (by omega) h2
theorem wn_w {B : Int → Int} {n q : Int} {c k : Nat} (hB : Bk B n) (hc : c < 15) (h : (wdC c).length ≤ k ∨ ¬ wn B q (wdC c) k) : wn B q (wdC c) k ↔ cd B n q = (c : Int) := by
  rw [cd_w hB c hc, ← wm_we (wdC_ok c hc)]
  constructor
  · intro z
    rcases h with h | h
    · exact ⟨z.1, fun i hi => z.2 i (by omega) hi⟩
    · exact absurd z h
  · intro z
    exact ⟨z.1, fun i _ hi => z.2 i hi⟩
theorem tkl {B : Int → Int} {n q : Int} {c : Nat} (hB : Bk B n) (hQ : Qk B n q) (hc : c < 15) (h : cd B n q = (c : Int)) : (0 ≤ q + ((wdC c).length : Int) ∧ q + ((wdC c).length : Int) ≤ n) ∧ sk B (q + ((wdC c).length : Int)) = nx B q := by
  have h1 := (cd_w hB c hc).mp h
  have h2 : q < n := by
    by_cases d : n ≤ q
    · have := (cd_17 (B := B) (n := n) (q := q)).mpr d; omega
    · omega
  have h3 := hQ.1
  have h4 := te_p hB (p := q) (by omega)
  have e : q + ((wdC c).length : Int) = te B q := by have := h1.1; omega
  rw [e]
  exact ⟨by omega, rfl⟩
theorem ldcSw {p : Program} {l : Launch} {e : Env} {R : Room} {s : State} {m : MethodId} {args : Array Value} {below : List Frame} {meth : Method} {c : Code} {T : State} {locs : List Loc} {cells slots : Nat}
    (X : Stand p l e R s m args below meth c T locs cells slots) (hexec : p.tables.exec = Jvm.exec) {own text : String} {index : Nat} {a : Addr} (hown : s.vm.findClass own = some m.cls)
    (hconst : (Cond.stringRef own index text).before args s = true) (hev : (Term.string own index).eval args s none [] s = some (.ref a)) {g : JFrame} (hg : g.method = m) (hdg : decode c.code g.pc = .ok (.ldc_w index, 3)) :
    ∀ target, Steps p.tables e below (T.setTop { g with pc := g.pc + 3, stack := .ref a :: g.stack }) target → Steps p.tables e below (T.setTop g) target := by
  obtain ⟨k, cf, i, a', hk, hcf, hcp, -, hr, hev'⟩ := Cond.stringRef_spec hown hconst
  cases hev.symm.trans hev'
  obtain ⟨k', hk', he⟩ := X.warmed.alike.2.2 _ _ hk
  have hr' : k'.resolved[index]? = some (some (.string a)) := by
    rcases X.warmed.entry hk hk' index with h | ⟨h, -⟩
    · rw [h]; exact hr
    · rw [hr] at h; cases h
  intro target hrest
  subst hg
  jvm_step X.here [hexec, hdg, Op.ldc_w.wp_string (e := e) (s := T) (f := g) X.here.top hk' (by rw [he]; exact hcf) hcp hr']
  exact hrest
section
variable {p : Program} {l : Launch} {e : Env} {R : Room} {s : State} {m : MethodId} {args : Array Value} {below : List Frame} {meth : Method} {c : Code} {D : va_G} {tys : List (ClassId × FieldType)} {A : Nat → Prop} {cc : ByteArray} {nL cs sl : Nat} {own : String} {Ts : List Cond} {ret : Option FieldType} {Q : State → Prop} {pc : Nat} {lv : List (Nat × Value)} {st : List Value} {ws : va_W}
theorem v_ldcSw (G : Gx p R s m args meth c D tys A cc nL own Ts ret) {index : Nat} {tx : String} {bs : List Int32} (hx : (own, index, tx, bs) ∈ jStrL) (d : decode cc pc = .ok (.ldc_w index, 3)) (kk : ∀ q : Nat, vk_R own index tx q s → jStr q bs A s s.heap → V p l e R s m args below meth c D A nL cs sl Q (pc + 3) lv (.ref q :: st) ws) : V p l e R s m args below meth c D A nL cs sl Q pc lv st ws := by
  obtain ⟨hx0, hb, hml, hown, hts, hr, hlk, hK, hE, hA⟩ := G
  intro H locs ls hP hD hS hl
  obtain ⟨q, h1, h2⟩ := hE.2.2.2.2 _ hx
  intro T hT X
  obtain ⟨t, a1, b1⟩ := kk q h1 h2 H locs ls hP hD hS hl T hT X
  exact ⟨t, ldcSw X hx0 hown (text := tx) (a := q) h1.1 h1.2 (g := F0 m pc ls st) rfl (by rw [hb]; exact d) t a1, b1⟩
theorem v_mminl (G : Gx p R s m args meth c D tys A cc nL own Ts ret) {index : Nat} {a b z : Int} (h1 : Cond.methodLink own index Lib.MathLoose.min_long.x ∈ Ts) (h2 : Cond.static Lib.MathLoose.min_long.x ∈ Ts) (h3 : Cond.initialized "java/lang/Math" ∈ Ts) (h4 : Cond.code Lib.MathLoose.min_long.x Lib.MathLoose.min_long.code 4 (some .long) ∈ Ts) (hR : 1 ≤ R.frames ∧ (st.map fun v => v.category).sum + 15 ≤ R.locals ∧ cs ≤ R.cells ∧ sl ≤ R.slots) (hq : (-2147483648 ≤ a ∧ a ≤ 2147483647) ∧ -2147483648 ≤ b ∧ b ≤ 2147483647) (hz : (b < a → b = z) ∧ (a ≤ b → a = z)) (d : decode cc pc = .ok (.invokestatic index, 3)) (kk : V p l e R s m args below meth c D A nL cs sl Q (pc + 3) lv (.long (jL z) :: st) ws) : V p l e R s m args below meth c D A nL cs sl Q pc lv (.long (jL b) :: .long (jL a) :: st) ws := by
  obtain ⟨hx, hb, hml, hown, hts, hr, hlk, hK, hE, hA⟩ := G
  intro H locs ls hP hD hS hl
  refine va_mmin_long hx hb (hml.trans hl.1.symm) hown (hts _ h1) (hts _ h2) (hts _ h3) (hts _ h4) hR.1 hR.2.1 hR.2.2.1 hR.2.2.2 d ?_
  have e : (if jL b < jL a then jL b else jL a) = jL z := by
    have t1 := jL_toInt (z := a) (by omega)
    have t2 := jL_toInt (z := b) (by omega)
    by_cases q : b < a
    · rw [if_pos (Int64.lt_iff_toInt_lt.mpr (by omega)), hz.1 q]
    · rw [if_neg (fun h => q (by have := Int64.lt_iff_toInt_lt.mp h; omega)), hz.2 (by omega)]
  rw [e]
  exact kk H locs ls hP hD hS hl
end
theorem jS9_0 : (RX9, 229, txC 0, (wdC 0).map jI) ∈ jStrL := by decide +kernel
theorem jS9_1 : (RX9, 231, txC 1, (wdC 1).map jI) ∈ jStrL := by decide +kernel
theorem jS9_2 : (RX9, 233, txC 2, (wdC 2).map jI) ∈ jStrL := by decide +kernel
theorem jS9_3 : (RX9, 235, txC 3, (wdC 3).map jI) ∈ jStrL := by decide +kernel
theorem jS9_4 : (RX9, 237, txC 4, (wdC 4).map jI) ∈ jStrL := by decide +kernel
theorem jS9_5 : (RX9, 239, txC 5, (wdC 5).map jI) ∈ jStrL := by decide +kernel
theorem jS9_6 : (RX9, 247, txC 6, (wdC 6).map jI) ∈ jStrL := by decide +kernel
theorem jS9_7 : (RX9, 252, txC 7, (wdC 7).map jI) ∈ jStrL := by decide +kernel
theorem jS9_8 : (RX9, 258, txC 8, (wdC 8).map jI) ∈ jStrL := by decide +kernel
theorem jS9_9 : (RX9, 260, txC 9, (wdC 9).map jI) ∈ jStrL := by decide +kernel
theorem jS9_10 : (RX9, 277, txC 10, (wdC 10).map jI) ∈ jStrL := by decide +kernel
theorem jS9_11 : (RX9, 272, txC 11, (wdC 11).map jI) ∈ jStrL := by decide +kernel
theorem jS9_12 : (RX9, 262, txC 12, (wdC 12).map jI) ∈ jStrL := by decide +kernel
theorem jS9_13 : (RX9, 263, txC 13, (wdC 13).map jI) ∈ jStrL := by decide +kernel
theorem jS9_14 : (RX9, 282, txC 14, (wdC 14).map jI) ∈ jStrL := by decide +kernel
section
variable {l : Launch} {D : va_G} {cI cL cB cS : ClassId} {a : Nat → Nat} {w kp bf ah fd sp lt tp bt lg : Int → Int} {ik tn he ft vz : Int} {ce bw : Int → Int64}
set_option maxHeartbeats 4000000 in
set_option maxRecDepth 100000 in
theorem c_X9_byteAt (j : Int) (ht : Tr tp tn) (hj : 0 ≤ j ∧ j ≤ 1000) : Ci l yX9_byteAt wsX9_byteAt { frames := 0, cells := 0, slots := 0, locals := 0 } D (jT cI cL cB cS) [.ref (a 0), .int (jI j)] (wR cI cL a w kp bf ah ik fd sp lt tp tn he ft vz bt lg ce bw) (S := Unit) (fun _ => (wR cI cL a w kp bf ah ik fd sp lt tp tn he ft vz bt lg ce bw)) (fun r _ => r = jI ((bB tp tn) j)) := by
  refine Ci.mk (cc := cX9_byteAt) (maxL := 2) (rt := .int) (by decide) rfl (Nat.le_of_ble_eq_true rfl) rfl ?_
  intro p_ e_ s_ m_ b_ me_ c_ A_ G hnm
  have hn := ht.1
  have hB := Tr_k ht
  have k_X9 : ∀ w ∈ u_ws RX9 TX9 17, w ∈ wsX9_byteAt := fun _ h => List.mem_cons_of_mem _ (List.mem_append_right _ h)
  have q_1 : Cond.fieldLink RX9 170 "SupperLightModel" "taped" "I" ∈ wsX9_byteAt := List.mem_of_getElem? (i := 1) rfl
  have q_2 : Cond.fieldLink RX9 31 "SupperLightModel" "tape" "[I" ∈ wsX9_byteAt := List.mem_of_getElem? (i := 2) rfl
  refine v_iload_n (j := 1) (x := jI j) G dX9_byteAt_0 rfl rfl ?_
  refine v_aload_n (j := 0) (x := a 0) G dX9_byteAt_1 rfl rfl ?_
  refine v_get (q0 := 0) (k := 9) (v := .int (jI tn)) G k_X9 rfl rfl (by decide) q_1 rfl rfl dX9_byteAt_2 ?_
  refine v_icmp_ge (a := j) (b := tn) (tgt := 17) G dX9_byteAt_5 (by decide) (by omega) (fun c_1 => ?_) (fun c_1 => ?_)
  · skip
    refine v_iconst G dX9_byteAt_17 ?_
    exact v_iret G () (show jI (-1) = jI ((bB tp tn) j) from congrArg jI (bB_o (by omega)).symm) rfl dX9_byteAt_18
  · skip
    refine v_aload_n (j := 0) (x := a 0) G dX9_byteAt_8 rfl rfl ?_
    refine v_get (q0 := 0) (k := 8) (v := .ref (a 8)) G k_X9 rfl rfl (by decide) q_2 rfl rfl dX9_byteAt_9 ?_
    refine v_iload_n (j := 1) (x := jI j) G dX9_byteAt_12 rfl rfl ?_
    refine v_iald (q0 := 8) (t0 := 0) (g := tp) (z := j) G rfl rfl (by omega) dX9_byteAt_13 ?_
    refine v_goto (tgt := 18) G dX9_byteAt_14 (by decide) ?_
    exact v_iret G () (show jI (tp j) = jI ((bB tp tn) j) from congrArg jI (bB_i (by omega)).symm) rfl dX9_byteAt_18

set_option maxHeartbeats 4000000 in
set_option maxRecDepth 100000 in
theorem c_X9_blanks  (ht : Tr tp tn) (hh : 0 ≤ he ∧ he ≤ tn) : Cv l yX9_blanks wsX9_blanks { frames := 1, cells := 0, slots := 0, locals := 21 } D (jT cI cL cB cS) [.ref (a 0)] (wR cI cL a w kp bf ah ik fd sp lt tp tn he ft vz bt lg ce bw) (S := Unit) (fun _ => (wR cI cL a w kp bf ah ik fd sp lt tp tn (sk (bB tp tn) he) ft vz bt lg ce bw)) (fun _ => True) := by
  refine Cv.mk (cc := cX9_blanks) (maxL := 1) (by decide) rfl (Nat.le_of_ble_eq_true rfl) rfl ?_
  intro p_ e_ s_ m_ b_ me_ c_ A_ G hnm
  have hn := ht.1
  have hB := Tr_k ht
  have k_X9 : ∀ w ∈ u_ws RX9 TX9 17, w ∈ wsX9_blanks := fun _ h => List.mem_cons_of_mem _ (List.mem_append_right _ h)
  have q_1 : Cond.fieldLink RX9 174 "SupperLightModel" "here" "I" ∈ wsX9_blanks := List.mem_of_getElem? (i := 1) rfl
  refine v_world (ws' := (wR cI cL a w kp bf ah ik fd sp lt tp tn (he + ((0 : Nat) : Int)) ft vz bt lg ce bw)) (by rw [show he + ((0 : Nat) : Int) = he by omega]) ?_
  refine v_loop1 (fun (k : Nat) => [(0, .ref (a 0))]) (fun (k : Nat) => (wR cI cL a w kp bf ah ik fd sp lt tp tn (he + (k : Int)) ft vz bt lg ce bw)) (fun (k : Nat) => he + (k : Int) ≤ tn ∧ ∀ j_ : Int, he ≤ j_ → j_ < he + (k : Int) → (bB tp tn) j_ = 32) (fun (k : Nat) => tn.toNat - k) 0 ⟨by omega, fun j_ q0 q1 => by omega⟩ rfl rfl ?_
  intro k I_1 ih_2
  obtain ⟨hk1, hk2⟩ := id I_1; have hbr := bB_r ht (he + (k : Int))
  refine v_aload_n (j := 0) (x := a 0) G dX9_blanks_0 rfl rfl ?_
  refine v_aload_n (j := 0) (x := a 0) G dX9_blanks_1 rfl rfl ?_
  refine v_get (q0 := 0) (k := 10) (v := .int (jI (he + (k : Int)))) G k_X9 rfl rfl (by decide) q_1 rfl rfl dX9_blanks_2 ?_
  refine v_ciF G (rn_V (As := [.int (jI (he + (k : Int)))]) (rest := []) (q0 := 0) G (c_X9_byteAt (j := he + (k : Int)) (w := w) (kp := kp) (bf := bf) (ah := ah) (ik := ik) (fd := fd) (sp := sp) (lt := lt) (tp := tp) (tn := tn) (he := he + (k : Int)) (ft := ft) (vz := vz) (bt := bt) (lg := lg) (ce := ce) (bw := bw) (a := a) (ht := ht) (hj := (by omega))) gX9_blanks_X9_byteAt rfl hdX9_byteAt ⟨rfl, rfl, Nat.le_of_ble_eq_true rfl, Nat.le_of_ble_eq_true rfl⟩ rfl rfl (Nat.le_of_ble_eq_true rfl) ⟨Nat.zero_le _, Nat.zero_le _⟩ rfl rfl dX9_blanks_5) (fun r_3 u_5 e_4 => ?_)
  have e_4 : r_3 = jI ((bB tp tn) (he + (k : Int))) := e_4
  subst e_4
  refine v_world (ws' := (wR cI cL a w kp bf ah ik fd sp lt tp tn (he + (k : Int)) ft vz bt lg ce bw)) rfl ?_
  refine v_bipush G dX9_blanks_8 (by decide) ?_
  refine v_icmp_ne (a := (bB tp tn) (he + (k : Int))) (b := 32) (tgt := 26) G dX9_blanks_10 (by decide) (by omega) (fun c_6 => ?_) (fun c_6 => ?_)
  · skip
    have hsk : sk (bB tp tn) he = he + (k : Int) := sk_u hB (by omega) hk2 (by omega)
    refine v_world (ws' := (wR cI cL a w kp bf ah ik fd sp lt tp tn (sk (bB tp tn) he) ft vz bt lg ce bw)) (by rw [hsk]) ?_
    exact v_vret G () trivial rfl dX9_blanks_26
  · skip
    refine v_aload_n (j := 0) (x := a 0) G dX9_blanks_13 rfl rfl ?_
    refine v_dup G dX9_blanks_14 rfl ?_
    refine v_get (q0 := 0) (k := 10) (v := .int (jI (he + (k : Int)))) G k_X9 rfl rfl (by decide) q_1 rfl rfl dX9_blanks_15 ?_
    refine v_iconst G dX9_blanks_18 ?_
    refine v_iadd (z := (he + (k : Int)) + 1) G dX9_blanks_19 rfl ?_
    refine v_put (q0 := 0) (k := 10) (ty := .int) (ws' := (wR cI cL a w kp bf ah ik fd sp lt tp tn ((he + (k : Int)) + 1) ft vz bt lg ce bw)) G k_X9 tyX9 tyX9_ok nmX9 rfl rfl (by decide) q_1 rfl rfl rfl rfl rfl (Nat.le_of_ble_eq_true rfl) rfl dX9_blanks_20 ?_
    refine v_world (ws' := (wR cI cL a w kp bf ah ik fd sp lt tp tn (he + ((k + 1 : Nat) : Int)) ft vz bt lg ce bw)) (by rw [show he + ((k + 1 : Nat) : Int) = he + (k : Int) + 1 by omega]) ?_
    refine v_goto (tgt := 0) G dX9_blanks_23 (by decide) ?_
    exact ih_2 (k + 1) ⟨by have e9 := bB_n ht (j := he + (k : Int)); omega, fun j_ q0 q1 => by by_cases qe : j_ = he + (k : Int); subst qe; omega; exact I_1.2 j_ q0 (by omega)⟩ (by have e9 := bB_n ht (j := he + (k : Int)); omega)

set_option maxHeartbeats 4000000 in
set_option maxRecDepth 100000 in
theorem c_X9_fails  (hh : 0 ≤ he ∧ he ≤ tn) (hf : ft = -1) : Ci l yX9_fails wsX9_fails { frames := 0, cells := 0, slots := 0, locals := 0 } D (jT cI cL cB cS) [.ref (a 0)] (wR cI cL a w kp bf ah ik fd sp lt tp tn he ft vz bt lg ce bw) (S := Unit) (fun _ => (wR cI cL a w kp bf ah ik fd sp lt tp tn he he vz bt lg ce bw)) (fun r _ => r = jI 0) := by
  refine Ci.mk (cc := cX9_fails) (maxL := 1) (rt := .boolean) (by decide) rfl (Nat.le_of_ble_eq_true rfl) rfl ?_
  intro p_ e_ s_ m_ b_ me_ c_ A_ G hnm
  have k_X9 : ∀ w ∈ u_ws RX9 TX9 17, w ∈ wsX9_fails := fun _ h => List.mem_cons_of_mem _ (List.mem_append_right _ h)
  have q_1 : Cond.fieldLink RX9 180 "SupperLightModel" "fault" "I" ∈ wsX9_fails := List.mem_of_getElem? (i := 1) rfl
  have q_2 : Cond.fieldLink RX9 174 "SupperLightModel" "here" "I" ∈ wsX9_fails := List.mem_of_getElem? (i := 2) rfl
  refine v_aload_n (j := 0) (x := a 0) G dX9_fails_0 rfl rfl ?_
  refine v_aload_n (j := 0) (x := a 0) G dX9_fails_1 rfl rfl ?_
  refine v_get (q0 := 0) (k := 11) (v := .int (jI ft)) G k_X9 rfl rfl (by decide) q_1 rfl rfl dX9_fails_2 ?_
  refine v_if_ge (a := ft) (tgt := 15) G dX9_fails_5 (by decide) (by omega) (fun c_1 => ?_) (fun c_1 => ?_)
  · skip
    exfalso; omega
  · skip
    refine v_aload_n (j := 0) (x := a 0) G dX9_fails_8 rfl rfl ?_
    refine v_get (q0 := 0) (k := 10) (v := .int (jI he)) G k_X9 rfl rfl (by decide) q_2 rfl rfl dX9_fails_9 ?_
    refine v_goto (tgt := 19) G dX9_fails_12 (by decide) ?_
    refine v_put (q0 := 0) (k := 11) (ty := .int) (ws' := (wR cI cL a w kp bf ah ik fd sp lt tp tn he he vz bt lg ce bw)) G k_X9 tyX9 tyX9_ok nmX9 rfl rfl (by decide) q_1 rfl rfl rfl rfl rfl (Nat.le_of_ble_eq_true rfl) rfl dX9_fails_19 ?_
    refine v_iconst G dX9_fails_22 ?_
    exact v_zret G () nb_0 rfl rfl dX9_fails_23

set_option maxHeartbeats 4000000 in
set_option maxRecDepth 100000 in
theorem c_X9_isLow (v : Int) (hr : (-2147483648 ≤ v ∧ v ≤ 2147483647)) : Ci l yX9_isLow wsX9_isLow { frames := 1, cells := 0, slots := 0, locals := 22 } D (jT cI cL cB cS) [.int (jI v)] [] (S := Unit) (fun _ => []) (fun r _ => r = jI (b2 (97 ≤ v ∧ v ≤ 122))) := by
  refine Ci.mk (cc := cX9_isLow) (maxL := 1) (rt := .boolean) (by decide) rfl (Nat.le_of_ble_eq_true rfl) rfl ?_
  intro p_ e_ s_ m_ b_ me_ c_ A_ G hnm
  refine v_iload_n (j := 0) (x := jI v) G dX9_isLow_0 rfl rfl ?_
  refine v_bipush G dX9_isLow_1 (by decide) ?_
  refine v_bipush G dX9_isLow_3 (by decide) ?_
  refine v_ciF G (rn_S (As := [.int (jI v), .int (jI 97), .int (jI 122)]) (rest := []) G (c_X9_in (v := v) (lo := 97) (hi := 122) (hr := (by omega))) gX9_isLow_X9_in rfl hdX9_in ⟨rfl, rfl, Nat.le_of_ble_eq_true rfl, Nat.le_of_ble_eq_true rfl⟩ rfl rfl (Nat.le_of_ble_eq_true rfl) ⟨Nat.zero_le _, Nat.zero_le _⟩ dX9_isLow_5) (fun r_1 u_3 e_2 => ?_)
  have e_2 : r_1 = jI (b2 (97 ≤ v ∧ v ≤ 122)) := e_2
  subst e_2
  exact v_zret G () (nb_b2 _) rfl rfl dX9_isLow_8

set_option maxHeartbeats 4000000 in
set_option maxRecDepth 100000 in
theorem c_X9_isDigit (v : Int) (hr : (-2147483648 ≤ v ∧ v ≤ 2147483647)) : Ci l yX9_isDigit wsX9_isDigit { frames := 1, cells := 0, slots := 0, locals := 22 } D (jT cI cL cB cS) [.int (jI v)] [] (S := Unit) (fun _ => []) (fun r _ => r = jI (b2 (48 ≤ v ∧ v ≤ 57))) := by
  refine Ci.mk (cc := cX9_isDigit) (maxL := 1) (rt := .boolean) (by decide) rfl (Nat.le_of_ble_eq_true rfl) rfl ?_
  intro p_ e_ s_ m_ b_ me_ c_ A_ G hnm
  refine v_iload_n (j := 0) (x := jI v) G dX9_isDigit_0 rfl rfl ?_
  refine v_bipush G dX9_isDigit_1 (by decide) ?_
  refine v_bipush G dX9_isDigit_3 (by decide) ?_
  refine v_ciF G (rn_S (As := [.int (jI v), .int (jI 48), .int (jI 57)]) (rest := []) G (c_X9_in (v := v) (lo := 48) (hi := 57) (hr := (by omega))) gX9_isDigit_X9_in rfl hdX9_in ⟨rfl, rfl, Nat.le_of_ble_eq_true rfl, Nat.le_of_ble_eq_true rfl⟩ rfl rfl (Nat.le_of_ble_eq_true rfl) ⟨Nat.zero_le _, Nat.zero_le _⟩ dX9_isDigit_5) (fun r_1 u_3 e_2 => ?_)
  have e_2 : r_1 = jI (b2 (48 ≤ v ∧ v ≤ 57)) := e_2
  subst e_2
  exact v_zret G () (nb_b2 _) rfl rfl dX9_isDigit_8

set_option maxHeartbeats 4000000 in
set_option maxRecDepth 100000 in
theorem c_X9_wordEnd  (ht : Tr tp tn) (hh : 0 ≤ he ∧ he ≤ tn) : Ci l yX9_wordEnd wsX9_wordEnd { frames := 2, cells := 0, slots := 0, locals := 42 } D (jT cI cL cB cS) [.ref (a 0)] (wR cI cL a w kp bf ah ik fd sp lt tp tn he ft vz bt lg ce bw) (S := Unit) (fun _ => (wR cI cL a w kp bf ah ik fd sp lt tp tn he ft vz bt lg ce bw)) (fun r _ => r = jI (we (bB tp tn) he)) := by
  refine Ci.mk (cc := cX9_wordEnd) (maxL := 2) (rt := .int) (by decide) rfl (Nat.le_of_ble_eq_true rfl) rfl ?_
  intro p_ e_ s_ m_ b_ me_ c_ A_ G hnm
  have hn := ht.1
  have hB := Tr_k ht
  have k_X9 : ∀ w ∈ u_ws RX9 TX9 17, w ∈ wsX9_wordEnd := fun _ h => List.mem_cons_of_mem _ (List.mem_append_right _ h)
  have q_1 : Cond.fieldLink RX9 174 "SupperLightModel" "here" "I" ∈ wsX9_wordEnd := List.mem_of_getElem? (i := 1) rfl
  refine v_aload_n (j := 0) (x := a 0) G dX9_wordEnd_0 rfl rfl ?_
  refine v_get (q0 := 0) (k := 10) (v := .int (jI he)) G k_X9 rfl rfl (by decide) q_1 rfl rfl dX9_wordEnd_1 ?_
  refine v_istore_n (lv' := [(1, .int (jI he)), (0, .ref (a 0))]) G dX9_wordEnd_4 rfl (by decide) rfl ?_
  refine v_eqs (lv' := [(1, .int (jI (he + ((0 : Nat) : Int)))), (0, .ref (a 0))]) (by rw [show he + ((0 : Nat) : Int) = he from (by omega)]) rfl rfl ?_
  refine v_locs (lv' := [(1, .int (jI (he + ((0 : Nat) : Int)))), (0, .ref (a 0))]) [0, 1] rfl ?_
  refine v_loop1 (fun (k : Nat) => [(1, .int (jI (he + (k : Int)))), (0, .ref (a 0))]) (fun (k : Nat) => (wR cI cL a w kp bf ah ik fd sp lt tp tn he ft vz bt lg ce bw)) (fun (k : Nat) => he + (k : Int) ≤ tn ∧ ∀ j_ : Int, he ≤ j_ → j_ < he + (k : Int) → lo (bB tp tn) j_) (fun (k : Nat) => tn.toNat - k) 0 ⟨by omega, fun j_ q0 q1 => by omega⟩ rfl rfl ?_
  intro k I_1 ih_2
  obtain ⟨hk1, hk2⟩ := id I_1; have hbr := bB_r ht (he + (k : Int))
  refine v_aload_n (j := 1) (x := a 0) G dX9_wordEnd_5 rfl rfl ?_
  refine v_iload_n (j := 0) (x := jI (he + (k : Int))) G dX9_wordEnd_6 rfl rfl ?_
  refine v_ciF G (rn_V (As := [.int (jI (he + (k : Int)))]) (rest := []) (q0 := 0) G (c_X9_byteAt (j := he + (k : Int)) (w := w) (kp := kp) (bf := bf) (ah := ah) (ik := ik) (fd := fd) (sp := sp) (lt := lt) (tp := tp) (tn := tn) (he := he) (ft := ft) (vz := vz) (bt := bt) (lg := lg) (ce := ce) (bw := bw) (a := a) (ht := ht) (hj := (by omega))) gX9_wordEnd_X9_byteAt rfl hdX9_byteAt ⟨rfl, rfl, Nat.le_of_ble_eq_true rfl, Nat.le_of_ble_eq_true rfl⟩ rfl rfl (Nat.le_of_ble_eq_true rfl) ⟨Nat.zero_le _, Nat.zero_le _⟩ rfl rfl dX9_wordEnd_7) (fun r_3 u_5 e_4 => ?_)
  have e_4 : r_3 = jI ((bB tp tn) (he + (k : Int))) := e_4
  subst e_4
  refine v_world (ws' := (wR cI cL a w kp bf ah ik fd sp lt tp tn he ft vz bt lg ce bw)) rfl ?_
  refine v_ciN G (rn_S (As := [.int (jI ((bB tp tn) (he + (k : Int))))]) (rest := []) G (c_X9_isLow (v := (bB tp tn) (he + (k : Int))) (hr := (by omega))) gX9_wordEnd_X9_isLow rfl hdX9_isLow ⟨rfl, rfl, Nat.le_of_ble_eq_true rfl, Nat.le_of_ble_eq_true rfl⟩ rfl rfl (Nat.le_of_ble_eq_true rfl) ⟨Nat.zero_le _, Nat.zero_le _⟩ dX9_wordEnd_10) (fun r_6 u_8 e_7 => ?_)
  have e_7 : r_6 = jI (b2 (97 ≤ ((bB tp tn) (he + (k : Int))) ∧ ((bB tp tn) (he + (k : Int))) ≤ 122)) := e_7
  subst e_7
  refine v_ifb_eq (P := 97 ≤ ((bB tp tn) (he + (k : Int))) ∧ ((bB tp tn) (he + (k : Int))) ≤ 122) (tgt := 22) G dX9_wordEnd_13 (by decide) (fun c_9 => ?_) (fun c_9 => ?_)
  · skip
    refine v_iload_n (j := 0) (x := jI (he + (k : Int))) G dX9_wordEnd_22 rfl rfl ?_
    exact v_iret G () (show jI (he + (k : Int)) = jI (we (bB tp tn) he) from congrArg jI (we_u hB (by omega) hk2 (by assumption)).symm) rfl dX9_wordEnd_23
  · skip
    refine v_iinc (k := 0) (z := he + (k : Int)) (z' := he + ((k + 1 : Nat) : Int)) (lv' := [(1, .int (jI (he + ((k + 1 : Nat) : Int)))), (0, .ref (a 0))]) G dX9_wordEnd_16 rfl (by omega) (by decide) rfl ?_
    refine v_goto (tgt := 5) G dX9_wordEnd_19 (by decide) ?_
    exact ih_2 (k + 1) ⟨by have e9 := bB_n ht (j := he + (k : Int)); omega, fun j_ q0 q1 => by by_cases qe : j_ = he + (k : Int); subst qe; assumption; exact I_1.2 j_ q0 (by omega)⟩ (by have e9 := bB_n ht (j := he + (k : Int)); omega)

set_option maxHeartbeats 4000000 in
set_option maxRecDepth 100000 in
theorem c_X9_isWord  {tq tc : Nat} {q : Int} (ht : Tr tp tn) (hh : 0 ≤ he ∧ he ≤ tn) (hq : sk (bB tp tn) he = q) (htc : tc < 15) : CiX (xStr tq ((wdC tc).map jI)) l yX9_isWord wsX9_isWord { frames := 4, cells := 0, slots := 0, locals := 85 } D (jT cI cL cB cS) [.ref (a 0), .ref tq] (wR cI cL a w kp bf ah ik fd sp lt tp tn he ft vz bt lg ce bw) (S := Unit) (fun _ => (wR cI cL a w kp bf ah ik fd sp lt tp tn q ft vz bt lg ce bw)) (fun r _ => r = jI (b2 (cd (bB tp tn) tn q = (tc : Int)))) := by
  refine CiX.mk (cc := cX9_isWord) (maxL := 4) (rt := .boolean) (by decide) rfl (Nat.le_of_ble_eq_true rfl) rfl ?_
  intro p_ e_ s_ m_ b_ me_ c_ A_ G hX
  have hn := ht.1
  have hB := Tr_k ht
  obtain ⟨hq1, hq2, hq3, hq4⟩ := sk_p hB hh
  rw [hq] at hq1 hq2 hq3 hq4
  have hqq : sk (bB tp tn) q = q := sk_i hq4
  have hQ : Qk (bB tp tn) tn q := ⟨⟨by omega, hq2⟩, hq4⟩
  have hwl := (wdC_ok tc htc).1
  have hwe := we_p hB hQ.1
  have k_X9 : ∀ w ∈ u_ws RX9 TX9 17, w ∈ wsX9_isWord := fun _ h => List.mem_cons_of_mem _ (List.mem_append_right _ h)
  have q_1 : Cond.fieldLink RX9 174 "SupperLightModel" "here" "I" ∈ wsX9_isWord := List.mem_of_getElem? (i := 1) rfl
  refine v_aload_n (j := 0) (x := a 0) G dX9_isWord_0 rfl rfl ?_
  refine v_cvF G (rn_V (As := []) (rest := []) (q0 := 0) G (c_X9_blanks (w := w) (kp := kp) (bf := bf) (ah := ah) (ik := ik) (fd := fd) (sp := sp) (lt := lt) (tp := tp) (tn := tn) (he := he) (ft := ft) (vz := vz) (bt := bt) (lg := lg) (ce := ce) (bw := bw) (a := a) (ht := ht) (hh := (by omega))) gX9_isWord_X9_blanks rfl hdX9_blanks ⟨rfl, rfl, Nat.le_of_ble_eq_true rfl, Nat.le_of_ble_eq_true rfl⟩ rfl rfl (Nat.le_of_ble_eq_true rfl) ⟨Nat.zero_le _, Nat.zero_le _⟩ rfl rfl dX9_isWord_1) (fun u_3 e_2 => ?_)
  refine v_world (ws' := (wR cI cL a w kp bf ah ik fd sp lt tp tn (sk (bB tp tn) he) ft vz bt lg ce bw)) rfl ?_
  refine v_world (ws' := (wR cI cL a w kp bf ah ik fd sp lt tp tn q ft vz bt lg ce bw)) (by rw [hq]) ?_
  refine v_aload_n (j := 0) (x := a 0) G dX9_isWord_4 rfl rfl ?_
  refine v_ciF G (rn_V (As := []) (rest := []) (q0 := 0) G (c_X9_wordEnd (w := w) (kp := kp) (bf := bf) (ah := ah) (ik := ik) (fd := fd) (sp := sp) (lt := lt) (tp := tp) (tn := tn) (he := q) (ft := ft) (vz := vz) (bt := bt) (lg := lg) (ce := ce) (bw := bw) (a := a) (ht := ht) (hh := (by omega))) gX9_isWord_X9_wordEnd rfl hdX9_wordEnd ⟨rfl, rfl, Nat.le_of_ble_eq_true rfl, Nat.le_of_ble_eq_true rfl⟩ rfl rfl (Nat.le_of_ble_eq_true rfl) ⟨Nat.zero_le _, Nat.zero_le _⟩ rfl rfl dX9_isWord_5) (fun r_4 u_6 e_5 => ?_)
  have e_5 : r_4 = jI (we (bB tp tn) q) := e_5
  subst e_5
  refine v_world (ws' := (wR cI cL a w kp bf ah ik fd sp lt tp tn q ft vz bt lg ce bw)) rfl ?_
  refine v_aload_n (j := 0) (x := a 0) G dX9_isWord_8 rfl rfl ?_
  refine v_get (q0 := 0) (k := 10) (v := .int (jI q)) G k_X9 rfl rfl (by decide) q_1 rfl rfl dX9_isWord_9 ?_
  refine v_isub (z := (we (bB tp tn) q) - q) G dX9_isWord_12 rfl ?_
  refine v_aload_n (j := 1) (x := tq) G dX9_isWord_13 rfl rfl ?_
  refine v_ciN G (rn_VS (bs := (wdC tc).map jI) (As := []) (rest := [.int (jI ((we (bB tp tn) q) - q))]) hX G (c_J0_length (by rw [List.length_map]; have hw_ := (wdC_ok tc htc).1; omega)) gX9_isWord_J0_length_8abf5 rfl hdJ0_length_8abf5 ⟨rfl, rfl, Nat.le_of_ble_eq_true rfl, Nat.le_of_ble_eq_true rfl⟩ rfl rfl (Nat.le_of_ble_eq_true rfl) ⟨Nat.zero_le _, Nat.zero_le _⟩ dX9_isWord_14) (fun r_7 _ e_8 => ?_)
  have e_8 : r_7 = jI (((wdC tc).map jI).length : Int) := e_8
  rw [List.length_map] at e_8
  subst e_8
  refine v_cut (pc' := 25) (lv' := [(0, .ref (a 0)), (1, .ref tq)]) (st' := [.int (jI (b2 (wn (bB tp tn) q (wdC tc) 0)))]) (ws' := (wR cI cL a w kp bf ah ik fd sp lt tp tn q ft vz bt lg ce bw)) ?_ (fun J_9 => ?_)
  · skip
    refine v_istore_n (lv' := [(2, .int (jI (b2 (wn (bB tp tn) q (wdC tc) 0)))), (0, .ref (a 0)), (1, .ref tq)]) G dX9_isWord_25 rfl (by decide) rfl ?_
    refine v_iconst G dX9_isWord_26 ?_
    refine v_istore_n (lv' := [(3, .int (jI 0)), (2, .int (jI (b2 (wn (bB tp tn) q (wdC tc) 0)))), (0, .ref (a 0)), (1, .ref tq)]) G dX9_isWord_27 rfl (by decide) rfl ?_
    refine v_locs (lv' := [(3, .int (jI 0)), (2, .int (jI (b2 (wn (bB tp tn) q (wdC tc) 0)))), (0, .ref (a 0)), (1, .ref tq)]) [0, 1, 2, 3] rfl ?_
    refine v_loop1 (fun (k : Nat) => [(3, .int (jI (k : Int))), (2, .int (jI (b2 (wn (bB tp tn) q (wdC tc) k)))), (0, .ref (a 0)), (1, .ref tq)]) (fun (k : Nat) => (wR cI cL a w kp bf ah ik fd sp lt tp tn q ft vz bt lg ce bw)) (fun (k : Nat) => k ≤ (wdC tc).length) (fun (k : Nat) => (wdC tc).length - k) 0 (Nat.zero_le _) rfl rfl ?_
    intro k I_10 ih_11
    refine v_iload_n (j := 0) (x := jI (k : Int)) G dX9_isWord_28 rfl rfl ?_
    refine v_aload_n (j := 3) (x := tq) G dX9_isWord_29 rfl rfl ?_
    refine v_ciN G (rn_VS (bs := (wdC tc).map jI) (As := []) (rest := [.int (jI (k : Int))]) hX G (c_J0_length (by rw [List.length_map]; have hw_ := (wdC_ok tc htc).1; omega)) gX9_isWord_J0_length_8abf5 rfl hdJ0_length_8abf5 ⟨rfl, rfl, Nat.le_of_ble_eq_true rfl, Nat.le_of_ble_eq_true rfl⟩ rfl rfl (Nat.le_of_ble_eq_true rfl) ⟨Nat.zero_le _, Nat.zero_le _⟩ dX9_isWord_30) (fun r_12 _ e_13 => ?_)
    have e_13 : r_12 = jI (((wdC tc).map jI).length : Int) := e_13
    rw [List.length_map] at e_13
    subst e_13
    refine v_icmp_ge (a := (k : Int)) (b := ((wdC tc).length : Int)) (tgt := 70) G dX9_isWord_33 (by decide) (by omega) (fun c_14 => ?_) (fun c_14 => ?_)
    · skip
      refine v_iload_n (j := 1) (x := jI (b2 (wn (bB tp tn) q (wdC tc) k))) G dX9_isWord_70 rfl rfl ?_
      exact v_zret G () (nb_b2 _) (show jI (b2 (wn (bB tp tn) q (wdC tc) k)) = jI (b2 (cd (bB tp tn) tn q = (tc : Int))) from congrArg (fun P_ => jI (b2 P_)) (propext (by first | exact wn_w hB htc (Or.inl (by omega)) | exact wn_w hB htc (Or.inr (by assumption))))) rfl dX9_isWord_71
    · skip
      refine v_iload_n (j := 1) (x := jI (b2 (wn (bB tp tn) q (wdC tc) k))) G dX9_isWord_36 rfl rfl ?_
      refine v_ifb_eq (P := wn (bB tp tn) q (wdC tc) k) (tgt := 70) G dX9_isWord_37 (by decide) (fun c_15 => ?_) (fun c_15 => ?_)
      · skip
        refine v_iload_n (j := 1) (x := jI (b2 (wn (bB tp tn) q (wdC tc) k))) G dX9_isWord_70 rfl rfl ?_
        exact v_zret G () (nb_b2 _) (show jI (b2 (wn (bB tp tn) q (wdC tc) k)) = jI (b2 (cd (bB tp tn) tn q = (tc : Int))) from congrArg (fun P_ => jI (b2 P_)) (propext (by first | exact wn_w hB htc (Or.inl (by omega)) | exact wn_w hB htc (Or.inr (by assumption))))) rfl dX9_isWord_71
      · skip
        refine v_aload_n (j := 2) (x := a 0) G dX9_isWord_40 rfl rfl ?_
        refine v_aload_n (j := 2) (x := a 0) G dX9_isWord_41 rfl rfl ?_
        refine v_get (q0 := 0) (k := 10) (v := .int (jI q)) G k_X9 rfl rfl (by decide) q_1 rfl rfl dX9_isWord_42 ?_
        refine v_iload_n (j := 0) (x := jI (k : Int)) G dX9_isWord_45 rfl rfl ?_
        refine v_iadd (z := q + (k : Int)) G dX9_isWord_46 rfl ?_
        have hbr := bB_r ht (q + (k : Int))
        refine v_ciF G (rn_V (As := [.int (jI (q + (k : Int)))]) (rest := []) (q0 := 0) G (c_X9_byteAt (j := q + (k : Int)) (w := w) (kp := kp) (bf := bf) (ah := ah) (ik := ik) (fd := fd) (sp := sp) (lt := lt) (tp := tp) (tn := tn) (he := q) (ft := ft) (vz := vz) (bt := bt) (lg := lg) (ce := ce) (bw := bw) (a := a) (ht := ht) (hj := (by omega))) gX9_isWord_X9_byteAt rfl hdX9_byteAt ⟨rfl, rfl, Nat.le_of_ble_eq_true rfl, Nat.le_of_ble_eq_true rfl⟩ rfl rfl (Nat.le_of_ble_eq_true rfl) ⟨Nat.zero_le _, Nat.zero_le _⟩ rfl rfl dX9_isWord_47) (fun r_16 u_18 e_17 => ?_)
        have e_17 : r_16 = jI ((bB tp tn) (q + (k : Int))) := e_17
        subst e_17
        refine v_world (ws' := (wR cI cL a w kp bf ah ik fd sp lt tp tn q ft vz bt lg ce bw)) rfl ?_
        refine v_aload_n (j := 3) (x := tq) G dX9_isWord_50 rfl rfl ?_
        refine v_iload_n (j := 0) (x := jI (k : Int)) G dX9_isWord_51 rfl rfl ?_
        refine v_ciN G (rn_VS (bs := (wdC tc).map jI) (As := [.int (jI (k : Int))]) (rest := [.int (jI ((bB tp tn) (q + (k : Int))))]) hX G (c_J0_charAt (z := (k : Int)) (x := (wdC tc).getD k 0) (by rw [List.length_map]; have hw_ := (wdC_ok tc htc).1; omega) (by have hw_ := (wdC_ok tc htc).2 k (by omega); omega) (by rw [Int.toNat_natCast]; exact gD_jI (wdC tc) k (by omega))) gX9_isWord_J0_charAt_5068e rfl hdJ0_charAt_5068e ⟨rfl, rfl, Nat.le_of_ble_eq_true rfl, Nat.le_of_ble_eq_true rfl⟩ rfl rfl (Nat.le_of_ble_eq_true rfl) ⟨Nat.zero_le _, Nat.zero_le _⟩ dX9_isWord_52) (fun r_19 _ e_20 => ?_)
        have e_20 : r_19 = jI ((wdC tc).getD k 0) := e_20
        subst e_20
        have hwk := (wdC_ok tc htc).2 k (by omega)
        refine v_cut (pc' := 63) (lv' := [(3, .int (jI (k : Int))), (2, .int (jI (b2 (wn (bB tp tn) q (wdC tc) k)))), (0, .ref (a 0)), (1, .ref tq)]) (st' := [.int (jI (b2 (wn (bB tp tn) q (wdC tc) (k + 1))))]) (ws' := (wR cI cL a w kp bf ah ik fd sp lt tp tn q ft vz bt lg ce bw)) ?_ (fun J_21 => ?_)
        · skip
          refine v_istore_n (lv' := [(2, .int (jI (b2 (wn (bB tp tn) q (wdC tc) (k + 1))))), (3, .int (jI (k : Int))), (0, .ref (a 0)), (1, .ref tq)]) G dX9_isWord_63 rfl (by decide) rfl ?_
          refine v_iinc (k := 1) (z := (k : Int)) (z' := ((k + 1 : Nat) : Int)) (lv' := [(3, .int (jI ((k + 1 : Nat) : Int))), (2, .int (jI (b2 (wn (bB tp tn) q (wdC tc) (k + 1))))), (0, .ref (a 0)), (1, .ref tq)]) G dX9_isWord_64 rfl (by omega) (by decide) rfl ?_
          refine v_goto (tgt := 28) G dX9_isWord_67 (by decide) ?_
          exact ih_11 (k + 1) (by omega) (by omega)
        · skip
          have hwk := (wdC_ok tc htc).2 k (by omega)
          refine v_icmp_ne (a := (bB tp tn) (q + (k : Int))) (b := (wdC tc).getD k 0) (tgt := 62) G dX9_isWord_55 (by decide) (by omega) (fun c_22 => ?_) (fun c_22 => ?_)
          · skip
            refine v_iconst G dX9_isWord_62 ?_
            refine v_topj (x := 0) (y := b2 (wn (bB tp tn) q (wdC tc) (k + 1))) (b2_f (P := wn (bB tp tn) q (wdC tc) (k + 1)) (by exact fun h_ => absurd (h_.2 k (by omega) (by omega)) (by assumption))).symm ?_
            exact J_21
          · skip
            refine v_iconst G dX9_isWord_58 ?_
            refine v_goto (tgt := 63) G dX9_isWord_59 (by decide) ?_
            refine v_topj (x := 1) (y := b2 (wn (bB tp tn) q (wdC tc) (k + 1))) (b2_t (P := wn (bB tp tn) q (wdC tc) (k + 1)) (by exact wn_s (by assumption) (by assumption))).symm ?_
            exact J_21
  · skip
    refine v_icmp_ne (a := (we (bB tp tn) q) - q) (b := ((wdC tc).length : Int)) (tgt := 24) G dX9_isWord_17 (by decide) (by omega) (fun c_23 => ?_) (fun c_23 => ?_)
    · skip
      refine v_iconst G dX9_isWord_24 ?_
      refine v_topj (x := 0) (y := b2 (wn (bB tp tn) q (wdC tc) 0)) (b2_f (P := wn (bB tp tn) q (wdC tc) 0) (by exact fun h_ => absurd h_.1 (by assumption))).symm ?_
      exact J_9
    · skip
      refine v_iconst G dX9_isWord_20 ?_
      refine v_goto (tgt := 25) G dX9_isWord_21 (by decide) ?_
      refine v_topj (x := 1) (y := b2 (wn (bB tp tn) q (wdC tc) 0)) (b2_t (P := wn (bB tp tn) q (wdC tc) 0) (by exact ⟨by assumption, fun i_ h_ => by omega⟩)).symm ?_
      exact J_9

set_option maxHeartbeats 4000000 in
set_option maxRecDepth 100000 in
theorem c_X9_takes  {tq tc : Nat} {q : Int} (ht : Tr tp tn) (hh : 0 ≤ he ∧ he ≤ tn) (hf : ft = -1) (hq : sk (bB tp tn) he = q) (htc : tc < 15) : CiX (xStr tq ((wdC tc).map jI)) l yX9_takes wsX9_takes { frames := 5, cells := 0, slots := 0, locals := 108 } D (jT cI cL cB cS) [.ref (a 0), .ref tq] (wR cI cL a w kp bf ah ik fd sp lt tp tn he ft vz bt lg ce bw) (S := Int) (fun (he2 : Int) => (wR cI cL a w kp bf ah ik fd sp lt tp tn he2 ft vz bt lg ce bw)) (fun r (he2 : Int) => r = jI (b2 (cd (bB tp tn) tn q = (tc : Int))) ∧ (0 ≤ he2 ∧ he2 ≤ tn) ∧ (cd (bB tp tn) tn q = (tc : Int) → sk (bB tp tn) he2 = nx (bB tp tn) q) ∧ (¬ cd (bB tp tn) tn q = (tc : Int) → he2 = q)) := by
  refine CiX.mk (cc := cX9_takes) (maxL := 3) (rt := .boolean) (by decide) rfl (Nat.le_of_ble_eq_true rfl) rfl ?_
  intro p_ e_ s_ m_ b_ me_ c_ A_ G hX
  have hn := ht.1
  have hB := Tr_k ht
  obtain ⟨hq1, hq2, hq3, hq4⟩ := sk_p hB hh
  rw [hq] at hq1 hq2 hq3 hq4
  have hqq : sk (bB tp tn) q = q := sk_i hq4
  have hQ : Qk (bB tp tn) tn q := ⟨⟨by omega, hq2⟩, hq4⟩
  have hwl := (wdC_ok tc htc).1
  have k_X9 : ∀ w ∈ u_ws RX9 TX9 17, w ∈ wsX9_takes := fun _ h => List.mem_cons_of_mem _ (List.mem_append_right _ h)
  have q_1 : Cond.fieldLink RX9 180 "SupperLightModel" "fault" "I" ∈ wsX9_takes := List.mem_of_getElem? (i := 1) rfl
  have q_2 : Cond.fieldLink RX9 174 "SupperLightModel" "here" "I" ∈ wsX9_takes := List.mem_of_getElem? (i := 2) rfl
  refine v_aload_n (j := 0) (x := a 0) G dX9_takes_0 rfl rfl ?_
  refine v_get (q0 := 0) (k := 11) (v := .int (jI ft)) G k_X9 rfl rfl (by decide) q_1 rfl rfl dX9_takes_1 ?_
  refine v_if_ge (a := ft) (tgt := 19) G dX9_takes_4 (by decide) (by omega) (fun c_1 => ?_) (fun c_1 => ?_)
  · skip
    exfalso; omega
  · skip
    refine v_aload_n (j := 0) (x := a 0) G dX9_takes_7 rfl rfl ?_
    refine v_aload_n (j := 1) (x := tq) G dX9_takes_8 rfl rfl ?_
    refine v_ciF G (rn_VX (X := xStr tq ((wdC tc).map jI)) (xStr_s tq ((wdC tc).map jI)) hX (As := [.ref tq]) (rest := []) (q0 := 0) G (c_X9_isWord (w := w) (kp := kp) (bf := bf) (ah := ah) (ik := ik) (fd := fd) (sp := sp) (lt := lt) (tp := tp) (tn := tn) (he := he) (ft := ft) (vz := vz) (bt := bt) (lg := lg) (ce := ce) (bw := bw) (a := a) (q := q) (tq := tq) (tc := tc) (ht := ht) (hh := (by omega)) (hq := hq) (htc := (by omega))) gX9_takes_X9_isWord rfl hdX9_isWord ⟨rfl, rfl, Nat.le_of_ble_eq_true rfl, Nat.le_of_ble_eq_true rfl⟩ rfl rfl (Nat.le_of_ble_eq_true rfl) ⟨Nat.zero_le _, Nat.zero_le _⟩ rfl rfl dX9_takes_9) (fun r_2 u_4 e_3 => ?_)
    have e_3 : r_2 = jI (b2 (cd (bB tp tn) tn q = (tc : Int))) := e_3
    subst e_3
    refine v_world (ws' := (wR cI cL a w kp bf ah ik fd sp lt tp tn q ft vz bt lg ce bw)) rfl ?_
    refine v_cut (pc' := 20) (lv' := [(0, .ref (a 0)), (1, .ref tq)]) (st' := [.int (jI (b2 (cd (bB tp tn) tn q = (tc : Int))))]) (ws' := (wR cI cL a w kp bf ah ik fd sp lt tp tn q ft vz bt lg ce bw)) ?_ (fun J_5 => ?_)
    · skip
      refine v_istore_n (lv' := [(2, .int (jI (b2 (cd (bB tp tn) tn q = (tc : Int))))), (0, .ref (a 0)), (1, .ref tq)]) G dX9_takes_20 rfl (by decide) rfl ?_
      refine v_aload_n (j := 1) (x := a 0) G dX9_takes_21 rfl rfl ?_
      refine v_dup G dX9_takes_22 rfl ?_
      refine v_get (q0 := 0) (k := 10) (v := .int (jI q)) G k_X9 rfl rfl (by decide) q_2 rfl rfl dX9_takes_23 ?_
      refine v_iload_n (j := 0) (x := jI (b2 (cd (bB tp tn) tn q = (tc : Int)))) G dX9_takes_26 rfl rfl ?_
      refine v_ifb_eq (P := cd (bB tp tn) tn q = (tc : Int)) (tgt := 37) G dX9_takes_27 (by decide) (fun c_6 => ?_) (fun c_6 => ?_)
      · skip
        refine v_iconst G dX9_takes_37 ?_
        refine v_iadd (z := q + 0) G dX9_takes_38 rfl ?_
        refine v_put (q0 := 0) (k := 10) (ty := .int) (ws' := (wR cI cL a w kp bf ah ik fd sp lt tp tn (q + 0) ft vz bt lg ce bw)) G k_X9 tyX9 tyX9_ok nmX9 rfl rfl (by decide) q_2 rfl rfl rfl rfl rfl (Nat.le_of_ble_eq_true rfl) rfl dX9_takes_39 ?_
        refine v_iload_n (j := 0) (x := jI (b2 (cd (bB tp tn) tn q = (tc : Int)))) G dX9_takes_42 rfl rfl ?_
        exact v_zret G (q + 0) (nb_b2 _) ⟨rfl, by omega, fun h_ => absurd h_ (by assumption), fun _ => by omega⟩ rfl dX9_takes_43
      · skip
        refine v_aload_n (j := 2) (x := tq) G dX9_takes_30 rfl rfl ?_
        refine v_ciN G (rn_VS (bs := (wdC tc).map jI) (As := []) (rest := [.int (jI q), .ref (a 0)]) hX G (c_J0_length (by rw [List.length_map]; have hw_ := (wdC_ok tc htc).1; omega)) gX9_takes_J0_length_8abf5 rfl hdJ0_length_8abf5 ⟨rfl, rfl, Nat.le_of_ble_eq_true rfl, Nat.le_of_ble_eq_true rfl⟩ rfl rfl (Nat.le_of_ble_eq_true rfl) ⟨Nat.zero_le _, Nat.zero_le _⟩ dX9_takes_31) (fun r_7 _ e_8 => ?_)
        have e_8 : r_7 = jI (((wdC tc).map jI).length : Int) := e_8
        rw [List.length_map] at e_8
        subst e_8
        refine v_goto (tgt := 38) G dX9_takes_34 (by decide) ?_
        refine v_iadd (z := q + ((wdC tc).length : Int)) G dX9_takes_38 rfl ?_
        refine v_put (q0 := 0) (k := 10) (ty := .int) (ws' := (wR cI cL a w kp bf ah ik fd sp lt tp tn (q + ((wdC tc).length : Int)) ft vz bt lg ce bw)) G k_X9 tyX9 tyX9_ok nmX9 rfl rfl (by decide) q_2 rfl rfl rfl rfl rfl (Nat.le_of_ble_eq_true rfl) rfl dX9_takes_39 ?_
        refine v_iload_n (j := 0) (x := jI (b2 (cd (bB tp tn) tn q = (tc : Int)))) G dX9_takes_42 rfl rfl ?_
        exact v_zret G (q + ((wdC tc).length : Int)) (nb_b2 _) ⟨rfl, (tkl hB hQ htc (by assumption)).1, fun _ => (tkl hB hQ htc (by assumption)).2, fun h_ => absurd (by assumption) h_⟩ rfl dX9_takes_43
    · skip
      refine v_ifb_eq (P := cd (bB tp tn) tn q = (tc : Int)) (tgt := 19) G dX9_takes_12 (by decide) (fun c_9 => ?_) (fun c_9 => ?_)
      · skip
        refine v_iconst G dX9_takes_19 ?_
        refine v_topj (x := 0) (y := b2 (cd (bB tp tn) tn q = (tc : Int))) (b2_f (P := cd (bB tp tn) tn q = (tc : Int)) (by assumption)).symm ?_
        exact J_5
      · skip
        refine v_iconst G dX9_takes_15 ?_
        refine v_goto (tgt := 20) G dX9_takes_16 (by decide) ?_
        refine v_topj (x := 1) (y := b2 (cd (bB tp tn) tn q = (tc : Int))) (b2_t (P := cd (bB tp tn) tn q = (tc : Int)) (by assumption)).symm ?_
        exact J_5

set_option maxHeartbeats 4000000 in
set_option maxRecDepth 100000 in
theorem c_X9_must  {tq tc : Nat} {q : Int} (ht : Tr tp tn) (hh : 0 ≤ he ∧ he ≤ tn) (hf : ft = -1) (hq : sk (bB tp tn) he = q) (htc : tc < 15) : CiX (xStr tq ((wdC tc).map jI)) l yX9_must wsX9_must { frames := 6, cells := 0, slots := 0, locals := 130 } D (jT cI cL cB cS) [.ref (a 0), .ref tq] (wR cI cL a w kp bf ah ik fd sp lt tp tn he ft vz bt lg ce bw) (S := Int × Int) (fun (u : Int × Int) => (wR cI cL a w kp bf ah ik fd sp lt tp tn u.1 u.2 vz bt lg ce bw)) (fun r (u : Int × Int) => r = jI (b2 (cd (bB tp tn) tn q = (tc : Int))) ∧ (0 ≤ u.1 ∧ u.1 ≤ tn) ∧ (cd (bB tp tn) tn q = (tc : Int) → u.2 = -1 ∧ sk (bB tp tn) u.1 = nx (bB tp tn) q) ∧ (¬ cd (bB tp tn) tn q = (tc : Int) → u.2 = q)) := by
  refine CiX.mk (cc := cX9_must) (maxL := 2) (rt := .boolean) (by decide) rfl (Nat.le_of_ble_eq_true rfl) rfl ?_
  intro p_ e_ s_ m_ b_ me_ c_ A_ G hX
  have hn := ht.1
  have hB := Tr_k ht
  obtain ⟨hq1, hq2, hq3, hq4⟩ := sk_p hB hh
  rw [hq] at hq1 hq2 hq3 hq4
  have hqq : sk (bB tp tn) q = q := sk_i hq4
  have hQ : Qk (bB tp tn) tn q := ⟨⟨by omega, hq2⟩, hq4⟩
  refine v_aload_n (j := 0) (x := a 0) G dX9_must_0 rfl rfl ?_
  refine v_aload_n (j := 1) (x := tq) G dX9_must_1 rfl rfl ?_
  refine v_ciF G (rn_VX (X := xStr tq ((wdC tc).map jI)) (xStr_s tq ((wdC tc).map jI)) hX (As := [.ref tq]) (rest := []) (q0 := 0) G (c_X9_takes (w := w) (kp := kp) (bf := bf) (ah := ah) (ik := ik) (fd := fd) (sp := sp) (lt := lt) (tp := tp) (tn := tn) (he := he) (ft := ft) (vz := vz) (bt := bt) (lg := lg) (ce := ce) (bw := bw) (a := a) (q := q) (tq := tq) (tc := tc) (ht := ht) (hh := hh) (hf := hf) (hq := hq) (htc := (by omega))) gX9_must_X9_takes rfl hdX9_takes ⟨rfl, rfl, Nat.le_of_ble_eq_true rfl, Nat.le_of_ble_eq_true rfl⟩ rfl rfl (Nat.le_of_ble_eq_true rfl) ⟨Nat.zero_le _, Nat.zero_le _⟩ rfl rfl dX9_must_2) (fun r_2 u_4 e_3 => ?_)
  obtain ⟨he2_1, rfl⟩ : ∃ z, z = u_4 := ⟨_, rfl⟩
  have e_3 : r_2 = jI (b2 (cd (bB tp tn) tn q = (tc : Int))) ∧ (0 ≤ he2_1 ∧ he2_1 ≤ tn) ∧ (cd (bB tp tn) tn q = (tc : Int) → sk (bB tp tn) he2_1 = nx (bB tp tn) q) ∧ (¬ cd (bB tp tn) tn q = (tc : Int) → he2_1 = q) := e_3
  obtain ⟨e_30, e_3f⟩ := e_3
  subst e_30
  refine v_world (ws' := (wR cI cL a w kp bf ah ik fd sp lt tp tn he2_1 ft vz bt lg ce bw)) rfl ?_
  refine v_ifb_ne (P := cd (bB tp tn) tn q = (tc : Int)) (tgt := 15) G dX9_must_5 (by decide) (fun c_5 => ?_) (fun c_5 => ?_)
  · skip
    refine v_iconst G dX9_must_15 ?_
    refine v_goto (tgt := 20) G dX9_must_16 (by decide) ?_
    exact v_zret G (he2_1, ft) nb_1 ⟨congrArg jI (b2_t (P := cd (bB tp tn) tn q = (tc : Int)) (by assumption)).symm, e_3f.1, fun h_ => ⟨hf, e_3f.2.1 h_⟩, fun h_ => absurd (by assumption) h_⟩ rfl dX9_must_20
  · skip
    refine v_aload_n (j := 0) (x := a 0) G dX9_must_8 rfl rfl ?_
    refine v_ciF G (rn_V (As := []) (rest := []) (q0 := 0) G (c_X9_fails (w := w) (kp := kp) (bf := bf) (ah := ah) (ik := ik) (fd := fd) (sp := sp) (lt := lt) (tp := tp) (tn := tn) (he := he2_1) (ft := ft) (vz := vz) (bt := bt) (lg := lg) (ce := ce) (bw := bw) (a := a) (hh := e_3f.1) (hf := hf)) gX9_must_X9_fails rfl hdX9_fails ⟨rfl, rfl, Nat.le_of_ble_eq_true rfl, Nat.le_of_ble_eq_true rfl⟩ rfl rfl (Nat.le_of_ble_eq_true rfl) ⟨Nat.zero_le _, Nat.zero_le _⟩ rfl rfl dX9_must_9) (fun r_6 u_8 e_7 => ?_)
    have e_7 : r_6 = jI 0 := e_7
    subst e_7
    refine v_world (ws' := (wR cI cL a w kp bf ah ik fd sp lt tp tn he2_1 he2_1 vz bt lg ce bw)) rfl ?_
    refine v_if_eq (a := 0) (tgt := 19) G dX9_must_12 (by decide) (by omega) (fun c_9 => ?_) (fun c_9 => ?_)
    · skip
      refine v_iconst G dX9_must_19 ?_
      exact v_zret G (he2_1, he2_1) nb_0 ⟨congrArg jI (b2_f (P := cd (bB tp tn) tn q = (tc : Int)) (by assumption)).symm, e_3f.1, fun h_ => absurd h_ (by assumption), e_3f.2.2⟩ rfl dX9_must_20
    · skip
      exfalso; omega

set_option maxHeartbeats 4000000 in
set_option maxRecDepth 100000 in
theorem c_X9_number (v z : Int) {q : Int} (ht : Tr tp tn) (hh : 0 ≤ he ∧ he ≤ tn) (hf : ft = -1) (hq : sk (bB tp tn) he = q) (hv : (0 ≤ v ∧ v ≤ 1) ∧ -1 ≤ z ∧ z ≤ 999) : Ci l yX9_number wsX9_number { frames := 2, cells := 0, slots := 0, locals := 42 } D (jT cI cL cB cS) [.ref (a 0), .int (jI v), .int (jI z)] (wR cI cL a w kp bf ah ik fd sp lt tp tn he ft vz bt lg ce bw) (S := Int × Int × Int) (fun (u : Int × Int × Int) => (wR cI cL a w kp bf ah ik fd sp lt tp tn u.1 u.2.1 u.2.2 bt lg ce bw)) (fun r (u : Int × Int × Int) => r = jI (b2 (0 ≤ (tkN (bB tp tn) tn v z q).1)) ∧ (0 ≤ u.1 ∧ u.1 ≤ tn) ∧ (0 ≤ (tkN (bB tp tn) tn v z q).1 → u.2.1 = -1 ∧ u.2.2 = (tkN (bB tp tn) tn v z q).1 ∧ sk (bB tp tn) u.1 = (tkN (bB tp tn) tn v z q).2) ∧ (¬ 0 ≤ (tkN (bB tp tn) tn v z q).1 → u.2.1 = (tkN (bB tp tn) tn v z q).2)) := by
  refine Ci.mk (cc := cX9_number) (maxL := 6) (rt := .boolean) (by decide) rfl (Nat.le_of_ble_eq_true rfl) rfl ?_
  intro p_ e_ s_ m_ b_ me_ c_ A_ G hnm
  have hn := ht.1
  have hB := Tr_k ht
  obtain ⟨hq1, hq2, hq3, hq4⟩ := sk_p hB hh
  rw [hq] at hq1 hq2 hq3 hq4
  have hqq : sk (bB tp tn) q = q := sk_i hq4
  have hQ : Qk (bB tp tn) tn q := ⟨⟨by omega, hq2⟩, hq4⟩
  have k_X9 : ∀ w ∈ u_ws RX9 TX9 17, w ∈ wsX9_number := fun _ h => List.mem_cons_of_mem _ (List.mem_append_right _ h)
  have q_1 : Cond.fieldLink RX9 180 "SupperLightModel" "fault" "I" ∈ wsX9_number := List.mem_of_getElem? (i := 1) rfl
  have q_2 : Cond.fieldLink RX9 174 "SupperLightModel" "here" "I" ∈ wsX9_number := List.mem_of_getElem? (i := 2) rfl
  have q_3 : Cond.fieldLink RX9 226 "SupperLightModel" "value" "I" ∈ wsX9_number := List.mem_of_getElem? (i := 10) rfl
  have q_4 : Cond.constantLong RX9 214 (99999) ∈ wsX9_number := List.mem_of_getElem? (i := 3) rfl
  have q_5 : Cond.constantLong RX9 216 (10) ∈ wsX9_number := List.mem_of_getElem? (i := 4) rfl
  have q_6 : Cond.constantLong RX9 218 (48) ∈ wsX9_number := List.mem_of_getElem? (i := 5) rfl
  have q_7 : Cond.methodLink RX9 220 Lib.MathLoose.min_long.x ∈ wsX9_number := List.mem_of_getElem? (i := 6) rfl
  have q_8 : Cond.static Lib.MathLoose.min_long.x ∈ wsX9_number := List.mem_of_getElem? (i := 7) rfl
  have q_9 : Cond.initialized "java/lang/Math" ∈ wsX9_number := List.mem_of_getElem? (i := 8) rfl
  have q_10 : Cond.code Lib.MathLoose.min_long.x Lib.MathLoose.min_long.code 4 (some .long) ∈ wsX9_number := List.mem_of_getElem? (i := 9) rfl
  refine v_aload_n (j := 0) (x := a 0) G dX9_number_0 rfl rfl ?_
  refine v_cvF G (rn_V (As := []) (rest := []) (q0 := 0) G (c_X9_blanks (w := w) (kp := kp) (bf := bf) (ah := ah) (ik := ik) (fd := fd) (sp := sp) (lt := lt) (tp := tp) (tn := tn) (he := he) (ft := ft) (vz := vz) (bt := bt) (lg := lg) (ce := ce) (bw := bw) (a := a) (ht := ht) (hh := (by omega))) gX9_number_X9_blanks rfl hdX9_blanks ⟨rfl, rfl, Nat.le_of_ble_eq_true rfl, Nat.le_of_ble_eq_true rfl⟩ rfl rfl (Nat.le_of_ble_eq_true rfl) ⟨Nat.zero_le _, Nat.zero_le _⟩ rfl rfl dX9_number_1) (fun u_3 e_2 => ?_)
  refine v_world (ws' := (wR cI cL a w kp bf ah ik fd sp lt tp tn (sk (bB tp tn) he) ft vz bt lg ce bw)) rfl ?_
  refine v_world (ws' := (wR cI cL a w kp bf ah ik fd sp lt tp tn q ft vz bt lg ce bw)) (by rw [hq]) ?_
  refine v_aload_n (j := 0) (x := a 0) G dX9_number_4 rfl rfl ?_
  refine v_get (q0 := 0) (k := 11) (v := .int (jI ft)) G k_X9 rfl rfl (by decide) q_1 rfl rfl dX9_number_5 ?_
  refine v_if_ge (a := ft) (tgt := 25) G dX9_number_8 (by decide) (by omega) (fun c_4 => ?_) (fun c_4 => ?_)
  · skip
    exfalso; omega
  · skip
    refine v_aload_n (j := 0) (x := a 0) G dX9_number_11 rfl rfl ?_
    refine v_aload_n (j := 0) (x := a 0) G dX9_number_12 rfl rfl ?_
    refine v_get (q0 := 0) (k := 10) (v := .int (jI q)) G k_X9 rfl rfl (by decide) q_2 rfl rfl dX9_number_13 ?_
    refine v_ciF G (rn_V (As := [.int (jI q)]) (rest := []) (q0 := 0) G (c_X9_byteAt (j := q) (w := w) (kp := kp) (bf := bf) (ah := ah) (ik := ik) (fd := fd) (sp := sp) (lt := lt) (tp := tp) (tn := tn) (he := q) (ft := ft) (vz := vz) (bt := bt) (lg := lg) (ce := ce) (bw := bw) (a := a) (ht := ht) (hj := (by omega))) gX9_number_X9_byteAt rfl hdX9_byteAt ⟨rfl, rfl, Nat.le_of_ble_eq_true rfl, Nat.le_of_ble_eq_true rfl⟩ rfl rfl (Nat.le_of_ble_eq_true rfl) ⟨Nat.zero_le _, Nat.zero_le _⟩ rfl rfl dX9_number_16) (fun r_5 u_7 e_6 => ?_)
    have e_6 : r_5 = jI ((bB tp tn) q) := e_6
    subst e_6
    refine v_world (ws' := (wR cI cL a w kp bf ah ik fd sp lt tp tn q ft vz bt lg ce bw)) rfl ?_
    have hbr := bB_r ht q
    refine v_ciN G (rn_S (As := [.int (jI ((bB tp tn) q))]) (rest := []) G (c_X9_isDigit (v := (bB tp tn) q) (hr := (by omega))) gX9_number_X9_isDigit rfl hdX9_isDigit ⟨rfl, rfl, Nat.le_of_ble_eq_true rfl, Nat.le_of_ble_eq_true rfl⟩ rfl rfl (Nat.le_of_ble_eq_true rfl) ⟨Nat.zero_le _, Nat.zero_le _⟩ dX9_number_19) (fun r_8 u_10 e_9 => ?_)
    have e_9 : r_8 = jI (b2 (48 ≤ ((bB tp tn) q) ∧ ((bB tp tn) q) ≤ 57)) := e_9
    subst e_9
    refine v_ifb_ne (P := 48 ≤ ((bB tp tn) q) ∧ ((bB tp tn) q) ≤ 57) (tgt := 30) G dX9_number_22 (by decide) (fun c_11 => ?_) (fun c_11 => ?_)
    · skip
      have hd0 : dg (bB tp tn) q := by assumption
      refine v_lconst (z := 0) G dX9_number_30 (by decide) ?_
      refine v_lstore_n (lv' := [(3, .long (jL 0)), (0, .ref (a 0)), (1, .int (jI v)), (2, .int (jI z))]) G dX9_number_31 rfl (by decide) rfl ?_
      refine v_aload_n (j := 1) (x := a 0) G dX9_number_32 rfl rfl ?_
      refine v_get (q0 := 0) (k := 10) (v := .int (jI q)) G k_X9 rfl rfl (by decide) q_2 rfl rfl dX9_number_33 ?_
      refine v_istore (lv' := [(5, .int (jI q)), (3, .long (jL 0)), (0, .ref (a 0)), (1, .int (jI v)), (2, .int (jI z))]) G dX9_number_36 (by decide) rfl ?_
      refine v_eqs (lv' := [(5, .int (jI (q + ((0 : Nat) : Int)))), (3, .long (jL 0)), (0, .ref (a 0)), (1, .int (jI v)), (2, .int (jI z))]) (by rw [show q + ((0 : Nat) : Int) = q from (by omega)]) rfl rfl ?_
      refine v_locs (lv' := [(5, .int (jI (q + ((0 : Nat) : Int)))), (3, .long (jL 0)), (0, .ref (a 0)), (1, .int (jI v)), (2, .int (jI z))]) [0, 1, 2, 3, 4] rfl ?_
      refine v_loop1 (fun (k : Nat) => [(5, .int (jI (q + (k : Int)))), (3, .long (jL (rvN (bB tp tn) q k))), (0, .ref (a 0)), (1, .int (jI v)), (2, .int (jI z))]) (fun (k : Nat) => (wR cI cL a w kp bf ah ik fd sp lt tp tn q ft vz bt lg ce bw)) (fun (k : Nat) => q + (k : Int) ≤ tn ∧ ∀ j_ : Int, q ≤ j_ → j_ < q + (k : Int) → dg (bB tp tn) j_) (fun (k : Nat) => tn.toNat - k) 0 ⟨by omega, fun j_ q0 q1 => by omega⟩ rfl rfl ?_
      intro k I_12 ih_13
      obtain ⟨hk1, hk2⟩ := id I_12; have hbr := bB_r ht (q + (k : Int)); have hrv := nv_rv k hk2
      refine v_aload_n (j := 2) (x := a 0) G dX9_number_38 rfl rfl ?_
      refine v_iload (j := 0) (x := jI (q + (k : Int))) G dX9_number_39 rfl ?_
      refine v_ciF G (rn_V (As := [.int (jI (q + (k : Int)))]) (rest := []) (q0 := 0) G (c_X9_byteAt (j := q + (k : Int)) (w := w) (kp := kp) (bf := bf) (ah := ah) (ik := ik) (fd := fd) (sp := sp) (lt := lt) (tp := tp) (tn := tn) (he := q) (ft := ft) (vz := vz) (bt := bt) (lg := lg) (ce := ce) (bw := bw) (a := a) (ht := ht) (hj := (by omega))) gX9_number_X9_byteAt rfl hdX9_byteAt ⟨rfl, rfl, Nat.le_of_ble_eq_true rfl, Nat.le_of_ble_eq_true rfl⟩ rfl rfl (Nat.le_of_ble_eq_true rfl) ⟨Nat.zero_le _, Nat.zero_le _⟩ rfl rfl dX9_number_41) (fun r_14 u_16 e_15 => ?_)
      have e_15 : r_14 = jI ((bB tp tn) (q + (k : Int))) := e_15
      subst e_15
      refine v_world (ws' := (wR cI cL a w kp bf ah ik fd sp lt tp tn q ft vz bt lg ce bw)) rfl ?_
      refine v_ciN G (rn_S (As := [.int (jI ((bB tp tn) (q + (k : Int))))]) (rest := []) G (c_X9_isDigit (v := (bB tp tn) (q + (k : Int))) (hr := (by omega))) gX9_number_X9_isDigit rfl hdX9_isDigit ⟨rfl, rfl, Nat.le_of_ble_eq_true rfl, Nat.le_of_ble_eq_true rfl⟩ rfl rfl (Nat.le_of_ble_eq_true rfl) ⟨Nat.zero_le _, Nat.zero_le _⟩ dX9_number_44) (fun r_17 u_19 e_18 => ?_)
      have e_18 : r_17 = jI (b2 (48 ≤ ((bB tp tn) (q + (k : Int))) ∧ ((bB tp tn) (q + (k : Int))) ≤ 57)) := e_18
      subst e_18
      refine v_ifb_eq (P := 48 ≤ ((bB tp tn) (q + (k : Int))) ∧ ((bB tp tn) (q + (k : Int))) ≤ 57) (tgt := 80) G dX9_number_47 (by decide) (fun c_20 => ?_) (fun c_20 => ?_)
      · skip
        have hde : de (bB tp tn) q = q + (k : Int) := de_u hB (by omega) hk2 (by assumption)
        have hvk : vl (bB tp tn) q = nvN (bB tp tn) q k := (by unfold vl; rw [hde, show (q + (k : Int) - q).toNat = k by omega])
        have hjm := jmin_z 1000 (rvN (bB tp tn) q k)
        refine v_lload_n (j := 1) (x := jL (rvN (bB tp tn) q k)) G dX9_number_80 rfl rfl ?_
        refine v_iload_n (j := 3) (x := jI v) G dX9_number_81 rfl rfl ?_
        refine v_i2l (v := jL v) G dX9_number_82 (jI_i2l (by omega)) ?_
        refine v_lcmp G dX9_number_83 ?_
        refine v_top (lg_lc (jL (rvN (bB tp tn) q k)) (jL v)) ?_
        have h_21 := lc_z (jL (rvN (bB tp tn) q k)) (jL v)
        have h_22 := jL_toInt (z := rvN (bB tp tn) q k) (by omega)
        have h_23 := jL_toInt (z := v) (by omega)
        refine v_if_lt (a := lc (jL (rvN (bB tp tn) q k)) (jL v)) (tgt := 94) G dX9_number_84 (by decide) (by omega) (fun c_24 => ?_) (fun c_24 => ?_)
        · skip
          have hvx : ¬ (v ≤ vl (bB tp tn) q ∧ vl (bB tp tn) q ≤ z) := by rw [hvk, hrv.1]; omega
          refine v_aload_n (j := 2) (x := a 0) G dX9_number_94 rfl rfl ?_
          refine v_ciF G (rn_V (As := []) (rest := []) (q0 := 0) G (c_X9_fails (w := w) (kp := kp) (bf := bf) (ah := ah) (ik := ik) (fd := fd) (sp := sp) (lt := lt) (tp := tp) (tn := tn) (he := q) (ft := ft) (vz := vz) (bt := bt) (lg := lg) (ce := ce) (bw := bw) (a := a) (hh := (by omega)) (hf := hf)) gX9_number_X9_fails rfl hdX9_fails ⟨rfl, rfl, Nat.le_of_ble_eq_true rfl, Nat.le_of_ble_eq_true rfl⟩ rfl rfl (Nat.le_of_ble_eq_true rfl) ⟨Nat.zero_le _, Nat.zero_le _⟩ rfl rfl dX9_number_95) (fun r_25 u_27 e_26 => ?_)
          have e_26 : r_25 = jI 0 := e_26
          subst e_26
          refine v_world (ws' := (wR cI cL a w kp bf ah ik fd sp lt tp tn q q vz bt lg ce bw)) rfl ?_
          exact v_zret G (q, q, vz) nb_0 (by have hT : (tkN (bB tp tn) tn v z q) = (-1, q) := tkN_f (by omega); rw [hT]; exact ⟨congrArg jI (b2_f (P := (0 : Int) ≤ -1) (by omega)).symm, by omega, fun h_ => absurd h_ (show ¬ (0 : Int) ≤ -1 by omega), fun _ => rfl⟩) rfl dX9_number_98
        · skip
          refine v_lload_n (j := 1) (x := jL (rvN (bB tp tn) q k)) G dX9_number_87 rfl rfl ?_
          refine v_iload_n (j := 4) (x := jI z) G dX9_number_88 rfl rfl ?_
          refine v_i2l (v := jL z) G dX9_number_89 (jI_i2l (by omega)) ?_
          refine v_lcmp G dX9_number_90 ?_
          refine v_top (lg_lc (jL (rvN (bB tp tn) q k)) (jL z)) ?_
          have h_28 := lc_z (jL (rvN (bB tp tn) q k)) (jL z)
          have h_29 := jL_toInt (z := rvN (bB tp tn) q k) (by omega)
          have h_30 := jL_toInt (z := z) (by omega)
          refine v_if_le (a := lc (jL (rvN (bB tp tn) q k)) (jL z)) (tgt := 99) G dX9_number_91 (by decide) (by omega) (fun c_31 => ?_) (fun c_31 => ?_)
          · skip
            have hvr : vl (bB tp tn) q = rvN (bB tp tn) q k := (by rw [hvk, hrv.1]; omega)
            refine v_aload_n (j := 2) (x := a 0) G dX9_number_99 rfl rfl ?_
            refine v_iload (j := 0) (x := jI (q + (k : Int))) G dX9_number_100 rfl ?_
            refine v_put (q0 := 0) (k := 10) (ty := .int) (ws' := (wR cI cL a w kp bf ah ik fd sp lt tp tn (q + (k : Int)) ft vz bt lg ce bw)) G k_X9 tyX9 tyX9_ok nmX9 rfl rfl (by decide) q_2 rfl rfl rfl rfl rfl (Nat.le_of_ble_eq_true rfl) rfl dX9_number_102 ?_
            refine v_aload_n (j := 2) (x := a 0) G dX9_number_105 rfl rfl ?_
            refine v_lload_n (j := 1) (x := jL (rvN (bB tp tn) q k)) G dX9_number_106 rfl rfl ?_
            refine v_l2i (v := jI (rvN (bB tp tn) q k)) G dX9_number_107 (jL_l2i (by omega)) ?_
            refine v_put (q0 := 0) (k := 12) (ty := .int) (ws' := (wR cI cL a w kp bf ah ik fd sp lt tp tn (q + (k : Int)) ft (rvN (bB tp tn) q k) bt lg ce bw)) G k_X9 tyX9 tyX9_ok nmX9 rfl rfl (by decide) q_3 rfl rfl rfl rfl rfl (Nat.le_of_ble_eq_true rfl) rfl dX9_number_108 ?_
            refine v_iconst G dX9_number_111 ?_
            exact v_zret G (q + (k : Int), ft, rvN (bB tp tn) q k) nb_1 (by have hT : (tkN (bB tp tn) tn v z q) = (rvN (bB tp tn) q k, nx (bB tp tn) q) := (by rw [tkN_t (by omega) ((cd_15 hB).mpr hd0), hvr]); rw [hT]; exact ⟨congrArg jI (b2_t (P := 0 ≤ rvN (bB tp tn) q k) (by omega)).symm, by omega, fun _ => ⟨hf, rfl, by show sk (bB tp tn) (q + (k : Int)) = nx (bB tp tn) q; unfold nx; rw [te_d hd0, hde]⟩, fun h_ => absurd (show 0 ≤ rvN (bB tp tn) q k by omega) h_⟩) rfl dX9_number_112
          · skip
            have hvx : ¬ (v ≤ vl (bB tp tn) q ∧ vl (bB tp tn) q ≤ z) := by rw [hvk, hrv.1]; omega
            refine v_aload_n (j := 2) (x := a 0) G dX9_number_94 rfl rfl ?_
            refine v_ciF G (rn_V (As := []) (rest := []) (q0 := 0) G (c_X9_fails (w := w) (kp := kp) (bf := bf) (ah := ah) (ik := ik) (fd := fd) (sp := sp) (lt := lt) (tp := tp) (tn := tn) (he := q) (ft := ft) (vz := vz) (bt := bt) (lg := lg) (ce := ce) (bw := bw) (a := a) (hh := (by omega)) (hf := hf)) gX9_number_X9_fails rfl hdX9_fails ⟨rfl, rfl, Nat.le_of_ble_eq_true rfl, Nat.le_of_ble_eq_true rfl⟩ rfl rfl (Nat.le_of_ble_eq_true rfl) ⟨Nat.zero_le _, Nat.zero_le _⟩ rfl rfl dX9_number_95) (fun r_32 u_34 e_33 => ?_)
            have e_33 : r_32 = jI 0 := e_33
            subst e_33
            refine v_world (ws' := (wR cI cL a w kp bf ah ik fd sp lt tp tn q q vz bt lg ce bw)) rfl ?_
            exact v_zret G (q, q, vz) nb_0 (by have hT : (tkN (bB tp tn) tn v z q) = (-1, q) := tkN_f (by omega); rw [hT]; exact ⟨congrArg jI (b2_f (P := (0 : Int) ≤ -1) (by omega)).symm, by omega, fun h_ => absurd h_ (show ¬ (0 : Int) ≤ -1 by omega), fun _ => rfl⟩) rfl dX9_number_98
      · skip
        refine v_ldc2 (z := 99999) G q_4 (by decide) dX9_number_50 ?_
        refine v_ldc2 (z := 10) G q_5 (by decide) dX9_number_53 ?_
        refine v_lload_n (j := 1) (x := jL (rvN (bB tp tn) q k)) G dX9_number_56 rfl rfl ?_
        refine v_lmul (v := jL (10 * (rvN (bB tp tn) q k))) G dX9_number_57 (jL_mul _ _) ?_
        refine v_aload_n (j := 2) (x := a 0) G dX9_number_58 rfl rfl ?_
        refine v_iload (j := 0) (x := jI (q + (k : Int))) G dX9_number_59 rfl ?_
        refine v_ciF G (rn_V (As := [.int (jI (q + (k : Int)))]) (rest := [.long (jL (10 * (rvN (bB tp tn) q k))), .long (jL 99999)]) (q0 := 0) G (c_X9_byteAt (j := q + (k : Int)) (w := w) (kp := kp) (bf := bf) (ah := ah) (ik := ik) (fd := fd) (sp := sp) (lt := lt) (tp := tp) (tn := tn) (he := q) (ft := ft) (vz := vz) (bt := bt) (lg := lg) (ce := ce) (bw := bw) (a := a) (ht := ht) (hj := (by omega))) gX9_number_X9_byteAt rfl hdX9_byteAt ⟨rfl, rfl, Nat.le_of_ble_eq_true rfl, Nat.le_of_ble_eq_true rfl⟩ rfl rfl (Nat.le_of_ble_eq_true rfl) ⟨Nat.zero_le _, Nat.zero_le _⟩ rfl rfl dX9_number_61) (fun r_35 u_37 e_36 => ?_)
        have e_36 : r_35 = jI ((bB tp tn) (q + (k : Int))) := e_36
        subst e_36
        refine v_world (ws' := (wR cI cL a w kp bf ah ik fd sp lt tp tn q ft vz bt lg ce bw)) rfl ?_
        refine v_i2l (v := jL ((bB tp tn) (q + (k : Int)))) G dX9_number_64 (jI_i2l (by omega)) ?_
        refine v_ladd (v := jL ((10 * (rvN (bB tp tn) q k)) + ((bB tp tn) (q + (k : Int))))) G dX9_number_65 (jL_add _ _) ?_
        refine v_ldc2 (z := 48) G q_6 (by decide) dX9_number_66 ?_
        refine v_lsub (v := jL (((10 * (rvN (bB tp tn) q k)) + ((bB tp tn) (q + (k : Int)))) - 48)) G dX9_number_69 (jL_sub _ _) ?_
        refine v_mminl (a := 99999) (b := ((10 * (rvN (bB tp tn) q k)) + ((bB tp tn) (q + (k : Int)))) - 48) (z := jmin 99999 (((10 * (rvN (bB tp tn) q k)) + ((bB tp tn) (q + (k : Int)))) - 48)) G q_7 q_8 q_9 q_10 ⟨Nat.le_of_ble_eq_true rfl, Nat.le_of_ble_eq_true rfl, Nat.zero_le _, Nat.zero_le _⟩ (by omega) (jmin_z 99999 (((10 * (rvN (bB tp tn) q k)) + ((bB tp tn) (q + (k : Int)))) - 48)) dX9_number_70 ?_
        refine v_topl (x := jL (jmin 99999 (((10 * (rvN (bB tp tn) q k)) + ((bB tp tn) (q + (k : Int)))) - 48))) (y := jL (rvN (bB tp tn) q (k + 1))) rfl ?_
        refine v_lstore_n (lv' := [(3, .long (jL (rvN (bB tp tn) q (k + 1)))), (5, .int (jI (q + (k : Int)))), (0, .ref (a 0)), (1, .int (jI v)), (2, .int (jI z))]) G dX9_number_73 rfl (by decide) rfl ?_
        refine v_iinc (k := 1) (z := q + (k : Int)) (z' := q + ((k + 1 : Nat) : Int)) (lv' := [(5, .int (jI (q + ((k + 1 : Nat) : Int)))), (3, .long (jL (rvN (bB tp tn) q (k + 1)))), (0, .ref (a 0)), (1, .int (jI v)), (2, .int (jI z))]) G dX9_number_74 rfl (by omega) (by decide) rfl ?_
        refine v_goto (tgt := 38) G dX9_number_77 (by decide) ?_
        exact ih_13 (k + 1) ⟨by have e9 := bB_n ht (j := q + (k : Int)); omega, fun j_ q0 q1 => by by_cases qe : j_ = q + (k : Int); subst qe; assumption; exact I_12.2 j_ q0 (by omega)⟩ (by have e9 := bB_n ht (j := q + (k : Int)); omega)
    · skip
      refine v_aload_n (j := 0) (x := a 0) G dX9_number_25 rfl rfl ?_
      refine v_ciF G (rn_V (As := []) (rest := []) (q0 := 0) G (c_X9_fails (w := w) (kp := kp) (bf := bf) (ah := ah) (ik := ik) (fd := fd) (sp := sp) (lt := lt) (tp := tp) (tn := tn) (he := q) (ft := ft) (vz := vz) (bt := bt) (lg := lg) (ce := ce) (bw := bw) (a := a) (hh := (by omega)) (hf := hf)) gX9_number_X9_fails rfl hdX9_fails ⟨rfl, rfl, Nat.le_of_ble_eq_true rfl, Nat.le_of_ble_eq_true rfl⟩ rfl rfl (Nat.le_of_ble_eq_true rfl) ⟨Nat.zero_le _, Nat.zero_le _⟩ rfl rfl dX9_number_26) (fun r_38 u_40 e_39 => ?_)
      have e_39 : r_38 = jI 0 := e_39
      subst e_39
      refine v_world (ws' := (wR cI cL a w kp bf ah ik fd sp lt tp tn q q vz bt lg ce bw)) rfl ?_
      exact v_zret G (q, q, vz) nb_0 (by have hT : (tkN (bB tp tn) tn v z q) = (-1, q) := tkN_f (fun h_ => absurd ((cd_15 hB).mp h_.2) (by assumption)); rw [hT]; exact ⟨congrArg jI (b2_f (P := (0 : Int) ≤ -1) (by omega)).symm, by omega, fun h_ => absurd h_ (show ¬ (0 : Int) ≤ -1 by omega), fun _ => rfl⟩) rfl dX9_number_29

set_option maxHeartbeats 4000000 in
set_option maxRecDepth 100000 in
theorem c_X9_told (v z : Int) {tq tc : Nat} {q : Int} (ht : Tr tp tn) (hh : 0 ≤ he ∧ he ≤ tn) (hf : ft = -1) (hq : sk (bB tp tn) he = q) (htc : tc < 15) (hv : (0 ≤ v ∧ v ≤ 1) ∧ -1 ≤ z ∧ z ≤ 999) : CiX (xStr tq ((wdC tc).map jI)) l yX9_told wsX9_told { frames := 7, cells := 0, slots := 0, locals := 151 } D (jT cI cL cB cS) [.ref (a 0), .ref tq, .int (jI v), .int (jI z)] (wR cI cL a w kp bf ah ik fd sp lt tp tn he ft vz bt lg ce bw) (S := Int × Int × Int) (fun (u : Int × Int × Int) => (wR cI cL a w kp bf ah ik fd sp lt tp tn u.1 u.2.1 u.2.2 bt lg ce bw)) (fun r (u : Int × Int × Int) => r = jI (b2 (0 ≤ (tkB (bB tp tn) tn (tc : Int) v z q).1)) ∧ (0 ≤ u.1 ∧ u.1 ≤ tn) ∧ (0 ≤ (tkB (bB tp tn) tn (tc : Int) v z q).1 → u.2.1 = -1 ∧ u.2.2 = (tkB (bB tp tn) tn (tc : Int) v z q).1 ∧ sk (bB tp tn) u.1 = (tkB (bB tp tn) tn (tc : Int) v z q).2) ∧ (¬ 0 ≤ (tkB (bB tp tn) tn (tc : Int) v z q).1 → u.2.1 = (tkB (bB tp tn) tn (tc : Int) v z q).2)) := by
  refine CiX.mk (cc := cX9_told) (maxL := 4) (rt := .boolean) (by decide) rfl (Nat.le_of_ble_eq_true rfl) rfl ?_
  intro p_ e_ s_ m_ b_ me_ c_ A_ G hX
  have hn := ht.1
  have hB := Tr_k ht
  obtain ⟨hq1, hq2, hq3, hq4⟩ := sk_p hB hh
  rw [hq] at hq1 hq2 hq3 hq4
  have hqq : sk (bB tp tn) q = q := sk_i hq4
  have hQ : Qk (bB tp tn) tn q := ⟨⟨by omega, hq2⟩, hq4⟩
  refine v_aload_n (j := 0) (x := a 0) G dX9_told_0 rfl rfl ?_
  refine v_aload_n (j := 1) (x := tq) G dX9_told_1 rfl rfl ?_
  refine v_ciF G (rn_VX (X := xStr tq ((wdC tc).map jI)) (xStr_s tq ((wdC tc).map jI)) hX (As := [.ref tq]) (rest := []) (q0 := 0) G (c_X9_must (w := w) (kp := kp) (bf := bf) (ah := ah) (ik := ik) (fd := fd) (sp := sp) (lt := lt) (tp := tp) (tn := tn) (he := he) (ft := ft) (vz := vz) (bt := bt) (lg := lg) (ce := ce) (bw := bw) (a := a) (q := q) (tq := tq) (tc := tc) (ht := ht) (hh := hh) (hf := hf) (hq := hq) (htc := (by omega))) gX9_told_X9_must rfl hdX9_must ⟨rfl, rfl, Nat.le_of_ble_eq_true rfl, Nat.le_of_ble_eq_true rfl⟩ rfl rfl (Nat.le_of_ble_eq_true rfl) ⟨Nat.zero_le _, Nat.zero_le _⟩ rfl rfl dX9_told_2) (fun r_3 u_5 e_4 => ?_)
  obtain ⟨he2_1, ft2_2⟩ := u_5
  have e_4 : r_3 = jI (b2 (cd (bB tp tn) tn q = (tc : Int))) ∧ (0 ≤ he2_1 ∧ he2_1 ≤ tn) ∧ (cd (bB tp tn) tn q = (tc : Int) → ft2_2 = -1 ∧ sk (bB tp tn) he2_1 = nx (bB tp tn) q) ∧ (¬ cd (bB tp tn) tn q = (tc : Int) → ft2_2 = q) := e_4
  obtain ⟨e_40, e_4f⟩ := e_4
  subst e_40
  refine v_world (ws' := (wR cI cL a w kp bf ah ik fd sp lt tp tn he2_1 ft2_2 vz bt lg ce bw)) rfl ?_
  refine v_ifb_eq (P := cd (bB tp tn) tn q = (tc : Int)) (tgt := 21) G dX9_told_5 (by decide) (fun c_6 => ?_) (fun c_6 => ?_)
  · skip
    refine v_iconst G dX9_told_21 ?_
    exact v_zret G (he2_1, ft2_2, vz) nb_0 (by have hT : (tkB (bB tp tn) tn (tc : Int) v z q) = (-1, q) := tkB_f (by assumption); rw [hT]; exact ⟨congrArg jI (b2_f (P := (0 : Int) ≤ -1) (by omega)).symm, e_4f.1, fun h_ => absurd h_ (show ¬ (0 : Int) ≤ -1 by omega), fun _ => e_4f.2.2 (by assumption)⟩) rfl dX9_told_22
  · skip
    refine v_aload_n (j := 0) (x := a 0) G dX9_told_8 rfl rfl ?_
    refine v_iload_n (j := 2) (x := jI v) G dX9_told_9 rfl rfl ?_
    refine v_iload_n (j := 3) (x := jI z) G dX9_told_10 rfl rfl ?_
    refine v_ciF G (rn_V (As := [.int (jI v), .int (jI z)]) (rest := []) (q0 := 0) G (c_X9_number (v := v) (z := z) (w := w) (kp := kp) (bf := bf) (ah := ah) (ik := ik) (fd := fd) (sp := sp) (lt := lt) (tp := tp) (tn := tn) (he := he2_1) (ft := ft2_2) (vz := vz) (bt := bt) (lg := lg) (ce := ce) (bw := bw) (a := a) (q := nx (bB tp tn) q) (ht := ht) (hh := e_4f.1) (hf := (e_4f.2.1 (by assumption)).1) (hq := (e_4f.2.1 (by assumption)).2) (hv := hv)) gX9_told_X9_number rfl hdX9_number ⟨rfl, rfl, Nat.le_of_ble_eq_true rfl, Nat.le_of_ble_eq_true rfl⟩ rfl rfl (Nat.le_of_ble_eq_true rfl) ⟨Nat.zero_le _, Nat.zero_le _⟩ rfl rfl dX9_told_11) (fun r_10 u_12 e_11 => ?_)
    obtain ⟨he2_7, ft2_8, vl2_9⟩ := u_12
    have e_11 : r_10 = jI (b2 (0 ≤ (tkN (bB tp tn) tn v z (nx (bB tp tn) q)).1)) ∧ (0 ≤ he2_7 ∧ he2_7 ≤ tn) ∧ (0 ≤ (tkN (bB tp tn) tn v z (nx (bB tp tn) q)).1 → ft2_8 = -1 ∧ vl2_9 = (tkN (bB tp tn) tn v z (nx (bB tp tn) q)).1 ∧ sk (bB tp tn) he2_7 = (tkN (bB tp tn) tn v z (nx (bB tp tn) q)).2) ∧ (¬ 0 ≤ (tkN (bB tp tn) tn v z (nx (bB tp tn) q)).1 → ft2_8 = (tkN (bB tp tn) tn v z (nx (bB tp tn) q)).2) := e_11
    obtain ⟨e_110, e_11f⟩ := e_11
    subst e_110
    refine v_world (ws' := (wR cI cL a w kp bf ah ik fd sp lt tp tn he2_7 ft2_8 vl2_9 bt lg ce bw)) rfl ?_
    refine v_ifb_eq (P := 0 ≤ (tkN (bB tp tn) tn v z (nx (bB tp tn) q)).1) (tgt := 21) G dX9_told_14 (by decide) (fun c_13 => ?_) (fun c_13 => ?_)
    · skip
      refine v_iconst G dX9_told_21 ?_
      exact v_zret G (he2_7, ft2_8, vl2_9) nb_0 (by have hT : (tkB (bB tp tn) tn (tc : Int) v z q) = tkN (bB tp tn) tn v z (nx (bB tp tn) q) := tkB_t (by assumption); rw [hT]; exact ⟨congrArg jI (b2_f (P := 0 ≤ (tkN (bB tp tn) tn v z (nx (bB tp tn) q)).1) (by assumption)).symm, e_11f⟩) rfl dX9_told_22
    · skip
      refine v_iconst G dX9_told_17 ?_
      refine v_goto (tgt := 22) G dX9_told_18 (by decide) ?_
      exact v_zret G (he2_7, ft2_8, vl2_9) nb_1 (by have hT : (tkB (bB tp tn) tn (tc : Int) v z q) = tkN (bB tp tn) tn v z (nx (bB tp tn) q) := tkB_t (by assumption); rw [hT]; exact ⟨congrArg jI (b2_t (P := 0 ≤ (tkN (bB tp tn) tn v z (nx (bB tp tn) q)).1) (by assumption)).symm, e_11f⟩) rfl dX9_told_22

set_option maxHeartbeats 4000000 in
set_option maxRecDepth 100000 in
theorem c_X9_perhaps (z d : Int) {tq tc : Nat} {q : Int} (ht : Tr tp tn) (hh : 0 ≤ he ∧ he ≤ tn) (hf : ft = -1) (hq : sk (bB tp tn) he = q) (htc : tc < 15) (hv : 0 ≤ d ∧ 0 ≤ z ∧ z ≤ 999) : CiX (xStr tq ((wdC tc).map jI)) l yX9_perhaps wsX9_perhaps { frames := 6, cells := 0, slots := 0, locals := 130 } D (jT cI cL cB cS) [.ref (a 0), .ref tq, .int (jI z), .int (jI d)] (wR cI cL a w kp bf ah ik fd sp lt tp tn he ft vz bt lg ce bw) (S := Int × Int × Int) (fun (u : Int × Int × Int) => (wR cI cL a w kp bf ah ik fd sp lt tp tn u.1 u.2.1 u.2.2 bt lg ce bw)) (fun r (u : Int × Int × Int) => r = jI ((tkP (bB tp tn) tn (tc : Int) z d q).1) ∧ (0 ≤ u.1 ∧ u.1 ≤ tn) ∧ (0 ≤ (tkP (bB tp tn) tn (tc : Int) z d q).1 → u.2.1 = -1 ∧ sk (bB tp tn) u.1 = (tkP (bB tp tn) tn (tc : Int) z d q).2) ∧ (¬ 0 ≤ (tkP (bB tp tn) tn (tc : Int) z d q).1 → u.2.1 = (tkP (bB tp tn) tn (tc : Int) z d q).2)) := by
  refine CiX.mk (cc := cX9_perhaps) (maxL := 4) (rt := .int) (by decide) rfl (Nat.le_of_ble_eq_true rfl) rfl ?_
  intro p_ e_ s_ m_ b_ me_ c_ A_ G hX
  have hn := ht.1
  have hB := Tr_k ht
  obtain ⟨hq1, hq2, hq3, hq4⟩ := sk_p hB hh
  rw [hq] at hq1 hq2 hq3 hq4
  have hqq : sk (bB tp tn) q = q := sk_i hq4
  have hQ : Qk (bB tp tn) tn q := ⟨⟨by omega, hq2⟩, hq4⟩
  have k_X9 : ∀ w ∈ u_ws RX9 TX9 17, w ∈ wsX9_perhaps := fun _ h => List.mem_cons_of_mem _ (List.mem_append_right _ h)
  have q_1 : Cond.fieldLink RX9 226 "SupperLightModel" "value" "I" ∈ wsX9_perhaps := List.mem_of_getElem? (i := 1) rfl
  refine v_aload_n (j := 0) (x := a 0) G dX9_perhaps_0 rfl rfl ?_
  refine v_aload_n (j := 1) (x := tq) G dX9_perhaps_1 rfl rfl ?_
  refine v_ciF G (rn_VX (X := xStr tq ((wdC tc).map jI)) (xStr_s tq ((wdC tc).map jI)) hX (As := [.ref tq]) (rest := []) (q0 := 0) G (c_X9_takes (w := w) (kp := kp) (bf := bf) (ah := ah) (ik := ik) (fd := fd) (sp := sp) (lt := lt) (tp := tp) (tn := tn) (he := he) (ft := ft) (vz := vz) (bt := bt) (lg := lg) (ce := ce) (bw := bw) (a := a) (q := q) (tq := tq) (tc := tc) (ht := ht) (hh := hh) (hf := hf) (hq := hq) (htc := (by omega))) gX9_perhaps_X9_takes rfl hdX9_takes ⟨rfl, rfl, Nat.le_of_ble_eq_true rfl, Nat.le_of_ble_eq_true rfl⟩ rfl rfl (Nat.le_of_ble_eq_true rfl) ⟨Nat.zero_le _, Nat.zero_le _⟩ rfl rfl dX9_perhaps_2) (fun r_2 u_4 e_3 => ?_)
  obtain ⟨he2_1, rfl⟩ : ∃ z, z = u_4 := ⟨_, rfl⟩
  have e_3 : r_2 = jI (b2 (cd (bB tp tn) tn q = (tc : Int))) ∧ (0 ≤ he2_1 ∧ he2_1 ≤ tn) ∧ (cd (bB tp tn) tn q = (tc : Int) → sk (bB tp tn) he2_1 = nx (bB tp tn) q) ∧ (¬ cd (bB tp tn) tn q = (tc : Int) → he2_1 = q) := e_3
  obtain ⟨e_30, e_3f⟩ := e_3
  subst e_30
  refine v_world (ws' := (wR cI cL a w kp bf ah ik fd sp lt tp tn he2_1 ft vz bt lg ce bw)) rfl ?_
  refine v_ifb_ne (P := cd (bB tp tn) tn q = (tc : Int)) (tgt := 10) G dX9_perhaps_5 (by decide) (fun c_5 => ?_) (fun c_5 => ?_)
  · skip
    refine v_aload_n (j := 0) (x := a 0) G dX9_perhaps_10 rfl rfl ?_
    refine v_iconst G dX9_perhaps_11 ?_
    refine v_iload_n (j := 2) (x := jI z) G dX9_perhaps_12 rfl rfl ?_
    refine v_ciF G (rn_V (As := [.int (jI 0), .int (jI z)]) (rest := []) (q0 := 0) G (c_X9_number (v := 0) (z := z) (w := w) (kp := kp) (bf := bf) (ah := ah) (ik := ik) (fd := fd) (sp := sp) (lt := lt) (tp := tp) (tn := tn) (he := he2_1) (ft := ft) (vz := vz) (bt := bt) (lg := lg) (ce := ce) (bw := bw) (a := a) (q := nx (bB tp tn) q) (ht := ht) (hh := e_3f.1) (hf := hf) (hq := e_3f.2.1 (by assumption)) (hv := (by omega))) gX9_perhaps_X9_number rfl hdX9_number ⟨rfl, rfl, Nat.le_of_ble_eq_true rfl, Nat.le_of_ble_eq_true rfl⟩ rfl rfl (Nat.le_of_ble_eq_true rfl) ⟨Nat.zero_le _, Nat.zero_le _⟩ rfl rfl dX9_perhaps_13) (fun r_9 u_11 e_10 => ?_)
    obtain ⟨he2_6, ft2_7, vl2_8⟩ := u_11
    have e_10 : r_9 = jI (b2 (0 ≤ (tkN (bB tp tn) tn 0 z (nx (bB tp tn) q)).1)) ∧ (0 ≤ he2_6 ∧ he2_6 ≤ tn) ∧ (0 ≤ (tkN (bB tp tn) tn 0 z (nx (bB tp tn) q)).1 → ft2_7 = -1 ∧ vl2_8 = (tkN (bB tp tn) tn 0 z (nx (bB tp tn) q)).1 ∧ sk (bB tp tn) he2_6 = (tkN (bB tp tn) tn 0 z (nx (bB tp tn) q)).2) ∧ (¬ 0 ≤ (tkN (bB tp tn) tn 0 z (nx (bB tp tn) q)).1 → ft2_7 = (tkN (bB tp tn) tn 0 z (nx (bB tp tn) q)).2) := e_10
    obtain ⟨e_100, e_10f⟩ := e_10
    subst e_100
    refine v_world (ws' := (wR cI cL a w kp bf ah ik fd sp lt tp tn he2_6 ft2_7 vl2_8 bt lg ce bw)) rfl ?_
    refine v_ifb_eq (P := 0 ≤ (tkN (bB tp tn) tn 0 z (nx (bB tp tn) q)).1) (tgt := 26) G dX9_perhaps_16 (by decide) (fun c_12 => ?_) (fun c_12 => ?_)
    · skip
      refine v_iconst G dX9_perhaps_26 ?_
      exact v_iret G (he2_6, ft2_7, vl2_8) (by have hT : (tkP (bB tp tn) tn (tc : Int) z d q) = tkN (bB tp tn) tn 0 z (nx (bB tp tn) q) := tkP_t (by assumption); rw [hT]; exact ⟨congrArg jI (by have hr_ := tkN_r (bB tp tn) tn 0 z (nx (bB tp tn) q) (by omega); omega), e_10f.1, fun h_ => ⟨(e_10f.2.1 h_).1, (e_10f.2.1 h_).2.2⟩, e_10f.2.2⟩) rfl dX9_perhaps_27
    · skip
      refine v_aload_n (j := 0) (x := a 0) G dX9_perhaps_19 rfl rfl ?_
      refine v_get (q0 := 0) (k := 12) (v := .int (jI vl2_8)) G k_X9 rfl rfl (by decide) q_1 rfl rfl dX9_perhaps_20 ?_
      refine v_goto (tgt := 27) G dX9_perhaps_23 (by decide) ?_
      exact v_iret G (he2_6, ft2_7, vl2_8) (by have hT : (tkP (bB tp tn) tn (tc : Int) z d q) = tkN (bB tp tn) tn 0 z (nx (bB tp tn) q) := tkP_t (by assumption); rw [hT]; exact ⟨congrArg jI (by rw [(e_10f.2.1 (by assumption)).2.1]), e_10f.1, fun h_ => ⟨(e_10f.2.1 h_).1, (e_10f.2.1 h_).2.2⟩, e_10f.2.2⟩) rfl dX9_perhaps_27
  · skip
    refine v_iload_n (j := 3) (x := jI d) G dX9_perhaps_8 rfl rfl ?_
    exact v_iret G (he2_1, ft, vz) (by have hT : (tkP (bB tp tn) tn (tc : Int) z d q) = (d, q) := tkP_f (by assumption); rw [hT]; exact ⟨rfl, e_3f.1, fun _ => ⟨hf, by rw [e_3f.2.2 (by assumption)]; exact hqq⟩, fun h_ => absurd hv.1 h_⟩) rfl dX9_perhaps_9
end

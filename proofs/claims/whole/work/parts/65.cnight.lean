section
variable {T : Type} {B : Int → Int} {n q : Int} {m : Nat} {nb nt : T → Int} {ap : T → ET → T} {x : T} {r : IT}
theorem ngG_f (hm : m < 120) (hr : itm B n (nb x) (nt x) q = r) (h : ¬ r.1 = 1) : ngG B n nb nt ap (120 - m) (m : Int) q x = (0, r.2.1, x) := by
  rw [show 120 - m = (119 - m) + 1 by omega]
  exact ng_f hr h
theorem ngG_e (hm : m < 120) (hr : itm B n (nb x) (nt x) q = r) (h : r.1 = 1) (h2 : cd B n r.2.1 = 17) : ngG B n nb nt ap (120 - m) (m : Int) q x = ((m : Int) + 1, r.2.1, ap x r.2.2) := by
  rw [show 120 - m = (119 - m) + 1 by omega]
  exact ng_e hr h h2
theorem ngG_s (hm : m < 120) (hr : itm B n (nb x) (nt x) q = r) (h : r.1 = 1) (h2 : cd B n r.2.1 = 16) : ngG B n nb nt ap (120 - m) (m : Int) q x = ngG B n nb nt ap (120 - (m + 1)) ((m + 1 : Nat) : Int) (nx B r.2.1) (ap x r.2.2) := by
  have e : ((m + 1 : Nat) : Int) = (m : Int) + 1 := by omega
  rw [show 120 - m = (120 - (m + 1)) + 1 by omega, e]
  exact ng_s hr h h2
theorem ngG_x (hm : m < 120) (hr : itm B n (nb x) (nt x) q = r) (h : r.1 = 1) (h1 : cd B n r.2.1 ≠ 17) (h2 : cd B n r.2.1 ≠ 16) : ngG B n nb nt ap (120 - m) (m : Int) q x = (0, r.2.1, x) := by
  rw [show 120 - m = (119 - m) + 1 by omega]
  exact ng_x hr h h1 h2
theorem ngG_z : ngG B n nb nt ap (120 - 120) ((120 : Nat) : Int) q x = (0, q, x) := by
  rw [show 120 - 120 = 0 from rfl]
  unfold ngG
  rfl
theorem ngG_0 : ngG B n nb nt ap (120 - 0) ((0 : Nat) : Int) (St B 0) x = ngG B n nb nt ap 120 0 (sk B 0) x := by
  rw [show 120 - 0 = 120 from rfl, show ((0 : Nat) : Int) = 0 from rfl, show St B 0 = sk B 0 from rfl]
end
section
variable {B : Int → Int} {n q : Int} {m : Nat} {x : WT}
theorem ngC_f (hm : m < 120) (h : ¬ (itm B n (x.2.2.1) (x.2.2.2.2.2.2.2.2.1) q).1 = 1) : ngC B n (120 - m) (m : Int) q x = (0, (itm B n (x.2.2.1) (x.2.2.2.2.2.2.2.2.1) q).2.1, x) := by unfold ngC; exact ngG_f hm rfl h
theorem ngC_e (hm : m < 120) (h : (itm B n (x.2.2.1) (x.2.2.2.2.2.2.2.2.1) q).1 = 1) (h2 : cd B n (itm B n (x.2.2.1) (x.2.2.2.2.2.2.2.2.1) q).2.1 = 17) : ngC B n (120 - m) (m : Int) q x = ((m : Int) + 1, (itm B n (x.2.2.1) (x.2.2.2.2.2.2.2.2.1) q).2.1, apC x (itm B n (x.2.2.1) (x.2.2.2.2.2.2.2.2.1) q).2.2) := by unfold ngC; exact ngG_e hm rfl h h2
theorem ngC_s (hm : m < 120) (h : (itm B n (x.2.2.1) (x.2.2.2.2.2.2.2.2.1) q).1 = 1) (h2 : cd B n (itm B n (x.2.2.1) (x.2.2.2.2.2.2.2.2.1) q).2.1 = 16) : ngC B n (120 - m) (m : Int) q x = ngC B n (120 - (m + 1)) ((m + 1 : Nat) : Int) (nx B (itm B n (x.2.2.1) (x.2.2.2.2.2.2.2.2.1) q).2.1) (apC x (itm B n (x.2.2.1) (x.2.2.2.2.2.2.2.2.1) q).2.2) := by unfold ngC; exact ngG_s hm rfl h h2
theorem ngC_x (hm : m < 120) (h : (itm B n (x.2.2.1) (x.2.2.2.2.2.2.2.2.1) q).1 = 1) (h1 : cd B n (itm B n (x.2.2.1) (x.2.2.2.2.2.2.2.2.1) q).2.1 ≠ 17) (h2 : cd B n (itm B n (x.2.2.1) (x.2.2.2.2.2.2.2.2.1) q).2.1 ≠ 16) : ngC B n (120 - m) (m : Int) q x = (0, (itm B n (x.2.2.1) (x.2.2.2.2.2.2.2.2.1) q).2.1, x) := by unfold ngC; exact ngG_x hm rfl h h1 h2
theorem ngC_z : ngC B n (120 - 120) ((120 : Nat) : Int) q x = (0, q, x) := by unfold ngC; exact ngG_z
theorem ngC_0 : ngC B n (120 - 0) ((0 : Nat) : Int) (St B 0) x = ngC B n 120 0 (sk B 0) x := by unfold ngC; exact ngG_0
end
section
variable {B : Int → Int} {n q : Int} {m : Nat} {x : Int → Int}
theorem ngR_f (hm : m < 120) (h : ¬ (itm B n (x 1) (x 2) q).1 = 1) : ngR B n (120 - m) (m : Int) q x = (0, (itm B n (x 1) (x 2) q).2.1, x) := by unfold ngR; exact ngG_f hm rfl h
theorem ngR_e (hm : m < 120) (h : (itm B n (x 1) (x 2) q).1 = 1) (h2 : cd B n (itm B n (x 1) (x 2) q).2.1 = 17) : ngR B n (120 - m) (m : Int) q x = ((m : Int) + 1, (itm B n (x 1) (x 2) q).2.1, apR x (itm B n (x 1) (x 2) q).2.2) := by unfold ngR; exact ngG_e hm rfl h h2
theorem ngR_s (hm : m < 120) (h : (itm B n (x 1) (x 2) q).1 = 1) (h2 : cd B n (itm B n (x 1) (x 2) q).2.1 = 16) : ngR B n (120 - m) (m : Int) q x = ngR B n (120 - (m + 1)) ((m + 1 : Nat) : Int) (nx B (itm B n (x 1) (x 2) q).2.1) (apR x (itm B n (x 1) (x 2) q).2.2) := by unfold ngR; exact ngG_s hm rfl h h2
theorem ngR_x (hm : m < 120) (h : (itm B n (x 1) (x 2) q).1 = 1) (h1 : cd B n (itm B n (x 1) (x 2) q).2.1 ≠ 17) (h2 : cd B n (itm B n (x 1) (x 2) q).2.1 ≠ 16) : ngR B n (120 - m) (m : Int) q x = (0, (itm B n (x 1) (x 2) q).2.1, x) := by unfold ngR; exact ngG_x hm rfl h h1 h2
theorem ngR_z : ngR B n (120 - 120) ((120 : Nat) : Int) q x = (0, q, x) := by unfold ngR; exact ngG_z
theorem ngR_0 : ngR B n (120 - 0) ((0 : Nat) : Int) (St B 0) x = ngR B n 120 0 (sk B 0) x := by unfold ngR; exact ngG_0
end
/-! a night -/
def TkE (B : Int → Int) (n : Int) (tk : (Int → Int) × (Int → Int) × (Int → Int) × Int) (i : Nat) : Prop := ∃ K : Nat, TkK B n tk K ∧ i ≤ K
theorem TkO_k {t : (Int → Int) × Int} {tk : (Int → Int) × (Int → Int) × (Int → Int) × Int} (h : Tf t) (ho : TkO (xB t) t.2 tk) : ∃ K : Nat, TkK (xB t) t.2 tk K := by
  obtain ⟨K, h1, h2, h3, h4⟩ := ho
  exact ⟨K, ⟨h1, h.1.2⟩, h2, h3, h4⟩
section
variable {l : Launch} {D : va_G} {cI cL cB cS : ClassId} {a b c : Nat → Nat} {x o wd kw tw : WT} {g gl : GT} {sx : Int × Int × (Int → Int64)} {fd li : Int → Int} {wy : (Int → Int) × (Int → Int)} {lr : (Int → Int64) × (Int → Int)} {dw : WT} {t ta : (Int → Int) × Int} {tk : (Int → Int) × (Int → Int) × (Int → Int) × Int} {s0 s1 s2 s3 : Int × Int × (Int → Int64)} {ks : Int}
set_option maxHeartbeats 4000000 in
set_option maxRecDepth 100000 in
theorem c_X2_readAll (nq : Int) (ht : Tf t) (hw : Wc x) : Ci l yX2_readAll wsX2_readAll { frames := 7, cells := 0, slots := 0, locals := 155 } D (jT cI cL cB cS) [.ref (a 38), .ref (a 36), .ref (a 1)] (gN  a nq ++ gK cI (fun i => a (39 + i)) tk ++ gW cI (fun i => a (60 + i)) o ++ gT cB (fun i => a (36 + i)) t ++ gW cI (fun i => a (1 + i)) x) (S := Nat × ((Int → Int) × (Int → Int) × (Int → Int) × Int) × WT) (fun (u : Nat × ((Int → Int) × (Int → Int) × (Int → Int) × Int) × WT) => (gN  a (u.1 : Int) ++ gK cI (fun i => a (39 + i)) u.2.1 ++ gW cI (fun i => a (60 + i)) u.2.2 ++ gT cB (fun i => a (36 + i)) t ++ gW cI (fun i => a (1 + i)) x)) (fun r (u : Nat × ((Int → Int) × (Int → Int) × (Int → Int) × Int) × WT) => r = jI ((ngC (xB t) t.2 120 0 (sk (xB t) 0) x).1) ∧ TkE (xB t) t.2 u.2.1 u.1 ∧ ((ngC (xB t) t.2 120 0 (sk (xB t) 0) x).1 = 0 → St (xB t) u.1 = (ngC (xB t) t.2 120 0 (sk (xB t) 0) x).2.1) ∧ (¬ (ngC (xB t) t.2 120 0 (sk (xB t) 0) x).1 = 0 → u.2.2 = (ngC (xB t) t.2 120 0 (sk (xB t) 0) x).2.2 ∧ Wc u.2.2) ∧ 0 ≤ (ngC (xB t) t.2 120 0 (sk (xB t) 0) x).1 ∧ (ngC (xB t) t.2 120 0 (sk (xB t) 0) x).1 ≤ 120) := by
  refine Ci.mk (cc := cX2_readAll) (maxL := 4) (rt := .int) (by decide) rfl (Nat.le_of_ble_eq_true rfl) rfl ?_
  intro p_ e_ s_ m_ b_ me_ c_ A_ G hnm
  have hn := ht.1
  have hZ0 := ngC_0 (B := xB t) (n := t.2) (x := x)
  generalize ngC (xB t) t.2 120 0 (sk (xB t) 0) x = Z at hZ0 ⊢
  have k_X2 : ∀ w ∈ u_ws RX2 TX2 3, w ∈ wsX2_readAll := fun _ h => List.mem_cons_of_mem _ (List.mem_append_left _ (List.mem_append_left _ (List.mem_append_left _ (List.mem_append_right _ h))))
  have q_1 : Cond.fieldLink RX2 12 "SupperLight$NightReader" "draft" "LSupperLight$World;" ∈ wsX2_readAll := List.mem_of_getElem? (i := 1) rfl
  have q_2 : Cond.fieldLink RX2 21 "SupperLight$NightReader" "text" "LSupperLight$Tokens;" ∈ wsX2_readAll := List.mem_of_getElem? (i := 2) rfl
  have q_3 : Cond.fieldLink RX2 25 "SupperLight$NightReader" "next" "I" ∈ wsX2_readAll := List.mem_of_getElem? (i := 3) rfl
  have k_X5 : ∀ w ∈ u_ws RX5 TX5 4, w ∈ wsX2_readAll := fun _ h => List.mem_cons_of_mem _ (List.mem_append_left _ (List.mem_append_left _ (List.mem_append_right _ h)))
  have q_5 : Cond.fieldLink RX2 41 "SupperLight$Tokens" "codes" "[I" ∈ wsX2_readAll := List.mem_of_getElem? (i := 4) rfl
  refine v_aload_n (j := 0) (x := a 38) G dX2_readAll_0 rfl rfl ?_
  refine v_get (q0 := 0) (k := 0) (v := .ref (a 60)) G k_X2 rfl rfl (by decide) q_1 rfl rfl dX2_readAll_1 ?_
  refine v_aload_n (j := 2) (x := a 1) G dX2_readAll_4 rfl rfl ?_
  refine v_cvG (w2 := (fun _ => (gN  a nq ++ gK cI (fun i => a (39 + i)) tk ++ gW cI (fun i => a (60 + i)) x ++ gT cB (fun i => a (36 + i)) t ++ gW cI (fun i => a (1 + i)) x))) G [gN  a nq, gK cI (fun i => a (39 + i)) tk, gW cI (fun i => a (60 + i)) o, gT cB (fun i => a (36 + i)) t, gW cI (fun i => a (1 + i)) x] [gW cI (fun i => a (60 + i)) o, gW cI (fun i => a (1 + i)) x] [gN  a nq, gK cI (fun i => a (39 + i)) tk, gT cB (fun i => a (36 + i)) t] (fun _ => [gN  a nq, gK cI (fun i => a (39 + i)) tk, gW cI (fun i => a (60 + i)) x, gT cB (fun i => a (36 + i)) t, gW cI (fun i => a (1 + i)) x]) (fun _ => [gW cI (fun i => a (60 + i)) x, gW cI (fun i => a (1 + i)) x]) [2, 3] (rn_V (As := [.ref (a 1)]) (rest := []) (q0 := 0) G (c_X7_becomeAs (x := o) (o := x) (b := fun i => a (60 + i)) (c := fun i => a (1 + i)) ) gX2_readAll_X7_becomeAs rfl hdX7_becomeAs ⟨rfl, rfl, Nat.le_of_ble_eq_true rfl, Nat.le_of_ble_eq_true rfl⟩ rfl rfl (Nat.le_of_ble_eq_true rfl) ⟨Nat.zero_le _, Nat.zero_le _⟩ rfl rfl dX2_readAll_5) rfl rfl rfl (fun _ => rfl) (fun _ => rfl) (fun _ => rfl) (fun u_3 e_2 => ?_)
  refine v_world (ws' := (gN  a nq ++ gK cI (fun i => a (39 + i)) tk ++ gW cI (fun i => a (60 + i)) x ++ gT cB (fun i => a (36 + i)) t ++ gW cI (fun i => a (1 + i)) x)) rfl ?_
  refine v_aload_n (j := 0) (x := a 38) G dX2_readAll_8 rfl rfl ?_
  refine v_get (q0 := 0) (k := 1) (v := .ref (a 39)) G k_X2 rfl rfl (by decide) q_2 rfl rfl dX2_readAll_9 ?_
  refine v_aload_n (j := 1) (x := a 36) G dX2_readAll_12 rfl rfl ?_
  refine v_cvG (w2 := (fun (tk2 : (Int → Int) × (Int → Int) × (Int → Int) × Int) => (gN  a nq ++ gK cI (fun i => a (39 + i)) tk2 ++ gW cI (fun i => a (60 + i)) x ++ gT cB (fun i => a (36 + i)) t ++ gW cI (fun i => a (1 + i)) x))) G [gN  a nq, gK cI (fun i => a (39 + i)) tk, gW cI (fun i => a (60 + i)) x, gT cB (fun i => a (36 + i)) t, gW cI (fun i => a (1 + i)) x] [gK cI (fun i => a (39 + i)) tk, gT cB (fun i => a (36 + i)) t] [gN  a nq, gW cI (fun i => a (60 + i)) x, gW cI (fun i => a (1 + i)) x] (fun (tk2 : (Int → Int) × (Int → Int) × (Int → Int) × Int) => [gN  a nq, gK cI (fun i => a (39 + i)) tk2, gW cI (fun i => a (60 + i)) x, gT cB (fun i => a (36 + i)) t, gW cI (fun i => a (1 + i)) x]) (fun (tk2 : (Int → Int) × (Int → Int) × (Int → Int) × Int) => [gK cI (fun i => a (39 + i)) tk2, gT cB (fun i => a (36 + i)) t]) [1, 2] (rn_V (As := [.ref (a 36)]) (rest := []) (q0 := 0) G (c_X5_cutOut (tk := tk) (t := t) (b := fun i => a (39 + i)) (c := fun i => a (36 + i)) (ht := ht)) gX2_readAll_X5_cutOut rfl hdX5_cutOut ⟨rfl, rfl, Nat.le_of_ble_eq_true rfl, Nat.le_of_ble_eq_true rfl⟩ rfl rfl (Nat.le_of_ble_eq_true rfl) ⟨Nat.zero_le _, Nat.zero_le _⟩ rfl rfl dX2_readAll_13) rfl rfl rfl (fun _ => rfl) (fun _ => rfl) (fun _ => rfl) (fun u_7 e_6 => ?_)
  obtain ⟨tk2_4, rfl⟩ : ∃ z, z = u_7 := ⟨_, rfl⟩
  have e_6 : TkO (xB t) t.2 tk2_4 := e_6
  refine v_world (ws' := (gN  a nq ++ gK cI (fun i => a (39 + i)) tk2_4 ++ gW cI (fun i => a (60 + i)) x ++ gT cB (fun i => a (36 + i)) t ++ gW cI (fun i => a (1 + i)) x)) rfl ?_
  obtain ⟨K, hk⟩ := TkO_k ht e_6
  refine v_aload_n (j := 0) (x := a 38) G dX2_readAll_16 rfl rfl ?_
  refine v_iconst G dX2_readAll_17 ?_
  refine v_put (q0 := 0) (k := 2) (ty := .int) (ws' := (gN  a 0 ++ gK cI (fun i => a (39 + i)) tk2_4 ++ gW cI (fun i => a (60 + i)) x ++ gT cB (fun i => a (36 + i)) t ++ gW cI (fun i => a (1 + i)) x)) G k_X2 tyX2 tyX2_ok nmX2 rfl rfl (by decide) q_3 rfl rfl rfl rfl rfl (Nat.le_of_ble_eq_true rfl) rfl dX2_readAll_18 ?_
  refine v_iconst G dX2_readAll_21 ?_
  refine v_istore_n (lv' := [(3, .int (jI 1)), (0, .ref (a 38)), (1, .ref (a 36)), (2, .ref (a 1))]) G dX2_readAll_22 rfl (by decide) rfl ?_
  refine v_locs (lv' := [(3, .int (jI 1)), (0, .ref (a 38)), (1, .ref (a 36)), (2, .ref (a 1))]) [0, 1, 2, 3] rfl ?_
  refine v_loop3 (fun (m : Nat) (i : Nat) (y : WT) => [(3, .int (jI ((m + 1 : Nat) : Int))), (0, .ref (a 38)), (1, .ref (a 36)), (2, .ref (a 1))]) (fun (m : Nat) (i : Nat) (y : WT) => (gN  a (i : Int) ++ gK cI (fun i => a (39 + i)) tk2_4 ++ gW cI (fun i => a (60 + i)) y ++ gT cB (fun i => a (36 + i)) t ++ gW cI (fun i => a (1 + i)) x)) (fun (m : Nat) (i : Nat) (y : WT) => m ≤ 120 ∧ i ≤ K ∧ Wc y ∧ ngC (xB t) t.2 (120 - m) (m : Int) (St (xB t) i) y = Z) (fun (m : Nat) (i : Nat) (y : WT) => 120 - m) 0 0 x ⟨by omega, Nat.zero_le _, hw, hZ0⟩ rfl rfl ?_
  intro m i y I_8 ih_9
  obtain ⟨hm, hi, hwy, hz⟩ := id I_8
  refine v_iload_n (j := 0) (x := jI ((m + 1 : Nat) : Int)) G dX2_readAll_23 rfl rfl ?_
  refine v_bipush G dX2_readAll_24 (by decide) ?_
  refine v_icmp_gt (a := ((m + 1 : Nat) : Int)) (b := 120) (tgt := 74) G dX2_readAll_26 (by decide) (by omega) (fun c_10 => ?_) (fun c_10 => ?_)
  · skip
    refine v_iconst G dX2_readAll_74 ?_
    exact v_iret G (i, tk2_4, y) (by have hm2 : m = 120 := (by omega); subst hm2; have hz2 : Z = (0, St (xB t) i, y) := hz.symm.trans ngC_z; rw [hz2]; exact ⟨rfl, ⟨K, hk, hi⟩, fun _ => rfl, fun z => absurd rfl z, by show (0 : Int) ≤ 0; omega, by show (0 : Int) ≤ 120; omega⟩) rfl dX2_readAll_75
  · skip
    refine v_aload_n (j := 1) (x := a 38) G dX2_readAll_29 rfl rfl ?_
    refine v_ciG (w2 := (fun (u : Nat × WT) => (gN  a (u.1 : Int) ++ gK cI (fun i => a (39 + i)) tk2_4 ++ gW cI (fun i => a (60 + i)) u.2 ++ gT cB (fun i => a (36 + i)) t ++ gW cI (fun i => a (1 + i)) x))) G [gN  a (i : Int), gK cI (fun i => a (39 + i)) tk2_4, gW cI (fun i => a (60 + i)) y, gT cB (fun i => a (36 + i)) t, gW cI (fun i => a (1 + i)) x] [gN  a (i : Int), gK cI (fun i => a (39 + i)) tk2_4, gW cI (fun i => a (60 + i)) y] [gT cB (fun i => a (36 + i)) t, gW cI (fun i => a (1 + i)) x] (fun (u : Nat × WT) => [gN  a (u.1 : Int), gK cI (fun i => a (39 + i)) tk2_4, gW cI (fun i => a (60 + i)) u.2, gT cB (fun i => a (36 + i)) t, gW cI (fun i => a (1 + i)) x]) (fun (u : Nat × WT) => [gN  a (u.1 : Int), gK cI (fun i => a (39 + i)) tk2_4, gW cI (fun i => a (60 + i)) u.2]) [0, 0, 0] (rn_V (As := []) (rest := []) (q0 := 0) G (c_X2_takeItem (tk := tk2_4) (x := y) (a := a) (B := xB t) (n := t.2) (K := K) (i := i) (hB := (xB_k ht)) (hk := hk) (hi := hi) (hw := hwy)) gX2_readAll_X2_takeItem rfl hdX2_takeItem ⟨rfl, rfl, Nat.le_of_ble_eq_true rfl, Nat.le_of_ble_eq_true rfl⟩ rfl rfl (Nat.le_of_ble_eq_true rfl) ⟨Nat.zero_le _, Nat.zero_le _⟩ rfl rfl dX2_readAll_30) rfl rfl rfl (fun _ => rfl) (fun _ => rfl) (fun _ => rfl) (fun r_13 u_15 e_14 => ?_)
    obtain ⟨i2_11, y2_12⟩ := u_15
    have e_14 : r_13 = jI (b2 ((itm (xB t) t.2 y.2.2.1 y.2.2.2.2.2.2.2.2.1 (St (xB t) i)).1 = 1)) ∧ i2_11 ≤ K ∧ St (xB t) i2_11 = (itm (xB t) t.2 y.2.2.1 y.2.2.2.2.2.2.2.2.1 (St (xB t) i)).2.1 ∧ ((itm (xB t) t.2 y.2.2.1 y.2.2.2.2.2.2.2.2.1 (St (xB t) i)).1 = 1 → y2_12 = apC y (itm (xB t) t.2 y.2.2.1 y.2.2.2.2.2.2.2.2.1 (St (xB t) i)).2.2) := e_14
    obtain ⟨e_140, e_14f⟩ := e_14
    subst e_140
    refine v_world (ws' := (gN  a (i2_11 : Int) ++ gK cI (fun i => a (39 + i)) tk2_4 ++ gW cI (fun i => a (60 + i)) y2_12 ++ gT cB (fun i => a (36 + i)) t ++ gW cI (fun i => a (1 + i)) x)) rfl ?_
    refine v_ifb_ne (P := (itm (xB t) t.2 y.2.2.1 y.2.2.2.2.2.2.2.2.1 (St (xB t) i)).1 = 1) (tgt := 38) G dX2_readAll_33 (by decide) (fun c_16 => ?_) (fun c_16 => ?_)
    · skip
      have hit := (itm_k (nb := y.2.2.1) (nt := y.2.2.2.2.2.2.2.2.1) (xB_k ht) (hk.q (xB_k ht) hi) hwy.many.2).2.2 (by assumption)
      refine v_aload_n (j := 1) (x := a 38) G dX2_readAll_38 rfl rfl ?_
      refine v_get (q0 := 0) (k := 1) (v := .ref (a 39)) G k_X2 rfl rfl (by decide) q_2 rfl rfl dX2_readAll_39 ?_
      refine v_get (q0 := 1) (k := 0) (v := .ref (a 40)) G k_X5 rfl rfl (by decide) q_5 rfl rfl dX2_readAll_42 ?_
      refine v_aload_n (j := 1) (x := a 38) G dX2_readAll_45 rfl rfl ?_
      refine v_get (q0 := 0) (k := 2) (v := .int (jI (i2_11 : Int))) G k_X2 rfl rfl (by decide) q_3 rfl rfl dX2_readAll_46 ?_
      refine v_iald (q0 := 2) (t0 := 0) (g := tk2_4.1) (z := (i2_11 : Int)) G rfl rfl (by have hK := hk.1; have hI2 := e_14f.1; omega) dX2_readAll_49 ?_
      refine v_topj (x := tk2_4.1 (i2_11 : Int)) (y := cd (xB t) t.2 (St (xB t) i2_11)) (hk.2.2.2 i2_11 e_14f.1).1 ?_
      have hcr2 := cd_r (xB t) t.2 (St (xB t) i2_11)
      have hile := e_14f.1
      refine v_bipush G dX2_readAll_50 (by decide) ?_
      refine v_icmp_ne (a := cd (xB t) t.2 (St (xB t) i2_11)) (b := 17) (tgt := 57) G dX2_readAll_52 (by decide) (by omega) (fun c_17 => ?_) (fun c_17 => ?_)
      · skip
        refine v_aload_n (j := 1) (x := a 38) G dX2_readAll_57 rfl rfl ?_
        refine v_bipush G dX2_readAll_58 (by decide) ?_
        refine v_ciG (w2 := (fun (i2 : Nat) => (gN  a (i2 : Int) ++ gK cI (fun i => a (39 + i)) tk2_4 ++ gW cI (fun i => a (60 + i)) y2_12 ++ gT cB (fun i => a (36 + i)) t ++ gW cI (fun i => a (1 + i)) x))) G [gN  a (i2_11 : Int), gK cI (fun i => a (39 + i)) tk2_4, gW cI (fun i => a (60 + i)) y2_12, gT cB (fun i => a (36 + i)) t, gW cI (fun i => a (1 + i)) x] [gN  a (i2_11 : Int), gK cI (fun i => a (39 + i)) tk2_4] [gW cI (fun i => a (60 + i)) y2_12, gT cB (fun i => a (36 + i)) t, gW cI (fun i => a (1 + i)) x] (fun (i2 : Nat) => [gN  a (i2 : Int), gK cI (fun i => a (39 + i)) tk2_4, gW cI (fun i => a (60 + i)) y2_12, gT cB (fun i => a (36 + i)) t, gW cI (fun i => a (1 + i)) x]) (fun (i2 : Nat) => [gN  a (i2 : Int), gK cI (fun i => a (39 + i)) tk2_4]) [0, 0] (rn_V (As := [.int (jI 16)]) (rest := []) (q0 := 0) G (c_X2_take (v := 16) (tk := tk2_4) (a := a) (B := xB t) (n := t.2) (K := K) (i := i2_11) (hB := (xB_k ht)) (hk := hk) (hi := e_14f.1) (hv := (by omega))) gX2_readAll_X2_take rfl hdX2_take ⟨rfl, rfl, Nat.le_of_ble_eq_true rfl, Nat.le_of_ble_eq_true rfl⟩ rfl rfl (Nat.le_of_ble_eq_true rfl) ⟨Nat.zero_le _, Nat.zero_le _⟩ rfl rfl dX2_readAll_60) rfl rfl rfl (fun _ => rfl) (fun _ => rfl) (fun _ => rfl) (fun r_19 u_21 e_20 => ?_)
        obtain ⟨i2_18, rfl⟩ : ∃ z, z = u_21 := ⟨_, rfl⟩
        have e_20 : r_19 = jI (b2 (cd (xB t) t.2 (St (xB t) i2_11) = 16)) ∧ i2_18 ≤ K ∧ (cd (xB t) t.2 (St (xB t) i2_11) = 16 → St (xB t) i2_18 = nx (xB t) (St (xB t) i2_11)) ∧ (¬ cd (xB t) t.2 (St (xB t) i2_11) = 16 → St (xB t) i2_18 = (St (xB t) i2_11)) := e_20
        obtain ⟨e_200, e_20f⟩ := e_20
        subst e_200
        refine v_world (ws' := (gN  a (i2_18 : Int) ++ gK cI (fun i => a (39 + i)) tk2_4 ++ gW cI (fun i => a (60 + i)) y2_12 ++ gT cB (fun i => a (36 + i)) t ++ gW cI (fun i => a (1 + i)) x)) rfl ?_
        refine v_ifb_ne (P := cd (xB t) t.2 (St (xB t) i2_11) = 16) (tgt := 68) G dX2_readAll_63 (by decide) (fun c_22 => ?_) (fun c_22 => ?_)
        · skip
          refine v_iinc (k := 0) (z := ((m + 1 : Nat) : Int)) (z' := ((m + 1 + 1 : Nat) : Int)) (lv' := [(3, .int (jI ((m + 1 + 1 : Nat) : Int))), (0, .ref (a 38)), (1, .ref (a 36)), (2, .ref (a 1))]) G dX2_readAll_68 rfl (by omega) (by decide) rfl ?_
          refine v_goto (tgt := 23) G dX2_readAll_71 (by decide) ?_
          have hap := e_14f.2.2 (by assumption)
          exact ih_9 (m + 1) i2_18 y2_12 ⟨by omega, e_20f.1, by rw [hap]; exact hwy.ap hit.2.1 hit.2.2.1 hit.2.2.2, by rw [hap, e_20f.2.1 (by assumption), e_14f.2.1]; exact (ngC_s (by omega) (by assumption) (by rw [← e_14f.2.1]; assumption)).symm.trans hz⟩ (by omega)
        · skip
          refine v_iconst G dX2_readAll_66 ?_
          exact v_iret G (i2_18, tk2_4, y2_12) (by have hz2 : Z = (0, (itm (xB t) t.2 y.2.2.1 y.2.2.2.2.2.2.2.2.1 (St (xB t) i)).2.1, y) := hz.symm.trans (ngC_x (by omega) (by assumption) (by rw [← e_14f.2.1]; assumption) (by rw [← e_14f.2.1]; assumption)); rw [hz2]; exact ⟨rfl, ⟨K, hk, e_20f.1⟩, fun _ => (e_20f.2.2 (by assumption)).trans e_14f.2.1, fun z => absurd rfl z, by show (0 : Int) ≤ 0; omega, by show (0 : Int) ≤ 120; omega⟩) rfl dX2_readAll_67
      · skip
        refine v_iload_n (j := 0) (x := jI ((m + 1 : Nat) : Int)) G dX2_readAll_55 rfl rfl ?_
        exact v_iret G (i2_11, tk2_4, y2_12) (by have hz2 : Z = ((m : Int) + 1, (itm (xB t) t.2 y.2.2.1 y.2.2.2.2.2.2.2.2.1 (St (xB t) i)).2.1, apC y (itm (xB t) t.2 y.2.2.1 y.2.2.2.2.2.2.2.2.1 (St (xB t) i)).2.2) := hz.symm.trans (ngC_e (by omega) (by assumption) (by rw [← e_14f.2.1]; assumption)); rw [hz2]; exact ⟨rfl, ⟨K, hk, e_14f.1⟩, fun z => absurd z (by show ¬ (m : Int) + 1 = 0; omega), fun _ => ⟨e_14f.2.2 (by assumption), by rw [e_14f.2.2 (by assumption)]; exact hwy.ap hit.2.1 hit.2.2.1 hit.2.2.2⟩, by show 0 ≤ (m : Int) + 1; omega, by show (m : Int) + 1 ≤ 120; omega⟩) rfl dX2_readAll_56
    · skip
      refine v_iconst G dX2_readAll_36 ?_
      exact v_iret G (i2_11, tk2_4, y2_12) (by have hz2 : Z = (0, (itm (xB t) t.2 y.2.2.1 y.2.2.2.2.2.2.2.2.1 (St (xB t) i)).2.1, y) := hz.symm.trans (ngC_f (by omega) (by assumption)); rw [hz2]; exact ⟨rfl, ⟨K, hk, e_14f.1⟩, fun _ => e_14f.2.1, fun z => absurd rfl z, by show (0 : Int) ≤ 0; omega, by show (0 : Int) ≤ 120; omega⟩) rfl dX2_readAll_37

set_option maxHeartbeats 4000000 in
set_option maxRecDepth 100000 in
theorem c_X8_night (nq : Int) (hw : Wc wd) (ht : Tf ta) : Ci l yX8_night wsX8_night { frames := 8, cells := 0, slots := 0, locals := 178 } D (jT cI cL cB cS) [.ref (a 0)] (gS  a ks ++ gW cI (fun i => a (1 + i)) wd ++ gW cI (fun i => a (60 + i)) dw ++ gT cB (fun i => a (36 + i)) ta ++ gN  a nq ++ gK cI (fun i => a (39 + i)) tk) (S := Nat × WT × WT × ((Int → Int) × (Int → Int) × (Int → Int) × Int)) (fun (u : Nat × WT × WT × ((Int → Int) × (Int → Int) × (Int → Int) × Int)) => (gS  a ks ++ gW cI (fun i => a (1 + i)) u.2.1 ++ gW cI (fun i => a (60 + i)) u.2.2.1 ++ gT cB (fun i => a (36 + i)) (ta.1, 0) ++ gN  a (u.1 : Int) ++ gK cI (fun i => a (39 + i)) u.2.2.2)) (fun r (u : Nat × WT × WT × ((Int → Int) × (Int → Int) × (Int → Int) × Int)) => (0 < (ngC (xB ta) ta.2 120 0 (sk (xB ta) 0) wd).1 ∧ r = jI (ngC (xB ta) ta.2 120 0 (sk (xB ta) 0) wd).1 ∧ u.2.1 = (ngC (xB ta) ta.2 120 0 (sk (xB ta) 0) wd).2.2 ∧ Wc u.2.1) ∨ ((ngC (xB ta) ta.2 120 0 (sk (xB ta) 0) wd).1 = 0 ∧ r = jI (-1 - (ngC (xB ta) ta.2 120 0 (sk (xB ta) 0) wd).2.1) ∧ u.2.1 = wd)) := by
  refine Ci.mk (cc := cX8_night) (maxL := 2) (rt := .int) (by decide) rfl (Nat.le_of_ble_eq_true rfl) rfl ?_
  intro p_ e_ s_ m_ b_ me_ c_ A_ G hnm
  have hn := ht.1
  have k_X8 : ∀ w ∈ u_ws RX8 TX8 12, w ∈ wsX8_night := fun _ h => List.mem_cons_of_mem _ (List.mem_append_left _ (List.mem_append_left _ (List.mem_append_left _ (List.mem_append_left _ (List.mem_append_right _ h)))))
  have q_1 : Cond.fieldLink RX8 43 "SupperLight" "nightReader" "LSupperLight$NightReader;" ∈ wsX8_night := List.mem_of_getElem? (i := 1) rfl
  have q_2 : Cond.fieldLink RX8 36 "SupperLight" "tape" "LSupperLight$Tape;" ∈ wsX8_night := List.mem_of_getElem? (i := 2) rfl
  have q_3 : Cond.fieldLink RX8 10 "SupperLight" "world" "LSupperLight$World;" ∈ wsX8_night := List.mem_of_getElem? (i := 3) rfl
  have k_X4 : ∀ w ∈ u_ws RX4 TX4 2, w ∈ wsX8_night := fun _ h => List.mem_cons_of_mem _ (List.mem_append_left _ (List.mem_append_left _ (List.mem_append_left _ (List.mem_append_right _ h))))
  have q_5 : Cond.fieldLink RX8 248 "SupperLight$Tape" "size" "I" ∈ wsX8_night := List.mem_of_getElem? (i := 4) rfl
  have k_X2 : ∀ w ∈ u_ws RX2 TX2 3, w ∈ wsX8_night := fun _ h => List.mem_cons_of_mem _ (List.mem_append_left _ (List.mem_append_left _ (List.mem_append_right _ h)))
  have q_7 : Cond.fieldLink RX8 258 "SupperLight$NightReader" "draft" "LSupperLight$World;" ∈ wsX8_night := List.mem_of_getElem? (i := 5) rfl
  refine v_aload_n (j := 0) (x := a 0) G dX8_night_0 rfl rfl ?_
  refine v_get (q0 := 0) (k := 6) (v := .ref (a 38)) G k_X8 rfl rfl (by decide) q_1 rfl rfl dX8_night_1 ?_
  refine v_aload_n (j := 0) (x := a 0) G dX8_night_4 rfl rfl ?_
  refine v_get (q0 := 0) (k := 5) (v := .ref (a 36)) G k_X8 rfl rfl (by decide) q_2 rfl rfl dX8_night_5 ?_
  refine v_aload_n (j := 0) (x := a 0) G dX8_night_8 rfl rfl ?_
  refine v_get (q0 := 0) (k := 0) (v := .ref (a 1)) G k_X8 rfl rfl (by decide) q_3 rfl rfl dX8_night_9 ?_
  refine v_ciG (w2 := (fun (u : Nat × ((Int → Int) × (Int → Int) × (Int → Int) × Int) × WT) => (gS  a ks ++ gW cI (fun i => a (1 + i)) wd ++ gW cI (fun i => a (60 + i)) u.2.2 ++ gT cB (fun i => a (36 + i)) ta ++ gN  a (u.1 : Int) ++ gK cI (fun i => a (39 + i)) u.2.1))) G [gS  a ks, gW cI (fun i => a (1 + i)) wd, gW cI (fun i => a (60 + i)) dw, gT cB (fun i => a (36 + i)) ta, gN  a nq, gK cI (fun i => a (39 + i)) tk] [gN  a nq, gK cI (fun i => a (39 + i)) tk, gW cI (fun i => a (60 + i)) dw, gT cB (fun i => a (36 + i)) ta, gW cI (fun i => a (1 + i)) wd] [gS  a ks] (fun (u : Nat × ((Int → Int) × (Int → Int) × (Int → Int) × Int) × WT) => [gS  a ks, gW cI (fun i => a (1 + i)) wd, gW cI (fun i => a (60 + i)) u.2.2, gT cB (fun i => a (36 + i)) ta, gN  a (u.1 : Int), gK cI (fun i => a (39 + i)) u.2.1]) (fun (u : Nat × ((Int → Int) × (Int → Int) × (Int → Int) × Int) × WT) => [gN  a (u.1 : Int), gK cI (fun i => a (39 + i)) u.2.1, gW cI (fun i => a (60 + i)) u.2.2, gT cB (fun i => a (36 + i)) ta, gW cI (fun i => a (1 + i)) wd]) [4, 4, 2, 2, 1] (rn_V (As := [.ref (a 36), .ref (a 1)]) (rest := []) (q0 := 0) G (c_X2_readAll (nq := nq) (tk := tk) (o := dw) (t := ta) (x := wd) (a := a) (ht := ht) (hw := hw)) gX8_night_X2_readAll rfl hdX2_readAll ⟨rfl, rfl, Nat.le_of_ble_eq_true rfl, Nat.le_of_ble_eq_true rfl⟩ rfl rfl (Nat.le_of_ble_eq_true rfl) ⟨Nat.zero_le _, Nat.zero_le _⟩ rfl rfl dX8_night_12) rfl rfl rfl (fun _ => rfl) (fun _ => rfl) (fun _ => rfl) (fun r_4 u_6 e_5 => ?_)
  obtain ⟨i2_1, tk2_2, y2_3⟩ := u_6
  have e_5 : r_4 = jI ((ngC (xB ta) ta.2 120 0 (sk (xB ta) 0) wd).1) ∧ TkE (xB ta) ta.2 tk2_2 i2_1 ∧ ((ngC (xB ta) ta.2 120 0 (sk (xB ta) 0) wd).1 = 0 → St (xB ta) i2_1 = (ngC (xB ta) ta.2 120 0 (sk (xB ta) 0) wd).2.1) ∧ (¬ (ngC (xB ta) ta.2 120 0 (sk (xB ta) 0) wd).1 = 0 → y2_3 = (ngC (xB ta) ta.2 120 0 (sk (xB ta) 0) wd).2.2 ∧ Wc y2_3) ∧ 0 ≤ (ngC (xB ta) ta.2 120 0 (sk (xB ta) 0) wd).1 ∧ (ngC (xB ta) ta.2 120 0 (sk (xB ta) 0) wd).1 ≤ 120 := e_5
  obtain ⟨e_50, e_5f⟩ := e_5
  subst e_50
  refine v_world (ws' := (gS  a ks ++ gW cI (fun i => a (1 + i)) wd ++ gW cI (fun i => a (60 + i)) y2_3 ++ gT cB (fun i => a (36 + i)) ta ++ gN  a (i2_1 : Int) ++ gK cI (fun i => a (39 + i)) tk2_2)) rfl ?_
  obtain ⟨K, hk, hi⟩ := e_5f.1
  refine v_istore_n (lv' := [(1, .int (jI ((ngC (xB ta) ta.2 120 0 (sk (xB ta) 0) wd).1))), (0, .ref (a 0))]) G dX8_night_15 rfl (by decide) rfl ?_
  refine v_aload_n (j := 1) (x := a 0) G dX8_night_16 rfl rfl ?_
  refine v_get (q0 := 0) (k := 5) (v := .ref (a 36)) G k_X8 rfl rfl (by decide) q_2 rfl rfl dX8_night_17 ?_
  refine v_iconst G dX8_night_20 ?_
  refine v_put (q0 := 21) (k := 1) (ty := .int) (ws' := (gS  a ks ++ gW cI (fun i => a (1 + i)) wd ++ gW cI (fun i => a (60 + i)) y2_3 ++ gT cB (fun i => a (36 + i)) (ta.1, 0) ++ gN  a (i2_1 : Int) ++ gK cI (fun i => a (39 + i)) tk2_2)) G k_X4 tyX4 tyX4_ok nmX4 rfl rfl (by decide) q_5 rfl rfl rfl rfl rfl (Nat.le_of_ble_eq_true rfl) rfl dX8_night_21 ?_
  refine v_iload_n (j := 0) (x := jI ((ngC (xB ta) ta.2 120 0 (sk (xB ta) 0) wd).1)) G dX8_night_24 rfl rfl ?_
  refine v_if_le (a := (ngC (xB ta) ta.2 120 0 (sk (xB ta) 0) wd).1) (tgt := 44) G dX8_night_25 (by decide) (by omega) (fun c_7 => ?_) (fun c_7 => ?_)
  · skip
    refine v_iconst G dX8_night_44 ?_
    refine v_aload_n (j := 1) (x := a 0) G dX8_night_45 rfl rfl ?_
    refine v_get (q0 := 0) (k := 6) (v := .ref (a 38)) G k_X8 rfl rfl (by decide) q_1 rfl rfl dX8_night_46 ?_
    refine v_ciG (w2 := (fun _ => (gS  a ks ++ gW cI (fun i => a (1 + i)) wd ++ gW cI (fun i => a (60 + i)) y2_3 ++ gT cB (fun i => a (36 + i)) (ta.1, 0) ++ gN  a (i2_1 : Int) ++ gK cI (fun i => a (39 + i)) tk2_2))) G [gS  a ks, gW cI (fun i => a (1 + i)) wd, gW cI (fun i => a (60 + i)) y2_3, gT cB (fun i => a (36 + i)) (ta.1, 0), gN  a (i2_1 : Int), gK cI (fun i => a (39 + i)) tk2_2] [gN  a (i2_1 : Int), gK cI (fun i => a (39 + i)) tk2_2] [gS  a ks, gW cI (fun i => a (1 + i)) wd, gW cI (fun i => a (60 + i)) y2_3, gT cB (fun i => a (36 + i)) (ta.1, 0)] (fun _ => [gS  a ks, gW cI (fun i => a (1 + i)) wd, gW cI (fun i => a (60 + i)) y2_3, gT cB (fun i => a (36 + i)) (ta.1, 0), gN  a (i2_1 : Int), gK cI (fun i => a (39 + i)) tk2_2]) (fun _ => [gN  a (i2_1 : Int), gK cI (fun i => a (39 + i)) tk2_2]) [4, 4] (rn_V (As := []) (rest := [.int (jI (-1))]) (q0 := 0) G (c_X2_faultPlace (tk := tk2_2) (a := a) (B := xB ta) (n := ta.2) (K := K) (i := i2_1) (hB := (xB_k ht)) (hk := hk) (hi := hi)) gX8_night_X2_faultPlace rfl hdX2_faultPlace ⟨rfl, rfl, Nat.le_of_ble_eq_true rfl, Nat.le_of_ble_eq_true rfl⟩ rfl rfl (Nat.le_of_ble_eq_true rfl) ⟨Nat.zero_le _, Nat.zero_le _⟩ rfl rfl dX8_night_49) rfl rfl rfl (fun _ => rfl) (fun _ => rfl) (fun _ => rfl) (fun r_8 u_10 e_9 => ?_)
    have e_9 : r_8 = jI (St (xB ta) i2_1) := e_9
    subst e_9
    refine v_world (ws' := (gS  a ks ++ gW cI (fun i => a (1 + i)) wd ++ gW cI (fun i => a (60 + i)) y2_3 ++ gT cB (fun i => a (36 + i)) (ta.1, 0) ++ gN  a (i2_1 : Int) ++ gK cI (fun i => a (39 + i)) tk2_2)) rfl ?_
    refine v_isub (z := (-1) - (St (xB ta) i2_1)) G dX8_night_52 rfl ?_
    exact v_iret G (i2_1, wd, y2_3, tk2_2) (Or.inr ⟨by omega, congrArg jI (by rw [e_5f.2.1 (by omega)]), rfl⟩) rfl dX8_night_53
  · skip
    refine v_aload_n (j := 1) (x := a 0) G dX8_night_28 rfl rfl ?_
    refine v_get (q0 := 0) (k := 0) (v := .ref (a 1)) G k_X8 rfl rfl (by decide) q_3 rfl rfl dX8_night_29 ?_
    refine v_aload_n (j := 1) (x := a 0) G dX8_night_32 rfl rfl ?_
    refine v_get (q0 := 0) (k := 6) (v := .ref (a 38)) G k_X8 rfl rfl (by decide) q_1 rfl rfl dX8_night_33 ?_
    refine v_get (q0 := 23) (k := 0) (v := .ref (a 60)) G k_X2 rfl rfl (by decide) q_7 rfl rfl dX8_night_36 ?_
    refine v_cvG (w2 := (fun _ => (gS  a ks ++ gW cI (fun i => a (1 + i)) y2_3 ++ gW cI (fun i => a (60 + i)) y2_3 ++ gT cB (fun i => a (36 + i)) (ta.1, 0) ++ gN  a (i2_1 : Int) ++ gK cI (fun i => a (39 + i)) tk2_2))) G [gS  a ks, gW cI (fun i => a (1 + i)) wd, gW cI (fun i => a (60 + i)) y2_3, gT cB (fun i => a (36 + i)) (ta.1, 0), gN  a (i2_1 : Int), gK cI (fun i => a (39 + i)) tk2_2] [gW cI (fun i => a (1 + i)) wd, gW cI (fun i => a (60 + i)) y2_3] [gS  a ks, gT cB (fun i => a (36 + i)) (ta.1, 0), gN  a (i2_1 : Int), gK cI (fun i => a (39 + i)) tk2_2] (fun _ => [gS  a ks, gW cI (fun i => a (1 + i)) y2_3, gW cI (fun i => a (60 + i)) y2_3, gT cB (fun i => a (36 + i)) (ta.1, 0), gN  a (i2_1 : Int), gK cI (fun i => a (39 + i)) tk2_2]) (fun _ => [gW cI (fun i => a (1 + i)) y2_3, gW cI (fun i => a (60 + i)) y2_3]) [1, 1] (rn_V (As := [.ref (a 60)]) (rest := []) (q0 := 0) G (c_X7_becomeAs (x := wd) (o := y2_3) (b := fun i => a (1 + i)) (c := fun i => a (60 + i)) ) gX8_night_X7_becomeAs rfl hdX7_becomeAs ⟨rfl, rfl, Nat.le_of_ble_eq_true rfl, Nat.le_of_ble_eq_true rfl⟩ rfl rfl (Nat.le_of_ble_eq_true rfl) ⟨Nat.zero_le _, Nat.zero_le _⟩ rfl rfl dX8_night_39) rfl rfl rfl (fun _ => rfl) (fun _ => rfl) (fun _ => rfl) (fun u_13 e_12 => ?_)
    refine v_world (ws' := (gS  a ks ++ gW cI (fun i => a (1 + i)) y2_3 ++ gW cI (fun i => a (60 + i)) y2_3 ++ gT cB (fun i => a (36 + i)) (ta.1, 0) ++ gN  a (i2_1 : Int) ++ gK cI (fun i => a (39 + i)) tk2_2)) rfl ?_
    refine v_iload_n (j := 0) (x := jI ((ngC (xB ta) ta.2 120 0 (sk (xB ta) 0) wd).1)) G dX8_night_42 rfl rfl ?_
    exact v_iret G (i2_1, y2_3, y2_3, tk2_2) (Or.inl ⟨by omega, rfl, (e_5f.2.2.1 (by omega)).1, (e_5f.2.2.1 (by omega)).2⟩) rfl dX8_night_43
end

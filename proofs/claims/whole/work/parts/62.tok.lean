/-! tokens -/
theorem gD_jI (w : List Int) (k : Nat) (h : k < w.length) : (w.map jI).getD k 0 = jI (w.getD k 0) := by
  rw [List.getD_eq_getElem?_getD, List.getD_eq_getElem?_getD, List.getElem?_map, List.getElem?_eq_getElem h]
  rfl
def Tf (t : (Int → Int) × Int) : Prop := (0 ≤ t.2 ∧ t.2 ≤ 120) ∧ ∀ j : Int, 0 ≤ j → j < 120 → -128 ≤ t.1 j ∧ t.1 j ≤ 127
def xB (t : (Int → Int) × Int) : Int → Int := bB (fun j => ub (t.1 j)) t.2
theorem xB_k {t : (Int → Int) × Int} (h : Tf t) : Bk (xB t) t.2 := ⟨h.1, fun j hj => if_neg (by omega)⟩
theorem xB_w {t : (Int → Int) × Int} {j : Int} (hj : 0 ≤ j ∧ j < t.2) : xB t j = ub (t.1 j) := if_pos hj
theorem xB_eq {t : (Int → Int) × Int} (h : Tf t) {j x : Int} (hj : 0 ≤ j ∧ j < t.2) (hx : 0 ≤ x ∧ x ≤ 127) : xB t j = x ↔ t.1 j = x := by
  rw [xB_w hj]
  have h1 := h.1
  have h2 := h.2 j (by omega) (by omega)
  unfold ub
  split <;> omega
theorem lo_xB {t : (Int → Int) × Int} (h : Tf t) {j : Int} (hj : 0 ≤ j ∧ j < t.2) : lo (xB t) j ↔ 97 ≤ t.1 j ∧ t.1 j ≤ 122 := by
  show 97 ≤ xB t j ∧ xB t j ≤ 122 ↔ _
  rw [xB_w hj]
  have h1 := h.1
  have h2 := h.2 j (by omega) (by omega)
  unfold ub
  split <;> omega
theorem dg_xB {t : (Int → Int) × Int} (h : Tf t) {j : Int} (hj : 0 ≤ j ∧ j < t.2) : dg (xB t) j ↔ 48 ≤ t.1 j ∧ t.1 j ≤ 57 := by
  show 48 ≤ xB t j ∧ xB t j ≤ 57 ↔ _
  rw [xB_w hj]
  have h1 := h.1
  have h2 := h.2 j (by omega) (by omega)
  unfold ub
  split <;> omega
theorem xB_v {t : (Int → Int) × Int} (h : Tf t) {j : Int} (hj : 0 ≤ j ∧ j < t.2) (hx : 0 ≤ t.1 j) : xB t j = t.1 j := by
  rw [xB_w hj]
  exact if_neg (by omega)
theorem nvX {t : (Int → Int) × Int} {s : Int} {k : Nat} (h : Tf t) (hs : 0 ≤ s ∧ s < t.2) (hd : ∀ j_ : Int, s ≤ j_ → j_ < s + (k : Int) → dg (xB t) j_) (hx : te (xB t) s = s + (k : Int) ∨ ¬ dg (xB t) (s + (k : Int))) : nvN (xB t) s k = vl (xB t) s := by
  have e : de (xB t) s = s + (k : Int) := by
    rcases hx with hx | hx
    · have h1 := te_p (xB_k h) hs
      have d := hd s (by omega) (by omega)
      rw [te_d d] at hx
      exact hx
    · by_cases c : s + (k : Int) ≤ t.2
      · exact de_u (xB_k h) (by omega) hd hx
      · exact absurd (hd t.2 (by omega) (by omega)) ((xB_k h).dg t.2 (by omega))
  unfold vl
  rw [e, show (s + (k : Int) - s).toNat = k by omega]
theorem teL {t : (Int → Int) × Int} {s : Int} {k : Nat} (h : Tf t) (hs : 0 ≤ s ∧ s < t.2) (hk : s + 1 + (k : Int) ≤ t.2) (hd : ∀ j_ : Int, s ≤ j_ → j_ < s + 1 + (k : Int) → lo (xB t) j_) (hx : t.2 ≤ s + 1 + (k : Int) ∨ ¬ (97 ≤ t.1 (s + 1 + (k : Int)) ∧ t.1 (s + 1 + (k : Int)) ≤ 122)) : s + 1 + (k : Int) = te (xB t) s := by
  rw [te_l (hd s (by omega) (by omega))]
  refine (we_u (xB_k h) (by omega) hd (fun q => ?_)).symm
  by_cases c : s + 1 + (k : Int) < t.2
  · rcases hx with hx | hx
    · omega
    · exact hx ((lo_xB h (by omega)).mp q)
  · exact (xB_k h).lo _ (by omega) q
theorem teD {t : (Int → Int) × Int} {s : Int} {k : Nat} (h : Tf t) (hs : 0 ≤ s ∧ s < t.2) (hk : s + 1 + (k : Int) ≤ t.2) (hd : ∀ j_ : Int, s ≤ j_ → j_ < s + 1 + (k : Int) → dg (xB t) j_) (hx : t.2 ≤ s + 1 + (k : Int) ∨ ¬ (48 ≤ t.1 (s + 1 + (k : Int)) ∧ t.1 (s + 1 + (k : Int)) ≤ 57)) : s + 1 + (k : Int) = te (xB t) s := by
  rw [te_d (hd s (by omega) (by omega))]
  refine (de_u (xB_k h) (by omega) hd (fun q => ?_)).symm
  by_cases c : s + 1 + (k : Int) < t.2
  · rcases hx with hx | hx
    · omega
    · exact hx ((dg_xB h (by omega)).mp q)
  · exact (xB_k h).dg _ (by omega) q
theorem jS_tab5 : ∀ k : Fin 15, (RX5, 80 + 2 * k.val, txC k.val, (wdC k.val).map jI) ∈ jStrL := by decide +kernel
section
variable {p : Program} {R : Room} {s : State} {m : MethodId} {args : Array Value} {meth : Method} {c : Code} {D : va_G} {tys : List (ClassId × FieldType)} {A : Nat → Prop} {cc : ByteArray} {nL : Nat} {own : String} {Ts : List Cond} {ret : Option FieldType}
theorem jS_X5 (G : Gx p R s m args meth c D tys A cc nL own Ts ret) (k : Nat) (hk : k < 15) : ∃ q : Nat, vk_R RX5 (80 + 2 * k) (txC k) q s ∧ jStr q ((wdC k).map jI) A s s.heap := by
  obtain ⟨hx0, hb, hml, hown, hts, hr, hlk, hK, hE, hA⟩ := G
  exact hE.2.2.2.2 _ (jS_tab5 ⟨k, hk⟩)
end
/-- tokens so far: j bytes are gone through, the last token ends at e, i tokens stand -/
def TkI (B : Int → Int) (n : Int) (j : Nat) (e : Int) (i : Nat) (x1 x2 x3 : Int → Int) : Prop :=
  ((0 ≤ e ∧ e ≤ n) ∧ St B i = sk B e ∧ (j : Int) ≤ St B i ∧ i ≤ j) ∧ ∀ q : Nat, q < i → (0 ≤ St B q ∧ St B q < n) ∧ x1 (q : Int) = cdF B (St B q) ∧ x2 (q : Int) = vl B (St B q) ∧ x3 (q : Int) = St B q
def TkO (B : Int → Int) (n : Int) (tk : (Int → Int) × (Int → Int) × (Int → Int) × Int) : Prop :=
  ∃ K : Nat, (K : Int) ≤ n ∧ St B K = n ∧ (∀ q : Nat, q < K → 0 ≤ St B q ∧ St B q < n) ∧ ∀ q : Nat, q ≤ K → tk.1 (q : Int) = cd B n (St B q) ∧ tk.2.1 (q : Int) = vl B (St B q) ∧ tk.2.2.1 (q : Int) = St B q
theorem TkI_0 {t : (Int → Int) × Int} (h : Tf t) {x1 x2 x3 : Int → Int} : TkI (xB t) t.2 0 0 0 x1 x2 x3 := by
  have h1 := h.1
  obtain ⟨i1, i2, -, -⟩ := sk_p (xB_k h) (p := 0) (by omega)
  exact ⟨⟨by omega, rfl, i1, Nat.le_refl 0⟩, fun q hq => by omega⟩
theorem TkI_r {t : (Int → Int) × Int} (h : Tf t) {j i : Nat} {e : Int} {x1 x2 x3 : Int → Int} (hj : (j : Int) ≤ t.2) (I : TkI (xB t) t.2 j e i x1 x2 x3) : (0 ≤ e ∧ e ≤ t.2) ∧ e ≤ St (xB t) i ∧ (i : Int) ≤ 120 ∧ St (xB t) i ≤ t.2 := by
  obtain ⟨⟨a, b, c, d⟩, -⟩ := I
  obtain ⟨i1, i2, -, -⟩ := sk_p (xB_k h) (p := e) a
  have h1 := h.1
  exact ⟨a, by omega, by omega, by omega⟩
theorem TkI_n {B : Int → Int} {n e : Int} {j i : Nat} {x1 x2 x3 : Int → Int} (I : TkI B n j e i x1 x2 x3) (hs : (j : Int) < e ∨ B (j : Int) = 32) (hB : ¬ B (sk B e) = 32 ∧ e ≤ sk B e) : TkI B n (j + 1) e i x1 x2 x3 := by
  obtain ⟨⟨a, b, c, d⟩, r⟩ := I
  refine ⟨⟨a, b, ?_, by omega⟩, r⟩
  rcases hs with hs | hs
  · omega
  · by_cases q : (j : Int) = St B i
    · rw [q, b] at hs; exact absurd hs hB.1
    · omega
theorem TkI_a {t : (Int → Int) × Int} (h : Tf t) {j i : Nat} {e : Int} {x1 x2 x3 : Int → Int} (hj : (j : Int) < t.2) (I : TkI (xB t) t.2 j e i x1 x2 x3) (he : e ≤ (j : Int)) (hb : ¬ xB t (j : Int) = 32) : TkI (xB t) t.2 (j + 1) (te (xB t) (j : Int)) (i + 1) (uI x1 (i : Int) (cdF (xB t) (j : Int))) (uI x2 (i : Int) (vl (xB t) (j : Int))) (uI x3 (i : Int) (j : Int)) := by
  obtain ⟨⟨a, b, c, d⟩, r⟩ := I
  obtain ⟨i1, i2, i3, i4⟩ := sk_p (xB_k h) (p := e) a
  have ej : St (xB t) i = (j : Int) := by
    by_cases q : (j : Int) < St (xB t) i
    · exact absurd (i3 (j : Int) he (by omega)) hb
    · omega
  have h1 := te_p (xB_k h) (p := (j : Int)) (by omega)
  obtain ⟨k1, k2, -, -⟩ := sk_p (xB_k h) (p := te (xB t) (j : Int)) (by omega)
  have en : St (xB t) (i + 1) = sk (xB t) (te (xB t) (j : Int)) := by
    show nx (xB t) (St (xB t) i) = _
    rw [ej]; rfl
  refine ⟨⟨by omega, en, by rw [en]; omega, by omega⟩, fun q hq => ?_⟩
  by_cases e2 : q = i
  · subst e2
    rw [uI_s, uI_s, uI_s, ej]
    exact ⟨by omega, rfl, rfl, rfl⟩
  · rw [uI_n _ _ (by omega), uI_n _ _ (by omega), uI_n _ _ (by omega)]
    exact r q (by omega)
theorem TkI_e {t : (Int → Int) × Int} (h : Tf t) {i : Nat} {e : Int} {x1 x2 x3 : Int → Int} {v : Int} (I : TkI (xB t) t.2 t.2.toNat e i x1 x2 x3) : TkO (xB t) t.2 (uI x1 (i : Int) 17, uI x2 (i : Int) 0, uI x3 (i : Int) t.2, v) := by
  have h1 := h.1
  obtain ⟨k1, k2, k3, k4⟩ := TkI_r h (by omega) I
  obtain ⟨⟨a, b, c, d⟩, r⟩ := I
  have es : St (xB t) i = t.2 := by omega
  refine ⟨i, by omega, es, fun q hq => (r q hq).1, fun q hq => ?_⟩
  by_cases e2 : q = i
  · subst e2
    refine ⟨?_, ?_, ?_⟩
    · show uI x1 (q : Int) 17 (q : Int) = _
      rw [uI_s, cd_17.mpr (by omega)]
    · show uI x2 (q : Int) 0 (q : Int) = _
      rw [uI_s, es]
      unfold vl
      rw [de_i ((xB_k h).dg _ (Int.le_refl _)), show (t.2 - t.2).toNat = 0 by omega]
      rfl
    · show uI x3 (q : Int) t.2 (q : Int) = _
      rw [uI_s, es]
  · obtain ⟨r1, r2, r3, r4⟩ := r q (by omega)
    refine ⟨?_, ?_, ?_⟩
    · show uI x1 (i : Int) 17 (q : Int) = _
      rw [uI_n _ _ (by omega), r2]
      unfold cd
      rw [if_neg (by omega)]
    · show uI x2 (i : Int) 0 (q : Int) = _
      rw [uI_n _ _ (by omega), r3]
    · show uI x3 (i : Int) t.2 (q : Int) = _
      rw [uI_n _ _ (by omega), r4]
section
variable {l : Launch} {D : va_G} {tys : List (ClassId × FieldType)}
set_option maxRecDepth 100000 in
theorem c_X5_wordOf_0 {q : Nat} : CrX (xR RX5 80 (txC 0) q) l yX5_wordOf wsX5_wordOf { frames := 0, cells := 0, slots := 0, locals := 0 } D tys [.int (jI 0)] [] (fun _ r => r = q) := by
  refine CrX.mk (cc := cX5_wordOf) (maxL := 1) (rt := .object "java/lang/String") (by decide) rfl (Nat.le_of_ble_eq_true rfl) rfl ?_
  intro p_ e_ s_ m_ b_ me_ c_ A_ G hX
  refine v_iload_n (j := 0) (x := jI 0) G dX5_wordOf_0 rfl rfl ?_
  refine v_tabIn (z := 0) (v := 0) (tgt := 72) G rfl (by decide) rfl (by decide) dX5_wordOf_1 ?_
  refine v_ldcR (q := q) G hX dX5_wordOf_72 ?_
  exact v_aret G (Or.inl ⟨_, rfl⟩) (fun _ _ => rfl) dX5_wordOf_74
set_option maxRecDepth 100000 in
theorem c_X5_wordOf_1 {q : Nat} : CrX (xR RX5 82 (txC 1) q) l yX5_wordOf wsX5_wordOf { frames := 0, cells := 0, slots := 0, locals := 0 } D tys [.int (jI 1)] [] (fun _ r => r = q) := by
  refine CrX.mk (cc := cX5_wordOf) (maxL := 1) (rt := .object "java/lang/String") (by decide) rfl (Nat.le_of_ble_eq_true rfl) rfl ?_
  intro p_ e_ s_ m_ b_ me_ c_ A_ G hX
  refine v_iload_n (j := 0) (x := jI 1) G dX5_wordOf_0 rfl rfl ?_
  refine v_tabIn (z := 1) (v := 1) (tgt := 75) G rfl (by decide) rfl (by decide) dX5_wordOf_1 ?_
  refine v_ldcR (q := q) G hX dX5_wordOf_75 ?_
  exact v_aret G (Or.inl ⟨_, rfl⟩) (fun _ _ => rfl) dX5_wordOf_77
set_option maxRecDepth 100000 in
theorem c_X5_wordOf_2 {q : Nat} : CrX (xR RX5 84 (txC 2) q) l yX5_wordOf wsX5_wordOf { frames := 0, cells := 0, slots := 0, locals := 0 } D tys [.int (jI 2)] [] (fun _ r => r = q) := by
  refine CrX.mk (cc := cX5_wordOf) (maxL := 1) (rt := .object "java/lang/String") (by decide) rfl (Nat.le_of_ble_eq_true rfl) rfl ?_
  intro p_ e_ s_ m_ b_ me_ c_ A_ G hX
  refine v_iload_n (j := 0) (x := jI 2) G dX5_wordOf_0 rfl rfl ?_
  refine v_tabIn (z := 2) (v := 2) (tgt := 78) G rfl (by decide) rfl (by decide) dX5_wordOf_1 ?_
  refine v_ldcR (q := q) G hX dX5_wordOf_78 ?_
  exact v_aret G (Or.inl ⟨_, rfl⟩) (fun _ _ => rfl) dX5_wordOf_80
set_option maxRecDepth 100000 in
theorem c_X5_wordOf_3 {q : Nat} : CrX (xR RX5 86 (txC 3) q) l yX5_wordOf wsX5_wordOf { frames := 0, cells := 0, slots := 0, locals := 0 } D tys [.int (jI 3)] [] (fun _ r => r = q) := by
  refine CrX.mk (cc := cX5_wordOf) (maxL := 1) (rt := .object "java/lang/String") (by decide) rfl (Nat.le_of_ble_eq_true rfl) rfl ?_
  intro p_ e_ s_ m_ b_ me_ c_ A_ G hX
  refine v_iload_n (j := 0) (x := jI 3) G dX5_wordOf_0 rfl rfl ?_
  refine v_tabIn (z := 3) (v := 3) (tgt := 81) G rfl (by decide) rfl (by decide) dX5_wordOf_1 ?_
  refine v_ldcR (q := q) G hX dX5_wordOf_81 ?_
  exact v_aret G (Or.inl ⟨_, rfl⟩) (fun _ _ => rfl) dX5_wordOf_83
set_option maxRecDepth 100000 in
theorem c_X5_wordOf_4 {q : Nat} : CrX (xR RX5 88 (txC 4) q) l yX5_wordOf wsX5_wordOf { frames := 0, cells := 0, slots := 0, locals := 0 } D tys [.int (jI 4)] [] (fun _ r => r = q) := by
  refine CrX.mk (cc := cX5_wordOf) (maxL := 1) (rt := .object "java/lang/String") (by decide) rfl (Nat.le_of_ble_eq_true rfl) rfl ?_
  intro p_ e_ s_ m_ b_ me_ c_ A_ G hX
  refine v_iload_n (j := 0) (x := jI 4) G dX5_wordOf_0 rfl rfl ?_
  refine v_tabIn (z := 4) (v := 4) (tgt := 84) G rfl (by decide) rfl (by decide) dX5_wordOf_1 ?_
  refine v_ldcR (q := q) G hX dX5_wordOf_84 ?_
  exact v_aret G (Or.inl ⟨_, rfl⟩) (fun _ _ => rfl) dX5_wordOf_86
set_option maxRecDepth 100000 in
theorem c_X5_wordOf_5 {q : Nat} : CrX (xR RX5 90 (txC 5) q) l yX5_wordOf wsX5_wordOf { frames := 0, cells := 0, slots := 0, locals := 0 } D tys [.int (jI 5)] [] (fun _ r => r = q) := by
  refine CrX.mk (cc := cX5_wordOf) (maxL := 1) (rt := .object "java/lang/String") (by decide) rfl (Nat.le_of_ble_eq_true rfl) rfl ?_
  intro p_ e_ s_ m_ b_ me_ c_ A_ G hX
  refine v_iload_n (j := 0) (x := jI 5) G dX5_wordOf_0 rfl rfl ?_
  refine v_tabIn (z := 5) (v := 5) (tgt := 87) G rfl (by decide) rfl (by decide) dX5_wordOf_1 ?_
  refine v_ldcR (q := q) G hX dX5_wordOf_87 ?_
  exact v_aret G (Or.inl ⟨_, rfl⟩) (fun _ _ => rfl) dX5_wordOf_89
set_option maxRecDepth 100000 in
theorem c_X5_wordOf_6 {q : Nat} : CrX (xR RX5 92 (txC 6) q) l yX5_wordOf wsX5_wordOf { frames := 0, cells := 0, slots := 0, locals := 0 } D tys [.int (jI 6)] [] (fun _ r => r = q) := by
  refine CrX.mk (cc := cX5_wordOf) (maxL := 1) (rt := .object "java/lang/String") (by decide) rfl (Nat.le_of_ble_eq_true rfl) rfl ?_
  intro p_ e_ s_ m_ b_ me_ c_ A_ G hX
  refine v_iload_n (j := 0) (x := jI 6) G dX5_wordOf_0 rfl rfl ?_
  refine v_tabIn (z := 6) (v := 6) (tgt := 90) G rfl (by decide) rfl (by decide) dX5_wordOf_1 ?_
  refine v_ldcR (q := q) G hX dX5_wordOf_90 ?_
  exact v_aret G (Or.inl ⟨_, rfl⟩) (fun _ _ => rfl) dX5_wordOf_92
set_option maxRecDepth 100000 in
theorem c_X5_wordOf_7 {q : Nat} : CrX (xR RX5 94 (txC 7) q) l yX5_wordOf wsX5_wordOf { frames := 0, cells := 0, slots := 0, locals := 0 } D tys [.int (jI 7)] [] (fun _ r => r = q) := by
  refine CrX.mk (cc := cX5_wordOf) (maxL := 1) (rt := .object "java/lang/String") (by decide) rfl (Nat.le_of_ble_eq_true rfl) rfl ?_
  intro p_ e_ s_ m_ b_ me_ c_ A_ G hX
  refine v_iload_n (j := 0) (x := jI 7) G dX5_wordOf_0 rfl rfl ?_
  refine v_tabIn (z := 7) (v := 7) (tgt := 93) G rfl (by decide) rfl (by decide) dX5_wordOf_1 ?_
  refine v_ldcR (q := q) G hX dX5_wordOf_93 ?_
  exact v_aret G (Or.inl ⟨_, rfl⟩) (fun _ _ => rfl) dX5_wordOf_95
set_option maxRecDepth 100000 in
theorem c_X5_wordOf_8 {q : Nat} : CrX (xR RX5 96 (txC 8) q) l yX5_wordOf wsX5_wordOf { frames := 0, cells := 0, slots := 0, locals := 0 } D tys [.int (jI 8)] [] (fun _ r => r = q) := by
  refine CrX.mk (cc := cX5_wordOf) (maxL := 1) (rt := .object "java/lang/String") (by decide) rfl (Nat.le_of_ble_eq_true rfl) rfl ?_
  intro p_ e_ s_ m_ b_ me_ c_ A_ G hX
  refine v_iload_n (j := 0) (x := jI 8) G dX5_wordOf_0 rfl rfl ?_
  refine v_tabIn (z := 8) (v := 8) (tgt := 96) G rfl (by decide) rfl (by decide) dX5_wordOf_1 ?_
  refine v_ldcR (q := q) G hX dX5_wordOf_96 ?_
  exact v_aret G (Or.inl ⟨_, rfl⟩) (fun _ _ => rfl) dX5_wordOf_98
set_option maxRecDepth 100000 in
theorem c_X5_wordOf_9 {q : Nat} : CrX (xR RX5 98 (txC 9) q) l yX5_wordOf wsX5_wordOf { frames := 0, cells := 0, slots := 0, locals := 0 } D tys [.int (jI 9)] [] (fun _ r => r = q) := by
  refine CrX.mk (cc := cX5_wordOf) (maxL := 1) (rt := .object "java/lang/String") (by decide) rfl (Nat.le_of_ble_eq_true rfl) rfl ?_
  intro p_ e_ s_ m_ b_ me_ c_ A_ G hX
  refine v_iload_n (j := 0) (x := jI 9) G dX5_wordOf_0 rfl rfl ?_
  refine v_tabIn (z := 9) (v := 9) (tgt := 99) G rfl (by decide) rfl (by decide) dX5_wordOf_1 ?_
  refine v_ldcR (q := q) G hX dX5_wordOf_99 ?_
  exact v_aret G (Or.inl ⟨_, rfl⟩) (fun _ _ => rfl) dX5_wordOf_101
set_option maxRecDepth 100000 in
theorem c_X5_wordOf_10 {q : Nat} : CrX (xR RX5 100 (txC 10) q) l yX5_wordOf wsX5_wordOf { frames := 0, cells := 0, slots := 0, locals := 0 } D tys [.int (jI 10)] [] (fun _ r => r = q) := by
  refine CrX.mk (cc := cX5_wordOf) (maxL := 1) (rt := .object "java/lang/String") (by decide) rfl (Nat.le_of_ble_eq_true rfl) rfl ?_
  intro p_ e_ s_ m_ b_ me_ c_ A_ G hX
  refine v_iload_n (j := 0) (x := jI 10) G dX5_wordOf_0 rfl rfl ?_
  refine v_tabIn (z := 10) (v := 10) (tgt := 102) G rfl (by decide) rfl (by decide) dX5_wordOf_1 ?_
  refine v_ldcR (q := q) G hX dX5_wordOf_102 ?_
  exact v_aret G (Or.inl ⟨_, rfl⟩) (fun _ _ => rfl) dX5_wordOf_104
set_option maxRecDepth 100000 in
theorem c_X5_wordOf_11 {q : Nat} : CrX (xR RX5 102 (txC 11) q) l yX5_wordOf wsX5_wordOf { frames := 0, cells := 0, slots := 0, locals := 0 } D tys [.int (jI 11)] [] (fun _ r => r = q) := by
  refine CrX.mk (cc := cX5_wordOf) (maxL := 1) (rt := .object "java/lang/String") (by decide) rfl (Nat.le_of_ble_eq_true rfl) rfl ?_
  intro p_ e_ s_ m_ b_ me_ c_ A_ G hX
  refine v_iload_n (j := 0) (x := jI 11) G dX5_wordOf_0 rfl rfl ?_
  refine v_tabIn (z := 11) (v := 11) (tgt := 105) G rfl (by decide) rfl (by decide) dX5_wordOf_1 ?_
  refine v_ldcR (q := q) G hX dX5_wordOf_105 ?_
  exact v_aret G (Or.inl ⟨_, rfl⟩) (fun _ _ => rfl) dX5_wordOf_107
set_option maxRecDepth 100000 in
theorem c_X5_wordOf_12 {q : Nat} : CrX (xR RX5 104 (txC 12) q) l yX5_wordOf wsX5_wordOf { frames := 0, cells := 0, slots := 0, locals := 0 } D tys [.int (jI 12)] [] (fun _ r => r = q) := by
  refine CrX.mk (cc := cX5_wordOf) (maxL := 1) (rt := .object "java/lang/String") (by decide) rfl (Nat.le_of_ble_eq_true rfl) rfl ?_
  intro p_ e_ s_ m_ b_ me_ c_ A_ G hX
  refine v_iload_n (j := 0) (x := jI 12) G dX5_wordOf_0 rfl rfl ?_
  refine v_tabIn (z := 12) (v := 12) (tgt := 108) G rfl (by decide) rfl (by decide) dX5_wordOf_1 ?_
  refine v_ldcR (q := q) G hX dX5_wordOf_108 ?_
  exact v_aret G (Or.inl ⟨_, rfl⟩) (fun _ _ => rfl) dX5_wordOf_110
set_option maxRecDepth 100000 in
theorem c_X5_wordOf_13 {q : Nat} : CrX (xR RX5 106 (txC 13) q) l yX5_wordOf wsX5_wordOf { frames := 0, cells := 0, slots := 0, locals := 0 } D tys [.int (jI 13)] [] (fun _ r => r = q) := by
  refine CrX.mk (cc := cX5_wordOf) (maxL := 1) (rt := .object "java/lang/String") (by decide) rfl (Nat.le_of_ble_eq_true rfl) rfl ?_
  intro p_ e_ s_ m_ b_ me_ c_ A_ G hX
  refine v_iload_n (j := 0) (x := jI 13) G dX5_wordOf_0 rfl rfl ?_
  refine v_tabIn (z := 13) (v := 13) (tgt := 111) G rfl (by decide) rfl (by decide) dX5_wordOf_1 ?_
  refine v_ldcR (q := q) G hX dX5_wordOf_111 ?_
  exact v_aret G (Or.inl ⟨_, rfl⟩) (fun _ _ => rfl) dX5_wordOf_113
set_option maxRecDepth 100000 in
theorem c_X5_wordOf_14 {q : Nat} : CrX (xR RX5 108 (txC 14) q) l yX5_wordOf wsX5_wordOf { frames := 0, cells := 0, slots := 0, locals := 0 } D tys [.int (jI 14)] [] (fun _ r => r = q) := by
  refine CrX.mk (cc := cX5_wordOf) (maxL := 1) (rt := .object "java/lang/String") (by decide) rfl (Nat.le_of_ble_eq_true rfl) rfl ?_
  intro p_ e_ s_ m_ b_ me_ c_ A_ G hX
  refine v_iload_n (j := 0) (x := jI 14) G dX5_wordOf_0 rfl rfl ?_
  refine v_tabOut (z := 14) (tgt := 114) G (by decide) (by decide) (by decide) dX5_wordOf_1 ?_
  refine v_ldcR (q := q) G hX dX5_wordOf_114 ?_
  exact v_aret G (Or.inl ⟨_, rfl⟩) (fun _ _ => rfl) dX5_wordOf_116
theorem c_X5_wordOf {k q : Nat} (hk : k < 15) : CrX (xR RX5 (80 + 2 * k) (txC k) q) l yX5_wordOf wsX5_wordOf { frames := 0, cells := 0, slots := 0, locals := 0 } D tys [.int (jI (k : Int))] [] (fun _ r => r = q) := by
  rcases (show k = 0 ∨ k = 1 ∨ k = 2 ∨ k = 3 ∨ k = 4 ∨ k = 5 ∨ k = 6 ∨ k = 7 ∨ k = 8 ∨ k = 9 ∨ k = 10 ∨ k = 11 ∨ k = 12 ∨ k = 13 ∨ k = 14 by omega) with rfl | rfl | rfl | rfl | rfl | rfl | rfl | rfl | rfl | rfl | rfl | rfl | rfl | rfl | rfl
  · exact c_X5_wordOf_0
  · exact c_X5_wordOf_1
  · exact c_X5_wordOf_2
  · exact c_X5_wordOf_3
  · exact c_X5_wordOf_4
  · exact c_X5_wordOf_5
  · exact c_X5_wordOf_6
  · exact c_X5_wordOf_7
  · exact c_X5_wordOf_8
  · exact c_X5_wordOf_9
  · exact c_X5_wordOf_10
  · exact c_X5_wordOf_11
  · exact c_X5_wordOf_12
  · exact c_X5_wordOf_13
  · exact c_X5_wordOf_14
end
section
variable {l : Launch} {D : va_G} {cI cL cB cS : ClassId} {a b c : Nat → Nat} {x o wd kw tw : WT} {g gl : GT} {sx : Int × Int × (Int → Int64)} {fd li : Int → Int} {wy : (Int → Int) × (Int → Int)} {lr : (Int → Int64) × (Int → Int)} {nx : Int} {t ta : (Int → Int) × Int} {tk : (Int → Int) × (Int → Int) × (Int → Int) × Int} {s0 s1 s2 s3 : Int × Int × (Int → Int64)} {ks : Int}
set_option maxHeartbeats 4000000 in
set_option maxRecDepth 100000 in
theorem c_X5_isLetter (v : Int) (hr : (-2147483648 ≤ v ∧ v ≤ 2147483647)) : Ci l yX5_isLetter wsX5_isLetter { frames := 0, cells := 0, slots := 0, locals := 0 } D (jT cI cL cB cS) [.int (jI v)] [] (S := Unit) (fun _ => []) (fun r _ => r = jI (b2 (97 ≤ v ∧ v ≤ 122))) := by
  refine Ci.mk (cc := cX5_isLetter) (maxL := 1) (rt := .boolean) (by decide) rfl (Nat.le_of_ble_eq_true rfl) rfl ?_
  intro p_ e_ s_ m_ b_ me_ c_ A_ G hnm
  refine v_iload_n (j := 0) (x := jI v) G dX5_isLetter_0 rfl rfl ?_
  refine v_bipush G dX5_isLetter_1 (by decide) ?_
  refine v_icmp_lt (a := v) (b := 97) (tgt := 16) G dX5_isLetter_3 (by decide) (by omega) (fun c_1 => ?_) (fun c_1 => ?_)
  · skip
    refine v_iconst G dX5_isLetter_16 ?_
    exact v_zret G () nb_0 (show jI 0 = jI (b2 (97 ≤ v ∧ v ≤ 122)) from congrArg jI (b2_f (P := 97 ≤ v ∧ v ≤ 122) (by omega)).symm) rfl dX5_isLetter_17
  · skip
    refine v_iload_n (j := 0) (x := jI v) G dX5_isLetter_6 rfl rfl ?_
    refine v_bipush G dX5_isLetter_7 (by decide) ?_
    refine v_icmp_gt (a := v) (b := 122) (tgt := 16) G dX5_isLetter_9 (by decide) (by omega) (fun c_2 => ?_) (fun c_2 => ?_)
    · skip
      refine v_iconst G dX5_isLetter_16 ?_
      exact v_zret G () nb_0 (show jI 0 = jI (b2 (97 ≤ v ∧ v ≤ 122)) from congrArg jI (b2_f (P := 97 ≤ v ∧ v ≤ 122) (by omega)).symm) rfl dX5_isLetter_17
    · skip
      refine v_iconst G dX5_isLetter_12 ?_
      refine v_goto (tgt := 17) G dX5_isLetter_13 (by decide) ?_
      exact v_zret G () nb_1 (show jI 1 = jI (b2 (97 ≤ v ∧ v ≤ 122)) from congrArg jI (b2_t (P := 97 ≤ v ∧ v ≤ 122) (by omega)).symm) rfl dX5_isLetter_17

set_option maxHeartbeats 4000000 in
set_option maxRecDepth 100000 in
theorem c_X5_isDigit (v : Int) (hr : (-2147483648 ≤ v ∧ v ≤ 2147483647)) : Ci l yX5_isDigit wsX5_isDigit { frames := 0, cells := 0, slots := 0, locals := 0 } D (jT cI cL cB cS) [.int (jI v)] [] (S := Unit) (fun _ => []) (fun r _ => r = jI (b2 (48 ≤ v ∧ v ≤ 57))) := by
  refine Ci.mk (cc := cX5_isDigit) (maxL := 1) (rt := .boolean) (by decide) rfl (Nat.le_of_ble_eq_true rfl) rfl ?_
  intro p_ e_ s_ m_ b_ me_ c_ A_ G hnm
  refine v_iload_n (j := 0) (x := jI v) G dX5_isDigit_0 rfl rfl ?_
  refine v_bipush G dX5_isDigit_1 (by decide) ?_
  refine v_icmp_lt (a := v) (b := 48) (tgt := 16) G dX5_isDigit_3 (by decide) (by omega) (fun c_1 => ?_) (fun c_1 => ?_)
  · skip
    refine v_iconst G dX5_isDigit_16 ?_
    exact v_zret G () nb_0 (show jI 0 = jI (b2 (48 ≤ v ∧ v ≤ 57)) from congrArg jI (b2_f (P := 48 ≤ v ∧ v ≤ 57) (by omega)).symm) rfl dX5_isDigit_17
  · skip
    refine v_iload_n (j := 0) (x := jI v) G dX5_isDigit_6 rfl rfl ?_
    refine v_bipush G dX5_isDigit_7 (by decide) ?_
    refine v_icmp_gt (a := v) (b := 57) (tgt := 16) G dX5_isDigit_9 (by decide) (by omega) (fun c_2 => ?_) (fun c_2 => ?_)
    · skip
      refine v_iconst G dX5_isDigit_16 ?_
      exact v_zret G () nb_0 (show jI 0 = jI (b2 (48 ≤ v ∧ v ≤ 57)) from congrArg jI (b2_f (P := 48 ≤ v ∧ v ≤ 57) (by omega)).symm) rfl dX5_isDigit_17
    · skip
      refine v_iconst G dX5_isDigit_12 ?_
      refine v_goto (tgt := 17) G dX5_isDigit_13 (by decide) ?_
      exact v_zret G () nb_1 (show jI 1 = jI (b2 (48 ≤ v ∧ v ≤ 57)) from congrArg jI (b2_t (P := 48 ≤ v ∧ v ≤ 57) (by omega)).symm) rfl dX5_isDigit_17

set_option maxHeartbeats 4000000 in
set_option maxRecDepth 100000 in
theorem c_X5_isWordAt (s z : Int) {tq : Nat} {tw : List Int} (ht : Tf t) (htw : Wd tw) (hs : 0 ≤ s ∧ s < z ∧ z ≤ t.2) : CiX (xStr tq (tw.map jI)) l yX5_isWordAt wsX5_isWordAt { frames := 4, cells := 0, slots := 0, locals := 85 } D (jT cI cL cB cS) [.ref (b 0), .int (jI s), .int (jI z), .ref tq] (gT cB b t) (S := Unit) (fun _ => (gT cB b t)) (fun r _ => r = jI (b2 (wm (xB t) s z tw))) := by
  refine CiX.mk (cc := cX5_isWordAt) (maxL := 5) (rt := .boolean) (by decide) rfl (Nat.le_of_ble_eq_true rfl) rfl ?_
  intro p_ e_ s_ m_ b_ me_ c_ A_ G hX
  have hn := ht.1
  have hwl := htw.1
  have k_X4 : ∀ w ∈ u_ws RX4 TX4 2, w ∈ wsX5_isWordAt := fun _ h => List.mem_cons_of_mem _ (List.mem_append_right _ h)
  have q_1 : Cond.fieldLink RX5 30 "SupperLight$Tape" "bytes" "[B" ∈ wsX5_isWordAt := List.mem_of_getElem? (i := 1) rfl
  refine v_iload_n (j := 2) (x := jI z) G dX5_isWordAt_0 rfl rfl ?_
  refine v_iload_n (j := 1) (x := jI s) G dX5_isWordAt_1 rfl rfl ?_
  refine v_isub (z := z - s) G dX5_isWordAt_2 rfl ?_
  refine v_aload_n (j := 3) (x := tq) G dX5_isWordAt_3 rfl rfl ?_
  refine v_ciN G (rn_VS (bs := (tw).map jI) (As := []) (rest := [.int (jI (z - s))]) hX G (c_J0_length (by rw [List.length_map]; have hw_ := htw.1; omega)) gX5_isWordAt_J0_length_8abf5 rfl hdJ0_length_8abf5 ⟨rfl, rfl, Nat.le_of_ble_eq_true rfl, Nat.le_of_ble_eq_true rfl⟩ rfl rfl (Nat.le_of_ble_eq_true rfl) ⟨Nat.zero_le _, Nat.zero_le _⟩ dX5_isWordAt_4) (fun r_1 _ e_2 => ?_)
  have e_2 : r_1 = jI (((tw).map jI).length : Int) := e_2
  rw [List.length_map] at e_2
  subst e_2
  refine v_icmp_eq (a := z - s) (b := ((tw).length : Int)) (tgt := 12) G dX5_isWordAt_7 (by decide) (by omega) (fun c_3 => ?_) (fun c_3 => ?_)
  · skip
    refine v_iconst G dX5_isWordAt_12 ?_
    refine v_istore (lv' := [(4, .int (jI 0)), (0, .ref (b 0)), (1, .int (jI s)), (2, .int (jI z)), (3, .ref tq)]) G dX5_isWordAt_13 (by decide) rfl ?_
    refine v_locs (lv' := [(4, .int (jI 0)), (0, .ref (b 0)), (1, .int (jI s)), (2, .int (jI z)), (3, .ref tq)]) [0, 1, 2, 3, 4] rfl ?_
    refine v_loop1 (fun (k : Nat) => [(4, .int (jI (k : Int))), (0, .ref (b 0)), (1, .int (jI s)), (2, .int (jI z)), (3, .ref tq)]) (fun (k : Nat) => (gT cB b t)) (fun (k : Nat) => k ≤ tw.length ∧ z - s = (tw.length : Int) ∧ ∀ i_ : Nat, i_ < k → xB t (s + (i_ : Int)) = tw.getD i_ 0) (fun (k : Nat) => tw.length - k) 0 ⟨Nat.zero_le _, by omega, fun i_ q => by omega⟩ rfl rfl ?_
    intro k I_4 ih_5
    obtain ⟨hk1, hk2, hk3⟩ := id I_4
    refine v_iload (j := 0) (x := jI (k : Int)) G dX5_isWordAt_15 rfl ?_
    refine v_aload_n (j := 4) (x := tq) G dX5_isWordAt_17 rfl rfl ?_
    refine v_ciN G (rn_VS (bs := (tw).map jI) (As := []) (rest := [.int (jI (k : Int))]) hX G (c_J0_length (by rw [List.length_map]; have hw_ := htw.1; omega)) gX5_isWordAt_J0_length_8abf5 rfl hdJ0_length_8abf5 ⟨rfl, rfl, Nat.le_of_ble_eq_true rfl, Nat.le_of_ble_eq_true rfl⟩ rfl rfl (Nat.le_of_ble_eq_true rfl) ⟨Nat.zero_le _, Nat.zero_le _⟩ dX5_isWordAt_18) (fun r_6 _ e_7 => ?_)
    have e_7 : r_6 = jI (((tw).map jI).length : Int) := e_7
    rw [List.length_map] at e_7
    subst e_7
    refine v_icmp_ge (a := (k : Int)) (b := ((tw).length : Int)) (tgt := 50) G dX5_isWordAt_21 (by decide) (by omega) (fun c_8 => ?_) (fun c_8 => ?_)
    · skip
      have hyes : wm (xB t) s z tw := ⟨hk2, fun i_ q => hk3 i_ (by omega)⟩
      refine v_iconst G dX5_isWordAt_50 ?_
      exact v_zret G () nb_1 (show jI 1 = jI (b2 (wm (xB t) s z tw)) from congrArg jI (b2_t (P := wm (xB t) s z tw) (by exact hyes)).symm) rfl dX5_isWordAt_51
    · skip
      refine v_aload_n (j := 1) (x := b 0) G dX5_isWordAt_24 rfl rfl ?_
      refine v_get (q0 := 0) (k := 0) (v := .ref (b 1)) G k_X4 rfl rfl (by decide) q_1 rfl rfl dX5_isWordAt_25 ?_
      refine v_iload_n (j := 2) (x := jI s) G dX5_isWordAt_28 rfl rfl ?_
      refine v_iload (j := 0) (x := jI (k : Int)) G dX5_isWordAt_29 rfl ?_
      refine v_iadd (z := s + (k : Int)) G dX5_isWordAt_31 rfl ?_
      have htb := ht.2 (s + (k : Int)) (by omega) (by omega)
      have hwk := htw.2 k (by omega)
      refine v_bald (q0 := 1) (t0 := 2) (g := t.1) (z := s + (k : Int)) G rfl rfl (by omega) dX5_isWordAt_32 ?_
      refine v_aload_n (j := 4) (x := tq) G dX5_isWordAt_33 rfl rfl ?_
      refine v_iload (j := 0) (x := jI (k : Int)) G dX5_isWordAt_34 rfl ?_
      refine v_ciN G (rn_VS (bs := (tw).map jI) (As := [.int (jI (k : Int))]) (rest := [.int (jI (t.1 (s + (k : Int))))]) hX G (c_J0_charAt (z := (k : Int)) (x := (tw).getD k 0) (by rw [List.length_map]; have hw_ := htw.1; omega) (by have hw_ := htw.2 k (by omega); omega) (by rw [Int.toNat_natCast]; exact gD_jI (tw) k (by omega))) gX5_isWordAt_J0_charAt_5068e rfl hdJ0_charAt_5068e ⟨rfl, rfl, Nat.le_of_ble_eq_true rfl, Nat.le_of_ble_eq_true rfl⟩ rfl rfl (Nat.le_of_ble_eq_true rfl) ⟨Nat.zero_le _, Nat.zero_le _⟩ dX5_isWordAt_36) (fun r_9 _ e_10 => ?_)
      have e_10 : r_9 = jI ((tw).getD k 0) := e_10
      subst e_10
      refine v_icmp_eq (a := t.1 (s + (k : Int))) (b := (tw).getD k 0) (tgt := 44) G dX5_isWordAt_39 (by decide) (by omega) (fun c_11 => ?_) (fun c_11 => ?_)
      · skip
        refine v_iinc (k := 0) (z := (k : Int)) (z' := ((k + 1 : Nat) : Int)) (lv' := [(4, .int (jI ((k + 1 : Nat) : Int))), (0, .ref (b 0)), (1, .int (jI s)), (2, .int (jI z)), (3, .ref tq)]) G dX5_isWordAt_44 rfl (by omega) (by decide) rfl ?_
        refine v_goto (tgt := 15) G dX5_isWordAt_47 (by decide) ?_
        exact ih_5 (k + 1) ⟨by omega, I_4.2.1, fun i_ q => by by_cases qe : i_ = k; subst qe; exact (xB_eq ht (by omega) (by have hw_ := htw.2 i_ (by omega); omega)).mpr (by omega); exact I_4.2.2 i_ (by omega)⟩ (by omega)
      · skip
        have hno : ¬ wm (xB t) s z tw := fun q => by have e1 := q.2 k (by omega); have e2 := (xB_eq ht (by omega) (by have hw_ := htw.2 k (by omega); omega)).mp e1; omega
        refine v_iconst G dX5_isWordAt_42 ?_
        exact v_zret G () nb_0 (show jI 0 = jI (b2 (wm (xB t) s z tw)) from congrArg jI (b2_f (P := wm (xB t) s z tw) (by exact hno)).symm) rfl dX5_isWordAt_43
  · skip
    have hno : ¬ wm (xB t) s z tw := fun q => by have e1 := q.1; omega
    refine v_iconst G dX5_isWordAt_10 ?_
    exact v_zret G () nb_0 (show jI 0 = jI (b2 (wm (xB t) s z tw)) from congrArg jI (b2_f (P := wm (xB t) s z tw) (by exact hno)).symm) rfl dX5_isWordAt_11

set_option maxHeartbeats 4000000 in
set_option maxRecDepth 100000 in
theorem c_X5_numberOf (s z : Int) (ht : Tf t) (hs : 0 ≤ s ∧ s < t.2) (hz : z = te (xB t) s) : Ci l yX5_numberOf wsX5_numberOf { frames := 1, cells := 0, slots := 0, locals := 21 } D (jT cI cL cB cS) [.ref (b 0), .int (jI s), .int (jI z)] (gT cB b t) (S := Unit) (fun _ => (gT cB b t)) (fun r _ => r = jI (vl (xB t) s)) := by
  refine Ci.mk (cc := cX5_numberOf) (maxL := 5) (rt := .int) (by decide) rfl (Nat.le_of_ble_eq_true rfl) rfl ?_
  intro p_ e_ s_ m_ b_ me_ c_ A_ G hnm
  have hn := ht.1
  have hte := te_p (xB_k ht) hs
  have k_X4 : ∀ w ∈ u_ws RX4 TX4 2, w ∈ wsX5_numberOf := fun _ h => List.mem_cons_of_mem _ (List.mem_append_right _ h)
  have q_1 : Cond.fieldLink RX5 30 "SupperLight$Tape" "bytes" "[B" ∈ wsX5_numberOf := List.mem_of_getElem? (i := 1) rfl
  have q_2 : Cond.methodLink RX5 64 Lib.Math.min.name ∈ wsX5_numberOf := List.mem_of_getElem? (i := 2) rfl
  have q_3 : Cond.static Lib.Math.min.name ∈ wsX5_numberOf := List.mem_of_getElem? (i := 3) rfl
  have q_4 : Cond.initialized "java/lang/Math" ∈ wsX5_numberOf := List.mem_of_getElem? (i := 4) rfl
  have q_5 : Cond.code Lib.Math.min.name Lib.Math.min.code 2 (some .int) ∈ wsX5_numberOf := List.mem_of_getElem? (i := 5) rfl
  refine v_iconst G dX5_numberOf_0 ?_
  refine v_istore_n (lv' := [(3, .int (jI 0)), (0, .ref (b 0)), (1, .int (jI s)), (2, .int (jI z))]) G dX5_numberOf_1 rfl (by decide) rfl ?_
  refine v_iload_n (j := 2) (x := jI s) G dX5_numberOf_2 rfl rfl ?_
  refine v_istore (lv' := [(4, .int (jI s)), (3, .int (jI 0)), (0, .ref (b 0)), (1, .int (jI s)), (2, .int (jI z))]) G dX5_numberOf_3 (by decide) rfl ?_
  refine v_eqs (lv' := [(4, .int (jI (s + ((0 : Nat) : Int)))), (3, .int (jI 0)), (0, .ref (b 0)), (1, .int (jI s)), (2, .int (jI z))]) (by rw [show s + ((0 : Nat) : Int) = s from (by omega)]) rfl rfl ?_
  refine v_locs (lv' := [(4, .int (jI (s + ((0 : Nat) : Int)))), (3, .int (jI 0)), (0, .ref (b 0)), (1, .int (jI s)), (2, .int (jI z))]) [0, 1, 2, 3, 4] rfl ?_
  refine v_loop1 (fun (k : Nat) => [(4, .int (jI (s + (k : Int)))), (3, .int (jI (nvN (xB t) s k))), (0, .ref (b 0)), (1, .int (jI s)), (2, .int (jI z))]) (fun (k : Nat) => (gT cB b t)) (fun (k : Nat) => s + (k : Int) ≤ z ∧ ∀ j_ : Int, s ≤ j_ → j_ < s + (k : Int) → dg (xB t) j_) (fun (k : Nat) => (z - s).toNat - k) 0 ⟨by omega, fun j_ q0 q1 => by omega⟩ rfl rfl ?_
  intro k I_1 ih_2
  obtain ⟨hk1, hk2⟩ := id I_1
  refine v_iload (j := 0) (x := jI (s + (k : Int))) G dX5_numberOf_5 rfl ?_
  refine v_iload_n (j := 4) (x := jI z) G dX5_numberOf_7 rfl rfl ?_
  refine v_icmp_ge (a := s + (k : Int)) (b := z) (tgt := 52) G dX5_numberOf_8 (by decide) (by omega) (fun c_3 => ?_) (fun c_3 => ?_)
  · skip
    have hres : nvN (xB t) s k = vl (xB t) s := by first | exact nvX ht hs hk2 (Or.inl (by omega)) | exact nvX ht hs hk2 (Or.inr (fun q => absurd ((dg_xB ht (by omega)).mp q) (by assumption)))
    refine v_iload_n (j := 1) (x := jI (nvN (xB t) s k)) G dX5_numberOf_52 rfl rfl ?_
    exact v_iret G () (show jI (nvN (xB t) s k) = jI (vl (xB t) s) from congrArg jI hres) rfl dX5_numberOf_53
  · skip
    refine v_aload_n (j := 2) (x := b 0) G dX5_numberOf_11 rfl rfl ?_
    refine v_get (q0 := 0) (k := 0) (v := .ref (b 1)) G k_X4 rfl rfl (by decide) q_1 rfl rfl dX5_numberOf_12 ?_
    refine v_iload (j := 0) (x := jI (s + (k : Int))) G dX5_numberOf_15 rfl ?_
    have htb := ht.2 (s + (k : Int)) (by omega) (by omega)
    refine v_bald (q0 := 1) (t0 := 2) (g := t.1) (z := s + (k : Int)) G rfl rfl (by omega) dX5_numberOf_17 ?_
    refine v_ciN G (rn_S (As := [.int (jI (t.1 (s + (k : Int))))]) (rest := []) G (c_X5_isDigit (v := t.1 (s + (k : Int))) (hr := (by omega))) gX5_numberOf_X5_isDigit rfl hdX5_isDigit ⟨rfl, rfl, Nat.le_of_ble_eq_true rfl, Nat.le_of_ble_eq_true rfl⟩ rfl rfl (Nat.le_of_ble_eq_true rfl) ⟨Nat.zero_le _, Nat.zero_le _⟩ dX5_numberOf_18) (fun r_4 u_6 e_5 => ?_)
    have e_5 : r_4 = jI (b2 (48 ≤ (t.1 (s + (k : Int))) ∧ (t.1 (s + (k : Int))) ≤ 57)) := e_5
    subst e_5
    refine v_ifb_eq (P := 48 ≤ (t.1 (s + (k : Int))) ∧ (t.1 (s + (k : Int))) ≤ 57) (tgt := 52) G dX5_numberOf_21 (by decide) (fun c_7 => ?_) (fun c_7 => ?_)
    · skip
      have hres : nvN (xB t) s k = vl (xB t) s := by first | exact nvX ht hs hk2 (Or.inl (by omega)) | exact nvX ht hs hk2 (Or.inr (fun q => absurd ((dg_xB ht (by omega)).mp q) (by assumption)))
      refine v_iload_n (j := 1) (x := jI (nvN (xB t) s k)) G dX5_numberOf_52 rfl rfl ?_
      exact v_iret G () (show jI (nvN (xB t) s k) = jI (vl (xB t) s) from congrArg jI hres) rfl dX5_numberOf_53
    · skip
      have hd2 : dg (xB t) (s + (k : Int)) := (dg_xB ht (by omega)).mpr (by assumption)
      have hcv := xB_v ht (j := s + (k : Int)) (by omega) (by omega)
      have hnv := nv_r k hk2
      refine v_sipush G dX5_numberOf_24 (by decide) ?_
      refine v_iload_n (j := 1) (x := jI (nvN (xB t) s k)) G dX5_numberOf_27 rfl rfl ?_
      refine v_bipush G dX5_numberOf_28 (by decide) ?_
      refine v_imul (z := (nvN (xB t) s k) * 10) G dX5_numberOf_30 rfl ?_
      refine v_aload_n (j := 2) (x := b 0) G dX5_numberOf_31 rfl rfl ?_
      refine v_get (q0 := 0) (k := 0) (v := .ref (b 1)) G k_X4 rfl rfl (by decide) q_1 rfl rfl dX5_numberOf_32 ?_
      refine v_iload (j := 0) (x := jI (s + (k : Int))) G dX5_numberOf_35 rfl ?_
      refine v_bald (q0 := 1) (t0 := 2) (g := t.1) (z := s + (k : Int)) G rfl rfl (by omega) dX5_numberOf_37 ?_
      refine v_bipush G dX5_numberOf_38 (by decide) ?_
      refine v_isub (z := (t.1 (s + (k : Int))) - 48) G dX5_numberOf_40 rfl ?_
      refine v_iadd (z := ((nvN (xB t) s k) * 10) + ((t.1 (s + (k : Int))) - 48)) G dX5_numberOf_41 rfl ?_
      refine v_mmin (z := jmin 1000 (((nvN (xB t) s k) * 10) + ((t.1 (s + (k : Int))) - 48))) G q_2 q_3 q_4 q_5 ⟨Nat.le_of_ble_eq_true rfl, Nat.le_of_ble_eq_true rfl, Nat.zero_le _, Nat.zero_le _⟩ (by omega) (jmin_z 1000 (((nvN (xB t) s k) * 10) + ((t.1 (s + (k : Int))) - 48))) dX5_numberOf_42 ?_
      refine v_topj (x := jmin 1000 (((nvN (xB t) s k) * 10) + ((t.1 (s + (k : Int))) - 48))) (y := nvN (xB t) s (k + 1)) (by show jmin 1000 _ = jmin 1000 _; rw [hcv]) ?_
      refine v_istore_n (lv' := [(3, .int (jI (nvN (xB t) s (k + 1)))), (4, .int (jI (s + (k : Int)))), (0, .ref (b 0)), (1, .int (jI s)), (2, .int (jI z))]) G dX5_numberOf_45 rfl (by decide) rfl ?_
      refine v_iinc (k := 1) (z := s + (k : Int)) (z' := s + ((k + 1 : Nat) : Int)) (lv' := [(4, .int (jI (s + ((k + 1 : Nat) : Int)))), (3, .int (jI (nvN (xB t) s (k + 1)))), (0, .ref (b 0)), (1, .int (jI s)), (2, .int (jI z))]) G dX5_numberOf_46 rfl (by omega) (by decide) rfl ?_
      refine v_goto (tgt := 5) G dX5_numberOf_49 (by decide) ?_
      exact ih_2 (k + 1) ⟨by omega, fun j_ q0 q1 => by by_cases qe : j_ = s + (k : Int); subst qe; exact hd2; exact I_1.2 j_ q0 (by omega)⟩ (by omega)

set_option maxHeartbeats 4000000 in
set_option maxRecDepth 100000 in
theorem c_X5_tokenEnd (s : Int) (ht : Tf t) (hs : 0 ≤ s ∧ s < t.2) : Ci l yX5_tokenEnd wsX5_tokenEnd { frames := 1, cells := 0, slots := 0, locals := 20 } D (jT cI cL cB cS) [.ref (b 0), .int (jI s)] (gT cB b t) (S := Unit) (fun _ => (gT cB b t)) (fun r _ => r = jI (te (xB t) s)) := by
  refine Ci.mk (cc := cX5_tokenEnd) (maxL := 3) (rt := .int) (by decide) rfl (Nat.le_of_ble_eq_true rfl) rfl ?_
  intro p_ e_ s_ m_ b_ me_ c_ A_ G hnm
  have hn := ht.1
  have k_X4 : ∀ w ∈ u_ws RX4 TX4 2, w ∈ wsX5_tokenEnd := fun _ h => List.mem_cons_of_mem _ (List.mem_append_right _ h)
  have q_1 : Cond.fieldLink RX5 30 "SupperLight$Tape" "bytes" "[B" ∈ wsX5_tokenEnd := List.mem_of_getElem? (i := 1) rfl
  have q_2 : Cond.fieldLink RX5 25 "SupperLight$Tape" "size" "I" ∈ wsX5_tokenEnd := List.mem_of_getElem? (i := 2) rfl
  refine v_iload_n (j := 1) (x := jI s) G dX5_tokenEnd_0 rfl rfl ?_
  refine v_iconst G dX5_tokenEnd_1 ?_
  refine v_iadd (z := s + 1) G dX5_tokenEnd_2 rfl ?_
  refine v_istore_n (lv' := [(2, .int (jI (s + 1))), (0, .ref (b 0)), (1, .int (jI s))]) G dX5_tokenEnd_3 rfl (by decide) rfl ?_
  have htb := ht.2 s (by omega) (by omega)
  refine v_aload_n (j := 1) (x := b 0) G dX5_tokenEnd_4 rfl rfl ?_
  refine v_get (q0 := 0) (k := 0) (v := .ref (b 1)) G k_X4 rfl rfl (by decide) q_1 rfl rfl dX5_tokenEnd_5 ?_
  refine v_iload_n (j := 2) (x := jI s) G dX5_tokenEnd_8 rfl rfl ?_
  refine v_bald (q0 := 1) (t0 := 2) (g := t.1) (z := s) G rfl rfl (by omega) dX5_tokenEnd_9 ?_
  refine v_ciN G (rn_S (As := [.int (jI (t.1 s))]) (rest := []) G (c_X5_isLetter (v := t.1 s) (hr := (by omega))) gX5_tokenEnd_X5_isLetter rfl hdX5_isLetter ⟨rfl, rfl, Nat.le_of_ble_eq_true rfl, Nat.le_of_ble_eq_true rfl⟩ rfl rfl (Nat.le_of_ble_eq_true rfl) ⟨Nat.zero_le _, Nat.zero_le _⟩ dX5_tokenEnd_10) (fun r_1 u_3 e_2 => ?_)
  have e_2 : r_1 = jI (b2 (97 ≤ (t.1 s) ∧ (t.1 s) ≤ 122)) := e_2
  subst e_2
  refine v_ifb_eq (P := 97 ≤ (t.1 s) ∧ (t.1 s) ≤ 122) (tgt := 42) G dX5_tokenEnd_13 (by decide) (fun c_4 => ?_) (fun c_4 => ?_)
  · skip
    refine v_aload_n (j := 1) (x := b 0) G dX5_tokenEnd_42 rfl rfl ?_
    refine v_get (q0 := 0) (k := 0) (v := .ref (b 1)) G k_X4 rfl rfl (by decide) q_1 rfl rfl dX5_tokenEnd_43 ?_
    refine v_iload_n (j := 2) (x := jI s) G dX5_tokenEnd_46 rfl rfl ?_
    refine v_bald (q0 := 1) (t0 := 2) (g := t.1) (z := s) G rfl rfl (by omega) dX5_tokenEnd_47 ?_
    refine v_ciN G (rn_S (As := [.int (jI (t.1 s))]) (rest := []) G (c_X5_isDigit (v := t.1 s) (hr := (by omega))) gX5_tokenEnd_X5_isDigit rfl hdX5_isDigit ⟨rfl, rfl, Nat.le_of_ble_eq_true rfl, Nat.le_of_ble_eq_true rfl⟩ rfl rfl (Nat.le_of_ble_eq_true rfl) ⟨Nat.zero_le _, Nat.zero_le _⟩ dX5_tokenEnd_48) (fun r_5 u_7 e_6 => ?_)
    have e_6 : r_5 = jI (b2 (48 ≤ (t.1 s) ∧ (t.1 s) ≤ 57)) := e_6
    subst e_6
    refine v_ifb_eq (P := 48 ≤ (t.1 s) ∧ (t.1 s) ≤ 57) (tgt := 80) G dX5_tokenEnd_51 (by decide) (fun c_8 => ?_) (fun c_8 => ?_)
    · skip
      refine v_iload_n (j := 0) (x := jI (s + 1)) G dX5_tokenEnd_80 rfl rfl ?_
      exact v_iret G () (show jI (s + 1) = jI (te (xB t) s) from congrArg jI (by first | exact teL ht hs hk1 hk2 (Or.inl (by omega)) | exact teL ht hs hk1 hk2 (Or.inr (by assumption)) | exact teD ht hs hk1 hk2 (Or.inl (by omega)) | exact teD ht hs hk1 hk2 (Or.inr (by assumption)) | exact (te_o (fun q => absurd ((lo_xB ht (by omega)).mp q) (by assumption)) (fun q => absurd ((dg_xB ht (by omega)).mp q) (by assumption))).symm)) rfl dX5_tokenEnd_81
    · skip
      have hl0 : dg (xB t) s := (dg_xB ht (by omega)).mpr (by assumption)
      refine v_eqs (lv' := [(2, .int (jI (s + 1 + ((0 : Nat) : Int)))), (0, .ref (b 0)), (1, .int (jI s))]) (by rw [show s + 1 + ((0 : Nat) : Int) = s + 1 from (by omega)]) rfl rfl ?_
      refine v_locs (lv' := [(2, .int (jI (s + 1 + ((0 : Nat) : Int)))), (0, .ref (b 0)), (1, .int (jI s))]) [0, 1, 2] rfl ?_
      refine v_loop1 (fun (k : Nat) => [(2, .int (jI (s + 1 + (k : Int)))), (0, .ref (b 0)), (1, .int (jI s))]) (fun (k : Nat) => (gT cB b t)) (fun (k : Nat) => s + 1 + (k : Int) ≤ t.2 ∧ ∀ j_ : Int, s ≤ j_ → j_ < s + 1 + (k : Int) → dg (xB t) j_) (fun (k : Nat) => t.2.toNat - k) 0 ⟨by omega, fun j_ q0 q1 => by rw [show j_ = s by omega]; exact hl0⟩ rfl rfl ?_
      intro k I_9 ih_10
      obtain ⟨hk1, hk2⟩ := id I_9
      refine v_iload_n (j := 0) (x := jI (s + 1 + (k : Int))) G dX5_tokenEnd_54 rfl rfl ?_
      refine v_aload_n (j := 1) (x := b 0) G dX5_tokenEnd_55 rfl rfl ?_
      refine v_get (q0 := 0) (k := 1) (v := .int (jI t.2)) G k_X4 rfl rfl (by decide) q_2 rfl rfl dX5_tokenEnd_56 ?_
      refine v_icmp_ge (a := s + 1 + (k : Int)) (b := t.2) (tgt := 80) G dX5_tokenEnd_59 (by decide) (by omega) (fun c_11 => ?_) (fun c_11 => ?_)
      · skip
        refine v_iload_n (j := 0) (x := jI (s + 1 + (k : Int))) G dX5_tokenEnd_80 rfl rfl ?_
        exact v_iret G () (show jI (s + 1 + (k : Int)) = jI (te (xB t) s) from congrArg jI (by first | exact teL ht hs hk1 hk2 (Or.inl (by omega)) | exact teL ht hs hk1 hk2 (Or.inr (by assumption)) | exact teD ht hs hk1 hk2 (Or.inl (by omega)) | exact teD ht hs hk1 hk2 (Or.inr (by assumption)) | exact (te_o (fun q => absurd ((lo_xB ht (by omega)).mp q) (by assumption)) (fun q => absurd ((dg_xB ht (by omega)).mp q) (by assumption))).symm)) rfl dX5_tokenEnd_81
      · skip
        have htk := ht.2 (s + 1 + (k : Int)) (by omega) (by omega)
        refine v_aload_n (j := 1) (x := b 0) G dX5_tokenEnd_62 rfl rfl ?_
        refine v_get (q0 := 0) (k := 0) (v := .ref (b 1)) G k_X4 rfl rfl (by decide) q_1 rfl rfl dX5_tokenEnd_63 ?_
        refine v_iload_n (j := 0) (x := jI (s + 1 + (k : Int))) G dX5_tokenEnd_66 rfl rfl ?_
        refine v_bald (q0 := 1) (t0 := 2) (g := t.1) (z := s + 1 + (k : Int)) G rfl rfl (by omega) dX5_tokenEnd_67 ?_
        refine v_ciN G (rn_S (As := [.int (jI (t.1 (s + 1 + (k : Int))))]) (rest := []) G (c_X5_isDigit (v := t.1 (s + 1 + (k : Int))) (hr := (by omega))) gX5_tokenEnd_X5_isDigit rfl hdX5_isDigit ⟨rfl, rfl, Nat.le_of_ble_eq_true rfl, Nat.le_of_ble_eq_true rfl⟩ rfl rfl (Nat.le_of_ble_eq_true rfl) ⟨Nat.zero_le _, Nat.zero_le _⟩ dX5_tokenEnd_68) (fun r_12 u_14 e_13 => ?_)
        have e_13 : r_12 = jI (b2 (48 ≤ (t.1 (s + 1 + (k : Int))) ∧ (t.1 (s + 1 + (k : Int))) ≤ 57)) := e_13
        subst e_13
        refine v_ifb_eq (P := 48 ≤ (t.1 (s + 1 + (k : Int))) ∧ (t.1 (s + 1 + (k : Int))) ≤ 57) (tgt := 80) G dX5_tokenEnd_71 (by decide) (fun c_15 => ?_) (fun c_15 => ?_)
        · skip
          refine v_iload_n (j := 0) (x := jI (s + 1 + (k : Int))) G dX5_tokenEnd_80 rfl rfl ?_
          exact v_iret G () (show jI (s + 1 + (k : Int)) = jI (te (xB t) s) from congrArg jI (by first | exact teL ht hs hk1 hk2 (Or.inl (by omega)) | exact teL ht hs hk1 hk2 (Or.inr (by assumption)) | exact teD ht hs hk1 hk2 (Or.inl (by omega)) | exact teD ht hs hk1 hk2 (Or.inr (by assumption)) | exact (te_o (fun q => absurd ((lo_xB ht (by omega)).mp q) (by assumption)) (fun q => absurd ((dg_xB ht (by omega)).mp q) (by assumption))).symm)) rfl dX5_tokenEnd_81
        · skip
          refine v_iinc (k := 0) (z := s + 1 + (k : Int)) (z' := s + 1 + ((k + 1 : Nat) : Int)) (lv' := [(2, .int (jI (s + 1 + ((k + 1 : Nat) : Int)))), (0, .ref (b 0)), (1, .int (jI s))]) G dX5_tokenEnd_74 rfl (by omega) (by decide) rfl ?_
          refine v_goto (tgt := 54) G dX5_tokenEnd_77 (by decide) ?_
          exact ih_10 (k + 1) ⟨by omega, fun j_ q0 q1 => by by_cases qe : j_ = s + 1 + (k : Int); subst qe; exact (dg_xB ht (by omega)).mpr (by assumption); exact I_9.2 j_ q0 (by omega)⟩ (by omega)
  · skip
    have hl0 : lo (xB t) s := (lo_xB ht (by omega)).mpr (by assumption)
    refine v_eqs (lv' := [(2, .int (jI (s + 1 + ((0 : Nat) : Int)))), (0, .ref (b 0)), (1, .int (jI s))]) (by rw [show s + 1 + ((0 : Nat) : Int) = s + 1 from (by omega)]) rfl rfl ?_
    refine v_locs (lv' := [(2, .int (jI (s + 1 + ((0 : Nat) : Int)))), (0, .ref (b 0)), (1, .int (jI s))]) [0, 1, 2] rfl ?_
    refine v_loop1 (fun (k : Nat) => [(2, .int (jI (s + 1 + (k : Int)))), (0, .ref (b 0)), (1, .int (jI s))]) (fun (k : Nat) => (gT cB b t)) (fun (k : Nat) => s + 1 + (k : Int) ≤ t.2 ∧ ∀ j_ : Int, s ≤ j_ → j_ < s + 1 + (k : Int) → lo (xB t) j_) (fun (k : Nat) => t.2.toNat - k) 0 ⟨by omega, fun j_ q0 q1 => by rw [show j_ = s by omega]; exact hl0⟩ rfl rfl ?_
    intro k I_16 ih_17
    obtain ⟨hk1, hk2⟩ := id I_16
    refine v_iload_n (j := 0) (x := jI (s + 1 + (k : Int))) G dX5_tokenEnd_16 rfl rfl ?_
    refine v_aload_n (j := 1) (x := b 0) G dX5_tokenEnd_17 rfl rfl ?_
    refine v_get (q0 := 0) (k := 1) (v := .int (jI t.2)) G k_X4 rfl rfl (by decide) q_2 rfl rfl dX5_tokenEnd_18 ?_
    refine v_icmp_ge (a := s + 1 + (k : Int)) (b := t.2) (tgt := 80) G dX5_tokenEnd_21 (by decide) (by omega) (fun c_18 => ?_) (fun c_18 => ?_)
    · skip
      refine v_iload_n (j := 0) (x := jI (s + 1 + (k : Int))) G dX5_tokenEnd_80 rfl rfl ?_
      exact v_iret G () (show jI (s + 1 + (k : Int)) = jI (te (xB t) s) from congrArg jI (by first | exact teL ht hs hk1 hk2 (Or.inl (by omega)) | exact teL ht hs hk1 hk2 (Or.inr (by assumption)) | exact teD ht hs hk1 hk2 (Or.inl (by omega)) | exact teD ht hs hk1 hk2 (Or.inr (by assumption)) | exact (te_o (fun q => absurd ((lo_xB ht (by omega)).mp q) (by assumption)) (fun q => absurd ((dg_xB ht (by omega)).mp q) (by assumption))).symm)) rfl dX5_tokenEnd_81
    · skip
      have htk := ht.2 (s + 1 + (k : Int)) (by omega) (by omega)
      refine v_aload_n (j := 1) (x := b 0) G dX5_tokenEnd_24 rfl rfl ?_
      refine v_get (q0 := 0) (k := 0) (v := .ref (b 1)) G k_X4 rfl rfl (by decide) q_1 rfl rfl dX5_tokenEnd_25 ?_
      refine v_iload_n (j := 0) (x := jI (s + 1 + (k : Int))) G dX5_tokenEnd_28 rfl rfl ?_
      refine v_bald (q0 := 1) (t0 := 2) (g := t.1) (z := s + 1 + (k : Int)) G rfl rfl (by omega) dX5_tokenEnd_29 ?_
      refine v_ciN G (rn_S (As := [.int (jI (t.1 (s + 1 + (k : Int))))]) (rest := []) G (c_X5_isLetter (v := t.1 (s + 1 + (k : Int))) (hr := (by omega))) gX5_tokenEnd_X5_isLetter rfl hdX5_isLetter ⟨rfl, rfl, Nat.le_of_ble_eq_true rfl, Nat.le_of_ble_eq_true rfl⟩ rfl rfl (Nat.le_of_ble_eq_true rfl) ⟨Nat.zero_le _, Nat.zero_le _⟩ dX5_tokenEnd_30) (fun r_19 u_21 e_20 => ?_)
      have e_20 : r_19 = jI (b2 (97 ≤ (t.1 (s + 1 + (k : Int))) ∧ (t.1 (s + 1 + (k : Int))) ≤ 122)) := e_20
      subst e_20
      refine v_ifb_eq (P := 97 ≤ (t.1 (s + 1 + (k : Int))) ∧ (t.1 (s + 1 + (k : Int))) ≤ 122) (tgt := 80) G dX5_tokenEnd_33 (by decide) (fun c_22 => ?_) (fun c_22 => ?_)
      · skip
        refine v_iload_n (j := 0) (x := jI (s + 1 + (k : Int))) G dX5_tokenEnd_80 rfl rfl ?_
        exact v_iret G () (show jI (s + 1 + (k : Int)) = jI (te (xB t) s) from congrArg jI (by first | exact teL ht hs hk1 hk2 (Or.inl (by omega)) | exact teL ht hs hk1 hk2 (Or.inr (by assumption)) | exact teD ht hs hk1 hk2 (Or.inl (by omega)) | exact teD ht hs hk1 hk2 (Or.inr (by assumption)) | exact (te_o (fun q => absurd ((lo_xB ht (by omega)).mp q) (by assumption)) (fun q => absurd ((dg_xB ht (by omega)).mp q) (by assumption))).symm)) rfl dX5_tokenEnd_81
      · skip
        refine v_iinc (k := 0) (z := s + 1 + (k : Int)) (z' := s + 1 + ((k + 1 : Nat) : Int)) (lv' := [(2, .int (jI (s + 1 + ((k + 1 : Nat) : Int)))), (0, .ref (b 0)), (1, .int (jI s))]) G dX5_tokenEnd_36 rfl (by omega) (by decide) rfl ?_
        refine v_goto (tgt := 16) G dX5_tokenEnd_39 (by decide) ?_
        exact ih_17 (k + 1) ⟨by omega, fun j_ q0 q1 => by by_cases qe : j_ = s + 1 + (k : Int); subst qe; exact (lo_xB ht (by omega)).mpr (by assumption); exact I_16.2 j_ q0 (by omega)⟩ (by omega)

set_option maxHeartbeats 4000000 in
set_option maxRecDepth 100000 in
theorem c_X5_codeOf (s z : Int) (ht : Tf t) (hs : 0 ≤ s ∧ s < t.2) (hz : z = te (xB t) s) : Ci l yX5_codeOf wsX5_codeOf { frames := 5, cells := 0, slots := 0, locals := 109 } D (jT cI cL cB cS) [.ref (b 0), .int (jI s), .int (jI z)] (gT cB b t) (S := Unit) (fun _ => (gT cB b t)) (fun r _ => r = jI (cdF (xB t) s)) := by
  refine Ci.mk (cc := cX5_codeOf) (maxL := 4) (rt := .int) (by decide) rfl (Nat.le_of_ble_eq_true rfl) rfl ?_
  intro p_ e_ s_ m_ b_ me_ c_ A_ G hnm
  have hn := ht.1
  have hte := te_p (xB_k ht) hs
  have k_X4 : ∀ w ∈ u_ws RX4 TX4 2, w ∈ wsX5_codeOf := fun _ h => List.mem_cons_of_mem _ (List.mem_append_right _ h)
  have q_1 : Cond.fieldLink RX5 30 "SupperLight$Tape" "bytes" "[B" ∈ wsX5_codeOf := List.mem_of_getElem? (i := 1) rfl
  refine v_aload_n (j := 0) (x := b 0) G dX5_codeOf_0 rfl rfl ?_
  refine v_get (q0 := 0) (k := 0) (v := .ref (b 1)) G k_X4 rfl rfl (by decide) q_1 rfl rfl dX5_codeOf_1 ?_
  refine v_iload_n (j := 1) (x := jI s) G dX5_codeOf_4 rfl rfl ?_
  have htb := ht.2 s (by omega) (by omega)
  refine v_bald (q0 := 1) (t0 := 2) (g := t.1) (z := s) G rfl rfl (by omega) dX5_codeOf_5 ?_
  refine v_ciN G (rn_S (As := [.int (jI (t.1 s))]) (rest := []) G (c_X5_isDigit (v := t.1 s) (hr := (by omega))) gX5_codeOf_X5_isDigit rfl hdX5_isDigit ⟨rfl, rfl, Nat.le_of_ble_eq_true rfl, Nat.le_of_ble_eq_true rfl⟩ rfl rfl (Nat.le_of_ble_eq_true rfl) ⟨Nat.zero_le _, Nat.zero_le _⟩ dX5_codeOf_6) (fun r_1 u_3 e_2 => ?_)
  have e_2 : r_1 = jI (b2 (48 ≤ (t.1 s) ∧ (t.1 s) ≤ 57)) := e_2
  subst e_2
  refine v_ifb_eq (P := 48 ≤ (t.1 s) ∧ (t.1 s) ≤ 57) (tgt := 15) G dX5_codeOf_9 (by decide) (fun c_4 => ?_) (fun c_4 => ?_)
  · skip
    refine v_aload_n (j := 0) (x := b 0) G dX5_codeOf_15 rfl rfl ?_
    refine v_get (q0 := 0) (k := 0) (v := .ref (b 1)) G k_X4 rfl rfl (by decide) q_1 rfl rfl dX5_codeOf_16 ?_
    refine v_iload_n (j := 1) (x := jI s) G dX5_codeOf_19 rfl rfl ?_
    refine v_bald (q0 := 1) (t0 := 2) (g := t.1) (z := s) G rfl rfl (by omega) dX5_codeOf_20 ?_
    refine v_bipush G dX5_codeOf_21 (by decide) ?_
    refine v_icmp_ne (a := t.1 s) (b := 59) (tgt := 29) G dX5_codeOf_23 (by decide) (by omega) (fun c_5 => ?_) (fun c_5 => ?_)
    · skip
      have hnd : ¬ dg (xB t) s := fun q => absurd ((dg_xB ht (by omega)).mp q) (by assumption)
      have hns : ¬ xB t s = 59 := fun q => by have e1 := (xB_eq ht (by omega) (by omega)).mp q; omega
      have hcd : cdF (xB t) s = cwF (fun k_ => wm (xB t) s (te (xB t) s) (wdC k_)) 15 0 := by unfold cdF; rw [if_neg hnd, if_neg hns]
      refine v_iconst G dX5_codeOf_29 ?_
      refine v_istore_n (lv' := [(3, .int (jI 0)), (0, .ref (b 0)), (1, .int (jI s)), (2, .int (jI z))]) G dX5_codeOf_30 rfl (by decide) rfl ?_
      refine v_locs (lv' := [(3, .int (jI 0)), (0, .ref (b 0)), (1, .int (jI s)), (2, .int (jI z))]) [0, 1, 2, 3] rfl ?_
      refine v_loop1 (fun (k : Nat) => [(3, .int (jI (k : Int))), (0, .ref (b 0)), (1, .int (jI s)), (2, .int (jI z))]) (fun (k : Nat) => (gT cB b t)) (fun (k : Nat) => k ≤ 15 ∧ cwF (fun k_ => wm (xB t) s (te (xB t) s) (wdC k_)) (15 - k) k = cdF (xB t) s) (fun (k : Nat) => 15 - k) 0 ⟨by omega, hcd.symm⟩ rfl rfl ?_
      intro k I_6 ih_7
      obtain ⟨hk1, hk2⟩ := id I_6
      refine v_iload_n (j := 0) (x := jI (k : Int)) G dX5_codeOf_31 rfl rfl ?_
      refine v_bipush G dX5_codeOf_32 (by decide) ?_
      refine v_icmp_ge (a := (k : Int)) (b := 15) (tgt := 58) G dX5_codeOf_34 (by decide) (by omega) (fun c_8 => ?_) (fun c_8 => ?_)
      · skip
        have hres : 18 = cdF (xB t) s := (cw_o (by omega) hk2).symm
        refine v_bipush G dX5_codeOf_58 (by decide) ?_
        exact v_iret G () (show jI 18 = jI (cdF (xB t) s) from congrArg jI hres) rfl dX5_codeOf_60
      · skip
        refine v_aload_n (j := 1) (x := b 0) G dX5_codeOf_37 rfl rfl ?_
        refine v_iload_n (j := 2) (x := jI s) G dX5_codeOf_38 rfl rfl ?_
        refine v_iload_n (j := 3) (x := jI z) G dX5_codeOf_39 rfl rfl ?_
        refine v_iload_n (j := 0) (x := jI (k : Int)) G dX5_codeOf_40 rfl rfl ?_
        obtain ⟨tq_, hR_, hS_⟩ := jS_X5 G k (by omega)
        refine v_crN G (rn_SX (X := xR RX5 (80 + 2 * k) (txC k) tq_) (xR_s RX5 (80 + 2 * k) (txC k) tq_) hR_ (As := [.int (jI (k : Int))]) (rest := [.int (jI z), .int (jI s), .ref (b 0)]) G (c_X5_wordOf (k := k) (q := tq_) (by omega)) gX5_codeOf_X5_wordOf rfl hdX5_wordOf ⟨rfl, rfl, Nat.le_of_ble_eq_true rfl, Nat.le_of_ble_eq_true rfl⟩ rfl rfl (Nat.le_of_ble_eq_true rfl) ⟨Nat.zero_le _, Nat.zero_le _⟩ dX5_codeOf_41) (fun r_9 _ _ e_10 => ?_)
        have e_10 : r_9 = tq_ := e_10
        subst e_10
        refine v_ciF G (rn_SX (X := xStr r_9 ((wdC k).map jI)) (xStr_s r_9 ((wdC k).map jI)) hS_ (As := [.ref (b 0), .int (jI s), .int (jI z), .ref r_9]) (rest := []) G (c_X5_isWordAt (s := s) (z := z) (t := t) (b := b) (tq := r_9) (tw := wdC k) (ht := ht) (htw := (wdC_ok k (by omega))) (hs := (by omega))) gX5_codeOf_X5_isWordAt rfl hdX5_isWordAt ⟨rfl, rfl, Nat.le_of_ble_eq_true rfl, Nat.le_of_ble_eq_true rfl⟩ rfl rfl (Nat.le_of_ble_eq_true rfl) ⟨Nat.zero_le _, Nat.zero_le _⟩ dX5_codeOf_44) (fun r_11 u_13 e_12 => ?_)
        have e_12 : r_11 = jI (b2 (wm (xB t) s z (wdC k))) := e_12
        subst e_12
        refine v_world (ws' := (gT cB b t)) rfl ?_
        refine v_ifb_eq (P := wm (xB t) s z (wdC k)) (tgt := 52) G dX5_codeOf_47 (by decide) (fun c_14 => ?_) (fun c_14 => ?_)
        · skip
          refine v_iinc (k := 0) (z := (k : Int)) (z' := ((k + 1 : Nat) : Int)) (lv' := [(3, .int (jI ((k + 1 : Nat) : Int))), (0, .ref (b 0)), (1, .int (jI s)), (2, .int (jI z))]) G dX5_codeOf_52 rfl (by omega) (by decide) rfl ?_
          refine v_goto (tgt := 31) G dX5_codeOf_55 (by decide) ?_
          exact ih_7 (k + 1) ⟨by omega, cw_s (by omega) (by subst hz; assumption) I_6.2⟩ (by omega)
        · skip
          have hres : (k : Int) = cdF (xB t) s := (cw_i (by omega) (by subst hz; assumption) hk2).symm
          refine v_iload_n (j := 0) (x := jI (k : Int)) G dX5_codeOf_50 rfl rfl ?_
          exact v_iret G () (show jI (k : Int) = jI (cdF (xB t) s) from congrArg jI hres) rfl dX5_codeOf_51
    · skip
      have hres : 16 = cdF (xB t) s := by unfold cdF; rw [if_neg (fun q => absurd ((dg_xB ht (by omega)).mp q) (by assumption)), if_pos ((xB_eq ht (by omega) (by omega)).mpr (by omega))]
      refine v_bipush G dX5_codeOf_26 (by decide) ?_
      exact v_iret G () (show jI 16 = jI (cdF (xB t) s) from congrArg jI hres) rfl dX5_codeOf_28
  · skip
    have hres : 15 = cdF (xB t) s := by unfold cdF; rw [if_pos ((dg_xB ht (by omega)).mpr (by assumption))]
    refine v_bipush G dX5_codeOf_12 (by decide) ?_
    exact v_iret G () (show jI 15 = jI (cdF (xB t) s) from congrArg jI hres) rfl dX5_codeOf_14

set_option maxHeartbeats 4000000 in
set_option maxRecDepth 100000 in
theorem c_X5_add (v z s : Int) (hk : 0 ≤ tk.2.2.2 ∧ tk.2.2.2 ≤ 120) : Cv l yX5_add wsX5_add { frames := 0, cells := 0, slots := 0, locals := 0 } D (jT cI cL cB cS) [.ref (b 0), .int (jI v), .int (jI z), .int (jI s)] (gK cI b tk) (S := Unit) (fun _ => (gK cI b (uI tk.1 tk.2.2.2 v, uI tk.2.1 tk.2.2.2 z, uI tk.2.2.1 tk.2.2.2 s, tk.2.2.2 + 1))) (fun _ => True) := by
  refine Cv.mk (cc := cX5_add) (maxL := 4) (by decide) rfl (Nat.le_of_ble_eq_true rfl) rfl ?_
  intro p_ e_ s_ m_ b_ me_ c_ A_ G hnm
  have k_X5 : ∀ w ∈ u_ws RX5 TX5 4, w ∈ wsX5_add := fun _ h => List.mem_cons_of_mem _ (List.mem_append_right _ h)
  have q_1 : Cond.fieldLink RX5 21 "SupperLight$Tokens" "tokens" "I" ∈ wsX5_add := List.mem_of_getElem? (i := 1) rfl
  have q_2 : Cond.fieldLink RX5 9 "SupperLight$Tokens" "codes" "[I" ∈ wsX5_add := List.mem_of_getElem? (i := 2) rfl
  have q_3 : Cond.fieldLink RX5 15 "SupperLight$Tokens" "values" "[I" ∈ wsX5_add := List.mem_of_getElem? (i := 3) rfl
  have q_4 : Cond.fieldLink RX5 18 "SupperLight$Tokens" "starts" "[I" ∈ wsX5_add := List.mem_of_getElem? (i := 4) rfl
  refine v_aload_n (j := 0) (x := b 0) G dX5_add_0 rfl rfl ?_
  refine v_get (q0 := 0) (k := 3) (v := .int (jI tk.2.2.2)) G k_X5 rfl rfl (by decide) q_1 rfl rfl dX5_add_1 ?_
  refine v_bipush G dX5_add_4 (by decide) ?_
  refine v_icmp_gt (a := tk.2.2.2) (b := 120) (tgt := 49) G dX5_add_6 (by decide) (by omega) (fun c_1 => ?_) (fun c_1 => ?_)
  · skip
    exfalso; omega
  · skip
    refine v_aload_n (j := 0) (x := b 0) G dX5_add_9 rfl rfl ?_
    refine v_get (q0 := 0) (k := 0) (v := .ref (b 1)) G k_X5 rfl rfl (by decide) q_2 rfl rfl dX5_add_10 ?_
    refine v_aload_n (j := 0) (x := b 0) G dX5_add_13 rfl rfl ?_
    refine v_get (q0 := 0) (k := 3) (v := .int (jI tk.2.2.2)) G k_X5 rfl rfl (by decide) q_1 rfl rfl dX5_add_14 ?_
    refine v_iload_n (j := 1) (x := jI v) G dX5_add_17 rfl rfl ?_
    refine v_iast (q0 := 1) (t0 := 0) (g := tk.1) (z := tk.2.2.2) (x := v) (ws' := (gK cI b (uI tk.1 tk.2.2.2 v, tk.2.1, tk.2.2.1, tk.2.2.2))) G rfl rfl (by omega) rfl dX5_add_18 ?_
    refine v_aload_n (j := 0) (x := b 0) G dX5_add_19 rfl rfl ?_
    refine v_get (q0 := 0) (k := 1) (v := .ref (b 2)) G k_X5 rfl rfl (by decide) q_3 rfl rfl dX5_add_20 ?_
    refine v_aload_n (j := 0) (x := b 0) G dX5_add_23 rfl rfl ?_
    refine v_get (q0 := 0) (k := 3) (v := .int (jI tk.2.2.2)) G k_X5 rfl rfl (by decide) q_1 rfl rfl dX5_add_24 ?_
    refine v_iload_n (j := 2) (x := jI z) G dX5_add_27 rfl rfl ?_
    refine v_iast (q0 := 2) (t0 := 0) (g := tk.2.1) (z := tk.2.2.2) (x := z) (ws' := (gK cI b (uI tk.1 tk.2.2.2 v, uI tk.2.1 tk.2.2.2 z, tk.2.2.1, tk.2.2.2))) G rfl rfl (by omega) rfl dX5_add_28 ?_
    refine v_aload_n (j := 0) (x := b 0) G dX5_add_29 rfl rfl ?_
    refine v_get (q0 := 0) (k := 2) (v := .ref (b 3)) G k_X5 rfl rfl (by decide) q_4 rfl rfl dX5_add_30 ?_
    refine v_aload_n (j := 0) (x := b 0) G dX5_add_33 rfl rfl ?_
    refine v_get (q0 := 0) (k := 3) (v := .int (jI tk.2.2.2)) G k_X5 rfl rfl (by decide) q_1 rfl rfl dX5_add_34 ?_
    refine v_iload_n (j := 3) (x := jI s) G dX5_add_37 rfl rfl ?_
    refine v_iast (q0 := 3) (t0 := 0) (g := tk.2.2.1) (z := tk.2.2.2) (x := s) (ws' := (gK cI b (uI tk.1 tk.2.2.2 v, uI tk.2.1 tk.2.2.2 z, uI tk.2.2.1 tk.2.2.2 s, tk.2.2.2))) G rfl rfl (by omega) rfl dX5_add_38 ?_
    refine v_aload_n (j := 0) (x := b 0) G dX5_add_39 rfl rfl ?_
    refine v_dup G dX5_add_40 rfl ?_
    refine v_get (q0 := 0) (k := 3) (v := .int (jI tk.2.2.2)) G k_X5 rfl rfl (by decide) q_1 rfl rfl dX5_add_41 ?_
    refine v_iconst G dX5_add_44 ?_
    refine v_iadd (z := tk.2.2.2 + 1) G dX5_add_45 rfl ?_
    refine v_put (q0 := 0) (k := 3) (ty := .int) (ws' := (gK cI b (uI tk.1 tk.2.2.2 v, uI tk.2.1 tk.2.2.2 z, uI tk.2.2.1 tk.2.2.2 s, tk.2.2.2 + 1))) G k_X5 tyX5 tyX5_ok nmX5 rfl rfl (by decide) q_1 rfl rfl rfl rfl rfl (Nat.le_of_ble_eq_true rfl) rfl dX5_add_46 ?_
    exact v_vret G () trivial rfl dX5_add_49

set_option maxHeartbeats 4000000 in
set_option maxRecDepth 100000 in
theorem c_X5_cutOut  (ht : Tf t) : Cv l yX5_cutOut wsX5_cutOut { frames := 6, cells := 0, slots := 0, locals := 132 } D (jT cI cL cB cS) [.ref (b 0), .ref (c 0)] (gK cI b tk ++ gT cB c t) (S := ((Int → Int) × (Int → Int) × (Int → Int) × Int)) (fun tk2 => (gK cI b tk2 ++ gT cB c t)) (fun tk2 => TkO (xB t) t.2 tk2) := by
  refine Cv.mk (cc := cX5_cutOut) (maxL := 4) (by decide) rfl (Nat.le_of_ble_eq_true rfl) rfl ?_
  intro p_ e_ s_ m_ b_ me_ c_ A_ G hnm
  have hn := ht.1
  have k_X5 : ∀ w ∈ u_ws RX5 TX5 4, w ∈ wsX5_cutOut := fun _ h => List.mem_cons_of_mem _ (List.mem_append_left _ (List.mem_append_right _ h))
  have q_1 : Cond.fieldLink RX5 21 "SupperLight$Tokens" "tokens" "I" ∈ wsX5_cutOut := List.mem_of_getElem? (i := 1) rfl
  have k_X4 : ∀ w ∈ u_ws RX4 TX4 2, w ∈ wsX5_cutOut := fun _ h => List.mem_cons_of_mem _ (List.mem_append_right _ h)
  have q_3 : Cond.fieldLink RX5 25 "SupperLight$Tape" "size" "I" ∈ wsX5_cutOut := List.mem_of_getElem? (i := 2) rfl
  have q_4 : Cond.fieldLink RX5 30 "SupperLight$Tape" "bytes" "[B" ∈ wsX5_cutOut := List.mem_of_getElem? (i := 3) rfl
  refine v_aload_n (j := 0) (x := b 0) G dX5_cutOut_0 rfl rfl ?_
  refine v_iconst G dX5_cutOut_1 ?_
  refine v_put (q0 := 0) (k := 3) (ty := .int) (ws' := (gK cI b (tk.1, tk.2.1, tk.2.2.1, 0) ++ gT cB c t)) G k_X5 tyX5 tyX5_ok nmX5 rfl rfl (by decide) q_1 rfl rfl rfl rfl rfl (Nat.le_of_ble_eq_true rfl) rfl dX5_cutOut_2 ?_
  refine v_iconst G dX5_cutOut_5 ?_
  refine v_istore_n (lv' := [(2, .int (jI 0)), (0, .ref (b 0)), (1, .ref (c 0))]) G dX5_cutOut_6 rfl (by decide) rfl ?_
  refine v_iconst G dX5_cutOut_7 ?_
  refine v_istore_n (lv' := [(3, .int (jI 0)), (2, .int (jI 0)), (0, .ref (b 0)), (1, .ref (c 0))]) G dX5_cutOut_8 rfl (by decide) rfl ?_
  refine v_locs (lv' := [(3, .int (jI 0)), (2, .int (jI 0)), (0, .ref (b 0)), (1, .ref (c 0))]) [0, 1, 2, 3] rfl ?_
  refine v_loop6 (fun (j : Nat) (e : Int) (i : Nat) (x1 : Int → Int) (x2 : Int → Int) (x3 : Int → Int) => [(3, .int (jI (j : Int))), (2, .int (jI e)), (0, .ref (b 0)), (1, .ref (c 0))]) (fun (j : Nat) (e : Int) (i : Nat) (x1 : Int → Int) (x2 : Int → Int) (x3 : Int → Int) => (gK cI b (x1, x2, x3, (i : Int)) ++ gT cB c t)) (fun (j : Nat) (e : Int) (i : Nat) (x1 : Int → Int) (x2 : Int → Int) (x3 : Int → Int) => (j : Int) ≤ t.2 ∧ TkI (xB t) t.2 j e i x1 x2 x3) (fun (j : Nat) (e : Int) (i : Nat) (x1 : Int → Int) (x2 : Int → Int) (x3 : Int → Int) => t.2.toNat - j) 0 0 0 tk.1 tk.2.1 tk.2.2.1 ⟨by omega, TkI_0 ht⟩ rfl rfl ?_
  intro j e i x1 x2 x3 I_1 ih_2
  have hI := id I_1
  refine v_iload_n (j := 0) (x := jI (j : Int)) G dX5_cutOut_9 rfl rfl ?_
  refine v_aload_n (j := 3) (x := c 0) G dX5_cutOut_10 rfl rfl ?_
  refine v_get (q0 := 4) (k := 1) (v := .int (jI t.2)) G k_X4 rfl rfl (by decide) q_3 rfl rfl dX5_cutOut_11 ?_
  refine v_icmp_ge (a := (j : Int)) (b := t.2) (tgt := 62) G dX5_cutOut_14 (by decide) (by omega) (fun c_3 => ?_) (fun c_3 => ?_)
  · skip
    obtain rfl : j = t.2.toNat := by omega
    obtain ⟨he1, he2, hi1, hi2⟩ := TkI_r ht (by omega) hI.2
    refine v_aload_n (j := 2) (x := b 0) G dX5_cutOut_62 rfl rfl ?_
    refine v_bipush G dX5_cutOut_63 (by decide) ?_
    refine v_iconst G dX5_cutOut_65 ?_
    refine v_aload_n (j := 3) (x := c 0) G dX5_cutOut_66 rfl rfl ?_
    refine v_get (q0 := 4) (k := 1) (v := .int (jI t.2)) G k_X4 rfl rfl (by decide) q_3 rfl rfl dX5_cutOut_67 ?_
    refine v_cvG (w2 := (fun _ => (gK cI b (uI x1 (i : Int) 17, uI x2 (i : Int) 0, uI x3 (i : Int) t.2, (i : Int) + 1) ++ gT cB c t))) G [gK cI b (x1, x2, x3, (i : Int)), gT cB c t] [gK cI b (x1, x2, x3, (i : Int))] [gT cB c t] (fun _ => [gK cI b (uI x1 (i : Int) 17, uI x2 (i : Int) 0, uI x3 (i : Int) t.2, (i : Int) + 1), gT cB c t]) (fun _ => [gK cI b (uI x1 (i : Int) 17, uI x2 (i : Int) 0, uI x3 (i : Int) t.2, (i : Int) + 1)]) [0] (rn_V (As := [.int (jI 17), .int (jI 0), .int (jI t.2)]) (rest := []) (q0 := 0) G (c_X5_add (v := 17) (z := 0) (s := t.2) (tk := (x1, x2, x3, (i : Int))) (b := b) (hk := (by show 0 ≤ (i : Int) ∧ (i : Int) ≤ 120; omega))) gX5_cutOut_X5_add rfl hdX5_add ⟨rfl, rfl, Nat.le_of_ble_eq_true rfl, Nat.le_of_ble_eq_true rfl⟩ rfl rfl (Nat.le_of_ble_eq_true rfl) ⟨Nat.zero_le _, Nat.zero_le _⟩ rfl rfl dX5_cutOut_70) rfl rfl rfl (fun _ => rfl) (fun _ => rfl) (fun _ => rfl) (fun u_6 e_5 => ?_)
    refine v_world (ws' := (gK cI b (uI x1 (i : Int) 17, uI x2 (i : Int) 0, uI x3 (i : Int) t.2, (i : Int) + 1) ++ gT cB c t)) rfl ?_
    exact v_vret G (uI x1 (i : Int) 17, uI x2 (i : Int) 0, uI x3 (i : Int) t.2, (i : Int) + 1) (TkI_e ht hI.2) rfl dX5_cutOut_73
  · skip
    obtain ⟨he1, he2, hi1, hi2⟩ := TkI_r ht (by omega) hI.2
    refine v_iload_n (j := 0) (x := jI (j : Int)) G dX5_cutOut_17 rfl rfl ?_
    refine v_iload_n (j := 1) (x := jI e) G dX5_cutOut_18 rfl rfl ?_
    refine v_icmp_lt (a := (j : Int)) (b := e) (tgt := 56) G dX5_cutOut_19 (by decide) (by omega) (fun c_7 => ?_) (fun c_7 => ?_)
    · skip
      have hskip : (j : Int) < e ∨ xB t (j : Int) = 32 := by first | exact Or.inl (by omega) | exact Or.inr ((xB_eq ht (by omega) (by omega)).mpr (by omega))
      refine v_iinc (k := 0) (z := (j : Int)) (z' := ((j + 1 : Nat) : Int)) (lv' := [(3, .int (jI ((j + 1 : Nat) : Int))), (2, .int (jI e)), (0, .ref (b 0)), (1, .ref (c 0))]) G dX5_cutOut_56 rfl (by omega) (by decide) rfl ?_
      refine v_goto (tgt := 9) G dX5_cutOut_59 (by decide) ?_
      exact ih_2 (j + 1) e i x1 x2 x3 ⟨by omega, TkI_n I_1.2 hskip ⟨(sk_p (xB_k ht) he1).2.2.2, (sk_p (xB_k ht) he1).1⟩⟩ (by omega)
    · skip
      refine v_aload_n (j := 3) (x := c 0) G dX5_cutOut_22 rfl rfl ?_
      refine v_get (q0 := 4) (k := 0) (v := .ref (c 1)) G k_X4 rfl rfl (by decide) q_4 rfl rfl dX5_cutOut_23 ?_
      refine v_iload_n (j := 0) (x := jI (j : Int)) G dX5_cutOut_26 rfl rfl ?_
      have htb := ht.2 (j : Int) (by omega) (by omega)
      refine v_bald (q0 := 5) (t0 := 2) (g := t.1) (z := (j : Int)) G rfl rfl (by omega) dX5_cutOut_27 ?_
      refine v_bipush G dX5_cutOut_28 (by decide) ?_
      refine v_icmp_eq (a := t.1 (j : Int)) (b := 32) (tgt := 56) G dX5_cutOut_30 (by decide) (by omega) (fun c_8 => ?_) (fun c_8 => ?_)
      · skip
        have hskip : (j : Int) < e ∨ xB t (j : Int) = 32 := by first | exact Or.inl (by omega) | exact Or.inr ((xB_eq ht (by omega) (by omega)).mpr (by omega))
        refine v_iinc (k := 0) (z := (j : Int)) (z' := ((j + 1 : Nat) : Int)) (lv' := [(3, .int (jI ((j + 1 : Nat) : Int))), (2, .int (jI e)), (0, .ref (b 0)), (1, .ref (c 0))]) G dX5_cutOut_56 rfl (by omega) (by decide) rfl ?_
        refine v_goto (tgt := 9) G dX5_cutOut_59 (by decide) ?_
        exact ih_2 (j + 1) e i x1 x2 x3 ⟨by omega, TkI_n I_1.2 hskip ⟨(sk_p (xB_k ht) he1).2.2.2, (sk_p (xB_k ht) he1).1⟩⟩ (by omega)
      · skip
        have hnb : ¬ xB t (j : Int) = 32 := fun q => by have e1 := (xB_eq ht (by omega) (by omega)).mp q; omega
        have hte := te_p (xB_k ht) (p := (j : Int)) (by omega)
        have hcd := cdF_r (xB t) (j : Int)
        have hvl := vl_r (xB_k ht) (q := (j : Int)) (by omega)
        refine v_aload_n (j := 3) (x := c 0) G dX5_cutOut_33 rfl rfl ?_
        refine v_iload_n (j := 0) (x := jI (j : Int)) G dX5_cutOut_34 rfl rfl ?_
        refine v_ciG (w2 := (fun _ => (gK cI b (x1, x2, x3, (i : Int)) ++ gT cB c t))) G [gK cI b (x1, x2, x3, (i : Int)), gT cB c t] [gT cB c t] [gK cI b (x1, x2, x3, (i : Int))] (fun _ => [gK cI b (x1, x2, x3, (i : Int)), gT cB c t]) (fun _ => [gT cB c t]) [1] (rn_S (As := [.ref (c 0), .int (jI (j : Int))]) (rest := []) G (c_X5_tokenEnd (s := (j : Int)) (t := t) (b := c) (ht := ht) (hs := (by omega))) gX5_cutOut_X5_tokenEnd rfl hdX5_tokenEnd ⟨rfl, rfl, Nat.le_of_ble_eq_true rfl, Nat.le_of_ble_eq_true rfl⟩ rfl rfl (Nat.le_of_ble_eq_true rfl) ⟨Nat.zero_le _, Nat.zero_le _⟩ dX5_cutOut_35) rfl rfl rfl (fun _ => rfl) (fun _ => rfl) (fun _ => rfl) (fun r_9 u_11 e_10 => ?_)
        have e_10 : r_9 = jI (te (xB t) (j : Int)) := e_10
        subst e_10
        refine v_world (ws' := (gK cI b (x1, x2, x3, (i : Int)) ++ gT cB c t)) rfl ?_
        refine v_istore_n (lv' := [(2, .int (jI (te (xB t) (j : Int)))), (3, .int (jI (j : Int))), (0, .ref (b 0)), (1, .ref (c 0))]) G dX5_cutOut_38 rfl (by decide) rfl ?_
        refine v_aload_n (j := 2) (x := b 0) G dX5_cutOut_39 rfl rfl ?_
        refine v_aload_n (j := 3) (x := c 0) G dX5_cutOut_40 rfl rfl ?_
        refine v_iload_n (j := 1) (x := jI (j : Int)) G dX5_cutOut_41 rfl rfl ?_
        refine v_iload_n (j := 0) (x := jI (te (xB t) (j : Int))) G dX5_cutOut_42 rfl rfl ?_
        refine v_ciG (w2 := (fun _ => (gK cI b (x1, x2, x3, (i : Int)) ++ gT cB c t))) G [gK cI b (x1, x2, x3, (i : Int)), gT cB c t] [gT cB c t] [gK cI b (x1, x2, x3, (i : Int))] (fun _ => [gK cI b (x1, x2, x3, (i : Int)), gT cB c t]) (fun _ => [gT cB c t]) [1] (rn_S (As := [.ref (c 0), .int (jI (j : Int)), .int (jI (te (xB t) (j : Int)))]) (rest := [.ref (b 0)]) G (c_X5_codeOf (s := (j : Int)) (z := te (xB t) (j : Int)) (t := t) (b := c) (ht := ht) (hs := (by omega)) (hz := rfl)) gX5_cutOut_X5_codeOf rfl hdX5_codeOf ⟨rfl, rfl, Nat.le_of_ble_eq_true rfl, Nat.le_of_ble_eq_true rfl⟩ rfl rfl (Nat.le_of_ble_eq_true rfl) ⟨Nat.zero_le _, Nat.zero_le _⟩ dX5_cutOut_43) rfl rfl rfl (fun _ => rfl) (fun _ => rfl) (fun _ => rfl) (fun r_12 u_14 e_13 => ?_)
        have e_13 : r_12 = jI (cdF (xB t) (j : Int)) := e_13
        subst e_13
        refine v_world (ws' := (gK cI b (x1, x2, x3, (i : Int)) ++ gT cB c t)) rfl ?_
        refine v_aload_n (j := 3) (x := c 0) G dX5_cutOut_46 rfl rfl ?_
        refine v_iload_n (j := 1) (x := jI (j : Int)) G dX5_cutOut_47 rfl rfl ?_
        refine v_iload_n (j := 0) (x := jI (te (xB t) (j : Int))) G dX5_cutOut_48 rfl rfl ?_
        refine v_ciG (w2 := (fun _ => (gK cI b (x1, x2, x3, (i : Int)) ++ gT cB c t))) G [gK cI b (x1, x2, x3, (i : Int)), gT cB c t] [gT cB c t] [gK cI b (x1, x2, x3, (i : Int))] (fun _ => [gK cI b (x1, x2, x3, (i : Int)), gT cB c t]) (fun _ => [gT cB c t]) [1] (rn_S (As := [.ref (c 0), .int (jI (j : Int)), .int (jI (te (xB t) (j : Int)))]) (rest := [.int (jI (cdF (xB t) (j : Int))), .ref (b 0)]) G (c_X5_numberOf (s := (j : Int)) (z := te (xB t) (j : Int)) (t := t) (b := c) (ht := ht) (hs := (by omega)) (hz := rfl)) gX5_cutOut_X5_numberOf rfl hdX5_numberOf ⟨rfl, rfl, Nat.le_of_ble_eq_true rfl, Nat.le_of_ble_eq_true rfl⟩ rfl rfl (Nat.le_of_ble_eq_true rfl) ⟨Nat.zero_le _, Nat.zero_le _⟩ dX5_cutOut_49) rfl rfl rfl (fun _ => rfl) (fun _ => rfl) (fun _ => rfl) (fun r_15 u_17 e_16 => ?_)
        have e_16 : r_15 = jI (vl (xB t) (j : Int)) := e_16
        subst e_16
        refine v_world (ws' := (gK cI b (x1, x2, x3, (i : Int)) ++ gT cB c t)) rfl ?_
        refine v_iload_n (j := 1) (x := jI (j : Int)) G dX5_cutOut_52 rfl rfl ?_
        refine v_cvG (w2 := (fun _ => (gK cI b (uI x1 (i : Int) (cdF (xB t) (j : Int)), uI x2 (i : Int) (vl (xB t) (j : Int)), uI x3 (i : Int) (j : Int), (i : Int) + 1) ++ gT cB c t))) G [gK cI b (x1, x2, x3, (i : Int)), gT cB c t] [gK cI b (x1, x2, x3, (i : Int))] [gT cB c t] (fun _ => [gK cI b (uI x1 (i : Int) (cdF (xB t) (j : Int)), uI x2 (i : Int) (vl (xB t) (j : Int)), uI x3 (i : Int) (j : Int), (i : Int) + 1), gT cB c t]) (fun _ => [gK cI b (uI x1 (i : Int) (cdF (xB t) (j : Int)), uI x2 (i : Int) (vl (xB t) (j : Int)), uI x3 (i : Int) (j : Int), (i : Int) + 1)]) [0] (rn_V (As := [.int (jI (cdF (xB t) (j : Int))), .int (jI (vl (xB t) (j : Int))), .int (jI (j : Int))]) (rest := []) (q0 := 0) G (c_X5_add (v := cdF (xB t) (j : Int)) (z := vl (xB t) (j : Int)) (s := (j : Int)) (tk := (x1, x2, x3, (i : Int))) (b := b) (hk := (by show 0 ≤ (i : Int) ∧ (i : Int) ≤ 120; omega))) gX5_cutOut_X5_add rfl hdX5_add ⟨rfl, rfl, Nat.le_of_ble_eq_true rfl, Nat.le_of_ble_eq_true rfl⟩ rfl rfl (Nat.le_of_ble_eq_true rfl) ⟨Nat.zero_le _, Nat.zero_le _⟩ rfl rfl dX5_cutOut_53) rfl rfl rfl (fun _ => rfl) (fun _ => rfl) (fun _ => rfl) (fun u_20 e_19 => ?_)
        refine v_world (ws' := (gK cI b (uI x1 (i : Int) (cdF (xB t) (j : Int)), uI x2 (i : Int) (vl (xB t) (j : Int)), uI x3 (i : Int) (j : Int), (i : Int) + 1) ++ gT cB c t)) rfl ?_
        refine v_world (ws' := (gK cI b (uI x1 (i : Int) (cdF (xB t) (j : Int)), uI x2 (i : Int) (vl (xB t) (j : Int)), uI x3 (i : Int) (j : Int), ((i + 1 : Nat) : Int)) ++ gT cB c t)) rfl ?_
        refine v_iinc (k := 1) (z := (j : Int)) (z' := ((j + 1 : Nat) : Int)) (lv' := [(3, .int (jI ((j + 1 : Nat) : Int))), (2, .int (jI (te (xB t) (j : Int)))), (0, .ref (b 0)), (1, .ref (c 0))]) G dX5_cutOut_56 rfl (by omega) (by decide) rfl ?_
        refine v_goto (tgt := 9) G dX5_cutOut_59 (by decide) ?_
        exact ih_2 (j + 1) (te (xB t) (j : Int)) (i + 1) (uI x1 (i : Int) (cdF (xB t) (j : Int))) (uI x2 (i : Int) (vl (xB t) (j : Int))) (uI x3 (i : Int) (j : Int)) ⟨by omega, TkI_a ht (by omega) I_1.2 (by omega) hnb⟩ (by omega)
end

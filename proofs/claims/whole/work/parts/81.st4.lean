set_option maxRecDepth 100000 in
theorem jLk_start {b : Nat} {s : State} (hts : ∀ w ∈ lw_tbl, w.before #[Value.ref b] s = true) : ∀ w ∈ jLinks, va_Nw w s := by
  intro w hw
  simp only [jLinks, List.mem_cons, List.not_mem_nil, or_false] at hw
  rcases hw with rfl | rfl | rfl | rfl | rfl | rfl | rfl | rfl | rfl | rfl | rfl | rfl | rfl | rfl | rfl | rfl | rfl <;> exact va_Nw.of rfl (hts _ (by decide +kernel))
set_option maxRecDepth 100000 in
theorem jE_start {b : Nat} {s : State} (hts : ∀ w ∈ lw_tbl, w.before #[Value.ref b] s = true) (hgv : (Jvm.Cond.and given_1 narrow_1).before #[Value.ref b] s = true) : jE (fun q : Nat => s.heap.size ≤ q) s s.heap := by
  have hs := flat_of_before _ hgv
  refine ⟨jLk_start hts, ?_, ?_, ?_, ?_⟩
  · have hr : (Cond.isRef (.static "SupperLight" "ABOVE" "[I")).before #[Value.ref b] s = true := hs _ (by decide +kernel)
    have ha : (Cond.arrayOf (.static "SupperLight" "ABOVE" "[I") .int).before #[Value.ref b] s = true := hs _ (by decide +kernel)
    obtain ⟨t, hev, hT⟩ := va_Tof (N := 6) (f := fun j => .int (jAbove j)) (tm := .static "SupperLight" "ABOVE" "[I") (A := fun q : Nat => s.heap.size ≤ q) (by decide) ha (va_eqt (hs _ (by decide +kernel))) (fun j hj => by rcases (show j = 0 ∨ j = 1 ∨ j = 2 ∨ j = 3 ∨ j = 4 ∨ j = 5 by omega) with rfl | rfl | rfl | rfl | rfl | rfl <;> exact va_eqt (hs _ (by decide +kernel))) hp_ok
    exact ⟨t, va_Zref (hts _ (by decide +kernel)) (hts _ (by decide +kernel)) hev hp_ok, hT⟩
  · exact va_Zof (hts _ (by decide +kernel)) (hts _ (by decide +kernel)) (va_eqt (hs _ (by decide +kernel))) hp_ok
  · exact va_Zqof (hts _ (by decide +kernel)) (hts _ (by decide +kernel)) (hs _ (by decide +kernel)) hp_ok
  · intro x hx
    simp only [jStrL, List.mem_cons, List.not_mem_nil, or_false] at hx
    rcases hx with rfl | rfl | rfl | rfl | rfl | rfl | rfl | rfl | rfl | rfl | rfl | rfl | rfl | rfl | rfl | rfl | rfl | rfl | rfl | rfl | rfl | rfl | rfl | rfl | rfl | rfl | rfl | rfl | rfl | rfl
    · exact jSt_0 hts hs
    · exact jSt_1 hts hs
    · exact jSt_2 hts hs
    · exact jSt_3 hts hs
    · exact jSt_4 hts hs
    · exact jSt_5 hts hs
    · exact jSt_6 hts hs
    · exact jSt_7 hts hs
    · exact jSt_8 hts hs
    · exact jSt_9 hts hs
    · exact jSt_10 hts hs
    · exact jSt_11 hts hs
    · exact jSt_12 hts hs
    · exact jSt_13 hts hs
    · exact jSt_14 hts hs
    · exact jSt_15 hts hs
    · exact jSt_16 hts hs
    · exact jSt_17 hts hs
    · exact jSt_18 hts hs
    · exact jSt_19 hts hs
    · exact jSt_20 hts hs
    · exact jSt_21 hts hs
    · exact jSt_22 hts hs
    · exact jSt_23 hts hs
    · exact jSt_24 hts hs
    · exact jSt_25 hts hs
    · exact jSt_26 hts hs
    · exact jSt_27 hts hs
    · exact jSt_28 hts hs
    · exact jSt_29 hts hs
/-- the classes and array classes as the tables have them -/
theorem ao_start {b : Nat} {s : State} (hts : ∀ w ∈ lw_tbl, w.before #[Value.ref b] s = true) : va_AO RX3 s := va_AO.of (hts (.arrayOver (.object RX3)) (by decide +kernel))
theorem va_K_start {b : Nat} {s : State} (hts : ∀ w ∈ lw_tbl, w.before #[Value.ref b] s = true) : ∃ (D : va_G) (cI cL cB cS : ClassId), va_K D vwCl (jT cI cL cB cS) s := by
  obtain ⟨c0, i0, k0⟩ := u_known (C := RX0) (T := TX0) (N := 5) (n := 5) hts in_wsX00 (hts (.instantiable RX0 5) (by decide +kernel))
  obtain ⟨c1, i1, k1⟩ := u_known (C := RX1) (T := TX1) (N := 2) (n := 2) hts in_wsX10 (hts (.instantiable RX1 2) (by decide +kernel))
  obtain ⟨c2, i2, k2⟩ := u_known (C := RX2) (T := TX2) (N := 3) (n := 3) hts in_wsX20 (hts (.instantiable RX2 3) (by decide +kernel))
  obtain ⟨c3, i3, k3⟩ := u_known (C := RX3) (T := TX3) (N := 3) (n := 3) hts in_wsX30 (hts (.instantiable RX3 3) (by decide +kernel))
  obtain ⟨c4, i4, k4⟩ := u_known (C := RX4) (T := TX4) (N := 2) (n := 2) hts in_wsX40 (hts (.instantiable RX4 2) (by decide +kernel))
  obtain ⟨c5, i5, k5⟩ := u_known (C := RX5) (T := TX5) (N := 4) (n := 4) hts in_wsX50 (hts (.instantiable RX5 4) (by decide +kernel))
  obtain ⟨c6, i6, k6⟩ := u_known (C := RX6) (T := TX6) (N := 2) (n := 2) hts in_wsX60 (hts (.instantiable RX6 2) (by decide +kernel))
  obtain ⟨c7, i7, k7⟩ := u_known (C := RX7) (T := TX7) (N := 12) (n := 12) hts in_wsX70 (hts (.instantiable RX7 12) (by decide +kernel))
  obtain ⟨c8, i8, k8⟩ := u_known (C := RX8) (T := TX8) (N := 12) (n := 12) hts in_wsX80 (hts (.instantiable RX8 12) (by decide +kernel))
  obtain ⟨c9, i9, k9⟩ := u_known (C := RX9) (T := TX9) (N := 17) (n := 17) hts in_wsX90 (hts (.instantiable RX9 17) (by decide +kernel))
  obtain ⟨cI, kI, oI, a1, a2, a3⟩ := Cond.arrayClass_spec (hts (.arrayClass .int) (by decide +kernel))
  obtain ⟨cL, kL, oL, b1, b2, b3⟩ := Cond.arrayClass_spec (hts (.arrayClass .long) (by decide +kernel))
  obtain ⟨cB, kB, oB, e1, e2, e3⟩ := Cond.arrayClass_spec (hts (.arrayClass .byte) (by decide +kernel))
  obtain ⟨oS, cS, kS, f1, -, f3, f4, f5⟩ := Cond.arrayOver_spec (hts (.arrayOver (.object RX3)) (by decide +kernel))
  refine ⟨(fun k => [c0, c1, c2, c3, c4, c5, c6, c7, c8, c9].getD k c0, fun k => [i0, i1, i2, i3, i4, i5, i6, i7, i8, i9].getD k i0), cI, cL, cB, cS, fun k q hq => ?_, fun k q hq => ?_⟩
  · match k, hq with
    | 0, hq => cases hq; exact k0
    | 1, hq => cases hq; exact k1
    | 2, hq => cases hq; exact k2
    | 3, hq => cases hq; exact k3
    | 4, hq => cases hq; exact k4
    | 5, hq => cases hq; exact k5
    | 6, hq => cases hq; exact k6
    | 7, hq => cases hq; exact k7
    | 8, hq => cases hq; exact k8
    | 9, hq => cases hq; exact k9
    | k + 10, hq => simp [vwCl] at hq
  · match k, hq with
    | 0, hq => cases hq; exact ⟨fun n z => ⟨fun k h => (by cases h), kI, a2, oI, a3⟩, a1⟩
    | 1, hq => cases hq; exact ⟨fun n z => ⟨fun k h => (by cases h), kL, b2, oL, b3⟩, b1⟩
    | 2, hq => cases hq; exact ⟨fun n z => ⟨fun k h => (by cases h), kB, e2, oB, e3⟩, e1⟩
    | 3, hq => cases hq; exact ⟨fun n z => ⟨fun k h => (by cases h), kS, f3, oS, f4⟩, kS, oS, f3, f4, f1, f5⟩
    | k + 4, hq => simp [jT] at hq
